-- P 14b
section
-- THE LAW: links and wrappers
theorem cvL_7 : fmCv "LifeDrawerLaw" 7 qX10_drawer 1 10 := ⟨⟨fm_c3 113 (by eq_refl) rfl, ni_X10, nc_X10_drawer, nd_X10_drawer, by decide⟩, nm_X10_drawer, nl_X10_drawer, _, rfl, rfl⟩
theorem cvL_15 : fmCv "LifeDrawerLaw" 15 qX10_law 1 10 := ⟨⟨fm_c4 82 (by eq_refl) rfl, ni_X10, nc_X10_law, nd_X10_law, by decide⟩, nm_X10_law, nl_X10_law, _, rfl, rfl⟩
theorem cvL_18 : fmCv "LifeDrawerLaw" 18 qX10_work 1 10 := ⟨⟨fm_c4 121 (by eq_refl) rfl, ni_X10, nc_X10_work, nd_X10_work, by decide⟩, nm_X10_work, nl_X10_work, _, rfl, rfl⟩
theorem cvL_21 : fmCv "LifeDrawerLaw" 21 qX10_page 1 10 := ⟨⟨fm_c4 178 (by eq_refl) rfl, ni_X10, nc_X10_page, nd_X10_page, by decide⟩, nm_X10_page, nl_X10_page, _, rfl, rfl⟩
theorem cvL_24 : fmCv "LifeDrawerLaw" 24 qX10_told 1 10 := ⟨⟨fm_c4 201 (by eq_refl) rfl, ni_X10, nc_X10_told, nd_X10_told, by decide⟩, nm_X10_told, nl_X10_told, _, rfl, rfl⟩
theorem cvL_27 : fmCv "LifeDrawerLaw" 27 qX10_life 2 10 := ⟨⟨fm_c4 214 (by eq_refl) rfl, ni_X10, nc_X10_life, nd_X10_life, by decide⟩, nm_X10_life, nl_X10_life, _, rfl, rfl⟩
theorem cvL_33 : fmCv "LifeDrawerLaw" 33 qX10_facts 1 10 := ⟨⟨fm_c5 3 (by eq_refl) rfl, ni_X10, nc_X10_facts, nd_X10_facts, by decide⟩, nm_X10_facts, nl_X10_facts, _, rfl, rfl⟩
theorem cvL_36 : fmCv "LifeDrawerLaw" 36 qX10_wrong 1 10 := ⟨⟨fm_c5 10 (by eq_refl) rfl, ni_X10, nc_X10_wrong, nd_X10_wrong, by decide⟩, nm_X10_wrong, nl_X10_wrong, _, rfl, rfl⟩
theorem cvL_39 : fmCv "LifeDrawerLaw" 39 qX10_would 5 10 := ⟨⟨fm_c5 18 (by eq_refl) rfl, ni_X10, nc_X10_would, nd_X10_would, by decide⟩, nm_X10_would, nl_X10_would, _, rfl, rfl⟩
theorem cvL_43 : fmCv "LifeDrawerLaw" 43 qX10_loss 1 10 := ⟨⟨fm_c5 26 (by eq_refl) rfl, ni_X10, nc_X10_loss, nd_X10_loss, by decide⟩, nm_X10_loss, nl_X10_loss, _, rfl, rfl⟩
theorem cvL_47 : fmCv "LifeDrawerLaw" 47 qX10_cost 2 10 := ⟨⟨fm_c5 41 (by eq_refl) rfl, ni_X10, nc_X10_cost, nd_X10_cost, by decide⟩, nm_X10_cost, nl_X10_cost, _, rfl, rfl⟩
theorem cvL_51 : fmCv "LifeDrawerLaw" 51 qX10_risk 1 10 := ⟨⟨fm_c5 49 (by eq_refl) rfl, ni_X10, nc_X10_risk, nd_X10_risk, by decide⟩, nm_X10_risk, nl_X10_risk, _, rfl, rfl⟩
theorem cvL_54 : fmCv "LifeDrawerLaw" 54 qX10_saves 2 10 := ⟨⟨fm_c5 57 (by eq_refl) rfl, ni_X10, nc_X10_saves, nd_X10_saves, by decide⟩, nm_X10_saves, nl_X10_saves, _, rfl, rfl⟩
theorem cvL_57 : fmCv "LifeDrawerLaw" 57 qX10_stale 1 10 := ⟨⟨fm_c5 66 (by eq_refl) rfl, ni_X10, nc_X10_stale, nd_X10_stale, by decide⟩, nm_X10_stale, nl_X10_stale, _, rfl, rfl⟩
theorem cvL_60 : fmCv "LifeDrawerLaw" 60 qX10_best 2 10 := ⟨⟨fm_c5 77 (by eq_refl) rfl, ni_X10, nc_X10_best, nd_X10_best, by decide⟩, nm_X10_best, nl_X10_best, _, rfl, rfl⟩
theorem cvL_63 : fmCv "LifeDrawerLaw" 63 qX10_bestIn 2 10 := ⟨⟨fm_c5 128 (by eq_refl) rfl, ni_X10, nc_X10_bestIn, nd_X10_bestIn, by decide⟩, nm_X10_bestIn, nl_X10_bestIn, _, rfl, rfl⟩
theorem cvL_66 : fmCv "LifeDrawerLaw" 66 qX10_often 2 10 := ⟨⟨fm_c5 139 (by eq_refl) rfl, ni_X10, nc_X10_often, nd_X10_often, by decide⟩, nm_X10_often, nl_X10_often, _, rfl, rfl⟩
theorem cvL_69 : fmCv "LifeDrawerLaw" 69 qX10_yearly 4 10 := ⟨⟨fm_c5 154 (by eq_refl) rfl, ni_X10, nc_X10_yearly, nd_X10_yearly, by decide⟩, nm_X10_yearly, nl_X10_yearly, _, rfl, rfl⟩
theorem cvL_73 : fmCv "LifeDrawerLaw" 73 qX10_brings 6 10 := ⟨⟨fm_c5 161 (by eq_refl) rfl, ni_X10, nc_X10_brings, nd_X10_brings, by decide⟩, nm_X10_brings, nl_X10_brings, _, rfl, rfl⟩
theorem cvL_77 : fmCv "LifeDrawerLaw" 77 qX10_says 5 10 := ⟨⟨fm_c5 175 (by eq_refl) rfl, ni_X10, nc_X10_says, nd_X10_says, by decide⟩, nm_X10_says, nl_X10_says, _, rfl, rfl⟩
theorem cvL_80 : fmCv "LifeDrawerLaw" 80 qX10_line 4 10 := ⟨⟨fm_c5 185 (by eq_refl) rfl, ni_X10, nc_X10_line, nd_X10_line, by decide⟩, nm_X10_line, nl_X10_line, _, rfl, rfl⟩
theorem cvL_84 : fmCv "LifeDrawerLaw" 84 qX10_room 2 10 := ⟨⟨fm_c5 192 (by eq_refl) rfl, ni_X10, nc_X10_room, nd_X10_room, by decide⟩, nm_X10_room, nl_X10_room, _, rfl, rfl⟩
theorem cvL_87 : fmCv "LifeDrawerLaw" 87 qX10_lines 3 10 := ⟨⟨fm_c5 222 (by eq_refl) rfl, ni_X10, nc_X10_lines, nd_X10_lines, by decide⟩, nm_X10_lines, nl_X10_lines, _, rfl, rfl⟩
theorem cvL_91 : fmCv "LifeDrawerLaw" 91 qX10_apart 2 10 := ⟨⟨fm_c5 229 (by eq_refl) rfl, ni_X10, nc_X10_apart, nd_X10_apart, by decide⟩, nm_X10_apart, nl_X10_apart, _, rfl, rfl⟩
theorem cvL_94 : fmCv "LifeDrawerLaw" 94 qX10_written 1 10 := ⟨⟨fm_c6 0 (by eq_refl) rfl, ni_X10, nc_X10_written, nd_X10_written, by decide⟩, nm_X10_written, nl_X10_written, _, rfl, rfl⟩
theorem cvL_97 : fmCv "LifeDrawerLaw" 97 qX10_ahead 2 10 := ⟨⟨fm_c6 7 (by eq_refl) rfl, ni_X10, nc_X10_ahead, nd_X10_ahead, by decide⟩, nm_X10_ahead, nl_X10_ahead, _, rfl, rfl⟩
theorem cvL_100 : fmCv "LifeDrawerLaw" 100 qX10_lives 3 10 := ⟨⟨fm_c6 14 (by eq_refl) rfl, ni_X10, nc_X10_lives, nd_X10_lives, by decide⟩, nm_X10_lives, nl_X10_lives, _, rfl, rfl⟩
theorem cvL_104 : fmCv "LifeDrawerLaw" 104 qX10_chain 2 10 := ⟨⟨fm_c6 21 (by eq_refl) rfl, ni_X10, nc_X10_chain, nd_X10_chain, by decide⟩, nm_X10_chain, nl_X10_chain, _, rfl, rfl⟩
theorem cvL_107 : fmCv "LifeDrawerLaw" 107 qX10_due 2 10 := ⟨⟨fm_c6 28 (by eq_refl) rfl, ni_X10, nc_X10_due, nd_X10_due, by decide⟩, nm_X10_due, nl_X10_due, _, rfl, rfl⟩
theorem cvL_110 : fmCv "LifeDrawerLaw" 110 qX10_news 1 10 := ⟨⟨fm_c6 35 (by eq_refl) rfl, ni_X10, nc_X10_news, nd_X10_news, by decide⟩, nm_X10_news, nl_X10_news, _, rfl, rfl⟩
theorem cvL_113 : fmCv "LifeDrawerLaw" 113 qX10_expects 3 10 := ⟨⟨fm_c6 46 (by eq_refl) rfl, ni_X10, nc_X10_expects, nd_X10_expects, by decide⟩, nm_X10_expects, nl_X10_expects, _, rfl, rfl⟩
theorem cvL_116 : fmCv "LifeDrawerLaw" 116 qX10_years 3 10 := ⟨⟨fm_c6 54 (by eq_refl) rfl, ni_X10, nc_X10_years, nd_X10_years, by decide⟩, nm_X10_years, nl_X10_years, _, rfl, rfl⟩
theorem cvL_119 : fmCv "LifeDrawerLaw" 119 qX10_span 5 10 := ⟨⟨fm_c6 85 (by eq_refl) rfl, ni_X10, nc_X10_span, nd_X10_span, by decide⟩, nm_X10_span, nl_X10_span, _, rfl, rfl⟩
theorem cvL_126 : fmCv "LifeDrawerLaw" 126 qX10_feed 5 10 := ⟨⟨fm_c2 179 (by eq_refl) rfl, ni_X10, nc_X10_feed, nd_X10_feed, by decide⟩, nm_X10_feed, nl_X10_feed, _, rfl, rfl⟩
theorem cvL_129 : fmCv "LifeDrawerLaw" 129 qX11_feed 5 11 := ⟨⟨fm_c7 16 (by eq_refl) rfl, ni_X11, nc_X11_feed, nd_X11_feed, by decide⟩, nm_X11_feed, nl_X11_feed, _, rfl, rfl⟩
theorem cvL_135 : fmCv "LifeDrawerLaw" 135 qX11_drawer 1 11 := ⟨⟨fm_c7 20 (by eq_refl) rfl, ni_X11, nc_X11_drawer, nd_X11_drawer, by decide⟩, nm_X11_drawer, nl_X11_drawer, _, rfl, rfl⟩
theorem cvL_138 : fmCv "LifeDrawerLaw" 138 qX11_law 1 11 := ⟨⟨fm_c7 93 (by eq_refl) rfl, ni_X11, nc_X11_law, nd_X11_law, by decide⟩, nm_X11_law, nl_X11_law, _, rfl, rfl⟩
theorem cvL_141 : fmCv "LifeDrawerLaw" 141 qX11_work 1 11 := ⟨⟨fm_c7 140 (by eq_refl) rfl, ni_X11, nc_X11_work, nd_X11_work, by decide⟩, nm_X11_work, nl_X11_work, _, rfl, rfl⟩
theorem cvL_144 : fmCv "LifeDrawerLaw" 144 qX11_page 1 11 := ⟨⟨fm_c7 129 (by eq_refl) rfl, ni_X11, nc_X11_page, nd_X11_page, by decide⟩, nm_X11_page, nl_X11_page, _, rfl, rfl⟩
theorem cvL_145 : fmCv "LifeDrawerLaw" 145 qX10_fault 0 10 := ⟨⟨fm_c2 187 (by eq_refl) rfl, ni_X10, nc_X10_fault, nd_X10_fault, by decide⟩, nm_X10_fault, nl_X10_fault, _, rfl, rfl⟩
theorem cvL_149 : fmCv "LifeDrawerLaw" 149 qX11_fault 0 11 := ⟨⟨fm_c7 136 (by eq_refl) rfl, ni_X11, nc_X11_fault, nd_X11_fault, by decide⟩, nm_X11_fault, nl_X11_fault, _, rfl, rfl⟩
theorem cvL_150 : fmCv "LifeDrawerLaw" 150 qX10_undo 0 10 := ⟨⟨fm_c2 191 (by eq_refl) rfl, ni_X10, nc_X10_undo, nd_X10_undo, by decide⟩, nm_X10_undo, nl_X10_undo, _, rfl, rfl⟩
theorem cvL_153 : fmCv "LifeDrawerLaw" 153 qX11_undo 0 11 := ⟨⟨fm_c7 231 (by eq_refl) rfl, ni_X11, nc_X11_undo, nd_X11_undo, by decide⟩, nm_X11_undo, nl_X11_undo, _, rfl, rfl⟩
theorem cvL_156 : fmCv "LifeDrawerLaw" 156 qX11_told 1 11 := ⟨⟨fm_c7 235 (by eq_refl) rfl, ni_X11, nc_X11_told, nd_X11_told, by decide⟩, nm_X11_told, nl_X11_told, _, rfl, rfl⟩
theorem cvL_160 : fmCv "LifeDrawerLaw" 160 qX11_life 2 11 := ⟨⟨fm_c8 3 (by eq_refl) rfl, ni_X11, nc_X11_life, nd_X11_life, by decide⟩, nm_X11_life, nl_X11_life, _, rfl, rfl⟩
theorem cvL_163 : fmCv "LifeDrawerLaw" 163 qX11_facts 1 11 := ⟨⟨fm_c8 11 (by eq_refl) rfl, ni_X11, nc_X11_facts, nd_X11_facts, by decide⟩, nm_X11_facts, nl_X11_facts, _, rfl, rfl⟩
theorem cvL_166 : fmCv "LifeDrawerLaw" 166 qX11_wrong 1 11 := ⟨⟨fm_c8 19 (by eq_refl) rfl, ni_X11, nc_X11_wrong, nd_X11_wrong, by decide⟩, nm_X11_wrong, nl_X11_wrong, _, rfl, rfl⟩
theorem cvL_170 : fmCv "LifeDrawerLaw" 170 qX11_would 5 11 := ⟨⟨fm_c8 27 (by eq_refl) rfl, ni_X11, nc_X11_would, nd_X11_would, by decide⟩, nm_X11_would, nl_X11_would, _, rfl, rfl⟩
theorem cvL_173 : fmCv "LifeDrawerLaw" 173 qX11_loss 1 11 := ⟨⟨fm_c8 31 (by eq_refl) rfl, ni_X11, nc_X11_loss, nd_X11_loss, by decide⟩, nm_X11_loss, nl_X11_loss, _, rfl, rfl⟩
theorem cvL_176 : fmCv "LifeDrawerLaw" 176 qX11_cost 2 11 := ⟨⟨fm_c8 43 (by eq_refl) rfl, ni_X11, nc_X11_cost, nd_X11_cost, by decide⟩, nm_X11_cost, nl_X11_cost, _, rfl, rfl⟩
theorem cvL_179 : fmCv "LifeDrawerLaw" 179 qX11_risk 1 11 := ⟨⟨fm_c8 47 (by eq_refl) rfl, ni_X11, nc_X11_risk, nd_X11_risk, by decide⟩, nm_X11_risk, nl_X11_risk, _, rfl, rfl⟩
theorem cvL_182 : fmCv "LifeDrawerLaw" 182 qX11_saves 2 11 := ⟨⟨fm_c8 56 (by eq_refl) rfl, ni_X11, nc_X11_saves, nd_X11_saves, by decide⟩, nm_X11_saves, nl_X11_saves, _, rfl, rfl⟩
theorem cvL_183 : fmCv "LifeDrawerLaw" 183 qX10_first 0 10 := ⟨⟨fm_c2 228 (by eq_refl) rfl, ni_X10, nc_X10_first, nd_X10_first, by decide⟩, nm_X10_first, nl_X10_first, _, rfl, rfl⟩
theorem cvL_186 : fmCv "LifeDrawerLaw" 186 qX11_first 0 11 := ⟨⟨fm_c8 64 (by eq_refl) rfl, ni_X11, nc_X11_first, nd_X11_first, by decide⟩, nm_X11_first, nl_X11_first, _, rfl, rfl⟩
theorem cvL_187 : fmCv "LifeDrawerLaw" 187 qX10_lacking 0 10 := ⟨⟨fm_c2 207 (by eq_refl) rfl, ni_X10, nc_X10_lacking, nd_X10_lacking, by decide⟩, nm_X10_lacking, nl_X10_lacking, _, rfl, rfl⟩
theorem cvL_190 : fmCv "LifeDrawerLaw" 190 qX11_lacking 0 11 := ⟨⟨fm_c8 72 (by eq_refl) rfl, ni_X11, nc_X11_lacking, nd_X11_lacking, by decide⟩, nm_X11_lacking, nl_X11_lacking, _, rfl, rfl⟩
theorem cvL_191 : fmCv "LifeDrawerLaw" 191 qX10_signed 0 10 := ⟨⟨fm_c2 215 (by eq_refl) rfl, ni_X10, nc_X10_signed, nd_X10_signed, by decide⟩, nm_X10_signed, nl_X10_signed, _, rfl, rfl⟩
theorem cvL_194 : fmCv "LifeDrawerLaw" 194 qX11_signed 0 11 := ⟨⟨fm_c8 76 (by eq_refl) rfl, ni_X11, nc_X11_signed, nd_X11_signed, by decide⟩, nm_X11_signed, nl_X11_signed, _, rfl, rfl⟩
theorem cvL_197 : fmCv "LifeDrawerLaw" 197 qX11_stale 1 11 := ⟨⟨fm_c8 80 (by eq_refl) rfl, ni_X11, nc_X11_stale, nd_X11_stale, by decide⟩, nm_X11_stale, nl_X11_stale, _, rfl, rfl⟩
theorem cvL_200 : fmCv "LifeDrawerLaw" 200 qX11_best 2 11 := ⟨⟨fm_c8 84 (by eq_refl) rfl, ni_X11, nc_X11_best, nd_X11_best, by decide⟩, nm_X11_best, nl_X11_best, _, rfl, rfl⟩
theorem cvL_203 : fmCv "LifeDrawerLaw" 203 qX11_bestIn 2 11 := ⟨⟨fm_c8 107 (by eq_refl) rfl, ni_X11, nc_X11_bestIn, nd_X11_bestIn, by decide⟩, nm_X11_bestIn, nl_X11_bestIn, _, rfl, rfl⟩
theorem cvL_206 : fmCv "LifeDrawerLaw" 206 qX11_often 2 11 := ⟨⟨fm_c8 112 (by eq_refl) rfl, ni_X11, nc_X11_often, nd_X11_often, by decide⟩, nm_X11_often, nl_X11_often, _, rfl, rfl⟩
theorem cvL_210 : fmCv "LifeDrawerLaw" 210 qX11_yearly 4 11 := ⟨⟨fm_c8 120 (by eq_refl) rfl, ni_X11, nc_X11_yearly, nd_X11_yearly, by decide⟩, nm_X11_yearly, nl_X11_yearly, _, rfl, rfl⟩
theorem cvL_214 : fmCv "LifeDrawerLaw" 214 qX11_brings 6 11 := ⟨⟨fm_c8 124 (by eq_refl) rfl, ni_X11, nc_X11_brings, nd_X11_brings, by decide⟩, nm_X11_brings, nl_X11_brings, _, rfl, rfl⟩
theorem cvL_217 : fmCv "LifeDrawerLaw" 217 qX11_says 5 11 := ⟨⟨fm_c8 134 (by eq_refl) rfl, ni_X11, nc_X11_says, nd_X11_says, by decide⟩, nm_X11_says, nl_X11_says, _, rfl, rfl⟩
theorem cvL_220 : fmCv "LifeDrawerLaw" 220 qX11_line 4 11 := ⟨⟨fm_c8 141 (by eq_refl) rfl, ni_X11, nc_X11_line, nd_X11_line, by decide⟩, nm_X11_line, nl_X11_line, _, rfl, rfl⟩
theorem cvL_223 : fmCv "LifeDrawerLaw" 223 qX11_room 2 11 := ⟨⟨fm_c8 145 (by eq_refl) rfl, ni_X11, nc_X11_room, nd_X11_room, by decide⟩, nm_X11_room, nl_X11_room, _, rfl, rfl⟩
theorem cvL_227 : fmCv "LifeDrawerLaw" 227 qX11_lines 3 11 := ⟨⟨fm_c8 161 (by eq_refl) rfl, ni_X11, nc_X11_lines, nd_X11_lines, by decide⟩, nm_X11_lines, nl_X11_lines, _, rfl, rfl⟩
theorem cvL_230 : fmCv "LifeDrawerLaw" 230 qX11_apart 2 11 := ⟨⟨fm_c8 165 (by eq_refl) rfl, ni_X11, nc_X11_apart, nd_X11_apart, by decide⟩, nm_X11_apart, nl_X11_apart, _, rfl, rfl⟩
theorem cvL_231 : fmCv "LifeDrawerLaw" 231 qX10_twins 0 10 := ⟨⟨fm_c3 65 (by eq_refl) rfl, ni_X10, nc_X10_twins, nd_X10_twins, by decide⟩, nm_X10_twins, nl_X10_twins, _, rfl, rfl⟩
theorem cvL_234 : fmCv "LifeDrawerLaw" 234 qX11_twins 0 11 := ⟨⟨fm_c8 176 (by eq_refl) rfl, ni_X11, nc_X11_twins, nd_X11_twins, by decide⟩, nm_X11_twins, nl_X11_twins, _, rfl, rfl⟩
theorem cvL_237 : fmCv "LifeDrawerLaw" 237 qX11_written 1 11 := ⟨⟨fm_c8 180 (by eq_refl) rfl, ni_X11, nc_X11_written, nd_X11_written, by decide⟩, nm_X11_written, nl_X11_written, _, rfl, rfl⟩
theorem cvL_238 : fmCv "LifeDrawerLaw" 238 qX10_whose 0 10 := ⟨⟨fm_c3 77 (by eq_refl) rfl, ni_X10, nc_X10_whose, nd_X10_whose, by decide⟩, nm_X10_whose, nl_X10_whose, _, rfl, rfl⟩
theorem cvL_241 : fmCv "LifeDrawerLaw" 241 qX11_whose 0 11 := ⟨⟨fm_c8 188 (by eq_refl) rfl, ni_X11, nc_X11_whose, nd_X11_whose, by decide⟩, nm_X11_whose, nl_X11_whose, _, rfl, rfl⟩
theorem cvL_244 : fmCv "LifeDrawerLaw" 244 qX11_ahead 2 11 := ⟨⟨fm_c8 192 (by eq_refl) rfl, ni_X11, nc_X11_ahead, nd_X11_ahead, by decide⟩, nm_X11_ahead, nl_X11_ahead, _, rfl, rfl⟩
theorem cvL_247 : fmCv "LifeDrawerLaw" 247 qX11_lives 3 11 := ⟨⟨fm_c8 204 (by eq_refl) rfl, ni_X11, nc_X11_lives, nd_X11_lives, by decide⟩, nm_X11_lives, nl_X11_lives, _, rfl, rfl⟩
theorem cvL_248 : fmCv "LifeDrawerLaw" 248 qX10_oldest 0 10 := ⟨⟨fm_c2 224 (by eq_refl) rfl, ni_X10, nc_X10_oldest, nd_X10_oldest, by decide⟩, nm_X10_oldest, nl_X10_oldest, _, rfl, rfl⟩
theorem cvL_251 : fmCv "LifeDrawerLaw" 251 qX11_oldest 0 11 := ⟨⟨fm_c8 208 (by eq_refl) rfl, ni_X11, nc_X11_oldest, nd_X11_oldest, by decide⟩, nm_X11_oldest, nl_X11_oldest, _, rfl, rfl⟩
theorem cvL_254 : fmCv "LifeDrawerLaw" 254 qX11_chain 2 11 := ⟨⟨fm_c8 212 (by eq_refl) rfl, ni_X11, nc_X11_chain, nd_X11_chain, by decide⟩, nm_X11_chain, nl_X11_chain, _, rfl, rfl⟩
theorem cvL_257 : fmCv "LifeDrawerLaw" 257 qX11_due 2 11 := ⟨⟨fm_c8 216 (by eq_refl) rfl, ni_X11, nc_X11_due, nd_X11_due, by decide⟩, nm_X11_due, nl_X11_due, _, rfl, rfl⟩
theorem cvL_260 : fmCv "LifeDrawerLaw" 260 qX11_news 1 11 := ⟨⟨fm_c8 220 (by eq_refl) rfl, ni_X11, nc_X11_news, nd_X11_news, by decide⟩, nm_X11_news, nl_X11_news, _, rfl, rfl⟩
theorem cvL_263 : fmCv "LifeDrawerLaw" 263 qX11_expects 3 11 := ⟨⟨fm_c8 224 (by eq_refl) rfl, ni_X11, nc_X11_expects, nd_X11_expects, by decide⟩, nm_X11_expects, nl_X11_expects, _, rfl, rfl⟩
theorem cvL_264 : fmCv "LifeDrawerLaw" 264 qX10_worst 0 10 := ⟨⟨fm_c3 51 (by eq_refl) rfl, ni_X10, nc_X10_worst, nd_X10_worst, by decide⟩, nm_X10_worst, nl_X10_worst, _, rfl, rfl⟩
theorem cvL_267 : fmCv "LifeDrawerLaw" 267 qX11_worst 0 11 := ⟨⟨fm_c8 200 (by eq_refl) rfl, ni_X11, nc_X11_worst, nd_X11_worst, by decide⟩, nm_X11_worst, nl_X11_worst, _, rfl, rfl⟩
theorem cvL_270 : fmCv "LifeDrawerLaw" 270 qX11_years 3 11 := ⟨⟨fm_c8 228 (by eq_refl) rfl, ni_X11, nc_X11_years, nd_X11_years, by decide⟩, nm_X11_years, nl_X11_years, _, rfl, rfl⟩
theorem cvL_273 : fmCv "LifeDrawerLaw" 273 qX11_span 5 11 := ⟨⟨fm_c8 237 (by eq_refl) rfl, ni_X11, nc_X11_span, nd_X11_span, by decide⟩, nm_X11_span, nl_X11_span, _, rfl, rfl⟩
theorem cvL_274 : fmCv "LifeDrawerLaw" 274 qX10_image 0 10 := ⟨⟨fm_c3 89 (by eq_refl) rfl, ni_X10, nc_X10_image, nd_X10_image, by decide⟩, nm_X10_image, nl_X10_image, _, rfl, rfl⟩
theorem cvL_277 : fmCv "LifeDrawerLaw" 277 qX11_image 0 11 := ⟨⟨fm_c9 1 (by eq_refl) rfl, ni_X11, nc_X11_image, nd_X11_image, by decide⟩, nm_X11_image, nl_X11_image, _, rfl, rfl⟩
theorem cvL_278 : fmCv "LifeDrawerLaw" 278 qX10_restore 0 10 := ⟨⟨fm_c3 97 (by eq_refl) rfl, ni_X10, nc_X10_restore, nd_X10_restore, by decide⟩, nm_X10_restore, nl_X10_restore, _, rfl, rfl⟩
theorem cvL_281 : fmCv "LifeDrawerLaw" 281 qX11_restore 0 11 := ⟨⟨fm_c9 13 (by eq_refl) rfl, ni_X11, nc_X11_restore, nd_X11_restore, by decide⟩, nm_X11_restore, nl_X11_restore, _, rfl, rfl⟩
theorem cvL_282 : fmCv "LifeDrawerLaw" 282 qX10_status 1 10 := ⟨⟨fm_c3 101 (by eq_refl) rfl, ni_X10, nc_X10_status, nd_X10_status, by decide⟩, nm_X10_status, nl_X10_status, _, rfl, rfl⟩
theorem cvL_285 : fmCv "LifeDrawerLaw" 285 qX11_status 1 11 := ⟨⟨fm_c9 17 (by eq_refl) rfl, ni_X11, nc_X11_status, nd_X11_status, by decide⟩, nm_X11_status, nl_X11_status, _, rfl, rfl⟩
theorem cvL_286 : fmCv "LifeDrawerLaw" 286 qX10_count 1 10 := ⟨⟨fm_c3 105 (by eq_refl) rfl, ni_X10, nc_X10_count, nd_X10_count, by decide⟩, nm_X10_count, nl_X10_count, _, rfl, rfl⟩
theorem cvL_289 : fmCv "LifeDrawerLaw" 289 qX11_count 1 11 := ⟨⟨fm_c9 21 (by eq_refl) rfl, ni_X11, nc_X11_count, nd_X11_count, by decide⟩, nm_X11_count, nl_X11_count, _, rfl, rfl⟩
theorem niL : Cond.initialized "LifeDrawerLaw" ∈ fmWs := (fm_c1 0 (by eq_refl) rfl)
theorem clL_13 : Cond.classLink "LifeDrawerLaw" 13 "java/lang/IllegalArgumentException" ∈ fmWs := (fm_c3 112 (by eq_refl) rfl)
theorem clL_31 : Cond.classLink "LifeDrawerLaw" 31 "java/util/NoSuchElementException" ∈ fmWs := (fm_c4 213 (by eq_refl) rfl)
/-- the class's cells, then 'out', then the rest -/
def WX (G : fmG) (g : Nat → Nat) (o : Nat) (Rs : va_W) (u : fmM × (Nat → Int64)) : va_W := fmL Tx (g, G.2) u.1 ++ ((o, .inl (G.2.2.1 1, 1, .inr (.inl u.2))) :: Rs)
def wI (f : Nat → Int64) (Q : Int32 → fmM × (Nat → Int64) → Prop) (X : String → fmM → Prop) : fmR → fmM → Prop := fun o M' => match o with
  | .inl (some (.int v)) => Q 0 (M', vp_updL f 0 v.toInt64)
  | .inr E => X E M'
  | _ => False
def wJ (f : Nat → Int64) (Q : Int32 → fmM × (Nat → Int64) → Prop) (X : String → fmM → Prop) : fmR → fmM → Prop := fun o M' => match o with
  | .inl (some (.long v)) => Q 0 (M', vp_updL f 0 v)
  | .inr E => X E M'
  | _ => False
theorem wI_to {f : Nat → Int64} {Q : Int32 → fmM × (Nat → Int64) → Prop} {X : String → fmM → Prop} {G : fmG} {o : fmR} {M' : fmM} (h : wI f Q X o M') : wI f Q X (pvTo G o) M' := by
  rcases o with v | E
  · rcases v with _ | v
    · exact h
    · cases v <;> first | exact h | exact False.elim h
  · exact h
theorem wJ_to {f : Nat → Int64} {Q : Int32 → fmM × (Nat → Int64) → Prop} {X : String → fmM → Prop} {G : fmG} {o : fmR} {M' : fmM} (h : wJ f Q X o M') : wJ f Q X (pvTo G o) M' := by
  rcases o with v | E
  · rcases v with _ | v
    · exact h
    · cases v <;> first | exact h | exact False.elim h
  · exact h
theorem z_then1 {p : Program} {l : Launch} {e : Env} {R : Room} {s : State} {m : MethodId} {args : Array Value} {below : List Frame} {meth : Method} {c : Code} {G : fmG} {A : Nat → Prop} {nL : Nat} {Z : State → Prop} {pc : Nat} {L : List (Option Value)} {st : List Value} {ws : va_W} {cu su : Nat} {v : Value} (h : zEv p l e R s m args below meth c G A nL Z pc L (v :: st) ws cu su) : zEv p l e R s m args below meth c G A nL Z pc L ((some v).toList ++ st) ws cu su := h
noncomputable abbrev dlL_drawer : List (Nat × Instr × Nat) := [(0, .aload_n 2, 1), (1, .iconst 0, 1), (2, .aload_n 0, 1), (3, .iload_n 1, 1), (4, .invokevirtual 7, 3), (7, .i2l, 1), (8, .lastore, 1), (9, .goto 6, 3), (12, .astore_n 3, 1), (13, .iconst 1, 1), (14, .ireturn, 1), (15, .iconst 0, 1), (16, .ireturn, 1)]
theorem dtL_drawer : fmDec cL_drawer dlL_drawer = true := by decide +kernel
abbrev qL_drawer : fmY := (yL_drawer, cL_drawer, 4, some .int)
theorem nw_L_drawer : Cond.codeWith yL_drawer cL_drawer 4 (some .int) [(0, 9, 12, 13)] ∈ fmWs := (fm_c3 111 (by eq_refl) rfl)
theorem nst_L_drawer : Cond.static yL_drawer ∈ fmWs := (fm_c3 110 (by eq_refl) rfl)
theorem nd_L_drawer : yL_drawer.cls ≠ "java/lang/invoke/MethodHandle" ∧ yL_drawer.cls ≠ "java/lang/invoke/VarHandle" ∧ (parseMethodDescriptor yL_drawer.desc).map (fun d => d.parameters.length) = some 3 := by decide +kernel
set_option maxRecDepth 20000 in
theorem w_drawer {l : Launch} {G : fmG} {g : Nat → Nat} {M : fmM} {f : Nat → Int64} {o : Nat} {Rs : va_W} {Q : Int32 → fmM × (Nat → Int64) → Prop} {p0 : Int32} (hst : l.stackTraces = false) (hp : pvGood Tx 250 qX10_drawer [.ref 0, .int p0] M (wI f Q (fun E M' => (E = fmIAE ∧ Q 1 (M', f))))) : zGood l G qL_drawer [(0, 9, 12, 13)] [.ref (g 0), .int p0, .ref o] (WX G g o Rs (M, f)) (WX G g o Rs) Q := by
  have hx : fmGood Tx l (g, G.2) 250 qX10_drawer [.ref (g 0), .int p0] M (wI f Q (fun E M' => (E = fmIAE ∧ Q 1 (M', f)))) := fmGood.imp (pvGood.fm hst (by decide) (by decide +kernel) hp) (fun o9 M9 h9 => by obtain ⟨o', rfl, h8⟩ := h9; exact wI_to h8)
  refine zGood_of (by decide +kernel) rfl (Nat.le_of_ble_eq_true rfl) ?_
  intro p e s m args below meth c A hF htab hr hlocks
  show zEv p l e (lwRm 300 1 6) s m args below meth c G A 4 _ 0 [some (.ref (g 0)), some (.int p0), some (.ref o), none] [] (WX G g o Rs (M, f)) 0 0
  refine z_aloadn hF (pc := 0) (n := 2) 2 rfl rfl (fm_dec dtL_drawer 0 rfl) ?_
  refine z_iconst hF (pc := 1) (v := 0) (by decide) (fm_dec dtL_drawer 1 rfl) ?_
  refine z_aloadn hF (pc := 2) (n := 0) 0 rfl rfl (fm_dec dtL_drawer 2 rfl) ?_
  refine z_iloadn hF (pc := 3) (n := 1) 1 rfl rfl (fm_dec dtL_drawer 3 rfl) ?_
  refine z_callX hF (T := Tx) (g := g) (M := M) (rest := (o, .inl (G.2.2.1 1, 1, .inr (.inl f))) :: Rs) (k := 0) (ci := 10) (d' := 250) (pc := 4) (As := [.int p0]) (st := [.int 0, .ref o]) cvL_7 (by decide) rfl rfl rfl (Nat.le_of_ble_eq_true rfl) (by decide) (by decide) (by decide) (by decide) (fm_dec dtL_drawer 4 rfl) (fmGood.imp hx (fun o9 M' h => ?_))
  rcases o9 with v | E
  · rcases v with _ | v
    · exact False.elim h
    · cases v with
      | int v =>
        refine z_then1 ?_
        refine z_i2l hF (pc := 7) (fm_dec dtL_drawer 5 rfl) ?_
        refine z_last hF (pc := 8) (w0 := fmL Tx (g, G.2) M') (w1 := Rs) (fm_dec dtL_drawer 6 rfl) ?_
        refine z_goto hF (pc := 9) 15 (by decide) (fm_dec dtL_drawer 7 rfl) ?_
        refine z_iconst hF (pc := 15) (v := 0) (by decide) (fm_dec dtL_drawer 11 rfl) ?_
        exact z_iret hF (pc := 16) (WW := WX G g o Rs) (M', vp_updL f 0 v.toInt64) hr hlocks (by decide) (by decide) (fm_dec dtL_drawer 12 rfl) h
      | _ => exact False.elim h
  · obtain ⟨rfl, h⟩ := h
    refine z_catch hF (name := fmIAE) [] ⟨0, 9, 12, 13⟩ [] (by rw [htab]; rfl) (fun z hz => by cases hz) (by decide) (by decide) clL_13 hF.2.2.2.2.2.1.1.2.2.2.1.1 (fun q => ?_)
    refine z_astoren hF (pc := 12) (n := 3) 3 rfl (by decide) rfl (fm_dec dtL_drawer 8 rfl) ?_
    refine z_iconst hF (pc := 13) (v := 1) (by decide) (fm_dec dtL_drawer 9 rfl) ?_
    exact z_iret hF (pc := 14) (WW := WX G g o Rs) (M', f) hr hlocks (by decide) (by decide) (fm_dec dtL_drawer 10 rfl) h
noncomputable abbrev dlL_law : List (Nat × Instr × Nat) := [(0, .aload_n 2, 1), (1, .iconst 0, 1), (2, .aload_n 0, 1), (3, .iload_n 1, 1), (4, .invokevirtual 15, 3), (7, .i2l, 1), (8, .lastore, 1), (9, .goto 6, 3), (12, .astore_n 3, 1), (13, .iconst 1, 1), (14, .ireturn, 1), (15, .iconst 0, 1), (16, .ireturn, 1)]
theorem dtL_law : fmDec cL_law dlL_law = true := by decide +kernel
abbrev qL_law : fmY := (yL_law, cL_law, 4, some .int)
theorem nw_L_law : Cond.codeWith yL_law cL_law 4 (some .int) [(0, 9, 12, 13)] ∈ fmWs := (fm_c4 81 (by eq_refl) rfl)
theorem nst_L_law : Cond.static yL_law ∈ fmWs := (fm_c4 80 (by eq_refl) rfl)
theorem nd_L_law : yL_law.cls ≠ "java/lang/invoke/MethodHandle" ∧ yL_law.cls ≠ "java/lang/invoke/VarHandle" ∧ (parseMethodDescriptor yL_law.desc).map (fun d => d.parameters.length) = some 3 := by decide +kernel
set_option maxRecDepth 20000 in
theorem w_law {l : Launch} {G : fmG} {g : Nat → Nat} {M : fmM} {f : Nat → Int64} {o : Nat} {Rs : va_W} {Q : Int32 → fmM × (Nat → Int64) → Prop} {p0 : Int32} (hst : l.stackTraces = false) (hp : pvGood Tx 250 qX10_law [.ref 0, .int p0] M (wI f Q (fun E M' => (E = fmIAE ∧ Q 1 (M', f))))) : zGood l G qL_law [(0, 9, 12, 13)] [.ref (g 0), .int p0, .ref o] (WX G g o Rs (M, f)) (WX G g o Rs) Q := by
  have hx : fmGood Tx l (g, G.2) 250 qX10_law [.ref (g 0), .int p0] M (wI f Q (fun E M' => (E = fmIAE ∧ Q 1 (M', f)))) := fmGood.imp (pvGood.fm hst (by decide) (by decide +kernel) hp) (fun o9 M9 h9 => by obtain ⟨o', rfl, h8⟩ := h9; exact wI_to h8)
  refine zGood_of (by decide +kernel) rfl (Nat.le_of_ble_eq_true rfl) ?_
  intro p e s m args below meth c A hF htab hr hlocks
  show zEv p l e (lwRm 300 1 6) s m args below meth c G A 4 _ 0 [some (.ref (g 0)), some (.int p0), some (.ref o), none] [] (WX G g o Rs (M, f)) 0 0
  refine z_aloadn hF (pc := 0) (n := 2) 2 rfl rfl (fm_dec dtL_law 0 rfl) ?_
  refine z_iconst hF (pc := 1) (v := 0) (by decide) (fm_dec dtL_law 1 rfl) ?_
  refine z_aloadn hF (pc := 2) (n := 0) 0 rfl rfl (fm_dec dtL_law 2 rfl) ?_
  refine z_iloadn hF (pc := 3) (n := 1) 1 rfl rfl (fm_dec dtL_law 3 rfl) ?_
  refine z_callX hF (T := Tx) (g := g) (M := M) (rest := (o, .inl (G.2.2.1 1, 1, .inr (.inl f))) :: Rs) (k := 0) (ci := 10) (d' := 250) (pc := 4) (As := [.int p0]) (st := [.int 0, .ref o]) cvL_15 (by decide) rfl rfl rfl (Nat.le_of_ble_eq_true rfl) (by decide) (by decide) (by decide) (by decide) (fm_dec dtL_law 4 rfl) (fmGood.imp hx (fun o9 M' h => ?_))
  rcases o9 with v | E
  · rcases v with _ | v
    · exact False.elim h
    · cases v with
      | int v =>
        refine z_then1 ?_
        refine z_i2l hF (pc := 7) (fm_dec dtL_law 5 rfl) ?_
        refine z_last hF (pc := 8) (w0 := fmL Tx (g, G.2) M') (w1 := Rs) (fm_dec dtL_law 6 rfl) ?_
        refine z_goto hF (pc := 9) 15 (by decide) (fm_dec dtL_law 7 rfl) ?_
        refine z_iconst hF (pc := 15) (v := 0) (by decide) (fm_dec dtL_law 11 rfl) ?_
        exact z_iret hF (pc := 16) (WW := WX G g o Rs) (M', vp_updL f 0 v.toInt64) hr hlocks (by decide) (by decide) (fm_dec dtL_law 12 rfl) h
      | _ => exact False.elim h
  · obtain ⟨rfl, h⟩ := h
    refine z_catch hF (name := fmIAE) [] ⟨0, 9, 12, 13⟩ [] (by rw [htab]; rfl) (fun z hz => by cases hz) (by decide) (by decide) clL_13 hF.2.2.2.2.2.1.1.2.2.2.1.1 (fun q => ?_)
    refine z_astoren hF (pc := 12) (n := 3) 3 rfl (by decide) rfl (fm_dec dtL_law 8 rfl) ?_
    refine z_iconst hF (pc := 13) (v := 1) (by decide) (fm_dec dtL_law 9 rfl) ?_
    exact z_iret hF (pc := 14) (WW := WX G g o Rs) (M', f) hr hlocks (by decide) (by decide) (fm_dec dtL_law 10 rfl) h
noncomputable abbrev dlL_work : List (Nat × Instr × Nat) := [(0, .aload_n 2, 1), (1, .iconst 0, 1), (2, .aload_n 0, 1), (3, .iload_n 1, 1), (4, .invokevirtual 18, 3), (7, .i2l, 1), (8, .lastore, 1), (9, .goto 6, 3), (12, .astore_n 3, 1), (13, .iconst 1, 1), (14, .ireturn, 1), (15, .iconst 0, 1), (16, .ireturn, 1)]
theorem dtL_work : fmDec cL_work dlL_work = true := by decide +kernel
abbrev qL_work : fmY := (yL_work, cL_work, 4, some .int)
theorem nw_L_work : Cond.codeWith yL_work cL_work 4 (some .int) [(0, 9, 12, 13)] ∈ fmWs := (fm_c4 120 (by eq_refl) rfl)
theorem nst_L_work : Cond.static yL_work ∈ fmWs := (fm_c4 119 (by eq_refl) rfl)
theorem nd_L_work : yL_work.cls ≠ "java/lang/invoke/MethodHandle" ∧ yL_work.cls ≠ "java/lang/invoke/VarHandle" ∧ (parseMethodDescriptor yL_work.desc).map (fun d => d.parameters.length) = some 3 := by decide +kernel
set_option maxRecDepth 20000 in
theorem w_work {l : Launch} {G : fmG} {g : Nat → Nat} {M : fmM} {f : Nat → Int64} {o : Nat} {Rs : va_W} {Q : Int32 → fmM × (Nat → Int64) → Prop} {p0 : Int32} (hst : l.stackTraces = false) (hp : pvGood Tx 250 qX10_work [.ref 0, .int p0] M (wI f Q (fun E M' => (E = fmIAE ∧ Q 1 (M', f))))) : zGood l G qL_work [(0, 9, 12, 13)] [.ref (g 0), .int p0, .ref o] (WX G g o Rs (M, f)) (WX G g o Rs) Q := by
  have hx : fmGood Tx l (g, G.2) 250 qX10_work [.ref (g 0), .int p0] M (wI f Q (fun E M' => (E = fmIAE ∧ Q 1 (M', f)))) := fmGood.imp (pvGood.fm hst (by decide) (by decide +kernel) hp) (fun o9 M9 h9 => by obtain ⟨o', rfl, h8⟩ := h9; exact wI_to h8)
  refine zGood_of (by decide +kernel) rfl (Nat.le_of_ble_eq_true rfl) ?_
  intro p e s m args below meth c A hF htab hr hlocks
  show zEv p l e (lwRm 300 1 6) s m args below meth c G A 4 _ 0 [some (.ref (g 0)), some (.int p0), some (.ref o), none] [] (WX G g o Rs (M, f)) 0 0
  refine z_aloadn hF (pc := 0) (n := 2) 2 rfl rfl (fm_dec dtL_work 0 rfl) ?_
  refine z_iconst hF (pc := 1) (v := 0) (by decide) (fm_dec dtL_work 1 rfl) ?_
  refine z_aloadn hF (pc := 2) (n := 0) 0 rfl rfl (fm_dec dtL_work 2 rfl) ?_
  refine z_iloadn hF (pc := 3) (n := 1) 1 rfl rfl (fm_dec dtL_work 3 rfl) ?_
  refine z_callX hF (T := Tx) (g := g) (M := M) (rest := (o, .inl (G.2.2.1 1, 1, .inr (.inl f))) :: Rs) (k := 0) (ci := 10) (d' := 250) (pc := 4) (As := [.int p0]) (st := [.int 0, .ref o]) cvL_18 (by decide) rfl rfl rfl (Nat.le_of_ble_eq_true rfl) (by decide) (by decide) (by decide) (by decide) (fm_dec dtL_work 4 rfl) (fmGood.imp hx (fun o9 M' h => ?_))
  rcases o9 with v | E
  · rcases v with _ | v
    · exact False.elim h
    · cases v with
      | int v =>
        refine z_then1 ?_
        refine z_i2l hF (pc := 7) (fm_dec dtL_work 5 rfl) ?_
        refine z_last hF (pc := 8) (w0 := fmL Tx (g, G.2) M') (w1 := Rs) (fm_dec dtL_work 6 rfl) ?_
        refine z_goto hF (pc := 9) 15 (by decide) (fm_dec dtL_work 7 rfl) ?_
        refine z_iconst hF (pc := 15) (v := 0) (by decide) (fm_dec dtL_work 11 rfl) ?_
        exact z_iret hF (pc := 16) (WW := WX G g o Rs) (M', vp_updL f 0 v.toInt64) hr hlocks (by decide) (by decide) (fm_dec dtL_work 12 rfl) h
      | _ => exact False.elim h
  · obtain ⟨rfl, h⟩ := h
    refine z_catch hF (name := fmIAE) [] ⟨0, 9, 12, 13⟩ [] (by rw [htab]; rfl) (fun z hz => by cases hz) (by decide) (by decide) clL_13 hF.2.2.2.2.2.1.1.2.2.2.1.1 (fun q => ?_)
    refine z_astoren hF (pc := 12) (n := 3) 3 rfl (by decide) rfl (fm_dec dtL_work 8 rfl) ?_
    refine z_iconst hF (pc := 13) (v := 1) (by decide) (fm_dec dtL_work 9 rfl) ?_
    exact z_iret hF (pc := 14) (WW := WX G g o Rs) (M', f) hr hlocks (by decide) (by decide) (fm_dec dtL_work 10 rfl) h
noncomputable abbrev dlL_page : List (Nat × Instr × Nat) := [(0, .aload_n 2, 1), (1, .iconst 0, 1), (2, .aload_n 0, 1), (3, .iload_n 1, 1), (4, .invokevirtual 21, 3), (7, .i2l, 1), (8, .lastore, 1), (9, .goto 6, 3), (12, .astore_n 3, 1), (13, .iconst 1, 1), (14, .ireturn, 1), (15, .iconst 0, 1), (16, .ireturn, 1)]
theorem dtL_page : fmDec cL_page dlL_page = true := by decide +kernel
abbrev qL_page : fmY := (yL_page, cL_page, 4, some .int)
theorem nw_L_page : Cond.codeWith yL_page cL_page 4 (some .int) [(0, 9, 12, 13)] ∈ fmWs := (fm_c4 177 (by eq_refl) rfl)
theorem nst_L_page : Cond.static yL_page ∈ fmWs := (fm_c4 176 (by eq_refl) rfl)
theorem nd_L_page : yL_page.cls ≠ "java/lang/invoke/MethodHandle" ∧ yL_page.cls ≠ "java/lang/invoke/VarHandle" ∧ (parseMethodDescriptor yL_page.desc).map (fun d => d.parameters.length) = some 3 := by decide +kernel
set_option maxRecDepth 20000 in
theorem w_page {l : Launch} {G : fmG} {g : Nat → Nat} {M : fmM} {f : Nat → Int64} {o : Nat} {Rs : va_W} {Q : Int32 → fmM × (Nat → Int64) → Prop} {p0 : Int32} (hst : l.stackTraces = false) (hp : pvGood Tx 250 qX10_page [.ref 0, .int p0] M (wI f Q (fun E M' => (E = fmIAE ∧ Q 1 (M', f))))) : zGood l G qL_page [(0, 9, 12, 13)] [.ref (g 0), .int p0, .ref o] (WX G g o Rs (M, f)) (WX G g o Rs) Q := by
  have hx : fmGood Tx l (g, G.2) 250 qX10_page [.ref (g 0), .int p0] M (wI f Q (fun E M' => (E = fmIAE ∧ Q 1 (M', f)))) := fmGood.imp (pvGood.fm hst (by decide) (by decide +kernel) hp) (fun o9 M9 h9 => by obtain ⟨o', rfl, h8⟩ := h9; exact wI_to h8)
  refine zGood_of (by decide +kernel) rfl (Nat.le_of_ble_eq_true rfl) ?_
  intro p e s m args below meth c A hF htab hr hlocks
  show zEv p l e (lwRm 300 1 6) s m args below meth c G A 4 _ 0 [some (.ref (g 0)), some (.int p0), some (.ref o), none] [] (WX G g o Rs (M, f)) 0 0
  refine z_aloadn hF (pc := 0) (n := 2) 2 rfl rfl (fm_dec dtL_page 0 rfl) ?_
  refine z_iconst hF (pc := 1) (v := 0) (by decide) (fm_dec dtL_page 1 rfl) ?_
  refine z_aloadn hF (pc := 2) (n := 0) 0 rfl rfl (fm_dec dtL_page 2 rfl) ?_
  refine z_iloadn hF (pc := 3) (n := 1) 1 rfl rfl (fm_dec dtL_page 3 rfl) ?_
  refine z_callX hF (T := Tx) (g := g) (M := M) (rest := (o, .inl (G.2.2.1 1, 1, .inr (.inl f))) :: Rs) (k := 0) (ci := 10) (d' := 250) (pc := 4) (As := [.int p0]) (st := [.int 0, .ref o]) cvL_21 (by decide) rfl rfl rfl (Nat.le_of_ble_eq_true rfl) (by decide) (by decide) (by decide) (by decide) (fm_dec dtL_page 4 rfl) (fmGood.imp hx (fun o9 M' h => ?_))
  rcases o9 with v | E
  · rcases v with _ | v
    · exact False.elim h
    · cases v with
      | int v =>
        refine z_then1 ?_
        refine z_i2l hF (pc := 7) (fm_dec dtL_page 5 rfl) ?_
        refine z_last hF (pc := 8) (w0 := fmL Tx (g, G.2) M') (w1 := Rs) (fm_dec dtL_page 6 rfl) ?_
        refine z_goto hF (pc := 9) 15 (by decide) (fm_dec dtL_page 7 rfl) ?_
        refine z_iconst hF (pc := 15) (v := 0) (by decide) (fm_dec dtL_page 11 rfl) ?_
        exact z_iret hF (pc := 16) (WW := WX G g o Rs) (M', vp_updL f 0 v.toInt64) hr hlocks (by decide) (by decide) (fm_dec dtL_page 12 rfl) h
      | _ => exact False.elim h
  · obtain ⟨rfl, h⟩ := h
    refine z_catch hF (name := fmIAE) [] ⟨0, 9, 12, 13⟩ [] (by rw [htab]; rfl) (fun z hz => by cases hz) (by decide) (by decide) clL_13 hF.2.2.2.2.2.1.1.2.2.2.1.1 (fun q => ?_)
    refine z_astoren hF (pc := 12) (n := 3) 3 rfl (by decide) rfl (fm_dec dtL_page 8 rfl) ?_
    refine z_iconst hF (pc := 13) (v := 1) (by decide) (fm_dec dtL_page 9 rfl) ?_
    exact z_iret hF (pc := 14) (WW := WX G g o Rs) (M', f) hr hlocks (by decide) (by decide) (fm_dec dtL_page 10 rfl) h
noncomputable abbrev dlL_told : List (Nat × Instr × Nat) := [(0, .aload_n 2, 1), (1, .iconst 0, 1), (2, .aload_n 0, 1), (3, .iload_n 1, 1), (4, .invokevirtual 24, 3), (7, .i2l, 1), (8, .lastore, 1), (9, .goto 6, 3), (12, .astore_n 3, 1), (13, .iconst 1, 1), (14, .ireturn, 1), (15, .iconst 0, 1), (16, .ireturn, 1)]
theorem dtL_told : fmDec cL_told dlL_told = true := by decide +kernel
abbrev qL_told : fmY := (yL_told, cL_told, 4, some .int)
theorem nw_L_told : Cond.codeWith yL_told cL_told 4 (some .int) [(0, 9, 12, 13)] ∈ fmWs := (fm_c4 200 (by eq_refl) rfl)
theorem nst_L_told : Cond.static yL_told ∈ fmWs := (fm_c4 199 (by eq_refl) rfl)
theorem nd_L_told : yL_told.cls ≠ "java/lang/invoke/MethodHandle" ∧ yL_told.cls ≠ "java/lang/invoke/VarHandle" ∧ (parseMethodDescriptor yL_told.desc).map (fun d => d.parameters.length) = some 3 := by decide +kernel
set_option maxRecDepth 20000 in
theorem w_told {l : Launch} {G : fmG} {g : Nat → Nat} {M : fmM} {f : Nat → Int64} {o : Nat} {Rs : va_W} {Q : Int32 → fmM × (Nat → Int64) → Prop} {p0 : Int32} (hst : l.stackTraces = false) (hp : pvGood Tx 250 qX10_told [.ref 0, .int p0] M (wI f Q (fun E M' => (E = fmIAE ∧ Q 1 (M', f))))) : zGood l G qL_told [(0, 9, 12, 13)] [.ref (g 0), .int p0, .ref o] (WX G g o Rs (M, f)) (WX G g o Rs) Q := by
  have hx : fmGood Tx l (g, G.2) 250 qX10_told [.ref (g 0), .int p0] M (wI f Q (fun E M' => (E = fmIAE ∧ Q 1 (M', f)))) := fmGood.imp (pvGood.fm hst (by decide) (by decide +kernel) hp) (fun o9 M9 h9 => by obtain ⟨o', rfl, h8⟩ := h9; exact wI_to h8)
  refine zGood_of (by decide +kernel) rfl (Nat.le_of_ble_eq_true rfl) ?_
  intro p e s m args below meth c A hF htab hr hlocks
  show zEv p l e (lwRm 300 1 6) s m args below meth c G A 4 _ 0 [some (.ref (g 0)), some (.int p0), some (.ref o), none] [] (WX G g o Rs (M, f)) 0 0
  refine z_aloadn hF (pc := 0) (n := 2) 2 rfl rfl (fm_dec dtL_told 0 rfl) ?_
  refine z_iconst hF (pc := 1) (v := 0) (by decide) (fm_dec dtL_told 1 rfl) ?_
  refine z_aloadn hF (pc := 2) (n := 0) 0 rfl rfl (fm_dec dtL_told 2 rfl) ?_
  refine z_iloadn hF (pc := 3) (n := 1) 1 rfl rfl (fm_dec dtL_told 3 rfl) ?_
  refine z_callX hF (T := Tx) (g := g) (M := M) (rest := (o, .inl (G.2.2.1 1, 1, .inr (.inl f))) :: Rs) (k := 0) (ci := 10) (d' := 250) (pc := 4) (As := [.int p0]) (st := [.int 0, .ref o]) cvL_24 (by decide) rfl rfl rfl (Nat.le_of_ble_eq_true rfl) (by decide) (by decide) (by decide) (by decide) (fm_dec dtL_told 4 rfl) (fmGood.imp hx (fun o9 M' h => ?_))
  rcases o9 with v | E
  · rcases v with _ | v
    · exact False.elim h
    · cases v with
      | int v =>
        refine z_then1 ?_
        refine z_i2l hF (pc := 7) (fm_dec dtL_told 5 rfl) ?_
        refine z_last hF (pc := 8) (w0 := fmL Tx (g, G.2) M') (w1 := Rs) (fm_dec dtL_told 6 rfl) ?_
        refine z_goto hF (pc := 9) 15 (by decide) (fm_dec dtL_told 7 rfl) ?_
        refine z_iconst hF (pc := 15) (v := 0) (by decide) (fm_dec dtL_told 11 rfl) ?_
        exact z_iret hF (pc := 16) (WW := WX G g o Rs) (M', vp_updL f 0 v.toInt64) hr hlocks (by decide) (by decide) (fm_dec dtL_told 12 rfl) h
      | _ => exact False.elim h
  · obtain ⟨rfl, h⟩ := h
    refine z_catch hF (name := fmIAE) [] ⟨0, 9, 12, 13⟩ [] (by rw [htab]; rfl) (fun z hz => by cases hz) (by decide) (by decide) clL_13 hF.2.2.2.2.2.1.1.2.2.2.1.1 (fun q => ?_)
    refine z_astoren hF (pc := 12) (n := 3) 3 rfl (by decide) rfl (fm_dec dtL_told 8 rfl) ?_
    refine z_iconst hF (pc := 13) (v := 1) (by decide) (fm_dec dtL_told 9 rfl) ?_
    exact z_iret hF (pc := 14) (WW := WX G g o Rs) (M', f) hr hlocks (by decide) (by decide) (fm_dec dtL_told 10 rfl) h
noncomputable abbrev dlL_life : List (Nat × Instr × Nat) := [(0, .aload_n 3, 1), (1, .iconst 0, 1), (2, .aload_n 0, 1), (3, .iload_n 1, 1), (4, .iload_n 2, 1), (5, .invokevirtual 27, 3), (8, .i2l, 1), (9, .lastore, 1), (10, .goto 11, 3), (13, .astore 4, 2), (15, .iconst 1, 1), (16, .ireturn, 1), (17, .astore 4, 2), (19, .iconst 2, 1), (20, .ireturn, 1), (21, .iconst 0, 1), (22, .ireturn, 1)]
theorem dtL_life : fmDec cL_life dlL_life = true := by decide +kernel
abbrev qL_life : fmY := (yL_life, cL_life, 5, some .int)
theorem nw_L_life : Cond.codeWith yL_life cL_life 5 (some .int) [(0, 10, 13, 31), (0, 10, 17, 13)] ∈ fmWs := (fm_c4 212 (by eq_refl) rfl)
theorem nst_L_life : Cond.static yL_life ∈ fmWs := (fm_c4 211 (by eq_refl) rfl)
theorem nd_L_life : yL_life.cls ≠ "java/lang/invoke/MethodHandle" ∧ yL_life.cls ≠ "java/lang/invoke/VarHandle" ∧ (parseMethodDescriptor yL_life.desc).map (fun d => d.parameters.length) = some 4 := by decide +kernel
set_option maxRecDepth 20000 in
theorem w_life {l : Launch} {G : fmG} {g : Nat → Nat} {M : fmM} {f : Nat → Int64} {o : Nat} {Rs : va_W} {Q : Int32 → fmM × (Nat → Int64) → Prop} {p0 p1 : Int32} (hst : l.stackTraces = false) (hp : pvGood Tx 250 qX10_life [.ref 0, .int p0, .int p1] M (wI f Q (fun E M' => (E = fmNSE ∧ Q 1 (M', f)) ∨ (E = fmIAE ∧ Q 2 (M', f))))) : zGood l G qL_life [(0, 10, 13, 31), (0, 10, 17, 13)] [.ref (g 0), .int p0, .int p1, .ref o] (WX G g o Rs (M, f)) (WX G g o Rs) Q := by
  have hx : fmGood Tx l (g, G.2) 250 qX10_life [.ref (g 0), .int p0, .int p1] M (wI f Q (fun E M' => (E = fmNSE ∧ Q 1 (M', f)) ∨ (E = fmIAE ∧ Q 2 (M', f)))) := fmGood.imp (pvGood.fm hst (by decide) (by decide +kernel) hp) (fun o9 M9 h9 => by obtain ⟨o', rfl, h8⟩ := h9; exact wI_to h8)
  refine zGood_of (by decide +kernel) rfl (Nat.le_of_ble_eq_true rfl) ?_
  intro p e s m args below meth c A hF htab hr hlocks
  show zEv p l e (lwRm 300 1 6) s m args below meth c G A 5 _ 0 [some (.ref (g 0)), some (.int p0), some (.int p1), some (.ref o), none] [] (WX G g o Rs (M, f)) 0 0
  refine z_aloadn hF (pc := 0) (n := 3) 3 rfl rfl (fm_dec dtL_life 0 rfl) ?_
  refine z_iconst hF (pc := 1) (v := 0) (by decide) (fm_dec dtL_life 1 rfl) ?_
  refine z_aloadn hF (pc := 2) (n := 0) 0 rfl rfl (fm_dec dtL_life 2 rfl) ?_
  refine z_iloadn hF (pc := 3) (n := 1) 1 rfl rfl (fm_dec dtL_life 3 rfl) ?_
  refine z_iloadn hF (pc := 4) (n := 2) 2 rfl rfl (fm_dec dtL_life 4 rfl) ?_
  refine z_callX hF (T := Tx) (g := g) (M := M) (rest := (o, .inl (G.2.2.1 1, 1, .inr (.inl f))) :: Rs) (k := 0) (ci := 10) (d' := 250) (pc := 5) (As := [.int p0, .int p1]) (st := [.int 0, .ref o]) cvL_27 (by decide) rfl rfl rfl (Nat.le_of_ble_eq_true rfl) (by decide) (by decide) (by decide) (by decide) (fm_dec dtL_life 5 rfl) (fmGood.imp hx (fun o9 M' h => ?_))
  rcases o9 with v | E
  · rcases v with _ | v
    · exact False.elim h
    · cases v with
      | int v =>
        refine z_then1 ?_
        refine z_i2l hF (pc := 8) (fm_dec dtL_life 6 rfl) ?_
        refine z_last hF (pc := 9) (w0 := fmL Tx (g, G.2) M') (w1 := Rs) (fm_dec dtL_life 7 rfl) ?_
        refine z_goto hF (pc := 10) 21 (by decide) (fm_dec dtL_life 8 rfl) ?_
        refine z_iconst hF (pc := 21) (v := 0) (by decide) (fm_dec dtL_life 15 rfl) ?_
        exact z_iret hF (pc := 22) (WW := WX G g o Rs) (M', vp_updL f 0 v.toInt64) hr hlocks (by decide) (by decide) (fm_dec dtL_life 16 rfl) h
      | _ => exact False.elim h
  · rcases h with ⟨rfl, h⟩ | ⟨rfl, h⟩
    · refine z_catch hF (name := fmNSE) [] ⟨0, 10, 13, 31⟩ [⟨0, 10, 17, 13⟩] (by rw [htab]; rfl) (fun z hz => by cases hz) (by decide) (by decide) clL_31 hF.2.2.2.2.2.1.1.2.2.2.1.2.1 (fun q => ?_)
      refine z_astore hF (pc := 13) (i := 4) (by decide) rfl (fm_dec dtL_life 9 rfl) ?_
      refine z_iconst hF (pc := 15) (v := 1) (by decide) (fm_dec dtL_life 10 rfl) ?_
      exact z_iret hF (pc := 16) (WW := WX G g o Rs) (M', f) hr hlocks (by decide) (by decide) (fm_dec dtL_life 11 rfl) h
    · refine z_catch hF (name := fmIAE) [⟨0, 10, 13, 31⟩] ⟨0, 10, 17, 13⟩ [] (by rw [htab]; rfl) (fun z hz => by rcases List.mem_cons.mp hz with rfl | hz; exact Or.inr ⟨by decide, _, clL_31, hF.2.2.2.2.2.1.1.2.2.2.1.2.2.1⟩; cases hz) (by decide) (by decide) clL_13 hF.2.2.2.2.2.1.1.2.2.2.1.1 (fun q => ?_)
      refine z_astore hF (pc := 17) (i := 4) (by decide) rfl (fm_dec dtL_life 12 rfl) ?_
      refine z_iconst hF (pc := 19) (v := 2) (by decide) (fm_dec dtL_life 13 rfl) ?_
      exact z_iret hF (pc := 20) (WW := WX G g o Rs) (M', f) hr hlocks (by decide) (by decide) (fm_dec dtL_life 14 rfl) h
noncomputable abbrev dlL_facts : List (Nat × Instr × Nat) := [(0, .aload_n 2, 1), (1, .iconst 0, 1), (2, .aload_n 0, 1), (3, .iload_n 1, 1), (4, .invokevirtual 33, 3), (7, .i2l, 1), (8, .lastore, 1), (9, .goto 6, 3), (12, .astore_n 3, 1), (13, .iconst 1, 1), (14, .ireturn, 1), (15, .iconst 0, 1), (16, .ireturn, 1)]
theorem dtL_facts : fmDec cL_facts dlL_facts = true := by decide +kernel
abbrev qL_facts : fmY := (yL_facts, cL_facts, 4, some .int)
theorem nw_L_facts : Cond.codeWith yL_facts cL_facts 4 (some .int) [(0, 9, 12, 31)] ∈ fmWs := (fm_c5 2 (by eq_refl) rfl)
theorem nst_L_facts : Cond.static yL_facts ∈ fmWs := (fm_c5 1 (by eq_refl) rfl)
theorem nd_L_facts : yL_facts.cls ≠ "java/lang/invoke/MethodHandle" ∧ yL_facts.cls ≠ "java/lang/invoke/VarHandle" ∧ (parseMethodDescriptor yL_facts.desc).map (fun d => d.parameters.length) = some 3 := by decide +kernel
set_option maxRecDepth 20000 in
theorem w_facts {l : Launch} {G : fmG} {g : Nat → Nat} {M : fmM} {f : Nat → Int64} {o : Nat} {Rs : va_W} {Q : Int32 → fmM × (Nat → Int64) → Prop} {p0 : Int32} (hst : l.stackTraces = false) (hp : pvGood Tx 250 qX10_facts [.ref 0, .int p0] M (wI f Q (fun E M' => (E = fmNSE ∧ Q 1 (M', f))))) : zGood l G qL_facts [(0, 9, 12, 31)] [.ref (g 0), .int p0, .ref o] (WX G g o Rs (M, f)) (WX G g o Rs) Q := by
  have hx : fmGood Tx l (g, G.2) 250 qX10_facts [.ref (g 0), .int p0] M (wI f Q (fun E M' => (E = fmNSE ∧ Q 1 (M', f)))) := fmGood.imp (pvGood.fm hst (by decide) (by decide +kernel) hp) (fun o9 M9 h9 => by obtain ⟨o', rfl, h8⟩ := h9; exact wI_to h8)
  refine zGood_of (by decide +kernel) rfl (Nat.le_of_ble_eq_true rfl) ?_
  intro p e s m args below meth c A hF htab hr hlocks
  show zEv p l e (lwRm 300 1 6) s m args below meth c G A 4 _ 0 [some (.ref (g 0)), some (.int p0), some (.ref o), none] [] (WX G g o Rs (M, f)) 0 0
  refine z_aloadn hF (pc := 0) (n := 2) 2 rfl rfl (fm_dec dtL_facts 0 rfl) ?_
  refine z_iconst hF (pc := 1) (v := 0) (by decide) (fm_dec dtL_facts 1 rfl) ?_
  refine z_aloadn hF (pc := 2) (n := 0) 0 rfl rfl (fm_dec dtL_facts 2 rfl) ?_
  refine z_iloadn hF (pc := 3) (n := 1) 1 rfl rfl (fm_dec dtL_facts 3 rfl) ?_
  refine z_callX hF (T := Tx) (g := g) (M := M) (rest := (o, .inl (G.2.2.1 1, 1, .inr (.inl f))) :: Rs) (k := 0) (ci := 10) (d' := 250) (pc := 4) (As := [.int p0]) (st := [.int 0, .ref o]) cvL_33 (by decide) rfl rfl rfl (Nat.le_of_ble_eq_true rfl) (by decide) (by decide) (by decide) (by decide) (fm_dec dtL_facts 4 rfl) (fmGood.imp hx (fun o9 M' h => ?_))
  rcases o9 with v | E
  · rcases v with _ | v
    · exact False.elim h
    · cases v with
      | int v =>
        refine z_then1 ?_
        refine z_i2l hF (pc := 7) (fm_dec dtL_facts 5 rfl) ?_
        refine z_last hF (pc := 8) (w0 := fmL Tx (g, G.2) M') (w1 := Rs) (fm_dec dtL_facts 6 rfl) ?_
        refine z_goto hF (pc := 9) 15 (by decide) (fm_dec dtL_facts 7 rfl) ?_
        refine z_iconst hF (pc := 15) (v := 0) (by decide) (fm_dec dtL_facts 11 rfl) ?_
        exact z_iret hF (pc := 16) (WW := WX G g o Rs) (M', vp_updL f 0 v.toInt64) hr hlocks (by decide) (by decide) (fm_dec dtL_facts 12 rfl) h
      | _ => exact False.elim h
  · obtain ⟨rfl, h⟩ := h
    refine z_catch hF (name := fmNSE) [] ⟨0, 9, 12, 31⟩ [] (by rw [htab]; rfl) (fun z hz => by cases hz) (by decide) (by decide) clL_31 hF.2.2.2.2.2.1.1.2.2.2.1.2.1 (fun q => ?_)
    refine z_astoren hF (pc := 12) (n := 3) 3 rfl (by decide) rfl (fm_dec dtL_facts 8 rfl) ?_
    refine z_iconst hF (pc := 13) (v := 1) (by decide) (fm_dec dtL_facts 9 rfl) ?_
    exact z_iret hF (pc := 14) (WW := WX G g o Rs) (M', f) hr hlocks (by decide) (by decide) (fm_dec dtL_facts 10 rfl) h
noncomputable abbrev dlL_wrong : List (Nat × Instr × Nat) := [(0, .aload_n 2, 1), (1, .iconst 0, 1), (2, .aload_n 0, 1), (3, .iload_n 1, 1), (4, .invokevirtual 36, 3), (7, .i2l, 1), (8, .lastore, 1), (9, .goto 6, 3), (12, .astore_n 3, 1), (13, .iconst 1, 1), (14, .ireturn, 1), (15, .iconst 0, 1), (16, .ireturn, 1)]
theorem dtL_wrong : fmDec cL_wrong dlL_wrong = true := by decide +kernel
abbrev qL_wrong : fmY := (yL_wrong, cL_wrong, 4, some .int)
theorem nw_L_wrong : Cond.codeWith yL_wrong cL_wrong 4 (some .int) [(0, 9, 12, 31)] ∈ fmWs := (fm_c5 9 (by eq_refl) rfl)
theorem nst_L_wrong : Cond.static yL_wrong ∈ fmWs := (fm_c5 8 (by eq_refl) rfl)
theorem nd_L_wrong : yL_wrong.cls ≠ "java/lang/invoke/MethodHandle" ∧ yL_wrong.cls ≠ "java/lang/invoke/VarHandle" ∧ (parseMethodDescriptor yL_wrong.desc).map (fun d => d.parameters.length) = some 3 := by decide +kernel
set_option maxRecDepth 20000 in
theorem w_wrong {l : Launch} {G : fmG} {g : Nat → Nat} {M : fmM} {f : Nat → Int64} {o : Nat} {Rs : va_W} {Q : Int32 → fmM × (Nat → Int64) → Prop} {p0 : Int32} (hst : l.stackTraces = false) (hp : pvGood Tx 250 qX10_wrong [.ref 0, .int p0] M (wI f Q (fun E M' => (E = fmNSE ∧ Q 1 (M', f))))) : zGood l G qL_wrong [(0, 9, 12, 31)] [.ref (g 0), .int p0, .ref o] (WX G g o Rs (M, f)) (WX G g o Rs) Q := by
  have hx : fmGood Tx l (g, G.2) 250 qX10_wrong [.ref (g 0), .int p0] M (wI f Q (fun E M' => (E = fmNSE ∧ Q 1 (M', f)))) := fmGood.imp (pvGood.fm hst (by decide) (by decide +kernel) hp) (fun o9 M9 h9 => by obtain ⟨o', rfl, h8⟩ := h9; exact wI_to h8)
  refine zGood_of (by decide +kernel) rfl (Nat.le_of_ble_eq_true rfl) ?_
  intro p e s m args below meth c A hF htab hr hlocks
  show zEv p l e (lwRm 300 1 6) s m args below meth c G A 4 _ 0 [some (.ref (g 0)), some (.int p0), some (.ref o), none] [] (WX G g o Rs (M, f)) 0 0
  refine z_aloadn hF (pc := 0) (n := 2) 2 rfl rfl (fm_dec dtL_wrong 0 rfl) ?_
  refine z_iconst hF (pc := 1) (v := 0) (by decide) (fm_dec dtL_wrong 1 rfl) ?_
  refine z_aloadn hF (pc := 2) (n := 0) 0 rfl rfl (fm_dec dtL_wrong 2 rfl) ?_
  refine z_iloadn hF (pc := 3) (n := 1) 1 rfl rfl (fm_dec dtL_wrong 3 rfl) ?_
  refine z_callX hF (T := Tx) (g := g) (M := M) (rest := (o, .inl (G.2.2.1 1, 1, .inr (.inl f))) :: Rs) (k := 0) (ci := 10) (d' := 250) (pc := 4) (As := [.int p0]) (st := [.int 0, .ref o]) cvL_36 (by decide) rfl rfl rfl (Nat.le_of_ble_eq_true rfl) (by decide) (by decide) (by decide) (by decide) (fm_dec dtL_wrong 4 rfl) (fmGood.imp hx (fun o9 M' h => ?_))
  rcases o9 with v | E
  · rcases v with _ | v
    · exact False.elim h
    · cases v with
      | int v =>
        refine z_then1 ?_
        refine z_i2l hF (pc := 7) (fm_dec dtL_wrong 5 rfl) ?_
        refine z_last hF (pc := 8) (w0 := fmL Tx (g, G.2) M') (w1 := Rs) (fm_dec dtL_wrong 6 rfl) ?_
        refine z_goto hF (pc := 9) 15 (by decide) (fm_dec dtL_wrong 7 rfl) ?_
        refine z_iconst hF (pc := 15) (v := 0) (by decide) (fm_dec dtL_wrong 11 rfl) ?_
        exact z_iret hF (pc := 16) (WW := WX G g o Rs) (M', vp_updL f 0 v.toInt64) hr hlocks (by decide) (by decide) (fm_dec dtL_wrong 12 rfl) h
      | _ => exact False.elim h
  · obtain ⟨rfl, h⟩ := h
    refine z_catch hF (name := fmNSE) [] ⟨0, 9, 12, 31⟩ [] (by rw [htab]; rfl) (fun z hz => by cases hz) (by decide) (by decide) clL_31 hF.2.2.2.2.2.1.1.2.2.2.1.2.1 (fun q => ?_)
    refine z_astoren hF (pc := 12) (n := 3) 3 rfl (by decide) rfl (fm_dec dtL_wrong 8 rfl) ?_
    refine z_iconst hF (pc := 13) (v := 1) (by decide) (fm_dec dtL_wrong 9 rfl) ?_
    exact z_iret hF (pc := 14) (WW := WX G g o Rs) (M', f) hr hlocks (by decide) (by decide) (fm_dec dtL_wrong 10 rfl) h
noncomputable abbrev dlL_would : List (Nat × Instr × Nat) := [(0, .aload 6, 2), (2, .iconst 0, 1), (3, .aload_n 0, 1), (4, .iload_n 1, 1), (5, .iload_n 2, 1), (6, .iload_n 3, 1), (7, .iload 4, 2), (9, .iload 5, 2), (11, .invokevirtual 39, 3), (14, .i2l, 1), (15, .lastore, 1), (16, .goto 7, 3), (19, .astore 7, 2), (21, .iconst 1, 1), (22, .ireturn, 1), (23, .iconst 0, 1), (24, .ireturn, 1)]
theorem dtL_would : fmDec cL_would dlL_would = true := by decide +kernel
abbrev qL_would : fmY := (yL_would, cL_would, 8, some .int)
theorem nw_L_would : Cond.codeWith yL_would cL_would 8 (some .int) [(0, 16, 19, 13)] ∈ fmWs := (fm_c5 17 (by eq_refl) rfl)
theorem nst_L_would : Cond.static yL_would ∈ fmWs := (fm_c5 16 (by eq_refl) rfl)
theorem nd_L_would : yL_would.cls ≠ "java/lang/invoke/MethodHandle" ∧ yL_would.cls ≠ "java/lang/invoke/VarHandle" ∧ (parseMethodDescriptor yL_would.desc).map (fun d => d.parameters.length) = some 7 := by decide +kernel
set_option maxRecDepth 20000 in
theorem w_would {l : Launch} {G : fmG} {g : Nat → Nat} {M : fmM} {f : Nat → Int64} {o : Nat} {Rs : va_W} {Q : Int32 → fmM × (Nat → Int64) → Prop} {p0 p1 p2 p3 p4 : Int32} (hst : l.stackTraces = false) (hp : pvGood Tx 250 qX10_would [.ref 0, .int p0, .int p1, .int p2, .int p3, .int p4] M (wI f Q (fun E M' => (E = fmIAE ∧ Q 1 (M', f))))) : zGood l G qL_would [(0, 16, 19, 13)] [.ref (g 0), .int p0, .int p1, .int p2, .int p3, .int p4, .ref o] (WX G g o Rs (M, f)) (WX G g o Rs) Q := by
  have hx : fmGood Tx l (g, G.2) 250 qX10_would [.ref (g 0), .int p0, .int p1, .int p2, .int p3, .int p4] M (wI f Q (fun E M' => (E = fmIAE ∧ Q 1 (M', f)))) := fmGood.imp (pvGood.fm hst (by decide) (by decide +kernel) hp) (fun o9 M9 h9 => by obtain ⟨o', rfl, h8⟩ := h9; exact wI_to h8)
  refine zGood_of (by decide +kernel) rfl (Nat.le_of_ble_eq_true rfl) ?_
  intro p e s m args below meth c A hF htab hr hlocks
  show zEv p l e (lwRm 300 1 6) s m args below meth c G A 8 _ 0 [some (.ref (g 0)), some (.int p0), some (.int p1), some (.int p2), some (.int p3), some (.int p4), some (.ref o), none] [] (WX G g o Rs (M, f)) 0 0
  refine z_aload hF (pc := 0) (i := 6) rfl (fm_dec dtL_would 0 rfl) ?_
  refine z_iconst hF (pc := 2) (v := 0) (by decide) (fm_dec dtL_would 1 rfl) ?_
  refine z_aloadn hF (pc := 3) (n := 0) 0 rfl rfl (fm_dec dtL_would 2 rfl) ?_
  refine z_iloadn hF (pc := 4) (n := 1) 1 rfl rfl (fm_dec dtL_would 3 rfl) ?_
  refine z_iloadn hF (pc := 5) (n := 2) 2 rfl rfl (fm_dec dtL_would 4 rfl) ?_
  refine z_iloadn hF (pc := 6) (n := 3) 3 rfl rfl (fm_dec dtL_would 5 rfl) ?_
  refine z_iload hF (pc := 7) (i := 4) rfl (fm_dec dtL_would 6 rfl) ?_
  refine z_iload hF (pc := 9) (i := 5) rfl (fm_dec dtL_would 7 rfl) ?_
  refine z_callX hF (T := Tx) (g := g) (M := M) (rest := (o, .inl (G.2.2.1 1, 1, .inr (.inl f))) :: Rs) (k := 0) (ci := 10) (d' := 250) (pc := 11) (As := [.int p0, .int p1, .int p2, .int p3, .int p4]) (st := [.int 0, .ref o]) cvL_39 (by decide) rfl rfl rfl (Nat.le_of_ble_eq_true rfl) (by decide) (by decide) (by decide) (by decide) (fm_dec dtL_would 8 rfl) (fmGood.imp hx (fun o9 M' h => ?_))
  rcases o9 with v | E
  · rcases v with _ | v
    · exact False.elim h
    · cases v with
      | int v =>
        refine z_then1 ?_
        refine z_i2l hF (pc := 14) (fm_dec dtL_would 9 rfl) ?_
        refine z_last hF (pc := 15) (w0 := fmL Tx (g, G.2) M') (w1 := Rs) (fm_dec dtL_would 10 rfl) ?_
        refine z_goto hF (pc := 16) 23 (by decide) (fm_dec dtL_would 11 rfl) ?_
        refine z_iconst hF (pc := 23) (v := 0) (by decide) (fm_dec dtL_would 15 rfl) ?_
        exact z_iret hF (pc := 24) (WW := WX G g o Rs) (M', vp_updL f 0 v.toInt64) hr hlocks (by decide) (by decide) (fm_dec dtL_would 16 rfl) h
      | _ => exact False.elim h
  · obtain ⟨rfl, h⟩ := h
    refine z_catch hF (name := fmIAE) [] ⟨0, 16, 19, 13⟩ [] (by rw [htab]; rfl) (fun z hz => by cases hz) (by decide) (by decide) clL_13 hF.2.2.2.2.2.1.1.2.2.2.1.1 (fun q => ?_)
    refine z_astore hF (pc := 19) (i := 7) (by decide) rfl (fm_dec dtL_would 12 rfl) ?_
    refine z_iconst hF (pc := 21) (v := 1) (by decide) (fm_dec dtL_would 13 rfl) ?_
    exact z_iret hF (pc := 22) (WW := WX G g o Rs) (M', f) hr hlocks (by decide) (by decide) (fm_dec dtL_would 14 rfl) h
noncomputable abbrev dlL_loss : List (Nat × Instr × Nat) := [(0, .aload_n 2, 1), (1, .iconst 0, 1), (2, .aload_n 0, 1), (3, .iload_n 1, 1), (4, .invokevirtual 43, 3), (7, .lastore, 1), (8, .goto 6, 3), (11, .astore_n 3, 1), (12, .iconst 1, 1), (13, .ireturn, 1), (14, .iconst 0, 1), (15, .ireturn, 1)]
theorem dtL_loss : fmDec cL_loss dlL_loss = true := by decide +kernel
abbrev qL_loss : fmY := (yL_loss, cL_loss, 4, some .int)
theorem nw_L_loss : Cond.codeWith yL_loss cL_loss 4 (some .int) [(0, 8, 11, 13)] ∈ fmWs := (fm_c5 25 (by eq_refl) rfl)
theorem nst_L_loss : Cond.static yL_loss ∈ fmWs := (fm_c5 24 (by eq_refl) rfl)
theorem nd_L_loss : yL_loss.cls ≠ "java/lang/invoke/MethodHandle" ∧ yL_loss.cls ≠ "java/lang/invoke/VarHandle" ∧ (parseMethodDescriptor yL_loss.desc).map (fun d => d.parameters.length) = some 3 := by decide +kernel
set_option maxRecDepth 20000 in
theorem w_loss {l : Launch} {G : fmG} {g : Nat → Nat} {M : fmM} {f : Nat → Int64} {o : Nat} {Rs : va_W} {Q : Int32 → fmM × (Nat → Int64) → Prop} {p0 : Int32} (hst : l.stackTraces = false) (hp : pvGood Tx 250 qX10_loss [.ref 0, .int p0] M (wJ f Q (fun E M' => (E = fmIAE ∧ Q 1 (M', f))))) : zGood l G qL_loss [(0, 8, 11, 13)] [.ref (g 0), .int p0, .ref o] (WX G g o Rs (M, f)) (WX G g o Rs) Q := by
  have hx : fmGood Tx l (g, G.2) 250 qX10_loss [.ref (g 0), .int p0] M (wJ f Q (fun E M' => (E = fmIAE ∧ Q 1 (M', f)))) := fmGood.imp (pvGood.fm hst (by decide) (by decide +kernel) hp) (fun o9 M9 h9 => by obtain ⟨o', rfl, h8⟩ := h9; exact wJ_to h8)
  refine zGood_of (by decide +kernel) rfl (Nat.le_of_ble_eq_true rfl) ?_
  intro p e s m args below meth c A hF htab hr hlocks
  show zEv p l e (lwRm 300 1 6) s m args below meth c G A 4 _ 0 [some (.ref (g 0)), some (.int p0), some (.ref o), none] [] (WX G g o Rs (M, f)) 0 0
  refine z_aloadn hF (pc := 0) (n := 2) 2 rfl rfl (fm_dec dtL_loss 0 rfl) ?_
  refine z_iconst hF (pc := 1) (v := 0) (by decide) (fm_dec dtL_loss 1 rfl) ?_
  refine z_aloadn hF (pc := 2) (n := 0) 0 rfl rfl (fm_dec dtL_loss 2 rfl) ?_
  refine z_iloadn hF (pc := 3) (n := 1) 1 rfl rfl (fm_dec dtL_loss 3 rfl) ?_
  refine z_callX hF (T := Tx) (g := g) (M := M) (rest := (o, .inl (G.2.2.1 1, 1, .inr (.inl f))) :: Rs) (k := 0) (ci := 10) (d' := 250) (pc := 4) (As := [.int p0]) (st := [.int 0, .ref o]) cvL_43 (by decide) rfl rfl rfl (Nat.le_of_ble_eq_true rfl) (by decide) (by decide) (by decide) (by decide) (fm_dec dtL_loss 4 rfl) (fmGood.imp hx (fun o9 M' h => ?_))
  rcases o9 with v | E
  · rcases v with _ | v
    · exact False.elim h
    · cases v with
      | long v =>
        refine z_then1 ?_
        refine z_last hF (pc := 7) (w0 := fmL Tx (g, G.2) M') (w1 := Rs) (fm_dec dtL_loss 5 rfl) ?_
        refine z_goto hF (pc := 8) 14 (by decide) (fm_dec dtL_loss 6 rfl) ?_
        refine z_iconst hF (pc := 14) (v := 0) (by decide) (fm_dec dtL_loss 10 rfl) ?_
        exact z_iret hF (pc := 15) (WW := WX G g o Rs) (M', vp_updL f 0 v) hr hlocks (by decide) (by decide) (fm_dec dtL_loss 11 rfl) h
      | _ => exact False.elim h
  · obtain ⟨rfl, h⟩ := h
    refine z_catch hF (name := fmIAE) [] ⟨0, 8, 11, 13⟩ [] (by rw [htab]; rfl) (fun z hz => by cases hz) (by decide) (by decide) clL_13 hF.2.2.2.2.2.1.1.2.2.2.1.1 (fun q => ?_)
    refine z_astoren hF (pc := 11) (n := 3) 3 rfl (by decide) rfl (fm_dec dtL_loss 7 rfl) ?_
    refine z_iconst hF (pc := 12) (v := 1) (by decide) (fm_dec dtL_loss 8 rfl) ?_
    exact z_iret hF (pc := 13) (WW := WX G g o Rs) (M', f) hr hlocks (by decide) (by decide) (fm_dec dtL_loss 9 rfl) h
noncomputable abbrev dlL_cost : List (Nat × Instr × Nat) := [(0, .aload_n 3, 1), (1, .iconst 0, 1), (2, .aload_n 0, 1), (3, .iload_n 1, 1), (4, .iload_n 2, 1), (5, .invokevirtual 47, 3), (8, .lastore, 1), (9, .goto 11, 3), (12, .astore 4, 2), (14, .iconst 1, 1), (15, .ireturn, 1), (16, .astore 4, 2), (18, .iconst 2, 1), (19, .ireturn, 1), (20, .iconst 0, 1), (21, .ireturn, 1)]
theorem dtL_cost : fmDec cL_cost dlL_cost = true := by decide +kernel
abbrev qL_cost : fmY := (yL_cost, cL_cost, 5, some .int)
theorem nw_L_cost : Cond.codeWith yL_cost cL_cost 5 (some .int) [(0, 9, 12, 31), (0, 9, 16, 13)] ∈ fmWs := (fm_c5 40 (by eq_refl) rfl)
theorem nst_L_cost : Cond.static yL_cost ∈ fmWs := (fm_c5 39 (by eq_refl) rfl)
theorem nd_L_cost : yL_cost.cls ≠ "java/lang/invoke/MethodHandle" ∧ yL_cost.cls ≠ "java/lang/invoke/VarHandle" ∧ (parseMethodDescriptor yL_cost.desc).map (fun d => d.parameters.length) = some 4 := by decide +kernel
set_option maxRecDepth 20000 in
theorem w_cost {l : Launch} {G : fmG} {g : Nat → Nat} {M : fmM} {f : Nat → Int64} {o : Nat} {Rs : va_W} {Q : Int32 → fmM × (Nat → Int64) → Prop} {p0 p1 : Int32} (hst : l.stackTraces = false) (hp : pvGood Tx 250 qX10_cost [.ref 0, .int p0, .int p1] M (wJ f Q (fun E M' => (E = fmNSE ∧ Q 1 (M', f)) ∨ (E = fmIAE ∧ Q 2 (M', f))))) : zGood l G qL_cost [(0, 9, 12, 31), (0, 9, 16, 13)] [.ref (g 0), .int p0, .int p1, .ref o] (WX G g o Rs (M, f)) (WX G g o Rs) Q := by
  have hx : fmGood Tx l (g, G.2) 250 qX10_cost [.ref (g 0), .int p0, .int p1] M (wJ f Q (fun E M' => (E = fmNSE ∧ Q 1 (M', f)) ∨ (E = fmIAE ∧ Q 2 (M', f)))) := fmGood.imp (pvGood.fm hst (by decide) (by decide +kernel) hp) (fun o9 M9 h9 => by obtain ⟨o', rfl, h8⟩ := h9; exact wJ_to h8)
  refine zGood_of (by decide +kernel) rfl (Nat.le_of_ble_eq_true rfl) ?_
  intro p e s m args below meth c A hF htab hr hlocks
  show zEv p l e (lwRm 300 1 6) s m args below meth c G A 5 _ 0 [some (.ref (g 0)), some (.int p0), some (.int p1), some (.ref o), none] [] (WX G g o Rs (M, f)) 0 0
  refine z_aloadn hF (pc := 0) (n := 3) 3 rfl rfl (fm_dec dtL_cost 0 rfl) ?_
  refine z_iconst hF (pc := 1) (v := 0) (by decide) (fm_dec dtL_cost 1 rfl) ?_
  refine z_aloadn hF (pc := 2) (n := 0) 0 rfl rfl (fm_dec dtL_cost 2 rfl) ?_
  refine z_iloadn hF (pc := 3) (n := 1) 1 rfl rfl (fm_dec dtL_cost 3 rfl) ?_
  refine z_iloadn hF (pc := 4) (n := 2) 2 rfl rfl (fm_dec dtL_cost 4 rfl) ?_
  refine z_callX hF (T := Tx) (g := g) (M := M) (rest := (o, .inl (G.2.2.1 1, 1, .inr (.inl f))) :: Rs) (k := 0) (ci := 10) (d' := 250) (pc := 5) (As := [.int p0, .int p1]) (st := [.int 0, .ref o]) cvL_47 (by decide) rfl rfl rfl (Nat.le_of_ble_eq_true rfl) (by decide) (by decide) (by decide) (by decide) (fm_dec dtL_cost 5 rfl) (fmGood.imp hx (fun o9 M' h => ?_))
  rcases o9 with v | E
  · rcases v with _ | v
    · exact False.elim h
    · cases v with
      | long v =>
        refine z_then1 ?_
        refine z_last hF (pc := 8) (w0 := fmL Tx (g, G.2) M') (w1 := Rs) (fm_dec dtL_cost 6 rfl) ?_
        refine z_goto hF (pc := 9) 20 (by decide) (fm_dec dtL_cost 7 rfl) ?_
        refine z_iconst hF (pc := 20) (v := 0) (by decide) (fm_dec dtL_cost 14 rfl) ?_
        exact z_iret hF (pc := 21) (WW := WX G g o Rs) (M', vp_updL f 0 v) hr hlocks (by decide) (by decide) (fm_dec dtL_cost 15 rfl) h
      | _ => exact False.elim h
  · rcases h with ⟨rfl, h⟩ | ⟨rfl, h⟩
    · refine z_catch hF (name := fmNSE) [] ⟨0, 9, 12, 31⟩ [⟨0, 9, 16, 13⟩] (by rw [htab]; rfl) (fun z hz => by cases hz) (by decide) (by decide) clL_31 hF.2.2.2.2.2.1.1.2.2.2.1.2.1 (fun q => ?_)
      refine z_astore hF (pc := 12) (i := 4) (by decide) rfl (fm_dec dtL_cost 8 rfl) ?_
      refine z_iconst hF (pc := 14) (v := 1) (by decide) (fm_dec dtL_cost 9 rfl) ?_
      exact z_iret hF (pc := 15) (WW := WX G g o Rs) (M', f) hr hlocks (by decide) (by decide) (fm_dec dtL_cost 10 rfl) h
    · refine z_catch hF (name := fmIAE) [⟨0, 9, 12, 31⟩] ⟨0, 9, 16, 13⟩ [] (by rw [htab]; rfl) (fun z hz => by rcases List.mem_cons.mp hz with rfl | hz; exact Or.inr ⟨by decide, _, clL_31, hF.2.2.2.2.2.1.1.2.2.2.1.2.2.1⟩; cases hz) (by decide) (by decide) clL_13 hF.2.2.2.2.2.1.1.2.2.2.1.1 (fun q => ?_)
      refine z_astore hF (pc := 16) (i := 4) (by decide) rfl (fm_dec dtL_cost 11 rfl) ?_
      refine z_iconst hF (pc := 18) (v := 2) (by decide) (fm_dec dtL_cost 12 rfl) ?_
      exact z_iret hF (pc := 19) (WW := WX G g o Rs) (M', f) hr hlocks (by decide) (by decide) (fm_dec dtL_cost 13 rfl) h
noncomputable abbrev dlL_risk : List (Nat × Instr × Nat) := [(0, .aload_n 2, 1), (1, .iconst 0, 1), (2, .aload_n 0, 1), (3, .iload_n 1, 1), (4, .invokevirtual 51, 3), (7, .lastore, 1), (8, .goto 6, 3), (11, .astore_n 3, 1), (12, .iconst 1, 1), (13, .ireturn, 1), (14, .iconst 0, 1), (15, .ireturn, 1)]
theorem dtL_risk : fmDec cL_risk dlL_risk = true := by decide +kernel
abbrev qL_risk : fmY := (yL_risk, cL_risk, 4, some .int)
theorem nw_L_risk : Cond.codeWith yL_risk cL_risk 4 (some .int) [(0, 8, 11, 13)] ∈ fmWs := (fm_c5 48 (by eq_refl) rfl)
theorem nst_L_risk : Cond.static yL_risk ∈ fmWs := (fm_c5 47 (by eq_refl) rfl)
theorem nd_L_risk : yL_risk.cls ≠ "java/lang/invoke/MethodHandle" ∧ yL_risk.cls ≠ "java/lang/invoke/VarHandle" ∧ (parseMethodDescriptor yL_risk.desc).map (fun d => d.parameters.length) = some 3 := by decide +kernel
set_option maxRecDepth 20000 in
theorem w_risk {l : Launch} {G : fmG} {g : Nat → Nat} {M : fmM} {f : Nat → Int64} {o : Nat} {Rs : va_W} {Q : Int32 → fmM × (Nat → Int64) → Prop} {p0 : Int32} (hst : l.stackTraces = false) (hp : pvGood Tx 250 qX10_risk [.ref 0, .int p0] M (wJ f Q (fun E M' => (E = fmIAE ∧ Q 1 (M', f))))) : zGood l G qL_risk [(0, 8, 11, 13)] [.ref (g 0), .int p0, .ref o] (WX G g o Rs (M, f)) (WX G g o Rs) Q := by
  have hx : fmGood Tx l (g, G.2) 250 qX10_risk [.ref (g 0), .int p0] M (wJ f Q (fun E M' => (E = fmIAE ∧ Q 1 (M', f)))) := fmGood.imp (pvGood.fm hst (by decide) (by decide +kernel) hp) (fun o9 M9 h9 => by obtain ⟨o', rfl, h8⟩ := h9; exact wJ_to h8)
  refine zGood_of (by decide +kernel) rfl (Nat.le_of_ble_eq_true rfl) ?_
  intro p e s m args below meth c A hF htab hr hlocks
  show zEv p l e (lwRm 300 1 6) s m args below meth c G A 4 _ 0 [some (.ref (g 0)), some (.int p0), some (.ref o), none] [] (WX G g o Rs (M, f)) 0 0
  refine z_aloadn hF (pc := 0) (n := 2) 2 rfl rfl (fm_dec dtL_risk 0 rfl) ?_
  refine z_iconst hF (pc := 1) (v := 0) (by decide) (fm_dec dtL_risk 1 rfl) ?_
  refine z_aloadn hF (pc := 2) (n := 0) 0 rfl rfl (fm_dec dtL_risk 2 rfl) ?_
  refine z_iloadn hF (pc := 3) (n := 1) 1 rfl rfl (fm_dec dtL_risk 3 rfl) ?_
  refine z_callX hF (T := Tx) (g := g) (M := M) (rest := (o, .inl (G.2.2.1 1, 1, .inr (.inl f))) :: Rs) (k := 0) (ci := 10) (d' := 250) (pc := 4) (As := [.int p0]) (st := [.int 0, .ref o]) cvL_51 (by decide) rfl rfl rfl (Nat.le_of_ble_eq_true rfl) (by decide) (by decide) (by decide) (by decide) (fm_dec dtL_risk 4 rfl) (fmGood.imp hx (fun o9 M' h => ?_))
  rcases o9 with v | E
  · rcases v with _ | v
    · exact False.elim h
    · cases v with
      | long v =>
        refine z_then1 ?_
        refine z_last hF (pc := 7) (w0 := fmL Tx (g, G.2) M') (w1 := Rs) (fm_dec dtL_risk 5 rfl) ?_
        refine z_goto hF (pc := 8) 14 (by decide) (fm_dec dtL_risk 6 rfl) ?_
        refine z_iconst hF (pc := 14) (v := 0) (by decide) (fm_dec dtL_risk 10 rfl) ?_
        exact z_iret hF (pc := 15) (WW := WX G g o Rs) (M', vp_updL f 0 v) hr hlocks (by decide) (by decide) (fm_dec dtL_risk 11 rfl) h
      | _ => exact False.elim h
  · obtain ⟨rfl, h⟩ := h
    refine z_catch hF (name := fmIAE) [] ⟨0, 8, 11, 13⟩ [] (by rw [htab]; rfl) (fun z hz => by cases hz) (by decide) (by decide) clL_13 hF.2.2.2.2.2.1.1.2.2.2.1.1 (fun q => ?_)
    refine z_astoren hF (pc := 11) (n := 3) 3 rfl (by decide) rfl (fm_dec dtL_risk 7 rfl) ?_
    refine z_iconst hF (pc := 12) (v := 1) (by decide) (fm_dec dtL_risk 8 rfl) ?_
    exact z_iret hF (pc := 13) (WW := WX G g o Rs) (M', f) hr hlocks (by decide) (by decide) (fm_dec dtL_risk 9 rfl) h
noncomputable abbrev dlL_saves : List (Nat × Instr × Nat) := [(0, .aload_n 3, 1), (1, .iconst 0, 1), (2, .aload_n 0, 1), (3, .iload_n 1, 1), (4, .iload_n 2, 1), (5, .invokevirtual 54, 3), (8, .lastore, 1), (9, .goto 11, 3), (12, .astore 4, 2), (14, .iconst 1, 1), (15, .ireturn, 1), (16, .astore 4, 2), (18, .iconst 2, 1), (19, .ireturn, 1), (20, .iconst 0, 1), (21, .ireturn, 1)]
theorem dtL_saves : fmDec cL_saves dlL_saves = true := by decide +kernel
abbrev qL_saves : fmY := (yL_saves, cL_saves, 5, some .int)
theorem nw_L_saves : Cond.codeWith yL_saves cL_saves 5 (some .int) [(0, 9, 12, 31), (0, 9, 16, 13)] ∈ fmWs := (fm_c5 56 (by eq_refl) rfl)
theorem nst_L_saves : Cond.static yL_saves ∈ fmWs := (fm_c5 55 (by eq_refl) rfl)
theorem nd_L_saves : yL_saves.cls ≠ "java/lang/invoke/MethodHandle" ∧ yL_saves.cls ≠ "java/lang/invoke/VarHandle" ∧ (parseMethodDescriptor yL_saves.desc).map (fun d => d.parameters.length) = some 4 := by decide +kernel
set_option maxRecDepth 20000 in
theorem w_saves {l : Launch} {G : fmG} {g : Nat → Nat} {M : fmM} {f : Nat → Int64} {o : Nat} {Rs : va_W} {Q : Int32 → fmM × (Nat → Int64) → Prop} {p0 p1 : Int32} (hst : l.stackTraces = false) (hp : pvGood Tx 250 qX10_saves [.ref 0, .int p0, .int p1] M (wJ f Q (fun E M' => (E = fmNSE ∧ Q 1 (M', f)) ∨ (E = fmIAE ∧ Q 2 (M', f))))) : zGood l G qL_saves [(0, 9, 12, 31), (0, 9, 16, 13)] [.ref (g 0), .int p0, .int p1, .ref o] (WX G g o Rs (M, f)) (WX G g o Rs) Q := by
  have hx : fmGood Tx l (g, G.2) 250 qX10_saves [.ref (g 0), .int p0, .int p1] M (wJ f Q (fun E M' => (E = fmNSE ∧ Q 1 (M', f)) ∨ (E = fmIAE ∧ Q 2 (M', f)))) := fmGood.imp (pvGood.fm hst (by decide) (by decide +kernel) hp) (fun o9 M9 h9 => by obtain ⟨o', rfl, h8⟩ := h9; exact wJ_to h8)
  refine zGood_of (by decide +kernel) rfl (Nat.le_of_ble_eq_true rfl) ?_
  intro p e s m args below meth c A hF htab hr hlocks
  show zEv p l e (lwRm 300 1 6) s m args below meth c G A 5 _ 0 [some (.ref (g 0)), some (.int p0), some (.int p1), some (.ref o), none] [] (WX G g o Rs (M, f)) 0 0
  refine z_aloadn hF (pc := 0) (n := 3) 3 rfl rfl (fm_dec dtL_saves 0 rfl) ?_
  refine z_iconst hF (pc := 1) (v := 0) (by decide) (fm_dec dtL_saves 1 rfl) ?_
  refine z_aloadn hF (pc := 2) (n := 0) 0 rfl rfl (fm_dec dtL_saves 2 rfl) ?_
  refine z_iloadn hF (pc := 3) (n := 1) 1 rfl rfl (fm_dec dtL_saves 3 rfl) ?_
  refine z_iloadn hF (pc := 4) (n := 2) 2 rfl rfl (fm_dec dtL_saves 4 rfl) ?_
  refine z_callX hF (T := Tx) (g := g) (M := M) (rest := (o, .inl (G.2.2.1 1, 1, .inr (.inl f))) :: Rs) (k := 0) (ci := 10) (d' := 250) (pc := 5) (As := [.int p0, .int p1]) (st := [.int 0, .ref o]) cvL_54 (by decide) rfl rfl rfl (Nat.le_of_ble_eq_true rfl) (by decide) (by decide) (by decide) (by decide) (fm_dec dtL_saves 5 rfl) (fmGood.imp hx (fun o9 M' h => ?_))
  rcases o9 with v | E
  · rcases v with _ | v
    · exact False.elim h
    · cases v with
      | long v =>
        refine z_then1 ?_
        refine z_last hF (pc := 8) (w0 := fmL Tx (g, G.2) M') (w1 := Rs) (fm_dec dtL_saves 6 rfl) ?_
        refine z_goto hF (pc := 9) 20 (by decide) (fm_dec dtL_saves 7 rfl) ?_
        refine z_iconst hF (pc := 20) (v := 0) (by decide) (fm_dec dtL_saves 14 rfl) ?_
        exact z_iret hF (pc := 21) (WW := WX G g o Rs) (M', vp_updL f 0 v) hr hlocks (by decide) (by decide) (fm_dec dtL_saves 15 rfl) h
      | _ => exact False.elim h
  · rcases h with ⟨rfl, h⟩ | ⟨rfl, h⟩
    · refine z_catch hF (name := fmNSE) [] ⟨0, 9, 12, 31⟩ [⟨0, 9, 16, 13⟩] (by rw [htab]; rfl) (fun z hz => by cases hz) (by decide) (by decide) clL_31 hF.2.2.2.2.2.1.1.2.2.2.1.2.1 (fun q => ?_)
      refine z_astore hF (pc := 12) (i := 4) (by decide) rfl (fm_dec dtL_saves 8 rfl) ?_
      refine z_iconst hF (pc := 14) (v := 1) (by decide) (fm_dec dtL_saves 9 rfl) ?_
      exact z_iret hF (pc := 15) (WW := WX G g o Rs) (M', f) hr hlocks (by decide) (by decide) (fm_dec dtL_saves 10 rfl) h
    · refine z_catch hF (name := fmIAE) [⟨0, 9, 12, 31⟩] ⟨0, 9, 16, 13⟩ [] (by rw [htab]; rfl) (fun z hz => by rcases List.mem_cons.mp hz with rfl | hz; exact Or.inr ⟨by decide, _, clL_31, hF.2.2.2.2.2.1.1.2.2.2.1.2.2.1⟩; cases hz) (by decide) (by decide) clL_13 hF.2.2.2.2.2.1.1.2.2.2.1.1 (fun q => ?_)
      refine z_astore hF (pc := 16) (i := 4) (by decide) rfl (fm_dec dtL_saves 11 rfl) ?_
      refine z_iconst hF (pc := 18) (v := 2) (by decide) (fm_dec dtL_saves 12 rfl) ?_
      exact z_iret hF (pc := 19) (WW := WX G g o Rs) (M', f) hr hlocks (by decide) (by decide) (fm_dec dtL_saves 13 rfl) h
noncomputable abbrev dlL_stale : List (Nat × Instr × Nat) := [(0, .aload_n 2, 1), (1, .iconst 0, 1), (2, .aload_n 0, 1), (3, .iload_n 1, 1), (4, .invokevirtual 57, 3), (7, .i2l, 1), (8, .lastore, 1), (9, .goto 6, 3), (12, .astore_n 3, 1), (13, .iconst 1, 1), (14, .ireturn, 1), (15, .iconst 0, 1), (16, .ireturn, 1)]
theorem dtL_stale : fmDec cL_stale dlL_stale = true := by decide +kernel
abbrev qL_stale : fmY := (yL_stale, cL_stale, 4, some .int)
theorem nw_L_stale : Cond.codeWith yL_stale cL_stale 4 (some .int) [(0, 9, 12, 13)] ∈ fmWs := (fm_c5 65 (by eq_refl) rfl)
theorem nst_L_stale : Cond.static yL_stale ∈ fmWs := (fm_c5 64 (by eq_refl) rfl)
theorem nd_L_stale : yL_stale.cls ≠ "java/lang/invoke/MethodHandle" ∧ yL_stale.cls ≠ "java/lang/invoke/VarHandle" ∧ (parseMethodDescriptor yL_stale.desc).map (fun d => d.parameters.length) = some 3 := by decide +kernel
set_option maxRecDepth 20000 in
theorem w_stale {l : Launch} {G : fmG} {g : Nat → Nat} {M : fmM} {f : Nat → Int64} {o : Nat} {Rs : va_W} {Q : Int32 → fmM × (Nat → Int64) → Prop} {p0 : Int32} (hst : l.stackTraces = false) (hp : pvGood Tx 250 qX10_stale [.ref 0, .int p0] M (wI f Q (fun E M' => (E = fmIAE ∧ Q 1 (M', f))))) : zGood l G qL_stale [(0, 9, 12, 13)] [.ref (g 0), .int p0, .ref o] (WX G g o Rs (M, f)) (WX G g o Rs) Q := by
  have hx : fmGood Tx l (g, G.2) 250 qX10_stale [.ref (g 0), .int p0] M (wI f Q (fun E M' => (E = fmIAE ∧ Q 1 (M', f)))) := fmGood.imp (pvGood.fm hst (by decide) (by decide +kernel) hp) (fun o9 M9 h9 => by obtain ⟨o', rfl, h8⟩ := h9; exact wI_to h8)
  refine zGood_of (by decide +kernel) rfl (Nat.le_of_ble_eq_true rfl) ?_
  intro p e s m args below meth c A hF htab hr hlocks
  show zEv p l e (lwRm 300 1 6) s m args below meth c G A 4 _ 0 [some (.ref (g 0)), some (.int p0), some (.ref o), none] [] (WX G g o Rs (M, f)) 0 0
  refine z_aloadn hF (pc := 0) (n := 2) 2 rfl rfl (fm_dec dtL_stale 0 rfl) ?_
  refine z_iconst hF (pc := 1) (v := 0) (by decide) (fm_dec dtL_stale 1 rfl) ?_
  refine z_aloadn hF (pc := 2) (n := 0) 0 rfl rfl (fm_dec dtL_stale 2 rfl) ?_
  refine z_iloadn hF (pc := 3) (n := 1) 1 rfl rfl (fm_dec dtL_stale 3 rfl) ?_
  refine z_callX hF (T := Tx) (g := g) (M := M) (rest := (o, .inl (G.2.2.1 1, 1, .inr (.inl f))) :: Rs) (k := 0) (ci := 10) (d' := 250) (pc := 4) (As := [.int p0]) (st := [.int 0, .ref o]) cvL_57 (by decide) rfl rfl rfl (Nat.le_of_ble_eq_true rfl) (by decide) (by decide) (by decide) (by decide) (fm_dec dtL_stale 4 rfl) (fmGood.imp hx (fun o9 M' h => ?_))
  rcases o9 with v | E
  · rcases v with _ | v
    · exact False.elim h
    · cases v with
      | int v =>
        refine z_then1 ?_
        refine z_i2l hF (pc := 7) (fm_dec dtL_stale 5 rfl) ?_
        refine z_last hF (pc := 8) (w0 := fmL Tx (g, G.2) M') (w1 := Rs) (fm_dec dtL_stale 6 rfl) ?_
        refine z_goto hF (pc := 9) 15 (by decide) (fm_dec dtL_stale 7 rfl) ?_
        refine z_iconst hF (pc := 15) (v := 0) (by decide) (fm_dec dtL_stale 11 rfl) ?_
        exact z_iret hF (pc := 16) (WW := WX G g o Rs) (M', vp_updL f 0 v.toInt64) hr hlocks (by decide) (by decide) (fm_dec dtL_stale 12 rfl) h
      | _ => exact False.elim h
  · obtain ⟨rfl, h⟩ := h
    refine z_catch hF (name := fmIAE) [] ⟨0, 9, 12, 13⟩ [] (by rw [htab]; rfl) (fun z hz => by cases hz) (by decide) (by decide) clL_13 hF.2.2.2.2.2.1.1.2.2.2.1.1 (fun q => ?_)
    refine z_astoren hF (pc := 12) (n := 3) 3 rfl (by decide) rfl (fm_dec dtL_stale 8 rfl) ?_
    refine z_iconst hF (pc := 13) (v := 1) (by decide) (fm_dec dtL_stale 9 rfl) ?_
    exact z_iret hF (pc := 14) (WW := WX G g o Rs) (M', f) hr hlocks (by decide) (by decide) (fm_dec dtL_stale 10 rfl) h
noncomputable abbrev dlL_best : List (Nat × Instr × Nat) := [(0, .aload_n 3, 1), (1, .iconst 0, 1), (2, .aload_n 0, 1), (3, .iload_n 1, 1), (4, .iload_n 2, 1), (5, .invokevirtual 60, 3), (8, .lastore, 1), (9, .goto 7, 3), (12, .astore 4, 2), (14, .iconst 1, 1), (15, .ireturn, 1), (16, .iconst 0, 1), (17, .ireturn, 1)]
theorem dtL_best : fmDec cL_best dlL_best = true := by decide +kernel
abbrev qL_best : fmY := (yL_best, cL_best, 5, some .int)
theorem nw_L_best : Cond.codeWith yL_best cL_best 5 (some .int) [(0, 9, 12, 13)] ∈ fmWs := (fm_c5 76 (by eq_refl) rfl)
theorem nst_L_best : Cond.static yL_best ∈ fmWs := (fm_c5 75 (by eq_refl) rfl)
theorem nd_L_best : yL_best.cls ≠ "java/lang/invoke/MethodHandle" ∧ yL_best.cls ≠ "java/lang/invoke/VarHandle" ∧ (parseMethodDescriptor yL_best.desc).map (fun d => d.parameters.length) = some 4 := by decide +kernel
set_option maxRecDepth 20000 in
theorem w_best {l : Launch} {G : fmG} {g : Nat → Nat} {M : fmM} {f : Nat → Int64} {o : Nat} {Rs : va_W} {Q : Int32 → fmM × (Nat → Int64) → Prop} {p0 p1 : Int32} (hst : l.stackTraces = false) (hp : pvGood Tx 250 qX10_best [.ref 0, .int p0, .int p1] M (wJ f Q (fun E M' => (E = fmIAE ∧ Q 1 (M', f))))) : zGood l G qL_best [(0, 9, 12, 13)] [.ref (g 0), .int p0, .int p1, .ref o] (WX G g o Rs (M, f)) (WX G g o Rs) Q := by
  have hx : fmGood Tx l (g, G.2) 250 qX10_best [.ref (g 0), .int p0, .int p1] M (wJ f Q (fun E M' => (E = fmIAE ∧ Q 1 (M', f)))) := fmGood.imp (pvGood.fm hst (by decide) (by decide +kernel) hp) (fun o9 M9 h9 => by obtain ⟨o', rfl, h8⟩ := h9; exact wJ_to h8)
  refine zGood_of (by decide +kernel) rfl (Nat.le_of_ble_eq_true rfl) ?_
  intro p e s m args below meth c A hF htab hr hlocks
  show zEv p l e (lwRm 300 1 6) s m args below meth c G A 5 _ 0 [some (.ref (g 0)), some (.int p0), some (.int p1), some (.ref o), none] [] (WX G g o Rs (M, f)) 0 0
  refine z_aloadn hF (pc := 0) (n := 3) 3 rfl rfl (fm_dec dtL_best 0 rfl) ?_
  refine z_iconst hF (pc := 1) (v := 0) (by decide) (fm_dec dtL_best 1 rfl) ?_
  refine z_aloadn hF (pc := 2) (n := 0) 0 rfl rfl (fm_dec dtL_best 2 rfl) ?_
  refine z_iloadn hF (pc := 3) (n := 1) 1 rfl rfl (fm_dec dtL_best 3 rfl) ?_
  refine z_iloadn hF (pc := 4) (n := 2) 2 rfl rfl (fm_dec dtL_best 4 rfl) ?_
  refine z_callX hF (T := Tx) (g := g) (M := M) (rest := (o, .inl (G.2.2.1 1, 1, .inr (.inl f))) :: Rs) (k := 0) (ci := 10) (d' := 250) (pc := 5) (As := [.int p0, .int p1]) (st := [.int 0, .ref o]) cvL_60 (by decide) rfl rfl rfl (Nat.le_of_ble_eq_true rfl) (by decide) (by decide) (by decide) (by decide) (fm_dec dtL_best 5 rfl) (fmGood.imp hx (fun o9 M' h => ?_))
  rcases o9 with v | E
  · rcases v with _ | v
    · exact False.elim h
    · cases v with
      | long v =>
        refine z_then1 ?_
        refine z_last hF (pc := 8) (w0 := fmL Tx (g, G.2) M') (w1 := Rs) (fm_dec dtL_best 6 rfl) ?_
        refine z_goto hF (pc := 9) 16 (by decide) (fm_dec dtL_best 7 rfl) ?_
        refine z_iconst hF (pc := 16) (v := 0) (by decide) (fm_dec dtL_best 11 rfl) ?_
        exact z_iret hF (pc := 17) (WW := WX G g o Rs) (M', vp_updL f 0 v) hr hlocks (by decide) (by decide) (fm_dec dtL_best 12 rfl) h
      | _ => exact False.elim h
  · obtain ⟨rfl, h⟩ := h
    refine z_catch hF (name := fmIAE) [] ⟨0, 9, 12, 13⟩ [] (by rw [htab]; rfl) (fun z hz => by cases hz) (by decide) (by decide) clL_13 hF.2.2.2.2.2.1.1.2.2.2.1.1 (fun q => ?_)
    refine z_astore hF (pc := 12) (i := 4) (by decide) rfl (fm_dec dtL_best 8 rfl) ?_
    refine z_iconst hF (pc := 14) (v := 1) (by decide) (fm_dec dtL_best 9 rfl) ?_
    exact z_iret hF (pc := 15) (WW := WX G g o Rs) (M', f) hr hlocks (by decide) (by decide) (fm_dec dtL_best 10 rfl) h
noncomputable abbrev dlL_bestIn : List (Nat × Instr × Nat) := [(0, .aload_n 3, 1), (1, .iconst 0, 1), (2, .aload_n 0, 1), (3, .iload_n 1, 1), (4, .iload_n 2, 1), (5, .invokevirtual 63, 3), (8, .i2l, 1), (9, .lastore, 1), (10, .goto 7, 3), (13, .astore 4, 2), (15, .iconst 1, 1), (16, .ireturn, 1), (17, .iconst 0, 1), (18, .ireturn, 1)]
theorem dtL_bestIn : fmDec cL_bestIn dlL_bestIn = true := by decide +kernel
abbrev qL_bestIn : fmY := (yL_bestIn, cL_bestIn, 5, some .int)
theorem nw_L_bestIn : Cond.codeWith yL_bestIn cL_bestIn 5 (some .int) [(0, 10, 13, 13)] ∈ fmWs := (fm_c5 127 (by eq_refl) rfl)
theorem nst_L_bestIn : Cond.static yL_bestIn ∈ fmWs := (fm_c5 126 (by eq_refl) rfl)
theorem nd_L_bestIn : yL_bestIn.cls ≠ "java/lang/invoke/MethodHandle" ∧ yL_bestIn.cls ≠ "java/lang/invoke/VarHandle" ∧ (parseMethodDescriptor yL_bestIn.desc).map (fun d => d.parameters.length) = some 4 := by decide +kernel
set_option maxRecDepth 20000 in
theorem w_bestIn {l : Launch} {G : fmG} {g : Nat → Nat} {M : fmM} {f : Nat → Int64} {o : Nat} {Rs : va_W} {Q : Int32 → fmM × (Nat → Int64) → Prop} {p0 p1 : Int32} (hst : l.stackTraces = false) (hp : pvGood Tx 250 qX10_bestIn [.ref 0, .int p0, .int p1] M (wI f Q (fun E M' => (E = fmIAE ∧ Q 1 (M', f))))) : zGood l G qL_bestIn [(0, 10, 13, 13)] [.ref (g 0), .int p0, .int p1, .ref o] (WX G g o Rs (M, f)) (WX G g o Rs) Q := by
  have hx : fmGood Tx l (g, G.2) 250 qX10_bestIn [.ref (g 0), .int p0, .int p1] M (wI f Q (fun E M' => (E = fmIAE ∧ Q 1 (M', f)))) := fmGood.imp (pvGood.fm hst (by decide) (by decide +kernel) hp) (fun o9 M9 h9 => by obtain ⟨o', rfl, h8⟩ := h9; exact wI_to h8)
  refine zGood_of (by decide +kernel) rfl (Nat.le_of_ble_eq_true rfl) ?_
  intro p e s m args below meth c A hF htab hr hlocks
  show zEv p l e (lwRm 300 1 6) s m args below meth c G A 5 _ 0 [some (.ref (g 0)), some (.int p0), some (.int p1), some (.ref o), none] [] (WX G g o Rs (M, f)) 0 0
  refine z_aloadn hF (pc := 0) (n := 3) 3 rfl rfl (fm_dec dtL_bestIn 0 rfl) ?_
  refine z_iconst hF (pc := 1) (v := 0) (by decide) (fm_dec dtL_bestIn 1 rfl) ?_
  refine z_aloadn hF (pc := 2) (n := 0) 0 rfl rfl (fm_dec dtL_bestIn 2 rfl) ?_
  refine z_iloadn hF (pc := 3) (n := 1) 1 rfl rfl (fm_dec dtL_bestIn 3 rfl) ?_
  refine z_iloadn hF (pc := 4) (n := 2) 2 rfl rfl (fm_dec dtL_bestIn 4 rfl) ?_
  refine z_callX hF (T := Tx) (g := g) (M := M) (rest := (o, .inl (G.2.2.1 1, 1, .inr (.inl f))) :: Rs) (k := 0) (ci := 10) (d' := 250) (pc := 5) (As := [.int p0, .int p1]) (st := [.int 0, .ref o]) cvL_63 (by decide) rfl rfl rfl (Nat.le_of_ble_eq_true rfl) (by decide) (by decide) (by decide) (by decide) (fm_dec dtL_bestIn 5 rfl) (fmGood.imp hx (fun o9 M' h => ?_))
  rcases o9 with v | E
  · rcases v with _ | v
    · exact False.elim h
    · cases v with
      | int v =>
        refine z_then1 ?_
        refine z_i2l hF (pc := 8) (fm_dec dtL_bestIn 6 rfl) ?_
        refine z_last hF (pc := 9) (w0 := fmL Tx (g, G.2) M') (w1 := Rs) (fm_dec dtL_bestIn 7 rfl) ?_
        refine z_goto hF (pc := 10) 17 (by decide) (fm_dec dtL_bestIn 8 rfl) ?_
        refine z_iconst hF (pc := 17) (v := 0) (by decide) (fm_dec dtL_bestIn 12 rfl) ?_
        exact z_iret hF (pc := 18) (WW := WX G g o Rs) (M', vp_updL f 0 v.toInt64) hr hlocks (by decide) (by decide) (fm_dec dtL_bestIn 13 rfl) h
      | _ => exact False.elim h
  · obtain ⟨rfl, h⟩ := h
    refine z_catch hF (name := fmIAE) [] ⟨0, 10, 13, 13⟩ [] (by rw [htab]; rfl) (fun z hz => by cases hz) (by decide) (by decide) clL_13 hF.2.2.2.2.2.1.1.2.2.2.1.1 (fun q => ?_)
    refine z_astore hF (pc := 13) (i := 4) (by decide) rfl (fm_dec dtL_bestIn 9 rfl) ?_
    refine z_iconst hF (pc := 15) (v := 1) (by decide) (fm_dec dtL_bestIn 10 rfl) ?_
    exact z_iret hF (pc := 16) (WW := WX G g o Rs) (M', f) hr hlocks (by decide) (by decide) (fm_dec dtL_bestIn 11 rfl) h
noncomputable abbrev dlL_often : List (Nat × Instr × Nat) := [(0, .aload_n 3, 1), (1, .iconst 0, 1), (2, .aload_n 0, 1), (3, .iload_n 1, 1), (4, .iload_n 2, 1), (5, .invokevirtual 66, 3), (8, .i2l, 1), (9, .lastore, 1), (10, .goto 11, 3), (13, .astore 4, 2), (15, .iconst 1, 1), (16, .ireturn, 1), (17, .astore 4, 2), (19, .iconst 2, 1), (20, .ireturn, 1), (21, .iconst 0, 1), (22, .ireturn, 1)]
theorem dtL_often : fmDec cL_often dlL_often = true := by decide +kernel
abbrev qL_often : fmY := (yL_often, cL_often, 5, some .int)
theorem nw_L_often : Cond.codeWith yL_often cL_often 5 (some .int) [(0, 10, 13, 31), (0, 10, 17, 13)] ∈ fmWs := (fm_c5 138 (by eq_refl) rfl)
theorem nst_L_often : Cond.static yL_often ∈ fmWs := (fm_c5 137 (by eq_refl) rfl)
theorem nd_L_often : yL_often.cls ≠ "java/lang/invoke/MethodHandle" ∧ yL_often.cls ≠ "java/lang/invoke/VarHandle" ∧ (parseMethodDescriptor yL_often.desc).map (fun d => d.parameters.length) = some 4 := by decide +kernel
set_option maxRecDepth 20000 in
theorem w_often {l : Launch} {G : fmG} {g : Nat → Nat} {M : fmM} {f : Nat → Int64} {o : Nat} {Rs : va_W} {Q : Int32 → fmM × (Nat → Int64) → Prop} {p0 p1 : Int32} (hst : l.stackTraces = false) (hp : pvGood Tx 250 qX10_often [.ref 0, .int p0, .int p1] M (wI f Q (fun E M' => (E = fmNSE ∧ Q 1 (M', f)) ∨ (E = fmIAE ∧ Q 2 (M', f))))) : zGood l G qL_often [(0, 10, 13, 31), (0, 10, 17, 13)] [.ref (g 0), .int p0, .int p1, .ref o] (WX G g o Rs (M, f)) (WX G g o Rs) Q := by
  have hx : fmGood Tx l (g, G.2) 250 qX10_often [.ref (g 0), .int p0, .int p1] M (wI f Q (fun E M' => (E = fmNSE ∧ Q 1 (M', f)) ∨ (E = fmIAE ∧ Q 2 (M', f)))) := fmGood.imp (pvGood.fm hst (by decide) (by decide +kernel) hp) (fun o9 M9 h9 => by obtain ⟨o', rfl, h8⟩ := h9; exact wI_to h8)
  refine zGood_of (by decide +kernel) rfl (Nat.le_of_ble_eq_true rfl) ?_
  intro p e s m args below meth c A hF htab hr hlocks
  show zEv p l e (lwRm 300 1 6) s m args below meth c G A 5 _ 0 [some (.ref (g 0)), some (.int p0), some (.int p1), some (.ref o), none] [] (WX G g o Rs (M, f)) 0 0
  refine z_aloadn hF (pc := 0) (n := 3) 3 rfl rfl (fm_dec dtL_often 0 rfl) ?_
  refine z_iconst hF (pc := 1) (v := 0) (by decide) (fm_dec dtL_often 1 rfl) ?_
  refine z_aloadn hF (pc := 2) (n := 0) 0 rfl rfl (fm_dec dtL_often 2 rfl) ?_
  refine z_iloadn hF (pc := 3) (n := 1) 1 rfl rfl (fm_dec dtL_often 3 rfl) ?_
  refine z_iloadn hF (pc := 4) (n := 2) 2 rfl rfl (fm_dec dtL_often 4 rfl) ?_
  refine z_callX hF (T := Tx) (g := g) (M := M) (rest := (o, .inl (G.2.2.1 1, 1, .inr (.inl f))) :: Rs) (k := 0) (ci := 10) (d' := 250) (pc := 5) (As := [.int p0, .int p1]) (st := [.int 0, .ref o]) cvL_66 (by decide) rfl rfl rfl (Nat.le_of_ble_eq_true rfl) (by decide) (by decide) (by decide) (by decide) (fm_dec dtL_often 5 rfl) (fmGood.imp hx (fun o9 M' h => ?_))
  rcases o9 with v | E
  · rcases v with _ | v
    · exact False.elim h
    · cases v with
      | int v =>
        refine z_then1 ?_
        refine z_i2l hF (pc := 8) (fm_dec dtL_often 6 rfl) ?_
        refine z_last hF (pc := 9) (w0 := fmL Tx (g, G.2) M') (w1 := Rs) (fm_dec dtL_often 7 rfl) ?_
        refine z_goto hF (pc := 10) 21 (by decide) (fm_dec dtL_often 8 rfl) ?_
        refine z_iconst hF (pc := 21) (v := 0) (by decide) (fm_dec dtL_often 15 rfl) ?_
        exact z_iret hF (pc := 22) (WW := WX G g o Rs) (M', vp_updL f 0 v.toInt64) hr hlocks (by decide) (by decide) (fm_dec dtL_often 16 rfl) h
      | _ => exact False.elim h
  · rcases h with ⟨rfl, h⟩ | ⟨rfl, h⟩
    · refine z_catch hF (name := fmNSE) [] ⟨0, 10, 13, 31⟩ [⟨0, 10, 17, 13⟩] (by rw [htab]; rfl) (fun z hz => by cases hz) (by decide) (by decide) clL_31 hF.2.2.2.2.2.1.1.2.2.2.1.2.1 (fun q => ?_)
      refine z_astore hF (pc := 13) (i := 4) (by decide) rfl (fm_dec dtL_often 9 rfl) ?_
      refine z_iconst hF (pc := 15) (v := 1) (by decide) (fm_dec dtL_often 10 rfl) ?_
      exact z_iret hF (pc := 16) (WW := WX G g o Rs) (M', f) hr hlocks (by decide) (by decide) (fm_dec dtL_often 11 rfl) h
    · refine z_catch hF (name := fmIAE) [⟨0, 10, 13, 31⟩] ⟨0, 10, 17, 13⟩ [] (by rw [htab]; rfl) (fun z hz => by rcases List.mem_cons.mp hz with rfl | hz; exact Or.inr ⟨by decide, _, clL_31, hF.2.2.2.2.2.1.1.2.2.2.1.2.2.1⟩; cases hz) (by decide) (by decide) clL_13 hF.2.2.2.2.2.1.1.2.2.2.1.1 (fun q => ?_)
      refine z_astore hF (pc := 17) (i := 4) (by decide) rfl (fm_dec dtL_often 12 rfl) ?_
      refine z_iconst hF (pc := 19) (v := 2) (by decide) (fm_dec dtL_often 13 rfl) ?_
      exact z_iret hF (pc := 20) (WW := WX G g o Rs) (M', f) hr hlocks (by decide) (by decide) (fm_dec dtL_often 14 rfl) h
noncomputable abbrev dlL_yearly : List (Nat × Instr × Nat) := [(0, .aload 5, 2), (2, .iconst 0, 1), (3, .aload_n 0, 1), (4, .iload_n 1, 1), (5, .iload_n 2, 1), (6, .iload_n 3, 1), (7, .iload 4, 2), (9, .invokevirtual 69, 3), (12, .lastore, 1), (13, .goto 11, 3), (16, .astore 6, 2), (18, .iconst 1, 1), (19, .ireturn, 1), (20, .astore 6, 2), (22, .iconst 2, 1), (23, .ireturn, 1), (24, .iconst 0, 1), (25, .ireturn, 1)]
theorem dtL_yearly : fmDec cL_yearly dlL_yearly = true := by decide +kernel
abbrev qL_yearly : fmY := (yL_yearly, cL_yearly, 7, some .int)
theorem nw_L_yearly : Cond.codeWith yL_yearly cL_yearly 7 (some .int) [(0, 13, 16, 31), (0, 13, 20, 13)] ∈ fmWs := (fm_c5 153 (by eq_refl) rfl)
theorem nst_L_yearly : Cond.static yL_yearly ∈ fmWs := (fm_c5 152 (by eq_refl) rfl)
theorem nd_L_yearly : yL_yearly.cls ≠ "java/lang/invoke/MethodHandle" ∧ yL_yearly.cls ≠ "java/lang/invoke/VarHandle" ∧ (parseMethodDescriptor yL_yearly.desc).map (fun d => d.parameters.length) = some 6 := by decide +kernel
set_option maxRecDepth 20000 in
theorem w_yearly {l : Launch} {G : fmG} {g : Nat → Nat} {M : fmM} {f : Nat → Int64} {o : Nat} {Rs : va_W} {Q : Int32 → fmM × (Nat → Int64) → Prop} {p0 p1 p2 p3 : Int32} (hst : l.stackTraces = false) (hp : pvGood Tx 250 qX10_yearly [.ref 0, .int p0, .int p1, .int p2, .int p3] M (wJ f Q (fun E M' => (E = fmNSE ∧ Q 1 (M', f)) ∨ (E = fmIAE ∧ Q 2 (M', f))))) : zGood l G qL_yearly [(0, 13, 16, 31), (0, 13, 20, 13)] [.ref (g 0), .int p0, .int p1, .int p2, .int p3, .ref o] (WX G g o Rs (M, f)) (WX G g o Rs) Q := by
  have hx : fmGood Tx l (g, G.2) 250 qX10_yearly [.ref (g 0), .int p0, .int p1, .int p2, .int p3] M (wJ f Q (fun E M' => (E = fmNSE ∧ Q 1 (M', f)) ∨ (E = fmIAE ∧ Q 2 (M', f)))) := fmGood.imp (pvGood.fm hst (by decide) (by decide +kernel) hp) (fun o9 M9 h9 => by obtain ⟨o', rfl, h8⟩ := h9; exact wJ_to h8)
  refine zGood_of (by decide +kernel) rfl (Nat.le_of_ble_eq_true rfl) ?_
  intro p e s m args below meth c A hF htab hr hlocks
  show zEv p l e (lwRm 300 1 6) s m args below meth c G A 7 _ 0 [some (.ref (g 0)), some (.int p0), some (.int p1), some (.int p2), some (.int p3), some (.ref o), none] [] (WX G g o Rs (M, f)) 0 0
  refine z_aload hF (pc := 0) (i := 5) rfl (fm_dec dtL_yearly 0 rfl) ?_
  refine z_iconst hF (pc := 2) (v := 0) (by decide) (fm_dec dtL_yearly 1 rfl) ?_
  refine z_aloadn hF (pc := 3) (n := 0) 0 rfl rfl (fm_dec dtL_yearly 2 rfl) ?_
  refine z_iloadn hF (pc := 4) (n := 1) 1 rfl rfl (fm_dec dtL_yearly 3 rfl) ?_
  refine z_iloadn hF (pc := 5) (n := 2) 2 rfl rfl (fm_dec dtL_yearly 4 rfl) ?_
  refine z_iloadn hF (pc := 6) (n := 3) 3 rfl rfl (fm_dec dtL_yearly 5 rfl) ?_
  refine z_iload hF (pc := 7) (i := 4) rfl (fm_dec dtL_yearly 6 rfl) ?_
  refine z_callX hF (T := Tx) (g := g) (M := M) (rest := (o, .inl (G.2.2.1 1, 1, .inr (.inl f))) :: Rs) (k := 0) (ci := 10) (d' := 250) (pc := 9) (As := [.int p0, .int p1, .int p2, .int p3]) (st := [.int 0, .ref o]) cvL_69 (by decide) rfl rfl rfl (Nat.le_of_ble_eq_true rfl) (by decide) (by decide) (by decide) (by decide) (fm_dec dtL_yearly 7 rfl) (fmGood.imp hx (fun o9 M' h => ?_))
  rcases o9 with v | E
  · rcases v with _ | v
    · exact False.elim h
    · cases v with
      | long v =>
        refine z_then1 ?_
        refine z_last hF (pc := 12) (w0 := fmL Tx (g, G.2) M') (w1 := Rs) (fm_dec dtL_yearly 8 rfl) ?_
        refine z_goto hF (pc := 13) 24 (by decide) (fm_dec dtL_yearly 9 rfl) ?_
        refine z_iconst hF (pc := 24) (v := 0) (by decide) (fm_dec dtL_yearly 16 rfl) ?_
        exact z_iret hF (pc := 25) (WW := WX G g o Rs) (M', vp_updL f 0 v) hr hlocks (by decide) (by decide) (fm_dec dtL_yearly 17 rfl) h
      | _ => exact False.elim h
  · rcases h with ⟨rfl, h⟩ | ⟨rfl, h⟩
    · refine z_catch hF (name := fmNSE) [] ⟨0, 13, 16, 31⟩ [⟨0, 13, 20, 13⟩] (by rw [htab]; rfl) (fun z hz => by cases hz) (by decide) (by decide) clL_31 hF.2.2.2.2.2.1.1.2.2.2.1.2.1 (fun q => ?_)
      refine z_astore hF (pc := 16) (i := 6) (by decide) rfl (fm_dec dtL_yearly 10 rfl) ?_
      refine z_iconst hF (pc := 18) (v := 1) (by decide) (fm_dec dtL_yearly 11 rfl) ?_
      exact z_iret hF (pc := 19) (WW := WX G g o Rs) (M', f) hr hlocks (by decide) (by decide) (fm_dec dtL_yearly 12 rfl) h
    · refine z_catch hF (name := fmIAE) [⟨0, 13, 16, 31⟩] ⟨0, 13, 20, 13⟩ [] (by rw [htab]; rfl) (fun z hz => by rcases List.mem_cons.mp hz with rfl | hz; exact Or.inr ⟨by decide, _, clL_31, hF.2.2.2.2.2.1.1.2.2.2.1.2.2.1⟩; cases hz) (by decide) (by decide) clL_13 hF.2.2.2.2.2.1.1.2.2.2.1.1 (fun q => ?_)
      refine z_astore hF (pc := 20) (i := 6) (by decide) rfl (fm_dec dtL_yearly 13 rfl) ?_
      refine z_iconst hF (pc := 22) (v := 2) (by decide) (fm_dec dtL_yearly 14 rfl) ?_
      exact z_iret hF (pc := 23) (WW := WX G g o Rs) (M', f) hr hlocks (by decide) (by decide) (fm_dec dtL_yearly 15 rfl) h
noncomputable abbrev dlL_brings : List (Nat × Instr × Nat) := [(0, .aload 7, 2), (2, .iconst 0, 1), (3, .aload_n 0, 1), (4, .iload_n 1, 1), (5, .iload_n 2, 1), (6, .iload_n 3, 1), (7, .iload 4, 2), (9, .iload 5, 2), (11, .iload 6, 2), (13, .invokevirtual 73, 3), (16, .i2l, 1), (17, .lastore, 1), (18, .goto 7, 3), (21, .astore 8, 2), (23, .iconst 1, 1), (24, .ireturn, 1), (25, .iconst 0, 1), (26, .ireturn, 1)]
theorem dtL_brings : fmDec cL_brings dlL_brings = true := by decide +kernel
abbrev qL_brings : fmY := (yL_brings, cL_brings, 9, some .int)
theorem nw_L_brings : Cond.codeWith yL_brings cL_brings 9 (some .int) [(0, 18, 21, 13)] ∈ fmWs := (fm_c5 160 (by eq_refl) rfl)
theorem nst_L_brings : Cond.static yL_brings ∈ fmWs := (fm_c5 159 (by eq_refl) rfl)
theorem nd_L_brings : yL_brings.cls ≠ "java/lang/invoke/MethodHandle" ∧ yL_brings.cls ≠ "java/lang/invoke/VarHandle" ∧ (parseMethodDescriptor yL_brings.desc).map (fun d => d.parameters.length) = some 8 := by decide +kernel
set_option maxRecDepth 20000 in
theorem w_brings {l : Launch} {G : fmG} {g : Nat → Nat} {M : fmM} {f : Nat → Int64} {o : Nat} {Rs : va_W} {Q : Int32 → fmM × (Nat → Int64) → Prop} {p0 p1 p2 p3 p4 p5 : Int32} (hst : l.stackTraces = false) (hp : pvGood Tx 250 qX10_brings [.ref 0, .int p0, .int p1, .int p2, .int p3, .int p4, .int p5] M (wI f Q (fun E M' => (E = fmIAE ∧ Q 1 (M', f))))) : zGood l G qL_brings [(0, 18, 21, 13)] [.ref (g 0), .int p0, .int p1, .int p2, .int p3, .int p4, .int p5, .ref o] (WX G g o Rs (M, f)) (WX G g o Rs) Q := by
  have hx : fmGood Tx l (g, G.2) 250 qX10_brings [.ref (g 0), .int p0, .int p1, .int p2, .int p3, .int p4, .int p5] M (wI f Q (fun E M' => (E = fmIAE ∧ Q 1 (M', f)))) := fmGood.imp (pvGood.fm hst (by decide) (by decide +kernel) hp) (fun o9 M9 h9 => by obtain ⟨o', rfl, h8⟩ := h9; exact wI_to h8)
  refine zGood_of (by decide +kernel) rfl (Nat.le_of_ble_eq_true rfl) ?_
  intro p e s m args below meth c A hF htab hr hlocks
  show zEv p l e (lwRm 300 1 6) s m args below meth c G A 9 _ 0 [some (.ref (g 0)), some (.int p0), some (.int p1), some (.int p2), some (.int p3), some (.int p4), some (.int p5), some (.ref o), none] [] (WX G g o Rs (M, f)) 0 0
  refine z_aload hF (pc := 0) (i := 7) rfl (fm_dec dtL_brings 0 rfl) ?_
  refine z_iconst hF (pc := 2) (v := 0) (by decide) (fm_dec dtL_brings 1 rfl) ?_
  refine z_aloadn hF (pc := 3) (n := 0) 0 rfl rfl (fm_dec dtL_brings 2 rfl) ?_
  refine z_iloadn hF (pc := 4) (n := 1) 1 rfl rfl (fm_dec dtL_brings 3 rfl) ?_
  refine z_iloadn hF (pc := 5) (n := 2) 2 rfl rfl (fm_dec dtL_brings 4 rfl) ?_
  refine z_iloadn hF (pc := 6) (n := 3) 3 rfl rfl (fm_dec dtL_brings 5 rfl) ?_
  refine z_iload hF (pc := 7) (i := 4) rfl (fm_dec dtL_brings 6 rfl) ?_
  refine z_iload hF (pc := 9) (i := 5) rfl (fm_dec dtL_brings 7 rfl) ?_
  refine z_iload hF (pc := 11) (i := 6) rfl (fm_dec dtL_brings 8 rfl) ?_
  refine z_callX hF (T := Tx) (g := g) (M := M) (rest := (o, .inl (G.2.2.1 1, 1, .inr (.inl f))) :: Rs) (k := 0) (ci := 10) (d' := 250) (pc := 13) (As := [.int p0, .int p1, .int p2, .int p3, .int p4, .int p5]) (st := [.int 0, .ref o]) cvL_73 (by decide) rfl rfl rfl (Nat.le_of_ble_eq_true rfl) (by decide) (by decide) (by decide) (by decide) (fm_dec dtL_brings 9 rfl) (fmGood.imp hx (fun o9 M' h => ?_))
  rcases o9 with v | E
  · rcases v with _ | v
    · exact False.elim h
    · cases v with
      | int v =>
        refine z_then1 ?_
        refine z_i2l hF (pc := 16) (fm_dec dtL_brings 10 rfl) ?_
        refine z_last hF (pc := 17) (w0 := fmL Tx (g, G.2) M') (w1 := Rs) (fm_dec dtL_brings 11 rfl) ?_
        refine z_goto hF (pc := 18) 25 (by decide) (fm_dec dtL_brings 12 rfl) ?_
        refine z_iconst hF (pc := 25) (v := 0) (by decide) (fm_dec dtL_brings 16 rfl) ?_
        exact z_iret hF (pc := 26) (WW := WX G g o Rs) (M', vp_updL f 0 v.toInt64) hr hlocks (by decide) (by decide) (fm_dec dtL_brings 17 rfl) h
      | _ => exact False.elim h
  · obtain ⟨rfl, h⟩ := h
    refine z_catch hF (name := fmIAE) [] ⟨0, 18, 21, 13⟩ [] (by rw [htab]; rfl) (fun z hz => by cases hz) (by decide) (by decide) clL_13 hF.2.2.2.2.2.1.1.2.2.2.1.1 (fun q => ?_)
    refine z_astore hF (pc := 21) (i := 8) (by decide) rfl (fm_dec dtL_brings 13 rfl) ?_
    refine z_iconst hF (pc := 23) (v := 1) (by decide) (fm_dec dtL_brings 14 rfl) ?_
    exact z_iret hF (pc := 24) (WW := WX G g o Rs) (M', f) hr hlocks (by decide) (by decide) (fm_dec dtL_brings 15 rfl) h
noncomputable abbrev dlL_says : List (Nat × Instr × Nat) := [(0, .aload 6, 2), (2, .iconst 0, 1), (3, .aload_n 0, 1), (4, .iload_n 1, 1), (5, .iload_n 2, 1), (6, .iload_n 3, 1), (7, .iload 4, 2), (9, .iload 5, 2), (11, .invokevirtual 77, 3), (14, .i2l, 1), (15, .lastore, 1), (16, .goto 7, 3), (19, .astore 7, 2), (21, .iconst 1, 1), (22, .ireturn, 1), (23, .iconst 0, 1), (24, .ireturn, 1)]
theorem dtL_says : fmDec cL_says dlL_says = true := by decide +kernel
abbrev qL_says : fmY := (yL_says, cL_says, 8, some .int)
theorem nw_L_says : Cond.codeWith yL_says cL_says 8 (some .int) [(0, 16, 19, 13)] ∈ fmWs := (fm_c5 174 (by eq_refl) rfl)
theorem nst_L_says : Cond.static yL_says ∈ fmWs := (fm_c5 173 (by eq_refl) rfl)
theorem nd_L_says : yL_says.cls ≠ "java/lang/invoke/MethodHandle" ∧ yL_says.cls ≠ "java/lang/invoke/VarHandle" ∧ (parseMethodDescriptor yL_says.desc).map (fun d => d.parameters.length) = some 7 := by decide +kernel
set_option maxRecDepth 20000 in
theorem w_says {l : Launch} {G : fmG} {g : Nat → Nat} {M : fmM} {f : Nat → Int64} {o : Nat} {Rs : va_W} {Q : Int32 → fmM × (Nat → Int64) → Prop} {p0 p1 p2 p3 p4 : Int32} (hst : l.stackTraces = false) (hp : pvGood Tx 250 qX10_says [.ref 0, .int p0, .int p1, .int p2, .int p3, .int p4] M (wI f Q (fun E M' => (E = fmIAE ∧ Q 1 (M', f))))) : zGood l G qL_says [(0, 16, 19, 13)] [.ref (g 0), .int p0, .int p1, .int p2, .int p3, .int p4, .ref o] (WX G g o Rs (M, f)) (WX G g o Rs) Q := by
  have hx : fmGood Tx l (g, G.2) 250 qX10_says [.ref (g 0), .int p0, .int p1, .int p2, .int p3, .int p4] M (wI f Q (fun E M' => (E = fmIAE ∧ Q 1 (M', f)))) := fmGood.imp (pvGood.fm hst (by decide) (by decide +kernel) hp) (fun o9 M9 h9 => by obtain ⟨o', rfl, h8⟩ := h9; exact wI_to h8)
  refine zGood_of (by decide +kernel) rfl (Nat.le_of_ble_eq_true rfl) ?_
  intro p e s m args below meth c A hF htab hr hlocks
  show zEv p l e (lwRm 300 1 6) s m args below meth c G A 8 _ 0 [some (.ref (g 0)), some (.int p0), some (.int p1), some (.int p2), some (.int p3), some (.int p4), some (.ref o), none] [] (WX G g o Rs (M, f)) 0 0
  refine z_aload hF (pc := 0) (i := 6) rfl (fm_dec dtL_says 0 rfl) ?_
  refine z_iconst hF (pc := 2) (v := 0) (by decide) (fm_dec dtL_says 1 rfl) ?_
  refine z_aloadn hF (pc := 3) (n := 0) 0 rfl rfl (fm_dec dtL_says 2 rfl) ?_
  refine z_iloadn hF (pc := 4) (n := 1) 1 rfl rfl (fm_dec dtL_says 3 rfl) ?_
  refine z_iloadn hF (pc := 5) (n := 2) 2 rfl rfl (fm_dec dtL_says 4 rfl) ?_
  refine z_iloadn hF (pc := 6) (n := 3) 3 rfl rfl (fm_dec dtL_says 5 rfl) ?_
  refine z_iload hF (pc := 7) (i := 4) rfl (fm_dec dtL_says 6 rfl) ?_
  refine z_iload hF (pc := 9) (i := 5) rfl (fm_dec dtL_says 7 rfl) ?_
  refine z_callX hF (T := Tx) (g := g) (M := M) (rest := (o, .inl (G.2.2.1 1, 1, .inr (.inl f))) :: Rs) (k := 0) (ci := 10) (d' := 250) (pc := 11) (As := [.int p0, .int p1, .int p2, .int p3, .int p4]) (st := [.int 0, .ref o]) cvL_77 (by decide) rfl rfl rfl (Nat.le_of_ble_eq_true rfl) (by decide) (by decide) (by decide) (by decide) (fm_dec dtL_says 8 rfl) (fmGood.imp hx (fun o9 M' h => ?_))
  rcases o9 with v | E
  · rcases v with _ | v
    · exact False.elim h
    · cases v with
      | int v =>
        refine z_then1 ?_
        refine z_i2l hF (pc := 14) (fm_dec dtL_says 9 rfl) ?_
        refine z_last hF (pc := 15) (w0 := fmL Tx (g, G.2) M') (w1 := Rs) (fm_dec dtL_says 10 rfl) ?_
        refine z_goto hF (pc := 16) 23 (by decide) (fm_dec dtL_says 11 rfl) ?_
        refine z_iconst hF (pc := 23) (v := 0) (by decide) (fm_dec dtL_says 15 rfl) ?_
        exact z_iret hF (pc := 24) (WW := WX G g o Rs) (M', vp_updL f 0 v.toInt64) hr hlocks (by decide) (by decide) (fm_dec dtL_says 16 rfl) h
      | _ => exact False.elim h
  · obtain ⟨rfl, h⟩ := h
    refine z_catch hF (name := fmIAE) [] ⟨0, 16, 19, 13⟩ [] (by rw [htab]; rfl) (fun z hz => by cases hz) (by decide) (by decide) clL_13 hF.2.2.2.2.2.1.1.2.2.2.1.1 (fun q => ?_)
    refine z_astore hF (pc := 19) (i := 7) (by decide) rfl (fm_dec dtL_says 12 rfl) ?_
    refine z_iconst hF (pc := 21) (v := 1) (by decide) (fm_dec dtL_says 13 rfl) ?_
    exact z_iret hF (pc := 22) (WW := WX G g o Rs) (M', f) hr hlocks (by decide) (by decide) (fm_dec dtL_says 14 rfl) h
noncomputable abbrev dlL_line : List (Nat × Instr × Nat) := [(0, .aload 5, 2), (2, .iconst 0, 1), (3, .aload_n 0, 1), (4, .iload_n 1, 1), (5, .iload_n 2, 1), (6, .iload_n 3, 1), (7, .iload 4, 2), (9, .invokevirtual 80, 3), (12, .i2l, 1), (13, .lastore, 1), (14, .goto 7, 3), (17, .astore 6, 2), (19, .iconst 1, 1), (20, .ireturn, 1), (21, .iconst 0, 1), (22, .ireturn, 1)]
theorem dtL_line : fmDec cL_line dlL_line = true := by decide +kernel
abbrev qL_line : fmY := (yL_line, cL_line, 7, some .int)
theorem nw_L_line : Cond.codeWith yL_line cL_line 7 (some .int) [(0, 14, 17, 13)] ∈ fmWs := (fm_c5 184 (by eq_refl) rfl)
theorem nst_L_line : Cond.static yL_line ∈ fmWs := (fm_c5 183 (by eq_refl) rfl)
theorem nd_L_line : yL_line.cls ≠ "java/lang/invoke/MethodHandle" ∧ yL_line.cls ≠ "java/lang/invoke/VarHandle" ∧ (parseMethodDescriptor yL_line.desc).map (fun d => d.parameters.length) = some 6 := by decide +kernel
set_option maxRecDepth 20000 in
theorem w_line {l : Launch} {G : fmG} {g : Nat → Nat} {M : fmM} {f : Nat → Int64} {o : Nat} {Rs : va_W} {Q : Int32 → fmM × (Nat → Int64) → Prop} {p0 p1 p2 p3 : Int32} (hst : l.stackTraces = false) (hp : pvGood Tx 250 qX10_line [.ref 0, .int p0, .int p1, .int p2, .int p3] M (wI f Q (fun E M' => (E = fmIAE ∧ Q 1 (M', f))))) : zGood l G qL_line [(0, 14, 17, 13)] [.ref (g 0), .int p0, .int p1, .int p2, .int p3, .ref o] (WX G g o Rs (M, f)) (WX G g o Rs) Q := by
  have hx : fmGood Tx l (g, G.2) 250 qX10_line [.ref (g 0), .int p0, .int p1, .int p2, .int p3] M (wI f Q (fun E M' => (E = fmIAE ∧ Q 1 (M', f)))) := fmGood.imp (pvGood.fm hst (by decide) (by decide +kernel) hp) (fun o9 M9 h9 => by obtain ⟨o', rfl, h8⟩ := h9; exact wI_to h8)
  refine zGood_of (by decide +kernel) rfl (Nat.le_of_ble_eq_true rfl) ?_
  intro p e s m args below meth c A hF htab hr hlocks
  show zEv p l e (lwRm 300 1 6) s m args below meth c G A 7 _ 0 [some (.ref (g 0)), some (.int p0), some (.int p1), some (.int p2), some (.int p3), some (.ref o), none] [] (WX G g o Rs (M, f)) 0 0
  refine z_aload hF (pc := 0) (i := 5) rfl (fm_dec dtL_line 0 rfl) ?_
  refine z_iconst hF (pc := 2) (v := 0) (by decide) (fm_dec dtL_line 1 rfl) ?_
  refine z_aloadn hF (pc := 3) (n := 0) 0 rfl rfl (fm_dec dtL_line 2 rfl) ?_
  refine z_iloadn hF (pc := 4) (n := 1) 1 rfl rfl (fm_dec dtL_line 3 rfl) ?_
  refine z_iloadn hF (pc := 5) (n := 2) 2 rfl rfl (fm_dec dtL_line 4 rfl) ?_
  refine z_iloadn hF (pc := 6) (n := 3) 3 rfl rfl (fm_dec dtL_line 5 rfl) ?_
  refine z_iload hF (pc := 7) (i := 4) rfl (fm_dec dtL_line 6 rfl) ?_
  refine z_callX hF (T := Tx) (g := g) (M := M) (rest := (o, .inl (G.2.2.1 1, 1, .inr (.inl f))) :: Rs) (k := 0) (ci := 10) (d' := 250) (pc := 9) (As := [.int p0, .int p1, .int p2, .int p3]) (st := [.int 0, .ref o]) cvL_80 (by decide) rfl rfl rfl (Nat.le_of_ble_eq_true rfl) (by decide) (by decide) (by decide) (by decide) (fm_dec dtL_line 7 rfl) (fmGood.imp hx (fun o9 M' h => ?_))
  rcases o9 with v | E
  · rcases v with _ | v
    · exact False.elim h
    · cases v with
      | int v =>
        refine z_then1 ?_
        refine z_i2l hF (pc := 12) (fm_dec dtL_line 8 rfl) ?_
        refine z_last hF (pc := 13) (w0 := fmL Tx (g, G.2) M') (w1 := Rs) (fm_dec dtL_line 9 rfl) ?_
        refine z_goto hF (pc := 14) 21 (by decide) (fm_dec dtL_line 10 rfl) ?_
        refine z_iconst hF (pc := 21) (v := 0) (by decide) (fm_dec dtL_line 14 rfl) ?_
        exact z_iret hF (pc := 22) (WW := WX G g o Rs) (M', vp_updL f 0 v.toInt64) hr hlocks (by decide) (by decide) (fm_dec dtL_line 15 rfl) h
      | _ => exact False.elim h
  · obtain ⟨rfl, h⟩ := h
    refine z_catch hF (name := fmIAE) [] ⟨0, 14, 17, 13⟩ [] (by rw [htab]; rfl) (fun z hz => by cases hz) (by decide) (by decide) clL_13 hF.2.2.2.2.2.1.1.2.2.2.1.1 (fun q => ?_)
    refine z_astore hF (pc := 17) (i := 6) (by decide) rfl (fm_dec dtL_line 11 rfl) ?_
    refine z_iconst hF (pc := 19) (v := 1) (by decide) (fm_dec dtL_line 12 rfl) ?_
    exact z_iret hF (pc := 20) (WW := WX G g o Rs) (M', f) hr hlocks (by decide) (by decide) (fm_dec dtL_line 13 rfl) h
noncomputable abbrev dlL_room : List (Nat × Instr × Nat) := [(0, .aload_n 3, 1), (1, .iconst 0, 1), (2, .aload_n 0, 1), (3, .iload_n 1, 1), (4, .iload_n 2, 1), (5, .invokevirtual 84, 3), (8, .i2l, 1), (9, .lastore, 1), (10, .goto 7, 3), (13, .astore 4, 2), (15, .iconst 1, 1), (16, .ireturn, 1), (17, .iconst 0, 1), (18, .ireturn, 1)]
theorem dtL_room : fmDec cL_room dlL_room = true := by decide +kernel
abbrev qL_room : fmY := (yL_room, cL_room, 5, some .int)
theorem nw_L_room : Cond.codeWith yL_room cL_room 5 (some .int) [(0, 10, 13, 13)] ∈ fmWs := (fm_c5 191 (by eq_refl) rfl)
theorem nst_L_room : Cond.static yL_room ∈ fmWs := (fm_c5 190 (by eq_refl) rfl)
theorem nd_L_room : yL_room.cls ≠ "java/lang/invoke/MethodHandle" ∧ yL_room.cls ≠ "java/lang/invoke/VarHandle" ∧ (parseMethodDescriptor yL_room.desc).map (fun d => d.parameters.length) = some 4 := by decide +kernel
set_option maxRecDepth 20000 in
theorem w_room {l : Launch} {G : fmG} {g : Nat → Nat} {M : fmM} {f : Nat → Int64} {o : Nat} {Rs : va_W} {Q : Int32 → fmM × (Nat → Int64) → Prop} {p0 p1 : Int32} (hst : l.stackTraces = false) (hp : pvGood Tx 250 qX10_room [.ref 0, .int p0, .int p1] M (wI f Q (fun E M' => (E = fmIAE ∧ Q 1 (M', f))))) : zGood l G qL_room [(0, 10, 13, 13)] [.ref (g 0), .int p0, .int p1, .ref o] (WX G g o Rs (M, f)) (WX G g o Rs) Q := by
  have hx : fmGood Tx l (g, G.2) 250 qX10_room [.ref (g 0), .int p0, .int p1] M (wI f Q (fun E M' => (E = fmIAE ∧ Q 1 (M', f)))) := fmGood.imp (pvGood.fm hst (by decide) (by decide +kernel) hp) (fun o9 M9 h9 => by obtain ⟨o', rfl, h8⟩ := h9; exact wI_to h8)
  refine zGood_of (by decide +kernel) rfl (Nat.le_of_ble_eq_true rfl) ?_
  intro p e s m args below meth c A hF htab hr hlocks
  show zEv p l e (lwRm 300 1 6) s m args below meth c G A 5 _ 0 [some (.ref (g 0)), some (.int p0), some (.int p1), some (.ref o), none] [] (WX G g o Rs (M, f)) 0 0
  refine z_aloadn hF (pc := 0) (n := 3) 3 rfl rfl (fm_dec dtL_room 0 rfl) ?_
  refine z_iconst hF (pc := 1) (v := 0) (by decide) (fm_dec dtL_room 1 rfl) ?_
  refine z_aloadn hF (pc := 2) (n := 0) 0 rfl rfl (fm_dec dtL_room 2 rfl) ?_
  refine z_iloadn hF (pc := 3) (n := 1) 1 rfl rfl (fm_dec dtL_room 3 rfl) ?_
  refine z_iloadn hF (pc := 4) (n := 2) 2 rfl rfl (fm_dec dtL_room 4 rfl) ?_
  refine z_callX hF (T := Tx) (g := g) (M := M) (rest := (o, .inl (G.2.2.1 1, 1, .inr (.inl f))) :: Rs) (k := 0) (ci := 10) (d' := 250) (pc := 5) (As := [.int p0, .int p1]) (st := [.int 0, .ref o]) cvL_84 (by decide) rfl rfl rfl (Nat.le_of_ble_eq_true rfl) (by decide) (by decide) (by decide) (by decide) (fm_dec dtL_room 5 rfl) (fmGood.imp hx (fun o9 M' h => ?_))
  rcases o9 with v | E
  · rcases v with _ | v
    · exact False.elim h
    · cases v with
      | int v =>
        refine z_then1 ?_
        refine z_i2l hF (pc := 8) (fm_dec dtL_room 6 rfl) ?_
        refine z_last hF (pc := 9) (w0 := fmL Tx (g, G.2) M') (w1 := Rs) (fm_dec dtL_room 7 rfl) ?_
        refine z_goto hF (pc := 10) 17 (by decide) (fm_dec dtL_room 8 rfl) ?_
        refine z_iconst hF (pc := 17) (v := 0) (by decide) (fm_dec dtL_room 12 rfl) ?_
        exact z_iret hF (pc := 18) (WW := WX G g o Rs) (M', vp_updL f 0 v.toInt64) hr hlocks (by decide) (by decide) (fm_dec dtL_room 13 rfl) h
      | _ => exact False.elim h
  · obtain ⟨rfl, h⟩ := h
    refine z_catch hF (name := fmIAE) [] ⟨0, 10, 13, 13⟩ [] (by rw [htab]; rfl) (fun z hz => by cases hz) (by decide) (by decide) clL_13 hF.2.2.2.2.2.1.1.2.2.2.1.1 (fun q => ?_)
    refine z_astore hF (pc := 13) (i := 4) (by decide) rfl (fm_dec dtL_room 9 rfl) ?_
    refine z_iconst hF (pc := 15) (v := 1) (by decide) (fm_dec dtL_room 10 rfl) ?_
    exact z_iret hF (pc := 16) (WW := WX G g o Rs) (M', f) hr hlocks (by decide) (by decide) (fm_dec dtL_room 11 rfl) h
noncomputable abbrev dlL_lines : List (Nat × Instr × Nat) := [(0, .aload 4, 2), (2, .iconst 0, 1), (3, .aload_n 0, 1), (4, .iload_n 1, 1), (5, .iload_n 2, 1), (6, .iload_n 3, 1), (7, .invokevirtual 87, 3), (10, .i2l, 1), (11, .lastore, 1), (12, .goto 11, 3), (15, .astore 5, 2), (17, .iconst 1, 1), (18, .ireturn, 1), (19, .astore 5, 2), (21, .iconst 2, 1), (22, .ireturn, 1), (23, .iconst 0, 1), (24, .ireturn, 1)]
theorem dtL_lines : fmDec cL_lines dlL_lines = true := by decide +kernel
abbrev qL_lines : fmY := (yL_lines, cL_lines, 6, some .int)
theorem nw_L_lines : Cond.codeWith yL_lines cL_lines 6 (some .int) [(0, 12, 15, 31), (0, 12, 19, 13)] ∈ fmWs := (fm_c5 221 (by eq_refl) rfl)
theorem nst_L_lines : Cond.static yL_lines ∈ fmWs := (fm_c5 220 (by eq_refl) rfl)
theorem nd_L_lines : yL_lines.cls ≠ "java/lang/invoke/MethodHandle" ∧ yL_lines.cls ≠ "java/lang/invoke/VarHandle" ∧ (parseMethodDescriptor yL_lines.desc).map (fun d => d.parameters.length) = some 5 := by decide +kernel
set_option maxRecDepth 20000 in
theorem w_lines {l : Launch} {G : fmG} {g : Nat → Nat} {M : fmM} {f : Nat → Int64} {o : Nat} {Rs : va_W} {Q : Int32 → fmM × (Nat → Int64) → Prop} {p0 p1 p2 : Int32} (hst : l.stackTraces = false) (hp : pvGood Tx 250 qX10_lines [.ref 0, .int p0, .int p1, .int p2] M (wI f Q (fun E M' => (E = fmNSE ∧ Q 1 (M', f)) ∨ (E = fmIAE ∧ Q 2 (M', f))))) : zGood l G qL_lines [(0, 12, 15, 31), (0, 12, 19, 13)] [.ref (g 0), .int p0, .int p1, .int p2, .ref o] (WX G g o Rs (M, f)) (WX G g o Rs) Q := by
  have hx : fmGood Tx l (g, G.2) 250 qX10_lines [.ref (g 0), .int p0, .int p1, .int p2] M (wI f Q (fun E M' => (E = fmNSE ∧ Q 1 (M', f)) ∨ (E = fmIAE ∧ Q 2 (M', f)))) := fmGood.imp (pvGood.fm hst (by decide) (by decide +kernel) hp) (fun o9 M9 h9 => by obtain ⟨o', rfl, h8⟩ := h9; exact wI_to h8)
  refine zGood_of (by decide +kernel) rfl (Nat.le_of_ble_eq_true rfl) ?_
  intro p e s m args below meth c A hF htab hr hlocks
  show zEv p l e (lwRm 300 1 6) s m args below meth c G A 6 _ 0 [some (.ref (g 0)), some (.int p0), some (.int p1), some (.int p2), some (.ref o), none] [] (WX G g o Rs (M, f)) 0 0
  refine z_aload hF (pc := 0) (i := 4) rfl (fm_dec dtL_lines 0 rfl) ?_
  refine z_iconst hF (pc := 2) (v := 0) (by decide) (fm_dec dtL_lines 1 rfl) ?_
  refine z_aloadn hF (pc := 3) (n := 0) 0 rfl rfl (fm_dec dtL_lines 2 rfl) ?_
  refine z_iloadn hF (pc := 4) (n := 1) 1 rfl rfl (fm_dec dtL_lines 3 rfl) ?_
  refine z_iloadn hF (pc := 5) (n := 2) 2 rfl rfl (fm_dec dtL_lines 4 rfl) ?_
  refine z_iloadn hF (pc := 6) (n := 3) 3 rfl rfl (fm_dec dtL_lines 5 rfl) ?_
  refine z_callX hF (T := Tx) (g := g) (M := M) (rest := (o, .inl (G.2.2.1 1, 1, .inr (.inl f))) :: Rs) (k := 0) (ci := 10) (d' := 250) (pc := 7) (As := [.int p0, .int p1, .int p2]) (st := [.int 0, .ref o]) cvL_87 (by decide) rfl rfl rfl (Nat.le_of_ble_eq_true rfl) (by decide) (by decide) (by decide) (by decide) (fm_dec dtL_lines 6 rfl) (fmGood.imp hx (fun o9 M' h => ?_))
  rcases o9 with v | E
  · rcases v with _ | v
    · exact False.elim h
    · cases v with
      | int v =>
        refine z_then1 ?_
        refine z_i2l hF (pc := 10) (fm_dec dtL_lines 7 rfl) ?_
        refine z_last hF (pc := 11) (w0 := fmL Tx (g, G.2) M') (w1 := Rs) (fm_dec dtL_lines 8 rfl) ?_
        refine z_goto hF (pc := 12) 23 (by decide) (fm_dec dtL_lines 9 rfl) ?_
        refine z_iconst hF (pc := 23) (v := 0) (by decide) (fm_dec dtL_lines 16 rfl) ?_
        exact z_iret hF (pc := 24) (WW := WX G g o Rs) (M', vp_updL f 0 v.toInt64) hr hlocks (by decide) (by decide) (fm_dec dtL_lines 17 rfl) h
      | _ => exact False.elim h
  · rcases h with ⟨rfl, h⟩ | ⟨rfl, h⟩
    · refine z_catch hF (name := fmNSE) [] ⟨0, 12, 15, 31⟩ [⟨0, 12, 19, 13⟩] (by rw [htab]; rfl) (fun z hz => by cases hz) (by decide) (by decide) clL_31 hF.2.2.2.2.2.1.1.2.2.2.1.2.1 (fun q => ?_)
      refine z_astore hF (pc := 15) (i := 5) (by decide) rfl (fm_dec dtL_lines 10 rfl) ?_
      refine z_iconst hF (pc := 17) (v := 1) (by decide) (fm_dec dtL_lines 11 rfl) ?_
      exact z_iret hF (pc := 18) (WW := WX G g o Rs) (M', f) hr hlocks (by decide) (by decide) (fm_dec dtL_lines 12 rfl) h
    · refine z_catch hF (name := fmIAE) [⟨0, 12, 15, 31⟩] ⟨0, 12, 19, 13⟩ [] (by rw [htab]; rfl) (fun z hz => by rcases List.mem_cons.mp hz with rfl | hz; exact Or.inr ⟨by decide, _, clL_31, hF.2.2.2.2.2.1.1.2.2.2.1.2.2.1⟩; cases hz) (by decide) (by decide) clL_13 hF.2.2.2.2.2.1.1.2.2.2.1.1 (fun q => ?_)
      refine z_astore hF (pc := 19) (i := 5) (by decide) rfl (fm_dec dtL_lines 13 rfl) ?_
      refine z_iconst hF (pc := 21) (v := 2) (by decide) (fm_dec dtL_lines 14 rfl) ?_
      exact z_iret hF (pc := 22) (WW := WX G g o Rs) (M', f) hr hlocks (by decide) (by decide) (fm_dec dtL_lines 15 rfl) h
noncomputable abbrev dlL_apart : List (Nat × Instr × Nat) := [(0, .aload_n 3, 1), (1, .iconst 0, 1), (2, .aload_n 0, 1), (3, .iload_n 1, 1), (4, .iload_n 2, 1), (5, .invokevirtual 91, 3), (8, .i2l, 1), (9, .lastore, 1), (10, .goto 7, 3), (13, .astore 4, 2), (15, .iconst 1, 1), (16, .ireturn, 1), (17, .iconst 0, 1), (18, .ireturn, 1)]
theorem dtL_apart : fmDec cL_apart dlL_apart = true := by decide +kernel
abbrev qL_apart : fmY := (yL_apart, cL_apart, 5, some .int)
theorem nw_L_apart : Cond.codeWith yL_apart cL_apart 5 (some .int) [(0, 10, 13, 13)] ∈ fmWs := (fm_c5 228 (by eq_refl) rfl)
theorem nst_L_apart : Cond.static yL_apart ∈ fmWs := (fm_c5 227 (by eq_refl) rfl)
theorem nd_L_apart : yL_apart.cls ≠ "java/lang/invoke/MethodHandle" ∧ yL_apart.cls ≠ "java/lang/invoke/VarHandle" ∧ (parseMethodDescriptor yL_apart.desc).map (fun d => d.parameters.length) = some 4 := by decide +kernel
set_option maxRecDepth 20000 in
theorem w_apart {l : Launch} {G : fmG} {g : Nat → Nat} {M : fmM} {f : Nat → Int64} {o : Nat} {Rs : va_W} {Q : Int32 → fmM × (Nat → Int64) → Prop} {p0 p1 : Int32} (hst : l.stackTraces = false) (hp : pvGood Tx 250 qX10_apart [.ref 0, .int p0, .int p1] M (wI f Q (fun E M' => (E = fmIAE ∧ Q 1 (M', f))))) : zGood l G qL_apart [(0, 10, 13, 13)] [.ref (g 0), .int p0, .int p1, .ref o] (WX G g o Rs (M, f)) (WX G g o Rs) Q := by
  have hx : fmGood Tx l (g, G.2) 250 qX10_apart [.ref (g 0), .int p0, .int p1] M (wI f Q (fun E M' => (E = fmIAE ∧ Q 1 (M', f)))) := fmGood.imp (pvGood.fm hst (by decide) (by decide +kernel) hp) (fun o9 M9 h9 => by obtain ⟨o', rfl, h8⟩ := h9; exact wI_to h8)
  refine zGood_of (by decide +kernel) rfl (Nat.le_of_ble_eq_true rfl) ?_
  intro p e s m args below meth c A hF htab hr hlocks
  show zEv p l e (lwRm 300 1 6) s m args below meth c G A 5 _ 0 [some (.ref (g 0)), some (.int p0), some (.int p1), some (.ref o), none] [] (WX G g o Rs (M, f)) 0 0
  refine z_aloadn hF (pc := 0) (n := 3) 3 rfl rfl (fm_dec dtL_apart 0 rfl) ?_
  refine z_iconst hF (pc := 1) (v := 0) (by decide) (fm_dec dtL_apart 1 rfl) ?_
  refine z_aloadn hF (pc := 2) (n := 0) 0 rfl rfl (fm_dec dtL_apart 2 rfl) ?_
  refine z_iloadn hF (pc := 3) (n := 1) 1 rfl rfl (fm_dec dtL_apart 3 rfl) ?_
  refine z_iloadn hF (pc := 4) (n := 2) 2 rfl rfl (fm_dec dtL_apart 4 rfl) ?_
  refine z_callX hF (T := Tx) (g := g) (M := M) (rest := (o, .inl (G.2.2.1 1, 1, .inr (.inl f))) :: Rs) (k := 0) (ci := 10) (d' := 250) (pc := 5) (As := [.int p0, .int p1]) (st := [.int 0, .ref o]) cvL_91 (by decide) rfl rfl rfl (Nat.le_of_ble_eq_true rfl) (by decide) (by decide) (by decide) (by decide) (fm_dec dtL_apart 5 rfl) (fmGood.imp hx (fun o9 M' h => ?_))
  rcases o9 with v | E
  · rcases v with _ | v
    · exact False.elim h
    · cases v with
      | int v =>
        refine z_then1 ?_
        refine z_i2l hF (pc := 8) (fm_dec dtL_apart 6 rfl) ?_
        refine z_last hF (pc := 9) (w0 := fmL Tx (g, G.2) M') (w1 := Rs) (fm_dec dtL_apart 7 rfl) ?_
        refine z_goto hF (pc := 10) 17 (by decide) (fm_dec dtL_apart 8 rfl) ?_
        refine z_iconst hF (pc := 17) (v := 0) (by decide) (fm_dec dtL_apart 12 rfl) ?_
        exact z_iret hF (pc := 18) (WW := WX G g o Rs) (M', vp_updL f 0 v.toInt64) hr hlocks (by decide) (by decide) (fm_dec dtL_apart 13 rfl) h
      | _ => exact False.elim h
  · obtain ⟨rfl, h⟩ := h
    refine z_catch hF (name := fmIAE) [] ⟨0, 10, 13, 13⟩ [] (by rw [htab]; rfl) (fun z hz => by cases hz) (by decide) (by decide) clL_13 hF.2.2.2.2.2.1.1.2.2.2.1.1 (fun q => ?_)
    refine z_astore hF (pc := 13) (i := 4) (by decide) rfl (fm_dec dtL_apart 9 rfl) ?_
    refine z_iconst hF (pc := 15) (v := 1) (by decide) (fm_dec dtL_apart 10 rfl) ?_
    exact z_iret hF (pc := 16) (WW := WX G g o Rs) (M', f) hr hlocks (by decide) (by decide) (fm_dec dtL_apart 11 rfl) h
noncomputable abbrev dlL_written : List (Nat × Instr × Nat) := [(0, .aload_n 2, 1), (1, .iconst 0, 1), (2, .aload_n 0, 1), (3, .iload_n 1, 1), (4, .invokevirtual 94, 3), (7, .lastore, 1), (8, .goto 6, 3), (11, .astore_n 3, 1), (12, .iconst 1, 1), (13, .ireturn, 1), (14, .iconst 0, 1), (15, .ireturn, 1)]
theorem dtL_written : fmDec cL_written dlL_written = true := by decide +kernel
abbrev qL_written : fmY := (yL_written, cL_written, 4, some .int)
theorem nw_L_written : Cond.codeWith yL_written cL_written 4 (some .int) [(0, 8, 11, 31)] ∈ fmWs := (fm_c5 239 (by eq_refl) rfl)
theorem nst_L_written : Cond.static yL_written ∈ fmWs := (fm_c5 238 (by eq_refl) rfl)
theorem nd_L_written : yL_written.cls ≠ "java/lang/invoke/MethodHandle" ∧ yL_written.cls ≠ "java/lang/invoke/VarHandle" ∧ (parseMethodDescriptor yL_written.desc).map (fun d => d.parameters.length) = some 3 := by decide +kernel
set_option maxRecDepth 20000 in
theorem w_written {l : Launch} {G : fmG} {g : Nat → Nat} {M : fmM} {f : Nat → Int64} {o : Nat} {Rs : va_W} {Q : Int32 → fmM × (Nat → Int64) → Prop} {p0 : Int32} (hst : l.stackTraces = false) (hp : pvGood Tx 250 qX10_written [.ref 0, .int p0] M (wJ f Q (fun E M' => (E = fmNSE ∧ Q 1 (M', f))))) : zGood l G qL_written [(0, 8, 11, 31)] [.ref (g 0), .int p0, .ref o] (WX G g o Rs (M, f)) (WX G g o Rs) Q := by
  have hx : fmGood Tx l (g, G.2) 250 qX10_written [.ref (g 0), .int p0] M (wJ f Q (fun E M' => (E = fmNSE ∧ Q 1 (M', f)))) := fmGood.imp (pvGood.fm hst (by decide) (by decide +kernel) hp) (fun o9 M9 h9 => by obtain ⟨o', rfl, h8⟩ := h9; exact wJ_to h8)
  refine zGood_of (by decide +kernel) rfl (Nat.le_of_ble_eq_true rfl) ?_
  intro p e s m args below meth c A hF htab hr hlocks
  show zEv p l e (lwRm 300 1 6) s m args below meth c G A 4 _ 0 [some (.ref (g 0)), some (.int p0), some (.ref o), none] [] (WX G g o Rs (M, f)) 0 0
  refine z_aloadn hF (pc := 0) (n := 2) 2 rfl rfl (fm_dec dtL_written 0 rfl) ?_
  refine z_iconst hF (pc := 1) (v := 0) (by decide) (fm_dec dtL_written 1 rfl) ?_
  refine z_aloadn hF (pc := 2) (n := 0) 0 rfl rfl (fm_dec dtL_written 2 rfl) ?_
  refine z_iloadn hF (pc := 3) (n := 1) 1 rfl rfl (fm_dec dtL_written 3 rfl) ?_
  refine z_callX hF (T := Tx) (g := g) (M := M) (rest := (o, .inl (G.2.2.1 1, 1, .inr (.inl f))) :: Rs) (k := 0) (ci := 10) (d' := 250) (pc := 4) (As := [.int p0]) (st := [.int 0, .ref o]) cvL_94 (by decide) rfl rfl rfl (Nat.le_of_ble_eq_true rfl) (by decide) (by decide) (by decide) (by decide) (fm_dec dtL_written 4 rfl) (fmGood.imp hx (fun o9 M' h => ?_))
  rcases o9 with v | E
  · rcases v with _ | v
    · exact False.elim h
    · cases v with
      | long v =>
        refine z_then1 ?_
        refine z_last hF (pc := 7) (w0 := fmL Tx (g, G.2) M') (w1 := Rs) (fm_dec dtL_written 5 rfl) ?_
        refine z_goto hF (pc := 8) 14 (by decide) (fm_dec dtL_written 6 rfl) ?_
        refine z_iconst hF (pc := 14) (v := 0) (by decide) (fm_dec dtL_written 10 rfl) ?_
        exact z_iret hF (pc := 15) (WW := WX G g o Rs) (M', vp_updL f 0 v) hr hlocks (by decide) (by decide) (fm_dec dtL_written 11 rfl) h
      | _ => exact False.elim h
  · obtain ⟨rfl, h⟩ := h
    refine z_catch hF (name := fmNSE) [] ⟨0, 8, 11, 31⟩ [] (by rw [htab]; rfl) (fun z hz => by cases hz) (by decide) (by decide) clL_31 hF.2.2.2.2.2.1.1.2.2.2.1.2.1 (fun q => ?_)
    refine z_astoren hF (pc := 11) (n := 3) 3 rfl (by decide) rfl (fm_dec dtL_written 7 rfl) ?_
    refine z_iconst hF (pc := 12) (v := 1) (by decide) (fm_dec dtL_written 8 rfl) ?_
    exact z_iret hF (pc := 13) (WW := WX G g o Rs) (M', f) hr hlocks (by decide) (by decide) (fm_dec dtL_written 9 rfl) h
noncomputable abbrev dlL_ahead : List (Nat × Instr × Nat) := [(0, .aload_n 3, 1), (1, .iconst 0, 1), (2, .aload_n 0, 1), (3, .iload_n 1, 1), (4, .iload_n 2, 1), (5, .invokevirtual 97, 3), (8, .lastore, 1), (9, .goto 7, 3), (12, .astore 4, 2), (14, .iconst 1, 1), (15, .ireturn, 1), (16, .iconst 0, 1), (17, .ireturn, 1)]
theorem dtL_ahead : fmDec cL_ahead dlL_ahead = true := by decide +kernel
abbrev qL_ahead : fmY := (yL_ahead, cL_ahead, 5, some .int)
theorem nw_L_ahead : Cond.codeWith yL_ahead cL_ahead 5 (some .int) [(0, 9, 12, 13)] ∈ fmWs := (fm_c6 6 (by eq_refl) rfl)
theorem nst_L_ahead : Cond.static yL_ahead ∈ fmWs := (fm_c6 5 (by eq_refl) rfl)
theorem nd_L_ahead : yL_ahead.cls ≠ "java/lang/invoke/MethodHandle" ∧ yL_ahead.cls ≠ "java/lang/invoke/VarHandle" ∧ (parseMethodDescriptor yL_ahead.desc).map (fun d => d.parameters.length) = some 4 := by decide +kernel
set_option maxRecDepth 20000 in
theorem w_ahead {l : Launch} {G : fmG} {g : Nat → Nat} {M : fmM} {f : Nat → Int64} {o : Nat} {Rs : va_W} {Q : Int32 → fmM × (Nat → Int64) → Prop} {p0 p1 : Int32} (hst : l.stackTraces = false) (hp : pvGood Tx 250 qX10_ahead [.ref 0, .int p0, .int p1] M (wJ f Q (fun E M' => (E = fmIAE ∧ Q 1 (M', f))))) : zGood l G qL_ahead [(0, 9, 12, 13)] [.ref (g 0), .int p0, .int p1, .ref o] (WX G g o Rs (M, f)) (WX G g o Rs) Q := by
  have hx : fmGood Tx l (g, G.2) 250 qX10_ahead [.ref (g 0), .int p0, .int p1] M (wJ f Q (fun E M' => (E = fmIAE ∧ Q 1 (M', f)))) := fmGood.imp (pvGood.fm hst (by decide) (by decide +kernel) hp) (fun o9 M9 h9 => by obtain ⟨o', rfl, h8⟩ := h9; exact wJ_to h8)
  refine zGood_of (by decide +kernel) rfl (Nat.le_of_ble_eq_true rfl) ?_
  intro p e s m args below meth c A hF htab hr hlocks
  show zEv p l e (lwRm 300 1 6) s m args below meth c G A 5 _ 0 [some (.ref (g 0)), some (.int p0), some (.int p1), some (.ref o), none] [] (WX G g o Rs (M, f)) 0 0
  refine z_aloadn hF (pc := 0) (n := 3) 3 rfl rfl (fm_dec dtL_ahead 0 rfl) ?_
  refine z_iconst hF (pc := 1) (v := 0) (by decide) (fm_dec dtL_ahead 1 rfl) ?_
  refine z_aloadn hF (pc := 2) (n := 0) 0 rfl rfl (fm_dec dtL_ahead 2 rfl) ?_
  refine z_iloadn hF (pc := 3) (n := 1) 1 rfl rfl (fm_dec dtL_ahead 3 rfl) ?_
  refine z_iloadn hF (pc := 4) (n := 2) 2 rfl rfl (fm_dec dtL_ahead 4 rfl) ?_
  refine z_callX hF (T := Tx) (g := g) (M := M) (rest := (o, .inl (G.2.2.1 1, 1, .inr (.inl f))) :: Rs) (k := 0) (ci := 10) (d' := 250) (pc := 5) (As := [.int p0, .int p1]) (st := [.int 0, .ref o]) cvL_97 (by decide) rfl rfl rfl (Nat.le_of_ble_eq_true rfl) (by decide) (by decide) (by decide) (by decide) (fm_dec dtL_ahead 5 rfl) (fmGood.imp hx (fun o9 M' h => ?_))
  rcases o9 with v | E
  · rcases v with _ | v
    · exact False.elim h
    · cases v with
      | long v =>
        refine z_then1 ?_
        refine z_last hF (pc := 8) (w0 := fmL Tx (g, G.2) M') (w1 := Rs) (fm_dec dtL_ahead 6 rfl) ?_
        refine z_goto hF (pc := 9) 16 (by decide) (fm_dec dtL_ahead 7 rfl) ?_
        refine z_iconst hF (pc := 16) (v := 0) (by decide) (fm_dec dtL_ahead 11 rfl) ?_
        exact z_iret hF (pc := 17) (WW := WX G g o Rs) (M', vp_updL f 0 v) hr hlocks (by decide) (by decide) (fm_dec dtL_ahead 12 rfl) h
      | _ => exact False.elim h
  · obtain ⟨rfl, h⟩ := h
    refine z_catch hF (name := fmIAE) [] ⟨0, 9, 12, 13⟩ [] (by rw [htab]; rfl) (fun z hz => by cases hz) (by decide) (by decide) clL_13 hF.2.2.2.2.2.1.1.2.2.2.1.1 (fun q => ?_)
    refine z_astore hF (pc := 12) (i := 4) (by decide) rfl (fm_dec dtL_ahead 8 rfl) ?_
    refine z_iconst hF (pc := 14) (v := 1) (by decide) (fm_dec dtL_ahead 9 rfl) ?_
    exact z_iret hF (pc := 15) (WW := WX G g o Rs) (M', f) hr hlocks (by decide) (by decide) (fm_dec dtL_ahead 10 rfl) h
noncomputable abbrev dlL_lives : List (Nat × Instr × Nat) := [(0, .aload 4, 2), (2, .iconst 0, 1), (3, .aload_n 0, 1), (4, .iload_n 1, 1), (5, .iload_n 2, 1), (6, .iload_n 3, 1), (7, .invokevirtual 100, 3), (10, .lastore, 1), (11, .goto 11, 3), (14, .astore 5, 2), (16, .iconst 1, 1), (17, .ireturn, 1), (18, .astore 5, 2), (20, .iconst 2, 1), (21, .ireturn, 1), (22, .iconst 0, 1), (23, .ireturn, 1)]
theorem dtL_lives : fmDec cL_lives dlL_lives = true := by decide +kernel
abbrev qL_lives : fmY := (yL_lives, cL_lives, 6, some .int)
theorem nw_L_lives : Cond.codeWith yL_lives cL_lives 6 (some .int) [(0, 11, 14, 31), (0, 11, 18, 13)] ∈ fmWs := (fm_c6 13 (by eq_refl) rfl)
theorem nst_L_lives : Cond.static yL_lives ∈ fmWs := (fm_c6 12 (by eq_refl) rfl)
theorem nd_L_lives : yL_lives.cls ≠ "java/lang/invoke/MethodHandle" ∧ yL_lives.cls ≠ "java/lang/invoke/VarHandle" ∧ (parseMethodDescriptor yL_lives.desc).map (fun d => d.parameters.length) = some 5 := by decide +kernel
set_option maxRecDepth 20000 in
theorem w_lives {l : Launch} {G : fmG} {g : Nat → Nat} {M : fmM} {f : Nat → Int64} {o : Nat} {Rs : va_W} {Q : Int32 → fmM × (Nat → Int64) → Prop} {p0 p1 p2 : Int32} (hst : l.stackTraces = false) (hp : pvGood Tx 250 qX10_lives [.ref 0, .int p0, .int p1, .int p2] M (wJ f Q (fun E M' => (E = fmNSE ∧ Q 1 (M', f)) ∨ (E = fmIAE ∧ Q 2 (M', f))))) : zGood l G qL_lives [(0, 11, 14, 31), (0, 11, 18, 13)] [.ref (g 0), .int p0, .int p1, .int p2, .ref o] (WX G g o Rs (M, f)) (WX G g o Rs) Q := by
  have hx : fmGood Tx l (g, G.2) 250 qX10_lives [.ref (g 0), .int p0, .int p1, .int p2] M (wJ f Q (fun E M' => (E = fmNSE ∧ Q 1 (M', f)) ∨ (E = fmIAE ∧ Q 2 (M', f)))) := fmGood.imp (pvGood.fm hst (by decide) (by decide +kernel) hp) (fun o9 M9 h9 => by obtain ⟨o', rfl, h8⟩ := h9; exact wJ_to h8)
  refine zGood_of (by decide +kernel) rfl (Nat.le_of_ble_eq_true rfl) ?_
  intro p e s m args below meth c A hF htab hr hlocks
  show zEv p l e (lwRm 300 1 6) s m args below meth c G A 6 _ 0 [some (.ref (g 0)), some (.int p0), some (.int p1), some (.int p2), some (.ref o), none] [] (WX G g o Rs (M, f)) 0 0
  refine z_aload hF (pc := 0) (i := 4) rfl (fm_dec dtL_lives 0 rfl) ?_
  refine z_iconst hF (pc := 2) (v := 0) (by decide) (fm_dec dtL_lives 1 rfl) ?_
  refine z_aloadn hF (pc := 3) (n := 0) 0 rfl rfl (fm_dec dtL_lives 2 rfl) ?_
  refine z_iloadn hF (pc := 4) (n := 1) 1 rfl rfl (fm_dec dtL_lives 3 rfl) ?_
  refine z_iloadn hF (pc := 5) (n := 2) 2 rfl rfl (fm_dec dtL_lives 4 rfl) ?_
  refine z_iloadn hF (pc := 6) (n := 3) 3 rfl rfl (fm_dec dtL_lives 5 rfl) ?_
  refine z_callX hF (T := Tx) (g := g) (M := M) (rest := (o, .inl (G.2.2.1 1, 1, .inr (.inl f))) :: Rs) (k := 0) (ci := 10) (d' := 250) (pc := 7) (As := [.int p0, .int p1, .int p2]) (st := [.int 0, .ref o]) cvL_100 (by decide) rfl rfl rfl (Nat.le_of_ble_eq_true rfl) (by decide) (by decide) (by decide) (by decide) (fm_dec dtL_lives 6 rfl) (fmGood.imp hx (fun o9 M' h => ?_))
  rcases o9 with v | E
  · rcases v with _ | v
    · exact False.elim h
    · cases v with
      | long v =>
        refine z_then1 ?_
        refine z_last hF (pc := 10) (w0 := fmL Tx (g, G.2) M') (w1 := Rs) (fm_dec dtL_lives 7 rfl) ?_
        refine z_goto hF (pc := 11) 22 (by decide) (fm_dec dtL_lives 8 rfl) ?_
        refine z_iconst hF (pc := 22) (v := 0) (by decide) (fm_dec dtL_lives 15 rfl) ?_
        exact z_iret hF (pc := 23) (WW := WX G g o Rs) (M', vp_updL f 0 v) hr hlocks (by decide) (by decide) (fm_dec dtL_lives 16 rfl) h
      | _ => exact False.elim h
  · rcases h with ⟨rfl, h⟩ | ⟨rfl, h⟩
    · refine z_catch hF (name := fmNSE) [] ⟨0, 11, 14, 31⟩ [⟨0, 11, 18, 13⟩] (by rw [htab]; rfl) (fun z hz => by cases hz) (by decide) (by decide) clL_31 hF.2.2.2.2.2.1.1.2.2.2.1.2.1 (fun q => ?_)
      refine z_astore hF (pc := 14) (i := 5) (by decide) rfl (fm_dec dtL_lives 9 rfl) ?_
      refine z_iconst hF (pc := 16) (v := 1) (by decide) (fm_dec dtL_lives 10 rfl) ?_
      exact z_iret hF (pc := 17) (WW := WX G g o Rs) (M', f) hr hlocks (by decide) (by decide) (fm_dec dtL_lives 11 rfl) h
    · refine z_catch hF (name := fmIAE) [⟨0, 11, 14, 31⟩] ⟨0, 11, 18, 13⟩ [] (by rw [htab]; rfl) (fun z hz => by rcases List.mem_cons.mp hz with rfl | hz; exact Or.inr ⟨by decide, _, clL_31, hF.2.2.2.2.2.1.1.2.2.2.1.2.2.1⟩; cases hz) (by decide) (by decide) clL_13 hF.2.2.2.2.2.1.1.2.2.2.1.1 (fun q => ?_)
      refine z_astore hF (pc := 18) (i := 5) (by decide) rfl (fm_dec dtL_lives 12 rfl) ?_
      refine z_iconst hF (pc := 20) (v := 2) (by decide) (fm_dec dtL_lives 13 rfl) ?_
      exact z_iret hF (pc := 21) (WW := WX G g o Rs) (M', f) hr hlocks (by decide) (by decide) (fm_dec dtL_lives 14 rfl) h
noncomputable abbrev dlL_chain : List (Nat × Instr × Nat) := [(0, .aload_n 3, 1), (1, .iconst 0, 1), (2, .aload_n 0, 1), (3, .iload_n 1, 1), (4, .iload_n 2, 1), (5, .invokevirtual 104, 3), (8, .i2l, 1), (9, .lastore, 1), (10, .goto 11, 3), (13, .astore 4, 2), (15, .iconst 1, 1), (16, .ireturn, 1), (17, .astore 4, 2), (19, .iconst 2, 1), (20, .ireturn, 1), (21, .iconst 0, 1), (22, .ireturn, 1)]
theorem dtL_chain : fmDec cL_chain dlL_chain = true := by decide +kernel
abbrev qL_chain : fmY := (yL_chain, cL_chain, 5, some .int)
theorem nw_L_chain : Cond.codeWith yL_chain cL_chain 5 (some .int) [(0, 10, 13, 31), (0, 10, 17, 13)] ∈ fmWs := (fm_c6 20 (by eq_refl) rfl)
theorem nst_L_chain : Cond.static yL_chain ∈ fmWs := (fm_c6 19 (by eq_refl) rfl)
theorem nd_L_chain : yL_chain.cls ≠ "java/lang/invoke/MethodHandle" ∧ yL_chain.cls ≠ "java/lang/invoke/VarHandle" ∧ (parseMethodDescriptor yL_chain.desc).map (fun d => d.parameters.length) = some 4 := by decide +kernel
set_option maxRecDepth 20000 in
theorem w_chain {l : Launch} {G : fmG} {g : Nat → Nat} {M : fmM} {f : Nat → Int64} {o : Nat} {Rs : va_W} {Q : Int32 → fmM × (Nat → Int64) → Prop} {p0 p1 : Int32} (hst : l.stackTraces = false) (hp : pvGood Tx 250 qX10_chain [.ref 0, .int p0, .int p1] M (wI f Q (fun E M' => (E = fmNSE ∧ Q 1 (M', f)) ∨ (E = fmIAE ∧ Q 2 (M', f))))) : zGood l G qL_chain [(0, 10, 13, 31), (0, 10, 17, 13)] [.ref (g 0), .int p0, .int p1, .ref o] (WX G g o Rs (M, f)) (WX G g o Rs) Q := by
  have hx : fmGood Tx l (g, G.2) 250 qX10_chain [.ref (g 0), .int p0, .int p1] M (wI f Q (fun E M' => (E = fmNSE ∧ Q 1 (M', f)) ∨ (E = fmIAE ∧ Q 2 (M', f)))) := fmGood.imp (pvGood.fm hst (by decide) (by decide +kernel) hp) (fun o9 M9 h9 => by obtain ⟨o', rfl, h8⟩ := h9; exact wI_to h8)
  refine zGood_of (by decide +kernel) rfl (Nat.le_of_ble_eq_true rfl) ?_
  intro p e s m args below meth c A hF htab hr hlocks
  show zEv p l e (lwRm 300 1 6) s m args below meth c G A 5 _ 0 [some (.ref (g 0)), some (.int p0), some (.int p1), some (.ref o), none] [] (WX G g o Rs (M, f)) 0 0
  refine z_aloadn hF (pc := 0) (n := 3) 3 rfl rfl (fm_dec dtL_chain 0 rfl) ?_
  refine z_iconst hF (pc := 1) (v := 0) (by decide) (fm_dec dtL_chain 1 rfl) ?_
  refine z_aloadn hF (pc := 2) (n := 0) 0 rfl rfl (fm_dec dtL_chain 2 rfl) ?_
  refine z_iloadn hF (pc := 3) (n := 1) 1 rfl rfl (fm_dec dtL_chain 3 rfl) ?_
  refine z_iloadn hF (pc := 4) (n := 2) 2 rfl rfl (fm_dec dtL_chain 4 rfl) ?_
  refine z_callX hF (T := Tx) (g := g) (M := M) (rest := (o, .inl (G.2.2.1 1, 1, .inr (.inl f))) :: Rs) (k := 0) (ci := 10) (d' := 250) (pc := 5) (As := [.int p0, .int p1]) (st := [.int 0, .ref o]) cvL_104 (by decide) rfl rfl rfl (Nat.le_of_ble_eq_true rfl) (by decide) (by decide) (by decide) (by decide) (fm_dec dtL_chain 5 rfl) (fmGood.imp hx (fun o9 M' h => ?_))
  rcases o9 with v | E
  · rcases v with _ | v
    · exact False.elim h
    · cases v with
      | int v =>
        refine z_then1 ?_
        refine z_i2l hF (pc := 8) (fm_dec dtL_chain 6 rfl) ?_
        refine z_last hF (pc := 9) (w0 := fmL Tx (g, G.2) M') (w1 := Rs) (fm_dec dtL_chain 7 rfl) ?_
        refine z_goto hF (pc := 10) 21 (by decide) (fm_dec dtL_chain 8 rfl) ?_
        refine z_iconst hF (pc := 21) (v := 0) (by decide) (fm_dec dtL_chain 15 rfl) ?_
        exact z_iret hF (pc := 22) (WW := WX G g o Rs) (M', vp_updL f 0 v.toInt64) hr hlocks (by decide) (by decide) (fm_dec dtL_chain 16 rfl) h
      | _ => exact False.elim h
  · rcases h with ⟨rfl, h⟩ | ⟨rfl, h⟩
    · refine z_catch hF (name := fmNSE) [] ⟨0, 10, 13, 31⟩ [⟨0, 10, 17, 13⟩] (by rw [htab]; rfl) (fun z hz => by cases hz) (by decide) (by decide) clL_31 hF.2.2.2.2.2.1.1.2.2.2.1.2.1 (fun q => ?_)
      refine z_astore hF (pc := 13) (i := 4) (by decide) rfl (fm_dec dtL_chain 9 rfl) ?_
      refine z_iconst hF (pc := 15) (v := 1) (by decide) (fm_dec dtL_chain 10 rfl) ?_
      exact z_iret hF (pc := 16) (WW := WX G g o Rs) (M', f) hr hlocks (by decide) (by decide) (fm_dec dtL_chain 11 rfl) h
    · refine z_catch hF (name := fmIAE) [⟨0, 10, 13, 31⟩] ⟨0, 10, 17, 13⟩ [] (by rw [htab]; rfl) (fun z hz => by rcases List.mem_cons.mp hz with rfl | hz; exact Or.inr ⟨by decide, _, clL_31, hF.2.2.2.2.2.1.1.2.2.2.1.2.2.1⟩; cases hz) (by decide) (by decide) clL_13 hF.2.2.2.2.2.1.1.2.2.2.1.1 (fun q => ?_)
      refine z_astore hF (pc := 17) (i := 4) (by decide) rfl (fm_dec dtL_chain 12 rfl) ?_
      refine z_iconst hF (pc := 19) (v := 2) (by decide) (fm_dec dtL_chain 13 rfl) ?_
      exact z_iret hF (pc := 20) (WW := WX G g o Rs) (M', f) hr hlocks (by decide) (by decide) (fm_dec dtL_chain 14 rfl) h
noncomputable abbrev dlL_due : List (Nat × Instr × Nat) := [(0, .aload_n 3, 1), (1, .iconst 0, 1), (2, .aload_n 0, 1), (3, .iload_n 1, 1), (4, .iload_n 2, 1), (5, .invokevirtual 107, 3), (8, .i2l, 1), (9, .lastore, 1), (10, .goto 11, 3), (13, .astore 4, 2), (15, .iconst 1, 1), (16, .ireturn, 1), (17, .astore 4, 2), (19, .iconst 2, 1), (20, .ireturn, 1), (21, .iconst 0, 1), (22, .ireturn, 1)]
theorem dtL_due : fmDec cL_due dlL_due = true := by decide +kernel
abbrev qL_due : fmY := (yL_due, cL_due, 5, some .int)
theorem nw_L_due : Cond.codeWith yL_due cL_due 5 (some .int) [(0, 10, 13, 31), (0, 10, 17, 13)] ∈ fmWs := (fm_c6 27 (by eq_refl) rfl)
theorem nst_L_due : Cond.static yL_due ∈ fmWs := (fm_c6 26 (by eq_refl) rfl)
theorem nd_L_due : yL_due.cls ≠ "java/lang/invoke/MethodHandle" ∧ yL_due.cls ≠ "java/lang/invoke/VarHandle" ∧ (parseMethodDescriptor yL_due.desc).map (fun d => d.parameters.length) = some 4 := by decide +kernel
set_option maxRecDepth 20000 in
theorem w_due {l : Launch} {G : fmG} {g : Nat → Nat} {M : fmM} {f : Nat → Int64} {o : Nat} {Rs : va_W} {Q : Int32 → fmM × (Nat → Int64) → Prop} {p0 p1 : Int32} (hst : l.stackTraces = false) (hp : pvGood Tx 250 qX10_due [.ref 0, .int p0, .int p1] M (wI f Q (fun E M' => (E = fmNSE ∧ Q 1 (M', f)) ∨ (E = fmIAE ∧ Q 2 (M', f))))) : zGood l G qL_due [(0, 10, 13, 31), (0, 10, 17, 13)] [.ref (g 0), .int p0, .int p1, .ref o] (WX G g o Rs (M, f)) (WX G g o Rs) Q := by
  have hx : fmGood Tx l (g, G.2) 250 qX10_due [.ref (g 0), .int p0, .int p1] M (wI f Q (fun E M' => (E = fmNSE ∧ Q 1 (M', f)) ∨ (E = fmIAE ∧ Q 2 (M', f)))) := fmGood.imp (pvGood.fm hst (by decide) (by decide +kernel) hp) (fun o9 M9 h9 => by obtain ⟨o', rfl, h8⟩ := h9; exact wI_to h8)
  refine zGood_of (by decide +kernel) rfl (Nat.le_of_ble_eq_true rfl) ?_
  intro p e s m args below meth c A hF htab hr hlocks
  show zEv p l e (lwRm 300 1 6) s m args below meth c G A 5 _ 0 [some (.ref (g 0)), some (.int p0), some (.int p1), some (.ref o), none] [] (WX G g o Rs (M, f)) 0 0
  refine z_aloadn hF (pc := 0) (n := 3) 3 rfl rfl (fm_dec dtL_due 0 rfl) ?_
  refine z_iconst hF (pc := 1) (v := 0) (by decide) (fm_dec dtL_due 1 rfl) ?_
  refine z_aloadn hF (pc := 2) (n := 0) 0 rfl rfl (fm_dec dtL_due 2 rfl) ?_
  refine z_iloadn hF (pc := 3) (n := 1) 1 rfl rfl (fm_dec dtL_due 3 rfl) ?_
  refine z_iloadn hF (pc := 4) (n := 2) 2 rfl rfl (fm_dec dtL_due 4 rfl) ?_
  refine z_callX hF (T := Tx) (g := g) (M := M) (rest := (o, .inl (G.2.2.1 1, 1, .inr (.inl f))) :: Rs) (k := 0) (ci := 10) (d' := 250) (pc := 5) (As := [.int p0, .int p1]) (st := [.int 0, .ref o]) cvL_107 (by decide) rfl rfl rfl (Nat.le_of_ble_eq_true rfl) (by decide) (by decide) (by decide) (by decide) (fm_dec dtL_due 5 rfl) (fmGood.imp hx (fun o9 M' h => ?_))
  rcases o9 with v | E
  · rcases v with _ | v
    · exact False.elim h
    · cases v with
      | int v =>
        refine z_then1 ?_
        refine z_i2l hF (pc := 8) (fm_dec dtL_due 6 rfl) ?_
        refine z_last hF (pc := 9) (w0 := fmL Tx (g, G.2) M') (w1 := Rs) (fm_dec dtL_due 7 rfl) ?_
        refine z_goto hF (pc := 10) 21 (by decide) (fm_dec dtL_due 8 rfl) ?_
        refine z_iconst hF (pc := 21) (v := 0) (by decide) (fm_dec dtL_due 15 rfl) ?_
        exact z_iret hF (pc := 22) (WW := WX G g o Rs) (M', vp_updL f 0 v.toInt64) hr hlocks (by decide) (by decide) (fm_dec dtL_due 16 rfl) h
      | _ => exact False.elim h
  · rcases h with ⟨rfl, h⟩ | ⟨rfl, h⟩
    · refine z_catch hF (name := fmNSE) [] ⟨0, 10, 13, 31⟩ [⟨0, 10, 17, 13⟩] (by rw [htab]; rfl) (fun z hz => by cases hz) (by decide) (by decide) clL_31 hF.2.2.2.2.2.1.1.2.2.2.1.2.1 (fun q => ?_)
      refine z_astore hF (pc := 13) (i := 4) (by decide) rfl (fm_dec dtL_due 9 rfl) ?_
      refine z_iconst hF (pc := 15) (v := 1) (by decide) (fm_dec dtL_due 10 rfl) ?_
      exact z_iret hF (pc := 16) (WW := WX G g o Rs) (M', f) hr hlocks (by decide) (by decide) (fm_dec dtL_due 11 rfl) h
    · refine z_catch hF (name := fmIAE) [⟨0, 10, 13, 31⟩] ⟨0, 10, 17, 13⟩ [] (by rw [htab]; rfl) (fun z hz => by rcases List.mem_cons.mp hz with rfl | hz; exact Or.inr ⟨by decide, _, clL_31, hF.2.2.2.2.2.1.1.2.2.2.1.2.2.1⟩; cases hz) (by decide) (by decide) clL_13 hF.2.2.2.2.2.1.1.2.2.2.1.1 (fun q => ?_)
      refine z_astore hF (pc := 17) (i := 4) (by decide) rfl (fm_dec dtL_due 12 rfl) ?_
      refine z_iconst hF (pc := 19) (v := 2) (by decide) (fm_dec dtL_due 13 rfl) ?_
      exact z_iret hF (pc := 20) (WW := WX G g o Rs) (M', f) hr hlocks (by decide) (by decide) (fm_dec dtL_due 14 rfl) h
noncomputable abbrev dlL_news : List (Nat × Instr × Nat) := [(0, .aload_n 2, 1), (1, .iconst 0, 1), (2, .aload_n 0, 1), (3, .iload_n 1, 1), (4, .invokevirtual 110, 3), (7, .i2l, 1), (8, .lastore, 1), (9, .goto 6, 3), (12, .astore_n 3, 1), (13, .iconst 1, 1), (14, .ireturn, 1), (15, .iconst 0, 1), (16, .ireturn, 1)]
theorem dtL_news : fmDec cL_news dlL_news = true := by decide +kernel
abbrev qL_news : fmY := (yL_news, cL_news, 4, some .int)
theorem nw_L_news : Cond.codeWith yL_news cL_news 4 (some .int) [(0, 9, 12, 31)] ∈ fmWs := (fm_c6 34 (by eq_refl) rfl)
theorem nst_L_news : Cond.static yL_news ∈ fmWs := (fm_c6 33 (by eq_refl) rfl)
theorem nd_L_news : yL_news.cls ≠ "java/lang/invoke/MethodHandle" ∧ yL_news.cls ≠ "java/lang/invoke/VarHandle" ∧ (parseMethodDescriptor yL_news.desc).map (fun d => d.parameters.length) = some 3 := by decide +kernel
set_option maxRecDepth 20000 in
theorem w_news {l : Launch} {G : fmG} {g : Nat → Nat} {M : fmM} {f : Nat → Int64} {o : Nat} {Rs : va_W} {Q : Int32 → fmM × (Nat → Int64) → Prop} {p0 : Int32} (hst : l.stackTraces = false) (hp : pvGood Tx 250 qX10_news [.ref 0, .int p0] M (wI f Q (fun E M' => (E = fmNSE ∧ Q 1 (M', f))))) : zGood l G qL_news [(0, 9, 12, 31)] [.ref (g 0), .int p0, .ref o] (WX G g o Rs (M, f)) (WX G g o Rs) Q := by
  have hx : fmGood Tx l (g, G.2) 250 qX10_news [.ref (g 0), .int p0] M (wI f Q (fun E M' => (E = fmNSE ∧ Q 1 (M', f)))) := fmGood.imp (pvGood.fm hst (by decide) (by decide +kernel) hp) (fun o9 M9 h9 => by obtain ⟨o', rfl, h8⟩ := h9; exact wI_to h8)
  refine zGood_of (by decide +kernel) rfl (Nat.le_of_ble_eq_true rfl) ?_
  intro p e s m args below meth c A hF htab hr hlocks
  show zEv p l e (lwRm 300 1 6) s m args below meth c G A 4 _ 0 [some (.ref (g 0)), some (.int p0), some (.ref o), none] [] (WX G g o Rs (M, f)) 0 0
  refine z_aloadn hF (pc := 0) (n := 2) 2 rfl rfl (fm_dec dtL_news 0 rfl) ?_
  refine z_iconst hF (pc := 1) (v := 0) (by decide) (fm_dec dtL_news 1 rfl) ?_
  refine z_aloadn hF (pc := 2) (n := 0) 0 rfl rfl (fm_dec dtL_news 2 rfl) ?_
  refine z_iloadn hF (pc := 3) (n := 1) 1 rfl rfl (fm_dec dtL_news 3 rfl) ?_
  refine z_callX hF (T := Tx) (g := g) (M := M) (rest := (o, .inl (G.2.2.1 1, 1, .inr (.inl f))) :: Rs) (k := 0) (ci := 10) (d' := 250) (pc := 4) (As := [.int p0]) (st := [.int 0, .ref o]) cvL_110 (by decide) rfl rfl rfl (Nat.le_of_ble_eq_true rfl) (by decide) (by decide) (by decide) (by decide) (fm_dec dtL_news 4 rfl) (fmGood.imp hx (fun o9 M' h => ?_))
  rcases o9 with v | E
  · rcases v with _ | v
    · exact False.elim h
    · cases v with
      | int v =>
        refine z_then1 ?_
        refine z_i2l hF (pc := 7) (fm_dec dtL_news 5 rfl) ?_
        refine z_last hF (pc := 8) (w0 := fmL Tx (g, G.2) M') (w1 := Rs) (fm_dec dtL_news 6 rfl) ?_
        refine z_goto hF (pc := 9) 15 (by decide) (fm_dec dtL_news 7 rfl) ?_
        refine z_iconst hF (pc := 15) (v := 0) (by decide) (fm_dec dtL_news 11 rfl) ?_
        exact z_iret hF (pc := 16) (WW := WX G g o Rs) (M', vp_updL f 0 v.toInt64) hr hlocks (by decide) (by decide) (fm_dec dtL_news 12 rfl) h
      | _ => exact False.elim h
  · obtain ⟨rfl, h⟩ := h
    refine z_catch hF (name := fmNSE) [] ⟨0, 9, 12, 31⟩ [] (by rw [htab]; rfl) (fun z hz => by cases hz) (by decide) (by decide) clL_31 hF.2.2.2.2.2.1.1.2.2.2.1.2.1 (fun q => ?_)
    refine z_astoren hF (pc := 12) (n := 3) 3 rfl (by decide) rfl (fm_dec dtL_news 8 rfl) ?_
    refine z_iconst hF (pc := 13) (v := 1) (by decide) (fm_dec dtL_news 9 rfl) ?_
    exact z_iret hF (pc := 14) (WW := WX G g o Rs) (M', f) hr hlocks (by decide) (by decide) (fm_dec dtL_news 10 rfl) h
noncomputable abbrev dlL_expects : List (Nat × Instr × Nat) := [(0, .aload 4, 2), (2, .iconst 0, 1), (3, .aload_n 0, 1), (4, .iload_n 1, 1), (5, .iload_n 2, 1), (6, .iload_n 3, 1), (7, .invokevirtual 113, 3), (10, .lastore, 1), (11, .goto 11, 3), (14, .astore 5, 2), (16, .iconst 1, 1), (17, .ireturn, 1), (18, .astore 5, 2), (20, .iconst 2, 1), (21, .ireturn, 1), (22, .iconst 0, 1), (23, .ireturn, 1)]
theorem dtL_expects : fmDec cL_expects dlL_expects = true := by decide +kernel
abbrev qL_expects : fmY := (yL_expects, cL_expects, 6, some .int)
theorem nw_L_expects : Cond.codeWith yL_expects cL_expects 6 (some .int) [(0, 11, 14, 31), (0, 11, 18, 13)] ∈ fmWs := (fm_c6 45 (by eq_refl) rfl)
theorem nst_L_expects : Cond.static yL_expects ∈ fmWs := (fm_c6 44 (by eq_refl) rfl)
theorem nd_L_expects : yL_expects.cls ≠ "java/lang/invoke/MethodHandle" ∧ yL_expects.cls ≠ "java/lang/invoke/VarHandle" ∧ (parseMethodDescriptor yL_expects.desc).map (fun d => d.parameters.length) = some 5 := by decide +kernel
set_option maxRecDepth 20000 in
theorem w_expects {l : Launch} {G : fmG} {g : Nat → Nat} {M : fmM} {f : Nat → Int64} {o : Nat} {Rs : va_W} {Q : Int32 → fmM × (Nat → Int64) → Prop} {p0 p1 p2 : Int32} (hst : l.stackTraces = false) (hp : pvGood Tx 250 qX10_expects [.ref 0, .int p0, .int p1, .int p2] M (wJ f Q (fun E M' => (E = fmNSE ∧ Q 1 (M', f)) ∨ (E = fmIAE ∧ Q 2 (M', f))))) : zGood l G qL_expects [(0, 11, 14, 31), (0, 11, 18, 13)] [.ref (g 0), .int p0, .int p1, .int p2, .ref o] (WX G g o Rs (M, f)) (WX G g o Rs) Q := by
  have hx : fmGood Tx l (g, G.2) 250 qX10_expects [.ref (g 0), .int p0, .int p1, .int p2] M (wJ f Q (fun E M' => (E = fmNSE ∧ Q 1 (M', f)) ∨ (E = fmIAE ∧ Q 2 (M', f)))) := fmGood.imp (pvGood.fm hst (by decide) (by decide +kernel) hp) (fun o9 M9 h9 => by obtain ⟨o', rfl, h8⟩ := h9; exact wJ_to h8)
  refine zGood_of (by decide +kernel) rfl (Nat.le_of_ble_eq_true rfl) ?_
  intro p e s m args below meth c A hF htab hr hlocks
  show zEv p l e (lwRm 300 1 6) s m args below meth c G A 6 _ 0 [some (.ref (g 0)), some (.int p0), some (.int p1), some (.int p2), some (.ref o), none] [] (WX G g o Rs (M, f)) 0 0
  refine z_aload hF (pc := 0) (i := 4) rfl (fm_dec dtL_expects 0 rfl) ?_
  refine z_iconst hF (pc := 2) (v := 0) (by decide) (fm_dec dtL_expects 1 rfl) ?_
  refine z_aloadn hF (pc := 3) (n := 0) 0 rfl rfl (fm_dec dtL_expects 2 rfl) ?_
  refine z_iloadn hF (pc := 4) (n := 1) 1 rfl rfl (fm_dec dtL_expects 3 rfl) ?_
  refine z_iloadn hF (pc := 5) (n := 2) 2 rfl rfl (fm_dec dtL_expects 4 rfl) ?_
  refine z_iloadn hF (pc := 6) (n := 3) 3 rfl rfl (fm_dec dtL_expects 5 rfl) ?_
  refine z_callX hF (T := Tx) (g := g) (M := M) (rest := (o, .inl (G.2.2.1 1, 1, .inr (.inl f))) :: Rs) (k := 0) (ci := 10) (d' := 250) (pc := 7) (As := [.int p0, .int p1, .int p2]) (st := [.int 0, .ref o]) cvL_113 (by decide) rfl rfl rfl (Nat.le_of_ble_eq_true rfl) (by decide) (by decide) (by decide) (by decide) (fm_dec dtL_expects 6 rfl) (fmGood.imp hx (fun o9 M' h => ?_))
  rcases o9 with v | E
  · rcases v with _ | v
    · exact False.elim h
    · cases v with
      | long v =>
        refine z_then1 ?_
        refine z_last hF (pc := 10) (w0 := fmL Tx (g, G.2) M') (w1 := Rs) (fm_dec dtL_expects 7 rfl) ?_
        refine z_goto hF (pc := 11) 22 (by decide) (fm_dec dtL_expects 8 rfl) ?_
        refine z_iconst hF (pc := 22) (v := 0) (by decide) (fm_dec dtL_expects 15 rfl) ?_
        exact z_iret hF (pc := 23) (WW := WX G g o Rs) (M', vp_updL f 0 v) hr hlocks (by decide) (by decide) (fm_dec dtL_expects 16 rfl) h
      | _ => exact False.elim h
  · rcases h with ⟨rfl, h⟩ | ⟨rfl, h⟩
    · refine z_catch hF (name := fmNSE) [] ⟨0, 11, 14, 31⟩ [⟨0, 11, 18, 13⟩] (by rw [htab]; rfl) (fun z hz => by cases hz) (by decide) (by decide) clL_31 hF.2.2.2.2.2.1.1.2.2.2.1.2.1 (fun q => ?_)
      refine z_astore hF (pc := 14) (i := 5) (by decide) rfl (fm_dec dtL_expects 9 rfl) ?_
      refine z_iconst hF (pc := 16) (v := 1) (by decide) (fm_dec dtL_expects 10 rfl) ?_
      exact z_iret hF (pc := 17) (WW := WX G g o Rs) (M', f) hr hlocks (by decide) (by decide) (fm_dec dtL_expects 11 rfl) h
    · refine z_catch hF (name := fmIAE) [⟨0, 11, 14, 31⟩] ⟨0, 11, 18, 13⟩ [] (by rw [htab]; rfl) (fun z hz => by rcases List.mem_cons.mp hz with rfl | hz; exact Or.inr ⟨by decide, _, clL_31, hF.2.2.2.2.2.1.1.2.2.2.1.2.2.1⟩; cases hz) (by decide) (by decide) clL_13 hF.2.2.2.2.2.1.1.2.2.2.1.1 (fun q => ?_)
      refine z_astore hF (pc := 18) (i := 5) (by decide) rfl (fm_dec dtL_expects 12 rfl) ?_
      refine z_iconst hF (pc := 20) (v := 2) (by decide) (fm_dec dtL_expects 13 rfl) ?_
      exact z_iret hF (pc := 21) (WW := WX G g o Rs) (M', f) hr hlocks (by decide) (by decide) (fm_dec dtL_expects 14 rfl) h
noncomputable abbrev dlL_years : List (Nat × Instr × Nat) := [(0, .aload 4, 2), (2, .iconst 0, 1), (3, .aload_n 0, 1), (4, .iload_n 1, 1), (5, .iload_n 2, 1), (6, .iload_n 3, 1), (7, .invokevirtual 116, 3), (10, .i2l, 1), (11, .lastore, 1), (12, .goto 7, 3), (15, .astore 5, 2), (17, .iconst 1, 1), (18, .ireturn, 1), (19, .iconst 0, 1), (20, .ireturn, 1)]
theorem dtL_years : fmDec cL_years dlL_years = true := by decide +kernel
abbrev qL_years : fmY := (yL_years, cL_years, 6, some .int)
theorem nw_L_years : Cond.codeWith yL_years cL_years 6 (some .int) [(0, 12, 15, 13)] ∈ fmWs := (fm_c6 53 (by eq_refl) rfl)
theorem nst_L_years : Cond.static yL_years ∈ fmWs := (fm_c6 52 (by eq_refl) rfl)
theorem nd_L_years : yL_years.cls ≠ "java/lang/invoke/MethodHandle" ∧ yL_years.cls ≠ "java/lang/invoke/VarHandle" ∧ (parseMethodDescriptor yL_years.desc).map (fun d => d.parameters.length) = some 5 := by decide +kernel
set_option maxRecDepth 20000 in
theorem w_years {l : Launch} {G : fmG} {g : Nat → Nat} {M : fmM} {f : Nat → Int64} {o : Nat} {Rs : va_W} {Q : Int32 → fmM × (Nat → Int64) → Prop} {p0 p1 p2 : Int32} (hst : l.stackTraces = false) (hp : pvGood Tx 250 qX10_years [.ref 0, .int p0, .int p1, .int p2] M (wI f Q (fun E M' => (E = fmIAE ∧ Q 1 (M', f))))) : zGood l G qL_years [(0, 12, 15, 13)] [.ref (g 0), .int p0, .int p1, .int p2, .ref o] (WX G g o Rs (M, f)) (WX G g o Rs) Q := by
  have hx : fmGood Tx l (g, G.2) 250 qX10_years [.ref (g 0), .int p0, .int p1, .int p2] M (wI f Q (fun E M' => (E = fmIAE ∧ Q 1 (M', f)))) := fmGood.imp (pvGood.fm hst (by decide) (by decide +kernel) hp) (fun o9 M9 h9 => by obtain ⟨o', rfl, h8⟩ := h9; exact wI_to h8)
  refine zGood_of (by decide +kernel) rfl (Nat.le_of_ble_eq_true rfl) ?_
  intro p e s m args below meth c A hF htab hr hlocks
  show zEv p l e (lwRm 300 1 6) s m args below meth c G A 6 _ 0 [some (.ref (g 0)), some (.int p0), some (.int p1), some (.int p2), some (.ref o), none] [] (WX G g o Rs (M, f)) 0 0
  refine z_aload hF (pc := 0) (i := 4) rfl (fm_dec dtL_years 0 rfl) ?_
  refine z_iconst hF (pc := 2) (v := 0) (by decide) (fm_dec dtL_years 1 rfl) ?_
  refine z_aloadn hF (pc := 3) (n := 0) 0 rfl rfl (fm_dec dtL_years 2 rfl) ?_
  refine z_iloadn hF (pc := 4) (n := 1) 1 rfl rfl (fm_dec dtL_years 3 rfl) ?_
  refine z_iloadn hF (pc := 5) (n := 2) 2 rfl rfl (fm_dec dtL_years 4 rfl) ?_
  refine z_iloadn hF (pc := 6) (n := 3) 3 rfl rfl (fm_dec dtL_years 5 rfl) ?_
  refine z_callX hF (T := Tx) (g := g) (M := M) (rest := (o, .inl (G.2.2.1 1, 1, .inr (.inl f))) :: Rs) (k := 0) (ci := 10) (d' := 250) (pc := 7) (As := [.int p0, .int p1, .int p2]) (st := [.int 0, .ref o]) cvL_116 (by decide) rfl rfl rfl (Nat.le_of_ble_eq_true rfl) (by decide) (by decide) (by decide) (by decide) (fm_dec dtL_years 6 rfl) (fmGood.imp hx (fun o9 M' h => ?_))
  rcases o9 with v | E
  · rcases v with _ | v
    · exact False.elim h
    · cases v with
      | int v =>
        refine z_then1 ?_
        refine z_i2l hF (pc := 10) (fm_dec dtL_years 7 rfl) ?_
        refine z_last hF (pc := 11) (w0 := fmL Tx (g, G.2) M') (w1 := Rs) (fm_dec dtL_years 8 rfl) ?_
        refine z_goto hF (pc := 12) 19 (by decide) (fm_dec dtL_years 9 rfl) ?_
        refine z_iconst hF (pc := 19) (v := 0) (by decide) (fm_dec dtL_years 13 rfl) ?_
        exact z_iret hF (pc := 20) (WW := WX G g o Rs) (M', vp_updL f 0 v.toInt64) hr hlocks (by decide) (by decide) (fm_dec dtL_years 14 rfl) h
      | _ => exact False.elim h
  · obtain ⟨rfl, h⟩ := h
    refine z_catch hF (name := fmIAE) [] ⟨0, 12, 15, 13⟩ [] (by rw [htab]; rfl) (fun z hz => by cases hz) (by decide) (by decide) clL_13 hF.2.2.2.2.2.1.1.2.2.2.1.1 (fun q => ?_)
    refine z_astore hF (pc := 15) (i := 5) (by decide) rfl (fm_dec dtL_years 10 rfl) ?_
    refine z_iconst hF (pc := 17) (v := 1) (by decide) (fm_dec dtL_years 11 rfl) ?_
    exact z_iret hF (pc := 18) (WW := WX G g o Rs) (M', f) hr hlocks (by decide) (by decide) (fm_dec dtL_years 12 rfl) h
noncomputable abbrev dlL_span : List (Nat × Instr × Nat) := [(0, .aload 6, 2), (2, .iconst 0, 1), (3, .aload_n 0, 1), (4, .iload_n 1, 1), (5, .iload_n 2, 1), (6, .iload_n 3, 1), (7, .iload 4, 2), (9, .iload 5, 2), (11, .invokevirtual 119, 3), (14, .i2l, 1), (15, .lastore, 1), (16, .goto 7, 3), (19, .astore 7, 2), (21, .iconst 1, 1), (22, .ireturn, 1), (23, .iconst 0, 1), (24, .ireturn, 1)]
theorem dtL_span : fmDec cL_span dlL_span = true := by decide +kernel
abbrev qL_span : fmY := (yL_span, cL_span, 8, some .int)
theorem nw_L_span : Cond.codeWith yL_span cL_span 8 (some .int) [(0, 16, 19, 13)] ∈ fmWs := (fm_c6 84 (by eq_refl) rfl)
theorem nst_L_span : Cond.static yL_span ∈ fmWs := (fm_c6 83 (by eq_refl) rfl)
theorem nd_L_span : yL_span.cls ≠ "java/lang/invoke/MethodHandle" ∧ yL_span.cls ≠ "java/lang/invoke/VarHandle" ∧ (parseMethodDescriptor yL_span.desc).map (fun d => d.parameters.length) = some 7 := by decide +kernel
set_option maxRecDepth 20000 in
theorem w_span {l : Launch} {G : fmG} {g : Nat → Nat} {M : fmM} {f : Nat → Int64} {o : Nat} {Rs : va_W} {Q : Int32 → fmM × (Nat → Int64) → Prop} {p0 p1 p2 p3 p4 : Int32} (hst : l.stackTraces = false) (hp : pvGood Tx 250 qX10_span [.ref 0, .int p0, .int p1, .int p2, .int p3, .int p4] M (wI f Q (fun E M' => (E = fmIAE ∧ Q 1 (M', f))))) : zGood l G qL_span [(0, 16, 19, 13)] [.ref (g 0), .int p0, .int p1, .int p2, .int p3, .int p4, .ref o] (WX G g o Rs (M, f)) (WX G g o Rs) Q := by
  have hx : fmGood Tx l (g, G.2) 250 qX10_span [.ref (g 0), .int p0, .int p1, .int p2, .int p3, .int p4] M (wI f Q (fun E M' => (E = fmIAE ∧ Q 1 (M', f)))) := fmGood.imp (pvGood.fm hst (by decide) (by decide +kernel) hp) (fun o9 M9 h9 => by obtain ⟨o', rfl, h8⟩ := h9; exact wI_to h8)
  refine zGood_of (by decide +kernel) rfl (Nat.le_of_ble_eq_true rfl) ?_
  intro p e s m args below meth c A hF htab hr hlocks
  show zEv p l e (lwRm 300 1 6) s m args below meth c G A 8 _ 0 [some (.ref (g 0)), some (.int p0), some (.int p1), some (.int p2), some (.int p3), some (.int p4), some (.ref o), none] [] (WX G g o Rs (M, f)) 0 0
  refine z_aload hF (pc := 0) (i := 6) rfl (fm_dec dtL_span 0 rfl) ?_
  refine z_iconst hF (pc := 2) (v := 0) (by decide) (fm_dec dtL_span 1 rfl) ?_
  refine z_aloadn hF (pc := 3) (n := 0) 0 rfl rfl (fm_dec dtL_span 2 rfl) ?_
  refine z_iloadn hF (pc := 4) (n := 1) 1 rfl rfl (fm_dec dtL_span 3 rfl) ?_
  refine z_iloadn hF (pc := 5) (n := 2) 2 rfl rfl (fm_dec dtL_span 4 rfl) ?_
  refine z_iloadn hF (pc := 6) (n := 3) 3 rfl rfl (fm_dec dtL_span 5 rfl) ?_
  refine z_iload hF (pc := 7) (i := 4) rfl (fm_dec dtL_span 6 rfl) ?_
  refine z_iload hF (pc := 9) (i := 5) rfl (fm_dec dtL_span 7 rfl) ?_
  refine z_callX hF (T := Tx) (g := g) (M := M) (rest := (o, .inl (G.2.2.1 1, 1, .inr (.inl f))) :: Rs) (k := 0) (ci := 10) (d' := 250) (pc := 11) (As := [.int p0, .int p1, .int p2, .int p3, .int p4]) (st := [.int 0, .ref o]) cvL_119 (by decide) rfl rfl rfl (Nat.le_of_ble_eq_true rfl) (by decide) (by decide) (by decide) (by decide) (fm_dec dtL_span 8 rfl) (fmGood.imp hx (fun o9 M' h => ?_))
  rcases o9 with v | E
  · rcases v with _ | v
    · exact False.elim h
    · cases v with
      | int v =>
        refine z_then1 ?_
        refine z_i2l hF (pc := 14) (fm_dec dtL_span 9 rfl) ?_
        refine z_last hF (pc := 15) (w0 := fmL Tx (g, G.2) M') (w1 := Rs) (fm_dec dtL_span 10 rfl) ?_
        refine z_goto hF (pc := 16) 23 (by decide) (fm_dec dtL_span 11 rfl) ?_
        refine z_iconst hF (pc := 23) (v := 0) (by decide) (fm_dec dtL_span 15 rfl) ?_
        exact z_iret hF (pc := 24) (WW := WX G g o Rs) (M', vp_updL f 0 v.toInt64) hr hlocks (by decide) (by decide) (fm_dec dtL_span 16 rfl) h
      | _ => exact False.elim h
  · obtain ⟨rfl, h⟩ := h
    refine z_catch hF (name := fmIAE) [] ⟨0, 16, 19, 13⟩ [] (by rw [htab]; rfl) (fun z hz => by cases hz) (by decide) (by decide) clL_13 hF.2.2.2.2.2.1.1.2.2.2.1.1 (fun q => ?_)
    refine z_astore hF (pc := 19) (i := 7) (by decide) rfl (fm_dec dtL_span 12 rfl) ?_
    refine z_iconst hF (pc := 21) (v := 1) (by decide) (fm_dec dtL_span 13 rfl) ?_
    exact z_iret hF (pc := 22) (WW := WX G g o Rs) (M', f) hr hlocks (by decide) (by decide) (fm_dec dtL_span 14 rfl) h
end
-- P 14c
section
noncomputable abbrev dlLa_0 : List (Nat × Instr × Nat) := [(0, .new 8, 3), (3, .dup, 1), (4, .invokespecial 122, 3), (7, .astore_n 1, 1), (8, .new 123, 3), (11, .dup, 1), (12, .invokespecial 125, 3), (15, .astore_n 2, 1), (16, .iconst 1, 1), (17, .newarray .long, 2), (19, .astore_n 3, 1), (20, .iconst 0, 1), (21, .istore 4, 2), (23, .iload 4, 2), (25, .aload_n 0, 1), (26, .arraylength, 1), (27, .bipush 7, 2), (29, .isub, 1), (30, .if_icmp .gt 1916, 3), (33, .aload_n 0, 1), (34, .iload 4, 2), (36, .iaload, 1), (37, .bipush 63, 2), (39, .iand, 1), (40, .tableswitch 1900 0 46 #[204, 277, 305, 333, 361, 389, 402, 415, 443, 483, 511, 539, 615, 643, 683, 711, 751, 764, 777, 790, 818, 858, 898, 938, 1002, 1092, 1168, 1232, 1272, 1324, 1364, 1377, 1405, 1418, 1458, 1510, 1523, 1563, 1603, 1631, 1683, 1696, 1748, 1824, 1837, 1850, 1875], 204), (244, .aload_n 1, 1), (245, .aload_n 0, 1), (246, .iload 4, 2), (248, .iconst 1, 1), (249, .iadd, 1)]
theorem dtLa_0 : fmDec cL_law_ dlLa_0 = true := dk_fx 0 [(17, .newarray .long, 2), (40, .tableswitch 1900 0 46 #[204, 277, 305, 333, 361, 389, 402, 415, 443, 483, 511, 539, 615, 643, 683, 711, 751, 764, 777, 790, 818, 858, 898, 938, 1002, 1092, 1168, 1232, 1272, 1324, 1364, 1377, 1405, 1418, 1458, 1510, 1523, 1563, 1603, 1631, 1683, 1696, 1748, 1824, 1837, 1850, 1875], 204)] (by decide +kernel) (by decide +kernel)
noncomputable abbrev dlLa_1 : List (Nat × Instr × Nat) := [(250, .iaload, 1), (251, .aload_n 0, 1), (252, .iload 4, 2), (254, .iconst 2, 1), (255, .iadd, 1), (256, .iaload, 1), (257, .aload_n 0, 1), (258, .iload 4, 2), (260, .iconst 3, 1), (261, .iadd, 1), (262, .iaload, 1), (263, .aload_n 0, 1), (264, .iload 4, 2), (266, .iconst 4, 1), (267, .iadd, 1), (268, .iaload, 1), (269, .aload_n 0, 1), (270, .iload 4, 2), (272, .iconst 5, 1), (273, .iadd, 1), (274, .iaload, 1), (275, .invokevirtual 126, 3), (278, .pop, 1), (279, .aload_n 2, 1), (280, .aload_n 0, 1), (281, .iload 4, 2), (283, .iconst 1, 1), (284, .iadd, 1), (285, .iaload, 1), (286, .aload_n 0, 1)]
theorem dtLa_1 : fmDec cL_law_ dlLa_1 = true := dk_fm 250 (by decide +kernel)
noncomputable abbrev dlLa_2 : List (Nat × Instr × Nat) := [(287, .iload 4, 2), (289, .iconst 2, 1), (290, .iadd, 1), (291, .iaload, 1), (292, .aload_n 0, 1), (293, .iload 4, 2), (295, .iconst 3, 1), (296, .iadd, 1), (297, .iaload, 1), (298, .aload_n 0, 1), (299, .iload 4, 2), (301, .iconst 4, 1), (302, .iadd, 1), (303, .iaload, 1), (304, .aload_n 0, 1), (305, .iload 4, 2), (307, .iconst 5, 1), (308, .iadd, 1), (309, .iaload, 1), (310, .invokevirtual 129, 3), (313, .pop, 1), (314, .goto 1626, 3), (317, .aload_n 1, 1), (318, .aload_n 0, 1), (319, .iload 4, 2), (321, .iconst 1, 1), (322, .iadd, 1), (323, .iaload, 1), (324, .aload_n 3, 1), (325, .invokestatic 130, 3)]
theorem dtLa_2 : fmDec cL_law_ dlLa_2 = true := dk_fm 287 (by decide +kernel)
noncomputable abbrev dlLa_3 : List (Nat × Instr × Nat) := [(328, .istore 5, 2), (330, .aload_n 2, 1), (331, .aload_n 0, 1), (332, .iload 4, 2), (334, .iconst 1, 1), (335, .iadd, 1), (336, .iaload, 1), (337, .invokevirtual 135, 3), (340, .istore 6, 2), (342, .goto 1598, 3), (345, .aload_n 1, 1), (346, .aload_n 0, 1), (347, .iload 4, 2), (349, .iconst 1, 1), (350, .iadd, 1), (351, .iaload, 1), (352, .aload_n 3, 1), (353, .invokestatic 136, 3), (356, .istore 5, 2), (358, .aload_n 2, 1), (359, .aload_n 0, 1), (360, .iload 4, 2), (362, .iconst 1, 1), (363, .iadd, 1), (364, .iaload, 1), (365, .invokevirtual 138, 3), (368, .istore 6, 2), (370, .goto 1570, 3), (373, .aload_n 1, 1), (374, .aload_n 0, 1)]
theorem dtLa_3 : fmDec cL_law_ dlLa_3 = true := dk_fm 328 (by decide +kernel)
noncomputable abbrev dlLa_4 : List (Nat × Instr × Nat) := [(375, .iload 4, 2), (377, .iconst 1, 1), (378, .iadd, 1), (379, .iaload, 1), (380, .aload_n 3, 1), (381, .invokestatic 139, 3), (384, .istore 5, 2), (386, .aload_n 2, 1), (387, .aload_n 0, 1), (388, .iload 4, 2), (390, .iconst 1, 1), (391, .iadd, 1), (392, .iaload, 1), (393, .invokevirtual 141, 3), (396, .istore 6, 2), (398, .goto 1542, 3), (401, .aload_n 1, 1), (402, .aload_n 0, 1), (403, .iload 4, 2), (405, .iconst 1, 1), (406, .iadd, 1), (407, .iaload, 1), (408, .aload_n 3, 1), (409, .invokestatic 142, 3), (412, .istore 5, 2), (414, .aload_n 2, 1), (415, .aload_n 0, 1), (416, .iload 4, 2), (418, .iconst 1, 1), (419, .iadd, 1)]
theorem dtLa_4 : fmDec cL_law_ dlLa_4 = true := dk_fm 375 (by decide +kernel)
noncomputable abbrev dlLa_5 : List (Nat × Instr × Nat) := [(420, .iaload, 1), (421, .invokevirtual 144, 3), (424, .istore 6, 2), (426, .goto 1514, 3), (429, .aload_n 1, 1), (430, .invokevirtual 145, 3), (433, .pop, 1), (434, .aload_n 2, 1), (435, .invokevirtual 149, 3), (438, .pop, 1), (439, .goto 1501, 3), (442, .aload_n 1, 1), (443, .invokevirtual 150, 3), (446, .pop, 1), (447, .aload_n 2, 1), (448, .invokevirtual 153, 3), (451, .pop, 1), (452, .goto 1488, 3), (455, .aload_n 1, 1), (456, .aload_n 0, 1), (457, .iload 4, 2), (459, .iconst 1, 1), (460, .iadd, 1), (461, .iaload, 1), (462, .aload_n 3, 1), (463, .invokestatic 154, 3), (466, .istore 5, 2), (468, .aload_n 2, 1), (469, .aload_n 0, 1), (470, .iload 4, 2)]
theorem dtLa_5 : fmDec cL_law_ dlLa_5 = true := dk_fm 420 (by decide +kernel)
noncomputable abbrev dlLa_6 : List (Nat × Instr × Nat) := [(472, .iconst 1, 1), (473, .iadd, 1), (474, .iaload, 1), (475, .invokevirtual 156, 3), (478, .istore 6, 2), (480, .goto 1460, 3), (483, .aload_n 1, 1), (484, .aload_n 0, 1), (485, .iload 4, 2), (487, .iconst 1, 1), (488, .iadd, 1), (489, .iaload, 1), (490, .aload_n 0, 1), (491, .iload 4, 2), (493, .iconst 2, 1), (494, .iadd, 1), (495, .iaload, 1), (496, .aload_n 3, 1), (497, .invokestatic 157, 3), (500, .istore 5, 2), (502, .aload_n 2, 1), (503, .aload_n 0, 1), (504, .iload 4, 2), (506, .iconst 1, 1), (507, .iadd, 1), (508, .iaload, 1), (509, .aload_n 0, 1), (510, .iload 4, 2), (512, .iconst 2, 1), (513, .iadd, 1)]
theorem dtLa_6 : fmDec cL_law_ dlLa_6 = true := dk_fm 472 (by decide +kernel)
noncomputable abbrev dlLa_7 : List (Nat × Instr × Nat) := [(514, .iaload, 1), (515, .invokevirtual 160, 3), (518, .istore 6, 2), (520, .goto 1420, 3), (523, .aload_n 1, 1), (524, .aload_n 0, 1), (525, .iload 4, 2), (527, .iconst 1, 1), (528, .iadd, 1), (529, .iaload, 1), (530, .aload_n 3, 1), (531, .invokestatic 161, 3), (534, .istore 5, 2), (536, .aload_n 2, 1), (537, .aload_n 0, 1), (538, .iload 4, 2), (540, .iconst 1, 1), (541, .iadd, 1), (542, .iaload, 1), (543, .invokevirtual 163, 3), (546, .istore 6, 2), (548, .goto 1392, 3), (551, .aload_n 1, 1), (552, .aload_n 0, 1), (553, .iload 4, 2), (555, .iconst 1, 1), (556, .iadd, 1), (557, .iaload, 1), (558, .aload_n 3, 1), (559, .invokestatic 164, 3)]
theorem dtLa_7 : fmDec cL_law_ dlLa_7 = true := dk_fm 514 (by decide +kernel)
noncomputable abbrev dlLa_8 : List (Nat × Instr × Nat) := [(562, .istore 5, 2), (564, .aload_n 2, 1), (565, .aload_n 0, 1), (566, .iload 4, 2), (568, .iconst 1, 1), (569, .iadd, 1), (570, .iaload, 1), (571, .invokevirtual 166, 3), (574, .istore 6, 2), (576, .goto 1364, 3), (579, .aload_n 1, 1), (580, .aload_n 0, 1), (581, .iload 4, 2), (583, .iconst 1, 1), (584, .iadd, 1), (585, .iaload, 1), (586, .aload_n 0, 1), (587, .iload 4, 2), (589, .iconst 2, 1), (590, .iadd, 1), (591, .iaload, 1), (592, .aload_n 0, 1), (593, .iload 4, 2), (595, .iconst 3, 1), (596, .iadd, 1), (597, .iaload, 1), (598, .aload_n 0, 1), (599, .iload 4, 2), (601, .iconst 4, 1), (602, .iadd, 1)]
theorem dtLa_8 : fmDec cL_law_ dlLa_8 = true := dk_fm 562 (by decide +kernel)
noncomputable abbrev dlLa_9 : List (Nat × Instr × Nat) := [(603, .iaload, 1), (604, .aload_n 0, 1), (605, .iload 4, 2), (607, .iconst 5, 1), (608, .iadd, 1), (609, .iaload, 1), (610, .aload_n 3, 1), (611, .invokestatic 167, 3), (614, .istore 5, 2), (616, .aload_n 2, 1), (617, .aload_n 0, 1), (618, .iload 4, 2), (620, .iconst 1, 1), (621, .iadd, 1), (622, .iaload, 1), (623, .aload_n 0, 1), (624, .iload 4, 2), (626, .iconst 2, 1), (627, .iadd, 1), (628, .iaload, 1), (629, .aload_n 0, 1), (630, .iload 4, 2), (632, .iconst 3, 1), (633, .iadd, 1), (634, .iaload, 1), (635, .aload_n 0, 1), (636, .iload 4, 2), (638, .iconst 4, 1), (639, .iadd, 1), (640, .iaload, 1)]
theorem dtLa_9 : fmDec cL_law_ dlLa_9 = true := dk_fm 603 (by decide +kernel)
noncomputable abbrev dlLa_10 : List (Nat × Instr × Nat) := [(641, .aload_n 0, 1), (642, .iload 4, 2), (644, .iconst 5, 1), (645, .iadd, 1), (646, .iaload, 1), (647, .invokevirtual 170, 3), (650, .istore 6, 2), (652, .goto 1288, 3), (655, .aload_n 1, 1), (656, .aload_n 0, 1), (657, .iload 4, 2), (659, .iconst 1, 1), (660, .iadd, 1), (661, .iaload, 1), (662, .aload_n 3, 1), (663, .invokestatic 171, 3), (666, .istore 5, 2), (668, .aload_n 2, 1), (669, .aload_n 0, 1), (670, .iload 4, 2), (672, .iconst 1, 1), (673, .iadd, 1), (674, .iaload, 1), (675, .invokevirtual 173, 3), (678, .lstore 6, 2), (680, .goto 1260, 3), (683, .aload_n 1, 1), (684, .aload_n 0, 1), (685, .iload 4, 2), (687, .iconst 1, 1)]
theorem dtLa_10 : fmDec cL_law_ dlLa_10 = true := dk_fm 641 (by decide +kernel)
noncomputable abbrev dlLa_11 : List (Nat × Instr × Nat) := [(688, .iadd, 1), (689, .iaload, 1), (690, .aload_n 0, 1), (691, .iload 4, 2), (693, .iconst 2, 1), (694, .iadd, 1), (695, .iaload, 1), (696, .aload_n 3, 1), (697, .invokestatic 174, 3), (700, .istore 5, 2), (702, .aload_n 2, 1), (703, .aload_n 0, 1), (704, .iload 4, 2), (706, .iconst 1, 1), (707, .iadd, 1), (708, .iaload, 1), (709, .aload_n 0, 1), (710, .iload 4, 2), (712, .iconst 2, 1), (713, .iadd, 1), (714, .iaload, 1), (715, .invokevirtual 176, 3), (718, .lstore 6, 2), (720, .goto 1220, 3), (723, .aload_n 1, 1), (724, .aload_n 0, 1), (725, .iload 4, 2), (727, .iconst 1, 1), (728, .iadd, 1), (729, .iaload, 1)]
theorem dtLa_11 : fmDec cL_law_ dlLa_11 = true := dk_fm 688 (by decide +kernel)
noncomputable abbrev dlLa_12 : List (Nat × Instr × Nat) := [(730, .aload_n 3, 1), (731, .invokestatic 177, 3), (734, .istore 5, 2), (736, .aload_n 2, 1), (737, .aload_n 0, 1), (738, .iload 4, 2), (740, .iconst 1, 1), (741, .iadd, 1), (742, .iaload, 1), (743, .invokevirtual 179, 3), (746, .lstore 6, 2), (748, .goto 1192, 3), (751, .aload_n 1, 1), (752, .aload_n 0, 1), (753, .iload 4, 2), (755, .iconst 1, 1), (756, .iadd, 1), (757, .iaload, 1), (758, .aload_n 0, 1), (759, .iload 4, 2), (761, .iconst 2, 1), (762, .iadd, 1), (763, .iaload, 1), (764, .aload_n 3, 1), (765, .invokestatic 180, 3), (768, .istore 5, 2), (770, .aload_n 2, 1), (771, .aload_n 0, 1), (772, .iload 4, 2), (774, .iconst 1, 1)]
theorem dtLa_12 : fmDec cL_law_ dlLa_12 = true := dk_fm 730 (by decide +kernel)
noncomputable abbrev dlLa_13 : List (Nat × Instr × Nat) := [(775, .iadd, 1), (776, .iaload, 1), (777, .aload_n 0, 1), (778, .iload 4, 2), (780, .iconst 2, 1), (781, .iadd, 1), (782, .iaload, 1), (783, .invokevirtual 182, 3), (786, .lstore 6, 2), (788, .goto 1152, 3), (791, .aload_n 1, 1), (792, .invokevirtual 183, 3), (795, .pop, 1), (796, .aload_n 2, 1), (797, .invokevirtual 186, 3), (800, .pop, 1), (801, .goto 1139, 3), (804, .aload_n 1, 1), (805, .invokevirtual 187, 3), (808, .pop, 1), (809, .aload_n 2, 1), (810, .invokevirtual 190, 3), (813, .pop, 1), (814, .goto 1126, 3), (817, .aload_n 1, 1), (818, .invokevirtual 191, 3), (821, .pop, 1), (822, .aload_n 2, 1), (823, .invokevirtual 194, 3), (826, .pop, 1)]
theorem dtLa_13 : fmDec cL_law_ dlLa_13 = true := dk_fm 775 (by decide +kernel)
end
-- P 14d
section
noncomputable abbrev dlLa_14 : List (Nat × Instr × Nat) := [(827, .goto 1113, 3), (830, .aload_n 1, 1), (831, .aload_n 0, 1), (832, .iload 4, 2), (834, .iconst 1, 1), (835, .iadd, 1), (836, .iaload, 1), (837, .aload_n 3, 1), (838, .invokestatic 195, 3), (841, .istore 5, 2), (843, .aload_n 2, 1), (844, .aload_n 0, 1), (845, .iload 4, 2), (847, .iconst 1, 1), (848, .iadd, 1), (849, .iaload, 1), (850, .invokevirtual 197, 3), (853, .istore 6, 2), (855, .goto 1085, 3), (858, .aload_n 1, 1), (859, .aload_n 0, 1), (860, .iload 4, 2), (862, .iconst 1, 1), (863, .iadd, 1), (864, .iaload, 1), (865, .aload_n 0, 1), (866, .iload 4, 2), (868, .iconst 2, 1), (869, .iadd, 1), (870, .iaload, 1)]
theorem dtLa_14 : fmDec cL_law_ dlLa_14 = true := dk_fm 827 (by decide +kernel)
noncomputable abbrev dlLa_15 : List (Nat × Instr × Nat) := [(871, .aload_n 3, 1), (872, .invokestatic 198, 3), (875, .istore 5, 2), (877, .aload_n 2, 1), (878, .aload_n 0, 1), (879, .iload 4, 2), (881, .iconst 1, 1), (882, .iadd, 1), (883, .iaload, 1), (884, .aload_n 0, 1), (885, .iload 4, 2), (887, .iconst 2, 1), (888, .iadd, 1), (889, .iaload, 1), (890, .invokevirtual 200, 3), (893, .lstore 6, 2), (895, .goto 1045, 3), (898, .aload_n 1, 1), (899, .aload_n 0, 1), (900, .iload 4, 2), (902, .iconst 1, 1), (903, .iadd, 1), (904, .iaload, 1), (905, .aload_n 0, 1), (906, .iload 4, 2), (908, .iconst 2, 1), (909, .iadd, 1), (910, .iaload, 1), (911, .aload_n 3, 1), (912, .invokestatic 201, 3)]
theorem dtLa_15 : fmDec cL_law_ dlLa_15 = true := dk_fm 871 (by decide +kernel)
noncomputable abbrev dlLa_16 : List (Nat × Instr × Nat) := [(915, .istore 5, 2), (917, .aload_n 2, 1), (918, .aload_n 0, 1), (919, .iload 4, 2), (921, .iconst 1, 1), (922, .iadd, 1), (923, .iaload, 1), (924, .aload_n 0, 1), (925, .iload 4, 2), (927, .iconst 2, 1), (928, .iadd, 1), (929, .iaload, 1), (930, .invokevirtual 203, 3), (933, .istore 6, 2), (935, .goto 1005, 3), (938, .aload_n 1, 1), (939, .aload_n 0, 1), (940, .iload 4, 2), (942, .iconst 1, 1), (943, .iadd, 1), (944, .iaload, 1), (945, .aload_n 0, 1), (946, .iload 4, 2), (948, .iconst 2, 1), (949, .iadd, 1), (950, .iaload, 1), (951, .aload_n 3, 1), (952, .invokestatic 204, 3), (955, .istore 5, 2), (957, .aload_n 2, 1)]
theorem dtLa_16 : fmDec cL_law_ dlLa_16 = true := dk_fm 915 (by decide +kernel)
noncomputable abbrev dlLa_17 : List (Nat × Instr × Nat) := [(958, .aload_n 0, 1), (959, .iload 4, 2), (961, .iconst 1, 1), (962, .iadd, 1), (963, .iaload, 1), (964, .aload_n 0, 1), (965, .iload 4, 2), (967, .iconst 2, 1), (968, .iadd, 1), (969, .iaload, 1), (970, .invokevirtual 206, 3), (973, .istore 6, 2), (975, .goto 965, 3), (978, .aload_n 1, 1), (979, .aload_n 0, 1), (980, .iload 4, 2), (982, .iconst 1, 1), (983, .iadd, 1), (984, .iaload, 1), (985, .aload_n 0, 1), (986, .iload 4, 2), (988, .iconst 2, 1), (989, .iadd, 1), (990, .iaload, 1), (991, .aload_n 0, 1), (992, .iload 4, 2), (994, .iconst 3, 1), (995, .iadd, 1), (996, .iaload, 1), (997, .aload_n 0, 1)]
theorem dtLa_17 : fmDec cL_law_ dlLa_17 = true := dk_fm 958 (by decide +kernel)
noncomputable abbrev dlLa_18 : List (Nat × Instr × Nat) := [(998, .iload 4, 2), (1000, .iconst 4, 1), (1001, .iadd, 1), (1002, .iaload, 1), (1003, .aload_n 3, 1), (1004, .invokestatic 207, 3), (1007, .istore 5, 2), (1009, .aload_n 2, 1), (1010, .aload_n 0, 1), (1011, .iload 4, 2), (1013, .iconst 1, 1), (1014, .iadd, 1), (1015, .iaload, 1), (1016, .aload_n 0, 1), (1017, .iload 4, 2), (1019, .iconst 2, 1), (1020, .iadd, 1), (1021, .iaload, 1), (1022, .aload_n 0, 1), (1023, .iload 4, 2), (1025, .iconst 3, 1), (1026, .iadd, 1), (1027, .iaload, 1), (1028, .aload_n 0, 1), (1029, .iload 4, 2), (1031, .iconst 4, 1), (1032, .iadd, 1), (1033, .iaload, 1), (1034, .invokevirtual 210, 3), (1037, .lstore 6, 2)]
theorem dtLa_18 : fmDec cL_law_ dlLa_18 = true := dk_fm 998 (by decide +kernel)
noncomputable abbrev dlLa_19 : List (Nat × Instr × Nat) := [(1039, .goto 901, 3), (1042, .aload_n 1, 1), (1043, .aload_n 0, 1), (1044, .iload 4, 2), (1046, .iconst 1, 1), (1047, .iadd, 1), (1048, .iaload, 1), (1049, .aload_n 0, 1), (1050, .iload 4, 2), (1052, .iconst 2, 1), (1053, .iadd, 1), (1054, .iaload, 1), (1055, .aload_n 0, 1), (1056, .iload 4, 2), (1058, .iconst 3, 1), (1059, .iadd, 1), (1060, .iaload, 1), (1061, .aload_n 0, 1), (1062, .iload 4, 2), (1064, .iconst 4, 1), (1065, .iadd, 1), (1066, .iaload, 1), (1067, .aload_n 0, 1), (1068, .iload 4, 2), (1070, .iconst 5, 1), (1071, .iadd, 1), (1072, .iaload, 1), (1073, .aload_n 0, 1), (1074, .iload 4, 2), (1076, .bipush 6, 2)]
theorem dtLa_19 : fmDec cL_law_ dlLa_19 = true := dk_fm 1039 (by decide +kernel)
noncomputable abbrev dlLa_20 : List (Nat × Instr × Nat) := [(1078, .iadd, 1), (1079, .iaload, 1), (1080, .aload_n 3, 1), (1081, .invokestatic 211, 3), (1084, .istore 5, 2), (1086, .aload_n 2, 1), (1087, .aload_n 0, 1), (1088, .iload 4, 2), (1090, .iconst 1, 1), (1091, .iadd, 1), (1092, .iaload, 1), (1093, .aload_n 0, 1), (1094, .iload 4, 2), (1096, .iconst 2, 1), (1097, .iadd, 1), (1098, .iaload, 1), (1099, .aload_n 0, 1), (1100, .iload 4, 2), (1102, .iconst 3, 1), (1103, .iadd, 1), (1104, .iaload, 1), (1105, .aload_n 0, 1), (1106, .iload 4, 2), (1108, .iconst 4, 1), (1109, .iadd, 1), (1110, .iaload, 1), (1111, .aload_n 0, 1), (1112, .iload 4, 2), (1114, .iconst 5, 1), (1115, .iadd, 1)]
theorem dtLa_20 : fmDec cL_law_ dlLa_20 = true := dk_fm 1078 (by decide +kernel)
noncomputable abbrev dlLa_21 : List (Nat × Instr × Nat) := [(1116, .iaload, 1), (1117, .aload_n 0, 1), (1118, .iload 4, 2), (1120, .bipush 6, 2), (1122, .iadd, 1), (1123, .iaload, 1), (1124, .invokevirtual 214, 3), (1127, .istore 6, 2), (1129, .goto 811, 3), (1132, .aload_n 1, 1), (1133, .aload_n 0, 1), (1134, .iload 4, 2), (1136, .iconst 1, 1), (1137, .iadd, 1), (1138, .iaload, 1), (1139, .aload_n 0, 1), (1140, .iload 4, 2), (1142, .iconst 2, 1), (1143, .iadd, 1), (1144, .iaload, 1), (1145, .aload_n 0, 1), (1146, .iload 4, 2), (1148, .iconst 3, 1), (1149, .iadd, 1), (1150, .iaload, 1), (1151, .aload_n 0, 1), (1152, .iload 4, 2), (1154, .iconst 4, 1), (1155, .iadd, 1), (1156, .iaload, 1)]
theorem dtLa_21 : fmDec cL_law_ dlLa_21 = true := dk_fm 1116 (by decide +kernel)
noncomputable abbrev dlLa_22 : List (Nat × Instr × Nat) := [(1157, .aload_n 0, 1), (1158, .iload 4, 2), (1160, .iconst 5, 1), (1161, .iadd, 1), (1162, .iaload, 1), (1163, .aload_n 3, 1), (1164, .invokestatic 215, 3), (1167, .istore 5, 2), (1169, .aload_n 2, 1), (1170, .aload_n 0, 1), (1171, .iload 4, 2), (1173, .iconst 1, 1), (1174, .iadd, 1), (1175, .iaload, 1), (1176, .aload_n 0, 1), (1177, .iload 4, 2), (1179, .iconst 2, 1), (1180, .iadd, 1), (1181, .iaload, 1), (1182, .aload_n 0, 1), (1183, .iload 4, 2), (1185, .iconst 3, 1), (1186, .iadd, 1), (1187, .iaload, 1), (1188, .aload_n 0, 1), (1189, .iload 4, 2), (1191, .iconst 4, 1), (1192, .iadd, 1), (1193, .iaload, 1), (1194, .aload_n 0, 1)]
theorem dtLa_22 : fmDec cL_law_ dlLa_22 = true := dk_fm 1157 (by decide +kernel)
noncomputable abbrev dlLa_23 : List (Nat × Instr × Nat) := [(1195, .iload 4, 2), (1197, .iconst 5, 1), (1198, .iadd, 1), (1199, .iaload, 1), (1200, .invokevirtual 217, 3), (1203, .istore 6, 2), (1205, .goto 735, 3), (1208, .aload_n 1, 1), (1209, .aload_n 0, 1), (1210, .iload 4, 2), (1212, .iconst 1, 1), (1213, .iadd, 1), (1214, .iaload, 1), (1215, .aload_n 0, 1), (1216, .iload 4, 2), (1218, .iconst 2, 1), (1219, .iadd, 1), (1220, .iaload, 1), (1221, .aload_n 0, 1), (1222, .iload 4, 2), (1224, .iconst 3, 1), (1225, .iadd, 1), (1226, .iaload, 1), (1227, .aload_n 0, 1), (1228, .iload 4, 2), (1230, .iconst 4, 1), (1231, .iadd, 1), (1232, .iaload, 1), (1233, .aload_n 3, 1), (1234, .invokestatic 218, 3)]
theorem dtLa_23 : fmDec cL_law_ dlLa_23 = true := dk_fm 1195 (by decide +kernel)
noncomputable abbrev dlLa_24 : List (Nat × Instr × Nat) := [(1237, .istore 5, 2), (1239, .aload_n 2, 1), (1240, .aload_n 0, 1), (1241, .iload 4, 2), (1243, .iconst 1, 1), (1244, .iadd, 1), (1245, .iaload, 1), (1246, .aload_n 0, 1), (1247, .iload 4, 2), (1249, .iconst 2, 1), (1250, .iadd, 1), (1251, .iaload, 1), (1252, .aload_n 0, 1), (1253, .iload 4, 2), (1255, .iconst 3, 1), (1256, .iadd, 1), (1257, .iaload, 1), (1258, .aload_n 0, 1), (1259, .iload 4, 2), (1261, .iconst 4, 1), (1262, .iadd, 1), (1263, .iaload, 1), (1264, .invokevirtual 220, 3), (1267, .istore 6, 2), (1269, .goto 671, 3), (1272, .aload_n 1, 1), (1273, .aload_n 0, 1), (1274, .iload 4, 2), (1276, .iconst 1, 1), (1277, .iadd, 1)]
theorem dtLa_24 : fmDec cL_law_ dlLa_24 = true := dk_fm 1237 (by decide +kernel)
noncomputable abbrev dlLa_25 : List (Nat × Instr × Nat) := [(1278, .iaload, 1), (1279, .aload_n 0, 1), (1280, .iload 4, 2), (1282, .iconst 2, 1), (1283, .iadd, 1), (1284, .iaload, 1), (1285, .aload_n 3, 1), (1286, .invokestatic 221, 3), (1289, .istore 5, 2), (1291, .aload_n 2, 1), (1292, .aload_n 0, 1), (1293, .iload 4, 2), (1295, .iconst 1, 1), (1296, .iadd, 1), (1297, .iaload, 1), (1298, .aload_n 0, 1), (1299, .iload 4, 2), (1301, .iconst 2, 1), (1302, .iadd, 1), (1303, .iaload, 1), (1304, .invokevirtual 223, 3), (1307, .istore 6, 2), (1309, .goto 631, 3), (1312, .aload_n 1, 1), (1313, .aload_n 0, 1), (1314, .iload 4, 2), (1316, .iconst 1, 1), (1317, .iadd, 1), (1318, .iaload, 1), (1319, .aload_n 0, 1)]
theorem dtLa_25 : fmDec cL_law_ dlLa_25 = true := dk_fm 1278 (by decide +kernel)
noncomputable abbrev dlLa_26 : List (Nat × Instr × Nat) := [(1320, .iload 4, 2), (1322, .iconst 2, 1), (1323, .iadd, 1), (1324, .iaload, 1), (1325, .aload_n 0, 1), (1326, .iload 4, 2), (1328, .iconst 3, 1), (1329, .iadd, 1), (1330, .iaload, 1), (1331, .aload_n 3, 1), (1332, .invokestatic 224, 3), (1335, .istore 5, 2), (1337, .aload_n 2, 1), (1338, .aload_n 0, 1), (1339, .iload 4, 2), (1341, .iconst 1, 1), (1342, .iadd, 1), (1343, .iaload, 1), (1344, .aload_n 0, 1), (1345, .iload 4, 2), (1347, .iconst 2, 1), (1348, .iadd, 1), (1349, .iaload, 1), (1350, .aload_n 0, 1), (1351, .iload 4, 2), (1353, .iconst 3, 1), (1354, .iadd, 1), (1355, .iaload, 1), (1356, .invokevirtual 227, 3), (1359, .istore 6, 2)]
theorem dtLa_26 : fmDec cL_law_ dlLa_26 = true := dk_fm 1320 (by decide +kernel)
noncomputable abbrev dlLa_27 : List (Nat × Instr × Nat) := [(1361, .goto 579, 3), (1364, .aload_n 1, 1), (1365, .aload_n 0, 1), (1366, .iload 4, 2), (1368, .iconst 1, 1), (1369, .iadd, 1), (1370, .iaload, 1), (1371, .aload_n 0, 1), (1372, .iload 4, 2), (1374, .iconst 2, 1), (1375, .iadd, 1), (1376, .iaload, 1), (1377, .aload_n 3, 1), (1378, .invokestatic 228, 3), (1381, .istore 5, 2), (1383, .aload_n 2, 1), (1384, .aload_n 0, 1), (1385, .iload 4, 2), (1387, .iconst 1, 1), (1388, .iadd, 1), (1389, .iaload, 1), (1390, .aload_n 0, 1), (1391, .iload 4, 2), (1393, .iconst 2, 1), (1394, .iadd, 1), (1395, .iaload, 1), (1396, .invokevirtual 230, 3), (1399, .istore 6, 2), (1401, .goto 539, 3), (1404, .aload_n 1, 1)]
theorem dtLa_27 : fmDec cL_law_ dlLa_27 = true := dk_fm 1361 (by decide +kernel)
end
-- P 14e
section
noncomputable abbrev dlLa_28 : List (Nat × Instr × Nat) := [(1405, .invokevirtual 231, 3), (1408, .pop, 1), (1409, .aload_n 2, 1), (1410, .invokevirtual 234, 3), (1413, .pop, 1), (1414, .goto 526, 3), (1417, .aload_n 1, 1), (1418, .aload_n 0, 1), (1419, .iload 4, 2), (1421, .iconst 1, 1), (1422, .iadd, 1), (1423, .iaload, 1), (1424, .aload_n 3, 1), (1425, .invokestatic 235, 3), (1428, .istore 5, 2), (1430, .aload_n 2, 1), (1431, .aload_n 0, 1), (1432, .iload 4, 2), (1434, .iconst 1, 1), (1435, .iadd, 1), (1436, .iaload, 1), (1437, .invokevirtual 237, 3), (1440, .lstore 6, 2), (1442, .goto 498, 3), (1445, .aload_n 1, 1), (1446, .invokevirtual 238, 3), (1449, .pop, 1), (1450, .aload_n 2, 1), (1451, .invokevirtual 241, 3), (1454, .pop, 1)]
theorem dtLa_28 : fmDec cL_law_ dlLa_28 = true := dk_fm 1405 (by decide +kernel)
noncomputable abbrev dlLa_29 : List (Nat × Instr × Nat) := [(1455, .goto 485, 3), (1458, .aload_n 1, 1), (1459, .aload_n 0, 1), (1460, .iload 4, 2), (1462, .iconst 1, 1), (1463, .iadd, 1), (1464, .iaload, 1), (1465, .aload_n 0, 1), (1466, .iload 4, 2), (1468, .iconst 2, 1), (1469, .iadd, 1), (1470, .iaload, 1), (1471, .aload_n 3, 1), (1472, .invokestatic 242, 3), (1475, .istore 5, 2), (1477, .aload_n 2, 1), (1478, .aload_n 0, 1), (1479, .iload 4, 2), (1481, .iconst 1, 1), (1482, .iadd, 1), (1483, .iaload, 1), (1484, .aload_n 0, 1), (1485, .iload 4, 2), (1487, .iconst 2, 1), (1488, .iadd, 1), (1489, .iaload, 1), (1490, .invokevirtual 244, 3), (1493, .lstore 6, 2), (1495, .goto 445, 3), (1498, .aload_n 1, 1)]
theorem dtLa_29 : fmDec cL_law_ dlLa_29 = true := dk_fm 1455 (by decide +kernel)
noncomputable abbrev dlLa_30 : List (Nat × Instr × Nat) := [(1499, .aload_n 0, 1), (1500, .iload 4, 2), (1502, .iconst 1, 1), (1503, .iadd, 1), (1504, .iaload, 1), (1505, .aload_n 0, 1), (1506, .iload 4, 2), (1508, .iconst 2, 1), (1509, .iadd, 1), (1510, .iaload, 1), (1511, .aload_n 0, 1), (1512, .iload 4, 2), (1514, .iconst 3, 1), (1515, .iadd, 1), (1516, .iaload, 1), (1517, .aload_n 3, 1), (1518, .invokestatic 245, 3), (1521, .istore 5, 2), (1523, .aload_n 2, 1), (1524, .aload_n 0, 1), (1525, .iload 4, 2), (1527, .iconst 1, 1), (1528, .iadd, 1), (1529, .iaload, 1), (1530, .aload_n 0, 1), (1531, .iload 4, 2), (1533, .iconst 2, 1), (1534, .iadd, 1), (1535, .iaload, 1), (1536, .aload_n 0, 1)]
theorem dtLa_30 : fmDec cL_law_ dlLa_30 = true := dk_fm 1499 (by decide +kernel)
noncomputable abbrev dlLa_31 : List (Nat × Instr × Nat) := [(1537, .iload 4, 2), (1539, .iconst 3, 1), (1540, .iadd, 1), (1541, .iaload, 1), (1542, .invokevirtual 247, 3), (1545, .lstore 6, 2), (1547, .goto 393, 3), (1550, .aload_n 1, 1), (1551, .invokevirtual 248, 3), (1554, .pop, 1), (1555, .aload_n 2, 1), (1556, .invokevirtual 251, 3), (1559, .pop, 1), (1560, .goto 380, 3), (1563, .aload_n 1, 1), (1564, .aload_n 0, 1), (1565, .iload 4, 2), (1567, .iconst 1, 1), (1568, .iadd, 1), (1569, .iaload, 1), (1570, .aload_n 0, 1), (1571, .iload 4, 2), (1573, .iconst 2, 1), (1574, .iadd, 1), (1575, .iaload, 1), (1576, .aload_n 3, 1), (1577, .invokestatic 252, 3), (1580, .istore 5, 2), (1582, .aload_n 2, 1), (1583, .aload_n 0, 1)]
theorem dtLa_31 : fmDec cL_law_ dlLa_31 = true := dk_fm 1537 (by decide +kernel)
noncomputable abbrev dlLa_32 : List (Nat × Instr × Nat) := [(1584, .iload 4, 2), (1586, .iconst 1, 1), (1587, .iadd, 1), (1588, .iaload, 1), (1589, .aload_n 0, 1), (1590, .iload 4, 2), (1592, .iconst 2, 1), (1593, .iadd, 1), (1594, .iaload, 1), (1595, .invokevirtual 254, 3), (1598, .istore 6, 2), (1600, .goto 340, 3), (1603, .aload_n 1, 1), (1604, .aload_n 0, 1), (1605, .iload 4, 2), (1607, .iconst 1, 1), (1608, .iadd, 1), (1609, .iaload, 1), (1610, .aload_n 0, 1), (1611, .iload 4, 2), (1613, .iconst 2, 1), (1614, .iadd, 1), (1615, .iaload, 1), (1616, .aload_n 3, 1), (1617, .invokestatic 255, 3), (1620, .istore 5, 2), (1622, .aload_n 2, 1), (1623, .aload_n 0, 1), (1624, .iload 4, 2), (1626, .iconst 1, 1)]
theorem dtLa_32 : fmDec cL_law_ dlLa_32 = true := dk_fm 1584 (by decide +kernel)
noncomputable abbrev dlLa_33 : List (Nat × Instr × Nat) := [(1627, .iadd, 1), (1628, .iaload, 1), (1629, .aload_n 0, 1), (1630, .iload 4, 2), (1632, .iconst 2, 1), (1633, .iadd, 1), (1634, .iaload, 1), (1635, .invokevirtual 257, 3), (1638, .istore 6, 2), (1640, .goto 300, 3), (1643, .aload_n 1, 1), (1644, .aload_n 0, 1), (1645, .iload 4, 2), (1647, .iconst 1, 1), (1648, .iadd, 1), (1649, .iaload, 1), (1650, .aload_n 3, 1), (1651, .invokestatic 258, 3), (1654, .istore 5, 2), (1656, .aload_n 2, 1), (1657, .aload_n 0, 1), (1658, .iload 4, 2), (1660, .iconst 1, 1), (1661, .iadd, 1), (1662, .iaload, 1), (1663, .invokevirtual 260, 3), (1666, .istore 6, 2), (1668, .goto 272, 3), (1671, .aload_n 1, 1), (1672, .aload_n 0, 1)]
theorem dtLa_33 : fmDec cL_law_ dlLa_33 = true := dk_fm 1627 (by decide +kernel)
noncomputable abbrev dlLa_34 : List (Nat × Instr × Nat) := [(1673, .iload 4, 2), (1675, .iconst 1, 1), (1676, .iadd, 1), (1677, .iaload, 1), (1678, .aload_n 0, 1), (1679, .iload 4, 2), (1681, .iconst 2, 1), (1682, .iadd, 1), (1683, .iaload, 1), (1684, .aload_n 0, 1), (1685, .iload 4, 2), (1687, .iconst 3, 1), (1688, .iadd, 1), (1689, .iaload, 1), (1690, .aload_n 3, 1), (1691, .invokestatic 261, 3), (1694, .istore 5, 2), (1696, .aload_n 2, 1), (1697, .aload_n 0, 1), (1698, .iload 4, 2), (1700, .iconst 1, 1), (1701, .iadd, 1), (1702, .iaload, 1), (1703, .aload_n 0, 1), (1704, .iload 4, 2), (1706, .iconst 2, 1), (1707, .iadd, 1), (1708, .iaload, 1), (1709, .aload_n 0, 1), (1710, .iload 4, 2)]
theorem dtLa_34 : fmDec cL_law_ dlLa_34 = true := dk_fm 1673 (by decide +kernel)
noncomputable abbrev dlLa_35 : List (Nat × Instr × Nat) := [(1712, .iconst 3, 1), (1713, .iadd, 1), (1714, .iaload, 1), (1715, .invokevirtual 263, 3), (1718, .lstore 6, 2), (1720, .goto 220, 3), (1723, .aload_n 1, 1), (1724, .invokevirtual 264, 3), (1727, .aload_n 2, 1), (1728, .invokevirtual 267, 3), (1731, .if_icmp .eq 209, 3), (1734, .iconst 0, 1), (1735, .ireturn, 1), (1736, .aload_n 1, 1), (1737, .aload_n 0, 1), (1738, .iload 4, 2), (1740, .iconst 1, 1), (1741, .iadd, 1), (1742, .iaload, 1), (1743, .aload_n 0, 1), (1744, .iload 4, 2), (1746, .iconst 2, 1), (1747, .iadd, 1), (1748, .iaload, 1), (1749, .aload_n 0, 1), (1750, .iload 4, 2), (1752, .iconst 3, 1), (1753, .iadd, 1), (1754, .iaload, 1), (1755, .aload_n 3, 1)]
theorem dtLa_35 : fmDec cL_law_ dlLa_35 = true := dk_fm 1712 (by decide +kernel)
noncomputable abbrev dlLa_36 : List (Nat × Instr × Nat) := [(1756, .invokestatic 268, 3), (1759, .istore 5, 2), (1761, .aload_n 2, 1), (1762, .aload_n 0, 1), (1763, .iload 4, 2), (1765, .iconst 1, 1), (1766, .iadd, 1), (1767, .iaload, 1), (1768, .aload_n 0, 1), (1769, .iload 4, 2), (1771, .iconst 2, 1), (1772, .iadd, 1), (1773, .iaload, 1), (1774, .aload_n 0, 1), (1775, .iload 4, 2), (1777, .iconst 3, 1), (1778, .iadd, 1), (1779, .iaload, 1), (1780, .invokevirtual 270, 3), (1783, .istore 6, 2), (1785, .goto 155, 3), (1788, .aload_n 1, 1), (1789, .aload_n 0, 1), (1790, .iload 4, 2), (1792, .iconst 1, 1), (1793, .iadd, 1), (1794, .iaload, 1), (1795, .aload_n 0, 1), (1796, .iload 4, 2), (1798, .iconst 2, 1)]
theorem dtLa_36 : fmDec cL_law_ dlLa_36 = true := dk_fm 1756 (by decide +kernel)
noncomputable abbrev dlLa_37 : List (Nat × Instr × Nat) := [(1799, .iadd, 1), (1800, .iaload, 1), (1801, .aload_n 0, 1), (1802, .iload 4, 2), (1804, .iconst 3, 1), (1805, .iadd, 1), (1806, .iaload, 1), (1807, .aload_n 0, 1), (1808, .iload 4, 2), (1810, .iconst 4, 1), (1811, .iadd, 1), (1812, .iaload, 1), (1813, .aload_n 0, 1), (1814, .iload 4, 2), (1816, .iconst 5, 1), (1817, .iadd, 1), (1818, .iaload, 1), (1819, .aload_n 3, 1), (1820, .invokestatic 271, 3), (1823, .istore 5, 2), (1825, .aload_n 2, 1), (1826, .aload_n 0, 1), (1827, .iload 4, 2), (1829, .iconst 1, 1), (1830, .iadd, 1), (1831, .iaload, 1), (1832, .aload_n 0, 1), (1833, .iload 4, 2), (1835, .iconst 2, 1), (1836, .iadd, 1)]
theorem dtLa_37 : fmDec cL_law_ dlLa_37 = true := dk_fm 1799 (by decide +kernel)
noncomputable abbrev dlLa_38 : List (Nat × Instr × Nat) := [(1837, .iaload, 1), (1838, .aload_n 0, 1), (1839, .iload 4, 2), (1841, .iconst 3, 1), (1842, .iadd, 1), (1843, .iaload, 1), (1844, .aload_n 0, 1), (1845, .iload 4, 2), (1847, .iconst 4, 1), (1848, .iadd, 1), (1849, .iaload, 1), (1850, .aload_n 0, 1), (1851, .iload 4, 2), (1853, .iconst 5, 1), (1854, .iadd, 1), (1855, .iaload, 1), (1856, .invokevirtual 273, 3), (1859, .istore 6, 2), (1861, .goto 79, 3), (1864, .aload_n 1, 1), (1865, .invokevirtual 274, 3), (1868, .pop, 1), (1869, .aload_n 2, 1), (1870, .invokevirtual 277, 3), (1873, .pop, 1), (1874, .goto 66, 3), (1877, .aload_n 1, 1), (1878, .invokevirtual 278, 3), (1881, .pop, 1), (1882, .aload_n 2, 1)]
theorem dtLa_38 : fmDec cL_law_ dlLa_38 = true := dk_fm 1837 (by decide +kernel)
noncomputable abbrev dlLa_39 : List (Nat × Instr × Nat) := [(1883, .invokevirtual 281, 3), (1886, .pop, 1), (1887, .goto 53, 3), (1890, .aload_n 1, 1), (1891, .aload_n 0, 1), (1892, .iload 4, 2), (1894, .iconst 1, 1), (1895, .iadd, 1), (1896, .iaload, 1), (1897, .invokevirtual 282, 3), (1900, .pop, 1), (1901, .aload_n 2, 1), (1902, .aload_n 0, 1), (1903, .iload 4, 2), (1905, .iconst 1, 1), (1906, .iadd, 1), (1907, .iaload, 1), (1908, .invokevirtual 285, 3), (1911, .pop, 1), (1912, .goto 28, 3), (1915, .aload_n 1, 1), (1916, .aload_n 0, 1), (1917, .iload 4, 2), (1919, .iconst 1, 1), (1920, .iadd, 1), (1921, .iaload, 1), (1922, .invokevirtual 286, 3), (1925, .pop, 1), (1926, .aload_n 2, 1), (1927, .aload_n 0, 1)]
theorem dtLa_39 : fmDec cL_law_ dlLa_39 = true := dk_fm 1883 (by decide +kernel)
noncomputable abbrev dlLa_40 : List (Nat × Instr × Nat) := [(1928, .iload 4, 2), (1930, .iconst 1, 1), (1931, .iadd, 1), (1932, .iaload, 1), (1933, .invokevirtual 289, 3), (1936, .pop, 1), (1937, .goto 3, 3), (1940, .iinc 4 7, 3), (1943, .goto (-1920), 3), (1946, .iconst 1, 1), (1947, .ireturn, 1)]
theorem dtLa_40 : fmDec cL_law_ dlLa_40 = true := dk_fm 1928 (by decide +kernel)
end
-- P 15
section
/-! THE CLAIM OUT OF ONE WALK OF THE LAW'S BODY. Your part is whole_start (and what it stands on); all else here is the same for every law, but numbers. -/
def R_law : String := "LifeDrawerLaw"
def lw_P (b : Addr) (xs : List Int32) (args : Array Value) (s : State) : Prop := args = #[.ref b] ∧ s.IntsAt b xs ∧ xs.length ≤ 3584 ∧ (Jvm.Cond.and given_1 narrow_1).before args s = true
def lw_Q (_ : Array Value) (s : State) (o : Outcome) (t : State) : Prop := o = .returned (some (.int 1)) ∧ Framed s o t [] 601024 7293034
def lw_Z (below : List Frame) (a : Array Value) (s : State) : State → Prop := fun t => ∃ o, t.status = .running ∧ Ended t below o ∧ lw_Q a s o t
/-- the law's own end, with 1 on the stack, nothing written that was there before, its room as the claim has it -/
theorem lw_ret {p : Program} {l : Launch} {e : Env} {s : State} {m : MethodId} {below : List Frame} {meth : Method} {c : Code} {b : Nat} (hx : p.tables.exec = Jvm.exec) (hb : c.code = code) (hr : meth.sig.returnType = ret) (hlocks : meth.locks = false) {pc : Nat} {H : Heap} {ls : Array Slot} (hdg : decode code pc = .ok (.ireturn, 1)) : W p l e room_1 s m #[Value.ref b] below meth c H [] 601024 7293034 (lw_Z below #[Value.ref b] s) (F0 m pc ls [.int 1]) := by
  intro T hT X
  obtain ⟨fs, hret, hrun, hended, hW, hframe⟩ := X.leave (v := some (.int 1)) (hlocks := hlocks) (fun h => by rw [hr] at h; cases h)
  have hmeth' : T.vm.method? m = some meth := X.method'
  refine ⟨T.setFrames fs, ?_, .returned (some (.int 1)), hrun, hended, rfl, ⟨_, rfl⟩, hW, hframe⟩
  jvm_step X.here [X.here.top, hx, hb, hdg, hmeth', hr, ret, narrow_b1]
  (try refine ⟨rfl, ?_⟩); (try refine ⟨rfl, ?_⟩)
  first | (intro acts; rw [hret _ acts rfl rfl rfl]) | rw [hret _ _ rfl rfl rfl]
  exact Steps.refl _
/-- what holds at the law's entry: the machine, the code, the tables' words (any of lw_tbl by 'hts w (by decide +kernel)'), the script of L ints xs at the cell b, what the Statement gives of the start (any of its parts by flat_of_before) -/
def lw_At (p : Program) (s : State) (m : MethodId) (meth : Method) (c : Code) (b L : Nat) (xs : Nat → Int32) : Prop :=
  p.tables.exec = Jvm.exec ∧ c.code = code ∧ meth.sig.returnType = ret ∧ c.maxLocals = 8 ∧ s.vm.findClass R_law = some m.cls ∧ (∀ w ∈ lw_tbl, w.before #[Value.ref b] s = true) ∧ va_X b L xs s s.heap ∧ b < s.heap.size ∧ meth.locks = false ∧ (Jvm.Cond.and given_1 narrow_1).before #[Value.ref b] s = true
/-- the law at work on a script of n ints -/
def laC (p : Program) (l : Launch) (s : State) (m : MethodId) (meth : Method) (c : Code) (G : fmG) (b n : Nat) (xs : Nat → Int32) : Prop := zFix p s m #[.ref b] c "LifeDrawerLaw" cL_law_ 8 G (fun q => s.heap.size ≤ q) ∧ va_X b n xs s s.heap ∧ b < s.heap.size ∧ meth.sig.returnType = ret ∧ meth.locks = false ∧ l.stackTraces = false
/-- i stands at the t-th int, and six more follow -/
def laI (n : Nat) (i : Int32) (t : Nat) : Prop := ∀ k : Nat, k < 7 → vp_in (i + Int32.ofNat k) n ∧ (i + Int32.ofNat k).toNatClampNeg = t + k
theorem rm_fr {d : Nat} (h : d ≤ 300) : d + 10 + 1 ≤ room_1.frames := by show d + 10 + 1 ≤ 2048; omega
theorem rm_lo {d k : Nat} (h : d ≤ 300) (hk : k ≤ 60) : 8 + (k + 11) + (60 * d + 200) ≤ room_1.locals := by show _ ≤ 84000; omega
theorem rm_c {k : Nat} (h : k + 1 ≤ 601024) : k + 1 ≤ room_1.cells := h
theorem rm_s {k : Nat} (h : k + 6 ≤ 7293034) : k + 6 ≤ room_1.slots := h
theorem lg_cmp_self (x : Int64) : lg_cmp x x = 0 := by simp [lg_cmp]
theorem wperm {α : Type} (x : α) (u v : List α) : (u ++ (x :: v)).Perm (v ++ (u ++ [x])) := by
  apply fm_sums
  intro f
  simp only [List.map_append, List.map_cons, List.map_nil, List.sum_append, List.sum_cons, List.sum_nil]; omega
theorem wpermW (x : Nat × va_E) (u v : va_W) : List.Perm (u ++ (x :: v) : va_W) (v ++ (u ++ [x]) : va_W) := wperm x u v
theorem wpermB (x : Nat × va_E) (u v : va_W) : List.Perm (v ++ (u ++ [x]) : va_W) (u ++ (x :: v) : va_W) := (wperm x u v).symm
section LaRows
variable {p : Program} {l : Launch} {e : Env} {s : State} {m : MethodId} {below : List Frame} {meth : Method} {c : Code} {G : fmG} {b n : Nat} {xs : Nat → Int32} {pc : Nat} {L : List (Option Value)} {st : List Value} {ws : va_W} {cu su : Nat}
theorem la_len (C : laC p l s m meth c G b n xs) (hdg : decode cL_law_ pc = .ok (.arraylength, 1)) (k : zEv p l e room_1 s m #[.ref b] below meth c G (fun q => s.heap.size ≤ q) 8 (lw_Z below #[.ref b] s) (pc + 1) L (.int (Int32.ofNat n) :: st) ws cu su) : zEv p l e room_1 s m #[.ref b] below meth c G (fun q => s.heap.size ≤ q) 8 (lw_Z below #[.ref b] s) pc L (.ref b :: st) ws cu su := by
  intro H locs ls hP hS hL
  exact va_slen C.1.1 C.1.2.1 C.2.1 C.2.2.1 (Nat.not_le.mpr C.2.2.1) hS hdg (k H locs ls hP hS hL)
theorem la_sld (C : laC p l s m meth c G b n xs) {i : Int32} (hin : vp_in i n) (hdg : decode cL_law_ pc = .ok (.iaload, 1)) (k : zEv p l e room_1 s m #[.ref b] below meth c G (fun q => s.heap.size ≤ q) 8 (lw_Z below #[.ref b] s) (pc + 1) L (.int (xs i.toNatClampNeg) :: st) ws cu su) : zEv p l e room_1 s m #[.ref b] below meth c G (fun q => s.heap.size ≤ q) 8 (lw_Z below #[.ref b] s) pc L (.int i :: .ref b :: st) ws cu su := by
  intro H locs ls hP hS hL
  exact va_sld C.1.1 C.1.2.1 C.2.1 C.2.2.1 (Nat.not_le.mpr C.2.2.1) hS hin hdg (k H locs ls hP hS hL)
theorem la_arg (C : laC p l s m meth c G b n xs) {i v : Int32} (a : Nat) (h0 : L[0]? = some (some (.ref b))) (h4 : L[4]? = some (some (.int i))) (hin : vp_in (i + v) n ∧ (i + v).toNatClampNeg = a) {v9 : Int} (hv : Int32.ofInt v9 = v)
    (d0 : decode cL_law_ pc = .ok (.aload_n 0, 1)) (d1 : decode cL_law_ (pc + 1) = .ok (.iload 4, 2)) (d3 : decode cL_law_ (pc + 1 + 2) = .ok (.iconst v9, 1)) (d4 : decode cL_law_ (pc + 1 + 2 + 1) = .ok (.iadd, 1)) (d5 : decode cL_law_ (pc + 1 + 2 + 1 + 1) = .ok (.iaload, 1)) (kk : zEv p l e room_1 s m #[.ref b] below meth c G (fun q => s.heap.size ≤ q) 8 (lw_Z below #[.ref b] s) (pc + 1 + 2 + 1 + 1 + 1) L (.int (xs a) :: st) ws cu su) : zEv p l e room_1 s m #[.ref b] below meth c G (fun q => s.heap.size ≤ q) 8 (lw_Z below #[.ref b] s) pc L st ws cu su := by
  refine z_aloadn C.1 (n := 0) 0 rfl h0 d0 ?_
  refine z_iload C.1 h4 d1 ?_
  refine z_iconst C.1 (v := v) hv d3 ?_
  refine z_iadd C.1 d4 ?_
  refine la_sld C hin.1 d5 ?_
  rw [hin.2]
  exact kk
theorem la_arg6 (C : laC p l s m meth c G b n xs) {i v : Int32} (a : Nat) (h0 : L[0]? = some (some (.ref b))) (h4 : L[4]? = some (some (.int i))) (hin : vp_in (i + v) n ∧ (i + v).toNatClampNeg = a) {v9 : Int} (hv : (Int8.ofInt v9).toInt32 = v)
    (d0 : decode cL_law_ pc = .ok (.aload_n 0, 1)) (d1 : decode cL_law_ (pc + 1) = .ok (.iload 4, 2)) (d3 : decode cL_law_ (pc + 1 + 2) = .ok (.bipush v9, 2)) (d4 : decode cL_law_ (pc + 1 + 2 + 2) = .ok (.iadd, 1)) (d5 : decode cL_law_ (pc + 1 + 2 + 2 + 1) = .ok (.iaload, 1)) (kk : zEv p l e room_1 s m #[.ref b] below meth c G (fun q => s.heap.size ≤ q) 8 (lw_Z below #[.ref b] s) (pc + 1 + 2 + 2 + 1 + 1) L (.int (xs a) :: st) ws cu su) : zEv p l e room_1 s m #[.ref b] below meth c G (fun q => s.heap.size ≤ q) 8 (lw_Z below #[.ref b] s) pc L st ws cu su := by
  refine z_aloadn C.1 (n := 0) 0 rfl h0 d0 ?_
  refine z_iload C.1 h4 d1 ?_
  refine z_bipush C.1 (v := v) hv d3 ?_
  refine z_iadd C.1 d4 ?_
  refine la_sld C hin.1 d5 ?_
  rw [hin.2]
  exact kk
theorem la_true (C : laC p l s m meth c G b n xs) (hc : cu ≤ 601024) (hs : su ≤ 7293034) : zEv p l e room_1 s m #[.ref b] below meth c G (fun q => s.heap.size ≤ q) 8 (lw_Z below #[.ref b] s) 1946 L [] ws cu su := by
  refine z_iconst C.1 (pc := 1946) (v := 1) (by decide) (fm_dec dtLa_40 9 rfl) ?_
  refine z_more hc hs ?_
  intro H locs ls hP hS hL
  exact va_forget (fun q hq => hS.2.2 q hq) (lw_ret C.1.1 C.1.2.1 C.2.2.2.1 C.2.2.2.2.1 (fm_dec dtLa_40 10 rfl))
/-- what stands in locals 5 to 7 is forgotten -/
theorem la_fgt {k0 k1 k2 k3 k4 k5 k6 k7 : Option Value} (k : zEv p l e room_1 s m #[.ref b] below meth c G (fun q => s.heap.size ≤ q) 8 (lw_Z below #[.ref b] s) pc [k0, k1, k2, k3, k4, none, none, none] st ws cu su) : zEv p l e room_1 s m #[.ref b] below meth c G (fun q => s.heap.size ≤ q) 8 (lw_Z below #[.ref b] s) pc [k0, k1, k2, k3, k4, k5, k6, k7] st ws cu su := by
  intro H locs ls hP hS hL
  refine k H locs ls hP hS ⟨hL.1, hL.2.1, fun i v hi => ?_⟩
  match i, hi with
  | 0, hi => exact hL.2.2 0 v hi
  | 1, hi => exact hL.2.2 1 v hi
  | 2, hi => exact hL.2.2 2 v hi
  | 3, hi => exact hL.2.2 3 v hi
  | 4, hi => exact hL.2.2 4 v hi
  | 5, hi => cases hi
  | 6, hi => cases hi
  | 7, hi => cases hi
  | i + 8, hi => simp at hi
/-- a call of the reference: it ends with a value -/
theorem la_ref (C : laC p l s m meth c G b n xs) {g2 : Nat → Nat} {M2 : fmM} {rest : va_W} {idx nn : Nat} {y' : fmY} {As st0 : List Value} {P : fmR → fmM → Prop} (hc : fmCv "LifeDrawerLaw" idx y' nn 11) (hpl : plainName y'.1.cls = true) (hn : As.length = nn) (hst0 : st0 = As.reverse ++ .ref (g2 0) :: st) (hcat : (st.map fun v => v.category).sum ≤ 8) (hml : y'.2.2.1 ≤ 60) (hcu : cu + 1 ≤ 601024) (hsu : su + 6 ≤ 7293034) (hdg : decode cL_law_ pc = .ok (.invokevirtual idx, 3)) (hAs : pvTs (g2, G.2) As = As) (hp : pvGood Tm 250 y' (.ref 0 :: As) M2 P)
    (kk : ∀ (r : fmR) (M' : fmM), P r M' → match pvTo (g2, G.2) r with
      | .inl v => zEv p l e room_1 s m #[.ref b] below meth c G (fun q => s.heap.size ≤ q) 8 (lw_Z below #[.ref b] s) (pc + 3) L (v.toList ++ st) (fmL Tm (g2, G.2) M' ++ rest) cu su
      | .inr E => False) : zEv p l e room_1 s m #[.ref b] below meth c G (fun q => s.heap.size ≤ q) 8 (lw_Z below #[.ref b] s) pc L st0 (fmL Tm (g2, G.2) M2 ++ rest) cu su := by
  refine z_callX C.1 (T := Tm) (g := g2) (M := M2) (rest := rest) (k := 0) (ci := 11) (d' := 250) (As := As) (st := st) hc (by decide) rfl hn hst0 hcat (rm_fr (by decide)) (rm_lo (by decide) hml) (rm_c hcu) (rm_s hsu) hdg ?_
  have h9 := pvGood.fm (G := (g2, G.2)) C.2.2.2.2.2 (by decide) hpl hp
  have e9 : pvTs (g2, G.2) (.ref 0 :: As) = .ref (g2 0) :: As := by
    show pvTr (g2, G.2) (.ref 0) :: pvTs (g2, G.2) As = _
    rw [hAs]
    rfl
  rw [e9] at h9
  refine fmGood.imp h9 (fun o' M' h => ?_)
  obtain ⟨r, rfl, h8⟩ := h
  have h7 := kk r M' h8
  rcases r with v | E
  · exact h7
  · exact False.elim h7

end LaRows
def mtI (ia ns : Int32) (r r2 : fmR) (M2 : fmM) : Prop := match r with
  | .inl v => M2.1 0 0 = 0 ∧ r2 = .inl v
  | .inr E => (E = fmIAE → M2.1 0 0 = ia) ∧ (E = fmNSE → M2.1 0 0 = ns)
def rkI (ia ns : Bool) (r : fmR) : Prop := (∃ v : Int32, r = .inl (some (.int v))) ∨ (ia = true ∧ r = .inr fmIAE) ∨ (ns = true ∧ r = .inr fmNSE)
def rkJ (ia ns : Bool) (r : fmR) : Prop := (∃ v : Int64, r = .inl (some (.long v))) ∨ (ia = true ∧ r = .inr fmIAE) ∨ (ns = true ∧ r = .inr fmNSE)
end
