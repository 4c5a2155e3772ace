-- THE LAW: links and wrappers
theorem cvL_7 : fmCv "LifeDrawerLaw" 7 qX10_drawer 1 10 := ⟨⟨fm_in 593 (by decide +kernel) rfl, ni_X10, nc_X10_drawer, nd_X10_drawer, by decide⟩, nm_X10_drawer, nl_X10_drawer, _, rfl, rfl⟩
theorem cvL_15 : fmCv "LifeDrawerLaw" 15 qX10_law 1 10 := ⟨⟨fm_in 802 (by decide +kernel) rfl, ni_X10, nc_X10_law, nd_X10_law, by decide⟩, nm_X10_law, nl_X10_law, _, rfl, rfl⟩
theorem cvL_18 : fmCv "LifeDrawerLaw" 18 qX10_work 1 10 := ⟨⟨fm_in 841 (by decide +kernel) rfl, ni_X10, nc_X10_work, nd_X10_work, by decide⟩, nm_X10_work, nl_X10_work, _, rfl, rfl⟩
theorem cvL_21 : fmCv "LifeDrawerLaw" 21 qX10_page 1 10 := ⟨⟨fm_in 898 (by decide +kernel) rfl, ni_X10, nc_X10_page, nd_X10_page, by decide⟩, nm_X10_page, nl_X10_page, _, rfl, rfl⟩
theorem cvL_24 : fmCv "LifeDrawerLaw" 24 qX10_told 1 10 := ⟨⟨fm_in 921 (by decide +kernel) rfl, ni_X10, nc_X10_told, nd_X10_told, by decide⟩, nm_X10_told, nl_X10_told, _, rfl, rfl⟩
theorem cvL_27 : fmCv "LifeDrawerLaw" 27 qX10_life 2 10 := ⟨⟨fm_in 934 (by decide +kernel) rfl, ni_X10, nc_X10_life, nd_X10_life, by decide⟩, nm_X10_life, nl_X10_life, _, rfl, rfl⟩
theorem cvL_33 : fmCv "LifeDrawerLaw" 33 qX10_facts 1 10 := ⟨⟨fm_in 963 (by decide +kernel) rfl, ni_X10, nc_X10_facts, nd_X10_facts, by decide⟩, nm_X10_facts, nl_X10_facts, _, rfl, rfl⟩
theorem cvL_36 : fmCv "LifeDrawerLaw" 36 qX10_wrong 1 10 := ⟨⟨fm_in 970 (by decide +kernel) rfl, ni_X10, nc_X10_wrong, nd_X10_wrong, by decide⟩, nm_X10_wrong, nl_X10_wrong, _, rfl, rfl⟩
theorem cvL_39 : fmCv "LifeDrawerLaw" 39 qX10_would 5 10 := ⟨⟨fm_in 978 (by decide +kernel) rfl, ni_X10, nc_X10_would, nd_X10_would, by decide⟩, nm_X10_would, nl_X10_would, _, rfl, rfl⟩
theorem cvL_43 : fmCv "LifeDrawerLaw" 43 qX10_loss 1 10 := ⟨⟨fm_in 986 (by decide +kernel) rfl, ni_X10, nc_X10_loss, nd_X10_loss, by decide⟩, nm_X10_loss, nl_X10_loss, _, rfl, rfl⟩
theorem cvL_47 : fmCv "LifeDrawerLaw" 47 qX10_cost 2 10 := ⟨⟨fm_in 1001 (by decide +kernel) rfl, ni_X10, nc_X10_cost, nd_X10_cost, by decide⟩, nm_X10_cost, nl_X10_cost, _, rfl, rfl⟩
theorem cvL_51 : fmCv "LifeDrawerLaw" 51 qX10_risk 1 10 := ⟨⟨fm_in 1009 (by decide +kernel) rfl, ni_X10, nc_X10_risk, nd_X10_risk, by decide⟩, nm_X10_risk, nl_X10_risk, _, rfl, rfl⟩
theorem cvL_54 : fmCv "LifeDrawerLaw" 54 qX10_saves 2 10 := ⟨⟨fm_in 1017 (by decide +kernel) rfl, ni_X10, nc_X10_saves, nd_X10_saves, by decide⟩, nm_X10_saves, nl_X10_saves, _, rfl, rfl⟩
theorem cvL_57 : fmCv "LifeDrawerLaw" 57 qX10_stale 1 10 := ⟨⟨fm_in 1026 (by decide +kernel) rfl, ni_X10, nc_X10_stale, nd_X10_stale, by decide⟩, nm_X10_stale, nl_X10_stale, _, rfl, rfl⟩
theorem cvL_60 : fmCv "LifeDrawerLaw" 60 qX10_best 2 10 := ⟨⟨fm_in 1037 (by decide +kernel) rfl, ni_X10, nc_X10_best, nd_X10_best, by decide⟩, nm_X10_best, nl_X10_best, _, rfl, rfl⟩
theorem cvL_63 : fmCv "LifeDrawerLaw" 63 qX10_bestIn 2 10 := ⟨⟨fm_in 1088 (by decide +kernel) rfl, ni_X10, nc_X10_bestIn, nd_X10_bestIn, by decide⟩, nm_X10_bestIn, nl_X10_bestIn, _, rfl, rfl⟩
theorem cvL_66 : fmCv "LifeDrawerLaw" 66 qX10_often 2 10 := ⟨⟨fm_in 1099 (by decide +kernel) rfl, ni_X10, nc_X10_often, nd_X10_often, by decide⟩, nm_X10_often, nl_X10_often, _, rfl, rfl⟩
theorem cvL_69 : fmCv "LifeDrawerLaw" 69 qX10_yearly 4 10 := ⟨⟨fm_in 1114 (by decide +kernel) rfl, ni_X10, nc_X10_yearly, nd_X10_yearly, by decide⟩, nm_X10_yearly, nl_X10_yearly, _, rfl, rfl⟩
theorem cvL_73 : fmCv "LifeDrawerLaw" 73 qX10_brings 6 10 := ⟨⟨fm_in 1121 (by decide +kernel) rfl, ni_X10, nc_X10_brings, nd_X10_brings, by decide⟩, nm_X10_brings, nl_X10_brings, _, rfl, rfl⟩
theorem cvL_77 : fmCv "LifeDrawerLaw" 77 qX10_says 5 10 := ⟨⟨fm_in 1135 (by decide +kernel) rfl, ni_X10, nc_X10_says, nd_X10_says, by decide⟩, nm_X10_says, nl_X10_says, _, rfl, rfl⟩
theorem cvL_80 : fmCv "LifeDrawerLaw" 80 qX10_line 4 10 := ⟨⟨fm_in 1145 (by decide +kernel) rfl, ni_X10, nc_X10_line, nd_X10_line, by decide⟩, nm_X10_line, nl_X10_line, _, rfl, rfl⟩
theorem cvL_84 : fmCv "LifeDrawerLaw" 84 qX10_room 2 10 := ⟨⟨fm_in 1152 (by decide +kernel) rfl, ni_X10, nc_X10_room, nd_X10_room, by decide⟩, nm_X10_room, nl_X10_room, _, rfl, rfl⟩
theorem cvL_87 : fmCv "LifeDrawerLaw" 87 qX10_lines 3 10 := ⟨⟨fm_in 1182 (by decide +kernel) rfl, ni_X10, nc_X10_lines, nd_X10_lines, by decide⟩, nm_X10_lines, nl_X10_lines, _, rfl, rfl⟩
theorem cvL_91 : fmCv "LifeDrawerLaw" 91 qX10_apart 2 10 := ⟨⟨fm_in 1189 (by decide +kernel) rfl, ni_X10, nc_X10_apart, nd_X10_apart, by decide⟩, nm_X10_apart, nl_X10_apart, _, rfl, rfl⟩
theorem cvL_94 : fmCv "LifeDrawerLaw" 94 qX10_written 1 10 := ⟨⟨fm_in 1200 (by decide +kernel) rfl, ni_X10, nc_X10_written, nd_X10_written, by decide⟩, nm_X10_written, nl_X10_written, _, rfl, rfl⟩
theorem cvL_97 : fmCv "LifeDrawerLaw" 97 qX10_ahead 2 10 := ⟨⟨fm_in 1207 (by decide +kernel) rfl, ni_X10, nc_X10_ahead, nd_X10_ahead, by decide⟩, nm_X10_ahead, nl_X10_ahead, _, rfl, rfl⟩
theorem cvL_100 : fmCv "LifeDrawerLaw" 100 qX10_lives 3 10 := ⟨⟨fm_in 1214 (by decide +kernel) rfl, ni_X10, nc_X10_lives, nd_X10_lives, by decide⟩, nm_X10_lives, nl_X10_lives, _, rfl, rfl⟩
theorem cvL_104 : fmCv "LifeDrawerLaw" 104 qX10_chain 2 10 := ⟨⟨fm_in 1221 (by decide +kernel) rfl, ni_X10, nc_X10_chain, nd_X10_chain, by decide⟩, nm_X10_chain, nl_X10_chain, _, rfl, rfl⟩
theorem cvL_107 : fmCv "LifeDrawerLaw" 107 qX10_due 2 10 := ⟨⟨fm_in 1228 (by decide +kernel) rfl, ni_X10, nc_X10_due, nd_X10_due, by decide⟩, nm_X10_due, nl_X10_due, _, rfl, rfl⟩
theorem cvL_110 : fmCv "LifeDrawerLaw" 110 qX10_news 1 10 := ⟨⟨fm_in 1235 (by decide +kernel) rfl, ni_X10, nc_X10_news, nd_X10_news, by decide⟩, nm_X10_news, nl_X10_news, _, rfl, rfl⟩
theorem cvL_113 : fmCv "LifeDrawerLaw" 113 qX10_expects 3 10 := ⟨⟨fm_in 1246 (by decide +kernel) rfl, ni_X10, nc_X10_expects, nd_X10_expects, by decide⟩, nm_X10_expects, nl_X10_expects, _, rfl, rfl⟩
theorem cvL_116 : fmCv "LifeDrawerLaw" 116 qX10_years 3 10 := ⟨⟨fm_in 1254 (by decide +kernel) rfl, ni_X10, nc_X10_years, nd_X10_years, by decide⟩, nm_X10_years, nl_X10_years, _, rfl, rfl⟩
theorem cvL_119 : fmCv "LifeDrawerLaw" 119 qX10_span 5 10 := ⟨⟨fm_in 1285 (by decide +kernel) rfl, ni_X10, nc_X10_span, nd_X10_span, by decide⟩, nm_X10_span, nl_X10_span, _, rfl, rfl⟩
theorem cvL_126 : fmCv "LifeDrawerLaw" 126 qX10_feed 5 10 := ⟨⟨fm_in 419 (by decide +kernel) rfl, ni_X10, nc_X10_feed, nd_X10_feed, by decide⟩, nm_X10_feed, nl_X10_feed, _, rfl, rfl⟩
theorem cvL_129 : fmCv "LifeDrawerLaw" 129 qX11_feed 5 11 := ⟨⟨fm_in 1460 (by decide +kernel) rfl, ni_X11, nc_X11_feed, nd_X11_feed, by decide⟩, nm_X11_feed, nl_X11_feed, _, rfl, rfl⟩
theorem cvL_135 : fmCv "LifeDrawerLaw" 135 qX11_drawer 1 11 := ⟨⟨fm_in 1464 (by decide +kernel) rfl, ni_X11, nc_X11_drawer, nd_X11_drawer, by decide⟩, nm_X11_drawer, nl_X11_drawer, _, rfl, rfl⟩
theorem cvL_138 : fmCv "LifeDrawerLaw" 138 qX11_law 1 11 := ⟨⟨fm_in 1537 (by decide +kernel) rfl, ni_X11, nc_X11_law, nd_X11_law, by decide⟩, nm_X11_law, nl_X11_law, _, rfl, rfl⟩
theorem cvL_141 : fmCv "LifeDrawerLaw" 141 qX11_work 1 11 := ⟨⟨fm_in 1584 (by decide +kernel) rfl, ni_X11, nc_X11_work, nd_X11_work, by decide⟩, nm_X11_work, nl_X11_work, _, rfl, rfl⟩
theorem cvL_144 : fmCv "LifeDrawerLaw" 144 qX11_page 1 11 := ⟨⟨fm_in 1573 (by decide +kernel) rfl, ni_X11, nc_X11_page, nd_X11_page, by decide⟩, nm_X11_page, nl_X11_page, _, rfl, rfl⟩
theorem cvL_145 : fmCv "LifeDrawerLaw" 145 qX10_fault 0 10 := ⟨⟨fm_in 427 (by decide +kernel) rfl, ni_X10, nc_X10_fault, nd_X10_fault, by decide⟩, nm_X10_fault, nl_X10_fault, _, rfl, rfl⟩
theorem cvL_149 : fmCv "LifeDrawerLaw" 149 qX11_fault 0 11 := ⟨⟨fm_in 1580 (by decide +kernel) rfl, ni_X11, nc_X11_fault, nd_X11_fault, by decide⟩, nm_X11_fault, nl_X11_fault, _, rfl, rfl⟩
theorem cvL_150 : fmCv "LifeDrawerLaw" 150 qX10_undo 0 10 := ⟨⟨fm_in 431 (by decide +kernel) rfl, ni_X10, nc_X10_undo, nd_X10_undo, by decide⟩, nm_X10_undo, nl_X10_undo, _, rfl, rfl⟩
theorem cvL_153 : fmCv "LifeDrawerLaw" 153 qX11_undo 0 11 := ⟨⟨fm_in 1675 (by decide +kernel) rfl, ni_X11, nc_X11_undo, nd_X11_undo, by decide⟩, nm_X11_undo, nl_X11_undo, _, rfl, rfl⟩
theorem cvL_156 : fmCv "LifeDrawerLaw" 156 qX11_told 1 11 := ⟨⟨fm_in 1679 (by decide +kernel) rfl, ni_X11, nc_X11_told, nd_X11_told, by decide⟩, nm_X11_told, nl_X11_told, _, rfl, rfl⟩
theorem cvL_160 : fmCv "LifeDrawerLaw" 160 qX11_life 2 11 := ⟨⟨fm_in 1687 (by decide +kernel) rfl, ni_X11, nc_X11_life, nd_X11_life, by decide⟩, nm_X11_life, nl_X11_life, _, rfl, rfl⟩
theorem cvL_163 : fmCv "LifeDrawerLaw" 163 qX11_facts 1 11 := ⟨⟨fm_in 1695 (by decide +kernel) rfl, ni_X11, nc_X11_facts, nd_X11_facts, by decide⟩, nm_X11_facts, nl_X11_facts, _, rfl, rfl⟩
theorem cvL_166 : fmCv "LifeDrawerLaw" 166 qX11_wrong 1 11 := ⟨⟨fm_in 1703 (by decide +kernel) rfl, ni_X11, nc_X11_wrong, nd_X11_wrong, by decide⟩, nm_X11_wrong, nl_X11_wrong, _, rfl, rfl⟩
theorem cvL_170 : fmCv "LifeDrawerLaw" 170 qX11_would 5 11 := ⟨⟨fm_in 1711 (by decide +kernel) rfl, ni_X11, nc_X11_would, nd_X11_would, by decide⟩, nm_X11_would, nl_X11_would, _, rfl, rfl⟩
theorem cvL_173 : fmCv "LifeDrawerLaw" 173 qX11_loss 1 11 := ⟨⟨fm_in 1715 (by decide +kernel) rfl, ni_X11, nc_X11_loss, nd_X11_loss, by decide⟩, nm_X11_loss, nl_X11_loss, _, rfl, rfl⟩
theorem cvL_176 : fmCv "LifeDrawerLaw" 176 qX11_cost 2 11 := ⟨⟨fm_in 1727 (by decide +kernel) rfl, ni_X11, nc_X11_cost, nd_X11_cost, by decide⟩, nm_X11_cost, nl_X11_cost, _, rfl, rfl⟩
theorem cvL_179 : fmCv "LifeDrawerLaw" 179 qX11_risk 1 11 := ⟨⟨fm_in 1731 (by decide +kernel) rfl, ni_X11, nc_X11_risk, nd_X11_risk, by decide⟩, nm_X11_risk, nl_X11_risk, _, rfl, rfl⟩
theorem cvL_182 : fmCv "LifeDrawerLaw" 182 qX11_saves 2 11 := ⟨⟨fm_in 1740 (by decide +kernel) rfl, ni_X11, nc_X11_saves, nd_X11_saves, by decide⟩, nm_X11_saves, nl_X11_saves, _, rfl, rfl⟩
theorem cvL_183 : fmCv "LifeDrawerLaw" 183 qX10_first 0 10 := ⟨⟨fm_in 468 (by decide +kernel) rfl, ni_X10, nc_X10_first, nd_X10_first, by decide⟩, nm_X10_first, nl_X10_first, _, rfl, rfl⟩
theorem cvL_186 : fmCv "LifeDrawerLaw" 186 qX11_first 0 11 := ⟨⟨fm_in 1748 (by decide +kernel) rfl, ni_X11, nc_X11_first, nd_X11_first, by decide⟩, nm_X11_first, nl_X11_first, _, rfl, rfl⟩
theorem cvL_187 : fmCv "LifeDrawerLaw" 187 qX10_lacking 0 10 := ⟨⟨fm_in 447 (by decide +kernel) rfl, ni_X10, nc_X10_lacking, nd_X10_lacking, by decide⟩, nm_X10_lacking, nl_X10_lacking, _, rfl, rfl⟩
theorem cvL_190 : fmCv "LifeDrawerLaw" 190 qX11_lacking 0 11 := ⟨⟨fm_in 1756 (by decide +kernel) rfl, ni_X11, nc_X11_lacking, nd_X11_lacking, by decide⟩, nm_X11_lacking, nl_X11_lacking, _, rfl, rfl⟩
theorem cvL_191 : fmCv "LifeDrawerLaw" 191 qX10_signed 0 10 := ⟨⟨fm_in 455 (by decide +kernel) rfl, ni_X10, nc_X10_signed, nd_X10_signed, by decide⟩, nm_X10_signed, nl_X10_signed, _, rfl, rfl⟩
theorem cvL_194 : fmCv "LifeDrawerLaw" 194 qX11_signed 0 11 := ⟨⟨fm_in 1760 (by decide +kernel) rfl, ni_X11, nc_X11_signed, nd_X11_signed, by decide⟩, nm_X11_signed, nl_X11_signed, _, rfl, rfl⟩
theorem cvL_197 : fmCv "LifeDrawerLaw" 197 qX11_stale 1 11 := ⟨⟨fm_in 1764 (by decide +kernel) rfl, ni_X11, nc_X11_stale, nd_X11_stale, by decide⟩, nm_X11_stale, nl_X11_stale, _, rfl, rfl⟩
theorem cvL_200 : fmCv "LifeDrawerLaw" 200 qX11_best 2 11 := ⟨⟨fm_in 1768 (by decide +kernel) rfl, ni_X11, nc_X11_best, nd_X11_best, by decide⟩, nm_X11_best, nl_X11_best, _, rfl, rfl⟩
theorem cvL_201 : fmCv "LifeDrawerLaw" 201 qX11_thrown 0 11 := ⟨⟨fm_in 1456 (by decide +kernel) rfl, ni_X11, nc_X11_thrown, nd_X11_thrown, by decide⟩, nm_X11_thrown, nl_X11_thrown, _, rfl, rfl⟩
theorem cvL_206 : fmCv "LifeDrawerLaw" 206 qX11_bestIn 2 11 := ⟨⟨fm_in 1791 (by decide +kernel) rfl, ni_X11, nc_X11_bestIn, nd_X11_bestIn, by decide⟩, nm_X11_bestIn, nl_X11_bestIn, _, rfl, rfl⟩
theorem cvL_209 : fmCv "LifeDrawerLaw" 209 qX11_often 2 11 := ⟨⟨fm_in 1796 (by decide +kernel) rfl, ni_X11, nc_X11_often, nd_X11_often, by decide⟩, nm_X11_often, nl_X11_often, _, rfl, rfl⟩
theorem cvL_213 : fmCv "LifeDrawerLaw" 213 qX11_yearly 4 11 := ⟨⟨fm_in 1804 (by decide +kernel) rfl, ni_X11, nc_X11_yearly, nd_X11_yearly, by decide⟩, nm_X11_yearly, nl_X11_yearly, _, rfl, rfl⟩
theorem cvL_217 : fmCv "LifeDrawerLaw" 217 qX11_brings 6 11 := ⟨⟨fm_in 1808 (by decide +kernel) rfl, ni_X11, nc_X11_brings, nd_X11_brings, by decide⟩, nm_X11_brings, nl_X11_brings, _, rfl, rfl⟩
theorem cvL_220 : fmCv "LifeDrawerLaw" 220 qX11_says 5 11 := ⟨⟨fm_in 1818 (by decide +kernel) rfl, ni_X11, nc_X11_says, nd_X11_says, by decide⟩, nm_X11_says, nl_X11_says, _, rfl, rfl⟩
theorem cvL_223 : fmCv "LifeDrawerLaw" 223 qX11_line 4 11 := ⟨⟨fm_in 1825 (by decide +kernel) rfl, ni_X11, nc_X11_line, nd_X11_line, by decide⟩, nm_X11_line, nl_X11_line, _, rfl, rfl⟩
theorem cvL_226 : fmCv "LifeDrawerLaw" 226 qX11_room 2 11 := ⟨⟨fm_in 1829 (by decide +kernel) rfl, ni_X11, nc_X11_room, nd_X11_room, by decide⟩, nm_X11_room, nl_X11_room, _, rfl, rfl⟩
theorem cvL_230 : fmCv "LifeDrawerLaw" 230 qX11_lines 3 11 := ⟨⟨fm_in 1845 (by decide +kernel) rfl, ni_X11, nc_X11_lines, nd_X11_lines, by decide⟩, nm_X11_lines, nl_X11_lines, _, rfl, rfl⟩
theorem cvL_233 : fmCv "LifeDrawerLaw" 233 qX11_apart 2 11 := ⟨⟨fm_in 1849 (by decide +kernel) rfl, ni_X11, nc_X11_apart, nd_X11_apart, by decide⟩, nm_X11_apart, nl_X11_apart, _, rfl, rfl⟩
theorem cvL_234 : fmCv "LifeDrawerLaw" 234 qX10_twins 0 10 := ⟨⟨fm_in 545 (by decide +kernel) rfl, ni_X10, nc_X10_twins, nd_X10_twins, by decide⟩, nm_X10_twins, nl_X10_twins, _, rfl, rfl⟩
theorem cvL_237 : fmCv "LifeDrawerLaw" 237 qX11_twins 0 11 := ⟨⟨fm_in 1860 (by decide +kernel) rfl, ni_X11, nc_X11_twins, nd_X11_twins, by decide⟩, nm_X11_twins, nl_X11_twins, _, rfl, rfl⟩
theorem cvL_240 : fmCv "LifeDrawerLaw" 240 qX11_written 1 11 := ⟨⟨fm_in 1864 (by decide +kernel) rfl, ni_X11, nc_X11_written, nd_X11_written, by decide⟩, nm_X11_written, nl_X11_written, _, rfl, rfl⟩
theorem cvL_241 : fmCv "LifeDrawerLaw" 241 qX10_whose 0 10 := ⟨⟨fm_in 557 (by decide +kernel) rfl, ni_X10, nc_X10_whose, nd_X10_whose, by decide⟩, nm_X10_whose, nl_X10_whose, _, rfl, rfl⟩
theorem cvL_244 : fmCv "LifeDrawerLaw" 244 qX11_whose 0 11 := ⟨⟨fm_in 1872 (by decide +kernel) rfl, ni_X11, nc_X11_whose, nd_X11_whose, by decide⟩, nm_X11_whose, nl_X11_whose, _, rfl, rfl⟩
theorem cvL_247 : fmCv "LifeDrawerLaw" 247 qX11_ahead 2 11 := ⟨⟨fm_in 1876 (by decide +kernel) rfl, ni_X11, nc_X11_ahead, nd_X11_ahead, by decide⟩, nm_X11_ahead, nl_X11_ahead, _, rfl, rfl⟩
theorem cvL_250 : fmCv "LifeDrawerLaw" 250 qX11_lives 3 11 := ⟨⟨fm_in 1888 (by decide +kernel) rfl, ni_X11, nc_X11_lives, nd_X11_lives, by decide⟩, nm_X11_lives, nl_X11_lives, _, rfl, rfl⟩
theorem cvL_251 : fmCv "LifeDrawerLaw" 251 qX10_oldest 0 10 := ⟨⟨fm_in 464 (by decide +kernel) rfl, ni_X10, nc_X10_oldest, nd_X10_oldest, by decide⟩, nm_X10_oldest, nl_X10_oldest, _, rfl, rfl⟩
theorem cvL_254 : fmCv "LifeDrawerLaw" 254 qX11_oldest 0 11 := ⟨⟨fm_in 1892 (by decide +kernel) rfl, ni_X11, nc_X11_oldest, nd_X11_oldest, by decide⟩, nm_X11_oldest, nl_X11_oldest, _, rfl, rfl⟩
theorem cvL_257 : fmCv "LifeDrawerLaw" 257 qX11_chain 2 11 := ⟨⟨fm_in 1896 (by decide +kernel) rfl, ni_X11, nc_X11_chain, nd_X11_chain, by decide⟩, nm_X11_chain, nl_X11_chain, _, rfl, rfl⟩
theorem cvL_260 : fmCv "LifeDrawerLaw" 260 qX11_due 2 11 := ⟨⟨fm_in 1900 (by decide +kernel) rfl, ni_X11, nc_X11_due, nd_X11_due, by decide⟩, nm_X11_due, nl_X11_due, _, rfl, rfl⟩
theorem cvL_263 : fmCv "LifeDrawerLaw" 263 qX11_news 1 11 := ⟨⟨fm_in 1904 (by decide +kernel) rfl, ni_X11, nc_X11_news, nd_X11_news, by decide⟩, nm_X11_news, nl_X11_news, _, rfl, rfl⟩
theorem cvL_266 : fmCv "LifeDrawerLaw" 266 qX11_expects 3 11 := ⟨⟨fm_in 1908 (by decide +kernel) rfl, ni_X11, nc_X11_expects, nd_X11_expects, by decide⟩, nm_X11_expects, nl_X11_expects, _, rfl, rfl⟩
theorem cvL_267 : fmCv "LifeDrawerLaw" 267 qX10_worst 0 10 := ⟨⟨fm_in 531 (by decide +kernel) rfl, ni_X10, nc_X10_worst, nd_X10_worst, by decide⟩, nm_X10_worst, nl_X10_worst, _, rfl, rfl⟩
theorem cvL_270 : fmCv "LifeDrawerLaw" 270 qX11_worst 0 11 := ⟨⟨fm_in 1884 (by decide +kernel) rfl, ni_X11, nc_X11_worst, nd_X11_worst, by decide⟩, nm_X11_worst, nl_X11_worst, _, rfl, rfl⟩
theorem cvL_273 : fmCv "LifeDrawerLaw" 273 qX11_years 3 11 := ⟨⟨fm_in 1912 (by decide +kernel) rfl, ni_X11, nc_X11_years, nd_X11_years, by decide⟩, nm_X11_years, nl_X11_years, _, rfl, rfl⟩
theorem cvL_276 : fmCv "LifeDrawerLaw" 276 qX11_span 5 11 := ⟨⟨fm_in 1921 (by decide +kernel) rfl, ni_X11, nc_X11_span, nd_X11_span, by decide⟩, nm_X11_span, nl_X11_span, _, rfl, rfl⟩
theorem cvL_277 : fmCv "LifeDrawerLaw" 277 qX10_image 0 10 := ⟨⟨fm_in 569 (by decide +kernel) rfl, ni_X10, nc_X10_image, nd_X10_image, by decide⟩, nm_X10_image, nl_X10_image, _, rfl, rfl⟩
theorem cvL_280 : fmCv "LifeDrawerLaw" 280 qX11_image 0 11 := ⟨⟨fm_in 1925 (by decide +kernel) rfl, ni_X11, nc_X11_image, nd_X11_image, by decide⟩, nm_X11_image, nl_X11_image, _, rfl, rfl⟩
theorem cvL_281 : fmCv "LifeDrawerLaw" 281 qX10_restore 0 10 := ⟨⟨fm_in 577 (by decide +kernel) rfl, ni_X10, nc_X10_restore, nd_X10_restore, by decide⟩, nm_X10_restore, nl_X10_restore, _, rfl, rfl⟩
theorem cvL_284 : fmCv "LifeDrawerLaw" 284 qX11_restore 0 11 := ⟨⟨fm_in 1937 (by decide +kernel) rfl, ni_X11, nc_X11_restore, nd_X11_restore, by decide⟩, nm_X11_restore, nl_X11_restore, _, rfl, rfl⟩
theorem cvL_285 : fmCv "LifeDrawerLaw" 285 qX10_status 1 10 := ⟨⟨fm_in 581 (by decide +kernel) rfl, ni_X10, nc_X10_status, nd_X10_status, by decide⟩, nm_X10_status, nl_X10_status, _, rfl, rfl⟩
theorem cvL_288 : fmCv "LifeDrawerLaw" 288 qX11_status 1 11 := ⟨⟨fm_in 1941 (by decide +kernel) rfl, ni_X11, nc_X11_status, nd_X11_status, by decide⟩, nm_X11_status, nl_X11_status, _, rfl, rfl⟩
theorem cvL_289 : fmCv "LifeDrawerLaw" 289 qX10_count 1 10 := ⟨⟨fm_in 585 (by decide +kernel) rfl, ni_X10, nc_X10_count, nd_X10_count, by decide⟩, nm_X10_count, nl_X10_count, _, rfl, rfl⟩
theorem cvL_292 : fmCv "LifeDrawerLaw" 292 qX11_count 1 11 := ⟨⟨fm_in 1945 (by decide +kernel) rfl, ni_X11, nc_X11_count, nd_X11_count, by decide⟩, nm_X11_count, nl_X11_count, _, rfl, rfl⟩
theorem niL : Cond.initialized "LifeDrawerLaw" ∈ fmWs := (fm_in 0 (by decide +kernel) rfl)
theorem clL_13 : Cond.classLink "LifeDrawerLaw" 13 "java/lang/IllegalArgumentException" ∈ fmWs := (fm_in 592 (by decide +kernel) rfl)
theorem clL_31 : Cond.classLink "LifeDrawerLaw" 31 "java/util/NoSuchElementException" ∈ fmWs := (fm_in 933 (by decide +kernel) rfl)
/-- the class's cells, then 'out', then the rest -/
def WX (G : fmG) (g : Nat → Nat) (o : Nat) (Rs : va_W) (u : fmM × (Nat → Int64)) : va_W := fmL Tx (g, G.2) u.1 ++ ((o, .inl (G.2.2.1 1, 1, .inr (.inl u.2))) :: Rs)
def wI (f : Nat → Int64) (Q : Int32 → fmM × (Nat → Int64) → Prop) (X : String → fmM → Prop) : fmR → fmM → Prop := fun o M' => match o with
  | .inl (some (.int v)) => Q 0 (M', vp_updL f 0 v.toInt64)
  | .inr E => X E M'
  | _ => False
def wJ (f : Nat → Int64) (Q : Int32 → fmM × (Nat → Int64) → Prop) (X : String → fmM → Prop) : fmR → fmM → Prop := fun o M' => match o with
  | .inl (some (.long v)) => Q 0 (M', vp_updL f 0 v)
  | .inr E => X E M'
  | _ => False
theorem wI_to {f : Nat → Int64} {Q : Int32 → fmM × (Nat → Int64) → Prop} {X : String → fmM → Prop} {G : fmG} {o : fmR} {M' : fmM} (h : wI f Q X o M') : wI f Q X (pvTo G o) M' := by
  rcases o with v | E
  · rcases v with _ | v
    · exact h
    · cases v <;> first | exact h | exact False.elim h
  · exact h
theorem wJ_to {f : Nat → Int64} {Q : Int32 → fmM × (Nat → Int64) → Prop} {X : String → fmM → Prop} {G : fmG} {o : fmR} {M' : fmM} (h : wJ f Q X o M') : wJ f Q X (pvTo G o) M' := by
  rcases o with v | E
  · rcases v with _ | v
    · exact h
    · cases v <;> first | exact h | exact False.elim h
  · exact h
theorem z_then1 {p : Program} {l : Launch} {e : Env} {R : Room} {s : State} {m : MethodId} {args : Array Value} {below : List Frame} {meth : Method} {c : Code} {G : fmG} {A : Nat → Prop} {nL : Nat} {Z : State → Prop} {pc : Nat} {L : List (Option Value)} {st : List Value} {ws : va_W} {cu su : Nat} {v : Value} (h : zEv p l e R s m args below meth c G A nL Z pc L (v :: st) ws cu su) : zEv p l e R s m args below meth c G A nL Z pc L ((some v).toList ++ st) ws cu su := h
abbrev dlL_drawer : List (Nat × Instr × Nat) := [(0, .aload_n 2, 1), (1, .iconst 0, 1), (2, .aload_n 0, 1), (3, .iload_n 1, 1), (4, .invokevirtual 7, 3), (7, .i2l, 1), (8, .lastore, 1), (9, .goto 6, 3), (12, .astore_n 3, 1), (13, .iconst 1, 1), (14, .ireturn, 1), (15, .iconst 0, 1), (16, .ireturn, 1)]
theorem dtL_drawer : fmDec cL_drawer dlL_drawer = true := by decide +kernel
abbrev qL_drawer : fmY := (yL_drawer, cL_drawer, 4, some .int)
theorem nw_L_drawer : Cond.codeWith yL_drawer cL_drawer 4 (some .int) [(0, 9, 12, 13)] ∈ fmWs := (fm_in 591 (by decide +kernel) rfl)
theorem nst_L_drawer : Cond.static yL_drawer ∈ fmWs := (fm_in 590 (by decide +kernel) rfl)
theorem nd_L_drawer : yL_drawer.cls ≠ "java/lang/invoke/MethodHandle" ∧ yL_drawer.cls ≠ "java/lang/invoke/VarHandle" ∧ (parseMethodDescriptor yL_drawer.desc).map (fun d => d.parameters.length) = some 3 := by decide +kernel
set_option maxRecDepth 20000 in
theorem w_drawer {l : Launch} {G : fmG} {g : Nat → Nat} {M : fmM} {f : Nat → Int64} {o : Nat} {Rs : va_W} {Q : Int32 → fmM × (Nat → Int64) → Prop} {p0 : Int32} (hst : l.stackTraces = false) (hp : pvGood Tx 250 qX10_drawer [.ref 0, .int p0] M (wI f Q (fun E M' => (E = fmIAE ∧ Q 1 (M', f))))) : zGood l G qL_drawer [(0, 9, 12, 13)] [.ref (g 0), .int p0, .ref o] (WX G g o Rs (M, f)) (WX G g o Rs) Q := by
  have hx : fmGood Tx l (g, G.2) 250 qX10_drawer [.ref (g 0), .int p0] M (wI f Q (fun E M' => (E = fmIAE ∧ Q 1 (M', f)))) := fmGood.imp (pvGood.fm hst (by decide) (by decide +kernel) hp) (fun o9 M9 h9 => by obtain ⟨o', rfl, h8⟩ := h9; exact wI_to h8)
  refine zGood_of (by decide +kernel) rfl (Nat.le_of_ble_eq_true rfl) ?_
  intro p e s m args below meth c A hF htab hr hlocks
  show zEv p l e (lwRm 300 1 6) s m args below meth c G A 4 _ 0 [some (.ref (g 0)), some (.int p0), some (.ref o), none] [] (WX G g o Rs (M, f)) 0 0
  refine z_aloadn hF (pc := 0) (n := 2) 2 rfl rfl (fm_dec dtL_drawer 0 rfl) ?_
  refine z_iconst hF (pc := 1) (v := 0) (by decide) (fm_dec dtL_drawer 1 rfl) ?_
  refine z_aloadn hF (pc := 2) (n := 0) 0 rfl rfl (fm_dec dtL_drawer 2 rfl) ?_
  refine z_iloadn hF (pc := 3) (n := 1) 1 rfl rfl (fm_dec dtL_drawer 3 rfl) ?_
  refine z_callX hF (T := Tx) (g := g) (M := M) (rest := (o, .inl (G.2.2.1 1, 1, .inr (.inl f))) :: Rs) (k := 0) (ci := 10) (d' := 250) (pc := 4) (As := [.int p0]) (st := [.int 0, .ref o]) cvL_7 (by decide) rfl rfl rfl (Nat.le_of_ble_eq_true rfl) (by decide) (by decide) (by decide) (by decide) (fm_dec dtL_drawer 4 rfl) (fmGood.imp hx (fun o9 M' h => ?_))
  rcases o9 with v | E
  · rcases v with _ | v
    · exact False.elim h
    · cases v with
      | int v =>
        refine z_then1 ?_
        refine z_i2l hF (pc := 7) (fm_dec dtL_drawer 5 rfl) ?_
        refine z_last hF (pc := 8) (w0 := fmL Tx (g, G.2) M') (w1 := Rs) (fm_dec dtL_drawer 6 rfl) ?_
        refine z_goto hF (pc := 9) 15 (by decide) (fm_dec dtL_drawer 7 rfl) ?_
        refine z_iconst hF (pc := 15) (v := 0) (by decide) (fm_dec dtL_drawer 11 rfl) ?_
        exact z_iret hF (pc := 16) (WW := WX G g o Rs) (M', vp_updL f 0 v.toInt64) hr hlocks (by decide) (by decide) (fm_dec dtL_drawer 12 rfl) h
      | _ => exact False.elim h
  · obtain ⟨rfl, h⟩ := h
    refine z_catch hF (name := fmIAE) [] ⟨0, 9, 12, 13⟩ [] (by rw [htab]; rfl) (fun z hz => by cases hz) (by decide) (by decide) clL_13 hF.2.2.2.2.2.1.1.2.2.2.1.1 (fun q => ?_)
    refine z_astoren hF (pc := 12) (n := 3) 3 rfl (by decide) rfl (fm_dec dtL_drawer 8 rfl) ?_
    refine z_iconst hF (pc := 13) (v := 1) (by decide) (fm_dec dtL_drawer 9 rfl) ?_
    exact z_iret hF (pc := 14) (WW := WX G g o Rs) (M', f) hr hlocks (by decide) (by decide) (fm_dec dtL_drawer 10 rfl) h
abbrev dlL_law : List (Nat × Instr × Nat) := [(0, .aload_n 2, 1), (1, .iconst 0, 1), (2, .aload_n 0, 1), (3, .iload_n 1, 1), (4, .invokevirtual 15, 3), (7, .i2l, 1), (8, .lastore, 1), (9, .goto 6, 3), (12, .astore_n 3, 1), (13, .iconst 1, 1), (14, .ireturn, 1), (15, .iconst 0, 1), (16, .ireturn, 1)]
theorem dtL_law : fmDec cL_law dlL_law = true := by decide +kernel
abbrev qL_law : fmY := (yL_law, cL_law, 4, some .int)
theorem nw_L_law : Cond.codeWith yL_law cL_law 4 (some .int) [(0, 9, 12, 13)] ∈ fmWs := (fm_in 801 (by decide +kernel) rfl)
theorem nst_L_law : Cond.static yL_law ∈ fmWs := (fm_in 800 (by decide +kernel) rfl)
theorem nd_L_law : yL_law.cls ≠ "java/lang/invoke/MethodHandle" ∧ yL_law.cls ≠ "java/lang/invoke/VarHandle" ∧ (parseMethodDescriptor yL_law.desc).map (fun d => d.parameters.length) = some 3 := by decide +kernel
set_option maxRecDepth 20000 in
theorem w_law {l : Launch} {G : fmG} {g : Nat → Nat} {M : fmM} {f : Nat → Int64} {o : Nat} {Rs : va_W} {Q : Int32 → fmM × (Nat → Int64) → Prop} {p0 : Int32} (hst : l.stackTraces = false) (hp : pvGood Tx 250 qX10_law [.ref 0, .int p0] M (wI f Q (fun E M' => (E = fmIAE ∧ Q 1 (M', f))))) : zGood l G qL_law [(0, 9, 12, 13)] [.ref (g 0), .int p0, .ref o] (WX G g o Rs (M, f)) (WX G g o Rs) Q := by
  have hx : fmGood Tx l (g, G.2) 250 qX10_law [.ref (g 0), .int p0] M (wI f Q (fun E M' => (E = fmIAE ∧ Q 1 (M', f)))) := fmGood.imp (pvGood.fm hst (by decide) (by decide +kernel) hp) (fun o9 M9 h9 => by obtain ⟨o', rfl, h8⟩ := h9; exact wI_to h8)
  refine zGood_of (by decide +kernel) rfl (Nat.le_of_ble_eq_true rfl) ?_
  intro p e s m args below meth c A hF htab hr hlocks
  show zEv p l e (lwRm 300 1 6) s m args below meth c G A 4 _ 0 [some (.ref (g 0)), some (.int p0), some (.ref o), none] [] (WX G g o Rs (M, f)) 0 0
  refine z_aloadn hF (pc := 0) (n := 2) 2 rfl rfl (fm_dec dtL_law 0 rfl) ?_
  refine z_iconst hF (pc := 1) (v := 0) (by decide) (fm_dec dtL_law 1 rfl) ?_
  refine z_aloadn hF (pc := 2) (n := 0) 0 rfl rfl (fm_dec dtL_law 2 rfl) ?_
  refine z_iloadn hF (pc := 3) (n := 1) 1 rfl rfl (fm_dec dtL_law 3 rfl) ?_
  refine z_callX hF (T := Tx) (g := g) (M := M) (rest := (o, .inl (G.2.2.1 1, 1, .inr (.inl f))) :: Rs) (k := 0) (ci := 10) (d' := 250) (pc := 4) (As := [.int p0]) (st := [.int 0, .ref o]) cvL_15 (by decide) rfl rfl rfl (Nat.le_of_ble_eq_true rfl) (by decide) (by decide) (by decide) (by decide) (fm_dec dtL_law 4 rfl) (fmGood.imp hx (fun o9 M' h => ?_))
  rcases o9 with v | E
  · rcases v with _ | v
    · exact False.elim h
    · cases v with
      | int v =>
        refine z_then1 ?_
        refine z_i2l hF (pc := 7) (fm_dec dtL_law 5 rfl) ?_
        refine z_last hF (pc := 8) (w0 := fmL Tx (g, G.2) M') (w1 := Rs) (fm_dec dtL_law 6 rfl) ?_
        refine z_goto hF (pc := 9) 15 (by decide) (fm_dec dtL_law 7 rfl) ?_
        refine z_iconst hF (pc := 15) (v := 0) (by decide) (fm_dec dtL_law 11 rfl) ?_
        exact z_iret hF (pc := 16) (WW := WX G g o Rs) (M', vp_updL f 0 v.toInt64) hr hlocks (by decide) (by decide) (fm_dec dtL_law 12 rfl) h
      | _ => exact False.elim h
  · obtain ⟨rfl, h⟩ := h
    refine z_catch hF (name := fmIAE) [] ⟨0, 9, 12, 13⟩ [] (by rw [htab]; rfl) (fun z hz => by cases hz) (by decide) (by decide) clL_13 hF.2.2.2.2.2.1.1.2.2.2.1.1 (fun q => ?_)
    refine z_astoren hF (pc := 12) (n := 3) 3 rfl (by decide) rfl (fm_dec dtL_law 8 rfl) ?_
    refine z_iconst hF (pc := 13) (v := 1) (by decide) (fm_dec dtL_law 9 rfl) ?_
    exact z_iret hF (pc := 14) (WW := WX G g o Rs) (M', f) hr hlocks (by decide) (by decide) (fm_dec dtL_law 10 rfl) h
abbrev dlL_work : List (Nat × Instr × Nat) := [(0, .aload_n 2, 1), (1, .iconst 0, 1), (2, .aload_n 0, 1), (3, .iload_n 1, 1), (4, .invokevirtual 18, 3), (7, .i2l, 1), (8, .lastore, 1), (9, .goto 6, 3), (12, .astore_n 3, 1), (13, .iconst 1, 1), (14, .ireturn, 1), (15, .iconst 0, 1), (16, .ireturn, 1)]
theorem dtL_work : fmDec cL_work dlL_work = true := by decide +kernel
abbrev qL_work : fmY := (yL_work, cL_work, 4, some .int)
theorem nw_L_work : Cond.codeWith yL_work cL_work 4 (some .int) [(0, 9, 12, 13)] ∈ fmWs := (fm_in 840 (by decide +kernel) rfl)
theorem nst_L_work : Cond.static yL_work ∈ fmWs := (fm_in 839 (by decide +kernel) rfl)
theorem nd_L_work : yL_work.cls ≠ "java/lang/invoke/MethodHandle" ∧ yL_work.cls ≠ "java/lang/invoke/VarHandle" ∧ (parseMethodDescriptor yL_work.desc).map (fun d => d.parameters.length) = some 3 := by decide +kernel
set_option maxRecDepth 20000 in
theorem w_work {l : Launch} {G : fmG} {g : Nat → Nat} {M : fmM} {f : Nat → Int64} {o : Nat} {Rs : va_W} {Q : Int32 → fmM × (Nat → Int64) → Prop} {p0 : Int32} (hst : l.stackTraces = false) (hp : pvGood Tx 250 qX10_work [.ref 0, .int p0] M (wI f Q (fun E M' => (E = fmIAE ∧ Q 1 (M', f))))) : zGood l G qL_work [(0, 9, 12, 13)] [.ref (g 0), .int p0, .ref o] (WX G g o Rs (M, f)) (WX G g o Rs) Q := by
  have hx : fmGood Tx l (g, G.2) 250 qX10_work [.ref (g 0), .int p0] M (wI f Q (fun E M' => (E = fmIAE ∧ Q 1 (M', f)))) := fmGood.imp (pvGood.fm hst (by decide) (by decide +kernel) hp) (fun o9 M9 h9 => by obtain ⟨o', rfl, h8⟩ := h9; exact wI_to h8)
  refine zGood_of (by decide +kernel) rfl (Nat.le_of_ble_eq_true rfl) ?_
  intro p e s m args below meth c A hF htab hr hlocks
  show zEv p l e (lwRm 300 1 6) s m args below meth c G A 4 _ 0 [some (.ref (g 0)), some (.int p0), some (.ref o), none] [] (WX G g o Rs (M, f)) 0 0
  refine z_aloadn hF (pc := 0) (n := 2) 2 rfl rfl (fm_dec dtL_work 0 rfl) ?_
  refine z_iconst hF (pc := 1) (v := 0) (by decide) (fm_dec dtL_work 1 rfl) ?_
  refine z_aloadn hF (pc := 2) (n := 0) 0 rfl rfl (fm_dec dtL_work 2 rfl) ?_
  refine z_iloadn hF (pc := 3) (n := 1) 1 rfl rfl (fm_dec dtL_work 3 rfl) ?_
  refine z_callX hF (T := Tx) (g := g) (M := M) (rest := (o, .inl (G.2.2.1 1, 1, .inr (.inl f))) :: Rs) (k := 0) (ci := 10) (d' := 250) (pc := 4) (As := [.int p0]) (st := [.int 0, .ref o]) cvL_18 (by decide) rfl rfl rfl (Nat.le_of_ble_eq_true rfl) (by decide) (by decide) (by decide) (by decide) (fm_dec dtL_work 4 rfl) (fmGood.imp hx (fun o9 M' h => ?_))
  rcases o9 with v | E
  · rcases v with _ | v
    · exact False.elim h
    · cases v with
      | int v =>
        refine z_then1 ?_
        refine z_i2l hF (pc := 7) (fm_dec dtL_work 5 rfl) ?_
        refine z_last hF (pc := 8) (w0 := fmL Tx (g, G.2) M') (w1 := Rs) (fm_dec dtL_work 6 rfl) ?_
        refine z_goto hF (pc := 9) 15 (by decide) (fm_dec dtL_work 7 rfl) ?_
        refine z_iconst hF (pc := 15) (v := 0) (by decide) (fm_dec dtL_work 11 rfl) ?_
        exact z_iret hF (pc := 16) (WW := WX G g o Rs) (M', vp_updL f 0 v.toInt64) hr hlocks (by decide) (by decide) (fm_dec dtL_work 12 rfl) h
      | _ => exact False.elim h
  · obtain ⟨rfl, h⟩ := h
    refine z_catch hF (name := fmIAE) [] ⟨0, 9, 12, 13⟩ [] (by rw [htab]; rfl) (fun z hz => by cases hz) (by decide) (by decide) clL_13 hF.2.2.2.2.2.1.1.2.2.2.1.1 (fun q => ?_)
    refine z_astoren hF (pc := 12) (n := 3) 3 rfl (by decide) rfl (fm_dec dtL_work 8 rfl) ?_
    refine z_iconst hF (pc := 13) (v := 1) (by decide) (fm_dec dtL_work 9 rfl) ?_
    exact z_iret hF (pc := 14) (WW := WX G g o Rs) (M', f) hr hlocks (by decide) (by decide) (fm_dec dtL_work 10 rfl) h
abbrev dlL_page : List (Nat × Instr × Nat) := [(0, .aload_n 2, 1), (1, .iconst 0, 1), (2, .aload_n 0, 1), (3, .iload_n 1, 1), (4, .invokevirtual 21, 3), (7, .i2l, 1), (8, .lastore, 1), (9, .goto 6, 3), (12, .astore_n 3, 1), (13, .iconst 1, 1), (14, .ireturn, 1), (15, .iconst 0, 1), (16, .ireturn, 1)]
theorem dtL_page : fmDec cL_page dlL_page = true := by decide +kernel
abbrev qL_page : fmY := (yL_page, cL_page, 4, some .int)
theorem nw_L_page : Cond.codeWith yL_page cL_page 4 (some .int) [(0, 9, 12, 13)] ∈ fmWs := (fm_in 897 (by decide +kernel) rfl)
theorem nst_L_page : Cond.static yL_page ∈ fmWs := (fm_in 896 (by decide +kernel) rfl)
theorem nd_L_page : yL_page.cls ≠ "java/lang/invoke/MethodHandle" ∧ yL_page.cls ≠ "java/lang/invoke/VarHandle" ∧ (parseMethodDescriptor yL_page.desc).map (fun d => d.parameters.length) = some 3 := by decide +kernel
set_option maxRecDepth 20000 in
theorem w_page {l : Launch} {G : fmG} {g : Nat → Nat} {M : fmM} {f : Nat → Int64} {o : Nat} {Rs : va_W} {Q : Int32 → fmM × (Nat → Int64) → Prop} {p0 : Int32} (hst : l.stackTraces = false) (hp : pvGood Tx 250 qX10_page [.ref 0, .int p0] M (wI f Q (fun E M' => (E = fmIAE ∧ Q 1 (M', f))))) : zGood l G qL_page [(0, 9, 12, 13)] [.ref (g 0), .int p0, .ref o] (WX G g o Rs (M, f)) (WX G g o Rs) Q := by
  have hx : fmGood Tx l (g, G.2) 250 qX10_page [.ref (g 0), .int p0] M (wI f Q (fun E M' => (E = fmIAE ∧ Q 1 (M', f)))) := fmGood.imp (pvGood.fm hst (by decide) (by decide +kernel) hp) (fun o9 M9 h9 => by obtain ⟨o', rfl, h8⟩ := h9; exact wI_to h8)
  refine zGood_of (by decide +kernel) rfl (Nat.le_of_ble_eq_true rfl) ?_
  intro p e s m args below meth c A hF htab hr hlocks
  show zEv p l e (lwRm 300 1 6) s m args below meth c G A 4 _ 0 [some (.ref (g 0)), some (.int p0), some (.ref o), none] [] (WX G g o Rs (M, f)) 0 0
  refine z_aloadn hF (pc := 0) (n := 2) 2 rfl rfl (fm_dec dtL_page 0 rfl) ?_
  refine z_iconst hF (pc := 1) (v := 0) (by decide) (fm_dec dtL_page 1 rfl) ?_
  refine z_aloadn hF (pc := 2) (n := 0) 0 rfl rfl (fm_dec dtL_page 2 rfl) ?_
  refine z_iloadn hF (pc := 3) (n := 1) 1 rfl rfl (fm_dec dtL_page 3 rfl) ?_
  refine z_callX hF (T := Tx) (g := g) (M := M) (rest := (o, .inl (G.2.2.1 1, 1, .inr (.inl f))) :: Rs) (k := 0) (ci := 10) (d' := 250) (pc := 4) (As := [.int p0]) (st := [.int 0, .ref o]) cvL_21 (by decide) rfl rfl rfl (Nat.le_of_ble_eq_true rfl) (by decide) (by decide) (by decide) (by decide) (fm_dec dtL_page 4 rfl) (fmGood.imp hx (fun o9 M' h => ?_))
  rcases o9 with v | E
  · rcases v with _ | v
    · exact False.elim h
    · cases v with
      | int v =>
        refine z_then1 ?_
        refine z_i2l hF (pc := 7) (fm_dec dtL_page 5 rfl) ?_
        refine z_last hF (pc := 8) (w0 := fmL Tx (g, G.2) M') (w1 := Rs) (fm_dec dtL_page 6 rfl) ?_
        refine z_goto hF (pc := 9) 15 (by decide) (fm_dec dtL_page 7 rfl) ?_
        refine z_iconst hF (pc := 15) (v := 0) (by decide) (fm_dec dtL_page 11 rfl) ?_
        exact z_iret hF (pc := 16) (WW := WX G g o Rs) (M', vp_updL f 0 v.toInt64) hr hlocks (by decide) (by decide) (fm_dec dtL_page 12 rfl) h
      | _ => exact False.elim h
  · obtain ⟨rfl, h⟩ := h
    refine z_catch hF (name := fmIAE) [] ⟨0, 9, 12, 13⟩ [] (by rw [htab]; rfl) (fun z hz => by cases hz) (by decide) (by decide) clL_13 hF.2.2.2.2.2.1.1.2.2.2.1.1 (fun q => ?_)
    refine z_astoren hF (pc := 12) (n := 3) 3 rfl (by decide) rfl (fm_dec dtL_page 8 rfl) ?_
    refine z_iconst hF (pc := 13) (v := 1) (by decide) (fm_dec dtL_page 9 rfl) ?_
    exact z_iret hF (pc := 14) (WW := WX G g o Rs) (M', f) hr hlocks (by decide) (by decide) (fm_dec dtL_page 10 rfl) h
abbrev dlL_told : List (Nat × Instr × Nat) := [(0, .aload_n 2, 1), (1, .iconst 0, 1), (2, .aload_n 0, 1), (3, .iload_n 1, 1), (4, .invokevirtual 24, 3), (7, .i2l, 1), (8, .lastore, 1), (9, .goto 6, 3), (12, .astore_n 3, 1), (13, .iconst 1, 1), (14, .ireturn, 1), (15, .iconst 0, 1), (16, .ireturn, 1)]
theorem dtL_told : fmDec cL_told dlL_told = true := by decide +kernel
abbrev qL_told : fmY := (yL_told, cL_told, 4, some .int)
theorem nw_L_told : Cond.codeWith yL_told cL_told 4 (some .int) [(0, 9, 12, 13)] ∈ fmWs := (fm_in 920 (by decide +kernel) rfl)
theorem nst_L_told : Cond.static yL_told ∈ fmWs := (fm_in 919 (by decide +kernel) rfl)
theorem nd_L_told : yL_told.cls ≠ "java/lang/invoke/MethodHandle" ∧ yL_told.cls ≠ "java/lang/invoke/VarHandle" ∧ (parseMethodDescriptor yL_told.desc).map (fun d => d.parameters.length) = some 3 := by decide +kernel
set_option maxRecDepth 20000 in
theorem w_told {l : Launch} {G : fmG} {g : Nat → Nat} {M : fmM} {f : Nat → Int64} {o : Nat} {Rs : va_W} {Q : Int32 → fmM × (Nat → Int64) → Prop} {p0 : Int32} (hst : l.stackTraces = false) (hp : pvGood Tx 250 qX10_told [.ref 0, .int p0] M (wI f Q (fun E M' => (E = fmIAE ∧ Q 1 (M', f))))) : zGood l G qL_told [(0, 9, 12, 13)] [.ref (g 0), .int p0, .ref o] (WX G g o Rs (M, f)) (WX G g o Rs) Q := by
  have hx : fmGood Tx l (g, G.2) 250 qX10_told [.ref (g 0), .int p0] M (wI f Q (fun E M' => (E = fmIAE ∧ Q 1 (M', f)))) := fmGood.imp (pvGood.fm hst (by decide) (by decide +kernel) hp) (fun o9 M9 h9 => by obtain ⟨o', rfl, h8⟩ := h9; exact wI_to h8)
  refine zGood_of (by decide +kernel) rfl (Nat.le_of_ble_eq_true rfl) ?_
  intro p e s m args below meth c A hF htab hr hlocks
  show zEv p l e (lwRm 300 1 6) s m args below meth c G A 4 _ 0 [some (.ref (g 0)), some (.int p0), some (.ref o), none] [] (WX G g o Rs (M, f)) 0 0
  refine z_aloadn hF (pc := 0) (n := 2) 2 rfl rfl (fm_dec dtL_told 0 rfl) ?_
  refine z_iconst hF (pc := 1) (v := 0) (by decide) (fm_dec dtL_told 1 rfl) ?_
  refine z_aloadn hF (pc := 2) (n := 0) 0 rfl rfl (fm_dec dtL_told 2 rfl) ?_
  refine z_iloadn hF (pc := 3) (n := 1) 1 rfl rfl (fm_dec dtL_told 3 rfl) ?_
  refine z_callX hF (T := Tx) (g := g) (M := M) (rest := (o, .inl (G.2.2.1 1, 1, .inr (.inl f))) :: Rs) (k := 0) (ci := 10) (d' := 250) (pc := 4) (As := [.int p0]) (st := [.int 0, .ref o]) cvL_24 (by decide) rfl rfl rfl (Nat.le_of_ble_eq_true rfl) (by decide) (by decide) (by decide) (by decide) (fm_dec dtL_told 4 rfl) (fmGood.imp hx (fun o9 M' h => ?_))
  rcases o9 with v | E
  · rcases v with _ | v
    · exact False.elim h
    · cases v with
      | int v =>
        refine z_then1 ?_
        refine z_i2l hF (pc := 7) (fm_dec dtL_told 5 rfl) ?_
        refine z_last hF (pc := 8) (w0 := fmL Tx (g, G.2) M') (w1 := Rs) (fm_dec dtL_told 6 rfl) ?_
        refine z_goto hF (pc := 9) 15 (by decide) (fm_dec dtL_told 7 rfl) ?_
        refine z_iconst hF (pc := 15) (v := 0) (by decide) (fm_dec dtL_told 11 rfl) ?_
        exact z_iret hF (pc := 16) (WW := WX G g o Rs) (M', vp_updL f 0 v.toInt64) hr hlocks (by decide) (by decide) (fm_dec dtL_told 12 rfl) h
      | _ => exact False.elim h
  · obtain ⟨rfl, h⟩ := h
    refine z_catch hF (name := fmIAE) [] ⟨0, 9, 12, 13⟩ [] (by rw [htab]; rfl) (fun z hz => by cases hz) (by decide) (by decide) clL_13 hF.2.2.2.2.2.1.1.2.2.2.1.1 (fun q => ?_)
    refine z_astoren hF (pc := 12) (n := 3) 3 rfl (by decide) rfl (fm_dec dtL_told 8 rfl) ?_
    refine z_iconst hF (pc := 13) (v := 1) (by decide) (fm_dec dtL_told 9 rfl) ?_
    exact z_iret hF (pc := 14) (WW := WX G g o Rs) (M', f) hr hlocks (by decide) (by decide) (fm_dec dtL_told 10 rfl) h
abbrev dlL_life : List (Nat × Instr × Nat) := [(0, .aload_n 3, 1), (1, .iconst 0, 1), (2, .aload_n 0, 1), (3, .iload_n 1, 1), (4, .iload_n 2, 1), (5, .invokevirtual 27, 3), (8, .i2l, 1), (9, .lastore, 1), (10, .goto 11, 3), (13, .astore 4, 2), (15, .iconst 1, 1), (16, .ireturn, 1), (17, .astore 4, 2), (19, .iconst 2, 1), (20, .ireturn, 1), (21, .iconst 0, 1), (22, .ireturn, 1)]
theorem dtL_life : fmDec cL_life dlL_life = true := by decide +kernel
abbrev qL_life : fmY := (yL_life, cL_life, 5, some .int)
theorem nw_L_life : Cond.codeWith yL_life cL_life 5 (some .int) [(0, 10, 13, 31), (0, 10, 17, 13)] ∈ fmWs := (fm_in 932 (by decide +kernel) rfl)
theorem nst_L_life : Cond.static yL_life ∈ fmWs := (fm_in 931 (by decide +kernel) rfl)
theorem nd_L_life : yL_life.cls ≠ "java/lang/invoke/MethodHandle" ∧ yL_life.cls ≠ "java/lang/invoke/VarHandle" ∧ (parseMethodDescriptor yL_life.desc).map (fun d => d.parameters.length) = some 4 := by decide +kernel
set_option maxRecDepth 20000 in
theorem w_life {l : Launch} {G : fmG} {g : Nat → Nat} {M : fmM} {f : Nat → Int64} {o : Nat} {Rs : va_W} {Q : Int32 → fmM × (Nat → Int64) → Prop} {p0 p1 : Int32} (hst : l.stackTraces = false) (hp : pvGood Tx 250 qX10_life [.ref 0, .int p0, .int p1] M (wI f Q (fun E M' => (E = fmNSE ∧ Q 1 (M', f)) ∨ (E = fmIAE ∧ Q 2 (M', f))))) : zGood l G qL_life [(0, 10, 13, 31), (0, 10, 17, 13)] [.ref (g 0), .int p0, .int p1, .ref o] (WX G g o Rs (M, f)) (WX G g o Rs) Q := by
  have hx : fmGood Tx l (g, G.2) 250 qX10_life [.ref (g 0), .int p0, .int p1] M (wI f Q (fun E M' => (E = fmNSE ∧ Q 1 (M', f)) ∨ (E = fmIAE ∧ Q 2 (M', f)))) := fmGood.imp (pvGood.fm hst (by decide) (by decide +kernel) hp) (fun o9 M9 h9 => by obtain ⟨o', rfl, h8⟩ := h9; exact wI_to h8)
  refine zGood_of (by decide +kernel) rfl (Nat.le_of_ble_eq_true rfl) ?_
  intro p e s m args below meth c A hF htab hr hlocks
  show zEv p l e (lwRm 300 1 6) s m args below meth c G A 5 _ 0 [some (.ref (g 0)), some (.int p0), some (.int p1), some (.ref o), none] [] (WX G g o Rs (M, f)) 0 0
  refine z_aloadn hF (pc := 0) (n := 3) 3 rfl rfl (fm_dec dtL_life 0 rfl) ?_
  refine z_iconst hF (pc := 1) (v := 0) (by decide) (fm_dec dtL_life 1 rfl) ?_
  refine z_aloadn hF (pc := 2) (n := 0) 0 rfl rfl (fm_dec dtL_life 2 rfl) ?_
  refine z_iloadn hF (pc := 3) (n := 1) 1 rfl rfl (fm_dec dtL_life 3 rfl) ?_
  refine z_iloadn hF (pc := 4) (n := 2) 2 rfl rfl (fm_dec dtL_life 4 rfl) ?_
  refine z_callX hF (T := Tx) (g := g) (M := M) (rest := (o, .inl (G.2.2.1 1, 1, .inr (.inl f))) :: Rs) (k := 0) (ci := 10) (d' := 250) (pc := 5) (As := [.int p0, .int p1]) (st := [.int 0, .ref o]) cvL_27 (by decide) rfl rfl rfl (Nat.le_of_ble_eq_true rfl) (by decide) (by decide) (by decide) (by decide) (fm_dec dtL_life 5 rfl) (fmGood.imp hx (fun o9 M' h => ?_))
  rcases o9 with v | E
  · rcases v with _ | v
    · exact False.elim h
    · cases v with
      | int v =>
        refine z_then1 ?_
        refine z_i2l hF (pc := 8) (fm_dec dtL_life 6 rfl) ?_
        refine z_last hF (pc := 9) (w0 := fmL Tx (g, G.2) M') (w1 := Rs) (fm_dec dtL_life 7 rfl) ?_
        refine z_goto hF (pc := 10) 21 (by decide) (fm_dec dtL_life 8 rfl) ?_
        refine z_iconst hF (pc := 21) (v := 0) (by decide) (fm_dec dtL_life 15 rfl) ?_
        exact z_iret hF (pc := 22) (WW := WX G g o Rs) (M', vp_updL f 0 v.toInt64) hr hlocks (by decide) (by decide) (fm_dec dtL_life 16 rfl) h
      | _ => exact False.elim h
  · rcases h with ⟨rfl, h⟩ | ⟨rfl, h⟩
    · refine z_catch hF (name := fmNSE) [] ⟨0, 10, 13, 31⟩ [⟨0, 10, 17, 13⟩] (by rw [htab]; rfl) (fun z hz => by cases hz) (by decide) (by decide) clL_31 hF.2.2.2.2.2.1.1.2.2.2.1.2.1 (fun q => ?_)
      refine z_astore hF (pc := 13) (i := 4) (by decide) rfl (fm_dec dtL_life 9 rfl) ?_
      refine z_iconst hF (pc := 15) (v := 1) (by decide) (fm_dec dtL_life 10 rfl) ?_
      exact z_iret hF (pc := 16) (WW := WX G g o Rs) (M', f) hr hlocks (by decide) (by decide) (fm_dec dtL_life 11 rfl) h
    · refine z_catch hF (name := fmIAE) [⟨0, 10, 13, 31⟩] ⟨0, 10, 17, 13⟩ [] (by rw [htab]; rfl) (fun z hz => by rcases List.mem_cons.mp hz with rfl | hz; exact Or.inr ⟨by decide, _, clL_31, hF.2.2.2.2.2.1.1.2.2.2.1.2.2.1⟩; cases hz) (by decide) (by decide) clL_13 hF.2.2.2.2.2.1.1.2.2.2.1.1 (fun q => ?_)
      refine z_astore hF (pc := 17) (i := 4) (by decide) rfl (fm_dec dtL_life 12 rfl) ?_
      refine z_iconst hF (pc := 19) (v := 2) (by decide) (fm_dec dtL_life 13 rfl) ?_
      exact z_iret hF (pc := 20) (WW := WX G g o Rs) (M', f) hr hlocks (by decide) (by decide) (fm_dec dtL_life 14 rfl) h
abbrev dlL_facts : List (Nat × Instr × Nat) := [(0, .aload_n 2, 1), (1, .iconst 0, 1), (2, .aload_n 0, 1), (3, .iload_n 1, 1), (4, .invokevirtual 33, 3), (7, .i2l, 1), (8, .lastore, 1), (9, .goto 6, 3), (12, .astore_n 3, 1), (13, .iconst 1, 1), (14, .ireturn, 1), (15, .iconst 0, 1), (16, .ireturn, 1)]
theorem dtL_facts : fmDec cL_facts dlL_facts = true := by decide +kernel
abbrev qL_facts : fmY := (yL_facts, cL_facts, 4, some .int)
theorem nw_L_facts : Cond.codeWith yL_facts cL_facts 4 (some .int) [(0, 9, 12, 31)] ∈ fmWs := (fm_in 962 (by decide +kernel) rfl)
theorem nst_L_facts : Cond.static yL_facts ∈ fmWs := (fm_in 961 (by decide +kernel) rfl)
theorem nd_L_facts : yL_facts.cls ≠ "java/lang/invoke/MethodHandle" ∧ yL_facts.cls ≠ "java/lang/invoke/VarHandle" ∧ (parseMethodDescriptor yL_facts.desc).map (fun d => d.parameters.length) = some 3 := by decide +kernel
set_option maxRecDepth 20000 in
theorem w_facts {l : Launch} {G : fmG} {g : Nat → Nat} {M : fmM} {f : Nat → Int64} {o : Nat} {Rs : va_W} {Q : Int32 → fmM × (Nat → Int64) → Prop} {p0 : Int32} (hst : l.stackTraces = false) (hp : pvGood Tx 250 qX10_facts [.ref 0, .int p0] M (wI f Q (fun E M' => (E = fmNSE ∧ Q 1 (M', f))))) : zGood l G qL_facts [(0, 9, 12, 31)] [.ref (g 0), .int p0, .ref o] (WX G g o Rs (M, f)) (WX G g o Rs) Q := by
  have hx : fmGood Tx l (g, G.2) 250 qX10_facts [.ref (g 0), .int p0] M (wI f Q (fun E M' => (E = fmNSE ∧ Q 1 (M', f)))) := fmGood.imp (pvGood.fm hst (by decide) (by decide +kernel) hp) (fun o9 M9 h9 => by obtain ⟨o', rfl, h8⟩ := h9; exact wI_to h8)
  refine zGood_of (by decide +kernel) rfl (Nat.le_of_ble_eq_true rfl) ?_
  intro p e s m args below meth c A hF htab hr hlocks
  show zEv p l e (lwRm 300 1 6) s m args below meth c G A 4 _ 0 [some (.ref (g 0)), some (.int p0), some (.ref o), none] [] (WX G g o Rs (M, f)) 0 0
  refine z_aloadn hF (pc := 0) (n := 2) 2 rfl rfl (fm_dec dtL_facts 0 rfl) ?_
  refine z_iconst hF (pc := 1) (v := 0) (by decide) (fm_dec dtL_facts 1 rfl) ?_
  refine z_aloadn hF (pc := 2) (n := 0) 0 rfl rfl (fm_dec dtL_facts 2 rfl) ?_
  refine z_iloadn hF (pc := 3) (n := 1) 1 rfl rfl (fm_dec dtL_facts 3 rfl) ?_
  refine z_callX hF (T := Tx) (g := g) (M := M) (rest := (o, .inl (G.2.2.1 1, 1, .inr (.inl f))) :: Rs) (k := 0) (ci := 10) (d' := 250) (pc := 4) (As := [.int p0]) (st := [.int 0, .ref o]) cvL_33 (by decide) rfl rfl rfl (Nat.le_of_ble_eq_true rfl) (by decide) (by decide) (by decide) (by decide) (fm_dec dtL_facts 4 rfl) (fmGood.imp hx (fun o9 M' h => ?_))
  rcases o9 with v | E
  · rcases v with _ | v
    · exact False.elim h
    · cases v with
      | int v =>
        refine z_then1 ?_
        refine z_i2l hF (pc := 7) (fm_dec dtL_facts 5 rfl) ?_
        refine z_last hF (pc := 8) (w0 := fmL Tx (g, G.2) M') (w1 := Rs) (fm_dec dtL_facts 6 rfl) ?_
        refine z_goto hF (pc := 9) 15 (by decide) (fm_dec dtL_facts 7 rfl) ?_
        refine z_iconst hF (pc := 15) (v := 0) (by decide) (fm_dec dtL_facts 11 rfl) ?_
        exact z_iret hF (pc := 16) (WW := WX G g o Rs) (M', vp_updL f 0 v.toInt64) hr hlocks (by decide) (by decide) (fm_dec dtL_facts 12 rfl) h
      | _ => exact False.elim h
  · obtain ⟨rfl, h⟩ := h
    refine z_catch hF (name := fmNSE) [] ⟨0, 9, 12, 31⟩ [] (by rw [htab]; rfl) (fun z hz => by cases hz) (by decide) (by decide) clL_31 hF.2.2.2.2.2.1.1.2.2.2.1.2.1 (fun q => ?_)
    refine z_astoren hF (pc := 12) (n := 3) 3 rfl (by decide) rfl (fm_dec dtL_facts 8 rfl) ?_
    refine z_iconst hF (pc := 13) (v := 1) (by decide) (fm_dec dtL_facts 9 rfl) ?_
    exact z_iret hF (pc := 14) (WW := WX G g o Rs) (M', f) hr hlocks (by decide) (by decide) (fm_dec dtL_facts 10 rfl) h
abbrev dlL_wrong : List (Nat × Instr × Nat) := [(0, .aload_n 2, 1), (1, .iconst 0, 1), (2, .aload_n 0, 1), (3, .iload_n 1, 1), (4, .invokevirtual 36, 3), (7, .i2l, 1), (8, .lastore, 1), (9, .goto 6, 3), (12, .astore_n 3, 1), (13, .iconst 1, 1), (14, .ireturn, 1), (15, .iconst 0, 1), (16, .ireturn, 1)]
theorem dtL_wrong : fmDec cL_wrong dlL_wrong = true := by decide +kernel
abbrev qL_wrong : fmY := (yL_wrong, cL_wrong, 4, some .int)
theorem nw_L_wrong : Cond.codeWith yL_wrong cL_wrong 4 (some .int) [(0, 9, 12, 31)] ∈ fmWs := (fm_in 969 (by decide +kernel) rfl)
theorem nst_L_wrong : Cond.static yL_wrong ∈ fmWs := (fm_in 968 (by decide +kernel) rfl)
theorem nd_L_wrong : yL_wrong.cls ≠ "java/lang/invoke/MethodHandle" ∧ yL_wrong.cls ≠ "java/lang/invoke/VarHandle" ∧ (parseMethodDescriptor yL_wrong.desc).map (fun d => d.parameters.length) = some 3 := by decide +kernel
set_option maxRecDepth 20000 in
theorem w_wrong {l : Launch} {G : fmG} {g : Nat → Nat} {M : fmM} {f : Nat → Int64} {o : Nat} {Rs : va_W} {Q : Int32 → fmM × (Nat → Int64) → Prop} {p0 : Int32} (hst : l.stackTraces = false) (hp : pvGood Tx 250 qX10_wrong [.ref 0, .int p0] M (wI f Q (fun E M' => (E = fmNSE ∧ Q 1 (M', f))))) : zGood l G qL_wrong [(0, 9, 12, 31)] [.ref (g 0), .int p0, .ref o] (WX G g o Rs (M, f)) (WX G g o Rs) Q := by
  have hx : fmGood Tx l (g, G.2) 250 qX10_wrong [.ref (g 0), .int p0] M (wI f Q (fun E M' => (E = fmNSE ∧ Q 1 (M', f)))) := fmGood.imp (pvGood.fm hst (by decide) (by decide +kernel) hp) (fun o9 M9 h9 => by obtain ⟨o', rfl, h8⟩ := h9; exact wI_to h8)
  refine zGood_of (by decide +kernel) rfl (Nat.le_of_ble_eq_true rfl) ?_
  intro p e s m args below meth c A hF htab hr hlocks
  show zEv p l e (lwRm 300 1 6) s m args below meth c G A 4 _ 0 [some (.ref (g 0)), some (.int p0), some (.ref o), none] [] (WX G g o Rs (M, f)) 0 0
  refine z_aloadn hF (pc := 0) (n := 2) 2 rfl rfl (fm_dec dtL_wrong 0 rfl) ?_
  refine z_iconst hF (pc := 1) (v := 0) (by decide) (fm_dec dtL_wrong 1 rfl) ?_
  refine z_aloadn hF (pc := 2) (n := 0) 0 rfl rfl (fm_dec dtL_wrong 2 rfl) ?_
  refine z_iloadn hF (pc := 3) (n := 1) 1 rfl rfl (fm_dec dtL_wrong 3 rfl) ?_
  refine z_callX hF (T := Tx) (g := g) (M := M) (rest := (o, .inl (G.2.2.1 1, 1, .inr (.inl f))) :: Rs) (k := 0) (ci := 10) (d' := 250) (pc := 4) (As := [.int p0]) (st := [.int 0, .ref o]) cvL_36 (by decide) rfl rfl rfl (Nat.le_of_ble_eq_true rfl) (by decide) (by decide) (by decide) (by decide) (fm_dec dtL_wrong 4 rfl) (fmGood.imp hx (fun o9 M' h => ?_))
  rcases o9 with v | E
  · rcases v with _ | v
    · exact False.elim h
    · cases v with
      | int v =>
        refine z_then1 ?_
        refine z_i2l hF (pc := 7) (fm_dec dtL_wrong 5 rfl) ?_
        refine z_last hF (pc := 8) (w0 := fmL Tx (g, G.2) M') (w1 := Rs) (fm_dec dtL_wrong 6 rfl) ?_
        refine z_goto hF (pc := 9) 15 (by decide) (fm_dec dtL_wrong 7 rfl) ?_
        refine z_iconst hF (pc := 15) (v := 0) (by decide) (fm_dec dtL_wrong 11 rfl) ?_
        exact z_iret hF (pc := 16) (WW := WX G g o Rs) (M', vp_updL f 0 v.toInt64) hr hlocks (by decide) (by decide) (fm_dec dtL_wrong 12 rfl) h
      | _ => exact False.elim h
  · obtain ⟨rfl, h⟩ := h
    refine z_catch hF (name := fmNSE) [] ⟨0, 9, 12, 31⟩ [] (by rw [htab]; rfl) (fun z hz => by cases hz) (by decide) (by decide) clL_31 hF.2.2.2.2.2.1.1.2.2.2.1.2.1 (fun q => ?_)
    refine z_astoren hF (pc := 12) (n := 3) 3 rfl (by decide) rfl (fm_dec dtL_wrong 8 rfl) ?_
    refine z_iconst hF (pc := 13) (v := 1) (by decide) (fm_dec dtL_wrong 9 rfl) ?_
    exact z_iret hF (pc := 14) (WW := WX G g o Rs) (M', f) hr hlocks (by decide) (by decide) (fm_dec dtL_wrong 10 rfl) h
abbrev dlL_would : List (Nat × Instr × Nat) := [(0, .aload 6, 2), (2, .iconst 0, 1), (3, .aload_n 0, 1), (4, .iload_n 1, 1), (5, .iload_n 2, 1), (6, .iload_n 3, 1), (7, .iload 4, 2), (9, .iload 5, 2), (11, .invokevirtual 39, 3), (14, .i2l, 1), (15, .lastore, 1), (16, .goto 7, 3), (19, .astore 7, 2), (21, .iconst 1, 1), (22, .ireturn, 1), (23, .iconst 0, 1), (24, .ireturn, 1)]
theorem dtL_would : fmDec cL_would dlL_would = true := by decide +kernel
abbrev qL_would : fmY := (yL_would, cL_would, 8, some .int)
theorem nw_L_would : Cond.codeWith yL_would cL_would 8 (some .int) [(0, 16, 19, 13)] ∈ fmWs := (fm_in 977 (by decide +kernel) rfl)
theorem nst_L_would : Cond.static yL_would ∈ fmWs := (fm_in 976 (by decide +kernel) rfl)
theorem nd_L_would : yL_would.cls ≠ "java/lang/invoke/MethodHandle" ∧ yL_would.cls ≠ "java/lang/invoke/VarHandle" ∧ (parseMethodDescriptor yL_would.desc).map (fun d => d.parameters.length) = some 7 := by decide +kernel
set_option maxRecDepth 20000 in
theorem w_would {l : Launch} {G : fmG} {g : Nat → Nat} {M : fmM} {f : Nat → Int64} {o : Nat} {Rs : va_W} {Q : Int32 → fmM × (Nat → Int64) → Prop} {p0 p1 p2 p3 p4 : Int32} (hst : l.stackTraces = false) (hp : pvGood Tx 250 qX10_would [.ref 0, .int p0, .int p1, .int p2, .int p3, .int p4] M (wI f Q (fun E M' => (E = fmIAE ∧ Q 1 (M', f))))) : zGood l G qL_would [(0, 16, 19, 13)] [.ref (g 0), .int p0, .int p1, .int p2, .int p3, .int p4, .ref o] (WX G g o Rs (M, f)) (WX G g o Rs) Q := by
  have hx : fmGood Tx l (g, G.2) 250 qX10_would [.ref (g 0), .int p0, .int p1, .int p2, .int p3, .int p4] M (wI f Q (fun E M' => (E = fmIAE ∧ Q 1 (M', f)))) := fmGood.imp (pvGood.fm hst (by decide) (by decide +kernel) hp) (fun o9 M9 h9 => by obtain ⟨o', rfl, h8⟩ := h9; exact wI_to h8)
  refine zGood_of (by decide +kernel) rfl (Nat.le_of_ble_eq_true rfl) ?_
  intro p e s m args below meth c A hF htab hr hlocks
  show zEv p l e (lwRm 300 1 6) s m args below meth c G A 8 _ 0 [some (.ref (g 0)), some (.int p0), some (.int p1), some (.int p2), some (.int p3), some (.int p4), some (.ref o), none] [] (WX G g o Rs (M, f)) 0 0
  refine z_aload hF (pc := 0) (i := 6) rfl (fm_dec dtL_would 0 rfl) ?_
  refine z_iconst hF (pc := 2) (v := 0) (by decide) (fm_dec dtL_would 1 rfl) ?_
  refine z_aloadn hF (pc := 3) (n := 0) 0 rfl rfl (fm_dec dtL_would 2 rfl) ?_
  refine z_iloadn hF (pc := 4) (n := 1) 1 rfl rfl (fm_dec dtL_would 3 rfl) ?_
  refine z_iloadn hF (pc := 5) (n := 2) 2 rfl rfl (fm_dec dtL_would 4 rfl) ?_
  refine z_iloadn hF (pc := 6) (n := 3) 3 rfl rfl (fm_dec dtL_would 5 rfl) ?_
  refine z_iload hF (pc := 7) (i := 4) rfl (fm_dec dtL_would 6 rfl) ?_
  refine z_iload hF (pc := 9) (i := 5) rfl (fm_dec dtL_would 7 rfl) ?_
  refine z_callX hF (T := Tx) (g := g) (M := M) (rest := (o, .inl (G.2.2.1 1, 1, .inr (.inl f))) :: Rs) (k := 0) (ci := 10) (d' := 250) (pc := 11) (As := [.int p0, .int p1, .int p2, .int p3, .int p4]) (st := [.int 0, .ref o]) cvL_39 (by decide) rfl rfl rfl (Nat.le_of_ble_eq_true rfl) (by decide) (by decide) (by decide) (by decide) (fm_dec dtL_would 8 rfl) (fmGood.imp hx (fun o9 M' h => ?_))
  rcases o9 with v | E
  · rcases v with _ | v
    · exact False.elim h
    · cases v with
      | int v =>
        refine z_then1 ?_
        refine z_i2l hF (pc := 14) (fm_dec dtL_would 9 rfl) ?_
        refine z_last hF (pc := 15) (w0 := fmL Tx (g, G.2) M') (w1 := Rs) (fm_dec dtL_would 10 rfl) ?_
        refine z_goto hF (pc := 16) 23 (by decide) (fm_dec dtL_would 11 rfl) ?_
        refine z_iconst hF (pc := 23) (v := 0) (by decide) (fm_dec dtL_would 15 rfl) ?_
        exact z_iret hF (pc := 24) (WW := WX G g o Rs) (M', vp_updL f 0 v.toInt64) hr hlocks (by decide) (by decide) (fm_dec dtL_would 16 rfl) h
      | _ => exact False.elim h
  · obtain ⟨rfl, h⟩ := h
    refine z_catch hF (name := fmIAE) [] ⟨0, 16, 19, 13⟩ [] (by rw [htab]; rfl) (fun z hz => by cases hz) (by decide) (by decide) clL_13 hF.2.2.2.2.2.1.1.2.2.2.1.1 (fun q => ?_)
    refine z_astore hF (pc := 19) (i := 7) (by decide) rfl (fm_dec dtL_would 12 rfl) ?_
    refine z_iconst hF (pc := 21) (v := 1) (by decide) (fm_dec dtL_would 13 rfl) ?_
    exact z_iret hF (pc := 22) (WW := WX G g o Rs) (M', f) hr hlocks (by decide) (by decide) (fm_dec dtL_would 14 rfl) h
abbrev dlL_loss : List (Nat × Instr × Nat) := [(0, .aload_n 2, 1), (1, .iconst 0, 1), (2, .aload_n 0, 1), (3, .iload_n 1, 1), (4, .invokevirtual 43, 3), (7, .lastore, 1), (8, .goto 6, 3), (11, .astore_n 3, 1), (12, .iconst 1, 1), (13, .ireturn, 1), (14, .iconst 0, 1), (15, .ireturn, 1)]
theorem dtL_loss : fmDec cL_loss dlL_loss = true := by decide +kernel
abbrev qL_loss : fmY := (yL_loss, cL_loss, 4, some .int)
theorem nw_L_loss : Cond.codeWith yL_loss cL_loss 4 (some .int) [(0, 8, 11, 13)] ∈ fmWs := (fm_in 985 (by decide +kernel) rfl)
theorem nst_L_loss : Cond.static yL_loss ∈ fmWs := (fm_in 984 (by decide +kernel) rfl)
theorem nd_L_loss : yL_loss.cls ≠ "java/lang/invoke/MethodHandle" ∧ yL_loss.cls ≠ "java/lang/invoke/VarHandle" ∧ (parseMethodDescriptor yL_loss.desc).map (fun d => d.parameters.length) = some 3 := by decide +kernel
set_option maxRecDepth 20000 in
theorem w_loss {l : Launch} {G : fmG} {g : Nat → Nat} {M : fmM} {f : Nat → Int64} {o : Nat} {Rs : va_W} {Q : Int32 → fmM × (Nat → Int64) → Prop} {p0 : Int32} (hst : l.stackTraces = false) (hp : pvGood Tx 250 qX10_loss [.ref 0, .int p0] M (wJ f Q (fun E M' => (E = fmIAE ∧ Q 1 (M', f))))) : zGood l G qL_loss [(0, 8, 11, 13)] [.ref (g 0), .int p0, .ref o] (WX G g o Rs (M, f)) (WX G g o Rs) Q := by
  have hx : fmGood Tx l (g, G.2) 250 qX10_loss [.ref (g 0), .int p0] M (wJ f Q (fun E M' => (E = fmIAE ∧ Q 1 (M', f)))) := fmGood.imp (pvGood.fm hst (by decide) (by decide +kernel) hp) (fun o9 M9 h9 => by obtain ⟨o', rfl, h8⟩ := h9; exact wJ_to h8)
  refine zGood_of (by decide +kernel) rfl (Nat.le_of_ble_eq_true rfl) ?_
  intro p e s m args below meth c A hF htab hr hlocks
  show zEv p l e (lwRm 300 1 6) s m args below meth c G A 4 _ 0 [some (.ref (g 0)), some (.int p0), some (.ref o), none] [] (WX G g o Rs (M, f)) 0 0
  refine z_aloadn hF (pc := 0) (n := 2) 2 rfl rfl (fm_dec dtL_loss 0 rfl) ?_
  refine z_iconst hF (pc := 1) (v := 0) (by decide) (fm_dec dtL_loss 1 rfl) ?_
  refine z_aloadn hF (pc := 2) (n := 0) 0 rfl rfl (fm_dec dtL_loss 2 rfl) ?_
  refine z_iloadn hF (pc := 3) (n := 1) 1 rfl rfl (fm_dec dtL_loss 3 rfl) ?_
  refine z_callX hF (T := Tx) (g := g) (M := M) (rest := (o, .inl (G.2.2.1 1, 1, .inr (.inl f))) :: Rs) (k := 0) (ci := 10) (d' := 250) (pc := 4) (As := [.int p0]) (st := [.int 0, .ref o]) cvL_43 (by decide) rfl rfl rfl (Nat.le_of_ble_eq_true rfl) (by decide) (by decide) (by decide) (by decide) (fm_dec dtL_loss 4 rfl) (fmGood.imp hx (fun o9 M' h => ?_))
  rcases o9 with v | E
  · rcases v with _ | v
    · exact False.elim h
    · cases v with
      | long v =>
        refine z_then1 ?_
        refine z_last hF (pc := 7) (w0 := fmL Tx (g, G.2) M') (w1 := Rs) (fm_dec dtL_loss 5 rfl) ?_
        refine z_goto hF (pc := 8) 14 (by decide) (fm_dec dtL_loss 6 rfl) ?_
        refine z_iconst hF (pc := 14) (v := 0) (by decide) (fm_dec dtL_loss 10 rfl) ?_
        exact z_iret hF (pc := 15) (WW := WX G g o Rs) (M', vp_updL f 0 v) hr hlocks (by decide) (by decide) (fm_dec dtL_loss 11 rfl) h
      | _ => exact False.elim h
  · obtain ⟨rfl, h⟩ := h
    refine z_catch hF (name := fmIAE) [] ⟨0, 8, 11, 13⟩ [] (by rw [htab]; rfl) (fun z hz => by cases hz) (by decide) (by decide) clL_13 hF.2.2.2.2.2.1.1.2.2.2.1.1 (fun q => ?_)
    refine z_astoren hF (pc := 11) (n := 3) 3 rfl (by decide) rfl (fm_dec dtL_loss 7 rfl) ?_
    refine z_iconst hF (pc := 12) (v := 1) (by decide) (fm_dec dtL_loss 8 rfl) ?_
    exact z_iret hF (pc := 13) (WW := WX G g o Rs) (M', f) hr hlocks (by decide) (by decide) (fm_dec dtL_loss 9 rfl) h
abbrev dlL_cost : List (Nat × Instr × Nat) := [(0, .aload_n 3, 1), (1, .iconst 0, 1), (2, .aload_n 0, 1), (3, .iload_n 1, 1), (4, .iload_n 2, 1), (5, .invokevirtual 47, 3), (8, .lastore, 1), (9, .goto 11, 3), (12, .astore 4, 2), (14, .iconst 1, 1), (15, .ireturn, 1), (16, .astore 4, 2), (18, .iconst 2, 1), (19, .ireturn, 1), (20, .iconst 0, 1), (21, .ireturn, 1)]
theorem dtL_cost : fmDec cL_cost dlL_cost = true := by decide +kernel
abbrev qL_cost : fmY := (yL_cost, cL_cost, 5, some .int)
theorem nw_L_cost : Cond.codeWith yL_cost cL_cost 5 (some .int) [(0, 9, 12, 31), (0, 9, 16, 13)] ∈ fmWs := (fm_in 1000 (by decide +kernel) rfl)
theorem nst_L_cost : Cond.static yL_cost ∈ fmWs := (fm_in 999 (by decide +kernel) rfl)
theorem nd_L_cost : yL_cost.cls ≠ "java/lang/invoke/MethodHandle" ∧ yL_cost.cls ≠ "java/lang/invoke/VarHandle" ∧ (parseMethodDescriptor yL_cost.desc).map (fun d => d.parameters.length) = some 4 := by decide +kernel
set_option maxRecDepth 20000 in
theorem w_cost {l : Launch} {G : fmG} {g : Nat → Nat} {M : fmM} {f : Nat → Int64} {o : Nat} {Rs : va_W} {Q : Int32 → fmM × (Nat → Int64) → Prop} {p0 p1 : Int32} (hst : l.stackTraces = false) (hp : pvGood Tx 250 qX10_cost [.ref 0, .int p0, .int p1] M (wJ f Q (fun E M' => (E = fmNSE ∧ Q 1 (M', f)) ∨ (E = fmIAE ∧ Q 2 (M', f))))) : zGood l G qL_cost [(0, 9, 12, 31), (0, 9, 16, 13)] [.ref (g 0), .int p0, .int p1, .ref o] (WX G g o Rs (M, f)) (WX G g o Rs) Q := by
  have hx : fmGood Tx l (g, G.2) 250 qX10_cost [.ref (g 0), .int p0, .int p1] M (wJ f Q (fun E M' => (E = fmNSE ∧ Q 1 (M', f)) ∨ (E = fmIAE ∧ Q 2 (M', f)))) := fmGood.imp (pvGood.fm hst (by decide) (by decide +kernel) hp) (fun o9 M9 h9 => by obtain ⟨o', rfl, h8⟩ := h9; exact wJ_to h8)
  refine zGood_of (by decide +kernel) rfl (Nat.le_of_ble_eq_true rfl) ?_
  intro p e s m args below meth c A hF htab hr hlocks
  show zEv p l e (lwRm 300 1 6) s m args below meth c G A 5 _ 0 [some (.ref (g 0)), some (.int p0), some (.int p1), some (.ref o), none] [] (WX G g o Rs (M, f)) 0 0
  refine z_aloadn hF (pc := 0) (n := 3) 3 rfl rfl (fm_dec dtL_cost 0 rfl) ?_
  refine z_iconst hF (pc := 1) (v := 0) (by decide) (fm_dec dtL_cost 1 rfl) ?_
  refine z_aloadn hF (pc := 2) (n := 0) 0 rfl rfl (fm_dec dtL_cost 2 rfl) ?_
  refine z_iloadn hF (pc := 3) (n := 1) 1 rfl rfl (fm_dec dtL_cost 3 rfl) ?_
  refine z_iloadn hF (pc := 4) (n := 2) 2 rfl rfl (fm_dec dtL_cost 4 rfl) ?_
  refine z_callX hF (T := Tx) (g := g) (M := M) (rest := (o, .inl (G.2.2.1 1, 1, .inr (.inl f))) :: Rs) (k := 0) (ci := 10) (d' := 250) (pc := 5) (As := [.int p0, .int p1]) (st := [.int 0, .ref o]) cvL_47 (by decide) rfl rfl rfl (Nat.le_of_ble_eq_true rfl) (by decide) (by decide) (by decide) (by decide) (fm_dec dtL_cost 5 rfl) (fmGood.imp hx (fun o9 M' h => ?_))
  rcases o9 with v | E
  · rcases v with _ | v
    · exact False.elim h
    · cases v with
      | long v =>
        refine z_then1 ?_
        refine z_last hF (pc := 8) (w0 := fmL Tx (g, G.2) M') (w1 := Rs) (fm_dec dtL_cost 6 rfl) ?_
        refine z_goto hF (pc := 9) 20 (by decide) (fm_dec dtL_cost 7 rfl) ?_
        refine z_iconst hF (pc := 20) (v := 0) (by decide) (fm_dec dtL_cost 14 rfl) ?_
        exact z_iret hF (pc := 21) (WW := WX G g o Rs) (M', vp_updL f 0 v) hr hlocks (by decide) (by decide) (fm_dec dtL_cost 15 rfl) h
      | _ => exact False.elim h
  · rcases h with ⟨rfl, h⟩ | ⟨rfl, h⟩
    · refine z_catch hF (name := fmNSE) [] ⟨0, 9, 12, 31⟩ [⟨0, 9, 16, 13⟩] (by rw [htab]; rfl) (fun z hz => by cases hz) (by decide) (by decide) clL_31 hF.2.2.2.2.2.1.1.2.2.2.1.2.1 (fun q => ?_)
      refine z_astore hF (pc := 12) (i := 4) (by decide) rfl (fm_dec dtL_cost 8 rfl) ?_
      refine z_iconst hF (pc := 14) (v := 1) (by decide) (fm_dec dtL_cost 9 rfl) ?_
      exact z_iret hF (pc := 15) (WW := WX G g o Rs) (M', f) hr hlocks (by decide) (by decide) (fm_dec dtL_cost 10 rfl) h
    · refine z_catch hF (name := fmIAE) [⟨0, 9, 12, 31⟩] ⟨0, 9, 16, 13⟩ [] (by rw [htab]; rfl) (fun z hz => by rcases List.mem_cons.mp hz with rfl | hz; exact Or.inr ⟨by decide, _, clL_31, hF.2.2.2.2.2.1.1.2.2.2.1.2.2.1⟩; cases hz) (by decide) (by decide) clL_13 hF.2.2.2.2.2.1.1.2.2.2.1.1 (fun q => ?_)
      refine z_astore hF (pc := 16) (i := 4) (by decide) rfl (fm_dec dtL_cost 11 rfl) ?_
      refine z_iconst hF (pc := 18) (v := 2) (by decide) (fm_dec dtL_cost 12 rfl) ?_
      exact z_iret hF (pc := 19) (WW := WX G g o Rs) (M', f) hr hlocks (by decide) (by decide) (fm_dec dtL_cost 13 rfl) h
abbrev dlL_risk : List (Nat × Instr × Nat) := [(0, .aload_n 2, 1), (1, .iconst 0, 1), (2, .aload_n 0, 1), (3, .iload_n 1, 1), (4, .invokevirtual 51, 3), (7, .lastore, 1), (8, .goto 6, 3), (11, .astore_n 3, 1), (12, .iconst 1, 1), (13, .ireturn, 1), (14, .iconst 0, 1), (15, .ireturn, 1)]
theorem dtL_risk : fmDec cL_risk dlL_risk = true := by decide +kernel
abbrev qL_risk : fmY := (yL_risk, cL_risk, 4, some .int)
theorem nw_L_risk : Cond.codeWith yL_risk cL_risk 4 (some .int) [(0, 8, 11, 13)] ∈ fmWs := (fm_in 1008 (by decide +kernel) rfl)
theorem nst_L_risk : Cond.static yL_risk ∈ fmWs := (fm_in 1007 (by decide +kernel) rfl)
theorem nd_L_risk : yL_risk.cls ≠ "java/lang/invoke/MethodHandle" ∧ yL_risk.cls ≠ "java/lang/invoke/VarHandle" ∧ (parseMethodDescriptor yL_risk.desc).map (fun d => d.parameters.length) = some 3 := by decide +kernel
set_option maxRecDepth 20000 in
theorem w_risk {l : Launch} {G : fmG} {g : Nat → Nat} {M : fmM} {f : Nat → Int64} {o : Nat} {Rs : va_W} {Q : Int32 → fmM × (Nat → Int64) → Prop} {p0 : Int32} (hst : l.stackTraces = false) (hp : pvGood Tx 250 qX10_risk [.ref 0, .int p0] M (wJ f Q (fun E M' => (E = fmIAE ∧ Q 1 (M', f))))) : zGood l G qL_risk [(0, 8, 11, 13)] [.ref (g 0), .int p0, .ref o] (WX G g o Rs (M, f)) (WX G g o Rs) Q := by
  have hx : fmGood Tx l (g, G.2) 250 qX10_risk [.ref (g 0), .int p0] M (wJ f Q (fun E M' => (E = fmIAE ∧ Q 1 (M', f)))) := fmGood.imp (pvGood.fm hst (by decide) (by decide +kernel) hp) (fun o9 M9 h9 => by obtain ⟨o', rfl, h8⟩ := h9; exact wJ_to h8)
  refine zGood_of (by decide +kernel) rfl (Nat.le_of_ble_eq_true rfl) ?_
  intro p e s m args below meth c A hF htab hr hlocks
  show zEv p l e (lwRm 300 1 6) s m args below meth c G A 4 _ 0 [some (.ref (g 0)), some (.int p0), some (.ref o), none] [] (WX G g o Rs (M, f)) 0 0
  refine z_aloadn hF (pc := 0) (n := 2) 2 rfl rfl (fm_dec dtL_risk 0 rfl) ?_
  refine z_iconst hF (pc := 1) (v := 0) (by decide) (fm_dec dtL_risk 1 rfl) ?_
  refine z_aloadn hF (pc := 2) (n := 0) 0 rfl rfl (fm_dec dtL_risk 2 rfl) ?_
  refine z_iloadn hF (pc := 3) (n := 1) 1 rfl rfl (fm_dec dtL_risk 3 rfl) ?_
  refine z_callX hF (T := Tx) (g := g) (M := M) (rest := (o, .inl (G.2.2.1 1, 1, .inr (.inl f))) :: Rs) (k := 0) (ci := 10) (d' := 250) (pc := 4) (As := [.int p0]) (st := [.int 0, .ref o]) cvL_51 (by decide) rfl rfl rfl (Nat.le_of_ble_eq_true rfl) (by decide) (by decide) (by decide) (by decide) (fm_dec dtL_risk 4 rfl) (fmGood.imp hx (fun o9 M' h => ?_))
  rcases o9 with v | E
  · rcases v with _ | v
    · exact False.elim h
    · cases v with
      | long v =>
        refine z_then1 ?_
        refine z_last hF (pc := 7) (w0 := fmL Tx (g, G.2) M') (w1 := Rs) (fm_dec dtL_risk 5 rfl) ?_
        refine z_goto hF (pc := 8) 14 (by decide) (fm_dec dtL_risk 6 rfl) ?_
        refine z_iconst hF (pc := 14) (v := 0) (by decide) (fm_dec dtL_risk 10 rfl) ?_
        exact z_iret hF (pc := 15) (WW := WX G g o Rs) (M', vp_updL f 0 v) hr hlocks (by decide) (by decide) (fm_dec dtL_risk 11 rfl) h
      | _ => exact False.elim h
  · obtain ⟨rfl, h⟩ := h
    refine z_catch hF (name := fmIAE) [] ⟨0, 8, 11, 13⟩ [] (by rw [htab]; rfl) (fun z hz => by cases hz) (by decide) (by decide) clL_13 hF.2.2.2.2.2.1.1.2.2.2.1.1 (fun q => ?_)
    refine z_astoren hF (pc := 11) (n := 3) 3 rfl (by decide) rfl (fm_dec dtL_risk 7 rfl) ?_
    refine z_iconst hF (pc := 12) (v := 1) (by decide) (fm_dec dtL_risk 8 rfl) ?_
    exact z_iret hF (pc := 13) (WW := WX G g o Rs) (M', f) hr hlocks (by decide) (by decide) (fm_dec dtL_risk 9 rfl) h
abbrev dlL_saves : List (Nat × Instr × Nat) := [(0, .aload_n 3, 1), (1, .iconst 0, 1), (2, .aload_n 0, 1), (3, .iload_n 1, 1), (4, .iload_n 2, 1), (5, .invokevirtual 54, 3), (8, .lastore, 1), (9, .goto 11, 3), (12, .astore 4, 2), (14, .iconst 1, 1), (15, .ireturn, 1), (16, .astore 4, 2), (18, .iconst 2, 1), (19, .ireturn, 1), (20, .iconst 0, 1), (21, .ireturn, 1)]
theorem dtL_saves : fmDec cL_saves dlL_saves = true := by decide +kernel
abbrev qL_saves : fmY := (yL_saves, cL_saves, 5, some .int)
theorem nw_L_saves : Cond.codeWith yL_saves cL_saves 5 (some .int) [(0, 9, 12, 31), (0, 9, 16, 13)] ∈ fmWs := (fm_in 1016 (by decide +kernel) rfl)
theorem nst_L_saves : Cond.static yL_saves ∈ fmWs := (fm_in 1015 (by decide +kernel) rfl)
theorem nd_L_saves : yL_saves.cls ≠ "java/lang/invoke/MethodHandle" ∧ yL_saves.cls ≠ "java/lang/invoke/VarHandle" ∧ (parseMethodDescriptor yL_saves.desc).map (fun d => d.parameters.length) = some 4 := by decide +kernel
set_option maxRecDepth 20000 in
theorem w_saves {l : Launch} {G : fmG} {g : Nat → Nat} {M : fmM} {f : Nat → Int64} {o : Nat} {Rs : va_W} {Q : Int32 → fmM × (Nat → Int64) → Prop} {p0 p1 : Int32} (hst : l.stackTraces = false) (hp : pvGood Tx 250 qX10_saves [.ref 0, .int p0, .int p1] M (wJ f Q (fun E M' => (E = fmNSE ∧ Q 1 (M', f)) ∨ (E = fmIAE ∧ Q 2 (M', f))))) : zGood l G qL_saves [(0, 9, 12, 31), (0, 9, 16, 13)] [.ref (g 0), .int p0, .int p1, .ref o] (WX G g o Rs (M, f)) (WX G g o Rs) Q := by
  have hx : fmGood Tx l (g, G.2) 250 qX10_saves [.ref (g 0), .int p0, .int p1] M (wJ f Q (fun E M' => (E = fmNSE ∧ Q 1 (M', f)) ∨ (E = fmIAE ∧ Q 2 (M', f)))) := fmGood.imp (pvGood.fm hst (by decide) (by decide +kernel) hp) (fun o9 M9 h9 => by obtain ⟨o', rfl, h8⟩ := h9; exact wJ_to h8)
  refine zGood_of (by decide +kernel) rfl (Nat.le_of_ble_eq_true rfl) ?_
  intro p e s m args below meth c A hF htab hr hlocks
  show zEv p l e (lwRm 300 1 6) s m args below meth c G A 5 _ 0 [some (.ref (g 0)), some (.int p0), some (.int p1), some (.ref o), none] [] (WX G g o Rs (M, f)) 0 0
  refine z_aloadn hF (pc := 0) (n := 3) 3 rfl rfl (fm_dec dtL_saves 0 rfl) ?_
  refine z_iconst hF (pc := 1) (v := 0) (by decide) (fm_dec dtL_saves 1 rfl) ?_
  refine z_aloadn hF (pc := 2) (n := 0) 0 rfl rfl (fm_dec dtL_saves 2 rfl) ?_
  refine z_iloadn hF (pc := 3) (n := 1) 1 rfl rfl (fm_dec dtL_saves 3 rfl) ?_
  refine z_iloadn hF (pc := 4) (n := 2) 2 rfl rfl (fm_dec dtL_saves 4 rfl) ?_
  refine z_callX hF (T := Tx) (g := g) (M := M) (rest := (o, .inl (G.2.2.1 1, 1, .inr (.inl f))) :: Rs) (k := 0) (ci := 10) (d' := 250) (pc := 5) (As := [.int p0, .int p1]) (st := [.int 0, .ref o]) cvL_54 (by decide) rfl rfl rfl (Nat.le_of_ble_eq_true rfl) (by decide) (by decide) (by decide) (by decide) (fm_dec dtL_saves 5 rfl) (fmGood.imp hx (fun o9 M' h => ?_))
  rcases o9 with v | E
  · rcases v with _ | v
    · exact False.elim h
    · cases v with
      | long v =>
        refine z_then1 ?_
        refine z_last hF (pc := 8) (w0 := fmL Tx (g, G.2) M') (w1 := Rs) (fm_dec dtL_saves 6 rfl) ?_
        refine z_goto hF (pc := 9) 20 (by decide) (fm_dec dtL_saves 7 rfl) ?_
        refine z_iconst hF (pc := 20) (v := 0) (by decide) (fm_dec dtL_saves 14 rfl) ?_
        exact z_iret hF (pc := 21) (WW := WX G g o Rs) (M', vp_updL f 0 v) hr hlocks (by decide) (by decide) (fm_dec dtL_saves 15 rfl) h
      | _ => exact False.elim h
  · rcases h with ⟨rfl, h⟩ | ⟨rfl, h⟩
    · refine z_catch hF (name := fmNSE) [] ⟨0, 9, 12, 31⟩ [⟨0, 9, 16, 13⟩] (by rw [htab]; rfl) (fun z hz => by cases hz) (by decide) (by decide) clL_31 hF.2.2.2.2.2.1.1.2.2.2.1.2.1 (fun q => ?_)
      refine z_astore hF (pc := 12) (i := 4) (by decide) rfl (fm_dec dtL_saves 8 rfl) ?_
      refine z_iconst hF (pc := 14) (v := 1) (by decide) (fm_dec dtL_saves 9 rfl) ?_
      exact z_iret hF (pc := 15) (WW := WX G g o Rs) (M', f) hr hlocks (by decide) (by decide) (fm_dec dtL_saves 10 rfl) h
    · refine z_catch hF (name := fmIAE) [⟨0, 9, 12, 31⟩] ⟨0, 9, 16, 13⟩ [] (by rw [htab]; rfl) (fun z hz => by rcases List.mem_cons.mp hz with rfl | hz; exact Or.inr ⟨by decide, _, clL_31, hF.2.2.2.2.2.1.1.2.2.2.1.2.2.1⟩; cases hz) (by decide) (by decide) clL_13 hF.2.2.2.2.2.1.1.2.2.2.1.1 (fun q => ?_)
      refine z_astore hF (pc := 16) (i := 4) (by decide) rfl (fm_dec dtL_saves 11 rfl) ?_
      refine z_iconst hF (pc := 18) (v := 2) (by decide) (fm_dec dtL_saves 12 rfl) ?_
      exact z_iret hF (pc := 19) (WW := WX G g o Rs) (M', f) hr hlocks (by decide) (by decide) (fm_dec dtL_saves 13 rfl) h
abbrev dlL_stale : List (Nat × Instr × Nat) := [(0, .aload_n 2, 1), (1, .iconst 0, 1), (2, .aload_n 0, 1), (3, .iload_n 1, 1), (4, .invokevirtual 57, 3), (7, .i2l, 1), (8, .lastore, 1), (9, .goto 6, 3), (12, .astore_n 3, 1), (13, .iconst 1, 1), (14, .ireturn, 1), (15, .iconst 0, 1), (16, .ireturn, 1)]
theorem dtL_stale : fmDec cL_stale dlL_stale = true := by decide +kernel
abbrev qL_stale : fmY := (yL_stale, cL_stale, 4, some .int)
theorem nw_L_stale : Cond.codeWith yL_stale cL_stale 4 (some .int) [(0, 9, 12, 13)] ∈ fmWs := (fm_in 1025 (by decide +kernel) rfl)
theorem nst_L_stale : Cond.static yL_stale ∈ fmWs := (fm_in 1024 (by decide +kernel) rfl)
theorem nd_L_stale : yL_stale.cls ≠ "java/lang/invoke/MethodHandle" ∧ yL_stale.cls ≠ "java/lang/invoke/VarHandle" ∧ (parseMethodDescriptor yL_stale.desc).map (fun d => d.parameters.length) = some 3 := by decide +kernel
set_option maxRecDepth 20000 in
theorem w_stale {l : Launch} {G : fmG} {g : Nat → Nat} {M : fmM} {f : Nat → Int64} {o : Nat} {Rs : va_W} {Q : Int32 → fmM × (Nat → Int64) → Prop} {p0 : Int32} (hst : l.stackTraces = false) (hp : pvGood Tx 250 qX10_stale [.ref 0, .int p0] M (wI f Q (fun E M' => (E = fmIAE ∧ Q 1 (M', f))))) : zGood l G qL_stale [(0, 9, 12, 13)] [.ref (g 0), .int p0, .ref o] (WX G g o Rs (M, f)) (WX G g o Rs) Q := by
  have hx : fmGood Tx l (g, G.2) 250 qX10_stale [.ref (g 0), .int p0] M (wI f Q (fun E M' => (E = fmIAE ∧ Q 1 (M', f)))) := fmGood.imp (pvGood.fm hst (by decide) (by decide +kernel) hp) (fun o9 M9 h9 => by obtain ⟨o', rfl, h8⟩ := h9; exact wI_to h8)
  refine zGood_of (by decide +kernel) rfl (Nat.le_of_ble_eq_true rfl) ?_
  intro p e s m args below meth c A hF htab hr hlocks
  show zEv p l e (lwRm 300 1 6) s m args below meth c G A 4 _ 0 [some (.ref (g 0)), some (.int p0), some (.ref o), none] [] (WX G g o Rs (M, f)) 0 0
  refine z_aloadn hF (pc := 0) (n := 2) 2 rfl rfl (fm_dec dtL_stale 0 rfl) ?_
  refine z_iconst hF (pc := 1) (v := 0) (by decide) (fm_dec dtL_stale 1 rfl) ?_
  refine z_aloadn hF (pc := 2) (n := 0) 0 rfl rfl (fm_dec dtL_stale 2 rfl) ?_
  refine z_iloadn hF (pc := 3) (n := 1) 1 rfl rfl (fm_dec dtL_stale 3 rfl) ?_
  refine z_callX hF (T := Tx) (g := g) (M := M) (rest := (o, .inl (G.2.2.1 1, 1, .inr (.inl f))) :: Rs) (k := 0) (ci := 10) (d' := 250) (pc := 4) (As := [.int p0]) (st := [.int 0, .ref o]) cvL_57 (by decide) rfl rfl rfl (Nat.le_of_ble_eq_true rfl) (by decide) (by decide) (by decide) (by decide) (fm_dec dtL_stale 4 rfl) (fmGood.imp hx (fun o9 M' h => ?_))
  rcases o9 with v | E
  · rcases v with _ | v
    · exact False.elim h
    · cases v with
      | int v =>
        refine z_then1 ?_
        refine z_i2l hF (pc := 7) (fm_dec dtL_stale 5 rfl) ?_
        refine z_last hF (pc := 8) (w0 := fmL Tx (g, G.2) M') (w1 := Rs) (fm_dec dtL_stale 6 rfl) ?_
        refine z_goto hF (pc := 9) 15 (by decide) (fm_dec dtL_stale 7 rfl) ?_
        refine z_iconst hF (pc := 15) (v := 0) (by decide) (fm_dec dtL_stale 11 rfl) ?_
        exact z_iret hF (pc := 16) (WW := WX G g o Rs) (M', vp_updL f 0 v.toInt64) hr hlocks (by decide) (by decide) (fm_dec dtL_stale 12 rfl) h
      | _ => exact False.elim h
  · obtain ⟨rfl, h⟩ := h
    refine z_catch hF (name := fmIAE) [] ⟨0, 9, 12, 13⟩ [] (by rw [htab]; rfl) (fun z hz => by cases hz) (by decide) (by decide) clL_13 hF.2.2.2.2.2.1.1.2.2.2.1.1 (fun q => ?_)
    refine z_astoren hF (pc := 12) (n := 3) 3 rfl (by decide) rfl (fm_dec dtL_stale 8 rfl) ?_
    refine z_iconst hF (pc := 13) (v := 1) (by decide) (fm_dec dtL_stale 9 rfl) ?_
    exact z_iret hF (pc := 14) (WW := WX G g o Rs) (M', f) hr hlocks (by decide) (by decide) (fm_dec dtL_stale 10 rfl) h
abbrev dlL_best : List (Nat × Instr × Nat) := [(0, .aload_n 3, 1), (1, .iconst 0, 1), (2, .aload_n 0, 1), (3, .iload_n 1, 1), (4, .iload_n 2, 1), (5, .invokevirtual 60, 3), (8, .lastore, 1), (9, .goto 7, 3), (12, .astore 4, 2), (14, .iconst 1, 1), (15, .ireturn, 1), (16, .iconst 0, 1), (17, .ireturn, 1)]
theorem dtL_best : fmDec cL_best dlL_best = true := by decide +kernel
abbrev qL_best : fmY := (yL_best, cL_best, 5, some .int)
theorem nw_L_best : Cond.codeWith yL_best cL_best 5 (some .int) [(0, 9, 12, 13)] ∈ fmWs := (fm_in 1036 (by decide +kernel) rfl)
theorem nst_L_best : Cond.static yL_best ∈ fmWs := (fm_in 1035 (by decide +kernel) rfl)
theorem nd_L_best : yL_best.cls ≠ "java/lang/invoke/MethodHandle" ∧ yL_best.cls ≠ "java/lang/invoke/VarHandle" ∧ (parseMethodDescriptor yL_best.desc).map (fun d => d.parameters.length) = some 4 := by decide +kernel
set_option maxRecDepth 20000 in
theorem w_best {l : Launch} {G : fmG} {g : Nat → Nat} {M : fmM} {f : Nat → Int64} {o : Nat} {Rs : va_W} {Q : Int32 → fmM × (Nat → Int64) → Prop} {p0 p1 : Int32} (hst : l.stackTraces = false) (hp : pvGood Tx 250 qX10_best [.ref 0, .int p0, .int p1] M (wJ f Q (fun E M' => (E = fmIAE ∧ Q 1 (M', f))))) : zGood l G qL_best [(0, 9, 12, 13)] [.ref (g 0), .int p0, .int p1, .ref o] (WX G g o Rs (M, f)) (WX G g o Rs) Q := by
  have hx : fmGood Tx l (g, G.2) 250 qX10_best [.ref (g 0), .int p0, .int p1] M (wJ f Q (fun E M' => (E = fmIAE ∧ Q 1 (M', f)))) := fmGood.imp (pvGood.fm hst (by decide) (by decide +kernel) hp) (fun o9 M9 h9 => by obtain ⟨o', rfl, h8⟩ := h9; exact wJ_to h8)
  refine zGood_of (by decide +kernel) rfl (Nat.le_of_ble_eq_true rfl) ?_
  intro p e s m args below meth c A hF htab hr hlocks
  show zEv p l e (lwRm 300 1 6) s m args below meth c G A 5 _ 0 [some (.ref (g 0)), some (.int p0), some (.int p1), some (.ref o), none] [] (WX G g o Rs (M, f)) 0 0
  refine z_aloadn hF (pc := 0) (n := 3) 3 rfl rfl (fm_dec dtL_best 0 rfl) ?_
  refine z_iconst hF (pc := 1) (v := 0) (by decide) (fm_dec dtL_best 1 rfl) ?_
  refine z_aloadn hF (pc := 2) (n := 0) 0 rfl rfl (fm_dec dtL_best 2 rfl) ?_
  refine z_iloadn hF (pc := 3) (n := 1) 1 rfl rfl (fm_dec dtL_best 3 rfl) ?_
  refine z_iloadn hF (pc := 4) (n := 2) 2 rfl rfl (fm_dec dtL_best 4 rfl) ?_
  refine z_callX hF (T := Tx) (g := g) (M := M) (rest := (o, .inl (G.2.2.1 1, 1, .inr (.inl f))) :: Rs) (k := 0) (ci := 10) (d' := 250) (pc := 5) (As := [.int p0, .int p1]) (st := [.int 0, .ref o]) cvL_60 (by decide) rfl rfl rfl (Nat.le_of_ble_eq_true rfl) (by decide) (by decide) (by decide) (by decide) (fm_dec dtL_best 5 rfl) (fmGood.imp hx (fun o9 M' h => ?_))
  rcases o9 with v | E
  · rcases v with _ | v
    · exact False.elim h
    · cases v with
      | long v =>
        refine z_then1 ?_
        refine z_last hF (pc := 8) (w0 := fmL Tx (g, G.2) M') (w1 := Rs) (fm_dec dtL_best 6 rfl) ?_
        refine z_goto hF (pc := 9) 16 (by decide) (fm_dec dtL_best 7 rfl) ?_
        refine z_iconst hF (pc := 16) (v := 0) (by decide) (fm_dec dtL_best 11 rfl) ?_
        exact z_iret hF (pc := 17) (WW := WX G g o Rs) (M', vp_updL f 0 v) hr hlocks (by decide) (by decide) (fm_dec dtL_best 12 rfl) h
      | _ => exact False.elim h
  · obtain ⟨rfl, h⟩ := h
    refine z_catch hF (name := fmIAE) [] ⟨0, 9, 12, 13⟩ [] (by rw [htab]; rfl) (fun z hz => by cases hz) (by decide) (by decide) clL_13 hF.2.2.2.2.2.1.1.2.2.2.1.1 (fun q => ?_)
    refine z_astore hF (pc := 12) (i := 4) (by decide) rfl (fm_dec dtL_best 8 rfl) ?_
    refine z_iconst hF (pc := 14) (v := 1) (by decide) (fm_dec dtL_best 9 rfl) ?_
    exact z_iret hF (pc := 15) (WW := WX G g o Rs) (M', f) hr hlocks (by decide) (by decide) (fm_dec dtL_best 10 rfl) h
abbrev dlL_bestIn : List (Nat × Instr × Nat) := [(0, .aload_n 3, 1), (1, .iconst 0, 1), (2, .aload_n 0, 1), (3, .iload_n 1, 1), (4, .iload_n 2, 1), (5, .invokevirtual 63, 3), (8, .i2l, 1), (9, .lastore, 1), (10, .goto 7, 3), (13, .astore 4, 2), (15, .iconst 1, 1), (16, .ireturn, 1), (17, .iconst 0, 1), (18, .ireturn, 1)]
theorem dtL_bestIn : fmDec cL_bestIn dlL_bestIn = true := by decide +kernel
abbrev qL_bestIn : fmY := (yL_bestIn, cL_bestIn, 5, some .int)
theorem nw_L_bestIn : Cond.codeWith yL_bestIn cL_bestIn 5 (some .int) [(0, 10, 13, 13)] ∈ fmWs := (fm_in 1087 (by decide +kernel) rfl)
theorem nst_L_bestIn : Cond.static yL_bestIn ∈ fmWs := (fm_in 1086 (by decide +kernel) rfl)
theorem nd_L_bestIn : yL_bestIn.cls ≠ "java/lang/invoke/MethodHandle" ∧ yL_bestIn.cls ≠ "java/lang/invoke/VarHandle" ∧ (parseMethodDescriptor yL_bestIn.desc).map (fun d => d.parameters.length) = some 4 := by decide +kernel
set_option maxRecDepth 20000 in
theorem w_bestIn {l : Launch} {G : fmG} {g : Nat → Nat} {M : fmM} {f : Nat → Int64} {o : Nat} {Rs : va_W} {Q : Int32 → fmM × (Nat → Int64) → Prop} {p0 p1 : Int32} (hst : l.stackTraces = false) (hp : pvGood Tx 250 qX10_bestIn [.ref 0, .int p0, .int p1] M (wI f Q (fun E M' => (E = fmIAE ∧ Q 1 (M', f))))) : zGood l G qL_bestIn [(0, 10, 13, 13)] [.ref (g 0), .int p0, .int p1, .ref o] (WX G g o Rs (M, f)) (WX G g o Rs) Q := by
  have hx : fmGood Tx l (g, G.2) 250 qX10_bestIn [.ref (g 0), .int p0, .int p1] M (wI f Q (fun E M' => (E = fmIAE ∧ Q 1 (M', f)))) := fmGood.imp (pvGood.fm hst (by decide) (by decide +kernel) hp) (fun o9 M9 h9 => by obtain ⟨o', rfl, h8⟩ := h9; exact wI_to h8)
  refine zGood_of (by decide +kernel) rfl (Nat.le_of_ble_eq_true rfl) ?_
  intro p e s m args below meth c A hF htab hr hlocks
  show zEv p l e (lwRm 300 1 6) s m args below meth c G A 5 _ 0 [some (.ref (g 0)), some (.int p0), some (.int p1), some (.ref o), none] [] (WX G g o Rs (M, f)) 0 0
  refine z_aloadn hF (pc := 0) (n := 3) 3 rfl rfl (fm_dec dtL_bestIn 0 rfl) ?_
  refine z_iconst hF (pc := 1) (v := 0) (by decide) (fm_dec dtL_bestIn 1 rfl) ?_
  refine z_aloadn hF (pc := 2) (n := 0) 0 rfl rfl (fm_dec dtL_bestIn 2 rfl) ?_
  refine z_iloadn hF (pc := 3) (n := 1) 1 rfl rfl (fm_dec dtL_bestIn 3 rfl) ?_
  refine z_iloadn hF (pc := 4) (n := 2) 2 rfl rfl (fm_dec dtL_bestIn 4 rfl) ?_
  refine z_callX hF (T := Tx) (g := g) (M := M) (rest := (o, .inl (G.2.2.1 1, 1, .inr (.inl f))) :: Rs) (k := 0) (ci := 10) (d' := 250) (pc := 5) (As := [.int p0, .int p1]) (st := [.int 0, .ref o]) cvL_63 (by decide) rfl rfl rfl (Nat.le_of_ble_eq_true rfl) (by decide) (by decide) (by decide) (by decide) (fm_dec dtL_bestIn 5 rfl) (fmGood.imp hx (fun o9 M' h => ?_))
  rcases o9 with v | E
  · rcases v with _ | v
    · exact False.elim h
    · cases v with
      | int v =>
        refine z_then1 ?_
        refine z_i2l hF (pc := 8) (fm_dec dtL_bestIn 6 rfl) ?_
        refine z_last hF (pc := 9) (w0 := fmL Tx (g, G.2) M') (w1 := Rs) (fm_dec dtL_bestIn 7 rfl) ?_
        refine z_goto hF (pc := 10) 17 (by decide) (fm_dec dtL_bestIn 8 rfl) ?_
        refine z_iconst hF (pc := 17) (v := 0) (by decide) (fm_dec dtL_bestIn 12 rfl) ?_
        exact z_iret hF (pc := 18) (WW := WX G g o Rs) (M', vp_updL f 0 v.toInt64) hr hlocks (by decide) (by decide) (fm_dec dtL_bestIn 13 rfl) h
      | _ => exact False.elim h
  · obtain ⟨rfl, h⟩ := h
    refine z_catch hF (name := fmIAE) [] ⟨0, 10, 13, 13⟩ [] (by rw [htab]; rfl) (fun z hz => by cases hz) (by decide) (by decide) clL_13 hF.2.2.2.2.2.1.1.2.2.2.1.1 (fun q => ?_)
    refine z_astore hF (pc := 13) (i := 4) (by decide) rfl (fm_dec dtL_bestIn 9 rfl) ?_
    refine z_iconst hF (pc := 15) (v := 1) (by decide) (fm_dec dtL_bestIn 10 rfl) ?_
    exact z_iret hF (pc := 16) (WW := WX G g o Rs) (M', f) hr hlocks (by decide) (by decide) (fm_dec dtL_bestIn 11 rfl) h
abbrev dlL_often : List (Nat × Instr × Nat) := [(0, .aload_n 3, 1), (1, .iconst 0, 1), (2, .aload_n 0, 1), (3, .iload_n 1, 1), (4, .iload_n 2, 1), (5, .invokevirtual 66, 3), (8, .i2l, 1), (9, .lastore, 1), (10, .goto 11, 3), (13, .astore 4, 2), (15, .iconst 1, 1), (16, .ireturn, 1), (17, .astore 4, 2), (19, .iconst 2, 1), (20, .ireturn, 1), (21, .iconst 0, 1), (22, .ireturn, 1)]
theorem dtL_often : fmDec cL_often dlL_often = true := by decide +kernel
abbrev qL_often : fmY := (yL_often, cL_often, 5, some .int)
theorem nw_L_often : Cond.codeWith yL_often cL_often 5 (some .int) [(0, 10, 13, 31), (0, 10, 17, 13)] ∈ fmWs := (fm_in 1098 (by decide +kernel) rfl)
theorem nst_L_often : Cond.static yL_often ∈ fmWs := (fm_in 1097 (by decide +kernel) rfl)
theorem nd_L_often : yL_often.cls ≠ "java/lang/invoke/MethodHandle" ∧ yL_often.cls ≠ "java/lang/invoke/VarHandle" ∧ (parseMethodDescriptor yL_often.desc).map (fun d => d.parameters.length) = some 4 := by decide +kernel
set_option maxRecDepth 20000 in
theorem w_often {l : Launch} {G : fmG} {g : Nat → Nat} {M : fmM} {f : Nat → Int64} {o : Nat} {Rs : va_W} {Q : Int32 → fmM × (Nat → Int64) → Prop} {p0 p1 : Int32} (hst : l.stackTraces = false) (hp : pvGood Tx 250 qX10_often [.ref 0, .int p0, .int p1] M (wI f Q (fun E M' => (E = fmNSE ∧ Q 1 (M', f)) ∨ (E = fmIAE ∧ Q 2 (M', f))))) : zGood l G qL_often [(0, 10, 13, 31), (0, 10, 17, 13)] [.ref (g 0), .int p0, .int p1, .ref o] (WX G g o Rs (M, f)) (WX G g o Rs) Q := by
  have hx : fmGood Tx l (g, G.2) 250 qX10_often [.ref (g 0), .int p0, .int p1] M (wI f Q (fun E M' => (E = fmNSE ∧ Q 1 (M', f)) ∨ (E = fmIAE ∧ Q 2 (M', f)))) := fmGood.imp (pvGood.fm hst (by decide) (by decide +kernel) hp) (fun o9 M9 h9 => by obtain ⟨o', rfl, h8⟩ := h9; exact wI_to h8)
  refine zGood_of (by decide +kernel) rfl (Nat.le_of_ble_eq_true rfl) ?_
  intro p e s m args below meth c A hF htab hr hlocks
  show zEv p l e (lwRm 300 1 6) s m args below meth c G A 5 _ 0 [some (.ref (g 0)), some (.int p0), some (.int p1), some (.ref o), none] [] (WX G g o Rs (M, f)) 0 0
  refine z_aloadn hF (pc := 0) (n := 3) 3 rfl rfl (fm_dec dtL_often 0 rfl) ?_
  refine z_iconst hF (pc := 1) (v := 0) (by decide) (fm_dec dtL_often 1 rfl) ?_
  refine z_aloadn hF (pc := 2) (n := 0) 0 rfl rfl (fm_dec dtL_often 2 rfl) ?_
  refine z_iloadn hF (pc := 3) (n := 1) 1 rfl rfl (fm_dec dtL_often 3 rfl) ?_
  refine z_iloadn hF (pc := 4) (n := 2) 2 rfl rfl (fm_dec dtL_often 4 rfl) ?_
  refine z_callX hF (T := Tx) (g := g) (M := M) (rest := (o, .inl (G.2.2.1 1, 1, .inr (.inl f))) :: Rs) (k := 0) (ci := 10) (d' := 250) (pc := 5) (As := [.int p0, .int p1]) (st := [.int 0, .ref o]) cvL_66 (by decide) rfl rfl rfl (Nat.le_of_ble_eq_true rfl) (by decide) (by decide) (by decide) (by decide) (fm_dec dtL_often 5 rfl) (fmGood.imp hx (fun o9 M' h => ?_))
  rcases o9 with v | E
  · rcases v with _ | v
    · exact False.elim h
    · cases v with
      | int v =>
        refine z_then1 ?_
        refine z_i2l hF (pc := 8) (fm_dec dtL_often 6 rfl) ?_
        refine z_last hF (pc := 9) (w0 := fmL Tx (g, G.2) M') (w1 := Rs) (fm_dec dtL_often 7 rfl) ?_
        refine z_goto hF (pc := 10) 21 (by decide) (fm_dec dtL_often 8 rfl) ?_
        refine z_iconst hF (pc := 21) (v := 0) (by decide) (fm_dec dtL_often 15 rfl) ?_
        exact z_iret hF (pc := 22) (WW := WX G g o Rs) (M', vp_updL f 0 v.toInt64) hr hlocks (by decide) (by decide) (fm_dec dtL_often 16 rfl) h
      | _ => exact False.elim h
  · rcases h with ⟨rfl, h⟩ | ⟨rfl, h⟩
    · refine z_catch hF (name := fmNSE) [] ⟨0, 10, 13, 31⟩ [⟨0, 10, 17, 13⟩] (by rw [htab]; rfl) (fun z hz => by cases hz) (by decide) (by decide) clL_31 hF.2.2.2.2.2.1.1.2.2.2.1.2.1 (fun q => ?_)
      refine z_astore hF (pc := 13) (i := 4) (by decide) rfl (fm_dec dtL_often 9 rfl) ?_
      refine z_iconst hF (pc := 15) (v := 1) (by decide) (fm_dec dtL_often 10 rfl) ?_
      exact z_iret hF (pc := 16) (WW := WX G g o Rs) (M', f) hr hlocks (by decide) (by decide) (fm_dec dtL_often 11 rfl) h
    · refine z_catch hF (name := fmIAE) [⟨0, 10, 13, 31⟩] ⟨0, 10, 17, 13⟩ [] (by rw [htab]; rfl) (fun z hz => by rcases List.mem_cons.mp hz with rfl | hz; exact Or.inr ⟨by decide, _, clL_31, hF.2.2.2.2.2.1.1.2.2.2.1.2.2.1⟩; cases hz) (by decide) (by decide) clL_13 hF.2.2.2.2.2.1.1.2.2.2.1.1 (fun q => ?_)
      refine z_astore hF (pc := 17) (i := 4) (by decide) rfl (fm_dec dtL_often 12 rfl) ?_
      refine z_iconst hF (pc := 19) (v := 2) (by decide) (fm_dec dtL_often 13 rfl) ?_
      exact z_iret hF (pc := 20) (WW := WX G g o Rs) (M', f) hr hlocks (by decide) (by decide) (fm_dec dtL_often 14 rfl) h
abbrev dlL_yearly : List (Nat × Instr × Nat) := [(0, .aload 5, 2), (2, .iconst 0, 1), (3, .aload_n 0, 1), (4, .iload_n 1, 1), (5, .iload_n 2, 1), (6, .iload_n 3, 1), (7, .iload 4, 2), (9, .invokevirtual 69, 3), (12, .lastore, 1), (13, .goto 11, 3), (16, .astore 6, 2), (18, .iconst 1, 1), (19, .ireturn, 1), (20, .astore 6, 2), (22, .iconst 2, 1), (23, .ireturn, 1), (24, .iconst 0, 1), (25, .ireturn, 1)]
theorem dtL_yearly : fmDec cL_yearly dlL_yearly = true := by decide +kernel
abbrev qL_yearly : fmY := (yL_yearly, cL_yearly, 7, some .int)
theorem nw_L_yearly : Cond.codeWith yL_yearly cL_yearly 7 (some .int) [(0, 13, 16, 31), (0, 13, 20, 13)] ∈ fmWs := (fm_in 1113 (by decide +kernel) rfl)
theorem nst_L_yearly : Cond.static yL_yearly ∈ fmWs := (fm_in 1112 (by decide +kernel) rfl)
theorem nd_L_yearly : yL_yearly.cls ≠ "java/lang/invoke/MethodHandle" ∧ yL_yearly.cls ≠ "java/lang/invoke/VarHandle" ∧ (parseMethodDescriptor yL_yearly.desc).map (fun d => d.parameters.length) = some 6 := by decide +kernel
set_option maxRecDepth 20000 in
theorem w_yearly {l : Launch} {G : fmG} {g : Nat → Nat} {M : fmM} {f : Nat → Int64} {o : Nat} {Rs : va_W} {Q : Int32 → fmM × (Nat → Int64) → Prop} {p0 p1 p2 p3 : Int32} (hst : l.stackTraces = false) (hp : pvGood Tx 250 qX10_yearly [.ref 0, .int p0, .int p1, .int p2, .int p3] M (wJ f Q (fun E M' => (E = fmNSE ∧ Q 1 (M', f)) ∨ (E = fmIAE ∧ Q 2 (M', f))))) : zGood l G qL_yearly [(0, 13, 16, 31), (0, 13, 20, 13)] [.ref (g 0), .int p0, .int p1, .int p2, .int p3, .ref o] (WX G g o Rs (M, f)) (WX G g o Rs) Q := by
  have hx : fmGood Tx l (g, G.2) 250 qX10_yearly [.ref (g 0), .int p0, .int p1, .int p2, .int p3] M (wJ f Q (fun E M' => (E = fmNSE ∧ Q 1 (M', f)) ∨ (E = fmIAE ∧ Q 2 (M', f)))) := fmGood.imp (pvGood.fm hst (by decide) (by decide +kernel) hp) (fun o9 M9 h9 => by obtain ⟨o', rfl, h8⟩ := h9; exact wJ_to h8)
  refine zGood_of (by decide +kernel) rfl (Nat.le_of_ble_eq_true rfl) ?_
  intro p e s m args below meth c A hF htab hr hlocks
  show zEv p l e (lwRm 300 1 6) s m args below meth c G A 7 _ 0 [some (.ref (g 0)), some (.int p0), some (.int p1), some (.int p2), some (.int p3), some (.ref o), none] [] (WX G g o Rs (M, f)) 0 0
  refine z_aload hF (pc := 0) (i := 5) rfl (fm_dec dtL_yearly 0 rfl) ?_
  refine z_iconst hF (pc := 2) (v := 0) (by decide) (fm_dec dtL_yearly 1 rfl) ?_
  refine z_aloadn hF (pc := 3) (n := 0) 0 rfl rfl (fm_dec dtL_yearly 2 rfl) ?_
  refine z_iloadn hF (pc := 4) (n := 1) 1 rfl rfl (fm_dec dtL_yearly 3 rfl) ?_
  refine z_iloadn hF (pc := 5) (n := 2) 2 rfl rfl (fm_dec dtL_yearly 4 rfl) ?_
  refine z_iloadn hF (pc := 6) (n := 3) 3 rfl rfl (fm_dec dtL_yearly 5 rfl) ?_
  refine z_iload hF (pc := 7) (i := 4) rfl (fm_dec dtL_yearly 6 rfl) ?_
  refine z_callX hF (T := Tx) (g := g) (M := M) (rest := (o, .inl (G.2.2.1 1, 1, .inr (.inl f))) :: Rs) (k := 0) (ci := 10) (d' := 250) (pc := 9) (As := [.int p0, .int p1, .int p2, .int p3]) (st := [.int 0, .ref o]) cvL_69 (by decide) rfl rfl rfl (Nat.le_of_ble_eq_true rfl) (by decide) (by decide) (by decide) (by decide) (fm_dec dtL_yearly 7 rfl) (fmGood.imp hx (fun o9 M' h => ?_))
  rcases o9 with v | E
  · rcases v with _ | v
    · exact False.elim h
    · cases v with
      | long v =>
        refine z_then1 ?_
        refine z_last hF (pc := 12) (w0 := fmL Tx (g, G.2) M') (w1 := Rs) (fm_dec dtL_yearly 8 rfl) ?_
        refine z_goto hF (pc := 13) 24 (by decide) (fm_dec dtL_yearly 9 rfl) ?_
        refine z_iconst hF (pc := 24) (v := 0) (by decide) (fm_dec dtL_yearly 16 rfl) ?_
        exact z_iret hF (pc := 25) (WW := WX G g o Rs) (M', vp_updL f 0 v) hr hlocks (by decide) (by decide) (fm_dec dtL_yearly 17 rfl) h
      | _ => exact False.elim h
  · rcases h with ⟨rfl, h⟩ | ⟨rfl, h⟩
    · refine z_catch hF (name := fmNSE) [] ⟨0, 13, 16, 31⟩ [⟨0, 13, 20, 13⟩] (by rw [htab]; rfl) (fun z hz => by cases hz) (by decide) (by decide) clL_31 hF.2.2.2.2.2.1.1.2.2.2.1.2.1 (fun q => ?_)
      refine z_astore hF (pc := 16) (i := 6) (by decide) rfl (fm_dec dtL_yearly 10 rfl) ?_
      refine z_iconst hF (pc := 18) (v := 1) (by decide) (fm_dec dtL_yearly 11 rfl) ?_
      exact z_iret hF (pc := 19) (WW := WX G g o Rs) (M', f) hr hlocks (by decide) (by decide) (fm_dec dtL_yearly 12 rfl) h
    · refine z_catch hF (name := fmIAE) [⟨0, 13, 16, 31⟩] ⟨0, 13, 20, 13⟩ [] (by rw [htab]; rfl) (fun z hz => by rcases List.mem_cons.mp hz with rfl | hz; exact Or.inr ⟨by decide, _, clL_31, hF.2.2.2.2.2.1.1.2.2.2.1.2.2.1⟩; cases hz) (by decide) (by decide) clL_13 hF.2.2.2.2.2.1.1.2.2.2.1.1 (fun q => ?_)
      refine z_astore hF (pc := 20) (i := 6) (by decide) rfl (fm_dec dtL_yearly 13 rfl) ?_
      refine z_iconst hF (pc := 22) (v := 2) (by decide) (fm_dec dtL_yearly 14 rfl) ?_
      exact z_iret hF (pc := 23) (WW := WX G g o Rs) (M', f) hr hlocks (by decide) (by decide) (fm_dec dtL_yearly 15 rfl) h
abbrev dlL_brings : List (Nat × Instr × Nat) := [(0, .aload 7, 2), (2, .iconst 0, 1), (3, .aload_n 0, 1), (4, .iload_n 1, 1), (5, .iload_n 2, 1), (6, .iload_n 3, 1), (7, .iload 4, 2), (9, .iload 5, 2), (11, .iload 6, 2), (13, .invokevirtual 73, 3), (16, .i2l, 1), (17, .lastore, 1), (18, .goto 7, 3), (21, .astore 8, 2), (23, .iconst 1, 1), (24, .ireturn, 1), (25, .iconst 0, 1), (26, .ireturn, 1)]
theorem dtL_brings : fmDec cL_brings dlL_brings = true := by decide +kernel
abbrev qL_brings : fmY := (yL_brings, cL_brings, 9, some .int)
theorem nw_L_brings : Cond.codeWith yL_brings cL_brings 9 (some .int) [(0, 18, 21, 13)] ∈ fmWs := (fm_in 1120 (by decide +kernel) rfl)
theorem nst_L_brings : Cond.static yL_brings ∈ fmWs := (fm_in 1119 (by decide +kernel) rfl)
theorem nd_L_brings : yL_brings.cls ≠ "java/lang/invoke/MethodHandle" ∧ yL_brings.cls ≠ "java/lang/invoke/VarHandle" ∧ (parseMethodDescriptor yL_brings.desc).map (fun d => d.parameters.length) = some 8 := by decide +kernel
set_option maxRecDepth 20000 in
theorem w_brings {l : Launch} {G : fmG} {g : Nat → Nat} {M : fmM} {f : Nat → Int64} {o : Nat} {Rs : va_W} {Q : Int32 → fmM × (Nat → Int64) → Prop} {p0 p1 p2 p3 p4 p5 : Int32} (hst : l.stackTraces = false) (hp : pvGood Tx 250 qX10_brings [.ref 0, .int p0, .int p1, .int p2, .int p3, .int p4, .int p5] M (wI f Q (fun E M' => (E = fmIAE ∧ Q 1 (M', f))))) : zGood l G qL_brings [(0, 18, 21, 13)] [.ref (g 0), .int p0, .int p1, .int p2, .int p3, .int p4, .int p5, .ref o] (WX G g o Rs (M, f)) (WX G g o Rs) Q := by
  have hx : fmGood Tx l (g, G.2) 250 qX10_brings [.ref (g 0), .int p0, .int p1, .int p2, .int p3, .int p4, .int p5] M (wI f Q (fun E M' => (E = fmIAE ∧ Q 1 (M', f)))) := fmGood.imp (pvGood.fm hst (by decide) (by decide +kernel) hp) (fun o9 M9 h9 => by obtain ⟨o', rfl, h8⟩ := h9; exact wI_to h8)
  refine zGood_of (by decide +kernel) rfl (Nat.le_of_ble_eq_true rfl) ?_
  intro p e s m args below meth c A hF htab hr hlocks
  show zEv p l e (lwRm 300 1 6) s m args below meth c G A 9 _ 0 [some (.ref (g 0)), some (.int p0), some (.int p1), some (.int p2), some (.int p3), some (.int p4), some (.int p5), some (.ref o), none] [] (WX G g o Rs (M, f)) 0 0
  refine z_aload hF (pc := 0) (i := 7) rfl (fm_dec dtL_brings 0 rfl) ?_
  refine z_iconst hF (pc := 2) (v := 0) (by decide) (fm_dec dtL_brings 1 rfl) ?_
  refine z_aloadn hF (pc := 3) (n := 0) 0 rfl rfl (fm_dec dtL_brings 2 rfl) ?_
  refine z_iloadn hF (pc := 4) (n := 1) 1 rfl rfl (fm_dec dtL_brings 3 rfl) ?_
  refine z_iloadn hF (pc := 5) (n := 2) 2 rfl rfl (fm_dec dtL_brings 4 rfl) ?_
  refine z_iloadn hF (pc := 6) (n := 3) 3 rfl rfl (fm_dec dtL_brings 5 rfl) ?_
  refine z_iload hF (pc := 7) (i := 4) rfl (fm_dec dtL_brings 6 rfl) ?_
  refine z_iload hF (pc := 9) (i := 5) rfl (fm_dec dtL_brings 7 rfl) ?_
  refine z_iload hF (pc := 11) (i := 6) rfl (fm_dec dtL_brings 8 rfl) ?_
  refine z_callX hF (T := Tx) (g := g) (M := M) (rest := (o, .inl (G.2.2.1 1, 1, .inr (.inl f))) :: Rs) (k := 0) (ci := 10) (d' := 250) (pc := 13) (As := [.int p0, .int p1, .int p2, .int p3, .int p4, .int p5]) (st := [.int 0, .ref o]) cvL_73 (by decide) rfl rfl rfl (Nat.le_of_ble_eq_true rfl) (by decide) (by decide) (by decide) (by decide) (fm_dec dtL_brings 9 rfl) (fmGood.imp hx (fun o9 M' h => ?_))
  rcases o9 with v | E
  · rcases v with _ | v
    · exact False.elim h
    · cases v with
      | int v =>
        refine z_then1 ?_
        refine z_i2l hF (pc := 16) (fm_dec dtL_brings 10 rfl) ?_
        refine z_last hF (pc := 17) (w0 := fmL Tx (g, G.2) M') (w1 := Rs) (fm_dec dtL_brings 11 rfl) ?_
        refine z_goto hF (pc := 18) 25 (by decide) (fm_dec dtL_brings 12 rfl) ?_
        refine z_iconst hF (pc := 25) (v := 0) (by decide) (fm_dec dtL_brings 16 rfl) ?_
        exact z_iret hF (pc := 26) (WW := WX G g o Rs) (M', vp_updL f 0 v.toInt64) hr hlocks (by decide) (by decide) (fm_dec dtL_brings 17 rfl) h
      | _ => exact False.elim h
  · obtain ⟨rfl, h⟩ := h
    refine z_catch hF (name := fmIAE) [] ⟨0, 18, 21, 13⟩ [] (by rw [htab]; rfl) (fun z hz => by cases hz) (by decide) (by decide) clL_13 hF.2.2.2.2.2.1.1.2.2.2.1.1 (fun q => ?_)
    refine z_astore hF (pc := 21) (i := 8) (by decide) rfl (fm_dec dtL_brings 13 rfl) ?_
    refine z_iconst hF (pc := 23) (v := 1) (by decide) (fm_dec dtL_brings 14 rfl) ?_
    exact z_iret hF (pc := 24) (WW := WX G g o Rs) (M', f) hr hlocks (by decide) (by decide) (fm_dec dtL_brings 15 rfl) h
abbrev dlL_says : List (Nat × Instr × Nat) := [(0, .aload 6, 2), (2, .iconst 0, 1), (3, .aload_n 0, 1), (4, .iload_n 1, 1), (5, .iload_n 2, 1), (6, .iload_n 3, 1), (7, .iload 4, 2), (9, .iload 5, 2), (11, .invokevirtual 77, 3), (14, .i2l, 1), (15, .lastore, 1), (16, .goto 7, 3), (19, .astore 7, 2), (21, .iconst 1, 1), (22, .ireturn, 1), (23, .iconst 0, 1), (24, .ireturn, 1)]
theorem dtL_says : fmDec cL_says dlL_says = true := by decide +kernel
abbrev qL_says : fmY := (yL_says, cL_says, 8, some .int)
theorem nw_L_says : Cond.codeWith yL_says cL_says 8 (some .int) [(0, 16, 19, 13)] ∈ fmWs := (fm_in 1134 (by decide +kernel) rfl)
theorem nst_L_says : Cond.static yL_says ∈ fmWs := (fm_in 1133 (by decide +kernel) rfl)
theorem nd_L_says : yL_says.cls ≠ "java/lang/invoke/MethodHandle" ∧ yL_says.cls ≠ "java/lang/invoke/VarHandle" ∧ (parseMethodDescriptor yL_says.desc).map (fun d => d.parameters.length) = some 7 := by decide +kernel
set_option maxRecDepth 20000 in
theorem w_says {l : Launch} {G : fmG} {g : Nat → Nat} {M : fmM} {f : Nat → Int64} {o : Nat} {Rs : va_W} {Q : Int32 → fmM × (Nat → Int64) → Prop} {p0 p1 p2 p3 p4 : Int32} (hst : l.stackTraces = false) (hp : pvGood Tx 250 qX10_says [.ref 0, .int p0, .int p1, .int p2, .int p3, .int p4] M (wI f Q (fun E M' => (E = fmIAE ∧ Q 1 (M', f))))) : zGood l G qL_says [(0, 16, 19, 13)] [.ref (g 0), .int p0, .int p1, .int p2, .int p3, .int p4, .ref o] (WX G g o Rs (M, f)) (WX G g o Rs) Q := by
  have hx : fmGood Tx l (g, G.2) 250 qX10_says [.ref (g 0), .int p0, .int p1, .int p2, .int p3, .int p4] M (wI f Q (fun E M' => (E = fmIAE ∧ Q 1 (M', f)))) := fmGood.imp (pvGood.fm hst (by decide) (by decide +kernel) hp) (fun o9 M9 h9 => by obtain ⟨o', rfl, h8⟩ := h9; exact wI_to h8)
  refine zGood_of (by decide +kernel) rfl (Nat.le_of_ble_eq_true rfl) ?_
  intro p e s m args below meth c A hF htab hr hlocks
  show zEv p l e (lwRm 300 1 6) s m args below meth c G A 8 _ 0 [some (.ref (g 0)), some (.int p0), some (.int p1), some (.int p2), some (.int p3), some (.int p4), some (.ref o), none] [] (WX G g o Rs (M, f)) 0 0
  refine z_aload hF (pc := 0) (i := 6) rfl (fm_dec dtL_says 0 rfl) ?_
  refine z_iconst hF (pc := 2) (v := 0) (by decide) (fm_dec dtL_says 1 rfl) ?_
  refine z_aloadn hF (pc := 3) (n := 0) 0 rfl rfl (fm_dec dtL_says 2 rfl) ?_
  refine z_iloadn hF (pc := 4) (n := 1) 1 rfl rfl (fm_dec dtL_says 3 rfl) ?_
  refine z_iloadn hF (pc := 5) (n := 2) 2 rfl rfl (fm_dec dtL_says 4 rfl) ?_
  refine z_iloadn hF (pc := 6) (n := 3) 3 rfl rfl (fm_dec dtL_says 5 rfl) ?_
  refine z_iload hF (pc := 7) (i := 4) rfl (fm_dec dtL_says 6 rfl) ?_
  refine z_iload hF (pc := 9) (i := 5) rfl (fm_dec dtL_says 7 rfl) ?_
  refine z_callX hF (T := Tx) (g := g) (M := M) (rest := (o, .inl (G.2.2.1 1, 1, .inr (.inl f))) :: Rs) (k := 0) (ci := 10) (d' := 250) (pc := 11) (As := [.int p0, .int p1, .int p2, .int p3, .int p4]) (st := [.int 0, .ref o]) cvL_77 (by decide) rfl rfl rfl (Nat.le_of_ble_eq_true rfl) (by decide) (by decide) (by decide) (by decide) (fm_dec dtL_says 8 rfl) (fmGood.imp hx (fun o9 M' h => ?_))
  rcases o9 with v | E
  · rcases v with _ | v
    · exact False.elim h
    · cases v with
      | int v =>
        refine z_then1 ?_
        refine z_i2l hF (pc := 14) (fm_dec dtL_says 9 rfl) ?_
        refine z_last hF (pc := 15) (w0 := fmL Tx (g, G.2) M') (w1 := Rs) (fm_dec dtL_says 10 rfl) ?_
        refine z_goto hF (pc := 16) 23 (by decide) (fm_dec dtL_says 11 rfl) ?_
        refine z_iconst hF (pc := 23) (v := 0) (by decide) (fm_dec dtL_says 15 rfl) ?_
        exact z_iret hF (pc := 24) (WW := WX G g o Rs) (M', vp_updL f 0 v.toInt64) hr hlocks (by decide) (by decide) (fm_dec dtL_says 16 rfl) h
      | _ => exact False.elim h
  · obtain ⟨rfl, h⟩ := h
    refine z_catch hF (name := fmIAE) [] ⟨0, 16, 19, 13⟩ [] (by rw [htab]; rfl) (fun z hz => by cases hz) (by decide) (by decide) clL_13 hF.2.2.2.2.2.1.1.2.2.2.1.1 (fun q => ?_)
    refine z_astore hF (pc := 19) (i := 7) (by decide) rfl (fm_dec dtL_says 12 rfl) ?_
    refine z_iconst hF (pc := 21) (v := 1) (by decide) (fm_dec dtL_says 13 rfl) ?_
    exact z_iret hF (pc := 22) (WW := WX G g o Rs) (M', f) hr hlocks (by decide) (by decide) (fm_dec dtL_says 14 rfl) h
abbrev dlL_line : List (Nat × Instr × Nat) := [(0, .aload 5, 2), (2, .iconst 0, 1), (3, .aload_n 0, 1), (4, .iload_n 1, 1), (5, .iload_n 2, 1), (6, .iload_n 3, 1), (7, .iload 4, 2), (9, .invokevirtual 80, 3), (12, .i2l, 1), (13, .lastore, 1), (14, .goto 7, 3), (17, .astore 6, 2), (19, .iconst 1, 1), (20, .ireturn, 1), (21, .iconst 0, 1), (22, .ireturn, 1)]
theorem dtL_line : fmDec cL_line dlL_line = true := by decide +kernel
abbrev qL_line : fmY := (yL_line, cL_line, 7, some .int)
theorem nw_L_line : Cond.codeWith yL_line cL_line 7 (some .int) [(0, 14, 17, 13)] ∈ fmWs := (fm_in 1144 (by decide +kernel) rfl)
theorem nst_L_line : Cond.static yL_line ∈ fmWs := (fm_in 1143 (by decide +kernel) rfl)
theorem nd_L_line : yL_line.cls ≠ "java/lang/invoke/MethodHandle" ∧ yL_line.cls ≠ "java/lang/invoke/VarHandle" ∧ (parseMethodDescriptor yL_line.desc).map (fun d => d.parameters.length) = some 6 := by decide +kernel
set_option maxRecDepth 20000 in
theorem w_line {l : Launch} {G : fmG} {g : Nat → Nat} {M : fmM} {f : Nat → Int64} {o : Nat} {Rs : va_W} {Q : Int32 → fmM × (Nat → Int64) → Prop} {p0 p1 p2 p3 : Int32} (hst : l.stackTraces = false) (hp : pvGood Tx 250 qX10_line [.ref 0, .int p0, .int p1, .int p2, .int p3] M (wI f Q (fun E M' => (E = fmIAE ∧ Q 1 (M', f))))) : zGood l G qL_line [(0, 14, 17, 13)] [.ref (g 0), .int p0, .int p1, .int p2, .int p3, .ref o] (WX G g o Rs (M, f)) (WX G g o Rs) Q := by
  have hx : fmGood Tx l (g, G.2) 250 qX10_line [.ref (g 0), .int p0, .int p1, .int p2, .int p3] M (wI f Q (fun E M' => (E = fmIAE ∧ Q 1 (M', f)))) := fmGood.imp (pvGood.fm hst (by decide) (by decide +kernel) hp) (fun o9 M9 h9 => by obtain ⟨o', rfl, h8⟩ := h9; exact wI_to h8)
  refine zGood_of (by decide +kernel) rfl (Nat.le_of_ble_eq_true rfl) ?_
  intro p e s m args below meth c A hF htab hr hlocks
  show zEv p l e (lwRm 300 1 6) s m args below meth c G A 7 _ 0 [some (.ref (g 0)), some (.int p0), some (.int p1), some (.int p2), some (.int p3), some (.ref o), none] [] (WX G g o Rs (M, f)) 0 0
  refine z_aload hF (pc := 0) (i := 5) rfl (fm_dec dtL_line 0 rfl) ?_
  refine z_iconst hF (pc := 2) (v := 0) (by decide) (fm_dec dtL_line 1 rfl) ?_
  refine z_aloadn hF (pc := 3) (n := 0) 0 rfl rfl (fm_dec dtL_line 2 rfl) ?_
  refine z_iloadn hF (pc := 4) (n := 1) 1 rfl rfl (fm_dec dtL_line 3 rfl) ?_
  refine z_iloadn hF (pc := 5) (n := 2) 2 rfl rfl (fm_dec dtL_line 4 rfl) ?_
  refine z_iloadn hF (pc := 6) (n := 3) 3 rfl rfl (fm_dec dtL_line 5 rfl) ?_
  refine z_iload hF (pc := 7) (i := 4) rfl (fm_dec dtL_line 6 rfl) ?_
  refine z_callX hF (T := Tx) (g := g) (M := M) (rest := (o, .inl (G.2.2.1 1, 1, .inr (.inl f))) :: Rs) (k := 0) (ci := 10) (d' := 250) (pc := 9) (As := [.int p0, .int p1, .int p2, .int p3]) (st := [.int 0, .ref o]) cvL_80 (by decide) rfl rfl rfl (Nat.le_of_ble_eq_true rfl) (by decide) (by decide) (by decide) (by decide) (fm_dec dtL_line 7 rfl) (fmGood.imp hx (fun o9 M' h => ?_))
  rcases o9 with v | E
  · rcases v with _ | v
    · exact False.elim h
    · cases v with
      | int v =>
        refine z_then1 ?_
        refine z_i2l hF (pc := 12) (fm_dec dtL_line 8 rfl) ?_
        refine z_last hF (pc := 13) (w0 := fmL Tx (g, G.2) M') (w1 := Rs) (fm_dec dtL_line 9 rfl) ?_
        refine z_goto hF (pc := 14) 21 (by decide) (fm_dec dtL_line 10 rfl) ?_
        refine z_iconst hF (pc := 21) (v := 0) (by decide) (fm_dec dtL_line 14 rfl) ?_
        exact z_iret hF (pc := 22) (WW := WX G g o Rs) (M', vp_updL f 0 v.toInt64) hr hlocks (by decide) (by decide) (fm_dec dtL_line 15 rfl) h
      | _ => exact False.elim h
  · obtain ⟨rfl, h⟩ := h
    refine z_catch hF (name := fmIAE) [] ⟨0, 14, 17, 13⟩ [] (by rw [htab]; rfl) (fun z hz => by cases hz) (by decide) (by decide) clL_13 hF.2.2.2.2.2.1.1.2.2.2.1.1 (fun q => ?_)
    refine z_astore hF (pc := 17) (i := 6) (by decide) rfl (fm_dec dtL_line 11 rfl) ?_
    refine z_iconst hF (pc := 19) (v := 1) (by decide) (fm_dec dtL_line 12 rfl) ?_
    exact z_iret hF (pc := 20) (WW := WX G g o Rs) (M', f) hr hlocks (by decide) (by decide) (fm_dec dtL_line 13 rfl) h
abbrev dlL_room : List (Nat × Instr × Nat) := [(0, .aload_n 3, 1), (1, .iconst 0, 1), (2, .aload_n 0, 1), (3, .iload_n 1, 1), (4, .iload_n 2, 1), (5, .invokevirtual 84, 3), (8, .i2l, 1), (9, .lastore, 1), (10, .goto 7, 3), (13, .astore 4, 2), (15, .iconst 1, 1), (16, .ireturn, 1), (17, .iconst 0, 1), (18, .ireturn, 1)]
theorem dtL_room : fmDec cL_room dlL_room = true := by decide +kernel
abbrev qL_room : fmY := (yL_room, cL_room, 5, some .int)
theorem nw_L_room : Cond.codeWith yL_room cL_room 5 (some .int) [(0, 10, 13, 13)] ∈ fmWs := (fm_in 1151 (by decide +kernel) rfl)
theorem nst_L_room : Cond.static yL_room ∈ fmWs := (fm_in 1150 (by decide +kernel) rfl)
theorem nd_L_room : yL_room.cls ≠ "java/lang/invoke/MethodHandle" ∧ yL_room.cls ≠ "java/lang/invoke/VarHandle" ∧ (parseMethodDescriptor yL_room.desc).map (fun d => d.parameters.length) = some 4 := by decide +kernel
set_option maxRecDepth 20000 in
theorem w_room {l : Launch} {G : fmG} {g : Nat → Nat} {M : fmM} {f : Nat → Int64} {o : Nat} {Rs : va_W} {Q : Int32 → fmM × (Nat → Int64) → Prop} {p0 p1 : Int32} (hst : l.stackTraces = false) (hp : pvGood Tx 250 qX10_room [.ref 0, .int p0, .int p1] M (wI f Q (fun E M' => (E = fmIAE ∧ Q 1 (M', f))))) : zGood l G qL_room [(0, 10, 13, 13)] [.ref (g 0), .int p0, .int p1, .ref o] (WX G g o Rs (M, f)) (WX G g o Rs) Q := by
  have hx : fmGood Tx l (g, G.2) 250 qX10_room [.ref (g 0), .int p0, .int p1] M (wI f Q (fun E M' => (E = fmIAE ∧ Q 1 (M', f)))) := fmGood.imp (pvGood.fm hst (by decide) (by decide +kernel) hp) (fun o9 M9 h9 => by obtain ⟨o', rfl, h8⟩ := h9; exact wI_to h8)
  refine zGood_of (by decide +kernel) rfl (Nat.le_of_ble_eq_true rfl) ?_
  intro p e s m args below meth c A hF htab hr hlocks
  show zEv p l e (lwRm 300 1 6) s m args below meth c G A 5 _ 0 [some (.ref (g 0)), some (.int p0), some (.int p1), some (.ref o), none] [] (WX G g o Rs (M, f)) 0 0
  refine z_aloadn hF (pc := 0) (n := 3) 3 rfl rfl (fm_dec dtL_room 0 rfl) ?_
  refine z_iconst hF (pc := 1) (v := 0) (by decide) (fm_dec dtL_room 1 rfl) ?_
  refine z_aloadn hF (pc := 2) (n := 0) 0 rfl rfl (fm_dec dtL_room 2 rfl) ?_
  refine z_iloadn hF (pc := 3) (n := 1) 1 rfl rfl (fm_dec dtL_room 3 rfl) ?_
  refine z_iloadn hF (pc := 4) (n := 2) 2 rfl rfl (fm_dec dtL_room 4 rfl) ?_
  refine z_callX hF (T := Tx) (g := g) (M := M) (rest := (o, .inl (G.2.2.1 1, 1, .inr (.inl f))) :: Rs) (k := 0) (ci := 10) (d' := 250) (pc := 5) (As := [.int p0, .int p1]) (st := [.int 0, .ref o]) cvL_84 (by decide) rfl rfl rfl (Nat.le_of_ble_eq_true rfl) (by decide) (by decide) (by decide) (by decide) (fm_dec dtL_room 5 rfl) (fmGood.imp hx (fun o9 M' h => ?_))
  rcases o9 with v | E
  · rcases v with _ | v
    · exact False.elim h
    · cases v with
      | int v =>
        refine z_then1 ?_
        refine z_i2l hF (pc := 8) (fm_dec dtL_room 6 rfl) ?_
        refine z_last hF (pc := 9) (w0 := fmL Tx (g, G.2) M') (w1 := Rs) (fm_dec dtL_room 7 rfl) ?_
        refine z_goto hF (pc := 10) 17 (by decide) (fm_dec dtL_room 8 rfl) ?_
        refine z_iconst hF (pc := 17) (v := 0) (by decide) (fm_dec dtL_room 12 rfl) ?_
        exact z_iret hF (pc := 18) (WW := WX G g o Rs) (M', vp_updL f 0 v.toInt64) hr hlocks (by decide) (by decide) (fm_dec dtL_room 13 rfl) h
      | _ => exact False.elim h
  · obtain ⟨rfl, h⟩ := h
    refine z_catch hF (name := fmIAE) [] ⟨0, 10, 13, 13⟩ [] (by rw [htab]; rfl) (fun z hz => by cases hz) (by decide) (by decide) clL_13 hF.2.2.2.2.2.1.1.2.2.2.1.1 (fun q => ?_)
    refine z_astore hF (pc := 13) (i := 4) (by decide) rfl (fm_dec dtL_room 9 rfl) ?_
    refine z_iconst hF (pc := 15) (v := 1) (by decide) (fm_dec dtL_room 10 rfl) ?_
    exact z_iret hF (pc := 16) (WW := WX G g o Rs) (M', f) hr hlocks (by decide) (by decide) (fm_dec dtL_room 11 rfl) h
abbrev dlL_lines : List (Nat × Instr × Nat) := [(0, .aload 4, 2), (2, .iconst 0, 1), (3, .aload_n 0, 1), (4, .iload_n 1, 1), (5, .iload_n 2, 1), (6, .iload_n 3, 1), (7, .invokevirtual 87, 3), (10, .i2l, 1), (11, .lastore, 1), (12, .goto 11, 3), (15, .astore 5, 2), (17, .iconst 1, 1), (18, .ireturn, 1), (19, .astore 5, 2), (21, .iconst 2, 1), (22, .ireturn, 1), (23, .iconst 0, 1), (24, .ireturn, 1)]
theorem dtL_lines : fmDec cL_lines dlL_lines = true := by decide +kernel
abbrev qL_lines : fmY := (yL_lines, cL_lines, 6, some .int)
theorem nw_L_lines : Cond.codeWith yL_lines cL_lines 6 (some .int) [(0, 12, 15, 31), (0, 12, 19, 13)] ∈ fmWs := (fm_in 1181 (by decide +kernel) rfl)
theorem nst_L_lines : Cond.static yL_lines ∈ fmWs := (fm_in 1180 (by decide +kernel) rfl)
theorem nd_L_lines : yL_lines.cls ≠ "java/lang/invoke/MethodHandle" ∧ yL_lines.cls ≠ "java/lang/invoke/VarHandle" ∧ (parseMethodDescriptor yL_lines.desc).map (fun d => d.parameters.length) = some 5 := by decide +kernel
set_option maxRecDepth 20000 in
theorem w_lines {l : Launch} {G : fmG} {g : Nat → Nat} {M : fmM} {f : Nat → Int64} {o : Nat} {Rs : va_W} {Q : Int32 → fmM × (Nat → Int64) → Prop} {p0 p1 p2 : Int32} (hst : l.stackTraces = false) (hp : pvGood Tx 250 qX10_lines [.ref 0, .int p0, .int p1, .int p2] M (wI f Q (fun E M' => (E = fmNSE ∧ Q 1 (M', f)) ∨ (E = fmIAE ∧ Q 2 (M', f))))) : zGood l G qL_lines [(0, 12, 15, 31), (0, 12, 19, 13)] [.ref (g 0), .int p0, .int p1, .int p2, .ref o] (WX G g o Rs (M, f)) (WX G g o Rs) Q := by
  have hx : fmGood Tx l (g, G.2) 250 qX10_lines [.ref (g 0), .int p0, .int p1, .int p2] M (wI f Q (fun E M' => (E = fmNSE ∧ Q 1 (M', f)) ∨ (E = fmIAE ∧ Q 2 (M', f)))) := fmGood.imp (pvGood.fm hst (by decide) (by decide +kernel) hp) (fun o9 M9 h9 => by obtain ⟨o', rfl, h8⟩ := h9; exact wI_to h8)
  refine zGood_of (by decide +kernel) rfl (Nat.le_of_ble_eq_true rfl) ?_
  intro p e s m args below meth c A hF htab hr hlocks
  show zEv p l e (lwRm 300 1 6) s m args below meth c G A 6 _ 0 [some (.ref (g 0)), some (.int p0), some (.int p1), some (.int p2), some (.ref o), none] [] (WX G g o Rs (M, f)) 0 0
  refine z_aload hF (pc := 0) (i := 4) rfl (fm_dec dtL_lines 0 rfl) ?_
  refine z_iconst hF (pc := 2) (v := 0) (by decide) (fm_dec dtL_lines 1 rfl) ?_
  refine z_aloadn hF (pc := 3) (n := 0) 0 rfl rfl (fm_dec dtL_lines 2 rfl) ?_
  refine z_iloadn hF (pc := 4) (n := 1) 1 rfl rfl (fm_dec dtL_lines 3 rfl) ?_
  refine z_iloadn hF (pc := 5) (n := 2) 2 rfl rfl (fm_dec dtL_lines 4 rfl) ?_
  refine z_iloadn hF (pc := 6) (n := 3) 3 rfl rfl (fm_dec dtL_lines 5 rfl) ?_
  refine z_callX hF (T := Tx) (g := g) (M := M) (rest := (o, .inl (G.2.2.1 1, 1, .inr (.inl f))) :: Rs) (k := 0) (ci := 10) (d' := 250) (pc := 7) (As := [.int p0, .int p1, .int p2]) (st := [.int 0, .ref o]) cvL_87 (by decide) rfl rfl rfl (Nat.le_of_ble_eq_true rfl) (by decide) (by decide) (by decide) (by decide) (fm_dec dtL_lines 6 rfl) (fmGood.imp hx (fun o9 M' h => ?_))
  rcases o9 with v | E
  · rcases v with _ | v
    · exact False.elim h
    · cases v with
      | int v =>
        refine z_then1 ?_
        refine z_i2l hF (pc := 10) (fm_dec dtL_lines 7 rfl) ?_
        refine z_last hF (pc := 11) (w0 := fmL Tx (g, G.2) M') (w1 := Rs) (fm_dec dtL_lines 8 rfl) ?_
        refine z_goto hF (pc := 12) 23 (by decide) (fm_dec dtL_lines 9 rfl) ?_
        refine z_iconst hF (pc := 23) (v := 0) (by decide) (fm_dec dtL_lines 16 rfl) ?_
        exact z_iret hF (pc := 24) (WW := WX G g o Rs) (M', vp_updL f 0 v.toInt64) hr hlocks (by decide) (by decide) (fm_dec dtL_lines 17 rfl) h
      | _ => exact False.elim h
  · rcases h with ⟨rfl, h⟩ | ⟨rfl, h⟩
    · refine z_catch hF (name := fmNSE) [] ⟨0, 12, 15, 31⟩ [⟨0, 12, 19, 13⟩] (by rw [htab]; rfl) (fun z hz => by cases hz) (by decide) (by decide) clL_31 hF.2.2.2.2.2.1.1.2.2.2.1.2.1 (fun q => ?_)
      refine z_astore hF (pc := 15) (i := 5) (by decide) rfl (fm_dec dtL_lines 10 rfl) ?_
      refine z_iconst hF (pc := 17) (v := 1) (by decide) (fm_dec dtL_lines 11 rfl) ?_
      exact z_iret hF (pc := 18) (WW := WX G g o Rs) (M', f) hr hlocks (by decide) (by decide) (fm_dec dtL_lines 12 rfl) h
    · refine z_catch hF (name := fmIAE) [⟨0, 12, 15, 31⟩] ⟨0, 12, 19, 13⟩ [] (by rw [htab]; rfl) (fun z hz => by rcases List.mem_cons.mp hz with rfl | hz; exact Or.inr ⟨by decide, _, clL_31, hF.2.2.2.2.2.1.1.2.2.2.1.2.2.1⟩; cases hz) (by decide) (by decide) clL_13 hF.2.2.2.2.2.1.1.2.2.2.1.1 (fun q => ?_)
      refine z_astore hF (pc := 19) (i := 5) (by decide) rfl (fm_dec dtL_lines 13 rfl) ?_
      refine z_iconst hF (pc := 21) (v := 2) (by decide) (fm_dec dtL_lines 14 rfl) ?_
      exact z_iret hF (pc := 22) (WW := WX G g o Rs) (M', f) hr hlocks (by decide) (by decide) (fm_dec dtL_lines 15 rfl) h
abbrev dlL_apart : List (Nat × Instr × Nat) := [(0, .aload_n 3, 1), (1, .iconst 0, 1), (2, .aload_n 0, 1), (3, .iload_n 1, 1), (4, .iload_n 2, 1), (5, .invokevirtual 91, 3), (8, .i2l, 1), (9, .lastore, 1), (10, .goto 7, 3), (13, .astore 4, 2), (15, .iconst 1, 1), (16, .ireturn, 1), (17, .iconst 0, 1), (18, .ireturn, 1)]
theorem dtL_apart : fmDec cL_apart dlL_apart = true := by decide +kernel
abbrev qL_apart : fmY := (yL_apart, cL_apart, 5, some .int)
theorem nw_L_apart : Cond.codeWith yL_apart cL_apart 5 (some .int) [(0, 10, 13, 13)] ∈ fmWs := (fm_in 1188 (by decide +kernel) rfl)
theorem nst_L_apart : Cond.static yL_apart ∈ fmWs := (fm_in 1187 (by decide +kernel) rfl)
theorem nd_L_apart : yL_apart.cls ≠ "java/lang/invoke/MethodHandle" ∧ yL_apart.cls ≠ "java/lang/invoke/VarHandle" ∧ (parseMethodDescriptor yL_apart.desc).map (fun d => d.parameters.length) = some 4 := by decide +kernel
set_option maxRecDepth 20000 in
theorem w_apart {l : Launch} {G : fmG} {g : Nat → Nat} {M : fmM} {f : Nat → Int64} {o : Nat} {Rs : va_W} {Q : Int32 → fmM × (Nat → Int64) → Prop} {p0 p1 : Int32} (hst : l.stackTraces = false) (hp : pvGood Tx 250 qX10_apart [.ref 0, .int p0, .int p1] M (wI f Q (fun E M' => (E = fmIAE ∧ Q 1 (M', f))))) : zGood l G qL_apart [(0, 10, 13, 13)] [.ref (g 0), .int p0, .int p1, .ref o] (WX G g o Rs (M, f)) (WX G g o Rs) Q := by
  have hx : fmGood Tx l (g, G.2) 250 qX10_apart [.ref (g 0), .int p0, .int p1] M (wI f Q (fun E M' => (E = fmIAE ∧ Q 1 (M', f)))) := fmGood.imp (pvGood.fm hst (by decide) (by decide +kernel) hp) (fun o9 M9 h9 => by obtain ⟨o', rfl, h8⟩ := h9; exact wI_to h8)
  refine zGood_of (by decide +kernel) rfl (Nat.le_of_ble_eq_true rfl) ?_
  intro p e s m args below meth c A hF htab hr hlocks
  show zEv p l e (lwRm 300 1 6) s m args below meth c G A 5 _ 0 [some (.ref (g 0)), some (.int p0), some (.int p1), some (.ref o), none] [] (WX G g o Rs (M, f)) 0 0
  refine z_aloadn hF (pc := 0) (n := 3) 3 rfl rfl (fm_dec dtL_apart 0 rfl) ?_
  refine z_iconst hF (pc := 1) (v := 0) (by decide) (fm_dec dtL_apart 1 rfl) ?_
  refine z_aloadn hF (pc := 2) (n := 0) 0 rfl rfl (fm_dec dtL_apart 2 rfl) ?_
  refine z_iloadn hF (pc := 3) (n := 1) 1 rfl rfl (fm_dec dtL_apart 3 rfl) ?_
  refine z_iloadn hF (pc := 4) (n := 2) 2 rfl rfl (fm_dec dtL_apart 4 rfl) ?_
  refine z_callX hF (T := Tx) (g := g) (M := M) (rest := (o, .inl (G.2.2.1 1, 1, .inr (.inl f))) :: Rs) (k := 0) (ci := 10) (d' := 250) (pc := 5) (As := [.int p0, .int p1]) (st := [.int 0, .ref o]) cvL_91 (by decide) rfl rfl rfl (Nat.le_of_ble_eq_true rfl) (by decide) (by decide) (by decide) (by decide) (fm_dec dtL_apart 5 rfl) (fmGood.imp hx (fun o9 M' h => ?_))
  rcases o9 with v | E
  · rcases v with _ | v
    · exact False.elim h
    · cases v with
      | int v =>
        refine z_then1 ?_
        refine z_i2l hF (pc := 8) (fm_dec dtL_apart 6 rfl) ?_
        refine z_last hF (pc := 9) (w0 := fmL Tx (g, G.2) M') (w1 := Rs) (fm_dec dtL_apart 7 rfl) ?_
        refine z_goto hF (pc := 10) 17 (by decide) (fm_dec dtL_apart 8 rfl) ?_
        refine z_iconst hF (pc := 17) (v := 0) (by decide) (fm_dec dtL_apart 12 rfl) ?_
        exact z_iret hF (pc := 18) (WW := WX G g o Rs) (M', vp_updL f 0 v.toInt64) hr hlocks (by decide) (by decide) (fm_dec dtL_apart 13 rfl) h
      | _ => exact False.elim h
  · obtain ⟨rfl, h⟩ := h
    refine z_catch hF (name := fmIAE) [] ⟨0, 10, 13, 13⟩ [] (by rw [htab]; rfl) (fun z hz => by cases hz) (by decide) (by decide) clL_13 hF.2.2.2.2.2.1.1.2.2.2.1.1 (fun q => ?_)
    refine z_astore hF (pc := 13) (i := 4) (by decide) rfl (fm_dec dtL_apart 9 rfl) ?_
    refine z_iconst hF (pc := 15) (v := 1) (by decide) (fm_dec dtL_apart 10 rfl) ?_
    exact z_iret hF (pc := 16) (WW := WX G g o Rs) (M', f) hr hlocks (by decide) (by decide) (fm_dec dtL_apart 11 rfl) h
abbrev dlL_written : List (Nat × Instr × Nat) := [(0, .aload_n 2, 1), (1, .iconst 0, 1), (2, .aload_n 0, 1), (3, .iload_n 1, 1), (4, .invokevirtual 94, 3), (7, .lastore, 1), (8, .goto 6, 3), (11, .astore_n 3, 1), (12, .iconst 1, 1), (13, .ireturn, 1), (14, .iconst 0, 1), (15, .ireturn, 1)]
theorem dtL_written : fmDec cL_written dlL_written = true := by decide +kernel
abbrev qL_written : fmY := (yL_written, cL_written, 4, some .int)
theorem nw_L_written : Cond.codeWith yL_written cL_written 4 (some .int) [(0, 8, 11, 31)] ∈ fmWs := (fm_in 1199 (by decide +kernel) rfl)
theorem nst_L_written : Cond.static yL_written ∈ fmWs := (fm_in 1198 (by decide +kernel) rfl)
theorem nd_L_written : yL_written.cls ≠ "java/lang/invoke/MethodHandle" ∧ yL_written.cls ≠ "java/lang/invoke/VarHandle" ∧ (parseMethodDescriptor yL_written.desc).map (fun d => d.parameters.length) = some 3 := by decide +kernel
set_option maxRecDepth 20000 in
theorem w_written {l : Launch} {G : fmG} {g : Nat → Nat} {M : fmM} {f : Nat → Int64} {o : Nat} {Rs : va_W} {Q : Int32 → fmM × (Nat → Int64) → Prop} {p0 : Int32} (hst : l.stackTraces = false) (hp : pvGood Tx 250 qX10_written [.ref 0, .int p0] M (wJ f Q (fun E M' => (E = fmNSE ∧ Q 1 (M', f))))) : zGood l G qL_written [(0, 8, 11, 31)] [.ref (g 0), .int p0, .ref o] (WX G g o Rs (M, f)) (WX G g o Rs) Q := by
  have hx : fmGood Tx l (g, G.2) 250 qX10_written [.ref (g 0), .int p0] M (wJ f Q (fun E M' => (E = fmNSE ∧ Q 1 (M', f)))) := fmGood.imp (pvGood.fm hst (by decide) (by decide +kernel) hp) (fun o9 M9 h9 => by obtain ⟨o', rfl, h8⟩ := h9; exact wJ_to h8)
  refine zGood_of (by decide +kernel) rfl (Nat.le_of_ble_eq_true rfl) ?_
  intro p e s m args below meth c A hF htab hr hlocks
  show zEv p l e (lwRm 300 1 6) s m args below meth c G A 4 _ 0 [some (.ref (g 0)), some (.int p0), some (.ref o), none] [] (WX G g o Rs (M, f)) 0 0
  refine z_aloadn hF (pc := 0) (n := 2) 2 rfl rfl (fm_dec dtL_written 0 rfl) ?_
  refine z_iconst hF (pc := 1) (v := 0) (by decide) (fm_dec dtL_written 1 rfl) ?_
  refine z_aloadn hF (pc := 2) (n := 0) 0 rfl rfl (fm_dec dtL_written 2 rfl) ?_
  refine z_iloadn hF (pc := 3) (n := 1) 1 rfl rfl (fm_dec dtL_written 3 rfl) ?_
  refine z_callX hF (T := Tx) (g := g) (M := M) (rest := (o, .inl (G.2.2.1 1, 1, .inr (.inl f))) :: Rs) (k := 0) (ci := 10) (d' := 250) (pc := 4) (As := [.int p0]) (st := [.int 0, .ref o]) cvL_94 (by decide) rfl rfl rfl (Nat.le_of_ble_eq_true rfl) (by decide) (by decide) (by decide) (by decide) (fm_dec dtL_written 4 rfl) (fmGood.imp hx (fun o9 M' h => ?_))
  rcases o9 with v | E
  · rcases v with _ | v
    · exact False.elim h
    · cases v with
      | long v =>
        refine z_then1 ?_
        refine z_last hF (pc := 7) (w0 := fmL Tx (g, G.2) M') (w1 := Rs) (fm_dec dtL_written 5 rfl) ?_
        refine z_goto hF (pc := 8) 14 (by decide) (fm_dec dtL_written 6 rfl) ?_
        refine z_iconst hF (pc := 14) (v := 0) (by decide) (fm_dec dtL_written 10 rfl) ?_
        exact z_iret hF (pc := 15) (WW := WX G g o Rs) (M', vp_updL f 0 v) hr hlocks (by decide) (by decide) (fm_dec dtL_written 11 rfl) h
      | _ => exact False.elim h
  · obtain ⟨rfl, h⟩ := h
    refine z_catch hF (name := fmNSE) [] ⟨0, 8, 11, 31⟩ [] (by rw [htab]; rfl) (fun z hz => by cases hz) (by decide) (by decide) clL_31 hF.2.2.2.2.2.1.1.2.2.2.1.2.1 (fun q => ?_)
    refine z_astoren hF (pc := 11) (n := 3) 3 rfl (by decide) rfl (fm_dec dtL_written 7 rfl) ?_
    refine z_iconst hF (pc := 12) (v := 1) (by decide) (fm_dec dtL_written 8 rfl) ?_
    exact z_iret hF (pc := 13) (WW := WX G g o Rs) (M', f) hr hlocks (by decide) (by decide) (fm_dec dtL_written 9 rfl) h
abbrev dlL_ahead : List (Nat × Instr × Nat) := [(0, .aload_n 3, 1), (1, .iconst 0, 1), (2, .aload_n 0, 1), (3, .iload_n 1, 1), (4, .iload_n 2, 1), (5, .invokevirtual 97, 3), (8, .lastore, 1), (9, .goto 7, 3), (12, .astore 4, 2), (14, .iconst 1, 1), (15, .ireturn, 1), (16, .iconst 0, 1), (17, .ireturn, 1)]
theorem dtL_ahead : fmDec cL_ahead dlL_ahead = true := by decide +kernel
abbrev qL_ahead : fmY := (yL_ahead, cL_ahead, 5, some .int)
theorem nw_L_ahead : Cond.codeWith yL_ahead cL_ahead 5 (some .int) [(0, 9, 12, 13)] ∈ fmWs := (fm_in 1206 (by decide +kernel) rfl)
theorem nst_L_ahead : Cond.static yL_ahead ∈ fmWs := (fm_in 1205 (by decide +kernel) rfl)
theorem nd_L_ahead : yL_ahead.cls ≠ "java/lang/invoke/MethodHandle" ∧ yL_ahead.cls ≠ "java/lang/invoke/VarHandle" ∧ (parseMethodDescriptor yL_ahead.desc).map (fun d => d.parameters.length) = some 4 := by decide +kernel
set_option maxRecDepth 20000 in
theorem w_ahead {l : Launch} {G : fmG} {g : Nat → Nat} {M : fmM} {f : Nat → Int64} {o : Nat} {Rs : va_W} {Q : Int32 → fmM × (Nat → Int64) → Prop} {p0 p1 : Int32} (hst : l.stackTraces = false) (hp : pvGood Tx 250 qX10_ahead [.ref 0, .int p0, .int p1] M (wJ f Q (fun E M' => (E = fmIAE ∧ Q 1 (M', f))))) : zGood l G qL_ahead [(0, 9, 12, 13)] [.ref (g 0), .int p0, .int p1, .ref o] (WX G g o Rs (M, f)) (WX G g o Rs) Q := by
  have hx : fmGood Tx l (g, G.2) 250 qX10_ahead [.ref (g 0), .int p0, .int p1] M (wJ f Q (fun E M' => (E = fmIAE ∧ Q 1 (M', f)))) := fmGood.imp (pvGood.fm hst (by decide) (by decide +kernel) hp) (fun o9 M9 h9 => by obtain ⟨o', rfl, h8⟩ := h9; exact wJ_to h8)
  refine zGood_of (by decide +kernel) rfl (Nat.le_of_ble_eq_true rfl) ?_
  intro p e s m args below meth c A hF htab hr hlocks
  show zEv p l e (lwRm 300 1 6) s m args below meth c G A 5 _ 0 [some (.ref (g 0)), some (.int p0), some (.int p1), some (.ref o), none] [] (WX G g o Rs (M, f)) 0 0
  refine z_aloadn hF (pc := 0) (n := 3) 3 rfl rfl (fm_dec dtL_ahead 0 rfl) ?_
  refine z_iconst hF (pc := 1) (v := 0) (by decide) (fm_dec dtL_ahead 1 rfl) ?_
  refine z_aloadn hF (pc := 2) (n := 0) 0 rfl rfl (fm_dec dtL_ahead 2 rfl) ?_
  refine z_iloadn hF (pc := 3) (n := 1) 1 rfl rfl (fm_dec dtL_ahead 3 rfl) ?_
  refine z_iloadn hF (pc := 4) (n := 2) 2 rfl rfl (fm_dec dtL_ahead 4 rfl) ?_
  refine z_callX hF (T := Tx) (g := g) (M := M) (rest := (o, .inl (G.2.2.1 1, 1, .inr (.inl f))) :: Rs) (k := 0) (ci := 10) (d' := 250) (pc := 5) (As := [.int p0, .int p1]) (st := [.int 0, .ref o]) cvL_97 (by decide) rfl rfl rfl (Nat.le_of_ble_eq_true rfl) (by decide) (by decide) (by decide) (by decide) (fm_dec dtL_ahead 5 rfl) (fmGood.imp hx (fun o9 M' h => ?_))
  rcases o9 with v | E
  · rcases v with _ | v
    · exact False.elim h
    · cases v with
      | long v =>
        refine z_then1 ?_
        refine z_last hF (pc := 8) (w0 := fmL Tx (g, G.2) M') (w1 := Rs) (fm_dec dtL_ahead 6 rfl) ?_
        refine z_goto hF (pc := 9) 16 (by decide) (fm_dec dtL_ahead 7 rfl) ?_
        refine z_iconst hF (pc := 16) (v := 0) (by decide) (fm_dec dtL_ahead 11 rfl) ?_
        exact z_iret hF (pc := 17) (WW := WX G g o Rs) (M', vp_updL f 0 v) hr hlocks (by decide) (by decide) (fm_dec dtL_ahead 12 rfl) h
      | _ => exact False.elim h
  · obtain ⟨rfl, h⟩ := h
    refine z_catch hF (name := fmIAE) [] ⟨0, 9, 12, 13⟩ [] (by rw [htab]; rfl) (fun z hz => by cases hz) (by decide) (by decide) clL_13 hF.2.2.2.2.2.1.1.2.2.2.1.1 (fun q => ?_)
    refine z_astore hF (pc := 12) (i := 4) (by decide) rfl (fm_dec dtL_ahead 8 rfl) ?_
    refine z_iconst hF (pc := 14) (v := 1) (by decide) (fm_dec dtL_ahead 9 rfl) ?_
    exact z_iret hF (pc := 15) (WW := WX G g o Rs) (M', f) hr hlocks (by decide) (by decide) (fm_dec dtL_ahead 10 rfl) h
abbrev dlL_lives : List (Nat × Instr × Nat) := [(0, .aload 4, 2), (2, .iconst 0, 1), (3, .aload_n 0, 1), (4, .iload_n 1, 1), (5, .iload_n 2, 1), (6, .iload_n 3, 1), (7, .invokevirtual 100, 3), (10, .lastore, 1), (11, .goto 11, 3), (14, .astore 5, 2), (16, .iconst 1, 1), (17, .ireturn, 1), (18, .astore 5, 2), (20, .iconst 2, 1), (21, .ireturn, 1), (22, .iconst 0, 1), (23, .ireturn, 1)]
theorem dtL_lives : fmDec cL_lives dlL_lives = true := by decide +kernel
abbrev qL_lives : fmY := (yL_lives, cL_lives, 6, some .int)
theorem nw_L_lives : Cond.codeWith yL_lives cL_lives 6 (some .int) [(0, 11, 14, 31), (0, 11, 18, 13)] ∈ fmWs := (fm_in 1213 (by decide +kernel) rfl)
theorem nst_L_lives : Cond.static yL_lives ∈ fmWs := (fm_in 1212 (by decide +kernel) rfl)
theorem nd_L_lives : yL_lives.cls ≠ "java/lang/invoke/MethodHandle" ∧ yL_lives.cls ≠ "java/lang/invoke/VarHandle" ∧ (parseMethodDescriptor yL_lives.desc).map (fun d => d.parameters.length) = some 5 := by decide +kernel
set_option maxRecDepth 20000 in
theorem w_lives {l : Launch} {G : fmG} {g : Nat → Nat} {M : fmM} {f : Nat → Int64} {o : Nat} {Rs : va_W} {Q : Int32 → fmM × (Nat → Int64) → Prop} {p0 p1 p2 : Int32} (hst : l.stackTraces = false) (hp : pvGood Tx 250 qX10_lives [.ref 0, .int p0, .int p1, .int p2] M (wJ f Q (fun E M' => (E = fmNSE ∧ Q 1 (M', f)) ∨ (E = fmIAE ∧ Q 2 (M', f))))) : zGood l G qL_lives [(0, 11, 14, 31), (0, 11, 18, 13)] [.ref (g 0), .int p0, .int p1, .int p2, .ref o] (WX G g o Rs (M, f)) (WX G g o Rs) Q := by
  have hx : fmGood Tx l (g, G.2) 250 qX10_lives [.ref (g 0), .int p0, .int p1, .int p2] M (wJ f Q (fun E M' => (E = fmNSE ∧ Q 1 (M', f)) ∨ (E = fmIAE ∧ Q 2 (M', f)))) := fmGood.imp (pvGood.fm hst (by decide) (by decide +kernel) hp) (fun o9 M9 h9 => by obtain ⟨o', rfl, h8⟩ := h9; exact wJ_to h8)
  refine zGood_of (by decide +kernel) rfl (Nat.le_of_ble_eq_true rfl) ?_
  intro p e s m args below meth c A hF htab hr hlocks
  show zEv p l e (lwRm 300 1 6) s m args below meth c G A 6 _ 0 [some (.ref (g 0)), some (.int p0), some (.int p1), some (.int p2), some (.ref o), none] [] (WX G g o Rs (M, f)) 0 0
  refine z_aload hF (pc := 0) (i := 4) rfl (fm_dec dtL_lives 0 rfl) ?_
  refine z_iconst hF (pc := 2) (v := 0) (by decide) (fm_dec dtL_lives 1 rfl) ?_
  refine z_aloadn hF (pc := 3) (n := 0) 0 rfl rfl (fm_dec dtL_lives 2 rfl) ?_
  refine z_iloadn hF (pc := 4) (n := 1) 1 rfl rfl (fm_dec dtL_lives 3 rfl) ?_
  refine z_iloadn hF (pc := 5) (n := 2) 2 rfl rfl (fm_dec dtL_lives 4 rfl) ?_
  refine z_iloadn hF (pc := 6) (n := 3) 3 rfl rfl (fm_dec dtL_lives 5 rfl) ?_
  refine z_callX hF (T := Tx) (g := g) (M := M) (rest := (o, .inl (G.2.2.1 1, 1, .inr (.inl f))) :: Rs) (k := 0) (ci := 10) (d' := 250) (pc := 7) (As := [.int p0, .int p1, .int p2]) (st := [.int 0, .ref o]) cvL_100 (by decide) rfl rfl rfl (Nat.le_of_ble_eq_true rfl) (by decide) (by decide) (by decide) (by decide) (fm_dec dtL_lives 6 rfl) (fmGood.imp hx (fun o9 M' h => ?_))
  rcases o9 with v | E
  · rcases v with _ | v
    · exact False.elim h
    · cases v with
      | long v =>
        refine z_then1 ?_
        refine z_last hF (pc := 10) (w0 := fmL Tx (g, G.2) M') (w1 := Rs) (fm_dec dtL_lives 7 rfl) ?_
        refine z_goto hF (pc := 11) 22 (by decide) (fm_dec dtL_lives 8 rfl) ?_
        refine z_iconst hF (pc := 22) (v := 0) (by decide) (fm_dec dtL_lives 15 rfl) ?_
        exact z_iret hF (pc := 23) (WW := WX G g o Rs) (M', vp_updL f 0 v) hr hlocks (by decide) (by decide) (fm_dec dtL_lives 16 rfl) h
      | _ => exact False.elim h
  · rcases h with ⟨rfl, h⟩ | ⟨rfl, h⟩
    · refine z_catch hF (name := fmNSE) [] ⟨0, 11, 14, 31⟩ [⟨0, 11, 18, 13⟩] (by rw [htab]; rfl) (fun z hz => by cases hz) (by decide) (by decide) clL_31 hF.2.2.2.2.2.1.1.2.2.2.1.2.1 (fun q => ?_)
      refine z_astore hF (pc := 14) (i := 5) (by decide) rfl (fm_dec dtL_lives 9 rfl) ?_
      refine z_iconst hF (pc := 16) (v := 1) (by decide) (fm_dec dtL_lives 10 rfl) ?_
      exact z_iret hF (pc := 17) (WW := WX G g o Rs) (M', f) hr hlocks (by decide) (by decide) (fm_dec dtL_lives 11 rfl) h
    · refine z_catch hF (name := fmIAE) [⟨0, 11, 14, 31⟩] ⟨0, 11, 18, 13⟩ [] (by rw [htab]; rfl) (fun z hz => by rcases List.mem_cons.mp hz with rfl | hz; exact Or.inr ⟨by decide, _, clL_31, hF.2.2.2.2.2.1.1.2.2.2.1.2.2.1⟩; cases hz) (by decide) (by decide) clL_13 hF.2.2.2.2.2.1.1.2.2.2.1.1 (fun q => ?_)
      refine z_astore hF (pc := 18) (i := 5) (by decide) rfl (fm_dec dtL_lives 12 rfl) ?_
      refine z_iconst hF (pc := 20) (v := 2) (by decide) (fm_dec dtL_lives 13 rfl) ?_
      exact z_iret hF (pc := 21) (WW := WX G g o Rs) (M', f) hr hlocks (by decide) (by decide) (fm_dec dtL_lives 14 rfl) h
abbrev dlL_chain : List (Nat × Instr × Nat) := [(0, .aload_n 3, 1), (1, .iconst 0, 1), (2, .aload_n 0, 1), (3, .iload_n 1, 1), (4, .iload_n 2, 1), (5, .invokevirtual 104, 3), (8, .i2l, 1), (9, .lastore, 1), (10, .goto 11, 3), (13, .astore 4, 2), (15, .iconst 1, 1), (16, .ireturn, 1), (17, .astore 4, 2), (19, .iconst 2, 1), (20, .ireturn, 1), (21, .iconst 0, 1), (22, .ireturn, 1)]
theorem dtL_chain : fmDec cL_chain dlL_chain = true := by decide +kernel
abbrev qL_chain : fmY := (yL_chain, cL_chain, 5, some .int)
theorem nw_L_chain : Cond.codeWith yL_chain cL_chain 5 (some .int) [(0, 10, 13, 31), (0, 10, 17, 13)] ∈ fmWs := (fm_in 1220 (by decide +kernel) rfl)
theorem nst_L_chain : Cond.static yL_chain ∈ fmWs := (fm_in 1219 (by decide +kernel) rfl)
theorem nd_L_chain : yL_chain.cls ≠ "java/lang/invoke/MethodHandle" ∧ yL_chain.cls ≠ "java/lang/invoke/VarHandle" ∧ (parseMethodDescriptor yL_chain.desc).map (fun d => d.parameters.length) = some 4 := by decide +kernel
set_option maxRecDepth 20000 in
theorem w_chain {l : Launch} {G : fmG} {g : Nat → Nat} {M : fmM} {f : Nat → Int64} {o : Nat} {Rs : va_W} {Q : Int32 → fmM × (Nat → Int64) → Prop} {p0 p1 : Int32} (hst : l.stackTraces = false) (hp : pvGood Tx 250 qX10_chain [.ref 0, .int p0, .int p1] M (wI f Q (fun E M' => (E = fmNSE ∧ Q 1 (M', f)) ∨ (E = fmIAE ∧ Q 2 (M', f))))) : zGood l G qL_chain [(0, 10, 13, 31), (0, 10, 17, 13)] [.ref (g 0), .int p0, .int p1, .ref o] (WX G g o Rs (M, f)) (WX G g o Rs) Q := by
  have hx : fmGood Tx l (g, G.2) 250 qX10_chain [.ref (g 0), .int p0, .int p1] M (wI f Q (fun E M' => (E = fmNSE ∧ Q 1 (M', f)) ∨ (E = fmIAE ∧ Q 2 (M', f)))) := fmGood.imp (pvGood.fm hst (by decide) (by decide +kernel) hp) (fun o9 M9 h9 => by obtain ⟨o', rfl, h8⟩ := h9; exact wI_to h8)
  refine zGood_of (by decide +kernel) rfl (Nat.le_of_ble_eq_true rfl) ?_
  intro p e s m args below meth c A hF htab hr hlocks
  show zEv p l e (lwRm 300 1 6) s m args below meth c G A 5 _ 0 [some (.ref (g 0)), some (.int p0), some (.int p1), some (.ref o), none] [] (WX G g o Rs (M, f)) 0 0
  refine z_aloadn hF (pc := 0) (n := 3) 3 rfl rfl (fm_dec dtL_chain 0 rfl) ?_
  refine z_iconst hF (pc := 1) (v := 0) (by decide) (fm_dec dtL_chain 1 rfl) ?_
  refine z_aloadn hF (pc := 2) (n := 0) 0 rfl rfl (fm_dec dtL_chain 2 rfl) ?_
  refine z_iloadn hF (pc := 3) (n := 1) 1 rfl rfl (fm_dec dtL_chain 3 rfl) ?_
  refine z_iloadn hF (pc := 4) (n := 2) 2 rfl rfl (fm_dec dtL_chain 4 rfl) ?_
  refine z_callX hF (T := Tx) (g := g) (M := M) (rest := (o, .inl (G.2.2.1 1, 1, .inr (.inl f))) :: Rs) (k := 0) (ci := 10) (d' := 250) (pc := 5) (As := [.int p0, .int p1]) (st := [.int 0, .ref o]) cvL_104 (by decide) rfl rfl rfl (Nat.le_of_ble_eq_true rfl) (by decide) (by decide) (by decide) (by decide) (fm_dec dtL_chain 5 rfl) (fmGood.imp hx (fun o9 M' h => ?_))
  rcases o9 with v | E
  · rcases v with _ | v
    · exact False.elim h
    · cases v with
      | int v =>
        refine z_then1 ?_
        refine z_i2l hF (pc := 8) (fm_dec dtL_chain 6 rfl) ?_
        refine z_last hF (pc := 9) (w0 := fmL Tx (g, G.2) M') (w1 := Rs) (fm_dec dtL_chain 7 rfl) ?_
        refine z_goto hF (pc := 10) 21 (by decide) (fm_dec dtL_chain 8 rfl) ?_
        refine z_iconst hF (pc := 21) (v := 0) (by decide) (fm_dec dtL_chain 15 rfl) ?_
        exact z_iret hF (pc := 22) (WW := WX G g o Rs) (M', vp_updL f 0 v.toInt64) hr hlocks (by decide) (by decide) (fm_dec dtL_chain 16 rfl) h
      | _ => exact False.elim h
  · rcases h with ⟨rfl, h⟩ | ⟨rfl, h⟩
    · refine z_catch hF (name := fmNSE) [] ⟨0, 10, 13, 31⟩ [⟨0, 10, 17, 13⟩] (by rw [htab]; rfl) (fun z hz => by cases hz) (by decide) (by decide) clL_31 hF.2.2.2.2.2.1.1.2.2.2.1.2.1 (fun q => ?_)
      refine z_astore hF (pc := 13) (i := 4) (by decide) rfl (fm_dec dtL_chain 9 rfl) ?_
      refine z_iconst hF (pc := 15) (v := 1) (by decide) (fm_dec dtL_chain 10 rfl) ?_
      exact z_iret hF (pc := 16) (WW := WX G g o Rs) (M', f) hr hlocks (by decide) (by decide) (fm_dec dtL_chain 11 rfl) h
    · refine z_catch hF (name := fmIAE) [⟨0, 10, 13, 31⟩] ⟨0, 10, 17, 13⟩ [] (by rw [htab]; rfl) (fun z hz => by rcases List.mem_cons.mp hz with rfl | hz; exact Or.inr ⟨by decide, _, clL_31, hF.2.2.2.2.2.1.1.2.2.2.1.2.2.1⟩; cases hz) (by decide) (by decide) clL_13 hF.2.2.2.2.2.1.1.2.2.2.1.1 (fun q => ?_)
      refine z_astore hF (pc := 17) (i := 4) (by decide) rfl (fm_dec dtL_chain 12 rfl) ?_
      refine z_iconst hF (pc := 19) (v := 2) (by decide) (fm_dec dtL_chain 13 rfl) ?_
      exact z_iret hF (pc := 20) (WW := WX G g o Rs) (M', f) hr hlocks (by decide) (by decide) (fm_dec dtL_chain 14 rfl) h
abbrev dlL_due : List (Nat × Instr × Nat) := [(0, .aload_n 3, 1), (1, .iconst 0, 1), (2, .aload_n 0, 1), (3, .iload_n 1, 1), (4, .iload_n 2, 1), (5, .invokevirtual 107, 3), (8, .i2l, 1), (9, .lastore, 1), (10, .goto 11, 3), (13, .astore 4, 2), (15, .iconst 1, 1), (16, .ireturn, 1), (17, .astore 4, 2), (19, .iconst 2, 1), (20, .ireturn, 1), (21, .iconst 0, 1), (22, .ireturn, 1)]
theorem dtL_due : fmDec cL_due dlL_due = true := by decide +kernel
abbrev qL_due : fmY := (yL_due, cL_due, 5, some .int)
theorem nw_L_due : Cond.codeWith yL_due cL_due 5 (some .int) [(0, 10, 13, 31), (0, 10, 17, 13)] ∈ fmWs := (fm_in 1227 (by decide +kernel) rfl)
theorem nst_L_due : Cond.static yL_due ∈ fmWs := (fm_in 1226 (by decide +kernel) rfl)
theorem nd_L_due : yL_due.cls ≠ "java/lang/invoke/MethodHandle" ∧ yL_due.cls ≠ "java/lang/invoke/VarHandle" ∧ (parseMethodDescriptor yL_due.desc).map (fun d => d.parameters.length) = some 4 := by decide +kernel
set_option maxRecDepth 20000 in
theorem w_due {l : Launch} {G : fmG} {g : Nat → Nat} {M : fmM} {f : Nat → Int64} {o : Nat} {Rs : va_W} {Q : Int32 → fmM × (Nat → Int64) → Prop} {p0 p1 : Int32} (hst : l.stackTraces = false) (hp : pvGood Tx 250 qX10_due [.ref 0, .int p0, .int p1] M (wI f Q (fun E M' => (E = fmNSE ∧ Q 1 (M', f)) ∨ (E = fmIAE ∧ Q 2 (M', f))))) : zGood l G qL_due [(0, 10, 13, 31), (0, 10, 17, 13)] [.ref (g 0), .int p0, .int p1, .ref o] (WX G g o Rs (M, f)) (WX G g o Rs) Q := by
  have hx : fmGood Tx l (g, G.2) 250 qX10_due [.ref (g 0), .int p0, .int p1] M (wI f Q (fun E M' => (E = fmNSE ∧ Q 1 (M', f)) ∨ (E = fmIAE ∧ Q 2 (M', f)))) := fmGood.imp (pvGood.fm hst (by decide) (by decide +kernel) hp) (fun o9 M9 h9 => by obtain ⟨o', rfl, h8⟩ := h9; exact wI_to h8)
  refine zGood_of (by decide +kernel) rfl (Nat.le_of_ble_eq_true rfl) ?_
  intro p e s m args below meth c A hF htab hr hlocks
  show zEv p l e (lwRm 300 1 6) s m args below meth c G A 5 _ 0 [some (.ref (g 0)), some (.int p0), some (.int p1), some (.ref o), none] [] (WX G g o Rs (M, f)) 0 0
  refine z_aloadn hF (pc := 0) (n := 3) 3 rfl rfl (fm_dec dtL_due 0 rfl) ?_
  refine z_iconst hF (pc := 1) (v := 0) (by decide) (fm_dec dtL_due 1 rfl) ?_
  refine z_aloadn hF (pc := 2) (n := 0) 0 rfl rfl (fm_dec dtL_due 2 rfl) ?_
  refine z_iloadn hF (pc := 3) (n := 1) 1 rfl rfl (fm_dec dtL_due 3 rfl) ?_
  refine z_iloadn hF (pc := 4) (n := 2) 2 rfl rfl (fm_dec dtL_due 4 rfl) ?_
  refine z_callX hF (T := Tx) (g := g) (M := M) (rest := (o, .inl (G.2.2.1 1, 1, .inr (.inl f))) :: Rs) (k := 0) (ci := 10) (d' := 250) (pc := 5) (As := [.int p0, .int p1]) (st := [.int 0, .ref o]) cvL_107 (by decide) rfl rfl rfl (Nat.le_of_ble_eq_true rfl) (by decide) (by decide) (by decide) (by decide) (fm_dec dtL_due 5 rfl) (fmGood.imp hx (fun o9 M' h => ?_))
  rcases o9 with v | E
  · rcases v with _ | v
    · exact False.elim h
    · cases v with
      | int v =>
        refine z_then1 ?_
        refine z_i2l hF (pc := 8) (fm_dec dtL_due 6 rfl) ?_
        refine z_last hF (pc := 9) (w0 := fmL Tx (g, G.2) M') (w1 := Rs) (fm_dec dtL_due 7 rfl) ?_
        refine z_goto hF (pc := 10) 21 (by decide) (fm_dec dtL_due 8 rfl) ?_
        refine z_iconst hF (pc := 21) (v := 0) (by decide) (fm_dec dtL_due 15 rfl) ?_
        exact z_iret hF (pc := 22) (WW := WX G g o Rs) (M', vp_updL f 0 v.toInt64) hr hlocks (by decide) (by decide) (fm_dec dtL_due 16 rfl) h
      | _ => exact False.elim h
  · rcases h with ⟨rfl, h⟩ | ⟨rfl, h⟩
    · refine z_catch hF (name := fmNSE) [] ⟨0, 10, 13, 31⟩ [⟨0, 10, 17, 13⟩] (by rw [htab]; rfl) (fun z hz => by cases hz) (by decide) (by decide) clL_31 hF.2.2.2.2.2.1.1.2.2.2.1.2.1 (fun q => ?_)
      refine z_astore hF (pc := 13) (i := 4) (by decide) rfl (fm_dec dtL_due 9 rfl) ?_
      refine z_iconst hF (pc := 15) (v := 1) (by decide) (fm_dec dtL_due 10 rfl) ?_
      exact z_iret hF (pc := 16) (WW := WX G g o Rs) (M', f) hr hlocks (by decide) (by decide) (fm_dec dtL_due 11 rfl) h
    · refine z_catch hF (name := fmIAE) [⟨0, 10, 13, 31⟩] ⟨0, 10, 17, 13⟩ [] (by rw [htab]; rfl) (fun z hz => by rcases List.mem_cons.mp hz with rfl | hz; exact Or.inr ⟨by decide, _, clL_31, hF.2.2.2.2.2.1.1.2.2.2.1.2.2.1⟩; cases hz) (by decide) (by decide) clL_13 hF.2.2.2.2.2.1.1.2.2.2.1.1 (fun q => ?_)
      refine z_astore hF (pc := 17) (i := 4) (by decide) rfl (fm_dec dtL_due 12 rfl) ?_
      refine z_iconst hF (pc := 19) (v := 2) (by decide) (fm_dec dtL_due 13 rfl) ?_
      exact z_iret hF (pc := 20) (WW := WX G g o Rs) (M', f) hr hlocks (by decide) (by decide) (fm_dec dtL_due 14 rfl) h
abbrev dlL_news : List (Nat × Instr × Nat) := [(0, .aload_n 2, 1), (1, .iconst 0, 1), (2, .aload_n 0, 1), (3, .iload_n 1, 1), (4, .invokevirtual 110, 3), (7, .i2l, 1), (8, .lastore, 1), (9, .goto 6, 3), (12, .astore_n 3, 1), (13, .iconst 1, 1), (14, .ireturn, 1), (15, .iconst 0, 1), (16, .ireturn, 1)]
theorem dtL_news : fmDec cL_news dlL_news = true := by decide +kernel
abbrev qL_news : fmY := (yL_news, cL_news, 4, some .int)
theorem nw_L_news : Cond.codeWith yL_news cL_news 4 (some .int) [(0, 9, 12, 31)] ∈ fmWs := (fm_in 1234 (by decide +kernel) rfl)
theorem nst_L_news : Cond.static yL_news ∈ fmWs := (fm_in 1233 (by decide +kernel) rfl)
theorem nd_L_news : yL_news.cls ≠ "java/lang/invoke/MethodHandle" ∧ yL_news.cls ≠ "java/lang/invoke/VarHandle" ∧ (parseMethodDescriptor yL_news.desc).map (fun d => d.parameters.length) = some 3 := by decide +kernel
set_option maxRecDepth 20000 in
theorem w_news {l : Launch} {G : fmG} {g : Nat → Nat} {M : fmM} {f : Nat → Int64} {o : Nat} {Rs : va_W} {Q : Int32 → fmM × (Nat → Int64) → Prop} {p0 : Int32} (hst : l.stackTraces = false) (hp : pvGood Tx 250 qX10_news [.ref 0, .int p0] M (wI f Q (fun E M' => (E = fmNSE ∧ Q 1 (M', f))))) : zGood l G qL_news [(0, 9, 12, 31)] [.ref (g 0), .int p0, .ref o] (WX G g o Rs (M, f)) (WX G g o Rs) Q := by
  have hx : fmGood Tx l (g, G.2) 250 qX10_news [.ref (g 0), .int p0] M (wI f Q (fun E M' => (E = fmNSE ∧ Q 1 (M', f)))) := fmGood.imp (pvGood.fm hst (by decide) (by decide +kernel) hp) (fun o9 M9 h9 => by obtain ⟨o', rfl, h8⟩ := h9; exact wI_to h8)
  refine zGood_of (by decide +kernel) rfl (Nat.le_of_ble_eq_true rfl) ?_
  intro p e s m args below meth c A hF htab hr hlocks
  show zEv p l e (lwRm 300 1 6) s m args below meth c G A 4 _ 0 [some (.ref (g 0)), some (.int p0), some (.ref o), none] [] (WX G g o Rs (M, f)) 0 0
  refine z_aloadn hF (pc := 0) (n := 2) 2 rfl rfl (fm_dec dtL_news 0 rfl) ?_
  refine z_iconst hF (pc := 1) (v := 0) (by decide) (fm_dec dtL_news 1 rfl) ?_
  refine z_aloadn hF (pc := 2) (n := 0) 0 rfl rfl (fm_dec dtL_news 2 rfl) ?_
  refine z_iloadn hF (pc := 3) (n := 1) 1 rfl rfl (fm_dec dtL_news 3 rfl) ?_
  refine z_callX hF (T := Tx) (g := g) (M := M) (rest := (o, .inl (G.2.2.1 1, 1, .inr (.inl f))) :: Rs) (k := 0) (ci := 10) (d' := 250) (pc := 4) (As := [.int p0]) (st := [.int 0, .ref o]) cvL_110 (by decide) rfl rfl rfl (Nat.le_of_ble_eq_true rfl) (by decide) (by decide) (by decide) (by decide) (fm_dec dtL_news 4 rfl) (fmGood.imp hx (fun o9 M' h => ?_))
  rcases o9 with v | E
  · rcases v with _ | v
    · exact False.elim h
    · cases v with
      | int v =>
        refine z_then1 ?_
        refine z_i2l hF (pc := 7) (fm_dec dtL_news 5 rfl) ?_
        refine z_last hF (pc := 8) (w0 := fmL Tx (g, G.2) M') (w1 := Rs) (fm_dec dtL_news 6 rfl) ?_
        refine z_goto hF (pc := 9) 15 (by decide) (fm_dec dtL_news 7 rfl) ?_
        refine z_iconst hF (pc := 15) (v := 0) (by decide) (fm_dec dtL_news 11 rfl) ?_
        exact z_iret hF (pc := 16) (WW := WX G g o Rs) (M', vp_updL f 0 v.toInt64) hr hlocks (by decide) (by decide) (fm_dec dtL_news 12 rfl) h
      | _ => exact False.elim h
  · obtain ⟨rfl, h⟩ := h
    refine z_catch hF (name := fmNSE) [] ⟨0, 9, 12, 31⟩ [] (by rw [htab]; rfl) (fun z hz => by cases hz) (by decide) (by decide) clL_31 hF.2.2.2.2.2.1.1.2.2.2.1.2.1 (fun q => ?_)
    refine z_astoren hF (pc := 12) (n := 3) 3 rfl (by decide) rfl (fm_dec dtL_news 8 rfl) ?_
    refine z_iconst hF (pc := 13) (v := 1) (by decide) (fm_dec dtL_news 9 rfl) ?_
    exact z_iret hF (pc := 14) (WW := WX G g o Rs) (M', f) hr hlocks (by decide) (by decide) (fm_dec dtL_news 10 rfl) h
abbrev dlL_expects : List (Nat × Instr × Nat) := [(0, .aload 4, 2), (2, .iconst 0, 1), (3, .aload_n 0, 1), (4, .iload_n 1, 1), (5, .iload_n 2, 1), (6, .iload_n 3, 1), (7, .invokevirtual 113, 3), (10, .lastore, 1), (11, .goto 11, 3), (14, .astore 5, 2), (16, .iconst 1, 1), (17, .ireturn, 1), (18, .astore 5, 2), (20, .iconst 2, 1), (21, .ireturn, 1), (22, .iconst 0, 1), (23, .ireturn, 1)]
theorem dtL_expects : fmDec cL_expects dlL_expects = true := by decide +kernel
abbrev qL_expects : fmY := (yL_expects, cL_expects, 6, some .int)
theorem nw_L_expects : Cond.codeWith yL_expects cL_expects 6 (some .int) [(0, 11, 14, 31), (0, 11, 18, 13)] ∈ fmWs := (fm_in 1245 (by decide +kernel) rfl)
theorem nst_L_expects : Cond.static yL_expects ∈ fmWs := (fm_in 1244 (by decide +kernel) rfl)
theorem nd_L_expects : yL_expects.cls ≠ "java/lang/invoke/MethodHandle" ∧ yL_expects.cls ≠ "java/lang/invoke/VarHandle" ∧ (parseMethodDescriptor yL_expects.desc).map (fun d => d.parameters.length) = some 5 := by decide +kernel
set_option maxRecDepth 20000 in
theorem w_expects {l : Launch} {G : fmG} {g : Nat → Nat} {M : fmM} {f : Nat → Int64} {o : Nat} {Rs : va_W} {Q : Int32 → fmM × (Nat → Int64) → Prop} {p0 p1 p2 : Int32} (hst : l.stackTraces = false) (hp : pvGood Tx 250 qX10_expects [.ref 0, .int p0, .int p1, .int p2] M (wJ f Q (fun E M' => (E = fmNSE ∧ Q 1 (M', f)) ∨ (E = fmIAE ∧ Q 2 (M', f))))) : zGood l G qL_expects [(0, 11, 14, 31), (0, 11, 18, 13)] [.ref (g 0), .int p0, .int p1, .int p2, .ref o] (WX G g o Rs (M, f)) (WX G g o Rs) Q := by
  have hx : fmGood Tx l (g, G.2) 250 qX10_expects [.ref (g 0), .int p0, .int p1, .int p2] M (wJ f Q (fun E M' => (E = fmNSE ∧ Q 1 (M', f)) ∨ (E = fmIAE ∧ Q 2 (M', f)))) := fmGood.imp (pvGood.fm hst (by decide) (by decide +kernel) hp) (fun o9 M9 h9 => by obtain ⟨o', rfl, h8⟩ := h9; exact wJ_to h8)
  refine zGood_of (by decide +kernel) rfl (Nat.le_of_ble_eq_true rfl) ?_
  intro p e s m args below meth c A hF htab hr hlocks
  show zEv p l e (lwRm 300 1 6) s m args below meth c G A 6 _ 0 [some (.ref (g 0)), some (.int p0), some (.int p1), some (.int p2), some (.ref o), none] [] (WX G g o Rs (M, f)) 0 0
  refine z_aload hF (pc := 0) (i := 4) rfl (fm_dec dtL_expects 0 rfl) ?_
  refine z_iconst hF (pc := 2) (v := 0) (by decide) (fm_dec dtL_expects 1 rfl) ?_
  refine z_aloadn hF (pc := 3) (n := 0) 0 rfl rfl (fm_dec dtL_expects 2 rfl) ?_
  refine z_iloadn hF (pc := 4) (n := 1) 1 rfl rfl (fm_dec dtL_expects 3 rfl) ?_
  refine z_iloadn hF (pc := 5) (n := 2) 2 rfl rfl (fm_dec dtL_expects 4 rfl) ?_
  refine z_iloadn hF (pc := 6) (n := 3) 3 rfl rfl (fm_dec dtL_expects 5 rfl) ?_
  refine z_callX hF (T := Tx) (g := g) (M := M) (rest := (o, .inl (G.2.2.1 1, 1, .inr (.inl f))) :: Rs) (k := 0) (ci := 10) (d' := 250) (pc := 7) (As := [.int p0, .int p1, .int p2]) (st := [.int 0, .ref o]) cvL_113 (by decide) rfl rfl rfl (Nat.le_of_ble_eq_true rfl) (by decide) (by decide) (by decide) (by decide) (fm_dec dtL_expects 6 rfl) (fmGood.imp hx (fun o9 M' h => ?_))
  rcases o9 with v | E
  · rcases v with _ | v
    · exact False.elim h
    · cases v with
      | long v =>
        refine z_then1 ?_
        refine z_last hF (pc := 10) (w0 := fmL Tx (g, G.2) M') (w1 := Rs) (fm_dec dtL_expects 7 rfl) ?_
        refine z_goto hF (pc := 11) 22 (by decide) (fm_dec dtL_expects 8 rfl) ?_
        refine z_iconst hF (pc := 22) (v := 0) (by decide) (fm_dec dtL_expects 15 rfl) ?_
        exact z_iret hF (pc := 23) (WW := WX G g o Rs) (M', vp_updL f 0 v) hr hlocks (by decide) (by decide) (fm_dec dtL_expects 16 rfl) h
      | _ => exact False.elim h
  · rcases h with ⟨rfl, h⟩ | ⟨rfl, h⟩
    · refine z_catch hF (name := fmNSE) [] ⟨0, 11, 14, 31⟩ [⟨0, 11, 18, 13⟩] (by rw [htab]; rfl) (fun z hz => by cases hz) (by decide) (by decide) clL_31 hF.2.2.2.2.2.1.1.2.2.2.1.2.1 (fun q => ?_)
      refine z_astore hF (pc := 14) (i := 5) (by decide) rfl (fm_dec dtL_expects 9 rfl) ?_
      refine z_iconst hF (pc := 16) (v := 1) (by decide) (fm_dec dtL_expects 10 rfl) ?_
      exact z_iret hF (pc := 17) (WW := WX G g o Rs) (M', f) hr hlocks (by decide) (by decide) (fm_dec dtL_expects 11 rfl) h
    · refine z_catch hF (name := fmIAE) [⟨0, 11, 14, 31⟩] ⟨0, 11, 18, 13⟩ [] (by rw [htab]; rfl) (fun z hz => by rcases List.mem_cons.mp hz with rfl | hz; exact Or.inr ⟨by decide, _, clL_31, hF.2.2.2.2.2.1.1.2.2.2.1.2.2.1⟩; cases hz) (by decide) (by decide) clL_13 hF.2.2.2.2.2.1.1.2.2.2.1.1 (fun q => ?_)
      refine z_astore hF (pc := 18) (i := 5) (by decide) rfl (fm_dec dtL_expects 12 rfl) ?_
      refine z_iconst hF (pc := 20) (v := 2) (by decide) (fm_dec dtL_expects 13 rfl) ?_
      exact z_iret hF (pc := 21) (WW := WX G g o Rs) (M', f) hr hlocks (by decide) (by decide) (fm_dec dtL_expects 14 rfl) h
abbrev dlL_years : List (Nat × Instr × Nat) := [(0, .aload 4, 2), (2, .iconst 0, 1), (3, .aload_n 0, 1), (4, .iload_n 1, 1), (5, .iload_n 2, 1), (6, .iload_n 3, 1), (7, .invokevirtual 116, 3), (10, .i2l, 1), (11, .lastore, 1), (12, .goto 7, 3), (15, .astore 5, 2), (17, .iconst 1, 1), (18, .ireturn, 1), (19, .iconst 0, 1), (20, .ireturn, 1)]
theorem dtL_years : fmDec cL_years dlL_years = true := by decide +kernel
abbrev qL_years : fmY := (yL_years, cL_years, 6, some .int)
theorem nw_L_years : Cond.codeWith yL_years cL_years 6 (some .int) [(0, 12, 15, 13)] ∈ fmWs := (fm_in 1253 (by decide +kernel) rfl)
theorem nst_L_years : Cond.static yL_years ∈ fmWs := (fm_in 1252 (by decide +kernel) rfl)
theorem nd_L_years : yL_years.cls ≠ "java/lang/invoke/MethodHandle" ∧ yL_years.cls ≠ "java/lang/invoke/VarHandle" ∧ (parseMethodDescriptor yL_years.desc).map (fun d => d.parameters.length) = some 5 := by decide +kernel
set_option maxRecDepth 20000 in
theorem w_years {l : Launch} {G : fmG} {g : Nat → Nat} {M : fmM} {f : Nat → Int64} {o : Nat} {Rs : va_W} {Q : Int32 → fmM × (Nat → Int64) → Prop} {p0 p1 p2 : Int32} (hst : l.stackTraces = false) (hp : pvGood Tx 250 qX10_years [.ref 0, .int p0, .int p1, .int p2] M (wI f Q (fun E M' => (E = fmIAE ∧ Q 1 (M', f))))) : zGood l G qL_years [(0, 12, 15, 13)] [.ref (g 0), .int p0, .int p1, .int p2, .ref o] (WX G g o Rs (M, f)) (WX G g o Rs) Q := by
  have hx : fmGood Tx l (g, G.2) 250 qX10_years [.ref (g 0), .int p0, .int p1, .int p2] M (wI f Q (fun E M' => (E = fmIAE ∧ Q 1 (M', f)))) := fmGood.imp (pvGood.fm hst (by decide) (by decide +kernel) hp) (fun o9 M9 h9 => by obtain ⟨o', rfl, h8⟩ := h9; exact wI_to h8)
  refine zGood_of (by decide +kernel) rfl (Nat.le_of_ble_eq_true rfl) ?_
  intro p e s m args below meth c A hF htab hr hlocks
  show zEv p l e (lwRm 300 1 6) s m args below meth c G A 6 _ 0 [some (.ref (g 0)), some (.int p0), some (.int p1), some (.int p2), some (.ref o), none] [] (WX G g o Rs (M, f)) 0 0
  refine z_aload hF (pc := 0) (i := 4) rfl (fm_dec dtL_years 0 rfl) ?_
  refine z_iconst hF (pc := 2) (v := 0) (by decide) (fm_dec dtL_years 1 rfl) ?_
  refine z_aloadn hF (pc := 3) (n := 0) 0 rfl rfl (fm_dec dtL_years 2 rfl) ?_
  refine z_iloadn hF (pc := 4) (n := 1) 1 rfl rfl (fm_dec dtL_years 3 rfl) ?_
  refine z_iloadn hF (pc := 5) (n := 2) 2 rfl rfl (fm_dec dtL_years 4 rfl) ?_
  refine z_iloadn hF (pc := 6) (n := 3) 3 rfl rfl (fm_dec dtL_years 5 rfl) ?_
  refine z_callX hF (T := Tx) (g := g) (M := M) (rest := (o, .inl (G.2.2.1 1, 1, .inr (.inl f))) :: Rs) (k := 0) (ci := 10) (d' := 250) (pc := 7) (As := [.int p0, .int p1, .int p2]) (st := [.int 0, .ref o]) cvL_116 (by decide) rfl rfl rfl (Nat.le_of_ble_eq_true rfl) (by decide) (by decide) (by decide) (by decide) (fm_dec dtL_years 6 rfl) (fmGood.imp hx (fun o9 M' h => ?_))
  rcases o9 with v | E
  · rcases v with _ | v
    · exact False.elim h
    · cases v with
      | int v =>
        refine z_then1 ?_
        refine z_i2l hF (pc := 10) (fm_dec dtL_years 7 rfl) ?_
        refine z_last hF (pc := 11) (w0 := fmL Tx (g, G.2) M') (w1 := Rs) (fm_dec dtL_years 8 rfl) ?_
        refine z_goto hF (pc := 12) 19 (by decide) (fm_dec dtL_years 9 rfl) ?_
        refine z_iconst hF (pc := 19) (v := 0) (by decide) (fm_dec dtL_years 13 rfl) ?_
        exact z_iret hF (pc := 20) (WW := WX G g o Rs) (M', vp_updL f 0 v.toInt64) hr hlocks (by decide) (by decide) (fm_dec dtL_years 14 rfl) h
      | _ => exact False.elim h
  · obtain ⟨rfl, h⟩ := h
    refine z_catch hF (name := fmIAE) [] ⟨0, 12, 15, 13⟩ [] (by rw [htab]; rfl) (fun z hz => by cases hz) (by decide) (by decide) clL_13 hF.2.2.2.2.2.1.1.2.2.2.1.1 (fun q => ?_)
    refine z_astore hF (pc := 15) (i := 5) (by decide) rfl (fm_dec dtL_years 10 rfl) ?_
    refine z_iconst hF (pc := 17) (v := 1) (by decide) (fm_dec dtL_years 11 rfl) ?_
    exact z_iret hF (pc := 18) (WW := WX G g o Rs) (M', f) hr hlocks (by decide) (by decide) (fm_dec dtL_years 12 rfl) h
abbrev dlL_span : List (Nat × Instr × Nat) := [(0, .aload 6, 2), (2, .iconst 0, 1), (3, .aload_n 0, 1), (4, .iload_n 1, 1), (5, .iload_n 2, 1), (6, .iload_n 3, 1), (7, .iload 4, 2), (9, .iload 5, 2), (11, .invokevirtual 119, 3), (14, .i2l, 1), (15, .lastore, 1), (16, .goto 7, 3), (19, .astore 7, 2), (21, .iconst 1, 1), (22, .ireturn, 1), (23, .iconst 0, 1), (24, .ireturn, 1)]
theorem dtL_span : fmDec cL_span dlL_span = true := by decide +kernel
abbrev qL_span : fmY := (yL_span, cL_span, 8, some .int)
theorem nw_L_span : Cond.codeWith yL_span cL_span 8 (some .int) [(0, 16, 19, 13)] ∈ fmWs := (fm_in 1284 (by decide +kernel) rfl)
theorem nst_L_span : Cond.static yL_span ∈ fmWs := (fm_in 1283 (by decide +kernel) rfl)
theorem nd_L_span : yL_span.cls ≠ "java/lang/invoke/MethodHandle" ∧ yL_span.cls ≠ "java/lang/invoke/VarHandle" ∧ (parseMethodDescriptor yL_span.desc).map (fun d => d.parameters.length) = some 7 := by decide +kernel
set_option maxRecDepth 20000 in
theorem w_span {l : Launch} {G : fmG} {g : Nat → Nat} {M : fmM} {f : Nat → Int64} {o : Nat} {Rs : va_W} {Q : Int32 → fmM × (Nat → Int64) → Prop} {p0 p1 p2 p3 p4 : Int32} (hst : l.stackTraces = false) (hp : pvGood Tx 250 qX10_span [.ref 0, .int p0, .int p1, .int p2, .int p3, .int p4] M (wI f Q (fun E M' => (E = fmIAE ∧ Q 1 (M', f))))) : zGood l G qL_span [(0, 16, 19, 13)] [.ref (g 0), .int p0, .int p1, .int p2, .int p3, .int p4, .ref o] (WX G g o Rs (M, f)) (WX G g o Rs) Q := by
  have hx : fmGood Tx l (g, G.2) 250 qX10_span [.ref (g 0), .int p0, .int p1, .int p2, .int p3, .int p4] M (wI f Q (fun E M' => (E = fmIAE ∧ Q 1 (M', f)))) := fmGood.imp (pvGood.fm hst (by decide) (by decide +kernel) hp) (fun o9 M9 h9 => by obtain ⟨o', rfl, h8⟩ := h9; exact wI_to h8)
  refine zGood_of (by decide +kernel) rfl (Nat.le_of_ble_eq_true rfl) ?_
  intro p e s m args below meth c A hF htab hr hlocks
  show zEv p l e (lwRm 300 1 6) s m args below meth c G A 8 _ 0 [some (.ref (g 0)), some (.int p0), some (.int p1), some (.int p2), some (.int p3), some (.int p4), some (.ref o), none] [] (WX G g o Rs (M, f)) 0 0
  refine z_aload hF (pc := 0) (i := 6) rfl (fm_dec dtL_span 0 rfl) ?_
  refine z_iconst hF (pc := 2) (v := 0) (by decide) (fm_dec dtL_span 1 rfl) ?_
  refine z_aloadn hF (pc := 3) (n := 0) 0 rfl rfl (fm_dec dtL_span 2 rfl) ?_
  refine z_iloadn hF (pc := 4) (n := 1) 1 rfl rfl (fm_dec dtL_span 3 rfl) ?_
  refine z_iloadn hF (pc := 5) (n := 2) 2 rfl rfl (fm_dec dtL_span 4 rfl) ?_
  refine z_iloadn hF (pc := 6) (n := 3) 3 rfl rfl (fm_dec dtL_span 5 rfl) ?_
  refine z_iload hF (pc := 7) (i := 4) rfl (fm_dec dtL_span 6 rfl) ?_
  refine z_iload hF (pc := 9) (i := 5) rfl (fm_dec dtL_span 7 rfl) ?_
  refine z_callX hF (T := Tx) (g := g) (M := M) (rest := (o, .inl (G.2.2.1 1, 1, .inr (.inl f))) :: Rs) (k := 0) (ci := 10) (d' := 250) (pc := 11) (As := [.int p0, .int p1, .int p2, .int p3, .int p4]) (st := [.int 0, .ref o]) cvL_119 (by decide) rfl rfl rfl (Nat.le_of_ble_eq_true rfl) (by decide) (by decide) (by decide) (by decide) (fm_dec dtL_span 8 rfl) (fmGood.imp hx (fun o9 M' h => ?_))
  rcases o9 with v | E
  · rcases v with _ | v
    · exact False.elim h
    · cases v with
      | int v =>
        refine z_then1 ?_
        refine z_i2l hF (pc := 14) (fm_dec dtL_span 9 rfl) ?_
        refine z_last hF (pc := 15) (w0 := fmL Tx (g, G.2) M') (w1 := Rs) (fm_dec dtL_span 10 rfl) ?_
        refine z_goto hF (pc := 16) 23 (by decide) (fm_dec dtL_span 11 rfl) ?_
        refine z_iconst hF (pc := 23) (v := 0) (by decide) (fm_dec dtL_span 15 rfl) ?_
        exact z_iret hF (pc := 24) (WW := WX G g o Rs) (M', vp_updL f 0 v.toInt64) hr hlocks (by decide) (by decide) (fm_dec dtL_span 16 rfl) h
      | _ => exact False.elim h
  · obtain ⟨rfl, h⟩ := h
    refine z_catch hF (name := fmIAE) [] ⟨0, 16, 19, 13⟩ [] (by rw [htab]; rfl) (fun z hz => by cases hz) (by decide) (by decide) clL_13 hF.2.2.2.2.2.1.1.2.2.2.1.1 (fun q => ?_)
    refine z_astore hF (pc := 19) (i := 7) (by decide) rfl (fm_dec dtL_span 12 rfl) ?_
    refine z_iconst hF (pc := 21) (v := 1) (by decide) (fm_dec dtL_span 13 rfl) ?_
    exact z_iret hF (pc := 22) (WW := WX G g o Rs) (M', f) hr hlocks (by decide) (by decide) (fm_dec dtL_span 14 rfl) h
