/-- a static call of a method -/
def pvSq (own : String) (idx n : Nat) (y : fmY) : Prop := pvMm own idx = none ∧ pvCp own idx = false ∧ pvMl own idx = none ∧ ∃ i0 ci, pvCq own idx = some (i0, 1, ci, n, y)
theorem pv_iS1 {T : fmT} {d d' : Nat} {y y' : fmY} {pc idx : Nat} {L : List (Option Value)} {st : List Value} {M : fmM} {Q : fmR → fmM → Prop} {a0 : Value} (hc : pvSq y.1.cls idx 1 y') (hcat : pvCat st ≤ 8) (hd : d' + 1 ≤ d) (hdg : decode y.2.1 pc = .ok (.invokestatic idx, 3)) (hg : pvGood T d' y' [a0] M (pvThen T d y (pc + 3) L st Q)) : pvEv T d y pc L (a0 :: st) M Q := by
  obtain ⟨h1, h2, h3, i0, ci, h4⟩ := hc
  exact pv_invS1 h1 h2 h3 h4 hcat hd hdg hg
theorem pv_iS2 {T : fmT} {d d' : Nat} {y y' : fmY} {pc idx : Nat} {L : List (Option Value)} {st : List Value} {M : fmM} {Q : fmR → fmM → Prop} {a0 a1 : Value} (hc : pvSq y.1.cls idx 2 y') (hcat : pvCat st ≤ 8) (hd : d' + 1 ≤ d) (hdg : decode y.2.1 pc = .ok (.invokestatic idx, 3)) (hg : pvGood T d' y' [a0, a1] M (pvThen T d y (pc + 3) L st Q)) : pvEv T d y pc L (a1 :: a0 :: st) M Q := by
  obtain ⟨h1, h2, h3, i0, ci, h4⟩ := hc
  exact pv_invS2 h1 h2 h3 h4 hcat hd hdg hg
theorem pv_iS3 {T : fmT} {d d' : Nat} {y y' : fmY} {pc idx : Nat} {L : List (Option Value)} {st : List Value} {M : fmM} {Q : fmR → fmM → Prop} {a0 a1 a2 : Value} (hc : pvSq y.1.cls idx 3 y') (hcat : pvCat st ≤ 8) (hd : d' + 1 ≤ d) (hdg : decode y.2.1 pc = .ok (.invokestatic idx, 3)) (hg : pvGood T d' y' [a0, a1, a2] M (pvThen T d y (pc + 3) L st Q)) : pvEv T d y pc L (a2 :: a1 :: a0 :: st) M Q := by
  obtain ⟨h1, h2, h3, i0, ci, h4⟩ := hc
  exact pv_invS3 h1 h2 h3 h4 hcat hd hdg hg
theorem pv_iS4 {T : fmT} {d d' : Nat} {y y' : fmY} {pc idx : Nat} {L : List (Option Value)} {st : List Value} {M : fmM} {Q : fmR → fmM → Prop} {a0 a1 a2 a3 : Value} (hc : pvSq y.1.cls idx 4 y') (hcat : pvCat st ≤ 8) (hd : d' + 1 ≤ d) (hdg : decode y.2.1 pc = .ok (.invokestatic idx, 3)) (hg : pvGood T d' y' [a0, a1, a2, a3] M (pvThen T d y (pc + 3) L st Q)) : pvEv T d y pc L (a3 :: a2 :: a1 :: a0 :: st) M Q := by
  obtain ⟨h1, h2, h3, i0, ci, h4⟩ := hc
  exact pv_invS4 h1 h2 h3 h4 hcat hd hdg hg
theorem pv_iS5 {T : fmT} {d d' : Nat} {y y' : fmY} {pc idx : Nat} {L : List (Option Value)} {st : List Value} {M : fmM} {Q : fmR → fmM → Prop} {a0 a1 a2 a3 a4 : Value} (hc : pvSq y.1.cls idx 5 y') (hcat : pvCat st ≤ 8) (hd : d' + 1 ≤ d) (hdg : decode y.2.1 pc = .ok (.invokestatic idx, 3)) (hg : pvGood T d' y' [a0, a1, a2, a3, a4] M (pvThen T d y (pc + 3) L st Q)) : pvEv T d y pc L (a4 :: a3 :: a2 :: a1 :: a0 :: st) M Q := by
  obtain ⟨h1, h2, h3, i0, ci, h4⟩ := hc
  exact pv_invS5 h1 h2 h3 h4 hcat hd hdg hg
theorem pv_iS6 {T : fmT} {d d' : Nat} {y y' : fmY} {pc idx : Nat} {L : List (Option Value)} {st : List Value} {M : fmM} {Q : fmR → fmM → Prop} {a0 a1 a2 a3 a4 a5 : Value} (hc : pvSq y.1.cls idx 6 y') (hcat : pvCat st ≤ 8) (hd : d' + 1 ≤ d) (hdg : decode y.2.1 pc = .ok (.invokestatic idx, 3)) (hg : pvGood T d' y' [a0, a1, a2, a3, a4, a5] M (pvThen T d y (pc + 3) L st Q)) : pvEv T d y pc L (a5 :: a4 :: a3 :: a2 :: a1 :: a0 :: st) M Q := by
  obtain ⟨h1, h2, h3, i0, ci, h4⟩ := hc
  exact pv_invS6 h1 h2 h3 h4 hcat hd hdg hg
theorem pv_iS7 {T : fmT} {d d' : Nat} {y y' : fmY} {pc idx : Nat} {L : List (Option Value)} {st : List Value} {M : fmM} {Q : fmR → fmM → Prop} {a0 a1 a2 a3 a4 a5 a6 : Value} (hc : pvSq y.1.cls idx 7 y') (hcat : pvCat st ≤ 8) (hd : d' + 1 ≤ d) (hdg : decode y.2.1 pc = .ok (.invokestatic idx, 3)) (hg : pvGood T d' y' [a0, a1, a2, a3, a4, a5, a6] M (pvThen T d y (pc + 3) L st Q)) : pvEv T d y pc L (a6 :: a5 :: a4 :: a3 :: a2 :: a1 :: a0 :: st) M Q := by
  obtain ⟨h1, h2, h3, i0, ci, h4⟩ := hc
  exact pv_invS7 h1 h2 h3 h4 hcat hd hdg hg
theorem pfl_X10_12 : pvFd RX10 12 = some (12, 10, 0, 2, false) := by unfold pvFd; rw [pvK_10]; rfl
theorem pfl_X10_19 : pvFd RX10 19 = some (19, 10, 1, 2, false) := by unfold pvFd; rw [pvK_10]; rfl
theorem pfl_X10_23 : pvFd RX10 23 = some (23, 10, 2, 2, false) := by unfold pvFd; rw [pvK_10]; rfl
theorem pfl_X10_29 : pvFd RX10 29 = some (29, 10, 3, 2, false) := by unfold pvFd; rw [pvK_10]; rfl
theorem pfl_X10_36 : pvFd RX10 36 = some (36, 10, 4, 2, false) := by unfold pvFd; rw [pvK_10]; rfl
theorem pfl_X10_43 : pvFd RX10 43 = some (43, 10, 5, 2, false) := by unfold pvFd; rw [pvK_10]; rfl
theorem pfl_X10_52 : pvFd RX10 52 = some (52, 10, 6, 2, false) := by unfold pvFd; rw [pvK_10]; rfl
theorem pfl_X10_61 : pvFd RX10 61 = some (61, 10, 7, 2, false) := by unfold pvFd; rw [pvK_10]; rfl
theorem pfl_X10_68 : pvFd RX10 68 = some (68, 10, 8, 2, false) := by unfold pvFd; rw [pvK_10]; rfl
theorem pfl_X10_75 : pvFd RX10 75 = some (75, 10, 9, 2, false) := by unfold pvFd; rw [pvK_10]; rfl
theorem pfl_X10_79 : pvFd RX10 79 = some (79, 10, 10, 2, false) := by unfold pvFd; rw [pvK_10]; rfl
theorem pfl_X10_83 : pvFd RX10 83 = some (83, 10, 11, 2, false) := by unfold pvFd; rw [pvK_10]; rfl
theorem pfl_X10_87 : pvFd RX10 87 = some (87, 10, 12, 2, false) := by unfold pvFd; rw [pvK_10]; rfl
theorem pfl_X10_90 : pvFd RX10 90 = some (90, 5, 0, 2, false) := by unfold pvFd; rw [pvK_10]; rfl
theorem pfl_X10_100 : pvFd RX10 100 = some (100, 7, 1, 0, true) := by unfold pvFd; rw [pvK_10]; rfl
theorem pfl_X10_116 : pvFd RX10 116 = some (116, 7, 4, 0, true) := by unfold pvFd; rw [pvK_10]; rfl
theorem pfl_X10_126 : pvFd RX10 126 = some (126, 5, 2, 0, true) := by unfold pvFd; rw [pvK_10]; rfl
theorem pfl_X10_129 : pvFd RX10 129 = some (129, 10, 13, 0, true) := by unfold pvFd; rw [pvK_10]; rfl
theorem pfl_X10_132 : pvFd RX10 132 = some (132, 10, 14, 0, true) := by unfold pvFd; rw [pvK_10]; rfl
theorem pfl_X10_138 : pvFd RX10 138 = some (138, 8, 9, 0, true) := by unfold pvFd; rw [pvK_10]; rfl
theorem pfl_X10_148 : pvFd RX10 148 = some (148, 9, 3, 0, true) := by unfold pvFd; rw [pvK_10]; rfl
theorem pfl_X10_155 : pvFd RX10 155 = some (155, 9, 6, 0, true) := by unfold pvFd; rw [pvK_10]; rfl
theorem pfl_X10_158 : pvFd RX10 158 = some (158, 9, 5, 0, true) := by unfold pvFd; rw [pvK_10]; rfl
theorem pfl_X10_162 : pvFd RX10 162 = some (162, 2, 0, 0, true) := by unfold pvFd; rw [pvK_10]; rfl
theorem pfl_X10_163 : pvFd RX10 163 = some (163, 7, 5, 0, true) := by unfold pvFd; rw [pvK_10]; rfl
theorem pfl_X10_173 : pvFd RX10 173 = some (173, 6, 2, 0, true) := by unfold pvFd; rw [pvK_10]; rfl
theorem pfl_X10_176 : pvFd RX10 176 = some (176, 6, 3, 0, true) := by unfold pvFd; rw [pvK_10]; rfl
theorem pfl_X10_179 : pvFd RX10 179 = some (179, 6, 1, 0, true) := by unfold pvFd; rw [pvK_10]; rfl
theorem pfl_X10_191 : pvFd RX10 191 = some (191, 6, 4, 0, true) := by unfold pvFd; rw [pvK_10]; rfl
theorem pfl_X10_194 : pvFd RX10 194 = some (194, 6, 5, 0, true) := by unfold pvFd; rw [pvK_10]; rfl
theorem pfl_X10_204 : pvFd RX10 204 = some (204, 8, 1, 2, false) := by unfold pvFd; rw [pvK_10]; rfl
theorem pfl_X10_207 : pvFd RX10 207 = some (207, 8, 2, 2, false) := by unfold pvFd; rw [pvK_10]; rfl
theorem pfl_X10_210 : pvFd RX10 210 = some (210, 8, 3, 2, false) := by unfold pvFd; rw [pvK_10]; rfl
theorem pfl_X10_219 : pvFd RX10 219 = some (219, 6, 0, 2, false) := by unfold pvFd; rw [pvK_10]; rfl
theorem pfl_X10_222 : pvFd RX10 222 = some (222, 8, 5, 2, false) := by unfold pvFd; rw [pvK_10]; rfl
theorem pfl_X10_247 : pvFd RX10 247 = some (247, 6, 6, 1, true) := by unfold pvFd; rw [pvK_10]; rfl
theorem pfl_X10_346 : pvFd RX10 346 = some (346, 4, 0, 2, false) := by unfold pvFd; rw [pvK_10]; rfl
theorem pfl_X10_349 : pvFd RX10 349 = some (349, 4, 1, 0, true) := by unfold pvFd; rw [pvK_10]; rfl
theorem pfl_X10_363 : pvFd RX10 363 = some (363, 10, 15, 0, true) := by unfold pvFd; rw [pvK_10]; rfl
theorem pfl_X10_366 : pvFd RX10 366 = some (366, 10, 16, 0, true) := by unfold pvFd; rw [pvK_10]; rfl
theorem pfl_X0_9 : pvFd RX0 9 = some (9, 0, 2, 2, false) := by unfold pvFd; rw [pvK_0]; rfl
theorem pfl_X0_15 : pvFd RX0 15 = some (15, 0, 0, 2, false) := by unfold pvFd; rw [pvK_0]; rfl
theorem pfl_X0_19 : pvFd RX0 19 = some (19, 0, 1, 2, false) := by unfold pvFd; rw [pvK_0]; rfl
theorem pfl_X0_23 : pvFd RX0 23 = some (23, 8, 0, 2, false) := by unfold pvFd; rw [pvK_0]; rfl
theorem pfl_X0_29 : pvFd RX0 29 = some (29, 6, 2, 0, true) := by unfold pvFd; rw [pvK_0]; rfl
theorem pfl_X0_35 : pvFd RX0 35 = some (35, 8, 5, 2, false) := by unfold pvFd; rw [pvK_0]; rfl
theorem pfl_X0_50 : pvFd RX0 50 = some (50, 8, 2, 2, false) := by unfold pvFd; rw [pvK_0]; rfl
theorem pfl_X0_65 : pvFd RX0 65 = some (65, 8, 12, 0, true) := by unfold pvFd; rw [pvK_0]; rfl
theorem pfl_X0_68 : pvFd RX0 68 = some (68, 8, 13, 0, true) := by unfold pvFd; rw [pvK_0]; rfl
theorem pfl_X0_75 : pvFd RX0 75 = some (75, 8, 9, 0, true) := by unfold pvFd; rw [pvK_0]; rfl
theorem pfl_X0_78 : pvFd RX0 78 = some (78, 6, 0, 2, false) := by unfold pvFd; rw [pvK_0]; rfl
theorem pfl_X0_81 : pvFd RX0 81 = some (81, 8, 1, 2, false) := by unfold pvFd; rw [pvK_0]; rfl
theorem pfl_X0_88 : pvFd RX0 88 = some (88, 8, 3, 2, false) := by unfold pvFd; rw [pvK_0]; rfl
theorem pfl_X0_116 : pvFd RX0 116 = some (116, 6, 3, 0, true) := by unfold pvFd; rw [pvK_0]; rfl
theorem pfl_X0_118 : pvFd RX0 118 = some (118, 6, 6, 1, true) := by unfold pvFd; rw [pvK_0]; rfl
theorem pfl_X0_122 : pvFd RX0 122 = some (122, 6, 4, 0, true) := by unfold pvFd; rw [pvK_0]; rfl
theorem pfl_X0_128 : pvFd RX0 128 = some (128, 6, 5, 0, true) := by unfold pvFd; rw [pvK_0]; rfl
theorem pfl_X0_131 : pvFd RX0 131 = some (131, 6, 1, 0, true) := by unfold pvFd; rw [pvK_0]; rfl
theorem pfl_X0_134 : pvFd RX0 134 = some (134, 8, 11, 0, true) := by unfold pvFd; rw [pvK_0]; rfl
theorem pfl_X1_9 : pvFd RX1 9 = some (9, 1, 0, 2, false) := by unfold pvFd; rw [pvK_1]; rfl
theorem pfl_X1_15 : pvFd RX1 15 = some (15, 1, 1, 2, false) := by unfold pvFd; rw [pvK_1]; rfl
theorem pfl_X1_18 : pvFd RX1 18 = some (18, 1, 2, 2, false) := by unfold pvFd; rw [pvK_1]; rfl
theorem pfl_X1_24 : pvFd RX1 24 = some (24, 1, 3, 0, true) := by unfold pvFd; rw [pvK_1]; rfl
theorem pfl_X1_28 : pvFd RX1 28 = some (28, 1, 4, 0, true) := by unfold pvFd; rw [pvK_1]; rfl
theorem pfl_X1_41 : pvFd RX1 41 = some (41, 7, 3, 0, true) := by unfold pvFd; rw [pvK_1]; rfl
theorem pfl_X2_9 : pvFd RX2 9 = some (9, 2, 0, 0, true) := by unfold pvFd; rw [pvK_2]; rfl
theorem pfl_X2_15 : pvFd RX2 15 = some (15, 2, 1, 0, true) := by unfold pvFd; rw [pvK_2]; rfl
theorem pfl_X2_18 : pvFd RX2 18 = some (18, 2, 2, 0, true) := by unfold pvFd; rw [pvK_2]; rfl
theorem pfl_X3_11 : pvFd RX3 11 = some (11, 3, 1, 2, false) := by unfold pvFd; rw [pvK_3]; rfl
theorem pfl_X3_15 : pvFd RX3 15 = some (15, 3, 2, 2, false) := by unfold pvFd; rw [pvK_3]; rfl
theorem pfl_X3_18 : pvFd RX3 18 = some (18, 3, 3, 2, false) := by unfold pvFd; rw [pvK_3]; rfl
theorem pfl_X3_22 : pvFd RX3 22 = some (22, 3, 4, 2, false) := by unfold pvFd; rw [pvK_3]; rfl
theorem pfl_X3_25 : pvFd RX3 25 = some (25, 3, 0, 2, false) := by unfold pvFd; rw [pvK_3]; rfl
theorem pfl_X3_29 : pvFd RX3 29 = some (29, 3, 5, 0, true) := by unfold pvFd; rw [pvK_3]; rfl
theorem pfl_X3_33 : pvFd RX3 33 = some (33, 3, 6, 1, true) := by unfold pvFd; rw [pvK_3]; rfl
theorem pfl_X3_47 : pvFd RX3 47 = some (47, 6, 3, 0, true) := by unfold pvFd; rw [pvK_3]; rfl
theorem pfl_X3_52 : pvFd RX3 52 = some (52, 0, 0, 2, false) := by unfold pvFd; rw [pvK_3]; rfl
theorem pfl_X3_58 : pvFd RX3 58 = some (58, 8, 11, 0, true) := by unfold pvFd; rw [pvK_3]; rfl
theorem pfl_X3_72 : pvFd RX3 72 = some (72, 8, 9, 0, true) := by unfold pvFd; rw [pvK_3]; rfl
theorem pfl_X3_79 : pvFd RX3 79 = some (79, 8, 1, 2, false) := by unfold pvFd; rw [pvK_3]; rfl
theorem pfl_X3_94 : pvFd RX3 94 = some (94, 6, 0, 2, false) := by unfold pvFd; rw [pvK_3]; rfl
theorem pfl_X3_104 : pvFd RX3 104 = some (104, 8, 3, 2, false) := by unfold pvFd; rw [pvK_3]; rfl
theorem pfl_X4_12 : pvFd RX4 12 = some (12, 4, 0, 2, false) := by unfold pvFd; rw [pvK_4]; rfl
theorem pfl_X4_18 : pvFd RX4 18 = some (18, 4, 3, 2, false) := by unfold pvFd; rw [pvK_4]; rfl
theorem pfl_X4_22 : pvFd RX4 22 = some (22, 4, 2, 2, false) := by unfold pvFd; rw [pvK_4]; rfl
theorem pfl_X4_30 : pvFd RX4 30 = some (30, 6, 4, 0, true) := by unfold pvFd; rw [pvK_4]; rfl
theorem pfl_X4_34 : pvFd RX4 34 = some (34, 6, 5, 0, true) := by unfold pvFd; rw [pvK_4]; rfl
theorem pfl_X4_37 : pvFd RX4 37 = some (37, 6, 6, 1, true) := by unfold pvFd; rw [pvK_4]; rfl
theorem pfl_X4_41 : pvFd RX4 41 = some (41, 4, 1, 0, true) := by unfold pvFd; rw [pvK_4]; rfl
theorem pfl_X4_44 : pvFd RX4 44 = some (44, 4, 4, 0, true) := by unfold pvFd; rw [pvK_4]; rfl
theorem pfl_X4_60 : pvFd RX4 60 = some (60, 0, 0, 2, false) := by unfold pvFd; rw [pvK_4]; rfl
theorem pfl_X4_64 : pvFd RX4 64 = some (64, 8, 9, 0, true) := by unfold pvFd; rw [pvK_4]; rfl
theorem pfl_X4_77 : pvFd RX4 77 = some (77, 8, 1, 2, false) := by unfold pvFd; rw [pvK_4]; rfl
theorem pfl_X4_89 : pvFd RX4 89 = some (89, 6, 3, 0, true) := by unfold pvFd; rw [pvK_4]; rfl
theorem pfl_X5_12 : pvFd RX5 12 = some (12, 5, 0, 2, false) := by unfold pvFd; rw [pvK_5]; rfl
theorem pfl_X5_18 : pvFd RX5 18 = some (18, 5, 1, 2, false) := by unfold pvFd; rw [pvK_5]; rfl
theorem pfl_X5_22 : pvFd RX5 22 = some (22, 5, 2, 0, true) := by unfold pvFd; rw [pvK_5]; rfl
theorem pfl_X6_9 : pvFd RX6 9 = some (9, 6, 0, 2, false) := by unfold pvFd; rw [pvK_6]; rfl
theorem pfl_X6_15 : pvFd RX6 15 = some (15, 8, 4, 2, false) := by unfold pvFd; rw [pvK_6]; rfl
theorem pfl_X6_26 : pvFd RX6 26 = some (26, 6, 1, 0, true) := by unfold pvFd; rw [pvK_6]; rfl
theorem pfl_X6_30 : pvFd RX6 30 = some (30, 6, 2, 0, true) := by unfold pvFd; rw [pvK_6]; rfl
theorem pfl_X6_33 : pvFd RX6 33 = some (33, 8, 11, 0, true) := by unfold pvFd; rw [pvK_6]; rfl
theorem pfl_X6_36 : pvFd RX6 36 = some (36, 6, 3, 0, true) := by unfold pvFd; rw [pvK_6]; rfl
theorem pfl_X6_39 : pvFd RX6 39 = some (39, 6, 4, 0, true) := by unfold pvFd; rw [pvK_6]; rfl
theorem pfl_X6_42 : pvFd RX6 42 = some (42, 6, 5, 0, true) := by unfold pvFd; rw [pvK_6]; rfl
theorem pfl_X6_45 : pvFd RX6 45 = some (45, 6, 6, 1, true) := by unfold pvFd; rw [pvK_6]; rfl
theorem pfl_X7_9 : pvFd RX7 9 = some (9, 7, 0, 2, false) := by unfold pvFd; rw [pvK_7]; rfl
theorem pfl_X7_15 : pvFd RX7 15 = some (15, 7, 5, 0, true) := by unfold pvFd; rw [pvK_7]; rfl
theorem pfl_X7_19 : pvFd RX7 19 = some (19, 7, 1, 0, true) := by unfold pvFd; rw [pvK_7]; rfl
theorem pfl_X7_22 : pvFd RX7 22 = some (22, 7, 2, 0, true) := by unfold pvFd; rw [pvK_7]; rfl
theorem pfl_X7_25 : pvFd RX7 25 = some (25, 7, 3, 0, true) := by unfold pvFd; rw [pvK_7]; rfl
theorem pfl_X7_28 : pvFd RX7 28 = some (28, 7, 4, 0, true) := by unfold pvFd; rw [pvK_7]; rfl
theorem pfl_X8_9 : pvFd RX8 9 = some (9, 8, 0, 2, false) := by unfold pvFd; rw [pvK_8]; rfl
theorem pfl_X8_15 : pvFd RX8 15 = some (15, 8, 1, 2, false) := by unfold pvFd; rw [pvK_8]; rfl
theorem pfl_X8_18 : pvFd RX8 18 = some (18, 8, 2, 2, false) := by unfold pvFd; rw [pvK_8]; rfl
theorem pfl_X8_21 : pvFd RX8 21 = some (21, 8, 3, 2, false) := by unfold pvFd; rw [pvK_8]; rfl
theorem pfl_X8_24 : pvFd RX8 24 = some (24, 8, 4, 2, false) := by unfold pvFd; rw [pvK_8]; rfl
theorem pfl_X8_27 : pvFd RX8 27 = some (27, 8, 5, 2, false) := by unfold pvFd; rw [pvK_8]; rfl
theorem pfl_X8_30 : pvFd RX8 30 = some (30, 8, 6, 2, false) := by unfold pvFd; rw [pvK_8]; rfl
theorem pfl_X8_33 : pvFd RX8 33 = some (33, 8, 7, 2, false) := by unfold pvFd; rw [pvK_8]; rfl
theorem pfl_X8_36 : pvFd RX8 36 = some (36, 8, 8, 2, false) := by unfold pvFd; rw [pvK_8]; rfl
theorem pfl_X8_42 : pvFd RX8 42 = some (42, 8, 9, 0, true) := by unfold pvFd; rw [pvK_8]; rfl
theorem pfl_X8_46 : pvFd RX8 46 = some (46, 8, 10, 0, true) := by unfold pvFd; rw [pvK_8]; rfl
theorem pfl_X8_49 : pvFd RX8 49 = some (49, 8, 11, 0, true) := by unfold pvFd; rw [pvK_8]; rfl
theorem pfl_X8_52 : pvFd RX8 52 = some (52, 8, 12, 0, true) := by unfold pvFd; rw [pvK_8]; rfl
theorem pfl_X8_55 : pvFd RX8 55 = some (55, 8, 13, 0, true) := by unfold pvFd; rw [pvK_8]; rfl
theorem pfl_X8_58 : pvFd RX8 58 = some (58, 8, 14, 0, true) := by unfold pvFd; rw [pvK_8]; rfl
theorem pfl_X8_81 : pvFd RX8 81 = some (81, 7, 3, 0, true) := by unfold pvFd; rw [pvK_8]; rfl
theorem pfl_X9_9 : pvFd RX9 9 = some (9, 9, 0, 2, false) := by unfold pvFd; rw [pvK_9]; rfl
theorem pfl_X9_15 : pvFd RX9 15 = some (15, 9, 1, 2, false) := by unfold pvFd; rw [pvK_9]; rfl
theorem pfl_X9_18 : pvFd RX9 18 = some (18, 9, 2, 2, false) := by unfold pvFd; rw [pvK_9]; rfl
theorem pfl_X9_21 : pvFd RX9 21 = some (21, 9, 3, 0, true) := by unfold pvFd; rw [pvK_9]; rfl
theorem pfl_X9_25 : pvFd RX9 25 = some (25, 9, 4, 0, true) := by unfold pvFd; rw [pvK_9]; rfl
theorem pfl_X9_28 : pvFd RX9 28 = some (28, 9, 5, 0, true) := by unfold pvFd; rw [pvK_9]; rfl
theorem pfl_X9_31 : pvFd RX9 31 = some (31, 9, 6, 0, true) := by unfold pvFd; rw [pvK_9]; rfl
theorem pfl_X9_89 : pvFd RX9 89 = some (89, 6, 0, 2, false) := by unfold pvFd; rw [pvK_9]; rfl
theorem pfl_X11_9 : pvFd RX11 9 = some (9, 11, 3, 0, true) := by unfold pvFd; rw [pvK_11]; rfl
theorem pfl_X11_13 : pvFd RX11 13 = some (13, 11, 9, 2, false) := by unfold pvFd; rw [pvK_11]; rfl
theorem pfl_X11_17 : pvFd RX11 17 = some (17, 11, 10, 2, false) := by unfold pvFd; rw [pvK_11]; rfl
theorem pfl_X11_20 : pvFd RX11 20 = some (20, 11, 11, 2, false) := by unfold pvFd; rw [pvK_11]; rfl
theorem pfl_X11_23 : pvFd RX11 23 = some (23, 11, 12, 2, false) := by unfold pvFd; rw [pvK_11]; rfl
theorem pfl_X11_28 : pvFd RX11 28 = some (28, 11, 13, 2, false) := by unfold pvFd; rw [pvK_11]; rfl
theorem pfl_X11_31 : pvFd RX11 31 = some (31, 11, 14, 2, false) := by unfold pvFd; rw [pvK_11]; rfl
theorem pfl_X11_34 : pvFd RX11 34 = some (34, 11, 15, 2, false) := by unfold pvFd; rw [pvK_11]; rfl
theorem pfl_X11_37 : pvFd RX11 37 = some (37, 11, 16, 2, false) := by unfold pvFd; rw [pvK_11]; rfl
theorem pfl_X11_40 : pvFd RX11 40 = some (40, 11, 19, 2, false) := by unfold pvFd; rw [pvK_11]; rfl
theorem pfl_X11_43 : pvFd RX11 43 = some (43, 11, 20, 2, false) := by unfold pvFd; rw [pvK_11]; rfl
theorem pfl_X11_46 : pvFd RX11 46 = some (46, 11, 21, 2, false) := by unfold pvFd; rw [pvK_11]; rfl
theorem pfl_X11_49 : pvFd RX11 49 = some (49, 11, 22, 2, false) := by unfold pvFd; rw [pvK_11]; rfl
theorem pfl_X11_52 : pvFd RX11 52 = some (52, 11, 23, 2, false) := by unfold pvFd; rw [pvK_11]; rfl
theorem pfl_X11_55 : pvFd RX11 55 = some (55, 11, 24, 2, false) := by unfold pvFd; rw [pvK_11]; rfl
theorem pfl_X11_58 : pvFd RX11 58 = some (58, 11, 25, 2, false) := by unfold pvFd; rw [pvK_11]; rfl
theorem pfl_X11_61 : pvFd RX11 61 = some (61, 11, 27, 2, false) := by unfold pvFd; rw [pvK_11]; rfl
theorem pfl_X11_64 : pvFd RX11 64 = some (64, 11, 28, 2, false) := by unfold pvFd; rw [pvK_11]; rfl
theorem pfl_X11_67 : pvFd RX11 67 = some (67, 11, 29, 2, false) := by unfold pvFd; rw [pvK_11]; rfl
theorem pfl_X11_70 : pvFd RX11 70 = some (70, 11, 30, 2, false) := by unfold pvFd; rw [pvK_11]; rfl
theorem pfl_X11_73 : pvFd RX11 73 = some (73, 11, 38, 2, false) := by unfold pvFd; rw [pvK_11]; rfl
theorem pfl_X11_77 : pvFd RX11 77 = some (77, 11, 39, 2, false) := by unfold pvFd; rw [pvK_11]; rfl
theorem pfl_X11_80 : pvFd RX11 80 = some (80, 11, 40, 2, false) := by unfold pvFd; rw [pvK_11]; rfl
theorem pfl_X11_83 : pvFd RX11 83 = some (83, 11, 41, 2, false) := by unfold pvFd; rw [pvK_11]; rfl
theorem pfl_X11_86 : pvFd RX11 86 = some (86, 11, 42, 2, false) := by unfold pvFd; rw [pvK_11]; rfl
theorem pfl_X11_89 : pvFd RX11 89 = some (89, 11, 44, 2, false) := by unfold pvFd; rw [pvK_11]; rfl
theorem pfl_X11_92 : pvFd RX11 92 = some (92, 11, 45, 2, false) := by unfold pvFd; rw [pvK_11]; rfl
theorem pfl_X11_101 : pvFd RX11 101 = some (101, 11, 0, 0, true) := by unfold pvFd; rw [pvK_11]; rfl
theorem pfl_X11_104 : pvFd RX11 104 = some (104, 11, 1, 0, true) := by unfold pvFd; rw [pvK_11]; rfl
theorem pfl_X11_107 : pvFd RX11 107 = some (107, 11, 2, 0, true) := by unfold pvFd; rw [pvK_11]; rfl
theorem pfl_X11_110 : pvFd RX11 110 = some (110, 11, 4, 0, true) := by unfold pvFd; rw [pvK_11]; rfl
theorem pfl_X11_117 : pvFd RX11 117 = some (117, 11, 5, 0, true) := by unfold pvFd; rw [pvK_11]; rfl
theorem pfl_X11_120 : pvFd RX11 120 = some (120, 11, 6, 0, true) := by unfold pvFd; rw [pvK_11]; rfl
theorem pfl_X11_157 : pvFd RX11 157 = some (157, 11, 7, 0, true) := by unfold pvFd; rw [pvK_11]; rfl
theorem pfl_X11_160 : pvFd RX11 160 = some (160, 11, 8, 0, true) := by unfold pvFd; rw [pvK_11]; rfl
theorem pfl_X11_194 : pvFd RX11 194 = some (194, 11, 17, 0, true) := by unfold pvFd; rw [pvK_11]; rfl
theorem pfl_X11_197 : pvFd RX11 197 = some (197, 11, 31, 0, true) := by unfold pvFd; rw [pvK_11]; rfl
theorem pfl_X11_200 : pvFd RX11 200 = some (200, 11, 32, 0, true) := by unfold pvFd; rw [pvK_11]; rfl
theorem pfl_X11_203 : pvFd RX11 203 = some (203, 11, 33, 0, true) := by unfold pvFd; rw [pvK_11]; rfl
theorem pfl_X11_206 : pvFd RX11 206 = some (206, 11, 34, 0, true) := by unfold pvFd; rw [pvK_11]; rfl
theorem pfl_X11_209 : pvFd RX11 209 = some (209, 11, 18, 0, true) := by unfold pvFd; rw [pvK_11]; rfl
theorem pfl_X11_250 : pvFd RX11 250 = some (250, 11, 26, 0, true) := by unfold pvFd; rw [pvK_11]; rfl
theorem pfl_X11_310 : pvFd RX11 310 = some (310, 11, 36, 0, true) := by unfold pvFd; rw [pvK_11]; rfl
theorem pfl_X11_320 : pvFd RX11 320 = some (320, 11, 37, 0, true) := by unfold pvFd; rw [pvK_11]; rfl
theorem pfl_X11_361 : pvFd RX11 361 = some (361, 11, 43, 1, true) := by unfold pvFd; rw [pvK_11]; rfl
theorem pfl_X11_400 : pvFd RX11 400 = some (400, 11, 46, 0, true) := by unfold pvFd; rw [pvK_11]; rfl
theorem pfl_X11_426 : pvFd RX11 426 = some (426, 11, 47, 0, true) := by unfold pvFd; rw [pvK_11]; rfl
theorem pfl_X11_429 : pvFd RX11 429 = some (429, 11, 48, 0, true) := by unfold pvFd; rw [pvK_11]; rfl
theorem pfl_X11_436 : pvFd RX11 436 = some (436, 11, 35, 0, true) := by unfold pvFd; rw [pvK_11]; rfl
theorem pkc_X0_63 : pvKc RX0 63 = some (63, .inr 64) := by unfold pvKc; rw [pvK_0]; rfl
theorem pkc_X10_251 : pvKc RX10 251 = some (251, .inr 64) := by unfold pvKc; rw [pvK_10]; rfl
theorem pkc_X10_265 : pvKc RX10 265 = some (265, .inr 4096) := by unfold pvKc; rw [pvK_10]; rfl
theorem pkc_X10_281 : pvKc RX10 281 = some (281, .inr (-1)) := by unfold pvKc; rw [pvK_10]; rfl
theorem pkc_X10_393 : pvKc RX10 393 = some (393, .inl 65535) := by unfold pvKc; rw [pvK_10]; rfl
theorem pkc_X11_134 : pvKc RX11 134 = some (134, .inl 100000) := by unfold pvKc; rw [pvK_11]; rfl
theorem pkc_X11_343 : pvKc RX11 343 = some (343, .inr 64) := by unfold pvKc; rw [pvK_11]; rfl
theorem pkc_X11_353 : pvKc RX11 353 = some (353, .inr 4096) := by unfold pvKc; rw [pvK_11]; rfl
theorem pkc_X11_372 : pvKc RX11 372 = some (372, .inr (-1)) := by unfold pvKc; rw [pvK_11]; rfl
theorem pkc_X11_383 : pvKc RX11 383 = some (383, .inr 255) := by unfold pvKc; rw [pvK_11]; rfl
theorem pkc_X11_432 : pvKc RX11 432 = some (432, .inl 1103515245) := by unfold pvKc; rw [pvK_11]; rfl
theorem pkc_X4_59 : pvKc RX4 59 = some (59, .inl 1103515245) := by unfold pvKc; rw [pvK_4]; rfl
theorem pkc_X7_42 : pvKc RX7 42 = some (42, .inl 1000000) := by unfold pvKc; rw [pvK_7]; rfl
theorem pkn_X1_76 : pvKc RX1 76 = none := by unfold pvKc; rw [pvK_1]; rfl
theorem ptx_X1_76 : pvTx RX1 76 = some (76, 3) := by unfold pvTx; rw [pvK_1]; rfl
theorem pkn_X8_91 : pvKc RX8 91 = none := by unfold pvKc; rw [pvK_8]; rfl
theorem ptx_X8_91 : pvTx RX8 91 = some (91, 2) := by unfold pvTx; rw [pvK_8]; rfl
theorem pkn_X9_54 : pvKc RX9 54 = none := by unfold pvKc; rw [pvK_9]; rfl
theorem ptx_X9_54 : pvTx RX9 54 = some (54, 4) := by unfold pvTx; rw [pvK_9]; rfl
theorem pcv_X10_94 : pvCq RX10 94 = some (94, 0, 6, 1, qX6_begin) := by unfold pvCq; rw [pvK_10]; rfl
theorem pcv_X10_104 : pvCq RX10 104 = some (104, 0, 7, 1, qX7_put) := by unfold pvCq; rw [pvK_10]; rfl
theorem pcv_X10_108 : pvCq RX10 108 = some (108, 0, 10, 2, qX10_openText) := by unfold pvCq; rw [pvK_10]; rfl
theorem pcv_X10_112 : pvCq RX10 112 = some (112, 0, 8, 1, qX8_read) := by unfold pvCq; rw [pvK_10]; rfl
theorem pcv_X10_119 : pvCq RX10 119 = some (119, 0, 8, 1, qX8_copyFrom) := by unfold pvCq; rw [pvK_10]; rfl
theorem pcv_X10_122 : pvCq RX10 122 = some (122, 0, 1, 0, qX1_clear) := by unfold pvCq; rw [pvK_10]; rfl
theorem pcv_X10_125 : pvCq RX10 125 = some (125, 0, 2, 0, qX2_clear) := by unfold pvCq; rw [pvK_10]; rfl
theorem pcv_X10_135 : pvCq RX10 135 = some (135, 0, 3, 0, qX3_forget) := by unfold pvCq; rw [pvK_10]; rfl
theorem pcv_X10_141 : pvCq RX10 141 = some (141, 0, 1, 1, qX1_read) := by unfold pvCq; rw [pvK_10]; rfl
theorem pcv_X10_142 : pvCq RX10 142 = some (142, 0, 9, 2, qX9_read) := by unfold pvCq; rw [pvK_10]; rfl
theorem pcv_X10_145 : pvCq RX10 145 = some (145, 0, 5, 0, qX5_keep) := by unfold pvCq; rw [pvK_10]; rfl
theorem pcv_X10_151 : pvCq RX10 151 = some (151, 0, 9, 5, qX9_perform) := by unfold pvCq; rw [pvK_10]; rfl
theorem pcv_X10_161 : pvCq RX10 161 = some (161, 0, 2, 1, qX2_read) := by unfold pvCq; rw [pvK_10]; rfl
theorem pcv_X10_166 : pvCq RX10 166 = some (166, 0, 5, 0, qX5_goBack) := by unfold pvCq; rw [pvK_10]; rfl
theorem pcv_X10_169 : pvCq RX10 169 = some (169, 0, 10, 3, qX10_needWithin) := by unfold pvCq; rw [pvK_10]; rfl
theorem pcs_X10_182 : pvSq RX10 182 1 qJ6_bitCount_0f7a4 := by
  unfold pvSq pvMm pvCp pvMl pvCq
  rw [pvK_10]
  exact ⟨rfl, rfl, rfl, _, _, rfl⟩
theorem pcv_X10_188 : pvCq RX10 188 = some (188, 0, 6, 1, qX6_pieces) := by unfold pvCq; rw [pvK_10]; rfl
theorem pcv_X10_197 : pvCq RX10 197 = some (197, 0, 10, 1, qX10_needLife) := by unfold pvCq; rw [pvK_10]; rfl
theorem pcv_X10_200 : pvCq RX10 200 = some (200, 0, 0, 3, qX0_yearsWhen) := by unfold pvCq; rw [pvK_10]; rfl
theorem pcv_X10_212 : pvCq RX10 212 = some (212, 0, 8, 1, qX8_renewHours) := by unfold pvCq; rw [pvK_10]; rfl
theorem pcv_X10_215 : pvCq RX10 215 = some (215, 0, 6, 1, qX6_isAlive) := by unfold pvCq; rw [pvK_10]; rfl
theorem pcv_X10_225 : pvCq RX10 225 = some (225, 0, 8, 2, qX8_factBits) := by unfold pvCq; rw [pvK_10]; rfl
theorem pcv_X10_229 : pvCq RX10 229 = some (229, 0, 0, 4, qX0_wrongWhen) := by unfold pvCq; rw [pvK_10]; rfl
theorem pcv_X10_233 : pvCq RX10 233 = some (233, 0, 1, 5, qX1_outcome) := by unfold pvCq; rw [pvK_10]; rfl
theorem pcv_X10_237 : pvCq RX10 237 = some (237, 0, 0, 2, qX0_signerDead) := by unfold pvCq; rw [pvK_10]; rfl
theorem pcv_X10_241 : pvCq RX10 241 = some (241, 0, 10, 1, qX10_piecesWrongBy) := by unfold pvCq; rw [pvK_10]; rfl
theorem pcv_X10_244 : pvCq RX10 244 = some (244, 0, 10, 1, qX10_needPart) := by unfold pvCq; rw [pvK_10]; rfl
theorem pcs_X10_253 : pvSq RX10 253 3 qX10_termOf := by
  unfold pvSq pvMm pvCp pvMl pvCq
  rw [pvK_10]
  exact ⟨rfl, rfl, rfl, _, _, rfl⟩
theorem pcv_X10_257 : pvCq RX10 257 = some (257, 0, 0, 4, qX0_costWhen) := by unfold pvCq; rw [pvK_10]; rfl
theorem pcv_X10_261 : pvCq RX10 261 = some (261, 0, 0, 2, qX0_riskWhen) := by unfold pvCq; rw [pvK_10]; rfl
theorem pcv_X10_267 : pvCq RX10 267 = some (267, 0, 0, 2, qX0_hoursFor) := by unfold pvCq; rw [pvK_10]; rfl
theorem pcv_X10_270 : pvCq RX10 270 = some (270, 0, 0, 2, qX0_savedRisk) := by unfold pvCq; rw [pvK_10]; rfl
theorem pcv_X10_273 : pvCq RX10 273 = some (273, 0, 0, 1, qX0_firstOfAll) := by unfold pvCq; rw [pvK_10]; rfl
theorem pcv_X10_277 : pvCq RX10 277 = some (277, 0, 10, 0, qX10_aheadMost) := by unfold pvCq; rw [pvK_10]; rfl
theorem pcv_X10_283 : pvCq RX10 283 = some (283, 0, 8, 2, qX8_nextChange) := by unfold pvCq; rw [pvK_10]; rfl
theorem pcv_X10_286 : pvCq RX10 286 = some (286, 0, 0, 4, qX0_lossAhead) := by unfold pvCq; rw [pvK_10]; rfl
theorem pcv_X10_289 : pvCq RX10 289 = some (289, 0, 3, 2, qX3_prepare) := by unfold pvCq; rw [pvK_10]; rfl
theorem pcv_X10_293 : pvCq RX10 293 = some (293, 0, 3, 0, qX3_leastLoss) := by unfold pvCq; rw [pvK_10]; rfl
theorem pcv_X10_297 : pvCq RX10 297 = some (297, 0, 3, 1, qX3_writtenIn) := by unfold pvCq; rw [pvK_10]; rfl
theorem pcv_X10_300 : pvCq RX10 300 = some (300, 0, 0, 3, qX0_riskAtAge) := by unfold pvCq; rw [pvK_10]; rfl
theorem pcv_X10_304 : pvCq RX10 304 = some (304, 0, 10, 2, qX10_renewalPrice) := by unfold pvCq; rw [pvK_10]; rfl
theorem pcv_X10_308 : pvCq RX10 308 = some (308, 0, 10, 4, qX10_needRumour) := by unfold pvCq; rw [pvK_10]; rfl
theorem pcs_X10_312 : pvSq RX10 312 6 qX10_meanOf := by
  unfold pvSq pvMm pvCp pvMl pvCq
  rw [pvK_10]
  exact ⟨rfl, rfl, rfl, _, _, rfl⟩
theorem pcs_X10_316 : pvSq RX10 316 5 qX10_bestWay := by
  unfold pvSq pvMm pvCp pvMl pvCq
  rw [pvK_10]
  exact ⟨rfl, rfl, rfl, _, _, rfl⟩
theorem pcv_X10_319 : pvCq RX10 319 = some (319, 0, 10, 1, qX10_needBits) := by unfold pvCq; rw [pvK_10]; rfl
theorem pcv_X10_322 : pvCq RX10 322 = some (322, 0, 10, 2, qX10_fillRoom) := by unfold pvCq; rw [pvK_10]; rfl
theorem pcs_X10_325 : pvSq RX10 325 1 qX10_roomWorth := by
  unfold pvSq pvMm pvCp pvMl pvCq
  rw [pvK_10]
  exact ⟨rfl, rfl, rfl, _, _, rfl⟩
theorem pcs_X10_328 : pvSq RX10 328 1 qX10_roomShift := by
  unfold pvSq pvMm pvCp pvMl pvCq
  rw [pvK_10]
  exact ⟨rfl, rfl, rfl, _, _, rfl⟩
theorem pcv_X10_331 : pvCq RX10 331 = some (331, 0, 10, 0, qX10_look) := by unfold pvCq; rw [pvK_10]; rfl
theorem pcv_X10_334 : pvCq RX10 334 = some (334, 0, 10, 2, qX10_tellsApart) := by unfold pvCq; rw [pvK_10]; rfl
theorem pcv_X10_338 : pvCq RX10 338 = some (338, 0, 10, 1, qX10_weeksAsPage) := by unfold pvCq; rw [pvK_10]; rfl
theorem pcv_X10_342 : pvCq RX10 342 = some (342, 0, 4, 3, qX4_play) := by unfold pvCq; rw [pvK_10]; rfl
theorem pmm_X10_352 : pvMm RX10 352 = some (352, false) := by unfold pvMm; rw [pvK_10]; rfl
theorem pmm_X10_357 : pvMm RX10 357 = some (357, true) := by unfold pvMm; rw [pvK_10]; rfl
theorem pcv_X10_360 : pvCq RX10 360 = some (360, 0, 5, 1, qX5_copyFrom) := by unfold pvCq; rw [pvK_10]; rfl
theorem pcv_X10_381 : pvCq RX10 381 = some (381, 0, 7, 1, qX7_open) := by unfold pvCq; rw [pvK_10]; rfl
theorem pcs_X10_384 : pvSq RX10 384 2 qJ7_fill_53178 := by
  unfold pvSq pvMm pvCp pvMl pvCq
  rw [pvK_10]
  exact ⟨rfl, rfl, rfl, _, _, rfl⟩
theorem pcv_X10_390 : pvCq RX10 390 = some (390, 0, 10, 2, qX10_addToRoom) := by unfold pvCq; rw [pvK_10]; rfl
theorem pcv_X10_394 : pvCq RX10 394 = some (394, 0, 2, 1, qX2_fits) := by unfold pvCq; rw [pvK_10]; rfl
theorem pcv_X0_38 : pvCq RX0 38 = some (38, 0, 6, 1, qX6_isAlive) := by unfold pvCq; rw [pvK_0]; rfl
theorem pcv_X0_42 : pvCq RX0 42 = some (42, 0, 8, 3, qX8_changesBetween) := by unfold pvCq; rw [pvK_0]; rfl
theorem pcv_X0_46 : pvCq RX0 46 = some (46, 0, 0, 3, qX0_yearsWhen) := by unfold pvCq; rw [pvK_0]; rfl
theorem pcv_X0_53 : pvCq RX0 53 = some (53, 0, 0, 2, qX0_signerDead) := by unfold pvCq; rw [pvK_0]; rfl
theorem pcv_X0_57 : pvCq RX0 57 = some (57, 0, 1, 5, qX1_outcome) := by unfold pvCq; rw [pvK_0]; rfl
theorem pcv_X0_71 : pvCq RX0 71 = some (71, 0, 0, 4, qX0_wrongWhen) := by unfold pvCq; rw [pvK_0]; rfl
theorem pcv_X0_84 : pvCq RX0 84 = some (84, 0, 0, 4, qX0_costWhen) := by unfold pvCq; rw [pvK_0]; rfl
theorem pcv_X0_91 : pvCq RX0 91 = some (91, 0, 8, 1, qX8_renewHours) := by unfold pvCq; rw [pvK_0]; rfl
theorem pcv_X0_95 : pvCq RX0 95 = some (95, 0, 0, 2, qX0_canBePut) := by unfold pvCq; rw [pvK_0]; rfl
theorem pln_X0_99 : pvMm RX0 99 = none := by unfold pvMm; rw [pvK_0]; rfl
theorem plc_X0_99 : pvCp RX0 99 = false := by unfold pvCp; rw [pvK_0]; rfl
theorem pml_X0_99 : pvMl RX0 99 = some (99, true) := by unfold pvMl; rw [pvK_0]; rfl
theorem pcv_X0_105 : pvCq RX0 105 = some (105, 0, 0, 2, qX0_savedRisk) := by unfold pvCq; rw [pvK_0]; rfl
theorem pcv_X0_109 : pvCq RX0 109 = some (109, 0, 0, 3, qX0_firstOf) := by unfold pvCq; rw [pvK_0]; rfl
theorem pcv_X0_113 : pvCq RX0 113 = some (113, 0, 0, 2, qX0_hoursFor) := by unfold pvCq; rw [pvK_0]; rfl
theorem pmm_X0_125 : pvMm RX0 125 = some (125, true) := by unfold pvMm; rw [pvK_0]; rfl
theorem pcv_X1_21 : pvCq RX1 21 = some (21, 0, 1, 0, qX1_clear) := by unfold pvCq; rw [pvK_1]; rfl
theorem pcv_X1_31 : pvCq RX1 31 = some (31, 0, 1, 2, qX1_readSum) := by unfold pvCq; rw [pvK_1]; rfl
theorem pcv_X1_35 : pvCq RX1 35 = some (35, 0, 7, 0, qX7_peek) := by unfold pvCq; rw [pvK_1]; rfl
theorem pcv_X1_44 : pvCq RX1 44 = some (44, 0, 7, 2, qX7_fail) := by unfold pvCq; rw [pvK_1]; rfl
theorem pcm_X1_48 : pvMm RX1 48 = none := by unfold pvMm; rw [pvK_1]; rfl
theorem pcc_X1_48 : pvCp RX1 48 = true := by unfold pvCp; rw [pvK_1]; rfl
theorem pcv_X1_54 : pvCq RX1 54 = some (54, 0, 1, 2, qX1_readProduct) := by unfold pvCq; rw [pvK_1]; rfl
theorem pcv_X1_57 : pvCq RX1 57 = some (57, 0, 1, 1, qX1_emit) := by unfold pvCq; rw [pvK_1]; rfl
theorem pcv_X1_61 : pvCq RX1 61 = some (61, 0, 1, 2, qX1_readUnit) := by unfold pvCq; rw [pvK_1]; rfl
theorem pcv_X1_64 : pvCq RX1 64 = some (64, 0, 7, 1, qX7_takeSign) := by unfold pvCq; rw [pvK_1]; rfl
theorem pcv_X1_68 : pvCq RX1 68 = some (68, 0, 7, 2, qX7_takeNumber) := by unfold pvCq; rw [pvK_1]; rfl
theorem pcv_X1_72 : pvCq RX1 72 = some (72, 0, 7, 0, qX7_failed) := by unfold pvCq; rw [pvK_1]; rfl
theorem pcv_X1_78 : pvCq RX1 78 = some (78, 0, 7, 1, qX7_takeWord) := by unfold pvCq; rw [pvK_1]; rfl
theorem pcv_X1_82 : pvCq RX1 82 = some (82, 0, 1, 2, qX1_readTwo) := by unfold pvCq; rw [pvK_1]; rfl
theorem pcs_X1_85 : pvSq RX1 85 3 qX1_joined := by
  unfold pvSq pvMm pvCp pvMl pvCq
  rw [pvK_1]
  exact ⟨rfl, rfl, rfl, _, _, rfl⟩
theorem pmm_X1_89 : pvMm RX1 89 = some (89, false) := by unfold pvMm; rw [pvK_1]; rfl
theorem pmm_X1_94 : pvMm RX1 94 = some (94, true) := by unfold pvMm; rw [pvK_1]; rfl
theorem pcv_X2_21 : pvCq RX2 21 = some (21, 0, 7, 0, qX7_peek) := by unfold pvCq; rw [pvK_2]; rfl
theorem pcv_X2_27 : pvCq RX2 27 = some (27, 0, 7, 0, qX7_nextPlace) := by unfold pvCq; rw [pvK_2]; rfl
theorem pcv_X2_30 : pvCq RX2 30 = some (30, 0, 7, 2, qX7_takeNumber) := by unfold pvCq; rw [pvK_2]; rfl
theorem pcv_X2_34 : pvCq RX2 34 = some (34, 0, 7, 2, qX7_fail) := by unfold pvCq; rw [pvK_2]; rfl
theorem pcv_X2_38 : pvCq RX2 38 = some (38, 0, 7, 1, qX7_takeSign) := by unfold pvCq; rw [pvK_2]; rfl
theorem pcv_X2_42 : pvCq RX2 42 = some (42, 0, 7, 0, qX7_failed) := by unfold pvCq; rw [pvK_2]; rfl
theorem pcs_X2_46 : pvSq RX2 46 1 qJ6_bitCount_0f7a4 := by
  unfold pvSq pvMm pvCp pvMl pvCq
  rw [pvK_2]
  exact ⟨rfl, rfl, rfl, _, _, rfl⟩
theorem pcs_X3_37 : pvSq RX3 37 1 qX3_keyShift := by
  unfold pvSq pvMm pvCp pvMl pvCq
  rw [pvK_3]
  exact ⟨rfl, rfl, rfl, _, _, rfl⟩
theorem pcs_X3_41 : pvSq RX3 41 2 qJ7_fill_d0a16 := by
  unfold pvSq pvMm pvCp pvMl pvCq
  rw [pvK_3]
  exact ⟨rfl, rfl, rfl, _, _, rfl⟩
theorem pmm_X3_63 : pvMm RX3 63 = some (63, false) := by unfold pvMm; rw [pvK_3]; rfl
theorem pmm_X3_69 : pvMm RX3 69 = some (69, true) := by unfold pvMm; rw [pvK_3]; rfl
theorem pcv_X3_75 : pvCq RX3 75 = some (75, 0, 6, 1, qX6_isAlive) := by unfold pvCq; rw [pvK_3]; rfl
theorem pcv_X3_82 : pvCq RX3 82 = some (82, 0, 3, 3, qX3_weighWays) := by unfold pvCq; rw [pvK_3]; rfl
theorem pcv_X3_86 : pvCq RX3 86 = some (86, 0, 3, 1, qX3_addLife) := by unfold pvCq; rw [pvK_3]; rfl
theorem pcs_X3_90 : pvSq RX3 90 3 qX3_cellOf := by
  unfold pvSq pvMm pvCp pvMl pvCq
  rw [pvK_3]
  exact ⟨rfl, rfl, rfl, _, _, rfl⟩
theorem pcv_X3_97 : pvCq RX3 97 = some (97, 0, 3, 2, qX3_hoursAtAge) := by unfold pvCq; rw [pvK_3]; rfl
theorem pcv_X3_100 : pvCq RX3 100 = some (100, 0, 0, 4, qX0_lossAhead) := by unfold pvCq; rw [pvK_3]; rfl
theorem pcv_X3_106 : pvCq RX3 106 = some (106, 0, 8, 1, qX8_renewHours) := by unfold pvCq; rw [pvK_3]; rfl
theorem pcv_X3_109 : pvCq RX3 109 = some (109, 0, 3, 4, qX3_leastOf) := by unfold pvCq; rw [pvK_3]; rfl
theorem pln_X3_113 : pvMm RX3 113 = none := by unfold pvMm; rw [pvK_3]; rfl
theorem plc_X3_113 : pvCp RX3 113 = false := by unfold pvCp; rw [pvK_3]; rfl
theorem pml_X3_113 : pvMl RX3 113 = some (113, false) := by unfold pvMl; rw [pvK_3]; rfl
theorem pcv_X4_26 : pvCq RX4 26 = some (26, 0, 6, 1, qX6_copyFrom) := by unfold pvCq; rw [pvK_4]; rfl
theorem pcv_X4_47 : pvCq RX4 47 = some (47, 0, 4, 0, qX4_drawDeaths) := by unfold pvCq; rw [pvK_4]; rfl
theorem pcv_X4_50 : pvCq RX4 50 = some (50, 0, 4, 0, qX4_putFirsts) := by unfold pvCq; rw [pvK_4]; rfl
theorem pcv_X4_53 : pvCq RX4 53 = some (53, 0, 0, 1, qX0_passWeek) := by unfold pvCq; rw [pvK_4]; rfl
theorem pcv_X4_69 : pvCq RX4 69 = some (69, 0, 6, 1, qX6_isAlive) := by unfold pvCq; rw [pvK_4]; rfl
theorem pcv_X4_73 : pvCq RX4 73 = some (73, 0, 4, 0, qX4_drawOf64) := by unfold pvCq; rw [pvK_4]; rfl
theorem pcv_X4_81 : pvCq RX4 81 = some (81, 0, 0, 2, qX0_letDie) := by unfold pvCq; rw [pvK_4]; rfl
theorem pcv_X4_85 : pvCq RX4 85 = some (85, 0, 0, 2, qX0_savedRisk) := by unfold pvCq; rw [pvK_4]; rfl
theorem pcv_X4_92 : pvCq RX4 92 = some (92, 0, 0, 3, qX0_firstOf) := by unfold pvCq; rw [pvK_4]; rfl
theorem pcv_X4_96 : pvCq RX4 96 = some (96, 0, 0, 2, qX0_putPiece) := by unfold pvCq; rw [pvK_4]; rfl
theorem pcv_X5_26 : pvCq RX5 26 = some (26, 0, 6, 1, qX6_copyFrom) := by unfold pvCq; rw [pvK_5]; rfl
theorem pcm_X6_20 : pvMm RX6 20 = none := by unfold pvMm; rw [pvK_6]; rfl
theorem pcc_X6_20 : pvCp RX6 20 = true := by unfold pvCp; rw [pvK_6]; rfl
theorem pcv_X7_31 : pvCq RX7 31 = some (31, 0, 7, 0, qX7_peek) := by unfold pvCq; rw [pvK_7]; rfl
theorem pcv_X7_35 : pvCq RX7 35 = some (35, 0, 7, 2, qX7_fail) := by unfold pvCq; rw [pvK_7]; rfl
theorem pcv_X7_39 : pvCq RX7 39 = some (39, 0, 7, 0, qX7_nextPlace) := by unfold pvCq; rw [pvK_7]; rfl
theorem pmm_X7_43 : pvMm RX7 43 = some (43, false) := by unfold pvMm; rw [pvK_7]; rfl
theorem pcv_X7_49 : pvCq RX7 49 = some (49, 0, 7, 3, qX7_find) := by unfold pvCq; rw [pvK_7]; rfl
theorem pcv_X8_39 : pvCq RX8 39 = some (39, 0, 8, 0, qX8_clear) := by unfold pvCq; rw [pvK_8]; rfl
theorem pcm_X8_61 : pvMm RX8 61 = none := by unfold pvMm; rw [pvK_8]; rfl
theorem pcc_X8_61 : pvCp RX8 61 = true := by unfold pvCp; rw [pvK_8]; rfl
theorem pcv_X8_67 : pvCq RX8 67 = some (67, 0, 7, 0, qX7_peek) := by unfold pvCq; rw [pvK_8]; rfl
theorem pcv_X8_73 : pvCq RX8 73 = some (73, 0, 8, 2, qX8_readClause) := by unfold pvCq; rw [pvK_8]; rfl
theorem pcv_X8_77 : pvCq RX8 77 = some (77, 0, 7, 1, qX7_takeSign) := by unfold pvCq; rw [pvK_8]; rfl
theorem pcv_X8_84 : pvCq RX8 84 = some (84, 0, 7, 2, qX7_fail) := by unfold pvCq; rw [pvK_8]; rfl
theorem pcv_X8_88 : pvCq RX8 88 = some (88, 0, 7, 0, qX7_nextPlace) := by unfold pvCq; rw [pvK_8]; rfl
theorem pcv_X8_93 : pvCq RX8 93 = some (93, 0, 7, 1, qX7_takeWord) := by unfold pvCq; rw [pvK_8]; rfl
theorem pcv_X8_97 : pvCq RX8 97 = some (97, 0, 8, 1, qX8_readLife) := by unfold pvCq; rw [pvK_8]; rfl
theorem pcv_X8_101 : pvCq RX8 101 = some (101, 0, 8, 1, qX8_readHas) := by unfold pvCq; rw [pvK_8]; rfl
theorem pcv_X8_104 : pvCq RX8 104 = some (104, 0, 8, 1, qX8_readBy) := by unfold pvCq; rw [pvK_8]; rfl
theorem pcv_X8_107 : pvCq RX8 107 = some (107, 0, 8, 1, qX8_readFact) := by unfold pvCq; rw [pvK_8]; rfl
theorem pcv_X8_110 : pvCq RX8 110 = some (110, 0, 8, 2, qX8_readRule) := by unfold pvCq; rw [pvK_8]; rfl
theorem pcv_X8_113 : pvCq RX8 113 = some (113, 0, 7, 2, qX7_takeNumber) := by unfold pvCq; rw [pvK_8]; rfl
theorem pcv_X8_117 : pvCq RX8 117 = some (117, 0, 7, 0, qX7_failed) := by unfold pvCq; rw [pvK_8]; rfl
theorem pmm_X8_121 : pvMm RX8 121 = some (121, true) := by unfold pvMm; rw [pvK_8]; rfl
theorem pcv_X9_34 : pvCq RX9 34 = some (34, 0, 9, 3, qX9_readSteps) := by unfold pvCq; rw [pvK_9]; rfl
theorem pcv_X9_38 : pvCq RX9 38 = some (38, 0, 7, 0, qX7_peek) := by unfold pvCq; rw [pvK_9]; rfl
theorem pcv_X9_44 : pvCq RX9 44 = some (44, 0, 9, 3, qX9_readStep) := by unfold pvCq; rw [pvK_9]; rfl
theorem pcv_X9_47 : pvCq RX9 47 = some (47, 0, 7, 1, qX7_takeSign) := by unfold pvCq; rw [pvK_9]; rfl
theorem pcv_X9_51 : pvCq RX9 51 = some (51, 0, 7, 0, qX7_nextPlace) := by unfold pvCq; rw [pvK_9]; rfl
theorem pcv_X9_56 : pvCq RX9 56 = some (56, 0, 7, 1, qX7_takeWord) := by unfold pvCq; rw [pvK_9]; rfl
theorem pcv_X9_60 : pvCq RX9 60 = some (60, 0, 7, 2, qX7_fail) := by unfold pvCq; rw [pvK_9]; rfl
theorem pcv_X9_64 : pvCq RX9 64 = some (64, 0, 9, 4, qX9_readAgain) := by unfold pvCq; rw [pvK_9]; rfl
theorem pcv_X9_68 : pvCq RX9 68 = some (68, 0, 7, 2, qX7_takeNumber) := by unfold pvCq; rw [pvK_9]; rfl
theorem pcv_X9_72 : pvCq RX9 72 = some (72, 0, 7, 0, qX7_failed) := by unfold pvCq; rw [pvK_9]; rfl
theorem pcv_X9_76 : pvCq RX9 76 = some (76, 0, 9, 5, qX9_perform) := by unfold pvCq; rw [pvK_9]; rfl
theorem pmm_X9_80 : pvMm RX9 80 = some (80, true) := by unfold pvMm; rw [pvK_9]; rfl
theorem pcs_X9_85 : pvSq RX9 85 4 qX9_performStep := by
  unfold pvSq pvMm pvCp pvMl pvCq
  rw [pvK_9]
  exact ⟨rfl, rfl, rfl, _, _, rfl⟩
theorem pcv_X9_94 : pvCq RX9 94 = some (94, 0, 0, 2, qX0_putPiece) := by unfold pvCq; rw [pvK_9]; rfl
theorem pcv_X9_100 : pvCq RX9 100 = some (100, 0, 0, 2, qX0_letDie) := by unfold pvCq; rw [pvK_9]; rfl
theorem pcv_X9_103 : pvCq RX9 103 = some (103, 0, 0, 1, qX0_passWeek) := by unfold pvCq; rw [pvK_9]; rfl
theorem pcv_X11_95 : pvCq RX11 95 = some (95, 0, 11, 0, qX11_tellsNothing) := by unfold pvCq; rw [pvK_11]; rfl
theorem pcv_X11_98 : pvCq RX11 98 = some (98, 0, 11, 0, qX11_stands) := by unfold pvCq; rw [pvK_11]; rfl
theorem pcv_X11_113 : pvCq RX11 113 = some (113, 0, 11, 1, qX11_byteAt) := by unfold pvCq; rw [pvK_11]; rfl
theorem pcv_X11_123 : pvCq RX11 123 = some (123, 0, 11, 0, qX11_blanks) := by unfold pvCq; rw [pvK_11]; rfl
theorem pcs_X11_126 : pvSq RX11 126 1 qX11_isDigit := by
  unfold pvSq pvMm pvCp pvMl pvCq
  rw [pvK_11]
  exact ⟨rfl, rfl, rfl, _, _, rfl⟩
theorem pcv_X11_130 : pvCq RX11 130 = some (130, 0, 11, 2, qX11_wrongAt) := by unfold pvCq; rw [pvK_11]; rfl
theorem pcs_X11_135 : pvSq RX11 135 3 qX11_in := by
  unfold pvSq pvMm pvCp pvMl pvCq
  rw [pvK_11]
  exact ⟨rfl, rfl, rfl, _, _, rfl⟩
theorem pcs_X11_139 : pvSq RX11 139 1 qX11_isSmall := by
  unfold pvSq pvMm pvCp pvMl pvCq
  rw [pvK_11]
  exact ⟨rfl, rfl, rfl, _, _, rfl⟩
theorem pcv_X11_142 : pvCq RX11 142 = some (142, 0, 11, 0, qX11_wordHere) := by unfold pvCq; rw [pvK_11]; rfl
theorem pcs_X11_146 : pvSq RX11 146 5 qX11_five := by
  unfold pvSq pvMm pvCp pvMl pvCq
  rw [pvK_11]
  exact ⟨rfl, rfl, rfl, _, _, rfl⟩
theorem pcv_X11_150 : pvCq RX11 150 = some (150, 0, 11, 5, qX11_isWord) := by unfold pvCq; rw [pvK_11]; rfl
theorem pcv_X11_154 : pvCq RX11 154 = some (154, 0, 11, 0, qX11_skipWord) := by unfold pvCq; rw [pvK_11]; rfl
theorem pcv_X11_163 : pvCq RX11 163 = some (163, 0, 11, 2, qX11_number) := by unfold pvCq; rw [pvK_11]; rfl
theorem pcv_X11_167 : pvCq RX11 167 = some (167, 0, 11, 0, qX11_kindHere) := by unfold pvCq; rw [pvK_11]; rfl
theorem pcv_X11_170 : pvCq RX11 170 = some (170, 0, 11, 0, qX11_lifeHere) := by unfold pvCq; rw [pvK_11]; rfl
theorem pcv_X11_173 : pvCq RX11 173 = some (173, 0, 11, 1, qX11_sign) := by unfold pvCq; rw [pvK_11]; rfl
theorem pcv_X11_177 : pvCq RX11 177 = some (177, 0, 11, 3, qX11_bad) := by unfold pvCq; rw [pvK_11]; rfl
theorem pcv_X11_181 : pvCq RX11 181 = some (181, 0, 11, 1, qX11_starts) := by unfold pvCq; rw [pvK_11]; rfl
theorem pcv_X11_184 : pvCq RX11 184 = some (184, 0, 11, 0, qX11_clause) := by unfold pvCq; rw [pvK_11]; rfl
theorem pcv_X11_187 : pvCq RX11 187 = some (187, 0, 11, 0, qX11_ends) := by unfold pvCq; rw [pvK_11]; rfl
theorem pcs_X11_190 : pvSq RX11 190 3 qX11_lays := by
  unfold pvSq pvMm pvCp pvMl pvCq
  rw [pvK_11]
  exact ⟨rfl, rfl, rfl, _, _, rfl⟩
theorem pcv_X11_212 : pvCq RX11 212 = some (212, 0, 11, 0, qX11_product) := by unfold pvCq; rw [pvK_11]; rfl
theorem pcv_X11_215 : pvCq RX11 215 = some (215, 0, 11, 1, qX11_takesSign) := by unfold pvCq; rw [pvK_11]; rfl
theorem pcv_X11_218 : pvCq RX11 218 = some (218, 0, 11, 2, qX11_notes) := by unfold pvCq; rw [pvK_11]; rfl
theorem pcv_X11_221 : pvCq RX11 221 = some (221, 0, 11, 0, qX11_one) := by unfold pvCq; rw [pvK_11]; rfl
theorem pcv_X11_224 : pvCq RX11 224 = some (224, 0, 11, 5, qX11_takes) := by unfold pvCq; rw [pvK_11]; rfl
theorem pcv_X11_227 : pvCq RX11 227 = some (227, 0, 11, 0, qX11_opens) := by unfold pvCq; rw [pvK_11]; rfl
theorem pcv_X11_231 : pvCq RX11 231 = some (231, 0, 11, 0, qX11_sum) := by unfold pvCq; rw [pvK_11]; rfl
theorem pcv_X11_234 : pvCq RX11 234 = some (234, 0, 11, 0, qX11_knownHere) := by unfold pvCq; rw [pvK_11]; rfl
theorem pmm_X11_237 : pvMm RX11 237 = some (237, false) := by unfold pvMm; rw [pvK_11]; rfl
theorem pmm_X11_240 : pvMm RX11 240 = some (240, true) := by unfold pvMm; rw [pvK_11]; rfl
theorem pcs_X11_243 : pvSq RX11 243 3 qX11_by := by
  unfold pvSq pvMm pvCp pvMl pvCq
  rw [pvK_11]
  exact ⟨rfl, rfl, rfl, _, _, rfl⟩
theorem pcv_X11_247 : pvCq RX11 247 = some (247, 0, 11, 0, qX11_stepHere) := by unfold pvCq; rw [pvK_11]; rfl
theorem pcv_X11_253 : pvCq RX11 253 = some (253, 0, 11, 0, qX11_readsStep) := by unfold pvCq; rw [pvK_11]; rfl
theorem pcs_X11_256 : pvSq RX11 256 2 qX11_has := by
  unfold pvSq pvMm pvCp pvMl pvCq
  rw [pvK_11]
  exact ⟨rfl, rfl, rfl, _, _, rfl⟩
theorem pcv_X11_260 : pvCq RX11 260 = some (260, 0, 11, 0, qX11_byLaw) := by unfold pvCq; rw [pvK_11]; rfl
theorem pcv_X11_263 : pvCq RX11 263 = some (263, 0, 11, 2, qX11_yearsOf) := by unfold pvCq; rw [pvK_11]; rfl
theorem pcv_X11_266 : pvCq RX11 266 = some (266, 0, 11, 2, qX11_isByDead) := by unfold pvCq; rw [pvK_11]; rfl
theorem pcv_X11_270 : pvCq RX11 270 = some (270, 0, 11, 3, qX11_changesOf) := by unfold pvCq; rw [pvK_11]; rfl
theorem pcv_X11_273 : pvCq RX11 273 = some (273, 0, 11, 5, qX11_wrongBy) := by unfold pvCq; rw [pvK_11]; rfl
theorem pcv_X11_276 : pvCq RX11 276 = some (276, 0, 11, 4, qX11_wrongIn) := by unfold pvCq; rw [pvK_11]; rfl
theorem pcv_X11_280 : pvCq RX11 280 = some (280, 0, 11, 4, qX11_costIn) := by unfold pvCq; rw [pvK_11]; rfl
theorem pcs_X11_283 : pvSq RX11 283 2 qX11_hasPiece := by
  unfold pvSq pvMm pvCp pvMl pvCq
  rw [pvK_11]
  exact ⟨rfl, rfl, rfl, _, _, rfl⟩
theorem pcv_X11_287 : pvCq RX11 287 = some (287, 0, 11, 1, qX11_renewHours) := by unfold pvCq; rw [pvK_11]; rfl
theorem pcv_X11_290 : pvCq RX11 290 = some (290, 0, 11, 2, qX11_hoursFor) := by unfold pvCq; rw [pvK_11]; rfl
theorem pcv_X11_293 : pvCq RX11 293 = some (293, 0, 11, 2, qX11_costOf) := by unfold pvCq; rw [pvK_11]; rfl
theorem pcv_X11_296 : pvCq RX11 296 = some (296, 0, 11, 2, qX11_mayWrite) := by unfold pvCq; rw [pvK_11]; rfl
theorem pcv_X11_299 : pvCq RX11 299 = some (299, 0, 11, 2, qX11_writes) := by unfold pvCq; rw [pvK_11]; rfl
theorem pcv_X11_303 : pvCq RX11 303 = some (303, 0, 11, 2, qX11_dies) := by unfold pvCq; rw [pvK_11]; rfl
theorem pcv_X11_306 : pvCq RX11 306 = some (306, 0, 11, 1, qX11_weekEnds) := by unfold pvCq; rw [pvK_11]; rfl
theorem pcv_X11_313 : pvCq RX11 313 = some (313, 0, 11, 2, qX11_goes) := by unfold pvCq; rw [pvK_11]; rfl
theorem pcv_X11_316 : pvCq RX11 316 = some (316, 0, 11, 2, qX11_does) := by unfold pvCq; rw [pvK_11]; rfl
theorem pcs_X11_323 : pvSq RX11 323 2 qX11_copies := by
  unfold pvSq pvMm pvCp pvMl pvCq
  rw [pvK_11]
  exact ⟨rfl, rfl, rfl, _, _, rfl⟩
theorem pcv_X11_327 : pvCq RX11 327 = some (327, 0, 11, 1, qX11_aliveIn) := by unfold pvCq; rw [pvK_11]; rfl
theorem pcv_X11_331 : pvCq RX11 331 = some (331, 0, 11, 1, qX11_isLife) := by unfold pvCq; rw [pvK_11]; rfl
theorem pcv_X11_334 : pvCq RX11 334 = some (334, 0, 11, 2, qX11_factsAt) := by unfold pvCq; rw [pvK_11]; rfl
theorem pcv_X11_337 : pvCq RX11 337 = some (337, 0, 11, 1, qX11_wrongOf) := by unfold pvCq; rw [pvK_11]; rfl
theorem pcv_X11_340 : pvCq RX11 340 = some (340, 0, 11, 2, qX11_noPart) := by unfold pvCq; rw [pvK_11]; rfl
theorem pcs_X11_345 : pvSq RX11 345 3 qX11_partOf := by
  unfold pvSq pvMm pvCp pvMl pvCq
  rw [pvK_11]
  exact ⟨rfl, rfl, rfl, _, _, rfl⟩
theorem pcv_X11_349 : pvCq RX11 349 = some (349, 0, 11, 1, qX11_riskOf) := by unfold pvCq; rw [pvK_11]; rfl
theorem pcv_X11_355 : pvCq RX11 355 = some (355, 0, 11, 2, qX11_saved) := by unfold pvCq; rw [pvK_11]; rfl
theorem pcv_X11_358 : pvCq RX11 358 = some (358, 0, 11, 2, qX11_firstOf) := by unfold pvCq; rw [pvK_11]; rfl
theorem pcs_X11_365 : pvSq RX11 365 2 qX11_power := by
  unfold pvSq pvMm pvCp pvMl pvCq
  rw [pvK_11]
  exact ⟨rfl, rfl, rfl, _, _, rfl⟩
theorem pcs_X11_369 : pvSq RX11 369 3 qX11_roomOf := by
  unfold pvSq pvMm pvCp pvMl pvCq
  rw [pvK_11]
  exact ⟨rfl, rfl, rfl, _, _, rfl⟩
theorem pcv_X11_374 : pvCq RX11 374 = some (374, 0, 11, 3, qX11_isOption) := by unfold pvCq; rw [pvK_11]; rfl
theorem pcv_X11_377 : pvCq RX11 377 = some (377, 0, 11, 2, qX11_laysOption) := by unfold pvCq; rw [pvK_11]; rfl
theorem pcv_X11_380 : pvCq RX11 380 = some (380, 0, 11, 1, qX11_laysBest) := by unfold pvCq; rw [pvK_11]; rfl
theorem pcv_X11_385 : pvCq RX11 385 = some (385, 0, 11, 3, qX11_oftenBy) := by unfold pvCq; rw [pvK_11]; rfl
theorem pcs_X11_389 : pvSq RX11 389 4 qX11_isRumour := by
  unfold pvSq pvMm pvCp pvMl pvCq
  rw [pvK_11]
  exact ⟨rfl, rfl, rfl, _, _, rfl⟩
theorem pcs_X11_393 : pvSq RX11 393 6 qX11_bringsBy := by
  unfold pvSq pvMm pvCp pvMl pvCq
  rw [pvK_11]
  exact ⟨rfl, rfl, rfl, _, _, rfl⟩
theorem pcs_X11_397 : pvSq RX11 397 5 qX11_saysBy := by
  unfold pvSq pvMm pvCp pvMl pvCq
  rw [pvK_11]
  exact ⟨rfl, rfl, rfl, _, _, rfl⟩
theorem pcv_X11_403 : pvCq RX11 403 = some (403, 0, 11, 4, qX11_rooms) := by unfold pvCq; rw [pvK_11]; rfl
theorem pcv_X11_407 : pvCq RX11 407 = some (407, 0, 11, 1, qX11_areLives) := by unfold pvCq; rw [pvK_11]; rfl
theorem pcv_X11_410 : pvCq RX11 410 = some (410, 0, 11, 2, qX11_laysRoom) := by unfold pvCq; rw [pvK_11]; rfl
theorem pcv_X11_413 : pvCq RX11 413 = some (413, 0, 11, 2, qX11_isApart) := by unfold pvCq; rw [pvK_11]; rfl
theorem pcs_X11_416 : pvSq RX11 416 1 qX11_ones := by
  unfold pvSq pvMm pvCp pvMl pvCq
  rw [pvK_11]
  exact ⟨rfl, rfl, rfl, _, _, rfl⟩
theorem pcv_X11_419 : pvCq RX11 419 = some (419, 0, 11, 1, qX11_writtenOf) := by unfold pvCq; rw [pvK_11]; rfl
theorem pcv_X11_423 : pvCq RX11 423 = some (423, 0, 11, 1, qX11_riskIn) := by unfold pvCq; rw [pvK_11]; rfl
theorem pcv_X11_433 : pvCq RX11 433 = some (433, 0, 11, 2, qX11_yearsBy) := by unfold pvCq; rw [pvK_11]; rfl
theorem pcv_X11_439 : pvCq RX11 439 = some (439, 0, 11, 3, qX11_puts) := by unfold pvCq; rw [pvK_11]; rfl
theorem pcv_X11_443 : pvCq RX11 443 = some (443, 0, 11, 2, qX11_putsAll) := by unfold pvCq; rw [pvK_11]; rfl
theorem pcq_X7_53 : pvCq RX7 53 = some (53, 2, 0, 0, qJ0_length_8abf5) := by unfold pvCq; rw [pvK_7]; rfl
theorem pcq_X7_57 : pvCq RX7 57 = some (57, 3, 0, 1, qJ0_charAt_5068e) := by unfold pvCq; rw [pvK_7]; rfl
