-- P 10h
section
/-- a static call of a method -/
def pvSq (own : String) (idx n : Nat) (y : fmY) : Prop := pvMm own idx = none ∧ pvCp own idx = false ∧ pvMl own idx = none ∧ ∃ i0 ci, pvCq own idx = some (i0, 1, ci, n, y)
theorem pv_iS1 {T : fmT} {d d' : Nat} {y y' : fmY} {pc idx : Nat} {L : List (Option Value)} {st : List Value} {M : fmM} {Q : fmR → fmM → Prop} {a0 : Value} (hc : pvSq y.1.cls idx 1 y') (hcat : pvCat st ≤ 8) (hd : d' + 1 ≤ d) (hdg : decode y.2.1 pc = .ok (.invokestatic idx, 3)) (hg : pvGood T d' y' [a0] M (pvThen T d y (pc + 3) L st Q)) : pvEv T d y pc L (a0 :: st) M Q := by
  obtain ⟨h1, h2, h3, i0, ci, h4⟩ := hc
  exact pv_invS1 h1 h2 h3 h4 hcat hd hdg hg
theorem pv_iS2 {T : fmT} {d d' : Nat} {y y' : fmY} {pc idx : Nat} {L : List (Option Value)} {st : List Value} {M : fmM} {Q : fmR → fmM → Prop} {a0 a1 : Value} (hc : pvSq y.1.cls idx 2 y') (hcat : pvCat st ≤ 8) (hd : d' + 1 ≤ d) (hdg : decode y.2.1 pc = .ok (.invokestatic idx, 3)) (hg : pvGood T d' y' [a0, a1] M (pvThen T d y (pc + 3) L st Q)) : pvEv T d y pc L (a1 :: a0 :: st) M Q := by
  obtain ⟨h1, h2, h3, i0, ci, h4⟩ := hc
  exact pv_invS2 h1 h2 h3 h4 hcat hd hdg hg
theorem pv_iS3 {T : fmT} {d d' : Nat} {y y' : fmY} {pc idx : Nat} {L : List (Option Value)} {st : List Value} {M : fmM} {Q : fmR → fmM → Prop} {a0 a1 a2 : Value} (hc : pvSq y.1.cls idx 3 y') (hcat : pvCat st ≤ 8) (hd : d' + 1 ≤ d) (hdg : decode y.2.1 pc = .ok (.invokestatic idx, 3)) (hg : pvGood T d' y' [a0, a1, a2] M (pvThen T d y (pc + 3) L st Q)) : pvEv T d y pc L (a2 :: a1 :: a0 :: st) M Q := by
  obtain ⟨h1, h2, h3, i0, ci, h4⟩ := hc
  exact pv_invS3 h1 h2 h3 h4 hcat hd hdg hg
theorem pv_iS4 {T : fmT} {d d' : Nat} {y y' : fmY} {pc idx : Nat} {L : List (Option Value)} {st : List Value} {M : fmM} {Q : fmR → fmM → Prop} {a0 a1 a2 a3 : Value} (hc : pvSq y.1.cls idx 4 y') (hcat : pvCat st ≤ 8) (hd : d' + 1 ≤ d) (hdg : decode y.2.1 pc = .ok (.invokestatic idx, 3)) (hg : pvGood T d' y' [a0, a1, a2, a3] M (pvThen T d y (pc + 3) L st Q)) : pvEv T d y pc L (a3 :: a2 :: a1 :: a0 :: st) M Q := by
  obtain ⟨h1, h2, h3, i0, ci, h4⟩ := hc
  exact pv_invS4 h1 h2 h3 h4 hcat hd hdg hg
theorem pv_iS5 {T : fmT} {d d' : Nat} {y y' : fmY} {pc idx : Nat} {L : List (Option Value)} {st : List Value} {M : fmM} {Q : fmR → fmM → Prop} {a0 a1 a2 a3 a4 : Value} (hc : pvSq y.1.cls idx 5 y') (hcat : pvCat st ≤ 8) (hd : d' + 1 ≤ d) (hdg : decode y.2.1 pc = .ok (.invokestatic idx, 3)) (hg : pvGood T d' y' [a0, a1, a2, a3, a4] M (pvThen T d y (pc + 3) L st Q)) : pvEv T d y pc L (a4 :: a3 :: a2 :: a1 :: a0 :: st) M Q := by
  obtain ⟨h1, h2, h3, i0, ci, h4⟩ := hc
  exact pv_invS5 h1 h2 h3 h4 hcat hd hdg hg
theorem pv_iS6 {T : fmT} {d d' : Nat} {y y' : fmY} {pc idx : Nat} {L : List (Option Value)} {st : List Value} {M : fmM} {Q : fmR → fmM → Prop} {a0 a1 a2 a3 a4 a5 : Value} (hc : pvSq y.1.cls idx 6 y') (hcat : pvCat st ≤ 8) (hd : d' + 1 ≤ d) (hdg : decode y.2.1 pc = .ok (.invokestatic idx, 3)) (hg : pvGood T d' y' [a0, a1, a2, a3, a4, a5] M (pvThen T d y (pc + 3) L st Q)) : pvEv T d y pc L (a5 :: a4 :: a3 :: a2 :: a1 :: a0 :: st) M Q := by
  obtain ⟨h1, h2, h3, i0, ci, h4⟩ := hc
  exact pv_invS6 h1 h2 h3 h4 hcat hd hdg hg
theorem pv_iS7 {T : fmT} {d d' : Nat} {y y' : fmY} {pc idx : Nat} {L : List (Option Value)} {st : List Value} {M : fmM} {Q : fmR → fmM → Prop} {a0 a1 a2 a3 a4 a5 a6 : Value} (hc : pvSq y.1.cls idx 7 y') (hcat : pvCat st ≤ 8) (hd : d' + 1 ≤ d) (hdg : decode y.2.1 pc = .ok (.invokestatic idx, 3)) (hg : pvGood T d' y' [a0, a1, a2, a3, a4, a5, a6] M (pvThen T d y (pc + 3) L st Q)) : pvEv T d y pc L (a6 :: a5 :: a4 :: a3 :: a2 :: a1 :: a0 :: st) M Q := by
  obtain ⟨h1, h2, h3, i0, ci, h4⟩ := hc
  exact pv_invS7 h1 h2 h3 h4 hcat hd hdg hg
theorem pfl_X10_12 : pvFd RX10 12 = some (12, 10, 0, 2, false) := by unfold pvFd; rw [pvK_10]; rfl
theorem pfl_X10_19 : pvFd RX10 19 = some (19, 10, 1, 2, false) := by unfold pvFd; rw [pvK_10]; rfl
theorem pfl_X10_23 : pvFd RX10 23 = some (23, 10, 2, 2, false) := by unfold pvFd; rw [pvK_10]; rfl
theorem pfl_X10_29 : pvFd RX10 29 = some (29, 10, 3, 2, false) := by unfold pvFd; rw [pvK_10]; rfl
theorem pfl_X10_36 : pvFd RX10 36 = some (36, 10, 4, 2, false) := by unfold pvFd; rw [pvK_10]; rfl
theorem pfl_X10_43 : pvFd RX10 43 = some (43, 10, 5, 2, false) := by unfold pvFd; rw [pvK_10]; rfl
theorem pfl_X10_52 : pvFd RX10 52 = some (52, 10, 6, 2, false) := by unfold pvFd; rw [pvK_10]; rfl
theorem pfl_X10_61 : pvFd RX10 61 = some (61, 10, 7, 2, false) := by unfold pvFd; rw [pvK_10]; rfl
theorem pfl_X10_68 : pvFd RX10 68 = some (68, 10, 8, 2, false) := by unfold pvFd; rw [pvK_10]; rfl
theorem pfl_X10_75 : pvFd RX10 75 = some (75, 10, 9, 2, false) := by unfold pvFd; rw [pvK_10]; rfl
theorem pfl_X10_79 : pvFd RX10 79 = some (79, 10, 10, 2, false) := by unfold pvFd; rw [pvK_10]; rfl
theorem pfl_X10_83 : pvFd RX10 83 = some (83, 10, 11, 2, false) := by unfold pvFd; rw [pvK_10]; rfl
theorem pfl_X10_87 : pvFd RX10 87 = some (87, 10, 12, 2, false) := by unfold pvFd; rw [pvK_10]; rfl
theorem pfl_X10_90 : pvFd RX10 90 = some (90, 5, 0, 2, false) := by unfold pvFd; rw [pvK_10]; rfl
theorem pfl_X10_100 : pvFd RX10 100 = some (100, 7, 1, 0, true) := by unfold pvFd; rw [pvK_10]; rfl
theorem pfl_X10_116 : pvFd RX10 116 = some (116, 7, 4, 0, true) := by unfold pvFd; rw [pvK_10]; rfl
theorem pfl_X10_126 : pvFd RX10 126 = some (126, 5, 2, 0, true) := by unfold pvFd; rw [pvK_10]; rfl
theorem pfl_X10_129 : pvFd RX10 129 = some (129, 10, 13, 0, true) := by unfold pvFd; rw [pvK_10]; rfl
theorem pfl_X10_132 : pvFd RX10 132 = some (132, 10, 14, 0, true) := by unfold pvFd; rw [pvK_10]; rfl
theorem pfl_X10_138 : pvFd RX10 138 = some (138, 8, 9, 0, true) := by unfold pvFd; rw [pvK_10]; rfl
theorem pfl_X10_148 : pvFd RX10 148 = some (148, 9, 3, 0, true) := by unfold pvFd; rw [pvK_10]; rfl
theorem pfl_X10_155 : pvFd RX10 155 = some (155, 9, 6, 0, true) := by unfold pvFd; rw [pvK_10]; rfl
theorem pfl_X10_158 : pvFd RX10 158 = some (158, 9, 5, 0, true) := by unfold pvFd; rw [pvK_10]; rfl
theorem pfl_X10_162 : pvFd RX10 162 = some (162, 2, 0, 0, true) := by unfold pvFd; rw [pvK_10]; rfl
theorem pfl_X10_163 : pvFd RX10 163 = some (163, 7, 5, 0, true) := by unfold pvFd; rw [pvK_10]; rfl
theorem pfl_X10_173 : pvFd RX10 173 = some (173, 6, 2, 0, true) := by unfold pvFd; rw [pvK_10]; rfl
theorem pfl_X10_176 : pvFd RX10 176 = some (176, 6, 3, 0, true) := by unfold pvFd; rw [pvK_10]; rfl
theorem pfl_X10_179 : pvFd RX10 179 = some (179, 6, 1, 0, true) := by unfold pvFd; rw [pvK_10]; rfl
theorem pfl_X10_191 : pvFd RX10 191 = some (191, 6, 4, 0, true) := by unfold pvFd; rw [pvK_10]; rfl
theorem pfl_X10_194 : pvFd RX10 194 = some (194, 6, 5, 0, true) := by unfold pvFd; rw [pvK_10]; rfl
theorem pfl_X10_204 : pvFd RX10 204 = some (204, 8, 1, 2, false) := by unfold pvFd; rw [pvK_10]; rfl
theorem pfl_X10_207 : pvFd RX10 207 = some (207, 8, 2, 2, false) := by unfold pvFd; rw [pvK_10]; rfl
theorem pfl_X10_210 : pvFd RX10 210 = some (210, 8, 3, 2, false) := by unfold pvFd; rw [pvK_10]; rfl
theorem pfl_X10_219 : pvFd RX10 219 = some (219, 6, 0, 2, false) := by unfold pvFd; rw [pvK_10]; rfl
theorem pfl_X10_222 : pvFd RX10 222 = some (222, 8, 5, 2, false) := by unfold pvFd; rw [pvK_10]; rfl
theorem pfl_X10_247 : pvFd RX10 247 = some (247, 6, 6, 1, true) := by unfold pvFd; rw [pvK_10]; rfl
theorem pfl_X10_346 : pvFd RX10 346 = some (346, 4, 0, 2, false) := by unfold pvFd; rw [pvK_10]; rfl
theorem pfl_X10_349 : pvFd RX10 349 = some (349, 4, 1, 0, true) := by unfold pvFd; rw [pvK_10]; rfl
theorem pfl_X10_363 : pvFd RX10 363 = some (363, 10, 15, 0, true) := by unfold pvFd; rw [pvK_10]; rfl
theorem pfl_X10_366 : pvFd RX10 366 = some (366, 10, 16, 0, true) := by unfold pvFd; rw [pvK_10]; rfl
theorem pfl_X0_9 : pvFd RX0 9 = some (9, 0, 2, 2, false) := by unfold pvFd; rw [pvK_0]; rfl
theorem pfl_X0_15 : pvFd RX0 15 = some (15, 0, 0, 2, false) := by unfold pvFd; rw [pvK_0]; rfl
theorem pfl_X0_19 : pvFd RX0 19 = some (19, 0, 1, 2, false) := by unfold pvFd; rw [pvK_0]; rfl
theorem pfl_X0_23 : pvFd RX0 23 = some (23, 8, 0, 2, false) := by unfold pvFd; rw [pvK_0]; rfl
theorem pfl_X0_29 : pvFd RX0 29 = some (29, 6, 2, 0, true) := by unfold pvFd; rw [pvK_0]; rfl
theorem pfl_X0_35 : pvFd RX0 35 = some (35, 8, 5, 2, false) := by unfold pvFd; rw [pvK_0]; rfl
theorem pfl_X0_50 : pvFd RX0 50 = some (50, 8, 2, 2, false) := by unfold pvFd; rw [pvK_0]; rfl
theorem pfl_X0_65 : pvFd RX0 65 = some (65, 8, 12, 0, true) := by unfold pvFd; rw [pvK_0]; rfl
theorem pfl_X0_68 : pvFd RX0 68 = some (68, 8, 13, 0, true) := by unfold pvFd; rw [pvK_0]; rfl
theorem pfl_X0_75 : pvFd RX0 75 = some (75, 8, 9, 0, true) := by unfold pvFd; rw [pvK_0]; rfl
theorem pfl_X0_78 : pvFd RX0 78 = some (78, 6, 0, 2, false) := by unfold pvFd; rw [pvK_0]; rfl
theorem pfl_X0_81 : pvFd RX0 81 = some (81, 8, 1, 2, false) := by unfold pvFd; rw [pvK_0]; rfl
theorem pfl_X0_88 : pvFd RX0 88 = some (88, 8, 3, 2, false) := by unfold pvFd; rw [pvK_0]; rfl
theorem pfl_X0_116 : pvFd RX0 116 = some (116, 6, 3, 0, true) := by unfold pvFd; rw [pvK_0]; rfl
theorem pfl_X0_118 : pvFd RX0 118 = some (118, 6, 6, 1, true) := by unfold pvFd; rw [pvK_0]; rfl
theorem pfl_X0_122 : pvFd RX0 122 = some (122, 6, 4, 0, true) := by unfold pvFd; rw [pvK_0]; rfl
theorem pfl_X0_128 : pvFd RX0 128 = some (128, 6, 5, 0, true) := by unfold pvFd; rw [pvK_0]; rfl
theorem pfl_X0_131 : pvFd RX0 131 = some (131, 6, 1, 0, true) := by unfold pvFd; rw [pvK_0]; rfl
theorem pfl_X0_134 : pvFd RX0 134 = some (134, 8, 11, 0, true) := by unfold pvFd; rw [pvK_0]; rfl
theorem pfl_X1_9 : pvFd RX1 9 = some (9, 1, 0, 2, false) := by unfold pvFd; rw [pvK_1]; rfl
theorem pfl_X1_15 : pvFd RX1 15 = some (15, 1, 1, 2, false) := by unfold pvFd; rw [pvK_1]; rfl
theorem pfl_X1_18 : pvFd RX1 18 = some (18, 1, 2, 2, false) := by unfold pvFd; rw [pvK_1]; rfl
theorem pfl_X1_24 : pvFd RX1 24 = some (24, 1, 3, 0, true) := by unfold pvFd; rw [pvK_1]; rfl
theorem pfl_X1_28 : pvFd RX1 28 = some (28, 1, 4, 0, true) := by unfold pvFd; rw [pvK_1]; rfl
theorem pfl_X1_41 : pvFd RX1 41 = some (41, 7, 3, 0, true) := by unfold pvFd; rw [pvK_1]; rfl
theorem pfl_X2_9 : pvFd RX2 9 = some (9, 2, 0, 0, true) := by unfold pvFd; rw [pvK_2]; rfl
theorem pfl_X2_15 : pvFd RX2 15 = some (15, 2, 1, 0, true) := by unfold pvFd; rw [pvK_2]; rfl
theorem pfl_X2_18 : pvFd RX2 18 = some (18, 2, 2, 0, true) := by unfold pvFd; rw [pvK_2]; rfl
theorem pfl_X3_11 : pvFd RX3 11 = some (11, 3, 1, 2, false) := by unfold pvFd; rw [pvK_3]; rfl
theorem pfl_X3_15 : pvFd RX3 15 = some (15, 3, 2, 2, false) := by unfold pvFd; rw [pvK_3]; rfl
theorem pfl_X3_18 : pvFd RX3 18 = some (18, 3, 3, 2, false) := by unfold pvFd; rw [pvK_3]; rfl
theorem pfl_X3_22 : pvFd RX3 22 = some (22, 3, 4, 2, false) := by unfold pvFd; rw [pvK_3]; rfl
theorem pfl_X3_25 : pvFd RX3 25 = some (25, 3, 0, 2, false) := by unfold pvFd; rw [pvK_3]; rfl
theorem pfl_X3_29 : pvFd RX3 29 = some (29, 3, 5, 0, true) := by unfold pvFd; rw [pvK_3]; rfl
theorem pfl_X3_33 : pvFd RX3 33 = some (33, 3, 6, 1, true) := by unfold pvFd; rw [pvK_3]; rfl
theorem pfl_X3_47 : pvFd RX3 47 = some (47, 6, 3, 0, true) := by unfold pvFd; rw [pvK_3]; rfl
theorem pfl_X3_52 : pvFd RX3 52 = some (52, 0, 0, 2, false) := by unfold pvFd; rw [pvK_3]; rfl
theorem pfl_X3_58 : pvFd RX3 58 = some (58, 8, 11, 0, true) := by unfold pvFd; rw [pvK_3]; rfl
theorem pfl_X3_72 : pvFd RX3 72 = some (72, 8, 9, 0, true) := by unfold pvFd; rw [pvK_3]; rfl
theorem pfl_X3_79 : pvFd RX3 79 = some (79, 8, 1, 2, false) := by unfold pvFd; rw [pvK_3]; rfl
theorem pfl_X3_94 : pvFd RX3 94 = some (94, 6, 0, 2, false) := by unfold pvFd; rw [pvK_3]; rfl
theorem pfl_X3_104 : pvFd RX3 104 = some (104, 8, 3, 2, false) := by unfold pvFd; rw [pvK_3]; rfl
theorem pfl_X4_12 : pvFd RX4 12 = some (12, 4, 0, 2, false) := by unfold pvFd; rw [pvK_4]; rfl
theorem pfl_X4_18 : pvFd RX4 18 = some (18, 4, 3, 2, false) := by unfold pvFd; rw [pvK_4]; rfl
theorem pfl_X4_22 : pvFd RX4 22 = some (22, 4, 2, 2, false) := by unfold pvFd; rw [pvK_4]; rfl
theorem pfl_X4_30 : pvFd RX4 30 = some (30, 6, 4, 0, true) := by unfold pvFd; rw [pvK_4]; rfl
theorem pfl_X4_34 : pvFd RX4 34 = some (34, 6, 5, 0, true) := by unfold pvFd; rw [pvK_4]; rfl
theorem pfl_X4_37 : pvFd RX4 37 = some (37, 6, 6, 1, true) := by unfold pvFd; rw [pvK_4]; rfl
theorem pfl_X4_41 : pvFd RX4 41 = some (41, 4, 1, 0, true) := by unfold pvFd; rw [pvK_4]; rfl
theorem pfl_X4_44 : pvFd RX4 44 = some (44, 4, 4, 0, true) := by unfold pvFd; rw [pvK_4]; rfl
theorem pfl_X4_60 : pvFd RX4 60 = some (60, 0, 0, 2, false) := by unfold pvFd; rw [pvK_4]; rfl
theorem pfl_X4_64 : pvFd RX4 64 = some (64, 8, 9, 0, true) := by unfold pvFd; rw [pvK_4]; rfl
theorem pfl_X4_77 : pvFd RX4 77 = some (77, 8, 1, 2, false) := by unfold pvFd; rw [pvK_4]; rfl
theorem pfl_X4_89 : pvFd RX4 89 = some (89, 6, 3, 0, true) := by unfold pvFd; rw [pvK_4]; rfl
theorem pfl_X5_12 : pvFd RX5 12 = some (12, 5, 0, 2, false) := by unfold pvFd; rw [pvK_5]; rfl
theorem pfl_X5_18 : pvFd RX5 18 = some (18, 5, 1, 2, false) := by unfold pvFd; rw [pvK_5]; rfl
theorem pfl_X5_22 : pvFd RX5 22 = some (22, 5, 2, 0, true) := by unfold pvFd; rw [pvK_5]; rfl
theorem pfl_X6_9 : pvFd RX6 9 = some (9, 6, 0, 2, false) := by unfold pvFd; rw [pvK_6]; rfl
theorem pfl_X6_15 : pvFd RX6 15 = some (15, 8, 4, 2, false) := by unfold pvFd; rw [pvK_6]; rfl
theorem pfl_X6_26 : pvFd RX6 26 = some (26, 6, 1, 0, true) := by unfold pvFd; rw [pvK_6]; rfl
theorem pfl_X6_30 : pvFd RX6 30 = some (30, 6, 2, 0, true) := by unfold pvFd; rw [pvK_6]; rfl
theorem pfl_X6_33 : pvFd RX6 33 = some (33, 8, 11, 0, true) := by unfold pvFd; rw [pvK_6]; rfl
theorem pfl_X6_36 : pvFd RX6 36 = some (36, 6, 3, 0, true) := by unfold pvFd; rw [pvK_6]; rfl
theorem pfl_X6_39 : pvFd RX6 39 = some (39, 6, 4, 0, true) := by unfold pvFd; rw [pvK_6]; rfl
theorem pfl_X6_42 : pvFd RX6 42 = some (42, 6, 5, 0, true) := by unfold pvFd; rw [pvK_6]; rfl
theorem pfl_X6_45 : pvFd RX6 45 = some (45, 6, 6, 1, true) := by unfold pvFd; rw [pvK_6]; rfl
theorem pfl_X7_9 : pvFd RX7 9 = some (9, 7, 0, 2, false) := by unfold pvFd; rw [pvK_7]; rfl
theorem pfl_X7_15 : pvFd RX7 15 = some (15, 7, 5, 0, true) := by unfold pvFd; rw [pvK_7]; rfl
theorem pfl_X7_19 : pvFd RX7 19 = some (19, 7, 1, 0, true) := by unfold pvFd; rw [pvK_7]; rfl
theorem pfl_X7_22 : pvFd RX7 22 = some (22, 7, 2, 0, true) := by unfold pvFd; rw [pvK_7]; rfl
theorem pfl_X7_25 : pvFd RX7 25 = some (25, 7, 3, 0, true) := by unfold pvFd; rw [pvK_7]; rfl
theorem pfl_X7_28 : pvFd RX7 28 = some (28, 7, 4, 0, true) := by unfold pvFd; rw [pvK_7]; rfl
theorem pfl_X8_9 : pvFd RX8 9 = some (9, 8, 0, 2, false) := by unfold pvFd; rw [pvK_8]; rfl
theorem pfl_X8_15 : pvFd RX8 15 = some (15, 8, 1, 2, false) := by unfold pvFd; rw [pvK_8]; rfl
theorem pfl_X8_18 : pvFd RX8 18 = some (18, 8, 2, 2, false) := by unfold pvFd; rw [pvK_8]; rfl
theorem pfl_X8_21 : pvFd RX8 21 = some (21, 8, 3, 2, false) := by unfold pvFd; rw [pvK_8]; rfl
theorem pfl_X8_24 : pvFd RX8 24 = some (24, 8, 4, 2, false) := by unfold pvFd; rw [pvK_8]; rfl
theorem pfl_X8_27 : pvFd RX8 27 = some (27, 8, 5, 2, false) := by unfold pvFd; rw [pvK_8]; rfl
theorem pfl_X8_30 : pvFd RX8 30 = some (30, 8, 6, 2, false) := by unfold pvFd; rw [pvK_8]; rfl
theorem pfl_X8_33 : pvFd RX8 33 = some (33, 8, 7, 2, false) := by unfold pvFd; rw [pvK_8]; rfl
theorem pfl_X8_36 : pvFd RX8 36 = some (36, 8, 8, 2, false) := by unfold pvFd; rw [pvK_8]; rfl
theorem pfl_X8_42 : pvFd RX8 42 = some (42, 8, 9, 0, true) := by unfold pvFd; rw [pvK_8]; rfl
theorem pfl_X8_46 : pvFd RX8 46 = some (46, 8, 10, 0, true) := by unfold pvFd; rw [pvK_8]; rfl
theorem pfl_X8_49 : pvFd RX8 49 = some (49, 8, 11, 0, true) := by unfold pvFd; rw [pvK_8]; rfl
theorem pfl_X8_52 : pvFd RX8 52 = some (52, 8, 12, 0, true) := by unfold pvFd; rw [pvK_8]; rfl
theorem pfl_X8_55 : pvFd RX8 55 = some (55, 8, 13, 0, true) := by unfold pvFd; rw [pvK_8]; rfl
theorem pfl_X8_58 : pvFd RX8 58 = some (58, 8, 14, 0, true) := by unfold pvFd; rw [pvK_8]; rfl
theorem pfl_X8_81 : pvFd RX8 81 = some (81, 7, 3, 0, true) := by unfold pvFd; rw [pvK_8]; rfl
theorem pfl_X9_9 : pvFd RX9 9 = some (9, 9, 0, 2, false) := by unfold pvFd; rw [pvK_9]; rfl
theorem pfl_X9_15 : pvFd RX9 15 = some (15, 9, 1, 2, false) := by unfold pvFd; rw [pvK_9]; rfl
theorem pfl_X9_18 : pvFd RX9 18 = some (18, 9, 2, 2, false) := by unfold pvFd; rw [pvK_9]; rfl
theorem pfl_X9_21 : pvFd RX9 21 = some (21, 9, 3, 0, true) := by unfold pvFd; rw [pvK_9]; rfl
theorem pfl_X9_25 : pvFd RX9 25 = some (25, 9, 4, 0, true) := by unfold pvFd; rw [pvK_9]; rfl
theorem pfl_X9_28 : pvFd RX9 28 = some (28, 9, 5, 0, true) := by unfold pvFd; rw [pvK_9]; rfl
theorem pfl_X9_31 : pvFd RX9 31 = some (31, 9, 6, 0, true) := by unfold pvFd; rw [pvK_9]; rfl
theorem pfl_X9_89 : pvFd RX9 89 = some (89, 6, 0, 2, false) := by unfold pvFd; rw [pvK_9]; rfl
theorem pfl_X11_9 : pvFd RX11 9 = some (9, 11, 3, 0, true) := by unfold pvFd; rw [pvK_11]; rfl
theorem pfl_X11_13 : pvFd RX11 13 = some (13, 11, 9, 2, false) := by unfold pvFd; rw [pvK_11]; rfl
theorem pfl_X11_17 : pvFd RX11 17 = some (17, 11, 10, 2, false) := by unfold pvFd; rw [pvK_11]; rfl
theorem pfl_X11_20 : pvFd RX11 20 = some (20, 11, 11, 2, false) := by unfold pvFd; rw [pvK_11]; rfl
theorem pfl_X11_23 : pvFd RX11 23 = some (23, 11, 12, 2, false) := by unfold pvFd; rw [pvK_11]; rfl
theorem pfl_X11_28 : pvFd RX11 28 = some (28, 11, 13, 2, false) := by unfold pvFd; rw [pvK_11]; rfl
theorem pfl_X11_31 : pvFd RX11 31 = some (31, 11, 14, 2, false) := by unfold pvFd; rw [pvK_11]; rfl
theorem pfl_X11_34 : pvFd RX11 34 = some (34, 11, 15, 2, false) := by unfold pvFd; rw [pvK_11]; rfl
theorem pfl_X11_37 : pvFd RX11 37 = some (37, 11, 16, 2, false) := by unfold pvFd; rw [pvK_11]; rfl
theorem pfl_X11_40 : pvFd RX11 40 = some (40, 11, 19, 2, false) := by unfold pvFd; rw [pvK_11]; rfl
theorem pfl_X11_43 : pvFd RX11 43 = some (43, 11, 20, 2, false) := by unfold pvFd; rw [pvK_11]; rfl
theorem pfl_X11_46 : pvFd RX11 46 = some (46, 11, 21, 2, false) := by unfold pvFd; rw [pvK_11]; rfl
theorem pfl_X11_49 : pvFd RX11 49 = some (49, 11, 22, 2, false) := by unfold pvFd; rw [pvK_11]; rfl
theorem pfl_X11_52 : pvFd RX11 52 = some (52, 11, 23, 2, false) := by unfold pvFd; rw [pvK_11]; rfl
theorem pfl_X11_55 : pvFd RX11 55 = some (55, 11, 24, 2, false) := by unfold pvFd; rw [pvK_11]; rfl
theorem pfl_X11_58 : pvFd RX11 58 = some (58, 11, 25, 2, false) := by unfold pvFd; rw [pvK_11]; rfl
theorem pfl_X11_61 : pvFd RX11 61 = some (61, 11, 27, 2, false) := by unfold pvFd; rw [pvK_11]; rfl
theorem pfl_X11_64 : pvFd RX11 64 = some (64, 11, 28, 2, false) := by unfold pvFd; rw [pvK_11]; rfl
theorem pfl_X11_67 : pvFd RX11 67 = some (67, 11, 29, 2, false) := by unfold pvFd; rw [pvK_11]; rfl
theorem pfl_X11_70 : pvFd RX11 70 = some (70, 11, 30, 2, false) := by unfold pvFd; rw [pvK_11]; rfl
theorem pfl_X11_73 : pvFd RX11 73 = some (73, 11, 38, 2, false) := by unfold pvFd; rw [pvK_11]; rfl
theorem pfl_X11_77 : pvFd RX11 77 = some (77, 11, 39, 2, false) := by unfold pvFd; rw [pvK_11]; rfl
theorem pfl_X11_80 : pvFd RX11 80 = some (80, 11, 40, 2, false) := by unfold pvFd; rw [pvK_11]; rfl
theorem pfl_X11_83 : pvFd RX11 83 = some (83, 11, 41, 2, false) := by unfold pvFd; rw [pvK_11]; rfl
theorem pfl_X11_86 : pvFd RX11 86 = some (86, 11, 42, 2, false) := by unfold pvFd; rw [pvK_11]; rfl
theorem pfl_X11_89 : pvFd RX11 89 = some (89, 11, 44, 2, false) := by unfold pvFd; rw [pvK_11]; rfl
theorem pfl_X11_92 : pvFd RX11 92 = some (92, 11, 45, 2, false) := by unfold pvFd; rw [pvK_11]; rfl
theorem pfl_X11_101 : pvFd RX11 101 = some (101, 11, 0, 0, true) := by unfold pvFd; rw [pvK_11]; rfl
theorem pfl_X11_104 : pvFd RX11 104 = some (104, 11, 1, 0, true) := by unfold pvFd; rw [pvK_11]; rfl
theorem pfl_X11_107 : pvFd RX11 107 = some (107, 11, 2, 0, true) := by unfold pvFd; rw [pvK_11]; rfl
theorem pfl_X11_110 : pvFd RX11 110 = some (110, 11, 4, 0, true) := by unfold pvFd; rw [pvK_11]; rfl
theorem pfl_X11_117 : pvFd RX11 117 = some (117, 11, 5, 0, true) := by unfold pvFd; rw [pvK_11]; rfl
theorem pfl_X11_120 : pvFd RX11 120 = some (120, 11, 6, 0, true) := by unfold pvFd; rw [pvK_11]; rfl
theorem pfl_X11_157 : pvFd RX11 157 = some (157, 11, 7, 0, true) := by unfold pvFd; rw [pvK_11]; rfl
theorem pfl_X11_160 : pvFd RX11 160 = some (160, 11, 8, 0, true) := by unfold pvFd; rw [pvK_11]; rfl
theorem pfl_X11_194 : pvFd RX11 194 = some (194, 11, 17, 0, true) := by unfold pvFd; rw [pvK_11]; rfl
theorem pfl_X11_197 : pvFd RX11 197 = some (197, 11, 31, 0, true) := by unfold pvFd; rw [pvK_11]; rfl
theorem pfl_X11_200 : pvFd RX11 200 = some (200, 11, 32, 0, true) := by unfold pvFd; rw [pvK_11]; rfl
theorem pfl_X11_203 : pvFd RX11 203 = some (203, 11, 33, 0, true) := by unfold pvFd; rw [pvK_11]; rfl
theorem pfl_X11_206 : pvFd RX11 206 = some (206, 11, 34, 0, true) := by unfold pvFd; rw [pvK_11]; rfl
theorem pfl_X11_209 : pvFd RX11 209 = some (209, 11, 18, 0, true) := by unfold pvFd; rw [pvK_11]; rfl
theorem pfl_X11_250 : pvFd RX11 250 = some (250, 11, 26, 0, true) := by unfold pvFd; rw [pvK_11]; rfl
theorem pfl_X11_310 : pvFd RX11 310 = some (310, 11, 36, 0, true) := by unfold pvFd; rw [pvK_11]; rfl
theorem pfl_X11_320 : pvFd RX11 320 = some (320, 11, 37, 0, true) := by unfold pvFd; rw [pvK_11]; rfl
theorem pfl_X11_361 : pvFd RX11 361 = some (361, 11, 43, 1, true) := by unfold pvFd; rw [pvK_11]; rfl
theorem pfl_X11_400 : pvFd RX11 400 = some (400, 11, 46, 0, true) := by unfold pvFd; rw [pvK_11]; rfl
theorem pfl_X11_426 : pvFd RX11 426 = some (426, 11, 47, 0, true) := by unfold pvFd; rw [pvK_11]; rfl
theorem pfl_X11_429 : pvFd RX11 429 = some (429, 11, 48, 0, true) := by unfold pvFd; rw [pvK_11]; rfl
theorem pfl_X11_436 : pvFd RX11 436 = some (436, 11, 35, 0, true) := by unfold pvFd; rw [pvK_11]; rfl
theorem pkc_X0_63 : pvKc RX0 63 = some (63, .inr 64) := by unfold pvKc; rw [pvK_0]; rfl
theorem pkc_X10_251 : pvKc RX10 251 = some (251, .inr 64) := by unfold pvKc; rw [pvK_10]; rfl
theorem pkc_X10_265 : pvKc RX10 265 = some (265, .inr 4096) := by unfold pvKc; rw [pvK_10]; rfl
theorem pkc_X10_281 : pvKc RX10 281 = some (281, .inr (-1)) := by unfold pvKc; rw [pvK_10]; rfl
theorem pkc_X10_393 : pvKc RX10 393 = some (393, .inl 65535) := by unfold pvKc; rw [pvK_10]; rfl
theorem pkc_X11_134 : pvKc RX11 134 = some (134, .inl 100000) := by unfold pvKc; rw [pvK_11]; rfl
theorem pkc_X11_343 : pvKc RX11 343 = some (343, .inr 64) := by unfold pvKc; rw [pvK_11]; rfl
theorem pkc_X11_353 : pvKc RX11 353 = some (353, .inr 4096) := by unfold pvKc; rw [pvK_11]; rfl
theorem pkc_X11_372 : pvKc RX11 372 = some (372, .inr (-1)) := by unfold pvKc; rw [pvK_11]; rfl
theorem pkc_X11_383 : pvKc RX11 383 = some (383, .inr 255) := by unfold pvKc; rw [pvK_11]; rfl
theorem pkc_X11_432 : pvKc RX11 432 = some (432, .inl 1103515245) := by unfold pvKc; rw [pvK_11]; rfl
theorem pkc_X4_59 : pvKc RX4 59 = some (59, .inl 1103515245) := by unfold pvKc; rw [pvK_4]; rfl
theorem pkc_X7_42 : pvKc RX7 42 = some (42, .inl 1000000) := by unfold pvKc; rw [pvK_7]; rfl
theorem pkn_X1_76 : pvKc RX1 76 = none := by unfold pvKc; rw [pvK_1]; rfl
theorem ptx_X1_76 : pvTx RX1 76 = some (76, 3) := by unfold pvTx; rw [pvK_1]; rfl
theorem pkn_X8_91 : pvKc RX8 91 = none := by unfold pvKc; rw [pvK_8]; rfl
theorem ptx_X8_91 : pvTx RX8 91 = some (91, 2) := by unfold pvTx; rw [pvK_8]; rfl
theorem pkn_X9_54 : pvKc RX9 54 = none := by unfold pvKc; rw [pvK_9]; rfl
theorem ptx_X9_54 : pvTx RX9 54 = some (54, 4) := by unfold pvTx; rw [pvK_9]; rfl
theorem pcv_X10_94 : pvCq RX10 94 = some (94, 0, 6, 1, qX6_begin) := by unfold pvCq; rw [pvK_10]; rfl
theorem pcv_X10_104 : pvCq RX10 104 = some (104, 0, 7, 1, qX7_put) := by unfold pvCq; rw [pvK_10]; rfl
theorem pcv_X10_108 : pvCq RX10 108 = some (108, 0, 10, 2, qX10_openText) := by unfold pvCq; rw [pvK_10]; rfl
theorem pcv_X10_112 : pvCq RX10 112 = some (112, 0, 8, 1, qX8_read) := by unfold pvCq; rw [pvK_10]; rfl
theorem pcv_X10_119 : pvCq RX10 119 = some (119, 0, 8, 1, qX8_copyFrom) := by unfold pvCq; rw [pvK_10]; rfl
theorem pcv_X10_122 : pvCq RX10 122 = some (122, 0, 1, 0, qX1_clear) := by unfold pvCq; rw [pvK_10]; rfl
theorem pcv_X10_125 : pvCq RX10 125 = some (125, 0, 2, 0, qX2_clear) := by unfold pvCq; rw [pvK_10]; rfl
theorem pcv_X10_135 : pvCq RX10 135 = some (135, 0, 3, 0, qX3_forget) := by unfold pvCq; rw [pvK_10]; rfl
theorem pcv_X10_141 : pvCq RX10 141 = some (141, 0, 1, 1, qX1_read) := by unfold pvCq; rw [pvK_10]; rfl
theorem pcv_X10_142 : pvCq RX10 142 = some (142, 0, 9, 2, qX9_read) := by unfold pvCq; rw [pvK_10]; rfl
theorem pcv_X10_145 : pvCq RX10 145 = some (145, 0, 5, 0, qX5_keep) := by unfold pvCq; rw [pvK_10]; rfl
theorem pcv_X10_151 : pvCq RX10 151 = some (151, 0, 9, 5, qX9_perform) := by unfold pvCq; rw [pvK_10]; rfl
theorem pcv_X10_161 : pvCq RX10 161 = some (161, 0, 2, 1, qX2_read) := by unfold pvCq; rw [pvK_10]; rfl
theorem pcv_X10_166 : pvCq RX10 166 = some (166, 0, 5, 0, qX5_goBack) := by unfold pvCq; rw [pvK_10]; rfl
theorem pcv_X10_169 : pvCq RX10 169 = some (169, 0, 10, 3, qX10_needWithin) := by unfold pvCq; rw [pvK_10]; rfl
theorem pcs_X10_182 : pvSq RX10 182 1 qJ6_bitCount_0f7a4 := by
  unfold pvSq pvMm pvCp pvMl pvCq
  rw [pvK_10]
  exact ⟨rfl, rfl, rfl, _, _, rfl⟩
theorem pcv_X10_188 : pvCq RX10 188 = some (188, 0, 6, 1, qX6_pieces) := by unfold pvCq; rw [pvK_10]; rfl
theorem pcv_X10_197 : pvCq RX10 197 = some (197, 0, 10, 1, qX10_needLife) := by unfold pvCq; rw [pvK_10]; rfl
theorem pcv_X10_200 : pvCq RX10 200 = some (200, 0, 0, 3, qX0_yearsWhen) := by unfold pvCq; rw [pvK_10]; rfl
theorem pcv_X10_212 : pvCq RX10 212 = some (212, 0, 8, 1, qX8_renewHours) := by unfold pvCq; rw [pvK_10]; rfl
theorem pcv_X10_215 : pvCq RX10 215 = some (215, 0, 6, 1, qX6_isAlive) := by unfold pvCq; rw [pvK_10]; rfl
theorem pcv_X10_225 : pvCq RX10 225 = some (225, 0, 8, 2, qX8_factBits) := by unfold pvCq; rw [pvK_10]; rfl
theorem pcv_X10_229 : pvCq RX10 229 = some (229, 0, 0, 4, qX0_wrongWhen) := by unfold pvCq; rw [pvK_10]; rfl
theorem pcv_X10_233 : pvCq RX10 233 = some (233, 0, 1, 5, qX1_outcome) := by unfold pvCq; rw [pvK_10]; rfl
theorem pcv_X10_237 : pvCq RX10 237 = some (237, 0, 0, 2, qX0_signerDead) := by unfold pvCq; rw [pvK_10]; rfl
theorem pcv_X10_241 : pvCq RX10 241 = some (241, 0, 10, 1, qX10_piecesWrongBy) := by unfold pvCq; rw [pvK_10]; rfl
theorem pcv_X10_244 : pvCq RX10 244 = some (244, 0, 10, 1, qX10_needPart) := by unfold pvCq; rw [pvK_10]; rfl
theorem pcs_X10_253 : pvSq RX10 253 3 qX10_termOf := by
  unfold pvSq pvMm pvCp pvMl pvCq
  rw [pvK_10]
  exact ⟨rfl, rfl, rfl, _, _, rfl⟩
theorem pcv_X10_257 : pvCq RX10 257 = some (257, 0, 0, 4, qX0_costWhen) := by unfold pvCq; rw [pvK_10]; rfl
theorem pcv_X10_261 : pvCq RX10 261 = some (261, 0, 0, 2, qX0_riskWhen) := by unfold pvCq; rw [pvK_10]; rfl
theorem pcv_X10_267 : pvCq RX10 267 = some (267, 0, 0, 2, qX0_hoursFor) := by unfold pvCq; rw [pvK_10]; rfl
theorem pcv_X10_270 : pvCq RX10 270 = some (270, 0, 0, 2, qX0_savedRisk) := by unfold pvCq; rw [pvK_10]; rfl
theorem pcv_X10_273 : pvCq RX10 273 = some (273, 0, 0, 1, qX0_firstOfAll) := by unfold pvCq; rw [pvK_10]; rfl
theorem pcv_X10_277 : pvCq RX10 277 = some (277, 0, 10, 0, qX10_aheadMost) := by unfold pvCq; rw [pvK_10]; rfl
theorem pcv_X10_283 : pvCq RX10 283 = some (283, 0, 8, 2, qX8_nextChange) := by unfold pvCq; rw [pvK_10]; rfl
theorem pcv_X10_286 : pvCq RX10 286 = some (286, 0, 0, 4, qX0_lossAhead) := by unfold pvCq; rw [pvK_10]; rfl
theorem pcv_X10_289 : pvCq RX10 289 = some (289, 0, 3, 2, qX3_prepare) := by unfold pvCq; rw [pvK_10]; rfl
theorem pcv_X10_293 : pvCq RX10 293 = some (293, 0, 3, 0, qX3_leastLoss) := by unfold pvCq; rw [pvK_10]; rfl
theorem pcv_X10_297 : pvCq RX10 297 = some (297, 0, 3, 1, qX3_writtenIn) := by unfold pvCq; rw [pvK_10]; rfl
theorem pcv_X10_300 : pvCq RX10 300 = some (300, 0, 0, 3, qX0_riskAtAge) := by unfold pvCq; rw [pvK_10]; rfl
theorem pcv_X10_304 : pvCq RX10 304 = some (304, 0, 10, 2, qX10_renewalPrice) := by unfold pvCq; rw [pvK_10]; rfl
theorem pcv_X10_308 : pvCq RX10 308 = some (308, 0, 10, 4, qX10_needRumour) := by unfold pvCq; rw [pvK_10]; rfl
theorem pcs_X10_312 : pvSq RX10 312 6 qX10_meanOf := by
  unfold pvSq pvMm pvCp pvMl pvCq
  rw [pvK_10]
  exact ⟨rfl, rfl, rfl, _, _, rfl⟩
theorem pcs_X10_316 : pvSq RX10 316 5 qX10_bestWay := by
  unfold pvSq pvMm pvCp pvMl pvCq
  rw [pvK_10]
  exact ⟨rfl, rfl, rfl, _, _, rfl⟩
theorem pcv_X10_319 : pvCq RX10 319 = some (319, 0, 10, 1, qX10_needBits) := by unfold pvCq; rw [pvK_10]; rfl
theorem pcv_X10_322 : pvCq RX10 322 = some (322, 0, 10, 2, qX10_fillRoom) := by unfold pvCq; rw [pvK_10]; rfl
theorem pcs_X10_325 : pvSq RX10 325 1 qX10_roomWorth := by
  unfold pvSq pvMm pvCp pvMl pvCq
  rw [pvK_10]
  exact ⟨rfl, rfl, rfl, _, _, rfl⟩
theorem pcs_X10_328 : pvSq RX10 328 1 qX10_roomShift := by
  unfold pvSq pvMm pvCp pvMl pvCq
  rw [pvK_10]
  exact ⟨rfl, rfl, rfl, _, _, rfl⟩
theorem pcv_X10_331 : pvCq RX10 331 = some (331, 0, 10, 0, qX10_look) := by unfold pvCq; rw [pvK_10]; rfl
theorem pcv_X10_334 : pvCq RX10 334 = some (334, 0, 10, 2, qX10_tellsApart) := by unfold pvCq; rw [pvK_10]; rfl
theorem pcv_X10_338 : pvCq RX10 338 = some (338, 0, 10, 1, qX10_weeksAsPage) := by unfold pvCq; rw [pvK_10]; rfl
theorem pcv_X10_342 : pvCq RX10 342 = some (342, 0, 4, 3, qX4_play) := by unfold pvCq; rw [pvK_10]; rfl
theorem pmm_X10_352 : pvMm RX10 352 = some (352, false) := by unfold pvMm; rw [pvK_10]; rfl
theorem pmm_X10_357 : pvMm RX10 357 = some (357, true) := by unfold pvMm; rw [pvK_10]; rfl
theorem pcv_X10_360 : pvCq RX10 360 = some (360, 0, 5, 1, qX5_copyFrom) := by unfold pvCq; rw [pvK_10]; rfl
theorem pcv_X10_381 : pvCq RX10 381 = some (381, 0, 7, 1, qX7_open) := by unfold pvCq; rw [pvK_10]; rfl
theorem pcs_X10_384 : pvSq RX10 384 2 qJ7_fill_53178 := by
  unfold pvSq pvMm pvCp pvMl pvCq
  rw [pvK_10]
  exact ⟨rfl, rfl, rfl, _, _, rfl⟩
theorem pcv_X10_390 : pvCq RX10 390 = some (390, 0, 10, 2, qX10_addToRoom) := by unfold pvCq; rw [pvK_10]; rfl
theorem pcv_X10_394 : pvCq RX10 394 = some (394, 0, 2, 1, qX2_fits) := by unfold pvCq; rw [pvK_10]; rfl
theorem pcv_X0_38 : pvCq RX0 38 = some (38, 0, 6, 1, qX6_isAlive) := by unfold pvCq; rw [pvK_0]; rfl
theorem pcv_X0_42 : pvCq RX0 42 = some (42, 0, 8, 3, qX8_changesBetween) := by unfold pvCq; rw [pvK_0]; rfl
theorem pcv_X0_46 : pvCq RX0 46 = some (46, 0, 0, 3, qX0_yearsWhen) := by unfold pvCq; rw [pvK_0]; rfl
theorem pcv_X0_53 : pvCq RX0 53 = some (53, 0, 0, 2, qX0_signerDead) := by unfold pvCq; rw [pvK_0]; rfl
theorem pcv_X0_57 : pvCq RX0 57 = some (57, 0, 1, 5, qX1_outcome) := by unfold pvCq; rw [pvK_0]; rfl
theorem pcv_X0_71 : pvCq RX0 71 = some (71, 0, 0, 4, qX0_wrongWhen) := by unfold pvCq; rw [pvK_0]; rfl
theorem pcv_X0_84 : pvCq RX0 84 = some (84, 0, 0, 4, qX0_costWhen) := by unfold pvCq; rw [pvK_0]; rfl
theorem pcv_X0_91 : pvCq RX0 91 = some (91, 0, 8, 1, qX8_renewHours) := by unfold pvCq; rw [pvK_0]; rfl
theorem pcv_X0_95 : pvCq RX0 95 = some (95, 0, 0, 2, qX0_canBePut) := by unfold pvCq; rw [pvK_0]; rfl
theorem pln_X0_99 : pvMm RX0 99 = none := by unfold pvMm; rw [pvK_0]; rfl
theorem plc_X0_99 : pvCp RX0 99 = false := by unfold pvCp; rw [pvK_0]; rfl
theorem pml_X0_99 : pvMl RX0 99 = some (99, true) := by unfold pvMl; rw [pvK_0]; rfl
theorem pcv_X0_105 : pvCq RX0 105 = some (105, 0, 0, 2, qX0_savedRisk) := by unfold pvCq; rw [pvK_0]; rfl
theorem pcv_X0_109 : pvCq RX0 109 = some (109, 0, 0, 3, qX0_firstOf) := by unfold pvCq; rw [pvK_0]; rfl
theorem pcv_X0_113 : pvCq RX0 113 = some (113, 0, 0, 2, qX0_hoursFor) := by unfold pvCq; rw [pvK_0]; rfl
theorem pmm_X0_125 : pvMm RX0 125 = some (125, true) := by unfold pvMm; rw [pvK_0]; rfl
theorem pcv_X1_21 : pvCq RX1 21 = some (21, 0, 1, 0, qX1_clear) := by unfold pvCq; rw [pvK_1]; rfl
theorem pcv_X1_31 : pvCq RX1 31 = some (31, 0, 1, 2, qX1_readSum) := by unfold pvCq; rw [pvK_1]; rfl
theorem pcv_X1_35 : pvCq RX1 35 = some (35, 0, 7, 0, qX7_peek) := by unfold pvCq; rw [pvK_1]; rfl
theorem pcv_X1_44 : pvCq RX1 44 = some (44, 0, 7, 2, qX7_fail) := by unfold pvCq; rw [pvK_1]; rfl
theorem pcm_X1_48 : pvMm RX1 48 = none := by unfold pvMm; rw [pvK_1]; rfl
theorem pcc_X1_48 : pvCp RX1 48 = true := by unfold pvCp; rw [pvK_1]; rfl
theorem pcv_X1_54 : pvCq RX1 54 = some (54, 0, 1, 2, qX1_readProduct) := by unfold pvCq; rw [pvK_1]; rfl
theorem pcv_X1_57 : pvCq RX1 57 = some (57, 0, 1, 1, qX1_emit) := by unfold pvCq; rw [pvK_1]; rfl
theorem pcv_X1_61 : pvCq RX1 61 = some (61, 0, 1, 2, qX1_readUnit) := by unfold pvCq; rw [pvK_1]; rfl
theorem pcv_X1_64 : pvCq RX1 64 = some (64, 0, 7, 1, qX7_takeSign) := by unfold pvCq; rw [pvK_1]; rfl
theorem pcv_X1_68 : pvCq RX1 68 = some (68, 0, 7, 2, qX7_takeNumber) := by unfold pvCq; rw [pvK_1]; rfl
theorem pcv_X1_72 : pvCq RX1 72 = some (72, 0, 7, 0, qX7_failed) := by unfold pvCq; rw [pvK_1]; rfl
theorem pcv_X1_78 : pvCq RX1 78 = some (78, 0, 7, 1, qX7_takeWord) := by unfold pvCq; rw [pvK_1]; rfl
theorem pcv_X1_82 : pvCq RX1 82 = some (82, 0, 1, 2, qX1_readTwo) := by unfold pvCq; rw [pvK_1]; rfl
theorem pcs_X1_85 : pvSq RX1 85 3 qX1_joined := by
  unfold pvSq pvMm pvCp pvMl pvCq
  rw [pvK_1]
  exact ⟨rfl, rfl, rfl, _, _, rfl⟩
theorem pmm_X1_89 : pvMm RX1 89 = some (89, false) := by unfold pvMm; rw [pvK_1]; rfl
theorem pmm_X1_94 : pvMm RX1 94 = some (94, true) := by unfold pvMm; rw [pvK_1]; rfl
theorem pcv_X2_21 : pvCq RX2 21 = some (21, 0, 7, 0, qX7_peek) := by unfold pvCq; rw [pvK_2]; rfl
theorem pcv_X2_27 : pvCq RX2 27 = some (27, 0, 7, 0, qX7_nextPlace) := by unfold pvCq; rw [pvK_2]; rfl
theorem pcv_X2_30 : pvCq RX2 30 = some (30, 0, 7, 2, qX7_takeNumber) := by unfold pvCq; rw [pvK_2]; rfl
theorem pcv_X2_34 : pvCq RX2 34 = some (34, 0, 7, 2, qX7_fail) := by unfold pvCq; rw [pvK_2]; rfl
theorem pcv_X2_38 : pvCq RX2 38 = some (38, 0, 7, 1, qX7_takeSign) := by unfold pvCq; rw [pvK_2]; rfl
theorem pcv_X2_42 : pvCq RX2 42 = some (42, 0, 7, 0, qX7_failed) := by unfold pvCq; rw [pvK_2]; rfl
theorem pcs_X2_46 : pvSq RX2 46 1 qJ6_bitCount_0f7a4 := by
  unfold pvSq pvMm pvCp pvMl pvCq
  rw [pvK_2]
  exact ⟨rfl, rfl, rfl, _, _, rfl⟩
theorem pcs_X3_37 : pvSq RX3 37 1 qX3_keyShift := by
  unfold pvSq pvMm pvCp pvMl pvCq
  rw [pvK_3]
  exact ⟨rfl, rfl, rfl, _, _, rfl⟩
theorem pcs_X3_41 : pvSq RX3 41 2 qJ7_fill_d0a16 := by
  unfold pvSq pvMm pvCp pvMl pvCq
  rw [pvK_3]
  exact ⟨rfl, rfl, rfl, _, _, rfl⟩
theorem pmm_X3_63 : pvMm RX3 63 = some (63, false) := by unfold pvMm; rw [pvK_3]; rfl
theorem pmm_X3_69 : pvMm RX3 69 = some (69, true) := by unfold pvMm; rw [pvK_3]; rfl
theorem pcv_X3_75 : pvCq RX3 75 = some (75, 0, 6, 1, qX6_isAlive) := by unfold pvCq; rw [pvK_3]; rfl
theorem pcv_X3_82 : pvCq RX3 82 = some (82, 0, 3, 3, qX3_weighWays) := by unfold pvCq; rw [pvK_3]; rfl
theorem pcv_X3_86 : pvCq RX3 86 = some (86, 0, 3, 1, qX3_addLife) := by unfold pvCq; rw [pvK_3]; rfl
theorem pcs_X3_90 : pvSq RX3 90 3 qX3_cellOf := by
  unfold pvSq pvMm pvCp pvMl pvCq
  rw [pvK_3]
  exact ⟨rfl, rfl, rfl, _, _, rfl⟩
theorem pcv_X3_97 : pvCq RX3 97 = some (97, 0, 3, 2, qX3_hoursAtAge) := by unfold pvCq; rw [pvK_3]; rfl
theorem pcv_X3_100 : pvCq RX3 100 = some (100, 0, 0, 4, qX0_lossAhead) := by unfold pvCq; rw [pvK_3]; rfl
theorem pcv_X3_106 : pvCq RX3 106 = some (106, 0, 8, 1, qX8_renewHours) := by unfold pvCq; rw [pvK_3]; rfl
theorem pcv_X3_109 : pvCq RX3 109 = some (109, 0, 3, 4, qX3_leastOf) := by unfold pvCq; rw [pvK_3]; rfl
theorem pln_X3_113 : pvMm RX3 113 = none := by unfold pvMm; rw [pvK_3]; rfl
theorem plc_X3_113 : pvCp RX3 113 = false := by unfold pvCp; rw [pvK_3]; rfl
theorem pml_X3_113 : pvMl RX3 113 = some (113, false) := by unfold pvMl; rw [pvK_3]; rfl
theorem pcv_X4_26 : pvCq RX4 26 = some (26, 0, 6, 1, qX6_copyFrom) := by unfold pvCq; rw [pvK_4]; rfl
theorem pcv_X4_47 : pvCq RX4 47 = some (47, 0, 4, 0, qX4_drawDeaths) := by unfold pvCq; rw [pvK_4]; rfl
theorem pcv_X4_50 : pvCq RX4 50 = some (50, 0, 4, 0, qX4_putFirsts) := by unfold pvCq; rw [pvK_4]; rfl
theorem pcv_X4_53 : pvCq RX4 53 = some (53, 0, 0, 1, qX0_passWeek) := by unfold pvCq; rw [pvK_4]; rfl
theorem pcv_X4_69 : pvCq RX4 69 = some (69, 0, 6, 1, qX6_isAlive) := by unfold pvCq; rw [pvK_4]; rfl
theorem pcv_X4_73 : pvCq RX4 73 = some (73, 0, 4, 0, qX4_drawOf64) := by unfold pvCq; rw [pvK_4]; rfl
theorem pcv_X4_81 : pvCq RX4 81 = some (81, 0, 0, 2, qX0_letDie) := by unfold pvCq; rw [pvK_4]; rfl
theorem pcv_X4_85 : pvCq RX4 85 = some (85, 0, 0, 2, qX0_savedRisk) := by unfold pvCq; rw [pvK_4]; rfl
theorem pcv_X4_92 : pvCq RX4 92 = some (92, 0, 0, 3, qX0_firstOf) := by unfold pvCq; rw [pvK_4]; rfl
theorem pcv_X4_96 : pvCq RX4 96 = some (96, 0, 0, 2, qX0_putPiece) := by unfold pvCq; rw [pvK_4]; rfl
theorem pcv_X5_26 : pvCq RX5 26 = some (26, 0, 6, 1, qX6_copyFrom) := by unfold pvCq; rw [pvK_5]; rfl
theorem pcm_X6_20 : pvMm RX6 20 = none := by unfold pvMm; rw [pvK_6]; rfl
theorem pcc_X6_20 : pvCp RX6 20 = true := by unfold pvCp; rw [pvK_6]; rfl
theorem pcv_X7_31 : pvCq RX7 31 = some (31, 0, 7, 0, qX7_peek) := by unfold pvCq; rw [pvK_7]; rfl
theorem pcv_X7_35 : pvCq RX7 35 = some (35, 0, 7, 2, qX7_fail) := by unfold pvCq; rw [pvK_7]; rfl
theorem pcv_X7_39 : pvCq RX7 39 = some (39, 0, 7, 0, qX7_nextPlace) := by unfold pvCq; rw [pvK_7]; rfl
theorem pmm_X7_43 : pvMm RX7 43 = some (43, false) := by unfold pvMm; rw [pvK_7]; rfl
theorem pcv_X7_49 : pvCq RX7 49 = some (49, 0, 7, 3, qX7_find) := by unfold pvCq; rw [pvK_7]; rfl
theorem pcv_X8_39 : pvCq RX8 39 = some (39, 0, 8, 0, qX8_clear) := by unfold pvCq; rw [pvK_8]; rfl
theorem pcm_X8_61 : pvMm RX8 61 = none := by unfold pvMm; rw [pvK_8]; rfl
theorem pcc_X8_61 : pvCp RX8 61 = true := by unfold pvCp; rw [pvK_8]; rfl
theorem pcv_X8_67 : pvCq RX8 67 = some (67, 0, 7, 0, qX7_peek) := by unfold pvCq; rw [pvK_8]; rfl
theorem pcv_X8_73 : pvCq RX8 73 = some (73, 0, 8, 2, qX8_readClause) := by unfold pvCq; rw [pvK_8]; rfl
theorem pcv_X8_77 : pvCq RX8 77 = some (77, 0, 7, 1, qX7_takeSign) := by unfold pvCq; rw [pvK_8]; rfl
theorem pcv_X8_84 : pvCq RX8 84 = some (84, 0, 7, 2, qX7_fail) := by unfold pvCq; rw [pvK_8]; rfl
theorem pcv_X8_88 : pvCq RX8 88 = some (88, 0, 7, 0, qX7_nextPlace) := by unfold pvCq; rw [pvK_8]; rfl
theorem pcv_X8_93 : pvCq RX8 93 = some (93, 0, 7, 1, qX7_takeWord) := by unfold pvCq; rw [pvK_8]; rfl
theorem pcv_X8_97 : pvCq RX8 97 = some (97, 0, 8, 1, qX8_readLife) := by unfold pvCq; rw [pvK_8]; rfl
theorem pcv_X8_101 : pvCq RX8 101 = some (101, 0, 8, 1, qX8_readHas) := by unfold pvCq; rw [pvK_8]; rfl
theorem pcv_X8_104 : pvCq RX8 104 = some (104, 0, 8, 1, qX8_readBy) := by unfold pvCq; rw [pvK_8]; rfl
theorem pcv_X8_107 : pvCq RX8 107 = some (107, 0, 8, 1, qX8_readFact) := by unfold pvCq; rw [pvK_8]; rfl
theorem pcv_X8_110 : pvCq RX8 110 = some (110, 0, 8, 2, qX8_readRule) := by unfold pvCq; rw [pvK_8]; rfl
theorem pcv_X8_113 : pvCq RX8 113 = some (113, 0, 7, 2, qX7_takeNumber) := by unfold pvCq; rw [pvK_8]; rfl
theorem pcv_X8_117 : pvCq RX8 117 = some (117, 0, 7, 0, qX7_failed) := by unfold pvCq; rw [pvK_8]; rfl
theorem pmm_X8_121 : pvMm RX8 121 = some (121, true) := by unfold pvMm; rw [pvK_8]; rfl
theorem pcv_X9_34 : pvCq RX9 34 = some (34, 0, 9, 3, qX9_readSteps) := by unfold pvCq; rw [pvK_9]; rfl
theorem pcv_X9_38 : pvCq RX9 38 = some (38, 0, 7, 0, qX7_peek) := by unfold pvCq; rw [pvK_9]; rfl
theorem pcv_X9_44 : pvCq RX9 44 = some (44, 0, 9, 3, qX9_readStep) := by unfold pvCq; rw [pvK_9]; rfl
theorem pcv_X9_47 : pvCq RX9 47 = some (47, 0, 7, 1, qX7_takeSign) := by unfold pvCq; rw [pvK_9]; rfl
theorem pcv_X9_51 : pvCq RX9 51 = some (51, 0, 7, 0, qX7_nextPlace) := by unfold pvCq; rw [pvK_9]; rfl
theorem pcv_X9_56 : pvCq RX9 56 = some (56, 0, 7, 1, qX7_takeWord) := by unfold pvCq; rw [pvK_9]; rfl
theorem pcv_X9_60 : pvCq RX9 60 = some (60, 0, 7, 2, qX7_fail) := by unfold pvCq; rw [pvK_9]; rfl
theorem pcv_X9_64 : pvCq RX9 64 = some (64, 0, 9, 4, qX9_readAgain) := by unfold pvCq; rw [pvK_9]; rfl
theorem pcv_X9_68 : pvCq RX9 68 = some (68, 0, 7, 2, qX7_takeNumber) := by unfold pvCq; rw [pvK_9]; rfl
theorem pcv_X9_72 : pvCq RX9 72 = some (72, 0, 7, 0, qX7_failed) := by unfold pvCq; rw [pvK_9]; rfl
theorem pcv_X9_76 : pvCq RX9 76 = some (76, 0, 9, 5, qX9_perform) := by unfold pvCq; rw [pvK_9]; rfl
theorem pmm_X9_80 : pvMm RX9 80 = some (80, true) := by unfold pvMm; rw [pvK_9]; rfl
theorem pcs_X9_85 : pvSq RX9 85 4 qX9_performStep := by
  unfold pvSq pvMm pvCp pvMl pvCq
  rw [pvK_9]
  exact ⟨rfl, rfl, rfl, _, _, rfl⟩
theorem pcv_X9_94 : pvCq RX9 94 = some (94, 0, 0, 2, qX0_putPiece) := by unfold pvCq; rw [pvK_9]; rfl
theorem pcv_X9_100 : pvCq RX9 100 = some (100, 0, 0, 2, qX0_letDie) := by unfold pvCq; rw [pvK_9]; rfl
theorem pcv_X9_103 : pvCq RX9 103 = some (103, 0, 0, 1, qX0_passWeek) := by unfold pvCq; rw [pvK_9]; rfl
theorem pcv_X11_95 : pvCq RX11 95 = some (95, 0, 11, 0, qX11_tellsNothing) := by unfold pvCq; rw [pvK_11]; rfl
theorem pcv_X11_98 : pvCq RX11 98 = some (98, 0, 11, 0, qX11_stands) := by unfold pvCq; rw [pvK_11]; rfl
theorem pcv_X11_113 : pvCq RX11 113 = some (113, 0, 11, 1, qX11_byteAt) := by unfold pvCq; rw [pvK_11]; rfl
theorem pcv_X11_123 : pvCq RX11 123 = some (123, 0, 11, 0, qX11_blanks) := by unfold pvCq; rw [pvK_11]; rfl
theorem pcs_X11_126 : pvSq RX11 126 1 qX11_isDigit := by
  unfold pvSq pvMm pvCp pvMl pvCq
  rw [pvK_11]
  exact ⟨rfl, rfl, rfl, _, _, rfl⟩
theorem pcv_X11_130 : pvCq RX11 130 = some (130, 0, 11, 2, qX11_wrongAt) := by unfold pvCq; rw [pvK_11]; rfl
theorem pcs_X11_135 : pvSq RX11 135 3 qX11_in := by
  unfold pvSq pvMm pvCp pvMl pvCq
  rw [pvK_11]
  exact ⟨rfl, rfl, rfl, _, _, rfl⟩
theorem pcs_X11_139 : pvSq RX11 139 1 qX11_isSmall := by
  unfold pvSq pvMm pvCp pvMl pvCq
  rw [pvK_11]
  exact ⟨rfl, rfl, rfl, _, _, rfl⟩
theorem pcv_X11_142 : pvCq RX11 142 = some (142, 0, 11, 0, qX11_wordHere) := by unfold pvCq; rw [pvK_11]; rfl
theorem pcs_X11_146 : pvSq RX11 146 5 qX11_five := by
  unfold pvSq pvMm pvCp pvMl pvCq
  rw [pvK_11]
  exact ⟨rfl, rfl, rfl, _, _, rfl⟩
theorem pcv_X11_150 : pvCq RX11 150 = some (150, 0, 11, 5, qX11_isWord) := by unfold pvCq; rw [pvK_11]; rfl
theorem pcv_X11_154 : pvCq RX11 154 = some (154, 0, 11, 0, qX11_skipWord) := by unfold pvCq; rw [pvK_11]; rfl
theorem pcv_X11_163 : pvCq RX11 163 = some (163, 0, 11, 2, qX11_number) := by unfold pvCq; rw [pvK_11]; rfl
theorem pcv_X11_167 : pvCq RX11 167 = some (167, 0, 11, 0, qX11_kindHere) := by unfold pvCq; rw [pvK_11]; rfl
theorem pcv_X11_170 : pvCq RX11 170 = some (170, 0, 11, 0, qX11_lifeHere) := by unfold pvCq; rw [pvK_11]; rfl
theorem pcv_X11_173 : pvCq RX11 173 = some (173, 0, 11, 1, qX11_sign) := by unfold pvCq; rw [pvK_11]; rfl
theorem pcv_X11_177 : pvCq RX11 177 = some (177, 0, 11, 3, qX11_bad) := by unfold pvCq; rw [pvK_11]; rfl
theorem pcv_X11_181 : pvCq RX11 181 = some (181, 0, 11, 1, qX11_starts) := by unfold pvCq; rw [pvK_11]; rfl
theorem pcv_X11_184 : pvCq RX11 184 = some (184, 0, 11, 0, qX11_clause) := by unfold pvCq; rw [pvK_11]; rfl
theorem pcv_X11_187 : pvCq RX11 187 = some (187, 0, 11, 0, qX11_ends) := by unfold pvCq; rw [pvK_11]; rfl
theorem pcs_X11_190 : pvSq RX11 190 3 qX11_lays := by
  unfold pvSq pvMm pvCp pvMl pvCq
  rw [pvK_11]
  exact ⟨rfl, rfl, rfl, _, _, rfl⟩
theorem pcv_X11_212 : pvCq RX11 212 = some (212, 0, 11, 0, qX11_product) := by unfold pvCq; rw [pvK_11]; rfl
theorem pcv_X11_215 : pvCq RX11 215 = some (215, 0, 11, 1, qX11_takesSign) := by unfold pvCq; rw [pvK_11]; rfl
theorem pcv_X11_218 : pvCq RX11 218 = some (218, 0, 11, 2, qX11_notes) := by unfold pvCq; rw [pvK_11]; rfl
theorem pcv_X11_221 : pvCq RX11 221 = some (221, 0, 11, 0, qX11_one) := by unfold pvCq; rw [pvK_11]; rfl
theorem pcv_X11_224 : pvCq RX11 224 = some (224, 0, 11, 5, qX11_takes) := by unfold pvCq; rw [pvK_11]; rfl
theorem pcv_X11_227 : pvCq RX11 227 = some (227, 0, 11, 0, qX11_opens) := by unfold pvCq; rw [pvK_11]; rfl
theorem pcv_X11_231 : pvCq RX11 231 = some (231, 0, 11, 0, qX11_sum) := by unfold pvCq; rw [pvK_11]; rfl
theorem pcv_X11_234 : pvCq RX11 234 = some (234, 0, 11, 0, qX11_knownHere) := by unfold pvCq; rw [pvK_11]; rfl
theorem pmm_X11_237 : pvMm RX11 237 = some (237, false) := by unfold pvMm; rw [pvK_11]; rfl
theorem pmm_X11_240 : pvMm RX11 240 = some (240, true) := by unfold pvMm; rw [pvK_11]; rfl
theorem pcs_X11_243 : pvSq RX11 243 3 qX11_by := by
  unfold pvSq pvMm pvCp pvMl pvCq
  rw [pvK_11]
  exact ⟨rfl, rfl, rfl, _, _, rfl⟩
theorem pcv_X11_247 : pvCq RX11 247 = some (247, 0, 11, 0, qX11_stepHere) := by unfold pvCq; rw [pvK_11]; rfl
theorem pcv_X11_253 : pvCq RX11 253 = some (253, 0, 11, 0, qX11_readsStep) := by unfold pvCq; rw [pvK_11]; rfl
theorem pcs_X11_256 : pvSq RX11 256 2 qX11_has := by
  unfold pvSq pvMm pvCp pvMl pvCq
  rw [pvK_11]
  exact ⟨rfl, rfl, rfl, _, _, rfl⟩
theorem pcv_X11_260 : pvCq RX11 260 = some (260, 0, 11, 0, qX11_byLaw) := by unfold pvCq; rw [pvK_11]; rfl
theorem pcv_X11_263 : pvCq RX11 263 = some (263, 0, 11, 2, qX11_yearsOf) := by unfold pvCq; rw [pvK_11]; rfl
theorem pcv_X11_266 : pvCq RX11 266 = some (266, 0, 11, 2, qX11_isByDead) := by unfold pvCq; rw [pvK_11]; rfl
theorem pcv_X11_270 : pvCq RX11 270 = some (270, 0, 11, 3, qX11_changesOf) := by unfold pvCq; rw [pvK_11]; rfl
theorem pcv_X11_273 : pvCq RX11 273 = some (273, 0, 11, 5, qX11_wrongBy) := by unfold pvCq; rw [pvK_11]; rfl
theorem pcv_X11_276 : pvCq RX11 276 = some (276, 0, 11, 4, qX11_wrongIn) := by unfold pvCq; rw [pvK_11]; rfl
theorem pcv_X11_280 : pvCq RX11 280 = some (280, 0, 11, 4, qX11_costIn) := by unfold pvCq; rw [pvK_11]; rfl
theorem pcs_X11_283 : pvSq RX11 283 2 qX11_hasPiece := by
  unfold pvSq pvMm pvCp pvMl pvCq
  rw [pvK_11]
  exact ⟨rfl, rfl, rfl, _, _, rfl⟩
theorem pcv_X11_287 : pvCq RX11 287 = some (287, 0, 11, 1, qX11_renewHours) := by unfold pvCq; rw [pvK_11]; rfl
theorem pcv_X11_290 : pvCq RX11 290 = some (290, 0, 11, 2, qX11_hoursFor) := by unfold pvCq; rw [pvK_11]; rfl
theorem pcv_X11_293 : pvCq RX11 293 = some (293, 0, 11, 2, qX11_costOf) := by unfold pvCq; rw [pvK_11]; rfl
theorem pcv_X11_296 : pvCq RX11 296 = some (296, 0, 11, 2, qX11_mayWrite) := by unfold pvCq; rw [pvK_11]; rfl
theorem pcv_X11_299 : pvCq RX11 299 = some (299, 0, 11, 2, qX11_writes) := by unfold pvCq; rw [pvK_11]; rfl
theorem pcv_X11_303 : pvCq RX11 303 = some (303, 0, 11, 2, qX11_dies) := by unfold pvCq; rw [pvK_11]; rfl
theorem pcv_X11_306 : pvCq RX11 306 = some (306, 0, 11, 1, qX11_weekEnds) := by unfold pvCq; rw [pvK_11]; rfl
theorem pcv_X11_313 : pvCq RX11 313 = some (313, 0, 11, 2, qX11_goes) := by unfold pvCq; rw [pvK_11]; rfl
theorem pcv_X11_316 : pvCq RX11 316 = some (316, 0, 11, 2, qX11_does) := by unfold pvCq; rw [pvK_11]; rfl
theorem pcs_X11_323 : pvSq RX11 323 2 qX11_copies := by
  unfold pvSq pvMm pvCp pvMl pvCq
  rw [pvK_11]
  exact ⟨rfl, rfl, rfl, _, _, rfl⟩
theorem pcv_X11_327 : pvCq RX11 327 = some (327, 0, 11, 1, qX11_aliveIn) := by unfold pvCq; rw [pvK_11]; rfl
theorem pcv_X11_331 : pvCq RX11 331 = some (331, 0, 11, 1, qX11_isLife) := by unfold pvCq; rw [pvK_11]; rfl
theorem pcv_X11_334 : pvCq RX11 334 = some (334, 0, 11, 2, qX11_factsAt) := by unfold pvCq; rw [pvK_11]; rfl
theorem pcv_X11_337 : pvCq RX11 337 = some (337, 0, 11, 1, qX11_wrongOf) := by unfold pvCq; rw [pvK_11]; rfl
theorem pcv_X11_340 : pvCq RX11 340 = some (340, 0, 11, 2, qX11_noPart) := by unfold pvCq; rw [pvK_11]; rfl
theorem pcs_X11_345 : pvSq RX11 345 3 qX11_partOf := by
  unfold pvSq pvMm pvCp pvMl pvCq
  rw [pvK_11]
  exact ⟨rfl, rfl, rfl, _, _, rfl⟩
theorem pcv_X11_349 : pvCq RX11 349 = some (349, 0, 11, 1, qX11_riskOf) := by unfold pvCq; rw [pvK_11]; rfl
theorem pcv_X11_355 : pvCq RX11 355 = some (355, 0, 11, 2, qX11_saved) := by unfold pvCq; rw [pvK_11]; rfl
theorem pcv_X11_358 : pvCq RX11 358 = some (358, 0, 11, 2, qX11_firstOf) := by unfold pvCq; rw [pvK_11]; rfl
theorem pcs_X11_365 : pvSq RX11 365 2 qX11_power := by
  unfold pvSq pvMm pvCp pvMl pvCq
  rw [pvK_11]
  exact ⟨rfl, rfl, rfl, _, _, rfl⟩
theorem pcs_X11_369 : pvSq RX11 369 3 qX11_roomOf := by
  unfold pvSq pvMm pvCp pvMl pvCq
  rw [pvK_11]
  exact ⟨rfl, rfl, rfl, _, _, rfl⟩
theorem pcv_X11_374 : pvCq RX11 374 = some (374, 0, 11, 3, qX11_isOption) := by unfold pvCq; rw [pvK_11]; rfl
theorem pcv_X11_377 : pvCq RX11 377 = some (377, 0, 11, 2, qX11_laysOption) := by unfold pvCq; rw [pvK_11]; rfl
theorem pcv_X11_380 : pvCq RX11 380 = some (380, 0, 11, 1, qX11_laysBest) := by unfold pvCq; rw [pvK_11]; rfl
theorem pcv_X11_385 : pvCq RX11 385 = some (385, 0, 11, 3, qX11_oftenBy) := by unfold pvCq; rw [pvK_11]; rfl
theorem pcs_X11_389 : pvSq RX11 389 4 qX11_isRumour := by
  unfold pvSq pvMm pvCp pvMl pvCq
  rw [pvK_11]
  exact ⟨rfl, rfl, rfl, _, _, rfl⟩
theorem pcs_X11_393 : pvSq RX11 393 6 qX11_bringsBy := by
  unfold pvSq pvMm pvCp pvMl pvCq
  rw [pvK_11]
  exact ⟨rfl, rfl, rfl, _, _, rfl⟩
theorem pcs_X11_397 : pvSq RX11 397 5 qX11_saysBy := by
  unfold pvSq pvMm pvCp pvMl pvCq
  rw [pvK_11]
  exact ⟨rfl, rfl, rfl, _, _, rfl⟩
theorem pcv_X11_403 : pvCq RX11 403 = some (403, 0, 11, 4, qX11_rooms) := by unfold pvCq; rw [pvK_11]; rfl
theorem pcv_X11_407 : pvCq RX11 407 = some (407, 0, 11, 1, qX11_areLives) := by unfold pvCq; rw [pvK_11]; rfl
theorem pcv_X11_410 : pvCq RX11 410 = some (410, 0, 11, 2, qX11_laysRoom) := by unfold pvCq; rw [pvK_11]; rfl
theorem pcv_X11_413 : pvCq RX11 413 = some (413, 0, 11, 2, qX11_isApart) := by unfold pvCq; rw [pvK_11]; rfl
theorem pcs_X11_416 : pvSq RX11 416 1 qX11_ones := by
  unfold pvSq pvMm pvCp pvMl pvCq
  rw [pvK_11]
  exact ⟨rfl, rfl, rfl, _, _, rfl⟩
theorem pcv_X11_419 : pvCq RX11 419 = some (419, 0, 11, 1, qX11_writtenOf) := by unfold pvCq; rw [pvK_11]; rfl
theorem pcv_X11_423 : pvCq RX11 423 = some (423, 0, 11, 1, qX11_riskIn) := by unfold pvCq; rw [pvK_11]; rfl
theorem pcv_X11_433 : pvCq RX11 433 = some (433, 0, 11, 2, qX11_yearsBy) := by unfold pvCq; rw [pvK_11]; rfl
theorem pcv_X11_439 : pvCq RX11 439 = some (439, 0, 11, 3, qX11_puts) := by unfold pvCq; rw [pvK_11]; rfl
theorem pcv_X11_443 : pvCq RX11 443 = some (443, 0, 11, 2, qX11_putsAll) := by unfold pvCq; rw [pvK_11]; rfl
theorem pcq_X7_53 : pvCq RX7 53 = some (53, 2, 0, 0, qJ0_length_8abf5) := by unfold pvCq; rw [pvK_7]; rfl
theorem pcq_X7_57 : pvCq RX7 57 = some (57, 3, 0, 1, qJ0_charAt_5068e) := by unfold pvCq; rw [pvK_7]; rfl
end
-- P 10i
section
def invXl : List (List scI) := [[((-2147483648), 2147483647), ((-2147483648), 2147483647), ((-2147483648), 2147483647), ((-2147483648), 2147483647), ((-2147483648), 2147483647), ((-2147483648), 2147483647), ((-2147483648), 2147483647), ((-2147483648), 2147483647), ((-2147483648), 2147483647), ((-2147483648), 2147483647), ((-2147483648), 2147483647), ((-2147483648), 2147483647), ((-2147483648), 2147483647), (0, 3), ((-2147483648), 2147483647), ((-2147483648), 2147483647), ((-2147483648), 2147483647)], [((-2147483648), 2147483647), (0, 600), (0, 600), (0, 600), (0, 3), ((-1), 600)], [((-128), 127)], [((-2147483648), 2147483647), ((-2147483648), 2147483647), ((-2147483648), 2147483647), ((-2147483648), 2147483647), ((-2147483648), 2147483647), ((-2147483648), 2147483647), ((-2147483648), 2147483647), ((-2147483648), 2147483647), ((-2147483648), 2147483647), (0, 8), (0, 24), ((-1), 12), ((-1), 9), ((-1), 9), ((-1), 4)], [(0, 110)], [(0, 64)], [(0, 99)], [(0, 9)], [((-1), 40)], [((-1), 7)], [(0, 7)], [(0, 5)], [(0, 60)], [((-2147483648), 2147483647), ((-2147483648), 2147483647), ((-2147483648), 2147483647), ((-2147483648), 2147483647), ((-2147483648), 2147483647), ((-2147483648), 2147483647), ((-2147483648), 2147483647), ((-2147483648), 2147483647), ((-2147483648), 2147483647), (0, 8), (0, 24), ((-1), 12), ((-1), 9), ((-1), 9), ((-1), 4)], [(0, 110)], [(0, 64)], [(0, 99)], [(0, 9)], [((-1), 40)], [((-1), 7)], [(0, 7)], [(0, 5)], [(0, 60)], [((-2147483648), 2147483647), ((-2147483648), 2147483647), ((-2147483648), 2147483647), (0, 150), (0, 150)], [((-2147483648), 2147483647)], [((-2147483648), 2147483647)], [((-2147483648), 2147483647)], [((-2147483648), 2147483647)], [((-2147483648), 2147483647), ((-2147483648), 2147483647), ((-2147483648), 2147483647), (0, 150), (0, 200), ((-2147483648), 2147483647), ((-2147483648), 2147483647)], [(0, 4)], [((-1), 20)], [(0, 150)], [((-2147483648), 2147483647)], [((-2147483648), 2147483647)], [((-2147483648), 2147483647)], [((-2147483648), 2147483647)], [((-2147483648), 2147483647)], [(0, 99)], [(0, 12)], [((-2147483648), 2147483647)], [((-2147483648), 2147483647)], [((-2147483648), 2147483647), ((-2147483648), 2147483647), (0, 200), ((-2147483648), 2147483647), ((-2147483648), 2147483647), ((-2147483648), 2147483647), ((-2147483648), 2147483647)], [((-2147483648), 2147483647)], [((-2147483648), 2147483647)], [((-2147483648), 2147483647)], [((-2147483648), 2147483647)]]
def invXs (r : Nat) : List scI := if r = 0 then [((-2147483648), 2147483647), ((-2147483648), 2147483647), (0, 16)] else if r = 1 then [((-2147483648), 2147483647), ((-2147483648), 2147483647), (0, 200), ((-2147483648), 2147483647), ((-2147483648), 2147483647), ((-2147483648), 2147483647), ((-2147483648), 2147483647)] else if r < 4 then [scTop] else if r < 20 then [((-2147483648), 2147483647), ((-2147483648), 2147483647), (0, 200), ((-2147483648), 2147483647), ((-2147483648), 2147483647), ((-2147483648), 2147483647), ((-2147483648), 2147483647)] else [scTop]
def invX (k : Nat) : List scI := if k < 46 then invXl.getD k [scTop] else if k < 190 then invXs ((k - 46) % 36) else [scTop]
abbrev cc_none : scC := (qX7_peek, 0, [], [], [], [], [])
theorem lqX0 : pvLn (pvK RX0) = lnX0 := by rw [pvK_0]; rfl
theorem lqX1 : pvLn (pvK RX1) = lnX1 := by rw [pvK_1]; rfl
theorem lqX2 : pvLn (pvK RX2) = lnX2 := by rw [pvK_2]; rfl
theorem lqX3 : pvLn (pvK RX3) = lnX3 := by rw [pvK_3]; rfl
theorem lqX4 : pvLn (pvK RX4) = lnX4 := by rw [pvK_4]; rfl
theorem lqX5 : pvLn (pvK RX5) = lnX5 := by rw [pvK_5]; rfl
theorem lqX6 : pvLn (pvK RX6) = lnX6 := by rw [pvK_6]; rfl
theorem lqX7 : pvLn (pvK RX7) = lnX7 := by rw [pvK_7]; rfl
theorem lqX8 : pvLn (pvK RX8) = lnX8 := by rw [pvK_8]; rfl
theorem lqX9 : pvLn (pvK RX9) = lnX9 := by rw [pvK_9]; rfl
theorem lqX10 : pvLn (pvK RX10) = lnX10 := by rw [pvK_10]; rfl
theorem lqX11 : pvLn (pvK RX11) = lnX11 := by rw [pvK_11]; rfl
theorem lqJ6 : pvLn (pvK RJ6) = lnJ6 := by rw [pvK_12]; rfl
abbrev lnJ7 : scLn × List (Nat × Nat) := (([], [], [], [], []), [])
theorem lqJ7 : pvLn (pvK RJ7) = lnJ7 := by rw [show pvK RJ7 = 99 by decide +kernel]; rfl
theorem scq_t (x : Int32) : scTop.1 ≤ x.toInt ∧ x.toInt ≤ scTop.2 := by
  have h1 := x.le_toInt
  have h2 := x.toInt_lt
  constructor
  · show -2147483648 ≤ x.toInt
    omega
  · show x.toInt ≤ 2147483647
    omega
theorem scFr.rfl {W : List (Nat × Nat × Nat)} {M : fmM} : scFr W M M := fun _ _ _ => ⟨Eq.refl _, Eq.refl _⟩
theorem i32_ext {a b : Int32} (h : a.toInt = b.toInt) : a = b := Int32.toInt_inj.mp h
theorem nI_succ1 (i : Nat) : nI i + 1 = nI (i + 1) := by
  show Int32.ofNat i + 1 = Int32.ofNat (i + 1)
  rw [Int32.ofNat_add]
  rfl
end
-- P 10j
section
abbrev cc_hand_termOf : scC := (qX10_termOf, 0, [((-2147483648), 2147483647)], [.inr (.inl ((-9223372036854775808), 9223372036854775807)), .inr (.inl ((-9223372036854775808), 9223372036854775807)), .inl (some 0, 0)], [], [(2, ((-9223372036854775808), 9223372036854775807), [], [], [])], [])
abbrev cc_hand_addToRoom : scC := (qX10_addToRoom, 1, [(0, 7), (0, 200)], [.inr (.inr (.inl [0])), .inl (some 0, 0), .inl (some 1, 0)], [], [(0, (0, 0), [], [], [])], [(45, 0, 201)])
set_option maxRecDepth 20000 in
theorem tm_loop {Q : fmR → fmM → Prop} {M : fmM} (a b : Int64) (p : Int32) (hq : ∀ r : Int64, Q (.inl (some (.long r))) M) : ∀ (n i : Nat) (one oth : Int64) (v10 v11 : Option Value), i + n = 200 → pvEv Tx 0 qX10_termOf 9 [some (.long a), none, some (.long b), none, some (.int p), some (.long one), none, some (.long oth), none, some (.int (nI i)), v10, v11] [] M Q := by
  intro n
  induction n with
  | zero =>
    intro i one oth v10 v11 hi
    have e : i = 200 := by omega
    subst e
    refine pv_iload (pc := 9) (i := 9) rfl (fm_dec dtX10_termOf 6 rfl) ?_
    refine pv_sipush (pc := 11) (v := 200) (by decide) (fm_dec dtX10_termOf 7 rfl) ?_
    refine pv_icmp_ge (pc := 14) 45 (by decide) (fm_dec dtX10_termOf 8 rfl) (fun _ => ?_) (fun hc14 => by exfalso; exact hc14 (by decide))
    refine pv_lload (pc := 45) (i := 7) rfl (fm_dec dtX10_termOf 23 rfl) ?_
    refine pv_lconst (pc := 47) (v := 0) (by decide) (fm_dec dtX10_termOf 24 rfl) ?_
    refine pv_lcmp (pc := 48) (fm_dec dtX10_termOf 25 rfl) ?_
    refine pv_if_le (pc := 49) 57 (by decide) (fm_dec dtX10_termOf 26 rfl) (fun hc49 => ?_) (fun hc49 => ?_)
    · refine pv_lconst (pc := 57) (v := 1) (by decide) (fm_dec dtX10_termOf 29 rfl) ?_
      refine pv_lstore (pc := 58) (i := 9) (by decide) rfl (fm_dec dtX10_termOf 30 rfl) ?_
      dsimp only [List.set_cons_zero, List.set_cons_succ]
      refine pv_iload (pc := 60) (i := 4) rfl (fm_dec dtX10_termOf 31 rfl) ?_
      refine pv_if_ne (pc := 62) 69 (by decide) (fm_dec dtX10_termOf 32 rfl) (fun hc62 => ?_) (fun hc62 => ?_)
      · refine pv_lloadn (pc := 69) (n := 2) 2 rfl rfl (fm_dec dtX10_termOf 35 rfl) ?_
        refine pv_lload (pc := 70) (i := 9) rfl (fm_dec dtX10_termOf 36 rfl) ?_
        refine pv_ldiv (pc := 72) (by first | exact (fun e => hc49 (by subst e; decide)) | decide) (fm_dec dtX10_termOf 37 rfl) ?_
        exact pv_lreturn (pc := 73) rfl (fm_dec dtX10_termOf 38 rfl) (hq _)
      · refine pv_lloadn (pc := 65) (n := 0) 0 rfl rfl (fm_dec dtX10_termOf 33 rfl) ?_
        refine pv_goto (pc := 66) 70 (by decide) (fm_dec dtX10_termOf 34 rfl) ?_
        refine pv_lload (pc := 70) (i := 9) rfl (fm_dec dtX10_termOf 36 rfl) ?_
        refine pv_ldiv (pc := 72) (by first | exact (fun e => hc49 (by subst e; decide)) | decide) (fm_dec dtX10_termOf 37 rfl) ?_
        exact pv_lreturn (pc := 73) rfl (fm_dec dtX10_termOf 38 rfl) (hq _)
    · refine pv_lload (pc := 52) (i := 7) rfl (fm_dec dtX10_termOf 27 rfl) ?_
      refine pv_goto (pc := 54) 58 (by decide) (fm_dec dtX10_termOf 28 rfl) ?_
      refine pv_lstore (pc := 58) (i := 9) (by decide) rfl (fm_dec dtX10_termOf 30 rfl) ?_
      dsimp only [List.set_cons_zero, List.set_cons_succ]
      refine pv_iload (pc := 60) (i := 4) rfl (fm_dec dtX10_termOf 31 rfl) ?_
      refine pv_if_ne (pc := 62) 69 (by decide) (fm_dec dtX10_termOf 32 rfl) (fun hc62 => ?_) (fun hc62 => ?_)
      · refine pv_lloadn (pc := 69) (n := 2) 2 rfl rfl (fm_dec dtX10_termOf 35 rfl) ?_
        refine pv_lload (pc := 70) (i := 9) rfl (fm_dec dtX10_termOf 36 rfl) ?_
        refine pv_ldiv (pc := 72) (by first | exact (fun e => hc49 (by subst e; decide)) | decide) (fm_dec dtX10_termOf 37 rfl) ?_
        exact pv_lreturn (pc := 73) rfl (fm_dec dtX10_termOf 38 rfl) (hq _)
      · refine pv_lloadn (pc := 65) (n := 0) 0 rfl rfl (fm_dec dtX10_termOf 33 rfl) ?_
        refine pv_goto (pc := 66) 70 (by decide) (fm_dec dtX10_termOf 34 rfl) ?_
        refine pv_lload (pc := 70) (i := 9) rfl (fm_dec dtX10_termOf 36 rfl) ?_
        refine pv_ldiv (pc := 72) (by first | exact (fun e => hc49 (by subst e; decide)) | decide) (fm_dec dtX10_termOf 37 rfl) ?_
        exact pv_lreturn (pc := 73) rfl (fm_dec dtX10_termOf 38 rfl) (hq _)
  | succ n ih =>
    intro i one oth v10 v11 hi
    refine pv_iload (pc := 9) (i := 9) rfl (fm_dec dtX10_termOf 6 rfl) ?_
    refine pv_sipush (pc := 11) (v := 200) (by decide) (fm_dec dtX10_termOf 7 rfl) ?_
    refine pv_icmp_ge (pc := 14) 45 (by decide) (fm_dec dtX10_termOf 8 rfl) (fun hc14 => ?_) (fun hc14 => ?_)
    · refine pv_lload (pc := 45) (i := 7) rfl (fm_dec dtX10_termOf 23 rfl) ?_
      refine pv_lconst (pc := 47) (v := 0) (by decide) (fm_dec dtX10_termOf 24 rfl) ?_
      refine pv_lcmp (pc := 48) (fm_dec dtX10_termOf 25 rfl) ?_
      refine pv_if_le (pc := 49) 57 (by decide) (fm_dec dtX10_termOf 26 rfl) (fun hc49 => ?_) (fun hc49 => ?_)
      · refine pv_lconst (pc := 57) (v := 1) (by decide) (fm_dec dtX10_termOf 29 rfl) ?_
        refine pv_lstore (pc := 58) (i := 9) (by decide) rfl (fm_dec dtX10_termOf 30 rfl) ?_
        dsimp only [List.set_cons_zero, List.set_cons_succ]
        refine pv_iload (pc := 60) (i := 4) rfl (fm_dec dtX10_termOf 31 rfl) ?_
        refine pv_if_ne (pc := 62) 69 (by decide) (fm_dec dtX10_termOf 32 rfl) (fun hc62 => ?_) (fun hc62 => ?_)
        · refine pv_lloadn (pc := 69) (n := 2) 2 rfl rfl (fm_dec dtX10_termOf 35 rfl) ?_
          refine pv_lload (pc := 70) (i := 9) rfl (fm_dec dtX10_termOf 36 rfl) ?_
          refine pv_ldiv (pc := 72) (by first | exact (fun e => hc49 (by subst e; decide)) | decide) (fm_dec dtX10_termOf 37 rfl) ?_
          exact pv_lreturn (pc := 73) rfl (fm_dec dtX10_termOf 38 rfl) (hq _)
        · refine pv_lloadn (pc := 65) (n := 0) 0 rfl rfl (fm_dec dtX10_termOf 33 rfl) ?_
          refine pv_goto (pc := 66) 70 (by decide) (fm_dec dtX10_termOf 34 rfl) ?_
          refine pv_lload (pc := 70) (i := 9) rfl (fm_dec dtX10_termOf 36 rfl) ?_
          refine pv_ldiv (pc := 72) (by first | exact (fun e => hc49 (by subst e; decide)) | decide) (fm_dec dtX10_termOf 37 rfl) ?_
          exact pv_lreturn (pc := 73) rfl (fm_dec dtX10_termOf 38 rfl) (hq _)
      · refine pv_lload (pc := 52) (i := 7) rfl (fm_dec dtX10_termOf 27 rfl) ?_
        refine pv_goto (pc := 54) 58 (by decide) (fm_dec dtX10_termOf 28 rfl) ?_
        refine pv_lstore (pc := 58) (i := 9) (by decide) rfl (fm_dec dtX10_termOf 30 rfl) ?_
        dsimp only [List.set_cons_zero, List.set_cons_succ]
        refine pv_iload (pc := 60) (i := 4) rfl (fm_dec dtX10_termOf 31 rfl) ?_
        refine pv_if_ne (pc := 62) 69 (by decide) (fm_dec dtX10_termOf 32 rfl) (fun hc62 => ?_) (fun hc62 => ?_)
        · refine pv_lloadn (pc := 69) (n := 2) 2 rfl rfl (fm_dec dtX10_termOf 35 rfl) ?_
          refine pv_lload (pc := 70) (i := 9) rfl (fm_dec dtX10_termOf 36 rfl) ?_
          refine pv_ldiv (pc := 72) (by first | exact (fun e => hc49 (by subst e; decide)) | decide) (fm_dec dtX10_termOf 37 rfl) ?_
          exact pv_lreturn (pc := 73) rfl (fm_dec dtX10_termOf 38 rfl) (hq _)
        · refine pv_lloadn (pc := 65) (n := 0) 0 rfl rfl (fm_dec dtX10_termOf 33 rfl) ?_
          refine pv_goto (pc := 66) 70 (by decide) (fm_dec dtX10_termOf 34 rfl) ?_
          refine pv_lload (pc := 70) (i := 9) rfl (fm_dec dtX10_termOf 36 rfl) ?_
          refine pv_ldiv (pc := 72) (by first | exact (fun e => hc49 (by subst e; decide)) | decide) (fm_dec dtX10_termOf 37 rfl) ?_
          exact pv_lreturn (pc := 73) rfl (fm_dec dtX10_termOf 38 rfl) (hq _)
    · refine pv_lload (pc := 17) (i := 5) rfl (fm_dec dtX10_termOf 9 rfl) ?_
      refine pv_lconst (pc := 19) (v := 0) (by decide) (fm_dec dtX10_termOf 10 rfl) ?_
      refine pv_lcmp (pc := 20) (fm_dec dtX10_termOf 11 rfl) ?_
      refine pv_if_eq (pc := 21) 45 (by decide) (fm_dec dtX10_termOf 12 rfl) (fun hc21 => ?_) (fun hc21 => ?_)
      · refine pv_lload (pc := 45) (i := 7) rfl (fm_dec dtX10_termOf 23 rfl) ?_
        refine pv_lconst (pc := 47) (v := 0) (by decide) (fm_dec dtX10_termOf 24 rfl) ?_
        refine pv_lcmp (pc := 48) (fm_dec dtX10_termOf 25 rfl) ?_
        refine pv_if_le (pc := 49) 57 (by decide) (fm_dec dtX10_termOf 26 rfl) (fun hc49 => ?_) (fun hc49 => ?_)
        · refine pv_lconst (pc := 57) (v := 1) (by decide) (fm_dec dtX10_termOf 29 rfl) ?_
          refine pv_lstore (pc := 58) (i := 9) (by decide) rfl (fm_dec dtX10_termOf 30 rfl) ?_
          dsimp only [List.set_cons_zero, List.set_cons_succ]
          refine pv_iload (pc := 60) (i := 4) rfl (fm_dec dtX10_termOf 31 rfl) ?_
          refine pv_if_ne (pc := 62) 69 (by decide) (fm_dec dtX10_termOf 32 rfl) (fun hc62 => ?_) (fun hc62 => ?_)
          · refine pv_lloadn (pc := 69) (n := 2) 2 rfl rfl (fm_dec dtX10_termOf 35 rfl) ?_
            refine pv_lload (pc := 70) (i := 9) rfl (fm_dec dtX10_termOf 36 rfl) ?_
            refine pv_ldiv (pc := 72) (by first | exact (fun e => hc49 (by subst e; decide)) | decide) (fm_dec dtX10_termOf 37 rfl) ?_
            exact pv_lreturn (pc := 73) rfl (fm_dec dtX10_termOf 38 rfl) (hq _)
          · refine pv_lloadn (pc := 65) (n := 0) 0 rfl rfl (fm_dec dtX10_termOf 33 rfl) ?_
            refine pv_goto (pc := 66) 70 (by decide) (fm_dec dtX10_termOf 34 rfl) ?_
            refine pv_lload (pc := 70) (i := 9) rfl (fm_dec dtX10_termOf 36 rfl) ?_
            refine pv_ldiv (pc := 72) (by first | exact (fun e => hc49 (by subst e; decide)) | decide) (fm_dec dtX10_termOf 37 rfl) ?_
            exact pv_lreturn (pc := 73) rfl (fm_dec dtX10_termOf 38 rfl) (hq _)
        · refine pv_lload (pc := 52) (i := 7) rfl (fm_dec dtX10_termOf 27 rfl) ?_
          refine pv_goto (pc := 54) 58 (by decide) (fm_dec dtX10_termOf 28 rfl) ?_
          refine pv_lstore (pc := 58) (i := 9) (by decide) rfl (fm_dec dtX10_termOf 30 rfl) ?_
          dsimp only [List.set_cons_zero, List.set_cons_succ]
          refine pv_iload (pc := 60) (i := 4) rfl (fm_dec dtX10_termOf 31 rfl) ?_
          refine pv_if_ne (pc := 62) 69 (by decide) (fm_dec dtX10_termOf 32 rfl) (fun hc62 => ?_) (fun hc62 => ?_)
          · refine pv_lloadn (pc := 69) (n := 2) 2 rfl rfl (fm_dec dtX10_termOf 35 rfl) ?_
            refine pv_lload (pc := 70) (i := 9) rfl (fm_dec dtX10_termOf 36 rfl) ?_
            refine pv_ldiv (pc := 72) (by first | exact (fun e => hc49 (by subst e; decide)) | decide) (fm_dec dtX10_termOf 37 rfl) ?_
            exact pv_lreturn (pc := 73) rfl (fm_dec dtX10_termOf 38 rfl) (hq _)
          · refine pv_lloadn (pc := 65) (n := 0) 0 rfl rfl (fm_dec dtX10_termOf 33 rfl) ?_
            refine pv_goto (pc := 66) 70 (by decide) (fm_dec dtX10_termOf 34 rfl) ?_
            refine pv_lload (pc := 70) (i := 9) rfl (fm_dec dtX10_termOf 36 rfl) ?_
            refine pv_ldiv (pc := 72) (by first | exact (fun e => hc49 (by subst e; decide)) | decide) (fm_dec dtX10_termOf 37 rfl) ?_
            exact pv_lreturn (pc := 73) rfl (fm_dec dtX10_termOf 38 rfl) (hq _)
      · refine pv_lload (pc := 24) (i := 7) rfl (fm_dec dtX10_termOf 13 rfl) ?_
        refine pv_lload (pc := 26) (i := 5) rfl (fm_dec dtX10_termOf 14 rfl) ?_
        refine pv_lrem (pc := 28) (fun e => hc21 (by subst e; rfl)) (fm_dec dtX10_termOf 15 rfl) ?_
        refine pv_lstore (pc := 29) (i := 10) (by decide) rfl (fm_dec dtX10_termOf 16 rfl) ?_
        dsimp only [List.set_cons_zero, List.set_cons_succ]
        refine pv_lload (pc := 31) (i := 5) rfl (fm_dec dtX10_termOf 17 rfl) ?_
        refine pv_lstore (pc := 33) (i := 7) (by decide) rfl (fm_dec dtX10_termOf 18 rfl) ?_
        dsimp only [List.set_cons_zero, List.set_cons_succ]
        refine pv_lload (pc := 35) (i := 10) rfl (fm_dec dtX10_termOf 19 rfl) ?_
        refine pv_lstore (pc := 37) (i := 5) (by decide) rfl (fm_dec dtX10_termOf 20 rfl) ?_
        dsimp only [List.set_cons_zero, List.set_cons_succ]
        refine pv_iincc (pc := 39) 9 1 (by decide) rfl (by decide) rfl (fm_dec dtX10_termOf 21 rfl) ?_
        dsimp only [List.set_cons_zero, List.set_cons_succ]
        refine pv_goto (pc := 42) 9 (by decide) (fm_dec dtX10_termOf 22 rfl) ?_
        rw [nI_succ1]
        exact ih (i + 1) _ _ _ _ (by omega)
set_option maxRecDepth 20000 in
theorem c_termOf {M : fmM} {Q : fmR → fmM → Prop} (a b : Int64) (p : Int32) (hq : ∀ r : Int64, Q (.inl (some (.long r))) M) : pvGood Tx 0 qX10_termOf [.long a, .long b, .int p] M Q := by
  refine pvGood_of (Nat.le_of_ble_eq_true rfl) ?_
  show pvEv Tx 0 qX10_termOf 0 [some (.long a), none, some (.long b), none, some (.int p), none, none, none, none, none, none, none] [] M Q
  refine pv_lloadn (pc := 0) (n := 0) 0 rfl rfl (fm_dec dtX10_termOf 0 rfl) ?_
  refine pv_lstore (pc := 1) (i := 5) (by decide) rfl (fm_dec dtX10_termOf 1 rfl) ?_
  dsimp only [List.set_cons_zero, List.set_cons_succ]
  refine pv_lloadn (pc := 3) (n := 2) 2 rfl rfl (fm_dec dtX10_termOf 2 rfl) ?_
  refine pv_lstore (pc := 4) (i := 7) (by decide) rfl (fm_dec dtX10_termOf 3 rfl) ?_
  dsimp only [List.set_cons_zero, List.set_cons_succ]
  refine pv_iconst (pc := 6) (v := 0) (by decide) (fm_dec dtX10_termOf 4 rfl) ?_
  refine pv_istore (pc := 7) (i := 9) (by decide) rfl (fm_dec dtX10_termOf 5 rfl) ?_
  dsimp only [List.set_cons_zero, List.set_cons_succ]
  exact tm_loop a b p hq 200 0 _ _ _ _ (by omega)
theorem hh_hand_termOf : scH Tx invX cc_hand_termOf := by
  intro M σ as hE hS hF hI
  obtain ⟨a, st1, e1, ha, q1⟩ := scSk_j hS
  obtain ⟨b, st2, e2, hb, q2⟩ := scSk_j q1
  obtain ⟨p, st3, e3, hp, q3⟩ := scSk_i q2
  have e5 := scSk_0 q3
  subst e5
  subst e3
  subst e2
  subst e1
  exact c_termOf a b p (fun r => ⟨⟨_, List.mem_cons_self, ⟨r, rfl, (scq_l r).1, (scq_l r).2⟩, fun q hq => (by cases hq), fun q hq => (by cases hq)⟩, hI, scFr.rfl⟩)
theorem sc_evX {env : List scI} {σ : List Int} {i : Nat} {e : scI} {x : Int} (hE : scEk env σ) (he : env[i]? = some e) (h : scEv σ (some i, 0) x) : e.1 ≤ x ∧ x ≤ e.2 := by
  obtain ⟨v, hv, e1⟩ := h
  have h9 := hE.2 i e v he hv
  have e2 : x = v := e1.trans (Int.add_zero v)
  rw [e2]
  exact h9
theorem ar_wr {M0 M : fmM} {x v : Int32} {m : Nat} (hx : x.toInt = m) (hm : m ≤ 200) (h : scInv Tx invX M ∧ scFr [(45, 0, 201)] M0 M) : scInv Tx invX (fmI M 45 x.toNatClampNeg v) ∧ scFr [(45, 0, 201)] M0 (fmI M 45 x.toNatClampNeg v) := scWr_ok (ks := [45]) (a := 0) (n := 200) (e := scTop) (by decide) List.mem_cons_self (Nat.zero_le _) (by have h9 : x.toNatClampNeg = x.toInt.toNat := rfl; omega) (scq_t v) h.1 h.2
theorem ar_in {a : Int32} {m : Nat} (ha : a.toInt = m) (hm : m ≤ 200) : vp_in a 201 := vp_in_iff.mpr ⟨by omega, by omega⟩
theorem ar_3 {a : Int32} {m : Nat} (ha : a.toInt = m) (hm : m ≤ 200) (h : ¬ a < 3) : vp_in (a - 3) 201 := by
  have e3 : (3 : Int32).toInt = 3 := by decide
  rw [sc_lt] at h
  have e : (a - 3).toInt = a.toInt - (3 : Int32).toInt := sc_sub (by omega) (by omega)
  exact vp_in_iff.mpr ⟨by omega, by omega⟩
theorem ar_w {a w : Int32} {m : Nat} (ha : a.toInt = m) (hm : m ≤ 200) (hw : 0 ≤ w.toInt ∧ w.toInt ≤ 99) (h : ¬ a < w) : vp_in (a - w) 201 := by
  rw [sc_lt] at h
  have e : (a - w).toInt = a.toInt - w.toInt := sc_sub (by omega) (by omega)
  exact vp_in_iff.mpr ⟨by omega, by omega⟩
theorem ar_d {a : Int32} {m : Nat} (ha : a.toInt = m) (hm : m ≤ 200) : (a + -1).toInt = (m : Int) - 1 := by
  have e1 : (-1 : Int32).toInt = -1 := by decide
  rw [sc_add (by omega) (by omega)]
  omega
set_option maxRecDepth 20000 in
theorem c_roomShift {M : fmM} {Q : fmR → fmM → Prop} {i : Int32} (hq : ∀ x : Int32, Q (.inl (some (.int x))) M) : pvGood Tx 0 qX10_roomShift [.int i] M Q := by
  refine pvGood_of (Nat.le_of_ble_eq_true rfl) ?_
  show pvEv Tx 0 qX10_roomShift 0 [some (.int i)] [] M Q
  refine pv_iconst (pc := 0) (v := 2) (by decide) (fm_dec dtX10_roomShift 0 rfl) ?_
  refine pv_bipush (pc := 1) (v := 7) (by decide) (fm_dec dtX10_roomShift 1 rfl) ?_
  refine pv_iloadn (pc := 3) (n := 0) 0 rfl rfl (fm_dec dtX10_roomShift 2 rfl) ?_
  refine pv_isub (pc := 4) (fm_dec dtX10_roomShift 3 rfl) ?_
  refine pv_imul (pc := 5) (fm_dec dtX10_roomShift 4 rfl) ?_
  exact pv_ireturn (pc := 6) rfl (fm_dec dtX10_roomShift 5 rfl) (hq _)
set_option maxRecDepth 20000 in
theorem ar_loop {Q : fmR → fmM → Prop} {M0 : fmM} {i r w sh : Int32} (hw : 0 ≤ w.toInt ∧ w.toInt ≤ 99) (hq : ∀ M : fmM, scInv Tx invX M ∧ scFr [(45, 0, 201)] M0 M → Q (.inl none) M) : ∀ (m : Nat) (M : fmM) (a : Int32) (v6 : Option Value), m ≤ 201 → a.toInt = (m : Int) - 1 → scInv Tx invX M ∧ scFr [(45, 0, 201)] M0 M → pvEv Tx 1 qX10_addToRoom 27 [some (.ref 0), some (.int i), some (.int r), some (.int w), some (.int sh), some (.int a), v6] [] M Q := by
  intro m
  induction m with
  | zero =>
    intro M a v6 hm ha0 h
    refine pv_iload (pc := 27) (i := 5) rfl (fm_dec dtX10_addToRoom 15 rfl) ?_
    refine pv_if_lt (pc := 29) 120 (by decide) (fm_dec dtX10_addToRoom 16 rfl) (fun _ => ?_) (fun hc29 => by exfalso; exact hc29 (by rw [sc_lt]; have h9 : (0 : Int32).toInt = 0 := (by decide); omega))
    exact pv_return (pc := 120) rfl (fm_dec dtX10_addToRoom 69 rfl) (hq M h)
  | succ m ih =>
    intro M a v6 hm ha0 h
    have ha : a.toInt = (m : Int) := (by omega)
    refine pv_iload (pc := 27) (i := 5) rfl (fm_dec dtX10_addToRoom 15 rfl) ?_
    refine pv_if_lt (pc := 29) 120 (by decide) (fm_dec dtX10_addToRoom 16 rfl) (fun hc29 => by exfalso; rw [sc_lt] at hc29; have h9 : (0 : Int32).toInt = 0 := (by decide); omega) (fun _ => ?_)
    refine pv_aloadn (pc := 32) (n := 0) 0 rfl rfl (fm_dec dtX10_addToRoom 17 rfl) ?_
    refine pv_getR (k := 0) (j := 12) (ci := 10) (pc := 33) 45 rfl (by decide) pfl_X10_87 (by decide) rfl (by decide) (fm_dec dtX10_addToRoom 18 rfl) ?_
    refine pv_iload (pc := 36) (i := 5) rfl (fm_dec dtX10_addToRoom 19 rfl) ?_
    refine pv_iald (k := 45) (n := 201) (pc := 38) (by decide) rfl rfl (ar_in ha (by omega)) (fm_dec dtX10_addToRoom 20 rfl) ?_
    refine pv_istore (pc := 39) (i := 6) (by decide) rfl (fm_dec dtX10_addToRoom 21 rfl) ?_
    dsimp only [List.set_cons_zero, List.set_cons_succ]
    refine pv_iload (pc := 41) (i := 5) rfl (fm_dec dtX10_addToRoom 22 rfl) ?_
    refine pv_iconst (pc := 43) (v := 3) (by decide) (fm_dec dtX10_addToRoom 23 rfl) ?_
    refine pv_icmp_lt (pc := 44) 71 (by decide) (fm_dec dtX10_addToRoom 24 rfl) (fun hc44 => ?_) (fun hc44 => ?_)
    · refine pv_iload (pc := 71) (i := 5) rfl (fm_dec dtX10_addToRoom 40 rfl) ?_
      refine pv_iloadn (pc := 73) (n := 3) 3 rfl rfl (fm_dec dtX10_addToRoom 41 rfl) ?_
      refine pv_icmp_lt (pc := 74) 105 (by decide) (fm_dec dtX10_addToRoom 42 rfl) (fun hc74 => ?_) (fun hc74 => ?_)
      · refine pv_aloadn (pc := 105) (n := 0) 0 rfl rfl (fm_dec dtX10_addToRoom 62 rfl) ?_
        refine pv_getR (k := 0) (j := 12) (ci := 10) (pc := 106) 45 rfl (by decide) pfl_X10_87 (by decide) rfl (by decide) (fm_dec dtX10_addToRoom 63 rfl) ?_
        refine pv_iload (pc := 109) (i := 5) rfl (fm_dec dtX10_addToRoom 64 rfl) ?_
        refine pv_iload (pc := 111) (i := 6) rfl (fm_dec dtX10_addToRoom 65 rfl) ?_
        refine pv_iast (k := 45) (n := 201) (pc := 113) (by decide) rfl rfl (ar_in ha (by omega)) (fm_dec dtX10_addToRoom 66 rfl) ?_
        refine pv_iincc (pc := 114) 5 (-1) (by decide) rfl (by decide) rfl (fm_dec dtX10_addToRoom 67 rfl) ?_
        dsimp only [List.set_cons_zero, List.set_cons_succ]
        refine pv_goto (pc := 117) 27 (by decide) (fm_dec dtX10_addToRoom 68 rfl) ?_
        exact ih _ _ _ (by omega) (ar_d ha (by omega)) (ar_wr ha (by omega) h)
      · refine pv_iload (pc := 77) (i := 6) rfl (fm_dec dtX10_addToRoom 43 rfl) ?_
        refine pv_aloadn (pc := 79) (n := 0) 0 rfl rfl (fm_dec dtX10_addToRoom 44 rfl) ?_
        refine pv_getR (k := 0) (j := 12) (ci := 10) (pc := 80) 45 rfl (by decide) pfl_X10_87 (by decide) rfl (by decide) (fm_dec dtX10_addToRoom 45 rfl) ?_
        refine pv_iload (pc := 83) (i := 5) rfl (fm_dec dtX10_addToRoom 46 rfl) ?_
        refine pv_iloadn (pc := 85) (n := 3) 3 rfl rfl (fm_dec dtX10_addToRoom 47 rfl) ?_
        refine pv_isub (pc := 86) (fm_dec dtX10_addToRoom 48 rfl) ?_
        refine pv_iald (k := 45) (n := 201) (pc := 87) (by decide) rfl rfl (ar_w ha (by omega) hw hc74) (fm_dec dtX10_addToRoom 49 rfl) ?_
        refine pv_iconst (pc := 88) (v := 3) (by decide) (fm_dec dtX10_addToRoom 50 rfl) ?_
        refine pv_iloadn (pc := 89) (n := 3) 3 rfl rfl (fm_dec dtX10_addToRoom 51 rfl) ?_
        refine pv_imul (pc := 90) (fm_dec dtX10_addToRoom 52 rfl) ?_
        refine pv_bipush (pc := 91) (v := 16) (by decide) (fm_dec dtX10_addToRoom 53 rfl) ?_
        refine pv_ishl (pc := 93) (fm_dec dtX10_addToRoom 54 rfl) ?_
        refine pv_iadd (pc := 94) (fm_dec dtX10_addToRoom 55 rfl) ?_
        refine pv_iconst (pc := 95) (v := 2) (by decide) (fm_dec dtX10_addToRoom 56 rfl) ?_
        refine pv_iload (pc := 96) (i := 4) rfl (fm_dec dtX10_addToRoom 57 rfl) ?_
        refine pv_imul (pc := 98) (fm_dec dtX10_addToRoom 58 rfl) ?_
        refine pv_isub (pc := 99) (fm_dec dtX10_addToRoom 59 rfl) ?_
        refine pv_mm (pc := 100) pmm_X10_357 (by decide) (Nat.le_of_ble_eq_true rfl) (fm_dec dtX10_addToRoom 60 rfl) ?_
        refine pv_istore (pc := 103) (i := 6) (by decide) rfl (fm_dec dtX10_addToRoom 61 rfl) ?_
        dsimp only [List.set_cons_zero, List.set_cons_succ]
        refine pv_aloadn (pc := 105) (n := 0) 0 rfl rfl (fm_dec dtX10_addToRoom 62 rfl) ?_
        refine pv_getR (k := 0) (j := 12) (ci := 10) (pc := 106) 45 rfl (by decide) pfl_X10_87 (by decide) rfl (by decide) (fm_dec dtX10_addToRoom 63 rfl) ?_
        refine pv_iload (pc := 109) (i := 5) rfl (fm_dec dtX10_addToRoom 64 rfl) ?_
        refine pv_iload (pc := 111) (i := 6) rfl (fm_dec dtX10_addToRoom 65 rfl) ?_
        refine pv_iast (k := 45) (n := 201) (pc := 113) (by decide) rfl rfl (ar_in ha (by omega)) (fm_dec dtX10_addToRoom 66 rfl) ?_
        refine pv_iincc (pc := 114) 5 (-1) (by decide) rfl (by decide) rfl (fm_dec dtX10_addToRoom 67 rfl) ?_
        dsimp only [List.set_cons_zero, List.set_cons_succ]
        refine pv_goto (pc := 117) 27 (by decide) (fm_dec dtX10_addToRoom 68 rfl) ?_
        exact ih _ _ _ (by omega) (ar_d ha (by omega)) (ar_wr ha (by omega) h)
    · refine pv_iload (pc := 47) (i := 6) rfl (fm_dec dtX10_addToRoom 25 rfl) ?_
      refine pv_aloadn (pc := 49) (n := 0) 0 rfl rfl (fm_dec dtX10_addToRoom 26 rfl) ?_
      refine pv_getR (k := 0) (j := 12) (ci := 10) (pc := 50) 45 rfl (by decide) pfl_X10_87 (by decide) rfl (by decide) (fm_dec dtX10_addToRoom 27 rfl) ?_
      refine pv_iload (pc := 53) (i := 5) rfl (fm_dec dtX10_addToRoom 28 rfl) ?_
      refine pv_iconst (pc := 55) (v := 3) (by decide) (fm_dec dtX10_addToRoom 29 rfl) ?_
      refine pv_isub (pc := 56) (fm_dec dtX10_addToRoom 30 rfl) ?_
      refine pv_iald (k := 45) (n := 201) (pc := 57) (by decide) rfl rfl (ar_3 ha (by omega) hc44) (fm_dec dtX10_addToRoom 31 rfl) ?_
      refine pv_iloadn (pc := 58) (n := 3) 3 rfl rfl (fm_dec dtX10_addToRoom 32 rfl) ?_
      refine pv_bipush (pc := 59) (v := 16) (by decide) (fm_dec dtX10_addToRoom 33 rfl) ?_
      refine pv_ishl (pc := 61) (fm_dec dtX10_addToRoom 34 rfl) ?_
      refine pv_iadd (pc := 62) (fm_dec dtX10_addToRoom 35 rfl) ?_
      refine pv_iload (pc := 63) (i := 4) rfl (fm_dec dtX10_addToRoom 36 rfl) ?_
      refine pv_isub (pc := 65) (fm_dec dtX10_addToRoom 37 rfl) ?_
      refine pv_mm (pc := 66) pmm_X10_357 (by decide) (Nat.le_of_ble_eq_true rfl) (fm_dec dtX10_addToRoom 38 rfl) ?_
      refine pv_istore (pc := 69) (i := 6) (by decide) rfl (fm_dec dtX10_addToRoom 39 rfl) ?_
      dsimp only [List.set_cons_zero, List.set_cons_succ]
      refine pv_iload (pc := 71) (i := 5) rfl (fm_dec dtX10_addToRoom 40 rfl) ?_
      refine pv_iloadn (pc := 73) (n := 3) 3 rfl rfl (fm_dec dtX10_addToRoom 41 rfl) ?_
      refine pv_icmp_lt (pc := 74) 105 (by decide) (fm_dec dtX10_addToRoom 42 rfl) (fun hc74 => ?_) (fun hc74 => ?_)
      · refine pv_aloadn (pc := 105) (n := 0) 0 rfl rfl (fm_dec dtX10_addToRoom 62 rfl) ?_
        refine pv_getR (k := 0) (j := 12) (ci := 10) (pc := 106) 45 rfl (by decide) pfl_X10_87 (by decide) rfl (by decide) (fm_dec dtX10_addToRoom 63 rfl) ?_
        refine pv_iload (pc := 109) (i := 5) rfl (fm_dec dtX10_addToRoom 64 rfl) ?_
        refine pv_iload (pc := 111) (i := 6) rfl (fm_dec dtX10_addToRoom 65 rfl) ?_
        refine pv_iast (k := 45) (n := 201) (pc := 113) (by decide) rfl rfl (ar_in ha (by omega)) (fm_dec dtX10_addToRoom 66 rfl) ?_
        refine pv_iincc (pc := 114) 5 (-1) (by decide) rfl (by decide) rfl (fm_dec dtX10_addToRoom 67 rfl) ?_
        dsimp only [List.set_cons_zero, List.set_cons_succ]
        refine pv_goto (pc := 117) 27 (by decide) (fm_dec dtX10_addToRoom 68 rfl) ?_
        exact ih _ _ _ (by omega) (ar_d ha (by omega)) (ar_wr ha (by omega) h)
      · refine pv_iload (pc := 77) (i := 6) rfl (fm_dec dtX10_addToRoom 43 rfl) ?_
        refine pv_aloadn (pc := 79) (n := 0) 0 rfl rfl (fm_dec dtX10_addToRoom 44 rfl) ?_
        refine pv_getR (k := 0) (j := 12) (ci := 10) (pc := 80) 45 rfl (by decide) pfl_X10_87 (by decide) rfl (by decide) (fm_dec dtX10_addToRoom 45 rfl) ?_
        refine pv_iload (pc := 83) (i := 5) rfl (fm_dec dtX10_addToRoom 46 rfl) ?_
        refine pv_iloadn (pc := 85) (n := 3) 3 rfl rfl (fm_dec dtX10_addToRoom 47 rfl) ?_
        refine pv_isub (pc := 86) (fm_dec dtX10_addToRoom 48 rfl) ?_
        refine pv_iald (k := 45) (n := 201) (pc := 87) (by decide) rfl rfl (ar_w ha (by omega) hw hc74) (fm_dec dtX10_addToRoom 49 rfl) ?_
        refine pv_iconst (pc := 88) (v := 3) (by decide) (fm_dec dtX10_addToRoom 50 rfl) ?_
        refine pv_iloadn (pc := 89) (n := 3) 3 rfl rfl (fm_dec dtX10_addToRoom 51 rfl) ?_
        refine pv_imul (pc := 90) (fm_dec dtX10_addToRoom 52 rfl) ?_
        refine pv_bipush (pc := 91) (v := 16) (by decide) (fm_dec dtX10_addToRoom 53 rfl) ?_
        refine pv_ishl (pc := 93) (fm_dec dtX10_addToRoom 54 rfl) ?_
        refine pv_iadd (pc := 94) (fm_dec dtX10_addToRoom 55 rfl) ?_
        refine pv_iconst (pc := 95) (v := 2) (by decide) (fm_dec dtX10_addToRoom 56 rfl) ?_
        refine pv_iload (pc := 96) (i := 4) rfl (fm_dec dtX10_addToRoom 57 rfl) ?_
        refine pv_imul (pc := 98) (fm_dec dtX10_addToRoom 58 rfl) ?_
        refine pv_isub (pc := 99) (fm_dec dtX10_addToRoom 59 rfl) ?_
        refine pv_mm (pc := 100) pmm_X10_357 (by decide) (Nat.le_of_ble_eq_true rfl) (fm_dec dtX10_addToRoom 60 rfl) ?_
        refine pv_istore (pc := 103) (i := 6) (by decide) rfl (fm_dec dtX10_addToRoom 61 rfl) ?_
        dsimp only [List.set_cons_zero, List.set_cons_succ]
        refine pv_aloadn (pc := 105) (n := 0) 0 rfl rfl (fm_dec dtX10_addToRoom 62 rfl) ?_
        refine pv_getR (k := 0) (j := 12) (ci := 10) (pc := 106) 45 rfl (by decide) pfl_X10_87 (by decide) rfl (by decide) (fm_dec dtX10_addToRoom 63 rfl) ?_
        refine pv_iload (pc := 109) (i := 5) rfl (fm_dec dtX10_addToRoom 64 rfl) ?_
        refine pv_iload (pc := 111) (i := 6) rfl (fm_dec dtX10_addToRoom 65 rfl) ?_
        refine pv_iast (k := 45) (n := 201) (pc := 113) (by decide) rfl rfl (ar_in ha (by omega)) (fm_dec dtX10_addToRoom 66 rfl) ?_
        refine pv_iincc (pc := 114) 5 (-1) (by decide) rfl (by decide) rfl (fm_dec dtX10_addToRoom 67 rfl) ?_
        dsimp only [List.set_cons_zero, List.set_cons_succ]
        refine pv_goto (pc := 117) 27 (by decide) (fm_dec dtX10_addToRoom 68 rfl) ?_
        exact ih _ _ _ (by omega) (ar_d ha (by omega)) (ar_wr ha (by omega) h)
set_option maxRecDepth 20000 in
theorem c_addToRoom {M : fmM} {Q : fmR → fmM → Prop} {i r : Int32} (hi : 0 ≤ i.toInt ∧ i.toInt ≤ 7) (hr : 0 ≤ r.toInt ∧ r.toInt ≤ 200) (hI : scInv Tx invX M) (hq : ∀ M1 : fmM, scInv Tx invX M1 ∧ scFr [(45, 0, 201)] M M1 → Q (.inl none) M1) : pvGood Tx 1 qX10_addToRoom [.ref 0, .int i, .int r] M Q := by
  refine pvGood_of (Nat.le_of_ble_eq_true rfl) ?_
  show pvEv Tx 1 qX10_addToRoom 0 [some (.ref 0), some (.int i), some (.int r), none, none, none, none] [] M Q
  refine pv_aloadn (pc := 0) (n := 0) 0 rfl rfl (fm_dec dtX10_addToRoom 0 rfl) ?_
  refine pv_getR (k := 0) (j := 1) (ci := 10) (pc := 1) 3 rfl (by decide) pfl_X10_19 (by decide) rfl (by decide) (fm_dec dtX10_addToRoom 1 rfl) ?_
  refine pv_getR (k := 3) (j := 2) (ci := 8) (pc := 4) 6 rfl (by decide) pfl_X10_207 (by decide) rfl (by decide) (fm_dec dtX10_addToRoom 2 rfl) ?_
  refine pv_iloadn (pc := 7) (n := 1) 1 rfl rfl (fm_dec dtX10_addToRoom 3 rfl) ?_
  refine pv_iald (k := 6) (n := 8) (pc := 8) (by decide) rfl rfl (vp_in_iff.mpr ⟨by omega, by omega⟩) (fm_dec dtX10_addToRoom 4 rfl) ?_
  refine pv_istoren (pc := 9) (n := 3) 3 rfl (by decide) rfl (fm_dec dtX10_addToRoom 5 rfl) ?_
  dsimp only [List.set_cons_zero, List.set_cons_succ]
  refine pv_iconst (pc := 10) (v := 1) (by decide) (fm_dec dtX10_addToRoom 6 rfl) ?_
  refine pv_iloadn (pc := 11) (n := 1) 1 rfl rfl (fm_dec dtX10_addToRoom 7 rfl) ?_
  refine pv_iS1 (d' := 0) (pc := 12) pcs_X10_328 (Nat.le_of_ble_eq_true rfl) (by decide) (fm_dec dtX10_addToRoom 8 rfl) ?_
  refine c_roomShift (fun x12 => ?_)
  refine pv_then1 ?_
  refine pv_ishl (pc := 15) (fm_dec dtX10_addToRoom 9 rfl) ?_
  refine pv_istore (pc := 16) (i := 4) (by decide) rfl (fm_dec dtX10_addToRoom 10 rfl) ?_
  dsimp only [List.set_cons_zero, List.set_cons_succ]
  refine pv_iloadn (pc := 18) (n := 2) 2 rfl rfl (fm_dec dtX10_addToRoom 11 rfl) ?_
  refine pv_sipush (pc := 19) (v := 200) (by decide) (fm_dec dtX10_addToRoom 12 rfl) ?_
  refine pv_mm (pc := 22) pmm_X10_352 (by decide) (Nat.le_of_ble_eq_true rfl) (fm_dec dtX10_addToRoom 13 rfl) ?_
  refine pv_istore (pc := 25) (i := 5) (by decide) rfl (fm_dec dtX10_addToRoom 14 rfl) ?_
  dsimp only [List.set_cons_zero, List.set_cons_succ]
  have hw : 0 ≤ (M.1 6 i.toNatClampNeg).toInt ∧ (M.1 6 i.toNatClampNeg).toInt ≤ 99 := hI.1 6 i.toNatClampNeg (show i.toInt.toNat < 8 by omega)
  have e9 : pvMx false r 200 = r := (by have h9 : (200 : Int32).toInt = 200 := (by decide); show (if r.toInt ≤ (200 : Int32).toInt then r else 200) = r; rw [if_pos (by omega)])
  rw [e9]
  exact ar_loop hw hq (r.toInt.toNat + 1) M r _ (by omega) (by omega) ⟨hI, scFr.rfl⟩
theorem hh_hand_addToRoom : scH Tx invX cc_hand_addToRoom := by
  intro M σ as hE hS hF hI
  obtain ⟨k, st0, hk, e0, q0⟩ := scSk_r hS
  obtain ⟨i, st1, e1, hi, q1⟩ := scSk_i q0
  obtain ⟨r, st2, e2, hr, q2⟩ := scSk_i q1
  have e3 := scSk_0 q2
  have ek : k = 0 := by simpa using hk
  subst e3
  subst e2
  subst e1
  subst ek
  subst e0
  have hi9 := sc_evX hE (i := 0) rfl hi
  have hr9 := sc_evX hE (i := 1) rfl hr
  exact c_addToRoom hi9 hr9 hI (fun M1 h => ⟨⟨_, List.mem_cons_self, rfl, fun q hq => (by cases hq), fun q hq => (by cases hq)⟩, h.1, h.2⟩)
end
-- P 10ka
section
abbrev cc_X7_find_0 : scC := (qX7_find, 4, [(0, 600), (0, 600)], [.inr (.inr (.inl [1])), .inr (.inr (.inr 2)), .inl (some 0, 0), .inl (some 1, 0)], [], [(1, ((-1), 7), [], [], [])], [])
set_option maxRecDepth 20000 in
abbrev xx_X7_find_0 : scX := (Tx, invX, lnX7, [(53, 2, 0, cc_none), (57, 3, 0, cc_none)], cc_X7_find_0)
set_option maxRecDepth 20000 in
theorem hh_X7_find_0 : scH Tx invX cc_X7_find_0 := scCheck_ok (X := xx_X7_find_0) (nodes := [(12, ([(0, 600), (0, 600), (0, 0), (0, 600), (1, 1)], [some (.inr (.inr (.inl [1]))), some (.inr (.inr (.inr 2))), some (.inl (some 0, 0)), some (.inl (some 1, 0)), some (.inl (some 2, 0)), some (.inl (some 3, 0)), some (.inl (some 4, 0)), some (.inl (none, 0)), none], [], []), ([], 39)), (12, ([(0, 600), (0, 600), (0, 0), (1, 601), (0, 1), (108, 108)], [some (.inr (.inr (.inl [1]))), some (.inr (.inr (.inr 2))), some (.inl (some 0, 0)), some (.inl (some 1, 0)), some (.inl (some 2, 0)), some (.inl (some 3, 0)), some (.inl (some 4, 0)), some (.inl (none, 1)), some (.inl (some 5, 0))], [], []), ([], 38)), (12, ([(0, 600), (0, 600), (0, 0), (2, 602), (0, 1), (105, 105)], [some (.inr (.inr (.inl [1]))), some (.inr (.inr (.inr 2))), some (.inl (some 0, 0)), some (.inl (some 1, 0)), some (.inl (some 2, 0)), some (.inl (some 3, 0)), some (.inl (some 4, 0)), some (.inl (none, 2)), some (.inl (some 5, 0))], [], []), ([], 37)), (12, ([(0, 600), (0, 600), (0, 0), (3, 603), (0, 1), (102, 102)], [some (.inr (.inr (.inl [1]))), some (.inr (.inr (.inr 2))), some (.inl (some 0, 0)), some (.inl (some 1, 0)), some (.inl (some 2, 0)), some (.inl (some 3, 0)), some (.inl (some 4, 0)), some (.inl (none, 3)), some (.inl (some 5, 0))], [], []), ([], 36)), (12, ([(0, 600), (0, 600), (0, 0), (4, 604), (0, 1), (101, 101)], [some (.inr (.inr (.inl [1]))), some (.inr (.inr (.inr 2))), some (.inl (some 0, 0)), some (.inl (some 1, 0)), some (.inl (some 2, 0)), some (.inl (some 3, 0)), some (.inl (some 4, 0)), some (.inl (none, 4)), some (.inl (some 5, 0))], [], []), ([], 35)), (12, ([(0, 600), (0, 600), (1, 1), (0, 600), (1, 1), (32, 32)], [some (.inr (.inr (.inl [1]))), some (.inr (.inr (.inr 2))), some (.inl (some 0, 0)), some (.inl (some 1, 0)), some (.inl (some 2, 0)), some (.inl (some 3, 0)), some (.inl (some 4, 0)), some (.inl (none, 5)), some (.inl (some 5, 0))], [], []), ([], 34)), (12, ([(0, 600), (0, 600), (1, 1), (1, 601), (0, 1), (104, 104)], [some (.inr (.inr (.inl [1]))), some (.inr (.inr (.inr 2))), some (.inl (some 0, 0)), some (.inl (some 1, 0)), some (.inl (some 2, 0)), some (.inl (some 3, 0)), some (.inl (some 4, 0)), some (.inl (none, 6)), some (.inl (some 5, 0))], [], []), ([], 33)), (12, ([(0, 600), (0, 600), (1, 1), (2, 602), (0, 1), (97, 97)], [some (.inr (.inr (.inl [1]))), some (.inr (.inr (.inr 2))), some (.inl (some 0, 0)), some (.inl (some 1, 0)), some (.inl (some 2, 0)), some (.inl (some 3, 0)), some (.inl (some 4, 0)), some (.inl (none, 7)), some (.inl (some 5, 0))], [], []), ([], 32)), (12, ([(0, 600), (0, 600), (1, 1), (3, 603), (0, 1), (115, 115)], [some (.inr (.inr (.inl [1]))), some (.inr (.inr (.inr 2))), some (.inl (some 0, 0)), some (.inl (some 1, 0)), some (.inl (some 2, 0)), some (.inl (some 3, 0)), some (.inl (some 4, 0)), some (.inl (none, 8)), some (.inl (some 5, 0))], [], []), ([], 31)), (12, ([(0, 600), (0, 600), (2, 2), (0, 600), (1, 1), (32, 32)], [some (.inr (.inr (.inl [1]))), some (.inr (.inr (.inr 2))), some (.inl (some 0, 0)), some (.inl (some 1, 0)), some (.inl (some 2, 0)), some (.inl (some 3, 0)), some (.inl (some 4, 0)), some (.inl (none, 9)), some (.inl (some 5, 0))], [], []), ([], 30)), (12, ([(0, 600), (0, 600), (2, 2), (1, 601), (0, 1), (98, 98)], [some (.inr (.inr (.inl [1]))), some (.inr (.inr (.inr 2))), some (.inl (some 0, 0)), some (.inl (some 1, 0)), some (.inl (some 2, 0)), some (.inl (some 3, 0)), some (.inl (some 4, 0)), some (.inl (none, 10)), some (.inl (some 5, 0))], [], []), ([], 29)), (12, ([(0, 600), (0, 600), (2, 2), (2, 602), (0, 1), (121, 121)], [some (.inr (.inr (.inl [1]))), some (.inr (.inr (.inr 2))), some (.inl (some 0, 0)), some (.inl (some 1, 0)), some (.inl (some 2, 0)), some (.inl (some 3, 0)), some (.inl (some 4, 0)), some (.inl (none, 11)), some (.inl (some 5, 0))], [], []), ([], 28)), (12, ([(0, 600), (0, 600), (3, 3), (0, 600), (1, 1), (32, 32)], [some (.inr (.inr (.inl [1]))), some (.inr (.inr (.inr 2))), some (.inl (some 0, 0)), some (.inl (some 1, 0)), some (.inl (some 2, 0)), some (.inl (some 3, 0)), some (.inl (some 4, 0)), some (.inl (none, 12)), some (.inl (some 5, 0))], [], []), ([], 27)), (12, ([(0, 600), (0, 600), (3, 3), (1, 601), (0, 1), (102, 102)], [some (.inr (.inr (.inl [1]))), some (.inr (.inr (.inr 2))), some (.inl (some 0, 0)), some (.inl (some 1, 0)), some (.inl (some 2, 0)), some (.inl (some 3, 0)), some (.inl (some 4, 0)), some (.inl (none, 13)), some (.inl (some 5, 0))], [], []), ([], 26)), (12, ([(0, 600), (0, 600), (3, 3), (2, 602), (0, 1), (97, 97)], [some (.inr (.inr (.inl [1]))), some (.inr (.inr (.inr 2))), some (.inl (some 0, 0)), some (.inl (some 1, 0)), some (.inl (some 2, 0)), some (.inl (some 3, 0)), some (.inl (some 4, 0)), some (.inl (none, 14)), some (.inl (some 5, 0))], [], []), ([], 25)), (12, ([(0, 600), (0, 600), (3, 3), (3, 603), (0, 1), (99, 99)], [some (.inr (.inr (.inl [1]))), some (.inr (.inr (.inr 2))), some (.inl (some 0, 0)), some (.inl (some 1, 0)), some (.inl (some 2, 0)), some (.inl (some 3, 0)), some (.inl (some 4, 0)), some (.inl (none, 15)), some (.inl (some 5, 0))], [], []), ([], 24)), (12, ([(0, 600), (0, 600), (3, 3), (4, 604), (0, 1), (116, 116)], [some (.inr (.inr (.inl [1]))), some (.inr (.inr (.inr 2))), some (.inl (some 0, 0)), some (.inl (some 1, 0)), some (.inl (some 2, 0)), some (.inl (some 3, 0)), some (.inl (some 4, 0)), some (.inl (none, 16)), some (.inl (some 5, 0))], [], []), ([], 23)), (12, ([(0, 600), (0, 600), (4, 4), (0, 600), (1, 1), (32, 32)], [some (.inr (.inr (.inl [1]))), some (.inr (.inr (.inr 2))), some (.inl (some 0, 0)), some (.inl (some 1, 0)), some (.inl (some 2, 0)), some (.inl (some 3, 0)), some (.inl (some 4, 0)), some (.inl (none, 17)), some (.inl (some 5, 0))], [], []), ([], 22)), (12, ([(0, 600), (0, 600), (4, 4), (1, 601), (0, 1), (104, 104)], [some (.inr (.inr (.inl [1]))), some (.inr (.inr (.inr 2))), some (.inl (some 0, 0)), some (.inl (some 1, 0)), some (.inl (some 2, 0)), some (.inl (some 3, 0)), some (.inl (some 4, 0)), some (.inl (none, 18)), some (.inl (some 5, 0))], [], []), ([], 21)), (12, ([(0, 600), (0, 600), (4, 4), (2, 602), (0, 1), (111, 111)], [some (.inr (.inr (.inl [1]))), some (.inr (.inr (.inr 2))), some (.inl (some 0, 0)), some (.inl (some 1, 0)), some (.inl (some 2, 0)), some (.inl (some 3, 0)), some (.inl (some 4, 0)), some (.inl (none, 19)), some (.inl (some 5, 0))], [], []), ([], 20)), (12, ([(0, 600), (0, 600), (4, 4), (3, 603), (0, 1), (117, 117)], [some (.inr (.inr (.inl [1]))), some (.inr (.inr (.inr 2))), some (.inl (some 0, 0)), some (.inl (some 1, 0)), some (.inl (some 2, 0)), some (.inl (some 3, 0)), some (.inl (some 4, 0)), some (.inl (none, 20)), some (.inl (some 5, 0))], [], []), ([], 19)), (12, ([(0, 600), (0, 600), (4, 4), (4, 604), (0, 1), (114, 114)], [some (.inr (.inr (.inl [1]))), some (.inr (.inr (.inr 2))), some (.inl (some 0, 0)), some (.inl (some 1, 0)), some (.inl (some 2, 0)), some (.inl (some 3, 0)), some (.inl (some 4, 0)), some (.inl (none, 21)), some (.inl (some 5, 0))], [], []), ([], 18)), (12, ([(0, 600), (0, 600), (4, 4), (5, 605), (0, 1), (115, 115)], [some (.inr (.inr (.inl [1]))), some (.inr (.inr (.inr 2))), some (.inl (some 0, 0)), some (.inl (some 1, 0)), some (.inl (some 2, 0)), some (.inl (some 3, 0)), some (.inl (some 4, 0)), some (.inl (none, 22)), some (.inl (some 5, 0))], [], []), ([], 17)), (12, ([(0, 600), (0, 600), (5, 5), (0, 600), (1, 1), (32, 32)], [some (.inr (.inr (.inl [1]))), some (.inr (.inr (.inr 2))), some (.inl (some 0, 0)), some (.inl (some 1, 0)), some (.inl (some 2, 0)), some (.inl (some 3, 0)), some (.inl (some 4, 0)), some (.inl (none, 23)), some (.inl (some 5, 0))], [], []), ([], 16)), (12, ([(0, 600), (0, 600), (5, 5), (1, 601), (0, 1), (108, 108)], [some (.inr (.inr (.inl [1]))), some (.inr (.inr (.inr 2))), some (.inl (some 0, 0)), some (.inl (some 1, 0)), some (.inl (some 2, 0)), some (.inl (some 3, 0)), some (.inl (some 4, 0)), some (.inl (none, 24)), some (.inl (some 5, 0))], [], []), ([], 15)), (12, ([(0, 600), (0, 600), (5, 5), (2, 602), (0, 1), (97, 97)], [some (.inr (.inr (.inl [1]))), some (.inr (.inr (.inr 2))), some (.inl (some 0, 0)), some (.inl (some 1, 0)), some (.inl (some 2, 0)), some (.inl (some 3, 0)), some (.inl (some 4, 0)), some (.inl (none, 25)), some (.inl (some 5, 0))], [], []), ([], 14)), (12, ([(0, 600), (0, 600), (5, 5), (3, 603), (0, 1), (99, 99)], [some (.inr (.inr (.inl [1]))), some (.inr (.inr (.inr 2))), some (.inl (some 0, 0)), some (.inl (some 1, 0)), some (.inl (some 2, 0)), some (.inl (some 3, 0)), some (.inl (some 4, 0)), some (.inl (none, 26)), some (.inl (some 5, 0))], [], []), ([], 13)), (12, ([(0, 600), (0, 600), (5, 5), (4, 604), (0, 1), (107, 107)], [some (.inr (.inr (.inl [1]))), some (.inr (.inr (.inr 2))), some (.inl (some 0, 0)), some (.inl (some 1, 0)), some (.inl (some 2, 0)), some (.inl (some 3, 0)), some (.inl (some 4, 0)), some (.inl (none, 27)), some (.inl (some 5, 0))], [], []), ([], 12)), (12, ([(0, 600), (0, 600), (6, 6), (0, 600), (1, 1), (32, 32)], [some (.inr (.inr (.inl [1]))), some (.inr (.inr (.inr 2))), some (.inl (some 0, 0)), some (.inl (some 1, 0)), some (.inl (some 2, 0)), some (.inl (some 3, 0)), some (.inl (some 4, 0)), some (.inl (none, 28)), some (.inl (some 5, 0))], [], []), ([], 11)), (12, ([(0, 600), (0, 600), (6, 6), (1, 601), (0, 1), (119, 119)], [some (.inr (.inr (.inl [1]))), some (.inr (.inr (.inr 2))), some (.inl (some 0, 0)), some (.inl (some 1, 0)), some (.inl (some 2, 0)), some (.inl (some 3, 0)), some (.inl (some 4, 0)), some (.inl (none, 29)), some (.inl (some 5, 0))], [], []), ([], 10)), (12, ([(0, 600), (0, 600), (6, 6), (2, 602), (0, 1), (114, 114)], [some (.inr (.inr (.inl [1]))), some (.inr (.inr (.inr 2))), some (.inl (some 0, 0)), some (.inl (some 1, 0)), some (.inl (some 2, 0)), some (.inl (some 3, 0)), some (.inl (some 4, 0)), some (.inl (none, 30)), some (.inl (some 5, 0))], [], []), ([], 9)), (12, ([(0, 600), (0, 600), (6, 6), (3, 603), (0, 1), (111, 111)], [some (.inr (.inr (.inl [1]))), some (.inr (.inr (.inr 2))), some (.inl (some 0, 0)), some (.inl (some 1, 0)), some (.inl (some 2, 0)), some (.inl (some 3, 0)), some (.inl (some 4, 0)), some (.inl (none, 31)), some (.inl (some 5, 0))], [], []), ([], 8)), (12, ([(0, 600), (0, 600), (6, 6), (4, 604), (0, 1), (110, 110)], [some (.inr (.inr (.inl [1]))), some (.inr (.inr (.inr 2))), some (.inl (some 0, 0)), some (.inl (some 1, 0)), some (.inl (some 2, 0)), some (.inl (some 3, 0)), some (.inl (some 4, 0)), some (.inl (none, 32)), some (.inl (some 5, 0))], [], []), ([], 7)), (12, ([(0, 600), (0, 600), (6, 6), (5, 605), (0, 1), (103, 103)], [some (.inr (.inr (.inl [1]))), some (.inr (.inr (.inr 2))), some (.inl (some 0, 0)), some (.inl (some 1, 0)), some (.inl (some 2, 0)), some (.inl (some 3, 0)), some (.inl (some 4, 0)), some (.inl (none, 33)), some (.inl (some 5, 0))], [], []), ([], 6)), (12, ([(0, 600), (0, 600), (7, 7), (0, 600), (1, 1), (32, 32)], [some (.inr (.inr (.inl [1]))), some (.inr (.inr (.inr 2))), some (.inl (some 0, 0)), some (.inl (some 1, 0)), some (.inl (some 2, 0)), some (.inl (some 3, 0)), some (.inl (some 4, 0)), some (.inl (none, 34)), some (.inl (some 5, 0))], [], []), ([], 5)), (12, ([(0, 600), (0, 600), (7, 7), (1, 601), (0, 1), (104, 104)], [some (.inr (.inr (.inl [1]))), some (.inr (.inr (.inr 2))), some (.inl (some 0, 0)), some (.inl (some 1, 0)), some (.inl (some 2, 0)), some (.inl (some 3, 0)), some (.inl (some 4, 0)), some (.inl (none, 35)), some (.inl (some 5, 0))], [], []), ([], 4)), (12, ([(0, 600), (0, 600), (7, 7), (2, 602), (0, 1), (97, 97)], [some (.inr (.inr (.inl [1]))), some (.inr (.inr (.inr 2))), some (.inl (some 0, 0)), some (.inl (some 1, 0)), some (.inl (some 2, 0)), some (.inl (some 3, 0)), some (.inl (some 4, 0)), some (.inl (none, 36)), some (.inl (some 5, 0))], [], []), ([], 3)), (12, ([(0, 600), (0, 600), (7, 7), (3, 603), (0, 1), (108, 108)], [some (.inr (.inr (.inl [1]))), some (.inr (.inr (.inr 2))), some (.inl (some 0, 0)), some (.inl (some 1, 0)), some (.inl (some 2, 0)), some (.inl (some 3, 0)), some (.inl (some 4, 0)), some (.inl (none, 37)), some (.inl (some 5, 0))], [], []), ([], 2)), (12, ([(0, 600), (0, 600), (7, 7), (4, 604), (0, 1), (102, 102)], [some (.inr (.inr (.inl [1]))), some (.inr (.inr (.inr 2))), some (.inl (some 0, 0)), some (.inl (some 1, 0)), some (.inl (some 2, 0)), some (.inl (some 3, 0)), some (.inl (some 4, 0)), some (.inl (none, 38)), some (.inl (some 5, 0))], [], []), ([], 1)), (12, ([(0, 600), (0, 600), (8, 8), (0, 600), (1, 1), (32, 32)], [some (.inr (.inr (.inl [1]))), some (.inr (.inr (.inr 2))), some (.inl (some 0, 0)), some (.inl (some 1, 0)), some (.inl (some 2, 0)), some (.inl (some 3, 0)), some (.inl (some 4, 0)), some (.inl (none, 39)), some (.inl (some 5, 0))], [], []), ([], 0))]) (fuel := 4000) ⟨lqX7, fa_cons (⟨_, _, _, pcq_X7_53⟩) (fa_cons (⟨_, _, _, pcq_X7_57⟩) (fa_nil))⟩ dtX7_find (by decide +kernel)
abbrev cc_X7_find_1 : scC := (qX7_find, 4, [(0, 600), (0, 600)], [.inr (.inr (.inl [1])), .inr (.inr (.inr 3)), .inl (some 0, 0), .inl (some 1, 0)], [], [(1, ((-1), 6), [], [], [])], [])
set_option maxRecDepth 20000 in
abbrev xx_X7_find_1 : scX := (Tx, invX, lnX7, [(53, 2, 0, cc_none), (57, 3, 0, cc_none)], cc_X7_find_1)
set_option maxRecDepth 20000 in
theorem hh_X7_find_1 : scH Tx invX cc_X7_find_1 := scCheck_ok (X := xx_X7_find_1) (nodes := [(12, ([(0, 600), (0, 600), (0, 0), (0, 600), (1, 1)], [some (.inr (.inr (.inl [1]))), some (.inr (.inr (.inr 3))), some (.inl (some 0, 0)), some (.inl (some 1, 0)), some (.inl (some 2, 0)), some (.inl (some 3, 0)), some (.inl (some 4, 0)), some (.inl (none, 0)), none], [], []), ([], 38)), (12, ([(0, 600), (0, 600), (0, 0), (1, 601), (0, 1), (97, 97)], [some (.inr (.inr (.inl [1]))), some (.inr (.inr (.inr 3))), some (.inl (some 0, 0)), some (.inl (some 1, 0)), some (.inl (some 2, 0)), some (.inl (some 3, 0)), some (.inl (some 4, 0)), some (.inl (none, 1)), some (.inl (some 5, 0))], [], []), ([], 37)), (12, ([(0, 600), (0, 600), (0, 0), (2, 602), (0, 1), (103, 103)], [some (.inr (.inr (.inl [1]))), some (.inr (.inr (.inr 3))), some (.inl (some 0, 0)), some (.inl (some 1, 0)), some (.inl (some 2, 0)), some (.inl (some 3, 0)), some (.inl (some 4, 0)), some (.inl (none, 2)), some (.inl (some 5, 0))], [], []), ([], 36)), (12, ([(0, 600), (0, 600), (0, 0), (3, 603), (0, 1), (101, 101)], [some (.inr (.inr (.inl [1]))), some (.inr (.inr (.inr 3))), some (.inl (some 0, 0)), some (.inl (some 1, 0)), some (.inl (some 2, 0)), some (.inl (some 3, 0)), some (.inl (some 4, 0)), some (.inl (none, 3)), some (.inl (some 5, 0))], [], []), ([], 35)), (12, ([(0, 600), (0, 600), (1, 1), (0, 600), (1, 1), (32, 32)], [some (.inr (.inr (.inl [1]))), some (.inr (.inr (.inr 3))), some (.inl (some 0, 0)), some (.inl (some 1, 0)), some (.inl (some 2, 0)), some (.inl (some 3, 0)), some (.inl (some 4, 0)), some (.inl (none, 4)), some (.inl (some 5, 0))], [], []), ([], 34)), (12, ([(0, 600), (0, 600), (1, 1), (1, 601), (0, 1), (121, 121)], [some (.inr (.inr (.inl [1]))), some (.inr (.inr (.inr 3))), some (.inl (some 0, 0)), some (.inl (some 1, 0)), some (.inl (some 2, 0)), some (.inl (some 3, 0)), some (.inl (some 4, 0)), some (.inl (none, 5)), some (.inl (some 5, 0))], [], []), ([], 33)), (12, ([(0, 600), (0, 600), (1, 1), (2, 602), (0, 1), (101, 101)], [some (.inr (.inr (.inl [1]))), some (.inr (.inr (.inr 3))), some (.inl (some 0, 0)), some (.inl (some 1, 0)), some (.inl (some 2, 0)), some (.inl (some 3, 0)), some (.inl (some 4, 0)), some (.inl (none, 6)), some (.inl (some 5, 0))], [], []), ([], 32)), (12, ([(0, 600), (0, 600), (1, 1), (3, 603), (0, 1), (97, 97)], [some (.inr (.inr (.inl [1]))), some (.inr (.inr (.inr 3))), some (.inl (some 0, 0)), some (.inl (some 1, 0)), some (.inl (some 2, 0)), some (.inl (some 3, 0)), some (.inl (some 4, 0)), some (.inl (none, 7)), some (.inl (some 5, 0))], [], []), ([], 31)), (12, ([(0, 600), (0, 600), (1, 1), (4, 604), (0, 1), (114, 114)], [some (.inr (.inr (.inl [1]))), some (.inr (.inr (.inr 3))), some (.inl (some 0, 0)), some (.inl (some 1, 0)), some (.inl (some 2, 0)), some (.inl (some 3, 0)), some (.inl (some 4, 0)), some (.inl (none, 8)), some (.inl (some 5, 0))], [], []), ([], 30)), (12, ([(0, 600), (0, 600), (1, 1), (5, 605), (0, 1), (115, 115)], [some (.inr (.inr (.inl [1]))), some (.inr (.inr (.inr 3))), some (.inl (some 0, 0)), some (.inl (some 1, 0)), some (.inl (some 2, 0)), some (.inl (some 3, 0)), some (.inl (some 4, 0)), some (.inl (none, 9)), some (.inl (some 5, 0))], [], []), ([], 29)), (12, ([(0, 600), (0, 600), (2, 2), (0, 600), (1, 1), (32, 32)], [some (.inr (.inr (.inl [1]))), some (.inr (.inr (.inr 3))), some (.inl (some 0, 0)), some (.inl (some 1, 0)), some (.inl (some 2, 0)), some (.inl (some 3, 0)), some (.inl (some 4, 0)), some (.inl (none, 10)), some (.inl (some 5, 0))], [], []), ([], 28)), (12, ([(0, 600), (0, 600), (2, 2), (1, 601), (0, 1), (119, 119)], [some (.inr (.inr (.inl [1]))), some (.inr (.inr (.inr 3))), some (.inl (some 0, 0)), some (.inl (some 1, 0)), some (.inl (some 2, 0)), some (.inl (some 3, 0)), some (.inl (some 4, 0)), some (.inl (none, 11)), some (.inl (some 5, 0))], [], []), ([], 27)), (12, ([(0, 600), (0, 600), (2, 2), (2, 602), (0, 1), (111, 111)], [some (.inr (.inr (.inl [1]))), some (.inr (.inr (.inr 3))), some (.inl (some 0, 0)), some (.inl (some 1, 0)), some (.inl (some 2, 0)), some (.inl (some 3, 0)), some (.inl (some 4, 0)), some (.inl (none, 12)), some (.inl (some 5, 0))], [], []), ([], 26)), (12, ([(0, 600), (0, 600), (2, 2), (3, 603), (0, 1), (114, 114)], [some (.inr (.inr (.inl [1]))), some (.inr (.inr (.inr 3))), some (.inl (some 0, 0)), some (.inl (some 1, 0)), some (.inl (some 2, 0)), some (.inl (some 3, 0)), some (.inl (some 4, 0)), some (.inl (none, 13)), some (.inl (some 5, 0))], [], []), ([], 25)), (12, ([(0, 600), (0, 600), (2, 2), (4, 604), (0, 1), (116, 116)], [some (.inr (.inr (.inl [1]))), some (.inr (.inr (.inr 3))), some (.inl (some 0, 0)), some (.inl (some 1, 0)), some (.inl (some 2, 0)), some (.inl (some 3, 0)), some (.inl (some 4, 0)), some (.inl (none, 14)), some (.inl (some 5, 0))], [], []), ([], 24)), (12, ([(0, 600), (0, 600), (2, 2), (5, 605), (0, 1), (104, 104)], [some (.inr (.inr (.inl [1]))), some (.inr (.inr (.inr 3))), some (.inl (some 0, 0)), some (.inl (some 1, 0)), some (.inl (some 2, 0)), some (.inl (some 3, 0)), some (.inl (some 4, 0)), some (.inl (none, 15)), some (.inl (some 5, 0))], [], []), ([], 23)), (12, ([(0, 600), (0, 600), (3, 3), (0, 600), (1, 1), (32, 32)], [some (.inr (.inr (.inl [1]))), some (.inr (.inr (.inr 3))), some (.inl (some 0, 0)), some (.inl (some 1, 0)), some (.inl (some 2, 0)), some (.inl (some 3, 0)), some (.inl (some 4, 0)), some (.inl (none, 16)), some (.inl (some 5, 0))], [], []), ([], 22)), (12, ([(0, 600), (0, 600), (3, 3), (1, 601), (0, 1), (100, 100)], [some (.inr (.inr (.inl [1]))), some (.inr (.inr (.inr 3))), some (.inl (some 0, 0)), some (.inl (some 1, 0)), some (.inl (some 2, 0)), some (.inl (some 3, 0)), some (.inl (some 4, 0)), some (.inl (none, 17)), some (.inl (some 5, 0))], [], []), ([], 21)), (12, ([(0, 600), (0, 600), (3, 3), (2, 602), (0, 1), (101, 101)], [some (.inr (.inr (.inl [1]))), some (.inr (.inr (.inr 3))), some (.inl (some 0, 0)), some (.inl (some 1, 0)), some (.inl (some 2, 0)), some (.inl (some 3, 0)), some (.inl (some 4, 0)), some (.inl (none, 18)), some (.inl (some 5, 0))], [], []), ([], 20)), (12, ([(0, 600), (0, 600), (3, 3), (3, 603), (0, 1), (97, 97)], [some (.inr (.inr (.inl [1]))), some (.inr (.inr (.inr 3))), some (.inl (some 0, 0)), some (.inl (some 1, 0)), some (.inl (some 2, 0)), some (.inl (some 3, 0)), some (.inl (some 4, 0)), some (.inl (none, 19)), some (.inl (some 5, 0))], [], []), ([], 19)), (12, ([(0, 600), (0, 600), (3, 3), (4, 604), (0, 1), (100, 100)], [some (.inr (.inr (.inl [1]))), some (.inr (.inr (.inr 3))), some (.inl (some 0, 0)), some (.inl (some 1, 0)), some (.inl (some 2, 0)), some (.inl (some 3, 0)), some (.inl (some 4, 0)), some (.inl (none, 20)), some (.inl (some 5, 0))], [], []), ([], 18)), (12, ([(0, 600), (0, 600), (4, 4), (0, 600), (1, 1), (32, 32)], [some (.inr (.inr (.inl [1]))), some (.inr (.inr (.inr 3))), some (.inl (some 0, 0)), some (.inl (some 1, 0)), some (.inl (some 2, 0)), some (.inl (some 3, 0)), some (.inl (some 4, 0)), some (.inl (none, 21)), some (.inl (some 5, 0))], [], []), ([], 17)), (12, ([(0, 600), (0, 600), (4, 4), (1, 601), (0, 1), (102, 102)], [some (.inr (.inr (.inl [1]))), some (.inr (.inr (.inr 3))), some (.inl (some 0, 0)), some (.inl (some 1, 0)), some (.inl (some 2, 0)), some (.inl (some 3, 0)), some (.inl (some 4, 0)), some (.inl (none, 22)), some (.inl (some 5, 0))], [], []), ([], 16)), (12, ([(0, 600), (0, 600), (4, 4), (2, 602), (0, 1), (97, 97)], [some (.inr (.inr (.inl [1]))), some (.inr (.inr (.inr 3))), some (.inl (some 0, 0)), some (.inl (some 1, 0)), some (.inl (some 2, 0)), some (.inl (some 3, 0)), some (.inl (some 4, 0)), some (.inl (none, 23)), some (.inl (some 5, 0))], [], []), ([], 15)), (12, ([(0, 600), (0, 600), (4, 4), (3, 603), (0, 1), (99, 99)], [some (.inr (.inr (.inl [1]))), some (.inr (.inr (.inr 3))), some (.inl (some 0, 0)), some (.inl (some 1, 0)), some (.inl (some 2, 0)), some (.inl (some 3, 0)), some (.inl (some 4, 0)), some (.inl (none, 24)), some (.inl (some 5, 0))], [], []), ([], 14)), (12, ([(0, 600), (0, 600), (4, 4), (4, 604), (0, 1), (116, 116)], [some (.inr (.inr (.inl [1]))), some (.inr (.inr (.inr 3))), some (.inl (some 0, 0)), some (.inl (some 1, 0)), some (.inl (some 2, 0)), some (.inl (some 3, 0)), some (.inl (some 4, 0)), some (.inl (none, 25)), some (.inl (some 5, 0))], [], []), ([], 13)), (12, ([(0, 600), (0, 600), (4, 4), (5, 605), (0, 1), (115, 115)], [some (.inr (.inr (.inl [1]))), some (.inr (.inr (.inr 3))), some (.inl (some 0, 0)), some (.inl (some 1, 0)), some (.inl (some 2, 0)), some (.inl (some 3, 0)), some (.inl (some 4, 0)), some (.inl (none, 26)), some (.inl (some 5, 0))], [], []), ([], 12)), (12, ([(0, 600), (0, 600), (5, 5), (0, 600), (1, 1), (32, 32)], [some (.inr (.inr (.inl [1]))), some (.inr (.inr (.inr 3))), some (.inl (some 0, 0)), some (.inl (some 1, 0)), some (.inl (some 2, 0)), some (.inl (some 3, 0)), some (.inl (some 4, 0)), some (.inl (none, 27)), some (.inl (some 5, 0))], [], []), ([], 11)), (12, ([(0, 600), (0, 600), (5, 5), (1, 601), (0, 1), (108, 108)], [some (.inr (.inr (.inl [1]))), some (.inr (.inr (.inr 3))), some (.inl (some 0, 0)), some (.inl (some 1, 0)), some (.inl (some 2, 0)), some (.inl (some 3, 0)), some (.inl (some 4, 0)), some (.inl (none, 28)), some (.inl (some 5, 0))], [], []), ([], 10)), (12, ([(0, 600), (0, 600), (5, 5), (2, 602), (0, 1), (101, 101)], [some (.inr (.inr (.inl [1]))), some (.inr (.inr (.inr 3))), some (.inl (some 0, 0)), some (.inl (some 1, 0)), some (.inl (some 2, 0)), some (.inl (some 3, 0)), some (.inl (some 4, 0)), some (.inl (none, 29)), some (.inl (some 5, 0))], [], []), ([], 9)), (12, ([(0, 600), (0, 600), (5, 5), (3, 603), (0, 1), (97, 97)], [some (.inr (.inr (.inl [1]))), some (.inr (.inr (.inr 3))), some (.inl (some 0, 0)), some (.inl (some 1, 0)), some (.inl (some 2, 0)), some (.inl (some 3, 0)), some (.inl (some 4, 0)), some (.inl (none, 30)), some (.inl (some 5, 0))], [], []), ([], 8)), (12, ([(0, 600), (0, 600), (5, 5), (4, 604), (0, 1), (115, 115)], [some (.inr (.inr (.inl [1]))), some (.inr (.inr (.inr 3))), some (.inl (some 0, 0)), some (.inl (some 1, 0)), some (.inl (some 2, 0)), some (.inl (some 3, 0)), some (.inl (some 4, 0)), some (.inl (none, 31)), some (.inl (some 5, 0))], [], []), ([], 7)), (12, ([(0, 600), (0, 600), (5, 5), (5, 605), (0, 1), (116, 116)], [some (.inr (.inr (.inl [1]))), some (.inr (.inr (.inr 3))), some (.inl (some 0, 0)), some (.inl (some 1, 0)), some (.inl (some 2, 0)), some (.inl (some 3, 0)), some (.inl (some 4, 0)), some (.inl (none, 32)), some (.inl (some 5, 0))], [], []), ([], 6)), (12, ([(0, 600), (0, 600), (6, 6), (0, 600), (1, 1), (32, 32)], [some (.inr (.inr (.inl [1]))), some (.inr (.inr (.inr 3))), some (.inl (some 0, 0)), some (.inl (some 1, 0)), some (.inl (some 2, 0)), some (.inl (some 3, 0)), some (.inl (some 4, 0)), some (.inl (none, 33)), some (.inl (some 5, 0))], [], []), ([], 5)), (12, ([(0, 600), (0, 600), (6, 6), (1, 601), (0, 1), (109, 109)], [some (.inr (.inr (.inl [1]))), some (.inr (.inr (.inr 3))), some (.inl (some 0, 0)), some (.inl (some 1, 0)), some (.inl (some 2, 0)), some (.inl (some 3, 0)), some (.inl (some 4, 0)), some (.inl (none, 34)), some (.inl (some 5, 0))], [], []), ([], 4)), (12, ([(0, 600), (0, 600), (6, 6), (2, 602), (0, 1), (111, 111)], [some (.inr (.inr (.inl [1]))), some (.inr (.inr (.inr 3))), some (.inl (some 0, 0)), some (.inl (some 1, 0)), some (.inl (some 2, 0)), some (.inl (some 3, 0)), some (.inl (some 4, 0)), some (.inl (none, 35)), some (.inl (some 5, 0))], [], []), ([], 3)), (12, ([(0, 600), (0, 600), (6, 6), (3, 603), (0, 1), (115, 115)], [some (.inr (.inr (.inl [1]))), some (.inr (.inr (.inr 3))), some (.inl (some 0, 0)), some (.inl (some 1, 0)), some (.inl (some 2, 0)), some (.inl (some 3, 0)), some (.inl (some 4, 0)), some (.inl (none, 36)), some (.inl (some 5, 0))], [], []), ([], 2)), (12, ([(0, 600), (0, 600), (6, 6), (4, 604), (0, 1), (116, 116)], [some (.inr (.inr (.inl [1]))), some (.inr (.inr (.inr 3))), some (.inl (some 0, 0)), some (.inl (some 1, 0)), some (.inl (some 2, 0)), some (.inl (some 3, 0)), some (.inl (some 4, 0)), some (.inl (none, 37)), some (.inl (some 5, 0))], [], []), ([], 1)), (12, ([(0, 600), (0, 600), (7, 7), (0, 600), (1, 1), (32, 32)], [some (.inr (.inr (.inl [1]))), some (.inr (.inr (.inr 3))), some (.inl (some 0, 0)), some (.inl (some 1, 0)), some (.inl (some 2, 0)), some (.inl (some 3, 0)), some (.inl (some 4, 0)), some (.inl (none, 38)), some (.inl (some 5, 0))], [], []), ([], 0))]) (fuel := 4000) ⟨lqX7, fa_cons (⟨_, _, _, pcq_X7_53⟩) (fa_cons (⟨_, _, _, pcq_X7_57⟩) (fa_nil))⟩ dtX7_find (by decide +kernel)
abbrev cc_X7_find_2 : scC := (qX7_find, 4, [(0, 600), (0, 600)], [.inr (.inr (.inl [1])), .inr (.inr (.inr 4)), .inl (some 0, 0), .inl (some 1, 0)], [], [(1, ((-1), 4), [], [], [])], [])
set_option maxRecDepth 20000 in
abbrev xx_X7_find_2 : scX := (Tx, invX, lnX7, [(53, 2, 0, cc_none), (57, 3, 0, cc_none)], cc_X7_find_2)
set_option maxRecDepth 20000 in
theorem hh_X7_find_2 : scH Tx invX cc_X7_find_2 := scCheck_ok (X := xx_X7_find_2) (nodes := [(12, ([(0, 600), (0, 600), (0, 0), (0, 600), (1, 1)], [some (.inr (.inr (.inl [1]))), some (.inr (.inr (.inr 4))), some (.inl (some 0, 0)), some (.inl (some 1, 0)), some (.inl (some 2, 0)), some (.inl (some 3, 0)), some (.inl (some 4, 0)), some (.inl (none, 0)), none], [], []), ([], 27)), (12, ([(0, 600), (0, 600), (0, 0), (1, 601), (0, 1), (119, 119)], [some (.inr (.inr (.inl [1]))), some (.inr (.inr (.inr 4))), some (.inl (some 0, 0)), some (.inl (some 1, 0)), some (.inl (some 2, 0)), some (.inl (some 3, 0)), some (.inl (some 4, 0)), some (.inl (none, 1)), some (.inl (some 5, 0))], [], []), ([], 26)), (12, ([(0, 600), (0, 600), (0, 0), (2, 602), (0, 1), (114, 114)], [some (.inr (.inr (.inl [1]))), some (.inr (.inr (.inr 4))), some (.inl (some 0, 0)), some (.inl (some 1, 0)), some (.inl (some 2, 0)), some (.inl (some 3, 0)), some (.inl (some 4, 0)), some (.inl (none, 2)), some (.inl (some 5, 0))], [], []), ([], 25)), (12, ([(0, 600), (0, 600), (0, 0), (3, 603), (0, 1), (105, 105)], [some (.inr (.inr (.inl [1]))), some (.inr (.inr (.inr 4))), some (.inl (some 0, 0)), some (.inl (some 1, 0)), some (.inl (some 2, 0)), some (.inl (some 3, 0)), some (.inl (some 4, 0)), some (.inl (none, 3)), some (.inl (some 5, 0))], [], []), ([], 24)), (12, ([(0, 600), (0, 600), (0, 0), (4, 604), (0, 1), (116, 116)], [some (.inr (.inr (.inl [1]))), some (.inr (.inr (.inr 4))), some (.inl (some 0, 0)), some (.inl (some 1, 0)), some (.inl (some 2, 0)), some (.inl (some 3, 0)), some (.inl (some 4, 0)), some (.inl (none, 4)), some (.inl (some 5, 0))], [], []), ([], 23)), (12, ([(0, 600), (0, 600), (0, 0), (5, 605), (0, 1), (101, 101)], [some (.inr (.inr (.inl [1]))), some (.inr (.inr (.inr 4))), some (.inl (some 0, 0)), some (.inl (some 1, 0)), some (.inl (some 2, 0)), some (.inl (some 3, 0)), some (.inl (some 4, 0)), some (.inl (none, 5)), some (.inl (some 5, 0))], [], []), ([], 22)), (12, ([(0, 600), (0, 600), (1, 1), (0, 600), (1, 1), (32, 32)], [some (.inr (.inr (.inl [1]))), some (.inr (.inr (.inr 4))), some (.inl (some 0, 0)), some (.inl (some 1, 0)), some (.inl (some 2, 0)), some (.inl (some 3, 0)), some (.inl (some 4, 0)), some (.inl (none, 6)), some (.inl (some 5, 0))], [], []), ([], 21)), (12, ([(0, 600), (0, 600), (1, 1), (1, 601), (0, 1), (114, 114)], [some (.inr (.inr (.inl [1]))), some (.inr (.inr (.inr 4))), some (.inl (some 0, 0)), some (.inl (some 1, 0)), some (.inl (some 2, 0)), some (.inl (some 3, 0)), some (.inl (some 4, 0)), some (.inl (none, 7)), some (.inl (some 5, 0))], [], []), ([], 20)), (12, ([(0, 600), (0, 600), (1, 1), (2, 602), (0, 1), (101, 101)], [some (.inr (.inr (.inl [1]))), some (.inr (.inr (.inr 4))), some (.inl (some 0, 0)), some (.inl (some 1, 0)), some (.inl (some 2, 0)), some (.inl (some 3, 0)), some (.inl (some 4, 0)), some (.inl (none, 8)), some (.inl (some 5, 0))], [], []), ([], 19)), (12, ([(0, 600), (0, 600), (1, 1), (3, 603), (0, 1), (110, 110)], [some (.inr (.inr (.inl [1]))), some (.inr (.inr (.inr 4))), some (.inl (some 0, 0)), some (.inl (some 1, 0)), some (.inl (some 2, 0)), some (.inl (some 3, 0)), some (.inl (some 4, 0)), some (.inl (none, 9)), some (.inl (some 5, 0))], [], []), ([], 18)), (12, ([(0, 600), (0, 600), (1, 1), (4, 604), (0, 1), (101, 101)], [some (.inr (.inr (.inl [1]))), some (.inr (.inr (.inr 4))), some (.inl (some 0, 0)), some (.inl (some 1, 0)), some (.inl (some 2, 0)), some (.inl (some 3, 0)), some (.inl (some 4, 0)), some (.inl (none, 10)), some (.inl (some 5, 0))], [], []), ([], 17)), (12, ([(0, 600), (0, 600), (1, 1), (5, 605), (0, 1), (119, 119)], [some (.inr (.inr (.inl [1]))), some (.inr (.inr (.inr 4))), some (.inl (some 0, 0)), some (.inl (some 1, 0)), some (.inl (some 2, 0)), some (.inl (some 3, 0)), some (.inl (some 4, 0)), some (.inl (none, 11)), some (.inl (some 5, 0))], [], []), ([], 16)), (12, ([(0, 600), (0, 600), (2, 2), (0, 600), (1, 1), (32, 32)], [some (.inr (.inr (.inl [1]))), some (.inr (.inr (.inr 4))), some (.inl (some 0, 0)), some (.inl (some 1, 0)), some (.inl (some 2, 0)), some (.inl (some 3, 0)), some (.inl (some 4, 0)), some (.inl (none, 12)), some (.inl (some 5, 0))], [], []), ([], 15)), (12, ([(0, 600), (0, 600), (2, 2), (1, 601), (0, 1), (100, 100)], [some (.inr (.inr (.inl [1]))), some (.inr (.inr (.inr 4))), some (.inl (some 0, 0)), some (.inl (some 1, 0)), some (.inl (some 2, 0)), some (.inl (some 3, 0)), some (.inl (some 4, 0)), some (.inl (none, 13)), some (.inl (some 5, 0))], [], []), ([], 14)), (12, ([(0, 600), (0, 600), (2, 2), (2, 602), (0, 1), (105, 105)], [some (.inr (.inr (.inl [1]))), some (.inr (.inr (.inr 4))), some (.inl (some 0, 0)), some (.inl (some 1, 0)), some (.inl (some 2, 0)), some (.inl (some 3, 0)), some (.inl (some 4, 0)), some (.inl (none, 14)), some (.inl (some 5, 0))], [], []), ([], 13)), (12, ([(0, 600), (0, 600), (2, 2), (3, 603), (0, 1), (101, 101)], [some (.inr (.inr (.inl [1]))), some (.inr (.inr (.inr 4))), some (.inl (some 0, 0)), some (.inl (some 1, 0)), some (.inl (some 2, 0)), some (.inl (some 3, 0)), some (.inl (some 4, 0)), some (.inl (none, 15)), some (.inl (some 5, 0))], [], []), ([], 12)), (12, ([(0, 600), (0, 600), (3, 3), (0, 600), (1, 1), (32, 32)], [some (.inr (.inr (.inl [1]))), some (.inr (.inr (.inr 4))), some (.inl (some 0, 0)), some (.inl (some 1, 0)), some (.inl (some 2, 0)), some (.inl (some 3, 0)), some (.inl (some 4, 0)), some (.inl (none, 16)), some (.inl (some 5, 0))], [], []), ([], 11)), (12, ([(0, 600), (0, 600), (3, 3), (1, 601), (0, 1), (119, 119)], [some (.inr (.inr (.inl [1]))), some (.inr (.inr (.inr 4))), some (.inl (some 0, 0)), some (.inl (some 1, 0)), some (.inl (some 2, 0)), some (.inl (some 3, 0)), some (.inl (some 4, 0)), some (.inl (none, 17)), some (.inl (some 5, 0))], [], []), ([], 10)), (12, ([(0, 600), (0, 600), (3, 3), (2, 602), (0, 1), (101, 101)], [some (.inr (.inr (.inl [1]))), some (.inr (.inr (.inr 4))), some (.inl (some 0, 0)), some (.inl (some 1, 0)), some (.inl (some 2, 0)), some (.inl (some 3, 0)), some (.inl (some 4, 0)), some (.inl (none, 18)), some (.inl (some 5, 0))], [], []), ([], 9)), (12, ([(0, 600), (0, 600), (3, 3), (3, 603), (0, 1), (101, 101)], [some (.inr (.inr (.inl [1]))), some (.inr (.inr (.inr 4))), some (.inl (some 0, 0)), some (.inl (some 1, 0)), some (.inl (some 2, 0)), some (.inl (some 3, 0)), some (.inl (some 4, 0)), some (.inl (none, 19)), some (.inl (some 5, 0))], [], []), ([], 8)), (12, ([(0, 600), (0, 600), (3, 3), (4, 604), (0, 1), (107, 107)], [some (.inr (.inr (.inl [1]))), some (.inr (.inr (.inr 4))), some (.inl (some 0, 0)), some (.inl (some 1, 0)), some (.inl (some 2, 0)), some (.inl (some 3, 0)), some (.inl (some 4, 0)), some (.inl (none, 20)), some (.inl (some 5, 0))], [], []), ([], 7)), (12, ([(0, 600), (0, 600), (4, 4), (0, 600), (1, 1), (32, 32)], [some (.inr (.inr (.inl [1]))), some (.inr (.inr (.inr 4))), some (.inl (some 0, 0)), some (.inl (some 1, 0)), some (.inl (some 2, 0)), some (.inl (some 3, 0)), some (.inl (some 4, 0)), some (.inl (none, 21)), some (.inl (some 5, 0))], [], []), ([], 6)), (12, ([(0, 600), (0, 600), (4, 4), (1, 601), (0, 1), (97, 97)], [some (.inr (.inr (.inl [1]))), some (.inr (.inr (.inr 4))), some (.inl (some 0, 0)), some (.inl (some 1, 0)), some (.inl (some 2, 0)), some (.inl (some 3, 0)), some (.inl (some 4, 0)), some (.inl (none, 22)), some (.inl (some 5, 0))], [], []), ([], 5)), (12, ([(0, 600), (0, 600), (4, 4), (2, 602), (0, 1), (103, 103)], [some (.inr (.inr (.inl [1]))), some (.inr (.inr (.inr 4))), some (.inl (some 0, 0)), some (.inl (some 1, 0)), some (.inl (some 2, 0)), some (.inl (some 3, 0)), some (.inl (some 4, 0)), some (.inl (none, 23)), some (.inl (some 5, 0))], [], []), ([], 4)), (12, ([(0, 600), (0, 600), (4, 4), (3, 603), (0, 1), (97, 97)], [some (.inr (.inr (.inl [1]))), some (.inr (.inr (.inr 4))), some (.inl (some 0, 0)), some (.inl (some 1, 0)), some (.inl (some 2, 0)), some (.inl (some 3, 0)), some (.inl (some 4, 0)), some (.inl (none, 24)), some (.inl (some 5, 0))], [], []), ([], 3)), (12, ([(0, 600), (0, 600), (4, 4), (4, 604), (0, 1), (105, 105)], [some (.inr (.inr (.inl [1]))), some (.inr (.inr (.inr 4))), some (.inl (some 0, 0)), some (.inl (some 1, 0)), some (.inl (some 2, 0)), some (.inl (some 3, 0)), some (.inl (some 4, 0)), some (.inl (none, 25)), some (.inl (some 5, 0))], [], []), ([], 2)), (12, ([(0, 600), (0, 600), (4, 4), (5, 605), (0, 1), (110, 110)], [some (.inr (.inr (.inl [1]))), some (.inr (.inr (.inr 4))), some (.inl (some 0, 0)), some (.inl (some 1, 0)), some (.inl (some 2, 0)), some (.inl (some 3, 0)), some (.inl (some 4, 0)), some (.inl (none, 26)), some (.inl (some 5, 0))], [], []), ([], 1)), (12, ([(0, 600), (0, 600), (5, 5), (0, 600), (1, 1), (32, 32)], [some (.inr (.inr (.inl [1]))), some (.inr (.inr (.inr 4))), some (.inl (some 0, 0)), some (.inl (some 1, 0)), some (.inl (some 2, 0)), some (.inl (some 3, 0)), some (.inl (some 4, 0)), some (.inl (none, 27)), some (.inl (some 5, 0))], [], []), ([], 0))]) (fuel := 4000) ⟨lqX7, fa_cons (⟨_, _, _, pcq_X7_53⟩) (fa_cons (⟨_, _, _, pcq_X7_57⟩) (fa_nil))⟩ dtX7_find (by decide +kernel)
abbrev cc_X7_put_0 : scC := (qX7_put, 0, [((-2147483648), 2147483647)], [.inr (.inr (.inl [1])), .inl (some 0, 0)], [], [(0, (0, 0), [], [], [])], [(1, 1, 1), (2, 0, 600)])
set_option maxRecDepth 20000 in
abbrev xx_X7_put_0 : scX := (Tx, invX, lnX7, [], cc_X7_put_0)
set_option maxRecDepth 20000 in
theorem hh_X7_put_0 : scH Tx invX cc_X7_put_0 := scCheck_ok (X := xx_X7_put_0) (nodes := [(3, ([((-2147483648), 2147483647), ((-8), 24), (0, 600)], [some (.inr (.inr (.inl [1]))), some (.inl (some 0, 0)), some (.inl (some 1, 0))], [], [((1, 1), (some 2, 0))]), ([0, 2], 16))]) (fuel := 4000) ⟨lqX7, fa_nil⟩ dtX7_put (by decide +kernel)
abbrev cc_X10_feed_0 : scC := (qX10_feed, 1, [((-2147483648), 2147483647), ((-2147483648), 2147483647), ((-2147483648), 2147483647), ((-2147483648), 2147483647), ((-2147483648), 2147483647)], [.inr (.inr (.inl [0])), .inl (some 0, 0), .inl (some 1, 0), .inl (some 2, 0), .inl (some 3, 0), .inl (some 4, 0)], [], [(1, ((-1), 600), [], [], [])], [(1, 1, 1), (2, 0, 600)])
set_option maxRecDepth 20000 in
abbrev xx_X10_feed_0 : scX := (Tx, invX, lnX10, [(104, 0, 7, cc_X7_put_0)], cc_X10_feed_0)
set_option maxRecDepth 20000 in
theorem hh_X10_feed_0 : scH Tx invX cc_X10_feed_0 := scCheck_ok (X := xx_X10_feed_0) (nodes := []) (fuel := 4000) ⟨lqX10, fa_cons (⟨⟨1, _, pcv_X10_104, rfl⟩, hh_X7_put_0⟩) (fa_nil)⟩ dtX10_feed (by decide +kernel)
abbrev cc_X10_needWithin_0 : scC := (qX10_needWithin, 0, [((-2147483648), 2147483647), (0, 0), ((-2147483648), 600)], [.inr (.inr (.inl [0])), .inl (some 0, 0), .inl (some 1, 0), .inl (some 2, 0)], [], [(0, (0, 0), [], [(0, (0, 600)), (2, (0, 600))], []), (4, (0, 0), [], [], [])], [(0, 16, 1)])
set_option maxRecDepth 20000 in
abbrev xx_X10_needWithin_0 : scX := (Tx, invX, lnX10, [], cc_X10_needWithin_0)
set_option maxRecDepth 20000 in
theorem hh_X10_needWithin_0 : scH Tx invX cc_X10_needWithin_0 := scCheck_ok (X := xx_X10_needWithin_0) (nodes := []) (fuel := 4000) ⟨lqX10, fa_nil⟩ dtX10_needWithin (by decide +kernel)
abbrev cc_X7_open_0 : scC := (qX7_open, 0, [(0, 600)], [.inr (.inr (.inl [1])), .inl (some 0, 0)], [], [(0, (0, 0), [], [], [])], [(1, 1, 5)])
set_option maxRecDepth 20000 in
abbrev xx_X7_open_0 : scX := (Tx, invX, lnX7, [], cc_X7_open_0)
set_option maxRecDepth 20000 in
theorem hh_X7_open_0 : scH Tx invX cc_X7_open_0 := scCheck_ok (X := xx_X7_open_0) (nodes := []) (fuel := 4000) ⟨lqX7, fa_nil⟩ dtX7_open (by decide +kernel)
abbrev cc_X10_openText_0 : scC := (qX10_openText, 1, [((-2147483648), 2147483647), ((-2147483648), 2147483647)], [.inr (.inr (.inl [0])), .inl (some 0, 0), .inl (some 1, 0)], [], [(0, (0, 0), [], [], []), (4, (0, 0), [], [], [])], [(0, 16, 1), (1, 1, 5)])
set_option maxRecDepth 20000 in
abbrev xx_X10_openText_0 : scX := (Tx, invX, lnX10, [(169, 0, 10, cc_X10_needWithin_0), (381, 0, 7, cc_X7_open_0)], cc_X10_openText_0)
set_option maxRecDepth 20000 in
theorem hh_X10_openText_0 : scH Tx invX cc_X10_openText_0 := scCheck_ok (X := xx_X10_openText_0) (nodes := []) (fuel := 4000) ⟨lqX10, fa_cons (⟨⟨3, _, pcv_X10_169, rfl⟩, hh_X10_needWithin_0⟩) (fa_cons (⟨⟨1, _, pcv_X10_381, rfl⟩, hh_X7_open_0⟩) (fa_nil))⟩ dtX10_openText (by decide +kernel)
abbrev cc_X8_clear_0 : scC := (qX8_clear, 0, [], [.inr (.inr (.inl [13]))], [], [(0, (0, 0), [], [], [])], [(13, 9, 6)])
set_option maxRecDepth 20000 in
abbrev xx_X8_clear_0 : scX := (Tx, invX, lnX8, [], cc_X8_clear_0)
set_option maxRecDepth 20000 in
theorem hh_X8_clear_0 : scH Tx invX cc_X8_clear_0 := scCheck_ok (X := xx_X8_clear_0) (nodes := []) (fuel := 4000) ⟨lqX8, fa_nil⟩ dtX8_clear (by decide +kernel)
abbrev cc_X7_peek_0 : scC := (qX7_peek, 0, [], [.inr (.inr (.inl [1]))], [], [(1, (0, 255), [], [], [((1, 3), (0, 599))]), (1, ((-1), (-1)), [], [], [((1, 3), (0, 600))])], [(1, 3, 1)])
set_option maxRecDepth 20000 in
abbrev xx_X7_peek_0 : scX := (Tx, invX, lnX7, [], cc_X7_peek_0)
set_option maxRecDepth 20000 in
theorem hh_X7_peek_0 : scH Tx invX cc_X7_peek_0 := scCheck_ok (X := xx_X7_peek_0) (nodes := [(0, ([(1, 600), (1, 600)], [some (.inr (.inr (.inl [1])))], [], [((1, 3), (some 0, 0)), ((1, 2), (some 1, 0))]), ([(-2)], 1200))]) (fuel := 4000) ⟨lqX7, fa_nil⟩ dtX7_peek (by decide +kernel)
abbrev cc_X7_nextPlace_0 : scC := (qX7_nextPlace, 1, [], [.inr (.inr (.inl [1]))], [], [(1, (0, 600), [], [], [])], [(1, 3, 1)])
set_option maxRecDepth 20000 in
abbrev xx_X7_nextPlace_0 : scX := (Tx, invX, lnX7, [(31, 0, 7, cc_X7_peek_0)], cc_X7_nextPlace_0)
set_option maxRecDepth 20000 in
theorem hh_X7_nextPlace_0 : scH Tx invX cc_X7_nextPlace_0 := scCheck_ok (X := xx_X7_nextPlace_0) (nodes := []) (fuel := 4000) ⟨lqX7, fa_cons (⟨⟨0, _, pcv_X7_31, rfl⟩, hh_X7_peek_0⟩) (fa_nil)⟩ dtX7_nextPlace (by decide +kernel)
abbrev cc_X7_fail_0 : scC := (qX7_fail, 0, [(1, 1), (0, 600), (0, 3)], [.inr (.inr (.inl [1])), .inl (some 0, 0), .inl (some 1, 0)], [((1, 4), (some 2, 0))], [(1, (0, 0), [], [], [((1, 4), (1, 3))])], [(1, 4, 2)])
set_option maxRecDepth 20000 in
abbrev xx_X7_fail_0 : scX := (Tx, invX, lnX7, [], cc_X7_fail_0)
set_option maxRecDepth 20000 in
theorem hh_X7_fail_0 : scH Tx invX cc_X7_fail_0 := scCheck_ok (X := xx_X7_fail_0) (nodes := []) (fuel := 4000) ⟨lqX7, fa_nil⟩ dtX7_fail (by decide +kernel)
abbrev cc_X7_takeWord_0 : scC := (qX7_takeWord, 5, [], [.inr (.inr (.inl [1])), .inr (.inr (.inr 2))], [], [(1, ((-1), 7), [], [], [])], [(1, 3, 3)])
set_option maxRecDepth 20000 in
abbrev xx_X7_takeWord_0 : scX := (Tx, invX, lnX7, [(35, 0, 7, cc_X7_fail_0), (39, 0, 7, cc_X7_nextPlace_0), (49, 0, 7, cc_X7_find_0)], cc_X7_takeWord_0)
set_option maxRecDepth 20000 in
theorem hh_X7_takeWord_0 : scH Tx invX cc_X7_takeWord_0 := scCheck_ok (X := xx_X7_takeWord_0) (nodes := [(7, ([(0, 600), (0, 600), (0, 600)], [some (.inr (.inr (.inl [1]))), some (.inr (.inr (.inr 2))), some (.inl (some 0, 0)), some (.inl (some 1, 0)), none], [], [((1, 2), (some 2, 0))]), ([0, (-2)], 1200))]) (fuel := 4000) ⟨lqX7, fa_cons (⟨⟨2, _, pcv_X7_35, rfl⟩, hh_X7_fail_0⟩) (fa_cons (⟨⟨0, _, pcv_X7_39, rfl⟩, hh_X7_nextPlace_0⟩) (fa_cons (⟨⟨3, _, pcv_X7_49, rfl⟩, hh_X7_find_0⟩) (fa_nil)))⟩ dtX7_takeWord (by decide +kernel)
abbrev cc_X7_fail_1 : scC := (qX7_fail, 0, [(1, 1), (0, 599), (0, 3)], [.inr (.inr (.inl [1])), .inl (some 0, 0), .inl (some 1, 0)], [((1, 4), (some 2, 0))], [(1, (0, 0), [], [], [((1, 4), (1, 3))])], [(1, 4, 2)])
set_option maxRecDepth 20000 in
abbrev xx_X7_fail_1 : scX := (Tx, invX, lnX7, [], cc_X7_fail_1)
set_option maxRecDepth 20000 in
theorem hh_X7_fail_1 : scH Tx invX cc_X7_fail_1 := scCheck_ok (X := xx_X7_fail_1) (nodes := []) (fuel := 4000) ⟨lqX7, fa_nil⟩ dtX7_fail (by decide +kernel)
abbrev cc_X7_fail_2 : scC := (qX7_fail, 0, [(2, 2), (0, 600), (0, 3)], [.inr (.inr (.inl [1])), .inl (some 0, 0), .inl (some 1, 0)], [((1, 4), (some 2, 0))], [(1, (0, 0), [], [], [((1, 4), (1, 3))])], [(1, 4, 2)])
set_option maxRecDepth 20000 in
abbrev xx_X7_fail_2 : scX := (Tx, invX, lnX7, [], cc_X7_fail_2)
set_option maxRecDepth 20000 in
theorem hh_X7_fail_2 : scH Tx invX cc_X7_fail_2 := scCheck_ok (X := xx_X7_fail_2) (nodes := []) (fuel := 4000) ⟨lqX7, fa_nil⟩ dtX7_fail (by decide +kernel)
abbrev cc_X7_takeNumber_0 : scC := (qX7_takeNumber, 2, [(0, 0), (110, 110), (0, 3)], [.inr (.inr (.inl [1])), .inl (some 0, 0), .inl (some 1, 0)], [((1, 4), (some 2, 0))], [(1, (0, 110), [], [], [((1, 4), (0, 3))]), (1, ((-1), (-1)), [], [], [((1, 4), (1, 3))])], [(1, 3, 3)])
set_option maxRecDepth 20000 in
abbrev xx_X7_takeNumber_0 : scX := (Tx, invX, lnX7, [(35, 0, 7, cc_X7_fail_1), (35, 0, 7, cc_X7_fail_0), (35, 0, 7, cc_X7_fail_2), (39, 0, 7, cc_X7_nextPlace_0)], cc_X7_takeNumber_0)
set_option maxRecDepth 20000 in
theorem hh_X7_takeNumber_0 : scH Tx invX cc_X7_takeNumber_0 := scCheck_ok (X := xx_X7_takeNumber_0) (nodes := [(8, ([(0, 0), (110, 110), (0, 600), ((-2147483648), 1000000), (0, 3), (0, 600), (0, 600)], [some (.inr (.inr (.inl [1]))), some (.inl (some 0, 0)), some (.inl (some 1, 0)), some (.inl (some 2, 0)), some (.inl (some 3, 0))], [], [((1, 4), (some 4, 0)), ((1, 3), (some 5, 0)), ((1, 2), (some 6, 0))]), ([0, 0, 0, 0, 0, (-2)], 1200))]) (fuel := 4000) ⟨lqX7, fa_cons (⟨⟨2, _, pcv_X7_35, rfl⟩, hh_X7_fail_1⟩) (fa_cons (⟨⟨2, _, pcv_X7_35, rfl⟩, hh_X7_fail_0⟩) (fa_cons (⟨⟨2, _, pcv_X7_35, rfl⟩, hh_X7_fail_2⟩) (fa_cons (⟨⟨0, _, pcv_X7_39, rfl⟩, hh_X7_nextPlace_0⟩) (fa_nil))))⟩ dtX7_takeNumber (by decide +kernel)
abbrev cc_X7_fail_3 : scC := (qX7_fail, 0, [((-2147483648), 2147483647), ((-2147483648), 2147483647), (1, 3)], [.inr (.inr (.inl [1])), .inl (some 0, 0), .inl (some 1, 0)], [((1, 4), (some 2, 0))], [(1, (0, 0), [], [], [((1, 4), (1, 3))])], [])
set_option maxRecDepth 20000 in
abbrev xx_X7_fail_3 : scX := (Tx, invX, lnX7, [], cc_X7_fail_3)
set_option maxRecDepth 20000 in
theorem hh_X7_fail_3 : scH Tx invX cc_X7_fail_3 := scCheck_ok (X := xx_X7_fail_3) (nodes := []) (fuel := 4000) ⟨lqX7, fa_nil⟩ dtX7_fail (by decide +kernel)
abbrev cc_X7_takeNumber_1 : scC := (qX7_takeNumber, 2, [(0, 0), (64, 64), (1, 3)], [.inr (.inr (.inl [1])), .inl (some 0, 0), .inl (some 1, 0)], [((1, 4), (some 2, 0))], [(1, (0, 64), [], [], [((1, 4), (1, 3))]), (1, ((-1), (-1)), [], [], [((1, 4), (1, 3))])], [(1, 3, 1)])
set_option maxRecDepth 20000 in
abbrev xx_X7_takeNumber_1 : scX := (Tx, invX, lnX7, [(35, 0, 7, cc_X7_fail_3), (39, 0, 7, cc_X7_nextPlace_0)], cc_X7_takeNumber_1)
set_option maxRecDepth 20000 in
theorem hh_X7_takeNumber_1 : scH Tx invX cc_X7_takeNumber_1 := scCheck_ok (X := xx_X7_takeNumber_1) (nodes := [(8, ([(0, 0), (64, 64), (0, 600), ((-2147483648), 1000000), (1, 3), (0, 600), (0, 600)], [some (.inr (.inr (.inl [1]))), some (.inl (some 0, 0)), some (.inl (some 1, 0)), some (.inl (some 2, 0)), some (.inl (some 3, 0))], [], [((1, 4), (some 4, 0)), ((1, 3), (some 5, 0)), ((1, 2), (some 6, 0))]), ([0, 0, 0, 0, 0, (-2)], 1200))]) (fuel := 4000) ⟨lqX7, fa_cons (⟨⟨2, _, pcv_X7_35, rfl⟩, hh_X7_fail_3⟩) (fa_cons (⟨⟨0, _, pcv_X7_39, rfl⟩, hh_X7_nextPlace_0⟩) (fa_nil))⟩ dtX7_takeNumber (by decide +kernel)
abbrev cc_X7_takeNumber_2 : scC := (qX7_takeNumber, 2, [(1, 1), (99, 99), (1, 3)], [.inr (.inr (.inl [1])), .inl (some 0, 0), .inl (some 1, 0)], [((1, 4), (some 2, 0))], [(1, (1, 99), [], [], [((1, 4), (1, 3))]), (1, ((-1), (-1)), [], [], [((1, 4), (1, 3))])], [(1, 3, 1)])
set_option maxRecDepth 20000 in
abbrev xx_X7_takeNumber_2 : scX := (Tx, invX, lnX7, [(35, 0, 7, cc_X7_fail_3), (39, 0, 7, cc_X7_nextPlace_0)], cc_X7_takeNumber_2)
set_option maxRecDepth 20000 in
theorem hh_X7_takeNumber_2 : scH Tx invX cc_X7_takeNumber_2 := scCheck_ok (X := xx_X7_takeNumber_2) (nodes := [(8, ([(1, 1), (99, 99), (0, 600), ((-2147483648), 1000000), (1, 3), (0, 600), (0, 600)], [some (.inr (.inr (.inl [1]))), some (.inl (some 0, 0)), some (.inl (some 1, 0)), some (.inl (some 2, 0)), some (.inl (some 3, 0))], [], [((1, 4), (some 4, 0)), ((1, 3), (some 5, 0)), ((1, 2), (some 6, 0))]), ([0, 0, 0, 0, 0, (-2)], 1200))]) (fuel := 4000) ⟨lqX7, fa_cons (⟨⟨2, _, pcv_X7_35, rfl⟩, hh_X7_fail_3⟩) (fa_cons (⟨⟨0, _, pcv_X7_39, rfl⟩, hh_X7_nextPlace_0⟩) (fa_nil))⟩ dtX7_takeNumber (by decide +kernel)
abbrev cc_X7_takeNumber_3 : scC := (qX7_takeNumber, 2, [(1, 1), (9, 9), (1, 3)], [.inr (.inr (.inl [1])), .inl (some 0, 0), .inl (some 1, 0)], [((1, 4), (some 2, 0))], [(1, (1, 9), [], [], [((1, 4), (1, 3))]), (1, ((-1), (-1)), [], [], [((1, 4), (1, 3))])], [(1, 3, 1)])
set_option maxRecDepth 20000 in
abbrev xx_X7_takeNumber_3 : scX := (Tx, invX, lnX7, [(35, 0, 7, cc_X7_fail_3), (39, 0, 7, cc_X7_nextPlace_0)], cc_X7_takeNumber_3)
set_option maxRecDepth 20000 in
theorem hh_X7_takeNumber_3 : scH Tx invX cc_X7_takeNumber_3 := scCheck_ok (X := xx_X7_takeNumber_3) (nodes := [(8, ([(1, 1), (9, 9), (0, 600), ((-2147483648), 1000000), (1, 3), (0, 600), (0, 600)], [some (.inr (.inr (.inl [1]))), some (.inl (some 0, 0)), some (.inl (some 1, 0)), some (.inl (some 2, 0)), some (.inl (some 3, 0))], [], [((1, 4), (some 4, 0)), ((1, 3), (some 5, 0)), ((1, 2), (some 6, 0))]), ([0, 0, 0, 0, 0, (-2)], 1200))]) (fuel := 4000) ⟨lqX7, fa_cons (⟨⟨2, _, pcv_X7_35, rfl⟩, hh_X7_fail_3⟩) (fa_cons (⟨⟨0, _, pcv_X7_39, rfl⟩, hh_X7_nextPlace_0⟩) (fa_nil))⟩ dtX7_takeNumber (by decide +kernel)
abbrev cc_X7_failed_0 : scC := (qX7_failed, 0, [(1, 3)], [.inr (.inr (.inl [1]))], [((1, 4), (some 0, 0))], [(1, (1, 1), [], [], [((1, 4), (1, 3))])], [])
set_option maxRecDepth 20000 in
abbrev xx_X7_failed_0 : scX := (Tx, invX, lnX7, [], cc_X7_failed_0)
set_option maxRecDepth 20000 in
theorem hh_X7_failed_0 : scH Tx invX cc_X7_failed_0 := scCheck_ok (X := xx_X7_failed_0) (nodes := []) (fuel := 4000) ⟨lqX7, fa_nil⟩ dtX7_failed (by decide +kernel)
abbrev cc_X7_takeNumber_4 : scC := (qX7_takeNumber, 2, [(0, 0), (64, 64), (0, 3)], [.inr (.inr (.inl [1])), .inl (some 0, 0), .inl (some 1, 0)], [((1, 4), (some 2, 0))], [(1, (0, 64), [], [], [((1, 4), (0, 3))]), (1, ((-1), (-1)), [], [], [((1, 4), (1, 3))])], [(1, 3, 3)])
set_option maxRecDepth 20000 in
abbrev xx_X7_takeNumber_4 : scX := (Tx, invX, lnX7, [(35, 0, 7, cc_X7_fail_1), (35, 0, 7, cc_X7_fail_0), (35, 0, 7, cc_X7_fail_2), (39, 0, 7, cc_X7_nextPlace_0)], cc_X7_takeNumber_4)
set_option maxRecDepth 20000 in
theorem hh_X7_takeNumber_4 : scH Tx invX cc_X7_takeNumber_4 := scCheck_ok (X := xx_X7_takeNumber_4) (nodes := [(8, ([(0, 0), (64, 64), (0, 600), ((-2147483648), 1000000), (0, 3), (0, 600), (0, 600)], [some (.inr (.inr (.inl [1]))), some (.inl (some 0, 0)), some (.inl (some 1, 0)), some (.inl (some 2, 0)), some (.inl (some 3, 0))], [], [((1, 4), (some 4, 0)), ((1, 3), (some 5, 0)), ((1, 2), (some 6, 0))]), ([0, 0, 0, 0, 0, (-2)], 1200))]) (fuel := 4000) ⟨lqX7, fa_cons (⟨⟨2, _, pcv_X7_35, rfl⟩, hh_X7_fail_1⟩) (fa_cons (⟨⟨2, _, pcv_X7_35, rfl⟩, hh_X7_fail_0⟩) (fa_cons (⟨⟨2, _, pcv_X7_35, rfl⟩, hh_X7_fail_2⟩) (fa_cons (⟨⟨0, _, pcv_X7_39, rfl⟩, hh_X7_nextPlace_0⟩) (fa_nil))))⟩ dtX7_takeNumber (by decide +kernel)
abbrev cc_X7_takeNumber_5 : scC := (qX7_takeNumber, 2, [(1, 1), (99, 99), (0, 3)], [.inr (.inr (.inl [1])), .inl (some 0, 0), .inl (some 1, 0)], [((1, 4), (some 2, 0))], [(1, (1, 99), [], [], [((1, 4), (0, 3))]), (1, ((-1), (-1)), [], [], [((1, 4), (1, 3))])], [(1, 3, 3)])
set_option maxRecDepth 20000 in
abbrev xx_X7_takeNumber_5 : scX := (Tx, invX, lnX7, [(35, 0, 7, cc_X7_fail_1), (35, 0, 7, cc_X7_fail_0), (35, 0, 7, cc_X7_fail_2), (39, 0, 7, cc_X7_nextPlace_0)], cc_X7_takeNumber_5)
set_option maxRecDepth 20000 in
theorem hh_X7_takeNumber_5 : scH Tx invX cc_X7_takeNumber_5 := scCheck_ok (X := xx_X7_takeNumber_5) (nodes := [(8, ([(1, 1), (99, 99), (0, 600), ((-2147483648), 1000000), (0, 3), (0, 600), (0, 600)], [some (.inr (.inr (.inl [1]))), some (.inl (some 0, 0)), some (.inl (some 1, 0)), some (.inl (some 2, 0)), some (.inl (some 3, 0))], [], [((1, 4), (some 4, 0)), ((1, 3), (some 5, 0)), ((1, 2), (some 6, 0))]), ([0, 0, 0, 0, 0, (-2)], 1200))]) (fuel := 4000) ⟨lqX7, fa_cons (⟨⟨2, _, pcv_X7_35, rfl⟩, hh_X7_fail_1⟩) (fa_cons (⟨⟨2, _, pcv_X7_35, rfl⟩, hh_X7_fail_0⟩) (fa_cons (⟨⟨2, _, pcv_X7_35, rfl⟩, hh_X7_fail_2⟩) (fa_cons (⟨⟨0, _, pcv_X7_39, rfl⟩, hh_X7_nextPlace_0⟩) (fa_nil))))⟩ dtX7_takeNumber (by decide +kernel)
abbrev cc_X7_takeNumber_6 : scC := (qX7_takeNumber, 2, [(1, 1), (9, 9), (0, 3)], [.inr (.inr (.inl [1])), .inl (some 0, 0), .inl (some 1, 0)], [((1, 4), (some 2, 0))], [(1, (1, 9), [], [], [((1, 4), (0, 3))]), (1, ((-1), (-1)), [], [], [((1, 4), (1, 3))])], [(1, 3, 3)])
set_option maxRecDepth 20000 in
abbrev xx_X7_takeNumber_6 : scX := (Tx, invX, lnX7, [(35, 0, 7, cc_X7_fail_1), (35, 0, 7, cc_X7_fail_0), (35, 0, 7, cc_X7_fail_2), (39, 0, 7, cc_X7_nextPlace_0)], cc_X7_takeNumber_6)
set_option maxRecDepth 20000 in
theorem hh_X7_takeNumber_6 : scH Tx invX cc_X7_takeNumber_6 := scCheck_ok (X := xx_X7_takeNumber_6) (nodes := [(8, ([(1, 1), (9, 9), (0, 600), ((-2147483648), 1000000), (0, 3), (0, 600), (0, 600)], [some (.inr (.inr (.inl [1]))), some (.inl (some 0, 0)), some (.inl (some 1, 0)), some (.inl (some 2, 0)), some (.inl (some 3, 0))], [], [((1, 4), (some 4, 0)), ((1, 3), (some 5, 0)), ((1, 2), (some 6, 0))]), ([0, 0, 0, 0, 0, (-2)], 1200))]) (fuel := 4000) ⟨lqX7, fa_cons (⟨⟨2, _, pcv_X7_35, rfl⟩, hh_X7_fail_1⟩) (fa_cons (⟨⟨2, _, pcv_X7_35, rfl⟩, hh_X7_fail_0⟩) (fa_cons (⟨⟨2, _, pcv_X7_35, rfl⟩, hh_X7_fail_2⟩) (fa_cons (⟨⟨0, _, pcv_X7_39, rfl⟩, hh_X7_nextPlace_0⟩) (fa_nil))))⟩ dtX7_takeNumber (by decide +kernel)
abbrev cc_X7_failed_1 : scC := (qX7_failed, 0, [(0, 3)], [.inr (.inr (.inl [1]))], [((1, 4), (some 0, 0))], [(1, (0, 0), [], [], [((1, 4), (0, 0))]), (1, (1, 1), [], [], [((1, 4), (1, 3))])], [])
set_option maxRecDepth 20000 in
abbrev xx_X7_failed_1 : scX := (Tx, invX, lnX7, [], cc_X7_failed_1)
set_option maxRecDepth 20000 in
theorem hh_X7_failed_1 : scH Tx invX cc_X7_failed_1 := scCheck_ok (X := xx_X7_failed_1) (nodes := []) (fuel := 4000) ⟨lqX7, fa_nil⟩ dtX7_failed (by decide +kernel)
abbrev cc_X8_readLife_0 : scC := (qX8_readLife, 3, [], [.inr (.inr (.inl [13])), .inr (.inr (.inl [1]))], [], [(1, (0, 1), [], [], [])], [(1, 3, 3), (13, 9, 1), (14, 0, 8), (15, 0, 8), (16, 0, 8), (17, 0, 8), (18, 0, 8), (19, 0, 8)])
set_option maxRecDepth 20000 in
abbrev xx_X8_readLife_0 : scX := (Tx, invX, lnX8, [(113, 0, 7, cc_X7_takeNumber_1), (113, 0, 7, cc_X7_takeNumber_2), (113, 0, 7, cc_X7_takeNumber_3), (113, 0, 7, cc_X7_takeNumber_0), (113, 0, 7, cc_X7_takeNumber_4), (113, 0, 7, cc_X7_takeNumber_5), (113, 0, 7, cc_X7_takeNumber_6), (117, 0, 7, cc_X7_failed_0), (117, 0, 7, cc_X7_failed_1)], cc_X8_readLife_0)
set_option maxRecDepth 20000 in
theorem hh_X8_readLife_0 : scH Tx invX cc_X8_readLife_0 := scCheck_ok (X := xx_X8_readLife_0) (nodes := []) (fuel := 4000) ⟨lqX8, fa_cons (⟨⟨2, _, pcv_X8_113, rfl⟩, hh_X7_takeNumber_1⟩) (fa_cons (⟨⟨2, _, pcv_X8_113, rfl⟩, hh_X7_takeNumber_2⟩) (fa_cons (⟨⟨2, _, pcv_X8_113, rfl⟩, hh_X7_takeNumber_3⟩) (fa_cons (⟨⟨2, _, pcv_X8_113, rfl⟩, hh_X7_takeNumber_0⟩) (fa_cons (⟨⟨2, _, pcv_X8_113, rfl⟩, hh_X7_takeNumber_4⟩) (fa_cons (⟨⟨2, _, pcv_X8_113, rfl⟩, hh_X7_takeNumber_5⟩) (fa_cons (⟨⟨2, _, pcv_X8_113, rfl⟩, hh_X7_takeNumber_6⟩) (fa_cons (⟨⟨0, _, pcv_X8_117, rfl⟩, hh_X7_failed_0⟩) (fa_cons (⟨⟨0, _, pcv_X8_117, rfl⟩, hh_X7_failed_1⟩) (fa_nil)))))))))⟩ dtX8_readLife (by decide +kernel)
abbrev cc_X7_fail_4 : scC := (qX7_fail, 0, [(3, 3), (0, 600), (0, 3)], [.inr (.inr (.inl [1])), .inl (some 0, 0), .inl (some 1, 0)], [((1, 4), (some 2, 0))], [(1, (0, 0), [], [], [((1, 4), (1, 3))])], [(1, 4, 2)])
set_option maxRecDepth 20000 in
abbrev xx_X7_fail_4 : scX := (Tx, invX, lnX7, [], cc_X7_fail_4)
set_option maxRecDepth 20000 in
theorem hh_X7_fail_4 : scH Tx invX cc_X7_fail_4 := scCheck_ok (X := xx_X7_fail_4) (nodes := []) (fuel := 4000) ⟨lqX7, fa_nil⟩ dtX7_fail (by decide +kernel)
abbrev cc_X7_takeNumber_7 : scC := (qX7_takeNumber, 2, [(0, 0), ((-1), 7), (0, 3)], [.inr (.inr (.inl [1])), .inl (some 0, 0), .inl (some 1, 0)], [((1, 4), (some 2, 0))], [(1, (0, 7), [], [], [((1, 4), (0, 3))]), (1, ((-1), (-1)), [], [], [((1, 4), (1, 3))])], [(1, 3, 3)])
set_option maxRecDepth 20000 in
abbrev xx_X7_takeNumber_7 : scX := (Tx, invX, lnX7, [(35, 0, 7, cc_X7_fail_1), (35, 0, 7, cc_X7_fail_0), (35, 0, 7, cc_X7_fail_2), (39, 0, 7, cc_X7_nextPlace_0)], cc_X7_takeNumber_7)
set_option maxRecDepth 20000 in
theorem hh_X7_takeNumber_7 : scH Tx invX cc_X7_takeNumber_7 := scCheck_ok (X := xx_X7_takeNumber_7) (nodes := [(8, ([(0, 0), ((-1), 7), (0, 600), ((-2147483648), 1000000), (0, 3), (0, 600), (0, 600)], [some (.inr (.inr (.inl [1]))), some (.inl (some 0, 0)), some (.inl (some 1, 0)), some (.inl (some 2, 0)), some (.inl (some 3, 0))], [], [((1, 4), (some 4, 0)), ((1, 3), (some 5, 0)), ((1, 2), (some 6, 0))]), ([0, 0, 0, 0, 0, (-2)], 1200))]) (fuel := 4000) ⟨lqX7, fa_cons (⟨⟨2, _, pcv_X7_35, rfl⟩, hh_X7_fail_1⟩) (fa_cons (⟨⟨2, _, pcv_X7_35, rfl⟩, hh_X7_fail_0⟩) (fa_cons (⟨⟨2, _, pcv_X7_35, rfl⟩, hh_X7_fail_2⟩) (fa_cons (⟨⟨0, _, pcv_X7_39, rfl⟩, hh_X7_nextPlace_0⟩) (fa_nil))))⟩ dtX7_takeNumber (by decide +kernel)
abbrev cc_X7_takeNumber_8 : scC := (qX7_takeNumber, 2, [(0, 0), (5, 5), (1, 3)], [.inr (.inr (.inl [1])), .inl (some 0, 0), .inl (some 1, 0)], [((1, 4), (some 2, 0))], [(1, (0, 5), [], [], [((1, 4), (1, 3))]), (1, ((-1), (-1)), [], [], [((1, 4), (1, 3))])], [(1, 3, 1)])
set_option maxRecDepth 20000 in
abbrev xx_X7_takeNumber_8 : scX := (Tx, invX, lnX7, [(35, 0, 7, cc_X7_fail_3), (39, 0, 7, cc_X7_nextPlace_0)], cc_X7_takeNumber_8)
set_option maxRecDepth 20000 in
theorem hh_X7_takeNumber_8 : scH Tx invX cc_X7_takeNumber_8 := scCheck_ok (X := xx_X7_takeNumber_8) (nodes := [(8, ([(0, 0), (5, 5), (0, 600), ((-2147483648), 1000000), (1, 3), (0, 600), (0, 600)], [some (.inr (.inr (.inl [1]))), some (.inl (some 0, 0)), some (.inl (some 1, 0)), some (.inl (some 2, 0)), some (.inl (some 3, 0))], [], [((1, 4), (some 4, 0)), ((1, 3), (some 5, 0)), ((1, 2), (some 6, 0))]), ([0, 0, 0, 0, 0, (-2)], 1200))]) (fuel := 4000) ⟨lqX7, fa_cons (⟨⟨2, _, pcv_X7_35, rfl⟩, hh_X7_fail_3⟩) (fa_cons (⟨⟨0, _, pcv_X7_39, rfl⟩, hh_X7_nextPlace_0⟩) (fa_nil))⟩ dtX7_takeNumber (by decide +kernel)
abbrev cc_X7_takeNumber_9 : scC := (qX7_takeNumber, 2, [(1, 1), (60, 60), (1, 3)], [.inr (.inr (.inl [1])), .inl (some 0, 0), .inl (some 1, 0)], [((1, 4), (some 2, 0))], [(1, (1, 60), [], [], [((1, 4), (1, 3))]), (1, ((-1), (-1)), [], [], [((1, 4), (1, 3))])], [(1, 3, 1)])
set_option maxRecDepth 20000 in
abbrev xx_X7_takeNumber_9 : scX := (Tx, invX, lnX7, [(35, 0, 7, cc_X7_fail_3), (39, 0, 7, cc_X7_nextPlace_0)], cc_X7_takeNumber_9)
set_option maxRecDepth 20000 in
theorem hh_X7_takeNumber_9 : scH Tx invX cc_X7_takeNumber_9 := scCheck_ok (X := xx_X7_takeNumber_9) (nodes := [(8, ([(1, 1), (60, 60), (0, 600), ((-2147483648), 1000000), (1, 3), (0, 600), (0, 600)], [some (.inr (.inr (.inl [1]))), some (.inl (some 0, 0)), some (.inl (some 1, 0)), some (.inl (some 2, 0)), some (.inl (some 3, 0))], [], [((1, 4), (some 4, 0)), ((1, 3), (some 5, 0)), ((1, 2), (some 6, 0))]), ([0, 0, 0, 0, 0, (-2)], 1200))]) (fuel := 4000) ⟨lqX7, fa_cons (⟨⟨2, _, pcv_X7_35, rfl⟩, hh_X7_fail_3⟩) (fa_cons (⟨⟨0, _, pcv_X7_39, rfl⟩, hh_X7_nextPlace_0⟩) (fa_nil))⟩ dtX7_takeNumber (by decide +kernel)
abbrev cc_X7_takeNumber_10 : scC := (qX7_takeNumber, 2, [(0, 0), (5, 5), (0, 3)], [.inr (.inr (.inl [1])), .inl (some 0, 0), .inl (some 1, 0)], [((1, 4), (some 2, 0))], [(1, (0, 5), [], [], [((1, 4), (0, 3))]), (1, ((-1), (-1)), [], [], [((1, 4), (1, 3))])], [(1, 3, 3)])
set_option maxRecDepth 20000 in
abbrev xx_X7_takeNumber_10 : scX := (Tx, invX, lnX7, [(35, 0, 7, cc_X7_fail_1), (35, 0, 7, cc_X7_fail_0), (35, 0, 7, cc_X7_fail_2), (39, 0, 7, cc_X7_nextPlace_0)], cc_X7_takeNumber_10)
set_option maxRecDepth 20000 in
theorem hh_X7_takeNumber_10 : scH Tx invX cc_X7_takeNumber_10 := scCheck_ok (X := xx_X7_takeNumber_10) (nodes := [(8, ([(0, 0), (5, 5), (0, 600), ((-2147483648), 1000000), (0, 3), (0, 600), (0, 600)], [some (.inr (.inr (.inl [1]))), some (.inl (some 0, 0)), some (.inl (some 1, 0)), some (.inl (some 2, 0)), some (.inl (some 3, 0))], [], [((1, 4), (some 4, 0)), ((1, 3), (some 5, 0)), ((1, 2), (some 6, 0))]), ([0, 0, 0, 0, 0, (-2)], 1200))]) (fuel := 4000) ⟨lqX7, fa_cons (⟨⟨2, _, pcv_X7_35, rfl⟩, hh_X7_fail_1⟩) (fa_cons (⟨⟨2, _, pcv_X7_35, rfl⟩, hh_X7_fail_0⟩) (fa_cons (⟨⟨2, _, pcv_X7_35, rfl⟩, hh_X7_fail_2⟩) (fa_cons (⟨⟨0, _, pcv_X7_39, rfl⟩, hh_X7_nextPlace_0⟩) (fa_nil))))⟩ dtX7_takeNumber (by decide +kernel)
abbrev cc_X7_takeNumber_11 : scC := (qX7_takeNumber, 2, [(1, 1), (60, 60), (0, 3)], [.inr (.inr (.inl [1])), .inl (some 0, 0), .inl (some 1, 0)], [((1, 4), (some 2, 0))], [(1, (1, 60), [], [], [((1, 4), (0, 3))]), (1, ((-1), (-1)), [], [], [((1, 4), (1, 3))])], [(1, 3, 3)])
set_option maxRecDepth 20000 in
abbrev xx_X7_takeNumber_11 : scX := (Tx, invX, lnX7, [(35, 0, 7, cc_X7_fail_1), (35, 0, 7, cc_X7_fail_0), (35, 0, 7, cc_X7_fail_2), (39, 0, 7, cc_X7_nextPlace_0)], cc_X7_takeNumber_11)
set_option maxRecDepth 20000 in
theorem hh_X7_takeNumber_11 : scH Tx invX cc_X7_takeNumber_11 := scCheck_ok (X := xx_X7_takeNumber_11) (nodes := [(8, ([(1, 1), (60, 60), (0, 600), ((-2147483648), 1000000), (0, 3), (0, 600), (0, 600)], [some (.inr (.inr (.inl [1]))), some (.inl (some 0, 0)), some (.inl (some 1, 0)), some (.inl (some 2, 0)), some (.inl (some 3, 0))], [], [((1, 4), (some 4, 0)), ((1, 3), (some 5, 0)), ((1, 2), (some 6, 0))]), ([0, 0, 0, 0, 0, (-2)], 1200))]) (fuel := 4000) ⟨lqX7, fa_cons (⟨⟨2, _, pcv_X7_35, rfl⟩, hh_X7_fail_1⟩) (fa_cons (⟨⟨2, _, pcv_X7_35, rfl⟩, hh_X7_fail_0⟩) (fa_cons (⟨⟨2, _, pcv_X7_35, rfl⟩, hh_X7_fail_2⟩) (fa_cons (⟨⟨0, _, pcv_X7_39, rfl⟩, hh_X7_nextPlace_0⟩) (fa_nil))))⟩ dtX7_takeNumber (by decide +kernel)
abbrev cc_X8_readFact_0 : scC := (qX8_readFact, 3, [], [.inr (.inr (.inl [13])), .inr (.inr (.inl [1]))], [], [(1, (0, 1), [], [], [])], [(1, 3, 3), (13, 10, 1), (20, 0, 24), (21, 0, 24), (22, 0, 24)])
set_option maxRecDepth 20000 in
abbrev xx_X8_readFact_0 : scX := (Tx, invX, lnX8, [(113, 0, 7, cc_X7_takeNumber_8), (113, 0, 7, cc_X7_takeNumber_9), (113, 0, 7, cc_X7_takeNumber_10), (113, 0, 7, cc_X7_takeNumber_11), (113, 0, 7, cc_X7_takeNumber_7), (117, 0, 7, cc_X7_failed_0), (117, 0, 7, cc_X7_failed_1)], cc_X8_readFact_0)
set_option maxRecDepth 20000 in
theorem hh_X8_readFact_0 : scH Tx invX cc_X8_readFact_0 := scCheck_ok (X := xx_X8_readFact_0) (nodes := []) (fuel := 4000) ⟨lqX8, fa_cons (⟨⟨2, _, pcv_X8_113, rfl⟩, hh_X7_takeNumber_8⟩) (fa_cons (⟨⟨2, _, pcv_X8_113, rfl⟩, hh_X7_takeNumber_9⟩) (fa_cons (⟨⟨2, _, pcv_X8_113, rfl⟩, hh_X7_takeNumber_10⟩) (fa_cons (⟨⟨2, _, pcv_X8_113, rfl⟩, hh_X7_takeNumber_11⟩) (fa_cons (⟨⟨2, _, pcv_X8_113, rfl⟩, hh_X7_takeNumber_7⟩) (fa_cons (⟨⟨0, _, pcv_X8_117, rfl⟩, hh_X7_failed_0⟩) (fa_cons (⟨⟨0, _, pcv_X8_117, rfl⟩, hh_X7_failed_1⟩) (fa_nil)))))))⟩ dtX8_readFact (by decide +kernel)
abbrev cc_X7_takeNumber_12 : scC := (qX7_takeNumber, 2, [(0, 0), ((-1), 7), (1, 3)], [.inr (.inr (.inl [1])), .inl (some 0, 0), .inl (some 1, 0)], [((1, 4), (some 2, 0))], [(1, (0, 7), [], [], [((1, 4), (1, 3))]), (1, ((-1), (-1)), [], [], [((1, 4), (1, 3))])], [(1, 3, 1)])
set_option maxRecDepth 20000 in
abbrev xx_X7_takeNumber_12 : scX := (Tx, invX, lnX7, [(35, 0, 7, cc_X7_fail_3), (39, 0, 7, cc_X7_nextPlace_0)], cc_X7_takeNumber_12)
set_option maxRecDepth 20000 in
theorem hh_X7_takeNumber_12 : scH Tx invX cc_X7_takeNumber_12 := scCheck_ok (X := xx_X7_takeNumber_12) (nodes := [(8, ([(0, 0), ((-1), 7), (0, 600), ((-2147483648), 1000000), (1, 3), (0, 600), (0, 600)], [some (.inr (.inr (.inl [1]))), some (.inl (some 0, 0)), some (.inl (some 1, 0)), some (.inl (some 2, 0)), some (.inl (some 3, 0))], [], [((1, 4), (some 4, 0)), ((1, 3), (some 5, 0)), ((1, 2), (some 6, 0))]), ([0, 0, 0, 0, 0, (-2)], 1200))]) (fuel := 4000) ⟨lqX7, fa_cons (⟨⟨2, _, pcv_X7_35, rfl⟩, hh_X7_fail_3⟩) (fa_cons (⟨⟨0, _, pcv_X7_39, rfl⟩, hh_X7_nextPlace_0⟩) (fa_nil))⟩ dtX7_takeNumber (by decide +kernel)
abbrev cc_X8_readBy_0 : scC := (qX8_readBy, 3, [], [.inr (.inr (.inl [13])), .inr (.inr (.inl [1]))], [], [(1, (0, 1), [], [], [])], [(1, 3, 3), (19, 0, 8)])
set_option maxRecDepth 20000 in
abbrev xx_X8_readBy_0 : scX := (Tx, invX, lnX8, [(84, 0, 7, cc_X7_fail_2), (84, 0, 7, cc_X7_fail_3), (88, 0, 7, cc_X7_nextPlace_0), (113, 0, 7, cc_X7_takeNumber_12), (113, 0, 7, cc_X7_takeNumber_7), (117, 0, 7, cc_X7_failed_0), (117, 0, 7, cc_X7_failed_1)], cc_X8_readBy_0)
set_option maxRecDepth 20000 in
theorem hh_X8_readBy_0 : scH Tx invX cc_X8_readBy_0 := scCheck_ok (X := xx_X8_readBy_0) (nodes := []) (fuel := 4000) ⟨lqX8, fa_cons (⟨⟨2, _, pcv_X8_84, rfl⟩, hh_X7_fail_2⟩) (fa_cons (⟨⟨2, _, pcv_X8_84, rfl⟩, hh_X7_fail_3⟩) (fa_cons (⟨⟨0, _, pcv_X8_88, rfl⟩, hh_X7_nextPlace_0⟩) (fa_cons (⟨⟨2, _, pcv_X8_113, rfl⟩, hh_X7_takeNumber_12⟩) (fa_cons (⟨⟨2, _, pcv_X8_113, rfl⟩, hh_X7_takeNumber_7⟩) (fa_cons (⟨⟨0, _, pcv_X8_117, rfl⟩, hh_X7_failed_0⟩) (fa_cons (⟨⟨0, _, pcv_X8_117, rfl⟩, hh_X7_failed_1⟩) (fa_nil)))))))⟩ dtX8_readBy (by decide +kernel)
abbrev cc_X7_takeNumber_13 : scC := (qX7_takeNumber, 2, [(0, 0), (40, 40), (1, 3)], [.inr (.inr (.inl [1])), .inl (some 0, 0), .inl (some 1, 0)], [((1, 4), (some 2, 0))], [(1, (0, 40), [], [], [((1, 4), (1, 3))]), (1, ((-1), (-1)), [], [], [((1, 4), (1, 3))])], [(1, 3, 1)])
set_option maxRecDepth 20000 in
abbrev xx_X7_takeNumber_13 : scX := (Tx, invX, lnX7, [(35, 0, 7, cc_X7_fail_3), (39, 0, 7, cc_X7_nextPlace_0)], cc_X7_takeNumber_13)
set_option maxRecDepth 20000 in
theorem hh_X7_takeNumber_13 : scH Tx invX cc_X7_takeNumber_13 := scCheck_ok (X := xx_X7_takeNumber_13) (nodes := [(8, ([(0, 0), (40, 40), (0, 600), ((-2147483648), 1000000), (1, 3), (0, 600), (0, 600)], [some (.inr (.inr (.inl [1]))), some (.inl (some 0, 0)), some (.inl (some 1, 0)), some (.inl (some 2, 0)), some (.inl (some 3, 0))], [], [((1, 4), (some 4, 0)), ((1, 3), (some 5, 0)), ((1, 2), (some 6, 0))]), ([0, 0, 0, 0, 0, (-2)], 1200))]) (fuel := 4000) ⟨lqX7, fa_cons (⟨⟨2, _, pcv_X7_35, rfl⟩, hh_X7_fail_3⟩) (fa_cons (⟨⟨0, _, pcv_X7_39, rfl⟩, hh_X7_nextPlace_0⟩) (fa_nil))⟩ dtX7_takeNumber (by decide +kernel)
abbrev cc_X7_takeNumber_14 : scC := (qX7_takeNumber, 2, [(0, 0), (40, 40), (0, 3)], [.inr (.inr (.inl [1])), .inl (some 0, 0), .inl (some 1, 0)], [((1, 4), (some 2, 0))], [(1, (0, 40), [], [], [((1, 4), (0, 3))]), (1, ((-1), (-1)), [], [], [((1, 4), (1, 3))])], [(1, 3, 3)])
set_option maxRecDepth 20000 in
abbrev xx_X7_takeNumber_14 : scX := (Tx, invX, lnX7, [(35, 0, 7, cc_X7_fail_1), (35, 0, 7, cc_X7_fail_0), (35, 0, 7, cc_X7_fail_2), (39, 0, 7, cc_X7_nextPlace_0)], cc_X7_takeNumber_14)
set_option maxRecDepth 20000 in
theorem hh_X7_takeNumber_14 : scH Tx invX cc_X7_takeNumber_14 := scCheck_ok (X := xx_X7_takeNumber_14) (nodes := [(8, ([(0, 0), (40, 40), (0, 600), ((-2147483648), 1000000), (0, 3), (0, 600), (0, 600)], [some (.inr (.inr (.inl [1]))), some (.inl (some 0, 0)), some (.inl (some 1, 0)), some (.inl (some 2, 0)), some (.inl (some 3, 0))], [], [((1, 4), (some 4, 0)), ((1, 3), (some 5, 0)), ((1, 2), (some 6, 0))]), ([0, 0, 0, 0, 0, (-2)], 1200))]) (fuel := 4000) ⟨lqX7, fa_cons (⟨⟨2, _, pcv_X7_35, rfl⟩, hh_X7_fail_1⟩) (fa_cons (⟨⟨2, _, pcv_X7_35, rfl⟩, hh_X7_fail_0⟩) (fa_cons (⟨⟨2, _, pcv_X7_35, rfl⟩, hh_X7_fail_2⟩) (fa_cons (⟨⟨0, _, pcv_X7_39, rfl⟩, hh_X7_nextPlace_0⟩) (fa_nil))))⟩ dtX7_takeNumber (by decide +kernel)
abbrev cc_X8_readHas_0 : scC := (qX8_readHas, 3, [], [.inr (.inr (.inl [13])), .inr (.inr (.inl [1]))], [], [(1, (0, 1), [], [], [])], [(1, 3, 3), (18, 0, 8)])
set_option maxRecDepth 20000 in
abbrev xx_X8_readHas_0 : scX := (Tx, invX, lnX8, [(113, 0, 7, cc_X7_takeNumber_13), (113, 0, 7, cc_X7_takeNumber_14), (113, 0, 7, cc_X7_takeNumber_7), (117, 0, 7, cc_X7_failed_0), (117, 0, 7, cc_X7_failed_1)], cc_X8_readHas_0)
set_option maxRecDepth 20000 in
theorem hh_X8_readHas_0 : scH Tx invX cc_X8_readHas_0 := scCheck_ok (X := xx_X8_readHas_0) (nodes := []) (fuel := 4000) ⟨lqX8, fa_cons (⟨⟨2, _, pcv_X8_113, rfl⟩, hh_X7_takeNumber_13⟩) (fa_cons (⟨⟨2, _, pcv_X8_113, rfl⟩, hh_X7_takeNumber_14⟩) (fa_cons (⟨⟨2, _, pcv_X8_113, rfl⟩, hh_X7_takeNumber_7⟩) (fa_cons (⟨⟨0, _, pcv_X8_117, rfl⟩, hh_X7_failed_0⟩) (fa_cons (⟨⟨0, _, pcv_X8_117, rfl⟩, hh_X7_failed_1⟩) (fa_nil)))))⟩ dtX8_readHas (by decide +kernel)
abbrev cc_X7_takeNumber_15 : scC := (qX7_takeNumber, 2, [(0, 0), (9, 9), (0, 3)], [.inr (.inr (.inl [1])), .inl (some 0, 0), .inl (some 1, 0)], [((1, 4), (some 2, 0))], [(1, (0, 9), [], [], [((1, 4), (0, 3))]), (1, ((-1), (-1)), [], [], [((1, 4), (1, 3))])], [(1, 3, 3)])
set_option maxRecDepth 20000 in
abbrev xx_X7_takeNumber_15 : scX := (Tx, invX, lnX7, [(35, 0, 7, cc_X7_fail_1), (35, 0, 7, cc_X7_fail_0), (35, 0, 7, cc_X7_fail_2), (39, 0, 7, cc_X7_nextPlace_0)], cc_X7_takeNumber_15)
set_option maxRecDepth 20000 in
theorem hh_X7_takeNumber_15 : scH Tx invX cc_X7_takeNumber_15 := scCheck_ok (X := xx_X7_takeNumber_15) (nodes := [(8, ([(0, 0), (9, 9), (0, 600), ((-2147483648), 1000000), (0, 3), (0, 600), (0, 600)], [some (.inr (.inr (.inl [1]))), some (.inl (some 0, 0)), some (.inl (some 1, 0)), some (.inl (some 2, 0)), some (.inl (some 3, 0))], [], [((1, 4), (some 4, 0)), ((1, 3), (some 5, 0)), ((1, 2), (some 6, 0))]), ([0, 0, 0, 0, 0, (-2)], 1200))]) (fuel := 4000) ⟨lqX7, fa_cons (⟨⟨2, _, pcv_X7_35, rfl⟩, hh_X7_fail_1⟩) (fa_cons (⟨⟨2, _, pcv_X7_35, rfl⟩, hh_X7_fail_0⟩) (fa_cons (⟨⟨2, _, pcv_X7_35, rfl⟩, hh_X7_fail_2⟩) (fa_cons (⟨⟨0, _, pcv_X7_39, rfl⟩, hh_X7_nextPlace_0⟩) (fa_nil))))⟩ dtX7_takeNumber (by decide +kernel)
abbrev cc_X7_takeNumber_16 : scC := (qX7_takeNumber, 2, [(1, 1), (12, 12), (0, 3)], [.inr (.inr (.inl [1])), .inl (some 0, 0), .inl (some 1, 0)], [((1, 4), (some 2, 0))], [(1, (1, 12), [], [], [((1, 4), (0, 3))]), (1, ((-1), (-1)), [], [], [((1, 4), (1, 3))])], [(1, 3, 3)])
set_option maxRecDepth 20000 in
abbrev xx_X7_takeNumber_16 : scX := (Tx, invX, lnX7, [(35, 0, 7, cc_X7_fail_1), (35, 0, 7, cc_X7_fail_0), (35, 0, 7, cc_X7_fail_2), (39, 0, 7, cc_X7_nextPlace_0)], cc_X7_takeNumber_16)
set_option maxRecDepth 20000 in
theorem hh_X7_takeNumber_16 : scH Tx invX cc_X7_takeNumber_16 := scCheck_ok (X := xx_X7_takeNumber_16) (nodes := [(8, ([(1, 1), (12, 12), (0, 600), ((-2147483648), 1000000), (0, 3), (0, 600), (0, 600)], [some (.inr (.inr (.inl [1]))), some (.inl (some 0, 0)), some (.inl (some 1, 0)), some (.inl (some 2, 0)), some (.inl (some 3, 0))], [], [((1, 4), (some 4, 0)), ((1, 3), (some 5, 0)), ((1, 2), (some 6, 0))]), ([0, 0, 0, 0, 0, (-2)], 1200))]) (fuel := 4000) ⟨lqX7, fa_cons (⟨⟨2, _, pcv_X7_35, rfl⟩, hh_X7_fail_1⟩) (fa_cons (⟨⟨2, _, pcv_X7_35, rfl⟩, hh_X7_fail_0⟩) (fa_cons (⟨⟨2, _, pcv_X7_35, rfl⟩, hh_X7_fail_2⟩) (fa_cons (⟨⟨0, _, pcv_X7_39, rfl⟩, hh_X7_nextPlace_0⟩) (fa_nil))))⟩ dtX7_takeNumber (by decide +kernel)
abbrev cc_X7_takeNumber_17 : scC := (qX7_takeNumber, 2, [(1, 1), (4, 4), (0, 3)], [.inr (.inr (.inl [1])), .inl (some 0, 0), .inl (some 1, 0)], [((1, 4), (some 2, 0))], [(1, (1, 4), [], [], [((1, 4), (0, 3))]), (1, ((-1), (-1)), [], [], [((1, 4), (1, 3))])], [(1, 3, 3)])
set_option maxRecDepth 20000 in
abbrev xx_X7_takeNumber_17 : scX := (Tx, invX, lnX7, [(35, 0, 7, cc_X7_fail_1), (35, 0, 7, cc_X7_fail_0), (35, 0, 7, cc_X7_fail_2), (39, 0, 7, cc_X7_nextPlace_0)], cc_X7_takeNumber_17)
set_option maxRecDepth 20000 in
theorem hh_X7_takeNumber_17 : scH Tx invX cc_X7_takeNumber_17 := scCheck_ok (X := xx_X7_takeNumber_17) (nodes := [(8, ([(1, 1), (4, 4), (0, 600), ((-2147483648), 1000000), (0, 3), (0, 600), (0, 600)], [some (.inr (.inr (.inl [1]))), some (.inl (some 0, 0)), some (.inl (some 1, 0)), some (.inl (some 2, 0)), some (.inl (some 3, 0))], [], [((1, 4), (some 4, 0)), ((1, 3), (some 5, 0)), ((1, 2), (some 6, 0))]), ([0, 0, 0, 0, 0, (-2)], 1200))]) (fuel := 4000) ⟨lqX7, fa_cons (⟨⟨2, _, pcv_X7_35, rfl⟩, hh_X7_fail_1⟩) (fa_cons (⟨⟨2, _, pcv_X7_35, rfl⟩, hh_X7_fail_0⟩) (fa_cons (⟨⟨2, _, pcv_X7_35, rfl⟩, hh_X7_fail_2⟩) (fa_cons (⟨⟨0, _, pcv_X7_39, rfl⟩, hh_X7_nextPlace_0⟩) (fa_nil))))⟩ dtX7_takeNumber (by decide +kernel)
abbrev cc_X8_readRule_0 : scC := (qX8_readRule, 3, [((-2147483648), 2147483647)], [.inr (.inr (.inl [13])), .inr (.inr (.inl [1])), .inl (some 0, 0)], [], [(1, (0, 1), [], [], [])], [(1, 3, 3), (13, 11, 4)])
set_option maxRecDepth 20000 in
abbrev xx_X8_readRule_0 : scX := (Tx, invX, lnX8, [(113, 0, 7, cc_X7_takeNumber_16), (113, 0, 7, cc_X7_takeNumber_15), (113, 0, 7, cc_X7_takeNumber_17), (117, 0, 7, cc_X7_failed_0), (117, 0, 7, cc_X7_failed_1)], cc_X8_readRule_0)
set_option maxRecDepth 20000 in
theorem hh_X8_readRule_0 : scH Tx invX cc_X8_readRule_0 := scCheck_ok (X := xx_X8_readRule_0) (nodes := []) (fuel := 4000) ⟨lqX8, fa_cons (⟨⟨2, _, pcv_X8_113, rfl⟩, hh_X7_takeNumber_16⟩) (fa_cons (⟨⟨2, _, pcv_X8_113, rfl⟩, hh_X7_takeNumber_15⟩) (fa_cons (⟨⟨2, _, pcv_X8_113, rfl⟩, hh_X7_takeNumber_17⟩) (fa_cons (⟨⟨0, _, pcv_X8_117, rfl⟩, hh_X7_failed_0⟩) (fa_cons (⟨⟨0, _, pcv_X8_117, rfl⟩, hh_X7_failed_1⟩) (fa_nil)))))⟩ dtX8_readRule (by decide +kernel)
abbrev cc_X8_readClause_0 : scC := (qX8_readClause, 6, [((-2147483648), 2147483647)], [.inr (.inr (.inl [13])), .inr (.inr (.inl [1])), .inl (some 0, 0)], [], [(1, (0, 1), [], [], [])], [(1, 3, 3), (13, 9, 6), (14, 0, 8), (15, 0, 8), (16, 0, 8), (17, 0, 8), (18, 0, 8), (19, 0, 8), (20, 0, 24), (21, 0, 24), (22, 0, 24)])
set_option maxRecDepth 20000 in
abbrev xx_X8_readClause_0 : scX := (Tx, invX, lnX8, [(84, 0, 7, cc_X7_fail_4), (88, 0, 7, cc_X7_nextPlace_0), (93, 0, 7, cc_X7_takeWord_0), (97, 0, 8, cc_X8_readLife_0), (101, 0, 8, cc_X8_readHas_0), (104, 0, 8, cc_X8_readBy_0), (107, 0, 8, cc_X8_readFact_0), (110, 0, 8, cc_X8_readRule_0)], cc_X8_readClause_0)
set_option maxRecDepth 20000 in
theorem hh_X8_readClause_0 : scH Tx invX cc_X8_readClause_0 := scCheck_ok (X := xx_X8_readClause_0) (nodes := []) (fuel := 4000) ⟨lqX8, fa_cons (⟨⟨2, _, pcv_X8_84, rfl⟩, hh_X7_fail_4⟩) (fa_cons (⟨⟨0, _, pcv_X8_88, rfl⟩, hh_X7_nextPlace_0⟩) (fa_cons (⟨⟨1, _, pcv_X8_93, rfl⟩, hh_X7_takeWord_0⟩) (fa_cons (⟨⟨1, _, pcv_X8_97, rfl⟩, hh_X8_readLife_0⟩) (fa_cons (⟨⟨1, _, pcv_X8_101, rfl⟩, hh_X8_readHas_0⟩) (fa_cons (⟨⟨1, _, pcv_X8_104, rfl⟩, hh_X8_readBy_0⟩) (fa_cons (⟨⟨1, _, pcv_X8_107, rfl⟩, hh_X8_readFact_0⟩) (fa_cons (⟨⟨2, _, pcv_X8_110, rfl⟩, hh_X8_readRule_0⟩) (fa_nil))))))))⟩ dtX8_readClause (by decide +kernel)
abbrev cc_X7_takeSign_0 : scC := (qX7_takeSign, 1, [(59, 59)], [.inr (.inr (.inl [1])), .inl (some 0, 0)], [], [(1, (0, 1), [], [], [])], [(1, 3, 3)])
set_option maxRecDepth 20000 in
abbrev xx_X7_takeSign_0 : scX := (Tx, invX, lnX7, [(31, 0, 7, cc_X7_peek_0), (35, 0, 7, cc_X7_fail_1), (35, 0, 7, cc_X7_fail_0)], cc_X7_takeSign_0)
set_option maxRecDepth 20000 in
theorem hh_X7_takeSign_0 : scH Tx invX cc_X7_takeSign_0 := scCheck_ok (X := xx_X7_takeSign_0) (nodes := []) (fuel := 4000) ⟨lqX7, fa_cons (⟨⟨0, _, pcv_X7_31, rfl⟩, hh_X7_peek_0⟩) (fa_cons (⟨⟨2, _, pcv_X7_35, rfl⟩, hh_X7_fail_1⟩) (fa_cons (⟨⟨2, _, pcv_X7_35, rfl⟩, hh_X7_fail_0⟩) (fa_nil)))⟩ dtX7_takeSign (by decide +kernel)
abbrev cc_X8_read_0 : scC := (qX8_read, 7, [], [.inr (.inr (.inl [13])), .inr (.inr (.inl [1]))], [], [(1, (0, 1), [], [], [])], [(1, 3, 3), (13, 9, 6), (14, 0, 8), (15, 0, 8), (16, 0, 8), (17, 0, 8), (18, 0, 8), (19, 0, 8), (20, 0, 24), (21, 0, 24), (22, 0, 24)])
set_option maxRecDepth 20000 in
abbrev xx_X8_read_0 : scX := (Tx, invX, lnX8, [(39, 0, 8, cc_X8_clear_0), (67, 0, 7, cc_X7_peek_0), (73, 0, 8, cc_X8_readClause_0), (77, 0, 7, cc_X7_takeSign_0), (84, 0, 7, cc_X7_fail_4)], cc_X8_read_0)
set_option maxRecDepth 20000 in
theorem hh_X8_read_0 : scH Tx invX cc_X8_read_0 := scCheck_ok (X := xx_X8_read_0) (nodes := [(6, ([(0, 61)], [some (.inr (.inr (.inl [13]))), some (.inr (.inr (.inl [1]))), some (.inl (some 0, 0))], [], []), ([(-2)], 122))]) (fuel := 4000) ⟨lqX8, fa_cons (⟨⟨0, _, pcv_X8_39, rfl⟩, hh_X8_clear_0⟩) (fa_cons (⟨⟨0, _, pcv_X8_67, rfl⟩, hh_X7_peek_0⟩) (fa_cons (⟨⟨2, _, pcv_X8_73, rfl⟩, hh_X8_readClause_0⟩) (fa_cons (⟨⟨1, _, pcv_X8_77, rfl⟩, hh_X7_takeSign_0⟩) (fa_cons (⟨⟨2, _, pcv_X8_84, rfl⟩, hh_X7_fail_4⟩) (fa_nil)))))⟩ dtX8_read (by decide +kernel)
abbrev cc_X8_copyFrom_0 : scC := (qX8_copyFrom, 0, [], [.inr (.inr (.inl [3])), .inr (.inr (.inl [13]))], [], [(0, (0, 0), [], [], [])], [(3, 9, 6), (4, 0, 8), (5, 0, 8), (6, 0, 8), (7, 0, 8), (8, 0, 8), (9, 0, 8), (10, 0, 24), (11, 0, 24), (12, 0, 24)])
set_option maxRecDepth 20000 in
abbrev xx_X8_copyFrom_0 : scX := (Tx, invX, lnX8, [], cc_X8_copyFrom_0)
set_option maxRecDepth 20000 in
theorem hh_X8_copyFrom_0 : scH Tx invX cc_X8_copyFrom_0 := scCheck_ok (X := xx_X8_copyFrom_0) (nodes := []) (fuel := 4000) ⟨lqX8, fa_nil⟩ dtX8_copyFrom (by decide +kernel)
abbrev cc_X1_clear_0 : scC := (qX1_clear, 0, [], [.inr (.inr (.inl [23]))], [], [(0, (0, 0), [], [], [])], [(23, 3, 1), (24, 0, 3)])
set_option maxRecDepth 20000 in
abbrev xx_X1_clear_0 : scX := (Tx, invX, lnX1, [], cc_X1_clear_0)
set_option maxRecDepth 20000 in
theorem hh_X1_clear_0 : scH Tx invX cc_X1_clear_0 := scCheck_ok (X := xx_X1_clear_0) (nodes := []) (fuel := 4000) ⟨lqX1, fa_nil⟩ dtX1_clear (by decide +kernel)
abbrev cc_X2_clear_0 : scC := (qX2_clear, 0, [], [.inr (.inr (.inl [27]))], [], [(0, (0, 0), [], [], [])], [(27, 0, 3)])
set_option maxRecDepth 20000 in
abbrev xx_X2_clear_0 : scX := (Tx, invX, lnX2, [], cc_X2_clear_0)
set_option maxRecDepth 20000 in
theorem hh_X2_clear_0 : scH Tx invX cc_X2_clear_0 := scCheck_ok (X := xx_X2_clear_0) (nodes := []) (fuel := 4000) ⟨lqX2, fa_nil⟩ dtX2_clear (by decide +kernel)
abbrev cc_X6_begin_0 : scC := (qX6_begin, 0, [], [.inr (.inr (.inl [47])), .inr (.inr (.inl [3]))], [], [(0, (0, 0), [], [], [])], [(47, 1, 6), (48, 0, 8)])
set_option maxRecDepth 20000 in
abbrev xx_X6_begin_0 : scX := (Tx, invX, lnX6, [], cc_X6_begin_0)
set_option maxRecDepth 20000 in
theorem hh_X6_begin_0 : scH Tx invX cc_X6_begin_0 := scCheck_ok (X := xx_X6_begin_0) (nodes := []) (fuel := 4000) ⟨lqX6, fa_nil⟩ dtX6_begin (by decide +kernel)
abbrev cc_X3_forget_0 : scC := (qX3_forget, 0, [], [.inr (.inr (.inl [34]))], [], [(0, (0, 0), [], [], [])], [(34, 5, 1)])
set_option maxRecDepth 20000 in
abbrev xx_X3_forget_0 : scX := (Tx, invX, lnX3, [], cc_X3_forget_0)
set_option maxRecDepth 20000 in
theorem hh_X3_forget_0 : scH Tx invX cc_X3_forget_0 := scCheck_ok (X := xx_X3_forget_0) (nodes := []) (fuel := 4000) ⟨lqX3, fa_nil⟩ dtX3_forget (by decide +kernel)
abbrev cc_X10_drawer_0 : scC := (qX10_drawer, 8, [((-2147483648), 2147483647)], [.inr (.inr (.inl [0])), .inl (some 0, 0)], [], [(1, ((-10), 8), [], [], []), (4, (0, 0), [], [], [])], [(0, 13, 2), (0, 16, 1), (1, 1, 5), (3, 9, 6), (4, 0, 8), (5, 0, 8), (6, 0, 8), (7, 0, 8), (8, 0, 8), (9, 0, 8), (10, 0, 24), (11, 0, 24), (12, 0, 24), (13, 9, 6), (14, 0, 8), (15, 0, 8), (16, 0, 8), (17, 0, 8), (18, 0, 8), (19, 0, 8), (20, 0, 24), (21, 0, 24), (22, 0, 24), (23, 3, 1), (24, 0, 3), (27, 0, 3), (34, 5, 1), (46, 2, 1), (47, 1, 6), (48, 0, 8)])
set_option maxRecDepth 20000 in
abbrev xx_X10_drawer_0 : scX := (Tx, invX, lnX10, [(94, 0, 6, cc_X6_begin_0), (108, 0, 10, cc_X10_openText_0), (112, 0, 8, cc_X8_read_0), (119, 0, 8, cc_X8_copyFrom_0), (122, 0, 1, cc_X1_clear_0), (125, 0, 2, cc_X2_clear_0), (135, 0, 3, cc_X3_forget_0)], cc_X10_drawer_0)
set_option maxRecDepth 20000 in
theorem hh_X10_drawer_0 : scH Tx invX cc_X10_drawer_0 := scCheck_ok (X := xx_X10_drawer_0) (nodes := []) (fuel := 4000) ⟨lqX10, fa_cons (⟨⟨1, _, pcv_X10_94, rfl⟩, hh_X6_begin_0⟩) (fa_cons (⟨⟨2, _, pcv_X10_108, rfl⟩, hh_X10_openText_0⟩) (fa_cons (⟨⟨1, _, pcv_X10_112, rfl⟩, hh_X8_read_0⟩) (fa_cons (⟨⟨1, _, pcv_X10_119, rfl⟩, hh_X8_copyFrom_0⟩) (fa_cons (⟨⟨0, _, pcv_X10_122, rfl⟩, hh_X1_clear_0⟩) (fa_cons (⟨⟨0, _, pcv_X10_125, rfl⟩, hh_X2_clear_0⟩) (fa_cons (⟨⟨0, _, pcv_X10_135, rfl⟩, hh_X3_forget_0⟩) (fa_nil)))))))⟩ dtX10_drawer (by decide +kernel)
abbrev cc_X7_takeWord_1 : scC := (qX7_takeWord, 5, [], [.inr (.inr (.inl [1])), .inr (.inr (.inr 3))], [], [(1, ((-1), 6), [], [], [])], [(1, 3, 3)])
set_option maxRecDepth 20000 in
abbrev xx_X7_takeWord_1 : scX := (Tx, invX, lnX7, [(35, 0, 7, cc_X7_fail_0), (39, 0, 7, cc_X7_nextPlace_0), (49, 0, 7, cc_X7_find_1)], cc_X7_takeWord_1)
set_option maxRecDepth 20000 in
theorem hh_X7_takeWord_1 : scH Tx invX cc_X7_takeWord_1 := scCheck_ok (X := xx_X7_takeWord_1) (nodes := [(7, ([(0, 600), (0, 600), (0, 600)], [some (.inr (.inr (.inl [1]))), some (.inr (.inr (.inr 3))), some (.inl (some 0, 0)), some (.inl (some 1, 0)), none], [], [((1, 2), (some 2, 0))]), ([0, (-2)], 1200))]) (fuel := 4000) ⟨lqX7, fa_cons (⟨⟨2, _, pcv_X7_35, rfl⟩, hh_X7_fail_0⟩) (fa_cons (⟨⟨0, _, pcv_X7_39, rfl⟩, hh_X7_nextPlace_0⟩) (fa_cons (⟨⟨3, _, pcv_X7_49, rfl⟩, hh_X7_find_1⟩) (fa_nil)))⟩ dtX7_takeWord (by decide +kernel)
abbrev cc_X7_takeSign_1 : scC := (qX7_takeSign, 1, [(80, 99)], [.inr (.inr (.inl [1])), .inl (some 0, 0)], [], [(1, (0, 1), [], [], [])], [(1, 3, 3)])
set_option maxRecDepth 20000 in
abbrev xx_X7_takeSign_1 : scX := (Tx, invX, lnX7, [(31, 0, 7, cc_X7_peek_0), (35, 0, 7, cc_X7_fail_1), (35, 0, 7, cc_X7_fail_0)], cc_X7_takeSign_1)
set_option maxRecDepth 20000 in
theorem hh_X7_takeSign_1 : scH Tx invX cc_X7_takeSign_1 := scCheck_ok (X := xx_X7_takeSign_1) (nodes := []) (fuel := 4000) ⟨lqX7, fa_cons (⟨⟨0, _, pcv_X7_31, rfl⟩, hh_X7_peek_0⟩) (fa_cons (⟨⟨2, _, pcv_X7_35, rfl⟩, hh_X7_fail_1⟩) (fa_cons (⟨⟨2, _, pcv_X7_35, rfl⟩, hh_X7_fail_0⟩) (fa_nil)))⟩ dtX7_takeSign (by decide +kernel)
abbrev cc_X1_emit_0 : scC := (qX1_emit, 0, [((-2147483648), 2147483647)], [.inr (.inr (.inl [23])), .inl (some 0, 0)], [], [(0, (0, 0), [], [], [])], [(23, 4, 1), (25, 0, 150)])
set_option maxRecDepth 20000 in
abbrev xx_X1_emit_0 : scX := (Tx, invX, lnX1, [], cc_X1_emit_0)
set_option maxRecDepth 20000 in
theorem hh_X1_emit_0 : scH Tx invX cc_X1_emit_0 := scCheck_ok (X := xx_X1_emit_0) (nodes := []) (fuel := 4000) ⟨lqX1, fa_nil⟩ dtX1_emit (by decide +kernel)
abbrev cc_X7_fail_5 : scC := (qX7_fail, 0, [(3, 3), (0, 599), (0, 3)], [.inr (.inr (.inl [1])), .inl (some 0, 0), .inl (some 1, 0)], [((1, 4), (some 2, 0))], [(1, (0, 0), [], [], [((1, 4), (1, 3))])], [(1, 4, 2)])
set_option maxRecDepth 20000 in
abbrev xx_X7_fail_5 : scX := (Tx, invX, lnX7, [], cc_X7_fail_5)
set_option maxRecDepth 20000 in
theorem hh_X7_fail_5 : scH Tx invX cc_X7_fail_5 := scCheck_ok (X := xx_X7_fail_5) (nodes := []) (fuel := 4000) ⟨lqX7, fa_nil⟩ dtX7_fail (by decide +kernel)
abbrev cc_X7_takeNumber_18 : scC := (qX7_takeNumber, 2, [(0, 0), (999, 999), (0, 3)], [.inr (.inr (.inl [1])), .inl (some 0, 0), .inl (some 1, 0)], [((1, 4), (some 2, 0))], [(1, (0, 999), [], [], [((1, 4), (0, 3))]), (1, ((-1), (-1)), [], [], [((1, 4), (1, 3))])], [(1, 3, 3)])
set_option maxRecDepth 20000 in
abbrev xx_X7_takeNumber_18 : scX := (Tx, invX, lnX7, [(35, 0, 7, cc_X7_fail_1), (35, 0, 7, cc_X7_fail_0), (35, 0, 7, cc_X7_fail_2), (39, 0, 7, cc_X7_nextPlace_0)], cc_X7_takeNumber_18)
set_option maxRecDepth 20000 in
theorem hh_X7_takeNumber_18 : scH Tx invX cc_X7_takeNumber_18 := scCheck_ok (X := xx_X7_takeNumber_18) (nodes := [(8, ([(0, 0), (999, 999), (0, 600), ((-2147483648), 1000000), (0, 3), (0, 600), (0, 600)], [some (.inr (.inr (.inl [1]))), some (.inl (some 0, 0)), some (.inl (some 1, 0)), some (.inl (some 2, 0)), some (.inl (some 3, 0))], [], [((1, 4), (some 4, 0)), ((1, 3), (some 5, 0)), ((1, 2), (some 6, 0))]), ([0, 0, 0, 0, 0, (-2)], 1200))]) (fuel := 4000) ⟨lqX7, fa_cons (⟨⟨2, _, pcv_X7_35, rfl⟩, hh_X7_fail_1⟩) (fa_cons (⟨⟨2, _, pcv_X7_35, rfl⟩, hh_X7_fail_0⟩) (fa_cons (⟨⟨2, _, pcv_X7_35, rfl⟩, hh_X7_fail_2⟩) (fa_cons (⟨⟨0, _, pcv_X7_39, rfl⟩, hh_X7_nextPlace_0⟩) (fa_nil))))⟩ dtX7_takeNumber (by decide +kernel)
abbrev cc_X1_readUnit_0 : scC := (qX1_readUnit, 6, [], [.inr (.inr (.inl [23])), .inr (.inr (.inl [1])), .inl (none, 6)], [], [(1, (0, 1), [], [], [])], [(1, 3, 3), (23, 4, 1), (25, 0, 150)])
set_option maxRecDepth 20000 in
abbrev xx_X1_readUnit_0 : scX := (Tx, invX, lnX1, [(35, 0, 7, cc_X7_peek_0), (44, 0, 7, cc_X7_fail_5), (44, 0, 7, cc_X7_fail_4), (57, 0, 1, cc_X1_emit_0), (68, 0, 7, cc_X7_takeNumber_18), (72, 0, 7, cc_X7_failed_0), (72, 0, 7, cc_X7_failed_1), (78, 0, 7, cc_X7_takeWord_1)], cc_X1_readUnit_0)
set_option maxRecDepth 20000 in
theorem hh_X1_readUnit_0 : scH Tx invX cc_X1_readUnit_0 := scCheck_ok (X := xx_X1_readUnit_0) (nodes := []) (fuel := 4000) ⟨lqX1, fa_cons (⟨⟨0, _, pcv_X1_35, rfl⟩, hh_X7_peek_0⟩) (fa_cons (⟨⟨2, _, pcv_X1_44, rfl⟩, hh_X7_fail_5⟩) (fa_cons (⟨⟨2, _, pcv_X1_44, rfl⟩, hh_X7_fail_4⟩) (fa_cons (⟨⟨1, _, pcv_X1_57, rfl⟩, hh_X1_emit_0⟩) (fa_cons (⟨⟨2, _, pcv_X1_68, rfl⟩, hh_X7_takeNumber_18⟩) (fa_cons (⟨⟨0, _, pcv_X1_72, rfl⟩, hh_X7_failed_0⟩) (fa_cons (⟨⟨0, _, pcv_X1_72, rfl⟩, hh_X7_failed_1⟩) (fa_cons (⟨⟨1, _, pcv_X1_78, rfl⟩, hh_X7_takeWord_1⟩) (fa_nil))))))))⟩ dtX1_readUnit (by decide +kernel)
abbrev cc_X1_readProduct_0 : scC := (qX1_readProduct, 7, [], [.inr (.inr (.inl [23])), .inr (.inr (.inl [1])), .inl (none, 6)], [], [(1, (0, 1), [], [], [])], [(1, 3, 3), (23, 4, 1), (25, 0, 150)])
set_option maxRecDepth 20000 in
abbrev xx_X1_readProduct_0 : scX := (Tx, invX, lnX1, [(35, 0, 7, cc_X7_peek_0), (57, 0, 1, cc_X1_emit_0), (61, 0, 1, cc_X1_readUnit_0)], cc_X1_readProduct_0)
set_option maxRecDepth 20000 in
theorem hh_X1_readProduct_0 : scH Tx invX cc_X1_readProduct_0 := scCheck_ok (X := xx_X1_readProduct_0) (nodes := [(10, ([(6, 6), (0, 1), (0, 150)], [some (.inr (.inr (.inl [23]))), some (.inr (.inr (.inl [1]))), some (.inl (some 0, 0)), some (.inl (some 1, 0)), some (.inl (some 2, 0)), none], [], []), ([0, 0, (-2)], 300))]) (fuel := 4000) ⟨lqX1, fa_cons (⟨⟨0, _, pcv_X1_35, rfl⟩, hh_X7_peek_0⟩) (fa_cons (⟨⟨1, _, pcv_X1_57, rfl⟩, hh_X1_emit_0⟩) (fa_cons (⟨⟨2, _, pcv_X1_61, rfl⟩, hh_X1_readUnit_0⟩) (fa_nil)))⟩ dtX1_readProduct (by decide +kernel)
abbrev cc_X1_readSum_0 : scC := (qX1_readSum, 8, [], [.inr (.inr (.inl [23])), .inr (.inr (.inl [1])), .inl (none, 6)], [], [(1, (0, 1), [], [], [])], [(1, 3, 3), (23, 4, 1), (25, 0, 150)])
set_option maxRecDepth 20000 in
abbrev xx_X1_readSum_0 : scX := (Tx, invX, lnX1, [(35, 0, 7, cc_X7_peek_0), (54, 0, 1, cc_X1_readProduct_0), (57, 0, 1, cc_X1_emit_0)], cc_X1_readSum_0)
set_option maxRecDepth 20000 in
theorem hh_X1_readSum_0 : scH Tx invX cc_X1_readSum_0 := scCheck_ok (X := xx_X1_readSum_0) (nodes := [(10, ([(6, 6), (0, 1), (0, 150)], [some (.inr (.inr (.inl [23]))), some (.inr (.inr (.inl [1]))), some (.inl (some 0, 0)), some (.inl (some 1, 0)), some (.inl (some 2, 0)), none], [], []), ([0, 0, (-2)], 300))]) (fuel := 4000) ⟨lqX1, fa_cons (⟨⟨0, _, pcv_X1_35, rfl⟩, hh_X7_peek_0⟩) (fa_cons (⟨⟨2, _, pcv_X1_54, rfl⟩, hh_X1_readProduct_0⟩) (fa_cons (⟨⟨1, _, pcv_X1_57, rfl⟩, hh_X1_emit_0⟩) (fa_nil)))⟩ dtX1_readSum (by decide +kernel)
abbrev cc_X7_takeSign_2 : scC := (qX7_takeSign, 1, [(40, 59)], [.inr (.inr (.inl [1])), .inl (some 0, 0)], [], [(1, (0, 1), [], [], [])], [(1, 3, 3)])
set_option maxRecDepth 20000 in
abbrev xx_X7_takeSign_2 : scX := (Tx, invX, lnX7, [(31, 0, 7, cc_X7_peek_0), (35, 0, 7, cc_X7_fail_1), (35, 0, 7, cc_X7_fail_0)], cc_X7_takeSign_2)
set_option maxRecDepth 20000 in
theorem hh_X7_takeSign_2 : scH Tx invX cc_X7_takeSign_2 := scCheck_ok (X := xx_X7_takeSign_2) (nodes := []) (fuel := 4000) ⟨lqX7, fa_cons (⟨⟨0, _, pcv_X7_31, rfl⟩, hh_X7_peek_0⟩) (fa_cons (⟨⟨2, _, pcv_X7_35, rfl⟩, hh_X7_fail_1⟩) (fa_cons (⟨⟨2, _, pcv_X7_35, rfl⟩, hh_X7_fail_0⟩) (fa_nil)))⟩ dtX7_takeSign (by decide +kernel)
end
-- P 10kb
section
abbrev cc_X1_readTwo_0 : scC := (qX1_readTwo, 9, [], [.inr (.inr (.inl [23])), .inr (.inr (.inl [1])), .inl (none, 6)], [], [(1, (0, 1), [], [], [])], [(1, 3, 3), (23, 4, 1), (25, 0, 150)])
set_option maxRecDepth 20000 in
abbrev xx_X1_readTwo_0 : scX := (Tx, invX, lnX1, [(31, 0, 1, cc_X1_readSum_0), (64, 0, 7, cc_X7_takeSign_1), (64, 0, 7, cc_X7_takeSign_2)], cc_X1_readTwo_0)
set_option maxRecDepth 20000 in
theorem hh_X1_readTwo_0 : scH Tx invX cc_X1_readTwo_0 := scCheck_ok (X := xx_X1_readTwo_0) (nodes := []) (fuel := 4000) ⟨lqX1, fa_cons (⟨⟨2, _, pcv_X1_31, rfl⟩, hh_X1_readSum_0⟩) (fa_cons (⟨⟨1, _, pcv_X1_64, rfl⟩, hh_X7_takeSign_1⟩) (fa_cons (⟨⟨1, _, pcv_X1_64, rfl⟩, hh_X7_takeSign_2⟩) (fa_nil)))⟩ dtX1_readTwo (by decide +kernel)
abbrev cc_X1_readUnit_1 : scC := (qX1_readUnit, 10, [], [.inr (.inr (.inl [23])), .inr (.inr (.inl [1])), .inl (none, 5)], [], [(1, (0, 1), [], [], [])], [(1, 3, 3), (23, 4, 1), (25, 0, 150)])
set_option maxRecDepth 20000 in
abbrev xx_X1_readUnit_1 : scX := (Tx, invX, lnX1, [(31, 0, 1, cc_X1_readSum_0), (35, 0, 7, cc_X7_peek_0), (57, 0, 1, cc_X1_emit_0), (64, 0, 7, cc_X7_takeSign_2), (68, 0, 7, cc_X7_takeNumber_18), (72, 0, 7, cc_X7_failed_0), (72, 0, 7, cc_X7_failed_1), (78, 0, 7, cc_X7_takeWord_1), (82, 0, 1, cc_X1_readTwo_0)], cc_X1_readUnit_1)
set_option maxRecDepth 20000 in
theorem hh_X1_readUnit_1 : scH Tx invX cc_X1_readUnit_1 := scCheck_ok (X := xx_X1_readUnit_1) (nodes := []) (fuel := 4000) ⟨lqX1, fa_cons (⟨⟨2, _, pcv_X1_31, rfl⟩, hh_X1_readSum_0⟩) (fa_cons (⟨⟨0, _, pcv_X1_35, rfl⟩, hh_X7_peek_0⟩) (fa_cons (⟨⟨1, _, pcv_X1_57, rfl⟩, hh_X1_emit_0⟩) (fa_cons (⟨⟨1, _, pcv_X1_64, rfl⟩, hh_X7_takeSign_2⟩) (fa_cons (⟨⟨2, _, pcv_X1_68, rfl⟩, hh_X7_takeNumber_18⟩) (fa_cons (⟨⟨0, _, pcv_X1_72, rfl⟩, hh_X7_failed_0⟩) (fa_cons (⟨⟨0, _, pcv_X1_72, rfl⟩, hh_X7_failed_1⟩) (fa_cons (⟨⟨1, _, pcv_X1_78, rfl⟩, hh_X7_takeWord_1⟩) (fa_cons (⟨⟨2, _, pcv_X1_82, rfl⟩, hh_X1_readTwo_0⟩) (fa_nil)))))))))⟩ dtX1_readUnit (by decide +kernel)
abbrev cc_X1_readProduct_1 : scC := (qX1_readProduct, 11, [], [.inr (.inr (.inl [23])), .inr (.inr (.inl [1])), .inl (none, 5)], [], [(1, (0, 1), [], [], [])], [(1, 3, 3), (23, 4, 1), (25, 0, 150)])
set_option maxRecDepth 20000 in
abbrev xx_X1_readProduct_1 : scX := (Tx, invX, lnX1, [(35, 0, 7, cc_X7_peek_0), (57, 0, 1, cc_X1_emit_0), (61, 0, 1, cc_X1_readUnit_1)], cc_X1_readProduct_1)
set_option maxRecDepth 20000 in
theorem hh_X1_readProduct_1 : scH Tx invX cc_X1_readProduct_1 := scCheck_ok (X := xx_X1_readProduct_1) (nodes := [(10, ([(5, 5), (0, 1), (0, 150)], [some (.inr (.inr (.inl [23]))), some (.inr (.inr (.inl [1]))), some (.inl (some 0, 0)), some (.inl (some 1, 0)), some (.inl (some 2, 0)), none], [], []), ([0, 0, (-2)], 300))]) (fuel := 4000) ⟨lqX1, fa_cons (⟨⟨0, _, pcv_X1_35, rfl⟩, hh_X7_peek_0⟩) (fa_cons (⟨⟨1, _, pcv_X1_57, rfl⟩, hh_X1_emit_0⟩) (fa_cons (⟨⟨2, _, pcv_X1_61, rfl⟩, hh_X1_readUnit_1⟩) (fa_nil)))⟩ dtX1_readProduct (by decide +kernel)
abbrev cc_X1_readSum_1 : scC := (qX1_readSum, 12, [], [.inr (.inr (.inl [23])), .inr (.inr (.inl [1])), .inl (none, 5)], [], [(1, (0, 1), [], [], [])], [(1, 3, 3), (23, 4, 1), (25, 0, 150)])
set_option maxRecDepth 20000 in
abbrev xx_X1_readSum_1 : scX := (Tx, invX, lnX1, [(35, 0, 7, cc_X7_peek_0), (54, 0, 1, cc_X1_readProduct_1), (57, 0, 1, cc_X1_emit_0)], cc_X1_readSum_1)
set_option maxRecDepth 20000 in
theorem hh_X1_readSum_1 : scH Tx invX cc_X1_readSum_1 := scCheck_ok (X := xx_X1_readSum_1) (nodes := [(10, ([(5, 5), (0, 1), (0, 150)], [some (.inr (.inr (.inl [23]))), some (.inr (.inr (.inl [1]))), some (.inl (some 0, 0)), some (.inl (some 1, 0)), some (.inl (some 2, 0)), none], [], []), ([0, 0, (-2)], 300))]) (fuel := 4000) ⟨lqX1, fa_cons (⟨⟨0, _, pcv_X1_35, rfl⟩, hh_X7_peek_0⟩) (fa_cons (⟨⟨2, _, pcv_X1_54, rfl⟩, hh_X1_readProduct_1⟩) (fa_cons (⟨⟨1, _, pcv_X1_57, rfl⟩, hh_X1_emit_0⟩) (fa_nil)))⟩ dtX1_readSum (by decide +kernel)
abbrev cc_X1_readTwo_1 : scC := (qX1_readTwo, 13, [], [.inr (.inr (.inl [23])), .inr (.inr (.inl [1])), .inl (none, 5)], [], [(1, (0, 1), [], [], [])], [(1, 3, 3), (23, 4, 1), (25, 0, 150)])
set_option maxRecDepth 20000 in
abbrev xx_X1_readTwo_1 : scX := (Tx, invX, lnX1, [(31, 0, 1, cc_X1_readSum_1), (64, 0, 7, cc_X7_takeSign_1), (64, 0, 7, cc_X7_takeSign_2)], cc_X1_readTwo_1)
set_option maxRecDepth 20000 in
theorem hh_X1_readTwo_1 : scH Tx invX cc_X1_readTwo_1 := scCheck_ok (X := xx_X1_readTwo_1) (nodes := []) (fuel := 4000) ⟨lqX1, fa_cons (⟨⟨2, _, pcv_X1_31, rfl⟩, hh_X1_readSum_1⟩) (fa_cons (⟨⟨1, _, pcv_X1_64, rfl⟩, hh_X7_takeSign_1⟩) (fa_cons (⟨⟨1, _, pcv_X1_64, rfl⟩, hh_X7_takeSign_2⟩) (fa_nil)))⟩ dtX1_readTwo (by decide +kernel)
abbrev cc_X1_readUnit_2 : scC := (qX1_readUnit, 14, [], [.inr (.inr (.inl [23])), .inr (.inr (.inl [1])), .inl (none, 4)], [], [(1, (0, 1), [], [], [])], [(1, 3, 3), (23, 4, 1), (25, 0, 150)])
set_option maxRecDepth 20000 in
abbrev xx_X1_readUnit_2 : scX := (Tx, invX, lnX1, [(31, 0, 1, cc_X1_readSum_1), (35, 0, 7, cc_X7_peek_0), (57, 0, 1, cc_X1_emit_0), (64, 0, 7, cc_X7_takeSign_2), (68, 0, 7, cc_X7_takeNumber_18), (72, 0, 7, cc_X7_failed_0), (72, 0, 7, cc_X7_failed_1), (78, 0, 7, cc_X7_takeWord_1), (82, 0, 1, cc_X1_readTwo_1)], cc_X1_readUnit_2)
set_option maxRecDepth 20000 in
theorem hh_X1_readUnit_2 : scH Tx invX cc_X1_readUnit_2 := scCheck_ok (X := xx_X1_readUnit_2) (nodes := []) (fuel := 4000) ⟨lqX1, fa_cons (⟨⟨2, _, pcv_X1_31, rfl⟩, hh_X1_readSum_1⟩) (fa_cons (⟨⟨0, _, pcv_X1_35, rfl⟩, hh_X7_peek_0⟩) (fa_cons (⟨⟨1, _, pcv_X1_57, rfl⟩, hh_X1_emit_0⟩) (fa_cons (⟨⟨1, _, pcv_X1_64, rfl⟩, hh_X7_takeSign_2⟩) (fa_cons (⟨⟨2, _, pcv_X1_68, rfl⟩, hh_X7_takeNumber_18⟩) (fa_cons (⟨⟨0, _, pcv_X1_72, rfl⟩, hh_X7_failed_0⟩) (fa_cons (⟨⟨0, _, pcv_X1_72, rfl⟩, hh_X7_failed_1⟩) (fa_cons (⟨⟨1, _, pcv_X1_78, rfl⟩, hh_X7_takeWord_1⟩) (fa_cons (⟨⟨2, _, pcv_X1_82, rfl⟩, hh_X1_readTwo_1⟩) (fa_nil)))))))))⟩ dtX1_readUnit (by decide +kernel)
abbrev cc_X1_readProduct_2 : scC := (qX1_readProduct, 15, [], [.inr (.inr (.inl [23])), .inr (.inr (.inl [1])), .inl (none, 4)], [], [(1, (0, 1), [], [], [])], [(1, 3, 3), (23, 4, 1), (25, 0, 150)])
set_option maxRecDepth 20000 in
abbrev xx_X1_readProduct_2 : scX := (Tx, invX, lnX1, [(35, 0, 7, cc_X7_peek_0), (57, 0, 1, cc_X1_emit_0), (61, 0, 1, cc_X1_readUnit_2)], cc_X1_readProduct_2)
set_option maxRecDepth 20000 in
theorem hh_X1_readProduct_2 : scH Tx invX cc_X1_readProduct_2 := scCheck_ok (X := xx_X1_readProduct_2) (nodes := [(10, ([(4, 4), (0, 1), (0, 150)], [some (.inr (.inr (.inl [23]))), some (.inr (.inr (.inl [1]))), some (.inl (some 0, 0)), some (.inl (some 1, 0)), some (.inl (some 2, 0)), none], [], []), ([0, 0, (-2)], 300))]) (fuel := 4000) ⟨lqX1, fa_cons (⟨⟨0, _, pcv_X1_35, rfl⟩, hh_X7_peek_0⟩) (fa_cons (⟨⟨1, _, pcv_X1_57, rfl⟩, hh_X1_emit_0⟩) (fa_cons (⟨⟨2, _, pcv_X1_61, rfl⟩, hh_X1_readUnit_2⟩) (fa_nil)))⟩ dtX1_readProduct (by decide +kernel)
abbrev cc_X1_readSum_2 : scC := (qX1_readSum, 16, [], [.inr (.inr (.inl [23])), .inr (.inr (.inl [1])), .inl (none, 4)], [], [(1, (0, 1), [], [], [])], [(1, 3, 3), (23, 4, 1), (25, 0, 150)])
set_option maxRecDepth 20000 in
abbrev xx_X1_readSum_2 : scX := (Tx, invX, lnX1, [(35, 0, 7, cc_X7_peek_0), (54, 0, 1, cc_X1_readProduct_2), (57, 0, 1, cc_X1_emit_0)], cc_X1_readSum_2)
set_option maxRecDepth 20000 in
theorem hh_X1_readSum_2 : scH Tx invX cc_X1_readSum_2 := scCheck_ok (X := xx_X1_readSum_2) (nodes := [(10, ([(4, 4), (0, 1), (0, 150)], [some (.inr (.inr (.inl [23]))), some (.inr (.inr (.inl [1]))), some (.inl (some 0, 0)), some (.inl (some 1, 0)), some (.inl (some 2, 0)), none], [], []), ([0, 0, (-2)], 300))]) (fuel := 4000) ⟨lqX1, fa_cons (⟨⟨0, _, pcv_X1_35, rfl⟩, hh_X7_peek_0⟩) (fa_cons (⟨⟨2, _, pcv_X1_54, rfl⟩, hh_X1_readProduct_2⟩) (fa_cons (⟨⟨1, _, pcv_X1_57, rfl⟩, hh_X1_emit_0⟩) (fa_nil)))⟩ dtX1_readSum (by decide +kernel)
abbrev cc_X1_readTwo_2 : scC := (qX1_readTwo, 17, [], [.inr (.inr (.inl [23])), .inr (.inr (.inl [1])), .inl (none, 4)], [], [(1, (0, 1), [], [], [])], [(1, 3, 3), (23, 4, 1), (25, 0, 150)])
set_option maxRecDepth 20000 in
abbrev xx_X1_readTwo_2 : scX := (Tx, invX, lnX1, [(31, 0, 1, cc_X1_readSum_2), (64, 0, 7, cc_X7_takeSign_1), (64, 0, 7, cc_X7_takeSign_2)], cc_X1_readTwo_2)
set_option maxRecDepth 20000 in
theorem hh_X1_readTwo_2 : scH Tx invX cc_X1_readTwo_2 := scCheck_ok (X := xx_X1_readTwo_2) (nodes := []) (fuel := 4000) ⟨lqX1, fa_cons (⟨⟨2, _, pcv_X1_31, rfl⟩, hh_X1_readSum_2⟩) (fa_cons (⟨⟨1, _, pcv_X1_64, rfl⟩, hh_X7_takeSign_1⟩) (fa_cons (⟨⟨1, _, pcv_X1_64, rfl⟩, hh_X7_takeSign_2⟩) (fa_nil)))⟩ dtX1_readTwo (by decide +kernel)
abbrev cc_X1_readUnit_3 : scC := (qX1_readUnit, 18, [], [.inr (.inr (.inl [23])), .inr (.inr (.inl [1])), .inl (none, 3)], [], [(1, (0, 1), [], [], [])], [(1, 3, 3), (23, 4, 1), (25, 0, 150)])
set_option maxRecDepth 20000 in
abbrev xx_X1_readUnit_3 : scX := (Tx, invX, lnX1, [(31, 0, 1, cc_X1_readSum_2), (35, 0, 7, cc_X7_peek_0), (57, 0, 1, cc_X1_emit_0), (64, 0, 7, cc_X7_takeSign_2), (68, 0, 7, cc_X7_takeNumber_18), (72, 0, 7, cc_X7_failed_0), (72, 0, 7, cc_X7_failed_1), (78, 0, 7, cc_X7_takeWord_1), (82, 0, 1, cc_X1_readTwo_2)], cc_X1_readUnit_3)
set_option maxRecDepth 20000 in
theorem hh_X1_readUnit_3 : scH Tx invX cc_X1_readUnit_3 := scCheck_ok (X := xx_X1_readUnit_3) (nodes := []) (fuel := 4000) ⟨lqX1, fa_cons (⟨⟨2, _, pcv_X1_31, rfl⟩, hh_X1_readSum_2⟩) (fa_cons (⟨⟨0, _, pcv_X1_35, rfl⟩, hh_X7_peek_0⟩) (fa_cons (⟨⟨1, _, pcv_X1_57, rfl⟩, hh_X1_emit_0⟩) (fa_cons (⟨⟨1, _, pcv_X1_64, rfl⟩, hh_X7_takeSign_2⟩) (fa_cons (⟨⟨2, _, pcv_X1_68, rfl⟩, hh_X7_takeNumber_18⟩) (fa_cons (⟨⟨0, _, pcv_X1_72, rfl⟩, hh_X7_failed_0⟩) (fa_cons (⟨⟨0, _, pcv_X1_72, rfl⟩, hh_X7_failed_1⟩) (fa_cons (⟨⟨1, _, pcv_X1_78, rfl⟩, hh_X7_takeWord_1⟩) (fa_cons (⟨⟨2, _, pcv_X1_82, rfl⟩, hh_X1_readTwo_2⟩) (fa_nil)))))))))⟩ dtX1_readUnit (by decide +kernel)
abbrev cc_X1_readProduct_3 : scC := (qX1_readProduct, 19, [], [.inr (.inr (.inl [23])), .inr (.inr (.inl [1])), .inl (none, 3)], [], [(1, (0, 1), [], [], [])], [(1, 3, 3), (23, 4, 1), (25, 0, 150)])
set_option maxRecDepth 20000 in
abbrev xx_X1_readProduct_3 : scX := (Tx, invX, lnX1, [(35, 0, 7, cc_X7_peek_0), (57, 0, 1, cc_X1_emit_0), (61, 0, 1, cc_X1_readUnit_3)], cc_X1_readProduct_3)
set_option maxRecDepth 20000 in
theorem hh_X1_readProduct_3 : scH Tx invX cc_X1_readProduct_3 := scCheck_ok (X := xx_X1_readProduct_3) (nodes := [(10, ([(3, 3), (0, 1), (0, 150)], [some (.inr (.inr (.inl [23]))), some (.inr (.inr (.inl [1]))), some (.inl (some 0, 0)), some (.inl (some 1, 0)), some (.inl (some 2, 0)), none], [], []), ([0, 0, (-2)], 300))]) (fuel := 4000) ⟨lqX1, fa_cons (⟨⟨0, _, pcv_X1_35, rfl⟩, hh_X7_peek_0⟩) (fa_cons (⟨⟨1, _, pcv_X1_57, rfl⟩, hh_X1_emit_0⟩) (fa_cons (⟨⟨2, _, pcv_X1_61, rfl⟩, hh_X1_readUnit_3⟩) (fa_nil)))⟩ dtX1_readProduct (by decide +kernel)
abbrev cc_X1_readSum_3 : scC := (qX1_readSum, 20, [], [.inr (.inr (.inl [23])), .inr (.inr (.inl [1])), .inl (none, 3)], [], [(1, (0, 1), [], [], [])], [(1, 3, 3), (23, 4, 1), (25, 0, 150)])
set_option maxRecDepth 20000 in
abbrev xx_X1_readSum_3 : scX := (Tx, invX, lnX1, [(35, 0, 7, cc_X7_peek_0), (54, 0, 1, cc_X1_readProduct_3), (57, 0, 1, cc_X1_emit_0)], cc_X1_readSum_3)
set_option maxRecDepth 20000 in
theorem hh_X1_readSum_3 : scH Tx invX cc_X1_readSum_3 := scCheck_ok (X := xx_X1_readSum_3) (nodes := [(10, ([(3, 3), (0, 1), (0, 150)], [some (.inr (.inr (.inl [23]))), some (.inr (.inr (.inl [1]))), some (.inl (some 0, 0)), some (.inl (some 1, 0)), some (.inl (some 2, 0)), none], [], []), ([0, 0, (-2)], 300))]) (fuel := 4000) ⟨lqX1, fa_cons (⟨⟨0, _, pcv_X1_35, rfl⟩, hh_X7_peek_0⟩) (fa_cons (⟨⟨2, _, pcv_X1_54, rfl⟩, hh_X1_readProduct_3⟩) (fa_cons (⟨⟨1, _, pcv_X1_57, rfl⟩, hh_X1_emit_0⟩) (fa_nil)))⟩ dtX1_readSum (by decide +kernel)
abbrev cc_X1_readTwo_3 : scC := (qX1_readTwo, 21, [], [.inr (.inr (.inl [23])), .inr (.inr (.inl [1])), .inl (none, 3)], [], [(1, (0, 1), [], [], [])], [(1, 3, 3), (23, 4, 1), (25, 0, 150)])
set_option maxRecDepth 20000 in
abbrev xx_X1_readTwo_3 : scX := (Tx, invX, lnX1, [(31, 0, 1, cc_X1_readSum_3), (64, 0, 7, cc_X7_takeSign_1), (64, 0, 7, cc_X7_takeSign_2)], cc_X1_readTwo_3)
set_option maxRecDepth 20000 in
theorem hh_X1_readTwo_3 : scH Tx invX cc_X1_readTwo_3 := scCheck_ok (X := xx_X1_readTwo_3) (nodes := []) (fuel := 4000) ⟨lqX1, fa_cons (⟨⟨2, _, pcv_X1_31, rfl⟩, hh_X1_readSum_3⟩) (fa_cons (⟨⟨1, _, pcv_X1_64, rfl⟩, hh_X7_takeSign_1⟩) (fa_cons (⟨⟨1, _, pcv_X1_64, rfl⟩, hh_X7_takeSign_2⟩) (fa_nil)))⟩ dtX1_readTwo (by decide +kernel)
abbrev cc_X1_readUnit_4 : scC := (qX1_readUnit, 22, [], [.inr (.inr (.inl [23])), .inr (.inr (.inl [1])), .inl (none, 2)], [], [(1, (0, 1), [], [], [])], [(1, 3, 3), (23, 4, 1), (25, 0, 150)])
set_option maxRecDepth 20000 in
abbrev xx_X1_readUnit_4 : scX := (Tx, invX, lnX1, [(31, 0, 1, cc_X1_readSum_3), (35, 0, 7, cc_X7_peek_0), (57, 0, 1, cc_X1_emit_0), (64, 0, 7, cc_X7_takeSign_2), (68, 0, 7, cc_X7_takeNumber_18), (72, 0, 7, cc_X7_failed_0), (72, 0, 7, cc_X7_failed_1), (78, 0, 7, cc_X7_takeWord_1), (82, 0, 1, cc_X1_readTwo_3)], cc_X1_readUnit_4)
set_option maxRecDepth 20000 in
theorem hh_X1_readUnit_4 : scH Tx invX cc_X1_readUnit_4 := scCheck_ok (X := xx_X1_readUnit_4) (nodes := []) (fuel := 4000) ⟨lqX1, fa_cons (⟨⟨2, _, pcv_X1_31, rfl⟩, hh_X1_readSum_3⟩) (fa_cons (⟨⟨0, _, pcv_X1_35, rfl⟩, hh_X7_peek_0⟩) (fa_cons (⟨⟨1, _, pcv_X1_57, rfl⟩, hh_X1_emit_0⟩) (fa_cons (⟨⟨1, _, pcv_X1_64, rfl⟩, hh_X7_takeSign_2⟩) (fa_cons (⟨⟨2, _, pcv_X1_68, rfl⟩, hh_X7_takeNumber_18⟩) (fa_cons (⟨⟨0, _, pcv_X1_72, rfl⟩, hh_X7_failed_0⟩) (fa_cons (⟨⟨0, _, pcv_X1_72, rfl⟩, hh_X7_failed_1⟩) (fa_cons (⟨⟨1, _, pcv_X1_78, rfl⟩, hh_X7_takeWord_1⟩) (fa_cons (⟨⟨2, _, pcv_X1_82, rfl⟩, hh_X1_readTwo_3⟩) (fa_nil)))))))))⟩ dtX1_readUnit (by decide +kernel)
abbrev cc_X1_readProduct_4 : scC := (qX1_readProduct, 23, [], [.inr (.inr (.inl [23])), .inr (.inr (.inl [1])), .inl (none, 2)], [], [(1, (0, 1), [], [], [])], [(1, 3, 3), (23, 4, 1), (25, 0, 150)])
set_option maxRecDepth 20000 in
abbrev xx_X1_readProduct_4 : scX := (Tx, invX, lnX1, [(35, 0, 7, cc_X7_peek_0), (57, 0, 1, cc_X1_emit_0), (61, 0, 1, cc_X1_readUnit_4)], cc_X1_readProduct_4)
set_option maxRecDepth 20000 in
theorem hh_X1_readProduct_4 : scH Tx invX cc_X1_readProduct_4 := scCheck_ok (X := xx_X1_readProduct_4) (nodes := [(10, ([(2, 2), (0, 1), (0, 150)], [some (.inr (.inr (.inl [23]))), some (.inr (.inr (.inl [1]))), some (.inl (some 0, 0)), some (.inl (some 1, 0)), some (.inl (some 2, 0)), none], [], []), ([0, 0, (-2)], 300))]) (fuel := 4000) ⟨lqX1, fa_cons (⟨⟨0, _, pcv_X1_35, rfl⟩, hh_X7_peek_0⟩) (fa_cons (⟨⟨1, _, pcv_X1_57, rfl⟩, hh_X1_emit_0⟩) (fa_cons (⟨⟨2, _, pcv_X1_61, rfl⟩, hh_X1_readUnit_4⟩) (fa_nil)))⟩ dtX1_readProduct (by decide +kernel)
abbrev cc_X1_readSum_4 : scC := (qX1_readSum, 24, [], [.inr (.inr (.inl [23])), .inr (.inr (.inl [1])), .inl (none, 2)], [], [(1, (0, 1), [], [], [])], [(1, 3, 3), (23, 4, 1), (25, 0, 150)])
set_option maxRecDepth 20000 in
abbrev xx_X1_readSum_4 : scX := (Tx, invX, lnX1, [(35, 0, 7, cc_X7_peek_0), (54, 0, 1, cc_X1_readProduct_4), (57, 0, 1, cc_X1_emit_0)], cc_X1_readSum_4)
set_option maxRecDepth 20000 in
theorem hh_X1_readSum_4 : scH Tx invX cc_X1_readSum_4 := scCheck_ok (X := xx_X1_readSum_4) (nodes := [(10, ([(2, 2), (0, 1), (0, 150)], [some (.inr (.inr (.inl [23]))), some (.inr (.inr (.inl [1]))), some (.inl (some 0, 0)), some (.inl (some 1, 0)), some (.inl (some 2, 0)), none], [], []), ([0, 0, (-2)], 300))]) (fuel := 4000) ⟨lqX1, fa_cons (⟨⟨0, _, pcv_X1_35, rfl⟩, hh_X7_peek_0⟩) (fa_cons (⟨⟨2, _, pcv_X1_54, rfl⟩, hh_X1_readProduct_4⟩) (fa_cons (⟨⟨1, _, pcv_X1_57, rfl⟩, hh_X1_emit_0⟩) (fa_nil)))⟩ dtX1_readSum (by decide +kernel)
abbrev cc_X1_readTwo_4 : scC := (qX1_readTwo, 25, [], [.inr (.inr (.inl [23])), .inr (.inr (.inl [1])), .inl (none, 2)], [], [(1, (0, 1), [], [], [])], [(1, 3, 3), (23, 4, 1), (25, 0, 150)])
set_option maxRecDepth 20000 in
abbrev xx_X1_readTwo_4 : scX := (Tx, invX, lnX1, [(31, 0, 1, cc_X1_readSum_4), (64, 0, 7, cc_X7_takeSign_1), (64, 0, 7, cc_X7_takeSign_2)], cc_X1_readTwo_4)
set_option maxRecDepth 20000 in
theorem hh_X1_readTwo_4 : scH Tx invX cc_X1_readTwo_4 := scCheck_ok (X := xx_X1_readTwo_4) (nodes := []) (fuel := 4000) ⟨lqX1, fa_cons (⟨⟨2, _, pcv_X1_31, rfl⟩, hh_X1_readSum_4⟩) (fa_cons (⟨⟨1, _, pcv_X1_64, rfl⟩, hh_X7_takeSign_1⟩) (fa_cons (⟨⟨1, _, pcv_X1_64, rfl⟩, hh_X7_takeSign_2⟩) (fa_nil)))⟩ dtX1_readTwo (by decide +kernel)
abbrev cc_X1_readUnit_5 : scC := (qX1_readUnit, 26, [], [.inr (.inr (.inl [23])), .inr (.inr (.inl [1])), .inl (none, 1)], [], [(1, (0, 1), [], [], [])], [(1, 3, 3), (23, 4, 1), (25, 0, 150)])
set_option maxRecDepth 20000 in
abbrev xx_X1_readUnit_5 : scX := (Tx, invX, lnX1, [(31, 0, 1, cc_X1_readSum_4), (35, 0, 7, cc_X7_peek_0), (57, 0, 1, cc_X1_emit_0), (64, 0, 7, cc_X7_takeSign_2), (68, 0, 7, cc_X7_takeNumber_18), (72, 0, 7, cc_X7_failed_0), (72, 0, 7, cc_X7_failed_1), (78, 0, 7, cc_X7_takeWord_1), (82, 0, 1, cc_X1_readTwo_4)], cc_X1_readUnit_5)
set_option maxRecDepth 20000 in
theorem hh_X1_readUnit_5 : scH Tx invX cc_X1_readUnit_5 := scCheck_ok (X := xx_X1_readUnit_5) (nodes := []) (fuel := 4000) ⟨lqX1, fa_cons (⟨⟨2, _, pcv_X1_31, rfl⟩, hh_X1_readSum_4⟩) (fa_cons (⟨⟨0, _, pcv_X1_35, rfl⟩, hh_X7_peek_0⟩) (fa_cons (⟨⟨1, _, pcv_X1_57, rfl⟩, hh_X1_emit_0⟩) (fa_cons (⟨⟨1, _, pcv_X1_64, rfl⟩, hh_X7_takeSign_2⟩) (fa_cons (⟨⟨2, _, pcv_X1_68, rfl⟩, hh_X7_takeNumber_18⟩) (fa_cons (⟨⟨0, _, pcv_X1_72, rfl⟩, hh_X7_failed_0⟩) (fa_cons (⟨⟨0, _, pcv_X1_72, rfl⟩, hh_X7_failed_1⟩) (fa_cons (⟨⟨1, _, pcv_X1_78, rfl⟩, hh_X7_takeWord_1⟩) (fa_cons (⟨⟨2, _, pcv_X1_82, rfl⟩, hh_X1_readTwo_4⟩) (fa_nil)))))))))⟩ dtX1_readUnit (by decide +kernel)
abbrev cc_X1_readProduct_5 : scC := (qX1_readProduct, 27, [], [.inr (.inr (.inl [23])), .inr (.inr (.inl [1])), .inl (none, 1)], [], [(1, (0, 1), [], [], [])], [(1, 3, 3), (23, 4, 1), (25, 0, 150)])
set_option maxRecDepth 20000 in
abbrev xx_X1_readProduct_5 : scX := (Tx, invX, lnX1, [(35, 0, 7, cc_X7_peek_0), (57, 0, 1, cc_X1_emit_0), (61, 0, 1, cc_X1_readUnit_5)], cc_X1_readProduct_5)
set_option maxRecDepth 20000 in
theorem hh_X1_readProduct_5 : scH Tx invX cc_X1_readProduct_5 := scCheck_ok (X := xx_X1_readProduct_5) (nodes := [(10, ([(1, 1), (0, 1), (0, 150)], [some (.inr (.inr (.inl [23]))), some (.inr (.inr (.inl [1]))), some (.inl (some 0, 0)), some (.inl (some 1, 0)), some (.inl (some 2, 0)), none], [], []), ([0, 0, (-2)], 300))]) (fuel := 4000) ⟨lqX1, fa_cons (⟨⟨0, _, pcv_X1_35, rfl⟩, hh_X7_peek_0⟩) (fa_cons (⟨⟨1, _, pcv_X1_57, rfl⟩, hh_X1_emit_0⟩) (fa_cons (⟨⟨2, _, pcv_X1_61, rfl⟩, hh_X1_readUnit_5⟩) (fa_nil)))⟩ dtX1_readProduct (by decide +kernel)
abbrev cc_X1_readSum_5 : scC := (qX1_readSum, 28, [], [.inr (.inr (.inl [23])), .inr (.inr (.inl [1])), .inl (none, 1)], [], [(1, (0, 1), [], [], [])], [(1, 3, 3), (23, 4, 1), (25, 0, 150)])
set_option maxRecDepth 20000 in
abbrev xx_X1_readSum_5 : scX := (Tx, invX, lnX1, [(35, 0, 7, cc_X7_peek_0), (54, 0, 1, cc_X1_readProduct_5), (57, 0, 1, cc_X1_emit_0)], cc_X1_readSum_5)
set_option maxRecDepth 20000 in
theorem hh_X1_readSum_5 : scH Tx invX cc_X1_readSum_5 := scCheck_ok (X := xx_X1_readSum_5) (nodes := [(10, ([(1, 1), (0, 1), (0, 150)], [some (.inr (.inr (.inl [23]))), some (.inr (.inr (.inl [1]))), some (.inl (some 0, 0)), some (.inl (some 1, 0)), some (.inl (some 2, 0)), none], [], []), ([0, 0, (-2)], 300))]) (fuel := 4000) ⟨lqX1, fa_cons (⟨⟨0, _, pcv_X1_35, rfl⟩, hh_X7_peek_0⟩) (fa_cons (⟨⟨2, _, pcv_X1_54, rfl⟩, hh_X1_readProduct_5⟩) (fa_cons (⟨⟨1, _, pcv_X1_57, rfl⟩, hh_X1_emit_0⟩) (fa_nil)))⟩ dtX1_readSum (by decide +kernel)
abbrev cc_X1_readTwo_5 : scC := (qX1_readTwo, 29, [], [.inr (.inr (.inl [23])), .inr (.inr (.inl [1])), .inl (none, 1)], [], [(1, (0, 1), [], [], [])], [(1, 3, 3), (23, 4, 1), (25, 0, 150)])
set_option maxRecDepth 20000 in
abbrev xx_X1_readTwo_5 : scX := (Tx, invX, lnX1, [(31, 0, 1, cc_X1_readSum_5), (64, 0, 7, cc_X7_takeSign_1), (64, 0, 7, cc_X7_takeSign_2)], cc_X1_readTwo_5)
set_option maxRecDepth 20000 in
theorem hh_X1_readTwo_5 : scH Tx invX cc_X1_readTwo_5 := scCheck_ok (X := xx_X1_readTwo_5) (nodes := []) (fuel := 4000) ⟨lqX1, fa_cons (⟨⟨2, _, pcv_X1_31, rfl⟩, hh_X1_readSum_5⟩) (fa_cons (⟨⟨1, _, pcv_X1_64, rfl⟩, hh_X7_takeSign_1⟩) (fa_cons (⟨⟨1, _, pcv_X1_64, rfl⟩, hh_X7_takeSign_2⟩) (fa_nil)))⟩ dtX1_readTwo (by decide +kernel)
abbrev cc_X1_readUnit_6 : scC := (qX1_readUnit, 30, [], [.inr (.inr (.inl [23])), .inr (.inr (.inl [1])), .inl (none, 0)], [], [(1, (0, 1), [], [], [])], [(1, 3, 3), (23, 4, 1), (25, 0, 150)])
set_option maxRecDepth 20000 in
abbrev xx_X1_readUnit_6 : scX := (Tx, invX, lnX1, [(31, 0, 1, cc_X1_readSum_5), (35, 0, 7, cc_X7_peek_0), (57, 0, 1, cc_X1_emit_0), (64, 0, 7, cc_X7_takeSign_2), (68, 0, 7, cc_X7_takeNumber_18), (72, 0, 7, cc_X7_failed_0), (72, 0, 7, cc_X7_failed_1), (78, 0, 7, cc_X7_takeWord_1), (82, 0, 1, cc_X1_readTwo_5)], cc_X1_readUnit_6)
set_option maxRecDepth 20000 in
theorem hh_X1_readUnit_6 : scH Tx invX cc_X1_readUnit_6 := scCheck_ok (X := xx_X1_readUnit_6) (nodes := []) (fuel := 4000) ⟨lqX1, fa_cons (⟨⟨2, _, pcv_X1_31, rfl⟩, hh_X1_readSum_5⟩) (fa_cons (⟨⟨0, _, pcv_X1_35, rfl⟩, hh_X7_peek_0⟩) (fa_cons (⟨⟨1, _, pcv_X1_57, rfl⟩, hh_X1_emit_0⟩) (fa_cons (⟨⟨1, _, pcv_X1_64, rfl⟩, hh_X7_takeSign_2⟩) (fa_cons (⟨⟨2, _, pcv_X1_68, rfl⟩, hh_X7_takeNumber_18⟩) (fa_cons (⟨⟨0, _, pcv_X1_72, rfl⟩, hh_X7_failed_0⟩) (fa_cons (⟨⟨0, _, pcv_X1_72, rfl⟩, hh_X7_failed_1⟩) (fa_cons (⟨⟨1, _, pcv_X1_78, rfl⟩, hh_X7_takeWord_1⟩) (fa_cons (⟨⟨2, _, pcv_X1_82, rfl⟩, hh_X1_readTwo_5⟩) (fa_nil)))))))))⟩ dtX1_readUnit (by decide +kernel)
abbrev cc_X1_readProduct_6 : scC := (qX1_readProduct, 31, [], [.inr (.inr (.inl [23])), .inr (.inr (.inl [1])), .inl (none, 0)], [], [(1, (0, 1), [], [], [])], [(1, 3, 3), (23, 4, 1), (25, 0, 150)])
set_option maxRecDepth 20000 in
abbrev xx_X1_readProduct_6 : scX := (Tx, invX, lnX1, [(35, 0, 7, cc_X7_peek_0), (57, 0, 1, cc_X1_emit_0), (61, 0, 1, cc_X1_readUnit_6)], cc_X1_readProduct_6)
set_option maxRecDepth 20000 in
theorem hh_X1_readProduct_6 : scH Tx invX cc_X1_readProduct_6 := scCheck_ok (X := xx_X1_readProduct_6) (nodes := [(10, ([(0, 0), (0, 1), (0, 150)], [some (.inr (.inr (.inl [23]))), some (.inr (.inr (.inl [1]))), some (.inl (some 0, 0)), some (.inl (some 1, 0)), some (.inl (some 2, 0)), none], [], []), ([0, 0, (-2)], 300))]) (fuel := 4000) ⟨lqX1, fa_cons (⟨⟨0, _, pcv_X1_35, rfl⟩, hh_X7_peek_0⟩) (fa_cons (⟨⟨1, _, pcv_X1_57, rfl⟩, hh_X1_emit_0⟩) (fa_cons (⟨⟨2, _, pcv_X1_61, rfl⟩, hh_X1_readUnit_6⟩) (fa_nil)))⟩ dtX1_readProduct (by decide +kernel)
abbrev cc_X1_readSum_6 : scC := (qX1_readSum, 32, [], [.inr (.inr (.inl [23])), .inr (.inr (.inl [1])), .inl (none, 0)], [], [(1, (0, 1), [], [], [])], [(1, 3, 3), (23, 4, 1), (25, 0, 150)])
set_option maxRecDepth 20000 in
abbrev xx_X1_readSum_6 : scX := (Tx, invX, lnX1, [(35, 0, 7, cc_X7_peek_0), (54, 0, 1, cc_X1_readProduct_6), (57, 0, 1, cc_X1_emit_0)], cc_X1_readSum_6)
set_option maxRecDepth 20000 in
theorem hh_X1_readSum_6 : scH Tx invX cc_X1_readSum_6 := scCheck_ok (X := xx_X1_readSum_6) (nodes := [(10, ([(0, 0), (0, 1), (0, 150)], [some (.inr (.inr (.inl [23]))), some (.inr (.inr (.inl [1]))), some (.inl (some 0, 0)), some (.inl (some 1, 0)), some (.inl (some 2, 0)), none], [], []), ([0, 0, (-2)], 300))]) (fuel := 4000) ⟨lqX1, fa_cons (⟨⟨0, _, pcv_X1_35, rfl⟩, hh_X7_peek_0⟩) (fa_cons (⟨⟨2, _, pcv_X1_54, rfl⟩, hh_X1_readProduct_6⟩) (fa_cons (⟨⟨1, _, pcv_X1_57, rfl⟩, hh_X1_emit_0⟩) (fa_nil)))⟩ dtX1_readSum (by decide +kernel)
abbrev cc_X1_read_0 : scC := (qX1_read, 33, [], [.inr (.inr (.inl [23])), .inr (.inr (.inl [1]))], [], [(1, (0, 1), [], [], [])], [(1, 3, 3), (23, 3, 2), (24, 0, 150), (25, 0, 150)])
set_option maxRecDepth 20000 in
abbrev xx_X1_read_0 : scX := (Tx, invX, lnX1, [(31, 0, 1, cc_X1_readSum_6), (35, 0, 7, cc_X7_peek_0), (44, 0, 7, cc_X7_fail_1)], cc_X1_read_0)
set_option maxRecDepth 20000 in
theorem hh_X1_read_0 : scH Tx invX cc_X1_read_0 := scCheck_ok (X := xx_X1_read_0) (nodes := []) (fuel := 4000) ⟨lqX1, fa_cons (⟨⟨2, _, pcv_X1_31, rfl⟩, hh_X1_readSum_6⟩) (fa_cons (⟨⟨0, _, pcv_X1_35, rfl⟩, hh_X7_peek_0⟩) (fa_cons (⟨⟨2, _, pcv_X1_44, rfl⟩, hh_X7_fail_1⟩) (fa_nil)))⟩ dtX1_read (by decide +kernel)
abbrev cc_X10_law_0 : scC := (qX10_law, 34, [((-2147483648), 2147483647)], [.inr (.inr (.inl [0])), .inl (some 0, 0)], [], [(1, ((-10), 1), [], [], []), (4, (0, 0), [], [], [])], [(0, 16, 1), (1, 1, 5), (23, 3, 2), (24, 0, 150), (25, 0, 150), (34, 5, 1)])
set_option maxRecDepth 20000 in
abbrev xx_X10_law_0 : scX := (Tx, invX, lnX10, [(108, 0, 10, cc_X10_openText_0), (135, 0, 3, cc_X3_forget_0), (141, 0, 1, cc_X1_read_0)], cc_X10_law_0)
set_option maxRecDepth 20000 in
theorem hh_X10_law_0 : scH Tx invX cc_X10_law_0 := scCheck_ok (X := xx_X10_law_0) (nodes := []) (fuel := 4000) ⟨lqX10, fa_cons (⟨⟨2, _, pcv_X10_108, rfl⟩, hh_X10_openText_0⟩) (fa_cons (⟨⟨0, _, pcv_X10_135, rfl⟩, hh_X3_forget_0⟩) (fa_cons (⟨⟨1, _, pcv_X10_141, rfl⟩, hh_X1_read_0⟩) (fa_nil)))⟩ dtX10_law (by decide +kernel)
abbrev cc_J6_bitCount_0f7a4_0 : scC := (qJ6_bitCount_0f7a4, 0, [((-2147483648), 2147483647)], [.inl (some 0, 0)], [], [(1, (0, 63), [], [], [])], [])
set_option maxRecDepth 20000 in
abbrev xx_J6_bitCount_0f7a4_0 : scX := (Tx, invX, lnJ6, [], cc_J6_bitCount_0f7a4_0)
set_option maxRecDepth 20000 in
theorem hh_J6_bitCount_0f7a4_0 : scH Tx invX cc_J6_bitCount_0f7a4_0 := scCheck_ok (X := xx_J6_bitCount_0f7a4_0) (nodes := []) (fuel := 4000) ⟨lqJ6, fa_nil⟩ dtJ6_bitCount_0f7a4 (by decide +kernel)
abbrev cc_X7_takeNumber_19 : scC := (qX7_takeNumber, 2, [(0, 0), (1, 1), (1, 3)], [.inr (.inr (.inl [1])), .inl (some 0, 0), .inl (some 1, 0)], [((1, 4), (some 2, 0))], [(1, (0, 1), [], [], [((1, 4), (1, 3))]), (1, ((-1), (-1)), [], [], [((1, 4), (1, 3))])], [(1, 3, 1)])
set_option maxRecDepth 20000 in
abbrev xx_X7_takeNumber_19 : scX := (Tx, invX, lnX7, [(35, 0, 7, cc_X7_fail_3), (39, 0, 7, cc_X7_nextPlace_0)], cc_X7_takeNumber_19)
set_option maxRecDepth 20000 in
theorem hh_X7_takeNumber_19 : scH Tx invX cc_X7_takeNumber_19 := scCheck_ok (X := xx_X7_takeNumber_19) (nodes := [(8, ([(0, 0), (1, 1), (0, 600), ((-2147483648), 1000000), (1, 3), (0, 600), (0, 600)], [some (.inr (.inr (.inl [1]))), some (.inl (some 0, 0)), some (.inl (some 1, 0)), some (.inl (some 2, 0)), some (.inl (some 3, 0))], [], [((1, 4), (some 4, 0)), ((1, 3), (some 5, 0)), ((1, 2), (some 6, 0))]), ([0, 0, 0, 0, 0, (-2)], 1200))]) (fuel := 4000) ⟨lqX7, fa_cons (⟨⟨2, _, pcv_X7_35, rfl⟩, hh_X7_fail_3⟩) (fa_cons (⟨⟨0, _, pcv_X7_39, rfl⟩, hh_X7_nextPlace_0⟩) (fa_nil))⟩ dtX7_takeNumber (by decide +kernel)
abbrev cc_X7_takeNumber_20 : scC := (qX7_takeNumber, 2, [(0, 0), (1, 1), (0, 3)], [.inr (.inr (.inl [1])), .inl (some 0, 0), .inl (some 1, 0)], [((1, 4), (some 2, 0))], [(1, (0, 1), [], [], [((1, 4), (0, 3))]), (1, ((-1), (-1)), [], [], [((1, 4), (1, 3))])], [(1, 3, 3)])
set_option maxRecDepth 20000 in
abbrev xx_X7_takeNumber_20 : scX := (Tx, invX, lnX7, [(35, 0, 7, cc_X7_fail_1), (35, 0, 7, cc_X7_fail_0), (35, 0, 7, cc_X7_fail_2), (39, 0, 7, cc_X7_nextPlace_0)], cc_X7_takeNumber_20)
set_option maxRecDepth 20000 in
theorem hh_X7_takeNumber_20 : scH Tx invX cc_X7_takeNumber_20 := scCheck_ok (X := xx_X7_takeNumber_20) (nodes := [(8, ([(0, 0), (1, 1), (0, 600), ((-2147483648), 1000000), (0, 3), (0, 600), (0, 600)], [some (.inr (.inr (.inl [1]))), some (.inl (some 0, 0)), some (.inl (some 1, 0)), some (.inl (some 2, 0)), some (.inl (some 3, 0))], [], [((1, 4), (some 4, 0)), ((1, 3), (some 5, 0)), ((1, 2), (some 6, 0))]), ([0, 0, 0, 0, 0, (-2)], 1200))]) (fuel := 4000) ⟨lqX7, fa_cons (⟨⟨2, _, pcv_X7_35, rfl⟩, hh_X7_fail_1⟩) (fa_cons (⟨⟨2, _, pcv_X7_35, rfl⟩, hh_X7_fail_0⟩) (fa_cons (⟨⟨2, _, pcv_X7_35, rfl⟩, hh_X7_fail_2⟩) (fa_cons (⟨⟨0, _, pcv_X7_39, rfl⟩, hh_X7_nextPlace_0⟩) (fa_nil))))⟩ dtX7_takeNumber (by decide +kernel)
abbrev cc_X2_read_0 : scC := (qX2_read, 3, [], [.inr (.inr (.inl [27])), .inr (.inr (.inl [1]))], [], [(1, (0, 1), [], [], [])], [(1, 3, 3), (27, 0, 3)])
set_option maxRecDepth 20000 in
abbrev xx_X2_read_0 : scX := (Tx, invX, lnX2, [(21, 0, 7, cc_X7_peek_0), (27, 0, 7, cc_X7_nextPlace_0), (30, 0, 7, cc_X7_takeNumber_19), (30, 0, 7, cc_X7_takeNumber_10), (30, 0, 7, cc_X7_takeNumber_20), (34, 0, 7, cc_X7_fail_2), (38, 0, 7, cc_X7_takeSign_0), (42, 0, 7, cc_X7_failed_1), (46, 1, 0, cc_J6_bitCount_0f7a4_0)], cc_X2_read_0)
set_option maxRecDepth 20000 in
theorem hh_X2_read_0 : scH Tx invX cc_X2_read_0 := scCheck_ok (X := xx_X2_read_0) (nodes := [(7, ([((-2147483648), 2147483647), ((-2147483648), 2147483647), (0, 7), (0, 3)], [some (.inr (.inr (.inl [27]))), some (.inr (.inr (.inl [1]))), some (.inl (some 0, 0)), some (.inl (some 1, 0)), some (.inl (some 2, 0)), none, none, none], [], [((1, 4), (some 3, 0))]), ([0, 0, (-2)], 14))]) (fuel := 4000) ⟨lqX2, fa_cons (⟨⟨0, _, pcv_X2_21, rfl⟩, hh_X7_peek_0⟩) (fa_cons (⟨⟨0, _, pcv_X2_27, rfl⟩, hh_X7_nextPlace_0⟩) (fa_cons (⟨⟨2, _, pcv_X2_30, rfl⟩, hh_X7_takeNumber_19⟩) (fa_cons (⟨⟨2, _, pcv_X2_30, rfl⟩, hh_X7_takeNumber_10⟩) (fa_cons (⟨⟨2, _, pcv_X2_30, rfl⟩, hh_X7_takeNumber_20⟩) (fa_cons (⟨⟨2, _, pcv_X2_34, rfl⟩, hh_X7_fail_2⟩) (fa_cons (⟨⟨1, _, pcv_X2_38, rfl⟩, hh_X7_takeSign_0⟩) (fa_cons (⟨⟨0, _, pcv_X2_42, rfl⟩, hh_X7_failed_1⟩) (fa_cons (⟨pcs_X2_46, hh_J6_bitCount_0f7a4_0⟩) (fa_nil)))))))))⟩ dtX2_read (by decide +kernel)
abbrev cc_X10_page_0 : scC := (qX10_page, 4, [((-2147483648), 2147483647)], [.inr (.inr (.inl [0])), .inl (some 0, 0)], [], [(1, ((-2147483648), 2147483647), [], [], []), (4, (0, 0), [], [], [])], [(0, 16, 1), (1, 1, 5), (27, 0, 3)])
set_option maxRecDepth 20000 in
abbrev xx_X10_page_0 : scX := (Tx, invX, lnX10, [(108, 0, 10, cc_X10_openText_0), (161, 0, 2, cc_X2_read_0)], cc_X10_page_0)
set_option maxRecDepth 20000 in
theorem hh_X10_page_0 : scH Tx invX cc_X10_page_0 := scCheck_ok (X := xx_X10_page_0) (nodes := []) (fuel := 4000) ⟨lqX10, fa_cons (⟨⟨2, _, pcv_X10_108, rfl⟩, hh_X10_openText_0⟩) (fa_cons (⟨⟨1, _, pcv_X10_161, rfl⟩, hh_X2_read_0⟩) (fa_nil))⟩ dtX10_page (by decide +kernel)
abbrev cc_X10_fault_0 : scC := (qX10_fault, 0, [], [.inr (.inr (.inl [0]))], [], [(1, ((-1), 600), [], [], [])], [])
set_option maxRecDepth 20000 in
abbrev xx_X10_fault_0 : scX := (Tx, invX, lnX10, [], cc_X10_fault_0)
set_option maxRecDepth 20000 in
theorem hh_X10_fault_0 : scH Tx invX cc_X10_fault_0 := scCheck_ok (X := xx_X10_fault_0) (nodes := []) (fuel := 4000) ⟨lqX10, fa_nil⟩ dtX10_fault (by decide +kernel)
abbrev cc_X6_copyFrom_0 : scC := (qX6_copyFrom, 0, [], [.inr (.inr (.inl [47])), .inr (.inr (.inl [50, 51, 52, 53, 54, 55, 56, 57, 58, 59, 60, 61, 62, 63, 64, 65]))], [], [(0, (0, 0), [], [], [])], [(47, 1, 6), (48, 0, 8)])
set_option maxRecDepth 20000 in
abbrev xx_X6_copyFrom_0 : scX := (Tx, invX, lnX6, [], cc_X6_copyFrom_0)
set_option maxRecDepth 20000 in
theorem hh_X6_copyFrom_0 : scH Tx invX cc_X6_copyFrom_0 := scCheck_ok (X := xx_X6_copyFrom_0) (nodes := []) (fuel := 4000) ⟨lqX6, fa_nil⟩ dtX6_copyFrom (by decide +kernel)
abbrev cc_X5_goBack_0 : scC := (qX5_goBack, 1, [], [.inr (.inr (.inl [46]))], [], [(0, (0, 0), [], [], [])], [(46, 2, 1), (47, 1, 6), (48, 0, 8)])
set_option maxRecDepth 20000 in
abbrev xx_X5_goBack_0 : scX := (Tx, invX, lnX5, [(26, 0, 6, cc_X6_copyFrom_0)], cc_X5_goBack_0)
set_option maxRecDepth 20000 in
theorem hh_X5_goBack_0 : scH Tx invX cc_X5_goBack_0 := scCheck_ok (X := xx_X5_goBack_0) (nodes := []) (fuel := 4000) ⟨lqX5, fa_cons (⟨⟨1, _, pcv_X5_26, rfl⟩, hh_X6_copyFrom_0⟩) (fa_nil)⟩ dtX5_goBack (by decide +kernel)
abbrev cc_X10_undo_0 : scC := (qX10_undo, 2, [], [.inr (.inr (.inl [0]))], [], [(1, ((-1), 16), [], [], [])], [(0, 14, 1), (34, 5, 1), (46, 2, 1), (47, 1, 6), (48, 0, 8)])
set_option maxRecDepth 20000 in
abbrev xx_X10_undo_0 : scX := (Tx, invX, lnX10, [(135, 0, 3, cc_X3_forget_0), (166, 0, 5, cc_X5_goBack_0)], cc_X10_undo_0)
set_option maxRecDepth 20000 in
theorem hh_X10_undo_0 : scH Tx invX cc_X10_undo_0 := scCheck_ok (X := xx_X10_undo_0) (nodes := []) (fuel := 4000) ⟨lqX10, fa_cons (⟨⟨0, _, pcv_X10_135, rfl⟩, hh_X3_forget_0⟩) (fa_cons (⟨⟨0, _, pcv_X10_166, rfl⟩, hh_X5_goBack_0⟩) (fa_nil))⟩ dtX10_undo (by decide +kernel)
abbrev cc_X10_needWithin_1 : scC := (qX10_needWithin, 0, [((-2147483648), 2147483647), (0, 0), (8, 8)], [.inr (.inr (.inl [0])), .inl (some 0, 0), .inl (some 1, 0), .inl (some 2, 0)], [], [(0, (0, 0), [], [(0, (0, 8))], []), (4, (0, 0), [], [], [])], [(0, 16, 1)])
set_option maxRecDepth 20000 in
abbrev xx_X10_needWithin_1 : scX := (Tx, invX, lnX10, [], cc_X10_needWithin_1)
set_option maxRecDepth 20000 in
theorem hh_X10_needWithin_1 : scH Tx invX cc_X10_needWithin_1 := scCheck_ok (X := xx_X10_needWithin_1) (nodes := []) (fuel := 4000) ⟨lqX10, fa_nil⟩ dtX10_needWithin (by decide +kernel)
abbrev cc_X6_pieces_0 : scC := (qX6_pieces, 0, [(0, 8)], [.inr (.inr (.inl [47])), .inl (some 0, 0)], [], [(1, ((-2147483648), 2147483647), [], [], [])], [])
set_option maxRecDepth 20000 in
abbrev xx_X6_pieces_0 : scX := (Tx, invX, lnX6, [], cc_X6_pieces_0)
set_option maxRecDepth 20000 in
theorem hh_X6_pieces_0 : scH Tx invX cc_X6_pieces_0 := scCheck_ok (X := xx_X6_pieces_0) (nodes := [(4, ([(0, 8), ((-2147483648), 2147483647), (0, 8), ((-2147483648), 2147483647)], [some (.inr (.inr (.inl [47]))), some (.inl (some 0, 0)), some (.inl (some 1, 0)), some (.inl (some 2, 0))], [], [((48, 0), (some 3, 0))]), ([0, 0, (-2)], 16))]) (fuel := 4000) ⟨lqX6, fa_nil⟩ dtX6_pieces (by decide +kernel)
abbrev cc_X10_told_0 : scC := (qX10_told, 1, [((-2147483648), 2147483647)], [.inr (.inr (.inl [0])), .inl (some 0, 0)], [], [(1, ((-2147483648), 2147483647), [], [], []), (4, (0, 0), [], [], [])], [(0, 16, 1)])
set_option maxRecDepth 20000 in
abbrev xx_X10_told_0 : scX := (Tx, invX, lnX10, [(169, 0, 10, cc_X10_needWithin_1), (182, 1, 0, cc_J6_bitCount_0f7a4_0), (188, 0, 6, cc_X6_pieces_0)], cc_X10_told_0)
set_option maxRecDepth 20000 in
theorem hh_X10_told_0 : scH Tx invX cc_X10_told_0 := scCheck_ok (X := xx_X10_told_0) (nodes := []) (fuel := 4000) ⟨lqX10, fa_cons (⟨⟨3, _, pcv_X10_169, rfl⟩, hh_X10_needWithin_1⟩) (fa_cons (⟨pcs_X10_182, hh_J6_bitCount_0f7a4_0⟩) (fa_cons (⟨⟨1, _, pcv_X10_188, rfl⟩, hh_X6_pieces_0⟩) (fa_nil)))⟩ dtX10_told (by decide +kernel)
abbrev cc_X10_needLife_0 : scC := (qX10_needLife, 0, [((-2147483648), 2147483647)], [.inr (.inr (.inl [0])), .inl (some 0, 0)], [], [(0, (0, 0), [], [(0, (0, 7))], []), (5, (0, 0), [], [], [])], [(0, 15, 1)])
set_option maxRecDepth 20000 in
abbrev xx_X10_needLife_0 : scX := (Tx, invX, lnX10, [], cc_X10_needLife_0)
set_option maxRecDepth 20000 in
theorem hh_X10_needLife_0 : scH Tx invX cc_X10_needLife_0 := scCheck_ok (X := xx_X10_needLife_0) (nodes := []) (fuel := 4000) ⟨lqX10, fa_nil⟩ dtX10_needLife (by decide +kernel)
abbrev cc_X10_needWithin_2 : scC := (qX10_needWithin, 0, [((-2147483648), 2147483647), (0, 0), (7, 7)], [.inr (.inr (.inl [0])), .inl (some 0, 0), .inl (some 1, 0), .inl (some 2, 0)], [], [(0, (0, 0), [], [(0, (0, 7))], []), (4, (0, 0), [], [], [])], [(0, 16, 1)])
set_option maxRecDepth 20000 in
abbrev xx_X10_needWithin_2 : scX := (Tx, invX, lnX10, [], cc_X10_needWithin_2)
set_option maxRecDepth 20000 in
theorem hh_X10_needWithin_2 : scH Tx invX cc_X10_needWithin_2 := scCheck_ok (X := xx_X10_needWithin_2) (nodes := []) (fuel := 4000) ⟨lqX10, fa_nil⟩ dtX10_needWithin (by decide +kernel)
abbrev cc_X6_isAlive_0 : scC := (qX6_isAlive, 0, [((-2147483648), 2147483647)], [.inr (.inr (.inl [47])), .inl (some 0, 0)], [], [(1, (0, 1), [], [], [])], [])
set_option maxRecDepth 20000 in
abbrev xx_X6_isAlive_0 : scX := (Tx, invX, lnX6, [], cc_X6_isAlive_0)
set_option maxRecDepth 20000 in
theorem hh_X6_isAlive_0 : scH Tx invX cc_X6_isAlive_0 := scCheck_ok (X := xx_X6_isAlive_0) (nodes := []) (fuel := 4000) ⟨lqX6, fa_nil⟩ dtX6_isAlive (by decide +kernel)
abbrev cc_X8_renewHours_0 : scC := (qX8_renewHours, 1, [(0, 7)], [.inr (.inr (.inl [3])), .inl (some 0, 0)], [], [(1, (1, 9), [], [], [])], [])
set_option maxRecDepth 20000 in
abbrev xx_X8_renewHours_0 : scX := (Tx, invX, lnX8, [], cc_X8_renewHours_0)
set_option maxRecDepth 20000 in
theorem hh_X8_renewHours_0 : scH Tx invX cc_X8_renewHours_0 := scCheck_ok (X := xx_X8_renewHours_0) (nodes := []) (fuel := 4000) ⟨lqX8, fa_nil⟩ dtX8_renewHours (by decide +kernel)
abbrev cc_X0_yearsWhen_0 : scC := (qX0_yearsWhen, 0, [(0, 7), (0, 7)], [.inr (.inr (.inl [32])), .inr (.inr (.inl [47])), .inl (some 0, 0), .inl (some 1, 0)], [], [(1, (0, 317), [], [], [])], [])
set_option maxRecDepth 20000 in
abbrev xx_X0_yearsWhen_0 : scX := (Tx, invX, lnX0, [], cc_X0_yearsWhen_0)
set_option maxRecDepth 20000 in
theorem hh_X0_yearsWhen_0 : scH Tx invX cc_X0_yearsWhen_0 := scCheck_ok (X := xx_X0_yearsWhen_0) (nodes := []) (fuel := 4000) ⟨lqX0, fa_nil⟩ dtX0_yearsWhen (by decide +kernel)
abbrev cc_X10_life_0 : scC := (qX10_life, 2, [((-2147483648), 2147483647), ((-2147483648), 2147483647)], [.inr (.inr (.inl [0])), .inl (some 0, 0), .inl (some 1, 0)], [], [(1, ((-2147483648), 2147483647), [], [], []), (4, (0, 0), [], [], []), (5, (0, 0), [], [], [])], [(0, 15, 2)])
set_option maxRecDepth 20000 in
abbrev xx_X10_life_0 : scX := (Tx, invX, lnX10, [(169, 0, 10, cc_X10_needWithin_2), (197, 0, 10, cc_X10_needLife_0), (200, 0, 0, cc_X0_yearsWhen_0), (212, 0, 8, cc_X8_renewHours_0), (215, 0, 6, cc_X6_isAlive_0)], cc_X10_life_0)
set_option maxRecDepth 20000 in
theorem hh_X10_life_0 : scH Tx invX cc_X10_life_0 := scCheck_ok (X := xx_X10_life_0) (nodes := []) (fuel := 4000) ⟨lqX10, fa_cons (⟨⟨3, _, pcv_X10_169, rfl⟩, hh_X10_needWithin_2⟩) (fa_cons (⟨⟨1, _, pcv_X10_197, rfl⟩, hh_X10_needLife_0⟩) (fa_cons (⟨⟨3, _, pcv_X10_200, rfl⟩, hh_X0_yearsWhen_0⟩) (fa_cons (⟨⟨1, _, pcv_X10_212, rfl⟩, hh_X8_renewHours_0⟩) (fa_cons (⟨⟨1, _, pcv_X10_215, rfl⟩, hh_X6_isAlive_0⟩) (fa_nil)))))⟩ dtX10_life (by decide +kernel)
abbrev cc_X8_factBits_0 : scC := (qX8_factBits, 0, [((-2147483648), 2147483647), ((-2147483648), 2147483647)], [.inr (.inr (.inl [3])), .inl (some 0, 0), .inl (some 1, 0)], [], [(1, ((-2147483648), 2147483647), [], [], [])], [])
set_option maxRecDepth 20000 in
abbrev xx_X8_factBits_0 : scX := (Tx, invX, lnX8, [], cc_X8_factBits_0)
set_option maxRecDepth 20000 in
theorem hh_X8_factBits_0 : scH Tx invX cc_X8_factBits_0 := scCheck_ok (X := xx_X8_factBits_0) (nodes := [(5, ([((-2147483648), 2147483647), ((-2147483648), 2147483647), ((-2147483648), 2147483647), (0, 24), (0, 5), (0, 60), (0, 7), (0, 24)], [some (.inr (.inr (.inl [3]))), some (.inl (some 0, 0)), some (.inl (some 1, 0)), some (.inl (some 2, 0)), some (.inl (some 3, 0))], [], [((11, 0), (some 4, 0)), ((12, 0), (some 5, 0)), ((10, 0), (some 6, 0)), ((3, 10), (some 7, 0))]), ([0, 0, 0, (-2)], 48))]) (fuel := 4000) ⟨lqX8, fa_nil⟩ dtX8_factBits (by decide +kernel)
abbrev cc_X10_facts_0 : scC := (qX10_facts, 1, [((-2147483648), 2147483647)], [.inr (.inr (.inl [0])), .inl (some 0, 0)], [], [(1, ((-2147483648), 2147483647), [], [], []), (5, (0, 0), [], [], [])], [(0, 15, 1)])
set_option maxRecDepth 20000 in
abbrev xx_X10_facts_0 : scX := (Tx, invX, lnX10, [(197, 0, 10, cc_X10_needLife_0), (225, 0, 8, cc_X8_factBits_0)], cc_X10_facts_0)
set_option maxRecDepth 20000 in
theorem hh_X10_facts_0 : scH Tx invX cc_X10_facts_0 := scCheck_ok (X := xx_X10_facts_0) (nodes := []) (fuel := 4000) ⟨lqX10, fa_cons (⟨⟨1, _, pcv_X10_197, rfl⟩, hh_X10_needLife_0⟩) (fa_cons (⟨⟨2, _, pcv_X10_225, rfl⟩, hh_X8_factBits_0⟩) (fa_nil))⟩ dtX10_facts (by decide +kernel)
abbrev cc_X8_changesBetween_0 : scC := (qX8_changesBetween, 0, [((-2147483648), 2147483647), ((-2147483648), 2147483647), ((-2147483648), 2147483647)], [.inr (.inr (.inl [3])), .inl (some 0, 0), .inl (some 1, 0), .inl (some 2, 0)], [], [(1, ((-2147483648), 2147483647), [], [], [])], [])
set_option maxRecDepth 20000 in
abbrev xx_X8_changesBetween_0 : scX := (Tx, invX, lnX8, [], cc_X8_changesBetween_0)
set_option maxRecDepth 20000 in
theorem hh_X8_changesBetween_0 : scH Tx invX cc_X8_changesBetween_0 := scCheck_ok (X := xx_X8_changesBetween_0) (nodes := [(6, ([((-2147483648), 2147483647), ((-2147483648), 2147483647), ((-2147483648), 2147483647), ((-2147483648), 2147483647), (0, 24), (0, 60), (0, 7), (0, 24)], [some (.inr (.inr (.inl [3]))), some (.inl (some 0, 0)), some (.inl (some 1, 0)), some (.inl (some 2, 0)), some (.inl (some 3, 0)), some (.inl (some 4, 0))], [], [((12, 0), (some 5, 0)), ((10, 0), (some 6, 0)), ((3, 10), (some 7, 0))]), ([0, 0, 0, 0, (-2)], 48))]) (fuel := 4000) ⟨lqX8, fa_nil⟩ dtX8_changesBetween (by decide +kernel)
abbrev cc_X0_signerDead_0 : scC := (qX0_signerDead, 1, [(0, 7)], [.inr (.inr (.inl [32])), .inr (.inr (.inl [47])), .inl (some 0, 0)], [], [(1, (0, 1), [], [], [])], [])
set_option maxRecDepth 20000 in
abbrev xx_X0_signerDead_0 : scX := (Tx, invX, lnX0, [(38, 0, 6, cc_X6_isAlive_0)], cc_X0_signerDead_0)
set_option maxRecDepth 20000 in
theorem hh_X0_signerDead_0 : scH Tx invX cc_X0_signerDead_0 := scCheck_ok (X := xx_X0_signerDead_0) (nodes := []) (fuel := 4000) ⟨lqX0, fa_cons (⟨⟨1, _, pcv_X0_38, rfl⟩, hh_X6_isAlive_0⟩) (fa_nil)⟩ dtX0_signerDead (by decide +kernel)
abbrev cc_X1_joined_0 : scC := (qX1_joined, 0, [((-2147483648), 2147483647), ((-2147483648), 2147483647), ((-2147483648), 2147483647)], [.inl (some 0, 0), .inl (some 1, 0), .inl (some 2, 0)], [], [(1, ((-2147483648), 2147483647), [], [], [])], [])
set_option maxRecDepth 20000 in
abbrev xx_X1_joined_0 : scX := (Tx, invX, lnX1, [], cc_X1_joined_0)
set_option maxRecDepth 20000 in
theorem hh_X1_joined_0 : scH Tx invX cc_X1_joined_0 := scCheck_ok (X := xx_X1_joined_0) (nodes := []) (fuel := 4000) ⟨lqX1, fa_nil⟩ dtX1_joined (by decide +kernel)
abbrev cc_X1_outcome_0 : scC := (qX1_outcome, 1, [((-2147483648), 2147483647), ((-2147483648), 2147483647), ((-2147483648), 2147483647), ((-2147483648), 2147483647), ((-2147483648), 2147483647)], [.inr (.inr (.inl [23])), .inl (some 0, 0), .inl (some 1, 0), .inl (some 2, 0), .inl (some 3, 0), .inl (some 4, 0)], [], [(1, (0, 64), [], [], [])], [(26, 0, 24)])
set_option maxRecDepth 20000 in
abbrev xx_X1_outcome_0 : scX := (Tx, invX, lnX1, [(85, 1, 0, cc_X1_joined_0)], cc_X1_outcome_0)
set_option maxRecDepth 20000 in
theorem hh_X1_outcome_0 : scH Tx invX cc_X1_outcome_0 := scCheck_ok (X := xx_X1_outcome_0) (nodes := [(6, ([((-2147483648), 2147483647), ((-2147483648), 2147483647), ((-2147483648), 2147483647), ((-2147483648), 2147483647), ((-2147483648), 2147483647), (0, 24), (0, 150), ((-2147483648), 2147483647), ((-2147483648), 2147483647), (0, 150), ((-2147483648), 2147483647)], [some (.inr (.inr (.inl [23]))), some (.inl (some 0, 0)), some (.inl (some 1, 0)), some (.inl (some 2, 0)), some (.inl (some 3, 0)), some (.inl (some 4, 0)), some (.inl (some 5, 0)), some (.inl (some 6, 0)), none], [], [((26, 0), (some 7, 0)), ((24, 0), (some 8, 0)), ((23, 3), (some 9, 0)), ((26, 1), (some 10, 0))]), ([0, 0, 0, 0, 0, 0, (-2)], 300))]) (fuel := 4000) ⟨lqX1, fa_cons (⟨pcs_X1_85, hh_X1_joined_0⟩) (fa_nil)⟩ dtX1_outcome (by decide +kernel)
abbrev cc_X0_wrongWhen_0 : scC := (qX0_wrongWhen, 2, [(0, 7), (0, 7), ((-2147483648), 2147483647)], [.inr (.inr (.inl [32])), .inr (.inr (.inl [47])), .inl (some 0, 0), .inl (some 1, 0), .inl (some 2, 0)], [], [(1, (0, 64), [], [], [])], [(26, 0, 24)])
set_option maxRecDepth 20000 in
abbrev xx_X0_wrongWhen_0 : scX := (Tx, invX, lnX0, [(42, 0, 8, cc_X8_changesBetween_0), (46, 0, 0, cc_X0_yearsWhen_0), (53, 0, 0, cc_X0_signerDead_0), (57, 0, 1, cc_X1_outcome_0)], cc_X0_wrongWhen_0)
set_option maxRecDepth 20000 in
theorem hh_X0_wrongWhen_0 : scH Tx invX cc_X0_wrongWhen_0 := scCheck_ok (X := xx_X0_wrongWhen_0) (nodes := []) (fuel := 4000) ⟨lqX0, fa_cons (⟨⟨3, _, pcv_X0_42, rfl⟩, hh_X8_changesBetween_0⟩) (fa_cons (⟨⟨3, _, pcv_X0_46, rfl⟩, hh_X0_yearsWhen_0⟩) (fa_cons (⟨⟨2, _, pcv_X0_53, rfl⟩, hh_X0_signerDead_0⟩) (fa_cons (⟨⟨5, _, pcv_X0_57, rfl⟩, hh_X1_outcome_0⟩) (fa_nil))))⟩ dtX0_wrongWhen (by decide +kernel)
abbrev cc_X10_wrong_0 : scC := (qX10_wrong, 3, [((-2147483648), 2147483647)], [.inr (.inr (.inl [0])), .inl (some 0, 0)], [], [(1, ((-1), 64), [], [], []), (5, (0, 0), [], [], [])], [(0, 15, 1), (26, 0, 24)])
set_option maxRecDepth 20000 in
abbrev xx_X10_wrong_0 : scX := (Tx, invX, lnX10, [(197, 0, 10, cc_X10_needLife_0), (229, 0, 0, cc_X0_wrongWhen_0)], cc_X10_wrong_0)
set_option maxRecDepth 20000 in
theorem hh_X10_wrong_0 : scH Tx invX cc_X10_wrong_0 := scCheck_ok (X := xx_X10_wrong_0) (nodes := []) (fuel := 4000) ⟨lqX10, fa_cons (⟨⟨1, _, pcv_X10_197, rfl⟩, hh_X10_needLife_0⟩) (fa_cons (⟨⟨4, _, pcv_X10_229, rfl⟩, hh_X0_wrongWhen_0⟩) (fa_nil))⟩ dtX10_wrong (by decide +kernel)
abbrev cc_X10_needWithin_3 : scC := (qX10_needWithin, 0, [((-2147483648), 2147483647), (0, 0), (200, 200)], [.inr (.inr (.inl [0])), .inl (some 0, 0), .inl (some 1, 0), .inl (some 2, 0)], [], [(0, (0, 0), [], [(0, (0, 200))], []), (4, (0, 0), [], [], [])], [(0, 16, 1)])
set_option maxRecDepth 20000 in
abbrev xx_X10_needWithin_3 : scX := (Tx, invX, lnX10, [], cc_X10_needWithin_3)
set_option maxRecDepth 20000 in
theorem hh_X10_needWithin_3 : scH Tx invX cc_X10_needWithin_3 := scCheck_ok (X := xx_X10_needWithin_3) (nodes := []) (fuel := 4000) ⟨lqX10, fa_nil⟩ dtX10_needWithin (by decide +kernel)
abbrev cc_X10_needWithin_4 : scC := (qX10_needWithin, 0, [((-2147483648), 2147483647), (1, 1), (99, 99)], [.inr (.inr (.inl [0])), .inl (some 0, 0), .inl (some 1, 0), .inl (some 2, 0)], [], [(0, (0, 0), [], [(0, (1, 99))], []), (4, (0, 0), [], [], [])], [(0, 16, 1)])
set_option maxRecDepth 20000 in
abbrev xx_X10_needWithin_4 : scX := (Tx, invX, lnX10, [], cc_X10_needWithin_4)
set_option maxRecDepth 20000 in
theorem hh_X10_needWithin_4 : scH Tx invX cc_X10_needWithin_4 := scCheck_ok (X := xx_X10_needWithin_4) (nodes := []) (fuel := 4000) ⟨lqX10, fa_nil⟩ dtX10_needWithin (by decide +kernel)
abbrev cc_X10_needWithin_5 : scC := (qX10_needWithin, 0, [((-2147483648), 2147483647), (0, 0), (1, 1)], [.inr (.inr (.inl [0])), .inl (some 0, 0), .inl (some 1, 0), .inl (some 2, 0)], [], [(0, (0, 0), [], [(0, (0, 1))], []), (4, (0, 0), [], [], [])], [(0, 16, 1)])
set_option maxRecDepth 20000 in
abbrev xx_X10_needWithin_5 : scX := (Tx, invX, lnX10, [], cc_X10_needWithin_5)
set_option maxRecDepth 20000 in
theorem hh_X10_needWithin_5 : scH Tx invX cc_X10_needWithin_5 := scCheck_ok (X := xx_X10_needWithin_5) (nodes := []) (fuel := 4000) ⟨lqX10, fa_nil⟩ dtX10_needWithin (by decide +kernel)
abbrev cc_X10_needWithin_6 : scC := (qX10_needWithin, 0, [((-2147483648), 2147483647), (0, 0), (24, 24)], [.inr (.inr (.inl [0])), .inl (some 0, 0), .inl (some 1, 0), .inl (some 2, 0)], [], [(0, (0, 0), [], [(0, (0, 24))], []), (4, (0, 0), [], [], [])], [(0, 16, 1)])
set_option maxRecDepth 20000 in
abbrev xx_X10_needWithin_6 : scX := (Tx, invX, lnX10, [], cc_X10_needWithin_6)
set_option maxRecDepth 20000 in
theorem hh_X10_needWithin_6 : scH Tx invX cc_X10_needWithin_6 := scCheck_ok (X := xx_X10_needWithin_6) (nodes := []) (fuel := 4000) ⟨lqX10, fa_nil⟩ dtX10_needWithin (by decide +kernel)
abbrev cc_X10_would_0 : scC := (qX10_would, 2, [((-2147483648), 2147483647), ((-2147483648), 2147483647), ((-2147483648), 2147483647), ((-2147483648), 2147483647), ((-2147483648), 2147483647)], [.inr (.inr (.inl [0])), .inl (some 0, 0), .inl (some 1, 0), .inl (some 2, 0), .inl (some 3, 0), .inl (some 4, 0)], [], [(1, (0, 64), [], [], []), (4, (0, 0), [], [], [])], [(0, 16, 1), (26, 0, 24)])
set_option maxRecDepth 20000 in
abbrev xx_X10_would_0 : scX := (Tx, invX, lnX10, [(169, 0, 10, cc_X10_needWithin_3), (169, 0, 10, cc_X10_needWithin_4), (169, 0, 10, cc_X10_needWithin_5), (169, 0, 10, cc_X10_needWithin_6), (233, 0, 1, cc_X1_outcome_0)], cc_X10_would_0)
set_option maxRecDepth 20000 in
theorem hh_X10_would_0 : scH Tx invX cc_X10_would_0 := scCheck_ok (X := xx_X10_would_0) (nodes := []) (fuel := 4000) ⟨lqX10, fa_cons (⟨⟨3, _, pcv_X10_169, rfl⟩, hh_X10_needWithin_3⟩) (fa_cons (⟨⟨3, _, pcv_X10_169, rfl⟩, hh_X10_needWithin_4⟩) (fa_cons (⟨⟨3, _, pcv_X10_169, rfl⟩, hh_X10_needWithin_5⟩) (fa_cons (⟨⟨3, _, pcv_X10_169, rfl⟩, hh_X10_needWithin_6⟩) (fa_cons (⟨⟨5, _, pcv_X10_233, rfl⟩, hh_X1_outcome_0⟩) (fa_nil)))))⟩ dtX10_would (by decide +kernel)
abbrev cc_X10_lacking_0 : scC := (qX10_lacking, 1, [], [.inr (.inr (.inl [0]))], [], [(1, ((-2147483648), 2147483647), [], [], [])], [])
set_option maxRecDepth 20000 in
abbrev xx_X10_lacking_0 : scX := (Tx, invX, lnX10, [(215, 0, 6, cc_X6_isAlive_0)], cc_X10_lacking_0)
set_option maxRecDepth 20000 in
theorem hh_X10_lacking_0 : scH Tx invX cc_X10_lacking_0 := scCheck_ok (X := xx_X10_lacking_0) (nodes := [(4, ([((-2147483648), 2147483647), (0, 8), ((-2147483648), 2147483647), (0, 8)], [some (.inr (.inr (.inl [0]))), some (.inl (some 0, 0)), some (.inl (some 1, 0))], [], [((48, 0), (some 2, 0)), ((3, 9), (some 3, 0))]), ([0, (-2)], 16))]) (fuel := 4000) ⟨lqX10, fa_cons (⟨⟨1, _, pcv_X10_215, rfl⟩, hh_X6_isAlive_0⟩) (fa_nil)⟩ dtX10_lacking (by decide +kernel)
abbrev cc_X10_signed_0 : scC := (qX10_signed, 2, [], [.inr (.inr (.inl [0]))], [], [(1, ((-2147483648), 2147483647), [], [], [])], [])
set_option maxRecDepth 20000 in
abbrev xx_X10_signed_0 : scX := (Tx, invX, lnX10, [(237, 0, 0, cc_X0_signerDead_0)], cc_X10_signed_0)
set_option maxRecDepth 20000 in
theorem hh_X10_signed_0 : scH Tx invX cc_X10_signed_0 := scCheck_ok (X := xx_X10_signed_0) (nodes := [(4, ([((-2147483648), 2147483647), (0, 8), ((-2147483648), 2147483647), (0, 8)], [some (.inr (.inr (.inl [0]))), some (.inl (some 0, 0)), some (.inl (some 1, 0))], [], [((48, 0), (some 2, 0)), ((3, 9), (some 3, 0))]), ([0, (-2)], 16))]) (fuel := 4000) ⟨lqX10, fa_cons (⟨⟨2, _, pcv_X10_237, rfl⟩, hh_X0_signerDead_0⟩) (fa_nil)⟩ dtX10_signed (by decide +kernel)
abbrev cc_X10_needWithin_7 : scC := (qX10_needWithin, 0, [((-2147483648), 2147483647), (0, 0), (65, 65)], [.inr (.inr (.inl [0])), .inl (some 0, 0), .inl (some 1, 0), .inl (some 2, 0)], [], [(0, (0, 0), [], [(0, (0, 65))], []), (4, (0, 0), [], [], [])], [(0, 16, 1)])
set_option maxRecDepth 20000 in
abbrev xx_X10_needWithin_7 : scX := (Tx, invX, lnX10, [], cc_X10_needWithin_7)
set_option maxRecDepth 20000 in
theorem hh_X10_needWithin_7 : scH Tx invX cc_X10_needWithin_7 := scCheck_ok (X := xx_X10_needWithin_7) (nodes := []) (fuel := 4000) ⟨lqX10, fa_nil⟩ dtX10_needWithin (by decide +kernel)
end
