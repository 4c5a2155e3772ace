-- P 04b
section
theorem fm_in {w : Cond} (i : Nat) (h : tables_1[i]? = some w) (hg : goodWord w = true) : w ∈ fmWs := List.mem_filter.mpr ⟨List.mem_append_right _ (List.mem_of_getElem? h), hg⟩
theorem fm_c1 {w : Cond} (i : Nat) (h : tables_1_1[i]? = some w) (hg : goodWord w = true) : w ∈ fmWs := List.mem_filter.mpr ⟨List.mem_append_right _ (show w ∈ tables_1 from List.mem_append_left _ (List.mem_of_getElem? h)), hg⟩
theorem fm_c2 {w : Cond} (i : Nat) (h : tables_1_2[i]? = some w) (hg : goodWord w = true) : w ∈ fmWs := List.mem_filter.mpr ⟨List.mem_append_right _ (show w ∈ tables_1 from List.mem_append_right _ (List.mem_append_left _ (List.mem_of_getElem? h))), hg⟩
theorem fm_c3 {w : Cond} (i : Nat) (h : tables_1_3[i]? = some w) (hg : goodWord w = true) : w ∈ fmWs := List.mem_filter.mpr ⟨List.mem_append_right _ (show w ∈ tables_1 from List.mem_append_right _ (List.mem_append_right _ (List.mem_append_left _ (List.mem_of_getElem? h)))), hg⟩
theorem fm_c4 {w : Cond} (i : Nat) (h : tables_1_4[i]? = some w) (hg : goodWord w = true) : w ∈ fmWs := List.mem_filter.mpr ⟨List.mem_append_right _ (show w ∈ tables_1 from List.mem_append_right _ (List.mem_append_right _ (List.mem_append_right _ (List.mem_append_left _ (List.mem_of_getElem? h))))), hg⟩
theorem fm_c5 {w : Cond} (i : Nat) (h : tables_1_5[i]? = some w) (hg : goodWord w = true) : w ∈ fmWs := List.mem_filter.mpr ⟨List.mem_append_right _ (show w ∈ tables_1 from List.mem_append_right _ (List.mem_append_right _ (List.mem_append_right _ (List.mem_append_right _ (List.mem_append_left _ (List.mem_of_getElem? h)))))), hg⟩
theorem fm_c6 {w : Cond} (i : Nat) (h : tables_1_6[i]? = some w) (hg : goodWord w = true) : w ∈ fmWs := List.mem_filter.mpr ⟨List.mem_append_right _ (show w ∈ tables_1 from List.mem_append_right _ (List.mem_append_right _ (List.mem_append_right _ (List.mem_append_right _ (List.mem_append_right _ (List.mem_append_left _ (List.mem_of_getElem? h))))))), hg⟩
theorem fm_c7 {w : Cond} (i : Nat) (h : tables_1_7[i]? = some w) (hg : goodWord w = true) : w ∈ fmWs := List.mem_filter.mpr ⟨List.mem_append_right _ (show w ∈ tables_1 from List.mem_append_right _ (List.mem_append_right _ (List.mem_append_right _ (List.mem_append_right _ (List.mem_append_right _ (List.mem_append_right _ (List.mem_append_left _ (List.mem_of_getElem? h)))))))), hg⟩
theorem fm_c8 {w : Cond} (i : Nat) (h : tables_1_8[i]? = some w) (hg : goodWord w = true) : w ∈ fmWs := List.mem_filter.mpr ⟨List.mem_append_right _ (show w ∈ tables_1 from List.mem_append_right _ (List.mem_append_right _ (List.mem_append_right _ (List.mem_append_right _ (List.mem_append_right _ (List.mem_append_right _ (List.mem_append_right _ (List.mem_append_left _ (List.mem_of_getElem? h))))))))), hg⟩
theorem fm_c9 {w : Cond} (i : Nat) (h : tables_1_9[i]? = some w) (hg : goodWord w = true) : w ∈ fmWs := List.mem_filter.mpr ⟨List.mem_append_right _ (show w ∈ tables_1 from List.mem_append_right _ (List.mem_append_right _ (List.mem_append_right _ (List.mem_append_right _ (List.mem_append_right _ (List.mem_append_right _ (List.mem_append_right _ (List.mem_append_right _ (List.mem_of_getElem? h))))))))), hg⟩
theorem tm_1 {w : Cond} (h : w ∈ tables_1_1) : w ∈ tables_1 := List.mem_append_left _ (h)
theorem tm_2 {w : Cond} (h : w ∈ tables_1_2) : w ∈ tables_1 := List.mem_append_right _ (List.mem_append_left _ (h))
theorem tm_3 {w : Cond} (h : w ∈ tables_1_3) : w ∈ tables_1 := List.mem_append_right _ (List.mem_append_right _ (List.mem_append_left _ (h)))
theorem tm_4 {w : Cond} (h : w ∈ tables_1_4) : w ∈ tables_1 := List.mem_append_right _ (List.mem_append_right _ (List.mem_append_right _ (List.mem_append_left _ (h))))
theorem tm_5 {w : Cond} (h : w ∈ tables_1_5) : w ∈ tables_1 := List.mem_append_right _ (List.mem_append_right _ (List.mem_append_right _ (List.mem_append_right _ (List.mem_append_left _ (h)))))
theorem tm_6 {w : Cond} (h : w ∈ tables_1_6) : w ∈ tables_1 := List.mem_append_right _ (List.mem_append_right _ (List.mem_append_right _ (List.mem_append_right _ (List.mem_append_right _ (List.mem_append_left _ (h))))))
theorem tm_7 {w : Cond} (h : w ∈ tables_1_7) : w ∈ tables_1 := List.mem_append_right _ (List.mem_append_right _ (List.mem_append_right _ (List.mem_append_right _ (List.mem_append_right _ (List.mem_append_right _ (List.mem_append_left _ (h)))))))
theorem tm_8 {w : Cond} (h : w ∈ tables_1_8) : w ∈ tables_1 := List.mem_append_right _ (List.mem_append_right _ (List.mem_append_right _ (List.mem_append_right _ (List.mem_append_right _ (List.mem_append_right _ (List.mem_append_right _ (List.mem_append_left _ (h))))))))
theorem tm_9 {w : Cond} (h : w ∈ tables_1_9) : w ∈ tables_1 := List.mem_append_right _ (List.mem_append_right _ (List.mem_append_right _ (List.mem_append_right _ (List.mem_append_right _ (List.mem_append_right _ (List.mem_append_right _ (List.mem_append_right _ (h))))))))
theorem fm_inp {w : Cond} (i : Nat) (h : (k2_sels lw_privs)[i]? = some w) (hg : goodWord w = true) : w ∈ fmWs := List.mem_filter.mpr ⟨List.mem_append_left _ (List.mem_of_getElem? h), hg⟩
theorem ni_X10 : Cond.initialized RX10 ∈ fmWs := fm_c1 1 (by eq_refl) rfl
theorem ni_X0 : Cond.initialized RX0 ∈ fmWs := fm_c1 7 (by eq_refl) rfl
theorem ni_X1 : Cond.initialized RX1 ∈ fmWs := fm_c1 4 (by eq_refl) rfl
theorem ni_X2 : Cond.initialized RX2 ∈ fmWs := fm_c1 5 (by eq_refl) rfl
theorem ni_X3 : Cond.initialized RX3 ∈ fmWs := fm_c1 8 (by eq_refl) rfl
theorem ni_X4 : Cond.initialized RX4 ∈ fmWs := fm_c1 9 (by eq_refl) rfl
theorem ni_X5 : Cond.initialized RX5 ∈ fmWs := fm_c1 11 (by eq_refl) rfl
theorem ni_X6 : Cond.initialized RX6 ∈ fmWs := fm_c1 10 (by eq_refl) rfl
theorem ni_X7 : Cond.initialized RX7 ∈ fmWs := fm_c1 2 (by eq_refl) rfl
theorem ni_X8 : Cond.initialized RX8 ∈ fmWs := fm_c1 3 (by eq_refl) rfl
theorem ni_X9 : Cond.initialized RX9 ∈ fmWs := fm_c1 6 (by eq_refl) rfl
theorem ni_L : Cond.initialized "LifeDrawerLaw" ∈ fmWs := fm_c1 0 (by eq_refl) rfl
theorem ni_X11 : Cond.initialized RX11 ∈ fmWs := fm_c1 13 (by eq_refl) rfl
theorem ni_J6 : Cond.initialized RJ6 ∈ fmWs := fm_c1 23 (by eq_refl) rfl
theorem ni_J9 : Cond.initialized RJ9 ∈ fmWs := fm_c1 14 (by eq_refl) rfl
theorem ni_J0 : Cond.initialized RJ0 ∈ fmWs := fm_c1 19 (by eq_refl) rfl
theorem ni_J1 : Cond.initialized RJ1 ∈ fmWs := fm_c1 20 (by eq_refl) rfl
theorem ni_J2 : Cond.initialized RJ2 ∈ fmWs := fm_c1 22 (by eq_refl) rfl
theorem ni_J10 : Cond.initialized RJ10 ∈ fmWs := fm_c1 12 (by eq_refl) rfl
theorem ni_J7 : Cond.initialized RJ7 ∈ fmWs := fm_c1 25 (by eq_refl) rfl
theorem ni_J3 : Cond.initialized RJ3 ∈ fmWs := fm_c1 21 (by eq_refl) rfl
abbrev qX10_init : fmY := (yX10_init, cX10_init, 2, none)
set_option maxRecDepth 100000 in
theorem nc_X10_init : Cond.code yX10_init cX10_init 2 none ∈ fmWs := fm_c1 30 rfl rfl
theorem nm_X10_init : Cond.instanceMethod yX10_init ∈ fmWs := fm_c1 29 (by eq_refl) rfl
theorem nq_0 : RX10 ≠ "java/lang/invoke/MethodHandle" ∧ RX10 ≠ "java/lang/invoke/VarHandle" := by decide +kernel
theorem pd_0 : (parseMethodDescriptor "()V").map (fun d => d.parameters.length) = some 0 := by decide +kernel
theorem nd_X10_init : yX10_init.cls ≠ "java/lang/invoke/MethodHandle" ∧ yX10_init.cls ≠ "java/lang/invoke/VarHandle" ∧ (parseMethodDescriptor yX10_init.desc).map (fun d => d.parameters.length) = some 0 := ⟨nq_0.1, nq_0.2, pd_0⟩
abbrev qX7_init : fmY := (yX7_init, cX7_init, 1, none)
set_option maxRecDepth 100000 in
theorem nc_X7_init : Cond.code yX7_init cX7_init 1 none ∈ fmWs := fm_c1 38 rfl rfl
theorem nm_X7_init : Cond.instanceMethod yX7_init ∈ fmWs := fm_c1 37 (by eq_refl) rfl
theorem nq_1 : RX7 ≠ "java/lang/invoke/MethodHandle" ∧ RX7 ≠ "java/lang/invoke/VarHandle" := by decide +kernel
theorem nd_X7_init : yX7_init.cls ≠ "java/lang/invoke/MethodHandle" ∧ yX7_init.cls ≠ "java/lang/invoke/VarHandle" ∧ (parseMethodDescriptor yX7_init.desc).map (fun d => d.parameters.length) = some 0 := ⟨nq_1.1, nq_1.2, pd_0⟩
abbrev qX8_init : fmY := (yX8_init, cX8_init, 1, none)
set_option maxRecDepth 100000 in
theorem nc_X8_init : Cond.code yX8_init cX8_init 1 none ∈ fmWs := fm_c1 69 rfl rfl
theorem nm_X8_init : Cond.instanceMethod yX8_init ∈ fmWs := fm_c1 68 (by eq_refl) rfl
theorem nq_2 : RX8 ≠ "java/lang/invoke/MethodHandle" ∧ RX8 ≠ "java/lang/invoke/VarHandle" := by decide +kernel
theorem nd_X8_init : yX8_init.cls ≠ "java/lang/invoke/MethodHandle" ∧ yX8_init.cls ≠ "java/lang/invoke/VarHandle" ∧ (parseMethodDescriptor yX8_init.desc).map (fun d => d.parameters.length) = some 0 := ⟨nq_2.1, nq_2.2, pd_0⟩
abbrev qX8_clear : fmY := (yX8_clear, cX8_clear, 1, none)
set_option maxRecDepth 100000 in
theorem nc_X8_clear : Cond.code yX8_clear cX8_clear 1 none ∈ fmWs := fm_c1 74 rfl rfl
theorem nm_X8_clear : Cond.instanceMethod yX8_clear ∈ fmWs := fm_c1 72 (by eq_refl) rfl
theorem nl_X8_clear : Cond.selects RX8 yX8_clear yX8_clear ∈ fmWs := fm_c1 73 (by eq_refl) rfl
theorem nd_X8_clear : yX8_clear.cls ≠ "java/lang/invoke/MethodHandle" ∧ yX8_clear.cls ≠ "java/lang/invoke/VarHandle" ∧ (parseMethodDescriptor yX8_clear.desc).map (fun d => d.parameters.length) = some 0 := ⟨nq_2.1, nq_2.2, pd_0⟩
abbrev qX1_init : fmY := (yX1_init, cX1_init, 1, none)
set_option maxRecDepth 100000 in
theorem nc_X1_init : Cond.code yX1_init cX1_init 1 none ∈ fmWs := fm_c1 148 rfl rfl
theorem nm_X1_init : Cond.instanceMethod yX1_init ∈ fmWs := fm_c1 147 (by eq_refl) rfl
theorem nq_3 : RX1 ≠ "java/lang/invoke/MethodHandle" ∧ RX1 ≠ "java/lang/invoke/VarHandle" := by decide +kernel
theorem nd_X1_init : yX1_init.cls ≠ "java/lang/invoke/MethodHandle" ∧ yX1_init.cls ≠ "java/lang/invoke/VarHandle" ∧ (parseMethodDescriptor yX1_init.desc).map (fun d => d.parameters.length) = some 0 := ⟨nq_3.1, nq_3.2, pd_0⟩
abbrev qX1_clear : fmY := (yX1_clear, cX1_clear, 1, none)
set_option maxRecDepth 100000 in
theorem nc_X1_clear : Cond.code yX1_clear cX1_clear 1 none ∈ fmWs := fm_c1 153 rfl rfl
theorem nm_X1_clear : Cond.instanceMethod yX1_clear ∈ fmWs := fm_c1 151 (by eq_refl) rfl
theorem nl_X1_clear : Cond.selects RX1 yX1_clear yX1_clear ∈ fmWs := fm_c1 152 (by eq_refl) rfl
theorem nd_X1_clear : yX1_clear.cls ≠ "java/lang/invoke/MethodHandle" ∧ yX1_clear.cls ≠ "java/lang/invoke/VarHandle" ∧ (parseMethodDescriptor yX1_clear.desc).map (fun d => d.parameters.length) = some 0 := ⟨nq_3.1, nq_3.2, pd_0⟩
abbrev qX2_init : fmY := (yX2_init, cX2_init, 1, none)
set_option maxRecDepth 100000 in
theorem nc_X2_init : Cond.code yX2_init cX2_init 1 none ∈ fmWs := fm_c1 174 rfl rfl
theorem nm_X2_init : Cond.instanceMethod yX2_init ∈ fmWs := fm_c1 173 (by eq_refl) rfl
theorem nq_4 : RX2 ≠ "java/lang/invoke/MethodHandle" ∧ RX2 ≠ "java/lang/invoke/VarHandle" := by decide +kernel
theorem nd_X2_init : yX2_init.cls ≠ "java/lang/invoke/MethodHandle" ∧ yX2_init.cls ≠ "java/lang/invoke/VarHandle" ∧ (parseMethodDescriptor yX2_init.desc).map (fun d => d.parameters.length) = some 0 := ⟨nq_4.1, nq_4.2, pd_0⟩
abbrev qX9_init : fmY := (yX9_init, cX9_init, 1, none)
set_option maxRecDepth 100000 in
theorem nc_X9_init : Cond.code yX9_init cX9_init 1 none ∈ fmWs := fm_c1 191 rfl rfl
theorem nm_X9_init : Cond.instanceMethod yX9_init ∈ fmWs := fm_c1 190 (by eq_refl) rfl
theorem nq_5 : RX9 ≠ "java/lang/invoke/MethodHandle" ∧ RX9 ≠ "java/lang/invoke/VarHandle" := by decide +kernel
theorem nd_X9_init : yX9_init.cls ≠ "java/lang/invoke/MethodHandle" ∧ yX9_init.cls ≠ "java/lang/invoke/VarHandle" ∧ (parseMethodDescriptor yX9_init.desc).map (fun d => d.parameters.length) = some 0 := ⟨nq_5.1, nq_5.2, pd_0⟩
abbrev qX0_init : fmY := (yX0_init, cX0_init, 3, none)
set_option maxRecDepth 100000 in
theorem nc_X0_init : Cond.code yX0_init cX0_init 3 none ∈ fmWs := fm_c1 222 rfl rfl
theorem nm_X0_init : Cond.instanceMethod yX0_init ∈ fmWs := fm_c1 221 (by eq_refl) rfl
theorem nq_6 : RX0 ≠ "java/lang/invoke/MethodHandle" ∧ RX0 ≠ "java/lang/invoke/VarHandle" := by decide +kernel
theorem pd_1 : (parseMethodDescriptor "(LLifeDrawer$Told;LLifeDrawer$Law;)V").map (fun d => d.parameters.length) = some 2 := by decide +kernel
theorem nd_X0_init : yX0_init.cls ≠ "java/lang/invoke/MethodHandle" ∧ yX0_init.cls ≠ "java/lang/invoke/VarHandle" ∧ (parseMethodDescriptor yX0_init.desc).map (fun d => d.parameters.length) = some 2 := ⟨nq_6.1, nq_6.2, pd_1⟩
abbrev qX3_init : fmY := (yX3_init, cX3_init, 2, none)
set_option maxRecDepth 100000 in
theorem nc_X3_init : Cond.code yX3_init cX3_init 2 none ∈ fmWs := fm_c2 1 rfl rfl
theorem nm_X3_init : Cond.instanceMethod yX3_init ∈ fmWs := fm_c2 0 (by eq_refl) rfl
theorem nq_7 : RX3 ≠ "java/lang/invoke/MethodHandle" ∧ RX3 ≠ "java/lang/invoke/VarHandle" := by decide +kernel
theorem pd_2 : (parseMethodDescriptor "(LLifeDrawer$Desk;)V").map (fun d => d.parameters.length) = some 1 := by decide +kernel
theorem nd_X3_init : yX3_init.cls ≠ "java/lang/invoke/MethodHandle" ∧ yX3_init.cls ≠ "java/lang/invoke/VarHandle" ∧ (parseMethodDescriptor yX3_init.desc).map (fun d => d.parameters.length) = some 1 := ⟨nq_7.1, nq_7.2, pd_2⟩
abbrev qX4_init : fmY := (yX4_init, cX4_init, 2, none)
set_option maxRecDepth 100000 in
theorem nc_X4_init : Cond.code yX4_init cX4_init 2 none ∈ fmWs := fm_c2 29 rfl rfl
theorem nm_X4_init : Cond.instanceMethod yX4_init ∈ fmWs := fm_c2 28 (by eq_refl) rfl
theorem nq_8 : RX4 ≠ "java/lang/invoke/MethodHandle" ∧ RX4 ≠ "java/lang/invoke/VarHandle" := by decide +kernel
theorem nd_X4_init : yX4_init.cls ≠ "java/lang/invoke/MethodHandle" ∧ yX4_init.cls ≠ "java/lang/invoke/VarHandle" ∧ (parseMethodDescriptor yX4_init.desc).map (fun d => d.parameters.length) = some 1 := ⟨nq_8.1, nq_8.2, pd_2⟩
abbrev qX6_init : fmY := (yX6_init, cX6_init, 1, none)
set_option maxRecDepth 100000 in
theorem nc_X6_init : Cond.code yX6_init cX6_init 1 none ∈ fmWs := fm_c2 35 rfl rfl
theorem nm_X6_init : Cond.instanceMethod yX6_init ∈ fmWs := fm_c2 34 (by eq_refl) rfl
theorem nq_9 : RX6 ≠ "java/lang/invoke/MethodHandle" ∧ RX6 ≠ "java/lang/invoke/VarHandle" := by decide +kernel
theorem nd_X6_init : yX6_init.cls ≠ "java/lang/invoke/MethodHandle" ∧ yX6_init.cls ≠ "java/lang/invoke/VarHandle" ∧ (parseMethodDescriptor yX6_init.desc).map (fun d => d.parameters.length) = some 0 := ⟨nq_9.1, nq_9.2, pd_0⟩
abbrev qX5_init : fmY := (yX5_init, cX5_init, 2, none)
set_option maxRecDepth 100000 in
theorem nc_X5_init : Cond.code yX5_init cX5_init 2 none ∈ fmWs := fm_c2 102 rfl rfl
theorem nm_X5_init : Cond.instanceMethod yX5_init ∈ fmWs := fm_c2 101 (by eq_refl) rfl
theorem nq_10 : RX5 ≠ "java/lang/invoke/MethodHandle" ∧ RX5 ≠ "java/lang/invoke/VarHandle" := by decide +kernel
theorem nd_X5_init : yX5_init.cls ≠ "java/lang/invoke/MethodHandle" ∧ yX5_init.cls ≠ "java/lang/invoke/VarHandle" ∧ (parseMethodDescriptor yX5_init.desc).map (fun d => d.parameters.length) = some 0 := ⟨nq_10.1, nq_10.2, pd_0⟩
abbrev qX6_begin : fmY := (yX6_begin, cX6_begin, 2, none)
set_option maxRecDepth 100000 in
theorem nc_X6_begin : Cond.code yX6_begin cX6_begin 2 none ∈ fmWs := fm_c2 123 rfl rfl
theorem nm_X6_begin : Cond.instanceMethod yX6_begin ∈ fmWs := fm_c2 121 (by eq_refl) rfl
theorem nl_X6_begin : Cond.selects RX6 yX6_begin yX6_begin ∈ fmWs := fm_c2 122 (by eq_refl) rfl
theorem pd_3 : (parseMethodDescriptor "(LLifeDrawer$Told;)V").map (fun d => d.parameters.length) = some 1 := by decide +kernel
theorem nd_X6_begin : yX6_begin.cls ≠ "java/lang/invoke/MethodHandle" ∧ yX6_begin.cls ≠ "java/lang/invoke/VarHandle" ∧ (parseMethodDescriptor yX6_begin.desc).map (fun d => d.parameters.length) = some 1 := ⟨nq_9.1, nq_9.2, pd_3⟩
abbrev qX10_feed : fmY := (yX10_feed, cX10_feed, 6, (some .int))
set_option maxRecDepth 100000 in
theorem nc_X10_feed : Cond.code yX10_feed cX10_feed 6 (some .int) ∈ fmWs := fm_c2 182 rfl rfl
theorem nm_X10_feed : Cond.instanceMethod yX10_feed ∈ fmWs := fm_c2 180 (by eq_refl) rfl
theorem nl_X10_feed : Cond.selects RX10 yX10_feed yX10_feed ∈ fmWs := fm_c2 181 (by eq_refl) rfl
theorem pd_4 : (parseMethodDescriptor "(IIIII)I").map (fun d => d.parameters.length) = some 5 := by decide +kernel
theorem nd_X10_feed : yX10_feed.cls ≠ "java/lang/invoke/MethodHandle" ∧ yX10_feed.cls ≠ "java/lang/invoke/VarHandle" ∧ (parseMethodDescriptor yX10_feed.desc).map (fun d => d.parameters.length) = some 5 := ⟨nq_0.1, nq_0.2, pd_4⟩
abbrev qX7_put : fmY := (yX7_put, cX7_put, 3, none)
set_option maxRecDepth 100000 in
theorem nc_X7_put : Cond.code yX7_put cX7_put 3 none ∈ fmWs := fm_c2 186 rfl rfl
theorem nm_X7_put : Cond.instanceMethod yX7_put ∈ fmWs := fm_c2 184 (by eq_refl) rfl
theorem nl_X7_put : Cond.selects RX7 yX7_put yX7_put ∈ fmWs := fm_c2 185 (by eq_refl) rfl
theorem pd_5 : (parseMethodDescriptor "(I)V").map (fun d => d.parameters.length) = some 1 := by decide +kernel
theorem nd_X7_put : yX7_put.cls ≠ "java/lang/invoke/MethodHandle" ∧ yX7_put.cls ≠ "java/lang/invoke/VarHandle" ∧ (parseMethodDescriptor yX7_put.desc).map (fun d => d.parameters.length) = some 1 := ⟨nq_1.1, nq_1.2, pd_5⟩
abbrev qX10_fault : fmY := (yX10_fault, cX10_fault, 1, (some .int))
set_option maxRecDepth 100000 in
theorem nc_X10_fault : Cond.code yX10_fault cX10_fault 1 (some .int) ∈ fmWs := fm_c2 190 rfl rfl
theorem nm_X10_fault : Cond.instanceMethod yX10_fault ∈ fmWs := fm_c2 188 (by eq_refl) rfl
theorem nl_X10_fault : Cond.selects RX10 yX10_fault yX10_fault ∈ fmWs := fm_c2 189 (by eq_refl) rfl
theorem pd_6 : (parseMethodDescriptor "()I").map (fun d => d.parameters.length) = some 0 := by decide +kernel
theorem nd_X10_fault : yX10_fault.cls ≠ "java/lang/invoke/MethodHandle" ∧ yX10_fault.cls ≠ "java/lang/invoke/VarHandle" ∧ (parseMethodDescriptor yX10_fault.desc).map (fun d => d.parameters.length) = some 0 := ⟨nq_0.1, nq_0.2, pd_6⟩
abbrev qX10_undo : fmY := (yX10_undo, cX10_undo, 1, (some .int))
set_option maxRecDepth 100000 in
theorem nc_X10_undo : Cond.code yX10_undo cX10_undo 1 (some .int) ∈ fmWs := fm_c2 194 rfl rfl
theorem nm_X10_undo : Cond.instanceMethod yX10_undo ∈ fmWs := fm_c2 192 (by eq_refl) rfl
theorem nl_X10_undo : Cond.selects RX10 yX10_undo yX10_undo ∈ fmWs := fm_c2 193 (by eq_refl) rfl
theorem nd_X10_undo : yX10_undo.cls ≠ "java/lang/invoke/MethodHandle" ∧ yX10_undo.cls ≠ "java/lang/invoke/VarHandle" ∧ (parseMethodDescriptor yX10_undo.desc).map (fun d => d.parameters.length) = some 0 := ⟨nq_0.1, nq_0.2, pd_6⟩
abbrev qX5_goBack : fmY := (yX5_goBack, cX5_goBack, 1, none)
set_option maxRecDepth 100000 in
theorem nc_X5_goBack : Cond.code yX5_goBack cX5_goBack 1 none ∈ fmWs := fm_c2 198 rfl rfl
theorem nm_X5_goBack : Cond.instanceMethod yX5_goBack ∈ fmWs := fm_c2 196 (by eq_refl) rfl
theorem nl_X5_goBack : Cond.selects RX5 yX5_goBack yX5_goBack ∈ fmWs := fm_c2 197 (by eq_refl) rfl
theorem nd_X5_goBack : yX5_goBack.cls ≠ "java/lang/invoke/MethodHandle" ∧ yX5_goBack.cls ≠ "java/lang/invoke/VarHandle" ∧ (parseMethodDescriptor yX5_goBack.desc).map (fun d => d.parameters.length) = some 0 := ⟨nq_10.1, nq_10.2, pd_0⟩
abbrev qX6_copyFrom : fmY := (yX6_copyFrom, cX6_copyFrom, 2, none)
set_option maxRecDepth 100000 in
theorem nc_X6_copyFrom : Cond.code yX6_copyFrom cX6_copyFrom 2 none ∈ fmWs := fm_c2 202 rfl rfl
theorem nm_X6_copyFrom : Cond.instanceMethod yX6_copyFrom ∈ fmWs := fm_c2 200 (by eq_refl) rfl
theorem nl_X6_copyFrom : Cond.selects RX6 yX6_copyFrom yX6_copyFrom ∈ fmWs := fm_c2 201 (by eq_refl) rfl
theorem pd_7 : (parseMethodDescriptor "(LLifeDrawer$State;)V").map (fun d => d.parameters.length) = some 1 := by decide +kernel
theorem nd_X6_copyFrom : yX6_copyFrom.cls ≠ "java/lang/invoke/MethodHandle" ∧ yX6_copyFrom.cls ≠ "java/lang/invoke/VarHandle" ∧ (parseMethodDescriptor yX6_copyFrom.desc).map (fun d => d.parameters.length) = some 1 := ⟨nq_9.1, nq_9.2, pd_7⟩
abbrev qX3_forget : fmY := (yX3_forget, cX3_forget, 1, none)
set_option maxRecDepth 100000 in
theorem nc_X3_forget : Cond.code yX3_forget cX3_forget 1 none ∈ fmWs := fm_c2 206 rfl rfl
theorem nm_X3_forget : Cond.instanceMethod yX3_forget ∈ fmWs := fm_c2 204 (by eq_refl) rfl
theorem nl_X3_forget : Cond.selects RX3 yX3_forget yX3_forget ∈ fmWs := fm_c2 205 (by eq_refl) rfl
theorem nd_X3_forget : yX3_forget.cls ≠ "java/lang/invoke/MethodHandle" ∧ yX3_forget.cls ≠ "java/lang/invoke/VarHandle" ∧ (parseMethodDescriptor yX3_forget.desc).map (fun d => d.parameters.length) = some 0 := ⟨nq_7.1, nq_7.2, pd_0⟩
abbrev qX10_lacking : fmY := (yX10_lacking, cX10_lacking, 3, (some .int))
set_option maxRecDepth 100000 in
theorem nc_X10_lacking : Cond.code yX10_lacking cX10_lacking 3 (some .int) ∈ fmWs := fm_c2 210 rfl rfl
theorem nm_X10_lacking : Cond.instanceMethod yX10_lacking ∈ fmWs := fm_c2 208 (by eq_refl) rfl
theorem nl_X10_lacking : Cond.selects RX10 yX10_lacking yX10_lacking ∈ fmWs := fm_c2 209 (by eq_refl) rfl
theorem nd_X10_lacking : yX10_lacking.cls ≠ "java/lang/invoke/MethodHandle" ∧ yX10_lacking.cls ≠ "java/lang/invoke/VarHandle" ∧ (parseMethodDescriptor yX10_lacking.desc).map (fun d => d.parameters.length) = some 0 := ⟨nq_0.1, nq_0.2, pd_6⟩
abbrev qX6_isAlive : fmY := (yX6_isAlive, cX6_isAlive, 2, (some .boolean))
set_option maxRecDepth 100000 in
theorem nc_X6_isAlive : Cond.code yX6_isAlive cX6_isAlive 2 (some .boolean) ∈ fmWs := fm_c2 214 rfl rfl
theorem nm_X6_isAlive : Cond.instanceMethod yX6_isAlive ∈ fmWs := fm_c2 212 (by eq_refl) rfl
theorem nl_X6_isAlive : Cond.selects RX6 yX6_isAlive yX6_isAlive ∈ fmWs := fm_c2 213 (by eq_refl) rfl
theorem pd_8 : (parseMethodDescriptor "(I)Z").map (fun d => d.parameters.length) = some 1 := by decide +kernel
theorem nd_X6_isAlive : yX6_isAlive.cls ≠ "java/lang/invoke/MethodHandle" ∧ yX6_isAlive.cls ≠ "java/lang/invoke/VarHandle" ∧ (parseMethodDescriptor yX6_isAlive.desc).map (fun d => d.parameters.length) = some 1 := ⟨nq_9.1, nq_9.2, pd_8⟩
abbrev qX10_signed : fmY := (yX10_signed, cX10_signed, 3, (some .int))
set_option maxRecDepth 100000 in
theorem nc_X10_signed : Cond.code yX10_signed cX10_signed 3 (some .int) ∈ fmWs := fm_c2 218 rfl rfl
theorem nm_X10_signed : Cond.instanceMethod yX10_signed ∈ fmWs := fm_c2 216 (by eq_refl) rfl
theorem nl_X10_signed : Cond.selects RX10 yX10_signed yX10_signed ∈ fmWs := fm_c2 217 (by eq_refl) rfl
theorem nd_X10_signed : yX10_signed.cls ≠ "java/lang/invoke/MethodHandle" ∧ yX10_signed.cls ≠ "java/lang/invoke/VarHandle" ∧ (parseMethodDescriptor yX10_signed.desc).map (fun d => d.parameters.length) = some 0 := ⟨nq_0.1, nq_0.2, pd_6⟩
abbrev qX0_signerDead : fmY := (yX0_signerDead, cX0_signerDead, 4, (some .int))
set_option maxRecDepth 100000 in
theorem nc_X0_signerDead : Cond.code yX0_signerDead cX0_signerDead 4 (some .int) ∈ fmWs := fm_c2 222 rfl rfl
theorem nm_X0_signerDead : Cond.instanceMethod yX0_signerDead ∈ fmWs := fm_c2 220 (by eq_refl) rfl
theorem nl_X0_signerDead : Cond.selects RX0 yX0_signerDead yX0_signerDead ∈ fmWs := fm_c2 221 (by eq_refl) rfl
theorem pd_9 : (parseMethodDescriptor "(LLifeDrawer$State;I)I").map (fun d => d.parameters.length) = some 2 := by decide +kernel
theorem nd_X0_signerDead : yX0_signerDead.cls ≠ "java/lang/invoke/MethodHandle" ∧ yX0_signerDead.cls ≠ "java/lang/invoke/VarHandle" ∧ (parseMethodDescriptor yX0_signerDead.desc).map (fun d => d.parameters.length) = some 2 := ⟨nq_6.1, nq_6.2, pd_9⟩
abbrev qX10_oldest : fmY := (yX10_oldest, cX10_oldest, 4, (some .int))
set_option maxRecDepth 100000 in
theorem nc_X10_oldest : Cond.code yX10_oldest cX10_oldest 4 (some .int) ∈ fmWs := fm_c2 227 rfl rfl
theorem nm_X10_oldest : Cond.instanceMethod yX10_oldest ∈ fmWs := fm_c2 225 (by eq_refl) rfl
theorem nl_X10_oldest : Cond.selects RX10 yX10_oldest yX10_oldest ∈ fmWs := fm_c2 226 (by eq_refl) rfl
theorem nd_X10_oldest : yX10_oldest.cls ≠ "java/lang/invoke/MethodHandle" ∧ yX10_oldest.cls ≠ "java/lang/invoke/VarHandle" ∧ (parseMethodDescriptor yX10_oldest.desc).map (fun d => d.parameters.length) = some 0 := ⟨nq_0.1, nq_0.2, pd_6⟩
abbrev qX10_first : fmY := (yX10_first, cX10_first, 1, (some .int))
set_option maxRecDepth 100000 in
theorem nc_X10_first : Cond.code yX10_first cX10_first 1 (some .int) ∈ fmWs := fm_c2 231 rfl rfl
theorem nm_X10_first : Cond.instanceMethod yX10_first ∈ fmWs := fm_c2 229 (by eq_refl) rfl
theorem nl_X10_first : Cond.selects RX10 yX10_first yX10_first ∈ fmWs := fm_c2 230 (by eq_refl) rfl
theorem nd_X10_first : yX10_first.cls ≠ "java/lang/invoke/MethodHandle" ∧ yX10_first.cls ≠ "java/lang/invoke/VarHandle" ∧ (parseMethodDescriptor yX10_first.desc).map (fun d => d.parameters.length) = some 0 := ⟨nq_0.1, nq_0.2, pd_6⟩
abbrev qX0_firstOfAll : fmY := (yX0_firstOfAll, cX0_firstOfAll, 3, (some .int))
set_option maxRecDepth 100000 in
theorem nc_X0_firstOfAll : Cond.code yX0_firstOfAll cX0_firstOfAll 3 (some .int) ∈ fmWs := fm_c2 235 rfl rfl
theorem nm_X0_firstOfAll : Cond.instanceMethod yX0_firstOfAll ∈ fmWs := fm_c2 233 (by eq_refl) rfl
theorem nl_X0_firstOfAll : Cond.selects RX0 yX0_firstOfAll yX0_firstOfAll ∈ fmWs := fm_c2 234 (by eq_refl) rfl
theorem pd_10 : (parseMethodDescriptor "(LLifeDrawer$State;)I").map (fun d => d.parameters.length) = some 1 := by decide +kernel
theorem nd_X0_firstOfAll : yX0_firstOfAll.cls ≠ "java/lang/invoke/MethodHandle" ∧ yX0_firstOfAll.cls ≠ "java/lang/invoke/VarHandle" ∧ (parseMethodDescriptor yX0_firstOfAll.desc).map (fun d => d.parameters.length) = some 1 := ⟨nq_6.1, nq_6.2, pd_10⟩
abbrev qX0_savedRisk : fmY := (yX0_savedRisk, cX0_savedRisk, 5, (some .long))
set_option maxRecDepth 100000 in
theorem nc_X0_savedRisk : Cond.code yX0_savedRisk cX0_savedRisk 5 (some .long) ∈ fmWs := fm_c2 239 rfl rfl
theorem nm_X0_savedRisk : Cond.instanceMethod yX0_savedRisk ∈ fmWs := fm_c2 237 (by eq_refl) rfl
theorem nl_X0_savedRisk : Cond.selects RX0 yX0_savedRisk yX0_savedRisk ∈ fmWs := fm_c2 238 (by eq_refl) rfl
theorem pd_11 : (parseMethodDescriptor "(LLifeDrawer$State;I)J").map (fun d => d.parameters.length) = some 2 := by decide +kernel
theorem nd_X0_savedRisk : yX0_savedRisk.cls ≠ "java/lang/invoke/MethodHandle" ∧ yX0_savedRisk.cls ≠ "java/lang/invoke/VarHandle" ∧ (parseMethodDescriptor yX0_savedRisk.desc).map (fun d => d.parameters.length) = some 2 := ⟨nq_6.1, nq_6.2, pd_11⟩
abbrev qX0_canBePut : fmY := (yX0_canBePut, cX0_canBePut, 3, (some .boolean))
set_option maxRecDepth 100000 in
theorem nc_X0_canBePut : Cond.code yX0_canBePut cX0_canBePut 3 (some .boolean) ∈ fmWs := fm_c3 3 rfl rfl
theorem nm_X0_canBePut : Cond.instanceMethod yX0_canBePut ∈ fmWs := fm_c3 1 (by eq_refl) rfl
theorem nl_X0_canBePut : Cond.selects RX0 yX0_canBePut yX0_canBePut ∈ fmWs := fm_c3 2 (by eq_refl) rfl
theorem pd_12 : (parseMethodDescriptor "(LLifeDrawer$State;I)Z").map (fun d => d.parameters.length) = some 2 := by decide +kernel
theorem nd_X0_canBePut : yX0_canBePut.cls ≠ "java/lang/invoke/MethodHandle" ∧ yX0_canBePut.cls ≠ "java/lang/invoke/VarHandle" ∧ (parseMethodDescriptor yX0_canBePut.desc).map (fun d => d.parameters.length) = some 2 := ⟨nq_6.1, nq_6.2, pd_12⟩
abbrev qX0_costWhen : fmY := (yX0_costWhen, cX0_costWhen, 5, (some .long))
set_option maxRecDepth 100000 in
theorem nc_X0_costWhen : Cond.code yX0_costWhen cX0_costWhen 5 (some .long) ∈ fmWs := fm_c3 7 rfl rfl
theorem nm_X0_costWhen : Cond.instanceMethod yX0_costWhen ∈ fmWs := fm_c3 5 (by eq_refl) rfl
theorem nl_X0_costWhen : Cond.selects RX0 yX0_costWhen yX0_costWhen ∈ fmWs := fm_c3 6 (by eq_refl) rfl
theorem pd_13 : (parseMethodDescriptor "(LLifeDrawer$State;III)J").map (fun d => d.parameters.length) = some 4 := by decide +kernel
theorem nd_X0_costWhen : yX0_costWhen.cls ≠ "java/lang/invoke/MethodHandle" ∧ yX0_costWhen.cls ≠ "java/lang/invoke/VarHandle" ∧ (parseMethodDescriptor yX0_costWhen.desc).map (fun d => d.parameters.length) = some 4 := ⟨nq_6.1, nq_6.2, pd_13⟩
abbrev qX0_wrongWhen : fmY := (yX0_wrongWhen, cX0_wrongWhen, 7, (some .int))
set_option maxRecDepth 100000 in
theorem nc_X0_wrongWhen : Cond.code yX0_wrongWhen cX0_wrongWhen 7 (some .int) ∈ fmWs := fm_c3 12 rfl rfl
theorem nm_X0_wrongWhen : Cond.instanceMethod yX0_wrongWhen ∈ fmWs := fm_c3 10 (by eq_refl) rfl
theorem nl_X0_wrongWhen : Cond.selects RX0 yX0_wrongWhen yX0_wrongWhen ∈ fmWs := fm_c3 11 (by eq_refl) rfl
theorem pd_14 : (parseMethodDescriptor "(LLifeDrawer$State;III)I").map (fun d => d.parameters.length) = some 4 := by decide +kernel
theorem nd_X0_wrongWhen : yX0_wrongWhen.cls ≠ "java/lang/invoke/MethodHandle" ∧ yX0_wrongWhen.cls ≠ "java/lang/invoke/VarHandle" ∧ (parseMethodDescriptor yX0_wrongWhen.desc).map (fun d => d.parameters.length) = some 4 := ⟨nq_6.1, nq_6.2, pd_14⟩
abbrev qX8_changesBetween : fmY := (yX8_changesBetween, cX8_changesBetween, 6, (some .int))
set_option maxRecDepth 100000 in
theorem nc_X8_changesBetween : Cond.code yX8_changesBetween cX8_changesBetween 6 (some .int) ∈ fmWs := fm_c3 16 rfl rfl
theorem nm_X8_changesBetween : Cond.instanceMethod yX8_changesBetween ∈ fmWs := fm_c3 14 (by eq_refl) rfl
theorem nl_X8_changesBetween : Cond.selects RX8 yX8_changesBetween yX8_changesBetween ∈ fmWs := fm_c3 15 (by eq_refl) rfl
theorem pd_15 : (parseMethodDescriptor "(III)I").map (fun d => d.parameters.length) = some 3 := by decide +kernel
theorem nd_X8_changesBetween : yX8_changesBetween.cls ≠ "java/lang/invoke/MethodHandle" ∧ yX8_changesBetween.cls ≠ "java/lang/invoke/VarHandle" ∧ (parseMethodDescriptor yX8_changesBetween.desc).map (fun d => d.parameters.length) = some 3 := ⟨nq_2.1, nq_2.2, pd_15⟩
abbrev qX0_yearsWhen : fmY := (yX0_yearsWhen, cX0_yearsWhen, 4, (some .int))
set_option maxRecDepth 100000 in
theorem nc_X0_yearsWhen : Cond.code yX0_yearsWhen cX0_yearsWhen 4 (some .int) ∈ fmWs := fm_c3 20 rfl rfl
theorem nm_X0_yearsWhen : Cond.instanceMethod yX0_yearsWhen ∈ fmWs := fm_c3 18 (by eq_refl) rfl
theorem nl_X0_yearsWhen : Cond.selects RX0 yX0_yearsWhen yX0_yearsWhen ∈ fmWs := fm_c3 19 (by eq_refl) rfl
theorem pd_16 : (parseMethodDescriptor "(LLifeDrawer$State;II)I").map (fun d => d.parameters.length) = some 3 := by decide +kernel
theorem nd_X0_yearsWhen : yX0_yearsWhen.cls ≠ "java/lang/invoke/MethodHandle" ∧ yX0_yearsWhen.cls ≠ "java/lang/invoke/VarHandle" ∧ (parseMethodDescriptor yX0_yearsWhen.desc).map (fun d => d.parameters.length) = some 3 := ⟨nq_6.1, nq_6.2, pd_16⟩
abbrev qX1_outcome : fmY := (yX1_outcome, cX1_outcome, 9, (some .int))
set_option maxRecDepth 100000 in
theorem nc_X1_outcome : Cond.code yX1_outcome cX1_outcome 9 (some .int) ∈ fmWs := fm_c3 25 rfl rfl
theorem nm_X1_outcome : Cond.instanceMethod yX1_outcome ∈ fmWs := fm_c3 23 (by eq_refl) rfl
theorem nl_X1_outcome : Cond.selects RX1 yX1_outcome yX1_outcome ∈ fmWs := fm_c3 24 (by eq_refl) rfl
theorem nd_X1_outcome : yX1_outcome.cls ≠ "java/lang/invoke/MethodHandle" ∧ yX1_outcome.cls ≠ "java/lang/invoke/VarHandle" ∧ (parseMethodDescriptor yX1_outcome.desc).map (fun d => d.parameters.length) = some 5 := ⟨nq_3.1, nq_3.2, pd_4⟩
abbrev qX1_joined : fmY := (yX1_joined, cX1_joined, 3, (some .int))
set_option maxRecDepth 100000 in
theorem nc_X1_joined : Cond.code yX1_joined cX1_joined 3 (some .int) ∈ fmWs := fm_c3 28 rfl rfl
theorem ns_X1_joined : Cond.static yX1_joined ∈ fmWs := fm_c3 27 (by eq_refl) rfl
theorem nd_X1_joined : yX1_joined.cls ≠ "java/lang/invoke/MethodHandle" ∧ yX1_joined.cls ≠ "java/lang/invoke/VarHandle" ∧ (parseMethodDescriptor yX1_joined.desc).map (fun d => d.parameters.length) = some 3 := ⟨nq_3.1, nq_3.2, pd_15⟩
abbrev qJ9_min_7cf53 : fmY := (yJ9_min_7cf53, cJ9_min_7cf53, 2, (some .int))
set_option maxRecDepth 100000 in
theorem nc_J9_min_7cf53 : Cond.code yJ9_min_7cf53 cJ9_min_7cf53 2 (some .int) ∈ fmWs := fm_c3 31 rfl rfl
theorem ns_J9_min_7cf53 : Cond.static yJ9_min_7cf53 ∈ fmWs := fm_c3 30 (by eq_refl) rfl
theorem nq_11 : RJ9 ≠ "java/lang/invoke/MethodHandle" ∧ RJ9 ≠ "java/lang/invoke/VarHandle" := by decide +kernel
theorem pd_17 : (parseMethodDescriptor "(II)I").map (fun d => d.parameters.length) = some 2 := by decide +kernel
theorem nd_J9_min_7cf53 : yJ9_min_7cf53.cls ≠ "java/lang/invoke/MethodHandle" ∧ yJ9_min_7cf53.cls ≠ "java/lang/invoke/VarHandle" ∧ (parseMethodDescriptor yJ9_min_7cf53.desc).map (fun d => d.parameters.length) = some 2 := ⟨nq_11.1, nq_11.2, pd_17⟩
abbrev qJ9_max_7cf53 : fmY := (yJ9_max_7cf53, cJ9_max_7cf53, 2, (some .int))
set_option maxRecDepth 100000 in
theorem nc_J9_max_7cf53 : Cond.code yJ9_max_7cf53 cJ9_max_7cf53 2 (some .int) ∈ fmWs := fm_c3 34 rfl rfl
theorem ns_J9_max_7cf53 : Cond.static yJ9_max_7cf53 ∈ fmWs := fm_c3 33 (by eq_refl) rfl
theorem nd_J9_max_7cf53 : yJ9_max_7cf53.cls ≠ "java/lang/invoke/MethodHandle" ∧ yJ9_max_7cf53.cls ≠ "java/lang/invoke/VarHandle" ∧ (parseMethodDescriptor yJ9_max_7cf53.desc).map (fun d => d.parameters.length) = some 2 := ⟨nq_11.1, nq_11.2, pd_17⟩
abbrev qJ9_max_f86c9 : fmY := (yJ9_max_f86c9, cJ9_max_f86c9, 4, (some .long))
set_option maxRecDepth 100000 in
theorem nc_J9_max_f86c9 : Cond.code yJ9_max_f86c9 cJ9_max_f86c9 4 (some .long) ∈ fmWs := fm_c3 37 rfl rfl
theorem ns_J9_max_f86c9 : Cond.static yJ9_max_f86c9 ∈ fmWs := fm_c3 36 (by eq_refl) rfl
theorem pd_18 : (parseMethodDescriptor "(JJ)J").map (fun d => d.parameters.length) = some 2 := by decide +kernel
theorem nd_J9_max_f86c9 : yJ9_max_f86c9.cls ≠ "java/lang/invoke/MethodHandle" ∧ yJ9_max_f86c9.cls ≠ "java/lang/invoke/VarHandle" ∧ (parseMethodDescriptor yJ9_max_f86c9.desc).map (fun d => d.parameters.length) = some 2 := ⟨nq_11.1, nq_11.2, pd_18⟩
abbrev qX0_firstOf : fmY := (yX0_firstOf, cX0_firstOf, 10, (some .int))
set_option maxRecDepth 100000 in
theorem nc_X0_firstOf : Cond.code yX0_firstOf cX0_firstOf 10 (some .int) ∈ fmWs := fm_c3 41 rfl rfl
theorem nm_X0_firstOf : Cond.instanceMethod yX0_firstOf ∈ fmWs := fm_c3 39 (by eq_refl) rfl
theorem nl_X0_firstOf : Cond.selects RX0 yX0_firstOf yX0_firstOf ∈ fmWs := fm_c3 40 (by eq_refl) rfl
theorem pd_19 : (parseMethodDescriptor "(LLifeDrawer$State;[JI)I").map (fun d => d.parameters.length) = some 3 := by decide +kernel
theorem nd_X0_firstOf : yX0_firstOf.cls ≠ "java/lang/invoke/MethodHandle" ∧ yX0_firstOf.cls ≠ "java/lang/invoke/VarHandle" ∧ (parseMethodDescriptor yX0_firstOf.desc).map (fun d => d.parameters.length) = some 3 := ⟨nq_6.1, nq_6.2, pd_19⟩
abbrev qX0_hoursFor : fmY := (yX0_hoursFor, cX0_hoursFor, 3, (some .int))
set_option maxRecDepth 100000 in
theorem nc_X0_hoursFor : Cond.code yX0_hoursFor cX0_hoursFor 3 (some .int) ∈ fmWs := fm_c3 45 rfl rfl
theorem nm_X0_hoursFor : Cond.instanceMethod yX0_hoursFor ∈ fmWs := fm_c3 43 (by eq_refl) rfl
theorem nl_X0_hoursFor : Cond.selects RX0 yX0_hoursFor yX0_hoursFor ∈ fmWs := fm_c3 44 (by eq_refl) rfl
theorem nd_X0_hoursFor : yX0_hoursFor.cls ≠ "java/lang/invoke/MethodHandle" ∧ yX0_hoursFor.cls ≠ "java/lang/invoke/VarHandle" ∧ (parseMethodDescriptor yX0_hoursFor.desc).map (fun d => d.parameters.length) = some 2 := ⟨nq_6.1, nq_6.2, pd_9⟩
abbrev qX8_renewHours : fmY := (yX8_renewHours, cX8_renewHours, 3, (some .int))
set_option maxRecDepth 100000 in
theorem nc_X8_renewHours : Cond.code yX8_renewHours cX8_renewHours 3 (some .int) ∈ fmWs := fm_c3 49 rfl rfl
theorem nm_X8_renewHours : Cond.instanceMethod yX8_renewHours ∈ fmWs := fm_c3 47 (by eq_refl) rfl
theorem nl_X8_renewHours : Cond.selects RX8 yX8_renewHours yX8_renewHours ∈ fmWs := fm_c3 48 (by eq_refl) rfl
theorem pd_20 : (parseMethodDescriptor "(I)I").map (fun d => d.parameters.length) = some 1 := by decide +kernel
theorem nd_X8_renewHours : yX8_renewHours.cls ≠ "java/lang/invoke/MethodHandle" ∧ yX8_renewHours.cls ≠ "java/lang/invoke/VarHandle" ∧ (parseMethodDescriptor yX8_renewHours.desc).map (fun d => d.parameters.length) = some 1 := ⟨nq_2.1, nq_2.2, pd_20⟩
abbrev qX10_worst : fmY := (yX10_worst, cX10_worst, 7, (some .int))
set_option maxRecDepth 100000 in
theorem nc_X10_worst : Cond.code yX10_worst cX10_worst 7 (some .int) ∈ fmWs := fm_c3 54 rfl rfl
theorem nm_X10_worst : Cond.instanceMethod yX10_worst ∈ fmWs := fm_c3 52 (by eq_refl) rfl
theorem nl_X10_worst : Cond.selects RX10 yX10_worst yX10_worst ∈ fmWs := fm_c3 53 (by eq_refl) rfl
theorem nd_X10_worst : yX10_worst.cls ≠ "java/lang/invoke/MethodHandle" ∧ yX10_worst.cls ≠ "java/lang/invoke/VarHandle" ∧ (parseMethodDescriptor yX10_worst.desc).map (fun d => d.parameters.length) = some 0 := ⟨nq_0.1, nq_0.2, pd_6⟩
abbrev qX10_aheadMost : fmY := (yX10_aheadMost, cX10_aheadMost, 1, (some .int))
set_option maxRecDepth 100000 in
theorem nc_X10_aheadMost : Cond.code yX10_aheadMost cX10_aheadMost 1 (some .int) ∈ fmWs := fm_c3 59 rfl rfl
theorem nm_X10_aheadMost : Cond.instanceMethod yX10_aheadMost ∈ fmWs := fm_c3 58 (by eq_refl) rfl
theorem nl_X10_aheadMost : Cond.selects RX10 yX10_aheadMost yX10_aheadMost ∈ fmWs := fm_inp 0 (by eq_refl) rfl
theorem nd_X10_aheadMost : yX10_aheadMost.cls ≠ "java/lang/invoke/MethodHandle" ∧ yX10_aheadMost.cls ≠ "java/lang/invoke/VarHandle" ∧ (parseMethodDescriptor yX10_aheadMost.desc).map (fun d => d.parameters.length) = some 0 := ⟨nq_0.1, nq_0.2, pd_6⟩
abbrev qX0_riskWhen : fmY := (yX0_riskWhen, cX0_riskWhen, 8, (some .long))
set_option maxRecDepth 100000 in
theorem nc_X0_riskWhen : Cond.code yX0_riskWhen cX0_riskWhen 8 (some .long) ∈ fmWs := fm_c3 64 rfl rfl
theorem nm_X0_riskWhen : Cond.instanceMethod yX0_riskWhen ∈ fmWs := fm_c3 62 (by eq_refl) rfl
theorem nl_X0_riskWhen : Cond.selects RX0 yX0_riskWhen yX0_riskWhen ∈ fmWs := fm_c3 63 (by eq_refl) rfl
theorem nd_X0_riskWhen : yX0_riskWhen.cls ≠ "java/lang/invoke/MethodHandle" ∧ yX0_riskWhen.cls ≠ "java/lang/invoke/VarHandle" ∧ (parseMethodDescriptor yX0_riskWhen.desc).map (fun d => d.parameters.length) = some 2 := ⟨nq_6.1, nq_6.2, pd_11⟩
abbrev qX10_twins : fmY := (yX10_twins, cX10_twins, 3, (some .int))
set_option maxRecDepth 100000 in
theorem nc_X10_twins : Cond.code yX10_twins cX10_twins 3 (some .int) ∈ fmWs := fm_c3 68 rfl rfl
theorem nm_X10_twins : Cond.instanceMethod yX10_twins ∈ fmWs := fm_c3 66 (by eq_refl) rfl
theorem nl_X10_twins : Cond.selects RX10 yX10_twins yX10_twins ∈ fmWs := fm_c3 67 (by eq_refl) rfl
theorem nd_X10_twins : yX10_twins.cls ≠ "java/lang/invoke/MethodHandle" ∧ yX10_twins.cls ≠ "java/lang/invoke/VarHandle" ∧ (parseMethodDescriptor yX10_twins.desc).map (fun d => d.parameters.length) = some 0 := ⟨nq_0.1, nq_0.2, pd_6⟩
abbrev qX10_look : fmY := (yX10_look, cX10_look, 2, none)
set_option maxRecDepth 100000 in
theorem nc_X10_look : Cond.code yX10_look cX10_look 2 none ∈ fmWs := fm_c3 72 rfl rfl
theorem nm_X10_look : Cond.instanceMethod yX10_look ∈ fmWs := fm_c3 71 (by eq_refl) rfl
theorem nl_X10_look : Cond.selects RX10 yX10_look yX10_look ∈ fmWs := fm_inp 1 (by eq_refl) rfl
theorem nd_X10_look : yX10_look.cls ≠ "java/lang/invoke/MethodHandle" ∧ yX10_look.cls ≠ "java/lang/invoke/VarHandle" ∧ (parseMethodDescriptor yX10_look.desc).map (fun d => d.parameters.length) = some 0 := ⟨nq_0.1, nq_0.2, pd_0⟩
abbrev qX8_factBits : fmY := (yX8_factBits, cX8_factBits, 5, (some .int))
set_option maxRecDepth 100000 in
theorem nc_X8_factBits : Cond.code yX8_factBits cX8_factBits 5 (some .int) ∈ fmWs := fm_c3 76 rfl rfl
theorem nm_X8_factBits : Cond.instanceMethod yX8_factBits ∈ fmWs := fm_c3 74 (by eq_refl) rfl
theorem nl_X8_factBits : Cond.selects RX8 yX8_factBits yX8_factBits ∈ fmWs := fm_c3 75 (by eq_refl) rfl
theorem nd_X8_factBits : yX8_factBits.cls ≠ "java/lang/invoke/MethodHandle" ∧ yX8_factBits.cls ≠ "java/lang/invoke/VarHandle" ∧ (parseMethodDescriptor yX8_factBits.desc).map (fun d => d.parameters.length) = some 2 := ⟨nq_2.1, nq_2.2, pd_17⟩
abbrev qX10_whose : fmY := (yX10_whose, cX10_whose, 3, (some .int))
set_option maxRecDepth 100000 in
theorem nc_X10_whose : Cond.code yX10_whose cX10_whose 3 (some .int) ∈ fmWs := fm_c3 80 rfl rfl
theorem nm_X10_whose : Cond.instanceMethod yX10_whose ∈ fmWs := fm_c3 78 (by eq_refl) rfl
theorem nl_X10_whose : Cond.selects RX10 yX10_whose yX10_whose ∈ fmWs := fm_c3 79 (by eq_refl) rfl
theorem nd_X10_whose : yX10_whose.cls ≠ "java/lang/invoke/MethodHandle" ∧ yX10_whose.cls ≠ "java/lang/invoke/VarHandle" ∧ (parseMethodDescriptor yX10_whose.desc).map (fun d => d.parameters.length) = some 0 := ⟨nq_0.1, nq_0.2, pd_6⟩
abbrev qX10_weeksAsPage : fmY := (yX10_weeksAsPage, cX10_weeksAsPage, 5, (some .long))
set_option maxRecDepth 100000 in
theorem nc_X10_weeksAsPage : Cond.code yX10_weeksAsPage cX10_weeksAsPage 5 (some .long) ∈ fmWs := fm_c3 84 rfl rfl
theorem nm_X10_weeksAsPage : Cond.instanceMethod yX10_weeksAsPage ∈ fmWs := fm_c3 83 (by eq_refl) rfl
theorem nl_X10_weeksAsPage : Cond.selects RX10 yX10_weeksAsPage yX10_weeksAsPage ∈ fmWs := fm_inp 2 (by eq_refl) rfl
theorem pd_21 : (parseMethodDescriptor "(I)J").map (fun d => d.parameters.length) = some 1 := by decide +kernel
theorem nd_X10_weeksAsPage : yX10_weeksAsPage.cls ≠ "java/lang/invoke/MethodHandle" ∧ yX10_weeksAsPage.cls ≠ "java/lang/invoke/VarHandle" ∧ (parseMethodDescriptor yX10_weeksAsPage.desc).map (fun d => d.parameters.length) = some 1 := ⟨nq_0.1, nq_0.2, pd_21⟩
abbrev qX2_fits : fmY := (yX2_fits, cX2_fits, 2, (some .boolean))
set_option maxRecDepth 100000 in
theorem nc_X2_fits : Cond.code yX2_fits cX2_fits 2 (some .boolean) ∈ fmWs := fm_c3 88 rfl rfl
theorem nm_X2_fits : Cond.instanceMethod yX2_fits ∈ fmWs := fm_c3 86 (by eq_refl) rfl
theorem nl_X2_fits : Cond.selects RX2 yX2_fits yX2_fits ∈ fmWs := fm_c3 87 (by eq_refl) rfl
theorem nd_X2_fits : yX2_fits.cls ≠ "java/lang/invoke/MethodHandle" ∧ yX2_fits.cls ≠ "java/lang/invoke/VarHandle" ∧ (parseMethodDescriptor yX2_fits.desc).map (fun d => d.parameters.length) = some 1 := ⟨nq_4.1, nq_4.2, pd_8⟩
abbrev qX10_image : fmY := (yX10_image, cX10_image, 1, (some .int))
set_option maxRecDepth 100000 in
theorem nc_X10_image : Cond.code yX10_image cX10_image 1 (some .int) ∈ fmWs := fm_c3 92 rfl rfl
theorem nm_X10_image : Cond.instanceMethod yX10_image ∈ fmWs := fm_c3 90 (by eq_refl) rfl
theorem nl_X10_image : Cond.selects RX10 yX10_image yX10_image ∈ fmWs := fm_c3 91 (by eq_refl) rfl
theorem nd_X10_image : yX10_image.cls ≠ "java/lang/invoke/MethodHandle" ∧ yX10_image.cls ≠ "java/lang/invoke/VarHandle" ∧ (parseMethodDescriptor yX10_image.desc).map (fun d => d.parameters.length) = some 0 := ⟨nq_0.1, nq_0.2, pd_6⟩
abbrev qX5_copyFrom : fmY := (yX5_copyFrom, cX5_copyFrom, 3, none)
set_option maxRecDepth 100000 in
theorem nc_X5_copyFrom : Cond.code yX5_copyFrom cX5_copyFrom 3 none ∈ fmWs := fm_c3 96 rfl rfl
theorem nm_X5_copyFrom : Cond.instanceMethod yX5_copyFrom ∈ fmWs := fm_c3 94 (by eq_refl) rfl
theorem nl_X5_copyFrom : Cond.selects RX5 yX5_copyFrom yX5_copyFrom ∈ fmWs := fm_c3 95 (by eq_refl) rfl
theorem pd_22 : (parseMethodDescriptor "(LLifeDrawer$Shelf;)V").map (fun d => d.parameters.length) = some 1 := by decide +kernel
theorem nd_X5_copyFrom : yX5_copyFrom.cls ≠ "java/lang/invoke/MethodHandle" ∧ yX5_copyFrom.cls ≠ "java/lang/invoke/VarHandle" ∧ (parseMethodDescriptor yX5_copyFrom.desc).map (fun d => d.parameters.length) = some 1 := ⟨nq_10.1, nq_10.2, pd_22⟩
abbrev qX10_restore : fmY := (yX10_restore, cX10_restore, 1, (some .int))
set_option maxRecDepth 100000 in
theorem nc_X10_restore : Cond.code yX10_restore cX10_restore 1 (some .int) ∈ fmWs := fm_c3 100 rfl rfl
theorem nm_X10_restore : Cond.instanceMethod yX10_restore ∈ fmWs := fm_c3 98 (by eq_refl) rfl
theorem nl_X10_restore : Cond.selects RX10 yX10_restore yX10_restore ∈ fmWs := fm_c3 99 (by eq_refl) rfl
theorem nd_X10_restore : yX10_restore.cls ≠ "java/lang/invoke/MethodHandle" ∧ yX10_restore.cls ≠ "java/lang/invoke/VarHandle" ∧ (parseMethodDescriptor yX10_restore.desc).map (fun d => d.parameters.length) = some 0 := ⟨nq_0.1, nq_0.2, pd_6⟩
abbrev qX10_status : fmY := (yX10_status, cX10_status, 2, (some .int))
set_option maxRecDepth 100000 in
theorem nc_X10_status : Cond.code yX10_status cX10_status 2 (some .int) ∈ fmWs := fm_c3 104 rfl rfl
theorem nm_X10_status : Cond.instanceMethod yX10_status ∈ fmWs := fm_c3 102 (by eq_refl) rfl
theorem nl_X10_status : Cond.selects RX10 yX10_status yX10_status ∈ fmWs := fm_c3 103 (by eq_refl) rfl
theorem nd_X10_status : yX10_status.cls ≠ "java/lang/invoke/MethodHandle" ∧ yX10_status.cls ≠ "java/lang/invoke/VarHandle" ∧ (parseMethodDescriptor yX10_status.desc).map (fun d => d.parameters.length) = some 1 := ⟨nq_0.1, nq_0.2, pd_20⟩
abbrev qX10_count : fmY := (yX10_count, cX10_count, 2, (some .int))
set_option maxRecDepth 100000 in
theorem nc_X10_count : Cond.code yX10_count cX10_count 2 (some .int) ∈ fmWs := fm_c3 108 rfl rfl
theorem nm_X10_count : Cond.instanceMethod yX10_count ∈ fmWs := fm_c3 106 (by eq_refl) rfl
theorem nl_X10_count : Cond.selects RX10 yX10_count yX10_count ∈ fmWs := fm_c3 107 (by eq_refl) rfl
theorem nd_X10_count : yX10_count.cls ≠ "java/lang/invoke/MethodHandle" ∧ yX10_count.cls ≠ "java/lang/invoke/VarHandle" ∧ (parseMethodDescriptor yX10_count.desc).map (fun d => d.parameters.length) = some 1 := ⟨nq_0.1, nq_0.2, pd_20⟩
abbrev qX10_drawer : fmY := (yX10_drawer, cX10_drawer, 2, (some .int))
set_option maxRecDepth 100000 in
theorem nc_X10_drawer : Cond.code yX10_drawer cX10_drawer 2 (some .int) ∈ fmWs := fm_c3 116 rfl rfl
theorem nm_X10_drawer : Cond.instanceMethod yX10_drawer ∈ fmWs := fm_c3 114 (by eq_refl) rfl
theorem nl_X10_drawer : Cond.selects RX10 yX10_drawer yX10_drawer ∈ fmWs := fm_c3 115 (by eq_refl) rfl
theorem nd_X10_drawer : yX10_drawer.cls ≠ "java/lang/invoke/MethodHandle" ∧ yX10_drawer.cls ≠ "java/lang/invoke/VarHandle" ∧ (parseMethodDescriptor yX10_drawer.desc).map (fun d => d.parameters.length) = some 1 := ⟨nq_0.1, nq_0.2, pd_20⟩
abbrev qX10_openText : fmY := (yX10_openText, cX10_openText, 3, none)
set_option maxRecDepth 100000 in
theorem nc_X10_openText : Cond.code yX10_openText cX10_openText 3 none ∈ fmWs := fm_c3 120 rfl rfl
theorem nm_X10_openText : Cond.instanceMethod yX10_openText ∈ fmWs := fm_c3 119 (by eq_refl) rfl
theorem nl_X10_openText : Cond.selects RX10 yX10_openText yX10_openText ∈ fmWs := fm_inp 3 (by eq_refl) rfl
theorem pd_23 : (parseMethodDescriptor "(II)V").map (fun d => d.parameters.length) = some 2 := by decide +kernel
theorem nd_X10_openText : yX10_openText.cls ≠ "java/lang/invoke/MethodHandle" ∧ yX10_openText.cls ≠ "java/lang/invoke/VarHandle" ∧ (parseMethodDescriptor yX10_openText.desc).map (fun d => d.parameters.length) = some 2 := ⟨nq_0.1, nq_0.2, pd_23⟩
abbrev qX10_needWithin : fmY := (yX10_needWithin, cX10_needWithin, 4, none)
set_option maxRecDepth 100000 in
theorem nc_X10_needWithin : Cond.code yX10_needWithin cX10_needWithin 4 none ∈ fmWs := fm_c3 124 rfl rfl
theorem nm_X10_needWithin : Cond.instanceMethod yX10_needWithin ∈ fmWs := fm_c3 123 (by eq_refl) rfl
theorem nl_X10_needWithin : Cond.selects RX10 yX10_needWithin yX10_needWithin ∈ fmWs := fm_inp 4 (by eq_refl) rfl
theorem pd_24 : (parseMethodDescriptor "(III)V").map (fun d => d.parameters.length) = some 3 := by decide +kernel
theorem nd_X10_needWithin : yX10_needWithin.cls ≠ "java/lang/invoke/MethodHandle" ∧ yX10_needWithin.cls ≠ "java/lang/invoke/VarHandle" ∧ (parseMethodDescriptor yX10_needWithin.desc).map (fun d => d.parameters.length) = some 3 := ⟨nq_0.1, nq_0.2, pd_24⟩
abbrev qX7_open : fmY := (yX7_open, cX7_open, 2, none)
set_option maxRecDepth 100000 in
theorem nc_X7_open : Cond.code yX7_open cX7_open 2 none ∈ fmWs := fm_c3 194 rfl rfl
theorem nm_X7_open : Cond.instanceMethod yX7_open ∈ fmWs := fm_c3 192 (by eq_refl) rfl
theorem nl_X7_open : Cond.selects RX7 yX7_open yX7_open ∈ fmWs := fm_c3 193 (by eq_refl) rfl
theorem nd_X7_open : yX7_open.cls ≠ "java/lang/invoke/MethodHandle" ∧ yX7_open.cls ≠ "java/lang/invoke/VarHandle" ∧ (parseMethodDescriptor yX7_open.desc).map (fun d => d.parameters.length) = some 1 := ⟨nq_1.1, nq_1.2, pd_5⟩
abbrev qX8_read : fmY := (yX8_read, cX8_read, 3, (some .boolean))
set_option maxRecDepth 100000 in
theorem nc_X8_read : Cond.code yX8_read cX8_read 3 (some .boolean) ∈ fmWs := fm_c3 198 rfl rfl
theorem nm_X8_read : Cond.instanceMethod yX8_read ∈ fmWs := fm_c3 196 (by eq_refl) rfl
theorem nl_X8_read : Cond.selects RX8 yX8_read yX8_read ∈ fmWs := fm_c3 197 (by eq_refl) rfl
theorem pd_25 : (parseMethodDescriptor "(LLifeDrawer$Tape;)Z").map (fun d => d.parameters.length) = some 1 := by decide +kernel
theorem nd_X8_read : yX8_read.cls ≠ "java/lang/invoke/MethodHandle" ∧ yX8_read.cls ≠ "java/lang/invoke/VarHandle" ∧ (parseMethodDescriptor yX8_read.desc).map (fun d => d.parameters.length) = some 1 := ⟨nq_2.1, nq_2.2, pd_25⟩
abbrev qX7_peek : fmY := (yX7_peek, cX7_peek, 1, (some .int))
set_option maxRecDepth 100000 in
theorem nc_X7_peek : Cond.code yX7_peek cX7_peek 1 (some .int) ∈ fmWs := fm_c3 202 rfl rfl
theorem nm_X7_peek : Cond.instanceMethod yX7_peek ∈ fmWs := fm_c3 200 (by eq_refl) rfl
theorem nl_X7_peek : Cond.selects RX7 yX7_peek yX7_peek ∈ fmWs := fm_c3 201 (by eq_refl) rfl
theorem nd_X7_peek : yX7_peek.cls ≠ "java/lang/invoke/MethodHandle" ∧ yX7_peek.cls ≠ "java/lang/invoke/VarHandle" ∧ (parseMethodDescriptor yX7_peek.desc).map (fun d => d.parameters.length) = some 0 := ⟨nq_1.1, nq_1.2, pd_6⟩
abbrev qX8_readClause : fmY := (yX8_readClause, cX8_readClause, 6, (some .boolean))
set_option maxRecDepth 100000 in
theorem nc_X8_readClause : Cond.code yX8_readClause cX8_readClause 6 (some .boolean) ∈ fmWs := fm_c3 206 rfl rfl
theorem nm_X8_readClause : Cond.instanceMethod yX8_readClause ∈ fmWs := fm_c3 205 (by eq_refl) rfl
theorem nl_X8_readClause : Cond.selects RX8 yX8_readClause yX8_readClause ∈ fmWs := fm_inp 6 (by eq_refl) rfl
theorem pd_26 : (parseMethodDescriptor "(LLifeDrawer$Tape;I)Z").map (fun d => d.parameters.length) = some 2 := by decide +kernel
theorem nd_X8_readClause : yX8_readClause.cls ≠ "java/lang/invoke/MethodHandle" ∧ yX8_readClause.cls ≠ "java/lang/invoke/VarHandle" ∧ (parseMethodDescriptor yX8_readClause.desc).map (fun d => d.parameters.length) = some 2 := ⟨nq_2.1, nq_2.2, pd_26⟩
abbrev qX7_nextPlace : fmY := (yX7_nextPlace, cX7_nextPlace, 1, (some .int))
set_option maxRecDepth 100000 in
theorem nc_X7_nextPlace : Cond.code yX7_nextPlace cX7_nextPlace 1 (some .int) ∈ fmWs := fm_c3 210 rfl rfl
theorem nm_X7_nextPlace : Cond.instanceMethod yX7_nextPlace ∈ fmWs := fm_c3 208 (by eq_refl) rfl
theorem nl_X7_nextPlace : Cond.selects RX7 yX7_nextPlace yX7_nextPlace ∈ fmWs := fm_c3 209 (by eq_refl) rfl
theorem nd_X7_nextPlace : yX7_nextPlace.cls ≠ "java/lang/invoke/MethodHandle" ∧ yX7_nextPlace.cls ≠ "java/lang/invoke/VarHandle" ∧ (parseMethodDescriptor yX7_nextPlace.desc).map (fun d => d.parameters.length) = some 0 := ⟨nq_1.1, nq_1.2, pd_6⟩
abbrev qX7_takeWord : fmY := (yX7_takeWord, cX7_takeWord, 5, (some .int))
set_option maxRecDepth 100000 in
theorem nc_X7_takeWord : Cond.code yX7_takeWord cX7_takeWord 5 (some .int) ∈ fmWs := fm_c3 216 rfl rfl
theorem nm_X7_takeWord : Cond.instanceMethod yX7_takeWord ∈ fmWs := fm_c3 214 (by eq_refl) rfl
theorem nl_X7_takeWord : Cond.selects RX7 yX7_takeWord yX7_takeWord ∈ fmWs := fm_c3 215 (by eq_refl) rfl
theorem pd_27 : (parseMethodDescriptor "(Ljava/lang/String;)I").map (fun d => d.parameters.length) = some 1 := by decide +kernel
theorem nd_X7_takeWord : yX7_takeWord.cls ≠ "java/lang/invoke/MethodHandle" ∧ yX7_takeWord.cls ≠ "java/lang/invoke/VarHandle" ∧ (parseMethodDescriptor yX7_takeWord.desc).map (fun d => d.parameters.length) = some 1 := ⟨nq_1.1, nq_1.2, pd_27⟩
abbrev qX7_find : fmY := (yX7_find, cX7_find, 9, (some .int))
set_option maxRecDepth 100000 in
theorem nc_X7_find : Cond.code yX7_find cX7_find 9 (some .int) ∈ fmWs := fm_c3 221 rfl rfl
theorem nm_X7_find : Cond.instanceMethod yX7_find ∈ fmWs := fm_c3 220 (by eq_refl) rfl
theorem nl_X7_find : Cond.selects RX7 yX7_find yX7_find ∈ fmWs := fm_inp 7 (by eq_refl) rfl
theorem pd_28 : (parseMethodDescriptor "(Ljava/lang/String;II)I").map (fun d => d.parameters.length) = some 3 := by decide +kernel
theorem nd_X7_find : yX7_find.cls ≠ "java/lang/invoke/MethodHandle" ∧ yX7_find.cls ≠ "java/lang/invoke/VarHandle" ∧ (parseMethodDescriptor yX7_find.desc).map (fun d => d.parameters.length) = some 3 := ⟨nq_1.1, nq_1.2, pd_28⟩
abbrev qJ0_length_8abf5 : fmY := (yJ0_length_8abf5, cJ0_length_8abf5, 1, (some .int))
set_option maxRecDepth 100000 in
theorem nc_J0_length_8abf5 : Cond.code yJ0_length_8abf5 cJ0_length_8abf5 1 (some .int) ∈ fmWs := fm_c3 225 rfl rfl
theorem nm_J0_length_8abf5 : Cond.instanceMethod yJ0_length_8abf5 ∈ fmWs := fm_c3 223 (by eq_refl) rfl
theorem nq_12 : RJ0 ≠ "java/lang/invoke/MethodHandle" ∧ RJ0 ≠ "java/lang/invoke/VarHandle" := by decide +kernel
theorem nd_J0_length_8abf5 : yJ0_length_8abf5.cls ≠ "java/lang/invoke/MethodHandle" ∧ yJ0_length_8abf5.cls ≠ "java/lang/invoke/VarHandle" ∧ (parseMethodDescriptor yJ0_length_8abf5.desc).map (fun d => d.parameters.length) = some 0 := ⟨nq_12.1, nq_12.2, pd_6⟩
abbrev qJ0_coder_7d493 : fmY := (yJ0_coder_7d493, cJ0_coder_7d493, 1, (some .byte))
set_option maxRecDepth 100000 in
theorem nc_J0_coder_7d493 : Cond.code yJ0_coder_7d493 cJ0_coder_7d493 1 (some .byte) ∈ fmWs := fm_c3 229 rfl rfl
theorem nm_J0_coder_7d493 : Cond.instanceMethod yJ0_coder_7d493 ∈ fmWs := fm_c3 227 (by eq_refl) rfl
theorem pd_29 : (parseMethodDescriptor "()B").map (fun d => d.parameters.length) = some 0 := by decide +kernel
theorem nd_J0_coder_7d493 : yJ0_coder_7d493.cls ≠ "java/lang/invoke/MethodHandle" ∧ yJ0_coder_7d493.cls ≠ "java/lang/invoke/VarHandle" ∧ (parseMethodDescriptor yJ0_coder_7d493.desc).map (fun d => d.parameters.length) = some 0 := ⟨nq_12.1, nq_12.2, pd_29⟩
abbrev qJ0_charAt_5068e : fmY := (yJ0_charAt_5068e, cJ0_charAt_5068e, 2, (some .char))
set_option maxRecDepth 100000 in
theorem nc_J0_charAt_5068e : Cond.code yJ0_charAt_5068e cJ0_charAt_5068e 2 (some .char) ∈ fmWs := fm_c3 235 rfl rfl
theorem nm_J0_charAt_5068e : Cond.instanceMethod yJ0_charAt_5068e ∈ fmWs := fm_c3 233 (by eq_refl) rfl
theorem pd_30 : (parseMethodDescriptor "(I)C").map (fun d => d.parameters.length) = some 1 := by decide +kernel
theorem nd_J0_charAt_5068e : yJ0_charAt_5068e.cls ≠ "java/lang/invoke/MethodHandle" ∧ yJ0_charAt_5068e.cls ≠ "java/lang/invoke/VarHandle" ∧ (parseMethodDescriptor yJ0_charAt_5068e.desc).map (fun d => d.parameters.length) = some 1 := ⟨nq_12.1, nq_12.2, pd_30⟩
abbrev qJ0_isLatin1_aae02 : fmY := (yJ0_isLatin1_aae02, cJ0_isLatin1_aae02, 1, (some .boolean))
set_option maxRecDepth 100000 in
theorem nc_J0_isLatin1_aae02 : Cond.code yJ0_isLatin1_aae02 cJ0_isLatin1_aae02 1 (some .boolean) ∈ fmWs := fm_c3 239 rfl rfl
theorem nm_J0_isLatin1_aae02 : Cond.instanceMethod yJ0_isLatin1_aae02 ∈ fmWs := fm_c3 237 (by eq_refl) rfl
theorem pd_31 : (parseMethodDescriptor "()Z").map (fun d => d.parameters.length) = some 0 := by decide +kernel
theorem nd_J0_isLatin1_aae02 : yJ0_isLatin1_aae02.cls ≠ "java/lang/invoke/MethodHandle" ∧ yJ0_isLatin1_aae02.cls ≠ "java/lang/invoke/VarHandle" ∧ (parseMethodDescriptor yJ0_isLatin1_aae02.desc).map (fun d => d.parameters.length) = some 0 := ⟨nq_12.1, nq_12.2, pd_31⟩
abbrev qJ1_charAt_3b067 : fmY := (yJ1_charAt_3b067, cJ1_charAt_3b067, 2, (some .char))
set_option maxRecDepth 100000 in
theorem nc_J1_charAt_3b067 : Cond.code yJ1_charAt_3b067 cJ1_charAt_3b067 2 (some .char) ∈ fmWs := fm_c4 2 rfl rfl
theorem ns_J1_charAt_3b067 : Cond.static yJ1_charAt_3b067 ∈ fmWs := fm_c4 1 (by eq_refl) rfl
theorem nq_13 : RJ1 ≠ "java/lang/invoke/MethodHandle" ∧ RJ1 ≠ "java/lang/invoke/VarHandle" := by decide +kernel
theorem pd_32 : (parseMethodDescriptor "([BI)C").map (fun d => d.parameters.length) = some 2 := by decide +kernel
theorem nd_J1_charAt_3b067 : yJ1_charAt_3b067.cls ≠ "java/lang/invoke/MethodHandle" ∧ yJ1_charAt_3b067.cls ≠ "java/lang/invoke/VarHandle" ∧ (parseMethodDescriptor yJ1_charAt_3b067.desc).map (fun d => d.parameters.length) = some 2 := ⟨nq_13.1, nq_13.2, pd_32⟩
abbrev qJ0_checkIndex_df160 : fmY := (yJ0_checkIndex_df160, cJ0_checkIndex_df160, 2, none)
set_option maxRecDepth 100000 in
theorem nc_J0_checkIndex_df160 : Cond.code yJ0_checkIndex_df160 cJ0_checkIndex_df160 2 none ∈ fmWs := fm_c4 5 rfl rfl
theorem ns_J0_checkIndex_df160 : Cond.static yJ0_checkIndex_df160 ∈ fmWs := fm_c4 4 (by eq_refl) rfl
theorem nd_J0_checkIndex_df160 : yJ0_checkIndex_df160.cls ≠ "java/lang/invoke/MethodHandle" ∧ yJ0_checkIndex_df160.cls ≠ "java/lang/invoke/VarHandle" ∧ (parseMethodDescriptor yJ0_checkIndex_df160.desc).map (fun d => d.parameters.length) = some 2 := ⟨nq_12.1, nq_12.2, pd_23⟩
abbrev qJ3_checkIndex_8e157 : fmY := (yJ3_checkIndex_8e157, cJ3_checkIndex_8e157, 3, (some .int))
set_option maxRecDepth 100000 in
theorem nc_J3_checkIndex_8e157 : Cond.code yJ3_checkIndex_8e157 cJ3_checkIndex_8e157 3 (some .int) ∈ fmWs := fm_c4 10 rfl rfl
theorem ns_J3_checkIndex_8e157 : Cond.static yJ3_checkIndex_8e157 ∈ fmWs := fm_c4 9 (by eq_refl) rfl
theorem nq_14 : RJ3 ≠ "java/lang/invoke/MethodHandle" ∧ RJ3 ≠ "java/lang/invoke/VarHandle" := by decide +kernel
theorem pd_33 : (parseMethodDescriptor "(IILjava/util/function/BiFunction;)I").map (fun d => d.parameters.length) = some 3 := by decide +kernel
theorem nd_J3_checkIndex_8e157 : yJ3_checkIndex_8e157.cls ≠ "java/lang/invoke/MethodHandle" ∧ yJ3_checkIndex_8e157.cls ≠ "java/lang/invoke/VarHandle" ∧ (parseMethodDescriptor yJ3_checkIndex_8e157.desc).map (fun d => d.parameters.length) = some 3 := ⟨nq_14.1, nq_14.2, pd_33⟩
abbrev qJ2_charAt_3b067 : fmY := (yJ2_charAt_3b067, cJ2_charAt_3b067, 2, (some .char))
set_option maxRecDepth 100000 in
theorem nc_J2_charAt_3b067 : Cond.code yJ2_charAt_3b067 cJ2_charAt_3b067 2 (some .char) ∈ fmWs := fm_c4 13 rfl rfl
theorem ns_J2_charAt_3b067 : Cond.static yJ2_charAt_3b067 ∈ fmWs := fm_c4 12 (by eq_refl) rfl
theorem nq_15 : RJ2 ≠ "java/lang/invoke/MethodHandle" ∧ RJ2 ≠ "java/lang/invoke/VarHandle" := by decide +kernel
theorem nd_J2_charAt_3b067 : yJ2_charAt_3b067.cls ≠ "java/lang/invoke/MethodHandle" ∧ yJ2_charAt_3b067.cls ≠ "java/lang/invoke/VarHandle" ∧ (parseMethodDescriptor yJ2_charAt_3b067.desc).map (fun d => d.parameters.length) = some 2 := ⟨nq_15.1, nq_15.2, pd_32⟩
abbrev qJ2_checkIndex_2214a : fmY := (yJ2_checkIndex_2214a, cJ2_checkIndex_2214a, 2, none)
set_option maxRecDepth 100000 in
theorem nc_J2_checkIndex_2214a : Cond.code yJ2_checkIndex_2214a cJ2_checkIndex_2214a 2 none ∈ fmWs := fm_c4 16 rfl rfl
theorem ns_J2_checkIndex_2214a : Cond.static yJ2_checkIndex_2214a ∈ fmWs := fm_c4 15 (by eq_refl) rfl
theorem pd_34 : (parseMethodDescriptor "(I[B)V").map (fun d => d.parameters.length) = some 2 := by decide +kernel
theorem nd_J2_checkIndex_2214a : yJ2_checkIndex_2214a.cls ≠ "java/lang/invoke/MethodHandle" ∧ yJ2_checkIndex_2214a.cls ≠ "java/lang/invoke/VarHandle" ∧ (parseMethodDescriptor yJ2_checkIndex_2214a.desc).map (fun d => d.parameters.length) = some 2 := ⟨nq_15.1, nq_15.2, pd_34⟩
abbrev qJ2_length_9d52b : fmY := (yJ2_length_9d52b, cJ2_length_9d52b, 1, (some .int))
set_option maxRecDepth 100000 in
theorem nc_J2_length_9d52b : Cond.code yJ2_length_9d52b cJ2_length_9d52b 1 (some .int) ∈ fmWs := fm_c4 19 rfl rfl
theorem ns_J2_length_9d52b : Cond.static yJ2_length_9d52b ∈ fmWs := fm_c4 18 (by eq_refl) rfl
theorem pd_35 : (parseMethodDescriptor "([B)I").map (fun d => d.parameters.length) = some 1 := by decide +kernel
theorem nd_J2_length_9d52b : yJ2_length_9d52b.cls ≠ "java/lang/invoke/MethodHandle" ∧ yJ2_length_9d52b.cls ≠ "java/lang/invoke/VarHandle" ∧ (parseMethodDescriptor yJ2_length_9d52b.desc).map (fun d => d.parameters.length) = some 1 := ⟨nq_15.1, nq_15.2, pd_35⟩
abbrev qJ2_getChar_3b067 : fmY := (yJ2_getChar_3b067, cJ2_getChar_3b067, 2, (some .char))
set_option maxRecDepth 100000 in
theorem nc_J2_getChar_3b067 : Cond.code yJ2_getChar_3b067 cJ2_getChar_3b067 2 (some .char) ∈ fmWs := fm_c4 23 rfl rfl
theorem ns_J2_getChar_3b067 : Cond.static yJ2_getChar_3b067 ∈ fmWs := fm_c4 22 (by eq_refl) rfl
theorem nd_J2_getChar_3b067 : yJ2_getChar_3b067.cls ≠ "java/lang/invoke/MethodHandle" ∧ yJ2_getChar_3b067.cls ≠ "java/lang/invoke/VarHandle" ∧ (parseMethodDescriptor yJ2_getChar_3b067.desc).map (fun d => d.parameters.length) = some 2 := ⟨nq_15.1, nq_15.2, pd_32⟩
abbrev qX7_fail : fmY := (yX7_fail, cX7_fail, 3, (some .boolean))
set_option maxRecDepth 100000 in
theorem nc_X7_fail : Cond.code yX7_fail cX7_fail 3 (some .boolean) ∈ fmWs := fm_c4 33 rfl rfl
theorem nm_X7_fail : Cond.instanceMethod yX7_fail ∈ fmWs := fm_c4 31 (by eq_refl) rfl
theorem nl_X7_fail : Cond.selects RX7 yX7_fail yX7_fail ∈ fmWs := fm_c4 32 (by eq_refl) rfl
theorem pd_36 : (parseMethodDescriptor "(II)Z").map (fun d => d.parameters.length) = some 2 := by decide +kernel
theorem nd_X7_fail : yX7_fail.cls ≠ "java/lang/invoke/MethodHandle" ∧ yX7_fail.cls ≠ "java/lang/invoke/VarHandle" ∧ (parseMethodDescriptor yX7_fail.desc).map (fun d => d.parameters.length) = some 2 := ⟨nq_1.1, nq_1.2, pd_36⟩
abbrev qX8_readLife : fmY := (yX8_readLife, cX8_readLife, 6, (some .boolean))
set_option maxRecDepth 100000 in
theorem nc_X8_readLife : Cond.code yX8_readLife cX8_readLife 6 (some .boolean) ∈ fmWs := fm_c4 38 rfl rfl
theorem nm_X8_readLife : Cond.instanceMethod yX8_readLife ∈ fmWs := fm_c4 37 (by eq_refl) rfl
theorem nl_X8_readLife : Cond.selects RX8 yX8_readLife yX8_readLife ∈ fmWs := fm_inp 8 (by eq_refl) rfl
theorem nd_X8_readLife : yX8_readLife.cls ≠ "java/lang/invoke/MethodHandle" ∧ yX8_readLife.cls ≠ "java/lang/invoke/VarHandle" ∧ (parseMethodDescriptor yX8_readLife.desc).map (fun d => d.parameters.length) = some 1 := ⟨nq_2.1, nq_2.2, pd_25⟩
abbrev qX7_takeNumber : fmY := (yX7_takeNumber, cX7_takeNumber, 5, (some .int))
set_option maxRecDepth 100000 in
theorem nc_X7_takeNumber : Cond.code yX7_takeNumber cX7_takeNumber 5 (some .int) ∈ fmWs := fm_c4 42 rfl rfl
theorem nm_X7_takeNumber : Cond.instanceMethod yX7_takeNumber ∈ fmWs := fm_c4 40 (by eq_refl) rfl
theorem nl_X7_takeNumber : Cond.selects RX7 yX7_takeNumber yX7_takeNumber ∈ fmWs := fm_c4 41 (by eq_refl) rfl
theorem nd_X7_takeNumber : yX7_takeNumber.cls ≠ "java/lang/invoke/MethodHandle" ∧ yX7_takeNumber.cls ≠ "java/lang/invoke/VarHandle" ∧ (parseMethodDescriptor yX7_takeNumber.desc).map (fun d => d.parameters.length) = some 2 := ⟨nq_1.1, nq_1.2, pd_17⟩
abbrev qX7_failed : fmY := (yX7_failed, cX7_failed, 1, (some .boolean))
set_option maxRecDepth 100000 in
theorem nc_X7_failed : Cond.code yX7_failed cX7_failed 1 (some .boolean) ∈ fmWs := fm_c4 48 rfl rfl
theorem nm_X7_failed : Cond.instanceMethod yX7_failed ∈ fmWs := fm_c4 46 (by eq_refl) rfl
theorem nl_X7_failed : Cond.selects RX7 yX7_failed yX7_failed ∈ fmWs := fm_c4 47 (by eq_refl) rfl
theorem nd_X7_failed : yX7_failed.cls ≠ "java/lang/invoke/MethodHandle" ∧ yX7_failed.cls ≠ "java/lang/invoke/VarHandle" ∧ (parseMethodDescriptor yX7_failed.desc).map (fun d => d.parameters.length) = some 0 := ⟨nq_1.1, nq_1.2, pd_31⟩
abbrev qX8_readHas : fmY := (yX8_readHas, cX8_readHas, 4, (some .boolean))
set_option maxRecDepth 100000 in
theorem nc_X8_readHas : Cond.code yX8_readHas cX8_readHas 4 (some .boolean) ∈ fmWs := fm_c4 52 rfl rfl
theorem nm_X8_readHas : Cond.instanceMethod yX8_readHas ∈ fmWs := fm_c4 51 (by eq_refl) rfl
theorem nl_X8_readHas : Cond.selects RX8 yX8_readHas yX8_readHas ∈ fmWs := fm_inp 9 (by eq_refl) rfl
theorem nd_X8_readHas : yX8_readHas.cls ≠ "java/lang/invoke/MethodHandle" ∧ yX8_readHas.cls ≠ "java/lang/invoke/VarHandle" ∧ (parseMethodDescriptor yX8_readHas.desc).map (fun d => d.parameters.length) = some 1 := ⟨nq_2.1, nq_2.2, pd_25⟩
abbrev qX8_readBy : fmY := (yX8_readBy, cX8_readBy, 5, (some .boolean))
set_option maxRecDepth 100000 in
theorem nc_X8_readBy : Cond.code yX8_readBy cX8_readBy 5 (some .boolean) ∈ fmWs := fm_c4 56 rfl rfl
theorem nm_X8_readBy : Cond.instanceMethod yX8_readBy ∈ fmWs := fm_c4 55 (by eq_refl) rfl
theorem nl_X8_readBy : Cond.selects RX8 yX8_readBy yX8_readBy ∈ fmWs := fm_inp 10 (by eq_refl) rfl
theorem nd_X8_readBy : yX8_readBy.cls ≠ "java/lang/invoke/MethodHandle" ∧ yX8_readBy.cls ≠ "java/lang/invoke/VarHandle" ∧ (parseMethodDescriptor yX8_readBy.desc).map (fun d => d.parameters.length) = some 1 := ⟨nq_2.1, nq_2.2, pd_25⟩
abbrev qX8_readFact : fmY := (yX8_readFact, cX8_readFact, 5, (some .boolean))
set_option maxRecDepth 100000 in
theorem nc_X8_readFact : Cond.code yX8_readFact cX8_readFact 5 (some .boolean) ∈ fmWs := fm_c4 60 rfl rfl
theorem nm_X8_readFact : Cond.instanceMethod yX8_readFact ∈ fmWs := fm_c4 59 (by eq_refl) rfl
theorem nl_X8_readFact : Cond.selects RX8 yX8_readFact yX8_readFact ∈ fmWs := fm_inp 11 (by eq_refl) rfl
theorem nd_X8_readFact : yX8_readFact.cls ≠ "java/lang/invoke/MethodHandle" ∧ yX8_readFact.cls ≠ "java/lang/invoke/VarHandle" ∧ (parseMethodDescriptor yX8_readFact.desc).map (fun d => d.parameters.length) = some 1 := ⟨nq_2.1, nq_2.2, pd_25⟩
abbrev qX8_readRule : fmY := (yX8_readRule, cX8_readRule, 3, (some .boolean))
set_option maxRecDepth 100000 in
theorem nc_X8_readRule : Cond.code yX8_readRule cX8_readRule 3 (some .boolean) ∈ fmWs := fm_c4 64 rfl rfl
theorem nm_X8_readRule : Cond.instanceMethod yX8_readRule ∈ fmWs := fm_c4 63 (by eq_refl) rfl
theorem nl_X8_readRule : Cond.selects RX8 yX8_readRule yX8_readRule ∈ fmWs := fm_inp 12 (by eq_refl) rfl
theorem nd_X8_readRule : yX8_readRule.cls ≠ "java/lang/invoke/MethodHandle" ∧ yX8_readRule.cls ≠ "java/lang/invoke/VarHandle" ∧ (parseMethodDescriptor yX8_readRule.desc).map (fun d => d.parameters.length) = some 2 := ⟨nq_2.1, nq_2.2, pd_26⟩
abbrev qX7_takeSign : fmY := (yX7_takeSign, cX7_takeSign, 2, (some .boolean))
set_option maxRecDepth 100000 in
theorem nc_X7_takeSign : Cond.code yX7_takeSign cX7_takeSign 2 (some .boolean) ∈ fmWs := fm_c4 68 rfl rfl
theorem nm_X7_takeSign : Cond.instanceMethod yX7_takeSign ∈ fmWs := fm_c4 66 (by eq_refl) rfl
theorem nl_X7_takeSign : Cond.selects RX7 yX7_takeSign yX7_takeSign ∈ fmWs := fm_c4 67 (by eq_refl) rfl
theorem nd_X7_takeSign : yX7_takeSign.cls ≠ "java/lang/invoke/MethodHandle" ∧ yX7_takeSign.cls ≠ "java/lang/invoke/VarHandle" ∧ (parseMethodDescriptor yX7_takeSign.desc).map (fun d => d.parameters.length) = some 1 := ⟨nq_1.1, nq_1.2, pd_8⟩
abbrev qX8_copyFrom : fmY := (yX8_copyFrom, cX8_copyFrom, 2, none)
set_option maxRecDepth 100000 in
theorem nc_X8_copyFrom : Cond.code yX8_copyFrom cX8_copyFrom 2 none ∈ fmWs := fm_c4 72 rfl rfl
theorem nm_X8_copyFrom : Cond.instanceMethod yX8_copyFrom ∈ fmWs := fm_c4 70 (by eq_refl) rfl
theorem nl_X8_copyFrom : Cond.selects RX8 yX8_copyFrom yX8_copyFrom ∈ fmWs := fm_c4 71 (by eq_refl) rfl
theorem nd_X8_copyFrom : yX8_copyFrom.cls ≠ "java/lang/invoke/MethodHandle" ∧ yX8_copyFrom.cls ≠ "java/lang/invoke/VarHandle" ∧ (parseMethodDescriptor yX8_copyFrom.desc).map (fun d => d.parameters.length) = some 1 := ⟨nq_2.1, nq_2.2, pd_3⟩
abbrev qX2_clear : fmY := (yX2_clear, cX2_clear, 1, none)
set_option maxRecDepth 100000 in
theorem nc_X2_clear : Cond.code yX2_clear cX2_clear 1 none ∈ fmWs := fm_c4 78 rfl rfl
theorem nm_X2_clear : Cond.instanceMethod yX2_clear ∈ fmWs := fm_c4 76 (by eq_refl) rfl
theorem nl_X2_clear : Cond.selects RX2 yX2_clear yX2_clear ∈ fmWs := fm_c4 77 (by eq_refl) rfl
theorem nd_X2_clear : yX2_clear.cls ≠ "java/lang/invoke/MethodHandle" ∧ yX2_clear.cls ≠ "java/lang/invoke/VarHandle" ∧ (parseMethodDescriptor yX2_clear.desc).map (fun d => d.parameters.length) = some 0 := ⟨nq_4.1, nq_4.2, pd_0⟩
abbrev qX10_law : fmY := (yX10_law, cX10_law, 2, (some .int))
set_option maxRecDepth 100000 in
theorem nc_X10_law : Cond.code yX10_law cX10_law 2 (some .int) ∈ fmWs := fm_c4 85 rfl rfl
theorem nm_X10_law : Cond.instanceMethod yX10_law ∈ fmWs := fm_c4 83 (by eq_refl) rfl
theorem nl_X10_law : Cond.selects RX10 yX10_law yX10_law ∈ fmWs := fm_c4 84 (by eq_refl) rfl
theorem nd_X10_law : yX10_law.cls ≠ "java/lang/invoke/MethodHandle" ∧ yX10_law.cls ≠ "java/lang/invoke/VarHandle" ∧ (parseMethodDescriptor yX10_law.desc).map (fun d => d.parameters.length) = some 1 := ⟨nq_0.1, nq_0.2, pd_20⟩
abbrev qX1_read : fmY := (yX1_read, cX1_read, 2, (some .boolean))
set_option maxRecDepth 100000 in
theorem nc_X1_read : Cond.code yX1_read cX1_read 2 (some .boolean) ∈ fmWs := fm_c4 89 rfl rfl
theorem nm_X1_read : Cond.instanceMethod yX1_read ∈ fmWs := fm_c4 87 (by eq_refl) rfl
theorem nl_X1_read : Cond.selects RX1 yX1_read yX1_read ∈ fmWs := fm_c4 88 (by eq_refl) rfl
theorem nd_X1_read : yX1_read.cls ≠ "java/lang/invoke/MethodHandle" ∧ yX1_read.cls ≠ "java/lang/invoke/VarHandle" ∧ (parseMethodDescriptor yX1_read.desc).map (fun d => d.parameters.length) = some 1 := ⟨nq_3.1, nq_3.2, pd_25⟩
abbrev qX1_readSum : fmY := (yX1_readSum, cX1_readSum, 6, (some .boolean))
set_option maxRecDepth 100000 in
theorem nc_X1_readSum : Cond.code yX1_readSum cX1_readSum 6 (some .boolean) ∈ fmWs := fm_c4 93 rfl rfl
theorem nm_X1_readSum : Cond.instanceMethod yX1_readSum ∈ fmWs := fm_c4 92 (by eq_refl) rfl
theorem nl_X1_readSum : Cond.selects RX1 yX1_readSum yX1_readSum ∈ fmWs := fm_inp 13 (by eq_refl) rfl
theorem nd_X1_readSum : yX1_readSum.cls ≠ "java/lang/invoke/MethodHandle" ∧ yX1_readSum.cls ≠ "java/lang/invoke/VarHandle" ∧ (parseMethodDescriptor yX1_readSum.desc).map (fun d => d.parameters.length) = some 2 := ⟨nq_3.1, nq_3.2, pd_26⟩
abbrev qX1_readProduct : fmY := (yX1_readProduct, cX1_readProduct, 6, (some .boolean))
set_option maxRecDepth 100000 in
theorem nc_X1_readProduct : Cond.code yX1_readProduct cX1_readProduct 6 (some .boolean) ∈ fmWs := fm_c4 97 rfl rfl
theorem nm_X1_readProduct : Cond.instanceMethod yX1_readProduct ∈ fmWs := fm_c4 96 (by eq_refl) rfl
theorem nl_X1_readProduct : Cond.selects RX1 yX1_readProduct yX1_readProduct ∈ fmWs := fm_inp 14 (by eq_refl) rfl
theorem nd_X1_readProduct : yX1_readProduct.cls ≠ "java/lang/invoke/MethodHandle" ∧ yX1_readProduct.cls ≠ "java/lang/invoke/VarHandle" ∧ (parseMethodDescriptor yX1_readProduct.desc).map (fun d => d.parameters.length) = some 2 := ⟨nq_3.1, nq_3.2, pd_26⟩
abbrev qX1_readUnit : fmY := (yX1_readUnit, cX1_readUnit, 6, (some .boolean))
set_option maxRecDepth 100000 in
theorem nc_X1_readUnit : Cond.code yX1_readUnit cX1_readUnit 6 (some .boolean) ∈ fmWs := fm_c4 101 rfl rfl
theorem nm_X1_readUnit : Cond.instanceMethod yX1_readUnit ∈ fmWs := fm_c4 100 (by eq_refl) rfl
theorem nl_X1_readUnit : Cond.selects RX1 yX1_readUnit yX1_readUnit ∈ fmWs := fm_inp 15 (by eq_refl) rfl
theorem nd_X1_readUnit : yX1_readUnit.cls ≠ "java/lang/invoke/MethodHandle" ∧ yX1_readUnit.cls ≠ "java/lang/invoke/VarHandle" ∧ (parseMethodDescriptor yX1_readUnit.desc).map (fun d => d.parameters.length) = some 2 := ⟨nq_3.1, nq_3.2, pd_26⟩
abbrev qX1_emit : fmY := (yX1_emit, cX1_emit, 2, none)
set_option maxRecDepth 100000 in
theorem nc_X1_emit : Cond.code yX1_emit cX1_emit 2 none ∈ fmWs := fm_c4 109 rfl rfl
theorem nm_X1_emit : Cond.instanceMethod yX1_emit ∈ fmWs := fm_c4 108 (by eq_refl) rfl
theorem nl_X1_emit : Cond.selects RX1 yX1_emit yX1_emit ∈ fmWs := fm_inp 16 (by eq_refl) rfl
theorem nd_X1_emit : yX1_emit.cls ≠ "java/lang/invoke/MethodHandle" ∧ yX1_emit.cls ≠ "java/lang/invoke/VarHandle" ∧ (parseMethodDescriptor yX1_emit.desc).map (fun d => d.parameters.length) = some 1 := ⟨nq_3.1, nq_3.2, pd_5⟩
abbrev qX1_readTwo : fmY := (yX1_readTwo, cX1_readTwo, 3, (some .boolean))
set_option maxRecDepth 100000 in
theorem nc_X1_readTwo : Cond.code yX1_readTwo cX1_readTwo 3 (some .boolean) ∈ fmWs := fm_c4 116 rfl rfl
theorem nm_X1_readTwo : Cond.instanceMethod yX1_readTwo ∈ fmWs := fm_c4 115 (by eq_refl) rfl
theorem nl_X1_readTwo : Cond.selects RX1 yX1_readTwo yX1_readTwo ∈ fmWs := fm_inp 17 (by eq_refl) rfl
theorem nd_X1_readTwo : yX1_readTwo.cls ≠ "java/lang/invoke/MethodHandle" ∧ yX1_readTwo.cls ≠ "java/lang/invoke/VarHandle" ∧ (parseMethodDescriptor yX1_readTwo.desc).map (fun d => d.parameters.length) = some 2 := ⟨nq_3.1, nq_3.2, pd_26⟩
abbrev qX10_work : fmY := (yX10_work, cX10_work, 2, (some .int))
set_option maxRecDepth 100000 in
theorem nc_X10_work : Cond.code yX10_work cX10_work 2 (some .int) ∈ fmWs := fm_c4 124 rfl rfl
theorem nm_X10_work : Cond.instanceMethod yX10_work ∈ fmWs := fm_c4 122 (by eq_refl) rfl
theorem nl_X10_work : Cond.selects RX10 yX10_work yX10_work ∈ fmWs := fm_c4 123 (by eq_refl) rfl
theorem nd_X10_work : yX10_work.cls ≠ "java/lang/invoke/MethodHandle" ∧ yX10_work.cls ≠ "java/lang/invoke/VarHandle" ∧ (parseMethodDescriptor yX10_work.desc).map (fun d => d.parameters.length) = some 1 := ⟨nq_0.1, nq_0.2, pd_20⟩
abbrev qX9_read : fmY := (yX9_read, cX9_read, 3, (some .boolean))
set_option maxRecDepth 100000 in
theorem nc_X9_read : Cond.code yX9_read cX9_read 3 (some .boolean) ∈ fmWs := fm_c4 128 rfl rfl
theorem nm_X9_read : Cond.instanceMethod yX9_read ∈ fmWs := fm_c4 126 (by eq_refl) rfl
theorem nl_X9_read : Cond.selects RX9 yX9_read yX9_read ∈ fmWs := fm_c4 127 (by eq_refl) rfl
theorem nd_X9_read : yX9_read.cls ≠ "java/lang/invoke/MethodHandle" ∧ yX9_read.cls ≠ "java/lang/invoke/VarHandle" ∧ (parseMethodDescriptor yX9_read.desc).map (fun d => d.parameters.length) = some 2 := ⟨nq_5.1, nq_5.2, pd_26⟩
abbrev qX9_readSteps : fmY := (yX9_readSteps, cX9_readSteps, 6, (some .boolean))
set_option maxRecDepth 100000 in
theorem nc_X9_readSteps : Cond.code yX9_readSteps cX9_readSteps 6 (some .boolean) ∈ fmWs := fm_c4 132 rfl rfl
theorem nm_X9_readSteps : Cond.instanceMethod yX9_readSteps ∈ fmWs := fm_c4 131 (by eq_refl) rfl
theorem nl_X9_readSteps : Cond.selects RX9 yX9_readSteps yX9_readSteps ∈ fmWs := fm_inp 18 (by eq_refl) rfl
theorem pd_37 : (parseMethodDescriptor "(LLifeDrawer$Tape;II)Z").map (fun d => d.parameters.length) = some 3 := by decide +kernel
theorem nd_X9_readSteps : yX9_readSteps.cls ≠ "java/lang/invoke/MethodHandle" ∧ yX9_readSteps.cls ≠ "java/lang/invoke/VarHandle" ∧ (parseMethodDescriptor yX9_readSteps.desc).map (fun d => d.parameters.length) = some 3 := ⟨nq_5.1, nq_5.2, pd_37⟩
abbrev qX9_readStep : fmY := (yX9_readStep, cX9_readStep, 7, (some .boolean))
set_option maxRecDepth 100000 in
theorem nc_X9_readStep : Cond.code yX9_readStep cX9_readStep 7 (some .boolean) ∈ fmWs := fm_c4 137 rfl rfl
theorem nm_X9_readStep : Cond.instanceMethod yX9_readStep ∈ fmWs := fm_c4 136 (by eq_refl) rfl
theorem nl_X9_readStep : Cond.selects RX9 yX9_readStep yX9_readStep ∈ fmWs := fm_inp 19 (by eq_refl) rfl
theorem nd_X9_readStep : yX9_readStep.cls ≠ "java/lang/invoke/MethodHandle" ∧ yX9_readStep.cls ≠ "java/lang/invoke/VarHandle" ∧ (parseMethodDescriptor yX9_readStep.desc).map (fun d => d.parameters.length) = some 3 := ⟨nq_5.1, nq_5.2, pd_37⟩
abbrev qX9_readAgain : fmY := (yX9_readAgain, cX9_readAgain, 5, (some .boolean))
set_option maxRecDepth 100000 in
theorem nc_X9_readAgain : Cond.code yX9_readAgain cX9_readAgain 5 (some .boolean) ∈ fmWs := fm_c4 145 rfl rfl
theorem nm_X9_readAgain : Cond.instanceMethod yX9_readAgain ∈ fmWs := fm_c4 144 (by eq_refl) rfl
theorem nl_X9_readAgain : Cond.selects RX9 yX9_readAgain yX9_readAgain ∈ fmWs := fm_inp 20 (by eq_refl) rfl
theorem pd_38 : (parseMethodDescriptor "(LLifeDrawer$Tape;III)Z").map (fun d => d.parameters.length) = some 4 := by decide +kernel
theorem nd_X9_readAgain : yX9_readAgain.cls ≠ "java/lang/invoke/MethodHandle" ∧ yX9_readAgain.cls ≠ "java/lang/invoke/VarHandle" ∧ (parseMethodDescriptor yX9_readAgain.desc).map (fun d => d.parameters.length) = some 4 := ⟨nq_5.1, nq_5.2, pd_38⟩
abbrev qX5_keep : fmY := (yX5_keep, cX5_keep, 1, none)
set_option maxRecDepth 100000 in
theorem nc_X5_keep : Cond.code yX5_keep cX5_keep 1 none ∈ fmWs := fm_c4 152 rfl rfl
theorem nm_X5_keep : Cond.instanceMethod yX5_keep ∈ fmWs := fm_c4 150 (by eq_refl) rfl
theorem nl_X5_keep : Cond.selects RX5 yX5_keep yX5_keep ∈ fmWs := fm_c4 151 (by eq_refl) rfl
theorem nd_X5_keep : yX5_keep.cls ≠ "java/lang/invoke/MethodHandle" ∧ yX5_keep.cls ≠ "java/lang/invoke/VarHandle" ∧ (parseMethodDescriptor yX5_keep.desc).map (fun d => d.parameters.length) = some 0 := ⟨nq_10.1, nq_10.2, pd_0⟩
abbrev qX9_perform : fmY := (yX9_perform, cX9_perform, 8, none)
set_option maxRecDepth 100000 in
theorem nc_X9_perform : Cond.code yX9_perform cX9_perform 8 none ∈ fmWs := fm_c4 156 rfl rfl
theorem nm_X9_perform : Cond.instanceMethod yX9_perform ∈ fmWs := fm_c4 154 (by eq_refl) rfl
theorem nl_X9_perform : Cond.selects RX9 yX9_perform yX9_perform ∈ fmWs := fm_c4 155 (by eq_refl) rfl
theorem pd_39 : (parseMethodDescriptor "(LLifeDrawer$Desk;LLifeDrawer$State;III)V").map (fun d => d.parameters.length) = some 5 := by decide +kernel
theorem nd_X9_perform : yX9_perform.cls ≠ "java/lang/invoke/MethodHandle" ∧ yX9_perform.cls ≠ "java/lang/invoke/VarHandle" ∧ (parseMethodDescriptor yX9_perform.desc).map (fun d => d.parameters.length) = some 5 := ⟨nq_5.1, nq_5.2, pd_39⟩
abbrev qX9_performStep : fmY := (yX9_performStep, cX9_performStep, 4, (some .boolean))
set_option maxRecDepth 100000 in
theorem nc_X9_performStep : Cond.code yX9_performStep cX9_performStep 4 (some .boolean) ∈ fmWs := fm_c4 161 rfl rfl
theorem ns_X9_performStep : Cond.static yX9_performStep ∈ fmWs := fm_c4 160 (by eq_refl) rfl
theorem pd_40 : (parseMethodDescriptor "(LLifeDrawer$Desk;LLifeDrawer$State;II)Z").map (fun d => d.parameters.length) = some 4 := by decide +kernel
theorem nd_X9_performStep : yX9_performStep.cls ≠ "java/lang/invoke/MethodHandle" ∧ yX9_performStep.cls ≠ "java/lang/invoke/VarHandle" ∧ (parseMethodDescriptor yX9_performStep.desc).map (fun d => d.parameters.length) = some 4 := ⟨nq_5.1, nq_5.2, pd_40⟩
abbrev qX0_putPiece : fmY := (yX0_putPiece, cX0_putPiece, 4, (some .boolean))
set_option maxRecDepth 100000 in
theorem nc_X0_putPiece : Cond.code yX0_putPiece cX0_putPiece 4 (some .boolean) ∈ fmWs := fm_c4 165 rfl rfl
theorem nm_X0_putPiece : Cond.instanceMethod yX0_putPiece ∈ fmWs := fm_c4 163 (by eq_refl) rfl
theorem nl_X0_putPiece : Cond.selects RX0 yX0_putPiece yX0_putPiece ∈ fmWs := fm_c4 164 (by eq_refl) rfl
theorem nd_X0_putPiece : yX0_putPiece.cls ≠ "java/lang/invoke/MethodHandle" ∧ yX0_putPiece.cls ≠ "java/lang/invoke/VarHandle" ∧ (parseMethodDescriptor yX0_putPiece.desc).map (fun d => d.parameters.length) = some 2 := ⟨nq_6.1, nq_6.2, pd_12⟩
abbrev qX0_letDie : fmY := (yX0_letDie, cX0_letDie, 3, (some .boolean))
set_option maxRecDepth 100000 in
theorem nc_X0_letDie : Cond.code yX0_letDie cX0_letDie 3 (some .boolean) ∈ fmWs := fm_c4 169 rfl rfl
theorem nm_X0_letDie : Cond.instanceMethod yX0_letDie ∈ fmWs := fm_c4 167 (by eq_refl) rfl
theorem nl_X0_letDie : Cond.selects RX0 yX0_letDie yX0_letDie ∈ fmWs := fm_c4 168 (by eq_refl) rfl
theorem nd_X0_letDie : yX0_letDie.cls ≠ "java/lang/invoke/MethodHandle" ∧ yX0_letDie.cls ≠ "java/lang/invoke/VarHandle" ∧ (parseMethodDescriptor yX0_letDie.desc).map (fun d => d.parameters.length) = some 2 := ⟨nq_6.1, nq_6.2, pd_12⟩
abbrev qX0_passWeek : fmY := (yX0_passWeek, cX0_passWeek, 3, (some .boolean))
set_option maxRecDepth 100000 in
theorem nc_X0_passWeek : Cond.code yX0_passWeek cX0_passWeek 3 (some .boolean) ∈ fmWs := fm_c4 174 rfl rfl
theorem nm_X0_passWeek : Cond.instanceMethod yX0_passWeek ∈ fmWs := fm_c4 172 (by eq_refl) rfl
theorem nl_X0_passWeek : Cond.selects RX0 yX0_passWeek yX0_passWeek ∈ fmWs := fm_c4 173 (by eq_refl) rfl
theorem pd_41 : (parseMethodDescriptor "(LLifeDrawer$State;)Z").map (fun d => d.parameters.length) = some 1 := by decide +kernel
theorem nd_X0_passWeek : yX0_passWeek.cls ≠ "java/lang/invoke/MethodHandle" ∧ yX0_passWeek.cls ≠ "java/lang/invoke/VarHandle" ∧ (parseMethodDescriptor yX0_passWeek.desc).map (fun d => d.parameters.length) = some 1 := ⟨nq_6.1, nq_6.2, pd_41⟩
abbrev qX10_page : fmY := (yX10_page, cX10_page, 2, (some .int))
set_option maxRecDepth 100000 in
theorem nc_X10_page : Cond.code yX10_page cX10_page 2 (some .int) ∈ fmWs := fm_c4 181 rfl rfl
theorem nm_X10_page : Cond.instanceMethod yX10_page ∈ fmWs := fm_c4 179 (by eq_refl) rfl
theorem nl_X10_page : Cond.selects RX10 yX10_page yX10_page ∈ fmWs := fm_c4 180 (by eq_refl) rfl
theorem nd_X10_page : yX10_page.cls ≠ "java/lang/invoke/MethodHandle" ∧ yX10_page.cls ≠ "java/lang/invoke/VarHandle" ∧ (parseMethodDescriptor yX10_page.desc).map (fun d => d.parameters.length) = some 1 := ⟨nq_0.1, nq_0.2, pd_20⟩
abbrev qX2_read : fmY := (yX2_read, cX2_read, 8, (some .boolean))
set_option maxRecDepth 100000 in
theorem nc_X2_read : Cond.code yX2_read cX2_read 8 (some .boolean) ∈ fmWs := fm_c4 185 rfl rfl
theorem nm_X2_read : Cond.instanceMethod yX2_read ∈ fmWs := fm_c4 183 (by eq_refl) rfl
theorem nl_X2_read : Cond.selects RX2 yX2_read yX2_read ∈ fmWs := fm_c4 184 (by eq_refl) rfl
theorem nd_X2_read : yX2_read.cls ≠ "java/lang/invoke/MethodHandle" ∧ yX2_read.cls ≠ "java/lang/invoke/VarHandle" ∧ (parseMethodDescriptor yX2_read.desc).map (fun d => d.parameters.length) = some 1 := ⟨nq_4.1, nq_4.2, pd_25⟩
abbrev qJ6_bitCount_0f7a4 : fmY := (yJ6_bitCount_0f7a4, cJ6_bitCount_0f7a4, 1, (some .int))
set_option maxRecDepth 100000 in
theorem nc_J6_bitCount_0f7a4 : Cond.code yJ6_bitCount_0f7a4 cJ6_bitCount_0f7a4 1 (some .int) ∈ fmWs := fm_c4 194 rfl rfl
theorem ns_J6_bitCount_0f7a4 : Cond.static yJ6_bitCount_0f7a4 ∈ fmWs := fm_c4 193 (by eq_refl) rfl
theorem nq_16 : RJ6 ≠ "java/lang/invoke/MethodHandle" ∧ RJ6 ≠ "java/lang/invoke/VarHandle" := by decide +kernel
theorem nd_J6_bitCount_0f7a4 : yJ6_bitCount_0f7a4.cls ≠ "java/lang/invoke/MethodHandle" ∧ yJ6_bitCount_0f7a4.cls ≠ "java/lang/invoke/VarHandle" ∧ (parseMethodDescriptor yJ6_bitCount_0f7a4.desc).map (fun d => d.parameters.length) = some 1 := ⟨nq_16.1, nq_16.2, pd_20⟩
abbrev qX10_told : fmY := (yX10_told, cX10_told, 3, (some .int))
set_option maxRecDepth 100000 in
theorem nc_X10_told : Cond.code yX10_told cX10_told 3 (some .int) ∈ fmWs := fm_c4 204 rfl rfl
theorem nm_X10_told : Cond.instanceMethod yX10_told ∈ fmWs := fm_c4 202 (by eq_refl) rfl
theorem nl_X10_told : Cond.selects RX10 yX10_told yX10_told ∈ fmWs := fm_c4 203 (by eq_refl) rfl
theorem nd_X10_told : yX10_told.cls ≠ "java/lang/invoke/MethodHandle" ∧ yX10_told.cls ≠ "java/lang/invoke/VarHandle" ∧ (parseMethodDescriptor yX10_told.desc).map (fun d => d.parameters.length) = some 1 := ⟨nq_0.1, nq_0.2, pd_20⟩
abbrev qX6_pieces : fmY := (yX6_pieces, cX6_pieces, 4, (some .int))
set_option maxRecDepth 100000 in
theorem nc_X6_pieces : Cond.code yX6_pieces cX6_pieces 4 (some .int) ∈ fmWs := fm_c4 209 rfl rfl
theorem nm_X6_pieces : Cond.instanceMethod yX6_pieces ∈ fmWs := fm_c4 207 (by eq_refl) rfl
theorem nl_X6_pieces : Cond.selects RX6 yX6_pieces yX6_pieces ∈ fmWs := fm_c4 208 (by eq_refl) rfl
theorem nd_X6_pieces : yX6_pieces.cls ≠ "java/lang/invoke/MethodHandle" ∧ yX6_pieces.cls ≠ "java/lang/invoke/VarHandle" ∧ (parseMethodDescriptor yX6_pieces.desc).map (fun d => d.parameters.length) = some 1 := ⟨nq_9.1, nq_9.2, pd_20⟩
abbrev qX10_life : fmY := (yX10_life, cX10_life, 3, (some .int))
set_option maxRecDepth 100000 in
theorem nc_X10_life : Cond.code yX10_life cX10_life 3 (some .int) ∈ fmWs := fm_c4 217 rfl rfl
theorem nm_X10_life : Cond.instanceMethod yX10_life ∈ fmWs := fm_c4 215 (by eq_refl) rfl
theorem nl_X10_life : Cond.selects RX10 yX10_life yX10_life ∈ fmWs := fm_c4 216 (by eq_refl) rfl
theorem nd_X10_life : yX10_life.cls ≠ "java/lang/invoke/MethodHandle" ∧ yX10_life.cls ≠ "java/lang/invoke/VarHandle" ∧ (parseMethodDescriptor yX10_life.desc).map (fun d => d.parameters.length) = some 2 := ⟨nq_0.1, nq_0.2, pd_17⟩
abbrev qX10_needLife : fmY := (yX10_needLife, cX10_needLife, 2, none)
set_option maxRecDepth 100000 in
theorem nc_X10_needLife : Cond.code yX10_needLife cX10_needLife 2 none ∈ fmWs := fm_c4 221 rfl rfl
theorem nm_X10_needLife : Cond.instanceMethod yX10_needLife ∈ fmWs := fm_c4 220 (by eq_refl) rfl
theorem nl_X10_needLife : Cond.selects RX10 yX10_needLife yX10_needLife ∈ fmWs := fm_inp 21 (by eq_refl) rfl
theorem nd_X10_needLife : yX10_needLife.cls ≠ "java/lang/invoke/MethodHandle" ∧ yX10_needLife.cls ≠ "java/lang/invoke/VarHandle" ∧ (parseMethodDescriptor yX10_needLife.desc).map (fun d => d.parameters.length) = some 1 := ⟨nq_0.1, nq_0.2, pd_5⟩
abbrev qX10_facts : fmY := (yX10_facts, cX10_facts, 2, (some .int))
set_option maxRecDepth 100000 in
theorem nc_X10_facts : Cond.code yX10_facts cX10_facts 2 (some .int) ∈ fmWs := fm_c5 6 rfl rfl
theorem nm_X10_facts : Cond.instanceMethod yX10_facts ∈ fmWs := fm_c5 4 (by eq_refl) rfl
theorem nl_X10_facts : Cond.selects RX10 yX10_facts yX10_facts ∈ fmWs := fm_c5 5 (by eq_refl) rfl
theorem nd_X10_facts : yX10_facts.cls ≠ "java/lang/invoke/MethodHandle" ∧ yX10_facts.cls ≠ "java/lang/invoke/VarHandle" ∧ (parseMethodDescriptor yX10_facts.desc).map (fun d => d.parameters.length) = some 1 := ⟨nq_0.1, nq_0.2, pd_20⟩
abbrev qX10_wrong : fmY := (yX10_wrong, cX10_wrong, 3, (some .int))
set_option maxRecDepth 100000 in
theorem nc_X10_wrong : Cond.code yX10_wrong cX10_wrong 3 (some .int) ∈ fmWs := fm_c5 13 rfl rfl
theorem nm_X10_wrong : Cond.instanceMethod yX10_wrong ∈ fmWs := fm_c5 11 (by eq_refl) rfl
theorem nl_X10_wrong : Cond.selects RX10 yX10_wrong yX10_wrong ∈ fmWs := fm_c5 12 (by eq_refl) rfl
theorem nd_X10_wrong : yX10_wrong.cls ≠ "java/lang/invoke/MethodHandle" ∧ yX10_wrong.cls ≠ "java/lang/invoke/VarHandle" ∧ (parseMethodDescriptor yX10_wrong.desc).map (fun d => d.parameters.length) = some 1 := ⟨nq_0.1, nq_0.2, pd_20⟩
abbrev qX10_would : fmY := (yX10_would, cX10_would, 6, (some .int))
set_option maxRecDepth 100000 in
theorem nc_X10_would : Cond.code yX10_would cX10_would 6 (some .int) ∈ fmWs := fm_c5 21 rfl rfl
theorem nm_X10_would : Cond.instanceMethod yX10_would ∈ fmWs := fm_c5 19 (by eq_refl) rfl
theorem nl_X10_would : Cond.selects RX10 yX10_would yX10_would ∈ fmWs := fm_c5 20 (by eq_refl) rfl
theorem nd_X10_would : yX10_would.cls ≠ "java/lang/invoke/MethodHandle" ∧ yX10_would.cls ≠ "java/lang/invoke/VarHandle" ∧ (parseMethodDescriptor yX10_would.desc).map (fun d => d.parameters.length) = some 5 := ⟨nq_0.1, nq_0.2, pd_4⟩
abbrev qX10_loss : fmY := (yX10_loss, cX10_loss, 2, (some .long))
set_option maxRecDepth 100000 in
theorem nc_X10_loss : Cond.code yX10_loss cX10_loss 2 (some .long) ∈ fmWs := fm_c5 29 rfl rfl
theorem nm_X10_loss : Cond.instanceMethod yX10_loss ∈ fmWs := fm_c5 27 (by eq_refl) rfl
theorem nl_X10_loss : Cond.selects RX10 yX10_loss yX10_loss ∈ fmWs := fm_c5 28 (by eq_refl) rfl
theorem nd_X10_loss : yX10_loss.cls ≠ "java/lang/invoke/MethodHandle" ∧ yX10_loss.cls ≠ "java/lang/invoke/VarHandle" ∧ (parseMethodDescriptor yX10_loss.desc).map (fun d => d.parameters.length) = some 1 := ⟨nq_0.1, nq_0.2, pd_21⟩
abbrev qX10_needPart : fmY := (yX10_needPart, cX10_needPart, 2, none)
set_option maxRecDepth 100000 in
theorem nc_X10_needPart : Cond.code yX10_needPart cX10_needPart 2 none ∈ fmWs := fm_c5 33 rfl rfl
theorem nm_X10_needPart : Cond.instanceMethod yX10_needPart ∈ fmWs := fm_c5 32 (by eq_refl) rfl
theorem nl_X10_needPart : Cond.selects RX10 yX10_needPart yX10_needPart ∈ fmWs := fm_inp 22 (by eq_refl) rfl
theorem nd_X10_needPart : yX10_needPart.cls ≠ "java/lang/invoke/MethodHandle" ∧ yX10_needPart.cls ≠ "java/lang/invoke/VarHandle" ∧ (parseMethodDescriptor yX10_needPart.desc).map (fun d => d.parameters.length) = some 1 := ⟨nq_0.1, nq_0.2, pd_5⟩
abbrev qX10_termOf : fmY := (yX10_termOf, cX10_termOf, 12, (some .long))
set_option maxRecDepth 100000 in
theorem nc_X10_termOf : Cond.code yX10_termOf cX10_termOf 12 (some .long) ∈ fmWs := fm_c5 37 rfl rfl
theorem ns_X10_termOf : Cond.static yX10_termOf ∈ fmWs := fm_c5 36 (by eq_refl) rfl
theorem pd_42 : (parseMethodDescriptor "(JJI)J").map (fun d => d.parameters.length) = some 3 := by decide +kernel
theorem nd_X10_termOf : yX10_termOf.cls ≠ "java/lang/invoke/MethodHandle" ∧ yX10_termOf.cls ≠ "java/lang/invoke/VarHandle" ∧ (parseMethodDescriptor yX10_termOf.desc).map (fun d => d.parameters.length) = some 3 := ⟨nq_0.1, nq_0.2, pd_42⟩
abbrev qX10_cost : fmY := (yX10_cost, cX10_cost, 3, (some .long))
set_option maxRecDepth 100000 in
theorem nc_X10_cost : Cond.code yX10_cost cX10_cost 3 (some .long) ∈ fmWs := fm_c5 44 rfl rfl
theorem nm_X10_cost : Cond.instanceMethod yX10_cost ∈ fmWs := fm_c5 42 (by eq_refl) rfl
theorem nl_X10_cost : Cond.selects RX10 yX10_cost yX10_cost ∈ fmWs := fm_c5 43 (by eq_refl) rfl
theorem pd_43 : (parseMethodDescriptor "(II)J").map (fun d => d.parameters.length) = some 2 := by decide +kernel
theorem nd_X10_cost : yX10_cost.cls ≠ "java/lang/invoke/MethodHandle" ∧ yX10_cost.cls ≠ "java/lang/invoke/VarHandle" ∧ (parseMethodDescriptor yX10_cost.desc).map (fun d => d.parameters.length) = some 2 := ⟨nq_0.1, nq_0.2, pd_43⟩
abbrev qX10_risk : fmY := (yX10_risk, cX10_risk, 2, (some .long))
set_option maxRecDepth 100000 in
theorem nc_X10_risk : Cond.code yX10_risk cX10_risk 2 (some .long) ∈ fmWs := fm_c5 52 rfl rfl
theorem nm_X10_risk : Cond.instanceMethod yX10_risk ∈ fmWs := fm_c5 50 (by eq_refl) rfl
theorem nl_X10_risk : Cond.selects RX10 yX10_risk yX10_risk ∈ fmWs := fm_c5 51 (by eq_refl) rfl
theorem nd_X10_risk : yX10_risk.cls ≠ "java/lang/invoke/MethodHandle" ∧ yX10_risk.cls ≠ "java/lang/invoke/VarHandle" ∧ (parseMethodDescriptor yX10_risk.desc).map (fun d => d.parameters.length) = some 1 := ⟨nq_0.1, nq_0.2, pd_21⟩
abbrev qX10_saves : fmY := (yX10_saves, cX10_saves, 5, (some .long))
set_option maxRecDepth 100000 in
theorem nc_X10_saves : Cond.code yX10_saves cX10_saves 5 (some .long) ∈ fmWs := fm_c5 60 rfl rfl
theorem nm_X10_saves : Cond.instanceMethod yX10_saves ∈ fmWs := fm_c5 58 (by eq_refl) rfl
theorem nl_X10_saves : Cond.selects RX10 yX10_saves yX10_saves ∈ fmWs := fm_c5 59 (by eq_refl) rfl
theorem nd_X10_saves : yX10_saves.cls ≠ "java/lang/invoke/MethodHandle" ∧ yX10_saves.cls ≠ "java/lang/invoke/VarHandle" ∧ (parseMethodDescriptor yX10_saves.desc).map (fun d => d.parameters.length) = some 2 := ⟨nq_0.1, nq_0.2, pd_43⟩
abbrev qX10_stale : fmY := (yX10_stale, cX10_stale, 2, (some .int))
set_option maxRecDepth 100000 in
theorem nc_X10_stale : Cond.code yX10_stale cX10_stale 2 (some .int) ∈ fmWs := fm_c5 69 rfl rfl
theorem nm_X10_stale : Cond.instanceMethod yX10_stale ∈ fmWs := fm_c5 67 (by eq_refl) rfl
theorem nl_X10_stale : Cond.selects RX10 yX10_stale yX10_stale ∈ fmWs := fm_c5 68 (by eq_refl) rfl
theorem nd_X10_stale : yX10_stale.cls ≠ "java/lang/invoke/MethodHandle" ∧ yX10_stale.cls ≠ "java/lang/invoke/VarHandle" ∧ (parseMethodDescriptor yX10_stale.desc).map (fun d => d.parameters.length) = some 1 := ⟨nq_0.1, nq_0.2, pd_20⟩
abbrev qX10_piecesWrongBy : fmY := (yX10_piecesWrongBy, cX10_piecesWrongBy, 5, (some .int))
set_option maxRecDepth 100000 in
theorem nc_X10_piecesWrongBy : Cond.code yX10_piecesWrongBy cX10_piecesWrongBy 5 (some .int) ∈ fmWs := fm_c5 73 rfl rfl
theorem nm_X10_piecesWrongBy : Cond.instanceMethod yX10_piecesWrongBy ∈ fmWs := fm_c5 72 (by eq_refl) rfl
theorem nl_X10_piecesWrongBy : Cond.selects RX10 yX10_piecesWrongBy yX10_piecesWrongBy ∈ fmWs := fm_inp 23 (by eq_refl) rfl
theorem nd_X10_piecesWrongBy : yX10_piecesWrongBy.cls ≠ "java/lang/invoke/MethodHandle" ∧ yX10_piecesWrongBy.cls ≠ "java/lang/invoke/VarHandle" ∧ (parseMethodDescriptor yX10_piecesWrongBy.desc).map (fun d => d.parameters.length) = some 1 := ⟨nq_0.1, nq_0.2, pd_20⟩
abbrev qX10_best : fmY := (yX10_best, cX10_best, 3, (some .long))
set_option maxRecDepth 100000 in
theorem nc_X10_best : Cond.code yX10_best cX10_best 3 (some .long) ∈ fmWs := fm_c5 80 rfl rfl
theorem nm_X10_best : Cond.instanceMethod yX10_best ∈ fmWs := fm_c5 78 (by eq_refl) rfl
theorem nl_X10_best : Cond.selects RX10 yX10_best yX10_best ∈ fmWs := fm_c5 79 (by eq_refl) rfl
theorem nd_X10_best : yX10_best.cls ≠ "java/lang/invoke/MethodHandle" ∧ yX10_best.cls ≠ "java/lang/invoke/VarHandle" ∧ (parseMethodDescriptor yX10_best.desc).map (fun d => d.parameters.length) = some 2 := ⟨nq_0.1, nq_0.2, pd_43⟩
abbrev qX3_prepare : fmY := (yX3_prepare, cX3_prepare, 5, none)
set_option maxRecDepth 100000 in
theorem nc_X3_prepare : Cond.code yX3_prepare cX3_prepare 5 none ∈ fmWs := fm_c5 84 rfl rfl
theorem nm_X3_prepare : Cond.instanceMethod yX3_prepare ∈ fmWs := fm_c5 82 (by eq_refl) rfl
theorem nl_X3_prepare : Cond.selects RX3 yX3_prepare yX3_prepare ∈ fmWs := fm_c5 83 (by eq_refl) rfl
theorem pd_44 : (parseMethodDescriptor "(LLifeDrawer$State;I)V").map (fun d => d.parameters.length) = some 2 := by decide +kernel
theorem nd_X3_prepare : yX3_prepare.cls ≠ "java/lang/invoke/MethodHandle" ∧ yX3_prepare.cls ≠ "java/lang/invoke/VarHandle" ∧ (parseMethodDescriptor yX3_prepare.desc).map (fun d => d.parameters.length) = some 2 := ⟨nq_7.1, nq_7.2, pd_44⟩
abbrev qJ7_fill_d0a16 : fmY := (yJ7_fill_d0a16, cJ7_fill_d0a16, 5, none)
set_option maxRecDepth 100000 in
theorem nc_J7_fill_d0a16 : Cond.code yJ7_fill_d0a16 cJ7_fill_d0a16 5 none ∈ fmWs := fm_c5 87 rfl rfl
theorem ns_J7_fill_d0a16 : Cond.static yJ7_fill_d0a16 ∈ fmWs := fm_c5 86 (by eq_refl) rfl
theorem nq_17 : RJ7 ≠ "java/lang/invoke/MethodHandle" ∧ RJ7 ≠ "java/lang/invoke/VarHandle" := by decide +kernel
theorem pd_45 : (parseMethodDescriptor "([JJ)V").map (fun d => d.parameters.length) = some 2 := by decide +kernel
theorem nd_J7_fill_d0a16 : yJ7_fill_d0a16.cls ≠ "java/lang/invoke/MethodHandle" ∧ yJ7_fill_d0a16.cls ≠ "java/lang/invoke/VarHandle" ∧ (parseMethodDescriptor yJ7_fill_d0a16.desc).map (fun d => d.parameters.length) = some 2 := ⟨nq_17.1, nq_17.2, pd_45⟩
abbrev qX3_weighWays : fmY := (yX3_weighWays, cX3_weighWays, 10, none)
set_option maxRecDepth 100000 in
theorem nc_X3_weighWays : Cond.code yX3_weighWays cX3_weighWays 10 none ∈ fmWs := fm_c5 94 rfl rfl
theorem nm_X3_weighWays : Cond.instanceMethod yX3_weighWays ∈ fmWs := fm_c5 93 (by eq_refl) rfl
theorem nl_X3_weighWays : Cond.selects RX3 yX3_weighWays yX3_weighWays ∈ fmWs := fm_inp 24 (by eq_refl) rfl
theorem pd_46 : (parseMethodDescriptor "(LLifeDrawer$State;II)V").map (fun d => d.parameters.length) = some 3 := by decide +kernel
theorem nd_X3_weighWays : yX3_weighWays.cls ≠ "java/lang/invoke/MethodHandle" ∧ yX3_weighWays.cls ≠ "java/lang/invoke/VarHandle" ∧ (parseMethodDescriptor yX3_weighWays.desc).map (fun d => d.parameters.length) = some 3 := ⟨nq_7.1, nq_7.2, pd_46⟩
abbrev qX3_hoursAtAge : fmY := (yX3_hoursAtAge, cX3_hoursAtAge, 3, (some .int))
set_option maxRecDepth 100000 in
theorem nc_X3_hoursAtAge : Cond.code yX3_hoursAtAge cX3_hoursAtAge 3 (some .int) ∈ fmWs := fm_c5 98 rfl rfl
theorem nm_X3_hoursAtAge : Cond.instanceMethod yX3_hoursAtAge ∈ fmWs := fm_c5 97 (by eq_refl) rfl
theorem nl_X3_hoursAtAge : Cond.selects RX3 yX3_hoursAtAge yX3_hoursAtAge ∈ fmWs := fm_inp 25 (by eq_refl) rfl
theorem nd_X3_hoursAtAge : yX3_hoursAtAge.cls ≠ "java/lang/invoke/MethodHandle" ∧ yX3_hoursAtAge.cls ≠ "java/lang/invoke/VarHandle" ∧ (parseMethodDescriptor yX3_hoursAtAge.desc).map (fun d => d.parameters.length) = some 2 := ⟨nq_7.1, nq_7.2, pd_17⟩
abbrev qX3_keyShift : fmY := (yX3_keyShift, cX3_keyShift, 1, (some .int))
set_option maxRecDepth 100000 in
theorem nc_X3_keyShift : Cond.code yX3_keyShift cX3_keyShift 1 (some .int) ∈ fmWs := fm_c5 102 rfl rfl
theorem ns_X3_keyShift : Cond.static yX3_keyShift ∈ fmWs := fm_c5 101 (by eq_refl) rfl
theorem nd_X3_keyShift : yX3_keyShift.cls ≠ "java/lang/invoke/MethodHandle" ∧ yX3_keyShift.cls ≠ "java/lang/invoke/VarHandle" ∧ (parseMethodDescriptor yX3_keyShift.desc).map (fun d => d.parameters.length) = some 1 := ⟨nq_7.1, nq_7.2, pd_20⟩
abbrev qX0_lossAhead : fmY := (yX0_lossAhead, cX0_lossAhead, 13, (some .long))
set_option maxRecDepth 100000 in
theorem nc_X0_lossAhead : Cond.code yX0_lossAhead cX0_lossAhead 13 (some .long) ∈ fmWs := fm_c5 106 rfl rfl
theorem nm_X0_lossAhead : Cond.instanceMethod yX0_lossAhead ∈ fmWs := fm_c5 104 (by eq_refl) rfl
theorem nl_X0_lossAhead : Cond.selects RX0 yX0_lossAhead yX0_lossAhead ∈ fmWs := fm_c5 105 (by eq_refl) rfl
theorem nd_X0_lossAhead : yX0_lossAhead.cls ≠ "java/lang/invoke/MethodHandle" ∧ yX0_lossAhead.cls ≠ "java/lang/invoke/VarHandle" ∧ (parseMethodDescriptor yX0_lossAhead.desc).map (fun d => d.parameters.length) = some 4 := ⟨nq_6.1, nq_6.2, pd_13⟩
abbrev qX3_addLife : fmY := (yX3_addLife, cX3_addLife, 5, none)
set_option maxRecDepth 100000 in
theorem nc_X3_addLife : Cond.code yX3_addLife cX3_addLife 5 none ∈ fmWs := fm_c5 110 rfl rfl
theorem nm_X3_addLife : Cond.instanceMethod yX3_addLife ∈ fmWs := fm_c5 109 (by eq_refl) rfl
theorem nl_X3_addLife : Cond.selects RX3 yX3_addLife yX3_addLife ∈ fmWs := fm_inp 26 (by eq_refl) rfl
theorem nd_X3_addLife : yX3_addLife.cls ≠ "java/lang/invoke/MethodHandle" ∧ yX3_addLife.cls ≠ "java/lang/invoke/VarHandle" ∧ (parseMethodDescriptor yX3_addLife.desc).map (fun d => d.parameters.length) = some 1 := ⟨nq_7.1, nq_7.2, pd_5⟩
abbrev qX3_cellOf : fmY := (yX3_cellOf, cX3_cellOf, 3, (some .int))
set_option maxRecDepth 100000 in
theorem nc_X3_cellOf : Cond.code yX3_cellOf cX3_cellOf 3 (some .int) ∈ fmWs := fm_c5 113 rfl rfl
theorem ns_X3_cellOf : Cond.static yX3_cellOf ∈ fmWs := fm_c5 112 (by eq_refl) rfl
theorem nd_X3_cellOf : yX3_cellOf.cls ≠ "java/lang/invoke/MethodHandle" ∧ yX3_cellOf.cls ≠ "java/lang/invoke/VarHandle" ∧ (parseMethodDescriptor yX3_cellOf.desc).map (fun d => d.parameters.length) = some 3 := ⟨nq_7.1, nq_7.2, pd_15⟩
abbrev qX3_leastOf : fmY := (yX3_leastOf, cX3_leastOf, 11, (some .long))
set_option maxRecDepth 100000 in
theorem nc_X3_leastOf : Cond.code yX3_leastOf cX3_leastOf 11 (some .long) ∈ fmWs := fm_c5 117 rfl rfl
theorem nm_X3_leastOf : Cond.instanceMethod yX3_leastOf ∈ fmWs := fm_c5 116 (by eq_refl) rfl
theorem nl_X3_leastOf : Cond.selects RX3 yX3_leastOf yX3_leastOf ∈ fmWs := fm_inp 27 (by eq_refl) rfl
theorem pd_47 : (parseMethodDescriptor "(IIII)J").map (fun d => d.parameters.length) = some 4 := by decide +kernel
theorem nd_X3_leastOf : yX3_leastOf.cls ≠ "java/lang/invoke/MethodHandle" ∧ yX3_leastOf.cls ≠ "java/lang/invoke/VarHandle" ∧ (parseMethodDescriptor yX3_leastOf.desc).map (fun d => d.parameters.length) = some 4 := ⟨nq_7.1, nq_7.2, pd_47⟩
abbrev qJ9_min_f86c9 : fmY := (yJ9_min_f86c9, cJ9_min_f86c9, 4, (some .long))
set_option maxRecDepth 100000 in
theorem nc_J9_min_f86c9 : Cond.code yJ9_min_f86c9 cJ9_min_f86c9 4 (some .long) ∈ fmWs := fm_c5 120 rfl rfl
theorem ns_J9_min_f86c9 : Cond.static yJ9_min_f86c9 ∈ fmWs := fm_c5 119 (by eq_refl) rfl
theorem nd_J9_min_f86c9 : yJ9_min_f86c9.cls ≠ "java/lang/invoke/MethodHandle" ∧ yJ9_min_f86c9.cls ≠ "java/lang/invoke/VarHandle" ∧ (parseMethodDescriptor yJ9_min_f86c9.desc).map (fun d => d.parameters.length) = some 2 := ⟨nq_11.1, nq_11.2, pd_18⟩
abbrev qX3_leastLoss : fmY := (yX3_leastLoss, cX3_leastLoss, 1, (some .long))
set_option maxRecDepth 100000 in
theorem nc_X3_leastLoss : Cond.code yX3_leastLoss cX3_leastLoss 1 (some .long) ∈ fmWs := fm_c5 124 rfl rfl
theorem nm_X3_leastLoss : Cond.instanceMethod yX3_leastLoss ∈ fmWs := fm_c5 122 (by eq_refl) rfl
theorem nl_X3_leastLoss : Cond.selects RX3 yX3_leastLoss yX3_leastLoss ∈ fmWs := fm_c5 123 (by eq_refl) rfl
theorem pd_48 : (parseMethodDescriptor "()J").map (fun d => d.parameters.length) = some 0 := by decide +kernel
theorem nd_X3_leastLoss : yX3_leastLoss.cls ≠ "java/lang/invoke/MethodHandle" ∧ yX3_leastLoss.cls ≠ "java/lang/invoke/VarHandle" ∧ (parseMethodDescriptor yX3_leastLoss.desc).map (fun d => d.parameters.length) = some 0 := ⟨nq_7.1, nq_7.2, pd_48⟩
abbrev qX10_bestIn : fmY := (yX10_bestIn, cX10_bestIn, 3, (some .int))
set_option maxRecDepth 100000 in
theorem nc_X10_bestIn : Cond.code yX10_bestIn cX10_bestIn 3 (some .int) ∈ fmWs := fm_c5 131 rfl rfl
theorem nm_X10_bestIn : Cond.instanceMethod yX10_bestIn ∈ fmWs := fm_c5 129 (by eq_refl) rfl
theorem nl_X10_bestIn : Cond.selects RX10 yX10_bestIn yX10_bestIn ∈ fmWs := fm_c5 130 (by eq_refl) rfl
theorem nd_X10_bestIn : yX10_bestIn.cls ≠ "java/lang/invoke/MethodHandle" ∧ yX10_bestIn.cls ≠ "java/lang/invoke/VarHandle" ∧ (parseMethodDescriptor yX10_bestIn.desc).map (fun d => d.parameters.length) = some 2 := ⟨nq_0.1, nq_0.2, pd_17⟩
abbrev qX3_writtenIn : fmY := (yX3_writtenIn, cX3_writtenIn, 2, (some .int))
set_option maxRecDepth 100000 in
theorem nc_X3_writtenIn : Cond.code yX3_writtenIn cX3_writtenIn 2 (some .int) ∈ fmWs := fm_c5 135 rfl rfl
theorem nm_X3_writtenIn : Cond.instanceMethod yX3_writtenIn ∈ fmWs := fm_c5 133 (by eq_refl) rfl
theorem nl_X3_writtenIn : Cond.selects RX3 yX3_writtenIn yX3_writtenIn ∈ fmWs := fm_c5 134 (by eq_refl) rfl
theorem nd_X3_writtenIn : yX3_writtenIn.cls ≠ "java/lang/invoke/MethodHandle" ∧ yX3_writtenIn.cls ≠ "java/lang/invoke/VarHandle" ∧ (parseMethodDescriptor yX3_writtenIn.desc).map (fun d => d.parameters.length) = some 1 := ⟨nq_7.1, nq_7.2, pd_20⟩
abbrev qX10_often : fmY := (yX10_often, cX10_often, 11, (some .int))
set_option maxRecDepth 100000 in
theorem nc_X10_often : Cond.code yX10_often cX10_often 11 (some .int) ∈ fmWs := fm_c5 142 rfl rfl
theorem nm_X10_often : Cond.instanceMethod yX10_often ∈ fmWs := fm_c5 140 (by eq_refl) rfl
theorem nl_X10_often : Cond.selects RX10 yX10_often yX10_often ∈ fmWs := fm_c5 141 (by eq_refl) rfl
theorem nd_X10_often : yX10_often.cls ≠ "java/lang/invoke/MethodHandle" ∧ yX10_often.cls ≠ "java/lang/invoke/VarHandle" ∧ (parseMethodDescriptor yX10_often.desc).map (fun d => d.parameters.length) = some 2 := ⟨nq_0.1, nq_0.2, pd_17⟩
abbrev qX0_riskAtAge : fmY := (yX0_riskAtAge, cX0_riskAtAge, 6, (some .long))
set_option maxRecDepth 100000 in
theorem nc_X0_riskAtAge : Cond.code yX0_riskAtAge cX0_riskAtAge 6 (some .long) ∈ fmWs := fm_c5 146 rfl rfl
theorem nm_X0_riskAtAge : Cond.instanceMethod yX0_riskAtAge ∈ fmWs := fm_c5 144 (by eq_refl) rfl
theorem nl_X0_riskAtAge : Cond.selects RX0 yX0_riskAtAge yX0_riskAtAge ∈ fmWs := fm_c5 145 (by eq_refl) rfl
theorem pd_49 : (parseMethodDescriptor "(LLifeDrawer$State;II)J").map (fun d => d.parameters.length) = some 3 := by decide +kernel
theorem nd_X0_riskAtAge : yX0_riskAtAge.cls ≠ "java/lang/invoke/MethodHandle" ∧ yX0_riskAtAge.cls ≠ "java/lang/invoke/VarHandle" ∧ (parseMethodDescriptor yX0_riskAtAge.desc).map (fun d => d.parameters.length) = some 3 := ⟨nq_6.1, nq_6.2, pd_49⟩
abbrev qX10_renewalPrice : fmY := (yX10_renewalPrice, cX10_renewalPrice, 3, (some .long))
set_option maxRecDepth 100000 in
theorem nc_X10_renewalPrice : Cond.code yX10_renewalPrice cX10_renewalPrice 3 (some .long) ∈ fmWs := fm_c5 150 rfl rfl
theorem nm_X10_renewalPrice : Cond.instanceMethod yX10_renewalPrice ∈ fmWs := fm_c5 149 (by eq_refl) rfl
theorem nl_X10_renewalPrice : Cond.selects RX10 yX10_renewalPrice yX10_renewalPrice ∈ fmWs := fm_inp 28 (by eq_refl) rfl
theorem nd_X10_renewalPrice : yX10_renewalPrice.cls ≠ "java/lang/invoke/MethodHandle" ∧ yX10_renewalPrice.cls ≠ "java/lang/invoke/VarHandle" ∧ (parseMethodDescriptor yX10_renewalPrice.desc).map (fun d => d.parameters.length) = some 2 := ⟨nq_0.1, nq_0.2, pd_43⟩
abbrev qX10_yearly : fmY := (yX10_yearly, cX10_yearly, 8, (some .long))
set_option maxRecDepth 100000 in
theorem nc_X10_yearly : Cond.code yX10_yearly cX10_yearly 8 (some .long) ∈ fmWs := fm_c5 157 rfl rfl
theorem nm_X10_yearly : Cond.instanceMethod yX10_yearly ∈ fmWs := fm_c5 155 (by eq_refl) rfl
theorem nl_X10_yearly : Cond.selects RX10 yX10_yearly yX10_yearly ∈ fmWs := fm_c5 156 (by eq_refl) rfl
theorem nd_X10_yearly : yX10_yearly.cls ≠ "java/lang/invoke/MethodHandle" ∧ yX10_yearly.cls ≠ "java/lang/invoke/VarHandle" ∧ (parseMethodDescriptor yX10_yearly.desc).map (fun d => d.parameters.length) = some 4 := ⟨nq_0.1, nq_0.2, pd_47⟩
abbrev qX10_brings : fmY := (yX10_brings, cX10_brings, 7, (some .int))
set_option maxRecDepth 100000 in
theorem nc_X10_brings : Cond.code yX10_brings cX10_brings 7 (some .int) ∈ fmWs := fm_c5 164 rfl rfl
theorem nm_X10_brings : Cond.instanceMethod yX10_brings ∈ fmWs := fm_c5 162 (by eq_refl) rfl
theorem nl_X10_brings : Cond.selects RX10 yX10_brings yX10_brings ∈ fmWs := fm_c5 163 (by eq_refl) rfl
theorem pd_50 : (parseMethodDescriptor "(IIIIII)I").map (fun d => d.parameters.length) = some 6 := by decide +kernel
theorem nd_X10_brings : yX10_brings.cls ≠ "java/lang/invoke/MethodHandle" ∧ yX10_brings.cls ≠ "java/lang/invoke/VarHandle" ∧ (parseMethodDescriptor yX10_brings.desc).map (fun d => d.parameters.length) = some 6 := ⟨nq_0.1, nq_0.2, pd_50⟩
abbrev qX10_needRumour : fmY := (yX10_needRumour, cX10_needRumour, 5, none)
set_option maxRecDepth 100000 in
theorem nc_X10_needRumour : Cond.code yX10_needRumour cX10_needRumour 5 none ∈ fmWs := fm_c5 168 rfl rfl
theorem nm_X10_needRumour : Cond.instanceMethod yX10_needRumour ∈ fmWs := fm_c5 167 (by eq_refl) rfl
theorem nl_X10_needRumour : Cond.selects RX10 yX10_needRumour yX10_needRumour ∈ fmWs := fm_inp 29 (by eq_refl) rfl
theorem pd_51 : (parseMethodDescriptor "(IIII)V").map (fun d => d.parameters.length) = some 4 := by decide +kernel
theorem nd_X10_needRumour : yX10_needRumour.cls ≠ "java/lang/invoke/MethodHandle" ∧ yX10_needRumour.cls ≠ "java/lang/invoke/VarHandle" ∧ (parseMethodDescriptor yX10_needRumour.desc).map (fun d => d.parameters.length) = some 4 := ⟨nq_0.1, nq_0.2, pd_51⟩
abbrev qX10_meanOf : fmY := (yX10_meanOf, cX10_meanOf, 6, (some .int))
set_option maxRecDepth 100000 in
theorem nc_X10_meanOf : Cond.code yX10_meanOf cX10_meanOf 6 (some .int) ∈ fmWs := fm_c5 171 rfl rfl
theorem ns_X10_meanOf : Cond.static yX10_meanOf ∈ fmWs := fm_c5 170 (by eq_refl) rfl
theorem nd_X10_meanOf : yX10_meanOf.cls ≠ "java/lang/invoke/MethodHandle" ∧ yX10_meanOf.cls ≠ "java/lang/invoke/VarHandle" ∧ (parseMethodDescriptor yX10_meanOf.desc).map (fun d => d.parameters.length) = some 6 := ⟨nq_0.1, nq_0.2, pd_50⟩
abbrev qX10_says : fmY := (yX10_says, cX10_says, 6, (some .int))
set_option maxRecDepth 100000 in
theorem nc_X10_says : Cond.code yX10_says cX10_says 6 (some .int) ∈ fmWs := fm_c5 178 rfl rfl
theorem nm_X10_says : Cond.instanceMethod yX10_says ∈ fmWs := fm_c5 176 (by eq_refl) rfl
theorem nl_X10_says : Cond.selects RX10 yX10_says yX10_says ∈ fmWs := fm_c5 177 (by eq_refl) rfl
theorem nd_X10_says : yX10_says.cls ≠ "java/lang/invoke/MethodHandle" ∧ yX10_says.cls ≠ "java/lang/invoke/VarHandle" ∧ (parseMethodDescriptor yX10_says.desc).map (fun d => d.parameters.length) = some 5 := ⟨nq_0.1, nq_0.2, pd_4⟩
abbrev qX10_bestWay : fmY := (yX10_bestWay, cX10_bestWay, 9, (some .int))
set_option maxRecDepth 100000 in
theorem nc_X10_bestWay : Cond.code yX10_bestWay cX10_bestWay 9 (some .int) ∈ fmWs := fm_c5 181 rfl rfl
theorem ns_X10_bestWay : Cond.static yX10_bestWay ∈ fmWs := fm_c5 180 (by eq_refl) rfl
theorem nd_X10_bestWay : yX10_bestWay.cls ≠ "java/lang/invoke/MethodHandle" ∧ yX10_bestWay.cls ≠ "java/lang/invoke/VarHandle" ∧ (parseMethodDescriptor yX10_bestWay.desc).map (fun d => d.parameters.length) = some 5 := ⟨nq_0.1, nq_0.2, pd_4⟩
abbrev qX10_line : fmY := (yX10_line, cX10_line, 6, (some .int))
set_option maxRecDepth 100000 in
theorem nc_X10_line : Cond.code yX10_line cX10_line 6 (some .int) ∈ fmWs := fm_c5 188 rfl rfl
theorem nm_X10_line : Cond.instanceMethod yX10_line ∈ fmWs := fm_c5 186 (by eq_refl) rfl
theorem nl_X10_line : Cond.selects RX10 yX10_line yX10_line ∈ fmWs := fm_c5 187 (by eq_refl) rfl
theorem pd_52 : (parseMethodDescriptor "(IIII)I").map (fun d => d.parameters.length) = some 4 := by decide +kernel
theorem nd_X10_line : yX10_line.cls ≠ "java/lang/invoke/MethodHandle" ∧ yX10_line.cls ≠ "java/lang/invoke/VarHandle" ∧ (parseMethodDescriptor yX10_line.desc).map (fun d => d.parameters.length) = some 4 := ⟨nq_0.1, nq_0.2, pd_52⟩
abbrev qX10_room : fmY := (yX10_room, cX10_room, 3, (some .int))
set_option maxRecDepth 100000 in
theorem nc_X10_room : Cond.code yX10_room cX10_room 3 (some .int) ∈ fmWs := fm_c5 195 rfl rfl
theorem nm_X10_room : Cond.instanceMethod yX10_room ∈ fmWs := fm_c5 193 (by eq_refl) rfl
theorem nl_X10_room : Cond.selects RX10 yX10_room yX10_room ∈ fmWs := fm_c5 194 (by eq_refl) rfl
theorem nd_X10_room : yX10_room.cls ≠ "java/lang/invoke/MethodHandle" ∧ yX10_room.cls ≠ "java/lang/invoke/VarHandle" ∧ (parseMethodDescriptor yX10_room.desc).map (fun d => d.parameters.length) = some 2 := ⟨nq_0.1, nq_0.2, pd_17⟩
abbrev qX10_needBits : fmY := (yX10_needBits, cX10_needBits, 2, none)
set_option maxRecDepth 100000 in
theorem nc_X10_needBits : Cond.code yX10_needBits cX10_needBits 2 none ∈ fmWs := fm_c5 199 rfl rfl
theorem nm_X10_needBits : Cond.instanceMethod yX10_needBits ∈ fmWs := fm_c5 198 (by eq_refl) rfl
theorem nl_X10_needBits : Cond.selects RX10 yX10_needBits yX10_needBits ∈ fmWs := fm_inp 30 (by eq_refl) rfl
theorem nd_X10_needBits : yX10_needBits.cls ≠ "java/lang/invoke/MethodHandle" ∧ yX10_needBits.cls ≠ "java/lang/invoke/VarHandle" ∧ (parseMethodDescriptor yX10_needBits.desc).map (fun d => d.parameters.length) = some 1 := ⟨nq_0.1, nq_0.2, pd_5⟩
abbrev qX10_fillRoom : fmY := (yX10_fillRoom, cX10_fillRoom, 4, (some .int))
set_option maxRecDepth 100000 in
theorem nc_X10_fillRoom : Cond.code yX10_fillRoom cX10_fillRoom 4 (some .int) ∈ fmWs := fm_c5 203 rfl rfl
theorem nm_X10_fillRoom : Cond.instanceMethod yX10_fillRoom ∈ fmWs := fm_c5 202 (by eq_refl) rfl
theorem nl_X10_fillRoom : Cond.selects RX10 yX10_fillRoom yX10_fillRoom ∈ fmWs := fm_inp 31 (by eq_refl) rfl
theorem nd_X10_fillRoom : yX10_fillRoom.cls ≠ "java/lang/invoke/MethodHandle" ∧ yX10_fillRoom.cls ≠ "java/lang/invoke/VarHandle" ∧ (parseMethodDescriptor yX10_fillRoom.desc).map (fun d => d.parameters.length) = some 2 := ⟨nq_0.1, nq_0.2, pd_17⟩
abbrev qJ7_fill_53178 : fmY := (yJ7_fill_53178, cJ7_fill_53178, 4, none)
set_option maxRecDepth 100000 in
theorem nc_J7_fill_53178 : Cond.code yJ7_fill_53178 cJ7_fill_53178 4 none ∈ fmWs := fm_c5 206 rfl rfl
theorem ns_J7_fill_53178 : Cond.static yJ7_fill_53178 ∈ fmWs := fm_c5 205 (by eq_refl) rfl
theorem pd_53 : (parseMethodDescriptor "([II)V").map (fun d => d.parameters.length) = some 2 := by decide +kernel
theorem nd_J7_fill_53178 : yJ7_fill_53178.cls ≠ "java/lang/invoke/MethodHandle" ∧ yJ7_fill_53178.cls ≠ "java/lang/invoke/VarHandle" ∧ (parseMethodDescriptor yJ7_fill_53178.desc).map (fun d => d.parameters.length) = some 2 := ⟨nq_17.1, nq_17.2, pd_53⟩
abbrev qX10_addToRoom : fmY := (yX10_addToRoom, cX10_addToRoom, 7, none)
set_option maxRecDepth 100000 in
theorem nc_X10_addToRoom : Cond.code yX10_addToRoom cX10_addToRoom 7 none ∈ fmWs := fm_c5 210 rfl rfl
theorem nm_X10_addToRoom : Cond.instanceMethod yX10_addToRoom ∈ fmWs := fm_c5 209 (by eq_refl) rfl
theorem nl_X10_addToRoom : Cond.selects RX10 yX10_addToRoom yX10_addToRoom ∈ fmWs := fm_inp 32 (by eq_refl) rfl
theorem nd_X10_addToRoom : yX10_addToRoom.cls ≠ "java/lang/invoke/MethodHandle" ∧ yX10_addToRoom.cls ≠ "java/lang/invoke/VarHandle" ∧ (parseMethodDescriptor yX10_addToRoom.desc).map (fun d => d.parameters.length) = some 2 := ⟨nq_0.1, nq_0.2, pd_23⟩
abbrev qX10_roomShift : fmY := (yX10_roomShift, cX10_roomShift, 1, (some .int))
set_option maxRecDepth 100000 in
theorem nc_X10_roomShift : Cond.code yX10_roomShift cX10_roomShift 1 (some .int) ∈ fmWs := fm_c5 213 rfl rfl
theorem ns_X10_roomShift : Cond.static yX10_roomShift ∈ fmWs := fm_c5 212 (by eq_refl) rfl
theorem nd_X10_roomShift : yX10_roomShift.cls ≠ "java/lang/invoke/MethodHandle" ∧ yX10_roomShift.cls ≠ "java/lang/invoke/VarHandle" ∧ (parseMethodDescriptor yX10_roomShift.desc).map (fun d => d.parameters.length) = some 1 := ⟨nq_0.1, nq_0.2, pd_20⟩
abbrev qX10_roomWorth : fmY := (yX10_roomWorth, cX10_roomWorth, 1, (some .int))
set_option maxRecDepth 100000 in
theorem nc_X10_roomWorth : Cond.code yX10_roomWorth cX10_roomWorth 1 (some .int) ∈ fmWs := fm_c5 217 rfl rfl
theorem ns_X10_roomWorth : Cond.static yX10_roomWorth ∈ fmWs := fm_c5 216 (by eq_refl) rfl
theorem nd_X10_roomWorth : yX10_roomWorth.cls ≠ "java/lang/invoke/MethodHandle" ∧ yX10_roomWorth.cls ≠ "java/lang/invoke/VarHandle" ∧ (parseMethodDescriptor yX10_roomWorth.desc).map (fun d => d.parameters.length) = some 1 := ⟨nq_0.1, nq_0.2, pd_20⟩
abbrev qX10_lines : fmY := (yX10_lines, cX10_lines, 7, (some .int))
set_option maxRecDepth 100000 in
theorem nc_X10_lines : Cond.code yX10_lines cX10_lines 7 (some .int) ∈ fmWs := fm_c5 225 rfl rfl
theorem nm_X10_lines : Cond.instanceMethod yX10_lines ∈ fmWs := fm_c5 223 (by eq_refl) rfl
theorem nl_X10_lines : Cond.selects RX10 yX10_lines yX10_lines ∈ fmWs := fm_c5 224 (by eq_refl) rfl
theorem nd_X10_lines : yX10_lines.cls ≠ "java/lang/invoke/MethodHandle" ∧ yX10_lines.cls ≠ "java/lang/invoke/VarHandle" ∧ (parseMethodDescriptor yX10_lines.desc).map (fun d => d.parameters.length) = some 3 := ⟨nq_0.1, nq_0.2, pd_15⟩
abbrev qX10_apart : fmY := (yX10_apart, cX10_apart, 7, (some .int))
set_option maxRecDepth 100000 in
theorem nc_X10_apart : Cond.code yX10_apart cX10_apart 7 (some .int) ∈ fmWs := fm_c5 232 rfl rfl
theorem nm_X10_apart : Cond.instanceMethod yX10_apart ∈ fmWs := fm_c5 230 (by eq_refl) rfl
theorem nl_X10_apart : Cond.selects RX10 yX10_apart yX10_apart ∈ fmWs := fm_c5 231 (by eq_refl) rfl
theorem nd_X10_apart : yX10_apart.cls ≠ "java/lang/invoke/MethodHandle" ∧ yX10_apart.cls ≠ "java/lang/invoke/VarHandle" ∧ (parseMethodDescriptor yX10_apart.desc).map (fun d => d.parameters.length) = some 2 := ⟨nq_0.1, nq_0.2, pd_17⟩
abbrev qX10_tellsApart : fmY := (yX10_tellsApart, cX10_tellsApart, 6, (some .boolean))
set_option maxRecDepth 100000 in
theorem nc_X10_tellsApart : Cond.code yX10_tellsApart cX10_tellsApart 6 (some .boolean) ∈ fmWs := fm_c5 236 rfl rfl
theorem nm_X10_tellsApart : Cond.instanceMethod yX10_tellsApart ∈ fmWs := fm_c5 235 (by eq_refl) rfl
theorem nl_X10_tellsApart : Cond.selects RX10 yX10_tellsApart yX10_tellsApart ∈ fmWs := fm_inp 33 (by eq_refl) rfl
theorem nd_X10_tellsApart : yX10_tellsApart.cls ≠ "java/lang/invoke/MethodHandle" ∧ yX10_tellsApart.cls ≠ "java/lang/invoke/VarHandle" ∧ (parseMethodDescriptor yX10_tellsApart.desc).map (fun d => d.parameters.length) = some 2 := ⟨nq_0.1, nq_0.2, pd_36⟩
abbrev qX10_written : fmY := (yX10_written, cX10_written, 2, (some .long))
set_option maxRecDepth 100000 in
theorem nc_X10_written : Cond.code yX10_written cX10_written 2 (some .long) ∈ fmWs := fm_c6 3 rfl rfl
theorem nm_X10_written : Cond.instanceMethod yX10_written ∈ fmWs := fm_c6 1 (by eq_refl) rfl
theorem nl_X10_written : Cond.selects RX10 yX10_written yX10_written ∈ fmWs := fm_c6 2 (by eq_refl) rfl
theorem nd_X10_written : yX10_written.cls ≠ "java/lang/invoke/MethodHandle" ∧ yX10_written.cls ≠ "java/lang/invoke/VarHandle" ∧ (parseMethodDescriptor yX10_written.desc).map (fun d => d.parameters.length) = some 1 := ⟨nq_0.1, nq_0.2, pd_21⟩
abbrev qX10_ahead : fmY := (yX10_ahead, cX10_ahead, 3, (some .long))
set_option maxRecDepth 100000 in
theorem nc_X10_ahead : Cond.code yX10_ahead cX10_ahead 3 (some .long) ∈ fmWs := fm_c6 10 rfl rfl
theorem nm_X10_ahead : Cond.instanceMethod yX10_ahead ∈ fmWs := fm_c6 8 (by eq_refl) rfl
theorem nl_X10_ahead : Cond.selects RX10 yX10_ahead yX10_ahead ∈ fmWs := fm_c6 9 (by eq_refl) rfl
theorem nd_X10_ahead : yX10_ahead.cls ≠ "java/lang/invoke/MethodHandle" ∧ yX10_ahead.cls ≠ "java/lang/invoke/VarHandle" ∧ (parseMethodDescriptor yX10_ahead.desc).map (fun d => d.parameters.length) = some 2 := ⟨nq_0.1, nq_0.2, pd_43⟩
abbrev qX10_lives : fmY := (yX10_lives, cX10_lives, 7, (some .long))
set_option maxRecDepth 100000 in
theorem nc_X10_lives : Cond.code yX10_lives cX10_lives 7 (some .long) ∈ fmWs := fm_c6 17 rfl rfl
theorem nm_X10_lives : Cond.instanceMethod yX10_lives ∈ fmWs := fm_c6 15 (by eq_refl) rfl
theorem nl_X10_lives : Cond.selects RX10 yX10_lives yX10_lives ∈ fmWs := fm_c6 16 (by eq_refl) rfl
theorem pd_54 : (parseMethodDescriptor "(III)J").map (fun d => d.parameters.length) = some 3 := by decide +kernel
theorem nd_X10_lives : yX10_lives.cls ≠ "java/lang/invoke/MethodHandle" ∧ yX10_lives.cls ≠ "java/lang/invoke/VarHandle" ∧ (parseMethodDescriptor yX10_lives.desc).map (fun d => d.parameters.length) = some 3 := ⟨nq_0.1, nq_0.2, pd_54⟩
abbrev qX10_chain : fmY := (yX10_chain, cX10_chain, 7, (some .int))
set_option maxRecDepth 100000 in
theorem nc_X10_chain : Cond.code yX10_chain cX10_chain 7 (some .int) ∈ fmWs := fm_c6 24 rfl rfl
theorem nm_X10_chain : Cond.instanceMethod yX10_chain ∈ fmWs := fm_c6 22 (by eq_refl) rfl
theorem nl_X10_chain : Cond.selects RX10 yX10_chain yX10_chain ∈ fmWs := fm_c6 23 (by eq_refl) rfl
theorem nd_X10_chain : yX10_chain.cls ≠ "java/lang/invoke/MethodHandle" ∧ yX10_chain.cls ≠ "java/lang/invoke/VarHandle" ∧ (parseMethodDescriptor yX10_chain.desc).map (fun d => d.parameters.length) = some 2 := ⟨nq_0.1, nq_0.2, pd_17⟩
abbrev qX10_due : fmY := (yX10_due, cX10_due, 5, (some .int))
set_option maxRecDepth 100000 in
theorem nc_X10_due : Cond.code yX10_due cX10_due 5 (some .int) ∈ fmWs := fm_c6 31 rfl rfl
theorem nm_X10_due : Cond.instanceMethod yX10_due ∈ fmWs := fm_c6 29 (by eq_refl) rfl
theorem nl_X10_due : Cond.selects RX10 yX10_due yX10_due ∈ fmWs := fm_c6 30 (by eq_refl) rfl
theorem nd_X10_due : yX10_due.cls ≠ "java/lang/invoke/MethodHandle" ∧ yX10_due.cls ≠ "java/lang/invoke/VarHandle" ∧ (parseMethodDescriptor yX10_due.desc).map (fun d => d.parameters.length) = some 2 := ⟨nq_0.1, nq_0.2, pd_17⟩
abbrev qX10_news : fmY := (yX10_news, cX10_news, 2, (some .int))
set_option maxRecDepth 100000 in
theorem nc_X10_news : Cond.code yX10_news cX10_news 2 (some .int) ∈ fmWs := fm_c6 38 rfl rfl
theorem nm_X10_news : Cond.instanceMethod yX10_news ∈ fmWs := fm_c6 36 (by eq_refl) rfl
theorem nl_X10_news : Cond.selects RX10 yX10_news yX10_news ∈ fmWs := fm_c6 37 (by eq_refl) rfl
theorem nd_X10_news : yX10_news.cls ≠ "java/lang/invoke/MethodHandle" ∧ yX10_news.cls ≠ "java/lang/invoke/VarHandle" ∧ (parseMethodDescriptor yX10_news.desc).map (fun d => d.parameters.length) = some 1 := ⟨nq_0.1, nq_0.2, pd_20⟩
abbrev qX8_nextChange : fmY := (yX8_nextChange, cX8_nextChange, 6, (some .int))
set_option maxRecDepth 100000 in
theorem nc_X8_nextChange : Cond.code yX8_nextChange cX8_nextChange 6 (some .int) ∈ fmWs := fm_c6 42 rfl rfl
theorem nm_X8_nextChange : Cond.instanceMethod yX8_nextChange ∈ fmWs := fm_c6 40 (by eq_refl) rfl
theorem nl_X8_nextChange : Cond.selects RX8 yX8_nextChange yX8_nextChange ∈ fmWs := fm_c6 41 (by eq_refl) rfl
theorem nd_X8_nextChange : yX8_nextChange.cls ≠ "java/lang/invoke/MethodHandle" ∧ yX8_nextChange.cls ≠ "java/lang/invoke/VarHandle" ∧ (parseMethodDescriptor yX8_nextChange.desc).map (fun d => d.parameters.length) = some 2 := ⟨nq_2.1, nq_2.2, pd_17⟩
abbrev qX10_expects : fmY := (yX10_expects, cX10_expects, 4, (some .long))
set_option maxRecDepth 100000 in
theorem nc_X10_expects : Cond.code yX10_expects cX10_expects 4 (some .long) ∈ fmWs := fm_c6 49 rfl rfl
theorem nm_X10_expects : Cond.instanceMethod yX10_expects ∈ fmWs := fm_c6 47 (by eq_refl) rfl
theorem nl_X10_expects : Cond.selects RX10 yX10_expects yX10_expects ∈ fmWs := fm_c6 48 (by eq_refl) rfl
theorem nd_X10_expects : yX10_expects.cls ≠ "java/lang/invoke/MethodHandle" ∧ yX10_expects.cls ≠ "java/lang/invoke/VarHandle" ∧ (parseMethodDescriptor yX10_expects.desc).map (fun d => d.parameters.length) = some 3 := ⟨nq_0.1, nq_0.2, pd_54⟩
abbrev qX10_years : fmY := (yX10_years, cX10_years, 4, (some .int))
set_option maxRecDepth 100000 in
theorem nc_X10_years : Cond.code yX10_years cX10_years 4 (some .int) ∈ fmWs := fm_c6 57 rfl rfl
theorem nm_X10_years : Cond.instanceMethod yX10_years ∈ fmWs := fm_c6 55 (by eq_refl) rfl
theorem nl_X10_years : Cond.selects RX10 yX10_years yX10_years ∈ fmWs := fm_c6 56 (by eq_refl) rfl
theorem nd_X10_years : yX10_years.cls ≠ "java/lang/invoke/MethodHandle" ∧ yX10_years.cls ≠ "java/lang/invoke/VarHandle" ∧ (parseMethodDescriptor yX10_years.desc).map (fun d => d.parameters.length) = some 3 := ⟨nq_0.1, nq_0.2, pd_15⟩
abbrev qX4_play : fmY := (yX4_play, cX4_play, 5, none)
set_option maxRecDepth 100000 in
theorem nc_X4_play : Cond.code yX4_play cX4_play 5 none ∈ fmWs := fm_c6 61 rfl rfl
theorem nm_X4_play : Cond.instanceMethod yX4_play ∈ fmWs := fm_c6 59 (by eq_refl) rfl
theorem nl_X4_play : Cond.selects RX4 yX4_play yX4_play ∈ fmWs := fm_c6 60 (by eq_refl) rfl
theorem nd_X4_play : yX4_play.cls ≠ "java/lang/invoke/MethodHandle" ∧ yX4_play.cls ≠ "java/lang/invoke/VarHandle" ∧ (parseMethodDescriptor yX4_play.desc).map (fun d => d.parameters.length) = some 3 := ⟨nq_8.1, nq_8.2, pd_46⟩
abbrev qX4_drawDeaths : fmY := (yX4_drawDeaths, cX4_drawDeaths, 2, none)
set_option maxRecDepth 100000 in
theorem nc_X4_drawDeaths : Cond.code yX4_drawDeaths cX4_drawDeaths 2 none ∈ fmWs := fm_c6 66 rfl rfl
theorem nm_X4_drawDeaths : Cond.instanceMethod yX4_drawDeaths ∈ fmWs := fm_c6 65 (by eq_refl) rfl
theorem nl_X4_drawDeaths : Cond.selects RX4 yX4_drawDeaths yX4_drawDeaths ∈ fmWs := fm_inp 34 (by eq_refl) rfl
theorem nd_X4_drawDeaths : yX4_drawDeaths.cls ≠ "java/lang/invoke/MethodHandle" ∧ yX4_drawDeaths.cls ≠ "java/lang/invoke/VarHandle" ∧ (parseMethodDescriptor yX4_drawDeaths.desc).map (fun d => d.parameters.length) = some 0 := ⟨nq_8.1, nq_8.2, pd_0⟩
abbrev qX4_drawOf64 : fmY := (yX4_drawOf64, cX4_drawOf64, 1, (some .int))
set_option maxRecDepth 100000 in
theorem nc_X4_drawOf64 : Cond.code yX4_drawOf64 cX4_drawOf64 1 (some .int) ∈ fmWs := fm_c6 71 rfl rfl
theorem nm_X4_drawOf64 : Cond.instanceMethod yX4_drawOf64 ∈ fmWs := fm_c6 70 (by eq_refl) rfl
theorem nl_X4_drawOf64 : Cond.selects RX4 yX4_drawOf64 yX4_drawOf64 ∈ fmWs := fm_inp 35 (by eq_refl) rfl
theorem nd_X4_drawOf64 : yX4_drawOf64.cls ≠ "java/lang/invoke/MethodHandle" ∧ yX4_drawOf64.cls ≠ "java/lang/invoke/VarHandle" ∧ (parseMethodDescriptor yX4_drawOf64.desc).map (fun d => d.parameters.length) = some 0 := ⟨nq_8.1, nq_8.2, pd_6⟩
abbrev qX4_putFirsts : fmY := (yX4_putFirsts, cX4_putFirsts, 3, none)
set_option maxRecDepth 100000 in
theorem nc_X4_putFirsts : Cond.code yX4_putFirsts cX4_putFirsts 3 none ∈ fmWs := fm_c6 77 rfl rfl
theorem nm_X4_putFirsts : Cond.instanceMethod yX4_putFirsts ∈ fmWs := fm_c6 76 (by eq_refl) rfl
theorem nl_X4_putFirsts : Cond.selects RX4 yX4_putFirsts yX4_putFirsts ∈ fmWs := fm_inp 36 (by eq_refl) rfl
theorem nd_X4_putFirsts : yX4_putFirsts.cls ≠ "java/lang/invoke/MethodHandle" ∧ yX4_putFirsts.cls ≠ "java/lang/invoke/VarHandle" ∧ (parseMethodDescriptor yX4_putFirsts.desc).map (fun d => d.parameters.length) = some 0 := ⟨nq_8.1, nq_8.2, pd_0⟩
abbrev qX10_span : fmY := (yX10_span, cX10_span, 12, (some .int))
set_option maxRecDepth 100000 in
theorem nc_X10_span : Cond.code yX10_span cX10_span 12 (some .int) ∈ fmWs := fm_c6 88 rfl rfl
theorem nm_X10_span : Cond.instanceMethod yX10_span ∈ fmWs := fm_c6 86 (by eq_refl) rfl
theorem nl_X10_span : Cond.selects RX10 yX10_span yX10_span ∈ fmWs := fm_c6 87 (by eq_refl) rfl
theorem nd_X10_span : yX10_span.cls ≠ "java/lang/invoke/MethodHandle" ∧ yX10_span.cls ≠ "java/lang/invoke/VarHandle" ∧ (parseMethodDescriptor yX10_span.desc).map (fun d => d.parameters.length) = some 5 := ⟨nq_0.1, nq_0.2, pd_4⟩
abbrev qX11_init : fmY := (yX11_init, cX11_init, 1, none)
set_option maxRecDepth 100000 in
theorem nc_X11_init : Cond.code yX11_init cX11_init 1 none ∈ fmWs := fm_c6 93 rfl rfl
theorem nm_X11_init : Cond.instanceMethod yX11_init ∈ fmWs := fm_c6 92 (by eq_refl) rfl
theorem nq_18 : RX11 ≠ "java/lang/invoke/MethodHandle" ∧ RX11 ≠ "java/lang/invoke/VarHandle" := by decide +kernel
theorem nd_X11_init : yX11_init.cls ≠ "java/lang/invoke/MethodHandle" ∧ yX11_init.cls ≠ "java/lang/invoke/VarHandle" ∧ (parseMethodDescriptor yX11_init.desc).map (fun d => d.parameters.length) = some 0 := ⟨nq_18.1, nq_18.2, pd_0⟩
abbrev qX11_tellsNothing : fmY := (yX11_tellsNothing, cX11_tellsNothing, 1, none)
set_option maxRecDepth 100000 in
theorem nc_X11_tellsNothing : Cond.code yX11_tellsNothing cX11_tellsNothing 1 none ∈ fmWs := fm_c6 100 rfl rfl
theorem nm_X11_tellsNothing : Cond.instanceMethod yX11_tellsNothing ∈ fmWs := fm_c6 99 (by eq_refl) rfl
theorem nl_X11_tellsNothing : Cond.selects RX11 yX11_tellsNothing yX11_tellsNothing ∈ fmWs := fm_inp 37 (by eq_refl) rfl
theorem nd_X11_tellsNothing : yX11_tellsNothing.cls ≠ "java/lang/invoke/MethodHandle" ∧ yX11_tellsNothing.cls ≠ "java/lang/invoke/VarHandle" ∧ (parseMethodDescriptor yX11_tellsNothing.desc).map (fun d => d.parameters.length) = some 0 := ⟨nq_18.1, nq_18.2, pd_0⟩
abbrev qX11_stands : fmY := (yX11_stands, cX11_stands, 2, none)
set_option maxRecDepth 100000 in
theorem nc_X11_stands : Cond.code yX11_stands cX11_stands 2 none ∈ fmWs := fm_c6 104 rfl rfl
theorem nm_X11_stands : Cond.instanceMethod yX11_stands ∈ fmWs := fm_c6 103 (by eq_refl) rfl
theorem nl_X11_stands : Cond.selects RX11 yX11_stands yX11_stands ∈ fmWs := fm_inp 38 (by eq_refl) rfl
theorem nd_X11_stands : yX11_stands.cls ≠ "java/lang/invoke/MethodHandle" ∧ yX11_stands.cls ≠ "java/lang/invoke/VarHandle" ∧ (parseMethodDescriptor yX11_stands.desc).map (fun d => d.parameters.length) = some 0 := ⟨nq_18.1, nq_18.2, pd_0⟩
abbrev qX11_lays : fmY := (yX11_lays, cX11_lays, 5, none)
set_option maxRecDepth 100000 in
theorem nc_X11_lays : Cond.code yX11_lays cX11_lays 5 none ∈ fmWs := fm_c6 107 rfl rfl
theorem ns_X11_lays : Cond.static yX11_lays ∈ fmWs := fm_c6 106 (by eq_refl) rfl
theorem pd_55 : (parseMethodDescriptor "([[I[[II)V").map (fun d => d.parameters.length) = some 3 := by decide +kernel
theorem nd_X11_lays : yX11_lays.cls ≠ "java/lang/invoke/MethodHandle" ∧ yX11_lays.cls ≠ "java/lang/invoke/VarHandle" ∧ (parseMethodDescriptor yX11_lays.desc).map (fun d => d.parameters.length) = some 3 := ⟨nq_18.1, nq_18.2, pd_55⟩
abbrev qX11_feed : fmY := (yX11_feed, cX11_feed, 8, (some .int))
set_option maxRecDepth 100000 in
theorem nc_X11_feed : Cond.code yX11_feed cX11_feed 8 (some .int) ∈ fmWs := fm_c7 19 rfl rfl
theorem nm_X11_feed : Cond.instanceMethod yX11_feed ∈ fmWs := fm_c7 17 (by eq_refl) rfl
theorem nl_X11_feed : Cond.selects RX11 yX11_feed yX11_feed ∈ fmWs := fm_c7 18 (by eq_refl) rfl
theorem nd_X11_feed : yX11_feed.cls ≠ "java/lang/invoke/MethodHandle" ∧ yX11_feed.cls ≠ "java/lang/invoke/VarHandle" ∧ (parseMethodDescriptor yX11_feed.desc).map (fun d => d.parameters.length) = some 5 := ⟨nq_18.1, nq_18.2, pd_4⟩
abbrev qX11_drawer : fmY := (yX11_drawer, cX11_drawer, 2, (some .int))
set_option maxRecDepth 100000 in
theorem nc_X11_drawer : Cond.code yX11_drawer cX11_drawer 2 (some .int) ∈ fmWs := fm_c7 23 rfl rfl
theorem nm_X11_drawer : Cond.instanceMethod yX11_drawer ∈ fmWs := fm_c7 21 (by eq_refl) rfl
theorem nl_X11_drawer : Cond.selects RX11 yX11_drawer yX11_drawer ∈ fmWs := fm_c7 22 (by eq_refl) rfl
theorem nd_X11_drawer : yX11_drawer.cls ≠ "java/lang/invoke/MethodHandle" ∧ yX11_drawer.cls ≠ "java/lang/invoke/VarHandle" ∧ (parseMethodDescriptor yX11_drawer.desc).map (fun d => d.parameters.length) = some 1 := ⟨nq_18.1, nq_18.2, pd_20⟩
abbrev qX11_in : fmY := (yX11_in, cX11_in, 3, (some .boolean))
set_option maxRecDepth 100000 in
theorem nc_X11_in : Cond.code yX11_in cX11_in 3 (some .boolean) ∈ fmWs := fm_c7 26 rfl rfl
theorem ns_X11_in : Cond.static yX11_in ∈ fmWs := fm_c7 25 (by eq_refl) rfl
theorem pd_56 : (parseMethodDescriptor "(III)Z").map (fun d => d.parameters.length) = some 3 := by decide +kernel
theorem nd_X11_in : yX11_in.cls ≠ "java/lang/invoke/MethodHandle" ∧ yX11_in.cls ≠ "java/lang/invoke/VarHandle" ∧ (parseMethodDescriptor yX11_in.desc).map (fun d => d.parameters.length) = some 3 := ⟨nq_18.1, nq_18.2, pd_56⟩
abbrev qX11_bad : fmY := (yX11_bad, cX11_bad, 4, (some .boolean))
set_option maxRecDepth 100000 in
theorem nc_X11_bad : Cond.code yX11_bad cX11_bad 4 (some .boolean) ∈ fmWs := fm_c7 30 rfl rfl
theorem nm_X11_bad : Cond.instanceMethod yX11_bad ∈ fmWs := fm_c7 29 (by eq_refl) rfl
theorem nl_X11_bad : Cond.selects RX11 yX11_bad yX11_bad ∈ fmWs := fm_inp 39 (by eq_refl) rfl
theorem pd_57 : (parseMethodDescriptor "(ZII)Z").map (fun d => d.parameters.length) = some 3 := by decide +kernel
theorem nd_X11_bad : yX11_bad.cls ≠ "java/lang/invoke/MethodHandle" ∧ yX11_bad.cls ≠ "java/lang/invoke/VarHandle" ∧ (parseMethodDescriptor yX11_bad.desc).map (fun d => d.parameters.length) = some 3 := ⟨nq_18.1, nq_18.2, pd_57⟩
abbrev qX11_starts : fmY := (yX11_starts, cX11_starts, 2, none)
set_option maxRecDepth 100000 in
theorem nc_X11_starts : Cond.code yX11_starts cX11_starts 2 none ∈ fmWs := fm_c7 34 rfl rfl
theorem nm_X11_starts : Cond.instanceMethod yX11_starts ∈ fmWs := fm_c7 33 (by eq_refl) rfl
theorem nl_X11_starts : Cond.selects RX11 yX11_starts yX11_starts ∈ fmWs := fm_inp 40 (by eq_refl) rfl
theorem nd_X11_starts : yX11_starts.cls ≠ "java/lang/invoke/MethodHandle" ∧ yX11_starts.cls ≠ "java/lang/invoke/VarHandle" ∧ (parseMethodDescriptor yX11_starts.desc).map (fun d => d.parameters.length) = some 1 := ⟨nq_18.1, nq_18.2, pd_5⟩
abbrev qX11_blanks : fmY := (yX11_blanks, cX11_blanks, 1, none)
set_option maxRecDepth 100000 in
theorem nc_X11_blanks : Cond.code yX11_blanks cX11_blanks 1 none ∈ fmWs := fm_c7 38 rfl rfl
theorem nm_X11_blanks : Cond.instanceMethod yX11_blanks ∈ fmWs := fm_c7 37 (by eq_refl) rfl
theorem nl_X11_blanks : Cond.selects RX11 yX11_blanks yX11_blanks ∈ fmWs := fm_inp 41 (by eq_refl) rfl
theorem nd_X11_blanks : yX11_blanks.cls ≠ "java/lang/invoke/MethodHandle" ∧ yX11_blanks.cls ≠ "java/lang/invoke/VarHandle" ∧ (parseMethodDescriptor yX11_blanks.desc).map (fun d => d.parameters.length) = some 0 := ⟨nq_18.1, nq_18.2, pd_0⟩
abbrev qX11_byteAt : fmY := (yX11_byteAt, cX11_byteAt, 2, (some .int))
set_option maxRecDepth 100000 in
theorem nc_X11_byteAt : Cond.code yX11_byteAt cX11_byteAt 2 (some .int) ∈ fmWs := fm_c7 42 rfl rfl
theorem nm_X11_byteAt : Cond.instanceMethod yX11_byteAt ∈ fmWs := fm_c7 41 (by eq_refl) rfl
theorem nl_X11_byteAt : Cond.selects RX11 yX11_byteAt yX11_byteAt ∈ fmWs := fm_inp 42 (by eq_refl) rfl
theorem nd_X11_byteAt : yX11_byteAt.cls ≠ "java/lang/invoke/MethodHandle" ∧ yX11_byteAt.cls ≠ "java/lang/invoke/VarHandle" ∧ (parseMethodDescriptor yX11_byteAt.desc).map (fun d => d.parameters.length) = some 1 := ⟨nq_18.1, nq_18.2, pd_20⟩
abbrev qX11_clause : fmY := (yX11_clause, cX11_clause, 5, none)
set_option maxRecDepth 100000 in
theorem nc_X11_clause : Cond.code yX11_clause cX11_clause 5 none ∈ fmWs := fm_c7 46 rfl rfl
theorem nm_X11_clause : Cond.instanceMethod yX11_clause ∈ fmWs := fm_c7 45 (by eq_refl) rfl
theorem nl_X11_clause : Cond.selects RX11 yX11_clause yX11_clause ∈ fmWs := fm_inp 43 (by eq_refl) rfl
theorem nd_X11_clause : yX11_clause.cls ≠ "java/lang/invoke/MethodHandle" ∧ yX11_clause.cls ≠ "java/lang/invoke/VarHandle" ∧ (parseMethodDescriptor yX11_clause.desc).map (fun d => d.parameters.length) = some 0 := ⟨nq_18.1, nq_18.2, pd_0⟩
abbrev qX11_kindHere : fmY := (yX11_kindHere, cX11_kindHere, 1, (some .int))
set_option maxRecDepth 100000 in
theorem nc_X11_kindHere : Cond.code yX11_kindHere cX11_kindHere 1 (some .int) ∈ fmWs := fm_c7 50 rfl rfl
theorem nm_X11_kindHere : Cond.instanceMethod yX11_kindHere ∈ fmWs := fm_c7 49 (by eq_refl) rfl
theorem nl_X11_kindHere : Cond.selects RX11 yX11_kindHere yX11_kindHere ∈ fmWs := fm_inp 44 (by eq_refl) rfl
theorem nd_X11_kindHere : yX11_kindHere.cls ≠ "java/lang/invoke/MethodHandle" ∧ yX11_kindHere.cls ≠ "java/lang/invoke/VarHandle" ∧ (parseMethodDescriptor yX11_kindHere.desc).map (fun d => d.parameters.length) = some 0 := ⟨nq_18.1, nq_18.2, pd_6⟩
abbrev qX11_isWord : fmY := (yX11_isWord, cX11_isWord, 6, (some .boolean))
set_option maxRecDepth 100000 in
theorem nc_X11_isWord : Cond.code yX11_isWord cX11_isWord 6 (some .boolean) ∈ fmWs := fm_c7 54 rfl rfl
theorem nm_X11_isWord : Cond.instanceMethod yX11_isWord ∈ fmWs := fm_c7 53 (by eq_refl) rfl
theorem nl_X11_isWord : Cond.selects RX11 yX11_isWord yX11_isWord ∈ fmWs := fm_inp 45 (by eq_refl) rfl
theorem pd_58 : (parseMethodDescriptor "(IIIII)Z").map (fun d => d.parameters.length) = some 5 := by decide +kernel
theorem nd_X11_isWord : yX11_isWord.cls ≠ "java/lang/invoke/MethodHandle" ∧ yX11_isWord.cls ≠ "java/lang/invoke/VarHandle" ∧ (parseMethodDescriptor yX11_isWord.desc).map (fun d => d.parameters.length) = some 5 := ⟨nq_18.1, nq_18.2, pd_58⟩
abbrev qX11_wordHere : fmY := (yX11_wordHere, cX11_wordHere, 3, (some .int))
set_option maxRecDepth 100000 in
theorem nc_X11_wordHere : Cond.code yX11_wordHere cX11_wordHere 3 (some .int) ∈ fmWs := fm_c7 58 rfl rfl
theorem nm_X11_wordHere : Cond.instanceMethod yX11_wordHere ∈ fmWs := fm_c7 57 (by eq_refl) rfl
theorem nl_X11_wordHere : Cond.selects RX11 yX11_wordHere yX11_wordHere ∈ fmWs := fm_inp 46 (by eq_refl) rfl
theorem nd_X11_wordHere : yX11_wordHere.cls ≠ "java/lang/invoke/MethodHandle" ∧ yX11_wordHere.cls ≠ "java/lang/invoke/VarHandle" ∧ (parseMethodDescriptor yX11_wordHere.desc).map (fun d => d.parameters.length) = some 0 := ⟨nq_18.1, nq_18.2, pd_6⟩
abbrev qX11_isSmall : fmY := (yX11_isSmall, cX11_isSmall, 1, (some .boolean))
set_option maxRecDepth 100000 in
theorem nc_X11_isSmall : Cond.code yX11_isSmall cX11_isSmall 1 (some .boolean) ∈ fmWs := fm_c7 61 rfl rfl
theorem ns_X11_isSmall : Cond.static yX11_isSmall ∈ fmWs := fm_c7 60 (by eq_refl) rfl
theorem nd_X11_isSmall : yX11_isSmall.cls ≠ "java/lang/invoke/MethodHandle" ∧ yX11_isSmall.cls ≠ "java/lang/invoke/VarHandle" ∧ (parseMethodDescriptor yX11_isSmall.desc).map (fun d => d.parameters.length) = some 1 := ⟨nq_18.1, nq_18.2, pd_8⟩
abbrev qX11_five : fmY := (yX11_five, cX11_five, 6, (some .int))
set_option maxRecDepth 100000 in
theorem nc_X11_five : Cond.code yX11_five cX11_five 6 (some .int) ∈ fmWs := fm_c7 64 rfl rfl
theorem ns_X11_five : Cond.static yX11_five ∈ fmWs := fm_c7 63 (by eq_refl) rfl
theorem nd_X11_five : yX11_five.cls ≠ "java/lang/invoke/MethodHandle" ∧ yX11_five.cls ≠ "java/lang/invoke/VarHandle" ∧ (parseMethodDescriptor yX11_five.desc).map (fun d => d.parameters.length) = some 5 := ⟨nq_18.1, nq_18.2, pd_4⟩
abbrev qX11_wrongAt : fmY := (yX11_wrongAt, cX11_wrongAt, 3, none)
set_option maxRecDepth 100000 in
theorem nc_X11_wrongAt : Cond.code yX11_wrongAt cX11_wrongAt 3 none ∈ fmWs := fm_c7 68 rfl rfl
theorem nm_X11_wrongAt : Cond.instanceMethod yX11_wrongAt ∈ fmWs := fm_c7 67 (by eq_refl) rfl
theorem nl_X11_wrongAt : Cond.selects RX11 yX11_wrongAt yX11_wrongAt ∈ fmWs := fm_inp 47 (by eq_refl) rfl
theorem nd_X11_wrongAt : yX11_wrongAt.cls ≠ "java/lang/invoke/MethodHandle" ∧ yX11_wrongAt.cls ≠ "java/lang/invoke/VarHandle" ∧ (parseMethodDescriptor yX11_wrongAt.desc).map (fun d => d.parameters.length) = some 2 := ⟨nq_18.1, nq_18.2, pd_23⟩
abbrev qX11_skipWord : fmY := (yX11_skipWord, cX11_skipWord, 1, none)
set_option maxRecDepth 100000 in
theorem nc_X11_skipWord : Cond.code yX11_skipWord cX11_skipWord 1 none ∈ fmWs := fm_c7 72 rfl rfl
theorem nm_X11_skipWord : Cond.instanceMethod yX11_skipWord ∈ fmWs := fm_c7 71 (by eq_refl) rfl
theorem nl_X11_skipWord : Cond.selects RX11 yX11_skipWord yX11_skipWord ∈ fmWs := fm_inp 48 (by eq_refl) rfl
theorem nd_X11_skipWord : yX11_skipWord.cls ≠ "java/lang/invoke/MethodHandle" ∧ yX11_skipWord.cls ≠ "java/lang/invoke/VarHandle" ∧ (parseMethodDescriptor yX11_skipWord.desc).map (fun d => d.parameters.length) = some 0 := ⟨nq_18.1, nq_18.2, pd_0⟩
abbrev qX11_number : fmY := (yX11_number, cX11_number, 5, (some .int))
set_option maxRecDepth 100000 in
theorem nc_X11_number : Cond.code yX11_number cX11_number 5 (some .int) ∈ fmWs := fm_c7 76 rfl rfl
theorem nm_X11_number : Cond.instanceMethod yX11_number ∈ fmWs := fm_c7 75 (by eq_refl) rfl
theorem nl_X11_number : Cond.selects RX11 yX11_number yX11_number ∈ fmWs := fm_inp 49 (by eq_refl) rfl
theorem nd_X11_number : yX11_number.cls ≠ "java/lang/invoke/MethodHandle" ∧ yX11_number.cls ≠ "java/lang/invoke/VarHandle" ∧ (parseMethodDescriptor yX11_number.desc).map (fun d => d.parameters.length) = some 2 := ⟨nq_18.1, nq_18.2, pd_17⟩
abbrev qX11_isDigit : fmY := (yX11_isDigit, cX11_isDigit, 1, (some .boolean))
set_option maxRecDepth 100000 in
theorem nc_X11_isDigit : Cond.code yX11_isDigit cX11_isDigit 1 (some .boolean) ∈ fmWs := fm_c7 79 rfl rfl
theorem ns_X11_isDigit : Cond.static yX11_isDigit ∈ fmWs := fm_c7 78 (by eq_refl) rfl
theorem nd_X11_isDigit : yX11_isDigit.cls ≠ "java/lang/invoke/MethodHandle" ∧ yX11_isDigit.cls ≠ "java/lang/invoke/VarHandle" ∧ (parseMethodDescriptor yX11_isDigit.desc).map (fun d => d.parameters.length) = some 1 := ⟨nq_18.1, nq_18.2, pd_8⟩
abbrev qX11_lifeHere : fmY := (yX11_lifeHere, cX11_lifeHere, 1, (some .int))
set_option maxRecDepth 100000 in
theorem nc_X11_lifeHere : Cond.code yX11_lifeHere cX11_lifeHere 1 (some .int) ∈ fmWs := fm_c7 84 rfl rfl
theorem nm_X11_lifeHere : Cond.instanceMethod yX11_lifeHere ∈ fmWs := fm_c7 83 (by eq_refl) rfl
theorem nl_X11_lifeHere : Cond.selects RX11 yX11_lifeHere yX11_lifeHere ∈ fmWs := fm_inp 50 (by eq_refl) rfl
theorem nd_X11_lifeHere : yX11_lifeHere.cls ≠ "java/lang/invoke/MethodHandle" ∧ yX11_lifeHere.cls ≠ "java/lang/invoke/VarHandle" ∧ (parseMethodDescriptor yX11_lifeHere.desc).map (fun d => d.parameters.length) = some 0 := ⟨nq_18.1, nq_18.2, pd_6⟩
abbrev qX11_sign : fmY := (yX11_sign, cX11_sign, 2, none)
set_option maxRecDepth 100000 in
theorem nc_X11_sign : Cond.code yX11_sign cX11_sign 2 none ∈ fmWs := fm_c7 88 rfl rfl
theorem nm_X11_sign : Cond.instanceMethod yX11_sign ∈ fmWs := fm_c7 87 (by eq_refl) rfl
theorem nl_X11_sign : Cond.selects RX11 yX11_sign yX11_sign ∈ fmWs := fm_inp 51 (by eq_refl) rfl
theorem nd_X11_sign : yX11_sign.cls ≠ "java/lang/invoke/MethodHandle" ∧ yX11_sign.cls ≠ "java/lang/invoke/VarHandle" ∧ (parseMethodDescriptor yX11_sign.desc).map (fun d => d.parameters.length) = some 1 := ⟨nq_18.1, nq_18.2, pd_5⟩
abbrev qX11_ends : fmY := (yX11_ends, cX11_ends, 1, (some .int))
set_option maxRecDepth 100000 in
theorem nc_X11_ends : Cond.code yX11_ends cX11_ends 1 (some .int) ∈ fmWs := fm_c7 92 rfl rfl
theorem nm_X11_ends : Cond.instanceMethod yX11_ends ∈ fmWs := fm_c7 91 (by eq_refl) rfl
theorem nl_X11_ends : Cond.selects RX11 yX11_ends yX11_ends ∈ fmWs := fm_inp 52 (by eq_refl) rfl
theorem nd_X11_ends : yX11_ends.cls ≠ "java/lang/invoke/MethodHandle" ∧ yX11_ends.cls ≠ "java/lang/invoke/VarHandle" ∧ (parseMethodDescriptor yX11_ends.desc).map (fun d => d.parameters.length) = some 0 := ⟨nq_18.1, nq_18.2, pd_6⟩
abbrev qX11_law : fmY := (yX11_law, cX11_law, 2, (some .int))
set_option maxRecDepth 100000 in
theorem nc_X11_law : Cond.code yX11_law cX11_law 2 (some .int) ∈ fmWs := fm_c7 96 rfl rfl
theorem nm_X11_law : Cond.instanceMethod yX11_law ∈ fmWs := fm_c7 94 (by eq_refl) rfl
theorem nl_X11_law : Cond.selects RX11 yX11_law yX11_law ∈ fmWs := fm_c7 95 (by eq_refl) rfl
theorem nd_X11_law : yX11_law.cls ≠ "java/lang/invoke/MethodHandle" ∧ yX11_law.cls ≠ "java/lang/invoke/VarHandle" ∧ (parseMethodDescriptor yX11_law.desc).map (fun d => d.parameters.length) = some 1 := ⟨nq_18.1, nq_18.2, pd_20⟩
abbrev qX11_sum : fmY := (yX11_sum, cX11_sum, 2, none)
set_option maxRecDepth 100000 in
theorem nc_X11_sum : Cond.code yX11_sum cX11_sum 2 none ∈ fmWs := fm_c7 100 rfl rfl
theorem nm_X11_sum : Cond.instanceMethod yX11_sum ∈ fmWs := fm_c7 99 (by eq_refl) rfl
theorem nl_X11_sum : Cond.selects RX11 yX11_sum yX11_sum ∈ fmWs := fm_inp 53 (by eq_refl) rfl
theorem nd_X11_sum : yX11_sum.cls ≠ "java/lang/invoke/MethodHandle" ∧ yX11_sum.cls ≠ "java/lang/invoke/VarHandle" ∧ (parseMethodDescriptor yX11_sum.desc).map (fun d => d.parameters.length) = some 0 := ⟨nq_18.1, nq_18.2, pd_0⟩
abbrev qX11_product : fmY := (yX11_product, cX11_product, 2, none)
set_option maxRecDepth 100000 in
theorem nc_X11_product : Cond.code yX11_product cX11_product 2 none ∈ fmWs := fm_c7 104 rfl rfl
theorem nm_X11_product : Cond.instanceMethod yX11_product ∈ fmWs := fm_c7 103 (by eq_refl) rfl
theorem nl_X11_product : Cond.selects RX11 yX11_product yX11_product ∈ fmWs := fm_inp 54 (by eq_refl) rfl
theorem nd_X11_product : yX11_product.cls ≠ "java/lang/invoke/MethodHandle" ∧ yX11_product.cls ≠ "java/lang/invoke/VarHandle" ∧ (parseMethodDescriptor yX11_product.desc).map (fun d => d.parameters.length) = some 0 := ⟨nq_18.1, nq_18.2, pd_0⟩
abbrev qX11_one : fmY := (yX11_one, cX11_one, 3, none)
set_option maxRecDepth 100000 in
theorem nc_X11_one : Cond.code yX11_one cX11_one 3 none ∈ fmWs := fm_c7 108 rfl rfl
theorem nm_X11_one : Cond.instanceMethod yX11_one ∈ fmWs := fm_c7 107 (by eq_refl) rfl
theorem nl_X11_one : Cond.selects RX11 yX11_one yX11_one ∈ fmWs := fm_inp 55 (by eq_refl) rfl
theorem nd_X11_one : yX11_one.cls ≠ "java/lang/invoke/MethodHandle" ∧ yX11_one.cls ≠ "java/lang/invoke/VarHandle" ∧ (parseMethodDescriptor yX11_one.desc).map (fun d => d.parameters.length) = some 0 := ⟨nq_18.1, nq_18.2, pd_0⟩
abbrev qX11_opens : fmY := (yX11_opens, cX11_opens, 1, (some .boolean))
set_option maxRecDepth 100000 in
theorem nc_X11_opens : Cond.code yX11_opens cX11_opens 1 (some .boolean) ∈ fmWs := fm_c7 112 rfl rfl
theorem nm_X11_opens : Cond.instanceMethod yX11_opens ∈ fmWs := fm_c7 111 (by eq_refl) rfl
theorem nl_X11_opens : Cond.selects RX11 yX11_opens yX11_opens ∈ fmWs := fm_inp 56 (by eq_refl) rfl
theorem nd_X11_opens : yX11_opens.cls ≠ "java/lang/invoke/MethodHandle" ∧ yX11_opens.cls ≠ "java/lang/invoke/VarHandle" ∧ (parseMethodDescriptor yX11_opens.desc).map (fun d => d.parameters.length) = some 0 := ⟨nq_18.1, nq_18.2, pd_31⟩
abbrev qX11_notes : fmY := (yX11_notes, cX11_notes, 3, none)
set_option maxRecDepth 100000 in
theorem nc_X11_notes : Cond.code yX11_notes cX11_notes 3 none ∈ fmWs := fm_c7 116 rfl rfl
theorem nm_X11_notes : Cond.instanceMethod yX11_notes ∈ fmWs := fm_c7 115 (by eq_refl) rfl
theorem nl_X11_notes : Cond.selects RX11 yX11_notes yX11_notes ∈ fmWs := fm_inp 57 (by eq_refl) rfl
theorem nd_X11_notes : yX11_notes.cls ≠ "java/lang/invoke/MethodHandle" ∧ yX11_notes.cls ≠ "java/lang/invoke/VarHandle" ∧ (parseMethodDescriptor yX11_notes.desc).map (fun d => d.parameters.length) = some 2 := ⟨nq_18.1, nq_18.2, pd_23⟩
abbrev qX11_knownHere : fmY := (yX11_knownHere, cX11_knownHere, 1, (some .int))
set_option maxRecDepth 100000 in
theorem nc_X11_knownHere : Cond.code yX11_knownHere cX11_knownHere 1 (some .int) ∈ fmWs := fm_c7 120 rfl rfl
theorem nm_X11_knownHere : Cond.instanceMethod yX11_knownHere ∈ fmWs := fm_c7 119 (by eq_refl) rfl
theorem nl_X11_knownHere : Cond.selects RX11 yX11_knownHere yX11_knownHere ∈ fmWs := fm_inp 58 (by eq_refl) rfl
theorem nd_X11_knownHere : yX11_knownHere.cls ≠ "java/lang/invoke/MethodHandle" ∧ yX11_knownHere.cls ≠ "java/lang/invoke/VarHandle" ∧ (parseMethodDescriptor yX11_knownHere.desc).map (fun d => d.parameters.length) = some 0 := ⟨nq_18.1, nq_18.2, pd_6⟩
abbrev qX11_takes : fmY := (yX11_takes, cX11_takes, 7, (some .boolean))
set_option maxRecDepth 100000 in
theorem nc_X11_takes : Cond.code yX11_takes cX11_takes 7 (some .boolean) ∈ fmWs := fm_c7 124 rfl rfl
theorem nm_X11_takes : Cond.instanceMethod yX11_takes ∈ fmWs := fm_c7 123 (by eq_refl) rfl
theorem nl_X11_takes : Cond.selects RX11 yX11_takes yX11_takes ∈ fmWs := fm_inp 59 (by eq_refl) rfl
theorem nd_X11_takes : yX11_takes.cls ≠ "java/lang/invoke/MethodHandle" ∧ yX11_takes.cls ≠ "java/lang/invoke/VarHandle" ∧ (parseMethodDescriptor yX11_takes.desc).map (fun d => d.parameters.length) = some 5 := ⟨nq_18.1, nq_18.2, pd_58⟩
abbrev qX11_takesSign : fmY := (yX11_takesSign, cX11_takesSign, 3, (some .boolean))
set_option maxRecDepth 100000 in
theorem nc_X11_takesSign : Cond.code yX11_takesSign cX11_takesSign 3 (some .boolean) ∈ fmWs := fm_c7 128 rfl rfl
theorem nm_X11_takesSign : Cond.instanceMethod yX11_takesSign ∈ fmWs := fm_c7 127 (by eq_refl) rfl
theorem nl_X11_takesSign : Cond.selects RX11 yX11_takesSign yX11_takesSign ∈ fmWs := fm_inp 60 (by eq_refl) rfl
theorem nd_X11_takesSign : yX11_takesSign.cls ≠ "java/lang/invoke/MethodHandle" ∧ yX11_takesSign.cls ≠ "java/lang/invoke/VarHandle" ∧ (parseMethodDescriptor yX11_takesSign.desc).map (fun d => d.parameters.length) = some 1 := ⟨nq_18.1, nq_18.2, pd_8⟩
abbrev qX11_page : fmY := (yX11_page, cX11_page, 7, (some .int))
set_option maxRecDepth 100000 in
theorem nc_X11_page : Cond.code yX11_page cX11_page 7 (some .int) ∈ fmWs := fm_c7 132 rfl rfl
theorem nm_X11_page : Cond.instanceMethod yX11_page ∈ fmWs := fm_c7 130 (by eq_refl) rfl
theorem nl_X11_page : Cond.selects RX11 yX11_page yX11_page ∈ fmWs := fm_c7 131 (by eq_refl) rfl
theorem nd_X11_page : yX11_page.cls ≠ "java/lang/invoke/MethodHandle" ∧ yX11_page.cls ≠ "java/lang/invoke/VarHandle" ∧ (parseMethodDescriptor yX11_page.desc).map (fun d => d.parameters.length) = some 1 := ⟨nq_18.1, nq_18.2, pd_20⟩
abbrev qX11_has : fmY := (yX11_has, cX11_has, 2, (some .boolean))
set_option maxRecDepth 100000 in
theorem nc_X11_has : Cond.code yX11_has cX11_has 2 (some .boolean) ∈ fmWs := fm_c7 135 rfl rfl
theorem ns_X11_has : Cond.static yX11_has ∈ fmWs := fm_c7 134 (by eq_refl) rfl
theorem nd_X11_has : yX11_has.cls ≠ "java/lang/invoke/MethodHandle" ∧ yX11_has.cls ≠ "java/lang/invoke/VarHandle" ∧ (parseMethodDescriptor yX11_has.desc).map (fun d => d.parameters.length) = some 2 := ⟨nq_18.1, nq_18.2, pd_36⟩
abbrev qX11_fault : fmY := (yX11_fault, cX11_fault, 1, (some .int))
set_option maxRecDepth 100000 in
theorem nc_X11_fault : Cond.code yX11_fault cX11_fault 1 (some .int) ∈ fmWs := fm_c7 139 rfl rfl
theorem nm_X11_fault : Cond.instanceMethod yX11_fault ∈ fmWs := fm_c7 137 (by eq_refl) rfl
theorem nl_X11_fault : Cond.selects RX11 yX11_fault yX11_fault ∈ fmWs := fm_c7 138 (by eq_refl) rfl
theorem nd_X11_fault : yX11_fault.cls ≠ "java/lang/invoke/MethodHandle" ∧ yX11_fault.cls ≠ "java/lang/invoke/VarHandle" ∧ (parseMethodDescriptor yX11_fault.desc).map (fun d => d.parameters.length) = some 0 := ⟨nq_18.1, nq_18.2, pd_6⟩
abbrev qX11_work : fmY := (yX11_work, cX11_work, 2, (some .int))
set_option maxRecDepth 100000 in
theorem nc_X11_work : Cond.code yX11_work cX11_work 2 (some .int) ∈ fmWs := fm_c7 143 rfl rfl
theorem nm_X11_work : Cond.instanceMethod yX11_work ∈ fmWs := fm_c7 141 (by eq_refl) rfl
theorem nl_X11_work : Cond.selects RX11 yX11_work yX11_work ∈ fmWs := fm_c7 142 (by eq_refl) rfl
theorem nd_X11_work : yX11_work.cls ≠ "java/lang/invoke/MethodHandle" ∧ yX11_work.cls ≠ "java/lang/invoke/VarHandle" ∧ (parseMethodDescriptor yX11_work.desc).map (fun d => d.parameters.length) = some 1 := ⟨nq_18.1, nq_18.2, pd_20⟩
abbrev qX11_readsStep : fmY := (yX11_readsStep, cX11_readsStep, 3, none)
set_option maxRecDepth 100000 in
theorem nc_X11_readsStep : Cond.code yX11_readsStep cX11_readsStep 3 none ∈ fmWs := fm_c7 147 rfl rfl
theorem nm_X11_readsStep : Cond.instanceMethod yX11_readsStep ∈ fmWs := fm_c7 146 (by eq_refl) rfl
theorem nl_X11_readsStep : Cond.selects RX11 yX11_readsStep yX11_readsStep ∈ fmWs := fm_inp 61 (by eq_refl) rfl
theorem nd_X11_readsStep : yX11_readsStep.cls ≠ "java/lang/invoke/MethodHandle" ∧ yX11_readsStep.cls ≠ "java/lang/invoke/VarHandle" ∧ (parseMethodDescriptor yX11_readsStep.desc).map (fun d => d.parameters.length) = some 0 := ⟨nq_18.1, nq_18.2, pd_0⟩
abbrev qX11_stepHere : fmY := (yX11_stepHere, cX11_stepHere, 1, (some .int))
set_option maxRecDepth 100000 in
theorem nc_X11_stepHere : Cond.code yX11_stepHere cX11_stepHere 1 (some .int) ∈ fmWs := fm_c7 151 rfl rfl
theorem nm_X11_stepHere : Cond.instanceMethod yX11_stepHere ∈ fmWs := fm_c7 150 (by eq_refl) rfl
theorem nl_X11_stepHere : Cond.selects RX11 yX11_stepHere yX11_stepHere ∈ fmWs := fm_inp 62 (by eq_refl) rfl
theorem nd_X11_stepHere : yX11_stepHere.cls ≠ "java/lang/invoke/MethodHandle" ∧ yX11_stepHere.cls ≠ "java/lang/invoke/VarHandle" ∧ (parseMethodDescriptor yX11_stepHere.desc).map (fun d => d.parameters.length) = some 0 := ⟨nq_18.1, nq_18.2, pd_6⟩
abbrev qX11_copies : fmY := (yX11_copies, cX11_copies, 3, none)
set_option maxRecDepth 100000 in
theorem nc_X11_copies : Cond.code yX11_copies cX11_copies 3 none ∈ fmWs := fm_c7 154 rfl rfl
theorem ns_X11_copies : Cond.static yX11_copies ∈ fmWs := fm_c7 153 (by eq_refl) rfl
theorem pd_59 : (parseMethodDescriptor "([I[I)V").map (fun d => d.parameters.length) = some 2 := by decide +kernel
theorem nd_X11_copies : yX11_copies.cls ≠ "java/lang/invoke/MethodHandle" ∧ yX11_copies.cls ≠ "java/lang/invoke/VarHandle" ∧ (parseMethodDescriptor yX11_copies.desc).map (fun d => d.parameters.length) = some 2 := ⟨nq_18.1, nq_18.2, pd_59⟩
abbrev qX11_goes : fmY := (yX11_goes, cX11_goes, 5, none)
set_option maxRecDepth 100000 in
theorem nc_X11_goes : Cond.code yX11_goes cX11_goes 5 none ∈ fmWs := fm_c7 158 rfl rfl
theorem nm_X11_goes : Cond.instanceMethod yX11_goes ∈ fmWs := fm_c7 157 (by eq_refl) rfl
theorem nl_X11_goes : Cond.selects RX11 yX11_goes yX11_goes ∈ fmWs := fm_inp 63 (by eq_refl) rfl
theorem nd_X11_goes : yX11_goes.cls ≠ "java/lang/invoke/MethodHandle" ∧ yX11_goes.cls ≠ "java/lang/invoke/VarHandle" ∧ (parseMethodDescriptor yX11_goes.desc).map (fun d => d.parameters.length) = some 2 := ⟨nq_18.1, nq_18.2, pd_23⟩
abbrev qX11_does : fmY := (yX11_does, cX11_does, 4, (some .boolean))
set_option maxRecDepth 100000 in
theorem nc_X11_does : Cond.code yX11_does cX11_does 4 (some .boolean) ∈ fmWs := fm_c7 162 rfl rfl
theorem nm_X11_does : Cond.instanceMethod yX11_does ∈ fmWs := fm_c7 161 (by eq_refl) rfl
theorem nl_X11_does : Cond.selects RX11 yX11_does yX11_does ∈ fmWs := fm_inp 64 (by eq_refl) rfl
theorem pd_60 : (parseMethodDescriptor "([I[I)Z").map (fun d => d.parameters.length) = some 2 := by decide +kernel
theorem nd_X11_does : yX11_does.cls ≠ "java/lang/invoke/MethodHandle" ∧ yX11_does.cls ≠ "java/lang/invoke/VarHandle" ∧ (parseMethodDescriptor yX11_does.desc).map (fun d => d.parameters.length) = some 2 := ⟨nq_18.1, nq_18.2, pd_60⟩
abbrev qX11_mayWrite : fmY := (yX11_mayWrite, cX11_mayWrite, 3, (some .boolean))
set_option maxRecDepth 100000 in
theorem nc_X11_mayWrite : Cond.code yX11_mayWrite cX11_mayWrite 3 (some .boolean) ∈ fmWs := fm_c7 166 rfl rfl
theorem nm_X11_mayWrite : Cond.instanceMethod yX11_mayWrite ∈ fmWs := fm_c7 165 (by eq_refl) rfl
theorem nl_X11_mayWrite : Cond.selects RX11 yX11_mayWrite yX11_mayWrite ∈ fmWs := fm_inp 65 (by eq_refl) rfl
theorem pd_61 : (parseMethodDescriptor "([II)Z").map (fun d => d.parameters.length) = some 2 := by decide +kernel
theorem nd_X11_mayWrite : yX11_mayWrite.cls ≠ "java/lang/invoke/MethodHandle" ∧ yX11_mayWrite.cls ≠ "java/lang/invoke/VarHandle" ∧ (parseMethodDescriptor yX11_mayWrite.desc).map (fun d => d.parameters.length) = some 2 := ⟨nq_18.1, nq_18.2, pd_61⟩
abbrev qX11_hasPiece : fmY := (yX11_hasPiece, cX11_hasPiece, 2, (some .boolean))
set_option maxRecDepth 100000 in
theorem nc_X11_hasPiece : Cond.code yX11_hasPiece cX11_hasPiece 2 (some .boolean) ∈ fmWs := fm_c7 169 rfl rfl
theorem ns_X11_hasPiece : Cond.static yX11_hasPiece ∈ fmWs := fm_c7 168 (by eq_refl) rfl
theorem nd_X11_hasPiece : yX11_hasPiece.cls ≠ "java/lang/invoke/MethodHandle" ∧ yX11_hasPiece.cls ≠ "java/lang/invoke/VarHandle" ∧ (parseMethodDescriptor yX11_hasPiece.desc).map (fun d => d.parameters.length) = some 2 := ⟨nq_18.1, nq_18.2, pd_61⟩
abbrev qX11_hoursFor : fmY := (yX11_hoursFor, cX11_hoursFor, 3, (some .int))
set_option maxRecDepth 100000 in
theorem nc_X11_hoursFor : Cond.code yX11_hoursFor cX11_hoursFor 3 (some .int) ∈ fmWs := fm_c7 173 rfl rfl
theorem nm_X11_hoursFor : Cond.instanceMethod yX11_hoursFor ∈ fmWs := fm_c7 172 (by eq_refl) rfl
theorem nl_X11_hoursFor : Cond.selects RX11 yX11_hoursFor yX11_hoursFor ∈ fmWs := fm_inp 66 (by eq_refl) rfl
theorem pd_62 : (parseMethodDescriptor "([II)I").map (fun d => d.parameters.length) = some 2 := by decide +kernel
theorem nd_X11_hoursFor : yX11_hoursFor.cls ≠ "java/lang/invoke/MethodHandle" ∧ yX11_hoursFor.cls ≠ "java/lang/invoke/VarHandle" ∧ (parseMethodDescriptor yX11_hoursFor.desc).map (fun d => d.parameters.length) = some 2 := ⟨nq_18.1, nq_18.2, pd_62⟩
abbrev qX11_renewHours : fmY := (yX11_renewHours, cX11_renewHours, 2, (some .int))
set_option maxRecDepth 100000 in
theorem nc_X11_renewHours : Cond.code yX11_renewHours cX11_renewHours 2 (some .int) ∈ fmWs := fm_c7 177 rfl rfl
theorem nm_X11_renewHours : Cond.instanceMethod yX11_renewHours ∈ fmWs := fm_c7 176 (by eq_refl) rfl
theorem nl_X11_renewHours : Cond.selects RX11 yX11_renewHours yX11_renewHours ∈ fmWs := fm_inp 67 (by eq_refl) rfl
theorem nd_X11_renewHours : yX11_renewHours.cls ≠ "java/lang/invoke/MethodHandle" ∧ yX11_renewHours.cls ≠ "java/lang/invoke/VarHandle" ∧ (parseMethodDescriptor yX11_renewHours.desc).map (fun d => d.parameters.length) = some 1 := ⟨nq_18.1, nq_18.2, pd_20⟩
abbrev qX11_more : fmY := (yX11_more, cX11_more, 2, (some .int))
set_option maxRecDepth 100000 in
theorem nc_X11_more : Cond.code yX11_more cX11_more 2 (some .int) ∈ fmWs := fm_c7 180 rfl rfl
theorem ns_X11_more : Cond.static yX11_more ∈ fmWs := fm_c7 179 (by eq_refl) rfl
theorem nd_X11_more : yX11_more.cls ≠ "java/lang/invoke/MethodHandle" ∧ yX11_more.cls ≠ "java/lang/invoke/VarHandle" ∧ (parseMethodDescriptor yX11_more.desc).map (fun d => d.parameters.length) = some 2 := ⟨nq_18.1, nq_18.2, pd_17⟩
abbrev qX11_writes : fmY := (yX11_writes, cX11_writes, 3, none)
set_option maxRecDepth 100000 in
theorem nc_X11_writes : Cond.code yX11_writes cX11_writes 3 none ∈ fmWs := fm_c7 184 rfl rfl
theorem nm_X11_writes : Cond.instanceMethod yX11_writes ∈ fmWs := fm_c7 183 (by eq_refl) rfl
theorem nl_X11_writes : Cond.selects RX11 yX11_writes yX11_writes ∈ fmWs := fm_inp 68 (by eq_refl) rfl
theorem nd_X11_writes : yX11_writes.cls ≠ "java/lang/invoke/MethodHandle" ∧ yX11_writes.cls ≠ "java/lang/invoke/VarHandle" ∧ (parseMethodDescriptor yX11_writes.desc).map (fun d => d.parameters.length) = some 2 := ⟨nq_18.1, nq_18.2, pd_53⟩
abbrev qX11_dies : fmY := (yX11_dies, cX11_dies, 4, none)
set_option maxRecDepth 100000 in
theorem nc_X11_dies : Cond.code yX11_dies cX11_dies 4 none ∈ fmWs := fm_c7 188 rfl rfl
theorem nm_X11_dies : Cond.instanceMethod yX11_dies ∈ fmWs := fm_c7 187 (by eq_refl) rfl
theorem nl_X11_dies : Cond.selects RX11 yX11_dies yX11_dies ∈ fmWs := fm_inp 69 (by eq_refl) rfl
theorem nd_X11_dies : yX11_dies.cls ≠ "java/lang/invoke/MethodHandle" ∧ yX11_dies.cls ≠ "java/lang/invoke/VarHandle" ∧ (parseMethodDescriptor yX11_dies.desc).map (fun d => d.parameters.length) = some 2 := ⟨nq_18.1, nq_18.2, pd_53⟩
abbrev qX11_costOf : fmY := (yX11_costOf, cX11_costOf, 3, (some .int))
set_option maxRecDepth 100000 in
theorem nc_X11_costOf : Cond.code yX11_costOf cX11_costOf 3 (some .int) ∈ fmWs := fm_c7 192 rfl rfl
theorem nm_X11_costOf : Cond.instanceMethod yX11_costOf ∈ fmWs := fm_c7 191 (by eq_refl) rfl
theorem nl_X11_costOf : Cond.selects RX11 yX11_costOf yX11_costOf ∈ fmWs := fm_inp 70 (by eq_refl) rfl
theorem nd_X11_costOf : yX11_costOf.cls ≠ "java/lang/invoke/MethodHandle" ∧ yX11_costOf.cls ≠ "java/lang/invoke/VarHandle" ∧ (parseMethodDescriptor yX11_costOf.desc).map (fun d => d.parameters.length) = some 2 := ⟨nq_18.1, nq_18.2, pd_62⟩
abbrev qX11_costIn : fmY := (yX11_costIn, cX11_costIn, 5, (some .int))
set_option maxRecDepth 100000 in
theorem nc_X11_costIn : Cond.code yX11_costIn cX11_costIn 5 (some .int) ∈ fmWs := fm_c7 196 rfl rfl
theorem nm_X11_costIn : Cond.instanceMethod yX11_costIn ∈ fmWs := fm_c7 195 (by eq_refl) rfl
theorem nl_X11_costIn : Cond.selects RX11 yX11_costIn yX11_costIn ∈ fmWs := fm_inp 71 (by eq_refl) rfl
theorem pd_63 : (parseMethodDescriptor "([IIII)I").map (fun d => d.parameters.length) = some 4 := by decide +kernel
theorem nd_X11_costIn : yX11_costIn.cls ≠ "java/lang/invoke/MethodHandle" ∧ yX11_costIn.cls ≠ "java/lang/invoke/VarHandle" ∧ (parseMethodDescriptor yX11_costIn.desc).map (fun d => d.parameters.length) = some 4 := ⟨nq_18.1, nq_18.2, pd_63⟩
abbrev qX11_wrongIn : fmY := (yX11_wrongIn, cX11_wrongIn, 5, (some .int))
set_option maxRecDepth 100000 in
theorem nc_X11_wrongIn : Cond.code yX11_wrongIn cX11_wrongIn 5 (some .int) ∈ fmWs := fm_c7 200 rfl rfl
theorem nm_X11_wrongIn : Cond.instanceMethod yX11_wrongIn ∈ fmWs := fm_c7 199 (by eq_refl) rfl
theorem nl_X11_wrongIn : Cond.selects RX11 yX11_wrongIn yX11_wrongIn ∈ fmWs := fm_inp 72 (by eq_refl) rfl
theorem nd_X11_wrongIn : yX11_wrongIn.cls ≠ "java/lang/invoke/MethodHandle" ∧ yX11_wrongIn.cls ≠ "java/lang/invoke/VarHandle" ∧ (parseMethodDescriptor yX11_wrongIn.desc).map (fun d => d.parameters.length) = some 4 := ⟨nq_18.1, nq_18.2, pd_63⟩
abbrev qX11_yearsOf : fmY := (yX11_yearsOf, cX11_yearsOf, 3, (some .int))
set_option maxRecDepth 100000 in
theorem nc_X11_yearsOf : Cond.code yX11_yearsOf cX11_yearsOf 3 (some .int) ∈ fmWs := fm_c7 204 rfl rfl
theorem nm_X11_yearsOf : Cond.instanceMethod yX11_yearsOf ∈ fmWs := fm_c7 203 (by eq_refl) rfl
theorem nl_X11_yearsOf : Cond.selects RX11 yX11_yearsOf yX11_yearsOf ∈ fmWs := fm_inp 73 (by eq_refl) rfl
theorem nd_X11_yearsOf : yX11_yearsOf.cls ≠ "java/lang/invoke/MethodHandle" ∧ yX11_yearsOf.cls ≠ "java/lang/invoke/VarHandle" ∧ (parseMethodDescriptor yX11_yearsOf.desc).map (fun d => d.parameters.length) = some 2 := ⟨nq_18.1, nq_18.2, pd_17⟩
abbrev qX11_isByDead : fmY := (yX11_isByDead, cX11_isByDead, 3, (some .int))
set_option maxRecDepth 100000 in
theorem nc_X11_isByDead : Cond.code yX11_isByDead cX11_isByDead 3 (some .int) ∈ fmWs := fm_c7 208 rfl rfl
theorem nm_X11_isByDead : Cond.instanceMethod yX11_isByDead ∈ fmWs := fm_c7 207 (by eq_refl) rfl
theorem nl_X11_isByDead : Cond.selects RX11 yX11_isByDead yX11_isByDead ∈ fmWs := fm_inp 74 (by eq_refl) rfl
theorem nd_X11_isByDead : yX11_isByDead.cls ≠ "java/lang/invoke/MethodHandle" ∧ yX11_isByDead.cls ≠ "java/lang/invoke/VarHandle" ∧ (parseMethodDescriptor yX11_isByDead.desc).map (fun d => d.parameters.length) = some 2 := ⟨nq_18.1, nq_18.2, pd_62⟩
abbrev qX11_changesOf : fmY := (yX11_changesOf, cX11_changesOf, 6, (some .int))
set_option maxRecDepth 100000 in
theorem nc_X11_changesOf : Cond.code yX11_changesOf cX11_changesOf 6 (some .int) ∈ fmWs := fm_c7 212 rfl rfl
theorem nm_X11_changesOf : Cond.instanceMethod yX11_changesOf ∈ fmWs := fm_c7 211 (by eq_refl) rfl
theorem nl_X11_changesOf : Cond.selects RX11 yX11_changesOf yX11_changesOf ∈ fmWs := fm_inp 75 (by eq_refl) rfl
theorem nd_X11_changesOf : yX11_changesOf.cls ≠ "java/lang/invoke/MethodHandle" ∧ yX11_changesOf.cls ≠ "java/lang/invoke/VarHandle" ∧ (parseMethodDescriptor yX11_changesOf.desc).map (fun d => d.parameters.length) = some 3 := ⟨nq_18.1, nq_18.2, pd_15⟩
abbrev qX11_wrongBy : fmY := (yX11_wrongBy, cX11_wrongBy, 6, (some .int))
set_option maxRecDepth 100000 in
theorem nc_X11_wrongBy : Cond.code yX11_wrongBy cX11_wrongBy 6 (some .int) ∈ fmWs := fm_c7 216 rfl rfl
theorem nm_X11_wrongBy : Cond.instanceMethod yX11_wrongBy ∈ fmWs := fm_c7 215 (by eq_refl) rfl
theorem nl_X11_wrongBy : Cond.selects RX11 yX11_wrongBy yX11_wrongBy ∈ fmWs := fm_inp 76 (by eq_refl) rfl
theorem nd_X11_wrongBy : yX11_wrongBy.cls ≠ "java/lang/invoke/MethodHandle" ∧ yX11_wrongBy.cls ≠ "java/lang/invoke/VarHandle" ∧ (parseMethodDescriptor yX11_wrongBy.desc).map (fun d => d.parameters.length) = some 5 := ⟨nq_18.1, nq_18.2, pd_4⟩
abbrev qX11_byLaw : fmY := (yX11_byLaw, cX11_byLaw, 3, (some .int))
set_option maxRecDepth 100000 in
theorem nc_X11_byLaw : Cond.code yX11_byLaw cX11_byLaw 3 (some .int) ∈ fmWs := fm_c7 220 rfl rfl
theorem nm_X11_byLaw : Cond.instanceMethod yX11_byLaw ∈ fmWs := fm_c7 219 (by eq_refl) rfl
theorem nl_X11_byLaw : Cond.selects RX11 yX11_byLaw yX11_byLaw ∈ fmWs := fm_inp 77 (by eq_refl) rfl
theorem nd_X11_byLaw : yX11_byLaw.cls ≠ "java/lang/invoke/MethodHandle" ∧ yX11_byLaw.cls ≠ "java/lang/invoke/VarHandle" ∧ (parseMethodDescriptor yX11_byLaw.desc).map (fun d => d.parameters.length) = some 0 := ⟨nq_18.1, nq_18.2, pd_6⟩
abbrev qX11_by : fmY := (yX11_by, cX11_by, 3, (some .int))
set_option maxRecDepth 100000 in
theorem nc_X11_by : Cond.code yX11_by cX11_by 3 (some .int) ∈ fmWs := fm_c7 223 rfl rfl
theorem ns_X11_by : Cond.static yX11_by ∈ fmWs := fm_c7 222 (by eq_refl) rfl
theorem nd_X11_by : yX11_by.cls ≠ "java/lang/invoke/MethodHandle" ∧ yX11_by.cls ≠ "java/lang/invoke/VarHandle" ∧ (parseMethodDescriptor yX11_by.desc).map (fun d => d.parameters.length) = some 3 := ⟨nq_18.1, nq_18.2, pd_15⟩
abbrev qX11_less : fmY := (yX11_less, cX11_less, 2, (some .int))
set_option maxRecDepth 100000 in
theorem nc_X11_less : Cond.code yX11_less cX11_less 2 (some .int) ∈ fmWs := fm_c7 226 rfl rfl
theorem ns_X11_less : Cond.static yX11_less ∈ fmWs := fm_c7 225 (by eq_refl) rfl
theorem nd_X11_less : yX11_less.cls ≠ "java/lang/invoke/MethodHandle" ∧ yX11_less.cls ≠ "java/lang/invoke/VarHandle" ∧ (parseMethodDescriptor yX11_less.desc).map (fun d => d.parameters.length) = some 2 := ⟨nq_18.1, nq_18.2, pd_17⟩
abbrev qX11_weekEnds : fmY := (yX11_weekEnds, cX11_weekEnds, 2, (some .boolean))
set_option maxRecDepth 100000 in
theorem nc_X11_weekEnds : Cond.code yX11_weekEnds cX11_weekEnds 2 (some .boolean) ∈ fmWs := fm_c7 230 rfl rfl
theorem nm_X11_weekEnds : Cond.instanceMethod yX11_weekEnds ∈ fmWs := fm_c7 229 (by eq_refl) rfl
theorem nl_X11_weekEnds : Cond.selects RX11 yX11_weekEnds yX11_weekEnds ∈ fmWs := fm_inp 78 (by eq_refl) rfl
theorem pd_64 : (parseMethodDescriptor "([I)Z").map (fun d => d.parameters.length) = some 1 := by decide +kernel
theorem nd_X11_weekEnds : yX11_weekEnds.cls ≠ "java/lang/invoke/MethodHandle" ∧ yX11_weekEnds.cls ≠ "java/lang/invoke/VarHandle" ∧ (parseMethodDescriptor yX11_weekEnds.desc).map (fun d => d.parameters.length) = some 1 := ⟨nq_18.1, nq_18.2, pd_64⟩
abbrev qX11_undo : fmY := (yX11_undo, cX11_undo, 1, (some .int))
set_option maxRecDepth 100000 in
theorem nc_X11_undo : Cond.code yX11_undo cX11_undo 1 (some .int) ∈ fmWs := fm_c7 234 rfl rfl
theorem nm_X11_undo : Cond.instanceMethod yX11_undo ∈ fmWs := fm_c7 232 (by eq_refl) rfl
theorem nl_X11_undo : Cond.selects RX11 yX11_undo yX11_undo ∈ fmWs := fm_c7 233 (by eq_refl) rfl
theorem nd_X11_undo : yX11_undo.cls ≠ "java/lang/invoke/MethodHandle" ∧ yX11_undo.cls ≠ "java/lang/invoke/VarHandle" ∧ (parseMethodDescriptor yX11_undo.desc).map (fun d => d.parameters.length) = some 0 := ⟨nq_18.1, nq_18.2, pd_6⟩
abbrev qX11_told : fmY := (yX11_told, cX11_told, 4, (some .int))
set_option maxRecDepth 100000 in
theorem nc_X11_told : Cond.code yX11_told cX11_told 4 (some .int) ∈ fmWs := fm_c7 238 rfl rfl
theorem nm_X11_told : Cond.instanceMethod yX11_told ∈ fmWs := fm_c7 236 (by eq_refl) rfl
theorem nl_X11_told : Cond.selects RX11 yX11_told yX11_told ∈ fmWs := fm_c7 237 (by eq_refl) rfl
theorem nd_X11_told : yX11_told.cls ≠ "java/lang/invoke/MethodHandle" ∧ yX11_told.cls ≠ "java/lang/invoke/VarHandle" ∧ (parseMethodDescriptor yX11_told.desc).map (fun d => d.parameters.length) = some 1 := ⟨nq_18.1, nq_18.2, pd_20⟩
abbrev qX11_aliveIn : fmY := (yX11_aliveIn, cX11_aliveIn, 4, (some .int))
set_option maxRecDepth 100000 in
theorem nc_X11_aliveIn : Cond.code yX11_aliveIn cX11_aliveIn 4 (some .int) ∈ fmWs := fm_c8 2 rfl rfl
theorem nm_X11_aliveIn : Cond.instanceMethod yX11_aliveIn ∈ fmWs := fm_c8 1 (by eq_refl) rfl
theorem nl_X11_aliveIn : Cond.selects RX11 yX11_aliveIn yX11_aliveIn ∈ fmWs := fm_inp 79 (by eq_refl) rfl
theorem pd_65 : (parseMethodDescriptor "([I)I").map (fun d => d.parameters.length) = some 1 := by decide +kernel
theorem nd_X11_aliveIn : yX11_aliveIn.cls ≠ "java/lang/invoke/MethodHandle" ∧ yX11_aliveIn.cls ≠ "java/lang/invoke/VarHandle" ∧ (parseMethodDescriptor yX11_aliveIn.desc).map (fun d => d.parameters.length) = some 1 := ⟨nq_18.1, nq_18.2, pd_65⟩
abbrev qX11_life : fmY := (yX11_life, cX11_life, 3, (some .int))
set_option maxRecDepth 100000 in
theorem nc_X11_life : Cond.code yX11_life cX11_life 3 (some .int) ∈ fmWs := fm_c8 6 rfl rfl
theorem nm_X11_life : Cond.instanceMethod yX11_life ∈ fmWs := fm_c8 4 (by eq_refl) rfl
theorem nl_X11_life : Cond.selects RX11 yX11_life yX11_life ∈ fmWs := fm_c8 5 (by eq_refl) rfl
theorem nd_X11_life : yX11_life.cls ≠ "java/lang/invoke/MethodHandle" ∧ yX11_life.cls ≠ "java/lang/invoke/VarHandle" ∧ (parseMethodDescriptor yX11_life.desc).map (fun d => d.parameters.length) = some 2 := ⟨nq_18.1, nq_18.2, pd_17⟩
abbrev qX11_isLife : fmY := (yX11_isLife, cX11_isLife, 2, (some .boolean))
set_option maxRecDepth 100000 in
theorem nc_X11_isLife : Cond.code yX11_isLife cX11_isLife 2 (some .boolean) ∈ fmWs := fm_c8 10 rfl rfl
theorem nm_X11_isLife : Cond.instanceMethod yX11_isLife ∈ fmWs := fm_c8 9 (by eq_refl) rfl
theorem nl_X11_isLife : Cond.selects RX11 yX11_isLife yX11_isLife ∈ fmWs := fm_inp 80 (by eq_refl) rfl
theorem nd_X11_isLife : yX11_isLife.cls ≠ "java/lang/invoke/MethodHandle" ∧ yX11_isLife.cls ≠ "java/lang/invoke/VarHandle" ∧ (parseMethodDescriptor yX11_isLife.desc).map (fun d => d.parameters.length) = some 1 := ⟨nq_18.1, nq_18.2, pd_8⟩
abbrev qX11_facts : fmY := (yX11_facts, cX11_facts, 2, (some .int))
set_option maxRecDepth 100000 in
theorem nc_X11_facts : Cond.code yX11_facts cX11_facts 2 (some .int) ∈ fmWs := fm_c8 14 rfl rfl
theorem nm_X11_facts : Cond.instanceMethod yX11_facts ∈ fmWs := fm_c8 12 (by eq_refl) rfl
theorem nl_X11_facts : Cond.selects RX11 yX11_facts yX11_facts ∈ fmWs := fm_c8 13 (by eq_refl) rfl
theorem nd_X11_facts : yX11_facts.cls ≠ "java/lang/invoke/MethodHandle" ∧ yX11_facts.cls ≠ "java/lang/invoke/VarHandle" ∧ (parseMethodDescriptor yX11_facts.desc).map (fun d => d.parameters.length) = some 1 := ⟨nq_18.1, nq_18.2, pd_20⟩
abbrev qX11_factsAt : fmY := (yX11_factsAt, cX11_factsAt, 5, (some .int))
set_option maxRecDepth 100000 in
theorem nc_X11_factsAt : Cond.code yX11_factsAt cX11_factsAt 5 (some .int) ∈ fmWs := fm_c8 18 rfl rfl
theorem nm_X11_factsAt : Cond.instanceMethod yX11_factsAt ∈ fmWs := fm_c8 17 (by eq_refl) rfl
theorem nl_X11_factsAt : Cond.selects RX11 yX11_factsAt yX11_factsAt ∈ fmWs := fm_inp 81 (by eq_refl) rfl
theorem nd_X11_factsAt : yX11_factsAt.cls ≠ "java/lang/invoke/MethodHandle" ∧ yX11_factsAt.cls ≠ "java/lang/invoke/VarHandle" ∧ (parseMethodDescriptor yX11_factsAt.desc).map (fun d => d.parameters.length) = some 2 := ⟨nq_18.1, nq_18.2, pd_17⟩
abbrev qX11_wrong : fmY := (yX11_wrong, cX11_wrong, 2, (some .int))
set_option maxRecDepth 100000 in
theorem nc_X11_wrong : Cond.code yX11_wrong cX11_wrong 2 (some .int) ∈ fmWs := fm_c8 22 rfl rfl
theorem nm_X11_wrong : Cond.instanceMethod yX11_wrong ∈ fmWs := fm_c8 20 (by eq_refl) rfl
theorem nl_X11_wrong : Cond.selects RX11 yX11_wrong yX11_wrong ∈ fmWs := fm_c8 21 (by eq_refl) rfl
theorem nd_X11_wrong : yX11_wrong.cls ≠ "java/lang/invoke/MethodHandle" ∧ yX11_wrong.cls ≠ "java/lang/invoke/VarHandle" ∧ (parseMethodDescriptor yX11_wrong.desc).map (fun d => d.parameters.length) = some 1 := ⟨nq_18.1, nq_18.2, pd_20⟩
abbrev qX11_wrongOf : fmY := (yX11_wrongOf, cX11_wrongOf, 2, (some .int))
set_option maxRecDepth 100000 in
theorem nc_X11_wrongOf : Cond.code yX11_wrongOf cX11_wrongOf 2 (some .int) ∈ fmWs := fm_c8 26 rfl rfl
theorem nm_X11_wrongOf : Cond.instanceMethod yX11_wrongOf ∈ fmWs := fm_c8 25 (by eq_refl) rfl
theorem nl_X11_wrongOf : Cond.selects RX11 yX11_wrongOf yX11_wrongOf ∈ fmWs := fm_inp 82 (by eq_refl) rfl
theorem nd_X11_wrongOf : yX11_wrongOf.cls ≠ "java/lang/invoke/MethodHandle" ∧ yX11_wrongOf.cls ≠ "java/lang/invoke/VarHandle" ∧ (parseMethodDescriptor yX11_wrongOf.desc).map (fun d => d.parameters.length) = some 1 := ⟨nq_18.1, nq_18.2, pd_20⟩
abbrev qX11_would : fmY := (yX11_would, cX11_would, 6, (some .int))
set_option maxRecDepth 100000 in
theorem nc_X11_would : Cond.code yX11_would cX11_would 6 (some .int) ∈ fmWs := fm_c8 30 rfl rfl
theorem nm_X11_would : Cond.instanceMethod yX11_would ∈ fmWs := fm_c8 28 (by eq_refl) rfl
theorem nl_X11_would : Cond.selects RX11 yX11_would yX11_would ∈ fmWs := fm_c8 29 (by eq_refl) rfl
theorem nd_X11_would : yX11_would.cls ≠ "java/lang/invoke/MethodHandle" ∧ yX11_would.cls ≠ "java/lang/invoke/VarHandle" ∧ (parseMethodDescriptor yX11_would.desc).map (fun d => d.parameters.length) = some 5 := ⟨nq_18.1, nq_18.2, pd_4⟩
abbrev qX11_loss : fmY := (yX11_loss, cX11_loss, 2, (some .long))
set_option maxRecDepth 100000 in
theorem nc_X11_loss : Cond.code yX11_loss cX11_loss 2 (some .long) ∈ fmWs := fm_c8 34 rfl rfl
theorem nm_X11_loss : Cond.instanceMethod yX11_loss ∈ fmWs := fm_c8 32 (by eq_refl) rfl
theorem nl_X11_loss : Cond.selects RX11 yX11_loss yX11_loss ∈ fmWs := fm_c8 33 (by eq_refl) rfl
theorem nd_X11_loss : yX11_loss.cls ≠ "java/lang/invoke/MethodHandle" ∧ yX11_loss.cls ≠ "java/lang/invoke/VarHandle" ∧ (parseMethodDescriptor yX11_loss.desc).map (fun d => d.parameters.length) = some 1 := ⟨nq_18.1, nq_18.2, pd_21⟩
abbrev qX11_noPart : fmY := (yX11_noPart, cX11_noPart, 3, (some .boolean))
set_option maxRecDepth 100000 in
theorem nc_X11_noPart : Cond.code yX11_noPart cX11_noPart 3 (some .boolean) ∈ fmWs := fm_c8 38 rfl rfl
theorem nm_X11_noPart : Cond.instanceMethod yX11_noPart ∈ fmWs := fm_c8 37 (by eq_refl) rfl
theorem nl_X11_noPart : Cond.selects RX11 yX11_noPart yX11_noPart ∈ fmWs := fm_inp 83 (by eq_refl) rfl
theorem nd_X11_noPart : yX11_noPart.cls ≠ "java/lang/invoke/MethodHandle" ∧ yX11_noPart.cls ≠ "java/lang/invoke/VarHandle" ∧ (parseMethodDescriptor yX11_noPart.desc).map (fun d => d.parameters.length) = some 2 := ⟨nq_18.1, nq_18.2, pd_36⟩
abbrev qX11_partOf : fmY := (yX11_partOf, cX11_partOf, 11, (some .long))
set_option maxRecDepth 100000 in
theorem nc_X11_partOf : Cond.code yX11_partOf cX11_partOf 11 (some .long) ∈ fmWs := fm_c8 42 rfl rfl
theorem ns_X11_partOf : Cond.static yX11_partOf ∈ fmWs := fm_c8 41 (by eq_refl) rfl
theorem nd_X11_partOf : yX11_partOf.cls ≠ "java/lang/invoke/MethodHandle" ∧ yX11_partOf.cls ≠ "java/lang/invoke/VarHandle" ∧ (parseMethodDescriptor yX11_partOf.desc).map (fun d => d.parameters.length) = some 3 := ⟨nq_18.1, nq_18.2, pd_42⟩
abbrev qX11_cost : fmY := (yX11_cost, cX11_cost, 3, (some .long))
set_option maxRecDepth 100000 in
theorem nc_X11_cost : Cond.code yX11_cost cX11_cost 3 (some .long) ∈ fmWs := fm_c8 46 rfl rfl
theorem nm_X11_cost : Cond.instanceMethod yX11_cost ∈ fmWs := fm_c8 44 (by eq_refl) rfl
theorem nl_X11_cost : Cond.selects RX11 yX11_cost yX11_cost ∈ fmWs := fm_c8 45 (by eq_refl) rfl
theorem nd_X11_cost : yX11_cost.cls ≠ "java/lang/invoke/MethodHandle" ∧ yX11_cost.cls ≠ "java/lang/invoke/VarHandle" ∧ (parseMethodDescriptor yX11_cost.desc).map (fun d => d.parameters.length) = some 2 := ⟨nq_18.1, nq_18.2, pd_43⟩
abbrev qX11_risk : fmY := (yX11_risk, cX11_risk, 2, (some .long))
set_option maxRecDepth 100000 in
theorem nc_X11_risk : Cond.code yX11_risk cX11_risk 2 (some .long) ∈ fmWs := fm_c8 50 rfl rfl
theorem nm_X11_risk : Cond.instanceMethod yX11_risk ∈ fmWs := fm_c8 48 (by eq_refl) rfl
theorem nl_X11_risk : Cond.selects RX11 yX11_risk yX11_risk ∈ fmWs := fm_c8 49 (by eq_refl) rfl
theorem nd_X11_risk : yX11_risk.cls ≠ "java/lang/invoke/MethodHandle" ∧ yX11_risk.cls ≠ "java/lang/invoke/VarHandle" ∧ (parseMethodDescriptor yX11_risk.desc).map (fun d => d.parameters.length) = some 1 := ⟨nq_18.1, nq_18.2, pd_21⟩
abbrev qX11_riskOf : fmY := (yX11_riskOf, cX11_riskOf, 5, (some .long))
set_option maxRecDepth 100000 in
theorem nc_X11_riskOf : Cond.code yX11_riskOf cX11_riskOf 5 (some .long) ∈ fmWs := fm_c8 54 rfl rfl
theorem nm_X11_riskOf : Cond.instanceMethod yX11_riskOf ∈ fmWs := fm_c8 53 (by eq_refl) rfl
theorem nl_X11_riskOf : Cond.selects RX11 yX11_riskOf yX11_riskOf ∈ fmWs := fm_inp 84 (by eq_refl) rfl
theorem pd_66 : (parseMethodDescriptor "([I)J").map (fun d => d.parameters.length) = some 1 := by decide +kernel
theorem nd_X11_riskOf : yX11_riskOf.cls ≠ "java/lang/invoke/MethodHandle" ∧ yX11_riskOf.cls ≠ "java/lang/invoke/VarHandle" ∧ (parseMethodDescriptor yX11_riskOf.desc).map (fun d => d.parameters.length) = some 1 := ⟨nq_18.1, nq_18.2, pd_66⟩
abbrev qX11_saves : fmY := (yX11_saves, cX11_saves, 3, (some .long))
set_option maxRecDepth 100000 in
theorem nc_X11_saves : Cond.code yX11_saves cX11_saves 3 (some .long) ∈ fmWs := fm_c8 59 rfl rfl
theorem nm_X11_saves : Cond.instanceMethod yX11_saves ∈ fmWs := fm_c8 57 (by eq_refl) rfl
theorem nl_X11_saves : Cond.selects RX11 yX11_saves yX11_saves ∈ fmWs := fm_c8 58 (by eq_refl) rfl
theorem nd_X11_saves : yX11_saves.cls ≠ "java/lang/invoke/MethodHandle" ∧ yX11_saves.cls ≠ "java/lang/invoke/VarHandle" ∧ (parseMethodDescriptor yX11_saves.desc).map (fun d => d.parameters.length) = some 2 := ⟨nq_18.1, nq_18.2, pd_43⟩
abbrev qX11_saved : fmY := (yX11_saved, cX11_saved, 3, (some .int))
set_option maxRecDepth 100000 in
theorem nc_X11_saved : Cond.code yX11_saved cX11_saved 3 (some .int) ∈ fmWs := fm_c8 63 rfl rfl
theorem nm_X11_saved : Cond.instanceMethod yX11_saved ∈ fmWs := fm_c8 62 (by eq_refl) rfl
theorem nl_X11_saved : Cond.selects RX11 yX11_saved yX11_saved ∈ fmWs := fm_inp 85 (by eq_refl) rfl
theorem nd_X11_saved : yX11_saved.cls ≠ "java/lang/invoke/MethodHandle" ∧ yX11_saved.cls ≠ "java/lang/invoke/VarHandle" ∧ (parseMethodDescriptor yX11_saved.desc).map (fun d => d.parameters.length) = some 2 := ⟨nq_18.1, nq_18.2, pd_62⟩
abbrev qX11_first : fmY := (yX11_first, cX11_first, 1, (some .int))
set_option maxRecDepth 100000 in
theorem nc_X11_first : Cond.code yX11_first cX11_first 1 (some .int) ∈ fmWs := fm_c8 67 rfl rfl
theorem nm_X11_first : Cond.instanceMethod yX11_first ∈ fmWs := fm_c8 65 (by eq_refl) rfl
theorem nl_X11_first : Cond.selects RX11 yX11_first yX11_first ∈ fmWs := fm_c8 66 (by eq_refl) rfl
theorem nd_X11_first : yX11_first.cls ≠ "java/lang/invoke/MethodHandle" ∧ yX11_first.cls ≠ "java/lang/invoke/VarHandle" ∧ (parseMethodDescriptor yX11_first.desc).map (fun d => d.parameters.length) = some 0 := ⟨nq_18.1, nq_18.2, pd_6⟩
abbrev qX11_firstOf : fmY := (yX11_firstOf, cX11_firstOf, 5, (some .int))
set_option maxRecDepth 100000 in
theorem nc_X11_firstOf : Cond.code yX11_firstOf cX11_firstOf 5 (some .int) ∈ fmWs := fm_c8 71 rfl rfl
theorem nm_X11_firstOf : Cond.instanceMethod yX11_firstOf ∈ fmWs := fm_c8 70 (by eq_refl) rfl
theorem nl_X11_firstOf : Cond.selects RX11 yX11_firstOf yX11_firstOf ∈ fmWs := fm_inp 86 (by eq_refl) rfl
theorem nd_X11_firstOf : yX11_firstOf.cls ≠ "java/lang/invoke/MethodHandle" ∧ yX11_firstOf.cls ≠ "java/lang/invoke/VarHandle" ∧ (parseMethodDescriptor yX11_firstOf.desc).map (fun d => d.parameters.length) = some 2 := ⟨nq_18.1, nq_18.2, pd_62⟩
abbrev qX11_lacking : fmY := (yX11_lacking, cX11_lacking, 3, (some .int))
set_option maxRecDepth 100000 in
theorem nc_X11_lacking : Cond.code yX11_lacking cX11_lacking 3 (some .int) ∈ fmWs := fm_c8 75 rfl rfl
theorem nm_X11_lacking : Cond.instanceMethod yX11_lacking ∈ fmWs := fm_c8 73 (by eq_refl) rfl
theorem nl_X11_lacking : Cond.selects RX11 yX11_lacking yX11_lacking ∈ fmWs := fm_c8 74 (by eq_refl) rfl
theorem nd_X11_lacking : yX11_lacking.cls ≠ "java/lang/invoke/MethodHandle" ∧ yX11_lacking.cls ≠ "java/lang/invoke/VarHandle" ∧ (parseMethodDescriptor yX11_lacking.desc).map (fun d => d.parameters.length) = some 0 := ⟨nq_18.1, nq_18.2, pd_6⟩
abbrev qX11_signed : fmY := (yX11_signed, cX11_signed, 3, (some .int))
set_option maxRecDepth 100000 in
theorem nc_X11_signed : Cond.code yX11_signed cX11_signed 3 (some .int) ∈ fmWs := fm_c8 79 rfl rfl
theorem nm_X11_signed : Cond.instanceMethod yX11_signed ∈ fmWs := fm_c8 77 (by eq_refl) rfl
theorem nl_X11_signed : Cond.selects RX11 yX11_signed yX11_signed ∈ fmWs := fm_c8 78 (by eq_refl) rfl
theorem nd_X11_signed : yX11_signed.cls ≠ "java/lang/invoke/MethodHandle" ∧ yX11_signed.cls ≠ "java/lang/invoke/VarHandle" ∧ (parseMethodDescriptor yX11_signed.desc).map (fun d => d.parameters.length) = some 0 := ⟨nq_18.1, nq_18.2, pd_6⟩
abbrev qX11_stale : fmY := (yX11_stale, cX11_stale, 4, (some .int))
set_option maxRecDepth 100000 in
theorem nc_X11_stale : Cond.code yX11_stale cX11_stale 4 (some .int) ∈ fmWs := fm_c8 83 rfl rfl
theorem nm_X11_stale : Cond.instanceMethod yX11_stale ∈ fmWs := fm_c8 81 (by eq_refl) rfl
theorem nl_X11_stale : Cond.selects RX11 yX11_stale yX11_stale ∈ fmWs := fm_c8 82 (by eq_refl) rfl
theorem nd_X11_stale : yX11_stale.cls ≠ "java/lang/invoke/MethodHandle" ∧ yX11_stale.cls ≠ "java/lang/invoke/VarHandle" ∧ (parseMethodDescriptor yX11_stale.desc).map (fun d => d.parameters.length) = some 1 := ⟨nq_18.1, nq_18.2, pd_20⟩
abbrev qX11_best : fmY := (yX11_best, cX11_best, 3, (some .long))
set_option maxRecDepth 100000 in
theorem nc_X11_best : Cond.code yX11_best cX11_best 3 (some .long) ∈ fmWs := fm_c8 87 rfl rfl
theorem nm_X11_best : Cond.instanceMethod yX11_best ∈ fmWs := fm_c8 85 (by eq_refl) rfl
theorem nl_X11_best : Cond.selects RX11 yX11_best yX11_best ∈ fmWs := fm_c8 86 (by eq_refl) rfl
theorem nd_X11_best : yX11_best.cls ≠ "java/lang/invoke/MethodHandle" ∧ yX11_best.cls ≠ "java/lang/invoke/VarHandle" ∧ (parseMethodDescriptor yX11_best.desc).map (fun d => d.parameters.length) = some 2 := ⟨nq_18.1, nq_18.2, pd_43⟩
abbrev qX11_laysBest : fmY := (yX11_laysBest, cX11_laysBest, 4, (some .int))
set_option maxRecDepth 100000 in
theorem nc_X11_laysBest : Cond.code yX11_laysBest cX11_laysBest 4 (some .int) ∈ fmWs := fm_c8 91 rfl rfl
theorem nm_X11_laysBest : Cond.instanceMethod yX11_laysBest ∈ fmWs := fm_c8 90 (by eq_refl) rfl
theorem nl_X11_laysBest : Cond.selects RX11 yX11_laysBest yX11_laysBest ∈ fmWs := fm_inp 87 (by eq_refl) rfl
theorem nd_X11_laysBest : yX11_laysBest.cls ≠ "java/lang/invoke/MethodHandle" ∧ yX11_laysBest.cls ≠ "java/lang/invoke/VarHandle" ∧ (parseMethodDescriptor yX11_laysBest.desc).map (fun d => d.parameters.length) = some 1 := ⟨nq_18.1, nq_18.2, pd_20⟩
abbrev qX11_isOption : fmY := (yX11_isOption, cX11_isOption, 8, (some .boolean))
set_option maxRecDepth 100000 in
theorem nc_X11_isOption : Cond.code yX11_isOption cX11_isOption 8 (some .boolean) ∈ fmWs := fm_c8 96 rfl rfl
theorem nm_X11_isOption : Cond.instanceMethod yX11_isOption ∈ fmWs := fm_c8 95 (by eq_refl) rfl
theorem nl_X11_isOption : Cond.selects RX11 yX11_isOption yX11_isOption ∈ fmWs := fm_inp 88 (by eq_refl) rfl
theorem nd_X11_isOption : yX11_isOption.cls ≠ "java/lang/invoke/MethodHandle" ∧ yX11_isOption.cls ≠ "java/lang/invoke/VarHandle" ∧ (parseMethodDescriptor yX11_isOption.desc).map (fun d => d.parameters.length) = some 3 := ⟨nq_18.1, nq_18.2, pd_56⟩
abbrev qX11_power : fmY := (yX11_power, cX11_power, 6, (some .long))
set_option maxRecDepth 100000 in
theorem nc_X11_power : Cond.code yX11_power cX11_power 6 (some .long) ∈ fmWs := fm_c8 99 rfl rfl
theorem ns_X11_power : Cond.static yX11_power ∈ fmWs := fm_c8 98 (by eq_refl) rfl
theorem pd_67 : (parseMethodDescriptor "(JI)J").map (fun d => d.parameters.length) = some 2 := by decide +kernel
theorem nd_X11_power : yX11_power.cls ≠ "java/lang/invoke/MethodHandle" ∧ yX11_power.cls ≠ "java/lang/invoke/VarHandle" ∧ (parseMethodDescriptor yX11_power.desc).map (fun d => d.parameters.length) = some 2 := ⟨nq_18.1, nq_18.2, pd_67⟩
abbrev qX11_laysOption : fmY := (yX11_laysOption, cX11_laysOption, 14, none)
set_option maxRecDepth 100000 in
theorem nc_X11_laysOption : Cond.code yX11_laysOption cX11_laysOption 14 none ∈ fmWs := fm_c8 103 rfl rfl
theorem nm_X11_laysOption : Cond.instanceMethod yX11_laysOption ∈ fmWs := fm_c8 102 (by eq_refl) rfl
theorem nl_X11_laysOption : Cond.selects RX11 yX11_laysOption yX11_laysOption ∈ fmWs := fm_inp 89 (by eq_refl) rfl
theorem nd_X11_laysOption : yX11_laysOption.cls ≠ "java/lang/invoke/MethodHandle" ∧ yX11_laysOption.cls ≠ "java/lang/invoke/VarHandle" ∧ (parseMethodDescriptor yX11_laysOption.desc).map (fun d => d.parameters.length) = some 2 := ⟨nq_18.1, nq_18.2, pd_23⟩
abbrev qX11_roomOf : fmY := (yX11_roomOf, cX11_roomOf, 3, (some .int))
set_option maxRecDepth 100000 in
theorem nc_X11_roomOf : Cond.code yX11_roomOf cX11_roomOf 3 (some .int) ∈ fmWs := fm_c8 106 rfl rfl
theorem ns_X11_roomOf : Cond.static yX11_roomOf ∈ fmWs := fm_c8 105 (by eq_refl) rfl
theorem nd_X11_roomOf : yX11_roomOf.cls ≠ "java/lang/invoke/MethodHandle" ∧ yX11_roomOf.cls ≠ "java/lang/invoke/VarHandle" ∧ (parseMethodDescriptor yX11_roomOf.desc).map (fun d => d.parameters.length) = some 3 := ⟨nq_18.1, nq_18.2, pd_15⟩
abbrev qX11_bestIn : fmY := (yX11_bestIn, cX11_bestIn, 3, (some .int))
set_option maxRecDepth 100000 in
theorem nc_X11_bestIn : Cond.code yX11_bestIn cX11_bestIn 3 (some .int) ∈ fmWs := fm_c8 110 rfl rfl
theorem nm_X11_bestIn : Cond.instanceMethod yX11_bestIn ∈ fmWs := fm_c8 108 (by eq_refl) rfl
theorem nl_X11_bestIn : Cond.selects RX11 yX11_bestIn yX11_bestIn ∈ fmWs := fm_c8 109 (by eq_refl) rfl
theorem nd_X11_bestIn : yX11_bestIn.cls ≠ "java/lang/invoke/MethodHandle" ∧ yX11_bestIn.cls ≠ "java/lang/invoke/VarHandle" ∧ (parseMethodDescriptor yX11_bestIn.desc).map (fun d => d.parameters.length) = some 2 := ⟨nq_18.1, nq_18.2, pd_17⟩
abbrev qX11_often : fmY := (yX11_often, cX11_often, 5, (some .int))
set_option maxRecDepth 100000 in
theorem nc_X11_often : Cond.code yX11_often cX11_often 5 (some .int) ∈ fmWs := fm_c8 115 rfl rfl
theorem nm_X11_often : Cond.instanceMethod yX11_often ∈ fmWs := fm_c8 113 (by eq_refl) rfl
theorem nl_X11_often : Cond.selects RX11 yX11_often yX11_often ∈ fmWs := fm_c8 114 (by eq_refl) rfl
theorem nd_X11_often : yX11_often.cls ≠ "java/lang/invoke/MethodHandle" ∧ yX11_often.cls ≠ "java/lang/invoke/VarHandle" ∧ (parseMethodDescriptor yX11_often.desc).map (fun d => d.parameters.length) = some 2 := ⟨nq_18.1, nq_18.2, pd_17⟩
abbrev qX11_oftenBy : fmY := (yX11_oftenBy, cX11_oftenBy, 7, (some .long))
set_option maxRecDepth 100000 in
theorem nc_X11_oftenBy : Cond.code yX11_oftenBy cX11_oftenBy 7 (some .long) ∈ fmWs := fm_c8 119 rfl rfl
theorem nm_X11_oftenBy : Cond.instanceMethod yX11_oftenBy ∈ fmWs := fm_c8 118 (by eq_refl) rfl
theorem nl_X11_oftenBy : Cond.selects RX11 yX11_oftenBy yX11_oftenBy ∈ fmWs := fm_inp 90 (by eq_refl) rfl
theorem nd_X11_oftenBy : yX11_oftenBy.cls ≠ "java/lang/invoke/MethodHandle" ∧ yX11_oftenBy.cls ≠ "java/lang/invoke/VarHandle" ∧ (parseMethodDescriptor yX11_oftenBy.desc).map (fun d => d.parameters.length) = some 3 := ⟨nq_18.1, nq_18.2, pd_54⟩
abbrev qX11_yearly : fmY := (yX11_yearly, cX11_yearly, 5, (some .long))
set_option maxRecDepth 100000 in
theorem nc_X11_yearly : Cond.code yX11_yearly cX11_yearly 5 (some .long) ∈ fmWs := fm_c8 123 rfl rfl
theorem nm_X11_yearly : Cond.instanceMethod yX11_yearly ∈ fmWs := fm_c8 121 (by eq_refl) rfl
theorem nl_X11_yearly : Cond.selects RX11 yX11_yearly yX11_yearly ∈ fmWs := fm_c8 122 (by eq_refl) rfl
theorem nd_X11_yearly : yX11_yearly.cls ≠ "java/lang/invoke/MethodHandle" ∧ yX11_yearly.cls ≠ "java/lang/invoke/VarHandle" ∧ (parseMethodDescriptor yX11_yearly.desc).map (fun d => d.parameters.length) = some 4 := ⟨nq_18.1, nq_18.2, pd_47⟩
abbrev qX11_brings : fmY := (yX11_brings, cX11_brings, 7, (some .int))
set_option maxRecDepth 100000 in
theorem nc_X11_brings : Cond.code yX11_brings cX11_brings 7 (some .int) ∈ fmWs := fm_c8 127 rfl rfl
theorem nm_X11_brings : Cond.instanceMethod yX11_brings ∈ fmWs := fm_c8 125 (by eq_refl) rfl
theorem nl_X11_brings : Cond.selects RX11 yX11_brings yX11_brings ∈ fmWs := fm_c8 126 (by eq_refl) rfl
theorem nd_X11_brings : yX11_brings.cls ≠ "java/lang/invoke/MethodHandle" ∧ yX11_brings.cls ≠ "java/lang/invoke/VarHandle" ∧ (parseMethodDescriptor yX11_brings.desc).map (fun d => d.parameters.length) = some 6 := ⟨nq_18.1, nq_18.2, pd_50⟩
abbrev qX11_isRumour : fmY := (yX11_isRumour, cX11_isRumour, 4, (some .boolean))
set_option maxRecDepth 100000 in
theorem nc_X11_isRumour : Cond.code yX11_isRumour cX11_isRumour 4 (some .boolean) ∈ fmWs := fm_c8 130 rfl rfl
theorem ns_X11_isRumour : Cond.static yX11_isRumour ∈ fmWs := fm_c8 129 (by eq_refl) rfl
theorem pd_68 : (parseMethodDescriptor "(IIII)Z").map (fun d => d.parameters.length) = some 4 := by decide +kernel
theorem nd_X11_isRumour : yX11_isRumour.cls ≠ "java/lang/invoke/MethodHandle" ∧ yX11_isRumour.cls ≠ "java/lang/invoke/VarHandle" ∧ (parseMethodDescriptor yX11_isRumour.desc).map (fun d => d.parameters.length) = some 4 := ⟨nq_18.1, nq_18.2, pd_68⟩
abbrev qX11_bringsBy : fmY := (yX11_bringsBy, cX11_bringsBy, 6, (some .int))
set_option maxRecDepth 100000 in
theorem nc_X11_bringsBy : Cond.code yX11_bringsBy cX11_bringsBy 6 (some .int) ∈ fmWs := fm_c8 133 rfl rfl
theorem ns_X11_bringsBy : Cond.static yX11_bringsBy ∈ fmWs := fm_c8 132 (by eq_refl) rfl
theorem nd_X11_bringsBy : yX11_bringsBy.cls ≠ "java/lang/invoke/MethodHandle" ∧ yX11_bringsBy.cls ≠ "java/lang/invoke/VarHandle" ∧ (parseMethodDescriptor yX11_bringsBy.desc).map (fun d => d.parameters.length) = some 6 := ⟨nq_18.1, nq_18.2, pd_50⟩
abbrev qX11_says : fmY := (yX11_says, cX11_says, 6, (some .int))
set_option maxRecDepth 100000 in
theorem nc_X11_says : Cond.code yX11_says cX11_says 6 (some .int) ∈ fmWs := fm_c8 137 rfl rfl
theorem nm_X11_says : Cond.instanceMethod yX11_says ∈ fmWs := fm_c8 135 (by eq_refl) rfl
theorem nl_X11_says : Cond.selects RX11 yX11_says yX11_says ∈ fmWs := fm_c8 136 (by eq_refl) rfl
theorem nd_X11_says : yX11_says.cls ≠ "java/lang/invoke/MethodHandle" ∧ yX11_says.cls ≠ "java/lang/invoke/VarHandle" ∧ (parseMethodDescriptor yX11_says.desc).map (fun d => d.parameters.length) = some 5 := ⟨nq_18.1, nq_18.2, pd_4⟩
abbrev qX11_saysBy : fmY := (yX11_saysBy, cX11_saysBy, 7, (some .int))
set_option maxRecDepth 100000 in
theorem nc_X11_saysBy : Cond.code yX11_saysBy cX11_saysBy 7 (some .int) ∈ fmWs := fm_c8 140 rfl rfl
theorem ns_X11_saysBy : Cond.static yX11_saysBy ∈ fmWs := fm_c8 139 (by eq_refl) rfl
theorem nd_X11_saysBy : yX11_saysBy.cls ≠ "java/lang/invoke/MethodHandle" ∧ yX11_saysBy.cls ≠ "java/lang/invoke/VarHandle" ∧ (parseMethodDescriptor yX11_saysBy.desc).map (fun d => d.parameters.length) = some 5 := ⟨nq_18.1, nq_18.2, pd_4⟩
abbrev qX11_line : fmY := (yX11_line, cX11_line, 6, (some .int))
set_option maxRecDepth 100000 in
theorem nc_X11_line : Cond.code yX11_line cX11_line 6 (some .int) ∈ fmWs := fm_c8 144 rfl rfl
theorem nm_X11_line : Cond.instanceMethod yX11_line ∈ fmWs := fm_c8 142 (by eq_refl) rfl
theorem nl_X11_line : Cond.selects RX11 yX11_line yX11_line ∈ fmWs := fm_c8 143 (by eq_refl) rfl
theorem nd_X11_line : yX11_line.cls ≠ "java/lang/invoke/MethodHandle" ∧ yX11_line.cls ≠ "java/lang/invoke/VarHandle" ∧ (parseMethodDescriptor yX11_line.desc).map (fun d => d.parameters.length) = some 4 := ⟨nq_18.1, nq_18.2, pd_52⟩
abbrev qX11_room : fmY := (yX11_room, cX11_room, 3, (some .int))
set_option maxRecDepth 100000 in
theorem nc_X11_room : Cond.code yX11_room cX11_room 3 (some .int) ∈ fmWs := fm_c8 148 rfl rfl
theorem nm_X11_room : Cond.instanceMethod yX11_room ∈ fmWs := fm_c8 146 (by eq_refl) rfl
theorem nl_X11_room : Cond.selects RX11 yX11_room yX11_room ∈ fmWs := fm_c8 147 (by eq_refl) rfl
theorem nd_X11_room : yX11_room.cls ≠ "java/lang/invoke/MethodHandle" ∧ yX11_room.cls ≠ "java/lang/invoke/VarHandle" ∧ (parseMethodDescriptor yX11_room.desc).map (fun d => d.parameters.length) = some 2 := ⟨nq_18.1, nq_18.2, pd_17⟩
abbrev qX11_areLives : fmY := (yX11_areLives, cX11_areLives, 2, (some .boolean))
set_option maxRecDepth 100000 in
theorem nc_X11_areLives : Cond.code yX11_areLives cX11_areLives 2 (some .boolean) ∈ fmWs := fm_c8 152 rfl rfl
theorem nm_X11_areLives : Cond.instanceMethod yX11_areLives ∈ fmWs := fm_c8 151 (by eq_refl) rfl
theorem nl_X11_areLives : Cond.selects RX11 yX11_areLives yX11_areLives ∈ fmWs := fm_inp 91 (by eq_refl) rfl
theorem nd_X11_areLives : yX11_areLives.cls ≠ "java/lang/invoke/MethodHandle" ∧ yX11_areLives.cls ≠ "java/lang/invoke/VarHandle" ∧ (parseMethodDescriptor yX11_areLives.desc).map (fun d => d.parameters.length) = some 1 := ⟨nq_18.1, nq_18.2, pd_8⟩
abbrev qX11_laysRoom : fmY := (yX11_laysRoom, cX11_laysRoom, 4, none)
set_option maxRecDepth 100000 in
theorem nc_X11_laysRoom : Cond.code yX11_laysRoom cX11_laysRoom 4 none ∈ fmWs := fm_c8 156 rfl rfl
theorem nm_X11_laysRoom : Cond.instanceMethod yX11_laysRoom ∈ fmWs := fm_c8 155 (by eq_refl) rfl
theorem nl_X11_laysRoom : Cond.selects RX11 yX11_laysRoom yX11_laysRoom ∈ fmWs := fm_inp 92 (by eq_refl) rfl
theorem nd_X11_laysRoom : yX11_laysRoom.cls ≠ "java/lang/invoke/MethodHandle" ∧ yX11_laysRoom.cls ≠ "java/lang/invoke/VarHandle" ∧ (parseMethodDescriptor yX11_laysRoom.desc).map (fun d => d.parameters.length) = some 2 := ⟨nq_18.1, nq_18.2, pd_23⟩
abbrev qX11_rooms : fmY := (yX11_rooms, cX11_rooms, 6, none)
set_option maxRecDepth 100000 in
theorem nc_X11_rooms : Cond.code yX11_rooms cX11_rooms 6 none ∈ fmWs := fm_c8 160 rfl rfl
theorem nm_X11_rooms : Cond.instanceMethod yX11_rooms ∈ fmWs := fm_c8 159 (by eq_refl) rfl
theorem nl_X11_rooms : Cond.selects RX11 yX11_rooms yX11_rooms ∈ fmWs := fm_inp 93 (by eq_refl) rfl
theorem nd_X11_rooms : yX11_rooms.cls ≠ "java/lang/invoke/MethodHandle" ∧ yX11_rooms.cls ≠ "java/lang/invoke/VarHandle" ∧ (parseMethodDescriptor yX11_rooms.desc).map (fun d => d.parameters.length) = some 4 := ⟨nq_18.1, nq_18.2, pd_51⟩
abbrev qX11_lines : fmY := (yX11_lines, cX11_lines, 4, (some .int))
set_option maxRecDepth 100000 in
theorem nc_X11_lines : Cond.code yX11_lines cX11_lines 4 (some .int) ∈ fmWs := fm_c8 164 rfl rfl
theorem nm_X11_lines : Cond.instanceMethod yX11_lines ∈ fmWs := fm_c8 162 (by eq_refl) rfl
theorem nl_X11_lines : Cond.selects RX11 yX11_lines yX11_lines ∈ fmWs := fm_c8 163 (by eq_refl) rfl
theorem nd_X11_lines : yX11_lines.cls ≠ "java/lang/invoke/MethodHandle" ∧ yX11_lines.cls ≠ "java/lang/invoke/VarHandle" ∧ (parseMethodDescriptor yX11_lines.desc).map (fun d => d.parameters.length) = some 3 := ⟨nq_18.1, nq_18.2, pd_15⟩
abbrev qX11_apart : fmY := (yX11_apart, cX11_apart, 5, (some .int))
set_option maxRecDepth 100000 in
theorem nc_X11_apart : Cond.code yX11_apart cX11_apart 5 (some .int) ∈ fmWs := fm_c8 168 rfl rfl
theorem nm_X11_apart : Cond.instanceMethod yX11_apart ∈ fmWs := fm_c8 166 (by eq_refl) rfl
theorem nl_X11_apart : Cond.selects RX11 yX11_apart yX11_apart ∈ fmWs := fm_c8 167 (by eq_refl) rfl
theorem nd_X11_apart : yX11_apart.cls ≠ "java/lang/invoke/MethodHandle" ∧ yX11_apart.cls ≠ "java/lang/invoke/VarHandle" ∧ (parseMethodDescriptor yX11_apart.desc).map (fun d => d.parameters.length) = some 2 := ⟨nq_18.1, nq_18.2, pd_17⟩
abbrev qX11_isApart : fmY := (yX11_isApart, cX11_isApart, 5, (some .boolean))
set_option maxRecDepth 100000 in
theorem nc_X11_isApart : Cond.code yX11_isApart cX11_isApart 5 (some .boolean) ∈ fmWs := fm_c8 172 rfl rfl
theorem nm_X11_isApart : Cond.instanceMethod yX11_isApart ∈ fmWs := fm_c8 171 (by eq_refl) rfl
theorem nl_X11_isApart : Cond.selects RX11 yX11_isApart yX11_isApart ∈ fmWs := fm_inp 94 (by eq_refl) rfl
theorem nd_X11_isApart : yX11_isApart.cls ≠ "java/lang/invoke/MethodHandle" ∧ yX11_isApart.cls ≠ "java/lang/invoke/VarHandle" ∧ (parseMethodDescriptor yX11_isApart.desc).map (fun d => d.parameters.length) = some 2 := ⟨nq_18.1, nq_18.2, pd_36⟩
abbrev qX11_ones : fmY := (yX11_ones, cX11_ones, 3, (some .int))
set_option maxRecDepth 100000 in
theorem nc_X11_ones : Cond.code yX11_ones cX11_ones 3 (some .int) ∈ fmWs := fm_c8 175 rfl rfl
theorem ns_X11_ones : Cond.static yX11_ones ∈ fmWs := fm_c8 174 (by eq_refl) rfl
theorem nd_X11_ones : yX11_ones.cls ≠ "java/lang/invoke/MethodHandle" ∧ yX11_ones.cls ≠ "java/lang/invoke/VarHandle" ∧ (parseMethodDescriptor yX11_ones.desc).map (fun d => d.parameters.length) = some 1 := ⟨nq_18.1, nq_18.2, pd_20⟩
abbrev qX11_twins : fmY := (yX11_twins, cX11_twins, 3, (some .int))
set_option maxRecDepth 100000 in
theorem nc_X11_twins : Cond.code yX11_twins cX11_twins 3 (some .int) ∈ fmWs := fm_c8 179 rfl rfl
theorem nm_X11_twins : Cond.instanceMethod yX11_twins ∈ fmWs := fm_c8 177 (by eq_refl) rfl
theorem nl_X11_twins : Cond.selects RX11 yX11_twins yX11_twins ∈ fmWs := fm_c8 178 (by eq_refl) rfl
theorem nd_X11_twins : yX11_twins.cls ≠ "java/lang/invoke/MethodHandle" ∧ yX11_twins.cls ≠ "java/lang/invoke/VarHandle" ∧ (parseMethodDescriptor yX11_twins.desc).map (fun d => d.parameters.length) = some 0 := ⟨nq_18.1, nq_18.2, pd_6⟩
abbrev qX11_written : fmY := (yX11_written, cX11_written, 2, (some .long))
set_option maxRecDepth 100000 in
theorem nc_X11_written : Cond.code yX11_written cX11_written 2 (some .long) ∈ fmWs := fm_c8 183 rfl rfl
theorem nm_X11_written : Cond.instanceMethod yX11_written ∈ fmWs := fm_c8 181 (by eq_refl) rfl
theorem nl_X11_written : Cond.selects RX11 yX11_written yX11_written ∈ fmWs := fm_c8 182 (by eq_refl) rfl
theorem nd_X11_written : yX11_written.cls ≠ "java/lang/invoke/MethodHandle" ∧ yX11_written.cls ≠ "java/lang/invoke/VarHandle" ∧ (parseMethodDescriptor yX11_written.desc).map (fun d => d.parameters.length) = some 1 := ⟨nq_18.1, nq_18.2, pd_21⟩
abbrev qX11_writtenOf : fmY := (yX11_writtenOf, cX11_writtenOf, 7, (some .long))
set_option maxRecDepth 100000 in
theorem nc_X11_writtenOf : Cond.code yX11_writtenOf cX11_writtenOf 7 (some .long) ∈ fmWs := fm_c8 187 rfl rfl
theorem nm_X11_writtenOf : Cond.instanceMethod yX11_writtenOf ∈ fmWs := fm_c8 186 (by eq_refl) rfl
theorem nl_X11_writtenOf : Cond.selects RX11 yX11_writtenOf yX11_writtenOf ∈ fmWs := fm_inp 95 (by eq_refl) rfl
theorem nd_X11_writtenOf : yX11_writtenOf.cls ≠ "java/lang/invoke/MethodHandle" ∧ yX11_writtenOf.cls ≠ "java/lang/invoke/VarHandle" ∧ (parseMethodDescriptor yX11_writtenOf.desc).map (fun d => d.parameters.length) = some 1 := ⟨nq_18.1, nq_18.2, pd_21⟩
abbrev qX11_whose : fmY := (yX11_whose, cX11_whose, 3, (some .int))
set_option maxRecDepth 100000 in
theorem nc_X11_whose : Cond.code yX11_whose cX11_whose 3 (some .int) ∈ fmWs := fm_c8 191 rfl rfl
theorem nm_X11_whose : Cond.instanceMethod yX11_whose ∈ fmWs := fm_c8 189 (by eq_refl) rfl
theorem nl_X11_whose : Cond.selects RX11 yX11_whose yX11_whose ∈ fmWs := fm_c8 190 (by eq_refl) rfl
theorem nd_X11_whose : yX11_whose.cls ≠ "java/lang/invoke/MethodHandle" ∧ yX11_whose.cls ≠ "java/lang/invoke/VarHandle" ∧ (parseMethodDescriptor yX11_whose.desc).map (fun d => d.parameters.length) = some 0 := ⟨nq_18.1, nq_18.2, pd_6⟩
abbrev qX11_ahead : fmY := (yX11_ahead, cX11_ahead, 3, (some .long))
set_option maxRecDepth 100000 in
theorem nc_X11_ahead : Cond.code yX11_ahead cX11_ahead 3 (some .long) ∈ fmWs := fm_c8 195 rfl rfl
theorem nm_X11_ahead : Cond.instanceMethod yX11_ahead ∈ fmWs := fm_c8 193 (by eq_refl) rfl
theorem nl_X11_ahead : Cond.selects RX11 yX11_ahead yX11_ahead ∈ fmWs := fm_c8 194 (by eq_refl) rfl
theorem nd_X11_ahead : yX11_ahead.cls ≠ "java/lang/invoke/MethodHandle" ∧ yX11_ahead.cls ≠ "java/lang/invoke/VarHandle" ∧ (parseMethodDescriptor yX11_ahead.desc).map (fun d => d.parameters.length) = some 2 := ⟨nq_18.1, nq_18.2, pd_43⟩
abbrev qX11_riskIn : fmY := (yX11_riskIn, cX11_riskIn, 3, (some .long))
set_option maxRecDepth 100000 in
theorem nc_X11_riskIn : Cond.code yX11_riskIn cX11_riskIn 3 (some .long) ∈ fmWs := fm_c8 199 rfl rfl
theorem nm_X11_riskIn : Cond.instanceMethod yX11_riskIn ∈ fmWs := fm_c8 198 (by eq_refl) rfl
theorem nl_X11_riskIn : Cond.selects RX11 yX11_riskIn yX11_riskIn ∈ fmWs := fm_inp 96 (by eq_refl) rfl
theorem nd_X11_riskIn : yX11_riskIn.cls ≠ "java/lang/invoke/MethodHandle" ∧ yX11_riskIn.cls ≠ "java/lang/invoke/VarHandle" ∧ (parseMethodDescriptor yX11_riskIn.desc).map (fun d => d.parameters.length) = some 1 := ⟨nq_18.1, nq_18.2, pd_21⟩
abbrev qX11_worst : fmY := (yX11_worst, cX11_worst, 3, (some .int))
set_option maxRecDepth 100000 in
theorem nc_X11_worst : Cond.code yX11_worst cX11_worst 3 (some .int) ∈ fmWs := fm_c8 203 rfl rfl
theorem nm_X11_worst : Cond.instanceMethod yX11_worst ∈ fmWs := fm_c8 201 (by eq_refl) rfl
theorem nl_X11_worst : Cond.selects RX11 yX11_worst yX11_worst ∈ fmWs := fm_c8 202 (by eq_refl) rfl
theorem nd_X11_worst : yX11_worst.cls ≠ "java/lang/invoke/MethodHandle" ∧ yX11_worst.cls ≠ "java/lang/invoke/VarHandle" ∧ (parseMethodDescriptor yX11_worst.desc).map (fun d => d.parameters.length) = some 0 := ⟨nq_18.1, nq_18.2, pd_6⟩
abbrev qX11_lives : fmY := (yX11_lives, cX11_lives, 4, (some .long))
set_option maxRecDepth 100000 in
theorem nc_X11_lives : Cond.code yX11_lives cX11_lives 4 (some .long) ∈ fmWs := fm_c8 207 rfl rfl
theorem nm_X11_lives : Cond.instanceMethod yX11_lives ∈ fmWs := fm_c8 205 (by eq_refl) rfl
theorem nl_X11_lives : Cond.selects RX11 yX11_lives yX11_lives ∈ fmWs := fm_c8 206 (by eq_refl) rfl
theorem nd_X11_lives : yX11_lives.cls ≠ "java/lang/invoke/MethodHandle" ∧ yX11_lives.cls ≠ "java/lang/invoke/VarHandle" ∧ (parseMethodDescriptor yX11_lives.desc).map (fun d => d.parameters.length) = some 3 := ⟨nq_18.1, nq_18.2, pd_54⟩
abbrev qX11_oldest : fmY := (yX11_oldest, cX11_oldest, 3, (some .int))
set_option maxRecDepth 100000 in
theorem nc_X11_oldest : Cond.code yX11_oldest cX11_oldest 3 (some .int) ∈ fmWs := fm_c8 211 rfl rfl
theorem nm_X11_oldest : Cond.instanceMethod yX11_oldest ∈ fmWs := fm_c8 209 (by eq_refl) rfl
theorem nl_X11_oldest : Cond.selects RX11 yX11_oldest yX11_oldest ∈ fmWs := fm_c8 210 (by eq_refl) rfl
theorem nd_X11_oldest : yX11_oldest.cls ≠ "java/lang/invoke/MethodHandle" ∧ yX11_oldest.cls ≠ "java/lang/invoke/VarHandle" ∧ (parseMethodDescriptor yX11_oldest.desc).map (fun d => d.parameters.length) = some 0 := ⟨nq_18.1, nq_18.2, pd_6⟩
abbrev qX11_chain : fmY := (yX11_chain, cX11_chain, 5, (some .int))
set_option maxRecDepth 100000 in
theorem nc_X11_chain : Cond.code yX11_chain cX11_chain 5 (some .int) ∈ fmWs := fm_c8 215 rfl rfl
theorem nm_X11_chain : Cond.instanceMethod yX11_chain ∈ fmWs := fm_c8 213 (by eq_refl) rfl
theorem nl_X11_chain : Cond.selects RX11 yX11_chain yX11_chain ∈ fmWs := fm_c8 214 (by eq_refl) rfl
theorem nd_X11_chain : yX11_chain.cls ≠ "java/lang/invoke/MethodHandle" ∧ yX11_chain.cls ≠ "java/lang/invoke/VarHandle" ∧ (parseMethodDescriptor yX11_chain.desc).map (fun d => d.parameters.length) = some 2 := ⟨nq_18.1, nq_18.2, pd_17⟩
abbrev qX11_due : fmY := (yX11_due, cX11_due, 4, (some .int))
set_option maxRecDepth 100000 in
theorem nc_X11_due : Cond.code yX11_due cX11_due 4 (some .int) ∈ fmWs := fm_c8 219 rfl rfl
theorem nm_X11_due : Cond.instanceMethod yX11_due ∈ fmWs := fm_c8 217 (by eq_refl) rfl
theorem nl_X11_due : Cond.selects RX11 yX11_due yX11_due ∈ fmWs := fm_c8 218 (by eq_refl) rfl
theorem nd_X11_due : yX11_due.cls ≠ "java/lang/invoke/MethodHandle" ∧ yX11_due.cls ≠ "java/lang/invoke/VarHandle" ∧ (parseMethodDescriptor yX11_due.desc).map (fun d => d.parameters.length) = some 2 := ⟨nq_18.1, nq_18.2, pd_17⟩
abbrev qX11_news : fmY := (yX11_news, cX11_news, 4, (some .int))
set_option maxRecDepth 100000 in
theorem nc_X11_news : Cond.code yX11_news cX11_news 4 (some .int) ∈ fmWs := fm_c8 223 rfl rfl
theorem nm_X11_news : Cond.instanceMethod yX11_news ∈ fmWs := fm_c8 221 (by eq_refl) rfl
theorem nl_X11_news : Cond.selects RX11 yX11_news yX11_news ∈ fmWs := fm_c8 222 (by eq_refl) rfl
theorem nd_X11_news : yX11_news.cls ≠ "java/lang/invoke/MethodHandle" ∧ yX11_news.cls ≠ "java/lang/invoke/VarHandle" ∧ (parseMethodDescriptor yX11_news.desc).map (fun d => d.parameters.length) = some 1 := ⟨nq_18.1, nq_18.2, pd_20⟩
abbrev qX11_expects : fmY := (yX11_expects, cX11_expects, 8, (some .long))
set_option maxRecDepth 100000 in
theorem nc_X11_expects : Cond.code yX11_expects cX11_expects 8 (some .long) ∈ fmWs := fm_c8 227 rfl rfl
theorem nm_X11_expects : Cond.instanceMethod yX11_expects ∈ fmWs := fm_c8 225 (by eq_refl) rfl
theorem nl_X11_expects : Cond.selects RX11 yX11_expects yX11_expects ∈ fmWs := fm_c8 226 (by eq_refl) rfl
theorem nd_X11_expects : yX11_expects.cls ≠ "java/lang/invoke/MethodHandle" ∧ yX11_expects.cls ≠ "java/lang/invoke/VarHandle" ∧ (parseMethodDescriptor yX11_expects.desc).map (fun d => d.parameters.length) = some 3 := ⟨nq_18.1, nq_18.2, pd_54⟩
abbrev qX11_years : fmY := (yX11_years, cX11_years, 4, (some .int))
set_option maxRecDepth 100000 in
theorem nc_X11_years : Cond.code yX11_years cX11_years 4 (some .int) ∈ fmWs := fm_c8 231 rfl rfl
theorem nm_X11_years : Cond.instanceMethod yX11_years ∈ fmWs := fm_c8 229 (by eq_refl) rfl
theorem nl_X11_years : Cond.selects RX11 yX11_years yX11_years ∈ fmWs := fm_c8 230 (by eq_refl) rfl
theorem nd_X11_years : yX11_years.cls ≠ "java/lang/invoke/MethodHandle" ∧ yX11_years.cls ≠ "java/lang/invoke/VarHandle" ∧ (parseMethodDescriptor yX11_years.desc).map (fun d => d.parameters.length) = some 3 := ⟨nq_18.1, nq_18.2, pd_15⟩
abbrev qX11_yearsBy : fmY := (yX11_yearsBy, cX11_yearsBy, 5, none)
set_option maxRecDepth 100000 in
theorem nc_X11_yearsBy : Cond.code yX11_yearsBy cX11_yearsBy 5 none ∈ fmWs := fm_c8 235 rfl rfl
theorem nm_X11_yearsBy : Cond.instanceMethod yX11_yearsBy ∈ fmWs := fm_c8 234 (by eq_refl) rfl
theorem nl_X11_yearsBy : Cond.selects RX11 yX11_yearsBy yX11_yearsBy ∈ fmWs := fm_inp 97 (by eq_refl) rfl
theorem nd_X11_yearsBy : yX11_yearsBy.cls ≠ "java/lang/invoke/MethodHandle" ∧ yX11_yearsBy.cls ≠ "java/lang/invoke/VarHandle" ∧ (parseMethodDescriptor yX11_yearsBy.desc).map (fun d => d.parameters.length) = some 2 := ⟨nq_18.1, nq_18.2, pd_23⟩
abbrev qX11_span : fmY := (yX11_span, cX11_span, 12, (some .int))
set_option maxRecDepth 100000 in
theorem nc_X11_span : Cond.code yX11_span cX11_span 12 (some .int) ∈ fmWs := fm_c9 0 rfl rfl
theorem nm_X11_span : Cond.instanceMethod yX11_span ∈ fmWs := fm_c8 238 (by eq_refl) rfl
theorem nl_X11_span : Cond.selects RX11 yX11_span yX11_span ∈ fmWs := fm_c8 239 (by eq_refl) rfl
theorem nd_X11_span : yX11_span.cls ≠ "java/lang/invoke/MethodHandle" ∧ yX11_span.cls ≠ "java/lang/invoke/VarHandle" ∧ (parseMethodDescriptor yX11_span.desc).map (fun d => d.parameters.length) = some 5 := ⟨nq_18.1, nq_18.2, pd_4⟩
abbrev qX11_image : fmY := (yX11_image, cX11_image, 1, (some .int))
set_option maxRecDepth 100000 in
theorem nc_X11_image : Cond.code yX11_image cX11_image 1 (some .int) ∈ fmWs := fm_c9 4 rfl rfl
theorem nm_X11_image : Cond.instanceMethod yX11_image ∈ fmWs := fm_c9 2 (by eq_refl) rfl
theorem nl_X11_image : Cond.selects RX11 yX11_image yX11_image ∈ fmWs := fm_c9 3 (by eq_refl) rfl
theorem nd_X11_image : yX11_image.cls ≠ "java/lang/invoke/MethodHandle" ∧ yX11_image.cls ≠ "java/lang/invoke/VarHandle" ∧ (parseMethodDescriptor yX11_image.desc).map (fun d => d.parameters.length) = some 0 := ⟨nq_18.1, nq_18.2, pd_6⟩
abbrev qX11_putsAll : fmY := (yX11_putsAll, cX11_putsAll, 5, none)
set_option maxRecDepth 100000 in
theorem nc_X11_putsAll : Cond.code yX11_putsAll cX11_putsAll 5 none ∈ fmWs := fm_c9 8 rfl rfl
theorem nm_X11_putsAll : Cond.instanceMethod yX11_putsAll ∈ fmWs := fm_c9 7 (by eq_refl) rfl
theorem nl_X11_putsAll : Cond.selects RX11 yX11_putsAll yX11_putsAll ∈ fmWs := fm_inp 98 (by eq_refl) rfl
theorem pd_69 : (parseMethodDescriptor "([IZ)V").map (fun d => d.parameters.length) = some 2 := by decide +kernel
theorem nd_X11_putsAll : yX11_putsAll.cls ≠ "java/lang/invoke/MethodHandle" ∧ yX11_putsAll.cls ≠ "java/lang/invoke/VarHandle" ∧ (parseMethodDescriptor yX11_putsAll.desc).map (fun d => d.parameters.length) = some 2 := ⟨nq_18.1, nq_18.2, pd_69⟩
abbrev qX11_puts : fmY := (yX11_puts, cX11_puts, 4, (some .int))
set_option maxRecDepth 100000 in
theorem nc_X11_puts : Cond.code yX11_puts cX11_puts 4 (some .int) ∈ fmWs := fm_c9 12 rfl rfl
theorem nm_X11_puts : Cond.instanceMethod yX11_puts ∈ fmWs := fm_c9 11 (by eq_refl) rfl
theorem nl_X11_puts : Cond.selects RX11 yX11_puts yX11_puts ∈ fmWs := fm_inp 99 (by eq_refl) rfl
theorem pd_70 : (parseMethodDescriptor "([IIZ)I").map (fun d => d.parameters.length) = some 3 := by decide +kernel
theorem nd_X11_puts : yX11_puts.cls ≠ "java/lang/invoke/MethodHandle" ∧ yX11_puts.cls ≠ "java/lang/invoke/VarHandle" ∧ (parseMethodDescriptor yX11_puts.desc).map (fun d => d.parameters.length) = some 3 := ⟨nq_18.1, nq_18.2, pd_70⟩
abbrev qX11_restore : fmY := (yX11_restore, cX11_restore, 1, (some .int))
set_option maxRecDepth 100000 in
theorem nc_X11_restore : Cond.code yX11_restore cX11_restore 1 (some .int) ∈ fmWs := fm_c9 16 rfl rfl
theorem nm_X11_restore : Cond.instanceMethod yX11_restore ∈ fmWs := fm_c9 14 (by eq_refl) rfl
theorem nl_X11_restore : Cond.selects RX11 yX11_restore yX11_restore ∈ fmWs := fm_c9 15 (by eq_refl) rfl
theorem nd_X11_restore : yX11_restore.cls ≠ "java/lang/invoke/MethodHandle" ∧ yX11_restore.cls ≠ "java/lang/invoke/VarHandle" ∧ (parseMethodDescriptor yX11_restore.desc).map (fun d => d.parameters.length) = some 0 := ⟨nq_18.1, nq_18.2, pd_6⟩
abbrev qX11_status : fmY := (yX11_status, cX11_status, 2, (some .int))
set_option maxRecDepth 100000 in
theorem nc_X11_status : Cond.code yX11_status cX11_status 2 (some .int) ∈ fmWs := fm_c9 20 rfl rfl
theorem nm_X11_status : Cond.instanceMethod yX11_status ∈ fmWs := fm_c9 18 (by eq_refl) rfl
theorem nl_X11_status : Cond.selects RX11 yX11_status yX11_status ∈ fmWs := fm_c9 19 (by eq_refl) rfl
theorem nd_X11_status : yX11_status.cls ≠ "java/lang/invoke/MethodHandle" ∧ yX11_status.cls ≠ "java/lang/invoke/VarHandle" ∧ (parseMethodDescriptor yX11_status.desc).map (fun d => d.parameters.length) = some 1 := ⟨nq_18.1, nq_18.2, pd_20⟩
abbrev qX11_count : fmY := (yX11_count, cX11_count, 2, (some .int))
set_option maxRecDepth 100000 in
theorem nc_X11_count : Cond.code yX11_count cX11_count 2 (some .int) ∈ fmWs := fm_c9 24 rfl rfl
theorem nm_X11_count : Cond.instanceMethod yX11_count ∈ fmWs := fm_c9 22 (by eq_refl) rfl
theorem nl_X11_count : Cond.selects RX11 yX11_count yX11_count ∈ fmWs := fm_c9 23 (by eq_refl) rfl
theorem nd_X11_count : yX11_count.cls ≠ "java/lang/invoke/MethodHandle" ∧ yX11_count.cls ≠ "java/lang/invoke/VarHandle" ∧ (parseMethodDescriptor yX11_count.desc).map (fun d => d.parameters.length) = some 1 := ⟨nq_18.1, nq_18.2, pd_20⟩
theorem cv_X10_94 : fmCv RX10 94 qX6_begin 1 6 := ⟨⟨fm_c2 120 (by eq_refl) rfl, ni_X6, nc_X6_begin, nd_X6_begin, by decide⟩, nm_X6_begin, nl_X6_begin, _, rfl, rfl⟩
theorem cv_X10_104 : fmCv RX10 104 qX7_put 1 7 := ⟨⟨fm_c2 183 (by eq_refl) rfl, ni_X7, nc_X7_put, nd_X7_put, by decide⟩, nm_X7_put, nl_X7_put, _, rfl, rfl⟩
theorem cv_X10_108 : fmCv RX10 108 qX10_openText 2 10 := ⟨⟨fm_c3 117 (by eq_refl) rfl, ni_X10, nc_X10_openText, nd_X10_openText, by decide⟩, nm_X10_openText, nl_X10_openText, _, rfl, rfl⟩
theorem cv_X10_112 : fmCv RX10 112 qX8_read 1 8 := ⟨⟨fm_c3 195 (by eq_refl) rfl, ni_X8, nc_X8_read, nd_X8_read, by decide⟩, nm_X8_read, nl_X8_read, _, rfl, rfl⟩
theorem cv_X10_119 : fmCv RX10 119 qX8_copyFrom 1 8 := ⟨⟨fm_c4 69 (by eq_refl) rfl, ni_X8, nc_X8_copyFrom, nd_X8_copyFrom, by decide⟩, nm_X8_copyFrom, nl_X8_copyFrom, _, rfl, rfl⟩
theorem cv_X10_122 : fmCv RX10 122 qX1_clear 0 1 := ⟨⟨fm_c4 74 (by eq_refl) rfl, ni_X1, nc_X1_clear, nd_X1_clear, by decide⟩, nm_X1_clear, nl_X1_clear, _, rfl, rfl⟩
theorem cv_X10_125 : fmCv RX10 125 qX2_clear 0 2 := ⟨⟨fm_c4 75 (by eq_refl) rfl, ni_X2, nc_X2_clear, nd_X2_clear, by decide⟩, nm_X2_clear, nl_X2_clear, _, rfl, rfl⟩
theorem cv_X10_135 : fmCv RX10 135 qX3_forget 0 3 := ⟨⟨fm_c2 203 (by eq_refl) rfl, ni_X3, nc_X3_forget, nd_X3_forget, by decide⟩, nm_X3_forget, nl_X3_forget, _, rfl, rfl⟩
theorem cv_X10_141 : fmCv RX10 141 qX1_read 1 1 := ⟨⟨fm_c4 86 (by eq_refl) rfl, ni_X1, nc_X1_read, nd_X1_read, by decide⟩, nm_X1_read, nl_X1_read, _, rfl, rfl⟩
theorem cv_X10_142 : fmCv RX10 142 qX9_read 2 9 := ⟨⟨fm_c4 125 (by eq_refl) rfl, ni_X9, nc_X9_read, nd_X9_read, by decide⟩, nm_X9_read, nl_X9_read, _, rfl, rfl⟩
theorem cv_X10_145 : fmCv RX10 145 qX5_keep 0 5 := ⟨⟨fm_c4 149 (by eq_refl) rfl, ni_X5, nc_X5_keep, nd_X5_keep, by decide⟩, nm_X5_keep, nl_X5_keep, _, rfl, rfl⟩
theorem cv_X10_151 : fmCv RX10 151 qX9_perform 5 9 := ⟨⟨fm_c4 153 (by eq_refl) rfl, ni_X9, nc_X9_perform, nd_X9_perform, by decide⟩, nm_X9_perform, nl_X9_perform, _, rfl, rfl⟩
theorem cv_X10_161 : fmCv RX10 161 qX2_read 1 2 := ⟨⟨fm_c4 182 (by eq_refl) rfl, ni_X2, nc_X2_read, nd_X2_read, by decide⟩, nm_X2_read, nl_X2_read, _, rfl, rfl⟩
theorem cv_X10_166 : fmCv RX10 166 qX5_goBack 0 5 := ⟨⟨fm_c2 195 (by eq_refl) rfl, ni_X5, nc_X5_goBack, nd_X5_goBack, by decide⟩, nm_X5_goBack, nl_X5_goBack, _, rfl, rfl⟩
theorem cv_X10_169 : fmCv RX10 169 qX10_needWithin 3 10 := ⟨⟨fm_c3 121 (by eq_refl) rfl, ni_X10, nc_X10_needWithin, nd_X10_needWithin, by decide⟩, nm_X10_needWithin, nl_X10_needWithin, _, rfl, rfl⟩
theorem cs_X10_182 : fmCs RX10 182 qJ6_bitCount_0f7a4 1 := ⟨⟨fm_c4 205 (by eq_refl) rfl, ni_J6, nc_J6_bitCount_0f7a4, nd_J6_bitCount_0f7a4, by decide⟩, ns_J6_bitCount_0f7a4⟩
theorem cv_X10_188 : fmCv RX10 188 qX6_pieces 1 6 := ⟨⟨fm_c4 206 (by eq_refl) rfl, ni_X6, nc_X6_pieces, nd_X6_pieces, by decide⟩, nm_X6_pieces, nl_X6_pieces, _, rfl, rfl⟩
theorem cv_X10_197 : fmCv RX10 197 qX10_needLife 1 10 := ⟨⟨fm_c4 218 (by eq_refl) rfl, ni_X10, nc_X10_needLife, nd_X10_needLife, by decide⟩, nm_X10_needLife, nl_X10_needLife, _, rfl, rfl⟩
theorem cv_X10_200 : fmCv RX10 200 qX0_yearsWhen 3 0 := ⟨⟨fm_c4 238 (by eq_refl) rfl, ni_X0, nc_X0_yearsWhen, nd_X0_yearsWhen, by decide⟩, nm_X0_yearsWhen, nl_X0_yearsWhen, _, rfl, rfl⟩
theorem cv_X10_212 : fmCv RX10 212 qX8_renewHours 1 8 := ⟨⟨fm_c4 239 (by eq_refl) rfl, ni_X8, nc_X8_renewHours, nd_X8_renewHours, by decide⟩, nm_X8_renewHours, nl_X8_renewHours, _, rfl, rfl⟩
theorem cv_X10_215 : fmCv RX10 215 qX6_isAlive 1 6 := ⟨⟨fm_c2 211 (by eq_refl) rfl, ni_X6, nc_X6_isAlive, nd_X6_isAlive, by decide⟩, nm_X6_isAlive, nl_X6_isAlive, _, rfl, rfl⟩
theorem cv_X10_225 : fmCv RX10 225 qX8_factBits 2 8 := ⟨⟨fm_c3 73 (by eq_refl) rfl, ni_X8, nc_X8_factBits, nd_X8_factBits, by decide⟩, nm_X8_factBits, nl_X8_factBits, _, rfl, rfl⟩
theorem cv_X10_229 : fmCv RX10 229 qX0_wrongWhen 4 0 := ⟨⟨fm_c5 14 (by eq_refl) rfl, ni_X0, nc_X0_wrongWhen, nd_X0_wrongWhen, by decide⟩, nm_X0_wrongWhen, nl_X0_wrongWhen, _, rfl, rfl⟩
theorem cv_X10_233 : fmCv RX10 233 qX1_outcome 5 1 := ⟨⟨fm_c5 22 (by eq_refl) rfl, ni_X1, nc_X1_outcome, nd_X1_outcome, by decide⟩, nm_X1_outcome, nl_X1_outcome, _, rfl, rfl⟩
theorem cv_X10_237 : fmCv RX10 237 qX0_signerDead 2 0 := ⟨⟨fm_c2 219 (by eq_refl) rfl, ni_X0, nc_X0_signerDead, nd_X0_signerDead, by decide⟩, nm_X0_signerDead, nl_X0_signerDead, _, rfl, rfl⟩
theorem cv_X10_241 : fmCv RX10 241 qX10_piecesWrongBy 1 10 := ⟨⟨fm_c5 70 (by eq_refl) rfl, ni_X10, nc_X10_piecesWrongBy, nd_X10_piecesWrongBy, by decide⟩, nm_X10_piecesWrongBy, nl_X10_piecesWrongBy, _, rfl, rfl⟩
theorem cv_X10_244 : fmCv RX10 244 qX10_needPart 1 10 := ⟨⟨fm_c5 30 (by eq_refl) rfl, ni_X10, nc_X10_needPart, nd_X10_needPart, by decide⟩, nm_X10_needPart, nl_X10_needPart, _, rfl, rfl⟩
theorem cs_X10_253 : fmCs RX10 253 qX10_termOf 3 := ⟨⟨fm_c5 35 (by eq_refl) rfl, ni_X10, nc_X10_termOf, nd_X10_termOf, by decide⟩, ns_X10_termOf⟩
theorem cv_X10_257 : fmCv RX10 257 qX0_costWhen 4 0 := ⟨⟨fm_c5 45 (by eq_refl) rfl, ni_X0, nc_X0_costWhen, nd_X0_costWhen, by decide⟩, nm_X0_costWhen, nl_X0_costWhen, _, rfl, rfl⟩
theorem cv_X10_261 : fmCv RX10 261 qX0_riskWhen 2 0 := ⟨⟨fm_c3 61 (by eq_refl) rfl, ni_X0, nc_X0_riskWhen, nd_X0_riskWhen, by decide⟩, nm_X0_riskWhen, nl_X0_riskWhen, _, rfl, rfl⟩
theorem cv_X10_267 : fmCv RX10 267 qX0_hoursFor 2 0 := ⟨⟨fm_c5 61 (by eq_refl) rfl, ni_X0, nc_X0_hoursFor, nd_X0_hoursFor, by decide⟩, nm_X0_hoursFor, nl_X0_hoursFor, _, rfl, rfl⟩
theorem cv_X10_270 : fmCv RX10 270 qX0_savedRisk 2 0 := ⟨⟨fm_c5 62 (by eq_refl) rfl, ni_X0, nc_X0_savedRisk, nd_X0_savedRisk, by decide⟩, nm_X0_savedRisk, nl_X0_savedRisk, _, rfl, rfl⟩
theorem cv_X10_273 : fmCv RX10 273 qX0_firstOfAll 1 0 := ⟨⟨fm_c2 232 (by eq_refl) rfl, ni_X0, nc_X0_firstOfAll, nd_X0_firstOfAll, by decide⟩, nm_X0_firstOfAll, nl_X0_firstOfAll, _, rfl, rfl⟩
theorem cv_X10_277 : fmCv RX10 277 qX10_aheadMost 0 10 := ⟨⟨fm_c3 56 (by eq_refl) rfl, ni_X10, nc_X10_aheadMost, nd_X10_aheadMost, by decide⟩, nm_X10_aheadMost, nl_X10_aheadMost, _, rfl, rfl⟩
theorem cv_X10_283 : fmCv RX10 283 qX8_nextChange 2 8 := ⟨⟨fm_c6 39 (by eq_refl) rfl, ni_X8, nc_X8_nextChange, nd_X8_nextChange, by decide⟩, nm_X8_nextChange, nl_X8_nextChange, _, rfl, rfl⟩
theorem cv_X10_286 : fmCv RX10 286 qX0_lossAhead 4 0 := ⟨⟨fm_c6 50 (by eq_refl) rfl, ni_X0, nc_X0_lossAhead, nd_X0_lossAhead, by decide⟩, nm_X0_lossAhead, nl_X0_lossAhead, _, rfl, rfl⟩
theorem cv_X10_289 : fmCv RX10 289 qX3_prepare 2 3 := ⟨⟨fm_c5 81 (by eq_refl) rfl, ni_X3, nc_X3_prepare, nd_X3_prepare, by decide⟩, nm_X3_prepare, nl_X3_prepare, _, rfl, rfl⟩
theorem cv_X10_293 : fmCv RX10 293 qX3_leastLoss 0 3 := ⟨⟨fm_c5 121 (by eq_refl) rfl, ni_X3, nc_X3_leastLoss, nd_X3_leastLoss, by decide⟩, nm_X3_leastLoss, nl_X3_leastLoss, _, rfl, rfl⟩
theorem cv_X10_297 : fmCv RX10 297 qX3_writtenIn 1 3 := ⟨⟨fm_c5 132 (by eq_refl) rfl, ni_X3, nc_X3_writtenIn, nd_X3_writtenIn, by decide⟩, nm_X3_writtenIn, nl_X3_writtenIn, _, rfl, rfl⟩
theorem cv_X10_300 : fmCv RX10 300 qX0_riskAtAge 3 0 := ⟨⟨fm_c5 143 (by eq_refl) rfl, ni_X0, nc_X0_riskAtAge, nd_X0_riskAtAge, by decide⟩, nm_X0_riskAtAge, nl_X0_riskAtAge, _, rfl, rfl⟩
theorem cv_X10_304 : fmCv RX10 304 qX10_renewalPrice 2 10 := ⟨⟨fm_c5 147 (by eq_refl) rfl, ni_X10, nc_X10_renewalPrice, nd_X10_renewalPrice, by decide⟩, nm_X10_renewalPrice, nl_X10_renewalPrice, _, rfl, rfl⟩
theorem cv_X10_308 : fmCv RX10 308 qX10_needRumour 4 10 := ⟨⟨fm_c5 165 (by eq_refl) rfl, ni_X10, nc_X10_needRumour, nd_X10_needRumour, by decide⟩, nm_X10_needRumour, nl_X10_needRumour, _, rfl, rfl⟩
theorem cs_X10_312 : fmCs RX10 312 qX10_meanOf 6 := ⟨⟨fm_c5 169 (by eq_refl) rfl, ni_X10, nc_X10_meanOf, nd_X10_meanOf, by decide⟩, ns_X10_meanOf⟩
theorem cs_X10_316 : fmCs RX10 316 qX10_bestWay 5 := ⟨⟨fm_c5 179 (by eq_refl) rfl, ni_X10, nc_X10_bestWay, nd_X10_bestWay, by decide⟩, ns_X10_bestWay⟩
theorem cv_X10_319 : fmCv RX10 319 qX10_needBits 1 10 := ⟨⟨fm_c5 196 (by eq_refl) rfl, ni_X10, nc_X10_needBits, nd_X10_needBits, by decide⟩, nm_X10_needBits, nl_X10_needBits, _, rfl, rfl⟩
theorem cv_X10_322 : fmCv RX10 322 qX10_fillRoom 2 10 := ⟨⟨fm_c5 200 (by eq_refl) rfl, ni_X10, nc_X10_fillRoom, nd_X10_fillRoom, by decide⟩, nm_X10_fillRoom, nl_X10_fillRoom, _, rfl, rfl⟩
theorem cs_X10_325 : fmCs RX10 325 qX10_roomWorth 1 := ⟨⟨fm_c5 215 (by eq_refl) rfl, ni_X10, nc_X10_roomWorth, nd_X10_roomWorth, by decide⟩, ns_X10_roomWorth⟩
theorem cs_X10_328 : fmCs RX10 328 qX10_roomShift 1 := ⟨⟨fm_c5 211 (by eq_refl) rfl, ni_X10, nc_X10_roomShift, nd_X10_roomShift, by decide⟩, ns_X10_roomShift⟩
theorem cv_X10_331 : fmCv RX10 331 qX10_look 0 10 := ⟨⟨fm_c3 69 (by eq_refl) rfl, ni_X10, nc_X10_look, nd_X10_look, by decide⟩, nm_X10_look, nl_X10_look, _, rfl, rfl⟩
theorem cv_X10_334 : fmCv RX10 334 qX10_tellsApart 2 10 := ⟨⟨fm_c5 233 (by eq_refl) rfl, ni_X10, nc_X10_tellsApart, nd_X10_tellsApart, by decide⟩, nm_X10_tellsApart, nl_X10_tellsApart, _, rfl, rfl⟩
theorem cv_X10_338 : fmCv RX10 338 qX10_weeksAsPage 1 10 := ⟨⟨fm_c3 81 (by eq_refl) rfl, ni_X10, nc_X10_weeksAsPage, nd_X10_weeksAsPage, by decide⟩, nm_X10_weeksAsPage, nl_X10_weeksAsPage, _, rfl, rfl⟩
theorem cv_X10_342 : fmCv RX10 342 qX4_play 3 4 := ⟨⟨fm_c6 58 (by eq_refl) rfl, ni_X4, nc_X4_play, nd_X4_play, by decide⟩, nm_X4_play, nl_X4_play, _, rfl, rfl⟩
theorem cs_X10_352 : fmCs RX10 352 qJ9_min_7cf53 2 := ⟨⟨fm_c3 60 (by eq_refl) rfl, ni_J9, nc_J9_min_7cf53, nd_J9_min_7cf53, by decide⟩, ns_J9_min_7cf53⟩
theorem cs_X10_357 : fmCs RX10 357 qJ9_max_7cf53 2 := ⟨⟨fm_c5 214 (by eq_refl) rfl, ni_J9, nc_J9_max_7cf53, nd_J9_max_7cf53, by decide⟩, ns_J9_max_7cf53⟩
theorem cv_X10_360 : fmCv RX10 360 qX5_copyFrom 1 5 := ⟨⟨fm_c3 93 (by eq_refl) rfl, ni_X5, nc_X5_copyFrom, nd_X5_copyFrom, by decide⟩, nm_X5_copyFrom, nl_X5_copyFrom, _, rfl, rfl⟩
theorem cv_X10_381 : fmCv RX10 381 qX7_open 1 7 := ⟨⟨fm_c3 191 (by eq_refl) rfl, ni_X7, nc_X7_open, nd_X7_open, by decide⟩, nm_X7_open, nl_X7_open, _, rfl, rfl⟩
theorem cs_X10_384 : fmCs RX10 384 qJ7_fill_53178 2 := ⟨⟨fm_c5 204 (by eq_refl) rfl, ni_J7, nc_J7_fill_53178, nd_J7_fill_53178, by decide⟩, ns_J7_fill_53178⟩
theorem cv_X10_390 : fmCv RX10 390 qX10_addToRoom 2 10 := ⟨⟨fm_c5 207 (by eq_refl) rfl, ni_X10, nc_X10_addToRoom, nd_X10_addToRoom, by decide⟩, nm_X10_addToRoom, nl_X10_addToRoom, _, rfl, rfl⟩
theorem cv_X10_394 : fmCv RX10 394 qX2_fits 1 2 := ⟨⟨fm_c3 85 (by eq_refl) rfl, ni_X2, nc_X2_fits, nd_X2_fits, by decide⟩, nm_X2_fits, nl_X2_fits, _, rfl, rfl⟩
theorem cv_X0_38 : fmCv RX0 38 qX6_isAlive 1 6 := ⟨⟨fm_c2 223 (by eq_refl) rfl, ni_X6, nc_X6_isAlive, nd_X6_isAlive, by decide⟩, nm_X6_isAlive, nl_X6_isAlive, _, rfl, rfl⟩
theorem cv_X0_42 : fmCv RX0 42 qX8_changesBetween 3 8 := ⟨⟨fm_c3 13 (by eq_refl) rfl, ni_X8, nc_X8_changesBetween, nd_X8_changesBetween, by decide⟩, nm_X8_changesBetween, nl_X8_changesBetween, _, rfl, rfl⟩
theorem cv_X0_46 : fmCv RX0 46 qX0_yearsWhen 3 0 := ⟨⟨fm_c3 17 (by eq_refl) rfl, ni_X0, nc_X0_yearsWhen, nd_X0_yearsWhen, by decide⟩, nm_X0_yearsWhen, nl_X0_yearsWhen, _, rfl, rfl⟩
theorem cv_X0_53 : fmCv RX0 53 qX0_signerDead 2 0 := ⟨⟨fm_c3 21 (by eq_refl) rfl, ni_X0, nc_X0_signerDead, nd_X0_signerDead, by decide⟩, nm_X0_signerDead, nl_X0_signerDead, _, rfl, rfl⟩
theorem cv_X0_57 : fmCv RX0 57 qX1_outcome 5 1 := ⟨⟨fm_c3 22 (by eq_refl) rfl, ni_X1, nc_X1_outcome, nd_X1_outcome, by decide⟩, nm_X1_outcome, nl_X1_outcome, _, rfl, rfl⟩
theorem cv_X0_71 : fmCv RX0 71 qX0_wrongWhen 4 0 := ⟨⟨fm_c3 9 (by eq_refl) rfl, ni_X0, nc_X0_wrongWhen, nd_X0_wrongWhen, by decide⟩, nm_X0_wrongWhen, nl_X0_wrongWhen, _, rfl, rfl⟩
theorem cv_X0_84 : fmCv RX0 84 qX0_costWhen 4 0 := ⟨⟨fm_c3 4 (by eq_refl) rfl, ni_X0, nc_X0_costWhen, nd_X0_costWhen, by decide⟩, nm_X0_costWhen, nl_X0_costWhen, _, rfl, rfl⟩
theorem cv_X0_91 : fmCv RX0 91 qX8_renewHours 1 8 := ⟨⟨fm_c3 46 (by eq_refl) rfl, ni_X8, nc_X8_renewHours, nd_X8_renewHours, by decide⟩, nm_X8_renewHours, nl_X8_renewHours, _, rfl, rfl⟩
theorem cv_X0_95 : fmCv RX0 95 qX0_canBePut 2 0 := ⟨⟨fm_c3 0 (by eq_refl) rfl, ni_X0, nc_X0_canBePut, nd_X0_canBePut, by decide⟩, nm_X0_canBePut, nl_X0_canBePut, _, rfl, rfl⟩
theorem cs_X0_99 : fmCs RX0 99 qJ9_max_f86c9 2 := ⟨⟨fm_c3 35 (by eq_refl) rfl, ni_J9, nc_J9_max_f86c9, nd_J9_max_f86c9, by decide⟩, ns_J9_max_f86c9⟩
theorem cv_X0_105 : fmCv RX0 105 qX0_savedRisk 2 0 := ⟨⟨fm_c2 236 (by eq_refl) rfl, ni_X0, nc_X0_savedRisk, nd_X0_savedRisk, by decide⟩, nm_X0_savedRisk, nl_X0_savedRisk, _, rfl, rfl⟩
theorem cv_X0_109 : fmCv RX0 109 qX0_firstOf 3 0 := ⟨⟨fm_c3 38 (by eq_refl) rfl, ni_X0, nc_X0_firstOf, nd_X0_firstOf, by decide⟩, nm_X0_firstOf, nl_X0_firstOf, _, rfl, rfl⟩
theorem cv_X0_113 : fmCv RX0 113 qX0_hoursFor 2 0 := ⟨⟨fm_c3 42 (by eq_refl) rfl, ni_X0, nc_X0_hoursFor, nd_X0_hoursFor, by decide⟩, nm_X0_hoursFor, nl_X0_hoursFor, _, rfl, rfl⟩
theorem cs_X0_125 : fmCs RX0 125 qJ9_max_7cf53 2 := ⟨⟨fm_c4 170 (by eq_refl) rfl, ni_J9, nc_J9_max_7cf53, nd_J9_max_7cf53, by decide⟩, ns_J9_max_7cf53⟩
theorem cv_X1_21 : fmCv RX1 21 qX1_clear 0 1 := ⟨⟨fm_c1 150 (by eq_refl) rfl, ni_X1, nc_X1_clear, nd_X1_clear, by decide⟩, nm_X1_clear, nl_X1_clear, _, rfl, rfl⟩
theorem cv_X1_31 : fmCv RX1 31 qX1_readSum 2 1 := ⟨⟨fm_c4 90 (by eq_refl) rfl, ni_X1, nc_X1_readSum, nd_X1_readSum, by decide⟩, nm_X1_readSum, nl_X1_readSum, _, rfl, rfl⟩
theorem cv_X1_35 : fmCv RX1 35 qX7_peek 0 7 := ⟨⟨fm_c4 102 (by eq_refl) rfl, ni_X7, nc_X7_peek, nd_X7_peek, by decide⟩, nm_X7_peek, nl_X7_peek, _, rfl, rfl⟩
theorem cv_X1_44 : fmCv RX1 44 qX7_fail 2 7 := ⟨⟨fm_c4 103 (by eq_refl) rfl, ni_X7, nc_X7_fail, nd_X7_fail, by decide⟩, nm_X7_fail, nl_X7_fail, _, rfl, rfl⟩
theorem ca_X1_48 : Cond.methodLink RX1 48 arraycopyName ∈ fmWs := fm_c4 117 (by eq_refl) rfl
theorem cv_X1_54 : fmCv RX1 54 qX1_readProduct 2 1 := ⟨⟨fm_c4 94 (by eq_refl) rfl, ni_X1, nc_X1_readProduct, nd_X1_readProduct, by decide⟩, nm_X1_readProduct, nl_X1_readProduct, _, rfl, rfl⟩
theorem cv_X1_57 : fmCv RX1 57 qX1_emit 1 1 := ⟨⟨fm_c4 106 (by eq_refl) rfl, ni_X1, nc_X1_emit, nd_X1_emit, by decide⟩, nm_X1_emit, nl_X1_emit, _, rfl, rfl⟩
theorem cv_X1_61 : fmCv RX1 61 qX1_readUnit 2 1 := ⟨⟨fm_c4 98 (by eq_refl) rfl, ni_X1, nc_X1_readUnit, nd_X1_readUnit, by decide⟩, nm_X1_readUnit, nl_X1_readUnit, _, rfl, rfl⟩
theorem cv_X1_64 : fmCv RX1 64 qX7_takeSign 1 7 := ⟨⟨fm_c4 104 (by eq_refl) rfl, ni_X7, nc_X7_takeSign, nd_X7_takeSign, by decide⟩, nm_X7_takeSign, nl_X7_takeSign, _, rfl, rfl⟩
theorem cv_X1_68 : fmCv RX1 68 qX7_takeNumber 2 7 := ⟨⟨fm_c4 105 (by eq_refl) rfl, ni_X7, nc_X7_takeNumber, nd_X7_takeNumber, by decide⟩, nm_X7_takeNumber, nl_X7_takeNumber, _, rfl, rfl⟩
theorem cv_X1_72 : fmCv RX1 72 qX7_failed 0 7 := ⟨⟨fm_c4 110 (by eq_refl) rfl, ni_X7, nc_X7_failed, nd_X7_failed, by decide⟩, nm_X7_failed, nl_X7_failed, _, rfl, rfl⟩
theorem cv_X1_78 : fmCv RX1 78 qX7_takeWord 1 7 := ⟨⟨fm_c4 112 (by eq_refl) rfl, ni_X7, nc_X7_takeWord, nd_X7_takeWord, by decide⟩, nm_X7_takeWord, nl_X7_takeWord, _, rfl, rfl⟩
theorem cv_X1_82 : fmCv RX1 82 qX1_readTwo 2 1 := ⟨⟨fm_c4 113 (by eq_refl) rfl, ni_X1, nc_X1_readTwo, nd_X1_readTwo, by decide⟩, nm_X1_readTwo, nl_X1_readTwo, _, rfl, rfl⟩
theorem cs_X1_85 : fmCs RX1 85 qX1_joined 3 := ⟨⟨fm_c3 26 (by eq_refl) rfl, ni_X1, nc_X1_joined, nd_X1_joined, by decide⟩, ns_X1_joined⟩
theorem cs_X1_89 : fmCs RX1 89 qJ9_min_7cf53 2 := ⟨⟨fm_c3 29 (by eq_refl) rfl, ni_J9, nc_J9_min_7cf53, nd_J9_min_7cf53, by decide⟩, ns_J9_min_7cf53⟩
theorem cs_X1_94 : fmCs RX1 94 qJ9_max_7cf53 2 := ⟨⟨fm_c3 32 (by eq_refl) rfl, ni_J9, nc_J9_max_7cf53, nd_J9_max_7cf53, by decide⟩, ns_J9_max_7cf53⟩
theorem cv_X2_21 : fmCv RX2 21 qX7_peek 0 7 := ⟨⟨fm_c4 186 (by eq_refl) rfl, ni_X7, nc_X7_peek, nd_X7_peek, by decide⟩, nm_X7_peek, nl_X7_peek, _, rfl, rfl⟩
theorem cv_X2_27 : fmCv RX2 27 qX7_nextPlace 0 7 := ⟨⟨fm_c4 187 (by eq_refl) rfl, ni_X7, nc_X7_nextPlace, nd_X7_nextPlace, by decide⟩, nm_X7_nextPlace, nl_X7_nextPlace, _, rfl, rfl⟩
theorem cv_X2_30 : fmCv RX2 30 qX7_takeNumber 2 7 := ⟨⟨fm_c4 188 (by eq_refl) rfl, ni_X7, nc_X7_takeNumber, nd_X7_takeNumber, by decide⟩, nm_X7_takeNumber, nl_X7_takeNumber, _, rfl, rfl⟩
theorem cv_X2_34 : fmCv RX2 34 qX7_fail 2 7 := ⟨⟨fm_c4 189 (by eq_refl) rfl, ni_X7, nc_X7_fail, nd_X7_fail, by decide⟩, nm_X7_fail, nl_X7_fail, _, rfl, rfl⟩
theorem cv_X2_38 : fmCv RX2 38 qX7_takeSign 1 7 := ⟨⟨fm_c4 190 (by eq_refl) rfl, ni_X7, nc_X7_takeSign, nd_X7_takeSign, by decide⟩, nm_X7_takeSign, nl_X7_takeSign, _, rfl, rfl⟩
theorem cv_X2_42 : fmCv RX2 42 qX7_failed 0 7 := ⟨⟨fm_c4 191 (by eq_refl) rfl, ni_X7, nc_X7_failed, nd_X7_failed, by decide⟩, nm_X7_failed, nl_X7_failed, _, rfl, rfl⟩
theorem cs_X2_46 : fmCs RX2 46 qJ6_bitCount_0f7a4 1 := ⟨⟨fm_c4 192 (by eq_refl) rfl, ni_J6, nc_J6_bitCount_0f7a4, nd_J6_bitCount_0f7a4, by decide⟩, ns_J6_bitCount_0f7a4⟩
theorem cs_X3_37 : fmCs RX3 37 qX3_keyShift 1 := ⟨⟨fm_c5 100 (by eq_refl) rfl, ni_X3, nc_X3_keyShift, nd_X3_keyShift, by decide⟩, ns_X3_keyShift⟩
theorem cs_X3_41 : fmCs RX3 41 qJ7_fill_d0a16 2 := ⟨⟨fm_c5 85 (by eq_refl) rfl, ni_J7, nc_J7_fill_d0a16, nd_J7_fill_d0a16, by decide⟩, ns_J7_fill_d0a16⟩
theorem cs_X3_63 : fmCs RX3 63 qJ9_min_7cf53 2 := ⟨⟨fm_c5 88 (by eq_refl) rfl, ni_J9, nc_J9_min_7cf53, nd_J9_min_7cf53, by decide⟩, ns_J9_min_7cf53⟩
theorem cs_X3_69 : fmCs RX3 69 qJ9_max_7cf53 2 := ⟨⟨fm_c5 89 (by eq_refl) rfl, ni_J9, nc_J9_max_7cf53, nd_J9_max_7cf53, by decide⟩, ns_J9_max_7cf53⟩
theorem cv_X3_75 : fmCv RX3 75 qX6_isAlive 1 6 := ⟨⟨fm_c5 90 (by eq_refl) rfl, ni_X6, nc_X6_isAlive, nd_X6_isAlive, by decide⟩, nm_X6_isAlive, nl_X6_isAlive, _, rfl, rfl⟩
theorem cv_X3_82 : fmCv RX3 82 qX3_weighWays 3 3 := ⟨⟨fm_c5 91 (by eq_refl) rfl, ni_X3, nc_X3_weighWays, nd_X3_weighWays, by decide⟩, nm_X3_weighWays, nl_X3_weighWays, _, rfl, rfl⟩
theorem cv_X3_86 : fmCv RX3 86 qX3_addLife 1 3 := ⟨⟨fm_c5 107 (by eq_refl) rfl, ni_X3, nc_X3_addLife, nd_X3_addLife, by decide⟩, nm_X3_addLife, nl_X3_addLife, _, rfl, rfl⟩
theorem cs_X3_90 : fmCs RX3 90 qX3_cellOf 3 := ⟨⟨fm_c5 111 (by eq_refl) rfl, ni_X3, nc_X3_cellOf, nd_X3_cellOf, by decide⟩, ns_X3_cellOf⟩
theorem cv_X3_97 : fmCv RX3 97 qX3_hoursAtAge 2 3 := ⟨⟨fm_c5 95 (by eq_refl) rfl, ni_X3, nc_X3_hoursAtAge, nd_X3_hoursAtAge, by decide⟩, nm_X3_hoursAtAge, nl_X3_hoursAtAge, _, rfl, rfl⟩
theorem cv_X3_100 : fmCv RX3 100 qX0_lossAhead 4 0 := ⟨⟨fm_c5 103 (by eq_refl) rfl, ni_X0, nc_X0_lossAhead, nd_X0_lossAhead, by decide⟩, nm_X0_lossAhead, nl_X0_lossAhead, _, rfl, rfl⟩
theorem cv_X3_106 : fmCv RX3 106 qX8_renewHours 1 8 := ⟨⟨fm_c5 99 (by eq_refl) rfl, ni_X8, nc_X8_renewHours, nd_X8_renewHours, by decide⟩, nm_X8_renewHours, nl_X8_renewHours, _, rfl, rfl⟩
theorem cv_X3_109 : fmCv RX3 109 qX3_leastOf 4 3 := ⟨⟨fm_c5 114 (by eq_refl) rfl, ni_X3, nc_X3_leastOf, nd_X3_leastOf, by decide⟩, nm_X3_leastOf, nl_X3_leastOf, _, rfl, rfl⟩
theorem cs_X3_113 : fmCs RX3 113 qJ9_min_f86c9 2 := ⟨⟨fm_c5 118 (by eq_refl) rfl, ni_J9, nc_J9_min_f86c9, nd_J9_min_f86c9, by decide⟩, ns_J9_min_f86c9⟩
theorem cv_X4_26 : fmCv RX4 26 qX6_copyFrom 1 6 := ⟨⟨fm_c6 62 (by eq_refl) rfl, ni_X6, nc_X6_copyFrom, nd_X6_copyFrom, by decide⟩, nm_X6_copyFrom, nl_X6_copyFrom, _, rfl, rfl⟩
theorem cv_X4_47 : fmCv RX4 47 qX4_drawDeaths 0 4 := ⟨⟨fm_c6 63 (by eq_refl) rfl, ni_X4, nc_X4_drawDeaths, nd_X4_drawDeaths, by decide⟩, nm_X4_drawDeaths, nl_X4_drawDeaths, _, rfl, rfl⟩
theorem cv_X4_50 : fmCv RX4 50 qX4_putFirsts 0 4 := ⟨⟨fm_c6 74 (by eq_refl) rfl, ni_X4, nc_X4_putFirsts, nd_X4_putFirsts, by decide⟩, nm_X4_putFirsts, nl_X4_putFirsts, _, rfl, rfl⟩
theorem cv_X4_53 : fmCv RX4 53 qX0_passWeek 1 0 := ⟨⟨fm_c6 81 (by eq_refl) rfl, ni_X0, nc_X0_passWeek, nd_X0_passWeek, by decide⟩, nm_X0_passWeek, nl_X0_passWeek, _, rfl, rfl⟩
theorem cv_X4_69 : fmCv RX4 69 qX6_isAlive 1 6 := ⟨⟨fm_c6 67 (by eq_refl) rfl, ni_X6, nc_X6_isAlive, nd_X6_isAlive, by decide⟩, nm_X6_isAlive, nl_X6_isAlive, _, rfl, rfl⟩
theorem cv_X4_73 : fmCv RX4 73 qX4_drawOf64 0 4 := ⟨⟨fm_c6 68 (by eq_refl) rfl, ni_X4, nc_X4_drawOf64, nd_X4_drawOf64, by decide⟩, nm_X4_drawOf64, nl_X4_drawOf64, _, rfl, rfl⟩
theorem cv_X4_81 : fmCv RX4 81 qX0_letDie 2 0 := ⟨⟨fm_c6 73 (by eq_refl) rfl, ni_X0, nc_X0_letDie, nd_X0_letDie, by decide⟩, nm_X0_letDie, nl_X0_letDie, _, rfl, rfl⟩
theorem cv_X4_85 : fmCv RX4 85 qX0_savedRisk 2 0 := ⟨⟨fm_c6 78 (by eq_refl) rfl, ni_X0, nc_X0_savedRisk, nd_X0_savedRisk, by decide⟩, nm_X0_savedRisk, nl_X0_savedRisk, _, rfl, rfl⟩
theorem cv_X4_92 : fmCv RX4 92 qX0_firstOf 3 0 := ⟨⟨fm_c6 79 (by eq_refl) rfl, ni_X0, nc_X0_firstOf, nd_X0_firstOf, by decide⟩, nm_X0_firstOf, nl_X0_firstOf, _, rfl, rfl⟩
theorem cv_X4_96 : fmCv RX4 96 qX0_putPiece 2 0 := ⟨⟨fm_c6 80 (by eq_refl) rfl, ni_X0, nc_X0_putPiece, nd_X0_putPiece, by decide⟩, nm_X0_putPiece, nl_X0_putPiece, _, rfl, rfl⟩
theorem cv_X5_26 : fmCv RX5 26 qX6_copyFrom 1 6 := ⟨⟨fm_c2 199 (by eq_refl) rfl, ni_X6, nc_X6_copyFrom, nd_X6_copyFrom, by decide⟩, nm_X6_copyFrom, nl_X6_copyFrom, _, rfl, rfl⟩
theorem ca_X6_20 : Cond.methodLink RX6 20 arraycopyName ∈ fmWs := fm_c2 124 (by eq_refl) rfl
theorem cv_X7_31 : fmCv RX7 31 qX7_peek 0 7 := ⟨⟨fm_c3 211 (by eq_refl) rfl, ni_X7, nc_X7_peek, nd_X7_peek, by decide⟩, nm_X7_peek, nl_X7_peek, _, rfl, rfl⟩
theorem cv_X7_35 : fmCv RX7 35 qX7_fail 2 7 := ⟨⟨fm_c4 30 (by eq_refl) rfl, ni_X7, nc_X7_fail, nd_X7_fail, by decide⟩, nm_X7_fail, nl_X7_fail, _, rfl, rfl⟩
theorem cv_X7_39 : fmCv RX7 39 qX7_nextPlace 0 7 := ⟨⟨fm_c3 217 (by eq_refl) rfl, ni_X7, nc_X7_nextPlace, nd_X7_nextPlace, by decide⟩, nm_X7_nextPlace, nl_X7_nextPlace, _, rfl, rfl⟩
theorem cs_X7_43 : fmCs RX7 43 qJ9_min_7cf53 2 := ⟨⟨fm_c4 44 (by eq_refl) rfl, ni_J9, nc_J9_min_7cf53, nd_J9_min_7cf53, by decide⟩, ns_J9_min_7cf53⟩
theorem cv_X7_49 : fmCv RX7 49 qX7_find 3 7 := ⟨⟨fm_c3 218 (by eq_refl) rfl, ni_X7, nc_X7_find, nd_X7_find, by decide⟩, nm_X7_find, nl_X7_find, _, rfl, rfl⟩
theorem cv_X8_39 : fmCv RX8 39 qX8_clear 0 8 := ⟨⟨fm_c1 71 (by eq_refl) rfl, ni_X8, nc_X8_clear, nd_X8_clear, by decide⟩, nm_X8_clear, nl_X8_clear, _, rfl, rfl⟩
theorem ca_X8_61 : Cond.methodLink RX8 61 arraycopyName ∈ fmWs := fm_c4 73 (by eq_refl) rfl
theorem cv_X8_67 : fmCv RX8 67 qX7_peek 0 7 := ⟨⟨fm_c3 199 (by eq_refl) rfl, ni_X7, nc_X7_peek, nd_X7_peek, by decide⟩, nm_X7_peek, nl_X7_peek, _, rfl, rfl⟩
theorem cv_X8_73 : fmCv RX8 73 qX8_readClause 2 8 := ⟨⟨fm_c3 203 (by eq_refl) rfl, ni_X8, nc_X8_readClause, nd_X8_readClause, by decide⟩, nm_X8_readClause, nl_X8_readClause, _, rfl, rfl⟩
theorem cv_X8_77 : fmCv RX8 77 qX7_takeSign 1 7 := ⟨⟨fm_c4 65 (by eq_refl) rfl, ni_X7, nc_X7_takeSign, nd_X7_takeSign, by decide⟩, nm_X7_takeSign, nl_X7_takeSign, _, rfl, rfl⟩
theorem cv_X8_84 : fmCv RX8 84 qX7_fail 2 7 := ⟨⟨fm_c4 34 (by eq_refl) rfl, ni_X7, nc_X7_fail, nd_X7_fail, by decide⟩, nm_X7_fail, nl_X7_fail, _, rfl, rfl⟩
theorem cv_X8_88 : fmCv RX8 88 qX7_nextPlace 0 7 := ⟨⟨fm_c3 207 (by eq_refl) rfl, ni_X7, nc_X7_nextPlace, nd_X7_nextPlace, by decide⟩, nm_X7_nextPlace, nl_X7_nextPlace, _, rfl, rfl⟩
theorem cv_X8_93 : fmCv RX8 93 qX7_takeWord 1 7 := ⟨⟨fm_c3 213 (by eq_refl) rfl, ni_X7, nc_X7_takeWord, nd_X7_takeWord, by decide⟩, nm_X7_takeWord, nl_X7_takeWord, _, rfl, rfl⟩
theorem cv_X8_97 : fmCv RX8 97 qX8_readLife 1 8 := ⟨⟨fm_c4 35 (by eq_refl) rfl, ni_X8, nc_X8_readLife, nd_X8_readLife, by decide⟩, nm_X8_readLife, nl_X8_readLife, _, rfl, rfl⟩
theorem cv_X8_101 : fmCv RX8 101 qX8_readHas 1 8 := ⟨⟨fm_c4 49 (by eq_refl) rfl, ni_X8, nc_X8_readHas, nd_X8_readHas, by decide⟩, nm_X8_readHas, nl_X8_readHas, _, rfl, rfl⟩
theorem cv_X8_104 : fmCv RX8 104 qX8_readBy 1 8 := ⟨⟨fm_c4 53 (by eq_refl) rfl, ni_X8, nc_X8_readBy, nd_X8_readBy, by decide⟩, nm_X8_readBy, nl_X8_readBy, _, rfl, rfl⟩
theorem cv_X8_107 : fmCv RX8 107 qX8_readFact 1 8 := ⟨⟨fm_c4 57 (by eq_refl) rfl, ni_X8, nc_X8_readFact, nd_X8_readFact, by decide⟩, nm_X8_readFact, nl_X8_readFact, _, rfl, rfl⟩
theorem cv_X8_110 : fmCv RX8 110 qX8_readRule 2 8 := ⟨⟨fm_c4 61 (by eq_refl) rfl, ni_X8, nc_X8_readRule, nd_X8_readRule, by decide⟩, nm_X8_readRule, nl_X8_readRule, _, rfl, rfl⟩
theorem cv_X8_113 : fmCv RX8 113 qX7_takeNumber 2 7 := ⟨⟨fm_c4 39 (by eq_refl) rfl, ni_X7, nc_X7_takeNumber, nd_X7_takeNumber, by decide⟩, nm_X7_takeNumber, nl_X7_takeNumber, _, rfl, rfl⟩
theorem cv_X8_117 : fmCv RX8 117 qX7_failed 0 7 := ⟨⟨fm_c4 45 (by eq_refl) rfl, ni_X7, nc_X7_failed, nd_X7_failed, by decide⟩, nm_X7_failed, nl_X7_failed, _, rfl, rfl⟩
theorem cs_X8_121 : fmCs RX8 121 qJ9_max_7cf53 2 := ⟨⟨fm_c3 50 (by eq_refl) rfl, ni_J9, nc_J9_max_7cf53, nd_J9_max_7cf53, by decide⟩, ns_J9_max_7cf53⟩
theorem cv_X9_34 : fmCv RX9 34 qX9_readSteps 3 9 := ⟨⟨fm_c4 129 (by eq_refl) rfl, ni_X9, nc_X9_readSteps, nd_X9_readSteps, by decide⟩, nm_X9_readSteps, nl_X9_readSteps, _, rfl, rfl⟩
theorem cv_X9_38 : fmCv RX9 38 qX7_peek 0 7 := ⟨⟨fm_c4 133 (by eq_refl) rfl, ni_X7, nc_X7_peek, nd_X7_peek, by decide⟩, nm_X7_peek, nl_X7_peek, _, rfl, rfl⟩
theorem cv_X9_44 : fmCv RX9 44 qX9_readStep 3 9 := ⟨⟨fm_c4 134 (by eq_refl) rfl, ni_X9, nc_X9_readStep, nd_X9_readStep, by decide⟩, nm_X9_readStep, nl_X9_readStep, _, rfl, rfl⟩
theorem cv_X9_47 : fmCv RX9 47 qX7_takeSign 1 7 := ⟨⟨fm_c4 148 (by eq_refl) rfl, ni_X7, nc_X7_takeSign, nd_X7_takeSign, by decide⟩, nm_X7_takeSign, nl_X7_takeSign, _, rfl, rfl⟩
theorem cv_X9_51 : fmCv RX9 51 qX7_nextPlace 0 7 := ⟨⟨fm_c4 138 (by eq_refl) rfl, ni_X7, nc_X7_nextPlace, nd_X7_nextPlace, by decide⟩, nm_X7_nextPlace, nl_X7_nextPlace, _, rfl, rfl⟩
theorem cv_X9_56 : fmCv RX9 56 qX7_takeWord 1 7 := ⟨⟨fm_c4 140 (by eq_refl) rfl, ni_X7, nc_X7_takeWord, nd_X7_takeWord, by decide⟩, nm_X7_takeWord, nl_X7_takeWord, _, rfl, rfl⟩
theorem cv_X9_60 : fmCv RX9 60 qX7_fail 2 7 := ⟨⟨fm_c4 141 (by eq_refl) rfl, ni_X7, nc_X7_fail, nd_X7_fail, by decide⟩, nm_X7_fail, nl_X7_fail, _, rfl, rfl⟩
theorem cv_X9_64 : fmCv RX9 64 qX9_readAgain 4 9 := ⟨⟨fm_c4 142 (by eq_refl) rfl, ni_X9, nc_X9_readAgain, nd_X9_readAgain, by decide⟩, nm_X9_readAgain, nl_X9_readAgain, _, rfl, rfl⟩
theorem cv_X9_68 : fmCv RX9 68 qX7_takeNumber 2 7 := ⟨⟨fm_c4 146 (by eq_refl) rfl, ni_X7, nc_X7_takeNumber, nd_X7_takeNumber, by decide⟩, nm_X7_takeNumber, nl_X7_takeNumber, _, rfl, rfl⟩
theorem cv_X9_72 : fmCv RX9 72 qX7_failed 0 7 := ⟨⟨fm_c4 147 (by eq_refl) rfl, ni_X7, nc_X7_failed, nd_X7_failed, by decide⟩, nm_X7_failed, nl_X7_failed, _, rfl, rfl⟩
theorem cv_X9_76 : fmCv RX9 76 qX9_perform 5 9 := ⟨⟨fm_c4 157 (by eq_refl) rfl, ni_X9, nc_X9_perform, nd_X9_perform, by decide⟩, nm_X9_perform, nl_X9_perform, _, rfl, rfl⟩
theorem cs_X9_80 : fmCs RX9 80 qJ9_max_7cf53 2 := ⟨⟨fm_c4 158 (by eq_refl) rfl, ni_J9, nc_J9_max_7cf53, nd_J9_max_7cf53, by decide⟩, ns_J9_max_7cf53⟩
theorem cs_X9_85 : fmCs RX9 85 qX9_performStep 4 := ⟨⟨fm_c4 159 (by eq_refl) rfl, ni_X9, nc_X9_performStep, nd_X9_performStep, by decide⟩, ns_X9_performStep⟩
theorem cv_X9_94 : fmCv RX9 94 qX0_putPiece 2 0 := ⟨⟨fm_c4 162 (by eq_refl) rfl, ni_X0, nc_X0_putPiece, nd_X0_putPiece, by decide⟩, nm_X0_putPiece, nl_X0_putPiece, _, rfl, rfl⟩
theorem cv_X9_100 : fmCv RX9 100 qX0_letDie 2 0 := ⟨⟨fm_c4 166 (by eq_refl) rfl, ni_X0, nc_X0_letDie, nd_X0_letDie, by decide⟩, nm_X0_letDie, nl_X0_letDie, _, rfl, rfl⟩
theorem cv_X9_103 : fmCv RX9 103 qX0_passWeek 1 0 := ⟨⟨fm_c4 171 (by eq_refl) rfl, ni_X0, nc_X0_passWeek, nd_X0_passWeek, by decide⟩, nm_X0_passWeek, nl_X0_passWeek, _, rfl, rfl⟩
theorem cv_X11_95 : fmCv RX11 95 qX11_tellsNothing 0 11 := ⟨⟨fm_c6 97 (by eq_refl) rfl, ni_X11, nc_X11_tellsNothing, nd_X11_tellsNothing, by decide⟩, nm_X11_tellsNothing, nl_X11_tellsNothing, _, rfl, rfl⟩
theorem cv_X11_98 : fmCv RX11 98 qX11_stands 0 11 := ⟨⟨fm_c6 101 (by eq_refl) rfl, ni_X11, nc_X11_stands, nd_X11_stands, by decide⟩, nm_X11_stands, nl_X11_stands, _, rfl, rfl⟩
theorem cv_X11_113 : fmCv RX11 113 qX11_byteAt 1 11 := ⟨⟨fm_c7 39 (by eq_refl) rfl, ni_X11, nc_X11_byteAt, nd_X11_byteAt, by decide⟩, nm_X11_byteAt, nl_X11_byteAt, _, rfl, rfl⟩
theorem cv_X11_123 : fmCv RX11 123 qX11_blanks 0 11 := ⟨⟨fm_c7 35 (by eq_refl) rfl, ni_X11, nc_X11_blanks, nd_X11_blanks, by decide⟩, nm_X11_blanks, nl_X11_blanks, _, rfl, rfl⟩
theorem cs_X11_126 : fmCs RX11 126 qX11_isDigit 1 := ⟨⟨fm_c7 77 (by eq_refl) rfl, ni_X11, nc_X11_isDigit, nd_X11_isDigit, by decide⟩, ns_X11_isDigit⟩
theorem cv_X11_130 : fmCv RX11 130 qX11_wrongAt 2 11 := ⟨⟨fm_c7 65 (by eq_refl) rfl, ni_X11, nc_X11_wrongAt, nd_X11_wrongAt, by decide⟩, nm_X11_wrongAt, nl_X11_wrongAt, _, rfl, rfl⟩
theorem cs_X11_135 : fmCs RX11 135 qX11_in 3 := ⟨⟨fm_c7 24 (by eq_refl) rfl, ni_X11, nc_X11_in, nd_X11_in, by decide⟩, ns_X11_in⟩
theorem cs_X11_139 : fmCs RX11 139 qX11_isSmall 1 := ⟨⟨fm_c7 59 (by eq_refl) rfl, ni_X11, nc_X11_isSmall, nd_X11_isSmall, by decide⟩, ns_X11_isSmall⟩
theorem cv_X11_142 : fmCv RX11 142 qX11_wordHere 0 11 := ⟨⟨fm_c7 55 (by eq_refl) rfl, ni_X11, nc_X11_wordHere, nd_X11_wordHere, by decide⟩, nm_X11_wordHere, nl_X11_wordHere, _, rfl, rfl⟩
theorem cs_X11_146 : fmCs RX11 146 qX11_five 5 := ⟨⟨fm_c7 62 (by eq_refl) rfl, ni_X11, nc_X11_five, nd_X11_five, by decide⟩, ns_X11_five⟩
theorem cv_X11_150 : fmCv RX11 150 qX11_isWord 5 11 := ⟨⟨fm_c7 51 (by eq_refl) rfl, ni_X11, nc_X11_isWord, nd_X11_isWord, by decide⟩, nm_X11_isWord, nl_X11_isWord, _, rfl, rfl⟩
theorem cv_X11_154 : fmCv RX11 154 qX11_skipWord 0 11 := ⟨⟨fm_c7 69 (by eq_refl) rfl, ni_X11, nc_X11_skipWord, nd_X11_skipWord, by decide⟩, nm_X11_skipWord, nl_X11_skipWord, _, rfl, rfl⟩
theorem cv_X11_163 : fmCv RX11 163 qX11_number 2 11 := ⟨⟨fm_c7 73 (by eq_refl) rfl, ni_X11, nc_X11_number, nd_X11_number, by decide⟩, nm_X11_number, nl_X11_number, _, rfl, rfl⟩
theorem cv_X11_167 : fmCv RX11 167 qX11_kindHere 0 11 := ⟨⟨fm_c7 47 (by eq_refl) rfl, ni_X11, nc_X11_kindHere, nd_X11_kindHere, by decide⟩, nm_X11_kindHere, nl_X11_kindHere, _, rfl, rfl⟩
theorem cv_X11_170 : fmCv RX11 170 qX11_lifeHere 0 11 := ⟨⟨fm_c7 81 (by eq_refl) rfl, ni_X11, nc_X11_lifeHere, nd_X11_lifeHere, by decide⟩, nm_X11_lifeHere, nl_X11_lifeHere, _, rfl, rfl⟩
theorem cv_X11_173 : fmCv RX11 173 qX11_sign 1 11 := ⟨⟨fm_c7 85 (by eq_refl) rfl, ni_X11, nc_X11_sign, nd_X11_sign, by decide⟩, nm_X11_sign, nl_X11_sign, _, rfl, rfl⟩
theorem cv_X11_177 : fmCv RX11 177 qX11_bad 3 11 := ⟨⟨fm_c7 27 (by eq_refl) rfl, ni_X11, nc_X11_bad, nd_X11_bad, by decide⟩, nm_X11_bad, nl_X11_bad, _, rfl, rfl⟩
theorem cv_X11_181 : fmCv RX11 181 qX11_starts 1 11 := ⟨⟨fm_c7 31 (by eq_refl) rfl, ni_X11, nc_X11_starts, nd_X11_starts, by decide⟩, nm_X11_starts, nl_X11_starts, _, rfl, rfl⟩
theorem cv_X11_184 : fmCv RX11 184 qX11_clause 0 11 := ⟨⟨fm_c7 43 (by eq_refl) rfl, ni_X11, nc_X11_clause, nd_X11_clause, by decide⟩, nm_X11_clause, nl_X11_clause, _, rfl, rfl⟩
theorem cv_X11_187 : fmCv RX11 187 qX11_ends 0 11 := ⟨⟨fm_c7 89 (by eq_refl) rfl, ni_X11, nc_X11_ends, nd_X11_ends, by decide⟩, nm_X11_ends, nl_X11_ends, _, rfl, rfl⟩
theorem cs_X11_190 : fmCs RX11 190 qX11_lays 3 := ⟨⟨fm_c6 105 (by eq_refl) rfl, ni_X11, nc_X11_lays, nd_X11_lays, by decide⟩, ns_X11_lays⟩
theorem cv_X11_212 : fmCv RX11 212 qX11_product 0 11 := ⟨⟨fm_c7 101 (by eq_refl) rfl, ni_X11, nc_X11_product, nd_X11_product, by decide⟩, nm_X11_product, nl_X11_product, _, rfl, rfl⟩
theorem cv_X11_215 : fmCv RX11 215 qX11_takesSign 1 11 := ⟨⟨fm_c7 125 (by eq_refl) rfl, ni_X11, nc_X11_takesSign, nd_X11_takesSign, by decide⟩, nm_X11_takesSign, nl_X11_takesSign, _, rfl, rfl⟩
theorem cv_X11_218 : fmCv RX11 218 qX11_notes 2 11 := ⟨⟨fm_c7 113 (by eq_refl) rfl, ni_X11, nc_X11_notes, nd_X11_notes, by decide⟩, nm_X11_notes, nl_X11_notes, _, rfl, rfl⟩
theorem cv_X11_221 : fmCv RX11 221 qX11_one 0 11 := ⟨⟨fm_c7 105 (by eq_refl) rfl, ni_X11, nc_X11_one, nd_X11_one, by decide⟩, nm_X11_one, nl_X11_one, _, rfl, rfl⟩
theorem cv_X11_224 : fmCv RX11 224 qX11_takes 5 11 := ⟨⟨fm_c7 121 (by eq_refl) rfl, ni_X11, nc_X11_takes, nd_X11_takes, by decide⟩, nm_X11_takes, nl_X11_takes, _, rfl, rfl⟩
theorem cv_X11_227 : fmCv RX11 227 qX11_opens 0 11 := ⟨⟨fm_c7 109 (by eq_refl) rfl, ni_X11, nc_X11_opens, nd_X11_opens, by decide⟩, nm_X11_opens, nl_X11_opens, _, rfl, rfl⟩
theorem cv_X11_231 : fmCv RX11 231 qX11_sum 0 11 := ⟨⟨fm_c7 97 (by eq_refl) rfl, ni_X11, nc_X11_sum, nd_X11_sum, by decide⟩, nm_X11_sum, nl_X11_sum, _, rfl, rfl⟩
theorem cv_X11_234 : fmCv RX11 234 qX11_knownHere 0 11 := ⟨⟨fm_c7 117 (by eq_refl) rfl, ni_X11, nc_X11_knownHere, nd_X11_knownHere, by decide⟩, nm_X11_knownHere, nl_X11_knownHere, _, rfl, rfl⟩
theorem cs_X11_237 : fmCs RX11 237 qX11_less 2 := ⟨⟨fm_c7 224 (by eq_refl) rfl, ni_X11, nc_X11_less, nd_X11_less, by decide⟩, ns_X11_less⟩
theorem cs_X11_240 : fmCs RX11 240 qX11_more 2 := ⟨⟨fm_c7 178 (by eq_refl) rfl, ni_X11, nc_X11_more, nd_X11_more, by decide⟩, ns_X11_more⟩
theorem cs_X11_243 : fmCs RX11 243 qX11_by 3 := ⟨⟨fm_c7 221 (by eq_refl) rfl, ni_X11, nc_X11_by, nd_X11_by, by decide⟩, ns_X11_by⟩
theorem cv_X11_247 : fmCv RX11 247 qX11_stepHere 0 11 := ⟨⟨fm_c7 148 (by eq_refl) rfl, ni_X11, nc_X11_stepHere, nd_X11_stepHere, by decide⟩, nm_X11_stepHere, nl_X11_stepHere, _, rfl, rfl⟩
theorem cv_X11_253 : fmCv RX11 253 qX11_readsStep 0 11 := ⟨⟨fm_c7 144 (by eq_refl) rfl, ni_X11, nc_X11_readsStep, nd_X11_readsStep, by decide⟩, nm_X11_readsStep, nl_X11_readsStep, _, rfl, rfl⟩
theorem cs_X11_256 : fmCs RX11 256 qX11_has 2 := ⟨⟨fm_c7 133 (by eq_refl) rfl, ni_X11, nc_X11_has, nd_X11_has, by decide⟩, ns_X11_has⟩
theorem cv_X11_260 : fmCv RX11 260 qX11_byLaw 0 11 := ⟨⟨fm_c7 217 (by eq_refl) rfl, ni_X11, nc_X11_byLaw, nd_X11_byLaw, by decide⟩, nm_X11_byLaw, nl_X11_byLaw, _, rfl, rfl⟩
theorem cv_X11_263 : fmCv RX11 263 qX11_yearsOf 2 11 := ⟨⟨fm_c7 201 (by eq_refl) rfl, ni_X11, nc_X11_yearsOf, nd_X11_yearsOf, by decide⟩, nm_X11_yearsOf, nl_X11_yearsOf, _, rfl, rfl⟩
theorem cv_X11_266 : fmCv RX11 266 qX11_isByDead 2 11 := ⟨⟨fm_c7 205 (by eq_refl) rfl, ni_X11, nc_X11_isByDead, nd_X11_isByDead, by decide⟩, nm_X11_isByDead, nl_X11_isByDead, _, rfl, rfl⟩
theorem cv_X11_270 : fmCv RX11 270 qX11_changesOf 3 11 := ⟨⟨fm_c7 209 (by eq_refl) rfl, ni_X11, nc_X11_changesOf, nd_X11_changesOf, by decide⟩, nm_X11_changesOf, nl_X11_changesOf, _, rfl, rfl⟩
theorem cv_X11_273 : fmCv RX11 273 qX11_wrongBy 5 11 := ⟨⟨fm_c7 213 (by eq_refl) rfl, ni_X11, nc_X11_wrongBy, nd_X11_wrongBy, by decide⟩, nm_X11_wrongBy, nl_X11_wrongBy, _, rfl, rfl⟩
theorem cv_X11_276 : fmCv RX11 276 qX11_wrongIn 4 11 := ⟨⟨fm_c7 197 (by eq_refl) rfl, ni_X11, nc_X11_wrongIn, nd_X11_wrongIn, by decide⟩, nm_X11_wrongIn, nl_X11_wrongIn, _, rfl, rfl⟩
theorem cv_X11_280 : fmCv RX11 280 qX11_costIn 4 11 := ⟨⟨fm_c7 193 (by eq_refl) rfl, ni_X11, nc_X11_costIn, nd_X11_costIn, by decide⟩, nm_X11_costIn, nl_X11_costIn, _, rfl, rfl⟩
theorem cs_X11_283 : fmCs RX11 283 qX11_hasPiece 2 := ⟨⟨fm_c7 167 (by eq_refl) rfl, ni_X11, nc_X11_hasPiece, nd_X11_hasPiece, by decide⟩, ns_X11_hasPiece⟩
theorem cv_X11_287 : fmCv RX11 287 qX11_renewHours 1 11 := ⟨⟨fm_c7 174 (by eq_refl) rfl, ni_X11, nc_X11_renewHours, nd_X11_renewHours, by decide⟩, nm_X11_renewHours, nl_X11_renewHours, _, rfl, rfl⟩
theorem cv_X11_290 : fmCv RX11 290 qX11_hoursFor 2 11 := ⟨⟨fm_c7 170 (by eq_refl) rfl, ni_X11, nc_X11_hoursFor, nd_X11_hoursFor, by decide⟩, nm_X11_hoursFor, nl_X11_hoursFor, _, rfl, rfl⟩
theorem cv_X11_293 : fmCv RX11 293 qX11_costOf 2 11 := ⟨⟨fm_c7 189 (by eq_refl) rfl, ni_X11, nc_X11_costOf, nd_X11_costOf, by decide⟩, nm_X11_costOf, nl_X11_costOf, _, rfl, rfl⟩
theorem cv_X11_296 : fmCv RX11 296 qX11_mayWrite 2 11 := ⟨⟨fm_c7 163 (by eq_refl) rfl, ni_X11, nc_X11_mayWrite, nd_X11_mayWrite, by decide⟩, nm_X11_mayWrite, nl_X11_mayWrite, _, rfl, rfl⟩
theorem cv_X11_299 : fmCv RX11 299 qX11_writes 2 11 := ⟨⟨fm_c7 181 (by eq_refl) rfl, ni_X11, nc_X11_writes, nd_X11_writes, by decide⟩, nm_X11_writes, nl_X11_writes, _, rfl, rfl⟩
theorem cv_X11_303 : fmCv RX11 303 qX11_dies 2 11 := ⟨⟨fm_c7 185 (by eq_refl) rfl, ni_X11, nc_X11_dies, nd_X11_dies, by decide⟩, nm_X11_dies, nl_X11_dies, _, rfl, rfl⟩
theorem cv_X11_306 : fmCv RX11 306 qX11_weekEnds 1 11 := ⟨⟨fm_c7 227 (by eq_refl) rfl, ni_X11, nc_X11_weekEnds, nd_X11_weekEnds, by decide⟩, nm_X11_weekEnds, nl_X11_weekEnds, _, rfl, rfl⟩
theorem cv_X11_313 : fmCv RX11 313 qX11_goes 2 11 := ⟨⟨fm_c7 155 (by eq_refl) rfl, ni_X11, nc_X11_goes, nd_X11_goes, by decide⟩, nm_X11_goes, nl_X11_goes, _, rfl, rfl⟩
theorem cv_X11_316 : fmCv RX11 316 qX11_does 2 11 := ⟨⟨fm_c7 159 (by eq_refl) rfl, ni_X11, nc_X11_does, nd_X11_does, by decide⟩, nm_X11_does, nl_X11_does, _, rfl, rfl⟩
theorem cs_X11_323 : fmCs RX11 323 qX11_copies 2 := ⟨⟨fm_c7 152 (by eq_refl) rfl, ni_X11, nc_X11_copies, nd_X11_copies, by decide⟩, ns_X11_copies⟩
theorem cv_X11_327 : fmCv RX11 327 qX11_aliveIn 1 11 := ⟨⟨fm_c7 239 (by eq_refl) rfl, ni_X11, nc_X11_aliveIn, nd_X11_aliveIn, by decide⟩, nm_X11_aliveIn, nl_X11_aliveIn, _, rfl, rfl⟩
theorem cv_X11_331 : fmCv RX11 331 qX11_isLife 1 11 := ⟨⟨fm_c8 7 (by eq_refl) rfl, ni_X11, nc_X11_isLife, nd_X11_isLife, by decide⟩, nm_X11_isLife, nl_X11_isLife, _, rfl, rfl⟩
theorem cv_X11_334 : fmCv RX11 334 qX11_factsAt 2 11 := ⟨⟨fm_c8 15 (by eq_refl) rfl, ni_X11, nc_X11_factsAt, nd_X11_factsAt, by decide⟩, nm_X11_factsAt, nl_X11_factsAt, _, rfl, rfl⟩
theorem cv_X11_337 : fmCv RX11 337 qX11_wrongOf 1 11 := ⟨⟨fm_c8 23 (by eq_refl) rfl, ni_X11, nc_X11_wrongOf, nd_X11_wrongOf, by decide⟩, nm_X11_wrongOf, nl_X11_wrongOf, _, rfl, rfl⟩
theorem cv_X11_340 : fmCv RX11 340 qX11_noPart 2 11 := ⟨⟨fm_c8 35 (by eq_refl) rfl, ni_X11, nc_X11_noPart, nd_X11_noPart, by decide⟩, nm_X11_noPart, nl_X11_noPart, _, rfl, rfl⟩
theorem cs_X11_345 : fmCs RX11 345 qX11_partOf 3 := ⟨⟨fm_c8 40 (by eq_refl) rfl, ni_X11, nc_X11_partOf, nd_X11_partOf, by decide⟩, ns_X11_partOf⟩
theorem cv_X11_349 : fmCv RX11 349 qX11_riskOf 1 11 := ⟨⟨fm_c8 51 (by eq_refl) rfl, ni_X11, nc_X11_riskOf, nd_X11_riskOf, by decide⟩, nm_X11_riskOf, nl_X11_riskOf, _, rfl, rfl⟩
theorem cv_X11_355 : fmCv RX11 355 qX11_saved 2 11 := ⟨⟨fm_c8 60 (by eq_refl) rfl, ni_X11, nc_X11_saved, nd_X11_saved, by decide⟩, nm_X11_saved, nl_X11_saved, _, rfl, rfl⟩
theorem cv_X11_358 : fmCv RX11 358 qX11_firstOf 2 11 := ⟨⟨fm_c8 68 (by eq_refl) rfl, ni_X11, nc_X11_firstOf, nd_X11_firstOf, by decide⟩, nm_X11_firstOf, nl_X11_firstOf, _, rfl, rfl⟩
theorem cs_X11_365 : fmCs RX11 365 qX11_power 2 := ⟨⟨fm_c8 97 (by eq_refl) rfl, ni_X11, nc_X11_power, nd_X11_power, by decide⟩, ns_X11_power⟩
theorem cs_X11_369 : fmCs RX11 369 qX11_roomOf 3 := ⟨⟨fm_c8 104 (by eq_refl) rfl, ni_X11, nc_X11_roomOf, nd_X11_roomOf, by decide⟩, ns_X11_roomOf⟩
theorem cv_X11_374 : fmCv RX11 374 qX11_isOption 3 11 := ⟨⟨fm_c8 93 (by eq_refl) rfl, ni_X11, nc_X11_isOption, nd_X11_isOption, by decide⟩, nm_X11_isOption, nl_X11_isOption, _, rfl, rfl⟩
theorem cv_X11_377 : fmCv RX11 377 qX11_laysOption 2 11 := ⟨⟨fm_c8 100 (by eq_refl) rfl, ni_X11, nc_X11_laysOption, nd_X11_laysOption, by decide⟩, nm_X11_laysOption, nl_X11_laysOption, _, rfl, rfl⟩
theorem cv_X11_380 : fmCv RX11 380 qX11_laysBest 1 11 := ⟨⟨fm_c8 88 (by eq_refl) rfl, ni_X11, nc_X11_laysBest, nd_X11_laysBest, by decide⟩, nm_X11_laysBest, nl_X11_laysBest, _, rfl, rfl⟩
theorem cv_X11_385 : fmCv RX11 385 qX11_oftenBy 3 11 := ⟨⟨fm_c8 116 (by eq_refl) rfl, ni_X11, nc_X11_oftenBy, nd_X11_oftenBy, by decide⟩, nm_X11_oftenBy, nl_X11_oftenBy, _, rfl, rfl⟩
theorem cs_X11_389 : fmCs RX11 389 qX11_isRumour 4 := ⟨⟨fm_c8 128 (by eq_refl) rfl, ni_X11, nc_X11_isRumour, nd_X11_isRumour, by decide⟩, ns_X11_isRumour⟩
theorem cs_X11_393 : fmCs RX11 393 qX11_bringsBy 6 := ⟨⟨fm_c8 131 (by eq_refl) rfl, ni_X11, nc_X11_bringsBy, nd_X11_bringsBy, by decide⟩, ns_X11_bringsBy⟩
theorem cs_X11_397 : fmCs RX11 397 qX11_saysBy 5 := ⟨⟨fm_c8 138 (by eq_refl) rfl, ni_X11, nc_X11_saysBy, nd_X11_saysBy, by decide⟩, ns_X11_saysBy⟩
theorem cv_X11_403 : fmCv RX11 403 qX11_rooms 4 11 := ⟨⟨fm_c8 157 (by eq_refl) rfl, ni_X11, nc_X11_rooms, nd_X11_rooms, by decide⟩, nm_X11_rooms, nl_X11_rooms, _, rfl, rfl⟩
theorem cv_X11_407 : fmCv RX11 407 qX11_areLives 1 11 := ⟨⟨fm_c8 149 (by eq_refl) rfl, ni_X11, nc_X11_areLives, nd_X11_areLives, by decide⟩, nm_X11_areLives, nl_X11_areLives, _, rfl, rfl⟩
theorem cv_X11_410 : fmCv RX11 410 qX11_laysRoom 2 11 := ⟨⟨fm_c8 153 (by eq_refl) rfl, ni_X11, nc_X11_laysRoom, nd_X11_laysRoom, by decide⟩, nm_X11_laysRoom, nl_X11_laysRoom, _, rfl, rfl⟩
theorem cv_X11_413 : fmCv RX11 413 qX11_isApart 2 11 := ⟨⟨fm_c8 169 (by eq_refl) rfl, ni_X11, nc_X11_isApart, nd_X11_isApart, by decide⟩, nm_X11_isApart, nl_X11_isApart, _, rfl, rfl⟩
theorem cs_X11_416 : fmCs RX11 416 qX11_ones 1 := ⟨⟨fm_c8 173 (by eq_refl) rfl, ni_X11, nc_X11_ones, nd_X11_ones, by decide⟩, ns_X11_ones⟩
theorem cv_X11_419 : fmCv RX11 419 qX11_writtenOf 1 11 := ⟨⟨fm_c8 184 (by eq_refl) rfl, ni_X11, nc_X11_writtenOf, nd_X11_writtenOf, by decide⟩, nm_X11_writtenOf, nl_X11_writtenOf, _, rfl, rfl⟩
theorem cv_X11_423 : fmCv RX11 423 qX11_riskIn 1 11 := ⟨⟨fm_c8 196 (by eq_refl) rfl, ni_X11, nc_X11_riskIn, nd_X11_riskIn, by decide⟩, nm_X11_riskIn, nl_X11_riskIn, _, rfl, rfl⟩
theorem cv_X11_433 : fmCv RX11 433 qX11_yearsBy 2 11 := ⟨⟨fm_c8 232 (by eq_refl) rfl, ni_X11, nc_X11_yearsBy, nd_X11_yearsBy, by decide⟩, nm_X11_yearsBy, nl_X11_yearsBy, _, rfl, rfl⟩
theorem cv_X11_439 : fmCv RX11 439 qX11_puts 3 11 := ⟨⟨fm_c9 9 (by eq_refl) rfl, ni_X11, nc_X11_puts, nd_X11_puts, by decide⟩, nm_X11_puts, nl_X11_puts, _, rfl, rfl⟩
theorem cv_X11_443 : fmCv RX11 443 qX11_putsAll 2 11 := ⟨⟨fm_c9 5 (by eq_refl) rfl, ni_X11, nc_X11_putsAll, nd_X11_putsAll, by decide⟩, nm_X11_putsAll, nl_X11_putsAll, _, rfl, rfl⟩
theorem cs_J0_495 : fmCs RJ0 495 qJ1_charAt_3b067 2 := ⟨⟨fm_c4 0 (by eq_refl) rfl, ni_J1, nc_J1_charAt_3b067, nd_J1_charAt_3b067, by decide⟩, ns_J1_charAt_3b067⟩
theorem cs_J0_498 : fmCs RJ0 498 qJ2_charAt_3b067 2 := ⟨⟨fm_c4 11 (by eq_refl) rfl, ni_J2, nc_J2_charAt_3b067, nd_J2_charAt_3b067, by decide⟩, ns_J2_charAt_3b067⟩
theorem cs_J0_1059 : fmCs RJ0 1059 qJ3_checkIndex_8e157 3 := ⟨⟨fm_c4 8 (by eq_refl) rfl, ni_J3, nc_J3_checkIndex_8e157, nd_J3_checkIndex_8e157, by decide⟩, ns_J3_checkIndex_8e157⟩
theorem cs_J1_9 : fmCs RJ1 9 qJ0_checkIndex_df160 2 := ⟨⟨fm_c4 3 (by eq_refl) rfl, ni_J0, nc_J0_checkIndex_df160, nd_J0_checkIndex_df160, by decide⟩, ns_J0_checkIndex_df160⟩
theorem cs_J2_48 : fmCs RJ2 48 qJ2_length_9d52b 1 := ⟨⟨fm_c4 17 (by eq_refl) rfl, ni_J2, nc_J2_length_9d52b, nd_J2_length_9d52b, by decide⟩, ns_J2_length_9d52b⟩
theorem cs_J2_67 : fmCs RJ2 67 qJ2_checkIndex_2214a 2 := ⟨⟨fm_c4 14 (by eq_refl) rfl, ni_J2, nc_J2_checkIndex_2214a, nd_J2_checkIndex_2214a, by decide⟩, ns_J2_checkIndex_2214a⟩
theorem cs_J2_71 : fmCs RJ2 71 qJ2_getChar_3b067 2 := ⟨⟨fm_c4 21 (by eq_refl) rfl, ni_J2, nc_J2_getChar_3b067, nd_J2_getChar_3b067, by decide⟩, ns_J2_getChar_3b067⟩
theorem cs_J2_414 : fmCs RJ2 414 qJ0_checkIndex_df160 2 := ⟨⟨fm_c4 20 (by eq_refl) rfl, ni_J0, nc_J0_checkIndex_df160, nd_J0_checkIndex_df160, by decide⟩, ns_J0_checkIndex_df160⟩
theorem na_copy : Cond.native arraycopyName ∈ fmWs ∧ Cond.static arraycopyName ∈ fmWs ∧ Cond.initialized "java/lang/System" ∈ fmWs := ⟨fm_c2 126 (by eq_refl) rfl, fm_c2 125 (by eq_refl) rfl, fm_c1 12 (by eq_refl) rfl⟩
set_option maxRecDepth 20000 in
theorem fw_0 : ∀ w ∈ u_ws RX0 TX0 3, w ∈ fmWs := fun w h => List.mem_filter.mpr ⟨List.mem_append_right _ (tm_1 (goodIn_r (big := (tables_1_1)) (u_ws RX0 TX0 3) [229, 231, 233] (by decide +kernel) (by decide +kernel) w h).1), List.all_eq_true.mp (show (u_ws RX0 TX0 3).all goodWord = true by decide +kernel) w h⟩
theorem fk_0 : fmCl 0 (RX0, TX0, 3) := ⟨rfl, fw_0, tyX0_ok, nmX0⟩
set_option maxRecDepth 20000 in
theorem fw_1 : ∀ w ∈ u_ws RX1 TX1 5, w ∈ fmWs := fun w h => List.mem_filter.mpr ⟨List.mem_append_right _ (tm_1 (goodIn_r (big := (tables_1_1)) (u_ws RX1 TX1 5) [159, 161, 163, 165, 167] (by decide +kernel) (by decide +kernel) w h).1), List.all_eq_true.mp (show (u_ws RX1 TX1 5).all goodWord = true by decide +kernel) w h⟩
theorem fk_1 : fmCl 1 (RX1, TX1, 5) := ⟨rfl, fw_1, tyX1_ok, nmX1⟩
set_option maxRecDepth 20000 in
theorem fw_2 : ∀ w ∈ u_ws RX2 TX2 3, w ∈ fmWs := fun w h => List.mem_filter.mpr ⟨List.mem_append_right _ (tm_1 (goodIn_r (big := (tables_1_1)) (u_ws RX2 TX2 3) [180, 182, 184] (by decide +kernel) (by decide +kernel) w h).1), List.all_eq_true.mp (show (u_ws RX2 TX2 3).all goodWord = true by decide +kernel) w h⟩
theorem fk_2 : fmCl 2 (RX2, TX2, 3) := ⟨rfl, fw_2, tyX2_ok, nmX2⟩
set_option maxRecDepth 20000 in
theorem fw_3 : ∀ w ∈ u_ws RX3 TX3 7, w ∈ fmWs := fun w h => List.mem_filter.mpr ⟨List.mem_append_right _ (tm_2 (goodIn_r (big := (tables_1_2)) (u_ws RX3 TX3 7) [10, 12, 14, 16, 18, 20, 22] (by decide +kernel) (by decide +kernel) w h).1), List.all_eq_true.mp (show (u_ws RX3 TX3 7).all goodWord = true by decide +kernel) w h⟩
theorem fk_3 : fmCl 3 (RX3, TX3, 7) := ⟨rfl, fw_3, tyX3_ok, nmX3⟩
set_option maxRecDepth 20000 in
theorem fw_4 : ∀ w ∈ u_ws RX4 TX4 5, w ∈ fmWs := fun w h => List.mem_filter.mpr ⟨List.mem_append_right _ (tm_2 (goodIn_r (big := (tables_1_2)) (u_ws RX4 TX4 5) [87, 89, 91, 93, 95] (by decide +kernel) (by decide +kernel) w h).1), List.all_eq_true.mp (show (u_ws RX4 TX4 5).all goodWord = true by decide +kernel) w h⟩
theorem fk_4 : fmCl 4 (RX4, TX4, 5) := ⟨rfl, fw_4, tyX4_ok, nmX4⟩
set_option maxRecDepth 20000 in
theorem fw_5 : ∀ w ∈ u_ws RX5 TX5 3, w ∈ fmWs := fun w h => List.mem_filter.mpr ⟨List.mem_append_right _ (tm_2 (goodIn_r (big := (tables_1_2)) (u_ws RX5 TX5 3) [112, 114, 116] (by decide +kernel) (by decide +kernel) w h).1), List.all_eq_true.mp (show (u_ws RX5 TX5 3).all goodWord = true by decide +kernel) w h⟩
theorem fk_5 : fmCl 5 (RX5, TX5, 3) := ⟨rfl, fw_5, tyX5_ok, nmX5⟩
set_option maxRecDepth 20000 in
theorem fw_6 : ∀ w ∈ u_ws RX6 TX6 7, w ∈ fmWs := fun w h => List.mem_filter.mpr ⟨List.mem_append_right _ (tm_2 (goodIn_r (big := (tables_1_2)) (u_ws RX6 TX6 7) [65, 67, 69, 71, 73, 75, 77] (by decide +kernel) (by decide +kernel) w h).1), List.all_eq_true.mp (show (u_ws RX6 TX6 7).all goodWord = true by decide +kernel) w h⟩
theorem fk_6 : fmCl 6 (RX6, TX6, 7) := ⟨rfl, fw_6, tyX6_ok, nmX6⟩
set_option maxRecDepth 20000 in
theorem fw_7 : ∀ w ∈ u_ws RX7 TX7 6, w ∈ fmWs := fun w h => List.mem_filter.mpr ⟨List.mem_append_right _ (tm_1 (goodIn_r (big := (tables_1_1)) (u_ws RX7 TX7 6) [51, 53, 55, 57, 59, 61] (by decide +kernel) (by decide +kernel) w h).1), List.all_eq_true.mp (show (u_ws RX7 TX7 6).all goodWord = true by decide +kernel) w h⟩
theorem fk_7 : fmCl 7 (RX7, TX7, 6) := ⟨rfl, fw_7, tyX7_ok, nmX7⟩
set_option maxRecDepth 20000 in
theorem fw_8 : ∀ w ∈ u_ws RX8 TX8 15, w ∈ fmWs := fun w h => List.mem_filter.mpr ⟨List.mem_append_right _ (tm_1 (goodIn_r (big := (tables_1_1)) (u_ws RX8 TX8 15) [112, 114, 116, 118, 120, 122, 124, 126, 128, 130, 132, 134, 136, 138, 140] (by decide +kernel) (by decide +kernel) w h).1), List.all_eq_true.mp (show (u_ws RX8 TX8 15).all goodWord = true by decide +kernel) w h⟩
theorem fk_8 : fmCl 8 (RX8, TX8, 15) := ⟨rfl, fw_8, tyX8_ok, nmX8⟩
set_option maxRecDepth 20000 in
theorem fw_9 : ∀ w ∈ u_ws RX9 TX9 7, w ∈ fmWs := fun w h => List.mem_filter.mpr ⟨List.mem_append_right _ (tm_1 (goodIn_r (big := (tables_1_1)) (u_ws RX9 TX9 7) [203, 205, 207, 209, 211, 213, 215] (by decide +kernel) (by decide +kernel) w h).1), List.all_eq_true.mp (show (u_ws RX9 TX9 7).all goodWord = true by decide +kernel) w h⟩
theorem fk_9 : fmCl 9 (RX9, TX9, 7) := ⟨rfl, fw_9, tyX9_ok, nmX9⟩
set_option maxRecDepth 20000 in
theorem fw_10 : ∀ w ∈ u_ws RX10 TX10 17, w ∈ fmWs := fun w h => List.mem_filter.mpr ⟨List.mem_append_right _ (tm_2 (goodIn_r (big := (tables_1_2)) (u_ws RX10 TX10 17) [144, 146, 148, 150, 152, 154, 156, 158, 160, 162, 164, 166, 168, 170, 172, 174, 176] (by decide +kernel) (by decide +kernel) w h).1), List.all_eq_true.mp (show (u_ws RX10 TX10 17).all goodWord = true by decide +kernel) w h⟩
theorem fk_10 : fmCl 10 (RX10, TX10, 17) := ⟨rfl, fw_10, tyX10_ok, nmX10⟩
set_option maxRecDepth 20000 in
theorem fw_11 : ∀ w ∈ u_ws RX11 TX11 49, w ∈ fmWs := fun w h => List.mem_filter.mpr ⟨List.mem_append_right _ ((List.mem_append.mp (goodIn_r (big := (tables_1_6 ++ (tables_1_7))) (u_ws RX11 TX11 49) [157, 159, 161, 163, 165, 167, 169, 171, 173, 175, 177, 179, 181, 183, 185, 187, 189, 191, 193, 195, 197, 199, 201, 203, 205, 207, 209, 211, 213, 215, 217, 219, 221, 223, 225, 227, 229, 231, 233, 235, 237, 239, 241, 243, 245, 247, 249, 251, 253] (by decide +kernel) (by decide +kernel) w h).1).elim (fun h => tm_6 h) (fun h => tm_7 h)), List.all_eq_true.mp (show (u_ws RX11 TX11 49).all goodWord = true by decide +kernel) w h⟩
theorem fk_11 : fmCl 11 (RX11, TX11, 49) := ⟨rfl, fw_11, tyX11_ok, nmX11⟩
theorem fl_X10_12 : fmFl RX10 12 10 0 := ⟨_, fk_10, by decide, fm_c2 127 (by eq_refl) rfl⟩
theorem fl_X10_19 : fmFl RX10 19 10 1 := ⟨_, fk_10, by decide, fm_c2 128 (by eq_refl) rfl⟩
theorem fl_X10_23 : fmFl RX10 23 10 2 := ⟨_, fk_10, by decide, fm_c2 129 (by eq_refl) rfl⟩
theorem fl_X10_29 : fmFl RX10 29 10 3 := ⟨_, fk_10, by decide, fm_c2 130 (by eq_refl) rfl⟩
theorem fl_X10_36 : fmFl RX10 36 10 4 := ⟨_, fk_10, by decide, fm_c2 131 (by eq_refl) rfl⟩
theorem fl_X10_43 : fmFl RX10 43 10 5 := ⟨_, fk_10, by decide, fm_c2 132 (by eq_refl) rfl⟩
theorem fl_X10_52 : fmFl RX10 52 10 6 := ⟨_, fk_10, by decide, fm_c2 133 (by eq_refl) rfl⟩
theorem fl_X10_61 : fmFl RX10 61 10 7 := ⟨_, fk_10, by decide, fm_c2 134 (by eq_refl) rfl⟩
theorem fl_X10_68 : fmFl RX10 68 10 8 := ⟨_, fk_10, by decide, fm_c2 135 (by eq_refl) rfl⟩
theorem fl_X10_75 : fmFl RX10 75 10 9 := ⟨_, fk_10, by decide, fm_c2 136 (by eq_refl) rfl⟩
theorem fl_X10_79 : fmFl RX10 79 10 10 := ⟨_, fk_10, by decide, fm_c2 137 (by eq_refl) rfl⟩
theorem fl_X10_83 : fmFl RX10 83 10 11 := ⟨_, fk_10, by decide, fm_c2 138 (by eq_refl) rfl⟩
theorem fl_X10_87 : fmFl RX10 87 10 12 := ⟨_, fk_10, by decide, fm_c2 139 (by eq_refl) rfl⟩
theorem fl_X10_90 : fmFl RX10 90 5 0 := ⟨_, fk_5, by decide, fm_c2 108 (by eq_refl) rfl⟩
theorem fl_X10_100 : fmFl RX10 100 7 1 := ⟨_, fk_7, by decide, fm_c1 41 (by eq_refl) rfl⟩
theorem fl_X10_116 : fmFl RX10 116 7 4 := ⟨_, fk_7, by decide, fm_c1 48 (by eq_refl) rfl⟩
theorem fl_X10_126 : fmFl RX10 126 5 2 := ⟨_, fk_5, by decide, fm_c2 111 (by eq_refl) rfl⟩
theorem fl_X10_129 : fmFl RX10 129 10 13 := ⟨_, fk_10, by decide, fm_c2 140 (by eq_refl) rfl⟩
theorem fl_X10_132 : fmFl RX10 132 10 14 := ⟨_, fk_10, by decide, fm_c2 141 (by eq_refl) rfl⟩
theorem fl_X10_138 : fmFl RX10 138 8 9 := ⟨_, fk_8, by decide, fm_c1 98 (by eq_refl) rfl⟩
theorem fl_X10_148 : fmFl RX10 148 9 3 := ⟨_, fk_9, by decide, fm_c1 197 (by eq_refl) rfl⟩
theorem fl_X10_155 : fmFl RX10 155 9 6 := ⟨_, fk_9, by decide, fm_c1 202 (by eq_refl) rfl⟩
theorem fl_X10_158 : fmFl RX10 158 9 5 := ⟨_, fk_9, by decide, fm_c1 200 (by eq_refl) rfl⟩
theorem fl_X10_162 : fmFl RX10 162 2 0 := ⟨_, fk_2, by decide, fm_c1 177 (by eq_refl) rfl⟩
theorem fl_X10_163 : fmFl RX10 163 7 5 := ⟨_, fk_7, by decide, fm_c1 50 (by eq_refl) rfl⟩
theorem fl_X10_173 : fmFl RX10 173 6 2 := ⟨_, fk_6, by decide, fm_c2 47 (by eq_refl) rfl⟩
theorem fl_X10_176 : fmFl RX10 176 6 3 := ⟨_, fk_6, by decide, fm_c2 51 (by eq_refl) rfl⟩
theorem fl_X10_179 : fmFl RX10 179 6 1 := ⟨_, fk_6, by decide, fm_c2 43 (by eq_refl) rfl⟩
theorem fl_X10_191 : fmFl RX10 191 6 4 := ⟨_, fk_6, by decide, fm_c2 55 (by eq_refl) rfl⟩
theorem fl_X10_194 : fmFl RX10 194 6 5 := ⟨_, fk_6, by decide, fm_c2 59 (by eq_refl) rfl⟩
theorem fl_X10_204 : fmFl RX10 204 8 1 := ⟨_, fk_8, by decide, fm_c1 81 (by eq_refl) rfl⟩
theorem fl_X10_207 : fmFl RX10 207 8 2 := ⟨_, fk_8, by decide, fm_c1 84 (by eq_refl) rfl⟩
theorem fl_X10_210 : fmFl RX10 210 8 3 := ⟨_, fk_8, by decide, fm_c1 88 (by eq_refl) rfl⟩
theorem fl_X10_219 : fmFl RX10 219 6 0 := ⟨_, fk_6, by decide, fm_c2 41 (by eq_refl) rfl⟩
theorem fl_X10_222 : fmFl RX10 222 8 5 := ⟨_, fk_8, by decide, fm_c1 93 (by eq_refl) rfl⟩
theorem fl_X10_247 : fmFl RX10 247 6 6 := ⟨_, fk_6, by decide, fm_c2 64 (by eq_refl) rfl⟩
theorem fl_X10_346 : fmFl RX10 346 4 0 := ⟨_, fk_4, by decide, fm_c2 81 (by eq_refl) rfl⟩
theorem fl_X10_349 : fmFl RX10 349 4 1 := ⟨_, fk_4, by decide, fm_c2 83 (by eq_refl) rfl⟩
theorem fl_X10_363 : fmFl RX10 363 10 15 := ⟨_, fk_10, by decide, fm_c2 142 (by eq_refl) rfl⟩
theorem fl_X10_366 : fmFl RX10 366 10 16 := ⟨_, fk_10, by decide, fm_c2 143 (by eq_refl) rfl⟩
theorem fl_X0_9 : fmFl RX0 9 0 2 := ⟨_, fk_0, by decide, fm_c1 228 (by eq_refl) rfl⟩
theorem fl_X0_15 : fmFl RX0 15 0 0 := ⟨_, fk_0, by decide, fm_c1 224 (by eq_refl) rfl⟩
theorem fl_X0_19 : fmFl RX0 19 0 1 := ⟨_, fk_0, by decide, fm_c1 227 (by eq_refl) rfl⟩
theorem fl_X0_23 : fmFl RX0 23 8 0 := ⟨_, fk_8, by decide, fm_c1 76 (by eq_refl) rfl⟩
theorem fl_X0_29 : fmFl RX0 29 6 2 := ⟨_, fk_6, by decide, fm_c2 45 (by eq_refl) rfl⟩
theorem fl_X0_35 : fmFl RX0 35 8 5 := ⟨_, fk_8, by decide, fm_c1 92 (by eq_refl) rfl⟩
theorem fl_X0_50 : fmFl RX0 50 8 2 := ⟨_, fk_8, by decide, fm_c1 83 (by eq_refl) rfl⟩
theorem fl_X0_65 : fmFl RX0 65 8 12 := ⟨_, fk_8, by decide, fm_c1 108 (by eq_refl) rfl⟩
theorem fl_X0_68 : fmFl RX0 68 8 13 := ⟨_, fk_8, by decide, fm_c1 110 (by eq_refl) rfl⟩
theorem fl_X0_75 : fmFl RX0 75 8 9 := ⟨_, fk_8, by decide, fm_c1 100 (by eq_refl) rfl⟩
theorem fl_X0_78 : fmFl RX0 78 6 0 := ⟨_, fk_6, by decide, fm_c2 38 (by eq_refl) rfl⟩
theorem fl_X0_81 : fmFl RX0 81 8 1 := ⟨_, fk_8, by decide, fm_c1 79 (by eq_refl) rfl⟩
theorem fl_X0_88 : fmFl RX0 88 8 3 := ⟨_, fk_8, by decide, fm_c1 86 (by eq_refl) rfl⟩
theorem fl_X0_116 : fmFl RX0 116 6 3 := ⟨_, fk_6, by decide, fm_c2 52 (by eq_refl) rfl⟩
theorem fl_X0_118 : fmFl RX0 118 6 6 := ⟨_, fk_6, by decide, fm_c2 63 (by eq_refl) rfl⟩
theorem fl_X0_122 : fmFl RX0 122 6 4 := ⟨_, fk_6, by decide, fm_c2 56 (by eq_refl) rfl⟩
theorem fl_X0_128 : fmFl RX0 128 6 5 := ⟨_, fk_6, by decide, fm_c2 60 (by eq_refl) rfl⟩
theorem fl_X0_131 : fmFl RX0 131 6 1 := ⟨_, fk_6, by decide, fm_c2 44 (by eq_refl) rfl⟩
theorem fl_X0_134 : fmFl RX0 134 8 11 := ⟨_, fk_8, by decide, fm_c1 106 (by eq_refl) rfl⟩
theorem fl_X1_9 : fmFl RX1 9 1 0 := ⟨_, fk_1, by decide, fm_c1 154 (by eq_refl) rfl⟩
theorem fl_X1_15 : fmFl RX1 15 1 1 := ⟨_, fk_1, by decide, fm_c1 155 (by eq_refl) rfl⟩
theorem fl_X1_18 : fmFl RX1 18 1 2 := ⟨_, fk_1, by decide, fm_c1 156 (by eq_refl) rfl⟩
theorem fl_X1_24 : fmFl RX1 24 1 3 := ⟨_, fk_1, by decide, fm_c1 157 (by eq_refl) rfl⟩
theorem fl_X1_28 : fmFl RX1 28 1 4 := ⟨_, fk_1, by decide, fm_c1 158 (by eq_refl) rfl⟩
theorem fl_X1_41 : fmFl RX1 41 7 3 := ⟨_, fk_7, by decide, fm_c1 45 (by eq_refl) rfl⟩
theorem fl_X2_9 : fmFl RX2 9 2 0 := ⟨_, fk_2, by decide, fm_c1 176 (by eq_refl) rfl⟩
theorem fl_X2_15 : fmFl RX2 15 2 1 := ⟨_, fk_2, by decide, fm_c1 178 (by eq_refl) rfl⟩
theorem fl_X2_18 : fmFl RX2 18 2 2 := ⟨_, fk_2, by decide, fm_c1 179 (by eq_refl) rfl⟩
theorem fl_X3_11 : fmFl RX3 11 3 1 := ⟨_, fk_3, by decide, fm_c2 4 (by eq_refl) rfl⟩
theorem fl_X3_15 : fmFl RX3 15 3 2 := ⟨_, fk_3, by decide, fm_c2 5 (by eq_refl) rfl⟩
theorem fl_X3_18 : fmFl RX3 18 3 3 := ⟨_, fk_3, by decide, fm_c2 6 (by eq_refl) rfl⟩
theorem fl_X3_22 : fmFl RX3 22 3 4 := ⟨_, fk_3, by decide, fm_c2 7 (by eq_refl) rfl⟩
theorem fl_X3_25 : fmFl RX3 25 3 0 := ⟨_, fk_3, by decide, fm_c2 3 (by eq_refl) rfl⟩
theorem fl_X3_29 : fmFl RX3 29 3 5 := ⟨_, fk_3, by decide, fm_c2 8 (by eq_refl) rfl⟩
theorem fl_X3_33 : fmFl RX3 33 3 6 := ⟨_, fk_3, by decide, fm_c2 9 (by eq_refl) rfl⟩
theorem fl_X3_47 : fmFl RX3 47 6 3 := ⟨_, fk_6, by decide, fm_c2 50 (by eq_refl) rfl⟩
theorem fl_X3_52 : fmFl RX3 52 0 0 := ⟨_, fk_0, by decide, fm_c1 226 (by eq_refl) rfl⟩
theorem fl_X3_58 : fmFl RX3 58 8 11 := ⟨_, fk_8, by decide, fm_c1 105 (by eq_refl) rfl⟩
theorem fl_X3_72 : fmFl RX3 72 8 9 := ⟨_, fk_8, by decide, fm_c1 101 (by eq_refl) rfl⟩
theorem fl_X3_79 : fmFl RX3 79 8 1 := ⟨_, fk_8, by decide, fm_c1 80 (by eq_refl) rfl⟩
theorem fl_X3_94 : fmFl RX3 94 6 0 := ⟨_, fk_6, by decide, fm_c2 40 (by eq_refl) rfl⟩
theorem fl_X3_104 : fmFl RX3 104 8 3 := ⟨_, fk_8, by decide, fm_c1 87 (by eq_refl) rfl⟩
theorem fl_X4_12 : fmFl RX4 12 4 0 := ⟨_, fk_4, by decide, fm_c2 80 (by eq_refl) rfl⟩
theorem fl_X4_18 : fmFl RX4 18 4 3 := ⟨_, fk_4, by decide, fm_c2 85 (by eq_refl) rfl⟩
theorem fl_X4_22 : fmFl RX4 22 4 2 := ⟨_, fk_4, by decide, fm_c2 84 (by eq_refl) rfl⟩
theorem fl_X4_30 : fmFl RX4 30 6 4 := ⟨_, fk_6, by decide, fm_c2 53 (by eq_refl) rfl⟩
theorem fl_X4_34 : fmFl RX4 34 6 5 := ⟨_, fk_6, by decide, fm_c2 57 (by eq_refl) rfl⟩
theorem fl_X4_37 : fmFl RX4 37 6 6 := ⟨_, fk_6, by decide, fm_c2 61 (by eq_refl) rfl⟩
theorem fl_X4_41 : fmFl RX4 41 4 1 := ⟨_, fk_4, by decide, fm_c2 82 (by eq_refl) rfl⟩
theorem fl_X4_44 : fmFl RX4 44 4 4 := ⟨_, fk_4, by decide, fm_c2 86 (by eq_refl) rfl⟩
theorem fl_X4_60 : fmFl RX4 60 0 0 := ⟨_, fk_0, by decide, fm_c1 225 (by eq_refl) rfl⟩
theorem fl_X4_64 : fmFl RX4 64 8 9 := ⟨_, fk_8, by decide, fm_c1 99 (by eq_refl) rfl⟩
theorem fl_X4_77 : fmFl RX4 77 8 1 := ⟨_, fk_8, by decide, fm_c1 78 (by eq_refl) rfl⟩
theorem fl_X4_89 : fmFl RX4 89 6 3 := ⟨_, fk_6, by decide, fm_c2 49 (by eq_refl) rfl⟩
theorem fl_X5_12 : fmFl RX5 12 5 0 := ⟨_, fk_5, by decide, fm_c2 107 (by eq_refl) rfl⟩
theorem fl_X5_18 : fmFl RX5 18 5 1 := ⟨_, fk_5, by decide, fm_c2 109 (by eq_refl) rfl⟩
theorem fl_X5_22 : fmFl RX5 22 5 2 := ⟨_, fk_5, by decide, fm_c2 110 (by eq_refl) rfl⟩
theorem fl_X6_9 : fmFl RX6 9 6 0 := ⟨_, fk_6, by decide, fm_c2 37 (by eq_refl) rfl⟩
theorem fl_X6_15 : fmFl RX6 15 8 4 := ⟨_, fk_8, by decide, fm_c1 90 (by eq_refl) rfl⟩
theorem fl_X6_26 : fmFl RX6 26 6 1 := ⟨_, fk_6, by decide, fm_c2 42 (by eq_refl) rfl⟩
theorem fl_X6_30 : fmFl RX6 30 6 2 := ⟨_, fk_6, by decide, fm_c2 46 (by eq_refl) rfl⟩
theorem fl_X6_33 : fmFl RX6 33 8 11 := ⟨_, fk_8, by decide, fm_c1 104 (by eq_refl) rfl⟩
theorem fl_X6_36 : fmFl RX6 36 6 3 := ⟨_, fk_6, by decide, fm_c2 48 (by eq_refl) rfl⟩
theorem fl_X6_39 : fmFl RX6 39 6 4 := ⟨_, fk_6, by decide, fm_c2 54 (by eq_refl) rfl⟩
theorem fl_X6_42 : fmFl RX6 42 6 5 := ⟨_, fk_6, by decide, fm_c2 58 (by eq_refl) rfl⟩
theorem fl_X6_45 : fmFl RX6 45 6 6 := ⟨_, fk_6, by decide, fm_c2 62 (by eq_refl) rfl⟩
theorem fl_X7_9 : fmFl RX7 9 7 0 := ⟨_, fk_7, by decide, fm_c1 40 (by eq_refl) rfl⟩
theorem fl_X7_15 : fmFl RX7 15 7 5 := ⟨_, fk_7, by decide, fm_c1 49 (by eq_refl) rfl⟩
theorem fl_X7_19 : fmFl RX7 19 7 1 := ⟨_, fk_7, by decide, fm_c1 42 (by eq_refl) rfl⟩
theorem fl_X7_22 : fmFl RX7 22 7 2 := ⟨_, fk_7, by decide, fm_c1 43 (by eq_refl) rfl⟩
theorem fl_X7_25 : fmFl RX7 25 7 3 := ⟨_, fk_7, by decide, fm_c1 44 (by eq_refl) rfl⟩
theorem fl_X7_28 : fmFl RX7 28 7 4 := ⟨_, fk_7, by decide, fm_c1 47 (by eq_refl) rfl⟩
theorem fl_X8_9 : fmFl RX8 9 8 0 := ⟨_, fk_8, by decide, fm_c1 75 (by eq_refl) rfl⟩
theorem fl_X8_15 : fmFl RX8 15 8 1 := ⟨_, fk_8, by decide, fm_c1 77 (by eq_refl) rfl⟩
theorem fl_X8_18 : fmFl RX8 18 8 2 := ⟨_, fk_8, by decide, fm_c1 82 (by eq_refl) rfl⟩
theorem fl_X8_21 : fmFl RX8 21 8 3 := ⟨_, fk_8, by decide, fm_c1 85 (by eq_refl) rfl⟩
theorem fl_X8_24 : fmFl RX8 24 8 4 := ⟨_, fk_8, by decide, fm_c1 89 (by eq_refl) rfl⟩
theorem fl_X8_27 : fmFl RX8 27 8 5 := ⟨_, fk_8, by decide, fm_c1 91 (by eq_refl) rfl⟩
theorem fl_X8_30 : fmFl RX8 30 8 6 := ⟨_, fk_8, by decide, fm_c1 94 (by eq_refl) rfl⟩
theorem fl_X8_33 : fmFl RX8 33 8 7 := ⟨_, fk_8, by decide, fm_c1 95 (by eq_refl) rfl⟩
theorem fl_X8_36 : fmFl RX8 36 8 8 := ⟨_, fk_8, by decide, fm_c1 96 (by eq_refl) rfl⟩
theorem fl_X8_42 : fmFl RX8 42 8 9 := ⟨_, fk_8, by decide, fm_c1 97 (by eq_refl) rfl⟩
theorem fl_X8_46 : fmFl RX8 46 8 10 := ⟨_, fk_8, by decide, fm_c1 102 (by eq_refl) rfl⟩
theorem fl_X8_49 : fmFl RX8 49 8 11 := ⟨_, fk_8, by decide, fm_c1 103 (by eq_refl) rfl⟩
theorem fl_X8_52 : fmFl RX8 52 8 12 := ⟨_, fk_8, by decide, fm_c1 107 (by eq_refl) rfl⟩
theorem fl_X8_55 : fmFl RX8 55 8 13 := ⟨_, fk_8, by decide, fm_c1 109 (by eq_refl) rfl⟩
theorem fl_X8_58 : fmFl RX8 58 8 14 := ⟨_, fk_8, by decide, fm_c1 111 (by eq_refl) rfl⟩
theorem fl_X8_81 : fmFl RX8 81 7 3 := ⟨_, fk_7, by decide, fm_c1 46 (by eq_refl) rfl⟩
theorem fl_X9_9 : fmFl RX9 9 9 0 := ⟨_, fk_9, by decide, fm_c1 193 (by eq_refl) rfl⟩
theorem fl_X9_15 : fmFl RX9 15 9 1 := ⟨_, fk_9, by decide, fm_c1 194 (by eq_refl) rfl⟩
theorem fl_X9_18 : fmFl RX9 18 9 2 := ⟨_, fk_9, by decide, fm_c1 195 (by eq_refl) rfl⟩
theorem fl_X9_21 : fmFl RX9 21 9 3 := ⟨_, fk_9, by decide, fm_c1 196 (by eq_refl) rfl⟩
theorem fl_X9_25 : fmFl RX9 25 9 4 := ⟨_, fk_9, by decide, fm_c1 198 (by eq_refl) rfl⟩
theorem fl_X9_28 : fmFl RX9 28 9 5 := ⟨_, fk_9, by decide, fm_c1 199 (by eq_refl) rfl⟩
theorem fl_X9_31 : fmFl RX9 31 9 6 := ⟨_, fk_9, by decide, fm_c1 201 (by eq_refl) rfl⟩
theorem fl_X9_89 : fmFl RX9 89 6 0 := ⟨_, fk_6, by decide, fm_c2 39 (by eq_refl) rfl⟩
theorem fl_X11_9 : fmFl RX11 9 11 3 := ⟨_, fk_11, by decide, fm_c6 111 (by eq_refl) rfl⟩
theorem fl_X11_13 : fmFl RX11 13 11 9 := ⟨_, fk_11, by decide, fm_c6 117 (by eq_refl) rfl⟩
theorem fl_X11_17 : fmFl RX11 17 11 10 := ⟨_, fk_11, by decide, fm_c6 118 (by eq_refl) rfl⟩
theorem fl_X11_20 : fmFl RX11 20 11 11 := ⟨_, fk_11, by decide, fm_c6 119 (by eq_refl) rfl⟩
theorem fl_X11_23 : fmFl RX11 23 11 12 := ⟨_, fk_11, by decide, fm_c6 120 (by eq_refl) rfl⟩
theorem fl_X11_28 : fmFl RX11 28 11 13 := ⟨_, fk_11, by decide, fm_c6 121 (by eq_refl) rfl⟩
theorem fl_X11_31 : fmFl RX11 31 11 14 := ⟨_, fk_11, by decide, fm_c6 122 (by eq_refl) rfl⟩
theorem fl_X11_34 : fmFl RX11 34 11 15 := ⟨_, fk_11, by decide, fm_c6 123 (by eq_refl) rfl⟩
theorem fl_X11_37 : fmFl RX11 37 11 16 := ⟨_, fk_11, by decide, fm_c6 124 (by eq_refl) rfl⟩
theorem fl_X11_40 : fmFl RX11 40 11 19 := ⟨_, fk_11, by decide, fm_c6 127 (by eq_refl) rfl⟩
theorem fl_X11_43 : fmFl RX11 43 11 20 := ⟨_, fk_11, by decide, fm_c6 128 (by eq_refl) rfl⟩
theorem fl_X11_46 : fmFl RX11 46 11 21 := ⟨_, fk_11, by decide, fm_c6 129 (by eq_refl) rfl⟩
theorem fl_X11_49 : fmFl RX11 49 11 22 := ⟨_, fk_11, by decide, fm_c6 130 (by eq_refl) rfl⟩
theorem fl_X11_52 : fmFl RX11 52 11 23 := ⟨_, fk_11, by decide, fm_c6 131 (by eq_refl) rfl⟩
theorem fl_X11_55 : fmFl RX11 55 11 24 := ⟨_, fk_11, by decide, fm_c6 132 (by eq_refl) rfl⟩
theorem fl_X11_58 : fmFl RX11 58 11 25 := ⟨_, fk_11, by decide, fm_c6 133 (by eq_refl) rfl⟩
theorem fl_X11_61 : fmFl RX11 61 11 27 := ⟨_, fk_11, by decide, fm_c6 135 (by eq_refl) rfl⟩
theorem fl_X11_64 : fmFl RX11 64 11 28 := ⟨_, fk_11, by decide, fm_c6 136 (by eq_refl) rfl⟩
theorem fl_X11_67 : fmFl RX11 67 11 29 := ⟨_, fk_11, by decide, fm_c6 137 (by eq_refl) rfl⟩
theorem fl_X11_70 : fmFl RX11 70 11 30 := ⟨_, fk_11, by decide, fm_c6 138 (by eq_refl) rfl⟩
theorem fl_X11_73 : fmFl RX11 73 11 38 := ⟨_, fk_11, by decide, fm_c6 146 (by eq_refl) rfl⟩
theorem fl_X11_77 : fmFl RX11 77 11 39 := ⟨_, fk_11, by decide, fm_c6 147 (by eq_refl) rfl⟩
theorem fl_X11_80 : fmFl RX11 80 11 40 := ⟨_, fk_11, by decide, fm_c6 148 (by eq_refl) rfl⟩
theorem fl_X11_83 : fmFl RX11 83 11 41 := ⟨_, fk_11, by decide, fm_c6 149 (by eq_refl) rfl⟩
theorem fl_X11_86 : fmFl RX11 86 11 42 := ⟨_, fk_11, by decide, fm_c6 150 (by eq_refl) rfl⟩
theorem fl_X11_89 : fmFl RX11 89 11 44 := ⟨_, fk_11, by decide, fm_c6 152 (by eq_refl) rfl⟩
theorem fl_X11_92 : fmFl RX11 92 11 45 := ⟨_, fk_11, by decide, fm_c6 153 (by eq_refl) rfl⟩
theorem fl_X11_101 : fmFl RX11 101 11 0 := ⟨_, fk_11, by decide, fm_c6 108 (by eq_refl) rfl⟩
theorem fl_X11_104 : fmFl RX11 104 11 1 := ⟨_, fk_11, by decide, fm_c6 109 (by eq_refl) rfl⟩
theorem fl_X11_107 : fmFl RX11 107 11 2 := ⟨_, fk_11, by decide, fm_c6 110 (by eq_refl) rfl⟩
theorem fl_X11_110 : fmFl RX11 110 11 4 := ⟨_, fk_11, by decide, fm_c6 112 (by eq_refl) rfl⟩
theorem fl_X11_117 : fmFl RX11 117 11 5 := ⟨_, fk_11, by decide, fm_c6 113 (by eq_refl) rfl⟩
theorem fl_X11_120 : fmFl RX11 120 11 6 := ⟨_, fk_11, by decide, fm_c6 114 (by eq_refl) rfl⟩
theorem fl_X11_157 : fmFl RX11 157 11 7 := ⟨_, fk_11, by decide, fm_c6 115 (by eq_refl) rfl⟩
theorem fl_X11_160 : fmFl RX11 160 11 8 := ⟨_, fk_11, by decide, fm_c6 116 (by eq_refl) rfl⟩
theorem fl_X11_194 : fmFl RX11 194 11 17 := ⟨_, fk_11, by decide, fm_c6 125 (by eq_refl) rfl⟩
theorem fl_X11_197 : fmFl RX11 197 11 31 := ⟨_, fk_11, by decide, fm_c6 139 (by eq_refl) rfl⟩
theorem fl_X11_200 : fmFl RX11 200 11 32 := ⟨_, fk_11, by decide, fm_c6 140 (by eq_refl) rfl⟩
theorem fl_X11_203 : fmFl RX11 203 11 33 := ⟨_, fk_11, by decide, fm_c6 141 (by eq_refl) rfl⟩
theorem fl_X11_206 : fmFl RX11 206 11 34 := ⟨_, fk_11, by decide, fm_c6 142 (by eq_refl) rfl⟩
theorem fl_X11_209 : fmFl RX11 209 11 18 := ⟨_, fk_11, by decide, fm_c6 126 (by eq_refl) rfl⟩
theorem fl_X11_250 : fmFl RX11 250 11 26 := ⟨_, fk_11, by decide, fm_c6 134 (by eq_refl) rfl⟩
theorem fl_X11_310 : fmFl RX11 310 11 36 := ⟨_, fk_11, by decide, fm_c6 144 (by eq_refl) rfl⟩
theorem fl_X11_320 : fmFl RX11 320 11 37 := ⟨_, fk_11, by decide, fm_c6 145 (by eq_refl) rfl⟩
theorem fl_X11_361 : fmFl RX11 361 11 43 := ⟨_, fk_11, by decide, fm_c6 151 (by eq_refl) rfl⟩
theorem fl_X11_400 : fmFl RX11 400 11 46 := ⟨_, fk_11, by decide, fm_c6 154 (by eq_refl) rfl⟩
theorem fl_X11_426 : fmFl RX11 426 11 47 := ⟨_, fk_11, by decide, fm_c6 155 (by eq_refl) rfl⟩
theorem fl_X11_429 : fmFl RX11 429 11 48 := ⟨_, fk_11, by decide, fm_c6 156 (by eq_refl) rfl⟩
theorem fl_X11_436 : fmFl RX11 436 11 35 := ⟨_, fk_11, by decide, fm_c6 143 (by eq_refl) rfl⟩
theorem kc_X0_63 : Cond.constantLong RX0 63 (64) ∈ fmWs := fm_c3 8 (by eq_refl) rfl
theorem kc_X10_281 : Cond.constantLong RX10 281 (-1) ∈ fmWs := fm_c3 55 (by eq_refl) rfl
theorem kc_X7_42 : Cond.constant RX7 42 (1000000) ∈ fmWs := fm_c4 43 (by eq_refl) rfl
theorem kc_J6_265 : Cond.constant RJ6 265 (1431655765) ∈ fmWs := fm_c4 195 (by eq_refl) rfl
theorem kc_J6_266 : Cond.constant RJ6 266 (858993459) ∈ fmWs := fm_c4 196 (by eq_refl) rfl
theorem kc_J6_267 : Cond.constant RJ6 267 (252645135) ∈ fmWs := fm_c4 197 (by eq_refl) rfl
theorem kc_X10_251 : Cond.constantLong RX10 251 (64) ∈ fmWs := fm_c5 34 (by eq_refl) rfl
theorem kc_X10_265 : Cond.constantLong RX10 265 (4096) ∈ fmWs := fm_c5 53 (by eq_refl) rfl
theorem kc_X10_393 : Cond.constant RX10 393 (65535) ∈ fmWs := fm_c5 218 (by eq_refl) rfl
theorem kc_X4_59 : Cond.constant RX4 59 (1103515245) ∈ fmWs := fm_c6 72 (by eq_refl) rfl
theorem kc_X11_134 : Cond.constant RX11 134 (100000) ∈ fmWs := fm_c7 80 (by eq_refl) rfl
theorem kc_X11_343 : Cond.constantLong RX11 343 (64) ∈ fmWs := fm_c8 39 (by eq_refl) rfl
theorem kc_X11_353 : Cond.constantLong RX11 353 (4096) ∈ fmWs := fm_c8 55 (by eq_refl) rfl
theorem kc_X11_372 : Cond.constantLong RX11 372 (-1) ∈ fmWs := fm_c8 92 (by eq_refl) rfl
theorem kc_X11_383 : Cond.constantLong RX11 383 (255) ∈ fmWs := fm_c8 111 (by eq_refl) rfl
theorem kc_X11_432 : Cond.constant RX11 432 (1103515245) ∈ fmWs := fm_c8 236 (by eq_refl) rfl
end
