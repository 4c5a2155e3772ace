-- P 01
section
-- ===== PART A: goes FIRST, ahead of the names: the tables' words, and 'selects' of the private methods out of them =====
/-- a private method of a class that the tables say can be made, by its rows of tables_1 -/
def lw_okq (q : MethodName × Nat) : Prop := (q.1.cls ≠ "java/lang/invoke/MethodHandle" ∧ q.1.cls ≠ "java/lang/invoke/VarHandle") ∧ Cond.instantiable q.1.cls q.2 ∈ tables_1 ∧ Cond.privateMethod q.1 ∈ tables_1 ∧ Cond.instanceMethod q.1 ∈ tables_1
theorem tc_1 {w : Cond} (i : Nat) (h : tables_1_1[i]? = some w) : w ∈ tables_1 := List.mem_append_left _ (List.mem_of_getElem? h)
theorem tc_2 {w : Cond} (i : Nat) (h : tables_1_2[i]? = some w) : w ∈ tables_1 := List.mem_append_right _ (List.mem_append_left _ (List.mem_of_getElem? h))
theorem tc_3 {w : Cond} (i : Nat) (h : tables_1_3[i]? = some w) : w ∈ tables_1 := List.mem_append_right _ (List.mem_append_right _ (List.mem_append_left _ (List.mem_of_getElem? h)))
theorem tc_4 {w : Cond} (i : Nat) (h : tables_1_4[i]? = some w) : w ∈ tables_1 := List.mem_append_right _ (List.mem_append_right _ (List.mem_append_right _ (List.mem_append_left _ (List.mem_of_getElem? h))))
theorem tc_5 {w : Cond} (i : Nat) (h : tables_1_5[i]? = some w) : w ∈ tables_1 := List.mem_append_right _ (List.mem_append_right _ (List.mem_append_right _ (List.mem_append_right _ (List.mem_append_left _ (List.mem_of_getElem? h)))))
theorem tc_6 {w : Cond} (i : Nat) (h : tables_1_6[i]? = some w) : w ∈ tables_1 := List.mem_append_right _ (List.mem_append_right _ (List.mem_append_right _ (List.mem_append_right _ (List.mem_append_right _ (List.mem_append_left _ (List.mem_of_getElem? h))))))
theorem tc_7 {w : Cond} (i : Nat) (h : tables_1_7[i]? = some w) : w ∈ tables_1 := List.mem_append_right _ (List.mem_append_right _ (List.mem_append_right _ (List.mem_append_right _ (List.mem_append_right _ (List.mem_append_right _ (List.mem_append_left _ (List.mem_of_getElem? h)))))))
theorem tc_8 {w : Cond} (i : Nat) (h : tables_1_8[i]? = some w) : w ∈ tables_1 := List.mem_append_right _ (List.mem_append_right _ (List.mem_append_right _ (List.mem_append_right _ (List.mem_append_right _ (List.mem_append_right _ (List.mem_append_right _ (List.mem_append_left _ (List.mem_of_getElem? h))))))))
theorem tc_9 {w : Cond} (i : Nat) (h : tables_1_9[i]? = some w) : w ∈ tables_1 := List.mem_append_right _ (List.mem_append_right _ (List.mem_append_right _ (List.mem_append_right _ (List.mem_append_right _ (List.mem_append_right _ (List.mem_append_right _ (List.mem_append_right _ (List.mem_of_getElem? h))))))))
theorem tcC_0 : ("LifeDrawer" ≠ "java/lang/invoke/MethodHandle" ∧ "LifeDrawer" ≠ "java/lang/invoke/VarHandle") ∧ Cond.instantiable "LifeDrawer" 17 ∈ tables_1 := ⟨⟨by decide +kernel, by decide +kernel⟩, tc_1 27 (by eq_refl)⟩
theorem lw_p0 : lw_okq (⟨"LifeDrawer", "aheadMost", "()I"⟩, 17) := ⟨tcC_0.1, tcC_0.2, tc_3 57 (by eq_refl), tc_3 58 (by eq_refl)⟩
theorem lw_p1 : lw_okq (⟨"LifeDrawer", "look", "()V"⟩, 17) := ⟨tcC_0.1, tcC_0.2, tc_3 70 (by eq_refl), tc_3 71 (by eq_refl)⟩
theorem lw_p2 : lw_okq (⟨"LifeDrawer", "weeksAsPage", "(I)J"⟩, 17) := ⟨tcC_0.1, tcC_0.2, tc_3 82 (by eq_refl), tc_3 83 (by eq_refl)⟩
theorem lw_p3 : lw_okq (⟨"LifeDrawer", "openText", "(II)V"⟩, 17) := ⟨tcC_0.1, tcC_0.2, tc_3 118 (by eq_refl), tc_3 119 (by eq_refl)⟩
theorem lw_p4 : lw_okq (⟨"LifeDrawer", "needWithin", "(III)V"⟩, 17) := ⟨tcC_0.1, tcC_0.2, tc_3 122 (by eq_refl), tc_3 123 (by eq_refl)⟩
theorem tcC_1 : ("java/lang/Throwable" ≠ "java/lang/invoke/MethodHandle" ∧ "java/lang/Throwable" ≠ "java/lang/invoke/VarHandle") ∧ Cond.instantiable "java/lang/Throwable" 6 ∈ tables_1 := ⟨⟨by decide +kernel, by decide +kernel⟩, tc_3 163 (by eq_refl)⟩
theorem lw_p5 : lw_okq (⟨"java/lang/Throwable", "fillInStackTrace", "(I)Ljava/lang/Throwable;"⟩, 6) := ⟨tcC_1.1, tcC_1.2, tc_3 161 (by eq_refl), tc_3 162 (by eq_refl)⟩
theorem tcC_2 : ("LifeDrawer$Told" ≠ "java/lang/invoke/MethodHandle" ∧ "LifeDrawer$Told" ≠ "java/lang/invoke/VarHandle") ∧ Cond.instantiable "LifeDrawer$Told" 15 ∈ tables_1 := ⟨⟨by decide +kernel, by decide +kernel⟩, tc_1 66 (by eq_refl)⟩
theorem lw_p6 : lw_okq (⟨"LifeDrawer$Told", "readClause", "(LLifeDrawer$Tape;I)Z"⟩, 15) := ⟨tcC_2.1, tcC_2.2, tc_3 204 (by eq_refl), tc_3 205 (by eq_refl)⟩
theorem tcC_3 : ("LifeDrawer$Tape" ≠ "java/lang/invoke/MethodHandle" ∧ "LifeDrawer$Tape" ≠ "java/lang/invoke/VarHandle") ∧ Cond.instantiable "LifeDrawer$Tape" 6 ∈ tables_1 := ⟨⟨by decide +kernel, by decide +kernel⟩, tc_1 35 (by eq_refl)⟩
theorem lw_p7 : lw_okq (⟨"LifeDrawer$Tape", "find", "(Ljava/lang/String;II)I"⟩, 6) := ⟨tcC_3.1, tcC_3.2, tc_3 219 (by eq_refl), tc_3 220 (by eq_refl)⟩
theorem lw_p8 : lw_okq (⟨"LifeDrawer$Told", "readLife", "(LLifeDrawer$Tape;)Z"⟩, 15) := ⟨tcC_2.1, tcC_2.2, tc_4 36 (by eq_refl), tc_4 37 (by eq_refl)⟩
theorem lw_p9 : lw_okq (⟨"LifeDrawer$Told", "readHas", "(LLifeDrawer$Tape;)Z"⟩, 15) := ⟨tcC_2.1, tcC_2.2, tc_4 50 (by eq_refl), tc_4 51 (by eq_refl)⟩
theorem lw_p10 : lw_okq (⟨"LifeDrawer$Told", "readBy", "(LLifeDrawer$Tape;)Z"⟩, 15) := ⟨tcC_2.1, tcC_2.2, tc_4 54 (by eq_refl), tc_4 55 (by eq_refl)⟩
theorem lw_p11 : lw_okq (⟨"LifeDrawer$Told", "readFact", "(LLifeDrawer$Tape;)Z"⟩, 15) := ⟨tcC_2.1, tcC_2.2, tc_4 58 (by eq_refl), tc_4 59 (by eq_refl)⟩
theorem lw_p12 : lw_okq (⟨"LifeDrawer$Told", "readRule", "(LLifeDrawer$Tape;I)Z"⟩, 15) := ⟨tcC_2.1, tcC_2.2, tc_4 62 (by eq_refl), tc_4 63 (by eq_refl)⟩
theorem tcC_4 : ("LifeDrawer$Law" ≠ "java/lang/invoke/MethodHandle" ∧ "LifeDrawer$Law" ≠ "java/lang/invoke/VarHandle") ∧ Cond.instantiable "LifeDrawer$Law" 5 ∈ tables_1 := ⟨⟨by decide +kernel, by decide +kernel⟩, tc_1 145 (by eq_refl)⟩
theorem lw_p13 : lw_okq (⟨"LifeDrawer$Law", "readSum", "(LLifeDrawer$Tape;I)Z"⟩, 5) := ⟨tcC_4.1, tcC_4.2, tc_4 91 (by eq_refl), tc_4 92 (by eq_refl)⟩
theorem lw_p14 : lw_okq (⟨"LifeDrawer$Law", "readProduct", "(LLifeDrawer$Tape;I)Z"⟩, 5) := ⟨tcC_4.1, tcC_4.2, tc_4 95 (by eq_refl), tc_4 96 (by eq_refl)⟩
theorem lw_p15 : lw_okq (⟨"LifeDrawer$Law", "readUnit", "(LLifeDrawer$Tape;I)Z"⟩, 5) := ⟨tcC_4.1, tcC_4.2, tc_4 99 (by eq_refl), tc_4 100 (by eq_refl)⟩
def lw_privs_1 : List (MethodName × Nat) := [(⟨"LifeDrawer", "aheadMost", "()I"⟩, 17), (⟨"LifeDrawer", "look", "()V"⟩, 17), (⟨"LifeDrawer", "weeksAsPage", "(I)J"⟩, 17), (⟨"LifeDrawer", "openText", "(II)V"⟩, 17), (⟨"LifeDrawer", "needWithin", "(III)V"⟩, 17), (⟨"java/lang/Throwable", "fillInStackTrace", "(I)Ljava/lang/Throwable;"⟩, 6), (⟨"LifeDrawer$Told", "readClause", "(LLifeDrawer$Tape;I)Z"⟩, 15), (⟨"LifeDrawer$Tape", "find", "(Ljava/lang/String;II)I"⟩, 6), (⟨"LifeDrawer$Told", "readLife", "(LLifeDrawer$Tape;)Z"⟩, 15), (⟨"LifeDrawer$Told", "readHas", "(LLifeDrawer$Tape;)Z"⟩, 15), (⟨"LifeDrawer$Told", "readBy", "(LLifeDrawer$Tape;)Z"⟩, 15), (⟨"LifeDrawer$Told", "readFact", "(LLifeDrawer$Tape;)Z"⟩, 15), (⟨"LifeDrawer$Told", "readRule", "(LLifeDrawer$Tape;I)Z"⟩, 15), (⟨"LifeDrawer$Law", "readSum", "(LLifeDrawer$Tape;I)Z"⟩, 5), (⟨"LifeDrawer$Law", "readProduct", "(LLifeDrawer$Tape;I)Z"⟩, 5), (⟨"LifeDrawer$Law", "readUnit", "(LLifeDrawer$Tape;I)Z"⟩, 5)]
theorem lw_r1 : ∀ q ∈ lw_privs_1, lw_okq q := List.forall_mem_cons.mpr ⟨lw_p0, List.forall_mem_cons.mpr ⟨lw_p1, List.forall_mem_cons.mpr ⟨lw_p2, List.forall_mem_cons.mpr ⟨lw_p3, List.forall_mem_cons.mpr ⟨lw_p4, List.forall_mem_cons.mpr ⟨lw_p5, List.forall_mem_cons.mpr ⟨lw_p6, List.forall_mem_cons.mpr ⟨lw_p7, List.forall_mem_cons.mpr ⟨lw_p8, List.forall_mem_cons.mpr ⟨lw_p9, List.forall_mem_cons.mpr ⟨lw_p10, List.forall_mem_cons.mpr ⟨lw_p11, List.forall_mem_cons.mpr ⟨lw_p12, List.forall_mem_cons.mpr ⟨lw_p13, List.forall_mem_cons.mpr ⟨lw_p14, List.forall_mem_cons.mpr ⟨lw_p15, fun _ h => absurd h List.not_mem_nil⟩⟩⟩⟩⟩⟩⟩⟩⟩⟩⟩⟩⟩⟩⟩⟩
theorem lw_p16 : lw_okq (⟨"LifeDrawer$Law", "emit", "(I)V"⟩, 5) := ⟨tcC_4.1, tcC_4.2, tc_4 107 (by eq_refl), tc_4 108 (by eq_refl)⟩
theorem lw_p17 : lw_okq (⟨"LifeDrawer$Law", "readTwo", "(LLifeDrawer$Tape;I)Z"⟩, 5) := ⟨tcC_4.1, tcC_4.2, tc_4 114 (by eq_refl), tc_4 115 (by eq_refl)⟩
theorem tcC_5 : ("LifeDrawer$Work" ≠ "java/lang/invoke/MethodHandle" ∧ "LifeDrawer$Work" ≠ "java/lang/invoke/VarHandle") ∧ Cond.instantiable "LifeDrawer$Work" 7 ∈ tables_1 := ⟨⟨by decide +kernel, by decide +kernel⟩, tc_1 188 (by eq_refl)⟩
theorem lw_p18 : lw_okq (⟨"LifeDrawer$Work", "readSteps", "(LLifeDrawer$Tape;II)Z"⟩, 7) := ⟨tcC_5.1, tcC_5.2, tc_4 130 (by eq_refl), tc_4 131 (by eq_refl)⟩
theorem lw_p19 : lw_okq (⟨"LifeDrawer$Work", "readStep", "(LLifeDrawer$Tape;II)Z"⟩, 7) := ⟨tcC_5.1, tcC_5.2, tc_4 135 (by eq_refl), tc_4 136 (by eq_refl)⟩
theorem lw_p20 : lw_okq (⟨"LifeDrawer$Work", "readAgain", "(LLifeDrawer$Tape;III)Z"⟩, 7) := ⟨tcC_5.1, tcC_5.2, tc_4 143 (by eq_refl), tc_4 144 (by eq_refl)⟩
theorem lw_p21 : lw_okq (⟨"LifeDrawer", "needLife", "(I)V"⟩, 17) := ⟨tcC_0.1, tcC_0.2, tc_4 219 (by eq_refl), tc_4 220 (by eq_refl)⟩
theorem lw_p22 : lw_okq (⟨"LifeDrawer", "needPart", "(I)V"⟩, 17) := ⟨tcC_0.1, tcC_0.2, tc_5 31 (by eq_refl), tc_5 32 (by eq_refl)⟩
theorem lw_p23 : lw_okq (⟨"LifeDrawer", "piecesWrongBy", "(I)I"⟩, 17) := ⟨tcC_0.1, tcC_0.2, tc_5 71 (by eq_refl), tc_5 72 (by eq_refl)⟩
theorem tcC_6 : ("LifeDrawer$Plan" ≠ "java/lang/invoke/MethodHandle" ∧ "LifeDrawer$Plan" ≠ "java/lang/invoke/VarHandle") ∧ Cond.instantiable "LifeDrawer$Plan" 7 ∈ tables_1 := ⟨⟨by decide +kernel, by decide +kernel⟩, tc_1 238 (by eq_refl)⟩
theorem lw_p24 : lw_okq (⟨"LifeDrawer$Plan", "weighWays", "(LLifeDrawer$State;II)V"⟩, 7) := ⟨tcC_6.1, tcC_6.2, tc_5 92 (by eq_refl), tc_5 93 (by eq_refl)⟩
theorem lw_p25 : lw_okq (⟨"LifeDrawer$Plan", "hoursAtAge", "(II)I"⟩, 7) := ⟨tcC_6.1, tcC_6.2, tc_5 96 (by eq_refl), tc_5 97 (by eq_refl)⟩
theorem lw_p26 : lw_okq (⟨"LifeDrawer$Plan", "addLife", "(I)V"⟩, 7) := ⟨tcC_6.1, tcC_6.2, tc_5 108 (by eq_refl), tc_5 109 (by eq_refl)⟩
theorem lw_p27 : lw_okq (⟨"LifeDrawer$Plan", "leastOf", "(IIII)J"⟩, 7) := ⟨tcC_6.1, tcC_6.2, tc_5 115 (by eq_refl), tc_5 116 (by eq_refl)⟩
theorem lw_p28 : lw_okq (⟨"LifeDrawer", "renewalPrice", "(II)J"⟩, 17) := ⟨tcC_0.1, tcC_0.2, tc_5 148 (by eq_refl), tc_5 149 (by eq_refl)⟩
theorem lw_p29 : lw_okq (⟨"LifeDrawer", "needRumour", "(IIII)V"⟩, 17) := ⟨tcC_0.1, tcC_0.2, tc_5 166 (by eq_refl), tc_5 167 (by eq_refl)⟩
theorem lw_p30 : lw_okq (⟨"LifeDrawer", "needBits", "(I)V"⟩, 17) := ⟨tcC_0.1, tcC_0.2, tc_5 197 (by eq_refl), tc_5 198 (by eq_refl)⟩
theorem lw_p31 : lw_okq (⟨"LifeDrawer", "fillRoom", "(II)I"⟩, 17) := ⟨tcC_0.1, tcC_0.2, tc_5 201 (by eq_refl), tc_5 202 (by eq_refl)⟩
def lw_privs_2 : List (MethodName × Nat) := [(⟨"LifeDrawer$Law", "emit", "(I)V"⟩, 5), (⟨"LifeDrawer$Law", "readTwo", "(LLifeDrawer$Tape;I)Z"⟩, 5), (⟨"LifeDrawer$Work", "readSteps", "(LLifeDrawer$Tape;II)Z"⟩, 7), (⟨"LifeDrawer$Work", "readStep", "(LLifeDrawer$Tape;II)Z"⟩, 7), (⟨"LifeDrawer$Work", "readAgain", "(LLifeDrawer$Tape;III)Z"⟩, 7), (⟨"LifeDrawer", "needLife", "(I)V"⟩, 17), (⟨"LifeDrawer", "needPart", "(I)V"⟩, 17), (⟨"LifeDrawer", "piecesWrongBy", "(I)I"⟩, 17), (⟨"LifeDrawer$Plan", "weighWays", "(LLifeDrawer$State;II)V"⟩, 7), (⟨"LifeDrawer$Plan", "hoursAtAge", "(II)I"⟩, 7), (⟨"LifeDrawer$Plan", "addLife", "(I)V"⟩, 7), (⟨"LifeDrawer$Plan", "leastOf", "(IIII)J"⟩, 7), (⟨"LifeDrawer", "renewalPrice", "(II)J"⟩, 17), (⟨"LifeDrawer", "needRumour", "(IIII)V"⟩, 17), (⟨"LifeDrawer", "needBits", "(I)V"⟩, 17), (⟨"LifeDrawer", "fillRoom", "(II)I"⟩, 17)]
theorem lw_r2 : ∀ q ∈ lw_privs_2, lw_okq q := List.forall_mem_cons.mpr ⟨lw_p16, List.forall_mem_cons.mpr ⟨lw_p17, List.forall_mem_cons.mpr ⟨lw_p18, List.forall_mem_cons.mpr ⟨lw_p19, List.forall_mem_cons.mpr ⟨lw_p20, List.forall_mem_cons.mpr ⟨lw_p21, List.forall_mem_cons.mpr ⟨lw_p22, List.forall_mem_cons.mpr ⟨lw_p23, List.forall_mem_cons.mpr ⟨lw_p24, List.forall_mem_cons.mpr ⟨lw_p25, List.forall_mem_cons.mpr ⟨lw_p26, List.forall_mem_cons.mpr ⟨lw_p27, List.forall_mem_cons.mpr ⟨lw_p28, List.forall_mem_cons.mpr ⟨lw_p29, List.forall_mem_cons.mpr ⟨lw_p30, List.forall_mem_cons.mpr ⟨lw_p31, fun _ h => absurd h List.not_mem_nil⟩⟩⟩⟩⟩⟩⟩⟩⟩⟩⟩⟩⟩⟩⟩⟩
theorem lw_p32 : lw_okq (⟨"LifeDrawer", "addToRoom", "(II)V"⟩, 17) := ⟨tcC_0.1, tcC_0.2, tc_5 208 (by eq_refl), tc_5 209 (by eq_refl)⟩
theorem lw_p33 : lw_okq (⟨"LifeDrawer", "tellsApart", "(II)Z"⟩, 17) := ⟨tcC_0.1, tcC_0.2, tc_5 234 (by eq_refl), tc_5 235 (by eq_refl)⟩
theorem tcC_7 : ("LifeDrawer$Seeds" ≠ "java/lang/invoke/MethodHandle" ∧ "LifeDrawer$Seeds" ≠ "java/lang/invoke/VarHandle") ∧ Cond.instantiable "LifeDrawer$Seeds" 5 ∈ tables_1 := ⟨⟨by decide +kernel, by decide +kernel⟩, tc_2 26 (by eq_refl)⟩
theorem lw_p34 : lw_okq (⟨"LifeDrawer$Seeds", "drawDeaths", "()V"⟩, 5) := ⟨tcC_7.1, tcC_7.2, tc_6 64 (by eq_refl), tc_6 65 (by eq_refl)⟩
theorem lw_p35 : lw_okq (⟨"LifeDrawer$Seeds", "drawOf64", "()I"⟩, 5) := ⟨tcC_7.1, tcC_7.2, tc_6 69 (by eq_refl), tc_6 70 (by eq_refl)⟩
theorem lw_p36 : lw_okq (⟨"LifeDrawer$Seeds", "putFirsts", "()V"⟩, 5) := ⟨tcC_7.1, tcC_7.2, tc_6 75 (by eq_refl), tc_6 76 (by eq_refl)⟩
theorem tcC_8 : ("LifeDrawerModel" ≠ "java/lang/invoke/MethodHandle" ∧ "LifeDrawerModel" ≠ "java/lang/invoke/VarHandle") ∧ Cond.instantiable "LifeDrawerModel" 49 ∈ tables_1 := ⟨⟨by decide +kernel, by decide +kernel⟩, tc_6 90 (by eq_refl)⟩
theorem lw_p37 : lw_okq (⟨"LifeDrawerModel", "tellsNothing", "()V"⟩, 49) := ⟨tcC_8.1, tcC_8.2, tc_6 98 (by eq_refl), tc_6 99 (by eq_refl)⟩
theorem lw_p38 : lw_okq (⟨"LifeDrawerModel", "stands", "()V"⟩, 49) := ⟨tcC_8.1, tcC_8.2, tc_6 102 (by eq_refl), tc_6 103 (by eq_refl)⟩
theorem lw_p39 : lw_okq (⟨"LifeDrawerModel", "bad", "(ZII)Z"⟩, 49) := ⟨tcC_8.1, tcC_8.2, tc_7 28 (by eq_refl), tc_7 29 (by eq_refl)⟩
theorem lw_p40 : lw_okq (⟨"LifeDrawerModel", "starts", "(I)V"⟩, 49) := ⟨tcC_8.1, tcC_8.2, tc_7 32 (by eq_refl), tc_7 33 (by eq_refl)⟩
theorem lw_p41 : lw_okq (⟨"LifeDrawerModel", "blanks", "()V"⟩, 49) := ⟨tcC_8.1, tcC_8.2, tc_7 36 (by eq_refl), tc_7 37 (by eq_refl)⟩
theorem lw_p42 : lw_okq (⟨"LifeDrawerModel", "byteAt", "(I)I"⟩, 49) := ⟨tcC_8.1, tcC_8.2, tc_7 40 (by eq_refl), tc_7 41 (by eq_refl)⟩
theorem lw_p43 : lw_okq (⟨"LifeDrawerModel", "clause", "()V"⟩, 49) := ⟨tcC_8.1, tcC_8.2, tc_7 44 (by eq_refl), tc_7 45 (by eq_refl)⟩
theorem lw_p44 : lw_okq (⟨"LifeDrawerModel", "kindHere", "()I"⟩, 49) := ⟨tcC_8.1, tcC_8.2, tc_7 48 (by eq_refl), tc_7 49 (by eq_refl)⟩
theorem lw_p45 : lw_okq (⟨"LifeDrawerModel", "isWord", "(IIIII)Z"⟩, 49) := ⟨tcC_8.1, tcC_8.2, tc_7 52 (by eq_refl), tc_7 53 (by eq_refl)⟩
theorem lw_p46 : lw_okq (⟨"LifeDrawerModel", "wordHere", "()I"⟩, 49) := ⟨tcC_8.1, tcC_8.2, tc_7 56 (by eq_refl), tc_7 57 (by eq_refl)⟩
theorem lw_p47 : lw_okq (⟨"LifeDrawerModel", "wrongAt", "(II)V"⟩, 49) := ⟨tcC_8.1, tcC_8.2, tc_7 66 (by eq_refl), tc_7 67 (by eq_refl)⟩
def lw_privs_3 : List (MethodName × Nat) := [(⟨"LifeDrawer", "addToRoom", "(II)V"⟩, 17), (⟨"LifeDrawer", "tellsApart", "(II)Z"⟩, 17), (⟨"LifeDrawer$Seeds", "drawDeaths", "()V"⟩, 5), (⟨"LifeDrawer$Seeds", "drawOf64", "()I"⟩, 5), (⟨"LifeDrawer$Seeds", "putFirsts", "()V"⟩, 5), (⟨"LifeDrawerModel", "tellsNothing", "()V"⟩, 49), (⟨"LifeDrawerModel", "stands", "()V"⟩, 49), (⟨"LifeDrawerModel", "bad", "(ZII)Z"⟩, 49), (⟨"LifeDrawerModel", "starts", "(I)V"⟩, 49), (⟨"LifeDrawerModel", "blanks", "()V"⟩, 49), (⟨"LifeDrawerModel", "byteAt", "(I)I"⟩, 49), (⟨"LifeDrawerModel", "clause", "()V"⟩, 49), (⟨"LifeDrawerModel", "kindHere", "()I"⟩, 49), (⟨"LifeDrawerModel", "isWord", "(IIIII)Z"⟩, 49), (⟨"LifeDrawerModel", "wordHere", "()I"⟩, 49), (⟨"LifeDrawerModel", "wrongAt", "(II)V"⟩, 49)]
theorem lw_r3 : ∀ q ∈ lw_privs_3, lw_okq q := List.forall_mem_cons.mpr ⟨lw_p32, List.forall_mem_cons.mpr ⟨lw_p33, List.forall_mem_cons.mpr ⟨lw_p34, List.forall_mem_cons.mpr ⟨lw_p35, List.forall_mem_cons.mpr ⟨lw_p36, List.forall_mem_cons.mpr ⟨lw_p37, List.forall_mem_cons.mpr ⟨lw_p38, List.forall_mem_cons.mpr ⟨lw_p39, List.forall_mem_cons.mpr ⟨lw_p40, List.forall_mem_cons.mpr ⟨lw_p41, List.forall_mem_cons.mpr ⟨lw_p42, List.forall_mem_cons.mpr ⟨lw_p43, List.forall_mem_cons.mpr ⟨lw_p44, List.forall_mem_cons.mpr ⟨lw_p45, List.forall_mem_cons.mpr ⟨lw_p46, List.forall_mem_cons.mpr ⟨lw_p47, fun _ h => absurd h List.not_mem_nil⟩⟩⟩⟩⟩⟩⟩⟩⟩⟩⟩⟩⟩⟩⟩⟩
theorem lw_p48 : lw_okq (⟨"LifeDrawerModel", "skipWord", "()V"⟩, 49) := ⟨tcC_8.1, tcC_8.2, tc_7 70 (by eq_refl), tc_7 71 (by eq_refl)⟩
theorem lw_p49 : lw_okq (⟨"LifeDrawerModel", "number", "(II)I"⟩, 49) := ⟨tcC_8.1, tcC_8.2, tc_7 74 (by eq_refl), tc_7 75 (by eq_refl)⟩
theorem lw_p50 : lw_okq (⟨"LifeDrawerModel", "lifeHere", "()I"⟩, 49) := ⟨tcC_8.1, tcC_8.2, tc_7 82 (by eq_refl), tc_7 83 (by eq_refl)⟩
theorem lw_p51 : lw_okq (⟨"LifeDrawerModel", "sign", "(I)V"⟩, 49) := ⟨tcC_8.1, tcC_8.2, tc_7 86 (by eq_refl), tc_7 87 (by eq_refl)⟩
theorem lw_p52 : lw_okq (⟨"LifeDrawerModel", "ends", "()I"⟩, 49) := ⟨tcC_8.1, tcC_8.2, tc_7 90 (by eq_refl), tc_7 91 (by eq_refl)⟩
theorem lw_p53 : lw_okq (⟨"LifeDrawerModel", "sum", "()V"⟩, 49) := ⟨tcC_8.1, tcC_8.2, tc_7 98 (by eq_refl), tc_7 99 (by eq_refl)⟩
theorem lw_p54 : lw_okq (⟨"LifeDrawerModel", "product", "()V"⟩, 49) := ⟨tcC_8.1, tcC_8.2, tc_7 102 (by eq_refl), tc_7 103 (by eq_refl)⟩
theorem lw_p55 : lw_okq (⟨"LifeDrawerModel", "one", "()V"⟩, 49) := ⟨tcC_8.1, tcC_8.2, tc_7 106 (by eq_refl), tc_7 107 (by eq_refl)⟩
theorem lw_p56 : lw_okq (⟨"LifeDrawerModel", "opens", "()Z"⟩, 49) := ⟨tcC_8.1, tcC_8.2, tc_7 110 (by eq_refl), tc_7 111 (by eq_refl)⟩
theorem lw_p57 : lw_okq (⟨"LifeDrawerModel", "notes", "(II)V"⟩, 49) := ⟨tcC_8.1, tcC_8.2, tc_7 114 (by eq_refl), tc_7 115 (by eq_refl)⟩
theorem lw_p58 : lw_okq (⟨"LifeDrawerModel", "knownHere", "()I"⟩, 49) := ⟨tcC_8.1, tcC_8.2, tc_7 118 (by eq_refl), tc_7 119 (by eq_refl)⟩
theorem lw_p59 : lw_okq (⟨"LifeDrawerModel", "takes", "(IIIII)Z"⟩, 49) := ⟨tcC_8.1, tcC_8.2, tc_7 122 (by eq_refl), tc_7 123 (by eq_refl)⟩
theorem lw_p60 : lw_okq (⟨"LifeDrawerModel", "takesSign", "(I)Z"⟩, 49) := ⟨tcC_8.1, tcC_8.2, tc_7 126 (by eq_refl), tc_7 127 (by eq_refl)⟩
theorem lw_p61 : lw_okq (⟨"LifeDrawerModel", "readsStep", "()V"⟩, 49) := ⟨tcC_8.1, tcC_8.2, tc_7 145 (by eq_refl), tc_7 146 (by eq_refl)⟩
theorem lw_p62 : lw_okq (⟨"LifeDrawerModel", "stepHere", "()I"⟩, 49) := ⟨tcC_8.1, tcC_8.2, tc_7 149 (by eq_refl), tc_7 150 (by eq_refl)⟩
theorem lw_p63 : lw_okq (⟨"LifeDrawerModel", "goes", "(II)V"⟩, 49) := ⟨tcC_8.1, tcC_8.2, tc_7 156 (by eq_refl), tc_7 157 (by eq_refl)⟩
def lw_privs_4 : List (MethodName × Nat) := [(⟨"LifeDrawerModel", "skipWord", "()V"⟩, 49), (⟨"LifeDrawerModel", "number", "(II)I"⟩, 49), (⟨"LifeDrawerModel", "lifeHere", "()I"⟩, 49), (⟨"LifeDrawerModel", "sign", "(I)V"⟩, 49), (⟨"LifeDrawerModel", "ends", "()I"⟩, 49), (⟨"LifeDrawerModel", "sum", "()V"⟩, 49), (⟨"LifeDrawerModel", "product", "()V"⟩, 49), (⟨"LifeDrawerModel", "one", "()V"⟩, 49), (⟨"LifeDrawerModel", "opens", "()Z"⟩, 49), (⟨"LifeDrawerModel", "notes", "(II)V"⟩, 49), (⟨"LifeDrawerModel", "knownHere", "()I"⟩, 49), (⟨"LifeDrawerModel", "takes", "(IIIII)Z"⟩, 49), (⟨"LifeDrawerModel", "takesSign", "(I)Z"⟩, 49), (⟨"LifeDrawerModel", "readsStep", "()V"⟩, 49), (⟨"LifeDrawerModel", "stepHere", "()I"⟩, 49), (⟨"LifeDrawerModel", "goes", "(II)V"⟩, 49)]
theorem lw_r4 : ∀ q ∈ lw_privs_4, lw_okq q := List.forall_mem_cons.mpr ⟨lw_p48, List.forall_mem_cons.mpr ⟨lw_p49, List.forall_mem_cons.mpr ⟨lw_p50, List.forall_mem_cons.mpr ⟨lw_p51, List.forall_mem_cons.mpr ⟨lw_p52, List.forall_mem_cons.mpr ⟨lw_p53, List.forall_mem_cons.mpr ⟨lw_p54, List.forall_mem_cons.mpr ⟨lw_p55, List.forall_mem_cons.mpr ⟨lw_p56, List.forall_mem_cons.mpr ⟨lw_p57, List.forall_mem_cons.mpr ⟨lw_p58, List.forall_mem_cons.mpr ⟨lw_p59, List.forall_mem_cons.mpr ⟨lw_p60, List.forall_mem_cons.mpr ⟨lw_p61, List.forall_mem_cons.mpr ⟨lw_p62, List.forall_mem_cons.mpr ⟨lw_p63, fun _ h => absurd h List.not_mem_nil⟩⟩⟩⟩⟩⟩⟩⟩⟩⟩⟩⟩⟩⟩⟩⟩
theorem lw_p64 : lw_okq (⟨"LifeDrawerModel", "does", "([I[I)Z"⟩, 49) := ⟨tcC_8.1, tcC_8.2, tc_7 160 (by eq_refl), tc_7 161 (by eq_refl)⟩
theorem lw_p65 : lw_okq (⟨"LifeDrawerModel", "mayWrite", "([II)Z"⟩, 49) := ⟨tcC_8.1, tcC_8.2, tc_7 164 (by eq_refl), tc_7 165 (by eq_refl)⟩
theorem lw_p66 : lw_okq (⟨"LifeDrawerModel", "hoursFor", "([II)I"⟩, 49) := ⟨tcC_8.1, tcC_8.2, tc_7 171 (by eq_refl), tc_7 172 (by eq_refl)⟩
theorem lw_p67 : lw_okq (⟨"LifeDrawerModel", "renewHours", "(I)I"⟩, 49) := ⟨tcC_8.1, tcC_8.2, tc_7 175 (by eq_refl), tc_7 176 (by eq_refl)⟩
theorem lw_p68 : lw_okq (⟨"LifeDrawerModel", "writes", "([II)V"⟩, 49) := ⟨tcC_8.1, tcC_8.2, tc_7 182 (by eq_refl), tc_7 183 (by eq_refl)⟩
theorem lw_p69 : lw_okq (⟨"LifeDrawerModel", "dies", "([II)V"⟩, 49) := ⟨tcC_8.1, tcC_8.2, tc_7 186 (by eq_refl), tc_7 187 (by eq_refl)⟩
theorem lw_p70 : lw_okq (⟨"LifeDrawerModel", "costOf", "([II)I"⟩, 49) := ⟨tcC_8.1, tcC_8.2, tc_7 190 (by eq_refl), tc_7 191 (by eq_refl)⟩
theorem lw_p71 : lw_okq (⟨"LifeDrawerModel", "costIn", "([IIII)I"⟩, 49) := ⟨tcC_8.1, tcC_8.2, tc_7 194 (by eq_refl), tc_7 195 (by eq_refl)⟩
theorem lw_p72 : lw_okq (⟨"LifeDrawerModel", "wrongIn", "([IIII)I"⟩, 49) := ⟨tcC_8.1, tcC_8.2, tc_7 198 (by eq_refl), tc_7 199 (by eq_refl)⟩
theorem lw_p73 : lw_okq (⟨"LifeDrawerModel", "yearsOf", "(II)I"⟩, 49) := ⟨tcC_8.1, tcC_8.2, tc_7 202 (by eq_refl), tc_7 203 (by eq_refl)⟩
theorem lw_p74 : lw_okq (⟨"LifeDrawerModel", "isByDead", "([II)I"⟩, 49) := ⟨tcC_8.1, tcC_8.2, tc_7 206 (by eq_refl), tc_7 207 (by eq_refl)⟩
theorem lw_p75 : lw_okq (⟨"LifeDrawerModel", "changesOf", "(III)I"⟩, 49) := ⟨tcC_8.1, tcC_8.2, tc_7 210 (by eq_refl), tc_7 211 (by eq_refl)⟩
theorem lw_p76 : lw_okq (⟨"LifeDrawerModel", "wrongBy", "(IIIII)I"⟩, 49) := ⟨tcC_8.1, tcC_8.2, tc_7 214 (by eq_refl), tc_7 215 (by eq_refl)⟩
theorem lw_p77 : lw_okq (⟨"LifeDrawerModel", "byLaw", "()I"⟩, 49) := ⟨tcC_8.1, tcC_8.2, tc_7 218 (by eq_refl), tc_7 219 (by eq_refl)⟩
theorem lw_p78 : lw_okq (⟨"LifeDrawerModel", "weekEnds", "([I)Z"⟩, 49) := ⟨tcC_8.1, tcC_8.2, tc_7 228 (by eq_refl), tc_7 229 (by eq_refl)⟩
theorem lw_p79 : lw_okq (⟨"LifeDrawerModel", "aliveIn", "([I)I"⟩, 49) := ⟨tcC_8.1, tcC_8.2, tc_8 0 (by eq_refl), tc_8 1 (by eq_refl)⟩
def lw_privs_5 : List (MethodName × Nat) := [(⟨"LifeDrawerModel", "does", "([I[I)Z"⟩, 49), (⟨"LifeDrawerModel", "mayWrite", "([II)Z"⟩, 49), (⟨"LifeDrawerModel", "hoursFor", "([II)I"⟩, 49), (⟨"LifeDrawerModel", "renewHours", "(I)I"⟩, 49), (⟨"LifeDrawerModel", "writes", "([II)V"⟩, 49), (⟨"LifeDrawerModel", "dies", "([II)V"⟩, 49), (⟨"LifeDrawerModel", "costOf", "([II)I"⟩, 49), (⟨"LifeDrawerModel", "costIn", "([IIII)I"⟩, 49), (⟨"LifeDrawerModel", "wrongIn", "([IIII)I"⟩, 49), (⟨"LifeDrawerModel", "yearsOf", "(II)I"⟩, 49), (⟨"LifeDrawerModel", "isByDead", "([II)I"⟩, 49), (⟨"LifeDrawerModel", "changesOf", "(III)I"⟩, 49), (⟨"LifeDrawerModel", "wrongBy", "(IIIII)I"⟩, 49), (⟨"LifeDrawerModel", "byLaw", "()I"⟩, 49), (⟨"LifeDrawerModel", "weekEnds", "([I)Z"⟩, 49), (⟨"LifeDrawerModel", "aliveIn", "([I)I"⟩, 49)]
theorem lw_r5 : ∀ q ∈ lw_privs_5, lw_okq q := List.forall_mem_cons.mpr ⟨lw_p64, List.forall_mem_cons.mpr ⟨lw_p65, List.forall_mem_cons.mpr ⟨lw_p66, List.forall_mem_cons.mpr ⟨lw_p67, List.forall_mem_cons.mpr ⟨lw_p68, List.forall_mem_cons.mpr ⟨lw_p69, List.forall_mem_cons.mpr ⟨lw_p70, List.forall_mem_cons.mpr ⟨lw_p71, List.forall_mem_cons.mpr ⟨lw_p72, List.forall_mem_cons.mpr ⟨lw_p73, List.forall_mem_cons.mpr ⟨lw_p74, List.forall_mem_cons.mpr ⟨lw_p75, List.forall_mem_cons.mpr ⟨lw_p76, List.forall_mem_cons.mpr ⟨lw_p77, List.forall_mem_cons.mpr ⟨lw_p78, List.forall_mem_cons.mpr ⟨lw_p79, fun _ h => absurd h List.not_mem_nil⟩⟩⟩⟩⟩⟩⟩⟩⟩⟩⟩⟩⟩⟩⟩⟩
theorem lw_p80 : lw_okq (⟨"LifeDrawerModel", "isLife", "(I)Z"⟩, 49) := ⟨tcC_8.1, tcC_8.2, tc_8 8 (by eq_refl), tc_8 9 (by eq_refl)⟩
theorem lw_p81 : lw_okq (⟨"LifeDrawerModel", "factsAt", "(II)I"⟩, 49) := ⟨tcC_8.1, tcC_8.2, tc_8 16 (by eq_refl), tc_8 17 (by eq_refl)⟩
theorem lw_p82 : lw_okq (⟨"LifeDrawerModel", "wrongOf", "(I)I"⟩, 49) := ⟨tcC_8.1, tcC_8.2, tc_8 24 (by eq_refl), tc_8 25 (by eq_refl)⟩
theorem lw_p83 : lw_okq (⟨"LifeDrawerModel", "noPart", "(II)Z"⟩, 49) := ⟨tcC_8.1, tcC_8.2, tc_8 36 (by eq_refl), tc_8 37 (by eq_refl)⟩
theorem lw_p84 : lw_okq (⟨"LifeDrawerModel", "riskOf", "([I)J"⟩, 49) := ⟨tcC_8.1, tcC_8.2, tc_8 52 (by eq_refl), tc_8 53 (by eq_refl)⟩
theorem lw_p85 : lw_okq (⟨"LifeDrawerModel", "saved", "([II)I"⟩, 49) := ⟨tcC_8.1, tcC_8.2, tc_8 61 (by eq_refl), tc_8 62 (by eq_refl)⟩
theorem lw_p86 : lw_okq (⟨"LifeDrawerModel", "firstOf", "([II)I"⟩, 49) := ⟨tcC_8.1, tcC_8.2, tc_8 69 (by eq_refl), tc_8 70 (by eq_refl)⟩
theorem lw_p87 : lw_okq (⟨"LifeDrawerModel", "laysBest", "(I)I"⟩, 49) := ⟨tcC_8.1, tcC_8.2, tc_8 89 (by eq_refl), tc_8 90 (by eq_refl)⟩
theorem lw_p88 : lw_okq (⟨"LifeDrawerModel", "isOption", "(III)Z"⟩, 49) := ⟨tcC_8.1, tcC_8.2, tc_8 94 (by eq_refl), tc_8 95 (by eq_refl)⟩
theorem lw_p89 : lw_okq (⟨"LifeDrawerModel", "laysOption", "(II)V"⟩, 49) := ⟨tcC_8.1, tcC_8.2, tc_8 101 (by eq_refl), tc_8 102 (by eq_refl)⟩
theorem lw_p90 : lw_okq (⟨"LifeDrawerModel", "oftenBy", "(III)J"⟩, 49) := ⟨tcC_8.1, tcC_8.2, tc_8 117 (by eq_refl), tc_8 118 (by eq_refl)⟩
theorem lw_p91 : lw_okq (⟨"LifeDrawerModel", "areLives", "(I)Z"⟩, 49) := ⟨tcC_8.1, tcC_8.2, tc_8 150 (by eq_refl), tc_8 151 (by eq_refl)⟩
theorem lw_p92 : lw_okq (⟨"LifeDrawerModel", "laysRoom", "(II)V"⟩, 49) := ⟨tcC_8.1, tcC_8.2, tc_8 154 (by eq_refl), tc_8 155 (by eq_refl)⟩
theorem lw_p93 : lw_okq (⟨"LifeDrawerModel", "rooms", "(IIII)V"⟩, 49) := ⟨tcC_8.1, tcC_8.2, tc_8 158 (by eq_refl), tc_8 159 (by eq_refl)⟩
theorem lw_p94 : lw_okq (⟨"LifeDrawerModel", "isApart", "(II)Z"⟩, 49) := ⟨tcC_8.1, tcC_8.2, tc_8 170 (by eq_refl), tc_8 171 (by eq_refl)⟩
theorem lw_p95 : lw_okq (⟨"LifeDrawerModel", "writtenOf", "(I)J"⟩, 49) := ⟨tcC_8.1, tcC_8.2, tc_8 185 (by eq_refl), tc_8 186 (by eq_refl)⟩
def lw_privs_6 : List (MethodName × Nat) := [(⟨"LifeDrawerModel", "isLife", "(I)Z"⟩, 49), (⟨"LifeDrawerModel", "factsAt", "(II)I"⟩, 49), (⟨"LifeDrawerModel", "wrongOf", "(I)I"⟩, 49), (⟨"LifeDrawerModel", "noPart", "(II)Z"⟩, 49), (⟨"LifeDrawerModel", "riskOf", "([I)J"⟩, 49), (⟨"LifeDrawerModel", "saved", "([II)I"⟩, 49), (⟨"LifeDrawerModel", "firstOf", "([II)I"⟩, 49), (⟨"LifeDrawerModel", "laysBest", "(I)I"⟩, 49), (⟨"LifeDrawerModel", "isOption", "(III)Z"⟩, 49), (⟨"LifeDrawerModel", "laysOption", "(II)V"⟩, 49), (⟨"LifeDrawerModel", "oftenBy", "(III)J"⟩, 49), (⟨"LifeDrawerModel", "areLives", "(I)Z"⟩, 49), (⟨"LifeDrawerModel", "laysRoom", "(II)V"⟩, 49), (⟨"LifeDrawerModel", "rooms", "(IIII)V"⟩, 49), (⟨"LifeDrawerModel", "isApart", "(II)Z"⟩, 49), (⟨"LifeDrawerModel", "writtenOf", "(I)J"⟩, 49)]
theorem lw_r6 : ∀ q ∈ lw_privs_6, lw_okq q := List.forall_mem_cons.mpr ⟨lw_p80, List.forall_mem_cons.mpr ⟨lw_p81, List.forall_mem_cons.mpr ⟨lw_p82, List.forall_mem_cons.mpr ⟨lw_p83, List.forall_mem_cons.mpr ⟨lw_p84, List.forall_mem_cons.mpr ⟨lw_p85, List.forall_mem_cons.mpr ⟨lw_p86, List.forall_mem_cons.mpr ⟨lw_p87, List.forall_mem_cons.mpr ⟨lw_p88, List.forall_mem_cons.mpr ⟨lw_p89, List.forall_mem_cons.mpr ⟨lw_p90, List.forall_mem_cons.mpr ⟨lw_p91, List.forall_mem_cons.mpr ⟨lw_p92, List.forall_mem_cons.mpr ⟨lw_p93, List.forall_mem_cons.mpr ⟨lw_p94, List.forall_mem_cons.mpr ⟨lw_p95, fun _ h => absurd h List.not_mem_nil⟩⟩⟩⟩⟩⟩⟩⟩⟩⟩⟩⟩⟩⟩⟩⟩
theorem lw_p96 : lw_okq (⟨"LifeDrawerModel", "riskIn", "(I)J"⟩, 49) := ⟨tcC_8.1, tcC_8.2, tc_8 197 (by eq_refl), tc_8 198 (by eq_refl)⟩
theorem lw_p97 : lw_okq (⟨"LifeDrawerModel", "yearsBy", "(II)V"⟩, 49) := ⟨tcC_8.1, tcC_8.2, tc_8 233 (by eq_refl), tc_8 234 (by eq_refl)⟩
theorem lw_p98 : lw_okq (⟨"LifeDrawerModel", "putsAll", "([IZ)V"⟩, 49) := ⟨tcC_8.1, tcC_8.2, tc_9 6 (by eq_refl), tc_9 7 (by eq_refl)⟩
theorem lw_p99 : lw_okq (⟨"LifeDrawerModel", "puts", "([IIZ)I"⟩, 49) := ⟨tcC_8.1, tcC_8.2, tc_9 10 (by eq_refl), tc_9 11 (by eq_refl)⟩
def lw_privs_7 : List (MethodName × Nat) := [(⟨"LifeDrawerModel", "riskIn", "(I)J"⟩, 49), (⟨"LifeDrawerModel", "yearsBy", "(II)V"⟩, 49), (⟨"LifeDrawerModel", "putsAll", "([IZ)V"⟩, 49), (⟨"LifeDrawerModel", "puts", "([IIZ)I"⟩, 49)]
theorem lw_r7 : ∀ q ∈ lw_privs_7, lw_okq q := List.forall_mem_cons.mpr ⟨lw_p96, List.forall_mem_cons.mpr ⟨lw_p97, List.forall_mem_cons.mpr ⟨lw_p98, List.forall_mem_cons.mpr ⟨lw_p99, fun _ h => absurd h List.not_mem_nil⟩⟩⟩⟩
def lw_privs : List (MethodName × Nat) := lw_privs_1 ++ (lw_privs_2 ++ (lw_privs_3 ++ (lw_privs_4 ++ (lw_privs_5 ++ (lw_privs_6 ++ (lw_privs_7))))))
def lw_tbl : List Cond := k2_sels lw_privs ++ tables_1
theorem lw_privs_ok : ∀ q ∈ lw_privs, lw_okq q := by
  show ∀ q ∈ lw_privs_1 ++ (lw_privs_2 ++ (lw_privs_3 ++ (lw_privs_4 ++ (lw_privs_5 ++ (lw_privs_6 ++ (lw_privs_7)))))), lw_okq q
  exact List.forall_mem_append.mpr ⟨lw_r1, List.forall_mem_append.mpr ⟨lw_r2, List.forall_mem_append.mpr ⟨lw_r3, List.forall_mem_append.mpr ⟨lw_r4, List.forall_mem_append.mpr ⟨lw_r5, List.forall_mem_append.mpr ⟨lw_r6, lw_r7⟩⟩⟩⟩⟩⟩
-- ===== end of PART A; then your names; then what follows =====
end
-- P 02
section
def va_AOA (t : FieldType) (U : State) : Prop := (Cond.arrayOver (.array t)).before #[] U = true
theorem va_AOA.use {t : FieldType} {A : Array Value} {U : State} (h : va_AOA t U) : (Cond.arrayOver (.array t)).before A U = true := h
/-! ===== BEGIN words of one list among another's, by their places ===== -/
theorem goodIn_r {big : List Cond} (ws : List Cond) (ps : List Nat) (hp : ws = ps.filterMap (fun i => big[i]?)) (h : ws.all goodWord = true) : GoodIn big ws := by
  intro w hw
  have h1 := List.all_eq_true.mp h w hw
  rw [hp] at hw
  obtain ⟨i, -, hi⟩ := List.mem_filterMap.mp hw
  have hm : w ∈ big := by first | exact List.mem_of_getElem? hi | exact List.getElem?_mem hi
  exact ⟨hm, good_of_word h1⟩
theorem goodIn_app {big a b : List Cond} (ha : GoodIn big a) (hb : GoodIn big b) : GoodIn big (a ++ b) := fun w h => (List.mem_append.mp h).elim (ha w) (hb w)
theorem goodIn_ca {big a b : List Cond} {c : Cond} (ha : GoodIn big (c :: a)) (hb : GoodIn big b) : GoodIn big (c :: (a ++ b)) := fun w h => (List.mem_cons.mp h).elim (fun e => ha w (List.mem_cons.mpr (Or.inl e))) (fun h => (List.mem_append.mp h).elim (fun h => ha w (List.mem_cons.mpr (Or.inr h))) (hb w))
theorem goodIn_sub {big ws : List Cond} (hm : ∀ w ∈ ws, w ∈ big) (h : ws.all goodWord = true) : GoodIn big ws := fun w hw => ⟨hm w hw, good_of_word (List.all_eq_true.mp h w hw)⟩
/-! ===== END ===== -/

/-! ===== BEGIN new T[n][m]: the outer array a place, the inner ones among the pooled ===== -/
/-- f, but v at every address of l -/
def vr_up {α : Type} (f : Nat → α) (l : List Nat) (v : α) : Nat → α := fun a => if a ∈ l then v else f a
theorem vr_up_in {α : Type} {f : Nat → α} {l : List Nat} {v : α} {a : Nat} (h : a ∈ l) : vr_up f l v a = v := if_pos h
theorem vr_up_ne {α : Type} {f : Nat → α} {l : List Nat} {v : α} {a : Nat} (h : a ∉ l) : vr_up f l v a = f a := if_neg h
theorem vr_rows {L l : List Nat} {f : Nat → va_E} {e : va_E} (h : ∀ a, a ∈ l → a ∉ L) : va_pl L f ++ l.map (fun a => (a, e)) = va_pl (L ++ l) (vr_up f l e) := by
  unfold va_pl
  rw [List.map_append]
  congr 1
  · apply List.map_congr_left
    intro a ha
    rw [vr_up_ne (fun q => h a q ha)]
  · apply List.map_congr_left
    intro a ha
    rw [vr_up_in ha]
theorem vr_lay {X rows : va_W} {x : Nat × va_E} {pl : va_W} {D : va_G} {cl : List vw_C} {H : Heap} (hP : va_P D cl (((X ++ pl) ++ [x]) ++ rows) H) : va_P D cl ((X ++ [x]) ++ (pl ++ rows)) H := by
  rw [List.append_assoc (X ++ pl)] at hP
  have h := va_P.swap hP
  rw [← List.append_assoc X] at h
  have h2 := va_P.swap h
  rw [List.append_assoc (X ++ [x])] at h2
  exact h2
theorem vr_layD {X rows : va_W} {x : Nat × va_E} {pl : va_W} {A : Nat → Prop} (hD : va_D A (((X ++ pl) ++ [x]) ++ rows)) : va_D A ((X ++ [x]) ++ (pl ++ rows)) := by
  rw [List.append_assoc (X ++ pl)] at hD
  have h := va_D.swap hD
  rw [← List.append_assoc X] at h
  have h2 := va_D.swap h
  rw [List.append_assoc (X ++ [x])] at h2
  exact h2
theorem vr_outer (c : ClassId) (N h0 : Nat) : ∀ i : Nat, Jvm.Free.Multi.outerC c N h0 i = arrV c N (fun j => va_rf (if j < i then some (h0 + 1 + j) else none))
  | 0 => by
    show ({ cls := c, slots := Array.replicate N .null, vm := .none } : Cell) = _
    rw [arrV_new]
    refine congrArg (arrV c N) (funext fun j => ?_)
    simp [va_rf]
  | i + 1 => by
    show (Jvm.Free.Multi.outerC c N h0 i).setSlot i (.ref (h0 + 1 + i)) = _
    rw [vr_outer c N h0 i, arrV_store]
    refine congrArg (arrV c N) (funext fun j => ?_)
    by_cases e : j = i
    · subst e
      simp [updV, va_rf]
    · by_cases h : j < i
      · simp [updV, e, h, Nat.lt_succ_of_lt h]
      · simp [updV, e, h, show ¬ j < i + 1 by omega]
section VGM
variable {p : Program} {l : Launch} {e : Env} {R : Room} {s : State} {m : MethodId} {args : Array Value} {below : List Frame} {meth : Method} {c : Code} {H : Heap} {locs : List Loc} {cells slots : Nat} {Q : State → Prop}
variable {cc : ByteArray} {pc : Nat} {ls : Array Slot} {rest : List Value} {D : va_G} {cl : List vw_C} {A : Nat → Prop} {a : Nat} {tys : List (ClassId × FieldType)} {ws : va_W} {H0 : Heap}
theorem va_mna {X : va_W} {L : List Nat} {f : Nat → va_E} {cc : ByteArray} (hexec : p.tables.exec = Jvm.exec) (hb : c.code = cc) {own : String} {index : Nat} {ty : FieldType} {cy : ClassId} (hown : s.vm.findClass own = some m.cls) (hclink : (Cond.classLink own index ("[" ++ (FieldType.array ty).toString)).before args s = true) (hover : va_AOA ty s) (harr : (Cond.arrayClass ty).before args s = true) (hcy : s.vm.findClass (FieldType.array ty).toString = some cy)
    (hK : va_K D cl tys s) (hP : va_P D cl (X ++ va_pl L f) H) (hD : va_D A (X ++ va_pl L f)) (hS : va_S A H0 H locs) (hA : ∀ q, H0.size ≤ q → A q) {n k : Int32} {N' K' : Nat} {z : vp_A} (hn : ¬ n < 0) (hk : ¬ k < 0) (hN : n.toNatClampNeg = N') (hM : k.toNatClampNeg = K')
    (hb1 : N' * 4 ≤ 536870912) (hb2 : K' * componentBytes ty ≤ 536870912) (hb3 : K' ≤ 536870912) (hdf : fits ty (defaultValue ty) = true) (hdd : (defaultValue ty).isDefault = true) (hcells : cells + (1 + N') ≤ R.cells) (hslots : slots + (N' + N' * K') ≤ R.slots) (hz : ∀ c : ClassId, Jvm.Free.Multi.innerC c K' (defaultValue ty) = vp_cell c z) (hdg : decode cc pc = .ok (.multianewarray index 2, 4))
    (kk : ∀ (q : Nat) (r : Nat → Nat) (cA : ClassId) (H1 : Heap), (∀ i j : Nat, i < N' → j < N' → r i = r j → i = j) → (∀ i : Nat, i < N' → r i ∉ L) → va_K D cl (tys ++ [(cA, .array ty)]) s →
      va_P D cl ((X ++ [(q, .inl (cA, N', .inr (.inr (.inr (.inr (fun i => if i < N' then some (r i) else none))))))]) ++ va_pl (L ++ (List.range N').map r) (vr_up f ((List.range N').map r) (.inl (cy, z)))) H1 → va_D A ((X ++ [(q, .inl (cA, N', .inr (.inr (.inr (.inr (fun i => if i < N' then some (r i) else none))))))]) ++ va_pl (L ++ (List.range N').map r) (vr_up f ((List.range N').map r) (.inl (cy, z)))) → va_S A H0 H1 locs →
      W p l e R s m args below meth c H1 locs (cells + 1 + N') (slots + N' + N' * K') Q (F0 m (pc + 4) ls (.ref q :: rest))) : W p l e R s m args below meth c H locs cells slots Q (F0 m pc ls (.int k :: .int n :: rest)) := by
  subst hN
  subst hM
  intro T hT Xs
  obtain ⟨vm₁, cA, comp, -, fA, fC, hO, -, X', step⟩ := Xs.multianewarray2F hexec hown hclink (va_AOA.use hover) harr (g := F0 m pc ls (.int k :: .int n :: rest)) rfl (by rw [hb]; exact hdg) rfl hn hk hb1 hb2 hb3 hdf hdd hcells hslots
  have ec : some cy = some comp := hcy.symm.trans fC
  cases ec
  generalize hF : Jvm.Free.Multi.fill (T.setVm vm₁) cA cy n.toNatClampNeg k.toNatClampNeg (defaultValue ty) n.toNatClampNeg = F at X' step
  have hTh : (T.setVm vm₁).heap = H := hT
  obtain ⟨f1, f2, -, -⟩ := Jvm.Free.Multi.fill_facts (T.setVm vm₁) cA cy n.toNatClampNeg k.toNatClampNeg (defaultValue ty) n.toNatClampNeg
  rw [hF, hTh] at f1 f2
  have hold : ∀ x : Nat, x < H.size → F.heap[x]? = H[x]? := fun x hx => by
    have := Jvm.Free.Multi.fill_old (T.setVm vm₁) cA cy n.toNatClampNeg k.toNatClampNeg (defaultValue ty) (a := x) (by rw [hTh]; exact hx) n.toNatClampNeg
    rw [hF, hTh] at this
    exact this
  have hrow : ∀ j : Nat, j < n.toNatClampNeg → F.heap[H.size + 1 + j]? = some (vp_cell cy z) := fun j hj => by
    have := Jvm.Free.Multi.fill_inner (T.setVm vm₁) cA cy n.toNatClampNeg k.toNatClampNeg (defaultValue ty) n.toNatClampNeg j hj
    rw [hF, hTh, hz] at this
    exact this
  have hout : Jvm.Free.Multi.outerC cA n.toNatClampNeg H.size n.toNatClampNeg = vp_cell cA (n.toNatClampNeg, .inr (.inr (.inr (.inr (fun i => if i < n.toNatClampNeg then some (H.size + 1 + i) else none))))) := by
    rw [vp_cell_q]
    exact vr_outer cA n.toNatClampNeg H.size n.toNatClampNeg
  rw [hout] at f2
  have hlt : ∀ a, a ∈ L → a < H.size := fun a ha => by
    obtain ⟨k9, hk9⟩ := va_pl_get (X := X) (f := f) ha
    exact (hP k9 _ hk9).lt
  have hnl : ∀ i : Nat, i < n.toNatClampNeg → H.size + 1 + i ∉ L := fun i _ h => by
    have := hlt _ h
    omega
  have hnm : ∀ a, a ∈ (List.range n.toNatClampNeg).map (fun i => H.size + 1 + i) → a ∉ L := fun a ha h => by
    obtain ⟨i, -, rfl⟩ := List.mem_map.mp ha
    have := hlt _ h
    omega
  have hP0 : va_P D cl (X ++ va_pl L f) F.heap := hP.kept (fun k9 x hx => hold x.1 ((hP k9 x hx).lt))
  have hP1 : va_P D cl ((X ++ va_pl L f) ++ [(H.size, .inl (cA, n.toNatClampNeg, .inr (.inr (.inr (.inr (fun i => if i < n.toNatClampNeg then some (H.size + 1 + i) else none))))))]) F.heap := hP0.app (fun k9 x hx => by
    have h0 : k9 < 1 := (List.getElem?_eq_some_iff.mp hx).1
    rw [show k9 = 0 by omega] at hx
    cases hx
    exact f2)
  have hP2 : va_P D cl (((X ++ va_pl L f) ++ [(H.size, .inl (cA, n.toNatClampNeg, .inr (.inr (.inr (.inr (fun i => if i < n.toNatClampNeg then some (H.size + 1 + i) else none))))))]) ++ ((List.range n.toNatClampNeg).map (fun i => H.size + 1 + i)).map (fun a => (a, .inl (cy, z)))) F.heap := hP1.app (fun k9 x hx => by
    obtain ⟨a, ha, rfl⟩ := List.mem_map.mp (List.mem_of_getElem? hx)
    obtain ⟨i, hi, rfl⟩ := List.mem_map.mp ha
    exact hrow i (List.mem_range.mp hi))
  have hD2 : va_D A (((X ++ va_pl L f) ++ [(H.size, .inl (cA, n.toNatClampNeg, .inr (.inr (.inr (.inr (fun i => if i < n.toNatClampNeg then some (H.size + 1 + i) else none))))))]) ++ ((List.range n.toNatClampNeg).map (fun i => H.size + 1 + i)).map (fun a => (a, .inl (cy, z)))) := by
    have hD1 := hD.push (e := .inl (cA, n.toNatClampNeg, .inr (.inr (.inr (.inr (fun i => if i < n.toNatClampNeg then some (H.size + 1 + i) else none)))))) hP rfl (hA _ hS.1)
    generalize hW1 : (X ++ va_pl L f) ++ [(H.size, .inl (cA, n.toNatClampNeg, .inr (.inr (.inr (.inr (fun i => if i < n.toNatClampNeg then some (H.size + 1 + i) else none))))))] = W1 at hD1 hP1 ⊢
    have hle : ∀ (k9 : Nat) (x : Nat × va_E), W1[k9]? = some x → x.1 ≤ H.size := fun k9 x hx => by
      rw [← hW1] at hx
      by_cases hl : k9 < (X ++ va_pl L f).length
      · rw [List.getElem?_append_left hl] at hx
        exact Nat.le_of_lt ((hP k9 x hx).lt)
      · rw [List.getElem?_append_right (by omega)] at hx
        have h0 : k9 - (X ++ va_pl L f).length < 1 := (List.getElem?_eq_some_iff.mp hx).1
        rw [show k9 - (X ++ va_pl L f).length = 0 by omega] at hx
        cases hx
        exact Nat.le_refl _
    have hr : ∀ (k9 : Nat) (x : Nat × va_E), (((List.range n.toNatClampNeg).map (fun i => H.size + 1 + i)).map (fun a => ((a, .inl (cy, z)) : Nat × va_E)))[k9]? = some x → x.1 = H.size + 1 + k9 := fun k9 x hx => by
      rw [List.getElem?_map, List.getElem?_map] at hx
      by_cases h9 : k9 < n.toNatClampNeg
      · rw [List.getElem?_range h9] at hx
        cases hx
        rfl
      · have hn0 : (List.range n.toNatClampNeg)[k9]? = none := List.getElem?_eq_none (by rw [List.length_range]; omega)
        rw [hn0] at hx
        cases hx
    refine ⟨fun i j x y hi hj hxy => ?_, fun k9 x hx => ?_⟩
    · by_cases h1 : i < W1.length <;> by_cases h2 : j < W1.length
      · rw [List.getElem?_append_left h1] at hi
        rw [List.getElem?_append_left h2] at hj
        exact hD1.1 i j x y hi hj hxy
      · rw [List.getElem?_append_left h1] at hi
        rw [List.getElem?_append_right (by omega)] at hj
        have := hle _ _ hi
        have := hr _ _ hj
        omega
      · rw [List.getElem?_append_right (by omega)] at hi
        rw [List.getElem?_append_left h2] at hj
        have := hle _ _ hj
        have := hr _ _ hi
        omega
      · rw [List.getElem?_append_right (by omega)] at hi hj
        have := hr _ _ hi
        have := hr _ _ hj
        omega
    · by_cases h1 : k9 < W1.length
      · rw [List.getElem?_append_left h1] at hx
        exact hD1.2 k9 x hx
      · rw [List.getElem?_append_right (by omega)] at hx
        have := hr _ _ hx
        exact hA _ (by have := hS.1; omega)
  have hAr : ArrOfT s cA (.array ty) := fun N9 z9 => by
    obtain ⟨-, k9, hk9, cm9, hkk9⟩ := (hO 0 0 0).1
    exact ⟨(fun q hq => by cases hq), k9, hk9, cm9, hkk9⟩
  have hK2 : va_K D cl (tys ++ [(cA, .array ty)]) s := ⟨hK.1, fun k9 x hx => by
    by_cases hl : k9 < tys.length
    · rw [List.getElem?_append_left hl] at hx
      exact hK.2 k9 x hx
    · rw [List.getElem?_append_right (by omega)] at hx
      have h0 : k9 - tys.length < 1 := (List.getElem?_eq_some_iff.mp hx).1
      rw [show k9 - tys.length = 0 by omega] at hx
      cases hx
      exact ⟨hAr, fA⟩⟩
  obtain ⟨t, a1, b1⟩ := kk H.size (fun i => H.size + 1 + i) cA F.heap (fun i j _ _ h => by have h9 : H.size + 1 + i = H.size + 1 + j := h; omega) hnl hK2 (by rw [← vr_rows hnm]; exact vr_lay hP2) (by rw [← vr_rows hnm]; exact vr_layD hD2) ⟨by rw [f1]; have := hS.1; omega, fun x h1 h2 => (hold x (Nat.lt_of_lt_of_le h1 hS.1)).trans (hS.2.1 x h1 h2), hS.2.2⟩ F rfl X'
  refine ⟨t, step t ?_, b1⟩
  have e : T.heap.size = H.size := by rw [hT]
  rw [e]
  exact a1
end VGM
/-! ===== END ===== -/

/-! ===== BEGIN exceptions that leave a method, and their catching by the caller (launches without stack traces) ===== -/
section VXA
/-! The laws vx_back, vx_callV, vx_callS, vx_callSW, vx_throw0, vx_throwS follow proofs of the library, with one case more: JvmDerived/Free/Laws.lean (Back.of_free), Shelf42/LK1.lean (callV, callS), Shelf/KitTraced.lean (throwNew0V, throwNewS). -/
/-- where a method has thrown q: the class by its name, the cell, what was written, the world -/
def vx_T (XC : String → State → State → Prop) (st : State) (q : Addr) (t : State) (mc ms : Nat) (free : Addr → Prop) : Prop :=
  ∃ (E : String) (ce : Cell) (L : List Loc), XC E st t ∧ t.heap[q]? = some ce ∧ ce.vm = .none ∧ st.vm.findClass E = some ce.cls ∧ st.WarmedH t.vm ∧ st.sameButNew ({ t with vm := st.vm } : State) L mc ms ∧ ∀ z ∈ L, free z.base
def vx_Q (Qc : Array Value → State → Outcome → State → Prop) (XC : String → State → State → Prop) (mc ms : Nat) (free : Addr → Prop) : Array Value → State → Outcome → State → Prop := fun a st o t =>
  (Qc a st o t ∧ ∃ L, FrameEnd st o t L mc ms ∧ ∀ q ∈ L, free q.base) ∨ ∃ q, o = .threw q ∧ vx_T XC st q t mc ms free
/-- a callee that returns or throws -/
def vx_Met (l : Launch) (y : MethodName) (ws : List Cond) (rm : Room) (Pc : Array Value → State → Prop) (Qc : Array Value → State → Outcome → State → Prop) (XC : String → State → State → Prop) (mc ms : Nat) (free : Addr → Prop) : Prop :=
  MetFree l y (headSpec ws rm) Pc (fun _ _ _ _ _ => True) (vx_Q Qc XC mc ms free)
def vx_Post (XC : String → State → State → Prop) (mc ms : Nat) (free : Addr → Prop) : Pt → Array Value → Addr → Pt → Prop := fun A a q B =>
  ∃ (g : JFrame) (mk : MethodId) (t : State) (L : List Loc) (E : String) (ce : Cell), B.U.heap = t.heap ∧ B.U.vm = t.vm ∧ XC E (A.U.calling g mk a) t ∧ t.heap[q]? = some ce ∧ ce.vm = .none ∧ A.U.vm.findClass E = some ce.cls ∧ B.locs = A.locs ++ L ∧ (∀ z ∈ L, free z.base) ∧ B.cells = A.cells + mc ∧ B.slots = A.slots + ms
def vx_Back (l : Launch) (R : Room) (p : Program) (e : Env) (below : List Frame) (s : State) (sargs : Array Value) (y : MethodName) (len W9 : Nat)
    (Pre : Pt → Array Value → Prop) (Post : Pt → Array Value → Option Value → Pt → Prop) (PostX : Pt → Array Value → Addr → Pt → Prop) : Prop :=
  ∀ (m : MethodId) (meth : Method) (c : Code) (A : Pt) (g : JFrame) (ig : Instr) (mk : MethodId) (a : Array Value),
    Stand p l e R s m sargs below meth c A.U A.locs A.cells A.slots → g.method = m → g.locals.size = c.maxLocals → decode c.code g.pc = .ok (ig, len) →
    2 * g.monitorRoom + (g.stack.map fun v => v.category).sum ≤ W9 → A.U.methodNamed? y = some mk → Pre A a →
    (∃ (v : Option Value) (B : Pt), Stand p l e R s m sargs below meth c B.U B.locs B.cells B.slots ∧ Post A a v B ∧
      Steps p.tables e below (doInvoke e (A.U.setTop g) [] mk a).1 (B.U.setTop { g with pc := g.pc + len, stack := v.toList ++ g.stack })) ∨
    (∃ (q : Addr) (B : Pt), Stand p l e R s m sargs below meth c B.U B.locs B.cells B.slots ∧ PostX A a q B ∧
      Steps p.tables e below (doInvoke e (A.U.setTop g) [] mk a).1 ((B.U.setTop g).pushFrame (.throwing q)))
section Payer
variable {l : Launch} {R : Room} {p : Program} {e : Env} {below : List Frame} {s : State} {sargs : Array Value} {y : MethodName} {len W9 : Nat}
theorem vx_back {ws : List Cond} {rm : Room} {Pc : Array Value → State → Prop} {Qc : Array Value → State → Outcome → State → Prop} {XC : String → State → State → Prop} {mc ms : Nat} {free : Addr → Prop} {bytes : ByteArray} {maxL : Nat} {ret : Option FieldType}
    (hM : vx_Met l y ws rm Pc Qc XC mc ms free) (hblind : FrameBlind Pc) (hrc : rm.cells = mc) (hrs : rm.slots = ms)
    (hframes : rm.frames + 1 ≤ R.frames) (hlocals : W9 + (maxL + 11) + rm.locals ≤ R.locals)
    (hws : ∀ w ∈ ws, ∀ a' U, s.WarmedH U.vm → w.before a' U = true) (hcode : Cond.code y bytes maxL ret ∈ ws) (hinit : ∀ a' U, s.WarmedH U.vm → (Cond.initialized y.cls).before a' U = true) :
    vx_Back l R p e below s sargs y len W9 (PreOf R mc ms Pc) (PostOf Qc mc ms free) (vx_Post XC mc ms free) := by
  intro m meth c A g ig mk a X hg hsize hdg hW hn hp
  have h1 : (headSpec ws rm).pre.before a A.U = true := atoms_intro fun w hw => hws w hw _ _ X.warmed
  have h2 : (Cond.code y bytes maxL ret).before a A.U = true := hws _ hcode _ _ X.warmed
  have h3 : (Cond.initialized y.cls).before a A.U = true := hinit _ _ X.warmed
  have h4 : A.cells + (headSpec ws rm).room.cells ≤ R.cells := by rw [show (headSpec ws rm).room.cells = mc from hrc]; exact hp.1
  have h5 : A.slots + (headSpec ws rm).room.slots ≤ R.slots := by rw [show (headSpec ws rm).room.slots = ms from hrs]; exact hp.2.1
  have hPc : Pc a (A.U.calling g mk a) := hblind _ _ _ _ hp.2.2
  obtain ⟨U, Ls, c0, s0⟩ := A
  dsimp only [Pt.U, Pt.locs, Pt.cells, Pt.slots] at h1 h2 h3 h4 h5 X hn hPc ⊢
  obtain ⟨methY, cY, hmY, hcY, -, hlY, -, -, -, -⟩ := Cond.code_spec hn h2
  obtain ⟨kY, hkY, -⟩ := className_of_methodNamed hn
  have hinitY : kY.init = .initialized := Cond.initialized_spec (findClass_of_methodNamed hn) hkY h3
  have h : At U g.method c below := by rw [hg]; exact X.here
  have hlocals9 : W9 + (maxL + 11) + (headSpec ws rm).room.locals ≤ R.locals := hlocals
  have happ : (headSpec ws rm).appliesLoose y e.platform (U.calling g mk a) = true :=
    Spec.appliesLoose_calling (g := g) h hdg hn hkY hinitY
      (X.room_calling (g := g) (R' := (headSpec ws rm).room) hsize hmY hcY hframes (by rw [hlY]; omega) h4 h5) h1
  obtain ⟨mid, hmid⟩ := h.above
  have hfr : (U.setTop g).frames = (.java g :: mid) ++ below := by rw [State.frames_setTop' g h.top, hmid]; rfl
  obtain ⟨o, s₂, hsteps, -, hend, hq⟩ := Steps.callFree hM p X.admits X.cas X.clock (acts := []) hfr happ hPc trivial
  have hq' : vx_Q Qc XC mc ms free a (U.calling g mk a) o s₂ := hq
  rw [State.frames_setTop' g h.top] at hend
  obtain ⟨g₀, hg0⟩ := Option.isSome_iff_exists.mp h.top
  obtain ⟨r, hr⟩ := State.topJava?_eq_some.mp hg0
  have hr' : (({ U with heap := s₂.heap, slotsUsed := s₂.slotsUsed } : State).setVm s₂.vm).frames = .java g₀ :: r := hr
  rcases hq' with ⟨hqc, L, hfe, hL⟩ | ⟨q, rfl, E, ce, L, hx, hce, hcv, hcl, hW₂, hsm, hL⟩
  · obtain ⟨⟨v, rfl⟩, hW₂, e2, q2, q3, q4, q5, q6⟩ := id hfe
    have e3 : s₂ = ({ (U.calling g mk a).setFrames s₂.frames with heap := s₂.heap, slotsUsed := s₂.slotsUsed } : State).setVm s₂.vm := by
      have : s₂ = ({ s₂ with vm := (U.calling g mk a).vm } : State).setVm s₂.vm := rfl
      rw [e2] at this
      exact this
    obtain ⟨c₂, i₂, len₂, hc₂, hd₂, hf₂⟩ := hend
    have hW' : U.WarmedH s₂.vm := hW₂
    have hcc : c₂ = c := by
      have h1 : s₂.code? g.method = U.code? g.method := by
        rw [State.code?_eq, State.code?_eq, hW'.alike.method?]
      exact Option.some.inj (hc₂.symm.trans (h1.trans h.code))
    subst hcc
    have hlen : len₂ = len := by rw [hdg] at hd₂; cases hd₂; rfl
    subst hlen
    have hs₂ : s₂ = (({ U with heap := s₂.heap, slotsUsed := s₂.slotsUsed } : State).setVm s₂.vm).setTop { g with pc := g.pc + len₂, stack := v.toList ++ g.stack } := by
      refine e3.trans ?_
      rw [hf₂, State.calling_eq h.top, State.setFrames_setFrames, State.setTop_of_frames _ hr', hr]
      rfl
    have hsame : U.sameButNew ({ U with heap := s₂.heap, slotsUsed := s₂.slotsUsed } : State) L mc ms := by
      refine ⟨?_, q2, q3, q4, q5, q6⟩
      obtain ⟨t, ht, -⟩ := State.frames_cons hr
      show ({ U with heap := s₂.heap, slotsUsed := s₂.slotsUsed } : State) = { U.setFrames U.frames with heap := s₂.heap, slotsUsed := s₂.slotsUsed }
      rw [State.setFrames_self ht]
    subst hg
    refine Or.inl ⟨v, ⟨(({ U with heap := s₂.heap, slotsUsed := s₂.slotsUsed } : State).setVm s₂.vm), Ls ++ L, c0 + mc, s0 + ms⟩,
      ⟨X.admits, X.cas, X.clock, X.frames, X.room, X.hears, X.method, X.code, (X.here.setHeapUsed s₂.heap s₂.slotsUsed).setVm hW'.alike, X.tail, State.WarmedH.trans X.warmed hW', X.limits, X.bytes, X.same.trans (hsame.setVm s.vm)⟩,
      ⟨g, mk, s₂, L, rfl, rfl, hqc, rfl, hL, rfl, rfl⟩, ?_⟩
    show Steps p.tables e below _ ((({ U with heap := s₂.heap, slotsUsed := s₂.slotsUsed } : State).setVm s₂.vm).setTop { g with pc := g.pc + len₂, stack := v.toList ++ g.stack })
    rw [← hs₂]
    exact hsteps
  · obtain ⟨e2, q2, q3, q4, q5, q6⟩ := id hsm
    have e3 : s₂ = ({ (U.calling g mk a).setFrames s₂.frames with heap := s₂.heap, slotsUsed := s₂.slotsUsed } : State).setVm s₂.vm := by
      have : s₂ = ({ s₂ with vm := (U.calling g mk a).vm } : State).setVm s₂.vm := rfl
      rw [e2] at this
      exact this
    have hf₂ : s₂.frames = .throwing q :: .java g :: U.frames.tail := hend
    have hW' : U.WarmedH s₂.vm := hW₂
    have hs₂ : s₂ = ((({ U with heap := s₂.heap, slotsUsed := s₂.slotsUsed } : State).setVm s₂.vm).setTop g).pushFrame (.throwing q) := by
      refine e3.trans ?_
      rw [hf₂, State.calling_eq h.top, State.setFrames_setFrames, State.pushFrame, State.frames_setTop _ hr', State.setTop_of_frames _ hr', State.setFrames_setFrames, hr]
      rfl
    have hsame : U.sameButNew ({ U with heap := s₂.heap, slotsUsed := s₂.slotsUsed } : State) L mc ms := by
      refine ⟨?_, q2, q3, q4, q5, q6⟩
      obtain ⟨t, ht, -⟩ := State.frames_cons hr
      show ({ U with heap := s₂.heap, slotsUsed := s₂.slotsUsed } : State) = { U.setFrames U.frames with heap := s₂.heap, slotsUsed := s₂.slotsUsed }
      rw [State.setFrames_self ht]
    subst hg
    refine Or.inr ⟨q, ⟨(({ U with heap := s₂.heap, slotsUsed := s₂.slotsUsed } : State).setVm s₂.vm), Ls ++ L, c0 + mc, s0 + ms⟩,
      ⟨X.admits, X.cas, X.clock, X.frames, X.room, X.hears, X.method, X.code, (X.here.setHeapUsed s₂.heap s₂.slotsUsed).setVm hW'.alike, X.tail, State.WarmedH.trans X.warmed hW', X.limits, X.bytes, X.same.trans (hsame.setVm s.vm)⟩,
      ⟨g, mk, s₂, L, E, ce, rfl, rfl, hx, hce, hcv, hcl, rfl, hL, rfl, rfl⟩, ?_⟩
    show Steps p.tables e below _ (((({ U with heap := s₂.heap, slotsUsed := s₂.slotsUsed } : State).setVm s₂.vm).setTop g).pushFrame (.throwing q))
    rw [← hs₂]
    exact hsteps
end Payer
section Calls
variable {p : Program} {l : Launch} {e : Env} {R : Room} {s : State} {m : MethodId} {args : Array Value} {below : List Frame} {meth : Method} {c : Code} {T : State} {locs : List Loc} {cells slots : Nat}
theorem vx_callV (X : Stand p l e R s m args below meth c T locs cells slots) (hexec : p.tables.exec = Jvm.exec) {own C : String} {index : Nat} {y : MethodName} {bytes : ByteArray} {maxL : Nat} {ret : Option FieldType}
    (hown : s.vm.findClass own = some m.cls) (hlink : (Cond.methodLink own index y).before args s = true) (hinst : (Cond.instanceMethod y).before args s = true) (hsel : (Cond.selects C y y).before args s = true)
    (hcode : (Cond.code y bytes maxL ret).before args s = true) (hy : y.cls ≠ "java/lang/invoke/MethodHandle" ∧ y.cls ≠ "java/lang/invoke/VarHandle")
    {W9 : Nat} {Pre : Pt → Array Value → Prop} {Post : Pt → Array Value → Option Value → Pt → Prop} {PostX : Pt → Array Value → Addr → Pt → Prop} (hK : vx_Back l R p e below s args y 3 W9 Pre Post PostX)
    {b : Addr} {cellB : Cell} (hcell : T.heap[b]? = some cellB) (hobj : cellB.vm.isStatics = false) (hcls : s.vm.findClass C = some cellB.cls)
    {g : JFrame} (hg : g.method = m) (hsize : g.locals.size = c.maxLocals) {argsL rest : List Value} (hlen : ∀ sig, parseMethodDescriptor y.desc = some sig → argsL.length = sig.parameters.length)
    (hstack : g.stack = argsL.reverse ++ .ref b :: rest) (hW : 2 * g.monitorRoom + (rest.map fun v => v.category).sum ≤ W9) (hdg : decode c.code g.pc = .ok (.invokevirtual index, 3))
    (hpre : ∀ vm₁, s.WarmedH vm₁ → Pre ⟨T.setVm vm₁, locs, cells, slots⟩ (Value.ref b :: argsL).toArray) :
    (∃ (v : Option Value) (vm₁ : Vm) (B : Pt), s.WarmedH vm₁ ∧ Stand p l e R s m args below meth c B.U B.locs B.cells B.slots ∧ Post ⟨T.setVm vm₁, locs, cells, slots⟩ (Value.ref b :: argsL).toArray v B ∧
      ∀ target, Steps p.tables e below (B.U.setTop { g with pc := g.pc + 3, stack := v.toList ++ rest }) target → Steps p.tables e below (T.setTop g) target) ∨
    (∃ (q : Addr) (vm₁ : Vm) (B : Pt), s.WarmedH vm₁ ∧ Stand p l e R s m args below meth c B.U B.locs B.cells B.slots ∧ PostX ⟨T.setVm vm₁, locs, cells, slots⟩ (Value.ref b :: argsL).toArray q B ∧
      Steps p.tables e below (T.setTop g) ((B.U.setTop { g with stack := rest }).pushFrame (.throwing q))) := by
  obtain ⟨mk, methM, hnamed, hmethM, hstM, habM⟩ := Cond.instanceMethod_spec hinst
  obtain ⟨methM', cM, hmethM', -, -, -, -, -, -, hsigM⟩ := Cond.code_spec hnamed hcode
  cases hmethM.symm.trans hmethM'
  obtain ⟨c2, r2, m2, q1, q2, q3, q4, kP, hkP, hkPi⟩ := Cond.selects_spec hsel
  cases hcls.symm.trans q1
  cases (State.methodFound?_of_named hnamed hy).symm.trans q2
  cases hnamed.symm.trans q3
  have hselP : selectMethod e.platform s.vm cellB.cls mk = .method mk := by rw [Launch.admits_selectMethod X.admits]; exact q4
  obtain ⟨vm₁, X₁, hstep₁⟩ := X.invokevirtual hexec hown hlink hnamed hmethM hstM hkP hkPi hy (a := b) (cell := cellB) hcell
    (fun z h => by rw [h] at hobj; cases hobj) hselP hmethM habM hkP hkPi (g := g) hg (argsL := argsL) (rest := rest) (hlen _ hsigM) hstack hdg
  rcases hK m meth c ⟨T.setVm vm₁, locs, cells, slots⟩ { g with stack := rest } (.invokevirtual index) mk (Value.ref b :: argsL).toArray X₁ hg hsize hdg hW (X₁.named hnamed) (hpre vm₁ X₁.warmed) with ⟨v, B, X', hpost, hsteps⟩ | ⟨q, B, X', hpost, hsteps⟩
  · exact Or.inl ⟨v, vm₁, B, X₁.warmed, X', hpost, fun target h => hstep₁ _ fun acts => by rw [doInvoke_state]; exact hsteps.trans h⟩
  · exact Or.inr ⟨q, vm₁, B, X₁.warmed, X', hpost, hstep₁ _ fun acts => by rw [doInvoke_state]; exact hsteps⟩
theorem vx_callS (X : Stand p l e R s m args below meth c T locs cells slots) (hexec : p.tables.exec = Jvm.exec) {own : String} {index : Nat} {y : MethodName} {bytes : ByteArray} {maxL : Nat} {ret : Option FieldType}
    (hown : s.vm.findClass own = some m.cls) (hlink : (Cond.methodLink own index y).before args s = true) (hstat : (Cond.static y).before args s = true) (hinit : (Cond.initialized y.cls).before args s = true)
    (hcode : (Cond.code y bytes maxL ret).before args s = true) (hy : y.cls ≠ "java/lang/invoke/MethodHandle" ∧ y.cls ≠ "java/lang/invoke/VarHandle")
    {W9 : Nat} {Pre : Pt → Array Value → Prop} {Post : Pt → Array Value → Option Value → Pt → Prop} {PostX : Pt → Array Value → Addr → Pt → Prop} (hK : vx_Back l R p e below s args y 3 W9 Pre Post PostX)
    {g : JFrame} (hg : g.method = m) (hsize : g.locals.size = c.maxLocals) {argsL rest : List Value} (hlen : ∀ sig, parseMethodDescriptor y.desc = some sig → argsL.length = sig.parameters.length)
    (hstack : g.stack = argsL.reverse ++ rest) (hW : 2 * g.monitorRoom + (rest.map fun v => v.category).sum ≤ W9) (hdg : decode c.code g.pc = .ok (.invokestatic index, 3))
    (hpre : ∀ vm₁, s.WarmedH vm₁ → Pre ⟨T.setVm vm₁, locs, cells, slots⟩ argsL.toArray) :
    (∃ (v : Option Value) (vm₁ : Vm) (B : Pt), s.WarmedH vm₁ ∧ Stand p l e R s m args below meth c B.U B.locs B.cells B.slots ∧ Post ⟨T.setVm vm₁, locs, cells, slots⟩ argsL.toArray v B ∧
      ∀ target, Steps p.tables e below (B.U.setTop { g with pc := g.pc + 3, stack := v.toList ++ rest }) target → Steps p.tables e below (T.setTop g) target) ∨
    (∃ (q : Addr) (vm₁ : Vm) (B : Pt), s.WarmedH vm₁ ∧ Stand p l e R s m args below meth c B.U B.locs B.cells B.slots ∧ PostX ⟨T.setVm vm₁, locs, cells, slots⟩ argsL.toArray q B ∧
      Steps p.tables e below (T.setTop g) ((B.U.setTop { g with stack := rest }).pushFrame (.throwing q))) := by
  obtain ⟨mk, hnamed⟩ := Cond.code_named hcode
  obtain ⟨methM, cM, hmethM, -, -, -, -, -, -, hsigM⟩ := Cond.code_spec hnamed hcode
  have hstatic : methM.isStatic = true := Cond.static_spec hnamed hmethM hstat
  obtain ⟨kP, hkP, -⟩ := className_of_methodNamed hnamed
  have hinitP : kP.init = .initialized := Cond.initialized_spec (findClass_of_methodNamed hnamed) hkP hinit
  obtain ⟨vm₁, X₁, hstep₁⟩ := X.invokestatic hexec hown hlink hnamed hmethM hstatic hkP hinitP hy (g := g) hg (argsL := argsL) (rest := rest) (hlen _ hsigM) hstack hdg
  rcases hK m meth c ⟨T.setVm vm₁, locs, cells, slots⟩ { g with stack := rest } (.invokestatic index) mk argsL.toArray X₁ hg hsize hdg hW (X₁.named hnamed) (hpre vm₁ X₁.warmed) with ⟨v, B, X', hpost, hsteps⟩ | ⟨q, B, X', hpost, hsteps⟩
  · exact Or.inl ⟨v, vm₁, B, X₁.warmed, X', hpost, fun target h => hstep₁ _ fun acts => by rw [doInvoke_state]; exact hsteps.trans h⟩
  · exact Or.inr ⟨q, vm₁, B, X₁.warmed, X', hpost, hstep₁ _ fun acts => by rw [doInvoke_state]; exact hsteps⟩
end Calls
theorem vx_cls {s : State} {T : State} {vm₁ : Vm} {E : String} {k : ClassId} (hW : s.WarmedH vm₁) (h : (T.setVm vm₁).vm.findClass E = some k) : s.vm.findClass E = some k := by
  have h1 : vm₁.findClass E = some k := h
  rw [hW.alike.findClass] at h1
  exact h1
/-- the method's frame g, with q thrown over it -/
def vx_W (p : Program) (l : Launch) (e : Env) (R : Room) (s : State) (m : MethodId) (args : Array Value) (below : List Frame) (meth : Method) (c : Code) (H : Heap) (locs : List Loc) (cells slots : Nat) (Q : State → Prop) (g : JFrame) (q : Addr) : Prop :=
  ∀ T : State, T.heap = H → Stand p l e R s m args below meth c T locs cells slots → ∃ t, Steps p.tables e below ((T.setTop g).pushFrame (.throwing q)) t ∧ Q t
def vx_Run (p : Program) (l : Launch) (e : Env) (R : Room) (s : State) (m : MethodId) (args : Array Value) (below : List Frame) (meth : Method) (c : Code) (H : Heap) (locs : List Loc) (cells slots mc ms : Nat) (g : JFrame) (rest : List Value) (Qa : State → Outcome → State → Prop) (XC : String → State → State → Prop) (free : Addr → Prop) : Prop :=
  ∀ T : State, T.heap = H → Stand p l e R s m args below meth c T locs cells slots →
    (∃ (v : Option Value) (st₀ t T' : State) (L : List Loc), st₀.heap = H ∧ Stand p l e R s m args below meth c T' (locs ++ L) (cells + mc) (slots + ms) ∧ (∀ q ∈ L, free q.base) ∧ T'.heap = t.heap ∧ T'.vm = t.vm ∧ Qa st₀ (.returned v) t ∧
      Goes p e below T g T' { g with pc := g.pc + 3, stack := v.toList ++ rest }) ∨
    (∃ (q : Addr) (st₀ t T' : State) (L : List Loc) (E : String) (ce : Cell), st₀.heap = H ∧ Stand p l e R s m args below meth c T' (locs ++ L) (cells + mc) (slots + ms) ∧ (∀ z ∈ L, free z.base) ∧ T'.heap = t.heap ∧ T'.vm = t.vm ∧ XC E st₀ t ∧ t.heap[q]? = some ce ∧ ce.vm = .none ∧ s.vm.findClass E = some ce.cls ∧
      Steps p.tables e below (T.setTop g) ((T'.setTop { g with stack := rest }).pushFrame (.throwing q)))
def vx_X {S : Type} (px : S → Prop) (B : String → S → State → Prop) (A : Nat → Prop) : String → State → State → Prop := fun E st t => ∃ u : S, px u ∧ B E u t ∧ va_F A st t
section Runs
variable {p : Program} {l : Launch} {e : Env} {R : Room} {s : State} {m : MethodId} {args : Array Value} {below : List Frame} {meth : Method} {c : Code} {H : Heap} {locs : List Loc} {cells slots : Nat}
variable {y : MethodName} {bytes cc : ByteArray} {maxL nL mc ms n index : Nat} {ret : Option FieldType} {ws : List Cond} {rm : Room} {Pc : Array Value → State → Prop} {Qc : Array Value → State → Outcome → State → Prop} {XC : String → State → State → Prop} {free : Addr → Prop} {Ts : List Cond} {own C : String} {b : Addr} {As rest : List Value} {g : JFrame}
theorem vx_callBack (cb : CallB R s args own index y bytes maxL ret ws rm mc ms n) (hM : vx_Met l y ws rm Pc Qc XC mc ms free) (hbl : FrameBlind Pc) : vx_Back l R p e below s args y 3 8 (PreOf R mc ms Pc) (PostOf Qc mc ms free) (vx_Post XC mc ms free) := by
  obtain ⟨hrc, hrs, hfr, hlo, hws, hcw, -, hini, -⟩ := cb
  exact vx_back (bytes := bytes) (maxL := maxL) (ret := ret) hM hbl hrc hrs hfr hlo hws hcw (fun a' U hW => word_at hW (Or.inl (by first | rfl | simp [Cond.onTables, Cond.keeps, Cond.steady])) hini)
theorem vx_runV (S : CallFix p m c cc nL s args Ts own) (hM : vx_Met l y ws rm Pc Qc XC mc ms free) (cw : CallW R s args own C index y bytes maxL ret ws rm mc ms n) (hp : PreV s H C b Pc As)
    (hg : g.method = m) (hn : As.length = n) (hsize : g.locals.size = nL) (hstack : g.stack = As.reverse ++ .ref b :: rest) (hW : 2 * g.monitorRoom + (rest.map fun v => v.category).sum ≤ 8) (hdg : decode cc g.pc = .ok (.invokevirtual index, 3)) (hf : cells + mc ≤ R.cells ∧ slots + ms ≤ R.slots) :
    vx_Run p l e R s m args below meth c H locs cells slots mc ms g rest (Qc (Value.ref b :: As).toArray) XC free := by
  have hK : vx_Back l R p e below s args y 3 8 (PreOf R mc ms Pc) (PostOf Qc mc ms free) (vx_Post XC mc ms free) := vx_callBack cw.1 hM hp.1
  obtain ⟨⟨-, -, -, -, -, -, hcode, -, hy, hlen, hl⟩, hin, hse⟩ := cw
  obtain ⟨hx, hb, hml, ho, -⟩ := S
  obtain ⟨-, ⟨cellB, hcB, hoB, hclB⟩, hPc⟩ := hp
  intro T hT X
  rcases vx_callV X hx (C := C) (bytes := bytes) (maxL := maxL) (ret := ret) ho hl hin hse hcode hy hK (by rw [hT]; exact hcB) hoB hclB hg (hsize.trans hml.symm) (argsL := As) (rest := rest) (fun sig h => hn.trans (hlen sig h)) hstack hW (by rw [hb]; exact hdg)
    (fun vm₁ hW₁ => ⟨hf.1, hf.2, hPc (T.setVm vm₁) hT hW₁⟩) with ⟨v, vm₁, ⟨U', l2, c2, s2⟩, hW₁, X', ⟨g', mk, t, L, e1, e2, hq, h1, hL, h2, h3⟩, st⟩ | ⟨q, vm₁, ⟨U', l2, c2, s2⟩, hW₁, X', ⟨g', mk, t, L, E, ce, e1, e2, hq, hce, hcv, hcl, h1, hL, h2, h3⟩, st⟩
  · dsimp only [Pt.U, Pt.locs, Pt.cells, Pt.slots] at X' e1 e2 h1 h2 h3 st
    subst h1; subst h2; subst h3
    exact Or.inl ⟨v, (T.setVm vm₁).calling g' mk (Value.ref b :: As).toArray, t, U', L, hT, X', hL, e1, e2, hq, st⟩
  · dsimp only [Pt.U, Pt.locs, Pt.cells, Pt.slots] at X' e1 e2 h1 h2 h3 st hcl
    subst h1; subst h2; subst h3
    exact Or.inr ⟨q, (T.setVm vm₁).calling g' mk (Value.ref b :: As).toArray, t, U', L, E, ce, hT, X', hL, e1, e2, hq, hce, hcv, vx_cls hW₁ hcl, st⟩
theorem vx_runS (S : CallFix p m c cc nL s args Ts own) (hM : vx_Met l y ws rm Pc Qc XC mc ms free) (cw : CallB R s args own index y bytes maxL ret ws rm mc ms n ∧ (Cond.static y).before args s = true) (hp : PreS s H Pc As)
    (hg : g.method = m) (hn : As.length = n) (hsize : g.locals.size = nL) (hstack : g.stack = As.reverse ++ rest) (hW : 2 * g.monitorRoom + (rest.map fun v => v.category).sum ≤ 8) (hdg : decode cc g.pc = .ok (.invokestatic index, 3)) (hf : cells + mc ≤ R.cells ∧ slots + ms ≤ R.slots) :
    vx_Run p l e R s m args below meth c H locs cells slots mc ms g rest (Qc As.toArray) XC free := by
  have hK : vx_Back l R p e below s args y 3 8 (PreOf R mc ms Pc) (PostOf Qc mc ms free) (vx_Post XC mc ms free) := vx_callBack cw.1 hM hp.1
  obtain ⟨⟨-, -, -, -, -, -, hcode, hini, hy, hlen, hl⟩, hstt⟩ := cw
  obtain ⟨hx, hb, hml, ho, -⟩ := S
  intro T hT X
  rcases vx_callS X hx (bytes := bytes) (maxL := maxL) (ret := ret) ho hl hstt hini hcode hy hK hg (hsize.trans hml.symm) (argsL := As) (rest := rest) (fun sig h => hn.trans (hlen sig h)) hstack hW (by rw [hb]; exact hdg)
    (fun vm₁ hW₁ => ⟨hf.1, hf.2, hp.2 (T.setVm vm₁) hT hW₁⟩) with ⟨v, vm₁, ⟨U', l2, c2, s2⟩, hW₁, X', ⟨g', mk, t, L, e1, e2, hq, h1, hL, h2, h3⟩, st⟩ | ⟨q, vm₁, ⟨U', l2, c2, s2⟩, hW₁, X', ⟨g', mk, t, L, E, ce, e1, e2, hq, hce, hcv, hcl, h1, hL, h2, h3⟩, st⟩
  · dsimp only [Pt.U, Pt.locs, Pt.cells, Pt.slots] at X' e1 e2 h1 h2 h3 st
    subst h1; subst h2; subst h3
    exact Or.inl ⟨v, (T.setVm vm₁).calling g' mk As.toArray, t, U', L, hT, X', hL, e1, e2, hq, st⟩
  · dsimp only [Pt.U, Pt.locs, Pt.cells, Pt.slots] at X' e1 e2 h1 h2 h3 st hcl
    subst h1; subst h2; subst h3
    exact Or.inr ⟨q, (T.setVm vm₁).calling g' mk As.toArray, t, U', L, E, ce, hT, X', hL, e1, e2, hq, hce, hcv, vx_cls hW₁ hcl, st⟩
end Runs
section Rows
variable {p : Program} {l : Launch} {e : Env} {R : Room} {s : State} {m : MethodId} {args : Array Value} {below : List Frame} {meth : Method} {c : Code} {H : Heap} {locs : List Loc} {cells slots : Nat} {Q : State → Prop}
variable {mc ms : Nat} {free : Addr → Prop} {A0 A1 : Nat → Prop} {H0 : Heap} {a : Array Value} {pc : Nat} {ls : Array Slot} {st0 rest : List Value}
theorem vx_keep {st₀ t T' : State} {L : List Loc} (h0 : st₀.heap = H) (e1 : T'.heap = t.heap) (hS : va_S A0 H0 H locs) (hA : ∀ q, q < H.size → A1 q → A0 q) (hf : ∀ q, free q → A0 q) (hL : ∀ q ∈ L, free q.base) (hF : va_F A1 st₀ t) :
    H.size ≤ T'.heap.size ∧ (∀ q : Nat, q < H.size → ¬ A1 q → T'.heap[q]? = H[q]?) ∧ va_S A0 H0 T'.heap (locs ++ L) := by
  obtain ⟨hz, hk⟩ := hF
  rw [h0] at hz hk
  exact ⟨by rw [e1]; exact hz, fun q h1 h2 => by rw [e1]; exact hk q h1 h2,
    ⟨Nat.le_trans hS.1 (by rw [e1]; exact hz), fun q h1 h2 => by rw [e1, hk q (Nat.lt_of_lt_of_le h1 hS.1) (fun z => h2 (hA q (Nat.lt_of_lt_of_le h1 hS.1) z))]; exact hS.2.1 q h1 h2, fun q hq => by
      rcases List.mem_append.mp hq with h | h
      · exact hS.2.2 q h
      · exact hf _ (hL q h)⟩⟩
theorem vx_calli {S SX : Type} {post : Int32 → S → Prop} {px : SX → Prop} {B : S → State → Prop} {BX : String → SX → State → Prop} {AX : Nat → Prop} (hr : vx_Run p l e R s m args below meth c H locs cells slots mc ms (F0 m pc ls st0) rest (va_Qi post B A1 a) (vx_X px BX AX) free) (hS : va_S A0 H0 H locs) (hA : ∀ q, q < H.size → A1 q → A0 q) (hf : ∀ q, free q → A0 q) (hAX : ∀ q, q < H.size → AX q → A0 q)
    (kx : ∀ (E : String) (ce : Cell) (q9 : Addr) (u : SX) (t : State) (H1 : Heap) (locs1 : List Loc), t.heap = H1 → s.vm.Alike t.vm → px u → BX E u t → H.size ≤ H1.size → (∀ q : Nat, q < H.size → ¬ AX q → H1[q]? = H[q]?) → va_S A0 H0 H1 locs1 → H1[q9]? = some ce → ce.vm = .none → s.vm.findClass E = some ce.cls → vx_W p l e R s m args below meth c H1 locs1 (cells + mc) (slots + ms) Q (F0 m pc ls rest) q9)
    (kk : ∀ (r : Int32) (u : S) (t : State) (H1 : Heap) (locs1 : List Loc), t.heap = H1 → s.vm.Alike t.vm → post r u → B u t → H.size ≤ H1.size → (∀ q : Nat, q < H.size → ¬ A1 q → H1[q]? = H[q]?) → va_S A0 H0 H1 locs1 → W p l e R s m args below meth c H1 locs1 (cells + mc) (slots + ms) Q (F0 m (pc + 3) ls (.int r :: rest))) : W p l e R s m args below meth c H locs cells slots Q (F0 m pc ls st0) := by
  intro T hT X
  rcases hr T hT X with ⟨v, st₀, t, T', L, h0, X', hL, e1, e2, ⟨⟨r, u, hv, hp, hb⟩, hF⟩, st⟩ | ⟨q, st₀, t, T', L, E, ce, h0, X', hL, e1, e2, ⟨u, hp, hb, hF⟩, hce, hcv, hcl, st⟩
  · cases hv
    obtain ⟨k1, k2, k3⟩ := vx_keep h0 e1 hS hA hf hL hF
    obtain ⟨t2, a1, b1⟩ := kk r u t T'.heap (locs ++ L) e1.symm (by rw [← e2]; exact X'.warmed.alike) hp hb k1 k2 k3 T' rfl X'
    exact ⟨t2, st t2 a1, b1⟩
  · obtain ⟨k1, k2, k3⟩ := vx_keep h0 e1 hS hAX hf hL hF
    obtain ⟨t2, a1, b1⟩ := kx E ce q u t T'.heap (locs ++ L) e1.symm (by rw [← e2]; exact X'.warmed.alike) hp hb k1 k2 k3 (by rw [e1]; exact hce) hcv hcl T' rfl X'
    exact ⟨t2, st.trans a1, b1⟩
theorem vx_calll {S SX : Type} {post : Int64 → S → Prop} {px : SX → Prop} {B : S → State → Prop} {BX : String → SX → State → Prop} {AX : Nat → Prop} (hr : vx_Run p l e R s m args below meth c H locs cells slots mc ms (F0 m pc ls st0) rest (va_Ql post B A1 a) (vx_X px BX AX) free) (hS : va_S A0 H0 H locs) (hA : ∀ q, q < H.size → A1 q → A0 q) (hf : ∀ q, free q → A0 q) (hAX : ∀ q, q < H.size → AX q → A0 q)
    (kx : ∀ (E : String) (ce : Cell) (q9 : Addr) (u : SX) (t : State) (H1 : Heap) (locs1 : List Loc), t.heap = H1 → s.vm.Alike t.vm → px u → BX E u t → H.size ≤ H1.size → (∀ q : Nat, q < H.size → ¬ AX q → H1[q]? = H[q]?) → va_S A0 H0 H1 locs1 → H1[q9]? = some ce → ce.vm = .none → s.vm.findClass E = some ce.cls → vx_W p l e R s m args below meth c H1 locs1 (cells + mc) (slots + ms) Q (F0 m pc ls rest) q9)
    (kk : ∀ (r : Int64) (u : S) (t : State) (H1 : Heap) (locs1 : List Loc), t.heap = H1 → s.vm.Alike t.vm → post r u → B u t → H.size ≤ H1.size → (∀ q : Nat, q < H.size → ¬ A1 q → H1[q]? = H[q]?) → va_S A0 H0 H1 locs1 → W p l e R s m args below meth c H1 locs1 (cells + mc) (slots + ms) Q (F0 m (pc + 3) ls (.long r :: rest))) : W p l e R s m args below meth c H locs cells slots Q (F0 m pc ls st0) := by
  intro T hT X
  rcases hr T hT X with ⟨v, st₀, t, T', L, h0, X', hL, e1, e2, ⟨⟨r, u, hv, hp, hb⟩, hF⟩, st⟩ | ⟨q, st₀, t, T', L, E, ce, h0, X', hL, e1, e2, ⟨u, hp, hb, hF⟩, hce, hcv, hcl, st⟩
  · cases hv
    obtain ⟨k1, k2, k3⟩ := vx_keep h0 e1 hS hA hf hL hF
    obtain ⟨t2, a1, b1⟩ := kk r u t T'.heap (locs ++ L) e1.symm (by rw [← e2]; exact X'.warmed.alike) hp hb k1 k2 k3 T' rfl X'
    exact ⟨t2, st t2 a1, b1⟩
  · obtain ⟨k1, k2, k3⟩ := vx_keep h0 e1 hS hAX hf hL hF
    obtain ⟨t2, a1, b1⟩ := kx E ce q u t T'.heap (locs ++ L) e1.symm (by rw [← e2]; exact X'.warmed.alike) hp hb k1 k2 k3 (by rw [e1]; exact hce) hcv hcl T' rfl X'
    exact ⟨t2, st.trans a1, b1⟩
theorem vx_callf {S SX : Type} {post : UInt32 → S → Prop} {px : SX → Prop} {B : S → State → Prop} {BX : String → SX → State → Prop} {AX : Nat → Prop} (hr : vx_Run p l e R s m args below meth c H locs cells slots mc ms (F0 m pc ls st0) rest (va_Qf post B A1 a) (vx_X px BX AX) free) (hS : va_S A0 H0 H locs) (hA : ∀ q, q < H.size → A1 q → A0 q) (hf : ∀ q, free q → A0 q) (hAX : ∀ q, q < H.size → AX q → A0 q)
    (kx : ∀ (E : String) (ce : Cell) (q9 : Addr) (u : SX) (t : State) (H1 : Heap) (locs1 : List Loc), t.heap = H1 → s.vm.Alike t.vm → px u → BX E u t → H.size ≤ H1.size → (∀ q : Nat, q < H.size → ¬ AX q → H1[q]? = H[q]?) → va_S A0 H0 H1 locs1 → H1[q9]? = some ce → ce.vm = .none → s.vm.findClass E = some ce.cls → vx_W p l e R s m args below meth c H1 locs1 (cells + mc) (slots + ms) Q (F0 m pc ls rest) q9)
    (kk : ∀ (r : UInt32) (u : S) (t : State) (H1 : Heap) (locs1 : List Loc), t.heap = H1 → s.vm.Alike t.vm → post r u → B u t → H.size ≤ H1.size → (∀ q : Nat, q < H.size → ¬ A1 q → H1[q]? = H[q]?) → va_S A0 H0 H1 locs1 → W p l e R s m args below meth c H1 locs1 (cells + mc) (slots + ms) Q (F0 m (pc + 3) ls (.float r :: rest))) : W p l e R s m args below meth c H locs cells slots Q (F0 m pc ls st0) := by
  intro T hT X
  rcases hr T hT X with ⟨v, st₀, t, T', L, h0, X', hL, e1, e2, ⟨⟨r, u, hv, hp, hb⟩, hF⟩, st⟩ | ⟨q, st₀, t, T', L, E, ce, h0, X', hL, e1, e2, ⟨u, hp, hb, hF⟩, hce, hcv, hcl, st⟩
  · cases hv
    obtain ⟨k1, k2, k3⟩ := vx_keep h0 e1 hS hA hf hL hF
    obtain ⟨t2, a1, b1⟩ := kk r u t T'.heap (locs ++ L) e1.symm (by rw [← e2]; exact X'.warmed.alike) hp hb k1 k2 k3 T' rfl X'
    exact ⟨t2, st t2 a1, b1⟩
  · obtain ⟨k1, k2, k3⟩ := vx_keep h0 e1 hS hAX hf hL hF
    obtain ⟨t2, a1, b1⟩ := kx E ce q u t T'.heap (locs ++ L) e1.symm (by rw [← e2]; exact X'.warmed.alike) hp hb k1 k2 k3 (by rw [e1]; exact hce) hcv hcl T' rfl X'
    exact ⟨t2, st.trans a1, b1⟩
theorem vx_calld {S SX : Type} {post : UInt64 → S → Prop} {px : SX → Prop} {B : S → State → Prop} {BX : String → SX → State → Prop} {AX : Nat → Prop} (hr : vx_Run p l e R s m args below meth c H locs cells slots mc ms (F0 m pc ls st0) rest (va_Qd post B A1 a) (vx_X px BX AX) free) (hS : va_S A0 H0 H locs) (hA : ∀ q, q < H.size → A1 q → A0 q) (hf : ∀ q, free q → A0 q) (hAX : ∀ q, q < H.size → AX q → A0 q)
    (kx : ∀ (E : String) (ce : Cell) (q9 : Addr) (u : SX) (t : State) (H1 : Heap) (locs1 : List Loc), t.heap = H1 → s.vm.Alike t.vm → px u → BX E u t → H.size ≤ H1.size → (∀ q : Nat, q < H.size → ¬ AX q → H1[q]? = H[q]?) → va_S A0 H0 H1 locs1 → H1[q9]? = some ce → ce.vm = .none → s.vm.findClass E = some ce.cls → vx_W p l e R s m args below meth c H1 locs1 (cells + mc) (slots + ms) Q (F0 m pc ls rest) q9)
    (kk : ∀ (r : UInt64) (u : S) (t : State) (H1 : Heap) (locs1 : List Loc), t.heap = H1 → s.vm.Alike t.vm → post r u → B u t → H.size ≤ H1.size → (∀ q : Nat, q < H.size → ¬ A1 q → H1[q]? = H[q]?) → va_S A0 H0 H1 locs1 → W p l e R s m args below meth c H1 locs1 (cells + mc) (slots + ms) Q (F0 m (pc + 3) ls (.double r :: rest))) : W p l e R s m args below meth c H locs cells slots Q (F0 m pc ls st0) := by
  intro T hT X
  rcases hr T hT X with ⟨v, st₀, t, T', L, h0, X', hL, e1, e2, ⟨⟨r, u, hv, hp, hb⟩, hF⟩, st⟩ | ⟨q, st₀, t, T', L, E, ce, h0, X', hL, e1, e2, ⟨u, hp, hb, hF⟩, hce, hcv, hcl, st⟩
  · cases hv
    obtain ⟨k1, k2, k3⟩ := vx_keep h0 e1 hS hA hf hL hF
    obtain ⟨t2, a1, b1⟩ := kk r u t T'.heap (locs ++ L) e1.symm (by rw [← e2]; exact X'.warmed.alike) hp hb k1 k2 k3 T' rfl X'
    exact ⟨t2, st t2 a1, b1⟩
  · obtain ⟨k1, k2, k3⟩ := vx_keep h0 e1 hS hAX hf hL hF
    obtain ⟨t2, a1, b1⟩ := kx E ce q u t T'.heap (locs ++ L) e1.symm (by rw [← e2]; exact X'.warmed.alike) hp hb k1 k2 k3 (by rw [e1]; exact hce) hcv hcl T' rfl X'
    exact ⟨t2, st.trans a1, b1⟩
theorem vx_callv {S SX : Type} {post : S → Prop} {px : SX → Prop} {B : S → State → Prop} {BX : String → SX → State → Prop} {AX : Nat → Prop} (hr : vx_Run p l e R s m args below meth c H locs cells slots mc ms (F0 m pc ls st0) rest (va_Qv post B A1 a) (vx_X px BX AX) free) (hS : va_S A0 H0 H locs) (hA : ∀ q, q < H.size → A1 q → A0 q) (hf : ∀ q, free q → A0 q) (hAX : ∀ q, q < H.size → AX q → A0 q)
    (kx : ∀ (E : String) (ce : Cell) (q9 : Addr) (u : SX) (t : State) (H1 : Heap) (locs1 : List Loc), t.heap = H1 → s.vm.Alike t.vm → px u → BX E u t → H.size ≤ H1.size → (∀ q : Nat, q < H.size → ¬ AX q → H1[q]? = H[q]?) → va_S A0 H0 H1 locs1 → H1[q9]? = some ce → ce.vm = .none → s.vm.findClass E = some ce.cls → vx_W p l e R s m args below meth c H1 locs1 (cells + mc) (slots + ms) Q (F0 m pc ls rest) q9)
    (kk : ∀ (u : S) (t : State) (H1 : Heap) (locs1 : List Loc), t.heap = H1 → s.vm.Alike t.vm → post u → B u t → H.size ≤ H1.size → (∀ q : Nat, q < H.size → ¬ A1 q → H1[q]? = H[q]?) → va_S A0 H0 H1 locs1 → W p l e R s m args below meth c H1 locs1 (cells + mc) (slots + ms) Q (F0 m (pc + 3) ls (rest))) : W p l e R s m args below meth c H locs cells slots Q (F0 m pc ls st0) := by
  intro T hT X
  rcases hr T hT X with ⟨v, st₀, t, T', L, h0, X', hL, e1, e2, ⟨⟨u, hv, hp, hb⟩, hF⟩, st⟩ | ⟨q, st₀, t, T', L, E, ce, h0, X', hL, e1, e2, ⟨u, hp, hb, hF⟩, hce, hcv, hcl, st⟩
  · cases hv
    obtain ⟨k1, k2, k3⟩ := vx_keep h0 e1 hS hA hf hL hF
    obtain ⟨t2, a1, b1⟩ := kk u t T'.heap (locs ++ L) e1.symm (by rw [← e2]; exact X'.warmed.alike) hp hb k1 k2 k3 T' rfl X'
    exact ⟨t2, st t2 a1, b1⟩
  · obtain ⟨k1, k2, k3⟩ := vx_keep h0 e1 hS hAX hf hL hF
    obtain ⟨t2, a1, b1⟩ := kx E ce q u t T'.heap (locs ++ L) e1.symm (by rw [← e2]; exact X'.warmed.alike) hp hb k1 k2 k3 (by rw [e1]; exact hce) hcv hcl T' rfl X'
    exact ⟨t2, st.trans a1, b1⟩
/-- caught by the row x of this method's table; the rows ahead don't take it -/
theorem vx_catch {own name : String} {E : String} {ce : Cell} {q : Addr} (hown : s.vm.findClass own = some m.cls) (pre : List ExceptionTableEntry) (x : ExceptionTableEntry) (suf : List ExceptionTableEntry) (hsplit : c.exceptionTable.toList = pre ++ x :: suf)
    (hpass : ∀ z ∈ pre, covers z pc = false ∨ (z.catchType ≠ 0 ∧ ∃ nm : String, (Cond.classLink own z.catchType nm).before args s = true ∧ va_Nc E nm s)) (hx : covers x pc = true) (h0 : x.catchType ≠ 0)
    (hlink : (Cond.classLink own x.catchType name).before args s = true) (hcast : (Cond.castable E name).before args s = true) (hcell : H[q]? = some ce) (hv : ce.vm = .none) (hcl : s.vm.findClass E = some ce.cls)
    (kk : W p l e R s m args below meth c H locs cells slots Q (F0 m x.handlerPc ls [.ref q])) : vx_W p l e R s m args below meth c H locs cells slots Q (F0 m pc ls rest) q := by
  intro T hT X
  have hpl : e.platform.magicAccessors = ({} : Platform).magicAccessors := by rw [X.admits.platform]
  obtain ⟨c3, c4, hc3, hc4, hasg⟩ := Cond.castable_spec hcast
  cases Option.some.inj (hc3.symm.trans hcl)
  obtain ⟨c5, hc5, hcl5⟩ := Cond.classLink_spec hown hlink e.platform hpl
  cases Option.some.inj (hc4.symm.trans hc5)
  obtain ⟨vm', X', st⟩ := X.thenCaughtThrough q (g := F0 m pc ls rest) rfl (Steps.refl _) (by rw [hT]; exact hcell) (by rw [hv]; rfl) (by obtain ⟨k9, h9, -⟩ := Vm.findClass_spec hcl; exact ⟨k9, h9⟩) pre x suf hsplit
    (fun z hz => by
      rcases hpass z hz with h | ⟨hz0, nm, hl1, hn1⟩
      · exact Or.inl h
      · obtain ⟨c6, hc6, hcl6⟩ := Cond.classLink_spec hown hl1 e.platform hpl
        obtain ⟨a8, b8, h1, h2, h3⟩ := hn1
        cases Option.some.inj (h1.symm.trans hcl)
        cases Option.some.inj (h2.symm.trans hc6)
        exact Or.inr ⟨hz0, _, hcl6, h3⟩) hx (Or.inr ⟨h0, c4, hcl5, hasg⟩)
  obtain ⟨t, a1, b1⟩ := kk (T.setVm vm') hT X'
  exact ⟨t, st.trans a1, b1⟩
end Rows
section Ends
variable {p : Program} {l : Launch} {e : Env} {R : Room} {s : State} {m : MethodId} {args : Array Value} {below : List Frame} {meth : Method} {c : Code} {H : Heap} {locs : List Loc} {cells slots : Nat} {Q : State → Prop}
variable {mc ms : Nat} {free : Addr → Prop} {A0 A1 : Nat → Prop} {H0 : Heap} {a : Array Value} {ls : Array Slot} {st0 rest : List Value}
variable {Qc : Array Value → State → Outcome → State → Prop} {XC : String → State → State → Prop}
/-- what a body that may throw owes at its end -/
def vx_MQ (below : List Frame) (Qc : Array Value → State → Outcome → State → Prop) (XC : String → State → State → Prop) (a : Array Value) (s : State) (mc ms : Nat) (free : Addr → Prop) : State → Prop := fun t =>
  ∃ o, t.status = .running ∧ Ended t below o ∧ vx_Q Qc XC mc ms free a s o t
theorem vx_ret {g : JFrame} {mc ms : Nat} (k : W p l e R s m args below meth c H locs cells slots (MQ below Qc args s mc ms free) g) : W p l e R s m args below meth c H locs cells slots (vx_MQ below Qc XC args s mc ms free) g := by
  intro T hT X
  obtain ⟨t, a1, o, b1, b2, b3, b4⟩ := k T hT X
  exact ⟨t, a1, o, b1, b2, Or.inl ⟨b3, b4⟩⟩
/-- not caught here: it goes on to the caller -/
theorem vx_widen {g : JFrame} {q : Addr} {k n : Nat} (h1 : cells ≤ k) (h2 : slots ≤ n) (kk : vx_W p l e R s m args below meth c H locs k n Q g q) : vx_W p l e R s m args below meth c H locs cells slots Q g q := fun T hT X => kk T hT (stand_widen X h1 h2)
theorem vx_out {pc : Nat} {E : String} {ce : Cell} {q : Addr} {mc ms : Nat} (hout : ∀ x ∈ c.exceptionTable.toList, covers x pc = false) (hlocks : meth.locks = false) (hcell : H[q]? = some ce) (hv : ce.vm = .none) (hcl : s.vm.findClass E = some ce.cls)
    (hx : ∀ t : State, t.heap = H → s.vm.Alike t.vm → XC E s t) (hf : ∀ z ∈ locs, free z.base) (hc : cells ≤ mc) (hs : slots ≤ ms) :
    vx_W p l e R s m args below meth c H locs cells slots (vx_MQ below Qc XC args s mc ms free) (F0 m pc ls rest) q := by
  intro T hT X
  obtain ⟨st1, hrun, hend, hW, hsm⟩ := X.leaveThrown q (g := F0 m pc ls rest) rfl rfl rfl hout hlocks
  have hcell9 : (T.setFrames (.throwing q :: below)).heap[q]? = some ce := by
    show T.heap[q]? = some ce
    rw [hT]; exact hcell
  exact ⟨_, st1, .threw q, hrun, hend, Or.inr ⟨q, rfl, E, ce, locs, hx _ hT hW.alike, hcell9, hv, hcl, hW, hsm.mono hc hs, hf⟩⟩
theorem vx_frame {U : State} {k n : Nat} (h : s.sameButNew ({ U with vm := s.vm } : State) locs k n) : s.heap.size ≤ U.heap.size ∧ ∀ q : Nat, q < s.heap.size → (∀ z ∈ locs, z.base ≠ q) → U.heap[q]? = s.heap[q]? := by
  obtain ⟨-, h2, -, -, -, h6⟩ := h
  refine ⟨h2, fun q hq hz => ?_⟩
  obtain ⟨c9, e1, e2, e3, e4⟩ := h6 q _ (Array.getElem?_eq_getElem hq)
  have hs : c9.slots = (s.heap[q]).slots := Array.ext_getElem? fun i => e4 i fun hm => hz _ hm rfl
  have h9 : c9 = s.heap[q] := by
    rw [hs] at e2
    exact e2
  have e5 : U.heap[q]? = some c9 := e1
  rw [e5, h9, Array.getElem?_eq_getElem hq]
/-- the words of a throw but the four that speak of the heap -/
def vx_no (w : Cond) : Bool := decide (w ≠ .isRef (.static Bundle.tN "UNASSIGNED_STACK" Bundle.steD)) && decide (w ≠ .isRef (.static Bundle.tN "SUPPRESSED_SENTINEL" Bundle.listD)) && decide (w ≠ .laysStatic Bundle.tN "UNASSIGNED_STACK" Bundle.steD) && decide (w ≠ .laysStatic Bundle.tN "SUPPRESSED_SENTINEL" Bundle.listD)
def vx_at0 (own : String) (ic : Nat) (X : String) (names : List String) : List Cond := (Bundle.ownAtoms0 own ic X names).filter vx_no
def vx_atS (own : String) (ic : Nat) (X : String) (names : List String) : List Cond := (Bundle.ownAtoms own ic X names).filter vx_no
/-- a word that the tables alone decide, or a good one -/
def vx_ot (w : Cond) : Bool := w.onTables || goodWord w
theorem vx_ot_at {args a' : Array Value} {s U : State} {w : Cond} (hW : s.WarmedH U.vm) (hvm : s.vm = U.vm) (hg : vx_ot w = true) (h : w.before args s = true) : w.before a' U = true := by
  simp only [vx_ot, Bool.or_eq_true] at hg
  rcases hg with hg | hg
  · exact va_tabs hg hvm h
  · exact word_at hW (good_of_word hg) h
/-- a list's words: the good ones out of the method's own list, the others by premises of their own -/
theorem vx_hat {args : Array Value} {s : State} {L B : List Cond} (h1 : ∀ w ∈ L.filter goodWord, w.before args s = true) (h2 : ∀ w ∈ L.filter (fun w => !goodWord w), w ∈ B) (h3 : ∀ w ∈ B, w.before args s = true) : ∀ w ∈ L, w.before args s = true := by
  intro w hw
  by_cases g : goodWord w = true
  · exact h1 w (List.mem_filter.mpr ⟨hw, g⟩)
  · refine h3 w (h2 w (List.mem_filter.mpr ⟨hw, ?_⟩))
    show (!goodWord w) = true
    cases hgw : goodWord w
    · rfl
    · exact absurd hgw g
theorem vx_c {args : Array Value} {s : State} {w : Cond} {B : List Cond} (h : w.before args s = true) (t : ∀ w ∈ B, w.before args s = true) : ∀ w' ∈ w :: B, w'.before args s = true := fun w' h' => (List.mem_cons.mp h').elim (fun e => by rw [e]; exact h) (t w')
theorem vx_n {args : Array Value} {s : State} : ∀ w ∈ ([] : List Cond), w.before args s = true := fun _ h => nomatch h
theorem vx_own {args : Array Value} {s : State} {L : List Cond} (h1 : ∀ w ∈ L.filter vx_no, w.before args s = true)
    (hU : (Cond.isRef (.static Bundle.tN "UNASSIGNED_STACK" Bundle.steD)).before args s = true) (hN : (Cond.isRef (.static Bundle.tN "SUPPRESSED_SENTINEL" Bundle.listD)).before args s = true)
    (lU : (Cond.laysStatic Bundle.tN "UNASSIGNED_STACK" Bundle.steD).before args s = true) (lN : (Cond.laysStatic Bundle.tN "SUPPRESSED_SENTINEL" Bundle.listD).before args s = true) : ∀ w ∈ L, w.before args s = true := by
  intro w hw
  by_cases e1 : w = .isRef (.static Bundle.tN "UNASSIGNED_STACK" Bundle.steD)
  · rw [e1]; exact hU
  · by_cases e2 : w = .isRef (.static Bundle.tN "SUPPRESSED_SENTINEL" Bundle.listD)
    · rw [e2]; exact hN
    · by_cases e3 : w = .laysStatic Bundle.tN "UNASSIGNED_STACK" Bundle.steD
      · rw [e3]; exact lU
      · by_cases e4 : w = .laysStatic Bundle.tN "SUPPRESSED_SENTINEL" Bundle.listD
        · rw [e4]; exact lN
        · exact h1 w (List.mem_filter.mpr ⟨hw, by unfold vx_no; rw [decide_eq_true e1, decide_eq_true e2, decide_eq_true e3, decide_eq_true e4]; rfl⟩)
/-- where a static field lies, its class's statics cell in H -/
def vx_L (C n d : String) (A : Nat → Prop) (U : State) (H : Heap) : Prop := ∃ (c : ClassId) (k : Class) (i : Nat) (f : Field) (a : Nat) (cell : Cell), U.vm.findClass C = some c ∧ U.fieldFound? C n d = some (c, k, i, f) ∧ f.isStatic = true ∧ k.statics = some a ∧ H[a]? = some cell ∧ cell.vm.isStatics = true ∧ cell.cls = c ∧ f.slot < cell.slots.size ∧ k.staticTypes[f.slot]? = some f.type ∧ ¬ A a
theorem vx_L.moved {C n d : String} {A : Nat → Prop} {u U : State} {H : Heap} (hvm : u.vm.Alike U.vm) (h : vx_L C n d A u H) : vx_L C n d A U H := by
  obtain ⟨c, k, i, f, a, cell, h1, h2, h3, h4, h5, h6, h7, h8, h9, h10⟩ := h
  obtain ⟨k', hi', he⟩ := State.fieldFound?_setVm hvm h2
  exact ⟨c, k', i, f, a, cell, by rw [hvm.findClass]; exact h1, hi', h3, by rw [he]; exact h4, h5, h6, h7, h8, by rw [he]; exact h9, h10⟩
theorem vx_L.kept {C n d : String} {A : Nat → Prop} {U : State} {H H1 : Heap} (h : vx_L C n d A U H) (hq : ∀ a : Nat, a < H.size → ¬ A a → H1[a]? = H[a]?) : vx_L C n d A U H1 := by
  obtain ⟨c, k, i, f, a, cell, h1, h2, h3, h4, h5, h6, h7, h8, h9, h10⟩ := h
  exact ⟨c, k, i, f, a, cell, h1, h2, h3, h4, by rw [hq a (Array.getElem?_eq_some_iff.mp h5).1 h10]; exact h5, h6, h7, h8, h9, h10⟩
theorem vx_L.narrow {C n d : String} {A B : Nat → Prop} {U : State} {H : Heap} (h : vx_L C n d A U H) (hAB : ∀ q, B q → A q) : vx_L C n d B U H := by
  obtain ⟨c, k, i, f, a, cell, h1, h2, h3, h4, h5, h6, h7, h8, h9, h10⟩ := h
  exact ⟨c, k, i, f, a, cell, h1, h2, h3, h4, h5, h6, h7, h8, h9, fun z => h10 (hAB _ z)⟩
theorem vx_L.word {C n d : String} {A : Nat → Prop} {s : State} {args : Array Value} (h : vx_L C n d A s s.heap) : (Cond.laysStatic C n d).before args s = true := by
  obtain ⟨c, k, i, f, a, cell, h1, h2, h3, h4, h5, h6, h7, h8, h9, -⟩ := h
  show (Cond.laysStatic C n d).holds args s none s [] = true
  exact Cond.laysStatic_of h1 h2 h3 h4 h5 h6 h7 h8 h9
/-- .. and what it holds: null or some reference -/
def vx_Zq (C n d : String) (A : Nat → Prop) (U : State) (H : Heap) : Prop := va_Zq C n d A U H ∧ vx_L C n d A U H
theorem vx_Zq.moved {C n d : String} {A : Nat → Prop} {u U : State} {H : Heap} (hvm : u.vm.Alike U.vm) (h : vx_Zq C n d A u H) : vx_Zq C n d A U H := ⟨va_Zq.moved hvm h.1, vx_L.moved hvm h.2⟩
theorem vx_Zq.kept {C n d : String} {A : Nat → Prop} {U : State} {H H1 : Heap} (h : vx_Zq C n d A U H) (hq : ∀ a : Nat, a < H.size → ¬ A a → H1[a]? = H[a]?) : vx_Zq C n d A U H1 := ⟨va_Zq.kept h.1 hq, vx_L.kept h.2 hq⟩
theorem vx_Zq.narrow {C n d : String} {A B : Nat → Prop} {U : State} {H : Heap} (h : vx_Zq C n d A U H) (hAB : ∀ q, B q → A q) : vx_Zq C n d B U H := ⟨va_Zq.narrow h.1 hAB, vx_L.narrow h.2 hAB⟩
theorem vx_Zqof {args : Array Value} {s : State} {C n d : String} {A : Nat → Prop} (hl : (Cond.laysStatic C n d).before args s = true) (hini : (Cond.initialized C).before args s = true) (h : (Cond.isRef (.static C n d)).before args s = true) (hA : ∀ a : Nat, a < s.heap.size → ¬ A a) : vx_Zq C n d A s s.heap := by
  refine ⟨va_Zqof hl hini h hA, ?_⟩
  obtain ⟨c, k, i, f, a, cell, h1, h2, h3, h4, h5, h6, h7, h8, h9⟩ := Cond.laysStatic_spec hl
  exact ⟨c, k, i, f, a, cell, h1, h2, h3, h4, h5, h6, h7, h8, h9, hA a (Array.getElem?_eq_some_iff.mp h5).1⟩
theorem vx_isRef {C n d : String} {v : Value} {A : Nat → Prop} {s : State} {args : Array Value} (h : va_Z C n d v A s s.heap) (hv : v.isRef = true) : (Cond.isRef (.static C n d)).before args s = true := by
  obtain ⟨cf, kf, fi, f, a, cell, h1, h2, h3, h4, h5, h6, h7, -⟩ := h
  have he : (Term.static C n d).eval args s none [] s = some v := by
    simp [Term.eval, State.fieldNamed?, h1, h2, h4, h5, h6, h7]
  simp only [Cond.before, Cond.holds, Cond.value, he]
  cases v <;> simp_all [Value.isRef]
theorem vx_isRefq {C n d : String} {A : Nat → Prop} {s : State} {args : Array Value} (h : va_Zq C n d A s s.heap) : (Cond.isRef (.static C n d)).before args s = true := by
  rcases h with h | ⟨t, h⟩
  · exact vx_isRef h rfl
  · exact vx_isRef h rfl
/-- the same frame, seen from here: as if the method were called anew in this heap -/
theorem vx_rebase {T : State} (X : Stand p l e R s m args below meth c T locs cells slots) {R' : Room} (hf : R'.frames ≤ R.frames) (hl : R'.locals ≤ R.locals) (hc : cells + R'.cells ≤ R.cells) (hs : slots + R'.slots ≤ R.slots) :
    Stand p l e R' ((T.setVm s.vm).setFrames (.invoking m args :: below)) m args below meth c T [] 0 0 := by
  have htop : (T.setVm s.vm).topJava?.isSome := X.here.top
  have hF : ((T.setVm s.vm).setFrames (.invoking m args :: below)).frames = .invoking m args :: below := State.frames_setFrames _ (State.cur_lt_of_top htop)
  obtain ⟨g₀, hg0⟩ := Option.isSome_iff_exists.mp htop
  obtain ⟨r, hr⟩ := State.topJava?_eq_some.mp hg0
  have hl9 : e.platform.stackLimits (T.setVm s.vm).me = e.platform.stackLimits s.me := X.limits
  have hb9 : (T.setVm s.vm).me.stackBytes = s.me.stackBytes := X.bytes
  refine ⟨X.admits, X.cas, X.clock, hF, ?_, X.hears, X.method, X.code, X.here, X.tail, X.warmed, ?_, ?_, ?_⟩
  · have h := X.room
    have hU : ((T.setVm s.vm).setFrames (.invoking m args :: below)).localsInUse = s.localsInUse := by
      rw [State.localsInUse_invoking hF (meth := meth) (c := c) X.method X.code, State.localsInUse_invoking X.frames X.method X.code]
    simp only [State.hasRoom, Bool.and_eq_true, decide_eq_true_eq] at h ⊢
    obtain ⟨⟨⟨⟨h1, h2, h3, h4, h5, h6⟩, h7⟩, h8⟩, h9⟩ := h
    rw [X.frames, List.length_cons] at h2 h3
    have q1 := X.heapSize
    have q2 := X.used
    simp only [hF, hU, List.length_cons, State.stackLimits_setFrames, State.stackBytes_setFrames, hl9, hb9]
    refine ⟨⟨⟨⟨by omega, by omega, by omega, by omega, by omega, h6⟩, ?_⟩, ?_⟩, X.book⟩
    · show T.heap.size + R'.cells ≤ e.platform.maxCells
      omega
    · show T.slotsUsed + R'.slots ≤ e.platform.maxSlots
      omega
  · rw [State.stackLimits_setFrames]; rfl
  · rw [State.stackBytes_setFrames]; rfl
  · refine ⟨?_, Nat.le_refl _, Nat.le_refl _, ?_, ?_, fun a c9 h9 => ⟨c9, h9, rfl, rfl, fun _ _ => rfl⟩⟩
    · obtain ⟨t, ht, -⟩ := State.frames_cons hr
      show T.setVm s.vm = { ((T.setVm s.vm).setFrames (.invoking m args :: below)).setFrames (T.setVm s.vm).frames with heap := T.heap, slotsUsed := T.slotsUsed }
      rw [State.setFrames_setFrames, State.setFrames_self ht]
      rfl
    · show T.slotsUsed = T.slotsUsed + ((T.heap.toList.drop T.heap.size).map (·.slots.size)).sum
      rw [List.drop_eq_nil_of_le (Nat.le_of_eq Array.length_toList)]
      rfl
    · show ((T.heap.toList.drop T.heap.size).map (·.slots.size)).sum ≤ 0
      rw [List.drop_eq_nil_of_le (Nat.le_of_eq Array.length_toList)]
      exact Nat.le_refl _
/-- 'throw new E()': new; dup; invokespecial; athrow -/
theorem vx_throw0 {cc : ByteArray} {pc : Nat} (hexec : p.tables.exec = Jvm.exec) (hb : c.code = cc) (hl : l.stackTraces = false) {own cls : String} {names : List String} {ik ic mc ms : Nat} {A : Nat → Prop}
    (hown : s.vm.findClass own = some m.cls) (hcls : Bundle.fit cls = true) (hnames : ∀ n ∈ names, Bundle.fit n = true)
    (hk : (Cond.classLink own ik cls).before args s = true) (hini : (Cond.initialized cls).before args s = true) (hat : ∀ w ∈ vx_at0 own ic cls names, w.before args s = true)
    (hgood : ∀ w ∈ Cond.classLink own ik cls :: Cond.initialized cls :: vx_at0 own ic cls names, vx_ot w = true)
    (hU : vx_Zq Bundle.tN "UNASSIGNED_STACK" Bundle.steD A s s.heap) (hN : vx_Zq Bundle.tN "SUPPRESSED_SENTINEL" Bundle.listD A s s.heap) (hS : va_S A s.heap H locs) (hsize : ls.size = c.maxLocals)
    (d0 : decode cc pc = .ok (.new ik, 3)) (d3 : decode cc (pc + 3) = .ok (.dup, 1)) (d4 : decode cc (pc + 4) = .ok (.invokespecial ic, 3)) (d7 : decode cc (pc + 7) = .ok (.athrow, 1))
    (hout : ∀ x ∈ c.exceptionTable.toList, covers x (pc + 7) = false)
    (hRframes : names.length + 3 < R.frames) (hRlocals : (rest.map fun v => v.category).sum + (13 * (names.length + 1) + 42) ≤ R.locals) (hRcells : cells + 1 ≤ R.cells) (hRslots : slots + 6 ≤ R.slots) (hlocks : meth.locks = false)
    (hx : ∀ t : State, s.vm.Alike t.vm → H.size ≤ t.heap.size → (∀ q : Nat, q < H.size → t.heap[q]? = H[q]?) → XC cls s t)
    (hf : ∀ z ∈ locs, free z.base) (hc : cells + 1 ≤ mc) (hs : slots + 6 ≤ ms) :
    W p l e R s m args below meth c H locs cells slots (vx_MQ below Qc XC args s mc ms free) (F0 m pc ls rest) := by
  intro T hT X
  have htr : e.platform.stackTraces = false := (show e.platform.stackTraces = l.stackTraces by rw [X.admits.platform]).trans hl
  have Y := vx_rebase X (R' := { frames := R.frames, locals := R.locals, cells := 1, slots := 6 }) (Nat.le_refl _) (Nat.le_refl _) hRcells hRslots
  obtain ⟨s', hA⟩ : ∃ z, z = (T.setVm s.vm).setFrames (.invoking m args :: below) := ⟨_, rfl⟩
  rw [← hA] at Y
  have hvm : s'.vm = s.vm := by rw [hA]; rfl
  have hhp : s'.heap = H := by rw [hA]; exact hT
  have hW0 : s.WarmedH s'.vm := by rw [hvm]; exact State.WarmedH.refl s
  have hat' : ∀ w ∈ vx_at0 own ic cls names, w.before args s' = true := fun w hw => vx_ot_at hW0 hvm.symm (hgood w (List.mem_cons_of_mem _ (List.mem_cons_of_mem _ hw))) (hat w hw)
  have hk' : (Cond.classLink own ik cls).before args s' = true := vx_ot_at hW0 hvm.symm (hgood _ List.mem_cons_self) hk
  have hini' : (Cond.initialized cls).before args s' = true := vx_ot_at hW0 hvm.symm (hgood _ (List.mem_cons_of_mem _ List.mem_cons_self)) hini
  have hU' : vx_Zq Bundle.tN "UNASSIGNED_STACK" Bundle.steD A s' s'.heap := by rw [hhp]; exact vx_Zq.moved hW0.alike (hU.kept hS.2.1)
  have hN' : vx_Zq Bundle.tN "SUPPRESSED_SENTINEL" Bundle.listD A s' s'.heap := by rw [hhp]; exact vx_Zq.moved hW0.alike (hN.kept hS.2.1)
  have h : ∀ w ∈ Bundle.ownAtoms0 own ic cls names, w.before args s' = true := vx_own hat' (vx_isRefq hU'.1) (vx_isRefq hN'.1) hU'.2.word hN'.2.word
  have hown' : s'.vm.findClass own = some m.cls := by rw [hvm]; exact hown
  have hins : (Cond.instantiable cls 6).before args s' = true := h _ (by simp [Bundle.ownAtoms0])
  obtain ⟨vm₁, cX, kX, hfX, hkX, -, -, X₁, st1⟩ := Y.newCold hexec (own := own) (C := cls) (index := ik) (n := 6) hown' hk' hins hini'
    (g := F0 m pc ls rest) rfl (by rw [hb]; exact d0) (Nat.le_refl _) (Nat.le_refl _)
  generalize hT1 : (T.setVm vm₁).pushCell { cls := cX, slots := kX.instanceTypes.map defaultValue, vm := .none } = T1 at X₁ st1
  have hcat : (Value.ref T.heap.size).category = 1 := rfl
  have hcellA : T1.heap[T.heap.size]? = some (freshCell cX kX) := by rw [← hT1]; exact State.heap_pushCell_size _ _
  have d3' : decode c.code (pc + 3) = .ok (.dup, 1) := by rw [hb]; exact d3
  obtain ⟨U, hsteps, hrun, hend, hW, hsame, ce, hce, hO⟩ := X₁.ctorThrow0 hexec htr (own := own) (cls := cls) (names := names) (ic := ic) hown' hcls hnames h (fun x hx => nomatch hx) hfX hkX hcellA (by rw [hhp, hT]; exact Nat.le_refl _)
    (g := { method := m, pc := pc + 4, locals := ls, stack := .ref T.heap.size :: .ref T.heap.size :: rest, locked := none }) rfl hsize rfl rfl (rest := rest) rfl
    (by rw [hb]; exact d4) (by rw [hb]; exact d7) hout hRframes (by simp only [List.map_cons, List.sum_cons, hcat]; omega) hlocks
  obtain ⟨f1, f2⟩ := vx_frame hsame
  rw [hhp] at f1 f2
  have hWs : s.WarmedH U.vm := State.WarmedH.trans hW0 hW
  have hcl : s.vm.findClass cls = some ce.cls := by
    have h9 := hO.cls
    rw [hvm] at h9
    exact h9
  have hall : s.sameButNew ({ U with vm := s.vm } : State) locs mc ms := by
    subst hA
    obtain ⟨e1, e2⟩ := hsame
    rw [State.setFrames_setFrames] at e1
    have h2 : (T.setVm s.vm).sameButNew ({ U with vm := s.vm } : State) [] (0 + 1) (0 + 6) := ⟨e1, e2⟩
    have h3 := X.same.trans h2
    rw [List.append_nil] at h3
    exact h3.mono hc hs
  refine ⟨U, ?_, .threw T.heap.size, hrun, hend, Or.inr ⟨T.heap.size, rfl, cls, ce, locs, hx U hWs.alike f1 (fun q hq => f2 q hq (fun z hz => nomatch hz)), hce, hO.vm, hcl, hWs, hall, hf⟩⟩
  refine st1 _ ?_
  show Steps p.tables e below (T1.setTop { method := m, pc := pc + 3, locals := ls, stack := .ref T.heap.size :: rest, locked := none }) _
  jvm_step X₁.here [X₁.here.top, hexec, d3', Value.category]
  exact hsteps
/-- 'throw new E("text")': new; dup; ldc; invokespecial; athrow -/
theorem vx_throwS {cc : ByteArray} {pc : Nat} (hexec : p.tables.exec = Jvm.exec) (hb : c.code = cc) (hl : l.stackTraces = false) {own cls text : String} {names : List String} {ik is ic mc ms sa : Nat} {A : Nat → Prop}
    (hown : s.vm.findClass own = some m.cls) (hcls : Bundle.fit cls = true) (hnames : ∀ n ∈ names, Bundle.fit n = true)
    (hk : (Cond.classLink own ik cls).before args s = true) (hini : (Cond.initialized cls).before args s = true) (hstr : vk_R own is text sa s) (hat : ∀ w ∈ vx_atS own ic cls names, w.before args s = true)
    (hgood : ∀ w ∈ Cond.classLink own ik cls :: Cond.initialized cls :: vx_atS own ic cls names, vx_ot w = true)
    (hU : vx_Zq Bundle.tN "UNASSIGNED_STACK" Bundle.steD A s s.heap) (hN : vx_Zq Bundle.tN "SUPPRESSED_SENTINEL" Bundle.listD A s s.heap) (hS : va_S A s.heap H locs) (hsize : ls.size = c.maxLocals)
    (d0 : decode cc pc = .ok (.new ik, 3)) (d3 : decode cc (pc + 3) = .ok (.dup, 1)) (d4 : decode cc (pc + 4) = .ok (.ldc is, 2)) (d6 : decode cc (pc + 6) = .ok (.invokespecial ic, 3)) (d9 : decode cc (pc + 9) = .ok (.athrow, 1))
    (hout : ∀ x ∈ c.exceptionTable.toList, covers x (pc + 9) = false)
    (hRframes : names.length + 3 < R.frames) (hRlocals : (rest.map fun v => v.category).sum + (13 * (names.length + 1) + 43) ≤ R.locals) (hRcells : cells + 1 ≤ R.cells) (hRslots : slots + 6 ≤ R.slots) (hlocks : meth.locks = false)
    (hx : ∀ t : State, s.vm.Alike t.vm → H.size ≤ t.heap.size → (∀ q : Nat, q < H.size → t.heap[q]? = H[q]?) → XC cls s t)
    (hf : ∀ z ∈ locs, free z.base) (hc : cells + 1 ≤ mc) (hs : slots + 6 ≤ ms) :
    W p l e R s m args below meth c H locs cells slots (vx_MQ below Qc XC args s mc ms free) (F0 m pc ls rest) := by
  intro T hT X
  have htr : e.platform.stackTraces = false := (show e.platform.stackTraces = l.stackTraces by rw [X.admits.platform]).trans hl
  have Y := vx_rebase X (R' := { frames := R.frames, locals := R.locals, cells := 1, slots := 6 }) (Nat.le_refl _) (Nat.le_refl _) hRcells hRslots
  obtain ⟨s', hA⟩ : ∃ z, z = (T.setVm s.vm).setFrames (.invoking m args :: below) := ⟨_, rfl⟩
  rw [← hA] at Y
  have hvm : s'.vm = s.vm := by rw [hA]; rfl
  have hhp : s'.heap = H := by rw [hA]; exact hT
  have hW0 : s.WarmedH s'.vm := by rw [hvm]; exact State.WarmedH.refl s
  have hat' : ∀ w ∈ vx_atS own ic cls names, w.before args s' = true := fun w hw => vx_ot_at hW0 hvm.symm (hgood w (List.mem_cons_of_mem _ (List.mem_cons_of_mem _ hw))) (hat w hw)
  have hk' : (Cond.classLink own ik cls).before args s' = true := vx_ot_at hW0 hvm.symm (hgood _ List.mem_cons_self) hk
  have hini' : (Cond.initialized cls).before args s' = true := vx_ot_at hW0 hvm.symm (hgood _ (List.mem_cons_of_mem _ List.mem_cons_self)) hini
  have hU' : vx_Zq Bundle.tN "UNASSIGNED_STACK" Bundle.steD A s' s'.heap := by rw [hhp]; exact vx_Zq.moved hW0.alike (hU.kept hS.2.1)
  have hN' : vx_Zq Bundle.tN "SUPPRESSED_SENTINEL" Bundle.listD A s' s'.heap := by rw [hhp]; exact vx_Zq.moved hW0.alike (hN.kept hS.2.1)
  have h : ∀ w ∈ Bundle.ownAtoms own ic cls names, w.before args s' = true := vx_own hat' (vx_isRefq hU'.1) (vx_isRefq hN'.1) hU'.2.word hN'.2.word
  have hown' : s'.vm.findClass own = some m.cls := by rw [hvm]; exact hown
  have hins : (Cond.instantiable cls 6).before args s' = true := h _ (by simp [Bundle.ownAtoms])
  obtain ⟨vm₁, cX, kX, hfX, hkX, -, -, X₁, st1⟩ := Y.newCold hexec (own := own) (C := cls) (index := ik) (n := 6) hown' hk' hins hini'
    (g := F0 m pc ls rest) rfl (by rw [hb]; exact d0) (Nat.le_refl _) (Nat.le_refl _)
  generalize hT1 : (T.setVm vm₁).pushCell { cls := cX, slots := kX.instanceTypes.map defaultValue, vm := .none } = T1 at X₁ st1
  have hcat : (Value.ref T.heap.size).category = 1 := rfl
  have hcellA : T1.heap[T.heap.size]? = some (freshCell cX kX) := by rw [← hT1]; exact State.heap_pushCell_size _ _
  have d3' : decode c.code (pc + 3) = .ok (.dup, 1) := by rw [hb]; exact d3
  have d4' : decode c.code (pc + 4) = .ok (.ldc is, 2) := by rw [hb]; exact d4
  have hstr' : vk_R own is text sa s' := vk_R.warm hW0 hstr
  obtain ⟨U, hsteps, hrun, hend, hW, hsame, ce, hce, hO⟩ := X₁.ctorThrowS hexec htr (own := own) (cls := cls) (names := names) (ic := ic) hown' hcls hnames h (fun x hx => nomatch hx) hfX hkX hcellA (by rw [hhp, hT]; exact Nat.le_refl _) (msg := .ref sa) rfl
    (g := { method := m, pc := pc + 6, locals := ls, stack := .ref sa :: .ref T.heap.size :: .ref T.heap.size :: rest, locked := none }) rfl hsize rfl rfl (rest := rest) rfl
    (by rw [hb]; exact d6) (by rw [hb]; exact d9) hout hRframes (by simp only [List.map_cons, List.sum_cons, hcat]; omega) hlocks
  obtain ⟨f1, f2⟩ := vx_frame hsame
  rw [hhp] at f1 f2
  have hWs : s.WarmedH U.vm := State.WarmedH.trans hW0 hW
  have hcl : s.vm.findClass cls = some ce.cls := by
    have h9 := hO.cls
    rw [hvm] at h9
    exact h9
  have hall : s.sameButNew ({ U with vm := s.vm } : State) locs mc ms := by
    subst hA
    obtain ⟨e1, e2⟩ := hsame
    rw [State.setFrames_setFrames] at e1
    have h2 : (T.setVm s.vm).sameButNew ({ U with vm := s.vm } : State) [] (0 + 1) (0 + 6) := ⟨e1, e2⟩
    have h3 := X.same.trans h2
    rw [List.append_nil] at h3
    exact h3.mono hc hs
  refine ⟨U, ?_, .threw T.heap.size, hrun, hend, Or.inr ⟨T.heap.size, rfl, cls, ce, locs, hx U hWs.alike f1 (fun q hq => f2 q hq (fun z hz => nomatch hz)), hce, hO.vm, hcl, hWs, hall, hf⟩⟩
  refine st1 _ ?_
  show Steps p.tables e below (T1.setTop { method := m, pc := pc + 3, locals := ls, stack := .ref T.heap.size :: rest, locked := none }) _
  jvm_step X₁.here [X₁.here.top, hexec, d3', Value.category]
  exact X₁.ldcString hexec (own := own) (text := text) (index := is) (a := sa) hown' hstr'.1 hstr'.2
    (g := { method := m, pc := pc + 4, locals := ls, stack := .ref T.heap.size :: .ref T.heap.size :: rest, locked := none }) rfl d4' _ hsteps
/-- 'throw new E("text")', the text by a wide index -/
theorem vx_throwSW {cc : ByteArray} {pc : Nat} (hexec : p.tables.exec = Jvm.exec) (hb : c.code = cc) (hl : l.stackTraces = false) {own cls text : String} {names : List String} {ik is ic mc ms sa : Nat} {A : Nat → Prop}
    (hown : s.vm.findClass own = some m.cls) (hcls : Bundle.fit cls = true) (hnames : ∀ n ∈ names, Bundle.fit n = true)
    (hk : (Cond.classLink own ik cls).before args s = true) (hini : (Cond.initialized cls).before args s = true) (hstr : vk_R own is text sa s) (hat : ∀ w ∈ vx_atS own ic cls names, w.before args s = true)
    (hgood : ∀ w ∈ Cond.classLink own ik cls :: Cond.initialized cls :: vx_atS own ic cls names, vx_ot w = true)
    (hU : vx_Zq Bundle.tN "UNASSIGNED_STACK" Bundle.steD A s s.heap) (hN : vx_Zq Bundle.tN "SUPPRESSED_SENTINEL" Bundle.listD A s s.heap) (hS : va_S A s.heap H locs) (hsize : ls.size = c.maxLocals)
    (d0 : decode cc pc = .ok (.new ik, 3)) (d3 : decode cc (pc + 3) = .ok (.dup, 1)) (d4 : decode cc (pc + 4) = .ok (.ldc_w is, 3)) (d7 : decode cc (pc + 7) = .ok (.invokespecial ic, 3)) (d10 : decode cc (pc + 10) = .ok (.athrow, 1))
    (hout : ∀ x ∈ c.exceptionTable.toList, covers x (pc + 10) = false)
    (hRframes : names.length + 3 < R.frames) (hRlocals : (rest.map fun v => v.category).sum + (13 * (names.length + 1) + 43) ≤ R.locals) (hRcells : cells + 1 ≤ R.cells) (hRslots : slots + 6 ≤ R.slots) (hlocks : meth.locks = false)
    (hx : ∀ t : State, s.vm.Alike t.vm → H.size ≤ t.heap.size → (∀ q : Nat, q < H.size → t.heap[q]? = H[q]?) → XC cls s t)
    (hf : ∀ z ∈ locs, free z.base) (hc : cells + 1 ≤ mc) (hs : slots + 6 ≤ ms) :
    W p l e R s m args below meth c H locs cells slots (vx_MQ below Qc XC args s mc ms free) (F0 m pc ls rest) := by
  intro T hT X
  have htr : e.platform.stackTraces = false := (show e.platform.stackTraces = l.stackTraces by rw [X.admits.platform]).trans hl
  have Y := vx_rebase X (R' := { frames := R.frames, locals := R.locals, cells := 1, slots := 6 }) (Nat.le_refl _) (Nat.le_refl _) hRcells hRslots
  obtain ⟨s', hA⟩ : ∃ z, z = (T.setVm s.vm).setFrames (.invoking m args :: below) := ⟨_, rfl⟩
  rw [← hA] at Y
  have hvm : s'.vm = s.vm := by rw [hA]; rfl
  have hhp : s'.heap = H := by rw [hA]; exact hT
  have hW0 : s.WarmedH s'.vm := by rw [hvm]; exact State.WarmedH.refl s
  have hat' : ∀ w ∈ vx_atS own ic cls names, w.before args s' = true := fun w hw => vx_ot_at hW0 hvm.symm (hgood w (List.mem_cons_of_mem _ (List.mem_cons_of_mem _ hw))) (hat w hw)
  have hk' : (Cond.classLink own ik cls).before args s' = true := vx_ot_at hW0 hvm.symm (hgood _ List.mem_cons_self) hk
  have hini' : (Cond.initialized cls).before args s' = true := vx_ot_at hW0 hvm.symm (hgood _ (List.mem_cons_of_mem _ List.mem_cons_self)) hini
  have hU' : vx_Zq Bundle.tN "UNASSIGNED_STACK" Bundle.steD A s' s'.heap := by rw [hhp]; exact vx_Zq.moved hW0.alike (hU.kept hS.2.1)
  have hN' : vx_Zq Bundle.tN "SUPPRESSED_SENTINEL" Bundle.listD A s' s'.heap := by rw [hhp]; exact vx_Zq.moved hW0.alike (hN.kept hS.2.1)
  have h : ∀ w ∈ Bundle.ownAtoms own ic cls names, w.before args s' = true := vx_own hat' (vx_isRefq hU'.1) (vx_isRefq hN'.1) hU'.2.word hN'.2.word
  have hown' : s'.vm.findClass own = some m.cls := by rw [hvm]; exact hown
  have hins : (Cond.instantiable cls 6).before args s' = true := h _ (by simp [Bundle.ownAtoms])
  obtain ⟨vm₁, cX, kX, hfX, hkX, -, -, X₁, st1⟩ := Y.newCold hexec (own := own) (C := cls) (index := ik) (n := 6) hown' hk' hins hini'
    (g := F0 m pc ls rest) rfl (by rw [hb]; exact d0) (Nat.le_refl _) (Nat.le_refl _)
  generalize hT1 : (T.setVm vm₁).pushCell { cls := cX, slots := kX.instanceTypes.map defaultValue, vm := .none } = T1 at X₁ st1
  have hcat : (Value.ref T.heap.size).category = 1 := rfl
  have hcellA : T1.heap[T.heap.size]? = some (freshCell cX kX) := by rw [← hT1]; exact State.heap_pushCell_size _ _
  have d3' : decode c.code (pc + 3) = .ok (.dup, 1) := by rw [hb]; exact d3
  have d4' : decode c.code (pc + 4) = .ok (.ldc_w is, 3) := by rw [hb]; exact d4
  have hstr' : vk_R own is text sa s' := vk_R.warm hW0 hstr
  obtain ⟨U, hsteps, hrun, hend, hW, hsame, ce, hce, hO⟩ := X₁.ctorThrowS hexec htr (own := own) (cls := cls) (names := names) (ic := ic) hown' hcls hnames h (fun x hx => nomatch hx) hfX hkX hcellA (by rw [hhp, hT]; exact Nat.le_refl _) (msg := .ref sa) rfl
    (g := { method := m, pc := pc + 7, locals := ls, stack := .ref sa :: .ref T.heap.size :: .ref T.heap.size :: rest, locked := none }) rfl hsize rfl rfl (rest := rest) rfl
    (by rw [hb]; exact d7) (by rw [hb]; exact d10) hout hRframes (by simp only [List.map_cons, List.sum_cons, hcat]; omega) hlocks
  obtain ⟨f1, f2⟩ := vx_frame hsame
  rw [hhp] at f1 f2
  have hWs : s.WarmedH U.vm := State.WarmedH.trans hW0 hW
  have hcl : s.vm.findClass cls = some ce.cls := by
    have h9 := hO.cls
    rw [hvm] at h9
    exact h9
  have hall : s.sameButNew ({ U with vm := s.vm } : State) locs mc ms := by
    subst hA
    obtain ⟨e1, e2⟩ := hsame
    rw [State.setFrames_setFrames] at e1
    have h2 : (T.setVm s.vm).sameButNew ({ U with vm := s.vm } : State) [] (0 + 1) (0 + 6) := ⟨e1, e2⟩
    have h3 := X.same.trans h2
    rw [List.append_nil] at h3
    exact h3.mono hc hs
  refine ⟨U, ?_, .threw T.heap.size, hrun, hend, Or.inr ⟨T.heap.size, rfl, cls, ce, locs, hx U hWs.alike f1 (fun q hq => f2 q hq (fun z hz => nomatch hz)), hce, hO.vm, hcl, hWs, hall, hf⟩⟩
  refine st1 _ ?_
  show Steps p.tables e below (T1.setTop { method := m, pc := pc + 3, locals := ls, stack := .ref T.heap.size :: rest, locked := none }) _
  jvm_step X₁.here [X₁.here.top, hexec, d3', Value.category]
  exact X₁.ldcStringW hexec (own := own) (text := text) (index := is) (a := sa) hown' hstr'.1 hstr'.2
    (g := { method := m, pc := pc + 4, locals := ls, stack := .ref T.heap.size :: .ref T.heap.size :: rest, locked := none }) rfl d4' _ hsteps
end Ends
section Bodies
variable {l : Launch}
theorem vx_ofW {y : MethodName} {ws ws' : List Cond} {rm : Room} {Pc : Array Value → State → Prop} {Qc : Array Value → State → Outcome → State → Prop} {XC : String → State → State → Prop} {mc ms : Nat} {free : Addr → Prop} {cc : ByteArray} {maxL : Nat} {ret : Option FieldType}
    (hy : plainName y.cls = true) (hw : ws = Cond.code y cc maxL ret :: ws')
    (body : ∀ p e s m args below meth c s₁, BodyLoose p l y (headSpec ws rm) cc maxL ret e s m args below meth c s₁ → c.maxLocals = maxL → (∀ x ∈ c.exceptionTable.toList, False) → Pc args s →
      W p l e (headSpec ws rm).room s m args below meth c s.heap [] 0 0 (vx_MQ below Qc XC args s mc ms free) (entryFrame m args maxL)) : vx_Met l y ws rm Pc Qc XC mc ms free := by
  refine MetFree.of_bodyS (code := cc) (maxLocals := maxL) (ret := ret) hy ?_ ?_
  · intro args s m h hn
    obtain ⟨meth, c, h1, h2, h3, h4, h5, h6, -, -⟩ := Cond.code_spec hn (atoms_spec (ws := ws) h _ (by rw [hw]; exact List.mem_cons_self))
    exact ⟨meth, c, h1, h2, h3, h4, h5, h6⟩
  · intro p e s m args below meth c s₁ B hml hP _
    have hh0 : s₁.heap = s.heap := by rw [B.state]; rfl
    have ht : ∀ x ∈ c.exceptionTable.toList, False := by
      obtain ⟨meth9, c9, h1, h2, -, -, -, -, h7, -⟩ := Cond.code_spec B.named (atoms_spec (ws := ws) B.pre _ (by rw [hw]; exact List.mem_cons_self))
      cases Option.some.inj (h1.symm.trans B.method)
      cases Option.some.inj (h2.symm.trans (Stand.of_body B).code)
      intro x hx
      rw [Array.isEmpty_iff.mp h7] at hx
      cases hx
    obtain ⟨t, a1, o, b1, b2, b3⟩ := body p e s m args below meth c s₁ B hml ht hP s₁ hh0 (Stand.of_body B)
    exact ⟨t, o, a1, b1, b2, b3⟩
/-- the table of a body with handlers -/
theorem vx_table {p : Program} {x y : MethodName} {S : Spec} {cc bytes : ByteArray} {maxL maxL' : Nat} {ret ret' : Option FieldType} {e : Env} {s s₁ : State} {m : MethodId} {args : Array Value} {below : List Frame} {meth : Method} {c : Code} {hh : List (Nat × Nat × Nat × Nat)}
    (B : BodyLoose p l y S cc maxL ret e s m args below meth c s₁) (h : (Cond.codeWith y bytes maxL' ret' hh).before args s = true) : c.exceptionTable.toList = tableOf hh := by
  obtain ⟨m9, meth9, c9, hn9, h1, h2, -, -, h6, -⟩ := Cond.codeWith_spec h
  cases Option.some.inj (hn9.symm.trans B.named)
  cases Option.some.inj (h1.symm.trans B.method)
  cases Option.some.inj (h2.symm.trans (Stand.of_body B).code)
  rw [← h6, table_eq]
end Bodies
end VXA
/-! ===== END ===== -/
/-! ===== BEGIN a static call of a method with an exception table ===== -/
section VXS
variable {p : Program} {l : Launch} {e : Env} {R : Room} {s : State} {m : MethodId} {args : Array Value} {below : List Frame} {meth : Method} {c : Code} {T : State} {H : Heap} {locs : List Loc} {cells slots : Nat}
abbrev vx_CSW (R : Room) (s : State) (args : Array Value) (own : String) (index : Nat) (y : MethodName) (bytes : ByteArray) (maxL : Nat) (ret : Option FieldType) (hh : List (Nat × Nat × Nat × Nat)) (ws : List Cond) (rm : Room) (mc ms n : Nat) : Prop :=
  (rm.cells = mc ∧ rm.slots = ms ∧ rm.frames + 1 ≤ R.frames ∧ 8 + (maxL + 11) + rm.locals ≤ R.locals ∧ (∀ w ∈ ws, ∀ (a' : Array Value) (U : State), s.WarmedH U.vm → w.before a' U = true) ∧ Cond.codeWith y bytes maxL ret hh ∈ ws) ∧
  (Cond.codeWith y bytes maxL ret hh).before args s = true ∧ (Cond.initialized y.cls).before args s = true ∧ (y.cls ≠ "java/lang/invoke/MethodHandle" ∧ y.cls ≠ "java/lang/invoke/VarHandle") ∧
  (∀ sig, parseMethodDescriptor y.desc = some sig → n = sig.parameters.length) ∧ (Cond.methodLink own index y).before args s = true ∧ (Cond.static y).before args s = true
theorem vx_cwSW {own : String} {index maxL mc ms : Nat} {y : MethodName} {bytes : ByteArray} {ret : Option FieldType} {hh : List (Nat × Nat × Nat × Nat)} {Ts ws ws' : List Cond} {rm : Room} (n : Nat) (ht : ∀ w ∈ Ts, w.before args s = true) (hT : GoodIn Ts (va_wsS own index y ws)) (hw : ws = Cond.codeWith y bytes maxL ret hh :: ws') (hrc : rm.cells = mc) (hrs : rm.slots = ms)
    (hd : y.cls ≠ "java/lang/invoke/MethodHandle" ∧ y.cls ≠ "java/lang/invoke/VarHandle" ∧ (parseMethodDescriptor y.desc).map (fun d => d.parameters.length) = some n) (hR : rm.frames + 1 ≤ R.frames ∧ 8 + (maxL + 11) + rm.locals ≤ R.locals) :
    vx_CSW R s args own index y bytes maxL ret hh ws rm mc ms n := by
  have ok : ∀ w ∈ va_wsS own index y ws, w.before args s = true := fun w h => ht w (hT w h).1
  have hG : GoodIn Ts ws := fun w h => hT w (by unfold va_wsS; exact List.mem_append_right _ h)
  have hc : Cond.codeWith y bytes maxL ret hh ∈ ws := by rw [hw]; exact List.mem_cons_self
  refine ⟨⟨hrc, hrs, hR.1, hR.2, pay_in ht hG, hc⟩, ht _ (hG _ hc).1, ok _ (by simp [va_wsS]), ⟨hd.1, hd.2.1⟩, fun sig h => ?_, ok _ (by simp [va_wsS]), ok _ (by simp [va_wsS])⟩
  have h2 := hd.2.2
  rw [h] at h2
  exact (Option.some.inj h2).symm
theorem vx_callSW (X : Stand p l e R s m args below meth c T locs cells slots) (hexec : p.tables.exec = Jvm.exec) {own : String} {index : Nat} {y : MethodName} {bytes : ByteArray} {maxL : Nat} {ret : Option FieldType} {hh : List (Nat × Nat × Nat × Nat)}
    (hown : s.vm.findClass own = some m.cls) (hlink : (Cond.methodLink own index y).before args s = true) (hstat : (Cond.static y).before args s = true) (hinit : (Cond.initialized y.cls).before args s = true)
    (hcode : (Cond.codeWith y bytes maxL ret hh).before args s = true) (hy : y.cls ≠ "java/lang/invoke/MethodHandle" ∧ y.cls ≠ "java/lang/invoke/VarHandle")
    {W9 : Nat} {Pre : Pt → Array Value → Prop} {Post : Pt → Array Value → Option Value → Pt → Prop} (hK : Back l R p e below s args y 3 W9 Pre Post)
    {g : JFrame} (hg : g.method = m) (hsize : g.locals.size = c.maxLocals) {argsL rest : List Value} (hlen : ∀ sig, parseMethodDescriptor y.desc = some sig → argsL.length = sig.parameters.length)
    (hstack : g.stack = argsL.reverse ++ rest) (hW : 2 * g.monitorRoom + (rest.map fun v => v.category).sum ≤ W9) (hdg : decode c.code g.pc = .ok (.invokestatic index, 3))
    (hpre : ∀ vm₁, s.WarmedH vm₁ → Pre ⟨T.setVm vm₁, locs, cells, slots⟩ argsL.toArray) :
    ∃ (v : Option Value) (vm₁ : Vm) (B : Pt), s.WarmedH vm₁ ∧ Stand p l e R s m args below meth c B.U B.locs B.cells B.slots ∧ Post ⟨T.setVm vm₁, locs, cells, slots⟩ argsL.toArray v B ∧
      ∀ target, Steps p.tables e below (B.U.setTop { g with pc := g.pc + 3, stack := v.toList ++ rest }) target → Steps p.tables e below (T.setTop g) target := by
  obtain ⟨mk, methM, cM, hnamed, hmethM, -, -, -, -, -, -, hsigM⟩ := Cond.codeWith_spec hcode
  have hstatic : methM.isStatic = true := Cond.static_spec hnamed hmethM hstat
  obtain ⟨kP, hkP, -⟩ := className_of_methodNamed hnamed
  have hinitP : kP.init = .initialized := Cond.initialized_spec (findClass_of_methodNamed hnamed) hkP hinit
  obtain ⟨vm₁, X₁, hstep₁⟩ := X.invokestatic hexec hown hlink hnamed hmethM hstatic hkP hinitP hy (g := g) hg (argsL := argsL) (rest := rest) (hlen _ hsigM) hstack hdg
  obtain ⟨v, B, X', hpost, hsteps⟩ := hK m meth c ⟨T.setVm vm₁, locs, cells, slots⟩ { g with stack := rest } (.invokestatic index) mk argsL.toArray X₁ hg hsize hdg hW (X₁.named hnamed) (hpre vm₁ X₁.warmed)
  exact ⟨v, vm₁, B, X₁.warmed, X', hpost, fun target h => hstep₁ _ fun acts => by rw [doInvoke_state]; exact hsteps.trans h⟩
theorem vx_runSW {y : MethodName} {bytes cc : ByteArray} {maxL nL mc ms n index : Nat} {ret : Option FieldType} {hh : List (Nat × Nat × Nat × Nat)} {ws : List Cond} {rm : Room} {Pc : Array Value → State → Prop} {Qc : Array Value → State → Outcome → State → Prop} {free : Addr → Prop} {Ts : List Cond} {own : String} {As rest : List Value} {g : JFrame}
    (S : CallFix p m c cc nL s args Ts own) (hM : Met l y ws rm Pc Qc mc ms free) (cw : vx_CSW R s args own index y bytes maxL ret hh ws rm mc ms n) (hp : PreS s H Pc As)
    (hg : g.method = m) (hn : As.length = n) (hsize : g.locals.size = nL) (hstack : g.stack = As.reverse ++ rest) (hW : 2 * g.monitorRoom + (rest.map fun v => v.category).sum ≤ 8) (hdg : decode cc g.pc = .ok (.invokestatic index, 3)) (hf : cells + mc ≤ R.cells ∧ slots + ms ≤ R.slots) :
    va_Run p l e R s m args below meth c H locs cells slots mc ms g rest (Qc As.toArray) (free) := by
  obtain ⟨⟨hrc, hrs, hfr, hlo, hws, hcw⟩, hcode, hini, hy, hlen, hl, hstt⟩ := cw
  have hK : Back l R p e below s args y 3 8 (PreOf R mc ms Pc) (PostOf Qc mc ms free) := va_backW (hh := hh) (bytes := bytes) (maxL := maxL) (ret := ret) hM hp.1 hrc hrs hfr hlo hws hcw (fun a' U hW => word_at hW (Or.inl (by first | rfl | simp [Cond.onTables, Cond.keeps, Cond.steady])) hini)
  obtain ⟨hx, hb, hml, ho, -⟩ := S
  intro T hT X
  obtain ⟨v, vm₁, ⟨U', l2, c2, s2⟩, hW₁, X', ⟨g', mk, t, L, e1, e2, hq, h1, hL, h2, h3⟩, st⟩ := vx_callSW X hx (hh := hh) (bytes := bytes) (maxL := maxL) (ret := ret) ho hl hstt hini hcode hy hK hg (hsize.trans hml.symm) (argsL := As) (rest := rest) (fun sig h => hn.trans (hlen sig h)) hstack hW (by rw [hb]; exact hdg)
    (fun vm₁ hW₁ => ⟨hf.1, hf.2, hp.2 (T.setVm vm₁) hT hW₁⟩)
  dsimp only [Pt.U, Pt.locs, Pt.cells, Pt.slots] at X' e1 e2 h1 h2 h3 st
  subst h1; subst h2; subst h3
  exact ⟨v, (T.setVm vm₁).calling g' mk As.toArray, t, U', L, hT, X', hL, e1, e2, hq, st⟩
/-- not caught here, past rows that name other classes: it goes on to the caller -/
theorem vx_outP {p : Program} {l : Launch} {e : Env} {R : Room} {s : State} {m : MethodId} {args : Array Value} {below : List Frame} {meth : Method} {c : Code} {H : Heap} {locs : List Loc} {cells slots : Nat} {free : Addr → Prop} {ls : Array Slot} {rest : List Value} {Qc : Array Value → State → Outcome → State → Prop} {XC : String → State → State → Prop}
    {pc : Nat} {own E : String} {ce : Cell} {q : Addr} {mc ms : Nat} (hown : s.vm.findClass own = some m.cls) (hlocks : meth.locks = false)
    (hpass : ∀ z ∈ c.exceptionTable.toList, covers z pc = false ∨ (z.catchType ≠ 0 ∧ ∃ nm : String, (Cond.classLink own z.catchType nm).before args s = true ∧ va_Nc E nm s)) (hcell : H[q]? = some ce) (hv : ce.vm = .none) (hcl : s.vm.findClass E = some ce.cls)
    (hx : ∀ t : State, t.heap = H → s.vm.Alike t.vm → XC E s t) (hf : ∀ z ∈ locs, free z.base) (hc : cells ≤ mc) (hs : slots ≤ ms) :
    vx_W p l e R s m args below meth c H locs cells slots (vx_MQ below Qc XC args s mc ms free) (F0 m pc ls rest) q := by
  intro T hT X
  have hpl : e.platform.magicAccessors = ({} : Platform).magicAccessors := by rw [X.admits.platform]
  obtain ⟨vm', hW', X', st⟩ := X.outThrough hlocks q (g := F0 m pc ls rest) rfl rfl rfl (cell := ce) (by rw [hT]; exact hcell) (by rw [hv]; rfl)
    (by obtain ⟨k9, h9, -⟩ := Vm.findClass_spec hcl; exact ⟨k9, h9⟩) (fun z hz => by
      rcases hpass z hz with h | ⟨hz0, nm, hl1, hn1⟩
      · exact Or.inl h
      · obtain ⟨c6, hc6, hcl6⟩ := Cond.classLink_spec hown hl1 e.platform hpl
        obtain ⟨a8, b8, h1, h2, h3⟩ := hn1
        cases Option.some.inj (h1.symm.trans hcl)
        cases Option.some.inj (h2.symm.trans hc6)
        exact Or.inr ⟨hz0, _, hcl6, h3⟩)
  obtain ⟨g₀, hfr⟩ := X'.frames_eq
  have hcell9 : ((T.setVm vm').setFrames (.throwing q :: below)).heap[q]? = some ce := by
    show T.heap[q]? = some ce
    rw [hT]; exact hcell
  have hend : Ended ((T.setVm vm').setFrames (.throwing q :: below)) below (.threw q) := State.frames_setFrames _ (State.cur_lt_of_frames hfr)
  refine ⟨(T.setVm vm').setFrames (.throwing q :: below), ?_, .threw q, X'.here.running, hend, Or.inr ⟨q, rfl, E, ce, locs, hx _ hT (X'.ends _).1.alike, hcell9, hv, hcl, (X'.ends _).1, (X'.ends _).2.mono hc hs, hf⟩⟩
  rw [X.pushThrowing_eq]
  exact st
/-- a thing of a world lies in the heap -/
theorem vx_lt {D : va_G} {cl : List vw_C} {ws : va_W} {H1 : Heap} (h : va_P D cl ws H1) {k : Nat} {q : Nat × va_E} (hk : ws[k]? = some q) : q.1 < H1.size := (h k q hk).lt
end VXS
/-! ===== END ===== -/
/-! ===== BEGIN methods with a table of their own: called by a name, returning or throwing ===== -/
section VXH
/-! vx_backW, vx_callVX, vx_callSX, vx_callVW, vx_runVW, vx_runVX, vx_runSX, vx_ofWH follow the same proofs as their sisters above (Free/Laws.lean, Shelf42/LK1.lean); vx_outP calls Shelf42/NT130.lean (outThrough). -/
section
variable {l : Launch} {R : Room} {p : Program} {e : Env} {below : List Frame} {s : State} {sargs : Array Value} {y : MethodName} {len W9 : Nat}
theorem vx_backW {ws : List Cond} {rm : Room} {Pc : Array Value → State → Prop} {Qc : Array Value → State → Outcome → State → Prop} {XC : String → State → State → Prop} {mc ms : Nat} {free : Addr → Prop} {bytes : ByteArray} {maxL : Nat} {ret : Option FieldType} {hh : List (Nat × Nat × Nat × Nat)}
    (hM : vx_Met l y ws rm Pc Qc XC mc ms free) (hblind : FrameBlind Pc) (hrc : rm.cells = mc) (hrs : rm.slots = ms)
    (hframes : rm.frames + 1 ≤ R.frames) (hlocals : W9 + (maxL + 11) + rm.locals ≤ R.locals)
    (hws : ∀ w ∈ ws, ∀ a' U, s.WarmedH U.vm → w.before a' U = true) (hcode : Cond.codeWith y bytes maxL ret hh ∈ ws) (hinit : ∀ a' U, s.WarmedH U.vm → (Cond.initialized y.cls).before a' U = true) :
    vx_Back l R p e below s sargs y len W9 (PreOf R mc ms Pc) (PostOf Qc mc ms free) (vx_Post XC mc ms free) := by
  intro m meth c A g ig mk a X hg hsize hdg hW hn hp
  have h1 : (headSpec ws rm).pre.before a A.U = true := atoms_intro fun w hw => hws w hw _ _ X.warmed
  have h2 : (Cond.codeWith y bytes maxL ret hh).before a A.U = true := hws _ hcode _ _ X.warmed
  have h3 : (Cond.initialized y.cls).before a A.U = true := hinit _ _ X.warmed
  have h4 : A.cells + (headSpec ws rm).room.cells ≤ R.cells := by rw [show (headSpec ws rm).room.cells = mc from hrc]; exact hp.1
  have h5 : A.slots + (headSpec ws rm).room.slots ≤ R.slots := by rw [show (headSpec ws rm).room.slots = ms from hrs]; exact hp.2.1
  have hPc : Pc a (A.U.calling g mk a) := hblind _ _ _ _ hp.2.2
  obtain ⟨U, Ls, c0, s0⟩ := A
  dsimp only [Pt.U, Pt.locs, Pt.cells, Pt.slots] at h1 h2 h3 h4 h5 X hn hPc ⊢
  obtain ⟨m9, methY, cY, hn9, hmY, hcY, -, hlY, -⟩ := Cond.codeWith_spec h2
  cases Option.some.inj (hn9.symm.trans hn)
  obtain ⟨kY, hkY, -⟩ := className_of_methodNamed hn
  have hinitY : kY.init = .initialized := Cond.initialized_spec (findClass_of_methodNamed hn) hkY h3
  have h : At U g.method c below := by rw [hg]; exact X.here
  have hlocals9 : W9 + (maxL + 11) + (headSpec ws rm).room.locals ≤ R.locals := hlocals
  have happ : (headSpec ws rm).appliesLoose y e.platform (U.calling g mk a) = true :=
    Spec.appliesLoose_calling (g := g) h hdg hn hkY hinitY
      (X.room_calling (g := g) (R' := (headSpec ws rm).room) hsize hmY hcY hframes (by rw [hlY]; omega) h4 h5) h1
  obtain ⟨mid, hmid⟩ := h.above
  have hfr : (U.setTop g).frames = (.java g :: mid) ++ below := by rw [State.frames_setTop' g h.top, hmid]; rfl
  obtain ⟨o, s₂, hsteps, -, hend, hq⟩ := Steps.callFree hM p X.admits X.cas X.clock (acts := []) hfr happ hPc trivial
  have hq' : vx_Q Qc XC mc ms free a (U.calling g mk a) o s₂ := hq
  rw [State.frames_setTop' g h.top] at hend
  obtain ⟨g₀, hg0⟩ := Option.isSome_iff_exists.mp h.top
  obtain ⟨r, hr⟩ := State.topJava?_eq_some.mp hg0
  have hr' : (({ U with heap := s₂.heap, slotsUsed := s₂.slotsUsed } : State).setVm s₂.vm).frames = .java g₀ :: r := hr
  rcases hq' with ⟨hqc, L, hfe, hL⟩ | ⟨q, rfl, E, ce, L, hx, hce, hcv, hcl, hW₂, hsm, hL⟩
  · obtain ⟨⟨v, rfl⟩, hW₂, e2, q2, q3, q4, q5, q6⟩ := id hfe
    have e3 : s₂ = ({ (U.calling g mk a).setFrames s₂.frames with heap := s₂.heap, slotsUsed := s₂.slotsUsed } : State).setVm s₂.vm := by
      have : s₂ = ({ s₂ with vm := (U.calling g mk a).vm } : State).setVm s₂.vm := rfl
      rw [e2] at this
      exact this
    obtain ⟨c₂, i₂, len₂, hc₂, hd₂, hf₂⟩ := hend
    have hW' : U.WarmedH s₂.vm := hW₂
    have hcc : c₂ = c := by
      have h1 : s₂.code? g.method = U.code? g.method := by
        rw [State.code?_eq, State.code?_eq, hW'.alike.method?]
      exact Option.some.inj (hc₂.symm.trans (h1.trans h.code))
    subst hcc
    have hlen : len₂ = len := by rw [hdg] at hd₂; cases hd₂; rfl
    subst hlen
    have hs₂ : s₂ = (({ U with heap := s₂.heap, slotsUsed := s₂.slotsUsed } : State).setVm s₂.vm).setTop { g with pc := g.pc + len₂, stack := v.toList ++ g.stack } := by
      refine e3.trans ?_
      rw [hf₂, State.calling_eq h.top, State.setFrames_setFrames, State.setTop_of_frames _ hr', hr]
      rfl
    have hsame : U.sameButNew ({ U with heap := s₂.heap, slotsUsed := s₂.slotsUsed } : State) L mc ms := by
      refine ⟨?_, q2, q3, q4, q5, q6⟩
      obtain ⟨t, ht, -⟩ := State.frames_cons hr
      show ({ U with heap := s₂.heap, slotsUsed := s₂.slotsUsed } : State) = { U.setFrames U.frames with heap := s₂.heap, slotsUsed := s₂.slotsUsed }
      rw [State.setFrames_self ht]
    subst hg
    refine Or.inl ⟨v, ⟨(({ U with heap := s₂.heap, slotsUsed := s₂.slotsUsed } : State).setVm s₂.vm), Ls ++ L, c0 + mc, s0 + ms⟩,
      ⟨X.admits, X.cas, X.clock, X.frames, X.room, X.hears, X.method, X.code, (X.here.setHeapUsed s₂.heap s₂.slotsUsed).setVm hW'.alike, X.tail, State.WarmedH.trans X.warmed hW', X.limits, X.bytes, X.same.trans (hsame.setVm s.vm)⟩,
      ⟨g, mk, s₂, L, rfl, rfl, hqc, rfl, hL, rfl, rfl⟩, ?_⟩
    show Steps p.tables e below _ ((({ U with heap := s₂.heap, slotsUsed := s₂.slotsUsed } : State).setVm s₂.vm).setTop { g with pc := g.pc + len₂, stack := v.toList ++ g.stack })
    rw [← hs₂]
    exact hsteps
  · obtain ⟨e2, q2, q3, q4, q5, q6⟩ := id hsm
    have e3 : s₂ = ({ (U.calling g mk a).setFrames s₂.frames with heap := s₂.heap, slotsUsed := s₂.slotsUsed } : State).setVm s₂.vm := by
      have : s₂ = ({ s₂ with vm := (U.calling g mk a).vm } : State).setVm s₂.vm := rfl
      rw [e2] at this
      exact this
    have hf₂ : s₂.frames = .throwing q :: .java g :: U.frames.tail := hend
    have hW' : U.WarmedH s₂.vm := hW₂
    have hs₂ : s₂ = ((({ U with heap := s₂.heap, slotsUsed := s₂.slotsUsed } : State).setVm s₂.vm).setTop g).pushFrame (.throwing q) := by
      refine e3.trans ?_
      rw [hf₂, State.calling_eq h.top, State.setFrames_setFrames, State.pushFrame, State.frames_setTop _ hr', State.setTop_of_frames _ hr', State.setFrames_setFrames, hr]
      rfl
    have hsame : U.sameButNew ({ U with heap := s₂.heap, slotsUsed := s₂.slotsUsed } : State) L mc ms := by
      refine ⟨?_, q2, q3, q4, q5, q6⟩
      obtain ⟨t, ht, -⟩ := State.frames_cons hr
      show ({ U with heap := s₂.heap, slotsUsed := s₂.slotsUsed } : State) = { U.setFrames U.frames with heap := s₂.heap, slotsUsed := s₂.slotsUsed }
      rw [State.setFrames_self ht]
    subst hg
    refine Or.inr ⟨q, ⟨(({ U with heap := s₂.heap, slotsUsed := s₂.slotsUsed } : State).setVm s₂.vm), Ls ++ L, c0 + mc, s0 + ms⟩,
      ⟨X.admits, X.cas, X.clock, X.frames, X.room, X.hears, X.method, X.code, (X.here.setHeapUsed s₂.heap s₂.slotsUsed).setVm hW'.alike, X.tail, State.WarmedH.trans X.warmed hW', X.limits, X.bytes, X.same.trans (hsame.setVm s.vm)⟩,
      ⟨g, mk, s₂, L, E, ce, rfl, rfl, hx, hce, hcv, hcl, rfl, hL, rfl, rfl⟩, ?_⟩
    show Steps p.tables e below _ (((({ U with heap := s₂.heap, slotsUsed := s₂.slotsUsed } : State).setVm s₂.vm).setTop g).pushFrame (.throwing q))
    rw [← hs₂]
    exact hsteps
end
variable {p : Program} {l : Launch} {e : Env} {R : Room} {s : State} {m : MethodId} {args : Array Value} {below : List Frame} {meth : Method} {c : Code} {T : State} {H : Heap} {locs : List Loc} {cells slots : Nat}
theorem vx_callVX (X : Stand p l e R s m args below meth c T locs cells slots) (hexec : p.tables.exec = Jvm.exec) {own C : String} {index : Nat} {y : MethodName} {bytes : ByteArray} {maxL : Nat} {ret : Option FieldType} {hh : List (Nat × Nat × Nat × Nat)}
    (hown : s.vm.findClass own = some m.cls) (hlink : (Cond.methodLink own index y).before args s = true) (hinst : (Cond.instanceMethod y).before args s = true) (hsel : (Cond.selects C y y).before args s = true)
    (hcode : (Cond.codeWith y bytes maxL ret hh).before args s = true) (hy : y.cls ≠ "java/lang/invoke/MethodHandle" ∧ y.cls ≠ "java/lang/invoke/VarHandle")
    {W9 : Nat} {Pre : Pt → Array Value → Prop} {Post : Pt → Array Value → Option Value → Pt → Prop} {PostX : Pt → Array Value → Addr → Pt → Prop} (hK : vx_Back l R p e below s args y 3 W9 Pre Post PostX)
    {b : Addr} {cellB : Cell} (hcell : T.heap[b]? = some cellB) (hobj : cellB.vm.isStatics = false) (hcls : s.vm.findClass C = some cellB.cls)
    {g : JFrame} (hg : g.method = m) (hsize : g.locals.size = c.maxLocals) {argsL rest : List Value} (hlen : ∀ sig, parseMethodDescriptor y.desc = some sig → argsL.length = sig.parameters.length)
    (hstack : g.stack = argsL.reverse ++ .ref b :: rest) (hW : 2 * g.monitorRoom + (rest.map fun v => v.category).sum ≤ W9) (hdg : decode c.code g.pc = .ok (.invokevirtual index, 3))
    (hpre : ∀ vm₁, s.WarmedH vm₁ → Pre ⟨T.setVm vm₁, locs, cells, slots⟩ (Value.ref b :: argsL).toArray) :
    (∃ (v : Option Value) (vm₁ : Vm) (B : Pt), s.WarmedH vm₁ ∧ Stand p l e R s m args below meth c B.U B.locs B.cells B.slots ∧ Post ⟨T.setVm vm₁, locs, cells, slots⟩ (Value.ref b :: argsL).toArray v B ∧
      ∀ target, Steps p.tables e below (B.U.setTop { g with pc := g.pc + 3, stack := v.toList ++ rest }) target → Steps p.tables e below (T.setTop g) target) ∨
    (∃ (q : Addr) (vm₁ : Vm) (B : Pt), s.WarmedH vm₁ ∧ Stand p l e R s m args below meth c B.U B.locs B.cells B.slots ∧ PostX ⟨T.setVm vm₁, locs, cells, slots⟩ (Value.ref b :: argsL).toArray q B ∧
      Steps p.tables e below (T.setTop g) ((B.U.setTop { g with stack := rest }).pushFrame (.throwing q))) := by
  obtain ⟨mk, methM, hnamed, hmethM, hstM, habM⟩ := Cond.instanceMethod_spec hinst
  obtain ⟨m8, methM', cM, hn8, hmethM', -, -, -, -, -, -, hsigM⟩ := Cond.codeWith_spec hcode
  cases Option.some.inj (hn8.symm.trans hnamed)
  cases hmethM.symm.trans hmethM'
  obtain ⟨c2, r2, m2, q1, q2, q3, q4, kP, hkP, hkPi⟩ := Cond.selects_spec hsel
  cases hcls.symm.trans q1
  cases (State.methodFound?_of_named hnamed hy).symm.trans q2
  cases hnamed.symm.trans q3
  have hselP : selectMethod e.platform s.vm cellB.cls mk = .method mk := by rw [Launch.admits_selectMethod X.admits]; exact q4
  obtain ⟨vm₁, X₁, hstep₁⟩ := X.invokevirtual hexec hown hlink hnamed hmethM hstM hkP hkPi hy (a := b) (cell := cellB) hcell
    (fun z h => by rw [h] at hobj; cases hobj) hselP hmethM habM hkP hkPi (g := g) hg (argsL := argsL) (rest := rest) (hlen _ hsigM) hstack hdg
  rcases hK m meth c ⟨T.setVm vm₁, locs, cells, slots⟩ { g with stack := rest } (.invokevirtual index) mk (Value.ref b :: argsL).toArray X₁ hg hsize hdg hW (X₁.named hnamed) (hpre vm₁ X₁.warmed) with ⟨v, B, X', hpost, hsteps⟩ | ⟨q, B, X', hpost, hsteps⟩
  · exact Or.inl ⟨v, vm₁, B, X₁.warmed, X', hpost, fun target h => hstep₁ _ fun acts => by rw [doInvoke_state]; exact hsteps.trans h⟩
  · exact Or.inr ⟨q, vm₁, B, X₁.warmed, X', hpost, hstep₁ _ fun acts => by rw [doInvoke_state]; exact hsteps⟩
theorem vx_callSX (X : Stand p l e R s m args below meth c T locs cells slots) (hexec : p.tables.exec = Jvm.exec) {own : String} {index : Nat} {y : MethodName} {bytes : ByteArray} {maxL : Nat} {ret : Option FieldType} {hh : List (Nat × Nat × Nat × Nat)}
    (hown : s.vm.findClass own = some m.cls) (hlink : (Cond.methodLink own index y).before args s = true) (hstat : (Cond.static y).before args s = true) (hinit : (Cond.initialized y.cls).before args s = true)
    (hcode : (Cond.codeWith y bytes maxL ret hh).before args s = true) (hy : y.cls ≠ "java/lang/invoke/MethodHandle" ∧ y.cls ≠ "java/lang/invoke/VarHandle")
    {W9 : Nat} {Pre : Pt → Array Value → Prop} {Post : Pt → Array Value → Option Value → Pt → Prop} {PostX : Pt → Array Value → Addr → Pt → Prop} (hK : vx_Back l R p e below s args y 3 W9 Pre Post PostX)
    {g : JFrame} (hg : g.method = m) (hsize : g.locals.size = c.maxLocals) {argsL rest : List Value} (hlen : ∀ sig, parseMethodDescriptor y.desc = some sig → argsL.length = sig.parameters.length)
    (hstack : g.stack = argsL.reverse ++ rest) (hW : 2 * g.monitorRoom + (rest.map fun v => v.category).sum ≤ W9) (hdg : decode c.code g.pc = .ok (.invokestatic index, 3))
    (hpre : ∀ vm₁, s.WarmedH vm₁ → Pre ⟨T.setVm vm₁, locs, cells, slots⟩ argsL.toArray) :
    (∃ (v : Option Value) (vm₁ : Vm) (B : Pt), s.WarmedH vm₁ ∧ Stand p l e R s m args below meth c B.U B.locs B.cells B.slots ∧ Post ⟨T.setVm vm₁, locs, cells, slots⟩ argsL.toArray v B ∧
      ∀ target, Steps p.tables e below (B.U.setTop { g with pc := g.pc + 3, stack := v.toList ++ rest }) target → Steps p.tables e below (T.setTop g) target) ∨
    (∃ (q : Addr) (vm₁ : Vm) (B : Pt), s.WarmedH vm₁ ∧ Stand p l e R s m args below meth c B.U B.locs B.cells B.slots ∧ PostX ⟨T.setVm vm₁, locs, cells, slots⟩ argsL.toArray q B ∧
      Steps p.tables e below (T.setTop g) ((B.U.setTop { g with stack := rest }).pushFrame (.throwing q))) := by
  obtain ⟨mk, methM, cM, hnamed, hmethM, -, -, -, -, -, -, hsigM⟩ := Cond.codeWith_spec hcode
  have hstatic : methM.isStatic = true := Cond.static_spec hnamed hmethM hstat
  obtain ⟨kP, hkP, -⟩ := className_of_methodNamed hnamed
  have hinitP : kP.init = .initialized := Cond.initialized_spec (findClass_of_methodNamed hnamed) hkP hinit
  obtain ⟨vm₁, X₁, hstep₁⟩ := X.invokestatic hexec hown hlink hnamed hmethM hstatic hkP hinitP hy (g := g) hg (argsL := argsL) (rest := rest) (hlen _ hsigM) hstack hdg
  rcases hK m meth c ⟨T.setVm vm₁, locs, cells, slots⟩ { g with stack := rest } (.invokestatic index) mk argsL.toArray X₁ hg hsize hdg hW (X₁.named hnamed) (hpre vm₁ X₁.warmed) with ⟨v, B, X', hpost, hsteps⟩ | ⟨q, B, X', hpost, hsteps⟩
  · exact Or.inl ⟨v, vm₁, B, X₁.warmed, X', hpost, fun target h => hstep₁ _ fun acts => by rw [doInvoke_state]; exact hsteps.trans h⟩
  · exact Or.inr ⟨q, vm₁, B, X₁.warmed, X', hpost, hstep₁ _ fun acts => by rw [doInvoke_state]; exact hsteps⟩
theorem vx_callVW (X : Stand p l e R s m args below meth c T locs cells slots) (hexec : p.tables.exec = Jvm.exec) {own C : String} {index : Nat} {y : MethodName} {bytes : ByteArray} {maxL : Nat} {ret : Option FieldType} {hh : List (Nat × Nat × Nat × Nat)}
    (hown : s.vm.findClass own = some m.cls) (hlink : (Cond.methodLink own index y).before args s = true) (hinst : (Cond.instanceMethod y).before args s = true) (hsel : (Cond.selects C y y).before args s = true)
    (hcode : (Cond.codeWith y bytes maxL ret hh).before args s = true) (hy : y.cls ≠ "java/lang/invoke/MethodHandle" ∧ y.cls ≠ "java/lang/invoke/VarHandle")
    {W9 : Nat} {Pre : Pt → Array Value → Prop} {Post : Pt → Array Value → Option Value → Pt → Prop} (hK : Back l R p e below s args y 3 W9 Pre Post)
    {b : Addr} {cellB : Cell} (hcell : T.heap[b]? = some cellB) (hobj : cellB.vm.isStatics = false) (hcls : s.vm.findClass C = some cellB.cls)
    {g : JFrame} (hg : g.method = m) (hsize : g.locals.size = c.maxLocals) {argsL rest : List Value} (hlen : ∀ sig, parseMethodDescriptor y.desc = some sig → argsL.length = sig.parameters.length)
    (hstack : g.stack = argsL.reverse ++ .ref b :: rest) (hW : 2 * g.monitorRoom + (rest.map fun v => v.category).sum ≤ W9) (hdg : decode c.code g.pc = .ok (.invokevirtual index, 3))
    (hpre : ∀ vm₁, s.WarmedH vm₁ → Pre ⟨T.setVm vm₁, locs, cells, slots⟩ (Value.ref b :: argsL).toArray) :
    ∃ (v : Option Value) (vm₁ : Vm) (B : Pt), s.WarmedH vm₁ ∧ Stand p l e R s m args below meth c B.U B.locs B.cells B.slots ∧ Post ⟨T.setVm vm₁, locs, cells, slots⟩ (Value.ref b :: argsL).toArray v B ∧
      ∀ target, Steps p.tables e below (B.U.setTop { g with pc := g.pc + 3, stack := v.toList ++ rest }) target → Steps p.tables e below (T.setTop g) target := by
  obtain ⟨mk, methM, hnamed, hmethM, hstM, habM⟩ := Cond.instanceMethod_spec hinst
  obtain ⟨m8, methM', cM, hn8, hmethM', -, -, -, -, -, -, hsigM⟩ := Cond.codeWith_spec hcode
  cases Option.some.inj (hn8.symm.trans hnamed)
  cases hmethM.symm.trans hmethM'
  obtain ⟨c2, r2, m2, q1, q2, q3, q4, kP, hkP, hkPi⟩ := Cond.selects_spec hsel
  cases hcls.symm.trans q1
  cases (State.methodFound?_of_named hnamed hy).symm.trans q2
  cases hnamed.symm.trans q3
  have hselP : selectMethod e.platform s.vm cellB.cls mk = .method mk := by rw [Launch.admits_selectMethod X.admits]; exact q4
  obtain ⟨vm₁, X₁, hstep₁⟩ := X.invokevirtual hexec hown hlink hnamed hmethM hstM hkP hkPi hy (a := b) (cell := cellB) hcell
    (fun z h => by rw [h] at hobj; cases hobj) hselP hmethM habM hkP hkPi (g := g) hg (argsL := argsL) (rest := rest) (hlen _ hsigM) hstack hdg
  obtain ⟨v, B, X', hpost, hsteps⟩ := hK m meth c ⟨T.setVm vm₁, locs, cells, slots⟩ { g with stack := rest } (.invokevirtual index) mk (Value.ref b :: argsL).toArray X₁ hg hsize hdg hW (X₁.named hnamed) (hpre vm₁ X₁.warmed)
  exact ⟨v, vm₁, B, X₁.warmed, X', hpost, fun target h => hstep₁ _ fun acts => by rw [doInvoke_state]; exact hsteps.trans h⟩
abbrev vx_CVW (R : Room) (s : State) (args : Array Value) (own C : String) (index : Nat) (y : MethodName) (bytes : ByteArray) (maxL : Nat) (ret : Option FieldType) (hh : List (Nat × Nat × Nat × Nat)) (ws : List Cond) (rm : Room) (mc ms n : Nat) : Prop :=
  (rm.cells = mc ∧ rm.slots = ms ∧ rm.frames + 1 ≤ R.frames ∧ 8 + (maxL + 11) + rm.locals ≤ R.locals ∧ (∀ w ∈ ws, ∀ (a' : Array Value) (U : State), s.WarmedH U.vm → w.before a' U = true) ∧ Cond.codeWith y bytes maxL ret hh ∈ ws) ∧
  (Cond.codeWith y bytes maxL ret hh).before args s = true ∧ (Cond.initialized y.cls).before args s = true ∧ (y.cls ≠ "java/lang/invoke/MethodHandle" ∧ y.cls ≠ "java/lang/invoke/VarHandle") ∧
  (∀ sig, parseMethodDescriptor y.desc = some sig → n = sig.parameters.length) ∧ (Cond.methodLink own index y).before args s = true ∧ (Cond.instanceMethod y).before args s = true ∧ (Cond.selects C y y).before args s = true
theorem vx_cwVW {own C : String} {index maxL mc ms : Nat} {y : MethodName} {bytes : ByteArray} {ret : Option FieldType} {hh : List (Nat × Nat × Nat × Nat)} {Ts ws ws' : List Cond} {rm : Room} (n : Nat) (ht : ∀ w ∈ Ts, w.before args s = true) (hT : GoodIn Ts (wsV own index C y ws)) (hw : ws = Cond.codeWith y bytes maxL ret hh :: ws') (hrc : rm.cells = mc) (hrs : rm.slots = ms)
    (hd : y.cls = C ∧ y.cls ≠ "java/lang/invoke/MethodHandle" ∧ y.cls ≠ "java/lang/invoke/VarHandle" ∧ (parseMethodDescriptor y.desc).map (fun d => d.parameters.length) = some n) (hR : rm.frames + 1 ≤ R.frames ∧ 8 + (maxL + 11) + rm.locals ≤ R.locals) :
    vx_CVW R s args own C index y bytes maxL ret hh ws rm mc ms n := by
  obtain ⟨hC, hd⟩ := hd
  subst hC
  have ok : ∀ w ∈ wsV own index y.cls y ws, w.before args s = true := fun w h => ht w (hT w h).1
  have hG : GoodIn Ts ws := fun w h => hT w (by unfold wsV; exact List.mem_append_right _ h)
  have hc : Cond.codeWith y bytes maxL ret hh ∈ ws := by rw [hw]; exact List.mem_cons_self
  refine ⟨⟨hrc, hrs, hR.1, hR.2, pay_in ht hG, hc⟩, ht _ (hG _ hc).1, ok _ (by simp [wsV]), ⟨hd.1, hd.2.1⟩, fun sig h => ?_, ok _ (by simp [wsV]), ok _ (by simp [wsV]), ok _ (by simp [wsV])⟩
  have h2 := hd.2.2
  rw [h] at h2
  exact (Option.some.inj h2).symm
theorem vx_runVW {y : MethodName} {bytes cc : ByteArray} {maxL nL mc ms n index : Nat} {ret : Option FieldType} {hh : List (Nat × Nat × Nat × Nat)} {ws : List Cond} {rm : Room} {Pc : Array Value → State → Prop} {Qc : Array Value → State → Outcome → State → Prop} {free : Addr → Prop} {Ts : List Cond} {own C : String} {b : Addr} {As rest : List Value} {g : JFrame}
    (S : CallFix p m c cc nL s args Ts own) (hM : Met l y ws rm Pc Qc mc ms free) (cw : vx_CVW R s args own C index y bytes maxL ret hh ws rm mc ms n) (hp : PreV s H C b Pc As)
    (hg : g.method = m) (hn : As.length = n) (hsize : g.locals.size = nL) (hstack : g.stack = As.reverse ++ .ref b :: rest) (hW : 2 * g.monitorRoom + (rest.map fun v => v.category).sum ≤ 8) (hdg : decode cc g.pc = .ok (.invokevirtual index, 3)) (hf : cells + mc ≤ R.cells ∧ slots + ms ≤ R.slots) :
    va_Run p l e R s m args below meth c H locs cells slots mc ms g rest (Qc (Value.ref b :: As).toArray) free := by
  obtain ⟨⟨hrc, hrs, hfr, hlo, hws, hcw⟩, hcode, hini, hy, hlen, hl, hin, hse⟩ := cw
  have hK : Back l R p e below s args y 3 8 (PreOf R mc ms Pc) (PostOf Qc mc ms free) := va_backW (hh := hh) (bytes := bytes) (maxL := maxL) (ret := ret) hM hp.1 hrc hrs hfr hlo hws hcw (fun a' U hW => word_at hW (Or.inl (by first | rfl | simp [Cond.onTables, Cond.keeps, Cond.steady])) hini)
  obtain ⟨hx, hb, hml, ho, -⟩ := S
  obtain ⟨-, ⟨cellB, hcB, hoB, hclB⟩, hPc⟩ := hp
  intro T hT X
  obtain ⟨v, vm₁, ⟨U', l2, c2, s2⟩, hW₁, X', ⟨g', mk, t, L, e1, e2, hq, h1, hL, h2, h3⟩, st⟩ := vx_callVW X hx (C := C) (hh := hh) (bytes := bytes) (maxL := maxL) (ret := ret) ho hl hin hse hcode hy hK (by rw [hT]; exact hcB) hoB hclB hg (hsize.trans hml.symm) (argsL := As) (rest := rest) (fun sig h => hn.trans (hlen sig h)) hstack hW (by rw [hb]; exact hdg)
    (fun vm₁ hW₁ => ⟨hf.1, hf.2, hPc (T.setVm vm₁) hT hW₁⟩)
  dsimp only [Pt.U, Pt.locs, Pt.cells, Pt.slots] at X' e1 e2 h1 h2 h3 st
  subst h1; subst h2; subst h3
  exact ⟨v, (T.setVm vm₁).calling g' mk (Value.ref b :: As).toArray, t, U', L, hT, X', hL, e1, e2, hq, st⟩
section
variable {y : MethodName} {bytes cc : ByteArray} {maxL nL mc ms n index : Nat} {ret : Option FieldType} {ws : List Cond} {rm : Room} {Pc : Array Value → State → Prop} {Qc : Array Value → State → Outcome → State → Prop} {XC : String → State → State → Prop} {free : Addr → Prop} {Ts : List Cond} {own C : String} {b : Addr} {As rest : List Value} {g : JFrame}
theorem vx_runVX {hh : List (Nat × Nat × Nat × Nat)} (S : CallFix p m c cc nL s args Ts own) (hM : vx_Met l y ws rm Pc Qc XC mc ms free) (cw : vx_CVW R s args own C index y bytes maxL ret hh ws rm mc ms n) (hp : PreV s H C b Pc As)
    (hg : g.method = m) (hn : As.length = n) (hsize : g.locals.size = nL) (hstack : g.stack = As.reverse ++ .ref b :: rest) (hW : 2 * g.monitorRoom + (rest.map fun v => v.category).sum ≤ 8) (hdg : decode cc g.pc = .ok (.invokevirtual index, 3)) (hf : cells + mc ≤ R.cells ∧ slots + ms ≤ R.slots) :
    vx_Run p l e R s m args below meth c H locs cells slots mc ms g rest (Qc (Value.ref b :: As).toArray) XC free := by
  obtain ⟨⟨hrc, hrs, hfr, hlo, hws, hcw⟩, hcode, hini, hy, hlen, hl, hin, hse⟩ := cw
  have hK : vx_Back l R p e below s args y 3 8 (PreOf R mc ms Pc) (PostOf Qc mc ms free) (vx_Post XC mc ms free) := vx_backW (hh := hh) (bytes := bytes) (maxL := maxL) (ret := ret) hM hp.1 hrc hrs hfr hlo hws hcw (fun a' U hW => word_at hW (Or.inl (by first | rfl | simp [Cond.onTables, Cond.keeps, Cond.steady])) hini)
  obtain ⟨hx, hb, hml, ho, -⟩ := S
  obtain ⟨-, ⟨cellB, hcB, hoB, hclB⟩, hPc⟩ := hp
  intro T hT X
  rcases vx_callVX X hx (C := C) (hh := hh) (bytes := bytes) (maxL := maxL) (ret := ret) ho hl hin hse hcode hy hK (by rw [hT]; exact hcB) hoB hclB hg (hsize.trans hml.symm) (argsL := As) (rest := rest) (fun sig h => hn.trans (hlen sig h)) hstack hW (by rw [hb]; exact hdg)
    (fun vm₁ hW₁ => ⟨hf.1, hf.2, hPc (T.setVm vm₁) hT hW₁⟩) with ⟨v, vm₁, ⟨U', l2, c2, s2⟩, hW₁, X', ⟨g', mk, t, L, e1, e2, hq, h1, hL, h2, h3⟩, st⟩ | ⟨q, vm₁, ⟨U', l2, c2, s2⟩, hW₁, X', ⟨g', mk, t, L, E, ce, e1, e2, hq, hce, hcv, hcl, h1, hL, h2, h3⟩, st⟩
  · dsimp only [Pt.U, Pt.locs, Pt.cells, Pt.slots] at X' e1 e2 h1 h2 h3 st
    subst h1; subst h2; subst h3
    exact Or.inl ⟨v, (T.setVm vm₁).calling g' mk (Value.ref b :: As).toArray, t, U', L, hT, X', hL, e1, e2, hq, st⟩
  · dsimp only [Pt.U, Pt.locs, Pt.cells, Pt.slots] at X' e1 e2 h1 h2 h3 st hcl
    subst h1; subst h2; subst h3
    exact Or.inr ⟨q, (T.setVm vm₁).calling g' mk (Value.ref b :: As).toArray, t, U', L, E, ce, hT, X', hL, e1, e2, hq, hce, hcv, vx_cls hW₁ hcl, st⟩
theorem vx_runSX {hh : List (Nat × Nat × Nat × Nat)} (S : CallFix p m c cc nL s args Ts own) (hM : vx_Met l y ws rm Pc Qc XC mc ms free) (cw : vx_CSW R s args own index y bytes maxL ret hh ws rm mc ms n) (hp : PreS s H Pc As)
    (hg : g.method = m) (hn : As.length = n) (hsize : g.locals.size = nL) (hstack : g.stack = As.reverse ++ rest) (hW : 2 * g.monitorRoom + (rest.map fun v => v.category).sum ≤ 8) (hdg : decode cc g.pc = .ok (.invokestatic index, 3)) (hf : cells + mc ≤ R.cells ∧ slots + ms ≤ R.slots) :
    vx_Run p l e R s m args below meth c H locs cells slots mc ms g rest (Qc As.toArray) XC free := by
  obtain ⟨⟨hrc, hrs, hfr, hlo, hws, hcw⟩, hcode, hini, hy, hlen, hl, hstt⟩ := cw
  have hK : vx_Back l R p e below s args y 3 8 (PreOf R mc ms Pc) (PostOf Qc mc ms free) (vx_Post XC mc ms free) := vx_backW (hh := hh) (bytes := bytes) (maxL := maxL) (ret := ret) hM hp.1 hrc hrs hfr hlo hws hcw (fun a' U hW => word_at hW (Or.inl (by first | rfl | simp [Cond.onTables, Cond.keeps, Cond.steady])) hini)
  obtain ⟨hx, hb, hml, ho, -⟩ := S
  intro T hT X
  rcases vx_callSX X hx (hh := hh) (bytes := bytes) (maxL := maxL) (ret := ret) ho hl hstt hini hcode hy hK hg (hsize.trans hml.symm) (argsL := As) (rest := rest) (fun sig h => hn.trans (hlen sig h)) hstack hW (by rw [hb]; exact hdg)
    (fun vm₁ hW₁ => ⟨hf.1, hf.2, hp.2 (T.setVm vm₁) hT hW₁⟩) with ⟨v, vm₁, ⟨U', l2, c2, s2⟩, hW₁, X', ⟨g', mk, t, L, e1, e2, hq, h1, hL, h2, h3⟩, st⟩ | ⟨q, vm₁, ⟨U', l2, c2, s2⟩, hW₁, X', ⟨g', mk, t, L, E, ce, e1, e2, hq, hce, hcv, hcl, h1, hL, h2, h3⟩, st⟩
  · dsimp only [Pt.U, Pt.locs, Pt.cells, Pt.slots] at X' e1 e2 h1 h2 h3 st
    subst h1; subst h2; subst h3
    exact Or.inl ⟨v, (T.setVm vm₁).calling g' mk As.toArray, t, U', L, hT, X', hL, e1, e2, hq, st⟩
  · dsimp only [Pt.U, Pt.locs, Pt.cells, Pt.slots] at X' e1 e2 h1 h2 h3 st hcl
    subst h1; subst h2; subst h3
    exact Or.inr ⟨q, (T.setVm vm₁).calling g' mk As.toArray, t, U', L, E, ce, hT, X', hL, e1, e2, hq, hce, hcv, vx_cls hW₁ hcl, st⟩
end
end VXH
theorem vx_ofWH {l : Launch} {y : MethodName} {ws ws' : List Cond} {rm : Room} {Pc : Array Value → State → Prop} {Qc : Array Value → State → Outcome → State → Prop} {XC : String → State → State → Prop} {mc ms : Nat} {free : Addr → Prop} {cc : ByteArray} {maxL : Nat} {ret : Option FieldType} {hh : List (Nat × Nat × Nat × Nat)}
    (hy : plainName y.cls = true) (hw : ws = Cond.codeWith y cc maxL ret hh :: ws')
    (body : ∀ p e s m args below meth c s₁, BodyLoose p l y (headSpec ws rm) cc maxL ret e s m args below meth c s₁ → c.maxLocals = maxL → Pc args s →
      W p l e (headSpec ws rm).room s m args below meth c s.heap [] 0 0 (vx_MQ below Qc XC args s mc ms free) (entryFrame m args maxL)) : vx_Met l y ws rm Pc Qc XC mc ms free := by
  refine MetFree.of_bodyS (code := cc) (maxLocals := maxL) (ret := ret) hy ?_ ?_
  · intro args s m h hn
    obtain ⟨m9, meth, c, hn9, h1, h2, h3, h4, -, h5, h6, -⟩ := Cond.codeWith_spec (atoms_spec (ws := ws) h _ (by rw [hw]; exact List.mem_cons_self))
    cases hn.symm.trans hn9
    exact ⟨meth, c, h1, h2, h3, h4, h5, h6⟩
  · intro p e s m args below meth c s₁ B hml hP _
    have hh0 : s₁.heap = s.heap := by rw [B.state]; rfl
    obtain ⟨t, a1, o, b1, b2, b3⟩ := body p e s m args below meth c s₁ B hml hP s₁ hh0 (Stand.of_body B)
    exact ⟨t, o, a1, b1, b2, b3⟩
/-! ===== END ===== -/

/-! ===== BEGIN printed: names, fields, word lists, decode rows ===== -/
def RX0 : String := "LifeDrawer$Desk"
def TX0 : u_T := fun k => match k with
  | 0 => ("LifeDrawer$Desk", "told", "LLifeDrawer$Told;", true)
  | 1 => ("LifeDrawer$Desk", "law", "LLifeDrawer$Law;", true)
  | _ => ("LifeDrawer$Desk", "saved", "[J", true)
def tyX0 : Nat → FieldType := fun k => match k with
  | 0 => .object "LifeDrawer$Told"
  | 1 => .object "LifeDrawer$Law"
  | _ => .array .long
abbrev wsX00 : List Cond := u_ws RX0 TX0 3
theorem nmX0 : ∀ a, a < 3 → ∀ b, b < 3 → a ≠ b → (TX0 a).2.1 ≠ (TX0 b).2.1 := by decide +kernel
theorem tyX0_ok : ∀ k, k < 3 → parseFieldDescriptor (TX0 k).2.2.1 = some (tyX0 k) := by decide +kernel
abbrev cX0_init : ByteArray := prog_2_method_1_code
def yX0_init : MethodName := ⟨RX0, "<init>", "(LLifeDrawer$Told;LLifeDrawer$Law;)V"⟩
abbrev cX0_yearsWhen : ByteArray := prog_2_method_2_code
def yX0_yearsWhen : MethodName := ⟨RX0, "yearsWhen", "(LLifeDrawer$State;II)I"⟩
abbrev cX0_signerDead : ByteArray := prog_2_method_3_code
def yX0_signerDead : MethodName := ⟨RX0, "signerDead", "(LLifeDrawer$State;I)I"⟩
abbrev cX0_wrongWhen : ByteArray := prog_2_method_4_code
def yX0_wrongWhen : MethodName := ⟨RX0, "wrongWhen", "(LLifeDrawer$State;III)I"⟩
abbrev cX0_costWhen : ByteArray := prog_2_method_5_code
def yX0_costWhen : MethodName := ⟨RX0, "costWhen", "(LLifeDrawer$State;III)J"⟩
abbrev cX0_riskWhen : ByteArray := prog_2_method_6_code
def yX0_riskWhen : MethodName := ⟨RX0, "riskWhen", "(LLifeDrawer$State;I)J"⟩
abbrev cX0_riskAtAge : ByteArray := prog_2_method_7_code
def yX0_riskAtAge : MethodName := ⟨RX0, "riskAtAge", "(LLifeDrawer$State;II)J"⟩
abbrev cX0_hoursFor : ByteArray := prog_2_method_8_code
def yX0_hoursFor : MethodName := ⟨RX0, "hoursFor", "(LLifeDrawer$State;I)I"⟩
abbrev cX0_canBePut : ByteArray := prog_2_method_9_code
def yX0_canBePut : MethodName := ⟨RX0, "canBePut", "(LLifeDrawer$State;I)Z"⟩
abbrev cX0_savedRisk : ByteArray := prog_2_method_10_code
def yX0_savedRisk : MethodName := ⟨RX0, "savedRisk", "(LLifeDrawer$State;I)J"⟩
abbrev cX0_firstOfAll : ByteArray := prog_2_method_11_code
def yX0_firstOfAll : MethodName := ⟨RX0, "firstOfAll", "(LLifeDrawer$State;)I"⟩
abbrev cX0_firstOf : ByteArray := prog_2_method_12_code
def yX0_firstOf : MethodName := ⟨RX0, "firstOf", "(LLifeDrawer$State;[JI)I"⟩
abbrev cX0_putPiece : ByteArray := prog_2_method_13_code
def yX0_putPiece : MethodName := ⟨RX0, "putPiece", "(LLifeDrawer$State;I)Z"⟩
abbrev cX0_letDie : ByteArray := prog_2_method_14_code
def yX0_letDie : MethodName := ⟨RX0, "letDie", "(LLifeDrawer$State;I)Z"⟩
abbrev cX0_passWeek : ByteArray := prog_2_method_15_code
def yX0_passWeek : MethodName := ⟨RX0, "passWeek", "(LLifeDrawer$State;)Z"⟩
abbrev cX0_lossAhead : ByteArray := prog_2_method_16_code
def yX0_lossAhead : MethodName := ⟨RX0, "lossAhead", "(LLifeDrawer$State;III)J"⟩
def RX1 : String := "LifeDrawer$Law"
def TX1 : u_T := fun k => match k with
  | 0 => ("LifeDrawer$Law", "code", "[I", true)
  | 1 => ("LifeDrawer$Law", "fresh", "[I", true)
  | 2 => ("LifeDrawer$Law", "stack", "[I", true)
  | 3 => ("LifeDrawer$Law", "size", "I", false)
  | _ => ("LifeDrawer$Law", "freshSize", "I", false)
def tyX1 : Nat → FieldType := fun k => match k with
  | 0 => .array .int
  | 1 => .array .int
  | 2 => .array .int
  | 3 => .int
  | _ => .int
abbrev wsX10 : List Cond := u_ws RX1 TX1 5
theorem nmX1 : ∀ a, a < 5 → ∀ b, b < 5 → a ≠ b → (TX1 a).2.1 ≠ (TX1 b).2.1 := by decide +kernel
theorem tyX1_ok : ∀ k, k < 5 → parseFieldDescriptor (TX1 k).2.2.1 = some (tyX1 k) := by decide +kernel
abbrev cX1_init : ByteArray := prog_3_method_1_code
def yX1_init : MethodName := ⟨RX1, "<init>", "()V"⟩
abbrev cX1_clear : ByteArray := prog_3_method_2_code
def yX1_clear : MethodName := ⟨RX1, "clear", "()V"⟩
abbrev cX1_read : ByteArray := prog_3_method_3_code
def yX1_read : MethodName := ⟨RX1, "read", "(LLifeDrawer$Tape;)Z"⟩
abbrev cX1_readSum : ByteArray := prog_3_method_4_code
def yX1_readSum : MethodName := ⟨RX1, "readSum", "(LLifeDrawer$Tape;I)Z"⟩
abbrev cX1_readProduct : ByteArray := prog_3_method_5_code
def yX1_readProduct : MethodName := ⟨RX1, "readProduct", "(LLifeDrawer$Tape;I)Z"⟩
abbrev cX1_readUnit : ByteArray := prog_3_method_6_code
def yX1_readUnit : MethodName := ⟨RX1, "readUnit", "(LLifeDrawer$Tape;I)Z"⟩
abbrev cX1_readTwo : ByteArray := prog_3_method_7_code
def yX1_readTwo : MethodName := ⟨RX1, "readTwo", "(LLifeDrawer$Tape;I)Z"⟩
abbrev cX1_emit : ByteArray := prog_3_method_8_code
def yX1_emit : MethodName := ⟨RX1, "emit", "(I)V"⟩
abbrev cX1_outcome : ByteArray := prog_3_method_9_code
def yX1_outcome : MethodName := ⟨RX1, "outcome", "(IIIII)I"⟩
abbrev cX1_joined : ByteArray := prog_3_method_10_code
def yX1_joined : MethodName := ⟨RX1, "joined", "(III)I"⟩
def RX2 : String := "LifeDrawer$Page"
def TX2 : u_T := fun k => match k with
  | 0 => ("LifeDrawer$Page", "size", "I", false)
  | 1 => ("LifeDrawer$Page", "kinds", "I", false)
  | _ => ("LifeDrawer$Page", "others", "I", false)
def tyX2 : Nat → FieldType := fun k => match k with
  | 0 => .int
  | 1 => .int
  | _ => .int
abbrev wsX20 : List Cond := u_ws RX2 TX2 3
theorem nmX2 : ∀ a, a < 3 → ∀ b, b < 3 → a ≠ b → (TX2 a).2.1 ≠ (TX2 b).2.1 := by decide +kernel
theorem tyX2_ok : ∀ k, k < 3 → parseFieldDescriptor (TX2 k).2.2.1 = some (tyX2 k) := by decide +kernel
abbrev cX2_init : ByteArray := prog_4_method_1_code
def yX2_init : MethodName := ⟨RX2, "<init>", "()V"⟩
abbrev cX2_clear : ByteArray := prog_4_method_2_code
def yX2_clear : MethodName := ⟨RX2, "clear", "()V"⟩
abbrev cX2_read : ByteArray := prog_4_method_3_code
def yX2_read : MethodName := ⟨RX2, "read", "(LLifeDrawer$Tape;)Z"⟩
abbrev cX2_fits : ByteArray := prog_4_method_4_code
def yX2_fits : MethodName := ⟨RX2, "fits", "(I)Z"⟩
def RX3 : String := "LifeDrawer$Plan"
def TX3 : u_T := fun k => match k with
  | 0 => ("LifeDrawer$Plan", "desk", "LLifeDrawer$Desk;", true)
  | 1 => ("LifeDrawer$Plan", "cells", "[J", true)
  | 2 => ("LifeDrawer$Plan", "value", "[J", true)
  | 3 => ("LifeDrawer$Plan", "need", "[I", true)
  | 4 => ("LifeDrawer$Plan", "most", "[I", true)
  | 5 => ("LifeDrawer$Plan", "plannedWeeks", "I", false)
  | _ => ("LifeDrawer$Plan", "planned", "J", false)
def tyX3 : Nat → FieldType := fun k => match k with
  | 0 => .object "LifeDrawer$Desk"
  | 1 => .array .long
  | 2 => .array .long
  | 3 => .array .int
  | 4 => .array .int
  | 5 => .int
  | _ => .long
abbrev wsX30 : List Cond := u_ws RX3 TX3 7
theorem nmX3 : ∀ a, a < 7 → ∀ b, b < 7 → a ≠ b → (TX3 a).2.1 ≠ (TX3 b).2.1 := by decide +kernel
theorem tyX3_ok : ∀ k, k < 7 → parseFieldDescriptor (TX3 k).2.2.1 = some (tyX3 k) := by decide +kernel
abbrev cX3_init : ByteArray := prog_5_method_1_code
def yX3_init : MethodName := ⟨RX3, "<init>", "(LLifeDrawer$Desk;)V"⟩
abbrev cX3_forget : ByteArray := prog_5_method_2_code
def yX3_forget : MethodName := ⟨RX3, "forget", "()V"⟩
abbrev cX3_leastLoss : ByteArray := prog_5_method_3_code
def yX3_leastLoss : MethodName := ⟨RX3, "leastLoss", "()J"⟩
abbrev cX3_writtenIn : ByteArray := prog_5_method_4_code
def yX3_writtenIn : MethodName := ⟨RX3, "writtenIn", "(I)I"⟩
abbrev cX3_keyShift : ByteArray := prog_5_method_5_code
def yX3_keyShift : MethodName := ⟨RX3, "keyShift", "(I)I"⟩
abbrev cX3_prepare : ByteArray := prog_5_method_6_code
def yX3_prepare : MethodName := ⟨RX3, "prepare", "(LLifeDrawer$State;I)V"⟩
abbrev cX3_cellOf : ByteArray := prog_5_method_7_code
def yX3_cellOf : MethodName := ⟨RX3, "cellOf", "(III)I"⟩
abbrev cX3_weighWays : ByteArray := prog_5_method_8_code
def yX3_weighWays : MethodName := ⟨RX3, "weighWays", "(LLifeDrawer$State;II)V"⟩
abbrev cX3_hoursAtAge : ByteArray := prog_5_method_9_code
def yX3_hoursAtAge : MethodName := ⟨RX3, "hoursAtAge", "(II)I"⟩
abbrev cX3_addLife : ByteArray := prog_5_method_10_code
def yX3_addLife : MethodName := ⟨RX3, "addLife", "(I)V"⟩
abbrev cX3_leastOf : ByteArray := prog_5_method_11_code
def yX3_leastOf : MethodName := ⟨RX3, "leastOf", "(IIII)J"⟩
def RX4 : String := "LifeDrawer$Seeds"
def TX4 : u_T := fun k => match k with
  | 0 => ("LifeDrawer$Seeds", "state", "LLifeDrawer$State;", true)
  | 1 => ("LifeDrawer$Seeds", "written", "I", false)
  | 2 => ("LifeDrawer$Seeds", "desk", "LLifeDrawer$Desk;", true)
  | 3 => ("LifeDrawer$Seeds", "saved", "[J", true)
  | _ => ("LifeDrawer$Seeds", "seed", "I", false)
def tyX4 : Nat → FieldType := fun k => match k with
  | 0 => .object "LifeDrawer$State"
  | 1 => .int
  | 2 => .object "LifeDrawer$Desk"
  | 3 => .array .long
  | _ => .int
abbrev wsX40 : List Cond := u_ws RX4 TX4 5
theorem nmX4 : ∀ a, a < 5 → ∀ b, b < 5 → a ≠ b → (TX4 a).2.1 ≠ (TX4 b).2.1 := by decide +kernel
theorem tyX4_ok : ∀ k, k < 5 → parseFieldDescriptor (TX4 k).2.2.1 = some (tyX4 k) := by decide +kernel
abbrev cX4_init : ByteArray := prog_6_method_1_code
def yX4_init : MethodName := ⟨RX4, "<init>", "(LLifeDrawer$Desk;)V"⟩
abbrev cX4_play : ByteArray := prog_6_method_2_code
def yX4_play : MethodName := ⟨RX4, "play", "(LLifeDrawer$State;II)V"⟩
abbrev cX4_drawOf64 : ByteArray := prog_6_method_3_code
def yX4_drawOf64 : MethodName := ⟨RX4, "drawOf64", "()I"⟩
abbrev cX4_drawDeaths : ByteArray := prog_6_method_4_code
def yX4_drawDeaths : MethodName := ⟨RX4, "drawDeaths", "()V"⟩
abbrev cX4_putFirsts : ByteArray := prog_6_method_5_code
def yX4_putFirsts : MethodName := ⟨RX4, "putFirsts", "()V"⟩
def RX5 : String := "LifeDrawer$Shelf"
def TX5 : u_T := fun k => match k with
  | 0 => ("LifeDrawer$Shelf", "now", "LLifeDrawer$State;", true)
  | 1 => ("LifeDrawer$Shelf", "before", "[LLifeDrawer$State;", true)
  | _ => ("LifeDrawer$Shelf", "works", "I", false)
def tyX5 : Nat → FieldType := fun k => match k with
  | 0 => .object "LifeDrawer$State"
  | 1 => .array (.object "LifeDrawer$State")
  | _ => .int
abbrev wsX50 : List Cond := u_ws RX5 TX5 3
theorem nmX5 : ∀ a, a < 3 → ∀ b, b < 3 → a ≠ b → (TX5 a).2.1 ≠ (TX5 b).2.1 := by decide +kernel
theorem tyX5_ok : ∀ k, k < 3 → parseFieldDescriptor (TX5 k).2.2.1 = some (tyX5 k) := by decide +kernel
abbrev cX5_init : ByteArray := prog_7_method_1_code
def yX5_init : MethodName := ⟨RX5, "<init>", "()V"⟩
abbrev cX5_keep : ByteArray := prog_7_method_2_code
def yX5_keep : MethodName := ⟨RX5, "keep", "()V"⟩
abbrev cX5_goBack : ByteArray := prog_7_method_3_code
def yX5_goBack : MethodName := ⟨RX5, "goBack", "()V"⟩
abbrev cX5_copyFrom : ByteArray := prog_7_method_4_code
def yX5_copyFrom : MethodName := ⟨RX5, "copyFrom", "(LLifeDrawer$Shelf;)V"⟩
def RX6 : String := "LifeDrawer$State"
def TX6 : u_T := fun k => match k with
  | 0 => ("LifeDrawer$State", "piece", "[I", true)
  | 1 => ("LifeDrawer$State", "dead", "I", false)
  | 2 => ("LifeDrawer$State", "week", "I", false)
  | 3 => ("LifeDrawer$State", "hours", "I", false)
  | 4 => ("LifeDrawer$State", "lacked", "I", false)
  | 5 => ("LifeDrawer$State", "ran", "I", false)
  | _ => ("LifeDrawer$State", "lost", "J", false)
def tyX6 : Nat → FieldType := fun k => match k with
  | 0 => .array .int
  | 1 => .int
  | 2 => .int
  | 3 => .int
  | 4 => .int
  | 5 => .int
  | _ => .long
abbrev wsX60 : List Cond := u_ws RX6 TX6 7
theorem nmX6 : ∀ a, a < 7 → ∀ b, b < 7 → a ≠ b → (TX6 a).2.1 ≠ (TX6 b).2.1 := by decide +kernel
theorem tyX6_ok : ∀ k, k < 7 → parseFieldDescriptor (TX6 k).2.2.1 = some (tyX6 k) := by decide +kernel
abbrev cX6_init : ByteArray := prog_8_method_1_code
def yX6_init : MethodName := ⟨RX6, "<init>", "()V"⟩
abbrev cX6_begin : ByteArray := prog_8_method_2_code
def yX6_begin : MethodName := ⟨RX6, "begin", "(LLifeDrawer$Told;)V"⟩
abbrev cX6_copyFrom : ByteArray := prog_8_method_3_code
def yX6_copyFrom : MethodName := ⟨RX6, "copyFrom", "(LLifeDrawer$State;)V"⟩
abbrev cX6_isAlive : ByteArray := prog_8_method_4_code
def yX6_isAlive : MethodName := ⟨RX6, "isAlive", "(I)Z"⟩
abbrev cX6_pieces : ByteArray := prog_8_method_5_code
def yX6_pieces : MethodName := ⟨RX6, "pieces", "(I)I"⟩
def RX7 : String := "LifeDrawer$Tape"
def TX7 : u_T := fun k => match k with
  | 0 => ("LifeDrawer$Tape", "bytes", "[B", true)
  | 1 => ("LifeDrawer$Tape", "filled", "I", false)
  | 2 => ("LifeDrawer$Tape", "length", "I", false)
  | 3 => ("LifeDrawer$Tape", "place", "I", false)
  | 4 => ("LifeDrawer$Tape", "fault", "I", false)
  | _ => ("LifeDrawer$Tape", "faultAt", "I", false)
def tyX7 : Nat → FieldType := fun k => match k with
  | 0 => .array .byte
  | 1 => .int
  | 2 => .int
  | 3 => .int
  | 4 => .int
  | _ => .int
abbrev wsX70 : List Cond := u_ws RX7 TX7 6
theorem nmX7 : ∀ a, a < 6 → ∀ b, b < 6 → a ≠ b → (TX7 a).2.1 ≠ (TX7 b).2.1 := by decide +kernel
theorem tyX7_ok : ∀ k, k < 6 → parseFieldDescriptor (TX7 k).2.2.1 = some (tyX7 k) := by decide +kernel
abbrev cX7_init : ByteArray := prog_9_method_1_code
def yX7_init : MethodName := ⟨RX7, "<init>", "()V"⟩
abbrev cX7_put : ByteArray := prog_9_method_2_code
def yX7_put : MethodName := ⟨RX7, "put", "(I)V"⟩
abbrev cX7_open : ByteArray := prog_9_method_3_code
def yX7_open : MethodName := ⟨RX7, "open", "(I)V"⟩
abbrev cX7_fail : ByteArray := prog_9_method_4_code
def yX7_fail : MethodName := ⟨RX7, "fail", "(II)Z"⟩
abbrev cX7_failed : ByteArray := prog_9_method_5_code
def yX7_failed : MethodName := ⟨RX7, "failed", "()Z"⟩
abbrev cX7_peek : ByteArray := prog_9_method_6_code
def yX7_peek : MethodName := ⟨RX7, "peek", "()I"⟩
abbrev cX7_nextPlace : ByteArray := prog_9_method_7_code
def yX7_nextPlace : MethodName := ⟨RX7, "nextPlace", "()I"⟩
abbrev cX7_takeSign : ByteArray := prog_9_method_8_code
def yX7_takeSign : MethodName := ⟨RX7, "takeSign", "(I)Z"⟩
abbrev cX7_takeNumber : ByteArray := prog_9_method_9_code
def yX7_takeNumber : MethodName := ⟨RX7, "takeNumber", "(II)I"⟩
abbrev cX7_takeWord : ByteArray := prog_9_method_10_code
def yX7_takeWord : MethodName := ⟨RX7, "takeWord", "(Ljava/lang/String;)I"⟩
abbrev cX7_find : ByteArray := prog_9_method_11_code
def yX7_find : MethodName := ⟨RX7, "find", "(Ljava/lang/String;II)I"⟩
def RX8 : String := "LifeDrawer$Told"
def TX8 : u_T := fun k => match k with
  | 0 => ("LifeDrawer$Told", "age", "[I", true)
  | 1 => ("LifeDrawer$Told", "odds", "[I", true)
  | 2 => ("LifeDrawer$Told", "worth", "[I", true)
  | 3 => ("LifeDrawer$Told", "hours", "[I", true)
  | 4 => ("LifeDrawer$Told", "has", "[I", true)
  | 5 => ("LifeDrawer$Told", "by", "[I", true)
  | 6 => ("LifeDrawer$Told", "factLife", "[I", true)
  | 7 => ("LifeDrawer$Told", "factKind", "[I", true)
  | 8 => ("LifeDrawer$Told", "factWeek", "[I", true)
  | 9 => ("LifeDrawer$Told", "lives", "I", false)
  | 10 => ("LifeDrawer$Told", "changes", "I", false)
  | 11 => ("LifeDrawer$Told", "weekHours", "I", false)
  | 12 => ("LifeDrawer$Told", "lackPrice", "I", false)
  | 13 => ("LifeDrawer$Told", "wrongPrice", "I", false)
  | _ => ("LifeDrawer$Told", "half", "I", false)
def tyX8 : Nat → FieldType := fun k => match k with
  | 0 => .array .int
  | 1 => .array .int
  | 2 => .array .int
  | 3 => .array .int
  | 4 => .array .int
  | 5 => .array .int
  | 6 => .array .int
  | 7 => .array .int
  | 8 => .array .int
  | 9 => .int
  | 10 => .int
  | 11 => .int
  | 12 => .int
  | 13 => .int
  | _ => .int
abbrev wsX80 : List Cond := u_ws RX8 TX8 15
theorem nmX8 : ∀ a, a < 15 → ∀ b, b < 15 → a ≠ b → (TX8 a).2.1 ≠ (TX8 b).2.1 := by decide +kernel
theorem tyX8_ok : ∀ k, k < 15 → parseFieldDescriptor (TX8 k).2.2.1 = some (tyX8 k) := by decide +kernel
abbrev cX8_init : ByteArray := prog_10_method_1_code
def yX8_init : MethodName := ⟨RX8, "<init>", "()V"⟩
abbrev cX8_clear : ByteArray := prog_10_method_2_code
def yX8_clear : MethodName := ⟨RX8, "clear", "()V"⟩
abbrev cX8_copyFrom : ByteArray := prog_10_method_3_code
def yX8_copyFrom : MethodName := ⟨RX8, "copyFrom", "(LLifeDrawer$Told;)V"⟩
abbrev cX8_read : ByteArray := prog_10_method_4_code
def yX8_read : MethodName := ⟨RX8, "read", "(LLifeDrawer$Tape;)Z"⟩
abbrev cX8_readClause : ByteArray := prog_10_method_5_code
def yX8_readClause : MethodName := ⟨RX8, "readClause", "(LLifeDrawer$Tape;I)Z"⟩
abbrev cX8_readLife : ByteArray := prog_10_method_6_code
def yX8_readLife : MethodName := ⟨RX8, "readLife", "(LLifeDrawer$Tape;)Z"⟩
abbrev cX8_readHas : ByteArray := prog_10_method_7_code
def yX8_readHas : MethodName := ⟨RX8, "readHas", "(LLifeDrawer$Tape;)Z"⟩
abbrev cX8_readBy : ByteArray := prog_10_method_8_code
def yX8_readBy : MethodName := ⟨RX8, "readBy", "(LLifeDrawer$Tape;)Z"⟩
abbrev cX8_readFact : ByteArray := prog_10_method_9_code
def yX8_readFact : MethodName := ⟨RX8, "readFact", "(LLifeDrawer$Tape;)Z"⟩
abbrev cX8_readRule : ByteArray := prog_10_method_10_code
def yX8_readRule : MethodName := ⟨RX8, "readRule", "(LLifeDrawer$Tape;I)Z"⟩
abbrev cX8_renewHours : ByteArray := prog_10_method_11_code
def yX8_renewHours : MethodName := ⟨RX8, "renewHours", "(I)I"⟩
abbrev cX8_changesBetween : ByteArray := prog_10_method_12_code
def yX8_changesBetween : MethodName := ⟨RX8, "changesBetween", "(III)I"⟩
abbrev cX8_factBits : ByteArray := prog_10_method_13_code
def yX8_factBits : MethodName := ⟨RX8, "factBits", "(II)I"⟩
abbrev cX8_nextChange : ByteArray := prog_10_method_14_code
def yX8_nextChange : MethodName := ⟨RX8, "nextChange", "(II)I"⟩
def RX9 : String := "LifeDrawer$Work"
def TX9 : u_T := fun k => match k with
  | 0 => ("LifeDrawer$Work", "kind", "[I", true)
  | 1 => ("LifeDrawer$Work", "number", "[I", true)
  | 2 => ("LifeDrawer$Work", "end", "[I", true)
  | 3 => ("LifeDrawer$Work", "size", "I", false)
  | 4 => ("LifeDrawer$Work", "begun", "I", false)
  | 5 => ("LifeDrawer$Work", "done", "I", false)
  | _ => ("LifeDrawer$Work", "refused", "I", false)
def tyX9 : Nat → FieldType := fun k => match k with
  | 0 => .array .int
  | 1 => .array .int
  | 2 => .array .int
  | 3 => .int
  | 4 => .int
  | 5 => .int
  | _ => .int
abbrev wsX90 : List Cond := u_ws RX9 TX9 7
theorem nmX9 : ∀ a, a < 7 → ∀ b, b < 7 → a ≠ b → (TX9 a).2.1 ≠ (TX9 b).2.1 := by decide +kernel
theorem tyX9_ok : ∀ k, k < 7 → parseFieldDescriptor (TX9 k).2.2.1 = some (tyX9 k) := by decide +kernel
abbrev cX9_init : ByteArray := prog_11_method_1_code
def yX9_init : MethodName := ⟨RX9, "<init>", "()V"⟩
abbrev cX9_read : ByteArray := prog_11_method_2_code
def yX9_read : MethodName := ⟨RX9, "read", "(LLifeDrawer$Tape;I)Z"⟩
abbrev cX9_readSteps : ByteArray := prog_11_method_3_code
def yX9_readSteps : MethodName := ⟨RX9, "readSteps", "(LLifeDrawer$Tape;II)Z"⟩
abbrev cX9_readStep : ByteArray := prog_11_method_4_code
def yX9_readStep : MethodName := ⟨RX9, "readStep", "(LLifeDrawer$Tape;II)Z"⟩
abbrev cX9_readAgain : ByteArray := prog_11_method_5_code
def yX9_readAgain : MethodName := ⟨RX9, "readAgain", "(LLifeDrawer$Tape;III)Z"⟩
abbrev cX9_perform : ByteArray := prog_11_method_6_code
def yX9_perform : MethodName := ⟨RX9, "perform", "(LLifeDrawer$Desk;LLifeDrawer$State;III)V"⟩
abbrev cX9_performStep : ByteArray := prog_11_method_7_code
def yX9_performStep : MethodName := ⟨RX9, "performStep", "(LLifeDrawer$Desk;LLifeDrawer$State;II)Z"⟩
def RX10 : String := "LifeDrawer"
def TX10 : u_T := fun k => match k with
  | 0 => ("LifeDrawer", "tape", "LLifeDrawer$Tape;", true)
  | 1 => ("LifeDrawer", "told", "LLifeDrawer$Told;", true)
  | 2 => ("LifeDrawer", "draft", "LLifeDrawer$Told;", true)
  | 3 => ("LifeDrawer", "law", "LLifeDrawer$Law;", true)
  | 4 => ("LifeDrawer", "page", "LLifeDrawer$Page;", true)
  | 5 => ("LifeDrawer", "work", "LLifeDrawer$Work;", true)
  | 6 => ("LifeDrawer", "desk", "LLifeDrawer$Desk;", true)
  | 7 => ("LifeDrawer", "plan", "LLifeDrawer$Plan;", true)
  | 8 => ("LifeDrawer", "seeds", "LLifeDrawer$Seeds;", true)
  | 9 => ("LifeDrawer", "here", "LLifeDrawer$Shelf;", true)
  | 10 => ("LifeDrawer", "images", "[LLifeDrawer$Shelf;", true)
  | 11 => ("LifeDrawer", "looks", "[I", true)
  | 12 => ("LifeDrawer", "rooms", "[I", true)
  | 13 => ("LifeDrawer", "imageCount", "I", false)
  | 14 => ("LifeDrawer", "refusedSteps", "I", false)
  | 15 => ("LifeDrawer", "noSuchCalls", "I", false)
  | _ => ("LifeDrawer", "badCalls", "I", false)
def tyX10 : Nat → FieldType := fun k => match k with
  | 0 => .object "LifeDrawer$Tape"
  | 1 => .object "LifeDrawer$Told"
  | 2 => .object "LifeDrawer$Told"
  | 3 => .object "LifeDrawer$Law"
  | 4 => .object "LifeDrawer$Page"
  | 5 => .object "LifeDrawer$Work"
  | 6 => .object "LifeDrawer$Desk"
  | 7 => .object "LifeDrawer$Plan"
  | 8 => .object "LifeDrawer$Seeds"
  | 9 => .object "LifeDrawer$Shelf"
  | 10 => .array (.object "LifeDrawer$Shelf")
  | 11 => .array .int
  | 12 => .array .int
  | 13 => .int
  | 14 => .int
  | 15 => .int
  | _ => .int
abbrev wsX100 : List Cond := u_ws RX10 TX10 17
theorem nmX10 : ∀ a, a < 17 → ∀ b, b < 17 → a ≠ b → (TX10 a).2.1 ≠ (TX10 b).2.1 := by decide +kernel
theorem tyX10_ok : ∀ k, k < 17 → parseFieldDescriptor (TX10 k).2.2.1 = some (tyX10 k) := by decide +kernel
abbrev cX10_init : ByteArray := prog_1_method_1_code
def yX10_init : MethodName := ⟨RX10, "<init>", "()V"⟩
abbrev cX10_feed : ByteArray := prog_1_method_2_code
def yX10_feed : MethodName := ⟨RX10, "feed", "(IIIII)I"⟩
abbrev cX10_drawer : ByteArray := prog_1_method_3_code
def yX10_drawer : MethodName := ⟨RX10, "drawer", "(I)I"⟩
abbrev cX10_law : ByteArray := prog_1_method_4_code
def yX10_law : MethodName := ⟨RX10, "law", "(I)I"⟩
abbrev cX10_work : ByteArray := prog_1_method_5_code
def yX10_work : MethodName := ⟨RX10, "work", "(I)I"⟩
abbrev cX10_page : ByteArray := prog_1_method_6_code
def yX10_page : MethodName := ⟨RX10, "page", "(I)I"⟩
abbrev cX10_fault : ByteArray := prog_1_method_7_code
def yX10_fault : MethodName := ⟨RX10, "fault", "()I"⟩
abbrev cX10_undo : ByteArray := prog_1_method_8_code
def yX10_undo : MethodName := ⟨RX10, "undo", "()I"⟩
abbrev cX10_told : ByteArray := prog_1_method_9_code
def yX10_told : MethodName := ⟨RX10, "told", "(I)I"⟩
abbrev cX10_life : ByteArray := prog_1_method_10_code
def yX10_life : MethodName := ⟨RX10, "life", "(II)I"⟩
abbrev cX10_facts : ByteArray := prog_1_method_11_code
def yX10_facts : MethodName := ⟨RX10, "facts", "(I)I"⟩
abbrev cX10_wrong : ByteArray := prog_1_method_12_code
def yX10_wrong : MethodName := ⟨RX10, "wrong", "(I)I"⟩
abbrev cX10_would : ByteArray := prog_1_method_13_code
def yX10_would : MethodName := ⟨RX10, "would", "(IIIII)I"⟩
abbrev cX10_lacking : ByteArray := prog_1_method_14_code
def yX10_lacking : MethodName := ⟨RX10, "lacking", "()I"⟩
abbrev cX10_signed : ByteArray := prog_1_method_15_code
def yX10_signed : MethodName := ⟨RX10, "signed", "()I"⟩
abbrev cX10_stale : ByteArray := prog_1_method_16_code
def yX10_stale : MethodName := ⟨RX10, "stale", "(I)I"⟩
abbrev cX10_oldest : ByteArray := prog_1_method_17_code
def yX10_oldest : MethodName := ⟨RX10, "oldest", "()I"⟩
abbrev cX10_chain : ByteArray := prog_1_method_18_code
def yX10_chain : MethodName := ⟨RX10, "chain", "(II)I"⟩
abbrev cX10_loss : ByteArray := prog_1_method_19_code
def yX10_loss : MethodName := ⟨RX10, "loss", "(I)J"⟩
abbrev cX10_cost : ByteArray := prog_1_method_20_code
def yX10_cost : MethodName := ⟨RX10, "cost", "(II)J"⟩
abbrev cX10_risk : ByteArray := prog_1_method_21_code
def yX10_risk : MethodName := ⟨RX10, "risk", "(I)J"⟩
abbrev cX10_saves : ByteArray := prog_1_method_22_code
def yX10_saves : MethodName := ⟨RX10, "saves", "(II)J"⟩
abbrev cX10_first : ByteArray := prog_1_method_23_code
def yX10_first : MethodName := ⟨RX10, "first", "()I"⟩
abbrev cX10_ahead : ByteArray := prog_1_method_24_code
def yX10_ahead : MethodName := ⟨RX10, "ahead", "(II)J"⟩
abbrev cX10_worst : ByteArray := prog_1_method_25_code
def yX10_worst : MethodName := ⟨RX10, "worst", "()I"⟩
abbrev cX10_lives : ByteArray := prog_1_method_26_code
def yX10_lives : MethodName := ⟨RX10, "lives", "(III)J"⟩
abbrev cX10_due : ByteArray := prog_1_method_27_code
def yX10_due : MethodName := ⟨RX10, "due", "(II)I"⟩
abbrev cX10_news : ByteArray := prog_1_method_28_code
def yX10_news : MethodName := ⟨RX10, "news", "(I)I"⟩
abbrev cX10_expects : ByteArray := prog_1_method_29_code
def yX10_expects : MethodName := ⟨RX10, "expects", "(III)J"⟩
abbrev cX10_best : ByteArray := prog_1_method_30_code
def yX10_best : MethodName := ⟨RX10, "best", "(II)J"⟩
abbrev cX10_bestIn : ByteArray := prog_1_method_31_code
def yX10_bestIn : MethodName := ⟨RX10, "bestIn", "(II)I"⟩
abbrev cX10_often : ByteArray := prog_1_method_32_code
def yX10_often : MethodName := ⟨RX10, "often", "(II)I"⟩
abbrev cX10_yearly : ByteArray := prog_1_method_33_code
def yX10_yearly : MethodName := ⟨RX10, "yearly", "(IIII)J"⟩
abbrev cX10_brings : ByteArray := prog_1_method_34_code
def yX10_brings : MethodName := ⟨RX10, "brings", "(IIIIII)I"⟩
abbrev cX10_says : ByteArray := prog_1_method_35_code
def yX10_says : MethodName := ⟨RX10, "says", "(IIIII)I"⟩
abbrev cX10_line : ByteArray := prog_1_method_36_code
def yX10_line : MethodName := ⟨RX10, "line", "(IIII)I"⟩
abbrev cX10_room : ByteArray := prog_1_method_37_code
def yX10_room : MethodName := ⟨RX10, "room", "(II)I"⟩
abbrev cX10_lines : ByteArray := prog_1_method_38_code
def yX10_lines : MethodName := ⟨RX10, "lines", "(III)I"⟩
abbrev cX10_apart : ByteArray := prog_1_method_39_code
def yX10_apart : MethodName := ⟨RX10, "apart", "(II)I"⟩
abbrev cX10_twins : ByteArray := prog_1_method_40_code
def yX10_twins : MethodName := ⟨RX10, "twins", "()I"⟩
abbrev cX10_written : ByteArray := prog_1_method_41_code
def yX10_written : MethodName := ⟨RX10, "written", "(I)J"⟩
abbrev cX10_whose : ByteArray := prog_1_method_42_code
def yX10_whose : MethodName := ⟨RX10, "whose", "()I"⟩
abbrev cX10_years : ByteArray := prog_1_method_43_code
def yX10_years : MethodName := ⟨RX10, "years", "(III)I"⟩
abbrev cX10_span : ByteArray := prog_1_method_44_code
def yX10_span : MethodName := ⟨RX10, "span", "(IIIII)I"⟩
abbrev cX10_image : ByteArray := prog_1_method_45_code
def yX10_image : MethodName := ⟨RX10, "image", "()I"⟩
abbrev cX10_restore : ByteArray := prog_1_method_46_code
def yX10_restore : MethodName := ⟨RX10, "restore", "()I"⟩
abbrev cX10_status : ByteArray := prog_1_method_47_code
def yX10_status : MethodName := ⟨RX10, "status", "(I)I"⟩
abbrev cX10_count : ByteArray := prog_1_method_48_code
def yX10_count : MethodName := ⟨RX10, "count", "(I)I"⟩
abbrev cX10_needLife : ByteArray := prog_1_method_49_code
def yX10_needLife : MethodName := ⟨RX10, "needLife", "(I)V"⟩
abbrev cX10_needWithin : ByteArray := prog_1_method_50_code
def yX10_needWithin : MethodName := ⟨RX10, "needWithin", "(III)V"⟩
abbrev cX10_needPart : ByteArray := prog_1_method_51_code
def yX10_needPart : MethodName := ⟨RX10, "needPart", "(I)V"⟩
abbrev cX10_needBits : ByteArray := prog_1_method_52_code
def yX10_needBits : MethodName := ⟨RX10, "needBits", "(I)V"⟩
abbrev cX10_needRumour : ByteArray := prog_1_method_53_code
def yX10_needRumour : MethodName := ⟨RX10, "needRumour", "(IIII)V"⟩
abbrev cX10_openText : ByteArray := prog_1_method_54_code
def yX10_openText : MethodName := ⟨RX10, "openText", "(II)V"⟩
abbrev cX10_aheadMost : ByteArray := prog_1_method_55_code
def yX10_aheadMost : MethodName := ⟨RX10, "aheadMost", "()I"⟩
abbrev cX10_piecesWrongBy : ByteArray := prog_1_method_56_code
def yX10_piecesWrongBy : MethodName := ⟨RX10, "piecesWrongBy", "(I)I"⟩
abbrev cX10_renewalPrice : ByteArray := prog_1_method_57_code
def yX10_renewalPrice : MethodName := ⟨RX10, "renewalPrice", "(II)J"⟩
abbrev cX10_meanOf : ByteArray := prog_1_method_58_code
def yX10_meanOf : MethodName := ⟨RX10, "meanOf", "(IIIIII)I"⟩
abbrev cX10_bestWay : ByteArray := prog_1_method_59_code
def yX10_bestWay : MethodName := ⟨RX10, "bestWay", "(IIIII)I"⟩
abbrev cX10_fillRoom : ByteArray := prog_1_method_60_code
def yX10_fillRoom : MethodName := ⟨RX10, "fillRoom", "(II)I"⟩
abbrev cX10_addToRoom : ByteArray := prog_1_method_61_code
def yX10_addToRoom : MethodName := ⟨RX10, "addToRoom", "(II)V"⟩
abbrev cX10_roomShift : ByteArray := prog_1_method_62_code
def yX10_roomShift : MethodName := ⟨RX10, "roomShift", "(I)I"⟩
abbrev cX10_roomWorth : ByteArray := prog_1_method_63_code
def yX10_roomWorth : MethodName := ⟨RX10, "roomWorth", "(I)I"⟩
abbrev cX10_look : ByteArray := prog_1_method_64_code
def yX10_look : MethodName := ⟨RX10, "look", "()V"⟩
abbrev cX10_tellsApart : ByteArray := prog_1_method_65_code
def yX10_tellsApart : MethodName := ⟨RX10, "tellsApart", "(II)Z"⟩
abbrev cX10_weeksAsPage : ByteArray := prog_1_method_66_code
def yX10_weeksAsPage : MethodName := ⟨RX10, "weeksAsPage", "(I)J"⟩
abbrev cX10_termOf : ByteArray := prog_1_method_67_code
def yX10_termOf : MethodName := ⟨RX10, "termOf", "(JJI)J"⟩
def RX11 : String := "LifeDrawerModel"
def TX11 : u_T := fun k => match k with
  | 0 => ("LifeDrawerModel", "thrown", "I", false)
  | 1 => ("LifeDrawerModel", "tape", "I", false)
  | 2 => ("LifeDrawerModel", "size", "I", false)
  | 3 => ("LifeDrawerModel", "place", "I", false)
  | 4 => ("LifeDrawerModel", "at", "I", false)
  | 5 => ("LifeDrawerModel", "fault", "I", false)
  | 6 => ("LifeDrawerModel", "faultAt", "I", false)
  | 7 => ("LifeDrawerModel", "clauses", "I", false)
  | 8 => ("LifeDrawerModel", "open", "I", false)
  | 9 => ("LifeDrawerModel", "fed", "[I", true)
  | 10 => ("LifeDrawerModel", "refused", "[I", true)
  | 11 => ("LifeDrawerModel", "readTold", "[I", true)
  | 12 => ("LifeDrawerModel", "told", "[I", true)
  | 13 => ("LifeDrawerModel", "readLife", "[[I", true)
  | 14 => ("LifeDrawerModel", "life", "[[I", true)
  | 15 => ("LifeDrawerModel", "readFact", "[[I", true)
  | 16 => ("LifeDrawerModel", "fact", "[[I", true)
  | 17 => ("LifeDrawerModel", "lawMany", "I", false)
  | 18 => ("LifeDrawerModel", "readLawMany", "I", false)
  | 19 => ("LifeDrawerModel", "law", "[[I", true)
  | 20 => ("LifeDrawerModel", "readLaw", "[[I", true)
  | 21 => ("LifeDrawerModel", "page", "[[I", true)
  | 22 => ("LifeDrawerModel", "readPage", "[[I", true)
  | 23 => ("LifeDrawerModel", "stack", "[I", true)
  | 24 => ("LifeDrawerModel", "known", "[I", true)
  | 25 => ("LifeDrawerModel", "step", "[[I", true)
  | 26 => ("LifeDrawerModel", "steps", "I", false)
  | 27 => ("LifeDrawerModel", "now", "[I", true)
  | 28 => ("LifeDrawerModel", "trial", "[I", true)
  | 29 => ("LifeDrawerModel", "before", "[[I", true)
  | 30 => ("LifeDrawerModel", "kept", "[[I", true)
  | 31 => ("LifeDrawerModel", "lines", "I", false)
  | 32 => ("LifeDrawerModel", "works", "I", false)
  | 33 => ("LifeDrawerModel", "refusedSteps", "I", false)
  | 34 => ("LifeDrawerModel", "images", "I", false)
  | 35 => ("LifeDrawerModel", "spot", "I", false)
  | 36 => ("LifeDrawerModel", "begun", "I", false)
  | 37 => ("LifeDrawerModel", "doneSteps", "I", false)
  | 38 => ("LifeDrawerModel", "least", "[J", true)
  | 39 => ("LifeDrawerModel", "ways", "[J", true)
  | 40 => ("LifeDrawerModel", "nextLeast", "[J", true)
  | 41 => ("LifeDrawerModel", "nextWays", "[J", true)
  | 42 => ("LifeDrawerModel", "spent", "[I", true)
  | 43 => ("LifeDrawerModel", "optionLoss", "J", false)
  | 44 => ("LifeDrawerModel", "gets", "[I", true)
  | 45 => ("LifeDrawerModel", "bestGets", "[I", true)
  | 46 => ("LifeDrawerModel", "mostWorth", "I", false)
  | 47 => ("LifeDrawerModel", "lots", "I", false)
  | _ => ("LifeDrawerModel", "wrote", "I", false)
def tyX11 : Nat → FieldType := fun k => match k with
  | 0 => .int
  | 1 => .int
  | 2 => .int
  | 3 => .int
  | 4 => .int
  | 5 => .int
  | 6 => .int
  | 7 => .int
  | 8 => .int
  | 9 => .array .int
  | 10 => .array .int
  | 11 => .array .int
  | 12 => .array .int
  | 13 => .array (.array .int)
  | 14 => .array (.array .int)
  | 15 => .array (.array .int)
  | 16 => .array (.array .int)
  | 17 => .int
  | 18 => .int
  | 19 => .array (.array .int)
  | 20 => .array (.array .int)
  | 21 => .array (.array .int)
  | 22 => .array (.array .int)
  | 23 => .array .int
  | 24 => .array .int
  | 25 => .array (.array .int)
  | 26 => .int
  | 27 => .array .int
  | 28 => .array .int
  | 29 => .array (.array .int)
  | 30 => .array (.array .int)
  | 31 => .int
  | 32 => .int
  | 33 => .int
  | 34 => .int
  | 35 => .int
  | 36 => .int
  | 37 => .int
  | 38 => .array .long
  | 39 => .array .long
  | 40 => .array .long
  | 41 => .array .long
  | 42 => .array .int
  | 43 => .long
  | 44 => .array .int
  | 45 => .array .int
  | 46 => .int
  | 47 => .int
  | _ => .int
abbrev wsX110 : List Cond := u_ws RX11 TX11 49
theorem nmX11 : ∀ a, a < 49 → ∀ b, b < 49 → a ≠ b → (TX11 a).2.1 ≠ (TX11 b).2.1 := by decide +kernel
theorem tyX11_ok : ∀ k, k < 49 → parseFieldDescriptor (TX11 k).2.2.1 = some (tyX11 k) := by decide +kernel
abbrev cX11_init : ByteArray := prog_13_method_1_code
def yX11_init : MethodName := ⟨RX11, "<init>", "()V"⟩
abbrev cX11_tellsNothing : ByteArray := prog_13_method_2_code
def yX11_tellsNothing : MethodName := ⟨RX11, "tellsNothing", "()V"⟩
abbrev cX11_bad : ByteArray := prog_13_method_4_code
def yX11_bad : MethodName := ⟨RX11, "bad", "(ZII)Z"⟩
abbrev cX11_in : ByteArray := prog_13_method_5_code
def yX11_in : MethodName := ⟨RX11, "in", "(III)Z"⟩
abbrev cX11_less : ByteArray := prog_13_method_6_code
def yX11_less : MethodName := ⟨RX11, "less", "(II)I"⟩
abbrev cX11_more : ByteArray := prog_13_method_7_code
def yX11_more : MethodName := ⟨RX11, "more", "(II)I"⟩
abbrev cX11_has : ByteArray := prog_13_method_8_code
def yX11_has : MethodName := ⟨RX11, "has", "(II)Z"⟩
abbrev cX11_feed : ByteArray := prog_13_method_9_code
def yX11_feed : MethodName := ⟨RX11, "feed", "(IIIII)I"⟩
abbrev cX11_byteAt : ByteArray := prog_13_method_10_code
def yX11_byteAt : MethodName := ⟨RX11, "byteAt", "(I)I"⟩
abbrev cX11_blanks : ByteArray := prog_13_method_11_code
def yX11_blanks : MethodName := ⟨RX11, "blanks", "()V"⟩
abbrev cX11_wrongAt : ByteArray := prog_13_method_12_code
def yX11_wrongAt : MethodName := ⟨RX11, "wrongAt", "(II)V"⟩
abbrev cX11_isDigit : ByteArray := prog_13_method_13_code
def yX11_isDigit : MethodName := ⟨RX11, "isDigit", "(I)Z"⟩
abbrev cX11_isSmall : ByteArray := prog_13_method_14_code
def yX11_isSmall : MethodName := ⟨RX11, "isSmall", "(I)Z"⟩
abbrev cX11_number : ByteArray := prog_13_method_15_code
def yX11_number : MethodName := ⟨RX11, "number", "(II)I"⟩
abbrev cX11_wordHere : ByteArray := prog_13_method_16_code
def yX11_wordHere : MethodName := ⟨RX11, "wordHere", "()I"⟩
abbrev cX11_five : ByteArray := prog_13_method_17_code
def yX11_five : MethodName := ⟨RX11, "five", "(IIIII)I"⟩
abbrev cX11_isWord : ByteArray := prog_13_method_18_code
def yX11_isWord : MethodName := ⟨RX11, "isWord", "(IIIII)Z"⟩
abbrev cX11_skipWord : ByteArray := prog_13_method_19_code
def yX11_skipWord : MethodName := ⟨RX11, "skipWord", "()V"⟩
abbrev cX11_takes : ByteArray := prog_13_method_20_code
def yX11_takes : MethodName := ⟨RX11, "takes", "(IIIII)Z"⟩
abbrev cX11_sign : ByteArray := prog_13_method_21_code
def yX11_sign : MethodName := ⟨RX11, "sign", "(I)V"⟩
abbrev cX11_takesSign : ByteArray := prog_13_method_22_code
def yX11_takesSign : MethodName := ⟨RX11, "takesSign", "(I)Z"⟩
abbrev cX11_starts : ByteArray := prog_13_method_23_code
def yX11_starts : MethodName := ⟨RX11, "starts", "(I)V"⟩
abbrev cX11_ends : ByteArray := prog_13_method_24_code
def yX11_ends : MethodName := ⟨RX11, "ends", "()I"⟩
abbrev cX11_kindHere : ByteArray := prog_13_method_25_code
def yX11_kindHere : MethodName := ⟨RX11, "kindHere", "()I"⟩
abbrev cX11_lifeHere : ByteArray := prog_13_method_26_code
def yX11_lifeHere : MethodName := ⟨RX11, "lifeHere", "()I"⟩
abbrev cX11_clause : ByteArray := prog_13_method_27_code
def yX11_clause : MethodName := ⟨RX11, "clause", "()V"⟩
abbrev cX11_drawer : ByteArray := prog_13_method_28_code
def yX11_drawer : MethodName := ⟨RX11, "drawer", "(I)I"⟩
abbrev cX11_lays : ByteArray := prog_13_method_29_code
def yX11_lays : MethodName := ⟨RX11, "lays", "([[I[[II)V"⟩
abbrev cX11_copies : ByteArray := prog_13_method_30_code
def yX11_copies : MethodName := ⟨RX11, "copies", "([I[I)V"⟩
abbrev cX11_stands : ByteArray := prog_13_method_31_code
def yX11_stands : MethodName := ⟨RX11, "stands", "()V"⟩
abbrev cX11_notes : ByteArray := prog_13_method_32_code
def yX11_notes : MethodName := ⟨RX11, "notes", "(II)V"⟩
abbrev cX11_opens : ByteArray := prog_13_method_33_code
def yX11_opens : MethodName := ⟨RX11, "opens", "()Z"⟩
abbrev cX11_sum : ByteArray := prog_13_method_34_code
def yX11_sum : MethodName := ⟨RX11, "sum", "()V"⟩
abbrev cX11_product : ByteArray := prog_13_method_35_code
def yX11_product : MethodName := ⟨RX11, "product", "()V"⟩
abbrev cX11_knownHere : ByteArray := prog_13_method_36_code
def yX11_knownHere : MethodName := ⟨RX11, "knownHere", "()I"⟩
abbrev cX11_one : ByteArray := prog_13_method_37_code
def yX11_one : MethodName := ⟨RX11, "one", "()V"⟩
abbrev cX11_law : ByteArray := prog_13_method_38_code
def yX11_law : MethodName := ⟨RX11, "law", "(I)I"⟩
abbrev cX11_by : ByteArray := prog_13_method_39_code
def yX11_by : MethodName := ⟨RX11, "by", "(III)I"⟩
abbrev cX11_byLaw : ByteArray := prog_13_method_40_code
def yX11_byLaw : MethodName := ⟨RX11, "byLaw", "()I"⟩
abbrev cX11_stepHere : ByteArray := prog_13_method_41_code
def yX11_stepHere : MethodName := ⟨RX11, "stepHere", "()I"⟩
abbrev cX11_readsStep : ByteArray := prog_13_method_42_code
def yX11_readsStep : MethodName := ⟨RX11, "readsStep", "()V"⟩
abbrev cX11_page : ByteArray := prog_13_method_43_code
def yX11_page : MethodName := ⟨RX11, "page", "(I)I"⟩
abbrev cX11_fault : ByteArray := prog_13_method_44_code
def yX11_fault : MethodName := ⟨RX11, "fault", "()I"⟩
abbrev cX11_hasPiece : ByteArray := prog_13_method_45_code
def yX11_hasPiece : MethodName := ⟨RX11, "hasPiece", "([II)Z"⟩
abbrev cX11_changesOf : ByteArray := prog_13_method_46_code
def yX11_changesOf : MethodName := ⟨RX11, "changesOf", "(III)I"⟩
abbrev cX11_factsAt : ByteArray := prog_13_method_47_code
def yX11_factsAt : MethodName := ⟨RX11, "factsAt", "(II)I"⟩
abbrev cX11_wrongBy : ByteArray := prog_13_method_48_code
def yX11_wrongBy : MethodName := ⟨RX11, "wrongBy", "(IIIII)I"⟩
abbrev cX11_yearsOf : ByteArray := prog_13_method_49_code
def yX11_yearsOf : MethodName := ⟨RX11, "yearsOf", "(II)I"⟩
abbrev cX11_isByDead : ByteArray := prog_13_method_50_code
def yX11_isByDead : MethodName := ⟨RX11, "isByDead", "([II)I"⟩
abbrev cX11_wrongIn : ByteArray := prog_13_method_51_code
def yX11_wrongIn : MethodName := ⟨RX11, "wrongIn", "([IIII)I"⟩
abbrev cX11_costIn : ByteArray := prog_13_method_52_code
def yX11_costIn : MethodName := ⟨RX11, "costIn", "([IIII)I"⟩
abbrev cX11_costOf : ByteArray := prog_13_method_53_code
def yX11_costOf : MethodName := ⟨RX11, "costOf", "([II)I"⟩
abbrev cX11_renewHours : ByteArray := prog_13_method_54_code
def yX11_renewHours : MethodName := ⟨RX11, "renewHours", "(I)I"⟩
abbrev cX11_hoursFor : ByteArray := prog_13_method_55_code
def yX11_hoursFor : MethodName := ⟨RX11, "hoursFor", "([II)I"⟩
abbrev cX11_mayWrite : ByteArray := prog_13_method_56_code
def yX11_mayWrite : MethodName := ⟨RX11, "mayWrite", "([II)Z"⟩
abbrev cX11_writes : ByteArray := prog_13_method_57_code
def yX11_writes : MethodName := ⟨RX11, "writes", "([II)V"⟩
abbrev cX11_dies : ByteArray := prog_13_method_58_code
def yX11_dies : MethodName := ⟨RX11, "dies", "([II)V"⟩
abbrev cX11_weekEnds : ByteArray := prog_13_method_59_code
def yX11_weekEnds : MethodName := ⟨RX11, "weekEnds", "([I)Z"⟩
abbrev cX11_does : ByteArray := prog_13_method_60_code
def yX11_does : MethodName := ⟨RX11, "does", "([I[I)Z"⟩
abbrev cX11_goes : ByteArray := prog_13_method_61_code
def yX11_goes : MethodName := ⟨RX11, "goes", "(II)V"⟩
abbrev cX11_work : ByteArray := prog_13_method_62_code
def yX11_work : MethodName := ⟨RX11, "work", "(I)I"⟩
abbrev cX11_undo : ByteArray := prog_13_method_63_code
def yX11_undo : MethodName := ⟨RX11, "undo", "()I"⟩
abbrev cX11_aliveIn : ByteArray := prog_13_method_64_code
def yX11_aliveIn : MethodName := ⟨RX11, "aliveIn", "([I)I"⟩
abbrev cX11_told : ByteArray := prog_13_method_65_code
def yX11_told : MethodName := ⟨RX11, "told", "(I)I"⟩
abbrev cX11_isLife : ByteArray := prog_13_method_66_code
def yX11_isLife : MethodName := ⟨RX11, "isLife", "(I)Z"⟩
abbrev cX11_life : ByteArray := prog_13_method_67_code
def yX11_life : MethodName := ⟨RX11, "life", "(II)I"⟩
abbrev cX11_facts : ByteArray := prog_13_method_68_code
def yX11_facts : MethodName := ⟨RX11, "facts", "(I)I"⟩
abbrev cX11_wrongOf : ByteArray := prog_13_method_69_code
def yX11_wrongOf : MethodName := ⟨RX11, "wrongOf", "(I)I"⟩
abbrev cX11_wrong : ByteArray := prog_13_method_70_code
def yX11_wrong : MethodName := ⟨RX11, "wrong", "(I)I"⟩
abbrev cX11_would : ByteArray := prog_13_method_71_code
def yX11_would : MethodName := ⟨RX11, "would", "(IIIII)I"⟩
abbrev cX11_partOf : ByteArray := prog_13_method_72_code
def yX11_partOf : MethodName := ⟨RX11, "partOf", "(JJI)J"⟩
abbrev cX11_power : ByteArray := prog_13_method_73_code
def yX11_power : MethodName := ⟨RX11, "power", "(JI)J"⟩
abbrev cX11_noPart : ByteArray := prog_13_method_74_code
def yX11_noPart : MethodName := ⟨RX11, "noPart", "(II)Z"⟩
abbrev cX11_loss : ByteArray := prog_13_method_75_code
def yX11_loss : MethodName := ⟨RX11, "loss", "(I)J"⟩
abbrev cX11_cost : ByteArray := prog_13_method_76_code
def yX11_cost : MethodName := ⟨RX11, "cost", "(II)J"⟩
abbrev cX11_riskOf : ByteArray := prog_13_method_77_code
def yX11_riskOf : MethodName := ⟨RX11, "riskOf", "([I)J"⟩
abbrev cX11_risk : ByteArray := prog_13_method_78_code
def yX11_risk : MethodName := ⟨RX11, "risk", "(I)J"⟩
abbrev cX11_saved : ByteArray := prog_13_method_79_code
def yX11_saved : MethodName := ⟨RX11, "saved", "([II)I"⟩
abbrev cX11_saves : ByteArray := prog_13_method_80_code
def yX11_saves : MethodName := ⟨RX11, "saves", "(II)J"⟩
abbrev cX11_firstOf : ByteArray := prog_13_method_81_code
def yX11_firstOf : MethodName := ⟨RX11, "firstOf", "([II)I"⟩
abbrev cX11_first : ByteArray := prog_13_method_82_code
def yX11_first : MethodName := ⟨RX11, "first", "()I"⟩
abbrev cX11_lacking : ByteArray := prog_13_method_83_code
def yX11_lacking : MethodName := ⟨RX11, "lacking", "()I"⟩
abbrev cX11_signed : ByteArray := prog_13_method_84_code
def yX11_signed : MethodName := ⟨RX11, "signed", "()I"⟩
abbrev cX11_stale : ByteArray := prog_13_method_85_code
def yX11_stale : MethodName := ⟨RX11, "stale", "(I)I"⟩
abbrev cX11_isOption : ByteArray := prog_13_method_86_code
def yX11_isOption : MethodName := ⟨RX11, "isOption", "(III)Z"⟩
abbrev cX11_roomOf : ByteArray := prog_13_method_87_code
def yX11_roomOf : MethodName := ⟨RX11, "roomOf", "(III)I"⟩
abbrev cX11_laysOption : ByteArray := prog_13_method_88_code
def yX11_laysOption : MethodName := ⟨RX11, "laysOption", "(II)V"⟩
abbrev cX11_laysBest : ByteArray := prog_13_method_89_code
def yX11_laysBest : MethodName := ⟨RX11, "laysBest", "(I)I"⟩
abbrev cX11_best : ByteArray := prog_13_method_90_code
def yX11_best : MethodName := ⟨RX11, "best", "(II)J"⟩
abbrev cX11_bestIn : ByteArray := prog_13_method_91_code
def yX11_bestIn : MethodName := ⟨RX11, "bestIn", "(II)I"⟩
abbrev cX11_oftenBy : ByteArray := prog_13_method_92_code
def yX11_oftenBy : MethodName := ⟨RX11, "oftenBy", "(III)J"⟩
abbrev cX11_often : ByteArray := prog_13_method_93_code
def yX11_often : MethodName := ⟨RX11, "often", "(II)I"⟩
abbrev cX11_yearly : ByteArray := prog_13_method_94_code
def yX11_yearly : MethodName := ⟨RX11, "yearly", "(IIII)J"⟩
abbrev cX11_bringsBy : ByteArray := prog_13_method_95_code
def yX11_bringsBy : MethodName := ⟨RX11, "bringsBy", "(IIIIII)I"⟩
abbrev cX11_isRumour : ByteArray := prog_13_method_96_code
def yX11_isRumour : MethodName := ⟨RX11, "isRumour", "(IIII)Z"⟩
abbrev cX11_brings : ByteArray := prog_13_method_97_code
def yX11_brings : MethodName := ⟨RX11, "brings", "(IIIIII)I"⟩
abbrev cX11_saysBy : ByteArray := prog_13_method_98_code
def yX11_saysBy : MethodName := ⟨RX11, "saysBy", "(IIIII)I"⟩
abbrev cX11_says : ByteArray := prog_13_method_99_code
def yX11_says : MethodName := ⟨RX11, "says", "(IIIII)I"⟩
abbrev cX11_line : ByteArray := prog_13_method_100_code
def yX11_line : MethodName := ⟨RX11, "line", "(IIII)I"⟩
abbrev cX11_areLives : ByteArray := prog_13_method_101_code
def yX11_areLives : MethodName := ⟨RX11, "areLives", "(I)Z"⟩
abbrev cX11_rooms : ByteArray := prog_13_method_102_code
def yX11_rooms : MethodName := ⟨RX11, "rooms", "(IIII)V"⟩
abbrev cX11_laysRoom : ByteArray := prog_13_method_103_code
def yX11_laysRoom : MethodName := ⟨RX11, "laysRoom", "(II)V"⟩
abbrev cX11_room : ByteArray := prog_13_method_104_code
def yX11_room : MethodName := ⟨RX11, "room", "(II)I"⟩
abbrev cX11_lines : ByteArray := prog_13_method_105_code
def yX11_lines : MethodName := ⟨RX11, "lines", "(III)I"⟩
abbrev cX11_ones : ByteArray := prog_13_method_106_code
def yX11_ones : MethodName := ⟨RX11, "ones", "(I)I"⟩
abbrev cX11_isApart : ByteArray := prog_13_method_107_code
def yX11_isApart : MethodName := ⟨RX11, "isApart", "(II)Z"⟩
abbrev cX11_apart : ByteArray := prog_13_method_108_code
def yX11_apart : MethodName := ⟨RX11, "apart", "(II)I"⟩
abbrev cX11_twins : ByteArray := prog_13_method_109_code
def yX11_twins : MethodName := ⟨RX11, "twins", "()I"⟩
abbrev cX11_writtenOf : ByteArray := prog_13_method_110_code
def yX11_writtenOf : MethodName := ⟨RX11, "writtenOf", "(I)J"⟩
abbrev cX11_written : ByteArray := prog_13_method_111_code
def yX11_written : MethodName := ⟨RX11, "written", "(I)J"⟩
abbrev cX11_whose : ByteArray := prog_13_method_112_code
def yX11_whose : MethodName := ⟨RX11, "whose", "()I"⟩
abbrev cX11_riskIn : ByteArray := prog_13_method_113_code
def yX11_riskIn : MethodName := ⟨RX11, "riskIn", "(I)J"⟩
abbrev cX11_ahead : ByteArray := prog_13_method_114_code
def yX11_ahead : MethodName := ⟨RX11, "ahead", "(II)J"⟩
abbrev cX11_worst : ByteArray := prog_13_method_115_code
def yX11_worst : MethodName := ⟨RX11, "worst", "()I"⟩
abbrev cX11_lives : ByteArray := prog_13_method_116_code
def yX11_lives : MethodName := ⟨RX11, "lives", "(III)J"⟩
abbrev cX11_oldest : ByteArray := prog_13_method_117_code
def yX11_oldest : MethodName := ⟨RX11, "oldest", "()I"⟩
abbrev cX11_chain : ByteArray := prog_13_method_118_code
def yX11_chain : MethodName := ⟨RX11, "chain", "(II)I"⟩
abbrev cX11_due : ByteArray := prog_13_method_119_code
def yX11_due : MethodName := ⟨RX11, "due", "(II)I"⟩
abbrev cX11_news : ByteArray := prog_13_method_120_code
def yX11_news : MethodName := ⟨RX11, "news", "(I)I"⟩
abbrev cX11_expects : ByteArray := prog_13_method_121_code
def yX11_expects : MethodName := ⟨RX11, "expects", "(III)J"⟩
abbrev cX11_yearsBy : ByteArray := prog_13_method_122_code
def yX11_yearsBy : MethodName := ⟨RX11, "yearsBy", "(II)V"⟩
abbrev cX11_years : ByteArray := prog_13_method_123_code
def yX11_years : MethodName := ⟨RX11, "years", "(III)I"⟩
abbrev cX11_span : ByteArray := prog_13_method_124_code
def yX11_span : MethodName := ⟨RX11, "span", "(IIIII)I"⟩
abbrev cX11_puts : ByteArray := prog_13_method_125_code
def yX11_puts : MethodName := ⟨RX11, "puts", "([IIZ)I"⟩
abbrev cX11_putsAll : ByteArray := prog_13_method_126_code
def yX11_putsAll : MethodName := ⟨RX11, "putsAll", "([IZ)V"⟩
abbrev cX11_image : ByteArray := prog_13_method_127_code
def yX11_image : MethodName := ⟨RX11, "image", "()I"⟩
abbrev cX11_restore : ByteArray := prog_13_method_128_code
def yX11_restore : MethodName := ⟨RX11, "restore", "()I"⟩
abbrev cX11_status : ByteArray := prog_13_method_129_code
def yX11_status : MethodName := ⟨RX11, "status", "(I)I"⟩
abbrev cX11_count : ByteArray := prog_13_method_130_code
def yX11_count : MethodName := ⟨RX11, "count", "(I)I"⟩
def RJx145de : String := "java/io/Serializable"
def TJx145de : u_T := fun k => match k with
  | _ => ("", "", "", false)
def tyJx145de : Nat → FieldType := fun k => match k with
  | _ => .int
abbrev wsJx145de0 : List Cond := u_ws RJx145de TJx145de 0
theorem nmJx145de : ∀ a, a < 0 → ∀ b, b < 0 → a ≠ b → (TJx145de a).2.1 ≠ (TJx145de b).2.1 := by decide +kernel
theorem tyJx145de_ok : ∀ k, k < 0 → parseFieldDescriptor (TJx145de k).2.2.1 = some (tyJx145de k) := by decide +kernel
def RJx9f9b0 : String := "java/lang/CharSequence"
def TJx9f9b0 : u_T := fun k => match k with
  | _ => ("", "", "", false)
def tyJx9f9b0 : Nat → FieldType := fun k => match k with
  | _ => .int
abbrev wsJx9f9b00 : List Cond := u_ws RJx9f9b0 TJx9f9b0 0
theorem nmJx9f9b0 : ∀ a, a < 0 → ∀ b, b < 0 → a ≠ b → (TJx9f9b0 a).2.1 ≠ (TJx9f9b0 b).2.1 := by decide +kernel
theorem tyJx9f9b0_ok : ∀ k, k < 0 → parseFieldDescriptor (TJx9f9b0 k).2.2.1 = some (tyJx9f9b0 k) := by decide +kernel
def RJxb160c : String := "java/lang/Comparable"
def TJxb160c : u_T := fun k => match k with
  | _ => ("", "", "", false)
def tyJxb160c : Nat → FieldType := fun k => match k with
  | _ => .int
abbrev wsJxb160c0 : List Cond := u_ws RJxb160c TJxb160c 0
theorem nmJxb160c : ∀ a, a < 0 → ∀ b, b < 0 → a ≠ b → (TJxb160c a).2.1 ≠ (TJxb160c b).2.1 := by decide +kernel
theorem tyJxb160c_ok : ∀ k, k < 0 → parseFieldDescriptor (TJxb160c k).2.2.1 = some (tyJxb160c k) := by decide +kernel
def RJ6 : String := "java/lang/Integer"
def TJ6 : u_T := fun k => match k with
  | _ => ("", "", "", false)
def tyJ6 : Nat → FieldType := fun k => match k with
  | _ => .int
abbrev wsJ60 : List Cond := u_ws RJ6 TJ6 0
theorem nmJ6 : ∀ a, a < 0 → ∀ b, b < 0 → a ≠ b → (TJ6 a).2.1 ≠ (TJ6 b).2.1 := by decide +kernel
theorem tyJ6_ok : ∀ k, k < 0 → parseFieldDescriptor (TJ6 k).2.2.1 = some (tyJ6 k) := by decide +kernel
abbrev cJ6_bitCount_0f7a4 : ByteArray := prog_19_method_49_code
def yJ6_bitCount_0f7a4 : MethodName := ⟨RJ6, "bitCount", "(I)I"⟩
def RJ9 : String := "java/lang/Math"
def TJ9 : u_T := fun k => match k with
  | _ => ("", "", "", false)
def tyJ9 : Nat → FieldType := fun k => match k with
  | _ => .int
abbrev wsJ90 : List Cond := u_ws RJ9 TJ9 0
theorem nmJ9 : ∀ a, a < 0 → ∀ b, b < 0 → a ≠ b → (TJ9 a).2.1 ≠ (TJ9 b).2.1 := by decide +kernel
theorem tyJ9_ok : ∀ k, k < 0 → parseFieldDescriptor (TJ9 k).2.2.1 = some (tyJ9 k) := by decide +kernel
abbrev cJ9_max_7cf53 : ByteArray := prog_20_method_65_code
def yJ9_max_7cf53 : MethodName := ⟨RJ9, "max", "(II)I"⟩
abbrev cJ9_max_f86c9 : ByteArray := prog_20_method_66_code
def yJ9_max_f86c9 : MethodName := ⟨RJ9, "max", "(JJ)J"⟩
abbrev cJ9_min_7cf53 : ByteArray := prog_20_method_69_code
def yJ9_min_7cf53 : MethodName := ⟨RJ9, "min", "(II)I"⟩
abbrev cJ9_min_f86c9 : ByteArray := prog_20_method_70_code
def yJ9_min_f86c9 : MethodName := ⟨RJ9, "min", "(JJ)J"⟩
def RJ0 : String := "java/lang/String"
def TJ0 : u_T := fun k => match k with
  | _ => ("", "", "", false)
def tyJ0 : Nat → FieldType := fun k => match k with
  | _ => .int
abbrev wsJ00 : List Cond := u_ws RJ0 TJ0 0
theorem nmJ0 : ∀ a, a < 0 → ∀ b, b < 0 → a ≠ b → (TJ0 a).2.1 ≠ (TJ0 b).2.1 := by decide +kernel
theorem tyJ0_ok : ∀ k, k < 0 → parseFieldDescriptor (TJ0 k).2.2.1 = some (tyJ0 k) := by decide +kernel
abbrev cJ0_length_8abf5 : ByteArray := prog_22_method_54_code
def yJ0_length_8abf5 : MethodName := ⟨RJ0, "length", "()I"⟩
abbrev cJ0_charAt_5068e : ByteArray := prog_22_method_56_code
def yJ0_charAt_5068e : MethodName := ⟨RJ0, "charAt", "(I)C"⟩
abbrev cJ0_coder_7d493 : ByteArray := prog_22_method_152_code
def yJ0_coder_7d493 : MethodName := ⟨RJ0, "coder", "()B"⟩
abbrev cJ0_isLatin1_aae02 : ByteArray := prog_22_method_154_code
def yJ0_isLatin1_aae02 : MethodName := ⟨RJ0, "isLatin1", "()Z"⟩
abbrev cJ0_checkIndex_df160 : ByteArray := prog_22_method_155_code
def yJ0_checkIndex_df160 : MethodName := ⟨RJ0, "checkIndex", "(II)V"⟩
def RJ1 : String := "java/lang/StringLatin1"
def TJ1 : u_T := fun k => match k with
  | _ => ("", "", "", false)
def tyJ1 : Nat → FieldType := fun k => match k with
  | _ => .int
abbrev wsJ10 : List Cond := u_ws RJ1 TJ1 0
theorem nmJ1 : ∀ a, a < 0 → ∀ b, b < 0 → a ≠ b → (TJ1 a).2.1 ≠ (TJ1 b).2.1 := by decide +kernel
theorem tyJ1_ok : ∀ k, k < 0 → parseFieldDescriptor (TJ1 k).2.2.1 = some (tyJ1 k) := by decide +kernel
abbrev cJ1_charAt_3b067 : ByteArray := prog_23_method_2_code
def yJ1_charAt_3b067 : MethodName := ⟨RJ1, "charAt", "([BI)C"⟩
def RJ2 : String := "java/lang/StringUTF16"
def TJ2 : u_T := fun k => match k with
  | _ => ("", "", "", false)
def tyJ2 : Nat → FieldType := fun k => match k with
  | _ => .int
abbrev wsJ20 : List Cond := u_ws RJ2 TJ2 0
theorem nmJ2 : ∀ a, a < 0 → ∀ b, b < 0 → a ≠ b → (TJ2 a).2.1 ≠ (TJ2 b).2.1 := by decide +kernel
theorem tyJ2_ok : ∀ k, k < 0 → parseFieldDescriptor (TJ2 k).2.2.1 = some (tyJ2 k) := by decide +kernel
abbrev cJ2_getChar_3b067 : ByteArray := prog_24_method_5_code
def yJ2_getChar_3b067 : MethodName := ⟨RJ2, "getChar", "([BI)C"⟩
abbrev cJ2_length_9d52b : ByteArray := prog_24_method_6_code
def yJ2_length_9d52b : MethodName := ⟨RJ2, "length", "([B)I"⟩
abbrev cJ2_charAt_3b067 : ByteArray := prog_24_method_83_code
def yJ2_charAt_3b067 : MethodName := ⟨RJ2, "charAt", "([BI)C"⟩
abbrev cJ2_checkIndex_2214a : ByteArray := prog_24_method_91_code
def yJ2_checkIndex_2214a : MethodName := ⟨RJ2, "checkIndex", "(I[B)V"⟩
def RJ10 : String := "java/lang/System"
def TJ10 : u_T := fun k => match k with
  | _ => ("", "", "", false)
def tyJ10 : Nat → FieldType := fun k => match k with
  | _ => .int
abbrev wsJ100 : List Cond := u_ws RJ10 TJ10 0
theorem nmJ10 : ∀ a, a < 0 → ∀ b, b < 0 → a ≠ b → (TJ10 a).2.1 ≠ (TJ10 b).2.1 := by decide +kernel
theorem tyJ10_ok : ∀ k, k < 0 → parseFieldDescriptor (TJ10 k).2.2.1 = some (tyJ10 k) := by decide +kernel
def RJxfd54e : String := "java/lang/constant/Constable"
def TJxfd54e : u_T := fun k => match k with
  | _ => ("", "", "", false)
def tyJxfd54e : Nat → FieldType := fun k => match k with
  | _ => .int
abbrev wsJxfd54e0 : List Cond := u_ws RJxfd54e TJxfd54e 0
theorem nmJxfd54e : ∀ a, a < 0 → ∀ b, b < 0 → a ≠ b → (TJxfd54e a).2.1 ≠ (TJxfd54e b).2.1 := by decide +kernel
theorem tyJxfd54e_ok : ∀ k, k < 0 → parseFieldDescriptor (TJxfd54e k).2.2.1 = some (tyJxfd54e k) := by decide +kernel
def RJx3cf43 : String := "java/lang/constant/ConstantDesc"
def TJx3cf43 : u_T := fun k => match k with
  | _ => ("", "", "", false)
def tyJx3cf43 : Nat → FieldType := fun k => match k with
  | _ => .int
abbrev wsJx3cf430 : List Cond := u_ws RJx3cf43 TJx3cf43 0
theorem nmJx3cf43 : ∀ a, a < 0 → ∀ b, b < 0 → a ≠ b → (TJx3cf43 a).2.1 ≠ (TJx3cf43 b).2.1 := by decide +kernel
theorem tyJx3cf43_ok : ∀ k, k < 0 → parseFieldDescriptor (TJx3cf43 k).2.2.1 = some (tyJx3cf43 k) := by decide +kernel
def RJ7 : String := "java/util/Arrays"
def TJ7 : u_T := fun k => match k with
  | _ => ("", "", "", false)
def tyJ7 : Nat → FieldType := fun k => match k with
  | _ => .int
abbrev wsJ70 : List Cond := u_ws RJ7 TJ7 0
theorem nmJ7 : ∀ a, a < 0 → ∀ b, b < 0 → a ≠ b → (TJ7 a).2.1 ≠ (TJ7 b).2.1 := by decide +kernel
theorem tyJ7_ok : ∀ k, k < 0 → parseFieldDescriptor (TJ7 k).2.2.1 = some (tyJ7 k) := by decide +kernel
abbrev cJ7_fill_d0a16 : ByteArray := prog_29_method_101_code
def yJ7_fill_d0a16 : MethodName := ⟨RJ7, "fill", "([JJ)V"⟩
abbrev cJ7_fill_53178 : ByteArray := prog_29_method_103_code
def yJ7_fill_53178 : MethodName := ⟨RJ7, "fill", "([II)V"⟩
def RJ3 : String := "jdk/internal/util/Preconditions"
def TJ3 : u_T := fun k => match k with
  | _ => ("", "", "", false)
def tyJ3 : Nat → FieldType := fun k => match k with
  | _ => .int
abbrev wsJ30 : List Cond := u_ws RJ3 TJ3 0
theorem nmJ3 : ∀ a, a < 0 → ∀ b, b < 0 → a ≠ b → (TJ3 a).2.1 ≠ (TJ3 b).2.1 := by decide +kernel
theorem tyJ3_ok : ∀ k, k < 0 → parseFieldDescriptor (TJ3 k).2.2.1 = some (tyJ3 k) := by decide +kernel
abbrev cJ3_checkIndex_8e157 : ByteArray := prog_31_method_11_code
def yJ3_checkIndex_8e157 : MethodName := ⟨RJ3, "checkIndex", "(IILjava/util/function/BiFunction;)I"⟩
def RL : String := "LifeDrawerLaw"
abbrev cL_drawer : ByteArray := method_3_code
def yL_drawer : MethodName := ⟨RL, "drawer", "(LLifeDrawer;I[J)I"⟩
abbrev cL_law : ByteArray := method_4_code
def yL_law : MethodName := ⟨RL, "law", "(LLifeDrawer;I[J)I"⟩
abbrev cL_work : ByteArray := method_5_code
def yL_work : MethodName := ⟨RL, "work", "(LLifeDrawer;I[J)I"⟩
abbrev cL_page : ByteArray := method_6_code
def yL_page : MethodName := ⟨RL, "page", "(LLifeDrawer;I[J)I"⟩
abbrev cL_told : ByteArray := method_7_code
def yL_told : MethodName := ⟨RL, "told", "(LLifeDrawer;I[J)I"⟩
abbrev cL_life : ByteArray := method_8_code
def yL_life : MethodName := ⟨RL, "life", "(LLifeDrawer;II[J)I"⟩
abbrev cL_facts : ByteArray := method_9_code
def yL_facts : MethodName := ⟨RL, "facts", "(LLifeDrawer;I[J)I"⟩
abbrev cL_wrong : ByteArray := method_10_code
def yL_wrong : MethodName := ⟨RL, "wrong", "(LLifeDrawer;I[J)I"⟩
abbrev cL_would : ByteArray := method_11_code
def yL_would : MethodName := ⟨RL, "would", "(LLifeDrawer;IIIII[J)I"⟩
abbrev cL_loss : ByteArray := method_12_code
def yL_loss : MethodName := ⟨RL, "loss", "(LLifeDrawer;I[J)I"⟩
abbrev cL_cost : ByteArray := method_13_code
def yL_cost : MethodName := ⟨RL, "cost", "(LLifeDrawer;II[J)I"⟩
abbrev cL_risk : ByteArray := method_14_code
def yL_risk : MethodName := ⟨RL, "risk", "(LLifeDrawer;I[J)I"⟩
abbrev cL_saves : ByteArray := method_15_code
def yL_saves : MethodName := ⟨RL, "saves", "(LLifeDrawer;II[J)I"⟩
abbrev cL_stale : ByteArray := method_16_code
def yL_stale : MethodName := ⟨RL, "stale", "(LLifeDrawer;I[J)I"⟩
abbrev cL_best : ByteArray := method_17_code
def yL_best : MethodName := ⟨RL, "best", "(LLifeDrawer;II[J)I"⟩
abbrev cL_bestIn : ByteArray := method_18_code
def yL_bestIn : MethodName := ⟨RL, "bestIn", "(LLifeDrawer;II[J)I"⟩
abbrev cL_often : ByteArray := method_19_code
def yL_often : MethodName := ⟨RL, "often", "(LLifeDrawer;II[J)I"⟩
abbrev cL_yearly : ByteArray := method_20_code
def yL_yearly : MethodName := ⟨RL, "yearly", "(LLifeDrawer;IIII[J)I"⟩
abbrev cL_brings : ByteArray := method_21_code
def yL_brings : MethodName := ⟨RL, "brings", "(LLifeDrawer;IIIIII[J)I"⟩
abbrev cL_says : ByteArray := method_22_code
def yL_says : MethodName := ⟨RL, "says", "(LLifeDrawer;IIIII[J)I"⟩
abbrev cL_line : ByteArray := method_23_code
def yL_line : MethodName := ⟨RL, "line", "(LLifeDrawer;IIII[J)I"⟩
abbrev cL_room : ByteArray := method_24_code
def yL_room : MethodName := ⟨RL, "room", "(LLifeDrawer;II[J)I"⟩
abbrev cL_lines : ByteArray := method_25_code
def yL_lines : MethodName := ⟨RL, "lines", "(LLifeDrawer;III[J)I"⟩
abbrev cL_apart : ByteArray := method_26_code
def yL_apart : MethodName := ⟨RL, "apart", "(LLifeDrawer;II[J)I"⟩
abbrev cL_written : ByteArray := method_27_code
def yL_written : MethodName := ⟨RL, "written", "(LLifeDrawer;I[J)I"⟩
abbrev cL_ahead : ByteArray := method_28_code
def yL_ahead : MethodName := ⟨RL, "ahead", "(LLifeDrawer;II[J)I"⟩
abbrev cL_lives : ByteArray := method_29_code
def yL_lives : MethodName := ⟨RL, "lives", "(LLifeDrawer;III[J)I"⟩
abbrev cL_chain : ByteArray := method_30_code
def yL_chain : MethodName := ⟨RL, "chain", "(LLifeDrawer;II[J)I"⟩
abbrev cL_due : ByteArray := method_31_code
def yL_due : MethodName := ⟨RL, "due", "(LLifeDrawer;II[J)I"⟩
abbrev cL_news : ByteArray := method_32_code
def yL_news : MethodName := ⟨RL, "news", "(LLifeDrawer;I[J)I"⟩
abbrev cL_expects : ByteArray := method_33_code
def yL_expects : MethodName := ⟨RL, "expects", "(LLifeDrawer;III[J)I"⟩
abbrev cL_years : ByteArray := method_34_code
def yL_years : MethodName := ⟨RL, "years", "(LLifeDrawer;III[J)I"⟩
abbrev cL_span : ByteArray := method_35_code
def yL_span : MethodName := ⟨RL, "span", "(LLifeDrawer;IIIII[J)I"⟩
abbrev cL_law_ : ByteArray := code
def yL_law_ : MethodName := ⟨RL, "law", "([I)Z"⟩
abbrev vwCl : List vw_C := [(RX0, TX0, 3), (RX1, TX1, 5), (RX2, TX2, 3), (RX3, TX3, 7), (RX4, TX4, 5), (RX5, TX5, 3), (RX6, TX6, 7), (RX7, TX7, 6), (RX8, TX8, 15), (RX9, TX9, 7), (RX10, TX10, 17), (RX11, TX11, 49)]
end
-- P 03
section
/-- these are the instructions of c, by their places -/
def fmDec (c : ByteArray) (l : List (Nat × Instr × Nat)) : Bool := l.all (fun q => decide (decode c q.1 = .ok (q.2.1, q.2.2)))
theorem fm_dec {c : ByteArray} {l : List (Nat × Instr × Nat)} (h : fmDec c l = true) (i : Nat) {pc len : Nat} {ins : Instr} (hi : l[i]? = some (pc, ins, len)) : decode c pc = .ok (ins, len) := by
  have h1 := List.all_eq_true.mp h (pc, ins, len) (List.mem_of_getElem? hi)
  exact of_decide_eq_true h1
noncomputable abbrev dlX0_init : List (Nat × Instr × Nat) := [(0, .aload_n 0, 1), (1, .invokespecial 3, 3), (4, .aload_n 0, 1), (5, .bipush 8, 2), (7, .newarray .long, 2), (9, .putfield 9, 3), (12, .aload_n 0, 1), (13, .aload_n 1, 1), (14, .putfield 15, 3), (17, .aload_n 0, 1), (18, .aload_n 2, 1), (19, .putfield 19, 3), (22, .return_, 1)]
noncomputable abbrev dlX0_yearsWhen : List (Nat × Instr × Nat) := [(0, .aload_n 0, 1), (1, .getfield 15, 3), (4, .getfield 23, 3), (7, .iload_n 2, 1), (8, .iaload, 1), (9, .aload_n 1, 1), (10, .getfield 29, 3), (13, .iload_n 3, 1), (14, .iadd, 1), (15, .bipush 52, 2), (17, .idiv, 1), (18, .iadd, 1), (19, .ireturn, 1)]
noncomputable abbrev dlX0_signerDead : List (Nat × Instr × Nat) := [(0, .aload_n 0, 1), (1, .getfield 15, 3), (4, .getfield 35, 3), (7, .iload_n 2, 1), (8, .iaload, 1), (9, .istore_n 3, 1), (10, .iload_n 3, 1), (11, .ifCond .lt 15, 3), (14, .aload_n 1, 1), (15, .iload_n 3, 1), (16, .invokevirtual 38, 3), (19, .ifCond .ne 7, 3), (22, .iconst 1, 1), (23, .goto 4, 3), (26, .iconst 0, 1), (27, .ireturn, 1)]
noncomputable abbrev dlX0_wrongWhen : List (Nat × Instr × Nat) := [(0, .aload_n 1, 1), (1, .getfield 29, 3), (4, .iload_n 3, 1), (5, .iadd, 1), (6, .istore 5, 2), (8, .aload_n 0, 1), (9, .getfield 15, 3), (12, .iload_n 2, 1), (13, .iload 5, 2), (15, .iload 4, 2), (17, .isub, 1), (18, .iload 5, 2), (20, .invokevirtual 42, 3), (23, .istore 6, 2), (25, .aload_n 0, 1), (26, .getfield 19, 3), (29, .iload 4, 2), (31, .aload_n 0, 1), (32, .aload_n 1, 1), (33, .iload_n 2, 1), (34, .iload_n 3, 1), (35, .invokevirtual 46, 3), (38, .aload_n 0, 1), (39, .getfield 15, 3), (42, .getfield 50, 3), (45, .iload_n 2, 1), (46, .iaload, 1), (47, .aload_n 0, 1), (48, .aload_n 1, 1), (49, .iload_n 2, 1), (50, .invokevirtual 53, 3), (53, .iload 6, 2), (55, .invokevirtual 57, 3), (58, .ireturn, 1)]
noncomputable abbrev dlX0_costWhen : List (Nat × Instr × Nat) := [(0, .iload 4, 2), (2, .iconst (-1), 1), (3, .if_icmp .ne 27, 3), (6, .ldc2_w 63, 3), (9, .aload_n 0, 1), (10, .getfield 15, 3), (13, .getfield 65, 3), (16, .i2l, 1), (17, .lmul, 1), (18, .aload_n 0, 1), (19, .getfield 15, 3), (22, .getfield 50, 3), (25, .iload_n 2, 1), (26, .iaload, 1), (27, .i2l, 1), (28, .lmul, 1), (29, .lreturn, 1), (30, .aload_n 0, 1), (31, .getfield 15, 3), (34, .getfield 68, 3), (37, .i2l, 1), (38, .aload_n 0, 1), (39, .getfield 15, 3), (42, .getfield 50, 3), (45, .iload_n 2, 1), (46, .iaload, 1), (47, .i2l, 1), (48, .lmul, 1), (49, .aload_n 0, 1), (50, .aload_n 1, 1), (51, .iload_n 2, 1), (52, .iload_n 3, 1), (53, .iload 4, 2), (55, .invokevirtual 71, 3), (58, .i2l, 1), (59, .lmul, 1), (60, .lreturn, 1)]
noncomputable abbrev dlX0_riskWhen : List (Nat × Instr × Nat) := [(0, .lconst 0, 1), (1, .lstore_n 3, 1), (2, .iconst 0, 1), (3, .istore 5, 2), (5, .iload 5, 2), (7, .aload_n 0, 1), (8, .getfield 15, 3), (11, .getfield 75, 3), (14, .if_icmp .ge 68, 3), (17, .aload_n 1, 1), (18, .iload 5, 2), (20, .invokevirtual 38, 3), (23, .ifCond .eq 53, 3), (26, .aload_n 1, 1), (27, .getfield 78, 3), (30, .iload 5, 2), (32, .iaload, 1), (33, .istore 6, 2), (35, .iload 6, 2), (37, .iconst (-1), 1), (38, .if_icmp .ne 7, 3), (41, .iconst (-1), 1), (42, .goto 7, 3), (45, .iload 6, 2), (47, .iload_n 2, 1), (48, .iadd, 1), (49, .istore 7, 2), (51, .lload_n 3, 1), (52, .aload_n 0, 1), (53, .getfield 15, 3), (56, .getfield 81, 3), (59, .iload 5, 2), (61, .iaload, 1), (62, .i2l, 1), (63, .aload_n 0, 1), (64, .aload_n 1, 1), (65, .iload 5, 2), (67, .iload_n 2, 1), (68, .iload 7, 2), (70, .invokevirtual 84, 3), (73, .lmul, 1), (74, .ladd, 1), (75, .lstore_n 3, 1), (76, .iinc 5 1, 3), (79, .goto (-74), 3), (82, .lload_n 3, 1), (83, .lreturn, 1)]
noncomputable abbrev dlX0_riskAtAge : List (Nat × Instr × Nat) := [(0, .aload_n 0, 1), (1, .getfield 15, 3), (4, .getfield 50, 3), (7, .iload_n 2, 1), (8, .iaload, 1), (9, .istore 4, 2), (11, .aload_n 0, 1), (12, .getfield 19, 3), (15, .iload_n 3, 1), (16, .aload_n 0, 1), (17, .aload_n 1, 1), (18, .iload_n 2, 1), (19, .iconst 0, 1), (20, .invokevirtual 46, 3), (23, .iload 4, 2), (25, .aload_n 0, 1), (26, .aload_n 1, 1), (27, .iload_n 2, 1), (28, .invokevirtual 53, 3), (31, .iconst 0, 1), (32, .invokevirtual 57, 3), (35, .istore 5, 2), (37, .aload_n 0, 1), (38, .getfield 15, 3), (41, .getfield 81, 3), (44, .iload_n 2, 1), (45, .iaload, 1), (46, .i2l, 1), (47, .aload_n 0, 1), (48, .getfield 15, 3), (51, .getfield 68, 3), (54, .i2l, 1), (55, .lmul, 1), (56, .iload 4, 2), (58, .i2l, 1), (59, .lmul, 1), (60, .iload 5, 2), (62, .i2l, 1), (63, .lmul, 1), (64, .lreturn, 1)]
noncomputable abbrev dlX0_hoursFor : List (Nat × Instr × Nat) := [(0, .aload_n 1, 1), (1, .getfield 78, 3), (4, .iload_n 2, 1), (5, .iaload, 1), (6, .iconst (-1), 1), (7, .if_icmp .ne 15, 3), (10, .aload_n 0, 1), (11, .getfield 15, 3), (14, .getfield 88, 3), (17, .iload_n 2, 1), (18, .iaload, 1), (19, .goto 11, 3), (22, .aload_n 0, 1), (23, .getfield 15, 3), (26, .iload_n 2, 1), (27, .invokevirtual 91, 3), (30, .ireturn, 1)]
noncomputable abbrev dlX0_canBePut : List (Nat × Instr × Nat) := [(0, .aload_n 1, 1), (1, .iload_n 2, 1), (2, .invokevirtual 38, 3), (5, .ifCond .eq 16, 3), (8, .aload_n 1, 1), (9, .getfield 78, 3), (12, .iload_n 2, 1), (13, .iaload, 1), (14, .ifCond .eq 7, 3), (17, .iconst 1, 1), (18, .goto 4, 3), (21, .iconst 0, 1), (22, .ireturn, 1)]
noncomputable abbrev dlX0_savedRisk : List (Nat × Instr × Nat) := [(0, .aload_n 0, 1), (1, .aload_n 1, 1), (2, .iload_n 2, 1), (3, .invokevirtual 95, 3), (6, .ifCond .eq 15, 3), (9, .aload_n 0, 1), (10, .getfield 15, 3), (13, .getfield 81, 3), (16, .iload_n 2, 1), (17, .iaload, 1), (18, .ifCond .ne 5, 3), (21, .lconst 0, 1), (22, .lreturn, 1), (23, .aload_n 0, 1), (24, .aload_n 1, 1), (25, .iload_n 2, 1), (26, .iconst 0, 1), (27, .aload_n 1, 1), (28, .getfield 78, 3), (31, .iload_n 2, 1), (32, .iaload, 1), (33, .invokevirtual 84, 3), (36, .aload_n 0, 1), (37, .aload_n 1, 1), (38, .iload_n 2, 1), (39, .iconst 0, 1), (40, .iconst 0, 1), (41, .invokevirtual 84, 3), (44, .lsub, 1), (45, .lstore_n 3, 1), (46, .lconst 0, 1), (47, .aload_n 0, 1), (48, .getfield 15, 3), (51, .getfield 81, 3), (54, .iload_n 2, 1), (55, .iaload, 1), (56, .i2l, 1), (57, .lload_n 3, 1), (58, .lmul, 1), (59, .invokestatic 99, 3), (62, .lreturn, 1)]
noncomputable abbrev dlX0_firstOfAll : List (Nat × Instr × Nat) := [(0, .iconst 0, 1), (1, .istore_n 2, 1), (2, .iload_n 2, 1), (3, .aload_n 0, 1), (4, .getfield 15, 3), (7, .getfield 75, 3), (10, .if_icmp .ge 21, 3), (13, .aload_n 0, 1), (14, .getfield 9, 3), (17, .iload_n 2, 1), (18, .aload_n 0, 1), (19, .aload_n 1, 1), (20, .iload_n 2, 1), (21, .invokevirtual 105, 3), (24, .lastore, 1), (25, .iinc 2 1, 3), (28, .goto (-26), 3), (31, .aload_n 0, 1), (32, .aload_n 1, 1), (33, .aload_n 0, 1), (34, .getfield 9, 3), (37, .bipush 12, 2), (39, .invokevirtual 109, 3), (42, .ireturn, 1)]
noncomputable abbrev dlX0_firstOf : List (Nat × Instr × Nat) := [(0, .iconst (-1), 1), (1, .istore 4, 2), (3, .lconst 0, 1), (4, .lstore 5, 2), (6, .iconst 1, 1), (7, .istore 7, 2), (9, .iconst 0, 1), (10, .istore 8, 2), (12, .iload 8, 2), (14, .aload_n 0, 1), (15, .getfield 15, 3), (18, .getfield 75, 3), (21, .if_icmp .ge 63, 3), (24, .iload 8, 2), (26, .aload_n 2, 1), (27, .arraylength, 1), (28, .if_icmp .ge 56, 3), (31, .aload_n 0, 1), (32, .aload_n 1, 1), (33, .iload 8, 2), (35, .invokevirtual 113, 3), (38, .istore 9, 2), (40, .iload 9, 2), (42, .iload_n 3, 1), (43, .if_icmp .gt 35, 3), (46, .aload_n 2, 1), (47, .iload 8, 2), (49, .laload, 1), (50, .iload 7, 2), (52, .i2l, 1), (53, .lmul, 1), (54, .lload 5, 2), (56, .iload 9, 2), (58, .i2l, 1), (59, .lmul, 1), (60, .lcmp, 1), (61, .ifCond .le 17, 3), (64, .iload 8, 2), (66, .istore 4, 2), (68, .aload_n 2, 1), (69, .iload 8, 2), (71, .laload, 1), (72, .lstore 5, 2), (74, .iload 9, 2), (76, .istore 7, 2), (78, .iinc 8 1, 3), (81, .goto (-69), 3), (84, .iload 4, 2), (86, .ireturn, 1)]
noncomputable abbrev dlX0_putPiece : List (Nat × Instr × Nat) := [(0, .aload_n 0, 1), (1, .aload_n 1, 1), (2, .iload_n 2, 1), (3, .invokevirtual 113, 3), (6, .istore_n 3, 1), (7, .aload_n 0, 1), (8, .aload_n 1, 1), (9, .iload_n 2, 1), (10, .invokevirtual 95, 3), (13, .ifCond .eq 11, 3), (16, .iload_n 3, 1), (17, .aload_n 1, 1), (18, .getfield 116, 3), (21, .if_icmp .le 5, 3), (24, .iconst 0, 1), (25, .ireturn, 1), (26, .aload_n 1, 1), (27, .dup, 1), (28, .getfield 116, 3), (31, .iload_n 3, 1), (32, .isub, 1), (33, .putfield 116, 3), (36, .aload_n 1, 1), (37, .getfield 78, 3), (40, .iload_n 2, 1), (41, .iconst 0, 1), (42, .iastore, 1), (43, .iconst 1, 1), (44, .ireturn, 1)]
noncomputable abbrev dlX0_letDie : List (Nat × Instr × Nat) := [(0, .aload_n 1, 1), (1, .iload_n 2, 1), (2, .invokevirtual 38, 3), (5, .ifCond .ne 5, 3), (8, .iconst 0, 1), (9, .ireturn, 1), (10, .aload_n 1, 1), (11, .dup, 1), (12, .getfield 118, 3), (15, .aload_n 0, 1), (16, .aload_n 1, 1), (17, .iload_n 2, 1), (18, .iconst 0, 1), (19, .aload_n 1, 1), (20, .getfield 78, 3), (23, .iload_n 2, 1), (24, .iaload, 1), (25, .invokevirtual 84, 3), (28, .ladd, 1), (29, .putfield 118, 3), (32, .aload_n 1, 1), (33, .getfield 78, 3), (36, .iload_n 2, 1), (37, .iaload, 1), (38, .iconst (-1), 1), (39, .if_icmp .ne 30, 3), (42, .aload_n 1, 1), (43, .dup, 1), (44, .getfield 122, 3), (47, .iconst 1, 1), (48, .iadd, 1), (49, .putfield 122, 3), (52, .aload_n 1, 1), (53, .iconst 0, 1), (54, .aload_n 1, 1), (55, .getfield 116, 3), (58, .iconst 2, 1), (59, .isub, 1), (60, .invokestatic 125, 3), (63, .putfield 116, 3), (66, .goto 20, 3), (69, .aload_n 1, 1), (70, .dup, 1), (71, .getfield 128, 3), (74, .iconst 1, 1), (75, .iadd, 1), (76, .putfield 128, 3), (79, .aload_n 1, 1), (80, .getfield 78, 3), (83, .iload_n 2, 1), (84, .iconst (-1), 1), (85, .iastore, 1), (86, .aload_n 1, 1), (87, .dup, 1), (88, .getfield 131, 3), (91, .iconst 1, 1), (92, .iload_n 2, 1), (93, .ishl, 1), (94, .ior, 1), (95, .putfield 131, 3), (98, .iconst 1, 1), (99, .ireturn, 1)]
noncomputable abbrev dlX0_passWeek : List (Nat × Instr × Nat) := [(0, .aload_n 1, 1), (1, .getfield 29, 3), (4, .sipush 200, 3), (7, .if_icmp .lt 5, 3), (10, .iconst 0, 1), (11, .ireturn, 1), (12, .aload_n 1, 1), (13, .dup, 1), (14, .getfield 29, 3), (17, .iconst 1, 1), (18, .iadd, 1), (19, .putfield 29, 3), (22, .aload_n 1, 1), (23, .aload_n 0, 1), (24, .getfield 15, 3), (27, .getfield 134, 3), (30, .putfield 116, 3), (33, .iconst 0, 1), (34, .istore_n 2, 1), (35, .iload_n 2, 1), (36, .aload_n 0, 1), (37, .getfield 15, 3), (40, .getfield 75, 3), (43, .if_icmp .ge 29, 3), (46, .aload_n 1, 1), (47, .getfield 78, 3), (50, .iload_n 2, 1), (51, .iaload, 1), (52, .iconst (-1), 1), (53, .if_icmp .eq 13, 3), (56, .aload_n 1, 1), (57, .getfield 78, 3), (60, .iload_n 2, 1), (61, .dup2, 1), (62, .iaload, 1), (63, .iconst 1, 1), (64, .iadd, 1), (65, .iastore, 1), (66, .iinc 2 1, 3), (69, .goto (-34), 3), (72, .iconst 1, 1), (73, .ireturn, 1)]
noncomputable abbrev dlX0_lossAhead : List (Nat × Instr × Nat) := [(0, .aload_n 0, 1), (1, .getfield 15, 3), (4, .getfield 81, 3), (7, .iload_n 2, 1), (8, .iaload, 1), (9, .i2l, 1), (10, .lstore 5, 2), (12, .lconst 1, 1), (13, .lstore 7, 2), (15, .lconst 0, 1), (16, .lstore 9, 2), (18, .aload_n 1, 1), (19, .getfield 78, 3), (22, .iload_n 2, 1), (23, .iaload, 1), (24, .istore 11, 2), (26, .iconst 0, 1), (27, .istore 12, 2), (29, .iload 12, 2), (31, .iload_n 3, 1), (32, .if_icmp .ge 74, 3), (35, .iload 4, 2), (37, .iload 12, 2), (39, .ishr, 1), (40, .iconst 1, 1), (41, .iand, 1), (42, .ifCond .eq 6, 3), (45, .iconst 0, 1), (46, .istore 11, 2), (48, .lload 9, 2), (50, .ldc2_w 63, 3), (53, .lmul, 1), (54, .lload 7, 2), (56, .lload 5, 2), (58, .lmul, 1), (59, .aload_n 0, 1), (60, .aload_n 1, 1), (61, .iload_n 2, 1), (62, .iload 12, 2), (64, .iload 11, 2), (66, .invokevirtual 84, 3), (69, .lmul, 1), (70, .ladd, 1), (71, .lstore 9, 2), (73, .lload 7, 2), (75, .ldc2_w 63, 3), (78, .lload 5, 2), (80, .lsub, 1), (81, .lmul, 1), (82, .lstore 7, 2), (84, .iload 11, 2), (86, .iconst (-1), 1), (87, .if_icmp .ne 7, 3), (90, .iconst (-1), 1), (91, .goto 7, 3), (94, .iload 11, 2), (96, .iconst 1, 1), (97, .iadd, 1), (98, .istore 11, 2), (100, .iinc 12 1, 3), (103, .goto (-74), 3), (106, .lload 9, 2), (108, .lreturn, 1)]
noncomputable abbrev dlX1_init : List (Nat × Instr × Nat) := [(0, .aload_n 0, 1), (1, .invokespecial 3, 3), (4, .aload_n 0, 1), (5, .sipush 150, 3), (8, .newarray .int, 2), (10, .putfield 9, 3), (13, .aload_n 0, 1), (14, .sipush 150, 3), (17, .newarray .int, 2), (19, .putfield 15, 3), (22, .aload_n 0, 1), (23, .bipush 24, 2), (25, .newarray .int, 2), (27, .putfield 18, 3), (30, .aload_n 0, 1), (31, .invokevirtual 21, 3), (34, .return_, 1)]
noncomputable abbrev dlX1_clear : List (Nat × Instr × Nat) := [(0, .aload_n 0, 1), (1, .getfield 9, 3), (4, .iconst 0, 1), (5, .iconst (-1), 1), (6, .iastore, 1), (7, .aload_n 0, 1), (8, .getfield 9, 3), (11, .iconst 1, 1), (12, .iconst (-1), 1), (13, .iastore, 1), (14, .aload_n 0, 1), (15, .getfield 9, 3), (18, .iconst 2, 1), (19, .bipush (-8), 2), (21, .iastore, 1), (22, .aload_n 0, 1), (23, .iconst 3, 1), (24, .putfield 24, 3), (27, .return_, 1)]
noncomputable abbrev dlX1_read : List (Nat × Instr × Nat) := [(0, .aload_n 0, 1), (1, .iconst 0, 1), (2, .putfield 28, 3), (5, .aload_n 0, 1), (6, .aload_n 1, 1), (7, .iconst 0, 1), (8, .invokevirtual 31, 3), (11, .ifCond .ne 5, 3), (14, .iconst 0, 1), (15, .ireturn, 1), (16, .aload_n 1, 1), (17, .invokevirtual 35, 3), (20, .iconst (-1), 1), (21, .if_icmp .eq 13, 3), (24, .aload_n 1, 1), (25, .iconst 1, 1), (26, .aload_n 1, 1), (27, .getfield 41, 3), (30, .invokevirtual 44, 3), (33, .ireturn, 1), (34, .aload_n 0, 1), (35, .getfield 15, 3), (38, .iconst 0, 1), (39, .aload_n 0, 1), (40, .getfield 9, 3), (43, .iconst 0, 1), (44, .sipush 150, 3), (47, .invokestatic 48, 3), (50, .aload_n 0, 1), (51, .aload_n 0, 1), (52, .getfield 28, 3), (55, .putfield 24, 3), (58, .iconst 1, 1), (59, .ireturn, 1)]
noncomputable abbrev dlX1_readSum : List (Nat × Instr × Nat) := [(0, .aload_n 0, 1), (1, .aload_n 1, 1), (2, .iload_n 2, 1), (3, .invokevirtual 54, 3), (6, .istore_n 3, 1), (7, .iconst 0, 1), (8, .istore 4, 2), (10, .iload 4, 2), (12, .sipush 150, 3), (15, .if_icmp .ge 70, 3), (18, .iload_n 3, 1), (19, .ifCond .eq 66, 3), (22, .aload_n 1, 1), (23, .invokevirtual 35, 3), (26, .istore 5, 2), (28, .iload 5, 2), (30, .bipush 43, 2), (32, .if_icmp .eq 12, 3), (35, .iload 5, 2), (37, .bipush 45, 2), (39, .if_icmp .eq 5, 3), (42, .iconst 1, 1), (43, .ireturn, 1), (44, .aload_n 1, 1), (45, .dup, 1), (46, .getfield 41, 3), (49, .iconst 1, 1), (50, .iadd, 1), (51, .putfield 41, 3), (54, .aload_n 0, 1), (55, .aload_n 1, 1), (56, .iload_n 2, 1), (57, .invokevirtual 54, 3), (60, .istore_n 3, 1), (61, .aload_n 0, 1), (62, .iload 5, 2), (64, .bipush 43, 2), (66, .if_icmp .ne 8, 3), (69, .bipush (-8), 2), (71, .goto 5, 3), (74, .bipush (-9), 2), (76, .invokevirtual 57, 3), (79, .iinc 4 1, 3), (82, .goto (-72), 3), (85, .iload_n 3, 1), (86, .ireturn, 1)]
noncomputable abbrev dlX1_readProduct : List (Nat × Instr × Nat) := [(0, .aload_n 0, 1), (1, .aload_n 1, 1), (2, .iload_n 2, 1), (3, .invokevirtual 61, 3), (6, .istore_n 3, 1), (7, .iconst 0, 1), (8, .istore 4, 2), (10, .iload 4, 2), (12, .sipush 150, 3), (15, .if_icmp .ge 70, 3), (18, .iload_n 3, 1), (19, .ifCond .eq 66, 3), (22, .aload_n 1, 1), (23, .invokevirtual 35, 3), (26, .istore 5, 2), (28, .iload 5, 2), (30, .bipush 42, 2), (32, .if_icmp .eq 12, 3), (35, .iload 5, 2), (37, .bipush 47, 2), (39, .if_icmp .eq 5, 3), (42, .iconst 1, 1), (43, .ireturn, 1), (44, .aload_n 1, 1), (45, .dup, 1), (46, .getfield 41, 3), (49, .iconst 1, 1), (50, .iadd, 1), (51, .putfield 41, 3), (54, .aload_n 0, 1), (55, .aload_n 1, 1), (56, .iload_n 2, 1), (57, .invokevirtual 61, 3), (60, .istore_n 3, 1), (61, .aload_n 0, 1), (62, .iload 5, 2), (64, .bipush 42, 2), (66, .if_icmp .ne 8, 3), (69, .bipush (-10), 2), (71, .goto 5, 3), (74, .bipush (-11), 2), (76, .invokevirtual 57, 3), (79, .iinc 4 1, 3), (82, .goto (-72), 3), (85, .iload_n 3, 1), (86, .ireturn, 1)]
noncomputable abbrev dlX1_readUnit : List (Nat × Instr × Nat) := [(0, .aload_n 1, 1), (1, .invokevirtual 35, 3), (4, .istore_n 3, 1), (5, .aload_n 1, 1), (6, .getfield 41, 3), (9, .istore 4, 2), (11, .iload_n 3, 1), (12, .bipush 40, 2), (14, .if_icmp .ne 53, 3), (17, .iload_n 2, 1), (18, .bipush 6, 2), (20, .if_icmp .lt 11, 3), (23, .aload_n 1, 1), (24, .iconst 3, 1), (25, .iload 4, 2), (27, .invokevirtual 44, 3), (30, .ireturn, 1), (31, .aload_n 1, 1), (32, .dup, 1), (33, .getfield 41, 3), (36, .iconst 1, 1), (37, .iadd, 1), (38, .putfield 41, 3), (41, .aload_n 0, 1), (42, .aload_n 1, 1), (43, .iload_n 2, 1), (44, .iconst 1, 1), (45, .iadd, 1), (46, .invokevirtual 31, 3), (49, .ifCond .eq 16, 3), (52, .aload_n 1, 1), (53, .bipush 41, 2), (55, .invokevirtual 64, 3), (58, .ifCond .eq 7, 3), (61, .iconst 1, 1), (62, .goto 4, 3), (65, .iconst 0, 1), (66, .ireturn, 1), (67, .iload_n 3, 1), (68, .bipush 48, 2), (70, .if_icmp .lt 34, 3), (73, .iload_n 3, 1), (74, .bipush 57, 2), (76, .if_icmp .gt 28, 3), (79, .aload_n 0, 1), (80, .aload_n 1, 1), (81, .iconst 0, 1), (82, .sipush 999, 3), (85, .invokevirtual 68, 3), (88, .invokevirtual 57, 3), (91, .aload_n 1, 1), (92, .invokevirtual 72, 3), (95, .ifCond .ne 7, 3), (98, .iconst 1, 1), (99, .goto 4, 3), (102, .iconst 0, 1), (103, .ireturn, 1), (104, .aload_n 1, 1), (105, .ldc 76, 2), (107, .invokevirtual 78, 3), (110, .istore 5, 2), (112, .iload 5, 2), (114, .iconst (-1), 1), (115, .if_icmp .ne 5, 3), (118, .iconst 0, 1), (119, .ireturn, 1), (120, .iload 5, 2), (122, .iconst 5, 1), (123, .if_icmp .lt 30, 3), (126, .iload_n 2, 1), (127, .bipush 6, 2), (129, .if_icmp .lt 11, 3), (132, .aload_n 1, 1), (133, .iconst 3, 1), (134, .iload 4, 2), (136, .invokevirtual 44, 3), (139, .ireturn, 1), (140, .aload_n 0, 1), (141, .aload_n 1, 1), (142, .iload_n 2, 1), (143, .iconst 1, 1), (144, .iadd, 1), (145, .invokevirtual 82, 3), (148, .ifCond .ne 5, 3), (151, .iconst 0, 1), (152, .ireturn, 1), (153, .aload_n 0, 1), (154, .iconst (-1), 1), (155, .iload 5, 2), (157, .isub, 1), (158, .invokevirtual 57, 3), (161, .iconst 1, 1), (162, .ireturn, 1)]
noncomputable abbrev dlX1_readTwo : List (Nat × Instr × Nat) := [(0, .aload_n 1, 1), (1, .bipush 91, 2), (3, .invokevirtual 64, 3), (6, .ifCond .eq 43, 3), (9, .aload_n 0, 1), (10, .aload_n 1, 1), (11, .iload_n 2, 1), (12, .invokevirtual 31, 3), (15, .ifCond .eq 34, 3), (18, .aload_n 1, 1), (19, .bipush 44, 2), (21, .invokevirtual 64, 3), (24, .ifCond .eq 25, 3), (27, .aload_n 0, 1), (28, .aload_n 1, 1), (29, .iload_n 2, 1), (30, .invokevirtual 31, 3), (33, .ifCond .eq 16, 3), (36, .aload_n 1, 1), (37, .bipush 93, 2), (39, .invokevirtual 64, 3), (42, .ifCond .eq 7, 3), (45, .iconst 1, 1), (46, .goto 4, 3), (49, .iconst 0, 1), (50, .ireturn, 1)]
noncomputable abbrev dlX1_emit : List (Nat × Instr × Nat) := [(0, .aload_n 0, 1), (1, .getfield 28, 3), (4, .sipush 150, 3), (7, .if_icmp .ge 23, 3), (10, .aload_n 0, 1), (11, .getfield 15, 3), (14, .aload_n 0, 1), (15, .getfield 28, 3), (18, .iload_n 1, 1), (19, .iastore, 1), (20, .aload_n 0, 1), (21, .dup, 1), (22, .getfield 28, 3), (25, .iconst 1, 1), (26, .iadd, 1), (27, .putfield 28, 3), (30, .return_, 1)]
noncomputable abbrev dlX1_outcome : List (Nat × Instr × Nat) := [(0, .iconst 0, 1), (1, .istore 6, 2), (3, .iconst 0, 1), (4, .istore 7, 2), (6, .iload 7, 2), (8, .aload_n 0, 1), (9, .getfield 24, 3), (12, .if_icmp .ge 179, 3), (15, .iload 6, 2), (17, .bipush 24, 2), (19, .if_icmp .ge 172, 3), (22, .aload_n 0, 1), (23, .getfield 9, 3), (26, .iload 7, 2), (28, .iaload, 1), (29, .istore 8, 2), (31, .iload 8, 2), (33, .bipush (-6), 2), (35, .if_icmp .gt 45, 3), (38, .iload 6, 2), (40, .iconst 2, 1), (41, .if_icmp .lt 39, 3), (44, .iinc 6 (-1), 3), (47, .aload_n 0, 1), (48, .getfield 18, 3), (51, .iload 6, 2), (53, .iconst 1, 1), (54, .isub, 1), (55, .iload 8, 2), (57, .aload_n 0, 1), (58, .getfield 18, 3), (61, .iload 6, 2), (63, .iconst 1, 1), (64, .isub, 1), (65, .iaload, 1), (66, .aload_n 0, 1), (67, .getfield 18, 3), (70, .iload 6, 2), (72, .iaload, 1), (73, .invokestatic 85, 3), (76, .iastore, 1), (77, .goto 108, 3), (80, .iload 8, 2), (82, .tableswitch 91 (-5) (-1) #[79, 67, 56, 45, 34], 34), (116, .aload_n 0, 1), (117, .getfield 18, 3), (120, .iload 6, 2), (122, .iload_n 1, 1), (123, .iastore, 1), (124, .goto 58, 3), (127, .aload_n 0, 1), (128, .getfield 18, 3), (131, .iload 6, 2), (133, .iload_n 2, 1), (134, .iastore, 1), (135, .goto 47, 3), (138, .aload_n 0, 1), (139, .getfield 18, 3), (142, .iload 6, 2), (144, .iload_n 3, 1), (145, .iastore, 1), (146, .goto 36, 3), (149, .aload_n 0, 1), (150, .getfield 18, 3), (153, .iload 6, 2), (155, .iload 4, 2), (157, .iastore, 1), (158, .goto 24, 3), (161, .aload_n 0, 1), (162, .getfield 18, 3), (165, .iload 6, 2), (167, .iload 5, 2), (169, .iastore, 1), (170, .goto 12, 3), (173, .aload_n 0, 1), (174, .getfield 18, 3), (177, .iload 6, 2), (179, .iload 8, 2), (181, .iastore, 1), (182, .iinc 6 1, 3), (185, .iinc 7 1, 3), (188, .goto (-182), 3), (191, .iconst 0, 1), (192, .bipush 64, 2), (194, .aload_n 0, 1), (195, .getfield 18, 3), (198, .iconst 0, 1), (199, .iaload, 1), (200, .invokestatic 89, 3), (203, .invokestatic 94, 3), (206, .ireturn, 1)]
noncomputable abbrev dlX1_joined : List (Nat × Instr × Nat) := [(0, .iload_n 0, 1), (1, .tableswitch 69 (-10) (-6) #[65, 61, 57, 46, 35], 35), (36, .iload_n 1, 1), (37, .iload_n 2, 1), (38, .if_icmp .ge 7, 3), (41, .iload_n 1, 1), (42, .goto 4, 3), (45, .iload_n 2, 1), (46, .ireturn, 1), (47, .iload_n 1, 1), (48, .iload_n 2, 1), (49, .if_icmp .le 7, 3), (52, .iload_n 1, 1), (53, .goto 4, 3), (56, .iload_n 2, 1), (57, .ireturn, 1), (58, .iload_n 1, 1), (59, .iload_n 2, 1), (60, .iadd, 1), (61, .ireturn, 1), (62, .iload_n 1, 1), (63, .iload_n 2, 1), (64, .isub, 1), (65, .ireturn, 1), (66, .iload_n 1, 1), (67, .iload_n 2, 1), (68, .imul, 1), (69, .ireturn, 1), (70, .iload_n 2, 1), (71, .ifCond .ne 7, 3), (74, .iconst 0, 1), (75, .goto 6, 3), (78, .iload_n 1, 1), (79, .iload_n 2, 1), (80, .idiv, 1), (81, .ireturn, 1)]
noncomputable abbrev dlX2_init : List (Nat × Instr × Nat) := [(0, .aload_n 0, 1), (1, .invokespecial 3, 3), (4, .return_, 1)]
noncomputable abbrev dlX2_clear : List (Nat × Instr × Nat) := [(0, .aload_n 0, 1), (1, .iconst 0, 1), (2, .putfield 9, 3), (5, .aload_n 0, 1), (6, .iconst 0, 1), (7, .putfield 15, 3), (10, .aload_n 0, 1), (11, .iconst 0, 1), (12, .putfield 18, 3), (15, .return_, 1)]
noncomputable abbrev dlX2_read : List (Nat × Instr × Nat) := [(0, .iconst 0, 1), (1, .istore_n 2, 1), (2, .iconst 0, 1), (3, .istore_n 3, 1), (4, .iconst 0, 1), (5, .istore 4, 2), (7, .iload 4, 2), (9, .bipush 6, 2), (11, .if_icmp .gt 92, 3), (14, .aload_n 1, 1), (15, .invokevirtual 21, 3), (18, .iconst (-1), 1), (19, .if_icmp .eq 84, 3), (22, .aload_n 1, 1), (23, .invokevirtual 27, 3), (26, .istore 5, 2), (28, .aload_n 1, 1), (29, .iconst 0, 1), (30, .iconst 5, 1), (31, .invokevirtual 30, 3), (34, .istore 6, 2), (36, .iload 6, 2), (38, .ifCond .lt 20, 3), (41, .iload_n 2, 1), (42, .iload 6, 2), (44, .ishr, 1), (45, .iconst 1, 1), (46, .iand, 1), (47, .ifCond .eq 11, 3), (50, .aload_n 1, 1), (51, .iconst 2, 1), (52, .iload 5, 2), (54, .invokevirtual 34, 3), (57, .pop, 1), (58, .aload_n 1, 1), (59, .iconst 0, 1), (60, .iconst 1, 1), (61, .invokevirtual 30, 3), (64, .istore 7, 2), (66, .aload_n 1, 1), (67, .bipush 59, 2), (69, .invokevirtual 38, 3), (72, .pop, 1), (73, .aload_n 1, 1), (74, .invokevirtual 42, 3), (77, .ifCond .eq 5, 3), (80, .iconst 0, 1), (81, .ireturn, 1), (82, .iload_n 2, 1), (83, .iconst 1, 1), (84, .iload 6, 2), (86, .ishl, 1), (87, .ior, 1), (88, .istore_n 2, 1), (89, .iload_n 3, 1), (90, .iload 7, 2), (92, .iload 6, 2), (94, .ishl, 1), (95, .ior, 1), (96, .istore_n 3, 1), (97, .iinc 4 1, 3), (100, .goto (-93), 3), (103, .aload_n 0, 1), (104, .iload_n 2, 1), (105, .invokestatic 46, 3), (108, .putfield 9, 3), (111, .aload_n 0, 1), (112, .iload_n 2, 1), (113, .putfield 15, 3), (116, .aload_n 0, 1), (117, .iload_n 3, 1), (118, .putfield 18, 3), (121, .iconst 1, 1), (122, .ireturn, 1)]
noncomputable abbrev dlX2_fits : List (Nat × Instr × Nat) := [(0, .iload_n 1, 1), (1, .aload_n 0, 1), (2, .getfield 18, 3), (5, .ixor, 1), (6, .aload_n 0, 1), (7, .getfield 15, 3), (10, .iand, 1), (11, .ifCond .ne 7, 3), (14, .iconst 1, 1), (15, .goto 4, 3), (18, .iconst 0, 1), (19, .ireturn, 1)]
noncomputable abbrev dlX3_init : List (Nat × Instr × Nat) := [(0, .aload_n 0, 1), (1, .invokespecial 3, 3), (4, .aload_n 0, 1), (5, .sipush 2197, 3), (8, .newarray .long, 2), (10, .putfield 11, 3), (13, .aload_n 0, 1), (14, .bipush 8, 2), (16, .newarray .long, 2), (18, .putfield 15, 3), (21, .aload_n 0, 1), (22, .bipush 24, 2), (24, .newarray .int, 2), (26, .putfield 18, 3), (29, .aload_n 0, 1), (30, .iconst 3, 1), (31, .newarray .int, 2), (33, .putfield 22, 3), (36, .aload_n 0, 1), (37, .aload_n 1, 1), (38, .putfield 25, 3), (41, .return_, 1)]
noncomputable abbrev dlX3_forget : List (Nat × Instr × Nat) := [(0, .aload_n 0, 1), (1, .iconst 0, 1), (2, .putfield 29, 3), (5, .return_, 1)]
noncomputable abbrev dlX3_leastLoss : List (Nat × Instr × Nat) := [(0, .aload_n 0, 1), (1, .getfield 33, 3), (4, .bipush 24, 2), (6, .lshr, 1), (7, .lreturn, 1)]
noncomputable abbrev dlX3_writtenIn : List (Nat × Instr × Nat) := [(0, .aload_n 0, 1), (1, .getfield 33, 3), (4, .iload_n 1, 1), (5, .invokestatic 37, 3), (8, .lshr, 1), (9, .l2i, 1), (10, .sipush 255, 3), (13, .iand, 1), (14, .ireturn, 1)]
noncomputable abbrev dlX3_keyShift : List (Nat × Instr × Nat) := [(0, .bipush 8, 2), (2, .iconst 2, 1), (3, .iload_n 0, 1), (4, .isub, 1), (5, .imul, 1), (6, .ireturn, 1)]
noncomputable abbrev dlX3_prepare : List (Nat × Instr × Nat) := [(0, .aload_n 0, 1), (1, .getfield 29, 3), (4, .iload_n 2, 1), (5, .if_icmp .ne 4, 3), (8, .return_, 1), (9, .aload_n 0, 1), (10, .getfield 11, 3), (13, .lconst 0, 1), (14, .invokestatic 41, 3), (17, .iconst 0, 1), (18, .istore_n 3, 1), (19, .iload_n 3, 1), (20, .iconst 3, 1), (21, .if_icmp .ge 58, 3), (24, .iload_n 3, 1), (25, .ifCond .ne 10, 3), (28, .aload_n 1, 1), (29, .getfield 47, 3), (32, .goto 13, 3), (35, .aload_n 0, 1), (36, .getfield 25, 3), (39, .getfield 52, 3), (42, .getfield 58, 3), (45, .istore 4, 2), (47, .aload_n 0, 1), (48, .getfield 22, 3), (51, .iload_n 3, 1), (52, .iload_n 3, 1), (53, .iload_n 2, 1), (54, .if_icmp .ge 17, 3), (57, .iconst 0, 1), (58, .bipush 12, 2), (60, .iload 4, 2), (62, .invokestatic 63, 3), (65, .invokestatic 69, 3), (68, .goto 4, 3), (71, .iconst 0, 1), (72, .iastore, 1), (73, .iinc 3 1, 3), (76, .goto (-57), 3), (79, .iconst 0, 1), (80, .istore_n 3, 1), (81, .iload_n 3, 1), (82, .aload_n 0, 1), (83, .getfield 25, 3), (86, .getfield 52, 3), (89, .getfield 72, 3), (92, .if_icmp .ge 46, 3), (95, .aload_n 1, 1), (96, .iload_n 3, 1), (97, .invokevirtual 75, 3), (100, .ifCond .eq 32, 3), (103, .aload_n 0, 1), (104, .getfield 25, 3), (107, .getfield 52, 3), (110, .getfield 79, 3), (113, .iload_n 3, 1), (114, .iaload, 1), (115, .ifCond .le 17, 3), (118, .aload_n 0, 1), (119, .aload_n 1, 1), (120, .iload_n 3, 1), (121, .iload_n 2, 1), (122, .invokevirtual 82, 3), (125, .aload_n 0, 1), (126, .iconst 1, 1), (127, .iload_n 2, 1), (128, .ishl, 1), (129, .invokevirtual 86, 3), (132, .iinc 3 1, 3), (135, .goto (-54), 3), (138, .aload_n 0, 1), (139, .aload_n 0, 1), (140, .getfield 11, 3), (143, .aload_n 0, 1), (144, .getfield 22, 3), (147, .iconst 0, 1), (148, .iaload, 1), (149, .aload_n 0, 1), (150, .getfield 22, 3), (153, .iconst 1, 1), (154, .iaload, 1), (155, .aload_n 0, 1), (156, .getfield 22, 3), (159, .iconst 2, 1), (160, .iaload, 1), (161, .invokestatic 90, 3), (164, .laload, 1), (165, .putfield 33, 3), (168, .aload_n 0, 1), (169, .iload_n 2, 1), (170, .putfield 29, 3), (173, .return_, 1)]
noncomputable abbrev dlX3_cellOf : List (Nat × Instr × Nat) := [(0, .iload_n 0, 1), (1, .bipush 13, 2), (3, .imul, 1), (4, .iload_n 1, 1), (5, .iadd, 1), (6, .bipush 13, 2), (8, .imul, 1), (9, .iload_n 2, 1), (10, .iadd, 1), (11, .ireturn, 1)]
noncomputable abbrev dlX3_weighWays : List (Nat × Instr × Nat) := [(0, .iconst 0, 1), (1, .istore 4, 2), (3, .iload 4, 2), (5, .iconst 1, 1), (6, .iload_n 3, 1), (7, .ishl, 1), (8, .if_icmp .ge 150, 3), (11, .iload 4, 2), (13, .bipush 8, 2), (15, .if_icmp .ge 143, 3), (18, .lconst 0, 1), (19, .lstore 5, 2), (21, .aload_n 1, 1), (22, .getfield 94, 3), (25, .iload_n 2, 1), (26, .iaload, 1), (27, .istore 7, 2), (29, .iconst 0, 1), (30, .istore 8, 2), (32, .iload 8, 2), (34, .iconst 3, 1), (35, .if_icmp .ge 92, 3), (38, .iload 4, 2), (40, .iload 8, 2), (42, .ishr, 1), (43, .iconst 1, 1), (44, .iand, 1), (45, .ifCond .eq 7, 3), (48, .iconst 1, 1), (49, .goto 4, 3), (52, .iconst 0, 1), (53, .istore 9, 2), (55, .aload_n 0, 1), (56, .getfield 18, 3), (59, .iload 4, 2), (61, .iconst 3, 1), (62, .imul, 1), (63, .iload 8, 2), (65, .iadd, 1), (66, .iload 9, 2), (68, .ifCond .eq 13, 3), (71, .aload_n 0, 1), (72, .iload_n 2, 1), (73, .iload 7, 2), (75, .invokevirtual 97, 3), (78, .goto 4, 3), (81, .iconst 0, 1), (82, .iastore, 1), (83, .iload 9, 2), (85, .ifCond .eq 20, 3), (88, .lload 5, 2), (90, .lconst 1, 1), (91, .iload 8, 2), (93, .invokestatic 37, 3), (96, .iload_n 2, 1), (97, .iadd, 1), (98, .lshl, 1), (99, .lor, 1), (100, .lstore 5, 2), (102, .iconst 0, 1), (103, .istore 7, 2), (105, .iload 7, 2), (107, .iconst (-1), 1), (108, .if_icmp .ne 7, 3), (111, .iconst (-1), 1), (112, .goto 7, 3), (115, .iload 7, 2), (117, .iconst 1, 1), (118, .iadd, 1), (119, .istore 7, 2), (121, .iinc 8 1, 3), (124, .goto (-92), 3), (127, .aload_n 0, 1), (128, .getfield 15, 3), (131, .iload 4, 2), (133, .aload_n 0, 1), (134, .getfield 25, 3), (137, .aload_n 1, 1), (138, .iload_n 2, 1), (139, .iload_n 3, 1), (140, .iload 4, 2), (142, .invokevirtual 100, 3), (145, .bipush 24, 2), (147, .lshl, 1), (148, .lload 5, 2), (150, .ladd, 1), (151, .lastore, 1), (152, .iinc 4 1, 3), (155, .goto (-152), 3), (158, .return_, 1)]
noncomputable abbrev dlX3_hoursAtAge : List (Nat × Instr × Nat) := [(0, .iload_n 2, 1), (1, .ifCond .ne 6, 3), (4, .bipush 99, 2), (6, .ireturn, 1), (7, .iload_n 2, 1), (8, .iconst (-1), 1), (9, .if_icmp .ne 18, 3), (12, .aload_n 0, 1), (13, .getfield 25, 3), (16, .getfield 52, 3), (19, .getfield 104, 3), (22, .iload_n 1, 1), (23, .iaload, 1), (24, .goto 14, 3), (27, .aload_n 0, 1), (28, .getfield 25, 3), (31, .getfield 52, 3), (34, .iload_n 1, 1), (35, .invokevirtual 106, 3), (38, .ireturn, 1)]
noncomputable abbrev dlX3_addLife : List (Nat × Instr × Nat) := [(0, .aload_n 0, 1), (1, .getfield 22, 3), (4, .iconst 0, 1), (5, .iaload, 1), (6, .istore_n 2, 1), (7, .iload_n 2, 1), (8, .ifCond .lt 66, 3), (11, .aload_n 0, 1), (12, .getfield 22, 3), (15, .iconst 1, 1), (16, .iaload, 1), (17, .istore_n 3, 1), (18, .iload_n 3, 1), (19, .ifCond .lt 49, 3), (22, .aload_n 0, 1), (23, .getfield 22, 3), (26, .iconst 2, 1), (27, .iaload, 1), (28, .istore 4, 2), (30, .iload 4, 2), (32, .ifCond .lt 30, 3), (35, .aload_n 0, 1), (36, .getfield 11, 3), (39, .iload_n 2, 1), (40, .iload_n 3, 1), (41, .iload 4, 2), (43, .invokestatic 90, 3), (46, .aload_n 0, 1), (47, .iload_n 1, 1), (48, .iload_n 2, 1), (49, .iload_n 3, 1), (50, .iload 4, 2), (52, .invokevirtual 109, 3), (55, .lastore, 1), (56, .iinc 4 (-1), 3), (59, .goto (-29), 3), (62, .iinc 3 (-1), 3), (65, .goto (-47), 3), (68, .iinc 2 (-1), 3), (71, .goto (-64), 3), (74, .return_, 1)]
noncomputable abbrev dlX3_leastOf : List (Nat × Instr × Nat) := [(0, .aload_n 0, 1), (1, .getfield 11, 3), (4, .iload_n 2, 1), (5, .iload_n 3, 1), (6, .iload 4, 2), (8, .invokestatic 90, 3), (11, .laload, 1), (12, .aload_n 0, 1), (13, .getfield 15, 3), (16, .iconst 0, 1), (17, .laload, 1), (18, .ladd, 1), (19, .lstore 5, 2), (21, .iconst 1, 1), (22, .istore 7, 2), (24, .iload 7, 2), (26, .iload_n 1, 1), (27, .if_icmp .ge 104, 3), (30, .iload 7, 2), (32, .bipush 8, 2), (34, .if_icmp .ge 97, 3), (37, .iload_n 2, 1), (38, .aload_n 0, 1), (39, .getfield 18, 3), (42, .iload 7, 2), (44, .iconst 3, 1), (45, .imul, 1), (46, .iaload, 1), (47, .isub, 1), (48, .istore 8, 2), (50, .iload_n 3, 1), (51, .aload_n 0, 1), (52, .getfield 18, 3), (55, .iload 7, 2), (57, .iconst 3, 1), (58, .imul, 1), (59, .iconst 1, 1), (60, .iadd, 1), (61, .iaload, 1), (62, .isub, 1), (63, .istore 9, 2), (65, .iload 4, 2), (67, .aload_n 0, 1), (68, .getfield 18, 3), (71, .iload 7, 2), (73, .iconst 3, 1), (74, .imul, 1), (75, .iconst 2, 1), (76, .iadd, 1), (77, .iaload, 1), (78, .isub, 1), (79, .istore 10, 2), (81, .iload 8, 2), (83, .ifCond .lt 42, 3), (86, .iload 9, 2), (88, .ifCond .lt 37, 3), (91, .iload 10, 2), (93, .ifCond .lt 32, 3), (96, .lload 5, 2), (98, .aload_n 0, 1), (99, .getfield 11, 3), (102, .iload 8, 2), (104, .iload 9, 2), (106, .iload 10, 2), (108, .invokestatic 90, 3), (111, .laload, 1), (112, .aload_n 0, 1), (113, .getfield 15, 3), (116, .iload 7, 2), (118, .laload, 1), (119, .ladd, 1), (120, .invokestatic 113, 3), (123, .lstore 5, 2), (125, .iinc 7 1, 3), (128, .goto (-104), 3), (131, .lload 5, 2), (133, .lreturn, 1)]
noncomputable abbrev dlX4_init : List (Nat × Instr × Nat) := [(0, .aload_n 0, 1), (1, .invokespecial 3, 3), (4, .aload_n 0, 1), (5, .new 9, 3), (8, .dup, 1), (9, .invokespecial 11, 3), (12, .putfield 12, 3), (15, .aload_n 0, 1), (16, .bipush 8, 2), (18, .newarray .long, 2), (20, .putfield 18, 3), (23, .aload_n 0, 1), (24, .aload_n 1, 1), (25, .putfield 22, 3), (28, .return_, 1)]
noncomputable abbrev dlX4_play : List (Nat × Instr × Nat) := [(0, .aload_n 0, 1), (1, .getfield 12, 3), (4, .aload_n 1, 1), (5, .invokevirtual 26, 3), (8, .aload_n 0, 1), (9, .getfield 12, 3), (12, .iconst 0, 1), (13, .putfield 30, 3), (16, .aload_n 0, 1), (17, .getfield 12, 3), (20, .iconst 0, 1), (21, .putfield 34, 3), (24, .aload_n 0, 1), (25, .getfield 12, 3), (28, .lconst 0, 1), (29, .putfield 37, 3), (32, .aload_n 0, 1), (33, .iconst 0, 1), (34, .putfield 41, 3), (37, .aload_n 0, 1), (38, .iload_n 2, 1), (39, .putfield 44, 3), (42, .iconst 0, 1), (43, .istore 4, 2), (45, .iload 4, 2), (47, .iload_n 3, 1), (48, .if_icmp .ge 29, 3), (51, .aload_n 0, 1), (52, .invokevirtual 47, 3), (55, .aload_n 0, 1), (56, .invokevirtual 50, 3), (59, .aload_n 0, 1), (60, .getfield 22, 3), (63, .aload_n 0, 1), (64, .getfield 12, 3), (67, .invokevirtual 53, 3), (70, .pop, 1), (71, .iinc 4 1, 3), (74, .goto (-29), 3), (77, .return_, 1)]
noncomputable abbrev dlX4_drawOf64 : List (Nat × Instr × Nat) := [(0, .aload_n 0, 1), (1, .aload_n 0, 1), (2, .getfield 44, 3), (5, .ldc 59, 2), (7, .imul, 1), (8, .sipush 12345, 3), (11, .iadd, 1), (12, .putfield 44, 3), (15, .aload_n 0, 1), (16, .getfield 44, 3), (19, .bipush 16, 2), (21, .iushr, 1), (22, .sipush 32767, 3), (25, .iand, 1), (26, .bipush 64, 2), (28, .irem, 1), (29, .ireturn, 1)]
noncomputable abbrev dlX4_drawDeaths : List (Nat × Instr × Nat) := [(0, .iconst 0, 1), (1, .istore_n 1, 1), (2, .iload_n 1, 1), (3, .aload_n 0, 1), (4, .getfield 22, 3), (7, .getfield 60, 3), (10, .getfield 64, 3), (13, .if_icmp .ge 52, 3), (16, .aload_n 0, 1), (17, .getfield 12, 3), (20, .iload_n 1, 1), (21, .invokevirtual 69, 3), (24, .ifCond .eq 35, 3), (27, .aload_n 0, 1), (28, .invokevirtual 73, 3), (31, .aload_n 0, 1), (32, .getfield 22, 3), (35, .getfield 60, 3), (38, .getfield 77, 3), (41, .iload_n 1, 1), (42, .iaload, 1), (43, .if_icmp .ge 16, 3), (46, .aload_n 0, 1), (47, .getfield 22, 3), (50, .aload_n 0, 1), (51, .getfield 12, 3), (54, .iload_n 1, 1), (55, .invokevirtual 81, 3), (58, .pop, 1), (59, .iinc 1 1, 3), (62, .goto (-60), 3), (65, .return_, 1)]
noncomputable abbrev dlX4_putFirsts : List (Nat × Instr × Nat) := [(0, .iconst 0, 1), (1, .istore_n 1, 1), (2, .iload_n 1, 1), (3, .aload_n 0, 1), (4, .getfield 22, 3), (7, .getfield 60, 3), (10, .getfield 64, 3), (13, .if_icmp .ge 27, 3), (16, .aload_n 0, 1), (17, .getfield 18, 3), (20, .iload_n 1, 1), (21, .aload_n 0, 1), (22, .getfield 22, 3), (25, .aload_n 0, 1), (26, .getfield 12, 3), (29, .iload_n 1, 1), (30, .invokevirtual 85, 3), (33, .lastore, 1), (34, .iinc 1 1, 3), (37, .goto (-35), 3), (40, .iconst 0, 1), (41, .istore_n 1, 1), (42, .iload_n 1, 1), (43, .aload_n 0, 1), (44, .getfield 22, 3), (47, .getfield 60, 3), (50, .getfield 64, 3), (53, .if_icmp .ge 70, 3), (56, .aload_n 0, 1), (57, .getfield 22, 3), (60, .aload_n 0, 1), (61, .getfield 12, 3), (64, .aload_n 0, 1), (65, .getfield 18, 3), (68, .aload_n 0, 1), (69, .getfield 12, 3), (72, .getfield 89, 3), (75, .invokevirtual 92, 3), (78, .istore_n 2, 1), (79, .iload_n 2, 1), (80, .iconst (-1), 1), (81, .if_icmp .eq 18, 3), (84, .aload_n 0, 1), (85, .getfield 22, 3), (88, .aload_n 0, 1), (89, .getfield 12, 3), (92, .iload_n 2, 1), (93, .invokevirtual 96, 3), (96, .ifCond .ne 4, 3), (99, .return_, 1), (100, .aload_n 0, 1), (101, .getfield 18, 3), (104, .iload_n 2, 1), (105, .lconst 0, 1), (106, .lastore, 1), (107, .aload_n 0, 1), (108, .dup, 1), (109, .getfield 41, 3), (112, .iconst 1, 1), (113, .iadd, 1), (114, .putfield 41, 3), (117, .iinc 1 1, 3), (120, .goto (-78), 3), (123, .return_, 1)]
noncomputable abbrev dlX5_init : List (Nat × Instr × Nat) := [(0, .aload_n 0, 1), (1, .invokespecial 3, 3), (4, .aload_n 0, 1), (5, .new 9, 3), (8, .dup, 1), (9, .invokespecial 11, 3), (12, .putfield 12, 3), (15, .aload_n 0, 1), (16, .bipush 16, 2), (18, .anewarray 9, 3), (21, .putfield 18, 3), (24, .iconst 0, 1), (25, .istore_n 1, 1), (26, .iload_n 1, 1), (27, .bipush 16, 2), (29, .if_icmp .ge 22, 3), (32, .aload_n 0, 1), (33, .getfield 18, 3), (36, .iload_n 1, 1), (37, .new 9, 3), (40, .dup, 1), (41, .invokespecial 11, 3), (44, .aastore, 1), (45, .iinc 1 1, 3), (48, .goto (-22), 3), (51, .return_, 1)]
noncomputable abbrev dlX5_keep : List (Nat × Instr × Nat) := [(0, .aload_n 0, 1), (1, .getfield 22, 3), (4, .ifCond .lt 38, 3), (7, .aload_n 0, 1), (8, .getfield 22, 3), (11, .bipush 16, 2), (13, .if_icmp .ge 29, 3), (16, .aload_n 0, 1), (17, .getfield 18, 3), (20, .aload_n 0, 1), (21, .getfield 22, 3), (24, .aaload, 1), (25, .aload_n 0, 1), (26, .getfield 12, 3), (29, .invokevirtual 26, 3), (32, .aload_n 0, 1), (33, .dup, 1), (34, .getfield 22, 3), (37, .iconst 1, 1), (38, .iadd, 1), (39, .putfield 22, 3), (42, .return_, 1)]
noncomputable abbrev dlX5_goBack : List (Nat × Instr × Nat) := [(0, .aload_n 0, 1), (1, .getfield 22, 3), (4, .ifCond .le 38, 3), (7, .aload_n 0, 1), (8, .getfield 22, 3), (11, .bipush 16, 2), (13, .if_icmp .gt 29, 3), (16, .aload_n 0, 1), (17, .dup, 1), (18, .getfield 22, 3), (21, .iconst 1, 1), (22, .isub, 1), (23, .putfield 22, 3), (26, .aload_n 0, 1), (27, .getfield 12, 3), (30, .aload_n 0, 1), (31, .getfield 18, 3), (34, .aload_n 0, 1), (35, .getfield 22, 3), (38, .aaload, 1), (39, .invokevirtual 26, 3), (42, .return_, 1)]
noncomputable abbrev dlX5_copyFrom : List (Nat × Instr × Nat) := [(0, .aload_n 0, 1), (1, .getfield 12, 3), (4, .aload_n 1, 1), (5, .getfield 12, 3), (8, .invokevirtual 26, 3), (11, .aload_n 0, 1), (12, .aload_n 1, 1), (13, .getfield 22, 3), (16, .putfield 22, 3), (19, .iconst 0, 1), (20, .istore_n 2, 1), (21, .iload_n 2, 1), (22, .aload_n 0, 1), (23, .getfield 22, 3), (26, .if_icmp .ge 30, 3), (29, .iload_n 2, 1), (30, .bipush 16, 2), (32, .if_icmp .ge 24, 3), (35, .aload_n 0, 1), (36, .getfield 18, 3), (39, .iload_n 2, 1), (40, .aaload, 1), (41, .aload_n 1, 1), (42, .getfield 18, 3), (45, .iload_n 2, 1), (46, .aaload, 1), (47, .invokevirtual 26, 3), (50, .iinc 2 1, 3), (53, .goto (-32), 3), (56, .return_, 1)]
noncomputable abbrev dlX6_init : List (Nat × Instr × Nat) := [(0, .aload_n 0, 1), (1, .invokespecial 3, 3), (4, .aload_n 0, 1), (5, .bipush 8, 2), (7, .newarray .int, 2), (9, .putfield 9, 3), (12, .return_, 1)]
noncomputable abbrev dlX6_begin : List (Nat × Instr × Nat) := [(0, .aload_n 1, 1), (1, .getfield 15, 3), (4, .iconst 0, 1), (5, .aload_n 0, 1), (6, .getfield 9, 3), (9, .iconst 0, 1), (10, .bipush 8, 2), (12, .invokestatic 20, 3), (15, .aload_n 0, 1), (16, .iconst 0, 1), (17, .putfield 26, 3), (20, .aload_n 0, 1), (21, .iconst 0, 1), (22, .putfield 30, 3), (25, .aload_n 0, 1), (26, .aload_n 1, 1), (27, .getfield 33, 3), (30, .putfield 36, 3), (33, .aload_n 0, 1), (34, .iconst 0, 1), (35, .putfield 39, 3), (38, .aload_n 0, 1), (39, .iconst 0, 1), (40, .putfield 42, 3), (43, .aload_n 0, 1), (44, .lconst 0, 1), (45, .putfield 45, 3), (48, .return_, 1)]
noncomputable abbrev dlX6_copyFrom : List (Nat × Instr × Nat) := [(0, .aload_n 1, 1), (1, .getfield 9, 3), (4, .iconst 0, 1), (5, .aload_n 0, 1), (6, .getfield 9, 3), (9, .iconst 0, 1), (10, .bipush 8, 2), (12, .invokestatic 20, 3), (15, .aload_n 0, 1), (16, .aload_n 1, 1), (17, .getfield 26, 3), (20, .putfield 26, 3), (23, .aload_n 0, 1), (24, .aload_n 1, 1), (25, .getfield 30, 3), (28, .putfield 30, 3), (31, .aload_n 0, 1), (32, .aload_n 1, 1), (33, .getfield 36, 3), (36, .putfield 36, 3), (39, .aload_n 0, 1), (40, .aload_n 1, 1), (41, .getfield 39, 3), (44, .putfield 39, 3), (47, .aload_n 0, 1), (48, .aload_n 1, 1), (49, .getfield 42, 3), (52, .putfield 42, 3), (55, .aload_n 0, 1), (56, .aload_n 1, 1), (57, .getfield 45, 3), (60, .putfield 45, 3), (63, .return_, 1)]
noncomputable abbrev dlX6_isAlive : List (Nat × Instr × Nat) := [(0, .aload_n 0, 1), (1, .getfield 26, 3), (4, .iload_n 1, 1), (5, .ishr, 1), (6, .iconst 1, 1), (7, .iand, 1), (8, .ifCond .ne 7, 3), (11, .iconst 1, 1), (12, .goto 4, 3), (15, .iconst 0, 1), (16, .ireturn, 1)]
noncomputable abbrev dlX6_pieces : List (Nat × Instr × Nat) := [(0, .iconst 0, 1), (1, .istore_n 2, 1), (2, .iconst 0, 1), (3, .istore_n 3, 1), (4, .iload_n 3, 1), (5, .iload_n 1, 1), (6, .if_icmp .ge 33, 3), (9, .iload_n 3, 1), (10, .bipush 8, 2), (12, .if_icmp .ge 27, 3), (15, .iload_n 2, 1), (16, .aload_n 0, 1), (17, .getfield 9, 3), (20, .iload_n 3, 1), (21, .iaload, 1), (22, .iconst (-1), 1), (23, .if_icmp .ne 7, 3), (26, .iconst 0, 1), (27, .goto 4, 3), (30, .iconst 1, 1), (31, .iadd, 1), (32, .istore_n 2, 1), (33, .iinc 3 1, 3), (36, .goto (-32), 3), (39, .iload_n 2, 1), (40, .ireturn, 1)]
noncomputable abbrev dlX7_init : List (Nat × Instr × Nat) := [(0, .aload_n 0, 1), (1, .invokespecial 3, 3), (4, .aload_n 0, 1), (5, .sipush 600, 3), (8, .newarray .byte, 2), (10, .putfield 9, 3), (13, .aload_n 0, 1), (14, .iconst (-1), 1), (15, .putfield 15, 3), (18, .return_, 1)]
noncomputable abbrev dlX7_put : List (Nat × Instr × Nat) := [(0, .bipush 24, 2), (2, .istore_n 2, 1), (3, .iload_n 2, 1), (4, .ifCond .lt 42, 3), (7, .aload_n 0, 1), (8, .getfield 19, 3), (11, .sipush 600, 3), (14, .if_icmp .ge 32, 3), (17, .aload_n 0, 1), (18, .getfield 9, 3), (21, .aload_n 0, 1), (22, .getfield 19, 3), (25, .iload_n 1, 1), (26, .iload_n 2, 1), (27, .ishr, 1), (28, .i2b, 1), (29, .bastore, 1), (30, .aload_n 0, 1), (31, .dup, 1), (32, .getfield 19, 3), (35, .iconst 1, 1), (36, .iadd, 1), (37, .putfield 19, 3), (40, .iinc 2 (-8), 3), (43, .goto (-40), 3), (46, .return_, 1)]
noncomputable abbrev dlX7_open : List (Nat × Instr × Nat) := [(0, .aload_n 0, 1), (1, .iload_n 1, 1), (2, .putfield 22, 3), (5, .aload_n 0, 1), (6, .iconst 0, 1), (7, .putfield 25, 3), (10, .aload_n 0, 1), (11, .iconst 0, 1), (12, .putfield 19, 3), (15, .aload_n 0, 1), (16, .iconst 0, 1), (17, .putfield 28, 3), (20, .aload_n 0, 1), (21, .iconst (-1), 1), (22, .putfield 15, 3), (25, .return_, 1)]
noncomputable abbrev dlX7_fail : List (Nat × Instr × Nat) := [(0, .aload_n 0, 1), (1, .getfield 28, 3), (4, .ifCond .ne 13, 3), (7, .aload_n 0, 1), (8, .iload_n 1, 1), (9, .putfield 28, 3), (12, .aload_n 0, 1), (13, .iload_n 2, 1), (14, .putfield 15, 3), (17, .iconst 0, 1), (18, .ireturn, 1)]
noncomputable abbrev dlX7_failed : List (Nat × Instr × Nat) := [(0, .aload_n 0, 1), (1, .getfield 28, 3), (4, .ifCond .eq 7, 3), (7, .iconst 1, 1), (8, .goto 4, 3), (11, .iconst 0, 1), (12, .ireturn, 1)]
noncomputable abbrev dlX7_peek : List (Nat × Instr × Nat) := [(0, .aload_n 0, 1), (1, .getfield 25, 3), (4, .aload_n 0, 1), (5, .getfield 22, 3), (8, .if_icmp .ge 30, 3), (11, .aload_n 0, 1), (12, .getfield 9, 3), (15, .aload_n 0, 1), (16, .getfield 25, 3), (19, .baload, 1), (20, .bipush 32, 2), (22, .if_icmp .ne 16, 3), (25, .aload_n 0, 1), (26, .dup, 1), (27, .getfield 25, 3), (30, .iconst 1, 1), (31, .iadd, 1), (32, .putfield 25, 3), (35, .goto (-35), 3), (38, .aload_n 0, 1), (39, .getfield 25, 3), (42, .aload_n 0, 1), (43, .getfield 22, 3), (46, .if_icmp .ge 19, 3), (49, .aload_n 0, 1), (50, .getfield 9, 3), (53, .aload_n 0, 1), (54, .getfield 25, 3), (57, .baload, 1), (58, .sipush 255, 3), (61, .iand, 1), (62, .goto 4, 3), (65, .iconst (-1), 1), (66, .ireturn, 1)]
noncomputable abbrev dlX7_nextPlace : List (Nat × Instr × Nat) := [(0, .aload_n 0, 1), (1, .invokevirtual 31, 3), (4, .pop, 1), (5, .aload_n 0, 1), (6, .getfield 25, 3), (9, .ireturn, 1)]
noncomputable abbrev dlX7_takeSign : List (Nat × Instr × Nat) := [(0, .aload_n 0, 1), (1, .invokevirtual 31, 3), (4, .iload_n 1, 1), (5, .if_icmp .eq 13, 3), (8, .aload_n 0, 1), (9, .iconst 1, 1), (10, .aload_n 0, 1), (11, .getfield 25, 3), (14, .invokevirtual 35, 3), (17, .ireturn, 1), (18, .aload_n 0, 1), (19, .dup, 1), (20, .getfield 25, 3), (23, .iconst 1, 1), (24, .iadd, 1), (25, .putfield 25, 3), (28, .iconst 1, 1), (29, .ireturn, 1)]
noncomputable abbrev dlX7_takeNumber : List (Nat × Instr × Nat) := [(0, .aload_n 0, 1), (1, .invokevirtual 39, 3), (4, .istore_n 3, 1), (5, .iconst 0, 1), (6, .istore 4, 2), (8, .aload_n 0, 1), (9, .getfield 25, 3), (12, .aload_n 0, 1), (13, .getfield 22, 3), (16, .if_icmp .ge 69, 3), (19, .aload_n 0, 1), (20, .getfield 9, 3), (23, .aload_n 0, 1), (24, .getfield 25, 3), (27, .baload, 1), (28, .bipush 48, 2), (30, .if_icmp .lt 55, 3), (33, .aload_n 0, 1), (34, .getfield 9, 3), (37, .aload_n 0, 1), (38, .getfield 25, 3), (41, .baload, 1), (42, .bipush 57, 2), (44, .if_icmp .gt 41, 3), (47, .ldc 42, 2), (49, .iload 4, 2), (51, .bipush 10, 2), (53, .imul, 1), (54, .aload_n 0, 1), (55, .getfield 9, 3), (58, .aload_n 0, 1), (59, .getfield 25, 3), (62, .baload, 1), (63, .iadd, 1), (64, .bipush 48, 2), (66, .isub, 1), (67, .invokestatic 43, 3), (70, .istore 4, 2), (72, .aload_n 0, 1), (73, .dup, 1), (74, .getfield 25, 3), (77, .iconst 1, 1), (78, .iadd, 1), (79, .putfield 25, 3), (82, .goto (-74), 3), (85, .aload_n 0, 1), (86, .getfield 25, 3), (89, .iload_n 3, 1), (90, .if_icmp .ne 12, 3), (93, .aload_n 0, 1), (94, .iconst 1, 1), (95, .iload_n 3, 1), (96, .invokevirtual 35, 3), (99, .pop, 1), (100, .iconst (-1), 1), (101, .ireturn, 1), (102, .iload 4, 2), (104, .iload_n 1, 1), (105, .if_icmp .lt 9, 3), (108, .iload 4, 2), (110, .iload_n 2, 1), (111, .if_icmp .le 12, 3), (114, .aload_n 0, 1), (115, .iconst 2, 1), (116, .iload_n 3, 1), (117, .invokevirtual 35, 3), (120, .pop, 1), (121, .iconst (-1), 1), (122, .ireturn, 1), (123, .iload 4, 2), (125, .ireturn, 1)]
noncomputable abbrev dlX7_takeWord : List (Nat × Instr × Nat) := [(0, .aload_n 0, 1), (1, .invokevirtual 39, 3), (4, .istore_n 2, 1), (5, .iload_n 2, 1), (6, .istore_n 3, 1), (7, .iload_n 3, 1), (8, .aload_n 0, 1), (9, .getfield 22, 3), (12, .if_icmp .ge 31, 3), (15, .aload_n 0, 1), (16, .getfield 9, 3), (19, .iload_n 3, 1), (20, .baload, 1), (21, .bipush 97, 2), (23, .if_icmp .lt 20, 3), (26, .aload_n 0, 1), (27, .getfield 9, 3), (30, .iload_n 3, 1), (31, .baload, 1), (32, .bipush 122, 2), (34, .if_icmp .gt 9, 3), (37, .iinc 3 1, 3), (40, .goto (-33), 3), (43, .aload_n 0, 1), (44, .aload_n 1, 1), (45, .iload_n 2, 1), (46, .iload_n 3, 1), (47, .invokevirtual 49, 3), (50, .istore 4, 2), (52, .iload 4, 2), (54, .iconst (-1), 1), (55, .if_icmp .ne 12, 3), (58, .aload_n 0, 1), (59, .iconst 1, 1), (60, .iload_n 2, 1), (61, .invokevirtual 35, 3), (64, .pop, 1), (65, .iconst (-1), 1), (66, .ireturn, 1), (67, .aload_n 0, 1), (68, .iload_n 3, 1), (69, .putfield 25, 3), (72, .iload 4, 2), (74, .ireturn, 1)]
noncomputable abbrev dlX7_find : List (Nat × Instr × Nat) := [(0, .iconst 0, 1), (1, .istore 4, 2), (3, .iload_n 2, 1), (4, .istore 5, 2), (6, .iconst 1, 1), (7, .istore 6, 2), (9, .iconst 0, 1), (10, .istore 7, 2), (12, .iload 7, 2), (14, .aload_n 1, 1), (15, .invokevirtual 53, 3), (18, .if_icmp .ge 83, 3), (21, .aload_n 1, 1), (22, .iload 7, 2), (24, .invokevirtual 57, 3), (27, .istore 8, 2), (29, .iload 8, 2), (31, .bipush 32, 2), (33, .if_icmp .eq 39, 3), (36, .iload 6, 2), (38, .ifCond .eq 25, 3), (41, .iload 5, 2), (43, .iload_n 3, 1), (44, .if_icmp .ge 19, 3), (47, .aload_n 0, 1), (48, .getfield 9, 3), (51, .iload 5, 2), (53, .baload, 1), (54, .iload 8, 2), (56, .if_icmp .ne 7, 3), (59, .iconst 1, 1), (60, .goto 4, 3), (63, .iconst 0, 1), (64, .istore 6, 2), (66, .iinc 5 1, 3), (69, .goto 26, 3), (72, .iload 6, 2), (74, .ifCond .eq 12, 3), (77, .iload 5, 2), (79, .iload_n 3, 1), (80, .if_icmp .ne 6, 3), (83, .iload 4, 2), (85, .ireturn, 1), (86, .iinc 4 1, 3), (89, .iload_n 2, 1), (90, .istore 5, 2), (92, .iconst 1, 1), (93, .istore 6, 2), (95, .iinc 7 1, 3), (98, .goto (-86), 3), (101, .iconst (-1), 1), (102, .ireturn, 1)]
noncomputable abbrev dlX8_init : List (Nat × Instr × Nat) := [(0, .aload_n 0, 1), (1, .invokespecial 3, 3), (4, .aload_n 0, 1), (5, .bipush 8, 2), (7, .newarray .int, 2), (9, .putfield 9, 3), (12, .aload_n 0, 1), (13, .bipush 8, 2), (15, .newarray .int, 2), (17, .putfield 15, 3), (20, .aload_n 0, 1), (21, .bipush 8, 2), (23, .newarray .int, 2), (25, .putfield 18, 3), (28, .aload_n 0, 1), (29, .bipush 8, 2), (31, .newarray .int, 2), (33, .putfield 21, 3), (36, .aload_n 0, 1), (37, .bipush 8, 2), (39, .newarray .int, 2), (41, .putfield 24, 3), (44, .aload_n 0, 1), (45, .bipush 8, 2), (47, .newarray .int, 2), (49, .putfield 27, 3), (52, .aload_n 0, 1), (53, .bipush 24, 2), (55, .newarray .int, 2), (57, .putfield 30, 3), (60, .aload_n 0, 1), (61, .bipush 24, 2), (63, .newarray .int, 2), (65, .putfield 33, 3), (68, .aload_n 0, 1), (69, .bipush 24, 2), (71, .newarray .int, 2), (73, .putfield 36, 3), (76, .aload_n 0, 1), (77, .invokevirtual 39, 3), (80, .return_, 1)]
noncomputable abbrev dlX8_clear : List (Nat × Instr × Nat) := [(0, .aload_n 0, 1), (1, .iconst 0, 1), (2, .putfield 42, 3), (5, .aload_n 0, 1), (6, .iconst 0, 1), (7, .putfield 46, 3), (10, .aload_n 0, 1), (11, .bipush 8, 2), (13, .putfield 49, 3), (16, .aload_n 0, 1), (17, .iconst 5, 1), (18, .putfield 52, 3), (21, .aload_n 0, 1), (22, .iconst 3, 1), (23, .putfield 55, 3), (26, .aload_n 0, 1), (27, .iconst 2, 1), (28, .putfield 58, 3), (31, .return_, 1)]
noncomputable abbrev dlX8_copyFrom : List (Nat × Instr × Nat) := [(0, .aload_n 1, 1), (1, .getfield 9, 3), (4, .iconst 0, 1), (5, .aload_n 0, 1), (6, .getfield 9, 3), (9, .iconst 0, 1), (10, .bipush 8, 2), (12, .invokestatic 61, 3), (15, .aload_n 1, 1), (16, .getfield 15, 3), (19, .iconst 0, 1), (20, .aload_n 0, 1), (21, .getfield 15, 3), (24, .iconst 0, 1), (25, .bipush 8, 2), (27, .invokestatic 61, 3), (30, .aload_n 1, 1), (31, .getfield 18, 3), (34, .iconst 0, 1), (35, .aload_n 0, 1), (36, .getfield 18, 3), (39, .iconst 0, 1), (40, .bipush 8, 2), (42, .invokestatic 61, 3), (45, .aload_n 1, 1), (46, .getfield 21, 3), (49, .iconst 0, 1), (50, .aload_n 0, 1), (51, .getfield 21, 3), (54, .iconst 0, 1), (55, .bipush 8, 2), (57, .invokestatic 61, 3), (60, .aload_n 1, 1), (61, .getfield 24, 3), (64, .iconst 0, 1), (65, .aload_n 0, 1), (66, .getfield 24, 3), (69, .iconst 0, 1), (70, .bipush 8, 2), (72, .invokestatic 61, 3), (75, .aload_n 1, 1), (76, .getfield 27, 3), (79, .iconst 0, 1), (80, .aload_n 0, 1), (81, .getfield 27, 3), (84, .iconst 0, 1), (85, .bipush 8, 2), (87, .invokestatic 61, 3), (90, .aload_n 1, 1), (91, .getfield 30, 3), (94, .iconst 0, 1), (95, .aload_n 0, 1), (96, .getfield 30, 3), (99, .iconst 0, 1), (100, .bipush 24, 2), (102, .invokestatic 61, 3), (105, .aload_n 1, 1), (106, .getfield 33, 3), (109, .iconst 0, 1), (110, .aload_n 0, 1), (111, .getfield 33, 3), (114, .iconst 0, 1), (115, .bipush 24, 2), (117, .invokestatic 61, 3), (120, .aload_n 1, 1), (121, .getfield 36, 3), (124, .iconst 0, 1), (125, .aload_n 0, 1), (126, .getfield 36, 3), (129, .iconst 0, 1), (130, .bipush 24, 2), (132, .invokestatic 61, 3), (135, .aload_n 0, 1), (136, .aload_n 1, 1), (137, .getfield 42, 3), (140, .putfield 42, 3), (143, .aload_n 0, 1), (144, .aload_n 1, 1), (145, .getfield 46, 3), (148, .putfield 46, 3), (151, .aload_n 0, 1), (152, .aload_n 1, 1), (153, .getfield 49, 3), (156, .putfield 49, 3), (159, .aload_n 0, 1), (160, .aload_n 1, 1), (161, .getfield 52, 3), (164, .putfield 52, 3), (167, .aload_n 0, 1), (168, .aload_n 1, 1), (169, .getfield 55, 3), (172, .putfield 55, 3), (175, .aload_n 0, 1), (176, .aload_n 1, 1), (177, .getfield 58, 3), (180, .putfield 58, 3), (183, .return_, 1)]
noncomputable abbrev dlX8_read : List (Nat × Instr × Nat) := [(0, .aload_n 0, 1), (1, .invokevirtual 39, 3), (4, .iconst 0, 1), (5, .istore_n 2, 1), (6, .iload_n 2, 1), (7, .bipush 60, 2), (9, .if_icmp .gt 39, 3), (12, .aload_n 1, 1), (13, .invokevirtual 67, 3), (16, .iconst (-1), 1), (17, .if_icmp .ne 5, 3), (20, .iconst 1, 1), (21, .ireturn, 1), (22, .aload_n 0, 1), (23, .aload_n 1, 1), (24, .iload_n 2, 1), (25, .invokevirtual 73, 3), (28, .ifCond .eq 12, 3), (31, .aload_n 1, 1), (32, .bipush 59, 2), (34, .invokevirtual 77, 3), (37, .ifCond .ne 5, 3), (40, .iconst 0, 1), (41, .ireturn, 1), (42, .iinc 2 1, 3), (45, .goto (-39), 3), (48, .aload_n 1, 1), (49, .iconst 3, 1), (50, .aload_n 1, 1), (51, .getfield 81, 3), (54, .invokevirtual 84, 3), (57, .ireturn, 1)]
noncomputable abbrev dlX8_readClause : List (Nat × Instr × Nat) := [(0, .aload_n 1, 1), (1, .invokevirtual 88, 3), (4, .istore_n 3, 1), (5, .aload_n 1, 1), (6, .ldc 91, 2), (8, .invokevirtual 93, 3), (11, .istore 4, 2), (13, .iload 4, 2), (15, .iconst (-1), 1), (16, .if_icmp .ne 5, 3), (19, .iconst 0, 1), (20, .ireturn, 1), (21, .iload_n 2, 1), (22, .bipush 60, 2), (24, .if_icmp .ge 32, 3), (27, .iload 4, 2), (29, .ifCond .ne 12, 3), (32, .aload_n 0, 1), (33, .getfield 42, 3), (36, .bipush 8, 2), (38, .if_icmp .ge 18, 3), (41, .iload 4, 2), (43, .iconst 3, 1), (44, .if_icmp .ne 16, 3), (47, .aload_n 0, 1), (48, .getfield 46, 3), (51, .bipush 24, 2), (53, .if_icmp .lt 7, 3), (56, .iconst 1, 1), (57, .goto 4, 3), (60, .iconst 0, 1), (61, .istore 5, 2), (63, .iload 5, 2), (65, .ifCond .eq 10, 3), (68, .aload_n 1, 1), (69, .iconst 3, 1), (70, .iload_n 3, 1), (71, .invokevirtual 84, 3), (74, .ireturn, 1), (75, .iload 4, 2), (77, .tableswitch 55 0 3 #[31, 37, 43, 49], 31), (108, .aload_n 0, 1), (109, .aload_n 1, 1), (110, .invokevirtual 97, 3), (113, .ireturn, 1), (114, .aload_n 0, 1), (115, .aload_n 1, 1), (116, .invokevirtual 101, 3), (119, .ireturn, 1), (120, .aload_n 0, 1), (121, .aload_n 1, 1), (122, .invokevirtual 104, 3), (125, .ireturn, 1), (126, .aload_n 0, 1), (127, .aload_n 1, 1), (128, .invokevirtual 107, 3), (131, .ireturn, 1), (132, .aload_n 0, 1), (133, .aload_n 1, 1), (134, .iload 4, 2), (136, .invokevirtual 110, 3), (139, .ireturn, 1)]
noncomputable abbrev dlX8_readLife : List (Nat × Instr × Nat) := [(0, .aload_n 1, 1), (1, .iconst 0, 1), (2, .bipush 110, 2), (4, .invokevirtual 113, 3), (7, .istore_n 2, 1), (8, .aload_n 1, 1), (9, .iconst 0, 1), (10, .bipush 64, 2), (12, .invokevirtual 113, 3), (15, .istore_n 3, 1), (16, .aload_n 1, 1), (17, .iconst 1, 1), (18, .bipush 99, 2), (20, .invokevirtual 113, 3), (23, .istore 4, 2), (25, .aload_n 1, 1), (26, .iconst 1, 1), (27, .bipush 9, 2), (29, .invokevirtual 113, 3), (32, .istore 5, 2), (34, .aload_n 1, 1), (35, .invokevirtual 117, 3), (38, .ifCond .ne 12, 3), (41, .aload_n 0, 1), (42, .getfield 42, 3), (45, .bipush 8, 2), (47, .if_icmp .lt 5, 3), (50, .iconst 0, 1), (51, .ireturn, 1), (52, .aload_n 0, 1), (53, .getfield 9, 3), (56, .aload_n 0, 1), (57, .getfield 42, 3), (60, .iload_n 2, 1), (61, .iastore, 1), (62, .aload_n 0, 1), (63, .getfield 15, 3), (66, .aload_n 0, 1), (67, .getfield 42, 3), (70, .iload_n 3, 1), (71, .iastore, 1), (72, .aload_n 0, 1), (73, .getfield 18, 3), (76, .aload_n 0, 1), (77, .getfield 42, 3), (80, .iload 4, 2), (82, .iastore, 1), (83, .aload_n 0, 1), (84, .getfield 21, 3), (87, .aload_n 0, 1), (88, .getfield 42, 3), (91, .iload 5, 2), (93, .iastore, 1), (94, .aload_n 0, 1), (95, .getfield 24, 3), (98, .aload_n 0, 1), (99, .getfield 42, 3), (102, .iconst (-1), 1), (103, .iastore, 1), (104, .aload_n 0, 1), (105, .getfield 27, 3), (108, .aload_n 0, 1), (109, .getfield 42, 3), (112, .iconst (-1), 1), (113, .iastore, 1), (114, .aload_n 0, 1), (115, .dup, 1), (116, .getfield 42, 3), (119, .iconst 1, 1), (120, .iadd, 1), (121, .putfield 42, 3), (124, .iconst 1, 1), (125, .ireturn, 1)]
noncomputable abbrev dlX8_readHas : List (Nat × Instr × Nat) := [(0, .aload_n 1, 1), (1, .iconst 0, 1), (2, .aload_n 0, 1), (3, .getfield 42, 3), (6, .iconst 1, 1), (7, .isub, 1), (8, .invokevirtual 113, 3), (11, .istore_n 2, 1), (12, .aload_n 1, 1), (13, .iconst 0, 1), (14, .bipush 40, 2), (16, .invokevirtual 113, 3), (19, .istore_n 3, 1), (20, .aload_n 1, 1), (21, .invokevirtual 117, 3), (24, .ifCond .ne 7, 3), (27, .iload_n 2, 1), (28, .ifCond .ge 5, 3), (31, .iconst 0, 1), (32, .ireturn, 1), (33, .aload_n 0, 1), (34, .getfield 24, 3), (37, .iload_n 2, 1), (38, .iload_n 3, 1), (39, .iastore, 1), (40, .iconst 1, 1), (41, .ireturn, 1)]
noncomputable abbrev dlX8_readBy : List (Nat × Instr × Nat) := [(0, .aload_n 1, 1), (1, .iconst 0, 1), (2, .aload_n 0, 1), (3, .getfield 42, 3), (6, .iconst 1, 1), (7, .isub, 1), (8, .invokevirtual 113, 3), (11, .istore_n 2, 1), (12, .aload_n 1, 1), (13, .invokevirtual 88, 3), (16, .istore_n 3, 1), (17, .aload_n 1, 1), (18, .iconst 0, 1), (19, .aload_n 0, 1), (20, .getfield 42, 3), (23, .iconst 1, 1), (24, .isub, 1), (25, .invokevirtual 113, 3), (28, .istore 4, 2), (30, .iload 4, 2), (32, .iload_n 2, 1), (33, .if_icmp .ne 10, 3), (36, .aload_n 1, 1), (37, .iconst 2, 1), (38, .iload_n 3, 1), (39, .invokevirtual 84, 3), (42, .pop, 1), (43, .aload_n 1, 1), (44, .invokevirtual 117, 3), (47, .ifCond .ne 7, 3), (50, .iload_n 2, 1), (51, .ifCond .ge 5, 3), (54, .iconst 0, 1), (55, .ireturn, 1), (56, .aload_n 0, 1), (57, .getfield 27, 3), (60, .iload_n 2, 1), (61, .iload 4, 2), (63, .iastore, 1), (64, .iconst 1, 1), (65, .ireturn, 1)]
noncomputable abbrev dlX8_readFact : List (Nat × Instr × Nat) := [(0, .aload_n 1, 1), (1, .iconst 0, 1), (2, .aload_n 0, 1), (3, .getfield 42, 3), (6, .iconst 1, 1), (7, .isub, 1), (8, .invokevirtual 113, 3), (11, .istore_n 2, 1), (12, .aload_n 1, 1), (13, .iconst 0, 1), (14, .iconst 5, 1), (15, .invokevirtual 113, 3), (18, .istore_n 3, 1), (19, .aload_n 1, 1), (20, .iconst 1, 1), (21, .bipush 60, 2), (23, .invokevirtual 113, 3), (26, .istore 4, 2), (28, .aload_n 1, 1), (29, .invokevirtual 117, 3), (32, .ifCond .ne 12, 3), (35, .aload_n 0, 1), (36, .getfield 46, 3), (39, .bipush 24, 2), (41, .if_icmp .lt 5, 3), (44, .iconst 0, 1), (45, .ireturn, 1), (46, .aload_n 0, 1), (47, .getfield 30, 3), (50, .aload_n 0, 1), (51, .getfield 46, 3), (54, .iload_n 2, 1), (55, .iastore, 1), (56, .aload_n 0, 1), (57, .getfield 33, 3), (60, .aload_n 0, 1), (61, .getfield 46, 3), (64, .iload_n 3, 1), (65, .iastore, 1), (66, .aload_n 0, 1), (67, .getfield 36, 3), (70, .aload_n 0, 1), (71, .getfield 46, 3), (74, .iload 4, 2), (76, .iastore, 1), (77, .aload_n 0, 1), (78, .dup, 1), (79, .getfield 46, 3), (82, .iconst 1, 1), (83, .iadd, 1), (84, .putfield 46, 3), (87, .iconst 1, 1), (88, .ireturn, 1)]
noncomputable abbrev dlX8_readRule : List (Nat × Instr × Nat) := [(0, .iload_n 2, 1), (1, .tableswitch 69 4 6 #[27, 41, 55], 27), (28, .aload_n 0, 1), (29, .aload_n 1, 1), (30, .iconst 1, 1), (31, .bipush 12, 2), (33, .invokevirtual 113, 3), (36, .putfield 49, 3), (39, .goto 41, 3), (42, .aload_n 0, 1), (43, .aload_n 1, 1), (44, .iconst 0, 1), (45, .bipush 9, 2), (47, .invokevirtual 113, 3), (50, .putfield 52, 3), (53, .goto 27, 3), (56, .aload_n 0, 1), (57, .aload_n 1, 1), (58, .iconst 0, 1), (59, .bipush 9, 2), (61, .invokevirtual 113, 3), (64, .putfield 55, 3), (67, .goto 13, 3), (70, .aload_n 0, 1), (71, .aload_n 1, 1), (72, .iconst 1, 1), (73, .iconst 4, 1), (74, .invokevirtual 113, 3), (77, .putfield 58, 3), (80, .aload_n 1, 1), (81, .invokevirtual 117, 3), (84, .ifCond .ne 7, 3), (87, .iconst 1, 1), (88, .goto 4, 3), (91, .iconst 0, 1), (92, .ireturn, 1)]
noncomputable abbrev dlX8_renewHours : List (Nat × Instr × Nat) := [(0, .aload_n 0, 1), (1, .getfield 58, 3), (4, .ifCond .le 10, 3), (7, .aload_n 0, 1), (8, .getfield 58, 3), (11, .goto 4, 3), (14, .iconst 1, 1), (15, .istore_n 2, 1), (16, .iconst 1, 1), (17, .aload_n 0, 1), (18, .getfield 21, 3), (21, .iload_n 1, 1), (22, .iaload, 1), (23, .iload_n 2, 1), (24, .idiv, 1), (25, .invokestatic 121, 3), (28, .ireturn, 1)]
noncomputable abbrev dlX8_changesBetween : List (Nat × Instr × Nat) := [(0, .iconst 0, 1), (1, .istore 4, 2), (3, .iconst 0, 1), (4, .istore 5, 2), (6, .iload 5, 2), (8, .aload_n 0, 1), (9, .getfield 46, 3), (12, .if_icmp .ge 45, 3), (15, .aload_n 0, 1), (16, .getfield 30, 3), (19, .iload 5, 2), (21, .iaload, 1), (22, .iload_n 1, 1), (23, .if_icmp .ne 28, 3), (26, .aload_n 0, 1), (27, .getfield 36, 3), (30, .iload 5, 2), (32, .iaload, 1), (33, .iload_n 2, 1), (34, .if_icmp .le 17, 3), (37, .aload_n 0, 1), (38, .getfield 36, 3), (41, .iload 5, 2), (43, .iaload, 1), (44, .iload_n 3, 1), (45, .if_icmp .gt 6, 3), (48, .iinc 4 1, 3), (51, .iinc 5 1, 3), (54, .goto (-48), 3), (57, .iload 4, 2), (59, .ireturn, 1)]
noncomputable abbrev dlX8_factBits : List (Nat × Instr × Nat) := [(0, .iconst 0, 1), (1, .istore_n 3, 1), (2, .iconst 0, 1), (3, .istore 4, 2), (5, .iload 4, 2), (7, .aload_n 0, 1), (8, .getfield 46, 3), (11, .if_icmp .ge 43, 3), (14, .aload_n 0, 1), (15, .getfield 30, 3), (18, .iload 4, 2), (20, .iaload, 1), (21, .iload_n 1, 1), (22, .if_icmp .ne 26, 3), (25, .aload_n 0, 1), (26, .getfield 36, 3), (29, .iload 4, 2), (31, .iaload, 1), (32, .iload_n 2, 1), (33, .if_icmp .gt 15, 3), (36, .iload_n 3, 1), (37, .iconst 1, 1), (38, .aload_n 0, 1), (39, .getfield 33, 3), (42, .iload 4, 2), (44, .iaload, 1), (45, .ishl, 1), (46, .ixor, 1), (47, .istore_n 3, 1), (48, .iinc 4 1, 3), (51, .goto (-46), 3), (54, .iload_n 3, 1), (55, .ireturn, 1)]
noncomputable abbrev dlX8_nextChange : List (Nat × Instr × Nat) := [(0, .iconst (-1), 1), (1, .istore_n 3, 1), (2, .iconst 0, 1), (3, .istore 4, 2), (5, .iload 4, 2), (7, .aload_n 0, 1), (8, .getfield 46, 3), (11, .if_icmp .ge 67, 3), (14, .aload_n 0, 1), (15, .getfield 30, 3), (18, .iload 4, 2), (20, .iaload, 1), (21, .iload_n 1, 1), (22, .if_icmp .ne 18, 3), (25, .aload_n 0, 1), (26, .getfield 36, 3), (29, .iload 4, 2), (31, .iaload, 1), (32, .iload_n 2, 1), (33, .if_icmp .le 7, 3), (36, .iconst 1, 1), (37, .goto 4, 3), (40, .iconst 0, 1), (41, .istore 5, 2), (43, .iload 5, 2), (45, .ifCond .eq 27, 3), (48, .iload_n 3, 1), (49, .iconst (-1), 1), (50, .if_icmp .eq 14, 3), (53, .aload_n 0, 1), (54, .getfield 36, 3), (57, .iload 4, 2), (59, .iaload, 1), (60, .iload_n 3, 1), (61, .if_icmp .ge 11, 3), (64, .aload_n 0, 1), (65, .getfield 36, 3), (68, .iload 4, 2), (70, .iaload, 1), (71, .istore_n 3, 1), (72, .iinc 4 1, 3), (75, .goto (-70), 3), (78, .iload_n 3, 1), (79, .ireturn, 1)]
noncomputable abbrev dlX9_init : List (Nat × Instr × Nat) := [(0, .aload_n 0, 1), (1, .invokespecial 3, 3), (4, .aload_n 0, 1), (5, .sipush 150, 3), (8, .newarray .int, 2), (10, .putfield 9, 3), (13, .aload_n 0, 1), (14, .sipush 150, 3), (17, .newarray .int, 2), (19, .putfield 15, 3), (22, .aload_n 0, 1), (23, .sipush 150, 3), (26, .newarray .int, 2), (28, .putfield 18, 3), (31, .return_, 1)]
noncomputable abbrev dlX9_read : List (Nat × Instr × Nat) := [(0, .aload_n 0, 1), (1, .iconst 0, 1), (2, .putfield 21, 3), (5, .aload_n 0, 1), (6, .iconst 0, 1), (7, .putfield 25, 3), (10, .aload_n 0, 1), (11, .iconst 0, 1), (12, .putfield 28, 3), (15, .aload_n 0, 1), (16, .iconst 0, 1), (17, .putfield 31, 3), (20, .aload_n 0, 1), (21, .aload_n 1, 1), (22, .iload_n 2, 1), (23, .iconst 0, 1), (24, .invokevirtual 34, 3), (27, .ireturn, 1)]
noncomputable abbrev dlX9_readSteps : List (Nat × Instr × Nat) := [(0, .iload_n 3, 1), (1, .ifCond .ne 7, 3), (4, .iconst (-1), 1), (5, .goto 5, 3), (8, .bipush 93, 2), (10, .istore 4, 2), (12, .iconst 0, 1), (13, .istore 5, 2), (15, .iload 5, 2), (17, .sipush 150, 3), (20, .if_icmp .ge 41, 3), (23, .aload_n 1, 1), (24, .invokevirtual 38, 3), (27, .iload 4, 2), (29, .if_icmp .ne 5, 3), (32, .iconst 1, 1), (33, .ireturn, 1), (34, .aload_n 0, 1), (35, .aload_n 1, 1), (36, .iload_n 2, 1), (37, .iload_n 3, 1), (38, .invokevirtual 44, 3), (41, .ifCond .eq 12, 3), (44, .aload_n 1, 1), (45, .bipush 59, 2), (47, .invokevirtual 47, 3), (50, .ifCond .ne 5, 3), (53, .iconst 0, 1), (54, .ireturn, 1), (55, .iinc 5 1, 3), (58, .goto (-43), 3), (61, .iconst 1, 1), (62, .ireturn, 1)]
noncomputable abbrev dlX9_readStep : List (Nat × Instr × Nat) := [(0, .aload_n 1, 1), (1, .invokevirtual 51, 3), (4, .istore 4, 2), (6, .aload_n 1, 1), (7, .ldc 54, 2), (9, .invokevirtual 56, 3), (12, .istore 5, 2), (14, .iload 5, 2), (16, .iconst (-1), 1), (17, .if_icmp .eq 13, 3), (20, .aload_n 0, 1), (21, .getfield 21, 3), (24, .sipush 150, 3), (27, .if_icmp .lt 5, 3), (30, .iconst 0, 1), (31, .ireturn, 1), (32, .aload_n 0, 1), (33, .getfield 21, 3), (36, .istore 6, 2), (38, .aload_n 0, 1), (39, .dup, 1), (40, .getfield 21, 3), (43, .iconst 1, 1), (44, .iadd, 1), (45, .putfield 21, 3), (48, .aload_n 0, 1), (49, .getfield 9, 3), (52, .iload 6, 2), (54, .iload 5, 2), (56, .iastore, 1), (57, .iload 5, 2), (59, .iconst 4, 1), (60, .if_icmp .ne 31, 3), (63, .iload_n 3, 1), (64, .bipush 6, 2), (66, .if_icmp .lt 13, 3), (69, .aload_n 1, 1), (70, .iconst 3, 1), (71, .iload 4, 2), (73, .invokevirtual 60, 3), (76, .goto 14, 3), (79, .aload_n 0, 1), (80, .aload_n 1, 1), (81, .iload_n 2, 1), (82, .iload_n 3, 1), (83, .iconst 1, 1), (84, .iadd, 1), (85, .iload 6, 2), (87, .invokevirtual 64, 3), (90, .ireturn, 1), (91, .aload_n 0, 1), (92, .getfield 15, 3), (95, .iload 6, 2), (97, .iload 5, 2), (99, .iconst 3, 1), (100, .if_icmp .ne 7, 3), (103, .iconst 0, 1), (104, .goto 11, 3), (107, .aload_n 1, 1), (108, .iconst 0, 1), (109, .iload_n 2, 1), (110, .iconst 1, 1), (111, .isub, 1), (112, .invokevirtual 68, 3), (115, .iastore, 1), (116, .aload_n 1, 1), (117, .invokevirtual 72, 3), (120, .ifCond .ne 7, 3), (123, .iconst 1, 1), (124, .goto 4, 3), (127, .iconst 0, 1), (128, .ireturn, 1)]
noncomputable abbrev dlX9_readAgain : List (Nat × Instr × Nat) := [(0, .aload_n 0, 1), (1, .getfield 15, 3), (4, .iload 4, 2), (6, .aload_n 1, 1), (7, .iconst 0, 1), (8, .bipush 20, 2), (10, .invokevirtual 68, 3), (13, .iastore, 1), (14, .aload_n 1, 1), (15, .invokevirtual 72, 3), (18, .ifCond .ne 31, 3), (21, .aload_n 1, 1), (22, .bipush 91, 2), (24, .invokevirtual 47, 3), (27, .ifCond .eq 22, 3), (30, .aload_n 0, 1), (31, .aload_n 1, 1), (32, .iload_n 2, 1), (33, .iload_n 3, 1), (34, .invokevirtual 34, 3), (37, .ifCond .eq 12, 3), (40, .aload_n 1, 1), (41, .bipush 93, 2), (43, .invokevirtual 47, 3), (46, .ifCond .ne 5, 3), (49, .iconst 0, 1), (50, .ireturn, 1), (51, .aload_n 0, 1), (52, .getfield 18, 3), (55, .iload 4, 2), (57, .aload_n 0, 1), (58, .getfield 21, 3), (61, .iastore, 1), (62, .iconst 1, 1), (63, .ireturn, 1)]
noncomputable abbrev dlX9_perform : List (Nat × Instr × Nat) := [(0, .iload_n 3, 1), (1, .istore 6, 2), (3, .iload 6, 2), (5, .iload 4, 2), (7, .if_icmp .ge 171, 3), (10, .iload 6, 2), (12, .sipush 150, 3), (15, .if_icmp .ge 163, 3), (18, .aload_n 0, 1), (19, .getfield 25, 3), (22, .sipush 200, 3), (25, .if_icmp .ge 153, 3), (28, .iload 5, 2), (30, .bipush 6, 2), (32, .if_icmp .gt 146, 3), (35, .aload_n 0, 1), (36, .dup, 1), (37, .getfield 25, 3), (40, .iconst 1, 1), (41, .iadd, 1), (42, .putfield 25, 3), (45, .aload_n 0, 1), (46, .getfield 9, 3), (49, .iload 6, 2), (51, .iaload, 1), (52, .iconst 4, 1), (53, .if_icmp .ne 74, 3), (56, .iconst 0, 1), (57, .istore 7, 2), (59, .iload 7, 2), (61, .aload_n 0, 1), (62, .getfield 15, 3), (65, .iload 6, 2), (67, .iaload, 1), (68, .if_icmp .ge 40, 3), (71, .aload_n 0, 1), (72, .getfield 25, 3), (75, .sipush 200, 3), (78, .if_icmp .ge 30, 3), (81, .aload_n 0, 1), (82, .aload_n 1, 1), (83, .aload_n 2, 1), (84, .iload 6, 2), (86, .iconst 1, 1), (87, .iadd, 1), (88, .aload_n 0, 1), (89, .getfield 18, 3), (92, .iload 6, 2), (94, .iaload, 1), (95, .iload 5, 2), (97, .iconst 1, 1), (98, .iadd, 1), (99, .invokevirtual 76, 3), (102, .iinc 7 1, 3), (105, .goto (-46), 3), (108, .iload 6, 2), (110, .iconst 1, 1), (111, .iadd, 1), (112, .aload_n 0, 1), (113, .getfield 18, 3), (116, .iload 6, 2), (118, .iaload, 1), (119, .invokestatic 80, 3), (122, .istore 6, 2), (124, .goto (-121), 3), (127, .aload_n 1, 1), (128, .aload_n 2, 1), (129, .aload_n 0, 1), (130, .getfield 9, 3), (133, .iload 6, 2), (135, .iaload, 1), (136, .aload_n 0, 1), (137, .getfield 15, 3), (140, .iload 6, 2), (142, .iaload, 1), (143, .invokestatic 85, 3), (146, .ifCond .eq 16, 3), (149, .aload_n 0, 1), (150, .dup, 1), (151, .getfield 28, 3), (154, .iconst 1, 1), (155, .iadd, 1), (156, .putfield 28, 3), (159, .goto 13, 3), (162, .aload_n 0, 1), (163, .dup, 1), (164, .getfield 31, 3), (167, .iconst 1, 1), (168, .iadd, 1), (169, .putfield 31, 3), (172, .iinc 6 1, 3), (175, .goto (-172), 3), (178, .return_, 1)]
noncomputable abbrev dlX9_performStep : List (Nat × Instr × Nat) := [(0, .iload_n 2, 1), (1, .tableswitch 84 0 2 #[27, 52, 77], 27), (28, .aload_n 1, 1), (29, .getfield 89, 3), (32, .iload_n 3, 1), (33, .iaload, 1), (34, .iconst (-1), 1), (35, .if_icmp .ne 16, 3), (38, .aload_n 0, 1), (39, .aload_n 1, 1), (40, .iload_n 3, 1), (41, .invokevirtual 94, 3), (44, .ifCond .eq 7, 3), (47, .iconst 1, 1), (48, .goto 4, 3), (51, .iconst 0, 1), (52, .ireturn, 1), (53, .aload_n 1, 1), (54, .getfield 89, 3), (57, .iload_n 3, 1), (58, .iaload, 1), (59, .iconst (-1), 1), (60, .if_icmp .eq 16, 3), (63, .aload_n 0, 1), (64, .aload_n 1, 1), (65, .iload_n 3, 1), (66, .invokevirtual 94, 3), (69, .ifCond .eq 7, 3), (72, .iconst 1, 1), (73, .goto 4, 3), (76, .iconst 0, 1), (77, .ireturn, 1), (78, .aload_n 0, 1), (79, .aload_n 1, 1), (80, .iload_n 3, 1), (81, .invokevirtual 100, 3), (84, .ireturn, 1), (85, .aload_n 0, 1), (86, .aload_n 1, 1), (87, .invokevirtual 103, 3), (90, .ireturn, 1)]
noncomputable abbrev dlX10_init : List (Nat × Instr × Nat) := [(0, .aload_n 0, 1), (1, .invokespecial 3, 3), (4, .aload_n 0, 1), (5, .new 9, 3), (8, .dup, 1), (9, .invokespecial 11, 3), (12, .putfield 12, 3), (15, .aload_n 0, 1), (16, .new 16, 3), (19, .dup, 1), (20, .invokespecial 18, 3), (23, .putfield 19, 3), (26, .aload_n 0, 1), (27, .new 16, 3), (30, .dup, 1), (31, .invokespecial 18, 3), (34, .putfield 23, 3), (37, .aload_n 0, 1), (38, .new 26, 3), (41, .dup, 1), (42, .invokespecial 28, 3), (45, .putfield 29, 3), (48, .aload_n 0, 1), (49, .new 33, 3), (52, .dup, 1), (53, .invokespecial 35, 3), (56, .putfield 36, 3), (59, .aload_n 0, 1), (60, .new 40, 3), (63, .dup, 1), (64, .invokespecial 42, 3), (67, .putfield 43, 3), (70, .aload_n 0, 1), (71, .new 47, 3), (74, .dup, 1), (75, .aload_n 0, 1), (76, .getfield 19, 3), (79, .aload_n 0, 1), (80, .getfield 29, 3), (83, .invokespecial 49, 3), (86, .putfield 52, 3), (89, .aload_n 0, 1), (90, .new 56, 3), (93, .dup, 1), (94, .aload_n 0, 1), (95, .getfield 52, 3), (98, .invokespecial 58, 3), (101, .putfield 61, 3), (104, .aload_n 0, 1), (105, .new 65, 3), (108, .dup, 1), (109, .aload_n 0, 1), (110, .getfield 52, 3), (113, .invokespecial 67, 3), (116, .putfield 68, 3), (119, .aload_n 0, 1), (120, .new 72, 3), (123, .dup, 1), (124, .invokespecial 74, 3), (127, .putfield 75, 3), (130, .aload_n 0, 1), (131, .iconst 3, 1), (132, .anewarray 72, 3), (135, .putfield 79, 3), (138, .aload_n 0, 1), (139, .bipush 8, 2), (141, .newarray .int, 2), (143, .putfield 83, 3), (146, .aload_n 0, 1), (147, .sipush 201, 3), (150, .newarray .int, 2), (152, .putfield 87, 3), (155, .iconst 0, 1), (156, .istore_n 1, 1), (157, .iload_n 1, 1), (158, .iconst 3, 1), (159, .if_icmp .ge 22, 3), (162, .aload_n 0, 1), (163, .getfield 79, 3), (166, .iload_n 1, 1), (167, .new 72, 3), (170, .dup, 1), (171, .invokespecial 74, 3), (174, .aastore, 1), (175, .iinc 1 1, 3), (178, .goto (-21), 3), (181, .aload_n 0, 1), (182, .getfield 75, 3), (185, .getfield 90, 3), (188, .aload_n 0, 1), (189, .getfield 19, 3), (192, .invokevirtual 94, 3), (195, .return_, 1)]
noncomputable abbrev dlX10_feed : List (Nat × Instr × Nat) := [(0, .aload_n 0, 1), (1, .getfield 12, 3), (4, .getfield 100, 3), (7, .bipush 20, 2), (9, .iadd, 1), (10, .sipush 600, 3), (13, .if_icmp .le 5, 3), (16, .iconst (-1), 1), (17, .ireturn, 1), (18, .aload_n 0, 1), (19, .getfield 12, 3), (22, .iload_n 1, 1), (23, .invokevirtual 104, 3), (26, .aload_n 0, 1), (27, .getfield 12, 3), (30, .iload_n 2, 1), (31, .invokevirtual 104, 3), (34, .aload_n 0, 1), (35, .getfield 12, 3), (38, .iload_n 3, 1), (39, .invokevirtual 104, 3), (42, .aload_n 0, 1), (43, .getfield 12, 3), (46, .iload 4, 2), (48, .invokevirtual 104, 3), (51, .aload_n 0, 1), (52, .getfield 12, 3), (55, .iload 5, 2), (57, .invokevirtual 104, 3), (60, .aload_n 0, 1), (61, .getfield 12, 3), (64, .getfield 100, 3), (67, .ireturn, 1)]
noncomputable abbrev dlX10_drawer : List (Nat × Instr × Nat) := [(0, .aload_n 0, 1), (1, .iload_n 1, 1), (2, .sipush 600, 3), (5, .invokevirtual 108, 3), (8, .aload_n 0, 1), (9, .getfield 23, 3), (12, .aload_n 0, 1), (13, .getfield 12, 3), (16, .invokevirtual 112, 3), (19, .ifCond .ne 14, 3), (22, .aload_n 0, 1), (23, .getfield 12, 3), (26, .getfield 116, 3), (29, .bipush 10, 2), (31, .isub, 1), (32, .ireturn, 1), (33, .aload_n 0, 1), (34, .getfield 19, 3), (37, .aload_n 0, 1), (38, .getfield 23, 3), (41, .invokevirtual 119, 3), (44, .aload_n 0, 1), (45, .getfield 29, 3), (48, .invokevirtual 122, 3), (51, .aload_n 0, 1), (52, .getfield 36, 3), (55, .invokevirtual 125, 3), (58, .aload_n 0, 1), (59, .getfield 75, 3), (62, .getfield 90, 3), (65, .aload_n 0, 1), (66, .getfield 19, 3), (69, .invokevirtual 94, 3), (72, .aload_n 0, 1), (73, .getfield 75, 3), (76, .iconst 0, 1), (77, .putfield 126, 3), (80, .aload_n 0, 1), (81, .iconst 0, 1), (82, .putfield 129, 3), (85, .aload_n 0, 1), (86, .iconst 0, 1), (87, .putfield 132, 3), (90, .aload_n 0, 1), (91, .getfield 61, 3), (94, .invokevirtual 135, 3), (97, .aload_n 0, 1), (98, .getfield 19, 3), (101, .getfield 138, 3), (104, .ireturn, 1)]
noncomputable abbrev dlX10_law : List (Nat × Instr × Nat) := [(0, .aload_n 0, 1), (1, .iload_n 1, 1), (2, .sipush 150, 3), (5, .invokevirtual 108, 3), (8, .aload_n 0, 1), (9, .getfield 29, 3), (12, .aload_n 0, 1), (13, .getfield 12, 3), (16, .invokevirtual 141, 3), (19, .ifCond .ne 14, 3), (22, .aload_n 0, 1), (23, .getfield 12, 3), (26, .getfield 116, 3), (29, .bipush 10, 2), (31, .isub, 1), (32, .ireturn, 1), (33, .aload_n 0, 1), (34, .getfield 61, 3), (37, .invokevirtual 135, 3), (40, .iconst 1, 1), (41, .ireturn, 1)]
noncomputable abbrev dlX10_work : List (Nat × Instr × Nat) := [(0, .aload_n 0, 1), (1, .iload_n 1, 1), (2, .sipush 150, 3), (5, .invokevirtual 108, 3), (8, .aload_n 0, 1), (9, .getfield 75, 3), (12, .getfield 126, 3), (15, .bipush 16, 2), (17, .if_icmp .lt 6, 3), (20, .bipush (-20), 2), (22, .ireturn, 1), (23, .aload_n 0, 1), (24, .getfield 43, 3), (27, .aload_n 0, 1), (28, .getfield 12, 3), (31, .aload_n 0, 1), (32, .getfield 19, 3), (35, .getfield 138, 3), (38, .invokevirtual 142, 3), (41, .ifCond .ne 14, 3), (44, .aload_n 0, 1), (45, .getfield 12, 3), (48, .getfield 116, 3), (51, .bipush 10, 2), (53, .isub, 1), (54, .ireturn, 1), (55, .aload_n 0, 1), (56, .getfield 75, 3), (59, .invokevirtual 145, 3), (62, .aload_n 0, 1), (63, .getfield 43, 3), (66, .aload_n 0, 1), (67, .getfield 52, 3), (70, .aload_n 0, 1), (71, .getfield 75, 3), (74, .getfield 90, 3), (77, .iconst 0, 1), (78, .aload_n 0, 1), (79, .getfield 43, 3), (82, .getfield 148, 3), (85, .iconst 0, 1), (86, .invokevirtual 151, 3), (89, .aload_n 0, 1), (90, .aload_n 0, 1), (91, .getfield 43, 3), (94, .getfield 155, 3), (97, .putfield 132, 3), (100, .aload_n 0, 1), (101, .getfield 61, 3), (104, .invokevirtual 135, 3), (107, .aload_n 0, 1), (108, .getfield 43, 3), (111, .getfield 158, 3), (114, .ireturn, 1)]
noncomputable abbrev dlX10_page : List (Nat × Instr × Nat) := [(0, .aload_n 0, 1), (1, .iload_n 1, 1), (2, .bipush 60, 2), (4, .invokevirtual 108, 3), (7, .aload_n 0, 1), (8, .getfield 36, 3), (11, .aload_n 0, 1), (12, .getfield 12, 3), (15, .invokevirtual 161, 3), (18, .ifCond .ne 14, 3), (21, .aload_n 0, 1), (22, .getfield 12, 3), (25, .getfield 116, 3), (28, .bipush 10, 2), (30, .isub, 1), (31, .ireturn, 1), (32, .aload_n 0, 1), (33, .getfield 36, 3), (36, .getfield 162, 3), (39, .ireturn, 1)]
noncomputable abbrev dlX10_fault : List (Nat × Instr × Nat) := [(0, .aload_n 0, 1), (1, .getfield 12, 3), (4, .getfield 163, 3), (7, .ireturn, 1)]
noncomputable abbrev dlX10_undo : List (Nat × Instr × Nat) := [(0, .aload_n 0, 1), (1, .getfield 75, 3), (4, .getfield 126, 3), (7, .ifCond .gt 5, 3), (10, .iconst (-1), 1), (11, .ireturn, 1), (12, .aload_n 0, 1), (13, .getfield 75, 3), (16, .invokevirtual 166, 3), (19, .aload_n 0, 1), (20, .iconst 0, 1), (21, .putfield 132, 3), (24, .aload_n 0, 1), (25, .getfield 61, 3), (28, .invokevirtual 135, 3), (31, .aload_n 0, 1), (32, .getfield 75, 3), (35, .getfield 126, 3), (38, .ireturn, 1)]
noncomputable abbrev dlX10_told : List (Nat × Instr × Nat) := [(0, .aload_n 0, 1), (1, .iload_n 1, 1), (2, .iconst 0, 1), (3, .bipush 8, 2), (5, .invokevirtual 169, 3), (8, .aload_n 0, 1), (9, .getfield 75, 3), (12, .getfield 90, 3), (15, .astore_n 2, 1), (16, .iload_n 1, 1), (17, .tableswitch 111 0 7 #[47, 55, 60, 65, 81, 93, 98, 103], 47), (64, .aload_n 0, 1), (65, .getfield 19, 3), (68, .getfield 138, 3), (71, .ireturn, 1), (72, .aload_n 2, 1), (73, .getfield 173, 3), (76, .ireturn, 1), (77, .aload_n 2, 1), (78, .getfield 176, 3), (81, .ireturn, 1), (82, .aload_n 0, 1), (83, .getfield 19, 3), (86, .getfield 138, 3), (89, .aload_n 2, 1), (90, .getfield 179, 3), (93, .invokestatic 182, 3), (96, .isub, 1), (97, .ireturn, 1), (98, .aload_n 2, 1), (99, .aload_n 0, 1), (100, .getfield 19, 3), (103, .getfield 138, 3), (106, .invokevirtual 188, 3), (109, .ireturn, 1), (110, .aload_n 2, 1), (111, .getfield 191, 3), (114, .ireturn, 1), (115, .aload_n 2, 1), (116, .getfield 194, 3), (119, .ireturn, 1), (120, .aload_n 0, 1), (121, .getfield 36, 3), (124, .getfield 162, 3), (127, .ireturn, 1), (128, .aload_n 0, 1), (129, .getfield 132, 3), (132, .ireturn, 1)]
noncomputable abbrev dlX10_life : List (Nat × Instr × Nat) := [(0, .aload_n 0, 1), (1, .iload_n 1, 1), (2, .invokevirtual 197, 3), (5, .aload_n 0, 1), (6, .iload_n 2, 1), (7, .iconst 0, 1), (8, .bipush 7, 2), (10, .invokevirtual 169, 3), (13, .iload_n 2, 1), (14, .tableswitch 131 0 6 #[42, 59, 69, 79, 89, 98, 118], 42), (56, .aload_n 0, 1), (57, .getfield 52, 3), (60, .aload_n 0, 1), (61, .getfield 75, 3), (64, .getfield 90, 3), (67, .iload_n 1, 1), (68, .iconst 0, 1), (69, .invokevirtual 200, 3), (72, .ireturn, 1), (73, .aload_n 0, 1), (74, .getfield 19, 3), (77, .getfield 204, 3), (80, .iload_n 1, 1), (81, .iaload, 1), (82, .ireturn, 1), (83, .aload_n 0, 1), (84, .getfield 19, 3), (87, .getfield 207, 3), (90, .iload_n 1, 1), (91, .iaload, 1), (92, .ireturn, 1), (93, .aload_n 0, 1), (94, .getfield 19, 3), (97, .getfield 210, 3), (100, .iload_n 1, 1), (101, .iaload, 1), (102, .ireturn, 1), (103, .aload_n 0, 1), (104, .getfield 19, 3), (107, .iload_n 1, 1), (108, .invokevirtual 212, 3), (111, .ireturn, 1), (112, .aload_n 0, 1), (113, .getfield 75, 3), (116, .getfield 90, 3), (119, .iload_n 1, 1), (120, .invokevirtual 215, 3), (123, .ifCond .eq 7, 3), (126, .iconst 0, 1), (127, .goto 4, 3), (130, .iconst 1, 1), (131, .ireturn, 1), (132, .aload_n 0, 1), (133, .getfield 75, 3), (136, .getfield 90, 3), (139, .getfield 219, 3), (142, .iload_n 1, 1), (143, .iaload, 1), (144, .ireturn, 1), (145, .aload_n 0, 1), (146, .getfield 19, 3), (149, .getfield 222, 3), (152, .iload_n 1, 1), (153, .iaload, 1), (154, .ireturn, 1)]
noncomputable abbrev dlX10_facts : List (Nat × Instr × Nat) := [(0, .aload_n 0, 1), (1, .iload_n 1, 1), (2, .invokevirtual 197, 3), (5, .aload_n 0, 1), (6, .getfield 19, 3), (9, .iload_n 1, 1), (10, .aload_n 0, 1), (11, .getfield 75, 3), (14, .getfield 90, 3), (17, .getfield 173, 3), (20, .invokevirtual 225, 3), (23, .ireturn, 1)]
noncomputable abbrev dlX10_wrong : List (Nat × Instr × Nat) := [(0, .aload_n 0, 1), (1, .iload_n 1, 1), (2, .invokevirtual 197, 3), (5, .aload_n 0, 1), (6, .getfield 75, 3), (9, .getfield 90, 3), (12, .getfield 219, 3), (15, .iload_n 1, 1), (16, .iaload, 1), (17, .istore_n 2, 1), (18, .iload_n 2, 1), (19, .iconst (-1), 1), (20, .if_icmp .ne 7, 3), (23, .iconst (-1), 1), (24, .goto 20, 3), (27, .aload_n 0, 1), (28, .getfield 52, 3), (31, .aload_n 0, 1), (32, .getfield 75, 3), (35, .getfield 90, 3), (38, .iload_n 1, 1), (39, .iconst 0, 1), (40, .iload_n 2, 1), (41, .invokevirtual 229, 3), (44, .ireturn, 1)]
noncomputable abbrev dlX10_would : List (Nat × Instr × Nat) := [(0, .aload_n 0, 1), (1, .iload_n 1, 1), (2, .iconst 0, 1), (3, .sipush 200, 3), (6, .invokevirtual 169, 3), (9, .aload_n 0, 1), (10, .iload_n 2, 1), (11, .iconst 0, 1), (12, .sipush 200, 3), (15, .invokevirtual 169, 3), (18, .aload_n 0, 1), (19, .iload_n 3, 1), (20, .iconst 1, 1), (21, .bipush 99, 2), (23, .invokevirtual 169, 3), (26, .aload_n 0, 1), (27, .iload 4, 2), (29, .iconst 0, 1), (30, .iconst 1, 1), (31, .invokevirtual 169, 3), (34, .aload_n 0, 1), (35, .iload 5, 2), (37, .iconst 0, 1), (38, .bipush 24, 2), (40, .invokevirtual 169, 3), (43, .aload_n 0, 1), (44, .getfield 29, 3), (47, .iload_n 1, 1), (48, .iload_n 2, 1), (49, .iload_n 3, 1), (50, .iload 4, 2), (52, .iload 5, 2), (54, .invokevirtual 233, 3), (57, .ireturn, 1)]
noncomputable abbrev dlX10_lacking : List (Nat × Instr × Nat) := [(0, .iconst 0, 1), (1, .istore_n 1, 1), (2, .iconst 0, 1), (3, .istore_n 2, 1), (4, .iload_n 2, 1), (5, .aload_n 0, 1), (6, .getfield 19, 3), (9, .getfield 138, 3), (12, .if_icmp .ge 45, 3), (15, .aload_n 0, 1), (16, .getfield 75, 3), (19, .getfield 90, 3), (22, .iload_n 2, 1), (23, .invokevirtual 215, 3), (26, .ifCond .eq 25, 3), (29, .aload_n 0, 1), (30, .getfield 75, 3), (33, .getfield 90, 3), (36, .getfield 219, 3), (39, .iload_n 2, 1), (40, .iaload, 1), (41, .iconst (-1), 1), (42, .if_icmp .ne 9, 3), (45, .iload_n 1, 1), (46, .iconst 1, 1), (47, .iload_n 2, 1), (48, .ishl, 1), (49, .ior, 1), (50, .istore_n 1, 1), (51, .iinc 2 1, 3), (54, .goto (-50), 3), (57, .iload_n 1, 1), (58, .ireturn, 1)]
noncomputable abbrev dlX10_signed : List (Nat × Instr × Nat) := [(0, .iconst 0, 1), (1, .istore_n 1, 1), (2, .iconst 0, 1), (3, .istore_n 2, 1), (4, .iload_n 2, 1), (5, .aload_n 0, 1), (6, .getfield 19, 3), (9, .getfield 138, 3), (12, .if_icmp .ge 50, 3), (15, .aload_n 0, 1), (16, .getfield 75, 3), (19, .getfield 90, 3), (22, .getfield 219, 3), (25, .iload_n 2, 1), (26, .iaload, 1), (27, .iconst (-1), 1), (28, .if_icmp .eq 28, 3), (31, .aload_n 0, 1), (32, .getfield 52, 3), (35, .aload_n 0, 1), (36, .getfield 75, 3), (39, .getfield 90, 3), (42, .iload_n 2, 1), (43, .invokevirtual 237, 3), (46, .iconst 1, 1), (47, .if_icmp .ne 9, 3), (50, .iload_n 1, 1), (51, .iconst 1, 1), (52, .iload_n 2, 1), (53, .ishl, 1), (54, .ior, 1), (55, .istore_n 1, 1), (56, .iinc 2 1, 3), (59, .goto (-55), 3), (62, .iload_n 1, 1), (63, .ireturn, 1)]
noncomputable abbrev dlX10_stale : List (Nat × Instr × Nat) := [(0, .aload_n 0, 1), (1, .iload_n 1, 1), (2, .iconst 0, 1), (3, .bipush 65, 2), (5, .invokevirtual 169, 3), (8, .aload_n 0, 1), (9, .iload_n 1, 1), (10, .invokevirtual 241, 3), (13, .ireturn, 1)]
noncomputable abbrev dlX10_oldest : List (Nat × Instr × Nat) := [(0, .iconst (-1), 1), (1, .istore_n 1, 1), (2, .iconst (-1), 1), (3, .istore_n 2, 1), (4, .iconst 0, 1), (5, .istore_n 3, 1), (6, .iload_n 3, 1), (7, .aload_n 0, 1), (8, .getfield 19, 3), (11, .getfield 138, 3), (14, .if_icmp .ge 40, 3), (17, .aload_n 0, 1), (18, .getfield 75, 3), (21, .getfield 90, 3), (24, .getfield 219, 3), (27, .iload_n 3, 1), (28, .iaload, 1), (29, .iload_n 2, 1), (30, .if_icmp .le 18, 3), (33, .aload_n 0, 1), (34, .getfield 75, 3), (37, .getfield 90, 3), (40, .getfield 219, 3), (43, .iload_n 3, 1), (44, .iaload, 1), (45, .istore_n 2, 1), (46, .iload_n 3, 1), (47, .istore_n 1, 1), (48, .iinc 3 1, 3), (51, .goto (-45), 3), (54, .iload_n 1, 1), (55, .ireturn, 1)]
noncomputable abbrev dlX10_chain : List (Nat × Instr × Nat) := [(0, .aload_n 0, 1), (1, .iload_n 1, 1), (2, .invokevirtual 197, 3), (5, .aload_n 0, 1), (6, .iload_n 2, 1), (7, .iconst 0, 1), (8, .iconst 1, 1), (9, .invokevirtual 169, 3), (12, .iconst 1, 1), (13, .iload_n 1, 1), (14, .ishl, 1), (15, .istore_n 3, 1), (16, .iload_n 1, 1), (17, .istore 4, 2), (19, .iconst 0, 1), (20, .istore 5, 2), (22, .iload 5, 2), (24, .bipush 8, 2), (26, .if_icmp .ge 61, 3), (29, .aload_n 0, 1), (30, .getfield 19, 3), (33, .getfield 222, 3), (36, .iload 4, 2), (38, .iaload, 1), (39, .istore 6, 2), (41, .iload 6, 2), (43, .ifCond .lt 44, 3), (46, .iload 6, 2), (48, .aload_n 0, 1), (49, .getfield 19, 3), (52, .getfield 138, 3), (55, .if_icmp .ge 32, 3), (58, .iload_n 3, 1), (59, .iload 6, 2), (61, .ishr, 1), (62, .iconst 1, 1), (63, .iand, 1), (64, .ifCond .eq 6, 3), (67, .goto 20, 3), (70, .iload_n 3, 1), (71, .iconst 1, 1), (72, .iload 6, 2), (74, .ishl, 1), (75, .ior, 1), (76, .istore_n 3, 1), (77, .iload 6, 2), (79, .istore 4, 2), (81, .iinc 5 1, 3), (84, .goto (-62), 3), (87, .iload_n 2, 1), (88, .ifCond .ne 10, 3), (91, .iload_n 3, 1), (92, .invokestatic 182, 3), (95, .goto 5, 3), (98, .iload 4, 2), (100, .ireturn, 1)]
noncomputable abbrev dlX10_loss : List (Nat × Instr × Nat) := [(0, .aload_n 0, 1), (1, .iload_n 1, 1), (2, .invokevirtual 244, 3), (5, .aload_n 0, 1), (6, .getfield 75, 3), (9, .getfield 90, 3), (12, .getfield 247, 3), (15, .ldc2_w 251, 3), (18, .iload_n 1, 1), (19, .invokestatic 253, 3), (22, .lreturn, 1)]
noncomputable abbrev dlX10_cost : List (Nat × Instr × Nat) := [(0, .aload_n 0, 1), (1, .iload_n 1, 1), (2, .invokevirtual 197, 3), (5, .aload_n 0, 1), (6, .iload_n 2, 1), (7, .invokevirtual 244, 3), (10, .aload_n 0, 1), (11, .getfield 75, 3), (14, .getfield 90, 3), (17, .iload_n 1, 1), (18, .invokevirtual 215, 3), (21, .ifCond .ne 10, 3), (24, .lconst 0, 1), (25, .lconst 1, 1), (26, .iload_n 2, 1), (27, .invokestatic 253, 3), (30, .lreturn, 1), (31, .aload_n 0, 1), (32, .getfield 52, 3), (35, .aload_n 0, 1), (36, .getfield 75, 3), (39, .getfield 90, 3), (42, .iload_n 1, 1), (43, .iconst 0, 1), (44, .aload_n 0, 1), (45, .getfield 75, 3), (48, .getfield 90, 3), (51, .getfield 219, 3), (54, .iload_n 1, 1), (55, .iaload, 1), (56, .invokevirtual 257, 3), (59, .ldc2_w 251, 3), (62, .iload_n 2, 1), (63, .invokestatic 253, 3), (66, .lreturn, 1)]
noncomputable abbrev dlX10_risk : List (Nat × Instr × Nat) := [(0, .aload_n 0, 1), (1, .iload_n 1, 1), (2, .invokevirtual 244, 3), (5, .aload_n 0, 1), (6, .getfield 52, 3), (9, .aload_n 0, 1), (10, .getfield 75, 3), (13, .getfield 90, 3), (16, .iconst 0, 1), (17, .invokevirtual 261, 3), (20, .ldc2_w 265, 3), (23, .iload_n 1, 1), (24, .invokestatic 253, 3), (27, .lreturn, 1)]
noncomputable abbrev dlX10_saves : List (Nat × Instr × Nat) := [(0, .aload_n 0, 1), (1, .iload_n 1, 1), (2, .invokevirtual 197, 3), (5, .aload_n 0, 1), (6, .iload_n 2, 1), (7, .invokevirtual 244, 3), (10, .ldc2_w 265, 3), (13, .aload_n 0, 1), (14, .getfield 52, 3), (17, .aload_n 0, 1), (18, .getfield 75, 3), (21, .getfield 90, 3), (24, .iload_n 1, 1), (25, .invokevirtual 267, 3), (28, .i2l, 1), (29, .lmul, 1), (30, .lstore_n 3, 1), (31, .aload_n 0, 1), (32, .getfield 52, 3), (35, .aload_n 0, 1), (36, .getfield 75, 3), (39, .getfield 90, 3), (42, .iload_n 1, 1), (43, .invokevirtual 270, 3), (46, .lload_n 3, 1), (47, .iload_n 2, 1), (48, .invokestatic 253, 3), (51, .lreturn, 1)]
noncomputable abbrev dlX10_first : List (Nat × Instr × Nat) := [(0, .aload_n 0, 1), (1, .getfield 52, 3), (4, .aload_n 0, 1), (5, .getfield 75, 3), (8, .getfield 90, 3), (11, .invokevirtual 273, 3), (14, .ireturn, 1)]
noncomputable abbrev dlX10_ahead : List (Nat × Instr × Nat) := [(0, .aload_n 0, 1), (1, .iload_n 1, 1), (2, .iconst 0, 1), (3, .aload_n 0, 1), (4, .invokevirtual 277, 3), (7, .invokevirtual 169, 3), (10, .aload_n 0, 1), (11, .iload_n 2, 1), (12, .invokevirtual 244, 3), (15, .aload_n 0, 1), (16, .getfield 52, 3), (19, .aload_n 0, 1), (20, .getfield 75, 3), (23, .getfield 90, 3), (26, .iload_n 1, 1), (27, .invokevirtual 261, 3), (30, .ldc2_w 265, 3), (33, .iload_n 2, 1), (34, .invokestatic 253, 3), (37, .lreturn, 1)]
noncomputable abbrev dlX10_worst : List (Nat × Instr × Nat) := [(0, .iconst 0, 1), (1, .istore_n 1, 1), (2, .ldc2_w 281, 3), (5, .lstore_n 2, 1), (6, .iconst 0, 1), (7, .istore 4, 2), (9, .iload 4, 2), (11, .aload_n 0, 1), (12, .invokevirtual 277, 3), (15, .if_icmp .gt 40, 3), (18, .aload_n 0, 1), (19, .getfield 52, 3), (22, .aload_n 0, 1), (23, .getfield 75, 3), (26, .getfield 90, 3), (29, .iload 4, 2), (31, .invokevirtual 261, 3), (34, .lstore 5, 2), (36, .lload 5, 2), (38, .lload_n 2, 1), (39, .lcmp, 1), (40, .ifCond .le 9, 3), (43, .lload 5, 2), (45, .lstore_n 2, 1), (46, .iload 4, 2), (48, .istore_n 1, 1), (49, .iinc 4 1, 3), (52, .goto (-43), 3), (55, .iload_n 1, 1), (56, .ireturn, 1)]
noncomputable abbrev dlX10_lives : List (Nat × Instr × Nat) := [(0, .aload_n 0, 1), (1, .iload_n 1, 1), (2, .invokevirtual 197, 3), (5, .aload_n 0, 1), (6, .iload_n 2, 1), (7, .iconst 0, 1), (8, .bipush 8, 2), (10, .invokevirtual 169, 3), (13, .aload_n 0, 1), (14, .iload_n 3, 1), (15, .invokevirtual 244, 3), (18, .aload_n 0, 1), (19, .getfield 75, 3), (22, .getfield 90, 3), (25, .iload_n 1, 1), (26, .invokevirtual 215, 3), (29, .ifCond .ne 10, 3), (32, .lconst 0, 1), (33, .lconst 1, 1), (34, .iload_n 3, 1), (35, .invokestatic 253, 3), (38, .lreturn, 1), (39, .lconst 1, 1), (40, .lstore 4, 2), (42, .iconst 0, 1), (43, .istore 6, 2), (45, .iload 6, 2), (47, .iload_n 2, 1), (48, .if_icmp .ge 28, 3), (51, .lload 4, 2), (53, .ldc2_w 251, 3), (56, .aload_n 0, 1), (57, .getfield 19, 3), (60, .getfield 204, 3), (63, .iload_n 1, 1), (64, .iaload, 1), (65, .i2l, 1), (66, .lsub, 1), (67, .lmul, 1), (68, .lstore 4, 2), (70, .iinc 6 1, 3), (73, .goto (-28), 3), (76, .lload 4, 2), (78, .lconst 1, 1), (79, .bipush 6, 2), (81, .iload_n 2, 1), (82, .imul, 1), (83, .lshl, 1), (84, .iload_n 3, 1), (85, .invokestatic 253, 3), (88, .lreturn, 1)]
noncomputable abbrev dlX10_due : List (Nat × Instr × Nat) := [(0, .aload_n 0, 1), (1, .iload_n 1, 1), (2, .invokevirtual 197, 3), (5, .aload_n 0, 1), (6, .iload_n 2, 1), (7, .iconst 0, 1), (8, .bipush 65, 2), (10, .invokevirtual 169, 3), (13, .aload_n 0, 1), (14, .getfield 75, 3), (17, .getfield 90, 3), (20, .getfield 219, 3), (23, .iload_n 1, 1), (24, .iaload, 1), (25, .istore_n 3, 1), (26, .iload_n 3, 1), (27, .iconst (-1), 1), (28, .if_icmp .ne 5, 3), (31, .iconst (-1), 1), (32, .ireturn, 1), (33, .iconst 0, 1), (34, .istore 4, 2), (36, .iload 4, 2), (38, .aload_n 0, 1), (39, .invokevirtual 277, 3), (42, .if_icmp .gt 37, 3), (45, .aload_n 0, 1), (46, .getfield 52, 3), (49, .aload_n 0, 1), (50, .getfield 75, 3), (53, .getfield 90, 3), (56, .iload_n 1, 1), (57, .iload 4, 2), (59, .iload_n 3, 1), (60, .iload 4, 2), (62, .iadd, 1), (63, .invokevirtual 229, 3), (66, .iload_n 2, 1), (67, .if_icmp .lt 6, 3), (70, .iload 4, 2), (72, .ireturn, 1), (73, .iinc 4 1, 3), (76, .goto (-40), 3), (79, .iconst (-1), 1), (80, .ireturn, 1)]
noncomputable abbrev dlX10_news : List (Nat × Instr × Nat) := [(0, .aload_n 0, 1), (1, .iload_n 1, 1), (2, .invokevirtual 197, 3), (5, .aload_n 0, 1), (6, .getfield 19, 3), (9, .iload_n 1, 1), (10, .aload_n 0, 1), (11, .getfield 75, 3), (14, .getfield 90, 3), (17, .getfield 173, 3), (20, .invokevirtual 283, 3), (23, .ireturn, 1)]
noncomputable abbrev dlX10_expects : List (Nat × Instr × Nat) := [(0, .aload_n 0, 1), (1, .iload_n 1, 1), (2, .invokevirtual 197, 3), (5, .aload_n 0, 1), (6, .iload_n 2, 1), (7, .iconst 0, 1), (8, .bipush 7, 2), (10, .invokevirtual 169, 3), (13, .aload_n 0, 1), (14, .iload_n 3, 1), (15, .invokevirtual 244, 3), (18, .aload_n 0, 1), (19, .getfield 75, 3), (22, .getfield 90, 3), (25, .iload_n 1, 1), (26, .invokevirtual 215, 3), (29, .ifCond .ne 10, 3), (32, .lconst 0, 1), (33, .lconst 1, 1), (34, .iload_n 3, 1), (35, .invokestatic 253, 3), (38, .lreturn, 1), (39, .aload_n 0, 1), (40, .getfield 52, 3), (43, .aload_n 0, 1), (44, .getfield 75, 3), (47, .getfield 90, 3), (50, .iload_n 1, 1), (51, .iload_n 2, 1), (52, .iconst 0, 1), (53, .invokevirtual 286, 3), (56, .lconst 1, 1), (57, .bipush 6, 2), (59, .iload_n 2, 1), (60, .iconst 1, 1), (61, .iadd, 1), (62, .imul, 1), (63, .lshl, 1), (64, .iload_n 3, 1), (65, .invokestatic 253, 3), (68, .lreturn, 1)]
noncomputable abbrev dlX10_best : List (Nat × Instr × Nat) := [(0, .aload_n 0, 1), (1, .iload_n 1, 1), (2, .iconst 1, 1), (3, .iconst 3, 1), (4, .invokevirtual 169, 3), (7, .aload_n 0, 1), (8, .iload_n 2, 1), (9, .invokevirtual 244, 3), (12, .aload_n 0, 1), (13, .getfield 61, 3), (16, .aload_n 0, 1), (17, .getfield 75, 3), (20, .getfield 90, 3), (23, .iload_n 1, 1), (24, .invokevirtual 289, 3), (27, .aload_n 0, 1), (28, .getfield 61, 3), (31, .invokevirtual 293, 3), (34, .lconst 1, 1), (35, .bipush 6, 2), (37, .iload_n 1, 1), (38, .iconst 1, 1), (39, .iadd, 1), (40, .imul, 1), (41, .lshl, 1), (42, .iload_n 2, 1), (43, .invokestatic 253, 3), (46, .lreturn, 1)]
noncomputable abbrev dlX10_bestIn : List (Nat × Instr × Nat) := [(0, .aload_n 0, 1), (1, .iload_n 1, 1), (2, .iconst 1, 1), (3, .iconst 3, 1), (4, .invokevirtual 169, 3), (7, .aload_n 0, 1), (8, .iload_n 2, 1), (9, .iconst 0, 1), (10, .iload_n 1, 1), (11, .iconst 1, 1), (12, .isub, 1), (13, .invokevirtual 169, 3), (16, .aload_n 0, 1), (17, .getfield 61, 3), (20, .aload_n 0, 1), (21, .getfield 75, 3), (24, .getfield 90, 3), (27, .iload_n 1, 1), (28, .invokevirtual 289, 3), (31, .aload_n 0, 1), (32, .getfield 61, 3), (35, .iload_n 2, 1), (36, .invokevirtual 297, 3), (39, .ireturn, 1)]
noncomputable abbrev dlX10_often : List (Nat × Instr × Nat) := [(0, .aload_n 0, 1), (1, .iload_n 1, 1), (2, .invokevirtual 197, 3), (5, .aload_n 0, 1), (6, .iload_n 2, 1), (7, .iconst 0, 1), (8, .sipush 999, 3), (11, .invokevirtual 169, 3), (14, .lconst 0, 1), (15, .lstore_n 3, 1), (16, .lconst 0, 1), (17, .lstore 5, 2), (19, .iconst 0, 1), (20, .istore 7, 2), (22, .iconst 1, 1), (23, .istore 8, 2), (25, .iload 8, 2), (27, .bipush 30, 2), (29, .if_icmp .gt 70, 3), (32, .lload_n 3, 1), (33, .aload_n 0, 1), (34, .getfield 52, 3), (37, .aload_n 0, 1), (38, .getfield 75, 3), (41, .getfield 90, 3), (44, .iload_n 1, 1), (45, .iload 8, 2), (47, .iconst 1, 1), (48, .isub, 1), (49, .invokevirtual 300, 3), (52, .ladd, 1), (53, .lstore_n 3, 1), (54, .lload_n 3, 1), (55, .aload_n 0, 1), (56, .iload_n 1, 1), (57, .iload_n 2, 1), (58, .invokevirtual 304, 3), (61, .ladd, 1), (62, .lstore 9, 2), (64, .iload 7, 2), (66, .ifCond .eq 19, 3), (69, .lload 9, 2), (71, .iload 7, 2), (73, .i2l, 1), (74, .lmul, 1), (75, .lload 5, 2), (77, .iload 8, 2), (79, .i2l, 1), (80, .lmul, 1), (81, .lcmp, 1), (82, .ifCond .ge 11, 3), (85, .lload 9, 2), (87, .lstore 5, 2), (89, .iload 8, 2), (91, .istore 7, 2), (93, .iinc 8 1, 3), (96, .goto (-71), 3), (99, .iload 7, 2), (101, .ireturn, 1)]
noncomputable abbrev dlX10_yearly : List (Nat × Instr × Nat) := [(0, .aload_n 0, 1), (1, .iload_n 1, 1), (2, .invokevirtual 197, 3), (5, .aload_n 0, 1), (6, .iload_n 2, 1), (7, .iconst 0, 1), (8, .sipush 999, 3), (11, .invokevirtual 169, 3), (14, .aload_n 0, 1), (15, .iload_n 3, 1), (16, .iconst 1, 1), (17, .bipush 30, 2), (19, .invokevirtual 169, 3), (22, .aload_n 0, 1), (23, .iload 4, 2), (25, .invokevirtual 244, 3), (28, .aload_n 0, 1), (29, .iload_n 1, 1), (30, .iload_n 2, 1), (31, .invokevirtual 304, 3), (34, .lstore 5, 2), (36, .iconst 0, 1), (37, .istore 7, 2), (39, .iload 7, 2), (41, .iload_n 3, 1), (42, .if_icmp .ge 31, 3), (45, .lload 5, 2), (47, .aload_n 0, 1), (48, .getfield 52, 3), (51, .aload_n 0, 1), (52, .getfield 75, 3), (55, .getfield 90, 3), (58, .iload_n 1, 1), (59, .iload 7, 2), (61, .invokevirtual 300, 3), (64, .ladd, 1), (65, .lstore 5, 2), (67, .iinc 7 1, 3), (70, .goto (-31), 3), (73, .lload 5, 2), (75, .ldc2_w 265, 3), (78, .iload_n 3, 1), (79, .i2l, 1), (80, .lmul, 1), (81, .iload 4, 2), (83, .invokestatic 253, 3), (86, .lreturn, 1)]
noncomputable abbrev dlX10_brings : List (Nat × Instr × Nat) := [(0, .aload_n 0, 1), (1, .iload_n 1, 1), (2, .iconst 0, 1), (3, .bipush 16, 2), (5, .invokevirtual 169, 3), (8, .aload_n 0, 1), (9, .iload_n 2, 1), (10, .iload_n 3, 1), (11, .iload 4, 2), (13, .iload 5, 2), (15, .invokevirtual 308, 3), (18, .aload_n 0, 1), (19, .iload 6, 2), (21, .iconst 0, 1), (22, .iconst 2, 1), (23, .invokevirtual 169, 3), (26, .iload_n 1, 1), (27, .iload_n 2, 1), (28, .iload_n 3, 1), (29, .iload 4, 2), (31, .iload 5, 2), (33, .iload 6, 2), (35, .invokestatic 312, 3), (38, .ireturn, 1)]
noncomputable abbrev dlX10_says : List (Nat × Instr × Nat) := [(0, .aload_n 0, 1), (1, .iload_n 1, 1), (2, .iconst 0, 1), (3, .bipush 16, 2), (5, .invokevirtual 169, 3), (8, .aload_n 0, 1), (9, .iload_n 2, 1), (10, .iload_n 3, 1), (11, .iload 4, 2), (13, .iload 5, 2), (15, .invokevirtual 308, 3), (18, .iload_n 1, 1), (19, .iload_n 2, 1), (20, .iload_n 3, 1), (21, .iload 4, 2), (23, .iload 5, 2), (25, .invokestatic 316, 3), (28, .ireturn, 1)]
noncomputable abbrev dlX10_line : List (Nat × Instr × Nat) := [(0, .aload_n 0, 1), (1, .iload_n 1, 1), (2, .iload_n 2, 1), (3, .iload_n 3, 1), (4, .iload 4, 2), (6, .invokevirtual 308, 3), (9, .iconst 0, 1), (10, .istore 5, 2), (12, .iload 5, 2), (14, .bipush 16, 2), (16, .if_icmp .gt 25, 3), (19, .iload 5, 2), (21, .iload_n 1, 1), (22, .iload_n 2, 1), (23, .iload_n 3, 1), (24, .iload 4, 2), (26, .invokestatic 316, 3), (29, .ifCond .ne 6, 3), (32, .iload 5, 2), (34, .ireturn, 1), (35, .iinc 5 1, 3), (38, .goto (-26), 3), (41, .iconst (-1), 1), (42, .ireturn, 1)]
noncomputable abbrev dlX10_room : List (Nat × Instr × Nat) := [(0, .aload_n 0, 1), (1, .iload_n 1, 1), (2, .invokevirtual 319, 3), (5, .aload_n 0, 1), (6, .iload_n 2, 1), (7, .iconst 0, 1), (8, .sipush 200, 3), (11, .invokevirtual 169, 3), (14, .aload_n 0, 1), (15, .iload_n 1, 1), (16, .iload_n 2, 1), (17, .invokevirtual 322, 3), (20, .invokestatic 325, 3), (23, .ireturn, 1)]
noncomputable abbrev dlX10_lines : List (Nat × Instr × Nat) := [(0, .aload_n 0, 1), (1, .iload_n 3, 1), (2, .invokevirtual 197, 3), (5, .aload_n 0, 1), (6, .iload_n 1, 1), (7, .invokevirtual 319, 3), (10, .aload_n 0, 1), (11, .iload_n 2, 1), (12, .iconst 0, 1), (13, .sipush 200, 3), (16, .invokevirtual 169, 3), (19, .aload_n 0, 1), (20, .iload_n 1, 1), (21, .iload_n 2, 1), (22, .invokevirtual 322, 3), (25, .istore 4, 2), (27, .iload 4, 2), (29, .invokestatic 325, 3), (32, .bipush 16, 2), (34, .ishl, 1), (35, .iload 4, 2), (37, .isub, 1), (38, .istore 5, 2), (40, .iload 5, 2), (42, .iload_n 3, 1), (43, .invokestatic 328, 3), (46, .ishr, 1), (47, .iconst 3, 1), (48, .iand, 1), (49, .istore 6, 2), (51, .iload 6, 2), (53, .ifCond .ne 5, 3), (56, .iconst 0, 1), (57, .ireturn, 1), (58, .iload 6, 2), (60, .iconst 1, 1), (61, .if_icmp .ne 7, 3), (64, .iconst 3, 1), (65, .goto 12, 3), (68, .aload_n 0, 1), (69, .getfield 19, 3), (72, .getfield 207, 3), (75, .iload_n 3, 1), (76, .iaload, 1), (77, .ireturn, 1)]
noncomputable abbrev dlX10_apart : List (Nat × Instr × Nat) := [(0, .aload_n 0, 1), (1, .iload_n 1, 1), (2, .invokevirtual 319, 3), (5, .aload_n 0, 1), (6, .iload_n 2, 1), (7, .iconst 0, 1), (8, .iconst 1, 1), (9, .invokevirtual 169, 3), (12, .aload_n 0, 1), (13, .invokevirtual 331, 3), (16, .iconst (-1), 1), (17, .istore_n 3, 1), (18, .bipush 7, 2), (20, .istore 4, 2), (22, .iconst 0, 1), (23, .istore 5, 2), (25, .iload 5, 2), (27, .bipush 64, 2), (29, .if_icmp .ge 40, 3), (32, .iload 5, 2), (34, .invokestatic 182, 3), (37, .istore 6, 2), (39, .iload 6, 2), (41, .iload 4, 2), (43, .if_icmp .ge 20, 3), (46, .aload_n 0, 1), (47, .iload_n 1, 1), (48, .iload 5, 2), (50, .invokevirtual 334, 3), (53, .ifCond .eq 10, 3), (56, .iload 6, 2), (58, .istore 4, 2), (60, .iload 5, 2), (62, .istore_n 3, 1), (63, .iinc 5 1, 3), (66, .goto (-41), 3), (69, .iload_n 3, 1), (70, .iconst (-1), 1), (71, .if_icmp .eq 8, 3), (74, .iload_n 2, 1), (75, .iconst 1, 1), (76, .if_icmp .ne 7, 3), (79, .iload_n 3, 1), (80, .goto 5, 3), (83, .iload 4, 2), (85, .ireturn, 1)]
noncomputable abbrev dlX10_twins : List (Nat × Instr × Nat) := [(0, .aload_n 0, 1), (1, .invokevirtual 331, 3), (4, .iconst 0, 1), (5, .istore_n 1, 1), (6, .iload_n 1, 1), (7, .aload_n 0, 1), (8, .getfield 19, 3), (11, .getfield 138, 3), (14, .if_icmp .ge 52, 3), (17, .iload_n 1, 1), (18, .iconst 1, 1), (19, .iadd, 1), (20, .istore_n 2, 1), (21, .iload_n 2, 1), (22, .aload_n 0, 1), (23, .getfield 19, 3), (26, .getfield 138, 3), (29, .if_icmp .ge 31, 3), (32, .aload_n 0, 1), (33, .getfield 83, 3), (36, .iload_n 1, 1), (37, .iaload, 1), (38, .aload_n 0, 1), (39, .getfield 83, 3), (42, .iload_n 2, 1), (43, .iaload, 1), (44, .if_icmp .ne 10, 3), (47, .bipush 10, 2), (49, .iload_n 1, 1), (50, .imul, 1), (51, .iload_n 2, 1), (52, .iadd, 1), (53, .ireturn, 1), (54, .iinc 2 1, 3), (57, .goto (-36), 3), (60, .iinc 1 1, 3), (63, .goto (-57), 3), (66, .iconst (-1), 1), (67, .ireturn, 1)]
noncomputable abbrev dlX10_written : List (Nat × Instr × Nat) := [(0, .aload_n 0, 1), (1, .iload_n 1, 1), (2, .invokevirtual 197, 3), (5, .aload_n 0, 1), (6, .iload_n 1, 1), (7, .invokevirtual 338, 3), (10, .lreturn, 1)]
noncomputable abbrev dlX10_whose : List (Nat × Instr × Nat) := [(0, .iconst 0, 1), (1, .istore_n 1, 1), (2, .iconst 0, 1), (3, .istore_n 2, 1), (4, .iload_n 2, 1), (5, .aload_n 0, 1), (6, .getfield 19, 3), (9, .getfield 138, 3), (12, .if_icmp .ge 25, 3), (15, .aload_n 0, 1), (16, .iload_n 2, 1), (17, .invokevirtual 338, 3), (20, .lconst 0, 1), (21, .lcmp, 1), (22, .ifCond .eq 9, 3), (25, .iload_n 1, 1), (26, .iconst 1, 1), (27, .iload_n 2, 1), (28, .ishl, 1), (29, .ior, 1), (30, .istore_n 1, 1), (31, .iinc 2 1, 3), (34, .goto (-30), 3), (37, .iload_n 1, 1), (38, .ireturn, 1)]
noncomputable abbrev dlX10_years : List (Nat × Instr × Nat) := [(0, .aload_n 0, 1), (1, .iload_n 2, 1), (2, .iconst 1, 1), (3, .bipush 60, 2), (5, .invokevirtual 169, 3), (8, .aload_n 0, 1), (9, .iload_n 3, 1), (10, .iconst 0, 1), (11, .iconst 4, 1), (12, .invokevirtual 169, 3), (15, .aload_n 0, 1), (16, .getfield 68, 3), (19, .aload_n 0, 1), (20, .getfield 75, 3), (23, .getfield 90, 3), (26, .iload_n 1, 1), (27, .iload_n 2, 1), (28, .invokevirtual 342, 3), (31, .iload_n 3, 1), (32, .tableswitch 84 0 3 #[32, 54, 65, 76], 32), (64, .aload_n 0, 1), (65, .getfield 19, 3), (68, .getfield 138, 3), (71, .aload_n 0, 1), (72, .getfield 68, 3), (75, .getfield 346, 3), (78, .getfield 179, 3), (81, .invokestatic 182, 3), (84, .isub, 1), (85, .ireturn, 1), (86, .aload_n 0, 1), (87, .getfield 68, 3), (90, .getfield 346, 3), (93, .getfield 191, 3), (96, .ireturn, 1), (97, .aload_n 0, 1), (98, .getfield 68, 3), (101, .getfield 346, 3), (104, .getfield 194, 3), (107, .ireturn, 1), (108, .aload_n 0, 1), (109, .getfield 68, 3), (112, .getfield 349, 3), (115, .ireturn, 1), (116, .aload_n 0, 1), (117, .getfield 68, 3), (120, .getfield 346, 3), (123, .getfield 247, 3), (126, .ldc2_w 251, 3), (129, .ldiv, 1), (130, .l2i, 1), (131, .ireturn, 1)]
noncomputable abbrev dlX10_span : List (Nat × Instr × Nat) := [(0, .aload_n 0, 1), (1, .iload_n 2, 1), (2, .iconst 1, 1), (3, .bipush 20, 2), (5, .invokevirtual 169, 3), (8, .aload_n 0, 1), (9, .iload_n 3, 1), (10, .iconst 1, 1), (11, .bipush 60, 2), (13, .invokevirtual 169, 3), (16, .aload_n 0, 1), (17, .iload 4, 2), (19, .iconst 0, 1), (20, .iconst 3, 1), (21, .invokevirtual 169, 3), (24, .aload_n 0, 1), (25, .iload 5, 2), (27, .iconst 0, 1), (28, .aload_n 0, 1), (29, .getfield 19, 3), (32, .getfield 138, 3), (35, .iconst 1, 1), (36, .isub, 1), (37, .invokevirtual 169, 3), (40, .bipush 8, 2), (42, .istore 6, 2), (44, .iconst 0, 1), (45, .istore 7, 2), (47, .iconst 0, 1), (48, .istore 8, 2), (50, .iconst 0, 1), (51, .istore 9, 2), (53, .iconst 0, 1), (54, .istore 10, 2), (56, .iload 10, 2), (58, .iload_n 2, 1), (59, .if_icmp .ge 90, 3), (62, .aload_n 0, 1), (63, .getfield 68, 3), (66, .aload_n 0, 1), (67, .getfield 75, 3), (70, .getfield 90, 3), (73, .iload_n 1, 1), (74, .iload 10, 2), (76, .iadd, 1), (77, .iload_n 3, 1), (78, .invokevirtual 342, 3), (81, .aload_n 0, 1), (82, .getfield 68, 3), (85, .getfield 346, 3), (88, .getfield 191, 3), (91, .istore 11, 2), (93, .iload 6, 2), (95, .iload 11, 2), (97, .invokestatic 352, 3), (100, .istore 6, 2), (102, .iload 7, 2), (104, .iload 11, 2), (106, .invokestatic 357, 3), (109, .istore 7, 2), (111, .iload 8, 2), (113, .iload 11, 2), (115, .iadd, 1), (116, .istore 8, 2), (118, .iload 9, 2), (120, .aload_n 0, 1), (121, .getfield 68, 3), (124, .getfield 346, 3), (127, .iload 5, 2), (129, .invokevirtual 215, 3), (132, .ifCond .eq 7, 3), (135, .iconst 1, 1), (136, .goto 4, 3), (139, .iconst 0, 1), (140, .iadd, 1), (141, .istore 9, 2), (143, .iinc 10 1, 3), (146, .goto (-90), 3), (149, .iload 4, 2), (151, .tableswitch 34 0 2 #[25, 28, 31], 25), (176, .iload 6, 2), (178, .ireturn, 1), (179, .iload 7, 2), (181, .ireturn, 1), (182, .iload 8, 2), (184, .ireturn, 1), (185, .iload 9, 2), (187, .ireturn, 1)]
noncomputable abbrev dlX10_image : List (Nat × Instr × Nat) := [(0, .aload_n 0, 1), (1, .getfield 129, 3), (4, .iconst 3, 1), (5, .if_icmp .lt 5, 3), (8, .iconst (-1), 1), (9, .ireturn, 1), (10, .aload_n 0, 1), (11, .getfield 79, 3), (14, .aload_n 0, 1), (15, .getfield 129, 3), (18, .aaload, 1), (19, .aload_n 0, 1), (20, .getfield 75, 3), (23, .invokevirtual 360, 3), (26, .aload_n 0, 1), (27, .dup, 1), (28, .getfield 129, 3), (31, .iconst 1, 1), (32, .iadd, 1), (33, .putfield 129, 3), (36, .aload_n 0, 1), (37, .getfield 129, 3), (40, .ireturn, 1)]
noncomputable abbrev dlX10_restore : List (Nat × Instr × Nat) := [(0, .aload_n 0, 1), (1, .getfield 129, 3), (4, .ifCond .gt 5, 3), (7, .iconst (-1), 1), (8, .ireturn, 1), (9, .aload_n 0, 1), (10, .dup, 1), (11, .getfield 129, 3), (14, .iconst 1, 1), (15, .isub, 1), (16, .putfield 129, 3), (19, .aload_n 0, 1), (20, .getfield 75, 3), (23, .aload_n 0, 1), (24, .getfield 79, 3), (27, .aload_n 0, 1), (28, .getfield 129, 3), (31, .aaload, 1), (32, .invokevirtual 360, 3), (35, .aload_n 0, 1), (36, .iconst 0, 1), (37, .putfield 132, 3), (40, .aload_n 0, 1), (41, .getfield 61, 3), (44, .invokevirtual 135, 3), (47, .aload_n 0, 1), (48, .getfield 129, 3), (51, .ireturn, 1)]
noncomputable abbrev dlX10_status : List (Nat × Instr × Nat) := [(0, .iload_n 1, 1), (1, .lookupswitch 37 #[(0, 27), (1, 32)], 27), (28, .aload_n 0, 1), (29, .getfield 363, 3), (32, .ireturn, 1), (33, .aload_n 0, 1), (34, .getfield 366, 3), (37, .ireturn, 1), (38, .iconst (-1), 1), (39, .ireturn, 1)]
noncomputable abbrev dlX10_count : List (Nat × Instr × Nat) := [(0, .iload_n 1, 1), (1, .tableswitch 48 0 2 #[27, 32, 40], 27), (28, .aload_n 0, 1), (29, .getfield 129, 3), (32, .ireturn, 1), (33, .aload_n 0, 1), (34, .getfield 12, 3), (37, .getfield 100, 3), (40, .ireturn, 1), (41, .aload_n 0, 1), (42, .getfield 75, 3), (45, .getfield 126, 3), (48, .ireturn, 1), (49, .iconst (-1), 1), (50, .ireturn, 1)]
noncomputable abbrev dlX10_needLife : List (Nat × Instr × Nat) := [(0, .iload_n 1, 1), (1, .ifCond .lt 14, 3), (4, .iload_n 1, 1), (5, .aload_n 0, 1), (6, .getfield 19, 3), (9, .getfield 138, 3), (12, .if_icmp .lt 24, 3), (15, .aload_n 0, 1), (16, .dup, 1), (17, .getfield 363, 3), (20, .iconst 1, 1), (21, .iadd, 1), (22, .putfield 363, 3), (25, .new 369, 3), (28, .dup, 1), (29, .ldc_w 371, 3), (32, .invokespecial 373, 3), (35, .athrow, 1), (36, .return_, 1)]
noncomputable abbrev dlX10_needWithin : List (Nat × Instr × Nat) := [(0, .iload_n 1, 1), (1, .iload_n 2, 1), (2, .if_icmp .lt 8, 3), (5, .iload_n 1, 1), (6, .iload_n 3, 1), (7, .if_icmp .le 24, 3), (10, .aload_n 0, 1), (11, .dup, 1), (12, .getfield 366, 3), (15, .iconst 1, 1), (16, .iadd, 1), (17, .putfield 366, 3), (20, .new 376, 3), (23, .dup, 1), (24, .ldc_w 378, 3), (27, .invokespecial 380, 3), (30, .athrow, 1), (31, .return_, 1)]
noncomputable abbrev dlX10_needPart : List (Nat × Instr × Nat) := [(0, .aload_n 0, 1), (1, .iload_n 1, 1), (2, .iconst 0, 1), (3, .iconst 1, 1), (4, .invokevirtual 169, 3), (7, .return_, 1)]
noncomputable abbrev dlX10_needBits : List (Nat × Instr × Nat) := [(0, .aload_n 0, 1), (1, .iload_n 1, 1), (2, .iconst 0, 1), (3, .iconst 1, 1), (4, .aload_n 0, 1), (5, .getfield 19, 3), (8, .getfield 138, 3), (11, .ishl, 1), (12, .iconst 1, 1), (13, .isub, 1), (14, .invokevirtual 169, 3), (17, .return_, 1)]
noncomputable abbrev dlX10_needRumour : List (Nat × Instr × Nat) := [(0, .aload_n 0, 1), (1, .iload_n 1, 1), (2, .iconst 0, 1), (3, .bipush 16, 2), (5, .invokevirtual 169, 3), (8, .aload_n 0, 1), (9, .iload_n 2, 1), (10, .iconst 0, 1), (11, .sipush 999, 3), (14, .invokevirtual 169, 3), (17, .aload_n 0, 1), (18, .iload_n 3, 1), (19, .iconst 0, 1), (20, .sipush 999, 3), (23, .invokevirtual 169, 3), (26, .aload_n 0, 1), (27, .iload 4, 2), (29, .iconst 0, 1), (30, .sipush 999, 3), (33, .invokevirtual 169, 3), (36, .return_, 1)]
noncomputable abbrev dlX10_openText : List (Nat × Instr × Nat) := [(0, .aload_n 0, 1), (1, .iload_n 1, 1), (2, .iconst 0, 1), (3, .iload_n 2, 1), (4, .aload_n 0, 1), (5, .getfield 12, 3), (8, .getfield 100, 3), (11, .invokestatic 352, 3), (14, .invokevirtual 169, 3), (17, .aload_n 0, 1), (18, .getfield 12, 3), (21, .iload_n 1, 1), (22, .invokevirtual 381, 3), (25, .return_, 1)]
noncomputable abbrev dlX10_aheadMost : List (Nat × Instr × Nat) := [(0, .bipush 60, 2), (2, .sipush 200, 3), (5, .aload_n 0, 1), (6, .getfield 75, 3), (9, .getfield 90, 3), (12, .getfield 173, 3), (15, .isub, 1), (16, .invokestatic 352, 3), (19, .ireturn, 1)]
noncomputable abbrev dlX10_piecesWrongBy : List (Nat × Instr × Nat) := [(0, .iconst 0, 1), (1, .istore_n 2, 1), (2, .iconst 0, 1), (3, .istore_n 3, 1), (4, .iload_n 3, 1), (5, .aload_n 0, 1), (6, .getfield 19, 3), (9, .getfield 138, 3), (12, .if_icmp .ge 57, 3), (15, .aload_n 0, 1), (16, .getfield 75, 3), (19, .getfield 90, 3), (22, .getfield 219, 3), (25, .iload_n 3, 1), (26, .iaload, 1), (27, .istore 4, 2), (29, .iload 4, 2), (31, .iconst (-1), 1), (32, .if_icmp .eq 31, 3), (35, .aload_n 0, 1), (36, .getfield 52, 3), (39, .aload_n 0, 1), (40, .getfield 75, 3), (43, .getfield 90, 3), (46, .iload_n 3, 1), (47, .iconst 0, 1), (48, .iload 4, 2), (50, .invokevirtual 229, 3), (53, .iload_n 1, 1), (54, .if_icmp .lt 9, 3), (57, .iload_n 2, 1), (58, .iconst 1, 1), (59, .iload_n 3, 1), (60, .ishl, 1), (61, .ior, 1), (62, .istore_n 2, 1), (63, .iinc 3 1, 3), (66, .goto (-62), 3), (69, .iload_n 2, 1), (70, .ireturn, 1)]
noncomputable abbrev dlX10_renewalPrice : List (Nat × Instr × Nat) := [(0, .ldc2_w 265, 3), (3, .iload_n 2, 1), (4, .i2l, 1), (5, .lmul, 1), (6, .aload_n 0, 1), (7, .getfield 19, 3), (10, .iload_n 1, 1), (11, .invokevirtual 212, 3), (14, .i2l, 1), (15, .lmul, 1), (16, .lreturn, 1)]
noncomputable abbrev dlX10_meanOf : List (Nat × Instr × Nat) := [(0, .iload 5, 2), (2, .lookupswitch 55 #[(0, 26), (1, 40)], 26), (28, .bipush 16, 2), (30, .iload_n 0, 1), (31, .iload_n 2, 1), (32, .imul, 1), (33, .bipush 16, 2), (35, .iload_n 0, 1), (36, .isub, 1), (37, .iload_n 3, 1), (38, .imul, 1), (39, .isub, 1), (40, .imul, 1), (41, .ireturn, 1), (42, .bipush 16, 2), (44, .iload_n 0, 1), (45, .iload_n 2, 1), (46, .imul, 1), (47, .bipush 16, 2), (49, .iload_n 0, 1), (50, .isub, 1), (51, .iload 4, 2), (53, .imul, 1), (54, .isub, 1), (55, .imul, 1), (56, .ireturn, 1), (57, .iload_n 0, 1), (58, .bipush 16, 2), (60, .iload_n 1, 1), (61, .isub, 1), (62, .imul, 1), (63, .iload_n 2, 1), (64, .imul, 1), (65, .ireturn, 1)]
noncomputable abbrev dlX10_bestWay : List (Nat × Instr × Nat) := [(0, .iconst 0, 1), (1, .istore 5, 2), (3, .iload_n 0, 1), (4, .iload_n 1, 1), (5, .iload_n 2, 1), (6, .iload_n 3, 1), (7, .iload 4, 2), (9, .iconst 0, 1), (10, .invokestatic 312, 3), (13, .istore 6, 2), (15, .iconst 1, 1), (16, .istore 7, 2), (18, .iload 7, 2), (20, .iconst 2, 1), (21, .if_icmp .gt 37, 3), (24, .iload_n 0, 1), (25, .iload_n 1, 1), (26, .iload_n 2, 1), (27, .iload_n 3, 1), (28, .iload 4, 2), (30, .iload 7, 2), (32, .invokestatic 312, 3), (35, .istore 8, 2), (37, .iload 8, 2), (39, .iload 6, 2), (41, .if_icmp .le 11, 3), (44, .iload 8, 2), (46, .istore 6, 2), (48, .iload 7, 2), (50, .istore 5, 2), (52, .iinc 7 1, 3), (55, .goto (-37), 3), (58, .iload 5, 2), (60, .ireturn, 1)]
noncomputable abbrev dlX10_fillRoom : List (Nat × Instr × Nat) := [(0, .aload_n 0, 1), (1, .getfield 87, 3), (4, .iconst 0, 1), (5, .invokestatic 384, 3), (8, .iconst 0, 1), (9, .istore_n 3, 1), (10, .iload_n 3, 1), (11, .aload_n 0, 1), (12, .getfield 19, 3), (15, .getfield 138, 3), (18, .if_icmp .ge 23, 3), (21, .iload_n 1, 1), (22, .iload_n 3, 1), (23, .ishr, 1), (24, .iconst 1, 1), (25, .iand, 1), (26, .ifCond .eq 9, 3), (29, .aload_n 0, 1), (30, .iload_n 3, 1), (31, .iload_n 2, 1), (32, .invokevirtual 390, 3), (35, .iinc 3 1, 3), (38, .goto (-28), 3), (41, .iload_n 2, 1), (42, .ifCond .lt 21, 3), (45, .iload_n 2, 1), (46, .aload_n 0, 1), (47, .getfield 87, 3), (50, .arraylength, 1), (51, .if_icmp .ge 12, 3), (54, .aload_n 0, 1), (55, .getfield 87, 3), (58, .iload_n 2, 1), (59, .iaload, 1), (60, .goto 4, 3), (63, .iconst 0, 1), (64, .ireturn, 1)]
noncomputable abbrev dlX10_addToRoom : List (Nat × Instr × Nat) := [(0, .aload_n 0, 1), (1, .getfield 19, 3), (4, .getfield 207, 3), (7, .iload_n 1, 1), (8, .iaload, 1), (9, .istore_n 3, 1), (10, .iconst 1, 1), (11, .iload_n 1, 1), (12, .invokestatic 328, 3), (15, .ishl, 1), (16, .istore 4, 2), (18, .iload_n 2, 1), (19, .sipush 200, 3), (22, .invokestatic 352, 3), (25, .istore 5, 2), (27, .iload 5, 2), (29, .ifCond .lt 91, 3), (32, .aload_n 0, 1), (33, .getfield 87, 3), (36, .iload 5, 2), (38, .iaload, 1), (39, .istore 6, 2), (41, .iload 5, 2), (43, .iconst 3, 1), (44, .if_icmp .lt 27, 3), (47, .iload 6, 2), (49, .aload_n 0, 1), (50, .getfield 87, 3), (53, .iload 5, 2), (55, .iconst 3, 1), (56, .isub, 1), (57, .iaload, 1), (58, .iload_n 3, 1), (59, .bipush 16, 2), (61, .ishl, 1), (62, .iadd, 1), (63, .iload 4, 2), (65, .isub, 1), (66, .invokestatic 357, 3), (69, .istore 6, 2), (71, .iload 5, 2), (73, .iload_n 3, 1), (74, .if_icmp .lt 31, 3), (77, .iload 6, 2), (79, .aload_n 0, 1), (80, .getfield 87, 3), (83, .iload 5, 2), (85, .iload_n 3, 1), (86, .isub, 1), (87, .iaload, 1), (88, .iconst 3, 1), (89, .iload_n 3, 1), (90, .imul, 1), (91, .bipush 16, 2), (93, .ishl, 1), (94, .iadd, 1), (95, .iconst 2, 1), (96, .iload 4, 2), (98, .imul, 1), (99, .isub, 1), (100, .invokestatic 357, 3), (103, .istore 6, 2), (105, .aload_n 0, 1), (106, .getfield 87, 3), (109, .iload 5, 2), (111, .iload 6, 2), (113, .iastore, 1), (114, .iinc 5 (-1), 3), (117, .goto (-90), 3), (120, .return_, 1)]
noncomputable abbrev dlX10_roomShift : List (Nat × Instr × Nat) := [(0, .iconst 2, 1), (1, .bipush 7, 2), (3, .iload_n 0, 1), (4, .isub, 1), (5, .imul, 1), (6, .ireturn, 1)]
noncomputable abbrev dlX10_roomWorth : List (Nat × Instr × Nat) := [(0, .iload_n 0, 1), (1, .ldc_w 393, 3), (4, .iadd, 1), (5, .bipush 16, 2), (7, .ishr, 1), (8, .ireturn, 1)]
noncomputable abbrev dlX10_look : List (Nat × Instr × Nat) := [(0, .iconst 0, 1), (1, .istore_n 1, 1), (2, .iload_n 1, 1), (3, .aload_n 0, 1), (4, .getfield 19, 3), (7, .getfield 138, 3), (10, .if_icmp .ge 33, 3), (13, .aload_n 0, 1), (14, .getfield 83, 3), (17, .iload_n 1, 1), (18, .aload_n 0, 1), (19, .getfield 19, 3), (22, .iload_n 1, 1), (23, .aload_n 0, 1), (24, .getfield 75, 3), (27, .getfield 90, 3), (30, .getfield 173, 3), (33, .invokevirtual 225, 3), (36, .iastore, 1), (37, .iinc 1 1, 3), (40, .goto (-38), 3), (43, .return_, 1)]
noncomputable abbrev dlX10_tellsApart : List (Nat × Instr × Nat) := [(0, .iconst 0, 1), (1, .istore_n 3, 1), (2, .iload_n 3, 1), (3, .aload_n 0, 1), (4, .getfield 19, 3), (7, .getfield 138, 3), (10, .if_icmp .ge 78, 3), (13, .iload_n 3, 1), (14, .iconst 1, 1), (15, .iadd, 1), (16, .istore 4, 2), (18, .iload 4, 2), (20, .aload_n 0, 1), (21, .getfield 19, 3), (24, .getfield 138, 3), (27, .if_icmp .ge 55, 3), (30, .iload_n 1, 1), (31, .iload_n 3, 1), (32, .ishr, 1), (33, .iload_n 1, 1), (34, .iload 4, 2), (36, .ishr, 1), (37, .iand, 1), (38, .iconst 1, 1), (39, .iand, 1), (40, .ifCond .eq 7, 3), (43, .iconst 1, 1), (44, .goto 4, 3), (47, .iconst 0, 1), (48, .istore 5, 2), (50, .iload 5, 2), (52, .ifCond .eq 24, 3), (55, .aload_n 0, 1), (56, .getfield 83, 3), (59, .iload_n 3, 1), (60, .iaload, 1), (61, .aload_n 0, 1), (62, .getfield 83, 3), (65, .iload 4, 2), (67, .iaload, 1), (68, .ixor, 1), (69, .iload_n 2, 1), (70, .iand, 1), (71, .ifCond .ne 5, 3), (74, .iconst 0, 1), (75, .ireturn, 1), (76, .iinc 4 1, 3), (79, .goto (-61), 3), (82, .iinc 3 1, 3), (85, .goto (-83), 3), (88, .iconst 1, 1), (89, .ireturn, 1)]
noncomputable abbrev dlX10_weeksAsPage : List (Nat × Instr × Nat) := [(0, .lconst 0, 1), (1, .lstore_n 2, 1), (2, .iconst 0, 1), (3, .istore 4, 2), (5, .iload 4, 2), (7, .bipush 60, 2), (9, .if_icmp .gt 36, 3), (12, .aload_n 0, 1), (13, .getfield 36, 3), (16, .aload_n 0, 1), (17, .getfield 19, 3), (20, .iload_n 1, 1), (21, .iload 4, 2), (23, .invokevirtual 225, 3), (26, .invokevirtual 394, 3), (29, .ifCond .eq 10, 3), (32, .lload_n 2, 1), (33, .lconst 1, 1), (34, .iload 4, 2), (36, .lshl, 1), (37, .lor, 1), (38, .lstore_n 2, 1), (39, .iinc 4 1, 3), (42, .goto (-37), 3), (45, .lload_n 2, 1), (46, .lreturn, 1)]
noncomputable abbrev dlX10_termOf : List (Nat × Instr × Nat) := [(0, .lload_n 0, 1), (1, .lstore 5, 2), (3, .lload_n 2, 1), (4, .lstore 7, 2), (6, .iconst 0, 1), (7, .istore 9, 2), (9, .iload 9, 2), (11, .sipush 200, 3), (14, .if_icmp .ge 31, 3), (17, .lload 5, 2), (19, .lconst 0, 1), (20, .lcmp, 1), (21, .ifCond .eq 24, 3), (24, .lload 7, 2), (26, .lload 5, 2), (28, .lrem, 1), (29, .lstore 10, 2), (31, .lload 5, 2), (33, .lstore 7, 2), (35, .lload 10, 2), (37, .lstore 5, 2), (39, .iinc 9 1, 3), (42, .goto (-33), 3), (45, .lload 7, 2), (47, .lconst 0, 1), (48, .lcmp, 1), (49, .ifCond .le 8, 3), (52, .lload 7, 2), (54, .goto 4, 3), (57, .lconst 1, 1), (58, .lstore 9, 2), (60, .iload 4, 2), (62, .ifCond .ne 7, 3), (65, .lload_n 0, 1), (66, .goto 4, 3), (69, .lload_n 2, 1), (70, .lload 9, 2), (72, .ldiv, 1), (73, .lreturn, 1)]
noncomputable abbrev dlX11_init : List (Nat × Instr × Nat) := [(0, .aload_n 0, 1), (1, .invokespecial 3, 3), (4, .aload_n 0, 1), (5, .iconst (-1), 1), (6, .putfield 9, 3), (9, .aload_n 0, 1), (10, .sipush 600, 3), (13, .newarray .int, 2), (15, .putfield 13, 3), (18, .aload_n 0, 1), (19, .iconst 2, 1), (20, .newarray .int, 2), (22, .putfield 17, 3), (25, .aload_n 0, 1), (26, .bipush 6, 2), (28, .newarray .int, 2), (30, .putfield 20, 3), (33, .aload_n 0, 1), (34, .bipush 6, 2), (36, .newarray .int, 2), (38, .putfield 23, 3), (41, .aload_n 0, 1), (42, .bipush 8, 2), (44, .bipush 6, 2), (46, .multianewarray 26 2, 4), (50, .putfield 28, 3), (53, .aload_n 0, 1), (54, .bipush 8, 2), (56, .bipush 6, 2), (58, .multianewarray 26 2, 4), (62, .putfield 31, 3), (65, .aload_n 0, 1), (66, .bipush 24, 2), (68, .iconst 3, 1), (69, .multianewarray 26 2, 4), (73, .putfield 34, 3), (76, .aload_n 0, 1), (77, .bipush 24, 2), (79, .iconst 3, 1), (80, .multianewarray 26 2, 4), (84, .putfield 37, 3), (87, .aload_n 0, 1), (88, .sipush 160, 3), (91, .iconst 2, 1), (92, .multianewarray 26 2, 4), (96, .putfield 40, 3), (99, .aload_n 0, 1), (100, .sipush 160, 3), (103, .iconst 2, 1), (104, .multianewarray 26 2, 4), (108, .putfield 43, 3), (111, .aload_n 0, 1), (112, .bipush 6, 2), (114, .iconst 2, 1), (115, .multianewarray 26 2, 4), (119, .putfield 46, 3), (122, .aload_n 0, 1), (123, .bipush 6, 2), (125, .iconst 2, 1), (126, .multianewarray 26 2, 4), (130, .putfield 49, 3), (133, .aload_n 0, 1), (134, .sipush 160, 3), (137, .newarray .int, 2), (139, .putfield 52, 3), (142, .aload_n 0, 1), (143, .iconst 5, 1), (144, .newarray .int, 2), (146, .putfield 55, 3), (149, .aload_n 0, 1), (150, .bipush 80, 2), (152, .iconst 3, 1), (153, .multianewarray 26 2, 4), (157, .putfield 58, 3), (160, .aload_n 0, 1), (161, .bipush 14, 2), (163, .newarray .int, 2), (165, .putfield 61, 3), (168, .aload_n 0, 1), (169, .bipush 14, 2), (171, .newarray .int, 2), (173, .putfield 64, 3), (176, .aload_n 0, 1), (177, .bipush 16, 2), (179, .bipush 14, 2), (181, .multianewarray 26 2, 4), (185, .putfield 67, 3), (188, .aload_n 0, 1), (189, .iconst 3, 1), (190, .sipush 239, 3), (193, .multianewarray 26 2, 4), (197, .putfield 70, 3), (200, .aload_n 0, 1), (201, .sipush 2197, 3), (204, .newarray .long, 2), (206, .putfield 73, 3), (209, .aload_n 0, 1), (210, .sipush 2197, 3), (213, .newarray .long, 2), (215, .putfield 77, 3), (218, .aload_n 0, 1), (219, .sipush 2197, 3), (222, .newarray .long, 2), (224, .putfield 80, 3), (227, .aload_n 0, 1), (228, .sipush 2197, 3), (231, .newarray .long, 2), (233, .putfield 83, 3), (236, .aload_n 0, 1), (237, .iconst 3, 1), (238, .newarray .int, 2), (240, .putfield 86, 3), (243, .aload_n 0, 1), (244, .bipush 8, 2), (246, .newarray .int, 2), (248, .putfield 89, 3), (251, .aload_n 0, 1), (252, .bipush 8, 2), (254, .newarray .int, 2), (256, .putfield 92, 3), (259, .aload_n 0, 1), (260, .invokevirtual 95, 3), (263, .aload_n 0, 1), (264, .invokevirtual 98, 3), (267, .return_, 1)]
noncomputable abbrev dlX11_tellsNothing : List (Nat × Instr × Nat) := [(0, .aload_n 0, 1), (1, .getfield 20, 3), (4, .iconst 0, 1), (5, .iconst 0, 1), (6, .iastore, 1), (7, .aload_n 0, 1), (8, .getfield 20, 3), (11, .iconst 1, 1), (12, .iconst 0, 1), (13, .iastore, 1), (14, .aload_n 0, 1), (15, .getfield 20, 3), (18, .iconst 2, 1), (19, .bipush 8, 2), (21, .iastore, 1), (22, .aload_n 0, 1), (23, .getfield 20, 3), (26, .iconst 3, 1), (27, .iconst 5, 1), (28, .iastore, 1), (29, .aload_n 0, 1), (30, .getfield 20, 3), (33, .iconst 4, 1), (34, .iconst 3, 1), (35, .iastore, 1), (36, .aload_n 0, 1), (37, .getfield 20, 3), (40, .iconst 5, 1), (41, .iconst 2, 1), (42, .iastore, 1), (43, .return_, 1)]
noncomputable abbrev dlX11_bad : List (Nat × Instr × Nat) := [(0, .iload_n 1, 1), (1, .ifCond .eq 25, 3), (4, .aload_n 0, 1), (5, .getfield 101, 3), (8, .ifCond .ne 18, 3), (11, .aload_n 0, 1), (12, .iload_n 2, 1), (13, .putfield 101, 3), (16, .aload_n 0, 1), (17, .getfield 17, 3), (20, .iload_n 3, 1), (21, .dup2, 1), (22, .iaload, 1), (23, .iconst 1, 1), (24, .iadd, 1), (25, .iastore, 1), (26, .aload_n 0, 1), (27, .getfield 101, 3), (30, .ifCond .eq 7, 3), (33, .iconst 1, 1), (34, .goto 4, 3), (37, .iconst 0, 1), (38, .ireturn, 1)]
noncomputable abbrev dlX11_in : List (Nat × Instr × Nat) := [(0, .iload_n 0, 1), (1, .iload_n 1, 1), (2, .if_icmp .lt 12, 3), (5, .iload_n 0, 1), (6, .iload_n 2, 1), (7, .if_icmp .gt 7, 3), (10, .iconst 1, 1), (11, .goto 4, 3), (14, .iconst 0, 1), (15, .ireturn, 1)]
noncomputable abbrev dlX11_less : List (Nat × Instr × Nat) := [(0, .iload_n 0, 1), (1, .iload_n 1, 1), (2, .if_icmp .ge 7, 3), (5, .iload_n 0, 1), (6, .goto 4, 3), (9, .iload_n 1, 1), (10, .ireturn, 1)]
noncomputable abbrev dlX11_more : List (Nat × Instr × Nat) := [(0, .iload_n 0, 1), (1, .iload_n 1, 1), (2, .if_icmp .le 7, 3), (5, .iload_n 0, 1), (6, .goto 4, 3), (9, .iload_n 1, 1), (10, .ireturn, 1)]
noncomputable abbrev dlX11_has : List (Nat × Instr × Nat) := [(0, .iload_n 0, 1), (1, .iload_n 1, 1), (2, .ishr, 1), (3, .iconst 1, 1), (4, .iand, 1), (5, .iconst 1, 1), (6, .if_icmp .ne 7, 3), (9, .iconst 1, 1), (10, .goto 4, 3), (13, .iconst 0, 1), (14, .ireturn, 1)]
noncomputable abbrev dlX11_feed : List (Nat × Instr × Nat) := [(0, .aload_n 0, 1), (1, .iconst 0, 1), (2, .putfield 101, 3), (5, .aload_n 0, 1), (6, .getfield 104, 3), (9, .bipush 20, 2), (11, .iadd, 1), (12, .sipush 600, 3), (15, .if_icmp .le 5, 3), (18, .iconst (-1), 1), (19, .ireturn, 1), (20, .iconst 0, 1), (21, .istore 6, 2), (23, .iload 6, 2), (25, .bipush 20, 2), (27, .if_icmp .ge 93, 3), (30, .iload 6, 2), (32, .iconst 4, 1), (33, .if_icmp .ge 7, 3), (36, .iload_n 1, 1), (37, .goto 39, 3), (40, .iload 6, 2), (42, .bipush 8, 2), (44, .if_icmp .ge 7, 3), (47, .iload_n 2, 1), (48, .goto 28, 3), (51, .iload 6, 2), (53, .bipush 12, 2), (55, .if_icmp .ge 7, 3), (58, .iload_n 3, 1), (59, .goto 17, 3), (62, .iload 6, 2), (64, .bipush 16, 2), (66, .if_icmp .ge 8, 3), (69, .iload 4, 2), (71, .goto 5, 3), (74, .iload 5, 2), (76, .istore 7, 2), (78, .aload_n 0, 1), (79, .getfield 13, 3), (82, .aload_n 0, 1), (83, .getfield 104, 3), (86, .iload 7, 2), (88, .bipush 24, 2), (90, .bipush 8, 2), (92, .iload 6, 2), (94, .iconst 4, 1), (95, .irem, 1), (96, .imul, 1), (97, .isub, 1), (98, .ishr, 1), (99, .sipush 255, 3), (102, .iand, 1), (103, .iastore, 1), (104, .aload_n 0, 1), (105, .dup, 1), (106, .getfield 104, 3), (109, .iconst 1, 1), (110, .iadd, 1), (111, .putfield 104, 3), (114, .iinc 6 1, 3), (117, .goto (-94), 3), (120, .aload_n 0, 1), (121, .getfield 104, 3), (124, .ireturn, 1)]
noncomputable abbrev dlX11_byteAt : List (Nat × Instr × Nat) := [(0, .iload_n 1, 1), (1, .aload_n 0, 1), (2, .getfield 107, 3), (5, .if_icmp .lt 7, 3), (8, .iconst (-1), 1), (9, .goto 9, 3), (12, .aload_n 0, 1), (13, .getfield 13, 3), (16, .iload_n 1, 1), (17, .iaload, 1), (18, .ireturn, 1)]
noncomputable abbrev dlX11_blanks : List (Nat × Instr × Nat) := [(0, .aload_n 0, 1), (1, .aload_n 0, 1), (2, .getfield 110, 3), (5, .invokevirtual 113, 3), (8, .bipush 32, 2), (10, .if_icmp .ne 16, 3), (13, .aload_n 0, 1), (14, .dup, 1), (15, .getfield 110, 3), (18, .iconst 1, 1), (19, .iadd, 1), (20, .putfield 110, 3), (23, .goto (-23), 3), (26, .return_, 1)]
noncomputable abbrev dlX11_wrongAt : List (Nat × Instr × Nat) := [(0, .aload_n 0, 1), (1, .getfield 117, 3), (4, .ifCond .ne 13, 3), (7, .aload_n 0, 1), (8, .iload_n 1, 1), (9, .putfield 117, 3), (12, .aload_n 0, 1), (13, .iload_n 2, 1), (14, .putfield 120, 3), (17, .return_, 1)]
noncomputable abbrev dlX11_isDigit : List (Nat × Instr × Nat) := [(0, .iload_n 0, 1), (1, .bipush 48, 2), (3, .if_icmp .lt 13, 3), (6, .iload_n 0, 1), (7, .bipush 57, 2), (9, .if_icmp .gt 7, 3), (12, .iconst 1, 1), (13, .goto 4, 3), (16, .iconst 0, 1), (17, .ireturn, 1)]
noncomputable abbrev dlX11_isSmall : List (Nat × Instr × Nat) := [(0, .iload_n 0, 1), (1, .bipush 97, 2), (3, .if_icmp .lt 13, 3), (6, .iload_n 0, 1), (7, .bipush 122, 2), (9, .if_icmp .gt 7, 3), (12, .iconst 1, 1), (13, .goto 4, 3), (16, .iconst 0, 1), (17, .ireturn, 1)]
noncomputable abbrev dlX11_number : List (Nat × Instr × Nat) := [(0, .aload_n 0, 1), (1, .getfield 117, 3), (4, .ifCond .eq 5, 3), (7, .iconst 0, 1), (8, .ireturn, 1), (9, .aload_n 0, 1), (10, .invokevirtual 123, 3), (13, .aload_n 0, 1), (14, .getfield 110, 3), (17, .istore_n 3, 1), (18, .iconst 0, 1), (19, .istore 4, 2), (21, .aload_n 0, 1), (22, .aload_n 0, 1), (23, .getfield 110, 3), (26, .invokevirtual 113, 3), (29, .invokestatic 126, 3), (32, .ifCond .ne 12, 3), (35, .aload_n 0, 1), (36, .iconst 1, 1), (37, .aload_n 0, 1), (38, .getfield 110, 3), (41, .invokevirtual 130, 3), (44, .aload_n 0, 1), (45, .aload_n 0, 1), (46, .getfield 110, 3), (49, .invokevirtual 113, 3), (52, .invokestatic 126, 3), (55, .ifCond .eq 51, 3), (58, .bipush 10, 2), (60, .iload 4, 2), (62, .imul, 1), (63, .aload_n 0, 1), (64, .aload_n 0, 1), (65, .getfield 110, 3), (68, .invokevirtual 113, 3), (71, .iadd, 1), (72, .bipush 48, 2), (74, .isub, 1), (75, .istore 4, 2), (77, .iload 4, 2), (79, .ldc 134, 2), (81, .if_icmp .le 8, 3), (84, .ldc 134, 2), (86, .goto 5, 3), (89, .iload 4, 2), (91, .istore 4, 2), (93, .aload_n 0, 1), (94, .dup, 1), (95, .getfield 110, 3), (98, .iconst 1, 1), (99, .iadd, 1), (100, .putfield 110, 3), (103, .goto (-59), 3), (106, .iload 4, 2), (108, .iload_n 1, 1), (109, .iload_n 2, 1), (110, .invokestatic 135, 3), (113, .ifCond .ne 9, 3), (116, .aload_n 0, 1), (117, .iconst 2, 1), (118, .iload_n 3, 1), (119, .invokevirtual 130, 3), (122, .aload_n 0, 1), (123, .getfield 117, 3), (126, .ifCond .ne 8, 3), (129, .iload 4, 2), (131, .goto 4, 3), (134, .iconst 0, 1), (135, .ireturn, 1)]
noncomputable abbrev dlX11_wordHere : List (Nat × Instr × Nat) := [(0, .aload_n 0, 1), (1, .invokevirtual 123, 3), (4, .iconst 0, 1), (5, .istore_n 1, 1), (6, .iconst 0, 1), (7, .istore_n 2, 1), (8, .aload_n 0, 1), (9, .aload_n 0, 1), (10, .getfield 110, 3), (13, .iload_n 2, 1), (14, .iadd, 1), (15, .invokevirtual 113, 3), (18, .invokestatic 139, 3), (21, .ifCond .eq 39, 3), (24, .iload_n 2, 1), (25, .iconst 5, 1), (26, .if_icmp .ge 26, 3), (29, .bipush 27, 2), (31, .iload_n 1, 1), (32, .imul, 1), (33, .aload_n 0, 1), (34, .aload_n 0, 1), (35, .getfield 110, 3), (38, .iload_n 2, 1), (39, .iadd, 1), (40, .invokevirtual 113, 3), (43, .iadd, 1), (44, .bipush 97, 2), (46, .isub, 1), (47, .iconst 1, 1), (48, .iadd, 1), (49, .goto 4, 3), (52, .iload_n 1, 1), (53, .istore_n 1, 1), (54, .iinc 2 1, 3), (57, .goto (-49), 3), (60, .iload_n 2, 1), (61, .iconst 5, 1), (62, .if_icmp .le 7, 3), (65, .iconst (-1), 1), (66, .goto 4, 3), (69, .iload_n 1, 1), (70, .ireturn, 1)]
noncomputable abbrev dlX11_five : List (Nat × Instr × Nat) := [(0, .bipush 27, 2), (2, .iload_n 0, 1), (3, .imul, 1), (4, .iload_n 1, 1), (5, .iadd, 1), (6, .istore 5, 2), (8, .iload_n 2, 1), (9, .ifCond .ne 8, 3), (12, .iload 5, 2), (14, .goto 10, 3), (17, .bipush 27, 2), (19, .iload 5, 2), (21, .imul, 1), (22, .iload_n 2, 1), (23, .iadd, 1), (24, .istore 5, 2), (26, .iload_n 3, 1), (27, .ifCond .ne 8, 3), (30, .iload 5, 2), (32, .goto 10, 3), (35, .bipush 27, 2), (37, .iload 5, 2), (39, .imul, 1), (40, .iload_n 3, 1), (41, .iadd, 1), (42, .istore 5, 2), (44, .iload 4, 2), (46, .ifCond .ne 8, 3), (49, .iload 5, 2), (51, .goto 11, 3), (54, .bipush 27, 2), (56, .iload 5, 2), (58, .imul, 1), (59, .iload 4, 2), (61, .iadd, 1), (62, .ireturn, 1)]
noncomputable abbrev dlX11_isWord : List (Nat × Instr × Nat) := [(0, .aload_n 0, 1), (1, .getfield 117, 3), (4, .ifCond .ne 24, 3), (7, .aload_n 0, 1), (8, .invokevirtual 142, 3), (11, .iload_n 1, 1), (12, .iload_n 2, 1), (13, .iload_n 3, 1), (14, .iload 4, 2), (16, .iload 5, 2), (18, .invokestatic 146, 3), (21, .if_icmp .ne 7, 3), (24, .iconst 1, 1), (25, .goto 4, 3), (28, .iconst 0, 1), (29, .ireturn, 1)]
noncomputable abbrev dlX11_skipWord : List (Nat × Instr × Nat) := [(0, .aload_n 0, 1), (1, .aload_n 0, 1), (2, .getfield 110, 3), (5, .invokevirtual 113, 3), (8, .invokestatic 139, 3), (11, .ifCond .eq 16, 3), (14, .aload_n 0, 1), (15, .dup, 1), (16, .getfield 110, 3), (19, .iconst 1, 1), (20, .iadd, 1), (21, .putfield 110, 3), (24, .goto (-24), 3), (27, .return_, 1)]
noncomputable abbrev dlX11_takes : List (Nat × Instr × Nat) := [(0, .aload_n 0, 1), (1, .iload_n 1, 1), (2, .iload_n 2, 1), (3, .iload_n 3, 1), (4, .iload 4, 2), (6, .iload 5, 2), (8, .invokevirtual 150, 3), (11, .istore 6, 2), (13, .iload 6, 2), (15, .ifCond .eq 7, 3), (18, .aload_n 0, 1), (19, .invokevirtual 154, 3), (22, .iload 6, 2), (24, .ireturn, 1)]
noncomputable abbrev dlX11_sign : List (Nat × Instr × Nat) := [(0, .aload_n 0, 1), (1, .getfield 117, 3), (4, .ifCond .eq 4, 3), (7, .return_, 1), (8, .aload_n 0, 1), (9, .invokevirtual 123, 3), (12, .aload_n 0, 1), (13, .aload_n 0, 1), (14, .getfield 110, 3), (17, .invokevirtual 113, 3), (20, .iload_n 1, 1), (21, .if_icmp .ne 16, 3), (24, .aload_n 0, 1), (25, .dup, 1), (26, .getfield 110, 3), (29, .iconst 1, 1), (30, .iadd, 1), (31, .putfield 110, 3), (34, .goto 12, 3), (37, .aload_n 0, 1), (38, .iconst 1, 1), (39, .aload_n 0, 1), (40, .getfield 110, 3), (43, .invokevirtual 130, 3), (46, .return_, 1)]
noncomputable abbrev dlX11_takesSign : List (Nat × Instr × Nat) := [(0, .aload_n 0, 1), (1, .getfield 117, 3), (4, .ifCond .eq 5, 3), (7, .iconst 0, 1), (8, .ireturn, 1), (9, .aload_n 0, 1), (10, .invokevirtual 123, 3), (13, .aload_n 0, 1), (14, .aload_n 0, 1), (15, .getfield 110, 3), (18, .invokevirtual 113, 3), (21, .iload_n 1, 1), (22, .if_icmp .ne 7, 3), (25, .iconst 1, 1), (26, .goto 4, 3), (29, .iconst 0, 1), (30, .istore_n 2, 1), (31, .iload_n 2, 1), (32, .ifCond .eq 13, 3), (35, .aload_n 0, 1), (36, .dup, 1), (37, .getfield 110, 3), (40, .iconst 1, 1), (41, .iadd, 1), (42, .putfield 110, 3), (45, .iload_n 2, 1), (46, .ireturn, 1)]
noncomputable abbrev dlX11_starts : List (Nat × Instr × Nat) := [(0, .aload_n 0, 1), (1, .iconst 0, 1), (2, .putfield 104, 3), (5, .aload_n 0, 1), (6, .iload_n 1, 1), (7, .putfield 107, 3), (10, .aload_n 0, 1), (11, .iconst 0, 1), (12, .putfield 110, 3), (15, .aload_n 0, 1), (16, .iconst 0, 1), (17, .putfield 117, 3), (20, .aload_n 0, 1), (21, .iconst (-1), 1), (22, .putfield 120, 3), (25, .aload_n 0, 1), (26, .iconst 0, 1), (27, .putfield 157, 3), (30, .aload_n 0, 1), (31, .iconst 0, 1), (32, .putfield 160, 3), (35, .aload_n 0, 1), (36, .invokevirtual 123, 3), (39, .return_, 1)]
noncomputable abbrev dlX11_ends : List (Nat × Instr × Nat) := [(0, .aload_n 0, 1), (1, .aload_n 0, 1), (2, .getfield 120, 3), (5, .putfield 9, 3), (8, .aload_n 0, 1), (9, .getfield 117, 3), (12, .bipush 10, 2), (14, .isub, 1), (15, .ireturn, 1)]
noncomputable abbrev dlX11_kindHere : List (Nat × Instr × Nat) := [(0, .aload_n 0, 1), (1, .bipush 12, 2), (3, .bipush 9, 2), (5, .bipush 6, 2), (7, .iconst 5, 1), (8, .iconst 0, 1), (9, .invokevirtual 150, 3), (12, .ifCond .eq 5, 3), (15, .iconst 0, 1), (16, .ireturn, 1), (17, .aload_n 0, 1), (18, .bipush 6, 2), (20, .iconst 1, 1), (21, .iconst 3, 1), (22, .bipush 20, 2), (24, .iconst 0, 1), (25, .invokevirtual 150, 3), (28, .ifCond .eq 5, 3), (31, .iconst 1, 1), (32, .ireturn, 1), (33, .aload_n 0, 1), (34, .bipush 8, 2), (36, .bipush 15, 2), (38, .bipush 21, 2), (40, .bipush 18, 2), (42, .bipush 19, 2), (44, .invokevirtual 150, 3), (47, .ifCond .eq 5, 3), (50, .iconst 2, 1), (51, .ireturn, 1), (52, .aload_n 0, 1), (53, .bipush 12, 2), (55, .iconst 1, 1), (56, .iconst 3, 1), (57, .bipush 11, 2), (59, .iconst 0, 1), (60, .invokevirtual 150, 3), (63, .ifCond .eq 5, 3), (66, .iconst 3, 1), (67, .ireturn, 1), (68, .aload_n 0, 1), (69, .bipush 23, 2), (71, .bipush 18, 2), (73, .bipush 15, 2), (75, .bipush 14, 2), (77, .bipush 7, 2), (79, .invokevirtual 150, 3), (82, .ifCond .eq 5, 3), (85, .iconst 4, 1), (86, .ireturn, 1), (87, .aload_n 0, 1), (88, .bipush 8, 2), (90, .iconst 1, 1), (91, .bipush 12, 2), (93, .bipush 6, 2), (95, .iconst 0, 1), (96, .invokevirtual 150, 3), (99, .ifCond .eq 5, 3), (102, .iconst 5, 1), (103, .ireturn, 1), (104, .aload_n 0, 1), (105, .bipush 8, 2), (107, .iconst 1, 1), (108, .bipush 19, 2), (110, .iconst 0, 1), (111, .iconst 0, 1), (112, .invokevirtual 150, 3), (115, .ifCond .eq 6, 3), (118, .bipush 6, 2), (120, .ireturn, 1), (121, .aload_n 0, 1), (122, .iconst 2, 1), (123, .bipush 25, 2), (125, .iconst 0, 1), (126, .iconst 0, 1), (127, .iconst 0, 1), (128, .invokevirtual 150, 3), (131, .ifCond .eq 8, 3), (134, .bipush 7, 2), (136, .goto 4, 3), (139, .iconst (-1), 1), (140, .ireturn, 1)]
noncomputable abbrev dlX11_lifeHere : List (Nat × Instr × Nat) := [(0, .aload_n 0, 1), (1, .iconst 0, 1), (2, .aload_n 0, 1), (3, .getfield 20, 3), (6, .iconst 0, 1), (7, .iaload, 1), (8, .iconst 1, 1), (9, .isub, 1), (10, .invokevirtual 163, 3), (13, .ireturn, 1)]
noncomputable abbrev dlX11_clause : List (Nat × Instr × Nat) := [(0, .aload_n 0, 1), (1, .invokevirtual 167, 3), (4, .istore_n 1, 1), (5, .iload_n 1, 1), (6, .iconst (-1), 1), (7, .if_icmp .ne 15, 3), (10, .aload_n 0, 1), (11, .iconst 1, 1), (12, .aload_n 0, 1), (13, .getfield 110, 3), (16, .invokevirtual 130, 3), (19, .goto 52, 3), (22, .aload_n 0, 1), (23, .getfield 157, 3), (26, .bipush 60, 2), (28, .if_icmp .eq 34, 3), (31, .iload_n 1, 1), (32, .ifCond .ne 14, 3), (35, .aload_n 0, 1), (36, .getfield 20, 3), (39, .iconst 0, 1), (40, .iaload, 1), (41, .bipush 8, 2), (43, .if_icmp .eq 19, 3), (46, .iload_n 1, 1), (47, .iconst 1, 1), (48, .if_icmp .ne 23, 3), (51, .aload_n 0, 1), (52, .getfield 20, 3), (55, .iconst 1, 1), (56, .iaload, 1), (57, .bipush 24, 2), (59, .if_icmp .ne 12, 3), (62, .aload_n 0, 1), (63, .iconst 3, 1), (64, .aload_n 0, 1), (65, .getfield 110, 3), (68, .invokevirtual 130, 3), (71, .aload_n 0, 1), (72, .getfield 117, 3), (75, .ifCond .eq 4, 3), (78, .return_, 1), (79, .aload_n 0, 1), (80, .invokevirtual 154, 3), (83, .aload_n 0, 1), (84, .dup, 1), (85, .getfield 157, 3), (88, .iconst 1, 1), (89, .iadd, 1), (90, .putfield 157, 3), (93, .iload_n 1, 1), (94, .tableswitch 251 0 7 #[46, 109, 251, 251, 251, 251, 150, 182], 46), (140, .aload_n 0, 1), (141, .getfield 28, 3), (144, .aload_n 0, 1), (145, .getfield 20, 3), (148, .iconst 0, 1), (149, .iaload, 1), (150, .aaload, 1), (151, .astore_n 2, 1), (152, .aload_n 2, 1), (153, .iconst 0, 1), (154, .aload_n 0, 1), (155, .iconst 0, 1), (156, .bipush 110, 2), (158, .invokevirtual 163, 3), (161, .iastore, 1), (162, .aload_n 2, 1), (163, .iconst 1, 1), (164, .aload_n 0, 1), (165, .iconst 0, 1), (166, .bipush 64, 2), (168, .invokevirtual 163, 3), (171, .iastore, 1), (172, .aload_n 2, 1), (173, .iconst 2, 1), (174, .aload_n 0, 1), (175, .iconst 1, 1), (176, .bipush 99, 2), (178, .invokevirtual 163, 3), (181, .iastore, 1), (182, .aload_n 2, 1), (183, .iconst 3, 1), (184, .aload_n 0, 1), (185, .iconst 1, 1), (186, .bipush 9, 2), (188, .invokevirtual 163, 3), (191, .iastore, 1), (192, .aload_n 2, 1), (193, .iconst 4, 1), (194, .iconst (-1), 1), (195, .iastore, 1), (196, .aload_n 2, 1), (197, .iconst 5, 1), (198, .iconst (-1), 1), (199, .iastore, 1), (200, .goto 203, 3), (203, .aload_n 0, 1), (204, .getfield 34, 3), (207, .aload_n 0, 1), (208, .getfield 20, 3), (211, .iconst 1, 1), (212, .iaload, 1), (213, .aaload, 1), (214, .astore_n 2, 1), (215, .aload_n 2, 1), (216, .iconst 0, 1), (217, .aload_n 0, 1), (218, .invokevirtual 170, 3), (221, .iastore, 1), (222, .aload_n 2, 1), (223, .iconst 1, 1), (224, .aload_n 0, 1), (225, .iconst 0, 1), (226, .iconst 5, 1), (227, .invokevirtual 163, 3), (230, .iastore, 1), (231, .aload_n 2, 1), (232, .iconst 2, 1), (233, .aload_n 0, 1), (234, .iconst 1, 1), (235, .bipush 60, 2), (237, .invokevirtual 163, 3), (240, .iastore, 1), (241, .goto 162, 3), (244, .aload_n 0, 1), (245, .invokevirtual 170, 3), (248, .istore_n 2, 1), (249, .aload_n 0, 1), (250, .iconst 0, 1), (251, .bipush 40, 2), (253, .invokevirtual 163, 3), (256, .istore_n 3, 1), (257, .aload_n 0, 1), (258, .getfield 117, 3), (261, .ifCond .ne 142, 3), (264, .aload_n 0, 1), (265, .getfield 28, 3), (268, .iload_n 2, 1), (269, .aaload, 1), (270, .iconst 4, 1), (271, .iload_n 3, 1), (272, .iastore, 1), (273, .goto 130, 3), (276, .aload_n 0, 1), (277, .invokevirtual 170, 3), (280, .istore_n 2, 1), (281, .aload_n 0, 1), (282, .getfield 117, 3), (285, .ifCond .eq 6, 3), (288, .goto 115, 3), (291, .aload_n 0, 1), (292, .invokevirtual 123, 3), (295, .aload_n 0, 1), (296, .getfield 110, 3), (299, .istore_n 3, 1), (300, .aload_n 0, 1), (301, .invokevirtual 170, 3), (304, .istore 4, 2), (306, .aload_n 0, 1), (307, .getfield 117, 3), (310, .ifCond .ne 15, 3), (313, .iload_n 2, 1), (314, .iload 4, 2), (316, .if_icmp .ne 9, 3), (319, .aload_n 0, 1), (320, .iconst 2, 1), (321, .iload_n 3, 1), (322, .invokevirtual 130, 3), (325, .aload_n 0, 1), (326, .getfield 117, 3), (329, .ifCond .ne 74, 3), (332, .aload_n 0, 1), (333, .getfield 28, 3), (336, .iload_n 2, 1), (337, .aaload, 1), (338, .iconst 5, 1), (339, .iload 4, 2), (341, .iastore, 1), (342, .goto 61, 3), (345, .aload_n 0, 1), (346, .iload_n 1, 1), (347, .iconst 2, 1), (348, .if_icmp .eq 8, 3), (351, .iload_n 1, 1), (352, .iconst 5, 1), (353, .if_icmp .ne 7, 3), (356, .iconst 1, 1), (357, .goto 4, 3), (360, .iconst 0, 1), (361, .iload_n 1, 1), (362, .iconst 2, 1), (363, .if_icmp .ne 8, 3), (366, .bipush 12, 2), (368, .goto 14, 3), (371, .iload_n 1, 1), (372, .iconst 5, 1), (373, .if_icmp .ne 7, 3), (376, .iconst 4, 1), (377, .goto 5, 3), (380, .bipush 9, 2), (382, .invokevirtual 163, 3), (385, .istore_n 2, 1), (386, .aload_n 0, 1), (387, .getfield 117, 3), (390, .ifCond .ne 13, 3), (393, .aload_n 0, 1), (394, .getfield 20, 3), (397, .iload_n 1, 1), (398, .iload_n 2, 1), (399, .iastore, 1), (400, .goto 3, 3), (403, .iload_n 1, 1), (404, .iconst 2, 1), (405, .if_icmp .ge 24, 3), (408, .aload_n 0, 1), (409, .getfield 20, 3), (412, .iload_n 1, 1), (413, .dup2, 1), (414, .iaload, 1), (415, .aload_n 0, 1), (416, .getfield 117, 3), (419, .ifCond .ne 7, 3), (422, .iconst 1, 1), (423, .goto 4, 3), (426, .iconst 0, 1), (427, .iadd, 1), (428, .iastore, 1), (429, .aload_n 0, 1), (430, .bipush 59, 2), (432, .invokevirtual 173, 3), (435, .return_, 1)]
noncomputable abbrev dlX11_drawer : List (Nat × Instr × Nat) := [(0, .aload_n 0, 1), (1, .iconst 0, 1), (2, .putfield 101, 3), (5, .aload_n 0, 1), (6, .iload_n 1, 1), (7, .iconst 0, 1), (8, .aload_n 0, 1), (9, .getfield 104, 3), (12, .invokestatic 135, 3), (15, .ifCond .ne 7, 3), (18, .iconst 1, 1), (19, .goto 4, 3), (22, .iconst 0, 1), (23, .iconst 1, 1), (24, .iconst 1, 1), (25, .invokevirtual 177, 3), (28, .ifCond .eq 5, 3), (31, .iconst 0, 1), (32, .ireturn, 1), (33, .aload_n 0, 1), (34, .iload_n 1, 1), (35, .invokevirtual 181, 3), (38, .aload_n 0, 1), (39, .invokevirtual 95, 3), (42, .aload_n 0, 1), (43, .getfield 117, 3), (46, .ifCond .ne 25, 3), (49, .aload_n 0, 1), (50, .getfield 110, 3), (53, .aload_n 0, 1), (54, .getfield 107, 3), (57, .if_icmp .ge 14, 3), (60, .aload_n 0, 1), (61, .invokevirtual 184, 3), (64, .aload_n 0, 1), (65, .invokevirtual 123, 3), (68, .goto (-26), 3), (71, .aload_n 0, 1), (72, .getfield 117, 3), (75, .ifCond .eq 8, 3), (78, .aload_n 0, 1), (79, .invokevirtual 187, 3), (82, .ireturn, 1), (83, .aload_n 0, 1), (84, .iconst (-1), 1), (85, .putfield 9, 3), (88, .aload_n 0, 1), (89, .invokevirtual 98, 3), (92, .aload_n 0, 1), (93, .getfield 23, 3), (96, .iconst 0, 1), (97, .iaload, 1), (98, .ireturn, 1)]
noncomputable abbrev dlX11_lays : List (Nat × Instr × Nat) := [(0, .iconst 0, 1), (1, .istore_n 3, 1), (2, .iload_n 3, 1), (3, .iload_n 2, 1), (4, .if_icmp .ge 39, 3), (7, .iconst 0, 1), (8, .istore 4, 2), (10, .iload 4, 2), (12, .aload_n 1, 1), (13, .iload_n 3, 1), (14, .aaload, 1), (15, .arraylength, 1), (16, .if_icmp .ge 21, 3), (19, .aload_n 1, 1), (20, .iload_n 3, 1), (21, .aaload, 1), (22, .iload 4, 2), (24, .aload_n 0, 1), (25, .iload_n 3, 1), (26, .aaload, 1), (27, .iload 4, 2), (29, .iaload, 1), (30, .iastore, 1), (31, .iinc 4 1, 3), (34, .goto (-24), 3), (37, .iinc 3 1, 3), (40, .goto (-38), 3), (43, .return_, 1)]
noncomputable abbrev dlX11_copies : List (Nat × Instr × Nat) := [(0, .iconst 0, 1), (1, .istore_n 2, 1), (2, .iload_n 2, 1), (3, .bipush 14, 2), (5, .if_icmp .ge 15, 3), (8, .aload_n 1, 1), (9, .iload_n 2, 1), (10, .aload_n 0, 1), (11, .iload_n 2, 1), (12, .iaload, 1), (13, .iastore, 1), (14, .iinc 2 1, 3), (17, .goto (-15), 3), (20, .return_, 1)]
noncomputable abbrev dlX11_stands : List (Nat × Instr × Nat) := [(0, .iconst 0, 1), (1, .istore_n 1, 1), (2, .iload_n 1, 1), (3, .bipush 6, 2), (5, .if_icmp .ge 21, 3), (8, .aload_n 0, 1), (9, .getfield 23, 3), (12, .iload_n 1, 1), (13, .aload_n 0, 1), (14, .getfield 20, 3), (17, .iload_n 1, 1), (18, .iaload, 1), (19, .iastore, 1), (20, .iinc 1 1, 3), (23, .goto (-21), 3), (26, .aload_n 0, 1), (27, .getfield 28, 3), (30, .aload_n 0, 1), (31, .getfield 31, 3), (34, .aload_n 0, 1), (35, .getfield 23, 3), (38, .iconst 0, 1), (39, .iaload, 1), (40, .invokestatic 190, 3), (43, .aload_n 0, 1), (44, .getfield 34, 3), (47, .aload_n 0, 1), (48, .getfield 37, 3), (51, .aload_n 0, 1), (52, .getfield 23, 3), (55, .iconst 1, 1), (56, .iaload, 1), (57, .invokestatic 190, 3), (60, .iconst 0, 1), (61, .istore_n 1, 1), (62, .iload_n 1, 1), (63, .bipush 14, 2), (65, .if_icmp .ge 16, 3), (68, .aload_n 0, 1), (69, .getfield 61, 3), (72, .iload_n 1, 1), (73, .iconst 0, 1), (74, .iastore, 1), (75, .iinc 1 1, 3), (78, .goto (-16), 3), (81, .iconst 0, 1), (82, .istore_n 1, 1), (83, .iload_n 1, 1), (84, .bipush 8, 2), (86, .if_icmp .ge 54, 3), (89, .aload_n 0, 1), (90, .getfield 61, 3), (93, .iconst 1, 1), (94, .iload_n 1, 1), (95, .iadd, 1), (96, .iload_n 1, 1), (97, .aload_n 0, 1), (98, .getfield 23, 3), (101, .iconst 0, 1), (102, .iaload, 1), (103, .if_icmp .ge 15, 3), (106, .aload_n 0, 1), (107, .getfield 31, 3), (110, .iload_n 1, 1), (111, .aaload, 1), (112, .iconst 4, 1), (113, .iaload, 1), (114, .iconst (-1), 1), (115, .if_icmp .ne 9, 3), (118, .sipush (-1000), 3), (121, .goto 12, 3), (124, .aload_n 0, 1), (125, .getfield 31, 3), (128, .iload_n 1, 1), (129, .aaload, 1), (130, .iconst 4, 1), (131, .iaload, 1), (132, .ineg, 1), (133, .iastore, 1), (134, .iinc 1 1, 3), (137, .goto (-54), 3), (140, .aload_n 0, 1), (141, .getfield 61, 3), (144, .bipush 9, 2), (146, .aload_n 0, 1), (147, .getfield 23, 3), (150, .iconst 2, 1), (151, .iaload, 1), (152, .iastore, 1), (153, .aload_n 0, 1), (154, .iconst 0, 1), (155, .putfield 194, 3), (158, .aload_n 0, 1), (159, .iconst 0, 1), (160, .putfield 197, 3), (163, .aload_n 0, 1), (164, .iconst 0, 1), (165, .putfield 200, 3), (168, .aload_n 0, 1), (169, .iconst 0, 1), (170, .putfield 203, 3), (173, .aload_n 0, 1), (174, .iconst 0, 1), (175, .putfield 206, 3), (178, .return_, 1)]
noncomputable abbrev dlX11_notes : List (Nat × Instr × Nat) := [(0, .aload_n 0, 1), (1, .getfield 117, 3), (4, .ifCond .eq 4, 3), (7, .return_, 1), (8, .aload_n 0, 1), (9, .getfield 43, 3), (12, .aload_n 0, 1), (13, .getfield 209, 3), (16, .aaload, 1), (17, .iconst 0, 1), (18, .iload_n 1, 1), (19, .iastore, 1), (20, .aload_n 0, 1), (21, .getfield 43, 3), (24, .aload_n 0, 1), (25, .getfield 209, 3), (28, .aaload, 1), (29, .iconst 1, 1), (30, .iload_n 2, 1), (31, .iastore, 1), (32, .aload_n 0, 1), (33, .dup, 1), (34, .getfield 209, 3), (37, .iconst 1, 1), (38, .iadd, 1), (39, .putfield 209, 3), (42, .return_, 1)]
noncomputable abbrev dlX11_opens : List (Nat × Instr × Nat) := [(0, .aload_n 0, 1), (1, .getfield 117, 3), (4, .ifCond .ne 24, 3), (7, .aload_n 0, 1), (8, .getfield 160, 3), (11, .bipush 6, 2), (13, .if_icmp .ne 15, 3), (16, .aload_n 0, 1), (17, .iconst 3, 1), (18, .aload_n 0, 1), (19, .getfield 110, 3), (22, .invokevirtual 130, 3), (25, .goto 20, 3), (28, .aload_n 0, 1), (29, .getfield 117, 3), (32, .ifCond .ne 13, 3), (35, .aload_n 0, 1), (36, .dup, 1), (37, .getfield 160, 3), (40, .iconst 1, 1), (41, .iadd, 1), (42, .putfield 160, 3), (45, .aload_n 0, 1), (46, .getfield 117, 3), (49, .ifCond .ne 7, 3), (52, .iconst 1, 1), (53, .goto 4, 3), (56, .iconst 0, 1), (57, .ireturn, 1)]
noncomputable abbrev dlX11_sum : List (Nat × Instr × Nat) := [(0, .aload_n 0, 1), (1, .invokevirtual 212, 3), (4, .aload_n 0, 1), (5, .getfield 117, 3), (8, .ifCond .ne 50, 3), (11, .aload_n 0, 1), (12, .bipush 43, 2), (14, .invokevirtual 215, 3), (17, .ifCond .eq 7, 3), (20, .iconst 2, 1), (21, .goto 17, 3), (24, .aload_n 0, 1), (25, .bipush 45, 2), (27, .invokevirtual 215, 3), (30, .ifCond .eq 7, 3), (33, .iconst 3, 1), (34, .goto 4, 3), (37, .iconst (-1), 1), (38, .istore_n 1, 1), (39, .iload_n 1, 1), (40, .iconst (-1), 1), (41, .if_icmp .ne 4, 3), (44, .return_, 1), (45, .aload_n 0, 1), (46, .invokevirtual 212, 3), (49, .aload_n 0, 1), (50, .iload_n 1, 1), (51, .iconst 0, 1), (52, .invokevirtual 218, 3), (55, .goto (-51), 3), (58, .return_, 1)]
noncomputable abbrev dlX11_product : List (Nat × Instr × Nat) := [(0, .aload_n 0, 1), (1, .invokevirtual 221, 3), (4, .aload_n 0, 1), (5, .getfield 117, 3), (8, .ifCond .ne 50, 3), (11, .aload_n 0, 1), (12, .bipush 42, 2), (14, .invokevirtual 215, 3), (17, .ifCond .eq 7, 3), (20, .iconst 4, 1), (21, .goto 17, 3), (24, .aload_n 0, 1), (25, .bipush 47, 2), (27, .invokevirtual 215, 3), (30, .ifCond .eq 7, 3), (33, .iconst 5, 1), (34, .goto 4, 3), (37, .iconst (-1), 1), (38, .istore_n 1, 1), (39, .iload_n 1, 1), (40, .iconst (-1), 1), (41, .if_icmp .ne 4, 3), (44, .return_, 1), (45, .aload_n 0, 1), (46, .invokevirtual 221, 3), (49, .aload_n 0, 1), (50, .iload_n 1, 1), (51, .iconst 0, 1), (52, .invokevirtual 218, 3), (55, .goto (-51), 3), (58, .return_, 1)]
noncomputable abbrev dlX11_knownHere : List (Nat × Instr × Nat) := [(0, .aload_n 0, 1), (1, .iconst 1, 1), (2, .bipush 7, 2), (4, .iconst 5, 1), (5, .iconst 0, 1), (6, .iconst 0, 1), (7, .invokevirtual 224, 3), (10, .ifCond .eq 5, 3), (13, .iconst 0, 1), (14, .ireturn, 1), (15, .aload_n 0, 1), (16, .bipush 25, 2), (18, .iconst 5, 1), (19, .iconst 1, 1), (20, .bipush 18, 2), (22, .bipush 19, 2), (24, .invokevirtual 224, 3), (27, .ifCond .eq 5, 3), (30, .iconst 1, 1), (31, .ireturn, 1), (32, .aload_n 0, 1), (33, .bipush 23, 2), (35, .bipush 15, 2), (37, .bipush 18, 2), (39, .bipush 20, 2), (41, .bipush 8, 2), (43, .invokevirtual 224, 3), (46, .ifCond .eq 5, 3), (49, .iconst 2, 1), (50, .ireturn, 1), (51, .aload_n 0, 1), (52, .iconst 4, 1), (53, .iconst 5, 1), (54, .iconst 1, 1), (55, .iconst 4, 1), (56, .iconst 0, 1), (57, .invokevirtual 224, 3), (60, .ifCond .eq 5, 3), (63, .iconst 3, 1), (64, .ireturn, 1), (65, .aload_n 0, 1), (66, .bipush 6, 2), (68, .iconst 1, 1), (69, .iconst 3, 1), (70, .bipush 20, 2), (72, .bipush 19, 2), (74, .invokevirtual 224, 3), (77, .ifCond .eq 7, 3), (80, .iconst 4, 1), (81, .goto 4, 3), (84, .iconst (-1), 1), (85, .ireturn, 1)]
noncomputable abbrev dlX11_one : List (Nat × Instr × Nat) := [(0, .aload_n 0, 1), (1, .getfield 117, 3), (4, .ifCond .eq 4, 3), (7, .return_, 1), (8, .aload_n 0, 1), (9, .invokevirtual 123, 3), (12, .aload_n 0, 1), (13, .bipush 12, 2), (15, .iconst 5, 1), (16, .iconst 1, 1), (17, .bipush 19, 2), (19, .bipush 20, 2), (21, .invokevirtual 150, 3), (24, .ifCond .eq 8, 3), (27, .bipush 6, 2), (29, .goto 25, 3), (32, .aload_n 0, 1), (33, .bipush 13, 2), (35, .bipush 15, 2), (37, .bipush 19, 2), (39, .bipush 20, 2), (41, .iconst 0, 1), (42, .invokevirtual 150, 3), (45, .ifCond .eq 8, 3), (48, .bipush 7, 2), (50, .goto 4, 3), (53, .iconst (-1), 1), (54, .istore_n 1, 1), (55, .iload_n 1, 1), (56, .iconst (-1), 1), (57, .if_icmp .eq 58, 3), (60, .aload_n 0, 1), (61, .invokevirtual 227, 3), (64, .ifCond .ne 4, 3), (67, .return_, 1), (68, .aload_n 0, 1), (69, .invokevirtual 154, 3), (72, .aload_n 0, 1), (73, .bipush 91, 2), (75, .invokevirtual 173, 3), (78, .aload_n 0, 1), (79, .invokevirtual 231, 3), (82, .aload_n 0, 1), (83, .bipush 44, 2), (85, .invokevirtual 173, 3), (88, .aload_n 0, 1), (89, .invokevirtual 231, 3), (92, .aload_n 0, 1), (93, .bipush 93, 2), (95, .invokevirtual 173, 3), (98, .aload_n 0, 1), (99, .iload_n 1, 1), (100, .iconst 0, 1), (101, .invokevirtual 218, 3), (104, .aload_n 0, 1), (105, .dup, 1), (106, .getfield 160, 3), (109, .iconst 1, 1), (110, .isub, 1), (111, .putfield 160, 3), (114, .return_, 1), (115, .aload_n 0, 1), (116, .aload_n 0, 1), (117, .getfield 110, 3), (120, .invokevirtual 113, 3), (123, .bipush 40, 2), (125, .if_icmp .ne 42, 3), (128, .aload_n 0, 1), (129, .invokevirtual 227, 3), (132, .ifCond .ne 4, 3), (135, .return_, 1), (136, .aload_n 0, 1), (137, .dup, 1), (138, .getfield 110, 3), (141, .iconst 1, 1), (142, .iadd, 1), (143, .putfield 110, 3), (146, .aload_n 0, 1), (147, .invokevirtual 231, 3), (150, .aload_n 0, 1), (151, .bipush 41, 2), (153, .invokevirtual 173, 3), (156, .aload_n 0, 1), (157, .dup, 1), (158, .getfield 160, 3), (161, .iconst 1, 1), (162, .isub, 1), (163, .putfield 160, 3), (166, .return_, 1), (167, .aload_n 0, 1), (168, .invokevirtual 234, 3), (171, .istore_n 2, 1), (172, .iload_n 2, 1), (173, .iconst (-1), 1), (174, .if_icmp .eq 12, 3), (177, .aload_n 0, 1), (178, .iconst 1, 1), (179, .iload_n 2, 1), (180, .invokevirtual 218, 3), (183, .goto 16, 3), (186, .aload_n 0, 1), (187, .iconst 0, 1), (188, .aload_n 0, 1), (189, .iconst 0, 1), (190, .sipush 999, 3), (193, .invokevirtual 163, 3), (196, .invokevirtual 218, 3), (199, .return_, 1)]
noncomputable abbrev dlX11_law : List (Nat × Instr × Nat) := [(0, .aload_n 0, 1), (1, .iconst 0, 1), (2, .putfield 101, 3), (5, .aload_n 0, 1), (6, .iload_n 1, 1), (7, .iconst 0, 1), (8, .aload_n 0, 1), (9, .getfield 104, 3), (12, .invokestatic 135, 3), (15, .ifCond .eq 10, 3), (18, .iload_n 1, 1), (19, .sipush 150, 3), (22, .if_icmp .le 7, 3), (25, .iconst 1, 1), (26, .goto 4, 3), (29, .iconst 0, 1), (30, .iconst 1, 1), (31, .iconst 1, 1), (32, .invokevirtual 177, 3), (35, .ifCond .eq 5, 3), (38, .iconst 0, 1), (39, .ireturn, 1), (40, .aload_n 0, 1), (41, .iload_n 1, 1), (42, .invokevirtual 181, 3), (45, .aload_n 0, 1), (46, .iconst 0, 1), (47, .putfield 209, 3), (50, .aload_n 0, 1), (51, .invokevirtual 231, 3), (54, .aload_n 0, 1), (55, .invokevirtual 123, 3), (58, .aload_n 0, 1), (59, .getfield 117, 3), (62, .ifCond .ne 23, 3), (65, .aload_n 0, 1), (66, .getfield 110, 3), (69, .aload_n 0, 1), (70, .getfield 107, 3), (73, .if_icmp .ge 12, 3), (76, .aload_n 0, 1), (77, .iconst 1, 1), (78, .aload_n 0, 1), (79, .getfield 110, 3), (82, .invokevirtual 130, 3), (85, .aload_n 0, 1), (86, .getfield 117, 3), (89, .ifCond .eq 8, 3), (92, .aload_n 0, 1), (93, .invokevirtual 187, 3), (96, .ireturn, 1), (97, .aload_n 0, 1), (98, .iconst (-1), 1), (99, .putfield 9, 3), (102, .aload_n 0, 1), (103, .aload_n 0, 1), (104, .getfield 209, 3), (107, .putfield 194, 3), (110, .aload_n 0, 1), (111, .getfield 43, 3), (114, .aload_n 0, 1), (115, .getfield 40, 3), (118, .aload_n 0, 1), (119, .getfield 194, 3), (122, .invokestatic 190, 3), (125, .iconst 1, 1), (126, .ireturn, 1)]
noncomputable abbrev dlX11_by : List (Nat × Instr × Nat) := [(0, .iload_n 0, 1), (1, .tableswitch 75 2 6 #[35, 39, 43, 47, 69], 35), (36, .iload_n 1, 1), (37, .iload_n 2, 1), (38, .iadd, 1), (39, .ireturn, 1), (40, .iload_n 1, 1), (41, .iload_n 2, 1), (42, .isub, 1), (43, .ireturn, 1), (44, .iload_n 1, 1), (45, .iload_n 2, 1), (46, .imul, 1), (47, .ireturn, 1), (48, .iload_n 2, 1), (49, .ifCond .ne 7, 3), (52, .iconst 0, 1), (53, .goto 16, 3), (56, .iload_n 2, 1), (57, .iconst (-1), 1), (58, .if_icmp .ne 8, 3), (61, .iload_n 1, 1), (62, .ineg, 1), (63, .goto 6, 3), (66, .iload_n 1, 1), (67, .iload_n 2, 1), (68, .idiv, 1), (69, .ireturn, 1), (70, .iload_n 1, 1), (71, .iload_n 2, 1), (72, .invokestatic 237, 3), (75, .ireturn, 1), (76, .iload_n 1, 1), (77, .iload_n 2, 1), (78, .invokestatic 240, 3), (81, .ireturn, 1)]
noncomputable abbrev dlX11_byLaw : List (Nat × Instr × Nat) := [(0, .aload_n 0, 1), (1, .getfield 194, 3), (4, .ifCond .ne 17, 3), (7, .aload_n 0, 1), (8, .getfield 55, 3), (11, .iconst 0, 1), (12, .iaload, 1), (13, .aload_n 0, 1), (14, .getfield 55, 3), (17, .iconst 0, 1), (18, .iaload, 1), (19, .iadd, 1), (20, .ireturn, 1), (21, .iconst 0, 1), (22, .istore_n 1, 1), (23, .iconst 0, 1), (24, .istore_n 2, 1), (25, .iload_n 2, 1), (26, .aload_n 0, 1), (27, .getfield 194, 3), (30, .if_icmp .ge 104, 3), (33, .aload_n 0, 1), (34, .getfield 40, 3), (37, .iload_n 2, 1), (38, .aaload, 1), (39, .iconst 0, 1), (40, .iaload, 1), (41, .iconst 2, 1), (42, .if_icmp .ge 50, 3), (45, .aload_n 0, 1), (46, .getfield 52, 3), (49, .iload_n 1, 1), (50, .aload_n 0, 1), (51, .getfield 40, 3), (54, .iload_n 2, 1), (55, .aaload, 1), (56, .iconst 0, 1), (57, .iaload, 1), (58, .ifCond .ne 14, 3), (61, .aload_n 0, 1), (62, .getfield 40, 3), (65, .iload_n 2, 1), (66, .aaload, 1), (67, .iconst 1, 1), (68, .iaload, 1), (69, .goto 16, 3), (72, .aload_n 0, 1), (73, .getfield 55, 3), (76, .aload_n 0, 1), (77, .getfield 40, 3), (80, .iload_n 2, 1), (81, .aaload, 1), (82, .iconst 1, 1), (83, .iaload, 1), (84, .iaload, 1), (85, .iastore, 1), (86, .iinc 1 1, 3), (89, .goto 39, 3), (92, .iinc 1 (-1), 3), (95, .aload_n 0, 1), (96, .getfield 52, 3), (99, .iload_n 1, 1), (100, .iconst 1, 1), (101, .isub, 1), (102, .aload_n 0, 1), (103, .getfield 40, 3), (106, .iload_n 2, 1), (107, .aaload, 1), (108, .iconst 0, 1), (109, .iaload, 1), (110, .aload_n 0, 1), (111, .getfield 52, 3), (114, .iload_n 1, 1), (115, .iconst 1, 1), (116, .isub, 1), (117, .iaload, 1), (118, .aload_n 0, 1), (119, .getfield 52, 3), (122, .iload_n 1, 1), (123, .iaload, 1), (124, .invokestatic 243, 3), (127, .iastore, 1), (128, .iinc 2 1, 3), (131, .goto (-106), 3), (134, .aload_n 0, 1), (135, .getfield 52, 3), (138, .iconst 0, 1), (139, .iaload, 1), (140, .ireturn, 1)]
noncomputable abbrev dlX11_stepHere : List (Nat × Instr × Nat) := [(0, .aload_n 0, 1), (1, .bipush 23, 2), (3, .bipush 18, 2), (5, .bipush 9, 2), (7, .bipush 20, 2), (9, .iconst 5, 1), (10, .invokevirtual 150, 3), (13, .ifCond .eq 5, 3), (16, .iconst 0, 1), (17, .ireturn, 1), (18, .aload_n 0, 1), (19, .bipush 18, 2), (21, .iconst 5, 1), (22, .bipush 14, 2), (24, .iconst 5, 1), (25, .bipush 23, 2), (27, .invokevirtual 150, 3), (30, .ifCond .eq 5, 3), (33, .iconst 1, 1), (34, .ireturn, 1), (35, .aload_n 0, 1), (36, .iconst 4, 1), (37, .bipush 9, 2), (39, .iconst 5, 1), (40, .iconst 0, 1), (41, .iconst 0, 1), (42, .invokevirtual 150, 3), (45, .ifCond .eq 5, 3), (48, .iconst 2, 1), (49, .ireturn, 1), (50, .aload_n 0, 1), (51, .bipush 23, 2), (53, .iconst 5, 1), (54, .iconst 5, 1), (55, .bipush 11, 2), (57, .iconst 0, 1), (58, .invokevirtual 150, 3), (61, .ifCond .eq 5, 3), (64, .iconst 3, 1), (65, .ireturn, 1), (66, .aload_n 0, 1), (67, .iconst 1, 1), (68, .bipush 7, 2), (70, .iconst 1, 1), (71, .bipush 9, 2), (73, .bipush 14, 2), (75, .invokevirtual 150, 3), (78, .ifCond .eq 7, 3), (81, .iconst 4, 1), (82, .goto 4, 3), (85, .iconst (-1), 1), (86, .ireturn, 1)]
noncomputable abbrev dlX11_readsStep : List (Nat × Instr × Nat) := [(0, .aload_n 0, 1), (1, .invokevirtual 247, 3), (4, .istore_n 1, 1), (5, .iload_n 1, 1), (6, .iconst (-1), 1), (7, .if_icmp .ne 12, 3), (10, .aload_n 0, 1), (11, .iconst 1, 1), (12, .aload_n 0, 1), (13, .getfield 110, 3), (16, .invokevirtual 130, 3), (19, .iload_n 1, 1), (20, .iconst 4, 1), (21, .if_icmp .ne 11, 3), (24, .aload_n 0, 1), (25, .invokevirtual 227, 3), (28, .ifCond .ne 4, 3), (31, .return_, 1), (32, .aload_n 0, 1), (33, .getfield 117, 3), (36, .ifCond .eq 4, 3), (39, .return_, 1), (40, .aload_n 0, 1), (41, .invokevirtual 154, 3), (44, .aload_n 0, 1), (45, .getfield 58, 3), (48, .aload_n 0, 1), (49, .getfield 250, 3), (52, .aaload, 1), (53, .astore_n 2, 1), (54, .aload_n 0, 1), (55, .dup, 1), (56, .getfield 250, 3), (59, .iconst 1, 1), (60, .iadd, 1), (61, .putfield 250, 3), (64, .aload_n 2, 1), (65, .iconst 0, 1), (66, .iload_n 1, 1), (67, .iastore, 1), (68, .iload_n 1, 1), (69, .iconst 3, 1), (70, .if_icmp .ge 19, 3), (73, .aload_n 2, 1), (74, .iconst 1, 1), (75, .aload_n 0, 1), (76, .iconst 0, 1), (77, .aload_n 0, 1), (78, .getfield 23, 3), (81, .iconst 0, 1), (82, .iaload, 1), (83, .iconst 1, 1), (84, .isub, 1), (85, .invokevirtual 163, 3), (88, .iastore, 1), (89, .iload_n 1, 1), (90, .iconst 4, 1), (91, .if_icmp .ne 70, 3), (94, .aload_n 2, 1), (95, .iconst 1, 1), (96, .aload_n 0, 1), (97, .iconst 0, 1), (98, .bipush 20, 2), (100, .invokevirtual 163, 3), (103, .iastore, 1), (104, .aload_n 0, 1), (105, .bipush 91, 2), (107, .invokevirtual 173, 3), (110, .aload_n 0, 1), (111, .invokevirtual 123, 3), (114, .aload_n 0, 1), (115, .getfield 117, 3), (118, .ifCond .ne 27, 3), (121, .aload_n 0, 1), (122, .aload_n 0, 1), (123, .getfield 110, 3), (126, .invokevirtual 113, 3), (129, .bipush 93, 2), (131, .if_icmp .eq 14, 3), (134, .aload_n 0, 1), (135, .invokevirtual 253, 3), (138, .aload_n 0, 1), (139, .invokevirtual 123, 3), (142, .goto (-28), 3), (145, .aload_n 0, 1), (146, .bipush 93, 2), (148, .invokevirtual 173, 3), (151, .aload_n 0, 1), (152, .dup, 1), (153, .getfield 160, 3), (156, .iconst 1, 1), (157, .isub, 1), (158, .putfield 160, 3), (161, .aload_n 2, 1), (162, .iconst 2, 1), (163, .aload_n 0, 1), (164, .getfield 250, 3), (167, .iastore, 1), (168, .aload_n 0, 1), (169, .bipush 59, 2), (171, .invokevirtual 173, 3), (174, .return_, 1)]
noncomputable abbrev dlX11_page : List (Nat × Instr × Nat) := [(0, .aload_n 0, 1), (1, .iconst 0, 1), (2, .putfield 101, 3), (5, .aload_n 0, 1), (6, .iload_n 1, 1), (7, .iconst 0, 1), (8, .aload_n 0, 1), (9, .getfield 104, 3), (12, .invokestatic 135, 3), (15, .ifCond .eq 9, 3), (18, .iload_n 1, 1), (19, .bipush 60, 2), (21, .if_icmp .le 7, 3), (24, .iconst 1, 1), (25, .goto 4, 3), (28, .iconst 0, 1), (29, .iconst 1, 1), (30, .iconst 1, 1), (31, .invokevirtual 177, 3), (34, .ifCond .eq 5, 3), (37, .iconst 0, 1), (38, .ireturn, 1), (39, .aload_n 0, 1), (40, .iload_n 1, 1), (41, .invokevirtual 181, 3), (44, .iconst 0, 1), (45, .istore_n 2, 1), (46, .iconst 0, 1), (47, .istore_n 3, 1), (48, .aload_n 0, 1), (49, .getfield 117, 3), (52, .ifCond .ne 109, 3), (55, .aload_n 0, 1), (56, .getfield 110, 3), (59, .aload_n 0, 1), (60, .getfield 107, 3), (63, .if_icmp .ge 98, 3), (66, .aload_n 0, 1), (67, .getfield 110, 3), (70, .istore 4, 2), (72, .aload_n 0, 1), (73, .iconst 0, 1), (74, .iconst 5, 1), (75, .invokevirtual 163, 3), (78, .istore 5, 2), (80, .aload_n 0, 1), (81, .getfield 117, 3), (84, .ifCond .ne 19, 3), (87, .iload_n 3, 1), (88, .iload 5, 2), (90, .invokestatic 256, 3), (93, .ifCond .eq 10, 3), (96, .aload_n 0, 1), (97, .iconst 2, 1), (98, .iload 4, 2), (100, .invokevirtual 130, 3), (103, .aload_n 0, 1), (104, .iconst 0, 1), (105, .iconst 1, 1), (106, .invokevirtual 163, 3), (109, .istore 6, 2), (111, .aload_n 0, 1), (112, .bipush 59, 2), (114, .invokevirtual 173, 3), (117, .aload_n 0, 1), (118, .getfield 117, 3), (121, .ifCond .ne 33, 3), (124, .iload_n 3, 1), (125, .iconst 1, 1), (126, .iload 5, 2), (128, .ishl, 1), (129, .ior, 1), (130, .istore_n 3, 1), (131, .aload_n 0, 1), (132, .getfield 49, 3), (135, .iload_n 2, 1), (136, .aaload, 1), (137, .iconst 0, 1), (138, .iload 5, 2), (140, .iastore, 1), (141, .aload_n 0, 1), (142, .getfield 49, 3), (145, .iload_n 2, 1), (146, .aaload, 1), (147, .iconst 1, 1), (148, .iload 6, 2), (150, .iastore, 1), (151, .iinc 2 1, 3), (154, .aload_n 0, 1), (155, .invokevirtual 123, 3), (158, .goto (-110), 3), (161, .aload_n 0, 1), (162, .getfield 117, 3), (165, .ifCond .eq 8, 3), (168, .aload_n 0, 1), (169, .invokevirtual 187, 3), (172, .ireturn, 1), (173, .aload_n 0, 1), (174, .iconst (-1), 1), (175, .putfield 9, 3), (178, .aload_n 0, 1), (179, .iload_n 2, 1), (180, .putfield 197, 3), (183, .aload_n 0, 1), (184, .getfield 49, 3), (187, .aload_n 0, 1), (188, .getfield 46, 3), (191, .iload_n 2, 1), (192, .invokestatic 190, 3), (195, .iload_n 2, 1), (196, .ireturn, 1)]
noncomputable abbrev dlX11_fault : List (Nat × Instr × Nat) := [(0, .aload_n 0, 1), (1, .iconst 0, 1), (2, .putfield 101, 3), (5, .aload_n 0, 1), (6, .getfield 9, 3), (9, .ireturn, 1)]
noncomputable abbrev dlX11_hasPiece : List (Nat × Instr × Nat) := [(0, .aload_n 0, 1), (1, .iconst 1, 1), (2, .iload_n 1, 1), (3, .iadd, 1), (4, .iaload, 1), (5, .sipush (-1000), 3), (8, .if_icmp .eq 7, 3), (11, .iconst 1, 1), (12, .goto 4, 3), (15, .iconst 0, 1), (16, .ireturn, 1)]
noncomputable abbrev dlX11_changesOf : List (Nat × Instr × Nat) := [(0, .iconst 0, 1), (1, .istore 4, 2), (3, .iconst 0, 1), (4, .istore 5, 2), (6, .iload 5, 2), (8, .aload_n 0, 1), (9, .getfield 23, 3), (12, .iconst 1, 1), (13, .iaload, 1), (14, .if_icmp .ge 58, 3), (17, .iload 4, 2), (19, .aload_n 0, 1), (20, .getfield 37, 3), (23, .iload 5, 2), (25, .aaload, 1), (26, .iconst 0, 1), (27, .iaload, 1), (28, .iload_n 1, 1), (29, .if_icmp .ne 33, 3), (32, .aload_n 0, 1), (33, .getfield 37, 3), (36, .iload 5, 2), (38, .aaload, 1), (39, .iconst 2, 1), (40, .iaload, 1), (41, .iload_n 2, 1), (42, .if_icmp .le 20, 3), (45, .aload_n 0, 1), (46, .getfield 37, 3), (49, .iload 5, 2), (51, .aaload, 1), (52, .iconst 2, 1), (53, .iaload, 1), (54, .iload_n 3, 1), (55, .if_icmp .gt 7, 3), (58, .iconst 1, 1), (59, .goto 4, 3), (62, .iconst 0, 1), (63, .iadd, 1), (64, .istore 4, 2), (66, .iinc 5 1, 3), (69, .goto (-63), 3), (72, .iload 4, 2), (74, .ireturn, 1)]
noncomputable abbrev dlX11_factsAt : List (Nat × Instr × Nat) := [(0, .iconst 0, 1), (1, .istore_n 3, 1), (2, .iconst 0, 1), (3, .istore 4, 2), (5, .iload 4, 2), (7, .aload_n 0, 1), (8, .getfield 23, 3), (11, .iconst 1, 1), (12, .iaload, 1), (13, .if_icmp .ge 53, 3), (16, .iload_n 3, 1), (17, .aload_n 0, 1), (18, .getfield 37, 3), (21, .iload 4, 2), (23, .aaload, 1), (24, .iconst 0, 1), (25, .iaload, 1), (26, .iload_n 1, 1), (27, .if_icmp .ne 30, 3), (30, .aload_n 0, 1), (31, .getfield 37, 3), (34, .iload 4, 2), (36, .aaload, 1), (37, .iconst 2, 1), (38, .iaload, 1), (39, .iload_n 2, 1), (40, .if_icmp .gt 17, 3), (43, .iconst 1, 1), (44, .aload_n 0, 1), (45, .getfield 37, 3), (48, .iload 4, 2), (50, .aaload, 1), (51, .iconst 1, 1), (52, .iaload, 1), (53, .ishl, 1), (54, .goto 4, 3), (57, .iconst 0, 1), (58, .ixor, 1), (59, .istore_n 3, 1), (60, .iinc 4 1, 3), (63, .goto (-58), 3), (66, .iload_n 3, 1), (67, .ireturn, 1)]
noncomputable abbrev dlX11_wrongBy : List (Nat × Instr × Nat) := [(0, .aload_n 0, 1), (1, .getfield 55, 3), (4, .iconst 0, 1), (5, .iload_n 1, 1), (6, .iastore, 1), (7, .aload_n 0, 1), (8, .getfield 55, 3), (11, .iconst 1, 1), (12, .iload_n 2, 1), (13, .iastore, 1), (14, .aload_n 0, 1), (15, .getfield 55, 3), (18, .iconst 2, 1), (19, .iload_n 3, 1), (20, .iastore, 1), (21, .aload_n 0, 1), (22, .getfield 55, 3), (25, .iconst 3, 1), (26, .iload 4, 2), (28, .iastore, 1), (29, .aload_n 0, 1), (30, .getfield 55, 3), (33, .iconst 4, 1), (34, .iload 5, 2), (36, .iastore, 1), (37, .iconst 0, 1), (38, .bipush 64, 2), (40, .aload_n 0, 1), (41, .invokevirtual 260, 3), (44, .invokestatic 237, 3), (47, .invokestatic 240, 3), (50, .ireturn, 1)]
noncomputable abbrev dlX11_yearsOf : List (Nat × Instr × Nat) := [(0, .aload_n 0, 1), (1, .getfield 31, 3), (4, .iload_n 1, 1), (5, .aaload, 1), (6, .iconst 0, 1), (7, .iaload, 1), (8, .iload_n 2, 1), (9, .bipush 52, 2), (11, .idiv, 1), (12, .iadd, 1), (13, .ireturn, 1)]
noncomputable abbrev dlX11_isByDead : List (Nat × Instr × Nat) := [(0, .aload_n 0, 1), (1, .getfield 31, 3), (4, .iload_n 2, 1), (5, .aaload, 1), (6, .iconst 5, 1), (7, .iaload, 1), (8, .iconst (-1), 1), (9, .if_icmp .eq 24, 3), (12, .aload_n 1, 1), (13, .iconst 0, 1), (14, .iaload, 1), (15, .aload_n 0, 1), (16, .getfield 31, 3), (19, .iload_n 2, 1), (20, .aaload, 1), (21, .iconst 5, 1), (22, .iaload, 1), (23, .invokestatic 256, 3), (26, .ifCond .eq 7, 3), (29, .iconst 1, 1), (30, .goto 4, 3), (33, .iconst 0, 1), (34, .ireturn, 1)]
noncomputable abbrev dlX11_wrongIn : List (Nat × Instr × Nat) := [(0, .aload_n 0, 1), (1, .iload 4, 2), (3, .iload_n 3, 1), (4, .isub, 1), (5, .aload_n 0, 1), (6, .iload_n 2, 1), (7, .iload 4, 2), (9, .invokevirtual 263, 3), (12, .aload_n 0, 1), (13, .getfield 31, 3), (16, .iload_n 2, 1), (17, .aaload, 1), (18, .iconst 2, 1), (19, .iaload, 1), (20, .aload_n 0, 1), (21, .aload_n 1, 1), (22, .iload_n 2, 1), (23, .invokevirtual 266, 3), (26, .aload_n 0, 1), (27, .iload_n 2, 1), (28, .iload_n 3, 1), (29, .iload 4, 2), (31, .invokevirtual 270, 3), (34, .invokevirtual 273, 3), (37, .ireturn, 1)]
noncomputable abbrev dlX11_costIn : List (Nat × Instr × Nat) := [(0, .iload_n 3, 1), (1, .sipush (-1000), 3), (4, .if_icmp .ne 24, 3), (7, .bipush 64, 2), (9, .aload_n 0, 1), (10, .getfield 23, 3), (13, .iconst 3, 1), (14, .iaload, 1), (15, .imul, 1), (16, .aload_n 0, 1), (17, .getfield 31, 3), (20, .iload_n 2, 1), (21, .aaload, 1), (22, .iconst 2, 1), (23, .iaload, 1), (24, .imul, 1), (25, .goto 28, 3), (28, .aload_n 0, 1), (29, .getfield 23, 3), (32, .iconst 4, 1), (33, .iaload, 1), (34, .aload_n 0, 1), (35, .getfield 31, 3), (38, .iload_n 2, 1), (39, .aaload, 1), (40, .iconst 2, 1), (41, .iaload, 1), (42, .imul, 1), (43, .aload_n 0, 1), (44, .aload_n 1, 1), (45, .iload_n 2, 1), (46, .iload_n 3, 1), (47, .iload 4, 2), (49, .invokevirtual 276, 3), (52, .imul, 1), (53, .ireturn, 1)]
noncomputable abbrev dlX11_costOf : List (Nat × Instr × Nat) := [(0, .aload_n 1, 1), (1, .iconst 0, 1), (2, .iaload, 1), (3, .iload_n 2, 1), (4, .invokestatic 256, 3), (7, .ifCond .eq 7, 3), (10, .iconst 0, 1), (11, .goto 18, 3), (14, .aload_n 0, 1), (15, .aload_n 1, 1), (16, .iload_n 2, 1), (17, .aload_n 1, 1), (18, .iconst 1, 1), (19, .iload_n 2, 1), (20, .iadd, 1), (21, .iaload, 1), (22, .aload_n 1, 1), (23, .bipush 10, 2), (25, .iaload, 1), (26, .invokevirtual 280, 3), (29, .ireturn, 1)]
noncomputable abbrev dlX11_renewHours : List (Nat × Instr × Nat) := [(0, .iconst 1, 1), (1, .aload_n 0, 1), (2, .getfield 31, 3), (5, .iload_n 1, 1), (6, .aaload, 1), (7, .iconst 3, 1), (8, .iaload, 1), (9, .aload_n 0, 1), (10, .getfield 23, 3), (13, .iconst 5, 1), (14, .iaload, 1), (15, .idiv, 1), (16, .invokestatic 240, 3), (19, .ireturn, 1)]
noncomputable abbrev dlX11_hoursFor : List (Nat × Instr × Nat) := [(0, .aload_n 1, 1), (1, .iload_n 2, 1), (2, .invokestatic 283, 3), (5, .ifCond .eq 11, 3), (8, .aload_n 0, 1), (9, .iload_n 2, 1), (10, .invokevirtual 287, 3), (13, .goto 11, 3), (16, .aload_n 0, 1), (17, .getfield 31, 3), (20, .iload_n 2, 1), (21, .aaload, 1), (22, .iconst 3, 1), (23, .iaload, 1), (24, .ireturn, 1)]
noncomputable abbrev dlX11_mayWrite : List (Nat × Instr × Nat) := [(0, .aload_n 1, 1), (1, .iconst 0, 1), (2, .iaload, 1), (3, .iload_n 2, 1), (4, .invokestatic 256, 3), (7, .ifCond .ne 19, 3), (10, .aload_n 1, 1), (11, .iconst 1, 1), (12, .iload_n 2, 1), (13, .iadd, 1), (14, .iaload, 1), (15, .aload_n 1, 1), (16, .bipush 10, 2), (18, .iaload, 1), (19, .if_icmp .eq 7, 3), (22, .iconst 1, 1), (23, .goto 4, 3), (26, .iconst 0, 1), (27, .ireturn, 1)]
noncomputable abbrev dlX11_writes : List (Nat × Instr × Nat) := [(0, .aload_n 1, 1), (1, .bipush 9, 2), (3, .dup2, 1), (4, .iaload, 1), (5, .aload_n 0, 1), (6, .aload_n 1, 1), (7, .iload_n 2, 1), (8, .invokevirtual 290, 3), (11, .isub, 1), (12, .iastore, 1), (13, .aload_n 1, 1), (14, .iconst 1, 1), (15, .iload_n 2, 1), (16, .iadd, 1), (17, .aload_n 1, 1), (18, .bipush 10, 2), (20, .iaload, 1), (21, .iastore, 1), (22, .return_, 1)]
noncomputable abbrev dlX11_dies : List (Nat × Instr × Nat) := [(0, .aload_n 0, 1), (1, .aload_n 1, 1), (2, .iload_n 2, 1), (3, .invokevirtual 293, 3), (6, .istore_n 3, 1), (7, .aload_n 1, 1), (8, .bipush 13, 2), (10, .dup2, 1), (11, .iaload, 1), (12, .iload_n 3, 1), (13, .iadd, 1), (14, .iastore, 1), (15, .aload_n 1, 1), (16, .iload_n 2, 1), (17, .invokestatic 283, 3), (20, .ifCond .eq 14, 3), (23, .aload_n 1, 1), (24, .bipush 12, 2), (26, .dup2, 1), (27, .iaload, 1), (28, .iconst 1, 1), (29, .iadd, 1), (30, .iastore, 1), (31, .goto 25, 3), (34, .aload_n 1, 1), (35, .bipush 11, 2), (37, .dup2, 1), (38, .iaload, 1), (39, .iconst 1, 1), (40, .iadd, 1), (41, .iastore, 1), (42, .aload_n 1, 1), (43, .bipush 9, 2), (45, .iconst 0, 1), (46, .aload_n 1, 1), (47, .bipush 9, 2), (49, .iaload, 1), (50, .iconst 2, 1), (51, .isub, 1), (52, .invokestatic 240, 3), (55, .iastore, 1), (56, .aload_n 1, 1), (57, .iconst 0, 1), (58, .dup2, 1), (59, .iaload, 1), (60, .iconst 1, 1), (61, .iload_n 2, 1), (62, .ishl, 1), (63, .ior, 1), (64, .iastore, 1), (65, .aload_n 1, 1), (66, .iconst 1, 1), (67, .iload_n 2, 1), (68, .iadd, 1), (69, .sipush (-1000), 3), (72, .iastore, 1), (73, .return_, 1)]
noncomputable abbrev dlX11_weekEnds : List (Nat × Instr × Nat) := [(0, .aload_n 1, 1), (1, .bipush 10, 2), (3, .iaload, 1), (4, .sipush 200, 3), (7, .if_icmp .ne 5, 3), (10, .iconst 0, 1), (11, .ireturn, 1), (12, .aload_n 1, 1), (13, .bipush 10, 2), (15, .dup2, 1), (16, .iaload, 1), (17, .iconst 1, 1), (18, .iadd, 1), (19, .iastore, 1), (20, .aload_n 1, 1), (21, .bipush 9, 2), (23, .aload_n 0, 1), (24, .getfield 23, 3), (27, .iconst 2, 1), (28, .iaload, 1), (29, .iastore, 1), (30, .iconst 1, 1), (31, .ireturn, 1)]
noncomputable abbrev dlX11_does : List (Nat × Instr × Nat) := [(0, .aload_n 2, 1), (1, .iconst 1, 1), (2, .iaload, 1), (3, .istore_n 3, 1), (4, .aload_n 2, 1), (5, .iconst 0, 1), (6, .iaload, 1), (7, .tableswitch 97 0 2 #[25, 25, 77], 25), (32, .aload_n 0, 1), (33, .aload_n 1, 1), (34, .iload_n 3, 1), (35, .invokevirtual 296, 3), (38, .ifCond .eq 36, 3), (41, .aload_n 1, 1), (42, .iload_n 3, 1), (43, .invokestatic 283, 3), (46, .aload_n 2, 1), (47, .iconst 0, 1), (48, .iaload, 1), (49, .iconst 1, 1), (50, .if_icmp .ne 7, 3), (53, .iconst 1, 1), (54, .goto 4, 3), (57, .iconst 0, 1), (58, .if_icmp .ne 16, 3), (61, .aload_n 0, 1), (62, .aload_n 1, 1), (63, .iload_n 3, 1), (64, .invokevirtual 290, 3), (67, .aload_n 1, 1), (68, .bipush 9, 2), (70, .iaload, 1), (71, .if_icmp .le 5, 3), (74, .iconst 0, 1), (75, .ireturn, 1), (76, .aload_n 0, 1), (77, .aload_n 1, 1), (78, .iload_n 3, 1), (79, .invokevirtual 299, 3), (82, .iconst 1, 1), (83, .ireturn, 1), (84, .aload_n 1, 1), (85, .iconst 0, 1), (86, .iaload, 1), (87, .iload_n 3, 1), (88, .invokestatic 256, 3), (91, .ifCond .eq 5, 3), (94, .iconst 0, 1), (95, .ireturn, 1), (96, .aload_n 0, 1), (97, .aload_n 1, 1), (98, .iload_n 3, 1), (99, .invokevirtual 303, 3), (102, .iconst 1, 1), (103, .ireturn, 1), (104, .aload_n 0, 1), (105, .aload_n 1, 1), (106, .invokevirtual 306, 3), (109, .ireturn, 1)]
noncomputable abbrev dlX11_goes : List (Nat × Instr × Nat) := [(0, .iload_n 1, 1), (1, .istore_n 3, 1), (2, .iload_n 3, 1), (3, .iload_n 2, 1), (4, .if_icmp .ge 151, 3), (7, .aload_n 0, 1), (8, .getfield 310, 3), (11, .sipush 200, 3), (14, .if_icmp .ge 141, 3), (17, .aload_n 0, 1), (18, .dup, 1), (19, .getfield 310, 3), (22, .iconst 1, 1), (23, .iadd, 1), (24, .putfield 310, 3), (27, .aload_n 0, 1), (28, .getfield 58, 3), (31, .iload_n 3, 1), (32, .aaload, 1), (33, .iconst 0, 1), (34, .iaload, 1), (35, .iconst 4, 1), (36, .if_icmp .ne 53, 3), (39, .iconst 0, 1), (40, .istore 4, 2), (42, .iload 4, 2), (44, .aload_n 0, 1), (45, .getfield 58, 3), (48, .iload_n 3, 1), (49, .aaload, 1), (50, .iconst 1, 1), (51, .iaload, 1), (52, .if_icmp .ge 34, 3), (55, .aload_n 0, 1), (56, .getfield 310, 3), (59, .sipush 200, 3), (62, .if_icmp .ge 24, 3), (65, .aload_n 0, 1), (66, .iload_n 3, 1), (67, .iconst 1, 1), (68, .iadd, 1), (69, .aload_n 0, 1), (70, .getfield 58, 3), (73, .iload_n 3, 1), (74, .aaload, 1), (75, .iconst 2, 1), (76, .iaload, 1), (77, .invokevirtual 313, 3), (80, .iinc 4 1, 3), (83, .goto (-41), 3), (86, .goto 57, 3), (89, .aload_n 0, 1), (90, .aload_n 0, 1), (91, .getfield 61, 3), (94, .aload_n 0, 1), (95, .getfield 58, 3), (98, .iload_n 3, 1), (99, .aaload, 1), (100, .invokevirtual 316, 3), (103, .istore 4, 2), (105, .aload_n 0, 1), (106, .dup, 1), (107, .getfield 320, 3), (110, .iload 4, 2), (112, .ifCond .eq 7, 3), (115, .iconst 1, 1), (116, .goto 4, 3), (119, .iconst 0, 1), (120, .iadd, 1), (121, .putfield 320, 3), (124, .aload_n 0, 1), (125, .dup, 1), (126, .getfield 203, 3), (129, .iload 4, 2), (131, .ifCond .eq 7, 3), (134, .iconst 0, 1), (135, .goto 4, 3), (138, .iconst 1, 1), (139, .iadd, 1), (140, .putfield 203, 3), (143, .aload_n 0, 1), (144, .getfield 58, 3), (147, .iload_n 3, 1), (148, .aaload, 1), (149, .iconst 2, 1), (150, .iaload, 1), (151, .istore_n 3, 1), (152, .goto (-150), 3), (155, .return_, 1)]
noncomputable abbrev dlX11_work : List (Nat × Instr × Nat) := [(0, .aload_n 0, 1), (1, .iconst 0, 1), (2, .putfield 101, 3), (5, .aload_n 0, 1), (6, .iload_n 1, 1), (7, .iconst 0, 1), (8, .aload_n 0, 1), (9, .getfield 104, 3), (12, .invokestatic 135, 3), (15, .ifCond .eq 10, 3), (18, .iload_n 1, 1), (19, .sipush 150, 3), (22, .if_icmp .le 7, 3), (25, .iconst 1, 1), (26, .goto 4, 3), (29, .iconst 0, 1), (30, .iconst 1, 1), (31, .iconst 1, 1), (32, .invokevirtual 177, 3), (35, .ifCond .eq 5, 3), (38, .iconst 0, 1), (39, .ireturn, 1), (40, .aload_n 0, 1), (41, .getfield 200, 3), (44, .bipush 16, 2), (46, .if_icmp .ne 16, 3), (49, .aload_n 0, 1), (50, .iconst 0, 1), (51, .putfield 104, 3), (54, .aload_n 0, 1), (55, .iconst (-1), 1), (56, .putfield 9, 3), (59, .bipush (-20), 2), (61, .ireturn, 1), (62, .aload_n 0, 1), (63, .iload_n 1, 1), (64, .invokevirtual 181, 3), (67, .aload_n 0, 1), (68, .iconst 0, 1), (69, .putfield 250, 3), (72, .aload_n 0, 1), (73, .getfield 117, 3), (76, .ifCond .ne 25, 3), (79, .aload_n 0, 1), (80, .getfield 110, 3), (83, .aload_n 0, 1), (84, .getfield 107, 3), (87, .if_icmp .ge 14, 3), (90, .aload_n 0, 1), (91, .invokevirtual 253, 3), (94, .aload_n 0, 1), (95, .invokevirtual 123, 3), (98, .goto (-26), 3), (101, .aload_n 0, 1), (102, .getfield 117, 3), (105, .ifCond .eq 8, 3), (108, .aload_n 0, 1), (109, .invokevirtual 187, 3), (112, .ireturn, 1), (113, .aload_n 0, 1), (114, .iconst (-1), 1), (115, .putfield 9, 3), (118, .aload_n 0, 1), (119, .getfield 61, 3), (122, .aload_n 0, 1), (123, .getfield 67, 3), (126, .aload_n 0, 1), (127, .getfield 200, 3), (130, .aaload, 1), (131, .invokestatic 323, 3), (134, .aload_n 0, 1), (135, .dup, 1), (136, .getfield 200, 3), (139, .iconst 1, 1), (140, .iadd, 1), (141, .putfield 200, 3), (144, .aload_n 0, 1), (145, .iconst 0, 1), (146, .putfield 310, 3), (149, .aload_n 0, 1), (150, .iconst 0, 1), (151, .putfield 320, 3), (154, .aload_n 0, 1), (155, .iconst 0, 1), (156, .putfield 203, 3), (159, .aload_n 0, 1), (160, .iconst 0, 1), (161, .aload_n 0, 1), (162, .getfield 250, 3), (165, .invokevirtual 313, 3), (168, .aload_n 0, 1), (169, .getfield 320, 3), (172, .ireturn, 1)]
noncomputable abbrev dlX11_undo : List (Nat × Instr × Nat) := [(0, .aload_n 0, 1), (1, .iconst 0, 1), (2, .putfield 101, 3), (5, .aload_n 0, 1), (6, .getfield 200, 3), (9, .ifCond .ne 5, 3), (12, .iconst (-1), 1), (13, .ireturn, 1), (14, .aload_n 0, 1), (15, .dup, 1), (16, .getfield 200, 3), (19, .iconst 1, 1), (20, .isub, 1), (21, .putfield 200, 3), (24, .aload_n 0, 1), (25, .getfield 67, 3), (28, .aload_n 0, 1), (29, .getfield 200, 3), (32, .aaload, 1), (33, .aload_n 0, 1), (34, .getfield 61, 3), (37, .invokestatic 323, 3), (40, .aload_n 0, 1), (41, .iconst 0, 1), (42, .putfield 203, 3), (45, .aload_n 0, 1), (46, .getfield 200, 3), (49, .ireturn, 1)]
noncomputable abbrev dlX11_aliveIn : List (Nat × Instr × Nat) := [(0, .iconst 0, 1), (1, .istore_n 2, 1), (2, .iconst 0, 1), (3, .istore_n 3, 1), (4, .iload_n 3, 1), (5, .aload_n 0, 1), (6, .getfield 23, 3), (9, .iconst 0, 1), (10, .iaload, 1), (11, .if_icmp .ge 27, 3), (14, .iload_n 2, 1), (15, .aload_n 1, 1), (16, .iconst 0, 1), (17, .iaload, 1), (18, .iload_n 3, 1), (19, .invokestatic 256, 3), (22, .ifCond .eq 7, 3), (25, .iconst 0, 1), (26, .goto 4, 3), (29, .iconst 1, 1), (30, .iadd, 1), (31, .istore_n 2, 1), (32, .iinc 3 1, 3), (35, .goto (-31), 3), (38, .iload_n 2, 1), (39, .ireturn, 1)]
noncomputable abbrev dlX11_told : List (Nat × Instr × Nat) := [(0, .aload_n 0, 1), (1, .iconst 0, 1), (2, .putfield 101, 3), (5, .aload_n 0, 1), (6, .iload_n 1, 1), (7, .iconst 0, 1), (8, .bipush 8, 2), (10, .invokestatic 135, 3), (13, .ifCond .ne 7, 3), (16, .iconst 1, 1), (17, .goto 4, 3), (20, .iconst 0, 1), (21, .iconst 1, 1), (22, .iconst 1, 1), (23, .invokevirtual 177, 3), (26, .ifCond .eq 5, 3), (29, .iconst 0, 1), (30, .ireturn, 1), (31, .iload_n 1, 1), (32, .tableswitch 142 0 7 #[48, 55, 63, 71, 80, 121, 129, 137], 48), (80, .aload_n 0, 1), (81, .getfield 23, 3), (84, .iconst 0, 1), (85, .iaload, 1), (86, .ireturn, 1), (87, .aload_n 0, 1), (88, .getfield 61, 3), (91, .bipush 10, 2), (93, .iaload, 1), (94, .ireturn, 1), (95, .aload_n 0, 1), (96, .getfield 61, 3), (99, .bipush 9, 2), (101, .iaload, 1), (102, .ireturn, 1), (103, .aload_n 0, 1), (104, .aload_n 0, 1), (105, .getfield 61, 3), (108, .invokevirtual 327, 3), (111, .ireturn, 1), (112, .iconst 0, 1), (113, .istore_n 2, 1), (114, .iconst 0, 1), (115, .istore_n 3, 1), (116, .iload_n 3, 1), (117, .aload_n 0, 1), (118, .getfield 23, 3), (121, .iconst 0, 1), (122, .iaload, 1), (123, .if_icmp .ge 28, 3), (126, .iload_n 2, 1), (127, .aload_n 0, 1), (128, .getfield 61, 3), (131, .iload_n 3, 1), (132, .invokestatic 283, 3), (135, .ifCond .eq 7, 3), (138, .iconst 1, 1), (139, .goto 4, 3), (142, .iconst 0, 1), (143, .iadd, 1), (144, .istore_n 2, 1), (145, .iinc 3 1, 3), (148, .goto (-32), 3), (151, .iload_n 2, 1), (152, .ireturn, 1), (153, .aload_n 0, 1), (154, .getfield 61, 3), (157, .bipush 11, 2), (159, .iaload, 1), (160, .ireturn, 1), (161, .aload_n 0, 1), (162, .getfield 61, 3), (165, .bipush 12, 2), (167, .iaload, 1), (168, .ireturn, 1), (169, .aload_n 0, 1), (170, .getfield 197, 3), (173, .ireturn, 1), (174, .aload_n 0, 1), (175, .getfield 203, 3), (178, .ireturn, 1)]
noncomputable abbrev dlX11_isLife : List (Nat × Instr × Nat) := [(0, .iload_n 1, 1), (1, .iconst 0, 1), (2, .aload_n 0, 1), (3, .getfield 23, 3), (6, .iconst 0, 1), (7, .iaload, 1), (8, .iconst 1, 1), (9, .isub, 1), (10, .invokestatic 135, 3), (13, .ireturn, 1)]
noncomputable abbrev dlX11_life : List (Nat × Instr × Nat) := [(0, .aload_n 0, 1), (1, .iconst 0, 1), (2, .putfield 101, 3), (5, .aload_n 0, 1), (6, .aload_n 0, 1), (7, .iload_n 1, 1), (8, .invokevirtual 331, 3), (11, .ifCond .ne 7, 3), (14, .iconst 1, 1), (15, .goto 4, 3), (18, .iconst 0, 1), (19, .iconst 1, 1), (20, .iconst 0, 1), (21, .invokevirtual 177, 3), (24, .ifCond .ne 27, 3), (27, .aload_n 0, 1), (28, .iload_n 2, 1), (29, .iconst 0, 1), (30, .bipush 7, 2), (32, .invokestatic 135, 3), (35, .ifCond .ne 7, 3), (38, .iconst 1, 1), (39, .goto 4, 3), (42, .iconst 0, 1), (43, .iconst 2, 1), (44, .iconst 1, 1), (45, .invokevirtual 177, 3), (48, .ifCond .eq 5, 3), (51, .iconst 0, 1), (52, .ireturn, 1), (53, .iload_n 2, 1), (54, .tableswitch 113 0 6 #[42, 55, 55, 55, 64, 70, 81], 42), (96, .aload_n 0, 1), (97, .iload_n 1, 1), (98, .aload_n 0, 1), (99, .getfield 61, 3), (102, .bipush 10, 2), (104, .iaload, 1), (105, .invokevirtual 263, 3), (108, .ireturn, 1), (109, .aload_n 0, 1), (110, .getfield 31, 3), (113, .iload_n 1, 1), (114, .aaload, 1), (115, .iload_n 2, 1), (116, .iaload, 1), (117, .ireturn, 1), (118, .aload_n 0, 1), (119, .iload_n 1, 1), (120, .invokevirtual 287, 3), (123, .ireturn, 1), (124, .aload_n 0, 1), (125, .getfield 61, 3), (128, .iconst 0, 1), (129, .iaload, 1), (130, .iload_n 1, 1), (131, .ishr, 1), (132, .iconst 1, 1), (133, .iand, 1), (134, .ireturn, 1), (135, .aload_n 0, 1), (136, .getfield 61, 3), (139, .iload_n 1, 1), (140, .invokestatic 283, 3), (143, .ifCond .eq 22, 3), (146, .aload_n 0, 1), (147, .getfield 61, 3), (150, .bipush 10, 2), (152, .iaload, 1), (153, .aload_n 0, 1), (154, .getfield 61, 3), (157, .iconst 1, 1), (158, .iload_n 1, 1), (159, .iadd, 1), (160, .iaload, 1), (161, .isub, 1), (162, .goto 4, 3), (165, .iconst (-1), 1), (166, .ireturn, 1), (167, .aload_n 0, 1), (168, .getfield 31, 3), (171, .iload_n 1, 1), (172, .aaload, 1), (173, .iconst 5, 1), (174, .iaload, 1), (175, .ireturn, 1)]
noncomputable abbrev dlX11_facts : List (Nat × Instr × Nat) := [(0, .aload_n 0, 1), (1, .iconst 0, 1), (2, .putfield 101, 3), (5, .aload_n 0, 1), (6, .aload_n 0, 1), (7, .iload_n 1, 1), (8, .invokevirtual 331, 3), (11, .ifCond .ne 7, 3), (14, .iconst 1, 1), (15, .goto 4, 3), (18, .iconst 0, 1), (19, .iconst 1, 1), (20, .iconst 0, 1), (21, .invokevirtual 177, 3), (24, .ifCond .eq 5, 3), (27, .iconst 0, 1), (28, .ireturn, 1), (29, .aload_n 0, 1), (30, .iload_n 1, 1), (31, .aload_n 0, 1), (32, .getfield 61, 3), (35, .bipush 10, 2), (37, .iaload, 1), (38, .invokevirtual 334, 3), (41, .ireturn, 1)]
noncomputable abbrev dlX11_wrongOf : List (Nat × Instr × Nat) := [(0, .aload_n 0, 1), (1, .getfield 61, 3), (4, .iload_n 1, 1), (5, .invokestatic 283, 3), (8, .ifCond .eq 30, 3), (11, .aload_n 0, 1), (12, .aload_n 0, 1), (13, .getfield 61, 3), (16, .iload_n 1, 1), (17, .aload_n 0, 1), (18, .getfield 61, 3), (21, .iconst 1, 1), (22, .iload_n 1, 1), (23, .iadd, 1), (24, .iaload, 1), (25, .aload_n 0, 1), (26, .getfield 61, 3), (29, .bipush 10, 2), (31, .iaload, 1), (32, .invokevirtual 276, 3), (35, .goto 4, 3), (38, .iconst (-1), 1), (39, .ireturn, 1)]
noncomputable abbrev dlX11_wrong : List (Nat × Instr × Nat) := [(0, .aload_n 0, 1), (1, .iconst 0, 1), (2, .putfield 101, 3), (5, .aload_n 0, 1), (6, .aload_n 0, 1), (7, .iload_n 1, 1), (8, .invokevirtual 331, 3), (11, .ifCond .ne 7, 3), (14, .iconst 1, 1), (15, .goto 4, 3), (18, .iconst 0, 1), (19, .iconst 1, 1), (20, .iconst 0, 1), (21, .invokevirtual 177, 3), (24, .ifCond .eq 5, 3), (27, .iconst 0, 1), (28, .ireturn, 1), (29, .aload_n 0, 1), (30, .iload_n 1, 1), (31, .invokevirtual 337, 3), (34, .ireturn, 1)]
noncomputable abbrev dlX11_would : List (Nat × Instr × Nat) := [(0, .aload_n 0, 1), (1, .iconst 0, 1), (2, .putfield 101, 3), (5, .aload_n 0, 1), (6, .iload_n 1, 1), (7, .iconst 0, 1), (8, .sipush 200, 3), (11, .invokestatic 135, 3), (14, .ifCond .eq 45, 3), (17, .iload_n 2, 1), (18, .iconst 0, 1), (19, .sipush 200, 3), (22, .invokestatic 135, 3), (25, .ifCond .eq 34, 3), (28, .iload_n 3, 1), (29, .iconst 1, 1), (30, .bipush 99, 2), (32, .invokestatic 135, 3), (35, .ifCond .eq 24, 3), (38, .iload 4, 2), (40, .iconst 0, 1), (41, .iconst 1, 1), (42, .invokestatic 135, 3), (45, .ifCond .eq 14, 3), (48, .iload 5, 2), (50, .iconst 0, 1), (51, .bipush 24, 2), (53, .invokestatic 135, 3), (56, .ifCond .ne 7, 3), (59, .iconst 1, 1), (60, .goto 4, 3), (63, .iconst 0, 1), (64, .iconst 1, 1), (65, .iconst 1, 1), (66, .invokevirtual 177, 3), (69, .ifCond .eq 5, 3), (72, .iconst 0, 1), (73, .ireturn, 1), (74, .aload_n 0, 1), (75, .iload_n 1, 1), (76, .iload_n 2, 1), (77, .iload_n 3, 1), (78, .iload 4, 2), (80, .iload 5, 2), (82, .invokevirtual 273, 3), (85, .ireturn, 1)]
noncomputable abbrev dlX11_partOf : List (Nat × Instr × Nat) := [(0, .lload_n 2, 1), (1, .lstore 5, 2), (3, .lload_n 0, 1), (4, .lstore 7, 2), (6, .lload 7, 2), (8, .lconst 0, 1), (9, .lcmp, 1), (10, .ifCond .eq 21, 3), (13, .lload 5, 2), (15, .lload 7, 2), (17, .lrem, 1), (18, .lstore 9, 2), (20, .lload 7, 2), (22, .lstore 5, 2), (24, .lload 9, 2), (26, .lstore 7, 2), (28, .goto (-22), 3), (31, .iload 4, 2), (33, .ifCond .ne 10, 3), (36, .lload_n 0, 1), (37, .lload 5, 2), (39, .ldiv, 1), (40, .goto 7, 3), (43, .lload_n 2, 1), (44, .lload 5, 2), (46, .ldiv, 1), (47, .lreturn, 1)]
noncomputable abbrev dlX11_power : List (Nat × Instr × Nat) := [(0, .lconst 1, 1), (1, .lstore_n 3, 1), (2, .iconst 0, 1), (3, .istore 5, 2), (5, .iload 5, 2), (7, .iload_n 2, 1), (8, .if_icmp .ge 13, 3), (11, .lload_n 3, 1), (12, .lload_n 0, 1), (13, .lmul, 1), (14, .lstore_n 3, 1), (15, .iinc 5 1, 3), (18, .goto (-13), 3), (21, .lload_n 3, 1), (22, .lreturn, 1)]
noncomputable abbrev dlX11_noPart : List (Nat × Instr × Nat) := [(0, .aload_n 0, 1), (1, .iload_n 1, 1), (2, .iconst 0, 1), (3, .iconst 1, 1), (4, .invokestatic 135, 3), (7, .ifCond .ne 7, 3), (10, .iconst 1, 1), (11, .goto 4, 3), (14, .iconst 0, 1), (15, .iload_n 2, 1), (16, .iconst 1, 1), (17, .invokevirtual 177, 3), (20, .ireturn, 1)]
noncomputable abbrev dlX11_loss : List (Nat × Instr × Nat) := [(0, .aload_n 0, 1), (1, .iconst 0, 1), (2, .putfield 101, 3), (5, .aload_n 0, 1), (6, .iload_n 1, 1), (7, .iconst 1, 1), (8, .invokevirtual 340, 3), (11, .ifCond .eq 5, 3), (14, .lconst 0, 1), (15, .lreturn, 1), (16, .aload_n 0, 1), (17, .getfield 61, 3), (20, .bipush 13, 2), (22, .iaload, 1), (23, .i2l, 1), (24, .ldc2_w 343, 3), (27, .iload_n 1, 1), (28, .invokestatic 345, 3), (31, .lreturn, 1)]
noncomputable abbrev dlX11_cost : List (Nat × Instr × Nat) := [(0, .aload_n 0, 1), (1, .iconst 0, 1), (2, .putfield 101, 3), (5, .aload_n 0, 1), (6, .aload_n 0, 1), (7, .iload_n 1, 1), (8, .invokevirtual 331, 3), (11, .ifCond .ne 7, 3), (14, .iconst 1, 1), (15, .goto 4, 3), (18, .iconst 0, 1), (19, .iconst 1, 1), (20, .iconst 0, 1), (21, .invokevirtual 177, 3), (24, .ifCond .ne 12, 3), (27, .aload_n 0, 1), (28, .iload_n 2, 1), (29, .iconst 2, 1), (30, .invokevirtual 340, 3), (33, .ifCond .eq 5, 3), (36, .lconst 0, 1), (37, .lreturn, 1), (38, .aload_n 0, 1), (39, .aload_n 0, 1), (40, .getfield 61, 3), (43, .iload_n 1, 1), (44, .invokevirtual 293, 3), (47, .i2l, 1), (48, .ldc2_w 343, 3), (51, .iload_n 2, 1), (52, .invokestatic 345, 3), (55, .lreturn, 1)]
noncomputable abbrev dlX11_riskOf : List (Nat × Instr × Nat) := [(0, .lconst 0, 1), (1, .lstore_n 2, 1), (2, .iconst 0, 1), (3, .istore 4, 2), (5, .iload 4, 2), (7, .aload_n 0, 1), (8, .getfield 23, 3), (11, .iconst 0, 1), (12, .iaload, 1), (13, .if_icmp .ge 31, 3), (16, .lload_n 2, 1), (17, .aload_n 0, 1), (18, .getfield 31, 3), (21, .iload 4, 2), (23, .aaload, 1), (24, .iconst 1, 1), (25, .iaload, 1), (26, .i2l, 1), (27, .aload_n 0, 1), (28, .aload_n 1, 1), (29, .iload 4, 2), (31, .invokevirtual 293, 3), (34, .i2l, 1), (35, .lmul, 1), (36, .ladd, 1), (37, .lstore_n 2, 1), (38, .iinc 4 1, 3), (41, .goto (-36), 3), (44, .lload_n 2, 1), (45, .lreturn, 1)]
noncomputable abbrev dlX11_risk : List (Nat × Instr × Nat) := [(0, .aload_n 0, 1), (1, .iconst 0, 1), (2, .putfield 101, 3), (5, .aload_n 0, 1), (6, .iload_n 1, 1), (7, .iconst 1, 1), (8, .invokevirtual 340, 3), (11, .ifCond .eq 5, 3), (14, .lconst 0, 1), (15, .lreturn, 1), (16, .aload_n 0, 1), (17, .aload_n 0, 1), (18, .getfield 61, 3), (21, .invokevirtual 349, 3), (24, .ldc2_w 353, 3), (27, .iload_n 1, 1), (28, .invokestatic 345, 3), (31, .lreturn, 1)]
noncomputable abbrev dlX11_saved : List (Nat × Instr × Nat) := [(0, .aload_n 0, 1), (1, .aload_n 1, 1), (2, .iload_n 2, 1), (3, .invokevirtual 296, 3), (6, .ifCond .eq 40, 3), (9, .iconst 0, 1), (10, .aload_n 0, 1), (11, .getfield 31, 3), (14, .iload_n 2, 1), (15, .aaload, 1), (16, .iconst 1, 1), (17, .iaload, 1), (18, .aload_n 0, 1), (19, .aload_n 1, 1), (20, .iload_n 2, 1), (21, .invokevirtual 293, 3), (24, .aload_n 0, 1), (25, .aload_n 1, 1), (26, .iload_n 2, 1), (27, .aload_n 1, 1), (28, .bipush 10, 2), (30, .iaload, 1), (31, .aload_n 1, 1), (32, .bipush 10, 2), (34, .iaload, 1), (35, .invokevirtual 280, 3), (38, .isub, 1), (39, .imul, 1), (40, .invokestatic 240, 3), (43, .goto 4, 3), (46, .iconst 0, 1), (47, .ireturn, 1)]
noncomputable abbrev dlX11_saves : List (Nat × Instr × Nat) := [(0, .aload_n 0, 1), (1, .iconst 0, 1), (2, .putfield 101, 3), (5, .aload_n 0, 1), (6, .aload_n 0, 1), (7, .iload_n 1, 1), (8, .invokevirtual 331, 3), (11, .ifCond .ne 7, 3), (14, .iconst 1, 1), (15, .goto 4, 3), (18, .iconst 0, 1), (19, .iconst 1, 1), (20, .iconst 0, 1), (21, .invokevirtual 177, 3), (24, .ifCond .ne 12, 3), (27, .aload_n 0, 1), (28, .iload_n 2, 1), (29, .iconst 2, 1), (30, .invokevirtual 340, 3), (33, .ifCond .eq 5, 3), (36, .lconst 0, 1), (37, .lreturn, 1), (38, .aload_n 0, 1), (39, .aload_n 0, 1), (40, .getfield 61, 3), (43, .iload_n 1, 1), (44, .invokevirtual 355, 3), (47, .i2l, 1), (48, .ldc2_w 353, 3), (51, .aload_n 0, 1), (52, .aload_n 0, 1), (53, .getfield 61, 3), (56, .iload_n 1, 1), (57, .invokevirtual 290, 3), (60, .i2l, 1), (61, .lmul, 1), (62, .iload_n 2, 1), (63, .invokestatic 345, 3), (66, .lreturn, 1)]
noncomputable abbrev dlX11_firstOf : List (Nat × Instr × Nat) := [(0, .iconst (-1), 1), (1, .istore_n 3, 1), (2, .iconst 0, 1), (3, .istore 4, 2), (5, .iload 4, 2), (7, .aload_n 0, 1), (8, .getfield 23, 3), (11, .iconst 0, 1), (12, .iaload, 1), (13, .if_icmp .ge 77, 3), (16, .aload_n 0, 1), (17, .aload_n 1, 1), (18, .iload 4, 2), (20, .invokevirtual 355, 3), (23, .ifCond .eq 61, 3), (26, .aload_n 0, 1), (27, .aload_n 1, 1), (28, .iload 4, 2), (30, .invokevirtual 290, 3), (33, .iload_n 2, 1), (34, .if_icmp .le 6, 3), (37, .goto 47, 3), (40, .iload_n 3, 1), (41, .iconst (-1), 1), (42, .if_icmp .eq 39, 3), (45, .aload_n 0, 1), (46, .aload_n 1, 1), (47, .iload 4, 2), (49, .invokevirtual 355, 3), (52, .i2l, 1), (53, .aload_n 0, 1), (54, .aload_n 1, 1), (55, .iload_n 3, 1), (56, .invokevirtual 290, 3), (59, .i2l, 1), (60, .lmul, 1), (61, .aload_n 0, 1), (62, .aload_n 1, 1), (63, .iload_n 3, 1), (64, .invokevirtual 355, 3), (67, .i2l, 1), (68, .aload_n 0, 1), (69, .aload_n 1, 1), (70, .iload 4, 2), (72, .invokevirtual 290, 3), (75, .i2l, 1), (76, .lmul, 1), (77, .lcmp, 1), (78, .ifCond .le 6, 3), (81, .iload 4, 2), (83, .istore_n 3, 1), (84, .iinc 4 1, 3), (87, .goto (-82), 3), (90, .iload_n 3, 1), (91, .ireturn, 1)]
noncomputable abbrev dlX11_first : List (Nat × Instr × Nat) := [(0, .aload_n 0, 1), (1, .iconst 0, 1), (2, .putfield 101, 3), (5, .aload_n 0, 1), (6, .aload_n 0, 1), (7, .getfield 61, 3), (10, .bipush 12, 2), (12, .invokevirtual 358, 3), (15, .ireturn, 1)]
noncomputable abbrev dlX11_lacking : List (Nat × Instr × Nat) := [(0, .aload_n 0, 1), (1, .iconst 0, 1), (2, .putfield 101, 3), (5, .iconst 0, 1), (6, .istore_n 1, 1), (7, .iconst 0, 1), (8, .istore_n 2, 1), (9, .iload_n 2, 1), (10, .aload_n 0, 1), (11, .getfield 23, 3), (14, .iconst 0, 1), (15, .iaload, 1), (16, .if_icmp .ge 43, 3), (19, .iload_n 1, 1), (20, .aload_n 0, 1), (21, .getfield 61, 3), (24, .iconst 0, 1), (25, .iaload, 1), (26, .iload_n 2, 1), (27, .invokestatic 256, 3), (30, .ifCond .ne 20, 3), (33, .aload_n 0, 1), (34, .getfield 61, 3), (37, .iload_n 2, 1), (38, .invokestatic 283, 3), (41, .ifCond .ne 9, 3), (44, .iconst 1, 1), (45, .iload_n 2, 1), (46, .ishl, 1), (47, .goto 4, 3), (50, .iconst 0, 1), (51, .ior, 1), (52, .istore_n 1, 1), (53, .iinc 2 1, 3), (56, .goto (-47), 3), (59, .iload_n 1, 1), (60, .ireturn, 1)]
noncomputable abbrev dlX11_signed : List (Nat × Instr × Nat) := [(0, .aload_n 0, 1), (1, .iconst 0, 1), (2, .putfield 101, 3), (5, .iconst 0, 1), (6, .istore_n 1, 1), (7, .iconst 0, 1), (8, .istore_n 2, 1), (9, .iload_n 2, 1), (10, .aload_n 0, 1), (11, .getfield 23, 3), (14, .iconst 0, 1), (15, .iaload, 1), (16, .if_icmp .ge 43, 3), (19, .iload_n 1, 1), (20, .aload_n 0, 1), (21, .getfield 61, 3), (24, .iload_n 2, 1), (25, .invokestatic 283, 3), (28, .ifCond .eq 22, 3), (31, .aload_n 0, 1), (32, .aload_n 0, 1), (33, .getfield 61, 3), (36, .iload_n 2, 1), (37, .invokevirtual 266, 3), (40, .iconst 1, 1), (41, .if_icmp .ne 9, 3), (44, .iconst 1, 1), (45, .iload_n 2, 1), (46, .ishl, 1), (47, .goto 4, 3), (50, .iconst 0, 1), (51, .ior, 1), (52, .istore_n 1, 1), (53, .iinc 2 1, 3), (56, .goto (-47), 3), (59, .iload_n 1, 1), (60, .ireturn, 1)]
noncomputable abbrev dlX11_stale : List (Nat × Instr × Nat) := [(0, .aload_n 0, 1), (1, .iconst 0, 1), (2, .putfield 101, 3), (5, .aload_n 0, 1), (6, .iload_n 1, 1), (7, .iconst 0, 1), (8, .bipush 65, 2), (10, .invokestatic 135, 3), (13, .ifCond .ne 7, 3), (16, .iconst 1, 1), (17, .goto 4, 3), (20, .iconst 0, 1), (21, .iconst 1, 1), (22, .iconst 1, 1), (23, .invokevirtual 177, 3), (26, .ifCond .eq 5, 3), (29, .iconst 0, 1), (30, .ireturn, 1), (31, .iconst 0, 1), (32, .istore_n 2, 1), (33, .iconst 0, 1), (34, .istore_n 3, 1), (35, .iload_n 3, 1), (36, .aload_n 0, 1), (37, .getfield 23, 3), (40, .iconst 0, 1), (41, .iaload, 1), (42, .if_icmp .ge 39, 3), (45, .iload_n 2, 1), (46, .aload_n 0, 1), (47, .getfield 61, 3), (50, .iload_n 3, 1), (51, .invokestatic 283, 3), (54, .ifCond .eq 18, 3), (57, .aload_n 0, 1), (58, .iload_n 3, 1), (59, .invokevirtual 337, 3), (62, .iload_n 1, 1), (63, .if_icmp .lt 9, 3), (66, .iconst 1, 1), (67, .iload_n 3, 1), (68, .ishl, 1), (69, .goto 4, 3), (72, .iconst 0, 1), (73, .ior, 1), (74, .istore_n 2, 1), (75, .iinc 3 1, 3), (78, .goto (-43), 3), (81, .iload_n 2, 1), (82, .ireturn, 1)]
noncomputable abbrev dlX11_isOption : List (Nat × Instr × Nat) := [(0, .aload_n 0, 1), (1, .getfield 61, 3), (4, .iconst 1, 1), (5, .iload_n 1, 1), (6, .iadd, 1), (7, .iaload, 1), (8, .istore 4, 2), (10, .aload_n 0, 1), (11, .getfield 31, 3), (14, .iload_n 1, 1), (15, .aaload, 1), (16, .iconst 1, 1), (17, .iaload, 1), (18, .istore 5, 2), (20, .aload_n 0, 1), (21, .lconst 0, 1), (22, .putfield 361, 3), (25, .iconst 0, 1), (26, .istore 6, 2), (28, .iload 6, 2), (30, .iconst 3, 1), (31, .if_icmp .ge 17, 3), (34, .aload_n 0, 1), (35, .getfield 86, 3), (38, .iload 6, 2), (40, .iconst 0, 1), (41, .iastore, 1), (42, .iinc 6 1, 3), (45, .goto (-17), 3), (48, .aload_n 0, 1), (49, .getfield 61, 3), (52, .iconst 0, 1), (53, .iaload, 1), (54, .iload_n 1, 1), (55, .invokestatic 256, 3), (58, .ifCond .eq 13, 3), (61, .iload_n 3, 1), (62, .ifCond .ne 7, 3), (65, .iconst 1, 1), (66, .goto 4, 3), (69, .iconst 0, 1), (70, .ireturn, 1), (71, .iconst 0, 1), (72, .istore 6, 2), (74, .iload 6, 2), (76, .iload_n 2, 1), (77, .if_icmp .ge 126, 3), (80, .aload_n 0, 1), (81, .getfield 61, 3), (84, .bipush 10, 2), (86, .iaload, 1), (87, .iload 6, 2), (89, .iadd, 1), (90, .istore 7, 2), (92, .iload_n 3, 1), (93, .iload 6, 2), (95, .invokestatic 256, 3), (98, .ifCond .eq 47, 3), (101, .iload 4, 2), (103, .iload 7, 2), (105, .if_icmp .ne 5, 3), (108, .iconst 0, 1), (109, .ireturn, 1), (110, .aload_n 0, 1), (111, .getfield 86, 3), (114, .iload 6, 2), (116, .iload 4, 2), (118, .sipush (-1000), 3), (121, .if_icmp .ne 14, 3), (124, .aload_n 0, 1), (125, .getfield 31, 3), (128, .iload_n 1, 1), (129, .aaload, 1), (130, .iconst 3, 1), (131, .iaload, 1), (132, .goto 8, 3), (135, .aload_n 0, 1), (136, .iload_n 1, 1), (137, .invokevirtual 287, 3), (140, .iastore, 1), (141, .iload 7, 2), (143, .istore 4, 2), (145, .aload_n 0, 1), (146, .dup, 1), (147, .getfield 361, 3), (150, .bipush 64, 2), (152, .iload 5, 2), (154, .isub, 1), (155, .i2l, 1), (156, .iload 6, 2), (158, .invokestatic 365, 3), (161, .iload 5, 2), (163, .i2l, 1), (164, .lmul, 1), (165, .aload_n 0, 1), (166, .aload_n 0, 1), (167, .getfield 61, 3), (170, .iload_n 1, 1), (171, .iload 4, 2), (173, .iload 7, 2), (175, .invokevirtual 280, 3), (178, .i2l, 1), (179, .lmul, 1), (180, .ldc2_w 343, 3), (183, .iload_n 2, 1), (184, .iconst 1, 1), (185, .isub, 1), (186, .iload 6, 2), (188, .isub, 1), (189, .invokestatic 365, 3), (192, .lmul, 1), (193, .ladd, 1), (194, .putfield 361, 3), (197, .iinc 6 1, 3), (200, .goto (-126), 3), (203, .iconst 1, 1), (204, .ireturn, 1)]
noncomputable abbrev dlX11_roomOf : List (Nat × Instr × Nat) := [(0, .bipush 13, 2), (2, .iload_n 0, 1), (3, .imul, 1), (4, .iload_n 1, 1), (5, .iadd, 1), (6, .bipush 13, 2), (8, .imul, 1), (9, .iload_n 2, 1), (10, .iadd, 1), (11, .ireturn, 1)]
noncomputable abbrev dlX11_laysOption : List (Nat × Instr × Nat) := [(0, .lconst 0, 1), (1, .lstore_n 3, 1), (2, .iconst 0, 1), (3, .istore 5, 2), (5, .iload 5, 2), (7, .iconst 3, 1), (8, .if_icmp .ge 36, 3), (11, .lload_n 3, 1), (12, .iload_n 2, 1), (13, .iload 5, 2), (15, .invokestatic 256, 3), (18, .ifCond .eq 17, 3), (21, .lconst 1, 1), (22, .bipush 8, 2), (24, .iconst 2, 1), (25, .iload 5, 2), (27, .isub, 1), (28, .imul, 1), (29, .iload_n 1, 1), (30, .iadd, 1), (31, .lshl, 1), (32, .goto 4, 3), (35, .lconst 0, 1), (36, .ladd, 1), (37, .lstore_n 3, 1), (38, .iinc 5 1, 3), (41, .goto (-36), 3), (44, .aload_n 0, 1), (45, .getfield 86, 3), (48, .iconst 0, 1), (49, .iaload, 1), (50, .istore 5, 2), (52, .iload 5, 2), (54, .bipush 12, 2), (56, .if_icmp .gt 193, 3), (59, .aload_n 0, 1), (60, .getfield 86, 3), (63, .iconst 1, 1), (64, .iaload, 1), (65, .istore 6, 2), (67, .iload 6, 2), (69, .bipush 12, 2), (71, .if_icmp .gt 172, 3), (74, .aload_n 0, 1), (75, .getfield 86, 3), (78, .iconst 2, 1), (79, .iaload, 1), (80, .istore 7, 2), (82, .iload 7, 2), (84, .bipush 12, 2), (86, .if_icmp .gt 151, 3), (89, .iload 5, 2), (91, .iload 6, 2), (93, .iload 7, 2), (95, .invokestatic 369, 3), (98, .istore 8, 2), (100, .iload 5, 2), (102, .aload_n 0, 1), (103, .getfield 86, 3), (106, .iconst 0, 1), (107, .iaload, 1), (108, .isub, 1), (109, .iload 6, 2), (111, .aload_n 0, 1), (112, .getfield 86, 3), (115, .iconst 1, 1), (116, .iaload, 1), (117, .isub, 1), (118, .iload 7, 2), (120, .aload_n 0, 1), (121, .getfield 86, 3), (124, .iconst 2, 1), (125, .iaload, 1), (126, .isub, 1), (127, .invokestatic 369, 3), (130, .istore 9, 2), (132, .aload_n 0, 1), (133, .getfield 73, 3), (136, .iload 9, 2), (138, .laload, 1), (139, .aload_n 0, 1), (140, .getfield 361, 3), (143, .ladd, 1), (144, .lstore 10, 2), (146, .aload_n 0, 1), (147, .getfield 77, 3), (150, .iload 9, 2), (152, .laload, 1), (153, .lload_n 3, 1), (154, .ladd, 1), (155, .lstore 12, 2), (157, .aload_n 0, 1), (158, .getfield 80, 3), (161, .iload 8, 2), (163, .laload, 1), (164, .ldc2_w 372, 3), (167, .lcmp, 1), (168, .ifCond .eq 45, 3), (171, .lload 10, 2), (173, .aload_n 0, 1), (174, .getfield 80, 3), (177, .iload 8, 2), (179, .laload, 1), (180, .lcmp, 1), (181, .ifCond .gt 50, 3), (184, .lload 10, 2), (186, .aload_n 0, 1), (187, .getfield 80, 3), (190, .iload 8, 2), (192, .laload, 1), (193, .lcmp, 1), (194, .ifCond .ne 19, 3), (197, .lload 12, 2), (199, .aload_n 0, 1), (200, .getfield 83, 3), (203, .iload 8, 2), (205, .laload, 1), (206, .lcmp, 1), (207, .ifCond .lt 6, 3), (210, .goto 21, 3), (213, .aload_n 0, 1), (214, .getfield 80, 3), (217, .iload 8, 2), (219, .lload 10, 2), (221, .lastore, 1), (222, .aload_n 0, 1), (223, .getfield 83, 3), (226, .iload 8, 2), (228, .lload 12, 2), (230, .lastore, 1), (231, .iinc 7 1, 3), (234, .goto (-152), 3), (237, .iinc 6 1, 3), (240, .goto (-173), 3), (243, .iinc 5 1, 3), (246, .goto (-194), 3), (249, .return_, 1)]
noncomputable abbrev dlX11_laysBest : List (Nat × Instr × Nat) := [(0, .iconst 0, 1), (1, .istore_n 2, 1), (2, .iload_n 2, 1), (3, .sipush 2197, 3), (6, .if_icmp .ge 23, 3), (9, .aload_n 0, 1), (10, .getfield 73, 3), (13, .iload_n 2, 1), (14, .lconst 0, 1), (15, .lastore, 1), (16, .aload_n 0, 1), (17, .getfield 77, 3), (20, .iload_n 2, 1), (21, .lconst 0, 1), (22, .lastore, 1), (23, .iinc 2 1, 3), (26, .goto (-24), 3), (29, .iconst 0, 1), (30, .istore_n 2, 1), (31, .iload_n 2, 1), (32, .aload_n 0, 1), (33, .getfield 23, 3), (36, .iconst 0, 1), (37, .iaload, 1), (38, .if_icmp .ge 103, 3), (41, .iconst 0, 1), (42, .istore_n 3, 1), (43, .iload_n 3, 1), (44, .sipush 2197, 3), (47, .if_icmp .ge 18, 3), (50, .aload_n 0, 1), (51, .getfield 80, 3), (54, .iload_n 3, 1), (55, .ldc2_w 372, 3), (58, .lastore, 1), (59, .iinc 3 1, 3), (62, .goto (-19), 3), (65, .iconst 0, 1), (66, .istore_n 3, 1), (67, .iload_n 3, 1), (68, .iconst 1, 1), (69, .iload_n 1, 1), (70, .ishl, 1), (71, .if_icmp .ge 25, 3), (74, .aload_n 0, 1), (75, .iload_n 2, 1), (76, .iload_n 1, 1), (77, .iload_n 3, 1), (78, .invokevirtual 374, 3), (81, .ifCond .eq 9, 3), (84, .aload_n 0, 1), (85, .iload_n 2, 1), (86, .iload_n 3, 1), (87, .invokevirtual 377, 3), (90, .iinc 3 1, 3), (93, .goto (-26), 3), (96, .iconst 0, 1), (97, .istore_n 3, 1), (98, .iload_n 3, 1), (99, .sipush 2197, 3), (102, .if_icmp .ge 33, 3), (105, .aload_n 0, 1), (106, .getfield 73, 3), (109, .iload_n 3, 1), (110, .aload_n 0, 1), (111, .getfield 80, 3), (114, .iload_n 3, 1), (115, .laload, 1), (116, .lastore, 1), (117, .aload_n 0, 1), (118, .getfield 77, 3), (121, .iload_n 3, 1), (122, .aload_n 0, 1), (123, .getfield 83, 3), (126, .iload_n 3, 1), (127, .laload, 1), (128, .lastore, 1), (129, .iinc 3 1, 3), (132, .goto (-34), 3), (135, .iinc 2 1, 3), (138, .goto (-107), 3), (141, .aload_n 0, 1), (142, .getfield 61, 3), (145, .bipush 9, 2), (147, .iaload, 1), (148, .aload_n 0, 1), (149, .getfield 23, 3), (152, .iconst 2, 1), (153, .iaload, 1), (154, .aload_n 0, 1), (155, .getfield 23, 3), (158, .iconst 2, 1), (159, .iaload, 1), (160, .invokestatic 369, 3), (163, .ireturn, 1)]
noncomputable abbrev dlX11_best : List (Nat × Instr × Nat) := [(0, .aload_n 0, 1), (1, .iconst 0, 1), (2, .putfield 101, 3), (5, .aload_n 0, 1), (6, .iload_n 1, 1), (7, .iconst 1, 1), (8, .iconst 3, 1), (9, .invokestatic 135, 3), (12, .ifCond .ne 7, 3), (15, .iconst 1, 1), (16, .goto 4, 3), (19, .iconst 0, 1), (20, .iconst 1, 1), (21, .iconst 1, 1), (22, .invokevirtual 177, 3), (25, .ifCond .ne 12, 3), (28, .aload_n 0, 1), (29, .iload_n 2, 1), (30, .iconst 1, 1), (31, .invokevirtual 340, 3), (34, .ifCond .eq 5, 3), (37, .lconst 0, 1), (38, .lreturn, 1), (39, .aload_n 0, 1), (40, .getfield 73, 3), (43, .aload_n 0, 1), (44, .iload_n 1, 1), (45, .invokevirtual 380, 3), (48, .laload, 1), (49, .ldc2_w 343, 3), (52, .iload_n 1, 1), (53, .iconst 1, 1), (54, .iadd, 1), (55, .invokestatic 365, 3), (58, .iload_n 2, 1), (59, .invokestatic 345, 3), (62, .lreturn, 1)]
noncomputable abbrev dlX11_bestIn : List (Nat × Instr × Nat) := [(0, .aload_n 0, 1), (1, .iconst 0, 1), (2, .putfield 101, 3), (5, .aload_n 0, 1), (6, .iload_n 1, 1), (7, .iconst 1, 1), (8, .iconst 3, 1), (9, .invokestatic 135, 3), (12, .ifCond .eq 14, 3), (15, .iload_n 2, 1), (16, .iconst 0, 1), (17, .iload_n 1, 1), (18, .iconst 1, 1), (19, .isub, 1), (20, .invokestatic 135, 3), (23, .ifCond .ne 7, 3), (26, .iconst 1, 1), (27, .goto 4, 3), (30, .iconst 0, 1), (31, .iconst 1, 1), (32, .iconst 1, 1), (33, .invokevirtual 177, 3), (36, .ifCond .eq 5, 3), (39, .iconst 0, 1), (40, .ireturn, 1), (41, .aload_n 0, 1), (42, .getfield 77, 3), (45, .aload_n 0, 1), (46, .iload_n 1, 1), (47, .invokevirtual 380, 3), (50, .laload, 1), (51, .bipush 8, 2), (53, .iconst 2, 1), (54, .iload_n 2, 1), (55, .isub, 1), (56, .imul, 1), (57, .lshr, 1), (58, .ldc2_w 383, 3), (61, .land, 1), (62, .l2i, 1), (63, .ireturn, 1)]
noncomputable abbrev dlX11_oftenBy : List (Nat × Instr × Nat) := [(0, .ldc2_w 353, 3), (3, .iload_n 2, 1), (4, .i2l, 1), (5, .lmul, 1), (6, .aload_n 0, 1), (7, .iload_n 1, 1), (8, .invokevirtual 287, 3), (11, .i2l, 1), (12, .lmul, 1), (13, .lstore 4, 2), (15, .iconst 0, 1), (16, .istore 6, 2), (18, .iload 6, 2), (20, .iload_n 3, 1), (21, .if_icmp .ge 78, 3), (24, .lload 4, 2), (26, .aload_n 0, 1), (27, .getfield 31, 3), (30, .iload_n 1, 1), (31, .aaload, 1), (32, .iconst 1, 1), (33, .iaload, 1), (34, .aload_n 0, 1), (35, .getfield 23, 3), (38, .iconst 4, 1), (39, .iaload, 1), (40, .imul, 1), (41, .i2l, 1), (42, .aload_n 0, 1), (43, .getfield 31, 3), (46, .iload_n 1, 1), (47, .aaload, 1), (48, .iconst 2, 1), (49, .iaload, 1), (50, .i2l, 1), (51, .lmul, 1), (52, .aload_n 0, 1), (53, .iload 6, 2), (55, .aload_n 0, 1), (56, .iload_n 1, 1), (57, .aload_n 0, 1), (58, .getfield 61, 3), (61, .bipush 10, 2), (63, .iaload, 1), (64, .invokevirtual 263, 3), (67, .aload_n 0, 1), (68, .getfield 31, 3), (71, .iload_n 1, 1), (72, .aaload, 1), (73, .iconst 2, 1), (74, .iaload, 1), (75, .aload_n 0, 1), (76, .aload_n 0, 1), (77, .getfield 61, 3), (80, .iload_n 1, 1), (81, .invokevirtual 266, 3), (84, .iconst 0, 1), (85, .invokevirtual 273, 3), (88, .i2l, 1), (89, .lmul, 1), (90, .ladd, 1), (91, .lstore 4, 2), (93, .iinc 6 1, 3), (96, .goto (-78), 3), (99, .lload 4, 2), (101, .lreturn, 1)]
noncomputable abbrev dlX11_often : List (Nat × Instr × Nat) := [(0, .aload_n 0, 1), (1, .iconst 0, 1), (2, .putfield 101, 3), (5, .aload_n 0, 1), (6, .aload_n 0, 1), (7, .iload_n 1, 1), (8, .invokevirtual 331, 3), (11, .ifCond .ne 7, 3), (14, .iconst 1, 1), (15, .goto 4, 3), (18, .iconst 0, 1), (19, .iconst 1, 1), (20, .iconst 0, 1), (21, .invokevirtual 177, 3), (24, .ifCond .ne 28, 3), (27, .aload_n 0, 1), (28, .iload_n 2, 1), (29, .iconst 0, 1), (30, .sipush 999, 3), (33, .invokestatic 135, 3), (36, .ifCond .ne 7, 3), (39, .iconst 1, 1), (40, .goto 4, 3), (43, .iconst 0, 1), (44, .iconst 2, 1), (45, .iconst 1, 1), (46, .invokevirtual 177, 3), (49, .ifCond .eq 5, 3), (52, .iconst 0, 1), (53, .ireturn, 1), (54, .iconst 1, 1), (55, .istore_n 3, 1), (56, .iconst 2, 1), (57, .istore 4, 2), (59, .iload 4, 2), (61, .bipush 30, 2), (63, .if_icmp .gt 42, 3), (66, .aload_n 0, 1), (67, .iload_n 1, 1), (68, .iload_n 2, 1), (69, .iload 4, 2), (71, .invokevirtual 385, 3), (74, .iload_n 3, 1), (75, .i2l, 1), (76, .lmul, 1), (77, .aload_n 0, 1), (78, .iload_n 1, 1), (79, .iload_n 2, 1), (80, .iload_n 3, 1), (81, .invokevirtual 385, 3), (84, .iload 4, 2), (86, .i2l, 1), (87, .lmul, 1), (88, .lcmp, 1), (89, .ifCond .ge 8, 3), (92, .iload 4, 2), (94, .goto 4, 3), (97, .iload_n 3, 1), (98, .istore_n 3, 1), (99, .iinc 4 1, 3), (102, .goto (-43), 3), (105, .iload_n 3, 1), (106, .ireturn, 1)]
noncomputable abbrev dlX11_yearly : List (Nat × Instr × Nat) := [(0, .aload_n 0, 1), (1, .iconst 0, 1), (2, .putfield 101, 3), (5, .aload_n 0, 1), (6, .aload_n 0, 1), (7, .iload_n 1, 1), (8, .invokevirtual 331, 3), (11, .ifCond .ne 7, 3), (14, .iconst 1, 1), (15, .goto 4, 3), (18, .iconst 0, 1), (19, .iconst 1, 1), (20, .iconst 0, 1), (21, .invokevirtual 177, 3), (24, .ifCond .ne 48, 3), (27, .aload_n 0, 1), (28, .iload_n 2, 1), (29, .iconst 0, 1), (30, .sipush 999, 3), (33, .invokestatic 135, 3), (36, .ifCond .eq 13, 3), (39, .iload_n 3, 1), (40, .iconst 1, 1), (41, .bipush 30, 2), (43, .invokestatic 135, 3), (46, .ifCond .ne 7, 3), (49, .iconst 1, 1), (50, .goto 4, 3), (53, .iconst 0, 1), (54, .iconst 2, 1), (55, .iconst 1, 1), (56, .invokevirtual 177, 3), (59, .ifCond .ne 13, 3), (62, .aload_n 0, 1), (63, .iload 4, 2), (65, .iconst 2, 1), (66, .invokevirtual 340, 3), (69, .ifCond .eq 5, 3), (72, .lconst 0, 1), (73, .lreturn, 1), (74, .aload_n 0, 1), (75, .iload_n 1, 1), (76, .iload_n 2, 1), (77, .iload_n 3, 1), (78, .invokevirtual 385, 3), (81, .ldc2_w 353, 3), (84, .iload_n 3, 1), (85, .i2l, 1), (86, .lmul, 1), (87, .iload 4, 2), (89, .invokestatic 345, 3), (92, .lreturn, 1)]
noncomputable abbrev dlX11_bringsBy : List (Nat × Instr × Nat) := [(0, .iload 5, 2), (2, .iconst 2, 1), (3, .if_icmp .ne 14, 3), (6, .iload_n 0, 1), (7, .bipush 16, 2), (9, .iload_n 1, 1), (10, .isub, 1), (11, .imul, 1), (12, .iload_n 2, 1), (13, .imul, 1), (14, .goto 26, 3), (17, .bipush 16, 2), (19, .iload_n 0, 1), (20, .iload_n 2, 1), (21, .imul, 1), (22, .bipush 16, 2), (24, .iload_n 0, 1), (25, .isub, 1), (26, .iload 5, 2), (28, .ifCond .ne 7, 3), (31, .iload_n 3, 1), (32, .goto 5, 3), (35, .iload 4, 2), (37, .imul, 1), (38, .isub, 1), (39, .imul, 1), (40, .ireturn, 1)]
noncomputable abbrev dlX11_isRumour : List (Nat × Instr × Nat) := [(0, .iload_n 0, 1), (1, .iconst 0, 1), (2, .bipush 16, 2), (4, .invokestatic 135, 3), (7, .ifCond .eq 40, 3), (10, .iload_n 1, 1), (11, .iconst 0, 1), (12, .sipush 999, 3), (15, .invokestatic 135, 3), (18, .ifCond .eq 29, 3), (21, .iload_n 2, 1), (22, .iconst 0, 1), (23, .sipush 999, 3), (26, .invokestatic 135, 3), (29, .ifCond .eq 18, 3), (32, .iload_n 3, 1), (33, .iconst 0, 1), (34, .sipush 999, 3), (37, .invokestatic 135, 3), (40, .ifCond .eq 7, 3), (43, .iconst 1, 1), (44, .goto 4, 3), (47, .iconst 0, 1), (48, .ireturn, 1)]
noncomputable abbrev dlX11_brings : List (Nat × Instr × Nat) := [(0, .aload_n 0, 1), (1, .iconst 0, 1), (2, .putfield 101, 3), (5, .aload_n 0, 1), (6, .iload_n 1, 1), (7, .iconst 0, 1), (8, .bipush 16, 2), (10, .invokestatic 135, 3), (13, .ifCond .eq 25, 3), (16, .iload_n 2, 1), (17, .iload_n 3, 1), (18, .iload 4, 2), (20, .iload 5, 2), (22, .invokestatic 389, 3), (25, .ifCond .eq 13, 3), (28, .iload 6, 2), (30, .iconst 0, 1), (31, .iconst 2, 1), (32, .invokestatic 135, 3), (35, .ifCond .ne 7, 3), (38, .iconst 1, 1), (39, .goto 4, 3), (42, .iconst 0, 1), (43, .iconst 1, 1), (44, .iconst 1, 1), (45, .invokevirtual 177, 3), (48, .ifCond .eq 5, 3), (51, .iconst 0, 1), (52, .ireturn, 1), (53, .iload_n 1, 1), (54, .iload_n 2, 1), (55, .iload_n 3, 1), (56, .iload 4, 2), (58, .iload 5, 2), (60, .iload 6, 2), (62, .invokestatic 393, 3), (65, .ireturn, 1)]
noncomputable abbrev dlX11_saysBy : List (Nat × Instr × Nat) := [(0, .iconst 0, 1), (1, .istore 5, 2), (3, .iconst 1, 1), (4, .istore 6, 2), (6, .iload 6, 2), (8, .iconst 3, 1), (9, .if_icmp .ge 43, 3), (12, .iload_n 0, 1), (13, .iload_n 1, 1), (14, .iload_n 2, 1), (15, .iload_n 3, 1), (16, .iload 4, 2), (18, .iload 6, 2), (20, .invokestatic 393, 3), (23, .iload_n 0, 1), (24, .iload_n 1, 1), (25, .iload_n 2, 1), (26, .iload_n 3, 1), (27, .iload 4, 2), (29, .iload 5, 2), (31, .invokestatic 393, 3), (34, .if_icmp .le 8, 3), (37, .iload 6, 2), (39, .goto 5, 3), (42, .iload 5, 2), (44, .istore 5, 2), (46, .iinc 6 1, 3), (49, .goto (-43), 3), (52, .iload 5, 2), (54, .ireturn, 1)]
noncomputable abbrev dlX11_says : List (Nat × Instr × Nat) := [(0, .aload_n 0, 1), (1, .iconst 0, 1), (2, .putfield 101, 3), (5, .aload_n 0, 1), (6, .iload_n 1, 1), (7, .iconst 0, 1), (8, .bipush 16, 2), (10, .invokestatic 135, 3), (13, .ifCond .eq 15, 3), (16, .iload_n 2, 1), (17, .iload_n 3, 1), (18, .iload 4, 2), (20, .iload 5, 2), (22, .invokestatic 389, 3), (25, .ifCond .ne 7, 3), (28, .iconst 1, 1), (29, .goto 4, 3), (32, .iconst 0, 1), (33, .iconst 1, 1), (34, .iconst 1, 1), (35, .invokevirtual 177, 3), (38, .ifCond .eq 5, 3), (41, .iconst 0, 1), (42, .ireturn, 1), (43, .iload_n 1, 1), (44, .iload_n 2, 1), (45, .iload_n 3, 1), (46, .iload 4, 2), (48, .iload 5, 2), (50, .invokestatic 397, 3), (53, .ireturn, 1)]
noncomputable abbrev dlX11_line : List (Nat × Instr × Nat) := [(0, .aload_n 0, 1), (1, .iconst 0, 1), (2, .putfield 101, 3), (5, .aload_n 0, 1), (6, .iload_n 1, 1), (7, .iload_n 2, 1), (8, .iload_n 3, 1), (9, .iload 4, 2), (11, .invokestatic 389, 3), (14, .ifCond .ne 7, 3), (17, .iconst 1, 1), (18, .goto 4, 3), (21, .iconst 0, 1), (22, .iconst 1, 1), (23, .iconst 1, 1), (24, .invokevirtual 177, 3), (27, .ifCond .eq 5, 3), (30, .iconst 0, 1), (31, .ireturn, 1), (32, .iconst 0, 1), (33, .istore 5, 2), (35, .iload 5, 2), (37, .bipush 16, 2), (39, .if_icmp .gt 25, 3), (42, .iload 5, 2), (44, .iload_n 1, 1), (45, .iload_n 2, 1), (46, .iload_n 3, 1), (47, .iload 4, 2), (49, .invokestatic 397, 3), (52, .ifCond .ne 6, 3), (55, .iload 5, 2), (57, .ireturn, 1), (58, .iinc 5 1, 3), (61, .goto (-26), 3), (64, .iconst (-1), 1), (65, .ireturn, 1)]
noncomputable abbrev dlX11_areLives : List (Nat × Instr × Nat) := [(0, .iload_n 1, 1), (1, .iconst 0, 1), (2, .iconst 1, 1), (3, .aload_n 0, 1), (4, .getfield 23, 3), (7, .iconst 0, 1), (8, .iaload, 1), (9, .ishl, 1), (10, .iconst 1, 1), (11, .isub, 1), (12, .invokestatic 135, 3), (15, .ireturn, 1)]
noncomputable abbrev dlX11_rooms : List (Nat × Instr × Nat) := [(0, .iload_n 1, 1), (1, .aload_n 0, 1), (2, .getfield 23, 3), (5, .iconst 0, 1), (6, .iaload, 1), (7, .if_icmp .ne 50, 3), (10, .iload 4, 2), (12, .aload_n 0, 1), (13, .getfield 400, 3), (16, .if_icmp .gt 4, 3), (19, .return_, 1), (20, .aload_n 0, 1), (21, .iload 4, 2), (23, .putfield 400, 3), (26, .iconst 0, 1), (27, .istore 5, 2), (29, .iload 5, 2), (31, .bipush 8, 2), (33, .if_icmp .ge 23, 3), (36, .aload_n 0, 1), (37, .getfield 92, 3), (40, .iload 5, 2), (42, .aload_n 0, 1), (43, .getfield 89, 3), (46, .iload 5, 2), (48, .iaload, 1), (49, .iastore, 1), (50, .iinc 5 1, 3), (53, .goto (-24), 3), (56, .return_, 1), (57, .aload_n 0, 1), (58, .getfield 89, 3), (61, .iload_n 1, 1), (62, .iconst 0, 1), (63, .iastore, 1), (64, .aload_n 0, 1), (65, .iload_n 1, 1), (66, .iconst 1, 1), (67, .iadd, 1), (68, .iload_n 2, 1), (69, .iload_n 3, 1), (70, .iload 4, 2), (72, .invokevirtual 403, 3), (75, .aload_n 0, 1), (76, .getfield 31, 3), (79, .iload_n 1, 1), (80, .aaload, 1), (81, .iconst 2, 1), (82, .iaload, 1), (83, .istore 5, 2), (85, .iload_n 2, 1), (86, .iload_n 1, 1), (87, .invokestatic 256, 3), (90, .ifCond .ne 4, 3), (93, .return_, 1), (94, .iload_n 3, 1), (95, .iconst 3, 1), (96, .if_icmp .lt 26, 3), (99, .aload_n 0, 1), (100, .getfield 89, 3), (103, .iload_n 1, 1), (104, .iconst 3, 1), (105, .iastore, 1), (106, .aload_n 0, 1), (107, .iload_n 1, 1), (108, .iconst 1, 1), (109, .iadd, 1), (110, .iload_n 2, 1), (111, .iload_n 3, 1), (112, .iconst 3, 1), (113, .isub, 1), (114, .iload 4, 2), (116, .iload 5, 2), (118, .iadd, 1), (119, .invokevirtual 403, 3), (122, .iload_n 3, 1), (123, .iload 5, 2), (125, .if_icmp .lt 30, 3), (128, .aload_n 0, 1), (129, .getfield 89, 3), (132, .iload_n 1, 1), (133, .iload 5, 2), (135, .iastore, 1), (136, .aload_n 0, 1), (137, .iload_n 1, 1), (138, .iconst 1, 1), (139, .iadd, 1), (140, .iload_n 2, 1), (141, .iload_n 3, 1), (142, .iload 5, 2), (144, .isub, 1), (145, .iload 4, 2), (147, .iconst 3, 1), (148, .iload 5, 2), (150, .imul, 1), (151, .iadd, 1), (152, .invokevirtual 403, 3), (155, .aload_n 0, 1), (156, .getfield 89, 3), (159, .iload_n 1, 1), (160, .iconst 0, 1), (161, .iastore, 1), (162, .return_, 1)]
noncomputable abbrev dlX11_laysRoom : List (Nat × Instr × Nat) := [(0, .aload_n 0, 1), (1, .iconst (-1), 1), (2, .putfield 400, 3), (5, .iconst 0, 1), (6, .istore_n 3, 1), (7, .iload_n 3, 1), (8, .bipush 8, 2), (10, .if_icmp .ge 16, 3), (13, .aload_n 0, 1), (14, .getfield 89, 3), (17, .iload_n 3, 1), (18, .iconst 0, 1), (19, .iastore, 1), (20, .iinc 3 1, 3), (23, .goto (-16), 3), (26, .aload_n 0, 1), (27, .iconst 0, 1), (28, .iload_n 1, 1), (29, .iload_n 2, 1), (30, .iconst 0, 1), (31, .invokevirtual 403, 3), (34, .return_, 1)]
noncomputable abbrev dlX11_room : List (Nat × Instr × Nat) := [(0, .aload_n 0, 1), (1, .iconst 0, 1), (2, .putfield 101, 3), (5, .aload_n 0, 1), (6, .aload_n 0, 1), (7, .iload_n 1, 1), (8, .invokevirtual 407, 3), (11, .ifCond .eq 14, 3), (14, .iload_n 2, 1), (15, .iconst 0, 1), (16, .sipush 200, 3), (19, .invokestatic 135, 3), (22, .ifCond .ne 7, 3), (25, .iconst 1, 1), (26, .goto 4, 3), (29, .iconst 0, 1), (30, .iconst 1, 1), (31, .iconst 1, 1), (32, .invokevirtual 177, 3), (35, .ifCond .eq 5, 3), (38, .iconst 0, 1), (39, .ireturn, 1), (40, .aload_n 0, 1), (41, .iload_n 1, 1), (42, .iload_n 2, 1), (43, .invokevirtual 410, 3), (46, .aload_n 0, 1), (47, .getfield 400, 3), (50, .ireturn, 1)]
noncomputable abbrev dlX11_lines : List (Nat × Instr × Nat) := [(0, .aload_n 0, 1), (1, .iconst 0, 1), (2, .putfield 101, 3), (5, .aload_n 0, 1), (6, .aload_n 0, 1), (7, .iload_n 3, 1), (8, .invokevirtual 331, 3), (11, .ifCond .ne 7, 3), (14, .iconst 1, 1), (15, .goto 4, 3), (18, .iconst 0, 1), (19, .iconst 1, 1), (20, .iconst 0, 1), (21, .invokevirtual 177, 3), (24, .ifCond .ne 36, 3), (27, .aload_n 0, 1), (28, .aload_n 0, 1), (29, .iload_n 1, 1), (30, .invokevirtual 407, 3), (33, .ifCond .eq 14, 3), (36, .iload_n 2, 1), (37, .iconst 0, 1), (38, .sipush 200, 3), (41, .invokestatic 135, 3), (44, .ifCond .ne 7, 3), (47, .iconst 1, 1), (48, .goto 4, 3), (51, .iconst 0, 1), (52, .iconst 2, 1), (53, .iconst 1, 1), (54, .invokevirtual 177, 3), (57, .ifCond .eq 5, 3), (60, .iconst 0, 1), (61, .ireturn, 1), (62, .aload_n 0, 1), (63, .iload_n 1, 1), (64, .iload_n 2, 1), (65, .invokevirtual 410, 3), (68, .aload_n 0, 1), (69, .getfield 92, 3), (72, .iload_n 3, 1), (73, .iaload, 1), (74, .ireturn, 1)]
noncomputable abbrev dlX11_ones : List (Nat × Instr × Nat) := [(0, .iconst 0, 1), (1, .istore_n 1, 1), (2, .iconst 0, 1), (3, .istore_n 2, 1), (4, .iload_n 2, 1), (5, .bipush 8, 2), (7, .if_icmp .ge 17, 3), (10, .iload_n 1, 1), (11, .iload_n 0, 1), (12, .iload_n 2, 1), (13, .ishr, 1), (14, .iconst 1, 1), (15, .iand, 1), (16, .iadd, 1), (17, .istore_n 1, 1), (18, .iinc 2 1, 3), (21, .goto (-17), 3), (24, .iload_n 1, 1), (25, .ireturn, 1)]
noncomputable abbrev dlX11_isApart : List (Nat × Instr × Nat) := [(0, .iconst 0, 1), (1, .istore_n 3, 1), (2, .iload_n 3, 1), (3, .aload_n 0, 1), (4, .getfield 23, 3), (7, .iconst 0, 1), (8, .iaload, 1), (9, .if_icmp .ge 74, 3), (12, .iconst 0, 1), (13, .istore 4, 2), (15, .iload 4, 2), (17, .iload_n 3, 1), (18, .if_icmp .ge 59, 3), (21, .iload_n 1, 1), (22, .iload_n 3, 1), (23, .invokestatic 256, 3), (26, .ifCond .eq 45, 3), (29, .iload_n 1, 1), (30, .iload 4, 2), (32, .invokestatic 256, 3), (35, .ifCond .eq 36, 3), (38, .aload_n 0, 1), (39, .iload_n 3, 1), (40, .aload_n 0, 1), (41, .getfield 61, 3), (44, .bipush 10, 2), (46, .iaload, 1), (47, .invokevirtual 334, 3), (50, .aload_n 0, 1), (51, .iload 4, 2), (53, .aload_n 0, 1), (54, .getfield 61, 3), (57, .bipush 10, 2), (59, .iaload, 1), (60, .invokevirtual 334, 3), (63, .ixor, 1), (64, .iload_n 2, 1), (65, .iand, 1), (66, .ifCond .ne 5, 3), (69, .iconst 0, 1), (70, .ireturn, 1), (71, .iinc 4 1, 3), (74, .goto (-59), 3), (77, .iinc 3 1, 3), (80, .goto (-78), 3), (83, .iconst 1, 1), (84, .ireturn, 1)]
noncomputable abbrev dlX11_apart : List (Nat × Instr × Nat) := [(0, .aload_n 0, 1), (1, .iconst 0, 1), (2, .putfield 101, 3), (5, .aload_n 0, 1), (6, .aload_n 0, 1), (7, .iload_n 1, 1), (8, .invokevirtual 407, 3), (11, .ifCond .eq 12, 3), (14, .iload_n 2, 1), (15, .iconst 0, 1), (16, .iconst 1, 1), (17, .invokestatic 135, 3), (20, .ifCond .ne 7, 3), (23, .iconst 1, 1), (24, .goto 4, 3), (27, .iconst 0, 1), (28, .iconst 1, 1), (29, .iconst 1, 1), (30, .invokevirtual 177, 3), (33, .ifCond .eq 5, 3), (36, .iconst 0, 1), (37, .ireturn, 1), (38, .iconst (-1), 1), (39, .istore_n 3, 1), (40, .iconst 0, 1), (41, .istore 4, 2), (43, .iload 4, 2), (45, .bipush 64, 2), (47, .if_icmp .ge 39, 3), (50, .aload_n 0, 1), (51, .iload_n 1, 1), (52, .iload 4, 2), (54, .invokevirtual 413, 3), (57, .ifCond .eq 23, 3), (60, .iload_n 3, 1), (61, .iconst (-1), 1), (62, .if_icmp .eq 15, 3), (65, .iload 4, 2), (67, .invokestatic 416, 3), (70, .iload_n 3, 1), (71, .invokestatic 416, 3), (74, .if_icmp .ge 6, 3), (77, .iload 4, 2), (79, .istore_n 3, 1), (80, .iinc 4 1, 3), (83, .goto (-40), 3), (86, .iload_n 2, 1), (87, .iconst 1, 1), (88, .if_icmp .eq 8, 3), (91, .iload_n 3, 1), (92, .iconst (-1), 1), (93, .if_icmp .ne 7, 3), (96, .iload_n 3, 1), (97, .goto 7, 3), (100, .iload_n 3, 1), (101, .invokestatic 416, 3), (104, .ireturn, 1)]
noncomputable abbrev dlX11_twins : List (Nat × Instr × Nat) := [(0, .aload_n 0, 1), (1, .iconst 0, 1), (2, .putfield 101, 3), (5, .iconst 0, 1), (6, .istore_n 1, 1), (7, .iload_n 1, 1), (8, .aload_n 0, 1), (9, .getfield 23, 3), (12, .iconst 0, 1), (13, .iaload, 1), (14, .if_icmp .ge 63, 3), (17, .iload_n 1, 1), (18, .iconst 1, 1), (19, .iadd, 1), (20, .istore_n 2, 1), (21, .iload_n 2, 1), (22, .aload_n 0, 1), (23, .getfield 23, 3), (26, .iconst 0, 1), (27, .iaload, 1), (28, .if_icmp .ge 43, 3), (31, .aload_n 0, 1), (32, .iload_n 1, 1), (33, .aload_n 0, 1), (34, .getfield 61, 3), (37, .bipush 10, 2), (39, .iaload, 1), (40, .invokevirtual 334, 3), (43, .aload_n 0, 1), (44, .iload_n 2, 1), (45, .aload_n 0, 1), (46, .getfield 61, 3), (49, .bipush 10, 2), (51, .iaload, 1), (52, .invokevirtual 334, 3), (55, .if_icmp .ne 10, 3), (58, .bipush 10, 2), (60, .iload_n 1, 1), (61, .imul, 1), (62, .iload_n 2, 1), (63, .iadd, 1), (64, .ireturn, 1), (65, .iinc 2 1, 3), (68, .goto (-47), 3), (71, .iinc 1 1, 3), (74, .goto (-67), 3), (77, .iconst (-1), 1), (78, .ireturn, 1)]
noncomputable abbrev dlX11_writtenOf : List (Nat × Instr × Nat) := [(0, .lconst 0, 1), (1, .lstore_n 2, 1), (2, .iconst 0, 1), (3, .istore 4, 2), (5, .iload 4, 2), (7, .bipush 60, 2), (9, .if_icmp .gt 89, 3), (12, .iconst 1, 1), (13, .istore 5, 2), (15, .iconst 0, 1), (16, .istore 6, 2), (18, .iload 6, 2), (20, .aload_n 0, 1), (21, .getfield 197, 3), (24, .if_icmp .ge 52, 3), (27, .iload 5, 2), (29, .ifCond .eq 38, 3), (32, .aload_n 0, 1), (33, .iload_n 1, 1), (34, .iload 4, 2), (36, .invokevirtual 334, 3), (39, .aload_n 0, 1), (40, .getfield 46, 3), (43, .iload 6, 2), (45, .aaload, 1), (46, .iconst 0, 1), (47, .iaload, 1), (48, .ishr, 1), (49, .iconst 1, 1), (50, .iand, 1), (51, .aload_n 0, 1), (52, .getfield 46, 3), (55, .iload 6, 2), (57, .aaload, 1), (58, .iconst 1, 1), (59, .iaload, 1), (60, .if_icmp .ne 7, 3), (63, .iconst 1, 1), (64, .goto 4, 3), (67, .iconst 0, 1), (68, .istore 5, 2), (70, .iinc 6 1, 3), (73, .goto (-55), 3), (76, .lload_n 2, 1), (77, .iload 5, 2), (79, .ifCond .eq 10, 3), (82, .lconst 1, 1), (83, .iload 4, 2), (85, .lshl, 1), (86, .goto 4, 3), (89, .lconst 0, 1), (90, .lor, 1), (91, .lstore_n 2, 1), (92, .iinc 4 1, 3), (95, .goto (-90), 3), (98, .lload_n 2, 1), (99, .lreturn, 1)]
noncomputable abbrev dlX11_written : List (Nat × Instr × Nat) := [(0, .aload_n 0, 1), (1, .iconst 0, 1), (2, .putfield 101, 3), (5, .aload_n 0, 1), (6, .aload_n 0, 1), (7, .iload_n 1, 1), (8, .invokevirtual 331, 3), (11, .ifCond .ne 7, 3), (14, .iconst 1, 1), (15, .goto 4, 3), (18, .iconst 0, 1), (19, .iconst 1, 1), (20, .iconst 0, 1), (21, .invokevirtual 177, 3), (24, .ifCond .eq 5, 3), (27, .lconst 0, 1), (28, .lreturn, 1), (29, .aload_n 0, 1), (30, .iload_n 1, 1), (31, .invokevirtual 419, 3), (34, .lreturn, 1)]
noncomputable abbrev dlX11_whose : List (Nat × Instr × Nat) := [(0, .aload_n 0, 1), (1, .iconst 0, 1), (2, .putfield 101, 3), (5, .iconst 0, 1), (6, .istore_n 1, 1), (7, .iconst 0, 1), (8, .istore_n 2, 1), (9, .iload_n 2, 1), (10, .aload_n 0, 1), (11, .getfield 23, 3), (14, .iconst 0, 1), (15, .iaload, 1), (16, .if_icmp .ge 29, 3), (19, .iload_n 1, 1), (20, .aload_n 0, 1), (21, .iload_n 2, 1), (22, .invokevirtual 419, 3), (25, .lconst 0, 1), (26, .lcmp, 1), (27, .ifCond .eq 9, 3), (30, .iconst 1, 1), (31, .iload_n 2, 1), (32, .ishl, 1), (33, .goto 4, 3), (36, .iconst 0, 1), (37, .ior, 1), (38, .istore_n 1, 1), (39, .iinc 2 1, 3), (42, .goto (-33), 3), (45, .iload_n 1, 1), (46, .ireturn, 1)]
noncomputable abbrev dlX11_riskIn : List (Nat × Instr × Nat) := [(0, .aload_n 0, 1), (1, .getfield 61, 3), (4, .aload_n 0, 1), (5, .getfield 64, 3), (8, .invokestatic 323, 3), (11, .iconst 0, 1), (12, .istore_n 2, 1), (13, .iload_n 2, 1), (14, .iload_n 1, 1), (15, .if_icmp .ge 18, 3), (18, .aload_n 0, 1), (19, .aload_n 0, 1), (20, .getfield 64, 3), (23, .invokevirtual 306, 3), (26, .pop, 1), (27, .iinc 2 1, 3), (30, .goto (-17), 3), (33, .aload_n 0, 1), (34, .aload_n 0, 1), (35, .getfield 64, 3), (38, .invokevirtual 349, 3), (41, .lreturn, 1)]
noncomputable abbrev dlX11_ahead : List (Nat × Instr × Nat) := [(0, .aload_n 0, 1), (1, .iconst 0, 1), (2, .putfield 101, 3), (5, .aload_n 0, 1), (6, .iload_n 1, 1), (7, .iconst 0, 1), (8, .bipush 60, 2), (10, .invokestatic 135, 3), (13, .ifCond .ne 7, 3), (16, .iconst 1, 1), (17, .goto 4, 3), (20, .iconst 0, 1), (21, .iconst 1, 1), (22, .iconst 1, 1), (23, .invokevirtual 177, 3), (26, .ifCond .ne 12, 3), (29, .aload_n 0, 1), (30, .iload_n 2, 1), (31, .iconst 1, 1), (32, .invokevirtual 340, 3), (35, .ifCond .eq 5, 3), (38, .lconst 0, 1), (39, .lreturn, 1), (40, .aload_n 0, 1), (41, .iload_n 1, 1), (42, .invokevirtual 423, 3), (45, .ldc2_w 353, 3), (48, .iload_n 2, 1), (49, .invokestatic 345, 3), (52, .lreturn, 1)]
noncomputable abbrev dlX11_worst : List (Nat × Instr × Nat) := [(0, .aload_n 0, 1), (1, .iconst 0, 1), (2, .putfield 101, 3), (5, .iconst 0, 1), (6, .istore_n 1, 1), (7, .iconst 1, 1), (8, .istore_n 2, 1), (9, .iload_n 2, 1), (10, .bipush 60, 2), (12, .if_icmp .gt 29, 3), (15, .aload_n 0, 1), (16, .iload_n 2, 1), (17, .invokevirtual 423, 3), (20, .aload_n 0, 1), (21, .iload_n 1, 1), (22, .invokevirtual 423, 3), (25, .lcmp, 1), (26, .ifCond .le 7, 3), (29, .iload_n 2, 1), (30, .goto 4, 3), (33, .iload_n 1, 1), (34, .istore_n 1, 1), (35, .iinc 2 1, 3), (38, .goto (-29), 3), (41, .iload_n 1, 1), (42, .ireturn, 1)]
noncomputable abbrev dlX11_lives : List (Nat × Instr × Nat) := [(0, .aload_n 0, 1), (1, .iconst 0, 1), (2, .putfield 101, 3), (5, .aload_n 0, 1), (6, .aload_n 0, 1), (7, .iload_n 1, 1), (8, .invokevirtual 331, 3), (11, .ifCond .ne 7, 3), (14, .iconst 1, 1), (15, .goto 4, 3), (18, .iconst 0, 1), (19, .iconst 1, 1), (20, .iconst 0, 1), (21, .invokevirtual 177, 3), (24, .ifCond .ne 36, 3), (27, .aload_n 0, 1), (28, .iload_n 2, 1), (29, .iconst 0, 1), (30, .bipush 8, 2), (32, .invokestatic 135, 3), (35, .ifCond .ne 7, 3), (38, .iconst 1, 1), (39, .goto 4, 3), (42, .iconst 0, 1), (43, .iconst 2, 1), (44, .iconst 1, 1), (45, .invokevirtual 177, 3), (48, .ifCond .ne 12, 3), (51, .aload_n 0, 1), (52, .iload_n 3, 1), (53, .iconst 2, 1), (54, .invokevirtual 340, 3), (57, .ifCond .eq 5, 3), (60, .lconst 0, 1), (61, .lreturn, 1), (62, .aload_n 0, 1), (63, .getfield 61, 3), (66, .iconst 0, 1), (67, .iaload, 1), (68, .iload_n 1, 1), (69, .invokestatic 256, 3), (72, .ifCond .eq 7, 3), (75, .lconst 0, 1), (76, .goto 19, 3), (79, .bipush 64, 2), (81, .aload_n 0, 1), (82, .getfield 31, 3), (85, .iload_n 1, 1), (86, .aaload, 1), (87, .iconst 1, 1), (88, .iaload, 1), (89, .isub, 1), (90, .i2l, 1), (91, .iload_n 2, 1), (92, .invokestatic 365, 3), (95, .ldc2_w 343, 3), (98, .iload_n 2, 1), (99, .invokestatic 365, 3), (102, .iload_n 3, 1), (103, .invokestatic 345, 3), (106, .lreturn, 1)]
noncomputable abbrev dlX11_oldest : List (Nat × Instr × Nat) := [(0, .aload_n 0, 1), (1, .iconst 0, 1), (2, .putfield 101, 3), (5, .iconst (-1), 1), (6, .istore_n 1, 1), (7, .iconst 0, 1), (8, .istore_n 2, 1), (9, .iload_n 2, 1), (10, .aload_n 0, 1), (11, .getfield 23, 3), (14, .iconst 0, 1), (15, .iaload, 1), (16, .if_icmp .ge 46, 3), (19, .aload_n 0, 1), (20, .getfield 61, 3), (23, .iload_n 2, 1), (24, .invokestatic 283, 3), (27, .ifCond .eq 29, 3), (30, .iload_n 1, 1), (31, .iconst (-1), 1), (32, .if_icmp .eq 22, 3), (35, .aload_n 0, 1), (36, .getfield 61, 3), (39, .iconst 1, 1), (40, .iload_n 2, 1), (41, .iadd, 1), (42, .iaload, 1), (43, .aload_n 0, 1), (44, .getfield 61, 3), (47, .iconst 1, 1), (48, .iload_n 1, 1), (49, .iadd, 1), (50, .iaload, 1), (51, .if_icmp .ge 5, 3), (54, .iload_n 2, 1), (55, .istore_n 1, 1), (56, .iinc 2 1, 3), (59, .goto (-50), 3), (62, .iload_n 1, 1), (63, .ireturn, 1)]
noncomputable abbrev dlX11_chain : List (Nat × Instr × Nat) := [(0, .aload_n 0, 1), (1, .iconst 0, 1), (2, .putfield 101, 3), (5, .aload_n 0, 1), (6, .aload_n 0, 1), (7, .iload_n 1, 1), (8, .invokevirtual 331, 3), (11, .ifCond .ne 7, 3), (14, .iconst 1, 1), (15, .goto 4, 3), (18, .iconst 0, 1), (19, .iconst 1, 1), (20, .iconst 0, 1), (21, .invokevirtual 177, 3), (24, .ifCond .ne 26, 3), (27, .aload_n 0, 1), (28, .iload_n 2, 1), (29, .iconst 0, 1), (30, .iconst 1, 1), (31, .invokestatic 135, 3), (34, .ifCond .ne 7, 3), (37, .iconst 1, 1), (38, .goto 4, 3), (41, .iconst 0, 1), (42, .iconst 2, 1), (43, .iconst 1, 1), (44, .invokevirtual 177, 3), (47, .ifCond .eq 5, 3), (50, .iconst 0, 1), (51, .ireturn, 1), (52, .iconst 1, 1), (53, .iload_n 1, 1), (54, .ishl, 1), (55, .istore_n 3, 1), (56, .iload_n 1, 1), (57, .istore 4, 2), (59, .aload_n 0, 1), (60, .getfield 31, 3), (63, .iload 4, 2), (65, .aaload, 1), (66, .iconst 5, 1), (67, .iaload, 1), (68, .iconst (-1), 1), (69, .if_icmp .eq 40, 3), (72, .iload_n 3, 1), (73, .aload_n 0, 1), (74, .getfield 31, 3), (77, .iload 4, 2), (79, .aaload, 1), (80, .iconst 5, 1), (81, .iaload, 1), (82, .invokestatic 256, 3), (85, .ifCond .ne 24, 3), (88, .aload_n 0, 1), (89, .getfield 31, 3), (92, .iload 4, 2), (94, .aaload, 1), (95, .iconst 5, 1), (96, .iaload, 1), (97, .istore 4, 2), (99, .iload_n 3, 1), (100, .iconst 1, 1), (101, .iload 4, 2), (103, .ishl, 1), (104, .ior, 1), (105, .istore_n 3, 1), (106, .goto (-47), 3), (109, .iload_n 2, 1), (110, .ifCond .ne 10, 3), (113, .iload_n 3, 1), (114, .invokestatic 416, 3), (117, .goto 5, 3), (120, .iload 4, 2), (122, .ireturn, 1)]
noncomputable abbrev dlX11_due : List (Nat × Instr × Nat) := [(0, .aload_n 0, 1), (1, .iconst 0, 1), (2, .putfield 101, 3), (5, .aload_n 0, 1), (6, .aload_n 0, 1), (7, .iload_n 1, 1), (8, .invokevirtual 331, 3), (11, .ifCond .ne 7, 3), (14, .iconst 1, 1), (15, .goto 4, 3), (18, .iconst 0, 1), (19, .iconst 1, 1), (20, .iconst 0, 1), (21, .invokevirtual 177, 3), (24, .ifCond .ne 27, 3), (27, .aload_n 0, 1), (28, .iload_n 2, 1), (29, .iconst 0, 1), (30, .bipush 65, 2), (32, .invokestatic 135, 3), (35, .ifCond .ne 7, 3), (38, .iconst 1, 1), (39, .goto 4, 3), (42, .iconst 0, 1), (43, .iconst 2, 1), (44, .iconst 1, 1), (45, .invokevirtual 177, 3), (48, .ifCond .eq 5, 3), (51, .iconst 0, 1), (52, .ireturn, 1), (53, .iconst 0, 1), (54, .istore_n 3, 1), (55, .iload_n 3, 1), (56, .bipush 60, 2), (58, .if_icmp .gt 67, 3), (61, .aload_n 0, 1), (62, .getfield 61, 3), (65, .iload_n 1, 1), (66, .invokestatic 283, 3), (69, .ifCond .eq 56, 3), (72, .aload_n 0, 1), (73, .getfield 61, 3), (76, .bipush 10, 2), (78, .iaload, 1), (79, .iload_n 3, 1), (80, .iadd, 1), (81, .sipush 200, 3), (84, .if_icmp .gt 41, 3), (87, .aload_n 0, 1), (88, .aload_n 0, 1), (89, .getfield 61, 3), (92, .iload_n 1, 1), (93, .aload_n 0, 1), (94, .getfield 61, 3), (97, .iconst 1, 1), (98, .iload_n 1, 1), (99, .iadd, 1), (100, .iaload, 1), (101, .aload_n 0, 1), (102, .getfield 61, 3), (105, .bipush 10, 2), (107, .iaload, 1), (108, .iload_n 3, 1), (109, .iadd, 1), (110, .invokevirtual 276, 3), (113, .iload_n 2, 1), (114, .if_icmp .lt 5, 3), (117, .iload_n 3, 1), (118, .ireturn, 1), (119, .iinc 3 1, 3), (122, .goto (-67), 3), (125, .iconst (-1), 1), (126, .ireturn, 1)]
noncomputable abbrev dlX11_news : List (Nat × Instr × Nat) := [(0, .aload_n 0, 1), (1, .iconst 0, 1), (2, .putfield 101, 3), (5, .aload_n 0, 1), (6, .aload_n 0, 1), (7, .iload_n 1, 1), (8, .invokevirtual 331, 3), (11, .ifCond .ne 7, 3), (14, .iconst 1, 1), (15, .goto 4, 3), (18, .iconst 0, 1), (19, .iconst 1, 1), (20, .iconst 0, 1), (21, .invokevirtual 177, 3), (24, .ifCond .eq 5, 3), (27, .iconst 0, 1), (28, .ireturn, 1), (29, .iconst (-1), 1), (30, .istore_n 2, 1), (31, .iconst 0, 1), (32, .istore_n 3, 1), (33, .iload_n 3, 1), (34, .aload_n 0, 1), (35, .getfield 23, 3), (38, .iconst 1, 1), (39, .iaload, 1), (40, .if_icmp .ge 65, 3), (43, .aload_n 0, 1), (44, .getfield 37, 3), (47, .iload_n 3, 1), (48, .aaload, 1), (49, .iconst 0, 1), (50, .iaload, 1), (51, .iload_n 1, 1), (52, .if_icmp .ne 47, 3), (55, .aload_n 0, 1), (56, .getfield 37, 3), (59, .iload_n 3, 1), (60, .aaload, 1), (61, .iconst 2, 1), (62, .iaload, 1), (63, .aload_n 0, 1), (64, .getfield 61, 3), (67, .bipush 10, 2), (69, .iaload, 1), (70, .if_icmp .le 29, 3), (73, .iload_n 2, 1), (74, .iconst (-1), 1), (75, .if_icmp .eq 15, 3), (78, .aload_n 0, 1), (79, .getfield 37, 3), (82, .iload_n 3, 1), (83, .aaload, 1), (84, .iconst 2, 1), (85, .iaload, 1), (86, .iload_n 2, 1), (87, .if_icmp .ge 12, 3), (90, .aload_n 0, 1), (91, .getfield 37, 3), (94, .iload_n 3, 1), (95, .aaload, 1), (96, .iconst 2, 1), (97, .iaload, 1), (98, .istore_n 2, 1), (99, .iinc 3 1, 3), (102, .goto (-69), 3), (105, .iload_n 2, 1), (106, .ireturn, 1)]
noncomputable abbrev dlX11_expects : List (Nat × Instr × Nat) := [(0, .aload_n 0, 1), (1, .iconst 0, 1), (2, .putfield 101, 3), (5, .aload_n 0, 1), (6, .aload_n 0, 1), (7, .iload_n 1, 1), (8, .invokevirtual 331, 3), (11, .ifCond .ne 7, 3), (14, .iconst 1, 1), (15, .goto 4, 3), (18, .iconst 0, 1), (19, .iconst 1, 1), (20, .iconst 0, 1), (21, .invokevirtual 177, 3), (24, .ifCond .ne 36, 3), (27, .aload_n 0, 1), (28, .iload_n 2, 1), (29, .iconst 0, 1), (30, .bipush 7, 2), (32, .invokestatic 135, 3), (35, .ifCond .ne 7, 3), (38, .iconst 1, 1), (39, .goto 4, 3), (42, .iconst 0, 1), (43, .iconst 2, 1), (44, .iconst 1, 1), (45, .invokevirtual 177, 3), (48, .ifCond .ne 12, 3), (51, .aload_n 0, 1), (52, .iload_n 3, 1), (53, .iconst 2, 1), (54, .invokevirtual 340, 3), (57, .ifCond .eq 5, 3), (60, .lconst 0, 1), (61, .lreturn, 1), (62, .lconst 0, 1), (63, .lstore 4, 2), (65, .aload_n 0, 1), (66, .getfield 31, 3), (69, .iload_n 1, 1), (70, .aaload, 1), (71, .iconst 1, 1), (72, .iaload, 1), (73, .istore 6, 2), (75, .iconst 0, 1), (76, .istore 7, 2), (78, .iload 7, 2), (80, .iload_n 2, 1), (81, .if_icmp .ge 84, 3), (84, .aload_n 0, 1), (85, .getfield 61, 3), (88, .iconst 0, 1), (89, .iaload, 1), (90, .iload_n 1, 1), (91, .invokestatic 256, 3), (94, .ifCond .ne 71, 3), (97, .lload 4, 2), (99, .bipush 64, 2), (101, .iload 6, 2), (103, .isub, 1), (104, .i2l, 1), (105, .iload 7, 2), (107, .invokestatic 365, 3), (110, .iload 6, 2), (112, .i2l, 1), (113, .lmul, 1), (114, .aload_n 0, 1), (115, .aload_n 0, 1), (116, .getfield 61, 3), (119, .iload_n 1, 1), (120, .aload_n 0, 1), (121, .getfield 61, 3), (124, .iconst 1, 1), (125, .iload_n 1, 1), (126, .iadd, 1), (127, .iaload, 1), (128, .aload_n 0, 1), (129, .getfield 61, 3), (132, .bipush 10, 2), (134, .iaload, 1), (135, .iload 7, 2), (137, .iadd, 1), (138, .invokevirtual 280, 3), (141, .i2l, 1), (142, .lmul, 1), (143, .ldc2_w 343, 3), (146, .iload_n 2, 1), (147, .iconst 1, 1), (148, .isub, 1), (149, .iload 7, 2), (151, .isub, 1), (152, .invokestatic 365, 3), (155, .lmul, 1), (156, .ladd, 1), (157, .lstore 4, 2), (159, .iinc 7 1, 3), (162, .goto (-84), 3), (165, .lload 4, 2), (167, .ldc2_w 343, 3), (170, .iload_n 2, 1), (171, .iconst 1, 1), (172, .iadd, 1), (173, .invokestatic 365, 3), (176, .iload_n 3, 1), (177, .invokestatic 345, 3), (180, .lreturn, 1)]
noncomputable abbrev dlX11_yearsBy : List (Nat × Instr × Nat) := [(0, .aload_n 0, 1), (1, .getfield 61, 3), (4, .aload_n 0, 1), (5, .getfield 64, 3), (8, .invokestatic 323, 3), (11, .aload_n 0, 1), (12, .iload_n 1, 1), (13, .putfield 426, 3), (16, .aload_n 0, 1), (17, .iconst 0, 1), (18, .putfield 429, 3), (21, .iconst 0, 1), (22, .istore_n 3, 1), (23, .iload_n 3, 1), (24, .iload_n 2, 1), (25, .if_icmp .ge 166, 3), (28, .iconst 0, 1), (29, .istore 4, 2), (31, .iload 4, 2), (33, .aload_n 0, 1), (34, .getfield 23, 3), (37, .iconst 0, 1), (38, .iaload, 1), (39, .if_icmp .ge 74, 3), (42, .aload_n 0, 1), (43, .getfield 64, 3), (46, .iconst 0, 1), (47, .iaload, 1), (48, .iload 4, 2), (50, .invokestatic 256, 3), (53, .ifCond .eq 6, 3), (56, .goto 51, 3), (59, .aload_n 0, 1), (60, .aload_n 0, 1), (61, .getfield 426, 3), (64, .ldc_w 432, 3), (67, .imul, 1), (68, .sipush 12345, 3), (71, .iadd, 1), (72, .putfield 426, 3), (75, .aload_n 0, 1), (76, .getfield 426, 3), (79, .bipush 16, 2), (81, .ishr, 1), (82, .bipush 63, 2), (84, .iand, 1), (85, .aload_n 0, 1), (86, .getfield 31, 3), (89, .iload 4, 2), (91, .aaload, 1), (92, .iconst 1, 1), (93, .iaload, 1), (94, .if_icmp .ge 13, 3), (97, .aload_n 0, 1), (98, .aload_n 0, 1), (99, .getfield 64, 3), (102, .iload 4, 2), (104, .invokevirtual 303, 3), (107, .iinc 4 1, 3), (110, .goto (-79), 3), (113, .aload_n 0, 1), (114, .aload_n 0, 1), (115, .getfield 64, 3), (118, .aload_n 0, 1), (119, .getfield 64, 3), (122, .bipush 9, 2), (124, .iaload, 1), (125, .invokevirtual 358, 3), (128, .istore 4, 2), (130, .iload 4, 2), (132, .iconst (-1), 1), (133, .if_icmp .eq 43, 3), (136, .aload_n 0, 1), (137, .aload_n 0, 1), (138, .getfield 64, 3), (141, .iload 4, 2), (143, .invokevirtual 299, 3), (146, .aload_n 0, 1), (147, .dup, 1), (148, .getfield 429, 3), (151, .iconst 1, 1), (152, .iadd, 1), (153, .putfield 429, 3), (156, .aload_n 0, 1), (157, .aload_n 0, 1), (158, .getfield 64, 3), (161, .aload_n 0, 1), (162, .getfield 64, 3), (165, .bipush 9, 2), (167, .iaload, 1), (168, .invokevirtual 358, 3), (171, .istore 4, 2), (173, .goto (-43), 3), (176, .aload_n 0, 1), (177, .aload_n 0, 1), (178, .getfield 64, 3), (181, .invokevirtual 306, 3), (184, .pop, 1), (185, .iinc 3 1, 3), (188, .goto (-165), 3), (191, .return_, 1)]
noncomputable abbrev dlX11_years : List (Nat × Instr × Nat) := [(0, .aload_n 0, 1), (1, .iconst 0, 1), (2, .putfield 101, 3), (5, .aload_n 0, 1), (6, .iload_n 2, 1), (7, .iconst 1, 1), (8, .bipush 60, 2), (10, .invokestatic 135, 3), (13, .ifCond .eq 12, 3), (16, .iload_n 3, 1), (17, .iconst 0, 1), (18, .iconst 4, 1), (19, .invokestatic 135, 3), (22, .ifCond .ne 7, 3), (25, .iconst 1, 1), (26, .goto 4, 3), (29, .iconst 0, 1), (30, .iconst 1, 1), (31, .iconst 1, 1), (32, .invokevirtual 177, 3), (35, .ifCond .eq 5, 3), (38, .iconst 0, 1), (39, .ireturn, 1), (40, .aload_n 0, 1), (41, .iload_n 1, 1), (42, .iload_n 2, 1), (43, .invokevirtual 433, 3), (46, .iload_n 3, 1), (47, .tableswitch 75 0 3 #[29, 38, 54, 70], 29), (76, .aload_n 0, 1), (77, .aload_n 0, 1), (78, .getfield 64, 3), (81, .invokevirtual 327, 3), (84, .ireturn, 1), (85, .aload_n 0, 1), (86, .getfield 64, 3), (89, .bipush 11, 2), (91, .iaload, 1), (92, .aload_n 0, 1), (93, .getfield 61, 3), (96, .bipush 11, 2), (98, .iaload, 1), (99, .isub, 1), (100, .ireturn, 1), (101, .aload_n 0, 1), (102, .getfield 64, 3), (105, .bipush 12, 2), (107, .iaload, 1), (108, .aload_n 0, 1), (109, .getfield 61, 3), (112, .bipush 12, 2), (114, .iaload, 1), (115, .isub, 1), (116, .ireturn, 1), (117, .aload_n 0, 1), (118, .getfield 429, 3), (121, .ireturn, 1), (122, .aload_n 0, 1), (123, .getfield 64, 3), (126, .bipush 13, 2), (128, .iaload, 1), (129, .aload_n 0, 1), (130, .getfield 61, 3), (133, .bipush 13, 2), (135, .iaload, 1), (136, .isub, 1), (137, .bipush 64, 2), (139, .idiv, 1), (140, .ireturn, 1)]
noncomputable abbrev dlX11_span : List (Nat × Instr × Nat) := [(0, .aload_n 0, 1), (1, .iconst 0, 1), (2, .putfield 101, 3), (5, .aload_n 0, 1), (6, .iload_n 2, 1), (7, .iconst 1, 1), (8, .bipush 20, 2), (10, .invokestatic 135, 3), (13, .ifCond .eq 32, 3), (16, .iload_n 3, 1), (17, .iconst 1, 1), (18, .bipush 60, 2), (20, .invokestatic 135, 3), (23, .ifCond .eq 22, 3), (26, .iload 4, 2), (28, .iconst 0, 1), (29, .iconst 3, 1), (30, .invokestatic 135, 3), (33, .ifCond .eq 12, 3), (36, .aload_n 0, 1), (37, .iload 5, 2), (39, .invokevirtual 331, 3), (42, .ifCond .ne 7, 3), (45, .iconst 1, 1), (46, .goto 4, 3), (49, .iconst 0, 1), (50, .iconst 1, 1), (51, .iconst 1, 1), (52, .invokevirtual 177, 3), (55, .ifCond .eq 5, 3), (58, .iconst 0, 1), (59, .ireturn, 1), (60, .iconst (-1), 1), (61, .istore 6, 2), (63, .iconst 0, 1), (64, .istore 7, 2), (66, .iconst 0, 1), (67, .istore 8, 2), (69, .iconst 0, 1), (70, .istore 9, 2), (72, .iconst 0, 1), (73, .istore 10, 2), (75, .iload 10, 2), (77, .iload_n 2, 1), (78, .if_icmp .ge 95, 3), (81, .aload_n 0, 1), (82, .iload_n 1, 1), (83, .iload 10, 2), (85, .iadd, 1), (86, .iload_n 3, 1), (87, .invokevirtual 433, 3), (90, .aload_n 0, 1), (91, .getfield 64, 3), (94, .bipush 11, 2), (96, .iaload, 1), (97, .aload_n 0, 1), (98, .getfield 61, 3), (101, .bipush 11, 2), (103, .iaload, 1), (104, .isub, 1), (105, .istore 11, 2), (107, .iload 6, 2), (109, .iconst (-1), 1), (110, .if_icmp .ne 8, 3), (113, .iload 11, 2), (115, .goto 10, 3), (118, .iload 6, 2), (120, .iload 11, 2), (122, .invokestatic 237, 3), (125, .istore 6, 2), (127, .iload 7, 2), (129, .iload 11, 2), (131, .invokestatic 240, 3), (134, .istore 7, 2), (136, .iload 8, 2), (138, .iload 11, 2), (140, .iadd, 1), (141, .istore 8, 2), (143, .iload 9, 2), (145, .aload_n 0, 1), (146, .getfield 64, 3), (149, .iconst 0, 1), (150, .iaload, 1), (151, .iload 5, 2), (153, .invokestatic 256, 3), (156, .ifCond .eq 7, 3), (159, .iconst 0, 1), (160, .goto 4, 3), (163, .iconst 1, 1), (164, .iadd, 1), (165, .istore 9, 2), (167, .iinc 10 1, 3), (170, .goto (-95), 3), (173, .iload 4, 2), (175, .ifCond .ne 8, 3), (178, .iload 6, 2), (180, .goto 27, 3), (183, .iload 4, 2), (185, .iconst 1, 1), (186, .if_icmp .ne 8, 3), (189, .iload 7, 2), (191, .goto 16, 3), (194, .iload 4, 2), (196, .iconst 2, 1), (197, .if_icmp .ne 8, 3), (200, .iload 8, 2), (202, .goto 5, 3), (205, .iload 9, 2), (207, .ireturn, 1)]
noncomputable abbrev dlX11_puts : List (Nat × Instr × Nat) := [(0, .iload_n 3, 1), (1, .ifCond .ne 10, 3), (4, .aload_n 1, 1), (5, .aload_n 0, 1), (6, .getfield 436, 3), (9, .iload_n 2, 1), (10, .iastore, 1), (11, .aload_n 0, 1), (12, .dup, 1), (13, .getfield 436, 3), (16, .iconst 1, 1), (17, .iadd, 1), (18, .putfield 436, 3), (21, .aload_n 1, 1), (22, .aload_n 0, 1), (23, .getfield 436, 3), (26, .iconst 1, 1), (27, .isub, 1), (28, .iaload, 1), (29, .ireturn, 1)]
noncomputable abbrev dlX11_putsAll : List (Nat × Instr × Nat) := [(0, .aload_n 0, 1), (1, .iconst 0, 1), (2, .putfield 436, 3), (5, .aload_n 0, 1), (6, .aload_n 0, 1), (7, .aload_n 1, 1), (8, .aload_n 0, 1), (9, .getfield 200, 3), (12, .iload_n 2, 1), (13, .invokevirtual 439, 3), (16, .putfield 200, 3), (19, .iconst 0, 1), (20, .istore_n 3, 1), (21, .iload_n 3, 1), (22, .bipush 14, 2), (24, .if_icmp .ge 27, 3), (27, .aload_n 0, 1), (28, .getfield 61, 3), (31, .iload_n 3, 1), (32, .aload_n 0, 1), (33, .aload_n 1, 1), (34, .aload_n 0, 1), (35, .getfield 61, 3), (38, .iload_n 3, 1), (39, .iaload, 1), (40, .iload_n 2, 1), (41, .invokevirtual 439, 3), (44, .iastore, 1), (45, .iinc 3 1, 3), (48, .goto (-27), 3), (51, .iconst 0, 1), (52, .istore_n 3, 1), (53, .iload_n 3, 1), (54, .bipush 16, 2), (56, .if_icmp .ge 49, 3), (59, .iconst 0, 1), (60, .istore 4, 2), (62, .iload 4, 2), (64, .bipush 14, 2), (66, .if_icmp .ge 33, 3), (69, .aload_n 0, 1), (70, .getfield 67, 3), (73, .iload_n 3, 1), (74, .aaload, 1), (75, .iload 4, 2), (77, .aload_n 0, 1), (78, .aload_n 1, 1), (79, .aload_n 0, 1), (80, .getfield 67, 3), (83, .iload_n 3, 1), (84, .aaload, 1), (85, .iload 4, 2), (87, .iaload, 1), (88, .iload_n 2, 1), (89, .invokevirtual 439, 3), (92, .iastore, 1), (93, .iinc 4 1, 3), (96, .goto (-34), 3), (99, .iinc 3 1, 3), (102, .goto (-49), 3), (105, .return_, 1)]
noncomputable abbrev dlX11_image : List (Nat × Instr × Nat) := [(0, .aload_n 0, 1), (1, .iconst 0, 1), (2, .putfield 101, 3), (5, .aload_n 0, 1), (6, .getfield 206, 3), (9, .iconst 3, 1), (10, .if_icmp .ne 5, 3), (13, .iconst (-1), 1), (14, .ireturn, 1), (15, .aload_n 0, 1), (16, .aload_n 0, 1), (17, .getfield 70, 3), (20, .aload_n 0, 1), (21, .getfield 206, 3), (24, .aaload, 1), (25, .iconst 0, 1), (26, .invokevirtual 443, 3), (29, .aload_n 0, 1), (30, .dup, 1), (31, .getfield 206, 3), (34, .iconst 1, 1), (35, .iadd, 1), (36, .putfield 206, 3), (39, .aload_n 0, 1), (40, .getfield 206, 3), (43, .ireturn, 1)]
noncomputable abbrev dlX11_restore : List (Nat × Instr × Nat) := [(0, .aload_n 0, 1), (1, .iconst 0, 1), (2, .putfield 101, 3), (5, .aload_n 0, 1), (6, .getfield 206, 3), (9, .ifCond .ne 5, 3), (12, .iconst (-1), 1), (13, .ireturn, 1), (14, .aload_n 0, 1), (15, .dup, 1), (16, .getfield 206, 3), (19, .iconst 1, 1), (20, .isub, 1), (21, .putfield 206, 3), (24, .aload_n 0, 1), (25, .aload_n 0, 1), (26, .getfield 70, 3), (29, .aload_n 0, 1), (30, .getfield 206, 3), (33, .aaload, 1), (34, .iconst 1, 1), (35, .invokevirtual 443, 3), (38, .aload_n 0, 1), (39, .iconst 0, 1), (40, .putfield 203, 3), (43, .aload_n 0, 1), (44, .getfield 206, 3), (47, .ireturn, 1)]
noncomputable abbrev dlX11_status : List (Nat × Instr × Nat) := [(0, .aload_n 0, 1), (1, .iconst 0, 1), (2, .putfield 101, 3), (5, .iload_n 1, 1), (6, .iconst 0, 1), (7, .iconst 1, 1), (8, .invokestatic 135, 3), (11, .ifCond .eq 12, 3), (14, .aload_n 0, 1), (15, .getfield 17, 3), (18, .iload_n 1, 1), (19, .iaload, 1), (20, .goto 4, 3), (23, .iconst (-1), 1), (24, .ireturn, 1)]
noncomputable abbrev dlX11_count : List (Nat × Instr × Nat) := [(0, .aload_n 0, 1), (1, .iconst 0, 1), (2, .putfield 101, 3), (5, .iload_n 1, 1), (6, .ifCond .ne 10, 3), (9, .aload_n 0, 1), (10, .getfield 206, 3), (13, .goto 28, 3), (16, .iload_n 1, 1), (17, .iconst 1, 1), (18, .if_icmp .ne 10, 3), (21, .aload_n 0, 1), (22, .getfield 104, 3), (25, .goto 16, 3), (28, .iload_n 1, 1), (29, .iconst 2, 1), (30, .if_icmp .ne 10, 3), (33, .aload_n 0, 1), (34, .getfield 200, 3), (37, .goto 4, 3), (40, .iconst (-1), 1), (41, .ireturn, 1)]
noncomputable abbrev dlJ6_bitCount_0f7a4 : List (Nat × Instr × Nat) := [(0, .iload_n 0, 1), (1, .iload_n 0, 1), (2, .iconst 1, 1), (3, .iushr, 1), (4, .ldc_w 265, 3), (7, .iand, 1), (8, .isub, 1), (9, .istore_n 0, 1), (10, .iload_n 0, 1), (11, .ldc_w 266, 3), (14, .iand, 1), (15, .iload_n 0, 1), (16, .iconst 2, 1), (17, .iushr, 1), (18, .ldc_w 266, 3), (21, .iand, 1), (22, .iadd, 1), (23, .istore_n 0, 1), (24, .iload_n 0, 1), (25, .iload_n 0, 1), (26, .iconst 4, 1), (27, .iushr, 1), (28, .iadd, 1), (29, .ldc_w 267, 3), (32, .iand, 1), (33, .istore_n 0, 1), (34, .iload_n 0, 1), (35, .iload_n 0, 1), (36, .bipush 8, 2), (38, .iushr, 1), (39, .iadd, 1), (40, .istore_n 0, 1), (41, .iload_n 0, 1), (42, .iload_n 0, 1), (43, .bipush 16, 2), (45, .iushr, 1), (46, .iadd, 1), (47, .istore_n 0, 1), (48, .iload_n 0, 1), (49, .bipush 63, 2), (51, .iand, 1), (52, .ireturn, 1)]
noncomputable abbrev dlJ9_max_7cf53 : List (Nat × Instr × Nat) := [(0, .iload_n 0, 1), (1, .iload_n 1, 1), (2, .if_icmp .lt 7, 3), (5, .iload_n 0, 1), (6, .goto 4, 3), (9, .iload_n 1, 1), (10, .ireturn, 1)]
noncomputable abbrev dlJ9_max_f86c9 : List (Nat × Instr × Nat) := [(0, .lload_n 0, 1), (1, .lload_n 2, 1), (2, .lcmp, 1), (3, .ifCond .lt 7, 3), (6, .lload_n 0, 1), (7, .goto 4, 3), (10, .lload_n 2, 1), (11, .lreturn, 1)]
noncomputable abbrev dlJ9_min_7cf53 : List (Nat × Instr × Nat) := [(0, .iload_n 0, 1), (1, .iload_n 1, 1), (2, .if_icmp .gt 7, 3), (5, .iload_n 0, 1), (6, .goto 4, 3), (9, .iload_n 1, 1), (10, .ireturn, 1)]
noncomputable abbrev dlJ9_min_f86c9 : List (Nat × Instr × Nat) := [(0, .lload_n 0, 1), (1, .lload_n 2, 1), (2, .lcmp, 1), (3, .ifCond .gt 7, 3), (6, .lload_n 0, 1), (7, .goto 4, 3), (10, .lload_n 2, 1), (11, .lreturn, 1)]
noncomputable abbrev dlJ0_length_8abf5 : List (Nat × Instr × Nat) := [(0, .aload_n 0, 1), (1, .getfield 9, 3), (4, .arraylength, 1), (5, .aload_n 0, 1), (6, .invokevirtual 335, 3), (9, .ishr, 1), (10, .ireturn, 1)]
noncomputable abbrev dlJ0_charAt_5068e : List (Nat × Instr × Nat) := [(0, .aload_n 0, 1), (1, .invokevirtual 492, 3), (4, .ifCond .eq 12, 3), (7, .aload_n 0, 1), (8, .getfield 9, 3), (11, .iload_n 1, 1), (12, .invokestatic 495, 3), (15, .ireturn, 1), (16, .aload_n 0, 1), (17, .getfield 9, 3), (20, .iload_n 1, 1), (21, .invokestatic 498, 3), (24, .ireturn, 1)]
noncomputable abbrev dlJ0_coder_7d493 : List (Nat × Instr × Nat) := [(0, .getstatic 38, 3), (3, .ifCond .eq 10, 3), (6, .aload_n 0, 1), (7, .getfield 15, 3), (10, .goto 4, 3), (13, .iconst 1, 1), (14, .ireturn, 1)]
noncomputable abbrev dlJ0_isLatin1_aae02 : List (Nat × Instr × Nat) := [(0, .getstatic 38, 3), (3, .ifCond .eq 14, 3), (6, .aload_n 0, 1), (7, .getfield 15, 3), (10, .ifCond .ne 7, 3), (13, .iconst 1, 1), (14, .goto 4, 3), (17, .iconst 0, 1), (18, .ireturn, 1)]
noncomputable abbrev dlJ0_checkIndex_df160 : List (Nat × Instr × Nat) := [(0, .iload_n 0, 1), (1, .iload_n 1, 1), (2, .getstatic 1053, 3), (5, .invokestatic 1059, 3), (8, .pop, 1), (9, .return_, 1)]
noncomputable abbrev dlJ1_charAt_3b067 : List (Nat × Instr × Nat) := [(0, .iload_n 1, 1), (1, .aload_n 0, 1), (2, .arraylength, 1), (3, .invokestatic 9, 3), (6, .aload_n 0, 1), (7, .iload_n 1, 1), (8, .baload, 1), (9, .sipush 255, 3), (12, .iand, 1), (13, .i2c, 1), (14, .ireturn, 1)]
noncomputable abbrev dlJ2_getChar_3b067 : List (Nat × Instr × Nat) := [(0, .getstatic 44, 3), (3, .ifCond .ne 25, 3), (6, .iload_n 1, 1), (7, .ifCond .lt 11, 3), (10, .iload_n 1, 1), (11, .aload_n 0, 1), (12, .invokestatic 48, 3), (15, .if_icmp .lt 13, 3), (18, .new 52, 3), (21, .dup, 1), (22, .ldc 54, 2), (24, .invokespecial 56, 3), (27, .athrow, 1), (28, .iload_n 1, 1), (29, .iconst 1, 1), (30, .ishl, 1), (31, .istore_n 1, 1), (32, .aload_n 0, 1), (33, .iload_n 1, 1), (34, .iinc 1 1, 3), (37, .baload, 1), (38, .sipush 255, 3), (41, .iand, 1), (42, .getstatic 59, 3), (45, .ishl, 1), (46, .aload_n 0, 1), (47, .iload_n 1, 1), (48, .baload, 1), (49, .sipush 255, 3), (52, .iand, 1), (53, .getstatic 63, 3), (56, .ishl, 1), (57, .ior, 1), (58, .i2c, 1), (59, .ireturn, 1)]
noncomputable abbrev dlJ2_length_9d52b : List (Nat × Instr × Nat) := [(0, .aload_n 0, 1), (1, .arraylength, 1), (2, .iconst 1, 1), (3, .ishr, 1), (4, .ireturn, 1)]
noncomputable abbrev dlJ2_charAt_3b067 : List (Nat × Instr × Nat) := [(0, .iload_n 1, 1), (1, .aload_n 0, 1), (2, .invokestatic 67, 3), (5, .aload_n 0, 1), (6, .iload_n 1, 1), (7, .invokestatic 71, 3), (10, .ireturn, 1)]
noncomputable abbrev dlJ2_checkIndex_2214a : List (Nat × Instr × Nat) := [(0, .iload_n 0, 1), (1, .aload_n 1, 1), (2, .invokestatic 48, 3), (5, .invokestatic 414, 3), (8, .return_, 1)]
noncomputable abbrev dlJ7_fill_d0a16 : List (Nat × Instr × Nat) := [(0, .iconst 0, 1), (1, .istore_n 3, 1), (2, .aload_n 0, 1), (3, .arraylength, 1), (4, .istore 4, 2), (6, .iload_n 3, 1), (7, .iload 4, 2), (9, .if_icmp .ge 13, 3), (12, .aload_n 0, 1), (13, .iload_n 3, 1), (14, .lload_n 1, 1), (15, .lastore, 1), (16, .iinc 3 1, 3), (19, .goto (-13), 3), (22, .return_, 1)]
noncomputable abbrev dlJ7_fill_53178 : List (Nat × Instr × Nat) := [(0, .iconst 0, 1), (1, .istore_n 2, 1), (2, .aload_n 0, 1), (3, .arraylength, 1), (4, .istore_n 3, 1), (5, .iload_n 2, 1), (6, .iload_n 3, 1), (7, .if_icmp .ge 13, 3), (10, .aload_n 0, 1), (11, .iload_n 2, 1), (12, .iload_n 1, 1), (13, .iastore, 1), (14, .iinc 2 1, 3), (17, .goto (-12), 3), (20, .return_, 1)]
noncomputable abbrev dlJ3_checkIndex_8e157 : List (Nat × Instr × Nat) := [(0, .iload_n 0, 1), (1, .ifCond .lt 8, 3), (4, .iload_n 0, 1), (5, .iload_n 1, 1), (6, .if_icmp .lt 10, 3), (9, .aload_n 2, 1), (10, .iload_n 0, 1), (11, .iload_n 1, 1), (12, .invokestatic 95, 3), (15, .athrow, 1), (16, .iload_n 0, 1), (17, .ireturn, 1)]
end
-- P 03b
section
-- DECODING, byte after byte
theorem dk_at {c : ByteArray} {p : Nat} {b : UInt8} {r : List UInt8} (h : c.data.toList.drop p = b :: r) : ∃ hp : p < c.size, c[p] = b ∧ c.data.toList.drop (p + 1) = r := by
  have hl : p < c.data.toList.length := by
    rcases Nat.lt_or_ge p c.data.toList.length with h1 | h1
    · exact h1
    · rw [List.drop_eq_nil_of_le h1] at h
      cases h
  have h2 := List.drop_eq_getElem_cons hl
  rw [h] at h2
  have h3 := (List.cons.inj h2)
  exact ⟨hl, h3.1.symm, h3.2.symm⟩
theorem dk_u1 {c : ByteArray} {p : Nat} {b : UInt8} {r : List UInt8} (h : c.data.toList.drop p = b :: r) : (Reader.u1 : Decoder Nat) c p = .ok (b.toNat, p + 1) := by
  obtain ⟨hp, e, -⟩ := dk_at h
  show (dite (p < c.size) (fun h => ((do set (p + 1); Pure.pure c[p].toNat) : Decoder Nat)) (fun _ => throw (HasTruncated.truncated p))) c p = _
  rw [dif_pos hp, e]
  rfl
def dkW (pc : Nat) : { F : Nat → Decoder Instr // Decoder.instr pc = (Reader.u1 >>= F) } := ⟨_, rfl⟩
theorem dk_dec {c : ByteArray} {pc : Nat} {o : UInt8} {r : List UInt8} {i : Instr} {n : Nat} (h : c.data.toList.drop pc = o :: r) (hF : ((dkW pc).1 o.toNat) c (pc + 1) = .ok (i, pc + n)) : decode c pc = .ok (i, n) := by
  show Except.bind ((Decoder.instr pc) c pc) (fun x => Except.ok (x.1, x.2 - pc)) = _
  rw [(dkW pc).2]
  show Except.bind (Except.bind ((Reader.u1 : Decoder Nat) c pc) (fun x => (dkW pc).1 x.1 c x.2)) (fun x => Except.ok (x.1, x.2 - pc)) = _
  rw [dk_u1 h]
  show Except.bind ((dkW pc).1 o.toNat c (pc + 1)) (fun x => Except.ok (x.1, x.2 - pc)) = _
  rw [hF]
  show Except.ok (i, pc + n - pc) = _
  rw [Nat.add_sub_cancel_left]
def dkT0 : List (Nat × Instr) := [(42, .aload_n 0), (43, .aload_n 1), (44, .aload_n 2), (45, .aload_n 3), (2, .iconst (-1)), (3, .iconst 0), (4, .iconst 1), (5, .iconst 2), (6, .iconst 3), (7, .iconst 4), (8, .iconst 5), (26, .iload_n 0), (27, .iload_n 1), (28, .iload_n 2), (29, .iload_n 3), (96, .iadd), (46, .iaload), (172, .ireturn), (59, .istore_n 0), (60, .istore_n 1), (61, .istore_n 2), (62, .istore_n 3), (79, .iastore), (100, .isub), (126, .iand), (177, .return_), (9, .lconst 0), (10, .lconst 1), (133, .i2l), (173, .lreturn), (120, .ishl), (122, .ishr), (104, .imul), (105, .lmul), (97, .ladd), (101, .lsub), (148, .lcmp), (50, .aaload), (128, .ior), (89, .dup), (87, .pop), (191, .athrow), (30, .lload_n 0), (31, .lload_n 1), (32, .lload_n 2), (33, .lload_n 3), (63, .lstore_n 0), (64, .lstore_n 1), (65, .lstore_n 2), (66, .lstore_n 3), (47, .laload), (80, .lastore), (51, .baload), (84, .bastore), (92, .dup2), (90, .dup_x1), (108, .idiv), (109, .ldiv), (112, .irem), (113, .lrem), (116, .ineg), (121, .lshl), (123, .lshr), (124, .iushr), (127, .land), (129, .lor), (130, .ixor), (131, .lxor), (136, .l2i), (145, .i2b), (146, .i2c), (190, .arraylength), (83, .aastore), (176, .areturn), (75, .astore_n 0), (76, .astore_n 1), (77, .astore_n 2), (78, .astore_n 3), (1, .aconst_null)]
def dkT1 : List (Nat × (Nat → Instr)) := [(21, .iload), (54, .istore), (22, .lload), (55, .lstore), (25, .aload), (58, .astore), (18, .ldc)]
def dkT2 : List (Nat × (Nat → Instr)) := [(180, .getfield), (182, .invokevirtual), (181, .putfield), (184, .invokestatic), (183, .invokespecial), (20, .ldc2_w), (187, .new), (19, .ldc_w), (178, .getstatic), (189, .anewarray), (192, .checkcast)]
def dkS2 : List (Nat × (Int → Instr)) := [(167, .goto), (153, .ifCond .eq), (154, .ifCond .ne), (155, .ifCond .lt), (156, .ifCond .ge), (157, .ifCond .gt), (158, .ifCond .le), (159, .if_icmp .eq), (160, .if_icmp .ne), (161, .if_icmp .lt), (162, .if_icmp .ge), (163, .if_icmp .gt), (164, .if_icmp .le), (17, .sipush)]
theorem dkT0_ok : ∀ e ∈ dkT0, ∀ pc, (dkW pc).1 e.1 = (Pure.pure e.2 : Decoder Instr) := by
  unfold dkT0
  repeat' (first | (refine List.forall_mem_cons.mpr ⟨fun pc => rfl, ?_⟩) | exact fun e h => absurd h (List.not_mem_nil))
theorem dkT1_ok : ∀ e ∈ dkT1, ∀ pc, (dkW pc).1 e.1 = (do Pure.pure (e.2 (← Reader.u1))) := by
  unfold dkT1
  repeat' (first | (refine List.forall_mem_cons.mpr ⟨fun pc => rfl, ?_⟩) | exact fun e h => absurd h (List.not_mem_nil))
theorem dkT2_ok : ∀ e ∈ dkT2, ∀ pc, (dkW pc).1 e.1 = (do Pure.pure (e.2 (← Reader.u2))) := by
  unfold dkT2
  repeat' (first | (refine List.forall_mem_cons.mpr ⟨fun pc => rfl, ?_⟩) | exact fun e h => absurd h (List.not_mem_nil))
theorem dkS2_ok : ∀ e ∈ dkS2, ∀ pc, (dkW pc).1 e.1 = (do Pure.pure (e.2 (← Reader.s2))) := by
  unfold dkS2
  repeat' (first | (refine List.forall_mem_cons.mpr ⟨fun pc => rfl, ?_⟩) | exact fun e h => absurd h (List.not_mem_nil))
theorem dkB_ok : ∀ pc, (dkW pc).1 16 = (do Pure.pure (Instr.bipush (← Reader.s1))) := fun pc => rfl
theorem dkI_ok : ∀ pc, (dkW pc).1 132 = (do Pure.pure (Instr.iinc (← Reader.u1) (← Reader.s1))) := fun pc => rfl
def dkL {α : Type} (k : Nat) : List (Nat × α) → Option α
  | [] => none
  | e :: r => bif Nat.beq e.1 k then some e.2 else dkL k r
theorem dkL_ok {α : Type} {k : Nat} {x : α} : ∀ l : List (Nat × α), dkL k l = some x → (k, x) ∈ l := by
  intro l
  induction l with
  | nil => intro h; cases h
  | cons e r ih =>
    intro h
    unfold dkL at h
    cases e9 : Nat.beq e.1 k with
    | true =>
      rw [e9] at h
      have h : some e.2 = some x := h
      cases h
      rw [← Nat.eq_of_beq_eq_true e9]
      exact List.mem_cons_self
    | false =>
      rw [e9] at h
      exact List.mem_cons_of_mem _ (ih h)
/-- an instruction, and how long it is -/
def dkD3 (k a b : Nat) : Option (Instr × Nat) := match dkL k dkT2 with
  | some f => some (f (a * 256 + b), 3)
  | none => match dkL k dkS2 with
    | some f => some (f (Reader.signed 16 (a * 256 + b)), 3)
    | none => bif Nat.beq k 132 then some (.iinc a (Reader.signed 8 b), 3) else none
def dkD2 (k a : Nat) (r : List UInt8) : Option (Instr × Nat) := match dkL k dkT1 with
  | some f => some (f a, 2)
  | none => bif Nat.beq k 16 then some (.bipush (Reader.signed 8 a), 2) else match r with
    | [] => none
    | b :: _ => dkD3 k a b.toNat
def dkD1 (k : Nat) (r : List UInt8) : Option (Instr × Nat) := match dkL k dkT0 with
  | some i => some (i, 1)
  | none => match r with
    | [] => none
    | a :: r => dkD2 k a.toNat r
def dkD : List UInt8 → Option (Instr × Nat)
  | [] => none
  | o :: r => dkD1 o.toNat r
theorem dk_no {α : Type} {x : α} {P : Prop} (h : (none : Option α) = some x) : P := by cases h
theorem dkD_ok {c : ByteArray} {pc n : Nat} {L : List UInt8} {i : Instr} (h : c.data.toList.drop pc = L) (e : dkD L = some (i, n)) : decode c pc = .ok (i, n) := by
  cases L with
  | nil => exact dk_no e
  | cons o r =>
    obtain ⟨-, -, h1⟩ := dk_at h
    have e : dkD1 o.toNat r = some (i, n) := e
    unfold dkD1 at e
    cases hj : dkL o.toNat dkT0 with
    | some j =>
      rw [hj] at e
      have e : some (j, 1) = some (i, n) := e
      cases e
      exact dk_dec h (by rw [dkT0_ok _ (dkL_ok _ hj)]; rfl)
    | none =>
      rw [hj] at e
      cases r with
      | nil => exact dk_no e
      | cons a r =>
        have e : dkD2 o.toNat a.toNat r = some (i, n) := e
        obtain ⟨-, -, h2⟩ := dk_at h1
        unfold dkD2 at e
        cases hf : dkL o.toNat dkT1 with
        | some f =>
          rw [hf] at e
          have e : some (f a.toNat, 2) = some (i, n) := e
          cases e
          refine dk_dec h ?_
          rw [dkT1_ok _ (dkL_ok _ hf)]
          show Except.bind ((Reader.u1 : Decoder Nat) c (pc + 1)) (fun x => Except.ok (f x.1, x.2)) = _
          rw [dk_u1 h1]
          rfl
        | none =>
          rw [hf] at e
          cases e9 : Nat.beq o.toNat 16 with
          | true =>
            rw [e9] at e
            have e : some (Instr.bipush (Reader.signed 8 a.toNat), 2) = some (i, n) := e
            cases e
            refine dk_dec h ?_
            rw [Nat.eq_of_beq_eq_true e9, dkB_ok]
            show Except.bind (Except.bind ((Reader.u1 : Decoder Nat) c (pc + 1)) (fun x => Except.ok (Reader.signed 8 x.1, x.2))) (fun x => Except.ok (Instr.bipush x.1, x.2)) = _
            rw [dk_u1 h1]
            rfl
          | false =>
            rw [e9] at e
            cases r with
            | nil => exact dk_no e
            | cons b r =>
              have e : dkD3 o.toNat a.toNat b.toNat = some (i, n) := e
              unfold dkD3 at e
              cases hg : dkL o.toNat dkT2 with
              | some f =>
                rw [hg] at e
                have e : some (f (a.toNat * 256 + b.toNat), 3) = some (i, n) := e
                cases e
                refine dk_dec h ?_
                rw [dkT2_ok _ (dkL_ok _ hg)]
                show Except.bind (Except.bind ((Reader.u1 : Decoder Nat) c (pc + 1)) (fun x => Except.bind ((Reader.u1 : Decoder Nat) c x.2) (fun z => Except.ok (x.1 * 256 + z.1, z.2)))) (fun x => Except.ok (f x.1, x.2)) = _
                rw [dk_u1 h1]
                show Except.bind (Except.bind ((Reader.u1 : Decoder Nat) c (pc + 1 + 1)) (fun z => Except.ok (a.toNat * 256 + z.1, z.2))) (fun x => Except.ok (f x.1, x.2)) = _
                rw [dk_u1 h2]
                rfl
              | none =>
                rw [hg] at e
                cases hs : dkL o.toNat dkS2 with
                | some f =>
                  rw [hs] at e
                  have e : some (f (Reader.signed 16 (a.toNat * 256 + b.toNat)), 3) = some (i, n) := e
                  cases e
                  refine dk_dec h ?_
                  rw [dkS2_ok _ (dkL_ok _ hs)]
                  show Except.bind (Except.bind (Except.bind ((Reader.u1 : Decoder Nat) c (pc + 1)) (fun x => Except.bind ((Reader.u1 : Decoder Nat) c x.2) (fun z => Except.ok (x.1 * 256 + z.1, z.2)))) (fun x => Except.ok (Reader.signed 16 x.1, x.2))) (fun x => Except.ok (f x.1, x.2)) = _
                  rw [dk_u1 h1]
                  show Except.bind (Except.bind (Except.bind ((Reader.u1 : Decoder Nat) c (pc + 1 + 1)) (fun z => Except.ok (a.toNat * 256 + z.1, z.2))) (fun x => Except.ok (Reader.signed 16 x.1, x.2))) (fun x => Except.ok (f x.1, x.2)) = _
                  rw [dk_u1 h2]
                  rfl
                | none =>
                  rw [hs] at e
                  cases e8 : Nat.beq o.toNat 132 with
                  | false =>
                    rw [e8] at e
                    exact dk_no e
                  | true =>
                    rw [e8] at e
                    have e : some (Instr.iinc a.toNat (Reader.signed 8 b.toNat), 3) = some (i, n) := e
                    cases e
                    refine dk_dec h ?_
                    rw [Nat.eq_of_beq_eq_true e8, dkI_ok]
                    show Except.bind ((Reader.u1 : Decoder Nat) c (pc + 1)) (fun x => Except.bind (Except.bind ((Reader.u1 : Decoder Nat) c x.2) (fun z => Except.ok (Reader.signed 8 z.1, z.2))) (fun z => Except.ok (Instr.iinc x.1 z.1, z.2))) = _
                    rw [dk_u1 h1]
                    show Except.bind (Except.bind ((Reader.u1 : Decoder Nat) c (pc + 1 + 1)) (fun z => Except.ok (Reader.signed 8 z.1, z.2))) (fun z => Except.ok (Instr.iinc a.toNat z.1, z.2)) = _
                    rw [dk_u1 h2]
                    rfl
def dkK : ClassFile.Cond → Nat
  | .eq => 0
  | .ne => 1
  | .lt => 2
  | .ge => 3
  | .gt => 4
  | .le => 5
/-- how an instruction is written: its kind, its first byte, what follows -/
def dkE : Instr → Nat × Nat × Nat × Int
  | .aload_n n => (1, 42 + n.val, 0, 0)
  | .iload_n n => (1, 26 + n.val, 0, 0)
  | .istore_n n => (1, 59 + n.val, 0, 0)
  | .lload_n n => (1, 30 + n.val, 0, 0)
  | .lstore_n n => (1, 63 + n.val, 0, 0)
  | .astore_n n => (1, 75 + n.val, 0, 0)
  | .lconst n => (1, 9 + n.val, 0, 0)
  | .iconst v => bif decide (-1 ≤ v) && decide (v ≤ 5) then (1, (v + 3).toNat, 0, 0) else (0, 0, 0, 0)
  | .iadd => (1, 96, 0, 0)
  | .iaload => (1, 46, 0, 0)
  | .ireturn => (1, 172, 0, 0)
  | .iastore => (1, 79, 0, 0)
  | .isub => (1, 100, 0, 0)
  | .iand => (1, 126, 0, 0)
  | .return_ => (1, 177, 0, 0)
  | .i2l => (1, 133, 0, 0)
  | .lreturn => (1, 173, 0, 0)
  | .ishl => (1, 120, 0, 0)
  | .ishr => (1, 122, 0, 0)
  | .imul => (1, 104, 0, 0)
  | .lmul => (1, 105, 0, 0)
  | .ladd => (1, 97, 0, 0)
  | .lsub => (1, 101, 0, 0)
  | .lcmp => (1, 148, 0, 0)
  | .aaload => (1, 50, 0, 0)
  | .ior => (1, 128, 0, 0)
  | .dup => (1, 89, 0, 0)
  | .pop => (1, 87, 0, 0)
  | .athrow => (1, 191, 0, 0)
  | .laload => (1, 47, 0, 0)
  | .lastore => (1, 80, 0, 0)
  | .baload => (1, 51, 0, 0)
  | .bastore => (1, 84, 0, 0)
  | .dup2 => (1, 92, 0, 0)
  | .dup_x1 => (1, 90, 0, 0)
  | .idiv => (1, 108, 0, 0)
  | .ldiv => (1, 109, 0, 0)
  | .irem => (1, 112, 0, 0)
  | .lrem => (1, 113, 0, 0)
  | .ineg => (1, 116, 0, 0)
  | .lshl => (1, 121, 0, 0)
  | .lshr => (1, 123, 0, 0)
  | .iushr => (1, 124, 0, 0)
  | .land => (1, 127, 0, 0)
  | .lor => (1, 129, 0, 0)
  | .ixor => (1, 130, 0, 0)
  | .lxor => (1, 131, 0, 0)
  | .l2i => (1, 136, 0, 0)
  | .i2b => (1, 145, 0, 0)
  | .i2c => (1, 146, 0, 0)
  | .arraylength => (1, 190, 0, 0)
  | .aastore => (1, 83, 0, 0)
  | .areturn => (1, 176, 0, 0)
  | .aconst_null => (1, 1, 0, 0)
  | .iload u => (2, 21, u, 0)
  | .istore u => (2, 54, u, 0)
  | .lload u => (2, 22, u, 0)
  | .lstore u => (2, 55, u, 0)
  | .aload u => (2, 25, u, 0)
  | .astore u => (2, 58, u, 0)
  | .ldc u => (2, 18, u, 0)
  | .getfield u => (3, 180, u, 0)
  | .invokevirtual u => (3, 182, u, 0)
  | .putfield u => (3, 181, u, 0)
  | .invokestatic u => (3, 184, u, 0)
  | .invokespecial u => (3, 183, u, 0)
  | .ldc2_w u => (3, 20, u, 0)
  | .new u => (3, 187, u, 0)
  | .ldc_w u => (3, 19, u, 0)
  | .getstatic u => (3, 178, u, 0)
  | .anewarray u => (3, 189, u, 0)
  | .checkcast u => (3, 192, u, 0)
  | .goto s => (4, 167, 0, s)
  | .ifCond c s => (4, 153 + dkK c, 0, s)
  | .if_icmp c s => (4, 159 + dkK c, 0, s)
  | .sipush s => (4, 17, 0, s)
  | .bipush s => (5, 16, 0, s)
  | .iinc u s => (6, 132, u, s)
  | _ => (0, 0, 0, 0)
def dkG (i : Instr) (e : Nat × Nat × Nat × Int) : Prop := match e.1 with
  | 0 => True
  | 1 => dkL e.2.1 dkT0 = some i
  | 2 => dkL e.2.1 dkT0 = none ∧ ∃ f, dkL e.2.1 dkT1 = some f ∧ f e.2.2.1 = i
  | 3 => dkL e.2.1 dkT0 = none ∧ dkL e.2.1 dkT1 = none ∧ Nat.beq e.2.1 16 = false ∧ ∃ f, dkL e.2.1 dkT2 = some f ∧ f e.2.2.1 = i
  | 4 => dkL e.2.1 dkT0 = none ∧ dkL e.2.1 dkT1 = none ∧ Nat.beq e.2.1 16 = false ∧ dkL e.2.1 dkT2 = none ∧ ∃ f, dkL e.2.1 dkS2 = some f ∧ f e.2.2.2 = i
  | 5 => dkL e.2.1 dkT0 = none ∧ dkL e.2.1 dkT1 = none ∧ Nat.beq e.2.1 16 = true ∧ Instr.bipush e.2.2.2 = i
  | _ => dkL e.2.1 dkT0 = none ∧ dkL e.2.1 dkT1 = none ∧ Nat.beq e.2.1 16 = false ∧ dkL e.2.1 dkT2 = none ∧ dkL e.2.1 dkS2 = none ∧ Nat.beq e.2.1 132 = true ∧ Instr.iinc e.2.2.1 e.2.2.2 = i
theorem dkG_ok : ∀ i : Instr, dkG i (dkE i) := by
  intro i
  cases i with
  | iconst v =>
    show dkG (.iconst v) (bif decide (-1 ≤ v) && decide (v ≤ 5) then (1, (v + 3).toNat, 0, 0) else (0, 0, 0, 0))
    cases h : (decide (-1 ≤ v) && decide (v ≤ 5)) with
    | false => exact trivial
    | true =>
      rw [Bool.and_eq_true, decide_eq_true_eq, decide_eq_true_eq] at h
      rcases (show v = -1 ∨ v = 0 ∨ v = 1 ∨ v = 2 ∨ v = 3 ∨ v = 4 ∨ v = 5 by omega) with rfl | rfl | rfl | rfl | rfl | rfl | rfl <;> rfl
  | lconst n => match n with
    | 0 => rfl
    | 1 => rfl
  | aload_n n => match n with
    | 0 => rfl
    | 1 => rfl
    | 2 => rfl
    | 3 => rfl
  | iload_n n => match n with
    | 0 => rfl
    | 1 => rfl
    | 2 => rfl
    | 3 => rfl
  | istore_n n => match n with
    | 0 => rfl
    | 1 => rfl
    | 2 => rfl
    | 3 => rfl
  | lload_n n => match n with
    | 0 => rfl
    | 1 => rfl
    | 2 => rfl
    | 3 => rfl
  | lstore_n n => match n with
    | 0 => rfl
    | 1 => rfl
    | 2 => rfl
    | 3 => rfl
  | astore_n n => match n with
    | 0 => rfl
    | 1 => rfl
    | 2 => rfl
    | 3 => rfl
  | ifCond c s => cases c <;> exact ⟨rfl, rfl, rfl, rfl, _, rfl, rfl⟩
  | if_icmp c s => cases c <;> exact ⟨rfl, rfl, rfl, rfl, _, rfl, rfl⟩
  | goto s => exact ⟨rfl, rfl, rfl, rfl, _, rfl, rfl⟩
  | sipush s => exact ⟨rfl, rfl, rfl, rfl, _, rfl, rfl⟩
  | bipush s => exact ⟨rfl, rfl, rfl, rfl⟩
  | iinc u s => exact ⟨rfl, rfl, rfl, rfl, rfl, rfl, rfl⟩
  | iload u => exact ⟨rfl, _, rfl, rfl⟩
  | istore u => exact ⟨rfl, _, rfl, rfl⟩
  | lload u => exact ⟨rfl, _, rfl, rfl⟩
  | lstore u => exact ⟨rfl, _, rfl, rfl⟩
  | aload u => exact ⟨rfl, _, rfl, rfl⟩
  | astore u => exact ⟨rfl, _, rfl, rfl⟩
  | ldc u => exact ⟨rfl, _, rfl, rfl⟩
  | getfield u => exact ⟨rfl, rfl, rfl, _, rfl, rfl⟩
  | invokevirtual u => exact ⟨rfl, rfl, rfl, _, rfl, rfl⟩
  | putfield u => exact ⟨rfl, rfl, rfl, _, rfl, rfl⟩
  | invokestatic u => exact ⟨rfl, rfl, rfl, _, rfl, rfl⟩
  | invokespecial u => exact ⟨rfl, rfl, rfl, _, rfl, rfl⟩
  | ldc2_w u => exact ⟨rfl, rfl, rfl, _, rfl, rfl⟩
  | new u => exact ⟨rfl, rfl, rfl, _, rfl, rfl⟩
  | ldc_w u => exact ⟨rfl, rfl, rfl, _, rfl, rfl⟩
  | getstatic u => exact ⟨rfl, rfl, rfl, _, rfl, rfl⟩
  | anewarray u => exact ⟨rfl, rfl, rfl, _, rfl, rfl⟩
  | checkcast u => exact ⟨rfl, rfl, rfl, _, rfl, rfl⟩
  | iadd => exact rfl
  | iaload => exact rfl
  | ireturn => exact rfl
  | iastore => exact rfl
  | isub => exact rfl
  | iand => exact rfl
  | return_ => exact rfl
  | i2l => exact rfl
  | lreturn => exact rfl
  | ishl => exact rfl
  | ishr => exact rfl
  | imul => exact rfl
  | lmul => exact rfl
  | ladd => exact rfl
  | lsub => exact rfl
  | lcmp => exact rfl
  | aaload => exact rfl
  | ior => exact rfl
  | dup => exact rfl
  | pop => exact rfl
  | athrow => exact rfl
  | laload => exact rfl
  | lastore => exact rfl
  | baload => exact rfl
  | bastore => exact rfl
  | dup2 => exact rfl
  | dup_x1 => exact rfl
  | idiv => exact rfl
  | ldiv => exact rfl
  | irem => exact rfl
  | lrem => exact rfl
  | ineg => exact rfl
  | lshl => exact rfl
  | lshr => exact rfl
  | iushr => exact rfl
  | land => exact rfl
  | lor => exact rfl
  | ixor => exact rfl
  | lxor => exact rfl
  | l2i => exact rfl
  | i2b => exact rfl
  | i2c => exact rfl
  | arraylength => exact rfl
  | aastore => exact rfl
  | areturn => exact rfl
  | aconst_null => exact rfl
  | _ => exact trivial
/-- do the bytes begin so? then how long it is -/
def dkC (e : Nat × Nat × Nat × Int) (L : List UInt8) : Option Nat := match L with
  | [] => none
  | o :: r => bif Nat.beq o.toNat e.2.1 then (match e.1 with
    | 0 => none
    | 1 => some 1
    | 2 => match r with
      | [] => none
      | a :: _ => bif Nat.beq a.toNat e.2.2.1 then some 2 else none
    | 3 => match r with
      | a :: b :: _ => bif Nat.beq (a.toNat * 256 + b.toNat) e.2.2.1 then some 3 else none
      | _ => none
    | 4 => match r with
      | a :: b :: _ => bif decide (Reader.signed 16 (a.toNat * 256 + b.toNat) = e.2.2.2) then some 3 else none
      | _ => none
    | 5 => match r with
      | [] => none
      | a :: _ => bif decide (Reader.signed 8 a.toNat = e.2.2.2) then some 2 else none
    | _ => match r with
      | a :: b :: _ => bif Nat.beq a.toNat e.2.2.1 && decide (Reader.signed 8 b.toNat = e.2.2.2) then some 3 else none
      | _ => none) else none
theorem dk_bif {b : Bool} {n m : Nat} (h : (bif b then some n else none) = some m) : b = true ∧ n = m := by
  cases b with
  | false => cases h
  | true => exact ⟨rfl, Option.some.inj h⟩
theorem dkC_ok {i : Instr} {e : Nat × Nat × Nat × Int} {L : List UInt8} {n : Nat} (g : dkG i e) (h : dkC e L = some n) : dkD L = some (i, n) := by
  cases L with
  | nil => exact dk_no h
  | cons o r =>
    obtain ⟨k, oc, u, s⟩ := e
    unfold dkC at h
    cases ho : Nat.beq o.toNat oc with
    | false =>
      dsimp only at h
      rw [ho] at h
      exact dk_no h
    | true =>
      dsimp only at h
      rw [ho] at h
      rw [← Nat.eq_of_beq_eq_true ho] at g
      show dkD1 o.toNat r = _
      unfold dkD1
      rcases k with _ | _ | _ | _ | _ | _ | k
      · exact dk_no h
      · have h : some 1 = some n := h
        cases h
        have g : dkL o.toNat dkT0 = some i := g
        rw [g]
      · obtain ⟨g0, f, g1, g2⟩ := (g : dkL o.toNat dkT0 = none ∧ ∃ f, dkL o.toNat dkT1 = some f ∧ f u = i)
        cases r with
        | nil => exact dk_no h
        | cons a r =>
          obtain ⟨h1, rfl⟩ := dk_bif (show (bif Nat.beq a.toNat u then some 2 else none) = some n from h)
          rw [g0]
          show dkD2 o.toNat a.toNat r = _
          unfold dkD2
          rw [g1, Nat.eq_of_beq_eq_true h1]
          show some (f u, 2) = _
          rw [show f u = i from g2]
      · obtain ⟨g0, g1, g16, f, g2, g3⟩ := (g : dkL o.toNat dkT0 = none ∧ dkL o.toNat dkT1 = none ∧ Nat.beq o.toNat 16 = false ∧ ∃ f, dkL o.toNat dkT2 = some f ∧ f u = i)
        rcases r with _ | ⟨a, _ | ⟨b, r⟩⟩
        · exact dk_no h
        · exact dk_no h
        · obtain ⟨h1, rfl⟩ := dk_bif (show (bif Nat.beq (a.toNat * 256 + b.toNat) u then some 3 else none) = some n from h)
          rw [g0]
          show dkD2 o.toNat a.toNat (b :: r) = _
          unfold dkD2
          rw [g1, g16]
          show dkD3 o.toNat a.toNat b.toNat = _
          unfold dkD3
          rw [g2, Nat.eq_of_beq_eq_true h1]
          show some (f u, 3) = _
          rw [show f u = i from g3]
      · obtain ⟨g0, g1, g16, g2, f, g3, g4⟩ := (g : dkL o.toNat dkT0 = none ∧ dkL o.toNat dkT1 = none ∧ Nat.beq o.toNat 16 = false ∧ dkL o.toNat dkT2 = none ∧ ∃ f, dkL o.toNat dkS2 = some f ∧ f s = i)
        rcases r with _ | ⟨a, _ | ⟨b, r⟩⟩
        · exact dk_no h
        · exact dk_no h
        · obtain ⟨h1, rfl⟩ := dk_bif (show (bif decide (Reader.signed 16 (a.toNat * 256 + b.toNat) = s) then some 3 else none) = some n from h)
          rw [g0]
          show dkD2 o.toNat a.toNat (b :: r) = _
          unfold dkD2
          rw [g1, g16]
          show dkD3 o.toNat a.toNat b.toNat = _
          unfold dkD3
          rw [g2, g3, of_decide_eq_true h1]
          show some (f s, 3) = _
          rw [show f s = i from g4]
      · obtain ⟨g0, g1, g16, g2⟩ := (g : dkL o.toNat dkT0 = none ∧ dkL o.toNat dkT1 = none ∧ Nat.beq o.toNat 16 = true ∧ Instr.bipush s = i)
        cases r with
        | nil => exact dk_no h
        | cons a r =>
          obtain ⟨h1, rfl⟩ := dk_bif (show (bif decide (Reader.signed 8 a.toNat = s) then some 2 else none) = some n from h)
          rw [g0]
          show dkD2 o.toNat a.toNat r = _
          unfold dkD2
          rw [g1, g16, of_decide_eq_true h1, ← g2]
          rfl
      · obtain ⟨g0, g1, g16, g2, g3, g4, g5⟩ := (g : dkL o.toNat dkT0 = none ∧ dkL o.toNat dkT1 = none ∧ Nat.beq o.toNat 16 = false ∧ dkL o.toNat dkT2 = none ∧ dkL o.toNat dkS2 = none ∧ Nat.beq o.toNat 132 = true ∧ Instr.iinc u s = i)
        rcases r with _ | ⟨a, _ | ⟨b, r⟩⟩
        · exact dk_no h
        · exact dk_no h
        · obtain ⟨h1, rfl⟩ := dk_bif (show (bif Nat.beq a.toNat u && decide (Reader.signed 8 b.toNat = s) then some 3 else none) = some n from h)
          rw [Bool.and_eq_true] at h1
          rw [g0]
          show dkD2 o.toNat a.toNat (b :: r) = _
          unfold dkD2
          rw [g1, g16]
          show dkD3 o.toNat a.toNat b.toNat = _
          unfold dkD3
          rw [g2, g3, g4, of_decide_eq_true h1.2, Nat.eq_of_beq_eq_true h1.1, ← g5]
          rfl
/-- along the bytes; the instructions ex are shown apart -/
def dkRun (ex : List (Nat × Instr × Nat)) : List UInt8 → Nat → List (Nat × Instr × Nat) → Bool
  | _, _, [] => true
  | L, pc, q :: t => match dkC (dkE q.2.1) L with
    | none => Nat.beq q.1 pc && ex.any (fun x => Nat.beq x.1 pc && decide (x = q)) && dkRun ex (L.drop q.2.2) (pc + q.2.2) t
    | some n => Nat.beq q.1 pc && Nat.beq q.2.2 n && dkRun ex (L.drop n) (pc + n) t
theorem dk_run {c : ByteArray} {ex : List (Nat × Instr × Nat)} (hx : ∀ q ∈ ex, decode c q.1 = .ok (q.2.1, q.2.2)) : ∀ (l : List (Nat × Instr × Nat)) (L : List UInt8) (pc : Nat), c.data.toList.drop pc = L → dkRun ex L pc l = true → ∀ q ∈ l, decode c q.1 = .ok (q.2.1, q.2.2) := by
  intro l
  induction l with
  | nil => intro L pc _ _ q hq; cases hq
  | cons q0 t ih =>
    intro L pc h hr q hq
    unfold dkRun at hr
    split at hr
    · simp only [Bool.and_eq_true] at hr
      obtain ⟨⟨h1, h2⟩, h4⟩ := hr
      rcases List.mem_cons.mp hq with rfl | hq
      · obtain ⟨x, hm, h5⟩ := List.any_eq_true.mp h2
        rw [Bool.and_eq_true] at h5
        have h6 := hx x hm
        rw [of_decide_eq_true h5.2] at h6
        exact h6
      · exact ih _ _ (by rw [← h, List.drop_drop, Nat.add_comm]) h4 q hq
    · rename_i n hd
      simp only [Bool.and_eq_true] at hr
      obtain ⟨⟨h1, h2⟩, h4⟩ := hr
      rcases List.mem_cons.mp hq with rfl | hq
      · rw [Nat.eq_of_beq_eq_true h1, Nat.eq_of_beq_eq_true h2]
        exact dkD_ok h (dkC_ok (dkG_ok _) hd)
      · exact ih _ _ (by rw [← h, List.drop_drop, Nat.add_comm]) h4 q hq
theorem dk_fm {c : ByteArray} {l : List (Nat × Instr × Nat)} (pc : Nat) (h : dkRun [] (c.data.toList.drop pc) pc l = true) : fmDec c l = true := List.all_eq_true.mpr (fun q hq => decide_eq_true (dk_run (fun _ h => absurd h List.not_mem_nil) l _ pc rfl h q hq))
theorem dk_fx {c : ByteArray} {l : List (Nat × Instr × Nat)} (pc : Nat) (ex : List (Nat × Instr × Nat)) (hx : fmDec c ex = true) (h : dkRun ex (c.data.toList.drop pc) pc l = true) : fmDec c l = true := List.all_eq_true.mpr (fun q hq => decide_eq_true (dk_run (fun q hq => of_decide_eq_true (List.all_eq_true.mp hx q hq)) l _ pc rfl h q hq))
theorem dtX0_init : fmDec cX0_init dlX0_init = true := dk_fx 0 [(7, .newarray .long, 2)] (by decide +kernel) (by decide +kernel)
theorem dtX0_yearsWhen : fmDec cX0_yearsWhen dlX0_yearsWhen = true := dk_fm 0 (by decide +kernel)
theorem dtX0_signerDead : fmDec cX0_signerDead dlX0_signerDead = true := dk_fm 0 (by decide +kernel)
theorem dtX0_wrongWhen : fmDec cX0_wrongWhen dlX0_wrongWhen = true := dk_fm 0 (by decide +kernel)
theorem dtX0_costWhen : fmDec cX0_costWhen dlX0_costWhen = true := dk_fm 0 (by decide +kernel)
theorem dtX0_riskWhen : fmDec cX0_riskWhen dlX0_riskWhen = true := dk_fm 0 (by decide +kernel)
theorem dtX0_riskAtAge : fmDec cX0_riskAtAge dlX0_riskAtAge = true := dk_fm 0 (by decide +kernel)
theorem dtX0_hoursFor : fmDec cX0_hoursFor dlX0_hoursFor = true := dk_fm 0 (by decide +kernel)
theorem dtX0_canBePut : fmDec cX0_canBePut dlX0_canBePut = true := dk_fm 0 (by decide +kernel)
theorem dtX0_savedRisk : fmDec cX0_savedRisk dlX0_savedRisk = true := dk_fm 0 (by decide +kernel)
theorem dtX0_firstOfAll : fmDec cX0_firstOfAll dlX0_firstOfAll = true := dk_fm 0 (by decide +kernel)
theorem dtX0_firstOf : fmDec cX0_firstOf dlX0_firstOf = true := dk_fm 0 (by decide +kernel)
theorem dtX0_putPiece : fmDec cX0_putPiece dlX0_putPiece = true := dk_fm 0 (by decide +kernel)
theorem dtX0_letDie : fmDec cX0_letDie dlX0_letDie = true := dk_fm 0 (by decide +kernel)
theorem dtX0_passWeek : fmDec cX0_passWeek dlX0_passWeek = true := dk_fm 0 (by decide +kernel)
theorem dtX0_lossAhead : fmDec cX0_lossAhead dlX0_lossAhead = true := dk_fm 0 (by decide +kernel)
theorem dtX1_init : fmDec cX1_init dlX1_init = true := dk_fx 0 [(8, .newarray .int, 2), (17, .newarray .int, 2), (25, .newarray .int, 2)] (by decide +kernel) (by decide +kernel)
theorem dtX1_clear : fmDec cX1_clear dlX1_clear = true := dk_fm 0 (by decide +kernel)
theorem dtX1_read : fmDec cX1_read dlX1_read = true := dk_fm 0 (by decide +kernel)
theorem dtX1_readSum : fmDec cX1_readSum dlX1_readSum = true := dk_fm 0 (by decide +kernel)
theorem dtX1_readProduct : fmDec cX1_readProduct dlX1_readProduct = true := dk_fm 0 (by decide +kernel)
theorem dtX1_readUnit : fmDec cX1_readUnit dlX1_readUnit = true := dk_fm 0 (by decide +kernel)
theorem dtX1_readTwo : fmDec cX1_readTwo dlX1_readTwo = true := dk_fm 0 (by decide +kernel)
theorem dtX1_emit : fmDec cX1_emit dlX1_emit = true := dk_fm 0 (by decide +kernel)
theorem dtX1_outcome : fmDec cX1_outcome dlX1_outcome = true := dk_fx 0 [(82, .tableswitch 91 (-5) (-1) #[79, 67, 56, 45, 34], 34)] (by decide +kernel) (by decide +kernel)
theorem dtX1_joined : fmDec cX1_joined dlX1_joined = true := dk_fx 0 [(1, .tableswitch 69 (-10) (-6) #[65, 61, 57, 46, 35], 35)] (by decide +kernel) (by decide +kernel)
theorem dtX2_init : fmDec cX2_init dlX2_init = true := dk_fm 0 (by decide +kernel)
theorem dtX2_clear : fmDec cX2_clear dlX2_clear = true := dk_fm 0 (by decide +kernel)
theorem dtX2_read : fmDec cX2_read dlX2_read = true := dk_fm 0 (by decide +kernel)
theorem dtX2_fits : fmDec cX2_fits dlX2_fits = true := dk_fm 0 (by decide +kernel)
theorem dtX3_init : fmDec cX3_init dlX3_init = true := dk_fx 0 [(8, .newarray .long, 2), (16, .newarray .long, 2), (24, .newarray .int, 2), (31, .newarray .int, 2)] (by decide +kernel) (by decide +kernel)
theorem dtX3_forget : fmDec cX3_forget dlX3_forget = true := dk_fm 0 (by decide +kernel)
theorem dtX3_leastLoss : fmDec cX3_leastLoss dlX3_leastLoss = true := dk_fm 0 (by decide +kernel)
theorem dtX3_writtenIn : fmDec cX3_writtenIn dlX3_writtenIn = true := dk_fm 0 (by decide +kernel)
theorem dtX3_keyShift : fmDec cX3_keyShift dlX3_keyShift = true := dk_fm 0 (by decide +kernel)
theorem dtX3_prepare : fmDec cX3_prepare dlX3_prepare = true := dk_fm 0 (by decide +kernel)
theorem dtX3_cellOf : fmDec cX3_cellOf dlX3_cellOf = true := dk_fm 0 (by decide +kernel)
theorem dtX3_weighWays : fmDec cX3_weighWays dlX3_weighWays = true := dk_fm 0 (by decide +kernel)
theorem dtX3_hoursAtAge : fmDec cX3_hoursAtAge dlX3_hoursAtAge = true := dk_fm 0 (by decide +kernel)
theorem dtX3_addLife : fmDec cX3_addLife dlX3_addLife = true := dk_fm 0 (by decide +kernel)
theorem dtX3_leastOf : fmDec cX3_leastOf dlX3_leastOf = true := dk_fm 0 (by decide +kernel)
theorem dtX4_init : fmDec cX4_init dlX4_init = true := dk_fx 0 [(18, .newarray .long, 2)] (by decide +kernel) (by decide +kernel)
theorem dtX4_play : fmDec cX4_play dlX4_play = true := dk_fm 0 (by decide +kernel)
theorem dtX4_drawOf64 : fmDec cX4_drawOf64 dlX4_drawOf64 = true := dk_fm 0 (by decide +kernel)
theorem dtX4_drawDeaths : fmDec cX4_drawDeaths dlX4_drawDeaths = true := dk_fm 0 (by decide +kernel)
theorem dtX4_putFirsts : fmDec cX4_putFirsts dlX4_putFirsts = true := dk_fm 0 (by decide +kernel)
theorem dtX5_init : fmDec cX5_init dlX5_init = true := dk_fm 0 (by decide +kernel)
theorem dtX5_keep : fmDec cX5_keep dlX5_keep = true := dk_fm 0 (by decide +kernel)
theorem dtX5_goBack : fmDec cX5_goBack dlX5_goBack = true := dk_fm 0 (by decide +kernel)
theorem dtX5_copyFrom : fmDec cX5_copyFrom dlX5_copyFrom = true := dk_fm 0 (by decide +kernel)
theorem dtX6_init : fmDec cX6_init dlX6_init = true := dk_fx 0 [(7, .newarray .int, 2)] (by decide +kernel) (by decide +kernel)
theorem dtX6_begin : fmDec cX6_begin dlX6_begin = true := dk_fm 0 (by decide +kernel)
theorem dtX6_copyFrom : fmDec cX6_copyFrom dlX6_copyFrom = true := dk_fm 0 (by decide +kernel)
theorem dtX6_isAlive : fmDec cX6_isAlive dlX6_isAlive = true := dk_fm 0 (by decide +kernel)
theorem dtX6_pieces : fmDec cX6_pieces dlX6_pieces = true := dk_fm 0 (by decide +kernel)
theorem dtX7_init : fmDec cX7_init dlX7_init = true := dk_fx 0 [(8, .newarray .byte, 2)] (by decide +kernel) (by decide +kernel)
theorem dtX7_put : fmDec cX7_put dlX7_put = true := dk_fm 0 (by decide +kernel)
theorem dtX7_open : fmDec cX7_open dlX7_open = true := dk_fm 0 (by decide +kernel)
theorem dtX7_fail : fmDec cX7_fail dlX7_fail = true := dk_fm 0 (by decide +kernel)
theorem dtX7_failed : fmDec cX7_failed dlX7_failed = true := dk_fm 0 (by decide +kernel)
theorem dtX7_peek : fmDec cX7_peek dlX7_peek = true := dk_fm 0 (by decide +kernel)
theorem dtX7_nextPlace : fmDec cX7_nextPlace dlX7_nextPlace = true := dk_fm 0 (by decide +kernel)
theorem dtX7_takeSign : fmDec cX7_takeSign dlX7_takeSign = true := dk_fm 0 (by decide +kernel)
theorem dtX7_takeNumber : fmDec cX7_takeNumber dlX7_takeNumber = true := dk_fm 0 (by decide +kernel)
theorem dtX7_takeWord : fmDec cX7_takeWord dlX7_takeWord = true := dk_fm 0 (by decide +kernel)
theorem dtX7_find : fmDec cX7_find dlX7_find = true := dk_fm 0 (by decide +kernel)
theorem dtX8_init : fmDec cX8_init dlX8_init = true := dk_fx 0 [(7, .newarray .int, 2), (15, .newarray .int, 2), (23, .newarray .int, 2), (31, .newarray .int, 2), (39, .newarray .int, 2), (47, .newarray .int, 2), (55, .newarray .int, 2), (63, .newarray .int, 2), (71, .newarray .int, 2)] (by decide +kernel) (by decide +kernel)
theorem dtX8_clear : fmDec cX8_clear dlX8_clear = true := dk_fm 0 (by decide +kernel)
theorem dtX8_copyFrom : fmDec cX8_copyFrom dlX8_copyFrom = true := dk_fm 0 (by decide +kernel)
theorem dtX8_read : fmDec cX8_read dlX8_read = true := dk_fm 0 (by decide +kernel)
theorem dtX8_readClause : fmDec cX8_readClause dlX8_readClause = true := dk_fx 0 [(77, .tableswitch 55 0 3 #[31, 37, 43, 49], 31)] (by decide +kernel) (by decide +kernel)
theorem dtX8_readLife : fmDec cX8_readLife dlX8_readLife = true := dk_fm 0 (by decide +kernel)
theorem dtX8_readHas : fmDec cX8_readHas dlX8_readHas = true := dk_fm 0 (by decide +kernel)
theorem dtX8_readBy : fmDec cX8_readBy dlX8_readBy = true := dk_fm 0 (by decide +kernel)
theorem dtX8_readFact : fmDec cX8_readFact dlX8_readFact = true := dk_fm 0 (by decide +kernel)
theorem dtX8_readRule : fmDec cX8_readRule dlX8_readRule = true := dk_fx 0 [(1, .tableswitch 69 4 6 #[27, 41, 55], 27)] (by decide +kernel) (by decide +kernel)
theorem dtX8_renewHours : fmDec cX8_renewHours dlX8_renewHours = true := dk_fm 0 (by decide +kernel)
theorem dtX8_changesBetween : fmDec cX8_changesBetween dlX8_changesBetween = true := dk_fm 0 (by decide +kernel)
theorem dtX8_factBits : fmDec cX8_factBits dlX8_factBits = true := dk_fm 0 (by decide +kernel)
theorem dtX8_nextChange : fmDec cX8_nextChange dlX8_nextChange = true := dk_fm 0 (by decide +kernel)
theorem dtX9_init : fmDec cX9_init dlX9_init = true := dk_fx 0 [(8, .newarray .int, 2), (17, .newarray .int, 2), (26, .newarray .int, 2)] (by decide +kernel) (by decide +kernel)
theorem dtX9_read : fmDec cX9_read dlX9_read = true := dk_fm 0 (by decide +kernel)
theorem dtX9_readSteps : fmDec cX9_readSteps dlX9_readSteps = true := dk_fm 0 (by decide +kernel)
theorem dtX9_readStep : fmDec cX9_readStep dlX9_readStep = true := dk_fm 0 (by decide +kernel)
theorem dtX9_readAgain : fmDec cX9_readAgain dlX9_readAgain = true := dk_fm 0 (by decide +kernel)
theorem dtX9_perform : fmDec cX9_perform dlX9_perform = true := dk_fm 0 (by decide +kernel)
theorem dtX9_performStep : fmDec cX9_performStep dlX9_performStep = true := dk_fx 0 [(1, .tableswitch 84 0 2 #[27, 52, 77], 27)] (by decide +kernel) (by decide +kernel)
theorem dtX10_init : fmDec cX10_init dlX10_init = true := dk_fx 0 [(141, .newarray .int, 2), (150, .newarray .int, 2)] (by decide +kernel) (by decide +kernel)
theorem dtX10_feed : fmDec cX10_feed dlX10_feed = true := dk_fm 0 (by decide +kernel)
theorem dtX10_drawer : fmDec cX10_drawer dlX10_drawer = true := dk_fm 0 (by decide +kernel)
theorem dtX10_law : fmDec cX10_law dlX10_law = true := dk_fm 0 (by decide +kernel)
theorem dtX10_work : fmDec cX10_work dlX10_work = true := dk_fm 0 (by decide +kernel)
theorem dtX10_page : fmDec cX10_page dlX10_page = true := dk_fm 0 (by decide +kernel)
theorem dtX10_fault : fmDec cX10_fault dlX10_fault = true := dk_fm 0 (by decide +kernel)
theorem dtX10_undo : fmDec cX10_undo dlX10_undo = true := dk_fm 0 (by decide +kernel)
theorem dtX10_told : fmDec cX10_told dlX10_told = true := dk_fx 0 [(17, .tableswitch 111 0 7 #[47, 55, 60, 65, 81, 93, 98, 103], 47)] (by decide +kernel) (by decide +kernel)
theorem dtX10_life : fmDec cX10_life dlX10_life = true := dk_fx 0 [(14, .tableswitch 131 0 6 #[42, 59, 69, 79, 89, 98, 118], 42)] (by decide +kernel) (by decide +kernel)
theorem dtX10_facts : fmDec cX10_facts dlX10_facts = true := dk_fm 0 (by decide +kernel)
theorem dtX10_wrong : fmDec cX10_wrong dlX10_wrong = true := dk_fm 0 (by decide +kernel)
theorem dtX10_would : fmDec cX10_would dlX10_would = true := dk_fm 0 (by decide +kernel)
theorem dtX10_lacking : fmDec cX10_lacking dlX10_lacking = true := dk_fm 0 (by decide +kernel)
theorem dtX10_signed : fmDec cX10_signed dlX10_signed = true := dk_fm 0 (by decide +kernel)
theorem dtX10_stale : fmDec cX10_stale dlX10_stale = true := dk_fm 0 (by decide +kernel)
theorem dtX10_oldest : fmDec cX10_oldest dlX10_oldest = true := dk_fm 0 (by decide +kernel)
theorem dtX10_chain : fmDec cX10_chain dlX10_chain = true := dk_fm 0 (by decide +kernel)
theorem dtX10_loss : fmDec cX10_loss dlX10_loss = true := dk_fm 0 (by decide +kernel)
theorem dtX10_cost : fmDec cX10_cost dlX10_cost = true := dk_fm 0 (by decide +kernel)
theorem dtX10_risk : fmDec cX10_risk dlX10_risk = true := dk_fm 0 (by decide +kernel)
theorem dtX10_saves : fmDec cX10_saves dlX10_saves = true := dk_fm 0 (by decide +kernel)
theorem dtX10_first : fmDec cX10_first dlX10_first = true := dk_fm 0 (by decide +kernel)
theorem dtX10_ahead : fmDec cX10_ahead dlX10_ahead = true := dk_fm 0 (by decide +kernel)
theorem dtX10_worst : fmDec cX10_worst dlX10_worst = true := dk_fm 0 (by decide +kernel)
theorem dtX10_lives : fmDec cX10_lives dlX10_lives = true := dk_fm 0 (by decide +kernel)
theorem dtX10_due : fmDec cX10_due dlX10_due = true := dk_fm 0 (by decide +kernel)
theorem dtX10_news : fmDec cX10_news dlX10_news = true := dk_fm 0 (by decide +kernel)
theorem dtX10_expects : fmDec cX10_expects dlX10_expects = true := dk_fm 0 (by decide +kernel)
theorem dtX10_best : fmDec cX10_best dlX10_best = true := dk_fm 0 (by decide +kernel)
theorem dtX10_bestIn : fmDec cX10_bestIn dlX10_bestIn = true := dk_fm 0 (by decide +kernel)
theorem dtX10_often : fmDec cX10_often dlX10_often = true := dk_fm 0 (by decide +kernel)
theorem dtX10_yearly : fmDec cX10_yearly dlX10_yearly = true := dk_fm 0 (by decide +kernel)
theorem dtX10_brings : fmDec cX10_brings dlX10_brings = true := dk_fm 0 (by decide +kernel)
theorem dtX10_says : fmDec cX10_says dlX10_says = true := dk_fm 0 (by decide +kernel)
theorem dtX10_line : fmDec cX10_line dlX10_line = true := dk_fm 0 (by decide +kernel)
theorem dtX10_room : fmDec cX10_room dlX10_room = true := dk_fm 0 (by decide +kernel)
theorem dtX10_lines : fmDec cX10_lines dlX10_lines = true := dk_fm 0 (by decide +kernel)
theorem dtX10_apart : fmDec cX10_apart dlX10_apart = true := dk_fm 0 (by decide +kernel)
theorem dtX10_twins : fmDec cX10_twins dlX10_twins = true := dk_fm 0 (by decide +kernel)
theorem dtX10_written : fmDec cX10_written dlX10_written = true := dk_fm 0 (by decide +kernel)
theorem dtX10_whose : fmDec cX10_whose dlX10_whose = true := dk_fm 0 (by decide +kernel)
theorem dtX10_years : fmDec cX10_years dlX10_years = true := dk_fx 0 [(32, .tableswitch 84 0 3 #[32, 54, 65, 76], 32)] (by decide +kernel) (by decide +kernel)
theorem dtX10_span : fmDec cX10_span dlX10_span = true := dk_fx 0 [(151, .tableswitch 34 0 2 #[25, 28, 31], 25)] (by decide +kernel) (by decide +kernel)
theorem dtX10_image : fmDec cX10_image dlX10_image = true := dk_fm 0 (by decide +kernel)
theorem dtX10_restore : fmDec cX10_restore dlX10_restore = true := dk_fm 0 (by decide +kernel)
theorem dtX10_status : fmDec cX10_status dlX10_status = true := dk_fx 0 [(1, .lookupswitch 37 #[(0, 27), (1, 32)], 27)] (by decide +kernel) (by decide +kernel)
theorem dtX10_count : fmDec cX10_count dlX10_count = true := dk_fx 0 [(1, .tableswitch 48 0 2 #[27, 32, 40], 27)] (by decide +kernel) (by decide +kernel)
theorem dtX10_needLife : fmDec cX10_needLife dlX10_needLife = true := dk_fm 0 (by decide +kernel)
theorem dtX10_needWithin : fmDec cX10_needWithin dlX10_needWithin = true := dk_fm 0 (by decide +kernel)
theorem dtX10_needPart : fmDec cX10_needPart dlX10_needPart = true := dk_fm 0 (by decide +kernel)
theorem dtX10_needBits : fmDec cX10_needBits dlX10_needBits = true := dk_fm 0 (by decide +kernel)
theorem dtX10_needRumour : fmDec cX10_needRumour dlX10_needRumour = true := dk_fm 0 (by decide +kernel)
theorem dtX10_openText : fmDec cX10_openText dlX10_openText = true := dk_fm 0 (by decide +kernel)
theorem dtX10_aheadMost : fmDec cX10_aheadMost dlX10_aheadMost = true := dk_fm 0 (by decide +kernel)
theorem dtX10_piecesWrongBy : fmDec cX10_piecesWrongBy dlX10_piecesWrongBy = true := dk_fm 0 (by decide +kernel)
theorem dtX10_renewalPrice : fmDec cX10_renewalPrice dlX10_renewalPrice = true := dk_fm 0 (by decide +kernel)
theorem dtX10_meanOf : fmDec cX10_meanOf dlX10_meanOf = true := dk_fx 0 [(2, .lookupswitch 55 #[(0, 26), (1, 40)], 26)] (by decide +kernel) (by decide +kernel)
theorem dtX10_bestWay : fmDec cX10_bestWay dlX10_bestWay = true := dk_fm 0 (by decide +kernel)
theorem dtX10_fillRoom : fmDec cX10_fillRoom dlX10_fillRoom = true := dk_fm 0 (by decide +kernel)
theorem dtX10_addToRoom : fmDec cX10_addToRoom dlX10_addToRoom = true := dk_fm 0 (by decide +kernel)
theorem dtX10_roomShift : fmDec cX10_roomShift dlX10_roomShift = true := dk_fm 0 (by decide +kernel)
theorem dtX10_roomWorth : fmDec cX10_roomWorth dlX10_roomWorth = true := dk_fm 0 (by decide +kernel)
theorem dtX10_look : fmDec cX10_look dlX10_look = true := dk_fm 0 (by decide +kernel)
theorem dtX10_tellsApart : fmDec cX10_tellsApart dlX10_tellsApart = true := dk_fm 0 (by decide +kernel)
theorem dtX10_weeksAsPage : fmDec cX10_weeksAsPage dlX10_weeksAsPage = true := dk_fm 0 (by decide +kernel)
theorem dtX10_termOf : fmDec cX10_termOf dlX10_termOf = true := dk_fm 0 (by decide +kernel)
theorem dtX11_init : fmDec cX11_init dlX11_init = true := dk_fx 0 [(13, .newarray .int, 2), (20, .newarray .int, 2), (28, .newarray .int, 2), (36, .newarray .int, 2), (46, .multianewarray 26 2, 4), (58, .multianewarray 26 2, 4), (69, .multianewarray 26 2, 4), (80, .multianewarray 26 2, 4), (92, .multianewarray 26 2, 4), (104, .multianewarray 26 2, 4), (115, .multianewarray 26 2, 4), (126, .multianewarray 26 2, 4), (137, .newarray .int, 2), (144, .newarray .int, 2), (153, .multianewarray 26 2, 4), (163, .newarray .int, 2), (171, .newarray .int, 2), (181, .multianewarray 26 2, 4), (193, .multianewarray 26 2, 4), (204, .newarray .long, 2), (213, .newarray .long, 2), (222, .newarray .long, 2), (231, .newarray .long, 2), (238, .newarray .int, 2), (246, .newarray .int, 2), (254, .newarray .int, 2)] (by decide +kernel) (by decide +kernel)
theorem dtX11_tellsNothing : fmDec cX11_tellsNothing dlX11_tellsNothing = true := dk_fm 0 (by decide +kernel)
theorem dtX11_bad : fmDec cX11_bad dlX11_bad = true := dk_fm 0 (by decide +kernel)
theorem dtX11_in : fmDec cX11_in dlX11_in = true := dk_fm 0 (by decide +kernel)
theorem dtX11_less : fmDec cX11_less dlX11_less = true := dk_fm 0 (by decide +kernel)
theorem dtX11_more : fmDec cX11_more dlX11_more = true := dk_fm 0 (by decide +kernel)
theorem dtX11_has : fmDec cX11_has dlX11_has = true := dk_fm 0 (by decide +kernel)
theorem dtX11_feed : fmDec cX11_feed dlX11_feed = true := dk_fm 0 (by decide +kernel)
theorem dtX11_byteAt : fmDec cX11_byteAt dlX11_byteAt = true := dk_fm 0 (by decide +kernel)
theorem dtX11_blanks : fmDec cX11_blanks dlX11_blanks = true := dk_fm 0 (by decide +kernel)
theorem dtX11_wrongAt : fmDec cX11_wrongAt dlX11_wrongAt = true := dk_fm 0 (by decide +kernel)
theorem dtX11_isDigit : fmDec cX11_isDigit dlX11_isDigit = true := dk_fm 0 (by decide +kernel)
theorem dtX11_isSmall : fmDec cX11_isSmall dlX11_isSmall = true := dk_fm 0 (by decide +kernel)
theorem dtX11_number : fmDec cX11_number dlX11_number = true := dk_fm 0 (by decide +kernel)
theorem dtX11_wordHere : fmDec cX11_wordHere dlX11_wordHere = true := dk_fm 0 (by decide +kernel)
theorem dtX11_five : fmDec cX11_five dlX11_five = true := dk_fm 0 (by decide +kernel)
theorem dtX11_isWord : fmDec cX11_isWord dlX11_isWord = true := dk_fm 0 (by decide +kernel)
theorem dtX11_skipWord : fmDec cX11_skipWord dlX11_skipWord = true := dk_fm 0 (by decide +kernel)
theorem dtX11_takes : fmDec cX11_takes dlX11_takes = true := dk_fm 0 (by decide +kernel)
theorem dtX11_sign : fmDec cX11_sign dlX11_sign = true := dk_fm 0 (by decide +kernel)
theorem dtX11_takesSign : fmDec cX11_takesSign dlX11_takesSign = true := dk_fm 0 (by decide +kernel)
theorem dtX11_starts : fmDec cX11_starts dlX11_starts = true := dk_fm 0 (by decide +kernel)
theorem dtX11_ends : fmDec cX11_ends dlX11_ends = true := dk_fm 0 (by decide +kernel)
theorem dtX11_kindHere : fmDec cX11_kindHere dlX11_kindHere = true := dk_fm 0 (by decide +kernel)
theorem dtX11_lifeHere : fmDec cX11_lifeHere dlX11_lifeHere = true := dk_fm 0 (by decide +kernel)
theorem dtX11_clause : fmDec cX11_clause dlX11_clause = true := dk_fx 0 [(94, .tableswitch 251 0 7 #[46, 109, 251, 251, 251, 251, 150, 182], 46)] (by decide +kernel) (by decide +kernel)
theorem dtX11_drawer : fmDec cX11_drawer dlX11_drawer = true := dk_fm 0 (by decide +kernel)
theorem dtX11_lays : fmDec cX11_lays dlX11_lays = true := dk_fm 0 (by decide +kernel)
theorem dtX11_copies : fmDec cX11_copies dlX11_copies = true := dk_fm 0 (by decide +kernel)
theorem dtX11_stands : fmDec cX11_stands dlX11_stands = true := dk_fm 0 (by decide +kernel)
theorem dtX11_notes : fmDec cX11_notes dlX11_notes = true := dk_fm 0 (by decide +kernel)
theorem dtX11_opens : fmDec cX11_opens dlX11_opens = true := dk_fm 0 (by decide +kernel)
theorem dtX11_sum : fmDec cX11_sum dlX11_sum = true := dk_fm 0 (by decide +kernel)
theorem dtX11_product : fmDec cX11_product dlX11_product = true := dk_fm 0 (by decide +kernel)
theorem dtX11_knownHere : fmDec cX11_knownHere dlX11_knownHere = true := dk_fm 0 (by decide +kernel)
theorem dtX11_one : fmDec cX11_one dlX11_one = true := dk_fm 0 (by decide +kernel)
theorem dtX11_law : fmDec cX11_law dlX11_law = true := dk_fm 0 (by decide +kernel)
theorem dtX11_by : fmDec cX11_by dlX11_by = true := dk_fx 0 [(1, .tableswitch 75 2 6 #[35, 39, 43, 47, 69], 35)] (by decide +kernel) (by decide +kernel)
theorem dtX11_byLaw : fmDec cX11_byLaw dlX11_byLaw = true := dk_fm 0 (by decide +kernel)
theorem dtX11_stepHere : fmDec cX11_stepHere dlX11_stepHere = true := dk_fm 0 (by decide +kernel)
theorem dtX11_readsStep : fmDec cX11_readsStep dlX11_readsStep = true := dk_fm 0 (by decide +kernel)
theorem dtX11_page : fmDec cX11_page dlX11_page = true := dk_fm 0 (by decide +kernel)
theorem dtX11_fault : fmDec cX11_fault dlX11_fault = true := dk_fm 0 (by decide +kernel)
theorem dtX11_hasPiece : fmDec cX11_hasPiece dlX11_hasPiece = true := dk_fm 0 (by decide +kernel)
theorem dtX11_changesOf : fmDec cX11_changesOf dlX11_changesOf = true := dk_fm 0 (by decide +kernel)
theorem dtX11_factsAt : fmDec cX11_factsAt dlX11_factsAt = true := dk_fm 0 (by decide +kernel)
theorem dtX11_wrongBy : fmDec cX11_wrongBy dlX11_wrongBy = true := dk_fm 0 (by decide +kernel)
theorem dtX11_yearsOf : fmDec cX11_yearsOf dlX11_yearsOf = true := dk_fm 0 (by decide +kernel)
theorem dtX11_isByDead : fmDec cX11_isByDead dlX11_isByDead = true := dk_fm 0 (by decide +kernel)
theorem dtX11_wrongIn : fmDec cX11_wrongIn dlX11_wrongIn = true := dk_fm 0 (by decide +kernel)
theorem dtX11_costIn : fmDec cX11_costIn dlX11_costIn = true := dk_fm 0 (by decide +kernel)
theorem dtX11_costOf : fmDec cX11_costOf dlX11_costOf = true := dk_fm 0 (by decide +kernel)
theorem dtX11_renewHours : fmDec cX11_renewHours dlX11_renewHours = true := dk_fm 0 (by decide +kernel)
theorem dtX11_hoursFor : fmDec cX11_hoursFor dlX11_hoursFor = true := dk_fm 0 (by decide +kernel)
theorem dtX11_mayWrite : fmDec cX11_mayWrite dlX11_mayWrite = true := dk_fm 0 (by decide +kernel)
theorem dtX11_writes : fmDec cX11_writes dlX11_writes = true := dk_fm 0 (by decide +kernel)
theorem dtX11_dies : fmDec cX11_dies dlX11_dies = true := dk_fm 0 (by decide +kernel)
theorem dtX11_weekEnds : fmDec cX11_weekEnds dlX11_weekEnds = true := dk_fm 0 (by decide +kernel)
theorem dtX11_does : fmDec cX11_does dlX11_does = true := dk_fx 0 [(7, .tableswitch 97 0 2 #[25, 25, 77], 25)] (by decide +kernel) (by decide +kernel)
theorem dtX11_goes : fmDec cX11_goes dlX11_goes = true := dk_fm 0 (by decide +kernel)
theorem dtX11_work : fmDec cX11_work dlX11_work = true := dk_fm 0 (by decide +kernel)
theorem dtX11_undo : fmDec cX11_undo dlX11_undo = true := dk_fm 0 (by decide +kernel)
theorem dtX11_aliveIn : fmDec cX11_aliveIn dlX11_aliveIn = true := dk_fm 0 (by decide +kernel)
theorem dtX11_told : fmDec cX11_told dlX11_told = true := dk_fx 0 [(32, .tableswitch 142 0 7 #[48, 55, 63, 71, 80, 121, 129, 137], 48)] (by decide +kernel) (by decide +kernel)
theorem dtX11_isLife : fmDec cX11_isLife dlX11_isLife = true := dk_fm 0 (by decide +kernel)
theorem dtX11_life : fmDec cX11_life dlX11_life = true := dk_fx 0 [(54, .tableswitch 113 0 6 #[42, 55, 55, 55, 64, 70, 81], 42)] (by decide +kernel) (by decide +kernel)
theorem dtX11_facts : fmDec cX11_facts dlX11_facts = true := dk_fm 0 (by decide +kernel)
theorem dtX11_wrongOf : fmDec cX11_wrongOf dlX11_wrongOf = true := dk_fm 0 (by decide +kernel)
theorem dtX11_wrong : fmDec cX11_wrong dlX11_wrong = true := dk_fm 0 (by decide +kernel)
theorem dtX11_would : fmDec cX11_would dlX11_would = true := dk_fm 0 (by decide +kernel)
theorem dtX11_partOf : fmDec cX11_partOf dlX11_partOf = true := dk_fm 0 (by decide +kernel)
theorem dtX11_power : fmDec cX11_power dlX11_power = true := dk_fm 0 (by decide +kernel)
theorem dtX11_noPart : fmDec cX11_noPart dlX11_noPart = true := dk_fm 0 (by decide +kernel)
theorem dtX11_loss : fmDec cX11_loss dlX11_loss = true := dk_fm 0 (by decide +kernel)
theorem dtX11_cost : fmDec cX11_cost dlX11_cost = true := dk_fm 0 (by decide +kernel)
theorem dtX11_riskOf : fmDec cX11_riskOf dlX11_riskOf = true := dk_fm 0 (by decide +kernel)
theorem dtX11_risk : fmDec cX11_risk dlX11_risk = true := dk_fm 0 (by decide +kernel)
theorem dtX11_saved : fmDec cX11_saved dlX11_saved = true := dk_fm 0 (by decide +kernel)
theorem dtX11_saves : fmDec cX11_saves dlX11_saves = true := dk_fm 0 (by decide +kernel)
theorem dtX11_firstOf : fmDec cX11_firstOf dlX11_firstOf = true := dk_fm 0 (by decide +kernel)
theorem dtX11_first : fmDec cX11_first dlX11_first = true := dk_fm 0 (by decide +kernel)
theorem dtX11_lacking : fmDec cX11_lacking dlX11_lacking = true := dk_fm 0 (by decide +kernel)
theorem dtX11_signed : fmDec cX11_signed dlX11_signed = true := dk_fm 0 (by decide +kernel)
theorem dtX11_stale : fmDec cX11_stale dlX11_stale = true := dk_fm 0 (by decide +kernel)
theorem dtX11_isOption : fmDec cX11_isOption dlX11_isOption = true := dk_fm 0 (by decide +kernel)
theorem dtX11_roomOf : fmDec cX11_roomOf dlX11_roomOf = true := dk_fm 0 (by decide +kernel)
theorem dtX11_laysOption : fmDec cX11_laysOption dlX11_laysOption = true := dk_fm 0 (by decide +kernel)
theorem dtX11_laysBest : fmDec cX11_laysBest dlX11_laysBest = true := dk_fm 0 (by decide +kernel)
theorem dtX11_best : fmDec cX11_best dlX11_best = true := dk_fm 0 (by decide +kernel)
theorem dtX11_bestIn : fmDec cX11_bestIn dlX11_bestIn = true := dk_fm 0 (by decide +kernel)
theorem dtX11_oftenBy : fmDec cX11_oftenBy dlX11_oftenBy = true := dk_fm 0 (by decide +kernel)
theorem dtX11_often : fmDec cX11_often dlX11_often = true := dk_fm 0 (by decide +kernel)
theorem dtX11_yearly : fmDec cX11_yearly dlX11_yearly = true := dk_fm 0 (by decide +kernel)
theorem dtX11_bringsBy : fmDec cX11_bringsBy dlX11_bringsBy = true := dk_fm 0 (by decide +kernel)
theorem dtX11_isRumour : fmDec cX11_isRumour dlX11_isRumour = true := dk_fm 0 (by decide +kernel)
theorem dtX11_brings : fmDec cX11_brings dlX11_brings = true := dk_fm 0 (by decide +kernel)
theorem dtX11_saysBy : fmDec cX11_saysBy dlX11_saysBy = true := dk_fm 0 (by decide +kernel)
theorem dtX11_says : fmDec cX11_says dlX11_says = true := dk_fm 0 (by decide +kernel)
theorem dtX11_line : fmDec cX11_line dlX11_line = true := dk_fm 0 (by decide +kernel)
theorem dtX11_areLives : fmDec cX11_areLives dlX11_areLives = true := dk_fm 0 (by decide +kernel)
theorem dtX11_rooms : fmDec cX11_rooms dlX11_rooms = true := dk_fm 0 (by decide +kernel)
theorem dtX11_laysRoom : fmDec cX11_laysRoom dlX11_laysRoom = true := dk_fm 0 (by decide +kernel)
theorem dtX11_room : fmDec cX11_room dlX11_room = true := dk_fm 0 (by decide +kernel)
theorem dtX11_lines : fmDec cX11_lines dlX11_lines = true := dk_fm 0 (by decide +kernel)
theorem dtX11_ones : fmDec cX11_ones dlX11_ones = true := dk_fm 0 (by decide +kernel)
theorem dtX11_isApart : fmDec cX11_isApart dlX11_isApart = true := dk_fm 0 (by decide +kernel)
theorem dtX11_apart : fmDec cX11_apart dlX11_apart = true := dk_fm 0 (by decide +kernel)
theorem dtX11_twins : fmDec cX11_twins dlX11_twins = true := dk_fm 0 (by decide +kernel)
theorem dtX11_writtenOf : fmDec cX11_writtenOf dlX11_writtenOf = true := dk_fm 0 (by decide +kernel)
theorem dtX11_written : fmDec cX11_written dlX11_written = true := dk_fm 0 (by decide +kernel)
theorem dtX11_whose : fmDec cX11_whose dlX11_whose = true := dk_fm 0 (by decide +kernel)
theorem dtX11_riskIn : fmDec cX11_riskIn dlX11_riskIn = true := dk_fm 0 (by decide +kernel)
theorem dtX11_ahead : fmDec cX11_ahead dlX11_ahead = true := dk_fm 0 (by decide +kernel)
theorem dtX11_worst : fmDec cX11_worst dlX11_worst = true := dk_fm 0 (by decide +kernel)
theorem dtX11_lives : fmDec cX11_lives dlX11_lives = true := dk_fm 0 (by decide +kernel)
theorem dtX11_oldest : fmDec cX11_oldest dlX11_oldest = true := dk_fm 0 (by decide +kernel)
theorem dtX11_chain : fmDec cX11_chain dlX11_chain = true := dk_fm 0 (by decide +kernel)
theorem dtX11_due : fmDec cX11_due dlX11_due = true := dk_fm 0 (by decide +kernel)
theorem dtX11_news : fmDec cX11_news dlX11_news = true := dk_fm 0 (by decide +kernel)
theorem dtX11_expects : fmDec cX11_expects dlX11_expects = true := dk_fm 0 (by decide +kernel)
theorem dtX11_yearsBy : fmDec cX11_yearsBy dlX11_yearsBy = true := dk_fm 0 (by decide +kernel)
theorem dtX11_years : fmDec cX11_years dlX11_years = true := dk_fx 0 [(47, .tableswitch 75 0 3 #[29, 38, 54, 70], 29)] (by decide +kernel) (by decide +kernel)
theorem dtX11_span : fmDec cX11_span dlX11_span = true := dk_fm 0 (by decide +kernel)
theorem dtX11_puts : fmDec cX11_puts dlX11_puts = true := dk_fm 0 (by decide +kernel)
theorem dtX11_putsAll : fmDec cX11_putsAll dlX11_putsAll = true := dk_fm 0 (by decide +kernel)
theorem dtX11_image : fmDec cX11_image dlX11_image = true := dk_fm 0 (by decide +kernel)
theorem dtX11_restore : fmDec cX11_restore dlX11_restore = true := dk_fm 0 (by decide +kernel)
theorem dtX11_status : fmDec cX11_status dlX11_status = true := dk_fm 0 (by decide +kernel)
theorem dtX11_count : fmDec cX11_count dlX11_count = true := dk_fm 0 (by decide +kernel)
theorem dtJ6_bitCount_0f7a4 : fmDec cJ6_bitCount_0f7a4 dlJ6_bitCount_0f7a4 = true := dk_fm 0 (by decide +kernel)
theorem dtJ9_max_7cf53 : fmDec cJ9_max_7cf53 dlJ9_max_7cf53 = true := dk_fm 0 (by decide +kernel)
theorem dtJ9_max_f86c9 : fmDec cJ9_max_f86c9 dlJ9_max_f86c9 = true := dk_fm 0 (by decide +kernel)
theorem dtJ9_min_7cf53 : fmDec cJ9_min_7cf53 dlJ9_min_7cf53 = true := dk_fm 0 (by decide +kernel)
theorem dtJ9_min_f86c9 : fmDec cJ9_min_f86c9 dlJ9_min_f86c9 = true := dk_fm 0 (by decide +kernel)
theorem dtJ0_length_8abf5 : fmDec cJ0_length_8abf5 dlJ0_length_8abf5 = true := dk_fm 0 (by decide +kernel)
theorem dtJ0_charAt_5068e : fmDec cJ0_charAt_5068e dlJ0_charAt_5068e = true := dk_fm 0 (by decide +kernel)
theorem dtJ0_coder_7d493 : fmDec cJ0_coder_7d493 dlJ0_coder_7d493 = true := dk_fm 0 (by decide +kernel)
theorem dtJ0_isLatin1_aae02 : fmDec cJ0_isLatin1_aae02 dlJ0_isLatin1_aae02 = true := dk_fm 0 (by decide +kernel)
theorem dtJ0_checkIndex_df160 : fmDec cJ0_checkIndex_df160 dlJ0_checkIndex_df160 = true := dk_fm 0 (by decide +kernel)
theorem dtJ1_charAt_3b067 : fmDec cJ1_charAt_3b067 dlJ1_charAt_3b067 = true := dk_fm 0 (by decide +kernel)
theorem dtJ2_getChar_3b067 : fmDec cJ2_getChar_3b067 dlJ2_getChar_3b067 = true := dk_fm 0 (by decide +kernel)
theorem dtJ2_length_9d52b : fmDec cJ2_length_9d52b dlJ2_length_9d52b = true := dk_fm 0 (by decide +kernel)
theorem dtJ2_charAt_3b067 : fmDec cJ2_charAt_3b067 dlJ2_charAt_3b067 = true := dk_fm 0 (by decide +kernel)
theorem dtJ2_checkIndex_2214a : fmDec cJ2_checkIndex_2214a dlJ2_checkIndex_2214a = true := dk_fm 0 (by decide +kernel)
theorem dtJ7_fill_d0a16 : fmDec cJ7_fill_d0a16 dlJ7_fill_d0a16 = true := dk_fm 0 (by decide +kernel)
theorem dtJ7_fill_53178 : fmDec cJ7_fill_53178 dlJ7_fill_53178 = true := dk_fm 0 (by decide +kernel)
theorem dtJ3_checkIndex_8e157 : fmDec cJ3_checkIndex_8e157 dlJ3_checkIndex_8e157 = true := dk_fm 0 (by decide +kernel)
end
