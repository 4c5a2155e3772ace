theorem fs_v : Cond.fieldLink "java/lang/String" 9 "java/lang/String" "value" "[B" ∈ fmWs := fm_in 1966 (by decide +kernel) rfl
theorem fs_c : Cond.fieldLink "java/lang/String" 15 "java/lang/String" "coder" "B" ∈ fmWs := fm_in 1967 (by decide +kernel) rfl
theorem fs_k : Cond.fieldLink "java/lang/String" 38 "java/lang/String" "COMPACT_STRINGS" "Z" ∈ fmWs := fm_in 710 (by decide +kernel) rfl
theorem fs_s : Cond.fieldLink "java/lang/String" 1053 "jdk/internal/util/Preconditions" "SIOOBE_FORMATTER" "Ljava/util/function/BiFunction;" ∈ fmWs := fm_in 726 (by decide +kernel) rfl

theorem sb_X7_53 : fmCb RX7 53 qJ0_length_8abf5 0 := ⟨fm_in 702 (by decide +kernel) rfl, ni_J0, nc_J0_length_8abf5, nd_J0_length_8abf5, by decide⟩
theorem sb_X7_57 : fmCb RX7 57 qJ0_charAt_5068e 1 := ⟨fm_in 712 (by decide +kernel) rfl, ni_J0, nc_J0_charAt_5068e, nd_J0_charAt_5068e, by decide⟩
theorem sb_J0_335 : fmCb RJ0 335 qJ0_coder_7d493 0 := ⟨fm_in 706 (by decide +kernel) rfl, ni_J0, nc_J0_coder_7d493, nd_J0_coder_7d493, by decide⟩
theorem sb_J0_492 : fmCb RJ0 492 qJ0_isLatin1_aae02 0 := ⟨fm_in 716 (by decide +kernel) rfl, ni_J0, nc_J0_isLatin1_aae02, nd_J0_isLatin1_aae02, by decide⟩
theorem nz_J0_charAt_5068e : Cond.selects "java/lang/String" yJ0_charAt_5068e yJ0_charAt_5068e ∈ fmWs := fm_in 714 (by decide +kernel) rfl
theorem nz_J0_coder_7d493 : Cond.selects "java/lang/String" yJ0_coder_7d493 yJ0_coder_7d493 ∈ fmWs := fm_in 708 (by decide +kernel) rfl
theorem nz_J0_isLatin1_aae02 : Cond.selects "java/lang/String" yJ0_isLatin1_aae02 yJ0_isLatin1_aae02 ∈ fmWs := fm_in 718 (by decide +kernel) rfl
theorem nz_J0_length_8abf5 : Cond.selects "java/lang/String" yJ0_length_8abf5 yJ0_length_8abf5 ∈ fmWs := fm_in 704 (by decide +kernel) rfl
theorem fm_invT0 {T : fmT} {l : Launch} {G : fmG} {d d' : Nat} {y y' : fmY} {pc idx : Nat} {L : List (Option Value)} {st : List Value} {M : fmM} {Q : fmR → fmM → Prop} {i : Nat} (hi : i < 5) (hc : fmCb y.1.cls idx y' 0) (hm : Cond.instanceMethod y'.1 ∈ fmWs) (hs : Cond.selects "java/lang/String" y'.1 y'.1 ∈ fmWs) (hcat : (st.map fun v => v.category).sum ≤ 8) (hd : d' + 1 ≤ d) (hdg : decode y.2.1 pc = .ok (.invokevirtual idx, 3)) (hg : fmGood T l G d' y' [.ref (G.2.2.2.1 i)] M (fmThen T l G d y (pc + 3) L st Q)) : fmEv T l G d y pc L (.ref (G.2.2.2.1 i) :: st) M Q := fm_invT (As := []) hi hc hm hs rfl rfl rfl hcat hd hdg hg
theorem fm_invT1 {T : fmT} {l : Launch} {G : fmG} {d d' : Nat} {y y' : fmY} {pc idx : Nat} {L : List (Option Value)} {st : List Value} {M : fmM} {Q : fmR → fmM → Prop} {i : Nat} {a0 : Value} (hi : i < 5) (hc : fmCb y.1.cls idx y' 1) (hm : Cond.instanceMethod y'.1 ∈ fmWs) (hs : Cond.selects "java/lang/String" y'.1 y'.1 ∈ fmWs) (hcat : (st.map fun v => v.category).sum ≤ 8) (hd : d' + 1 ≤ d) (hdg : decode y.2.1 pc = .ok (.invokevirtual idx, 3)) (hg : fmGood T l G d' y' [.ref (G.2.2.2.1 i), a0] M (fmThen T l G d y (pc + 3) L st Q)) : fmEv T l G d y pc L (a0 :: .ref (G.2.2.2.1 i) :: st) M Q := fm_invT (As := [a0]) hi hc hm hs rfl rfl rfl hcat hd hdg hg
def chE (i k : Nat) : Int32 := (fmByt.getD i []).getD k 0 &&& 255
theorem fmLen_lt : ∀ i, i < 5 → fmLen.getD i 0 < 64 := by decide
theorem ne10 : ¬ (1 : Int32) = 0 := by decide

set_option maxRecDepth 20000 in
theorem c_coder {l : Launch} {G : fmG} {M : fmM} {Q : fmR → fmM → Prop} (hst : l.stackTraces = false) (i : Nat) (hi : i < 5) (hq : Q (.inl (some (.int 0))) M) : fmGood Tx l G 0 qJ0_coder_7d493 [.ref (G.2.2.2.1 i)] M Q := by
  refine fmGood_of hst (by decide +kernel) (Nat.le_of_ble_eq_true rfl) ?_
  show fmEv Tx l G 0 qJ0_coder_7d493 0 [some (.ref (G.2.2.2.1 i))] [] M Q
  refine fm_gcs (pc := 0) fs_k (fm_dec dtJ0_coder_7d493 0 rfl) ?_
  refine fm_if_eq (pc := 3) 13 (by decide) (fm_dec dtJ0_coder_7d493 1 rfl) (fun hc3 => by exfalso; exact ne10 hc3) (fun _ => ?_)
  refine fm_aloadn (pc := 6) (n := 0) 0 rfl rfl (fm_dec dtJ0_coder_7d493 2 rfl) ?_
  refine fm_scod (i := i) (pc := 7) hi fs_c (fm_dec dtJ0_coder_7d493 3 rfl) ?_
  refine fm_goto (pc := 10) 14 (by decide) (fm_dec dtJ0_coder_7d493 4 rfl) ?_
  exact fm_nreturn (pc := 14) .byte rfl rfl (fm_dec dtJ0_coder_7d493 6 rfl) hq

set_option maxRecDepth 20000 in
theorem c_latin {l : Launch} {G : fmG} {M : fmM} {Q : fmR → fmM → Prop} (hst : l.stackTraces = false) (i : Nat) (hi : i < 5) (hq : Q (.inl (some (.int 1))) M) : fmGood Tx l G 0 qJ0_isLatin1_aae02 [.ref (G.2.2.2.1 i)] M Q := by
  refine fmGood_of hst (by decide +kernel) (Nat.le_of_ble_eq_true rfl) ?_
  show fmEv Tx l G 0 qJ0_isLatin1_aae02 0 [some (.ref (G.2.2.2.1 i))] [] M Q
  refine fm_gcs (pc := 0) fs_k (fm_dec dtJ0_isLatin1_aae02 0 rfl) ?_
  refine fm_if_eq (pc := 3) 17 (by decide) (fm_dec dtJ0_isLatin1_aae02 1 rfl) (fun hc3 => by exfalso; exact ne10 hc3) (fun _ => ?_)
  refine fm_aloadn (pc := 6) (n := 0) 0 rfl rfl (fm_dec dtJ0_isLatin1_aae02 2 rfl) ?_
  refine fm_scod (i := i) (pc := 7) hi fs_c (fm_dec dtJ0_isLatin1_aae02 3 rfl) ?_
  refine fm_if_ne (pc := 10) 17 (by decide) (fm_dec dtJ0_isLatin1_aae02 4 rfl) (fun hc10 => by exfalso; exact hc10 rfl) (fun _ => ?_)
  refine fm_iconst (pc := 13) (v := 1) (by decide) (fm_dec dtJ0_isLatin1_aae02 5 rfl) ?_
  refine fm_goto (pc := 14) 18 (by decide) (fm_dec dtJ0_isLatin1_aae02 6 rfl) ?_
  exact fm_zreturn (pc := 18) rfl rfl (fm_dec dtJ0_isLatin1_aae02 8 rfl) hq

set_option maxRecDepth 20000 in
theorem c_strlen {l : Launch} {G : fmG} {M : fmM} {Q : fmR → fmM → Prop} (hst : l.stackTraces = false) (i : Nat) (hi : i < 5) (hq : Q (.inl (some (.int (nI (fmLen.getD i 0))))) M) : fmGood Tx l G 1 qJ0_length_8abf5 [.ref (G.2.2.2.1 i)] M Q := by
  refine fmGood_of hst (by decide +kernel) (Nat.le_of_ble_eq_true rfl) ?_
  show fmEv Tx l G 1 qJ0_length_8abf5 0 [some (.ref (G.2.2.2.1 i))] [] M Q
  refine fm_aloadn (pc := 0) (n := 0) 0 rfl rfl (fm_dec dtJ0_length_8abf5 0 rfl) ?_
  refine fm_sval (i := i) (pc := 1) hi fs_v (fm_dec dtJ0_length_8abf5 1 rfl) ?_
  refine fm_slen (i := i) (pc := 4) hi rfl (fm_dec dtJ0_length_8abf5 2 rfl) ?_
  refine fm_aloadn (pc := 5) (n := 0) 0 rfl rfl (fm_dec dtJ0_length_8abf5 3 rfl) ?_
  refine fm_invT0 (i := i) (d' := 0) (pc := 6) hi sb_J0_335 nm_J0_coder_7d493 nz_J0_coder_7d493 (Nat.le_of_ble_eq_true rfl) (by decide) (fm_dec dtJ0_length_8abf5 4 rfl) ?_
  refine c_coder hst i hi ?_
  refine fm_then1 ?_
  refine fm_ishr (pc := 9) (fm_dec dtJ0_length_8abf5 5 rfl) ?_
  refine fm_topE (v := nI (fmLen.getD i 0)) (sc_shr0 (by have := fmLen_lt i hi; omega)) ?_
  exact fm_ireturn (pc := 10) rfl (fm_dec dtJ0_length_8abf5 6 rfl) hq

theorem fmSi_cat (G : fmG) : (fmSi G).category = 1 := by unfold fmSi; split <;> rfl
theorem fmSi_len (G : fmG) (a b : Int32) : (lg_sl [.int a, .int b, fmSi G]).length = 3 := by
  unfold fmSi; split <;> rfl
theorem fmSi_args (G : fmG) (a b : Int32) : fmArgs [.int a, .int b, fmSi G] = [some (.int a), some (.int b), some (fmSi G)] := by
  unfold fmSi; split <;> rfl
set_option maxRecDepth 20000 in
theorem c_chk3 {l : Launch} {G : fmG} {M : fmM} {Q : fmR → fmM → Prop} (hst : l.stackTraces = false) (k n : Nat) (hk : k < n) (hn : n < 64) (hq : Q (.inl (some (.int (nI k)))) M) : fmGood Tx l G 0 qJ3_checkIndex_8e157 [.int (nI k), .int (nI n), fmSi G] M Q := by
  refine fmGood_of hst (by decide +kernel) (by rw [fmSi_len]; decide) ?_
  rw [fmSi_args]
  show fmEv Tx l G 0 qJ3_checkIndex_8e157 0 [some (.int (nI k)), some (.int (nI n)), some (fmSi G)] [] M Q
  refine fm_iloadn (pc := 0) (n := 0) 0 rfl rfl (fm_dec dtJ3_checkIndex_8e157 0 rfl) ?_
  refine fm_if_lt (pc := 1) 9 (by decide) (fm_dec dtJ3_checkIndex_8e157 1 rfl) (fun hc1 => by exfalso; exact nI_pos (by omega) hc1) (fun _ => ?_)
  refine fm_iloadn (pc := 4) (n := 0) 0 rfl rfl (fm_dec dtJ3_checkIndex_8e157 2 rfl) ?_
  refine fm_iloadn (pc := 5) (n := 1) 1 rfl rfl (fm_dec dtJ3_checkIndex_8e157 3 rfl) ?_
  refine fm_icmp_lt (pc := 6) 16 (by decide) (fm_dec dtJ3_checkIndex_8e157 4 rfl) (fun _ => ?_) (fun hc6 => by exfalso; exact hc6 (nI_lt hk (by omega)))
  refine fm_iloadn (pc := 16) (n := 0) 0 rfl rfl (fm_dec dtJ3_checkIndex_8e157 10 rfl) ?_
  exact fm_ireturn (pc := 17) rfl (fm_dec dtJ3_checkIndex_8e157 11 rfl) hq

set_option maxRecDepth 20000 in
theorem c_chk {l : Launch} {G : fmG} {M : fmM} {Q : fmR → fmM → Prop} (hst : l.stackTraces = false) (k n : Nat) (hk : k < n) (hn : n < 64) (hq : Q (.inl none) M) : fmGood Tx l G 1 qJ0_checkIndex_df160 [.int (nI k), .int (nI n)] M Q := by
  refine fmGood_of hst (by decide +kernel) (Nat.le_of_ble_eq_true rfl) ?_
  show fmEv Tx l G 1 qJ0_checkIndex_df160 0 [some (.int (nI k)), some (.int (nI n))] [] M Q
  refine fm_iloadn (pc := 0) (n := 0) 0 rfl rfl (fm_dec dtJ0_checkIndex_df160 0 rfl) ?_
  refine fm_iloadn (pc := 1) (n := 1) 1 rfl rfl (fm_dec dtJ0_checkIndex_df160 1 rfl) ?_
  refine fm_gsi (pc := 2) fs_s (fm_dec dtJ0_checkIndex_df160 2 rfl) ?_
  refine fm_stE (st' := [fmSi G, .int (nI n), .int (nI k)]) rfl ?_
  refine fm_invS3 (d' := 0) (pc := 5) cs_J0_1059 (Nat.le_of_ble_eq_true rfl) (by decide) (fm_dec dtJ0_checkIndex_df160 3 rfl) ?_
  refine c_chk3 hst _ _ hk hn ?_
  refine fm_then1 ?_
  refine fm_pop (pc := 8) rfl (fm_dec dtJ0_checkIndex_df160 4 rfl) ?_
  exact fm_return (pc := 9) rfl (fm_dec dtJ0_checkIndex_df160 5 rfl) hq

set_option maxRecDepth 20000 in
theorem c_lcharAt {l : Launch} {G : fmG} {M : fmM} {Q : fmR → fmM → Prop} (hst : l.stackTraces = false) (k : Nat) (i : Nat) (hi : i < 5) (hk : k < fmLen.getD i 0) (hq : Q (.inl (some (.int (chE i k)))) M) : fmGood Tx l G 2 qJ1_charAt_3b067 [.ref (G.2.2.2.2 i), .int (nI k)] M Q := by
  refine fmGood_of hst (by decide +kernel) (Nat.le_of_ble_eq_true rfl) ?_
  show fmEv Tx l G 2 qJ1_charAt_3b067 0 [some (.ref (G.2.2.2.2 i)), some (.int (nI k))] [] M Q
  refine fm_iloadn (pc := 0) (n := 1) 1 rfl rfl (fm_dec dtJ1_charAt_3b067 0 rfl) ?_
  refine fm_aloadn (pc := 1) (n := 0) 0 rfl rfl (fm_dec dtJ1_charAt_3b067 1 rfl) ?_
  refine fm_slen (i := i) (pc := 2) hi rfl (fm_dec dtJ1_charAt_3b067 2 rfl) ?_
  refine fm_invS2 (d' := 1) (pc := 3) cs_J1_9 (Nat.le_of_ble_eq_true rfl) (by decide) (fm_dec dtJ1_charAt_3b067 3 rfl) ?_
  refine c_chk hst _ _ hk (fmLen_lt i hi) ?_
  refine fm_then0 ?_
  refine fm_aloadn (pc := 6) (n := 0) 0 rfl rfl (fm_dec dtJ1_charAt_3b067 4 rfl) ?_
  refine fm_iloadn (pc := 7) (n := 1) 1 rfl rfl (fm_dec dtJ1_charAt_3b067 5 rfl) ?_
  refine fm_sbald (i := i) (pc := 8) hi (vp_in_nI hk (by have := fmLen_lt i hi; omega)) (fm_dec dtJ1_charAt_3b067 6 rfl) ?_
  refine fm_sipush (pc := 9) (v := 255) (by decide) (fm_dec dtJ1_charAt_3b067 7 rfl) ?_
  refine fm_iand (pc := 12) (fm_dec dtJ1_charAt_3b067 8 rfl) ?_
  refine fm_i2c (pc := 13) (fm_dec dtJ1_charAt_3b067 9 rfl) ?_
  refine fm_topE (v := chE i k) (by rw [nI_clamp (by have := fmLen_lt i hi; omega)]; exact sc_c2 _) ?_
  exact fm_nreturn (pc := 14) .char rfl (sc_nar _) (fm_dec dtJ1_charAt_3b067 10 rfl) hq

set_option maxRecDepth 20000 in
theorem c_charAt {l : Launch} {G : fmG} {M : fmM} {Q : fmR → fmM → Prop} (hst : l.stackTraces = false) (k : Nat) (i : Nat) (hi : i < 5) (hk : k < fmLen.getD i 0) (hq : Q (.inl (some (.int (chE i k)))) M) : fmGood Tx l G 3 qJ0_charAt_5068e [.ref (G.2.2.2.1 i), .int (nI k)] M Q := by
  refine fmGood_of hst (by decide +kernel) (Nat.le_of_ble_eq_true rfl) ?_
  show fmEv Tx l G 3 qJ0_charAt_5068e 0 [some (.ref (G.2.2.2.1 i)), some (.int (nI k))] [] M Q
  refine fm_aloadn (pc := 0) (n := 0) 0 rfl rfl (fm_dec dtJ0_charAt_5068e 0 rfl) ?_
  refine fm_invT0 (i := i) (d' := 0) (pc := 1) hi sb_J0_492 nm_J0_isLatin1_aae02 nz_J0_isLatin1_aae02 (Nat.le_of_ble_eq_true rfl) (by decide) (fm_dec dtJ0_charAt_5068e 1 rfl) ?_
  refine c_latin hst i hi ?_
  refine fm_then1 ?_
  refine fm_if_eq (pc := 4) 16 (by decide) (fm_dec dtJ0_charAt_5068e 2 rfl) (fun hc4 => by exfalso; exact ne10 hc4) (fun _ => ?_)
  refine fm_aloadn (pc := 7) (n := 0) 0 rfl rfl (fm_dec dtJ0_charAt_5068e 3 rfl) ?_
  refine fm_sval (i := i) (pc := 8) hi fs_v (fm_dec dtJ0_charAt_5068e 4 rfl) ?_
  refine fm_iloadn (pc := 11) (n := 1) 1 rfl rfl (fm_dec dtJ0_charAt_5068e 5 rfl) ?_
  refine fm_invS2 (d' := 2) (pc := 12) cs_J0_495 (Nat.le_of_ble_eq_true rfl) (by decide) (fm_dec dtJ0_charAt_5068e 6 rfl) ?_
  refine c_lcharAt hst _ i hi hk ?_
  refine fm_then1 ?_
  exact fm_nreturn (pc := 15) .char rfl (sc_nar _) (fm_dec dtJ0_charAt_5068e 7 rfl) hq

theorem ch3_D : ∀ j, j < 38 → chE 3 j = 32 → (j + 1 = 38 ∨ ¬ chE 3 (j + 1) = 32) := by decide +kernel
theorem ch3_0 : ¬ chE 3 0 = 32 := by decide +kernel

set_option maxRecDepth 20000 in
theorem fd_loop {l : Launch} {G : fmG} {Q : fmR → fmM → Prop} (hst : l.stackTraces = false) {M : fmM} (hq : Q (.inl (some (.int (-1)))) M) : ∀ (n j : Nat) (w : Int32) (a : Nat) (s : Int32), j + n = 38 → a ≤ j → (j < 38 → s = 0 ∨ ¬ chE 3 j = 32) → fmEv Tx l G 4 qX7_find 12 [some (.ref (G.1 1)), some (.ref (G.2.2.2.1 3)), some (.int 0), some (.int 0), some (.int w), some (.int (nI a)), some (.int s), some (.int (nI j)), none] [] M Q := by
  intro n
  induction n with
  | zero =>
    intro j w a s hj ha hs
    have e : j = 38 := by omega
    subst e
    refine fm_iload (pc := 12) (i := 7) rfl (fm_dec dtX7_find 8 rfl) ?_
    refine fm_aloadn (pc := 14) (n := 1) 1 rfl rfl (fm_dec dtX7_find 9 rfl) ?_
    refine fm_invT0 (i := 3) (d' := 1) (pc := 15) (by decide) sb_X7_53 nm_J0_length_8abf5 nz_J0_length_8abf5 (Nat.le_of_ble_eq_true rfl) (by decide) (fm_dec dtX7_find 10 rfl) ?_
    refine c_strlen hst 3 (by decide) ?_
    refine fm_then1 ?_
    refine fm_icmp_ge (pc := 18) 101 (by decide) (fm_dec dtX7_find 11 rfl) (fun _ => ?_) (fun hc18 => by exfalso; exact hc18 (by decide))
    refine fm_iconst (pc := 101) (v := (-1)) (by decide) (fm_dec dtX7_find 50 rfl) ?_
    exact fm_ireturn (pc := 102) rfl (fm_dec dtX7_find 51 rfl) hq
  | succ n ih =>
    intro j w a s hj ha hs
    refine fm_iload (pc := 12) (i := 7) rfl (fm_dec dtX7_find 8 rfl) ?_
    refine fm_aloadn (pc := 14) (n := 1) 1 rfl rfl (fm_dec dtX7_find 9 rfl) ?_
    refine fm_invT0 (i := 3) (d' := 1) (pc := 15) (by decide) sb_X7_53 nm_J0_length_8abf5 nz_J0_length_8abf5 (Nat.le_of_ble_eq_true rfl) (by decide) (fm_dec dtX7_find 10 rfl) ?_
    refine c_strlen hst 3 (by decide) ?_
    refine fm_then1 ?_
    refine fm_icmp_ge (pc := 18) 101 (by decide) (fm_dec dtX7_find 11 rfl) (fun hc18 => by exfalso; exact nI_ge (show j < 38 by omega) (by decide) hc18) (fun _ => ?_)
    refine fm_aloadn (pc := 21) (n := 1) 1 rfl rfl (fm_dec dtX7_find 12 rfl) ?_
    refine fm_iload (pc := 22) (i := 7) rfl (fm_dec dtX7_find 13 rfl) ?_
    refine fm_invT1 (i := 3) (d' := 3) (pc := 24) (by decide) sb_X7_57 nm_J0_charAt_5068e nz_J0_charAt_5068e (Nat.le_of_ble_eq_true rfl) (by decide) (fm_dec dtX7_find 14 rfl) ?_
    refine c_charAt hst j 3 (by decide) (by show j < 38; omega) ?_
    refine fm_then1 ?_
    refine fm_istore (pc := 27) (i := 8) (by decide) rfl (fm_dec dtX7_find 15 rfl) ?_
    dsimp only [List.set_cons_zero, List.set_cons_succ]
    refine fm_iload (pc := 29) (i := 8) rfl (fm_dec dtX7_find 16 rfl) ?_
    refine fm_bipush (pc := 31) (v := 32) (by decide) (fm_dec dtX7_find 17 rfl) ?_
    refine fm_icmp_eq (pc := 33) 72 (by decide) (fm_dec dtX7_find 18 rfl) (fun hc33 => ?_) (fun hc33 => ?_)
    · refine fm_iload (pc := 72) (i := 6) rfl (fm_dec dtX7_find 36 rfl) ?_
      refine fm_if_eq (pc := 74) 86 (by decide) (fm_dec dtX7_find 37 rfl) (fun _ => ?_) (fun hc74 => by exfalso; exact hc74 ((hs (by omega)).resolve_right (fun z => z hc33)))
      refine fm_iincc (pc := 86) 4 1 (by decide) rfl (by decide) rfl (fm_dec dtX7_find 43 rfl) ?_
      dsimp only [List.set_cons_zero, List.set_cons_succ]
      refine fm_iloadn (pc := 89) (n := 2) 2 rfl rfl (fm_dec dtX7_find 44 rfl) ?_
      refine fm_istore (pc := 90) (i := 5) (by decide) rfl (fm_dec dtX7_find 45 rfl) ?_
      dsimp only [List.set_cons_zero, List.set_cons_succ]
      refine fm_iconst (pc := 92) (v := 1) (by decide) (fm_dec dtX7_find 46 rfl) ?_
      refine fm_istore (pc := 93) (i := 6) (by decide) rfl (fm_dec dtX7_find 47 rfl) ?_
      dsimp only [List.set_cons_zero, List.set_cons_succ]
      refine fm_iincc (pc := 95) 7 1 (by decide) rfl (by decide) rfl (fm_dec dtX7_find 48 rfl) ?_
      dsimp only [List.set_cons_zero, List.set_cons_succ]
      refine fm_goto (pc := 98) 12 (by decide) (fm_dec dtX7_find 49 rfl) ?_
      rw [show nI j + 1 = nI (j + 1) from nI_1 j]
      refine fm_kill 8 ?_
      dsimp only [List.set_cons_zero, List.set_cons_succ]
      first | exact ih (j + 1) _ 0 1 (by omega) (by omega) (fun h => Or.inr ((ch3_D j (by omega) hc33).resolve_left (by omega))) | (rw [show nI a + 1 = nI (a + 1) from nI_1 a]; exact ih (j + 1) _ (a + 1) 0 (by omega) (by omega) (fun _ => Or.inl rfl))
    · refine fm_iload (pc := 36) (i := 6) rfl (fm_dec dtX7_find 19 rfl) ?_
      refine fm_if_eq (pc := 38) 63 (by decide) (fm_dec dtX7_find 20 rfl) (fun hc38 => ?_) (fun hc38 => ?_)
      · refine fm_iconst (pc := 63) (v := 0) (by decide) (fm_dec dtX7_find 32 rfl) ?_
        refine fm_istore (pc := 64) (i := 6) (by decide) rfl (fm_dec dtX7_find 33 rfl) ?_
        dsimp only [List.set_cons_zero, List.set_cons_succ]
        refine fm_iincc (pc := 66) 5 1 (by decide) rfl (by decide) rfl (fm_dec dtX7_find 34 rfl) ?_
        dsimp only [List.set_cons_zero, List.set_cons_succ]
        refine fm_goto (pc := 69) 95 (by decide) (fm_dec dtX7_find 35 rfl) ?_
        refine fm_iincc (pc := 95) 7 1 (by decide) rfl (by decide) rfl (fm_dec dtX7_find 48 rfl) ?_
        dsimp only [List.set_cons_zero, List.set_cons_succ]
        refine fm_goto (pc := 98) 12 (by decide) (fm_dec dtX7_find 49 rfl) ?_
        rw [show nI j + 1 = nI (j + 1) from nI_1 j]
        refine fm_kill 8 ?_
        dsimp only [List.set_cons_zero, List.set_cons_succ]
        first | exact ih (j + 1) _ 0 1 (by omega) (by omega) (fun h => Or.inr ((ch3_D j (by omega) hc33).resolve_left (by omega))) | (rw [show nI a + 1 = nI (a + 1) from nI_1 a]; exact ih (j + 1) _ (a + 1) 0 (by omega) (by omega) (fun _ => Or.inl rfl))
      · refine fm_iload (pc := 41) (i := 5) rfl (fm_dec dtX7_find 21 rfl) ?_
        refine fm_iloadn (pc := 43) (n := 3) 3 rfl rfl (fm_dec dtX7_find 22 rfl) ?_
        refine fm_icmp_ge (pc := 44) 63 (by decide) (fm_dec dtX7_find 23 rfl) (fun _ => ?_) (fun hc44 => by exfalso; exact hc44 (nI_pos' (by omega)))
        refine fm_iconst (pc := 63) (v := 0) (by decide) (fm_dec dtX7_find 32 rfl) ?_
        refine fm_istore (pc := 64) (i := 6) (by decide) rfl (fm_dec dtX7_find 33 rfl) ?_
        dsimp only [List.set_cons_zero, List.set_cons_succ]
        refine fm_iincc (pc := 66) 5 1 (by decide) rfl (by decide) rfl (fm_dec dtX7_find 34 rfl) ?_
        dsimp only [List.set_cons_zero, List.set_cons_succ]
        refine fm_goto (pc := 69) 95 (by decide) (fm_dec dtX7_find 35 rfl) ?_
        refine fm_iincc (pc := 95) 7 1 (by decide) rfl (by decide) rfl (fm_dec dtX7_find 48 rfl) ?_
        dsimp only [List.set_cons_zero, List.set_cons_succ]
        refine fm_goto (pc := 98) 12 (by decide) (fm_dec dtX7_find 49 rfl) ?_
        rw [show nI j + 1 = nI (j + 1) from nI_1 j]
        refine fm_kill 8 ?_
        dsimp only [List.set_cons_zero, List.set_cons_succ]
        first | exact ih (j + 1) _ 0 1 (by omega) (by omega) (fun h => Or.inr ((ch3_D j (by omega) hc33).resolve_left (by omega))) | (rw [show nI a + 1 = nI (a + 1) from nI_1 a]; exact ih (j + 1) _ (a + 1) 0 (by omega) (by omega) (fun _ => Or.inl rfl))

set_option maxRecDepth 20000 in
theorem c_find0 {l : Launch} {G : fmG} {M : fmM} {Q : fmR → fmM → Prop} (hst : l.stackTraces = false)  (hq : Q (.inl (some (.int (-1)))) M) : fmGood Tx l G 4 qX7_find [.ref (G.1 1), .ref (G.2.2.2.1 3), .int 0, .int 0] M Q := by
  refine fmGood_of hst (by decide +kernel) (Nat.le_of_ble_eq_true rfl) ?_
  show fmEv Tx l G 4 qX7_find 0 [some (.ref (G.1 1)), some (.ref (G.2.2.2.1 3)), some (.int 0), some (.int 0), none, none, none, none, none] [] M Q
  refine fm_iconst (pc := 0) (v := 0) (by decide) (fm_dec dtX7_find 0 rfl) ?_
  refine fm_istore (pc := 1) (i := 4) (by decide) rfl (fm_dec dtX7_find 1 rfl) ?_
  dsimp only [List.set_cons_zero, List.set_cons_succ]
  refine fm_iloadn (pc := 3) (n := 2) 2 rfl rfl (fm_dec dtX7_find 2 rfl) ?_
  refine fm_istore (pc := 4) (i := 5) (by decide) rfl (fm_dec dtX7_find 3 rfl) ?_
  dsimp only [List.set_cons_zero, List.set_cons_succ]
  refine fm_iconst (pc := 6) (v := 1) (by decide) (fm_dec dtX7_find 4 rfl) ?_
  refine fm_istore (pc := 7) (i := 6) (by decide) rfl (fm_dec dtX7_find 5 rfl) ?_
  dsimp only [List.set_cons_zero, List.set_cons_succ]
  refine fm_iconst (pc := 9) (v := 0) (by decide) (fm_dec dtX7_find 6 rfl) ?_
  refine fm_istore (pc := 10) (i := 7) (by decide) rfl (fm_dec dtX7_find 7 rfl) ?_
  dsimp only [List.set_cons_zero, List.set_cons_succ]
  exact fd_loop hst hq 38 0 0 0 1 (by omega) (by omega) (fun _ => Or.inr ch3_0)

set_option maxRecDepth 20000 in
theorem c_next0 {l : Launch} {G : fmG} {M : fmM} {Q : fmR → fmM → Prop} (hst : l.stackTraces = false)  (h2 : M.1 1 2 = 0) (h3 : M.1 1 3 = 0) (hq : Q (.inl (some (.int 0))) M) : fmGood Tx l G 1 qX7_nextPlace [.ref (G.1 1)] M Q := by
  refine fmGood_of hst (by decide +kernel) (Nat.le_of_ble_eq_true rfl) ?_
  show fmEv Tx l G 1 qX7_nextPlace 0 [some (.ref (G.1 1))] [] M Q
  refine fm_aloadn (pc := 0) (n := 0) 0 rfl rfl (fm_dec dtX7_nextPlace 0 rfl) ?_
  refine fm_invV0 (k := 1) (d' := 0) (pc := 1) cv_X7_31 (by decide) rfl (Nat.le_of_ble_eq_true rfl) (by decide) (fm_dec dtX7_nextPlace 1 rfl) ?_
  refine c_peek0 hst h2 h3 ?_
  refine fm_then1 ?_
  refine fm_pop (pc := 4) rfl (fm_dec dtX7_nextPlace 2 rfl) ?_
  refine fm_aloadn (pc := 5) (n := 0) 0 rfl rfl (fm_dec dtX7_nextPlace 3 rfl) ?_
  refine fm_getI (k := 1) (j := 3) (ci := 7) (pc := 6) fl_X7_25 (by decide) rfl (by decide) rfl (fm_dec dtX7_nextPlace 4 rfl) ?_
  exact fm_ireturn (pc := 9) rfl (fm_dec dtX7_nextPlace 5 rfl) (by rw [h3]; exact hq)

set_option maxRecDepth 20000 in
theorem c_fail0 {l : Launch} {G : fmG} {M : fmM} {Q : fmR → fmM → Prop} (hst : l.stackTraces = false)  (h4 : M.1 1 4 = 0) (hq : Q (.inl (some (.int 0))) (fmI (fmI M 1 4 1) 1 5 0)) : fmGood Tx l G 0 qX7_fail [.ref (G.1 1), .int 1, .int 0] M Q := by
  refine fmGood_of hst (by decide +kernel) (Nat.le_of_ble_eq_true rfl) ?_
  show fmEv Tx l G 0 qX7_fail 0 [some (.ref (G.1 1)), some (.int 1), some (.int 0)] [] M Q
  refine fm_aloadn (pc := 0) (n := 0) 0 rfl rfl (fm_dec dtX7_fail 0 rfl) ?_
  refine fm_getI (k := 1) (j := 4) (ci := 7) (pc := 1) fl_X7_28 (by decide) rfl (by decide) rfl (fm_dec dtX7_fail 1 rfl) ?_
  refine fm_if_ne (pc := 4) 17 (by decide) (fm_dec dtX7_fail 2 rfl) (fun hc4 => by exfalso; exact hc4 h4) (fun _ => ?_)
  refine fm_aloadn (pc := 7) (n := 0) 0 rfl rfl (fm_dec dtX7_fail 3 rfl) ?_
  refine fm_iloadn (pc := 8) (n := 1) 1 rfl rfl (fm_dec dtX7_fail 4 rfl) ?_
  refine fm_putI (k := 1) (j := 4) (ci := 7) (pc := 9) fl_X7_28 (by decide) rfl (by decide) rfl rfl (fm_dec dtX7_fail 5 rfl) ?_
  refine fm_aloadn (pc := 12) (n := 0) 0 rfl rfl (fm_dec dtX7_fail 6 rfl) ?_
  refine fm_iloadn (pc := 13) (n := 2) 2 rfl rfl (fm_dec dtX7_fail 7 rfl) ?_
  refine fm_putI (k := 1) (j := 5) (ci := 7) (pc := 14) fl_X7_15 (by decide) rfl (by decide) rfl rfl (fm_dec dtX7_fail 8 rfl) ?_
  refine fm_iconst (pc := 17) (v := 0) (by decide) (fm_dec dtX7_fail 9 rfl) ?_
  exact fm_zreturn (pc := 18) rfl rfl (fm_dec dtX7_fail 10 rfl) hq

set_option maxRecDepth 20000 in
theorem c_take0 {l : Launch} {G : fmG} {M : fmM} {Q : fmR → fmM → Prop} (hst : l.stackTraces = false)  (h2 : M.1 1 2 = 0) (h3 : M.1 1 3 = 0) (h4 : M.1 1 4 = 0) (hq : Q (.inl (some (.int (-1)))) (fmI (fmI M 1 4 1) 1 5 0)) : fmGood Tx l G 5 qX7_takeWord [.ref (G.1 1), .ref (G.2.2.2.1 3)] M Q := by
  refine fmGood_of hst (by decide +kernel) (Nat.le_of_ble_eq_true rfl) ?_
  show fmEv Tx l G 5 qX7_takeWord 0 [some (.ref (G.1 1)), some (.ref (G.2.2.2.1 3)), none, none, none] [] M Q
  refine fm_aloadn (pc := 0) (n := 0) 0 rfl rfl (fm_dec dtX7_takeWord 0 rfl) ?_
  refine fm_invV0 (k := 1) (d' := 1) (pc := 1) cv_X7_39 (by decide) rfl (Nat.le_of_ble_eq_true rfl) (by decide) (fm_dec dtX7_takeWord 1 rfl) ?_
  refine c_next0 hst h2 h3 ?_
  refine fm_then1 ?_
  refine fm_istoren (pc := 4) (n := 2) 2 rfl (by decide) rfl (fm_dec dtX7_takeWord 2 rfl) ?_
  dsimp only [List.set_cons_zero, List.set_cons_succ]
  refine fm_iloadn (pc := 5) (n := 2) 2 rfl rfl (fm_dec dtX7_takeWord 3 rfl) ?_
  refine fm_istoren (pc := 6) (n := 3) 3 rfl (by decide) rfl (fm_dec dtX7_takeWord 4 rfl) ?_
  dsimp only [List.set_cons_zero, List.set_cons_succ]
  refine fm_iloadn (pc := 7) (n := 3) 3 rfl rfl (fm_dec dtX7_takeWord 5 rfl) ?_
  refine fm_aloadn (pc := 8) (n := 0) 0 rfl rfl (fm_dec dtX7_takeWord 6 rfl) ?_
  refine fm_getI (k := 1) (j := 2) (ci := 7) (pc := 9) fl_X7_22 (by decide) rfl (by decide) rfl (fm_dec dtX7_takeWord 7 rfl) ?_
  refine fm_icmp_ge (pc := 12) 43 (by decide) (fm_dec dtX7_takeWord 8 rfl) (fun _ => ?_) (fun hc12 => by exfalso; exact hc12 (by rw [h2]; decide))
  refine fm_aloadn (pc := 43) (n := 0) 0 rfl rfl (fm_dec dtX7_takeWord 23 rfl) ?_
  refine fm_aloadn (pc := 44) (n := 1) 1 rfl rfl (fm_dec dtX7_takeWord 24 rfl) ?_
  refine fm_iloadn (pc := 45) (n := 2) 2 rfl rfl (fm_dec dtX7_takeWord 25 rfl) ?_
  refine fm_iloadn (pc := 46) (n := 3) 3 rfl rfl (fm_dec dtX7_takeWord 26 rfl) ?_
  refine fm_invV3 (k := 1) (d' := 4) (pc := 47) cv_X7_49 (by decide) rfl (Nat.le_of_ble_eq_true rfl) (by decide) (fm_dec dtX7_takeWord 27 rfl) ?_
  refine c_find0 hst ?_
  refine fm_then1 ?_
  refine fm_istore (pc := 50) (i := 4) (by decide) rfl (fm_dec dtX7_takeWord 28 rfl) ?_
  dsimp only [List.set_cons_zero, List.set_cons_succ]
  refine fm_iload (pc := 52) (i := 4) rfl (fm_dec dtX7_takeWord 29 rfl) ?_
  refine fm_iconst (pc := 54) (v := (-1)) (by decide) (fm_dec dtX7_takeWord 30 rfl) ?_
  refine fm_icmp_ne (pc := 55) 67 (by decide) (fm_dec dtX7_takeWord 31 rfl) (fun hc55 => by exfalso; exact hc55 rfl) (fun _ => ?_)
  refine fm_aloadn (pc := 58) (n := 0) 0 rfl rfl (fm_dec dtX7_takeWord 32 rfl) ?_
  refine fm_iconst (pc := 59) (v := 1) (by decide) (fm_dec dtX7_takeWord 33 rfl) ?_
  refine fm_iloadn (pc := 60) (n := 2) 2 rfl rfl (fm_dec dtX7_takeWord 34 rfl) ?_
  refine fm_invV2 (k := 1) (d' := 0) (pc := 61) cv_X7_35 (by decide) rfl (Nat.le_of_ble_eq_true rfl) (by decide) (fm_dec dtX7_takeWord 35 rfl) ?_
  refine c_fail0 hst h4 ?_
  refine fm_then1 ?_
  refine fm_pop (pc := 64) rfl (fm_dec dtX7_takeWord 36 rfl) ?_
  refine fm_iconst (pc := 65) (v := (-1)) (by decide) (fm_dec dtX7_takeWord 37 rfl) ?_
  exact fm_ireturn (pc := 66) rfl (fm_dec dtX7_takeWord 38 rfl) hq

set_option maxRecDepth 20000 in
theorem c_unit0 {l : Launch} {G : fmG} {M : fmM} {Q : fmR → fmM → Prop} (hst : l.stackTraces = false)  (h2 : M.1 1 2 = 0) (h3 : M.1 1 3 = 0) (h4 : M.1 1 4 = 0) (hq : Q (.inl (some (.int 0))) (fmI (fmI M 1 4 1) 1 5 0)) : fmGood Tx l G 6 qX1_readUnit [.ref (G.1 23), .ref (G.1 1), .int 0] M Q := by
  refine fmGood_of hst (by decide +kernel) (Nat.le_of_ble_eq_true rfl) ?_
  show fmEv Tx l G 6 qX1_readUnit 0 [some (.ref (G.1 23)), some (.ref (G.1 1)), some (.int 0), none, none, none] [] M Q
  refine fm_aloadn (pc := 0) (n := 1) 1 rfl rfl (fm_dec dtX1_readUnit 0 rfl) ?_
  refine fm_invV0 (k := 1) (d' := 0) (pc := 1) cv_X1_35 (by decide) rfl (Nat.le_of_ble_eq_true rfl) (by decide) (fm_dec dtX1_readUnit 1 rfl) ?_
  refine c_peek0 hst h2 h3 ?_
  refine fm_then1 ?_
  refine fm_istoren (pc := 4) (n := 3) 3 rfl (by decide) rfl (fm_dec dtX1_readUnit 2 rfl) ?_
  dsimp only [List.set_cons_zero, List.set_cons_succ]
  refine fm_aloadn (pc := 5) (n := 1) 1 rfl rfl (fm_dec dtX1_readUnit 3 rfl) ?_
  refine fm_getI (k := 1) (j := 3) (ci := 7) (pc := 6) fl_X1_41 (by decide) rfl (by decide) rfl (fm_dec dtX1_readUnit 4 rfl) ?_
  refine fm_istore (pc := 9) (i := 4) (by decide) rfl (fm_dec dtX1_readUnit 5 rfl) ?_
  dsimp only [List.set_cons_zero, List.set_cons_succ]
  refine fm_iloadn (pc := 11) (n := 3) 3 rfl rfl (fm_dec dtX1_readUnit 6 rfl) ?_
  refine fm_bipush (pc := 12) (v := 40) (by decide) (fm_dec dtX1_readUnit 7 rfl) ?_
  refine fm_icmp_ne (pc := 14) 67 (by decide) (fm_dec dtX1_readUnit 8 rfl) (fun _ => ?_) (fun hc14 => by exfalso; exact absurd hc14 (by decide))
  refine fm_iloadn (pc := 67) (n := 3) 3 rfl rfl (fm_dec dtX1_readUnit 38 rfl) ?_
  refine fm_bipush (pc := 68) (v := 48) (by decide) (fm_dec dtX1_readUnit 39 rfl) ?_
  refine fm_icmp_lt (pc := 70) 104 (by decide) (fm_dec dtX1_readUnit 40 rfl) (fun _ => ?_) (fun hc70 => by exfalso; exact hc70 (by decide))
  refine fm_aloadn (pc := 104) (n := 1) 1 rfl rfl (fm_dec dtX1_readUnit 57 rfl) ?_
  refine fm_ldcT (i := 3) (pc := 105) (fun A s h => h.2.2.2.2.2.2.2.2.1) (fm_dec dtX1_readUnit 58 rfl) ?_
  refine fm_invV1 (k := 1) (d' := 5) (pc := 107) cv_X1_78 (by decide) rfl (Nat.le_of_ble_eq_true rfl) (by decide) (fm_dec dtX1_readUnit 59 rfl) ?_
  refine c_take0 hst h2 h3 h4 ?_
  refine fm_then1 ?_
  refine fm_istore (pc := 110) (i := 5) (by decide) rfl (fm_dec dtX1_readUnit 60 rfl) ?_
  dsimp only [List.set_cons_zero, List.set_cons_succ]
  refine fm_iload (pc := 112) (i := 5) rfl (fm_dec dtX1_readUnit 61 rfl) ?_
  refine fm_iconst (pc := 114) (v := (-1)) (by decide) (fm_dec dtX1_readUnit 62 rfl) ?_
  refine fm_icmp_ne (pc := 115) 120 (by decide) (fm_dec dtX1_readUnit 63 rfl) (fun hc115 => by exfalso; exact hc115 rfl) (fun _ => ?_)
  refine fm_iconst (pc := 118) (v := 0) (by decide) (fm_dec dtX1_readUnit 64 rfl) ?_
  exact fm_zreturn (pc := 119) rfl rfl (fm_dec dtX1_readUnit 65 rfl) hq

set_option maxRecDepth 20000 in
theorem c_prod0 {l : Launch} {G : fmG} {M : fmM} {Q : fmR → fmM → Prop} (hst : l.stackTraces = false)  (h2 : M.1 1 2 = 0) (h3 : M.1 1 3 = 0) (h4 : M.1 1 4 = 0) (hq : Q (.inl (some (.int 0))) (fmI (fmI M 1 4 1) 1 5 0)) : fmGood Tx l G 7 qX1_readProduct [.ref (G.1 23), .ref (G.1 1), .int 0] M Q := by
  refine fmGood_of hst (by decide +kernel) (Nat.le_of_ble_eq_true rfl) ?_
  show fmEv Tx l G 7 qX1_readProduct 0 [some (.ref (G.1 23)), some (.ref (G.1 1)), some (.int 0), none, none, none] [] M Q
  refine fm_aloadn (pc := 0) (n := 0) 0 rfl rfl (fm_dec dtX1_readProduct 0 rfl) ?_
  refine fm_aloadn (pc := 1) (n := 1) 1 rfl rfl (fm_dec dtX1_readProduct 1 rfl) ?_
  refine fm_iloadn (pc := 2) (n := 2) 2 rfl rfl (fm_dec dtX1_readProduct 2 rfl) ?_
  refine fm_invV2 (k := 23) (d' := 6) (pc := 3) cv_X1_61 (by decide) rfl (Nat.le_of_ble_eq_true rfl) (by decide) (fm_dec dtX1_readProduct 3 rfl) ?_
  refine c_unit0 hst h2 h3 h4 ?_
  refine fm_then1 ?_
  refine fm_istoren (pc := 6) (n := 3) 3 rfl (by decide) rfl (fm_dec dtX1_readProduct 4 rfl) ?_
  dsimp only [List.set_cons_zero, List.set_cons_succ]
  refine fm_iconst (pc := 7) (v := 0) (by decide) (fm_dec dtX1_readProduct 5 rfl) ?_
  refine fm_istore (pc := 8) (i := 4) (by decide) rfl (fm_dec dtX1_readProduct 6 rfl) ?_
  dsimp only [List.set_cons_zero, List.set_cons_succ]
  refine fm_iload (pc := 10) (i := 4) rfl (fm_dec dtX1_readProduct 7 rfl) ?_
  refine fm_sipush (pc := 12) (v := 150) (by decide) (fm_dec dtX1_readProduct 8 rfl) ?_
  refine fm_icmp_ge (pc := 15) 85 (by decide) (fm_dec dtX1_readProduct 9 rfl) (fun hc15 => by exfalso; exact absurd hc15 (by decide)) (fun _ => ?_)
  refine fm_iloadn (pc := 18) (n := 3) 3 rfl rfl (fm_dec dtX1_readProduct 10 rfl) ?_
  refine fm_if_eq (pc := 19) 85 (by decide) (fm_dec dtX1_readProduct 11 rfl) (fun _ => ?_) (fun hc19 => by exfalso; exact hc19 rfl)
  refine fm_iloadn (pc := 85) (n := 3) 3 rfl rfl (fm_dec dtX1_readProduct 44 rfl) ?_
  exact fm_zreturn (pc := 86) rfl rfl (fm_dec dtX1_readProduct 45 rfl) hq

set_option maxRecDepth 20000 in
theorem c_sum0 {l : Launch} {G : fmG} {M : fmM} {Q : fmR → fmM → Prop} (hst : l.stackTraces = false)  (h2 : M.1 1 2 = 0) (h3 : M.1 1 3 = 0) (h4 : M.1 1 4 = 0) (hq : Q (.inl (some (.int 0))) (fmI (fmI M 1 4 1) 1 5 0)) : fmGood Tx l G 8 qX1_readSum [.ref (G.1 23), .ref (G.1 1), .int 0] M Q := by
  refine fmGood_of hst (by decide +kernel) (Nat.le_of_ble_eq_true rfl) ?_
  show fmEv Tx l G 8 qX1_readSum 0 [some (.ref (G.1 23)), some (.ref (G.1 1)), some (.int 0), none, none, none] [] M Q
  refine fm_aloadn (pc := 0) (n := 0) 0 rfl rfl (fm_dec dtX1_readSum 0 rfl) ?_
  refine fm_aloadn (pc := 1) (n := 1) 1 rfl rfl (fm_dec dtX1_readSum 1 rfl) ?_
  refine fm_iloadn (pc := 2) (n := 2) 2 rfl rfl (fm_dec dtX1_readSum 2 rfl) ?_
  refine fm_invV2 (k := 23) (d' := 7) (pc := 3) cv_X1_54 (by decide) rfl (Nat.le_of_ble_eq_true rfl) (by decide) (fm_dec dtX1_readSum 3 rfl) ?_
  refine c_prod0 hst h2 h3 h4 ?_
  refine fm_then1 ?_
  refine fm_istoren (pc := 6) (n := 3) 3 rfl (by decide) rfl (fm_dec dtX1_readSum 4 rfl) ?_
  dsimp only [List.set_cons_zero, List.set_cons_succ]
  refine fm_iconst (pc := 7) (v := 0) (by decide) (fm_dec dtX1_readSum 5 rfl) ?_
  refine fm_istore (pc := 8) (i := 4) (by decide) rfl (fm_dec dtX1_readSum 6 rfl) ?_
  dsimp only [List.set_cons_zero, List.set_cons_succ]
  refine fm_iload (pc := 10) (i := 4) rfl (fm_dec dtX1_readSum 7 rfl) ?_
  refine fm_sipush (pc := 12) (v := 150) (by decide) (fm_dec dtX1_readSum 8 rfl) ?_
  refine fm_icmp_ge (pc := 15) 85 (by decide) (fm_dec dtX1_readSum 9 rfl) (fun hc15 => by exfalso; exact absurd hc15 (by decide)) (fun _ => ?_)
  refine fm_iloadn (pc := 18) (n := 3) 3 rfl rfl (fm_dec dtX1_readSum 10 rfl) ?_
  refine fm_if_eq (pc := 19) 85 (by decide) (fm_dec dtX1_readSum 11 rfl) (fun _ => ?_) (fun hc19 => by exfalso; exact hc19 rfl)
  refine fm_iloadn (pc := 85) (n := 3) 3 rfl rfl (fm_dec dtX1_readSum 44 rfl) ?_
  exact fm_zreturn (pc := 86) rfl rfl (fm_dec dtX1_readSum 45 rfl) hq

set_option maxRecDepth 20000 in
theorem c_readLaw0 {l : Launch} {G : fmG} {M : fmM} {Q : fmR → fmM → Prop} (hst : l.stackTraces = false)  (h2 : M.1 1 2 = 0) (h3 : M.1 1 3 = 0) (h4 : M.1 1 4 = 0) (hq : Q (.inl (some (.int 0))) (fmI (fmI (fmI M 23 4 0) 1 4 1) 1 5 0)) : fmGood Tx l G 9 qX1_read [.ref (G.1 23), .ref (G.1 1)] M Q := by
  refine fmGood_of hst (by decide +kernel) (Nat.le_of_ble_eq_true rfl) ?_
  show fmEv Tx l G 9 qX1_read 0 [some (.ref (G.1 23)), some (.ref (G.1 1))] [] M Q
  refine fm_aloadn (pc := 0) (n := 0) 0 rfl rfl (fm_dec dtX1_read 0 rfl) ?_
  refine fm_iconst (pc := 1) (v := 0) (by decide) (fm_dec dtX1_read 1 rfl) ?_
  refine fm_putI (k := 23) (j := 4) (ci := 1) (pc := 2) fl_X1_28 (by decide) rfl (by decide) rfl rfl (fm_dec dtX1_read 2 rfl) ?_
  refine fm_aloadn (pc := 5) (n := 0) 0 rfl rfl (fm_dec dtX1_read 3 rfl) ?_
  refine fm_aloadn (pc := 6) (n := 1) 1 rfl rfl (fm_dec dtX1_read 4 rfl) ?_
  refine fm_iconst (pc := 7) (v := 0) (by decide) (fm_dec dtX1_read 5 rfl) ?_
  refine fm_invV2 (k := 23) (d' := 8) (pc := 8) cv_X1_31 (by decide) rfl (Nat.le_of_ble_eq_true rfl) (by decide) (fm_dec dtX1_read 6 rfl) ?_
  refine c_sum0 hst (by simp [fmI, h2]) (by simp [fmI, h3]) (by simp [fmI, h4]) ?_
  refine fm_then1 ?_
  refine fm_if_ne (pc := 11) 16 (by decide) (fm_dec dtX1_read 7 rfl) (fun hc11 => by exfalso; exact hc11 rfl) (fun _ => ?_)
  refine fm_iconst (pc := 14) (v := 0) (by decide) (fm_dec dtX1_read 8 rfl) ?_
  exact fm_zreturn (pc := 15) rfl rfl (fm_dec dtX1_read 9 rfl) hq

set_option maxRecDepth 20000 in
theorem x_law {l : Launch} {G : fmG} {M : fmM} {Q : fmR → fmM → Prop} (hst : l.stackTraces = false) (n : Int32) (h1 : M.1 1 1 = 0) (hq : ∀ M', inR n 0 0 → Q (.inl (some (.int (-9)))) M') (hx : ∀ M', ¬ inR n 0 0 → Q (.inr fmIAE) M') : fmGood Tx l G 10 qX10_law [.ref (G.1 0), .int n] M Q := by
  refine fmGood_of hst (by decide +kernel) (Nat.le_of_ble_eq_true rfl) ?_
  show fmEv Tx l G 10 qX10_law 0 [some (.ref (G.1 0)), some (.int n)] [] M Q
  refine fm_aloadn (pc := 0) (n := 0) 0 rfl rfl (fm_dec dtX10_law 0 rfl) ?_
  refine fm_iloadn (pc := 1) (n := 1) 1 rfl rfl (fm_dec dtX10_law 1 rfl) ?_
  refine fm_sipush (pc := 2) (v := 150) (by decide) (fm_dec dtX10_law 2 rfl) ?_
  refine fm_invV2 (k := 0) (d' := 1) (pc := 5) cv_X10_108 (by decide) rfl (Nat.le_of_ble_eq_true rfl) (by decide) (fm_dec dtX10_law 3 rfl) ?_
  refine c_openText0 hst _ _ (by rw [h1]; decide) (fun hn5 => ?_) (fun _ hx5 => ?_)
  · refine fm_then0 ?_
    refine fm_aloadn (pc := 8) (n := 0) 0 rfl rfl (fm_dec dtX10_law 4 rfl) ?_
    refine fm_getR (k := 0) (j := 3) (ci := 10) (pc := 9) 23 rfl fl_X10_29 (by decide) rfl (by decide) (by decide) (fm_dec dtX10_law 5 rfl) ?_
    refine fm_aloadn (pc := 12) (n := 0) 0 rfl rfl (fm_dec dtX10_law 6 rfl) ?_
    refine fm_getR (k := 0) (j := 0) (ci := 10) (pc := 13) 1 rfl fl_X10_12 (by decide) rfl (by decide) (by decide) (fm_dec dtX10_law 7 rfl) ?_
    refine fm_invV1 (k := 23) (d' := 9) (pc := 16) cv_X10_141 (by decide) rfl (Nat.le_of_ble_eq_true rfl) (by decide) (fm_dec dtX10_law 8 rfl) ?_
    refine c_readLaw0 hst (by simp [uOpen, fmI, upd]) (by simp [uOpen, fmI, upd]) (by simp [uOpen, fmI, upd]) ?_
    refine fm_then1 ?_
    refine fm_if_ne (pc := 19) 33 (by decide) (fm_dec dtX10_law 9 rfl) (fun hc19 => by exfalso; exact hc19 rfl) (fun _ => ?_)
    refine fm_aloadn (pc := 22) (n := 0) 0 rfl rfl (fm_dec dtX10_law 10 rfl) ?_
    refine fm_getR (k := 0) (j := 0) (ci := 10) (pc := 23) 1 rfl fl_X10_12 (by decide) rfl (by decide) (by decide) (fm_dec dtX10_law 11 rfl) ?_
    refine fm_getI (k := 1) (j := 4) (ci := 7) (pc := 26) fl_X10_116 (by decide) rfl (by decide) rfl (fm_dec dtX10_law 12 rfl) ?_
    refine fm_bipush (pc := 29) (v := 10) (by decide) (fm_dec dtX10_law 13 rfl) ?_
    refine fm_isub (pc := 31) (fm_dec dtX10_law 14 rfl) ?_
    exact fm_ireturn (pc := 32) rfl (fm_dec dtX10_law 15 rfl) (by subst hn5; have hq := hq (fmI (fmI (fmI (uOpen M) 23 4 0) 1 4 1) 1 5 0) ⟨by decide, by decide⟩; simpa [fmI, upd] using hq)
  · refine fm_thenX ?_
    exact hx _ hx5
