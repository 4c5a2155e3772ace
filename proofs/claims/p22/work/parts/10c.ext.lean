theorem fm_topE {T : fmT} {l : Launch} {G : fmG} {d : Nat} {y : fmY} {pc : Nat} {L : List (Option Value)} {st : List Value} {M : fmM} {Q : fmR → fmM → Prop} {x v : Int32} (h : x = v) (k : fmEv T l G d y pc L (.int v :: st) M Q) : fmEv T l G d y pc L (.int x :: st) M Q := by rw [h]; exact k
theorem fm_stE {T : fmT} {l : Launch} {G : fmG} {d : Nat} {y : fmY} {pc : Nat} {L : List (Option Value)} {st st' : List Value} {M : fmM} {Q : fmR → fmM → Prop} (h : st = st') (k : fmEv T l G d y pc L st' M Q) : fmEv T l G d y pc L st M Q := by rw [h]; exact k
theorem fs_v : Cond.fieldLink "java/lang/String" 9 "java/lang/String" "value" "[B" ∈ fmWs := fm_in 1966 (by decide +kernel) rfl
theorem fs_c : Cond.fieldLink "java/lang/String" 15 "java/lang/String" "coder" "B" ∈ fmWs := fm_in 1967 (by decide +kernel) rfl
theorem fs_k : Cond.fieldLink "java/lang/String" 38 "java/lang/String" "COMPACT_STRINGS" "Z" ∈ fmWs := fm_in 710 (by decide +kernel) rfl
theorem fs_s : Cond.fieldLink "java/lang/String" 1053 "jdk/internal/util/Preconditions" "SIOOBE_FORMATTER" "Ljava/util/function/BiFunction;" ∈ fmWs := fm_in 726 (by decide +kernel) rfl

theorem sb_X7_53 : fmCb RX7 53 qJ0_length_8abf5 0 := ⟨fm_in 702 (by decide +kernel) rfl, ni_J0, nc_J0_length_8abf5, nd_J0_length_8abf5, by decide⟩
theorem sb_X7_57 : fmCb RX7 57 qJ0_charAt_5068e 1 := ⟨fm_in 712 (by decide +kernel) rfl, ni_J0, nc_J0_charAt_5068e, nd_J0_charAt_5068e, by decide⟩
theorem sb_J0_335 : fmCb RJ0 335 qJ0_coder_7d493 0 := ⟨fm_in 706 (by decide +kernel) rfl, ni_J0, nc_J0_coder_7d493, nd_J0_coder_7d493, by decide⟩
theorem sb_J0_492 : fmCb RJ0 492 qJ0_isLatin1_aae02 0 := ⟨fm_in 716 (by decide +kernel) rfl, ni_J0, nc_J0_isLatin1_aae02, nd_J0_isLatin1_aae02, by decide⟩
theorem nz_J0_charAt_5068e : Cond.selects "java/lang/String" yJ0_charAt_5068e yJ0_charAt_5068e ∈ fmWs := fm_in 714 (by decide +kernel) rfl
theorem nz_J0_coder_7d493 : Cond.selects "java/lang/String" yJ0_coder_7d493 yJ0_coder_7d493 ∈ fmWs := fm_in 708 (by decide +kernel) rfl
theorem nz_J0_isLatin1_aae02 : Cond.selects "java/lang/String" yJ0_isLatin1_aae02 yJ0_isLatin1_aae02 ∈ fmWs := fm_in 718 (by decide +kernel) rfl
theorem nz_J0_length_8abf5 : Cond.selects "java/lang/String" yJ0_length_8abf5 yJ0_length_8abf5 ∈ fmWs := fm_in 704 (by decide +kernel) rfl
theorem fm_invT0 {T : fmT} {l : Launch} {G : fmG} {d d' : Nat} {y y' : fmY} {pc idx : Nat} {L : List (Option Value)} {st : List Value} {M : fmM} {Q : fmR → fmM → Prop} {i : Nat} (hi : i < 5) (hc : fmCb y.1.cls idx y' 0) (hm : Cond.instanceMethod y'.1 ∈ fmWs) (hs : Cond.selects "java/lang/String" y'.1 y'.1 ∈ fmWs) (hcat : (st.map fun v => v.category).sum ≤ 8) (hd : d' + 1 ≤ d) (hdg : decode y.2.1 pc = .ok (.invokevirtual idx, 3)) (hg : fmGood T l G d' y' [.ref (G.2.2.2.1 i)] M (fmThen T l G d y (pc + 3) L st Q)) : fmEv T l G d y pc L (.ref (G.2.2.2.1 i) :: st) M Q := fm_invT (As := []) hi hc hm hs rfl rfl rfl hcat hd hdg hg
theorem fm_invT1 {T : fmT} {l : Launch} {G : fmG} {d d' : Nat} {y y' : fmY} {pc idx : Nat} {L : List (Option Value)} {st : List Value} {M : fmM} {Q : fmR → fmM → Prop} {i : Nat} {a0 : Value} (hi : i < 5) (hc : fmCb y.1.cls idx y' 1) (hm : Cond.instanceMethod y'.1 ∈ fmWs) (hs : Cond.selects "java/lang/String" y'.1 y'.1 ∈ fmWs) (hcat : (st.map fun v => v.category).sum ≤ 8) (hd : d' + 1 ≤ d) (hdg : decode y.2.1 pc = .ok (.invokevirtual idx, 3)) (hg : fmGood T l G d' y' [.ref (G.2.2.2.1 i), a0] M (fmThen T l G d y (pc + 3) L st Q)) : fmEv T l G d y pc L (a0 :: .ref (G.2.2.2.1 i) :: st) M Q := fm_invT (As := [a0]) hi hc hm hs rfl rfl rfl hcat hd hdg hg
def chE (i k : Nat) : Int32 := (fmByt.getD i []).getD k 0 &&& 255
theorem fmLen_lt : ∀ i, i < 5 → fmLen.getD i 0 < 64 := by decide
theorem ne10 : ¬ (1 : Int32) = 0 := by decide

set_option maxRecDepth 20000 in
theorem c_coder {T : fmT} {l : Launch} {G : fmG} {M : fmM} {Q : fmR → fmM → Prop} (hst : l.stackTraces = false) (i : Nat) (hi : i < 5) (hq : Q (.inl (some (.int 0))) M) : fmGood T l G 0 qJ0_coder_7d493 [.ref (G.2.2.2.1 i)] M Q := by
  refine fmGood_of hst (by decide +kernel) (Nat.le_of_ble_eq_true rfl) ?_
  show fmEv T l G 0 qJ0_coder_7d493 0 [some (.ref (G.2.2.2.1 i))] [] M Q
  refine fm_gcs (pc := 0) fs_k (fm_dec dtJ0_coder_7d493 0 rfl) ?_
  refine fm_if_eq (pc := 3) 13 (by decide) (fm_dec dtJ0_coder_7d493 1 rfl) (fun hc3 => by exfalso; exact ne10 hc3) (fun _ => ?_)
  refine fm_aloadn (pc := 6) (n := 0) 0 rfl rfl (fm_dec dtJ0_coder_7d493 2 rfl) ?_
  refine fm_scod (i := i) (pc := 7) hi fs_c (fm_dec dtJ0_coder_7d493 3 rfl) ?_
  refine fm_goto (pc := 10) 14 (by decide) (fm_dec dtJ0_coder_7d493 4 rfl) ?_
  exact fm_nreturn (pc := 14) .byte rfl rfl (fm_dec dtJ0_coder_7d493 6 rfl) hq

set_option maxRecDepth 20000 in
theorem c_latin {T : fmT} {l : Launch} {G : fmG} {M : fmM} {Q : fmR → fmM → Prop} (hst : l.stackTraces = false) (i : Nat) (hi : i < 5) (hq : Q (.inl (some (.int 1))) M) : fmGood T l G 0 qJ0_isLatin1_aae02 [.ref (G.2.2.2.1 i)] M Q := by
  refine fmGood_of hst (by decide +kernel) (Nat.le_of_ble_eq_true rfl) ?_
  show fmEv T l G 0 qJ0_isLatin1_aae02 0 [some (.ref (G.2.2.2.1 i))] [] M Q
  refine fm_gcs (pc := 0) fs_k (fm_dec dtJ0_isLatin1_aae02 0 rfl) ?_
  refine fm_if_eq (pc := 3) 17 (by decide) (fm_dec dtJ0_isLatin1_aae02 1 rfl) (fun hc3 => by exfalso; exact ne10 hc3) (fun _ => ?_)
  refine fm_aloadn (pc := 6) (n := 0) 0 rfl rfl (fm_dec dtJ0_isLatin1_aae02 2 rfl) ?_
  refine fm_scod (i := i) (pc := 7) hi fs_c (fm_dec dtJ0_isLatin1_aae02 3 rfl) ?_
  refine fm_if_ne (pc := 10) 17 (by decide) (fm_dec dtJ0_isLatin1_aae02 4 rfl) (fun hc10 => by exfalso; exact hc10 rfl) (fun _ => ?_)
  refine fm_iconst (pc := 13) (v := 1) (by decide) (fm_dec dtJ0_isLatin1_aae02 5 rfl) ?_
  refine fm_goto (pc := 14) 18 (by decide) (fm_dec dtJ0_isLatin1_aae02 6 rfl) ?_
  exact fm_zreturn (pc := 18) rfl rfl (fm_dec dtJ0_isLatin1_aae02 8 rfl) hq

set_option maxRecDepth 20000 in
theorem c_strlen {T : fmT} {l : Launch} {G : fmG} {M : fmM} {Q : fmR → fmM → Prop} (hst : l.stackTraces = false) (i : Nat) (hi : i < 5) (hq : Q (.inl (some (.int (nI (fmLen.getD i 0))))) M) : fmGood T l G 1 qJ0_length_8abf5 [.ref (G.2.2.2.1 i)] M Q := by
  refine fmGood_of hst (by decide +kernel) (Nat.le_of_ble_eq_true rfl) ?_
  show fmEv T l G 1 qJ0_length_8abf5 0 [some (.ref (G.2.2.2.1 i))] [] M Q
  refine fm_aloadn (pc := 0) (n := 0) 0 rfl rfl (fm_dec dtJ0_length_8abf5 0 rfl) ?_
  refine fm_sval (i := i) (pc := 1) hi fs_v (fm_dec dtJ0_length_8abf5 1 rfl) ?_
  refine fm_slen (i := i) (pc := 4) hi rfl (fm_dec dtJ0_length_8abf5 2 rfl) ?_
  refine fm_aloadn (pc := 5) (n := 0) 0 rfl rfl (fm_dec dtJ0_length_8abf5 3 rfl) ?_
  refine fm_invT0 (i := i) (d' := 0) (pc := 6) hi sb_J0_335 nm_J0_coder_7d493 nz_J0_coder_7d493 (Nat.le_of_ble_eq_true rfl) (by decide) (fm_dec dtJ0_length_8abf5 4 rfl) ?_
  refine c_coder hst i hi ?_
  refine fm_then1 ?_
  refine fm_ishr (pc := 9) (fm_dec dtJ0_length_8abf5 5 rfl) ?_
  refine fm_topE (v := nI (fmLen.getD i 0)) (sc_shr0 (by have := fmLen_lt i hi; omega)) ?_
  exact fm_ireturn (pc := 10) rfl (fm_dec dtJ0_length_8abf5 6 rfl) hq

theorem fmSi_cat (G : fmG) : (fmSi G).category = 1 := by unfold fmSi; split <;> rfl
theorem fmSi_len (G : fmG) (a b : Int32) : (lg_sl [.int a, .int b, fmSi G]).length = 3 := by
  unfold fmSi; split <;> rfl
theorem fmSi_args (G : fmG) (a b : Int32) : fmArgs [.int a, .int b, fmSi G] = [some (.int a), some (.int b), some (fmSi G)] := by
  unfold fmSi; split <;> rfl
set_option maxRecDepth 20000 in
theorem c_chk3 {T : fmT} {l : Launch} {G : fmG} {M : fmM} {Q : fmR → fmM → Prop} (hst : l.stackTraces = false) (k n : Nat) (hk : k < n) (hn : n < 64) (hq : Q (.inl (some (.int (nI k)))) M) : fmGood T l G 0 qJ3_checkIndex_8e157 [.int (nI k), .int (nI n), fmSi G] M Q := by
  refine fmGood_of hst (by decide +kernel) (by rw [fmSi_len]; decide) ?_
  rw [fmSi_args]
  show fmEv T l G 0 qJ3_checkIndex_8e157 0 [some (.int (nI k)), some (.int (nI n)), some (fmSi G)] [] M Q
  refine fm_iloadn (pc := 0) (n := 0) 0 rfl rfl (fm_dec dtJ3_checkIndex_8e157 0 rfl) ?_
  refine fm_if_lt (pc := 1) 9 (by decide) (fm_dec dtJ3_checkIndex_8e157 1 rfl) (fun hc1 => by exfalso; exact nI_pos (by omega) hc1) (fun _ => ?_)
  refine fm_iloadn (pc := 4) (n := 0) 0 rfl rfl (fm_dec dtJ3_checkIndex_8e157 2 rfl) ?_
  refine fm_iloadn (pc := 5) (n := 1) 1 rfl rfl (fm_dec dtJ3_checkIndex_8e157 3 rfl) ?_
  refine fm_icmp_lt (pc := 6) 16 (by decide) (fm_dec dtJ3_checkIndex_8e157 4 rfl) (fun _ => ?_) (fun hc6 => by exfalso; exact hc6 (nI_lt hk (by omega)))
  refine fm_iloadn (pc := 16) (n := 0) 0 rfl rfl (fm_dec dtJ3_checkIndex_8e157 10 rfl) ?_
  exact fm_ireturn (pc := 17) rfl (fm_dec dtJ3_checkIndex_8e157 11 rfl) hq

set_option maxRecDepth 20000 in
theorem c_chk {T : fmT} {l : Launch} {G : fmG} {M : fmM} {Q : fmR → fmM → Prop} (hst : l.stackTraces = false) (k n : Nat) (hk : k < n) (hn : n < 64) (hq : Q (.inl none) M) : fmGood T l G 1 qJ0_checkIndex_df160 [.int (nI k), .int (nI n)] M Q := by
  refine fmGood_of hst (by decide +kernel) (Nat.le_of_ble_eq_true rfl) ?_
  show fmEv T l G 1 qJ0_checkIndex_df160 0 [some (.int (nI k)), some (.int (nI n))] [] M Q
  refine fm_iloadn (pc := 0) (n := 0) 0 rfl rfl (fm_dec dtJ0_checkIndex_df160 0 rfl) ?_
  refine fm_iloadn (pc := 1) (n := 1) 1 rfl rfl (fm_dec dtJ0_checkIndex_df160 1 rfl) ?_
  refine fm_gsi (pc := 2) fs_s (fm_dec dtJ0_checkIndex_df160 2 rfl) ?_
  refine fm_stE (st' := [fmSi G, .int (nI n), .int (nI k)]) rfl ?_
  refine fm_invS3 (d' := 0) (pc := 5) cs_J0_1059 (Nat.le_of_ble_eq_true rfl) (by decide) (fm_dec dtJ0_checkIndex_df160 3 rfl) ?_
  refine c_chk3 hst _ _ hk hn ?_
  refine fm_then1 ?_
  refine fm_pop (pc := 8) rfl (fm_dec dtJ0_checkIndex_df160 4 rfl) ?_
  exact fm_return (pc := 9) rfl (fm_dec dtJ0_checkIndex_df160 5 rfl) hq

set_option maxRecDepth 20000 in
theorem c_lcharAt {T : fmT} {l : Launch} {G : fmG} {M : fmM} {Q : fmR → fmM → Prop} (hst : l.stackTraces = false) (k : Nat) (i : Nat) (hi : i < 5) (hk : k < fmLen.getD i 0) (hq : Q (.inl (some (.int (chE i k)))) M) : fmGood T l G 2 qJ1_charAt_3b067 [.ref (G.2.2.2.2 i), .int (nI k)] M Q := by
  refine fmGood_of hst (by decide +kernel) (Nat.le_of_ble_eq_true rfl) ?_
  show fmEv T l G 2 qJ1_charAt_3b067 0 [some (.ref (G.2.2.2.2 i)), some (.int (nI k))] [] M Q
  refine fm_iloadn (pc := 0) (n := 1) 1 rfl rfl (fm_dec dtJ1_charAt_3b067 0 rfl) ?_
  refine fm_aloadn (pc := 1) (n := 0) 0 rfl rfl (fm_dec dtJ1_charAt_3b067 1 rfl) ?_
  refine fm_slen (i := i) (pc := 2) hi rfl (fm_dec dtJ1_charAt_3b067 2 rfl) ?_
  refine fm_invS2 (d' := 1) (pc := 3) cs_J1_9 (Nat.le_of_ble_eq_true rfl) (by decide) (fm_dec dtJ1_charAt_3b067 3 rfl) ?_
  refine c_chk hst _ _ hk (fmLen_lt i hi) ?_
  refine fm_then0 ?_
  refine fm_aloadn (pc := 6) (n := 0) 0 rfl rfl (fm_dec dtJ1_charAt_3b067 4 rfl) ?_
  refine fm_iloadn (pc := 7) (n := 1) 1 rfl rfl (fm_dec dtJ1_charAt_3b067 5 rfl) ?_
  refine fm_sbald (i := i) (pc := 8) hi (vp_in_nI hk (by have := fmLen_lt i hi; omega)) (fm_dec dtJ1_charAt_3b067 6 rfl) ?_
  refine fm_sipush (pc := 9) (v := 255) (by decide) (fm_dec dtJ1_charAt_3b067 7 rfl) ?_
  refine fm_iand (pc := 12) (fm_dec dtJ1_charAt_3b067 8 rfl) ?_
  refine fm_i2c (pc := 13) (fm_dec dtJ1_charAt_3b067 9 rfl) ?_
  refine fm_topE (v := chE i k) (by rw [nI_clamp (by have := fmLen_lt i hi; omega)]; exact sc_c2 _) ?_
  exact fm_nreturn (pc := 14) .char rfl (sc_nar _) (fm_dec dtJ1_charAt_3b067 10 rfl) hq

set_option maxRecDepth 20000 in
theorem c_charAt {T : fmT} {l : Launch} {G : fmG} {M : fmM} {Q : fmR → fmM → Prop} (hst : l.stackTraces = false) (k : Nat) (i : Nat) (hi : i < 5) (hk : k < fmLen.getD i 0) (hq : Q (.inl (some (.int (chE i k)))) M) : fmGood T l G 3 qJ0_charAt_5068e [.ref (G.2.2.2.1 i), .int (nI k)] M Q := by
  refine fmGood_of hst (by decide +kernel) (Nat.le_of_ble_eq_true rfl) ?_
  show fmEv T l G 3 qJ0_charAt_5068e 0 [some (.ref (G.2.2.2.1 i)), some (.int (nI k))] [] M Q
  refine fm_aloadn (pc := 0) (n := 0) 0 rfl rfl (fm_dec dtJ0_charAt_5068e 0 rfl) ?_
  refine fm_invT0 (i := i) (d' := 0) (pc := 1) hi sb_J0_492 nm_J0_isLatin1_aae02 nz_J0_isLatin1_aae02 (Nat.le_of_ble_eq_true rfl) (by decide) (fm_dec dtJ0_charAt_5068e 1 rfl) ?_
  refine c_latin hst i hi ?_
  refine fm_then1 ?_
  refine fm_if_eq (pc := 4) 16 (by decide) (fm_dec dtJ0_charAt_5068e 2 rfl) (fun hc4 => by exfalso; exact ne10 hc4) (fun _ => ?_)
  refine fm_aloadn (pc := 7) (n := 0) 0 rfl rfl (fm_dec dtJ0_charAt_5068e 3 rfl) ?_
  refine fm_sval (i := i) (pc := 8) hi fs_v (fm_dec dtJ0_charAt_5068e 4 rfl) ?_
  refine fm_iloadn (pc := 11) (n := 1) 1 rfl rfl (fm_dec dtJ0_charAt_5068e 5 rfl) ?_
  refine fm_invS2 (d' := 2) (pc := 12) cs_J0_495 (Nat.le_of_ble_eq_true rfl) (by decide) (fm_dec dtJ0_charAt_5068e 6 rfl) ?_
  refine c_lcharAt hst _ i hi hk ?_
  refine fm_then1 ?_
  exact fm_nreturn (pc := 15) .char rfl (sc_nar _) (fm_dec dtJ0_charAt_5068e 7 rfl) hq
-- LINKS: what the tables of a class must be
/-- a field: place of the pool, class, place, 0 int 1 long 2 reference, may be written -/
abbrev scFd : Type := Nat × Nat × Nat × Nat × Bool
def scFdk (own : String) (q : scFd) : Prop := fmFl own q.1 q.2.1 q.2.2.1 ∧ (q.2.2.2.1 = 0 → fmTy q.2.1 q.2.2.1 = .int) ∧ (q.2.2.2.1 = 1 → fmTy q.2.1 q.2.2.1 = .long) ∧ (q.2.2.2.1 = 2 → fmTy q.2.1 q.2.2.1 ≠ .int ∧ fmTy q.2.1 q.2.2.1 ≠ .long) ∧ (q.2.2.2.2 = true → fmFin q.2.1 q.2.2.1 = false)
def scKc (own : String) (q : Nat × (Int32 ⊕ Int64)) : Prop := match q.2 with
  | .inl v => Cond.constant own q.1 v ∈ fmWs
  | .inr v => Cond.constantLong own q.1 v ∈ fmWs
def pvMx (b : Bool) (x z : Int32) : Int32 := if b then (if x.toInt ≤ z.toInt then z else x) else (if x.toInt ≤ z.toInt then x else z)
def pvMxl (b : Bool) (x z : Int64) : Int64 := if b then (if z < x then x else z) else (if z < x then z else x)
/-- least or most of two ints by a static call -/
def scMm (own : String) (q : Nat × Bool) : Prop := ∀ (T : fmT) (l : Launch) (G : fmG) (d : Nat) (y : fmY) (pc : Nat) (L : List (Option Value)) (st : List Value) (M : fmM) (Q : fmR → fmM → Prop) (x z : Int32), l.stackTraces = false → y.1.cls = own → 1 ≤ d → (st.map fun v => v.category).sum ≤ 8 → decode y.2.1 pc = .ok (.invokestatic q.1, 3) → fmEv T l G d y (pc + 3) L (.int (pvMx q.2 x z) :: st) M Q → fmEv T l G d y pc L (.int z :: .int x :: st) M Q
/-- least or most of two longs -/
def scMlg (own : String) (q : Nat × Bool) : Prop := ∀ (T : fmT) (l : Launch) (G : fmG) (d : Nat) (y : fmY) (pc : Nat) (L : List (Option Value)) (st : List Value) (M : fmM) (Q : fmR → fmM → Prop) (x z : Int64), l.stackTraces = false → y.1.cls = own → 1 ≤ d → (st.map fun v => v.category).sum ≤ 8 → decode y.2.1 pc = .ok (.invokestatic q.1, 3) → fmEv T l G d y (pc + 3) L (.long (pvMxl q.2 x z) :: st) M Q → fmEv T l G d y pc L (.long z :: .long x :: st) M Q
/-- a class's links: fields, constants, copies of arrays, least and most, the same of longs -/
abbrev scLn : Type := List scFd × List (Nat × (Int32 ⊕ Int64)) × List Nat × List (Nat × Bool) × List (Nat × Bool)
def scLnk (own : String) (q : scLn) : Prop := (∀ f ∈ q.1, scFdk own f) ∧ (∀ f ∈ q.2.1, scKc own f) ∧ (∀ f ∈ q.2.2.1, Cond.methodLink own f arraycopyName ∈ fmWs) ∧ (∀ f ∈ q.2.2.2.1, scMm own f) ∧ ∀ f ∈ q.2.2.2.2, scMlg own f
/-- a call: place of the pool, kind (0 of an object, 1 static, 2 a text's length, 3 a text's sign), class, parameters, method -/
abbrev pvCl : Type := Nat × Nat × Nat × Nat × fmY
def pvCk (own : String) (q : pvCl) : Prop := match q.2.1 with
  | 0 => fmCv own q.1 q.2.2.2.2 q.2.2.2.1 q.2.2.1 ∧ plainName q.2.2.2.2.1.cls = true
  | 1 => fmCs own q.1 q.2.2.2.2 q.2.2.2.1 ∧ plainName q.2.2.2.2.1.cls = true
  | 2 => fmCb own q.1 qJ0_length_8abf5 0 ∧ q.2.2.2.2 = qJ0_length_8abf5 ∧ q.2.2.2.1 = 0
  | _ => fmCb own q.1 qJ0_charAt_5068e 1 ∧ q.2.2.2.2 = qJ0_charAt_5068e ∧ q.2.2.2.1 = 1
theorem sc_lt {x z : Int32} : x < z ↔ x.toInt < z.toInt := Int32.lt_iff_toInt_lt
theorem sc_le {x z : Int32} : x ≤ z ↔ x.toInt ≤ z.toInt := Int32.le_iff_toInt_le
theorem scq_eq {x z : Int32} : x = z ↔ x.toInt = z.toInt := Int32.toInt_inj.symm
-- least and most
theorem mx_t {x z v : Int32} (h : v.toInt = (if x.toInt ≤ z.toInt then z.toInt else x.toInt)) : v = pvMx true x z := by
  apply Int32.toInt_inj.mp
  rw [h]
  simp only [pvMx, if_true]
  split <;> rfl
theorem mx_f {x z v : Int32} (h : v.toInt = (if x.toInt ≤ z.toInt then x.toInt else z.toInt)) : v = pvMx false x z := by
  apply Int32.toInt_inj.mp
  rw [h]
  simp only [pvMx, Bool.false_eq_true, if_false]
  split <;> rfl
theorem mm_max {own : String} {idx : Nat} (hc : fmCs own idx qJ9_max_7cf53 2) : scMm own (idx, true) := by
  intro T l G d y pc L st M Q x z hst hy hd hcat hdg k
  subst hy
  refine fm_mmax hc hcat hdg ?_
  have e : (if x < z then z else x) = pvMx true x z := mx_t (by
    split
    · rename_i h
      rw [sc_lt] at h
      rw [if_pos (by omega)]
    · rename_i h
      rw [sc_lt] at h
      split
      · omega
      · rfl)
  rw [e]
  exact k
theorem mm_min {own : String} {idx : Nat} (hc : fmCs own idx qJ9_min_7cf53 2) : scMm own (idx, false) := by
  intro T l G d y pc L st M Q x z hst hy hd hcat hdg k
  subst hy
  refine fm_mmin hc hcat hdg ?_
  have e : (if z < x then z else x) = pvMx false x z := mx_f (by
    split
    · rename_i h
      rw [sc_lt] at h
      rw [if_neg (by omega)]
    · rename_i h
      rw [sc_lt] at h
      split
      · rfl
      · omega)
  rw [e]
  exact k
section Fd
variable {own : String} {idx ci j : Nat}
theorem fd_iw (hf : fmFl own idx ci j) (h : fmTy ci j = .int) (hw : fmFin ci j = false) : scFdk own (idx, ci, j, 0, true) := ⟨hf, fun _ => h, fun e => (by cases e), fun e => (by cases e), fun _ => hw⟩
theorem fd_ir (hf : fmFl own idx ci j) (h : fmTy ci j = .int) : scFdk own (idx, ci, j, 0, false) := ⟨hf, fun _ => h, fun e => (by cases e), fun e => (by cases e), fun e => (by cases e)⟩
theorem fd_jw (hf : fmFl own idx ci j) (h : fmTy ci j = .long) (hw : fmFin ci j = false) : scFdk own (idx, ci, j, 1, true) := ⟨hf, fun e => (by cases e), fun _ => h, fun e => (by cases e), fun _ => hw⟩
theorem fd_jr (hf : fmFl own idx ci j) (h : fmTy ci j = .long) : scFdk own (idx, ci, j, 1, false) := ⟨hf, fun e => (by cases e), fun _ => h, fun e => (by cases e), fun e => (by cases e)⟩
theorem fd_r (hf : fmFl own idx ci j) (h : fmTy ci j ≠ .int ∧ fmTy ci j ≠ .long) : scFdk own (idx, ci, j, 2, false) := ⟨hf, fun e => (by cases e), fun e => (by cases e), fun _ => h, fun e => (by cases e)⟩
theorem fa_nil {α : Type} {P : α → Prop} : ∀ q ∈ ([] : List α), P q := fun q hq => by cases hq
theorem fa_cons {α : Type} {P : α → Prop} {a : α} {l : List α} (h : P a) (h' : ∀ q ∈ l, P q) : ∀ q ∈ a :: l, P q := List.forall_mem_cons.mpr ⟨h, h'⟩
end Fd
theorem mm_maxl {own : String} {idx : Nat} (hc : fmCs own idx qJ9_max_f86c9 2) : scMlg own (idx, true) := by
  intro T l G d y pc L st M Q x z hst hy hd hcat hdg k
  subst hy
  obtain ⟨o, M', hq, k⟩ := k
  refine ⟨o, M', hq, ?_⟩
  intro p e s m args below meth c H locs A rest ls hst hF hE hA hP hS hL
  have ok : ∀ w ∈ fmWs, w.before args s = true := fun w h => hF.2.2.2.2.2.1 w (List.mem_cons_of_mem _ h)
  have h4 : Cond.code Lib.MathLoose.max_long.x Lib.MathLoose.max_long.code 4 (some .long) ∈ fmWs := hc.1.2.2.1
  exact va_mmax_long hF.1 hF.2.1 (by rw [hF.2.2.1, hL.1]) hF.2.2.2.2.1 (ok _ hc.1.1) (ok _ hc.2) (ok _ hc.1.2.1) (ok _ h4) (by show 1 ≤ d + 10; omega) (by show _ ≤ 60 * d + 200; omega) (Nat.zero_le _) (Nat.zero_le _) hdg (k p e s m args below meth c H locs A rest ls hst hF hE hA hP hS hL)
theorem mm_minl {own : String} {idx : Nat} (hc : fmCs own idx qJ9_min_f86c9 2) : scMlg own (idx, false) := by
  intro T l G d y pc L st M Q x z hst hy hd hcat hdg k
  subst hy
  obtain ⟨o, M', hq, k⟩ := k
  refine ⟨o, M', hq, ?_⟩
  intro p e s m args below meth c H locs A rest ls hst hF hE hA hP hS hL
  have ok : ∀ w ∈ fmWs, w.before args s = true := fun w h => hF.2.2.2.2.2.1 w (List.mem_cons_of_mem _ h)
  have h4 : Cond.code Lib.MathLoose.min_long.x Lib.MathLoose.min_long.code 4 (some .long) ∈ fmWs := hc.1.2.2.1
  exact va_mmin_long hF.1 hF.2.1 (by rw [hF.2.2.1, hL.1]) hF.2.2.2.2.1 (ok _ hc.1.1) (ok _ hc.2) (ok _ hc.1.2.1) (ok _ h4) (by show 1 ≤ d + 10; omega) (by show _ ≤ 60 * d + 200; omega) (Nat.zero_le _) (Nat.zero_le _) hdg (k p e s m args below meth c H locs A rest ls hst hF hE hA hP hS hL)
theorem mm_less {own : String} {idx : Nat} (hc : fmCs own idx qX11_less 2) : scMm own (idx, false) := by
  intro T l G d y pc L st M Q x z hst hy hd hcat hdg k
  subst hy
  refine fm_invS2 (d' := 0) hc hcat hd hdg ?_
  refine fmGood_of hst (by decide +kernel) (Nat.le_of_ble_eq_true rfl) ?_
  show fmEv T l G 0 qX11_less 0 [some (.int x), some (.int z)] [] M _
  refine fm_iloadn (pc := 0) (n := 0) 0 rfl rfl (fm_dec dtX11_less 0 rfl) ?_
  refine fm_iloadn (pc := 1) (n := 1) 1 rfl rfl (fm_dec dtX11_less 1 rfl) ?_
  refine fm_icmp_ge (pc := 2) 9 (by decide) (fm_dec dtX11_less 2 rfl) (fun h => ?_) (fun h => ?_)
  · refine fm_iloadn (pc := 9) (n := 1) 1 rfl rfl (fm_dec dtX11_less 5 rfl) ?_
    refine fm_ireturn (pc := 10) rfl (fm_dec dtX11_less 6 rfl) (fm_then1 ?_)
    rw [sc_le] at h
    have e : pvMx false x z = z := (mx_f (by split <;> omega)).symm
    rw [e] at k
    exact k
  · refine fm_iloadn (pc := 5) (n := 0) 0 rfl rfl (fm_dec dtX11_less 3 rfl) ?_
    refine fm_goto (pc := 6) 10 (by decide) (fm_dec dtX11_less 4 rfl) ?_
    refine fm_ireturn (pc := 10) rfl (fm_dec dtX11_less 6 rfl) (fm_then1 ?_)
    rw [sc_le] at h
    have e : pvMx false x z = x := (mx_f (by split <;> omega)).symm
    rw [e] at k
    exact k
theorem mm_more {own : String} {idx : Nat} (hc : fmCs own idx qX11_more 2) : scMm own (idx, true) := by
  intro T l G d y pc L st M Q x z hst hy hd hcat hdg k
  subst hy
  refine fm_invS2 (d' := 0) hc hcat hd hdg ?_
  refine fmGood_of hst (by decide +kernel) (Nat.le_of_ble_eq_true rfl) ?_
  show fmEv T l G 0 qX11_more 0 [some (.int x), some (.int z)] [] M _
  refine fm_iloadn (pc := 0) (n := 0) 0 rfl rfl (fm_dec dtX11_more 0 rfl) ?_
  refine fm_iloadn (pc := 1) (n := 1) 1 rfl rfl (fm_dec dtX11_more 1 rfl) ?_
  refine fm_icmp_le (pc := 2) 9 (by decide) (fm_dec dtX11_more 2 rfl) (fun h => ?_) (fun h => ?_)
  · refine fm_iloadn (pc := 9) (n := 1) 1 rfl rfl (fm_dec dtX11_more 5 rfl) ?_
    refine fm_ireturn (pc := 10) rfl (fm_dec dtX11_more 6 rfl) (fm_then1 ?_)
    rw [sc_le] at h
    have e : pvMx true x z = z := (mx_t (by split <;> omega)).symm
    rw [e] at k
    exact k
  · refine fm_iloadn (pc := 5) (n := 0) 0 rfl rfl (fm_dec dtX11_more 3 rfl) ?_
    refine fm_goto (pc := 6) 10 (by decide) (fm_dec dtX11_more 4 rfl) ?_
    refine fm_ireturn (pc := 10) rfl (fm_dec dtX11_more 6 rfl) (fm_then1 ?_)
    rw [sc_le] at h
    have e : pvMx true x z = x := (mx_t (by split <;> omega)).symm
    rw [e] at k
    exact k
