-- THE START: what the tables and the premises give
def tmS (i : Nat) : Term := match i with
  | 0 => .string "LifeDrawer" 371
  | 1 => .string "LifeDrawer" 378
  | 2 => .string "LifeDrawer$Told" 91
  | 3 => .string "LifeDrawer$Law" 76
  | _ => .string "LifeDrawer$Work" 54
theorem tb_at {b : Nat} {s : State} (hts : ∀ w ∈ lw_tbl, w.before #[Value.ref b] s = true) (i : Nat) {w : Cond} (h : tables_1[i]? = some w) : w.before #[Value.ref b] s = true := hts w (List.mem_append_right _ (List.mem_of_getElem? h))
set_option maxRecDepth 100000 in
theorem nr_ex : ∀ i, i < 5 → Cond.exactly (tmS i) "java/lang/String" ∈ flatC narrow_1 := by decide +kernel
set_option maxRecDepth 100000 in
theorem nr_co : ∀ i, i < 5 → Cond.eq (.field (tmS i) "java/lang/String" "coder" "B") (.int 0) ∈ flatC narrow_1 := by decide +kernel
set_option maxRecDepth 100000 in
theorem nr_ar : ∀ i, i < 5 → Cond.arrayOf (.field (tmS i) "java/lang/String" "value" "[B") .byte ∈ flatC narrow_1 := by decide +kernel
set_option maxRecDepth 100000 in
theorem nr_le : ∀ i, i < 5 → Cond.eq (.length (.field (tmS i) "java/lang/String" "value" "[B")) (.int (Int32.ofNat (fmLen.getD i 0))) ∈ flatC narrow_1 := by decide +kernel
set_option maxRecDepth 100000 in
theorem nr_el : ∀ i, i < 5 → ∀ j, j < fmLen.getD i 0 → Cond.eq (.elem (.field (tmS i) "java/lang/String" "value" "[B") (.int (Int32.ofNat j))) (.int ((fmByt.getD i []).getD j 0)) ∈ flatC narrow_1 := by decide +kernel
set_option maxRecDepth 100000 in
theorem nr_ne : ∀ i, i < 5 → ∀ j, j < 5 → i ≠ j → Cond.not (Cond.eq (tmS i) (tmS j)) ∈ flatC narrow_1 ∨ Cond.not (Cond.eq (tmS j) (tmS i)) ∈ flatC narrow_1 := by decide +kernel
theorem nr_us : Cond.isRef (.static "java/lang/Throwable" "UNASSIGNED_STACK" "[Ljava/lang/StackTraceElement;") ∈ flatC narrow_1 := by decide +kernel
theorem nr_ss : Cond.isRef (.static "java/lang/Throwable" "SUPPRESSED_SENTINEL" "Ljava/util/List;") ∈ flatC narrow_1 := by decide +kernel
theorem nr_cs : Cond.eq (.static "java/lang/String" "COMPACT_STRINGS" "Z") (.int 1) ∈ flatC narrow_1 := by decide +kernel
theorem nr_si : Cond.isRef (.static "jdk/internal/util/Preconditions" "SIOOBE_FORMATTER" "Ljava/util/function/BiFunction;") ∈ flatC narrow_1 := by decide +kernel
theorem nr_nc : Cond.not (.castable "java/lang/IllegalArgumentException" "java/util/NoSuchElementException") ∈ flatC narrow_1 := by decide +kernel
noncomputable def st_c0 {s : State} {args : Array Value} (hw : ∀ w ∈ fmWs, w.before args s = true) : ClassId := Classical.choose (u_known (C := RX0) (T := TX0) (N := 3) (n := 3) hw fw_0 (hw _ (fm_in 219 (by decide +kernel) rfl)))
theorem st_cls {s : State} {args : Array Value} (hw : ∀ w ∈ fmWs, w.before args s = true) : ∀ k : Nat, ∃ q : ClassId × (Nat → Nat), ∀ r : vw_C, vwCl[k]? = some r → u_Kn s r.1 r.2.1 r.2.2 q.1 q.2 := by
  intro k
  match k with
  | 0 =>
    obtain ⟨c, i, h⟩ := u_known (C := RX0) (T := TX0) (N := 3) (n := 3) hw fw_0 (hw _ (fm_in 219 (by decide +kernel) rfl))
    exact ⟨(c, i), fun r hr => by cases hr; exact h⟩
  | 1 =>
    obtain ⟨c, i, h⟩ := u_known (C := RX1) (T := TX1) (N := 5) (n := 5) hw fw_1 (hw _ (fm_in 145 (by decide +kernel) rfl))
    exact ⟨(c, i), fun r hr => by cases hr; exact h⟩
  | 2 =>
    obtain ⟨c, i, h⟩ := u_known (C := RX2) (T := TX2) (N := 3) (n := 3) hw fw_2 (hw _ (fm_in 171 (by decide +kernel) rfl))
    exact ⟨(c, i), fun r hr => by cases hr; exact h⟩
  | 3 =>
    obtain ⟨c, i, h⟩ := u_known (C := RX3) (T := TX3) (N := 7) (n := 7) hw fw_3 (hw _ (fm_in 238 (by decide +kernel) rfl))
    exact ⟨(c, i), fun r hr => by cases hr; exact h⟩
  | 4 =>
    obtain ⟨c, i, h⟩ := u_known (C := RX4) (T := TX4) (N := 5) (n := 5) hw fw_4 (hw _ (fm_in 266 (by decide +kernel) rfl))
    exact ⟨(c, i), fun r hr => by cases hr; exact h⟩
  | 5 =>
    obtain ⟨c, i, h⟩ := u_known (C := RX5) (T := TX5) (N := 3) (n := 3) hw fw_5 (hw _ (fm_in 339 (by decide +kernel) rfl))
    exact ⟨(c, i), fun r hr => by cases hr; exact h⟩
  | 6 =>
    obtain ⟨c, i, h⟩ := u_known (C := RX6) (T := TX6) (N := 7) (n := 7) hw fw_6 (hw _ (fm_in 272 (by decide +kernel) rfl))
    exact ⟨(c, i), fun r hr => by cases hr; exact h⟩
  | 7 =>
    obtain ⟨c, i, h⟩ := u_known (C := RX7) (T := TX7) (N := 6) (n := 6) hw fw_7 (hw _ (fm_in 35 (by decide +kernel) rfl))
    exact ⟨(c, i), fun r hr => by cases hr; exact h⟩
  | 8 =>
    obtain ⟨c, i, h⟩ := u_known (C := RX8) (T := TX8) (N := 15) (n := 15) hw fw_8 (hw _ (fm_in 66 (by decide +kernel) rfl))
    exact ⟨(c, i), fun r hr => by cases hr; exact h⟩
  | 9 =>
    obtain ⟨c, i, h⟩ := u_known (C := RX9) (T := TX9) (N := 7) (n := 7) hw fw_9 (hw _ (fm_in 188 (by decide +kernel) rfl))
    exact ⟨(c, i), fun r hr => by cases hr; exact h⟩
  | 10 =>
    obtain ⟨c, i, h⟩ := u_known (C := RX10) (T := TX10) (N := 17) (n := 17) hw fw_10 (hw _ (fm_in 27 (by decide +kernel) rfl))
    exact ⟨(c, i), fun r hr => by cases hr; exact h⟩
  | 11 =>
    obtain ⟨c, i, h⟩ := u_known (C := RX11) (T := TX11) (N := 49) (n := 49) hw fw_11 (hw _ (fm_in 1290 (by decide +kernel) rfl))
    exact ⟨(c, i), fun r hr => by cases hr; exact h⟩
  | k + 12 => exact ⟨(Classical.choice ⟨(st_c0 hw)⟩, fun _ => 0), fun r hr => by simp [vwCl] at hr⟩
theorem st_arr {s : State} {args : Array Value} (hw : ∀ w ∈ fmWs, w.before args s = true) {ty : FieldType} (h : Cond.arrayClass ty ∈ fmWs) (hr : ∀ cA, s.vm.findClass ("[" ++ ty.toString) = some cA → va_RA s cA ty) : ∃ cA : ClassId, ArrOfT s cA ty ∧ va_RA s cA ty := by
  obtain ⟨cA, k, comp, h1, h2, h3⟩ := Cond.arrayClass_spec (hw _ h)
  exact ⟨cA, fun n z => ⟨fun k h => (by cases h), k, h2, comp, h3⟩, hr cA h1⟩
theorem st_ao {s : State} {C : String} (h : va_AO C s) : ∃ cA : ClassId, ArrOfT s cA (.object C) ∧ va_RA s cA (.object C) := by
  obtain ⟨comp, cA, k, h1, -, h2, h3, h4⟩ := Cond.arrayOver_spec (va_AO.use (A := #[]) h)
  exact ⟨cA, fun n z => ⟨fun k h => (by cases h), k, h2, comp, h3⟩, k, comp, h2, h3, h1, h4⟩
theorem st_aoa {s : State} (h : va_AOA .int s) : ∃ cA : ClassId, ArrOfT s cA (.array .int) ∧ va_RA s cA (.array .int) := by
  obtain ⟨comp, cA, k, h1, h2, h3, h4⟩ := Cond.arrayOver_specA (va_AOA.use (A := #[]) h)
  exact ⟨cA, fun n z => ⟨fun k h => (by cases h), k, h2, comp, h3⟩, h4⟩
theorem st_env {b : Nat} {s : State} (hts : ∀ w ∈ lw_tbl, w.before #[Value.ref b] s = true) (hgv : (Jvm.Cond.and given_1 narrow_1).before #[Value.ref b] s = true) : ∃ G : fmG, lwEnv G (fun q => s.heap.size ≤ q) s := by
  have hw : ∀ w ∈ fmWs, w.before #[Value.ref b] s = true := fun w h => hts w (List.mem_filter.mp h).1
  have hn : ∀ w ∈ flatC narrow_1, w.before #[Value.ref b] s = true := fun w h => flat_of_before _ hgv w (by
    show w ∈ flatC given_1 ++ flatC narrow_1
    exact List.mem_append_right _ h)
  have hA0 : ∀ a : Nat, a < s.heap.size → ¬ (fun q : Nat => s.heap.size ≤ q) a := fun a h => Nat.not_le.mpr h
  have hsh : va_AO "LifeDrawer$Shelf" s := va_AO.of (tb_at hts 359 (by decide +kernel))
  have hst : va_AO "LifeDrawer$State" s := va_AO.of (tb_at hts 346 (by decide +kernel))
  have hai : va_AOA .int s := (tb_at hts 1296 (w := Cond.arrayOver (.array .int)) (by decide +kernel))
  obtain ⟨D, hD⟩ := Classical.axiomOfChoice (st_cls hw)
  obtain ⟨c0, r0⟩ := st_arr hw lw_ai (fun _ h => h)
  obtain ⟨c1, r1⟩ := st_arr hw lw_al (fun _ h => h)
  obtain ⟨c2, r2⟩ := st_arr hw lw_ab (fun _ h => h)
  obtain ⟨c3, r3⟩ := st_ao hsh
  obtain ⟨c4, r4⟩ := st_ao hst
  obtain ⟨c5, r5⟩ := st_aoa hai
  obtain ⟨adK, adV, hS, hev⟩ := vk_Sof (args := #[Value.ref b]) (s := s) (N := 5) (tm := tmS) (len := fmLen) (byt := fmByt) (A := fun q : Nat => s.heap.size ≤ q) (by decide) (fun i h => hn _ (nr_ex i h)) (fun i h => hn _ (nr_co i h)) (fun i h => hn _ (nr_ar i h)) (fun i h => hn _ (nr_le i h)) (fun i h j hj => hn _ (nr_el i h j hj)) (fun i j hi hj e => (nr_ne i hi j hj e).imp (hn _) (hn _)) hA0
  obtain ⟨v, hv1, hv2⟩ := Cond.isRef_spec (hn _ nr_si)
  have hsi : ∃ n : Nat, v = (match n with | 0 => Value.null | t + 1 => .ref t) := by
    cases v with
    | null => exact ⟨0, rfl⟩
    | ref t => exact ⟨t + 1, rfl⟩
    | _ => simp [Value.isRef] at hv2
  obtain ⟨n9, hn9⟩ := hsi
  have ek : ∀ i, i < 5 → (fun k => if k = 99 then n9 else adK k) i = adK i := fun i h => if_neg (by omega)
  refine ⟨(fun _ => 0, (fun k => (D k).1, fun k => (D k).2), fun t => if t = 0 then c0 else if t = 1 then c1 else if t = 2 then c2 else if t = 3 then c3 else if t = 4 then c4 else c5, fun k => if k = 99 then n9 else adK k, adV), ⟨⟨fun k r hr => hD k r hr, fun k q hq => ?_⟩, ?_, ?_, ⟨fmCa.of (tb_at hts 607 (by decide +kernel)), fmCa.of (tb_at hts 944 (by decide +kernel)), va_Nc.of (hn _ nr_nc), fmDe.of (tb_at hts 609 (by decide +kernel)), fmDe.of (tb_at hts 611 (by decide +kernel)), fmDe.of (tb_at hts 613 (by decide +kernel))⟩, ?_, ?_, ?_, ?_, ?_, ?_, ?_, ?_⟩, hsh, hst, hai⟩
  · match k, hq with
    | 0, hq => cases hq; exact r0
    | 1, hq => cases hq; exact r1
    | 2, hq => cases hq; exact r2
    | 3, hq => cases hq; exact r3
    | 4, hq => cases hq; exact r4
    | 5, hq => cases hq; exact r5
    | k + 6, hq => simp [fmTys] at hq
  · exact vx_Zqof (tb_at hts 632 (by decide +kernel)) (tb_at hts 15 (by decide +kernel)) (hn _ nr_us) hA0
  · exact vx_Zqof (tb_at hts 634 (by decide +kernel)) (tb_at hts 15 (by decide +kernel)) (hn _ nr_ss) hA0
  · refine ⟨fun i hi => ?_, fun i j hi hj e => hS.2 i j hi hj ?_⟩
    · have h := hS.1 i hi
      rw [← ek i hi] at h
      exact h
    · rw [← ek i hi, ← ek j hj]; exact e
  · exact vk_R.of (tb_at hts 951 (by decide +kernel)) (hev 0 (by decide))
  · exact vk_R.of (tb_at hts 645 (by decide +kernel)) (hev 1 (by decide))
  · exact vk_R.of (tb_at hts 692 (by decide +kernel)) (hev 2 (by decide))
  · exact vk_R.of (tb_at hts 831 (by decide +kernel)) (hev 3 (by decide))
  · exact vk_R.of (tb_at hts 859 (by decide +kernel)) (hev 4 (by decide))
  · exact va_Zof (tb_at hts 711 (by decide +kernel)) (tb_at hts 19 (by decide +kernel)) (va_eqt (hn _ nr_cs)) hA0
  · refine va_Zof (tb_at hts 727 (by decide +kernel)) (tb_at hts 21 (by decide +kernel)) (hv1.trans ?_) hA0
    rw [hn9]; rfl
