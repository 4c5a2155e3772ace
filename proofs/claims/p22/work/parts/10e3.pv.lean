-- THE PURE MACHINE: every step is sound; runs
section PvAll
variable {T : fmT} {l : Launch} {G : fmG} {d : Nat} {y : fmY} {pc : Nat} {L : List (Option Value)} {st : List Value} {M : fmM} {r : pvO}
theorem pvStp_ok {i : Instr} {len : Nat} (hst : l.stackTraces = false) (hT : T.1 ≤ 1000) (hd0 : decode y.2.1 pc = .ok (i, len)) (hlen : (pvSw i || Nat.beq len (scLen i)) = true) (h : pvStp T d y pc i L st M = some r) : pvSt T l G d y pc L st M r := by
  rw [Bool.or_eq_true, Nat.beq_eq] at hlen
  cases i with
  | tableswitch a b c e =>
    simp only [pvStp] at h
    split at h
    · split at h
      · rename_i hb
        simp only [Bool.and_eq_true, decide_eq_true_eq] at hb
        cases h
        exact fun Q k => fm_table _ hb.1 (by omega) hd0 k
      · cases h
    · cases h
  | lookupswitch a b =>
    simp only [pvStp] at h
    split at h
    · split at h
      · rename_i hb
        rw [Bool.and_eq_true, decide_eq_true_eq] at hb
        cases h
        exact fun Q k => fm_lookup _ hb.1 (by omega) hd0 k
      · cases h
    · cases h
  | iconst n => cases hlen with
    | inl h9 => cases h9
    | inr h9 => subst h9; cases h; exact fun Q k => fm_iconst rfl hd0 k
  | bipush n => cases hlen with
    | inl h9 => cases h9
    | inr h9 => subst h9; cases h; exact fun Q k => fm_bipush rfl hd0 k
  | sipush n => cases hlen with
    | inl h9 => cases h9
    | inr h9 => subst h9; cases h; exact fun Q k => fm_sipush rfl hd0 k
  | lconst n => cases hlen with
    | inl h9 => cases h9
    | inr h9 => subst h9; cases h; exact fun Q k => fm_lconst rfl hd0 k
  | iload_n n => cases hlen with
    | inl h9 => cases h9
    | inr h9 => subst h9; exact pvLoad_ok (fun _ x Q hx k => fm_iload_n hx hd0 k) (fun e => by cases e) (fun e => by cases e) h
  | iload n => cases hlen with
    | inl h9 => cases h9
    | inr h9 => subst h9; exact pvLoad_ok (fun _ x Q hx k => fm_iload hx hd0 k) (fun e => by cases e) (fun e => by cases e) h
  | lload_n n => cases hlen with
    | inl h9 => cases h9
    | inr h9 => subst h9; exact pvLoad_ok (fun e => by cases e) (fun _ x Q hx k => fm_lload_n hx hd0 k) (fun e => by cases e) h
  | lload n => cases hlen with
    | inl h9 => cases h9
    | inr h9 => subst h9; exact pvLoad_ok (fun e => by cases e) (fun _ x Q hx k => fm_lload hx hd0 k) (fun e => by cases e) h
  | aload_n n => cases hlen with
    | inl h9 => cases h9
    | inr h9 => subst h9; exact pvLoad_ok (fun e => by cases e) (fun e => by cases e) (fun _ x Q hx k => fm_aload_n hx hd0 k) h
  | aload n => cases hlen with
    | inl h9 => cases h9
    | inr h9 => subst h9; exact pvLoad_ok (fun e => by cases e) (fun e => by cases e) (fun _ x Q hx k => fm_aload hx hd0 k) h
  | istore_n n => cases hlen with
    | inl h9 => cases h9
    | inr h9 => subst h9; exact pvStor_ok (fun _ hn x Q st L' h2 k => fm_istore_n hn h2 hd0 k) (fun e => by cases e) (fun e => by cases e) h
  | istore n => cases hlen with
    | inl h9 => cases h9
    | inr h9 => subst h9; exact pvStor_ok (fun _ hn x Q st L' h2 k => fm_istore hn h2 hd0 k) (fun e => by cases e) (fun e => by cases e) h
  | lstore_n n => cases hlen with
    | inl h9 => cases h9
    | inr h9 => subst h9; exact pvStor_ok (fun e => by cases e) (fun _ hn x Q st L' h2 k => fm_lstore_n hn h2 hd0 k) (fun e => by cases e) h
  | lstore n => cases hlen with
    | inl h9 => cases h9
    | inr h9 => subst h9; exact pvStor_ok (fun e => by cases e) (fun _ hn x Q st L' h2 k => fm_lstore hn h2 hd0 k) (fun e => by cases e) h
  | astore_n n => cases hlen with
    | inl h9 => cases h9
    | inr h9 => subst h9; exact pvStor_ok (fun e => by cases e) (fun e => by cases e) (fun _ hn x Q st L' h2 k => fm_astore_n hn h2 hd0 k) h
  | astore n => cases hlen with
    | inl h9 => cases h9
    | inr h9 => subst h9; exact pvStor_ok (fun e => by cases e) (fun e => by cases e) (fun _ hn x Q st L' h2 k => fm_astore hn h2 hd0 k) h
  | iinc n v => cases hlen with
    | inl h9 => cases h9
    | inr h9 =>
      subst h9
      simp only [pvStp] at h
      split at h
      · rename_i x e
        split at h
        · rename_i hn
          simp only [Nat.blt_eq] at hn
          cases h
          intro Q k
          have k' := k
          rw [pvTl_set] at k'
          have hx : (pvTl G (pvKill L n))[n]? = some (some (.int x)) := by
            cases n with
            | zero => exact pvTl_at e
            | succ j =>
              simp only [pvKill]
              split
              · exact pvTl_at e
              · rw [pvTl_set, List.getElem?_set, if_neg (by omega)]
                exact pvTl_at e
          exact fm_less (fun _ _ h => pvKill_less h) (fm_iinc hx rfl hn (by rw [pvTl_no2]; exact pvKill_no) hd0 k')
        · cases h
      · cases h
  | iadd => cases hlen with
    | inl h9 => cases h9
    | inr h9 => subst h9; exact pvI2_ok (fun x z st Q k => fm_iadd hd0 k) h
  | isub => cases hlen with
    | inl h9 => cases h9
    | inr h9 => subst h9; exact pvI2_ok (fun x z st Q k => fm_isub hd0 k) h
  | imul => cases hlen with
    | inl h9 => cases h9
    | inr h9 => subst h9; exact pvI2_ok (fun x z st Q k => fm_imul hd0 k) h
  | iand => cases hlen with
    | inl h9 => cases h9
    | inr h9 => subst h9; exact pvI2_ok (fun x z st Q k => fm_iand hd0 k) h
  | ior => cases hlen with
    | inl h9 => cases h9
    | inr h9 => subst h9; exact pvI2_ok (fun x z st Q k => fm_ior hd0 k) h
  | ixor => cases hlen with
    | inl h9 => cases h9
    | inr h9 => subst h9; exact pvI2_ok (fun x z st Q k => fm_ixor hd0 k) h
  | ishl => cases hlen with
    | inl h9 => cases h9
    | inr h9 => subst h9; exact pvI2_ok (fun x z st Q k => fm_ishl hd0 k) h
  | ishr => cases hlen with
    | inl h9 => cases h9
    | inr h9 => subst h9; exact pvI2_ok (fun x z st Q k => fm_ishr hd0 k) h
  | iushr => cases hlen with
    | inl h9 => cases h9
    | inr h9 => subst h9; exact pvI2_ok (fun x z st Q k => fm_iushr hd0 k) h
  | ineg => cases hlen with
    | inl h9 => cases h9
    | inr h9 => subst h9; exact pvI1_ok (fun x st Q k => fm_ineg hd0 k) h
  | i2b => cases hlen with
    | inl h9 => cases h9
    | inr h9 => subst h9; exact pvI1_ok (fun x st Q k => fm_i2b hd0 k) h
  | ladd => cases hlen with
    | inl h9 => cases h9
    | inr h9 => subst h9; exact pvJ2_ok (fun x z st Q k => fm_ladd hd0 k) h
  | lsub => cases hlen with
    | inl h9 => cases h9
    | inr h9 => subst h9; exact pvJ2_ok (fun x z st Q k => fm_lsub hd0 k) h
  | lmul => cases hlen with
    | inl h9 => cases h9
    | inr h9 => subst h9; exact pvJ2_ok (fun x z st Q k => fm_lmul hd0 k) h
  | land => cases hlen with
    | inl h9 => cases h9
    | inr h9 => subst h9; exact pvJ2_ok (fun x z st Q k => fm_land hd0 k) h
  | lor => cases hlen with
    | inl h9 => cases h9
    | inr h9 => subst h9; exact pvJ2_ok (fun x z st Q k => fm_lor hd0 k) h
  | lxor => cases hlen with
    | inl h9 => cases h9
    | inr h9 => subst h9; exact pvJ2_ok (fun x z st Q k => fm_lxor hd0 k) h
  | lshl => cases hlen with
    | inl h9 => cases h9
    | inr h9 => subst h9; exact pvJI_ok (fun x z st Q k => fm_lshl hd0 k) h
  | lshr => cases hlen with
    | inl h9 => cases h9
    | inr h9 => subst h9; exact pvJI_ok (fun x z st Q k => fm_lshr hd0 k) h
  | idiv => cases hlen with
    | inl h9 => cases h9
    | inr h9 =>
      subst h9
      simp only [pvStp] at h
      split at h
      · split at h
        · cases h
        · rename_i hz
          cases h
          exact fun Q k => fm_idiv hz hd0 k
      · cases h
  | irem => cases hlen with
    | inl h9 => cases h9
    | inr h9 =>
      subst h9
      simp only [pvStp] at h
      split at h
      · split at h
        · cases h
        · rename_i hz
          cases h
          exact fun Q k => fm_irem hz hd0 k
      · cases h
  | ldiv => cases hlen with
    | inl h9 => cases h9
    | inr h9 =>
      subst h9
      simp only [pvStp] at h
      split at h
      · split at h
        · cases h
        · rename_i hz
          cases h
          exact fun Q k => fm_ldiv hz hd0 k
      · cases h
  | lrem => cases hlen with
    | inl h9 => cases h9
    | inr h9 =>
      subst h9
      simp only [pvStp] at h
      split at h
      · split at h
        · cases h
        · rename_i hz
          cases h
          exact fun Q k => fm_lrem hz hd0 k
      · cases h
  | i2l => cases hlen with
    | inl h9 => cases h9
    | inr h9 =>
      subst h9
      simp only [pvStp] at h
      split at h
      · cases h
        exact fun Q k => fm_i2l hd0 k
      · cases h
  | l2i => cases hlen with
    | inl h9 => cases h9
    | inr h9 =>
      subst h9
      simp only [pvStp] at h
      split at h
      · cases h
        exact fun Q k => fm_l2i hd0 k
      · cases h
  | lcmp => cases hlen with
    | inl h9 => cases h9
    | inr h9 =>
      subst h9
      simp only [pvStp] at h
      split at h
      · cases h
        exact fun Q k => fm_lcmp hd0 k
      · cases h
  | dup => cases hlen with
    | inl h9 => cases h9
    | inr h9 =>
      subst h9
      simp only [pvStp] at h
      split at h
      · split at h
        · rename_i hc
          cases h
          exact fun Q k => fm_dup (by rw [pvTr_cat]; exact hc) hd0 k
        · cases h
      · cases h
  | dup2 => cases hlen with
    | inl h9 => cases h9
    | inr h9 =>
      subst h9
      simp only [pvStp] at h
      split at h
      · cases h
        exact fun Q k => fm_dup2L rfl hd0 k
      · split at h
        · rename_i hc
          cases h
          exact fun Q k => fm_dup2 (by rw [pvTr_cat]; exact hc.1) (by rw [pvTr_cat]; exact hc.2) hd0 k
        · cases h
      · cases h
  | dup_x1 => cases hlen with
    | inl h9 => cases h9
    | inr h9 =>
      subst h9
      simp only [pvStp] at h
      split at h
      · split at h
        · rename_i hc
          cases h
          exact fun Q k => fm_dup_x1 (by rw [pvTr_cat]; exact hc.1) (by rw [pvTr_cat]; exact hc.2) hd0 k
        · cases h
      · cases h
  | pop => cases hlen with
    | inl h9 => cases h9
    | inr h9 =>
      subst h9
      simp only [pvStp] at h
      split at h
      · split at h
        · rename_i hc
          cases h
          exact fun Q k => fm_pop (by rw [pvTr_cat]; exact hc) hd0 k
        · cases h
      · cases h
  | goto off => cases hlen with
    | inl h9 => cases h9
    | inr h9 =>
      subst h9
      simp only [pvStp] at h
      split at h
      · rename_i hc
        simp only [decide_eq_true_eq] at hc
        cases h
        exact fun Q k => fm_goto _ (by omega) hd0 k
      · cases h
  | ifCond c off => cases hlen with
    | inl h9 => cases h9
    | inr h9 =>
      subst h9
      simp only [pvStp] at h
      split at h
      · exact pvBr_ok (fun tgt Q ht k1 k2 => fm_ifc c ht hd0 (fun hr => k1 (scRel_t hr)) (fun hr => k2 (scRel_f hr))) h
      · cases h
  | if_icmp c off => cases hlen with
    | inl h9 => cases h9
    | inr h9 =>
      subst h9
      simp only [pvStp] at h
      split at h
      · exact pvBr_ok (fun tgt Q ht k1 k2 => fm_icmp c ht hd0 (fun hr => k1 (scRel_t hr)) (fun hr => k2 (scRel_f hr))) h
      · cases h
  | getfield idx => cases hlen with
    | inl h9 => cases h9
    | inr h9 => subst h9; exact pvGet_ok hT hd0 h
  | putfield idx => cases hlen with
    | inl h9 => cases h9
    | inr h9 => subst h9; exact pvPut_ok hT hd0 h
  | iaload => cases hlen with
    | inl h9 => cases h9
    | inr h9 => subst h9; exact pvAldI_ok hT hd0 h
  | laload => cases hlen with
    | inl h9 => cases h9
    | inr h9 => subst h9; exact pvAldJ_ok hT hd0 h
  | baload => cases hlen with
    | inl h9 => cases h9
    | inr h9 => subst h9; exact pvAldB_ok hT hd0 h
  | iastore => cases hlen with
    | inl h9 => cases h9
    | inr h9 => subst h9; exact pvAstI_ok hT hd0 h
  | lastore => cases hlen with
    | inl h9 => cases h9
    | inr h9 => subst h9; exact pvAstJ_ok hT hd0 h
  | bastore => cases hlen with
    | inl h9 => cases h9
    | inr h9 => subst h9; exact pvAstB_ok hT hd0 h
  | aaload => cases hlen with
    | inl h9 => cases h9
    | inr h9 => subst h9; exact pvAald_ok hT hd0 h
  | arraylength => cases hlen with
    | inl h9 => cases h9
    | inr h9 => subst h9; exact pvAlen_ok hT hd0 h
  | ldc idx => cases hlen with
    | inl h9 => cases h9
    | inr h9 => subst h9; exact pvLdc_ok hd0 h
  | ldc_w idx => cases hlen with
    | inl h9 => cases h9
    | inr h9 => subst h9; exact pvLdcw_ok hd0 h
  | ldc2_w idx => cases hlen with
    | inl h9 => cases h9
    | inr h9 => subst h9; exact pvLdc2_ok hd0 h
  | invokevirtual idx => cases hlen with
    | inl h9 => cases h9
    | inr h9 =>
      subst h9
      simp only [pvStp, pvVirt] at h
      split at h
      · rename_i q hq
        exact pvCal_ok (stat := false) hst hT hq hd0 h
      · cases h
  | invokestatic idx => cases hlen with
    | inl h9 => cases h9
    | inr h9 => subst h9; exact pvStat_ok hst hT hd0 h
  | new idx => cases hlen with
    | inl h9 => cases h9
    | inr h9 => subst h9; exact pvThr_ok hd0 h
  | ireturn => cases hlen with
    | inl h9 => cases h9
    | inr h9 =>
      subst h9
      simp only [pvStp] at h
      split at h
      · rename_i v
        unfold pvRetI at h
        split at h
        · rename_i hr
          cases h
          exact fun Q k => fm_ireturn hr hd0 k
        · rename_i hr
          split at h
          · rename_i hb
            simp only [Bool.or_eq_true, decide_eq_true_eq] at hb
            cases h
            exact fun Q k => fm_zreturn hr (scq_bool hb) hd0 k
          · cases h
        · cases h
      · cases h
  | lreturn => cases hlen with
    | inl h9 => cases h9
    | inr h9 =>
      subst h9
      simp only [pvStp] at h
      split at h
      · split at h
        · rename_i hr
          cases h
          exact fun Q k => fm_lreturn hr hd0 k
        · cases h
      · cases h
  | return_ => cases hlen with
    | inl h9 => cases h9
    | inr h9 =>
      subst h9
      simp only [pvStp] at h
      split at h
      · split at h
        · rename_i hr
          cases h
          exact fun Q k => fm_return hr hd0 k
        · cases h
      · cases h
  | _ => cases h
end PvAll
theorem pvX_ok {T : fmT} {l : Launch} {G : fmG} (hst : l.stackTraces = false) (hT : T.1 ≤ 1000) : ∀ (n d : Nat) (y : fmY) (pc : Nat) (L : List (Option Value)) (st : List Value) (M : fmM) (r : fmR × fmM), pvX T n d y pc L st M = some r → fmEv T l G d y pc (pvTl G L) (pvTs G st) M (fun o M' => o = pvTo G r.1 ∧ M' = r.2)
  | 0, d, y, pc, L, st, M, r, h => by cases h
  | n + 1, d, y, pc, L, st, M, r, h => by
    simp only [pvX] at h
    split at h
    · rename_i i len hd
      split at h
      · rename_i hlen
        split at h
        · rename_i q hq
          exact pvStp_ok (G := G) hst hT hd hlen hq _ (pvX_ok hst hT n d y _ _ _ _ r h)
        · rename_i q hq
          cases h
          exact pvStp_ok (G := G) hst hT hd hlen hq _ ⟨rfl, rfl⟩
        · rename_i q hq
          obtain ⟨hpl, hs⟩ := pvStp_ok (l := l) (G := G) hst hT hd hlen hq
          split at h
          · cases h
          · rename_i d'
            split at h
            · rename_i hle
              simp only [Nat.ble_eq] at hle
              split at h
              · rename_i v M1 hc
                have ih := pvX_ok (G := G) hst hT n d' q.1 0 _ _ _ _ hc
                refine hs _ d' (Nat.le_refl _) (fmGood_of hst hpl (by rw [pvTs_sl]; exact hle) ?_)
                rw [pvEnt_tr]
                refine fmEv.imp ih (fun o M' hh => ?_)
                obtain ⟨h1, h2⟩ := hh
                subst h1
                subst h2
                have ih2 := pvX_ok (G := G) hst hT n (d' + 1) y _ _ _ _ r h
                have e : pvTs G (v.toList ++ q.2.2.2) = (v.map (pvTr G)).toList ++ pvTs G q.2.2.2 := by
                  cases v <;> simp [pvTs]
                rw [e] at ih2
                exact ih2
              · rename_i E M1 hc
                cases h
                have ih := pvX_ok (G := G) hst hT n d' q.1 0 _ _ _ _ hc
                refine hs _ d' (Nat.le_refl _) (fmGood_of hst hpl (by rw [pvTs_sl]; exact hle) ?_)
                rw [pvEnt_tr]
                refine fmEv.imp ih (fun o M' hh => ?_)
                obtain ⟨h1, h2⟩ := hh
                subst h1
                subst h2
                exact ⟨rfl, rfl⟩
              · cases h
            · cases h
        · cases h
      · cases h
    · cases h
theorem pvCal_mono {T : fmT} {d d' pc : Nat} {L : List (Option Value)} {st : List Value} {M : fmM} {stat : Bool} {q : pvCl} {r : pvO} (hdd : d ≤ d') (h : pvCal T d pc L st M stat q = some r) : pvCal T d' pc L st M stat q = some r := by
  obtain ⟨q1, kd, ci, n, y'⟩ := q
  unfold pvCal at h ⊢
  split at h
  · rename_i hl
    rw [if_pos hl]
    split at h
    · rename_i e0
      simp only at e0 h ⊢
      subst e0
      exact h
    · rename_i e0
      simp only at e0 h ⊢
      subst e0
      exact h
    · rename_i e0
      simp only at e0 h ⊢
      subst e0
      split at h
      · split at h
        · rename_i hb
          simp only [Bool.and_eq_true, Nat.ble_eq, Nat.blt_eq] at hb
          try simp only
          rw [if_pos (by simp only [Bool.and_eq_true, Nat.ble_eq, Nat.blt_eq]; omega)]
          exact h
        · cases h
      · cases h
    · rename_i e0
      simp only at e0 h ⊢
      subst e0
      split at h
      · split at h
        · rename_i hb
          simp only [Bool.and_eq_true, Nat.ble_eq, Nat.blt_eq] at hb
          obtain ⟨⟨⟨⟨⟨b1, b2⟩, b3⟩, b4⟩, b5⟩, b6⟩ := hb
          try simp only
          rw [if_pos (by simp only [Bool.and_eq_true, Nat.ble_eq, Nat.blt_eq]; exact ⟨⟨⟨⟨⟨b1, b2⟩, by omega⟩, b4⟩, b5⟩, b6⟩)]
          exact h
        · cases h
      · cases h
    · cases h
  · cases h
theorem pvStp_mono {T : fmT} {d d' : Nat} {y : fmY} {pc : Nat} {i : Instr} {L : List (Option Value)} {st : List Value} {M : fmM} {r : pvO} (hdd : d ≤ d') (h : pvStp T d y pc i L st M = some r) : pvStp T d' y pc i L st M = some r := by
  cases i with
  | invokevirtual idx =>
    simp only [pvStp, pvVirt] at h ⊢
    split at h
    · exact pvCal_mono hdd h
    · cases h
  | invokestatic idx =>
    simp only [pvStp, pvStat] at h ⊢
    split at h
    · split at h
      · split at h
        · rename_i hb
          simp only [Bool.and_eq_true, Nat.ble_eq] at hb
          try simp only
          rw [if_pos (by simp only [Bool.and_eq_true, Nat.ble_eq]; omega)]
          exact h
        · cases h
      · cases h
    · try simp only
      split at h
      · rename_i hc
        rw [if_pos hc]
        exact h
      · rename_i hc
        rw [if_neg hc]
        split at h
        · split at h
          · split at h
            · rename_i hb
              simp only [Bool.and_eq_true, Nat.ble_eq] at hb
              try simp only
              rw [if_pos (by simp only [Bool.and_eq_true, Nat.ble_eq]; omega)]
              exact h
            · cases h
          · cases h
        · split at h
          · try simp only
            exact pvCal_mono hdd h
          · cases h
  | _ => exact h
/-- more time, more room: the same end -/
theorem pvX_mono {T : fmT} : ∀ (n d : Nat) (y : fmY) (pc : Nat) (L : List (Option Value)) (st : List Value) (M : fmM) (r : fmR × fmM), pvX T n d y pc L st M = some r → ∀ n' d' : Nat, n ≤ n' → d ≤ d' → pvX T n' d' y pc L st M = some r
  | 0, d, y, pc, L, st, M, r, h, _, _, _, _ => by cases h
  | n + 1, d, y, pc, L, st, M, r, h, 0, d', hn, _ => by omega
  | n + 1, d, y, pc, L, st, M, r, h, n' + 1, d', hn, hdd => by
    simp only [pvX] at h ⊢
    split at h
    · rename_i i len hd
      split at h
      · rename_i hlen
        rw [if_pos hlen]
        split at h
        · rename_i q hq
          rw [pvStp_mono hdd hq]
          exact pvX_mono n d y _ _ _ _ r h n' d' (by omega) hdd
        · rename_i q hq
          rw [pvStp_mono hdd hq]
          exact h
        · rename_i q hq
          rw [pvStp_mono hdd hq]
          try simp only
          split at h
          · cases h
          · rename_i e
            cases d' with
            | zero => omega
            | succ e' =>
              try simp only
              split at h
              · rename_i hle
                rw [if_pos hle]
                split at h
                · rename_i v M1 hc
                  rw [pvX_mono n e q.1 0 _ _ _ _ hc n' e' (by omega) (by omega)]
                  exact pvX_mono n (e + 1) y _ _ _ _ r h n' (e' + 1) (by omega) hdd
                · rename_i E M1 hc
                  rw [pvX_mono n e q.1 0 _ _ _ _ hc n' e' (by omega) (by omega)]
                  exact h
                · cases h
              · cases h
        · cases h
      · cases h
    · cases h
/-- from here on the method comes to an end with Q -/
def pvEv (T : fmT) (d : Nat) (y : fmY) (pc : Nat) (L : List (Option Value)) (st : List Value) (M : fmM) (Q : fmR → fmM → Prop) : Prop := ∃ (n : Nat) (r : fmR × fmM), pvX T n d y pc L st M = some r ∧ Q r.1 r.2
/-- a call of y with these arguments comes to an end with Q -/
def pvGood (T : fmT) (d : Nat) (y : fmY) (args : List Value) (M : fmM) (Q : fmR → fmM → Prop) : Prop := (lg_sl args).length ≤ y.2.2.1 ∧ pvEv T d y 0 (pvEnt y args) [] M Q
def pvThen (T : fmT) (d : Nat) (y : fmY) (pc : Nat) (L : List (Option Value)) (st : List Value) (Q : fmR → fmM → Prop) : fmR → fmM → Prop := fun o M' => match o with
  | .inl v => pvEv T d y pc L (v.toList ++ st) M' Q
  | .inr E => Q (.inr E) M'
section PvEv
variable {T : fmT} {d : Nat} {y : fmY} {pc : Nat} {L : List (Option Value)} {st : List Value} {M : fmM} {Q Q' : fmR → fmM → Prop}
theorem pvEv.imp (h : pvEv T d y pc L st M Q) (hq : ∀ o M', Q o M' → Q' o M') : pvEv T d y pc L st M Q' := by
  obtain ⟨n, r, h1, h2⟩ := h
  exact ⟨n, r, h1, hq _ _ h2⟩
theorem pvEv.up {d' : Nat} (h : pvEv T d y pc L st M Q) (hd : d ≤ d') : pvEv T d' y pc L st M Q := by
  obtain ⟨n, r, h1, h2⟩ := h
  exact ⟨n, r, pvX_mono _ _ _ _ _ _ _ _ h1 n d' (Nat.le_refl _) hd, h2⟩
theorem pvEv.and {d' : Nat} (h : pvEv T d y pc L st M Q) (h' : pvEv T d' y pc L st M Q') : pvEv T d y pc L st M (fun o M' => Q o M' ∧ Q' o M') := by
  obtain ⟨n, r, h1, h2⟩ := h
  obtain ⟨n', r', h1', h2'⟩ := h'
  have e1 := pvX_mono _ _ _ _ _ _ _ _ h1 (n + n') (d + d') (by omega) (by omega)
  have e2 := pvX_mono _ _ _ _ _ _ _ _ h1' (n + n') (d + d') (by omega) (by omega)
  rw [e1] at e2
  cases e2
  exact ⟨n, r, h1, h2, h2'⟩
theorem pvGood.imp {args : List Value} (h : pvGood T d y args M Q) (hq : ∀ o M', Q o M' → Q' o M') : pvGood T d y args M Q' := ⟨h.1, h.2.imp hq⟩
theorem pvGood.up {d' : Nat} {args : List Value} (h : pvGood T d y args M Q) (hd : d ≤ d') : pvGood T d' y args M Q := ⟨h.1, h.2.up hd⟩
theorem pvGood.and {d' : Nat} {args : List Value} (h : pvGood T d y args M Q) (h' : pvGood T d' y args M Q') : pvGood T d y args M (fun o M' => Q o M' ∧ Q' o M') := ⟨h.1, h.2.and h'.2⟩
theorem pvGood.fm {l : Launch} {G : fmG} {args : List Value} (hst : l.stackTraces = false) (hT : T.1 ≤ 1000) (hpl : plainName y.1.cls = true) (h : pvGood T d y args M Q) : fmGood T l G d y (pvTs G args) M (fun o M' => ∃ o', o = pvTo G o' ∧ Q o' M') := by
  obtain ⟨h0, n, r, h1, h2⟩ := h
  refine fmGood_of hst hpl (by rw [pvTs_sl]; exact h0) ?_
  rw [pvEnt_tr]
  refine fmEv.imp (pvX_ok hst hT n d y 0 _ _ _ r h1) (fun o M' hh => ?_)
  obtain ⟨e1, e2⟩ := hh
  subst e2
  exact ⟨r.1, e1, h2⟩
theorem pvEv.step {i : Instr} {len : Nat} {q : pvS} (hd : decode y.2.1 pc = .ok (i, len)) (hl : (pvSw i || Nat.beq len (scLen i)) = true) (hp : pvStp T d y pc i L st M = some (.inl q)) (k : pvEv T d y q.1 q.2.1 q.2.2.1 q.2.2.2 Q) : pvEv T d y pc L st M Q := by
  obtain ⟨n, r, h1, h2⟩ := k
  refine ⟨n + 1, r, ?_, h2⟩
  simp only [pvX, hd, hp, hl, if_true]
  exact h1
theorem pvEv.stop {i : Instr} {len : Nat} {r : fmR} {M' : fmM} (hd : decode y.2.1 pc = .ok (i, len)) (hl : (pvSw i || Nat.beq len (scLen i)) = true) (hp : pvStp T d y pc i L st M = some (.inr (.inl (r, M')))) (hq : Q r M') : pvEv T d y pc L st M Q := by
  refine ⟨1, (r, M'), ?_, hq⟩
  simp only [pvX, hd, hp, hl, if_true]
theorem pvEv.call {d' pc' : Nat} {i : Instr} {len : Nat} {y' : fmY} {args st' : List Value} (hdd : d' + 1 ≤ d) (hd : decode y.2.1 pc = .ok (i, len)) (hl : (pvSw i || Nat.beq len (scLen i)) = true) (hp : pvStp T d y pc i L st M = some (.inr (.inr (y', args, pc', st')))) (hg : pvGood T d' y' args M (pvThen T d y pc' L st' Q)) : pvEv T d y pc L st M Q := by
  obtain ⟨h0, n, r, h1, h2⟩ := hg
  cases d with
  | zero => omega
  | succ e =>
    have h1' := pvX_mono _ _ _ _ _ _ _ _ h1 n e (Nat.le_refl _) (by omega)
    obtain ⟨o, M1⟩ := r
    cases o with
    | inl v =>
      obtain ⟨n2, r2, k1, k2⟩ := h2
      refine ⟨n + n2 + 1, r2, ?_, k2⟩
      simp only [pvX, hd, hp, hl, if_true]
      rw [if_pos (by simpa using h0), pvX_mono _ _ _ _ _ _ _ _ h1' (n + n2) e (by omega) (Nat.le_refl _)]
      exact pvX_mono _ _ _ _ _ _ _ _ k1 (n + n2) (e + 1) (by omega) (Nat.le_refl _)
    | inr E =>
      refine ⟨n + 1, (.inr E, M1), ?_, h2⟩
      simp only [pvX, hd, hp, hl, if_true]
      rw [if_pos (by simpa using h0), h1']
end PvEv
