-- PAGES AS TEXTS, and the reference's
def pgHas (ls : tC) (k : Nat) : Bool := ls.any (fun l => Nat.beq l.1 k)
def pgL (tx : tX) (n : Nat) : Nat → tC → Nat → (Nat × Nat) ⊕ tC
  | 0, _, _ => .inl (9, 0)
  | f + 1, ls, p => if n ≤ p then .inr ls else match spNum tx 0 5 p with
    | .inl e => .inl e
    | .inr (k, q) => if pgHas ls k then .inl (2, p) else match spNum tx 0 1 q with
      | .inl e => .inl e
      | .inr (b, r) => match spSign tx 59 r with
        | .inl e => .inl e
        | .inr (_, s) => pgL tx n f (ls ++ [(k, b)]) (sk tx s)
def spPage (tx : tX) (n : Nat) : (Nat × Nat) ⊕ tC := pgL tx n 700 [] (sk tx 0)
def pop6 (w : Nat) : Nat := ((List.range 6).map (fun k => if w.testBit k then 1 else 0)).sum
theorem pop6_le : ∀ w, w < 64 → pop6 w ≤ 6 := by decide +kernel
theorem pop6_add : ∀ w, w < 64 → ∀ k, k < 6 → w.testBit k = false → pop6 (w ||| 1 <<< k) = pop6 w + 1 ∧ w ||| 1 <<< k < 64 := by decide +kernel
theorem or6 : ∀ w, w < 64 → ∀ k, k < 6 → (nI w ||| (1 : Int32) <<< (nI k &&& 31)) = nI (w ||| 1 <<< k) := by decide +kernel
theorem has6 : ∀ w, w < 64 → ∀ k, k < 6 → ((nI w >>> (nI k &&& 31) &&& 1) = (1 : Int32) ↔ w.testBit k = true) := by decide +kernel
theorem bit6 : ∀ w, w < 64 → ∀ k, k < 6 → ∀ j, j < 6 → (w ||| 1 <<< k).testBit j = (w.testBit j || Nat.beq k j) := by decide +kernel
theorem nI_is {x : Int32} {k : Nat} (h : x.toInt = k) (hk : k < 100000) : x = nI k := i32_ext (by rw [h, nI_toInt (by omega)])
/-- lines read so far -/
def pgI (M0 M : fmM) (ls : tC) (many been : Int32) (w : Nat) : Prop := many.toInt = (ls.length : Int) ∧ been = nI w ∧ w < 64 ∧ ls.length = pop6 w ∧ (∀ k, k < 6 → w.testBit k = pgHas ls k) ∧ lwHas M.1 417 ls ∧ (∀ l ∈ ls, l.1 < 6 ∧ l.2 ≤ 1) ∧ (∀ k j, k ≠ 0 → ¬ (417 ≤ k ∧ k < 423) → M.1 k j = M0.1 k j) ∧ (∀ j, j ≠ 4 → j ≠ 5 → j ≠ 6 → M.1 0 j = M0.1 0 j) ∧ M.2 = M0.2
theorem pgI.rd {M0 M M' : fmM} {ls : tC} {many been : Int32} {w : Nat} (h : pgI M0 M ls many been w) (hf : rdFr M M') : pgI M0 M' ls many been w := by
  obtain ⟨h1, h2, h3, h4, h5, h6, h7, h8, h9, h10⟩ := h
  refine ⟨h1, h2, h3, h4, h5, fun i c hi => ?_, h7, fun k j a b => ?_, fun j a b c => ?_, hf.2.2.trans h10⟩
  · rw [hf.1 _ _ (by omega), hf.1 _ _ (by omega)]
    exact h6 i c hi
  · rw [hf.1 _ _ a]
    exact h8 k j a b
  · rw [hf.2.1 j a b c]
    exact h9 j a b c
theorem pgI.add {M0 M : fmM} {ls : tC} {many been kk bb : Int32} {w k b : Nat} (h : pgI M0 M ls many been w) (hk : kk.toInt = k) (hb : bb.toInt = b) (hk6 : k < 6) (hb1 : b ≤ 1) (hn : w.testBit k = false) : pgI M0 (fmI (fmI M (417 + ls.length) 0 kk) (417 + ls.length) 1 bb) (ls ++ [(k, b)]) (many + 1) (been ||| 1 <<< (kk &&& 31)) (w ||| 1 <<< k) := by
  obtain ⟨h1, h2, h3, h4, h5, h6, h7, h8, h9, h10⟩ := h
  have p1 := pop6_le w h3
  have p2 := pop6_add w h3 k hk6 hn
  have p3 := pop6_le _ p2.2
  refine ⟨?_, ?_, p2.2, ?_, fun j hj => ?_, fun i c hi => ?_, fun l hl => ?_, fun k' j a d => ?_, fun j a d c => ?_, h10⟩
  · rw [i32_p1 h1 (by omega)]
    simp
  · rw [h2, nI_is hk (by omega), or6 w h3 k hk6]
  · rw [p2.1, ← h4]
    simp
  · rw [bit6 w h3 k hk6 j hj, h5 j hj]
    simp [pgHas]
  · by_cases e : i < ls.length
    · rw [List.getElem?_append_left e] at hi
      have := h6 i c hi
      simp only [fmI_at, show ¬ (417 + i = 417 + ls.length) by omega, false_and, if_false]
      exact this
    · rw [List.getElem?_append_right (by omega)] at hi
      have e2 : i = ls.length := by
        have := (List.getElem?_eq_some_iff.mp hi).1
        simp at this
        omega
      subst e2
      simp at hi
      subst hi
      simp only [fmI_at]
      simp
      exact ⟨hk, hb⟩
  · rcases List.mem_append.mp hl with h | h
    · exact h7 l h
    · rw [List.mem_singleton.mp h]
      exact ⟨hk6, hb1⟩
  · simp only [fmI_at, show ¬ (k' = 417 + ls.length) by omega, false_and, if_false]
    exact h8 k' j a d
  · rw [fmI_k _ _ (by omega), fmI_k _ _ (by omega)]
    exact h9 j a d c
def pgFr (M0 M : fmM) : Prop := (∀ k j, k ≠ 0 → ¬ (411 ≤ k ∧ k < 423) → M.1 k j = M0.1 k j) ∧ (∀ j, j ≠ 3 → j ≠ 4 → j ≠ 5 → j ≠ 6 → j ≠ 31 → M.1 0 j = M0.1 0 j) ∧ M.2 = M0.2
def pgEnd (M0 M : fmM) (ls : tC) : Prop := M.1 0 3 = -1 ∧ (M.1 0 31).toInt = (ls.length : Int) ∧ ls.length ≤ 6 ∧ lwHas M.1 411 ls ∧ (∀ l ∈ ls, l.1 < 6 ∧ l.2 ≤ 1) ∧ (∀ k j, 411 + ls.length ≤ k → k < 417 → M.1 k j = M0.1 k j) ∧ pgFr M0 M
def pgBad (M0 M : fmM) (a : Nat) : Prop := (M.1 0 3).toInt = a ∧ M.1 0 31 = M0.1 0 31 ∧ (∀ k j, 411 ≤ k → k < 417 → M.1 k j = M0.1 k j) ∧ pgFr M0 M
theorem pgI.bad {M0 M M' : fmM} {ls : tC} {many been : Int32} {w k a n : Nat} {tx : tX} (h : pgI M0 M ls many been w) (hB : rdBad M M' tx n k a) : pgBad M0 (fmI M' 0 3 (M'.1 0 6)) a := by
  have h := h.rd hB.2.2.2.2
  obtain ⟨h1, h2, h3, h4, h5, h6, h7, h8, h9, h10⟩ := h
  refine ⟨?_, ?_, fun k j a b => ?_, fun k j a b => ?_, fun j a b c d e => ?_, h10⟩
  · rw [fmI_s]
    exact hB.2.2.1
  · rw [fmI_j _ _ (by decide)]
    exact h9 31 (by decide) (by decide) (by decide)
  · rw [fmI_k _ _ (by omega)]
    exact h8 k j (by omega) (by omega)
  · rw [fmI_k _ _ (by omega)]
    exact h8 k j a (by omega)
  · rw [fmI_j _ _ a]
    exact h9 j b c d
theorem pgI.fin {M0 M M' : fmM} {ls : tC} {many been : Int32} {w : Nat} (h : pgI M0 M ls many been w) (h4 : lyOk 417 411 2 0 ls.length (fmI (fmI M 0 3 (-1)) 0 31 many) M') : pgEnd M0 M' ls := by
  obtain ⟨h1, h2, h3, h4', h5, h6, h7, h8, h9, h10⟩ := h
  have p1 := pop6_le w h3
  have g0 : ∀ j, M'.1 0 j = (fmI (fmI M 0 3 (-1)) 0 31 many).1 0 j := fun j => h4.2.1 0 j (by omega)
  refine ⟨g0 3, ?_, by omega, fun i c hi => ?_, h7, fun k j a b => ?_, fun k j a b => ?_, fun j a b c d e => ?_, ?_⟩
  · rw [g0 31]
    exact h1
  · have hl : i < ls.length := (List.getElem?_eq_some_iff.mp hi).1
    rw [h4.1 i 0 (Nat.zero_le _) hl (by omega), h4.1 i 1 (Nat.zero_le _) hl (by omega), fmI_k _ _ (by omega), fmI_k _ _ (by omega)]
    exact h6 i c hi
  · rw [h4.2.1 k j (by omega), fmI_k _ _ (by omega), fmI_k _ _ (by omega)]
    exact h8 k j (by omega) (by omega)
  · rw [h4.2.1 k j (by omega), fmI_k _ _ a, fmI_k _ _ a]
    exact h8 k j a (by omega)
  · rw [g0 j, fmI_j _ _ e, fmI_j _ _ a]
    exact h9 j b c d
  · rw [h4.2.2]
    exact h10
theorem pgL_fuel {tx : tX} {n : Nat} (ht : tOk tx n) : ∀ (f : Nat) (ls : tC) (p : Nat), p ≤ n → n - p < f → ¬ pgL tx n f ls p = .inl (9, 0)
  | 0, _, _, _, h => by omega
  | f + 1, ls, p, hp, h => by
    simp only [pgL]
    split
    · intro e; cases e
    · split
      · rename_i e he
        intro e2
        cases e2
        exact spNum_nf he
      · rename_i k q he
        have a1 := spNum_ok ht hp he
        split
        · intro e; injection e with e; injection e with e; omega
        · split
          · rename_i e he2
            intro e2
            cases e2
            exact spNum_nf he2
          · rename_i b r he2
            have a2 := spNum_ok ht a1.2.1 he2
            split
            · rename_i e he3
              intro e2
              cases e2
              exact spSign_nf he3
            · rename_i u s he3
              have a3 := spSign_ok ht a2.2.1 (by omega) he3
              have s1 := sp_ge (P := tB) (tx := tx) s
              have s2 := sp_le tB_1 ht a3.2
              exact pgL_fuel ht f _ _ s2 (by unfold sk; omega)
theorem pgL_bad {tx : tX} {n : Nat} (ht : tOk tx n) : ∀ (f : Nat) (ls : tC) (p k a : Nat), p ≤ n → pgL tx n f ls p = .inl (k, a) → k ≠ 9 → (1 ≤ k ∧ k ≤ 3) ∧ a ≤ n
  | 0, _, _, k, a, _, h, hk => by
    injection h with h
    injection h with h1 h2
    exact absurd h1.symm hk
  | f + 1, ls, p, k, a, hp, h, hk => by
    simp only [pgL] at h
    split at h
    · cases h
    · split at h
      · rename_i e he
        cases h
        have := spNum_bad ht hp he
        omega
      · rename_i k' q he
        have a1 := spNum_ok ht hp he
        split at h
        · injection h with h; injection h with h1 h2; omega
        · split at h
          · rename_i e he2
            cases h
            have := spNum_bad ht a1.2.1 he2
            omega
          · rename_i b r he2
            have a2 := spNum_ok ht a1.2.1 he2
            split at h
            · rename_i e he3
              cases h
              have := spSign_bad ht a2.2.1 he3
              omega
            · rename_i u s he3
              have a3 := spSign_ok ht a2.2.1 (by omega) he3
              exact pgL_bad ht f _ _ k a (sp_le tB_1 ht a3.2) h hk
section PgEq
variable {tx : tX} {n f p k q b r s : Nat} {ls : tC} {e : Nat × Nat} {u : Unit}
theorem pgL_0 (h : n ≤ p) : pgL tx n (f + 1) ls p = .inr ls := by simp only [pgL]; rw [if_pos h]
theorem pgL_1 (h : ¬ n ≤ p) (h1 : spNum tx 0 5 p = .inl e) : pgL tx n (f + 1) ls p = .inl e := by simp only [pgL]; rw [if_neg h, h1]
theorem pgL_2 (h : ¬ n ≤ p) (h1 : spNum tx 0 5 p = .inr (k, q)) (h2 : pgHas ls k = true) : pgL tx n (f + 1) ls p = .inl (2, p) := by simp only [pgL]; rw [if_neg h, h1]; simp only [h2, if_true]
theorem pgL_3 (h : ¬ n ≤ p) (h1 : spNum tx 0 5 p = .inr (k, q)) (h2 : pgHas ls k = false) (h3 : spNum tx 0 1 q = .inl e) : pgL tx n (f + 1) ls p = .inl e := by simp only [pgL]; rw [if_neg h, h1]; simp only [h2, Bool.false_eq_true, if_false]; rw [h3]
theorem pgL_4 (h : ¬ n ≤ p) (h1 : spNum tx 0 5 p = .inr (k, q)) (h2 : pgHas ls k = false) (h3 : spNum tx 0 1 q = .inr (b, r)) (h4 : spSign tx 59 r = .inl e) : pgL tx n (f + 1) ls p = .inl e := by simp only [pgL]; rw [if_neg h, h1]; simp only [h2, Bool.false_eq_true, if_false]; rw [h3]; simp only; rw [h4]
theorem pgL_5 (h : ¬ n ≤ p) (h1 : spNum tx 0 5 p = .inr (k, q)) (h2 : pgHas ls k = false) (h3 : spNum tx 0 1 q = .inr (b, r)) (h4 : spSign tx 59 r = .inr (u, s)) : pgL tx n (f + 1) ls p = pgL tx n f (ls ++ [(k, b)]) (sk tx s) := by simp only [pgL]; rw [if_neg h, h1]; simp only [h2, Bool.false_eq_true, if_false]; rw [h3]; simp only; rw [h4]
end PgEq
theorem pgL_9 {tx : tX} {n : Nat} : ∀ (f : Nat) (ls : tC) (p a : Nat), pgL tx n f ls p = .inl (9, a) → a = 0
  | 0, _, _, a, h => by
    injection h with h
    injection h with h1 h2
    exact h2.symm
  | f + 1, ls, p, a, h => by
    simp only [pgL] at h
    have nn : ∀ {lo hi : Int} {p a : Nat}, spNum tx lo hi p = .inl (9, a) → False := by
      intro lo hi p a h
      unfold spNum at h
      split at h
      · split at h
        · cases h
        · injection h with h; injection h with h1 h2; omega
      · injection h with h; injection h with h1 h2; omega
    split at h
    · cases h
    · split at h
      · rename_i e he
        cases h
        exact (nn he).elim
      · split at h
        · injection h with h; injection h with h1 h2; omega
        · split at h
          · rename_i e he2
            cases h
            exact (nn he2).elim
          · split at h
            · rename_i e he3
              cases h
              unfold spSign at he3
              split at he3
              · cases he3
              · injection he3 with h; injection h with h1 h2; omega
            · exact pgL_9 f _ _ a h
theorem pg_no9 {tx : tX} {n p a : Nat} (ht : tOk tx n) (hp : p ≤ n) (e : pgL tx n 700 [] p = .inl (9, a)) : False := by
  have := pgL_9 _ _ _ _ e
  subst this
  exact pgL_fuel ht 700 [] p hp (by have := ht.1; omega) e
set_option maxRecDepth 20000 in
theorem c_has {M : fmM} {Q : fmR → fmM → Prop} {x k : Int32} (ht : (x >>> (k &&& 31) &&& 1) = (1 : Int32) → Q (.inl (some (.int 1))) M) (hf : ¬ (x >>> (k &&& 31) &&& 1) = (1 : Int32) → Q (.inl (some (.int 0))) M) : pvGood Tm 0 qX11_has [.int x, .int k] M Q := by
  refine pvGood_of (Nat.le_of_ble_eq_true rfl) ?_
  show pvEv Tm 0 qX11_has 0 [some (.int x), some (.int k)] [] M Q
  refine pv_iloadn (pc := 0) (n := 0) 0 rfl rfl (fm_dec dtX11_has 0 rfl) ?_
  refine pv_iloadn (pc := 1) (n := 1) 1 rfl rfl (fm_dec dtX11_has 1 rfl) ?_
  refine pv_ishr (pc := 2) (fm_dec dtX11_has 2 rfl) ?_
  refine pv_iconst (pc := 3) (v := 1) (by decide) (fm_dec dtX11_has 3 rfl) ?_
  refine pv_iand (pc := 4) (fm_dec dtX11_has 4 rfl) ?_
  refine pv_iconst (pc := 5) (v := 1) (by decide) (fm_dec dtX11_has 5 rfl) ?_
  refine pv_icmp_ne (pc := 6) 13 (by decide) (fm_dec dtX11_has 6 rfl) (fun hc6 => ?_) (fun hc6 => ?_)
  · refine pv_iconst (pc := 13) (v := 0) (by decide) (fm_dec dtX11_has 9 rfl) ?_
    exact pv_zreturn (pc := 14) rfl (by first | exact Or.inr rfl | exact Or.inl rfl) (fm_dec dtX11_has 10 rfl) (by first | exact ht hc6 | exact hf hc6)
  · refine pv_iconst (pc := 9) (v := 1) (by decide) (fm_dec dtX11_has 7 rfl) ?_
    refine pv_goto (pc := 10) 14 (by decide) (fm_dec dtX11_has 8 rfl) ?_
    exact pv_zreturn (pc := 14) rfl (by first | exact Or.inr rfl | exact Or.inl rfl) (fm_dec dtX11_has 10 rfl) (by first | exact ht hc6 | exact hf hc6)
set_option maxRecDepth 20000 in
theorem pg_t1 {Q : fmR → fmM → Prop} {M : fmM} {nn many been : Int32} {v4 v5 v6 : Option Value} (hf : ¬ M.1 0 5 = 0) (hq : Q (.inl (some (.int (M.1 0 5 - 10)))) (fmI M 0 3 (M.1 0 6))) : pvEv Tm 3 qX11_page 161 [some (.ref 0), some (.int nn), some (.int many), some (.int been), v4, v5, v6] [] M Q := by
  refine pv_aloadn (pc := 161) (n := 0) 0 rfl rfl (fm_dec dtX11_page 91 rfl) ?_
  refine pv_getI (k := 0) (j := 5) (ci := 11) (pc := 162) pfl_X11_117 (by decide) rfl (by decide) (fm_dec dtX11_page 92 rfl) ?_
  refine pv_if_eq (pc := 165) 173 (by decide) (fm_dec dtX11_page 93 rfl) (fun hc165 => by exfalso; exact hf hc165) (fun _ => ?_)
  refine pv_aloadn (pc := 168) (n := 0) 0 rfl rfl (fm_dec dtX11_page 94 rfl) ?_
  refine pv_invV0 (k := 0) (d' := 0) (pc := 169) pcv_X11_187 (by decide) rfl (Nat.le_of_ble_eq_true rfl) (by decide) (fm_dec dtX11_page 95 rfl) ?_
  refine c_ends ?_
  refine pv_then1 ?_
  exact pv_ireturn (pc := 172) rfl (fm_dec dtX11_page 96 rfl) hq
set_option maxRecDepth 20000 in
theorem pg_o1 {Q : fmR → fmM → Prop} {M : fmM} {nn many been : Int32} {v4 v5 v6 : Option Value} (hf : ¬ M.1 0 5 = 0) (hq : Q (.inl (some (.int (M.1 0 5 - 10)))) (fmI M 0 3 (M.1 0 6))) : pvEv Tm 3 qX11_page 48 [some (.ref 0), some (.int nn), some (.int many), some (.int been), v4, v5, v6] [] M Q := by
  refine pv_aloadn (pc := 48) (n := 0) 0 rfl rfl (fm_dec dtX11_page 29 rfl) ?_
  refine pv_getI (k := 0) (j := 5) (ci := 11) (pc := 49) pfl_X11_117 (by decide) rfl (by decide) (fm_dec dtX11_page 30 rfl) ?_
  refine pv_if_ne (pc := 52) 161 (by decide) (fm_dec dtX11_page 31 rfl) (fun _ => ?_) (fun hc52 => by exfalso; exact hf hc52)
  exact pg_t1 hf hq
set_option maxRecDepth 20000 in
theorem pg_t0 {Q : fmR → fmM → Prop} {M : fmM} {nn many been : Int32} {v4 v5 v6 : Option Value} {c : Nat} (hf : M.1 0 5 = 0) (hm : many.toInt = c) (hc : c ≤ 6) (hq : ∀ M' : fmM, lyOk 417 411 2 0 c (fmI (fmI M 0 3 (-1)) 0 31 many) M' → Q (.inl (some (.int many))) M') : pvEv Tm 3 qX11_page 161 [some (.ref 0), some (.int nn), some (.int many), some (.int been), v4, v5, v6] [] M Q := by
  refine pv_aloadn (pc := 161) (n := 0) 0 rfl rfl (fm_dec dtX11_page 91 rfl) ?_
  refine pv_getI (k := 0) (j := 5) (ci := 11) (pc := 162) pfl_X11_117 (by decide) rfl (by decide) (fm_dec dtX11_page 92 rfl) ?_
  refine pv_if_eq (pc := 165) 173 (by decide) (fm_dec dtX11_page 93 rfl) (fun _ => ?_) (fun hc165 => by exfalso; exact hc165 hf)
  refine pv_aloadn (pc := 173) (n := 0) 0 rfl rfl (fm_dec dtX11_page 97 rfl) ?_
  refine pv_iconst (pc := 174) (v := (-1)) (by decide) (fm_dec dtX11_page 98 rfl) ?_
  refine pv_putI (k := 0) (j := 3) (ci := 11) (pc := 175) pfl_X11_9 (by decide) rfl (by decide) (fm_dec dtX11_page 99 rfl) ?_
  refine pv_aloadn (pc := 178) (n := 0) 0 rfl rfl (fm_dec dtX11_page 100 rfl) ?_
  refine pv_iloadn (pc := 179) (n := 2) 2 rfl rfl (fm_dec dtX11_page 101 rfl) ?_
  refine pv_putI (k := 0) (j := 31) (ci := 11) (pc := 180) pfl_X11_197 (by decide) rfl (by decide) (fm_dec dtX11_page 102 rfl) ?_
  refine pv_aloadn (pc := 183) (n := 0) 0 rfl rfl (fm_dec dtX11_page 103 rfl) ?_
  refine pv_getR (k := 0) (j := 22) (ci := 11) (pc := 184) 23 rfl (by decide) pfl_X11_49 (by decide) rfl (by decide) (fm_dec dtX11_page 104 rfl) ?_
  refine pv_aloadn (pc := 187) (n := 0) 0 rfl rfl (fm_dec dtX11_page 105 rfl) ?_
  refine pv_getR (k := 0) (j := 21) (ci := 11) (pc := 188) 22 rfl (by decide) pfl_X11_46 (by decide) rfl (by decide) (fm_dec dtX11_page 106 rfl) ?_
  refine pv_iloadn (pc := 191) (n := 2) 2 rfl rfl (fm_dec dtX11_page 107 rfl) ?_
  refine pv_iS3 (d' := 0) (pc := 192) pcs_X11_190 (Nat.le_of_ble_eq_true rfl) (by decide) (fm_dec dtX11_page 108 rfl) ?_
  refine c_lays_page hm hc (fun M192 h192 => ?_)
  refine pv_then0 ?_
  refine pv_iloadn (pc := 195) (n := 2) 2 rfl rfl (fm_dec dtX11_page 109 rfl) ?_
  exact pv_ireturn (pc := 196) rfl (fm_dec dtX11_page 110 rfl) (hq M192 h192)
set_option maxRecDepth 20000 in
theorem pg_loop {tx : tX} {n : Nat} {M0 : fmM} {nn : Int32} {Q : fmR → fmM → Prop} : ∀ (f : Nat) (M : fmM) (ls : tC) (many been : Int32) (w p : Nat) (v4 v5 v6 : Option Value), rS M tx n p → M.1 0 5 = 0 → pgI M0 M ls many been w → ¬ pgL tx n f ls p = .inl (9, 0) → (∀ (M2 : fmM) (ls2 : tC) (r : Int32), pgL tx n f ls p = .inr ls2 → pgEnd M0 M2 ls2 → r.toInt = (ls2.length : Int) → Q (.inl (some (.int r))) M2) → (∀ (M2 : fmM) (k a : Nat) (r : Int32), pgL tx n f ls p = .inl (k, a) → pgBad M0 M2 a → r.toInt = k → Q (.inl (some (.int (r - 10)))) M2) → pvEv Tm 3 qX11_page 48 [some (.ref 0), some (.int nn), some (.int many), some (.int been), v4, v5, v6] [] M Q := by
  intro f
  induction f with
  | zero => intro M ls many been w p v4 v5 v6 hS hf hI hne hok hbad; exact absurd rfl hne
  | succ f ih =>
    intro M ls many been w p v4 v5 v6 hS hf hI hne hok hbad
    refine pv_aloadn (pc := 48) (n := 0) 0 rfl rfl (fm_dec dtX11_page 29 rfl) ?_
    refine pv_getI (k := 0) (j := 5) (ci := 11) (pc := 49) pfl_X11_117 (by decide) rfl (by decide) (fm_dec dtX11_page 30 rfl) ?_
    refine pv_if_ne (pc := 52) 161 (by decide) (fm_dec dtX11_page 31 rfl) (fun hc52 => by exfalso; exact hc52 hf) (fun _ => ?_)
    refine pv_aloadn (pc := 55) (n := 0) 0 rfl rfl (fm_dec dtX11_page 32 rfl) ?_
    refine pv_getI (k := 0) (j := 4) (ci := 11) (pc := 56) pfl_X11_110 (by decide) rfl (by decide) (fm_dec dtX11_page 33 rfl) ?_
    refine pv_aloadn (pc := 59) (n := 0) 0 rfl rfl (fm_dec dtX11_page 34 rfl) ?_
    refine pv_getI (k := 0) (j := 2) (ci := 11) (pc := 60) pfl_X11_107 (by decide) rfl (by decide) (fm_dec dtX11_page 35 rfl) ?_
    refine pv_icmp_ge (pc := 63) 161 (by decide) (fm_dec dtX11_page 36 rfl) (fun hc63 => ?_) (fun hc63 => ?_)
    · exact pg_t0 hf hI.1 (by have := pop6_le w hI.2.2.1; have := hI.2.2.2.1; omega) (fun M2 h2 => hok M2 ls many (pgL_0 (by rw [sc_le, hS.1, hS.2.1] at hc63; omega)) (hI.fin h2) hI.1)
    · have hpn : ¬ n ≤ p := (by rw [sc_le, hS.1, hS.2.1] at hc63; omega)
      refine pv_aloadn (pc := 66) (n := 0) 0 rfl rfl (fm_dec dtX11_page 37 rfl) ?_
      refine pv_getI (k := 0) (j := 4) (ci := 11) (pc := 67) pfl_X11_110 (by decide) rfl (by decide) (fm_dec dtX11_page 38 rfl) ?_
      refine pv_istore (pc := 70) (i := 4) (by decide) rfl (fm_dec dtX11_page 39 rfl) ?_
      dsimp only [List.set_cons_zero, List.set_cons_succ]
      refine pv_aloadn (pc := 72) (n := 0) 0 rfl rfl (fm_dec dtX11_page 40 rfl) ?_
      refine pv_iconst (pc := 73) (v := 0) (by decide) (fm_dec dtX11_page 41 rfl) ?_
      refine pv_iconst (pc := 74) (v := 5) (by decide) (fm_dec dtX11_page 42 rfl) ?_
      refine pv_invV2 (k := 0) (d' := 2) (pc := 75) pcv_X11_163 (by decide) rfl (Nat.le_of_ble_eq_true rfl) (by decide) (fm_dec dtX11_page 43 rfl) ?_
      refine r_num 0 5 ⟨by decide, by decide, by decide⟩ hS hf (fun M75 k75 q75 w75 e75 hw75 k75o => ?_) (fun Mb kb ab eb hB => ?_)  
      · refine pv_then1 ?_
        have hk6 : k75 < 6 := (by have := (spNum_ok hS.2.2.2.1 hS.2.2.1 e75).2.2.2; omega)
        have ek : w75 = nI k75 := nI_is hw75 (by omega)
        refine pv_istore (pc := 78) (i := 5) (by decide) rfl (fm_dec dtX11_page 44 rfl) ?_
        dsimp only [List.set_cons_zero, List.set_cons_succ]
        refine pv_aloadn (pc := 80) (n := 0) 0 rfl rfl (fm_dec dtX11_page 45 rfl) ?_
        refine pv_getI (k := 0) (j := 5) (ci := 11) (pc := 81) pfl_X11_117 (by decide) rfl (by decide) (fm_dec dtX11_page 46 rfl) ?_
        refine pv_if_ne (pc := 84) 103 (by decide) (fm_dec dtX11_page 47 rfl) (fun hc84 => by exfalso; exact hc84 k75o.2.1) (fun _ => ?_)
        refine pv_iloadn (pc := 87) (n := 3) 3 rfl rfl (fm_dec dtX11_page 48 rfl) ?_
        refine pv_iload (pc := 88) (i := 5) rfl (fm_dec dtX11_page 49 rfl) ?_
        refine pv_iS2 (d' := 0) (pc := 90) pcs_X11_256 (Nat.le_of_ble_eq_true rfl) (by decide) (fm_dec dtX11_page 50 rfl) ?_
        refine c_has (fun h90 => ?_) (fun h90 => ?_)
        · refine pv_then1 ?_
          refine pv_if_eq (pc := 93) 103 (by decide) (fm_dec dtX11_page 51 rfl) (fun hc93 => by exfalso; revert hc93; decide) (fun _ => ?_)
          refine pv_aloadn (pc := 96) (n := 0) 0 rfl rfl (fm_dec dtX11_page 52 rfl) ?_
          refine pv_iconst (pc := 97) (v := 2) (by decide) (fm_dec dtX11_page 53 rfl) ?_
          refine pv_iload (pc := 98) (i := 4) rfl (fm_dec dtX11_page 54 rfl) ?_
          refine pv_invV2 (k := 0) (d' := 0) (pc := 100) pcv_X11_130 (by decide) rfl (Nat.le_of_ble_eq_true rfl) (by decide) (fm_dec dtX11_page 55 rfl) ?_
          refine c_wrongAt (fun _ => ?_) (fun h9 => absurd k75o.2.1 h9) 
          refine pv_then0 ?_
          have hh : pgHas ls k75 = true := (by rw [← hI.2.2.2.2.1 k75 hk6]; rw [hI.2.1, ek] at h90; exact (has6 w hI.2.2.1 k75 hk6).mp h90)
          have hB : rdBad M (fmI (fmI M75 0 5 2) 0 6 (M.1 0 4)) tx n 2 p := (rdBad.at0 k75o.1 (by decide) hS.2.1 (by decide)).pre k75o.2.2
          refine pv_aloadn (pc := 103) (n := 0) 0 rfl rfl (fm_dec dtX11_page 56 rfl) ?_
          refine pv_iconst (pc := 104) (v := 0) (by decide) (fm_dec dtX11_page 57 rfl) ?_
          refine pv_iconst (pc := 105) (v := 1) (by decide) (fm_dec dtX11_page 58 rfl) ?_
          refine pv_invV2 (k := 0) (d' := 2) (pc := 106) pcv_X11_163 (by decide) rfl (Nat.le_of_ble_eq_true rfl) (by decide) (fm_dec dtX11_page 59 rfl) ?_
          refine c_number1 hB.nz ?_
          refine pv_then1 ?_
          refine pv_istore (pc := 109) (i := 6) (by decide) rfl (fm_dec dtX11_page 60 rfl) ?_
          dsimp only [List.set_cons_zero, List.set_cons_succ]
          refine pv_aloadn (pc := 111) (n := 0) 0 rfl rfl (fm_dec dtX11_page 61 rfl) ?_
          refine pv_bipush (pc := 112) (v := 59) (by decide) (fm_dec dtX11_page 62 rfl) ?_
          refine pv_invV1 (k := 0) (d' := 2) (pc := 114) pcv_X11_173 (by decide) rfl (Nat.le_of_ble_eq_true rfl) (by decide) (fm_dec dtX11_page 63 rfl) ?_
          refine c_sign1 hB.nz ?_
          refine pv_then0 ?_
          refine pv_aloadn (pc := 117) (n := 0) 0 rfl rfl (fm_dec dtX11_page 64 rfl) ?_
          refine pv_getI (k := 0) (j := 5) (ci := 11) (pc := 118) pfl_X11_117 (by decide) rfl (by decide) (fm_dec dtX11_page 65 rfl) ?_
          refine pv_if_ne (pc := 121) 154 (by decide) (fm_dec dtX11_page 66 rfl) (fun _ => ?_) (fun hc121 => by exfalso; exact hB.nz hc121)
          refine pv_aloadn (pc := 154) (n := 0) 0 rfl rfl (fm_dec dtX11_page 88 rfl) ?_
          refine pv_invV0 (k := 0) (d' := 1) (pc := 155) pcv_X11_123 (by decide) rfl (Nat.le_of_ble_eq_true rfl) (by decide) (fm_dec dtX11_page 89 rfl) ?_
          refine r_blanks1 hB (fun M155 hB => ?_)
          refine pv_then0 ?_
          refine pv_goto (pc := 158) 48 (by decide) (fm_dec dtX11_page 90 rfl) ?_
          exact pg_o1 hB.nz (hbad _ _ _ _ (pgL_2 hpn e75 hh) (hI.bad hB) hB.2.1)
        · refine pv_then1 ?_
          refine pv_if_eq (pc := 93) 103 (by decide) (fm_dec dtX11_page 51 rfl) (fun _ => ?_) (fun hc93 => by exfalso; revert hc93; decide)
          have hh : pgHas ls k75 = false := (by rw [← hI.2.2.2.2.1 k75 hk6]; rw [hI.2.1, ek] at h90; exact Bool.eq_false_iff.mpr (fun h9 => h90 ((has6 w hI.2.2.1 k75 hk6).mpr h9)))
          refine pv_aloadn (pc := 103) (n := 0) 0 rfl rfl (fm_dec dtX11_page 56 rfl) ?_
          refine pv_iconst (pc := 104) (v := 0) (by decide) (fm_dec dtX11_page 57 rfl) ?_
          refine pv_iconst (pc := 105) (v := 1) (by decide) (fm_dec dtX11_page 58 rfl) ?_
          refine pv_invV2 (k := 0) (d' := 2) (pc := 106) pcv_X11_163 (by decide) rfl (Nat.le_of_ble_eq_true rfl) (by decide) (fm_dec dtX11_page 59 rfl) ?_
          refine r_num 0 1 ⟨by decide, by decide, by decide⟩ k75o.1 k75o.2.1 (fun M106 b106 q106 w106 e106 hw106 k106 => ?_) (fun Mb kb ab eb hB => ?_)  
          · refine pv_then1 ?_
            refine pv_istore (pc := 109) (i := 6) (by decide) rfl (fm_dec dtX11_page 60 rfl) ?_
            dsimp only [List.set_cons_zero, List.set_cons_succ]
            refine pv_aloadn (pc := 111) (n := 0) 0 rfl rfl (fm_dec dtX11_page 61 rfl) ?_
            refine pv_bipush (pc := 112) (v := 59) (by decide) (fm_dec dtX11_page 62 rfl) ?_
            refine pv_invV1 (k := 0) (d' := 2) (pc := 114) pcv_X11_173 (by decide) rfl (Nat.le_of_ble_eq_true rfl) (by decide) (fm_dec dtX11_page 63 rfl) ?_
            refine r_sign 59 ⟨by decide, by decide⟩ k106.1 k106.2.1 (fun M114 q114 e114 k114 => ?_) (fun Mb kb ab eb hB => ?_)  
            · refine pv_then0 ?_
              have hI2 := ((hI.rd k75o.2.2).rd k106.2.2).rd k114.2.2
              have hnb : w.testBit k75 = false := (by rw [hI.2.2.2.2.1 k75 hk6]; exact hh)
              have hl6 : ls.length < 6 := (by have h8 := pop6_add w hI.2.2.1 k75 hk6 hnb; have h9 := pop6_le _ h8.2; have := hI.2.2.2.1; omega)
              have hb1 : b106 ≤ 1 := (by have := (spNum_ok hS.2.2.2.1 k75o.1.2.2.1 e106).2.2.2; omega)
              have hI3 := hI2.add hw75 hw106 hk6 hb1 hnb
              refine pv_aloadn (pc := 117) (n := 0) 0 rfl rfl (fm_dec dtX11_page 64 rfl) ?_
              refine pv_getI (k := 0) (j := 5) (ci := 11) (pc := 118) pfl_X11_117 (by decide) rfl (by decide) (fm_dec dtX11_page 65 rfl) ?_
              refine pv_if_ne (pc := 121) 154 (by decide) (fm_dec dtX11_page 66 rfl) (fun hc121 => by exfalso; exact hc121 k114.2.1) (fun _ => ?_)
              refine pv_iloadn (pc := 124) (n := 3) 3 rfl rfl (fm_dec dtX11_page 67 rfl) ?_
              refine pv_iconst (pc := 125) (v := 1) (by decide) (fm_dec dtX11_page 68 rfl) ?_
              refine pv_iload (pc := 126) (i := 5) rfl (fm_dec dtX11_page 69 rfl) ?_
              refine pv_ishl (pc := 128) (fm_dec dtX11_page 70 rfl) ?_
              refine pv_ior (pc := 129) (fm_dec dtX11_page 71 rfl) ?_
              refine pv_istoren (pc := 130) (n := 3) 3 rfl (by decide) rfl (fm_dec dtX11_page 72 rfl) ?_
              dsimp only [List.set_cons_zero, List.set_cons_succ]
              refine pv_aloadn (pc := 131) (n := 0) 0 rfl rfl (fm_dec dtX11_page 73 rfl) ?_
              refine pv_getR (k := 0) (j := 22) (ci := 11) (pc := 132) 23 rfl (by decide) pfl_X11_49 (by decide) rfl (by decide) (fm_dec dtX11_page 74 rfl) ?_
              refine pv_iloadn (pc := 135) (n := 2) 2 rfl rfl (fm_dec dtX11_page 75 rfl) ?_
              refine pv_aald (k := 23) (n := 6) (r := (417 + ls.length)) (pc := 136) (by decide) (Or.inr (Or.inr rfl)) rfl (rw_readPage.inb hI.1 hl6) (rw_readPage.at hI.1 hl6) (rw_readPage.2.2.2 _ hl6).2.1 (fm_dec dtX11_page 76 rfl) ?_
              refine pv_iconst (pc := 137) (v := 0) (by decide) (fm_dec dtX11_page 77 rfl) ?_
              refine pv_iload (pc := 138) (i := 5) rfl (fm_dec dtX11_page 78 rfl) ?_
              refine pv_iast (k := (417 + ls.length)) (n := 2) (pc := 140) (rw_readPage.2.2.2 _ hl6).2.2.1 (rw_readPage.2.2.2 _ hl6).2.2.2.1 (rw_readPage.2.2.2 _ hl6).2.2.2.2 (fm_inl (by decide)) (fm_dec dtX11_page 79 rfl) ?_
              refine pv_aloadn (pc := 141) (n := 0) 0 rfl rfl (fm_dec dtX11_page 80 rfl) ?_
              refine pv_getR (k := 0) (j := 22) (ci := 11) (pc := 142) 23 rfl (by decide) pfl_X11_49 (by decide) rfl (by decide) (fm_dec dtX11_page 81 rfl) ?_
              refine pv_iloadn (pc := 145) (n := 2) 2 rfl rfl (fm_dec dtX11_page 82 rfl) ?_
              refine pv_aald (k := 23) (n := 6) (r := (417 + ls.length)) (pc := 146) (by decide) (Or.inr (Or.inr rfl)) rfl (rw_readPage.inb hI.1 hl6) (rw_readPage.at hI.1 hl6) (rw_readPage.2.2.2 _ hl6).2.1 (fm_dec dtX11_page 83 rfl) ?_
              refine pv_iconst (pc := 147) (v := 1) (by decide) (fm_dec dtX11_page 84 rfl) ?_
              refine pv_iload (pc := 148) (i := 6) rfl (fm_dec dtX11_page 85 rfl) ?_
              refine pv_iast (k := (417 + ls.length)) (n := 2) (pc := 150) (rw_readPage.2.2.2 _ hl6).2.2.1 (rw_readPage.2.2.2 _ hl6).2.2.2.1 (rw_readPage.2.2.2 _ hl6).2.2.2.2 (fm_inl (by decide)) (fm_dec dtX11_page 86 rfl) ?_
              refine pv_iincc (pc := 151) 2 1 (by decide) rfl (by decide) rfl (fm_dec dtX11_page 87 rfl) ?_
              dsimp only [List.set_cons_zero, List.set_cons_succ]
              have k155S : rS (fmI (fmI M114 (417 + ls.length) 0 w75) (417 + ls.length) 1 w106) tx n q114 := k114.1.of (by simp only [fmI_at]; rw [if_neg (by omega), if_neg (by omega)]) (by simp only [fmI_at]; rw [if_neg (by omega), if_neg (by omega)]) (funext fun j => by simp only [fmI_at]; rw [if_neg (by omega), if_neg (by omega)])
              refine pv_aloadn (pc := 154) (n := 0) 0 rfl rfl (fm_dec dtX11_page 88 rfl) ?_
              refine pv_invV0 (k := 0) (d' := 1) (pc := 155) pcv_X11_123 (by decide) rfl (Nat.le_of_ble_eq_true rfl) (by decide) (fm_dec dtX11_page 89 rfl) ?_
              refine r_blanks k155S (show (fmI (fmI M114 (417 + ls.length) 0 w75) (417 + ls.length) 1 w106).1 0 5 = 0 by simp only [fmI_at]; rw [if_neg (by omega), if_neg (by omega)]; exact k114.2.1) (fun M155 k155 => ?_)
              refine pv_then0 ?_
              refine pv_goto (pc := 158) 48 (by decide) (fm_dec dtX11_page 90 rfl) ?_
              have n1 := spNum_ok hS.2.2.2.1 hS.2.2.1 e75
              have e5 := pgL_5 (f := f) hpn e75 hh e106 e114
              exact ih _ _ _ _ _ _ _ _ _ k155.1 k155.2.1 (hI3.rd k155.2.2) (by rw [← e5]; exact hne) (fun M2 ls2 r e => hok M2 ls2 r (by rw [e5]; exact e)) (fun M2 k a r e => hbad M2 k a r (by rw [e5]; exact e))
            · refine pv_then0 ?_
              have hB := (hB.pre k106.2.2).pre k75o.2.2
              refine pv_aloadn (pc := 117) (n := 0) 0 rfl rfl (fm_dec dtX11_page 64 rfl) ?_
              refine pv_getI (k := 0) (j := 5) (ci := 11) (pc := 118) pfl_X11_117 (by decide) rfl (by decide) (fm_dec dtX11_page 65 rfl) ?_
              refine pv_if_ne (pc := 121) 154 (by decide) (fm_dec dtX11_page 66 rfl) (fun _ => ?_) (fun hc121 => by exfalso; exact hB.nz hc121)
              refine pv_aloadn (pc := 154) (n := 0) 0 rfl rfl (fm_dec dtX11_page 88 rfl) ?_
              refine pv_invV0 (k := 0) (d' := 1) (pc := 155) pcv_X11_123 (by decide) rfl (Nat.le_of_ble_eq_true rfl) (by decide) (fm_dec dtX11_page 89 rfl) ?_
              refine r_blanks1 hB (fun M155 hB => ?_)
              refine pv_then0 ?_
              refine pv_goto (pc := 158) 48 (by decide) (fm_dec dtX11_page 90 rfl) ?_
              exact pg_o1 hB.nz (hbad _ _ _ _ (pgL_4 hpn e75 hh e106 eb) (hI.bad hB) hB.2.1)
          · refine pv_then1 ?_
            have hB := hB.pre k75o.2.2
            refine pv_istore (pc := 109) (i := 6) (by decide) rfl (fm_dec dtX11_page 60 rfl) ?_
            dsimp only [List.set_cons_zero, List.set_cons_succ]
            refine pv_aloadn (pc := 111) (n := 0) 0 rfl rfl (fm_dec dtX11_page 61 rfl) ?_
            refine pv_bipush (pc := 112) (v := 59) (by decide) (fm_dec dtX11_page 62 rfl) ?_
            refine pv_invV1 (k := 0) (d' := 2) (pc := 114) pcv_X11_173 (by decide) rfl (Nat.le_of_ble_eq_true rfl) (by decide) (fm_dec dtX11_page 63 rfl) ?_
            refine c_sign1 hB.nz ?_
            refine pv_then0 ?_
            refine pv_aloadn (pc := 117) (n := 0) 0 rfl rfl (fm_dec dtX11_page 64 rfl) ?_
            refine pv_getI (k := 0) (j := 5) (ci := 11) (pc := 118) pfl_X11_117 (by decide) rfl (by decide) (fm_dec dtX11_page 65 rfl) ?_
            refine pv_if_ne (pc := 121) 154 (by decide) (fm_dec dtX11_page 66 rfl) (fun _ => ?_) (fun hc121 => by exfalso; exact hB.nz hc121)
            refine pv_aloadn (pc := 154) (n := 0) 0 rfl rfl (fm_dec dtX11_page 88 rfl) ?_
            refine pv_invV0 (k := 0) (d' := 1) (pc := 155) pcv_X11_123 (by decide) rfl (Nat.le_of_ble_eq_true rfl) (by decide) (fm_dec dtX11_page 89 rfl) ?_
            refine r_blanks1 hB (fun M155 hB => ?_)
            refine pv_then0 ?_
            refine pv_goto (pc := 158) 48 (by decide) (fm_dec dtX11_page 90 rfl) ?_
            exact pg_o1 hB.nz (hbad _ _ _ _ (pgL_3 hpn e75 hh eb) (hI.bad hB) hB.2.1)
      · refine pv_then1 ?_
        refine pv_istore (pc := 78) (i := 5) (by decide) rfl (fm_dec dtX11_page 44 rfl) ?_
        dsimp only [List.set_cons_zero, List.set_cons_succ]
        refine pv_aloadn (pc := 80) (n := 0) 0 rfl rfl (fm_dec dtX11_page 45 rfl) ?_
        refine pv_getI (k := 0) (j := 5) (ci := 11) (pc := 81) pfl_X11_117 (by decide) rfl (by decide) (fm_dec dtX11_page 46 rfl) ?_
        refine pv_if_ne (pc := 84) 103 (by decide) (fm_dec dtX11_page 47 rfl) (fun _ => ?_) (fun hc84 => by exfalso; exact hB.nz hc84)
        refine pv_aloadn (pc := 103) (n := 0) 0 rfl rfl (fm_dec dtX11_page 56 rfl) ?_
        refine pv_iconst (pc := 104) (v := 0) (by decide) (fm_dec dtX11_page 57 rfl) ?_
        refine pv_iconst (pc := 105) (v := 1) (by decide) (fm_dec dtX11_page 58 rfl) ?_
        refine pv_invV2 (k := 0) (d' := 2) (pc := 106) pcv_X11_163 (by decide) rfl (Nat.le_of_ble_eq_true rfl) (by decide) (fm_dec dtX11_page 59 rfl) ?_
        refine c_number1 hB.nz ?_
        refine pv_then1 ?_
        refine pv_istore (pc := 109) (i := 6) (by decide) rfl (fm_dec dtX11_page 60 rfl) ?_
        dsimp only [List.set_cons_zero, List.set_cons_succ]
        refine pv_aloadn (pc := 111) (n := 0) 0 rfl rfl (fm_dec dtX11_page 61 rfl) ?_
        refine pv_bipush (pc := 112) (v := 59) (by decide) (fm_dec dtX11_page 62 rfl) ?_
        refine pv_invV1 (k := 0) (d' := 2) (pc := 114) pcv_X11_173 (by decide) rfl (Nat.le_of_ble_eq_true rfl) (by decide) (fm_dec dtX11_page 63 rfl) ?_
        refine c_sign1 hB.nz ?_
        refine pv_then0 ?_
        refine pv_aloadn (pc := 117) (n := 0) 0 rfl rfl (fm_dec dtX11_page 64 rfl) ?_
        refine pv_getI (k := 0) (j := 5) (ci := 11) (pc := 118) pfl_X11_117 (by decide) rfl (by decide) (fm_dec dtX11_page 65 rfl) ?_
        refine pv_if_ne (pc := 121) 154 (by decide) (fm_dec dtX11_page 66 rfl) (fun _ => ?_) (fun hc121 => by exfalso; exact hB.nz hc121)
        refine pv_aloadn (pc := 154) (n := 0) 0 rfl rfl (fm_dec dtX11_page 88 rfl) ?_
        refine pv_invV0 (k := 0) (d' := 1) (pc := 155) pcv_X11_123 (by decide) rfl (Nat.le_of_ble_eq_true rfl) (by decide) (fm_dec dtX11_page 89 rfl) ?_
        refine r_blanks1 hB (fun M155 hB => ?_)
        refine pv_then0 ?_
        refine pv_goto (pc := 158) 48 (by decide) (fm_dec dtX11_page 90 rfl) ?_
        exact pg_o1 hB.nz (hbad _ _ _ _ (pgL_1 hpn eb) (hI.bad hB) hB.2.1)
set_option maxRecDepth 20000 in
theorem c_page {M : fmM} {Q : fmR → fmM → Prop} {nn : Int32} (hfed : rFed M) (href : ¬ (0 ≤ nn.toInt ∧ nn.toInt ≤ (M.1 0 1).toInt ∧ nn.toInt ≤ 60) → Q (.inl (some (.int 0))) (rfM M 1 1)) (hok : ∀ (n0 : Nat) (M1 M2 : fmM) (ls : tC) (r : Int32), nn.toInt = n0 → n0 ≤ 60 → (n0 : Int) ≤ (M.1 0 1).toInt → stOk (fmI M 0 0 0) M1 (rT M n0) n0 → spPage (rT M n0) n0 = .inr ls → pgEnd M1 M2 ls → r.toInt = (ls.length : Int) → Q (.inl (some (.int r))) M2) (hbad : ∀ (n0 k a : Nat) (M1 M2 : fmM) (r : Int32), nn.toInt = n0 → n0 ≤ 60 → (n0 : Int) ≤ (M.1 0 1).toInt → stOk (fmI M 0 0 0) M1 (rT M n0) n0 → spPage (rT M n0) n0 = .inl (k, a) → (1 ≤ k ∧ k ≤ 3) ∧ a ≤ n0 → pgBad M1 M2 a → r.toInt = (k : Int) - 10 → Q (.inl (some (.int r))) M2) : pvGood Tm 3 qX11_page [.ref 0, .int nn] M Q := by
  refine pvGood_of (Nat.le_of_ble_eq_true rfl) ?_
  show pvEv Tm 3 qX11_page 0 [some (.ref 0), some (.int nn), none, none, none, none, none] [] M Q
  refine pv_aloadn (pc := 0) (n := 0) 0 rfl rfl (fm_dec dtX11_page 0 rfl) ?_
  refine pv_iconst (pc := 1) (v := 0) (by decide) (fm_dec dtX11_page 1 rfl) ?_
  refine pv_putI (k := 0) (j := 0) (ci := 11) (pc := 2) pfl_X11_101 (by decide) rfl (by decide) (fm_dec dtX11_page 2 rfl) ?_
  refine pv_aloadn (pc := 5) (n := 0) 0 rfl rfl (fm_dec dtX11_page 3 rfl) ?_
  refine pv_iloadn (pc := 6) (n := 1) 1 rfl rfl (fm_dec dtX11_page 4 rfl) ?_
  refine pv_iconst (pc := 7) (v := 0) (by decide) (fm_dec dtX11_page 5 rfl) ?_
  refine pv_aloadn (pc := 8) (n := 0) 0 rfl rfl (fm_dec dtX11_page 6 rfl) ?_
  refine pv_getI (k := 0) (j := 1) (ci := 11) (pc := 9) pfl_X11_104 (by decide) rfl (by decide) (fm_dec dtX11_page 7 rfl) ?_
  refine pv_iS3 (d' := 0) (pc := 12) pcs_X11_135 (Nat.le_of_ble_eq_true rfl) (by decide) (fm_dec dtX11_page 8 rfl) ?_
  refine c_in (fun h12a h12b => ?_) (fun h12 => ?_)
  · refine pv_then1 ?_
    refine pv_if_eq (pc := 15) 24 (by decide) (fm_dec dtX11_page 9 rfl) (fun hc15 => by exfalso; revert hc15; decide) (fun _ => ?_)
    refine pv_iloadn (pc := 18) (n := 1) 1 rfl rfl (fm_dec dtX11_page 10 rfl) ?_
    refine pv_bipush (pc := 19) (v := 60) (by decide) (fm_dec dtX11_page 11 rfl) ?_
    refine pv_icmp_le (pc := 21) 28 (by decide) (fm_dec dtX11_page 12 rfl) (fun hc21 => ?_) (fun hc21 => ?_)
    · refine pv_iconst (pc := 28) (v := 0) (by decide) (fm_dec dtX11_page 15 rfl) ?_
      refine pv_iconst (pc := 29) (v := 1) (by decide) (fm_dec dtX11_page 16 rfl) ?_
      refine pv_iconst (pc := 30) (v := 1) (by decide) (fm_dec dtX11_page 17 rfl) ?_
      refine pv_invV3 (k := 0) (d' := 0) (pc := 31) pcv_X11_177 (by decide) rfl (Nat.le_of_ble_eq_true rfl) (by decide) (fm_dec dtX11_page 18 rfl) ?_
      refine c_badF1 rfl ?_
      refine pv_then1 ?_
      refine pv_if_eq (pc := 34) 39 (by decide) (fm_dec dtX11_page 19 rfl) (fun _ => ?_) (fun hc34 => by exfalso; revert hc34; decide)
      obtain ⟨n0, hn0⟩ : ∃ n0 : Nat, nn.toInt = n0 := ⟨nn.toInt.toNat, by have h9 : (0 : Int32).toInt = 0 := (by decide); omega⟩
      have hn60 : n0 ≤ 60 := (by rw [sc_le] at hc21; have h9 : (60 : Int32).toInt = 60 := (by decide); omega)
      have hnt : (n0 : Int) ≤ (M.1 0 1).toInt := (by have h9 : (nn.toInt : Int) ≤ ((fmI M 0 0 0).1 0 1).toInt := h12b; rw [hn0] at h9; exact h9)
      refine pv_aloadn (pc := 39) (n := 0) 0 rfl rfl (fm_dec dtX11_page 22 rfl) ?_
      refine pv_iloadn (pc := 40) (n := 1) 1 rfl rfl (fm_dec dtX11_page 23 rfl) ?_
      refine pv_invV1 (k := 0) (d' := 2) (pc := 41) pcv_X11_181 (by decide) rfl (Nat.le_of_ble_eq_true rfl) (by decide) (fm_dec dtX11_page 24 rfl) ?_
      refine c_starts (n := n0) (M := fmI M 0 0 0) hfed (by omega) hn0 (fun M41 h41 => ?_) 
      refine pv_then0 ?_
      refine pv_iconst (pc := 44) (v := 0) (by decide) (fm_dec dtX11_page 25 rfl) ?_
      refine pv_istoren (pc := 45) (n := 2) 2 rfl (by decide) rfl (fm_dec dtX11_page 26 rfl) ?_
      dsimp only [List.set_cons_zero, List.set_cons_succ]
      refine pv_iconst (pc := 46) (v := 0) (by decide) (fm_dec dtX11_page 27 rfl) ?_
      refine pv_istoren (pc := 47) (n := 3) 3 rfl (by decide) rfl (fm_dec dtX11_page 28 rfl) ?_
      dsimp only [List.set_cons_zero, List.set_cons_succ]
      have hok9 := rT_ok (n := n0) hfed (by omega)
      have hs0 : sk (rT M n0) 0 ≤ n0 := sp_le tB_1 hok9 (Nat.zero_le _)
      have hne := pgL_fuel hok9 700 [] (sk (rT M n0) 0) hs0 (by omega)
      refine pg_loop (tx := rT M n0) (n := n0) (M0 := M41) 700 M41 [] 0 0 0 (sk (rT M n0) 0) _ _ _ h41.1 h41.2.1 ⟨by decide, by decide, by decide, by decide, by decide, fun i c h => (by cases h), fun l h => (by cases h), fun _ _ _ _ => rfl, fun _ _ _ _ => rfl, rfl⟩ hne (fun M2 ls r e h2 hr => hok n0 M41 M2 ls r hn0 hn60 hnt h41 e h2 hr) (fun M2 k a r e h2 hr => ?_)
      have hk9 := pgL_bad hok9 _ _ _ _ _ hs0 e (by intro h9; subst h9; exact pg_no9 hok9 hs0 e)
      exact hbad n0 k a M41 M2 _ hn0 hn60 hnt h41 e hk9 h2 (law_r hr hk9.1.2)
    · refine pv_iconst (pc := 24) (v := 1) (by decide) (fm_dec dtX11_page 13 rfl) ?_
      refine pv_goto (pc := 25) 29 (by decide) (fm_dec dtX11_page 14 rfl) ?_
      refine pv_iconst (pc := 29) (v := 1) (by decide) (fm_dec dtX11_page 16 rfl) ?_
      refine pv_iconst (pc := 30) (v := 1) (by decide) (fm_dec dtX11_page 17 rfl) ?_
      refine pv_invV3 (k := 0) (d' := 0) (pc := 31) pcv_X11_177 (by decide) rfl (Nat.le_of_ble_eq_true rfl) (by decide) (fm_dec dtX11_page 18 rfl) ?_
      refine c_badT1 rfl (by decide) ?_
      refine pv_then1 ?_
      refine pv_if_eq (pc := 34) 39 (by decide) (fm_dec dtX11_page 19 rfl) (fun hc34 => by exfalso; revert hc34; decide) (fun _ => ?_)
      refine pv_iconst (pc := 37) (v := 0) (by decide) (fm_dec dtX11_page 20 rfl) ?_
      exact pv_ireturn (pc := 38) rfl (fm_dec dtX11_page 21 rfl) (href (by intro h9; first | exact h12 ⟨by have h8 : (0 : Int32).toInt = 0 := (by decide); rw [h8]; exact h9.1, h9.2.1⟩ | (rw [sc_le] at hc21; have h8 : (60 : Int32).toInt = 60 := (by decide); omega)))
  · refine pv_then1 ?_
    refine pv_if_eq (pc := 15) 24 (by decide) (fm_dec dtX11_page 9 rfl) (fun _ => ?_) (fun hc15 => by exfalso; revert hc15; decide)
    refine pv_iconst (pc := 24) (v := 1) (by decide) (fm_dec dtX11_page 13 rfl) ?_
    refine pv_goto (pc := 25) 29 (by decide) (fm_dec dtX11_page 14 rfl) ?_
    refine pv_iconst (pc := 29) (v := 1) (by decide) (fm_dec dtX11_page 16 rfl) ?_
    refine pv_iconst (pc := 30) (v := 1) (by decide) (fm_dec dtX11_page 17 rfl) ?_
    refine pv_invV3 (k := 0) (d' := 0) (pc := 31) pcv_X11_177 (by decide) rfl (Nat.le_of_ble_eq_true rfl) (by decide) (fm_dec dtX11_page 18 rfl) ?_
    refine c_badT1 rfl (by decide) ?_
    refine pv_then1 ?_
    refine pv_if_eq (pc := 34) 39 (by decide) (fm_dec dtX11_page 19 rfl) (fun hc34 => by exfalso; revert hc34; decide) (fun _ => ?_)
    refine pv_iconst (pc := 37) (v := 0) (by decide) (fm_dec dtX11_page 20 rfl) ?_
    exact pv_ireturn (pc := 38) rfl (fm_dec dtX11_page 21 rfl) (href (by intro h9; first | exact h12 ⟨by have h8 : (0 : Int32).toInt = 0 := (by decide); rw [h8]; exact h9.1, h9.2.1⟩ | (rw [sc_le] at hc21; have h8 : (60 : Int32).toInt = 60 := (by decide); omega)))
