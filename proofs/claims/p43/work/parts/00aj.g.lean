-- P 10gd
section
-- THE CHECKER: one state within another
abbrev scB : Type := List (Option scA)
def scM1 (env : List scI) (p a : scA) (B : scB) : Option scB := match p.1 with
  | none => if decide ((scIv env a).1 = p.2) && decide ((scIv env a).2 = p.2) then some B else none
  | some n => match B[n]? with
    | some none => some (B.set n (some (a.1, a.2 - p.2)))
    | some (some b) => if b = (a.1, a.2 - p.2) then some B else none
    | none => none
def scMv (env : List scI) (p a : scV) (B : scB) : Option scB := match p with
  | .inl p => match a with
    | .inl a => scM1 env p a B
    | .inr _ => none
  | .inr (.inl o) => match a with
    | .inr (.inl o') => if scSub o' o then some B else none
    | _ => none
  | .inr (.inr (.inl ks)) => match a with
    | .inr (.inr (.inl ks')) => if ks'.all (fun k => ks.contains k) then some B else none
    | _ => none
  | .inr (.inr (.inr i)) => match a with
    | .inr (.inr (.inr i')) => if i = i' then some B else none
    | _ => none
/-- what is bound stays bound -/
def scBl (B B' : scB) : Prop := ∀ (n : Nat) (b : scA), B[n]? = some (some b) → B'[n]? = some (some b)
/-- what is bound has a value -/
def scBg (σ : List Int) (B : scB) : Prop := ∀ (n : Nat) (b : scA), B[n]? = some (some b) → ∃ x, scEv σ b x
/-- the unknowns of the pattern are what they are bound to -/
def scBk (σ : List Int) (B : scB) (ρ : List Int) : Prop := ∀ (n : Nat) (b : scA), B[n]? = some (some b) → ∃ x, ρ[n]? = some x ∧ scEv σ b x
theorem scBl.refl (B : scB) : scBl B B := fun _ _ h => h
theorem scBl.trans {B B' B'' : scB} (h : scBl B B') (h' : scBl B' B'') : scBl B B'' := fun n b q => h' n b (h n b q)
theorem scM1_ok {env : List scI} {σ : List Int} {p a : scA} {B B' : scB} {x : Int} (h : scEk env σ) (ha : scEv σ a x) (hB : scBg σ B) (hm : scM1 env p a B = some B') : scBl B B' ∧ scBg σ B' ∧ ∀ (Bf : scB) (ρ : List Int), scBl B' Bf → scBk σ Bf ρ → scEv ρ p x := by
  obtain ⟨o, c⟩ := p
  cases o with
  | none =>
    simp only [scM1] at hm
    split at hm
    · rename_i hc
      simp only [Bool.and_eq_true, decide_eq_true_eq] at hc
      cases hm
      refine ⟨scBl.refl _, hB, fun Bf ρ _ _ => ?_⟩
      have := ha.iv h
      show x = c
      omega
    · cases hm
  | some n =>
    have hshift : ∀ (ρ : List Int) (y : Int), ρ[n]? = some y → scEv σ (a.1, a.2 - c) y → scEv ρ (some n, c) x := by
      intro ρ y hy he
      refine ⟨y, hy, ?_⟩
      show x = y + c
      obtain ⟨oa, ca⟩ := a
      cases oa with
      | none =>
        have e1 : x = ca := ha
        have e2 : y = ca - c := he
        omega
      | some i =>
        obtain ⟨v, hv, e1⟩ := ha
        obtain ⟨w, hw, e2⟩ := he
        rw [hv] at hw
        cases hw
        simp only at e1 e2
        omega
    have hval : ∃ y, scEv σ (a.1, a.2 - c) y := by
      obtain ⟨oa, ca⟩ := a
      cases oa with
      | none => exact ⟨ca - c, rfl⟩
      | some i =>
        obtain ⟨v, hv, e1⟩ := ha
        exact ⟨v + (ca - c), v, hv, rfl⟩
    simp only [scM1] at hm
    split at hm
    · rename_i hn
      cases hm
      have hlt : n < B.length := (List.getElem?_eq_some_iff.mp hn).1
      refine ⟨fun q b hq => ?_, fun q b hq => ?_, fun Bf ρ hl hk => ?_⟩
      · rw [List.getElem?_set]
        by_cases e : n = q
        · subst e
          rw [hn] at hq
          cases hq
        · simp only [e, if_false]
          exact hq
      · rw [List.getElem?_set] at hq
        by_cases e : n = q
        · subst e
          simp only [if_true, hlt] at hq
          cases hq
          exact hval
        · simp only [e, if_false] at hq
          exact hB q b hq
      · have h1 : (B.set n (some (a.1, a.2 - c)))[n]? = some (some (a.1, a.2 - c)) := by simp [hlt]
        obtain ⟨y, hy, he⟩ := hk n _ (hl n _ h1)
        exact hshift ρ y hy he
    · rename_i b hn
      split at hm
      · rename_i hb
        cases hm
        refine ⟨scBl.refl _, hB, fun Bf ρ hl hk => ?_⟩
        obtain ⟨y, hy, he⟩ := hk n _ (hl n _ hn)
        rw [hb] at he
        exact hshift ρ y hy he
      · cases hm
    · cases hm
theorem scMv_ok {env : List scI} {σ : List Int} {p a : scV} {B B' : scB} {w : Value} (h : scEk env σ) (ha : scVk σ a w) (hB : scBg σ B) (hm : scMv env p a B = some B') : scBl B B' ∧ scBg σ B' ∧ ∀ (Bf : scB) (ρ : List Int), scBl B' Bf → scBk σ Bf ρ → scVk ρ p w := by
  match p, a, ha, hm with
  | .inl p, .inl a, ⟨n, e, ha⟩, hm =>
    obtain ⟨h1, h2, h3⟩ := scM1_ok h ha hB hm
    exact ⟨h1, h2, fun Bf ρ hl hk => ⟨n, e, h3 Bf ρ hl hk⟩⟩
  | .inr (.inl o), .inr (.inl o'), ⟨n, e, ha⟩, hm =>
    simp only [scMv] at hm
    split at hm
    · rename_i ho
      cases hm
      exact ⟨scBl.refl _, hB, fun Bf ρ hl hk => ⟨n, e, scSub_ok ho ha⟩⟩
    · cases hm
  | .inr (.inr (.inl ks)), .inr (.inr (.inl ks')), ⟨k, hk, e⟩, hm =>
    simp only [scMv] at hm
    split at hm
    · rename_i ho
      cases hm
      refine ⟨scBl.refl _, hB, fun Bf ρ hl _ => ⟨k, ?_, e⟩⟩
      exact List.contains_iff_mem.mp (List.all_eq_true.mp ho k hk)
    · cases hm
  | .inr (.inr (.inr i)), .inr (.inr (.inr i')), ha, hm =>
    simp only [scMv] at hm
    split at hm
    · rename_i ho
      cases hm
      refine ⟨scBl.refl _, hB, fun Bf ρ hl _ => ?_⟩
      subst ho
      exact ha
    · cases hm
  | .inl _, .inr _, _, hm => cases hm
  | .inr (.inl _), .inl _, _, hm => cases hm
  | .inr (.inl _), .inr (.inr _), _, hm => cases hm
  | .inr (.inr (.inl _)), .inl _, _, hm => cases hm
  | .inr (.inr (.inl _)), .inr (.inl _), _, hm => cases hm
  | .inr (.inr (.inl _)), .inr (.inr (.inr _)), _, hm => cases hm
  | .inr (.inr (.inr _)), .inl _, _, hm => cases hm
  | .inr (.inr (.inr _)), .inr (.inl _), _, hm => cases hm
  | .inr (.inr (.inr _)), .inr (.inr (.inl _)), _, hm => cases hm
def scMl (env : List scI) : List scV → List scV → scB → Option scB
  | [], [], B => some B
  | p :: ps, a :: as, B => (scMv env p a B).bind (scMl env ps as)
  | _, _, _ => none
theorem scMl_ok {env : List scI} {σ : List Int} (h : scEk env σ) : ∀ {ps as : List scV} {B B' : scB} {st : List Value}, scSk σ as st → scBg σ B → scMl env ps as B = some B' → scBl B B' ∧ scBg σ B' ∧ ∀ (Bf : scB) (ρ : List Int), scBl B' Bf → scBk σ Bf ρ → scSk ρ ps st
  | [], [], B, B', [], _, hB, hm => by
    cases hm
    exact ⟨scBl.refl _, hB, fun _ _ _ _ => trivial⟩
  | p :: ps, a :: as, B, B', w :: st, hs, hB, hm => by
    simp only [scMl] at hm
    obtain ⟨B1, h1, h2⟩ := Option.bind_eq_some_iff.mp hm
    obtain ⟨a1, a2, a3⟩ := scMv_ok h hs.1 hB h1
    obtain ⟨b1, b2, b3⟩ := scMl_ok h hs.2 a2 h2
    exact ⟨a1.trans b1, b2, fun Bf ρ hl hk => ⟨a3 Bf ρ (b1.trans hl) hk, b3 Bf ρ hl hk⟩⟩
  | [], [], _, _, _ :: _, hs, _, _ => hs.elim
  | _ :: _, _ :: _, _, _, [], hs, _, _ => hs.elim
  | [], _ :: _, _, _, _, _, _, hm => by cases hm
  | _ :: _, [], _, _, _, _, _, hm => by cases hm
def scMo (env : List scI) : List (Option scV) → List (Option scV) → scB → Option scB
  | [], [], B => some B
  | none :: ps, _ :: as, B => scMo env ps as B
  | some p :: ps, some a :: as, B => (scMv env p a B).bind (scMo env ps as)
  | _, _, _ => none
theorem scLk.nil {σ : List Int} : scLk σ [] [] := ⟨rfl, fun i => by simp [scOk]⟩
theorem scLk.cons {σ : List Int} {v : Option scV} {w : Option Value} {Λ : List (Option scV)} {L : List (Option Value)} (h : scOk σ v w) (h' : scLk σ Λ L) : scLk σ (v :: Λ) (w :: L) := by
  refine ⟨by simp [h'.1], fun i => ?_⟩
  cases i with
  | zero => simpa using h
  | succ i => simpa using h'.2 i
theorem scLk.tail {σ : List Int} {v : Option scV} {w : Option Value} {Λ : List (Option scV)} {L : List (Option Value)} (h : scLk σ (v :: Λ) (w :: L)) : scOk σ v w ∧ scLk σ Λ L := by
  refine ⟨by simpa using h.2 0, by simpa using h.1, fun i => by simpa using h.2 (i + 1)⟩
theorem scMo_ok {env : List scI} {σ : List Int} (h : scEk env σ) : ∀ {ps as : List (Option scV)} {B B' : scB} {L : List (Option Value)}, scLk σ as L → scBg σ B → scMo env ps as B = some B' → scBl B B' ∧ scBg σ B' ∧ ∀ (Bf : scB) (ρ : List Int), scBl B' Bf → scBk σ Bf ρ → scLk ρ ps L
  | [], [], B, B', [], hL, hB, hm => by
    cases hm
    exact ⟨scBl.refl _, hB, fun _ _ _ _ => scLk.nil⟩
  | none :: ps, a :: as, B, B', w :: L, hL, hB, hm => by
    obtain ⟨b1, b2, b3⟩ := scMo_ok h hL.tail.2 hB hm
    exact ⟨b1, b2, fun Bf ρ hl hk => scLk.cons trivial (b3 Bf ρ hl hk)⟩
  | some p :: ps, some a :: as, B, B', w :: L, hL, hB, hm => by
    simp only [scMo] at hm
    obtain ⟨B1, h1, h2⟩ := Option.bind_eq_some_iff.mp hm
    have ht := hL.tail
    cases w with
    | none => exact ht.1.elim
    | some w =>
      obtain ⟨a1, a2, a3⟩ := scMv_ok (w := w) h ht.1 hB h1
      obtain ⟨b1, b2, b3⟩ := scMo_ok h ht.2 a2 h2
      exact ⟨a1.trans b1, b2, fun Bf ρ hl hk => scLk.cons (v := some p) (w := some w) (a3 Bf ρ (b1.trans hl) hk) (b3 Bf ρ hl hk)⟩
  | [], [], _, _, _ :: _, hL, _, _ => by have := hL.1; simp at this
  | none :: _, _ :: _, _, _, [], hL, _, _ => by have := hL.1; simp at this
  | some _ :: _, some _ :: _, _, _, [], hL, _, _ => by have := hL.1; simp at this
  | [], _ :: _, _, _, _, _, _, hm => by cases hm
  | none :: _, [], _, _, _, _, _, hm => by cases hm
  | some _ :: _, [], _, _, _, _, _, hm => by cases hm
  | some _ :: _, none :: _, _, _, _, _, _, hm => by cases hm
/-- what a pattern knows of memory is read -/
def scLd (T : fmT) (inv : Nat → List scI) : List scF → List scI → List scF → Option (List scI × List scF)
  | [], env, F => some (env, F)
  | f :: fs, env, F => if Nat.blt f.1.2 (T.2.2.1 f.1.1) then scLd T inv fs (scRead inv env F f.1.1 f.1.2).1.2 (scRead inv env F f.1.1 f.1.2).2 else none
theorem scLd_ok {T : fmT} {inv : Nat → List scI} {M : fmM} (hI : scInv T inv M) : ∀ {fs : List scF} {env env' : List scI} {σ : List Int} {F F' : List scF}, scEk env σ → scFk σ F M → scLd T inv fs env F = some (env', F') → ∃ τ : List Int, scEk env' (σ ++ τ) ∧ scFk (σ ++ τ) F' M
  | [], env, env', σ, F, F', h, hF, hl => by
    cases hl
    exact ⟨[], by simpa using h, by simpa using hF⟩
  | f :: fs, env, env', σ, F, F', h, hF, hl => by
    simp only [scLd] at hl
    split at hl
    · rename_i hb
      obtain ⟨τ, h1, h2, h3⟩ := scRead_ok (T := T) (k := f.1.1) (j := f.1.2) h hF hI (by simpa using hb)
      obtain ⟨τ', h4, h5⟩ := scLd_ok hI h1 h3 hl
      exact ⟨τ ++ τ', by rw [← List.append_assoc]; exact h4, by rw [← List.append_assoc]; exact h5⟩
    · cases hl
def scMf (env : List scI) (F : List scF) : List scF → scB → Option scB
  | [], B => some B
  | f :: fs, B => match F.find? (fun g => g.1.1 == f.1.1 && g.1.2 == f.1.2) with
    | some g => (scM1 env f.2 g.2 B).bind (scMf env F fs)
    | none => none
theorem scMf_ok {env : List scI} {σ : List Int} {F : List scF} {M : fmM} (h : scEk env σ) (hF : scFk σ F M) : ∀ {fs : List scF} {B B' : scB}, scBg σ B → scMf env F fs B = some B' → scBl B B' ∧ scBg σ B' ∧ ∀ (Bf : scB) (ρ : List Int), scBl B' Bf → scBk σ Bf ρ → scFk ρ fs M
  | [], B, B', hB, hm => by
    cases hm
    exact ⟨scBl.refl _, hB, fun _ _ _ _ f hf => by cases hf⟩
  | f :: fs, B, B', hB, hm => by
    simp only [scMf] at hm
    split at hm
    · rename_i g hg
      have h1 := List.find?_some hg
      have h2 := hF g (List.mem_of_find?_eq_some hg)
      simp only [Bool.and_eq_true, beq_iff_eq] at h1
      rw [h1.1, h1.2] at h2
      obtain ⟨B1, q1, q2⟩ := Option.bind_eq_some_iff.mp hm
      obtain ⟨a1, a2, a3⟩ := scM1_ok h h2 hB q1
      obtain ⟨b1, b2, b3⟩ := scMf_ok h hF a2 q2
      refine ⟨a1.trans b1, b2, fun Bf ρ hl hk f' hf' => ?_⟩
      rcases List.mem_cons.mp hf' with e | hf'
      · subst e
        exact a3 Bf ρ (b1.trans hl) hk
      · exact b3 Bf ρ hl hk f' hf'
    · cases hm
/-- all is bound, within the pattern's bounds -/
def scBe (env : List scI) : scB → List scI → Bool
  | [], [] => true
  | some b :: B, e :: es => scSub (scIv env b) e && scBe env B es
  | _, _ => false
def scVal (σ : List Int) (b : Option scA) : Int := match b with
  | none => 0
  | some b => match b.1 with
    | none => b.2
    | some i => σ.getD i 0 + b.2
theorem scVal_ok {σ : List Int} {b : scA} {x : Int} (h : scEv σ b x) : scVal σ (some b) = x := by
  obtain ⟨o, c⟩ := b
  cases o with
  | none => exact Eq.symm h
  | some i =>
    obtain ⟨v, hv, e⟩ := h
    simp only [scVal, List.getD, hv, Option.getD_some]
    exact e.symm
theorem scBe_ok {env : List scI} {σ : List Int} (h : scEk env σ) : ∀ {B : scB} {es : List scI}, scBg σ B → scBe env B es = true → scEk es (B.map (scVal σ))
  | [], [], _, _ => ⟨rfl, fun i e x he => by simp at he⟩
  | some b :: B, e :: es, hB, hm => by
    simp only [scBe, Bool.and_eq_true] at hm
    have ih := scBe_ok h (B := B) (es := es) (fun n b' hb => hB (n + 1) b' (by simpa using hb)) hm.2
    obtain ⟨x, hx⟩ := hB 0 b rfl
    refine ⟨by simp [ih.1], fun i e' x' he hx' => ?_⟩
    cases i with
    | zero =>
      simp at he hx'
      subst he
      subst hx'
      rw [scVal_ok hx]
      exact scSub_ok hm.1 (hx.iv h)
    | succ i =>
      simp only [List.getElem?_cons_succ, List.map_cons] at he hx'
      exact ih.2 i e' x' he hx'
  | [], _ :: _, _, hm => by cases hm
  | none :: _, _, _, hm => by simp [scBe] at hm
  | some _ :: _, [], _, hm => by cases hm
theorem scBk.of {σ : List Int} {B : scB} (h : scBg σ B) : scBk σ B (B.map (scVal σ)) := by
  intro n b hb
  obtain ⟨x, hx⟩ := h n b hb
  exact ⟨x, by simp [hb, scVal_ok hx], hx⟩
/-- state s within the pattern p -/
def scInc (T : fmT) (inv : Nat → List scI) (s p : scS) : Option (List scI × List scF × scB) := match scLd T inv p.2.2.2 s.1 s.2.2.2 with
  | none => none
  | some (env, F) => ((scMo env p.2.1 s.2.1 (List.replicate p.1.length none)).bind (fun B => (scMl env p.2.2.1 s.2.2.1 B).bind (fun B => scMf env F p.2.2.2 B))).bind (fun B => if scBe env B p.1 then some (env, F, B) else none)
theorem scInc_ok {T : fmT} {inv : Nat → List scI} {s p : scS} {σ : List Int} {L : List (Option Value)} {st : List Value} {M : fmM} {env : List scI} {F : List scF} {B : scB} (h : scEk s.1 σ) (hL : scLk σ s.2.1 L) (hS : scSk σ s.2.2.1 st) (hF : scFk σ s.2.2.2 M) (hI : scInv T inv M) (hm : scInc T inv s p = some (env, F, B)) :
    ∃ τ : List Int, scEk env (σ ++ τ) ∧ scFk (σ ++ τ) F M ∧ scBg (σ ++ τ) B ∧ scEk p.1 (B.map (scVal (σ ++ τ))) ∧ scLk (B.map (scVal (σ ++ τ))) p.2.1 L ∧ scSk (B.map (scVal (σ ++ τ))) p.2.2.1 st ∧ scFk (B.map (scVal (σ ++ τ))) p.2.2.2 M := by
  unfold scInc at hm
  split at hm
  · cases hm
  · rename_i env1 F1 hl
    obtain ⟨τ, k1, k2⟩ := scLd_ok hI h hF hl
    obtain ⟨B1, q1, q2⟩ := Option.bind_eq_some_iff.mp hm
    split at q2
    · rename_i hbe
      cases q2
      obtain ⟨B2, r1, r2⟩ := Option.bind_eq_some_iff.mp q1
      obtain ⟨B3, r3, r4⟩ := Option.bind_eq_some_iff.mp r2
      have hB0 : scBg (σ ++ τ) (List.replicate p.1.length none) := by
        intro n b hb
        rw [List.getElem?_replicate] at hb
        split at hb <;> cases hb
      obtain ⟨a1, a2, a3⟩ := scMo_ok k1 hL.mono hB0 r1
      obtain ⟨b1, b2, b3⟩ := scMl_ok k1 hS.mono a2 r3
      obtain ⟨c1, c2, c3⟩ := scMf_ok k1 k2 b2 r4
      have hk := scBk.of c2
      exact ⟨τ, k1, k2, c2, scBe_ok k1 c2 hbe, a3 _ _ (b1.trans c1) hk, b3 _ _ c1 hk, c3 _ _ (scBl.refl _) hk⟩
    · cases q2
end
