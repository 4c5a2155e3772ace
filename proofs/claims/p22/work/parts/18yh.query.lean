-- QUERIES
theorem glueV {P : Prop} {v : fmR} {r r2 : fmR} {M : fmM} (hv : ∃ x, v = .inl x) (h : (P ∧ r = v) ∨ (¬ P ∧ r = .inr fmIAE)) (h2 : (P ∧ r2 = v ∧ M.1 0 0 = 0) ∨ (¬ P ∧ M.1 0 0 = 1)) : mtI 1 0 r r2 M := by
  obtain ⟨x, rfl⟩ := hv
  rcases h with ⟨p, rfl⟩ | ⟨p, rfl⟩
  · rcases h2 with ⟨_, e, t⟩ | ⟨q, _⟩
    · exact ⟨t, e⟩
    · exact absurd p q
  · rcases h2 with ⟨q, _⟩ | ⟨_, t⟩
    · exact absurd q p
    · exact ⟨fun _ => t, fun h => absurd h (by decide)⟩
/-- all that the first side's queries read -/
def xAq (M : fmM) (D : dD) (cs : tC) (S : aS) : Prop := dOk D ∧ xdw 3 M D ∧ lwX M cs ∧ xst M D S ∧ stO D S
theorem xAq.low {M M' : fmM} {D : dD} {cs : tC} {S : aS} (h : xAq M D cs S) (hk : ∀ k j, k ≠ 26 → M'.1 k j = M.1 k j) (h2 : M'.2 = M.2) : xAq M' D cs S := ⟨h.1, h.2.1.of (fun k j a b => hk k j (by omega)), h.2.2.1.f (hk 23 3 (by decide)) (fun i => hk 24 i (by decide)), h.2.2.2.1.low hk h2, h.2.2.2.2⟩
/-- and the other's -/
def mAq (M : fmM) (D : dD) (cs : tC) (S : aS) : Prop := dOk D ∧ mdw M D ∧ lwM M cs ∧ (cs = [] ∨ dpB 23 0 cs = some 1) ∧ mst M D S ∧ stO D S
theorem mAq.low {M M' : fmM} {D : dD} {cs : tC} {S : aS} (h : mAq M D cs S) (hk : ∀ k j, k ≠ 0 → k ≠ 5 → k ≠ 6 → M'.1 k j = M.1 k j) (h0 : M'.1 0 17 = M.1 0 17) : mAq M' D cs S := ⟨h.1, h.2.1.k h.1 (fun k j a => hk k j (by omega) (by omega) (by omega)), h.2.2.1.f h0 (fun k j a => hk k j (by omega) (by omega) (by omega)), h.2.2.2.1, h.2.2.2.2.1.of (fun j => hk 7 j (by decide) (by decide) (by decide)), h.2.2.2.2.2⟩
theorem mAq.z {M : fmM} {D : dD} {cs : tC} {S : aS} {x : Int32} (h : mAq M D cs S) : mAq (fmI M 0 0 x) D cs S := h.low (fun k j a _ _ => by rw [fmI_k _ _ a]) (by rw [fmI_j _ _ (by decide)])
theorem inL.n {D : dD} {x : Int32} (hD : dOk D) (h : inL D x) : ∃ i : Nat, i < D.1 ∧ x = nI i ∧ x.toInt.toNat = i := by
  have d8 := hD.1
  obtain ⟨h1, h2⟩ := h
  exact ⟨x.toInt.toNat, by omega, nI_is (by omega) (by omega), rfl⟩
/-- the first n of them, as bits -/
def bS (F : Nat → Bool) : Nat → Nat
  | 0 => 0
  | n + 1 => if F n = true then bS F n ||| 1 <<< n else bS F n
theorem bS_t {F : Nat → Bool} {n : Nat} (h : F n = true) : bS F (n + 1) = bS F n ||| 1 <<< n := if_pos h
theorem bS_n {F : Nat → Bool} {n : Nat} (h : F n = false) : bS F (n + 1) = bS F n := if_neg (by rw [h]; decide)
theorem or8k : ∀ w, w < 256 → ∀ k, k < 8 → w ||| 1 <<< k < 256 := by decide +kernel
theorem bS_8 {F : Nat → Bool} : ∀ n, n ≤ 8 → bS F n < 256 := by
  intro n
  induction n with
  | zero => intro _; exact (by decide : (0 : Nat) < 256)
  | succ n ih =>
    intro hn
    have h1 := ih (by omega)
    cases h : F n with
    | false =>
      rw [bS_n h]
      exact h1
    | true =>
      rw [bS_t h]
      exact or8k _ h1 n (by omega)
theorem ag_b {D : dD} {S : aS} {i : Nat} (ho : stO D S) (hi : i < D.1) : -1 ≤ S.2 i ∧ S.2 i ≤ 240 := by
  have h1 := ho.2.2.2.2.2.2.1 i hi
  have h2 := ho.1
  omega
/-- the piece's age, as it stands on the first side -/
theorem ag_x {M : fmM} {D : dD} {S : aS} {i : Nat} (hs : xst M D S) (hi : i < D.1) : (M.1 48 i).toInt = S.2 i := hs.2.2.2.2.2.2 i hi
theorem ag_n {M : fmM} {D : dD} {S : aS} {i : Nat} (hs : xst M D S) (ho : stO D S) (hi : i < D.1) (h : ¬ M.1 48 i = -1) : M.1 48 i = nI (S.2 i).toNat ∧ ¬ S.2 i = -1 := by
  have h1 := ag_x hs hi
  have h2 := ag_b ho hi
  have zm : (-1 : Int32).toInt = -1 := by decide
  have h3 : ¬ S.2 i = -1 := fun e => h (i32_ext (by omega))
  exact ⟨nI_is (by omega) (by omega), h3⟩
theorem ag_m {M : fmM} {D : dD} {S : aS} {i : Nat} (hs : xst M D S) (hi : i < D.1) (h : M.1 48 i = -1) : S.2 i = -1 := by
  have h1 := ag_x hs hi
  rw [h] at h1
  exact h1.symm.trans (by decide)
