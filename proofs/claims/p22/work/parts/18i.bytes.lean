-- THE BYTES
theorem xb_bt (x s : Int32) : bt (xb x s) ((x >>> (s &&& 31)) &&& 255).toInt := by
  generalize hy : x >>> (s &&& 31) = y
  unfold bt xb
  rw [hy, and255]
  have e : (vp_nar .byte y.toInt8.toInt32).toInt = y.toInt.bmod 256 := by
    have h1 : (vp_nar .byte y.toInt8.toInt32) = y.toInt8.toInt32.toInt8.toInt32 := rfl
    rw [h1, Int8.toInt8_toInt32, Int8.toInt_toInt32, Int32.toInt_toInt8]
  rw [e, Int.bmod_def]
  have h0 := Int.emod_nonneg y.toInt (show (256 : Int) ≠ 0 by decide)
  split <;> split <;> omega
theorem pt_at {M : fmM} {f j : Nat} {b : Int32} : (ptM M f b).1 2 j = if j = f then b else M.1 2 j := by
  unfold ptM
  rw [fmI_k _ _ (by decide), fmI_at]
  by_cases e : j = f
  · rw [if_pos ⟨rfl, e⟩, if_pos e]
  · rw [if_neg (fun h => e h.2), if_neg e]
theorem pu_at {M : fmM} {f j : Nat} {x : Int32} : (puM M f x).1 2 j = if j = f + 3 then xb x 0 else if j = f + 2 then xb x 8 else if j = f + 1 then xb x 16 else if j = f then xb x 24 else M.1 2 j := by
  unfold puM
  rw [pt_at, pt_at, pt_at, pt_at]
theorem pu_lo {M : fmM} {f j : Nat} {x : Int32} (h : j < f) : (puM M f x).1 2 j = M.1 2 j := by
  rw [pu_at, if_neg (by omega), if_neg (by omega), if_neg (by omega), if_neg (by omega)]
theorem fb_0 {a b c d e : Int32} : fdB a b c d e (nI 0) = a >>> ((24 : Int32) &&& 31) &&& 255 := by unfold fdB fdS; rw [if_neg (by decide), show (24 - 8 * (nI 0 - nI 0 / 4 * 4) : Int32) = 24 by decide]
theorem fb_1 {a b c d e : Int32} : fdB a b c d e (nI 1) = a >>> ((16 : Int32) &&& 31) &&& 255 := by unfold fdB fdS; rw [if_neg (by decide), show (24 - 8 * (nI 1 - nI 1 / 4 * 4) : Int32) = 16 by decide]
theorem fb_2 {a b c d e : Int32} : fdB a b c d e (nI 2) = a >>> ((8 : Int32) &&& 31) &&& 255 := by unfold fdB fdS; rw [if_neg (by decide), show (24 - 8 * (nI 2 - nI 2 / 4 * 4) : Int32) = 8 by decide]
theorem fb_3 {a b c d e : Int32} : fdB a b c d e (nI 3) = a >>> ((0 : Int32) &&& 31) &&& 255 := by unfold fdB fdS; rw [if_neg (by decide), show (24 - 8 * (nI 3 - nI 3 / 4 * 4) : Int32) = 0 by decide]
theorem fb_4 {a b c d e : Int32} : fdB a b c d e (nI 4) = b >>> ((24 : Int32) &&& 31) &&& 255 := by unfold fdB fdS; rw [if_pos (by decide), if_neg (by decide), show (24 - 8 * (nI 4 - nI 4 / 4 * 4) : Int32) = 24 by decide]
theorem fb_5 {a b c d e : Int32} : fdB a b c d e (nI 5) = b >>> ((16 : Int32) &&& 31) &&& 255 := by unfold fdB fdS; rw [if_pos (by decide), if_neg (by decide), show (24 - 8 * (nI 5 - nI 5 / 4 * 4) : Int32) = 16 by decide]
theorem fb_6 {a b c d e : Int32} : fdB a b c d e (nI 6) = b >>> ((8 : Int32) &&& 31) &&& 255 := by unfold fdB fdS; rw [if_pos (by decide), if_neg (by decide), show (24 - 8 * (nI 6 - nI 6 / 4 * 4) : Int32) = 8 by decide]
theorem fb_7 {a b c d e : Int32} : fdB a b c d e (nI 7) = b >>> ((0 : Int32) &&& 31) &&& 255 := by unfold fdB fdS; rw [if_pos (by decide), if_neg (by decide), show (24 - 8 * (nI 7 - nI 7 / 4 * 4) : Int32) = 0 by decide]
theorem fb_8 {a b c d e : Int32} : fdB a b c d e (nI 8) = c >>> ((24 : Int32) &&& 31) &&& 255 := by unfold fdB fdS; rw [if_pos (by decide), if_pos (by decide), if_neg (by decide), show (24 - 8 * (nI 8 - nI 8 / 4 * 4) : Int32) = 24 by decide]
theorem fb_9 {a b c d e : Int32} : fdB a b c d e (nI 9) = c >>> ((16 : Int32) &&& 31) &&& 255 := by unfold fdB fdS; rw [if_pos (by decide), if_pos (by decide), if_neg (by decide), show (24 - 8 * (nI 9 - nI 9 / 4 * 4) : Int32) = 16 by decide]
theorem fb_10 {a b c d e : Int32} : fdB a b c d e (nI 10) = c >>> ((8 : Int32) &&& 31) &&& 255 := by unfold fdB fdS; rw [if_pos (by decide), if_pos (by decide), if_neg (by decide), show (24 - 8 * (nI 10 - nI 10 / 4 * 4) : Int32) = 8 by decide]
theorem fb_11 {a b c d e : Int32} : fdB a b c d e (nI 11) = c >>> ((0 : Int32) &&& 31) &&& 255 := by unfold fdB fdS; rw [if_pos (by decide), if_pos (by decide), if_neg (by decide), show (24 - 8 * (nI 11 - nI 11 / 4 * 4) : Int32) = 0 by decide]
theorem fb_12 {a b c d e : Int32} : fdB a b c d e (nI 12) = d >>> ((24 : Int32) &&& 31) &&& 255 := by unfold fdB fdS; rw [if_pos (by decide), if_pos (by decide), if_pos (by decide), if_neg (by decide), show (24 - 8 * (nI 12 - nI 12 / 4 * 4) : Int32) = 24 by decide]
theorem fb_13 {a b c d e : Int32} : fdB a b c d e (nI 13) = d >>> ((16 : Int32) &&& 31) &&& 255 := by unfold fdB fdS; rw [if_pos (by decide), if_pos (by decide), if_pos (by decide), if_neg (by decide), show (24 - 8 * (nI 13 - nI 13 / 4 * 4) : Int32) = 16 by decide]
theorem fb_14 {a b c d e : Int32} : fdB a b c d e (nI 14) = d >>> ((8 : Int32) &&& 31) &&& 255 := by unfold fdB fdS; rw [if_pos (by decide), if_pos (by decide), if_pos (by decide), if_neg (by decide), show (24 - 8 * (nI 14 - nI 14 / 4 * 4) : Int32) = 8 by decide]
theorem fb_15 {a b c d e : Int32} : fdB a b c d e (nI 15) = d >>> ((0 : Int32) &&& 31) &&& 255 := by unfold fdB fdS; rw [if_pos (by decide), if_pos (by decide), if_pos (by decide), if_neg (by decide), show (24 - 8 * (nI 15 - nI 15 / 4 * 4) : Int32) = 0 by decide]
theorem fb_16 {a b c d e : Int32} : fdB a b c d e (nI 16) = e >>> ((24 : Int32) &&& 31) &&& 255 := by unfold fdB fdS; rw [if_pos (by decide), if_pos (by decide), if_pos (by decide), if_pos (by decide), show (24 - 8 * (nI 16 - nI 16 / 4 * 4) : Int32) = 24 by decide]
theorem fb_17 {a b c d e : Int32} : fdB a b c d e (nI 17) = e >>> ((16 : Int32) &&& 31) &&& 255 := by unfold fdB fdS; rw [if_pos (by decide), if_pos (by decide), if_pos (by decide), if_pos (by decide), show (24 - 8 * (nI 17 - nI 17 / 4 * 4) : Int32) = 16 by decide]
theorem fb_18 {a b c d e : Int32} : fdB a b c d e (nI 18) = e >>> ((8 : Int32) &&& 31) &&& 255 := by unfold fdB fdS; rw [if_pos (by decide), if_pos (by decide), if_pos (by decide), if_pos (by decide), show (24 - 8 * (nI 18 - nI 18 / 4 * 4) : Int32) = 8 by decide]
theorem fb_19 {a b c d e : Int32} : fdB a b c d e (nI 19) = e >>> ((0 : Int32) &&& 31) &&& 255 := by unfold fdB fdS; rw [if_pos (by decide), if_pos (by decide), if_pos (by decide), if_pos (by decide), show (24 - 8 * (nI 19 - nI 19 / 4 * 4) : Int32) = 0 by decide]
/-- the same bytes stand on both tapes -/
def byR (M M2 : fmM) (f : Nat) : Prop := ∀ i, i < f → bt (M.1 2 i) (M2.1 1 i).toInt
theorem by_feed {M M2 M2' : fmM} {f : Nat} {a b c d e : Int32} (h : byR M M2 f) (hr : feR (fmI M2 0 0 0) M2' f 0 (fun i => fdB a b c d e (nI i))) : byR (puM (puM (puM (puM (puM M f a) (f + 4) b) (f + 4 + 4) c) (f + 4 + 4 + 4) d) (f + 4 + 4 + 4 + 4) e) M2' (f + 20) := by
  intro i hi
  by_cases hf : i < f
  · rw [pu_lo (by omega), pu_lo (by omega), pu_lo (by omega), pu_lo (by omega), pu_lo hf, hr.2.2.1 1 i (by omega) (by omega), fmI_k _ _ (by decide)]
    exact h i hf
  · obtain ⟨t, rfl⟩ : ∃ t, i = f + t := ⟨i - f, by omega⟩
    rw [hr.2.1 t (Nat.zero_le _) (by omega)]
    rcases (show t = 0 ∨ t = 1 ∨ t = 2 ∨ t = 3 ∨ t = 4 ∨ t = 5 ∨ t = 6 ∨ t = 7 ∨ t = 8 ∨ t = 9 ∨ t = 10 ∨ t = 11 ∨ t = 12 ∨ t = 13 ∨ t = 14 ∨ t = 15 ∨ t = 16 ∨ t = 17 ∨ t = 18 ∨ t = 19 by omega) with rfl | rfl | rfl | rfl | rfl | rfl | rfl | rfl | rfl | rfl | rfl | rfl | rfl | rfl | rfl | rfl | rfl | rfl | rfl | rfl
    · show bt _ (fdB a b c d e (nI 0)).toInt
      rw [pu_lo (by omega), pu_lo (by omega), pu_lo (by omega), pu_lo (by omega), pu_at, if_neg (by omega), if_neg (by omega), if_neg (by omega), if_pos (by omega), fb_0]
      exact xb_bt a 24
    · show bt _ (fdB a b c d e (nI 1)).toInt
      rw [pu_lo (by omega), pu_lo (by omega), pu_lo (by omega), pu_lo (by omega), pu_at, if_neg (by omega), if_neg (by omega), if_pos (by omega), fb_1]
      exact xb_bt a 16
    · show bt _ (fdB a b c d e (nI 2)).toInt
      rw [pu_lo (by omega), pu_lo (by omega), pu_lo (by omega), pu_lo (by omega), pu_at, if_neg (by omega), if_pos (by omega), fb_2]
      exact xb_bt a 8
    · show bt _ (fdB a b c d e (nI 3)).toInt
      rw [pu_lo (by omega), pu_lo (by omega), pu_lo (by omega), pu_lo (by omega), pu_at, if_pos (by omega), fb_3]
      exact xb_bt a 0
    · show bt _ (fdB a b c d e (nI 4)).toInt
      rw [pu_lo (by omega), pu_lo (by omega), pu_lo (by omega), pu_at, if_neg (by omega), if_neg (by omega), if_neg (by omega), if_pos (by omega), fb_4]
      exact xb_bt b 24
    · show bt _ (fdB a b c d e (nI 5)).toInt
      rw [pu_lo (by omega), pu_lo (by omega), pu_lo (by omega), pu_at, if_neg (by omega), if_neg (by omega), if_pos (by omega), fb_5]
      exact xb_bt b 16
    · show bt _ (fdB a b c d e (nI 6)).toInt
      rw [pu_lo (by omega), pu_lo (by omega), pu_lo (by omega), pu_at, if_neg (by omega), if_pos (by omega), fb_6]
      exact xb_bt b 8
    · show bt _ (fdB a b c d e (nI 7)).toInt
      rw [pu_lo (by omega), pu_lo (by omega), pu_lo (by omega), pu_at, if_pos (by omega), fb_7]
      exact xb_bt b 0
    · show bt _ (fdB a b c d e (nI 8)).toInt
      rw [pu_lo (by omega), pu_lo (by omega), pu_at, if_neg (by omega), if_neg (by omega), if_neg (by omega), if_pos (by omega), fb_8]
      exact xb_bt c 24
    · show bt _ (fdB a b c d e (nI 9)).toInt
      rw [pu_lo (by omega), pu_lo (by omega), pu_at, if_neg (by omega), if_neg (by omega), if_pos (by omega), fb_9]
      exact xb_bt c 16
    · show bt _ (fdB a b c d e (nI 10)).toInt
      rw [pu_lo (by omega), pu_lo (by omega), pu_at, if_neg (by omega), if_pos (by omega), fb_10]
      exact xb_bt c 8
    · show bt _ (fdB a b c d e (nI 11)).toInt
      rw [pu_lo (by omega), pu_lo (by omega), pu_at, if_pos (by omega), fb_11]
      exact xb_bt c 0
    · show bt _ (fdB a b c d e (nI 12)).toInt
      rw [pu_lo (by omega), pu_at, if_neg (by omega), if_neg (by omega), if_neg (by omega), if_pos (by omega), fb_12]
      exact xb_bt d 24
    · show bt _ (fdB a b c d e (nI 13)).toInt
      rw [pu_lo (by omega), pu_at, if_neg (by omega), if_neg (by omega), if_pos (by omega), fb_13]
      exact xb_bt d 16
    · show bt _ (fdB a b c d e (nI 14)).toInt
      rw [pu_lo (by omega), pu_at, if_neg (by omega), if_pos (by omega), fb_14]
      exact xb_bt d 8
    · show bt _ (fdB a b c d e (nI 15)).toInt
      rw [pu_lo (by omega), pu_at, if_pos (by omega), fb_15]
      exact xb_bt d 0
    · show bt _ (fdB a b c d e (nI 16)).toInt
      rw [pu_at, if_neg (by omega), if_neg (by omega), if_neg (by omega), if_pos (by omega), fb_16]
      exact xb_bt e 24
    · show bt _ (fdB a b c d e (nI 17)).toInt
      rw [pu_at, if_neg (by omega), if_neg (by omega), if_pos (by omega), fb_17]
      exact xb_bt e 16
    · show bt _ (fdB a b c d e (nI 18)).toInt
      rw [pu_at, if_neg (by omega), if_pos (by omega), fb_18]
      exact xb_bt e 8
    · show bt _ (fdB a b c d e (nI 19)).toInt
      rw [pu_at, if_pos (by omega), fb_19]
      exact xb_bt e 0
