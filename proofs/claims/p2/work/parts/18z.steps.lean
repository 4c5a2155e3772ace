def pI (M M2 : fmM) : Prop := scInv Tx invX M ∧ scInv Tm invM M2 ∧ M.1 1 1 = M2.1 0 1
theorem pAll : laAll pI := sorry
theorem pI_0 {M M2 : fmM} (hx : xInit M) (hm : mInit M2) : pI M (m9 M2) := sorry
