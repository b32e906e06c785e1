section SIM13
variable {a b rc cc r v p k t g c s : Nat} {σ τ : fmS}
theorem fmTr_59 (hne : s ≠ c) (i : Nat) : fmTr σ a c s g 59 a i 0 = if i = s then σ 59 a s 0 + 1 else σ 59 a i 0 := by
  rw [fmTr, fmu_c _ _ _ _ _ (by decide), fmu_c _ _ _ _ _ (by decide), fmTr2_c (by decide) (by decide) (by decide), fmTr1]
  by_cases e : i = s
  · subst e
    rw [fmu_self, if_pos rfl]
  · rw [fmu_ne _ _ _ _ _ (fun q => e q.2.2), fmu_c _ _ _ _ _ (by decide), fmu_c _ _ _ _ _ (by decide), if_neg e]
theorem fmTr_60 (hne : s ≠ c) (i : Nat) : fmTr σ a c s g 60 a i 0 = if i = c then σ 60 a c 0 + 1 else σ 60 a i 0 := by
  rw [fmTr, fmu_c _ _ _ _ _ (by decide), fmu_c _ _ _ _ _ (by decide), fmTr2]
  by_cases e : i = c
  · subst e
    rw [fmu_self, if_pos rfl, fmTr1_c (by decide) (by decide) (by decide)]
  · rw [fmu_ne _ _ _ _ _ (fun q => e q.2.2), fmu_c _ _ _ _ _ (by decide), fmu_c _ _ _ _ _ (by decide), fmTr1_c (by decide) (by decide) (by decide), if_neg e]
theorem fmTr_43 : fmTr σ a c s g 43 a 0 0 = σ 43 a 0 0 + 1 := by
  rw [fmTr, fmu_c _ _ _ _ _ (by decide), fmu_self]
theorem gTr_32 (i : Nat) : gTr τ b c s g 32 b 0 i = if i = s then τ 32 b 0 s + 1 else τ 32 b 0 i := by
  rw [gTr, gTr4, fmu_c _ _ _ _ _ (by decide), fmu_c _ _ _ _ _ (by decide), gTr3, fmu_self, gTr2, fmu_c _ _ _ _ _ (by decide), fmu_c _ _ _ _ _ (by decide), gTr1, fmu_c _ _ _ _ _ (by decide), fmu_c _ _ _ _ _ (by decide)]
  by_cases e : i = s
  · subst e; rw [fm_upd_same, if_pos rfl]
  · rw [fm_upd_ne _ _ e, if_neg e]
theorem gTr_33 (i : Nat) : gTr τ b c s g 33 b 0 i = if i = c then τ 33 b 0 c + 1 else τ 33 b 0 i := by
  rw [gTr, gTr4, fmu_c _ _ _ _ _ (by decide), fmu_c _ _ _ _ _ (by decide), gTr3, fmu_c _ _ _ _ _ (by decide), fmu_self, gTr2, fmu_c _ _ _ _ _ (by decide), fmu_c _ _ _ _ _ (by decide), gTr1, fmu_c _ _ _ _ _ (by decide), fmu_c _ _ _ _ _ (by decide)]
  by_cases e : i = c
  · subst e; rw [fm_upd_same, if_pos rfl]
  · rw [fm_upd_ne _ _ e, if_neg e]
end SIM13
