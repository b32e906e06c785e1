section SIM15
variable {a b rc cc r v p k t g c s : Nat} {σ τ : fmS}
theorem fmTr_44 : fmTr σ a c s g 44 a 0 0 = σ 44 a 0 0 + σ 11 a s g := by
  rw [fmTr, fmu_self]
theorem gTr_65 : gTr τ b c s g 65 b 0 0 = τ 65 b 0 0 + 1 := by
  rw [gTr, gTr4, fmu_c _ _ _ _ _ (by decide), fmu_self, gTr3, fmu_c _ _ _ _ _ (by decide), fmu_c _ _ _ _ _ (by decide), gTr2, fmu_c _ _ _ _ _ (by decide), fmu_c _ _ _ _ _ (by decide), gTr1, fmu_c _ _ _ _ _ (by decide), fmu_c _ _ _ _ _ (by decide)]
theorem gTr_66 : gTr τ b c s g 66 b 0 0 = τ 66 b 0 0 + τ 19 0 0 (4 * s + g) := by
  rw [gTr, gTr4, fmu_self, gTr3, fmu_c _ _ _ _ _ (by decide), fmu_c _ _ _ _ _ (by decide), gTr2, fmu_c _ _ _ _ _ (by decide), fmu_c _ _ _ _ _ (by decide), gTr1, fmu_c _ _ _ _ _ (by decide), fmu_c _ _ _ _ _ (by decide)]
end SIM15
