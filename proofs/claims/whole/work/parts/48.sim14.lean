section SIM14
variable {a b rc cc r v p k t g c s : Nat} {σ τ : fmS}
theorem fmTr_10 (hne : s ≠ c) (i h : Nat) : fmTr σ a c s g 10 a i h = if i = c ∧ h = g then σ 10 a c g + 1 else if i = s ∧ h = g then σ 10 a s g - 1 else σ 10 a i h := by
  rw [fmTr, fmu_c _ _ _ _ _ (by decide), fmu_c _ _ _ _ _ (by decide), fmTr2, fmu_c _ _ _ _ _ (by decide), fmu_c _ _ _ _ _ (by decide)]
  have e1 : ∀ x, x ≠ s → fmTr1 σ a s g (σ 11 a s g) 10 a x = σ 10 a x := fun x hx => by
    rw [fmTr1, fmu_c _ _ _ _ _ (by decide), fmu_c _ _ _ _ _ (by decide), fmu_ne _ _ _ _ _ (fun q => hx q.2.2)]
  by_cases e : i = c
  · subst e
    rw [fmu_self, e1 i (Ne.symm hne)]
    by_cases e2 : h = g
    · subst e2; rw [fm_upd_same, if_pos ⟨rfl, rfl⟩]
    · rw [fm_upd_ne _ _ e2, if_neg (fun q => e2 q.2), if_neg (fun q => e2 q.2)]
  · rw [fmu_ne _ _ _ _ _ (fun q => e q.2.2), if_neg (fun q => e q.1)]
    by_cases e3 : i = s
    · subst e3
      rw [fmTr1, fmu_c _ _ _ _ _ (by decide), fmu_c _ _ _ _ _ (by decide), fmu_self]
      by_cases e2 : h = g
      · subst e2; rw [fm_upd_same, if_pos ⟨rfl, rfl⟩]
      · rw [fm_upd_ne _ _ e2, if_neg (fun q => e2 q.2)]
    · rw [e1 i e3, if_neg (fun q => e3 q.1)]
theorem gTr_25 (hne : s ≠ c) (i : Nat) : gTr τ b c s g 25 b 0 i = if i = 4 * c + g then τ 25 b 0 (4 * c + g) + 1 else if i = 4 * s + g then τ 25 b 0 (4 * s + g) - 1 else τ 25 b 0 i := by
  rw [gTr, gTr4, fmu_c _ _ _ _ _ (by decide), fmu_c _ _ _ _ _ (by decide), gTr3, fmu_c _ _ _ _ _ (by decide), fmu_c _ _ _ _ _ (by decide), gTr2, fmu_self, gTr1, fmu_c _ _ _ _ _ (by decide), fmu_c _ _ _ _ _ (by decide)]
  by_cases e : i = 4 * c + g
  · rw [if_pos e, fm_upd_ne _ _ (by omega), e, fm_upd_same]
  · rw [if_neg e]
    by_cases e2 : i = 4 * s + g
    · rw [if_pos e2, e2, fm_upd_same, fm_upd_ne _ _ (by omega)]
    · rw [if_neg e2, fm_upd_ne _ _ e2, fm_upd_ne _ _ e]
end SIM14
