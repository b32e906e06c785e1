section SIM12
variable {a b rc cc r v p k t g c s : Nat} {σ τ : fmS}
theorem ms_eq (hA : rAll a b rc cc σ τ) (hc : c < cc) (hg : g < 4) : gMs τ b c g = fmMs σ a c g := by
  rw [gMs, fmMs, ((hA.2.2.2.2.2.1 c hc).2 g hg).2.1, (hA.2.1 c hc).2.1 g hg]
theorem ms_pos : 0 < fmMs σ a c g ↔ ¬ fmMs σ a c g = 0 := by
  rw [fmMs]
  by_cases h : 0 < σ 12 a c g - σ 10 a c g
  · rw [if_pos h]
    refine ⟨fun q e => ?_, fun _ => h⟩
    rw [e] at q
    exact Int32.lt_irrefl q
  · rw [if_neg h]
    exact ⟨fun q => (Int32.lt_irrefl q).elim, fun q => absurd rfl q⟩
theorem ix4 {c g s h : Nat} (hg : g < 4) (hh : h < 4) : 4 * c + g = 4 * s + h ↔ c = s ∧ g = h := by omega
/-- the columns of a trade, the class's -/
theorem fmTr_c {x : Nat} (h : x ≠ 10 ∧ x ≠ 50 ∧ x ≠ 59 ∧ x ≠ 60 ∧ x ≠ 43 ∧ x ≠ 44) (m n : Nat) : fmTr σ a c s g x m n = σ x m n := trO_c (x := some s) h m n
theorem fmTr_50 (hne : s ≠ c) (i : Nat) : fmTr σ a c s g 50 a i 0 = if i = c then σ 50 a c 0 - σ 11 a s g else if i = s then σ 50 a s 0 + σ 11 a s g else σ 50 a i 0 := by
  rw [fmTr, fmu_c _ _ _ _ _ (by decide), fmu_c _ _ _ _ _ (by decide), fmTr2, fmu_c _ _ _ _ _ (by decide)]
  by_cases e : i = c
  · subst e
    rw [fmu_self, if_pos rfl, fmTr1, fmu_c _ _ _ _ _ (by decide), fmu_ne _ _ _ _ _ (fun q => hne q.2.2.symm), fmu_c _ _ _ _ _ (by decide)]
  · rw [fmu_ne _ _ _ _ _ (fun q => e q.2.2), fmu_c _ _ _ _ _ (by decide), if_neg e, fmTr1, fmu_c _ _ _ _ _ (by decide)]
    by_cases e2 : i = s
    · subst e2
      rw [fmu_self, if_pos rfl]
    · rw [fmu_ne _ _ _ _ _ (fun q => e2 q.2.2), fmu_c _ _ _ _ _ (by decide), if_neg e2]
theorem gTr_24 (hne : s ≠ c) (i : Nat) : gTr τ b c s g 24 b 0 i = if i = c then τ 24 b 0 c - τ 19 0 0 (4 * s + g) else if i = s then τ 24 b 0 s + τ 19 0 0 (4 * s + g) else τ 24 b 0 i := by
  rw [gTr, gTr4, fmu_c _ _ _ _ _ (by decide), fmu_c _ _ _ _ _ (by decide), gTr3, fmu_c _ _ _ _ _ (by decide), fmu_c _ _ _ _ _ (by decide), gTr2, fmu_c _ _ _ _ _ (by decide), fmu_c _ _ _ _ _ (by decide), gTr1, fmu_self]
  by_cases e : i = c
  · subst e
    rw [if_pos rfl, fm_upd_ne _ _ (Ne.symm hne), fm_upd_same]
  · rw [if_neg e]
    by_cases e2 : i = s
    · subst e2
      rw [if_pos rfl, fm_upd_same, fm_upd_ne _ _ hne]
    · rw [if_neg e2, fm_upd_ne _ _ e2, fm_upd_ne _ _ e]
end SIM12
