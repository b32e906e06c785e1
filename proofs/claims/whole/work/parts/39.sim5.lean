section SIM5
variable {a b rc cc r v p k t : Nat} {σ τ : fmS}
theorem drE_fast (a t k r v : Nat) (σ : fmS) : fmDrE a t k (fmFast σ a k r v) = fmFast (fmDrE a t k σ) a k r v := by
  funext x1 x2 x3 x4
  by_cases h1 : x1 = 57
  · subst h1; simp [fmDrE, fmFast, fmApp, fmu]
  by_cases h2 : x1 = 46
  · subst h2; simp [fmDrE, fmFast, fmApp, fmu]
  by_cases h3 : x1 = 58
  · subst h3; simp [fmDrE, fmFast, fmApp, fmu]
  by_cases h4 : x1 = 8
  · subst h4
    rw [fmFast, fmFast, fmApp, fmApp]
    simp only [fmDrE, fmu_c _ _ _ _ _ (show (8 : Nat) ≠ 48 by decide), fmu_c _ _ _ _ _ (show (8 : Nat) ≠ 52 by decide), fmu_c _ _ _ _ _ (show (8 : Nat) ≠ 53 by decide), fmu_c _ _ _ _ _ (show (8 : Nat) ≠ 54 by decide), fmu_c _ _ _ _ _ (show (8 : Nat) ≠ 57 by decide), fmu_c _ _ _ _ _ (show (8 : Nat) ≠ 46 by decide), fmu_c _ _ _ _ _ (show (8 : Nat) ≠ 58 by decide)]
    by_cases e : x2 = a ∧ x3 = r
    · rw [e.1, e.2, fmu_self, fmu_self]
    · rw [fmu_ne _ 8 a r _ (fun q => e q.2), fmu_ne _ 8 a r _ (fun q => e q.2)]
      simp only [fmu_c _ _ _ _ _ (show (8 : Nat) ≠ 52 by decide), fmu_c _ _ _ _ _ (show (8 : Nat) ≠ 53 by decide), fmu_c _ _ _ _ _ (show (8 : Nat) ≠ 54 by decide), fmu_c _ _ _ _ _ (show (8 : Nat) ≠ 57 by decide), fmu_c _ _ _ _ _ (show (8 : Nat) ≠ 46 by decide), fmu_c _ _ _ _ _ (show (8 : Nat) ≠ 58 by decide)]
  simp [fmDrE, fmFast, fmApp, fmu, h1, h2, h3, h4]
theorem drE_c {c : Nat} (h : c ≠ 57 ∧ c ≠ 46 ∧ c ≠ 58) (m n : Nat) : fmDrE a t k σ c m n = σ c m n := by
  rw [fmDrE, fmu_c _ _ _ _ _ h.2.2, fmu_c _ _ _ _ _ h.2.1, fmu_c _ _ _ _ _ h.1]
theorem sum_upd (f : Nat → Int32) {k : Nat} : ∀ n, k < n → fmSum (upd f k (f k + 1)) n = fmSum f n + 1
  | 0, h => absurd h (by omega)
  | n + 1, h => by
    rw [fmSum, fmSum]
    by_cases e : k = n
    · subst e
      rw [fm_upd_same, sum_congr k (fun i hi => fm_upd_ne _ _ (by omega)), Int32.add_assoc]
    · rw [fm_upd_ne _ _ (by omega), sum_upd f n (by omega), Int32.add_assoc, Int32.add_assoc, Int32.add_comm 1 (f n)]
/-- the notes of a drift -/
theorem drE_all (hcc : cc ≤ 14) (hk : k < cc) (hA : rAll a b rc cc σ (gOff0 τ b k 0)) : rAll a b rc cc (fmDrE a t k σ) (gDr1 τ b k) := by
  obtain ⟨hM, hS, hZ, hT, hQ⟩ := hA
  have tc : ∀ c m n, c ≠ 22 ∧ c ≠ 31 → gDr1 τ b k c m n = gOff0 τ b k 0 c m n := fun c m n h => by
    by_cases e : c = 26
    · subst e
      rw [gDr1, gOff0]
      by_cases e2 : m = b ∧ n = 0
      · rw [e2.1, e2.2, fmu_self, fmu_self]
      · rw [fmu_ne _ _ _ _ _ (fun q => e2 q.2), fmu_c _ _ _ _ _ (by decide), fmu_c _ _ _ _ _ (by decide), fmu_ne _ _ _ _ _ (fun q => e2 q.2)]
    · rw [gDr1_c ⟨h.1, h.2, e⟩, gOff0, fmu_c _ _ _ _ _ e]
  have e31 : gOff0 τ b k 0 31 b 0 = τ 31 b 0 := by rw [gOff0, fmu_c _ _ _ _ _ (by decide)]
  have t31 : gDr1 τ b k 31 b 0 = upd (τ 31 b 0) k (τ 31 b 0 k + 1) := by
    rw [gDr1, fmu_c _ _ _ _ _ (by decide), fmu_self]
  have sc : ∀ c m n, c ≠ 57 ∧ c ≠ 46 ∧ c ≠ 58 → fmDrE a t k σ c m n = σ c m n := fun c m n h => drE_c h m n
  have s57 : ∀ i, fmDrE a t k σ 57 a i 0 = if i = k then σ 57 a k 0 + 1 else σ 57 a i 0 := fun i => by
    rw [fmDrE, fmu_c _ _ _ _ _ (by decide), fmu_c _ _ _ _ _ (by decide)]
    by_cases e : i = k
    · rw [e, fmu_self, if_pos rfl]
    · rw [fmu_ne _ _ _ _ _ (fun q => e q.2.2), if_neg e]
  have s46 : fmDrE a t k σ 46 a 0 0 = σ 46 a 0 0 + 1 := by
    rw [fmDrE, fmu_c _ _ _ _ _ (by decide), fmu_self]
  refine ⟨fun i hi => ?_, fun i hi => ?_, ⟨fun i h1 h2 => ?_, fun i h1 h2 => ?_⟩, ⟨?_, ?_, ?_, ?_⟩, rQ_of hQ (fun c m n h => sc c m n (by omega)) (fun c m n h => tc c m n (by omega))⟩
  · rw [tc 26 _ _ (by decide), tc 27 _ _ (by decide), tc 28 _ _ (by decide), sc 52 _ _ (by decide), sc 53 _ _ (by decide), sc 54 _ _ (by decide)]
    exact hM i hi
  · obtain ⟨s1, s2, s3, s4, s5, s6, s7⟩ := hS i hi
    rw [tc 24 _ _ (by decide), tc 29 _ _ (by decide), tc 30 _ _ (by decide), tc 32 _ _ (by decide), tc 33 _ _ (by decide), sc 50 _ _ (by decide), sc 55 _ _ (by decide), sc 56 _ _ (by decide), sc 59 _ _ (by decide), sc 60 _ _ (by decide), t31, s57]
    refine ⟨s1, fun g hg => by rw [tc 25 _ _ (by decide), sc 10 _ _ (by decide)]; exact s2 g hg, s3, s4, ?_, s6, s7⟩
    rw [e31] at s5
    by_cases e : i = k
    · subst e; rw [fm_upd_same, if_pos rfl, s5]
    · rw [fm_upd_ne _ _ e, if_neg e, s5]
  · obtain ⟨z1, z2, z3⟩ := hZ.1 i h1 h2
    rw [e31] at z3
    rw [tc 24 _ _ (by decide), tc 30 _ _ (by decide), t31, fm_upd_ne _ _ (by omega)]
    exact ⟨z1, z2, z3⟩
  · rw [tc 25 _ _ (by decide)]; exact hZ.2 i h1 h2
  · rw [tc 65 _ _ (by decide), sc 43 _ _ (by decide)]; exact hT.1
  · rw [tc 66 _ _ (by decide), sc 44 _ _ (by decide)]; exact hT.2.1
  · rw [sc 45 _ _ (by decide), tc 30 _ _ (by decide)]; exact hT.2.2.1
  · rw [s46, t31, sum_upd _ 14 (by omega), hT.2.2.2, e31]
end SIM5
