/-! THE CHANGES THAT CALLS MAKE -/
section SIM21
variable {a b rc cc r v p k t t' g c s n : Nat} {σ τ σ' τ' σ1 τ1 u u' : fmS} {x y z w : Int32}
theorem upd2 (f h : Nat → Int32) {i j n m : Nat} (e : f i = h j) (hij : i = n ↔ j = m) : upd f n x i = upd h m x j := by
  by_cases q : i = n
  · rw [q, hij.mp q, fm_upd_same, fm_upd_same]
  · rw [fm_upd_ne _ _ q, fm_upd_ne _ _ (fun q2 => q (hij.mpr q2)), e]
/-- a load -/
theorem ld_all (hA : rAll a b rc cc σ τ) (hcc : cc ≤ 14) (hk : k < cc) (hg : g < 4) : rAll a b rc cc (fmu σ 10 a k (upd (σ 10 a k) g x)) (fmu τ 25 b 0 (upd (τ 25 b 0) (4 * k + g) x)) := by
  obtain ⟨hM, hS, hZ, hT, hQ⟩ := hA
  have tc : ∀ c m n, c ≠ 25 → fmu τ 25 b 0 (upd (τ 25 b 0) (4 * k + g) x) c m n = τ c m n := fun c m n h => fmu_c _ _ _ _ _ h _ _
  have sc : ∀ c m n, c ≠ 10 → fmu σ 10 a k (upd (σ 10 a k) g x) c m n = σ c m n := fun c m n h => fmu_c _ _ _ _ _ h _ _
  refine ⟨fun i hi => ?_, fun i hi => ?_, ⟨fun i h1 h2 => ?_, fun i h1 h2 => ?_⟩, ⟨?_, ?_, ?_, ?_⟩, rQ_of hQ (fun c m n h => sc c m n (by omega)) (fun c m n h => tc c m n (by omega))⟩
  · rw [tc 26 _ _ (by decide), tc 27 _ _ (by decide), tc 28 _ _ (by decide), sc 52 _ _ (by decide), sc 53 _ _ (by decide), sc 54 _ _ (by decide)]
    exact hM i hi
  · obtain ⟨s1, s2, s3, s4, s5, s6, s7⟩ := hS i hi
    rw [tc 24 _ _ (by decide), tc 29 _ _ (by decide), tc 30 _ _ (by decide), tc 31 _ _ (by decide), tc 32 _ _ (by decide), tc 33 _ _ (by decide), sc 50 _ _ (by decide), sc 55 _ _ (by decide), sc 56 _ _ (by decide), sc 57 _ _ (by decide), sc 59 _ _ (by decide), sc 60 _ _ (by decide), fmu_self]
    refine ⟨s1, fun h hh => ?_, s3, s4, s5, s6, s7⟩
    by_cases e : i = k
    · subst e
      rw [fmu_self]
      exact upd2 _ _ (s2 h hh) (by omega)
    · rw [fmu_ne _ _ _ _ _ (fun q => e q.2.2), fm_upd_ne _ _ (by omega)]
      exact s2 h hh
  · obtain ⟨z1, z2, z3⟩ := hZ.1 i h1 h2
    rw [tc 24 _ _ (by decide), tc 30 _ _ (by decide), tc 31 _ _ (by decide)]
    exact ⟨z1, z2, z3⟩
  · rw [fmu_self, fm_upd_ne _ _ (by omega)]; exact hZ.2 i h1 h2
  · rw [tc 65 _ _ (by decide), sc 43 _ _ (by decide)]; exact hT.1
  · rw [tc 66 _ _ (by decide), sc 44 _ _ (by decide)]; exact hT.2.1
  · rw [sc 45 _ _ (by decide), tc 30 _ _ (by decide)]; exact hT.2.2.1
  · rw [sc 46 _ _ (by decide), tc 31 _ _ (by decide)]; exact hT.2.2.2
/-- told when to leave -/
theorem li_all (hA : rAll a b rc cc σ τ) (hk : k < cc) : rAll a b rc cc (fmu σ 55 a k (fun _ => x)) (fmu τ 29 b 0 (upd (τ 29 b 0) k x)) := by
  obtain ⟨hM, hS, hZ, hT, hQ⟩ := hA
  have tc : ∀ c m n, c ≠ 29 → fmu τ 29 b 0 (upd (τ 29 b 0) k x) c m n = τ c m n := fun c m n h => fmu_c _ _ _ _ _ h _ _
  have sc : ∀ c m n, c ≠ 55 → fmu σ 55 a k (fun _ => x) c m n = σ c m n := fun c m n h => fmu_c _ _ _ _ _ h _ _
  refine ⟨fun i hi => ?_, fun i hi => ?_, ⟨fun i h1 h2 => ?_, fun i h1 h2 => ?_⟩, ⟨?_, ?_, ?_, ?_⟩, rQ_of hQ (fun c m n h => sc c m n (by omega)) (fun c m n h => tc c m n (by omega))⟩
  · rw [tc 26 _ _ (by decide), tc 27 _ _ (by decide), tc 28 _ _ (by decide), sc 52 _ _ (by decide), sc 53 _ _ (by decide), sc 54 _ _ (by decide)]
    exact hM i hi
  · obtain ⟨s1, s2, s3, s4, s5, s6, s7⟩ := hS i hi
    rw [tc 24 _ _ (by decide), tc 25 _ _ (by decide), tc 30 _ _ (by decide), tc 31 _ _ (by decide), tc 32 _ _ (by decide), tc 33 _ _ (by decide), sc 50 _ _ (by decide), sc 10 _ _ (by decide), sc 56 _ _ (by decide), sc 57 _ _ (by decide), sc 59 _ _ (by decide), sc 60 _ _ (by decide), fmu_self]
    refine ⟨s1, s2, ?_, s4, s5, s6, s7⟩
    by_cases e : i = k
    · subst e
      rw [fmu_self, fm_upd_same]
    · rw [fmu_ne _ _ _ _ _ (fun q => e q.2.2), fm_upd_ne _ _ e]
      exact s3
  · obtain ⟨z1, z2, z3⟩ := hZ.1 i h1 h2
    rw [tc 24 _ _ (by decide), tc 30 _ _ (by decide), tc 31 _ _ (by decide)]
    exact ⟨z1, z2, z3⟩
  · rw [tc 25 _ _ (by decide)]; exact hZ.2 i h1 h2
  · rw [tc 65 _ _ (by decide), sc 43 _ _ (by decide)]; exact hT.1
  · rw [tc 66 _ _ (by decide), sc 44 _ _ (by decide)]; exact hT.2.1
  · rw [sc 45 _ _ (by decide), tc 30 _ _ (by decide)]; exact hT.2.2.1
  · rw [sc 46 _ _ (by decide), tc 31 _ _ (by decide)]; exact hT.2.2.2
/-- rows and canoes unchanged, the tables of both changed alike -/
theorem rQ_all (hA : rAll a b rc cc σ τ) (hcc : cc ≤ 14) (hσ : ∀ c k, c = 10 ∨ (43 ≤ c ∧ c ≤ 46) ∨ (50 ≤ c ∧ c ≤ 60 ∧ c ≠ 51 ∧ c ≠ 58) → σ' c a k = σ c a k) (hτ : ∀ c, (24 ≤ c ∧ c ≤ 33) ∨ c = 65 ∨ c = 66 → τ' c b 0 = τ c b 0) (hQ : rQ a rc cc σ' τ') : rAll a b rc cc σ' τ' := by
  obtain ⟨hM, hS, hZ, hT, -⟩ := hA
  refine ⟨fun i hi => ?_, fun i hi => ?_, ⟨fun i h1 h2 => ?_, fun i h1 h2 => ?_⟩, ⟨?_, ?_, ?_, ?_⟩, hQ⟩
  · rw [hτ 26 (by decide), hτ 27 (by decide), hτ 28 (by decide), hσ 52 _ (by decide), hσ 53 _ (by decide), hσ 54 _ (by decide)]
    exact hM i hi
  · rw [hτ 24 (by decide), hτ 25 (by decide), hτ 29 (by decide), hτ 30 (by decide), hτ 31 (by decide), hτ 32 (by decide), hτ 33 (by decide), hσ 50 _ (by decide), hσ 10 _ (by decide), hσ 55 _ (by decide), hσ 56 _ (by decide), hσ 57 _ (by decide), hσ 59 _ (by decide), hσ 60 _ (by decide)]
    exact hS i hi
  · rw [hτ 24 (by decide), hτ 30 (by decide), hτ 31 (by decide)]
    exact hZ.1 i h1 h2
  · rw [hτ 25 (by decide)]; exact hZ.2 i h1 h2
  · rw [hτ 65 (by decide), hσ 43 _ (by decide)]; exact hT.1
  · rw [hτ 66 (by decide), hσ 44 _ (by decide)]; exact hT.2.1
  · rw [hσ 45 _ (by decide), hτ 30 (by decide)]; exact hT.2.2.1
  · rw [hσ 46 _ (by decide), hτ 31 (by decide)]; exact hT.2.2.2
theorem off0_off : gOff0 (gOff τ b k cc) b k 0 = gOff τ b k cc := by
  have e : gOff τ b k cc 26 b 0 k = 0 := by
    rw [gOff, gOff1_c _ _ _ _ (by decide), gOff0, fmu_self, fm_upd_same]
  have e2 : upd (gOff τ b k cc 26 b 0) k 0 = gOff τ b k cc 26 b 0 := by
    funext i
    by_cases q : i = k
    · rw [q, fm_upd_same, e]
    · rw [fm_upd_ne _ _ q]
  rw [gOff0, e2, fmu_id]
end SIM21
