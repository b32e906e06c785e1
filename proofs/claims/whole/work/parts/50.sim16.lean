section SIM16
variable {a b rc cc r v p k t g c s : Nat} {σ τ : fmS}
/-- a trade -/
theorem tr_all (hA : rAll a b rc cc σ τ) (hcc : cc ≤ 14) (hc : c < cc) (hs : s < cc) (hne : s ≠ c) (hg : g < 4) : rAll a b rc cc (fmTr σ a c s g) (gTr τ b c s g) := by
  obtain ⟨hM, hS, hZ, hT, hQ⟩ := hA
  have hx : τ 19 0 0 (4 * s + g) = σ 11 a s g := ((hQ.2.1 s hs).2 g hg).1
  have tc : ∀ x m n, x ≠ 24 ∧ x ≠ 25 ∧ x ≠ 32 ∧ x ≠ 33 ∧ x ≠ 65 ∧ x ≠ 66 → gTr τ b c s g x m n = τ x m n := fun x m n h => gTr_c h m n
  have sc : ∀ x m n, x ≠ 10 ∧ x ≠ 50 ∧ x ≠ 59 ∧ x ≠ 60 ∧ x ≠ 43 ∧ x ≠ 44 → fmTr σ a c s g x m n = σ x m n := fun x m n h => fmTr_c h m n
  refine ⟨fun i hi => ?_, fun i hi => ?_, ⟨fun i h1 h2 => ?_, fun i h1 h2 => ?_⟩, ⟨?_, ?_, ?_, ?_⟩, rQ_of hQ (fun c m n h => sc c m n (by omega)) (fun c m n h => tc c m n (by omega))⟩
  · rw [tc 26 _ _ (by decide), tc 27 _ _ (by decide), tc 28 _ _ (by decide), sc 52 _ _ (by decide), sc 53 _ _ (by decide), sc 54 _ _ (by decide)]
    exact hM i hi
  · obtain ⟨s1, s2, s3, s4, s5, s6, s7⟩ := hS i hi
    refine ⟨?_, fun h hh => ?_, ?_, ?_, ?_, ?_, ?_⟩
    · rw [fmTr_50 hne, gTr_24 hne, hx, (hS c hc).1, (hS s hs).1, s1]
    · rw [fmTr_10 hne, gTr_25 hne]
      by_cases e : i = c ∧ h = g
      · rw [if_pos ((ix4 hh hg).mpr e), if_pos e, (hS c hc).2.1 g hg]
      · rw [if_neg (fun q => e ((ix4 hh hg).mp q)), if_neg e]
        by_cases e2 : i = s ∧ h = g
        · rw [if_pos ((ix4 hh hg).mpr e2), if_pos e2, (hS s hs).2.1 g hg]
        · rw [if_neg (fun q => e2 ((ix4 hh hg).mp q)), if_neg e2, s2 h hh]
    · rw [tc 29 _ _ (by decide), sc 55 _ _ (by decide), s3]
    · rw [tc 30 _ _ (by decide), sc 56 _ _ (by decide), s4]
    · rw [tc 31 _ _ (by decide), sc 57 _ _ (by decide), s5]
    · rw [gTr_32, fmTr_59 hne, (hS s hs).2.2.2.2.2.1, s6]
    · rw [gTr_33, fmTr_60 hne, (hS c hc).2.2.2.2.2.2, s7]
  · obtain ⟨z1, z2, z3⟩ := hZ.1 i h1 h2
    rw [gTr_24 hne, if_neg (by omega), if_neg (by omega), tc 30 _ _ (by decide), tc 31 _ _ (by decide)]
    exact ⟨z1, z2, z3⟩
  · rw [gTr_25 hne, if_neg (by omega), if_neg (by omega)]
    exact hZ.2 i h1 h2
  · rw [gTr_65, fmTr_43, hT.1]
  · rw [gTr_66, fmTr_44, hx, hT.2.1]
  · rw [sc 45 _ _ (by decide), tc 30 _ _ (by decide)]; exact hT.2.2.1
  · rw [sc 46 _ _ (by decide), tc 31 _ _ (by decide)]; exact hT.2.2.2
theorem tg_all (hgd : fmGood a rc cc t σ) (hA : rAll a b rc cc σ τ) (hk : k < cc) (hs : σ 52 a k 0 = 1) (hg : g < 4) : rAll a b rc cc (fmTg a rc k g σ) (gTrade τ b k g cc) := by
  obtain ⟨⟨hrc, hcc, ht, h40, h41, h42⟩, hco⟩ := id hgd
  unfold fmTg gTrade
  rw [ms_eq hA hk hg]
  by_cases h0 : fmMs σ a k g = 0
  · rw [if_neg (fun q => ms_pos.mp q h0), if_pos h0]; exact hA
  · rw [if_pos (ms_pos.mpr h0), if_neg h0, best_eq hco hrc hcc hA hk hs hg]
    have hB := gBe_isB (τ := τ) (b := b) k g cc hcc
    rcases gBe_or τ b k g cc with e | ⟨s, hs2, e⟩
    · rw [e, if_pos rfl, if_pos rfl]; exact hA
    · rw [e, if_neg (fm_nI_ne s (by omega)), fm_cn (by omega)] at hB
      rw [e, if_neg (fm_nI_ne s (by omega)), if_neg (fm_nI_ne s (by omega)), fm_cn (by omega)]
      have hne : s ≠ k := by
        intro q
        subst q
        have h1 := hB.1.2.1.2.2
        rw [Int32.sub_self, Int32.sub_self] at h1
        exact absurd h1 (by decide)
      exact tr_all hA hcc hk hs2 hne hg
theorem td_all (hgd : fmGood a rc cc t σ) (hA : rAll a b rc cc σ τ) (hk : k < cc) : rAll a b rc cc (fmTd a rc k σ) (gTd b cc k τ) := by
  have m1 := (hA.1 k hk).1
  unfold fmTd gTd
  by_cases hs : σ 52 a k 0 = 1
  · rw [if_pos hs, if_pos (m1.trans hs)]
    exact (it_sim (N := 4) (P := fun σ τ => fmGood a rc cc t σ ∧ rAll a b rc cc σ τ ∧ σ 52 a k 0 = 1) (f := fmTg a rc k) (g := fun g τ => gTrade τ b k g cc)
      (fun i σ τ hi h => ⟨good_Tg h.1, tg_all h.1 h.2.1 hk h.2.2 hi, by rw [Tg_c (by decide)]; exact h.2.2⟩) ⟨hgd, hA, hs⟩ 4 (Nat.le_refl 4)).2.1
  · rw [if_neg hs, if_neg (fun q => hs (m1.symm.trans q))]
    exact hA
theorem tds_all (hgd : fmGood a rc cc t σ) (hA : rAll a b rc cc σ τ) : fmGood a rc cc t (fmIt (fmTd a rc) σ cc) ∧ rAll a b rc cc (fmIt (fmTd a rc) σ cc) (fmIt (gTd b cc) τ cc) :=
  it_sim (N := cc) (P := fun σ τ => fmGood a rc cc t σ ∧ rAll a b rc cc σ τ) (f := fmTd a rc) (g := gTd b cc) (fun i σ τ hi h => ⟨good_Td h.1, td_all h.1 h.2 hi⟩) ⟨hgd, hA⟩ cc (Nat.le_refl cc)
end SIM16
