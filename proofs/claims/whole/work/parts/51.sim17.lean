/-! A STEP, of class and model -/
section SIM17
variable {a b a' b' rc cc r v p k t g c s : Nat} {σ τ σ' τ' : fmS}
theorem rAll_mv (hA : rAll a b rc cc σ τ) (hcc : cc ≤ 14) (h1 : ∀ c k, k < cc → 50 ≤ c ∧ c ≤ 60 ∧ c ≠ 58 → σ' c a' k 0 = σ c a k 0) (h2 : ∀ c k j, k < cc → j < 4 → 10 ≤ c ∧ c ≤ 13 → σ' c a' k j = σ c a k j) (h3 : ∀ c, 43 ≤ c ∧ c ≤ 46 → σ' c a' 0 0 = σ c a 0 0) (h4 : ∀ r, r < rc → σ' 47 a' r 0 = σ 47 a r 0) (h5 : ∀ c j, c = 2 ∨ c = 3 → σ' c 0 0 j = σ c 0 0 j) (h6 : ∀ c j, j < 14 → 24 ≤ c ∧ c ≤ 33 ∧ c ≠ 25 → τ' c b' 0 j = τ c b 0 j) (h7 : ∀ j, j < 56 → τ' 25 b' 0 j = τ 25 b 0 j) (h8 : ∀ c, c = 65 ∨ c = 66 → τ' c b' 0 0 = τ c b 0 0) (h9 : ∀ c j, 15 ≤ c ∧ c ≤ 21 → τ' c 0 0 j = τ c 0 0 j) : rAll a' b' rc cc σ' τ' := by
  obtain ⟨hM, hS, hZ, hT, hQ⟩ := hA
  refine ⟨fun i hi => ?_, fun i hi => ?_, ⟨fun i e1 e2 => ?_, fun i e1 e2 => ?_⟩, ⟨?_, ?_, ?_, ?_⟩, fun r hr => ?_, fun i hi => ⟨?_, fun g hg => ⟨?_, ?_, ?_⟩⟩, fun j hj => ⟨?_, ?_⟩⟩
  · rw [h6 26 i (by omega) (by decide), h6 27 i (by omega) (by decide), h6 28 i (by omega) (by decide), h1 52 i hi (by decide), h1 53 i hi (by decide), h1 54 i hi (by decide)]
    exact hM i hi
  · obtain ⟨s1, s2, s3, s4, s5, s6, s7⟩ := hS i hi
    rw [h6 24 i (by omega) (by decide), h6 29 i (by omega) (by decide), h6 30 i (by omega) (by decide), h6 31 i (by omega) (by decide), h6 32 i (by omega) (by decide), h6 33 i (by omega) (by decide), h1 50 i hi (by decide), h1 55 i hi (by decide), h1 56 i hi (by decide), h1 57 i hi (by decide), h1 59 i hi (by decide), h1 60 i hi (by decide)]
    exact ⟨s1, fun g hg => by rw [h7 _ (by omega), h2 10 i g hi hg (by decide)]; exact s2 g hg, s3, s4, s5, s6, s7⟩
  · rw [h6 24 i (by omega) (by decide), h6 30 i (by omega) (by decide), h6 31 i (by omega) (by decide)]
    exact hZ.1 i e1 e2
  · rw [h7 i e2]; exact hZ.2 i e1 e2
  · rw [h8 65 (by decide), h3 43 (by decide)]; exact hT.1
  · rw [h8 66 (by decide), h3 44 (by decide)]; exact hT.2.1
  · rw [h3 45 (by decide), hT.2.2.1]; exact sum_congr 14 (fun i hi => (h6 30 i hi (by decide)).symm)
  · rw [h3 46 (by decide), hT.2.2.2]; exact sum_congr 14 (fun i hi => (h6 31 i hi (by decide)).symm)
  · rw [h9 15 _ (by decide), h4 r hr]; exact hQ.1 r hr
  · rw [h9 18 _ (by decide), h1 51 i hi (by decide)]; exact (hQ.2.1 i hi).1
  · rw [h9 19 _ (by decide), h2 11 i g hi hg (by decide)]; exact ((hQ.2.1 i hi).2 g hg).1
  · rw [h9 20 _ (by decide), h2 12 i g hi hg (by decide)]; exact ((hQ.2.1 i hi).2 g hg).2.1
  · rw [h9 21 _ (by decide), h2 13 i g hi hg (by decide)]; exact ((hQ.2.1 i hi).2 g hg).2.2
  · rw [h9 16 _ (by decide), h5 2 _ (by decide)]; exact (hQ.2.2 j hj).1
  · rw [h9 17 _ (by decide), h5 3 _ (by decide)]; exact (hQ.2.2 j hj).2
theorem rAll_ext (hA : rAll a b rc cc σ τ) (hcc : cc ≤ 14) (hσ : ∀ c k, (10 ≤ c ∧ c ≤ 13) ∨ (43 ≤ c ∧ c ≤ 60 ∧ c ≠ 58) → σ' c a k = σ c a k) (h5 : ∀ c, c = 2 ∨ c = 3 → σ' c 0 0 = σ c 0 0) (hτ : ∀ c, (24 ≤ c ∧ c ≤ 33) ∨ c = 65 ∨ c = 66 → τ' c b 0 = τ c b 0) (h9 : ∀ c, 15 ≤ c ∧ c ≤ 21 → τ' c 0 0 = τ c 0 0) : rAll a b rc cc σ' τ' :=
  rAll_mv hA hcc (fun c k hk h => by rw [hσ c k (by omega)]) (fun c k j hk hj h => by rw [hσ c k (by omega)]) (fun c h => by rw [hσ c 0 (by omega)]) (fun r hr => by rw [hσ 47 r (by decide)]) (fun c j h => by rw [h5 c h]) (fun c j hj h => by rw [hτ c (by omega)]) (fun j hj => by rw [hτ 25 (by decide)]) (fun c h => by rw [hτ c (by omega)]) (fun c j h => by rw [h9 c h])
/-- no canoe has drifted in a step that is still to come -/
def rL (a cc t : Nat) (σ : fmS) : Prop := ∀ k, k < cc → σ 58 a k 0 = -1 ∨ ∃ u, u < t ∧ σ 58 a k 0 = nI u
theorem rL_ne (hL : rL a cc t σ) (ht : t < 2 ^ 30) (hk : k < cc) : σ 58 a k 0 ≠ nI t := by
  intro q
  rcases hL k hk with e | ⟨u, h1, e⟩
  · exact fm_nI_ne t (by omega) (q.symm.trans e)
  · have := fm_nI_inj (q.symm.trans e) (by omega) (by omega)
    omega
theorem DR_58 {w : Int32} (i : Nat) : fmDR a rc t w r σ 58 a i 0 = σ 58 a i 0 ∨ fmDR a rc t w r σ 58 a i 0 = nI t := by
  unfold fmDR
  split
  · exact Or.inl rfl
  · split
    · unfold fmDrift
      rw [drE_58]
      split
      · exact Or.inr rfl
      · refine Or.inl ?_
        unfold fmDr2
        split
        · rw [unf_c _ _ _ _ _ _ _ (by decide)]
        · rw [fast_c _ _ _ _ _ (by decide), unf_c _ _ _ _ _ _ _ (by decide)]
    · exact Or.inl rfl
theorem it_inv {P : fmS → Prop} {f : Nat → fmS → fmS} (h : ∀ i σ, P σ → P (f i σ)) {σ : fmS} (h0 : P σ) : ∀ n, P (fmIt f σ n)
  | 0 => h0
  | n + 1 => h n _ (it_inv h h0 n)
theorem rL_step (hL : rL a cc t σ) : rL a cc (t + 1) (fmStep a rc cc t σ) := by
  have h0 : rL a cc (t + 1) σ := fun k hk => (hL k hk).imp id (fun ⟨u, h1, h2⟩ => ⟨u, by omega, h2⟩)
  have h1 : rL a cc (t + 1) (fmIt (fmDR a rc t (σ 3 0 0 (t % 24))) σ rc) := it_inv (P := rL a cc (t + 1)) (fun i σ h k hk => by
    rcases DR_58 (a := a) (rc := rc) (t := t) (r := i) (σ := σ) (w := _) k with e | e
    · rw [e]; exact h k hk
    · exact Or.inr ⟨t, by omega, e⟩) h0 rc
  have h2 := it_inv (P := rL a cc (t + 1)) (f := fmLv a t) (fun i σ h k hk => by
    have e : fmLv a t i σ 58 a k 0 = σ 58 a k 0 := by
      unfold fmLv
      split
      · rw [unf_c _ _ _ _ _ _ _ (by decide)]
      · rfl
    rw [e]; exact h k hk) h1 cc
  have h3 := it_inv (P := rL a cc (t + 1)) (f := fmTd a rc) (fun i σ h k hk => by rw [Td_c (by decide)]; exact h k hk) h2 cc
  intro k hk
  unfold fmStep
  rw [fmu_c _ _ _ _ _ (by decide)]
  exact h3 k hk
/-- good, alike, and no drift ahead -/
def rGo (a b rc cc t : Nat) (σ τ : fmS) : Prop := fmGood a rc cc t σ ∧ rAll a b rc cc σ τ ∧ rL a cc t σ
theorem step_all (h : rGo a b rc cc t σ τ) (ht : t + 1 < 2 ^ 30) : rGo a b rc cc (t + 1) (fmStep a rc cc t σ) (gStep b rc cc t τ) := by
  obtain ⟨hg, hA, hL⟩ := h
  have hcc : cc ≤ 14 := hg.1.2.1
  have hA0 : rAll a b rc cc σ (gDid τ cc) := rAll_ext hA hcc (fun c k h => rfl) (fun c h => rfl) (fun c h => gDid_c (by omega) _ _) (fun c h => gDid_c (by omega) _ _)
  have hD0 : rD a cc t σ (gDid τ cc) := fun k hk => by
    rw [gDid, fmu_self, gZ, if_pos hk, if_neg (rL_ne hL (by omega) hk)]
  have hw : σ 3 0 0 (t % 24) = gDid τ cc 17 0 0 (t % 24) := (hA0.2.2.2.2.2.2 (t % 24) (Nat.mod_lt _ (by decide))).2.symm
  obtain ⟨g1, A1⟩ := drs_all hg hA0 hD0 hw
  obtain ⟨g2, A2⟩ := lvs_all g1 A1
  obtain ⟨g3, A3⟩ := tds_all g2 A2
  refine ⟨good_step hg ht, ?_, rL_step hL⟩
  unfold fmStep gStep gP3 gP2 gP1
  exact rAll_ext A3 hcc (fun c k h => fmu_c _ _ _ _ _ (by omega) _ _) (fun c h => fmu_c _ _ _ _ _ (by omega) _ _) (fun c h => fmu_c _ _ _ _ _ (by omega) _ _) (fun c h => fmu_c _ _ _ _ _ (by omega) _ _)
theorem pass_all (h : rGo a b rc cc t σ τ) : ∀ n, t + n < 2 ^ 30 → rGo a b rc cc (t + n) (fmPass a rc cc t σ n) (gPass b rc cc t τ n)
  | 0, _ => h
  | n + 1, hn => step_all (pass_all h n (by omega)) (by omega)
end SIM17
