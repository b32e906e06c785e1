section SIM10
variable {a b rc cc r v p k t g c : Nat} {σ τ : fmS}
theorem lim_iff {x : Int32} : x ≤ fmLim σ a c g ↔ ¬ σ 13 a c g < x ∧ ¬ σ 50 a c 0 < x := by
  rw [fmLim]
  by_cases h : σ 50 a c 0 < σ 13 a c g
  · rw [if_pos h]
    rw [Int32.lt_iff_toInt_lt] at h
    rw [Int32.le_iff_toInt_le, Int32.lt_iff_toInt_lt, Int32.lt_iff_toInt_lt]
    omega
  · rw [if_neg h]
    rw [Int32.lt_iff_toInt_lt] at h
    rw [Int32.le_iff_toInt_le, Int32.lt_iff_toInt_lt, Int32.lt_iff_toInt_lt]
    omega
theorem nb_iff (hco : fmCoh a rc cc σ) (hrc : rc ≤ 4) (hcc : cc ≤ 14) (hM : rM a b cc σ τ) (hc : c < cc) (hs : σ 52 a c 0 = 1) :
    (fmAt σ a rc (σ 53 a c 0) (σ 54 a c 0 - 1) = some k ∨ fmAt σ a rc (σ 53 a c 0) (σ 54 a c 0 + 1) = some k ∨ fmAt σ a rc (σ 53 a c 0 - 1) (σ 54 a c 0) = some k ∨ fmAt σ a rc (σ 53 a c 0 + 1) (σ 54 a c 0) = some k) ↔ k < cc ∧ gBes τ b c k := by
  obtain ⟨r, j, v, g1, g2, g3, g4, g5, g6, g7⟩ := hco.2 c hc hs
  obtain ⟨n1, n2, -⟩ := hM c hc
  rw [at_iff hco hrc hcc, at_iff hco hrc hcc, at_iff hco hrc hcc, at_iff hco hrc hcc, g5, g6]
  have mk : ∀ {r2 j2 : Nat}, r2 < rc → j2 < 6 → k < cc → σ 52 a k 0 = 1 → σ 53 a k 0 = nI r2 → σ 54 a k 0 = nI j2 → ((r2 = r ∧ (j2 + 1 = j ∨ j2 = j + 1)) ∨ (j2 = j ∧ (r2 + 1 = r ∨ r2 = r + 1))) → k < cc ∧ gBes τ b c k := fun {r2 j2} h1 h2 h3 h4 h5 h6 h7 => by
    obtain ⟨m1, m2, -⟩ := hM k h3
    refine ⟨h3, n1.trans hs, m1.trans h4, ?_⟩
    rw [(n2 hs).1, (n2 hs).2, (m2 h4).1, (m2 h4).2, g5, g6, h5, h6]
    exact (bes_nat (by omega) (by omega) (by omega) (by omega)).mpr h7
  constructor
  · rintro (⟨r2, j2, h1, h0, h2, h3, h4, h5, h6, h7⟩ | ⟨r2, j2, h1, h0, h2, h3, h4, h5, h6, h7⟩ | ⟨r2, j2, h1, h0, h2, h3, h4, h5, h6, h7⟩ | ⟨r2, j2, h1, h0, h2, h3, h4, h5, h6, h7⟩)
    · exact mk h1 h0 h4 h5 h6 h7 (Or.inl ⟨fm_nI_inj h2.symm (by omega) (by omega), Or.inl ((m1_nat (by omega) (by omega)).mp h3)⟩)
    · exact mk h1 h0 h4 h5 h6 h7 (Or.inl ⟨fm_nI_inj h2.symm (by omega) (by omega), Or.inr ((p1_nat (by omega) (by omega)).mp h3)⟩)
    · exact mk h1 h0 h4 h5 h6 h7 (Or.inr ⟨fm_nI_inj h3.symm (by omega) (by omega), Or.inl ((m1_nat (by omega) (by omega)).mp h2)⟩)
    · exact mk h1 h0 h4 h5 h6 h7 (Or.inr ⟨fm_nI_inj h3.symm (by omega) (by omega), Or.inr ((p1_nat (by omega) (by omega)).mp h2)⟩)
  · rintro ⟨hk, q1, q2, q3⟩
    obtain ⟨m1, m2, -⟩ := hM k hk
    have hs2 : σ 52 a k 0 = 1 := m1.symm.trans q2
    obtain ⟨r2, j2, v2, k1, k2, k3, k4, k5, k6, k7⟩ := hco.2 k hk hs2
    rw [(n2 hs).1, (n2 hs).2, (m2 hs2).1, (m2 hs2).2, g5, g6, k5, k6, bes_nat (by omega) (by omega) (by omega) (by omega)] at q3
    rcases q3 with ⟨e, e2 | e2⟩ | ⟨e, e2 | e2⟩
    · exact Or.inl ⟨r2, j2, k1, by omega, by rw [e], (m1_nat (by omega) (by omega)).mpr e2, hk, hs2, k5, k6⟩
    · exact Or.inr (Or.inl ⟨r2, j2, k1, by omega, by rw [e], (p1_nat (by omega) (by omega)).mpr e2, hk, hs2, k5, k6⟩)
    · exact Or.inr (Or.inr (Or.inl ⟨r2, j2, k1, by omega, (m1_nat (by omega) (by omega)).mpr e2, by rw [e], hk, hs2, k5, k6⟩))
    · exact Or.inr (Or.inr (Or.inr ⟨r2, j2, k1, by omega, (p1_nat (by omega) (by omega)).mpr e2, by rw [e], hk, hs2, k5, k6⟩))
end SIM10
