section SIM9
variable {a b rc cc r v p k t g : Nat} {σ τ : fmS}
theorem at_iff (hco : fmCoh a rc cc σ) (hrc : rc ≤ 4) (hcc : cc ≤ 14) {x y : Int32} : fmAt σ a rc x y = some k ↔ ∃ r j, r < rc ∧ j < 6 ∧ x = nI r ∧ y = nI j ∧ k < cc ∧ σ 52 a k 0 = 1 ∧ σ 53 a k 0 = nI r ∧ σ 54 a k 0 = nI j := by
  constructor
  · intro h
    rw [fmAt] at h
    by_cases hx : ¬ x < 0 ∧ x < nI rc
    · rw [if_pos hx] at h
      obtain ⟨r, hr, e⟩ := nI_of hx.1
      have hrr : r < rc := (nI_ltI hr (by omega)).mp (e ▸ hx.2)
      obtain ⟨q, v, g1, g2, g3, g4, -⟩ := hco.1 r hrr
      rw [e, fm_cn hr, fmRAt, g4] at h
      by_cases hy : ¬ y < 0 ∧ y < nI v
      · obtain ⟨j, hj, e2⟩ := nI_of hy.1
        have hjv : j < v := (nI_ltI hj (by omega)).mp (e2 ▸ hy.2)
        obtain ⟨k2, c1, c2, c3, c4, c5⟩ := fmCoh_row hco hcc hrr g4 (by omega) j hjv
        rw [if_pos hy, e2, fm_cn hj, c2, if_neg (fm_nI_ne k2 (by omega)), fm_cn (by omega)] at h
        have e3 := Option.some.inj h
        subst e3
        exact ⟨r, j, hrr, by omega, e, e2, c1, c3, c4, c5⟩
      · rw [if_neg hy, if_pos rfl] at h
        cases h
    · rw [if_neg hx] at h
      cases h
  · rintro ⟨r, j, h1, h0, h2, h3, h4, h5, h6, h7⟩
    obtain ⟨q, v, g1, g2, g3, g4, -⟩ := hco.1 r h1
    obtain ⟨j2, k1, k2, k3⟩ := coh_at hco hrc hcc h1 g4 (by omega) h4 h5 h6
    have e : j2 = j := fm_nI_inj (k2.symm.trans h7) (by omega) (by omega)
    subst e
    have hRA : fmRAt σ a r (nI j2) = nI k := by rw [fmRAt, g4, if_pos ⟨nI_pos (by omega), nI_lt k1 (by omega)⟩, fm_cn (by omega), k3]
    rw [fmAt, h2, if_pos ⟨nI_pos (by omega), nI_lt h1 (by omega)⟩, fm_cn (by omega), h3, hRA, if_neg (fm_nI_ne k (by omega)), fm_cn (by omega)]
theorem ab_nat {i j : Nat} (hi : i < 100) (hj : j < 100) : fmAb (nI i - nI j) = nI (if j ≤ i then i - j else j - i) := by
  rw [fmAb]
  by_cases h : j ≤ i
  · rw [if_pos h, pk_sub h, if_pos (nI_pos' (by omega))]
  · rw [if_neg h, if_neg (by
      have h1 := pk_sneg (a := i) (b := j) (by omega) (by omega)
      rw [Int32.lt_iff_toInt_lt] at h1
      rw [Int32.le_iff_toInt_le]
      omega)]
    have e : nI j - nI i = nI (j - i) := pk_sub (by omega)
    rw [← e]
    apply Int32.toInt_inj.mp
    have e1 := pk_sub_toInt (a := i) (b := j) (by omega) (by omega)
    have e2 := pk_sub_toInt (a := j) (b := i) (by omega) (by omega)
    rw [e2, Int32.toInt_sub, e1]
    have e0 : (0 : Int32).toInt = 0 := by decide
    rw [e0]
    simp only [Int.bmod]
    omega
theorem bes_nat {r1 j1 r2 j2 : Nat} (h1 : r1 < 50) (h2 : j1 < 50) (h3 : r2 < 50) (h4 : j2 < 50) : fmAb (nI r1 - nI r2) + fmAb (nI j1 - nI j2) = 1 ↔ (r2 = r1 ∧ (j2 + 1 = j1 ∨ j2 = j1 + 1)) ∨ (j2 = j1 ∧ (r2 + 1 = r1 ∨ r2 = r1 + 1)) := by
  rw [ab_nat (by omega) (by omega), ab_nat (by omega) (by omega), nI_add, show (1 : Int32) = nI 1 from rfl, nI_eq (by split <;> split <;> omega) (by omega)]
  split <;> split <;> omega
theorem m1_nat {i j : Nat} (hi : i < 100) (hj : j < 100) : nI i - 1 = nI j ↔ j + 1 = i := by
  constructor
  · intro h
    have e := congrArg Int32.toInt h
    rw [show (1 : Int32) = nI 1 from rfl, pk_sub_toInt (by omega) (by omega), nI_toInt (by omega)] at e
    omega
  · intro h
    rw [← h]
    exact nI_pred j
theorem p1_nat {i j : Nat} (hi : i < 100) (hj : j < 100) : nI i + 1 = nI j ↔ j = i + 1 := by
  rw [nI_1, nI_eq (by omega) (by omega)]
  omega
end SIM9
