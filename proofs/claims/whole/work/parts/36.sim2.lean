theorem sum_cnt (P : Nat → Bool) (f : Nat → Int32) : ∀ n, fmSum (fun i => if P i = true then f i + 1 else f i) n = fmSum f n + fmCnt P n
  | 0 => by rw [fmSum, fmSum, fmCnt]; rfl
  | n + 1 => by
    rw [fmSum, fmSum, fmCnt, sum_cnt P f n]
    by_cases h : P n = true
    · rw [if_pos h, if_pos h]
      rw [Int32.add_assoc, Int32.add_assoc, ← Int32.add_assoc (fmCnt P n), Int32.add_comm (fmCnt P n) (f n), Int32.add_assoc (f n)]
    · rw [if_neg h, if_neg h]
      rw [Int32.add_assoc, Int32.add_assoc, Int32.add_comm (fmCnt P n) (f n)]
theorem sum_congr {f g : Nat → Int32} : ∀ n, (∀ i, i < n → f i = g i) → fmSum f n = fmSum g n
  | 0, _ => rfl
  | n + 1, h => by rw [fmSum, fmSum, sum_congr n (fun i hi => h i (by omega)), h n (by omega)]
section SIM2
variable {a b rc cc r v p k : Nat} {σ τ : fmS}
theorem gOP_iff (hco : fmCoh a rc cc σ) (hrc : rc ≤ 4) (hcc : cc ≤ 14) (hM : rM a b cc σ τ) (hr : r < rc) (hu : σ 48 a r 0 = nI v) (hv : v ≤ 6) (hpv : p < v) (hk : k < cc) (hs : σ 52 a k 0 = 1) (h53 : σ 53 a k 0 = nI r) (h54 : σ 54 a k 0 = nI p) (h8 : σ 8 a r p = nI k) {i : Nat} (hi : i < cc) :
    gOP (gOff0 τ b k 0) b k i = true ↔ ∃ j, p < j ∧ j < v ∧ σ 8 a r j = nI i := by
  obtain ⟨m1, m2, -⟩ := hM i hi
  obtain ⟨n1, n2, -⟩ := hM k hk
  have e27 : ∀ x, gOff0 τ b k 0 27 b 0 x = τ 27 b 0 x := fun x => by rw [gOff0, fmu_c _ _ _ _ _ (by decide)]
  have e28 : ∀ x, gOff0 τ b k 0 28 b 0 x = τ 28 b 0 x := fun x => by rw [gOff0, fmu_c _ _ _ _ _ (by decide)]
  constructor
  · intro h
    have q := of_decide_eq_true h
    rw [e27, e27, e28, e28, gOff0, fmu_self, (n2 hs).1, (n2 hs).2, h53, h54] at q
    have hne : i ≠ k := fun e => by
      rw [e, fm_upd_same] at q
      exact absurd q.1 (by decide)
    rw [fm_upd_ne _ _ hne] at q
    have hs2 : σ 52 a i 0 = 1 := m1.symm.trans q.1
    obtain ⟨j, g1, g2, g3⟩ := coh_at hco hrc hcc hr hu hv hi hs2 ((m2 hs2).1.symm.trans q.2.1)
    have h3 := q.2.2
    rw [(m2 hs2).2, g2, nI_ltI (by omega) (by omega)] at h3
    have hjp : j ≠ p := fun e => hne (fm_nI_inj ((e ▸ g3).symm.trans h8) (by omega) (by omega))
    exact ⟨j, by omega, g1, g3⟩
  · rintro ⟨j, g1, g2, g3⟩
    obtain ⟨i2, c1, c2, c3, c4, c5⟩ := fmCoh_row hco hcc hr hu hv j g2
    have e : i2 = i := fm_nI_inj (c2.symm.trans g3) (by omega) (by omega)
    subst e
    have hne : i2 ≠ k := fun e => by
      subst e
      have := fm_nI_inj (c5.symm.trans h54) (by omega) (by omega)
      omega
    refine decide_eq_true ?_
    rw [e27, e27, e28, e28, gOff0, fmu_self, (n2 hs).1, (n2 hs).2, h53, h54, fm_upd_ne _ _ hne, (m2 c3).1, (m2 c3).2, c4, c5, nI_ltI (by omega) (by omega)]
    exact ⟨m1.trans c3, rfl, by omega⟩
theorem gOffN_eq (hco : fmCoh a rc cc σ) (hrc : rc ≤ 4) (hcc : cc ≤ 14) (hM : rM a b cc σ τ) (hr : r < rc) (hu : σ 48 a r 0 = nI v) (hv : v ≤ 6) (hpv : p < v) (hk : k < cc) (hs : σ 52 a k 0 = 1) (h53 : σ 53 a k 0 = nI r) (h54 : σ 54 a k 0 = nI p) (h8 : σ 8 a r p = nI k) : gOffN τ b k cc = nI (v - 1 - p) := by
  have hI := fun {i : Nat} (hi : i < cc) => gOP_iff hco hrc hcc hM hr hu hv hpv hk hs h53 h54 h8 hi
  refine cnt_onto (f := fun j => (σ 8 a r (p + 1 + j)).toNatClampNeg) (v - 1 - p) _ (fun j hj => ?_) (fun i hi q => ?_) (fun i j hi hj e => ?_)
  · obtain ⟨i, g1, g2, -⟩ := fmCoh_row hco hcc hr hu hv (p + 1 + j) (by omega)
    show (σ 8 a r (p + 1 + j)).toNatClampNeg < cc ∧ _
    rw [fm_cl g2 (by omega)]
    exact ⟨g1, (hI g1).mpr ⟨p + 1 + j, by omega, by omega, g2⟩⟩
  · obtain ⟨j, g1, g2, g3⟩ := (hI hi).mp q
    refine ⟨j - p - 1, by omega, ?_⟩
    show (σ 8 a r (p + 1 + (j - p - 1))).toNatClampNeg = i
    rw [show p + 1 + (j - p - 1) = j by omega]
    exact fm_cl g3 (by omega)
  · have := fmCoh_inj hco hcc hr hu hv (i := p + 1 + i) (j := p + 1 + j) (by omega) (by omega) e
    omega
end SIM2
