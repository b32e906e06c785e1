def rS (a b cc : Nat) (σ τ : fmS) : Prop := ∀ k, k < cc → τ 24 b 0 k = σ 50 a k 0 ∧ (∀ g, g < 4 → τ 25 b 0 (4 * k + g) = σ 10 a k g) ∧ τ 29 b 0 k = σ 55 a k 0 ∧ τ 30 b 0 k = σ 56 a k 0 ∧ τ 31 b 0 k = σ 57 a k 0 ∧ τ 32 b 0 k = σ 59 a k 0 ∧ τ 33 b 0 k = σ 60 a k 0
def rZ (b cc : Nat) (τ : fmS) : Prop := (∀ k, cc ≤ k → k < 14 → τ 24 b 0 k = 0 ∧ τ 30 b 0 k = 0 ∧ τ 31 b 0 k = 0) ∧ ∀ i, 4 * cc ≤ i → i < 56 → τ 25 b 0 i = 0
def rT (a b : Nat) (σ τ : fmS) : Prop := τ 65 b 0 0 = σ 43 a 0 0 ∧ τ 66 b 0 0 = σ 44 a 0 0 ∧ σ 45 a 0 0 = fmSum (τ 30 b 0) 14 ∧ σ 46 a 0 0 = fmSum (τ 31 b 0) 14
def rQ (a rc cc : Nat) (σ τ : fmS) : Prop := (∀ r, r < rc → τ 15 0 0 r = σ 47 a r 0) ∧ (∀ k, k < cc → τ 18 0 0 k = σ 51 a k 0 ∧ ∀ g, g < 4 → τ 19 0 0 (4 * k + g) = σ 11 a k g ∧ τ 20 0 0 (4 * k + g) = σ 12 a k g ∧ τ 21 0 0 (4 * k + g) = σ 13 a k g) ∧ ∀ j, j < 24 → τ 16 0 0 j = σ 2 0 0 j ∧ τ 17 0 0 j = σ 3 0 0 j
def rAll (a b rc cc : Nat) (σ τ : fmS) : Prop := rM a b cc σ τ ∧ rS a b cc σ τ ∧ rZ b cc τ ∧ rT a b σ τ ∧ rQ a rc cc σ τ
theorem cnt_ext {P : Nat → Bool} {n : Nat} : ∀ d, (∀ k, n ≤ k → P k ≠ true) → fmCnt P (n + d) = fmCnt P n
  | 0, _ => rfl
  | d + 1, h => by
    rw [show n + (d + 1) = (n + d) + 1 from rfl, fmCnt, if_neg (h _ (by omega)), cnt_ext d h]
theorem rQ_of {a rc cc : Nat} {σ τ σ' τ' : fmS} (h : rQ a rc cc σ τ) (hσ : ∀ c m k, c = 47 ∨ c = 51 ∨ c = 11 ∨ c = 12 ∨ c = 13 ∨ c = 2 ∨ c = 3 → σ' c m k = σ c m k) (hτ : ∀ c m k, 15 ≤ c ∧ c ≤ 21 → τ' c m k = τ c m k) : rQ a rc cc σ' τ' := by
  refine ⟨fun r hr => ?_, fun k hk => ⟨?_, fun g hg => ⟨?_, ?_, ?_⟩⟩, fun j hj => ⟨?_, ?_⟩⟩
  · rw [hτ _ _ _ (by decide), hσ _ _ _ (by decide)]; exact h.1 r hr
  · rw [hτ _ _ _ (by decide), hσ _ _ _ (by decide)]; exact (h.2.1 k hk).1
  · rw [hτ _ _ _ (by decide), hσ _ _ _ (by decide)]; exact ((h.2.1 k hk).2 g hg).1
  · rw [hτ _ _ _ (by decide), hσ _ _ _ (by decide)]; exact ((h.2.1 k hk).2 g hg).2.1
  · rw [hτ _ _ _ (by decide), hσ _ _ _ (by decide)]; exact ((h.2.1 k hk).2 g hg).2.2
  · rw [hτ _ _ _ (by decide), hσ _ _ _ (by decide)]; exact (h.2.2 j hj).1
  · rw [hτ _ _ _ (by decide), hσ _ _ _ (by decide)]; exact (h.2.2 j hj).2
section SIM3
variable {a b rc cc r v p k : Nat} {σ τ : fmS}
/-- a canoe leaves its row -/
theorem unf_all (hco : fmCoh a rc cc σ) (hrc : rc ≤ 4) (hcc : cc ≤ 14) (hA : rAll a b rc cc σ τ) (hr : r < rc) (hu : σ 48 a r 0 = nI v) (hv : v ≤ 6) (hpv : p < v) (hk : k < cc) (hs : σ 52 a k 0 = 1) (h53 : σ 53 a k 0 = nI r) (h54 : σ 54 a k 0 = nI p) (h8 : σ 8 a r p = nI k) {x : Int32} (hx : x ≠ 1) :
    rAll a b rc cc (fmUnf σ a k r p v x) (gOff0 (gOff τ b k cc) b k x) := by
  obtain ⟨hM, hS, hZ, hT, hQ⟩ := hA
  have hI := fun {i : Nat} (hi : i < cc) => gOP_iff hco hrc hcc hM hr hu hv hpv hk hs h53 h54 h8 hi
  have hN := gOffN_eq hco hrc hcc hM hr hu hv hpv hk hs h53 h54 h8
  -- the model's columns
  have t26 : ∀ i, gOff0 (gOff τ b k cc) b k x 26 b 0 i = if i = k then x else τ 26 b 0 i := fun i => by
    rw [gOff0, fmu_self]
    by_cases e : i = k
    · rw [e, fm_upd_same, if_pos rfl]
    · rw [fm_upd_ne _ _ e, if_neg e, gOff, gOff1_c _ _ _ _ (by decide), gOff0, fmu_self, fm_upd_ne _ _ e]
  have tc : ∀ c m n, c ≠ 26 ∧ c ≠ 28 ∧ c ≠ 30 → gOff0 (gOff τ b k cc) b k x c m n = τ c m n := fun c m n h => by
    rw [gOff0, fmu_c _ _ _ _ _ h.1, gOff_c h]
  have t28 : ∀ i, gOff0 (gOff τ b k cc) b k x 28 b 0 i = if i < cc ∧ gOP (gOff0 τ b k 0) b k i = true then τ 28 b 0 i - 1 else τ 28 b 0 i := fun i => by
    rw [gOff0, fmu_c _ _ _ _ _ (by decide), gOff, gOff1_28, gPl, gOff0, fmu_c _ _ _ _ _ (by decide)]
  have t30 : ∀ i, gOff0 (gOff τ b k cc) b k x 30 b 0 i = if i < cc ∧ gOP (gOff0 τ b k 0) b k i = true then τ 30 b 0 i + 1 else τ 30 b 0 i := fun i => by
    rw [gOff0, fmu_c _ _ _ _ _ (by decide), gOff, gOff1_30, gLo, gOff0, fmu_c _ _ _ _ _ (by decide)]
  -- who moves
  have hin : ∀ i, i < cc → i ≠ k → gOP (gOff0 τ b k 0) b k i = true → ∃ j, p < j ∧ j < v ∧ σ 54 a i 0 = nI j ∧ fmUnf σ a k r p v x 54 a i 0 = nI (j - 1) ∧ fmUnf σ a k r p v x 56 a i 0 = σ 56 a i 0 + 1 := fun i hi hne q => by
    obtain ⟨j, g1, g2, g3⟩ := (hI hi).mp q
    obtain ⟨i2, c1, c2, c3, c4, c5⟩ := fmCoh_row hco hcc hr hu hv j g2
    have e : i2 = i := fm_nI_inj (c2.symm.trans g3) (by omega) (by omega)
    subst e
    have := unf_in (σ := σ) (a := a) (r := r) x hne g1 g2 (fm_cl c2 (by omega)) (fun j2 k1 k2 k3 q => by
      obtain ⟨i3, d1, d2, -⟩ := fmCoh_row hco hcc hr hu hv j2 k2
      exact k3 (fmCoh_inj hco hcc hr hu hv k2 g2 (q.trans (fm_cl c2 (by omega)).symm)))
    exact ⟨j, g1, g2, c5, this.1, this.2⟩
  have hout : ∀ i, i < cc → i ≠ k → gOP (gOff0 τ b k 0) b k i ≠ true → fmUnf σ a k r p v x 54 a i 0 = σ 54 a i 0 ∧ fmUnf σ a k r p v x 56 a i 0 = σ 56 a i 0 := fun i hi hne q => by
    refine unf_out x hne (fun j k1 k2 e => q ((hI hi).mpr ⟨j, k1, k2, ?_⟩))
    obtain ⟨i3, d1, d2, -⟩ := fmCoh_row hco hcc hr hu hv j k2
    rw [d2] at e ⊢
    rw [fm_cn (by omega)] at e
    rw [e]
  have hkk : gOP (gOff0 τ b k 0) b k k ≠ true := fun q => by
    obtain ⟨j, g1, g2, g3⟩ := (hI hk).mp q
    have := fmCoh_inj hco hcc hr hu hv g2 hpv (by rw [g3, h8])
    omega
  have hk56 : fmUnf σ a k r p v x 56 a k 0 = σ 56 a k 0 := by
    have h : ∀ j, p < j → j < v → (σ 8 a r j).toNatClampNeg ≠ k := fun j k1 k2 e => by
      obtain ⟨i3, d1, d2, -⟩ := fmCoh_row hco hcc hr hu hv j k2
      rw [d2, fm_cn (by omega)] at e
      exact hkk ((hI hk).mpr ⟨j, k1, k2, by rw [d2, e]⟩)
    rw [fmUnf, fmu_c _ _ _ _ _ (by decide), fmu_c _ _ _ _ _ (by decide), fmu_c _ _ _ _ _ (by decide), fmu_c _ _ _ _ _ (by decide), fmUnf2, fmIter_k _ (fun i hi => h (p + i + 1) (by omega) (by omega)), fmGap, fmu_c _ _ _ _ _ (by decide), fmu_c _ _ _ _ _ (by decide)]
  have sc : ∀ c m n, c ≠ 8 ∧ c ≠ 48 ∧ c ≠ 54 ∧ c ≠ 56 ∧ c ≠ 45 ∧ c ≠ 52 ∧ c ≠ 53 → fmUnf σ a k r p v x c m n = σ c m n := fun c m n h => unf_c σ a k r p v x h m n
  refine ⟨fun i hi => ?_, fun i hi => ?_, ⟨fun i h1 h2 => ?_, fun i h1 h2 => ?_⟩, ⟨?_, ?_, ?_, ?_⟩, rQ_of hQ (fun c m n h => sc c m n (by omega)) (fun c m n h => tc c m n (by omega))⟩
  · obtain ⟨m1, m2, m3⟩ := hM i hi
    rw [t26, unf_52, unf_53, tc _ _ _ (by decide), t28]
    by_cases e : i = k
    · subst e
      rw [if_pos rfl, if_pos rfl, if_pos rfl]
      exact ⟨rfl, fun q => absurd q hx, fun _ => ⟨rfl, unf_54k σ a i r p v x⟩⟩
    · rw [if_neg e, if_neg e, if_neg e]
      refine ⟨m1, fun q => ⟨(m2 q).1, ?_⟩, fun q => ⟨(m3 q).1, ?_⟩⟩
      · by_cases g : gOP (gOff0 τ b k 0) b k i = true
        · obtain ⟨j, g1, g2, g3, g4, -⟩ := hin i hi e g
          rw [if_pos ⟨hi, g⟩, (m2 q).2, g3, g4]
          exact pk_sub (b := 1) (by omega)
        · rw [if_neg (fun q => g q.2), (hout i hi e g).1]
          exact (m2 q).2
      · have g : gOP (gOff0 τ b k 0) b k i ≠ true := fun g => by
          obtain ⟨j, g1, g2, g3⟩ := (hI hi).mp g
          obtain ⟨i2, c1, c2, c3, -⟩ := fmCoh_row hco hcc hr hu hv j g2
          have e2 : i2 = i := fm_nI_inj (c2.symm.trans g3) (by omega) (by omega)
          exact q (e2 ▸ c3)
        rw [(hout i hi e g).1]
        exact (m3 q).2
  · obtain ⟨s1, s2, s3, s4, s5, s6, s7⟩ := hS i hi
    rw [tc 24 _ _ (by decide), tc 29 _ _ (by decide), tc 31 _ _ (by decide), tc 32 _ _ (by decide), tc 33 _ _ (by decide), sc 50 _ _ (by decide), sc 55 _ _ (by decide), sc 57 _ _ (by decide), sc 59 _ _ (by decide), sc 60 _ _ (by decide), t30]
    refine ⟨s1, fun g hg => by rw [tc 25 _ _ (by decide), sc 10 _ _ (by decide)]; exact s2 g hg, s3, ?_, s5, s6, s7⟩
    by_cases e : i = k
    · rw [e, if_neg (fun q => hkk q.2), hk56, ← e]
      exact s4
    · by_cases g : gOP (gOff0 τ b k 0) b k i = true
      · obtain ⟨j, -, -, -, -, g5⟩ := hin i hi e g
        rw [if_pos ⟨hi, g⟩, g5, s4]
      · rw [if_neg (fun q => g q.2), (hout i hi e g).2]
        exact s4
  · obtain ⟨z1, z2, z3⟩ := hZ.1 i h1 h2
    rw [tc 24 _ _ (by decide), tc 31 _ _ (by decide), t30, if_neg (fun q => absurd q.1 (by omega))]
    exact ⟨z1, z2, z3⟩
  · rw [tc 25 _ _ (by decide)]
    exact hZ.2 i h1 h2
  · rw [tc 65 _ _ (by decide), sc 43 _ _ (by decide)]
    exact hT.1
  · rw [tc 66 _ _ (by decide), sc 44 _ _ (by decide)]
    exact hT.2.1
  · rw [unf_45, hT.2.2.1, ← hN, gOffN]
    have e1 : fmSum (gOff0 (gOff τ b k cc) b k x 30 b 0) 14 = fmSum (fun i => if (decide (i < cc) && gOP (gOff0 τ b k 0) b k i) = true then τ 30 b 0 i + 1 else τ 30 b 0 i) 14 := sum_congr 14 (fun i hi => by
      rw [t30]
      by_cases c : i < cc ∧ gOP (gOff0 τ b k 0) b k i = true
      · rw [if_pos c, if_pos (by rw [decide_eq_true c.1, c.2]; rfl)]
      · rw [if_neg c, if_neg (fun q => c (by simp only [Bool.and_eq_true, decide_eq_true_eq] at q; exact q))])
    rw [e1, sum_cnt (fun i => decide (i < cc) && gOP (gOff0 τ b k 0) b k i), show (14 : Nat) = cc + (14 - cc) by omega, cnt_ext (n := cc) (14 - cc) (fun i hi q => by simp only [Bool.and_eq_true, decide_eq_true_eq] at q; omega)]
    rw [cnt_congr (P := fun i => decide (i < cc) && gOP (gOff0 τ b k 0) b k i) (Q := gOP (gOff0 τ b k 0) b k) cc (fun i hi => by show (decide (i < cc) && _) = _; rw [decide_eq_true hi]; rfl)]
  · rw [sc 46 _ _ (by decide), tc 31 _ _ (by decide)]
    exact hT.2.2.2
end SIM3
