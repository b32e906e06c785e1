/-! CLASS AND MODEL: σ read at the class's columns (market a), τ at the model's (state b) -/
theorem cnt_congr {P Q : Nat → Bool} : ∀ n, (∀ k, k < n → P k = Q k) → fmCnt P n = fmCnt Q n
  | 0, _ => rfl
  | n + 1, h => by
    rw [fmCnt, fmCnt, cnt_congr n (fun k hk => h k (by omega)), h n (by omega)]
theorem cnt_rem {P : Nat → Bool} {c : Nat} (hc : P c = true) : ∀ n, c < n → fmCnt P n = fmCnt (fun k => P k && !(k == c)) n + 1
  | 0, h => absurd h (by omega)
  | n + 1, h => by
    rw [fmCnt, fmCnt]
    by_cases e : c = n
    · subst e
      have h1 : ((P c && !(c == c)) = true) ↔ False := by simp
      rw [if_pos hc, if_neg (fun q => h1.mp q)]
      rw [cnt_congr (P := P) (Q := fun k => P k && !(k == c)) c (fun k hk => by
        have : (k == c) = false := by simp; omega
        rw [this]; simp)]
    · have h2 : (n == c) = false := by simp; omega
      have h3 : (P n && !(n == c)) = P n := by rw [h2]; simp
      rw [h3, cnt_rem hc n (by omega)]
      by_cases hp : P n = true
      · rw [if_pos hp, if_pos hp]
      · rw [if_neg hp, if_neg hp]
theorem cnt_none {P : Nat → Bool} : ∀ n, (∀ k, k < n → P k ≠ true) → fmCnt P n = 0
  | 0, _ => rfl
  | n + 1, h => by
    rw [fmCnt, if_neg (h n (by omega)), cnt_none n (fun k hk => h k (by omega))]
theorem cnt_onto {f : Nat → Nat} {n : Nat} : ∀ (v : Nat) (P : Nat → Bool), (∀ j, j < v → f j < n ∧ P (f j) = true) → (∀ k, k < n → P k = true → ∃ j, j < v ∧ f j = k) → (∀ i j, i < v → j < v → f i = f j → i = j) → fmCnt P n = nI v
  | 0, P, _, h2, _ => by
    rw [cnt_none n (fun k hk q => by obtain ⟨j, hj, -⟩ := h2 k hk q; omega)]
    rfl
  | v + 1, P, h1, h2, h3 => by
    have hv := h1 v (by omega)
    rw [cnt_rem hv.2 n hv.1, cnt_onto v (fun k => P k && !(k == f v)) (fun j hj => ?_) (fun k hk q => ?_) (fun i j hi hj => h3 i j (by omega) (by omega)), nI_succ]
    · have g := h1 j (by omega)
      have hne : (f j == f v) = false := by
        simp only [beq_eq_false_iff_ne]
        exact fun e => absurd (h3 j v (by omega) (by omega) e) (by omega)
      exact ⟨g.1, by rw [g.2, hne]; rfl⟩
    · simp only [Bool.and_eq_true, Bool.not_eq_true', beq_eq_false_iff_ne] at q
      obtain ⟨j, hj, e⟩ := h2 k hk q.1
      have : j ≠ v := fun e2 => q.2 (by rw [← e, e2])
      exact ⟨j, by omega, e⟩
/-- the canoes' places -/
def rM (a b cc : Nat) (σ τ : fmS) : Prop := ∀ k, k < cc → τ 26 b 0 k = σ 52 a k 0 ∧ (σ 52 a k 0 = 1 → τ 27 b 0 k = σ 53 a k 0 ∧ τ 28 b 0 k = σ 54 a k 0) ∧ (σ 52 a k 0 ≠ 1 → σ 53 a k 0 = -1 ∧ σ 54 a k 0 = -1)
theorem gSe_none {f : Nat → Bool} : ∀ {d i : Nat}, i + d < 2 ^ 31 → gSe f d i = -1 → ∀ k, i ≤ k ∧ k < i + d → f k ≠ true
  | 0, _, _, _, k, hk => absurd hk.2 (by omega)
  | d + 1, i, hb, h, k, hk => by
    rw [gSe] at h
    by_cases e : f i = true
    · rw [if_pos e] at h
      exact absurd h (fm_nI_ne i (by omega))
    · rw [if_neg e] at h
      by_cases e2 : k = i
      · rw [e2]; exact e
      · exact gSe_none (by omega) h k (by omega)
section SIM1
variable {a b rc cc r v : Nat} {σ τ : fmS}
theorem coh_at (hco : fmCoh a rc cc σ) (hrc : rc ≤ 4) (hcc : cc ≤ 14) (hr : r < rc) (hu : σ 48 a r 0 = nI v) (hv : v ≤ 6) {k : Nat} (hk : k < cc) (hs : σ 52 a k 0 = 1) (h53 : σ 53 a k 0 = nI r) : ∃ j, j < v ∧ σ 54 a k 0 = nI j ∧ σ 8 a r j = nI k := by
  obtain ⟨r2, j, v2, g1, g2, g3, g4, g5, g6, g7⟩ := hco.2 k hk hs
  have e : r2 = r := fm_nI_inj (g5.symm.trans h53) (by omega) (by omega)
  subst e
  have e2 : v2 = v := fm_nI_inj (g4.symm.trans hu) (by omega) (by omega)
  subst e2
  exact ⟨j, g2, g6, g7⟩
theorem gIn_eq (hco : fmCoh a rc cc σ) (hrc : rc ≤ 4) (hcc : cc ≤ 14) (hM : rM a b cc σ τ) (hr : r < rc) (hu : σ 48 a r 0 = nI v) (hv : v ≤ 6) : gIn τ b (nI r) cc = nI v := by
  have hrow := fmCoh_row hco hcc hr hu hv
  refine cnt_onto (f := fun j => (σ 8 a r j).toNatClampNeg) v _ (fun j hj => ?_) (fun k hk q => ?_) (fun i j hi hj e => fmCoh_inj hco hcc hr hu hv hi hj e)
  · obtain ⟨k, g1, g2, g3, g4, g5⟩ := hrow j hj
    have e : (σ 8 a r j).toNatClampNeg = k := fm_cl g2 (by omega)
    obtain ⟨m1, m2, -⟩ := hM k g1
    show (σ 8 a r j).toNatClampNeg < cc ∧ _
    rw [e]
    exact ⟨g1, decide_eq_true ⟨m1.trans g3, (m2 g3).1.trans g4⟩⟩
  · have q := of_decide_eq_true q
    obtain ⟨m1, m2, -⟩ := hM k hk
    have hs : σ 52 a k 0 = 1 := m1.symm.trans q.1
    obtain ⟨j, g1, g2, g3⟩ := coh_at hco hrc hcc hr hu hv hk hs ((m2 hs).1.symm.trans q.2)
    exact ⟨j, g1, fm_cl g3 (by omega)⟩
theorem gAt_eq (hco : fmCoh a rc cc σ) (hrc : rc ≤ 4) (hcc : cc ≤ 14) (hM : rM a b cc σ τ) (hr : r < rc) (hu : σ 48 a r 0 = nI v) (hv : v ≤ 6) (y : Int32) : gAt τ b (nI r) y cc = fmRAt σ a r y := by
  rw [fmRAt, hu]
  rcases gSe_or (gAtP τ b (nI r) y) cc 0 with h | ⟨k, h0, h1, h2, h3, h4⟩
  · rw [gAt, h]
    by_cases c : ¬ y < 0 ∧ y < nI v
    · exfalso
      obtain ⟨j, hj, e⟩ := nI_of c.1
      have hjv : j < v := by rw [e] at c; exact (nI_ltI hj (by omega)).mp c.2
      obtain ⟨k, g1, g2, g3, g4, g5⟩ := fmCoh_row hco hcc hr hu hv j hjv
      obtain ⟨m1, m2, -⟩ := hM k g1
      have hp : gAtP τ b (nI r) y k = true := decide_eq_true ⟨m1.trans g3, (m2 g3).1.trans g4, ((m2 g3).2.trans g5).trans e.symm⟩
      exact gSe_none (by omega) h k (by omega) hp
    · rw [if_neg c]
  · have q := of_decide_eq_true h3
    obtain ⟨m1, m2, -⟩ := hM k (by omega)
    have hs : σ 52 a k 0 = 1 := m1.symm.trans q.1
    obtain ⟨j, g1, g2, g3⟩ := coh_at hco hrc hcc hr hu hv (by omega) hs ((m2 hs).1.symm.trans q.2.1)
    have ey : y = nI j := q.2.2.symm.trans ((m2 hs).2.trans g2)
    rw [gAt, h2, ey, if_pos ⟨nI_pos (by omega), nI_lt g1 (by omega)⟩, fm_cn (by omega), g3]
theorem gFull_eq (hco : fmCoh a rc cc σ) (hrc : rc ≤ 4) (hcc : cc ≤ 14) (hM : rM a b cc σ τ) (hr : r < rc) (h15 : τ 15 0 0 r = σ 47 a r 0) : gFull τ b r cc ↔ ¬ σ 48 a r 0 < σ 47 a r 0 := by
  obtain ⟨q, v, g1, g2, g3, g4, -⟩ := hco.1 r hr
  show gIn τ b (nI r) cc = τ 15 0 0 r ↔ _
  rw [gIn_eq hco hrc hcc hM hr g4 (by omega), h15, g3, g4, nI_eq (by omega) (by omega), nI_ltI (by omega) (by omega)]
  omega
end SIM1
