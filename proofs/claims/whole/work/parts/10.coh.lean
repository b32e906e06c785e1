/-! COHERENCE of a market's rows and canoes, and what fastening and unfastening do to it -/
def fmRowOk (a cc : Nat) (σ : fmS) (r : Nat) : Prop := ∃ q v, q ≤ 6 ∧ v ≤ q ∧ σ 47 a r 0 = nI q ∧ σ 48 a r 0 = nI v ∧ ∀ j, j < v → ∃ k, k < cc ∧ σ 8 a r j = nI k ∧ σ 52 a k 0 = 1 ∧ σ 53 a k 0 = nI r ∧ σ 54 a k 0 = nI j
def fmCanOk (a rc : Nat) (σ : fmS) (k : Nat) : Prop := ∃ r j v, r < rc ∧ j < v ∧ v ≤ 6 ∧ σ 48 a r 0 = nI v ∧ σ 53 a k 0 = nI r ∧ σ 54 a k 0 = nI j ∧ σ 8 a r j = nI k
def fmCoh (a rc cc : Nat) (σ : fmS) : Prop := (∀ r, r < rc → fmRowOk a cc σ r) ∧ ∀ k, k < cc → σ 52 a k 0 = 1 → fmCanOk a rc σ k
def fmHd (a rc cc t : Nat) (σ : fmS) : Prop := rc ≤ 4 ∧ cc ≤ 14 ∧ t < 2 ^ 30 ∧ σ 40 a 0 0 = nI rc ∧ σ 41 a 0 0 = nI cc ∧ σ 42 a 0 0 = nI t
theorem fmCoh_ext {a rc cc : Nat} {σ τ : fmS} (h : fmCoh a rc cc σ) (h8 : ∀ r, τ 8 a r = σ 8 a r) (h47 : ∀ r, τ 47 a r 0 = σ 47 a r 0) (h48 : ∀ r, τ 48 a r 0 = σ 48 a r 0) (h52 : ∀ k, τ 52 a k 0 = σ 52 a k 0) (h53 : ∀ k, τ 53 a k 0 = σ 53 a k 0) (h54 : ∀ k, τ 54 a k 0 = σ 54 a k 0) : fmCoh a rc cc τ := by
  refine ⟨fun r hr => ?_, fun k hk h1 => ?_⟩
  · obtain ⟨q, v, h1, h2, h3, h4, h5⟩ := h.1 r hr
    refine ⟨q, v, h1, h2, by rw [h47]; exact h3, by rw [h48]; exact h4, fun j hj => ?_⟩
    obtain ⟨k, g1, g2, g3, g4, g5⟩ := h5 j hj
    exact ⟨k, g1, by rw [h8]; exact g2, by rw [h52]; exact g3, by rw [h53]; exact g4, by rw [h54]; exact g5⟩
  · rw [h52] at h1
    obtain ⟨r, j, v, g1, g2, g3, g4, g5, g6, g7⟩ := h.2 k hk h1
    exact ⟨r, j, v, g1, g2, g3, by rw [h48]; exact g4, by rw [h53]; exact g5, by rw [h54]; exact g6, by rw [h8]; exact g7⟩
theorem fm_nI_inj {i j : Nat} (h : nI i = nI j) (hi : i < 2 ^ 31) (hj : j < 2 ^ 31) : i = j := (nI_eq hi hj).mp h
theorem fmCoh_bd {a rc cc : Nat} {σ : fmS} (hcc : cc ≤ 14) (h : fmCoh a rc cc σ) : fmBd σ a rc := by
  intro r hr
  obtain ⟨q, v, h1, h2, h3, h4, h5⟩ := h.1 r hr
  refine ⟨v, by omega, h4, fun j hj => ?_⟩
  obtain ⟨k, g1, g2, -⟩ := h5 j hj
  exact ⟨k, by omega, g2⟩
/-! fastening -/
theorem fast_8 (σ : fmS) (a k r v r2 : Nat) : fmFast σ a k r v 8 a r2 = if r2 = r then upd (σ 8 a r) v (nI k) else σ 8 a r2 := by
  rw [fmFast, fmApp, fmu_c _ _ _ _ _ (by decide)]
  by_cases h : r2 = r
  · subst h
    rw [fmu_self, if_pos rfl, fmu_c _ _ _ _ _ (by decide), fmu_c _ _ _ _ _ (by decide), fmu_c _ _ _ _ _ (by decide)]
  · rw [if_neg h, fmu_ne _ _ _ _ _ (fun q => h q.2.2), fmu_c _ _ _ _ _ (by decide), fmu_c _ _ _ _ _ (by decide), fmu_c _ _ _ _ _ (by decide)]
theorem fast_48 (σ : fmS) (a k r v r2 : Nat) : fmFast σ a k r v 48 a r2 0 = if r2 = r then nI (v + 1) else σ 48 a r2 0 := by
  by_cases h : r2 = r <;> simp [fmFast, fmApp, fmu, h]
theorem fast_52 (σ : fmS) (a k r v k2 : Nat) : fmFast σ a k r v 52 a k2 0 = if k2 = k then 1 else σ 52 a k2 0 := by
  by_cases h : k2 = k <;> simp [fmFast, fmApp, fmu, h]
theorem fast_53 (σ : fmS) (a k r v k2 : Nat) : fmFast σ a k r v 53 a k2 0 = if k2 = k then nI r else σ 53 a k2 0 := by
  by_cases h : k2 = k <;> simp [fmFast, fmApp, fmu, h]
theorem fast_54 (σ : fmS) (a k r v k2 : Nat) : fmFast σ a k r v 54 a k2 0 = if k2 = k then nI v else σ 54 a k2 0 := by
  by_cases h : k2 = k <;> simp [fmFast, fmApp, fmu, h]
theorem fast_c (σ : fmS) (a k r v : Nat) {c : Nat} (h : c ≠ 8 ∧ c ≠ 48 ∧ c ≠ 52 ∧ c ≠ 53 ∧ c ≠ 54) (m n : Nat) : fmFast σ a k r v c m n = σ c m n := by
  rw [fmFast, fmApp, fmu_c _ _ _ _ _ h.2.1, fmu_c _ _ _ _ _ h.1, fmu_c _ _ _ _ _ h.2.2.2.2, fmu_c _ _ _ _ _ h.2.2.2.1, fmu_c _ _ _ _ _ h.2.2.1]
theorem fmCoh_fast {a rc cc k r v q : Nat} {σ : fmS} (h : fmCoh a rc cc σ) (hrc : rc ≤ 4) (hcc : cc ≤ 14) (hk : k < cc) (hr : r < rc) (hq : q ≤ 6) (hvq : v < q) (hu : σ 48 a r 0 = nI v) (hp : σ 47 a r 0 = nI q) (hs : σ 52 a k 0 ≠ 1) : fmCoh a rc cc (fmFast σ a k r v) := by
  have hv9 : ∀ v', σ 48 a r 0 = nI v' → v' ≤ 6 → v' = v := fun v' e h6 => fm_nI_inj (e.symm.trans hu) (by omega) (by omega)
  refine ⟨fun r2 hr2 => ?_, fun k2 hk2 h1 => ?_⟩
  · obtain ⟨q2, v2, h1, h2, h3, h4, h5⟩ := h.1 r2 hr2
    by_cases e : r2 = r
    · subst e
      have ev := hv9 v2 h4 (by omega)
      subst ev
      refine ⟨q, v2 + 1, hq, by omega, by rw [fast_c _ _ _ _ _ (by decide)]; exact hp, by rw [fast_48, if_pos rfl], fun j hj => ?_⟩
      by_cases ej : j = v2
      · subst ej
        exact ⟨k, hk, by rw [fast_8, if_pos rfl, fm_upd_same], by rw [fast_52, if_pos rfl], by rw [fast_53, if_pos rfl], by rw [fast_54, if_pos rfl]⟩
      · obtain ⟨k3, g1, g2, g3, g4, g5⟩ := h5 j (by omega)
        have hne : k3 ≠ k := fun z => hs (z ▸ g3)
        exact ⟨k3, g1, by rw [fast_8, if_pos rfl, fm_upd_ne _ _ ej]; exact g2, by rw [fast_52, if_neg hne]; exact g3, by rw [fast_53, if_neg hne]; exact g4, by rw [fast_54, if_neg hne]; exact g5⟩
    · refine ⟨q2, v2, h1, h2, by rw [fast_c _ _ _ _ _ (by decide)]; exact h3, by rw [fast_48, if_neg e]; exact h4, fun j hj => ?_⟩
      obtain ⟨k3, g1, g2, g3, g4, g5⟩ := h5 j hj
      have hne : k3 ≠ k := fun z => hs (z ▸ g3)
      exact ⟨k3, g1, by rw [fast_8, if_neg e]; exact g2, by rw [fast_52, if_neg hne]; exact g3, by rw [fast_53, if_neg hne]; exact g4, by rw [fast_54, if_neg hne]; exact g5⟩
  · by_cases e : k2 = k
    · subst e
      exact ⟨r, v, v + 1, hr, by omega, by omega, by rw [fast_48, if_pos rfl], by rw [fast_53, if_pos rfl], by rw [fast_54, if_pos rfl], by rw [fast_8, if_pos rfl, fm_upd_same]⟩
    · rw [fast_52, if_neg e] at h1
      obtain ⟨r2, j, v2, g1, g2, g3, g4, g5, g6, g7⟩ := h.2 k2 hk2 h1
      by_cases er : r2 = r
      · subst er
        have ev := hv9 v2 g4 g3
        subst ev
        exact ⟨r2, j, v2 + 1, g1, by omega, by omega, by rw [fast_48, if_pos rfl], by rw [fast_53, if_neg e]; exact g5, by rw [fast_54, if_neg e]; exact g6, by rw [fast_8, if_pos rfl, fm_upd_ne _ _ (by omega)]; exact g7⟩
      · exact ⟨r2, j, v2, g1, g2, g3, by rw [fast_48, if_neg er]; exact g4, by rw [fast_53, if_neg e]; exact g5, by rw [fast_54, if_neg e]; exact g6, by rw [fast_8, if_neg er]; exact g7⟩
/-! unfastening -/
theorem fmIter_in {a : Nat} {f : Nat → Int32} {p c : Nat} {σ : fmS} {i0 : Nat} : ∀ (n : Nat), i0 < n → (f (p + i0 + 1)).toNatClampNeg = c → (∀ i, i < n → i ≠ i0 → (f (p + i + 1)).toNatClampNeg ≠ c) → fmIter (fmMoveIn a f) p σ n 54 a c 0 = nI (p + i0) ∧ fmIter (fmMoveIn a f) p σ n 56 a c 0 = σ 56 a c 0 + 1
  | 0, h, _, _ => absurd h (by omega)
  | n + 1, h, hc, hn => by
    by_cases e : i0 = n
    · subst e
      have hk : fmIter (fmMoveIn a f) p σ i0 56 a c 0 = σ 56 a c 0 := by rw [fmIter_k i0 (fun i hi => hn i (by omega) (by omega))]
      constructor
      · rw [fmIter, fmMoveIn, hc, fmu_c _ _ _ _ _ (by decide), fmu_self]
      · rw [fmIter, fmMoveIn, hc, fmu_self]
        show fmIter (fmMoveIn a f) p σ i0 56 a c 0 + 1 = _
        rw [hk]
    · obtain ⟨h1, h2⟩ := fmIter_in n (by omega) hc (fun i hi => hn i (by omega))
      have hne := hn n (by omega) (fun z => e z.symm)
      exact ⟨by rw [fmIter, fmMoveIn_k hne]; exact h1, by rw [fmIter, fmMoveIn_k hne]; exact h2⟩
theorem unf2_c (σ : fmS) (a r p v : Nat) {c : Nat} (h : c ≠ 8 ∧ c ≠ 48 ∧ c ≠ 54 ∧ c ≠ 56) (m n : Nat) : fmUnf2 σ a r p v c m n = σ c m n := by
  rw [fmUnf2, fmIter_c (fun i τ => fmMoveIn_c h.2.2.1 h.2.2.2 i τ m n), fmGap, fmu_c _ _ _ _ _ h.2.1, fmu_c _ _ _ _ _ h.1]
theorem unf_c (σ : fmS) (a k r p v : Nat) (x : Int32) {c : Nat} (h : c ≠ 8 ∧ c ≠ 48 ∧ c ≠ 54 ∧ c ≠ 56 ∧ c ≠ 45 ∧ c ≠ 52 ∧ c ≠ 53) (m n : Nat) : fmUnf σ a k r p v x c m n = σ c m n := by
  rw [fmUnf, fmu_c _ _ _ _ _ h.2.2.1, fmu_c _ _ _ _ _ h.2.2.2.2.2.2, fmu_c _ _ _ _ _ h.2.2.2.2.2.1, fmu_c _ _ _ _ _ h.2.2.2.2.1, unf2_c _ _ _ _ _ ⟨h.1, h.2.1, h.2.2.1, h.2.2.2.1⟩]
theorem unf_8 (σ : fmS) (a k r p v : Nat) (x : Int32) (r2 : Nat) : fmUnf σ a k r p v x 8 a r2 = if r2 = r then fmShift (σ 8 a r) p v else σ 8 a r2 := by
  rw [fmUnf, fmu_c _ _ _ _ _ (by decide), fmu_c _ _ _ _ _ (by decide), fmu_c _ _ _ _ _ (by decide), fmu_c _ _ _ _ _ (by decide), fmUnf2, fmIter_c (fun i τ => fmMoveIn_c (by decide) (by decide) i τ a r2), fmGap, fmu_c _ _ _ _ _ (by decide)]
  by_cases h : r2 = r
  · subst h; rw [fmu_self, if_pos rfl]
  · rw [if_neg h, fmu_ne _ _ _ _ _ (fun q => h q.2.2)]
theorem unf_48 (σ : fmS) (a k r p v : Nat) (x : Int32) (r2 : Nat) : fmUnf σ a k r p v x 48 a r2 0 = if r2 = r then nI (v - 1) else σ 48 a r2 0 := by
  rw [fmUnf, fmu_c _ _ _ _ _ (by decide), fmu_c _ _ _ _ _ (by decide), fmu_c _ _ _ _ _ (by decide), fmu_c _ _ _ _ _ (by decide), fmUnf2, fmIter_c (fun i τ => fmMoveIn_c (by decide) (by decide) i τ a r2), fmGap]
  by_cases h : r2 = r
  · subst h; rw [fmu_self, if_pos rfl]
  · rw [if_neg h, fmu_ne _ _ _ _ _ (fun q => h q.2.2), fmu_c _ _ _ _ _ (by decide)]
theorem unf_52 (σ : fmS) (a k r p v : Nat) (x : Int32) (k2 : Nat) : fmUnf σ a k r p v x 52 a k2 0 = if k2 = k then x else σ 52 a k2 0 := by
  rw [fmUnf, fmu_c _ _ _ _ _ (by decide), fmu_c _ _ _ _ _ (by decide)]
  by_cases h : k2 = k
  · subst h; rw [fmu_self, if_pos rfl]
  · rw [if_neg h, fmu_ne _ _ _ _ _ (fun q => h q.2.2), fmu_c _ _ _ _ _ (by decide), unf2_c _ _ _ _ _ (by decide)]
theorem unf_53 (σ : fmS) (a k r p v : Nat) (x : Int32) (k2 : Nat) : fmUnf σ a k r p v x 53 a k2 0 = if k2 = k then -1 else σ 53 a k2 0 := by
  rw [fmUnf, fmu_c _ _ _ _ _ (by decide)]
  by_cases h : k2 = k
  · subst h; rw [fmu_self, if_pos rfl]
  · rw [if_neg h, fmu_ne _ _ _ _ _ (fun q => h q.2.2), fmu_c _ _ _ _ _ (by decide), fmu_c _ _ _ _ _ (by decide), unf2_c _ _ _ _ _ (by decide)]
theorem unf_45 (σ : fmS) (a k r p v : Nat) (x : Int32) : fmUnf σ a k r p v x 45 a 0 0 = σ 45 a 0 0 + nI (v - 1 - p) := by
  rw [fmUnf, fmu_c _ _ _ _ _ (by decide), fmu_c _ _ _ _ _ (by decide), fmu_c _ _ _ _ _ (by decide), fmu_self]
theorem unf_54k (σ : fmS) (a k r p v : Nat) (x : Int32) : fmUnf σ a k r p v x 54 a k 0 = -1 := by rw [fmUnf, fmu_self]
/-- an other canoe: moved in where it lay outside, as it was elsewhere -/
theorem unf_out {σ : fmS} {a k r p v k2 : Nat} (x : Int32) (hk : k2 ≠ k) (h : ∀ j, p < j → j < v → (σ 8 a r j).toNatClampNeg ≠ k2) : fmUnf σ a k r p v x 54 a k2 0 = σ 54 a k2 0 ∧ fmUnf σ a k r p v x 56 a k2 0 = σ 56 a k2 0 := by
  constructor
  · rw [fmUnf, fmu_ne _ _ _ _ _ (fun q => hk q.2.2), fmu_c _ _ _ _ _ (by decide), fmu_c _ _ _ _ _ (by decide), fmu_c _ _ _ _ _ (by decide), fmUnf2, fmIter_k _ (fun i hi => h (p + i + 1) (by omega) (by omega)), fmGap, fmu_c _ _ _ _ _ (by decide), fmu_c _ _ _ _ _ (by decide)]
  · rw [fmUnf, fmu_c _ _ _ _ _ (by decide), fmu_c _ _ _ _ _ (by decide), fmu_c _ _ _ _ _ (by decide), fmu_c _ _ _ _ _ (by decide), fmUnf2, fmIter_k _ (fun i hi => h (p + i + 1) (by omega) (by omega)), fmGap, fmu_c _ _ _ _ _ (by decide), fmu_c _ _ _ _ _ (by decide)]
theorem unf_in {σ : fmS} {a k r p v k2 j : Nat} (x : Int32) (hk : k2 ≠ k) (hj : p < j) (hjv : j < v) (hc : (σ 8 a r j).toNatClampNeg = k2) (h : ∀ i, p < i → i < v → i ≠ j → (σ 8 a r i).toNatClampNeg ≠ k2) : fmUnf σ a k r p v x 54 a k2 0 = nI (j - 1) ∧ fmUnf σ a k r p v x 56 a k2 0 = σ 56 a k2 0 + 1 := by
  obtain ⟨h1, h2⟩ := fmIter_in (a := a) (f := σ 8 a r) (p := p) (c := k2) (σ := fmGap σ a r p v) (i0 := j - p - 1) (v - 1 - p) (by omega) (by rw [show p + (j - p - 1) + 1 = j by omega]; exact hc) (fun i hi hne => h (p + i + 1) (by omega) (by omega) (by omega))
  constructor
  · rw [fmUnf, fmu_ne _ _ _ _ _ (fun q => hk q.2.2), fmu_c _ _ _ _ _ (by decide), fmu_c _ _ _ _ _ (by decide), fmu_c _ _ _ _ _ (by decide), fmUnf2, h1]
    congr 1
    omega
  · rw [fmUnf, fmu_c _ _ _ _ _ (by decide), fmu_c _ _ _ _ _ (by decide), fmu_c _ _ _ _ _ (by decide), fmu_c _ _ _ _ _ (by decide), fmUnf2, h2, fmGap, fmu_c _ _ _ _ _ (by decide), fmu_c _ _ _ _ _ (by decide)]
/-- what coherence says of one row: who lies where -/
theorem fmCoh_row {a rc cc r v : Nat} {σ : fmS} (h : fmCoh a rc cc σ) (hcc : cc ≤ 14) (hr : r < rc) (hu : σ 48 a r 0 = nI v) (hv : v ≤ 6) : ∀ j, j < v → ∃ k, k < cc ∧ σ 8 a r j = nI k ∧ σ 52 a k 0 = 1 ∧ σ 53 a k 0 = nI r ∧ σ 54 a k 0 = nI j := by
  obtain ⟨q, v2, h1, h2, h3, h4, h5⟩ := h.1 r hr
  have : v2 = v := fm_nI_inj (h4.symm.trans hu) (by omega) (by omega)
  subst this
  exact h5
theorem fmCoh_inj {a rc cc r v : Nat} {σ : fmS} (h : fmCoh a rc cc σ) (hcc : cc ≤ 14) (hr : r < rc) (hu : σ 48 a r 0 = nI v) (hv : v ≤ 6) {i j : Nat} (hi : i < v) (hj : j < v) (e : (σ 8 a r i).toNatClampNeg = (σ 8 a r j).toNatClampNeg) : i = j := by
  obtain ⟨k1, g1, g2, g3, g4, g5⟩ := fmCoh_row h hcc hr hu hv i hi
  obtain ⟨k2, f1, f2, f3, f4, f5⟩ := fmCoh_row h hcc hr hu hv j hj
  rw [fm_cl g2 (by omega), fm_cl f2 (by omega)] at e
  subst e
  exact fm_nI_inj (g5.symm.trans f5) (by omega) (by omega)
theorem fmCoh_unf {a rc cc k r p v : Nat} {σ : fmS} {x : Int32} (h : fmCoh a rc cc σ) (hrc : rc ≤ 4) (hcc : cc ≤ 14) (hk : k < cc) (hr : r < rc) (hpv : p < v) (hv : v ≤ 6) (hu : σ 48 a r 0 = nI v) (h53 : σ 53 a k 0 = nI r) (h54 : σ 54 a k 0 = nI p) (h8 : σ 8 a r p = nI k) (hx : x ≠ 1) : fmCoh a rc cc (fmUnf σ a k r p v x) := by
  have hrow := fmCoh_row h hcc hr hu hv
  have hinj : ∀ i j, i < v → j < v → (σ 8 a r i).toNatClampNeg = (σ 8 a r j).toNatClampNeg → i = j := fun i j hi hj e => fmCoh_inj h hcc hr hu hv hi hj e
  have hcl : (σ 8 a r p).toNatClampNeg = k := fm_cl h8 (by omega)
  refine ⟨fun r2 hr2 => ?_, fun k2 hk2 h1 => ?_⟩
  · obtain ⟨q2, v2, h1, h2, h3, h4, h5⟩ := h.1 r2 hr2
    by_cases e : r2 = r
    · subst e
      have ev : v2 = v := fm_nI_inj (h4.symm.trans hu) (by omega) (by omega)
      subst ev
      refine ⟨q2, v2 - 1, h1, by omega, by rw [unf_c _ _ _ _ _ _ _ (by decide)]; exact h3, by rw [unf_48, if_pos rfl], fun j hj => ?_⟩
      by_cases ej : p ≤ j
      · obtain ⟨k3, g1, g2, g3, g4, g5⟩ := h5 (j + 1) (by omega)
        have hc3 := fm_cl g2 (by omega)
        have hne : k3 ≠ k := fun z => by
          have := hinj (j + 1) p (by omega) (by omega) (by rw [hc3, hcl, z])
          omega
        obtain ⟨u1, -⟩ := unf_in (σ := σ) (a := a) (k := k) (r := r2) (p := p) (v := v2) (k2 := k3) (j := j + 1) x hne (by omega) (by omega) hc3 (fun i hi1 hi2 hi3 hi4 => hi3 (hinj i (j + 1) (by omega) (by omega) (by rw [hi4, hc3])))
        exact ⟨k3, g1, by rw [unf_8, if_pos rfl, fmShift, if_pos (by omega)]; exact g2, by rw [unf_52, if_neg hne]; exact g3, by rw [unf_53, if_neg hne]; exact g4, by rw [u1]; rfl⟩
      · obtain ⟨k3, g1, g2, g3, g4, g5⟩ := h5 j (by omega)
        have hc3 := fm_cl g2 (by omega)
        have hne : k3 ≠ k := fun z => by
          have := hinj j p (by omega) (by omega) (by rw [hc3, hcl, z])
          omega
        obtain ⟨u1, -⟩ := unf_out (σ := σ) (a := a) (k := k) (r := r2) (p := p) (v := v2) (k2 := k3) x hne (fun i hi1 hi2 hi4 => by
          have := hinj i j (by omega) (by omega) (by rw [hi4, hc3])
          omega)
        exact ⟨k3, g1, by rw [unf_8, if_pos rfl, fmShift, if_neg (by omega)]; exact g2, by rw [unf_52, if_neg hne]; exact g3, by rw [unf_53, if_neg hne]; exact g4, by rw [u1]; exact g5⟩
    · refine ⟨q2, v2, h1, h2, by rw [unf_c _ _ _ _ _ _ _ (by decide)]; exact h3, by rw [unf_48, if_neg e]; exact h4, fun j hj => ?_⟩
      obtain ⟨k3, g1, g2, g3, g4, g5⟩ := h5 j hj
      have hne : k3 ≠ k := fun z => by
        subst z
        exact e (fm_nI_inj (g4.symm.trans h53) (by omega) (by omega))
      obtain ⟨u1, -⟩ := unf_out (σ := σ) (a := a) (k := k) (r := r) (p := p) (v := v) (k2 := k3) x hne (fun i hi1 hi2 hi4 => by
        obtain ⟨k4, f1, f2, f3, f4, f5⟩ := hrow i hi2
        rw [fm_cl f2 (by omega)] at hi4
        subst hi4
        exact e (fm_nI_inj (g4.symm.trans f4) (by omega) (by omega)))
      exact ⟨k3, g1, by rw [unf_8, if_neg e]; exact g2, by rw [unf_52, if_neg hne]; exact g3, by rw [unf_53, if_neg hne]; exact g4, by rw [u1]; exact g5⟩
  · have e : k2 ≠ k := fun z => by
      rw [unf_52, if_pos z] at h1
      exact hx h1
    rw [unf_52, if_neg e] at h1
    obtain ⟨r2, j, v2, g1, g2, g3, g4, g5, g6, g7⟩ := h.2 k2 hk2 h1
    by_cases er : r2 = r
    · subst er
      have ev : v2 = v := fm_nI_inj (g4.symm.trans hu) (by omega) (by omega)
      subst ev
      have hc2 := fm_cl g7 (by omega)
      have hjp : j ≠ p := fun z => by
        subst z
        exact e (by rw [← hc2, hcl])
      by_cases ej : p < j
      · obtain ⟨u1, -⟩ := unf_in (σ := σ) (a := a) (k := k) (r := r2) (p := p) (v := v2) (k2 := k2) (j := j) x e ej g2 hc2 (fun i hi1 hi2 hi3 hi4 => hi3 (hinj i j (by omega) (by omega) (by rw [hi4, hc2])))
        exact ⟨r2, j - 1, v2 - 1, g1, by omega, by omega, by rw [unf_48, if_pos rfl], by rw [unf_53, if_neg e]; exact g5, u1, by rw [unf_8, if_pos rfl, fmShift, if_pos (by omega), show j - 1 + 1 = j by omega]; exact g7⟩
      · obtain ⟨u1, -⟩ := unf_out (σ := σ) (a := a) (k := k) (r := r2) (p := p) (v := v2) (k2 := k2) x e (fun i hi1 hi2 hi4 => by
          have := hinj i j (by omega) (by omega) (by rw [hi4, hc2])
          omega)
        exact ⟨r2, j, v2 - 1, g1, by omega, by omega, by rw [unf_48, if_pos rfl], by rw [unf_53, if_neg e]; exact g5, by rw [u1]; exact g6, by rw [unf_8, if_pos rfl, fmShift, if_neg (by omega)]; exact g7⟩
    · obtain ⟨u1, -⟩ := unf_out (σ := σ) (a := a) (k := k) (r := r) (p := p) (v := v) (k2 := k2) x e (fun i hi1 hi2 hi4 => by
        obtain ⟨k4, f1, f2, f3, f4, f5⟩ := hrow i hi2
        rw [fm_cl f2 (by omega)] at hi4
        subst hi4
        exact er (fm_nI_inj (g5.symm.trans f4) (by omega) (by omega)))
      exact ⟨r2, j, v2, g1, g2, g3, by rw [unf_48, if_neg er]; exact g4, by rw [unf_53, if_neg e]; exact g5, by rw [u1]; exact g6, by rw [unf_8, if_neg er]; exact g7⟩
