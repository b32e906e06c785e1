/-! THE TRIAL, of class and model -/
section SIM18
variable {a b rc cc r v p k t g c s : Nat} {σ τ : fmS}
def gBcL (a b : Nat) (l : List Nat) (τ : fmS) : fmS := List.foldl (fun τ c => gBc2 τ a b c) τ l
theorem bcL_off : ∀ (l : List Nat) (τ : fmS), c ∉ l → ∀ m n, gBcL a b l τ c m n = τ c m n
  | [], _, _, _, _ => rfl
  | d :: l, τ, h, m, n => by
    show gBcL a b l (gBc2 τ a b d) c m n = _
    rw [bcL_off l _ (fun q => h (List.mem_cons_of_mem _ q)) m n, gBc2, fmu_c _ _ _ _ _ (fun q => h (by rw [q]; exact List.mem_cons_self))]
theorem bcL_in (hab : b ≠ a) {j : Nat} (hj : j < gBcN c) : ∀ (l : List Nat) (τ : fmS), c ∈ l → gBcL a b l τ c a 0 j = τ c b 0 j
  | [], _, h => by cases h
  | d :: l, τ, h => by
    show gBcL a b l (gBc2 τ a b d) c a 0 j = _
    by_cases hc : c ∈ l
    · rw [bcL_in hab hj l _ hc, gBc2, fmu_ne _ _ _ _ _ (fun q => hab q.2.1)]
    · have e : c = d := (List.mem_cons.mp h).resolve_right hc
      subst e
      rw [bcL_off l _ hc, gBc2, fmu_self, fmCp_in _ _ hj]
theorem gBc_L : gBc τ a b = gBcL a b [24, 25, 26, 27, 28, 29, 30, 31, 32, 33] (gBc1 τ a b) := rfl
theorem gBc_in (hab : b ≠ a) {j : Nat} (h : 24 ≤ c ∧ c ≤ 33) (hj : j < gBcN c) : gBc τ a b c a 0 j = τ c b 0 j := by
  rw [gBc_L, bcL_in hab hj _ _ (by simp; omega), gBc1, fmu_c _ _ _ _ _ (by omega), fmu_c _ _ _ _ _ (by omega), fmu_c _ _ _ _ _ (by omega)]
theorem gBc_6 (h : c = 65 ∨ c = 66) : gBc τ a b c a 0 0 = τ c b 0 0 := by
  rw [gBc_L, bcL_off _ _ (by simp; omega), gBc1]
  rcases h with rfl | rfl
  · rw [fmu_c _ _ _ _ _ (by decide), fmu_self]
  · rw [fmu_self]
theorem cp_all (h : rGo 0 0 rc cc t σ τ) : rGo 1 1 rc cc t (fmMC σ 1 0 rc cc) (gBc τ 1 0) := by
  obtain ⟨hg, hA, hL⟩ := h
  have hcc : cc ≤ 14 := hg.1.2.1
  refine ⟨good_MC (by decide) hg, rAll_mv hA hcc (fun c k hk h => MC_in50 (by decide) ⟨h.1, h.2.1⟩ hk 0) (fun c k j hk hj h => MC_in10 (by decide) h hk hj) (fun c h => MC_in40 (by omega) 0) (fun r hr => MC_in47 (by decide) hr 0) (fun c j h => by rw [MC_m (by decide)]) (fun c j hj h => gBc_in (by decide) ⟨h.1, h.2.1⟩ (by rw [gBcN, if_neg h.2.2]; exact hj)) (fun j hj => gBc_in (by decide) (by decide) hj) (fun c h => gBc_6 h) (fun c j h => by rw [gBc_m (by decide)]), fun k hk => ?_⟩
  rw [MC_in50 (by decide) (by decide) hk]
  exact hL k hk
/-- a canoe moors -/
theorem fast_go (h : rGo a b rc cc t σ τ) {q : Nat} (hk : k < cc) (hr : r < rc) (hq : q ≤ 6) (hvq : v < q) (hu : σ 48 a r 0 = nI v) (hp : σ 47 a r 0 = nI q) (hs : σ 52 a k 0 ≠ 1) : rGo a b rc cc t (fmFast σ a k r v) (gMoor τ b k r cc) := by
  obtain ⟨hg, hA, hL⟩ := h
  obtain ⟨⟨hrc, hcc, ht, h40, h41, h42⟩, hco⟩ := id hg
  exact ⟨good_fast hg hk hr hq hvq hu hp hs, fast_all hco hrc hcc hA hr hu (by omega) hk, fun i hi => by rw [fast_c _ _ _ _ _ (by decide)]; exact hL i hi⟩
/-- a canoe leaves its row -/
theorem unf_go (h : rGo a b rc cc t σ τ) (hk : k < cc) (hs : σ 52 a k 0 = 1) {x : Int32} (hx : x ≠ 1) : rGo a b rc cc t (fmUnf σ a k (σ 53 a k 0).toNatClampNeg (σ 54 a k 0).toNatClampNeg (σ 48 a (σ 53 a k 0).toNatClampNeg 0).toNatClampNeg x) (gOff0 (gOff τ b k cc) b k x) := by
  obtain ⟨hg, hA, hL⟩ := h
  obtain ⟨⟨hrc, hcc, ht, h40, h41, h42⟩, hco⟩ := id hg
  refine ⟨good_unf hg hk hs hx, ?_, fun i hi => by rw [unf_c _ _ _ _ _ _ _ (by decide)]; exact hL i hi⟩
  obtain ⟨r, j, v, g1, g2, g3, g4, g5, g6, g7⟩ := hco.2 k hk hs
  rw [fm_cl g5 (by omega), fm_cl g6 (by omega), fm_cl g4 (by omega)]
  exact unf_all hco hrc hcc hA g1 g4 g3 g2 hk hs g5 g6 g7 hx
end SIM18
