section SIM4
variable {a b rc cc r v p k t : Nat} {σ τ : fmS}
/-- a canoe is moored -/
theorem fast_all (hco : fmCoh a rc cc σ) (hrc : rc ≤ 4) (hcc : cc ≤ 14) (hA : rAll a b rc cc σ τ) (hr : r < rc) (hu : σ 48 a r 0 = nI v) (hv : v ≤ 6) (hk : k < cc) : rAll a b rc cc (fmFast σ a k r v) (gMoor τ b k r cc) := by
  obtain ⟨hM, hS, hZ, hT, hQ⟩ := hA
  have hg := gIn_eq hco hrc hcc hM hr hu hv
  have tc : ∀ c m n, c ≠ 26 ∧ c ≠ 27 ∧ c ≠ 28 → gMoor τ b k r cc c m n = τ c m n := fun c m n h => gMoor_c h m n
  have sc : ∀ c m n, c ≠ 8 ∧ c ≠ 48 ∧ c ≠ 52 ∧ c ≠ 53 ∧ c ≠ 54 → fmFast σ a k r v c m n = σ c m n := fun c m n h => fast_c σ a k r v h m n
  have t26 : gMoor τ b k r cc 26 b 0 = upd (τ 26 b 0) k 1 := by rw [gMoor, fmu_self]
  have t27 : gMoor τ b k r cc 27 b 0 = upd (τ 27 b 0) k (nI r) := by rw [gMoor, fmu_c _ _ _ _ _ (by decide), fmu_self]
  have t28 : gMoor τ b k r cc 28 b 0 = upd (τ 28 b 0) k (nI v) := by rw [gMoor, fmu_c _ _ _ _ _ (by decide), fmu_c _ _ _ _ _ (by decide), fmu_self, hg]
  refine ⟨fun i hi => ?_, fun i hi => ?_, ⟨fun i h1 h2 => ?_, fun i h1 h2 => ?_⟩, ⟨?_, ?_, ?_, ?_⟩, rQ_of hQ (fun c m n h => sc c m n (by omega)) (fun c m n h => tc c m n (by omega))⟩
  · obtain ⟨m1, m2, m3⟩ := hM i hi
    rw [t26, t27, t28, fast_52, fast_53, fast_54]
    by_cases e : i = k
    · subst e
      rw [fm_upd_same, fm_upd_same, fm_upd_same, if_pos rfl, if_pos rfl, if_pos rfl]
      exact ⟨rfl, fun _ => ⟨rfl, rfl⟩, fun q => absurd rfl q⟩
    · rw [fm_upd_ne _ _ e, fm_upd_ne _ _ e, fm_upd_ne _ _ e, if_neg e, if_neg e, if_neg e]
      exact ⟨m1, m2, m3⟩
  · obtain ⟨s1, s2, s3, s4, s5, s6, s7⟩ := hS i hi
    rw [tc 24 _ _ (by decide), tc 29 _ _ (by decide), tc 30 _ _ (by decide), tc 31 _ _ (by decide), tc 32 _ _ (by decide), tc 33 _ _ (by decide), sc 50 _ _ (by decide), sc 55 _ _ (by decide), sc 56 _ _ (by decide), sc 57 _ _ (by decide), sc 59 _ _ (by decide), sc 60 _ _ (by decide)]
    exact ⟨s1, fun g hg => by rw [tc 25 _ _ (by decide), sc 10 _ _ (by decide)]; exact s2 g hg, s3, s4, s5, s6, s7⟩
  · obtain ⟨z1, z2, z3⟩ := hZ.1 i h1 h2
    rw [tc 24 _ _ (by decide), tc 30 _ _ (by decide), tc 31 _ _ (by decide)]
    exact ⟨z1, z2, z3⟩
  · rw [tc 25 _ _ (by decide)]; exact hZ.2 i h1 h2
  · rw [tc 65 _ _ (by decide), sc 43 _ _ (by decide)]; exact hT.1
  · rw [tc 66 _ _ (by decide), sc 44 _ _ (by decide)]; exact hT.2.1
  · rw [sc 45 _ _ (by decide), tc 30 _ _ (by decide)]; exact hT.2.2.1
  · rw [sc 46 _ _ (by decide), tc 31 _ _ (by decide)]; exact hT.2.2.2
theorem gOff1_id {c n : Nat} (h : ∀ i, i < n → gOP τ b c i ≠ true) : gOff1 τ b c n = τ := by
  have h1 : gPl τ b c n = τ 28 b 0 := by funext i; rw [gPl, if_neg (fun q => h i q.1 q.2)]
  have h2 : gLo τ b c n = τ 30 b 0 := by funext i; rw [gLo, if_neg (fun q => h i q.1 q.2)]
  rw [gOff1, h1, h2, fmu_id, fmu_id]
theorem nx_eq (hco : fmCoh a rc cc σ) (hrc : rc ≤ 4) (hcc : cc ≤ 14) (hM : rM a b cc σ τ) (h15 : ∀ r, r < rc → τ 15 0 0 r = σ 47 a r 0) (h0 : 0 < rc) (r0 : Nat) : ∀ d i, gNx τ b rc cc r0 d i = fmNx σ a rc r0 d i
  | 0, _ => rfl
  | d + 1, i => by
    have hr : (r0 + i) % rc < rc := Nat.mod_lt _ h0
    have hF := gFull_eq hco hrc hcc hM hr (h15 _ hr)
    rw [gNx, fmNx, nx_eq hco hrc hcc hM h15 h0 r0 d (i + 1)]
    by_cases c : σ 48 a ((r0 + i) % rc) 0 < σ 47 a ((r0 + i) % rc) 0
    · rw [if_pos c, if_neg (fun q => hF.mp q c)]
    · rw [if_neg c, if_pos (hF.mpr c)]
/-- what the model notes of the canoes that drifted in this step -/
def rD (a cc t : Nat) (σ τ : fmS) : Prop := ∀ k, k < cc → τ 22 0 0 k = if σ 58 a k 0 = nI t then 1 else 0
end SIM4
