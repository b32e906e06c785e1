section SIM24
variable {a b rc cc r v p k t t' g c s n w : Nat} {σ τ σ' τ' σ1 τ1 τ2 u u' : fmS} {x y z : Int32}
/-- a canoe asks another price, ahead -/
theorem ask_go (h : rGo 0 0 rc cc t σ τ) (hk : k < cc) (hg : g < 4) (h2 : ∀ c, c ≠ 22 → c ≠ 19 → τ2 c 0 = τ c 0) (h19 : ∀ q, q ≠ 4 * k + g → τ2 19 0 0 q = τ 19 0 0 q) : rGo 1 1 rc cc t (fmu (fmMC σ 1 0 rc cc) 11 1 k (upd (fmMC σ 1 0 rc cc 11 1 k) g x)) (gBc (fmu τ2 19 0 0 (upd (τ2 19 0 0) (4 * k + g) x)) 1 0) := by
  obtain ⟨hgd, hA, hL⟩ := h
  have hcc : cc ≤ 14 := hgd.1.2.1
  have sc : ∀ c m n, c ≠ 11 → fmu σ 11 0 k (upd (σ 11 0 k) g x) c m n = σ c m n := fun c m n h => fmu_c _ _ _ _ _ h _ _
  have tc : ∀ c m n, c ≠ 19 → fmu τ2 19 0 0 (upd (τ2 19 0 0) (4 * k + g) x) c m n = τ2 c m n := fun c m n h => fmu_c _ _ _ _ _ h _ _
  have hQ : rQ 0 rc cc (fmu σ 11 0 k (upd (σ 11 0 k) g x)) (fmu τ2 19 0 0 (upd (τ2 19 0 0) (4 * k + g) x)) := by
    refine ⟨fun r hr => ?_, fun i hi => ⟨?_, fun d hd => ⟨?_, ?_, ?_⟩⟩, fun j hj => ⟨?_, ?_⟩⟩
    · rw [tc 15 _ _ (by decide), sc 47 _ _ (by decide), h2 15 (by decide) (by decide)]; exact hA.2.2.2.2.1 r hr
    · rw [tc 18 _ _ (by decide), sc 51 _ _ (by decide), h2 18 (by decide) (by decide)]; exact (hA.2.2.2.2.2.1 i hi).1
    · rw [fmu_self]
      by_cases e : i = k
      · subst e
        rw [fmu_self]
        by_cases e2 : d = g
        · subst e2
          rw [fm_upd_same, fm_upd_same]
        · rw [fm_upd_ne _ _ (by omega), fm_upd_ne _ _ e2, h19 _ (by omega)]
          exact ((hA.2.2.2.2.2.1 i hi).2 d hd).1
      · rw [fmu_ne _ _ _ _ _ (fun q => e q.2.2), fm_upd_ne _ _ (by omega), h19 _ (by omega)]
        exact ((hA.2.2.2.2.2.1 i hi).2 d hd).1
    · rw [tc 20 _ _ (by decide), sc 12 _ _ (by decide), h2 20 (by decide) (by decide)]; exact ((hA.2.2.2.2.2.1 i hi).2 d hd).2.1
    · rw [tc 21 _ _ (by decide), sc 13 _ _ (by decide), h2 21 (by decide) (by decide)]; exact ((hA.2.2.2.2.2.1 i hi).2 d hd).2.2
    · rw [tc 16 _ _ (by decide), sc 2 _ _ (by decide), h2 16 (by decide) (by decide)]; exact (hA.2.2.2.2.2.2 j hj).1
    · rw [tc 17 _ _ (by decide), sc 3 _ _ (by decide), h2 17 (by decide) (by decide)]; exact (hA.2.2.2.2.2.2 j hj).2
  have hA1 : rAll 0 0 rc cc (fmu σ 11 0 k (upd (σ 11 0 k) g x)) (fmu τ2 19 0 0 (upd (τ2 19 0 0) (4 * k + g) x)) := rQ_all hA hcc (fun c m h => sc c 0 m (by omega)) (fun c h => by rw [tc c _ _ (by omega), h2 c (by omega) (by omega)]) hQ
  have h3 := cp_all (σ := fmu σ 11 0 k (upd (σ 11 0 k) g x)) ⟨good_ask hgd, hA1, fun i hi => by rw [sc 58 _ _ (by decide)]; exact hL i hi⟩
  refine ⟨good_ask (good_MC (by decide) hgd), rAll_mv h3.2.1 hcc (fun c i hi h => ?_) (fun c i j hi hj h => ?_) (fun c h => ?_) (fun r hr => ?_) (fun c j h => ?_) (fun _ _ _ _ => rfl) (fun _ _ => rfl) (fun _ _ => rfl) (fun _ _ _ => rfl), fun i hi => ?_⟩
  · rw [fmu_c _ _ _ _ _ (by omega), MC_in50 (by decide) (by omega) hi, MC_in50 (by decide) (by omega) hi, sc c _ _ (by omega)]
  · rw [MC_in10 (by decide) h hi hj]
    by_cases e : c = 11
    · subst e
      by_cases e2 : i = k
      · subst e2
        rw [fmu_self, fmu_self]
        by_cases e3 : j = g
        · subst e3; rw [fm_upd_same, fm_upd_same]
        · rw [fm_upd_ne _ _ e3, fm_upd_ne _ _ e3, MC_in10 (by decide) (by decide) hi hj]
      · rw [fmu_ne _ _ _ _ _ (fun q => e2 q.2.2), fmu_ne _ _ _ _ _ (fun q => e2 q.2.2), MC_in10 (by decide) (by decide) hi hj]
    · rw [fmu_c _ _ _ _ _ e, sc c _ _ e, MC_in10 (by decide) h hi hj]
  · rw [fmu_c _ _ _ _ _ (by omega), MC_in40 (by omega), MC_in40 (by omega), sc c _ _ (by omega)]
  · rw [fmu_c _ _ _ _ _ (by decide), MC_in47 (by decide) hr, MC_in47 (by decide) hr, sc 47 _ _ (by decide)]
  · rw [fmu_c _ _ _ _ _ (by omega), MC_m (by decide), MC_m (by decide), sc c _ _ (by omega)]
  · rw [fmu_c _ _ _ _ _ (by decide), MC_in50 (by decide) (by decide) hi]
    exact hL i hi
theorem m1_lt {d : Nat} (h : d < 2 ^ 31) : (-1 : Int32) < nI d := by
  rw [Int32.lt_iff_toInt_lt, nI_toInt h]
  have e : (-1 : Int32).toInt = -1 := by decide
  omega
/-- price -/
theorem pri_all (h : rGo 0 0 rc cc t σ τ) (hk : k < cc) (hg : g < 4) (hn : 56 * (t + n) < 2 ^ 30) {s0 : Nat} (hs0 : s0 ≤ 56 * t) (hs : σ 59 0 k 0 = nI s0) : ∀ j, j ≤ 20 → (gPri rc cc t k (4 * k + g) n τ j).2.1 = (fmPri rc cc t k g n σ j).2.1 ∧ (((fmPri rc cc t k g n σ j).2.2 = -1 ∧ (gPri rc cc t k (4 * k + g) n τ j).2.2 = -1) ∨ ∃ d, d ≤ 56 * n ∧ (fmPri rc cc t k g n σ j).2.2 = nI (s0 + d) ∧ (gPri rc cc t k (4 * k + g) n τ j).2.2 = nI d) ∧ ∀ q, q ≠ 4 * k + g → (gPri rc cc t k (4 * k + g) n τ j).1 19 0 0 q = τ 19 0 0 q
  | 0, _ => ⟨rfl, Or.inl ⟨rfl, rfl⟩, fun _ _ => rfl⟩
  | j + 1, hj => by
    have ih := pri_all h hk hg hn hs0 hs j (by omega)
    have hkp := kp_pri (rc := rc) (cc := cc) (t := t) (k := k) (g := g) (n := n) σ j
    have hgc := fun c hc m => gPri_c (rc := rc) (cc := cc) (t := t) (k := k) (i := 4 * k + g) (n := n) τ (c := c) hc m j
    rw [gPri, fmPri]
    revert ih hkp hgc
    generalize fmPri rc cc t k g n σ j = X
    generalize gPri rc cc t k (4 * k + g) n τ j = Y
    intro ih hkp hgc
    obtain ⟨ih1, ih2, ih3⟩ := ih
    have hcc : cc ≤ 14 := h.1.1.2.1
    have hgo := rGo_kp h hkp (gKp_refl τ)
    have h1 := ask_go (x := nI (j + 1)) (τ2 := Y.1) hgo hk hg (fun c h22 h19 => funext fun m => hgc c ⟨h22, h19⟩ m) ih3
    have h3 := pass_all h1 n (by omega)
    obtain ⟨d, hd, e1⟩ := rU_pass (a := 1) (rc := rc) (t := t) (σ := fmu (fmMC X.1 1 0 rc cc) 11 1 k (upd (fmMC X.1 1 0 rc cc 11 1 k) g (nI (j + 1)))) hcc n k
    have e2 : fmTryA rc cc t k g n (nI (j + 1)) X.1 59 1 k 0 = nI (s0 + d) := by
      rw [fmTryA, e1, fmu_c _ _ _ _ _ (by decide), MC_in50 (by decide) (by decide) hk, hkp 59 0 k (fmOU_0 _), hs, nI_add]
    have e3 : gTryA rc cc t (4 * k + g) n (nI (j + 1)) Y.1 32 1 0 k = nI (s0 + d) := by
      rw [← e2, gTryA, fmTryA]
      exact (h3.2.1.2.1 k hk).2.2.2.2.2.1
    have hK : gKp (fmu Y.1 19 0 0 (upd (Y.1 19 0 0) (4 * k + g) (nI (j + 1)))) (gTryA rc cc t (4 * k + g) n (nI (j + 1)) Y.1) := gKp_trans (gKp_bc _) (gKp_pass rc cc t _ n)
    have e4 : gTryA rc cc t (4 * k + g) n (nI (j + 1)) Y.1 32 0 0 k = nI s0 := by
      rw [hK 32 0 (by decide), fmu_c _ _ _ _ _ (by decide), hgc 32 (by decide) 0, (h.2.1.2.1 k hk).2.2.2.2.2.1, hs]
    have e5 : gOwn (gTryA rc cc t (4 * k + g) n (nI (j + 1)) Y.1) k = nI d := by
      rw [gOwn, e3, e4, pk_sub (by omega), Nat.add_sub_cancel_left]
    have e6 : ∀ q, q ≠ 4 * k + g → gTryA rc cc t (4 * k + g) n (nI (j + 1)) Y.1 19 0 0 q = τ 19 0 0 q := fun q hq => by
      rw [hK 19 0 (by decide), fmu_self, fm_upd_ne _ _ hq, ih3 q hq]
    rw [e5, e2]
    have e7 : X.2.2 < nI (s0 + d) ↔ Y.2.2 < nI d := by
      rcases ih2 with ⟨a1, a2⟩ | ⟨d2, hd2, a1, a2⟩
      · rw [a1, a2]
        exact ⟨fun _ => m1_lt (by omega), fun _ => m1_lt (by omega)⟩
      · rw [a1, a2, nI_ltI (by omega) (by omega), nI_ltI (by omega) (by omega)]
        omega
    by_cases q : Y.2.2 < nI d
    · rw [if_pos q, if_pos (e7.mpr q)]
      exact ⟨rfl, Or.inr ⟨d, hd, rfl, rfl⟩, e6⟩
    · rw [if_neg q, if_neg (fun q2 => q (e7.mp q2))]
      exact ⟨ih1, ih2, e6⟩
end SIM24
