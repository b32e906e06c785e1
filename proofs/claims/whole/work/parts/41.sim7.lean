section SIM7
variable {a b rc cc r v p k t : Nat} {σ τ : fmS}
/-- leaving -/
theorem lv_all (hg : fmGood a rc cc t σ) (hA : rAll a b rc cc σ τ) (hk : k < cc) : rAll a b rc cc (fmLv a t k σ) (gLv b cc t k τ) := by
  obtain ⟨⟨hrc, hcc, ht, h40, h41, h42⟩, hco⟩ := id hg
  obtain ⟨m1, m2, -⟩ := hA.1 k hk
  have e29 := (hA.2.1 k hk).2.2.1
  have e16 := (hA.2.2.2.2.2.2 (t % 24) (Nat.mod_lt _ (by decide))).1
  unfold fmLv gLv
  by_cases hs : σ 52 a k 0 = 1
  · have e28 := (m2 hs).2
    by_cases hc : fmTL σ a k (nI t) ∧ ¬ fmDry σ a k t
    · rw [if_pos ⟨hs, hc⟩, if_pos ⟨m1.trans hs, by rw [e29]; exact hc.1.1, by rw [e29]; exact Int32.not_lt.mpr hc.1.2, fun q => hc.2 ⟨hs, by rw [← e28, ← e16]; exact q⟩⟩]
      obtain ⟨r, j, v, g1, g2, g3, g4, g5, g6, g7⟩ := hco.2 k hk hs
      rw [fm_cl g5 (by omega), fm_cl g6 (by omega), fm_cl g4 (by omega)]
      exact unf_all hco hrc hcc hA g1 g4 g3 g2 hk hs g5 g6 g7 (by decide)
    · rw [if_neg (fun q => hc q.2), if_neg (fun q => hc ⟨⟨by rw [← e29]; exact q.2.1, by rw [← e29]; exact Int32.not_lt.mp q.2.2.1⟩, fun d => q.2.2.2 (by show τ 28 b 0 k + τ 16 0 0 (t % 24) < 4; rw [e28, e16]; exact d.2)⟩)]
      exact hA
  · rw [if_neg (fun q => hs q.1), if_neg (fun q => hs (m1.symm.trans q.1))]
    exact hA
theorem it_sim {N : Nat} {P : fmS → fmS → Prop} {f g : Nat → fmS → fmS} (h : ∀ i σ τ, i < N → P σ τ → P (f i σ) (g i τ)) {σ τ : fmS} (h0 : P σ τ) : ∀ n, n ≤ N → P (fmIt f σ n) (fmIt g τ n)
  | 0, _ => h0
  | n + 1, hn => h n _ _ (by omega) (it_sim h h0 n (by omega))
/-- wakes -/
theorem drs_all {w : Int32} (hg : fmGood a rc cc t σ) (hA : rAll a b rc cc σ τ) (hD : rD a cc t σ τ) (hw : w = τ 17 0 0 (t % 24)) : fmGood a rc cc t (fmIt (fmDR a rc t w) σ rc) ∧ rAll a b rc cc (fmIt (fmDR a rc t w) σ rc) (fmIt (fun r τ => gDrift τ b rc cc t r) τ rc) :=
  have h := it_sim (N := rc) (P := fun σ τ => fmGood a rc cc t σ ∧ rAll a b rc cc σ τ ∧ rD a cc t σ τ ∧ w = τ 17 0 0 (t % 24)) (f := fmDR a rc t w) (g := fun r τ => gDrift τ b rc cc t r)
    (fun i σ τ hi h => ⟨good_DR h.1 hi, (dr_all h.1 h.2.1 h.2.2.1 hi h.2.2.2).1, (dr_all h.1 h.2.1 h.2.2.1 hi h.2.2.2).2, by rw [gDrift_c (by decide)]; exact h.2.2.2⟩) ⟨hg, hA, hD, hw⟩ rc (Nat.le_refl rc)
  ⟨h.1, h.2.1⟩
theorem lvs_all (hg : fmGood a rc cc t σ) (hA : rAll a b rc cc σ τ) : fmGood a rc cc t (fmIt (fmLv a t) σ cc) ∧ rAll a b rc cc (fmIt (fmLv a t) σ cc) (fmIt (gLv b cc t) τ cc) :=
  it_sim (N := cc) (P := fun σ τ => fmGood a rc cc t σ ∧ rAll a b rc cc σ τ) (f := fmLv a t) (g := gLv b cc t) (fun i σ τ hi h => ⟨good_Lv h.1 hi, lv_all h.1 h.2 hi⟩) ⟨hg, hA⟩ cc (Nat.le_refl cc)
end SIM7
