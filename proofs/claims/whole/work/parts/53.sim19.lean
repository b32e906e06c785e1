/-! CANOES AND ROWS THAT ARE STILL TO COME -/
section SIM19
variable {a b rc cc r v p k t g c s n : Nat} {σ τ σ' τ' σ1 τ1 : fmS}
def kB (a rc cc : Nat) (σ σ' : fmS) : Prop := (∀ c k, cc ≤ k → c = 10 ∨ (50 ≤ c ∧ c ≤ 60) → σ' c a k = σ c a k) ∧ ∀ r, rc ≤ r → σ' 48 a r = σ 48 a r
theorem kB_refl : kB a rc cc σ σ := ⟨fun _ _ _ _ => rfl, fun _ _ => rfl⟩
theorem kB_trans (h1 : kB a rc cc σ σ1) (h2 : kB a rc cc σ1 σ') : kB a rc cc σ σ' := ⟨fun c k h h3 => (h2.1 c k h h3).trans (h1.1 c k h h3), fun r h => (h2.2 r h).trans (h1.2 r h)⟩
theorem kB_mu {f : Nat → Int32} (h : c = 10 ∨ (50 ≤ c ∧ c ≤ 60) → k < cc) (h2 : c = 48 → k < rc) : kB a rc cc σ (fmu σ c a k f) :=
  ⟨fun c' k' h3 h4 => fmu_ne _ _ _ _ _ (fun q => by have := h (q.1 ▸ h4); have := q.2.2; omega), fun r h3 => fmu_ne _ _ _ _ _ (fun q => by have := h2 q.1.symm; have := q.2.2; omega)⟩
theorem kB_iter {f : Nat → Int32} : ∀ n, (∀ i, i < n → (f (p + i + 1)).toNatClampNeg < cc) → kB a rc cc σ (fmIter (fmMoveIn a f) p σ n)
  | 0, _ => kB_refl
  | n + 1, h => by
    refine kB_trans (kB_iter n (fun i hi => h i (by omega))) ?_
    show kB a rc cc _ (fmMoveIn a f (p + n) _)
    exact kB_trans (kB_mu (fun _ => h n (by omega)) (fun q => absurd q (by decide))) (kB_mu (fun _ => h n (by omega)) (fun q => absurd q (by decide)))
theorem kB_unf {x : Int32} (hco : fmCoh a rc cc σ) (hcc : cc ≤ 14) (hk : k < cc) (hr : r < rc) (hu : σ 48 a r 0 = nI v) (hv : v ≤ 6) : kB a rc cc σ (fmUnf σ a k r p v x) := by
  unfold fmUnf
  refine kB_trans (kB_trans (kB_trans (kB_trans ?_ (kB_mu (fun q => absurd q (by decide)) (fun q => absurd q (by decide)))) (kB_mu (fun _ => hk) (fun q => absurd q (by decide)))) (kB_mu (fun _ => hk) (fun q => absurd q (by decide)))) (kB_mu (fun _ => hk) (fun q => absurd q (by decide)))
  unfold fmUnf2 fmGap
  refine kB_trans (kB_trans (kB_mu (fun q => absurd q (by decide)) (fun q => absurd q (by decide))) (kB_mu (fun q => absurd q (by decide)) (fun _ => hr))) (kB_iter _ (fun i hi => ?_))
  obtain ⟨k2, c1, c2, -⟩ := fmCoh_row hco hcc hr hu hv (p + i + 1) (by omega)
  rw [fm_cl c2 (by omega)]
  exact c1
theorem kB_fast (hk : k < cc) (hr : r < rc) : kB a rc cc σ (fmFast σ a k r v) := by
  unfold fmFast fmApp
  exact kB_trans (kB_trans (kB_trans (kB_trans (kB_mu (fun _ => hk) (fun q => absurd q (by decide))) (kB_mu (fun _ => hk) (fun q => absurd q (by decide)))) (kB_mu (fun _ => hk) (fun q => absurd q (by decide)))) (kB_mu (fun q => absurd q (by decide)) (fun q => absurd q (by decide)))) (kB_mu (fun q => absurd q (by decide)) (fun _ => hr))
theorem kB_DR {w : Int32} (hg : fmGood a rc cc t σ) (hr : r < rc) : kB a rc cc σ (fmDR a rc t w r σ) := by
  obtain ⟨⟨hrc, hcc, ht, h40, h41, h42⟩, hco⟩ := id hg
  obtain ⟨q, v, g1, g2, g3, g4, g5⟩ := hco.1 r hr
  unfold fmDR
  rw [fm_cl g4 (by omega)]
  split
  · exact kB_refl
  next h0 =>
    obtain ⟨k, c1, c2, -⟩ := g5 (v - 1) (by omega)
    rw [fm_cl c2 (by omega)]
    split
    · unfold fmDrift fmDrE
      refine kB_trans (kB_trans (kB_trans ?_ (kB_mu (fun _ => c1) (fun q => absurd q (by decide)))) (kB_mu (fun q => absurd q (by decide)) (fun q => absurd q (by decide)))) (kB_mu (fun _ => c1) (fun q => absurd q (by decide)))
      refine kB_trans (kB_unf (p := v - 1) (x := 0) hco hcc c1 hr g4 (by omega)) ?_
      unfold fmDr2
      rcases fmNx_or (fmUnf σ a k r (v - 1) v 0) a rc r (by omega) (rc - 1) 1 with q | ⟨r2, q1, q2, q3⟩
      · rw [if_pos q]; exact kB_refl
      · rw [if_neg (by rw [q2]; exact fm_nI_ne r2 (by omega)), q2, fm_cn (by omega)]
        exact kB_fast c1 q1
    · exact kB_refl
theorem kB_Lv (hg : fmGood a rc cc t σ) (hk : k < cc) : kB a rc cc σ (fmLv a t k σ) := by
  obtain ⟨⟨hrc, hcc, ht, h40, h41, h42⟩, hco⟩ := id hg
  unfold fmLv
  split
  next h =>
    obtain ⟨r, j, v, g1, g2, g3, g4, g5, g6, g7⟩ := hco.2 k hk h.1
    rw [fm_cl g5 (by omega), fm_cl g6 (by omega), fm_cl g4 (by omega)]
    exact kB_unf hco hcc hk g1 g4 g3
  · exact kB_refl
theorem ch_cc {x y : Option Nat} {lim : Int32} (hb : ∀ m, x = some m → m < cc) (ht : ∀ m, y = some m → m < cc) : ∀ m, fmCh σ a g lim x y = some m → m < cc := by
  intro m h
  rcases fmCh_or σ a g lim x y with e | e <;> rw [e] at h
  · exact hb m h
  · exact ht m h
theorem best_cc (hco : fmCoh a rc cc σ) (hrc : rc ≤ 4) (hcc : cc ≤ 14) : ∀ m, fmBest σ a rc k g = some m → m < cc := by
  have hat : ∀ x y m, fmAt σ a rc x y = some m → m < cc := fun x y m h => by
    obtain ⟨r, j, h1, h0, h2, h3, h4, -⟩ := (at_iff hco hrc hcc).mp h
    exact h4
  exact ch_cc (ch_cc (ch_cc (ch_cc (fun m h => by cases h) (hat _ _)) (hat _ _)) (hat _ _)) (hat _ _)
theorem kB_Tg (hg : fmGood a rc cc t σ) (hk : k < cc) : kB a rc cc σ (fmTg a rc k g σ) := by
  obtain ⟨⟨hrc, hcc, ht, h40, h41, h42⟩, hco⟩ := id hg
  unfold fmTg
  split
  · cases hb : fmBest σ a rc k g with
    | none => exact kB_refl
    | some s =>
      have hs := best_cc hco hrc hcc s hb
      show kB a rc cc σ (fmTr σ a k s g)
      unfold fmTr fmTr2 fmTr1
      exact kB_trans (kB_trans (kB_trans (kB_trans (kB_trans (kB_trans (kB_trans (kB_mu (fun _ => hs) (fun q => absurd q (by decide))) (kB_mu (fun _ => hs) (fun q => absurd q (by decide)))) (kB_mu (fun _ => hs) (fun q => absurd q (by decide)))) (kB_mu (fun _ => hk) (fun q => absurd q (by decide)))) (kB_mu (fun _ => hk) (fun q => absurd q (by decide)))) (kB_mu (fun _ => hk) (fun q => absurd q (by decide)))) (kB_mu (fun q => absurd q (by decide)) (fun q => absurd q (by decide)))) (kB_mu (fun q => absurd q (by decide)) (fun q => absurd q (by decide)))
  · exact kB_refl
theorem it_invN {N : Nat} {P : fmS → Prop} {f : Nat → fmS → fmS} (h : ∀ i σ, i < N → P σ → P (f i σ)) {σ : fmS} (h0 : P σ) : ∀ n, n ≤ N → P (fmIt f σ n)
  | 0, _ => h0
  | n + 1, hn => h n _ (by omega) (it_invN h h0 n (by omega))
theorem kB_Td (hg : fmGood a rc cc t σ) (hk : k < cc) : kB a rc cc σ (fmTd a rc k σ) := by
  unfold fmTd
  split
  · exact (it_invN (N := 4) (P := fun σ' => fmGood a rc cc t σ' ∧ kB a rc cc σ σ') (f := fmTg a rc k) (fun i σ' hi h => ⟨good_Tg h.1, kB_trans h.2 (kB_Tg h.1 hk)⟩) ⟨hg, kB_refl⟩ 4 (Nat.le_refl 4)).2
  · exact kB_refl
theorem kB_step (hg : fmGood a rc cc t σ) : kB a rc cc σ (fmStep a rc cc t σ) := by
  have h1 := it_invN (N := rc) (P := fun σ' => fmGood a rc cc t σ' ∧ kB a rc cc σ σ') (f := fmDR a rc t (σ 3 0 0 (t % 24))) (fun i σ' hi h => ⟨good_DR h.1 hi, kB_trans h.2 (kB_DR h.1 hi)⟩) ⟨hg, kB_refl⟩ rc (Nat.le_refl rc)
  have h2 := it_invN (N := cc) (P := fun σ' => fmGood a rc cc t σ' ∧ kB a rc cc σ σ') (f := fmLv a t) (fun i σ' hi h => ⟨good_Lv h.1 hi, kB_trans h.2 (kB_Lv h.1 hi)⟩) h1 cc (Nat.le_refl cc)
  have h3 := it_invN (N := cc) (P := fun σ' => fmGood a rc cc t σ' ∧ kB a rc cc σ σ') (f := fmTd a rc) (fun i σ' hi h => ⟨good_Td h.1, kB_trans h.2 (kB_Td h.1 hi)⟩) h2 cc (Nat.le_refl cc)
  unfold fmStep
  exact kB_trans h3.2 (kB_mu (fun q => absurd q (by decide)) (fun q => absurd q (by decide)))
theorem kB_pass (hg : fmGood a rc cc t σ) : ∀ n, t + n < 2 ^ 30 → kB a rc cc σ (fmPass a rc cc t σ n)
  | 0, _ => kB_refl
  | n + 1, hn => kB_trans (kB_pass hg n (by omega)) (kB_step (good_pass hg n (by omega)))
/-! the model -/
def gB (b cc : Nat) (τ τ' : fmS) : Prop := ∀ c k, cc ≤ k → c = 26 ∨ c = 32 ∨ c = 33 → τ' c b 0 k = τ c b 0 k
theorem gB_refl : gB b cc τ τ := fun _ _ _ _ => rfl
theorem gB_trans (h1 : gB b cc τ τ1) (h2 : gB b cc τ1 τ') : gB b cc τ τ' := fun c k h h3 => (h2 c k h h3).trans (h1 c k h h3)
theorem gB_o {m : Nat} {f : Nat → Int32} (h : ¬ (c = 26 ∨ c = 32 ∨ c = 33)) : gB b cc τ (fmu τ c m n f) := fun c' k' h3 h4 => by
  have e : c' ≠ c := fun q => h (by rw [← q]; exact h4)
  rw [fmu_c _ _ _ _ _ e]
theorem gB_u {x : Int32} (hk : k < cc) : gB b cc τ (fmu τ c b 0 (upd (τ c b 0) k x)) := fun c' k' h3 h4 => by
  by_cases e : c' = c
  · subst e
    rw [fmu_self, fm_upd_ne _ _ (by omega)]
  · rw [fmu_c _ _ _ _ _ e]
theorem gB_moor (hk : k < cc) : gB b cc τ (gMoor τ b k r cc) := by
  unfold gMoor
  intro c' k' h3 h4
  by_cases e : c' = 26
  · subst e
    rw [fmu_self, fm_upd_ne _ _ (by omega)]
  · rw [fmu_c _ _ _ _ _ e, fmu_c _ _ _ _ _ (by omega), fmu_c _ _ _ _ _ (by omega)]
theorem gB_drift (hcc : cc ≤ 14) : gB b cc τ (gDrift τ b rc cc t r) := by
  have hC : gDrC τ b r cc = -1 ∨ ∃ k, k < cc ∧ gDrC τ b r cc = nI k := by
    unfold gDrC
    split
    · exact Or.inl rfl
    · rcases gSe_or (gAtP τ b (nI r) (gIn τ b (nI r) cc - 1)) cc 0 with q | ⟨k, h0, h1, h2, -⟩
      · exact Or.inl q
      · exact Or.inr ⟨k, by omega, h2⟩
  unfold gDrift
  rcases hC with q | ⟨k, hk, q⟩
  · rw [if_pos q]; exact gB_refl
  · rw [q, if_neg (fm_nI_ne k (by omega)), fm_cn (by omega)]
    split
    · have h1 : gB b cc τ (gDr1 τ b k) := by
        unfold gDr1
        intro c' k' h3 h4
        by_cases e : c' = 26
        · subst e
          rw [fmu_self, fm_upd_ne _ _ (by omega)]
        · rw [fmu_c _ _ _ _ _ e, fmu_c _ _ _ _ _ (by omega), fmu_c _ _ _ _ _ (by omega)]
      unfold gDr2
      split
      · exact h1
      · exact gB_trans h1 (gB_moor hk)
    · exact gB_refl
theorem gB_off0 {x : Int32} (hk : k < cc) : gB b cc τ (gOff0 τ b k x) := gB_u hk
theorem gB_off (hk : k < cc) : gB b cc τ (gOff τ b k cc) := by
  unfold gOff gOff1
  intro c' k' h3 h4
  rw [fmu_c _ _ _ _ _ (by omega), fmu_c _ _ _ _ _ (by omega)]
  exact gB_off0 hk c' k' h3 h4
theorem gB_lv (hk : k < cc) : gB b cc τ (gLv b cc t k τ) := by
  unfold gLv
  split
  · exact gB_trans (gB_off hk) (gB_off0 hk)
  · exact gB_refl
theorem gB_trade (hk : k < cc) (hcc : cc ≤ 14) : gB b cc τ (gTrade τ b k g cc) := by
  unfold gTrade
  split
  · exact gB_refl
  · rcases gBe_or τ b k g cc with q | ⟨s, hs, q⟩
    · rw [if_pos q]; exact gB_refl
    · rw [q, if_neg (fm_nI_ne s (by omega)), fm_cn (by omega)]
      intro c' k' h3 h4
      rcases h4 with rfl | rfl | rfl
      · rw [gTr_c (by decide)]
      · rw [gTr_32, if_neg (by omega)]
      · rw [gTr_33, if_neg (by omega)]
theorem gB_td (hk : k < cc) (hcc : cc ≤ 14) : gB b cc τ (gTd b cc k τ) := by
  unfold gTd
  split
  · exact it_invN (N := 4) (P := fun τ' => gB b cc τ τ') (f := fun g τ => gTrade τ b k g cc) (fun i τ' hi h => gB_trans h (gB_trade hk hcc)) gB_refl 4 (Nat.le_refl 4)
  · exact gB_refl
theorem gB_step (hcc : cc ≤ 14) : gB b cc τ (gStep b rc cc t τ) := by
  have h0 : gB b cc τ (gDid τ cc) := by
    unfold gDid
    exact gB_o (by decide)
  have h1 := it_invN (N := rc) (P := fun τ' => gB b cc τ τ') (f := fun r τ => gDrift τ b rc cc t r) (fun i τ' hi h => gB_trans h (gB_drift hcc)) h0 rc (Nat.le_refl rc)
  have h2 := it_invN (N := cc) (P := fun τ' => gB b cc τ τ') (f := gLv b cc t) (fun i τ' hi h => gB_trans h (gB_lv hi)) h1 cc (Nat.le_refl cc)
  have h3 := it_invN (N := cc) (P := fun τ' => gB b cc τ τ') (f := gTd b cc) (fun i τ' hi h => gB_trans h (gB_td hi hcc)) h2 cc (Nat.le_refl cc)
  unfold gStep gP3 gP2 gP1
  exact gB_trans h3 (gB_o (by decide))
theorem gB_pass (hcc : cc ≤ 14) : ∀ n, gB b cc τ (gPass b rc cc t τ n)
  | 0 => gB_refl
  | n + 1 => gB_trans (gB_pass hcc n) (gB_step hcc)
end SIM19
