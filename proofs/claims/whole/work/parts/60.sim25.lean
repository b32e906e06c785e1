section SIM25
variable {a b rc cc r v p k t t' g c s n w : Nat} {σ τ σ' τ' σ1 τ1 u u' : fmS} {x y z x1 x2 : Int32}
theorem rI_kp2 (I : rI rc cc t σ) (h : ∀ c k, c ≠ 22 → c ≠ 61 → (c ≠ 19 ∨ k = 0) → σ' c 0 k = σ c 0 k) : rI rc cc t σ' := by
  obtain ⟨⟨i1, i2, i3⟩, ⟨j1, j2, j3⟩, i4, i5, i6⟩ := I
  refine ⟨⟨⟨good_hd i1.1 (by rw [h _ _ (by decide) (by decide) (by decide)]) (by rw [h _ _ (by decide) (by decide) (by decide)]) (by rw [h _ _ (by decide) (by decide) (by decide)]), fmCoh_ext i1.2 (fun r => h _ _ (by decide) (by decide) (Or.inl (by decide))) (fun r => by rw [h _ _ (by decide) (by decide) (Or.inl (by decide))]) (fun r => by rw [h _ _ (by decide) (by decide) (Or.inl (by decide))]) (fun r => by rw [h _ _ (by decide) (by decide) (Or.inl (by decide))]) (fun r => by rw [h _ _ (by decide) (by decide) (Or.inl (by decide))]) (fun r => by rw [h _ _ (by decide) (by decide) (Or.inl (by decide))])⟩, rAll_ext i2 i1.1.2.1 (fun c k hc => h _ _ (by omega) (by omega) (by omega)) (fun c hc => h _ _ (by omega) (by omega) (by omega)) (fun c hc => h _ _ (by omega) (by omega) (by omega)) (fun c hc => h _ _ (by omega) (by omega) (by omega)), fun k hk => by rw [h _ _ (by decide) (by decide) (Or.inl (by decide))]; exact i3 k hk⟩, ⟨by rw [h _ _ (by decide) (by decide) (by decide)]; exact j1, by rw [h _ _ (by decide) (by decide) (by decide)]; exact j2, by rw [h _ _ (by decide) (by decide) (by decide)]; exact j3⟩, rNw_of i4 (fun c k hk hc => h _ _ (by omega) (by omega) (by omega)) (fun r hr => h _ _ (by decide) (by decide) (Or.inl (by decide))) (fun c k hk hc => by rw [h _ _ (by omega) (by omega) (by omega)]) (fun c k hk hc => by rw [h _ _ (by omega) (by omega) (by omega)]), fun k hk => by rw [h _ _ (by decide) (by decide) (Or.inl (by decide))]; exact i5 k hk, fun j hj => by rw [h _ _ (by decide) (by decide) (by decide), h _ _ (by decide) (by decide) (by decide)]; exact i6 j hj⟩
theorem offer_c (h : ¬ (11 ≤ c ∧ c ≤ 13)) (m n : Nat) : fmOffer σ k g z x1 x2 c m n = σ c m n := by
  rw [fmOffer, fmu_c _ _ _ _ _ (by omega), fmu_c _ _ _ _ _ (by omega), fmu_c _ _ _ _ _ (by omega)]
theorem offer_k {j : Nat} (h : j ≠ k) (c : Nat) : fmOffer σ k g z x1 x2 c 0 j = σ c 0 j := by
  rw [fmOffer, fmu_ne _ _ _ _ _ (fun q => h q.2.2), fmu_ne _ _ _ _ _ (fun q => h q.2.2), fmu_ne _ _ _ _ _ (fun q => h q.2.2)]
theorem gOffer_c (h : ¬ (19 ≤ c ∧ c ≤ 21)) (m n : Nat) : gOffer σ k g z x1 x2 c m n = σ c m n := by
  rw [gOffer, fmu_c _ _ _ _ _ (by omega), fmu_c _ _ _ _ _ (by omega), fmu_c _ _ _ _ _ (by omega)]
theorem gOffer_i {i : Nat} (h : 19 ≤ c ∧ c ≤ 21) : gOffer σ k g z x1 x2 c 0 0 i = if i = 4 * k + g then (if c = 19 then z else if c = 20 then x1 else x2) else σ c 0 0 i := by
  rcases (show c = 19 ∨ c = 20 ∨ c = 21 by omega) with rfl | rfl | rfl
  · rw [gOffer, fmu_c _ _ _ _ _ (by decide), fmu_c _ _ _ _ _ (by decide), fmu_self]
    by_cases e : i = 4 * k + g
    · rw [e, fm_upd_same, if_pos rfl, if_pos rfl]
    · rw [fm_upd_ne _ _ e, if_neg e]
  · rw [gOffer, fmu_c _ _ _ _ _ (by decide), fmu_self]
    by_cases e : i = 4 * k + g
    · rw [e, fm_upd_same, if_pos rfl, if_neg (by decide), if_pos rfl]
    · rw [fm_upd_ne _ _ e, if_neg e]
  · rw [gOffer, fmu_self]
    by_cases e : i = 4 * k + g
    · rw [e, fm_upd_same, if_pos rfl, if_neg (by decide), if_neg (by decide)]
    · rw [fm_upd_ne _ _ e, if_neg e]
theorem offer_i {h : Nat} (hc : 11 ≤ c ∧ c ≤ 13) : fmOffer σ k g z x1 x2 c 0 k h = if h = g then (if c = 11 then z else if c = 12 then x1 else x2) else σ c 0 k h := by
  rcases (show c = 11 ∨ c = 12 ∨ c = 13 by omega) with rfl | rfl | rfl
  · rw [fmOffer, fmu_c _ _ _ _ _ (by decide), fmu_c _ _ _ _ _ (by decide), fmu_self]
    by_cases e : h = g
    · rw [e, fm_upd_same, if_pos rfl, if_pos rfl]
    · rw [fm_upd_ne _ _ e, if_neg e]
  · rw [fmOffer, fmu_c _ _ _ _ _ (by decide), fmu_self]
    by_cases e : h = g
    · rw [e, fm_upd_same, if_pos rfl, if_neg (by decide), if_pos rfl]
    · rw [fm_upd_ne _ _ e, if_neg e]
  · rw [fmOffer, fmu_self]
    by_cases e : h = g
    · rw [e, fm_upd_same, if_pos rfl, if_neg (by decide), if_neg (by decide)]
    · rw [fm_upd_ne _ _ e, if_neg e]
theorem of_all (hA : rAll 0 0 rc cc σ τ) (hcc : cc ≤ 14) (hk : k < cc) (hg : g < 4) : rAll 0 0 rc cc (fmOffer σ k g z x1 x2) (gOffer τ k g z x1 x2) := by
  refine rQ_all hA hcc (fun c m h => offer_c (by omega) 0 m) (fun c h => gOffer_c (by omega) 0 0) ?_
  have hQ := hA.2.2.2.2
  have key : ∀ c d i h, c = 11 ∧ d = 19 ∨ c = 12 ∧ d = 20 ∨ c = 13 ∧ d = 21 → h < 4 → τ d 0 0 (4 * i + h) = σ c 0 i h → gOffer τ k g z x1 x2 d 0 0 (4 * i + h) = fmOffer σ k g z x1 x2 c 0 i h := by
    intro c d i h hcd hh e
    rw [gOffer_i (by omega)]
    by_cases ei : i = k
    · subst ei
      rw [offer_i (by omega)]
      by_cases eh : h = g
      · rw [if_pos (by omega), if_pos eh]
        rcases hcd with ⟨rfl, rfl⟩ | ⟨rfl, rfl⟩ | ⟨rfl, rfl⟩
        · rw [if_pos rfl, if_pos rfl]
        · rw [if_neg (by decide), if_pos rfl, if_neg (by decide), if_pos rfl]
        · rw [if_neg (by decide), if_neg (by decide), if_neg (by decide), if_neg (by decide)]
      · rw [if_neg (by omega), if_neg eh, e]
    · rw [offer_k ei, if_neg (by omega), e]
  refine ⟨fun r hr => ?_, fun i hi => ⟨?_, fun h hh => ⟨?_, ?_, ?_⟩⟩, fun j hj => ⟨?_, ?_⟩⟩
  · rw [gOffer_c (by decide), offer_c (by decide)]; exact hQ.1 r hr
  · rw [gOffer_c (by decide), offer_c (by decide)]; exact (hQ.2.1 i hi).1
  · exact key 11 19 i h (by decide) hh ((hQ.2.1 i hi).2 h hh).1
  · exact key 12 20 i h (by decide) hh ((hQ.2.1 i hi).2 h hh).2.1
  · exact key 13 21 i h (by decide) hh ((hQ.2.1 i hi).2 h hh).2.2
  · rw [gOffer_c (by decide), offer_c (by decide)]; exact (hQ.2.2 j hj).1
  · rw [gOffer_c (by decide), offer_c (by decide)]; exact (hQ.2.2 j hj).2
/-- the tables of the tide and the wakes -/
theorem sw_all (hA : rAll 0 0 rc cc σ τ) (hcc : cc ≤ 14) : rAll 0 0 rc cc (fmu (fmu σ 2 0 0 (upd (σ 2 0 0) k x)) 3 0 0 (upd (σ 3 0 0) k y)) (fmu (fmu τ 16 0 0 (upd (τ 16 0 0) k x)) 17 0 0 (upd (τ 17 0 0) k y)) := by
  have sc : ∀ c m n, c ≠ 2 ∧ c ≠ 3 → fmu (fmu σ 2 0 0 (upd (σ 2 0 0) k x)) 3 0 0 (upd (σ 3 0 0) k y) c m n = σ c m n := fun c m n h => by rw [fmu_c _ _ _ _ _ h.2, fmu_c _ _ _ _ _ h.1]
  have tc : ∀ c m n, c ≠ 16 ∧ c ≠ 17 → fmu (fmu τ 16 0 0 (upd (τ 16 0 0) k x)) 17 0 0 (upd (τ 17 0 0) k y) c m n = τ c m n := fun c m n h => by rw [fmu_c _ _ _ _ _ h.2, fmu_c _ _ _ _ _ h.1]
  refine rQ_all hA hcc (fun c m h => sc c 0 m (by omega)) (fun c h => tc c 0 0 (by omega)) ?_
  have hQ := hA.2.2.2.2
  refine ⟨fun r hr => ?_, fun i hi => ⟨?_, fun h hh => ⟨?_, ?_, ?_⟩⟩, fun j hj => ⟨?_, ?_⟩⟩
  · rw [tc _ _ _ (by decide), sc _ _ _ (by decide)]; exact hQ.1 r hr
  · rw [tc _ _ _ (by decide), sc _ _ _ (by decide)]; exact (hQ.2.1 i hi).1
  · rw [tc _ _ _ (by decide), sc _ _ _ (by decide)]; exact ((hQ.2.1 i hi).2 h hh).1
  · rw [tc _ _ _ (by decide), sc _ _ _ (by decide)]; exact ((hQ.2.1 i hi).2 h hh).2.1
  · rw [tc _ _ _ (by decide), sc _ _ _ (by decide)]; exact ((hQ.2.1 i hi).2 h hh).2.2
  · rw [fmu_c _ _ _ _ _ (by decide), fmu_self, fmu_c _ _ _ _ _ (by decide), fmu_self]
    exact upd2 _ _ (hQ.2.2 j hj).1 Iff.rfl
  · rw [fmu_self, fmu_self]
    exact upd2 _ _ (hQ.2.2 j hj).2 Iff.rfl
theorem tab_upd {q : Nat} (h : rTab σ) (hx : x = nI p) (hy : y = nI q) (hp : p ≤ 9) (hq : q ≤ 9) : rTab (fmu (fmu σ 2 0 0 (upd (σ 2 0 0) k x)) 3 0 0 (upd (σ 3 0 0) k y)) := fun j hj => by
  obtain ⟨p1, q1, l1, l2, e1, e2⟩ := h j hj
  rw [fmu_c _ _ _ _ _ (by decide), fmu_self, fmu_self]
  by_cases e : j = k
  · exact ⟨p, q, hp, hq, by rw [e, fm_upd_same, hx], by rw [e, fm_upd_same, hy]⟩
  · exact ⟨p1, q1, l1, l2, by rw [fm_upd_ne _ _ e, e1], by rw [fm_upd_ne _ _ e, e2]⟩
theorem no_more {y : Int32} : ¬ (2147483647 : Int32) < y := by
  rw [Int32.lt_iff_toInt_lt]
  have h1 : (2147483647 : Int32).toInt = 2147483647 := by decide
  have h2 := Int32.toInt_lt y
  omega
end SIM25
