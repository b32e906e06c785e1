section SIM23
variable {a b rc cc r v p k t t' g c s n w : Nat} {σ τ σ' τ' σ1 τ1 u u' : fmS} {x y z : Int32}
/-- a call that keeps the step and the numbers of rows and canoes -/
theorem rI_same (I : rI rc cc t σ) (hm : mK σ u) (hc : cK (gz u) u') (hgo : rGo 0 0 rc cc t u u') (hh : ∀ c, 62 ≤ c ∧ c ≤ 64 → u' c 0 0 = gz u c 0 0) (hkB : kB 0 rc cc σ u) (hk11 : ∀ c k, cc ≤ k → 11 ≤ c ∧ c ≤ 13 → u c 0 k = σ c 0 k) (hgB : gB 0 cc (gz u) u') (hg19 : ∀ c i, 4 * cc ≤ i → 19 ≤ c ∧ c ≤ 21 → u' c 0 0 i = gz u c 0 0 i) (hU : ∀ k, u 59 0 k 0 = σ 59 0 k 0) (hT : rTab u) : rI rc cc t u' := by
  have hz : gB 0 cc u (gz u) := fun c k h1 h2 => by rw [gz_c (by omega)]
  refine rI_close I hm (cK_trans (fun c m k h => gz_c (by omega) m k) hc) hgo ⟨?_, ?_, ?_⟩ hkB hk11 (gB_trans hz hgB) (fun c i h1 h2 => by rw [hg19 c i h1 h2, gz_c (by omega)]) (fun k hk => by rw [hU k]; exact I.2.2.2.1 k hk) hT
  · rw [hh 62 (by decide), mK_gz hm (by decide)]; exact I.2.1.1
  · rw [hh 63 (by decide), mK_gz hm (by decide)]; exact I.2.1.2.1
  · rw [hh 64 (by decide), mK_gz hm (by decide)]; exact I.2.1.2.2
theorem mK_kp (h : fmKp σ u) : mK σ u := fun c m k hc => h c m k (fun q => by omega)
theorem mK_loc {f : fmS → fmS} (h : fmLoc a f) : mK σ (f σ) := fun c m k hc => h σ c m k (fun q => by omega)
/-- a call that has only looked ahead -/
theorem trial_I (I : rI rc cc t σ) (h1 : fmKp σ u) (h2 : gKp (gz u) u') : rI rc cc t u' := rI_kp I (fun c k h22 h61 => by rw [h2 c k h22, gz_c h61, h1 c 0 k (fmOU_0 c)])
theorem trial_61 (h2 : gKp (gz u) u') : u' 61 0 0 0 = 0 := by rw [h2 61 0 (by decide), gz_61]
theorem rTab_kp (I : rI rc cc t σ) (h2 : ∀ j, u 2 0 0 j = σ 2 0 0 j) (h3 : ∀ j, u 3 0 0 j = σ 3 0 0 j) : rTab u := fun j hj => by
  rw [h2, h3]; exact I.2.2.2.2 j hj
theorem for_eq (hA : rAll 1 1 rc cc σ τ) (hk : k < cc) (hz : z = nI w) (hw : w < 3) : gForR τ k z = fmFor σ k w := by
  obtain ⟨m1, m2, m3⟩ := hA.1 k hk
  have e0 : z = 0 ↔ w = 0 := by rw [hz]; exact nI_eq (b := 0) (by omega) (by decide)
  have e1 : z = 1 ↔ w = 1 := by rw [hz]; exact nI_eq (b := 1) (by omega) (by decide)
  have e3 : (if σ 52 1 k 0 = 1 then τ 27 1 0 k else -1) = σ 53 1 k 0 := by
    by_cases h : σ 52 1 k 0 = 1
    · rw [if_pos h, (m2 h).1]
    · rw [if_neg h, (m3 h).1]
  unfold gForR fmFor
  rw [(hA.2.1 k hk).1, msall_eq hA hk, m1, e3]
  simp only [e0, e1]
/-- of two searches for the first step that do the same -/
theorem first_eq {P Q : Nat → Prop} (h : ∀ i, i ≤ 150 → (P i ↔ Q i)) {A B : Prop} {C1 C2 : Nat → Prop} (h1 : (∃ n, n ≤ 150 ∧ x = nI n ∧ P n ∧ (∀ i, i < n → ¬ P i) ∧ C1 n) ∨ (x = -1 ∧ (∀ i, i < 151 → ¬ P i) ∧ A)) (h2 : (∃ n, n ≤ 150 ∧ y = nI n ∧ Q n ∧ (∀ i, i < n → ¬ Q i) ∧ C2 n) ∨ (y = -1 ∧ (∀ i, i < 151 → ¬ Q i) ∧ B)) : x = y := by
  rcases h1 with ⟨n, a1, a2, a3, a4, -⟩ | ⟨a2, a4, -⟩ <;> rcases h2 with ⟨m, b1, b2, b3, b4, -⟩ | ⟨b2, b4, -⟩
  · have e : n = m := by
      rcases Nat.lt_trichotomy n m with q | q | q
      · exact absurd ((h n a1).mp a3) (b4 n q)
      · exact q
      · exact absurd ((h m b1).mpr b3) (a4 m q)
    rw [a2, b2, e]
  · exact absurd ((h n a1).mp a3) (b4 n (by omega))
  · exact absurd ((h m b1).mpr b3) (a4 m (by omega))
  · rw [a2, b2]
theorem gKp_for (n : Nat) : gKp τ (gPass 1 rc cc t (gBc τ 1 0) n) := gKp_trans (gKp_bc τ) (gKp_pass rc cc t _ n)
theorem kp_for (n : Nat) : fmKp σ (fmPass 1 rc cc t (fmMC σ 1 0 rc cc) n) := kp_trans (kp_MC σ rc cc) (kp_pass _)
theorem for_all (h : rGo 0 0 rc cc t σ τ) (n : Nat) (hn : t + n < 2 ^ 30) : rGo 1 1 rc cc (t + n) (fmPass 1 rc cc t (fmMC σ 1 0 rc cc) n) (gPass 1 rc cc t (gBc τ 1 0) n) := pass_all (cp_all h) n hn
/-- what lies ahead does not bear upon what is -/
theorem rGo_kp (h : rGo 0 0 rc cc t σ τ) (h1 : fmKp σ σ1) (h2 : gKp τ τ1) : rGo 0 0 rc cc t σ1 τ1 :=
  ⟨good_kp h.1 h1, rAll_ext h.2.1 h.1.1.2.1 (fun c k hc => h1 c 0 k (fmOU_0 c)) (fun c hc => h1 c 0 0 (fmOU_0 c)) (fun c hc => h2 c 0 (by omega)) (fun c hc => h2 c 0 (by omega)), fun k hk => by rw [h1 58 0 k (fmOU_0 _)]; exact h.2.2 k hk⟩
/-- advise -/
theorem adv_all (h : rGo 0 0 rc cc t σ τ) (hk : k < cc) (hs : σ 52 0 k 0 = 0) (hn : t + n < 2 ^ 30) : ∀ j, j ≤ rc → (gAdv rc cc t k n τ j).2 = (fmAdv rc cc t k n σ j).2
  | 0, _ => rfl
  | j + 1, hj => by
    have ih := adv_all h hk hs hn j (by omega)
    have hgo := rGo_kp h (kp_adv (rc := rc) (cc := cc) (t := t) (k := k) (n := n) σ j) (gKp_adv (rc := rc) (cc := cc) (t := t) (k := k) (n := n) τ j)
    have hs2 : (fmAdv rc cc t k n σ j).1 52 0 k 0 = 0 := by rw [kp_adv σ j 52 0 k (fmOU_0 _)]; exact hs
    rw [gAdv, fmAdv]
    revert ih hgo hs2
    generalize fmAdv rc cc t k n σ j = X
    generalize gAdv rc cc t k n τ j = Y
    intro ih hgo hs2
    obtain ⟨⟨hrc, hcc, ht, h40, h41, h42⟩, hco⟩ := id hgo.1
    have hF := gFull_eq hco hrc hcc hgo.2.1.1 (r := j) (by omega) (hgo.2.1.2.2.2.2.1 j (by omega))
    by_cases c : X.1 48 0 j 0 < X.1 47 0 j 0
    · have c2 : ¬ gFull Y.1 0 j cc := fun q => hF.mp q c
      obtain ⟨q9, v9, w1, w2, w3, w4⟩ := good_row hgo.1 (r := j) (by omega)
      have hlt := fm_lt_of w4 w3 c (by omega) (by omega)
      have h1 := cp_all hgo
      have h2 := fast_go h1 (k := k) (r := j) (v := v9) (q := q9) hk (by omega) w1 hlt (by rw [MC_in48 (by decide) (by omega)]; exact w4) (by rw [MC_in47 (by decide) (by omega)]; exact w3) (by rw [MC_in50 (by decide) (by decide) hk, hs2]; decide)
      have h3 := pass_all h2 n hn
      have e : gTryM rc cc t k j n Y.1 24 1 0 k = fmTryM rc cc t k j n X.1 50 1 k 0 := by
        rw [gTryM, fmTryM, fm_cl w4 (by omega)]
        exact (h3.2.1.2.1 k hk).1
      rw [if_neg c2, if_pos c, e, ih]
      by_cases d : X.2.2 < fmTryM rc cc t k j n X.1 50 1 k 0
      · rw [if_pos d, if_pos d]
      · rw [if_neg d, if_neg d]
    · rw [if_pos (hF.mpr c), if_neg c, ih]
end SIM23
