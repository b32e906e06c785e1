/-! ANSWERS -/
section SIM22
variable {a b rc cc r v p k t t' g c s n w : Nat} {σ τ σ' τ' σ1 τ1 u u' : fmS} {x y z : Int32}
theorem i_le_lt {x lo hi : Int32} (h : hi.toInt = lo.toInt + 1) : hi ≤ x ↔ lo < x := by
  rw [Int32.le_iff_toInt_le, Int32.lt_iff_toInt_lt, h]
  omega
theorem msall_eq (hA : rAll a b rc cc σ τ) (hk : k < cc) : gMsAll τ b k = fmMsAll σ a k := by
  rw [gMsAll, fmMsAll]
  exact sum_congr 4 (fun g hg => ms_eq hA hk hg)
theorem fig_eq (hA : rAll a 0 rc cc σ τ) (hk : k < cc) : gFig τ k w = fmFig σ a k w := by
  obtain ⟨m1, m2, m3⟩ := hA.1 k hk
  obtain ⟨s1, s2, s3, s4, s5, s6, s7⟩ := hA.2.1 k hk
  have e18 := (hA.2.2.2.2.2.1 k hk).1
  have e3 : (if σ 52 a k 0 = 1 then τ 27 0 0 k else -1) = σ 53 a k 0 := by
    by_cases h : σ 52 a k 0 = 1
    · rw [if_pos h, (m2 h).1]
    · rw [if_neg h, (m3 h).1]
  have e4 : (if σ 52 a k 0 = 1 then τ 28 0 0 k else -1) = σ 54 a k 0 := by
    by_cases h : σ 52 a k 0 = 1
    · rw [if_pos h, (m2 h).2]
    · rw [if_neg h, (m3 h).2]
  unfold gFig fmFig
  rw [s1, e18, m1, e3, e4, s3, s4, s5, s6, s7, msall_eq hA hk]
theorem gft_eq (hA : rAll a 0 rc cc σ τ) (hk : k < cc) (hg : g < 4) (hz : z = nI w) (hw : w < 4) : gGT τ (4 * k + g) z = fmGFig σ a k g w := by
  obtain ⟨q1, q2, q3⟩ := (hA.2.2.2.2.2.1 k hk).2 g hg
  have s2 := (hA.2.1 k hk).2.1 g hg
  have e0 : z = 0 ↔ w = 0 := by rw [hz]; exact nI_eq (b := 0) (by omega) (by decide)
  have e1 : z = 1 ↔ w = 1 := by rw [hz]; exact nI_eq (b := 1) (by omega) (by decide)
  have e2 : z = 2 ↔ w = 2 := by rw [hz]; exact nI_eq (b := 2) (by omega) (by decide)
  unfold gGT fmGFig
  rw [q1, q2, q3, s2]
  simp only [e0, e1, e2]
theorem bes_iff {j : Nat} (hA : rAll a b rc cc σ τ) (hk : k < cc) (hj : j < cc) : gBes τ b k j ↔ fmBes σ a k j := by
  obtain ⟨m1, m2, m3⟩ := hA.1 k hk
  obtain ⟨n1, n2, n3⟩ := hA.1 j hj
  show _ ∧ _ ∧ _ ↔ _ ∧ _ ∧ _
  rw [m1, n1]
  constructor
  · rintro ⟨h1, h2, h3⟩
    rw [(m2 h1).1, (m2 h1).2, (n2 h2).1, (n2 h2).2] at h3
    exact ⟨h1, h2, h3⟩
  · rintro ⟨h1, h2, h3⟩
    rw [(m2 h1).1, (m2 h1).2, (n2 h2).1, (n2 h2).2]
    exact ⟨h1, h2, h3⟩
theorem sum_0 {f : Nat → Int32} {n : Nat} : ∀ d, (∀ i, n ≤ i → i < n + d → f i = 0) → fmSum f (n + d) = fmSum f n
  | 0, _ => rfl
  | d + 1, h => by
    rw [show n + (d + 1) = (n + d) + 1 from rfl, fmSum, h (n + d) (by omega) (by omega), sum_0 d (fun i h1 h2 => h i h1 (by omega)), Int32.add_zero]
theorem sum_to {f : Nat → Int32} {n m : Nat} (h : n ≤ m) (h0 : ∀ i, n ≤ i → i < m → f i = 0) : fmSum f m = fmSum f n := by
  obtain ⟨d, rfl⟩ := Nat.exists_eq_add_of_le h
  exact sum_0 d h0
theorem sum_4 (f : Nat → Int32) : ∀ n, fmSum f (4 * n) = fmSum (fun k => fmSum (fun g => f (4 * k + g)) 4) n
  | 0 => rfl
  | n + 1 => by
    rw [show 4 * (n + 1) = 4 * n + 1 + 1 + 1 + 1 from rfl, fmSum, fmSum, fmSum, fmSum, sum_4 f n, fmSum, fmSum, fmSum, fmSum, fmSum, fmSum]
    simp only [Int32.zero_add, Int32.add_assoc, Nat.add_zero]
theorem cnt_eq (hcc : cc ≤ 14) (hA : rAll a 0 rc cc σ τ) (h62 : τ 62 0 0 0 = σ 40 a 0 0) (h63 : τ 63 0 0 0 = σ 41 a 0 0) (h64 : τ 64 0 0 0 = σ 42 a 0 0) : gCnt τ cc t w = fmMFig σ a cc t w := by
  obtain ⟨hM, hS, hZ, hT, hQ⟩ := hA
  have e3 : ∀ x, gBn τ 0 x cc = fmCnt (fun k => decide (σ 52 a k 0 = x)) cc := fun x => cnt_congr cc (fun k hk => by rw [(hM k hk).1])
  have e5 : fmSum (τ 24 0 0) 14 = fmSum (fun k => σ 50 a k 0) cc := by
    rw [sum_to hcc (fun i h1 h2 => (hZ.1 i h1 h2).1)]
    exact sum_congr cc (fun k hk => (hS k hk).1)
  have e6 : fmSum (τ 25 0 0) 56 = fmSum (fmGds σ a) cc := by
    rw [sum_to (n := 4 * cc) (by omega) (fun i h1 h2 => hZ.2 i h1 h2), sum_4]
    refine sum_congr cc (fun k hk => ?_)
    rw [fmGds]
    exact sum_congr 4 (fun g hg => (hS k hk).2.1 g hg)
  have e11 : gDryN τ t cc = fmCnt (fun k => decide (fmDry σ a k t)) cc := by
    refine cnt_congr cc (fun k hk => ?_)
    obtain ⟨m1, m2, -⟩ := hM k hk
    have e16 := (hQ.2.2 (t % 24) (Nat.mod_lt _ (by decide))).1
    refine decide_eq_decide.mpr ?_
    show τ 26 0 0 k = 1 ∧ τ 28 0 0 k + τ 16 0 0 (t % 24) < 4 ↔ _ ∧ _
    rw [m1, e16]
    constructor
    · rintro ⟨h1, h2⟩
      rw [(m2 h1).2] at h2
      exact ⟨h1, h2⟩
    · rintro ⟨h1, h2⟩
      rw [(m2 h1).2]
      exact ⟨h1, h2⟩
  unfold gCnt fmMFig
  rw [h62, h63, h64, e3, e3, e5, e6, hT.1, hT.2.1, ← hT.2.2.1, ← hT.2.2.2, e11]
/-! the digest -/
theorem fold_congr {f h : Nat → Int64 → Int64} {d : Int64} : ∀ n, (∀ i d, i < n → f i d = h i d) → fmFold f d n = fmFold h d n
  | 0, _ => rfl
  | n + 1, e => by rw [fmFold, fmFold, fold_congr n (fun i d hi => e i d (by omega)), e n _ (by omega)]
theorem fold_4 {f : Nat → Nat → Int64 → Int64} {d : Int64} : ∀ n, fmFold (fun k d => f (k / 4) (k % 4) d) d (4 * n) = fmFold (fun g d => fmFold (fun w d => f g w d) d 4) d n
  | 0 => rfl
  | n + 1 => by
    rw [show 4 * (n + 1) = 4 * n + 1 + 1 + 1 + 1 from rfl, fmFold, fmFold, fmFold, fmFold, fold_4 n, fmFold, fmFold, fmFold, fmFold, fmFold, fmFold]
    rw [show (4 * n + 1 + 1 + 1) / 4 = n by omega, show (4 * n + 1 + 1) / 4 = n by omega, show (4 * n + 1) / 4 = n by omega, show 4 * n / 4 = n by omega, show (4 * n + 1 + 1 + 1) % 4 = 3 by omega, show (4 * n + 1 + 1) % 4 = 2 by omega, show (4 * n + 1) % 4 = 1 by omega, show 4 * n % 4 = 0 by omega]
theorem tab_long {p q : Nat} (hp : p ≤ 9) (hq : q ≤ 9) (d : Int64) : d * 31 + (10 * nI p).toInt64 + (nI q).toInt64 = d * 31 + (10 * nI p + nI q).toInt64 := by
  have e : (10 * nI p + nI q).toInt64 = (10 * nI p).toInt64 + (nI q).toInt64 := by
    have h : ∀ p, p < 10 → ∀ q, q < 10 → (10 * nI p + nI q).toInt64 = (10 * nI p).toInt64 + (nI q).toInt64 := by decide +kernel
    exact h p (by omega) q (by omega)
  rw [e, Int64.add_assoc]
theorem dig_eq (hco : fmCoh a rc cc σ) (hrc : rc ≤ 4) (hcc : cc ≤ 14) (hA : rAll a 0 rc cc σ τ) (hC : ∀ w, gCnt τ cc t w = fmMFig σ a cc t w) (hT : ∀ j, j < 24 → ∃ p q, p ≤ 9 ∧ q ≤ 9 ∧ σ 2 0 0 j = nI p ∧ σ 3 0 0 j = nI q) (ha : a = 0) : gDig τ rc cc t = fmDig σ rc cc t := by
  subst ha
  have h1 : gDg1 τ cc t 12 = fmFold (fun w d => fmD d (fmMFig σ 0 cc t w)) 683 12 := fold_congr 12 (fun w d _ => by rw [hC])
  have h2 : ∀ d, gDg2 τ d 24 = fmFold (fun k d => fmD d (fmEntry σ k)) d 24 := fun d => fold_congr 24 (fun j d hj => by
    obtain ⟨p, q, hp, hq, e1, e2⟩ := hT j hj
    obtain ⟨f1, f2⟩ := hA.2.2.2.2.2.2 j hj
    rw [fmEntry, f1, f2, e1, e2]
    exact tab_long hp hq d)
  have h3 : ∀ d, gDg3 τ cc d rc = fmFold (fun r d => fmRAdd σ 0 r (σ 47 0 r 0).toNatClampNeg d) d rc := fun d => fold_congr rc (fun r d hr => by
    obtain ⟨q, v, g1, g2, g3, g4, -⟩ := hco.1 r hr
    rw [gDgr, fmRAdd, hA.2.2.2.2.1 r hr]
    exact fold_congr _ (fun j d hj => by rw [gAt_eq hco hrc hcc hA.1 hr g4 (by omega)]))
  have h4 : ∀ d, gDg4 τ d cc = fmFold (fun k d => fmCAdd σ 0 k d) d cc := fun d => fold_congr cc (fun k d hk => by
    rw [fmCAdd, gDgb, gDga]
    have e1 : fmFold (fun w d => fmD d (gFig τ k w)) d 11 = fmFold (fun w d => fmD d (fmFig σ 0 k w)) d 11 := fold_congr 11 (fun w d _ => by rw [fig_eq hA hk])
    rw [e1]
    have e2 : ∀ d, fmFold (fun i d => fmD d (gGT τ (4 * k + i / 4) (nI (i % 4)))) d 16 = fmFold (fun i d => fmD d (fmGFig σ 0 k (i / 4) (i % 4))) d 16 := fun d => fold_congr 16 (fun i d hi => by
      rw [gft_eq hA hk (by omega) rfl (Nat.mod_lt _ (by decide))])
    rw [e2]
    exact fold_4 (f := fun g w d => fmD d (fmGFig σ 0 k g w)) 4)
  unfold gDig fmDig
  rw [h1, h2, h3, h4]
end SIM22
