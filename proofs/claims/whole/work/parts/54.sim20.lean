/-! WHAT HOLDS BETWEEN CALLS -/
section SIM20
variable {a b rc cc r v p k t t' g c s n : Nat} {σ τ σ' τ' σ1 τ1 u u' : fmS}
/-- goods sold: at most n more -/
def rU (a n : Nat) (σ σ' : fmS) : Prop := ∀ i, ∃ d, d ≤ n ∧ σ' 59 a i 0 = σ 59 a i 0 + nI d
theorem rU_0 (h : ∀ i, σ' 59 a i 0 = σ 59 a i 0) : rU a 0 σ σ' := fun i => ⟨0, Nat.le_refl 0, by rw [h i, nI_0, Int32.add_zero]⟩
theorem rU_trans {m : Nat} (h1 : rU a n σ σ1) (h2 : rU a m σ1 σ') : rU a (n + m) σ σ' := fun i => by
  obtain ⟨d1, l1, e1⟩ := h1 i
  obtain ⟨d2, l2, e2⟩ := h2 i
  exact ⟨d1 + d2, by omega, by rw [e2, e1, Int32.add_assoc, nI_add]⟩
theorem rU_le {m : Nat} (h1 : rU a n σ σ') (h : n ≤ m) : rU a m σ σ' := fun i => by
  obtain ⟨d1, l1, e1⟩ := h1 i
  exact ⟨d1, by omega, e1⟩
theorem rU_Tg : rU a 1 σ (fmTg a rc k g σ) := by
  unfold fmTg
  split
  · cases hb : fmBest σ a rc k g with
    | none => exact rU_le (rU_0 fun _ => rfl) (by omega)
    | some s =>
      intro i
      show ∃ d, d ≤ 1 ∧ fmTr σ a k s g 59 a i 0 = _
      rw [fmTr, fmu_c _ _ _ _ _ (by decide), fmu_c _ _ _ _ _ (by decide), fmTr2_c (by decide) (by decide) (by decide), fmTr1]
      by_cases e : i = s
      · subst e
        exact ⟨1, Nat.le_refl 1, by rw [fmu_self]; rfl⟩
      · exact ⟨0, by omega, by rw [fmu_ne _ _ _ _ _ (fun q => e q.2.2), fmu_c _ _ _ _ _ (by decide), fmu_c _ _ _ _ _ (by decide), nI_0, Int32.add_zero]⟩
  · exact rU_le (rU_0 fun _ => rfl) (by omega)
theorem rU_it {m : Nat} {f : Nat → fmS → fmS} (h : ∀ i τ, rU a m τ (f i τ)) : ∀ n, rU a (m * n) σ (fmIt f σ n)
  | 0 => rU_0 fun _ => rfl
  | n + 1 => rU_trans (rU_it h n) (h n _)
theorem rU_Td : rU a 4 σ (fmTd a rc k σ) := by
  unfold fmTd
  split
  · exact rU_le (rU_it (fun i τ => rU_Tg) 4) (by omega)
  · exact rU_le (rU_0 fun _ => rfl) (by omega)
theorem rU_step (hcc : cc ≤ 14) : rU a 56 σ (fmStep a rc cc t σ) := by
  have h1 : rU a (0 * rc) σ (fmIt (fmDR a rc t (σ 3 0 0 (t % 24))) σ rc) := rU_it (fun r τ => rU_0 fun i => by
    unfold fmDR
    split
    · rfl
    · split
      · unfold fmDrift
        rw [drE_c (by decide)]
        unfold fmDr2
        split
        · rw [unf_c _ _ _ _ _ _ _ (by decide)]
        · rw [fast_c _ _ _ _ _ (by decide), unf_c _ _ _ _ _ _ _ (by decide)]
      · rfl) rc
  have h2 := rU_trans h1 (rU_it (f := fmLv a t) (a := a) (m := 0) (fun k τ => rU_0 fun i => by
    unfold fmLv
    split
    · rw [unf_c _ _ _ _ _ _ _ (by decide)]
    · rfl) cc)
  have h3 := rU_trans h2 (rU_it (f := fmTd a rc) (a := a) (m := 4) (fun k τ => rU_Td) cc)
  unfold fmStep
  exact rU_le (rU_trans h3 (rU_0 (a := a) fun i => by rw [fmu_c _ _ _ _ _ (by decide)])) (by omega)
theorem rU_pass (hcc : cc ≤ 14) : ∀ n, rU a (56 * n) σ (fmPass a rc cc t σ n)
  | 0 => rU_0 fun _ => rfl
  | n + 1 => rU_trans (rU_pass hcc n) (rU_step hcc)
/-- what is still to come is as it was made -/
def rN1 (σ : fmS) (k : Nat) : Prop := (σ 52 0 k 0 = 0 ∧ σ 53 0 k 0 = -1 ∧ σ 54 0 k 0 = -1 ∧ σ 55 0 k 0 = -1 ∧ σ 56 0 k 0 = 0 ∧ σ 57 0 k 0 = 0 ∧ σ 58 0 k 0 = -1 ∧ σ 59 0 k 0 = 0 ∧ σ 60 0 k 0 = 0) ∧ (∀ g, g < 4 → σ 10 0 k g = 0 ∧ σ 11 0 k g = 0 ∧ σ 12 0 k g = 0 ∧ σ 13 0 k g = 0) ∧ (σ 26 0 0 k = 0 ∧ σ 32 0 0 k = 0 ∧ σ 33 0 0 k = 0) ∧ ∀ g, g < 4 → σ 19 0 0 (4 * k + g) = 0 ∧ σ 20 0 0 (4 * k + g) = 0 ∧ σ 21 0 0 (4 * k + g) = 0
def rNw (rc cc : Nat) (σ : fmS) : Prop := (∀ k, cc ≤ k → k < 14 → rN1 σ k) ∧ ∀ r, rc ≤ r → r < 4 → σ 48 0 r 0 = 0
theorem rNw_of (h : rNw rc cc σ) (h1 : ∀ c k, cc ≤ k → (10 ≤ c ∧ c ≤ 13) ∨ (50 ≤ c ∧ c ≤ 60) → σ' c 0 k = σ c 0 k) (h2 : ∀ r, rc ≤ r → σ' 48 0 r = σ 48 0 r) (h3 : ∀ c k, cc ≤ k → c = 26 ∨ c = 32 ∨ c = 33 → σ' c 0 0 k = σ c 0 0 k) (h4 : ∀ c i, 4 * cc ≤ i → 19 ≤ c ∧ c ≤ 21 → σ' c 0 0 i = σ c 0 0 i) : rNw rc cc σ' := by
  refine ⟨fun k hk hk2 => ?_, fun r hr hr2 => by rw [h2 r hr]; exact h.2 r hr hr2⟩
  obtain ⟨g1, g2, g3, g4⟩ := h.1 k hk hk2
  refine ⟨?_, fun g hg => ?_, ?_, fun g hg => ?_⟩
  · rw [h1 52 k hk (by decide), h1 53 k hk (by decide), h1 54 k hk (by decide), h1 55 k hk (by decide), h1 56 k hk (by decide), h1 57 k hk (by decide), h1 58 k hk (by decide), h1 59 k hk (by decide), h1 60 k hk (by decide)]
    exact g1
  · rw [h1 10 k hk (by decide), h1 11 k hk (by decide), h1 12 k hk (by decide), h1 13 k hk (by decide)]
    exact g2 g hg
  · rw [h3 26 k hk (by decide), h3 32 k hk (by decide), h3 33 k hk (by decide)]
    exact g3
  · rw [h4 19 _ (by omega) (by decide), h4 20 _ (by omega) (by decide), h4 21 _ (by omega) (by decide)]
    exact g4 g hg
def rTab (σ : fmS) : Prop := ∀ j, j < 24 → ∃ p q, p ≤ 9 ∧ q ≤ 9 ∧ σ 2 0 0 j = nI p ∧ σ 3 0 0 j = nI q
def rSo (cc t : Nat) (σ : fmS) : Prop := ∀ k, k < cc → ∃ n, n ≤ 56 * t ∧ σ 59 0 k 0 = nI n
def rHd (rc cc t : Nat) (σ : fmS) : Prop := σ 62 0 0 0 = nI rc ∧ σ 63 0 0 0 = nI cc ∧ σ 64 0 0 0 = nI t
def rI (rc cc t : Nat) (σ : fmS) : Prop := rGo 0 0 rc cc t σ σ ∧ rHd rc cc t σ ∧ rNw rc cc σ ∧ rSo cc t σ ∧ rTab σ
/-- the model's columns stay; the class's columns stay -/
def mK (σ u : fmS) : Prop := ∀ c m k, (14 ≤ c ∧ c ≤ 33) ∨ 61 ≤ c → u c m k = σ c m k
def cK (u u' : fmS) : Prop := ∀ c m k, c ≤ 13 ∨ (34 ≤ c ∧ c ≤ 60) → u' c m k = u c m k
theorem mK_refl : mK σ σ := fun _ _ _ _ => rfl
theorem cK_refl : cK σ σ := fun _ _ _ _ => rfl
theorem cK_trans (h1 : cK σ σ1) (h2 : cK σ1 σ') : cK σ σ' := fun c m k h => (h2 c m k h).trans (h1 c m k h)
theorem mK_trans (h1 : mK σ σ1) (h2 : mK σ1 σ') : mK σ σ' := fun c m k h => (h2 c m k h).trans (h1 c m k h)
theorem cK_mu {m k : Nat} {f : Nat → Int32} (h : (14 ≤ c ∧ c ≤ 33) ∨ 61 ≤ c) : cK σ (fmu σ c m k f) := fun c' m' k' h' => fmu_c _ _ _ _ _ (by omega) _ _
theorem mK_mu {m k : Nat} {f : Nat → Int32} (h : c ≤ 13 ∨ (34 ≤ c ∧ c ≤ 60)) : mK σ (fmu σ c m k f) := fun c' m' k' h' => fmu_c _ _ _ _ _ (by omega) _ _
theorem mK_gz (h : mK σ u) {c m k : Nat} (hc : ((14 ≤ c ∧ c ≤ 33) ∨ 61 ≤ c) ∧ c ≠ 61) : gz u c m k = σ c m k := by rw [gz_c hc.2, h c m k hc.1]
theorem rGo_md (h : rGo 0 0 rc cc t σ σ) (hm : mK σ u) : rGo 0 0 rc cc t σ (gz u) :=
  ⟨h.1, rAll_ext h.2.1 h.1.1.2.1 (fun _ _ _ => rfl) (fun _ _ => rfl) (fun c hc => mK_gz hm (by omega)) (fun c hc => mK_gz hm (by omega)), h.2.2⟩
theorem rGo_cl (h : rGo 0 0 rc cc t σ τ) (hc : cK σ τ) : rGo 0 0 rc cc t τ τ :=
  ⟨good_ext h.1 (fun c m k h => hc c m k (by omega)), rAll_ext h.2.1 h.1.1.2.1 (fun c k h => hc c 0 k (by omega)) (fun c h => hc c 0 0 (by omega)) (fun _ _ => rfl) (fun _ _ => rfl), fun k hk => by rw [hc 58 0 k (by decide)]; exact h.2.2 k hk⟩
theorem rI_close (I : rI rc cc t σ) (hm : mK σ u) (hc : cK u u') (hgo : rGo 0 0 rc cc t' u u') (hh : rHd rc cc t' u') (hkB : kB 0 rc cc σ u) (hk11 : ∀ c k, cc ≤ k → 11 ≤ c ∧ c ≤ 13 → u c 0 k = σ c 0 k) (hgB : gB 0 cc u u') (hg19 : ∀ c i, 4 * cc ≤ i → 19 ≤ c ∧ c ≤ 21 → u' c 0 0 i = u c 0 0 i) (hU : rSo cc t' u) (hT : rTab u) : rI rc cc t' u' := by
  refine ⟨rGo_cl hgo hc, hh, rNw_of I.2.2.1 (fun c k hk h => ?_) (fun r hr => ?_) (fun c k hk h => ?_) (fun c i hi h => ?_), fun k hk => ?_, fun j hj => ?_⟩
  · rw [hc c 0 k (by omega)]
    by_cases e : 11 ≤ c ∧ c ≤ 13
    · exact hk11 c k hk e
    · exact hkB.1 c k hk (by omega)
  · rw [hc 48 0 r (by decide)]; exact hkB.2 r hr
  · rw [hgB c k hk h, hm c 0 0 (by omega)]
  · rw [hg19 c i hi h, hm c 0 0 (by omega)]
  · rw [hc 59 0 k (by decide)]; exact hU k hk
  · rw [hc 2 0 0 (by decide), hc 3 0 0 (by decide)]; exact hT j hj
/-- nothing that counts has changed -/
theorem rI_kp (I : rI rc cc t σ) (h : ∀ c k, c ≠ 22 → c ≠ 61 → σ' c 0 k = σ c 0 k) : rI rc cc t σ' := by
  obtain ⟨⟨i1, i2, i3⟩, ⟨j1, j2, j3⟩, i4, i5, i6⟩ := I
  refine ⟨⟨⟨good_hd i1.1 (by rw [h _ _ (by decide) (by decide)]) (by rw [h _ _ (by decide) (by decide)]) (by rw [h _ _ (by decide) (by decide)]), fmCoh_ext i1.2 (fun r => h _ _ (by decide) (by decide)) (fun r => by rw [h _ _ (by decide) (by decide)]) (fun r => by rw [h _ _ (by decide) (by decide)]) (fun r => by rw [h _ _ (by decide) (by decide)]) (fun r => by rw [h _ _ (by decide) (by decide)]) (fun r => by rw [h _ _ (by decide) (by decide)])⟩, rAll_ext i2 i1.1.2.1 (fun c k hc => h _ _ (by omega) (by omega)) (fun c hc => h _ _ (by omega) (by omega)) (fun c hc => h _ _ (by omega) (by omega)) (fun c hc => h _ _ (by omega) (by omega)), fun k hk => by rw [h _ _ (by decide) (by decide)]; exact i3 k hk⟩, ⟨by rw [h _ _ (by decide) (by decide)]; exact j1, by rw [h _ _ (by decide) (by decide)]; exact j2, by rw [h _ _ (by decide) (by decide)]; exact j3⟩, rNw_of i4 (fun c k hk hc => h _ _ (by omega) (by omega)) (fun r hr => h _ _ (by decide) (by decide)) (fun c k hk hc => by rw [h _ _ (by omega) (by omega)]) (fun c k hk hc => by rw [h _ _ (by omega) (by omega)]), fun k hk => by rw [h _ _ (by decide) (by decide)]; exact i5 k hk, fun j hj => by rw [h _ _ (by decide) (by decide), h _ _ (by decide) (by decide)]; exact i6 j hj⟩
/-! the codes -/
def cF : List (Int32 × Prop) → Int32 → Prop
  | [], _ => False
  | (c, q) :: t, k => (q ∧ k = c) ∨ (¬ q ∧ cF t k)
def cN : List (Int32 × Prop) → Prop
  | [] => True
  | (_, q) :: t => ¬ q ∧ cN t
theorem gres_F {ok : Prop} {x : Int32} {k : Int32} : ∀ {L : List (Int32 × Prop)}, cF L k → gRes τ ok x u' L → x = 0 ∧ u' = fmu τ 61 0 0 (fun _ => k)
  | [], h, _ => h.elim
  | (c, q) :: t, h, h2 => by
    rcases h with ⟨h1, rfl⟩ | ⟨h1, h3⟩ <;> rcases h2 with ⟨h4, h5, h6⟩ | ⟨h4, h5⟩
    · exact ⟨h5, h6⟩
    · exact absurd h1 h4
    · exact absurd h4 h1
    · exact gres_F h3 h5
theorem gres_N {ok : Prop} {x : Int32} : ∀ {L : List (Int32 × Prop)}, cN L → gRes τ ok x u' L → ok
  | [], _, h => h
  | (c, q) :: t, h, h2 => by
    rcases h2 with ⟨h4, -⟩ | ⟨h4, h5⟩
    · exact absurd h4 h.1
    · exact gres_N h.2 h5
/-- how a call ends: the codes are alike, and so are the answers -/
def rEnd (T : Nat) (k : Int32) (o' : Nat → Int64) (x : Int64) (u' : fmS) : Prop := (∃ rc cc t', t' ≤ T ∧ rI rc cc t' u') ∧ u' 61 0 0 0 = k ∧ (k = 0 → o' 0 = x)
theorem rEnd_x {T : Nat} {k : Int32} {o' : Nat → Int64} {x : Int64} (I : rI rc cc t σ) (hT : t ≤ T) (hk : k ≠ 0) (hu : u' = fmu (gz σ) 61 0 0 (fun _ => k)) : rEnd T k o' x u' := by
  subst hu
  exact ⟨⟨rc, cc, t, hT, rI_kp I (fun c k h1 h2 => by rw [fmu_c _ _ _ _ _ h2, gz_c h2])⟩, by rw [fmu_self], fun q => absurd q hk⟩
theorem rEnd_0 {T : Nat} {o' : Nat → Int64} {x : Int64} (I : rI rc cc t' u') (hT : t' ≤ T) (h61 : u' 61 0 0 0 = 0) (ho : o' 0 = x) : rEnd T 0 o' x u' := ⟨⟨rc, cc, t', hT, I⟩, h61, fun _ => ho⟩
theorem updL_0 (o : Nat → Int64) (x : Int64) : vp_updL o 0 x 0 = x := by simp [vp_updL]
theorem gz_61 : gz σ 61 0 0 0 = 0 := by rw [gz, fmu_self]
theorem rI_gz (I : rI rc cc t σ) : rI rc cc t (gz σ) := rI_kp I (fun c k h1 h2 => gz_c h2 0 k)
end SIM20
