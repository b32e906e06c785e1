/-! ONE STEP of a market -/
def fmIt (f : Nat → fmS → fmS) (σ : fmS) : Nat → fmS
  | 0 => σ
  | n + 1 => f n (fmIt f σ n)
def fmDrE (a t k : Nat) (σ : fmS) : fmS := fmu (fmu (fmu σ 57 a k (fun _ => σ 57 a k 0 + 1)) 46 a 0 (fun _ => σ 46 a 0 0 + 1)) 58 a k (fun _ => nI t)
def fmDr2 (σ : fmS) (a rc k r0 : Nat) : fmS := if fmNx σ a rc r0 (rc - 1) 1 = -1 then σ else fmFast σ a k (fmNx σ a rc r0 (rc - 1) 1).toNatClampNeg (σ 48 a (fmNx σ a rc r0 (rc - 1) 1).toNatClampNeg 0).toNatClampNeg
def fmDrift (σ : fmS) (a rc t k r0 v : Nat) : fmS := fmDrE a t k (fmDr2 (fmUnf σ a k r0 (v - 1) v 0) a rc k r0)
def fmDR (a rc t : Nat) (w : Int32) (r : Nat) (σ : fmS) : fmS :=
  if (σ 48 a r 0).toNatClampNeg = 0 then σ else
  if σ 51 a (σ 8 a r ((σ 48 a r 0).toNatClampNeg - 1)).toNatClampNeg 0 < w ∧ σ 58 a (σ 8 a r ((σ 48 a r 0).toNatClampNeg - 1)).toNatClampNeg 0 ≠ nI t then fmDrift σ a rc t (σ 8 a r ((σ 48 a r 0).toNatClampNeg - 1)).toNatClampNeg r (σ 48 a r 0).toNatClampNeg else σ
def fmLv (a t : Nat) (k : Nat) (σ : fmS) : fmS :=
  if σ 52 a k 0 = 1 ∧ fmTL σ a k (nI t) ∧ ¬ fmDry σ a k t then fmUnf σ a k (σ 53 a k 0).toNatClampNeg (σ 54 a k 0).toNatClampNeg (σ 48 a (σ 53 a k 0).toNatClampNeg 0).toNatClampNeg 2 else σ
def fmTg (a rc k : Nat) (g : Nat) (σ : fmS) : fmS := if 0 < fmMs σ a k g then fmTrO σ a k g (fmBest σ a rc k g) else σ
def fmTd (a rc : Nat) (k : Nat) (σ : fmS) : fmS := if σ 52 a k 0 = 1 then fmIt (fmTg a rc k) σ 4 else σ
def fmStep (a rc cc t : Nat) (σ : fmS) : fmS := fmu (fmIt (fmTd a rc) (fmIt (fmLv a t) (fmIt (fmDR a rc t (σ 3 0 0 (t % 24))) σ rc) cc) cc) 42 a 0 (fun _ => nI (t + 1))
def fmPass (a rc cc t : Nat) (σ : fmS) : Nat → fmS
  | 0 => σ
  | n + 1 => fmStep a rc cc (t + n) (fmPass a rc cc t σ n)
/-! each writes the market's own columns alone -/
def fmOff (a c m : Nat) : Prop := ¬ (m = a ∧ (c = 8 ∨ c = 10 ∨ (40 ≤ c ∧ c ≤ 60)))
def fmLoc (a : Nat) (f : fmS → fmS) : Prop := ∀ (σ : fmS) (c m k : Nat), fmOff a c m → f σ c m k = σ c m k
theorem loc_put {a c : Nat} (h : c = 8 ∨ c = 10 ∨ (40 ≤ c ∧ c ≤ 60)) (σ : fmS) (n : Nat) (f : Nat → Int32) {c' m k : Nat} (ho : fmOff a c' m) : fmu σ c a n f c' m k = σ c' m k := fmu_ne _ _ _ _ _ (fun q => ho ⟨q.2.1, by rw [q.1]; exact h⟩)
theorem loc_unf {a k r p v : Nat} (x : Int32) : fmLoc a (fun σ => fmUnf σ a k r p v x) := by
  intro σ c m n ho
  have h1 : ∀ (j : Nat) (τ : fmS) (f : Nat → Int32), fmIter (fmMoveIn a f) p τ j c m n = τ c m n := fun j τ f => fmIter_c (fun i τ => by rw [fmMoveIn, loc_put (by decide) _ _ _ ho, loc_put (by decide) _ _ _ ho]) j
  show fmUnf σ a k r p v x c m n = _
  rw [fmUnf, loc_put (by decide) _ _ _ ho, loc_put (by decide) _ _ _ ho, loc_put (by decide) _ _ _ ho, loc_put (by decide) _ _ _ ho, fmUnf2, h1, fmGap, loc_put (by decide) _ _ _ ho, loc_put (by decide) _ _ _ ho]
theorem loc_fast {a k r v : Nat} : fmLoc a (fun σ => fmFast σ a k r v) := by
  intro σ c m n ho
  show fmFast σ a k r v c m n = _
  rw [fmFast, fmApp, loc_put (by decide) _ _ _ ho, loc_put (by decide) _ _ _ ho, loc_put (by decide) _ _ _ ho, loc_put (by decide) _ _ _ ho, loc_put (by decide) _ _ _ ho]
theorem loc_drift {a rc t k r v : Nat} : fmLoc a (fun σ => fmDrift σ a rc t k r v) := by
  intro σ c m n ho
  show fmDrift σ a rc t k r v c m n = _
  rw [fmDrift, fmDrE, loc_put (by decide) _ _ _ ho, loc_put (by decide) _ _ _ ho, loc_put (by decide) _ _ _ ho, fmDr2]
  split
  · exact loc_unf 0 σ c m n ho
  · exact (loc_fast _ c m n ho).trans (loc_unf 0 σ c m n ho)
theorem loc_it {a : Nat} {f : Nat → fmS → fmS} (h : ∀ i, fmLoc a (f i)) (n : Nat) : fmLoc a (fun σ => fmIt f σ n) := by
  intro σ c m k ho
  show fmIt f σ n c m k = _
  induction n with
  | zero => rfl
  | succ n ih => rw [fmIt, h n _ c m k ho, ih]
theorem loc_DR {a rc t : Nat} {w : Int32} (r : Nat) : fmLoc a (fmDR a rc t w r) := by
  intro σ c m n ho
  unfold fmDR
  split
  · rfl
  · split
    · exact loc_drift σ c m n ho
    · rfl
theorem loc_Lv {a t : Nat} (k : Nat) : fmLoc a (fmLv a t k) := by
  intro σ c m n ho
  unfold fmLv
  split
  · exact loc_unf 2 σ c m n ho
  · rfl
theorem loc_trO {a k g : Nat} {x : Option Nat} : fmLoc a (fun σ => fmTrO σ a k g x) := by
  intro σ c m n ho
  show fmTrO σ a k g x c m n = _
  cases x with
  | none => rfl
  | some s =>
    show fmTr σ a k s g c m n = _
    rw [fmTr, loc_put (by decide) _ _ _ ho, loc_put (by decide) _ _ _ ho, fmTr2, loc_put (by decide) _ _ _ ho, loc_put (by decide) _ _ _ ho, loc_put (by decide) _ _ _ ho, fmTr1, loc_put (by decide) _ _ _ ho, loc_put (by decide) _ _ _ ho, loc_put (by decide) _ _ _ ho]
theorem loc_Tg {a rc k : Nat} (g : Nat) : fmLoc a (fmTg a rc k g) := by
  intro σ c m n ho
  unfold fmTg
  split
  · exact loc_trO σ c m n ho
  · rfl
theorem loc_Td {a rc : Nat} (k : Nat) : fmLoc a (fmTd a rc k) := by
  intro σ c m n ho
  unfold fmTd
  split
  · exact loc_it (fun g => loc_Tg g) 4 σ c m n ho
  · rfl
theorem loc_step {a rc cc t : Nat} : fmLoc a (fmStep a rc cc t) := by
  intro σ c m n ho
  unfold fmStep
  rw [loc_put (by decide) _ _ _ ho]
  exact (loc_it (f := fmTd a rc) loc_Td cc _ c m n ho).trans ((loc_it (f := fmLv a t) loc_Lv cc _ c m n ho).trans (loc_it (f := fmDR a rc t (σ 3 0 0 (t % 24))) loc_DR rc _ c m n ho))
theorem loc_pass {a rc cc t : Nat} (n : Nat) : fmLoc a (fun σ => fmPass a rc cc t σ n) := by
  intro σ c m k ho
  show fmPass a rc cc t σ n c m k = _
  induction n with
  | zero => rfl
  | succ n ih => rw [fmPass, loc_step _ c m k ho, ih]
/-! a coherent market stays coherent -/
def fmGood (a rc cc t : Nat) (σ : fmS) : Prop := fmHd a rc cc t σ ∧ fmCoh a rc cc σ
theorem fmNx_or (σ : fmS) (a rc r0 : Nat) (hrc : 0 < rc) : ∀ (d i : Nat), fmNx σ a rc r0 d i = -1 ∨ ∃ r, r < rc ∧ fmNx σ a rc r0 d i = nI r ∧ σ 48 a r 0 < σ 47 a r 0
  | 0, _ => Or.inl rfl
  | d + 1, i => by
    rw [fmNx]
    by_cases h : σ 48 a ((r0 + i) % rc) 0 < σ 47 a ((r0 + i) % rc) 0
    · rw [if_pos h]
      exact Or.inr ⟨_, Nat.mod_lt _ hrc, rfl, h⟩
    · rw [if_neg h]
      exact fmNx_or σ a rc r0 hrc d (i + 1)
theorem fm_nI_ne (r : Nat) (h : r < 2 ^ 31) : nI r ≠ -1 := by
  intro q
  have h1 := congrArg Int32.toInt q
  rw [nI_toInt h] at h1
  have h2 : (-1 : Int32).toInt = -1 := by decide
  omega
theorem fm_lt_of {x y : Int32} {i j : Nat} (hx : x = nI i) (hy : y = nI j) (h : x < y) (hi : i < 2 ^ 31) (hj : j < 2 ^ 31) : i < j := by
  rw [hx, hy] at h
  exact (nI_ltI hi hj).mp h
theorem good_hd {a rc cc t : Nat} {σ τ : fmS} (h : fmHd a rc cc t σ) (h40 : τ 40 a 0 0 = σ 40 a 0 0) (h41 : τ 41 a 0 0 = σ 41 a 0 0) (h42 : τ 42 a 0 0 = σ 42 a 0 0) : fmHd a rc cc t τ := ⟨h.1, h.2.1, h.2.2.1, by rw [h40]; exact h.2.2.2.1, by rw [h41]; exact h.2.2.2.2.1, by rw [h42]; exact h.2.2.2.2.2⟩
theorem good_unf {a rc cc t k : Nat} {σ : fmS} {x : Int32} (h : fmGood a rc cc t σ) (hk : k < cc) (hs : σ 52 a k 0 = 1) (hx : x ≠ 1) : fmGood a rc cc t (fmUnf σ a k (σ 53 a k 0).toNatClampNeg (σ 54 a k 0).toNatClampNeg (σ 48 a (σ 53 a k 0).toNatClampNeg 0).toNatClampNeg x) := by
  obtain ⟨hd, hc⟩ := h
  obtain ⟨r, j, v, g1, g2, g3, g4, g5, g6, g7⟩ := hc.2 k hk hs
  have hcc := hd.2.1
  have hrc := hd.1
  rw [fm_cl g5 (by omega), fm_cl g6 (by omega), fm_cl g4 (by omega)]
  exact ⟨good_hd hd (by rw [unf_c _ _ _ _ _ _ _ (by decide)]) (by rw [unf_c _ _ _ _ _ _ _ (by decide)]) (by rw [unf_c _ _ _ _ _ _ _ (by decide)]), fmCoh_unf hc hrc hcc hk g1 g2 g3 g4 g5 g6 g7 hx⟩
theorem good_ext {a rc cc t : Nat} {σ τ : fmS} (h : fmGood a rc cc t σ) (he : ∀ c m k, c = 8 ∨ c = 40 ∨ c = 41 ∨ c = 42 ∨ c = 47 ∨ c = 48 ∨ c = 52 ∨ c = 53 ∨ c = 54 → τ c m k = σ c m k) : fmGood a rc cc t τ :=
  ⟨good_hd h.1 (by rw [he 40 a 0 (by decide)]) (by rw [he 41 a 0 (by decide)]) (by rw [he 42 a 0 (by decide)]), fmCoh_ext h.2 (fun r => he 8 a r (by decide)) (fun r => by rw [he 47 a r (by decide)]) (fun r => by rw [he 48 a r (by decide)]) (fun r => by rw [he 52 a r (by decide)]) (fun r => by rw [he 53 a r (by decide)]) (fun r => by rw [he 54 a r (by decide)])⟩
theorem good_Lv {a rc cc t k : Nat} {σ : fmS} (h : fmGood a rc cc t σ) (hk : k < cc) : fmGood a rc cc t (fmLv a t k σ) := by
  unfold fmLv
  split
  next q => exact good_unf h hk q.1 (by decide)
  · exact h
theorem good_drift {a rc cc t k r v : Nat} {σ : fmS} (h : fmGood a rc cc t σ) (hr : r < rc) (hu : σ 48 a r 0 = nI v) (h0 : 0 < v) (hv : v ≤ 6) (h8 : σ 8 a r (v - 1) = nI k) (hk : k < 2 ^ 31) : fmGood a rc cc t (fmDrift σ a rc t k r v) := by
  obtain ⟨hd, hc⟩ := h
  obtain ⟨hrc, hcc, ht, h40, h41, h42⟩ := id hd
  obtain ⟨k2, g1, g2, g3, g4, g5⟩ := fmCoh_row hc hcc hr hu hv (v - 1) (by omega)
  have e : k2 = k := fm_nI_inj (g2.symm.trans h8) (by omega) hk
  subst e
  have c1 : fmCoh a rc cc (fmUnf σ a k2 r (v - 1) v 0) := fmCoh_unf hc hrc hcc g1 hr (by omega) hv hu g4 g5 h8 (by decide)
  have hgood1 : fmGood a rc cc t (fmUnf σ a k2 r (v - 1) v 0) := ⟨good_hd hd (by rw [unf_c _ _ _ _ _ _ _ (by decide)]) (by rw [unf_c _ _ _ _ _ _ _ (by decide)]) (by rw [unf_c _ _ _ _ _ _ _ (by decide)]), c1⟩
  have hgood2 : fmGood a rc cc t (fmDr2 (fmUnf σ a k2 r (v - 1) v 0) a rc k2 r) := by
    unfold fmDr2
    rcases fmNx_or (fmUnf σ a k2 r (v - 1) v 0) a rc r (by omega) (rc - 1) 1 with q | ⟨r2, q1, q2, q3⟩
    · rw [if_pos q]; exact hgood1
    · rw [if_neg (by rw [q2]; exact fm_nI_ne r2 (by omega)), q2, fm_cn (by omega)]
      obtain ⟨q9, v9, f1, f2, f3, f4, f5⟩ := c1.1 r2 q1
      rw [fm_cl f4 (by omega)]
      exact ⟨good_hd hgood1.1 (by rw [fast_c _ _ _ _ _ (by decide)]) (by rw [fast_c _ _ _ _ _ (by decide)]) (by rw [fast_c _ _ _ _ _ (by decide)]), fmCoh_fast c1 hrc hcc g1 q1 f1 (fm_lt_of f4 f3 q3 (by omega) (by omega)) f4 f3 (by rw [unf_52, if_pos rfl]; decide)⟩
  unfold fmDrift fmDrE
  exact good_ext hgood2 (fun c m n hcn => by
    rw [fmu_c _ _ _ _ _ (by omega), fmu_c _ _ _ _ _ (by omega), fmu_c _ _ _ _ _ (by omega)])
theorem good_DR {a rc cc t r : Nat} {w : Int32} {σ : fmS} (h : fmGood a rc cc t σ) (hr : r < rc) : fmGood a rc cc t (fmDR a rc t w r σ) := by
  obtain ⟨q, v, h1, h2, h3, h4, h5⟩ := h.2.1 r hr
  unfold fmDR
  rw [fm_cl h4 (by omega)]
  split
  · exact h
  next h0 =>
    split
    · obtain ⟨k, g1, g2, -⟩ := h5 (v - 1) (by omega)
      have := h.1.2.1
      rw [fm_cl g2 (by omega)]
      exact good_drift h hr h4 (by omega) (by omega) g2 (by omega)
    · exact h
theorem trO_c {a k g : Nat} {x : Option Nat} {σ : fmS} {c : Nat} (h : c ≠ 10 ∧ c ≠ 50 ∧ c ≠ 59 ∧ c ≠ 60 ∧ c ≠ 43 ∧ c ≠ 44) (m n : Nat) : fmTrO σ a k g x c m n = σ c m n := by
  cases x with
  | none => rfl
  | some s =>
    show fmTr σ a k s g c m n = _
    rw [fmTr, fmu_c _ _ _ _ _ h.2.2.2.2.2, fmu_c _ _ _ _ _ h.2.2.2.2.1, fmTr2_c h.1 h.2.1 h.2.2.2.1, fmTr1_c h.1 h.2.1 h.2.2.1]
theorem Tg_c {a rc k g : Nat} {σ : fmS} {c : Nat} (h : c ≠ 10 ∧ c ≠ 50 ∧ c ≠ 59 ∧ c ≠ 60 ∧ c ≠ 43 ∧ c ≠ 44) (m n : Nat) : fmTg a rc k g σ c m n = σ c m n := by
  unfold fmTg
  split
  · exact trO_c h m n
  · rfl
theorem it_c {f : Nat → fmS → fmS} {c m k : Nat} (h : ∀ i τ, f i τ c m k = τ c m k) (σ : fmS) (n : Nat) : fmIt f σ n c m k = σ c m k := by
  induction n with
  | zero => rfl
  | succ n ih => rw [fmIt, h, ih]
theorem Td_c {a rc k : Nat} {σ : fmS} {c : Nat} (h : c ≠ 10 ∧ c ≠ 50 ∧ c ≠ 59 ∧ c ≠ 60 ∧ c ≠ 43 ∧ c ≠ 44) (m n : Nat) : fmTd a rc k σ c m n = σ c m n := by
  unfold fmTd
  split
  · exact it_c (fun i τ => Tg_c h m n) σ 4
  · rfl
theorem good_Tg {a rc cc t k g : Nat} {σ : fmS} (h : fmGood a rc cc t σ) : fmGood a rc cc t (fmTg a rc k g σ) := good_ext h (fun c m n hc => Tg_c (by omega) m n)
theorem good_Td {a rc cc t k : Nat} {σ : fmS} (h : fmGood a rc cc t σ) : fmGood a rc cc t (fmTd a rc k σ) := good_ext h (fun c m n hc => Td_c (by omega) m n)
theorem good_it {a rc cc t N : Nat} {f : Nat → fmS → fmS} (hf : ∀ i τ, i < N → fmGood a rc cc t τ → fmGood a rc cc t (f i τ)) {σ : fmS} (h : fmGood a rc cc t σ) : ∀ n, n ≤ N → fmGood a rc cc t (fmIt f σ n) := by
  intro n
  induction n with
  | zero => intro _; exact h
  | succ n ih => intro hn; exact hf n _ (by omega) (ih (by omega))
theorem good_step {a rc cc t : Nat} {σ : fmS} (h : fmGood a rc cc t σ) (ht : t + 1 < 2 ^ 30) : fmGood a rc cc (t + 1) (fmStep a rc cc t σ) := by
  have g1 := good_it (f := fmDR a rc t (σ 3 0 0 (t % 24))) (fun i τ hi hg => good_DR hg hi) h rc (Nat.le_refl _)
  have g2 := good_it (f := fmLv a t) (fun i τ hi hg => good_Lv hg hi) g1 cc (Nat.le_refl _)
  have g3 := good_it (N := cc) (f := fmTd a rc) (fun i τ hi hg => good_Td hg) g2 cc (Nat.le_refl _)
  obtain ⟨⟨k1, k2, k3, k4, k5, k6⟩, kc⟩ := g3
  unfold fmStep
  exact ⟨⟨k1, k2, ht, by rw [fmu_c _ _ _ _ _ (by decide)]; exact k4, by rw [fmu_c _ _ _ _ _ (by decide)]; exact k5, by rw [fmu_self]⟩, fmCoh_ext kc (fun r => fmu_c _ _ _ _ _ (by decide) _ _) (fun r => by rw [fmu_c _ _ _ _ _ (by decide)]) (fun r => by rw [fmu_c _ _ _ _ _ (by decide)]) (fun r => by rw [fmu_c _ _ _ _ _ (by decide)]) (fun r => by rw [fmu_c _ _ _ _ _ (by decide)]) (fun r => by rw [fmu_c _ _ _ _ _ (by decide)])⟩
theorem good_pass {a rc cc t : Nat} {σ : fmS} (h : fmGood a rc cc t σ) : ∀ n, t + n < 2 ^ 30 → fmGood a rc cc (t + n) (fmPass a rc cc t σ n)
  | 0, _ => h
  | n + 1, hn => good_step (good_pass h n (by omega)) (by omega)
theorem fmCoh_hm {a rc cc r p v k : Nat} {σ : fmS} (h : fmCoh a rc cc σ) (hcc : cc ≤ 14) (hr : r < rc) (hu : σ 48 a r 0 = nI v) (hv : v ≤ 6) (hpv : p < v) (h8 : σ 8 a r p = nI k) (hk : k < 2 ^ 31) : ∀ i, p < i → i < v → ∃ c, c < 14 ∧ c ≠ k ∧ σ 8 a r i = nI c := by
  intro i h1 h2
  obtain ⟨c, g1, g2, -⟩ := fmCoh_row h hcc hr hu hv i h2
  refine ⟨c, by omega, fun z => ?_, g2⟩
  have := fmCoh_inj h hcc hr hu hv h2 hpv (by rw [fm_cl g2 (by omega), fm_cl h8 hk, z])
  omega
theorem fmBest_lt {σ : fmS} {a rc k g : Nat} (hrc : rc ≤ 4) (hB : fmBd σ a rc) : ∀ c, fmBest σ a rc k g = some c → c < 14 :=
  fmCh_lt (fmCh_lt (fmCh_lt (fmCh_lt (fun c h => by cases h) (fmAt_lt hrc hB _ _)) (fmAt_lt hrc hB _ _)) (fmAt_lt hrc hB _ _)) (fmAt_lt hrc hB _ _)
theorem fmAt_top0 {σ : fmS} {a rc r : Nat} (y : Int32) (hy : y < 0) : fmAt σ a rc (nI r) y = none := by
  have e : fmRAt σ a (nI r).toNatClampNeg y = -1 := by unfold fmRAt; rw [if_neg (fun q => q.1 hy)]
  unfold fmAt
  by_cases h : ¬ nI r < 0 ∧ nI r < nI rc
  · rw [if_pos h, if_pos e]
  · rw [if_neg h]
theorem fmAt_is {σ : fmS} {a rc r v j k : Nat} (hrc : rc ≤ 4) (hr : r < rc) (hu : σ 48 a r 0 = nI v) (hv : v ≤ 6) (hj : j < v) (h8 : σ 8 a r j = nI k) (hk : k < 2 ^ 31) : fmAt σ a rc (nI r) (nI j) = some k := by
  have e : fmRAt σ a r (nI j) = nI k := by
    unfold fmRAt
    rw [if_pos ⟨nI_pos (by omega), by rw [hu]; exact nI_lt hj (by omega)⟩, fm_cn (by omega)]
    exact h8
  unfold fmAt
  rw [if_pos ⟨nI_pos (by omega), nI_lt hr (by omega)⟩, fm_cn (by omega), e, if_neg (fm_nI_ne k hk), fm_cn hk]
