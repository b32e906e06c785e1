/-! THE MODEL, AHEAD -/
theorem gBc_m {σ : fmS} {a b m : Nat} (h : m ≠ a) (c k : Nat) : gBc σ a b c m k = σ c m k := by
  rw [gBc, gBc2, gBc2, gBc2, gBc2, gBc2, gBc2, gBc2, gBc2, gBc2, gBc2, fmu_ne _ _ _ _ _ (fun q => h q.2.1), fmu_ne _ _ _ _ _ (fun q => h q.2.1), fmu_ne _ _ _ _ _ (fun q => h q.2.1), fmu_ne _ _ _ _ _ (fun q => h q.2.1), fmu_ne _ _ _ _ _ (fun q => h q.2.1), fmu_ne _ _ _ _ _ (fun q => h q.2.1), fmu_ne _ _ _ _ _ (fun q => h q.2.1), fmu_ne _ _ _ _ _ (fun q => h q.2.1), fmu_ne _ _ _ _ _ (fun q => h q.2.1), fmu_ne _ _ _ _ _ (fun q => h q.2.1), gBc1, fmu_ne _ _ _ _ _ (fun q => h q.2.1), fmu_ne _ _ _ _ _ (fun q => h q.2.1), fmu_ne _ _ _ _ _ (fun q => h q.2.1)]
theorem gBc_64 {σ : fmS} {a b : Nat} : gBc σ a b 64 a 0 0 = σ 64 b 0 0 := by
  rw [gBc, gBc2, gBc2, gBc2, gBc2, gBc2, gBc2, gBc2, gBc2, gBc2, gBc2, fmu_c _ _ _ _ _ (by decide), fmu_c _ _ _ _ _ (by decide), fmu_c _ _ _ _ _ (by decide), fmu_c _ _ _ _ _ (by decide), fmu_c _ _ _ _ _ (by decide), fmu_c _ _ _ _ _ (by decide), fmu_c _ _ _ _ _ (by decide), fmu_c _ _ _ _ _ (by decide), fmu_c _ _ _ _ _ (by decide), fmu_c _ _ _ _ _ (by decide), gBc1, fmu_c _ _ _ _ _ (by decide), fmu_c _ _ _ _ _ (by decide), fmu_self]
/-- what a step ahead leaves alone -/
def gKp (σ τ : fmS) : Prop := ∀ c k, c ≠ 22 → τ c 0 k = σ c 0 k
theorem gKp_refl (σ : fmS) : gKp σ σ := fun _ _ _ => rfl
theorem gKp_trans {σ τ υ : fmS} (h1 : gKp σ τ) (h2 : gKp τ υ) : gKp σ υ := fun c k h => (h2 c k h).trans (h1 c k h)
theorem gKp_mu (σ : fmS) (c k : Nat) (f : Nat → Int32) : gKp σ (fmu σ c 1 k f) := fun c' k' h => fmu_ne _ _ _ _ _ (fun q => absurd q.2.1 (by decide))
theorem gKp_22 (σ : fmS) (f : Nat → Int32) : gKp σ (fmu σ 22 0 0 f) := fun c' k' h => fmu_ne _ _ _ _ _ (fun q => h q.1)
theorem gKp_it {f : Nat → fmS → fmS} (h : ∀ i τ, gKp τ (f i τ)) (σ : fmS) : ∀ n, gKp σ (fmIt f σ n)
  | 0 => gKp_refl σ
  | n + 1 => gKp_trans (gKp_it h σ n) (h n _)
theorem gKp_moor (σ : fmS) (k r cc : Nat) : gKp σ (gMoor σ 1 k r cc) := gKp_trans (gKp_mu _ _ _ _) (gKp_trans (gKp_mu _ _ _ _) (gKp_mu _ _ _ _))
theorem gKp_drift (σ : fmS) (rc cc t r : Nat) : gKp σ (gDrift σ 1 rc cc t r) := by
  have h1 : ∀ k, gKp σ (gDr1 σ 1 k) := fun k => gKp_trans (gKp_22 _ _) (gKp_trans (gKp_mu _ _ _ _) (gKp_mu _ _ _ _))
  unfold gDrift gDr2
  split
  · exact gKp_refl σ
  · split
    · split
      · exact h1 _
      · exact gKp_trans (h1 _) (gKp_moor _ _ _ _)
    · exact gKp_refl σ
theorem gKp_off (σ : fmS) (k cc : Nat) : gKp σ (gOff σ 1 k cc) := gKp_trans (gKp_mu _ _ _ _) (gKp_trans (gKp_mu _ _ _ _) (gKp_mu _ _ _ _))
theorem gKp_lv (cc t k : Nat) (σ : fmS) : gKp σ (gLv 1 cc t k σ) := by
  unfold gLv
  split
  · exact gKp_trans (gKp_off _ _ _) (gKp_mu _ _ _ _)
  · exact gKp_refl σ
theorem gKp_tr (σ : fmS) (c s g : Nat) : gKp σ (gTr σ 1 c s g) :=
  gKp_trans (gKp_trans (gKp_mu _ _ _ _) (gKp_mu _ _ _ _) : gKp σ (gTr1 σ 1 c s _)) (gKp_trans (gKp_trans (gKp_mu _ _ _ _) (gKp_mu _ _ _ _) : gKp _ (gTr2 _ 1 c s g)) (gKp_trans (gKp_trans (gKp_mu _ _ _ _) (gKp_mu _ _ _ _) : gKp _ (gTr3 _ 1 c s)) (gKp_trans (gKp_mu _ _ _ _) (gKp_mu _ _ _ _))))
theorem gKp_trade (σ : fmS) (c g cc : Nat) : gKp σ (gTrade σ 1 c g cc) := by
  unfold gTrade
  split
  · exact gKp_refl σ
  · split
    · exact gKp_refl σ
    · exact gKp_tr _ _ _ _
theorem gKp_td (cc k : Nat) (σ : fmS) : gKp σ (gTd 1 cc k σ) := by
  unfold gTd
  split
  · exact gKp_it (fun g τ => gKp_trade τ k g cc) σ 4
  · exact gKp_refl σ
theorem gKp_step (rc cc t : Nat) (σ : fmS) : gKp σ (gStep 1 rc cc t σ) :=
  gKp_trans (gKp_22 σ _) (gKp_trans (gKp_it (fun r τ => gKp_drift τ rc cc t r) _ rc) (gKp_trans (gKp_it (fun k τ => gKp_lv cc t k τ) _ cc) (gKp_trans (gKp_it (fun k τ => gKp_td cc k τ) _ cc) (gKp_mu _ _ _ _))))
theorem gKp_pass (rc cc t : Nat) (σ : fmS) : ∀ n, gKp σ (gPass 1 rc cc t σ n)
  | 0 => gKp_refl σ
  | n + 1 => gKp_trans (gKp_pass rc cc t σ n) (gKp_step _ _ _ _)
theorem gKp_bc (σ : fmS) : gKp σ (gBc σ 1 0) := fun c k _ => gBc_m (by decide) c k
def gForR (σ : fmS) (c : Nat) (z : Int32) : Int32 := if z = 0 then σ 24 1 0 c else if z = 1 then gMsAll σ 1 c else if σ 26 1 0 c = 1 then σ 27 1 0 c else -1
def gTryM (rc cc t k r n : Nat) (σ : fmS) : fmS := gPass 1 rc cc t (gMoor (gBc σ 1 0) 1 k r cc) n
def gTryA (rc cc t i n : Nat) (x : Int32) (σ : fmS) : fmS := gPass 1 rc cc t (gBc (fmu σ 19 0 0 (upd (σ 19 0 0) i x)) 1 0) n
def gAdv (rc cc t k n : Nat) (σ : fmS) : Nat → fmS × Int32 × Int32
  | 0 => (σ, -1, -1)
  | j + 1 => if gFull (gAdv rc cc t k n σ j).1 0 j cc then gAdv rc cc t k n σ j else
      (if (gAdv rc cc t k n σ j).2.2 < gTryM rc cc t k j n (gAdv rc cc t k n σ j).1 24 1 0 k then (gTryM rc cc t k j n (gAdv rc cc t k n σ j).1, nI j, gTryM rc cc t k j n (gAdv rc cc t k n σ j).1 24 1 0 k)
        else (gTryM rc cc t k j n (gAdv rc cc t k n σ j).1, (gAdv rc cc t k n σ j).2.1, (gAdv rc cc t k n σ j).2.2))
def gOwn (σ : fmS) (k : Nat) : Int32 := σ 32 1 0 k - σ 32 0 0 k
def gPri (rc cc t k i n : Nat) (σ : fmS) : Nat → fmS × Int32 × Int32
  | 0 => (σ, -1, -1)
  | j + 1 => if (gPri rc cc t k i n σ j).2.2 < gOwn (gTryA rc cc t i n (nI (j + 1)) (gPri rc cc t k i n σ j).1) k then (gTryA rc cc t i n (nI (j + 1)) (gPri rc cc t k i n σ j).1, nI (j + 1), gOwn (gTryA rc cc t i n (nI (j + 1)) (gPri rc cc t k i n σ j).1) k)
      else (gTryA rc cc t i n (nI (j + 1)) (gPri rc cc t k i n σ j).1, (gPri rc cc t k i n σ j).2.1, (gPri rc cc t k i n σ j).2.2)
theorem gKp_adv {rc cc t k n : Nat} (σ : fmS) : ∀ j, gKp σ (gAdv rc cc t k n σ j).1
  | 0 => gKp_refl σ
  | j + 1 => by
    have h : ∀ τ, gKp τ (gTryM rc cc t k j n τ) := fun τ => gKp_trans (gKp_bc τ) (gKp_trans (gKp_moor _ _ _ _) (gKp_pass _ _ _ _ _))
    rw [gAdv]
    split
    · exact gKp_adv σ j
    · split
      · exact gKp_trans (gKp_adv σ j) (h _)
      · exact gKp_trans (gKp_adv σ j) (h _)
theorem gPri_c {rc cc t k i n : Nat} (σ : fmS) {c : Nat} (hc : c ≠ 22 ∧ c ≠ 19) (m : Nat) : ∀ j, (gPri rc cc t k i n σ j).1 c 0 m = σ c 0 m
  | 0 => rfl
  | j + 1 => by
    have h : ∀ x τ, gTryA rc cc t i n x τ c 0 m = τ c 0 m := fun x τ => ((gKp_trans (gKp_bc _) (gKp_pass rc cc t _ n)) c m hc.1).trans (fmu_c _ _ _ _ _ hc.2 _ _)
    rw [gPri]
    split
    · exact (h _ _).trans (gPri_c σ hc m j)
    · exact (h _ _).trans (gPri_c σ hc m j)
