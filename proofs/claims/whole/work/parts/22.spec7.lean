/-! THE MODEL'S STEP -/
def gLv (b cc t k : Nat) (σ : fmS) : fmS := if σ 26 b 0 k = 1 ∧ σ 29 b 0 k ≠ -1 ∧ ¬ nI t < σ 29 b 0 k ∧ ¬ gDry σ b k t then gOff0 (gOff σ b k cc) b k 2 else σ
def gTd (b cc k : Nat) (σ : fmS) : fmS := if σ 26 b 0 k = 1 then fmIt (fun g τ => gTrade τ b k g cc) σ 4 else σ
def gZ (σ : fmS) (j : Nat) : Nat → Int32 := fun i => if i < j then 0 else σ 22 0 0 i
def gDid (σ : fmS) (cc : Nat) : fmS := fmu σ 22 0 0 (gZ σ cc)
def gP1 (σ : fmS) (b rc cc t : Nat) : fmS := fmIt (fun r τ => gDrift τ b rc cc t r) (gDid σ cc) rc
def gP2 (σ : fmS) (b rc cc t : Nat) : fmS := fmIt (gLv b cc t) (gP1 σ b rc cc t) cc
def gP3 (σ : fmS) (b rc cc t : Nat) : fmS := fmIt (gTd b cc) (gP2 σ b rc cc t) cc
def gStep (b rc cc t : Nat) (σ : fmS) : fmS := fmu (gP3 σ b rc cc t) 64 b 0 (fun _ => nI (t + 1))
def gPass (b rc cc t : Nat) (σ : fmS) : Nat → fmS
  | 0 => σ
  | n + 1 => gStep b rc cc (t + n) (gPass b rc cc t σ n)
theorem gZ_0 (σ : fmS) : gZ σ 0 = σ 22 0 0 := by
  funext i; rw [gZ, if_neg (by omega)]
theorem gZ_s (σ : fmS) (j : Nat) : upd (gZ σ j) j 0 = gZ σ (j + 1) := by
  funext i
  by_cases e : i = j
  · subst e; rw [fm_upd_same, gZ, if_pos (by omega)]
  · rw [fm_upd_ne _ _ e, gZ, gZ]
    by_cases h : i < j
    · rw [if_pos h, if_pos (by omega)]
    · rw [if_neg h, if_neg (by omega)]
theorem gMoor_c {σ : fmS} {b k r cc c : Nat} (h : c ≠ 26 ∧ c ≠ 27 ∧ c ≠ 28) (m n : Nat) : gMoor σ b k r cc c m n = σ c m n := by
  rw [gMoor, fmu_c _ _ _ _ _ h.1, fmu_c _ _ _ _ _ h.2.1, fmu_c _ _ _ _ _ h.2.2]
theorem gDr1_c {σ : fmS} {b k c : Nat} (h : c ≠ 22 ∧ c ≠ 31 ∧ c ≠ 26) (m n : Nat) : gDr1 σ b k c m n = σ c m n := by
  rw [gDr1, fmu_c _ _ _ _ _ h.2.2, fmu_c _ _ _ _ _ h.2.1, fmu_c _ _ _ _ _ h.1]
theorem gDrift_c {σ : fmS} {b rc cc t r c : Nat} (h : c ≠ 22 ∧ c ≠ 31 ∧ c ≠ 26 ∧ c ≠ 27 ∧ c ≠ 28) (m n : Nat) : gDrift σ b rc cc t r c m n = σ c m n := by
  unfold gDrift gDr2
  split
  · rfl
  · split
    · split
      · exact gDr1_c ⟨h.1, h.2.1, h.2.2.1⟩ m n
      · exact (gMoor_c ⟨h.2.2.1, h.2.2.2.1, h.2.2.2.2⟩ m n).trans (gDr1_c ⟨h.1, h.2.1, h.2.2.1⟩ m n)
    · rfl
theorem gOff_c {σ : fmS} {b k cc c : Nat} (h : c ≠ 26 ∧ c ≠ 28 ∧ c ≠ 30) (m n : Nat) : gOff σ b k cc c m n = σ c m n := by
  rw [gOff, gOff1_c _ _ _ _ h.2, gOff0, fmu_c _ _ _ _ _ h.1]
theorem gLv_c {σ : fmS} {b cc t k c : Nat} (h : c ≠ 26 ∧ c ≠ 28 ∧ c ≠ 30) (m n : Nat) : gLv b cc t k σ c m n = σ c m n := by
  unfold gLv
  split
  · rw [gOff0, fmu_c _ _ _ _ _ h.1, gOff_c h]
  · rfl
theorem gTr_c {σ : fmS} {b x s g c : Nat} (h : c ≠ 24 ∧ c ≠ 25 ∧ c ≠ 32 ∧ c ≠ 33 ∧ c ≠ 65 ∧ c ≠ 66) (m n : Nat) : gTr σ b x s g c m n = σ c m n := by
  rw [gTr, gTr4, fmu_c _ _ _ _ _ h.2.2.2.2.2, fmu_c _ _ _ _ _ h.2.2.2.2.1, gTr3, fmu_c _ _ _ _ _ h.2.2.1, fmu_c _ _ _ _ _ h.2.2.2.1, gTr2, fmu_c _ _ _ _ _ h.2.1, fmu_c _ _ _ _ _ h.2.1, gTr1, fmu_c _ _ _ _ _ h.1, fmu_c _ _ _ _ _ h.1]
theorem gTrade_c {σ : fmS} {b x g cc c : Nat} (h : c ≠ 24 ∧ c ≠ 25 ∧ c ≠ 32 ∧ c ≠ 33 ∧ c ≠ 65 ∧ c ≠ 66) (m n : Nat) : gTrade σ b x g cc c m n = σ c m n := by
  unfold gTrade
  split
  · rfl
  · split
    · rfl
    · exact gTr_c h m n
theorem gTd_c {σ : fmS} {b cc k c : Nat} (h : c ≠ 24 ∧ c ≠ 25 ∧ c ≠ 32 ∧ c ≠ 33 ∧ c ≠ 65 ∧ c ≠ 66) (m n : Nat) : gTd b cc k σ c m n = σ c m n := by
  unfold gTd
  split
  · exact it_c (fun i τ => gTrade_c h m n) σ 4
  · rfl
theorem gDid_c {σ : fmS} {cc c : Nat} (h : c ≠ 22) (m n : Nat) : gDid σ cc c m n = σ c m n := by
  rw [gDid, fmu_c _ _ _ _ _ h]
/-- become -/
def gBc1 (σ : fmS) (a b : Nat) : fmS := fmu (fmu (fmu σ 64 a 0 (fun _ => σ 64 b 0 0)) 65 a 0 (fun _ => σ 65 b 0 0)) 66 a 0 (fun _ => σ 66 b 0 0)
def gBcN (c : Nat) : Nat := if c = 25 then 56 else 14
def gBc2 (τ : fmS) (a b c : Nat) : fmS := fmu τ c a 0 (fmCp (gBcN c) (τ c b 0) (τ c a 0))
def gBc (σ : fmS) (a b : Nat) : fmS := gBc2 (gBc2 (gBc2 (gBc2 (gBc2 (gBc2 (gBc2 (gBc2 (gBc2 (gBc2 (gBc1 σ a b) a b 24) a b 25) a b 26) a b 27) a b 28) a b 29) a b 30) a b 31) a b 32) a b 33
theorem gBe_yes {σ : fmS} {b c g j : Nat} (h : gOk σ b c g j) (h2 : gBe σ b c g j = -1 ∨ σ 19 0 0 (4 * j + g) < σ 19 0 0 (4 * (gBe σ b c g j).toNatClampNeg + g)) : gBe σ b c g (j + 1) = nI j := by
  rw [gBe, if_pos ⟨h, h2⟩]
theorem gBe_nb {σ : fmS} {b c g j k : Nat} (hE : gBe σ b c g j = nI k) (h7 : ¬ gBe σ b c g j = -1) (h8 : σ 19 0 0 (4 * k + g) ≤ σ 19 0 0 (4 * j + g)) (hk : k < j) (hj : j < 14) : gBe σ b c g (j + 1) = nI k := by
  rw [gBe, if_neg (fun q => q.2.elim h7 (fun q2 => by rw [hE, fm_cn (by omega)] at q2; exact Int32.not_lt.mpr h8 q2)), hE]
theorem gBe_no {σ : fmS} {b c g j : Nat} (h : ¬ gOk σ b c g j) : gBe σ b c g (j + 1) = gBe σ b c g j := by
  rw [gBe, if_neg (fun q => h q.1)]
theorem gLv_yes {τ : fmS} {b cc t j : Nat} (h64 : τ 64 b 0 0 = nI t) (h4 : τ 26 b 0 j = 1) (h5 : τ 29 b 0 j ≠ -1) (h6 : ¬ τ 64 b 0 0 < τ 29 b 0 j) (h7 : (if gDry τ b j t then (1 : Int32) else 0) = 0) : gLv b cc t j τ = fmu (gOff τ b j cc) 26 b 0 (upd (gOff τ b j cc 26 b 0) j 2) := by
  rw [gLv, if_pos ⟨h4, h5, by rw [← h64]; exact h6, fun q => absurd h7 (by rw [if_pos q]; decide)⟩, gOff0]
theorem gLv_no {τ : fmS} {b cc t j : Nat} (h64 : τ 64 b 0 0 = nI t) (h : ¬ (τ 26 b 0 j = 1 ∧ τ 29 b 0 j ≠ -1 ∧ ¬ τ 64 b 0 0 < τ 29 b 0 j ∧ (if gDry τ b j t then (1 : Int32) else 0) = 0)) : gLv b cc t j τ = τ := by
  rw [gLv, if_neg (fun q => h ⟨q.1, q.2.1, by rw [h64]; exact q.2.2.1, by rw [if_neg q.2.2.2]⟩)]
theorem gTd_yes {τ : fmS} {b cc j : Nat} (h : τ 26 b 0 j = 1) : gTd b cc j τ = fmIt (fun g τ => gTrade τ b j g cc) τ 4 := by
  rw [gTd, if_pos h]
theorem gTd_no {τ : fmS} {b cc j : Nat} (h : ¬ τ 26 b 0 j = 1) : gTd b cc j τ = τ := by
  rw [gTd, if_neg h]
