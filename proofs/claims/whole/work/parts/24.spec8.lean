/-! THE MODEL: what its methods answer -/
def gz (σ : fmS) : fmS := fmu σ 61 0 0 (fun _ => 0)
theorem gz_c {σ : fmS} {c : Nat} (h : c ≠ 61) (m k : Nat) : gz σ c m k = σ c m k := by rw [gz, fmu_c _ _ _ _ _ h]
def gRes (σ : fmS) (ok : Prop) (x : Int32) (u : fmS) : List (Int32 × Prop) → Prop
  | [] => ok
  | (c, q) :: t => (q ∧ x = 0 ∧ u = fmu σ 61 0 0 (fun _ => c)) ∨ (¬ q ∧ gRes σ ok x u t)
theorem fm_q0 {P : Prop} [Decidable P] (h : (if P then (0 : Int32) else 1) = 0) : P := by
  rcases Decidable.em P with q | q
  · exact q
  · rw [if_neg q] at h; exact absurd h (by decide)
theorem fm_q1 {P : Prop} [Decidable P] (h : ¬ (if P then (0 : Int32) else 1) = 0) : ¬ P := fun q => h (by rw [if_pos q])
theorem fm_p0 {P : Prop} [Decidable P] (h : (if P then (1 : Int32) else 0) = 0) : ¬ P := fun q => absurd h (by rw [if_pos q]; decide)
theorem fm_p1 {P : Prop} [Decidable P] (h : ¬ (if P then (1 : Int32) else 0) = 0) : P := by
  rcases Decidable.em P with q | q
  · exact q
  · exact absurd (by rw [if_neg q]) h
theorem fm_pred {n : Nat} (hn : n < 2 ^ 30) (x : Int32) : nI n - 1 < x ↔ nI n ≤ x := by
  have h1 : (nI n - 1).toInt = (n : Int) - 1 := pk_sub_toInt (b := 1) hn (by decide)
  have h2 := nI_toInt (show n < 2 ^ 31 by omega)
  rw [Int32.lt_iff_toInt_lt, Int32.le_iff_toInt_le, h1, h2]
  omega
theorem gStep_c {σ : fmS} {b rc cc t c : Nat} (h : c ≠ 22 ∧ c ≠ 24 ∧ c ≠ 25 ∧ c ≠ 26 ∧ c ≠ 27 ∧ c ≠ 28 ∧ c ≠ 30 ∧ c ≠ 31 ∧ c ≠ 32 ∧ c ≠ 33 ∧ c ≠ 64 ∧ c ≠ 65 ∧ c ≠ 66) (m n : Nat) : gStep b rc cc t σ c m n = σ c m n := by
  rw [gStep, fmu_c _ _ _ _ _ (by omega), gP3, it_c (fun i τ => gTd_c (by omega) m n), gP2, it_c (fun i τ => gLv_c (by omega) m n), gP1, it_c (fun i τ => gDrift_c (by omega) m n), gDid_c (by omega)]
theorem gPass_c {σ : fmS} {b rc cc t c : Nat} (h : c ≠ 22 ∧ c ≠ 24 ∧ c ≠ 25 ∧ c ≠ 26 ∧ c ≠ 27 ∧ c ≠ 28 ∧ c ≠ 30 ∧ c ≠ 31 ∧ c ≠ 32 ∧ c ≠ 33 ∧ c ≠ 64 ∧ c ≠ 65 ∧ c ≠ 66) {m n : Nat} : ∀ j, gPass b rc cc t σ j c m n = σ c m n
  | 0 => rfl
  | j + 1 => by rw [gPass, gStep_c h, gPass_c h j]
theorem gPass_64 {σ : fmS} {b rc cc t : Nat} (h : σ 64 b 0 0 = nI t) : ∀ j, gPass b rc cc t σ j 64 b 0 0 = nI (t + j)
  | 0 => h
  | j + 1 => by rw [gPass, gStep, fmu_self]; rfl
theorem gPass_sum (σ : fmS) (b rc cc t j : Nat) : (gPass b rc cc t σ j 65 b 0 0 - σ 65 b 0 0) + (gStep b rc cc (t + j) (gPass b rc cc t σ j) 65 b 0 0 - gPass b rc cc t σ j 65 b 0 0) = gPass b rc cc t σ (j + 1) 65 b 0 0 - σ 65 b 0 0 := by
  rw [gPass]
  generalize gStep b rc cc (t + j) (gPass b rc cc t σ j) 65 b 0 0 = z
  generalize gPass b rc cc t σ j 65 b 0 0 = y
  generalize σ 65 b 0 0 = x
  rw [Int32.sub_eq_add_neg, Int32.sub_eq_add_neg, Int32.sub_eq_add_neg, Int32.add_comm y, Int32.add_assoc, Int32.add_comm z, ← Int32.add_assoc y, Int32.add_right_neg, Int32.zero_add, Int32.add_comm]
theorem fm_e4 (i j : Nat) : (4 : Int32) * nI i + nI j = nI (4 * i + j) := by rw [← nI_add, ← pk_mul]; rfl
def gOffer (σ : fmS) (k g : Nat) (z w v : Int32) : fmS := fmu (fmu (fmu σ 19 0 0 (upd (σ 19 0 0) (4 * k + g) z)) 20 0 0 (upd (σ 20 0 0) (4 * k + g) w)) 21 0 0 (upd (σ 21 0 0) (4 * k + g) v)
def gGT (σ : fmS) (i : Nat) (w : Int32) : Int32 := if w = 0 then σ 25 0 0 i else if w = 1 then σ 19 0 0 i else if w = 2 then σ 20 0 0 i else σ 21 0 0 i
def gFig (σ : fmS) (c : Nat) : Nat → Int32 := fun w => if w = 0 then σ 24 0 0 c else if w = 1 then σ 18 0 0 c else if w = 2 then σ 26 0 0 c else if w = 3 then (if σ 26 0 0 c = 1 then σ 27 0 0 c else -1) else if w = 4 then (if σ 26 0 0 c = 1 then σ 28 0 0 c else -1) else if w = 5 then σ 29 0 0 c else if w = 6 then σ 30 0 0 c else if w = 7 then σ 31 0 0 c else if w = 8 then σ 32 0 0 c else if w = 9 then σ 33 0 0 c else gMsAll σ 0 c
def gDryN (σ : fmS) (t n : Nat) : Int32 := fmCnt (fun c => decide (σ 26 0 0 c = 1 ∧ gDry σ 0 c t)) n
def gCnt (σ : fmS) (cc t : Nat) : Nat → Int32 := fun w => if w = 0 then σ 64 0 0 0 else if w = 1 then σ 62 0 0 0 else if w = 2 then σ 63 0 0 0 else if w = 3 then gBn σ 0 1 cc else if w = 4 then gBn σ 0 2 cc else if w = 5 then fmSum (σ 24 0 0) 14 else if w = 6 then fmSum (σ 25 0 0) 56 else if w = 7 then σ 65 0 0 0 else if w = 8 then σ 66 0 0 0 else if w = 9 then fmSum (σ 30 0 0) 14 else if w = 10 then fmSum (σ 31 0 0) 14 else gDryN σ t cc
theorem gMsAll_35 {σ : fmS} {f : Nat → Int32} {b c : Nat} : gMsAll (fmu σ 35 0 0 f) b c = gMsAll σ b c := by
  have h : gMs (fmu σ 35 0 0 f) b c = gMs σ b c := by
    funext g
    rw [gMs, gMs, fmu_c _ _ _ _ _ (by decide), fmu_c _ _ _ _ _ (by decide)]
  rw [gMsAll, gMsAll, h]
theorem gBn_35 {σ : fmS} {f : Nat → Int32} {b : Nat} {x : Int32} {n : Nat} : gBn (fmu σ 35 0 0 f) b x n = gBn σ b x n := by
  rw [gBn, gBn, fmu_c _ _ _ _ _ (by decide)]
theorem gDryN_p {σ : fmS} {t j : Nat} (h : σ 26 0 0 j = 1 ∧ gDry σ 0 j t) : gDryN σ t (j + 1) = gDryN σ t j + 1 := by
  rw [gDryN, fmCnt, if_pos (decide_eq_true h)]; rfl
theorem gDryN_n {σ : fmS} {t j : Nat} (h : ¬ (σ 26 0 0 j = 1 ∧ gDry σ 0 j t)) : gDryN σ t (j + 1) = gDryN σ t j + 0 := by
  rw [gDryN, fmCnt, if_neg (fun q => h (of_decide_eq_true q)), Int32.add_zero]; rfl
