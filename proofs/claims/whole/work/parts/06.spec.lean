/-! PLAIN ROWS -/
theorem fm_in {x : Int32} {j n : Nat} (h : x = nI j) (hj : j < n) (hn : n < 2 ^ 31) : vp_in x n := by rw [h]; exact vp_in_nI hj hn
theorem fm_cl {x : Int32} {j : Nat} (h : x = nI j) (hj : j < 2 ^ 31) : x.toNatClampNeg = j := by rw [h]; exact nI_clamp hj
theorem fm_cn {j : Nat} (hj : j < 2 ^ 31) : (nI j).toNatClampNeg = j := nI_clamp hj
theorem fm_up {P : Nat → Prop} {N : Nat} (hN : P N) (hs : ∀ j, j < N → P (j + 1) → P j) : ∀ j, j ≤ N → P j := by
  have key : ∀ d j, j + d = N → P j := by
    intro d
    induction d with
    | zero => intro j h; have : j = N := by omega
              rw [this]; exact hN
    | succ d ih => intro j h; exact hs j (by omega) (ih (j + 1) (by omega))
  intro j hj
  exact key (N - j) j (by omega)
theorem fm_xor (a b : Nat) : nI a ^^^ nI b = nI (a ^^^ b) := by
  apply Int32.toBitVec_inj.1
  show BitVec.ofNat 32 a ^^^ BitVec.ofNat 32 b = BitVec.ofNat 32 (a ^^^ b)
  apply BitVec.eq_of_getLsbD_eq
  intro i hi
  simp [hi]
theorem fmu_fmu (σ : fmS) (c m k : Nat) (f g : Nat → Int32) : fmu (fmu σ c m k f) c m k g = fmu σ c m k g := by
  funext c' m' k' j'
  simp only [fmu]
  split <;> rfl
theorem fmu_id (σ : fmS) (c m k : Nat) : fmu σ c m k (σ c m k) = σ := by
  funext c' m' k' j'
  simp only [fmu]
  split
  next h => rw [h.1, h.2.1, h.2.2]
  · rfl
theorem fmu_c (σ : fmS) (c m k : Nat) (f : Nat → Int32) {c' : Nat} (h : c' ≠ c) (m' k' : Nat) : fmu σ c m k f c' m' k' = σ c' m' k' := fmu_ne _ _ _ _ _ (fun q => h q.1)

theorem fm_upd_same (f : Nat → Int32) (k : Nat) (x : Int32) : upd f k x k = x := by simp [upd]
theorem fm_upd_ne (f : Nat → Int32) {k j : Nat} (x : Int32) (h : j ≠ k) : upd f k x j = f j := by simp [upd, h]
theorem fm_blt {x : Int32} {j : Nat} (h : x = nI j) (hj : j < 2 ^ 31) : ¬ x < 0 := by rw [h]; exact nI_pos hj
def fmSum (f : Nat → Int32) : Nat → Int32
  | 0 => 0
  | n + 1 => fmSum f n + f n
def fmFold (f : Nat → Int64 → Int64) (d : Int64) : Nat → Int64
  | 0 => d
  | n + 1 => f n (fmFold f d n)
def fmIter (f : Nat → fmS → fmS) (b : Nat) (σ : fmS) : Nat → fmS
  | 0 => σ
  | n + 1 => f (b + n) (fmIter f b σ n)
abbrev fmD (d : Int64) (x : Int32) : Int64 := d * 31 + x.toInt64
/-! WHAT THE METHODS ANSWER AND DO: the class's canoes (kind 9), rows (7), water (1) -/
def fmMs (σ : fmS) (a k g : Nat) : Int32 := if 0 < σ 12 a k g - σ 10 a k g then σ 12 a k g - σ 10 a k g else 0
def fmMsAll (σ : fmS) (a k : Nat) : Int32 := fmSum (fmMs σ a k) 4
def fmGds (σ : fmS) (a k : Nat) : Int32 := fmSum (σ 10 a k) 4
abbrev fmSl (σ : fmS) (a k g : Nat) (lim : Int32) : Prop := σ 11 a k g ≠ 0 ∧ σ 11 a k g ≤ lim ∧ σ 12 a k g < σ 10 a k g
def fmAb (x : Int32) : Int32 := if 0 ≤ x then x else 0 - x
abbrev fmBes (σ : fmS) (a k k2 : Nat) : Prop := σ 52 a k 0 = 1 ∧ σ 52 a k2 0 = 1 ∧ fmAb (σ 53 a k 0 - σ 53 a k2 0) + fmAb (σ 54 a k 0 - σ 54 a k2 0) = 1
abbrev fmTL (σ : fmS) (a k : Nat) (s : Int32) : Prop := σ 55 a k 0 ≠ -1 ∧ σ 55 a k 0 ≤ s
def fmFig (σ : fmS) (a k w : Nat) : Int32 := if w = 0 then σ 50 a k 0 else if w = 1 then σ 51 a k 0 else if w = 2 then σ 52 a k 0 else if w = 3 then σ 53 a k 0 else if w = 4 then σ 54 a k 0 else if w = 5 then σ 55 a k 0 else if w = 6 then σ 56 a k 0 else if w = 7 then σ 57 a k 0 else if w = 8 then σ 59 a k 0 else if w = 9 then σ 60 a k 0 else fmMsAll σ a k
def fmGFig (σ : fmS) (a k g w : Nat) : Int32 := if w = 0 then σ 10 a k g else if w = 1 then σ 11 a k g else if w = 2 then σ 12 a k g else σ 13 a k g
def fmCAdd (σ : fmS) (a k : Nat) (d : Int64) : Int64 := fmFold (fun g d => fmFold (fun w d => fmD d (fmGFig σ a k g w)) d 4) (fmFold (fun w d => fmD d (fmFig σ a k w)) d 11) 4
def fmRAt (σ : fmS) (a r : Nat) (x : Int32) : Int32 := if ¬ x < 0 ∧ x < σ 48 a r 0 then σ 8 a r x.toNatClampNeg else -1
def fmRAdd (σ : fmS) (a r p : Nat) (d : Int64) : Int64 := fmFold (fun j d => fmD d (fmRAt σ a r (nI j))) (fmD d (σ 47 a r 0)) p
def fmApp (σ : fmS) (a r u : Nat) (x : Int32) : fmS := fmu (fmu σ 8 a r (upd (σ 8 a r) u x)) 48 a r (fun _ => nI (u + 1))
def fmShift (f : Nat → Int32) (p t : Nat) : Nat → Int32 := fun j => if p ≤ j ∧ j + 1 < t then f (j + 1) else f j
def fmGap (σ : fmS) (a r p u : Nat) : fmS := fmu (fmu σ 8 a r (fmShift (σ 8 a r) p u)) 48 a r (fun _ => nI (u - 1))
def fmEntry (σ : fmS) (j : Nat) : Int32 := 10 * σ 2 0 0 j + σ 3 0 0 j
theorem fmShift_0 (f : Nat → Int32) (q : Nat) : fmShift f q (q + 1 + 0) = f := by
  funext j
  unfold fmShift
  rw [if_neg (by omega)]
theorem fmShift_up (f : Nat → Int32) (q j : Nat) : upd (fmShift f q (q + 1 + j)) (q + j) (fmShift f q (q + 1 + j) (q + 1 + j)) = fmShift f q (q + 1 + (j + 1)) := by
  funext i
  unfold upd fmShift
  by_cases h : i = q + j
  · subst h
    rw [if_pos rfl, if_neg (by omega), if_pos (by omega)]
    congr 1
    omega
  · rw [if_neg h]
    by_cases h2 : q ≤ i ∧ i + 1 < q + 1 + j
    · rw [if_pos h2, if_pos (by omega)]
    · rw [if_neg h2, if_neg (by omega)]
theorem fm_cq (x : Option Nat) {n : Nat} {l : List Value} (h : (l.map fun v => v.category).sum ≤ n) : ((va_rf x :: l).map fun v => v.category).sum ≤ n + 1 := by
  have e : (va_rf x).category = 1 := by cases x <;> rfl
  rw [List.map_cons, List.sum_cons, e]
  omega
