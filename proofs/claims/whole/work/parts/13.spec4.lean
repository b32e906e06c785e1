/-! COPIES AND FIGURES of a market -/
abbrev fmCp (n : Nat) (f g : Nat → Int32) : Nat → Int32 := va_cpy f g 0 0 n
def fmRC (a b : Nat) (r : Nat) (σ : fmS) : fmS := fmu (fmu (fmu σ 47 a r (fun _ => σ 47 b r 0)) 48 a r (fun _ => σ 48 b r 0)) 8 a r (fmCp 6 (σ 8 b r) (σ 8 a r))
def fmCC1 (a b : Nat) (k : Nat) (σ : fmS) : fmS := List.foldl (fun τ c => fmu τ c a k (fun _ => σ c b k 0)) σ [50, 51, 52, 53, 54, 55, 56, 57, 58, 59, 60]
def fmCC (a b : Nat) (k : Nat) (σ : fmS) : fmS := List.foldl (fun τ c => fmu τ c a k (fmCp 4 (σ c b k) (σ c a k))) (fmCC1 a b k σ) [10, 11, 12, 13]
def fmMC1 (σ : fmS) (a b : Nat) : fmS := List.foldl (fun τ c => fmu τ c a 0 (fun _ => σ c b 0 0)) σ [40, 41, 42, 43, 44, 45, 46]
def fmMC (σ : fmS) (a b rc cc : Nat) : fmS := fmIt (fmCC a b) (fmIt (fmRC a b) (fmMC1 σ a b) rc) cc
def fmCnt (p : Nat → Bool) : Nat → Int32
  | 0 => 0
  | n + 1 => if p n = true then fmCnt p n + 1 else fmCnt p n
def fmMFig (σ : fmS) (a cc t w : Nat) : Int32 := if w = 0 then σ 42 a 0 0 else if w = 1 then σ 40 a 0 0 else if w = 2 then σ 41 a 0 0 else if w = 3 then fmCnt (fun k => decide (σ 52 a k 0 = 1)) cc else if w = 4 then fmCnt (fun k => decide (σ 52 a k 0 = 2)) cc else if w = 5 then fmSum (fun k => σ 50 a k 0) cc else if w = 6 then fmSum (fmGds σ a) cc else if w = 7 then σ 43 a 0 0 else if w = 8 then σ 44 a 0 0 else if w = 9 then σ 45 a 0 0 else if w = 10 then σ 46 a 0 0 else fmCnt (fun k => decide (fmDry σ a k t)) cc
theorem foldl_c {a k : Nat} {v : Nat → Nat → Int32} {c m n : Nat} : ∀ (l : List Nat) (τ : fmS), (∀ d ∈ l, ¬ (c = d ∧ m = a ∧ n = k)) → List.foldl (fun τ c => fmu τ c a k (v c)) τ l c m n = τ c m n
  | [], _, _ => rfl
  | d :: l, τ, h => by
    rw [List.foldl_cons, foldl_c l _ (fun e he => h e (List.mem_cons_of_mem _ he)), fmu_ne _ _ _ _ _ (h d List.mem_cons_self)]
theorem foldl_in {a k : Nat} {v : Nat → Nat → Int32} {c : Nat} : ∀ (l : List Nat) (τ : fmS), c ∈ l → List.foldl (fun τ c => fmu τ c a k (v c)) τ l c a k = v c
  | [], _, h => by cases h
  | d :: l, τ, h => by
    rw [List.foldl_cons]
    by_cases hc : c ∈ l
    · exact foldl_in l _ hc
    · have e : c = d := (List.mem_cons.mp h).resolve_right hc
      subst e
      rw [foldl_c (c := c) (m := a) (n := k) l _ (fun e he q => hc (by rw [q.1]; exact he)), fmu_self]
theorem RC_c {a b r : Nat} {σ : fmS} {c : Nat} (h : c ≠ 8 ∧ c ≠ 47 ∧ c ≠ 48) (m n : Nat) : fmRC a b r σ c m n = σ c m n := by
  rw [fmRC, fmu_c _ _ _ _ _ h.1, fmu_c _ _ _ _ _ h.2.2, fmu_c _ _ _ _ _ h.2.1]
theorem RC_m {a b r : Nat} {σ : fmS} {m : Nat} (h : m ≠ a) (c n : Nat) : fmRC a b r σ c m n = σ c m n := by
  rw [fmRC, fmu_ne _ _ _ _ _ (fun q => h q.2.1), fmu_ne _ _ _ _ _ (fun q => h q.2.1), fmu_ne _ _ _ _ _ (fun q => h q.2.1)]
theorem CC_c {a b k : Nat} {σ : fmS} {c : Nat} (h : ¬ (10 ≤ c ∧ c ≤ 13)) (h2 : ¬ (50 ≤ c ∧ c ≤ 60)) (m n : Nat) : fmCC a b k σ c m n = σ c m n := by
  rw [fmCC, foldl_c _ _ (fun d hd q => by simp at hd; omega), fmCC1, foldl_c _ _ (fun d hd q => by simp at hd; omega)]
theorem CC_m {a b k : Nat} {σ : fmS} {m : Nat} (h : m ≠ a) (c n : Nat) : fmCC a b k σ c m n = σ c m n := by
  rw [fmCC, foldl_c _ _ (fun d hd q => h q.2.1), fmCC1, foldl_c _ _ (fun d hd q => h q.2.1)]
theorem MC1_c {σ : fmS} {a b : Nat} {c : Nat} (h : ¬ (40 ≤ c ∧ c ≤ 46)) (m n : Nat) : fmMC1 σ a b c m n = σ c m n := by
  rw [fmMC1, foldl_c _ _ (fun d hd q => by simp at hd; omega)]
theorem MC1_m {σ : fmS} {a b m : Nat} (h : m ≠ a) (c n : Nat) : fmMC1 σ a b c m n = σ c m n := by
  rw [fmMC1, foldl_c _ _ (fun d hd q => h q.2.1)]
theorem MC1_in {σ : fmS} {a b : Nat} {c : Nat} (h : 40 ≤ c ∧ c ≤ 46) (j : Nat) : fmMC1 σ a b c a 0 j = σ c b 0 0 := by
  rw [fmMC1, foldl_in _ _ (by simp; omega)]
theorem MC_m {σ : fmS} {a b rc cc m : Nat} (h : m ≠ a) (c n : Nat) : fmMC σ a b rc cc c m n = σ c m n := by
  rw [fmMC, it_c (fun i τ => CC_m h c n), it_c (fun i τ => RC_m h c n), MC1_m h]
