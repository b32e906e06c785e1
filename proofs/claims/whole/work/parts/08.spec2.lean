/-! THE MARKET (kind 4): what its methods answer and do -/
def fmFast (σ : fmS) (a k r v : Nat) : fmS := fmApp (fmu (fmu (fmu σ 52 a k (fun _ => 1)) 53 a k (fun _ => nI r)) 54 a k (fun _ => nI v)) a r v (nI k)
def fmMoveIn (a : Nat) (f : Nat → Int32) (i : Nat) (σ : fmS) : fmS := fmu (fmu σ 54 a (f (i + 1)).toNatClampNeg (fun _ => nI i)) 56 a (f (i + 1)).toNatClampNeg (fun _ => σ 56 a (f (i + 1)).toNatClampNeg 0 + 1)
def fmUnf2 (σ : fmS) (a r p v : Nat) : fmS := fmIter (fmMoveIn a (σ 8 a r)) p (fmGap σ a r p v) (v - 1 - p)
def fmUnf (σ : fmS) (a k r p v : Nat) (x : Int32) : fmS := fmu (fmu (fmu (fmu (fmUnf2 σ a r p v) 45 a 0 (fun _ => σ 45 a 0 0 + nI (v - 1 - p))) 52 a k (fun _ => x)) 53 a k (fun _ => -1)) 54 a k (fun _ => -1)
def fmNx (σ : fmS) (a rc r0 : Nat) : Nat → Nat → Int32
  | 0, _ => -1
  | d + 1, i => if σ 48 a ((r0 + i) % rc) 0 < σ 47 a ((r0 + i) % rc) 0 then nI ((r0 + i) % rc) else fmNx σ a rc r0 d (i + 1)
def fmAt (σ : fmS) (a rc : Nat) (x y : Int32) : Option Nat := if ¬ x < 0 ∧ x < nI rc then (if fmRAt σ a x.toNatClampNeg y = -1 then none else some (fmRAt σ a x.toNatClampNeg y).toNatClampNeg) else none
abbrev fmRef (G : fmG) (a : Nat) (x : Option Nat) : Option Nat := x.map (fun k => G.1 9 a k)
def fmCh (σ : fmS) (a g : Nat) (lim : Int32) (b t : Option Nat) : Option Nat := match t with
  | none => b
  | some t => if fmSl σ a t g lim then (match b with
      | none => some t
      | some b => if σ 11 a t g < σ 11 a b g then some t else if σ 11 a t g = σ 11 a b g ∧ nI t < nI b then some t else some b) else b
def fmLim (σ : fmS) (a k g : Nat) : Int32 := if σ 50 a k 0 < σ 13 a k g then σ 50 a k 0 else σ 13 a k g
def fmBest (σ : fmS) (a rc k g : Nat) : Option Nat :=
  fmCh σ a g (fmLim σ a k g) (fmCh σ a g (fmLim σ a k g) (fmCh σ a g (fmLim σ a k g) (fmCh σ a g (fmLim σ a k g) none (fmAt σ a rc (σ 53 a k 0) (σ 54 a k 0 - 1))) (fmAt σ a rc (σ 53 a k 0) (σ 54 a k 0 + 1))) (fmAt σ a rc (σ 53 a k 0 - 1) (σ 54 a k 0))) (fmAt σ a rc (σ 53 a k 0 + 1) (σ 54 a k 0))
def fmTr1 (σ : fmS) (a s g : Nat) (x : Int32) : fmS := fmu (fmu (fmu σ 10 a s (upd (σ 10 a s) g (σ 10 a s g - 1))) 50 a s (fun _ => σ 50 a s 0 + x)) 59 a s (fun _ => σ 59 a s 0 + 1)
def fmTr2 (σ : fmS) (a k g : Nat) (x : Int32) : fmS := fmu (fmu (fmu σ 10 a k (upd (σ 10 a k) g (σ 10 a k g + 1))) 50 a k (fun _ => σ 50 a k 0 - x)) 60 a k (fun _ => σ 60 a k 0 + 1)
def fmTr (σ : fmS) (a k s g : Nat) : fmS := fmu (fmu (fmTr2 (fmTr1 σ a s g (σ 11 a s g)) a k g (σ 11 a s g)) 43 a 0 (fun _ => σ 43 a 0 0 + 1)) 44 a 0 (fun _ => σ 44 a 0 0 + σ 11 a s g)
def fmTrO (σ : fmS) (a k g : Nat) (s : Option Nat) : fmS := match s with
  | none => σ
  | some s => fmTr σ a k s g
abbrev fmDry (σ : fmS) (a k t : Nat) : Prop := σ 52 a k 0 = 1 ∧ σ 54 a k 0 + σ 2 0 0 (t % 24) < 4
theorem fmIter_c {f : Nat → fmS → fmS} {b : Nat} {σ : fmS} {c m k : Nat} (h : ∀ i τ, f i τ c m k = τ c m k) (n : Nat) : fmIter f b σ n c m k = σ c m k := by
  induction n with
  | zero => rfl
  | succ n ih => rw [fmIter, h, ih]
theorem fmMoveIn_c {a : Nat} {f : Nat → Int32} {c : Nat} (h1 : c ≠ 54) (h2 : c ≠ 56) (i : Nat) (τ : fmS) (m k : Nat) : fmMoveIn a f i τ c m k = τ c m k := by
  rw [fmMoveIn, fmu_c _ _ _ _ _ h2, fmu_c _ _ _ _ _ h1]
theorem fmMoveIn_k {a : Nat} {f : Nat → Int32} {i k : Nat} (h : (f (i + 1)).toNatClampNeg ≠ k) (τ : fmS) (c m : Nat) : fmMoveIn a f i τ c m k = τ c m k := by
  rw [fmMoveIn, fmu_ne _ _ _ _ _ (fun q => h q.2.2.symm), fmu_ne _ _ _ _ _ (fun q => h q.2.2.symm)]
theorem fmIter_k {a : Nat} {f : Nat → Int32} {p k : Nat} {σ : fmS} {c m : Nat} : ∀ (n : Nat), (∀ i, i < n → (f (p + i + 1)).toNatClampNeg ≠ k) → fmIter (fmMoveIn a f) p σ n c m k = σ c m k
  | 0, _ => rfl
  | n + 1, h => by rw [fmIter, fmMoveIn_k (h n (by omega)), fmIter_k n (fun i hi => h i (by omega))]
theorem fmTr1_c {σ : fmS} {a s g : Nat} {x : Int32} {c : Nat} (h1 : c ≠ 10) (h2 : c ≠ 50) (h3 : c ≠ 59) (m k : Nat) : fmTr1 σ a s g x c m k = σ c m k := by rw [fmTr1, fmu_c _ _ _ _ _ h3, fmu_c _ _ _ _ _ h2, fmu_c _ _ _ _ _ h1]
theorem fmTr2_c {σ : fmS} {a s g : Nat} {x : Int32} {c : Nat} (h1 : c ≠ 10) (h2 : c ≠ 50) (h3 : c ≠ 60) (m k : Nat) : fmTr2 σ a s g x c m k = σ c m k := by rw [fmTr2, fmu_c _ _ _ _ _ h3, fmu_c _ _ _ _ _ h2, fmu_c _ _ _ _ _ h1]
abbrev fmBd (σ : fmS) (a rc : Nat) : Prop := ∀ r, r < rc → ∃ v, v ≤ 6 ∧ σ 48 a r 0 = nI v ∧ ∀ j, j < v → ∃ c, c < 14 ∧ σ 8 a r j = nI c
theorem fmAt_lt {σ : fmS} {a rc : Nat} (hrc : rc ≤ 4) (hB : fmBd σ a rc) (x y : Int32) : ∀ c, fmAt σ a rc x y = some c → c < 14 := by
  intro c h
  unfold fmAt at h
  by_cases h1 : ¬ x < 0 ∧ x < nI rc
  · rw [if_pos h1] at h
    obtain ⟨x9, hx9, rfl⟩ := nI_of h1.1
    have hxr : x9 < rc := by
      rcases Nat.lt_or_ge x9 rc with q | q
      · exact q
      · exact absurd h1.2 (nI_nlt q hx9)
    rw [fm_cn hx9] at h
    by_cases h2 : fmRAt σ a x9 y = -1
    · rw [if_pos h2] at h; cases h
    · rw [if_neg h2] at h
      cases h
      obtain ⟨v9, hv6, hux, hm9⟩ := hB x9 hxr
      unfold fmRAt at h2 ⊢
      by_cases q : ¬ y < 0 ∧ y < σ 48 a x9 0
      · rw [if_pos q]
        obtain ⟨y9, hy9, rfl⟩ := nI_of q.1
        have hyv : y9 < v9 := by
          rcases Nat.lt_or_ge y9 v9 with z | z
          · exact z
          · exact absurd (hux ▸ q.2) (nI_nlt z hy9)
        rw [fm_cn hy9]
        obtain ⟨c9, hc9, e9⟩ := hm9 y9 hyv
        rw [fm_cl e9 (by omega)]
        exact hc9
      · rw [if_neg q] at h2
        exact absurd rfl h2
  · rw [if_neg h1] at h; cases h
theorem fmCh_or (σ : fmS) (a g : Nat) (lim : Int32) (b t : Option Nat) : fmCh σ a g lim b t = b ∨ fmCh σ a g lim b t = t := by
  cases t with
  | none => exact Or.inl rfl
  | some t =>
    unfold fmCh
    dsimp only
    split
    · cases b with
      | none => exact Or.inr rfl
      | some b =>
        dsimp only
        split
        · exact Or.inr rfl
        · split
          · exact Or.inr rfl
          · exact Or.inl rfl
    · exact Or.inl rfl
theorem fmCh_lt {σ : fmS} {a g : Nat} {lim : Int32} {b t : Option Nat} (hb : ∀ c, b = some c → c < 14) (ht : ∀ c, t = some c → c < 14) : ∀ c, fmCh σ a g lim b t = some c → c < 14 := by
  intro c h
  rcases fmCh_or σ a g lim b t with e | e <;> rw [e] at h
  · exact hb c h
  · exact ht c h
