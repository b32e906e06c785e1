/-! THE BEST SELLER: the least price, of several the smallest number -/
def bt (f : Nat → Int32) (x y : Nat) : Prop := f x < f y ∨ (f x = f y ∧ x < y)
def isB (f : Nat → Int32) (S : Nat → Prop) : Option Nat → Prop
  | none => ∀ k, ¬ S k
  | some m => S m ∧ ∀ k, S k → k = m ∨ bt f m k
theorem bt_asym {f : Nat → Int32} {x y : Nat} (h1 : bt f x y) (h2 : bt f y x) : False := by
  rcases h1 with h1 | ⟨h1, h1'⟩ <;> rcases h2 with h2 | ⟨h2, h2'⟩
  · rw [Int32.lt_iff_toInt_lt] at h1 h2; omega
  · rw [h2] at h1; exact (Int32.lt_irrefl h1).elim
  · rw [h1] at h2; exact (Int32.lt_irrefl h2).elim
  · omega
theorem bt_trans {f : Nat → Int32} {x y z : Nat} (h1 : bt f x y) (h2 : bt f y z) : bt f x z := by
  rcases h1 with h1 | ⟨h1, h1'⟩ <;> rcases h2 with h2 | ⟨h2, h2'⟩
  · refine Or.inl ?_
    rw [Int32.lt_iff_toInt_lt] at h1 h2 ⊢; omega
  · exact Or.inl (h2 ▸ h1)
  · exact Or.inl (h1 ▸ h2)
  · exact Or.inr ⟨h1.trans h2, by omega⟩
theorem bt_total {f : Nat → Int32} {x y : Nat} (h : ¬ bt f x y) : y = x ∨ bt f y x := by
  by_cases h1 : f y < f x
  · exact Or.inr (Or.inl h1)
  · have h2 : ¬ f x < f y := fun q => h (Or.inl q)
    have e : f x = f y := by
      rw [Int32.lt_iff_toInt_lt] at h1 h2
      exact Int32.toInt_inj.mp (by omega)
    have h3 : ¬ x < y := fun q => h (Or.inr ⟨e, q⟩)
    by_cases h4 : y = x
    · exact Or.inl h4
    · exact Or.inr (Or.inr ⟨e.symm, by omega⟩)
theorem isB_uni {f : Nat → Int32} {S : Nat → Prop} : ∀ {o1 o2 : Option Nat}, isB f S o1 → isB f S o2 → o1 = o2
  | none, none, _, _ => rfl
  | none, some m, h1, h2 => absurd h2.1 (h1 m)
  | some m, none, h1, h2 => absurd h1.1 (h2 m)
  | some m, some n, h1, h2 => by
    rcases h1.2 n h2.1 with e | e
    · rw [e]
    · rcases h2.2 m h1.1 with e2 | e2
      · rw [e2]
      · exact (bt_asym e e2).elim
theorem isB_of {f : Nat → Int32} {S S' : Nat → Prop} (h : ∀ k, S k ↔ S' k) : ∀ {o : Option Nat}, isB f S o → isB f S' o
  | none, h1 => fun k q => h1 k ((h k).mpr q)
  | some m, h1 => ⟨(h m).mp h1.1, fun k q => h1.2 k ((h k).mpr q)⟩
theorem isB_add {f : Nat → Int32} {S : Nat → Prop} {m x : Nat} (h : isB f S (some m)) (hx : bt f x m) : isB f (fun k => S k ∨ k = x) (some x) :=
  ⟨Or.inr rfl, fun k q => by
    rcases q with q | q
    · rcases h.2 k q with e | e
      · exact Or.inr (e ▸ hx)
      · exact Or.inr (bt_trans hx e)
    · exact Or.inl q⟩
theorem isB_keep {f : Nat → Int32} {S : Nat → Prop} {m x : Nat} (h : isB f S (some m)) (hx : ¬ bt f x m) : isB f (fun k => S k ∨ k = x) (some m) :=
  ⟨Or.inl h.1, fun k q => by
    rcases q with q | q
    · exact h.2 k q
    · rw [q]
      rcases bt_total hx with e | e
      · exact Or.inl e.symm
      · exact Or.inr e⟩
section SIM8
variable {a b rc cc r v p k t g : Nat} {σ τ : fmS} {lim : Int32}
theorem ch_isB {S : Nat → Prop} : ∀ {o : Option Nat} (x : Option Nat), (∀ m, o = some m → m < 14) → (∀ m, x = some m → m < 14) → isB (fun k => σ 11 a k g) S o → isB (fun k => σ 11 a k g) (fun k => S k ∨ (x = some k ∧ fmSl σ a k g lim)) (fmCh σ a g lim o x)
  | o, none, _, _, h => isB_of (fun k => ⟨fun q => Or.inl q, fun q => q.elim id (fun q => nomatch q.1)⟩) h
  | none, some x, _, hx, h => by
    show isB _ _ (if fmSl σ a x g lim then some x else none)
    by_cases c : fmSl σ a x g lim
    · rw [if_pos c]
      refine ⟨Or.inr ⟨rfl, c⟩, fun k q => ?_⟩
      rcases q with q | q
      · exact absurd q (h k)
      · exact Or.inl (Option.some.inj q.1).symm
    · rw [if_neg c]
      intro k q
      rcases q with q | q
      · exact h k q
      · exact c ((Option.some.inj q.1) ▸ q.2)
  | some m, some x, hm, hx, h => by
    have hm := hm m rfl
    have hx := hx x rfl
    show isB _ _ (if fmSl σ a x g lim then (if σ 11 a x g < σ 11 a m g then some x else if σ 11 a x g = σ 11 a m g ∧ nI x < nI m then some x else some m) else some m)
    by_cases c : fmSl σ a x g lim
    · rw [if_pos c]
      have e : ∀ k, (S k ∨ k = x) ↔ (S k ∨ (some x = some k ∧ fmSl σ a k g lim)) := fun k => ⟨fun q => q.elim Or.inl (fun q => Or.inr (by rw [q]; exact ⟨rfl, c⟩)), fun q => q.elim Or.inl (fun q => Or.inr (Option.some.inj q.1).symm)⟩
      by_cases c1 : σ 11 a x g < σ 11 a m g
      · rw [if_pos c1]
        exact isB_of e (isB_add h (Or.inl c1))
      · rw [if_neg c1]
        by_cases c2 : σ 11 a x g = σ 11 a m g ∧ nI x < nI m
        · rw [if_pos c2]
          exact isB_of e (isB_add h (Or.inr ⟨c2.1, (nI_ltI (by omega) (by omega)).mp c2.2⟩))
        · rw [if_neg c2]
          refine isB_of e (isB_keep h (fun q => ?_))
          rcases q with q | ⟨q1, q2⟩
          · exact c1 q
          · exact c2 ⟨q1, nI_lt q2 (by omega)⟩
    · rw [if_neg c]
      exact isB_of (fun k => ⟨fun q => Or.inl q, fun q => q.elim id (fun q => absurd q.2 ((Option.some.inj q.1) ▸ c))⟩) h
/-- the model's search -/
theorem gBe_isB (c g : Nat) : ∀ n, n ≤ 14 → isB (fun k => τ 19 0 0 (4 * k + g)) (fun k => k < n ∧ gOk τ b c g k) (if gBe τ b c g n = -1 then none else some (gBe τ b c g n).toNatClampNeg)
  | 0, _ => by
    rw [show gBe τ b c g 0 = -1 from rfl, if_pos rfl]
    exact fun k q => absurd q.1 (by omega)
  | n + 1, hn => by
    have ih := gBe_isB c g n (by omega)
    rcases gBe_or τ b c g n with hb | ⟨m, hm, hb⟩
    · rw [hb, if_pos rfl] at ih
      by_cases c1 : gOk τ b c g n
      · rw [gBe_yes c1 (Or.inl hb), if_neg (fm_nI_ne n (by omega)), fm_cn (by omega)]
        refine ⟨⟨by omega, c1⟩, fun k q => ?_⟩
        by_cases e : k = n
        · exact Or.inl e
        · exact absurd ⟨by omega, q.2⟩ (ih k)
      · rw [gBe_no c1, hb, if_pos rfl]
        intro k q
        by_cases e : k = n
        · exact c1 (e ▸ q.2)
        · exact ih k ⟨by omega, q.2⟩
    · rw [hb, if_neg (fm_nI_ne m (by omega)), fm_cn (by omega)] at ih
      by_cases c1 : gOk τ b c g n
      · have e : ∀ k, ((k < n ∧ gOk τ b c g k) ∨ k = n) ↔ (k < n + 1 ∧ gOk τ b c g k) := fun k => ⟨fun q => q.elim (fun q => ⟨by omega, q.2⟩) (fun q => by rw [q]; exact ⟨by omega, c1⟩), fun q => by
          by_cases e : k = n
          · exact Or.inr e
          · exact Or.inl ⟨by omega, q.2⟩⟩
        by_cases c2 : τ 19 0 0 (4 * n + g) < τ 19 0 0 (4 * m + g)
        · rw [gBe_yes c1 (Or.inr (by rw [hb, fm_cn (by omega)]; exact c2)), if_neg (fm_nI_ne n (by omega)), fm_cn (by omega)]
          exact isB_of e (isB_add ih (Or.inl c2))
        · rw [gBe_nb hb (by rw [hb]; exact fm_nI_ne m (by omega)) (Int32.not_lt.mp c2) hm (by omega), if_neg (fm_nI_ne m (by omega)), fm_cn (by omega)]
          refine isB_of e (isB_keep ih (fun q => ?_))
          rcases q with q | ⟨-, q2⟩
          · exact c2 q
          · omega
      · rw [gBe_no c1, hb, if_neg (fm_nI_ne m (by omega)), fm_cn (by omega)]
        exact isB_of (fun k => ⟨fun q => ⟨by omega, q.2⟩, fun q => ⟨by
          by_cases e : k = n
          · exact absurd (e ▸ q.2) c1
          · omega, q.2⟩⟩) ih
end SIM8
