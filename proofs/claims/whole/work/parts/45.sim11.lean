theorem isB_f {f f' : Nat → Int32} {S : Nat → Prop} (h : ∀ k, S k → f k = f' k) : ∀ {o : Option Nat}, isB f S o → isB f' S o
  | none, h1 => h1
  | some m, h1 => ⟨h1.1, fun k q => by
    rcases h1.2 k q with e | e
    · exact Or.inl e
    · refine Or.inr ?_
      rw [bt, ← h m h1.1, ← h k q]
      exact e⟩
section SIM11
variable {a b rc cc r v p k t g c : Nat} {σ τ : fmS}
theorem ok_iff (hco : fmCoh a rc cc σ) (hrc : rc ≤ 4) (hcc : cc ≤ 14) (hA : rAll a b rc cc σ τ) (hc : c < cc) (hg : g < 4) (hk : k < cc) : gOk τ b c g k ↔ gBes τ b c k ∧ fmSl σ a k g (fmLim σ a c g) := by
  obtain ⟨p1, p2, p3⟩ := (hA.2.2.2.2.2.1 k hk).2 g hg
  obtain ⟨q1, q2, q3⟩ := (hA.2.2.2.2.2.1 c hc).2 g hg
  have e24 := (hA.2.1 c hc).1
  have e25 := (hA.2.1 k hk).2.1 g hg
  show _ ∧ _ ∧ _ ∧ _ ∧ _ ↔ _ ∧ _ ∧ _ ∧ _
  rw [p1, p2, q3, e24, e25, lim_iff]
  constructor
  · rintro ⟨h1, h2, h3, h4, h5⟩
    exact ⟨h1, h2, ⟨h3, h4⟩, h5⟩
  · rintro ⟨h1, h2, ⟨h3, h4⟩, h5⟩
    exact ⟨h1, h2, h3, h4, h5⟩
theorem best_eq (hco : fmCoh a rc cc σ) (hrc : rc ≤ 4) (hcc : cc ≤ 14) (hA : rAll a b rc cc σ τ) (hc : c < cc) (hs : σ 52 a c 0 = 1) (hg : g < 4) : fmBest σ a rc c g = if gBe τ b c g cc = -1 then none else some (gBe τ b c g cc).toNatClampNeg := by
  have hB := fmCoh_bd hcc hco
  have hat : ∀ x y m, fmAt σ a rc x y = some m → m < 14 := fun x y m h => fmAt_lt hrc hB x y m h
  have h0 : isB (fun k => σ 11 a k g) (fun _ => False) none := fun k q => q
  have h1 := ch_isB (o := none) (lim := fmLim σ a c g) (fmAt σ a rc (σ 53 a c 0) (σ 54 a c 0 - 1)) (fun m q => nomatch q) (hat _ _) h0
  have b1 := fmCh_lt (σ := σ) (a := a) (g := g) (lim := fmLim σ a c g) (b := none) (fun m q => nomatch q) (hat (σ 53 a c 0) (σ 54 a c 0 - 1))
  have h2 := ch_isB (lim := fmLim σ a c g) (fmAt σ a rc (σ 53 a c 0) (σ 54 a c 0 + 1)) b1 (hat _ _) h1
  have b2 := fmCh_lt (σ := σ) (a := a) (g := g) (lim := fmLim σ a c g) b1 (hat (σ 53 a c 0) (σ 54 a c 0 + 1))
  have h3 := ch_isB (lim := fmLim σ a c g) (fmAt σ a rc (σ 53 a c 0 - 1) (σ 54 a c 0)) b2 (hat _ _) h2
  have b3 := fmCh_lt (σ := σ) (a := a) (g := g) (lim := fmLim σ a c g) b2 (hat (σ 53 a c 0 - 1) (σ 54 a c 0))
  have h4 := ch_isB (lim := fmLim σ a c g) (fmAt σ a rc (σ 53 a c 0 + 1) (σ 54 a c 0)) b3 (hat _ _) h3
  have hm := isB_f (f' := fun k => σ 11 a k g) (fun k q => ((hA.2.2.2.2.2.1 k q.1).2 g hg).1) (gBe_isB (τ := τ) (b := b) c g cc hcc)
  refine isB_uni (isB_of (fun k => ?_) h4) hm
  have hn := nb_iff (k := k) hco hrc hcc hA.1 hc hs
  constructor
  · intro q
    have hsl : fmSl σ a k g (fmLim σ a c g) := by
      rcases q with (((q | q) | q) | q) | q
      · exact q.elim
      · exact q.2
      · exact q.2
      · exact q.2
      · exact q.2
    have hnb : k < cc ∧ gBes τ b c k := hn.mp (by
      rcases q with (((q | q) | q) | q) | q
      · exact q.elim
      · exact Or.inl q.1
      · exact Or.inr (Or.inl q.1)
      · exact Or.inr (Or.inr (Or.inl q.1))
      · exact Or.inr (Or.inr (Or.inr q.1)))
    exact ⟨hnb.1, (ok_iff hco hrc hcc hA hc hg hnb.1).mpr ⟨hnb.2, hsl⟩⟩
  · intro q
    obtain ⟨k1, k2⟩ := (ok_iff hco hrc hcc hA hc hg q.1).mp q.2
    rcases hn.mpr ⟨q.1, k1⟩ with e | e | e | e
    · exact Or.inl (Or.inl (Or.inl (Or.inr ⟨e, k2⟩)))
    · exact Or.inl (Or.inl (Or.inr ⟨e, k2⟩))
    · exact Or.inl (Or.inr ⟨e, k2⟩)
    · exact Or.inr ⟨e, k2⟩
end SIM11
