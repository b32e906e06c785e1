/-! THE MODEL'S STATE: b is 0 for the state that is, 1 for the one ahead; columns 24 coins, 25 has, 26 is, 27 row, 28 place, 29 leaves, 30 loosened, 31 drifted, 32 sold, 33 bought, 64 step, 65 sum, 66 coinsPaid -/
def gIn (σ : fmS) (b : Nat) (x : Int32) (n : Nat) : Int32 := fmCnt (fun c => decide (σ 26 b 0 c = 1 ∧ σ 27 b 0 c = x)) n
def gSe (f : Nat → Bool) : Nat → Nat → Int32
  | 0, _ => -1
  | d + 1, i => if f i = true then nI i else gSe f d (i + 1)
abbrev gAtP (σ : fmS) (b : Nat) (x y : Int32) : Nat → Bool := fun c => decide (σ 26 b 0 c = 1 ∧ σ 27 b 0 c = x ∧ σ 28 b 0 c = y)
def gAt (σ : fmS) (b : Nat) (x y : Int32) (cc : Nat) : Int32 := gSe (gAtP σ b x y) cc 0
abbrev gFull (σ : fmS) (b r cc : Nat) : Prop := gIn σ b (nI r) cc = σ 15 0 0 r
abbrev gDry (σ : fmS) (b c t : Nat) : Prop := σ 28 b 0 c + σ 16 0 0 (t % 24) < 4
def gMoor (σ : fmS) (b c r cc : Nat) : fmS := fmu (fmu (fmu σ 28 b 0 (upd (σ 28 b 0) c (gIn σ b (nI r) cc))) 27 b 0 (upd (σ 27 b 0) c (nI r))) 26 b 0 (upd (σ 26 b 0) c 1)
def gOff0 (σ : fmS) (b c : Nat) (x : Int32) : fmS := fmu σ 26 b 0 (upd (σ 26 b 0) c x)
def gOP (τ : fmS) (b c k : Nat) : Bool := decide (τ 26 b 0 k = 1 ∧ τ 27 b 0 k = τ 27 b 0 c ∧ ¬ τ 28 b 0 k < τ 28 b 0 c)
def gPl (τ : fmS) (b c n : Nat) : Nat → Int32 := fun i => if i < n ∧ gOP τ b c i = true then τ 28 b 0 i - 1 else τ 28 b 0 i
def gLo (τ : fmS) (b c n : Nat) : Nat → Int32 := fun i => if i < n ∧ gOP τ b c i = true then τ 30 b 0 i + 1 else τ 30 b 0 i
def gOff1 (τ : fmS) (b c n : Nat) : fmS := fmu (fmu τ 28 b 0 (gPl τ b c n)) 30 b 0 (gLo τ b c n)
def gOff (σ : fmS) (b c cc : Nat) : fmS := gOff1 (gOff0 σ b c 0) b c cc
def gOffN (σ : fmS) (b c cc : Nat) : Int32 := fmCnt (gOP (gOff0 σ b c 0) b c) cc
abbrev gBes (σ : fmS) (b x y : Nat) : Prop := σ 26 b 0 x = 1 ∧ σ 26 b 0 y = 1 ∧ fmAb (σ 27 b 0 x - σ 27 b 0 y) + fmAb (σ 28 b 0 x - σ 28 b 0 y) = 1
def gMs (σ : fmS) (b c g : Nat) : Int32 := if 0 < σ 20 0 0 (4 * c + g) - σ 25 b 0 (4 * c + g) then σ 20 0 0 (4 * c + g) - σ 25 b 0 (4 * c + g) else 0
def gMsAll (σ : fmS) (b c : Nat) : Int32 := fmSum (gMs σ b c) 4
theorem gPl_0 (τ : fmS) (b c : Nat) : gPl τ b c 0 = τ 28 b 0 := by
  funext i; rw [gPl, if_neg (fun q => absurd q.1 (by omega))]
theorem gLo_0 (τ : fmS) (b c : Nat) : gLo τ b c 0 = τ 30 b 0 := by
  funext i; rw [gLo, if_neg (fun q => absurd q.1 (by omega))]
theorem gOff1_0 (τ : fmS) (b c : Nat) : gOff1 τ b c 0 = τ := by
  rw [gOff1, gPl_0, gLo_0, fmu_id, fmu_id]
theorem gPl_at (τ : fmS) (b c n i : Nat) (h : n ≤ i) : gPl τ b c n i = τ 28 b 0 i := by
  rw [gPl, if_neg (fun q => absurd q.1 (by omega))]
theorem gLo_at (τ : fmS) (b c n i : Nat) (h : n ≤ i) : gLo τ b c n i = τ 30 b 0 i := by
  rw [gLo, if_neg (fun q => absurd q.1 (by omega))]
theorem gPl_c (τ : fmS) (b c n : Nat) (h : τ 26 b 0 c ≠ 1) : gPl τ b c n c = τ 28 b 0 c := by
  rw [gPl, if_neg (fun q => absurd (of_decide_eq_true q.2).1 h)]
theorem gPl_s (τ : fmS) (b c j : Nat) (h : gOP τ b c j = true) : upd (gPl τ b c j) j (τ 28 b 0 j - 1) = gPl τ b c (j + 1) := by
  funext i
  by_cases e : i = j
  · subst e; rw [fm_upd_same, gPl, if_pos ⟨by omega, h⟩]
  · rw [fm_upd_ne _ _ e, gPl, gPl]
    by_cases hi : i < j
    · by_cases hp : gOP τ b c i = true
      · rw [if_pos ⟨hi, hp⟩, if_pos ⟨by omega, hp⟩]
      · rw [if_neg (fun q => hp q.2), if_neg (fun q => hp q.2)]
    · rw [if_neg (fun q => hi q.1), if_neg (fun q => absurd q.1 (by omega))]
theorem gLo_s (τ : fmS) (b c j : Nat) (h : gOP τ b c j = true) : upd (gLo τ b c j) j (τ 30 b 0 j + 1) = gLo τ b c (j + 1) := by
  funext i
  by_cases e : i = j
  · subst e; rw [fm_upd_same, gLo, if_pos ⟨by omega, h⟩]
  · rw [fm_upd_ne _ _ e, gLo, gLo]
    by_cases hi : i < j
    · by_cases hp : gOP τ b c i = true
      · rw [if_pos ⟨hi, hp⟩, if_pos ⟨by omega, hp⟩]
      · rw [if_neg (fun q => hp q.2), if_neg (fun q => hp q.2)]
    · rw [if_neg (fun q => hi q.1), if_neg (fun q => absurd q.1 (by omega))]
theorem gPl_n (τ : fmS) (b c j : Nat) (h : gOP τ b c j ≠ true) : gPl τ b c (j + 1) = gPl τ b c j := by
  funext i
  rw [gPl, gPl]
  by_cases hp : gOP τ b c i = true
  · have hij : i ≠ j := fun e => h (e ▸ hp)
    by_cases hi : i < j
    · rw [if_pos ⟨by omega, hp⟩, if_pos ⟨hi, hp⟩]
    · rw [if_neg (fun q => absurd q.1 (by omega)), if_neg (fun q => hi q.1)]
  · rw [if_neg (fun q => hp q.2), if_neg (fun q => hp q.2)]
theorem gLo_n (τ : fmS) (b c j : Nat) (h : gOP τ b c j ≠ true) : gLo τ b c (j + 1) = gLo τ b c j := by
  funext i
  rw [gLo, gLo]
  by_cases hp : gOP τ b c i = true
  · have hij : i ≠ j := fun e => h (e ▸ hp)
    by_cases hi : i < j
    · rw [if_pos ⟨by omega, hp⟩, if_pos ⟨hi, hp⟩]
    · rw [if_neg (fun q => absurd q.1 (by omega)), if_neg (fun q => hi q.1)]
  · rw [if_neg (fun q => hp q.2), if_neg (fun q => hp q.2)]
theorem gOff1_n (τ : fmS) (b c j : Nat) (h : gOP τ b c j ≠ true) : gOff1 τ b c (j + 1) = gOff1 τ b c j := by
  rw [gOff1, gOff1, gPl_n τ b c j h, gLo_n τ b c j h]
theorem gOff1_c (τ : fmS) (b c n : Nat) {k : Nat} (h : k ≠ 28 ∧ k ≠ 30) (x y : Nat) : gOff1 τ b c n k x y = τ k x y := by
  rw [gOff1, fmu_c _ _ _ _ _ h.2, fmu_c _ _ _ _ _ h.1]
theorem gOff1_28 (τ : fmS) (b c n : Nat) : gOff1 τ b c n 28 b 0 = gPl τ b c n := by
  rw [gOff1, fmu_c _ _ _ _ _ (by decide), fmu_self]
theorem gOff1_30 (τ : fmS) (b c n : Nat) : gOff1 τ b c n 30 b 0 = gLo τ b c n := by
  rw [gOff1, fmu_self]
theorem gOff1_s (τ : fmS) (b c j : Nat) (h : gOP τ b c j = true) : fmu (fmu (gOff1 τ b c j) 28 b 0 (upd (gOff1 τ b c j 28 b 0) j (gOff1 τ b c j 28 b 0 j - 1))) 30 b 0 (upd (fmu (gOff1 τ b c j) 28 b 0 (upd (gOff1 τ b c j 28 b 0) j (gOff1 τ b c j 28 b 0 j - 1)) 30 b 0) j (fmu (gOff1 τ b c j) 28 b 0 (upd (gOff1 τ b c j 28 b 0) j (gOff1 τ b c j 28 b 0 j - 1)) 30 b 0 j + 1)) = gOff1 τ b c (j + 1) := by
  rw [fmu_c _ _ _ _ _ (by decide), gOff1_28, gOff1_30, gPl_at _ _ _ _ _ (Nat.le_refl j), gLo_at _ _ _ _ _ (Nat.le_refl j), gPl_s _ _ _ _ h, gLo_s _ _ _ _ h]
  funext x1 x2 x3 x4
  rw [gOff1, gOff1, fmu_get, fmu_get, fmu_get, fmu_get, fmu_get, fmu_get]
  by_cases h1 : x1 = 30 ∧ x2 = b ∧ x3 = 0
  · rw [if_pos h1, if_pos h1]
  · rw [if_neg h1, if_neg h1, if_neg h1]
    by_cases h2 : x1 = 28 ∧ x2 = b ∧ x3 = 0
    · rw [if_pos h2, if_pos h2]
    · rw [if_neg h2, if_neg h2, if_neg h2]
theorem gIn_p {σ : fmS} {b j : Nat} {x : Int32} (h : σ 26 b 0 j = 1 ∧ σ 27 b 0 j = x) : gIn σ b x (j + 1) = gIn σ b x j + 1 := by
  rw [gIn, fmCnt, if_pos (decide_eq_true h)]; rfl
theorem gIn_n {σ : fmS} {b j : Nat} {x : Int32} (h : ¬ (σ 26 b 0 j = 1 ∧ σ 27 b 0 j = x)) : gIn σ b x (j + 1) = gIn σ b x j + 0 := by
  rw [gIn, fmCnt, if_neg (fun q => h (of_decide_eq_true q)), Int32.add_zero]; rfl
def gBn (σ : fmS) (b : Nat) (x : Int32) (n : Nat) : Int32 := fmCnt (fun c => decide (σ 26 b 0 c = x)) n
theorem gBn_p {σ : fmS} {b j : Nat} {x : Int32} (h : σ 26 b 0 j = x) : gBn σ b x (j + 1) = gBn σ b x j + 1 := by
  rw [gBn, fmCnt, if_pos (decide_eq_true h)]; rfl
theorem gBn_n {σ : fmS} {b j : Nat} {x : Int32} (h : ¬ σ 26 b 0 j = x) : gBn σ b x (j + 1) = gBn σ b x j + 0 := by
  rw [gBn, fmCnt, if_neg (fun q => h (of_decide_eq_true q)), Int32.add_zero]; rfl
theorem gSe_or (f : Nat → Bool) : ∀ (d i : Nat), gSe f d i = -1 ∨ ∃ k, i ≤ k ∧ k < i + d ∧ gSe f d i = nI k ∧ f k = true ∧ ∀ j, i ≤ j → j < k → f j ≠ true
  | 0, _ => Or.inl rfl
  | d + 1, i => by
    rw [gSe]
    by_cases h : f i = true
    · rw [if_pos h]
      exact Or.inr ⟨i, Nat.le_refl i, by omega, rfl, h, fun j h1 h2 => absurd h2 (by omega)⟩
    · rw [if_neg h]
      rcases gSe_or f d (i + 1) with q | ⟨k, h1, h2, h3, h4, h5⟩
      · exact Or.inl q
      · refine Or.inr ⟨k, by omega, by omega, h3, h4, fun j g1 g2 => ?_⟩
        by_cases e : j = i
        · rw [e]; exact h
        · exact h5 j (by omega) g2
def gDrC (σ : fmS) (b r cc : Nat) : Int32 := if gIn σ b (nI r) cc = 0 then -1 else gAt σ b (nI r) (gIn σ b (nI r) cc - 1) cc
def gDr1 (σ : fmS) (b k : Nat) : fmS := fmu (fmu (fmu σ 22 0 0 (upd (σ 22 0 0) k 1)) 31 b 0 (upd (σ 31 b 0) k (σ 31 b 0 k + 1))) 26 b 0 (upd (σ 26 b 0) k 0)
def gNx (σ : fmS) (b rc cc r0 : Nat) : Nat → Nat → Int32
  | 0, _ => -1
  | d + 1, i => if gFull σ b ((r0 + i) % rc) cc then gNx σ b rc cc r0 d (i + 1) else nI ((r0 + i) % rc)
def gDr2 (σ : fmS) (b rc cc k r0 : Nat) : fmS := if gNx σ b rc cc r0 (rc - 1) 1 = -1 then σ else gMoor σ b k (gNx σ b rc cc r0 (rc - 1) 1).toNatClampNeg cc
def gDrift (σ : fmS) (b rc cc t r : Nat) : fmS := if gDrC σ b r cc = -1 then σ else
  if σ 22 0 0 (gDrC σ b r cc).toNatClampNeg = 0 ∧ σ 18 0 0 (gDrC σ b r cc).toNatClampNeg < σ 17 0 0 (t % 24) then gDr2 (gDr1 σ b (gDrC σ b r cc).toNatClampNeg) b rc cc (gDrC σ b r cc).toNatClampNeg r else σ
abbrev gOk (σ : fmS) (b c g k : Nat) : Prop := gBes σ b c k ∧ σ 19 0 0 (4 * k + g) ≠ 0 ∧ ¬ σ 21 0 0 (4 * c + g) < σ 19 0 0 (4 * k + g) ∧ ¬ σ 24 b 0 c < σ 19 0 0 (4 * k + g) ∧ σ 20 0 0 (4 * k + g) < σ 25 b 0 (4 * k + g)
def gBe (σ : fmS) (b c g : Nat) : Nat → Int32
  | 0 => -1
  | j + 1 => if gOk σ b c g j ∧ (gBe σ b c g j = -1 ∨ σ 19 0 0 (4 * j + g) < σ 19 0 0 (4 * (gBe σ b c g j).toNatClampNeg + g)) then nI j else gBe σ b c g j
theorem gBe_or (σ : fmS) (b c g : Nat) : ∀ n, gBe σ b c g n = -1 ∨ ∃ k, k < n ∧ gBe σ b c g n = nI k
  | 0 => Or.inl rfl
  | n + 1 => by
    rw [gBe]
    split
    · exact Or.inr ⟨n, by omega, rfl⟩
    · rcases gBe_or σ b c g n with q | ⟨k, h1, h2⟩
      · exact Or.inl q
      · exact Or.inr ⟨k, by omega, h2⟩
def gTr1 (σ : fmS) (b c s : Nat) (x : Int32) : fmS := fmu (fmu σ 24 b 0 (upd (σ 24 b 0) c (σ 24 b 0 c - x))) 24 b 0 (upd (upd (σ 24 b 0) c (σ 24 b 0 c - x)) s (upd (σ 24 b 0) c (σ 24 b 0 c - x) s + x))
def gTr2 (σ : fmS) (b c s g : Nat) : fmS := fmu (fmu σ 25 b 0 (upd (σ 25 b 0) (4 * c + g) (σ 25 b 0 (4 * c + g) + 1))) 25 b 0 (upd (upd (σ 25 b 0) (4 * c + g) (σ 25 b 0 (4 * c + g) + 1)) (4 * s + g) (upd (σ 25 b 0) (4 * c + g) (σ 25 b 0 (4 * c + g) + 1) (4 * s + g) - 1))
def gTr3 (σ : fmS) (b c s : Nat) : fmS := fmu (fmu σ 33 b 0 (upd (σ 33 b 0) c (σ 33 b 0 c + 1))) 32 b 0 (upd (σ 32 b 0) s (σ 32 b 0 s + 1))
def gTr4 (σ : fmS) (b : Nat) (x : Int32) : fmS := fmu (fmu σ 65 b 0 (fun _ => σ 65 b 0 0 + 1)) 66 b 0 (fun _ => σ 66 b 0 0 + x)
def gTr (σ : fmS) (b c s g : Nat) : fmS := gTr4 (gTr3 (gTr2 (gTr1 σ b c s (σ 19 0 0 (4 * s + g))) b c s g) b c s) b (σ 19 0 0 (4 * s + g))
def gTrade (σ : fmS) (b c g cc : Nat) : fmS := if gMs σ b c g = 0 then σ else if gBe σ b c g cc = -1 then σ else gTr σ b c (gBe σ b c g cc).toNatClampNeg g
