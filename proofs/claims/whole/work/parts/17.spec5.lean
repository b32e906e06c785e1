/-! THE OUTER CLASS: what its methods need, the trial market, the results -/
def fmFirst : List (String × Prop) → String → Prop
  | [], _ => False
  | (c, q) :: r, E => (q ∧ E = c) ∨ (¬ q ∧ fmFirst r E)
def fmNo : List (String × Prop) → Prop
  | [] => True
  | (_, q) :: r => ¬ q ∧ fmNo r
theorem fm_ixc {x : Int32} {n : Nat} (h : ¬ (x < 0 ∨ nI n ≤ x)) (hn : n < 2 ^ 31) : x.toNatClampNeg < n ∧ x = nI x.toNatClampNeg := by
  obtain ⟨j, hj, e⟩ := nI_of (fun q => h (Or.inl q))
  rw [e, fm_cn hj]
  refine ⟨?_, rfl⟩
  rcases Nat.lt_or_ge j n with q | q
  · exact q
  · exact absurd (Or.inr (by rw [e]; exact nI_le q hj)) h
theorem fm_rgc {x : Int32} {lo hi : Nat} (h : ¬ (x < nI lo ∨ nI hi < x)) (hlo : lo < 2 ^ 31) (hhi : hi < 2 ^ 31) : lo ≤ x.toNatClampNeg ∧ x.toNatClampNeg ≤ hi ∧ x = nI x.toNatClampNeg := by
  have h0 : ¬ x < 0 := by
    intro q
    refine h (Or.inl ?_)
    have h1 := nI_pos' hlo
    rw [Int32.lt_iff_toInt_lt] at q ⊢
    rw [Int32.le_iff_toInt_le] at h1
    omega
  obtain ⟨j, hj, e⟩ := nI_of h0
  rw [e, fm_cn hj]
  refine ⟨?_, ?_, rfl⟩
  · rcases Nat.lt_or_ge j lo with q | q
    · exact absurd (Or.inl (by rw [e]; exact nI_lt q hlo)) h
    · exact q
  · rcases Nat.lt_or_ge hi j with q | q
    · exact absurd (Or.inr (by rw [e]; exact nI_lt q hj)) h
    · exact q
/-! what the trial market leaves alone -/
def fmOU (c m : Nat) : Prop := ¬ (m = 1 ∧ (c = 8 ∨ (10 ≤ c ∧ c ≤ 13) ∨ (40 ≤ c ∧ c ≤ 60)))
def fmKp (σ τ : fmS) : Prop := ∀ c m k, fmOU c m → τ c m k = σ c m k
theorem kp_refl (σ : fmS) : fmKp σ σ := fun _ _ _ _ => rfl
theorem kp_trans {σ τ υ : fmS} (h1 : fmKp σ τ) (h2 : fmKp τ υ) : fmKp σ υ := fun c m k h => (h2 c m k h).trans (h1 c m k h)
theorem fmOU_0 (c : Nat) : fmOU c 0 := fun q => absurd q.1 (by decide)
theorem kp_loc {f : fmS → fmS} (h : fmLoc 1 f) (σ : fmS) : fmKp σ (f σ) := fun c m k ho => h σ c m k (fun q => ho ⟨q.1, by omega⟩)
theorem kp_MC (σ : fmS) (rc cc : Nat) : fmKp σ (fmMC σ 1 0 rc cc) := by
  intro c m k ho
  by_cases hm : m = 1
  · subst hm
    have hc : ¬ (c = 8 ∨ (10 ≤ c ∧ c ≤ 13) ∨ (40 ≤ c ∧ c ≤ 60)) := fun q => ho ⟨rfl, q⟩
    rw [fmMC, it_c (fun i τ => CC_c (by omega) (by omega) 1 k), it_c (fun i τ => RC_c (by omega) 1 k), MC1_c (by omega)]
  · exact MC_m hm c k
theorem kp_pass {rc cc t n : Nat} (σ : fmS) : fmKp σ (fmPass 1 rc cc t σ n) := kp_loc (loc_pass n) σ
theorem kp_fast {k r v : Nat} (σ : fmS) : fmKp σ (fmFast σ 1 k r v) := kp_loc loc_fast σ
theorem kp_ask {k : Nat} {f : Nat → Int32} (σ : fmS) : fmKp σ (fmu σ 11 1 k f) := fun c m n ho => fmu_ne _ _ _ _ _ (fun q => ho ⟨q.2.1, by omega⟩)
theorem good_kp {rc cc t : Nat} {σ τ : fmS} (h : fmGood 0 rc cc t σ) (hk : fmKp σ τ) : fmGood 0 rc cc t τ :=
  ⟨good_hd h.1 (by rw [hk _ _ _ (fmOU_0 _)]) (by rw [hk _ _ _ (fmOU_0 _)]) (by rw [hk _ _ _ (fmOU_0 _)]), fmCoh_ext h.2 (fun r => hk _ _ _ (fmOU_0 _)) (fun r => by rw [hk _ _ _ (fmOU_0 _)]) (fun r => by rw [hk _ _ _ (fmOU_0 _)]) (fun r => by rw [hk _ _ _ (fmOU_0 _)]) (fun r => by rw [hk _ _ _ (fmOU_0 _)]) (fun r => by rw [hk _ _ _ (fmOU_0 _)])⟩
/-! what a copied market holds -/
theorem it_at {f : Nat → fmS → fmS} {c m k : Nat} {σ : fmS} (ho : ∀ i τ, i ≠ k → f i τ c m k = τ c m k) : ∀ n, k < n → fmIt f σ n c m k = f k (fmIt f σ k) c m k
  | 0, h => absurd h (by omega)
  | n + 1, h => by
    show f n (fmIt f σ n) c m k = _
    by_cases e : n = k
    · subst e; rfl
    · rw [ho n _ e]
      exact it_at ho n (by omega)
theorem RC_k {a b r k : Nat} {σ : fmS} (h : k ≠ r) (c m : Nat) : fmRC a b r σ c m k = σ c m k := by
  rw [fmRC, fmu_ne _ _ _ _ _ (fun q => h q.2.2), fmu_ne _ _ _ _ _ (fun q => h q.2.2), fmu_ne _ _ _ _ _ (fun q => h q.2.2)]
theorem CC_k {a b r k : Nat} {σ : fmS} (h : k ≠ r) (c m : Nat) : fmCC a b r σ c m k = σ c m k := by
  rw [fmCC, foldl_c _ _ (fun d hd q => h q.2.2), fmCC1, foldl_c _ _ (fun d hd q => h q.2.2)]
theorem CC_in50 {a b k : Nat} {σ : fmS} {c : Nat} (h : 50 ≤ c ∧ c ≤ 60) (j : Nat) : fmCC a b k σ c a k j = σ c b k 0 := by
  rw [fmCC, foldl_c _ _ (fun d hd q => by simp at hd; omega), fmCC1, foldl_in _ _ (by simp; omega)]
theorem CC_in10 {a b k : Nat} {σ : fmS} {c : Nat} (h : 10 ≤ c ∧ c ≤ 13) : fmCC a b k σ c a k = fmCp 4 (σ c b k) (σ c a k) := by
  rw [fmCC, foldl_in _ _ (by simp; omega)]
theorem RC_in8 {a b r : Nat} {σ : fmS} : fmRC a b r σ 8 a r = fmCp 6 (σ 8 b r) (σ 8 a r) := by
  rw [fmRC, fmu_self]
theorem RC_in47 {a b r : Nat} {σ : fmS} (j : Nat) : fmRC a b r σ 47 a r j = σ 47 b r 0 := by
  rw [fmRC, fmu_c _ _ _ _ _ (by decide), fmu_c _ _ _ _ _ (by decide), fmu_self]
theorem RC_in48 {a b r : Nat} {σ : fmS} (j : Nat) : fmRC a b r σ 48 a r j = σ 48 b r 0 := by
  rw [fmRC, fmu_c _ _ _ _ _ (by decide), fmu_self]
theorem fmCp_in {n : Nat} (f g : Nat → Int32) {j : Nat} (h : j < n) : fmCp n f g j = f j := by
  show (if 0 ≤ j ∧ j < 0 + n then f (0 + (j - 0)) else g j) = f j
  rw [if_pos ⟨Nat.zero_le _, by omega⟩]
  congr 1
  omega
section MCIN
variable {σ : fmS} {a b rc cc : Nat}
theorem MC_r0 (hab : b ≠ a) (n : Nat) (c k : Nat) : fmIt (fmRC a b) (fmMC1 σ a b) n c b k = σ c b k := by
  rw [it_c (fun i τ => RC_m hab c k), MC1_m hab]
theorem MC_c0 (hab : b ≠ a) (n : Nat) (c k : Nat) : fmIt (fmCC a b) (fmIt (fmRC a b) (fmMC1 σ a b) rc) n c b k = σ c b k := MC_m (cc := n) hab c k
theorem MC_in40 {c : Nat} (h : 40 ≤ c ∧ c ≤ 46) (j : Nat) : fmMC σ a b rc cc c a 0 j = σ c b 0 0 := by
  rw [fmMC, it_c (fun i τ => CC_c (by omega) (by omega) a 0), it_c (fun i τ => RC_c (by omega) a 0), MC1_in h]
theorem MC_in50 (hab : b ≠ a) {c k : Nat} (h : 50 ≤ c ∧ c ≤ 60) (hk : k < cc) (j : Nat) : fmMC σ a b rc cc c a k j = σ c b k 0 := by
  rw [fmMC, it_at (fun i τ e => CC_k (Ne.symm e) c a) cc hk, CC_in50 h, MC_c0 hab]
theorem MC_in10 (hab : b ≠ a) {c k j : Nat} (h : 10 ≤ c ∧ c ≤ 13) (hk : k < cc) (hj : j < 4) : fmMC σ a b rc cc c a k j = σ c b k j := by
  rw [fmMC, it_at (fun i τ e => CC_k (Ne.symm e) c a) cc hk, CC_in10 h, fmCp_in _ _ hj, MC_c0 hab]
theorem MC_in8 (hab : b ≠ a) {r j : Nat} (hr : r < rc) (hj : j < 6) : fmMC σ a b rc cc 8 a r j = σ 8 b r j := by
  rw [fmMC, it_c (fun i τ => CC_c (by decide) (by decide) a r), it_at (fun i τ e => RC_k (Ne.symm e) 8 a) rc hr, RC_in8, fmCp_in _ _ hj, MC_r0 hab]
theorem MC_in47 (hab : b ≠ a) {r : Nat} (hr : r < rc) (j : Nat) : fmMC σ a b rc cc 47 a r j = σ 47 b r 0 := by
  rw [fmMC, it_c (fun i τ => CC_c (by decide) (by decide) a r), it_at (fun i τ e => RC_k (Ne.symm e) 47 a) rc hr, RC_in47, MC_r0 hab]
theorem MC_in48 (hab : b ≠ a) {r : Nat} (hr : r < rc) (j : Nat) : fmMC σ a b rc cc 48 a r j = σ 48 b r 0 := by
  rw [fmMC, it_c (fun i τ => CC_c (by decide) (by decide) a r), it_at (fun i τ e => RC_k (Ne.symm e) 48 a) rc hr, RC_in48, MC_r0 hab]
theorem good_MC {t : Nat} (hab : b ≠ a) (h : fmGood b rc cc t σ) : fmGood a rc cc t (fmMC σ a b rc cc) := by
  obtain ⟨⟨h1, h2, h3, h4, h5, h6⟩, hR, hC⟩ := h
  refine ⟨⟨h1, h2, h3, by rw [MC_in40 (by decide)]; exact h4, by rw [MC_in40 (by decide)]; exact h5, by rw [MC_in40 (by decide)]; exact h6⟩, fun r hr => ?_, fun k hk hs => ?_⟩
  · obtain ⟨q, v, g1, g2, g3, g4, g5⟩ := hR r hr
    refine ⟨q, v, g1, g2, by rw [MC_in47 hab hr]; exact g3, by rw [MC_in48 hab hr]; exact g4, fun j hj => ?_⟩
    obtain ⟨k, e1, e2, e3, e4, e5⟩ := g5 j hj
    exact ⟨k, e1, by rw [MC_in8 hab hr (by omega)]; exact e2, by rw [MC_in50 hab (by decide) e1]; exact e3, by rw [MC_in50 hab (by decide) e1]; exact e4, by rw [MC_in50 hab (by decide) e1]; exact e5⟩
  · rw [MC_in50 hab (by decide) hk] at hs
    obtain ⟨r, j, v, g1, g2, g3, g4, g5, g6, g7⟩ := hC k hk hs
    exact ⟨r, j, v, g1, g2, g3, by rw [MC_in48 hab g1]; exact g4, by rw [MC_in50 hab (by decide) hk]; exact g5, by rw [MC_in50 hab (by decide) hk]; exact g6, by rw [MC_in8 hab g1 (by omega)]; exact g7⟩
end MCIN
theorem pass_1 (a rc cc t : Nat) (σ : fmS) (n : Nat) : fmPass a rc cc (t + n) (fmPass a rc cc t σ n) 1 = fmPass a rc cc t σ (n + 1) := rfl
theorem good_row {a rc cc t r : Nat} {σ : fmS} (h : fmGood a rc cc t σ) (hr : r < rc) : ∃ q v, q ≤ 6 ∧ v ≤ q ∧ σ 47 a r 0 = nI q ∧ σ 48 a r 0 = nI v := by
  obtain ⟨q, v, g1, g2, g3, g4, -⟩ := h.2.1 r hr
  exact ⟨q, v, g1, g2, g3, g4⟩
theorem good_ask {a rc cc t k : Nat} {f : Nat → Int32} {σ : fmS} (h : fmGood a rc cc t σ) : fmGood a rc cc t (fmu σ 11 a k f) := good_ext h (fun c m n hc => fmu_c _ _ _ _ _ (by omega) _ _)
theorem good_fast {a rc cc t k r v q : Nat} {σ : fmS} (h : fmGood a rc cc t σ) (hk : k < cc) (hr : r < rc) (hq : q ≤ 6) (hvq : v < q) (hu : σ 48 a r 0 = nI v) (hp : σ 47 a r 0 = nI q) (hs : σ 52 a k 0 ≠ 1) : fmGood a rc cc t (fmFast σ a k r v) :=
  ⟨good_hd h.1 (by rw [fast_c _ _ _ _ _ (by decide)]) (by rw [fast_c _ _ _ _ _ (by decide)]) (by rw [fast_c _ _ _ _ _ (by decide)]), fmCoh_fast h.2 h.1.1 h.1.2.1 hk hr hq hvq hu hp hs⟩
/-- the trial, n steps on with canoe k moored in row r first -/
def fmTryM (rc cc t k r n : Nat) (σ : fmS) : fmS := fmPass 1 rc cc t (fmFast (fmMC σ 1 0 rc cc) 1 k r (σ 48 0 r 0).toNatClampNeg) n
/-- the trial, n steps on with canoe k asking x for good g -/
def fmTryA (rc cc t k g n : Nat) (x : Int32) (σ : fmS) : fmS := fmPass 1 rc cc t (fmu (fmMC σ 1 0 rc cc) 11 1 k (upd (fmMC σ 1 0 rc cc 11 1 k) g x)) n
def fmAdv (rc cc t k n : Nat) (σ : fmS) : Nat → fmS × Int32 × Int32
  | 0 => (σ, -1, -1)
  | j + 1 => if (fmAdv rc cc t k n σ j).1 48 0 j 0 < (fmAdv rc cc t k n σ j).1 47 0 j 0 then
      (if (fmAdv rc cc t k n σ j).2.2 < fmTryM rc cc t k j n (fmAdv rc cc t k n σ j).1 50 1 k 0 then (fmTryM rc cc t k j n (fmAdv rc cc t k n σ j).1, nI j, fmTryM rc cc t k j n (fmAdv rc cc t k n σ j).1 50 1 k 0)
        else (fmTryM rc cc t k j n (fmAdv rc cc t k n σ j).1, (fmAdv rc cc t k n σ j).2.1, (fmAdv rc cc t k n σ j).2.2))
    else fmAdv rc cc t k n σ j
def fmPri (rc cc t k g n : Nat) (σ : fmS) : Nat → fmS × Int32 × Int32
  | 0 => (σ, -1, -1)
  | j + 1 => if (fmPri rc cc t k g n σ j).2.2 < fmTryA rc cc t k g n (nI (j + 1)) (fmPri rc cc t k g n σ j).1 59 1 k 0 then (fmTryA rc cc t k g n (nI (j + 1)) (fmPri rc cc t k g n σ j).1, nI (j + 1), fmTryA rc cc t k g n (nI (j + 1)) (fmPri rc cc t k g n σ j).1 59 1 k 0)
      else (fmTryA rc cc t k g n (nI (j + 1)) (fmPri rc cc t k g n σ j).1, (fmPri rc cc t k g n σ j).2.1, (fmPri rc cc t k g n σ j).2.2)
theorem kp_tryM {rc cc t k r n : Nat} (σ : fmS) : fmKp σ (fmTryM rc cc t k r n σ) := kp_trans (kp_MC σ rc cc) (kp_trans (kp_fast _) (kp_pass _))
theorem kp_tryA {rc cc t k g n : Nat} {x : Int32} (σ : fmS) : fmKp σ (fmTryA rc cc t k g n x σ) := kp_trans (kp_MC σ rc cc) (kp_trans (kp_ask _) (kp_pass _))
theorem kp_adv {rc cc t k n : Nat} (σ : fmS) : ∀ j, fmKp σ (fmAdv rc cc t k n σ j).1
  | 0 => kp_refl σ
  | j + 1 => by
    rw [fmAdv]
    split
    · split
      · exact kp_trans (kp_adv σ j) (kp_tryM _)
      · exact kp_trans (kp_adv σ j) (kp_tryM _)
    · exact kp_adv σ j
theorem kp_pri {rc cc t k g n : Nat} (σ : fmS) : ∀ j, fmKp σ (fmPri rc cc t k g n σ j).1
  | 0 => kp_refl σ
  | j + 1 => by
    rw [fmPri]
    split
    · exact kp_trans (kp_pri σ j) (kp_tryA _)
    · exact kp_trans (kp_pri σ j) (kp_tryA _)
def fmOffer (σ : fmS) (k g : Nat) (z w v : Int32) : fmS := fmu (fmu (fmu σ 11 0 k (upd (σ 11 0 k) g z)) 12 0 k (upd (σ 12 0 k) g w)) 13 0 k (upd (σ 13 0 k) g v)
def fmFor (σ : fmS) (k w : Nat) : Int32 := if w = 0 then σ 50 1 k 0 else if w = 1 then fmMsAll σ 1 k else σ 53 1 k 0
