set_option maxHeartbeats 4000000 in
theorem op_foresee {rc cc t : Nat} {σ : fmS} {o : Nat → Int64} (I : rI rc cc t σ) (hts : t + 200 ≤ 200000) (x y z : Int32) {k : Int32} {z9 : fmS × (Nat → Int64)} (h : (k = 0 ∧ ∃ r, (fun r u => fmNo [("java/lang/IndexOutOfBoundsException", x < 0 ∨ σ 41 0 0 0 ≤ x), ("java/lang/IndexOutOfBoundsException", z < 0 ∨ 3 ≤ z), ("java/lang/IllegalArgumentException", y < 1 ∨ 150 < y)] ∧ r = fmFor (fmPass 1 rc cc t (fmMC σ 1 0 rc cc) y.toNatClampNeg) x.toNatClampNeg z.toNatClampNeg ∧ u = (fmPass 1 rc cc t (fmMC σ 1 0 rc cc) y.toNatClampNeg)) r z9.1 ∧ z9.2 = vp_updL o 0 r.toInt64) ∨ ∃ E, (fun E u => u = σ ∧ fmFirst [("java/lang/IndexOutOfBoundsException", x < 0 ∨ σ 41 0 0 0 ≤ x), ("java/lang/IndexOutOfBoundsException", z < 0 ∨ 3 ≤ z), ("java/lang/IllegalArgumentException", y < 1 ∨ 150 < y)] E) E z9.1 ∧ z9.2 = o ∧ fmCode [("java/lang/IndexOutOfBoundsException", 1), ("java/lang/IllegalArgumentException", 2)] E k) : mK σ z9.1 ∧ ∀ (b9 : Int32) (u9 : fmS), (fun r u => gRes (gz z9.1) (r = gForR (gPass 1 rc cc t (gBc (gz z9.1) 1 0) y.toNatClampNeg) x.toNatClampNeg z ∧ u = (gPass 1 rc cc t (gBc (gz z9.1) 1 0) y.toNatClampNeg)) r u [(1, (x < 0 ∨ nI cc ≤ x) ∨ (z < 0 ∨ 2 < z)), (2, y < 1 ∨ 150 < y)]) b9 u9 → rEnd (t + 200) k z9.2 b9.toInt64 u9 := by
  obtain ⟨hgo, ⟨h62, h63, h64⟩, hnw, hso, htab⟩ := id I
  obtain ⟨⟨hrc, hcc, ht, h40, h41, h42⟩, hco⟩ := id hgo.1
  obtain ⟨u9, o9⟩ := z9
  dsimp only at h ⊢
  have e0 : ∀ u, mK σ u → ((x < 0 ∨ σ 41 0 0 0 ≤ x) ↔ (x < 0 ∨ nI cc ≤ x)) := by
    intro u hm
    rw [h41]
  have e1 : ∀ u, mK σ u → ¬ (x < 0 ∨ σ 41 0 0 0 ≤ x) → ((z < 0 ∨ 3 ≤ z) ↔ (z < 0 ∨ 2 < z)) := by
    intro u hm n0
    rw [i_le_lt (lo := 2) (hi := 3) (by decide)]
  have e2 : ∀ u, mK σ u → ¬ (x < 0 ∨ σ 41 0 0 0 ≤ x) → ¬ (z < 0 ∨ 3 ≤ z) → ((y < 1 ∨ 150 < y) ↔ (y < 1 ∨ 150 < y)) := by
    intro u hm n0 n1
    exact Iff.rfl
  rcases h with ⟨rfl, r9, ⟨⟨n0, n1, n2, -⟩, h⟩, rfl⟩ | ⟨E9, ⟨rfl, hE⟩, rfl, hk⟩
  · have hN : ∀ u, mK σ u → cN [(1, (x < 0 ∨ nI cc ≤ x) ∨ (z < 0 ∨ 2 < z)), (2, y < 1 ∨ 150 < y)] := fun u hm => ⟨(fun q => q.elim (fun q => n0 ((e0 _ hm).mpr q)) (fun q => n1 ((e1 _ hm n0).mpr q))), (fun q => n2 ((e2 _ hm n0 n1).mpr q)), trivial⟩
    obtain ⟨hx1, hx2⟩ := fm_ixc (x := x) (n := cc) (by rw [← h41]; exact n0) (by omega)
    obtain ⟨hz1, hz2⟩ := fm_ixc (x := z) (n := 3) n1 (by decide)
    obtain ⟨hy0, hy1, hy2⟩ := fm_rgc (x := y) (lo := 1) (hi := 150) n2 (by decide) (by decide)
    obtain ⟨rfl, rfl⟩ := h
    have hm := mK_kp (kp_for (σ := σ) (rc := rc) (cc := cc) (t := t) y.toNatClampNeg)
    refine ⟨hm, fun b9 u9 hu => ?_⟩
    obtain ⟨rfl, rfl⟩ := gres_N (hN _ hm) hu
    have hR := rGo_md hgo hm
    have hJ := for_all hR y.toNatClampNeg (by omega)
    exact rEnd_0 (trial_I I (kp_for _) (gKp_for _)) (by omega) (trial_61 (gKp_for _)) (by rw [updL_0, for_eq hJ.2.1 hx1 hz2 hz1])
  · refine ⟨mK_refl, fun b9 u9 hu => ?_⟩
    rcases hE with ⟨h0, rfl⟩ | ⟨n0, (⟨h1, rfl⟩ | ⟨n1, (⟨h2, rfl⟩ | ⟨n2, hf⟩)⟩)⟩
    · rcases hk with ⟨-, rfl⟩ | ⟨q, -⟩ | q
      · refine rEnd_x I (by omega) (by decide) (gres_F ?_ hu).2
        exact Or.inl ⟨(Or.inl ((e0 _ mK_refl).mp h0)), rfl⟩
      · exact absurd q (by decide)
      · exact q.elim
    · rcases hk with ⟨-, rfl⟩ | ⟨q, -⟩ | q
      · refine rEnd_x I (by omega) (by decide) (gres_F ?_ hu).2
        exact Or.inl ⟨(Or.inr ((e1 _ mK_refl n0).mp h1)), rfl⟩
      · exact absurd q (by decide)
      · exact q.elim
    · rcases hk with ⟨q, -⟩ | ⟨-, rfl⟩ | q
      · exact absurd q (by decide)
      · refine rEnd_x I (by omega) (by decide) (gres_F ?_ hu).2
        exact Or.inr ⟨(fun q => q.elim (fun q => n0 ((e0 _ mK_refl).mpr q)) (fun q => n1 ((e1 _ mK_refl n0).mpr q))), Or.inl ⟨((e2 _ mK_refl n0 n1).mp h2), rfl⟩⟩
      · exact q.elim
    · exact hf.elim

set_option maxHeartbeats 4000000 in
theorem op_full {rc cc t : Nat} {σ : fmS} {o : Nat → Int64} (I : rI rc cc t σ) (hts : t + 200 ≤ 200000) (x : Int32) {k : Int32} {z9 : fmS × (Nat → Int64)} (h : (k = 0 ∧ ∃ r, (fun r u => fmNo [("java/lang/IndexOutOfBoundsException", x < 0 ∨ σ 41 0 0 0 ≤ x)] ∧ ((∃ n, n ≤ 150 ∧ r = nI n ∧ fmMsAll (fmPass 1 rc cc t (fmMC σ 1 0 rc cc) n) 1 x.toNatClampNeg = 0 ∧ (∀ i, i < n → ¬ fmMsAll (fmPass 1 rc cc t (fmMC σ 1 0 rc cc) i) 1 x.toNatClampNeg = 0) ∧ u = (fmPass 1 rc cc t (fmMC σ 1 0 rc cc) n)) ∨ (r = -1 ∧ (∀ i, i < 151 → ¬ fmMsAll (fmPass 1 rc cc t (fmMC σ 1 0 rc cc) i) 1 x.toNatClampNeg = 0) ∧ u = (fmPass 1 rc cc t (fmMC σ 1 0 rc cc) 150)))) r z9.1 ∧ z9.2 = vp_updL o 0 r.toInt64) ∨ ∃ E, (fun E u => u = σ ∧ fmFirst [("java/lang/IndexOutOfBoundsException", x < 0 ∨ σ 41 0 0 0 ≤ x)] E) E z9.1 ∧ z9.2 = o ∧ fmCode [("java/lang/IndexOutOfBoundsException", 1)] E k) : mK σ z9.1 ∧ ∀ (b9 : Int32) (u9 : fmS), (fun r u => gRes (gz z9.1) ((∃ n, n ≤ 150 ∧ r = nI n ∧ gMsAll (gPass 1 rc cc t (gBc (gz z9.1) 1 0) n) 1 x.toNatClampNeg = 0 ∧ (∀ i, i < n → ¬ gMsAll (gPass 1 rc cc t (gBc (gz z9.1) 1 0) i) 1 x.toNatClampNeg = 0) ∧ u = (gPass 1 rc cc t (gBc (gz z9.1) 1 0) n)) ∨ (r = -1 ∧ (∀ i, i < 151 → ¬ gMsAll (gPass 1 rc cc t (gBc (gz z9.1) 1 0) i) 1 x.toNatClampNeg = 0) ∧ u = (gPass 1 rc cc t (gBc (gz z9.1) 1 0) 151))) r u [(1, x < 0 ∨ nI cc ≤ x)]) b9 u9 → rEnd (t + 200) k z9.2 b9.toInt64 u9 := by
  obtain ⟨hgo, ⟨h62, h63, h64⟩, hnw, hso, htab⟩ := id I
  obtain ⟨⟨hrc, hcc, ht, h40, h41, h42⟩, hco⟩ := id hgo.1
  obtain ⟨u9, o9⟩ := z9
  dsimp only at h ⊢
  have e0 : ∀ u, mK σ u → ((x < 0 ∨ σ 41 0 0 0 ≤ x) ↔ (x < 0 ∨ nI cc ≤ x)) := by
    intro u hm
    rw [h41]
  rcases h with ⟨rfl, r9, ⟨⟨n0, -⟩, h⟩, rfl⟩ | ⟨E9, ⟨rfl, hE⟩, rfl, hk⟩
  · have hN : ∀ u, mK σ u → cN [(1, x < 0 ∨ nI cc ≤ x)] := fun u hm => ⟨(fun q => n0 ((e0 _ hm).mpr q)), trivial⟩
    obtain ⟨hx1, hx2⟩ := fm_ixc (x := x) (n := cc) (by rw [← h41]; exact n0) (by omega)
    have hu1 : ∃ n, n ≤ 150 ∧ u9 = fmPass 1 rc cc t (fmMC σ 1 0 rc cc) n := by
      rcases h with ⟨n, q1, q2, q3, q4, q5⟩ | ⟨q2, q4, q5⟩
      · exact ⟨n, q1, q5⟩
      · exact ⟨150, Nat.le_refl _, q5⟩
    have hkp : fmKp σ u9 := by
      obtain ⟨n, -, e⟩ := hu1
      rw [e]; exact kp_for n
    have hm := mK_kp hkp
    refine ⟨hm, fun b9 u8 hu => ?_⟩
    have hz := gres_N (hN _ hm) hu
    have hR := rGo_md hgo hm
    have hJ := fun n (hn : n ≤ 151) => for_all hR n (by omega)
    have hgk : gKp (gz u9) u8 := by rcases hz with ⟨n, -, -, -, -, e⟩ | ⟨-, -, e⟩ <;> rw [e] <;> exact gKp_for _
    have he := first_eq (fun i hi => by rw [msall_eq (hJ i (by omega)).2.1 hx1]) h hz
    exact rEnd_0 (trial_I I hkp hgk) (by omega) (trial_61 hgk) (by rw [updL_0, he])
  · refine ⟨mK_refl, fun b9 u9 hu => ?_⟩
    rcases hE with ⟨h0, rfl⟩ | ⟨n0, hf⟩
    · rcases hk with ⟨-, rfl⟩ | q
      · refine rEnd_x I (by omega) (by decide) (gres_F ?_ hu).2
        exact Or.inl ⟨((e0 _ mK_refl).mp h0), rfl⟩
      · exact q.elim
    · exact hf.elim

set_option maxHeartbeats 4000000 in
theorem op_gone {rc cc t : Nat} {σ : fmS} {o : Nat → Int64} (I : rI rc cc t σ) (hts : t + 200 ≤ 200000) (x : Int32) {k : Int32} {z9 : fmS × (Nat → Int64)} (h : (k = 0 ∧ ∃ r, (fun r u => fmNo [("java/lang/IndexOutOfBoundsException", x < 0 ∨ σ 41 0 0 0 ≤ x)] ∧ ((∃ n, n ≤ 150 ∧ r = nI n ∧ (fmPass 1 rc cc t (fmMC σ 1 0 rc cc) n) 52 1 x.toNatClampNeg 0 = 2 ∧ (∀ i, i < n → ¬ (fmPass 1 rc cc t (fmMC σ 1 0 rc cc) i) 52 1 x.toNatClampNeg 0 = 2) ∧ u = (fmPass 1 rc cc t (fmMC σ 1 0 rc cc) n)) ∨ (r = -1 ∧ (∀ i, i < 151 → ¬ (fmPass 1 rc cc t (fmMC σ 1 0 rc cc) i) 52 1 x.toNatClampNeg 0 = 2) ∧ u = (fmPass 1 rc cc t (fmMC σ 1 0 rc cc) 150)))) r z9.1 ∧ z9.2 = vp_updL o 0 r.toInt64) ∨ ∃ E, (fun E u => u = σ ∧ fmFirst [("java/lang/IndexOutOfBoundsException", x < 0 ∨ σ 41 0 0 0 ≤ x)] E) E z9.1 ∧ z9.2 = o ∧ fmCode [("java/lang/IndexOutOfBoundsException", 1)] E k) : mK σ z9.1 ∧ ∀ (b9 : Int32) (u9 : fmS), (fun r u => gRes (gz z9.1) ((∃ n, n ≤ 150 ∧ r = nI n ∧ (gPass 1 rc cc t (gBc (gz z9.1) 1 0) n) 26 1 0 x.toNatClampNeg = 2 ∧ (∀ i, i < n → ¬ (gPass 1 rc cc t (gBc (gz z9.1) 1 0) i) 26 1 0 x.toNatClampNeg = 2) ∧ u = (gPass 1 rc cc t (gBc (gz z9.1) 1 0) n)) ∨ (r = -1 ∧ (∀ i, i < 151 → ¬ (gPass 1 rc cc t (gBc (gz z9.1) 1 0) i) 26 1 0 x.toNatClampNeg = 2) ∧ u = (gPass 1 rc cc t (gBc (gz z9.1) 1 0) 151))) r u [(1, x < 0 ∨ nI cc ≤ x)]) b9 u9 → rEnd (t + 200) k z9.2 b9.toInt64 u9 := by
  obtain ⟨hgo, ⟨h62, h63, h64⟩, hnw, hso, htab⟩ := id I
  obtain ⟨⟨hrc, hcc, ht, h40, h41, h42⟩, hco⟩ := id hgo.1
  obtain ⟨u9, o9⟩ := z9
  dsimp only at h ⊢
  have e0 : ∀ u, mK σ u → ((x < 0 ∨ σ 41 0 0 0 ≤ x) ↔ (x < 0 ∨ nI cc ≤ x)) := by
    intro u hm
    rw [h41]
  rcases h with ⟨rfl, r9, ⟨⟨n0, -⟩, h⟩, rfl⟩ | ⟨E9, ⟨rfl, hE⟩, rfl, hk⟩
  · have hN : ∀ u, mK σ u → cN [(1, x < 0 ∨ nI cc ≤ x)] := fun u hm => ⟨(fun q => n0 ((e0 _ hm).mpr q)), trivial⟩
    obtain ⟨hx1, hx2⟩ := fm_ixc (x := x) (n := cc) (by rw [← h41]; exact n0) (by omega)
    have hu1 : ∃ n, n ≤ 150 ∧ u9 = fmPass 1 rc cc t (fmMC σ 1 0 rc cc) n := by
      rcases h with ⟨n, q1, q2, q3, q4, q5⟩ | ⟨q2, q4, q5⟩
      · exact ⟨n, q1, q5⟩
      · exact ⟨150, Nat.le_refl _, q5⟩
    have hkp : fmKp σ u9 := by
      obtain ⟨n, -, e⟩ := hu1
      rw [e]; exact kp_for n
    have hm := mK_kp hkp
    refine ⟨hm, fun b9 u8 hu => ?_⟩
    have hz := gres_N (hN _ hm) hu
    have hR := rGo_md hgo hm
    have hJ := fun n (hn : n ≤ 151) => for_all hR n (by omega)
    have hgk : gKp (gz u9) u8 := by rcases hz with ⟨n, -, -, -, -, e⟩ | ⟨-, -, e⟩ <;> rw [e] <;> exact gKp_for _
    have he := first_eq (fun i hi => by rw [((hJ i (by omega)).2.1.1 _ hx1).1]) h hz
    exact rEnd_0 (trial_I I hkp hgk) (by omega) (trial_61 hgk) (by rw [updL_0, he])
  · refine ⟨mK_refl, fun b9 u9 hu => ?_⟩
    rcases hE with ⟨h0, rfl⟩ | ⟨n0, hf⟩
    · rcases hk with ⟨-, rfl⟩ | q
      · refine rEnd_x I (by omega) (by decide) (gres_F ?_ hu).2
        exact Or.inl ⟨((e0 _ mK_refl).mp h0), rfl⟩
      · exact q.elim
    · exact hf.elim

set_option maxHeartbeats 4000000 in
theorem op_advise {rc cc t : Nat} {σ : fmS} {o : Nat → Int64} (I : rI rc cc t σ) (hts : t + 200 ≤ 200000) (x y : Int32) {k : Int32} {z9 : fmS × (Nat → Int64)} (h : (k = 0 ∧ ∃ r, (fun r u => fmNo [("java/lang/IndexOutOfBoundsException", x < 0 ∨ σ 41 0 0 0 ≤ x), ("java/lang/IllegalArgumentException", y < 1 ∨ 60 < y), ("java/lang/IllegalStateException", σ 52 0 x.toNatClampNeg 0 ≠ 0)] ∧ r = (fmAdv rc cc t x.toNatClampNeg y.toNatClampNeg σ rc).2.1 ∧ u = (fmAdv rc cc t x.toNatClampNeg y.toNatClampNeg σ rc).1) r z9.1 ∧ z9.2 = vp_updL o 0 r.toInt64) ∨ ∃ E, (fun E u => u = σ ∧ fmFirst [("java/lang/IndexOutOfBoundsException", x < 0 ∨ σ 41 0 0 0 ≤ x), ("java/lang/IllegalArgumentException", y < 1 ∨ 60 < y), ("java/lang/IllegalStateException", σ 52 0 x.toNatClampNeg 0 ≠ 0)] E) E z9.1 ∧ z9.2 = o ∧ fmCode [("java/lang/IndexOutOfBoundsException", 1), ("java/lang/IllegalArgumentException", 2), ("java/lang/IllegalStateException", 3)] E k) : mK σ z9.1 ∧ ∀ (b9 : Int32) (u9 : fmS), (fun r u => gRes (gz z9.1) (r = (gAdv rc cc t x.toNatClampNeg y.toNatClampNeg (gz z9.1) rc).2.1 ∧ u = (gAdv rc cc t x.toNatClampNeg y.toNatClampNeg (gz z9.1) rc).1) r u [(1, x < 0 ∨ nI cc ≤ x), (2, y < 1 ∨ 60 < y), (3, (gz z9.1) 26 0 0 x.toNatClampNeg ≠ 0)]) b9 u9 → rEnd (t + 200) k z9.2 b9.toInt64 u9 := by
  obtain ⟨hgo, ⟨h62, h63, h64⟩, hnw, hso, htab⟩ := id I
  obtain ⟨⟨hrc, hcc, ht, h40, h41, h42⟩, hco⟩ := id hgo.1
  obtain ⟨u9, o9⟩ := z9
  dsimp only at h ⊢
  have e0 : ∀ u, mK σ u → ((x < 0 ∨ σ 41 0 0 0 ≤ x) ↔ (x < 0 ∨ nI cc ≤ x)) := by
    intro u hm
    rw [h41]
  have e1 : ∀ u, mK σ u → ¬ (x < 0 ∨ σ 41 0 0 0 ≤ x) → ((y < 1 ∨ 60 < y) ↔ (y < 1 ∨ 60 < y)) := by
    intro u hm n0
    exact Iff.rfl
  have e2 : ∀ u, mK σ u → ¬ (x < 0 ∨ σ 41 0 0 0 ≤ x) → ¬ (y < 1 ∨ 60 < y) → ((σ 52 0 x.toNatClampNeg 0 ≠ 0) ↔ ((gz u) 26 0 0 x.toNatClampNeg ≠ 0)) := by
    intro u hm n0 n1
    obtain ⟨hx1, hx2⟩ := fm_ixc (x := x) (n := cc) (by rw [← h41]; exact n0) (by omega)
    rw [((rGo_md hgo hm).2.1.1 _ hx1).1]
  rcases h with ⟨rfl, r9, ⟨⟨n0, n1, n2, -⟩, h⟩, rfl⟩ | ⟨E9, ⟨rfl, hE⟩, rfl, hk⟩
  · have hN : ∀ u, mK σ u → cN [(1, x < 0 ∨ nI cc ≤ x), (2, y < 1 ∨ 60 < y), (3, (gz u) 26 0 0 x.toNatClampNeg ≠ 0)] := fun u hm => ⟨(fun q => n0 ((e0 _ hm).mpr q)), (fun q => n1 ((e1 _ hm n0).mpr q)), (fun q => n2 ((e2 _ hm n0 n1).mpr q)), trivial⟩
    obtain ⟨hx1, hx2⟩ := fm_ixc (x := x) (n := cc) (by rw [← h41]; exact n0) (by omega)
    obtain ⟨hy0, hy1, hy2⟩ := fm_rgc (x := y) (lo := 1) (hi := 60) n1 (by decide) (by decide)
    have hs : σ 52 0 x.toNatClampNeg 0 = 0 := Decidable.not_not.mp n2
    obtain ⟨rfl, rfl⟩ := h
    have hm := mK_kp (kp_adv (rc := rc) (cc := cc) (t := t) (k := x.toNatClampNeg) (n := y.toNatClampNeg) σ rc)
    refine ⟨hm, fun b9 u9 hu => ?_⟩
    obtain ⟨rfl, rfl⟩ := gres_N (hN _ hm) hu
    have hR := rGo_md hgo hm
    have hA := adv_all hR hx1 hs (n := y.toNatClampNeg) (by omega) rc (Nat.le_refl rc)
    exact rEnd_0 (trial_I I (kp_adv σ rc) (gKp_adv _ rc)) (by omega) (trial_61 (gKp_adv _ rc)) (by rw [updL_0, hA])
  · refine ⟨mK_refl, fun b9 u9 hu => ?_⟩
    rcases hE with ⟨h0, rfl⟩ | ⟨n0, (⟨h1, rfl⟩ | ⟨n1, (⟨h2, rfl⟩ | ⟨n2, hf⟩)⟩)⟩
    · rcases hk with ⟨-, rfl⟩ | ⟨q, -⟩ | ⟨q, -⟩ | q
      · refine rEnd_x I (by omega) (by decide) (gres_F ?_ hu).2
        exact Or.inl ⟨((e0 _ mK_refl).mp h0), rfl⟩
      · exact absurd q (by decide)
      · exact absurd q (by decide)
      · exact q.elim
    · rcases hk with ⟨q, -⟩ | ⟨-, rfl⟩ | ⟨q, -⟩ | q
      · exact absurd q (by decide)
      · refine rEnd_x I (by omega) (by decide) (gres_F ?_ hu).2
        exact Or.inr ⟨(fun q => n0 ((e0 _ mK_refl).mpr q)), Or.inl ⟨((e1 _ mK_refl n0).mp h1), rfl⟩⟩
      · exact absurd q (by decide)
      · exact q.elim
    · rcases hk with ⟨q, -⟩ | ⟨q, -⟩ | ⟨-, rfl⟩ | q
      · exact absurd q (by decide)
      · exact absurd q (by decide)
      · refine rEnd_x I (by omega) (by decide) (gres_F ?_ hu).2
        exact Or.inr ⟨(fun q => n0 ((e0 _ mK_refl).mpr q)), Or.inr ⟨(fun q => n1 ((e1 _ mK_refl n0).mpr q)), Or.inl ⟨((e2 _ mK_refl n0 n1).mp h2), rfl⟩⟩⟩
      · exact q.elim
    · exact hf.elim

set_option maxHeartbeats 4000000 in
theorem op_price {rc cc t : Nat} {σ : fmS} {o : Nat → Int64} (I : rI rc cc t σ) (hts : t + 200 ≤ 200000) (x y z : Int32) {k : Int32} {z9 : fmS × (Nat → Int64)} (h : (k = 0 ∧ ∃ r, (fun r u => fmNo [("java/lang/IndexOutOfBoundsException", x < 0 ∨ σ 41 0 0 0 ≤ x), ("java/lang/IndexOutOfBoundsException", y < 0 ∨ 4 ≤ y), ("java/lang/IllegalArgumentException", z < 1 ∨ 40 < z)] ∧ r = (fmPri rc cc t x.toNatClampNeg y.toNatClampNeg z.toNatClampNeg σ 20).2.1 ∧ u = (fmPri rc cc t x.toNatClampNeg y.toNatClampNeg z.toNatClampNeg σ 20).1) r z9.1 ∧ z9.2 = vp_updL o 0 r.toInt64) ∨ ∃ E, (fun E u => u = σ ∧ fmFirst [("java/lang/IndexOutOfBoundsException", x < 0 ∨ σ 41 0 0 0 ≤ x), ("java/lang/IndexOutOfBoundsException", y < 0 ∨ 4 ≤ y), ("java/lang/IllegalArgumentException", z < 1 ∨ 40 < z)] E) E z9.1 ∧ z9.2 = o ∧ fmCode [("java/lang/IndexOutOfBoundsException", 1), ("java/lang/IllegalArgumentException", 2)] E k) : mK σ z9.1 ∧ ∀ (b9 : Int32) (u9 : fmS), (fun r u => gRes (gz z9.1) (r = (gPri rc cc t x.toNatClampNeg (4 * x.toNatClampNeg + y.toNatClampNeg) z.toNatClampNeg (gz z9.1) 20).2.1 ∧ u = fmu (gPri rc cc t x.toNatClampNeg (4 * x.toNatClampNeg + y.toNatClampNeg) z.toNatClampNeg (gz z9.1) 20).1 19 0 0 (upd ((gPri rc cc t x.toNatClampNeg (4 * x.toNatClampNeg + y.toNatClampNeg) z.toNatClampNeg (gz z9.1) 20).1 19 0 0) (4 * x.toNatClampNeg + y.toNatClampNeg) ((gz z9.1) 19 0 0 (4 * x.toNatClampNeg + y.toNatClampNeg)))) r u [(1, (x < 0 ∨ nI cc ≤ x) ∨ (y < 0 ∨ 3 < y)), (2, z < 1 ∨ 40 < z)]) b9 u9 → rEnd (t + 200) k z9.2 b9.toInt64 u9 := by
  obtain ⟨hgo, ⟨h62, h63, h64⟩, hnw, hso, htab⟩ := id I
  obtain ⟨⟨hrc, hcc, ht, h40, h41, h42⟩, hco⟩ := id hgo.1
  obtain ⟨u9, o9⟩ := z9
  dsimp only at h ⊢
  have e0 : ∀ u, mK σ u → ((x < 0 ∨ σ 41 0 0 0 ≤ x) ↔ (x < 0 ∨ nI cc ≤ x)) := by
    intro u hm
    rw [h41]
  have e1 : ∀ u, mK σ u → ¬ (x < 0 ∨ σ 41 0 0 0 ≤ x) → ((y < 0 ∨ 4 ≤ y) ↔ (y < 0 ∨ 3 < y)) := by
    intro u hm n0
    rw [i_le_lt (lo := 3) (hi := 4) (by decide)]
  have e2 : ∀ u, mK σ u → ¬ (x < 0 ∨ σ 41 0 0 0 ≤ x) → ¬ (y < 0 ∨ 4 ≤ y) → ((z < 1 ∨ 40 < z) ↔ (z < 1 ∨ 40 < z)) := by
    intro u hm n0 n1
    exact Iff.rfl
  rcases h with ⟨rfl, r9, ⟨⟨n0, n1, n2, -⟩, h⟩, rfl⟩ | ⟨E9, ⟨rfl, hE⟩, rfl, hk⟩
  · have hN : ∀ u, mK σ u → cN [(1, (x < 0 ∨ nI cc ≤ x) ∨ (y < 0 ∨ 3 < y)), (2, z < 1 ∨ 40 < z)] := fun u hm => ⟨(fun q => q.elim (fun q => n0 ((e0 _ hm).mpr q)) (fun q => n1 ((e1 _ hm n0).mpr q))), (fun q => n2 ((e2 _ hm n0 n1).mpr q)), trivial⟩
    obtain ⟨hx1, hx2⟩ := fm_ixc (x := x) (n := cc) (by rw [← h41]; exact n0) (by omega)
    obtain ⟨hy1, hy2⟩ := fm_ixc (x := y) (n := 4) n1 (by decide)
    obtain ⟨hz0, hz1, hz2⟩ := fm_rgc (x := z) (lo := 1) (hi := 40) n2 (by decide) (by decide)
    obtain ⟨s0, ws1, ws2⟩ := hso _ hx1
    obtain ⟨rfl, rfl⟩ := h
    have hkp := kp_pri (rc := rc) (cc := cc) (t := t) (k := x.toNatClampNeg) (g := y.toNatClampNeg) (n := z.toNatClampNeg) σ 20
    have hm := mK_kp hkp
    refine ⟨hm, fun b9 u9 hu => ?_⟩
    obtain ⟨rfl, rfl⟩ := gres_N (hN _ hm) hu
    have hR := rGo_md hgo hm
    obtain ⟨e1, -, e3⟩ := pri_all hR hx1 hy1 (n := z.toNatClampNeg) (by omega) ws1 ws2 20 (Nat.le_refl 20)
    have hgc := fun c hc m => gPri_c (rc := rc) (cc := cc) (t := t) (k := x.toNatClampNeg) (i := 4 * x.toNatClampNeg + y.toNatClampNeg) (n := z.toNatClampNeg) (gz (fmPri rc cc t x.toNatClampNeg y.toNatClampNeg z.toNatClampNeg σ 20).1) (c := c) hc m 20
    refine rEnd_0 (rI_kp2 I (fun c k h22 h61 h19 => ?_)) (by omega) (by rw [fmu_c _ _ _ _ _ (by decide), hgc 61 (by decide), gz_61]) (by rw [updL_0, e1])
    by_cases e : c = 19
    · have hk0 : k = 0 := h19.resolve_left (fun q => q e)
      subst e
      subst hk0
      rw [fmu_self]
      funext q
      by_cases e2 : q = 4 * x.toNatClampNeg + y.toNatClampNeg
      · rw [e2, fm_upd_same, mK_gz hm (by decide)]
      · rw [fm_upd_ne _ _ e2, e3 q e2, mK_gz hm (by decide)]
    · rw [fmu_c _ _ _ _ _ e, hgc c ⟨h22, e⟩ k, gz_c h61, hkp c 0 k (fmOU_0 c)]
  · refine ⟨mK_refl, fun b9 u9 hu => ?_⟩
    rcases hE with ⟨h0, rfl⟩ | ⟨n0, (⟨h1, rfl⟩ | ⟨n1, (⟨h2, rfl⟩ | ⟨n2, hf⟩)⟩)⟩
    · rcases hk with ⟨-, rfl⟩ | ⟨q, -⟩ | q
      · refine rEnd_x I (by omega) (by decide) (gres_F ?_ hu).2
        exact Or.inl ⟨(Or.inl ((e0 _ mK_refl).mp h0)), rfl⟩
      · exact absurd q (by decide)
      · exact q.elim
    · rcases hk with ⟨-, rfl⟩ | ⟨q, -⟩ | q
      · refine rEnd_x I (by omega) (by decide) (gres_F ?_ hu).2
        exact Or.inl ⟨(Or.inr ((e1 _ mK_refl n0).mp h1)), rfl⟩
      · exact absurd q (by decide)
      · exact q.elim
    · rcases hk with ⟨q, -⟩ | ⟨-, rfl⟩ | q
      · exact absurd q (by decide)
      · refine rEnd_x I (by omega) (by decide) (gres_F ?_ hu).2
        exact Or.inr ⟨(fun q => q.elim (fun q => n0 ((e0 _ mK_refl).mpr q)) (fun q => n1 ((e1 _ mK_refl n0).mpr q))), Or.inl ⟨((e2 _ mK_refl n0 n1).mp h2), rfl⟩⟩
      · exact q.elim
    · exact hf.elim

set_option maxHeartbeats 4000000 in
theorem op_pass {rc cc t : Nat} {σ : fmS} {o : Nat → Int64} (I : rI rc cc t σ) (hts : t + 200 ≤ 200000) (x : Int32) {k : Int32} {z9 : fmS × (Nat → Int64)} (h : (k = 0 ∧ ∃ r, (fun r u => fmNo [("java/lang/IllegalArgumentException", x < 1 ∨ 200 < x)] ∧ r = fmPass 0 rc cc t σ x.toNatClampNeg 43 0 0 0 - σ 43 0 0 0 ∧ u = fmPass 0 rc cc t σ x.toNatClampNeg) r z9.1 ∧ z9.2 = vp_updL o 0 r.toInt64) ∨ ∃ E, (fun E u => u = σ ∧ fmFirst [("java/lang/IllegalArgumentException", x < 1 ∨ 200 < x)] E) E z9.1 ∧ z9.2 = o ∧ fmCode [("java/lang/IllegalArgumentException", 1)] E k) : mK σ z9.1 ∧ ∀ (b9 : Int32) (u9 : fmS), (fun r u => gRes (gz z9.1) (r = gPass 0 rc cc t (gz z9.1) x.toNatClampNeg 65 0 0 0 - (gz z9.1) 65 0 0 0 ∧ u = gPass 0 rc cc t (gz z9.1) x.toNatClampNeg) r u [(1, x < 1 ∨ 200 < x)]) b9 u9 → rEnd (t + 200) k z9.2 b9.toInt64 u9 := by
  obtain ⟨hgo, ⟨h62, h63, h64⟩, hnw, hso, htab⟩ := id I
  obtain ⟨⟨hrc, hcc, ht, h40, h41, h42⟩, hco⟩ := id hgo.1
  obtain ⟨u9, o9⟩ := z9
  dsimp only at h ⊢
  have e0 : ∀ u, mK σ u → ((x < 1 ∨ 200 < x) ↔ (x < 1 ∨ 200 < x)) := by
    intro u hm
    exact Iff.rfl
  rcases h with ⟨rfl, r9, ⟨⟨n0, -⟩, h⟩, rfl⟩ | ⟨E9, ⟨rfl, hE⟩, rfl, hk⟩
  · have hN : ∀ u, mK σ u → cN [(1, x < 1 ∨ 200 < x)] := fun u hm => ⟨(fun q => n0 ((e0 _ hm).mpr q)), trivial⟩
    obtain ⟨hx0, hx1, hx2⟩ := fm_rgc (x := x) (lo := 1) (hi := 200) n0 (by decide) (by decide)
    obtain ⟨rfl, rfl⟩ := h
    have hm : mK σ (fmPass 0 rc cc t σ x.toNatClampNeg) := fun c m k hc => loc_pass (a := 0) _ σ c m k (fun q => by omega)
    refine ⟨hm, fun b9 u9 hu => ?_⟩
    obtain ⟨rfl, rfl⟩ := gres_N (hN _ hm) hu
    have hR := rGo_md hgo hm
    have hP := pass_all hR x.toNatClampNeg (by omega)
    have h43 := hP.2.1.2.2.2.1.1
    have h43a := hR.2.1.2.2.2.1.1
    refine rEnd_0 (rc := rc) (cc := cc) (t' := t + x.toNatClampNeg) ?_ (by omega) (by rw [gPass_c (by decide), gz_61]) (by rw [updL_0, h43, h43a])
    refine rI_close I hm (fun c m k h => by rw [gPass_c (by omega), gz_c (by omega)]) hP ⟨by rw [gPass_c (by decide), mK_gz hm (by decide)]; exact h62, by rw [gPass_c (by decide), mK_gz hm (by decide)]; exact h63, gPass_64 (by rw [mK_gz hm (by decide)]; exact h64) _⟩ (kB_pass hgo.1 _ (by omega)) (fun c k hk h => loc_pass (a := 0) _ σ c 0 k (fun q => by omega)) (gB_trans (fun c k h1 h2 => by rw [gz_c (by omega)]) (gB_pass hcc _)) (fun c i hi h => by rw [gPass_c (by omega), gz_c (by omega)]) (fun k hk => ?_) (rTab_kp I (fun j => congrFun (loc_pass (a := 0) _ σ 2 0 0 (fun q => by omega)) j) (fun j => congrFun (loc_pass (a := 0) _ σ 3 0 0 (fun q => by omega)) j))
    obtain ⟨n1, l1, e1⟩ := hso k hk
    obtain ⟨d, l2, e2⟩ := rU_pass (a := 0) (rc := rc) (t := t) (σ := σ) hcc x.toNatClampNeg k
    exact ⟨n1 + d, by omega, by rw [e2, e1, nI_add]⟩
  · refine ⟨mK_refl, fun b9 u9 hu => ?_⟩
    rcases hE with ⟨h0, rfl⟩ | ⟨n0, hf⟩
    · rcases hk with ⟨-, rfl⟩ | q
      · refine rEnd_x I (by omega) (by decide) (gres_F ?_ hu).2
        exact Or.inl ⟨((e0 _ mK_refl).mp h0), rfl⟩
      · exact q.elim
    · exact hf.elim

set_option maxHeartbeats 4000000 in
theorem op_moor {rc cc t : Nat} {σ : fmS} {o : Nat → Int64} (I : rI rc cc t σ) (hts : t + 200 ≤ 200000) (x y : Int32) {k : Int32} {z9 : fmS × (Nat → Int64)} (h : (k = 0 ∧ ∃ r, (fun r u => fmNo [("java/lang/IndexOutOfBoundsException", x < 0 ∨ σ 41 0 0 0 ≤ x), ("java/lang/IndexOutOfBoundsException", y < 0 ∨ σ 40 0 0 0 ≤ y), ("java/lang/IllegalStateException", σ 52 0 x.toNatClampNeg 0 ≠ 0 ∨ ¬ σ 48 0 y.toNatClampNeg 0 < σ 47 0 y.toNatClampNeg 0)] ∧ r = σ 48 0 y.toNatClampNeg 0 ∧ u = fmFast σ 0 x.toNatClampNeg y.toNatClampNeg (σ 48 0 y.toNatClampNeg 0).toNatClampNeg) r z9.1 ∧ z9.2 = vp_updL o 0 r.toInt64) ∨ ∃ E, (fun E u => u = σ ∧ fmFirst [("java/lang/IndexOutOfBoundsException", x < 0 ∨ σ 41 0 0 0 ≤ x), ("java/lang/IndexOutOfBoundsException", y < 0 ∨ σ 40 0 0 0 ≤ y), ("java/lang/IllegalStateException", σ 52 0 x.toNatClampNeg 0 ≠ 0 ∨ ¬ σ 48 0 y.toNatClampNeg 0 < σ 47 0 y.toNatClampNeg 0)] E) E z9.1 ∧ z9.2 = o ∧ fmCode [("java/lang/IndexOutOfBoundsException", 1), ("java/lang/IllegalStateException", 2)] E k) : mK σ z9.1 ∧ ∀ (b9 : Int32) (u9 : fmS), (fun r u => gRes (gz z9.1) (r = gIn (gz z9.1) 0 (nI y.toNatClampNeg) cc ∧ u = gMoor (gz z9.1) 0 x.toNatClampNeg y.toNatClampNeg cc) r u [(1, (x < 0 ∨ nI cc ≤ x) ∨ (y < 0 ∨ nI rc ≤ y)), (2, ((gz z9.1) 26 0 0 x.toNatClampNeg ≠ 0) ∨ (gFull (gz z9.1) 0 y.toNatClampNeg cc))]) b9 u9 → rEnd (t + 200) k z9.2 b9.toInt64 u9 := by
  obtain ⟨hgo, ⟨h62, h63, h64⟩, hnw, hso, htab⟩ := id I
  obtain ⟨⟨hrc, hcc, ht, h40, h41, h42⟩, hco⟩ := id hgo.1
  obtain ⟨u9, o9⟩ := z9
  dsimp only at h ⊢
  have e0 : ∀ u, mK σ u → ((x < 0 ∨ σ 41 0 0 0 ≤ x) ↔ (x < 0 ∨ nI cc ≤ x)) := by
    intro u hm
    rw [h41]
  have e1 : ∀ u, mK σ u → ¬ (x < 0 ∨ σ 41 0 0 0 ≤ x) → ((y < 0 ∨ σ 40 0 0 0 ≤ y) ↔ (y < 0 ∨ nI rc ≤ y)) := by
    intro u hm n0
    rw [h40]
  have e2 : ∀ u, mK σ u → ¬ (x < 0 ∨ σ 41 0 0 0 ≤ x) → ¬ (y < 0 ∨ σ 40 0 0 0 ≤ y) → ((σ 52 0 x.toNatClampNeg 0 ≠ 0 ∨ ¬ σ 48 0 y.toNatClampNeg 0 < σ 47 0 y.toNatClampNeg 0) ↔ (((gz u) 26 0 0 x.toNatClampNeg ≠ 0) ∨ (gFull (gz u) 0 y.toNatClampNeg cc))) := by
    intro u hm n0 n1
    obtain ⟨hx1, hx2⟩ := fm_ixc (x := x) (n := cc) (by rw [← h41]; exact n0) (by omega)
    obtain ⟨hy1, hy2⟩ := fm_ixc (x := y) (n := rc) (by rw [← h40]; exact n1) (by omega)
    have hR := rGo_md hgo hm
    rw [(hR.2.1.1 _ hx1).1, gFull_eq hco hrc hcc hR.2.1.1 hy1 (hR.2.1.2.2.2.2.1 _ hy1)]
  rcases h with ⟨rfl, r9, ⟨⟨n0, n1, n2, -⟩, h⟩, rfl⟩ | ⟨E9, ⟨rfl, hE⟩, rfl, hk⟩
  · have hN : ∀ u, mK σ u → cN [(1, (x < 0 ∨ nI cc ≤ x) ∨ (y < 0 ∨ nI rc ≤ y)), (2, ((gz u) 26 0 0 x.toNatClampNeg ≠ 0) ∨ (gFull (gz u) 0 y.toNatClampNeg cc))] := fun u hm => ⟨(fun q => q.elim (fun q => n0 ((e0 _ hm).mpr q)) (fun q => n1 ((e1 _ hm n0).mpr q))), (fun q => n2 ((e2 _ hm n0 n1).mpr q)), trivial⟩
    obtain ⟨hx1, hx2⟩ := fm_ixc (x := x) (n := cc) (by rw [← h41]; exact n0) (by omega)
    obtain ⟨hy1, hy2⟩ := fm_ixc (x := y) (n := rc) (by rw [← h40]; exact n1) (by omega)
    obtain ⟨q9, v9, w1, w2, w3, w4⟩ := good_row hgo.1 hy1
    have hs : σ 52 0 x.toNatClampNeg 0 = 0 := Decidable.not_not.mp (fun q => n2 (Or.inl q))
    have hlt : v9 < q9 := fm_lt_of w4 w3 (Decidable.not_not.mp (fun q => n2 (Or.inr q))) (by omega) (by omega)
    rw [fm_cl w4 (by omega)] at h
    obtain ⟨rfl, rfl⟩ := h
    have hm : mK σ (fmFast σ 0 x.toNatClampNeg y.toNatClampNeg v9) := fun c m k hc => fast_c _ _ _ _ _ (by omega) m k
    refine ⟨hm, fun b9 u9 hu => ?_⟩
    obtain ⟨rfl, rfl⟩ := gres_N (hN _ hm) hu
    have hR := rGo_md hgo hm
    have hF := fast_go hR hx1 hy1 w1 hlt w4 w3 (by rw [hs]; decide)
    refine rEnd_0 (rI_same I hm (fun c m k h => gMoor_c (by omega) m k) hF (fun c h => gMoor_c (by omega) 0 0) (kB_fast hx1 hy1) (fun c k h1 h2 => fast_c _ _ _ _ _ (by omega) 0 k) (gB_moor hx1) (fun c i h1 h2 => by rw [gMoor_c (by omega)]) (fun k => by rw [fast_c _ _ _ _ _ (by decide)]) (rTab_kp I (fun j => by rw [fast_c _ _ _ _ _ (by decide)]) (fun j => by rw [fast_c _ _ _ _ _ (by decide)]))) (by omega) (by rw [gMoor_c (by decide), gz_61]) ?_
    rw [updL_0, gIn_eq hco hrc hcc hR.2.1.1 hy1 w4 (by omega), w4]
  · refine ⟨mK_refl, fun b9 u9 hu => ?_⟩
    rcases hE with ⟨h0, rfl⟩ | ⟨n0, (⟨h1, rfl⟩ | ⟨n1, (⟨h2, rfl⟩ | ⟨n2, hf⟩)⟩)⟩
    · rcases hk with ⟨-, rfl⟩ | ⟨q, -⟩ | q
      · refine rEnd_x I (by omega) (by decide) (gres_F ?_ hu).2
        exact Or.inl ⟨(Or.inl ((e0 _ mK_refl).mp h0)), rfl⟩
      · exact absurd q (by decide)
      · exact q.elim
    · rcases hk with ⟨-, rfl⟩ | ⟨q, -⟩ | q
      · refine rEnd_x I (by omega) (by decide) (gres_F ?_ hu).2
        exact Or.inl ⟨(Or.inr ((e1 _ mK_refl n0).mp h1)), rfl⟩
      · exact absurd q (by decide)
      · exact q.elim
    · rcases hk with ⟨q, -⟩ | ⟨-, rfl⟩ | q
      · exact absurd q (by decide)
      · refine rEnd_x I (by omega) (by decide) (gres_F ?_ hu).2
        exact Or.inr ⟨(fun q => q.elim (fun q => n0 ((e0 _ mK_refl).mpr q)) (fun q => n1 ((e1 _ mK_refl n0).mpr q))), Or.inl ⟨((e2 _ mK_refl n0 n1).mp h2), rfl⟩⟩
      · exact q.elim
    · exact hf.elim

set_option maxHeartbeats 4000000 in
theorem op_castOff {rc cc t : Nat} {σ : fmS} {o : Nat → Int64} (I : rI rc cc t σ) (hts : t + 200 ≤ 200000) (x : Int32) {k : Int32} {z9 : fmS × (Nat → Int64)} (h : (k = 0 ∧ ∃ r, (fun r u => fmNo [("java/lang/IndexOutOfBoundsException", x < 0 ∨ σ 41 0 0 0 ≤ x), ("java/lang/IllegalStateException", σ 52 0 x.toNatClampNeg 0 ≠ 1 ∨ fmDry σ 0 x.toNatClampNeg t)] ∧ r = nI ((σ 48 0 (σ 53 0 x.toNatClampNeg 0).toNatClampNeg 0).toNatClampNeg - 1 - (σ 54 0 x.toNatClampNeg 0).toNatClampNeg) ∧ u = fmUnf σ 0 x.toNatClampNeg (σ 53 0 x.toNatClampNeg 0).toNatClampNeg (σ 54 0 x.toNatClampNeg 0).toNatClampNeg (σ 48 0 (σ 53 0 x.toNatClampNeg 0).toNatClampNeg 0).toNatClampNeg 0) r z9.1 ∧ z9.2 = vp_updL o 0 r.toInt64) ∨ ∃ E, (fun E u => u = σ ∧ fmFirst [("java/lang/IndexOutOfBoundsException", x < 0 ∨ σ 41 0 0 0 ≤ x), ("java/lang/IllegalStateException", σ 52 0 x.toNatClampNeg 0 ≠ 1 ∨ fmDry σ 0 x.toNatClampNeg t)] E) E z9.1 ∧ z9.2 = o ∧ fmCode [("java/lang/IndexOutOfBoundsException", 1), ("java/lang/IllegalStateException", 2)] E k) : mK σ z9.1 ∧ ∀ (b9 : Int32) (u9 : fmS), (fun r u => gRes (gz z9.1) (r = gOffN (gz z9.1) 0 x.toNatClampNeg cc ∧ u = gOff (gz z9.1) 0 x.toNatClampNeg cc) r u [(1, x < 0 ∨ nI cc ≤ x), (2, ((gz z9.1) 26 0 0 x.toNatClampNeg ≠ 1) ∨ (gDry (gz z9.1) 0 x.toNatClampNeg t))]) b9 u9 → rEnd (t + 200) k z9.2 b9.toInt64 u9 := by
  obtain ⟨hgo, ⟨h62, h63, h64⟩, hnw, hso, htab⟩ := id I
  obtain ⟨⟨hrc, hcc, ht, h40, h41, h42⟩, hco⟩ := id hgo.1
  obtain ⟨u9, o9⟩ := z9
  dsimp only at h ⊢
  have e0 : ∀ u, mK σ u → ((x < 0 ∨ σ 41 0 0 0 ≤ x) ↔ (x < 0 ∨ nI cc ≤ x)) := by
    intro u hm
    rw [h41]
  have e1 : ∀ u, mK σ u → ¬ (x < 0 ∨ σ 41 0 0 0 ≤ x) → ((σ 52 0 x.toNatClampNeg 0 ≠ 1 ∨ fmDry σ 0 x.toNatClampNeg t) ↔ (((gz u) 26 0 0 x.toNatClampNeg ≠ 1) ∨ (gDry (gz u) 0 x.toNatClampNeg t))) := by
    intro u hm n0
    obtain ⟨hx1, hx2⟩ := fm_ixc (x := x) (n := cc) (by rw [← h41]; exact n0) (by omega)
    have hR := rGo_md hgo hm
    obtain ⟨m1, m2, -⟩ := hR.2.1.1 _ hx1
    have e16 := (hR.2.1.2.2.2.2.2.2 (t % 24) (Nat.mod_lt _ (by decide))).1
    show _ ↔ _ ∨ gz u 28 0 0 x.toNatClampNeg + gz u 16 0 0 (t % 24) < 4
    rw [m1, e16]
    constructor
    · rintro (q | q)
      · exact Or.inl q
      · exact Or.inr (by rw [(m2 q.1).2]; exact q.2)
    · rintro (q | q)
      · exact Or.inl q
      · by_cases hs : σ 52 0 x.toNatClampNeg 0 = 1
        · exact Or.inr ⟨hs, by rw [(m2 hs).2] at q; exact q⟩
        · exact Or.inl hs
  rcases h with ⟨rfl, r9, ⟨⟨n0, n1, -⟩, h⟩, rfl⟩ | ⟨E9, ⟨rfl, hE⟩, rfl, hk⟩
  · have hN : ∀ u, mK σ u → cN [(1, x < 0 ∨ nI cc ≤ x), (2, ((gz u) 26 0 0 x.toNatClampNeg ≠ 1) ∨ (gDry (gz u) 0 x.toNatClampNeg t))] := fun u hm => ⟨(fun q => n0 ((e0 _ hm).mpr q)), (fun q => n1 ((e1 _ hm n0).mpr q)), trivial⟩
    obtain ⟨hx1, hx2⟩ := fm_ixc (x := x) (n := cc) (by rw [← h41]; exact n0) (by omega)
    have hs : σ 52 0 x.toNatClampNeg 0 = 1 := Decidable.not_not.mp (fun q => n1 (Or.inl q))
    obtain ⟨r8, p8, v8, w1, w2, w3, w4, w5, w6, w7⟩ := hco.2 _ hx1 hs
    rw [fm_cl w5 (by omega), fm_cl w6 (by omega), fm_cl w4 (by omega)] at h
    obtain ⟨rfl, rfl⟩ := h
    have hm : mK σ (fmUnf σ 0 x.toNatClampNeg r8 p8 v8 0) := fun c m k hc => loc_unf (a := 0) 0 σ c m k (fun q => by omega)
    refine ⟨hm, fun b9 u9 hu => ?_⟩
    obtain ⟨rfl, rfl⟩ := gres_N (hN _ hm) hu
    have hR := rGo_md hgo hm
    have hF := unf_go hR hx1 hs (x := 0) (by decide)
    rw [off0_off, fm_cl w5 (by omega), fm_cl w6 (by omega), fm_cl w4 (by omega)] at hF
    refine rEnd_0 (rI_same I hm (fun c m k h => gOff_c (by omega) m k) hF (fun c h => gOff_c (by omega) 0 0) (kB_unf hco hcc hx1 w1 w4 w3) (fun c k h1 h2 => unf_c _ _ _ _ _ _ _ (by omega) 0 k) (gB_off hx1) (fun c i h1 h2 => by rw [gOff_c (by omega)]) (fun k => by rw [unf_c _ _ _ _ _ _ _ (by decide)]) (rTab_kp I (fun j => by rw [unf_c _ _ _ _ _ _ _ (by decide)]) (fun j => by rw [unf_c _ _ _ _ _ _ _ (by decide)]))) (by omega) (by rw [gOff_c (by decide), gz_61]) ?_
    rw [updL_0, gOffN_eq hco hrc hcc hR.2.1.1 w1 w4 w3 w2 hx1 hs w5 w6 w7]
  · refine ⟨mK_refl, fun b9 u9 hu => ?_⟩
    rcases hE with ⟨h0, rfl⟩ | ⟨n0, (⟨h1, rfl⟩ | ⟨n1, hf⟩)⟩
    · rcases hk with ⟨-, rfl⟩ | ⟨q, -⟩ | q
      · refine rEnd_x I (by omega) (by decide) (gres_F ?_ hu).2
        exact Or.inl ⟨((e0 _ mK_refl).mp h0), rfl⟩
      · exact absurd q (by decide)
      · exact q.elim
    · rcases hk with ⟨q, -⟩ | ⟨-, rfl⟩ | q
      · exact absurd q (by decide)
      · refine rEnd_x I (by omega) (by decide) (gres_F ?_ hu).2
        exact Or.inr ⟨(fun q => n0 ((e0 _ mK_refl).mpr q)), Or.inl ⟨((e1 _ mK_refl n0).mp h1), rfl⟩⟩
      · exact q.elim
    · exact hf.elim
