set_option maxHeartbeats 4000000 in
theorem op_canoe {rc cc t : Nat} {σ : fmS} {o : Nat → Int64} (I : rI rc cc t σ) (hts : t + 200 ≤ 200000) (x y : Int32) {k : Int32} {z9 : fmS × (Nat → Int64)} (h : (k = 0 ∧ ∃ r, (fun r u => fmNo [("java/lang/IndexOutOfBoundsException", x < 0 ∨ σ 41 0 0 0 ≤ x), ("java/lang/IndexOutOfBoundsException", y < 0 ∨ 11 ≤ y)] ∧ r = fmFig σ 0 x.toNatClampNeg y.toNatClampNeg ∧ u = σ) r z9.1 ∧ z9.2 = vp_updL o 0 r.toInt64) ∨ ∃ E, (fun E u => u = σ ∧ fmFirst [("java/lang/IndexOutOfBoundsException", x < 0 ∨ σ 41 0 0 0 ≤ x), ("java/lang/IndexOutOfBoundsException", y < 0 ∨ 11 ≤ y)] E) E z9.1 ∧ z9.2 = o ∧ fmCode [("java/lang/IndexOutOfBoundsException", 1)] E k) : mK σ z9.1 ∧ ∀ (b9 : Int32) (u9 : fmS), (fun r u => gRes (gz z9.1) (r = gFig (gz z9.1) x.toNatClampNeg y.toNatClampNeg ∧ u = (gz z9.1)) r u [(1, (x < 0 ∨ nI cc ≤ x) ∨ (y < 0 ∨ 10 < y))]) b9 u9 → rEnd (t + 200) k z9.2 b9.toInt64 u9 := by
  obtain ⟨hgo, ⟨h62, h63, h64⟩, hnw, hso, htab⟩ := id I
  obtain ⟨⟨hrc, hcc, ht, h40, h41, h42⟩, hco⟩ := id hgo.1
  obtain ⟨u9, o9⟩ := z9
  dsimp only at h ⊢
  have e0 : ∀ u, mK σ u → ((x < 0 ∨ σ 41 0 0 0 ≤ x) ↔ (x < 0 ∨ nI cc ≤ x)) := by
    intro u hm
    rw [h41]
  have e1 : ∀ u, mK σ u → ¬ (x < 0 ∨ σ 41 0 0 0 ≤ x) → ((y < 0 ∨ 11 ≤ y) ↔ (y < 0 ∨ 10 < y)) := by
    intro u hm n0
    rw [i_le_lt (lo := 10) (hi := 11) (by decide)]
  rcases h with ⟨rfl, r9, ⟨⟨n0, n1, -⟩, h⟩, rfl⟩ | ⟨E9, ⟨rfl, hE⟩, rfl, hk⟩
  · have hN : ∀ u, mK σ u → cN [(1, (x < 0 ∨ nI cc ≤ x) ∨ (y < 0 ∨ 10 < y))] := fun u hm => ⟨(fun q => q.elim (fun q => n0 ((e0 _ hm).mpr q)) (fun q => n1 ((e1 _ hm n0).mpr q))), trivial⟩
    obtain ⟨hx1, hx2⟩ := fm_ixc (x := x) (n := cc) (by rw [← h41]; exact n0) (by omega)
    obtain ⟨hy1, hy2⟩ := fm_ixc (x := y) (n := 11) n1 (by decide)
    obtain ⟨rfl, rfl⟩ := h
    have hm : mK u9 u9 := mK_refl
    refine ⟨hm, fun b9 u9 hu => ?_⟩
    obtain ⟨rfl, rfl⟩ := gres_N (hN _ hm) hu
    have hR := rGo_md hgo hm
    exact rEnd_0 (rI_gz I) (by omega) gz_61 (by rw [updL_0, fig_eq hR.2.1 hx1])
  · refine ⟨mK_refl, fun b9 u9 hu => ?_⟩
    rcases hE with ⟨h0, rfl⟩ | ⟨n0, (⟨h1, rfl⟩ | ⟨n1, hf⟩)⟩
    · rcases hk with ⟨-, rfl⟩ | q
      · refine rEnd_x I (by omega) (by decide) (gres_F ?_ hu).2
        exact Or.inl ⟨(Or.inl ((e0 _ mK_refl).mp h0)), rfl⟩
      · exact q.elim
    · rcases hk with ⟨-, rfl⟩ | q
      · refine rEnd_x I (by omega) (by decide) (gres_F ?_ hu).2
        exact Or.inl ⟨(Or.inr ((e1 _ mK_refl n0).mp h1)), rfl⟩
      · exact q.elim
    · exact hf.elim

set_option maxHeartbeats 4000000 in
theorem op_good {rc cc t : Nat} {σ : fmS} {o : Nat → Int64} (I : rI rc cc t σ) (hts : t + 200 ≤ 200000) (x y z : Int32) {k : Int32} {z9 : fmS × (Nat → Int64)} (h : (k = 0 ∧ ∃ r, (fun r u => fmNo [("java/lang/IndexOutOfBoundsException", x < 0 ∨ σ 41 0 0 0 ≤ x), ("java/lang/IndexOutOfBoundsException", y < 0 ∨ 4 ≤ y), ("java/lang/IndexOutOfBoundsException", z < 0 ∨ 4 ≤ z)] ∧ r = fmGFig σ 0 x.toNatClampNeg y.toNatClampNeg z.toNatClampNeg ∧ u = σ) r z9.1 ∧ z9.2 = vp_updL o 0 r.toInt64) ∨ ∃ E, (fun E u => u = σ ∧ fmFirst [("java/lang/IndexOutOfBoundsException", x < 0 ∨ σ 41 0 0 0 ≤ x), ("java/lang/IndexOutOfBoundsException", y < 0 ∨ 4 ≤ y), ("java/lang/IndexOutOfBoundsException", z < 0 ∨ 4 ≤ z)] E) E z9.1 ∧ z9.2 = o ∧ fmCode [("java/lang/IndexOutOfBoundsException", 1)] E k) : mK σ z9.1 ∧ ∀ (b9 : Int32) (u9 : fmS), (fun r u => gRes (gz z9.1) (r = gGT (gz z9.1) (4 * x.toNatClampNeg + y.toNatClampNeg) z ∧ u = (gz z9.1)) r u [(1, (x < 0 ∨ nI cc ≤ x) ∨ (y < 0 ∨ 3 < y) ∨ (z < 0 ∨ 3 < z))]) b9 u9 → rEnd (t + 200) k z9.2 b9.toInt64 u9 := by
  obtain ⟨hgo, ⟨h62, h63, h64⟩, hnw, hso, htab⟩ := id I
  obtain ⟨⟨hrc, hcc, ht, h40, h41, h42⟩, hco⟩ := id hgo.1
  obtain ⟨u9, o9⟩ := z9
  dsimp only at h ⊢
  have e0 : ∀ u, mK σ u → ((x < 0 ∨ σ 41 0 0 0 ≤ x) ↔ (x < 0 ∨ nI cc ≤ x)) := by
    intro u hm
    rw [h41]
  have e1 : ∀ u, mK σ u → ¬ (x < 0 ∨ σ 41 0 0 0 ≤ x) → ((y < 0 ∨ 4 ≤ y) ↔ (y < 0 ∨ 3 < y)) := by
    intro u hm n0
    rw [i_le_lt (lo := 3) (hi := 4) (by decide)]
  have e2 : ∀ u, mK σ u → ¬ (x < 0 ∨ σ 41 0 0 0 ≤ x) → ¬ (y < 0 ∨ 4 ≤ y) → ((z < 0 ∨ 4 ≤ z) ↔ (z < 0 ∨ 3 < z)) := by
    intro u hm n0 n1
    rw [i_le_lt (lo := 3) (hi := 4) (by decide)]
  rcases h with ⟨rfl, r9, ⟨⟨n0, n1, n2, -⟩, h⟩, rfl⟩ | ⟨E9, ⟨rfl, hE⟩, rfl, hk⟩
  · have hN : ∀ u, mK σ u → cN [(1, (x < 0 ∨ nI cc ≤ x) ∨ (y < 0 ∨ 3 < y) ∨ (z < 0 ∨ 3 < z))] := fun u hm => ⟨(fun q => q.elim (fun q => n0 ((e0 _ hm).mpr q)) (fun q => q.elim (fun q => n1 ((e1 _ hm n0).mpr q)) (fun q => n2 ((e2 _ hm n0 n1).mpr q)))), trivial⟩
    obtain ⟨hx1, hx2⟩ := fm_ixc (x := x) (n := cc) (by rw [← h41]; exact n0) (by omega)
    obtain ⟨hy1, hy2⟩ := fm_ixc (x := y) (n := 4) n1 (by decide)
    obtain ⟨hz1, hz2⟩ := fm_ixc (x := z) (n := 4) n2 (by decide)
    obtain ⟨rfl, rfl⟩ := h
    have hm : mK u9 u9 := mK_refl
    refine ⟨hm, fun b9 u9 hu => ?_⟩
    obtain ⟨rfl, rfl⟩ := gres_N (hN _ hm) hu
    have hR := rGo_md hgo hm
    exact rEnd_0 (rI_gz I) (by omega) gz_61 (by rw [updL_0, gft_eq hR.2.1 hx1 hy1 hz2 hz1])
  · refine ⟨mK_refl, fun b9 u9 hu => ?_⟩
    rcases hE with ⟨h0, rfl⟩ | ⟨n0, (⟨h1, rfl⟩ | ⟨n1, (⟨h2, rfl⟩ | ⟨n2, hf⟩)⟩)⟩
    · rcases hk with ⟨-, rfl⟩ | q
      · refine rEnd_x I (by omega) (by decide) (gres_F ?_ hu).2
        exact Or.inl ⟨(Or.inl ((e0 _ mK_refl).mp h0)), rfl⟩
      · exact q.elim
    · rcases hk with ⟨-, rfl⟩ | q
      · refine rEnd_x I (by omega) (by decide) (gres_F ?_ hu).2
        exact Or.inl ⟨(Or.inr (Or.inl ((e1 _ mK_refl n0).mp h1))), rfl⟩
      · exact q.elim
    · rcases hk with ⟨-, rfl⟩ | q
      · refine rEnd_x I (by omega) (by decide) (gres_F ?_ hu).2
        exact Or.inl ⟨(Or.inr (Or.inr ((e2 _ mK_refl n0 n1).mp h2))), rfl⟩
      · exact q.elim
    · exact hf.elim

set_option maxHeartbeats 4000000 in
theorem op_at {rc cc t : Nat} {σ : fmS} {o : Nat → Int64} (I : rI rc cc t σ) (hts : t + 200 ≤ 200000) (x y : Int32) {k : Int32} {z9 : fmS × (Nat → Int64)} (h : (k = 0 ∧ ∃ r, (fun r u => fmNo [("java/lang/IndexOutOfBoundsException", x < 0 ∨ σ 40 0 0 0 ≤ x), ("java/lang/IndexOutOfBoundsException", y < 0 ∨ σ 47 0 x.toNatClampNeg 0 ≤ y)] ∧ r = fmRAt σ 0 x.toNatClampNeg y ∧ u = σ) r z9.1 ∧ z9.2 = vp_updL o 0 r.toInt64) ∨ ∃ E, (fun E u => u = σ ∧ fmFirst [("java/lang/IndexOutOfBoundsException", x < 0 ∨ σ 40 0 0 0 ≤ x), ("java/lang/IndexOutOfBoundsException", y < 0 ∨ σ 47 0 x.toNatClampNeg 0 ≤ y)] E) E z9.1 ∧ z9.2 = o ∧ fmCode [("java/lang/IndexOutOfBoundsException", 1)] E k) : mK σ z9.1 ∧ ∀ (b9 : Int32) (u9 : fmS), (fun r u => gRes (gz z9.1) (r = gAt (gz z9.1) 0 x y cc ∧ u = (gz z9.1)) r u [(1, (x < 0 ∨ nI rc ≤ x) ∨ (y < 0 ∨ (gz z9.1) 15 0 0 x.toNatClampNeg - 1 < y))]) b9 u9 → rEnd (t + 200) k z9.2 b9.toInt64 u9 := by
  obtain ⟨hgo, ⟨h62, h63, h64⟩, hnw, hso, htab⟩ := id I
  obtain ⟨⟨hrc, hcc, ht, h40, h41, h42⟩, hco⟩ := id hgo.1
  obtain ⟨u9, o9⟩ := z9
  dsimp only at h ⊢
  have e0 : ∀ u, mK σ u → ((x < 0 ∨ σ 40 0 0 0 ≤ x) ↔ (x < 0 ∨ nI rc ≤ x)) := by
    intro u hm
    rw [h40]
  have e1 : ∀ u, mK σ u → ¬ (x < 0 ∨ σ 40 0 0 0 ≤ x) → ((y < 0 ∨ σ 47 0 x.toNatClampNeg 0 ≤ y) ↔ (y < 0 ∨ (gz u) 15 0 0 x.toNatClampNeg - 1 < y)) := by
    intro u hm n0
    obtain ⟨hx1, hx2⟩ := fm_ixc (x := x) (n := rc) (by rw [← h40]; exact n0) (by omega)
    obtain ⟨q9, v9, w1, w2, w3, w4⟩ := good_row hgo.1 hx1
    have h15 : gz u 15 0 0 x.toNatClampNeg = nI q9 := by rw [(rGo_md hgo hm).2.1.2.2.2.2.1 _ hx1, w3]
    rw [h15, w3, fm_pred (by omega)]
  rcases h with ⟨rfl, r9, ⟨⟨n0, n1, -⟩, h⟩, rfl⟩ | ⟨E9, ⟨rfl, hE⟩, rfl, hk⟩
  · have hN : ∀ u, mK σ u → cN [(1, (x < 0 ∨ nI rc ≤ x) ∨ (y < 0 ∨ (gz u) 15 0 0 x.toNatClampNeg - 1 < y))] := fun u hm => ⟨(fun q => q.elim (fun q => n0 ((e0 _ hm).mpr q)) (fun q => n1 ((e1 _ hm n0).mpr q))), trivial⟩
    obtain ⟨hx1, hx2⟩ := fm_ixc (x := x) (n := rc) (by rw [← h40]; exact n0) (by omega)
    obtain ⟨q9, v9, w1, w2, w3, w4⟩ := good_row hgo.1 hx1
    obtain ⟨rfl, rfl⟩ := h
    have hm : mK u9 u9 := mK_refl
    refine ⟨hm, fun b9 u9 hu => ?_⟩
    obtain ⟨rfl, rfl⟩ := gres_N (hN _ hm) hu
    have hR := rGo_md hgo hm
    exact rEnd_0 (rI_gz I) (by omega) gz_61 (by rw [updL_0, ← gAt_eq hco hrc hcc hR.2.1.1 hx1 w4 (by omega) y, ← hx2])
  · refine ⟨mK_refl, fun b9 u9 hu => ?_⟩
    rcases hE with ⟨h0, rfl⟩ | ⟨n0, (⟨h1, rfl⟩ | ⟨n1, hf⟩)⟩
    · rcases hk with ⟨-, rfl⟩ | q
      · refine rEnd_x I (by omega) (by decide) (gres_F ?_ hu).2
        exact Or.inl ⟨(Or.inl ((e0 _ mK_refl).mp h0)), rfl⟩
      · exact q.elim
    · rcases hk with ⟨-, rfl⟩ | q
      · refine rEnd_x I (by omega) (by decide) (gres_F ?_ hu).2
        exact Or.inl ⟨(Or.inr ((e1 _ mK_refl n0).mp h1)), rfl⟩
      · exact q.elim
    · exact hf.elim

set_option maxHeartbeats 4000000 in
theorem op_beside {rc cc t : Nat} {σ : fmS} {o : Nat → Int64} (I : rI rc cc t σ) (hts : t + 200 ≤ 200000) (x y : Int32) {k : Int32} {z9 : fmS × (Nat → Int64)} (h : (k = 0 ∧ ∃ r, (fun r u => fmNo [("java/lang/IndexOutOfBoundsException", x < 0 ∨ σ 41 0 0 0 ≤ x), ("java/lang/IndexOutOfBoundsException", y < 0 ∨ σ 41 0 0 0 ≤ y)] ∧ r = (if fmBes σ 0 x.toNatClampNeg y.toNatClampNeg then 1 else 0) ∧ u = σ) r z9.1 ∧ z9.2 = vp_updL o 0 (if r = 0 then 0 else 1)) ∨ ∃ E, (fun E u => u = σ ∧ fmFirst [("java/lang/IndexOutOfBoundsException", x < 0 ∨ σ 41 0 0 0 ≤ x), ("java/lang/IndexOutOfBoundsException", y < 0 ∨ σ 41 0 0 0 ≤ y)] E) E z9.1 ∧ z9.2 = o ∧ fmCode [("java/lang/IndexOutOfBoundsException", 1)] E k) : mK σ z9.1 ∧ ∀ (b9 : Int32) (u9 : fmS), (fun r u => gRes (gz z9.1) (r = (if gBes (gz z9.1) 0 x.toNatClampNeg y.toNatClampNeg then 1 else 0) ∧ u = (gz z9.1)) r u [(1, (x < 0 ∨ nI cc ≤ x) ∨ (y < 0 ∨ nI cc ≤ y))]) b9 u9 → rEnd (t + 200) k z9.2 (if b9 = 0 then 0 else 1) u9 := by
  obtain ⟨hgo, ⟨h62, h63, h64⟩, hnw, hso, htab⟩ := id I
  obtain ⟨⟨hrc, hcc, ht, h40, h41, h42⟩, hco⟩ := id hgo.1
  obtain ⟨u9, o9⟩ := z9
  dsimp only at h ⊢
  have e0 : ∀ u, mK σ u → ((x < 0 ∨ σ 41 0 0 0 ≤ x) ↔ (x < 0 ∨ nI cc ≤ x)) := by
    intro u hm
    rw [h41]
  have e1 : ∀ u, mK σ u → ¬ (x < 0 ∨ σ 41 0 0 0 ≤ x) → ((y < 0 ∨ σ 41 0 0 0 ≤ y) ↔ (y < 0 ∨ nI cc ≤ y)) := by
    intro u hm n0
    rw [h41]
  rcases h with ⟨rfl, r9, ⟨⟨n0, n1, -⟩, h⟩, rfl⟩ | ⟨E9, ⟨rfl, hE⟩, rfl, hk⟩
  · have hN : ∀ u, mK σ u → cN [(1, (x < 0 ∨ nI cc ≤ x) ∨ (y < 0 ∨ nI cc ≤ y))] := fun u hm => ⟨(fun q => q.elim (fun q => n0 ((e0 _ hm).mpr q)) (fun q => n1 ((e1 _ hm n0).mpr q))), trivial⟩
    obtain ⟨hx1, hx2⟩ := fm_ixc (x := x) (n := cc) (by rw [← h41]; exact n0) (by omega)
    obtain ⟨hy1, hy2⟩ := fm_ixc (x := y) (n := cc) (by rw [← h41]; exact n1) (by omega)
    obtain ⟨rfl, rfl⟩ := h
    have hm : mK u9 u9 := mK_refl
    refine ⟨hm, fun b9 u9 hu => ?_⟩
    obtain ⟨rfl, rfl⟩ := gres_N (hN _ hm) hu
    have hR := rGo_md hgo hm
    have hB := bes_iff hR.2.1 hx1 hy1
    refine rEnd_0 (rI_gz I) (by omega) gz_61 ?_
    rw [updL_0]
    by_cases hd : fmBes u9 0 x.toNatClampNeg y.toNatClampNeg
    · rw [if_pos hd, if_pos (hB.mpr hd)]; rfl
    · rw [if_neg hd, if_neg (fun q => hd (hB.mp q))]; rfl
  · refine ⟨mK_refl, fun b9 u9 hu => ?_⟩
    rcases hE with ⟨h0, rfl⟩ | ⟨n0, (⟨h1, rfl⟩ | ⟨n1, hf⟩)⟩
    · rcases hk with ⟨-, rfl⟩ | q
      · refine rEnd_x I (by omega) (by decide) (gres_F ?_ hu).2
        exact Or.inl ⟨(Or.inl ((e0 _ mK_refl).mp h0)), rfl⟩
      · exact q.elim
    · rcases hk with ⟨-, rfl⟩ | q
      · refine rEnd_x I (by omega) (by decide) (gres_F ?_ hu).2
        exact Or.inl ⟨(Or.inr ((e1 _ mK_refl n0).mp h1)), rfl⟩
      · exact q.elim
    · exact hf.elim

set_option maxHeartbeats 4000000 in
theorem op_count {rc cc t : Nat} {σ : fmS} {o : Nat → Int64} (I : rI rc cc t σ) (hts : t + 200 ≤ 200000) (x : Int32) {k : Int32} {z9 : fmS × (Nat → Int64)} (h : (k = 0 ∧ ∃ r, (fun r u => fmNo [("java/lang/IndexOutOfBoundsException", x < 0 ∨ 12 ≤ x)] ∧ r = fmMFig σ 0 cc t x.toNatClampNeg ∧ u = σ) r z9.1 ∧ z9.2 = vp_updL o 0 r.toInt64) ∨ ∃ E, (fun E u => u = σ ∧ fmFirst [("java/lang/IndexOutOfBoundsException", x < 0 ∨ 12 ≤ x)] E) E z9.1 ∧ z9.2 = o ∧ fmCode [("java/lang/IndexOutOfBoundsException", 1)] E k) : mK σ z9.1 ∧ ∀ (b9 : Int32) (u9 : fmS), (fun r u => gRes (gz z9.1) (r = gCnt (gz z9.1) cc t x.toNatClampNeg ∧ u = (gz z9.1)) r u [(1, x < 0 ∨ 11 < x)]) b9 u9 → rEnd (t + 200) k z9.2 b9.toInt64 u9 := by
  obtain ⟨hgo, ⟨h62, h63, h64⟩, hnw, hso, htab⟩ := id I
  obtain ⟨⟨hrc, hcc, ht, h40, h41, h42⟩, hco⟩ := id hgo.1
  obtain ⟨u9, o9⟩ := z9
  dsimp only at h ⊢
  have e0 : ∀ u, mK σ u → ((x < 0 ∨ 12 ≤ x) ↔ (x < 0 ∨ 11 < x)) := by
    intro u hm
    rw [i_le_lt (lo := 11) (hi := 12) (by decide)]
  rcases h with ⟨rfl, r9, ⟨⟨n0, -⟩, h⟩, rfl⟩ | ⟨E9, ⟨rfl, hE⟩, rfl, hk⟩
  · have hN : ∀ u, mK σ u → cN [(1, x < 0 ∨ 11 < x)] := fun u hm => ⟨(fun q => n0 ((e0 _ hm).mpr q)), trivial⟩
    obtain ⟨hx1, hx2⟩ := fm_ixc (x := x) (n := 12) n0 (by decide)
    obtain ⟨rfl, rfl⟩ := h
    have hm : mK u9 u9 := mK_refl
    refine ⟨hm, fun b9 u9 hu => ?_⟩
    obtain ⟨rfl, rfl⟩ := gres_N (hN _ hm) hu
    have hR := rGo_md hgo hm
    have hC := cnt_eq (t := t) (w := x.toNatClampNeg) hcc hR.2.1 (by rw [mK_gz hm (by decide), h62, h40]) (by rw [mK_gz hm (by decide), h63, h41]) (by rw [mK_gz hm (by decide), h64, h42])
    exact rEnd_0 (rI_gz I) (by omega) gz_61 (by rw [updL_0, hC])
  · refine ⟨mK_refl, fun b9 u9 hu => ?_⟩
    rcases hE with ⟨h0, rfl⟩ | ⟨n0, hf⟩
    · rcases hk with ⟨-, rfl⟩ | q
      · refine rEnd_x I (by omega) (by decide) (gres_F ?_ hu).2
        exact Or.inl ⟨((e0 _ mK_refl).mp h0), rfl⟩
      · exact q.elim
    · exact hf.elim
