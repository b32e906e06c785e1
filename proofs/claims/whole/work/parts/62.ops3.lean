set_option maxHeartbeats 4000000 in
theorem op_load {rc cc t : Nat} {σ : fmS} {o : Nat → Int64} (I : rI rc cc t σ) (hts : t + 200 ≤ 200000) (x y z : Int32) {k : Int32} {z9 : fmS × (Nat → Int64)} (h : (k = 0 ∧ ∃ r, (fun r u => fmNo [("java/lang/IndexOutOfBoundsException", x < 0 ∨ σ 41 0 0 0 ≤ x), ("java/lang/IndexOutOfBoundsException", y < 0 ∨ 4 ≤ y), ("java/lang/IllegalArgumentException", z < 1 ∨ 40 < z), ("java/lang/IllegalStateException", σ 52 0 x.toNatClampNeg 0 = 2 ∨ 100 < σ 10 0 x.toNatClampNeg y.toNatClampNeg + z)] ∧ r = σ 10 0 x.toNatClampNeg y.toNatClampNeg + z ∧ u = fmu σ 10 0 x.toNatClampNeg (upd (σ 10 0 x.toNatClampNeg) y.toNatClampNeg (σ 10 0 x.toNatClampNeg y.toNatClampNeg + z))) r z9.1 ∧ z9.2 = vp_updL o 0 r.toInt64) ∨ ∃ E, (fun E u => u = σ ∧ fmFirst [("java/lang/IndexOutOfBoundsException", x < 0 ∨ σ 41 0 0 0 ≤ x), ("java/lang/IndexOutOfBoundsException", y < 0 ∨ 4 ≤ y), ("java/lang/IllegalArgumentException", z < 1 ∨ 40 < z), ("java/lang/IllegalStateException", σ 52 0 x.toNatClampNeg 0 = 2 ∨ 100 < σ 10 0 x.toNatClampNeg y.toNatClampNeg + z)] E) E z9.1 ∧ z9.2 = o ∧ fmCode [("java/lang/IndexOutOfBoundsException", 1), ("java/lang/IllegalArgumentException", 2), ("java/lang/IllegalStateException", 3)] E k) : mK σ z9.1 ∧ ∀ (b9 : Int32) (u9 : fmS), (fun r u => gRes (gz z9.1) (r = (gz z9.1) 25 0 0 (4 * x.toNatClampNeg + y.toNatClampNeg) + z ∧ u = fmu (gz z9.1) 25 0 0 (upd ((gz z9.1) 25 0 0) (4 * x.toNatClampNeg + y.toNatClampNeg) ((gz z9.1) 25 0 0 (4 * x.toNatClampNeg + y.toNatClampNeg) + z))) r u [(1, (x < 0 ∨ nI cc ≤ x) ∨ (y < 0 ∨ 3 < y)), (2, z < 1 ∨ 40 < z), (3, ((gz z9.1) 26 0 0 x.toNatClampNeg = 2) ∨ (100 < (gz z9.1) 25 0 0 (4 * x.toNatClampNeg + y.toNatClampNeg) + z))]) b9 u9 → rEnd (t + 200) k z9.2 b9.toInt64 u9 := by
  obtain ⟨hgo, ⟨h62, h63, h64⟩, hnw, hso, htab⟩ := id I
  obtain ⟨⟨hrc, hcc, ht, h40, h41, h42⟩, hco⟩ := id hgo.1
  obtain ⟨u9, o9⟩ := z9
  dsimp only at h ⊢
  have e0 : ∀ u, mK σ u → ((x < 0 ∨ σ 41 0 0 0 ≤ x) ↔ (x < 0 ∨ nI cc ≤ x)) := by
    intro u hm
    rw [h41]
  have e1 : ∀ u, mK σ u → ¬ (x < 0 ∨ σ 41 0 0 0 ≤ x) → ((y < 0 ∨ 4 ≤ y) ↔ (y < 0 ∨ 3 < y)) := by
    intro u hm n0
    rw [i_le_lt (lo := 3) (hi := 4) (by decide)]
  have e2 : ∀ u, mK σ u → ¬ (x < 0 ∨ σ 41 0 0 0 ≤ x) → ¬ (y < 0 ∨ 4 ≤ y) → ((z < 1 ∨ 40 < z) ↔ (z < 1 ∨ 40 < z)) := by
    intro u hm n0 n1
    exact Iff.rfl
  have e3 : ∀ u, mK σ u → ¬ (x < 0 ∨ σ 41 0 0 0 ≤ x) → ¬ (y < 0 ∨ 4 ≤ y) → ¬ (z < 1 ∨ 40 < z) → ((σ 52 0 x.toNatClampNeg 0 = 2 ∨ 100 < σ 10 0 x.toNatClampNeg y.toNatClampNeg + z) ↔ (((gz u) 26 0 0 x.toNatClampNeg = 2) ∨ (100 < (gz u) 25 0 0 (4 * x.toNatClampNeg + y.toNatClampNeg) + z))) := by
    intro u hm n0 n1 n2
    obtain ⟨hx1, hx2⟩ := fm_ixc (x := x) (n := cc) (by rw [← h41]; exact n0) (by omega)
    obtain ⟨hy1, hy2⟩ := fm_ixc (x := y) (n := 4) n1 (by decide)
    have hR := rGo_md hgo hm
    rw [(hR.2.1.1 _ hx1).1, (hR.2.1.2.1 _ hx1).2.1 _ hy1]
  rcases h with ⟨rfl, r9, ⟨⟨n0, n1, n2, n3, -⟩, h⟩, rfl⟩ | ⟨E9, ⟨rfl, hE⟩, rfl, hk⟩
  · have hN : ∀ u, mK σ u → cN [(1, (x < 0 ∨ nI cc ≤ x) ∨ (y < 0 ∨ 3 < y)), (2, z < 1 ∨ 40 < z), (3, ((gz u) 26 0 0 x.toNatClampNeg = 2) ∨ (100 < (gz u) 25 0 0 (4 * x.toNatClampNeg + y.toNatClampNeg) + z))] := fun u hm => ⟨(fun q => q.elim (fun q => n0 ((e0 _ hm).mpr q)) (fun q => n1 ((e1 _ hm n0).mpr q))), (fun q => n2 ((e2 _ hm n0 n1).mpr q)), (fun q => n3 ((e3 _ hm n0 n1 n2).mpr q)), trivial⟩
    obtain ⟨hx1, hx2⟩ := fm_ixc (x := x) (n := cc) (by rw [← h41]; exact n0) (by omega)
    obtain ⟨hy1, hy2⟩ := fm_ixc (x := y) (n := 4) n1 (by decide)
    obtain ⟨rfl, rfl⟩ := h
    have hm : mK σ (fmu σ 10 0 x.toNatClampNeg (upd (σ 10 0 x.toNatClampNeg) y.toNatClampNeg (σ 10 0 x.toNatClampNeg y.toNatClampNeg + z))) := mK_mu (by decide)
    refine ⟨hm, fun b9 u9 hu => ?_⟩
    obtain ⟨rfl, rfl⟩ := gres_N (hN _ hm) hu
    have hR := rGo_md hgo hm
    have e25 := (hR.2.1.2.1 _ hx1).2.1 _ hy1
    rw [e25]
    have hF : rGo 0 0 rc cc t (fmu σ 10 0 x.toNatClampNeg (upd (σ 10 0 x.toNatClampNeg) y.toNatClampNeg (σ 10 0 x.toNatClampNeg y.toNatClampNeg + z))) _ := ⟨good_ext hgo.1 (fun c m k h => fmu_c _ _ _ _ _ (by omega) _ _), ld_all hR.2.1 hcc hx1 hy1, fun i hi => by rw [fmu_c _ _ _ _ _ (by decide)]; exact hgo.2.2 i hi⟩
    refine rEnd_0 (rI_same I hm (cK_mu (by decide)) hF (fun c h => fmu_c _ _ _ _ _ (by omega) _ _) (kB_mu (fun _ => hx1) (fun q => absurd q (by decide))) (fun c k h1 h2 => fmu_c _ _ _ _ _ (by omega) _ _) (gB_o (by decide)) (fun c i h1 h2 => by rw [fmu_c _ _ _ _ _ (by omega)]) (fun k => by rw [fmu_c _ _ _ _ _ (by decide)]) (rTab_kp I (fun j => by rw [fmu_c _ _ _ _ _ (by decide)]) (fun j => by rw [fmu_c _ _ _ _ _ (by decide)]))) (by omega) (by rw [fmu_c _ _ _ _ _ (by decide), gz_61]) ?_
    rw [updL_0]
  · refine ⟨mK_refl, fun b9 u9 hu => ?_⟩
    rcases hE with ⟨h0, rfl⟩ | ⟨n0, (⟨h1, rfl⟩ | ⟨n1, (⟨h2, rfl⟩ | ⟨n2, (⟨h3, rfl⟩ | ⟨n3, hf⟩)⟩)⟩)⟩
    · rcases hk with ⟨-, rfl⟩ | ⟨q, -⟩ | ⟨q, -⟩ | q
      · refine rEnd_x I (by omega) (by decide) (gres_F ?_ hu).2
        exact Or.inl ⟨(Or.inl ((e0 _ mK_refl).mp h0)), rfl⟩
      · exact absurd q (by decide)
      · exact absurd q (by decide)
      · exact q.elim
    · rcases hk with ⟨-, rfl⟩ | ⟨q, -⟩ | ⟨q, -⟩ | q
      · refine rEnd_x I (by omega) (by decide) (gres_F ?_ hu).2
        exact Or.inl ⟨(Or.inr ((e1 _ mK_refl n0).mp h1)), rfl⟩
      · exact absurd q (by decide)
      · exact absurd q (by decide)
      · exact q.elim
    · rcases hk with ⟨q, -⟩ | ⟨-, rfl⟩ | ⟨q, -⟩ | q
      · exact absurd q (by decide)
      · refine rEnd_x I (by omega) (by decide) (gres_F ?_ hu).2
        exact Or.inr ⟨(fun q => q.elim (fun q => n0 ((e0 _ mK_refl).mpr q)) (fun q => n1 ((e1 _ mK_refl n0).mpr q))), Or.inl ⟨((e2 _ mK_refl n0 n1).mp h2), rfl⟩⟩
      · exact absurd q (by decide)
      · exact q.elim
    · rcases hk with ⟨q, -⟩ | ⟨q, -⟩ | ⟨-, rfl⟩ | q
      · exact absurd q (by decide)
      · exact absurd q (by decide)
      · refine rEnd_x I (by omega) (by decide) (gres_F ?_ hu).2
        exact Or.inr ⟨(fun q => q.elim (fun q => n0 ((e0 _ mK_refl).mpr q)) (fun q => n1 ((e1 _ mK_refl n0).mpr q))), Or.inr ⟨(fun q => n2 ((e2 _ mK_refl n0 n1).mpr q)), Or.inl ⟨((e3 _ mK_refl n0 n1 n2).mp h3), rfl⟩⟩⟩
      · exact q.elim
    · exact hf.elim

set_option maxHeartbeats 4000000 in
theorem op_leaveIn {rc cc t : Nat} {σ : fmS} {o : Nat → Int64} (I : rI rc cc t σ) (hts : t + 200 ≤ 200000) (x y : Int32) {k : Int32} {z9 : fmS × (Nat → Int64)} (h : (k = 0 ∧ ∃ r, (fun r u => fmNo [("java/lang/IndexOutOfBoundsException", x < 0 ∨ σ 41 0 0 0 ≤ x), ("java/lang/IllegalArgumentException", y ≠ -1 ∧ (y < σ 42 0 0 0 ∨ 2147483647 < y)), ("java/lang/IllegalStateException", σ 52 0 x.toNatClampNeg 0 = 2)] ∧ r = σ 55 0 x.toNatClampNeg 0 ∧ u = fmu σ 55 0 x.toNatClampNeg (fun _ => y)) r z9.1 ∧ z9.2 = vp_updL o 0 r.toInt64) ∨ ∃ E, (fun E u => u = σ ∧ fmFirst [("java/lang/IndexOutOfBoundsException", x < 0 ∨ σ 41 0 0 0 ≤ x), ("java/lang/IllegalArgumentException", y ≠ -1 ∧ (y < σ 42 0 0 0 ∨ 2147483647 < y)), ("java/lang/IllegalStateException", σ 52 0 x.toNatClampNeg 0 = 2)] E) E z9.1 ∧ z9.2 = o ∧ fmCode [("java/lang/IndexOutOfBoundsException", 1), ("java/lang/IllegalArgumentException", 2), ("java/lang/IllegalStateException", 3)] E k) : mK σ z9.1 ∧ ∀ (b9 : Int32) (u9 : fmS), (fun r u => gRes (gz z9.1) (r = (gz z9.1) 29 0 0 x.toNatClampNeg ∧ u = fmu (gz z9.1) 29 0 0 (upd ((gz z9.1) 29 0 0) x.toNatClampNeg y)) r u [(1, x < 0 ∨ nI cc ≤ x), (2, y ≠ -1 ∧ y < (gz z9.1) 64 0 0 0), (3, (gz z9.1) 26 0 0 x.toNatClampNeg = 2)]) b9 u9 → rEnd (t + 200) k z9.2 b9.toInt64 u9 := by
  obtain ⟨hgo, ⟨h62, h63, h64⟩, hnw, hso, htab⟩ := id I
  obtain ⟨⟨hrc, hcc, ht, h40, h41, h42⟩, hco⟩ := id hgo.1
  obtain ⟨u9, o9⟩ := z9
  dsimp only at h ⊢
  have e0 : ∀ u, mK σ u → ((x < 0 ∨ σ 41 0 0 0 ≤ x) ↔ (x < 0 ∨ nI cc ≤ x)) := by
    intro u hm
    rw [h41]
  have e1 : ∀ u, mK σ u → ¬ (x < 0 ∨ σ 41 0 0 0 ≤ x) → ((y ≠ -1 ∧ (y < σ 42 0 0 0 ∨ 2147483647 < y)) ↔ (y ≠ -1 ∧ y < (gz u) 64 0 0 0)) := by
    intro u hm n0
    rw [mK_gz hm (by decide), h64, h42]
    constructor
    · rintro ⟨q1, q2 | q2⟩
      · exact ⟨q1, q2⟩
      · exact absurd q2 no_more
    · rintro ⟨q1, q2⟩
      exact ⟨q1, Or.inl q2⟩
  have e2 : ∀ u, mK σ u → ¬ (x < 0 ∨ σ 41 0 0 0 ≤ x) → ¬ (y ≠ -1 ∧ (y < σ 42 0 0 0 ∨ 2147483647 < y)) → ((σ 52 0 x.toNatClampNeg 0 = 2) ↔ ((gz u) 26 0 0 x.toNatClampNeg = 2)) := by
    intro u hm n0 n1
    obtain ⟨hx1, hx2⟩ := fm_ixc (x := x) (n := cc) (by rw [← h41]; exact n0) (by omega)
    have hR := rGo_md hgo hm
    rw [(hR.2.1.1 _ hx1).1]
  rcases h with ⟨rfl, r9, ⟨⟨n0, n1, n2, -⟩, h⟩, rfl⟩ | ⟨E9, ⟨rfl, hE⟩, rfl, hk⟩
  · have hN : ∀ u, mK σ u → cN [(1, x < 0 ∨ nI cc ≤ x), (2, y ≠ -1 ∧ y < (gz u) 64 0 0 0), (3, (gz u) 26 0 0 x.toNatClampNeg = 2)] := fun u hm => ⟨(fun q => n0 ((e0 _ hm).mpr q)), (fun q => n1 ((e1 _ hm n0).mpr q)), (fun q => n2 ((e2 _ hm n0 n1).mpr q)), trivial⟩
    obtain ⟨hx1, hx2⟩ := fm_ixc (x := x) (n := cc) (by rw [← h41]; exact n0) (by omega)
    obtain ⟨rfl, rfl⟩ := h
    have hm : mK σ (fmu σ 55 0 x.toNatClampNeg (fun _ => y)) := mK_mu (by decide)
    refine ⟨hm, fun b9 u9 hu => ?_⟩
    obtain ⟨rfl, rfl⟩ := gres_N (hN _ hm) hu
    have hR := rGo_md hgo hm
    have hF : rGo 0 0 rc cc t (fmu σ 55 0 x.toNatClampNeg (fun _ => y)) _ := ⟨good_ext hgo.1 (fun c m k h => fmu_c _ _ _ _ _ (by omega) _ _), li_all (x := y) hR.2.1 hx1, fun i hi => by rw [fmu_c _ _ _ _ _ (by decide)]; exact hgo.2.2 i hi⟩
    refine rEnd_0 (rI_same I hm (cK_mu (by decide)) hF (fun c h => fmu_c _ _ _ _ _ (by omega) _ _) (kB_mu (fun _ => hx1) (fun q => absurd q (by decide))) (fun c k h1 h2 => fmu_c _ _ _ _ _ (by omega) _ _) (gB_o (by decide)) (fun c i h1 h2 => by rw [fmu_c _ _ _ _ _ (by omega)]) (fun k => by rw [fmu_c _ _ _ _ _ (by decide)]) (rTab_kp I (fun j => by rw [fmu_c _ _ _ _ _ (by decide)]) (fun j => by rw [fmu_c _ _ _ _ _ (by decide)]))) (by omega) (by rw [fmu_c _ _ _ _ _ (by decide), gz_61]) ?_
    rw [updL_0, (hR.2.1.2.1 _ hx1).2.2.1]
  · refine ⟨mK_refl, fun b9 u9 hu => ?_⟩
    rcases hE with ⟨h0, rfl⟩ | ⟨n0, (⟨h1, rfl⟩ | ⟨n1, (⟨h2, rfl⟩ | ⟨n2, hf⟩)⟩)⟩
    · rcases hk with ⟨-, rfl⟩ | ⟨q, -⟩ | ⟨q, -⟩ | q
      · refine rEnd_x I (by omega) (by decide) (gres_F ?_ hu).2
        exact Or.inl ⟨((e0 _ mK_refl).mp h0), rfl⟩
      · exact absurd q (by decide)
      · exact absurd q (by decide)
      · exact q.elim
    · rcases hk with ⟨q, -⟩ | ⟨-, rfl⟩ | ⟨q, -⟩ | q
      · exact absurd q (by decide)
      · refine rEnd_x I (by omega) (by decide) (gres_F ?_ hu).2
        exact Or.inr ⟨(fun q => n0 ((e0 _ mK_refl).mpr q)), Or.inl ⟨((e1 _ mK_refl n0).mp h1), rfl⟩⟩
      · exact absurd q (by decide)
      · exact q.elim
    · rcases hk with ⟨q, -⟩ | ⟨q, -⟩ | ⟨-, rfl⟩ | q
      · exact absurd q (by decide)
      · exact absurd q (by decide)
      · refine rEnd_x I (by omega) (by decide) (gres_F ?_ hu).2
        exact Or.inr ⟨(fun q => n0 ((e0 _ mK_refl).mpr q)), Or.inr ⟨(fun q => n1 ((e1 _ mK_refl n0).mpr q)), Or.inl ⟨((e2 _ mK_refl n0 n1).mp h2), rfl⟩⟩⟩
      · exact q.elim
    · exact hf.elim

set_option maxHeartbeats 4000000 in
theorem op_offer {rc cc t : Nat} {σ : fmS} {o : Nat → Int64} (I : rI rc cc t σ) (hts : t + 200 ≤ 200000) (x y z w v : Int32) {k : Int32} {z9 : fmS × (Nat → Int64)} (h : (k = 0 ∧ ∃ r, (fun r u => fmNo [("java/lang/IndexOutOfBoundsException", x < 0 ∨ σ 41 0 0 0 ≤ x), ("java/lang/IndexOutOfBoundsException", y < 0 ∨ 4 ≤ y), ("java/lang/IllegalArgumentException", z < 0 ∨ 20 < z), ("java/lang/IllegalArgumentException", v < 0 ∨ 20 < v), ("java/lang/IllegalArgumentException", w < 0 ∨ 40 < w)] ∧ r = fmMs (fmOffer σ x.toNatClampNeg y.toNatClampNeg z w v) 0 x.toNatClampNeg y.toNatClampNeg ∧ u = fmOffer σ x.toNatClampNeg y.toNatClampNeg z w v) r z9.1 ∧ z9.2 = vp_updL o 0 r.toInt64) ∨ ∃ E, (fun E u => u = σ ∧ fmFirst [("java/lang/IndexOutOfBoundsException", x < 0 ∨ σ 41 0 0 0 ≤ x), ("java/lang/IndexOutOfBoundsException", y < 0 ∨ 4 ≤ y), ("java/lang/IllegalArgumentException", z < 0 ∨ 20 < z), ("java/lang/IllegalArgumentException", v < 0 ∨ 20 < v), ("java/lang/IllegalArgumentException", w < 0 ∨ 40 < w)] E) E z9.1 ∧ z9.2 = o ∧ fmCode [("java/lang/IndexOutOfBoundsException", 1), ("java/lang/IllegalArgumentException", 2)] E k) : mK σ z9.1 ∧ ∀ (b9 : Int32) (u9 : fmS), (fun r u => gRes (gz z9.1) (r = gMs (gOffer (gz z9.1) x.toNatClampNeg y.toNatClampNeg z w v) 0 x.toNatClampNeg y.toNatClampNeg ∧ u = gOffer (gz z9.1) x.toNatClampNeg y.toNatClampNeg z w v) r u [(1, (x < 0 ∨ nI cc ≤ x) ∨ (y < 0 ∨ 3 < y)), (2, (z < 0 ∨ 20 < z) ∨ (v < 0 ∨ 20 < v) ∨ (w < 0 ∨ 40 < w))]) b9 u9 → rEnd (t + 200) k z9.2 b9.toInt64 u9 := by
  obtain ⟨hgo, ⟨h62, h63, h64⟩, hnw, hso, htab⟩ := id I
  obtain ⟨⟨hrc, hcc, ht, h40, h41, h42⟩, hco⟩ := id hgo.1
  obtain ⟨u9, o9⟩ := z9
  dsimp only at h ⊢
  have e0 : ∀ u, mK σ u → ((x < 0 ∨ σ 41 0 0 0 ≤ x) ↔ (x < 0 ∨ nI cc ≤ x)) := by
    intro u hm
    rw [h41]
  have e1 : ∀ u, mK σ u → ¬ (x < 0 ∨ σ 41 0 0 0 ≤ x) → ((y < 0 ∨ 4 ≤ y) ↔ (y < 0 ∨ 3 < y)) := by
    intro u hm n0
    rw [i_le_lt (lo := 3) (hi := 4) (by decide)]
  have e2 : ∀ u, mK σ u → ¬ (x < 0 ∨ σ 41 0 0 0 ≤ x) → ¬ (y < 0 ∨ 4 ≤ y) → ((z < 0 ∨ 20 < z) ↔ (z < 0 ∨ 20 < z)) := by
    intro u hm n0 n1
    exact Iff.rfl
  have e3 : ∀ u, mK σ u → ¬ (x < 0 ∨ σ 41 0 0 0 ≤ x) → ¬ (y < 0 ∨ 4 ≤ y) → ¬ (z < 0 ∨ 20 < z) → ((v < 0 ∨ 20 < v) ↔ (v < 0 ∨ 20 < v)) := by
    intro u hm n0 n1 n2
    exact Iff.rfl
  have e4 : ∀ u, mK σ u → ¬ (x < 0 ∨ σ 41 0 0 0 ≤ x) → ¬ (y < 0 ∨ 4 ≤ y) → ¬ (z < 0 ∨ 20 < z) → ¬ (v < 0 ∨ 20 < v) → ((w < 0 ∨ 40 < w) ↔ (w < 0 ∨ 40 < w)) := by
    intro u hm n0 n1 n2 n3
    exact Iff.rfl
  rcases h with ⟨rfl, r9, ⟨⟨n0, n1, n2, n3, n4, -⟩, h⟩, rfl⟩ | ⟨E9, ⟨rfl, hE⟩, rfl, hk⟩
  · have hN : ∀ u, mK σ u → cN [(1, (x < 0 ∨ nI cc ≤ x) ∨ (y < 0 ∨ 3 < y)), (2, (z < 0 ∨ 20 < z) ∨ (v < 0 ∨ 20 < v) ∨ (w < 0 ∨ 40 < w))] := fun u hm => ⟨(fun q => q.elim (fun q => n0 ((e0 _ hm).mpr q)) (fun q => n1 ((e1 _ hm n0).mpr q))), (fun q => q.elim (fun q => n2 ((e2 _ hm n0 n1).mpr q)) (fun q => q.elim (fun q => n3 ((e3 _ hm n0 n1 n2).mpr q)) (fun q => n4 ((e4 _ hm n0 n1 n2 n3).mpr q)))), trivial⟩
    obtain ⟨hx1, hx2⟩ := fm_ixc (x := x) (n := cc) (by rw [← h41]; exact n0) (by omega)
    obtain ⟨hy1, hy2⟩ := fm_ixc (x := y) (n := 4) n1 (by decide)
    obtain ⟨rfl, rfl⟩ := h
    have hm : mK σ (fmOffer σ x.toNatClampNeg y.toNatClampNeg z w v) := fun c m k h => offer_c (by omega) m k
    refine ⟨hm, fun b9 u9 hu => ?_⟩
    obtain ⟨rfl, rfl⟩ := gres_N (hN _ hm) hu
    have hR := rGo_md hgo hm
    have hO := of_all (z := z) (x1 := w) (x2 := v) hR.2.1 hcc hx1 hy1
    have hF : rGo 0 0 rc cc t (fmOffer σ x.toNatClampNeg y.toNatClampNeg z w v) _ := ⟨good_ext hgo.1 (fun c m k h => offer_c (by omega) m k), hO, fun i hi => by rw [offer_c (by decide)]; exact hgo.2.2 i hi⟩
    refine rEnd_0 (rI_same I hm (fun c m k h => gOffer_c (by omega) m k) hF (fun c h => gOffer_c (by omega) 0 0) ⟨fun c k h h3 => by rw [offer_c (by omega)], fun r h => offer_c (by decide) 0 r⟩ (fun c k h1 h2 => offer_k (by omega) c) (fun c k h1 h2 => by rw [gOffer_c (by omega)]) (fun c i h1 h2 => by rw [gOffer_i h2, if_neg (by omega)]) (fun k => by rw [offer_c (by decide)]) (rTab_kp I (fun j => by rw [offer_c (by decide)]) (fun j => by rw [offer_c (by decide)]))) (by omega) (by rw [gOffer_c (by decide), gz_61]) ?_
    rw [updL_0, ms_eq hO hx1 hy1]
  · refine ⟨mK_refl, fun b9 u9 hu => ?_⟩
    rcases hE with ⟨h0, rfl⟩ | ⟨n0, (⟨h1, rfl⟩ | ⟨n1, (⟨h2, rfl⟩ | ⟨n2, (⟨h3, rfl⟩ | ⟨n3, (⟨h4, rfl⟩ | ⟨n4, hf⟩)⟩)⟩)⟩)⟩
    · rcases hk with ⟨-, rfl⟩ | ⟨q, -⟩ | q
      · refine rEnd_x I (by omega) (by decide) (gres_F ?_ hu).2
        exact Or.inl ⟨(Or.inl ((e0 _ mK_refl).mp h0)), rfl⟩
      · exact absurd q (by decide)
      · exact q.elim
    · rcases hk with ⟨-, rfl⟩ | ⟨q, -⟩ | q
      · refine rEnd_x I (by omega) (by decide) (gres_F ?_ hu).2
        exact Or.inl ⟨(Or.inr ((e1 _ mK_refl n0).mp h1)), rfl⟩
      · exact absurd q (by decide)
      · exact q.elim
    · rcases hk with ⟨q, -⟩ | ⟨-, rfl⟩ | q
      · exact absurd q (by decide)
      · refine rEnd_x I (by omega) (by decide) (gres_F ?_ hu).2
        exact Or.inr ⟨(fun q => q.elim (fun q => n0 ((e0 _ mK_refl).mpr q)) (fun q => n1 ((e1 _ mK_refl n0).mpr q))), Or.inl ⟨(Or.inl ((e2 _ mK_refl n0 n1).mp h2)), rfl⟩⟩
      · exact q.elim
    · rcases hk with ⟨q, -⟩ | ⟨-, rfl⟩ | q
      · exact absurd q (by decide)
      · refine rEnd_x I (by omega) (by decide) (gres_F ?_ hu).2
        exact Or.inr ⟨(fun q => q.elim (fun q => n0 ((e0 _ mK_refl).mpr q)) (fun q => n1 ((e1 _ mK_refl n0).mpr q))), Or.inl ⟨(Or.inr (Or.inl ((e3 _ mK_refl n0 n1 n2).mp h3))), rfl⟩⟩
      · exact q.elim
    · rcases hk with ⟨q, -⟩ | ⟨-, rfl⟩ | q
      · exact absurd q (by decide)
      · refine rEnd_x I (by omega) (by decide) (gres_F ?_ hu).2
        exact Or.inr ⟨(fun q => q.elim (fun q => n0 ((e0 _ mK_refl).mpr q)) (fun q => n1 ((e1 _ mK_refl n0).mpr q))), Or.inl ⟨(Or.inr (Or.inr ((e4 _ mK_refl n0 n1 n2 n3).mp h4))), rfl⟩⟩
      · exact q.elim
    · exact hf.elim

set_option maxHeartbeats 4000000 in
theorem op_setWater {rc cc t : Nat} {σ : fmS} {o : Nat → Int64} (I : rI rc cc t σ) (hts : t + 200 ≤ 200000) (x y z : Int32) {k : Int32} {z9 : fmS × (Nat → Int64)} (h : (k = 0 ∧ ∃ r, (fun r u => fmNo [("java/lang/IndexOutOfBoundsException", x < 0 ∨ 24 ≤ x), ("java/lang/IllegalArgumentException", y < 0 ∨ 9 < y), ("java/lang/IllegalArgumentException", z < 0 ∨ 9 < z)] ∧ r = fmEntry σ x.toNatClampNeg ∧ u = fmu (fmu σ 2 0 0 (upd (σ 2 0 0) x.toNatClampNeg y)) 3 0 0 (upd (σ 3 0 0) x.toNatClampNeg z)) r z9.1 ∧ z9.2 = vp_updL o 0 r.toInt64) ∨ ∃ E, (fun E u => u = σ ∧ fmFirst [("java/lang/IndexOutOfBoundsException", x < 0 ∨ 24 ≤ x), ("java/lang/IllegalArgumentException", y < 0 ∨ 9 < y), ("java/lang/IllegalArgumentException", z < 0 ∨ 9 < z)] E) E z9.1 ∧ z9.2 = o ∧ fmCode [("java/lang/IndexOutOfBoundsException", 1), ("java/lang/IllegalArgumentException", 2)] E k) : mK σ z9.1 ∧ ∀ (b9 : Int32) (u9 : fmS), (fun r u => gRes (gz z9.1) (r = 10 * (gz z9.1) 16 0 0 x.toNatClampNeg + (gz z9.1) 17 0 0 x.toNatClampNeg ∧ u = fmu (fmu (gz z9.1) 16 0 0 (upd ((gz z9.1) 16 0 0) x.toNatClampNeg y)) 17 0 0 (upd ((gz z9.1) 17 0 0) x.toNatClampNeg z)) r u [(1, x < 0 ∨ 23 < x), (2, (y < 0 ∨ 9 < y) ∨ (z < 0 ∨ 9 < z))]) b9 u9 → rEnd (t + 200) k z9.2 b9.toInt64 u9 := by
  obtain ⟨hgo, ⟨h62, h63, h64⟩, hnw, hso, htab⟩ := id I
  obtain ⟨⟨hrc, hcc, ht, h40, h41, h42⟩, hco⟩ := id hgo.1
  obtain ⟨u9, o9⟩ := z9
  dsimp only at h ⊢
  have e0 : ∀ u, mK σ u → ((x < 0 ∨ 24 ≤ x) ↔ (x < 0 ∨ 23 < x)) := by
    intro u hm
    rw [i_le_lt (lo := 23) (hi := 24) (by decide)]
  have e1 : ∀ u, mK σ u → ¬ (x < 0 ∨ 24 ≤ x) → ((y < 0 ∨ 9 < y) ↔ (y < 0 ∨ 9 < y)) := by
    intro u hm n0
    exact Iff.rfl
  have e2 : ∀ u, mK σ u → ¬ (x < 0 ∨ 24 ≤ x) → ¬ (y < 0 ∨ 9 < y) → ((z < 0 ∨ 9 < z) ↔ (z < 0 ∨ 9 < z)) := by
    intro u hm n0 n1
    exact Iff.rfl
  rcases h with ⟨rfl, r9, ⟨⟨n0, n1, n2, -⟩, h⟩, rfl⟩ | ⟨E9, ⟨rfl, hE⟩, rfl, hk⟩
  · have hN : ∀ u, mK σ u → cN [(1, x < 0 ∨ 23 < x), (2, (y < 0 ∨ 9 < y) ∨ (z < 0 ∨ 9 < z))] := fun u hm => ⟨(fun q => n0 ((e0 _ hm).mpr q)), (fun q => q.elim (fun q => n1 ((e1 _ hm n0).mpr q)) (fun q => n2 ((e2 _ hm n0 n1).mpr q))), trivial⟩
    obtain ⟨hx1, hx2⟩ := fm_ixc (x := x) (n := 24) n0 (by decide)
    obtain ⟨hy0, hy1, hy2⟩ := fm_rgc (x := y) (lo := 0) (hi := 9) n1 (by decide) (by decide)
    obtain ⟨hz0, hz1, hz2⟩ := fm_rgc (x := z) (lo := 0) (hi := 9) n2 (by decide) (by decide)
    obtain ⟨rfl, rfl⟩ := h
    have sc : ∀ c m n, c ≠ 2 ∧ c ≠ 3 → (fmu (fmu σ 2 0 0 (upd (σ 2 0 0) x.toNatClampNeg y)) 3 0 0 (upd (σ 3 0 0) x.toNatClampNeg z)) c m n = σ c m n := fun c m n h => by rw [fmu_c _ _ _ _ _ h.2, fmu_c _ _ _ _ _ h.1]
    have hm : mK σ (fmu (fmu σ 2 0 0 (upd (σ 2 0 0) x.toNatClampNeg y)) 3 0 0 (upd (σ 3 0 0) x.toNatClampNeg z)) := fun c m k h => sc c m k (by omega)
    refine ⟨hm, fun b9 u9 hu => ?_⟩
    obtain ⟨rfl, rfl⟩ := gres_N (hN _ hm) hu
    have hR := rGo_md hgo hm
    have hO := sw_all (k := x.toNatClampNeg) (x := y) (y := z) hR.2.1 hcc
    have hF : rGo 0 0 rc cc t (fmu (fmu σ 2 0 0 (upd (σ 2 0 0) x.toNatClampNeg y)) 3 0 0 (upd (σ 3 0 0) x.toNatClampNeg z)) _ := ⟨good_ext hgo.1 (fun c m k h => sc c m k (by omega)), hO, fun i hi => by rw [sc _ _ _ (by decide)]; exact hgo.2.2 i hi⟩
    refine rEnd_0 (rI_same I hm (cK_trans (cK_mu (by decide)) (cK_mu (by decide))) hF (fun c h => by rw [fmu_c _ _ _ _ _ (by omega), fmu_c _ _ _ _ _ (by omega)]) ⟨fun c k h h3 => sc c 0 k (by omega), fun r h => sc 48 0 r (by decide)⟩ (fun c k h1 h2 => sc c 0 k (by omega)) (fun c k h1 h2 => by rw [fmu_c _ _ _ _ _ (by omega), fmu_c _ _ _ _ _ (by omega)]) (fun c i h1 h2 => by rw [fmu_c _ _ _ _ _ (by omega), fmu_c _ _ _ _ _ (by omega)]) (fun k => by rw [sc _ _ _ (by decide)]) (tab_upd htab hy2 hz2 hy1 hz1)) (by omega) (by rw [fmu_c _ _ _ _ _ (by decide), fmu_c _ _ _ _ _ (by decide), gz_61]) ?_
    obtain ⟨f1, f2⟩ := hR.2.1.2.2.2.2.2.2 _ hx1
    rw [updL_0, f1, f2, fmEntry]
  · refine ⟨mK_refl, fun b9 u9 hu => ?_⟩
    rcases hE with ⟨h0, rfl⟩ | ⟨n0, (⟨h1, rfl⟩ | ⟨n1, (⟨h2, rfl⟩ | ⟨n2, hf⟩)⟩)⟩
    · rcases hk with ⟨-, rfl⟩ | ⟨q, -⟩ | q
      · refine rEnd_x I (by omega) (by decide) (gres_F ?_ hu).2
        exact Or.inl ⟨((e0 _ mK_refl).mp h0), rfl⟩
      · exact absurd q (by decide)
      · exact q.elim
    · rcases hk with ⟨q, -⟩ | ⟨-, rfl⟩ | q
      · exact absurd q (by decide)
      · refine rEnd_x I (by omega) (by decide) (gres_F ?_ hu).2
        exact Or.inr ⟨(fun q => n0 ((e0 _ mK_refl).mpr q)), Or.inl ⟨(Or.inl ((e1 _ mK_refl n0).mp h1)), rfl⟩⟩
      · exact q.elim
    · rcases hk with ⟨q, -⟩ | ⟨-, rfl⟩ | q
      · exact absurd q (by decide)
      · refine rEnd_x I (by omega) (by decide) (gres_F ?_ hu).2
        exact Or.inr ⟨(fun q => n0 ((e0 _ mK_refl).mpr q)), Or.inl ⟨(Or.inr ((e2 _ mK_refl n0 n1).mp h2)), rfl⟩⟩
      · exact q.elim
    · exact hf.elim

set_option maxHeartbeats 4000000 in
theorem op_addRow {rc cc t : Nat} {σ : fmS} {o : Nat → Int64} (I : rI rc cc t σ) (hts : t + 200 ≤ 200000) (x : Int32) {k : Int32} {z9 : fmS × (Nat → Int64)} (h : (k = 0 ∧ ∃ r, (fun r u => fmNo [("java/lang/IllegalArgumentException", x < 1 ∨ 6 < x), ("java/lang/IllegalStateException", 4 ≤ σ 40 0 0 0)] ∧ r = nI rc ∧ u = fmu (fmu σ 47 0 rc (fun _ => x)) 40 0 0 (fun _ => nI (rc + 1))) r z9.1 ∧ z9.2 = vp_updL o 0 r.toInt64) ∨ ∃ E, (fun E u => u = σ ∧ fmFirst [("java/lang/IllegalArgumentException", x < 1 ∨ 6 < x), ("java/lang/IllegalStateException", 4 ≤ σ 40 0 0 0)] E) E z9.1 ∧ z9.2 = o ∧ fmCode [("java/lang/IllegalArgumentException", 1), ("java/lang/IllegalStateException", 2)] E k) : mK σ z9.1 ∧ ∀ (b9 : Int32) (u9 : fmS), (fun r u => gRes (gz z9.1) (r = nI rc ∧ u = fmu (fmu (gz z9.1) 15 0 0 (upd ((gz z9.1) 15 0 0) rc x)) 62 0 0 (fun _ => nI (rc + 1))) r u [(1, x < 1 ∨ 6 < x), (2, (gz z9.1) 62 0 0 0 = 4)]) b9 u9 → rEnd (t + 200) k z9.2 b9.toInt64 u9 := by
  obtain ⟨hgo, ⟨h62, h63, h64⟩, hnw, hso, htab⟩ := id I
  obtain ⟨⟨hrc, hcc, ht, h40, h41, h42⟩, hco⟩ := id hgo.1
  obtain ⟨u9, o9⟩ := z9
  dsimp only at h ⊢
  have e0 : ∀ u, mK σ u → ((x < 1 ∨ 6 < x) ↔ (x < 1 ∨ 6 < x)) := by
    intro u hm
    exact Iff.rfl
  have e1 : ∀ u, mK σ u → ¬ (x < 1 ∨ 6 < x) → ((4 ≤ σ 40 0 0 0) ↔ ((gz u) 62 0 0 0 = 4)) := by
    intro u hm n0
    rw [mK_gz hm (by decide), h62, h40]
    exact ⟨fun q => by rw [show rc = 4 from Nat.le_antisymm hrc ((nI_leI (a := 4) (by decide) (by omega)).mp q)]; rfl, fun q => by rw [q]; decide⟩
  rcases h with ⟨rfl, r9, ⟨⟨n0, n1, -⟩, h⟩, rfl⟩ | ⟨E9, ⟨rfl, hE⟩, rfl, hk⟩
  · have hN : ∀ u, mK σ u → cN [(1, x < 1 ∨ 6 < x), (2, (gz u) 62 0 0 0 = 4)] := fun u hm => ⟨(fun q => n0 ((e0 _ hm).mpr q)), (fun q => n1 ((e1 _ hm n0).mpr q)), trivial⟩
    obtain ⟨hx0, hx1, hx2⟩ := fm_rgc (x := x) (lo := 1) (hi := 6) n0 (by decide) (by decide)
    have hr4 : rc < 4 := by
      rcases Nat.lt_or_ge rc 4 with q | q
      · exact q
      · exact absurd (by rw [h40]; exact nI_le (a := 4) q (by omega)) n1
    obtain ⟨rfl, rfl⟩ := h
    have sc : ∀ c m n, c ≠ 47 ∧ c ≠ 40 → (fmu (fmu σ 47 0 rc (fun _ => x)) 40 0 0 (fun _ => nI (rc + 1))) c m n = σ c m n := fun c m n h => by rw [fmu_c _ _ _ _ _ h.2, fmu_c _ _ _ _ _ h.1]
    have s47 : ∀ r, (fmu (fmu σ 47 0 rc (fun _ => x)) 40 0 0 (fun _ => nI (rc + 1))) 47 0 r 0 = if r = rc then x else σ 47 0 r 0 := fun r => by
      rw [fmu_c _ _ _ _ _ (by decide)]
      by_cases e : r = rc
      · rw [e, fmu_self, if_pos rfl]
      · rw [fmu_ne _ _ _ _ _ (fun q => e q.2.2), if_neg e]
    have s40 : (fmu (fmu σ 47 0 rc (fun _ => x)) 40 0 0 (fun _ => nI (rc + 1))) 40 0 0 0 = nI (rc + 1) := by rw [fmu_self]
    have hm : mK σ (fmu (fmu σ 47 0 rc (fun _ => x)) 40 0 0 (fun _ => nI (rc + 1))) := fun c m k h => sc c m k (by omega)
    refine ⟨hm, fun b9 u9 hu => ?_⟩
    obtain ⟨rfl, rfl⟩ := gres_N (hN _ hm) hu
    have hR := rGo_md hgo hm
    revert sc s47 s40 hm hR
    generalize (fmu (fmu σ 47 0 rc (fun _ => x)) 40 0 0 (fun _ => nI (rc + 1))) = u
    intro sc s47 s40 hm hR
    have tc : ∀ c m n, c ≠ 15 ∧ c ≠ 62 → fmu (fmu (gz u) 15 0 0 (upd ((gz u) 15 0 0) rc x)) 62 0 0 (fun _ => nI (rc + 1)) c m n = gz u c m n := fun c m n h => by rw [fmu_c _ _ _ _ _ h.2, fmu_c _ _ _ _ _ h.1]
    have t15 : ∀ r, fmu (fmu (gz u) 15 0 0 (upd ((gz u) 15 0 0) rc x)) 62 0 0 (fun _ => nI (rc + 1)) 15 0 0 r = if r = rc then x else gz u 15 0 0 r := fun r => by
      rw [fmu_c _ _ _ _ _ (by decide), fmu_self]
      by_cases e : r = rc
      · rw [e, fm_upd_same, if_pos rfl]
      · rw [fm_upd_ne _ _ e, if_neg e]
    have t62 : fmu (fmu (gz u) 15 0 0 (upd ((gz u) 15 0 0) rc x)) 62 0 0 (fun _ => nI (rc + 1)) 62 0 0 0 = nI (rc + 1) := by rw [fmu_self]
    revert tc t15 t62
    generalize fmu (fmu (gz u) 15 0 0 (upd ((gz u) 15 0 0) rc x)) 62 0 0 (fun _ => nI (rc + 1)) = u7
    intro tc t15 t62
    have hgd : fmGood 0 (rc + 1) cc t u := by
      refine ⟨⟨by omega, hcc, ht, s40, by rw [sc _ _ _ (by decide)]; exact h41, by rw [sc _ _ _ (by decide)]; exact h42⟩, fun r hr => ?_, fun k hk hs => ?_⟩
      · by_cases e : r = rc
        · exact ⟨x.toNatClampNeg, 0, hx1, Nat.zero_le _, by rw [s47, if_pos e]; exact hx2, by rw [sc _ _ _ (by decide), hnw.2 r (by omega) (by omega)]; rfl, fun j hj => absurd hj (by omega)⟩
        · obtain ⟨q, v, g1, g2, g3, g4, g5⟩ := hco.1 r (by omega)
          refine ⟨q, v, g1, g2, by rw [s47, if_neg e]; exact g3, by rw [sc _ _ _ (by decide)]; exact g4, fun j hj => ?_⟩
          obtain ⟨k, c1, c2, c3, c4, c5⟩ := g5 j hj
          exact ⟨k, c1, by rw [sc _ _ _ (by decide)]; exact c2, by rw [sc _ _ _ (by decide)]; exact c3, by rw [sc _ _ _ (by decide)]; exact c4, by rw [sc _ _ _ (by decide)]; exact c5⟩
      · rw [sc _ _ _ (by decide)] at hs
        obtain ⟨r, j, v, g1, g2, g3, g4, g5, g6, g7⟩ := hco.2 k hk hs
        exact ⟨r, j, v, by omega, g2, g3, by rw [sc _ _ _ (by decide)]; exact g4, by rw [sc _ _ _ (by decide)]; exact g5, by rw [sc _ _ _ (by decide)]; exact g6, by rw [sc _ _ _ (by decide)]; exact g7⟩
    have hA : rAll 0 0 (rc + 1) cc u u7 := by
      obtain ⟨hM, hS, hZ, hT, hQ⟩ := hR.2.1
      have hB : rAll 0 0 0 cc u u7 := rQ_all (rc := 0) (σ := σ) (τ := gz u) ⟨hM, hS, hZ, hT, fun r hr => absurd hr (by omega), hQ.2.1, hQ.2.2⟩ hcc (fun c k h => sc c 0 k (by omega)) (fun c h => tc c 0 0 (by omega)) ⟨fun r hr => absurd hr (by omega), fun k hk => by rw [tc _ _ _ (by decide), sc _ _ _ (by decide), tc _ _ _ (by decide), sc _ _ _ (by decide), tc _ _ _ (by decide), sc _ _ _ (by decide), tc _ _ _ (by decide), sc _ _ _ (by decide)]; exact hQ.2.1 k hk, fun j hj => by rw [tc _ _ _ (by decide), sc _ _ _ (by decide), tc _ _ _ (by decide), sc _ _ _ (by decide)]; exact hQ.2.2 j hj⟩
      obtain ⟨hM1, hS1, hZ1, hT1, hQ1⟩ := hB
      refine ⟨hM1, hS1, hZ1, hT1, fun r hr => ?_, hQ1.2.1, hQ1.2.2⟩
      rw [t15, s47]
      by_cases e : r = rc
      · rw [if_pos e, if_pos e]
      · rw [if_neg e, if_neg e]; exact hQ.1 r (by omega)
    have hgo2 : rGo 0 0 (rc + 1) cc t u u7 := ⟨hgd, hA, fun i hi => by rw [sc _ _ _ (by decide)]; exact hgo.2.2 i hi⟩
    refine rEnd_0 (rc := rc + 1) (cc := cc) (t' := t) ⟨rGo_cl hgo2 (fun c m k h => by rw [tc _ _ _ (by omega), gz_c (by omega)]), ⟨t62, by rw [tc _ _ _ (by decide), mK_gz hm (by decide)]; exact h63, by rw [tc _ _ _ (by decide), mK_gz hm (by decide)]; exact h64⟩, ⟨(rNw_of hnw (fun c k hk h => by rw [tc _ _ _ (by omega), gz_c (by omega), sc _ _ _ (by omega)]) (fun r hr => by rw [tc _ _ _ (by decide), gz_c (by decide), sc _ _ _ (by decide)]) (fun c k hk h => by rw [tc _ _ _ (by omega), mK_gz hm (by omega)]) (fun c i hi h => by rw [tc _ _ _ (by omega), mK_gz hm (by omega)])).1, fun r hr hr2 => by rw [tc _ _ _ (by decide), gz_c (by decide), sc _ _ _ (by decide)]; exact hnw.2 r (by omega) hr2⟩, fun k hk => by rw [tc _ _ _ (by decide), gz_c (by decide), sc _ _ _ (by decide)]; exact hso k hk, rTab_kp I (fun j => by rw [tc _ _ _ (by decide), gz_c (by decide), sc _ _ _ (by decide)]) (fun j => by rw [tc _ _ _ (by decide), gz_c (by decide), sc _ _ _ (by decide)])⟩ (by omega) (by rw [tc _ _ _ (by decide), gz_61]) (by rw [updL_0])
  · refine ⟨mK_refl, fun b9 u9 hu => ?_⟩
    rcases hE with ⟨h0, rfl⟩ | ⟨n0, (⟨h1, rfl⟩ | ⟨n1, hf⟩)⟩
    · rcases hk with ⟨-, rfl⟩ | ⟨q, -⟩ | q
      · refine rEnd_x I (by omega) (by decide) (gres_F ?_ hu).2
        exact Or.inl ⟨((e0 _ mK_refl).mp h0), rfl⟩
      · exact absurd q (by decide)
      · exact q.elim
    · rcases hk with ⟨q, -⟩ | ⟨-, rfl⟩ | q
      · exact absurd q (by decide)
      · refine rEnd_x I (by omega) (by decide) (gres_F ?_ hu).2
        exact Or.inr ⟨(fun q => n0 ((e0 _ mK_refl).mpr q)), Or.inl ⟨((e1 _ mK_refl n0).mp h1), rfl⟩⟩
      · exact q.elim
    · exact hf.elim
