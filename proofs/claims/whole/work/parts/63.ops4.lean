set_option maxHeartbeats 4000000 in
theorem op_addCanoe {rc cc t : Nat} {σ : fmS} {o : Nat → Int64} (I : rI rc cc t σ) (hts : t + 200 ≤ 200000) (x y : Int32) {k : Int32} {z9 : fmS × (Nat → Int64)} (h : (k = 0 ∧ ∃ r, (fun r u => fmNo [("java/lang/IllegalArgumentException", x < 0 ∨ 500 < x), ("java/lang/IllegalArgumentException", y < 0 ∨ 9 < y), ("java/lang/IllegalStateException", 14 ≤ σ 41 0 0 0)] ∧ r = nI cc ∧ u = fmu (fmu (fmu σ 50 0 cc (fun _ => x)) 51 0 cc (fun _ => y)) 41 0 0 (fun _ => nI (cc + 1))) r z9.1 ∧ z9.2 = vp_updL o 0 r.toInt64) ∨ ∃ E, (fun E u => u = σ ∧ fmFirst [("java/lang/IllegalArgumentException", x < 0 ∨ 500 < x), ("java/lang/IllegalArgumentException", y < 0 ∨ 9 < y), ("java/lang/IllegalStateException", 14 ≤ σ 41 0 0 0)] E) E z9.1 ∧ z9.2 = o ∧ fmCode [("java/lang/IllegalArgumentException", 1), ("java/lang/IllegalStateException", 2)] E k) : mK σ z9.1 ∧ ∀ (b9 : Int32) (u9 : fmS), (fun r u => gRes (gz z9.1) (r = nI cc ∧ u = fmu (fmu (fmu (fmu (gz z9.1) 24 0 0 (upd ((gz z9.1) 24 0 0) cc x)) 29 0 0 (upd ((gz z9.1) 29 0 0) cc (-1))) 18 0 0 (upd ((gz z9.1) 18 0 0) cc y)) 63 0 0 (fun _ => nI (cc + 1))) r u [(1, (x < 0 ∨ 500 < x) ∨ (y < 0 ∨ 9 < y)), (2, (gz z9.1) 63 0 0 0 = 14)]) b9 u9 → rEnd (t + 200) k z9.2 b9.toInt64 u9 := by
  obtain ⟨hgo, ⟨h62, h63, h64⟩, hnw, hso, htab⟩ := id I
  obtain ⟨⟨hrc, hcc, ht, h40, h41, h42⟩, hco⟩ := id hgo.1
  obtain ⟨u9, o9⟩ := z9
  dsimp only at h ⊢
  have e0 : ∀ u, mK σ u → ((x < 0 ∨ 500 < x) ↔ (x < 0 ∨ 500 < x)) := by
    intro u hm
    exact Iff.rfl
  have e1 : ∀ u, mK σ u → ¬ (x < 0 ∨ 500 < x) → ((y < 0 ∨ 9 < y) ↔ (y < 0 ∨ 9 < y)) := by
    intro u hm n0
    exact Iff.rfl
  have e2 : ∀ u, mK σ u → ¬ (x < 0 ∨ 500 < x) → ¬ (y < 0 ∨ 9 < y) → ((14 ≤ σ 41 0 0 0) ↔ ((gz u) 63 0 0 0 = 14)) := by
    intro u hm n0 n1
    rw [mK_gz hm (by decide), h63, h41]
    exact ⟨fun q => by rw [show cc = 14 from Nat.le_antisymm hcc ((nI_leI (a := 14) (by decide) (by omega)).mp q)]; rfl, fun q => by rw [q]; decide⟩
  rcases h with ⟨rfl, r9, ⟨⟨n0, n1, n2, -⟩, h⟩, rfl⟩ | ⟨E9, ⟨rfl, hE⟩, rfl, hk⟩
  · have hN : ∀ u, mK σ u → cN [(1, (x < 0 ∨ 500 < x) ∨ (y < 0 ∨ 9 < y)), (2, (gz u) 63 0 0 0 = 14)] := fun u hm => ⟨(fun q => q.elim (fun q => n0 ((e0 _ hm).mpr q)) (fun q => n1 ((e1 _ hm n0).mpr q))), (fun q => n2 ((e2 _ hm n0 n1).mpr q)), trivial⟩
    have hc4 : cc < 14 := by
      rcases Nat.lt_or_ge cc 14 with q | q
      · exact q
      · exact absurd (by rw [h41]; exact nI_le (a := 14) q (by omega)) n2
    obtain ⟨rfl, rfl⟩ := h
    have sc : ∀ c m n, c ≠ 50 ∧ c ≠ 51 ∧ c ≠ 41 → (fmu (fmu (fmu σ 50 0 cc (fun _ => x)) 51 0 cc (fun _ => y)) 41 0 0 (fun _ => nI (cc + 1))) c m n = σ c m n := fun c m n h => by rw [fmu_c _ _ _ _ _ h.2.2, fmu_c _ _ _ _ _ h.2.1, fmu_c _ _ _ _ _ h.1]
    have s50 : ∀ r, (fmu (fmu (fmu σ 50 0 cc (fun _ => x)) 51 0 cc (fun _ => y)) 41 0 0 (fun _ => nI (cc + 1))) 50 0 r 0 = if r = cc then x else σ 50 0 r 0 := fun r => by
      rw [fmu_c _ _ _ _ _ (by decide), fmu_c _ _ _ _ _ (by decide)]
      by_cases e : r = cc
      · rw [e, fmu_self, if_pos rfl]
      · rw [fmu_ne _ _ _ _ _ (fun q => e q.2.2), if_neg e]
    have s51 : ∀ r, (fmu (fmu (fmu σ 50 0 cc (fun _ => x)) 51 0 cc (fun _ => y)) 41 0 0 (fun _ => nI (cc + 1))) 51 0 r 0 = if r = cc then y else σ 51 0 r 0 := fun r => by
      rw [fmu_c _ _ _ _ _ (by decide)]
      by_cases e : r = cc
      · rw [e, fmu_self, if_pos rfl]
      · rw [fmu_ne _ _ _ _ _ (fun q => e q.2.2), fmu_c _ _ _ _ _ (by decide), if_neg e]
    have s41 : (fmu (fmu (fmu σ 50 0 cc (fun _ => x)) 51 0 cc (fun _ => y)) 41 0 0 (fun _ => nI (cc + 1))) 41 0 0 0 = nI (cc + 1) := by rw [fmu_self]
    have sN : ∀ c k, cc + 1 ≤ k → c ≠ 41 → (fmu (fmu (fmu σ 50 0 cc (fun _ => x)) 51 0 cc (fun _ => y)) 41 0 0 (fun _ => nI (cc + 1))) c 0 k = σ c 0 k := fun c k hk hc => by rw [fmu_c _ _ _ _ _ hc, fmu_ne _ _ _ _ _ (fun q => by have := q.2.2; omega), fmu_ne _ _ _ _ _ (fun q => by have := q.2.2; omega)]
    have hm : mK σ (fmu (fmu (fmu σ 50 0 cc (fun _ => x)) 51 0 cc (fun _ => y)) 41 0 0 (fun _ => nI (cc + 1))) := fun c m k h => sc c m k (by omega)
    refine ⟨hm, fun b9 u9 hu => ?_⟩
    obtain ⟨rfl, rfl⟩ := gres_N (hN _ hm) hu
    have hR := rGo_md hgo hm
    revert sc s50 s51 s41 sN hm hR
    generalize (fmu (fmu (fmu σ 50 0 cc (fun _ => x)) 51 0 cc (fun _ => y)) 41 0 0 (fun _ => nI (cc + 1))) = u
    intro sc s50 s51 s41 sN hm hR
    have tc : ∀ c m n, c ≠ 24 ∧ c ≠ 29 ∧ c ≠ 18 ∧ c ≠ 63 → fmu (fmu (fmu (fmu (gz u) 24 0 0 (upd ((gz u) 24 0 0) cc x)) 29 0 0 (upd ((gz u) 29 0 0) cc (-1))) 18 0 0 (upd ((gz u) 18 0 0) cc y)) 63 0 0 (fun _ => nI (cc + 1)) c m n = gz u c m n := fun c m n h => by rw [fmu_c _ _ _ _ _ h.2.2.2, fmu_c _ _ _ _ _ h.2.2.1, fmu_c _ _ _ _ _ h.2.1, fmu_c _ _ _ _ _ h.1]
    have t24 : ∀ r, fmu (fmu (fmu (fmu (gz u) 24 0 0 (upd ((gz u) 24 0 0) cc x)) 29 0 0 (upd ((gz u) 29 0 0) cc (-1))) 18 0 0 (upd ((gz u) 18 0 0) cc y)) 63 0 0 (fun _ => nI (cc + 1)) 24 0 0 r = if r = cc then x else gz u 24 0 0 r := fun r => by
      rw [fmu_c _ _ _ _ _ (by decide), fmu_c _ _ _ _ _ (by decide), fmu_c _ _ _ _ _ (by decide), fmu_self]
      by_cases e : r = cc
      · rw [e, fm_upd_same, if_pos rfl]
      · rw [fm_upd_ne _ _ e, if_neg e]
    have t29 : ∀ r, fmu (fmu (fmu (fmu (gz u) 24 0 0 (upd ((gz u) 24 0 0) cc x)) 29 0 0 (upd ((gz u) 29 0 0) cc (-1))) 18 0 0 (upd ((gz u) 18 0 0) cc y)) 63 0 0 (fun _ => nI (cc + 1)) 29 0 0 r = if r = cc then -1 else gz u 29 0 0 r := fun r => by
      rw [fmu_c _ _ _ _ _ (by decide), fmu_c _ _ _ _ _ (by decide), fmu_self]
      by_cases e : r = cc
      · rw [e, fm_upd_same, if_pos rfl]
      · rw [fm_upd_ne _ _ e, if_neg e]
    have t18 : ∀ r, fmu (fmu (fmu (fmu (gz u) 24 0 0 (upd ((gz u) 24 0 0) cc x)) 29 0 0 (upd ((gz u) 29 0 0) cc (-1))) 18 0 0 (upd ((gz u) 18 0 0) cc y)) 63 0 0 (fun _ => nI (cc + 1)) 18 0 0 r = if r = cc then y else gz u 18 0 0 r := fun r => by
      rw [fmu_c _ _ _ _ _ (by decide), fmu_self]
      by_cases e : r = cc
      · rw [e, fm_upd_same, if_pos rfl]
      · rw [fm_upd_ne _ _ e, if_neg e]
    have t63 : fmu (fmu (fmu (fmu (gz u) 24 0 0 (upd ((gz u) 24 0 0) cc x)) 29 0 0 (upd ((gz u) 29 0 0) cc (-1))) 18 0 0 (upd ((gz u) 18 0 0) cc y)) 63 0 0 (fun _ => nI (cc + 1)) 63 0 0 0 = nI (cc + 1) := by rw [fmu_self]
    revert tc t24 t29 t18 t63
    generalize fmu (fmu (fmu (fmu (gz u) 24 0 0 (upd ((gz u) 24 0 0) cc x)) 29 0 0 (upd ((gz u) 29 0 0) cc (-1))) 18 0 0 (upd ((gz u) 18 0 0) cc y)) 63 0 0 (fun _ => nI (cc + 1)) = u7
    intro tc t24 t29 t18 t63
    obtain ⟨⟨n52, n53, n54, n55, n56, n57, n58, n59, n60⟩, ng, ⟨n26, n32, n33⟩, np⟩ := hnw.1 cc (Nat.le_refl cc) hc4
    have hgd : fmGood 0 rc (cc + 1) t u := by
      refine ⟨⟨hrc, by omega, ht, by rw [sc _ _ _ (by decide)]; exact h40, s41, by rw [sc _ _ _ (by decide)]; exact h42⟩, fun r hr => ?_, fun k hk hs => ?_⟩
      · obtain ⟨q, v, g1, g2, g3, g4, g5⟩ := hco.1 r hr
        refine ⟨q, v, g1, g2, by rw [sc _ _ _ (by decide)]; exact g3, by rw [sc _ _ _ (by decide)]; exact g4, fun j hj => ?_⟩
        obtain ⟨k, c1, c2, c3, c4, c5⟩ := g5 j hj
        exact ⟨k, by omega, by rw [sc _ _ _ (by decide)]; exact c2, by rw [sc _ _ _ (by decide)]; exact c3, by rw [sc _ _ _ (by decide)]; exact c4, by rw [sc _ _ _ (by decide)]; exact c5⟩
      · rw [sc _ _ _ (by decide)] at hs
        have hk2 : k < cc := by
          rcases Nat.lt_or_ge k cc with q | q
          · exact q
          · rw [show k = cc by omega, n52] at hs
            exact absurd hs (by decide)
        obtain ⟨r, j, v, g1, g2, g3, g4, g5, g6, g7⟩ := hco.2 k hk2 hs
        exact ⟨r, j, v, g1, g2, g3, by rw [sc _ _ _ (by decide)]; exact g4, by rw [sc _ _ _ (by decide)]; exact g5, by rw [sc _ _ _ (by decide)]; exact g6, by rw [sc _ _ _ (by decide)]; exact g7⟩
    have hA : rAll 0 0 rc (cc + 1) u u7 := by
      obtain ⟨hM, hS, hZ, hT, hQ⟩ := hR.2.1
      obtain ⟨z24, z30, z31⟩ := hZ.1 cc (Nat.le_refl cc) hc4
      refine ⟨fun i hi => ?_, fun i hi => ?_, ⟨fun i e1 e2 => ?_, fun i e1 e2 => ?_⟩, ⟨?_, ?_, ?_, ?_⟩, fun r hr => ?_, fun i hi => ⟨?_, fun g hg => ⟨?_, ?_, ?_⟩⟩, fun j hj => ⟨?_, ?_⟩⟩
      · rw [tc 26 _ _ (by decide), tc 27 _ _ (by decide), tc 28 _ _ (by decide), sc 52 _ _ (by decide), sc 53 _ _ (by decide), sc 54 _ _ (by decide)]
        by_cases e : i = cc
        · subst e
          exact ⟨by rw [mK_gz hm (by decide), n26, n52], fun q => by rw [n52] at q; exact absurd q (by decide), fun _ => ⟨n53, n54⟩⟩
        · exact hM i (by omega)
      · rw [t24, tc 25 _ _ (by decide), t29, tc 30 _ _ (by decide), tc 31 _ _ (by decide), tc 32 _ _ (by decide), tc 33 _ _ (by decide), s50, sc 10 _ _ (by decide), sc 55 _ _ (by decide), sc 56 _ _ (by decide), sc 57 _ _ (by decide), sc 59 _ _ (by decide), sc 60 _ _ (by decide)]
        by_cases e : i = cc
        · subst e
          rw [if_pos rfl, if_pos rfl, if_pos rfl]
          exact ⟨rfl, fun g hg => by rw [hZ.2 _ (by omega) (by omega), (ng g hg).1], n55.symm, by rw [z30, n56], by rw [z31, n57], by rw [mK_gz hm (by decide), n32, n59], by rw [mK_gz hm (by decide), n33, n60]⟩
        · rw [if_neg e, if_neg e, if_neg e]
          exact hS i (by omega)
      · rw [t24, if_neg (by omega), tc 30 _ _ (by decide), tc 31 _ _ (by decide)]
        exact hZ.1 i (by omega) e2
      · rw [tc 25 _ _ (by decide)]; exact hZ.2 i (by omega) e2
      · rw [tc 65 _ _ (by decide), sc 43 _ _ (by decide)]; exact hT.1
      · rw [tc 66 _ _ (by decide), sc 44 _ _ (by decide)]; exact hT.2.1
      · rw [sc 45 _ _ (by decide), tc 30 _ _ (by decide)]; exact hT.2.2.1
      · rw [sc 46 _ _ (by decide), tc 31 _ _ (by decide)]; exact hT.2.2.2
      · rw [tc 15 _ _ (by decide), sc 47 _ _ (by decide)]; exact hQ.1 r hr
      · rw [t18, s51]
        by_cases e : i = cc
        · rw [if_pos e, if_pos e]
        · rw [if_neg e, if_neg e]; exact (hQ.2.1 i (by omega)).1
      · rw [tc 19 _ _ (by decide), sc 11 _ _ (by decide)]
        by_cases e : i = cc
        · rw [e, mK_gz hm (by decide), (np g hg).1, (ng g hg).2.1]
        · exact ((hQ.2.1 i (by omega)).2 g hg).1
      · rw [tc 20 _ _ (by decide), sc 12 _ _ (by decide)]
        by_cases e : i = cc
        · rw [e, mK_gz hm (by decide), (np g hg).2.1, (ng g hg).2.2.1]
        · exact ((hQ.2.1 i (by omega)).2 g hg).2.1
      · rw [tc 21 _ _ (by decide), sc 13 _ _ (by decide)]
        by_cases e : i = cc
        · rw [e, mK_gz hm (by decide), (np g hg).2.2, (ng g hg).2.2.2]
        · exact ((hQ.2.1 i (by omega)).2 g hg).2.2
      · rw [tc 16 _ _ (by decide), sc 2 _ _ (by decide)]; exact (hQ.2.2 j hj).1
      · rw [tc 17 _ _ (by decide), sc 3 _ _ (by decide)]; exact (hQ.2.2 j hj).2
    have hgo2 : rGo 0 0 rc (cc + 1) t u u7 := ⟨hgd, hA, fun i hi => by
      rw [sc _ _ _ (by decide)]
      by_cases e : i = cc
      · rw [e]; exact Or.inl n58
      · exact hgo.2.2 i (by omega)⟩
    refine rEnd_0 (rc := rc) (cc := cc + 1) (t' := t) ⟨rGo_cl hgo2 (fun c m k h => by rw [tc _ _ _ (by omega), gz_c (by omega)]), ⟨by rw [tc _ _ _ (by decide), mK_gz hm (by decide)]; exact h62, t63, by rw [tc _ _ _ (by decide), mK_gz hm (by decide)]; exact h64⟩, rNw_of (cc := cc + 1) ⟨fun k hk hk2 => hnw.1 k (by omega) hk2, hnw.2⟩ (fun c k hk h => by rw [tc _ _ _ (by omega), gz_c (by omega), sN c k hk (by omega)]) (fun r hr => by rw [tc _ _ _ (by decide), gz_c (by decide), sc _ _ _ (by decide)]) (fun c k hk h => by rw [tc _ _ _ (by omega), mK_gz hm (by omega)]) (fun c i hi h => by rw [tc _ _ _ (by omega), mK_gz hm (by omega)]), fun k hk => ?_, rTab_kp I (fun j => by rw [tc _ _ _ (by decide), gz_c (by decide), sc _ _ _ (by decide)]) (fun j => by rw [tc _ _ _ (by decide), gz_c (by decide), sc _ _ _ (by decide)])⟩ (by omega) (by rw [tc _ _ _ (by decide), gz_61]) (by rw [updL_0])
    rw [tc _ _ _ (by decide), gz_c (by decide), sc _ _ _ (by decide)]
    by_cases e : k = cc
    · exact ⟨0, Nat.zero_le _, by rw [e, n59]; rfl⟩
    · exact hso k (by omega)
  · refine ⟨mK_refl, fun b9 u9 hu => ?_⟩
    rcases hE with ⟨h0, rfl⟩ | ⟨n0, (⟨h1, rfl⟩ | ⟨n1, (⟨h2, rfl⟩ | ⟨n2, hf⟩)⟩)⟩
    · rcases hk with ⟨-, rfl⟩ | ⟨q, -⟩ | q
      · refine rEnd_x I (by omega) (by decide) (gres_F ?_ hu).2
        exact Or.inl ⟨(Or.inl ((e0 _ mK_refl).mp h0)), rfl⟩
      · exact absurd q (by decide)
      · exact q.elim
    · rcases hk with ⟨-, rfl⟩ | ⟨q, -⟩ | q
      · refine rEnd_x I (by omega) (by decide) (gres_F ?_ hu).2
        exact Or.inl ⟨(Or.inr ((e1 _ mK_refl n0).mp h1)), rfl⟩
      · exact absurd q (by decide)
      · exact q.elim
    · rcases hk with ⟨q, -⟩ | ⟨-, rfl⟩ | q
      · exact absurd q (by decide)
      · refine rEnd_x I (by omega) (by decide) (gres_F ?_ hu).2
        exact Or.inr ⟨(fun q => q.elim (fun q => n0 ((e0 _ mK_refl).mpr q)) (fun q => n1 ((e1 _ mK_refl n0).mpr q))), Or.inl ⟨((e2 _ mK_refl n0 n1).mp h2), rfl⟩⟩
      · exact q.elim
    · exact hf.elim
