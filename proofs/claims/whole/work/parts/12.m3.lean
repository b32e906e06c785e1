set_option maxHeartbeats 4000000 in
set_option maxRecDepth 100000 in
theorem c_X1_drift (l : Launch) (D : va_G) (A : Nat → Prop) (G : fmG) (σ : fmS) (o : Nat → Int64) {a k : Nat} (ha : a < 2) (hb : k < 14) {rc cc t : Nat} (hg : fmGood a rc cc t σ) {r0 v : Nat} (hr : r0 < rc) (hu : σ 48 a r0 0 = nI v) (h0 : 0 < v) (hv : v ≤ 6) (h8 : σ 8 a r0 (v - 1) = nI k) : fmMv l D A G yX1_drift wsX1_drift (fmRm 3 0 0) 0 0 [.ref (G.1 4 a 0), .ref (G.1 9 a k), .int (nI r0)] σ o (fun u => u = fmDrift σ a rc t k r0 v) := by
  refine fmMv_of (cc := cX1_drift) (maxL := 4) (ret := none) (by decide +kernel) rfl (Nat.le_of_ble_eq_true rfl) ?_
  intro P_ E_ S_ M_ args_ below_ meth_ C_ F
  have hin_X0 : ∀ w ∈ wsX00, w ∈ wsX1_drift := (fun _ h => List.mem_cons_of_mem _ (List.mem_append_left _ (List.mem_append_left _ (List.mem_append_right _ h))))
  have hin_X1 : ∀ w ∈ wsX10, w ∈ wsX1_drift := (fun _ h => List.mem_cons_of_mem _ (List.mem_append_left _ (List.mem_append_right _ h)))
  have hin_X2 : ∀ w ∈ wsX20, w ∈ wsX1_drift := (fun _ h => List.mem_cons_of_mem _ (List.mem_append_right _ h))
  obtain ⟨⟨hrc, hcc, ht, h40, h41, h42⟩, hc⟩ := id hg
  have hr4 : r0 < 4 := by omega
  obtain ⟨k2, g1, g2, g3, g4, g5⟩ := fmCoh_row hc hcc hr hu hv (v - 1) (by omega)
  have e9 : k = k2 := fm_nI_inj (h8.symm.trans g2) (by omega) (by omega)
  subst e9
  have u40 : (fmUnf σ a k r0 (v - 1) v 0) 40 a 0 0 = nI rc := by rw [unf_c _ _ _ _ _ _ _ (by decide)]; exact h40
  have u42 : (fmUnf σ a k r0 (v - 1) v 0) 42 a 0 0 = nI t := by rw [unf_c _ _ _ _ _ _ _ (by decide)]; exact h42
  have c1 : fmCoh a rc cc (fmUnf σ a k r0 (v - 1) v 0) := fmCoh_unf hc hrc hcc g1 hr (by omega) hv hu g4 g5 h8 (by decide)
  refine fmV_aload_n (pc := 0) (i := 0) F dX1_drift_0 rfl rfl ?_
  refine fmV_aload_n (pc := 1) (i := 1) F dX1_drift_1 rfl rfl ?_
  refine fmV_iconst (pc := 2) (v := 0) F dX1_drift_2 rfl ?_
  refine fmV_cVi (n := 2) (pc := 3) F (c_X1_unfasten l D A G σ o ha hb (p := v - 1) hr4 hv (by omega) g3 g4 g5 hu (fun j h1 h2 => absurd h1 (by omega)) 0) gX1_drift_X1_unfasten rfl rfl rfl (by decide +kernel) ⟨Nat.le_of_ble_eq_true rfl, Nat.le_of_ble_eq_true rfl⟩ (fmR_4 F (by assumption)) rfl rfl (Nat.le_of_ble_eq_true rfl) dX1_drift_3 ⟨Nat.le_of_ble_eq_true rfl, Nat.le_of_ble_eq_true rfl⟩ (fun r2 u1 hc3 => ?_)
  obtain ⟨hr9, hu9⟩ := hc3
  have hr9 := hr9.symm
  have hu9 := hu9.symm
  subst hr9
  subst hu9
  refine fmV_pop (pc := 6) F dX1_drift_6 rfl ?_
  refine fmV_aload_n (pc := 7) (i := 0) F dX1_drift_7 rfl rfl ?_
  refine fmV_iload_n (pc := 8) (i := 2) F dX1_drift_8 rfl rfl ?_
  refine fmV_cVi (n := 1) (pc := 9) F (c_X1_nextRowNotFull l D A G (fmUnf σ a k r0 (v - 1) v 0) o ha hrc hr u40) gX1_drift_X1_nextRowNotFull rfl rfl rfl (by decide +kernel) ⟨Nat.le_of_ble_eq_true rfl, Nat.le_of_ble_eq_true rfl⟩ (fmR_4 F (by assumption)) rfl rfl (Nat.le_of_ble_eq_true rfl) dX1_drift_9 ⟨Nat.le_of_ble_eq_true rfl, Nat.le_of_ble_eq_true rfl⟩ (fun r5 u4 hc6 => ?_)
  obtain ⟨hr9, hu9⟩ := hc6
  have hr9 := hr9.symm
  have hu9 := hu9.symm
  subst hr9
  subst hu9
  refine fmV_istore_n (pc := 12) (i := 3) F dX1_drift_12 rfl (by decide) ?_
  refine fmV_iload_n (pc := 13) (i := 3) F dX1_drift_13 rfl rfl ?_
  refine fmV_iconst (pc := 14) (v := (-1)) F dX1_drift_14 rfl ?_
  refine fmV_icmp_eq (pc := 15) (tgt := 24) F dX1_drift_15 (by decide) (fun h1 => ?_) (fun h1 => ?_)
  · refine fmV_aload_n (pc := 24) (i := 1) F dX1_drift_24 rfl rfl ?_
    refine fmV_dup (pc := 25) F dX1_drift_25 rfl ?_
    refine fmg_9_drifted (pc := 26) F (by assumption) (by assumption) hin_X0 dX1_drift_26 (List.mem_of_getElem? (i := 1) rfl) ?_
    refine fmV_iconst (pc := 29) (v := 1) F dX1_drift_29 rfl ?_
    refine fmV_iadd (pc := 30) F dX1_drift_30 ?_
    refine fmp_9_drifted (pc := 31) F (by assumption) (by assumption) hin_X0 dX1_drift_31 (List.mem_of_getElem? (i := 1) rfl) ?_
    refine fmV_aload_n (pc := 34) (i := 0) F dX1_drift_34 rfl rfl ?_
    refine fmV_dup (pc := 35) F dX1_drift_35 rfl ?_
    refine fmg_4_drifted (pc := 36) F (by assumption) hin_X1 dX1_drift_36 (List.mem_of_getElem? (i := 2) rfl) ?_
    rw [fmu_c _ _ _ _ _ (by decide)]
    refine fmV_iconst (pc := 39) (v := 1) F dX1_drift_39 rfl ?_
    refine fmV_iadd (pc := 40) F dX1_drift_40 ?_
    refine fmp_4_drifted (pc := 41) F (by assumption) hin_X1 dX1_drift_41 (List.mem_of_getElem? (i := 2) rfl) ?_
    refine fmV_aload_n (pc := 44) (i := 1) F dX1_drift_44 rfl rfl ?_
    refine fmV_aload_n (pc := 45) (i := 0) F dX1_drift_45 rfl rfl ?_
    refine fmg_4_step (pc := 46) F (by assumption) hin_X1 dX1_drift_46 (List.mem_of_getElem? (i := 3) rfl) ?_
    rw [fmu_c _ _ _ _ _ (by decide), fmu_c _ _ _ _ _ (by decide)]
    first
      | rw [u42]
      | rw [f42]
    refine fmp_9_lastDriftStep (pc := 49) F (by assumption) (by assumption) hin_X0 dX1_drift_49 (List.mem_of_getElem? (i := 4) rfl) ?_
    exact fmV_vret (pc := 52) F dX1_drift_52 rfl (by rw [fmDrift, fmDr2, if_pos h1]; rfl)
  · obtain ⟨r2, q1, q2, q3⟩ := (fmNx_or (fmUnf σ a k r0 (v - 1) v 0) a rc r0 (by omega) (rc - 1) 1).resolve_left h1
    obtain ⟨q9, v9, f1, f2, f3, f4, f5⟩ := c1.1 r2 q1
    have hvq := fm_lt_of f4 f3 q3 (by omega) (by omega)
    have f42 : fmFast (fmUnf σ a k r0 (v - 1) v 0) a k r2 v9 42 a 0 0 = nI t := by rw [fast_c _ _ _ _ _ (by decide)]; exact u42
    refine fmV_aload_n (pc := 18) (i := 0) F dX1_drift_18 rfl rfl ?_
    refine fmV_aload_n (pc := 19) (i := 1) F dX1_drift_19 rfl rfl ?_
    refine fmV_iload_n (pc := 20) (i := 3) F dX1_drift_20 rfl rfl ?_
    rw [q2]
    refine fmV_cVv (n := 2) (pc := 21) F (c_X1_fasten l D A G (fmUnf σ a k r0 (v - 1) v 0) o ha hb (r := r2) (by omega) f1 hvq f4 f3) gX1_drift_X1_fasten rfl rfl rfl (by decide +kernel) ⟨Nat.le_of_ble_eq_true rfl, Nat.le_of_ble_eq_true rfl⟩ (fmR_4 F (by assumption)) rfl rfl (Nat.le_of_ble_eq_true rfl) dX1_drift_21 ⟨Nat.le_of_ble_eq_true rfl, Nat.le_of_ble_eq_true rfl⟩ (fun u7 hc9 => ?_)
    have hc9 := hc9.symm
    subst hc9
    refine fmV_aload_n (pc := 24) (i := 1) F dX1_drift_24 rfl rfl ?_
    refine fmV_dup (pc := 25) F dX1_drift_25 rfl ?_
    refine fmg_9_drifted (pc := 26) F (by assumption) (by assumption) hin_X0 dX1_drift_26 (List.mem_of_getElem? (i := 1) rfl) ?_
    refine fmV_iconst (pc := 29) (v := 1) F dX1_drift_29 rfl ?_
    refine fmV_iadd (pc := 30) F dX1_drift_30 ?_
    refine fmp_9_drifted (pc := 31) F (by assumption) (by assumption) hin_X0 dX1_drift_31 (List.mem_of_getElem? (i := 1) rfl) ?_
    refine fmV_aload_n (pc := 34) (i := 0) F dX1_drift_34 rfl rfl ?_
    refine fmV_dup (pc := 35) F dX1_drift_35 rfl ?_
    refine fmg_4_drifted (pc := 36) F (by assumption) hin_X1 dX1_drift_36 (List.mem_of_getElem? (i := 2) rfl) ?_
    rw [fmu_c _ _ _ _ _ (by decide)]
    refine fmV_iconst (pc := 39) (v := 1) F dX1_drift_39 rfl ?_
    refine fmV_iadd (pc := 40) F dX1_drift_40 ?_
    refine fmp_4_drifted (pc := 41) F (by assumption) hin_X1 dX1_drift_41 (List.mem_of_getElem? (i := 2) rfl) ?_
    refine fmV_aload_n (pc := 44) (i := 1) F dX1_drift_44 rfl rfl ?_
    refine fmV_aload_n (pc := 45) (i := 0) F dX1_drift_45 rfl rfl ?_
    refine fmg_4_step (pc := 46) F (by assumption) hin_X1 dX1_drift_46 (List.mem_of_getElem? (i := 3) rfl) ?_
    rw [fmu_c _ _ _ _ _ (by decide), fmu_c _ _ _ _ _ (by decide)]
    first
      | rw [u42]
      | rw [f42]
    refine fmp_9_lastDriftStep (pc := 49) F (by assumption) (by assumption) hin_X0 dX1_drift_49 (List.mem_of_getElem? (i := 4) rfl) ?_
    exact fmV_vret (pc := 52) F dX1_drift_52 rfl (by rw [fmDrift, fmDr2, if_neg h1, q2, fm_cn (by omega), fm_cl f4 (by omega)]; rfl)

set_option maxHeartbeats 4000000 in
set_option maxRecDepth 100000 in
theorem c_X1_driftByRows (l : Launch) (D : va_G) (A : Nat → Prop) (G : fmG) (σ : fmS) (o : Nat → Int64) {a : Nat} (ha : a < 2) {rc cc t : Nat} (hg : fmGood a rc cc t σ) : fmMv l D A G yX1_driftByRows wsX1_driftByRows (fmRm 4 0 0) 0 0 [.ref (G.1 4 a 0)] σ o (fun u => u = fmIt (fmDR a rc t (σ 3 0 0 (t % 24))) σ rc) := by
  refine fmMv_of (cc := cX1_driftByRows) (maxL := 4) (ret := none) (by decide +kernel) rfl (Nat.le_of_ble_eq_true rfl) ?_
  intro P_ E_ S_ M_ args_ below_ meth_ C_ F
  have hin_X1 : ∀ w ∈ wsX10, w ∈ wsX1_driftByRows := (fun _ h => List.mem_cons_of_mem _ (List.mem_append_left _ (List.mem_append_left _ (List.mem_append_left _ (List.mem_append_right _ h)))))
  have hin_X2 : ∀ w ∈ wsX20, w ∈ wsX1_driftByRows := (fun _ h => List.mem_cons_of_mem _ (List.mem_append_left _ (List.mem_append_left _ (List.mem_append_right _ h))))
  have hin_X0 : ∀ w ∈ wsX00, w ∈ wsX1_driftByRows := (fun _ h => List.mem_cons_of_mem _ (List.mem_append_left _ (List.mem_append_right _ h)))
  have hin_X3 : ∀ w ∈ wsX30, w ∈ wsX1_driftByRows := (fun _ h => List.mem_cons_of_mem _ (List.mem_append_right _ h))
  obtain ⟨⟨hrc, hcc, ht, h40, h41, h42⟩, hc⟩ := id hg
  have hgood : ∀ n, n ≤ rc → fmGood a rc cc t (fmIt (fmDR a rc t (σ 3 0 0 (t % 24))) σ n) := good_it (fun i τ hi hg => good_DR hg hi) hg
  refine fmV_aload_n (pc := 0) (i := 0) F dX1_driftByRows_0 rfl rfl ?_
  refine fmg_4_water (pc := 1) F (by assumption) hin_X1 dX1_driftByRows_1 (List.mem_of_getElem? (i := 1) rfl) ?_
  refine fmV_aload_n (pc := 4) (i := 0) F dX1_driftByRows_4 rfl rfl ?_
  refine fmg_4_step (pc := 5) F (by assumption) hin_X1 dX1_driftByRows_5 (List.mem_of_getElem? (i := 2) rfl) ?_
  rw [h42]
  refine fmV_cVi (n := 1) (pc := 8) F (c_X3_wakeIn l D A G σ o (t := t) (by omega)) gX1_driftByRows_X3_wakeIn rfl rfl rfl (by decide +kernel) ⟨Nat.le_of_ble_eq_true rfl, Nat.le_of_ble_eq_true rfl⟩ (fmR_1 F ) rfl rfl (Nat.le_of_ble_eq_true rfl) dX1_driftByRows_8 ⟨Nat.le_of_ble_eq_true rfl, Nat.le_of_ble_eq_true rfl⟩ (fun r2 u1 hc3 => ?_)
  obtain ⟨hr9, hu9⟩ := hc3
  have hr9 := hr9.symm
  have hu9 := hu9.symm
  subst hr9
  subst hu9
  refine fmV_istore_n (pc := 11) (i := 1) F dX1_driftByRows_11 rfl (by decide) ?_
  refine fmV_iconst (pc := 12) (v := 0) F dX1_driftByRows_12 rfl ?_
  refine fmV_istore_n (pc := 13) (i := 2) F dX1_driftByRows_13 rfl (by decide) ?_
  refine fmV_lv (lv' := [(0, .ref (G.1 4 a 0)), (1, .int (σ 3 0 0 (t % 24))), (2, .int (nI 0))]) ⟨rfl, rfl, rfl, trivial⟩ ?_
  refine fmV_up (N := rc) (pc := 14) (σf := fun j => (fmIt (fmDR a rc t (σ 3 0 0 (t % 24))) σ j)) (lvf := fun j => [(0, .ref (G.1 4 a 0)), (1, .int (σ 3 0 0 (t % 24))), (2, .int (nI j))]) 0 (Nat.zero_le _) ?_ ?_
  · have hj40 := (hgood rc (Nat.le_refl _)).1.2.2.2.1
    refine fmV_iload_n (pc := 14) (i := 2) F dX1_driftByRows_14 rfl rfl ?_
    refine fmV_aload_n (pc := 15) (i := 0) F dX1_driftByRows_15 rfl rfl ?_
    refine fmg_4_rowCount (pc := 16) F (by assumption) hin_X1 dX1_driftByRows_16 (List.mem_of_getElem? (i := 3) rfl) ?_
    refine fmV_icmp_ge (pc := 19) (tgt := 74) F dX1_driftByRows_19 (by decide) (fun h1 => ?_) (fun h1 => ?_)
    · exact fmV_vret (pc := 74) F dX1_driftByRows_74 rfl rfl
    · rw [hj40] at h1
      exact absurd (nI_le (Nat.le_refl rc) (by omega)) h1
  · intro j hj ih
    have hgj := hgood j (by omega)
    have hgc := hgj.2
    have hj4 : j < 4 := by omega
    have hj40 := hgj.1.2.2.2.1
    have hj42 := hgj.1.2.2.2.2.2
    obtain ⟨q, v, h1, h2, h3, h4, h5⟩ := hgc.1 j hj
    have hclv : ((fmIt (fmDR a rc t (σ 3 0 0 (t % 24))) σ j) 48 a j 0).toNatClampNeg = v := fm_cl h4 (by omega)
    rcases Nat.eq_zero_or_pos v with hv0 | hv0
    · subst hv0
      have hat : fmAt (fmIt (fmDR a rc t (σ 3 0 0 (t % 24))) σ j) a rc (nI j) ((fmIt (fmDR a rc t (σ 3 0 0 (t % 24))) σ j) 48 a j 0 - 1) = none := fmAt_top0 _ (by rw [h4]; decide)
      refine fmV_iload_n (pc := 14) (i := 2) F dX1_driftByRows_14 rfl rfl ?_
      refine fmV_aload_n (pc := 15) (i := 0) F dX1_driftByRows_15 rfl rfl ?_
      refine fmg_4_rowCount (pc := 16) F (by assumption) hin_X1 dX1_driftByRows_16 (List.mem_of_getElem? (i := 3) rfl) ?_
      refine fmV_icmp_ge (pc := 19) (tgt := 74) F dX1_driftByRows_19 (by decide) (fun h1 => ?_) (fun h1 => ?_)
      · rw [hj40] at h1
        exact absurd h1 (nI_ge hj (by omega))
      · refine fmV_aload_n (pc := 22) (i := 0) F dX1_driftByRows_22 rfl rfl ?_
        refine fmV_iload_n (pc := 23) (i := 2) F dX1_driftByRows_23 rfl rfl ?_
        refine fmV_aload_n (pc := 24) (i := 0) F dX1_driftByRows_24 rfl rfl ?_
        refine fmg_4_rows (pc := 25) F (by assumption) hin_X1 dX1_driftByRows_25 (List.mem_of_getElem? (i := 4) rfl) ?_
        refine fmV_iload_n (pc := 28) (i := 2) F dX1_driftByRows_28 rfl rfl ?_
        refine fmV_ald_rows (pc := 29) F (by assumption) dX1_driftByRows_29 (vp_in_nI (by omega) (by decide)) (fm_cn (by omega)) ?_
        refine fmg_7_used (pc := 30) F (by assumption) (by assumption) hin_X2 dX1_driftByRows_30 (List.mem_of_getElem? (i := 5) rfl) ?_
        refine fmV_iconst (pc := 33) (v := 1) F dX1_driftByRows_33 rfl ?_
        refine fmV_isub (pc := 34) F dX1_driftByRows_34 ?_
        refine fmV_cVq (n := 2) (pc := 35) F (c_X1_canoeAt l D A G (fmIt (fmDR a rc t (σ 3 0 0 (t % 24))) σ j) o ha hrc hj40 (fmCoh_bd hcc hgc) (nI j) ((fmIt (fmDR a rc t (σ 3 0 0 (t % 24))) σ j) 48 a j 0 - 1)) gX1_driftByRows_X1_canoeAt rfl rfl rfl (by decide +kernel) ⟨Nat.le_of_ble_eq_true rfl, Nat.le_of_ble_eq_true rfl⟩ (fmR_4 F (by assumption)) rfl rfl (Nat.le_of_ble_eq_true rfl) dX1_driftByRows_35 ⟨Nat.le_of_ble_eq_true rfl, Nat.le_of_ble_eq_true rfl⟩ (fun r5 u4 hc6 => ?_)
        obtain ⟨hr9, hu9⟩ := hc6
        have hr9 := hr9.symm
        have hu9 := hu9.symm
        subst hr9
        subst hu9
        rw [hat, show va_rf (fmRef G a none) = .null from rfl]
        refine fmV_astore_nN (pc := 38) (i := 3) F dX1_driftByRows_38 rfl (by decide) ?_
        refine fmV_aload_nN (pc := 39) (i := 3) F dX1_driftByRows_39 rfl rfl ?_
        refine fmV_ifnullN (pc := 40) (tgt := 68) F dX1_driftByRows_40 (by decide) ?_
        refine fmV_sg (σ1 := (fmIt (fmDR a rc t (σ 3 0 0 (t % 24))) σ (j + 1))) (by rw [fmIt, fmDR, hclv, if_pos rfl]) ?_
        refine fmV_iinc (pc := 68) (i := 2) F dX1_driftByRows_68 rfl rfl (by decide) ?_
        refine fmV_goto (pc := 71) (tgt := 14) F dX1_driftByRows_71 (by decide) ?_
        refine fmV_lv ?_ ih
        exact ⟨rfl, rfl, by rw [nI_succ j]; rfl, trivial⟩
    · obtain ⟨k, g1, g2, g3, g4, g5⟩ := h5 (v - 1) (by omega)
      have hclk : ((fmIt (fmDR a rc t (σ 3 0 0 (t % 24))) σ j) 8 a j (v - 1)).toNatClampNeg = k := fm_cl g2 (by omega)
      have hk14 : k < 14 := by omega
      have hat : fmAt (fmIt (fmDR a rc t (σ 3 0 0 (t % 24))) σ j) a rc (nI j) ((fmIt (fmDR a rc t (σ 3 0 0 (t % 24))) σ j) 48 a j 0 - 1) = some k := by rw [h4, show nI v - 1 = nI (v - 1) by rw [show nI v = nI (v - 1 + 1) by rw [Nat.sub_add_cancel hv0]]; exact nI_pred _]; exact fmAt_is hrc hj h4 (by omega) (by omega) g2 (by omega)
      refine fmV_iload_n (pc := 14) (i := 2) F dX1_driftByRows_14 rfl rfl ?_
      refine fmV_aload_n (pc := 15) (i := 0) F dX1_driftByRows_15 rfl rfl ?_
      refine fmg_4_rowCount (pc := 16) F (by assumption) hin_X1 dX1_driftByRows_16 (List.mem_of_getElem? (i := 3) rfl) ?_
      refine fmV_icmp_ge (pc := 19) (tgt := 74) F dX1_driftByRows_19 (by decide) (fun h1 => ?_) (fun h1 => ?_)
      · rw [hj40] at h1
        exact absurd h1 (nI_ge hj (by omega))
      · refine fmV_aload_n (pc := 22) (i := 0) F dX1_driftByRows_22 rfl rfl ?_
        refine fmV_iload_n (pc := 23) (i := 2) F dX1_driftByRows_23 rfl rfl ?_
        refine fmV_aload_n (pc := 24) (i := 0) F dX1_driftByRows_24 rfl rfl ?_
        refine fmg_4_rows (pc := 25) F (by assumption) hin_X1 dX1_driftByRows_25 (List.mem_of_getElem? (i := 4) rfl) ?_
        refine fmV_iload_n (pc := 28) (i := 2) F dX1_driftByRows_28 rfl rfl ?_
        refine fmV_ald_rows (pc := 29) F (by assumption) dX1_driftByRows_29 (vp_in_nI (by omega) (by decide)) (fm_cn (by omega)) ?_
        refine fmg_7_used (pc := 30) F (by assumption) (by assumption) hin_X2 dX1_driftByRows_30 (List.mem_of_getElem? (i := 5) rfl) ?_
        refine fmV_iconst (pc := 33) (v := 1) F dX1_driftByRows_33 rfl ?_
        refine fmV_isub (pc := 34) F dX1_driftByRows_34 ?_
        refine fmV_cVq (n := 2) (pc := 35) F (c_X1_canoeAt l D A G (fmIt (fmDR a rc t (σ 3 0 0 (t % 24))) σ j) o ha hrc hj40 (fmCoh_bd hcc hgc) (nI j) ((fmIt (fmDR a rc t (σ 3 0 0 (t % 24))) σ j) 48 a j 0 - 1)) gX1_driftByRows_X1_canoeAt rfl rfl rfl (by decide +kernel) ⟨Nat.le_of_ble_eq_true rfl, Nat.le_of_ble_eq_true rfl⟩ (fmR_4 F (by assumption)) rfl rfl (Nat.le_of_ble_eq_true rfl) dX1_driftByRows_35 ⟨Nat.le_of_ble_eq_true rfl, Nat.le_of_ble_eq_true rfl⟩ (fun r8 u7 hc9 => ?_)
        obtain ⟨hr9, hu9⟩ := hc9
        have hr9 := hr9.symm
        have hu9 := hu9.symm
        subst hr9
        subst hu9
        rw [hat, show va_rf (fmRef G a (some k)) = .ref (G.1 9 a k) from rfl]
        refine fmV_astore_n (pc := 38) (i := 3) F dX1_driftByRows_38 rfl (by decide) ?_
        refine fmV_aload_n (pc := 39) (i := 3) F dX1_driftByRows_39 rfl rfl ?_
        refine fmV_ifnull (pc := 40)  F dX1_driftByRows_40  ?_
        refine fmV_aload_n (pc := 43) (i := 3) F dX1_driftByRows_43 rfl rfl ?_
        refine fmg_9_rope (pc := 44) F (by assumption) (by assumption) hin_X0 dX1_driftByRows_44 (List.mem_of_getElem? (i := 6) rfl) ?_
        refine fmV_iload_n (pc := 47) (i := 1) F dX1_driftByRows_47 rfl rfl ?_
        refine fmV_icmp_ge (pc := 48) (tgt := 68) F dX1_driftByRows_48 (by decide) (fun h2 => ?_) (fun h2 => ?_)
        · refine fmV_sg (σ1 := (fmIt (fmDR a rc t (σ 3 0 0 (t % 24))) σ (j + 1))) (by rw [fmIt, fmDR, hclv, if_neg (by omega), hclk, if_neg (fun q => Int32.not_lt.mpr h2 q.1)]) ?_
          refine fmV_iinc (pc := 68) (i := 2) F dX1_driftByRows_68 rfl rfl (by decide) ?_
          refine fmV_goto (pc := 71) (tgt := 14) F dX1_driftByRows_71 (by decide) ?_
          refine fmV_lv ?_ ih
          exact ⟨rfl, rfl, by rw [nI_succ j]; rfl, trivial⟩
        · refine fmV_aload_n (pc := 51) (i := 3) F dX1_driftByRows_51 rfl rfl ?_
          refine fmg_9_lastDriftStep (pc := 52) F (by assumption) (by assumption) hin_X0 dX1_driftByRows_52 (List.mem_of_getElem? (i := 7) rfl) ?_
          refine fmV_aload_n (pc := 55) (i := 0) F dX1_driftByRows_55 rfl rfl ?_
          refine fmg_4_step (pc := 56) F (by assumption) hin_X1 dX1_driftByRows_56 (List.mem_of_getElem? (i := 2) rfl) ?_
          refine fmV_icmp_eq (pc := 59) (tgt := 68) F dX1_driftByRows_59 (by decide) (fun h3 => ?_) (fun h3 => ?_)
          · refine fmV_sg (σ1 := (fmIt (fmDR a rc t (σ 3 0 0 (t % 24))) σ (j + 1))) (by rw [fmIt, fmDR, hclv, if_neg (by omega), hclk, if_neg (fun q => q.2 (h3.trans hj42))]) ?_
            refine fmV_iinc (pc := 68) (i := 2) F dX1_driftByRows_68 rfl rfl (by decide) ?_
            refine fmV_goto (pc := 71) (tgt := 14) F dX1_driftByRows_71 (by decide) ?_
            refine fmV_lv ?_ ih
            exact ⟨rfl, rfl, by rw [nI_succ j]; rfl, trivial⟩
          · refine fmV_aload_n (pc := 62) (i := 0) F dX1_driftByRows_62 rfl rfl ?_
            refine fmV_aload_n (pc := 63) (i := 3) F dX1_driftByRows_63 rfl rfl ?_
            refine fmV_iload_n (pc := 64) (i := 2) F dX1_driftByRows_64 rfl rfl ?_
            refine fmV_cVv (n := 2) (pc := 65) F (c_X1_drift l D A G (fmIt (fmDR a rc t (σ 3 0 0 (t % 24))) σ j) o ha (by omega) hgj hj h4 hv0 (by omega) g2) gX1_driftByRows_X1_drift rfl rfl rfl (by decide +kernel) ⟨Nat.le_of_ble_eq_true rfl, Nat.le_of_ble_eq_true rfl⟩ (fmR_4 F (by assumption)) rfl rfl (Nat.le_of_ble_eq_true rfl) dX1_driftByRows_65 ⟨Nat.le_of_ble_eq_true rfl, Nat.le_of_ble_eq_true rfl⟩ (fun u10 hc12 => ?_)
            have hc12 := hc12.symm
            subst hc12
            refine fmV_sg (σ1 := (fmIt (fmDR a rc t (σ 3 0 0 (t % 24))) σ (j + 1))) (by rw [fmIt, fmDR, hclv, if_neg (by omega), hclk, if_pos ⟨Int32.not_le.mp h2, fun q => h3 (q.trans hj42.symm)⟩]) ?_
            refine fmV_iinc (pc := 68) (i := 2) F dX1_driftByRows_68 rfl rfl (by decide) ?_
            refine fmV_goto (pc := 71) (tgt := 14) F dX1_driftByRows_71 (by decide) ?_
            refine fmV_lv ?_ ih
            exact ⟨rfl, rfl, by rw [nI_succ j]; rfl, trivial⟩

set_option maxHeartbeats 4000000 in
set_option maxRecDepth 100000 in
theorem c_X1_leaveByNumbers (l : Launch) (D : va_G) (A : Nat → Prop) (G : fmG) (σ : fmS) (o : Nat → Int64) {a : Nat} (ha : a < 2) {rc cc t : Nat} (hg : fmGood a rc cc t σ) : fmMv l D A G yX1_leaveByNumbers wsX1_leaveByNumbers (fmRm 3 0 0) 0 0 [.ref (G.1 4 a 0)] σ o (fun u => u = fmIt (fmLv a t) σ cc) := by
  refine fmMv_of (cc := cX1_leaveByNumbers) (maxL := 3) (ret := none) (by decide +kernel) rfl (Nat.le_of_ble_eq_true rfl) ?_
  intro P_ E_ S_ M_ args_ below_ meth_ C_ F
  have hin_X1 : ∀ w ∈ wsX10, w ∈ wsX1_leaveByNumbers := (fun _ h => List.mem_cons_of_mem _ (List.mem_append_left _ (List.mem_append_left _ (List.mem_append_left _ (List.mem_append_right _ h)))))
  have hin_X0 : ∀ w ∈ wsX00, w ∈ wsX1_leaveByNumbers := (fun _ h => List.mem_cons_of_mem _ (List.mem_append_left _ (List.mem_append_left _ (List.mem_append_right _ h))))
  have hin_X3 : ∀ w ∈ wsX30, w ∈ wsX1_leaveByNumbers := (fun _ h => List.mem_cons_of_mem _ (List.mem_append_left _ (List.mem_append_right _ h)))
  have hin_X2 : ∀ w ∈ wsX20, w ∈ wsX1_leaveByNumbers := (fun _ h => List.mem_cons_of_mem _ (List.mem_append_right _ h))
  obtain ⟨⟨hrc, hcc, ht, h40, h41, h42⟩, hc⟩ := id hg
  have hgood : ∀ n, n ≤ cc → fmGood a rc cc t (fmIt (fmLv a t) σ n) := good_it (fun i τ hi hg => good_Lv hg hi) hg
  refine fmV_iconst (pc := 0) (v := 0) F dX1_leaveByNumbers_0 rfl ?_
  refine fmV_istore_n (pc := 1) (i := 1) F dX1_leaveByNumbers_1 rfl (by decide) ?_
  refine fmV_lv (lv' := [(0, .ref (G.1 4 a 0)), (1, .int (nI 0))]) ⟨rfl, rfl, trivial⟩ ?_
  refine fmV_up (N := cc) (pc := 2) (σf := fun j => (fmIt (fmLv a t) σ j)) (lvf := fun j => [(0, .ref (G.1 4 a 0)), (1, .int (nI j))]) 0 (Nat.zero_le _) ?_ ?_
  · have hj41 := (hgood cc (Nat.le_refl _)).1.2.2.2.2.1
    refine fmV_iload_n (pc := 2) (i := 1) F dX1_leaveByNumbers_2 rfl rfl ?_
    refine fmV_aload_n (pc := 3) (i := 0) F dX1_leaveByNumbers_3 rfl rfl ?_
    refine fmg_4_canoeCount (pc := 4) F (by assumption) hin_X1 dX1_leaveByNumbers_4 (List.mem_of_getElem? (i := 1) rfl) ?_
    refine fmV_icmp_ge (pc := 7) (tgt := 57) F dX1_leaveByNumbers_7 (by decide) (fun h1 => ?_) (fun h1 => ?_)
    · exact fmV_vret (pc := 57) F dX1_leaveByNumbers_57 rfl rfl
    · rw [hj41] at h1
      exact absurd (nI_le (Nat.le_refl cc) (by omega)) h1
  · intro j hj ih
    have hgj := hgood j (by omega)
    have hgc := hgj.2
    have hj41 := hgj.1.2.2.2.2.1
    have hj42 := hgj.1.2.2.2.2.2
    have hj14 : j < 14 := by omega
    refine fmV_iload_n (pc := 2) (i := 1) F dX1_leaveByNumbers_2 rfl rfl ?_
    refine fmV_aload_n (pc := 3) (i := 0) F dX1_leaveByNumbers_3 rfl rfl ?_
    refine fmg_4_canoeCount (pc := 4) F (by assumption) hin_X1 dX1_leaveByNumbers_4 (List.mem_of_getElem? (i := 1) rfl) ?_
    refine fmV_icmp_ge (pc := 7) (tgt := 57) F dX1_leaveByNumbers_7 (by decide) (fun h1 => ?_) (fun h1 => ?_)
    · rw [hj41] at h1
      exact absurd h1 (nI_ge hj (by omega))
    · refine fmV_aload_n (pc := 10) (i := 0) F dX1_leaveByNumbers_10 rfl rfl ?_
      refine fmg_4_canoes (pc := 11) F (by assumption) hin_X1 dX1_leaveByNumbers_11 (List.mem_of_getElem? (i := 2) rfl) ?_
      refine fmV_iload_n (pc := 14) (i := 1) F dX1_leaveByNumbers_14 rfl rfl ?_
      refine fmV_ald_canoes (pc := 15) F (by assumption) dX1_leaveByNumbers_15 (vp_in_nI (by omega) (by decide)) (fm_cn (by omega)) ?_
      refine fmV_astore_n (pc := 16) (i := 2) F dX1_leaveByNumbers_16 rfl (by decide) ?_
      refine fmV_aload_n (pc := 17) (i := 2) F dX1_leaveByNumbers_17 rfl rfl ?_
      refine fmg_9_status (pc := 18) F (by assumption) (by assumption) hin_X0 dX1_leaveByNumbers_18 (List.mem_of_getElem? (i := 3) rfl) ?_
      refine fmV_iconst (pc := 21) (v := 1) F dX1_leaveByNumbers_21 rfl ?_
      refine fmV_icmp_ne (pc := 22) (tgt := 51) F dX1_leaveByNumbers_22 (by decide) (fun h2 => ?_) (fun h2 => ?_)
      · refine fmV_sg (σ1 := (fmIt (fmLv a t) σ (j + 1))) (by rw [fmIt, fmLv, if_neg (fun q => h2 q.1)]) ?_
        refine fmV_iinc (pc := 51) (i := 1) F dX1_leaveByNumbers_51 rfl rfl (by decide) ?_
        refine fmV_goto (pc := 54) (tgt := 2) F dX1_leaveByNumbers_54 (by decide) ?_
        refine fmV_lv ?_ ih
        exact ⟨rfl, by rw [nI_succ j]; rfl, trivial⟩
      · refine fmV_aload_n (pc := 25) (i := 2) F dX1_leaveByNumbers_25 rfl rfl ?_
        refine fmV_aload_n (pc := 26) (i := 0) F dX1_leaveByNumbers_26 rfl rfl ?_
        refine fmg_4_step (pc := 27) F (by assumption) hin_X1 dX1_leaveByNumbers_27 (List.mem_of_getElem? (i := 4) rfl) ?_
        rw [hj42]
        refine fmV_cVi (n := 1) (pc := 30) F (c_X0_isToLeaveBy l D A G (fmIt (fmLv a t) σ j) o ha (by omega) (nI t)) gX1_leaveByNumbers_X0_isToLeaveBy rfl rfl rfl (by decide +kernel) ⟨Nat.le_of_ble_eq_true rfl, Nat.le_of_ble_eq_true rfl⟩ (fmR_9 F (by assumption) (by assumption)) rfl rfl (Nat.le_of_ble_eq_true rfl) dX1_leaveByNumbers_30 ⟨Nat.le_of_ble_eq_true rfl, Nat.le_of_ble_eq_true rfl⟩ (fun r2 u1 hc3 => ?_)
        obtain ⟨hr9, hu9⟩ := hc3
        have hr9 := hr9.symm
        have hu9 := hu9.symm
        subst hr9
        subst hu9
        refine fmV_if_eq (pc := 33) (tgt := 51) F dX1_leaveByNumbers_33 (by decide) (fun h3 => ?_) (fun h3 => ?_)
        · refine fmV_sg (σ1 := (fmIt (fmLv a t) σ (j + 1))) (by rw [fmIt, fmLv, if_neg (fun q => by rw [if_pos q.2.1] at h3; exact absurd h3 (by decide))]) ?_
          refine fmV_iinc (pc := 51) (i := 1) F dX1_leaveByNumbers_51 rfl rfl (by decide) ?_
          refine fmV_goto (pc := 54) (tgt := 2) F dX1_leaveByNumbers_54 (by decide) ?_
          refine fmV_lv ?_ ih
          exact ⟨rfl, by rw [nI_succ j]; rfl, trivial⟩
        · refine fmV_aload_n (pc := 36) (i := 0) F dX1_leaveByNumbers_36 rfl rfl ?_
          refine fmV_aload_n (pc := 37) (i := 2) F dX1_leaveByNumbers_37 rfl rfl ?_
          refine fmV_cVi (n := 1) (pc := 38) F (c_X1_liesDry l D A G (fmIt (fmLv a t) σ j) o ha (by omega) (t := t) (by omega) hj42) gX1_leaveByNumbers_X1_liesDry rfl rfl rfl (by decide +kernel) ⟨Nat.le_of_ble_eq_true rfl, Nat.le_of_ble_eq_true rfl⟩ (fmR_4 F (by assumption)) rfl rfl (Nat.le_of_ble_eq_true rfl) dX1_leaveByNumbers_38 ⟨Nat.le_of_ble_eq_true rfl, Nat.le_of_ble_eq_true rfl⟩ (fun r5 u4 hc6 => ?_)
          obtain ⟨hr9, hu9⟩ := hc6
          have hr9 := hr9.symm
          have hu9 := hu9.symm
          subst hr9
          subst hu9
          refine fmV_if_ne (pc := 41) (tgt := 51) F dX1_leaveByNumbers_41 (by decide) (fun h4 => ?_) (fun h4 => ?_)
          · refine fmV_sg (σ1 := (fmIt (fmLv a t) σ (j + 1))) (by rw [fmIt, fmLv, if_neg (fun q => by rw [if_neg q.2.2] at h4; exact absurd rfl h4)]) ?_
            refine fmV_iinc (pc := 51) (i := 1) F dX1_leaveByNumbers_51 rfl rfl (by decide) ?_
            refine fmV_goto (pc := 54) (tgt := 2) F dX1_leaveByNumbers_54 (by decide) ?_
            refine fmV_lv ?_ ih
            exact ⟨rfl, by rw [nI_succ j]; rfl, trivial⟩
          · obtain ⟨r, p, v, g1, g2, g3, g4, g5, g6, g7⟩ := hgc.2 j hj h2
            refine fmV_aload_n (pc := 44) (i := 0) F dX1_leaveByNumbers_44 rfl rfl ?_
            refine fmV_aload_n (pc := 45) (i := 2) F dX1_leaveByNumbers_45 rfl rfl ?_
            refine fmV_iconst (pc := 46) (v := 2) F dX1_leaveByNumbers_46 rfl ?_
            refine fmV_cVi (n := 2) (pc := 47) F (c_X1_unfasten l D A G (fmIt (fmLv a t) σ j) o ha (by omega) (by omega) g3 g2 h2 g5 g6 g4 (fmCoh_hm hgc hcc g1 g4 g3 g2 g7 (by omega)) 2) gX1_leaveByNumbers_X1_unfasten rfl rfl rfl (by decide +kernel) ⟨Nat.le_of_ble_eq_true rfl, Nat.le_of_ble_eq_true rfl⟩ (fmR_4 F (by assumption)) rfl rfl (Nat.le_of_ble_eq_true rfl) dX1_leaveByNumbers_47 ⟨Nat.le_of_ble_eq_true rfl, Nat.le_of_ble_eq_true rfl⟩ (fun r8 u7 hc9 => ?_)
            obtain ⟨hr9, hu9⟩ := hc9
            have hr9 := hr9.symm
            have hu9 := hu9.symm
            subst hr9
            subst hu9
            refine fmV_pop (pc := 50) F dX1_leaveByNumbers_50 rfl ?_
            refine fmV_sg (σ1 := (fmIt (fmLv a t) σ (j + 1))) (by rw [fmIt, fmLv, if_pos ⟨h2, by rcases Decidable.em (fmTL (fmIt (fmLv a t) σ j) a j (nI t)) with q | q; exact q; rw [if_neg q] at h3; exact absurd rfl h3, fun q => by rw [if_pos q] at h4; exact absurd h4 (by decide)⟩, fm_cl g5 (by omega), fm_cl g6 (by omega), fm_cl g4 (by omega)]) ?_
            refine fmV_iinc (pc := 51) (i := 1) F dX1_leaveByNumbers_51 rfl rfl (by decide) ?_
            refine fmV_goto (pc := 54) (tgt := 2) F dX1_leaveByNumbers_54 (by decide) ?_
            refine fmV_lv ?_ ih
            exact ⟨rfl, by rw [nI_succ j]; rfl, trivial⟩

set_option maxHeartbeats 4000000 in
set_option maxRecDepth 100000 in
theorem c_X1_tradeByNumbers (l : Launch) (D : va_G) (A : Nat → Prop) (G : fmG) (σ : fmS) (o : Nat → Int64) {a : Nat} (ha : a < 2) {rc cc t : Nat} (hg : fmGood a rc cc t σ) : fmMv l D A G yX1_tradeByNumbers wsX1_tradeByNumbers (fmRm 4 0 0) 0 0 [.ref (G.1 4 a 0)] σ o (fun u => u = fmIt (fmTd a rc) σ cc) := by
  refine fmMv_of (cc := cX1_tradeByNumbers) (maxL := 4) (ret := none) (by decide +kernel) rfl (Nat.le_of_ble_eq_true rfl) ?_
  intro P_ E_ S_ M_ args_ below_ meth_ C_ F
  have hin_X1 : ∀ w ∈ wsX10, w ∈ wsX1_tradeByNumbers := (fun _ h => List.mem_cons_of_mem _ (List.mem_append_left _ (List.mem_append_left _ (List.mem_append_right _ h))))
  have hin_X0 : ∀ w ∈ wsX00, w ∈ wsX1_tradeByNumbers := (fun _ h => List.mem_cons_of_mem _ (List.mem_append_left _ (List.mem_append_right _ h)))
  have hin_X2 : ∀ w ∈ wsX20, w ∈ wsX1_tradeByNumbers := (fun _ h => List.mem_cons_of_mem _ (List.mem_append_right _ h))
  obtain ⟨⟨hrc, hcc, ht, h40, h41, h42⟩, hc⟩ := id hg
  have hgood : ∀ n, n ≤ cc → fmGood a rc cc t (fmIt (fmTd a rc) σ n) := good_it (fun i τ hi hg => good_Td hg) hg
  refine fmV_iconst (pc := 0) (v := 0) F dX1_tradeByNumbers_0 rfl ?_
  refine fmV_istore_n (pc := 1) (i := 1) F dX1_tradeByNumbers_1 rfl (by decide) ?_
  refine fmV_lv (lv' := [(0, .ref (G.1 4 a 0)), (1, .int (nI 0))]) ⟨rfl, rfl, trivial⟩ ?_
  refine fmV_up (N := cc) (pc := 2) (σf := fun j => (fmIt (fmTd a rc) σ j)) (lvf := fun j => [(0, .ref (G.1 4 a 0)), (1, .int (nI j))]) 0 (Nat.zero_le _) ?_ ?_
  · have hj41 := (hgood cc (Nat.le_refl _)).1.2.2.2.2.1
    refine fmV_iload_n (pc := 2) (i := 1) F dX1_tradeByNumbers_2 rfl rfl ?_
    refine fmV_aload_n (pc := 3) (i := 0) F dX1_tradeByNumbers_3 rfl rfl ?_
    refine fmg_4_canoeCount (pc := 4) F (by assumption) hin_X1 dX1_tradeByNumbers_4 (List.mem_of_getElem? (i := 1) rfl) ?_
    refine fmV_icmp_ge (pc := 7) (tgt := 64) F dX1_tradeByNumbers_7 (by decide) (fun h1 => ?_) (fun h1 => ?_)
    · exact fmV_vret (pc := 64) F dX1_tradeByNumbers_64 rfl rfl
    · rw [hj41] at h1
      exact absurd (nI_le (Nat.le_refl cc) (by omega)) h1
  · intro j hj ih
    have hgj := hgood j (by omega)
    have hj41 := hgj.1.2.2.2.2.1
    have hj14 : j < 14 := by omega
    refine fmV_iload_n (pc := 2) (i := 1) F dX1_tradeByNumbers_2 rfl rfl ?_
    refine fmV_aload_n (pc := 3) (i := 0) F dX1_tradeByNumbers_3 rfl rfl ?_
    refine fmg_4_canoeCount (pc := 4) F (by assumption) hin_X1 dX1_tradeByNumbers_4 (List.mem_of_getElem? (i := 1) rfl) ?_
    refine fmV_icmp_ge (pc := 7) (tgt := 64) F dX1_tradeByNumbers_7 (by decide) (fun h1 => ?_) (fun h1 => ?_)
    · rw [hj41] at h1
      exact absurd h1 (nI_ge hj (by omega))
    · refine fmV_aload_n (pc := 10) (i := 0) F dX1_tradeByNumbers_10 rfl rfl ?_
      refine fmg_4_canoes (pc := 11) F (by assumption) hin_X1 dX1_tradeByNumbers_11 (List.mem_of_getElem? (i := 2) rfl) ?_
      refine fmV_iload_n (pc := 14) (i := 1) F dX1_tradeByNumbers_14 rfl rfl ?_
      refine fmV_ald_canoes (pc := 15) F (by assumption) dX1_tradeByNumbers_15 (vp_in_nI (by omega) (by decide)) (fm_cn (by omega)) ?_
      refine fmV_astore_n (pc := 16) (i := 2) F dX1_tradeByNumbers_16 rfl (by decide) ?_
      refine fmV_aload_n (pc := 17) (i := 2) F dX1_tradeByNumbers_17 rfl rfl ?_
      refine fmg_9_status (pc := 18) F (by assumption) (by assumption) hin_X0 dX1_tradeByNumbers_18 (List.mem_of_getElem? (i := 3) rfl) ?_
      refine fmV_iconst (pc := 21) (v := 1) F dX1_tradeByNumbers_21 rfl ?_
      refine fmV_icmp_ne (pc := 22) (tgt := 58) F dX1_tradeByNumbers_22 (by decide) (fun h2 => ?_) (fun h2 => ?_)
      · refine fmV_sg (σ1 := (fmIt (fmTd a rc) σ (j + 1))) (by rw [fmIt, fmTd, if_neg h2]) ?_
        refine fmV_iinc (pc := 58) (i := 1) F dX1_tradeByNumbers_58 rfl rfl (by decide) ?_
        refine fmV_goto (pc := 61) (tgt := 2) F dX1_tradeByNumbers_61 (by decide) ?_
        refine fmV_lv ?_ ih
        exact ⟨rfl, by rw [nI_succ j]; rfl, trivial⟩
      · refine fmV_iconst (pc := 25) (v := 0) F dX1_tradeByNumbers_25 rfl ?_
        refine fmV_istore_n (pc := 26) (i := 3) F dX1_tradeByNumbers_26 rfl (by decide) ?_
        refine fmV_lv (lv' := [(0, .ref (G.1 4 a 0)), (1, .int (nI j)), (2, .ref (G.1 9 a j)), (3, .int (nI 0))]) ⟨rfl, rfl, rfl, rfl, trivial⟩ ?_
        refine fmV_up (N := 4) (pc := 27) (σf := fun g => (fmIt (fmTg a rc j) (fmIt (fmTd a rc) σ j) g)) (lvf := fun g => [(0, .ref (G.1 4 a 0)), (1, .int (nI j)), (2, .ref (G.1 9 a j)), (3, .int (nI g))]) 0 (by decide) ?_ ?_
        · refine fmV_iload_n (pc := 27) (i := 3) F dX1_tradeByNumbers_27 rfl rfl ?_
          refine fmV_iconst (pc := 28) (v := 4) F dX1_tradeByNumbers_28 rfl ?_
          refine fmV_icmp_ge (pc := 29) (tgt := 58) F dX1_tradeByNumbers_29 (by decide) (fun h3 => ?_) (fun h3 => ?_)
          · refine fmV_sg (σ1 := (fmIt (fmTd a rc) σ (j + 1))) (by rw [fmIt, fmTd, if_pos h2]) ?_
            refine fmV_iinc (pc := 58) (i := 1) F dX1_tradeByNumbers_58 rfl rfl (by decide) ?_
            refine fmV_goto (pc := 61) (tgt := 2) F dX1_tradeByNumbers_61 (by decide) ?_
            refine fmV_lv ?_ ih
            exact ⟨rfl, by rw [nI_succ j]; rfl, trivial⟩
          · exact absurd h3 (by decide)
        · intro g hg4 ih2
          have hgg : fmGood a rc cc t (fmIt (fmTg a rc j) (fmIt (fmTd a rc) σ j) g) := good_it (N := 4) (fun i τ hi hg => good_Tg hg) hgj g (by omega)
          have hg40 := hgg.1.2.2.2.1
          refine fmV_iload_n (pc := 27) (i := 3) F dX1_tradeByNumbers_27 rfl rfl ?_
          refine fmV_iconst (pc := 28) (v := 4) F dX1_tradeByNumbers_28 rfl ?_
          refine fmV_icmp_ge (pc := 29) (tgt := 58) F dX1_tradeByNumbers_29 (by decide) (fun h3 => ?_) (fun h3 => ?_)
          · exact absurd h3 (nI_ge (b := 4) hg4 (by decide))
          · refine fmV_aload_n (pc := 32) (i := 2) F dX1_tradeByNumbers_32 rfl rfl ?_
            refine fmV_iload_n (pc := 33) (i := 3) F dX1_tradeByNumbers_33 rfl rfl ?_
            refine fmV_cVi (n := 1) (pc := 34) F (c_X0_misses l D A G (fmIt (fmTg a rc j) (fmIt (fmTd a rc) σ j) g) o ha hj14 hg4) gX1_tradeByNumbers_X0_misses rfl rfl rfl (by decide +kernel) ⟨Nat.le_of_ble_eq_true rfl, Nat.le_of_ble_eq_true rfl⟩ (fmR_9 F (by assumption) (by assumption)) rfl rfl (Nat.le_of_ble_eq_true rfl) dX1_tradeByNumbers_34 ⟨Nat.le_of_ble_eq_true rfl, Nat.le_of_ble_eq_true rfl⟩ (fun r2 u1 hc3 => ?_)
            obtain ⟨hr9, hu9⟩ := hc3
            have hr9 := hr9.symm
            have hu9 := hu9.symm
            subst hr9
            subst hu9
            refine fmV_if_le (pc := 37) (tgt := 52) F dX1_tradeByNumbers_37 (by decide) (fun h4 => ?_) (fun h4 => ?_)
            · refine fmV_sg (σ1 := (fmIt (fmTg a rc j) (fmIt (fmTd a rc) σ j) (g + 1))) (by rw [fmIt, fmTg, if_neg (Int32.not_lt.mpr h4)]) ?_
              refine fmV_iinc (pc := 52) (i := 3) F dX1_tradeByNumbers_52 rfl rfl (by decide) ?_
              refine fmV_goto (pc := 55) (tgt := 27) F dX1_tradeByNumbers_55 (by decide) ?_
              refine fmV_lv ?_ ih2
              exact ⟨rfl, rfl, rfl, by rw [nI_succ g]; rfl, trivial⟩
            · refine fmV_aload_n (pc := 40) (i := 0) F dX1_tradeByNumbers_40 rfl rfl ?_
              refine fmV_aload_n (pc := 41) (i := 2) F dX1_tradeByNumbers_41 rfl rfl ?_
              refine fmV_aload_n (pc := 42) (i := 0) F dX1_tradeByNumbers_42 rfl rfl ?_
              refine fmV_aload_n (pc := 43) (i := 2) F dX1_tradeByNumbers_43 rfl rfl ?_
              refine fmV_iload_n (pc := 44) (i := 3) F dX1_tradeByNumbers_44 rfl rfl ?_
              refine fmV_cVq (n := 2) (pc := 45) F (c_X1_cheapestSeller l D A G (fmIt (fmTg a rc j) (fmIt (fmTd a rc) σ j) g) o ha hj14 hg4 hrc hg40 (fmCoh_bd hcc hgg.2)) gX1_tradeByNumbers_X1_cheapestSeller rfl rfl rfl (by decide +kernel) ⟨Nat.le_of_ble_eq_true rfl, Nat.le_of_ble_eq_true rfl⟩ (fmR_4 F (by assumption)) rfl rfl (Nat.le_of_ble_eq_true rfl) dX1_tradeByNumbers_45 ⟨Nat.le_of_ble_eq_true rfl, Nat.le_of_ble_eq_true rfl⟩ (fun r5 u4 hc6 => ?_)
              obtain ⟨hr9, hu9⟩ := hc6
              have hr9 := hr9.symm
              have hu9 := hu9.symm
              subst hr9
              subst hu9
              rcases hbs : fmBest (fmIt (fmTg a rc j) (fmIt (fmTd a rc) σ j) g) a rc j g with _ | s9
              · rw [show va_rf (fmRef G a none) = .null from rfl]
                refine fmV_iload_n (pc := 48) (i := 3) F dX1_tradeByNumbers_48 rfl rfl ?_
                refine fmV_cVv (n := 3) (pc := 49) F (c_X1_trade_n l D A G (fmIt (fmTg a rc j) (fmIt (fmTd a rc) σ j) g) o ha hj14 (nI g)) gX1_tradeByNumbers_X1_trade rfl rfl rfl (by decide +kernel) ⟨Nat.le_of_ble_eq_true rfl, Nat.le_of_ble_eq_true rfl⟩ (fmR_4 F (by assumption)) rfl rfl (Nat.le_of_ble_eq_true rfl) dX1_tradeByNumbers_49 ⟨Nat.le_of_ble_eq_true rfl, Nat.le_of_ble_eq_true rfl⟩ (fun u7 hc9 => ?_)
                have hc9 := hc9.symm
                subst hc9
                refine fmV_sg (σ1 := (fmIt (fmTg a rc j) (fmIt (fmTd a rc) σ j) (g + 1))) (by rw [fmIt, fmTg, if_pos (Int32.not_le.mp h4), hbs]; rfl) ?_
                refine fmV_iinc (pc := 52) (i := 3) F dX1_tradeByNumbers_52 rfl rfl (by decide) ?_
                refine fmV_goto (pc := 55) (tgt := 27) F dX1_tradeByNumbers_55 (by decide) ?_
                refine fmV_lv ?_ ih2
                exact ⟨rfl, rfl, rfl, by rw [nI_succ g]; rfl, trivial⟩
              · have hs9 := fmBest_lt hrc (fmCoh_bd hcc hgg.2) s9 hbs
                rw [show va_rf (fmRef G a (some s9)) = .ref (G.1 9 a s9) from rfl]
                refine fmV_iload_n (pc := 48) (i := 3) F dX1_tradeByNumbers_48 rfl rfl ?_
                refine fmV_cVv (n := 3) (pc := 49) F (c_X1_trade_s l D A G (fmIt (fmTg a rc j) (fmIt (fmTd a rc) σ j) g) o ha hj14 hs9 hg4) gX1_tradeByNumbers_X1_trade rfl rfl rfl (by decide +kernel) ⟨Nat.le_of_ble_eq_true rfl, Nat.le_of_ble_eq_true rfl⟩ (fmR_4 F (by assumption)) rfl rfl (Nat.le_of_ble_eq_true rfl) dX1_tradeByNumbers_49 ⟨Nat.le_of_ble_eq_true rfl, Nat.le_of_ble_eq_true rfl⟩ (fun u10 hc12 => ?_)
                have hc12 := hc12.symm
                subst hc12
                refine fmV_sg (σ1 := (fmIt (fmTg a rc j) (fmIt (fmTd a rc) σ j) (g + 1))) (by rw [fmIt, fmTg, if_pos (Int32.not_le.mp h4), hbs]; rfl) ?_
                refine fmV_iinc (pc := 52) (i := 3) F dX1_tradeByNumbers_52 rfl rfl (by decide) ?_
                refine fmV_goto (pc := 55) (tgt := 27) F dX1_tradeByNumbers_55 (by decide) ?_
                refine fmV_lv ?_ ih2
                exact ⟨rfl, rfl, rfl, by rw [nI_succ g]; rfl, trivial⟩

set_option maxHeartbeats 4000000 in
set_option maxRecDepth 100000 in
theorem c_X1_passSteps (l : Launch) (D : va_G) (A : Nat → Prop) (G : fmG) (σ : fmS) (o : Nat → Int64) {a : Nat} (ha : a < 2) {rc cc t : Nat} (hg : fmGood a rc cc t σ) {n : Nat} (hn : t + n < 2 ^ 30) : fmMv l D A G yX1_passSteps wsX1_passSteps (fmRm 5 0 0) 0 0 [.ref (G.1 4 a 0), .int (nI n)] σ o (fun u => u = fmPass a rc cc t σ n) := by
  refine fmMv_of (cc := cX1_passSteps) (maxL := 3) (ret := none) (by decide +kernel) rfl (Nat.le_of_ble_eq_true rfl) ?_
  intro P_ E_ S_ M_ args_ below_ meth_ C_ F
  have hin_X1 : ∀ w ∈ wsX10, w ∈ wsX1_passSteps := (fun _ h => List.mem_cons_of_mem _ (List.mem_append_left _ (List.mem_append_left _ (List.mem_append_left _ (List.mem_append_right _ h)))))
  have hin_X2 : ∀ w ∈ wsX20, w ∈ wsX1_passSteps := (fun _ h => List.mem_cons_of_mem _ (List.mem_append_left _ (List.mem_append_left _ (List.mem_append_right _ h))))
  have hin_X0 : ∀ w ∈ wsX00, w ∈ wsX1_passSteps := (fun _ h => List.mem_cons_of_mem _ (List.mem_append_left _ (List.mem_append_right _ h)))
  have hin_X3 : ∀ w ∈ wsX30, w ∈ wsX1_passSteps := (fun _ h => List.mem_cons_of_mem _ (List.mem_append_right _ h))
  obtain ⟨⟨hrc, hcc, ht, h40, h41, h42⟩, hc⟩ := id hg
  refine fmV_iconst (pc := 0) (v := 0) F dX1_passSteps_0 rfl ?_
  refine fmV_istore_n (pc := 1) (i := 2) F dX1_passSteps_1 rfl (by decide) ?_
  refine fmV_lv (lv' := [(0, .ref (G.1 4 a 0)), (1, .int (nI n)), (2, .int (nI 0))]) ⟨rfl, rfl, rfl, trivial⟩ ?_
  refine fmV_up (N := n) (pc := 2) (σf := fun j => (fmPass a rc cc t σ j)) (lvf := fun j => [(0, .ref (G.1 4 a 0)), (1, .int (nI n)), (2, .int (nI j))]) 0 (Nat.zero_le _) ?_ ?_
  · refine fmV_iload_n (pc := 2) (i := 2) F dX1_passSteps_2 rfl rfl ?_
    refine fmV_iload_n (pc := 3) (i := 1) F dX1_passSteps_3 rfl rfl ?_
    refine fmV_icmp_ge (pc := 4) (tgt := 35) F dX1_passSteps_4 (by decide) (fun h1 => ?_) (fun h1 => ?_)
    · exact fmV_vret (pc := 35) F dX1_passSteps_35 rfl rfl
    · exact absurd (nI_le (Nat.le_refl n) (by omega)) h1
  · intro j hj ih
    have hgj : fmGood a rc cc (t + j) (fmPass a rc cc t σ j) := good_pass hg j (by omega)
    have hg1 : fmGood a rc cc (t + j) (fmIt (fmDR a rc (t + j) ((fmPass a rc cc t σ j) 3 0 0 ((t + j) % 24))) (fmPass a rc cc t σ j) rc) := good_it (fun i τ hi hg => good_DR hg hi) hgj rc (Nat.le_refl _)
    have hg2 : fmGood a rc cc (t + j) (fmIt (fmLv a (t + j)) (fmIt (fmDR a rc (t + j) ((fmPass a rc cc t σ j) 3 0 0 ((t + j) % 24))) (fmPass a rc cc t σ j) rc) cc) := good_it (fun i τ hi hg => good_Lv hg hi) hg1 cc (Nat.le_refl _)
    have hg3 : fmGood a rc cc (t + j) (fmIt (fmTd a rc) (fmIt (fmLv a (t + j)) (fmIt (fmDR a rc (t + j) ((fmPass a rc cc t σ j) 3 0 0 ((t + j) % 24))) (fmPass a rc cc t σ j) rc) cc) cc) := good_it (N := cc) (fun i τ hi hg => good_Td hg) hg2 cc (Nat.le_refl _)
    refine fmV_iload_n (pc := 2) (i := 2) F dX1_passSteps_2 rfl rfl ?_
    refine fmV_iload_n (pc := 3) (i := 1) F dX1_passSteps_3 rfl rfl ?_
    refine fmV_icmp_ge (pc := 4) (tgt := 35) F dX1_passSteps_4 (by decide) (fun h1 => ?_) (fun h1 => ?_)
    · exact absurd h1 (nI_ge hj (by omega))
    · refine fmV_aload_n (pc := 7) (i := 0) F dX1_passSteps_7 rfl rfl ?_
      refine fmV_cVv (n := 0) (pc := 8) F (c_X1_driftByRows l D A G (fmPass a rc cc t σ j) o ha hgj) gX1_passSteps_X1_driftByRows rfl rfl rfl (by decide +kernel) ⟨Nat.le_of_ble_eq_true rfl, Nat.le_of_ble_eq_true rfl⟩ (fmR_4 F (by assumption)) rfl rfl (Nat.le_of_ble_eq_true rfl) dX1_passSteps_8 ⟨Nat.le_of_ble_eq_true rfl, Nat.le_of_ble_eq_true rfl⟩ (fun u1 hc3 => ?_)
      have hc3 := hc3.symm
      subst hc3
      refine fmV_aload_n (pc := 11) (i := 0) F dX1_passSteps_11 rfl rfl ?_
      refine fmV_cVv (n := 0) (pc := 12) F (c_X1_leaveByNumbers l D A G (fmIt (fmDR a rc (t + j) ((fmPass a rc cc t σ j) 3 0 0 ((t + j) % 24))) (fmPass a rc cc t σ j) rc) o ha hg1) gX1_passSteps_X1_leaveByNumbers rfl rfl rfl (by decide +kernel) ⟨Nat.le_of_ble_eq_true rfl, Nat.le_of_ble_eq_true rfl⟩ (fmR_4 F (by assumption)) rfl rfl (Nat.le_of_ble_eq_true rfl) dX1_passSteps_12 ⟨Nat.le_of_ble_eq_true rfl, Nat.le_of_ble_eq_true rfl⟩ (fun u4 hc6 => ?_)
      have hc6 := hc6.symm
      subst hc6
      refine fmV_aload_n (pc := 15) (i := 0) F dX1_passSteps_15 rfl rfl ?_
      refine fmV_cVv (n := 0) (pc := 16) F (c_X1_tradeByNumbers l D A G (fmIt (fmLv a (t + j)) (fmIt (fmDR a rc (t + j) ((fmPass a rc cc t σ j) 3 0 0 ((t + j) % 24))) (fmPass a rc cc t σ j) rc) cc) o ha hg2) gX1_passSteps_X1_tradeByNumbers rfl rfl rfl (by decide +kernel) ⟨Nat.le_of_ble_eq_true rfl, Nat.le_of_ble_eq_true rfl⟩ (fmR_4 F (by assumption)) rfl rfl (Nat.le_of_ble_eq_true rfl) dX1_passSteps_16 ⟨Nat.le_of_ble_eq_true rfl, Nat.le_of_ble_eq_true rfl⟩ (fun u7 hc9 => ?_)
      have hc9 := hc9.symm
      subst hc9
      refine fmV_aload_n (pc := 19) (i := 0) F dX1_passSteps_19 rfl rfl ?_
      refine fmV_dup (pc := 20) F dX1_passSteps_20 rfl ?_
      refine fmg_4_step (pc := 21) F (by assumption) hin_X1 dX1_passSteps_21 (List.mem_of_getElem? (i := 1) rfl) ?_
      rw [hg3.1.2.2.2.2.2]
      refine fmV_iconst (pc := 24) (v := 1) F dX1_passSteps_24 rfl ?_
      refine fmV_iadd (pc := 25) F dX1_passSteps_25 ?_
      refine fmp_4_step (pc := 26) F (by assumption) hin_X1 dX1_passSteps_26 (List.mem_of_getElem? (i := 1) rfl) ?_
      refine fmV_iinc (pc := 29) (i := 2) F dX1_passSteps_29 rfl rfl (by decide) ?_
      refine fmV_goto (pc := 32) (tgt := 2) F dX1_passSteps_32 (by decide) ?_
      refine fmV_sg (σ1 := (fmPass a rc cc t σ (j + 1))) (by rw [fmPass, fmStep, nI_succ (t + j)]) ?_
      refine fmV_lv ?_ ih
      exact ⟨rfl, rfl, by rw [nI_succ j]; rfl, trivial⟩
