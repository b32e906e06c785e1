set_option maxHeartbeats 4000000 in
set_option maxRecDepth 100000 in
theorem c_X1_openRow (l : Launch) (D : va_G) (A : Nat → Prop) (G : fmG) (σ : fmS) (o : Nat → Int64) {a rc : Nat} (ha : a < 2) (hrc : rc < 4) (h40 : σ 40 a 0 0 = nI rc) (x : Int32) : fmMi l D A G yX1_openRow wsX1_openRow (fmRm 1 0 0) 0 0 [.ref (G.1 4 a 0), .int x] σ o (fun r u => r = nI rc ∧ u = fmu (fmu σ 47 a rc (fun _ => x)) 40 a 0 (fun _ => nI (rc + 1))) := by
  refine fmMi_of (cc := cX1_openRow) (maxL := 3) (ret := (some .int)) (by decide +kernel) rfl (Nat.le_of_ble_eq_true rfl) ?_
  intro P_ E_ S_ M_ args_ below_ meth_ C_ F
  have hin_X1 : ∀ w ∈ wsX10, w ∈ wsX1_openRow := (fun _ h => List.mem_cons_of_mem _ (List.mem_append_left _ (List.mem_append_right _ h)))
  have hin_X2 : ∀ w ∈ wsX20, w ∈ wsX1_openRow := (fun _ h => List.mem_cons_of_mem _ (List.mem_append_right _ h))
  refine fmV_aload_n (pc := 0) (i := 0) F dX1_openRow_0 rfl rfl ?_
  refine fmg_4_rowCount (pc := 1) F (by assumption) hin_X1 dX1_openRow_1 (List.mem_of_getElem? (i := 1) rfl) ?_
  refine fmV_istore_n (pc := 4) (i := 2) F dX1_openRow_4 rfl (by decide) ?_
  refine fmV_aload_n (pc := 5) (i := 0) F dX1_openRow_5 rfl rfl ?_
  refine fmg_4_rows (pc := 6) F (by assumption) hin_X1 dX1_openRow_6 (List.mem_of_getElem? (i := 2) rfl) ?_
  refine fmV_iload_n (pc := 9) (i := 2) F dX1_openRow_9 rfl rfl ?_
  refine fmV_ald_rows (pc := 10) F (by assumption) dX1_openRow_10 (fm_in h40 hrc (by decide)) (fm_cl h40 (by omega)) ?_
  refine fmV_iload_n (pc := 11) (i := 1) F dX1_openRow_11 rfl rfl ?_
  refine fmp_7_places (pc := 12) F (by assumption) (by assumption) hin_X2 dX1_openRow_12 (List.mem_of_getElem? (i := 3) rfl) ?_
  refine fmV_aload_n (pc := 15) (i := 0) F dX1_openRow_15 rfl rfl ?_
  refine fmV_dup (pc := 16) F dX1_openRow_16 rfl ?_
  refine fmg_4_rowCount (pc := 17) F (by assumption) hin_X1 dX1_openRow_17 (List.mem_of_getElem? (i := 1) rfl) ?_
  refine fmV_iconst (pc := 20) (v := 1) F dX1_openRow_20 rfl ?_
  refine fmV_iadd (pc := 21) F dX1_openRow_21 ?_
  refine fmp_4_rowCount (pc := 22) F (by assumption) hin_X1 dX1_openRow_22 (List.mem_of_getElem? (i := 1) rfl) ?_
  refine fmV_iload_n (pc := 25) (i := 2) F dX1_openRow_25 rfl rfl ?_
  exact fmV_iret (pc := 26) F dX1_openRow_26 rfl ⟨h40, by rw [fmu_c _ _ _ _ _ (by decide), h40, nI_succ]⟩

set_option maxHeartbeats 4000000 in
set_option maxRecDepth 100000 in
theorem c_X1_launch (l : Launch) (D : va_G) (A : Nat → Prop) (G : fmG) (σ : fmS) (o : Nat → Int64) {a cc : Nat} (ha : a < 2) (hcc : cc < 14) (h41 : σ 41 a 0 0 = nI cc) (x y : Int32) : fmMi l D A G yX1_launch wsX1_launch (fmRm 1 0 0) 0 0 [.ref (G.1 4 a 0), .int x, .int y] σ o (fun r u => r = nI cc ∧ u = fmu (fmu (fmu σ 50 a cc (fun _ => x)) 51 a cc (fun _ => y)) 41 a 0 (fun _ => nI (cc + 1))) := by
  refine fmMi_of (cc := cX1_launch) (maxL := 4) (ret := (some .int)) (by decide +kernel) rfl (Nat.le_of_ble_eq_true rfl) ?_
  intro P_ E_ S_ M_ args_ below_ meth_ C_ F
  have hin_X1 : ∀ w ∈ wsX10, w ∈ wsX1_launch := (fun _ h => List.mem_cons_of_mem _ (List.mem_append_left _ (List.mem_append_right _ h)))
  have hin_X0 : ∀ w ∈ wsX00, w ∈ wsX1_launch := (fun _ h => List.mem_cons_of_mem _ (List.mem_append_right _ h))
  refine fmV_aload_n (pc := 0) (i := 0) F dX1_launch_0 rfl rfl ?_
  refine fmg_4_canoeCount (pc := 1) F (by assumption) hin_X1 dX1_launch_1 (List.mem_of_getElem? (i := 1) rfl) ?_
  refine fmV_istore_n (pc := 4) (i := 3) F dX1_launch_4 rfl (by decide) ?_
  refine fmV_aload_n (pc := 5) (i := 0) F dX1_launch_5 rfl rfl ?_
  refine fmg_4_canoes (pc := 6) F (by assumption) hin_X1 dX1_launch_6 (List.mem_of_getElem? (i := 2) rfl) ?_
  refine fmV_iload_n (pc := 9) (i := 3) F dX1_launch_9 rfl rfl ?_
  refine fmV_ald_canoes (pc := 10) F (by assumption) dX1_launch_10 (fm_in h41 hcc (by decide)) (fm_cl h41 (by omega)) ?_
  refine fmV_iload_n (pc := 11) (i := 1) F dX1_launch_11 rfl rfl ?_
  refine fmp_9_coins (pc := 12) F (by assumption) (by assumption) hin_X0 dX1_launch_12 (List.mem_of_getElem? (i := 3) rfl) ?_
  refine fmV_aload_n (pc := 15) (i := 0) F dX1_launch_15 rfl rfl ?_
  refine fmg_4_canoes (pc := 16) F (by assumption) hin_X1 dX1_launch_16 (List.mem_of_getElem? (i := 2) rfl) ?_
  refine fmV_iload_n (pc := 19) (i := 3) F dX1_launch_19 rfl rfl ?_
  refine fmV_ald_canoes (pc := 20) F (by assumption) dX1_launch_20 (fm_in h41 hcc (by decide)) (fm_cl h41 (by omega)) ?_
  refine fmV_iload_n (pc := 21) (i := 2) F dX1_launch_21 rfl rfl ?_
  refine fmp_9_rope (pc := 22) F (by assumption) (by assumption) hin_X0 dX1_launch_22 (List.mem_of_getElem? (i := 4) rfl) ?_
  refine fmV_aload_n (pc := 25) (i := 0) F dX1_launch_25 rfl rfl ?_
  refine fmV_dup (pc := 26) F dX1_launch_26 rfl ?_
  refine fmg_4_canoeCount (pc := 27) F (by assumption) hin_X1 dX1_launch_27 (List.mem_of_getElem? (i := 1) rfl) ?_
  refine fmV_iconst (pc := 30) (v := 1) F dX1_launch_30 rfl ?_
  refine fmV_iadd (pc := 31) F dX1_launch_31 ?_
  refine fmp_4_canoeCount (pc := 32) F (by assumption) hin_X1 dX1_launch_32 (List.mem_of_getElem? (i := 1) rfl) ?_
  refine fmV_iload_n (pc := 35) (i := 3) F dX1_launch_35 rfl rfl ?_
  exact fmV_iret (pc := 36) F dX1_launch_36 rfl ⟨h41, by rw [fmu_c _ _ _ _ _ (by decide), fmu_c _ _ _ _ _ (by decide), h41, nI_succ]⟩

set_option maxHeartbeats 4000000 in
set_option maxRecDepth 100000 in
theorem c_X1_fasten (l : Launch) (D : va_G) (A : Nat → Prop) (G : fmG) (σ : fmS) (o : Nat → Int64) {a k : Nat} (ha : a < 2) (hb : k < 14) {r v q : Nat} (hr : r < 4) (hq : q ≤ 6) (hvq : v < q) (hu : σ 48 a r 0 = nI v) (hp : σ 47 a r 0 = nI q) : fmMv l D A G yX1_fasten wsX1_fasten (fmRm 2 0 0) 0 0 [.ref (G.1 4 a 0), .ref (G.1 9 a k), .int (nI r)] σ o (fun u => u = fmFast σ a k r v) := by
  refine fmMv_of (cc := cX1_fasten) (maxL := 3) (ret := none) (by decide +kernel) rfl (Nat.le_of_ble_eq_true rfl) ?_
  intro P_ E_ S_ M_ args_ below_ meth_ C_ F
  have hin_X0 : ∀ w ∈ wsX00, w ∈ wsX1_fasten := (fun _ h => List.mem_cons_of_mem _ (List.mem_append_left _ (List.mem_append_left _ (List.mem_append_right _ h))))
  have hin_X1 : ∀ w ∈ wsX10, w ∈ wsX1_fasten := (fun _ h => List.mem_cons_of_mem _ (List.mem_append_left _ (List.mem_append_right _ h)))
  have hin_X2 : ∀ w ∈ wsX20, w ∈ wsX1_fasten := (fun _ h => List.mem_cons_of_mem _ (List.mem_append_right _ h))
  refine fmV_aload_n (pc := 0) (i := 1) F dX1_fasten_0 rfl rfl ?_
  refine fmV_iconst (pc := 1) (v := 1) F dX1_fasten_1 rfl ?_
  refine fmp_9_status (pc := 2) F (by assumption) (by assumption) hin_X0 dX1_fasten_2 (List.mem_of_getElem? (i := 1) rfl) ?_
  refine fmV_aload_n (pc := 5) (i := 1) F dX1_fasten_5 rfl rfl ?_
  refine fmV_iload_n (pc := 6) (i := 2) F dX1_fasten_6 rfl rfl ?_
  refine fmp_9_row (pc := 7) F (by assumption) (by assumption) hin_X0 dX1_fasten_7 (List.mem_of_getElem? (i := 2) rfl) ?_
  refine fmV_aload_n (pc := 10) (i := 1) F dX1_fasten_10 rfl rfl ?_
  refine fmV_aload_n (pc := 11) (i := 0) F dX1_fasten_11 rfl rfl ?_
  refine fmg_4_rows (pc := 12) F (by assumption) hin_X1 dX1_fasten_12 (List.mem_of_getElem? (i := 3) rfl) ?_
  refine fmV_iload_n (pc := 15) (i := 2) F dX1_fasten_15 rfl rfl ?_
  refine fmV_ald_rows (pc := 16) F (by assumption) dX1_fasten_16 (vp_in_nI hr (by decide)) (fm_cn (by omega)) ?_
  refine fmg_7_used (pc := 17) F (by assumption) (by assumption) hin_X2 dX1_fasten_17 (List.mem_of_getElem? (i := 4) rfl) ?_
  refine fmp_9_place (pc := 20) F (by assumption) (by assumption) hin_X0 dX1_fasten_20 (List.mem_of_getElem? (i := 5) rfl) ?_
  refine fmV_aload_n (pc := 23) (i := 0) F dX1_fasten_23 rfl rfl ?_
  refine fmg_4_rows (pc := 24) F (by assumption) hin_X1 dX1_fasten_24 (List.mem_of_getElem? (i := 3) rfl) ?_
  refine fmV_iload_n (pc := 27) (i := 2) F dX1_fasten_27 rfl rfl ?_
  refine fmV_ald_rows (pc := 28) F (by assumption) dX1_fasten_28 (vp_in_nI hr (by decide)) (fm_cn (by omega)) ?_
  refine fmV_aload_n (pc := 29) (i := 1) F dX1_fasten_29 rfl rfl ?_
  refine fmg_9_number (pc := 30) F (by assumption) (by assumption) hin_X0 dX1_fasten_30 (List.mem_of_getElem? (i := 6) rfl) ?_
  refine fmV_cVv (n := 1) (pc := 33) F (c_X2_append l D A G _ o ha hr hq hvq (by rw [fmu_c _ _ _ _ _ (by decide), fmu_c _ _ _ _ _ (by decide), fmu_c _ _ _ _ _ (by decide)]; exact hu) (by rw [fmu_c _ _ _ _ _ (by decide), fmu_c _ _ _ _ _ (by decide), fmu_c _ _ _ _ _ (by decide)]; exact hp) (nI k)) gX1_fasten_X2_append rfl rfl rfl (by decide +kernel) ⟨Nat.le_of_ble_eq_true rfl, Nat.le_of_ble_eq_true rfl⟩ (fmR_7 F (by assumption) (by assumption)) rfl rfl (Nat.le_of_ble_eq_true rfl) dX1_fasten_33 ⟨Nat.le_of_ble_eq_true rfl, Nat.le_of_ble_eq_true rfl⟩ (fun u1 hc3 => ?_)
  have hc3 := hc3.symm
  subst hc3
  rw [fmu_c _ _ _ _ _ (by decide), fmu_c _ _ _ _ _ (by decide), hu]
  exact fmV_vret (pc := 36) F dX1_fasten_36 rfl rfl

set_option maxHeartbeats 4000000 in
set_option maxRecDepth 100000 in
theorem c_X1_unfasten (l : Launch) (D : va_G) (A : Nat → Prop) (G : fmG) (σ : fmS) (o : Nat → Int64) {a k : Nat} (ha : a < 2) (hb : k < 14) {r p v : Nat} (hr : r < 4) (hv : v ≤ 6) (hpv : p < v) (hs : σ 52 a k 0 = 1) (h53 : σ 53 a k 0 = nI r) (h54 : σ 54 a k 0 = nI p) (hu : σ 48 a r 0 = nI v) (hm : ∀ j, p < j → j < v → ∃ c, c < 14 ∧ c ≠ k ∧ σ 8 a r j = nI c) (x : Int32) : fmMi l D A G yX1_unfasten wsX1_unfasten (fmRm 2 0 0) 0 0 [.ref (G.1 4 a 0), .ref (G.1 9 a k), .int x] σ o (fun y u => y = nI (v - 1 - p) ∧ u = fmUnf σ a k r p v x) := by
  refine fmMi_of (cc := cX1_unfasten) (maxL := 6) (ret := (some .int)) (by decide +kernel) rfl (Nat.le_of_ble_eq_true rfl) ?_
  intro P_ E_ S_ M_ args_ below_ meth_ C_ F
  have hin_X0 : ∀ w ∈ wsX00, w ∈ wsX1_unfasten := (fun _ h => List.mem_cons_of_mem _ (List.mem_append_left _ (List.mem_append_left _ (List.mem_append_right _ h))))
  have hin_X1 : ∀ w ∈ wsX10, w ∈ wsX1_unfasten := (fun _ h => List.mem_cons_of_mem _ (List.mem_append_left _ (List.mem_append_right _ h)))
  have hin_X2 : ∀ w ∈ wsX20, w ∈ wsX1_unfasten := (fun _ h => List.mem_cons_of_mem _ (List.mem_append_right _ h))
  have hg54 : fmGap σ a r p v 54 a k 0 = nI p := by rw [fmGap, fmu_c _ _ _ _ _ (by decide), fmu_c _ _ _ _ _ (by decide)]; exact h54
  have hI48 : ∀ n, (fmIter (fmMoveIn a (σ 8 a r)) p (fmGap σ a r p v) n) 48 a r 0 = nI (v - 1) := fun n => by rw [fmIter_c (fun i τ => fmMoveIn_c (by decide) (by decide) i τ a r), fmGap, fmu_self]
  have hI8g : ∀ n, (fmIter (fmMoveIn a (σ 8 a r)) p (fmGap σ a r p v) n) 8 a r = fmShift (σ 8 a r) p v := fun n => by rw [fmIter_c (fun i τ => fmMoveIn_c (by decide) (by decide) i τ a r), fmGap, fmu_c _ _ _ _ _ (by decide), fmu_self]
  have hI45 : ∀ n, (fmIter (fmMoveIn a (σ 8 a r)) p (fmGap σ a r p v) n) 45 a 0 0 = σ 45 a 0 0 := fun n => by rw [fmIter_c (fun i τ => fmMoveIn_c (by decide) (by decide) i τ a 0), fmGap, fmu_c _ _ _ _ _ (by decide), fmu_c _ _ _ _ _ (by decide)]
  have hI54 : (fmIter (fmMoveIn a (σ 8 a r)) p (fmGap σ a r p v) (v - 1 - p)) 54 a k 0 = nI p := by
    rw [fmIter_k (v - 1 - p) (fun i hi => ?_)]
    · exact hg54
    · obtain ⟨c9, hc9, hck, hce⟩ := hm (p + i + 1) (by omega) (by omega)
      rw [fm_cl hce (by omega)]
      exact hck
  refine fmV_aload_n (pc := 0) (i := 1) F dX1_unfasten_0 rfl rfl ?_
  refine fmg_9_status (pc := 1) F (by assumption) (by assumption) hin_X0 dX1_unfasten_1 (List.mem_of_getElem? (i := 1) rfl) ?_
  refine fmV_iconst (pc := 4) (v := 1) F dX1_unfasten_4 rfl ?_
  refine fmV_icmp_eq (pc := 5) (tgt := 10) F dX1_unfasten_5 (by decide) (fun h1 => ?_) (fun h1 => ?_)
  · refine fmV_aload_n (pc := 10) (i := 0) F dX1_unfasten_10 rfl rfl ?_
    refine fmg_4_rows (pc := 11) F (by assumption) hin_X1 dX1_unfasten_11 (List.mem_of_getElem? (i := 2) rfl) ?_
    refine fmV_aload_n (pc := 14) (i := 1) F dX1_unfasten_14 rfl rfl ?_
    refine fmg_9_row (pc := 15) F (by assumption) (by assumption) hin_X0 dX1_unfasten_15 (List.mem_of_getElem? (i := 3) rfl) ?_
    refine fmV_ald_rows (pc := 18) F (by assumption) dX1_unfasten_18 (fm_in h53 hr (by decide)) (fm_cl h53 (by omega)) ?_
    refine fmV_astore_n (pc := 19) (i := 3) F dX1_unfasten_19 rfl (by decide) ?_
    refine fmV_aload_n (pc := 20) (i := 3) F dX1_unfasten_20 rfl rfl ?_
    refine fmV_aload_n (pc := 21) (i := 1) F dX1_unfasten_21 rfl rfl ?_
    refine fmg_9_place (pc := 22) F (by assumption) (by assumption) hin_X0 dX1_unfasten_22 (List.mem_of_getElem? (i := 4) rfl) ?_
    rw [h54]
    refine fmV_cVv (n := 1) (pc := 25) F (c_X2_closeGap l D A G σ o ha hr hv hpv hu) gX1_unfasten_X2_closeGap rfl rfl rfl (by decide +kernel) ⟨Nat.le_of_ble_eq_true rfl, Nat.le_of_ble_eq_true rfl⟩ (fmR_7 F (by assumption) (by assumption)) rfl rfl (Nat.le_of_ble_eq_true rfl) dX1_unfasten_25 ⟨Nat.le_of_ble_eq_true rfl, Nat.le_of_ble_eq_true rfl⟩ (fun u1 hc3 => ?_)
    have hc3 := hc3.symm
    subst hc3
    refine fmV_aload_n (pc := 28) (i := 1) F dX1_unfasten_28 rfl rfl ?_
    refine fmg_9_place (pc := 29) F (by assumption) (by assumption) hin_X0 dX1_unfasten_29 (List.mem_of_getElem? (i := 4) rfl) ?_
    rw [hg54]
    refine fmV_istore (pc := 32) (i := 4) F dX1_unfasten_32 (by decide) ?_
    refine fmV_lv (lv' := [(0, .ref (G.1 4 a 0)), (1, .ref (G.1 9 a k)), (2, .int x), (3, .ref (G.1 7 a r)), (4, .int (nI (p + 0)))]) ⟨rfl, rfl, rfl, rfl, rfl, trivial⟩ ?_
    refine fmV_up (N := (v - 1 - p)) (pc := 34) (σf := fun j => (fmIter (fmMoveIn a (σ 8 a r)) p (fmGap σ a r p v) j)) (lvf := fun j => [(0, .ref (G.1 4 a 0)), (1, .ref (G.1 9 a k)), (2, .int x), (3, .ref (G.1 7 a r)), (4, .int (nI (p + j)))]) 0 (Nat.zero_le _) ?_ ?_
    · refine fmV_iload (pc := 34) (i := 4) F dX1_unfasten_34 rfl ?_
      refine fmV_aload_n (pc := 36) (i := 3) F dX1_unfasten_36 rfl rfl ?_
      refine fmg_7_used (pc := 37) F (by assumption) (by assumption) hin_X2 dX1_unfasten_37 (List.mem_of_getElem? (i := 5) rfl) ?_
      refine fmV_icmp_ge (pc := 40) (tgt := 81) F dX1_unfasten_40 (by decide) (fun h2 => ?_) (fun h2 => ?_)
      · refine fmV_aload_n (pc := 81) (i := 3) F dX1_unfasten_81 rfl rfl ?_
        refine fmg_7_used (pc := 82) F (by assumption) (by assumption) hin_X2 dX1_unfasten_82 (List.mem_of_getElem? (i := 5) rfl) ?_
        refine fmV_aload_n (pc := 85) (i := 1) F dX1_unfasten_85 rfl rfl ?_
        refine fmg_9_place (pc := 86) F (by assumption) (by assumption) hin_X0 dX1_unfasten_86 (List.mem_of_getElem? (i := 4) rfl) ?_
        refine fmV_isub (pc := 89) F dX1_unfasten_89 ?_
        rw [hI48, hI54, pk_sub (by omega)]
        refine fmV_istore (pc := 90) (i := 4) F dX1_unfasten_90 (by decide) ?_
        refine fmV_aload_n (pc := 92) (i := 0) F dX1_unfasten_92 rfl rfl ?_
        refine fmV_dup (pc := 93) F dX1_unfasten_93 rfl ?_
        refine fmg_4_loosened (pc := 94) F (by assumption) hin_X1 dX1_unfasten_94 (List.mem_of_getElem? (i := 9) rfl) ?_
        refine fmV_iload (pc := 97) (i := 4) F dX1_unfasten_97 rfl ?_
        refine fmV_iadd (pc := 99) F dX1_unfasten_99 ?_
        refine fmp_4_loosened (pc := 100) F (by assumption) hin_X1 dX1_unfasten_100 (List.mem_of_getElem? (i := 9) rfl) ?_
        refine fmV_aload_n (pc := 103) (i := 1) F dX1_unfasten_103 rfl rfl ?_
        refine fmV_iload_n (pc := 104) (i := 2) F dX1_unfasten_104 rfl rfl ?_
        refine fmp_9_status (pc := 105) F (by assumption) (by assumption) hin_X0 dX1_unfasten_105 (List.mem_of_getElem? (i := 1) rfl) ?_
        refine fmV_aload_n (pc := 108) (i := 1) F dX1_unfasten_108 rfl rfl ?_
        refine fmV_iconst (pc := 109) (v := (-1)) F dX1_unfasten_109 rfl ?_
        refine fmp_9_row (pc := 110) F (by assumption) (by assumption) hin_X0 dX1_unfasten_110 (List.mem_of_getElem? (i := 3) rfl) ?_
        refine fmV_aload_n (pc := 113) (i := 1) F dX1_unfasten_113 rfl rfl ?_
        refine fmV_iconst (pc := 114) (v := (-1)) F dX1_unfasten_114 rfl ?_
        refine fmp_9_place (pc := 115) F (by assumption) (by assumption) hin_X0 dX1_unfasten_115 (List.mem_of_getElem? (i := 4) rfl) ?_
        refine fmV_iload (pc := 118) (i := 4) F dX1_unfasten_118 rfl ?_
        exact fmV_iret (pc := 120) F dX1_unfasten_120 rfl ⟨rfl, by rw [hI45]; rfl⟩
      · rw [hI48] at h2
        exact absurd (nI_le (by omega) (by omega)) h2
    · intro j hj ih
      obtain ⟨c9, hc9, hck, hce⟩ := hm (p + j + 1) (by omega) (by omega)
      have hI8 : (fmIter (fmMoveIn a (σ 8 a r)) p (fmGap σ a r p v) j) 8 a r (p + j) = nI c9 := by rw [hI8g, fmShift, if_pos (by omega)]; exact hce
      have hcl9 : (σ 8 a r (p + j + 1)).toNatClampNeg = c9 := fm_cl hce (by omega)
      refine fmV_iload (pc := 34) (i := 4) F dX1_unfasten_34 rfl ?_
      refine fmV_aload_n (pc := 36) (i := 3) F dX1_unfasten_36 rfl rfl ?_
      refine fmg_7_used (pc := 37) F (by assumption) (by assumption) hin_X2 dX1_unfasten_37 (List.mem_of_getElem? (i := 5) rfl) ?_
      refine fmV_icmp_ge (pc := 40) (tgt := 81) F dX1_unfasten_40 (by decide) (fun h2 => ?_) (fun h2 => ?_)
      · rw [hI48] at h2
        exact absurd h2 (nI_ge (by omega) (by omega))
      · refine fmV_aload_n (pc := 43) (i := 0) F dX1_unfasten_43 rfl rfl ?_
        refine fmg_4_canoes (pc := 44) F (by assumption) hin_X1 dX1_unfasten_44 (List.mem_of_getElem? (i := 6) rfl) ?_
        refine fmV_aload_n (pc := 47) (i := 3) F dX1_unfasten_47 rfl rfl ?_
        refine fmg_7_moored (pc := 48) F (by assumption) (by assumption) hin_X2 dX1_unfasten_48 (List.mem_of_getElem? (i := 7) rfl) ?_
        refine fmV_iload (pc := 51) (i := 4) F dX1_unfasten_51 rfl ?_
        refine fmal_8 (pc := 53) F (by assumption) (by assumption) dX1_unfasten_53 (vp_in_nI (by omega) (by decide)) (fm_cn (by omega)) ?_
        refine fmV_ald_canoes (pc := 54) F (by assumption) dX1_unfasten_54 (fm_in hI8 hc9 (by decide)) (fm_cl hI8 (by omega)) ?_
        refine fmV_astore (pc := 55) (i := 5) F dX1_unfasten_55 (by decide) ?_
        refine fmV_aload (pc := 57) (i := 5) F dX1_unfasten_57 rfl ?_
        refine fmV_iload (pc := 59) (i := 4) F dX1_unfasten_59 rfl ?_
        refine fmp_9_place (pc := 61) F (by assumption) (by assumption) hin_X0 dX1_unfasten_61 (List.mem_of_getElem? (i := 4) rfl) ?_
        refine fmV_aload (pc := 64) (i := 5) F dX1_unfasten_64 rfl ?_
        refine fmV_dup (pc := 66) F dX1_unfasten_66 rfl ?_
        refine fmg_9_loosened (pc := 67) F (by assumption) (by assumption) hin_X0 dX1_unfasten_67 (List.mem_of_getElem? (i := 8) rfl) ?_
        refine fmV_iconst (pc := 70) (v := 1) F dX1_unfasten_70 rfl ?_
        refine fmV_iadd (pc := 71) F dX1_unfasten_71 ?_
        refine fmp_9_loosened (pc := 72) F (by assumption) (by assumption) hin_X0 dX1_unfasten_72 (List.mem_of_getElem? (i := 8) rfl) ?_
        refine fmV_iinc (pc := 75) (i := 4) F dX1_unfasten_75 rfl rfl (by decide) ?_
        refine fmV_goto (pc := 78) (tgt := 34) F dX1_unfasten_78 (by decide) ?_
        refine fmV_sg (σ1 := (fmIter (fmMoveIn a (σ 8 a r)) p (fmGap σ a r p v) (j + 1))) (by rw [fmIter, fmMoveIn, hcl9]; first | done | rfl) ?_
        refine fmV_lv ?_ ih
        exact ⟨rfl, rfl, rfl, rfl, by rw [show p + (j + 1) = p + j + 1 from rfl, nI_succ (p + j)]; rfl, trivial⟩
  · exact absurd hs h1

set_option maxHeartbeats 4000000 in
set_option maxRecDepth 100000 in
theorem c_X1_liesDry (l : Launch) (D : va_G) (A : Nat → Prop) (G : fmG) (σ : fmS) (o : Nat → Int64) {a k : Nat} (ha : a < 2) (hb : k < 14) {t : Nat} (ht : t < 2 ^ 31) (h42 : σ 42 a 0 0 = nI t) : fmMi l D A G yX1_liesDry wsX1_liesDry (fmRm 2 0 0) 0 0 [.ref (G.1 4 a 0), .ref (G.1 9 a k)] σ o (fun y u => y = (if fmDry σ a k t then 1 else 0) ∧ u = σ) := by
  refine fmMi_of (cc := cX1_liesDry) (maxL := 2) (ret := (some .boolean)) (by decide +kernel) rfl (Nat.le_of_ble_eq_true rfl) ?_
  intro P_ E_ S_ M_ args_ below_ meth_ C_ F
  have hin_X0 : ∀ w ∈ wsX00, w ∈ wsX1_liesDry := (fun _ h => List.mem_cons_of_mem _ (List.mem_append_left _ (List.mem_append_left _ (List.mem_append_right _ h))))
  have hin_X1 : ∀ w ∈ wsX10, w ∈ wsX1_liesDry := (fun _ h => List.mem_cons_of_mem _ (List.mem_append_left _ (List.mem_append_right _ h)))
  have hin_X3 : ∀ w ∈ wsX30, w ∈ wsX1_liesDry := (fun _ h => List.mem_cons_of_mem _ (List.mem_append_right _ h))
  refine fmV_aload_n (pc := 0) (i := 1) F dX1_liesDry_0 rfl rfl ?_
  refine fmg_9_status (pc := 1) F (by assumption) (by assumption) hin_X0 dX1_liesDry_1 (List.mem_of_getElem? (i := 1) rfl) ?_
  refine fmV_iconst (pc := 4) (v := 1) F dX1_liesDry_4 rfl ?_
  refine fmV_icmp_ne (pc := 5) (tgt := 32) F dX1_liesDry_5 (by decide) (fun h1 => ?_) (fun h1 => ?_)
  · refine fmV_iconst (pc := 32) (v := 0) F dX1_liesDry_32 rfl ?_
    exact fmV_zret (pc := 33) F dX1_liesDry_33 rfl rfl ⟨by rw [if_neg (fun q => h1 q.1)], rfl⟩
  · refine fmV_aload_n (pc := 8) (i := 1) F dX1_liesDry_8 rfl rfl ?_
    refine fmg_9_place (pc := 9) F (by assumption) (by assumption) hin_X0 dX1_liesDry_9 (List.mem_of_getElem? (i := 2) rfl) ?_
    refine fmV_aload_n (pc := 12) (i := 0) F dX1_liesDry_12 rfl rfl ?_
    refine fmg_4_water (pc := 13) F (by assumption) hin_X1 dX1_liesDry_13 (List.mem_of_getElem? (i := 3) rfl) ?_
    refine fmV_aload_n (pc := 16) (i := 0) F dX1_liesDry_16 rfl rfl ?_
    refine fmg_4_step (pc := 17) F (by assumption) hin_X1 dX1_liesDry_17 (List.mem_of_getElem? (i := 4) rfl) ?_
    rw [h42]
    refine fmV_cVi (n := 1) (pc := 20) F (c_X3_tideIn l D A G σ o (t := t) (by omega)) gX1_liesDry_X3_tideIn rfl rfl rfl (by decide +kernel) ⟨Nat.le_of_ble_eq_true rfl, Nat.le_of_ble_eq_true rfl⟩ (fmR_1 F ) rfl rfl (Nat.le_of_ble_eq_true rfl) dX1_liesDry_20 ⟨Nat.le_of_ble_eq_true rfl, Nat.le_of_ble_eq_true rfl⟩ (fun r2 u1 hc3 => ?_)
    obtain ⟨hr9, hu9⟩ := hc3
    have hr9 := hr9.symm
    have hu9 := hu9.symm
    subst hr9
    subst hu9
    refine fmV_iadd (pc := 23) F dX1_liesDry_23 ?_
    refine fmV_iconst (pc := 24) (v := 4) F dX1_liesDry_24 rfl ?_
    refine fmV_icmp_ge (pc := 25) (tgt := 32) F dX1_liesDry_25 (by decide) (fun h2 => ?_) (fun h2 => ?_)
    · refine fmV_iconst (pc := 32) (v := 0) F dX1_liesDry_32 rfl ?_
      exact fmV_zret (pc := 33) F dX1_liesDry_33 rfl rfl ⟨by rw [if_neg (fun q => Int32.not_lt.mpr h2 q.2)], rfl⟩
    · refine fmV_iconst (pc := 28) (v := 1) F dX1_liesDry_28 rfl ?_
      refine fmV_goto (pc := 29) (tgt := 33) F dX1_liesDry_29 (by decide) ?_
      exact fmV_zret (pc := 33) F dX1_liesDry_33 rfl rfl ⟨by rw [if_pos ⟨h1, Int32.not_le.mp h2⟩], rfl⟩

set_option maxHeartbeats 4000000 in
set_option maxRecDepth 100000 in
theorem c_X1_nextRowNotFull (l : Launch) (D : va_G) (A : Nat → Prop) (G : fmG) (σ : fmS) (o : Nat → Int64) {a rc r0 : Nat} (ha : a < 2) (hrc : rc ≤ 4) (hr0 : r0 < rc) (h40 : σ 40 a 0 0 = nI rc) : fmMi l D A G yX1_nextRowNotFull wsX1_nextRowNotFull (fmRm 2 0 0) 0 0 [.ref (G.1 4 a 0), .int (nI r0)] σ o (fun y u => y = fmNx σ a rc r0 (rc - 1) 1 ∧ u = σ) := by
  refine fmMi_of (cc := cX1_nextRowNotFull) (maxL := 4) (ret := (some .int)) (by decide +kernel) rfl (Nat.le_of_ble_eq_true rfl) ?_
  intro P_ E_ S_ M_ args_ below_ meth_ C_ F
  have hin_X1 : ∀ w ∈ wsX10, w ∈ wsX1_nextRowNotFull := (fun _ h => List.mem_cons_of_mem _ (List.mem_append_left _ (List.mem_append_right _ h)))
  have hin_X2 : ∀ w ∈ wsX20, w ∈ wsX1_nextRowNotFull := (fun _ h => List.mem_cons_of_mem _ (List.mem_append_right _ h))
  refine fmV_iconst (pc := 0) (v := 1) F dX1_nextRowNotFull_0 rfl ?_
  refine fmV_istore_n (pc := 1) (i := 2) F dX1_nextRowNotFull_1 rfl (by decide) ?_
  refine fmV_lv (lv' := [(0, .ref (G.1 4 a 0)), (1, .int (nI r0)), (2, .int (nI 1))]) ⟨rfl, rfl, rfl, trivial⟩ ?_
  refine fmV_upH (N := rc) (pc := 2) (Hd := fun j => fmNx σ a rc r0 (rc - j) j = fmNx σ a rc r0 (rc - 1) 1) (σf := fun j => σ) (lvf := fun j => [(0, .ref (G.1 4 a 0)), (1, .int (nI r0)), (2, .int (nI j))]) 1 (by omega) rfl (fun hH => ?_) ?_
  · refine fmV_iload_n (pc := 2) (i := 2) F dX1_nextRowNotFull_2 rfl rfl ?_
    refine fmV_aload_n (pc := 3) (i := 0) F dX1_nextRowNotFull_3 rfl rfl ?_
    refine fmg_4_rowCount (pc := 4) F (by assumption) hin_X1 dX1_nextRowNotFull_4 (List.mem_of_getElem? (i := 1) rfl) ?_
    refine fmV_icmp_ge (pc := 7) (tgt := 39) F dX1_nextRowNotFull_7 (by decide) (fun h1 => ?_) (fun h1 => ?_)
    · refine fmV_iconst (pc := 39) (v := (-1)) F dX1_nextRowNotFull_39 rfl ?_
      exact fmV_iret (pc := 40) F dX1_nextRowNotFull_40 rfl ⟨by rw [← hH, Nat.sub_self]; rfl, rfl⟩
    · rw [h40] at h1
      exact absurd (nI_le (Nat.le_refl rc) (by omega)) h1
  · intro j hj hH ih
    have hrr : (r0 + j) % rc < 4 := Nat.lt_of_lt_of_le (Nat.mod_lt _ (by omega)) hrc
    refine fmV_iload_n (pc := 2) (i := 2) F dX1_nextRowNotFull_2 rfl rfl ?_
    refine fmV_aload_n (pc := 3) (i := 0) F dX1_nextRowNotFull_3 rfl rfl ?_
    refine fmg_4_rowCount (pc := 4) F (by assumption) hin_X1 dX1_nextRowNotFull_4 (List.mem_of_getElem? (i := 1) rfl) ?_
    refine fmV_icmp_ge (pc := 7) (tgt := 39) F dX1_nextRowNotFull_7 (by decide) (fun h1 => ?_) (fun h1 => ?_)
    · rw [h40] at h1
      exact absurd h1 (nI_ge hj (by omega))
    · refine fmV_iload_n (pc := 10) (i := 1) F dX1_nextRowNotFull_10 rfl rfl ?_
      refine fmV_iload_n (pc := 11) (i := 2) F dX1_nextRowNotFull_11 rfl rfl ?_
      refine fmV_iadd (pc := 12) F dX1_nextRowNotFull_12 ?_
      refine fmV_aload_n (pc := 13) (i := 0) F dX1_nextRowNotFull_13 rfl rfl ?_
      refine fmg_4_rowCount (pc := 14) F (by assumption) hin_X1 dX1_nextRowNotFull_14 (List.mem_of_getElem? (i := 1) rfl) ?_
      refine fmV_irem (pc := 17) F dX1_nextRowNotFull_17 (by rw [h40]; exact nI_ne0 (by omega) (by omega)) ?_
      rw [h40, nI_add, pk_rem (by omega) (by omega) (by omega)]
      refine fmV_istore_n (pc := 18) (i := 3) F dX1_nextRowNotFull_18 rfl (by decide) ?_
      refine fmV_aload_n (pc := 19) (i := 0) F dX1_nextRowNotFull_19 rfl rfl ?_
      refine fmg_4_rows (pc := 20) F (by assumption) hin_X1 dX1_nextRowNotFull_20 (List.mem_of_getElem? (i := 2) rfl) ?_
      refine fmV_iload_n (pc := 23) (i := 3) F dX1_nextRowNotFull_23 rfl rfl ?_
      refine fmV_ald_rows (pc := 24) F (by assumption) dX1_nextRowNotFull_24 (vp_in_nI hrr (by decide)) (fm_cn (by omega)) ?_
      refine fmV_cVi (n := 0) (pc := 25) F (c_X2_isFull l D A G σ o ha hrr) gX1_nextRowNotFull_X2_isFull rfl rfl rfl (by decide +kernel) ⟨Nat.le_of_ble_eq_true rfl, Nat.le_of_ble_eq_true rfl⟩ (fmR_7 F (by assumption) (by assumption)) rfl rfl (Nat.le_of_ble_eq_true rfl) dX1_nextRowNotFull_25 ⟨Nat.le_of_ble_eq_true rfl, Nat.le_of_ble_eq_true rfl⟩ (fun r2 u1 hc3 => ?_)
      obtain ⟨hr9, hu9⟩ := hc3
      have hr9 := hr9.symm
      have hu9 := hu9.symm
      subst hr9
      subst hu9
      refine fmV_if_ne (pc := 28) (tgt := 33) F dX1_nextRowNotFull_28 (by decide) (fun h2 => ?_) (fun h2 => ?_)
      · refine fmV_iinc (pc := 33) (i := 2) F dX1_nextRowNotFull_33 rfl rfl (by decide) ?_
        refine fmV_goto (pc := 36) (tgt := 2) F dX1_nextRowNotFull_36 (by decide) ?_
        have hH2 : fmNx σ a rc r0 (rc - (j + 1)) (j + 1) = fmNx σ a rc r0 (rc - 1) 1 := by
          rw [← hH, show rc - j = (rc - (j + 1)) + 1 by omega, fmNx, if_neg (fun q => h2 (by rw [if_pos q]))]
        refine fmV_lv ?_ (ih hH2)
        exact ⟨rfl, rfl, by rw [nI_succ j]; rfl, trivial⟩
      · refine fmV_iload_n (pc := 31) (i := 3) F dX1_nextRowNotFull_31 rfl rfl ?_
        exact fmV_iret (pc := 32) F dX1_nextRowNotFull_32 rfl ⟨by rw [← hH, show rc - j = (rc - (j + 1)) + 1 by omega, fmNx, if_pos (by rcases Decidable.em (σ 48 a ((r0 + j) % rc) 0 < σ 47 a ((r0 + j) % rc) 0) with q | q; exact q; rw [if_neg q] at h2; exact absurd h2 (by decide))], rfl⟩

set_option maxHeartbeats 4000000 in
set_option maxRecDepth 100000 in
theorem c_X1_canoeAt (l : Launch) (D : va_G) (A : Nat → Prop) (G : fmG) (σ : fmS) (o : Nat → Int64) {a rc : Nat} (ha : a < 2) (hrc : rc ≤ 4) (h40 : σ 40 a 0 0 = nI rc) (hB : ∀ r, r < rc → ∃ v, v ≤ 6 ∧ σ 48 a r 0 = nI v ∧ ∀ j, j < v → ∃ c, c < 14 ∧ σ 8 a r j = nI c) (x y : Int32) : fmMq l D A G yX1_canoeAt wsX1_canoeAt (fmRm 2 0 0) 0 0 [.ref (G.1 4 a 0), .int x, .int y] σ o (fun z u => z = fmRef G a (fmAt σ a rc x y) ∧ u = σ) := by
  refine fmMq_of (cc := cX1_canoeAt) (maxL := 4) (ret := (some (.object "FloatMarket$Canoe"))) (by decide +kernel) rfl (Nat.le_of_ble_eq_true rfl) ?_
  intro P_ E_ S_ M_ args_ below_ meth_ C_ F
  have hin_X1 : ∀ w ∈ wsX10, w ∈ wsX1_canoeAt := (fun _ h => List.mem_cons_of_mem _ (List.mem_append_left _ (List.mem_append_right _ h)))
  have hin_X2 : ∀ w ∈ wsX20, w ∈ wsX1_canoeAt := (fun _ h => List.mem_cons_of_mem _ (List.mem_append_right _ h))
  refine fmV_iload_n (pc := 0) (i := 1) F dX1_canoeAt_0 rfl rfl ?_
  refine fmV_if_lt (pc := 1) (tgt := 12) F dX1_canoeAt_1 (by decide) (fun h1 => ?_) (fun h1 => ?_)
  · refine fmV_null (pc := 12) F dX1_canoeAt_12 ?_
    exact fmV_aret (pc := 13) (x := none) F dX1_canoeAt_13 rfl ⟨by rw [fmAt, if_neg (fun q => q.1 h1)]; rfl, rfl⟩
  · refine fmV_iload_n (pc := 4) (i := 1) F dX1_canoeAt_4 rfl rfl ?_
    refine fmV_aload_n (pc := 5) (i := 0) F dX1_canoeAt_5 rfl rfl ?_
    refine fmg_4_rowCount (pc := 6) F (by assumption) hin_X1 dX1_canoeAt_6 (List.mem_of_getElem? (i := 1) rfl) ?_
    refine fmV_icmp_lt (pc := 9) (tgt := 14) F dX1_canoeAt_9 (by decide) (fun h2 => ?_) (fun h2 => ?_)
    · rw [h40] at h2
      obtain ⟨x9, hx9, rfl⟩ := nI_of h1
      have hxr : x9 < rc := by
        rcases Nat.lt_or_ge x9 rc with q | q
        · exact q
        · exact absurd h2 (nI_nlt q hx9)
      have hin9 : vp_in (nI x9) 4 := vp_in_nI (by omega) (by decide)
      have hx4 : (nI x9).toNatClampNeg < 4 := by rw [fm_cn hx9]; omega
      obtain ⟨v9, hv6, huy, hm9⟩ := hB x9 hxr
      have hux : σ 48 a (nI x9).toNatClampNeg 0 = nI v9 := by rw [fm_cn hx9]; exact huy
      refine fmV_aload_n (pc := 14) (i := 0) F dX1_canoeAt_14 rfl rfl ?_
      refine fmg_4_rows (pc := 15) F (by assumption) hin_X1 dX1_canoeAt_15 (List.mem_of_getElem? (i := 2) rfl) ?_
      refine fmV_iload_n (pc := 18) (i := 1) F dX1_canoeAt_18 rfl rfl ?_
      refine fmV_ald_rows (pc := 19) F (by assumption) dX1_canoeAt_19 hin9 rfl ?_
      refine fmV_iload_n (pc := 20) (i := 2) F dX1_canoeAt_20 rfl rfl ?_
      refine fmV_cVi (n := 1) (pc := 21) F (c_X2_canoeAt l D A G σ o ha hx4 hv6 hux y) gX1_canoeAt_X2_canoeAt rfl rfl rfl (by decide +kernel) ⟨Nat.le_of_ble_eq_true rfl, Nat.le_of_ble_eq_true rfl⟩ (fmR_7 F (by assumption) (by assumption)) rfl rfl (Nat.le_of_ble_eq_true rfl) dX1_canoeAt_21 ⟨Nat.le_of_ble_eq_true rfl, Nat.le_of_ble_eq_true rfl⟩ (fun r2 u1 hc3 => ?_)
      obtain ⟨hr9, hu9⟩ := hc3
      have hr9 := hr9.symm
      have hu9 := hu9.symm
      subst hr9
      subst hu9
      refine fmV_istore_n (pc := 24) (i := 3) F dX1_canoeAt_24 rfl (by decide) ?_
      refine fmV_iload_n (pc := 25) (i := 3) F dX1_canoeAt_25 rfl rfl ?_
      refine fmV_iconst (pc := 26) (v := (-1)) F dX1_canoeAt_26 rfl ?_
      refine fmV_icmp_ne (pc := 27) (tgt := 34) F dX1_canoeAt_27 (by decide) (fun h3 => ?_) (fun h3 => ?_)
      · have hn9 : ∃ c9, c9 < 14 ∧ fmRAt σ a (nI x9).toNatClampNeg y = nI c9 := by
          rw [fmRAt] at h3 ⊢
          by_cases q : ¬ y < 0 ∧ y < σ 48 a (nI x9).toNatClampNeg 0
          · rw [if_pos q]
            rw [fm_cn hx9]
            obtain ⟨y9, hy9, rfl⟩ := nI_of q.1
            have hyv : y9 < v9 := by
              rcases Nat.lt_or_ge y9 v9 with z | z
              · exact z
              · exact absurd (hux ▸ q.2) (nI_nlt z hy9)
            rw [fm_cn hy9]
            exact hm9 y9 hyv
          · rw [if_neg q] at h3
            exact absurd rfl h3
        obtain ⟨c9, hc9, hn9⟩ := hn9
        refine fmV_aload_n (pc := 34) (i := 0) F dX1_canoeAt_34 rfl rfl ?_
        refine fmg_4_canoes (pc := 35) F (by assumption) hin_X1 dX1_canoeAt_35 (List.mem_of_getElem? (i := 3) rfl) ?_
        refine fmV_iload_n (pc := 38) (i := 3) F dX1_canoeAt_38 rfl rfl ?_
        refine fmV_ald_canoes (pc := 39) F (by assumption) dX1_canoeAt_39 (fm_in hn9 (by omega) (by decide)) rfl ?_
        exact fmV_aret (pc := 40) (x := some _) F dX1_canoeAt_40 rfl ⟨by rw [fmAt, if_pos ⟨h1, h2⟩, if_neg h3]; rfl, rfl⟩
      · refine fmV_null (pc := 30) F dX1_canoeAt_30 ?_
        refine fmV_goto (pc := 31) (tgt := 40) F dX1_canoeAt_31 (by decide) ?_
        exact fmV_aret (pc := 40) (x := none) F dX1_canoeAt_40 rfl ⟨by rw [fmAt, if_pos ⟨h1, h2⟩, if_pos h3]; rfl, rfl⟩
    · refine fmV_null (pc := 12) F dX1_canoeAt_12 ?_
      exact fmV_aret (pc := 13) (x := none) F dX1_canoeAt_13 rfl ⟨by rw [fmAt, if_neg (fun q => h2 (h40 ▸ q.2))]; rfl, rfl⟩

set_option maxHeartbeats 4000000 in
set_option maxRecDepth 100000 in
theorem c_X1_cheaper_nn (l : Launch) (D : va_G) (A : Nat → Prop) (G : fmG) (σ : fmS) (o : Nat → Int64) {a g : Nat} (ha : a < 2) (hg : g < 4) (lim : Int32) : fmMq l D A G yX1_cheaper wsX1_cheaper (fmRm 2 0 0) 0 0 [.ref (G.1 4 a 0), .null, .null, .int (nI g), .int lim] σ o (fun z u => z = fmRef G a (fmCh σ a g lim none none) ∧ u = σ) := by
  refine fmMq_of (cc := cX1_cheaper) (maxL := 6) (ret := (some (.object "FloatMarket$Canoe"))) (by decide +kernel) rfl (Nat.le_of_ble_eq_true rfl) ?_
  intro P_ E_ S_ M_ args_ below_ meth_ C_ F
  have hin_X0 : ∀ w ∈ wsX00, w ∈ wsX1_cheaper := (fun _ h => List.mem_cons_of_mem _ (List.mem_append_right _ h))
  refine fmV_aload_nN (pc := 0) (i := 2) F dX1_cheaper_0 rfl rfl ?_
  refine fmV_ifnullN (pc := 1) (tgt := 14) F dX1_cheaper_1 (by decide) ?_
  refine fmV_aload_nN (pc := 14) (i := 1) F dX1_cheaper_14 rfl rfl ?_
  exact fmV_aret (pc := 15) (x := none) F dX1_cheaper_15 rfl ⟨rfl, rfl⟩

set_option maxHeartbeats 4000000 in
set_option maxRecDepth 100000 in
theorem c_X1_cheaper_sn (l : Launch) (D : va_G) (A : Nat → Prop) (G : fmG) (σ : fmS) (o : Nat → Int64) {a g : Nat} (ha : a < 2) (hg : g < 4) (lim : Int32) {b : Nat} (hb : b < 14) : fmMq l D A G yX1_cheaper wsX1_cheaper (fmRm 2 0 0) 0 0 [.ref (G.1 4 a 0), .ref (G.1 9 a b), .null, .int (nI g), .int lim] σ o (fun z u => z = fmRef G a (fmCh σ a g lim (some b) none) ∧ u = σ) := by
  refine fmMq_of (cc := cX1_cheaper) (maxL := 6) (ret := (some (.object "FloatMarket$Canoe"))) (by decide +kernel) rfl (Nat.le_of_ble_eq_true rfl) ?_
  intro P_ E_ S_ M_ args_ below_ meth_ C_ F
  have hin_X0 : ∀ w ∈ wsX00, w ∈ wsX1_cheaper := (fun _ h => List.mem_cons_of_mem _ (List.mem_append_right _ h))
  refine fmV_aload_nN (pc := 0) (i := 2) F dX1_cheaper_0 rfl rfl ?_
  refine fmV_ifnullN (pc := 1) (tgt := 14) F dX1_cheaper_1 (by decide) ?_
  refine fmV_aload_n (pc := 14) (i := 1) F dX1_cheaper_14 rfl rfl ?_
  exact fmV_aret (pc := 15) (x := some _) F dX1_cheaper_15 rfl ⟨rfl, rfl⟩

set_option maxHeartbeats 4000000 in
set_option maxRecDepth 100000 in
theorem c_X1_cheaper_ns (l : Launch) (D : va_G) (A : Nat → Prop) (G : fmG) (σ : fmS) (o : Nat → Int64) {a g : Nat} (ha : a < 2) (hg : g < 4) (lim : Int32) {t : Nat} (ht : t < 14) : fmMq l D A G yX1_cheaper wsX1_cheaper (fmRm 2 0 0) 0 0 [.ref (G.1 4 a 0), .null, .ref (G.1 9 a t), .int (nI g), .int lim] σ o (fun z u => z = fmRef G a (fmCh σ a g lim none (some t)) ∧ u = σ) := by
  refine fmMq_of (cc := cX1_cheaper) (maxL := 6) (ret := (some (.object "FloatMarket$Canoe"))) (by decide +kernel) rfl (Nat.le_of_ble_eq_true rfl) ?_
  intro P_ E_ S_ M_ args_ below_ meth_ C_ F
  have hin_X0 : ∀ w ∈ wsX00, w ∈ wsX1_cheaper := (fun _ h => List.mem_cons_of_mem _ (List.mem_append_right _ h))
  refine fmV_aload_n (pc := 0) (i := 2) F dX1_cheaper_0 rfl rfl ?_
  refine fmV_ifnull (pc := 1)  F dX1_cheaper_1  ?_
  refine fmV_aload_n (pc := 4) (i := 2) F dX1_cheaper_4 rfl rfl ?_
  refine fmV_iload_n (pc := 5) (i := 3) F dX1_cheaper_5 rfl rfl ?_
  refine fmV_iload (pc := 6) (i := 4) F dX1_cheaper_6 rfl ?_
  refine fmV_cVi (n := 2) (pc := 8) F (c_X0_sells l D A G σ o ha ht hg lim) gX1_cheaper_X0_sells rfl rfl rfl (by decide +kernel) ⟨Nat.le_of_ble_eq_true rfl, Nat.le_of_ble_eq_true rfl⟩ (fmR_9 F (by assumption) (by assumption)) rfl rfl (Nat.le_of_ble_eq_true rfl) dX1_cheaper_8 ⟨Nat.le_of_ble_eq_true rfl, Nat.le_of_ble_eq_true rfl⟩ (fun r2 u1 hc3 => ?_)
  obtain ⟨hr9, hu9⟩ := hc3
  have hr9 := hr9.symm
  have hu9 := hu9.symm
  subst hr9
  subst hu9
  refine fmV_if_ne (pc := 11) (tgt := 16) F dX1_cheaper_11 (by decide) (fun h1 => ?_) (fun h1 => ?_)
  · refine fmV_aload_nN (pc := 16) (i := 1) F dX1_cheaper_16 rfl rfl ?_
    refine fmV_ifnullN (pc := 17) (tgt := 35) F dX1_cheaper_17 (by decide) ?_
    refine fmV_aload_n (pc := 35) (i := 2) F dX1_cheaper_35 rfl rfl ?_
    exact fmV_aret (pc := 36) (x := some _) F dX1_cheaper_36 rfl ⟨by rw [fmCh, if_pos (by rcases Decidable.em (fmSl σ a t g lim) with q | q; exact q; rw [if_neg q] at h1; exact absurd rfl h1)]; rfl, rfl⟩
  · refine fmV_aload_nN (pc := 14) (i := 1) F dX1_cheaper_14 rfl rfl ?_
    exact fmV_aret (pc := 15) (x := none) F dX1_cheaper_15 rfl ⟨by rw [fmCh, if_neg (fun q => by rw [if_pos q] at h1; exact absurd h1 (by decide))]; rfl, rfl⟩

set_option maxHeartbeats 4000000 in
set_option maxRecDepth 100000 in
theorem c_X1_cheaper_ss (l : Launch) (D : va_G) (A : Nat → Prop) (G : fmG) (σ : fmS) (o : Nat → Int64) {a g : Nat} (ha : a < 2) (hg : g < 4) (lim : Int32) {b t : Nat} (hb : b < 14) (ht : t < 14) : fmMq l D A G yX1_cheaper wsX1_cheaper (fmRm 2 0 0) 0 0 [.ref (G.1 4 a 0), .ref (G.1 9 a b), .ref (G.1 9 a t), .int (nI g), .int lim] σ o (fun z u => z = fmRef G a (fmCh σ a g lim (some b) (some t)) ∧ u = σ) := by
  refine fmMq_of (cc := cX1_cheaper) (maxL := 6) (ret := (some (.object "FloatMarket$Canoe"))) (by decide +kernel) rfl (Nat.le_of_ble_eq_true rfl) ?_
  intro P_ E_ S_ M_ args_ below_ meth_ C_ F
  have hin_X0 : ∀ w ∈ wsX00, w ∈ wsX1_cheaper := (fun _ h => List.mem_cons_of_mem _ (List.mem_append_right _ h))
  refine fmV_aload_n (pc := 0) (i := 2) F dX1_cheaper_0 rfl rfl ?_
  refine fmV_ifnull (pc := 1)  F dX1_cheaper_1  ?_
  refine fmV_aload_n (pc := 4) (i := 2) F dX1_cheaper_4 rfl rfl ?_
  refine fmV_iload_n (pc := 5) (i := 3) F dX1_cheaper_5 rfl rfl ?_
  refine fmV_iload (pc := 6) (i := 4) F dX1_cheaper_6 rfl ?_
  refine fmV_cVi (n := 2) (pc := 8) F (c_X0_sells l D A G σ o ha ht hg lim) gX1_cheaper_X0_sells rfl rfl rfl (by decide +kernel) ⟨Nat.le_of_ble_eq_true rfl, Nat.le_of_ble_eq_true rfl⟩ (fmR_9 F (by assumption) (by assumption)) rfl rfl (Nat.le_of_ble_eq_true rfl) dX1_cheaper_8 ⟨Nat.le_of_ble_eq_true rfl, Nat.le_of_ble_eq_true rfl⟩ (fun r2 u1 hc3 => ?_)
  obtain ⟨hr9, hu9⟩ := hc3
  have hr9 := hr9.symm
  have hu9 := hu9.symm
  subst hr9
  subst hu9
  refine fmV_if_ne (pc := 11) (tgt := 16) F dX1_cheaper_11 (by decide) (fun h1 => ?_) (fun h1 => ?_)
  · refine fmV_aload_n (pc := 16) (i := 1) F dX1_cheaper_16 rfl rfl ?_
    refine fmV_ifnull (pc := 17)  F dX1_cheaper_17  ?_
    refine fmV_aload_n (pc := 20) (i := 2) F dX1_cheaper_20 rfl rfl ?_
    refine fmg_9_asks (pc := 21) F ha ht hin_X0 dX1_cheaper_21 (List.mem_of_getElem? (i := 1) rfl) ?_
    refine fmV_iload_n (pc := 24) (i := 3) F dX1_cheaper_24 rfl rfl ?_
    refine fmal_11 (pc := 25) F (by assumption) (by assumption) dX1_cheaper_25 (vp_in_nI hg (by decide)) (fm_cn (by omega)) ?_
    refine fmV_aload_n (pc := 26) (i := 1) F dX1_cheaper_26 rfl rfl ?_
    refine fmg_9_asks (pc := 27) F ha hb hin_X0 dX1_cheaper_27 (List.mem_of_getElem? (i := 1) rfl) ?_
    refine fmV_iload_n (pc := 30) (i := 3) F dX1_cheaper_30 rfl rfl ?_
    refine fmal_11 (pc := 31) F (by assumption) (by assumption) dX1_cheaper_31 (vp_in_nI hg (by decide)) (fm_cn (by omega)) ?_
    refine fmV_icmp_ge (pc := 32) (tgt := 37) F dX1_cheaper_32 (by decide) (fun h2 => ?_) (fun h2 => ?_)
    · refine fmV_aload_n (pc := 37) (i := 2) F dX1_cheaper_37 rfl rfl ?_
      refine fmg_9_asks (pc := 38) F ha ht hin_X0 dX1_cheaper_38 (List.mem_of_getElem? (i := 1) rfl) ?_
      refine fmV_iload_n (pc := 41) (i := 3) F dX1_cheaper_41 rfl rfl ?_
      refine fmal_11 (pc := 42) F (by assumption) (by assumption) dX1_cheaper_42 (vp_in_nI hg (by decide)) (fm_cn (by omega)) ?_
      refine fmV_aload_n (pc := 43) (i := 1) F dX1_cheaper_43 rfl rfl ?_
      refine fmg_9_asks (pc := 44) F ha hb hin_X0 dX1_cheaper_44 (List.mem_of_getElem? (i := 1) rfl) ?_
      refine fmV_iload_n (pc := 47) (i := 3) F dX1_cheaper_47 rfl rfl ?_
      refine fmal_11 (pc := 48) F (by assumption) (by assumption) dX1_cheaper_48 (vp_in_nI hg (by decide)) (fm_cn (by omega)) ?_
      refine fmV_icmp_ne (pc := 49) (tgt := 67) F dX1_cheaper_49 (by decide) (fun h3 => ?_) (fun h3 => ?_)
      · refine fmV_iconst (pc := 67) (v := 0) F dX1_cheaper_67 rfl ?_
        refine fmV_istore (pc := 68) (i := 5) F dX1_cheaper_68 (by decide) ?_
        refine fmV_iload (pc := 70) (i := 5) F dX1_cheaper_70 rfl ?_
        refine fmV_if_eq (pc := 72) (tgt := 79) F dX1_cheaper_72 (by decide) (fun h5 => ?_) (fun h5 => ?_)
        · refine fmV_aload_n (pc := 79) (i := 1) F dX1_cheaper_79 rfl rfl ?_
          exact fmV_aret (pc := 80) (x := some _) F dX1_cheaper_80 rfl ⟨by rw [fmCh, if_pos (show fmSl σ a t g lim by rcases Decidable.em (fmSl σ a t g lim) with q | q; exact q; rw [if_neg q] at h1; exact absurd rfl h1)]; show _ = fmRef G a (if _ then _ else _); rw [if_neg (fun q => Int32.not_lt.mpr h2 q), if_neg (fun q => h3 q.1)]; rfl, rfl⟩
        · exact absurd h5 (by decide)
      · refine fmV_aload_n (pc := 52) (i := 2) F dX1_cheaper_52 rfl rfl ?_
        refine fmg_9_number (pc := 53) F ha ht hin_X0 dX1_cheaper_53 (List.mem_of_getElem? (i := 2) rfl) ?_
        refine fmV_aload_n (pc := 56) (i := 1) F dX1_cheaper_56 rfl rfl ?_
        refine fmg_9_number (pc := 57) F ha hb hin_X0 dX1_cheaper_57 (List.mem_of_getElem? (i := 2) rfl) ?_
        refine fmV_icmp_ge (pc := 60) (tgt := 67) F dX1_cheaper_60 (by decide) (fun h4 => ?_) (fun h4 => ?_)
        · refine fmV_iconst (pc := 67) (v := 0) F dX1_cheaper_67 rfl ?_
          refine fmV_istore (pc := 68) (i := 5) F dX1_cheaper_68 (by decide) ?_
          refine fmV_iload (pc := 70) (i := 5) F dX1_cheaper_70 rfl ?_
          refine fmV_if_eq (pc := 72) (tgt := 79) F dX1_cheaper_72 (by decide) (fun h5 => ?_) (fun h5 => ?_)
          · refine fmV_aload_n (pc := 79) (i := 1) F dX1_cheaper_79 rfl rfl ?_
            exact fmV_aret (pc := 80) (x := some _) F dX1_cheaper_80 rfl ⟨by rw [fmCh, if_pos (show fmSl σ a t g lim by rcases Decidable.em (fmSl σ a t g lim) with q | q; exact q; rw [if_neg q] at h1; exact absurd rfl h1)]; show _ = fmRef G a (if _ then _ else _); rw [if_neg (fun q => Int32.not_lt.mpr h2 q), if_neg (fun q => Int32.not_lt.mpr h4 q.2)]; rfl, rfl⟩
          · exact absurd h5 (by decide)
        · refine fmV_iconst (pc := 63) (v := 1) F dX1_cheaper_63 rfl ?_
          refine fmV_goto (pc := 64) (tgt := 68) F dX1_cheaper_64 (by decide) ?_
          refine fmV_istore (pc := 68) (i := 5) F dX1_cheaper_68 (by decide) ?_
          refine fmV_iload (pc := 70) (i := 5) F dX1_cheaper_70 rfl ?_
          refine fmV_if_eq (pc := 72) (tgt := 79) F dX1_cheaper_72 (by decide) (fun h5 => ?_) (fun h5 => ?_)
          · exact absurd h5 (by decide)
          · refine fmV_aload_n (pc := 75) (i := 2) F dX1_cheaper_75 rfl rfl ?_
            refine fmV_goto (pc := 76) (tgt := 80) F dX1_cheaper_76 (by decide) ?_
            exact fmV_aret (pc := 80) (x := some _) F dX1_cheaper_80 rfl ⟨by rw [fmCh, if_pos (show fmSl σ a t g lim by rcases Decidable.em (fmSl σ a t g lim) with q | q; exact q; rw [if_neg q] at h1; exact absurd rfl h1)]; show _ = fmRef G a (if _ then _ else _); rw [if_neg (fun q => Int32.not_lt.mpr h2 q), if_pos ⟨h3, Int32.not_le.mp h4⟩]; rfl, rfl⟩
    · refine fmV_aload_n (pc := 35) (i := 2) F dX1_cheaper_35 rfl rfl ?_
      exact fmV_aret (pc := 36) (x := some _) F dX1_cheaper_36 rfl ⟨by rw [fmCh, if_pos (show fmSl σ a t g lim by rcases Decidable.em (fmSl σ a t g lim) with q | q; exact q; rw [if_neg q] at h1; exact absurd rfl h1)]; show _ = fmRef G a (if _ then _ else _); rw [if_pos (Int32.not_le.mp h2)]; rfl, rfl⟩
  · refine fmV_aload_n (pc := 14) (i := 1) F dX1_cheaper_14 rfl rfl ?_
    exact fmV_aret (pc := 15) (x := some _) F dX1_cheaper_15 rfl ⟨by rw [fmCh, if_neg (fun q => by rw [if_pos q] at h1; exact absurd h1 (by decide))]; rfl, rfl⟩

theorem c_X1_cheaper (l : Launch) (D : va_G) (A : Nat → Prop) (G : fmG) (σ : fmS) (o : Nat → Int64) {a g : Nat} (ha : a < 2) (hg : g < 4) (lim : Int32) (b t : Option Nat) (hb : ∀ c, b = some c → c < 14) (ht : ∀ c, t = some c → c < 14) : fmMq l D A G yX1_cheaper wsX1_cheaper (fmRm 2 0 0) 0 0 [.ref (G.1 4 a 0), va_rf (fmRef G a b), va_rf (fmRef G a t), .int (nI g), .int lim] σ o (fun z u => z = fmRef G a (fmCh σ a g lim b t) ∧ u = σ) := by
  cases b with
  | none => cases t with
    | none => exact c_X1_cheaper_nn l D A G σ o ha hg lim
    | some t => exact c_X1_cheaper_ns l D A G σ o ha hg lim (ht t rfl)
  | some b => cases t with
    | none => exact c_X1_cheaper_sn l D A G σ o ha hg lim (hb b rfl)
    | some t => exact c_X1_cheaper_ss l D A G σ o ha hg lim (hb b rfl) (ht t rfl)

set_option maxHeartbeats 4000000 in
set_option maxRecDepth 100000 in
theorem c_X1_cheapestSeller (l : Launch) (D : va_G) (A : Nat → Prop) (G : fmG) (σ : fmS) (o : Nat → Int64) {a k : Nat} (ha : a < 2) (hb : k < 14) {g rc : Nat} (hg : g < 4) (hrc : rc ≤ 4) (h40 : σ 40 a 0 0 = nI rc) (hB : fmBd σ a rc) : fmMq l D A G yX1_cheapestSeller wsX1_cheapestSeller (fmRm 3 0 0) 0 0 [.ref (G.1 4 a 0), .ref (G.1 9 a k), .int (nI g)] σ o (fun z u => z = fmRef G a (fmBest σ a rc k g) ∧ u = σ) := by
  refine fmMq_of (cc := cX1_cheapestSeller) (maxL := 7) (ret := (some (.object "FloatMarket$Canoe"))) (by decide +kernel) rfl (Nat.le_of_ble_eq_true rfl) ?_
  intro P_ E_ S_ M_ args_ below_ meth_ C_ F
  have hin_X0 : ∀ w ∈ wsX00, w ∈ wsX1_cheapestSeller := (fun _ h => List.mem_cons_of_mem _ (List.mem_append_left _ (List.mem_append_left _ (List.mem_append_right _ h))))
  have hin_X1 : ∀ w ∈ wsX10, w ∈ wsX1_cheapestSeller := (fun _ h => List.mem_cons_of_mem _ (List.mem_append_left _ (List.mem_append_right _ h)))
  have hin_X2 : ∀ w ∈ wsX20, w ∈ wsX1_cheapestSeller := (fun _ h => List.mem_cons_of_mem _ (List.mem_append_right _ h))
  have hC1 : ∀ c, (fmCh σ a g (fmLim σ a k g) none (fmAt σ a rc (σ 53 a k 0) ((σ 54 a k 0) - 1))) = some c → c < 14 := fmCh_lt (fun c h => by cases h) (fmAt_lt hrc hB _ _)
  have hC2 : ∀ c, (fmCh σ a g (fmLim σ a k g) (fmCh σ a g (fmLim σ a k g) none (fmAt σ a rc (σ 53 a k 0) ((σ 54 a k 0) - 1))) (fmAt σ a rc (σ 53 a k 0) ((σ 54 a k 0) + 1))) = some c → c < 14 := fmCh_lt hC1 (fmAt_lt hrc hB _ _)
  have hC3 : ∀ c, (fmCh σ a g (fmLim σ a k g) (fmCh σ a g (fmLim σ a k g) (fmCh σ a g (fmLim σ a k g) none (fmAt σ a rc (σ 53 a k 0) ((σ 54 a k 0) - 1))) (fmAt σ a rc (σ 53 a k 0) ((σ 54 a k 0) + 1))) (fmAt σ a rc ((σ 53 a k 0) - 1) (σ 54 a k 0))) = some c → c < 14 := fmCh_lt hC2 (fmAt_lt hrc hB _ _)
  refine fmV_aload_n (pc := 0) (i := 1) F dX1_cheapestSeller_0 rfl rfl ?_
  refine fmg_9_pays (pc := 1) F (by assumption) (by assumption) hin_X0 dX1_cheapestSeller_1 (List.mem_of_getElem? (i := 1) rfl) ?_
  refine fmV_iload_n (pc := 4) (i := 2) F dX1_cheapestSeller_4 rfl rfl ?_
  refine fmal_13 (pc := 5) F (by assumption) (by assumption) dX1_cheapestSeller_5 (vp_in_nI hg (by decide)) (fm_cn (by omega)) ?_
  refine fmV_aload_n (pc := 6) (i := 1) F dX1_cheapestSeller_6 rfl rfl ?_
  refine fmg_9_coins (pc := 7) F (by assumption) (by assumption) hin_X0 dX1_cheapestSeller_7 (List.mem_of_getElem? (i := 2) rfl) ?_
  refine fmV_mmin (pc := 10) F ⟨(List.mem_of_getElem? (i := 3) rfl), (List.mem_of_getElem? (i := 4) rfl), (List.mem_of_getElem? (i := 5) rfl), (List.mem_of_getElem? (i := 6) rfl)⟩ (Nat.le_of_ble_eq_true rfl) (Nat.le_of_ble_eq_true rfl) (Nat.le_of_ble_eq_true rfl) (Nat.le_of_ble_eq_true rfl) dX1_cheapestSeller_10 ?_
  refine fmV_istore_n (pc := 13) (i := 3) F dX1_cheapestSeller_13 rfl (by decide) ?_
  refine fmV_aload_n (pc := 14) (i := 1) F dX1_cheapestSeller_14 rfl rfl ?_
  refine fmg_9_row (pc := 15) F (by assumption) (by assumption) hin_X0 dX1_cheapestSeller_15 (List.mem_of_getElem? (i := 7) rfl) ?_
  refine fmV_istore (pc := 18) (i := 4) F dX1_cheapestSeller_18 (by decide) ?_
  refine fmV_aload_n (pc := 20) (i := 1) F dX1_cheapestSeller_20 rfl rfl ?_
  refine fmg_9_place (pc := 21) F (by assumption) (by assumption) hin_X0 dX1_cheapestSeller_21 (List.mem_of_getElem? (i := 8) rfl) ?_
  refine fmV_istore (pc := 24) (i := 5) F dX1_cheapestSeller_24 (by decide) ?_
  refine fmV_null (pc := 26) F dX1_cheapestSeller_26 ?_
  refine fmV_astoreN (pc := 27) (i := 6) F dX1_cheapestSeller_27 (by decide) ?_
  refine fmV_aload_n (pc := 29) (i := 0) F dX1_cheapestSeller_29 rfl rfl ?_
  refine fmV_aloadN (pc := 30) (i := 6) F dX1_cheapestSeller_30 rfl ?_
  refine fmV_aload_n (pc := 32) (i := 0) F dX1_cheapestSeller_32 rfl rfl ?_
  refine fmV_iload (pc := 33) (i := 4) F dX1_cheapestSeller_33 rfl ?_
  refine fmV_iload (pc := 35) (i := 5) F dX1_cheapestSeller_35 rfl ?_
  refine fmV_iconst (pc := 37) (v := 1) F dX1_cheapestSeller_37 rfl ?_
  refine fmV_isub (pc := 38) F dX1_cheapestSeller_38 ?_
  refine fmV_cVq (n := 2) (pc := 39) F (c_X1_canoeAt l D A G σ o ha hrc h40 hB (σ 53 a k 0) ((σ 54 a k 0) - 1)) gX1_cheapestSeller_X1_canoeAt rfl rfl rfl (by decide +kernel) ⟨Nat.le_of_ble_eq_true rfl, Nat.le_of_ble_eq_true rfl⟩ (fmR_4 F (by assumption)) rfl rfl (Nat.le_of_ble_eq_true rfl) dX1_cheapestSeller_39 ⟨Nat.le_of_ble_eq_true rfl, Nat.le_of_ble_eq_true rfl⟩ (fun r2 u1 hc3 => ?_)
  obtain ⟨hr9, hu9⟩ := hc3
  have hr9 := hr9.symm
  have hu9 := hu9.symm
  subst hr9
  subst hu9
  refine fmV_iload_n (pc := 42) (i := 2) F dX1_cheapestSeller_42 rfl rfl ?_
  refine fmV_iload_n (pc := 43) (i := 3) F dX1_cheapestSeller_43 rfl rfl ?_
  refine fmV_cVq (n := 4) (pc := 44) F (c_X1_cheaper l D A G σ o ha hg (fmLim σ a k g) none (fmAt σ a rc (σ 53 a k 0) ((σ 54 a k 0) - 1)) (fun c h => by cases h) (fmAt_lt hrc hB _ _)) gX1_cheapestSeller_X1_cheaper rfl rfl rfl (by decide +kernel) ⟨Nat.le_of_ble_eq_true rfl, Nat.le_of_ble_eq_true rfl⟩ (fmR_4 F (by assumption)) rfl rfl (Nat.le_of_ble_eq_true rfl) dX1_cheapestSeller_44 ⟨Nat.le_of_ble_eq_true rfl, Nat.le_of_ble_eq_true rfl⟩ (fun r5 u4 hc6 => ?_)
  obtain ⟨hr9, hu9⟩ := hc6
  have hr9 := hr9.symm
  have hu9 := hu9.symm
  subst hr9
  subst hu9
  refine fmV_astoreq (pc := 47) (i := 6) F dX1_cheapestSeller_47 (by decide) ?_
  refine fmV_aload_n (pc := 49) (i := 0) F dX1_cheapestSeller_49 rfl rfl ?_
  refine fmV_aloadq (pc := 50) (i := 6) F dX1_cheapestSeller_50 rfl ?_
  refine fmV_aload_n (pc := 52) (i := 0) F dX1_cheapestSeller_52 rfl rfl ?_
  refine fmV_iload (pc := 53) (i := 4) F dX1_cheapestSeller_53 rfl ?_
  refine fmV_iload (pc := 55) (i := 5) F dX1_cheapestSeller_55 rfl ?_
  refine fmV_iconst (pc := 57) (v := 1) F dX1_cheapestSeller_57 rfl ?_
  refine fmV_iadd (pc := 58) F dX1_cheapestSeller_58 ?_
  refine fmV_cVq (n := 2) (pc := 59) F (c_X1_canoeAt l D A G σ o ha hrc h40 hB (σ 53 a k 0) ((σ 54 a k 0) + 1)) gX1_cheapestSeller_X1_canoeAt rfl rfl rfl (by decide +kernel) ⟨Nat.le_of_ble_eq_true rfl, Nat.le_of_ble_eq_true rfl⟩ (fmR_4 F (by assumption)) rfl rfl (fm_cq _ (n := 7) (Nat.le_of_ble_eq_true rfl)) dX1_cheapestSeller_59 ⟨Nat.le_of_ble_eq_true rfl, Nat.le_of_ble_eq_true rfl⟩ (fun r8 u7 hc9 => ?_)
  obtain ⟨hr9, hu9⟩ := hc9
  have hr9 := hr9.symm
  have hu9 := hu9.symm
  subst hr9
  subst hu9
  refine fmV_iload_n (pc := 62) (i := 2) F dX1_cheapestSeller_62 rfl rfl ?_
  refine fmV_iload_n (pc := 63) (i := 3) F dX1_cheapestSeller_63 rfl rfl ?_
  refine fmV_cVq (n := 4) (pc := 64) F (c_X1_cheaper l D A G σ o ha hg (fmLim σ a k g) (fmCh σ a g (fmLim σ a k g) none (fmAt σ a rc (σ 53 a k 0) ((σ 54 a k 0) - 1))) (fmAt σ a rc (σ 53 a k 0) ((σ 54 a k 0) + 1)) hC1 (fmAt_lt hrc hB _ _)) gX1_cheapestSeller_X1_cheaper rfl rfl rfl (by decide +kernel) ⟨Nat.le_of_ble_eq_true rfl, Nat.le_of_ble_eq_true rfl⟩ (fmR_4 F (by assumption)) rfl rfl (Nat.le_of_ble_eq_true rfl) dX1_cheapestSeller_64 ⟨Nat.le_of_ble_eq_true rfl, Nat.le_of_ble_eq_true rfl⟩ (fun r11 u10 hc12 => ?_)
  obtain ⟨hr9, hu9⟩ := hc12
  have hr9 := hr9.symm
  have hu9 := hu9.symm
  subst hr9
  subst hu9
  refine fmV_astoreq (pc := 67) (i := 6) F dX1_cheapestSeller_67 (by decide) ?_
  refine fmV_aload_n (pc := 69) (i := 0) F dX1_cheapestSeller_69 rfl rfl ?_
  refine fmV_aloadq (pc := 70) (i := 6) F dX1_cheapestSeller_70 rfl ?_
  refine fmV_aload_n (pc := 72) (i := 0) F dX1_cheapestSeller_72 rfl rfl ?_
  refine fmV_iload (pc := 73) (i := 4) F dX1_cheapestSeller_73 rfl ?_
  refine fmV_iconst (pc := 75) (v := 1) F dX1_cheapestSeller_75 rfl ?_
  refine fmV_isub (pc := 76) F dX1_cheapestSeller_76 ?_
  refine fmV_iload (pc := 77) (i := 5) F dX1_cheapestSeller_77 rfl ?_
  refine fmV_cVq (n := 2) (pc := 79) F (c_X1_canoeAt l D A G σ o ha hrc h40 hB ((σ 53 a k 0) - 1) (σ 54 a k 0)) gX1_cheapestSeller_X1_canoeAt rfl rfl rfl (by decide +kernel) ⟨Nat.le_of_ble_eq_true rfl, Nat.le_of_ble_eq_true rfl⟩ (fmR_4 F (by assumption)) rfl rfl (fm_cq _ (n := 7) (Nat.le_of_ble_eq_true rfl)) dX1_cheapestSeller_79 ⟨Nat.le_of_ble_eq_true rfl, Nat.le_of_ble_eq_true rfl⟩ (fun r14 u13 hc15 => ?_)
  obtain ⟨hr9, hu9⟩ := hc15
  have hr9 := hr9.symm
  have hu9 := hu9.symm
  subst hr9
  subst hu9
  refine fmV_iload_n (pc := 82) (i := 2) F dX1_cheapestSeller_82 rfl rfl ?_
  refine fmV_iload_n (pc := 83) (i := 3) F dX1_cheapestSeller_83 rfl rfl ?_
  refine fmV_cVq (n := 4) (pc := 84) F (c_X1_cheaper l D A G σ o ha hg (fmLim σ a k g) (fmCh σ a g (fmLim σ a k g) (fmCh σ a g (fmLim σ a k g) none (fmAt σ a rc (σ 53 a k 0) ((σ 54 a k 0) - 1))) (fmAt σ a rc (σ 53 a k 0) ((σ 54 a k 0) + 1))) (fmAt σ a rc ((σ 53 a k 0) - 1) (σ 54 a k 0)) hC2 (fmAt_lt hrc hB _ _)) gX1_cheapestSeller_X1_cheaper rfl rfl rfl (by decide +kernel) ⟨Nat.le_of_ble_eq_true rfl, Nat.le_of_ble_eq_true rfl⟩ (fmR_4 F (by assumption)) rfl rfl (Nat.le_of_ble_eq_true rfl) dX1_cheapestSeller_84 ⟨Nat.le_of_ble_eq_true rfl, Nat.le_of_ble_eq_true rfl⟩ (fun r17 u16 hc18 => ?_)
  obtain ⟨hr9, hu9⟩ := hc18
  have hr9 := hr9.symm
  have hu9 := hu9.symm
  subst hr9
  subst hu9
  refine fmV_astoreq (pc := 87) (i := 6) F dX1_cheapestSeller_87 (by decide) ?_
  refine fmV_aload_n (pc := 89) (i := 0) F dX1_cheapestSeller_89 rfl rfl ?_
  refine fmV_aloadq (pc := 90) (i := 6) F dX1_cheapestSeller_90 rfl ?_
  refine fmV_aload_n (pc := 92) (i := 0) F dX1_cheapestSeller_92 rfl rfl ?_
  refine fmV_iload (pc := 93) (i := 4) F dX1_cheapestSeller_93 rfl ?_
  refine fmV_iconst (pc := 95) (v := 1) F dX1_cheapestSeller_95 rfl ?_
  refine fmV_iadd (pc := 96) F dX1_cheapestSeller_96 ?_
  refine fmV_iload (pc := 97) (i := 5) F dX1_cheapestSeller_97 rfl ?_
  refine fmV_cVq (n := 2) (pc := 99) F (c_X1_canoeAt l D A G σ o ha hrc h40 hB ((σ 53 a k 0) + 1) (σ 54 a k 0)) gX1_cheapestSeller_X1_canoeAt rfl rfl rfl (by decide +kernel) ⟨Nat.le_of_ble_eq_true rfl, Nat.le_of_ble_eq_true rfl⟩ (fmR_4 F (by assumption)) rfl rfl (fm_cq _ (n := 7) (Nat.le_of_ble_eq_true rfl)) dX1_cheapestSeller_99 ⟨Nat.le_of_ble_eq_true rfl, Nat.le_of_ble_eq_true rfl⟩ (fun r20 u19 hc21 => ?_)
  obtain ⟨hr9, hu9⟩ := hc21
  have hr9 := hr9.symm
  have hu9 := hu9.symm
  subst hr9
  subst hu9
  refine fmV_iload_n (pc := 102) (i := 2) F dX1_cheapestSeller_102 rfl rfl ?_
  refine fmV_iload_n (pc := 103) (i := 3) F dX1_cheapestSeller_103 rfl rfl ?_
  refine fmV_cVq (n := 4) (pc := 104) F (c_X1_cheaper l D A G σ o ha hg (fmLim σ a k g) (fmCh σ a g (fmLim σ a k g) (fmCh σ a g (fmLim σ a k g) (fmCh σ a g (fmLim σ a k g) none (fmAt σ a rc (σ 53 a k 0) ((σ 54 a k 0) - 1))) (fmAt σ a rc (σ 53 a k 0) ((σ 54 a k 0) + 1))) (fmAt σ a rc ((σ 53 a k 0) - 1) (σ 54 a k 0))) (fmAt σ a rc ((σ 53 a k 0) + 1) (σ 54 a k 0)) hC3 (fmAt_lt hrc hB _ _)) gX1_cheapestSeller_X1_cheaper rfl rfl rfl (by decide +kernel) ⟨Nat.le_of_ble_eq_true rfl, Nat.le_of_ble_eq_true rfl⟩ (fmR_4 F (by assumption)) rfl rfl (Nat.le_of_ble_eq_true rfl) dX1_cheapestSeller_104 ⟨Nat.le_of_ble_eq_true rfl, Nat.le_of_ble_eq_true rfl⟩ (fun r23 u22 hc24 => ?_)
  obtain ⟨hr9, hu9⟩ := hc24
  have hr9 := hr9.symm
  have hu9 := hu9.symm
  subst hr9
  subst hu9
  refine fmV_astoreq (pc := 107) (i := 6) F dX1_cheapestSeller_107 (by decide) ?_
  refine fmV_aloadq (pc := 109) (i := 6) F dX1_cheapestSeller_109 rfl ?_
  exact fmV_aret (pc := 111) (x := _) F dX1_cheapestSeller_111 rfl ⟨rfl, rfl⟩

set_option maxHeartbeats 4000000 in
set_option maxRecDepth 100000 in
theorem c_X1_trade_n (l : Launch) (D : va_G) (A : Nat → Prop) (G : fmG) (σ : fmS) (o : Nat → Int64) {a k : Nat} (ha : a < 2) (hb : k < 14) (x : Int32) : fmMv l D A G yX1_trade wsX1_trade (fmRm 1 0 0) 0 0 [.ref (G.1 4 a 0), .ref (G.1 9 a k), .null, .int x] σ o (fun u => u = σ) := by
  refine fmMv_of (cc := cX1_trade) (maxL := 5) (ret := none) (by decide +kernel) rfl (Nat.le_of_ble_eq_true rfl) ?_
  intro P_ E_ S_ M_ args_ below_ meth_ C_ F
  have hin_X0 : ∀ w ∈ wsX00, w ∈ wsX1_trade := (fun _ h => List.mem_cons_of_mem _ (List.mem_append_left _ (List.mem_append_right _ h)))
  have hin_X1 : ∀ w ∈ wsX10, w ∈ wsX1_trade := (fun _ h => List.mem_cons_of_mem _ (List.mem_append_right _ h))
  refine fmV_aload_nN (pc := 0) (i := 2) F dX1_trade_0 rfl rfl ?_
  refine fmV_ifnonnullN (pc := 1)  F dX1_trade_1  ?_
  exact fmV_vret (pc := 4) F dX1_trade_4 rfl rfl

set_option maxHeartbeats 4000000 in
set_option maxRecDepth 100000 in
theorem c_X1_trade_s (l : Launch) (D : va_G) (A : Nat → Prop) (G : fmG) (σ : fmS) (o : Nat → Int64) {a k : Nat} (ha : a < 2) (hb : k < 14) {s9 g : Nat} (hs : s9 < 14) (hg : g < 4) : fmMv l D A G yX1_trade wsX1_trade (fmRm 1 0 0) 0 0 [.ref (G.1 4 a 0), .ref (G.1 9 a k), .ref (G.1 9 a s9), .int (nI g)] σ o (fun u => u = fmTr σ a k s9 g) := by
  refine fmMv_of (cc := cX1_trade) (maxL := 5) (ret := none) (by decide +kernel) rfl (Nat.le_of_ble_eq_true rfl) ?_
  intro P_ E_ S_ M_ args_ below_ meth_ C_ F
  have hin_X0 : ∀ w ∈ wsX00, w ∈ wsX1_trade := (fun _ h => List.mem_cons_of_mem _ (List.mem_append_left _ (List.mem_append_right _ h)))
  have hin_X1 : ∀ w ∈ wsX10, w ∈ wsX1_trade := (fun _ h => List.mem_cons_of_mem _ (List.mem_append_right _ h))
  refine fmV_aload_n (pc := 0) (i := 2) F dX1_trade_0 rfl rfl ?_
  refine fmV_ifnonnull (pc := 1) (tgt := 5) F dX1_trade_1 (by decide) ?_
  refine fmV_aload_n (pc := 5) (i := 2) F dX1_trade_5 rfl rfl ?_
  refine fmg_9_asks (pc := 6) F ha hs hin_X0 dX1_trade_6 (List.mem_of_getElem? (i := 1) rfl) ?_
  refine fmV_iload_n (pc := 9) (i := 3) F dX1_trade_9 rfl rfl ?_
  refine fmal_11 (pc := 10) F ha hs dX1_trade_10 (vp_in_nI hg (by decide)) (fm_cn (by omega)) ?_
  refine fmV_istore (pc := 11) (i := 4) F dX1_trade_11 (by decide) ?_
  refine fmV_aload_n (pc := 13) (i := 2) F dX1_trade_13 rfl rfl ?_
  refine fmg_9_has (pc := 14) F ha hs hin_X0 dX1_trade_14 (List.mem_of_getElem? (i := 2) rfl) ?_
  refine fmV_iload_n (pc := 17) (i := 3) F dX1_trade_17 rfl rfl ?_
  refine fmV_dup2 (pc := 18) F dX1_trade_18 rfl rfl ?_
  refine fmal_10 (pc := 19) F ha hs dX1_trade_19 (vp_in_nI hg (by decide)) (fm_cn (by omega)) ?_
  refine fmV_iconst (pc := 20) (v := 1) F dX1_trade_20 rfl ?_
  refine fmV_isub (pc := 21) F dX1_trade_21 ?_
  refine fmas_10 (pc := 22) F ha hs dX1_trade_22 (vp_in_nI hg (by decide)) (fm_cn (by omega)) ?_
  refine fmV_aload_n (pc := 23) (i := 2) F dX1_trade_23 rfl rfl ?_
  refine fmV_dup (pc := 24) F dX1_trade_24 rfl ?_
  refine fmg_9_coins (pc := 25) F ha hs hin_X0 dX1_trade_25 (List.mem_of_getElem? (i := 3) rfl) ?_
  rw [fmu_c _ _ _ _ _ (by decide)]
  refine fmV_iload (pc := 28) (i := 4) F dX1_trade_28 rfl ?_
  refine fmV_iadd (pc := 30) F dX1_trade_30 ?_
  refine fmp_9_coins (pc := 31) F ha hs hin_X0 dX1_trade_31 (List.mem_of_getElem? (i := 3) rfl) ?_
  refine fmV_aload_n (pc := 34) (i := 2) F dX1_trade_34 rfl rfl ?_
  refine fmV_dup (pc := 35) F dX1_trade_35 rfl ?_
  refine fmg_9_sold (pc := 36) F ha hs hin_X0 dX1_trade_36 (List.mem_of_getElem? (i := 4) rfl) ?_
  rw [fmu_c _ _ _ _ _ (by decide), fmu_c _ _ _ _ _ (by decide)]
  refine fmV_iconst (pc := 39) (v := 1) F dX1_trade_39 rfl ?_
  refine fmV_iadd (pc := 40) F dX1_trade_40 ?_
  refine fmp_9_sold (pc := 41) F ha hs hin_X0 dX1_trade_41 (List.mem_of_getElem? (i := 4) rfl) ?_
  refine fmV_sg (σ1 := fmTr1 σ a s9 g (σ 11 a s9 g)) rfl ?_
  refine fmV_aload_n (pc := 44) (i := 1) F dX1_trade_44 rfl rfl ?_
  refine fmg_9_has (pc := 45) F ha hb hin_X0 dX1_trade_45 (List.mem_of_getElem? (i := 2) rfl) ?_
  refine fmV_iload_n (pc := 48) (i := 3) F dX1_trade_48 rfl rfl ?_
  refine fmV_dup2 (pc := 49) F dX1_trade_49 rfl rfl ?_
  refine fmal_10 (pc := 50) F ha hb dX1_trade_50 (vp_in_nI hg (by decide)) (fm_cn (by omega)) ?_
  refine fmV_iconst (pc := 51) (v := 1) F dX1_trade_51 rfl ?_
  refine fmV_iadd (pc := 52) F dX1_trade_52 ?_
  refine fmas_10 (pc := 53) F ha hb dX1_trade_53 (vp_in_nI hg (by decide)) (fm_cn (by omega)) ?_
  refine fmV_aload_n (pc := 54) (i := 1) F dX1_trade_54 rfl rfl ?_
  refine fmV_dup (pc := 55) F dX1_trade_55 rfl ?_
  refine fmg_9_coins (pc := 56) F ha hb hin_X0 dX1_trade_56 (List.mem_of_getElem? (i := 3) rfl) ?_
  rw [fmu_c _ _ _ _ _ (by decide)]
  refine fmV_iload (pc := 59) (i := 4) F dX1_trade_59 rfl ?_
  refine fmV_isub (pc := 61) F dX1_trade_61 ?_
  refine fmp_9_coins (pc := 62) F ha hb hin_X0 dX1_trade_62 (List.mem_of_getElem? (i := 3) rfl) ?_
  refine fmV_aload_n (pc := 65) (i := 1) F dX1_trade_65 rfl rfl ?_
  refine fmV_dup (pc := 66) F dX1_trade_66 rfl ?_
  refine fmg_9_bought (pc := 67) F ha hb hin_X0 dX1_trade_67 (List.mem_of_getElem? (i := 5) rfl) ?_
  rw [fmu_c _ _ _ _ _ (by decide), fmu_c _ _ _ _ _ (by decide)]
  refine fmV_iconst (pc := 70) (v := 1) F dX1_trade_70 rfl ?_
  refine fmV_iadd (pc := 71) F dX1_trade_71 ?_
  refine fmp_9_bought (pc := 72) F ha hb hin_X0 dX1_trade_72 (List.mem_of_getElem? (i := 5) rfl) ?_
  refine fmV_sg (σ1 := fmTr2 (fmTr1 σ a s9 g (σ 11 a s9 g)) a k g (σ 11 a s9 g)) rfl ?_
  refine fmV_aload_n (pc := 75) (i := 0) F dX1_trade_75 rfl rfl ?_
  refine fmV_dup (pc := 76) F dX1_trade_76 rfl ?_
  refine fmg_4_sold (pc := 77) F (by assumption) hin_X1 dX1_trade_77 (List.mem_of_getElem? (i := 6) rfl) ?_
  rw [fmTr2_c (by decide) (by decide) (by decide), fmTr1_c (by decide) (by decide) (by decide)]
  refine fmV_iconst (pc := 80) (v := 1) F dX1_trade_80 rfl ?_
  refine fmV_iadd (pc := 81) F dX1_trade_81 ?_
  refine fmp_4_sold (pc := 82) F (by assumption) hin_X1 dX1_trade_82 (List.mem_of_getElem? (i := 6) rfl) ?_
  refine fmV_aload_n (pc := 85) (i := 0) F dX1_trade_85 rfl rfl ?_
  refine fmV_dup (pc := 86) F dX1_trade_86 rfl ?_
  refine fmg_4_paid (pc := 87) F (by assumption) hin_X1 dX1_trade_87 (List.mem_of_getElem? (i := 7) rfl) ?_
  rw [fmu_c _ _ _ _ _ (by decide), fmTr2_c (by decide) (by decide) (by decide), fmTr1_c (by decide) (by decide) (by decide)]
  refine fmV_iload (pc := 90) (i := 4) F dX1_trade_90 rfl ?_
  refine fmV_iadd (pc := 92) F dX1_trade_92 ?_
  refine fmp_4_paid (pc := 93) F (by assumption) hin_X1 dX1_trade_93 (List.mem_of_getElem? (i := 7) rfl) ?_
  exact fmV_vret (pc := 96) F dX1_trade_96 rfl rfl
