set_option maxHeartbeats 4000000 in
set_option maxRecDepth 100000 in
theorem c_X0_misses (l : Launch) (D : va_G) (A : Nat → Prop) (G : fmG) (σ : fmS) (o : Nat → Int64) {a k : Nat} (ha : a < 2) (hb : k < 14) {g : Nat} (hg : g < 4) : fmMi l D A G yX0_misses wsX0_misses (fmRm 1 0 0) 0 0 [.ref (G.1 9 a k), .int (nI g)] σ o (fun r u => r = fmMs σ a k g ∧ u = σ) := by
  refine fmMi_of (cc := cX0_misses) (maxL := 2) (ret := (some .int)) (by decide +kernel) rfl (Nat.le_of_ble_eq_true rfl) ?_
  intro P_ E_ S_ M_ args_ below_ meth_ C_ F
  have hin_X0 : ∀ w ∈ wsX00, w ∈ wsX0_misses := (fun _ h => List.mem_cons_of_mem _ (List.mem_append_right _ h))
  refine fmV_iconst (pc := 0) (v := 0) F dX0_misses_0 rfl ?_
  refine fmV_aload_n (pc := 1) (i := 0) F dX0_misses_1 rfl rfl ?_
  refine fmg_9_wants (pc := 2) F (by assumption) (by assumption) hin_X0 dX0_misses_2 (List.mem_of_getElem? (i := 1) rfl) ?_
  refine fmV_iload_n (pc := 5) (i := 1) F dX0_misses_5 rfl rfl ?_
  refine fmal_12 (pc := 6) F (by assumption) (by assumption) dX0_misses_6 (vp_in_nI hg (by decide)) (fm_cn (by omega)) ?_
  refine fmV_aload_n (pc := 7) (i := 0) F dX0_misses_7 rfl rfl ?_
  refine fmg_9_has (pc := 8) F (by assumption) (by assumption) hin_X0 dX0_misses_8 (List.mem_of_getElem? (i := 2) rfl) ?_
  refine fmV_iload_n (pc := 11) (i := 1) F dX0_misses_11 rfl rfl ?_
  refine fmal_10 (pc := 12) F (by assumption) (by assumption) dX0_misses_12 (vp_in_nI hg (by decide)) (fm_cn (by omega)) ?_
  refine fmV_isub (pc := 13) F dX0_misses_13 ?_
  refine fmV_mmax (pc := 14) F ⟨(List.mem_of_getElem? (i := 3) rfl), (List.mem_of_getElem? (i := 4) rfl), (List.mem_of_getElem? (i := 5) rfl), (List.mem_of_getElem? (i := 6) rfl)⟩ (Nat.le_of_ble_eq_true rfl) (Nat.le_of_ble_eq_true rfl) (Nat.le_of_ble_eq_true rfl) (Nat.le_of_ble_eq_true rfl) dX0_misses_14 ?_
  exact fmV_iret (pc := 17) F dX0_misses_17 rfl ⟨rfl, rfl⟩

set_option maxHeartbeats 4000000 in
set_option maxRecDepth 100000 in
theorem c_X0_missesInAll (l : Launch) (D : va_G) (A : Nat → Prop) (G : fmG) (σ : fmS) (o : Nat → Int64) {a k : Nat} (ha : a < 2) (hb : k < 14) : fmMi l D A G yX0_missesInAll wsX0_missesInAll (fmRm 2 0 0) 0 0 [.ref (G.1 9 a k)] σ o (fun r u => r = fmMsAll σ a k ∧ u = σ) := by
  refine fmMi_of (cc := cX0_missesInAll) (maxL := 3) (ret := (some .int)) (by decide +kernel) rfl (Nat.le_of_ble_eq_true rfl) ?_
  intro P_ E_ S_ M_ args_ below_ meth_ C_ F
  have hin_X0 : ∀ w ∈ wsX00, w ∈ wsX0_missesInAll := (fun _ h => List.mem_cons_of_mem _ (List.mem_append_right _ h))
  refine fmV_iconst (pc := 0) (v := 0) F dX0_missesInAll_0 rfl ?_
  refine fmV_istore_n (pc := 1) (i := 1) F dX0_missesInAll_1 rfl (by decide) ?_
  refine fmV_iconst (pc := 2) (v := 0) F dX0_missesInAll_2 rfl ?_
  refine fmV_istore_n (pc := 3) (i := 2) F dX0_missesInAll_3 rfl (by decide) ?_
  refine fmV_lv (lv' := [(0, .ref (G.1 9 a k)), (1, .int (fmSum (fmMs σ a k) 0)), (2, .int (nI 0))]) ⟨rfl, rfl, rfl, trivial⟩ ?_
  refine fmV_up (N := 4) (pc := 4) (σf := fun j => σ) (lvf := fun j => [(0, .ref (G.1 9 a k)), (1, .int (fmSum (fmMs σ a k) j)), (2, .int (nI j))]) 0 (by decide) ?_ ?_
  · refine fmV_iload_n (pc := 4) (i := 2) F dX0_missesInAll_4 rfl rfl ?_
    refine fmV_iconst (pc := 5) (v := 4) F dX0_missesInAll_5 rfl ?_
    refine fmV_icmp_ge (pc := 6) (tgt := 23) F dX0_missesInAll_6 (by decide) (fun hb1 => ?_) (fun hb1 => ?_)
    · refine fmV_iload_n (pc := 23) (i := 1) F dX0_missesInAll_23 rfl rfl ?_
      exact fmV_iret (pc := 24) F dX0_missesInAll_24 rfl ⟨rfl, rfl⟩
    · exact absurd hb1 (by decide)
  · intro j hj ih
    refine fmV_iload_n (pc := 4) (i := 2) F dX0_missesInAll_4 rfl rfl ?_
    refine fmV_iconst (pc := 5) (v := 4) F dX0_missesInAll_5 rfl ?_
    refine fmV_icmp_ge (pc := 6) (tgt := 23) F dX0_missesInAll_6 (by decide) (fun hb1 => ?_) (fun hb1 => ?_)
    · exact absurd hb1 (nI_ge (b := 4) hj (by decide))
    · refine fmV_iload_n (pc := 9) (i := 1) F dX0_missesInAll_9 rfl rfl ?_
      refine fmV_aload_n (pc := 10) (i := 0) F dX0_missesInAll_10 rfl rfl ?_
      refine fmV_iload_n (pc := 11) (i := 2) F dX0_missesInAll_11 rfl rfl ?_
      refine fmV_cVi (n := 1) (pc := 12) F (c_X0_misses l D A G σ o ha hb hj) gX0_missesInAll_X0_misses rfl rfl rfl (by decide +kernel) ⟨Nat.le_of_ble_eq_true rfl, Nat.le_of_ble_eq_true rfl⟩ (fmR_9 F (by assumption) (by assumption)) rfl rfl (Nat.le_of_ble_eq_true rfl) dX0_missesInAll_12 ⟨Nat.le_of_ble_eq_true rfl, Nat.le_of_ble_eq_true rfl⟩ (fun r2 u1 hc3 => ?_)
      obtain ⟨hr9, hu9⟩ := hc3
      have hr9 := hr9.symm
      have hu9 := hu9.symm
      subst hr9
      subst hu9
      refine fmV_iadd (pc := 15) F dX0_missesInAll_15 ?_
      refine fmV_istore_n (pc := 16) (i := 1) F dX0_missesInAll_16 rfl (by decide) ?_
      refine fmV_iinc (pc := 17) (i := 2) F dX0_missesInAll_17 rfl rfl (by decide) ?_
      refine fmV_goto (pc := 20) (tgt := 4) F dX0_missesInAll_20 (by decide) ?_
      refine fmV_lv ?_ ih
      exact ⟨rfl, rfl, by rw [nI_succ j]; rfl, trivial⟩

set_option maxHeartbeats 4000000 in
set_option maxRecDepth 100000 in
theorem c_X0_goodsInAll (l : Launch) (D : va_G) (A : Nat → Prop) (G : fmG) (σ : fmS) (o : Nat → Int64) {a k : Nat} (ha : a < 2) (hb : k < 14) : fmMi l D A G yX0_goodsInAll wsX0_goodsInAll (fmRm 1 0 0) 0 0 [.ref (G.1 9 a k)] σ o (fun r u => r = fmGds σ a k ∧ u = σ) := by
  refine fmMi_of (cc := cX0_goodsInAll) (maxL := 3) (ret := (some .int)) (by decide +kernel) rfl (Nat.le_of_ble_eq_true rfl) ?_
  intro P_ E_ S_ M_ args_ below_ meth_ C_ F
  have hin_X0 : ∀ w ∈ wsX00, w ∈ wsX0_goodsInAll := (fun _ h => List.mem_cons_of_mem _ (List.mem_append_right _ h))
  refine fmV_iconst (pc := 0) (v := 0) F dX0_goodsInAll_0 rfl ?_
  refine fmV_istore_n (pc := 1) (i := 1) F dX0_goodsInAll_1 rfl (by decide) ?_
  refine fmV_iconst (pc := 2) (v := 0) F dX0_goodsInAll_2 rfl ?_
  refine fmV_istore_n (pc := 3) (i := 2) F dX0_goodsInAll_3 rfl (by decide) ?_
  refine fmV_lv (lv' := [(0, .ref (G.1 9 a k)), (1, .int (fmSum (σ 10 a k) 0)), (2, .int (nI 0))]) ⟨rfl, rfl, rfl, trivial⟩ ?_
  refine fmV_up (N := 4) (pc := 4) (σf := fun j => σ) (lvf := fun j => [(0, .ref (G.1 9 a k)), (1, .int (fmSum (σ 10 a k) j)), (2, .int (nI j))]) 0 (by decide) ?_ ?_
  · refine fmV_iload_n (pc := 4) (i := 2) F dX0_goodsInAll_4 rfl rfl ?_
    refine fmV_iconst (pc := 5) (v := 4) F dX0_goodsInAll_5 rfl ?_
    refine fmV_icmp_ge (pc := 6) (tgt := 24) F dX0_goodsInAll_6 (by decide) (fun hb1 => ?_) (fun hb1 => ?_)
    · refine fmV_iload_n (pc := 24) (i := 1) F dX0_goodsInAll_24 rfl rfl ?_
      exact fmV_iret (pc := 25) F dX0_goodsInAll_25 rfl ⟨rfl, rfl⟩
    · exact absurd hb1 (by decide)
  · intro j hj ih
    refine fmV_iload_n (pc := 4) (i := 2) F dX0_goodsInAll_4 rfl rfl ?_
    refine fmV_iconst (pc := 5) (v := 4) F dX0_goodsInAll_5 rfl ?_
    refine fmV_icmp_ge (pc := 6) (tgt := 24) F dX0_goodsInAll_6 (by decide) (fun hb1 => ?_) (fun hb1 => ?_)
    · exact absurd hb1 (nI_ge (b := 4) hj (by decide))
    · refine fmV_iload_n (pc := 9) (i := 1) F dX0_goodsInAll_9 rfl rfl ?_
      refine fmV_aload_n (pc := 10) (i := 0) F dX0_goodsInAll_10 rfl rfl ?_
      refine fmg_9_has (pc := 11) F (by assumption) (by assumption) hin_X0 dX0_goodsInAll_11 (List.mem_of_getElem? (i := 1) rfl) ?_
      refine fmV_iload_n (pc := 14) (i := 2) F dX0_goodsInAll_14 rfl rfl ?_
      refine fmal_10 (pc := 15) F (by assumption) (by assumption) dX0_goodsInAll_15 (vp_in_nI hj (by decide)) (fm_cn (by omega)) ?_
      refine fmV_iadd (pc := 16) F dX0_goodsInAll_16 ?_
      refine fmV_istore_n (pc := 17) (i := 1) F dX0_goodsInAll_17 rfl (by decide) ?_
      refine fmV_iinc (pc := 18) (i := 2) F dX0_goodsInAll_18 rfl rfl (by decide) ?_
      refine fmV_goto (pc := 21) (tgt := 4) F dX0_goodsInAll_21 (by decide) ?_
      refine fmV_lv ?_ ih
      exact ⟨rfl, rfl, by rw [nI_succ j]; rfl, trivial⟩

set_option maxHeartbeats 4000000 in
set_option maxRecDepth 100000 in
theorem c_X0_sells (l : Launch) (D : va_G) (A : Nat → Prop) (G : fmG) (σ : fmS) (o : Nat → Int64) {a k : Nat} (ha : a < 2) (hb : k < 14) {g : Nat} (hg : g < 4) (lim : Int32) : fmMi l D A G yX0_sells wsX0_sells (fmRm 1 0 0) 0 0 [.ref (G.1 9 a k), .int (nI g), .int lim] σ o (fun r u => r = (if fmSl σ a k g lim then 1 else 0) ∧ u = σ) := by
  refine fmMi_of (cc := cX0_sells) (maxL := 3) (ret := (some .boolean)) (by decide +kernel) rfl (Nat.le_of_ble_eq_true rfl) ?_
  intro P_ E_ S_ M_ args_ below_ meth_ C_ F
  have hin_X0 : ∀ w ∈ wsX00, w ∈ wsX0_sells := (fun _ h => List.mem_cons_of_mem _ (List.mem_append_right _ h))
  refine fmV_aload_n (pc := 0) (i := 0) F dX0_sells_0 rfl rfl ?_
  refine fmg_9_asks (pc := 1) F (by assumption) (by assumption) hin_X0 dX0_sells_1 (List.mem_of_getElem? (i := 1) rfl) ?_
  refine fmV_iload_n (pc := 4) (i := 1) F dX0_sells_4 rfl rfl ?_
  refine fmal_11 (pc := 5) F (by assumption) (by assumption) dX0_sells_5 (vp_in_nI hg (by decide)) (fm_cn (by omega)) ?_
  refine fmV_if_eq (pc := 6) (tgt := 38) F dX0_sells_6 (by decide) (fun h1 => ?_) (fun h1 => ?_)
  · refine fmV_iconst (pc := 38) (v := 0) F dX0_sells_38 rfl ?_
    exact fmV_zret (pc := 39) F dX0_sells_39 rfl rfl ⟨by rw [if_neg (fun q => q.1 h1)], rfl⟩
  · refine fmV_aload_n (pc := 9) (i := 0) F dX0_sells_9 rfl rfl ?_
    refine fmg_9_asks (pc := 10) F (by assumption) (by assumption) hin_X0 dX0_sells_10 (List.mem_of_getElem? (i := 1) rfl) ?_
    refine fmV_iload_n (pc := 13) (i := 1) F dX0_sells_13 rfl rfl ?_
    refine fmal_11 (pc := 14) F (by assumption) (by assumption) dX0_sells_14 (vp_in_nI hg (by decide)) (fm_cn (by omega)) ?_
    refine fmV_iload_n (pc := 15) (i := 2) F dX0_sells_15 rfl rfl ?_
    refine fmV_icmp_gt (pc := 16) (tgt := 38) F dX0_sells_16 (by decide) (fun h2 => ?_) (fun h2 => ?_)
    · refine fmV_iconst (pc := 38) (v := 0) F dX0_sells_38 rfl ?_
      exact fmV_zret (pc := 39) F dX0_sells_39 rfl rfl ⟨by rw [if_neg (fun q => Int32.not_le.mpr h2 q.2.1)], rfl⟩
    · refine fmV_aload_n (pc := 19) (i := 0) F dX0_sells_19 rfl rfl ?_
      refine fmg_9_has (pc := 20) F (by assumption) (by assumption) hin_X0 dX0_sells_20 (List.mem_of_getElem? (i := 2) rfl) ?_
      refine fmV_iload_n (pc := 23) (i := 1) F dX0_sells_23 rfl rfl ?_
      refine fmal_10 (pc := 24) F (by assumption) (by assumption) dX0_sells_24 (vp_in_nI hg (by decide)) (fm_cn (by omega)) ?_
      refine fmV_aload_n (pc := 25) (i := 0) F dX0_sells_25 rfl rfl ?_
      refine fmg_9_wants (pc := 26) F (by assumption) (by assumption) hin_X0 dX0_sells_26 (List.mem_of_getElem? (i := 3) rfl) ?_
      refine fmV_iload_n (pc := 29) (i := 1) F dX0_sells_29 rfl rfl ?_
      refine fmal_12 (pc := 30) F (by assumption) (by assumption) dX0_sells_30 (vp_in_nI hg (by decide)) (fm_cn (by omega)) ?_
      refine fmV_icmp_le (pc := 31) (tgt := 38) F dX0_sells_31 (by decide) (fun h3 => ?_) (fun h3 => ?_)
      · refine fmV_iconst (pc := 38) (v := 0) F dX0_sells_38 rfl ?_
        exact fmV_zret (pc := 39) F dX0_sells_39 rfl rfl ⟨by rw [if_neg (fun q => Int32.not_le.mpr q.2.2 h3)], rfl⟩
      · refine fmV_iconst (pc := 34) (v := 1) F dX0_sells_34 rfl ?_
        refine fmV_goto (pc := 35) (tgt := 39) F dX0_sells_35 (by decide) ?_
        exact fmV_zret (pc := 39) F dX0_sells_39 rfl rfl ⟨by rw [if_pos ⟨h1, Int32.not_lt.mp h2, Int32.not_le.mp h3⟩], rfl⟩

set_option maxHeartbeats 4000000 in
set_option maxRecDepth 100000 in
theorem c_X0_isBeside (l : Launch) (D : va_G) (A : Nat → Prop) (G : fmG) (σ : fmS) (o : Nat → Int64) {a k k2 : Nat} (ha : a < 2) (hb : k < 14) (hb2 : k2 < 14) : fmMi l D A G yX0_isBeside wsX0_isBeside (fmRm 1 0 0) 0 0 [.ref (G.1 9 a k), .ref (G.1 9 a k2)] σ o (fun r u => r = (if fmBes σ a k k2 then 1 else 0) ∧ u = σ) := by
  refine fmMi_of (cc := cX0_isBeside) (maxL := 4) (ret := (some .boolean)) (by decide +kernel) rfl (Nat.le_of_ble_eq_true rfl) ?_
  intro P_ E_ S_ M_ args_ below_ meth_ C_ F
  have hin_X0 : ∀ w ∈ wsX00, w ∈ wsX0_isBeside := (fun _ h => List.mem_cons_of_mem _ (List.mem_append_right _ h))
  refine fmV_aload_n (pc := 0) (i := 0) F dX0_isBeside_0 rfl rfl ?_
  refine fmg_9_status (pc := 1) F (by assumption) (by assumption) hin_X0 dX0_isBeside_1 (List.mem_of_getElem? (i := 1) rfl) ?_
  refine fmV_iconst (pc := 4) (v := 1) F dX0_isBeside_4 rfl ?_
  refine fmV_icmp_ne (pc := 5) (tgt := 16) F dX0_isBeside_5 (by decide) (fun h1 => ?_) (fun h1 => ?_)
  · refine fmV_iconst (pc := 16) (v := 0) F dX0_isBeside_16 rfl ?_
    exact fmV_zret (pc := 17) F dX0_isBeside_17 rfl rfl ⟨by rw [if_neg (fun q => h1 q.1)], rfl⟩
  · refine fmV_aload_n (pc := 8) (i := 1) F dX0_isBeside_8 rfl rfl ?_
    refine fmg_9_status (pc := 9) F ha hb2 hin_X0 dX0_isBeside_9 (List.mem_of_getElem? (i := 1) rfl) ?_
    refine fmV_iconst (pc := 12) (v := 1) F dX0_isBeside_12 rfl ?_
    refine fmV_icmp_eq (pc := 13) (tgt := 18) F dX0_isBeside_13 (by decide) (fun h2 => ?_) (fun h2 => ?_)
    · refine fmV_aload_n (pc := 18) (i := 0) F dX0_isBeside_18 rfl rfl ?_
      refine fmg_9_row (pc := 19) F (by assumption) (by assumption) hin_X0 dX0_isBeside_19 (List.mem_of_getElem? (i := 2) rfl) ?_
      refine fmV_aload_n (pc := 22) (i := 1) F dX0_isBeside_22 rfl rfl ?_
      refine fmg_9_row (pc := 23) F ha hb2 hin_X0 dX0_isBeside_23 (List.mem_of_getElem? (i := 2) rfl) ?_
      refine fmV_isub (pc := 26) F dX0_isBeside_26 ?_
      refine fmV_mabs (pc := 27) F ⟨(List.mem_of_getElem? (i := 3) rfl), (List.mem_of_getElem? (i := 4) rfl), (List.mem_of_getElem? (i := 5) rfl), (List.mem_of_getElem? (i := 6) rfl)⟩ (Nat.le_of_ble_eq_true rfl) (Nat.le_of_ble_eq_true rfl) (Nat.le_of_ble_eq_true rfl) (Nat.le_of_ble_eq_true rfl) dX0_isBeside_27 ?_
      refine fmV_istore_n (pc := 30) (i := 2) F dX0_isBeside_30 rfl (by decide) ?_
      refine fmV_aload_n (pc := 31) (i := 0) F dX0_isBeside_31 rfl rfl ?_
      refine fmg_9_place (pc := 32) F (by assumption) (by assumption) hin_X0 dX0_isBeside_32 (List.mem_of_getElem? (i := 7) rfl) ?_
      refine fmV_aload_n (pc := 35) (i := 1) F dX0_isBeside_35 rfl rfl ?_
      refine fmg_9_place (pc := 36) F ha hb2 hin_X0 dX0_isBeside_36 (List.mem_of_getElem? (i := 7) rfl) ?_
      refine fmV_isub (pc := 39) F dX0_isBeside_39 ?_
      refine fmV_mabs (pc := 40) F ⟨(List.mem_of_getElem? (i := 3) rfl), (List.mem_of_getElem? (i := 4) rfl), (List.mem_of_getElem? (i := 5) rfl), (List.mem_of_getElem? (i := 6) rfl)⟩ (Nat.le_of_ble_eq_true rfl) (Nat.le_of_ble_eq_true rfl) (Nat.le_of_ble_eq_true rfl) (Nat.le_of_ble_eq_true rfl) dX0_isBeside_40 ?_
      refine fmV_istore_n (pc := 43) (i := 3) F dX0_isBeside_43 rfl (by decide) ?_
      refine fmV_iload_n (pc := 44) (i := 2) F dX0_isBeside_44 rfl rfl ?_
      refine fmV_iload_n (pc := 45) (i := 3) F dX0_isBeside_45 rfl rfl ?_
      refine fmV_iadd (pc := 46) F dX0_isBeside_46 ?_
      refine fmV_iconst (pc := 47) (v := 1) F dX0_isBeside_47 rfl ?_
      refine fmV_icmp_ne (pc := 48) (tgt := 55) F dX0_isBeside_48 (by decide) (fun h3 => ?_) (fun h3 => ?_)
      · refine fmV_iconst (pc := 55) (v := 0) F dX0_isBeside_55 rfl ?_
        exact fmV_zret (pc := 56) F dX0_isBeside_56 rfl rfl ⟨by rw [if_neg (fun q => h3 q.2.2)], rfl⟩
      · refine fmV_iconst (pc := 51) (v := 1) F dX0_isBeside_51 rfl ?_
        refine fmV_goto (pc := 52) (tgt := 56) F dX0_isBeside_52 (by decide) ?_
        exact fmV_zret (pc := 56) F dX0_isBeside_56 rfl rfl ⟨by rw [if_pos ⟨h1, h2, h3⟩], rfl⟩
    · refine fmV_iconst (pc := 16) (v := 0) F dX0_isBeside_16 rfl ?_
      exact fmV_zret (pc := 17) F dX0_isBeside_17 rfl rfl ⟨by rw [if_neg (fun q => h2 q.2.1)], rfl⟩

set_option maxHeartbeats 4000000 in
set_option maxRecDepth 100000 in
theorem c_X0_hasReached1 (l : Launch) (D : va_G) (A : Nat → Prop) (G : fmG) (σ : fmS) (o : Nat → Int64) {a k : Nat} (ha : a < 2) (hb : k < 14) : fmMi l D A G yX0_hasReached wsX0_hasReached (fmRm 1 0 0) 0 0 [.ref (G.1 9 a k), .int 1] σ o (fun r u => r = (if σ 52 a k 0 = 2 then 1 else 0) ∧ u = σ) := by
  refine fmMi_of (cc := cX0_hasReached) (maxL := 2) (ret := (some .boolean)) (by decide +kernel) rfl (Nat.le_of_ble_eq_true rfl) ?_
  intro P_ E_ S_ M_ args_ below_ meth_ C_ F
  have hin_X0 : ∀ w ∈ wsX00, w ∈ wsX0_hasReached := (fun _ h => List.mem_cons_of_mem _ (List.mem_append_right _ h))
  refine fmV_iload_n (pc := 0) (i := 1) F dX0_hasReached_0 rfl rfl ?_
  refine fmV_iconst (pc := 1) (v := 1) F dX0_hasReached_1 rfl ?_
  refine fmV_icmp_ne (pc := 2) (tgt := 21) F dX0_hasReached_2 (by decide) (fun h0 => ?_) (fun h0 => ?_)
  · exact absurd rfl h0
  · refine fmV_aload_n (pc := 5) (i := 0) F dX0_hasReached_5 rfl rfl ?_
    refine fmg_9_status (pc := 6) F (by assumption) (by assumption) hin_X0 dX0_hasReached_6 (List.mem_of_getElem? (i := 1) rfl) ?_
    refine fmV_iconst (pc := 9) (v := 2) F dX0_hasReached_9 rfl ?_
    refine fmV_icmp_ne (pc := 10) (tgt := 17) F dX0_hasReached_10 (by decide) (fun h1 => ?_) (fun h1 => ?_)
    · refine fmV_iconst (pc := 17) (v := 0) F dX0_hasReached_17 rfl ?_
      refine fmV_goto (pc := 18) (tgt := 33) F dX0_hasReached_18 (by decide) ?_
      exact fmV_zret (pc := 33) F dX0_hasReached_33 rfl rfl ⟨by rw [if_neg h1], rfl⟩
    · refine fmV_iconst (pc := 13) (v := 1) F dX0_hasReached_13 rfl ?_
      refine fmV_goto (pc := 14) (tgt := 33) F dX0_hasReached_14 (by decide) ?_
      exact fmV_zret (pc := 33) F dX0_hasReached_33 rfl rfl ⟨by rw [if_pos h1], rfl⟩

set_option maxHeartbeats 4000000 in
set_option maxRecDepth 100000 in
theorem c_X0_hasReached0 (l : Launch) (D : va_G) (A : Nat → Prop) (G : fmG) (σ : fmS) (o : Nat → Int64) {a k : Nat} (ha : a < 2) (hb : k < 14) : fmMi l D A G yX0_hasReached wsX0_hasReached (fmRm 3 0 0) 0 0 [.ref (G.1 9 a k), .int 0] σ o (fun r u => r = (if fmMsAll σ a k = 0 then 1 else 0) ∧ u = σ) := by
  refine fmMi_of (cc := cX0_hasReached) (maxL := 2) (ret := (some .boolean)) (by decide +kernel) rfl (Nat.le_of_ble_eq_true rfl) ?_
  intro P_ E_ S_ M_ args_ below_ meth_ C_ F
  have hin_X0 : ∀ w ∈ wsX00, w ∈ wsX0_hasReached := (fun _ h => List.mem_cons_of_mem _ (List.mem_append_right _ h))
  refine fmV_iload_n (pc := 0) (i := 1) F dX0_hasReached_0 rfl rfl ?_
  refine fmV_iconst (pc := 1) (v := 1) F dX0_hasReached_1 rfl ?_
  refine fmV_icmp_ne (pc := 2) (tgt := 21) F dX0_hasReached_2 (by decide) (fun h0 => ?_) (fun h0 => ?_)
  · refine fmV_aload_n (pc := 21) (i := 0) F dX0_hasReached_21 rfl rfl ?_
    refine fmV_cVi (n := 0) (pc := 22) F (c_X0_missesInAll l D A G σ o ha hb) gX0_hasReached_X0_missesInAll rfl rfl rfl (by decide +kernel) ⟨Nat.le_of_ble_eq_true rfl, Nat.le_of_ble_eq_true rfl⟩ (fmR_9 F (by assumption) (by assumption)) rfl rfl (Nat.le_of_ble_eq_true rfl) dX0_hasReached_22 ⟨Nat.le_of_ble_eq_true rfl, Nat.le_of_ble_eq_true rfl⟩ (fun r2 u1 hc3 => ?_)
    obtain ⟨hr9, hu9⟩ := hc3
    have hr9 := hr9.symm
    have hu9 := hu9.symm
    subst hr9
    subst hu9
    refine fmV_if_ne (pc := 25) (tgt := 32) F dX0_hasReached_25 (by decide) (fun h1 => ?_) (fun h1 => ?_)
    · refine fmV_iconst (pc := 32) (v := 0) F dX0_hasReached_32 rfl ?_
      exact fmV_zret (pc := 33) F dX0_hasReached_33 rfl rfl ⟨by rw [if_neg h1], rfl⟩
    · refine fmV_iconst (pc := 28) (v := 1) F dX0_hasReached_28 rfl ?_
      refine fmV_goto (pc := 29) (tgt := 33) F dX0_hasReached_29 (by decide) ?_
      exact fmV_zret (pc := 33) F dX0_hasReached_33 rfl rfl ⟨by rw [if_pos h1], rfl⟩
  · exact absurd h0 (by decide)

set_option maxHeartbeats 4000000 in
set_option maxRecDepth 100000 in
theorem c_X0_isToLeaveBy (l : Launch) (D : va_G) (A : Nat → Prop) (G : fmG) (σ : fmS) (o : Nat → Int64) {a k : Nat} (ha : a < 2) (hb : k < 14) (t : Int32) : fmMi l D A G yX0_isToLeaveBy wsX0_isToLeaveBy (fmRm 1 0 0) 0 0 [.ref (G.1 9 a k), .int t] σ o (fun r u => r = (if fmTL σ a k t then 1 else 0) ∧ u = σ) := by
  refine fmMi_of (cc := cX0_isToLeaveBy) (maxL := 2) (ret := (some .boolean)) (by decide +kernel) rfl (Nat.le_of_ble_eq_true rfl) ?_
  intro P_ E_ S_ M_ args_ below_ meth_ C_ F
  have hin_X0 : ∀ w ∈ wsX00, w ∈ wsX0_isToLeaveBy := (fun _ h => List.mem_cons_of_mem _ (List.mem_append_right _ h))
  refine fmV_aload_n (pc := 0) (i := 0) F dX0_isToLeaveBy_0 rfl rfl ?_
  refine fmg_9_leaveStep (pc := 1) F (by assumption) (by assumption) hin_X0 dX0_isToLeaveBy_1 (List.mem_of_getElem? (i := 1) rfl) ?_
  refine fmV_iconst (pc := 4) (v := (-1)) F dX0_isToLeaveBy_4 rfl ?_
  refine fmV_icmp_eq (pc := 5) (tgt := 20) F dX0_isToLeaveBy_5 (by decide) (fun h1 => ?_) (fun h1 => ?_)
  · refine fmV_iconst (pc := 20) (v := 0) F dX0_isToLeaveBy_20 rfl ?_
    exact fmV_zret (pc := 21) F dX0_isToLeaveBy_21 rfl rfl ⟨by rw [if_neg (fun q => q.1 h1)], rfl⟩
  · refine fmV_aload_n (pc := 8) (i := 0) F dX0_isToLeaveBy_8 rfl rfl ?_
    refine fmg_9_leaveStep (pc := 9) F (by assumption) (by assumption) hin_X0 dX0_isToLeaveBy_9 (List.mem_of_getElem? (i := 1) rfl) ?_
    refine fmV_iload_n (pc := 12) (i := 1) F dX0_isToLeaveBy_12 rfl rfl ?_
    refine fmV_icmp_gt (pc := 13) (tgt := 20) F dX0_isToLeaveBy_13 (by decide) (fun h2 => ?_) (fun h2 => ?_)
    · refine fmV_iconst (pc := 20) (v := 0) F dX0_isToLeaveBy_20 rfl ?_
      exact fmV_zret (pc := 21) F dX0_isToLeaveBy_21 rfl rfl ⟨by rw [if_neg (fun q => Int32.not_le.mpr h2 q.2)], rfl⟩
    · refine fmV_iconst (pc := 16) (v := 1) F dX0_isToLeaveBy_16 rfl ?_
      refine fmV_goto (pc := 17) (tgt := 21) F dX0_isToLeaveBy_17 (by decide) ?_
      exact fmV_zret (pc := 21) F dX0_isToLeaveBy_21 rfl rfl ⟨by rw [if_pos ⟨h1, Int32.not_lt.mp h2⟩], rfl⟩

set_option maxHeartbeats 4000000 in
set_option maxRecDepth 100000 in
theorem c_X0_figure (l : Launch) (D : va_G) (A : Nat → Prop) (G : fmG) (σ : fmS) (o : Nat → Int64) {a k : Nat} (ha : a < 2) (hb : k < 14) {w : Nat} (hw : w < 11) : fmMi l D A G yX0_figure wsX0_figure (fmRm 3 0 0) 0 0 [.ref (G.1 9 a k), .int (nI w)] σ o (fun r u => r = fmFig σ a k w ∧ u = σ) := by
  refine fmMi_of (cc := cX0_figure) (maxL := 2) (ret := (some .int)) (by decide +kernel) rfl (Nat.le_of_ble_eq_true rfl) ?_
  intro P_ E_ S_ M_ args_ below_ meth_ C_ F
  have hin_X0 : ∀ w ∈ wsX00, w ∈ wsX0_figure := (fun _ h => List.mem_cons_of_mem _ (List.mem_append_right _ h))
  rcases (show w = 0 ∨ w = 1 ∨ w = 2 ∨ w = 3 ∨ w = 4 ∨ w = 5 ∨ w = 6 ∨ w = 7 ∨ w = 8 ∨ w = 9 ∨ w = 10 by omega) with rfl | rfl | rfl | rfl | rfl | rfl | rfl | rfl | rfl | rfl | rfl
  · refine fmV_iload_n (pc := 0) (i := 1) F dX0_figure_0 rfl rfl ?_
    refine fmV_tableIn (pc := 1) (tgt := 56) F dX0_figure_1 (by decide) (by decide) rfl (by decide) ?_
    refine fmV_aload_n (pc := 56) (i := 0) F dX0_figure_56 rfl rfl ?_
    refine fmg_9_coins (pc := 57) F (by assumption) (by assumption) hin_X0 dX0_figure_57 (List.mem_of_getElem? (i := 1) rfl) ?_
    exact fmV_iret (pc := 60) F dX0_figure_60 rfl ⟨rfl, rfl⟩
  · refine fmV_iload_n (pc := 0) (i := 1) F dX0_figure_0 rfl rfl ?_
    refine fmV_tableIn (pc := 1) (tgt := 61) F dX0_figure_1 (by decide) (by decide) rfl (by decide) ?_
    refine fmV_aload_n (pc := 61) (i := 0) F dX0_figure_61 rfl rfl ?_
    refine fmg_9_rope (pc := 62) F (by assumption) (by assumption) hin_X0 dX0_figure_62 (List.mem_of_getElem? (i := 2) rfl) ?_
    exact fmV_iret (pc := 65) F dX0_figure_65 rfl ⟨rfl, rfl⟩
  · refine fmV_iload_n (pc := 0) (i := 1) F dX0_figure_0 rfl rfl ?_
    refine fmV_tableIn (pc := 1) (tgt := 66) F dX0_figure_1 (by decide) (by decide) rfl (by decide) ?_
    refine fmV_aload_n (pc := 66) (i := 0) F dX0_figure_66 rfl rfl ?_
    refine fmg_9_status (pc := 67) F (by assumption) (by assumption) hin_X0 dX0_figure_67 (List.mem_of_getElem? (i := 3) rfl) ?_
    exact fmV_iret (pc := 70) F dX0_figure_70 rfl ⟨rfl, rfl⟩
  · refine fmV_iload_n (pc := 0) (i := 1) F dX0_figure_0 rfl rfl ?_
    refine fmV_tableIn (pc := 1) (tgt := 71) F dX0_figure_1 (by decide) (by decide) rfl (by decide) ?_
    refine fmV_aload_n (pc := 71) (i := 0) F dX0_figure_71 rfl rfl ?_
    refine fmg_9_row (pc := 72) F (by assumption) (by assumption) hin_X0 dX0_figure_72 (List.mem_of_getElem? (i := 4) rfl) ?_
    exact fmV_iret (pc := 75) F dX0_figure_75 rfl ⟨rfl, rfl⟩
  · refine fmV_iload_n (pc := 0) (i := 1) F dX0_figure_0 rfl rfl ?_
    refine fmV_tableIn (pc := 1) (tgt := 76) F dX0_figure_1 (by decide) (by decide) rfl (by decide) ?_
    refine fmV_aload_n (pc := 76) (i := 0) F dX0_figure_76 rfl rfl ?_
    refine fmg_9_place (pc := 77) F (by assumption) (by assumption) hin_X0 dX0_figure_77 (List.mem_of_getElem? (i := 5) rfl) ?_
    exact fmV_iret (pc := 80) F dX0_figure_80 rfl ⟨rfl, rfl⟩
  · refine fmV_iload_n (pc := 0) (i := 1) F dX0_figure_0 rfl rfl ?_
    refine fmV_tableIn (pc := 1) (tgt := 81) F dX0_figure_1 (by decide) (by decide) rfl (by decide) ?_
    refine fmV_aload_n (pc := 81) (i := 0) F dX0_figure_81 rfl rfl ?_
    refine fmg_9_leaveStep (pc := 82) F (by assumption) (by assumption) hin_X0 dX0_figure_82 (List.mem_of_getElem? (i := 6) rfl) ?_
    exact fmV_iret (pc := 85) F dX0_figure_85 rfl ⟨rfl, rfl⟩
  · refine fmV_iload_n (pc := 0) (i := 1) F dX0_figure_0 rfl rfl ?_
    refine fmV_tableIn (pc := 1) (tgt := 86) F dX0_figure_1 (by decide) (by decide) rfl (by decide) ?_
    refine fmV_aload_n (pc := 86) (i := 0) F dX0_figure_86 rfl rfl ?_
    refine fmg_9_loosened (pc := 87) F (by assumption) (by assumption) hin_X0 dX0_figure_87 (List.mem_of_getElem? (i := 7) rfl) ?_
    exact fmV_iret (pc := 90) F dX0_figure_90 rfl ⟨rfl, rfl⟩
  · refine fmV_iload_n (pc := 0) (i := 1) F dX0_figure_0 rfl rfl ?_
    refine fmV_tableIn (pc := 1) (tgt := 91) F dX0_figure_1 (by decide) (by decide) rfl (by decide) ?_
    refine fmV_aload_n (pc := 91) (i := 0) F dX0_figure_91 rfl rfl ?_
    refine fmg_9_drifted (pc := 92) F (by assumption) (by assumption) hin_X0 dX0_figure_92 (List.mem_of_getElem? (i := 8) rfl) ?_
    exact fmV_iret (pc := 95) F dX0_figure_95 rfl ⟨rfl, rfl⟩
  · refine fmV_iload_n (pc := 0) (i := 1) F dX0_figure_0 rfl rfl ?_
    refine fmV_tableIn (pc := 1) (tgt := 96) F dX0_figure_1 (by decide) (by decide) rfl (by decide) ?_
    refine fmV_aload_n (pc := 96) (i := 0) F dX0_figure_96 rfl rfl ?_
    refine fmg_9_sold (pc := 97) F (by assumption) (by assumption) hin_X0 dX0_figure_97 (List.mem_of_getElem? (i := 9) rfl) ?_
    exact fmV_iret (pc := 100) F dX0_figure_100 rfl ⟨rfl, rfl⟩
  · refine fmV_iload_n (pc := 0) (i := 1) F dX0_figure_0 rfl rfl ?_
    refine fmV_tableIn (pc := 1) (tgt := 101) F dX0_figure_1 (by decide) (by decide) rfl (by decide) ?_
    refine fmV_aload_n (pc := 101) (i := 0) F dX0_figure_101 rfl rfl ?_
    refine fmg_9_bought (pc := 102) F (by assumption) (by assumption) hin_X0 dX0_figure_102 (List.mem_of_getElem? (i := 10) rfl) ?_
    exact fmV_iret (pc := 105) F dX0_figure_105 rfl ⟨rfl, rfl⟩
  · refine fmV_iload_n (pc := 0) (i := 1) F dX0_figure_0 rfl rfl ?_
    refine fmV_tableOut (pc := 1) (tgt := 106) F dX0_figure_1 (by decide) (by decide) ?_
    refine fmV_aload_n (pc := 106) (i := 0) F dX0_figure_106 rfl rfl ?_
    refine fmV_cVi (n := 0) (pc := 107) F (c_X0_missesInAll l D A G σ o ha hb) gX0_figure_X0_missesInAll rfl rfl rfl (by decide +kernel) ⟨Nat.le_of_ble_eq_true rfl, Nat.le_of_ble_eq_true rfl⟩ (fmR_9 F (by assumption) (by assumption)) rfl rfl (Nat.le_of_ble_eq_true rfl) dX0_figure_107 ⟨Nat.le_of_ble_eq_true rfl, Nat.le_of_ble_eq_true rfl⟩ (fun r2 u1 hc3 => ?_)
    obtain ⟨hr9, hu9⟩ := hc3
    have hr9 := hr9.symm
    have hu9 := hu9.symm
    subst hr9
    subst hu9
    exact fmV_iret (pc := 110) F dX0_figure_110 rfl ⟨rfl, rfl⟩

set_option maxHeartbeats 4000000 in
set_option maxRecDepth 100000 in
theorem c_X0_goodFigure (l : Launch) (D : va_G) (A : Nat → Prop) (G : fmG) (σ : fmS) (o : Nat → Int64) {a k : Nat} (ha : a < 2) (hb : k < 14) {g w : Nat} (hg : g < 4) (hw : w < 4) : fmMi l D A G yX0_goodFigure wsX0_goodFigure (fmRm 1 0 0) 0 0 [.ref (G.1 9 a k), .int (nI g), .int (nI w)] σ o (fun r u => r = fmGFig σ a k g w ∧ u = σ) := by
  refine fmMi_of (cc := cX0_goodFigure) (maxL := 3) (ret := (some .int)) (by decide +kernel) rfl (Nat.le_of_ble_eq_true rfl) ?_
  intro P_ E_ S_ M_ args_ below_ meth_ C_ F
  have hin_X0 : ∀ w ∈ wsX00, w ∈ wsX0_goodFigure := (fun _ h => List.mem_cons_of_mem _ (List.mem_append_right _ h))
  rcases (show w = 0 ∨ w = 1 ∨ w = 2 ∨ w = 3 by omega) with rfl | rfl | rfl | rfl
  · refine fmV_iload_n (pc := 0) (i := 2) F dX0_goodFigure_0 rfl rfl ?_
    refine fmV_tableIn (pc := 1) (tgt := 28) F dX0_goodFigure_1 (by decide) (by decide) rfl (by decide) ?_
    refine fmV_aload_n (pc := 28) (i := 0) F dX0_goodFigure_28 rfl rfl ?_
    refine fmg_9_has (pc := 29) F (by assumption) (by assumption) hin_X0 dX0_goodFigure_29 (List.mem_of_getElem? (i := 1) rfl) ?_
    refine fmV_iload_n (pc := 32) (i := 1) F dX0_goodFigure_32 rfl rfl ?_
    refine fmal_10 (pc := 33) F (by assumption) (by assumption) dX0_goodFigure_33 (vp_in_nI hg (by decide)) (fm_cn (by omega)) ?_
    exact fmV_iret (pc := 34) F dX0_goodFigure_34 rfl ⟨rfl, rfl⟩
  · refine fmV_iload_n (pc := 0) (i := 2) F dX0_goodFigure_0 rfl rfl ?_
    refine fmV_tableIn (pc := 1) (tgt := 35) F dX0_goodFigure_1 (by decide) (by decide) rfl (by decide) ?_
    refine fmV_aload_n (pc := 35) (i := 0) F dX0_goodFigure_35 rfl rfl ?_
    refine fmg_9_asks (pc := 36) F (by assumption) (by assumption) hin_X0 dX0_goodFigure_36 (List.mem_of_getElem? (i := 2) rfl) ?_
    refine fmV_iload_n (pc := 39) (i := 1) F dX0_goodFigure_39 rfl rfl ?_
    refine fmal_11 (pc := 40) F (by assumption) (by assumption) dX0_goodFigure_40 (vp_in_nI hg (by decide)) (fm_cn (by omega)) ?_
    exact fmV_iret (pc := 41) F dX0_goodFigure_41 rfl ⟨rfl, rfl⟩
  · refine fmV_iload_n (pc := 0) (i := 2) F dX0_goodFigure_0 rfl rfl ?_
    refine fmV_tableIn (pc := 1) (tgt := 42) F dX0_goodFigure_1 (by decide) (by decide) rfl (by decide) ?_
    refine fmV_aload_n (pc := 42) (i := 0) F dX0_goodFigure_42 rfl rfl ?_
    refine fmg_9_wants (pc := 43) F (by assumption) (by assumption) hin_X0 dX0_goodFigure_43 (List.mem_of_getElem? (i := 3) rfl) ?_
    refine fmV_iload_n (pc := 46) (i := 1) F dX0_goodFigure_46 rfl rfl ?_
    refine fmal_12 (pc := 47) F (by assumption) (by assumption) dX0_goodFigure_47 (vp_in_nI hg (by decide)) (fm_cn (by omega)) ?_
    exact fmV_iret (pc := 48) F dX0_goodFigure_48 rfl ⟨rfl, rfl⟩
  · refine fmV_iload_n (pc := 0) (i := 2) F dX0_goodFigure_0 rfl rfl ?_
    refine fmV_tableOut (pc := 1) (tgt := 49) F dX0_goodFigure_1 (by decide) (by decide) ?_
    refine fmV_aload_n (pc := 49) (i := 0) F dX0_goodFigure_49 rfl rfl ?_
    refine fmg_9_pays (pc := 50) F (by assumption) (by assumption) hin_X0 dX0_goodFigure_50 (List.mem_of_getElem? (i := 4) rfl) ?_
    refine fmV_iload_n (pc := 53) (i := 1) F dX0_goodFigure_53 rfl rfl ?_
    refine fmal_13 (pc := 54) F (by assumption) (by assumption) dX0_goodFigure_54 (vp_in_nI hg (by decide)) (fm_cn (by omega)) ?_
    exact fmV_iret (pc := 55) F dX0_goodFigure_55 rfl ⟨rfl, rfl⟩

set_option maxHeartbeats 4000000 in
set_option maxRecDepth 100000 in
theorem c_X0_addTo (l : Launch) (D : va_G) (A : Nat → Prop) (G : fmG) (σ : fmS) (o : Nat → Int64) {a k : Nat} (ha : a < 2) (hb : k < 14) (d : Int64) : fmMl l D A G yX0_addTo wsX0_addTo (fmRm 4 0 0) 0 0 [.ref (G.1 9 a k), .long d] σ o (fun r u => r = fmCAdd σ a k d ∧ u = σ) := by
  refine fmMl_of (cc := cX0_addTo) (maxL := 7) (ret := (some .long)) (by decide +kernel) rfl (Nat.le_of_ble_eq_true rfl) ?_
  intro P_ E_ S_ M_ args_ below_ meth_ C_ F
  have hin_X0 : ∀ w ∈ wsX00, w ∈ wsX0_addTo := (fun _ h => List.mem_cons_of_mem _ (List.mem_append_right _ h))
  refine fmV_lload_n (pc := 0) (i := 1) F dX0_addTo_0 rfl rfl ?_
  refine fmV_lstore_n (pc := 1) (i := 3) F dX0_addTo_1 rfl (by decide) ?_
  refine fmV_iconst (pc := 2) (v := 0) F dX0_addTo_2 rfl ?_
  refine fmV_istore (pc := 3) (i := 5) F dX0_addTo_3 (by decide) ?_
  refine fmV_lv (lv' := [(0, .ref (G.1 9 a k)), (3, .long (fmFold (fun w d => fmD d (fmFig σ a k w)) d 0)), (5, .int (nI 0))]) ⟨rfl, rfl, rfl, trivial⟩ ?_
  refine fmV_up (N := 11) (pc := 5) (σf := fun j => σ) (lvf := fun j => [(0, .ref (G.1 9 a k)), (3, .long (fmFold (fun w d => fmD d (fmFig σ a k w)) d j)), (5, .int (nI j))]) 0 (by decide) ?_ ?_
  · refine fmV_iload (pc := 5) (i := 5) F dX0_addTo_5 rfl ?_
    refine fmV_bipush (pc := 7) (v := 11) F dX0_addTo_7 (by decide) ?_
    refine fmV_icmp_ge (pc := 9) (tgt := 32) F dX0_addTo_9 (by decide) (fun hb1 => ?_) (fun hb1 => ?_)
    · refine fmV_iconst (pc := 32) (v := 0) F dX0_addTo_32 rfl ?_
      refine fmV_istore (pc := 33) (i := 5) F dX0_addTo_33 (by decide) ?_
      refine fmV_lv (lv' := [(0, .ref (G.1 9 a k)), (3, .long (fmFold (fun g d => fmFold (fun w d => fmD d (fmGFig σ a k g w)) d 4) (fmFold (fun w d => fmD d (fmFig σ a k w)) d 11) 0)), (5, .int (nI 0))]) ⟨rfl, rfl, rfl, trivial⟩ ?_
      refine fmV_up (N := 4) (pc := 35) (σf := fun j => σ) (lvf := fun j => [(0, .ref (G.1 9 a k)), (3, .long (fmFold (fun g d => fmFold (fun w d => fmD d (fmGFig σ a k g w)) d 4) (fmFold (fun w d => fmD d (fmFig σ a k w)) d 11) j)), (5, .int (nI j))]) 0 (by decide) ?_ ?_
      · refine fmV_iload (pc := 35) (i := 5) F dX0_addTo_35 rfl ?_
        refine fmV_iconst (pc := 37) (v := 4) F dX0_addTo_37 rfl ?_
        refine fmV_icmp_ge (pc := 38) (tgt := 78) F dX0_addTo_38 (by decide) (fun hb2 => ?_) (fun hb2 => ?_)
        · refine fmV_lload_n (pc := 78) (i := 3) F dX0_addTo_78 rfl rfl ?_
          exact fmV_lret (pc := 79) F dX0_addTo_79 rfl ⟨rfl, rfl⟩
        · exact absurd hb2 (by decide)
      · intro j hj ih
        refine fmV_iload (pc := 35) (i := 5) F dX0_addTo_35 rfl ?_
        refine fmV_iconst (pc := 37) (v := 4) F dX0_addTo_37 rfl ?_
        refine fmV_icmp_ge (pc := 38) (tgt := 78) F dX0_addTo_38 (by decide) (fun hb2 => ?_) (fun hb2 => ?_)
        · exact absurd hb2 (nI_ge (b := 4) hj (by decide))
        · refine fmV_iconst (pc := 41) (v := 0) F dX0_addTo_41 rfl ?_
          refine fmV_istore (pc := 42) (i := 6) F dX0_addTo_42 (by decide) ?_
          refine fmV_lv (lv' := [(0, .ref (G.1 9 a k)), (3, .long (fmFold (fun w d => fmD d (fmGFig σ a k j w)) (fmFold (fun g d => fmFold (fun w d => fmD d (fmGFig σ a k g w)) d 4) (fmFold (fun w d => fmD d (fmFig σ a k w)) d 11) j) 0)), (5, .int (nI j)), (6, .int (nI 0))]) ⟨rfl, rfl, rfl, rfl, trivial⟩ ?_
          refine fmV_up (N := 4) (pc := 44) (σf := fun i => σ) (lvf := fun i => [(0, .ref (G.1 9 a k)), (3, .long (fmFold (fun w d => fmD d (fmGFig σ a k j w)) (fmFold (fun g d => fmFold (fun w d => fmD d (fmGFig σ a k g w)) d 4) (fmFold (fun w d => fmD d (fmFig σ a k w)) d 11) j) i)), (5, .int (nI j)), (6, .int (nI i))]) 0 (by decide) ?_ ?_
          · refine fmV_iload (pc := 44) (i := 6) F dX0_addTo_44 rfl ?_
            refine fmV_iconst (pc := 46) (v := 4) F dX0_addTo_46 rfl ?_
            refine fmV_icmp_ge (pc := 47) (tgt := 72) F dX0_addTo_47 (by decide) (fun hb3 => ?_) (fun hb3 => ?_)
            · refine fmV_iinc (pc := 72) (i := 5) F dX0_addTo_72 rfl rfl (by decide) ?_
              refine fmV_goto (pc := 75) (tgt := 35) F dX0_addTo_75 (by decide) ?_
              refine fmV_lv ?_ ih
              exact ⟨rfl, rfl, by rw [nI_succ j]; rfl, trivial⟩
            · exact absurd hb3 (by decide)
          · intro i hi ih2
            refine fmV_iload (pc := 44) (i := 6) F dX0_addTo_44 rfl ?_
            refine fmV_iconst (pc := 46) (v := 4) F dX0_addTo_46 rfl ?_
            refine fmV_icmp_ge (pc := 47) (tgt := 72) F dX0_addTo_47 (by decide) (fun hb3 => ?_) (fun hb3 => ?_)
            · exact absurd hb3 (nI_ge (b := 4) hi (by decide))
            · refine fmV_lload_n (pc := 50) (i := 3) F dX0_addTo_50 rfl rfl ?_
              refine fmV_ldc2 (pc := 51) (v := (31)) F dX0_addTo_51 (List.mem_of_getElem? (i := 1) rfl) ?_
              refine fmV_lmul (pc := 54) F dX0_addTo_54 ?_
              refine fmV_aload_n (pc := 55) (i := 0) F dX0_addTo_55 rfl rfl ?_
              refine fmV_iload (pc := 56) (i := 5) F dX0_addTo_56 rfl ?_
              refine fmV_iload (pc := 58) (i := 6) F dX0_addTo_58 rfl ?_
              refine fmV_cVi (n := 2) (pc := 60) F (c_X0_goodFigure l D A G σ o ha hb hj hi) gX0_addTo_X0_goodFigure rfl rfl rfl (by decide +kernel) ⟨Nat.le_of_ble_eq_true rfl, Nat.le_of_ble_eq_true rfl⟩ (fmR_9 F (by assumption) (by assumption)) rfl rfl (Nat.le_of_ble_eq_true rfl) dX0_addTo_60 ⟨Nat.le_of_ble_eq_true rfl, Nat.le_of_ble_eq_true rfl⟩ (fun r2 u1 hc3 => ?_)
              obtain ⟨hr9, hu9⟩ := hc3
              have hr9 := hr9.symm
              have hu9 := hu9.symm
              subst hr9
              subst hu9
              refine fmV_i2l (pc := 63) F dX0_addTo_63 rfl ?_
              refine fmV_ladd (pc := 64) F dX0_addTo_64 ?_
              refine fmV_lstore_n (pc := 65) (i := 3) F dX0_addTo_65 rfl (by decide) ?_
              refine fmV_iinc (pc := 66) (i := 6) F dX0_addTo_66 rfl rfl (by decide) ?_
              refine fmV_goto (pc := 69) (tgt := 44) F dX0_addTo_69 (by decide) ?_
              refine fmV_lv ?_ ih2
              exact ⟨rfl, rfl, rfl, by rw [nI_succ i]; rfl, trivial⟩
    · exact absurd hb1 (by decide)
  · intro j hj ih
    refine fmV_iload (pc := 5) (i := 5) F dX0_addTo_5 rfl ?_
    refine fmV_bipush (pc := 7) (v := 11) F dX0_addTo_7 (by decide) ?_
    refine fmV_icmp_ge (pc := 9) (tgt := 32) F dX0_addTo_9 (by decide) (fun hb1 => ?_) (fun hb1 => ?_)
    · exact absurd hb1 (nI_ge (b := 11) hj (by decide))
    · refine fmV_lload_n (pc := 12) (i := 3) F dX0_addTo_12 rfl rfl ?_
      refine fmV_ldc2 (pc := 13) (v := (31)) F dX0_addTo_13 (List.mem_of_getElem? (i := 1) rfl) ?_
      refine fmV_lmul (pc := 16) F dX0_addTo_16 ?_
      refine fmV_aload_n (pc := 17) (i := 0) F dX0_addTo_17 rfl rfl ?_
      refine fmV_iload (pc := 18) (i := 5) F dX0_addTo_18 rfl ?_
      refine fmV_cVi (n := 1) (pc := 20) F (c_X0_figure l D A G σ o ha hb hj) gX0_addTo_X0_figure rfl rfl rfl (by decide +kernel) ⟨Nat.le_of_ble_eq_true rfl, Nat.le_of_ble_eq_true rfl⟩ (fmR_9 F (by assumption) (by assumption)) rfl rfl (Nat.le_of_ble_eq_true rfl) dX0_addTo_20 ⟨Nat.le_of_ble_eq_true rfl, Nat.le_of_ble_eq_true rfl⟩ (fun r5 u4 hc6 => ?_)
      obtain ⟨hr9, hu9⟩ := hc6
      have hr9 := hr9.symm
      have hu9 := hu9.symm
      subst hr9
      subst hu9
      refine fmV_i2l (pc := 23) F dX0_addTo_23 rfl ?_
      refine fmV_ladd (pc := 24) F dX0_addTo_24 ?_
      refine fmV_lstore_n (pc := 25) (i := 3) F dX0_addTo_25 rfl (by decide) ?_
      refine fmV_iinc (pc := 26) (i := 5) F dX0_addTo_26 rfl rfl (by decide) ?_
      refine fmV_goto (pc := 29) (tgt := 5) F dX0_addTo_29 (by decide) ?_
      refine fmV_lv ?_ ih
      exact ⟨rfl, rfl, by rw [nI_succ j]; rfl, trivial⟩

set_option maxHeartbeats 4000000 in
set_option maxRecDepth 100000 in
theorem c_X2_isFull (l : Launch) (D : va_G) (A : Nat → Prop) (G : fmG) (σ : fmS) (o : Nat → Int64) {a r : Nat} (ha : a < 2) (hb : r < 4) : fmMi l D A G yX2_isFull wsX2_isFull (fmRm 1 0 0) 0 0 [.ref (G.1 7 a r)] σ o (fun x u => x = (if σ 48 a r 0 < σ 47 a r 0 then 0 else 1) ∧ u = σ) := by
  refine fmMi_of (cc := cX2_isFull) (maxL := 1) (ret := (some .boolean)) (by decide +kernel) rfl (Nat.le_of_ble_eq_true rfl) ?_
  intro P_ E_ S_ M_ args_ below_ meth_ C_ F
  have hin_X2 : ∀ w ∈ wsX20, w ∈ wsX2_isFull := (fun _ h => List.mem_cons_of_mem _ (List.mem_append_right _ h))
  refine fmV_aload_n (pc := 0) (i := 0) F dX2_isFull_0 rfl rfl ?_
  refine fmg_7_used (pc := 1) F (by assumption) (by assumption) hin_X2 dX2_isFull_1 (List.mem_of_getElem? (i := 1) rfl) ?_
  refine fmV_aload_n (pc := 4) (i := 0) F dX2_isFull_4 rfl rfl ?_
  refine fmg_7_places (pc := 5) F (by assumption) (by assumption) hin_X2 dX2_isFull_5 (List.mem_of_getElem? (i := 2) rfl) ?_
  refine fmV_icmp_lt (pc := 8) (tgt := 15) F dX2_isFull_8 (by decide) (fun h1 => ?_) (fun h1 => ?_)
  · refine fmV_iconst (pc := 15) (v := 0) F dX2_isFull_15 rfl ?_
    exact fmV_zret (pc := 16) F dX2_isFull_16 rfl rfl ⟨by rw [if_pos h1], rfl⟩
  · refine fmV_iconst (pc := 11) (v := 1) F dX2_isFull_11 rfl ?_
    refine fmV_goto (pc := 12) (tgt := 16) F dX2_isFull_12 (by decide) ?_
    exact fmV_zret (pc := 16) F dX2_isFull_16 rfl rfl ⟨by rw [if_neg h1], rfl⟩

set_option maxHeartbeats 4000000 in
set_option maxRecDepth 100000 in
theorem c_X2_canoeAt (l : Launch) (D : va_G) (A : Nat → Prop) (G : fmG) (σ : fmS) (o : Nat → Int64) {a r : Nat} (ha : a < 2) (hb : r < 4) {v : Nat} (hv : v ≤ 6) (hu : σ 48 a r 0 = nI v) (x : Int32) : fmMi l D A G yX2_canoeAt wsX2_canoeAt (fmRm 1 0 0) 0 0 [.ref (G.1 7 a r), .int x] σ o (fun y u => y = fmRAt σ a r x ∧ u = σ) := by
  refine fmMi_of (cc := cX2_canoeAt) (maxL := 2) (ret := (some .int)) (by decide +kernel) rfl (Nat.le_of_ble_eq_true rfl) ?_
  intro P_ E_ S_ M_ args_ below_ meth_ C_ F
  have hin_X2 : ∀ w ∈ wsX20, w ∈ wsX2_canoeAt := (fun _ h => List.mem_cons_of_mem _ (List.mem_append_right _ h))
  refine fmV_iload_n (pc := 0) (i := 1) F dX2_canoeAt_0 rfl rfl ?_
  refine fmV_if_lt (pc := 1) (tgt := 21) F dX2_canoeAt_1 (by decide) (fun h1 => ?_) (fun h1 => ?_)
  · refine fmV_iconst (pc := 21) (v := (-1)) F dX2_canoeAt_21 rfl ?_
    exact fmV_iret (pc := 22) F dX2_canoeAt_22 rfl ⟨by rw [fmRAt, if_neg (fun q => q.1 h1)], rfl⟩
  · refine fmV_iload_n (pc := 4) (i := 1) F dX2_canoeAt_4 rfl rfl ?_
    refine fmV_aload_n (pc := 5) (i := 0) F dX2_canoeAt_5 rfl rfl ?_
    refine fmg_7_used (pc := 6) F (by assumption) (by assumption) hin_X2 dX2_canoeAt_6 (List.mem_of_getElem? (i := 1) rfl) ?_
    refine fmV_icmp_ge (pc := 9) (tgt := 21) F dX2_canoeAt_9 (by decide) (fun h2 => ?_) (fun h2 => ?_)
    · refine fmV_iconst (pc := 21) (v := (-1)) F dX2_canoeAt_21 rfl ?_
      exact fmV_iret (pc := 22) F dX2_canoeAt_22 rfl ⟨by rw [fmRAt, if_neg (fun q => Int32.not_lt.mpr h2 q.2)], rfl⟩
    · refine fmV_aload_n (pc := 12) (i := 0) F dX2_canoeAt_12 rfl rfl ?_
      refine fmg_7_moored (pc := 13) F (by assumption) (by assumption) hin_X2 dX2_canoeAt_13 (List.mem_of_getElem? (i := 2) rfl) ?_
      refine fmV_iload_n (pc := 16) (i := 1) F dX2_canoeAt_16 rfl rfl ?_
      have hin9 : vp_in x 6 := by
        rw [hu] at h2
        obtain ⟨j, hj, rfl⟩ := nI_of h1
        have h3 : j < v := by
          rcases Nat.lt_or_ge j v with q | q
          · exact q
          · exact absurd (nI_le q hj) h2
        exact vp_in_nI (by omega) (by decide)
      refine fmal_8 (pc := 17) F (by assumption) (by assumption) dX2_canoeAt_17 hin9 rfl ?_
      refine fmV_goto (pc := 18) (tgt := 22) F dX2_canoeAt_18 (by decide) ?_
      exact fmV_iret (pc := 22) F dX2_canoeAt_22 rfl ⟨by rw [fmRAt, if_pos ⟨h1, Int32.not_le.mp h2⟩], rfl⟩

set_option maxHeartbeats 4000000 in
set_option maxRecDepth 100000 in
theorem c_X2_append (l : Launch) (D : va_G) (A : Nat → Prop) (G : fmG) (σ : fmS) (o : Nat → Int64) {a r : Nat} (ha : a < 2) (hb : r < 4) {v q : Nat} (hq : q ≤ 6) (hvp : v < q) (hu : σ 48 a r 0 = nI v) (hp : σ 47 a r 0 = nI q) (x : Int32) : fmMv l D A G yX2_append wsX2_append (fmRm 1 0 0) 0 0 [.ref (G.1 7 a r), .int x] σ o (fun u => u = fmApp σ a r v x) := by
  refine fmMv_of (cc := cX2_append) (maxL := 2) (ret := none) (by decide +kernel) rfl (Nat.le_of_ble_eq_true rfl) ?_
  intro P_ E_ S_ M_ args_ below_ meth_ C_ F
  have hin_X2 : ∀ w ∈ wsX20, w ∈ wsX2_append := (fun _ h => List.mem_cons_of_mem _ (List.mem_append_right _ h))
  refine fmV_aload_n (pc := 0) (i := 0) F dX2_append_0 rfl rfl ?_
  refine fmg_7_used (pc := 1) F (by assumption) (by assumption) hin_X2 dX2_append_1 (List.mem_of_getElem? (i := 1) rfl) ?_
  refine fmV_aload_n (pc := 4) (i := 0) F dX2_append_4 rfl rfl ?_
  refine fmg_7_places (pc := 5) F (by assumption) (by assumption) hin_X2 dX2_append_5 (List.mem_of_getElem? (i := 2) rfl) ?_
  refine fmV_icmp_ge (pc := 8) (tgt := 31) F dX2_append_8 (by decide) (fun h1 => ?_) (fun h1 => ?_)
  · rw [hu, hp] at h1
    exact absurd h1 (nI_ge hvp (by omega))
  · refine fmV_aload_n (pc := 11) (i := 0) F dX2_append_11 rfl rfl ?_
    refine fmg_7_moored (pc := 12) F (by assumption) (by assumption) hin_X2 dX2_append_12 (List.mem_of_getElem? (i := 3) rfl) ?_
    refine fmV_aload_n (pc := 15) (i := 0) F dX2_append_15 rfl rfl ?_
    refine fmg_7_used (pc := 16) F (by assumption) (by assumption) hin_X2 dX2_append_16 (List.mem_of_getElem? (i := 1) rfl) ?_
    refine fmV_iload_n (pc := 19) (i := 1) F dX2_append_19 rfl rfl ?_
    refine fmas_8 (pc := 20) F (by assumption) (by assumption) dX2_append_20 (fm_in hu (by omega) (by decide)) (fm_cl hu (by omega)) ?_
    refine fmV_aload_n (pc := 21) (i := 0) F dX2_append_21 rfl rfl ?_
    refine fmV_dup (pc := 22) F dX2_append_22 rfl ?_
    refine fmg_7_used (pc := 23) F (by assumption) (by assumption) hin_X2 dX2_append_23 (List.mem_of_getElem? (i := 1) rfl) ?_
    refine fmV_iconst (pc := 26) (v := 1) F dX2_append_26 rfl ?_
    refine fmV_iadd (pc := 27) F dX2_append_27 ?_
    refine fmp_7_used (pc := 28) F (by assumption) (by assumption) hin_X2 dX2_append_28 (List.mem_of_getElem? (i := 1) rfl) ?_
    exact fmV_vret (pc := 31) F dX2_append_31 rfl (by show fmu (fmu σ 8 a r (upd (σ 8 a r) v x)) 48 a r (fun _ => fmu σ 8 a r (upd (σ 8 a r) v x) 48 a r 0 + 1) = fmApp σ a r v x; rw [fmu_c _ _ _ _ _ (by decide), hu, fmApp, nI_succ])

set_option maxHeartbeats 4000000 in
set_option maxRecDepth 100000 in
theorem c_X2_closeGap (l : Launch) (D : va_G) (A : Nat → Prop) (G : fmG) (σ : fmS) (o : Nat → Int64) {a r : Nat} (ha : a < 2) (hb : r < 4) {v q : Nat} (hv : v ≤ 6) (hqv : q < v) (hu : σ 48 a r 0 = nI v) : fmMv l D A G yX2_closeGap wsX2_closeGap (fmRm 1 0 0) 0 0 [.ref (G.1 7 a r), .int (nI q)] σ o (fun u => u = fmGap σ a r q v) := by
  refine fmMv_of (cc := cX2_closeGap) (maxL := 3) (ret := none) (by decide +kernel) rfl (Nat.le_of_ble_eq_true rfl) ?_
  intro P_ E_ S_ M_ args_ below_ meth_ C_ F
  have hin_X2 : ∀ w ∈ wsX20, w ∈ wsX2_closeGap := (fun _ h => List.mem_cons_of_mem _ (List.mem_append_right _ h))
  have hs0 : fmu σ 8 a r (fmShift (σ 8 a r) q (q + 1 + 0)) = σ := by rw [fmShift_0]; exact fmu_id _ _ _ _
  refine fmV_iload_n (pc := 0) (i := 1) F dX2_closeGap_0 rfl rfl ?_
  refine fmV_if_lt (pc := 1) (tgt := 12) F dX2_closeGap_1 (by decide) (fun h1 => ?_) (fun h1 => ?_)
  · exact absurd h1 (nI_pos (by omega))
  · refine fmV_iload_n (pc := 4) (i := 1) F dX2_closeGap_4 rfl rfl ?_
    refine fmV_aload_n (pc := 5) (i := 0) F dX2_closeGap_5 rfl rfl ?_
    refine fmg_7_used (pc := 6) F (by assumption) (by assumption) hin_X2 dX2_closeGap_6 (List.mem_of_getElem? (i := 1) rfl) ?_
    refine fmV_icmp_lt (pc := 9) (tgt := 13) F dX2_closeGap_9 (by decide) (fun h2 => ?_) (fun h2 => ?_)
    · refine fmV_iload_n (pc := 13) (i := 1) F dX2_closeGap_13 rfl rfl ?_
      refine fmV_iconst (pc := 14) (v := 1) F dX2_closeGap_14 rfl ?_
      refine fmV_iadd (pc := 15) F dX2_closeGap_15 ?_
      refine fmV_istore_n (pc := 16) (i := 2) F dX2_closeGap_16 rfl (by decide) ?_
      refine fmV_sg hs0 ?_
      refine fmV_lv (lv' := [(0, .ref (G.1 7 a r)), (2, .int (nI (q + 1 + 0)))]) ⟨rfl, by rw [show nI (q + 1 + 0) = nI q + 1 from nI_succ q]; rfl, trivial⟩ ?_
      refine fmV_up (N := (v - (q + 1))) (pc := 17) (σf := fun j => fmu σ 8 a r (fmShift (σ 8 a r) q (q + 1 + j))) (lvf := fun j => [(0, .ref (G.1 7 a r)), (2, .int (nI (q + 1 + j)))]) 0 (Nat.zero_le _) ?_ ?_
      · have he : q + 1 + (v - (q + 1)) = v := by omega
        rw [he]
        refine fmV_iload_n (pc := 17) (i := 2) F dX2_closeGap_17 rfl rfl ?_
        refine fmV_aload_n (pc := 18) (i := 0) F dX2_closeGap_18 rfl rfl ?_
        refine fmg_7_used (pc := 19) F (by assumption) (by assumption) hin_X2 dX2_closeGap_19 (List.mem_of_getElem? (i := 1) rfl) ?_
        refine fmV_icmp_ge (pc := 22) (tgt := 45) F dX2_closeGap_22 (by decide) (fun h3 => ?_) (fun h3 => ?_)
        · refine fmV_aload_n (pc := 45) (i := 0) F dX2_closeGap_45 rfl rfl ?_
          refine fmV_dup (pc := 46) F dX2_closeGap_46 rfl ?_
          refine fmg_7_used (pc := 47) F (by assumption) (by assumption) hin_X2 dX2_closeGap_47 (List.mem_of_getElem? (i := 1) rfl) ?_
          refine fmV_iconst (pc := 50) (v := 1) F dX2_closeGap_50 rfl ?_
          refine fmV_isub (pc := 51) F dX2_closeGap_51 ?_
          refine fmp_7_used (pc := 52) F (by assumption) (by assumption) hin_X2 dX2_closeGap_52 (List.mem_of_getElem? (i := 1) rfl) ?_
          exact fmV_vret (pc := 55) F dX2_closeGap_55 rfl (by rw [fmGap]; congr 1; rw [fmu_c _ _ _ _ _ (by decide), hu]; rw [show nI v = nI (v - 1 + 1) by rw [Nat.sub_add_cancel (by omega)]]; exact funext (fun _ => nI_pred _))
        · rw [fmu_c _ _ _ _ _ (by decide), hu] at h3
          exact absurd (nI_le (Nat.le_refl v) (by omega)) h3
      · intro j hj ih
        refine fmV_iload_n (pc := 17) (i := 2) F dX2_closeGap_17 rfl rfl ?_
        refine fmV_aload_n (pc := 18) (i := 0) F dX2_closeGap_18 rfl rfl ?_
        refine fmg_7_used (pc := 19) F (by assumption) (by assumption) hin_X2 dX2_closeGap_19 (List.mem_of_getElem? (i := 1) rfl) ?_
        refine fmV_icmp_ge (pc := 22) (tgt := 45) F dX2_closeGap_22 (by decide) (fun h3 => ?_) (fun h3 => ?_)
        · rw [fmu_c _ _ _ _ _ (by decide), hu] at h3
          exact absurd h3 (nI_ge (by omega) (by omega))
        · refine fmV_aload_n (pc := 25) (i := 0) F dX2_closeGap_25 rfl rfl ?_
          refine fmg_7_moored (pc := 26) F (by assumption) (by assumption) hin_X2 dX2_closeGap_26 (List.mem_of_getElem? (i := 2) rfl) ?_
          refine fmV_iload_n (pc := 29) (i := 2) F dX2_closeGap_29 rfl rfl ?_
          refine fmV_iconst (pc := 30) (v := 1) F dX2_closeGap_30 rfl ?_
          refine fmV_isub (pc := 31) F dX2_closeGap_31 ?_
          refine fmV_aload_n (pc := 32) (i := 0) F dX2_closeGap_32 rfl rfl ?_
          refine fmg_7_moored (pc := 33) F (by assumption) (by assumption) hin_X2 dX2_closeGap_33 (List.mem_of_getElem? (i := 2) rfl) ?_
          refine fmV_iload_n (pc := 36) (i := 2) F dX2_closeGap_36 rfl rfl ?_
          refine fmal_8 (pc := 37) F (by assumption) (by assumption) dX2_closeGap_37 (vp_in_nI (by omega) (by decide)) (fm_cn (by omega)) ?_
          refine fmas_8 (pc := 38) F (by assumption) (by assumption) dX2_closeGap_38 (fm_in (j := q + j) (by rw [show q + 1 + j = (q + j) + 1 by omega]; exact nI_pred _) (by omega) (by decide)) (fm_cl (j := q + j) (by rw [show q + 1 + j = (q + j) + 1 by omega]; exact nI_pred _) (by omega)) ?_
          rw [fmu_fmu, fmu_self, show upd (fmShift (σ 8 a r) q (q + 1 + j)) (q + j) (fmShift (σ 8 a r) q (q + 1 + j) (q + 1 + j)) = fmShift (σ 8 a r) q (q + 1 + (j + 1)) from fmShift_up _ _ _]
          refine fmV_iinc (pc := 39) (i := 2) F dX2_closeGap_39 rfl rfl (by decide) ?_
          refine fmV_goto (pc := 42) (tgt := 17) F dX2_closeGap_42 (by decide) ?_
          refine fmV_lv ?_ ih
          exact ⟨rfl, by rw [show q + 1 + (j + 1) = (q + 1 + j) + 1 by omega, nI_succ]; rfl, trivial⟩
    · rw [hu] at h2
      exact absurd (nI_lt hqv (by omega)) h2

set_option maxHeartbeats 4000000 in
set_option maxRecDepth 100000 in
theorem c_X2_addTo (l : Launch) (D : va_G) (A : Nat → Prop) (G : fmG) (σ : fmS) (o : Nat → Int64) {a r : Nat} (ha : a < 2) (hb : r < 4) {v q : Nat} (hv : v ≤ 6) (hq : q ≤ 6) (hu : σ 48 a r 0 = nI v) (hp : σ 47 a r 0 = nI q) (d : Int64) : fmMl l D A G yX2_addTo wsX2_addTo (fmRm 2 0 0) 0 0 [.ref (G.1 7 a r), .long d] σ o (fun x u => x = fmRAdd σ a r q d ∧ u = σ) := by
  refine fmMl_of (cc := cX2_addTo) (maxL := 6) (ret := (some .long)) (by decide +kernel) rfl (Nat.le_of_ble_eq_true rfl) ?_
  intro P_ E_ S_ M_ args_ below_ meth_ C_ F
  have hin_X2 : ∀ w ∈ wsX20, w ∈ wsX2_addTo := (fun _ h => List.mem_cons_of_mem _ (List.mem_append_right _ h))
  refine fmV_lload_n (pc := 0) (i := 1) F dX2_addTo_0 rfl rfl ?_
  refine fmV_ldc2 (pc := 1) (v := (31)) F dX2_addTo_1 (List.mem_of_getElem? (i := 1) rfl) ?_
  refine fmV_lmul (pc := 4) F dX2_addTo_4 ?_
  refine fmV_aload_n (pc := 5) (i := 0) F dX2_addTo_5 rfl rfl ?_
  refine fmg_7_places (pc := 6) F (by assumption) (by assumption) hin_X2 dX2_addTo_6 (List.mem_of_getElem? (i := 2) rfl) ?_
  refine fmV_i2l (pc := 9) F dX2_addTo_9 rfl ?_
  refine fmV_ladd (pc := 10) F dX2_addTo_10 ?_
  refine fmV_lstore_n (pc := 11) (i := 3) F dX2_addTo_11 rfl (by decide) ?_
  refine fmV_iconst (pc := 12) (v := 0) F dX2_addTo_12 rfl ?_
  refine fmV_istore (pc := 13) (i := 5) F dX2_addTo_13 (by decide) ?_
  refine fmV_lv (lv' := [(0, .ref (G.1 7 a r)), (3, .long (fmFold (fun j d => fmD d (fmRAt σ a r (nI j))) (fmD d (σ 47 a r 0)) 0)), (5, .int (nI 0))]) ⟨rfl, rfl, rfl, trivial⟩ ?_
  refine fmV_up (N := q) (pc := 15) (σf := fun j => σ) (lvf := fun j => [(0, .ref (G.1 7 a r)), (3, .long (fmFold (fun j d => fmD d (fmRAt σ a r (nI j))) (fmD d (σ 47 a r 0)) j)), (5, .int (nI j))]) 0 (Nat.zero_le _) ?_ ?_
  · refine fmV_iload (pc := 15) (i := 5) F dX2_addTo_15 rfl ?_
    refine fmV_aload_n (pc := 17) (i := 0) F dX2_addTo_17 rfl rfl ?_
    refine fmg_7_places (pc := 18) F (by assumption) (by assumption) hin_X2 dX2_addTo_18 (List.mem_of_getElem? (i := 2) rfl) ?_
    refine fmV_icmp_ge (pc := 21) (tgt := 44) F dX2_addTo_21 (by decide) (fun h1 => ?_) (fun h1 => ?_)
    · refine fmV_lload_n (pc := 44) (i := 3) F dX2_addTo_44 rfl rfl ?_
      exact fmV_lret (pc := 45) F dX2_addTo_45 rfl ⟨rfl, rfl⟩
    · rw [hp] at h1
      exact absurd (nI_le (Nat.le_refl q) (by omega)) h1
  · intro j hj ih
    refine fmV_iload (pc := 15) (i := 5) F dX2_addTo_15 rfl ?_
    refine fmV_aload_n (pc := 17) (i := 0) F dX2_addTo_17 rfl rfl ?_
    refine fmg_7_places (pc := 18) F (by assumption) (by assumption) hin_X2 dX2_addTo_18 (List.mem_of_getElem? (i := 2) rfl) ?_
    refine fmV_icmp_ge (pc := 21) (tgt := 44) F dX2_addTo_21 (by decide) (fun h1 => ?_) (fun h1 => ?_)
    · rw [hp] at h1
      exact absurd h1 (nI_ge hj (by omega))
    · refine fmV_lload_n (pc := 24) (i := 3) F dX2_addTo_24 rfl rfl ?_
      refine fmV_ldc2 (pc := 25) (v := (31)) F dX2_addTo_25 (List.mem_of_getElem? (i := 1) rfl) ?_
      refine fmV_lmul (pc := 28) F dX2_addTo_28 ?_
      refine fmV_aload_n (pc := 29) (i := 0) F dX2_addTo_29 rfl rfl ?_
      refine fmV_iload (pc := 30) (i := 5) F dX2_addTo_30 rfl ?_
      refine fmV_cVi (n := 1) (pc := 32) F (c_X2_canoeAt l D A G σ o ha hb hv hu (nI j)) gX2_addTo_X2_canoeAt rfl rfl rfl (by decide +kernel) ⟨Nat.le_of_ble_eq_true rfl, Nat.le_of_ble_eq_true rfl⟩ (fmR_7 F (by assumption) (by assumption)) rfl rfl (Nat.le_of_ble_eq_true rfl) dX2_addTo_32 ⟨Nat.le_of_ble_eq_true rfl, Nat.le_of_ble_eq_true rfl⟩ (fun r2 u1 hc3 => ?_)
      obtain ⟨hr9, hu9⟩ := hc3
      have hr9 := hr9.symm
      have hu9 := hu9.symm
      subst hr9
      subst hu9
      refine fmV_i2l (pc := 35) F dX2_addTo_35 rfl ?_
      refine fmV_ladd (pc := 36) F dX2_addTo_36 ?_
      refine fmV_lstore_n (pc := 37) (i := 3) F dX2_addTo_37 rfl (by decide) ?_
      refine fmV_iinc (pc := 38) (i := 5) F dX2_addTo_38 rfl rfl (by decide) ?_
      refine fmV_goto (pc := 41) (tgt := 15) F dX2_addTo_41 (by decide) ?_
      refine fmV_lv ?_ ih
      exact ⟨rfl, rfl, by rw [nI_succ j]; rfl, trivial⟩

set_option maxHeartbeats 4000000 in
set_option maxRecDepth 100000 in
theorem c_J9_floorMod (l : Launch) (D : va_G) (A : Nat → Prop) (G : fmG) (σ : fmS) (o : Nat → Int64) {t : Nat} (ht : t < 2 ^ 31) : fmMi l D A G yJ9_floorMod_7cf53 wsJ9_floorMod_7cf53 (fmRm 0 0 0) 0 0 [.int (nI t), .int 24] σ o (fun x u => x = nI (t % 24) ∧ u = σ) := by
  refine fmMi_ofF (cc := cJ9_floorMod_7cf53) (maxL := 3) (ret := (some .int)) (by decide +kernel) rfl (Nat.le_of_ble_eq_true rfl) ?_
  intro P_ E_ S_ M_ args_ below_ meth_ C_ F
  have hx : nI t ^^^ 24 = nI (t ^^^ 24) := fm_xor t 24
  have hr9 : nI t - nI t / 24 * 24 = nI (t % 24) := pk_rem (a := t) (d := 24) ht (by decide) (by decide)
  refine fmV_iload_n (pc := 0) (i := 0) F dJ9_floorMod_7cf53_0 rfl rfl ?_
  refine fmV_iload_n (pc := 1) (i := 1) F dJ9_floorMod_7cf53_1 rfl rfl ?_
  refine fmV_irem (pc := 2) F dJ9_floorMod_7cf53_2 (by decide) ?_
  refine fmV_istore_n (pc := 3) (i := 2) F dJ9_floorMod_7cf53_3 rfl (by decide) ?_
  refine fmV_iload_n (pc := 4) (i := 0) F dJ9_floorMod_7cf53_4 rfl rfl ?_
  refine fmV_iload_n (pc := 5) (i := 1) F dJ9_floorMod_7cf53_5 rfl rfl ?_
  refine fmV_ixor (pc := 6) F dJ9_floorMod_7cf53_6 ?_
  refine fmV_if_ge (pc := 7) (tgt := 18) F dJ9_floorMod_7cf53_7 (by decide) (fun h1 => ?_) (fun h1 => ?_)
  · refine fmV_iload_n (pc := 18) (i := 2) F dJ9_floorMod_7cf53_18 rfl rfl ?_
    exact fmV_iret (pc := 19) F dJ9_floorMod_7cf53_19 rfl ⟨hr9, rfl⟩
  · rw [hx] at h1
    exact absurd (nI_pos' (Nat.xor_lt_two_pow (n := 31) ht (by decide))) h1

set_option maxHeartbeats 4000000 in
set_option maxRecDepth 100000 in
theorem c_X3_tideIn (l : Launch) (D : va_G) (A : Nat → Prop) (G : fmG) (σ : fmS) (o : Nat → Int64) {t : Nat} (ht : t < 2 ^ 31) : fmMi l D A G yX3_tideIn wsX3_tideIn (fmRm 1 0 0) 0 0 [.ref (G.1 1 0 0), .int (nI t)] σ o (fun x u => x = σ 2 0 0 (t % 24) ∧ u = σ) := by
  refine fmMi_of (cc := cX3_tideIn) (maxL := 2) (ret := (some .int)) (by decide +kernel) rfl (Nat.le_of_ble_eq_true rfl) ?_
  intro P_ E_ S_ M_ args_ below_ meth_ C_ F
  have hin_X3 : ∀ w ∈ wsX30, w ∈ wsX3_tideIn := (fun _ h => List.mem_cons_of_mem _ (List.mem_append_right _ h))
  refine fmV_aload_n (pc := 0) (i := 0) F dX3_tideIn_0 rfl rfl ?_
  refine fmg_1_tides (pc := 1) F  hin_X3 dX3_tideIn_1 (List.mem_of_getElem? (i := 1) rfl) ?_
  refine fmV_iload_n (pc := 4) (i := 1) F dX3_tideIn_4 rfl rfl ?_
  refine fmV_bipush (pc := 5) (v := 24) F dX3_tideIn_5 (by decide) ?_
  refine fmV_cSi (n := 2) (pc := 7) F (c_J9_floorMod l D A G σ o ht) gX3_tideIn_J9_floorMod_7cf53 rfl rfl rfl (by decide +kernel) ⟨Nat.le_of_ble_eq_true rfl, Nat.le_of_ble_eq_true rfl⟩ rfl rfl (Nat.le_of_ble_eq_true rfl) dX3_tideIn_7 ⟨Nat.le_of_ble_eq_true rfl, Nat.le_of_ble_eq_true rfl⟩ (fun r2 u1 hc3 => ?_)
  obtain ⟨hr9, hu9⟩ := hc3
  have hr9 := hr9.symm
  have hu9 := hu9.symm
  subst hr9
  subst hu9
  refine fmal_2 (pc := 10) F  dX3_tideIn_10 (vp_in_nI (Nat.mod_lt _ (by decide)) (by decide)) (fm_cn (by omega)) ?_
  exact fmV_iret (pc := 11) F dX3_tideIn_11 rfl ⟨rfl, rfl⟩

set_option maxHeartbeats 4000000 in
set_option maxRecDepth 100000 in
theorem c_X3_wakeIn (l : Launch) (D : va_G) (A : Nat → Prop) (G : fmG) (σ : fmS) (o : Nat → Int64) {t : Nat} (ht : t < 2 ^ 31) : fmMi l D A G yX3_wakeIn wsX3_wakeIn (fmRm 1 0 0) 0 0 [.ref (G.1 1 0 0), .int (nI t)] σ o (fun x u => x = σ 3 0 0 (t % 24) ∧ u = σ) := by
  refine fmMi_of (cc := cX3_wakeIn) (maxL := 2) (ret := (some .int)) (by decide +kernel) rfl (Nat.le_of_ble_eq_true rfl) ?_
  intro P_ E_ S_ M_ args_ below_ meth_ C_ F
  have hin_X3 : ∀ w ∈ wsX30, w ∈ wsX3_wakeIn := (fun _ h => List.mem_cons_of_mem _ (List.mem_append_right _ h))
  refine fmV_aload_n (pc := 0) (i := 0) F dX3_wakeIn_0 rfl rfl ?_
  refine fmg_1_wakes (pc := 1) F  hin_X3 dX3_wakeIn_1 (List.mem_of_getElem? (i := 1) rfl) ?_
  refine fmV_iload_n (pc := 4) (i := 1) F dX3_wakeIn_4 rfl rfl ?_
  refine fmV_bipush (pc := 5) (v := 24) F dX3_wakeIn_5 (by decide) ?_
  refine fmV_cSi (n := 2) (pc := 7) F (c_J9_floorMod l D A G σ o ht) gX3_wakeIn_J9_floorMod_7cf53 rfl rfl rfl (by decide +kernel) ⟨Nat.le_of_ble_eq_true rfl, Nat.le_of_ble_eq_true rfl⟩ rfl rfl (Nat.le_of_ble_eq_true rfl) dX3_wakeIn_7 ⟨Nat.le_of_ble_eq_true rfl, Nat.le_of_ble_eq_true rfl⟩ (fun r2 u1 hc3 => ?_)
  obtain ⟨hr9, hu9⟩ := hc3
  have hr9 := hr9.symm
  have hu9 := hu9.symm
  subst hr9
  subst hu9
  refine fmal_3 (pc := 10) F  dX3_wakeIn_10 (vp_in_nI (Nat.mod_lt _ (by decide)) (by decide)) (fm_cn (by omega)) ?_
  exact fmV_iret (pc := 11) F dX3_wakeIn_11 rfl ⟨rfl, rfl⟩

set_option maxHeartbeats 4000000 in
set_option maxRecDepth 100000 in
theorem c_X3_entry (l : Launch) (D : va_G) (A : Nat → Prop) (G : fmG) (σ : fmS) (o : Nat → Int64) {t : Nat} (ht : t < 2 ^ 31) : fmMi l D A G yX3_entry wsX3_entry (fmRm 2 0 0) 0 0 [.ref (G.1 1 0 0), .int (nI t)] σ o (fun x u => x = fmEntry σ (t % 24) ∧ u = σ) := by
  refine fmMi_of (cc := cX3_entry) (maxL := 2) (ret := (some .int)) (by decide +kernel) rfl (Nat.le_of_ble_eq_true rfl) ?_
  intro P_ E_ S_ M_ args_ below_ meth_ C_ F
  have hin_X3 : ∀ w ∈ wsX30, w ∈ wsX3_entry := (fun _ h => List.mem_cons_of_mem _ (List.mem_append_right _ h))
  refine fmV_bipush (pc := 0) (v := 10) F dX3_entry_0 (by decide) ?_
  refine fmV_aload_n (pc := 2) (i := 0) F dX3_entry_2 rfl rfl ?_
  refine fmV_iload_n (pc := 3) (i := 1) F dX3_entry_3 rfl rfl ?_
  refine fmV_cVi (n := 1) (pc := 4) F (c_X3_tideIn l D A G σ o ht) gX3_entry_X3_tideIn rfl rfl rfl (by decide +kernel) ⟨Nat.le_of_ble_eq_true rfl, Nat.le_of_ble_eq_true rfl⟩ (fmR_1 F ) rfl rfl (Nat.le_of_ble_eq_true rfl) dX3_entry_4 ⟨Nat.le_of_ble_eq_true rfl, Nat.le_of_ble_eq_true rfl⟩ (fun r2 u1 hc3 => ?_)
  obtain ⟨hr9, hu9⟩ := hc3
  have hr9 := hr9.symm
  have hu9 := hu9.symm
  subst hr9
  subst hu9
  refine fmV_imul (pc := 7) F dX3_entry_7 ?_
  refine fmV_aload_n (pc := 8) (i := 0) F dX3_entry_8 rfl rfl ?_
  refine fmV_iload_n (pc := 9) (i := 1) F dX3_entry_9 rfl rfl ?_
  refine fmV_cVi (n := 1) (pc := 10) F (c_X3_wakeIn l D A G σ o ht) gX3_entry_X3_wakeIn rfl rfl rfl (by decide +kernel) ⟨Nat.le_of_ble_eq_true rfl, Nat.le_of_ble_eq_true rfl⟩ (fmR_1 F ) rfl rfl (Nat.le_of_ble_eq_true rfl) dX3_entry_10 ⟨Nat.le_of_ble_eq_true rfl, Nat.le_of_ble_eq_true rfl⟩ (fun r5 u4 hc6 => ?_)
  obtain ⟨hr9, hu9⟩ := hc6
  have hr9 := hr9.symm
  have hu9 := hu9.symm
  subst hr9
  subst hu9
  refine fmV_iadd (pc := 13) F dX3_entry_13 ?_
  exact fmV_iret (pc := 14) F dX3_entry_14 rfl ⟨rfl, rfl⟩
