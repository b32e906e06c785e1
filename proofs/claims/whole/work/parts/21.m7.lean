set_option maxHeartbeats 4000000 in
set_option maxRecDepth 100000 in
theorem c_X5_in (l : Launch) (D : va_G) (A : Nat → Prop) (G : fmG) (σ : fmS) (o : Nat → Int64) {b cc : Nat} (hb : b < 2) (hcc : cc ≤ 14) (h63 : σ 63 0 0 0 = nI cc) (x : Int32) : fmXi l D A G yX5_in wsX5_in (fmRm 1 0 0) 0 0 [.ref (G.1 23 b 0), .int x] σ o (fun r u => r = gIn σ b x cc ∧ u = σ) (fun _ _ => False) := by
  refine fmXi_of (cc := cX5_in) (maxL := 4) (ret := (some .int)) (by decide +kernel) rfl (Nat.le_of_ble_eq_true rfl) ?_
  intro P_ E_ S_ M_ args_ below_ meth_ C_ F hX hnt
  have hin_X5 : ∀ w ∈ wsX50, w ∈ wsX5_in := (fun _ h => List.mem_cons_of_mem _ (List.mem_append_left _ (List.mem_append_right _ h)))
  have hin_X6 : ∀ w ∈ wsX60, w ∈ wsX5_in := (fun _ h => List.mem_cons_of_mem _ (List.mem_append_right _ h))
  refine fmV_iconst (pc := 0) (v := 0) F dX5_in_0 rfl ?_
  refine fmV_istore_n (pc := 1) (i := 2) F dX5_in_1 rfl (by decide) ?_
  refine fmV_iconst (pc := 2) (v := 0) F dX5_in_2 rfl ?_
  refine fmV_istore_n (pc := 3) (i := 3) F dX5_in_3 rfl (by decide) ?_
  refine fmV_lv (lv' := [(0, .ref (G.1 23 b 0)), (1, .int x), (2, .int (gIn σ b x 0)), (3, .int (nI 0))]) ⟨rfl, rfl, rfl, rfl, trivial⟩ ?_
  refine fmV_up (N := cc) (pc := 4) (σf := fun j => σ) (lvf := fun j => [(0, .ref (G.1 23 b 0)), (1, .int x), (2, .int (gIn σ b x j)), (3, .int (nI j))]) 0 (Nat.zero_le _) ?_ ?_
  · refine fmV_iload_n (pc := 4) (i := 3) F dX5_in_4 rfl rfl ?_
    refine fmV_aload_n (pc := 5) (i := 0) F dX5_in_5 rfl rfl ?_
    refine fmg_23_this0 (pc := 6) F (by assumption) hin_X5 dX5_in_6 (List.mem_of_getElem? (i := 1) rfl) ?_
    refine fmgN_14_canoes (pc := 9) F hX  hin_X6 dX5_in_9 (List.mem_of_getElem? (i := 23) rfl) ?_
    refine fmV_icmp_ge (pc := 12) (tgt := 49) F dX5_in_12 (by decide) (fun h1 => ?_) (fun h1 => ?_)
    · refine fmV_iload_n (pc := 49) (i := 2) F dX5_in_49 rfl rfl ?_
      refine fmV_xr ?_
      exact fmV_iret (pc := 50) F dX5_in_50 rfl ⟨rfl, rfl⟩
    · rw [h63] at h1
      exact absurd (nI_le (Nat.le_refl cc) (by omega)) h1
  · intro j hj ih
    refine fmV_iload_n (pc := 4) (i := 3) F dX5_in_4 rfl rfl ?_
    refine fmV_aload_n (pc := 5) (i := 0) F dX5_in_5 rfl rfl ?_
    refine fmg_23_this0 (pc := 6) F (by assumption) hin_X5 dX5_in_6 (List.mem_of_getElem? (i := 1) rfl) ?_
    refine fmgN_14_canoes (pc := 9) F hX  hin_X6 dX5_in_9 (List.mem_of_getElem? (i := 23) rfl) ?_
    refine fmV_icmp_ge (pc := 12) (tgt := 49) F dX5_in_12 (by decide) (fun h1 => ?_) (fun h1 => ?_)
    · rw [h63] at h1
      exact absurd h1 (nI_ge hj (by omega))
    · refine fmV_iload_n (pc := 15) (i := 2) F dX5_in_15 rfl rfl ?_
      refine fmV_aload_n (pc := 16) (i := 0) F dX5_in_16 rfl rfl ?_
      refine fmg_23_is (pc := 17) F (by assumption) hin_X5 dX5_in_17 (List.mem_of_getElem? (i := 2) rfl) ?_
      refine fmV_iload_n (pc := 20) (i := 3) F dX5_in_20 rfl rfl ?_
      refine fmal_26 (pc := 21) F (by assumption) dX5_in_21 (vp_in_nI (by omega) (by decide)) (fm_cn (by omega)) ?_
      refine fmV_iconst (pc := 22) (v := 1) F dX5_in_22 rfl ?_
      refine fmV_icmp_ne (pc := 23) (tgt := 40) F dX5_in_23 (by decide) (fun h2 => ?_) (fun h2 => ?_)
      · refine fmV_iconst (pc := 40) (v := 0) F dX5_in_40 rfl ?_
        refine fmV_iadd (pc := 41) F dX5_in_41 ?_
        refine fmV_istore_n (pc := 42) (i := 2) F dX5_in_42 rfl (by decide) ?_
        refine fmV_iinc (pc := 43) (i := 3) F dX5_in_43 rfl rfl (by decide) ?_
        refine fmV_goto (pc := 46) (tgt := 4) F dX5_in_46 (by decide) ?_
        refine fmV_lv ?_ ih
        first
          | exact ⟨rfl, rfl, by rw [gIn_p ⟨h2, h3⟩]; rfl, by rw [nI_succ j]; rfl, trivial⟩
          | exact ⟨rfl, rfl, by rw [gIn_n (fun q => h3 q.2)]; rfl, by rw [nI_succ j]; rfl, trivial⟩
          | exact ⟨rfl, rfl, by rw [gIn_n (fun q => h2 q.1)]; rfl, by rw [nI_succ j]; rfl, trivial⟩
      · refine fmV_aload_n (pc := 26) (i := 0) F dX5_in_26 rfl rfl ?_
        refine fmg_23_row (pc := 27) F (by assumption) hin_X5 dX5_in_27 (List.mem_of_getElem? (i := 3) rfl) ?_
        refine fmV_iload_n (pc := 30) (i := 3) F dX5_in_30 rfl rfl ?_
        refine fmal_27 (pc := 31) F (by assumption) dX5_in_31 (vp_in_nI (by omega) (by decide)) (fm_cn (by omega)) ?_
        refine fmV_iload_n (pc := 32) (i := 1) F dX5_in_32 rfl rfl ?_
        refine fmV_icmp_ne (pc := 33) (tgt := 40) F dX5_in_33 (by decide) (fun h3 => ?_) (fun h3 => ?_)
        · refine fmV_iconst (pc := 40) (v := 0) F dX5_in_40 rfl ?_
          refine fmV_iadd (pc := 41) F dX5_in_41 ?_
          refine fmV_istore_n (pc := 42) (i := 2) F dX5_in_42 rfl (by decide) ?_
          refine fmV_iinc (pc := 43) (i := 3) F dX5_in_43 rfl rfl (by decide) ?_
          refine fmV_goto (pc := 46) (tgt := 4) F dX5_in_46 (by decide) ?_
          refine fmV_lv ?_ ih
          first
            | exact ⟨rfl, rfl, by rw [gIn_p ⟨h2, h3⟩]; rfl, by rw [nI_succ j]; rfl, trivial⟩
            | exact ⟨rfl, rfl, by rw [gIn_n (fun q => h3 q.2)]; rfl, by rw [nI_succ j]; rfl, trivial⟩
            | exact ⟨rfl, rfl, by rw [gIn_n (fun q => h2 q.1)]; rfl, by rw [nI_succ j]; rfl, trivial⟩
        · refine fmV_iconst (pc := 36) (v := 1) F dX5_in_36 rfl ?_
          refine fmV_goto (pc := 37) (tgt := 41) F dX5_in_37 (by decide) ?_
          refine fmV_iadd (pc := 41) F dX5_in_41 ?_
          refine fmV_istore_n (pc := 42) (i := 2) F dX5_in_42 rfl (by decide) ?_
          refine fmV_iinc (pc := 43) (i := 3) F dX5_in_43 rfl rfl (by decide) ?_
          refine fmV_goto (pc := 46) (tgt := 4) F dX5_in_46 (by decide) ?_
          refine fmV_lv ?_ ih
          first
            | exact ⟨rfl, rfl, by rw [gIn_p ⟨h2, h3⟩]; rfl, by rw [nI_succ j]; rfl, trivial⟩
            | exact ⟨rfl, rfl, by rw [gIn_n (fun q => h3 q.2)]; rfl, by rw [nI_succ j]; rfl, trivial⟩
            | exact ⟨rfl, rfl, by rw [gIn_n (fun q => h2 q.1)]; rfl, by rw [nI_succ j]; rfl, trivial⟩

set_option maxHeartbeats 4000000 in
set_option maxRecDepth 100000 in
theorem c_X5_at (l : Launch) (D : va_G) (A : Nat → Prop) (G : fmG) (σ : fmS) (o : Nat → Int64) {b cc : Nat} (hb : b < 2) (hcc : cc ≤ 14) (h63 : σ 63 0 0 0 = nI cc) (x y : Int32) : fmXi l D A G yX5_at wsX5_at (fmRm 1 0 0) 0 0 [.ref (G.1 23 b 0), .int x, .int y] σ o (fun r u => r = gAt σ b x y cc ∧ u = σ) (fun _ _ => False) := by
  refine fmXi_of (cc := cX5_at) (maxL := 4) (ret := (some .int)) (by decide +kernel) rfl (Nat.le_of_ble_eq_true rfl) ?_
  intro P_ E_ S_ M_ args_ below_ meth_ C_ F hX hnt
  have hin_X5 : ∀ w ∈ wsX50, w ∈ wsX5_at := (fun _ h => List.mem_cons_of_mem _ (List.mem_append_left _ (List.mem_append_right _ h)))
  have hin_X6 : ∀ w ∈ wsX60, w ∈ wsX5_at := (fun _ h => List.mem_cons_of_mem _ (List.mem_append_right _ h))
  refine fmV_iconst (pc := 0) (v := 0) F dX5_at_0 rfl ?_
  refine fmV_istore_n (pc := 1) (i := 3) F dX5_at_1 rfl (by decide) ?_
  refine fmV_lv (lv' := [(0, .ref (G.1 23 b 0)), (1, .int x), (2, .int y), (3, .int (nI 0))]) ⟨rfl, rfl, rfl, rfl, trivial⟩ ?_
  refine fmV_upH (N := cc) (pc := 2) (Hd := fun j => gSe (gAtP σ b x y) (cc - j) j = gAt σ b x y cc) (σf := fun j => σ) (lvf := fun j => [(0, .ref (G.1 23 b 0)), (1, .int x), (2, .int y), (3, .int (nI j))]) 0 (Nat.zero_le _) rfl (fun hH => ?_) ?_
  · refine fmV_iload_n (pc := 2) (i := 3) F dX5_at_2 rfl rfl ?_
    refine fmV_aload_n (pc := 3) (i := 0) F dX5_at_3 rfl rfl ?_
    refine fmg_23_this0 (pc := 4) F (by assumption) hin_X5 dX5_at_4 (List.mem_of_getElem? (i := 1) rfl) ?_
    refine fmgN_14_canoes (pc := 7) F hX  hin_X6 dX5_at_7 (List.mem_of_getElem? (i := 23) rfl) ?_
    refine fmV_icmp_ge (pc := 10) (tgt := 51) F dX5_at_10 (by decide) (fun h1 => ?_) (fun h1 => ?_)
    · refine fmV_iconst (pc := 51) (v := (-1)) F dX5_at_51 rfl ?_
      refine fmV_xr ?_
      exact fmV_iret (pc := 52) F dX5_at_52 rfl ⟨by rw [← hH, Nat.sub_self]; rfl, rfl⟩
    · rw [h63] at h1
      exact absurd (nI_le (Nat.le_refl cc) (by omega)) h1
  · intro j hj hH ih
    refine fmV_iload_n (pc := 2) (i := 3) F dX5_at_2 rfl rfl ?_
    refine fmV_aload_n (pc := 3) (i := 0) F dX5_at_3 rfl rfl ?_
    refine fmg_23_this0 (pc := 4) F (by assumption) hin_X5 dX5_at_4 (List.mem_of_getElem? (i := 1) rfl) ?_
    refine fmgN_14_canoes (pc := 7) F hX  hin_X6 dX5_at_7 (List.mem_of_getElem? (i := 23) rfl) ?_
    refine fmV_icmp_ge (pc := 10) (tgt := 51) F dX5_at_10 (by decide) (fun h1 => ?_) (fun h1 => ?_)
    · rw [h63] at h1
      exact absurd h1 (nI_ge hj (by omega))
    · refine fmV_aload_n (pc := 13) (i := 0) F dX5_at_13 rfl rfl ?_
      refine fmg_23_is (pc := 14) F (by assumption) hin_X5 dX5_at_14 (List.mem_of_getElem? (i := 2) rfl) ?_
      refine fmV_iload_n (pc := 17) (i := 3) F dX5_at_17 rfl rfl ?_
      refine fmal_26 (pc := 18) F (by assumption) dX5_at_18 (vp_in_nI (by omega) (by decide)) (fm_cn (by omega)) ?_
      refine fmV_iconst (pc := 19) (v := 1) F dX5_at_19 rfl ?_
      refine fmV_icmp_ne (pc := 20) (tgt := 45) F dX5_at_20 (by decide) (fun h2 => ?_) (fun h2 => ?_)
      · refine fmV_iinc (pc := 45) (i := 3) F dX5_at_45 rfl rfl (by decide) ?_
        refine fmV_goto (pc := 48) (tgt := 2) F dX5_at_48 (by decide) ?_
        have hH2 : gSe (gAtP σ b x y) (cc - (j + 1)) (j + 1) = gAt σ b x y cc := by
          rw [← hH, show cc - j = (cc - (j + 1)) + 1 by omega, gSe, if_neg (fun q => by first | exact h4 (of_decide_eq_true q).2.2 | exact h3 (of_decide_eq_true q).2.1 | exact h2 (of_decide_eq_true q).1)]
        refine fmV_lv ?_ (ih hH2)
        exact ⟨rfl, rfl, rfl, by rw [nI_succ j]; rfl, trivial⟩
      · refine fmV_aload_n (pc := 23) (i := 0) F dX5_at_23 rfl rfl ?_
        refine fmg_23_row (pc := 24) F (by assumption) hin_X5 dX5_at_24 (List.mem_of_getElem? (i := 3) rfl) ?_
        refine fmV_iload_n (pc := 27) (i := 3) F dX5_at_27 rfl rfl ?_
        refine fmal_27 (pc := 28) F (by assumption) dX5_at_28 (vp_in_nI (by omega) (by decide)) (fm_cn (by omega)) ?_
        refine fmV_iload_n (pc := 29) (i := 1) F dX5_at_29 rfl rfl ?_
        refine fmV_icmp_ne (pc := 30) (tgt := 45) F dX5_at_30 (by decide) (fun h3 => ?_) (fun h3 => ?_)
        · refine fmV_iinc (pc := 45) (i := 3) F dX5_at_45 rfl rfl (by decide) ?_
          refine fmV_goto (pc := 48) (tgt := 2) F dX5_at_48 (by decide) ?_
          have hH2 : gSe (gAtP σ b x y) (cc - (j + 1)) (j + 1) = gAt σ b x y cc := by
            rw [← hH, show cc - j = (cc - (j + 1)) + 1 by omega, gSe, if_neg (fun q => by first | exact h4 (of_decide_eq_true q).2.2 | exact h3 (of_decide_eq_true q).2.1 | exact h2 (of_decide_eq_true q).1)]
          refine fmV_lv ?_ (ih hH2)
          exact ⟨rfl, rfl, rfl, by rw [nI_succ j]; rfl, trivial⟩
        · refine fmV_aload_n (pc := 33) (i := 0) F dX5_at_33 rfl rfl ?_
          refine fmg_23_place (pc := 34) F (by assumption) hin_X5 dX5_at_34 (List.mem_of_getElem? (i := 4) rfl) ?_
          refine fmV_iload_n (pc := 37) (i := 3) F dX5_at_37 rfl rfl ?_
          refine fmal_28 (pc := 38) F (by assumption) dX5_at_38 (vp_in_nI (by omega) (by decide)) (fm_cn (by omega)) ?_
          refine fmV_iload_n (pc := 39) (i := 2) F dX5_at_39 rfl rfl ?_
          refine fmV_icmp_ne (pc := 40) (tgt := 45) F dX5_at_40 (by decide) (fun h4 => ?_) (fun h4 => ?_)
          · refine fmV_iinc (pc := 45) (i := 3) F dX5_at_45 rfl rfl (by decide) ?_
            refine fmV_goto (pc := 48) (tgt := 2) F dX5_at_48 (by decide) ?_
            have hH2 : gSe (gAtP σ b x y) (cc - (j + 1)) (j + 1) = gAt σ b x y cc := by
              rw [← hH, show cc - j = (cc - (j + 1)) + 1 by omega, gSe, if_neg (fun q => by first | exact h4 (of_decide_eq_true q).2.2 | exact h3 (of_decide_eq_true q).2.1 | exact h2 (of_decide_eq_true q).1)]
            refine fmV_lv ?_ (ih hH2)
            exact ⟨rfl, rfl, rfl, by rw [nI_succ j]; rfl, trivial⟩
          · refine fmV_iload_n (pc := 43) (i := 3) F dX5_at_43 rfl rfl ?_
            refine fmV_xr ?_
            exact fmV_iret (pc := 44) F dX5_at_44 rfl ⟨by rw [← hH, show cc - j = (cc - (j + 1)) + 1 by omega, gSe, if_pos (decide_eq_true ⟨h2, h3, h4⟩)], rfl⟩

set_option maxHeartbeats 4000000 in
set_option maxRecDepth 100000 in
theorem c_X5_isFull (l : Launch) (D : va_G) (A : Nat → Prop) (G : fmG) (σ : fmS) (o : Nat → Int64) {b cc : Nat} (hb : b < 2) (hcc : cc ≤ 14) (h63 : σ 63 0 0 0 = nI cc) {r : Nat} (hr : r < 4) : fmXi l D A G yX5_isFull wsX5_isFull (fmRm 2 0 0) 0 0 [.ref (G.1 23 b 0), .int (nI r)] σ o (fun x u => x = (if gFull σ b r cc then 1 else 0) ∧ u = σ) (fun _ _ => False) := by
  refine fmXi_of (cc := cX5_isFull) (maxL := 2) (ret := (some .boolean)) (by decide +kernel) rfl (Nat.le_of_ble_eq_true rfl) ?_
  intro P_ E_ S_ M_ args_ below_ meth_ C_ F hX hnt
  have hin_X5 : ∀ w ∈ wsX50, w ∈ wsX5_isFull := (fun _ h => List.mem_cons_of_mem _ (List.mem_append_left _ (List.mem_append_right _ h)))
  have hin_X6 : ∀ w ∈ wsX60, w ∈ wsX5_isFull := (fun _ h => List.mem_cons_of_mem _ (List.mem_append_right _ h))
  refine fmV_aload_n (pc := 0) (i := 0) F dX5_isFull_0 rfl rfl ?_
  refine fmV_iload_n (pc := 1) (i := 1) F dX5_isFull_1 rfl rfl ?_
  refine fmV_xVi (n := 1) (pc := 2) F hX (c_X5_in l D A G σ o hb hcc h63 (nI r)) gX5_isFull_X5_in rfl rfl rfl (by decide +kernel) ⟨Nat.le_of_ble_eq_true rfl, Nat.le_of_ble_eq_true rfl⟩ (fmR_23 F (by assumption)) rfl rfl (Nat.le_of_ble_eq_true rfl) dX5_isFull_2 ⟨Nat.le_of_ble_eq_true rfl, Nat.le_of_ble_eq_true rfl⟩ (fun _ _ h9 => False.elim h9) (fun r2 u1 hc3 => ?_)
  obtain ⟨hr9, hu9⟩ := hc3
  have hr9 := hr9.symm
  have hu9 := hu9.symm
  subst hr9
  subst hu9
  refine fmV_aload_n (pc := 5) (i := 0) F dX5_isFull_5 rfl rfl ?_
  refine fmg_23_this0 (pc := 6) F (by assumption) hin_X5 dX5_isFull_6 (List.mem_of_getElem? (i := 1) rfl) ?_
  refine fmgN_14_places (pc := 9) F hX  hin_X6 dX5_isFull_9 (List.mem_of_getElem? (i := 20) rfl) ?_
  refine fmV_iload_n (pc := 12) (i := 1) F dX5_isFull_12 rfl rfl ?_
  refine fmal_15 (pc := 13) F  dX5_isFull_13 (vp_in_nI (by omega) (by decide)) (fm_cn (by omega)) ?_
  refine fmV_icmp_ne (pc := 14) (tgt := 21) F dX5_isFull_14 (by decide) (fun h1 => ?_) (fun h1 => ?_)
  · refine fmV_iconst (pc := 21) (v := 0) F dX5_isFull_21 rfl ?_
    refine fmV_xr ?_
    exact fmV_zret (pc := 22) F dX5_isFull_22 rfl rfl ⟨by rw [if_neg h1], rfl⟩
  · refine fmV_iconst (pc := 17) (v := 1) F dX5_isFull_17 rfl ?_
    refine fmV_goto (pc := 18) (tgt := 22) F dX5_isFull_18 (by decide) ?_
    refine fmV_xr ?_
    exact fmV_zret (pc := 22) F dX5_isFull_22 rfl rfl ⟨by rw [if_pos h1], rfl⟩

set_option maxHeartbeats 4000000 in
set_option maxRecDepth 100000 in
theorem c_X5_isDry (l : Launch) (D : va_G) (A : Nat → Prop) (G : fmG) (σ : fmS) (o : Nat → Int64) {b c t : Nat} (hb : b < 2) (hc : c < 14) (ht : t < 2 ^ 31) (h64 : σ 64 b 0 0 = nI t) : fmXi l D A G yX5_isDry wsX5_isDry (fmRm 1 0 0) 0 0 [.ref (G.1 23 b 0), .int (nI c)] σ o (fun x u => x = (if gDry σ b c t then 1 else 0) ∧ u = σ) (fun _ _ => False) := by
  refine fmXi_of (cc := cX5_isDry) (maxL := 2) (ret := (some .boolean)) (by decide +kernel) rfl (Nat.le_of_ble_eq_true rfl) ?_
  intro P_ E_ S_ M_ args_ below_ meth_ C_ F hX hnt
  have hin_X5 : ∀ w ∈ wsX50, w ∈ wsX5_isDry := (fun _ h => List.mem_cons_of_mem _ (List.mem_append_left _ (List.mem_append_right _ h)))
  have hin_X6 : ∀ w ∈ wsX60, w ∈ wsX5_isDry := (fun _ h => List.mem_cons_of_mem _ (List.mem_append_right _ h))
  have e24 : (nI t - nI t / 24 * 24 : Int32) = nI (t % 24) := pk_rem (d := 24) (by omega) (by decide) (by decide)
  refine fmV_aload_n (pc := 0) (i := 0) F dX5_isDry_0 rfl rfl ?_
  refine fmg_23_place (pc := 1) F (by assumption) hin_X5 dX5_isDry_1 (List.mem_of_getElem? (i := 1) rfl) ?_
  refine fmV_iload_n (pc := 4) (i := 1) F dX5_isDry_4 rfl rfl ?_
  refine fmal_28 (pc := 5) F (by assumption) dX5_isDry_5 (vp_in_nI (by omega) (by decide)) (fm_cn (by omega)) ?_
  refine fmV_aload_n (pc := 6) (i := 0) F dX5_isDry_6 rfl rfl ?_
  refine fmg_23_this0 (pc := 7) F (by assumption) hin_X5 dX5_isDry_7 (List.mem_of_getElem? (i := 2) rfl) ?_
  refine fmgN_14_tide (pc := 10) F hX  hin_X6 dX5_isDry_10 (List.mem_of_getElem? (i := 21) rfl) ?_
  refine fmV_aload_n (pc := 13) (i := 0) F dX5_isDry_13 rfl rfl ?_
  refine fmg_23_step (pc := 14) F (by assumption) hin_X5 dX5_isDry_14 (List.mem_of_getElem? (i := 3) rfl) ?_
  refine fmV_bipush (pc := 17) (v := 24) F dX5_isDry_17 (by decide) ?_
  refine fmV_irem (pc := 19) F dX5_isDry_19 (by decide) ?_
  rw [h64, e24]
  refine fmal_16 (pc := 20) F  dX5_isDry_20 (vp_in_nI (by omega) (by decide)) (fm_cn (by omega)) ?_
  refine fmV_iadd (pc := 21) F dX5_isDry_21 ?_
  refine fmV_iconst (pc := 22) (v := 4) F dX5_isDry_22 rfl ?_
  refine fmV_icmp_ge (pc := 23) (tgt := 30) F dX5_isDry_23 (by decide) (fun h1 => ?_) (fun h1 => ?_)
  · refine fmV_iconst (pc := 30) (v := 0) F dX5_isDry_30 rfl ?_
    refine fmV_xr ?_
    exact fmV_zret (pc := 31) F dX5_isDry_31 rfl rfl ⟨by rw [if_neg (Int32.not_lt.mpr h1)], rfl⟩
  · refine fmV_iconst (pc := 26) (v := 1) F dX5_isDry_26 rfl ?_
    refine fmV_goto (pc := 27) (tgt := 31) F dX5_isDry_27 (by decide) ?_
    refine fmV_xr ?_
    exact fmV_zret (pc := 31) F dX5_isDry_31 rfl rfl ⟨by rw [if_pos (Int32.not_le.mp h1)], rfl⟩

set_option maxHeartbeats 4000000 in
set_option maxRecDepth 100000 in
theorem c_X5_moor (l : Launch) (D : va_G) (A : Nat → Prop) (G : fmG) (σ : fmS) (o : Nat → Int64) {b cc : Nat} (hb : b < 2) (hcc : cc ≤ 14) (h63 : σ 63 0 0 0 = nI cc) {c r : Nat} (hc : c < 14) (hr : r < 4) : fmXv l D A G yX5_moor wsX5_moor (fmRm 2 0 0) 0 0 [.ref (G.1 23 b 0), .int (nI c), .int (nI r)] σ o (fun u => u = gMoor σ b c r cc) (fun _ _ => False) := by
  refine fmXv_of (cc := cX5_moor) (maxL := 3) (ret := none) (by decide +kernel) rfl (Nat.le_of_ble_eq_true rfl) ?_
  intro P_ E_ S_ M_ args_ below_ meth_ C_ F hX hnt
  have hin_X5 : ∀ w ∈ wsX50, w ∈ wsX5_moor := (fun _ h => List.mem_cons_of_mem _ (List.mem_append_left _ (List.mem_append_right _ h)))
  have hin_X6 : ∀ w ∈ wsX60, w ∈ wsX5_moor := (fun _ h => List.mem_cons_of_mem _ (List.mem_append_right _ h))
  refine fmV_aload_n (pc := 0) (i := 0) F dX5_moor_0 rfl rfl ?_
  refine fmg_23_place (pc := 1) F (by assumption) hin_X5 dX5_moor_1 (List.mem_of_getElem? (i := 1) rfl) ?_
  refine fmV_iload_n (pc := 4) (i := 1) F dX5_moor_4 rfl rfl ?_
  refine fmV_aload_n (pc := 5) (i := 0) F dX5_moor_5 rfl rfl ?_
  refine fmV_iload_n (pc := 6) (i := 2) F dX5_moor_6 rfl rfl ?_
  refine fmV_xVi (n := 1) (pc := 7) F hX (c_X5_in l D A G σ o hb hcc h63 (nI r)) gX5_moor_X5_in rfl rfl rfl (by decide +kernel) ⟨Nat.le_of_ble_eq_true rfl, Nat.le_of_ble_eq_true rfl⟩ (fmR_23 F (by assumption)) rfl rfl (Nat.le_of_ble_eq_true rfl) dX5_moor_7 ⟨Nat.le_of_ble_eq_true rfl, Nat.le_of_ble_eq_true rfl⟩ (fun _ _ h9 => False.elim h9) (fun r2 u1 hc3 => ?_)
  obtain ⟨hr9, hu9⟩ := hc3
  have hr9 := hr9.symm
  have hu9 := hu9.symm
  subst hr9
  subst hu9
  refine fmas_28 (pc := 10) F (by assumption) dX5_moor_10 (vp_in_nI (by omega) (by decide)) (fm_cn (by omega)) ?_
  refine fmV_aload_n (pc := 11) (i := 0) F dX5_moor_11 rfl rfl ?_
  refine fmg_23_row (pc := 12) F (by assumption) hin_X5 dX5_moor_12 (List.mem_of_getElem? (i := 2) rfl) ?_
  refine fmV_iload_n (pc := 15) (i := 1) F dX5_moor_15 rfl rfl ?_
  refine fmV_iload_n (pc := 16) (i := 2) F dX5_moor_16 rfl rfl ?_
  refine fmas_27 (pc := 17) F (by assumption) dX5_moor_17 (vp_in_nI (by omega) (by decide)) (fm_cn (by omega)) ?_
  refine fmV_aload_n (pc := 18) (i := 0) F dX5_moor_18 rfl rfl ?_
  refine fmg_23_is (pc := 19) F (by assumption) hin_X5 dX5_moor_19 (List.mem_of_getElem? (i := 3) rfl) ?_
  refine fmV_iload_n (pc := 22) (i := 1) F dX5_moor_22 rfl rfl ?_
  refine fmV_iconst (pc := 23) (v := 1) F dX5_moor_23 rfl ?_
  refine fmas_26 (pc := 24) F (by assumption) dX5_moor_24 (vp_in_nI (by omega) (by decide)) (fm_cn (by omega)) ?_
  refine fmV_xr ?_
  exact fmV_vret (pc := 25) F dX5_moor_25 rfl (by rw [gMoor, fmu_c _ _ _ _ _ (by decide), fmu_c _ _ _ _ _ (by decide), fmu_c _ _ _ _ _ (by decide)])

set_option maxHeartbeats 4000000 in
set_option maxRecDepth 100000 in
theorem c_X5_castOff (l : Launch) (D : va_G) (A : Nat → Prop) (G : fmG) (σ : fmS) (o : Nat → Int64) {b cc : Nat} (hb : b < 2) (hcc : cc ≤ 14) (h63 : σ 63 0 0 0 = nI cc) {c : Nat} (hc : c < 14) : fmXi l D A G yX5_castOff wsX5_castOff (fmRm 1 0 0) 0 0 [.ref (G.1 23 b 0), .int (nI c)] σ o (fun r u => r = gOffN σ b c cc ∧ u = gOff σ b c cc) (fun _ _ => False) := by
  refine fmXi_of (cc := cX5_castOff) (maxL := 4) (ret := (some .int)) (by decide +kernel) rfl (Nat.le_of_ble_eq_true rfl) ?_
  intro P_ E_ S_ M_ args_ below_ meth_ C_ F hX hnt
  have hin_X5 : ∀ w ∈ wsX50, w ∈ wsX5_castOff := (fun _ h => List.mem_cons_of_mem _ (List.mem_append_left _ (List.mem_append_right _ h)))
  have hin_X6 : ∀ w ∈ wsX60, w ∈ wsX5_castOff := (fun _ h => List.mem_cons_of_mem _ (List.mem_append_right _ h))
  have hc0 : (gOff0 σ b c 0) 26 b 0 c ≠ 1 := by rw [gOff0, fmu_self, fm_upd_same]; decide
  have e63 : ∀ n, (gOff1 (gOff0 σ b c 0) b c n) 63 0 0 0 = nI cc := fun n => by rw [gOff1_c _ _ _ _ (by decide), gOff0, fmu_c _ _ _ _ _ (by decide)]; exact h63
  refine fmV_iconst (pc := 0) (v := 0) F dX5_castOff_0 rfl ?_
  refine fmV_istore_n (pc := 1) (i := 2) F dX5_castOff_1 rfl (by decide) ?_
  refine fmV_aload_n (pc := 2) (i := 0) F dX5_castOff_2 rfl rfl ?_
  refine fmg_23_is (pc := 3) F (by assumption) hin_X5 dX5_castOff_3 (List.mem_of_getElem? (i := 1) rfl) ?_
  refine fmV_iload_n (pc := 6) (i := 1) F dX5_castOff_6 rfl rfl ?_
  refine fmV_iconst (pc := 7) (v := 0) F dX5_castOff_7 rfl ?_
  refine fmas_26 (pc := 8) F (by assumption) dX5_castOff_8 (vp_in_nI (by omega) (by decide)) (fm_cn (by omega)) ?_
  refine fmV_sg (σ1 := (gOff1 (gOff0 σ b c 0) b c 0)) (by rw [gOff1_0]; rfl) ?_
  refine fmV_iconst (pc := 9) (v := 0) F dX5_castOff_9 rfl ?_
  refine fmV_istore_n (pc := 10) (i := 3) F dX5_castOff_10 rfl (by decide) ?_
  refine fmV_lv (lv' := [(0, .ref (G.1 23 b 0)), (1, .int (nI c)), (2, .int (fmCnt (gOP (gOff0 σ b c 0) b c) 0)), (3, .int (nI 0))]) ⟨rfl, rfl, rfl, rfl, trivial⟩ ?_
  refine fmV_up (N := cc) (pc := 11) (σf := fun j => (gOff1 (gOff0 σ b c 0) b c j)) (lvf := fun j => [(0, .ref (G.1 23 b 0)), (1, .int (nI c)), (2, .int (fmCnt (gOP (gOff0 σ b c 0) b c) j)), (3, .int (nI j))]) 0 (Nat.zero_le _) ?_ ?_
  · refine fmV_iload_n (pc := 11) (i := 3) F dX5_castOff_11 rfl rfl ?_
    refine fmV_aload_n (pc := 12) (i := 0) F dX5_castOff_12 rfl rfl ?_
    refine fmg_23_this0 (pc := 13) F (by assumption) hin_X5 dX5_castOff_13 (List.mem_of_getElem? (i := 2) rfl) ?_
    refine fmgN_14_canoes (pc := 16) F hX  hin_X6 dX5_castOff_16 (List.mem_of_getElem? (i := 23) rfl) ?_
    refine fmV_icmp_ge (pc := 19) (tgt := 94) F dX5_castOff_19 (by decide) (fun h1 => ?_) (fun h1 => ?_)
    · refine fmV_iload_n (pc := 94) (i := 2) F dX5_castOff_94 rfl rfl ?_
      refine fmV_xr ?_
      exact fmV_iret (pc := 95) F dX5_castOff_95 rfl ⟨rfl, rfl⟩
    · rw [e63] at h1
      exact absurd (nI_le (Nat.le_refl cc) (by omega)) h1
  · intro j hj ih
    have e26 : ∀ i, (gOff1 (gOff0 σ b c 0) b c j) 26 b 0 i = (gOff0 σ b c 0) 26 b 0 i := fun i => by rw [gOff1_c _ _ _ _ (by decide)]
    have e27 : ∀ i, (gOff1 (gOff0 σ b c 0) b c j) 27 b 0 i = (gOff0 σ b c 0) 27 b 0 i := fun i => by rw [gOff1_c _ _ _ _ (by decide)]
    have e28j : (gOff1 (gOff0 σ b c 0) b c j) 28 b 0 j = (gOff0 σ b c 0) 28 b 0 j := by rw [gOff1_28, gPl_at _ _ _ _ _ (Nat.le_refl j)]
    have e28c : (gOff1 (gOff0 σ b c 0) b c j) 28 b 0 c = (gOff0 σ b c 0) 28 b 0 c := by rw [gOff1_28, gPl_c _ _ _ _ hc0]
    refine fmV_iload_n (pc := 11) (i := 3) F dX5_castOff_11 rfl rfl ?_
    refine fmV_aload_n (pc := 12) (i := 0) F dX5_castOff_12 rfl rfl ?_
    refine fmg_23_this0 (pc := 13) F (by assumption) hin_X5 dX5_castOff_13 (List.mem_of_getElem? (i := 2) rfl) ?_
    refine fmgN_14_canoes (pc := 16) F hX  hin_X6 dX5_castOff_16 (List.mem_of_getElem? (i := 23) rfl) ?_
    refine fmV_icmp_ge (pc := 19) (tgt := 94) F dX5_castOff_19 (by decide) (fun h1 => ?_) (fun h1 => ?_)
    · rw [e63] at h1
      exact absurd h1 (nI_ge hj (by omega))
    · refine fmV_aload_n (pc := 22) (i := 0) F dX5_castOff_22 rfl rfl ?_
      refine fmg_23_is (pc := 23) F (by assumption) hin_X5 dX5_castOff_23 (List.mem_of_getElem? (i := 1) rfl) ?_
      refine fmV_iload_n (pc := 26) (i := 3) F dX5_castOff_26 rfl rfl ?_
      refine fmal_26 (pc := 27) F (by assumption) dX5_castOff_27 (vp_in_nI (by omega) (by decide)) (fm_cn (by omega)) ?_
      refine fmV_iconst (pc := 28) (v := 1) F dX5_castOff_28 rfl ?_
      refine fmV_icmp_ne (pc := 29) (tgt := 88) F dX5_castOff_29 (by decide) (fun h2 => ?_) (fun h2 => ?_)
      · refine fmV_iinc (pc := 88) (i := 3) F dX5_castOff_88 rfl rfl (by decide) ?_
        refine fmV_goto (pc := 91) (tgt := 11) F dX5_castOff_91 (by decide) ?_
        first
          | refine fmV_sg (σ1 := (gOff1 (gOff0 σ b c 0) b c (j + 1))) (gOff1_s _ _ _ _ (decide_eq_true ⟨(e26 j).symm.trans h2, ((e27 j).symm.trans h3).trans (e27 c), fun q => absurd h4 (by rw [e28j, e28c]; exact Int32.not_le.mpr q)⟩)).symm ?_
          | refine fmV_sg (σ1 := (gOff1 (gOff0 σ b c 0) b c (j + 1))) (gOff1_n _ _ _ _ (fun q => h4 (by rw [e28j, e28c]; exact Int32.not_lt.mp (of_decide_eq_true q).2.2))) ?_
          | refine fmV_sg (σ1 := (gOff1 (gOff0 σ b c 0) b c (j + 1))) (gOff1_n _ _ _ _ (fun q => h3 ((e27 j).trans ((of_decide_eq_true q).2.1.trans (e27 c).symm)))) ?_
          | refine fmV_sg (σ1 := (gOff1 (gOff0 σ b c 0) b c (j + 1))) (gOff1_n _ _ _ _ (fun q => h2 ((e26 j).trans (of_decide_eq_true q).1))) ?_
        refine fmV_lv ?_ ih
        first
          | exact ⟨rfl, rfl, by rw [fmCnt, if_pos (show gOP (gOff0 σ b c 0) b c j = true from (decide_eq_true ⟨(e26 j).symm.trans h2, ((e27 j).symm.trans h3).trans (e27 c), fun q => absurd h4 (by rw [e28j, e28c]; exact Int32.not_le.mpr q)⟩))]; rfl, by rw [nI_succ j]; rfl, trivial⟩
          | exact ⟨rfl, rfl, by rw [fmCnt, if_neg (fun q => h4 (by rw [e28j, e28c]; exact Int32.not_lt.mp (of_decide_eq_true q).2.2))]; rfl, by rw [nI_succ j]; rfl, trivial⟩
          | exact ⟨rfl, rfl, by rw [fmCnt, if_neg (fun q => h3 ((e27 j).trans ((of_decide_eq_true q).2.1.trans (e27 c).symm)))]; rfl, by rw [nI_succ j]; rfl, trivial⟩
          | exact ⟨rfl, rfl, by rw [fmCnt, if_neg (fun q => h2 ((e26 j).trans (of_decide_eq_true q).1))]; rfl, by rw [nI_succ j]; rfl, trivial⟩
      · refine fmV_aload_n (pc := 32) (i := 0) F dX5_castOff_32 rfl rfl ?_
        refine fmg_23_row (pc := 33) F (by assumption) hin_X5 dX5_castOff_33 (List.mem_of_getElem? (i := 3) rfl) ?_
        refine fmV_iload_n (pc := 36) (i := 3) F dX5_castOff_36 rfl rfl ?_
        refine fmal_27 (pc := 37) F (by assumption) dX5_castOff_37 (vp_in_nI (by omega) (by decide)) (fm_cn (by omega)) ?_
        refine fmV_aload_n (pc := 38) (i := 0) F dX5_castOff_38 rfl rfl ?_
        refine fmg_23_row (pc := 39) F (by assumption) hin_X5 dX5_castOff_39 (List.mem_of_getElem? (i := 3) rfl) ?_
        refine fmV_iload_n (pc := 42) (i := 1) F dX5_castOff_42 rfl rfl ?_
        refine fmal_27 (pc := 43) F (by assumption) dX5_castOff_43 (vp_in_nI (by omega) (by decide)) (fm_cn (by omega)) ?_
        refine fmV_icmp_ne (pc := 44) (tgt := 88) F dX5_castOff_44 (by decide) (fun h3 => ?_) (fun h3 => ?_)
        · refine fmV_iinc (pc := 88) (i := 3) F dX5_castOff_88 rfl rfl (by decide) ?_
          refine fmV_goto (pc := 91) (tgt := 11) F dX5_castOff_91 (by decide) ?_
          first
            | refine fmV_sg (σ1 := (gOff1 (gOff0 σ b c 0) b c (j + 1))) (gOff1_s _ _ _ _ (decide_eq_true ⟨(e26 j).symm.trans h2, ((e27 j).symm.trans h3).trans (e27 c), fun q => absurd h4 (by rw [e28j, e28c]; exact Int32.not_le.mpr q)⟩)).symm ?_
            | refine fmV_sg (σ1 := (gOff1 (gOff0 σ b c 0) b c (j + 1))) (gOff1_n _ _ _ _ (fun q => h4 (by rw [e28j, e28c]; exact Int32.not_lt.mp (of_decide_eq_true q).2.2))) ?_
            | refine fmV_sg (σ1 := (gOff1 (gOff0 σ b c 0) b c (j + 1))) (gOff1_n _ _ _ _ (fun q => h3 ((e27 j).trans ((of_decide_eq_true q).2.1.trans (e27 c).symm)))) ?_
            | refine fmV_sg (σ1 := (gOff1 (gOff0 σ b c 0) b c (j + 1))) (gOff1_n _ _ _ _ (fun q => h2 ((e26 j).trans (of_decide_eq_true q).1))) ?_
          refine fmV_lv ?_ ih
          first
            | exact ⟨rfl, rfl, by rw [fmCnt, if_pos (show gOP (gOff0 σ b c 0) b c j = true from (decide_eq_true ⟨(e26 j).symm.trans h2, ((e27 j).symm.trans h3).trans (e27 c), fun q => absurd h4 (by rw [e28j, e28c]; exact Int32.not_le.mpr q)⟩))]; rfl, by rw [nI_succ j]; rfl, trivial⟩
            | exact ⟨rfl, rfl, by rw [fmCnt, if_neg (fun q => h4 (by rw [e28j, e28c]; exact Int32.not_lt.mp (of_decide_eq_true q).2.2))]; rfl, by rw [nI_succ j]; rfl, trivial⟩
            | exact ⟨rfl, rfl, by rw [fmCnt, if_neg (fun q => h3 ((e27 j).trans ((of_decide_eq_true q).2.1.trans (e27 c).symm)))]; rfl, by rw [nI_succ j]; rfl, trivial⟩
            | exact ⟨rfl, rfl, by rw [fmCnt, if_neg (fun q => h2 ((e26 j).trans (of_decide_eq_true q).1))]; rfl, by rw [nI_succ j]; rfl, trivial⟩
        · refine fmV_aload_n (pc := 47) (i := 0) F dX5_castOff_47 rfl rfl ?_
          refine fmg_23_place (pc := 48) F (by assumption) hin_X5 dX5_castOff_48 (List.mem_of_getElem? (i := 4) rfl) ?_
          refine fmV_iload_n (pc := 51) (i := 3) F dX5_castOff_51 rfl rfl ?_
          refine fmal_28 (pc := 52) F (by assumption) dX5_castOff_52 (vp_in_nI (by omega) (by decide)) (fm_cn (by omega)) ?_
          refine fmV_aload_n (pc := 53) (i := 0) F dX5_castOff_53 rfl rfl ?_
          refine fmg_23_place (pc := 54) F (by assumption) hin_X5 dX5_castOff_54 (List.mem_of_getElem? (i := 4) rfl) ?_
          refine fmV_iload_n (pc := 57) (i := 1) F dX5_castOff_57 rfl rfl ?_
          refine fmal_28 (pc := 58) F (by assumption) dX5_castOff_58 (vp_in_nI (by omega) (by decide)) (fm_cn (by omega)) ?_
          refine fmV_icmp_ge (pc := 59) (tgt := 65) F dX5_castOff_59 (by decide) (fun h4 => ?_) (fun h4 => ?_)
          · refine fmV_aload_n (pc := 65) (i := 0) F dX5_castOff_65 rfl rfl ?_
            refine fmg_23_place (pc := 66) F (by assumption) hin_X5 dX5_castOff_66 (List.mem_of_getElem? (i := 4) rfl) ?_
            refine fmV_iload_n (pc := 69) (i := 3) F dX5_castOff_69 rfl rfl ?_
            refine fmV_dup2 (pc := 70) F dX5_castOff_70 rfl rfl ?_
            refine fmal_28 (pc := 71) F (by assumption) dX5_castOff_71 (vp_in_nI (by omega) (by decide)) (fm_cn (by omega)) ?_
            refine fmV_iconst (pc := 72) (v := 1) F dX5_castOff_72 rfl ?_
            refine fmV_isub (pc := 73) F dX5_castOff_73 ?_
            refine fmas_28 (pc := 74) F (by assumption) dX5_castOff_74 (vp_in_nI (by omega) (by decide)) (fm_cn (by omega)) ?_
            refine fmV_aload_n (pc := 75) (i := 0) F dX5_castOff_75 rfl rfl ?_
            refine fmg_23_loosened (pc := 76) F (by assumption) hin_X5 dX5_castOff_76 (List.mem_of_getElem? (i := 5) rfl) ?_
            refine fmV_iload_n (pc := 79) (i := 3) F dX5_castOff_79 rfl rfl ?_
            refine fmV_dup2 (pc := 80) F dX5_castOff_80 rfl rfl ?_
            refine fmal_30 (pc := 81) F (by assumption) dX5_castOff_81 (vp_in_nI (by omega) (by decide)) (fm_cn (by omega)) ?_
            refine fmV_iconst (pc := 82) (v := 1) F dX5_castOff_82 rfl ?_
            refine fmV_iadd (pc := 83) F dX5_castOff_83 ?_
            refine fmas_30 (pc := 84) F (by assumption) dX5_castOff_84 (vp_in_nI (by omega) (by decide)) (fm_cn (by omega)) ?_
            refine fmV_iinc (pc := 85) (i := 2) F dX5_castOff_85 rfl rfl (by decide) ?_
            refine fmV_iinc (pc := 88) (i := 3) F dX5_castOff_88 rfl rfl (by decide) ?_
            refine fmV_goto (pc := 91) (tgt := 11) F dX5_castOff_91 (by decide) ?_
            first
              | refine fmV_sg (σ1 := (gOff1 (gOff0 σ b c 0) b c (j + 1))) (gOff1_s _ _ _ _ (decide_eq_true ⟨(e26 j).symm.trans h2, ((e27 j).symm.trans h3).trans (e27 c), fun q => absurd h4 (by rw [e28j, e28c]; exact Int32.not_le.mpr q)⟩)).symm ?_
              | refine fmV_sg (σ1 := (gOff1 (gOff0 σ b c 0) b c (j + 1))) (gOff1_n _ _ _ _ (fun q => h4 (by rw [e28j, e28c]; exact Int32.not_lt.mp (of_decide_eq_true q).2.2))) ?_
              | refine fmV_sg (σ1 := (gOff1 (gOff0 σ b c 0) b c (j + 1))) (gOff1_n _ _ _ _ (fun q => h3 ((e27 j).trans ((of_decide_eq_true q).2.1.trans (e27 c).symm)))) ?_
              | refine fmV_sg (σ1 := (gOff1 (gOff0 σ b c 0) b c (j + 1))) (gOff1_n _ _ _ _ (fun q => h2 ((e26 j).trans (of_decide_eq_true q).1))) ?_
            refine fmV_lv ?_ ih
            first
              | exact ⟨rfl, rfl, by rw [fmCnt, if_pos (show gOP (gOff0 σ b c 0) b c j = true from (decide_eq_true ⟨(e26 j).symm.trans h2, ((e27 j).symm.trans h3).trans (e27 c), fun q => absurd h4 (by rw [e28j, e28c]; exact Int32.not_le.mpr q)⟩))]; rfl, by rw [nI_succ j]; rfl, trivial⟩
              | exact ⟨rfl, rfl, by rw [fmCnt, if_neg (fun q => h4 (by rw [e28j, e28c]; exact Int32.not_lt.mp (of_decide_eq_true q).2.2))]; rfl, by rw [nI_succ j]; rfl, trivial⟩
              | exact ⟨rfl, rfl, by rw [fmCnt, if_neg (fun q => h3 ((e27 j).trans ((of_decide_eq_true q).2.1.trans (e27 c).symm)))]; rfl, by rw [nI_succ j]; rfl, trivial⟩
              | exact ⟨rfl, rfl, by rw [fmCnt, if_neg (fun q => h2 ((e26 j).trans (of_decide_eq_true q).1))]; rfl, by rw [nI_succ j]; rfl, trivial⟩
          · refine fmV_goto (pc := 62) (tgt := 88) F dX5_castOff_62 (by decide) ?_
            refine fmV_iinc (pc := 88) (i := 3) F dX5_castOff_88 rfl rfl (by decide) ?_
            refine fmV_goto (pc := 91) (tgt := 11) F dX5_castOff_91 (by decide) ?_
            first
              | refine fmV_sg (σ1 := (gOff1 (gOff0 σ b c 0) b c (j + 1))) (gOff1_s _ _ _ _ (decide_eq_true ⟨(e26 j).symm.trans h2, ((e27 j).symm.trans h3).trans (e27 c), fun q => absurd h4 (by rw [e28j, e28c]; exact Int32.not_le.mpr q)⟩)).symm ?_
              | refine fmV_sg (σ1 := (gOff1 (gOff0 σ b c 0) b c (j + 1))) (gOff1_n _ _ _ _ (fun q => h4 (by rw [e28j, e28c]; exact Int32.not_lt.mp (of_decide_eq_true q).2.2))) ?_
              | refine fmV_sg (σ1 := (gOff1 (gOff0 σ b c 0) b c (j + 1))) (gOff1_n _ _ _ _ (fun q => h3 ((e27 j).trans ((of_decide_eq_true q).2.1.trans (e27 c).symm)))) ?_
              | refine fmV_sg (σ1 := (gOff1 (gOff0 σ b c 0) b c (j + 1))) (gOff1_n _ _ _ _ (fun q => h2 ((e26 j).trans (of_decide_eq_true q).1))) ?_
            refine fmV_lv ?_ ih
            first
              | exact ⟨rfl, rfl, by rw [fmCnt, if_pos (show gOP (gOff0 σ b c 0) b c j = true from (decide_eq_true ⟨(e26 j).symm.trans h2, ((e27 j).symm.trans h3).trans (e27 c), fun q => absurd h4 (by rw [e28j, e28c]; exact Int32.not_le.mpr q)⟩))]; rfl, by rw [nI_succ j]; rfl, trivial⟩
              | exact ⟨rfl, rfl, by rw [fmCnt, if_neg (fun q => h4 (by rw [e28j, e28c]; exact Int32.not_lt.mp (of_decide_eq_true q).2.2))]; rfl, by rw [nI_succ j]; rfl, trivial⟩
              | exact ⟨rfl, rfl, by rw [fmCnt, if_neg (fun q => h3 ((e27 j).trans ((of_decide_eq_true q).2.1.trans (e27 c).symm)))]; rfl, by rw [nI_succ j]; rfl, trivial⟩
              | exact ⟨rfl, rfl, by rw [fmCnt, if_neg (fun q => h2 ((e26 j).trans (of_decide_eq_true q).1))]; rfl, by rw [nI_succ j]; rfl, trivial⟩

set_option maxHeartbeats 4000000 in
set_option maxRecDepth 100000 in
theorem c_X5_beside (l : Launch) (D : va_G) (A : Nat → Prop) (G : fmG) (σ : fmS) (o : Nat → Int64) {b x y : Nat} (hb : b < 2) (hx : x < 14) (hy : y < 14) : fmXi l D A G yX5_beside wsX5_beside (fmRm 1 0 0) 0 0 [.ref (G.1 23 b 0), .int (nI x), .int (nI y)] σ o (fun r u => r = (if gBes σ b x y then 1 else 0) ∧ u = σ) (fun _ _ => False) := by
  refine fmXi_of (cc := cX5_beside) (maxL := 3) (ret := (some .boolean)) (by decide +kernel) rfl (Nat.le_of_ble_eq_true rfl) ?_
  intro P_ E_ S_ M_ args_ below_ meth_ C_ F hX hnt
  have hin_X5 : ∀ w ∈ wsX50, w ∈ wsX5_beside := (fun _ h => List.mem_cons_of_mem _ (List.mem_append_right _ h))
  refine fmV_aload_n (pc := 0) (i := 0) F dX5_beside_0 rfl rfl ?_
  refine fmg_23_is (pc := 1) F (by assumption) hin_X5 dX5_beside_1 (List.mem_of_getElem? (i := 1) rfl) ?_
  refine fmV_iload_n (pc := 4) (i := 1) F dX5_beside_4 rfl rfl ?_
  refine fmal_26 (pc := 5) F (by assumption) dX5_beside_5 (vp_in_nI (by omega) (by decide)) (fm_cn (by omega)) ?_
  refine fmV_iconst (pc := 6) (v := 1) F dX5_beside_6 rfl ?_
  refine fmV_icmp_ne (pc := 7) (tgt := 20) F dX5_beside_7 (by decide) (fun h1 => ?_) (fun h1 => ?_)
  · refine fmV_iconst (pc := 20) (v := 0) F dX5_beside_20 rfl ?_
    refine fmV_xr ?_
    exact fmV_zret (pc := 21) F dX5_beside_21 rfl rfl ⟨by rw [if_neg (fun q => h1 q.1)], rfl⟩
  · refine fmV_aload_n (pc := 10) (i := 0) F dX5_beside_10 rfl rfl ?_
    refine fmg_23_is (pc := 11) F (by assumption) hin_X5 dX5_beside_11 (List.mem_of_getElem? (i := 1) rfl) ?_
    refine fmV_iload_n (pc := 14) (i := 2) F dX5_beside_14 rfl rfl ?_
    refine fmal_26 (pc := 15) F (by assumption) dX5_beside_15 (vp_in_nI (by omega) (by decide)) (fm_cn (by omega)) ?_
    refine fmV_iconst (pc := 16) (v := 1) F dX5_beside_16 rfl ?_
    refine fmV_icmp_eq (pc := 17) (tgt := 22) F dX5_beside_17 (by decide) (fun h2 => ?_) (fun h2 => ?_)
    · refine fmV_aload_n (pc := 22) (i := 0) F dX5_beside_22 rfl rfl ?_
      refine fmg_23_row (pc := 23) F (by assumption) hin_X5 dX5_beside_23 (List.mem_of_getElem? (i := 2) rfl) ?_
      refine fmV_iload_n (pc := 26) (i := 1) F dX5_beside_26 rfl rfl ?_
      refine fmal_27 (pc := 27) F (by assumption) dX5_beside_27 (vp_in_nI (by omega) (by decide)) (fm_cn (by omega)) ?_
      refine fmV_aload_n (pc := 28) (i := 0) F dX5_beside_28 rfl rfl ?_
      refine fmg_23_row (pc := 29) F (by assumption) hin_X5 dX5_beside_29 (List.mem_of_getElem? (i := 2) rfl) ?_
      refine fmV_iload_n (pc := 32) (i := 2) F dX5_beside_32 rfl rfl ?_
      refine fmal_27 (pc := 33) F (by assumption) dX5_beside_33 (vp_in_nI (by omega) (by decide)) (fm_cn (by omega)) ?_
      refine fmV_isub (pc := 34) F dX5_beside_34 ?_
      refine fmV_mabs (pc := 35) F ⟨(List.mem_of_getElem? (i := 3) rfl), (List.mem_of_getElem? (i := 4) rfl), (List.mem_of_getElem? (i := 5) rfl), (List.mem_of_getElem? (i := 6) rfl)⟩ (Nat.le_of_ble_eq_true rfl) (Nat.le_of_ble_eq_true rfl) (Nat.le_of_ble_eq_true rfl) (Nat.le_of_ble_eq_true rfl) dX5_beside_35 ?_
      refine fmV_aload_n (pc := 38) (i := 0) F dX5_beside_38 rfl rfl ?_
      refine fmg_23_place (pc := 39) F (by assumption) hin_X5 dX5_beside_39 (List.mem_of_getElem? (i := 7) rfl) ?_
      refine fmV_iload_n (pc := 42) (i := 1) F dX5_beside_42 rfl rfl ?_
      refine fmal_28 (pc := 43) F (by assumption) dX5_beside_43 (vp_in_nI (by omega) (by decide)) (fm_cn (by omega)) ?_
      refine fmV_aload_n (pc := 44) (i := 0) F dX5_beside_44 rfl rfl ?_
      refine fmg_23_place (pc := 45) F (by assumption) hin_X5 dX5_beside_45 (List.mem_of_getElem? (i := 7) rfl) ?_
      refine fmV_iload_n (pc := 48) (i := 2) F dX5_beside_48 rfl rfl ?_
      refine fmal_28 (pc := 49) F (by assumption) dX5_beside_49 (vp_in_nI (by omega) (by decide)) (fm_cn (by omega)) ?_
      refine fmV_isub (pc := 50) F dX5_beside_50 ?_
      refine fmV_mabs (pc := 51) F ⟨(List.mem_of_getElem? (i := 3) rfl), (List.mem_of_getElem? (i := 4) rfl), (List.mem_of_getElem? (i := 5) rfl), (List.mem_of_getElem? (i := 6) rfl)⟩ (Nat.le_of_ble_eq_true rfl) (Nat.le_of_ble_eq_true rfl) (Nat.le_of_ble_eq_true rfl) (Nat.le_of_ble_eq_true rfl) dX5_beside_51 ?_
      refine fmV_iadd (pc := 54) F dX5_beside_54 ?_
      refine fmV_iconst (pc := 55) (v := 1) F dX5_beside_55 rfl ?_
      refine fmV_icmp_ne (pc := 56) (tgt := 63) F dX5_beside_56 (by decide) (fun h3 => ?_) (fun h3 => ?_)
      · refine fmV_iconst (pc := 63) (v := 0) F dX5_beside_63 rfl ?_
        refine fmV_xr ?_
        exact fmV_zret (pc := 64) F dX5_beside_64 rfl rfl ⟨by rw [if_neg (fun q => h3 q.2.2)], rfl⟩
      · refine fmV_iconst (pc := 59) (v := 1) F dX5_beside_59 rfl ?_
        refine fmV_goto (pc := 60) (tgt := 64) F dX5_beside_60 (by decide) ?_
        refine fmV_xr ?_
        exact fmV_zret (pc := 64) F dX5_beside_64 rfl rfl ⟨by rw [if_pos ⟨h1, h2, h3⟩], rfl⟩
    · refine fmV_iconst (pc := 20) (v := 0) F dX5_beside_20 rfl ?_
      refine fmV_xr ?_
      exact fmV_zret (pc := 21) F dX5_beside_21 rfl rfl ⟨by rw [if_neg (fun q => h2 q.2.1)], rfl⟩

set_option maxHeartbeats 4000000 in
set_option maxRecDepth 100000 in
theorem c_X5_misses (l : Launch) (D : va_G) (A : Nat → Prop) (G : fmG) (σ : fmS) (o : Nat → Int64) {b c g : Nat} (hb : b < 2) (hc : c < 14) (hg : g < 4) : fmXi l D A G yX5_misses wsX5_misses (fmRm 1 0 0) 0 0 [.ref (G.1 23 b 0), .int (nI c), .int (nI g)] σ o (fun r u => r = gMs σ b c g ∧ u = σ) (fun _ _ => False) := by
  refine fmXi_of (cc := cX5_misses) (maxL := 3) (ret := (some .int)) (by decide +kernel) rfl (Nat.le_of_ble_eq_true rfl) ?_
  intro P_ E_ S_ M_ args_ below_ meth_ C_ F hX hnt
  have hin_X5 : ∀ w ∈ wsX50, w ∈ wsX5_misses := (fun _ h => List.mem_cons_of_mem _ (List.mem_append_left _ (List.mem_append_right _ h)))
  have hin_X6 : ∀ w ∈ wsX60, w ∈ wsX5_misses := (fun _ h => List.mem_cons_of_mem _ (List.mem_append_right _ h))
  have e4 : (4 : Int32) * nI c + nI g = nI (4 * c + g) := by rw [← nI_add, ← pk_mul]; rfl
  refine fmV_iconst (pc := 0) (v := 0) F dX5_misses_0 rfl ?_
  refine fmV_aload_n (pc := 1) (i := 0) F dX5_misses_1 rfl rfl ?_
  refine fmg_23_this0 (pc := 2) F (by assumption) hin_X5 dX5_misses_2 (List.mem_of_getElem? (i := 1) rfl) ?_
  refine fmgN_14_wants (pc := 5) F hX  hin_X6 dX5_misses_5 (List.mem_of_getElem? (i := 26) rfl) ?_
  refine fmV_iconst (pc := 8) (v := 4) F dX5_misses_8 rfl ?_
  refine fmV_iload_n (pc := 9) (i := 1) F dX5_misses_9 rfl rfl ?_
  refine fmV_imul (pc := 10) F dX5_misses_10 ?_
  refine fmV_iload_n (pc := 11) (i := 2) F dX5_misses_11 rfl rfl ?_
  refine fmV_iadd (pc := 12) F dX5_misses_12 ?_
  rw [e4]
  refine fmal_20 (pc := 13) F  dX5_misses_13 (vp_in_nI (by omega) (by decide)) (fm_cn (by omega)) ?_
  refine fmV_aload_n (pc := 14) (i := 0) F dX5_misses_14 rfl rfl ?_
  refine fmg_23_has (pc := 15) F (by assumption) hin_X5 dX5_misses_15 (List.mem_of_getElem? (i := 2) rfl) ?_
  refine fmV_iconst (pc := 18) (v := 4) F dX5_misses_18 rfl ?_
  refine fmV_iload_n (pc := 19) (i := 1) F dX5_misses_19 rfl rfl ?_
  refine fmV_imul (pc := 20) F dX5_misses_20 ?_
  refine fmV_iload_n (pc := 21) (i := 2) F dX5_misses_21 rfl rfl ?_
  refine fmV_iadd (pc := 22) F dX5_misses_22 ?_
  rw [e4]
  refine fmal_25 (pc := 23) F (by assumption) dX5_misses_23 (vp_in_nI (by omega) (by decide)) (fm_cn (by omega)) ?_
  refine fmV_isub (pc := 24) F dX5_misses_24 ?_
  refine fmV_mmax (pc := 25) F ⟨(List.mem_of_getElem? (i := 3) rfl), (List.mem_of_getElem? (i := 4) rfl), (List.mem_of_getElem? (i := 5) rfl), (List.mem_of_getElem? (i := 6) rfl)⟩ (Nat.le_of_ble_eq_true rfl) (Nat.le_of_ble_eq_true rfl) (Nat.le_of_ble_eq_true rfl) (Nat.le_of_ble_eq_true rfl) dX5_misses_25 ?_
  refine fmV_xr ?_
  exact fmV_iret (pc := 28) F dX5_misses_28 rfl ⟨rfl, rfl⟩

set_option maxHeartbeats 4000000 in
set_option maxRecDepth 100000 in
theorem c_X5_misses_ (l : Launch) (D : va_G) (A : Nat → Prop) (G : fmG) (σ : fmS) (o : Nat → Int64) {b c : Nat} (hb : b < 2) (hc : c < 14) : fmXi l D A G yX5_misses_ wsX5_misses_ (fmRm 2 0 0) 0 0 [.ref (G.1 23 b 0), .int (nI c)] σ o (fun r u => r = gMsAll σ b c ∧ u = σ) (fun _ _ => False) := by
  refine fmXi_of (cc := cX5_misses_) (maxL := 4) (ret := (some .int)) (by decide +kernel) rfl (Nat.le_of_ble_eq_true rfl) ?_
  intro P_ E_ S_ M_ args_ below_ meth_ C_ F hX hnt
  have hin_X5 : ∀ w ∈ wsX50, w ∈ wsX5_misses_ := (fun _ h => List.mem_cons_of_mem _ (List.mem_append_left _ (List.mem_append_right _ h)))
  have hin_X6 : ∀ w ∈ wsX60, w ∈ wsX5_misses_ := (fun _ h => List.mem_cons_of_mem _ (List.mem_append_right _ h))
  refine fmV_iconst (pc := 0) (v := 0) F dX5_misses__0 rfl ?_
  refine fmV_istore_n (pc := 1) (i := 2) F dX5_misses__1 rfl (by decide) ?_
  refine fmV_iconst (pc := 2) (v := 0) F dX5_misses__2 rfl ?_
  refine fmV_istore_n (pc := 3) (i := 3) F dX5_misses__3 rfl (by decide) ?_
  refine fmV_lv (lv' := [(0, .ref (G.1 23 b 0)), (1, .int (nI c)), (2, .int (fmSum (gMs σ b c) 0)), (3, .int (nI 0))]) ⟨rfl, rfl, rfl, rfl, trivial⟩ ?_
  refine fmV_up (N := 4) (pc := 4) (σf := fun j => σ) (lvf := fun j => [(0, .ref (G.1 23 b 0)), (1, .int (nI c)), (2, .int (fmSum (gMs σ b c) j)), (3, .int (nI j))]) 0 (by decide) ?_ ?_
  · refine fmV_iload_n (pc := 4) (i := 3) F dX5_misses__4 rfl rfl ?_
    refine fmV_iconst (pc := 5) (v := 4) F dX5_misses__5 rfl ?_
    refine fmV_icmp_ge (pc := 6) (tgt := 24) F dX5_misses__6 (by decide) (fun h1 => ?_) (fun h1 => ?_)
    · refine fmV_iload_n (pc := 24) (i := 2) F dX5_misses__24 rfl rfl ?_
      refine fmV_xr ?_
      exact fmV_iret (pc := 25) F dX5_misses__25 rfl ⟨rfl, rfl⟩
    · exact absurd (by decide) h1
  · intro j hj ih
    refine fmV_iload_n (pc := 4) (i := 3) F dX5_misses__4 rfl rfl ?_
    refine fmV_iconst (pc := 5) (v := 4) F dX5_misses__5 rfl ?_
    refine fmV_icmp_ge (pc := 6) (tgt := 24) F dX5_misses__6 (by decide) (fun h1 => ?_) (fun h1 => ?_)
    · exact absurd h1 (nI_ge (b := 4) hj (by decide))
    · refine fmV_iload_n (pc := 9) (i := 2) F dX5_misses__9 rfl rfl ?_
      refine fmV_aload_n (pc := 10) (i := 0) F dX5_misses__10 rfl rfl ?_
      refine fmV_iload_n (pc := 11) (i := 1) F dX5_misses__11 rfl rfl ?_
      refine fmV_iload_n (pc := 12) (i := 3) F dX5_misses__12 rfl rfl ?_
      refine fmV_xVi (n := 2) (pc := 13) F hX (c_X5_misses l D A G σ o hb hc hj) gX5_misses__X5_misses rfl rfl rfl (by decide +kernel) ⟨Nat.le_of_ble_eq_true rfl, Nat.le_of_ble_eq_true rfl⟩ (fmR_23 F (by assumption)) rfl rfl (Nat.le_of_ble_eq_true rfl) dX5_misses__13 ⟨Nat.le_of_ble_eq_true rfl, Nat.le_of_ble_eq_true rfl⟩ (fun _ _ h9 => False.elim h9) (fun r2 u1 hc3 => ?_)
      obtain ⟨hr9, hu9⟩ := hc3
      have hr9 := hr9.symm
      have hu9 := hu9.symm
      subst hr9
      subst hu9
      refine fmV_iadd (pc := 16) F dX5_misses__16 ?_
      refine fmV_istore_n (pc := 17) (i := 2) F dX5_misses__17 rfl (by decide) ?_
      refine fmV_iinc (pc := 18) (i := 3) F dX5_misses__18 rfl rfl (by decide) ?_
      refine fmV_goto (pc := 21) (tgt := 4) F dX5_misses__21 (by decide) ?_
      refine fmV_lv ?_ ih
      exact ⟨rfl, rfl, rfl, by rw [nI_succ j]; rfl, trivial⟩

set_option maxHeartbeats 4000000 in
set_option maxRecDepth 100000 in
theorem c_X5_being (l : Launch) (D : va_G) (A : Nat → Prop) (G : fmG) (σ : fmS) (o : Nat → Int64) {b cc : Nat} (hb : b < 2) (hcc : cc ≤ 14) (h63 : σ 63 0 0 0 = nI cc) (x : Int32) : fmXi l D A G yX5_being wsX5_being (fmRm 1 0 0) 0 0 [.ref (G.1 23 b 0), .int x] σ o (fun r u => r = gBn σ b x cc ∧ u = σ) (fun _ _ => False) := by
  refine fmXi_of (cc := cX5_being) (maxL := 4) (ret := (some .int)) (by decide +kernel) rfl (Nat.le_of_ble_eq_true rfl) ?_
  intro P_ E_ S_ M_ args_ below_ meth_ C_ F hX hnt
  have hin_X5 : ∀ w ∈ wsX50, w ∈ wsX5_being := (fun _ h => List.mem_cons_of_mem _ (List.mem_append_left _ (List.mem_append_right _ h)))
  have hin_X6 : ∀ w ∈ wsX60, w ∈ wsX5_being := (fun _ h => List.mem_cons_of_mem _ (List.mem_append_right _ h))
  refine fmV_iconst (pc := 0) (v := 0) F dX5_being_0 rfl ?_
  refine fmV_istore_n (pc := 1) (i := 2) F dX5_being_1 rfl (by decide) ?_
  refine fmV_iconst (pc := 2) (v := 0) F dX5_being_2 rfl ?_
  refine fmV_istore_n (pc := 3) (i := 3) F dX5_being_3 rfl (by decide) ?_
  refine fmV_lv (lv' := [(0, .ref (G.1 23 b 0)), (1, .int x), (2, .int (gBn σ b x 0)), (3, .int (nI 0))]) ⟨rfl, rfl, rfl, rfl, trivial⟩ ?_
  refine fmV_up (N := cc) (pc := 4) (σf := fun j => σ) (lvf := fun j => [(0, .ref (G.1 23 b 0)), (1, .int x), (2, .int (gBn σ b x j)), (3, .int (nI j))]) 0 (Nat.zero_le _) ?_ ?_
  · refine fmV_iload_n (pc := 4) (i := 3) F dX5_being_4 rfl rfl ?_
    refine fmV_aload_n (pc := 5) (i := 0) F dX5_being_5 rfl rfl ?_
    refine fmg_23_this0 (pc := 6) F (by assumption) hin_X5 dX5_being_6 (List.mem_of_getElem? (i := 1) rfl) ?_
    refine fmgN_14_canoes (pc := 9) F hX  hin_X6 dX5_being_9 (List.mem_of_getElem? (i := 23) rfl) ?_
    refine fmV_icmp_ge (pc := 12) (tgt := 39) F dX5_being_12 (by decide) (fun h1 => ?_) (fun h1 => ?_)
    · refine fmV_iload_n (pc := 39) (i := 2) F dX5_being_39 rfl rfl ?_
      refine fmV_xr ?_
      exact fmV_iret (pc := 40) F dX5_being_40 rfl ⟨rfl, rfl⟩
    · rw [h63] at h1
      exact absurd (nI_le (Nat.le_refl cc) (by omega)) h1
  · intro j hj ih
    refine fmV_iload_n (pc := 4) (i := 3) F dX5_being_4 rfl rfl ?_
    refine fmV_aload_n (pc := 5) (i := 0) F dX5_being_5 rfl rfl ?_
    refine fmg_23_this0 (pc := 6) F (by assumption) hin_X5 dX5_being_6 (List.mem_of_getElem? (i := 1) rfl) ?_
    refine fmgN_14_canoes (pc := 9) F hX  hin_X6 dX5_being_9 (List.mem_of_getElem? (i := 23) rfl) ?_
    refine fmV_icmp_ge (pc := 12) (tgt := 39) F dX5_being_12 (by decide) (fun h1 => ?_) (fun h1 => ?_)
    · rw [h63] at h1
      exact absurd h1 (nI_ge hj (by omega))
    · refine fmV_iload_n (pc := 15) (i := 2) F dX5_being_15 rfl rfl ?_
      refine fmV_aload_n (pc := 16) (i := 0) F dX5_being_16 rfl rfl ?_
      refine fmg_23_is (pc := 17) F (by assumption) hin_X5 dX5_being_17 (List.mem_of_getElem? (i := 2) rfl) ?_
      refine fmV_iload_n (pc := 20) (i := 3) F dX5_being_20 rfl rfl ?_
      refine fmal_26 (pc := 21) F (by assumption) dX5_being_21 (vp_in_nI (by omega) (by decide)) (fm_cn (by omega)) ?_
      refine fmV_iload_n (pc := 22) (i := 1) F dX5_being_22 rfl rfl ?_
      refine fmV_icmp_ne (pc := 23) (tgt := 30) F dX5_being_23 (by decide) (fun h2 => ?_) (fun h2 => ?_)
      · refine fmV_iconst (pc := 30) (v := 0) F dX5_being_30 rfl ?_
        refine fmV_iadd (pc := 31) F dX5_being_31 ?_
        refine fmV_istore_n (pc := 32) (i := 2) F dX5_being_32 rfl (by decide) ?_
        refine fmV_iinc (pc := 33) (i := 3) F dX5_being_33 rfl rfl (by decide) ?_
        refine fmV_goto (pc := 36) (tgt := 4) F dX5_being_36 (by decide) ?_
        refine fmV_lv ?_ ih
        first
          | exact ⟨rfl, rfl, by rw [gBn_p h2]; rfl, by rw [nI_succ j]; rfl, trivial⟩
          | exact ⟨rfl, rfl, by rw [gBn_n h2]; rfl, by rw [nI_succ j]; rfl, trivial⟩
      · refine fmV_iconst (pc := 26) (v := 1) F dX5_being_26 rfl ?_
        refine fmV_goto (pc := 27) (tgt := 31) F dX5_being_27 (by decide) ?_
        refine fmV_iadd (pc := 31) F dX5_being_31 ?_
        refine fmV_istore_n (pc := 32) (i := 2) F dX5_being_32 rfl (by decide) ?_
        refine fmV_iinc (pc := 33) (i := 3) F dX5_being_33 rfl rfl (by decide) ?_
        refine fmV_goto (pc := 36) (tgt := 4) F dX5_being_36 (by decide) ?_
        refine fmV_lv ?_ ih
        first
          | exact ⟨rfl, rfl, by rw [gBn_p h2]; rfl, by rw [nI_succ j]; rfl, trivial⟩
          | exact ⟨rfl, rfl, by rw [gBn_n h2]; rfl, by rw [nI_succ j]; rfl, trivial⟩

set_option maxHeartbeats 4000000 in
set_option maxRecDepth 100000 in
theorem c_X5_all_24 (l : Launch) (D : va_G) (A : Nat → Prop) (G : fmG) (σ : fmS) (o : Nat → Int64) {b d : Nat} (hb : b < 2) : fmXi l D A G yX5_all wsX5_all (fmRm 1 0 0) 0 0 [.ref (G.1 23 d 0), .ref (G.1 24 b 0)] σ o (fun r u => r = fmSum (σ 24 b 0) 14 ∧ u = σ) (fun _ _ => False) := by
  refine fmXi_of (cc := cX5_all) (maxL := 7) (ret := (some .int)) (by decide +kernel) rfl (Nat.le_of_ble_eq_true rfl) ?_
  intro P_ E_ S_ M_ args_ below_ meth_ C_ F hX hnt
  refine fmV_iconst (pc := 0) (v := 0) F dX5_all_0 rfl ?_
  refine fmV_istore_n (pc := 1) (i := 2) F dX5_all_1 rfl (by decide) ?_
  refine fmV_aload_n (pc := 2) (i := 1) F dX5_all_2 rfl rfl ?_
  refine fmV_astore_n (pc := 3) (i := 3) F dX5_all_3 rfl (by decide) ?_
  refine fmV_aload_n (pc := 4) (i := 3) F dX5_all_4 rfl rfl ?_
  refine fmV_alen (pc := 5) (kd := 24) F (fm_mem (a := 2) (b := 1) (by decide +kernel) hb (by decide)) (fun τ => rfl) dX5_all_5 rfl ?_
  refine fmV_istore (pc := 6) (i := 4) F dX5_all_6 (by decide) ?_
  refine fmV_iconst (pc := 8) (v := 0) F dX5_all_8 rfl ?_
  refine fmV_istore (pc := 9) (i := 5) F dX5_all_9 (by decide) ?_
  refine fmV_lv (lv' := [(2, .int (fmSum (σ 24 b 0) 0)), (3, .ref (G.1 24 b 0)), (4, .int 14), (5, .int (nI 0))]) ⟨rfl, rfl, rfl, rfl, trivial⟩ ?_
  refine fmV_up (N := 14) (pc := 11) (σf := fun j => σ) (lvf := fun j => [(2, .int (fmSum (σ 24 b 0) j)), (3, .ref (G.1 24 b 0)), (4, .int 14), (5, .int (nI j))]) 0 (by decide) ?_ ?_
  · refine fmV_iload (pc := 11) (i := 5) F dX5_all_11 rfl ?_
    refine fmV_iload (pc := 13) (i := 4) F dX5_all_13 rfl ?_
    refine fmV_icmp_ge (pc := 15) (tgt := 35) F dX5_all_15 (by decide) (fun h1 => ?_) (fun h1 => ?_)
    · refine fmV_iload_n (pc := 35) (i := 2) F dX5_all_35 rfl rfl ?_
      refine fmV_xr ?_
      exact fmV_iret (pc := 36) F dX5_all_36 rfl ⟨rfl, rfl⟩
    · exact absurd (by decide) h1
  · intro j hj ih
    refine fmV_iload (pc := 11) (i := 5) F dX5_all_11 rfl ?_
    refine fmV_iload (pc := 13) (i := 4) F dX5_all_13 rfl ?_
    refine fmV_icmp_ge (pc := 15) (tgt := 35) F dX5_all_15 (by decide) (fun h1 => ?_) (fun h1 => ?_)
    · exact absurd h1 (nI_ge (b := 14) hj (by decide))
    · refine fmV_aload_n (pc := 18) (i := 3) F dX5_all_18 rfl rfl ?_
      refine fmV_iload (pc := 19) (i := 5) F dX5_all_19 rfl ?_
      refine fmal_24 (pc := 21) F (by assumption) dX5_all_21 (vp_in_nI (by omega) (by decide)) (fm_cn (by omega)) ?_
      refine fmV_istore (pc := 22) (i := 6) F dX5_all_22 (by decide) ?_
      refine fmV_iload_n (pc := 24) (i := 2) F dX5_all_24 rfl rfl ?_
      refine fmV_iload (pc := 25) (i := 6) F dX5_all_25 rfl ?_
      refine fmV_iadd (pc := 27) F dX5_all_27 ?_
      refine fmV_istore_n (pc := 28) (i := 2) F dX5_all_28 rfl (by decide) ?_
      refine fmV_iinc (pc := 29) (i := 5) F dX5_all_29 rfl rfl (by decide) ?_
      refine fmV_goto (pc := 32) (tgt := 11) F dX5_all_32 (by decide) ?_
      refine fmV_lv ?_ ih
      exact ⟨rfl, rfl, rfl, by rw [nI_succ j]; rfl, trivial⟩

set_option maxHeartbeats 4000000 in
set_option maxRecDepth 100000 in
theorem c_X5_all_25 (l : Launch) (D : va_G) (A : Nat → Prop) (G : fmG) (σ : fmS) (o : Nat → Int64) {b d : Nat} (hb : b < 2) : fmXi l D A G yX5_all wsX5_all (fmRm 1 0 0) 0 0 [.ref (G.1 23 d 0), .ref (G.1 25 b 0)] σ o (fun r u => r = fmSum (σ 25 b 0) 56 ∧ u = σ) (fun _ _ => False) := by
  refine fmXi_of (cc := cX5_all) (maxL := 7) (ret := (some .int)) (by decide +kernel) rfl (Nat.le_of_ble_eq_true rfl) ?_
  intro P_ E_ S_ M_ args_ below_ meth_ C_ F hX hnt
  refine fmV_iconst (pc := 0) (v := 0) F dX5_all_0 rfl ?_
  refine fmV_istore_n (pc := 1) (i := 2) F dX5_all_1 rfl (by decide) ?_
  refine fmV_aload_n (pc := 2) (i := 1) F dX5_all_2 rfl rfl ?_
  refine fmV_astore_n (pc := 3) (i := 3) F dX5_all_3 rfl (by decide) ?_
  refine fmV_aload_n (pc := 4) (i := 3) F dX5_all_4 rfl rfl ?_
  refine fmV_alen (pc := 5) (kd := 25) F (fm_mem (a := 2) (b := 1) (by decide +kernel) hb (by decide)) (fun τ => rfl) dX5_all_5 rfl ?_
  refine fmV_istore (pc := 6) (i := 4) F dX5_all_6 (by decide) ?_
  refine fmV_iconst (pc := 8) (v := 0) F dX5_all_8 rfl ?_
  refine fmV_istore (pc := 9) (i := 5) F dX5_all_9 (by decide) ?_
  refine fmV_lv (lv' := [(2, .int (fmSum (σ 25 b 0) 0)), (3, .ref (G.1 25 b 0)), (4, .int 56), (5, .int (nI 0))]) ⟨rfl, rfl, rfl, rfl, trivial⟩ ?_
  refine fmV_up (N := 56) (pc := 11) (σf := fun j => σ) (lvf := fun j => [(2, .int (fmSum (σ 25 b 0) j)), (3, .ref (G.1 25 b 0)), (4, .int 56), (5, .int (nI j))]) 0 (by decide) ?_ ?_
  · refine fmV_iload (pc := 11) (i := 5) F dX5_all_11 rfl ?_
    refine fmV_iload (pc := 13) (i := 4) F dX5_all_13 rfl ?_
    refine fmV_icmp_ge (pc := 15) (tgt := 35) F dX5_all_15 (by decide) (fun h1 => ?_) (fun h1 => ?_)
    · refine fmV_iload_n (pc := 35) (i := 2) F dX5_all_35 rfl rfl ?_
      refine fmV_xr ?_
      exact fmV_iret (pc := 36) F dX5_all_36 rfl ⟨rfl, rfl⟩
    · exact absurd (by decide) h1
  · intro j hj ih
    refine fmV_iload (pc := 11) (i := 5) F dX5_all_11 rfl ?_
    refine fmV_iload (pc := 13) (i := 4) F dX5_all_13 rfl ?_
    refine fmV_icmp_ge (pc := 15) (tgt := 35) F dX5_all_15 (by decide) (fun h1 => ?_) (fun h1 => ?_)
    · exact absurd h1 (nI_ge (b := 56) hj (by decide))
    · refine fmV_aload_n (pc := 18) (i := 3) F dX5_all_18 rfl rfl ?_
      refine fmV_iload (pc := 19) (i := 5) F dX5_all_19 rfl ?_
      refine fmal_25 (pc := 21) F (by assumption) dX5_all_21 (vp_in_nI (by omega) (by decide)) (fm_cn (by omega)) ?_
      refine fmV_istore (pc := 22) (i := 6) F dX5_all_22 (by decide) ?_
      refine fmV_iload_n (pc := 24) (i := 2) F dX5_all_24 rfl rfl ?_
      refine fmV_iload (pc := 25) (i := 6) F dX5_all_25 rfl ?_
      refine fmV_iadd (pc := 27) F dX5_all_27 ?_
      refine fmV_istore_n (pc := 28) (i := 2) F dX5_all_28 rfl (by decide) ?_
      refine fmV_iinc (pc := 29) (i := 5) F dX5_all_29 rfl rfl (by decide) ?_
      refine fmV_goto (pc := 32) (tgt := 11) F dX5_all_32 (by decide) ?_
      refine fmV_lv ?_ ih
      exact ⟨rfl, rfl, rfl, by rw [nI_succ j]; rfl, trivial⟩

set_option maxHeartbeats 4000000 in
set_option maxRecDepth 100000 in
theorem c_X5_all_30 (l : Launch) (D : va_G) (A : Nat → Prop) (G : fmG) (σ : fmS) (o : Nat → Int64) {b d : Nat} (hb : b < 2) : fmXi l D A G yX5_all wsX5_all (fmRm 1 0 0) 0 0 [.ref (G.1 23 d 0), .ref (G.1 30 b 0)] σ o (fun r u => r = fmSum (σ 30 b 0) 14 ∧ u = σ) (fun _ _ => False) := by
  refine fmXi_of (cc := cX5_all) (maxL := 7) (ret := (some .int)) (by decide +kernel) rfl (Nat.le_of_ble_eq_true rfl) ?_
  intro P_ E_ S_ M_ args_ below_ meth_ C_ F hX hnt
  refine fmV_iconst (pc := 0) (v := 0) F dX5_all_0 rfl ?_
  refine fmV_istore_n (pc := 1) (i := 2) F dX5_all_1 rfl (by decide) ?_
  refine fmV_aload_n (pc := 2) (i := 1) F dX5_all_2 rfl rfl ?_
  refine fmV_astore_n (pc := 3) (i := 3) F dX5_all_3 rfl (by decide) ?_
  refine fmV_aload_n (pc := 4) (i := 3) F dX5_all_4 rfl rfl ?_
  refine fmV_alen (pc := 5) (kd := 30) F (fm_mem (a := 2) (b := 1) (by decide +kernel) hb (by decide)) (fun τ => rfl) dX5_all_5 rfl ?_
  refine fmV_istore (pc := 6) (i := 4) F dX5_all_6 (by decide) ?_
  refine fmV_iconst (pc := 8) (v := 0) F dX5_all_8 rfl ?_
  refine fmV_istore (pc := 9) (i := 5) F dX5_all_9 (by decide) ?_
  refine fmV_lv (lv' := [(2, .int (fmSum (σ 30 b 0) 0)), (3, .ref (G.1 30 b 0)), (4, .int 14), (5, .int (nI 0))]) ⟨rfl, rfl, rfl, rfl, trivial⟩ ?_
  refine fmV_up (N := 14) (pc := 11) (σf := fun j => σ) (lvf := fun j => [(2, .int (fmSum (σ 30 b 0) j)), (3, .ref (G.1 30 b 0)), (4, .int 14), (5, .int (nI j))]) 0 (by decide) ?_ ?_
  · refine fmV_iload (pc := 11) (i := 5) F dX5_all_11 rfl ?_
    refine fmV_iload (pc := 13) (i := 4) F dX5_all_13 rfl ?_
    refine fmV_icmp_ge (pc := 15) (tgt := 35) F dX5_all_15 (by decide) (fun h1 => ?_) (fun h1 => ?_)
    · refine fmV_iload_n (pc := 35) (i := 2) F dX5_all_35 rfl rfl ?_
      refine fmV_xr ?_
      exact fmV_iret (pc := 36) F dX5_all_36 rfl ⟨rfl, rfl⟩
    · exact absurd (by decide) h1
  · intro j hj ih
    refine fmV_iload (pc := 11) (i := 5) F dX5_all_11 rfl ?_
    refine fmV_iload (pc := 13) (i := 4) F dX5_all_13 rfl ?_
    refine fmV_icmp_ge (pc := 15) (tgt := 35) F dX5_all_15 (by decide) (fun h1 => ?_) (fun h1 => ?_)
    · exact absurd h1 (nI_ge (b := 14) hj (by decide))
    · refine fmV_aload_n (pc := 18) (i := 3) F dX5_all_18 rfl rfl ?_
      refine fmV_iload (pc := 19) (i := 5) F dX5_all_19 rfl ?_
      refine fmal_30 (pc := 21) F (by assumption) dX5_all_21 (vp_in_nI (by omega) (by decide)) (fm_cn (by omega)) ?_
      refine fmV_istore (pc := 22) (i := 6) F dX5_all_22 (by decide) ?_
      refine fmV_iload_n (pc := 24) (i := 2) F dX5_all_24 rfl rfl ?_
      refine fmV_iload (pc := 25) (i := 6) F dX5_all_25 rfl ?_
      refine fmV_iadd (pc := 27) F dX5_all_27 ?_
      refine fmV_istore_n (pc := 28) (i := 2) F dX5_all_28 rfl (by decide) ?_
      refine fmV_iinc (pc := 29) (i := 5) F dX5_all_29 rfl rfl (by decide) ?_
      refine fmV_goto (pc := 32) (tgt := 11) F dX5_all_32 (by decide) ?_
      refine fmV_lv ?_ ih
      exact ⟨rfl, rfl, rfl, by rw [nI_succ j]; rfl, trivial⟩

set_option maxHeartbeats 4000000 in
set_option maxRecDepth 100000 in
theorem c_X5_all_31 (l : Launch) (D : va_G) (A : Nat → Prop) (G : fmG) (σ : fmS) (o : Nat → Int64) {b d : Nat} (hb : b < 2) : fmXi l D A G yX5_all wsX5_all (fmRm 1 0 0) 0 0 [.ref (G.1 23 d 0), .ref (G.1 31 b 0)] σ o (fun r u => r = fmSum (σ 31 b 0) 14 ∧ u = σ) (fun _ _ => False) := by
  refine fmXi_of (cc := cX5_all) (maxL := 7) (ret := (some .int)) (by decide +kernel) rfl (Nat.le_of_ble_eq_true rfl) ?_
  intro P_ E_ S_ M_ args_ below_ meth_ C_ F hX hnt
  refine fmV_iconst (pc := 0) (v := 0) F dX5_all_0 rfl ?_
  refine fmV_istore_n (pc := 1) (i := 2) F dX5_all_1 rfl (by decide) ?_
  refine fmV_aload_n (pc := 2) (i := 1) F dX5_all_2 rfl rfl ?_
  refine fmV_astore_n (pc := 3) (i := 3) F dX5_all_3 rfl (by decide) ?_
  refine fmV_aload_n (pc := 4) (i := 3) F dX5_all_4 rfl rfl ?_
  refine fmV_alen (pc := 5) (kd := 31) F (fm_mem (a := 2) (b := 1) (by decide +kernel) hb (by decide)) (fun τ => rfl) dX5_all_5 rfl ?_
  refine fmV_istore (pc := 6) (i := 4) F dX5_all_6 (by decide) ?_
  refine fmV_iconst (pc := 8) (v := 0) F dX5_all_8 rfl ?_
  refine fmV_istore (pc := 9) (i := 5) F dX5_all_9 (by decide) ?_
  refine fmV_lv (lv' := [(2, .int (fmSum (σ 31 b 0) 0)), (3, .ref (G.1 31 b 0)), (4, .int 14), (5, .int (nI 0))]) ⟨rfl, rfl, rfl, rfl, trivial⟩ ?_
  refine fmV_up (N := 14) (pc := 11) (σf := fun j => σ) (lvf := fun j => [(2, .int (fmSum (σ 31 b 0) j)), (3, .ref (G.1 31 b 0)), (4, .int 14), (5, .int (nI j))]) 0 (by decide) ?_ ?_
  · refine fmV_iload (pc := 11) (i := 5) F dX5_all_11 rfl ?_
    refine fmV_iload (pc := 13) (i := 4) F dX5_all_13 rfl ?_
    refine fmV_icmp_ge (pc := 15) (tgt := 35) F dX5_all_15 (by decide) (fun h1 => ?_) (fun h1 => ?_)
    · refine fmV_iload_n (pc := 35) (i := 2) F dX5_all_35 rfl rfl ?_
      refine fmV_xr ?_
      exact fmV_iret (pc := 36) F dX5_all_36 rfl ⟨rfl, rfl⟩
    · exact absurd (by decide) h1
  · intro j hj ih
    refine fmV_iload (pc := 11) (i := 5) F dX5_all_11 rfl ?_
    refine fmV_iload (pc := 13) (i := 4) F dX5_all_13 rfl ?_
    refine fmV_icmp_ge (pc := 15) (tgt := 35) F dX5_all_15 (by decide) (fun h1 => ?_) (fun h1 => ?_)
    · exact absurd h1 (nI_ge (b := 14) hj (by decide))
    · refine fmV_aload_n (pc := 18) (i := 3) F dX5_all_18 rfl rfl ?_
      refine fmV_iload (pc := 19) (i := 5) F dX5_all_19 rfl ?_
      refine fmal_31 (pc := 21) F (by assumption) dX5_all_21 (vp_in_nI (by omega) (by decide)) (fm_cn (by omega)) ?_
      refine fmV_istore (pc := 22) (i := 6) F dX5_all_22 (by decide) ?_
      refine fmV_iload_n (pc := 24) (i := 2) F dX5_all_24 rfl rfl ?_
      refine fmV_iload (pc := 25) (i := 6) F dX5_all_25 rfl ?_
      refine fmV_iadd (pc := 27) F dX5_all_27 ?_
      refine fmV_istore_n (pc := 28) (i := 2) F dX5_all_28 rfl (by decide) ?_
      refine fmV_iinc (pc := 29) (i := 5) F dX5_all_29 rfl rfl (by decide) ?_
      refine fmV_goto (pc := 32) (tgt := 11) F dX5_all_32 (by decide) ?_
      refine fmV_lv ?_ ih
      exact ⟨rfl, rfl, rfl, by rw [nI_succ j]; rfl, trivial⟩

set_option maxHeartbeats 4000000 in
set_option maxRecDepth 100000 in
theorem c_X5_copy_24 (l : Launch) (D : va_G) (A : Nat → Prop) (G : fmG) (σ : fmS) (o : Nat → Int64) {a b d : Nat} (ha : a < 2) (hb : b < 2) : fmXv l D A G yX5_copy wsX5_copy (fmRm 1 0 0) 0 0 [.ref (G.1 23 d 0), .ref (G.1 24 b 0), .ref (G.1 24 a 0)] σ o (fun u => u = fmu σ 24 a 0 (fmCp 14 (σ 24 b 0) (σ 24 a 0))) (fun _ _ => False) := by
  refine fmXv_of (cc := cX5_copy) (maxL := 3) (ret := none) (by decide +kernel) rfl (Nat.le_of_ble_eq_true rfl) ?_
  intro P_ E_ S_ M_ args_ below_ meth_ C_ F hX hnt
  refine fmV_aload_n (pc := 0) (i := 1) F dX5_copy_0 rfl rfl ?_
  refine fmV_iconst (pc := 1) (v := 0) F dX5_copy_1 rfl ?_
  refine fmV_aload_n (pc := 2) (i := 2) F dX5_copy_2 rfl rfl ?_
  refine fmV_iconst (pc := 3) (v := 0) F dX5_copy_3 rfl ?_
  refine fmV_aload_n (pc := 4) (i := 1) F dX5_copy_4 rfl rfl ?_
  refine fmV_alen (pc := 5) (kd := 24) F (fm_mem (a := 2) (b := 1) (by decide +kernel) hb (by decide)) (fun τ => rfl) dX5_copy_5 rfl ?_
  refine fmV_copyi (pc := 6) F (fm_mem (a := 2) (b := 1) (by decide +kernel) (by assumption) (by decide)) (fun τ => rfl) (fm_mem (a := 2) (b := 1) (by decide +kernel) (by assumption) (by decide)) (fun τ => rfl) rfl dX5_copy_6 ⟨(List.mem_of_getElem? (i := 1) rfl), (List.mem_of_getElem? (i := 2) rfl), (List.mem_of_getElem? (i := 3) rfl), (List.mem_of_getElem? (i := 4) rfl)⟩ (by decide) (by decide) (by decide) (Nat.le_of_ble_eq_true rfl) (Nat.le_of_ble_eq_true rfl) ?_
  refine fmV_xr ?_
  exact fmV_vret (pc := 9) F dX5_copy_9 rfl rfl

set_option maxHeartbeats 4000000 in
set_option maxRecDepth 100000 in
theorem c_X5_copy_25 (l : Launch) (D : va_G) (A : Nat → Prop) (G : fmG) (σ : fmS) (o : Nat → Int64) {a b d : Nat} (ha : a < 2) (hb : b < 2) : fmXv l D A G yX5_copy wsX5_copy (fmRm 1 0 0) 0 0 [.ref (G.1 23 d 0), .ref (G.1 25 b 0), .ref (G.1 25 a 0)] σ o (fun u => u = fmu σ 25 a 0 (fmCp 56 (σ 25 b 0) (σ 25 a 0))) (fun _ _ => False) := by
  refine fmXv_of (cc := cX5_copy) (maxL := 3) (ret := none) (by decide +kernel) rfl (Nat.le_of_ble_eq_true rfl) ?_
  intro P_ E_ S_ M_ args_ below_ meth_ C_ F hX hnt
  refine fmV_aload_n (pc := 0) (i := 1) F dX5_copy_0 rfl rfl ?_
  refine fmV_iconst (pc := 1) (v := 0) F dX5_copy_1 rfl ?_
  refine fmV_aload_n (pc := 2) (i := 2) F dX5_copy_2 rfl rfl ?_
  refine fmV_iconst (pc := 3) (v := 0) F dX5_copy_3 rfl ?_
  refine fmV_aload_n (pc := 4) (i := 1) F dX5_copy_4 rfl rfl ?_
  refine fmV_alen (pc := 5) (kd := 25) F (fm_mem (a := 2) (b := 1) (by decide +kernel) hb (by decide)) (fun τ => rfl) dX5_copy_5 rfl ?_
  refine fmV_copyi (pc := 6) F (fm_mem (a := 2) (b := 1) (by decide +kernel) (by assumption) (by decide)) (fun τ => rfl) (fm_mem (a := 2) (b := 1) (by decide +kernel) (by assumption) (by decide)) (fun τ => rfl) rfl dX5_copy_6 ⟨(List.mem_of_getElem? (i := 1) rfl), (List.mem_of_getElem? (i := 2) rfl), (List.mem_of_getElem? (i := 3) rfl), (List.mem_of_getElem? (i := 4) rfl)⟩ (by decide) (by decide) (by decide) (Nat.le_of_ble_eq_true rfl) (Nat.le_of_ble_eq_true rfl) ?_
  refine fmV_xr ?_
  exact fmV_vret (pc := 9) F dX5_copy_9 rfl rfl

set_option maxHeartbeats 4000000 in
set_option maxRecDepth 100000 in
theorem c_X5_copy_26 (l : Launch) (D : va_G) (A : Nat → Prop) (G : fmG) (σ : fmS) (o : Nat → Int64) {a b d : Nat} (ha : a < 2) (hb : b < 2) : fmXv l D A G yX5_copy wsX5_copy (fmRm 1 0 0) 0 0 [.ref (G.1 23 d 0), .ref (G.1 26 b 0), .ref (G.1 26 a 0)] σ o (fun u => u = fmu σ 26 a 0 (fmCp 14 (σ 26 b 0) (σ 26 a 0))) (fun _ _ => False) := by
  refine fmXv_of (cc := cX5_copy) (maxL := 3) (ret := none) (by decide +kernel) rfl (Nat.le_of_ble_eq_true rfl) ?_
  intro P_ E_ S_ M_ args_ below_ meth_ C_ F hX hnt
  refine fmV_aload_n (pc := 0) (i := 1) F dX5_copy_0 rfl rfl ?_
  refine fmV_iconst (pc := 1) (v := 0) F dX5_copy_1 rfl ?_
  refine fmV_aload_n (pc := 2) (i := 2) F dX5_copy_2 rfl rfl ?_
  refine fmV_iconst (pc := 3) (v := 0) F dX5_copy_3 rfl ?_
  refine fmV_aload_n (pc := 4) (i := 1) F dX5_copy_4 rfl rfl ?_
  refine fmV_alen (pc := 5) (kd := 26) F (fm_mem (a := 2) (b := 1) (by decide +kernel) hb (by decide)) (fun τ => rfl) dX5_copy_5 rfl ?_
  refine fmV_copyi (pc := 6) F (fm_mem (a := 2) (b := 1) (by decide +kernel) (by assumption) (by decide)) (fun τ => rfl) (fm_mem (a := 2) (b := 1) (by decide +kernel) (by assumption) (by decide)) (fun τ => rfl) rfl dX5_copy_6 ⟨(List.mem_of_getElem? (i := 1) rfl), (List.mem_of_getElem? (i := 2) rfl), (List.mem_of_getElem? (i := 3) rfl), (List.mem_of_getElem? (i := 4) rfl)⟩ (by decide) (by decide) (by decide) (Nat.le_of_ble_eq_true rfl) (Nat.le_of_ble_eq_true rfl) ?_
  refine fmV_xr ?_
  exact fmV_vret (pc := 9) F dX5_copy_9 rfl rfl

set_option maxHeartbeats 4000000 in
set_option maxRecDepth 100000 in
theorem c_X5_copy_27 (l : Launch) (D : va_G) (A : Nat → Prop) (G : fmG) (σ : fmS) (o : Nat → Int64) {a b d : Nat} (ha : a < 2) (hb : b < 2) : fmXv l D A G yX5_copy wsX5_copy (fmRm 1 0 0) 0 0 [.ref (G.1 23 d 0), .ref (G.1 27 b 0), .ref (G.1 27 a 0)] σ o (fun u => u = fmu σ 27 a 0 (fmCp 14 (σ 27 b 0) (σ 27 a 0))) (fun _ _ => False) := by
  refine fmXv_of (cc := cX5_copy) (maxL := 3) (ret := none) (by decide +kernel) rfl (Nat.le_of_ble_eq_true rfl) ?_
  intro P_ E_ S_ M_ args_ below_ meth_ C_ F hX hnt
  refine fmV_aload_n (pc := 0) (i := 1) F dX5_copy_0 rfl rfl ?_
  refine fmV_iconst (pc := 1) (v := 0) F dX5_copy_1 rfl ?_
  refine fmV_aload_n (pc := 2) (i := 2) F dX5_copy_2 rfl rfl ?_
  refine fmV_iconst (pc := 3) (v := 0) F dX5_copy_3 rfl ?_
  refine fmV_aload_n (pc := 4) (i := 1) F dX5_copy_4 rfl rfl ?_
  refine fmV_alen (pc := 5) (kd := 27) F (fm_mem (a := 2) (b := 1) (by decide +kernel) hb (by decide)) (fun τ => rfl) dX5_copy_5 rfl ?_
  refine fmV_copyi (pc := 6) F (fm_mem (a := 2) (b := 1) (by decide +kernel) (by assumption) (by decide)) (fun τ => rfl) (fm_mem (a := 2) (b := 1) (by decide +kernel) (by assumption) (by decide)) (fun τ => rfl) rfl dX5_copy_6 ⟨(List.mem_of_getElem? (i := 1) rfl), (List.mem_of_getElem? (i := 2) rfl), (List.mem_of_getElem? (i := 3) rfl), (List.mem_of_getElem? (i := 4) rfl)⟩ (by decide) (by decide) (by decide) (Nat.le_of_ble_eq_true rfl) (Nat.le_of_ble_eq_true rfl) ?_
  refine fmV_xr ?_
  exact fmV_vret (pc := 9) F dX5_copy_9 rfl rfl

set_option maxHeartbeats 4000000 in
set_option maxRecDepth 100000 in
theorem c_X5_copy_28 (l : Launch) (D : va_G) (A : Nat → Prop) (G : fmG) (σ : fmS) (o : Nat → Int64) {a b d : Nat} (ha : a < 2) (hb : b < 2) : fmXv l D A G yX5_copy wsX5_copy (fmRm 1 0 0) 0 0 [.ref (G.1 23 d 0), .ref (G.1 28 b 0), .ref (G.1 28 a 0)] σ o (fun u => u = fmu σ 28 a 0 (fmCp 14 (σ 28 b 0) (σ 28 a 0))) (fun _ _ => False) := by
  refine fmXv_of (cc := cX5_copy) (maxL := 3) (ret := none) (by decide +kernel) rfl (Nat.le_of_ble_eq_true rfl) ?_
  intro P_ E_ S_ M_ args_ below_ meth_ C_ F hX hnt
  refine fmV_aload_n (pc := 0) (i := 1) F dX5_copy_0 rfl rfl ?_
  refine fmV_iconst (pc := 1) (v := 0) F dX5_copy_1 rfl ?_
  refine fmV_aload_n (pc := 2) (i := 2) F dX5_copy_2 rfl rfl ?_
  refine fmV_iconst (pc := 3) (v := 0) F dX5_copy_3 rfl ?_
  refine fmV_aload_n (pc := 4) (i := 1) F dX5_copy_4 rfl rfl ?_
  refine fmV_alen (pc := 5) (kd := 28) F (fm_mem (a := 2) (b := 1) (by decide +kernel) hb (by decide)) (fun τ => rfl) dX5_copy_5 rfl ?_
  refine fmV_copyi (pc := 6) F (fm_mem (a := 2) (b := 1) (by decide +kernel) (by assumption) (by decide)) (fun τ => rfl) (fm_mem (a := 2) (b := 1) (by decide +kernel) (by assumption) (by decide)) (fun τ => rfl) rfl dX5_copy_6 ⟨(List.mem_of_getElem? (i := 1) rfl), (List.mem_of_getElem? (i := 2) rfl), (List.mem_of_getElem? (i := 3) rfl), (List.mem_of_getElem? (i := 4) rfl)⟩ (by decide) (by decide) (by decide) (Nat.le_of_ble_eq_true rfl) (Nat.le_of_ble_eq_true rfl) ?_
  refine fmV_xr ?_
  exact fmV_vret (pc := 9) F dX5_copy_9 rfl rfl

set_option maxHeartbeats 4000000 in
set_option maxRecDepth 100000 in
theorem c_X5_copy_29 (l : Launch) (D : va_G) (A : Nat → Prop) (G : fmG) (σ : fmS) (o : Nat → Int64) {a b d : Nat} (ha : a < 2) (hb : b < 2) : fmXv l D A G yX5_copy wsX5_copy (fmRm 1 0 0) 0 0 [.ref (G.1 23 d 0), .ref (G.1 29 b 0), .ref (G.1 29 a 0)] σ o (fun u => u = fmu σ 29 a 0 (fmCp 14 (σ 29 b 0) (σ 29 a 0))) (fun _ _ => False) := by
  refine fmXv_of (cc := cX5_copy) (maxL := 3) (ret := none) (by decide +kernel) rfl (Nat.le_of_ble_eq_true rfl) ?_
  intro P_ E_ S_ M_ args_ below_ meth_ C_ F hX hnt
  refine fmV_aload_n (pc := 0) (i := 1) F dX5_copy_0 rfl rfl ?_
  refine fmV_iconst (pc := 1) (v := 0) F dX5_copy_1 rfl ?_
  refine fmV_aload_n (pc := 2) (i := 2) F dX5_copy_2 rfl rfl ?_
  refine fmV_iconst (pc := 3) (v := 0) F dX5_copy_3 rfl ?_
  refine fmV_aload_n (pc := 4) (i := 1) F dX5_copy_4 rfl rfl ?_
  refine fmV_alen (pc := 5) (kd := 29) F (fm_mem (a := 2) (b := 1) (by decide +kernel) hb (by decide)) (fun τ => rfl) dX5_copy_5 rfl ?_
  refine fmV_copyi (pc := 6) F (fm_mem (a := 2) (b := 1) (by decide +kernel) (by assumption) (by decide)) (fun τ => rfl) (fm_mem (a := 2) (b := 1) (by decide +kernel) (by assumption) (by decide)) (fun τ => rfl) rfl dX5_copy_6 ⟨(List.mem_of_getElem? (i := 1) rfl), (List.mem_of_getElem? (i := 2) rfl), (List.mem_of_getElem? (i := 3) rfl), (List.mem_of_getElem? (i := 4) rfl)⟩ (by decide) (by decide) (by decide) (Nat.le_of_ble_eq_true rfl) (Nat.le_of_ble_eq_true rfl) ?_
  refine fmV_xr ?_
  exact fmV_vret (pc := 9) F dX5_copy_9 rfl rfl

set_option maxHeartbeats 4000000 in
set_option maxRecDepth 100000 in
theorem c_X5_copy_30 (l : Launch) (D : va_G) (A : Nat → Prop) (G : fmG) (σ : fmS) (o : Nat → Int64) {a b d : Nat} (ha : a < 2) (hb : b < 2) : fmXv l D A G yX5_copy wsX5_copy (fmRm 1 0 0) 0 0 [.ref (G.1 23 d 0), .ref (G.1 30 b 0), .ref (G.1 30 a 0)] σ o (fun u => u = fmu σ 30 a 0 (fmCp 14 (σ 30 b 0) (σ 30 a 0))) (fun _ _ => False) := by
  refine fmXv_of (cc := cX5_copy) (maxL := 3) (ret := none) (by decide +kernel) rfl (Nat.le_of_ble_eq_true rfl) ?_
  intro P_ E_ S_ M_ args_ below_ meth_ C_ F hX hnt
  refine fmV_aload_n (pc := 0) (i := 1) F dX5_copy_0 rfl rfl ?_
  refine fmV_iconst (pc := 1) (v := 0) F dX5_copy_1 rfl ?_
  refine fmV_aload_n (pc := 2) (i := 2) F dX5_copy_2 rfl rfl ?_
  refine fmV_iconst (pc := 3) (v := 0) F dX5_copy_3 rfl ?_
  refine fmV_aload_n (pc := 4) (i := 1) F dX5_copy_4 rfl rfl ?_
  refine fmV_alen (pc := 5) (kd := 30) F (fm_mem (a := 2) (b := 1) (by decide +kernel) hb (by decide)) (fun τ => rfl) dX5_copy_5 rfl ?_
  refine fmV_copyi (pc := 6) F (fm_mem (a := 2) (b := 1) (by decide +kernel) (by assumption) (by decide)) (fun τ => rfl) (fm_mem (a := 2) (b := 1) (by decide +kernel) (by assumption) (by decide)) (fun τ => rfl) rfl dX5_copy_6 ⟨(List.mem_of_getElem? (i := 1) rfl), (List.mem_of_getElem? (i := 2) rfl), (List.mem_of_getElem? (i := 3) rfl), (List.mem_of_getElem? (i := 4) rfl)⟩ (by decide) (by decide) (by decide) (Nat.le_of_ble_eq_true rfl) (Nat.le_of_ble_eq_true rfl) ?_
  refine fmV_xr ?_
  exact fmV_vret (pc := 9) F dX5_copy_9 rfl rfl

set_option maxHeartbeats 4000000 in
set_option maxRecDepth 100000 in
theorem c_X5_copy_31 (l : Launch) (D : va_G) (A : Nat → Prop) (G : fmG) (σ : fmS) (o : Nat → Int64) {a b d : Nat} (ha : a < 2) (hb : b < 2) : fmXv l D A G yX5_copy wsX5_copy (fmRm 1 0 0) 0 0 [.ref (G.1 23 d 0), .ref (G.1 31 b 0), .ref (G.1 31 a 0)] σ o (fun u => u = fmu σ 31 a 0 (fmCp 14 (σ 31 b 0) (σ 31 a 0))) (fun _ _ => False) := by
  refine fmXv_of (cc := cX5_copy) (maxL := 3) (ret := none) (by decide +kernel) rfl (Nat.le_of_ble_eq_true rfl) ?_
  intro P_ E_ S_ M_ args_ below_ meth_ C_ F hX hnt
  refine fmV_aload_n (pc := 0) (i := 1) F dX5_copy_0 rfl rfl ?_
  refine fmV_iconst (pc := 1) (v := 0) F dX5_copy_1 rfl ?_
  refine fmV_aload_n (pc := 2) (i := 2) F dX5_copy_2 rfl rfl ?_
  refine fmV_iconst (pc := 3) (v := 0) F dX5_copy_3 rfl ?_
  refine fmV_aload_n (pc := 4) (i := 1) F dX5_copy_4 rfl rfl ?_
  refine fmV_alen (pc := 5) (kd := 31) F (fm_mem (a := 2) (b := 1) (by decide +kernel) hb (by decide)) (fun τ => rfl) dX5_copy_5 rfl ?_
  refine fmV_copyi (pc := 6) F (fm_mem (a := 2) (b := 1) (by decide +kernel) (by assumption) (by decide)) (fun τ => rfl) (fm_mem (a := 2) (b := 1) (by decide +kernel) (by assumption) (by decide)) (fun τ => rfl) rfl dX5_copy_6 ⟨(List.mem_of_getElem? (i := 1) rfl), (List.mem_of_getElem? (i := 2) rfl), (List.mem_of_getElem? (i := 3) rfl), (List.mem_of_getElem? (i := 4) rfl)⟩ (by decide) (by decide) (by decide) (Nat.le_of_ble_eq_true rfl) (Nat.le_of_ble_eq_true rfl) ?_
  refine fmV_xr ?_
  exact fmV_vret (pc := 9) F dX5_copy_9 rfl rfl

set_option maxHeartbeats 4000000 in
set_option maxRecDepth 100000 in
theorem c_X5_copy_32 (l : Launch) (D : va_G) (A : Nat → Prop) (G : fmG) (σ : fmS) (o : Nat → Int64) {a b d : Nat} (ha : a < 2) (hb : b < 2) : fmXv l D A G yX5_copy wsX5_copy (fmRm 1 0 0) 0 0 [.ref (G.1 23 d 0), .ref (G.1 32 b 0), .ref (G.1 32 a 0)] σ o (fun u => u = fmu σ 32 a 0 (fmCp 14 (σ 32 b 0) (σ 32 a 0))) (fun _ _ => False) := by
  refine fmXv_of (cc := cX5_copy) (maxL := 3) (ret := none) (by decide +kernel) rfl (Nat.le_of_ble_eq_true rfl) ?_
  intro P_ E_ S_ M_ args_ below_ meth_ C_ F hX hnt
  refine fmV_aload_n (pc := 0) (i := 1) F dX5_copy_0 rfl rfl ?_
  refine fmV_iconst (pc := 1) (v := 0) F dX5_copy_1 rfl ?_
  refine fmV_aload_n (pc := 2) (i := 2) F dX5_copy_2 rfl rfl ?_
  refine fmV_iconst (pc := 3) (v := 0) F dX5_copy_3 rfl ?_
  refine fmV_aload_n (pc := 4) (i := 1) F dX5_copy_4 rfl rfl ?_
  refine fmV_alen (pc := 5) (kd := 32) F (fm_mem (a := 2) (b := 1) (by decide +kernel) hb (by decide)) (fun τ => rfl) dX5_copy_5 rfl ?_
  refine fmV_copyi (pc := 6) F (fm_mem (a := 2) (b := 1) (by decide +kernel) (by assumption) (by decide)) (fun τ => rfl) (fm_mem (a := 2) (b := 1) (by decide +kernel) (by assumption) (by decide)) (fun τ => rfl) rfl dX5_copy_6 ⟨(List.mem_of_getElem? (i := 1) rfl), (List.mem_of_getElem? (i := 2) rfl), (List.mem_of_getElem? (i := 3) rfl), (List.mem_of_getElem? (i := 4) rfl)⟩ (by decide) (by decide) (by decide) (Nat.le_of_ble_eq_true rfl) (Nat.le_of_ble_eq_true rfl) ?_
  refine fmV_xr ?_
  exact fmV_vret (pc := 9) F dX5_copy_9 rfl rfl

set_option maxHeartbeats 4000000 in
set_option maxRecDepth 100000 in
theorem c_X5_copy_33 (l : Launch) (D : va_G) (A : Nat → Prop) (G : fmG) (σ : fmS) (o : Nat → Int64) {a b d : Nat} (ha : a < 2) (hb : b < 2) : fmXv l D A G yX5_copy wsX5_copy (fmRm 1 0 0) 0 0 [.ref (G.1 23 d 0), .ref (G.1 33 b 0), .ref (G.1 33 a 0)] σ o (fun u => u = fmu σ 33 a 0 (fmCp 14 (σ 33 b 0) (σ 33 a 0))) (fun _ _ => False) := by
  refine fmXv_of (cc := cX5_copy) (maxL := 3) (ret := none) (by decide +kernel) rfl (Nat.le_of_ble_eq_true rfl) ?_
  intro P_ E_ S_ M_ args_ below_ meth_ C_ F hX hnt
  refine fmV_aload_n (pc := 0) (i := 1) F dX5_copy_0 rfl rfl ?_
  refine fmV_iconst (pc := 1) (v := 0) F dX5_copy_1 rfl ?_
  refine fmV_aload_n (pc := 2) (i := 2) F dX5_copy_2 rfl rfl ?_
  refine fmV_iconst (pc := 3) (v := 0) F dX5_copy_3 rfl ?_
  refine fmV_aload_n (pc := 4) (i := 1) F dX5_copy_4 rfl rfl ?_
  refine fmV_alen (pc := 5) (kd := 33) F (fm_mem (a := 2) (b := 1) (by decide +kernel) hb (by decide)) (fun τ => rfl) dX5_copy_5 rfl ?_
  refine fmV_copyi (pc := 6) F (fm_mem (a := 2) (b := 1) (by decide +kernel) (by assumption) (by decide)) (fun τ => rfl) (fm_mem (a := 2) (b := 1) (by decide +kernel) (by assumption) (by decide)) (fun τ => rfl) rfl dX5_copy_6 ⟨(List.mem_of_getElem? (i := 1) rfl), (List.mem_of_getElem? (i := 2) rfl), (List.mem_of_getElem? (i := 3) rfl), (List.mem_of_getElem? (i := 4) rfl)⟩ (by decide) (by decide) (by decide) (Nat.le_of_ble_eq_true rfl) (Nat.le_of_ble_eq_true rfl) ?_
  refine fmV_xr ?_
  exact fmV_vret (pc := 9) F dX5_copy_9 rfl rfl
