set_option maxHeartbeats 4000000 in
set_option maxRecDepth 100000 in
theorem c_X6_canoe (l : Launch) (D : va_G) (A : Nat → Prop) (G : fmG) (σ : fmS) (o : Nat → Int64) {rc cc t : Nat} (hcc : cc ≤ 14) (h63 : σ 63 0 0 0 = nI cc) (hrc : rc ≤ 4) (h62 : σ 62 0 0 0 = nI rc) (ht : t + 200 < 2 ^ 30) (h64 : σ 64 0 0 0 = nI t) (hG : G.1 36 0 0 = 0) (x y : Int32) : fmXi l D A G yX6_canoe wsX6_canoe (fmRm 4 1 11) 1 11 [.ref (G.1 14 0 0), .int x, .int y] σ o (fun r u => gRes (gz σ) (r = gFig (gz σ) x.toNatClampNeg y.toNatClampNeg ∧ u = (gz σ)) r u [(1, (x < 0 ∨ nI cc ≤ x) ∨ (y < 0 ∨ 10 < y))]) (fun _ _ => False) := by
  refine fmXi_of (cc := cX6_canoe) (maxL := 3) (ret := (some .int)) (by decide +kernel) rfl (Nat.le_of_ble_eq_true rfl) ?_
  intro P_ E_ S_ M_ args_ below_ meth_ C_ F hX hnt
  have hin_X6 : ∀ w ∈ wsX60, w ∈ wsX6_canoe := (fun _ h => List.mem_cons_of_mem _ (List.mem_append_left _ (List.mem_append_right _ h)))
  have hin_X5 : ∀ w ∈ wsX50, w ∈ wsX6_canoe := (fun _ h => List.mem_cons_of_mem _ (List.mem_append_right _ h))
  have hb0 : (0 : Nat) < 2 := by decide
  have hb1 : (1 : Nat) < 2 := by decide
  refine fmV_aload_n (pc := 0) (i := 0) F dX6_canoe_0 rfl rfl ?_
  refine fmV_iconst (pc := 1) (v := 0) F dX6_canoe_1 rfl ?_
  refine fmp_14_thrown (pc := 2) F  hin_X6 dX6_canoe_2 (List.mem_of_getElem? (i := 1) rfl) ?_
  have g63 : gz σ 63 0 0 0 = nI cc := by rw [gz_c (by decide)]; exact h63
  have g62 : gz σ 62 0 0 0 = nI rc := by rw [gz_c (by decide)]; exact h62
  have g64 : gz σ 64 0 0 0 = nI t := by rw [gz_c (by decide)]; exact h64
  refine fmV_sg (σ1 := gz σ) rfl ?_
  generalize gz σ = τ at g62 g63 g64 ⊢
  refine fmV_aload_n (pc := 5) (i := 0) F dX6_canoe_5 rfl rfl ?_
  refine fmV_iload_n (pc := 6) (i := 1) F dX6_canoe_6 rfl rfl ?_
  refine fmV_xVi (n := 1) (pc := 7) F hX (c_X6_isCanoe l D A G τ o hcc g63 x) gX6_canoe_X6_isCanoe rfl rfl rfl (by decide +kernel) ⟨Nat.le_of_ble_eq_true rfl, Nat.le_of_ble_eq_true rfl⟩ (fmR_14 F ) rfl rfl (Nat.le_of_ble_eq_true rfl) dX6_canoe_7 ⟨Nat.le_of_ble_eq_true rfl, Nat.le_of_ble_eq_true rfl⟩ (fun _ _ h9 => False.elim h9) (fun r2 u1 hc3 => ?_)
  obtain ⟨hr9, hu9⟩ := hc3
  have hr9 := hr9.symm
  have hu9 := hu9.symm
  subst hr9
  subst hu9
  refine fmV_if_eq (pc := 10) (tgt := 32) F dX6_canoe_10 (by decide) (fun a1 => ?_) (fun a1 => ?_)
  · refine fmV_aload_n (pc := 32) (i := 0) F dX6_canoe_32 rfl rfl ?_
    refine fmV_iconst (pc := 33) (v := 1) F dX6_canoe_33 rfl ?_
    refine fmV_xVi (n := 1) (pc := 34) F hX (c_X6_no l D A G τ o 1) gX6_canoe_X6_no rfl rfl rfl (by decide +kernel) ⟨Nat.le_of_ble_eq_true rfl, Nat.le_of_ble_eq_true rfl⟩ (fmR_14 F ) rfl rfl (Nat.le_of_ble_eq_true rfl) dX6_canoe_34 ⟨Nat.le_of_ble_eq_true rfl, Nat.le_of_ble_eq_true rfl⟩ (fun _ _ h9 => False.elim h9) (fun r5 u4 hc6 => ?_)
    obtain ⟨hr9, hu9⟩ := hc6
    have hr9 := hr9.symm
    have hu9 := hu9.symm
    subst hr9
    subst hu9
    refine fmV_widen (k := 1) (n := 11) (Nat.le_of_ble_eq_true rfl) (Nat.le_of_ble_eq_true rfl) ?_
    refine fmV_xr ?_
    exact fmV_iret (pc := 37) F dX6_canoe_37 rfl (Or.inl ⟨Or.inl (fm_q0 a1), rfl, rfl⟩)
  · refine fmV_iload_n (pc := 13) (i := 2) F dX6_canoe_13 rfl rfl ?_
    refine fmV_iconst (pc := 14) (v := 0) F dX6_canoe_14 rfl ?_
    refine fmV_bipush (pc := 15) (v := 10) F dX6_canoe_15 (by decide) ?_
    refine fmV_xSi (n := 3) (pc := 17) F hX (c_X6_isIn l D A G τ o y 0 10) gX6_canoe_X6_isIn rfl rfl rfl (by decide +kernel) ⟨Nat.le_of_ble_eq_true rfl, Nat.le_of_ble_eq_true rfl⟩ rfl rfl (Nat.le_of_ble_eq_true rfl) dX6_canoe_17 ⟨Nat.le_of_ble_eq_true rfl, Nat.le_of_ble_eq_true rfl⟩ (fun _ _ h9 => False.elim h9) (fun r8 u7 hc9 => ?_)
    obtain ⟨hr9, hu9⟩ := hc9
    have hr9 := hr9.symm
    have hu9 := hu9.symm
    subst hr9
    subst hu9
    refine fmV_if_eq (pc := 20) (tgt := 32) F dX6_canoe_20 (by decide) (fun a2 => ?_) (fun a2 => ?_)
    · refine fmV_aload_n (pc := 32) (i := 0) F dX6_canoe_32 rfl rfl ?_
      refine fmV_iconst (pc := 33) (v := 1) F dX6_canoe_33 rfl ?_
      refine fmV_xVi (n := 1) (pc := 34) F hX (c_X6_no l D A G τ o 1) gX6_canoe_X6_no rfl rfl rfl (by decide +kernel) ⟨Nat.le_of_ble_eq_true rfl, Nat.le_of_ble_eq_true rfl⟩ (fmR_14 F ) rfl rfl (Nat.le_of_ble_eq_true rfl) dX6_canoe_34 ⟨Nat.le_of_ble_eq_true rfl, Nat.le_of_ble_eq_true rfl⟩ (fun _ _ h9 => False.elim h9) (fun r11 u10 hc12 => ?_)
      obtain ⟨hr9, hu9⟩ := hc12
      have hr9 := hr9.symm
      have hu9 := hu9.symm
      subst hr9
      subst hu9
      refine fmV_widen (k := 1) (n := 11) (Nat.le_of_ble_eq_true rfl) (Nat.le_of_ble_eq_true rfl) ?_
      refine fmV_xr ?_
      exact fmV_iret (pc := 37) F dX6_canoe_37 rfl (Or.inl ⟨Or.inr (fm_q0 a2), rfl, rfl⟩)
    · obtain ⟨hx1, hx2⟩ := fm_ixc (x := x) (n := cc) (fm_q1 a1) (by omega)
      have hx14 : x.toNatClampNeg < 14 := by omega
      obtain ⟨hy0, hy1, hy2⟩ := fm_rgc (x := y) (lo := 0) (hi := 10) (fm_q1 a2) (by decide) (by decide)
      refine fmV_aload_n (pc := 23) (i := 0) F dX6_canoe_23 rfl rfl ?_
      refine fmV_iload_n (pc := 24) (i := 1) F dX6_canoe_24 rfl rfl ?_
      refine fmV_iload_n (pc := 25) (i := 2) F dX6_canoe_25 rfl rfl ?_
      have q26 := c_X6_canoeTold l D A G τ o hG hx14 (w := y.toNatClampNeg) (by omega)
      rw [← hx2, ← hy2] at q26
      refine fmV_xVi (n := 2) (pc := 26) F hX q26 gX6_canoe_X6_canoeTold rfl rfl rfl (by decide +kernel) ⟨Nat.le_of_ble_eq_true rfl, Nat.le_of_ble_eq_true rfl⟩ (fmR_14 F ) rfl rfl (Nat.le_of_ble_eq_true rfl) dX6_canoe_26 ⟨Nat.le_of_ble_eq_true rfl, Nat.le_of_ble_eq_true rfl⟩ (fun _ _ h9 => False.elim h9) (fun r14 u13 hc15 => ?_)
      obtain ⟨hr9, hu9⟩ := hc15
      have hr9 := hr9.symm
      have hu9 := hu9.symm
      subst hr9
      subst hu9
      refine fmV_goto (pc := 29) (tgt := 37) F dX6_canoe_29 (by decide) ?_
      refine fmV_widen (k := 1) (n := 11) (Nat.le_of_ble_eq_true rfl) (Nat.le_of_ble_eq_true rfl) ?_
      refine fmV_xr ?_
      exact fmV_iret (pc := 37) F dX6_canoe_37 rfl (Or.inr ⟨(fun q => q.elim (fm_q1 a1) (fm_q1 a2)), ⟨rfl, rfl⟩⟩)

set_option maxHeartbeats 4000000 in
set_option maxRecDepth 100000 in
theorem c_X6_count (l : Launch) (D : va_G) (A : Nat → Prop) (G : fmG) (σ : fmS) (o : Nat → Int64) {rc cc t : Nat} (hcc : cc ≤ 14) (h63 : σ 63 0 0 0 = nI cc) (hrc : rc ≤ 4) (h62 : σ 62 0 0 0 = nI rc) (ht : t + 200 < 2 ^ 30) (h64 : σ 64 0 0 0 = nI t) (hG : G.1 36 0 0 = 0) (x : Int32) : fmXi l D A G yX6_count wsX6_count (fmRm 4 1 12) 1 12 [.ref (G.1 14 0 0), .int x] σ o (fun r u => gRes (gz σ) (r = gCnt (gz σ) cc t x.toNatClampNeg ∧ u = (gz σ)) r u [(1, x < 0 ∨ 11 < x)]) (fun _ _ => False) := by
  refine fmXi_of (cc := cX6_count) (maxL := 2) (ret := (some .int)) (by decide +kernel) rfl (Nat.le_of_ble_eq_true rfl) ?_
  intro P_ E_ S_ M_ args_ below_ meth_ C_ F hX hnt
  have hin_X6 : ∀ w ∈ wsX60, w ∈ wsX6_count := (fun _ h => List.mem_cons_of_mem _ (List.mem_append_left _ (List.mem_append_right _ h)))
  have hin_X5 : ∀ w ∈ wsX50, w ∈ wsX6_count := (fun _ h => List.mem_cons_of_mem _ (List.mem_append_right _ h))
  have hb0 : (0 : Nat) < 2 := by decide
  have hb1 : (1 : Nat) < 2 := by decide
  refine fmV_aload_n (pc := 0) (i := 0) F dX6_count_0 rfl rfl ?_
  refine fmV_iconst (pc := 1) (v := 0) F dX6_count_1 rfl ?_
  refine fmp_14_thrown (pc := 2) F  hin_X6 dX6_count_2 (List.mem_of_getElem? (i := 1) rfl) ?_
  have g63 : gz σ 63 0 0 0 = nI cc := by rw [gz_c (by decide)]; exact h63
  have g62 : gz σ 62 0 0 0 = nI rc := by rw [gz_c (by decide)]; exact h62
  have g64 : gz σ 64 0 0 0 = nI t := by rw [gz_c (by decide)]; exact h64
  refine fmV_sg (σ1 := gz σ) rfl ?_
  generalize gz σ = τ at g62 g63 g64 ⊢
  refine fmV_iload_n (pc := 5) (i := 1) F dX6_count_5 rfl rfl ?_
  refine fmV_iconst (pc := 6) (v := 0) F dX6_count_6 rfl ?_
  refine fmV_bipush (pc := 7) (v := 11) F dX6_count_7 (by decide) ?_
  refine fmV_xSi (n := 3) (pc := 9) F hX (c_X6_isIn l D A G τ o x 0 11) gX6_count_X6_isIn rfl rfl rfl (by decide +kernel) ⟨Nat.le_of_ble_eq_true rfl, Nat.le_of_ble_eq_true rfl⟩ rfl rfl (Nat.le_of_ble_eq_true rfl) dX6_count_9 ⟨Nat.le_of_ble_eq_true rfl, Nat.le_of_ble_eq_true rfl⟩ (fun _ _ h9 => False.elim h9) (fun r2 u1 hc3 => ?_)
  obtain ⟨hr9, hu9⟩ := hc3
  have hr9 := hr9.symm
  have hu9 := hu9.symm
  subst hr9
  subst hu9
  refine fmV_if_eq (pc := 12) (tgt := 23) F dX6_count_12 (by decide) (fun a1 => ?_) (fun a1 => ?_)
  · refine fmV_aload_n (pc := 23) (i := 0) F dX6_count_23 rfl rfl ?_
    refine fmV_iconst (pc := 24) (v := 1) F dX6_count_24 rfl ?_
    refine fmV_xVi (n := 1) (pc := 25) F hX (c_X6_no l D A G τ o 1) gX6_count_X6_no rfl rfl rfl (by decide +kernel) ⟨Nat.le_of_ble_eq_true rfl, Nat.le_of_ble_eq_true rfl⟩ (fmR_14 F ) rfl rfl (Nat.le_of_ble_eq_true rfl) dX6_count_25 ⟨Nat.le_of_ble_eq_true rfl, Nat.le_of_ble_eq_true rfl⟩ (fun _ _ h9 => False.elim h9) (fun r5 u4 hc6 => ?_)
    obtain ⟨hr9, hu9⟩ := hc6
    have hr9 := hr9.symm
    have hu9 := hu9.symm
    subst hr9
    subst hu9
    refine fmV_widen (k := 1) (n := 12) (Nat.le_of_ble_eq_true rfl) (Nat.le_of_ble_eq_true rfl) ?_
    refine fmV_xr ?_
    exact fmV_iret (pc := 28) F dX6_count_28 rfl (Or.inl ⟨fm_q0 a1, rfl, rfl⟩)
  · obtain ⟨hx0, hx1, hx2⟩ := fm_rgc (x := x) (lo := 0) (hi := 11) (fm_q1 a1) (by decide) (by decide)
    refine fmV_aload_n (pc := 15) (i := 0) F dX6_count_15 rfl rfl ?_
    refine fmV_iload_n (pc := 16) (i := 1) F dX6_count_16 rfl rfl ?_
    have q17 := c_X6_counted l D A G τ o hG hcc g63 (show t < 2 ^ 30 by omega) g64 (w := x.toNatClampNeg) (by omega)
    rw [← hx2] at q17
    refine fmV_xVi (n := 1) (pc := 17) F hX q17 gX6_count_X6_counted rfl rfl rfl (by decide +kernel) ⟨Nat.le_of_ble_eq_true rfl, Nat.le_of_ble_eq_true rfl⟩ (fmR_14 F ) rfl rfl (Nat.le_of_ble_eq_true rfl) dX6_count_17 ⟨Nat.le_of_ble_eq_true rfl, Nat.le_of_ble_eq_true rfl⟩ (fun _ _ h9 => False.elim h9) (fun r8 u7 hc9 => ?_)
    obtain ⟨hr9, hu9⟩ := hc9
    have hr9 := hr9.symm
    have hu9 := hu9.symm
    subst hr9
    subst hu9
    refine fmV_goto (pc := 20) (tgt := 28) F dX6_count_20 (by decide) ?_
    refine fmV_widen (k := 1) (n := 12) (Nat.le_of_ble_eq_true rfl) (Nat.le_of_ble_eq_true rfl) ?_
    refine fmV_xr ?_
    exact fmV_iret (pc := 28) F dX6_count_28 rfl (Or.inr ⟨(fm_q1 a1), ⟨rfl, rfl⟩⟩)

set_option maxHeartbeats 4000000 in
set_option maxRecDepth 100000 in
theorem c_X6_foresee (l : Launch) (D : va_G) (A : Nat → Prop) (G : fmG) (σ : fmS) (o : Nat → Int64) {rc cc t : Nat} (hcc : cc ≤ 14) (h63 : σ 63 0 0 0 = nI cc) (hrc : rc ≤ 4) (h62 : σ 62 0 0 0 = nI rc) (ht : t + 200 < 2 ^ 30) (h64 : σ 64 0 0 0 = nI t) (x y z : Int32) : fmXi l D A G yX6_foresee wsX6_foresee (fmRm 6 0 0) 0 0 [.ref (G.1 14 0 0), .int x, .int y, .int z] σ o (fun r u => gRes (gz σ) (r = gForR (gPass 1 rc cc t (gBc (gz σ) 1 0) y.toNatClampNeg) x.toNatClampNeg z ∧ u = (gPass 1 rc cc t (gBc (gz σ) 1 0) y.toNatClampNeg)) r u [(1, (x < 0 ∨ nI cc ≤ x) ∨ (z < 0 ∨ 2 < z)), (2, y < 1 ∨ 150 < y)]) (fun _ _ => False) := by
  refine fmXi_of (cc := cX6_foresee) (maxL := 4) (ret := (some .int)) (by decide +kernel) rfl (Nat.le_of_ble_eq_true rfl) ?_
  intro P_ E_ S_ M_ args_ below_ meth_ C_ F hX hnt
  have hin_X6 : ∀ w ∈ wsX60, w ∈ wsX6_foresee := (fun _ h => List.mem_cons_of_mem _ (List.mem_append_left _ (List.mem_append_right _ h)))
  have hin_X5 : ∀ w ∈ wsX50, w ∈ wsX6_foresee := (fun _ h => List.mem_cons_of_mem _ (List.mem_append_right _ h))
  have hb0 : (0 : Nat) < 2 := by decide
  have hb1 : (1 : Nat) < 2 := by decide
  refine fmV_aload_n (pc := 0) (i := 0) F dX6_foresee_0 rfl rfl ?_
  refine fmV_iconst (pc := 1) (v := 0) F dX6_foresee_1 rfl ?_
  refine fmp_14_thrown (pc := 2) F  hin_X6 dX6_foresee_2 (List.mem_of_getElem? (i := 1) rfl) ?_
  have g63 : gz σ 63 0 0 0 = nI cc := by rw [gz_c (by decide)]; exact h63
  have g62 : gz σ 62 0 0 0 = nI rc := by rw [gz_c (by decide)]; exact h62
  have g64 : gz σ 64 0 0 0 = nI t := by rw [gz_c (by decide)]; exact h64
  refine fmV_sg (σ1 := gz σ) rfl ?_
  generalize gz σ = τ at g62 g63 g64 ⊢
  refine fmV_aload_n (pc := 5) (i := 0) F dX6_foresee_5 rfl rfl ?_
  refine fmV_iload_n (pc := 6) (i := 1) F dX6_foresee_6 rfl rfl ?_
  refine fmV_xVi (n := 1) (pc := 7) F hX (c_X6_isCanoe l D A G τ o hcc g63 x) gX6_foresee_X6_isCanoe rfl rfl rfl (by decide +kernel) ⟨Nat.le_of_ble_eq_true rfl, Nat.le_of_ble_eq_true rfl⟩ (fmR_14 F ) rfl rfl (Nat.le_of_ble_eq_true rfl) dX6_foresee_7 ⟨Nat.le_of_ble_eq_true rfl, Nat.le_of_ble_eq_true rfl⟩ (fun _ _ h9 => False.elim h9) (fun r2 u1 hc3 => ?_)
  obtain ⟨hr9, hu9⟩ := hc3
  have hr9 := hr9.symm
  have hu9 := hu9.symm
  subst hr9
  subst hu9
  refine fmV_if_eq (pc := 10) (tgt := 22) F dX6_foresee_10 (by decide) (fun a1 => ?_) (fun a1 => ?_)
  · refine fmV_aload_n (pc := 22) (i := 0) F dX6_foresee_22 rfl rfl ?_
    refine fmV_iconst (pc := 23) (v := 1) F dX6_foresee_23 rfl ?_
    refine fmV_xVi (n := 1) (pc := 24) F hX (c_X6_no l D A G τ o 1) gX6_foresee_X6_no rfl rfl rfl (by decide +kernel) ⟨Nat.le_of_ble_eq_true rfl, Nat.le_of_ble_eq_true rfl⟩ (fmR_14 F ) rfl rfl (Nat.le_of_ble_eq_true rfl) dX6_foresee_24 ⟨Nat.le_of_ble_eq_true rfl, Nat.le_of_ble_eq_true rfl⟩ (fun _ _ h9 => False.elim h9) (fun r5 u4 hc6 => ?_)
    obtain ⟨hr9, hu9⟩ := hc6
    have hr9 := hr9.symm
    have hu9 := hu9.symm
    subst hr9
    subst hu9
    refine fmV_xr ?_
    exact fmV_iret (pc := 27) F dX6_foresee_27 rfl (Or.inl ⟨Or.inl (fm_q0 a1), rfl, rfl⟩)
  · refine fmV_iload_n (pc := 13) (i := 3) F dX6_foresee_13 rfl rfl ?_
    refine fmV_iconst (pc := 14) (v := 0) F dX6_foresee_14 rfl ?_
    refine fmV_iconst (pc := 15) (v := 2) F dX6_foresee_15 rfl ?_
    refine fmV_xSi (n := 3) (pc := 16) F hX (c_X6_isIn l D A G τ o z 0 2) gX6_foresee_X6_isIn rfl rfl rfl (by decide +kernel) ⟨Nat.le_of_ble_eq_true rfl, Nat.le_of_ble_eq_true rfl⟩ rfl rfl (Nat.le_of_ble_eq_true rfl) dX6_foresee_16 ⟨Nat.le_of_ble_eq_true rfl, Nat.le_of_ble_eq_true rfl⟩ (fun _ _ h9 => False.elim h9) (fun r8 u7 hc9 => ?_)
    obtain ⟨hr9, hu9⟩ := hc9
    have hr9 := hr9.symm
    have hu9 := hu9.symm
    subst hr9
    subst hu9
    refine fmV_if_ne (pc := 19) (tgt := 28) F dX6_foresee_19 (by decide) (fun a2 => ?_) (fun a2 => ?_)
    · refine fmV_iload_n (pc := 28) (i := 2) F dX6_foresee_28 rfl rfl ?_
      refine fmV_iconst (pc := 29) (v := 1) F dX6_foresee_29 rfl ?_
      refine fmV_sipush (pc := 30) (v := 150) F dX6_foresee_30 (by decide) ?_
      refine fmV_xSi (n := 3) (pc := 33) F hX (c_X6_isIn l D A G τ o y 1 150) gX6_foresee_X6_isIn rfl rfl rfl (by decide +kernel) ⟨Nat.le_of_ble_eq_true rfl, Nat.le_of_ble_eq_true rfl⟩ rfl rfl (Nat.le_of_ble_eq_true rfl) dX6_foresee_33 ⟨Nat.le_of_ble_eq_true rfl, Nat.le_of_ble_eq_true rfl⟩ (fun _ _ h9 => False.elim h9) (fun r11 u10 hc12 => ?_)
      obtain ⟨hr9, hu9⟩ := hc12
      have hr9 := hr9.symm
      have hu9 := hu9.symm
      subst hr9
      subst hu9
      refine fmV_if_ne (pc := 36) (tgt := 45) F dX6_foresee_36 (by decide) (fun a3 => ?_) (fun a3 => ?_)
      · obtain ⟨hx1, hx2⟩ := fm_ixc (x := x) (n := cc) (fm_q1 a1) (by omega)
        have hx14 : x.toNatClampNeg < 14 := by omega
        obtain ⟨hy0, hy1, hy2⟩ := fm_rgc (x := y) (lo := 1) (hi := 150) (fm_q1 a3) (by decide) (by decide)
        have b63 : (gBc τ 1 0) 63 0 0 0 = nI cc := by rw [gBc_m (by decide)]; exact g63
        have b62 : (gBc τ 1 0) 62 0 0 0 = nI rc := by rw [gBc_m (by decide)]; exact g62
        have b64 : (gBc τ 1 0) 64 1 0 0 = nI t := by rw [gBc_64]; exact g64
        refine fmV_aload_n (pc := 45) (i := 0) F dX6_foresee_45 rfl rfl ?_
        refine fmg_14_ahead (pc := 46) F  hin_X6 dX6_foresee_46 (List.mem_of_getElem? (i := 2) rfl) ?_
        refine fmV_aload_n (pc := 49) (i := 0) F dX6_foresee_49 rfl rfl ?_
        refine fmg_14_s (pc := 50) F  hin_X6 dX6_foresee_50 (List.mem_of_getElem? (i := 3) rfl) ?_
        refine fmV_xVv (n := 1) (pc := 53) F hX (c_X5_become l D A G τ o hb1 hb0) gX6_foresee_X5_become rfl rfl rfl (by decide +kernel) ⟨Nat.le_of_ble_eq_true rfl, Nat.le_of_ble_eq_true rfl⟩ (fmR_23 F (by assumption)) rfl rfl (Nat.le_of_ble_eq_true rfl) dX6_foresee_53 ⟨Nat.le_of_ble_eq_true rfl, Nat.le_of_ble_eq_true rfl⟩ (fun _ _ h9 => False.elim h9) (fun u13 hc15 => ?_)
        have hc15 := hc15.symm
        subst hc15
        refine fmV_aload_n (pc := 56) (i := 0) F dX6_foresee_56 rfl rfl ?_
        refine fmV_aload_n (pc := 57) (i := 0) F dX6_foresee_57 rfl rfl ?_
        refine fmg_14_ahead (pc := 58) F  hin_X6 dX6_foresee_58 (List.mem_of_getElem? (i := 2) rfl) ?_
        refine fmV_iload_n (pc := 61) (i := 2) F dX6_foresee_61 rfl rfl ?_
        have q62 := c_X6_pass l D A G (gBc τ 1 0) o hb1 hcc b63 hrc b62 (t := t) (n := y.toNatClampNeg) (by omega) b64
        rw [← hy2] at q62
        refine fmV_xVi (n := 2) (pc := 62) F hX q62 gX6_foresee_X6_pass rfl rfl rfl (by decide +kernel) ⟨Nat.le_of_ble_eq_true rfl, Nat.le_of_ble_eq_true rfl⟩ (fmR_14 F ) rfl rfl (Nat.le_of_ble_eq_true rfl) dX6_foresee_62 ⟨Nat.le_of_ble_eq_true rfl, Nat.le_of_ble_eq_true rfl⟩ (fun _ _ h9 => False.elim h9) (fun r17 u16 hc18 => ?_)
        obtain ⟨hr9, hu9⟩ := hc18
        have hr9 := hr9.symm
        have hu9 := hu9.symm
        subst hr9
        subst hu9
        refine fmV_pop (pc := 65) F dX6_foresee_65 rfl ?_
        refine fmV_iload_n (pc := 66) (i := 3) F dX6_foresee_66 rfl rfl ?_
        refine fmV_if_ne (pc := 67) (tgt := 82) F dX6_foresee_67 (by decide) (fun b1 => ?_) (fun b1 => ?_)
        · refine fmV_iload_n (pc := 82) (i := 3) F dX6_foresee_82 rfl rfl ?_
          refine fmV_iconst (pc := 83) (v := 1) F dX6_foresee_83 rfl ?_
          refine fmV_icmp_ne (pc := 84) (tgt := 98) F dX6_foresee_84 (by decide) (fun b2 => ?_) (fun b2 => ?_)
          · refine fmV_aload_n (pc := 98) (i := 0) F dX6_foresee_98 rfl rfl ?_
            refine fmg_14_ahead (pc := 99) F  hin_X6 dX6_foresee_99 (List.mem_of_getElem? (i := 2) rfl) ?_
            refine fmgN_23_is (pc := 102) F hX (by assumption) hin_X5 dX6_foresee_102 (List.mem_of_getElem? (i := 11) rfl) ?_
            refine fmV_iload_n (pc := 105) (i := 1) F dX6_foresee_105 rfl rfl ?_
            refine fmal_26 (pc := 106) F (by assumption) dX6_foresee_106 (fm_in hx2 (show x.toNatClampNeg < _ by omega) (by decide)) rfl ?_
            refine fmV_iconst (pc := 107) (v := 1) F dX6_foresee_107 rfl ?_
            refine fmV_icmp_ne (pc := 108) (tgt := 123) F dX6_foresee_108 (by decide) (fun b3 => ?_) (fun b3 => ?_)
            · refine fmV_iconst (pc := 123) (v := (-1)) F dX6_foresee_123 rfl ?_
              refine fmV_xr ?_
              exact fmV_iret (pc := 124) F dX6_foresee_124 rfl (Or.inr ⟨(fun q => q.elim (fm_q1 a1) (fm_q1 a2)), (Or.inr ⟨(fm_q1 a3), ⟨by rw [gForR, if_neg b1, if_neg b2, if_neg b3], rfl⟩⟩)⟩)
            · refine fmV_aload_n (pc := 111) (i := 0) F dX6_foresee_111 rfl rfl ?_
              refine fmg_14_ahead (pc := 112) F  hin_X6 dX6_foresee_112 (List.mem_of_getElem? (i := 2) rfl) ?_
              refine fmgN_23_row (pc := 115) F hX (by assumption) hin_X5 dX6_foresee_115 (List.mem_of_getElem? (i := 12) rfl) ?_
              refine fmV_iload_n (pc := 118) (i := 1) F dX6_foresee_118 rfl rfl ?_
              refine fmal_27 (pc := 119) F (by assumption) dX6_foresee_119 (fm_in hx2 (show x.toNatClampNeg < _ by omega) (by decide)) rfl ?_
              refine fmV_goto (pc := 120) (tgt := 124) F dX6_foresee_120 (by decide) ?_
              refine fmV_xr ?_
              exact fmV_iret (pc := 124) F dX6_foresee_124 rfl (Or.inr ⟨(fun q => q.elim (fm_q1 a1) (fm_q1 a2)), (Or.inr ⟨(fm_q1 a3), ⟨by rw [gForR, if_neg b1, if_neg b2, if_pos b3], rfl⟩⟩)⟩)
          · refine fmV_aload_n (pc := 87) (i := 0) F dX6_foresee_87 rfl rfl ?_
            refine fmg_14_ahead (pc := 88) F  hin_X6 dX6_foresee_88 (List.mem_of_getElem? (i := 2) rfl) ?_
            refine fmV_iload_n (pc := 91) (i := 1) F dX6_foresee_91 rfl rfl ?_
            have q92 := c_X5_misses_ l D A G (gPass 1 rc cc t (gBc τ 1 0) y.toNatClampNeg) o hb1 hx14
            rw [← hx2] at q92
            refine fmV_xVi (n := 1) (pc := 92) F hX q92 gX6_foresee_X5_misses_ rfl rfl rfl (by decide +kernel) ⟨Nat.le_of_ble_eq_true rfl, Nat.le_of_ble_eq_true rfl⟩ (fmR_23 F (by assumption)) rfl rfl (Nat.le_of_ble_eq_true rfl) dX6_foresee_92 ⟨Nat.le_of_ble_eq_true rfl, Nat.le_of_ble_eq_true rfl⟩ (fun _ _ h9 => False.elim h9) (fun r20 u19 hc21 => ?_)
            obtain ⟨hr9, hu9⟩ := hc21
            have hr9 := hr9.symm
            have hu9 := hu9.symm
            subst hr9
            subst hu9
            refine fmV_goto (pc := 95) (tgt := 124) F dX6_foresee_95 (by decide) ?_
            refine fmV_xr ?_
            exact fmV_iret (pc := 124) F dX6_foresee_124 rfl (Or.inr ⟨(fun q => q.elim (fm_q1 a1) (fm_q1 a2)), (Or.inr ⟨(fm_q1 a3), ⟨by rw [gForR, if_neg b1, if_pos b2], rfl⟩⟩)⟩)
        · refine fmV_aload_n (pc := 70) (i := 0) F dX6_foresee_70 rfl rfl ?_
          refine fmg_14_ahead (pc := 71) F  hin_X6 dX6_foresee_71 (List.mem_of_getElem? (i := 2) rfl) ?_
          refine fmgN_23_coins (pc := 74) F hX (by assumption) hin_X5 dX6_foresee_74 (List.mem_of_getElem? (i := 9) rfl) ?_
          refine fmV_iload_n (pc := 77) (i := 1) F dX6_foresee_77 rfl rfl ?_
          refine fmal_24 (pc := 78) F (by assumption) dX6_foresee_78 (fm_in hx2 (show x.toNatClampNeg < _ by omega) (by decide)) rfl ?_
          refine fmV_goto (pc := 79) (tgt := 124) F dX6_foresee_79 (by decide) ?_
          refine fmV_xr ?_
          exact fmV_iret (pc := 124) F dX6_foresee_124 rfl (Or.inr ⟨(fun q => q.elim (fm_q1 a1) (fm_q1 a2)), (Or.inr ⟨(fm_q1 a3), ⟨by rw [gForR, if_pos b1], rfl⟩⟩)⟩)
      · refine fmV_aload_n (pc := 39) (i := 0) F dX6_foresee_39 rfl rfl ?_
        refine fmV_iconst (pc := 40) (v := 2) F dX6_foresee_40 rfl ?_
        refine fmV_xVi (n := 1) (pc := 41) F hX (c_X6_no l D A G τ o 2) gX6_foresee_X6_no rfl rfl rfl (by decide +kernel) ⟨Nat.le_of_ble_eq_true rfl, Nat.le_of_ble_eq_true rfl⟩ (fmR_14 F ) rfl rfl (Nat.le_of_ble_eq_true rfl) dX6_foresee_41 ⟨Nat.le_of_ble_eq_true rfl, Nat.le_of_ble_eq_true rfl⟩ (fun _ _ h9 => False.elim h9) (fun r23 u22 hc24 => ?_)
        obtain ⟨hr9, hu9⟩ := hc24
        have hr9 := hr9.symm
        have hu9 := hu9.symm
        subst hr9
        subst hu9
        refine fmV_xr ?_
        exact fmV_iret (pc := 44) F dX6_foresee_44 rfl (Or.inr ⟨(fun q => q.elim (fm_q1 a1) (fm_q1 a2)), (Or.inl ⟨fm_q0 a3, rfl, rfl⟩)⟩)
    · refine fmV_aload_n (pc := 22) (i := 0) F dX6_foresee_22 rfl rfl ?_
      refine fmV_iconst (pc := 23) (v := 1) F dX6_foresee_23 rfl ?_
      refine fmV_xVi (n := 1) (pc := 24) F hX (c_X6_no l D A G τ o 1) gX6_foresee_X6_no rfl rfl rfl (by decide +kernel) ⟨Nat.le_of_ble_eq_true rfl, Nat.le_of_ble_eq_true rfl⟩ (fmR_14 F ) rfl rfl (Nat.le_of_ble_eq_true rfl) dX6_foresee_24 ⟨Nat.le_of_ble_eq_true rfl, Nat.le_of_ble_eq_true rfl⟩ (fun _ _ h9 => False.elim h9) (fun r26 u25 hc27 => ?_)
      obtain ⟨hr9, hu9⟩ := hc27
      have hr9 := hr9.symm
      have hu9 := hu9.symm
      subst hr9
      subst hu9
      refine fmV_xr ?_
      exact fmV_iret (pc := 27) F dX6_foresee_27 rfl (Or.inl ⟨Or.inr (fm_q0 a2), rfl, rfl⟩)

set_option maxHeartbeats 4000000 in
set_option maxRecDepth 100000 in
theorem c_X6_full (l : Launch) (D : va_G) (A : Nat → Prop) (G : fmG) (σ : fmS) (o : Nat → Int64) {rc cc t : Nat} (hcc : cc ≤ 14) (h63 : σ 63 0 0 0 = nI cc) (hrc : rc ≤ 4) (h62 : σ 62 0 0 0 = nI rc) (ht : t + 200 < 2 ^ 30) (h64 : σ 64 0 0 0 = nI t) (x : Int32) : fmXi l D A G yX6_full wsX6_full (fmRm 6 0 0) 0 0 [.ref (G.1 14 0 0), .int x] σ o (fun r u => gRes (gz σ) ((∃ n, n ≤ 150 ∧ r = nI n ∧ gMsAll (gPass 1 rc cc t (gBc (gz σ) 1 0) n) 1 x.toNatClampNeg = 0 ∧ (∀ i, i < n → ¬ gMsAll (gPass 1 rc cc t (gBc (gz σ) 1 0) i) 1 x.toNatClampNeg = 0) ∧ u = (gPass 1 rc cc t (gBc (gz σ) 1 0) n)) ∨ (r = -1 ∧ (∀ i, i < 151 → ¬ gMsAll (gPass 1 rc cc t (gBc (gz σ) 1 0) i) 1 x.toNatClampNeg = 0) ∧ u = (gPass 1 rc cc t (gBc (gz σ) 1 0) 151))) r u [(1, x < 0 ∨ nI cc ≤ x)]) (fun _ _ => False) := by
  refine fmXi_of (cc := cX6_full) (maxL := 3) (ret := (some .int)) (by decide +kernel) rfl (Nat.le_of_ble_eq_true rfl) ?_
  intro P_ E_ S_ M_ args_ below_ meth_ C_ F hX hnt
  have hin_X6 : ∀ w ∈ wsX60, w ∈ wsX6_full := (fun _ h => List.mem_cons_of_mem _ (List.mem_append_left _ (List.mem_append_right _ h)))
  have hin_X5 : ∀ w ∈ wsX50, w ∈ wsX6_full := (fun _ h => List.mem_cons_of_mem _ (List.mem_append_right _ h))
  have hb0 : (0 : Nat) < 2 := by decide
  have hb1 : (1 : Nat) < 2 := by decide
  refine fmV_aload_n (pc := 0) (i := 0) F dX6_full_0 rfl rfl ?_
  refine fmV_iconst (pc := 1) (v := 0) F dX6_full_1 rfl ?_
  refine fmp_14_thrown (pc := 2) F  hin_X6 dX6_full_2 (List.mem_of_getElem? (i := 1) rfl) ?_
  have g63 : gz σ 63 0 0 0 = nI cc := by rw [gz_c (by decide)]; exact h63
  have g62 : gz σ 62 0 0 0 = nI rc := by rw [gz_c (by decide)]; exact h62
  have g64 : gz σ 64 0 0 0 = nI t := by rw [gz_c (by decide)]; exact h64
  refine fmV_sg (σ1 := gz σ) rfl ?_
  generalize gz σ = τ at g62 g63 g64 ⊢
  refine fmV_aload_n (pc := 5) (i := 0) F dX6_full_5 rfl rfl ?_
  refine fmV_iload_n (pc := 6) (i := 1) F dX6_full_6 rfl rfl ?_
  refine fmV_xVi (n := 1) (pc := 7) F hX (c_X6_isCanoe l D A G τ o hcc g63 x) gX6_full_X6_isCanoe rfl rfl rfl (by decide +kernel) ⟨Nat.le_of_ble_eq_true rfl, Nat.le_of_ble_eq_true rfl⟩ (fmR_14 F ) rfl rfl (Nat.le_of_ble_eq_true rfl) dX6_full_7 ⟨Nat.le_of_ble_eq_true rfl, Nat.le_of_ble_eq_true rfl⟩ (fun _ _ h9 => False.elim h9) (fun r2 u1 hc3 => ?_)
  obtain ⟨hr9, hu9⟩ := hc3
  have hr9 := hr9.symm
  have hu9 := hu9.symm
  subst hr9
  subst hu9
  refine fmV_if_ne (pc := 10) (tgt := 19) F dX6_full_10 (by decide) (fun a1 => ?_) (fun a1 => ?_)
  · obtain ⟨hx1, hx2⟩ := fm_ixc (x := x) (n := cc) (fm_q1 a1) (by omega)
    have hx14 : x.toNatClampNeg < 14 := by omega
    have b63 : (gBc τ 1 0) 63 0 0 0 = nI cc := by rw [gBc_m (by decide)]; exact g63
    have b62 : (gBc τ 1 0) 62 0 0 0 = nI rc := by rw [gBc_m (by decide)]; exact g62
    have b64 : (gBc τ 1 0) 64 1 0 0 = nI t := by rw [gBc_64]; exact g64
    have k62 : ∀ j, (gPass 1 rc cc t (gBc τ 1 0) j) 62 0 0 0 = nI rc := fun j => by rw [gPass_c (by decide)]; exact b62
    have k63 : ∀ j, (gPass 1 rc cc t (gBc τ 1 0) j) 63 0 0 0 = nI cc := fun j => by rw [gPass_c (by decide)]; exact b63
    have k64 : ∀ j, (gPass 1 rc cc t (gBc τ 1 0) j) 64 1 0 0 = nI (t + j) := fun j => gPass_64 b64 j
    refine fmV_aload_n (pc := 19) (i := 0) F dX6_full_19 rfl rfl ?_
    refine fmg_14_ahead (pc := 20) F  hin_X6 dX6_full_20 (List.mem_of_getElem? (i := 2) rfl) ?_
    refine fmV_aload_n (pc := 23) (i := 0) F dX6_full_23 rfl rfl ?_
    refine fmg_14_s (pc := 24) F  hin_X6 dX6_full_24 (List.mem_of_getElem? (i := 3) rfl) ?_
    refine fmV_xVv (n := 1) (pc := 27) F hX (c_X5_become l D A G τ o hb1 hb0) gX6_full_X5_become rfl rfl rfl (by decide +kernel) ⟨Nat.le_of_ble_eq_true rfl, Nat.le_of_ble_eq_true rfl⟩ (fmR_23 F (by assumption)) rfl rfl (Nat.le_of_ble_eq_true rfl) dX6_full_27 ⟨Nat.le_of_ble_eq_true rfl, Nat.le_of_ble_eq_true rfl⟩ (fun _ _ h9 => False.elim h9) (fun u4 hc6 => ?_)
    have hc6 := hc6.symm
    subst hc6
    refine fmV_iconst (pc := 30) (v := 0) F dX6_full_30 rfl ?_
    refine fmV_istore_n (pc := 31) (i := 2) F dX6_full_31 rfl (by decide) ?_
    refine fmV_lv (lv' := [(0, .ref (G.1 14 0 0)), (1, .int x), (2, .int (nI 0))]) ⟨rfl, rfl, rfl, trivial⟩ ?_
    refine fmV_upH (N := 151) (pc := 32) (Hd := fun j => ∀ i, i < j → ¬ gMsAll (gPass 1 rc cc t (gBc τ 1 0) i) 1 x.toNatClampNeg = 0) (σf := fun j => (gPass 1 rc cc t (gBc τ 1 0) j)) (lvf := fun j => [(0, .ref (G.1 14 0 0)), (1, .int x), (2, .int (nI j))]) 0 (by omega) (fun i hi => absurd hi (by omega)) (fun hH => ?_) ?_
    · refine fmV_iload_n (pc := 32) (i := 2) F dX6_full_32 rfl rfl ?_
      refine fmV_sipush (pc := 33) (v := 150) F dX6_full_33 (by decide) ?_
      refine fmV_icmp_gt (pc := 36) (tgt := 70) F dX6_full_36 (by decide) (fun b1 => ?_) (fun b1 => ?_)
      · refine fmV_iconst (pc := 70) (v := (-1)) F dX6_full_70 rfl ?_
        refine fmV_xr ?_
        exact fmV_iret (pc := 71) F dX6_full_71 rfl (Or.inr ⟨(fm_q1 a1), (Or.inr ⟨rfl, hH, rfl⟩)⟩)
      · exact absurd (by decide) b1
    · intro j hj hH ih
      refine fmV_iload_n (pc := 32) (i := 2) F dX6_full_32 rfl rfl ?_
      refine fmV_sipush (pc := 33) (v := 150) F dX6_full_33 (by decide) ?_
      refine fmV_icmp_gt (pc := 36) (tgt := 70) F dX6_full_36 (by decide) (fun b1 => ?_) (fun b1 => ?_)
      · exact absurd b1 (by rw [Int32.not_lt]; exact nI_le (b := 150) (by omega) (by decide))
      · refine fmV_aload_n (pc := 39) (i := 0) F dX6_full_39 rfl rfl ?_
        refine fmg_14_ahead (pc := 40) F  hin_X6 dX6_full_40 (List.mem_of_getElem? (i := 2) rfl) ?_
        refine fmV_iload_n (pc := 43) (i := 1) F dX6_full_43 rfl rfl ?_
        have q44 := c_X5_misses_ l D A G (gPass 1 rc cc t (gBc τ 1 0) j) o hb1 hx14
        rw [← hx2] at q44
        refine fmV_xVi (n := 1) (pc := 44) F hX q44 gX6_full_X5_misses_ rfl rfl rfl (by decide +kernel) ⟨Nat.le_of_ble_eq_true rfl, Nat.le_of_ble_eq_true rfl⟩ (fmR_23 F (by assumption)) rfl rfl (Nat.le_of_ble_eq_true rfl) dX6_full_44 ⟨Nat.le_of_ble_eq_true rfl, Nat.le_of_ble_eq_true rfl⟩ (fun _ _ h9 => False.elim h9) (fun r8 u7 hc9 => ?_)
        obtain ⟨hr9, hu9⟩ := hc9
        have hr9 := hr9.symm
        have hu9 := hu9.symm
        subst hr9
        subst hu9
        refine fmV_if_ne (pc := 47) (tgt := 52) F dX6_full_47 (by decide) (fun b2 => ?_) (fun b2 => ?_)
        · refine fmV_aload_n (pc := 52) (i := 0) F dX6_full_52 rfl rfl ?_
          refine fmg_14_ahead (pc := 53) F  hin_X6 dX6_full_53 (List.mem_of_getElem? (i := 2) rfl) ?_
          refine fmV_aload_n (pc := 56) (i := 0) F dX6_full_56 rfl rfl ?_
          refine fmg_14_did (pc := 57) F  hin_X6 dX6_full_57 (List.mem_of_getElem? (i := 4) rfl) ?_
          refine fmV_xVi (n := 1) (pc := 60) F hX (c_X5_pass l D A G (gPass 1 rc cc t (gBc τ 1 0) j) o hb1 hcc (k63 j) hrc (k62 j) (show t + j < 2 ^ 31 by omega) (k64 j)) gX6_full_X5_pass rfl rfl rfl (by decide +kernel) ⟨Nat.le_of_ble_eq_true rfl, Nat.le_of_ble_eq_true rfl⟩ (fmR_23 F (by assumption)) rfl rfl (Nat.le_of_ble_eq_true rfl) dX6_full_60 ⟨Nat.le_of_ble_eq_true rfl, Nat.le_of_ble_eq_true rfl⟩ (fun _ _ h9 => False.elim h9) (fun r11 u10 hc12 => ?_)
          obtain ⟨hr9, hu9⟩ := hc12
          have hr9 := hr9.symm
          have hu9 := hu9.symm
          subst hr9
          subst hu9
          refine fmV_pop (pc := 63) F dX6_full_63 rfl ?_
          refine fmV_iinc (pc := 64) (i := 2) F dX6_full_64 rfl rfl (by decide) ?_
          refine fmV_goto (pc := 67) (tgt := 32) F dX6_full_67 (by decide) ?_
          have hH2 : ∀ i, i < j + 1 → ¬ gMsAll (gPass 1 rc cc t (gBc τ 1 0) i) 1 x.toNatClampNeg = 0 := by
            intro i hi
            rcases Nat.lt_or_ge i j with q | q
            · exact hH i q
            · have e : i = j := by omega
              rw [e]
              exact b2
          refine fmV_sg (σ1 := (gPass 1 rc cc t (gBc τ 1 0) (j + 1))) rfl ?_
          refine fmV_lv ?_ (ih hH2)
          exact ⟨rfl, rfl, by rw [nI_succ j]; rfl, trivial⟩
        · refine fmV_iload_n (pc := 50) (i := 2) F dX6_full_50 rfl rfl ?_
          refine fmV_xr ?_
          exact fmV_iret (pc := 51) F dX6_full_51 rfl (Or.inr ⟨(fm_q1 a1), (Or.inl ⟨j, by omega, rfl, b2, hH, rfl⟩)⟩)
  · refine fmV_aload_n (pc := 13) (i := 0) F dX6_full_13 rfl rfl ?_
    refine fmV_iconst (pc := 14) (v := 1) F dX6_full_14 rfl ?_
    refine fmV_xVi (n := 1) (pc := 15) F hX (c_X6_no l D A G τ o 1) gX6_full_X6_no rfl rfl rfl (by decide +kernel) ⟨Nat.le_of_ble_eq_true rfl, Nat.le_of_ble_eq_true rfl⟩ (fmR_14 F ) rfl rfl (Nat.le_of_ble_eq_true rfl) dX6_full_15 ⟨Nat.le_of_ble_eq_true rfl, Nat.le_of_ble_eq_true rfl⟩ (fun _ _ h9 => False.elim h9) (fun r14 u13 hc15 => ?_)
    obtain ⟨hr9, hu9⟩ := hc15
    have hr9 := hr9.symm
    have hu9 := hu9.symm
    subst hr9
    subst hu9
    refine fmV_xr ?_
    exact fmV_iret (pc := 18) F dX6_full_18 rfl (Or.inl ⟨fm_q0 a1, rfl, rfl⟩)

set_option maxHeartbeats 4000000 in
set_option maxRecDepth 100000 in
theorem c_X6_gone (l : Launch) (D : va_G) (A : Nat → Prop) (G : fmG) (σ : fmS) (o : Nat → Int64) {rc cc t : Nat} (hcc : cc ≤ 14) (h63 : σ 63 0 0 0 = nI cc) (hrc : rc ≤ 4) (h62 : σ 62 0 0 0 = nI rc) (ht : t + 200 < 2 ^ 30) (h64 : σ 64 0 0 0 = nI t) (x : Int32) : fmXi l D A G yX6_gone wsX6_gone (fmRm 6 0 0) 0 0 [.ref (G.1 14 0 0), .int x] σ o (fun r u => gRes (gz σ) ((∃ n, n ≤ 150 ∧ r = nI n ∧ (gPass 1 rc cc t (gBc (gz σ) 1 0) n) 26 1 0 x.toNatClampNeg = 2 ∧ (∀ i, i < n → ¬ (gPass 1 rc cc t (gBc (gz σ) 1 0) i) 26 1 0 x.toNatClampNeg = 2) ∧ u = (gPass 1 rc cc t (gBc (gz σ) 1 0) n)) ∨ (r = -1 ∧ (∀ i, i < 151 → ¬ (gPass 1 rc cc t (gBc (gz σ) 1 0) i) 26 1 0 x.toNatClampNeg = 2) ∧ u = (gPass 1 rc cc t (gBc (gz σ) 1 0) 151))) r u [(1, x < 0 ∨ nI cc ≤ x)]) (fun _ _ => False) := by
  refine fmXi_of (cc := cX6_gone) (maxL := 3) (ret := (some .int)) (by decide +kernel) rfl (Nat.le_of_ble_eq_true rfl) ?_
  intro P_ E_ S_ M_ args_ below_ meth_ C_ F hX hnt
  have hin_X6 : ∀ w ∈ wsX60, w ∈ wsX6_gone := (fun _ h => List.mem_cons_of_mem _ (List.mem_append_left _ (List.mem_append_right _ h)))
  have hin_X5 : ∀ w ∈ wsX50, w ∈ wsX6_gone := (fun _ h => List.mem_cons_of_mem _ (List.mem_append_right _ h))
  have hb0 : (0 : Nat) < 2 := by decide
  have hb1 : (1 : Nat) < 2 := by decide
  refine fmV_aload_n (pc := 0) (i := 0) F dX6_gone_0 rfl rfl ?_
  refine fmV_iconst (pc := 1) (v := 0) F dX6_gone_1 rfl ?_
  refine fmp_14_thrown (pc := 2) F  hin_X6 dX6_gone_2 (List.mem_of_getElem? (i := 1) rfl) ?_
  have g63 : gz σ 63 0 0 0 = nI cc := by rw [gz_c (by decide)]; exact h63
  have g62 : gz σ 62 0 0 0 = nI rc := by rw [gz_c (by decide)]; exact h62
  have g64 : gz σ 64 0 0 0 = nI t := by rw [gz_c (by decide)]; exact h64
  refine fmV_sg (σ1 := gz σ) rfl ?_
  generalize gz σ = τ at g62 g63 g64 ⊢
  refine fmV_aload_n (pc := 5) (i := 0) F dX6_gone_5 rfl rfl ?_
  refine fmV_iload_n (pc := 6) (i := 1) F dX6_gone_6 rfl rfl ?_
  refine fmV_xVi (n := 1) (pc := 7) F hX (c_X6_isCanoe l D A G τ o hcc g63 x) gX6_gone_X6_isCanoe rfl rfl rfl (by decide +kernel) ⟨Nat.le_of_ble_eq_true rfl, Nat.le_of_ble_eq_true rfl⟩ (fmR_14 F ) rfl rfl (Nat.le_of_ble_eq_true rfl) dX6_gone_7 ⟨Nat.le_of_ble_eq_true rfl, Nat.le_of_ble_eq_true rfl⟩ (fun _ _ h9 => False.elim h9) (fun r2 u1 hc3 => ?_)
  obtain ⟨hr9, hu9⟩ := hc3
  have hr9 := hr9.symm
  have hu9 := hu9.symm
  subst hr9
  subst hu9
  refine fmV_if_ne (pc := 10) (tgt := 19) F dX6_gone_10 (by decide) (fun a1 => ?_) (fun a1 => ?_)
  · obtain ⟨hx1, hx2⟩ := fm_ixc (x := x) (n := cc) (fm_q1 a1) (by omega)
    have hx14 : x.toNatClampNeg < 14 := by omega
    have b63 : (gBc τ 1 0) 63 0 0 0 = nI cc := by rw [gBc_m (by decide)]; exact g63
    have b62 : (gBc τ 1 0) 62 0 0 0 = nI rc := by rw [gBc_m (by decide)]; exact g62
    have b64 : (gBc τ 1 0) 64 1 0 0 = nI t := by rw [gBc_64]; exact g64
    have k62 : ∀ j, (gPass 1 rc cc t (gBc τ 1 0) j) 62 0 0 0 = nI rc := fun j => by rw [gPass_c (by decide)]; exact b62
    have k63 : ∀ j, (gPass 1 rc cc t (gBc τ 1 0) j) 63 0 0 0 = nI cc := fun j => by rw [gPass_c (by decide)]; exact b63
    have k64 : ∀ j, (gPass 1 rc cc t (gBc τ 1 0) j) 64 1 0 0 = nI (t + j) := fun j => gPass_64 b64 j
    refine fmV_aload_n (pc := 19) (i := 0) F dX6_gone_19 rfl rfl ?_
    refine fmg_14_ahead (pc := 20) F  hin_X6 dX6_gone_20 (List.mem_of_getElem? (i := 2) rfl) ?_
    refine fmV_aload_n (pc := 23) (i := 0) F dX6_gone_23 rfl rfl ?_
    refine fmg_14_s (pc := 24) F  hin_X6 dX6_gone_24 (List.mem_of_getElem? (i := 3) rfl) ?_
    refine fmV_xVv (n := 1) (pc := 27) F hX (c_X5_become l D A G τ o hb1 hb0) gX6_gone_X5_become rfl rfl rfl (by decide +kernel) ⟨Nat.le_of_ble_eq_true rfl, Nat.le_of_ble_eq_true rfl⟩ (fmR_23 F (by assumption)) rfl rfl (Nat.le_of_ble_eq_true rfl) dX6_gone_27 ⟨Nat.le_of_ble_eq_true rfl, Nat.le_of_ble_eq_true rfl⟩ (fun _ _ h9 => False.elim h9) (fun u4 hc6 => ?_)
    have hc6 := hc6.symm
    subst hc6
    refine fmV_iconst (pc := 30) (v := 0) F dX6_gone_30 rfl ?_
    refine fmV_istore_n (pc := 31) (i := 2) F dX6_gone_31 rfl (by decide) ?_
    refine fmV_lv (lv' := [(0, .ref (G.1 14 0 0)), (1, .int x), (2, .int (nI 0))]) ⟨rfl, rfl, rfl, trivial⟩ ?_
    refine fmV_upH (N := 151) (pc := 32) (Hd := fun j => ∀ i, i < j → ¬ (gPass 1 rc cc t (gBc τ 1 0) i) 26 1 0 x.toNatClampNeg = 2) (σf := fun j => (gPass 1 rc cc t (gBc τ 1 0) j)) (lvf := fun j => [(0, .ref (G.1 14 0 0)), (1, .int x), (2, .int (nI j))]) 0 (by omega) (fun i hi => absurd hi (by omega)) (fun hH => ?_) ?_
    · refine fmV_iload_n (pc := 32) (i := 2) F dX6_gone_32 rfl rfl ?_
      refine fmV_sipush (pc := 33) (v := 150) F dX6_gone_33 (by decide) ?_
      refine fmV_icmp_gt (pc := 36) (tgt := 72) F dX6_gone_36 (by decide) (fun b1 => ?_) (fun b1 => ?_)
      · refine fmV_iconst (pc := 72) (v := (-1)) F dX6_gone_72 rfl ?_
        refine fmV_xr ?_
        exact fmV_iret (pc := 73) F dX6_gone_73 rfl (Or.inr ⟨(fm_q1 a1), (Or.inr ⟨rfl, hH, rfl⟩)⟩)
      · exact absurd (by decide) b1
    · intro j hj hH ih
      refine fmV_iload_n (pc := 32) (i := 2) F dX6_gone_32 rfl rfl ?_
      refine fmV_sipush (pc := 33) (v := 150) F dX6_gone_33 (by decide) ?_
      refine fmV_icmp_gt (pc := 36) (tgt := 72) F dX6_gone_36 (by decide) (fun b1 => ?_) (fun b1 => ?_)
      · exact absurd b1 (by rw [Int32.not_lt]; exact nI_le (b := 150) (by omega) (by decide))
      · refine fmV_aload_n (pc := 39) (i := 0) F dX6_gone_39 rfl rfl ?_
        refine fmg_14_ahead (pc := 40) F  hin_X6 dX6_gone_40 (List.mem_of_getElem? (i := 2) rfl) ?_
        refine fmgN_23_is (pc := 43) F hX (by assumption) hin_X5 dX6_gone_43 (List.mem_of_getElem? (i := 11) rfl) ?_
        refine fmV_iload_n (pc := 46) (i := 1) F dX6_gone_46 rfl rfl ?_
        refine fmal_26 (pc := 47) F (by assumption) dX6_gone_47 (fm_in hx2 (show x.toNatClampNeg < _ by omega) (by decide)) rfl ?_
        refine fmV_iconst (pc := 48) (v := 2) F dX6_gone_48 rfl ?_
        refine fmV_icmp_ne (pc := 49) (tgt := 54) F dX6_gone_49 (by decide) (fun b2 => ?_) (fun b2 => ?_)
        · refine fmV_aload_n (pc := 54) (i := 0) F dX6_gone_54 rfl rfl ?_
          refine fmg_14_ahead (pc := 55) F  hin_X6 dX6_gone_55 (List.mem_of_getElem? (i := 2) rfl) ?_
          refine fmV_aload_n (pc := 58) (i := 0) F dX6_gone_58 rfl rfl ?_
          refine fmg_14_did (pc := 59) F  hin_X6 dX6_gone_59 (List.mem_of_getElem? (i := 4) rfl) ?_
          refine fmV_xVi (n := 1) (pc := 62) F hX (c_X5_pass l D A G (gPass 1 rc cc t (gBc τ 1 0) j) o hb1 hcc (k63 j) hrc (k62 j) (show t + j < 2 ^ 31 by omega) (k64 j)) gX6_gone_X5_pass rfl rfl rfl (by decide +kernel) ⟨Nat.le_of_ble_eq_true rfl, Nat.le_of_ble_eq_true rfl⟩ (fmR_23 F (by assumption)) rfl rfl (Nat.le_of_ble_eq_true rfl) dX6_gone_62 ⟨Nat.le_of_ble_eq_true rfl, Nat.le_of_ble_eq_true rfl⟩ (fun _ _ h9 => False.elim h9) (fun r8 u7 hc9 => ?_)
          obtain ⟨hr9, hu9⟩ := hc9
          have hr9 := hr9.symm
          have hu9 := hu9.symm
          subst hr9
          subst hu9
          refine fmV_pop (pc := 65) F dX6_gone_65 rfl ?_
          refine fmV_iinc (pc := 66) (i := 2) F dX6_gone_66 rfl rfl (by decide) ?_
          refine fmV_goto (pc := 69) (tgt := 32) F dX6_gone_69 (by decide) ?_
          have hH2 : ∀ i, i < j + 1 → ¬ (gPass 1 rc cc t (gBc τ 1 0) i) 26 1 0 x.toNatClampNeg = 2 := by
            intro i hi
            rcases Nat.lt_or_ge i j with q | q
            · exact hH i q
            · have e : i = j := by omega
              rw [e]
              exact b2
          refine fmV_sg (σ1 := (gPass 1 rc cc t (gBc τ 1 0) (j + 1))) rfl ?_
          refine fmV_lv ?_ (ih hH2)
          exact ⟨rfl, rfl, by rw [nI_succ j]; rfl, trivial⟩
        · refine fmV_iload_n (pc := 52) (i := 2) F dX6_gone_52 rfl rfl ?_
          refine fmV_xr ?_
          exact fmV_iret (pc := 53) F dX6_gone_53 rfl (Or.inr ⟨(fm_q1 a1), (Or.inl ⟨j, by omega, rfl, b2, hH, rfl⟩)⟩)
  · refine fmV_aload_n (pc := 13) (i := 0) F dX6_gone_13 rfl rfl ?_
    refine fmV_iconst (pc := 14) (v := 1) F dX6_gone_14 rfl ?_
    refine fmV_xVi (n := 1) (pc := 15) F hX (c_X6_no l D A G τ o 1) gX6_gone_X6_no rfl rfl rfl (by decide +kernel) ⟨Nat.le_of_ble_eq_true rfl, Nat.le_of_ble_eq_true rfl⟩ (fmR_14 F ) rfl rfl (Nat.le_of_ble_eq_true rfl) dX6_gone_15 ⟨Nat.le_of_ble_eq_true rfl, Nat.le_of_ble_eq_true rfl⟩ (fun _ _ h9 => False.elim h9) (fun r11 u10 hc12 => ?_)
    obtain ⟨hr9, hu9⟩ := hc12
    have hr9 := hr9.symm
    have hu9 := hu9.symm
    subst hr9
    subst hu9
    refine fmV_xr ?_
    exact fmV_iret (pc := 18) F dX6_gone_18 rfl (Or.inl ⟨fm_q0 a1, rfl, rfl⟩)
