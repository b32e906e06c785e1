theorem c_X5_isFull_x (l : Launch) (D : va_G) (A : Nat → Prop) (G : fmG) (σ : fmS) (o : Nat → Int64) {b cc : Nat} (hb : b < 2) (hcc : cc ≤ 14) (h63 : σ 63 0 0 0 = nI cc) {r : Nat} (hr : r < 4) {x : Int32} (hx : x = nI r) : fmXi l D A G yX5_isFull wsX5_isFull (fmRm 2 0 0) 0 0 [.ref (G.1 23 b 0), .int x] σ o (fun x u => x = (if gFull σ b r cc then 1 else 0) ∧ u = σ) (fun _ _ => False) := by
  subst hx
  exact c_X5_isFull l D A G σ o hb hcc h63 hr

set_option maxHeartbeats 4000000 in
set_option maxRecDepth 100000 in
theorem c_X6_addRow (l : Launch) (D : va_G) (A : Nat → Prop) (G : fmG) (σ : fmS) (o : Nat → Int64) {rc cc t : Nat} (hcc : cc ≤ 14) (h63 : σ 63 0 0 0 = nI cc) (hrc : rc ≤ 4) (h62 : σ 62 0 0 0 = nI rc) (ht : t + 200 < 2 ^ 30) (h64 : σ 64 0 0 0 = nI t) (x : Int32) : fmXi l D A G yX6_addRow wsX6_addRow (fmRm 3 0 0) 0 0 [.ref (G.1 14 0 0), .int x] σ o (fun r u => gRes (gz σ) (r = nI rc ∧ u = fmu (fmu (gz σ) 15 0 0 (upd ((gz σ) 15 0 0) rc x)) 62 0 0 (fun _ => nI (rc + 1))) r u [(1, x < 1 ∨ 6 < x), (2, (gz σ) 62 0 0 0 = 4)]) (fun _ _ => False) := by
  refine fmXi_of (cc := cX6_addRow) (maxL := 2) (ret := (some .int)) (by decide +kernel) rfl (Nat.le_of_ble_eq_true rfl) ?_
  intro P_ E_ S_ M_ args_ below_ meth_ C_ F hX hnt
  have hin_X6 : ∀ w ∈ wsX60, w ∈ wsX6_addRow := (fun _ h => List.mem_cons_of_mem _ (List.mem_append_right _ h))
  have hb0 : (0 : Nat) < 2 := by decide
  have hb1 : (1 : Nat) < 2 := by decide
  refine fmV_aload_n (pc := 0) (i := 0) F dX6_addRow_0 rfl rfl ?_
  refine fmV_iconst (pc := 1) (v := 0) F dX6_addRow_1 rfl ?_
  refine fmp_14_thrown (pc := 2) F  hin_X6 dX6_addRow_2 (List.mem_of_getElem? (i := 1) rfl) ?_
  have g63 : gz σ 63 0 0 0 = nI cc := by rw [gz_c (by decide)]; exact h63
  have g62 : gz σ 62 0 0 0 = nI rc := by rw [gz_c (by decide)]; exact h62
  have g64 : gz σ 64 0 0 0 = nI t := by rw [gz_c (by decide)]; exact h64
  refine fmV_sg (σ1 := gz σ) rfl ?_
  generalize gz σ = τ at g62 g63 g64 ⊢
  refine fmV_iload_n (pc := 5) (i := 1) F dX6_addRow_5 rfl rfl ?_
  refine fmV_iconst (pc := 6) (v := 1) F dX6_addRow_6 rfl ?_
  refine fmV_bipush (pc := 7) (v := 6) F dX6_addRow_7 (by decide) ?_
  refine fmV_xSi (n := 3) (pc := 9) F hX (c_X6_isIn l D A G τ o x 1 6) gX6_addRow_X6_isIn rfl rfl rfl (by decide +kernel) ⟨Nat.le_of_ble_eq_true rfl, Nat.le_of_ble_eq_true rfl⟩ rfl rfl (Nat.le_of_ble_eq_true rfl) dX6_addRow_9 ⟨Nat.le_of_ble_eq_true rfl, Nat.le_of_ble_eq_true rfl⟩ (fun _ _ h9 => False.elim h9) (fun r2 u1 hc3 => ?_)
  obtain ⟨hr9, hu9⟩ := hc3
  have hr9 := hr9.symm
  have hu9 := hu9.symm
  subst hr9
  subst hu9
  refine fmV_if_ne (pc := 12) (tgt := 21) F dX6_addRow_12 (by decide) (fun a1 => ?_) (fun a1 => ?_)
  · refine fmV_aload_n (pc := 21) (i := 0) F dX6_addRow_21 rfl rfl ?_
    refine fmg_14_rows (pc := 22) F  hin_X6 dX6_addRow_22 (List.mem_of_getElem? (i := 2) rfl) ?_
    refine fmV_iconst (pc := 25) (v := 4) F dX6_addRow_25 rfl ?_
    refine fmV_icmp_ne (pc := 26) (tgt := 35) F dX6_addRow_26 (by decide) (fun a2 => ?_) (fun a2 => ?_)
    · have hrc4 : rc < 4 := by
        rcases Nat.lt_or_ge rc 4 with q | q
        · exact q
        · exact absurd (by rw [g62, show rc = 4 by omega]; rfl) a2
      refine fmV_aload_n (pc := 35) (i := 0) F dX6_addRow_35 rfl rfl ?_
      refine fmg_14_places (pc := 36) F  hin_X6 dX6_addRow_36 (List.mem_of_getElem? (i := 3) rfl) ?_
      refine fmV_aload_n (pc := 39) (i := 0) F dX6_addRow_39 rfl rfl ?_
      refine fmg_14_rows (pc := 40) F  hin_X6 dX6_addRow_40 (List.mem_of_getElem? (i := 2) rfl) ?_
      refine fmV_iload_n (pc := 43) (i := 1) F dX6_addRow_43 rfl rfl ?_
      refine fmas_15 (pc := 44) F  dX6_addRow_44 (fm_in g62 hrc4 (by decide)) (fm_cl g62 (by omega)) ?_
      refine fmV_aload_n (pc := 45) (i := 0) F dX6_addRow_45 rfl rfl ?_
      refine fmV_dup (pc := 46) F dX6_addRow_46 rfl ?_
      refine fmg_14_rows (pc := 47) F  hin_X6 dX6_addRow_47 (List.mem_of_getElem? (i := 2) rfl) ?_
      refine fmV_iconst (pc := 50) (v := 1) F dX6_addRow_50 rfl ?_
      refine fmV_iadd (pc := 51) F dX6_addRow_51 ?_
      refine fmp_14_rows (pc := 52) F  hin_X6 dX6_addRow_52 (List.mem_of_getElem? (i := 2) rfl) ?_
      refine fmV_sg (σ1 := fmu (fmu τ 15 0 0 (upd (τ 15 0 0) rc x)) 62 0 0 (fun _ => nI (rc + 1))) (by rw [nI_succ, ← g62]; rfl) ?_
      refine fmV_aload_n (pc := 55) (i := 0) F dX6_addRow_55 rfl rfl ?_
      refine fmg_14_rows (pc := 56) F  hin_X6 dX6_addRow_56 (List.mem_of_getElem? (i := 2) rfl) ?_
      refine fmV_iconst (pc := 59) (v := 1) F dX6_addRow_59 rfl ?_
      refine fmV_isub (pc := 60) F dX6_addRow_60 ?_
      refine fmV_xr ?_
      exact fmV_iret (pc := 61) F dX6_addRow_61 rfl (Or.inr ⟨(fm_q1 a1), (Or.inr ⟨a2, ⟨nI_pred rc, rfl⟩⟩)⟩)
    · refine fmV_aload_n (pc := 29) (i := 0) F dX6_addRow_29 rfl rfl ?_
      refine fmV_iconst (pc := 30) (v := 2) F dX6_addRow_30 rfl ?_
      refine fmV_xVi (n := 1) (pc := 31) F hX (c_X6_no l D A G τ o 2) gX6_addRow_X6_no rfl rfl rfl (by decide +kernel) ⟨Nat.le_of_ble_eq_true rfl, Nat.le_of_ble_eq_true rfl⟩ (fmR_14 F ) rfl rfl (Nat.le_of_ble_eq_true rfl) dX6_addRow_31 ⟨Nat.le_of_ble_eq_true rfl, Nat.le_of_ble_eq_true rfl⟩ (fun _ _ h9 => False.elim h9) (fun r5 u4 hc6 => ?_)
      obtain ⟨hr9, hu9⟩ := hc6
      have hr9 := hr9.symm
      have hu9 := hu9.symm
      subst hr9
      subst hu9
      refine fmV_xr ?_
      exact fmV_iret (pc := 34) F dX6_addRow_34 rfl (Or.inr ⟨(fm_q1 a1), (Or.inl ⟨a2, rfl, rfl⟩)⟩)
  · refine fmV_aload_n (pc := 15) (i := 0) F dX6_addRow_15 rfl rfl ?_
    refine fmV_iconst (pc := 16) (v := 1) F dX6_addRow_16 rfl ?_
    refine fmV_xVi (n := 1) (pc := 17) F hX (c_X6_no l D A G τ o 1) gX6_addRow_X6_no rfl rfl rfl (by decide +kernel) ⟨Nat.le_of_ble_eq_true rfl, Nat.le_of_ble_eq_true rfl⟩ (fmR_14 F ) rfl rfl (Nat.le_of_ble_eq_true rfl) dX6_addRow_17 ⟨Nat.le_of_ble_eq_true rfl, Nat.le_of_ble_eq_true rfl⟩ (fun _ _ h9 => False.elim h9) (fun r8 u7 hc9 => ?_)
    obtain ⟨hr9, hu9⟩ := hc9
    have hr9 := hr9.symm
    have hu9 := hu9.symm
    subst hr9
    subst hu9
    refine fmV_xr ?_
    exact fmV_iret (pc := 20) F dX6_addRow_20 rfl (Or.inl ⟨fm_q0 a1, rfl, rfl⟩)

set_option maxHeartbeats 4000000 in
set_option maxRecDepth 100000 in
theorem c_X6_setWater (l : Launch) (D : va_G) (A : Nat → Prop) (G : fmG) (σ : fmS) (o : Nat → Int64) {rc cc t : Nat} (hcc : cc ≤ 14) (h63 : σ 63 0 0 0 = nI cc) (hrc : rc ≤ 4) (h62 : σ 62 0 0 0 = nI rc) (ht : t + 200 < 2 ^ 30) (h64 : σ 64 0 0 0 = nI t) (x y z : Int32) : fmXi l D A G yX6_setWater wsX6_setWater (fmRm 3 0 0) 0 0 [.ref (G.1 14 0 0), .int x, .int y, .int z] σ o (fun r u => gRes (gz σ) (r = 10 * (gz σ) 16 0 0 x.toNatClampNeg + (gz σ) 17 0 0 x.toNatClampNeg ∧ u = fmu (fmu (gz σ) 16 0 0 (upd ((gz σ) 16 0 0) x.toNatClampNeg y)) 17 0 0 (upd ((gz σ) 17 0 0) x.toNatClampNeg z)) r u [(1, x < 0 ∨ 23 < x), (2, (y < 0 ∨ 9 < y) ∨ (z < 0 ∨ 9 < z))]) (fun _ _ => False) := by
  refine fmXi_of (cc := cX6_setWater) (maxL := 5) (ret := (some .int)) (by decide +kernel) rfl (Nat.le_of_ble_eq_true rfl) ?_
  intro P_ E_ S_ M_ args_ below_ meth_ C_ F hX hnt
  have hin_X6 : ∀ w ∈ wsX60, w ∈ wsX6_setWater := (fun _ h => List.mem_cons_of_mem _ (List.mem_append_right _ h))
  have hb0 : (0 : Nat) < 2 := by decide
  have hb1 : (1 : Nat) < 2 := by decide
  refine fmV_aload_n (pc := 0) (i := 0) F dX6_setWater_0 rfl rfl ?_
  refine fmV_iconst (pc := 1) (v := 0) F dX6_setWater_1 rfl ?_
  refine fmp_14_thrown (pc := 2) F  hin_X6 dX6_setWater_2 (List.mem_of_getElem? (i := 1) rfl) ?_
  have g63 : gz σ 63 0 0 0 = nI cc := by rw [gz_c (by decide)]; exact h63
  have g62 : gz σ 62 0 0 0 = nI rc := by rw [gz_c (by decide)]; exact h62
  have g64 : gz σ 64 0 0 0 = nI t := by rw [gz_c (by decide)]; exact h64
  refine fmV_sg (σ1 := gz σ) rfl ?_
  generalize gz σ = τ at g62 g63 g64 ⊢
  refine fmV_iload_n (pc := 5) (i := 1) F dX6_setWater_5 rfl rfl ?_
  refine fmV_iconst (pc := 6) (v := 0) F dX6_setWater_6 rfl ?_
  refine fmV_bipush (pc := 7) (v := 23) F dX6_setWater_7 (by decide) ?_
  refine fmV_xSi (n := 3) (pc := 9) F hX (c_X6_isIn l D A G τ o x 0 23) gX6_setWater_X6_isIn rfl rfl rfl (by decide +kernel) ⟨Nat.le_of_ble_eq_true rfl, Nat.le_of_ble_eq_true rfl⟩ rfl rfl (Nat.le_of_ble_eq_true rfl) dX6_setWater_9 ⟨Nat.le_of_ble_eq_true rfl, Nat.le_of_ble_eq_true rfl⟩ (fun _ _ h9 => False.elim h9) (fun r2 u1 hc3 => ?_)
  obtain ⟨hr9, hu9⟩ := hc3
  have hr9 := hr9.symm
  have hu9 := hu9.symm
  subst hr9
  subst hu9
  refine fmV_if_ne (pc := 12) (tgt := 21) F dX6_setWater_12 (by decide) (fun a1 => ?_) (fun a1 => ?_)
  · refine fmV_iload_n (pc := 21) (i := 2) F dX6_setWater_21 rfl rfl ?_
    refine fmV_iconst (pc := 22) (v := 0) F dX6_setWater_22 rfl ?_
    refine fmV_bipush (pc := 23) (v := 9) F dX6_setWater_23 (by decide) ?_
    refine fmV_xSi (n := 3) (pc := 25) F hX (c_X6_isIn l D A G τ o y 0 9) gX6_setWater_X6_isIn rfl rfl rfl (by decide +kernel) ⟨Nat.le_of_ble_eq_true rfl, Nat.le_of_ble_eq_true rfl⟩ rfl rfl (Nat.le_of_ble_eq_true rfl) dX6_setWater_25 ⟨Nat.le_of_ble_eq_true rfl, Nat.le_of_ble_eq_true rfl⟩ (fun _ _ h9 => False.elim h9) (fun r5 u4 hc6 => ?_)
    obtain ⟨hr9, hu9⟩ := hc6
    have hr9 := hr9.symm
    have hu9 := hu9.symm
    subst hr9
    subst hu9
    refine fmV_if_eq (pc := 28) (tgt := 41) F dX6_setWater_28 (by decide) (fun a2 => ?_) (fun a2 => ?_)
    · refine fmV_aload_n (pc := 41) (i := 0) F dX6_setWater_41 rfl rfl ?_
      refine fmV_iconst (pc := 42) (v := 2) F dX6_setWater_42 rfl ?_
      refine fmV_xVi (n := 1) (pc := 43) F hX (c_X6_no l D A G τ o 2) gX6_setWater_X6_no rfl rfl rfl (by decide +kernel) ⟨Nat.le_of_ble_eq_true rfl, Nat.le_of_ble_eq_true rfl⟩ (fmR_14 F ) rfl rfl (Nat.le_of_ble_eq_true rfl) dX6_setWater_43 ⟨Nat.le_of_ble_eq_true rfl, Nat.le_of_ble_eq_true rfl⟩ (fun _ _ h9 => False.elim h9) (fun r8 u7 hc9 => ?_)
      obtain ⟨hr9, hu9⟩ := hc9
      have hr9 := hr9.symm
      have hu9 := hu9.symm
      subst hr9
      subst hu9
      refine fmV_xr ?_
      exact fmV_iret (pc := 46) F dX6_setWater_46 rfl (Or.inr ⟨(fm_q1 a1), (Or.inl ⟨Or.inl (fm_q0 a2), rfl, rfl⟩)⟩)
    · refine fmV_iload_n (pc := 31) (i := 3) F dX6_setWater_31 rfl rfl ?_
      refine fmV_iconst (pc := 32) (v := 0) F dX6_setWater_32 rfl ?_
      refine fmV_bipush (pc := 33) (v := 9) F dX6_setWater_33 (by decide) ?_
      refine fmV_xSi (n := 3) (pc := 35) F hX (c_X6_isIn l D A G τ o z 0 9) gX6_setWater_X6_isIn rfl rfl rfl (by decide +kernel) ⟨Nat.le_of_ble_eq_true rfl, Nat.le_of_ble_eq_true rfl⟩ rfl rfl (Nat.le_of_ble_eq_true rfl) dX6_setWater_35 ⟨Nat.le_of_ble_eq_true rfl, Nat.le_of_ble_eq_true rfl⟩ (fun _ _ h9 => False.elim h9) (fun r11 u10 hc12 => ?_)
      obtain ⟨hr9, hu9⟩ := hc12
      have hr9 := hr9.symm
      have hu9 := hu9.symm
      subst hr9
      subst hu9
      refine fmV_if_ne (pc := 38) (tgt := 47) F dX6_setWater_38 (by decide) (fun a3 => ?_) (fun a3 => ?_)
      · obtain ⟨hx0, hx1, hx2⟩ := fm_rgc (x := x) (lo := 0) (hi := 23) (fm_q1 a1) (by decide) (by decide)
        refine fmV_bipush (pc := 47) (v := 10) F dX6_setWater_47 (by decide) ?_
        refine fmV_aload_n (pc := 49) (i := 0) F dX6_setWater_49 rfl rfl ?_
        refine fmg_14_tide (pc := 50) F  hin_X6 dX6_setWater_50 (List.mem_of_getElem? (i := 2) rfl) ?_
        refine fmV_iload_n (pc := 53) (i := 1) F dX6_setWater_53 rfl rfl ?_
        refine fmal_16 (pc := 54) F  dX6_setWater_54 (fm_in hx2 (show x.toNatClampNeg < _ by omega) (by decide)) rfl ?_
        refine fmV_imul (pc := 55) F dX6_setWater_55 ?_
        refine fmV_aload_n (pc := 56) (i := 0) F dX6_setWater_56 rfl rfl ?_
        refine fmg_14_wake (pc := 57) F  hin_X6 dX6_setWater_57 (List.mem_of_getElem? (i := 3) rfl) ?_
        refine fmV_iload_n (pc := 60) (i := 1) F dX6_setWater_60 rfl rfl ?_
        refine fmal_17 (pc := 61) F  dX6_setWater_61 (fm_in hx2 (show x.toNatClampNeg < _ by omega) (by decide)) rfl ?_
        refine fmV_iadd (pc := 62) F dX6_setWater_62 ?_
        refine fmV_istore (pc := 63) (i := 4) F dX6_setWater_63 (by decide) ?_
        refine fmV_aload_n (pc := 65) (i := 0) F dX6_setWater_65 rfl rfl ?_
        refine fmg_14_tide (pc := 66) F  hin_X6 dX6_setWater_66 (List.mem_of_getElem? (i := 2) rfl) ?_
        refine fmV_iload_n (pc := 69) (i := 1) F dX6_setWater_69 rfl rfl ?_
        refine fmV_iload_n (pc := 70) (i := 2) F dX6_setWater_70 rfl rfl ?_
        refine fmas_16 (pc := 71) F  dX6_setWater_71 (fm_in hx2 (show x.toNatClampNeg < _ by omega) (by decide)) rfl ?_
        refine fmV_aload_n (pc := 72) (i := 0) F dX6_setWater_72 rfl rfl ?_
        refine fmg_14_wake (pc := 73) F  hin_X6 dX6_setWater_73 (List.mem_of_getElem? (i := 3) rfl) ?_
        refine fmV_iload_n (pc := 76) (i := 1) F dX6_setWater_76 rfl rfl ?_
        refine fmV_iload_n (pc := 77) (i := 3) F dX6_setWater_77 rfl rfl ?_
        refine fmas_17 (pc := 78) F  dX6_setWater_78 (fm_in hx2 (show x.toNatClampNeg < _ by omega) (by decide)) rfl ?_
        refine fmV_iload (pc := 79) (i := 4) F dX6_setWater_79 rfl ?_
        refine fmV_xr ?_
        exact fmV_iret (pc := 81) F dX6_setWater_81 rfl (Or.inr ⟨(fm_q1 a1), (Or.inr ⟨(fun q => q.elim (fm_q1 a2) (fm_q1 a3)), ⟨rfl, rfl⟩⟩)⟩)
      · refine fmV_aload_n (pc := 41) (i := 0) F dX6_setWater_41 rfl rfl ?_
        refine fmV_iconst (pc := 42) (v := 2) F dX6_setWater_42 rfl ?_
        refine fmV_xVi (n := 1) (pc := 43) F hX (c_X6_no l D A G τ o 2) gX6_setWater_X6_no rfl rfl rfl (by decide +kernel) ⟨Nat.le_of_ble_eq_true rfl, Nat.le_of_ble_eq_true rfl⟩ (fmR_14 F ) rfl rfl (Nat.le_of_ble_eq_true rfl) dX6_setWater_43 ⟨Nat.le_of_ble_eq_true rfl, Nat.le_of_ble_eq_true rfl⟩ (fun _ _ h9 => False.elim h9) (fun r14 u13 hc15 => ?_)
        obtain ⟨hr9, hu9⟩ := hc15
        have hr9 := hr9.symm
        have hu9 := hu9.symm
        subst hr9
        subst hu9
        refine fmV_xr ?_
        exact fmV_iret (pc := 46) F dX6_setWater_46 rfl (Or.inr ⟨(fm_q1 a1), (Or.inl ⟨Or.inr (fm_q0 a3), rfl, rfl⟩)⟩)
  · refine fmV_aload_n (pc := 15) (i := 0) F dX6_setWater_15 rfl rfl ?_
    refine fmV_iconst (pc := 16) (v := 1) F dX6_setWater_16 rfl ?_
    refine fmV_xVi (n := 1) (pc := 17) F hX (c_X6_no l D A G τ o 1) gX6_setWater_X6_no rfl rfl rfl (by decide +kernel) ⟨Nat.le_of_ble_eq_true rfl, Nat.le_of_ble_eq_true rfl⟩ (fmR_14 F ) rfl rfl (Nat.le_of_ble_eq_true rfl) dX6_setWater_17 ⟨Nat.le_of_ble_eq_true rfl, Nat.le_of_ble_eq_true rfl⟩ (fun _ _ h9 => False.elim h9) (fun r17 u16 hc18 => ?_)
    obtain ⟨hr9, hu9⟩ := hc18
    have hr9 := hr9.symm
    have hu9 := hu9.symm
    subst hr9
    subst hu9
    refine fmV_xr ?_
    exact fmV_iret (pc := 20) F dX6_setWater_20 rfl (Or.inl ⟨fm_q0 a1, rfl, rfl⟩)

set_option maxHeartbeats 4000000 in
set_option maxRecDepth 100000 in
theorem c_X6_addCanoe (l : Launch) (D : va_G) (A : Nat → Prop) (G : fmG) (σ : fmS) (o : Nat → Int64) {rc cc t : Nat} (hcc : cc ≤ 14) (h63 : σ 63 0 0 0 = nI cc) (hrc : rc ≤ 4) (h62 : σ 62 0 0 0 = nI rc) (ht : t + 200 < 2 ^ 30) (h64 : σ 64 0 0 0 = nI t) (x y : Int32) : fmXi l D A G yX6_addCanoe wsX6_addCanoe (fmRm 3 0 0) 0 0 [.ref (G.1 14 0 0), .int x, .int y] σ o (fun r u => gRes (gz σ) (r = nI cc ∧ u = fmu (fmu (fmu (fmu (gz σ) 24 0 0 (upd ((gz σ) 24 0 0) cc x)) 29 0 0 (upd ((gz σ) 29 0 0) cc (-1))) 18 0 0 (upd ((gz σ) 18 0 0) cc y)) 63 0 0 (fun _ => nI (cc + 1))) r u [(1, (x < 0 ∨ 500 < x) ∨ (y < 0 ∨ 9 < y)), (2, (gz σ) 63 0 0 0 = 14)]) (fun _ _ => False) := by
  refine fmXi_of (cc := cX6_addCanoe) (maxL := 3) (ret := (some .int)) (by decide +kernel) rfl (Nat.le_of_ble_eq_true rfl) ?_
  intro P_ E_ S_ M_ args_ below_ meth_ C_ F hX hnt
  have hin_X6 : ∀ w ∈ wsX60, w ∈ wsX6_addCanoe := (fun _ h => List.mem_cons_of_mem _ (List.mem_append_left _ (List.mem_append_right _ h)))
  have hin_X5 : ∀ w ∈ wsX50, w ∈ wsX6_addCanoe := (fun _ h => List.mem_cons_of_mem _ (List.mem_append_right _ h))
  have hb0 : (0 : Nat) < 2 := by decide
  have hb1 : (1 : Nat) < 2 := by decide
  refine fmV_aload_n (pc := 0) (i := 0) F dX6_addCanoe_0 rfl rfl ?_
  refine fmV_iconst (pc := 1) (v := 0) F dX6_addCanoe_1 rfl ?_
  refine fmp_14_thrown (pc := 2) F  hin_X6 dX6_addCanoe_2 (List.mem_of_getElem? (i := 1) rfl) ?_
  have g63 : gz σ 63 0 0 0 = nI cc := by rw [gz_c (by decide)]; exact h63
  have g62 : gz σ 62 0 0 0 = nI rc := by rw [gz_c (by decide)]; exact h62
  have g64 : gz σ 64 0 0 0 = nI t := by rw [gz_c (by decide)]; exact h64
  refine fmV_sg (σ1 := gz σ) rfl ?_
  generalize gz σ = τ at g62 g63 g64 ⊢
  refine fmV_iload_n (pc := 5) (i := 1) F dX6_addCanoe_5 rfl rfl ?_
  refine fmV_iconst (pc := 6) (v := 0) F dX6_addCanoe_6 rfl ?_
  refine fmV_sipush (pc := 7) (v := 500) F dX6_addCanoe_7 (by decide) ?_
  refine fmV_xSi (n := 3) (pc := 10) F hX (c_X6_isIn l D A G τ o x 0 500) gX6_addCanoe_X6_isIn rfl rfl rfl (by decide +kernel) ⟨Nat.le_of_ble_eq_true rfl, Nat.le_of_ble_eq_true rfl⟩ rfl rfl (Nat.le_of_ble_eq_true rfl) dX6_addCanoe_10 ⟨Nat.le_of_ble_eq_true rfl, Nat.le_of_ble_eq_true rfl⟩ (fun _ _ h9 => False.elim h9) (fun r2 u1 hc3 => ?_)
  obtain ⟨hr9, hu9⟩ := hc3
  have hr9 := hr9.symm
  have hu9 := hu9.symm
  subst hr9
  subst hu9
  refine fmV_if_eq (pc := 13) (tgt := 26) F dX6_addCanoe_13 (by decide) (fun a1 => ?_) (fun a1 => ?_)
  · refine fmV_aload_n (pc := 26) (i := 0) F dX6_addCanoe_26 rfl rfl ?_
    refine fmV_iconst (pc := 27) (v := 1) F dX6_addCanoe_27 rfl ?_
    refine fmV_xVi (n := 1) (pc := 28) F hX (c_X6_no l D A G τ o 1) gX6_addCanoe_X6_no rfl rfl rfl (by decide +kernel) ⟨Nat.le_of_ble_eq_true rfl, Nat.le_of_ble_eq_true rfl⟩ (fmR_14 F ) rfl rfl (Nat.le_of_ble_eq_true rfl) dX6_addCanoe_28 ⟨Nat.le_of_ble_eq_true rfl, Nat.le_of_ble_eq_true rfl⟩ (fun _ _ h9 => False.elim h9) (fun r5 u4 hc6 => ?_)
    obtain ⟨hr9, hu9⟩ := hc6
    have hr9 := hr9.symm
    have hu9 := hu9.symm
    subst hr9
    subst hu9
    refine fmV_xr ?_
    exact fmV_iret (pc := 31) F dX6_addCanoe_31 rfl (Or.inl ⟨Or.inl (fm_q0 a1), rfl, rfl⟩)
  · refine fmV_iload_n (pc := 16) (i := 2) F dX6_addCanoe_16 rfl rfl ?_
    refine fmV_iconst (pc := 17) (v := 0) F dX6_addCanoe_17 rfl ?_
    refine fmV_bipush (pc := 18) (v := 9) F dX6_addCanoe_18 (by decide) ?_
    refine fmV_xSi (n := 3) (pc := 20) F hX (c_X6_isIn l D A G τ o y 0 9) gX6_addCanoe_X6_isIn rfl rfl rfl (by decide +kernel) ⟨Nat.le_of_ble_eq_true rfl, Nat.le_of_ble_eq_true rfl⟩ rfl rfl (Nat.le_of_ble_eq_true rfl) dX6_addCanoe_20 ⟨Nat.le_of_ble_eq_true rfl, Nat.le_of_ble_eq_true rfl⟩ (fun _ _ h9 => False.elim h9) (fun r8 u7 hc9 => ?_)
    obtain ⟨hr9, hu9⟩ := hc9
    have hr9 := hr9.symm
    have hu9 := hu9.symm
    subst hr9
    subst hu9
    refine fmV_if_ne (pc := 23) (tgt := 32) F dX6_addCanoe_23 (by decide) (fun a2 => ?_) (fun a2 => ?_)
    · refine fmV_aload_n (pc := 32) (i := 0) F dX6_addCanoe_32 rfl rfl ?_
      refine fmg_14_canoes (pc := 33) F  hin_X6 dX6_addCanoe_33 (List.mem_of_getElem? (i := 2) rfl) ?_
      refine fmV_bipush (pc := 36) (v := 14) F dX6_addCanoe_36 (by decide) ?_
      refine fmV_icmp_ne (pc := 38) (tgt := 47) F dX6_addCanoe_38 (by decide) (fun a3 => ?_) (fun a3 => ?_)
      · have hcc4 : cc < 14 := by
          rcases Nat.lt_or_ge cc 14 with q | q
          · exact q
          · exact absurd (by rw [g63, show cc = 14 by omega]; rfl) a3
        refine fmV_aload_n (pc := 47) (i := 0) F dX6_addCanoe_47 rfl rfl ?_
        refine fmg_14_s (pc := 48) F  hin_X6 dX6_addCanoe_48 (List.mem_of_getElem? (i := 3) rfl) ?_
        refine fmgN_23_coins (pc := 51) F hX (by assumption) hin_X5 dX6_addCanoe_51 (List.mem_of_getElem? (i := 9) rfl) ?_
        refine fmV_aload_n (pc := 54) (i := 0) F dX6_addCanoe_54 rfl rfl ?_
        refine fmg_14_canoes (pc := 55) F  hin_X6 dX6_addCanoe_55 (List.mem_of_getElem? (i := 2) rfl) ?_
        refine fmV_iload_n (pc := 58) (i := 1) F dX6_addCanoe_58 rfl rfl ?_
        refine fmas_24 (pc := 59) F (by assumption) dX6_addCanoe_59 (fm_in g63 hcc4 (by decide)) (fm_cl g63 (by omega)) ?_
        refine fmV_aload_n (pc := 60) (i := 0) F dX6_addCanoe_60 rfl rfl ?_
        refine fmg_14_s (pc := 61) F  hin_X6 dX6_addCanoe_61 (List.mem_of_getElem? (i := 3) rfl) ?_
        refine fmgN_23_leaves (pc := 64) F hX (by assumption) hin_X5 dX6_addCanoe_64 (List.mem_of_getElem? (i := 14) rfl) ?_
        refine fmV_aload_n (pc := 67) (i := 0) F dX6_addCanoe_67 rfl rfl ?_
        refine fmg_14_canoes (pc := 68) F  hin_X6 dX6_addCanoe_68 (List.mem_of_getElem? (i := 2) rfl) ?_
        refine fmV_iconst (pc := 71) (v := (-1)) F dX6_addCanoe_71 rfl ?_
        refine fmas_29 (pc := 72) F (by assumption) dX6_addCanoe_72 (fm_in g63 hcc4 (by decide)) (fm_cl g63 (by omega)) ?_
        refine fmV_aload_n (pc := 73) (i := 0) F dX6_addCanoe_73 rfl rfl ?_
        refine fmg_14_rope (pc := 74) F  hin_X6 dX6_addCanoe_74 (List.mem_of_getElem? (i := 4) rfl) ?_
        refine fmV_aload_n (pc := 77) (i := 0) F dX6_addCanoe_77 rfl rfl ?_
        refine fmg_14_canoes (pc := 78) F  hin_X6 dX6_addCanoe_78 (List.mem_of_getElem? (i := 2) rfl) ?_
        refine fmV_iload_n (pc := 81) (i := 2) F dX6_addCanoe_81 rfl rfl ?_
        refine fmas_18 (pc := 82) F  dX6_addCanoe_82 (fm_in g63 hcc4 (by decide)) (fm_cl g63 (by omega)) ?_
        refine fmV_aload_n (pc := 83) (i := 0) F dX6_addCanoe_83 rfl rfl ?_
        refine fmV_dup (pc := 84) F dX6_addCanoe_84 rfl ?_
        refine fmg_14_canoes (pc := 85) F  hin_X6 dX6_addCanoe_85 (List.mem_of_getElem? (i := 2) rfl) ?_
        refine fmV_iconst (pc := 88) (v := 1) F dX6_addCanoe_88 rfl ?_
        refine fmV_iadd (pc := 89) F dX6_addCanoe_89 ?_
        refine fmp_14_canoes (pc := 90) F  hin_X6 dX6_addCanoe_90 (List.mem_of_getElem? (i := 2) rfl) ?_
        refine fmV_sg (σ1 := fmu (fmu (fmu (fmu τ 24 0 0 (upd (τ 24 0 0) cc x)) 29 0 0 (upd (τ 29 0 0) cc (-1))) 18 0 0 (upd (τ 18 0 0) cc y)) 63 0 0 (fun _ => nI (cc + 1))) (by rw [nI_succ, ← g63]; rfl) ?_
        refine fmV_aload_n (pc := 93) (i := 0) F dX6_addCanoe_93 rfl rfl ?_
        refine fmg_14_canoes (pc := 94) F  hin_X6 dX6_addCanoe_94 (List.mem_of_getElem? (i := 2) rfl) ?_
        refine fmV_iconst (pc := 97) (v := 1) F dX6_addCanoe_97 rfl ?_
        refine fmV_isub (pc := 98) F dX6_addCanoe_98 ?_
        refine fmV_xr ?_
        exact fmV_iret (pc := 99) F dX6_addCanoe_99 rfl (Or.inr ⟨(fun q => q.elim (fm_q1 a1) (fm_q1 a2)), (Or.inr ⟨a3, ⟨nI_pred cc, rfl⟩⟩)⟩)
      · refine fmV_aload_n (pc := 41) (i := 0) F dX6_addCanoe_41 rfl rfl ?_
        refine fmV_iconst (pc := 42) (v := 2) F dX6_addCanoe_42 rfl ?_
        refine fmV_xVi (n := 1) (pc := 43) F hX (c_X6_no l D A G τ o 2) gX6_addCanoe_X6_no rfl rfl rfl (by decide +kernel) ⟨Nat.le_of_ble_eq_true rfl, Nat.le_of_ble_eq_true rfl⟩ (fmR_14 F ) rfl rfl (Nat.le_of_ble_eq_true rfl) dX6_addCanoe_43 ⟨Nat.le_of_ble_eq_true rfl, Nat.le_of_ble_eq_true rfl⟩ (fun _ _ h9 => False.elim h9) (fun r11 u10 hc12 => ?_)
        obtain ⟨hr9, hu9⟩ := hc12
        have hr9 := hr9.symm
        have hu9 := hu9.symm
        subst hr9
        subst hu9
        refine fmV_xr ?_
        exact fmV_iret (pc := 46) F dX6_addCanoe_46 rfl (Or.inr ⟨(fun q => q.elim (fm_q1 a1) (fm_q1 a2)), (Or.inl ⟨a3, rfl, rfl⟩)⟩)
    · refine fmV_aload_n (pc := 26) (i := 0) F dX6_addCanoe_26 rfl rfl ?_
      refine fmV_iconst (pc := 27) (v := 1) F dX6_addCanoe_27 rfl ?_
      refine fmV_xVi (n := 1) (pc := 28) F hX (c_X6_no l D A G τ o 1) gX6_addCanoe_X6_no rfl rfl rfl (by decide +kernel) ⟨Nat.le_of_ble_eq_true rfl, Nat.le_of_ble_eq_true rfl⟩ (fmR_14 F ) rfl rfl (Nat.le_of_ble_eq_true rfl) dX6_addCanoe_28 ⟨Nat.le_of_ble_eq_true rfl, Nat.le_of_ble_eq_true rfl⟩ (fun _ _ h9 => False.elim h9) (fun r14 u13 hc15 => ?_)
      obtain ⟨hr9, hu9⟩ := hc15
      have hr9 := hr9.symm
      have hu9 := hu9.symm
      subst hr9
      subst hu9
      refine fmV_xr ?_
      exact fmV_iret (pc := 31) F dX6_addCanoe_31 rfl (Or.inl ⟨Or.inr (fm_q0 a2), rfl, rfl⟩)

set_option maxHeartbeats 4000000 in
set_option maxRecDepth 100000 in
theorem c_X6_load (l : Launch) (D : va_G) (A : Nat → Prop) (G : fmG) (σ : fmS) (o : Nat → Int64) {rc cc t : Nat} (hcc : cc ≤ 14) (h63 : σ 63 0 0 0 = nI cc) (hrc : rc ≤ 4) (h62 : σ 62 0 0 0 = nI rc) (ht : t + 200 < 2 ^ 30) (h64 : σ 64 0 0 0 = nI t) (x y z : Int32) : fmXi l D A G yX6_load wsX6_load (fmRm 3 0 0) 0 0 [.ref (G.1 14 0 0), .int x, .int y, .int z] σ o (fun r u => gRes (gz σ) (r = (gz σ) 25 0 0 (4 * x.toNatClampNeg + y.toNatClampNeg) + z ∧ u = fmu (gz σ) 25 0 0 (upd ((gz σ) 25 0 0) (4 * x.toNatClampNeg + y.toNatClampNeg) ((gz σ) 25 0 0 (4 * x.toNatClampNeg + y.toNatClampNeg) + z))) r u [(1, (x < 0 ∨ nI cc ≤ x) ∨ (y < 0 ∨ 3 < y)), (2, z < 1 ∨ 40 < z), (3, ((gz σ) 26 0 0 x.toNatClampNeg = 2) ∨ (100 < (gz σ) 25 0 0 (4 * x.toNatClampNeg + y.toNatClampNeg) + z))]) (fun _ _ => False) := by
  refine fmXi_of (cc := cX6_load) (maxL := 5) (ret := (some .int)) (by decide +kernel) rfl (Nat.le_of_ble_eq_true rfl) ?_
  intro P_ E_ S_ M_ args_ below_ meth_ C_ F hX hnt
  have hin_X6 : ∀ w ∈ wsX60, w ∈ wsX6_load := (fun _ h => List.mem_cons_of_mem _ (List.mem_append_left _ (List.mem_append_right _ h)))
  have hin_X5 : ∀ w ∈ wsX50, w ∈ wsX6_load := (fun _ h => List.mem_cons_of_mem _ (List.mem_append_right _ h))
  have hb0 : (0 : Nat) < 2 := by decide
  have hb1 : (1 : Nat) < 2 := by decide
  refine fmV_aload_n (pc := 0) (i := 0) F dX6_load_0 rfl rfl ?_
  refine fmV_iconst (pc := 1) (v := 0) F dX6_load_1 rfl ?_
  refine fmp_14_thrown (pc := 2) F  hin_X6 dX6_load_2 (List.mem_of_getElem? (i := 1) rfl) ?_
  have g63 : gz σ 63 0 0 0 = nI cc := by rw [gz_c (by decide)]; exact h63
  have g62 : gz σ 62 0 0 0 = nI rc := by rw [gz_c (by decide)]; exact h62
  have g64 : gz σ 64 0 0 0 = nI t := by rw [gz_c (by decide)]; exact h64
  refine fmV_sg (σ1 := gz σ) rfl ?_
  generalize gz σ = τ at g62 g63 g64 ⊢
  refine fmV_aload_n (pc := 5) (i := 0) F dX6_load_5 rfl rfl ?_
  refine fmV_iload_n (pc := 6) (i := 1) F dX6_load_6 rfl rfl ?_
  refine fmV_xVi (n := 1) (pc := 7) F hX (c_X6_isCanoe l D A G τ o hcc g63 x) gX6_load_X6_isCanoe rfl rfl rfl (by decide +kernel) ⟨Nat.le_of_ble_eq_true rfl, Nat.le_of_ble_eq_true rfl⟩ (fmR_14 F ) rfl rfl (Nat.le_of_ble_eq_true rfl) dX6_load_7 ⟨Nat.le_of_ble_eq_true rfl, Nat.le_of_ble_eq_true rfl⟩ (fun _ _ h9 => False.elim h9) (fun r2 u1 hc3 => ?_)
  obtain ⟨hr9, hu9⟩ := hc3
  have hr9 := hr9.symm
  have hu9 := hu9.symm
  subst hr9
  subst hu9
  refine fmV_if_eq (pc := 10) (tgt := 20) F dX6_load_10 (by decide) (fun a1 => ?_) (fun a1 => ?_)
  · refine fmV_aload_n (pc := 20) (i := 0) F dX6_load_20 rfl rfl ?_
    refine fmV_iconst (pc := 21) (v := 1) F dX6_load_21 rfl ?_
    refine fmV_xVi (n := 1) (pc := 22) F hX (c_X6_no l D A G τ o 1) gX6_load_X6_no rfl rfl rfl (by decide +kernel) ⟨Nat.le_of_ble_eq_true rfl, Nat.le_of_ble_eq_true rfl⟩ (fmR_14 F ) rfl rfl (Nat.le_of_ble_eq_true rfl) dX6_load_22 ⟨Nat.le_of_ble_eq_true rfl, Nat.le_of_ble_eq_true rfl⟩ (fun _ _ h9 => False.elim h9) (fun r5 u4 hc6 => ?_)
    obtain ⟨hr9, hu9⟩ := hc6
    have hr9 := hr9.symm
    have hu9 := hu9.symm
    subst hr9
    subst hu9
    refine fmV_xr ?_
    exact fmV_iret (pc := 25) F dX6_load_25 rfl (Or.inl ⟨Or.inl (fm_q0 a1), rfl, rfl⟩)
  · refine fmV_iload_n (pc := 13) (i := 2) F dX6_load_13 rfl rfl ?_
    refine fmV_xSi (n := 1) (pc := 14) F hX (c_X6_isGood l D A G τ o y) gX6_load_X6_isGood rfl rfl rfl (by decide +kernel) ⟨Nat.le_of_ble_eq_true rfl, Nat.le_of_ble_eq_true rfl⟩ rfl rfl (Nat.le_of_ble_eq_true rfl) dX6_load_14 ⟨Nat.le_of_ble_eq_true rfl, Nat.le_of_ble_eq_true rfl⟩ (fun _ _ h9 => False.elim h9) (fun r8 u7 hc9 => ?_)
    obtain ⟨hr9, hu9⟩ := hc9
    have hr9 := hr9.symm
    have hu9 := hu9.symm
    subst hr9
    subst hu9
    refine fmV_if_ne (pc := 17) (tgt := 26) F dX6_load_17 (by decide) (fun a2 => ?_) (fun a2 => ?_)
    · refine fmV_iload_n (pc := 26) (i := 3) F dX6_load_26 rfl rfl ?_
      refine fmV_iconst (pc := 27) (v := 1) F dX6_load_27 rfl ?_
      refine fmV_bipush (pc := 28) (v := 40) F dX6_load_28 (by decide) ?_
      refine fmV_xSi (n := 3) (pc := 30) F hX (c_X6_isIn l D A G τ o z 1 40) gX6_load_X6_isIn rfl rfl rfl (by decide +kernel) ⟨Nat.le_of_ble_eq_true rfl, Nat.le_of_ble_eq_true rfl⟩ rfl rfl (Nat.le_of_ble_eq_true rfl) dX6_load_30 ⟨Nat.le_of_ble_eq_true rfl, Nat.le_of_ble_eq_true rfl⟩ (fun _ _ h9 => False.elim h9) (fun r11 u10 hc12 => ?_)
      obtain ⟨hr9, hu9⟩ := hc12
      have hr9 := hr9.symm
      have hu9 := hu9.symm
      subst hr9
      subst hu9
      refine fmV_if_ne (pc := 33) (tgt := 42) F dX6_load_33 (by decide) (fun a3 => ?_) (fun a3 => ?_)
      · obtain ⟨hx1, hx2⟩ := fm_ixc (x := x) (n := cc) (fm_q1 a1) (by omega)
        have hx14 : x.toNatClampNeg < 14 := by omega
        obtain ⟨hy0, hy1, hy2⟩ := fm_rgc (x := y) (lo := 0) (hi := 3) (fm_q1 a2) (by decide) (by decide)
        have e4 : (4 : Int32) * x + y = nI (4 * x.toNatClampNeg + y.toNatClampNeg) := by have q := fm_e4 x.toNatClampNeg y.toNatClampNeg; rw [← hx2, ← hy2] at q; exact q
        refine fmV_iconst (pc := 42) (v := 4) F dX6_load_42 rfl ?_
        refine fmV_iload_n (pc := 43) (i := 1) F dX6_load_43 rfl rfl ?_
        refine fmV_imul (pc := 44) F dX6_load_44 ?_
        refine fmV_iload_n (pc := 45) (i := 2) F dX6_load_45 rfl rfl ?_
        refine fmV_iadd (pc := 46) F dX6_load_46 ?_
        rw [e4]
        refine fmV_istore (pc := 47) (i := 4) F dX6_load_47 (by decide) ?_
        refine fmV_aload_n (pc := 49) (i := 0) F dX6_load_49 rfl rfl ?_
        refine fmg_14_s (pc := 50) F  hin_X6 dX6_load_50 (List.mem_of_getElem? (i := 2) rfl) ?_
        refine fmgN_23_is (pc := 53) F hX (by assumption) hin_X5 dX6_load_53 (List.mem_of_getElem? (i := 11) rfl) ?_
        refine fmV_iload_n (pc := 56) (i := 1) F dX6_load_56 rfl rfl ?_
        refine fmal_26 (pc := 57) F (by assumption) dX6_load_57 (fm_in hx2 (show x.toNatClampNeg < _ by omega) (by decide)) rfl ?_
        refine fmV_iconst (pc := 58) (v := 2) F dX6_load_58 rfl ?_
        refine fmV_icmp_eq (pc := 59) (tgt := 79) F dX6_load_59 (by decide) (fun a4 => ?_) (fun a4 => ?_)
        · refine fmV_aload_n (pc := 79) (i := 0) F dX6_load_79 rfl rfl ?_
          refine fmV_iconst (pc := 80) (v := 3) F dX6_load_80 rfl ?_
          refine fmV_xVi (n := 1) (pc := 81) F hX (c_X6_no l D A G τ o 3) gX6_load_X6_no rfl rfl rfl (by decide +kernel) ⟨Nat.le_of_ble_eq_true rfl, Nat.le_of_ble_eq_true rfl⟩ (fmR_14 F ) rfl rfl (Nat.le_of_ble_eq_true rfl) dX6_load_81 ⟨Nat.le_of_ble_eq_true rfl, Nat.le_of_ble_eq_true rfl⟩ (fun _ _ h9 => False.elim h9) (fun r14 u13 hc15 => ?_)
          obtain ⟨hr9, hu9⟩ := hc15
          have hr9 := hr9.symm
          have hu9 := hu9.symm
          subst hr9
          subst hu9
          refine fmV_xr ?_
          exact fmV_iret (pc := 84) F dX6_load_84 rfl (Or.inr ⟨(fun q => q.elim (fm_q1 a1) (fm_q1 a2)), (Or.inr ⟨(fm_q1 a3), (Or.inl ⟨Or.inl (a4), rfl, rfl⟩)⟩)⟩)
        · refine fmV_aload_n (pc := 62) (i := 0) F dX6_load_62 rfl rfl ?_
          refine fmg_14_s (pc := 63) F  hin_X6 dX6_load_63 (List.mem_of_getElem? (i := 2) rfl) ?_
          refine fmgN_23_has (pc := 66) F hX (by assumption) hin_X5 dX6_load_66 (List.mem_of_getElem? (i := 10) rfl) ?_
          refine fmV_iload (pc := 69) (i := 4) F dX6_load_69 rfl ?_
          refine fmal_25 (pc := 71) F (by assumption) dX6_load_71 (vp_in_nI (by omega) (by decide)) (fm_cn (by omega)) ?_
          refine fmV_iload_n (pc := 72) (i := 3) F dX6_load_72 rfl rfl ?_
          refine fmV_iadd (pc := 73) F dX6_load_73 ?_
          refine fmV_bipush (pc := 74) (v := 100) F dX6_load_74 (by decide) ?_
          refine fmV_icmp_le (pc := 76) (tgt := 85) F dX6_load_76 (by decide) (fun a5 => ?_) (fun a5 => ?_)
          · refine fmV_aload_n (pc := 85) (i := 0) F dX6_load_85 rfl rfl ?_
            refine fmg_14_s (pc := 86) F  hin_X6 dX6_load_86 (List.mem_of_getElem? (i := 2) rfl) ?_
            refine fmgN_23_has (pc := 89) F hX (by assumption) hin_X5 dX6_load_89 (List.mem_of_getElem? (i := 10) rfl) ?_
            refine fmV_iload (pc := 92) (i := 4) F dX6_load_92 rfl ?_
            refine fmV_dup2 (pc := 94) F dX6_load_94 rfl rfl ?_
            refine fmal_25 (pc := 95) F (by assumption) dX6_load_95 (vp_in_nI (by omega) (by decide)) (fm_cn (by omega)) ?_
            refine fmV_iload_n (pc := 96) (i := 3) F dX6_load_96 rfl rfl ?_
            refine fmV_iadd (pc := 97) F dX6_load_97 ?_
            refine fmas_25 (pc := 98) F (by assumption) dX6_load_98 (vp_in_nI (by omega) (by decide)) (fm_cn (by omega)) ?_
            refine fmV_aload_n (pc := 99) (i := 0) F dX6_load_99 rfl rfl ?_
            refine fmg_14_s (pc := 100) F  hin_X6 dX6_load_100 (List.mem_of_getElem? (i := 2) rfl) ?_
            refine fmgN_23_has (pc := 103) F hX (by assumption) hin_X5 dX6_load_103 (List.mem_of_getElem? (i := 10) rfl) ?_
            refine fmV_iload (pc := 106) (i := 4) F dX6_load_106 rfl ?_
            refine fmal_25 (pc := 108) F (by assumption) dX6_load_108 (vp_in_nI (by omega) (by decide)) (fm_cn (by omega)) ?_
            refine fmV_xr ?_
            exact fmV_iret (pc := 109) F dX6_load_109 rfl (Or.inr ⟨(fun q => q.elim (fm_q1 a1) (fm_q1 a2)), (Or.inr ⟨(fm_q1 a3), (Or.inr ⟨(fun q => q.elim a4 (Int32.not_lt.mpr a5)), ⟨by rw [fmu_self, fm_upd_same], rfl⟩⟩)⟩)⟩)
          · refine fmV_aload_n (pc := 79) (i := 0) F dX6_load_79 rfl rfl ?_
            refine fmV_iconst (pc := 80) (v := 3) F dX6_load_80 rfl ?_
            refine fmV_xVi (n := 1) (pc := 81) F hX (c_X6_no l D A G τ o 3) gX6_load_X6_no rfl rfl rfl (by decide +kernel) ⟨Nat.le_of_ble_eq_true rfl, Nat.le_of_ble_eq_true rfl⟩ (fmR_14 F ) rfl rfl (Nat.le_of_ble_eq_true rfl) dX6_load_81 ⟨Nat.le_of_ble_eq_true rfl, Nat.le_of_ble_eq_true rfl⟩ (fun _ _ h9 => False.elim h9) (fun r17 u16 hc18 => ?_)
            obtain ⟨hr9, hu9⟩ := hc18
            have hr9 := hr9.symm
            have hu9 := hu9.symm
            subst hr9
            subst hu9
            refine fmV_xr ?_
            exact fmV_iret (pc := 84) F dX6_load_84 rfl (Or.inr ⟨(fun q => q.elim (fm_q1 a1) (fm_q1 a2)), (Or.inr ⟨(fm_q1 a3), (Or.inl ⟨Or.inr (Int32.not_le.mp a5), rfl, rfl⟩)⟩)⟩)
      · refine fmV_aload_n (pc := 36) (i := 0) F dX6_load_36 rfl rfl ?_
        refine fmV_iconst (pc := 37) (v := 2) F dX6_load_37 rfl ?_
        refine fmV_xVi (n := 1) (pc := 38) F hX (c_X6_no l D A G τ o 2) gX6_load_X6_no rfl rfl rfl (by decide +kernel) ⟨Nat.le_of_ble_eq_true rfl, Nat.le_of_ble_eq_true rfl⟩ (fmR_14 F ) rfl rfl (Nat.le_of_ble_eq_true rfl) dX6_load_38 ⟨Nat.le_of_ble_eq_true rfl, Nat.le_of_ble_eq_true rfl⟩ (fun _ _ h9 => False.elim h9) (fun r20 u19 hc21 => ?_)
        obtain ⟨hr9, hu9⟩ := hc21
        have hr9 := hr9.symm
        have hu9 := hu9.symm
        subst hr9
        subst hu9
        refine fmV_xr ?_
        exact fmV_iret (pc := 41) F dX6_load_41 rfl (Or.inr ⟨(fun q => q.elim (fm_q1 a1) (fm_q1 a2)), (Or.inl ⟨fm_q0 a3, rfl, rfl⟩)⟩)
    · refine fmV_aload_n (pc := 20) (i := 0) F dX6_load_20 rfl rfl ?_
      refine fmV_iconst (pc := 21) (v := 1) F dX6_load_21 rfl ?_
      refine fmV_xVi (n := 1) (pc := 22) F hX (c_X6_no l D A G τ o 1) gX6_load_X6_no rfl rfl rfl (by decide +kernel) ⟨Nat.le_of_ble_eq_true rfl, Nat.le_of_ble_eq_true rfl⟩ (fmR_14 F ) rfl rfl (Nat.le_of_ble_eq_true rfl) dX6_load_22 ⟨Nat.le_of_ble_eq_true rfl, Nat.le_of_ble_eq_true rfl⟩ (fun _ _ h9 => False.elim h9) (fun r23 u22 hc24 => ?_)
      obtain ⟨hr9, hu9⟩ := hc24
      have hr9 := hr9.symm
      have hu9 := hu9.symm
      subst hr9
      subst hu9
      refine fmV_xr ?_
      exact fmV_iret (pc := 25) F dX6_load_25 rfl (Or.inl ⟨Or.inr (fm_q0 a2), rfl, rfl⟩)

set_option maxHeartbeats 4000000 in
set_option maxRecDepth 100000 in
theorem c_X6_offer (l : Launch) (D : va_G) (A : Nat → Prop) (G : fmG) (σ : fmS) (o : Nat → Int64) {rc cc t : Nat} (hcc : cc ≤ 14) (h63 : σ 63 0 0 0 = nI cc) (hrc : rc ≤ 4) (h62 : σ 62 0 0 0 = nI rc) (ht : t + 200 < 2 ^ 30) (h64 : σ 64 0 0 0 = nI t) (x y z w v : Int32) : fmXi l D A G yX6_offer wsX6_offer (fmRm 3 0 0) 0 0 [.ref (G.1 14 0 0), .int x, .int y, .int z, .int w, .int v] σ o (fun r u => gRes (gz σ) (r = gMs (gOffer (gz σ) x.toNatClampNeg y.toNatClampNeg z w v) 0 x.toNatClampNeg y.toNatClampNeg ∧ u = gOffer (gz σ) x.toNatClampNeg y.toNatClampNeg z w v) r u [(1, (x < 0 ∨ nI cc ≤ x) ∨ (y < 0 ∨ 3 < y)), (2, (z < 0 ∨ 20 < z) ∨ (v < 0 ∨ 20 < v) ∨ (w < 0 ∨ 40 < w))]) (fun _ _ => False) := by
  refine fmXi_of (cc := cX6_offer) (maxL := 7) (ret := (some .int)) (by decide +kernel) rfl (Nat.le_of_ble_eq_true rfl) ?_
  intro P_ E_ S_ M_ args_ below_ meth_ C_ F hX hnt
  have hin_X6 : ∀ w ∈ wsX60, w ∈ wsX6_offer := (fun _ h => List.mem_cons_of_mem _ (List.mem_append_left _ (List.mem_append_right _ h)))
  have hin_X5 : ∀ w ∈ wsX50, w ∈ wsX6_offer := (fun _ h => List.mem_cons_of_mem _ (List.mem_append_right _ h))
  have hb0 : (0 : Nat) < 2 := by decide
  have hb1 : (1 : Nat) < 2 := by decide
  refine fmV_aload_n (pc := 0) (i := 0) F dX6_offer_0 rfl rfl ?_
  refine fmV_iconst (pc := 1) (v := 0) F dX6_offer_1 rfl ?_
  refine fmp_14_thrown (pc := 2) F  hin_X6 dX6_offer_2 (List.mem_of_getElem? (i := 1) rfl) ?_
  have g63 : gz σ 63 0 0 0 = nI cc := by rw [gz_c (by decide)]; exact h63
  have g62 : gz σ 62 0 0 0 = nI rc := by rw [gz_c (by decide)]; exact h62
  have g64 : gz σ 64 0 0 0 = nI t := by rw [gz_c (by decide)]; exact h64
  refine fmV_sg (σ1 := gz σ) rfl ?_
  generalize gz σ = τ at g62 g63 g64 ⊢
  refine fmV_aload_n (pc := 5) (i := 0) F dX6_offer_5 rfl rfl ?_
  refine fmV_iload_n (pc := 6) (i := 1) F dX6_offer_6 rfl rfl ?_
  refine fmV_xVi (n := 1) (pc := 7) F hX (c_X6_isCanoe l D A G τ o hcc g63 x) gX6_offer_X6_isCanoe rfl rfl rfl (by decide +kernel) ⟨Nat.le_of_ble_eq_true rfl, Nat.le_of_ble_eq_true rfl⟩ (fmR_14 F ) rfl rfl (Nat.le_of_ble_eq_true rfl) dX6_offer_7 ⟨Nat.le_of_ble_eq_true rfl, Nat.le_of_ble_eq_true rfl⟩ (fun _ _ h9 => False.elim h9) (fun r2 u1 hc3 => ?_)
  obtain ⟨hr9, hu9⟩ := hc3
  have hr9 := hr9.symm
  have hu9 := hu9.symm
  subst hr9
  subst hu9
  refine fmV_if_eq (pc := 10) (tgt := 20) F dX6_offer_10 (by decide) (fun a1 => ?_) (fun a1 => ?_)
  · refine fmV_aload_n (pc := 20) (i := 0) F dX6_offer_20 rfl rfl ?_
    refine fmV_iconst (pc := 21) (v := 1) F dX6_offer_21 rfl ?_
    refine fmV_xVi (n := 1) (pc := 22) F hX (c_X6_no l D A G τ o 1) gX6_offer_X6_no rfl rfl rfl (by decide +kernel) ⟨Nat.le_of_ble_eq_true rfl, Nat.le_of_ble_eq_true rfl⟩ (fmR_14 F ) rfl rfl (Nat.le_of_ble_eq_true rfl) dX6_offer_22 ⟨Nat.le_of_ble_eq_true rfl, Nat.le_of_ble_eq_true rfl⟩ (fun _ _ h9 => False.elim h9) (fun r5 u4 hc6 => ?_)
    obtain ⟨hr9, hu9⟩ := hc6
    have hr9 := hr9.symm
    have hu9 := hu9.symm
    subst hr9
    subst hu9
    refine fmV_xr ?_
    exact fmV_iret (pc := 25) F dX6_offer_25 rfl (Or.inl ⟨Or.inl (fm_q0 a1), rfl, rfl⟩)
  · refine fmV_iload_n (pc := 13) (i := 2) F dX6_offer_13 rfl rfl ?_
    refine fmV_xSi (n := 1) (pc := 14) F hX (c_X6_isGood l D A G τ o y) gX6_offer_X6_isGood rfl rfl rfl (by decide +kernel) ⟨Nat.le_of_ble_eq_true rfl, Nat.le_of_ble_eq_true rfl⟩ rfl rfl (Nat.le_of_ble_eq_true rfl) dX6_offer_14 ⟨Nat.le_of_ble_eq_true rfl, Nat.le_of_ble_eq_true rfl⟩ (fun _ _ h9 => False.elim h9) (fun r8 u7 hc9 => ?_)
    obtain ⟨hr9, hu9⟩ := hc9
    have hr9 := hr9.symm
    have hu9 := hu9.symm
    subst hr9
    subst hu9
    refine fmV_if_ne (pc := 17) (tgt := 26) F dX6_offer_17 (by decide) (fun a2 => ?_) (fun a2 => ?_)
    · refine fmV_iload_n (pc := 26) (i := 3) F dX6_offer_26 rfl rfl ?_
      refine fmV_iconst (pc := 27) (v := 0) F dX6_offer_27 rfl ?_
      refine fmV_bipush (pc := 28) (v := 20) F dX6_offer_28 (by decide) ?_
      refine fmV_xSi (n := 3) (pc := 30) F hX (c_X6_isIn l D A G τ o z 0 20) gX6_offer_X6_isIn rfl rfl rfl (by decide +kernel) ⟨Nat.le_of_ble_eq_true rfl, Nat.le_of_ble_eq_true rfl⟩ rfl rfl (Nat.le_of_ble_eq_true rfl) dX6_offer_30 ⟨Nat.le_of_ble_eq_true rfl, Nat.le_of_ble_eq_true rfl⟩ (fun _ _ h9 => False.elim h9) (fun r11 u10 hc12 => ?_)
      obtain ⟨hr9, hu9⟩ := hc12
      have hr9 := hr9.symm
      have hu9 := hu9.symm
      subst hr9
      subst hu9
      refine fmV_if_eq (pc := 33) (tgt := 58) F dX6_offer_33 (by decide) (fun a3 => ?_) (fun a3 => ?_)
      · refine fmV_aload_n (pc := 58) (i := 0) F dX6_offer_58 rfl rfl ?_
        refine fmV_iconst (pc := 59) (v := 2) F dX6_offer_59 rfl ?_
        refine fmV_xVi (n := 1) (pc := 60) F hX (c_X6_no l D A G τ o 2) gX6_offer_X6_no rfl rfl rfl (by decide +kernel) ⟨Nat.le_of_ble_eq_true rfl, Nat.le_of_ble_eq_true rfl⟩ (fmR_14 F ) rfl rfl (Nat.le_of_ble_eq_true rfl) dX6_offer_60 ⟨Nat.le_of_ble_eq_true rfl, Nat.le_of_ble_eq_true rfl⟩ (fun _ _ h9 => False.elim h9) (fun r14 u13 hc15 => ?_)
        obtain ⟨hr9, hu9⟩ := hc15
        have hr9 := hr9.symm
        have hu9 := hu9.symm
        subst hr9
        subst hu9
        refine fmV_xr ?_
        exact fmV_iret (pc := 63) F dX6_offer_63 rfl (Or.inr ⟨(fun q => q.elim (fm_q1 a1) (fm_q1 a2)), (Or.inl ⟨Or.inl (fm_q0 a3), rfl, rfl⟩)⟩)
      · refine fmV_iload (pc := 36) (i := 5) F dX6_offer_36 rfl ?_
        refine fmV_iconst (pc := 38) (v := 0) F dX6_offer_38 rfl ?_
        refine fmV_bipush (pc := 39) (v := 20) F dX6_offer_39 (by decide) ?_
        refine fmV_xSi (n := 3) (pc := 41) F hX (c_X6_isIn l D A G τ o v 0 20) gX6_offer_X6_isIn rfl rfl rfl (by decide +kernel) ⟨Nat.le_of_ble_eq_true rfl, Nat.le_of_ble_eq_true rfl⟩ rfl rfl (Nat.le_of_ble_eq_true rfl) dX6_offer_41 ⟨Nat.le_of_ble_eq_true rfl, Nat.le_of_ble_eq_true rfl⟩ (fun _ _ h9 => False.elim h9) (fun r17 u16 hc18 => ?_)
        obtain ⟨hr9, hu9⟩ := hc18
        have hr9 := hr9.symm
        have hu9 := hu9.symm
        subst hr9
        subst hu9
        refine fmV_if_eq (pc := 44) (tgt := 58) F dX6_offer_44 (by decide) (fun a4 => ?_) (fun a4 => ?_)
        · refine fmV_aload_n (pc := 58) (i := 0) F dX6_offer_58 rfl rfl ?_
          refine fmV_iconst (pc := 59) (v := 2) F dX6_offer_59 rfl ?_
          refine fmV_xVi (n := 1) (pc := 60) F hX (c_X6_no l D A G τ o 2) gX6_offer_X6_no rfl rfl rfl (by decide +kernel) ⟨Nat.le_of_ble_eq_true rfl, Nat.le_of_ble_eq_true rfl⟩ (fmR_14 F ) rfl rfl (Nat.le_of_ble_eq_true rfl) dX6_offer_60 ⟨Nat.le_of_ble_eq_true rfl, Nat.le_of_ble_eq_true rfl⟩ (fun _ _ h9 => False.elim h9) (fun r20 u19 hc21 => ?_)
          obtain ⟨hr9, hu9⟩ := hc21
          have hr9 := hr9.symm
          have hu9 := hu9.symm
          subst hr9
          subst hu9
          refine fmV_xr ?_
          exact fmV_iret (pc := 63) F dX6_offer_63 rfl (Or.inr ⟨(fun q => q.elim (fm_q1 a1) (fm_q1 a2)), (Or.inl ⟨Or.inr (Or.inl (fm_q0 a4)), rfl, rfl⟩)⟩)
        · refine fmV_iload (pc := 47) (i := 4) F dX6_offer_47 rfl ?_
          refine fmV_iconst (pc := 49) (v := 0) F dX6_offer_49 rfl ?_
          refine fmV_bipush (pc := 50) (v := 40) F dX6_offer_50 (by decide) ?_
          refine fmV_xSi (n := 3) (pc := 52) F hX (c_X6_isIn l D A G τ o w 0 40) gX6_offer_X6_isIn rfl rfl rfl (by decide +kernel) ⟨Nat.le_of_ble_eq_true rfl, Nat.le_of_ble_eq_true rfl⟩ rfl rfl (Nat.le_of_ble_eq_true rfl) dX6_offer_52 ⟨Nat.le_of_ble_eq_true rfl, Nat.le_of_ble_eq_true rfl⟩ (fun _ _ h9 => False.elim h9) (fun r23 u22 hc24 => ?_)
          obtain ⟨hr9, hu9⟩ := hc24
          have hr9 := hr9.symm
          have hu9 := hu9.symm
          subst hr9
          subst hu9
          refine fmV_if_ne (pc := 55) (tgt := 64) F dX6_offer_55 (by decide) (fun a5 => ?_) (fun a5 => ?_)
          · obtain ⟨hx1, hx2⟩ := fm_ixc (x := x) (n := cc) (fm_q1 a1) (by omega)
            have hx14 : x.toNatClampNeg < 14 := by omega
            obtain ⟨hy0, hy1, hy2⟩ := fm_rgc (x := y) (lo := 0) (hi := 3) (fm_q1 a2) (by decide) (by decide)
            have e4 : (4 : Int32) * x + y = nI (4 * x.toNatClampNeg + y.toNatClampNeg) := by have q := fm_e4 x.toNatClampNeg y.toNatClampNeg; rw [← hx2, ← hy2] at q; exact q
            refine fmV_iconst (pc := 64) (v := 4) F dX6_offer_64 rfl ?_
            refine fmV_iload_n (pc := 65) (i := 1) F dX6_offer_65 rfl rfl ?_
            refine fmV_imul (pc := 66) F dX6_offer_66 ?_
            refine fmV_iload_n (pc := 67) (i := 2) F dX6_offer_67 rfl rfl ?_
            refine fmV_iadd (pc := 68) F dX6_offer_68 ?_
            rw [e4]
            refine fmV_istore (pc := 69) (i := 6) F dX6_offer_69 (by decide) ?_
            refine fmV_aload_n (pc := 71) (i := 0) F dX6_offer_71 rfl rfl ?_
            refine fmg_14_price (pc := 72) F  hin_X6 dX6_offer_72 (List.mem_of_getElem? (i := 2) rfl) ?_
            refine fmV_iload (pc := 75) (i := 6) F dX6_offer_75 rfl ?_
            refine fmV_iload_n (pc := 77) (i := 3) F dX6_offer_77 rfl rfl ?_
            refine fmas_19 (pc := 78) F  dX6_offer_78 (vp_in_nI (by omega) (by decide)) (fm_cn (by omega)) ?_
            refine fmV_aload_n (pc := 79) (i := 0) F dX6_offer_79 rfl rfl ?_
            refine fmg_14_wants (pc := 80) F  hin_X6 dX6_offer_80 (List.mem_of_getElem? (i := 3) rfl) ?_
            refine fmV_iload (pc := 83) (i := 6) F dX6_offer_83 rfl ?_
            refine fmV_iload (pc := 85) (i := 4) F dX6_offer_85 rfl ?_
            refine fmas_20 (pc := 87) F  dX6_offer_87 (vp_in_nI (by omega) (by decide)) (fm_cn (by omega)) ?_
            refine fmV_aload_n (pc := 88) (i := 0) F dX6_offer_88 rfl rfl ?_
            refine fmg_14_pays (pc := 89) F  hin_X6 dX6_offer_89 (List.mem_of_getElem? (i := 4) rfl) ?_
            refine fmV_iload (pc := 92) (i := 6) F dX6_offer_92 rfl ?_
            refine fmV_iload (pc := 94) (i := 5) F dX6_offer_94 rfl ?_
            refine fmas_21 (pc := 96) F  dX6_offer_96 (vp_in_nI (by omega) (by decide)) (fm_cn (by omega)) ?_
            refine fmV_sg (σ1 := gOffer τ x.toNatClampNeg y.toNatClampNeg z w v) rfl ?_
            refine fmV_aload_n (pc := 97) (i := 0) F dX6_offer_97 rfl rfl ?_
            refine fmg_14_s (pc := 98) F  hin_X6 dX6_offer_98 (List.mem_of_getElem? (i := 5) rfl) ?_
            refine fmV_iload_n (pc := 101) (i := 1) F dX6_offer_101 rfl rfl ?_
            refine fmV_iload_n (pc := 102) (i := 2) F dX6_offer_102 rfl rfl ?_
            have q103 := c_X5_misses l D A G (gOffer τ x.toNatClampNeg y.toNatClampNeg z w v) o hb0 hx14 (g := y.toNatClampNeg) (by omega)
            rw [← hx2, ← hy2] at q103
            refine fmV_xVi (n := 2) (pc := 103) F hX q103 gX6_offer_X5_misses rfl rfl rfl (by decide +kernel) ⟨Nat.le_of_ble_eq_true rfl, Nat.le_of_ble_eq_true rfl⟩ (fmR_23 F (by assumption)) rfl rfl (Nat.le_of_ble_eq_true rfl) dX6_offer_103 ⟨Nat.le_of_ble_eq_true rfl, Nat.le_of_ble_eq_true rfl⟩ (fun _ _ h9 => False.elim h9) (fun r26 u25 hc27 => ?_)
            obtain ⟨hr9, hu9⟩ := hc27
            have hr9 := hr9.symm
            have hu9 := hu9.symm
            subst hr9
            subst hu9
            refine fmV_xr ?_
            exact fmV_iret (pc := 106) F dX6_offer_106 rfl (Or.inr ⟨(fun q => q.elim (fm_q1 a1) (fm_q1 a2)), (Or.inr ⟨(fun q => q.elim (fm_q1 a3) (fun q => q.elim (fm_q1 a4) (fm_q1 a5))), ⟨rfl, rfl⟩⟩)⟩)
          · refine fmV_aload_n (pc := 58) (i := 0) F dX6_offer_58 rfl rfl ?_
            refine fmV_iconst (pc := 59) (v := 2) F dX6_offer_59 rfl ?_
            refine fmV_xVi (n := 1) (pc := 60) F hX (c_X6_no l D A G τ o 2) gX6_offer_X6_no rfl rfl rfl (by decide +kernel) ⟨Nat.le_of_ble_eq_true rfl, Nat.le_of_ble_eq_true rfl⟩ (fmR_14 F ) rfl rfl (Nat.le_of_ble_eq_true rfl) dX6_offer_60 ⟨Nat.le_of_ble_eq_true rfl, Nat.le_of_ble_eq_true rfl⟩ (fun _ _ h9 => False.elim h9) (fun r29 u28 hc30 => ?_)
            obtain ⟨hr9, hu9⟩ := hc30
            have hr9 := hr9.symm
            have hu9 := hu9.symm
            subst hr9
            subst hu9
            refine fmV_xr ?_
            exact fmV_iret (pc := 63) F dX6_offer_63 rfl (Or.inr ⟨(fun q => q.elim (fm_q1 a1) (fm_q1 a2)), (Or.inl ⟨Or.inr (Or.inr (fm_q0 a5)), rfl, rfl⟩)⟩)
    · refine fmV_aload_n (pc := 20) (i := 0) F dX6_offer_20 rfl rfl ?_
      refine fmV_iconst (pc := 21) (v := 1) F dX6_offer_21 rfl ?_
      refine fmV_xVi (n := 1) (pc := 22) F hX (c_X6_no l D A G τ o 1) gX6_offer_X6_no rfl rfl rfl (by decide +kernel) ⟨Nat.le_of_ble_eq_true rfl, Nat.le_of_ble_eq_true rfl⟩ (fmR_14 F ) rfl rfl (Nat.le_of_ble_eq_true rfl) dX6_offer_22 ⟨Nat.le_of_ble_eq_true rfl, Nat.le_of_ble_eq_true rfl⟩ (fun _ _ h9 => False.elim h9) (fun r32 u31 hc33 => ?_)
      obtain ⟨hr9, hu9⟩ := hc33
      have hr9 := hr9.symm
      have hu9 := hu9.symm
      subst hr9
      subst hu9
      refine fmV_xr ?_
      exact fmV_iret (pc := 25) F dX6_offer_25 rfl (Or.inl ⟨Or.inr (fm_q0 a2), rfl, rfl⟩)

set_option maxHeartbeats 4000000 in
set_option maxRecDepth 100000 in
theorem c_X6_moor (l : Launch) (D : va_G) (A : Nat → Prop) (G : fmG) (σ : fmS) (o : Nat → Int64) {rc cc t : Nat} (hcc : cc ≤ 14) (h63 : σ 63 0 0 0 = nI cc) (hrc : rc ≤ 4) (h62 : σ 62 0 0 0 = nI rc) (ht : t + 200 < 2 ^ 30) (h64 : σ 64 0 0 0 = nI t) (x y : Int32) : fmXi l D A G yX6_moor wsX6_moor (fmRm 3 0 0) 0 0 [.ref (G.1 14 0 0), .int x, .int y] σ o (fun r u => gRes (gz σ) (r = gIn (gz σ) 0 (nI y.toNatClampNeg) cc ∧ u = gMoor (gz σ) 0 x.toNatClampNeg y.toNatClampNeg cc) r u [(1, (x < 0 ∨ nI cc ≤ x) ∨ (y < 0 ∨ nI rc ≤ y)), (2, ((gz σ) 26 0 0 x.toNatClampNeg ≠ 0) ∨ (gFull (gz σ) 0 y.toNatClampNeg cc))]) (fun _ _ => False) := by
  refine fmXi_of (cc := cX6_moor) (maxL := 3) (ret := (some .int)) (by decide +kernel) rfl (Nat.le_of_ble_eq_true rfl) ?_
  intro P_ E_ S_ M_ args_ below_ meth_ C_ F hX hnt
  have hin_X6 : ∀ w ∈ wsX60, w ∈ wsX6_moor := (fun _ h => List.mem_cons_of_mem _ (List.mem_append_left _ (List.mem_append_right _ h)))
  have hin_X5 : ∀ w ∈ wsX50, w ∈ wsX6_moor := (fun _ h => List.mem_cons_of_mem _ (List.mem_append_right _ h))
  have hb0 : (0 : Nat) < 2 := by decide
  have hb1 : (1 : Nat) < 2 := by decide
  refine fmV_aload_n (pc := 0) (i := 0) F dX6_moor_0 rfl rfl ?_
  refine fmV_iconst (pc := 1) (v := 0) F dX6_moor_1 rfl ?_
  refine fmp_14_thrown (pc := 2) F  hin_X6 dX6_moor_2 (List.mem_of_getElem? (i := 1) rfl) ?_
  have g63 : gz σ 63 0 0 0 = nI cc := by rw [gz_c (by decide)]; exact h63
  have g62 : gz σ 62 0 0 0 = nI rc := by rw [gz_c (by decide)]; exact h62
  have g64 : gz σ 64 0 0 0 = nI t := by rw [gz_c (by decide)]; exact h64
  refine fmV_sg (σ1 := gz σ) rfl ?_
  generalize gz σ = τ at g62 g63 g64 ⊢
  refine fmV_aload_n (pc := 5) (i := 0) F dX6_moor_5 rfl rfl ?_
  refine fmV_iload_n (pc := 6) (i := 1) F dX6_moor_6 rfl rfl ?_
  refine fmV_xVi (n := 1) (pc := 7) F hX (c_X6_isCanoe l D A G τ o hcc g63 x) gX6_moor_X6_isCanoe rfl rfl rfl (by decide +kernel) ⟨Nat.le_of_ble_eq_true rfl, Nat.le_of_ble_eq_true rfl⟩ (fmR_14 F ) rfl rfl (Nat.le_of_ble_eq_true rfl) dX6_moor_7 ⟨Nat.le_of_ble_eq_true rfl, Nat.le_of_ble_eq_true rfl⟩ (fun _ _ h9 => False.elim h9) (fun r2 u1 hc3 => ?_)
  obtain ⟨hr9, hu9⟩ := hc3
  have hr9 := hr9.symm
  have hu9 := hu9.symm
  subst hr9
  subst hu9
  refine fmV_if_eq (pc := 10) (tgt := 21) F dX6_moor_10 (by decide) (fun a1 => ?_) (fun a1 => ?_)
  · refine fmV_aload_n (pc := 21) (i := 0) F dX6_moor_21 rfl rfl ?_
    refine fmV_iconst (pc := 22) (v := 1) F dX6_moor_22 rfl ?_
    refine fmV_xVi (n := 1) (pc := 23) F hX (c_X6_no l D A G τ o 1) gX6_moor_X6_no rfl rfl rfl (by decide +kernel) ⟨Nat.le_of_ble_eq_true rfl, Nat.le_of_ble_eq_true rfl⟩ (fmR_14 F ) rfl rfl (Nat.le_of_ble_eq_true rfl) dX6_moor_23 ⟨Nat.le_of_ble_eq_true rfl, Nat.le_of_ble_eq_true rfl⟩ (fun _ _ h9 => False.elim h9) (fun r5 u4 hc6 => ?_)
    obtain ⟨hr9, hu9⟩ := hc6
    have hr9 := hr9.symm
    have hu9 := hu9.symm
    subst hr9
    subst hu9
    refine fmV_xr ?_
    exact fmV_iret (pc := 26) F dX6_moor_26 rfl (Or.inl ⟨Or.inl (fm_q0 a1), rfl, rfl⟩)
  · refine fmV_aload_n (pc := 13) (i := 0) F dX6_moor_13 rfl rfl ?_
    refine fmV_iload_n (pc := 14) (i := 2) F dX6_moor_14 rfl rfl ?_
    refine fmV_xVi (n := 1) (pc := 15) F hX (c_X6_isRow l D A G τ o (show rc ≤ 14 by omega) g62 _) gX6_moor_X6_isRow rfl rfl rfl (by decide +kernel) ⟨Nat.le_of_ble_eq_true rfl, Nat.le_of_ble_eq_true rfl⟩ (fmR_14 F ) rfl rfl (Nat.le_of_ble_eq_true rfl) dX6_moor_15 ⟨Nat.le_of_ble_eq_true rfl, Nat.le_of_ble_eq_true rfl⟩ (fun _ _ h9 => False.elim h9) (fun r8 u7 hc9 => ?_)
    obtain ⟨hr9, hu9⟩ := hc9
    have hr9 := hr9.symm
    have hu9 := hu9.symm
    subst hr9
    subst hu9
    refine fmV_if_ne (pc := 18) (tgt := 27) F dX6_moor_18 (by decide) (fun a2 => ?_) (fun a2 => ?_)
    · obtain ⟨hx1, hx2⟩ := fm_ixc (x := x) (n := cc) (fm_q1 a1) (by omega)
      have hx14 : x.toNatClampNeg < 14 := by omega
      obtain ⟨hy1, hy2⟩ := fm_ixc (x := y) (n := rc) (fm_q1 a2) (by omega)
      have hy4 : y.toNatClampNeg < 4 := by omega
      refine fmV_aload_n (pc := 27) (i := 0) F dX6_moor_27 rfl rfl ?_
      refine fmg_14_s (pc := 28) F  hin_X6 dX6_moor_28 (List.mem_of_getElem? (i := 2) rfl) ?_
      refine fmgN_23_is (pc := 31) F hX (by assumption) hin_X5 dX6_moor_31 (List.mem_of_getElem? (i := 11) rfl) ?_
      refine fmV_iload_n (pc := 34) (i := 1) F dX6_moor_34 rfl rfl ?_
      refine fmal_26 (pc := 35) F (by assumption) dX6_moor_35 (fm_in hx2 (show x.toNatClampNeg < _ by omega) (by decide)) rfl ?_
      refine fmV_if_ne (pc := 36) (tgt := 50) F dX6_moor_36 (by decide) (fun a3 => ?_) (fun a3 => ?_)
      · refine fmV_aload_n (pc := 50) (i := 0) F dX6_moor_50 rfl rfl ?_
        refine fmV_iconst (pc := 51) (v := 2) F dX6_moor_51 rfl ?_
        refine fmV_xVi (n := 1) (pc := 52) F hX (c_X6_no l D A G τ o 2) gX6_moor_X6_no rfl rfl rfl (by decide +kernel) ⟨Nat.le_of_ble_eq_true rfl, Nat.le_of_ble_eq_true rfl⟩ (fmR_14 F ) rfl rfl (Nat.le_of_ble_eq_true rfl) dX6_moor_52 ⟨Nat.le_of_ble_eq_true rfl, Nat.le_of_ble_eq_true rfl⟩ (fun _ _ h9 => False.elim h9) (fun r11 u10 hc12 => ?_)
        obtain ⟨hr9, hu9⟩ := hc12
        have hr9 := hr9.symm
        have hu9 := hu9.symm
        subst hr9
        subst hu9
        refine fmV_xr ?_
        exact fmV_iret (pc := 55) F dX6_moor_55 rfl (Or.inr ⟨(fun q => q.elim (fm_q1 a1) (fm_q1 a2)), (Or.inl ⟨Or.inl (a3), rfl, rfl⟩)⟩)
      · refine fmV_aload_n (pc := 39) (i := 0) F dX6_moor_39 rfl rfl ?_
        refine fmg_14_s (pc := 40) F  hin_X6 dX6_moor_40 (List.mem_of_getElem? (i := 2) rfl) ?_
        refine fmV_iload_n (pc := 43) (i := 2) F dX6_moor_43 rfl rfl ?_
        refine fmV_xVi (n := 1) (pc := 44) F hX (c_X5_isFull_x l D A G τ o hb0 hcc g63 hy4 hy2) gX6_moor_X5_isFull rfl rfl rfl (by decide +kernel) ⟨Nat.le_of_ble_eq_true rfl, Nat.le_of_ble_eq_true rfl⟩ (fmR_23 F (by assumption)) rfl rfl (Nat.le_of_ble_eq_true rfl) dX6_moor_44 ⟨Nat.le_of_ble_eq_true rfl, Nat.le_of_ble_eq_true rfl⟩ (fun _ _ h9 => False.elim h9) (fun r14 u13 hc15 => ?_)
        obtain ⟨hr9, hu9⟩ := hc15
        have hr9 := hr9.symm
        have hu9 := hu9.symm
        subst hr9
        subst hu9
        refine fmV_if_eq (pc := 47) (tgt := 56) F dX6_moor_47 (by decide) (fun a4 => ?_) (fun a4 => ?_)
        · refine fmV_aload_n (pc := 56) (i := 0) F dX6_moor_56 rfl rfl ?_
          refine fmg_14_s (pc := 57) F  hin_X6 dX6_moor_57 (List.mem_of_getElem? (i := 2) rfl) ?_
          refine fmV_iload_n (pc := 60) (i := 1) F dX6_moor_60 rfl rfl ?_
          refine fmV_iload_n (pc := 61) (i := 2) F dX6_moor_61 rfl rfl ?_
          have q62 := c_X5_moor l D A G τ o hb0 hcc g63 hx14 hy4
          rw [← hx2, ← hy2] at q62
          refine fmV_xVv (n := 2) (pc := 62) F hX q62 gX6_moor_X5_moor rfl rfl rfl (by decide +kernel) ⟨Nat.le_of_ble_eq_true rfl, Nat.le_of_ble_eq_true rfl⟩ (fmR_23 F (by assumption)) rfl rfl (Nat.le_of_ble_eq_true rfl) dX6_moor_62 ⟨Nat.le_of_ble_eq_true rfl, Nat.le_of_ble_eq_true rfl⟩ (fun _ _ h9 => False.elim h9) (fun u16 hc18 => ?_)
          have hc18 := hc18.symm
          subst hc18
          refine fmV_aload_n (pc := 65) (i := 0) F dX6_moor_65 rfl rfl ?_
          refine fmg_14_s (pc := 66) F  hin_X6 dX6_moor_66 (List.mem_of_getElem? (i := 2) rfl) ?_
          refine fmgN_23_place (pc := 69) F hX (by assumption) hin_X5 dX6_moor_69 (List.mem_of_getElem? (i := 13) rfl) ?_
          refine fmV_iload_n (pc := 72) (i := 1) F dX6_moor_72 rfl rfl ?_
          refine fmal_28 (pc := 73) F (by assumption) dX6_moor_73 (fm_in hx2 (show x.toNatClampNeg < _ by omega) (by decide)) rfl ?_
          refine fmV_xr ?_
          exact fmV_iret (pc := 74) F dX6_moor_74 rfl (Or.inr ⟨(fun q => q.elim (fm_q1 a1) (fm_q1 a2)), (Or.inr ⟨(fun q => q.elim (fun k => k a3) (fm_p0 a4)), ⟨by rw [gMoor, fmu_c _ _ _ _ _ (by decide), fmu_c _ _ _ _ _ (by decide), fmu_self, fm_upd_same], rfl⟩⟩)⟩)
        · refine fmV_aload_n (pc := 50) (i := 0) F dX6_moor_50 rfl rfl ?_
          refine fmV_iconst (pc := 51) (v := 2) F dX6_moor_51 rfl ?_
          refine fmV_xVi (n := 1) (pc := 52) F hX (c_X6_no l D A G τ o 2) gX6_moor_X6_no rfl rfl rfl (by decide +kernel) ⟨Nat.le_of_ble_eq_true rfl, Nat.le_of_ble_eq_true rfl⟩ (fmR_14 F ) rfl rfl (Nat.le_of_ble_eq_true rfl) dX6_moor_52 ⟨Nat.le_of_ble_eq_true rfl, Nat.le_of_ble_eq_true rfl⟩ (fun _ _ h9 => False.elim h9) (fun r20 u19 hc21 => ?_)
          obtain ⟨hr9, hu9⟩ := hc21
          have hr9 := hr9.symm
          have hu9 := hu9.symm
          subst hr9
          subst hu9
          refine fmV_xr ?_
          exact fmV_iret (pc := 55) F dX6_moor_55 rfl (Or.inr ⟨(fun q => q.elim (fm_q1 a1) (fm_q1 a2)), (Or.inl ⟨Or.inr (fm_p1 a4), rfl, rfl⟩)⟩)
    · refine fmV_aload_n (pc := 21) (i := 0) F dX6_moor_21 rfl rfl ?_
      refine fmV_iconst (pc := 22) (v := 1) F dX6_moor_22 rfl ?_
      refine fmV_xVi (n := 1) (pc := 23) F hX (c_X6_no l D A G τ o 1) gX6_moor_X6_no rfl rfl rfl (by decide +kernel) ⟨Nat.le_of_ble_eq_true rfl, Nat.le_of_ble_eq_true rfl⟩ (fmR_14 F ) rfl rfl (Nat.le_of_ble_eq_true rfl) dX6_moor_23 ⟨Nat.le_of_ble_eq_true rfl, Nat.le_of_ble_eq_true rfl⟩ (fun _ _ h9 => False.elim h9) (fun r23 u22 hc24 => ?_)
      obtain ⟨hr9, hu9⟩ := hc24
      have hr9 := hr9.symm
      have hu9 := hu9.symm
      subst hr9
      subst hu9
      refine fmV_xr ?_
      exact fmV_iret (pc := 26) F dX6_moor_26 rfl (Or.inl ⟨Or.inr (fm_q0 a2), rfl, rfl⟩)

set_option maxHeartbeats 4000000 in
set_option maxRecDepth 100000 in
theorem c_X6_castOff (l : Launch) (D : va_G) (A : Nat → Prop) (G : fmG) (σ : fmS) (o : Nat → Int64) {rc cc t : Nat} (hcc : cc ≤ 14) (h63 : σ 63 0 0 0 = nI cc) (hrc : rc ≤ 4) (h62 : σ 62 0 0 0 = nI rc) (ht : t + 200 < 2 ^ 30) (h64 : σ 64 0 0 0 = nI t) (x : Int32) : fmXi l D A G yX6_castOff wsX6_castOff (fmRm 3 0 0) 0 0 [.ref (G.1 14 0 0), .int x] σ o (fun r u => gRes (gz σ) (r = gOffN (gz σ) 0 x.toNatClampNeg cc ∧ u = gOff (gz σ) 0 x.toNatClampNeg cc) r u [(1, x < 0 ∨ nI cc ≤ x), (2, ((gz σ) 26 0 0 x.toNatClampNeg ≠ 1) ∨ (gDry (gz σ) 0 x.toNatClampNeg t))]) (fun _ _ => False) := by
  refine fmXi_of (cc := cX6_castOff) (maxL := 2) (ret := (some .int)) (by decide +kernel) rfl (Nat.le_of_ble_eq_true rfl) ?_
  intro P_ E_ S_ M_ args_ below_ meth_ C_ F hX hnt
  have hin_X6 : ∀ w ∈ wsX60, w ∈ wsX6_castOff := (fun _ h => List.mem_cons_of_mem _ (List.mem_append_left _ (List.mem_append_right _ h)))
  have hin_X5 : ∀ w ∈ wsX50, w ∈ wsX6_castOff := (fun _ h => List.mem_cons_of_mem _ (List.mem_append_right _ h))
  have hb0 : (0 : Nat) < 2 := by decide
  have hb1 : (1 : Nat) < 2 := by decide
  refine fmV_aload_n (pc := 0) (i := 0) F dX6_castOff_0 rfl rfl ?_
  refine fmV_iconst (pc := 1) (v := 0) F dX6_castOff_1 rfl ?_
  refine fmp_14_thrown (pc := 2) F  hin_X6 dX6_castOff_2 (List.mem_of_getElem? (i := 1) rfl) ?_
  have g63 : gz σ 63 0 0 0 = nI cc := by rw [gz_c (by decide)]; exact h63
  have g62 : gz σ 62 0 0 0 = nI rc := by rw [gz_c (by decide)]; exact h62
  have g64 : gz σ 64 0 0 0 = nI t := by rw [gz_c (by decide)]; exact h64
  refine fmV_sg (σ1 := gz σ) rfl ?_
  generalize gz σ = τ at g62 g63 g64 ⊢
  refine fmV_aload_n (pc := 5) (i := 0) F dX6_castOff_5 rfl rfl ?_
  refine fmV_iload_n (pc := 6) (i := 1) F dX6_castOff_6 rfl rfl ?_
  refine fmV_xVi (n := 1) (pc := 7) F hX (c_X6_isCanoe l D A G τ o hcc g63 x) gX6_castOff_X6_isCanoe rfl rfl rfl (by decide +kernel) ⟨Nat.le_of_ble_eq_true rfl, Nat.le_of_ble_eq_true rfl⟩ (fmR_14 F ) rfl rfl (Nat.le_of_ble_eq_true rfl) dX6_castOff_7 ⟨Nat.le_of_ble_eq_true rfl, Nat.le_of_ble_eq_true rfl⟩ (fun _ _ h9 => False.elim h9) (fun r2 u1 hc3 => ?_)
  obtain ⟨hr9, hu9⟩ := hc3
  have hr9 := hr9.symm
  have hu9 := hu9.symm
  subst hr9
  subst hu9
  refine fmV_if_ne (pc := 10) (tgt := 19) F dX6_castOff_10 (by decide) (fun a1 => ?_) (fun a1 => ?_)
  · obtain ⟨hx1, hx2⟩ := fm_ixc (x := x) (n := cc) (fm_q1 a1) (by omega)
    have hx14 : x.toNatClampNeg < 14 := by omega
    refine fmV_aload_n (pc := 19) (i := 0) F dX6_castOff_19 rfl rfl ?_
    refine fmg_14_s (pc := 20) F  hin_X6 dX6_castOff_20 (List.mem_of_getElem? (i := 2) rfl) ?_
    refine fmgN_23_is (pc := 23) F hX (by assumption) hin_X5 dX6_castOff_23 (List.mem_of_getElem? (i := 11) rfl) ?_
    refine fmV_iload_n (pc := 26) (i := 1) F dX6_castOff_26 rfl rfl ?_
    refine fmal_26 (pc := 27) F (by assumption) dX6_castOff_27 (fm_in hx2 (show x.toNatClampNeg < _ by omega) (by decide)) rfl ?_
    refine fmV_iconst (pc := 28) (v := 1) F dX6_castOff_28 rfl ?_
    refine fmV_icmp_ne (pc := 29) (tgt := 43) F dX6_castOff_29 (by decide) (fun a2 => ?_) (fun a2 => ?_)
    · refine fmV_aload_n (pc := 43) (i := 0) F dX6_castOff_43 rfl rfl ?_
      refine fmV_iconst (pc := 44) (v := 2) F dX6_castOff_44 rfl ?_
      refine fmV_xVi (n := 1) (pc := 45) F hX (c_X6_no l D A G τ o 2) gX6_castOff_X6_no rfl rfl rfl (by decide +kernel) ⟨Nat.le_of_ble_eq_true rfl, Nat.le_of_ble_eq_true rfl⟩ (fmR_14 F ) rfl rfl (Nat.le_of_ble_eq_true rfl) dX6_castOff_45 ⟨Nat.le_of_ble_eq_true rfl, Nat.le_of_ble_eq_true rfl⟩ (fun _ _ h9 => False.elim h9) (fun r5 u4 hc6 => ?_)
      obtain ⟨hr9, hu9⟩ := hc6
      have hr9 := hr9.symm
      have hu9 := hu9.symm
      subst hr9
      subst hu9
      refine fmV_goto (pc := 48) (tgt := 59) F dX6_castOff_48 (by decide) ?_
      refine fmV_xr ?_
      exact fmV_iret (pc := 59) F dX6_castOff_59 rfl (Or.inr ⟨(fm_q1 a1), (Or.inl ⟨Or.inl (a2), rfl, rfl⟩)⟩)
    · refine fmV_aload_n (pc := 32) (i := 0) F dX6_castOff_32 rfl rfl ?_
      refine fmg_14_s (pc := 33) F  hin_X6 dX6_castOff_33 (List.mem_of_getElem? (i := 2) rfl) ?_
      refine fmV_iload_n (pc := 36) (i := 1) F dX6_castOff_36 rfl rfl ?_
      have q37 := c_X5_isDry l D A G τ o hb0 hx14 (show t < 2 ^ 31 by omega) g64
      rw [← hx2] at q37
      refine fmV_xVi (n := 1) (pc := 37) F hX q37 gX6_castOff_X5_isDry rfl rfl rfl (by decide +kernel) ⟨Nat.le_of_ble_eq_true rfl, Nat.le_of_ble_eq_true rfl⟩ (fmR_23 F (by assumption)) rfl rfl (Nat.le_of_ble_eq_true rfl) dX6_castOff_37 ⟨Nat.le_of_ble_eq_true rfl, Nat.le_of_ble_eq_true rfl⟩ (fun _ _ h9 => False.elim h9) (fun r8 u7 hc9 => ?_)
      obtain ⟨hr9, hu9⟩ := hc9
      have hr9 := hr9.symm
      have hu9 := hu9.symm
      subst hr9
      subst hu9
      refine fmV_if_eq (pc := 40) (tgt := 51) F dX6_castOff_40 (by decide) (fun a3 => ?_) (fun a3 => ?_)
      · refine fmV_aload_n (pc := 51) (i := 0) F dX6_castOff_51 rfl rfl ?_
        refine fmg_14_s (pc := 52) F  hin_X6 dX6_castOff_52 (List.mem_of_getElem? (i := 2) rfl) ?_
        refine fmV_iload_n (pc := 55) (i := 1) F dX6_castOff_55 rfl rfl ?_
        have q56 := c_X5_castOff l D A G τ o hb0 hcc g63 hx14
        rw [← hx2] at q56
        refine fmV_xVi (n := 1) (pc := 56) F hX q56 gX6_castOff_X5_castOff rfl rfl rfl (by decide +kernel) ⟨Nat.le_of_ble_eq_true rfl, Nat.le_of_ble_eq_true rfl⟩ (fmR_23 F (by assumption)) rfl rfl (Nat.le_of_ble_eq_true rfl) dX6_castOff_56 ⟨Nat.le_of_ble_eq_true rfl, Nat.le_of_ble_eq_true rfl⟩ (fun _ _ h9 => False.elim h9) (fun r11 u10 hc12 => ?_)
        obtain ⟨hr9, hu9⟩ := hc12
        have hr9 := hr9.symm
        have hu9 := hu9.symm
        subst hr9
        subst hu9
        refine fmV_xr ?_
        exact fmV_iret (pc := 59) F dX6_castOff_59 rfl (Or.inr ⟨(fm_q1 a1), (Or.inr ⟨(fun q => q.elim (fun k => k a2) (fm_p0 a3)), ⟨rfl, rfl⟩⟩)⟩)
      · refine fmV_aload_n (pc := 43) (i := 0) F dX6_castOff_43 rfl rfl ?_
        refine fmV_iconst (pc := 44) (v := 2) F dX6_castOff_44 rfl ?_
        refine fmV_xVi (n := 1) (pc := 45) F hX (c_X6_no l D A G τ o 2) gX6_castOff_X6_no rfl rfl rfl (by decide +kernel) ⟨Nat.le_of_ble_eq_true rfl, Nat.le_of_ble_eq_true rfl⟩ (fmR_14 F ) rfl rfl (Nat.le_of_ble_eq_true rfl) dX6_castOff_45 ⟨Nat.le_of_ble_eq_true rfl, Nat.le_of_ble_eq_true rfl⟩ (fun _ _ h9 => False.elim h9) (fun r14 u13 hc15 => ?_)
        obtain ⟨hr9, hu9⟩ := hc15
        have hr9 := hr9.symm
        have hu9 := hu9.symm
        subst hr9
        subst hu9
        refine fmV_goto (pc := 48) (tgt := 59) F dX6_castOff_48 (by decide) ?_
        refine fmV_xr ?_
        exact fmV_iret (pc := 59) F dX6_castOff_59 rfl (Or.inr ⟨(fm_q1 a1), (Or.inl ⟨Or.inr (fm_p1 a3), rfl, rfl⟩)⟩)
  · refine fmV_aload_n (pc := 13) (i := 0) F dX6_castOff_13 rfl rfl ?_
    refine fmV_iconst (pc := 14) (v := 1) F dX6_castOff_14 rfl ?_
    refine fmV_xVi (n := 1) (pc := 15) F hX (c_X6_no l D A G τ o 1) gX6_castOff_X6_no rfl rfl rfl (by decide +kernel) ⟨Nat.le_of_ble_eq_true rfl, Nat.le_of_ble_eq_true rfl⟩ (fmR_14 F ) rfl rfl (Nat.le_of_ble_eq_true rfl) dX6_castOff_15 ⟨Nat.le_of_ble_eq_true rfl, Nat.le_of_ble_eq_true rfl⟩ (fun _ _ h9 => False.elim h9) (fun r17 u16 hc18 => ?_)
    obtain ⟨hr9, hu9⟩ := hc18
    have hr9 := hr9.symm
    have hu9 := hu9.symm
    subst hr9
    subst hu9
    refine fmV_xr ?_
    exact fmV_iret (pc := 18) F dX6_castOff_18 rfl (Or.inl ⟨fm_q0 a1, rfl, rfl⟩)

set_option maxHeartbeats 4000000 in
set_option maxRecDepth 100000 in
theorem c_X6_leaveIn (l : Launch) (D : va_G) (A : Nat → Prop) (G : fmG) (σ : fmS) (o : Nat → Int64) {rc cc t : Nat} (hcc : cc ≤ 14) (h63 : σ 63 0 0 0 = nI cc) (hrc : rc ≤ 4) (h62 : σ 62 0 0 0 = nI rc) (ht : t + 200 < 2 ^ 30) (h64 : σ 64 0 0 0 = nI t) (x y : Int32) : fmXi l D A G yX6_leaveIn wsX6_leaveIn (fmRm 3 0 0) 0 0 [.ref (G.1 14 0 0), .int x, .int y] σ o (fun r u => gRes (gz σ) (r = (gz σ) 29 0 0 x.toNatClampNeg ∧ u = fmu (gz σ) 29 0 0 (upd ((gz σ) 29 0 0) x.toNatClampNeg y)) r u [(1, x < 0 ∨ nI cc ≤ x), (2, y ≠ -1 ∧ y < (gz σ) 64 0 0 0), (3, (gz σ) 26 0 0 x.toNatClampNeg = 2)]) (fun _ _ => False) := by
  refine fmXi_of (cc := cX6_leaveIn) (maxL := 4) (ret := (some .int)) (by decide +kernel) rfl (Nat.le_of_ble_eq_true rfl) ?_
  intro P_ E_ S_ M_ args_ below_ meth_ C_ F hX hnt
  have hin_X6 : ∀ w ∈ wsX60, w ∈ wsX6_leaveIn := (fun _ h => List.mem_cons_of_mem _ (List.mem_append_left _ (List.mem_append_right _ h)))
  have hin_X5 : ∀ w ∈ wsX50, w ∈ wsX6_leaveIn := (fun _ h => List.mem_cons_of_mem _ (List.mem_append_right _ h))
  have hb0 : (0 : Nat) < 2 := by decide
  have hb1 : (1 : Nat) < 2 := by decide
  refine fmV_aload_n (pc := 0) (i := 0) F dX6_leaveIn_0 rfl rfl ?_
  refine fmV_iconst (pc := 1) (v := 0) F dX6_leaveIn_1 rfl ?_
  refine fmp_14_thrown (pc := 2) F  hin_X6 dX6_leaveIn_2 (List.mem_of_getElem? (i := 1) rfl) ?_
  have g63 : gz σ 63 0 0 0 = nI cc := by rw [gz_c (by decide)]; exact h63
  have g62 : gz σ 62 0 0 0 = nI rc := by rw [gz_c (by decide)]; exact h62
  have g64 : gz σ 64 0 0 0 = nI t := by rw [gz_c (by decide)]; exact h64
  refine fmV_sg (σ1 := gz σ) rfl ?_
  generalize gz σ = τ at g62 g63 g64 ⊢
  refine fmV_aload_n (pc := 5) (i := 0) F dX6_leaveIn_5 rfl rfl ?_
  refine fmV_iload_n (pc := 6) (i := 1) F dX6_leaveIn_6 rfl rfl ?_
  refine fmV_xVi (n := 1) (pc := 7) F hX (c_X6_isCanoe l D A G τ o hcc g63 x) gX6_leaveIn_X6_isCanoe rfl rfl rfl (by decide +kernel) ⟨Nat.le_of_ble_eq_true rfl, Nat.le_of_ble_eq_true rfl⟩ (fmR_14 F ) rfl rfl (Nat.le_of_ble_eq_true rfl) dX6_leaveIn_7 ⟨Nat.le_of_ble_eq_true rfl, Nat.le_of_ble_eq_true rfl⟩ (fun _ _ h9 => False.elim h9) (fun r2 u1 hc3 => ?_)
  obtain ⟨hr9, hu9⟩ := hc3
  have hr9 := hr9.symm
  have hu9 := hu9.symm
  subst hr9
  subst hu9
  refine fmV_if_ne (pc := 10) (tgt := 19) F dX6_leaveIn_10 (by decide) (fun a1 => ?_) (fun a1 => ?_)
  · obtain ⟨hx1, hx2⟩ := fm_ixc (x := x) (n := cc) (fm_q1 a1) (by omega)
    have hx14 : x.toNatClampNeg < 14 := by omega
    refine fmV_iload_n (pc := 19) (i := 2) F dX6_leaveIn_19 rfl rfl ?_
    refine fmV_iconst (pc := 20) (v := (-1)) F dX6_leaveIn_20 rfl ?_
    refine fmV_icmp_eq (pc := 21) (tgt := 41) F dX6_leaveIn_21 (by decide) (fun a2 => ?_) (fun a2 => ?_)
    · refine fmV_aload_n (pc := 41) (i := 0) F dX6_leaveIn_41 rfl rfl ?_
      refine fmg_14_s (pc := 42) F  hin_X6 dX6_leaveIn_42 (List.mem_of_getElem? (i := 2) rfl) ?_
      refine fmgN_23_is (pc := 45) F hX (by assumption) hin_X5 dX6_leaveIn_45 (List.mem_of_getElem? (i := 11) rfl) ?_
      refine fmV_iload_n (pc := 48) (i := 1) F dX6_leaveIn_48 rfl rfl ?_
      refine fmal_26 (pc := 49) F (by assumption) dX6_leaveIn_49 (fm_in hx2 (show x.toNatClampNeg < _ by omega) (by decide)) rfl ?_
      refine fmV_iconst (pc := 50) (v := 2) F dX6_leaveIn_50 rfl ?_
      refine fmV_icmp_ne (pc := 51) (tgt := 60) F dX6_leaveIn_51 (by decide) (fun a4 => ?_) (fun a4 => ?_)
      · refine fmV_aload_n (pc := 60) (i := 0) F dX6_leaveIn_60 rfl rfl ?_
        refine fmg_14_s (pc := 61) F  hin_X6 dX6_leaveIn_61 (List.mem_of_getElem? (i := 2) rfl) ?_
        refine fmgN_23_leaves (pc := 64) F hX (by assumption) hin_X5 dX6_leaveIn_64 (List.mem_of_getElem? (i := 14) rfl) ?_
        refine fmV_iload_n (pc := 67) (i := 1) F dX6_leaveIn_67 rfl rfl ?_
        refine fmal_29 (pc := 68) F (by assumption) dX6_leaveIn_68 (fm_in hx2 (show x.toNatClampNeg < _ by omega) (by decide)) rfl ?_
        refine fmV_istore_n (pc := 69) (i := 3) F dX6_leaveIn_69 rfl (by decide) ?_
        refine fmV_aload_n (pc := 70) (i := 0) F dX6_leaveIn_70 rfl rfl ?_
        refine fmg_14_s (pc := 71) F  hin_X6 dX6_leaveIn_71 (List.mem_of_getElem? (i := 2) rfl) ?_
        refine fmgN_23_leaves (pc := 74) F hX (by assumption) hin_X5 dX6_leaveIn_74 (List.mem_of_getElem? (i := 14) rfl) ?_
        refine fmV_iload_n (pc := 77) (i := 1) F dX6_leaveIn_77 rfl rfl ?_
        refine fmV_iload_n (pc := 78) (i := 2) F dX6_leaveIn_78 rfl rfl ?_
        refine fmas_29 (pc := 79) F (by assumption) dX6_leaveIn_79 (fm_in hx2 (show x.toNatClampNeg < _ by omega) (by decide)) rfl ?_
        refine fmV_iload_n (pc := 80) (i := 3) F dX6_leaveIn_80 rfl rfl ?_
        refine fmV_xr ?_
        exact fmV_iret (pc := 81) F dX6_leaveIn_81 rfl (Or.inr ⟨(fm_q1 a1), (Or.inr ⟨(fun k => k.1 a2), (Or.inr ⟨a4, ⟨rfl, rfl⟩⟩)⟩)⟩)
      · refine fmV_aload_n (pc := 54) (i := 0) F dX6_leaveIn_54 rfl rfl ?_
        refine fmV_iconst (pc := 55) (v := 3) F dX6_leaveIn_55 rfl ?_
        refine fmV_xVi (n := 1) (pc := 56) F hX (c_X6_no l D A G τ o 3) gX6_leaveIn_X6_no rfl rfl rfl (by decide +kernel) ⟨Nat.le_of_ble_eq_true rfl, Nat.le_of_ble_eq_true rfl⟩ (fmR_14 F ) rfl rfl (Nat.le_of_ble_eq_true rfl) dX6_leaveIn_56 ⟨Nat.le_of_ble_eq_true rfl, Nat.le_of_ble_eq_true rfl⟩ (fun _ _ h9 => False.elim h9) (fun r5 u4 hc6 => ?_)
        obtain ⟨hr9, hu9⟩ := hc6
        have hr9 := hr9.symm
        have hu9 := hu9.symm
        subst hr9
        subst hu9
        refine fmV_xr ?_
        exact fmV_iret (pc := 59) F dX6_leaveIn_59 rfl (Or.inr ⟨(fm_q1 a1), (Or.inr ⟨(fun k => k.1 a2), (Or.inl ⟨a4, rfl, rfl⟩)⟩)⟩)
    · refine fmV_iload_n (pc := 24) (i := 2) F dX6_leaveIn_24 rfl rfl ?_
      refine fmV_aload_n (pc := 25) (i := 0) F dX6_leaveIn_25 rfl rfl ?_
      refine fmg_14_s (pc := 26) F  hin_X6 dX6_leaveIn_26 (List.mem_of_getElem? (i := 2) rfl) ?_
      refine fmgN_23_step (pc := 29) F hX (by assumption) hin_X5 dX6_leaveIn_29 (List.mem_of_getElem? (i := 6) rfl) ?_
      refine fmV_icmp_ge (pc := 32) (tgt := 41) F dX6_leaveIn_32 (by decide) (fun a3 => ?_) (fun a3 => ?_)
      · refine fmV_aload_n (pc := 41) (i := 0) F dX6_leaveIn_41 rfl rfl ?_
        refine fmg_14_s (pc := 42) F  hin_X6 dX6_leaveIn_42 (List.mem_of_getElem? (i := 2) rfl) ?_
        refine fmgN_23_is (pc := 45) F hX (by assumption) hin_X5 dX6_leaveIn_45 (List.mem_of_getElem? (i := 11) rfl) ?_
        refine fmV_iload_n (pc := 48) (i := 1) F dX6_leaveIn_48 rfl rfl ?_
        refine fmal_26 (pc := 49) F (by assumption) dX6_leaveIn_49 (fm_in hx2 (show x.toNatClampNeg < _ by omega) (by decide)) rfl ?_
        refine fmV_iconst (pc := 50) (v := 2) F dX6_leaveIn_50 rfl ?_
        refine fmV_icmp_ne (pc := 51) (tgt := 60) F dX6_leaveIn_51 (by decide) (fun a4 => ?_) (fun a4 => ?_)
        · refine fmV_aload_n (pc := 60) (i := 0) F dX6_leaveIn_60 rfl rfl ?_
          refine fmg_14_s (pc := 61) F  hin_X6 dX6_leaveIn_61 (List.mem_of_getElem? (i := 2) rfl) ?_
          refine fmgN_23_leaves (pc := 64) F hX (by assumption) hin_X5 dX6_leaveIn_64 (List.mem_of_getElem? (i := 14) rfl) ?_
          refine fmV_iload_n (pc := 67) (i := 1) F dX6_leaveIn_67 rfl rfl ?_
          refine fmal_29 (pc := 68) F (by assumption) dX6_leaveIn_68 (fm_in hx2 (show x.toNatClampNeg < _ by omega) (by decide)) rfl ?_
          refine fmV_istore_n (pc := 69) (i := 3) F dX6_leaveIn_69 rfl (by decide) ?_
          refine fmV_aload_n (pc := 70) (i := 0) F dX6_leaveIn_70 rfl rfl ?_
          refine fmg_14_s (pc := 71) F  hin_X6 dX6_leaveIn_71 (List.mem_of_getElem? (i := 2) rfl) ?_
          refine fmgN_23_leaves (pc := 74) F hX (by assumption) hin_X5 dX6_leaveIn_74 (List.mem_of_getElem? (i := 14) rfl) ?_
          refine fmV_iload_n (pc := 77) (i := 1) F dX6_leaveIn_77 rfl rfl ?_
          refine fmV_iload_n (pc := 78) (i := 2) F dX6_leaveIn_78 rfl rfl ?_
          refine fmas_29 (pc := 79) F (by assumption) dX6_leaveIn_79 (fm_in hx2 (show x.toNatClampNeg < _ by omega) (by decide)) rfl ?_
          refine fmV_iload_n (pc := 80) (i := 3) F dX6_leaveIn_80 rfl rfl ?_
          refine fmV_xr ?_
          exact fmV_iret (pc := 81) F dX6_leaveIn_81 rfl (Or.inr ⟨(fm_q1 a1), (Or.inr ⟨(fun k => Int32.not_lt.mpr a3 k.2), (Or.inr ⟨a4, ⟨rfl, rfl⟩⟩)⟩)⟩)
        · refine fmV_aload_n (pc := 54) (i := 0) F dX6_leaveIn_54 rfl rfl ?_
          refine fmV_iconst (pc := 55) (v := 3) F dX6_leaveIn_55 rfl ?_
          refine fmV_xVi (n := 1) (pc := 56) F hX (c_X6_no l D A G τ o 3) gX6_leaveIn_X6_no rfl rfl rfl (by decide +kernel) ⟨Nat.le_of_ble_eq_true rfl, Nat.le_of_ble_eq_true rfl⟩ (fmR_14 F ) rfl rfl (Nat.le_of_ble_eq_true rfl) dX6_leaveIn_56 ⟨Nat.le_of_ble_eq_true rfl, Nat.le_of_ble_eq_true rfl⟩ (fun _ _ h9 => False.elim h9) (fun r8 u7 hc9 => ?_)
          obtain ⟨hr9, hu9⟩ := hc9
          have hr9 := hr9.symm
          have hu9 := hu9.symm
          subst hr9
          subst hu9
          refine fmV_xr ?_
          exact fmV_iret (pc := 59) F dX6_leaveIn_59 rfl (Or.inr ⟨(fm_q1 a1), (Or.inr ⟨(fun k => Int32.not_lt.mpr a3 k.2), (Or.inl ⟨a4, rfl, rfl⟩)⟩)⟩)
      · refine fmV_aload_n (pc := 35) (i := 0) F dX6_leaveIn_35 rfl rfl ?_
        refine fmV_iconst (pc := 36) (v := 2) F dX6_leaveIn_36 rfl ?_
        refine fmV_xVi (n := 1) (pc := 37) F hX (c_X6_no l D A G τ o 2) gX6_leaveIn_X6_no rfl rfl rfl (by decide +kernel) ⟨Nat.le_of_ble_eq_true rfl, Nat.le_of_ble_eq_true rfl⟩ (fmR_14 F ) rfl rfl (Nat.le_of_ble_eq_true rfl) dX6_leaveIn_37 ⟨Nat.le_of_ble_eq_true rfl, Nat.le_of_ble_eq_true rfl⟩ (fun _ _ h9 => False.elim h9) (fun r11 u10 hc12 => ?_)
        obtain ⟨hr9, hu9⟩ := hc12
        have hr9 := hr9.symm
        have hu9 := hu9.symm
        subst hr9
        subst hu9
        refine fmV_xr ?_
        exact fmV_iret (pc := 40) F dX6_leaveIn_40 rfl (Or.inr ⟨(fm_q1 a1), (Or.inl ⟨⟨a2, Int32.not_le.mp a3⟩, rfl, rfl⟩)⟩)
  · refine fmV_aload_n (pc := 13) (i := 0) F dX6_leaveIn_13 rfl rfl ?_
    refine fmV_iconst (pc := 14) (v := 1) F dX6_leaveIn_14 rfl ?_
    refine fmV_xVi (n := 1) (pc := 15) F hX (c_X6_no l D A G τ o 1) gX6_leaveIn_X6_no rfl rfl rfl (by decide +kernel) ⟨Nat.le_of_ble_eq_true rfl, Nat.le_of_ble_eq_true rfl⟩ (fmR_14 F ) rfl rfl (Nat.le_of_ble_eq_true rfl) dX6_leaveIn_15 ⟨Nat.le_of_ble_eq_true rfl, Nat.le_of_ble_eq_true rfl⟩ (fun _ _ h9 => False.elim h9) (fun r14 u13 hc15 => ?_)
    obtain ⟨hr9, hu9⟩ := hc15
    have hr9 := hr9.symm
    have hu9 := hu9.symm
    subst hr9
    subst hu9
    refine fmV_xr ?_
    exact fmV_iret (pc := 18) F dX6_leaveIn_18 rfl (Or.inl ⟨fm_q0 a1, rfl, rfl⟩)

set_option maxHeartbeats 4000000 in
set_option maxRecDepth 100000 in
theorem c_X6_goodTold (l : Launch) (D : va_G) (A : Nat → Prop) (G : fmG) (σ : fmS) (o : Nat → Int64) {i : Nat} (hi : i < 56) (w : Int32) : fmXi l D A G yX6_goodTold wsX6_goodTold (fmRm 1 0 0) 0 0 [.ref (G.1 14 0 0), .int (nI i), .int w] σ o (fun r u => r = gGT σ i w ∧ u = σ) (fun _ _ => False) := by
  refine fmXi_of (cc := cX6_goodTold) (maxL := 3) (ret := (some .int)) (by decide +kernel) rfl (Nat.le_of_ble_eq_true rfl) ?_
  intro P_ E_ S_ M_ args_ below_ meth_ C_ F hX hnt
  have hin_X6 : ∀ w ∈ wsX60, w ∈ wsX6_goodTold := (fun _ h => List.mem_cons_of_mem _ (List.mem_append_left _ (List.mem_append_right _ h)))
  have hin_X5 : ∀ w ∈ wsX50, w ∈ wsX6_goodTold := (fun _ h => List.mem_cons_of_mem _ (List.mem_append_right _ h))
  have hb0 : (0 : Nat) < 2 := by decide
  refine fmV_iload_n (pc := 0) (i := 2) F dX6_goodTold_0 rfl rfl ?_
  refine fmV_if_ne (pc := 1) (tgt := 16) F dX6_goodTold_1 (by decide) (fun a1 => ?_) (fun a1 => ?_)
  · refine fmV_iload_n (pc := 16) (i := 2) F dX6_goodTold_16 rfl rfl ?_
    refine fmV_iconst (pc := 17) (v := 1) F dX6_goodTold_17 rfl ?_
    refine fmV_icmp_ne (pc := 18) (tgt := 30) F dX6_goodTold_18 (by decide) (fun a2 => ?_) (fun a2 => ?_)
    · refine fmV_iload_n (pc := 30) (i := 2) F dX6_goodTold_30 rfl rfl ?_
      refine fmV_iconst (pc := 31) (v := 2) F dX6_goodTold_31 rfl ?_
      refine fmV_icmp_ne (pc := 32) (tgt := 44) F dX6_goodTold_32 (by decide) (fun a3 => ?_) (fun a3 => ?_)
      · refine fmV_aload_n (pc := 44) (i := 0) F dX6_goodTold_44 rfl rfl ?_
        refine fmg_14_pays (pc := 45) F  hin_X6 dX6_goodTold_45 (List.mem_of_getElem? (i := 4) rfl) ?_
        refine fmV_iload_n (pc := 48) (i := 1) F dX6_goodTold_48 rfl rfl ?_
        refine fmal_21 (pc := 49) F  dX6_goodTold_49 (vp_in_nI (by omega) (by decide)) (fm_cn (by omega)) ?_
        refine fmV_xr ?_
        exact fmV_iret (pc := 50) F dX6_goodTold_50 rfl ⟨by rw [gGT, if_neg a1, if_neg a2, if_neg a3], rfl⟩
      · refine fmV_aload_n (pc := 35) (i := 0) F dX6_goodTold_35 rfl rfl ?_
        refine fmg_14_wants (pc := 36) F  hin_X6 dX6_goodTold_36 (List.mem_of_getElem? (i := 3) rfl) ?_
        refine fmV_iload_n (pc := 39) (i := 1) F dX6_goodTold_39 rfl rfl ?_
        refine fmal_20 (pc := 40) F  dX6_goodTold_40 (vp_in_nI (by omega) (by decide)) (fm_cn (by omega)) ?_
        refine fmV_goto (pc := 41) (tgt := 50) F dX6_goodTold_41 (by decide) ?_
        refine fmV_xr ?_
        exact fmV_iret (pc := 50) F dX6_goodTold_50 rfl ⟨by rw [gGT, if_neg a1, if_neg a2, if_pos a3], rfl⟩
    · refine fmV_aload_n (pc := 21) (i := 0) F dX6_goodTold_21 rfl rfl ?_
      refine fmg_14_price (pc := 22) F  hin_X6 dX6_goodTold_22 (List.mem_of_getElem? (i := 2) rfl) ?_
      refine fmV_iload_n (pc := 25) (i := 1) F dX6_goodTold_25 rfl rfl ?_
      refine fmal_19 (pc := 26) F  dX6_goodTold_26 (vp_in_nI (by omega) (by decide)) (fm_cn (by omega)) ?_
      refine fmV_goto (pc := 27) (tgt := 50) F dX6_goodTold_27 (by decide) ?_
      refine fmV_xr ?_
      exact fmV_iret (pc := 50) F dX6_goodTold_50 rfl ⟨by rw [gGT, if_neg a1, if_pos a2], rfl⟩
  · refine fmV_aload_n (pc := 4) (i := 0) F dX6_goodTold_4 rfl rfl ?_
    refine fmg_14_s (pc := 5) F  hin_X6 dX6_goodTold_5 (List.mem_of_getElem? (i := 1) rfl) ?_
    refine fmgN_23_has (pc := 8) F hX (by assumption) hin_X5 dX6_goodTold_8 (List.mem_of_getElem? (i := 10) rfl) ?_
    refine fmV_iload_n (pc := 11) (i := 1) F dX6_goodTold_11 rfl rfl ?_
    refine fmal_25 (pc := 12) F (by assumption) dX6_goodTold_12 (vp_in_nI (by omega) (by decide)) (fm_cn (by omega)) ?_
    refine fmV_goto (pc := 13) (tgt := 50) F dX6_goodTold_13 (by decide) ?_
    refine fmV_xr ?_
    exact fmV_iret (pc := 50) F dX6_goodTold_50 rfl ⟨by rw [gGT, if_pos a1], rfl⟩

set_option maxHeartbeats 4000000 in
set_option maxRecDepth 100000 in
theorem c_X6_good (l : Launch) (D : va_G) (A : Nat → Prop) (G : fmG) (σ : fmS) (o : Nat → Int64) {rc cc t : Nat} (hcc : cc ≤ 14) (h63 : σ 63 0 0 0 = nI cc) (hrc : rc ≤ 4) (h62 : σ 62 0 0 0 = nI rc) (ht : t + 200 < 2 ^ 30) (h64 : σ 64 0 0 0 = nI t) (x y z : Int32) : fmXi l D A G yX6_good wsX6_good (fmRm 3 0 0) 0 0 [.ref (G.1 14 0 0), .int x, .int y, .int z] σ o (fun r u => gRes (gz σ) (r = gGT (gz σ) (4 * x.toNatClampNeg + y.toNatClampNeg) z ∧ u = (gz σ)) r u [(1, (x < 0 ∨ nI cc ≤ x) ∨ (y < 0 ∨ 3 < y) ∨ (z < 0 ∨ 3 < z))]) (fun _ _ => False) := by
  refine fmXi_of (cc := cX6_good) (maxL := 4) (ret := (some .int)) (by decide +kernel) rfl (Nat.le_of_ble_eq_true rfl) ?_
  intro P_ E_ S_ M_ args_ below_ meth_ C_ F hX hnt
  have hin_X6 : ∀ w ∈ wsX60, w ∈ wsX6_good := (fun _ h => List.mem_cons_of_mem _ (List.mem_append_left _ (List.mem_append_right _ h)))
  have hin_X5 : ∀ w ∈ wsX50, w ∈ wsX6_good := (fun _ h => List.mem_cons_of_mem _ (List.mem_append_right _ h))
  have hb0 : (0 : Nat) < 2 := by decide
  have hb1 : (1 : Nat) < 2 := by decide
  refine fmV_aload_n (pc := 0) (i := 0) F dX6_good_0 rfl rfl ?_
  refine fmV_iconst (pc := 1) (v := 0) F dX6_good_1 rfl ?_
  refine fmp_14_thrown (pc := 2) F  hin_X6 dX6_good_2 (List.mem_of_getElem? (i := 1) rfl) ?_
  have g63 : gz σ 63 0 0 0 = nI cc := by rw [gz_c (by decide)]; exact h63
  have g62 : gz σ 62 0 0 0 = nI rc := by rw [gz_c (by decide)]; exact h62
  have g64 : gz σ 64 0 0 0 = nI t := by rw [gz_c (by decide)]; exact h64
  refine fmV_sg (σ1 := gz σ) rfl ?_
  generalize gz σ = τ at g62 g63 g64 ⊢
  refine fmV_aload_n (pc := 5) (i := 0) F dX6_good_5 rfl rfl ?_
  refine fmV_iload_n (pc := 6) (i := 1) F dX6_good_6 rfl rfl ?_
  refine fmV_xVi (n := 1) (pc := 7) F hX (c_X6_isCanoe l D A G τ o hcc g63 x) gX6_good_X6_isCanoe rfl rfl rfl (by decide +kernel) ⟨Nat.le_of_ble_eq_true rfl, Nat.le_of_ble_eq_true rfl⟩ (fmR_14 F ) rfl rfl (Nat.le_of_ble_eq_true rfl) dX6_good_7 ⟨Nat.le_of_ble_eq_true rfl, Nat.le_of_ble_eq_true rfl⟩ (fun _ _ h9 => False.elim h9) (fun r2 u1 hc3 => ?_)
  obtain ⟨hr9, hu9⟩ := hc3
  have hr9 := hr9.symm
  have hu9 := hu9.symm
  subst hr9
  subst hu9
  refine fmV_if_eq (pc := 10) (tgt := 42) F dX6_good_10 (by decide) (fun a1 => ?_) (fun a1 => ?_)
  · refine fmV_aload_n (pc := 42) (i := 0) F dX6_good_42 rfl rfl ?_
    refine fmV_iconst (pc := 43) (v := 1) F dX6_good_43 rfl ?_
    refine fmV_xVi (n := 1) (pc := 44) F hX (c_X6_no l D A G τ o 1) gX6_good_X6_no rfl rfl rfl (by decide +kernel) ⟨Nat.le_of_ble_eq_true rfl, Nat.le_of_ble_eq_true rfl⟩ (fmR_14 F ) rfl rfl (Nat.le_of_ble_eq_true rfl) dX6_good_44 ⟨Nat.le_of_ble_eq_true rfl, Nat.le_of_ble_eq_true rfl⟩ (fun _ _ h9 => False.elim h9) (fun r5 u4 hc6 => ?_)
    obtain ⟨hr9, hu9⟩ := hc6
    have hr9 := hr9.symm
    have hu9 := hu9.symm
    subst hr9
    subst hu9
    refine fmV_xr ?_
    exact fmV_iret (pc := 47) F dX6_good_47 rfl (Or.inl ⟨Or.inl (fm_q0 a1), rfl, rfl⟩)
  · refine fmV_iload_n (pc := 13) (i := 2) F dX6_good_13 rfl rfl ?_
    refine fmV_xSi (n := 1) (pc := 14) F hX (c_X6_isGood l D A G τ o y) gX6_good_X6_isGood rfl rfl rfl (by decide +kernel) ⟨Nat.le_of_ble_eq_true rfl, Nat.le_of_ble_eq_true rfl⟩ rfl rfl (Nat.le_of_ble_eq_true rfl) dX6_good_14 ⟨Nat.le_of_ble_eq_true rfl, Nat.le_of_ble_eq_true rfl⟩ (fun _ _ h9 => False.elim h9) (fun r8 u7 hc9 => ?_)
    obtain ⟨hr9, hu9⟩ := hc9
    have hr9 := hr9.symm
    have hu9 := hu9.symm
    subst hr9
    subst hu9
    refine fmV_if_eq (pc := 17) (tgt := 42) F dX6_good_17 (by decide) (fun a2 => ?_) (fun a2 => ?_)
    · refine fmV_aload_n (pc := 42) (i := 0) F dX6_good_42 rfl rfl ?_
      refine fmV_iconst (pc := 43) (v := 1) F dX6_good_43 rfl ?_
      refine fmV_xVi (n := 1) (pc := 44) F hX (c_X6_no l D A G τ o 1) gX6_good_X6_no rfl rfl rfl (by decide +kernel) ⟨Nat.le_of_ble_eq_true rfl, Nat.le_of_ble_eq_true rfl⟩ (fmR_14 F ) rfl rfl (Nat.le_of_ble_eq_true rfl) dX6_good_44 ⟨Nat.le_of_ble_eq_true rfl, Nat.le_of_ble_eq_true rfl⟩ (fun _ _ h9 => False.elim h9) (fun r11 u10 hc12 => ?_)
      obtain ⟨hr9, hu9⟩ := hc12
      have hr9 := hr9.symm
      have hu9 := hu9.symm
      subst hr9
      subst hu9
      refine fmV_xr ?_
      exact fmV_iret (pc := 47) F dX6_good_47 rfl (Or.inl ⟨Or.inr (Or.inl (fm_q0 a2)), rfl, rfl⟩)
    · refine fmV_iload_n (pc := 20) (i := 3) F dX6_good_20 rfl rfl ?_
      refine fmV_iconst (pc := 21) (v := 0) F dX6_good_21 rfl ?_
      refine fmV_iconst (pc := 22) (v := 3) F dX6_good_22 rfl ?_
      refine fmV_xSi (n := 3) (pc := 23) F hX (c_X6_isIn l D A G τ o z 0 3) gX6_good_X6_isIn rfl rfl rfl (by decide +kernel) ⟨Nat.le_of_ble_eq_true rfl, Nat.le_of_ble_eq_true rfl⟩ rfl rfl (Nat.le_of_ble_eq_true rfl) dX6_good_23 ⟨Nat.le_of_ble_eq_true rfl, Nat.le_of_ble_eq_true rfl⟩ (fun _ _ h9 => False.elim h9) (fun r14 u13 hc15 => ?_)
      obtain ⟨hr9, hu9⟩ := hc15
      have hr9 := hr9.symm
      have hu9 := hu9.symm
      subst hr9
      subst hu9
      refine fmV_if_eq (pc := 26) (tgt := 42) F dX6_good_26 (by decide) (fun a3 => ?_) (fun a3 => ?_)
      · refine fmV_aload_n (pc := 42) (i := 0) F dX6_good_42 rfl rfl ?_
        refine fmV_iconst (pc := 43) (v := 1) F dX6_good_43 rfl ?_
        refine fmV_xVi (n := 1) (pc := 44) F hX (c_X6_no l D A G τ o 1) gX6_good_X6_no rfl rfl rfl (by decide +kernel) ⟨Nat.le_of_ble_eq_true rfl, Nat.le_of_ble_eq_true rfl⟩ (fmR_14 F ) rfl rfl (Nat.le_of_ble_eq_true rfl) dX6_good_44 ⟨Nat.le_of_ble_eq_true rfl, Nat.le_of_ble_eq_true rfl⟩ (fun _ _ h9 => False.elim h9) (fun r17 u16 hc18 => ?_)
        obtain ⟨hr9, hu9⟩ := hc18
        have hr9 := hr9.symm
        have hu9 := hu9.symm
        subst hr9
        subst hu9
        refine fmV_xr ?_
        exact fmV_iret (pc := 47) F dX6_good_47 rfl (Or.inl ⟨Or.inr (Or.inr (fm_q0 a3)), rfl, rfl⟩)
      · obtain ⟨hx1, hx2⟩ := fm_ixc (x := x) (n := cc) (fm_q1 a1) (by omega)
        have hx14 : x.toNatClampNeg < 14 := by omega
        obtain ⟨hy0, hy1, hy2⟩ := fm_rgc (x := y) (lo := 0) (hi := 3) (fm_q1 a2) (by decide) (by decide)
        have e4 : (4 : Int32) * x + y = nI (4 * x.toNatClampNeg + y.toNatClampNeg) := by have q := fm_e4 x.toNatClampNeg y.toNatClampNeg; rw [← hx2, ← hy2] at q; exact q
        refine fmV_aload_n (pc := 29) (i := 0) F dX6_good_29 rfl rfl ?_
        refine fmV_iconst (pc := 30) (v := 4) F dX6_good_30 rfl ?_
        refine fmV_iload_n (pc := 31) (i := 1) F dX6_good_31 rfl rfl ?_
        refine fmV_imul (pc := 32) F dX6_good_32 ?_
        refine fmV_iload_n (pc := 33) (i := 2) F dX6_good_33 rfl rfl ?_
        refine fmV_iadd (pc := 34) F dX6_good_34 ?_
        rw [e4]
        refine fmV_iload_n (pc := 35) (i := 3) F dX6_good_35 rfl rfl ?_
        refine fmV_xVi (n := 2) (pc := 36) F hX (c_X6_goodTold l D A G τ o (i := (4 * x.toNatClampNeg + y.toNatClampNeg)) (by omega) z) gX6_good_X6_goodTold rfl rfl rfl (by decide +kernel) ⟨Nat.le_of_ble_eq_true rfl, Nat.le_of_ble_eq_true rfl⟩ (fmR_14 F ) rfl rfl (Nat.le_of_ble_eq_true rfl) dX6_good_36 ⟨Nat.le_of_ble_eq_true rfl, Nat.le_of_ble_eq_true rfl⟩ (fun _ _ h9 => False.elim h9) (fun r20 u19 hc21 => ?_)
        obtain ⟨hr9, hu9⟩ := hc21
        have hr9 := hr9.symm
        have hu9 := hu9.symm
        subst hr9
        subst hu9
        refine fmV_goto (pc := 39) (tgt := 47) F dX6_good_39 (by decide) ?_
        refine fmV_xr ?_
        exact fmV_iret (pc := 47) F dX6_good_47 rfl (Or.inr ⟨(fun q => q.elim (fm_q1 a1) (fun q => q.elim (fm_q1 a2) (fm_q1 a3))), ⟨rfl, rfl⟩⟩)

set_option maxHeartbeats 4000000 in
set_option maxRecDepth 100000 in
theorem c_X6_at (l : Launch) (D : va_G) (A : Nat → Prop) (G : fmG) (σ : fmS) (o : Nat → Int64) {rc cc t : Nat} (hcc : cc ≤ 14) (h63 : σ 63 0 0 0 = nI cc) (hrc : rc ≤ 4) (h62 : σ 62 0 0 0 = nI rc) (ht : t + 200 < 2 ^ 30) (h64 : σ 64 0 0 0 = nI t) (x y : Int32) : fmXi l D A G yX6_at wsX6_at (fmRm 3 0 0) 0 0 [.ref (G.1 14 0 0), .int x, .int y] σ o (fun r u => gRes (gz σ) (r = gAt (gz σ) 0 x y cc ∧ u = (gz σ)) r u [(1, (x < 0 ∨ nI rc ≤ x) ∨ (y < 0 ∨ (gz σ) 15 0 0 x.toNatClampNeg - 1 < y))]) (fun _ _ => False) := by
  refine fmXi_of (cc := cX6_at) (maxL := 3) (ret := (some .int)) (by decide +kernel) rfl (Nat.le_of_ble_eq_true rfl) ?_
  intro P_ E_ S_ M_ args_ below_ meth_ C_ F hX hnt
  have hin_X6 : ∀ w ∈ wsX60, w ∈ wsX6_at := (fun _ h => List.mem_cons_of_mem _ (List.mem_append_left _ (List.mem_append_right _ h)))
  have hin_X5 : ∀ w ∈ wsX50, w ∈ wsX6_at := (fun _ h => List.mem_cons_of_mem _ (List.mem_append_right _ h))
  have hb0 : (0 : Nat) < 2 := by decide
  have hb1 : (1 : Nat) < 2 := by decide
  refine fmV_aload_n (pc := 0) (i := 0) F dX6_at_0 rfl rfl ?_
  refine fmV_iconst (pc := 1) (v := 0) F dX6_at_1 rfl ?_
  refine fmp_14_thrown (pc := 2) F  hin_X6 dX6_at_2 (List.mem_of_getElem? (i := 1) rfl) ?_
  have g63 : gz σ 63 0 0 0 = nI cc := by rw [gz_c (by decide)]; exact h63
  have g62 : gz σ 62 0 0 0 = nI rc := by rw [gz_c (by decide)]; exact h62
  have g64 : gz σ 64 0 0 0 = nI t := by rw [gz_c (by decide)]; exact h64
  refine fmV_sg (σ1 := gz σ) rfl ?_
  generalize gz σ = τ at g62 g63 g64 ⊢
  refine fmV_aload_n (pc := 5) (i := 0) F dX6_at_5 rfl rfl ?_
  refine fmV_iload_n (pc := 6) (i := 1) F dX6_at_6 rfl rfl ?_
  refine fmV_xVi (n := 1) (pc := 7) F hX (c_X6_isRow l D A G τ o (show rc ≤ 14 by omega) g62 _) gX6_at_X6_isRow rfl rfl rfl (by decide +kernel) ⟨Nat.le_of_ble_eq_true rfl, Nat.le_of_ble_eq_true rfl⟩ (fmR_14 F ) rfl rfl (Nat.le_of_ble_eq_true rfl) dX6_at_7 ⟨Nat.le_of_ble_eq_true rfl, Nat.le_of_ble_eq_true rfl⟩ (fun _ _ h9 => False.elim h9) (fun r2 u1 hc3 => ?_)
  obtain ⟨hr9, hu9⟩ := hc3
  have hr9 := hr9.symm
  have hu9 := hu9.symm
  subst hr9
  subst hu9
  refine fmV_if_eq (pc := 10) (tgt := 41) F dX6_at_10 (by decide) (fun a1 => ?_) (fun a1 => ?_)
  · refine fmV_aload_n (pc := 41) (i := 0) F dX6_at_41 rfl rfl ?_
    refine fmV_iconst (pc := 42) (v := 1) F dX6_at_42 rfl ?_
    refine fmV_xVi (n := 1) (pc := 43) F hX (c_X6_no l D A G τ o 1) gX6_at_X6_no rfl rfl rfl (by decide +kernel) ⟨Nat.le_of_ble_eq_true rfl, Nat.le_of_ble_eq_true rfl⟩ (fmR_14 F ) rfl rfl (Nat.le_of_ble_eq_true rfl) dX6_at_43 ⟨Nat.le_of_ble_eq_true rfl, Nat.le_of_ble_eq_true rfl⟩ (fun _ _ h9 => False.elim h9) (fun r5 u4 hc6 => ?_)
    obtain ⟨hr9, hu9⟩ := hc6
    have hr9 := hr9.symm
    have hu9 := hu9.symm
    subst hr9
    subst hu9
    refine fmV_xr ?_
    exact fmV_iret (pc := 46) F dX6_at_46 rfl (Or.inl ⟨Or.inl (fm_q0 a1), rfl, rfl⟩)
  · obtain ⟨hx1, hx2⟩ := fm_ixc (x := x) (n := rc) (fm_q1 a1) (by omega)
    have hx4 : x.toNatClampNeg < 4 := by omega
    refine fmV_iload_n (pc := 13) (i := 2) F dX6_at_13 rfl rfl ?_
    refine fmV_iconst (pc := 14) (v := 0) F dX6_at_14 rfl ?_
    refine fmV_aload_n (pc := 15) (i := 0) F dX6_at_15 rfl rfl ?_
    refine fmg_14_places (pc := 16) F  hin_X6 dX6_at_16 (List.mem_of_getElem? (i := 2) rfl) ?_
    refine fmV_iload_n (pc := 19) (i := 1) F dX6_at_19 rfl rfl ?_
    refine fmal_15 (pc := 20) F  dX6_at_20 (fm_in hx2 (show x.toNatClampNeg < _ by omega) (by decide)) rfl ?_
    refine fmV_iconst (pc := 21) (v := 1) F dX6_at_21 rfl ?_
    refine fmV_isub (pc := 22) F dX6_at_22 ?_
    refine fmV_xSi (n := 3) (pc := 23) F hX (c_X6_isIn l D A G τ o y 0 (τ 15 0 0 x.toNatClampNeg - 1)) gX6_at_X6_isIn rfl rfl rfl (by decide +kernel) ⟨Nat.le_of_ble_eq_true rfl, Nat.le_of_ble_eq_true rfl⟩ rfl rfl (Nat.le_of_ble_eq_true rfl) dX6_at_23 ⟨Nat.le_of_ble_eq_true rfl, Nat.le_of_ble_eq_true rfl⟩ (fun _ _ h9 => False.elim h9) (fun r8 u7 hc9 => ?_)
    obtain ⟨hr9, hu9⟩ := hc9
    have hr9 := hr9.symm
    have hu9 := hu9.symm
    subst hr9
    subst hu9
    refine fmV_if_eq (pc := 26) (tgt := 41) F dX6_at_26 (by decide) (fun a2 => ?_) (fun a2 => ?_)
    · refine fmV_aload_n (pc := 41) (i := 0) F dX6_at_41 rfl rfl ?_
      refine fmV_iconst (pc := 42) (v := 1) F dX6_at_42 rfl ?_
      refine fmV_xVi (n := 1) (pc := 43) F hX (c_X6_no l D A G τ o 1) gX6_at_X6_no rfl rfl rfl (by decide +kernel) ⟨Nat.le_of_ble_eq_true rfl, Nat.le_of_ble_eq_true rfl⟩ (fmR_14 F ) rfl rfl (Nat.le_of_ble_eq_true rfl) dX6_at_43 ⟨Nat.le_of_ble_eq_true rfl, Nat.le_of_ble_eq_true rfl⟩ (fun _ _ h9 => False.elim h9) (fun r11 u10 hc12 => ?_)
      obtain ⟨hr9, hu9⟩ := hc12
      have hr9 := hr9.symm
      have hu9 := hu9.symm
      subst hr9
      subst hu9
      refine fmV_xr ?_
      exact fmV_iret (pc := 46) F dX6_at_46 rfl (Or.inl ⟨Or.inr (fm_q0 a2), rfl, rfl⟩)
    · refine fmV_aload_n (pc := 29) (i := 0) F dX6_at_29 rfl rfl ?_
      refine fmg_14_s (pc := 30) F  hin_X6 dX6_at_30 (List.mem_of_getElem? (i := 3) rfl) ?_
      refine fmV_iload_n (pc := 33) (i := 1) F dX6_at_33 rfl rfl ?_
      refine fmV_iload_n (pc := 34) (i := 2) F dX6_at_34 rfl rfl ?_
      refine fmV_xVi (n := 2) (pc := 35) F hX (c_X5_at l D A G τ o hb0 hcc g63 x y) gX6_at_X5_at rfl rfl rfl (by decide +kernel) ⟨Nat.le_of_ble_eq_true rfl, Nat.le_of_ble_eq_true rfl⟩ (fmR_23 F (by assumption)) rfl rfl (Nat.le_of_ble_eq_true rfl) dX6_at_35 ⟨Nat.le_of_ble_eq_true rfl, Nat.le_of_ble_eq_true rfl⟩ (fun _ _ h9 => False.elim h9) (fun r14 u13 hc15 => ?_)
      obtain ⟨hr9, hu9⟩ := hc15
      have hr9 := hr9.symm
      have hu9 := hu9.symm
      subst hr9
      subst hu9
      refine fmV_goto (pc := 38) (tgt := 46) F dX6_at_38 (by decide) ?_
      refine fmV_xr ?_
      exact fmV_iret (pc := 46) F dX6_at_46 rfl (Or.inr ⟨(fun q => q.elim (fm_q1 a1) (fm_q1 a2)), ⟨rfl, rfl⟩⟩)

set_option maxHeartbeats 4000000 in
set_option maxRecDepth 100000 in
theorem c_X6_beside (l : Launch) (D : va_G) (A : Nat → Prop) (G : fmG) (σ : fmS) (o : Nat → Int64) {rc cc t : Nat} (hcc : cc ≤ 14) (h63 : σ 63 0 0 0 = nI cc) (hrc : rc ≤ 4) (h62 : σ 62 0 0 0 = nI rc) (ht : t + 200 < 2 ^ 30) (h64 : σ 64 0 0 0 = nI t) (x y : Int32) : fmXi l D A G yX6_beside wsX6_beside (fmRm 3 0 0) 0 0 [.ref (G.1 14 0 0), .int x, .int y] σ o (fun r u => gRes (gz σ) (r = (if gBes (gz σ) 0 x.toNatClampNeg y.toNatClampNeg then 1 else 0) ∧ u = (gz σ)) r u [(1, (x < 0 ∨ nI cc ≤ x) ∨ (y < 0 ∨ nI cc ≤ y))]) (fun _ _ => False) := by
  refine fmXi_of (cc := cX6_beside) (maxL := 3) (ret := (some .boolean)) (by decide +kernel) rfl (Nat.le_of_ble_eq_true rfl) ?_
  intro P_ E_ S_ M_ args_ below_ meth_ C_ F hX hnt
  have hin_X6 : ∀ w ∈ wsX60, w ∈ wsX6_beside := (fun _ h => List.mem_cons_of_mem _ (List.mem_append_left _ (List.mem_append_right _ h)))
  have hin_X5 : ∀ w ∈ wsX50, w ∈ wsX6_beside := (fun _ h => List.mem_cons_of_mem _ (List.mem_append_right _ h))
  have hb0 : (0 : Nat) < 2 := by decide
  have hb1 : (1 : Nat) < 2 := by decide
  refine fmV_aload_n (pc := 0) (i := 0) F dX6_beside_0 rfl rfl ?_
  refine fmV_iconst (pc := 1) (v := 0) F dX6_beside_1 rfl ?_
  refine fmp_14_thrown (pc := 2) F  hin_X6 dX6_beside_2 (List.mem_of_getElem? (i := 1) rfl) ?_
  have g63 : gz σ 63 0 0 0 = nI cc := by rw [gz_c (by decide)]; exact h63
  have g62 : gz σ 62 0 0 0 = nI rc := by rw [gz_c (by decide)]; exact h62
  have g64 : gz σ 64 0 0 0 = nI t := by rw [gz_c (by decide)]; exact h64
  refine fmV_sg (σ1 := gz σ) rfl ?_
  generalize gz σ = τ at g62 g63 g64 ⊢
  refine fmV_aload_n (pc := 5) (i := 0) F dX6_beside_5 rfl rfl ?_
  refine fmV_iload_n (pc := 6) (i := 1) F dX6_beside_6 rfl rfl ?_
  refine fmV_xVi (n := 1) (pc := 7) F hX (c_X6_isCanoe l D A G τ o hcc g63 x) gX6_beside_X6_isCanoe rfl rfl rfl (by decide +kernel) ⟨Nat.le_of_ble_eq_true rfl, Nat.le_of_ble_eq_true rfl⟩ (fmR_14 F ) rfl rfl (Nat.le_of_ble_eq_true rfl) dX6_beside_7 ⟨Nat.le_of_ble_eq_true rfl, Nat.le_of_ble_eq_true rfl⟩ (fun _ _ h9 => False.elim h9) (fun r2 u1 hc3 => ?_)
  obtain ⟨hr9, hu9⟩ := hc3
  have hr9 := hr9.symm
  have hu9 := hu9.symm
  subst hr9
  subst hu9
  refine fmV_if_eq (pc := 10) (tgt := 31) F dX6_beside_10 (by decide) (fun a1 => ?_) (fun a1 => ?_)
  · refine fmV_aload_n (pc := 31) (i := 0) F dX6_beside_31 rfl rfl ?_
    refine fmV_iconst (pc := 32) (v := 1) F dX6_beside_32 rfl ?_
    refine fmV_xVi (n := 1) (pc := 33) F hX (c_X6_no l D A G τ o 1) gX6_beside_X6_no rfl rfl rfl (by decide +kernel) ⟨Nat.le_of_ble_eq_true rfl, Nat.le_of_ble_eq_true rfl⟩ (fmR_14 F ) rfl rfl (Nat.le_of_ble_eq_true rfl) dX6_beside_33 ⟨Nat.le_of_ble_eq_true rfl, Nat.le_of_ble_eq_true rfl⟩ (fun _ _ h9 => False.elim h9) (fun r5 u4 hc6 => ?_)
    obtain ⟨hr9, hu9⟩ := hc6
    have hr9 := hr9.symm
    have hu9 := hu9.symm
    subst hr9
    subst hu9
    refine fmV_iconst (pc := 36) (v := 1) F dX6_beside_36 rfl ?_
    refine fmV_icmp_ne (pc := 37) (tgt := 44) F dX6_beside_37 (by decide) (fun a3 => ?_) (fun a3 => ?_)
    · refine fmV_iconst (pc := 44) (v := 0) F dX6_beside_44 rfl ?_
      refine fmV_xr ?_
      exact fmV_zret (pc := 45) F dX6_beside_45 rfl (by first | rfl | (split <;> rfl)) (Or.inl ⟨Or.inl (fm_q0 a1), rfl, rfl⟩)
    · exact absurd a3 (by decide)
  · refine fmV_aload_n (pc := 13) (i := 0) F dX6_beside_13 rfl rfl ?_
    refine fmV_iload_n (pc := 14) (i := 2) F dX6_beside_14 rfl rfl ?_
    refine fmV_xVi (n := 1) (pc := 15) F hX (c_X6_isCanoe l D A G τ o hcc g63 y) gX6_beside_X6_isCanoe rfl rfl rfl (by decide +kernel) ⟨Nat.le_of_ble_eq_true rfl, Nat.le_of_ble_eq_true rfl⟩ (fmR_14 F ) rfl rfl (Nat.le_of_ble_eq_true rfl) dX6_beside_15 ⟨Nat.le_of_ble_eq_true rfl, Nat.le_of_ble_eq_true rfl⟩ (fun _ _ h9 => False.elim h9) (fun r8 u7 hc9 => ?_)
    obtain ⟨hr9, hu9⟩ := hc9
    have hr9 := hr9.symm
    have hu9 := hu9.symm
    subst hr9
    subst hu9
    refine fmV_if_eq (pc := 18) (tgt := 31) F dX6_beside_18 (by decide) (fun a2 => ?_) (fun a2 => ?_)
    · refine fmV_aload_n (pc := 31) (i := 0) F dX6_beside_31 rfl rfl ?_
      refine fmV_iconst (pc := 32) (v := 1) F dX6_beside_32 rfl ?_
      refine fmV_xVi (n := 1) (pc := 33) F hX (c_X6_no l D A G τ o 1) gX6_beside_X6_no rfl rfl rfl (by decide +kernel) ⟨Nat.le_of_ble_eq_true rfl, Nat.le_of_ble_eq_true rfl⟩ (fmR_14 F ) rfl rfl (Nat.le_of_ble_eq_true rfl) dX6_beside_33 ⟨Nat.le_of_ble_eq_true rfl, Nat.le_of_ble_eq_true rfl⟩ (fun _ _ h9 => False.elim h9) (fun r11 u10 hc12 => ?_)
      obtain ⟨hr9, hu9⟩ := hc12
      have hr9 := hr9.symm
      have hu9 := hu9.symm
      subst hr9
      subst hu9
      refine fmV_iconst (pc := 36) (v := 1) F dX6_beside_36 rfl ?_
      refine fmV_icmp_ne (pc := 37) (tgt := 44) F dX6_beside_37 (by decide) (fun a3 => ?_) (fun a3 => ?_)
      · refine fmV_iconst (pc := 44) (v := 0) F dX6_beside_44 rfl ?_
        refine fmV_xr ?_
        exact fmV_zret (pc := 45) F dX6_beside_45 rfl (by first | rfl | (split <;> rfl)) (Or.inl ⟨Or.inr (fm_q0 a2), rfl, rfl⟩)
      · exact absurd a3 (by decide)
    · obtain ⟨hx1, hx2⟩ := fm_ixc (x := x) (n := cc) (fm_q1 a1) (by omega)
      have hx14 : x.toNatClampNeg < 14 := by omega
      obtain ⟨hy1, hy2⟩ := fm_ixc (x := y) (n := cc) (fm_q1 a2) (by omega)
      have hy14 : y.toNatClampNeg < 14 := by omega
      refine fmV_aload_n (pc := 21) (i := 0) F dX6_beside_21 rfl rfl ?_
      refine fmg_14_s (pc := 22) F  hin_X6 dX6_beside_22 (List.mem_of_getElem? (i := 2) rfl) ?_
      refine fmV_iload_n (pc := 25) (i := 1) F dX6_beside_25 rfl rfl ?_
      refine fmV_iload_n (pc := 26) (i := 2) F dX6_beside_26 rfl rfl ?_
      have q27 := c_X5_beside l D A G τ o hb0 hx14 hy14
      rw [← hx2, ← hy2] at q27
      refine fmV_xVi (n := 2) (pc := 27) F hX q27 gX6_beside_X5_beside rfl rfl rfl (by decide +kernel) ⟨Nat.le_of_ble_eq_true rfl, Nat.le_of_ble_eq_true rfl⟩ (fmR_23 F (by assumption)) rfl rfl (Nat.le_of_ble_eq_true rfl) dX6_beside_27 ⟨Nat.le_of_ble_eq_true rfl, Nat.le_of_ble_eq_true rfl⟩ (fun _ _ h9 => False.elim h9) (fun r14 u13 hc15 => ?_)
      obtain ⟨hr9, hu9⟩ := hc15
      have hr9 := hr9.symm
      have hu9 := hu9.symm
      subst hr9
      subst hu9
      refine fmV_xr ?_
      exact fmV_zret (pc := 30) F dX6_beside_30 rfl (by first | rfl | (split <;> rfl)) (Or.inr ⟨(fun q => q.elim (fm_q1 a1) (fm_q1 a2)), ⟨rfl, rfl⟩⟩)

set_option maxHeartbeats 4000000 in
set_option maxRecDepth 100000 in
theorem c_X6_pass_ (l : Launch) (D : va_G) (A : Nat → Prop) (G : fmG) (σ : fmS) (o : Nat → Int64) {rc cc t : Nat} (hcc : cc ≤ 14) (h63 : σ 63 0 0 0 = nI cc) (hrc : rc ≤ 4) (h62 : σ 62 0 0 0 = nI rc) (ht : t + 200 < 2 ^ 30) (h64 : σ 64 0 0 0 = nI t) (x : Int32) : fmXi l D A G yX6_pass_ wsX6_pass_ (fmRm 6 0 0) 0 0 [.ref (G.1 14 0 0), .int x] σ o (fun r u => gRes (gz σ) (r = gPass 0 rc cc t (gz σ) x.toNatClampNeg 65 0 0 0 - (gz σ) 65 0 0 0 ∧ u = gPass 0 rc cc t (gz σ) x.toNatClampNeg) r u [(1, x < 1 ∨ 200 < x)]) (fun _ _ => False) := by
  refine fmXi_of (cc := cX6_pass_) (maxL := 2) (ret := (some .int)) (by decide +kernel) rfl (Nat.le_of_ble_eq_true rfl) ?_
  intro P_ E_ S_ M_ args_ below_ meth_ C_ F hX hnt
  have hin_X6 : ∀ w ∈ wsX60, w ∈ wsX6_pass_ := (fun _ h => List.mem_cons_of_mem _ (List.mem_append_left _ (List.mem_append_right _ h)))
  have hin_X5 : ∀ w ∈ wsX50, w ∈ wsX6_pass_ := (fun _ h => List.mem_cons_of_mem _ (List.mem_append_right _ h))
  have hb0 : (0 : Nat) < 2 := by decide
  have hb1 : (1 : Nat) < 2 := by decide
  refine fmV_aload_n (pc := 0) (i := 0) F dX6_pass__0 rfl rfl ?_
  refine fmV_iconst (pc := 1) (v := 0) F dX6_pass__1 rfl ?_
  refine fmp_14_thrown (pc := 2) F  hin_X6 dX6_pass__2 (List.mem_of_getElem? (i := 1) rfl) ?_
  have g63 : gz σ 63 0 0 0 = nI cc := by rw [gz_c (by decide)]; exact h63
  have g62 : gz σ 62 0 0 0 = nI rc := by rw [gz_c (by decide)]; exact h62
  have g64 : gz σ 64 0 0 0 = nI t := by rw [gz_c (by decide)]; exact h64
  refine fmV_sg (σ1 := gz σ) rfl ?_
  generalize gz σ = τ at g62 g63 g64 ⊢
  refine fmV_iload_n (pc := 5) (i := 1) F dX6_pass__5 rfl rfl ?_
  refine fmV_iconst (pc := 6) (v := 1) F dX6_pass__6 rfl ?_
  refine fmV_sipush (pc := 7) (v := 200) F dX6_pass__7 (by decide) ?_
  refine fmV_xSi (n := 3) (pc := 10) F hX (c_X6_isIn l D A G τ o x 1 200) gX6_pass__X6_isIn rfl rfl rfl (by decide +kernel) ⟨Nat.le_of_ble_eq_true rfl, Nat.le_of_ble_eq_true rfl⟩ rfl rfl (Nat.le_of_ble_eq_true rfl) dX6_pass__10 ⟨Nat.le_of_ble_eq_true rfl, Nat.le_of_ble_eq_true rfl⟩ (fun _ _ h9 => False.elim h9) (fun r2 u1 hc3 => ?_)
  obtain ⟨hr9, hu9⟩ := hc3
  have hr9 := hr9.symm
  have hu9 := hu9.symm
  subst hr9
  subst hu9
  refine fmV_if_eq (pc := 13) (tgt := 28) F dX6_pass__13 (by decide) (fun a1 => ?_) (fun a1 => ?_)
  · refine fmV_aload_n (pc := 28) (i := 0) F dX6_pass__28 rfl rfl ?_
    refine fmV_iconst (pc := 29) (v := 1) F dX6_pass__29 rfl ?_
    refine fmV_xVi (n := 1) (pc := 30) F hX (c_X6_no l D A G τ o 1) gX6_pass__X6_no rfl rfl rfl (by decide +kernel) ⟨Nat.le_of_ble_eq_true rfl, Nat.le_of_ble_eq_true rfl⟩ (fmR_14 F ) rfl rfl (Nat.le_of_ble_eq_true rfl) dX6_pass__30 ⟨Nat.le_of_ble_eq_true rfl, Nat.le_of_ble_eq_true rfl⟩ (fun _ _ h9 => False.elim h9) (fun r5 u4 hc6 => ?_)
    obtain ⟨hr9, hu9⟩ := hc6
    have hr9 := hr9.symm
    have hu9 := hu9.symm
    subst hr9
    subst hu9
    refine fmV_xr ?_
    exact fmV_iret (pc := 33) F dX6_pass__33 rfl (Or.inl ⟨fm_q0 a1, rfl, rfl⟩)
  · obtain ⟨hx0, hx1, hx2⟩ := fm_rgc (x := x) (lo := 1) (hi := 200) (fm_q1 a1) (by decide) (by decide)
    refine fmV_aload_n (pc := 16) (i := 0) F dX6_pass__16 rfl rfl ?_
    refine fmV_aload_n (pc := 17) (i := 0) F dX6_pass__17 rfl rfl ?_
    refine fmg_14_s (pc := 18) F  hin_X6 dX6_pass__18 (List.mem_of_getElem? (i := 2) rfl) ?_
    refine fmV_iload_n (pc := 21) (i := 1) F dX6_pass__21 rfl rfl ?_
    have q22 := c_X6_pass l D A G τ o hb0 hcc g63 hrc g62 (t := t) (n := x.toNatClampNeg) (by omega) g64
    rw [← hx2] at q22
    refine fmV_xVi (n := 2) (pc := 22) F hX q22 gX6_pass__X6_pass rfl rfl rfl (by decide +kernel) ⟨Nat.le_of_ble_eq_true rfl, Nat.le_of_ble_eq_true rfl⟩ (fmR_14 F ) rfl rfl (Nat.le_of_ble_eq_true rfl) dX6_pass__22 ⟨Nat.le_of_ble_eq_true rfl, Nat.le_of_ble_eq_true rfl⟩ (fun _ _ h9 => False.elim h9) (fun r8 u7 hc9 => ?_)
    obtain ⟨hr9, hu9⟩ := hc9
    have hr9 := hr9.symm
    have hu9 := hu9.symm
    subst hr9
    subst hu9
    refine fmV_goto (pc := 25) (tgt := 33) F dX6_pass__25 (by decide) ?_
    refine fmV_xr ?_
    exact fmV_iret (pc := 33) F dX6_pass__33 rfl (Or.inr ⟨(fm_q1 a1), ⟨rfl, rfl⟩⟩)
