set_option maxHeartbeats 4000000 in
set_option maxRecDepth 100000 in
theorem c_X4_addRow (l : Launch) (D : va_G) (A : Nat → Prop) (G : fmG) (σ : fmS) (o : Nat → Int64) (hl9 : l.stackTraces = false) {rc cc t : Nat} (hg : fmGood 0 rc cc t σ) (x : Int32) : fmXi l D A G yX4_addRow wsX4_addRow (fmRm 7 2 12) 2 12 [.ref (G.1 0 0 0), .int x] σ o (fun r u => fmNo [("java/lang/IllegalArgumentException", x < 1 ∨ 6 < x), ("java/lang/IllegalStateException", 4 ≤ σ 40 0 0 0)] ∧ r = nI rc ∧ u = fmu (fmu σ 47 0 rc (fun _ => x)) 40 0 0 (fun _ => nI (rc + 1))) (fun E u => u = σ ∧ fmFirst [("java/lang/IllegalArgumentException", x < 1 ∨ 6 < x), ("java/lang/IllegalStateException", 4 ≤ σ 40 0 0 0)] E) := by
  refine fmXi_of (cc := cX4_addRow) (maxL := 2) (ret := (some .int)) (by decide +kernel) rfl (Nat.le_of_ble_eq_true rfl) ?_
  intro P_ E_ S_ M_ args_ below_ meth_ C_ F hX hnt
  have hin_X4 : ∀ w ∈ wsX40, w ∈ wsX4_addRow := (fun _ h => List.mem_cons_of_mem _ (List.mem_append_left _ (List.mem_append_left _ (List.mem_append_left _ (List.mem_append_left _ (List.mem_append_right _ h))))))
  have hin_X1 : ∀ w ∈ wsX10, w ∈ wsX4_addRow := (fun _ h => List.mem_cons_of_mem _ (List.mem_append_left _ (List.mem_append_left _ (List.mem_append_left _ (List.mem_append_right _ h)))))
  have hin_X2 : ∀ w ∈ wsX20, w ∈ wsX4_addRow := (fun _ h => List.mem_cons_of_mem _ (List.mem_append_left _ (List.mem_append_left _ (List.mem_append_right _ h))))
  obtain ⟨⟨hrc, hcc, ht, h40, h41, h42⟩, hco⟩ := id hg
  have ha0 : (0 : Nat) < 2 := by decide
  have ha1 : (1 : Nat) < 2 := by decide
  refine fmV_iload_n (pc := 0) (i := 1) F dX4_addRow_0 rfl rfl ?_
  refine fmV_iconst (pc := 1) (v := 1) F dX4_addRow_1 rfl ?_
  refine fmV_bipush (pc := 2) (v := 6) F dX4_addRow_2 (by decide) ?_
  refine fmV_xSv (n := 3) (pc := 4) F hX (c_X4_needRange l D A G σ o hl9 x 1 6) gX4_addRow_X4_needRange rfl rfl rfl (by decide +kernel) ⟨Nat.le_of_ble_eq_true rfl, Nat.le_of_ble_eq_true rfl⟩ rfl rfl (Nat.le_of_ble_eq_true rfl) dX4_addRow_4 ⟨Nat.le_of_ble_eq_true rfl, Nat.le_of_ble_eq_true rfl⟩ (fun E9 u9 hE9 ce9 q9 H9 locs9 ls9 hP9 hS9 hl8 hce9 hcv9 hcl9 => by obtain ⟨e1, e2, e3⟩ := hE9; have e2 := e2.symm; subst e2; exact fm_out F hnt ⟨rfl, Or.inl ⟨e3, e1⟩⟩ hP9 hS9 hce9 hcv9 hcl9 (Nat.le_of_ble_eq_true rfl) (Nat.le_of_ble_eq_true rfl)) (fun u_ hc_ => ?_)
  obtain ⟨hu9, n0⟩ := hc_
  have hu9 := hu9.symm
  subst hu9
  refine fmV_aload_n (pc := 7) (i := 0) F dX4_addRow_7 rfl rfl ?_
  refine fmg_0_now (pc := 8) F  hin_X4 dX4_addRow_8 (List.mem_of_getElem? (i := 1) rfl) ?_
  refine fmg_4_rowCount (pc := 11) F (by assumption) hin_X1 dX4_addRow_11 (List.mem_of_getElem? (i := 2) rfl) ?_
  refine fmV_iconst (pc := 14) (v := 4) F dX4_addRow_14 rfl ?_
  refine fmV_icmp_ge (pc := 15) (tgt := 22) F dX4_addRow_15 (by decide) (fun h1 => ?_) (fun h1 => ?_)
  · refine fmV_iconst (pc := 22) (v := 0) F dX4_addRow_22 rfl ?_
    refine fmV_xSv (n := 1) (pc := 23) F hX (c_X4_needState l D A G σ o hl9 0) gX4_addRow_X4_needState rfl rfl rfl (by decide +kernel) ⟨Nat.le_of_ble_eq_true rfl, Nat.le_of_ble_eq_true rfl⟩ rfl rfl (Nat.le_of_ble_eq_true rfl) dX4_addRow_23 ⟨Nat.le_of_ble_eq_true rfl, Nat.le_of_ble_eq_true rfl⟩ (fun E9 u9 hE9 ce9 q9 H9 locs9 ls9 hP9 hS9 hl8 hce9 hcv9 hcl9 => by obtain ⟨e1, e2, e3⟩ := hE9; have e2 := e2.symm; subst e2; exact fm_out F hnt ⟨rfl, Or.inr ⟨n0, Or.inl ⟨h1, e1⟩⟩⟩ hP9 hS9 hce9 hcv9 hcl9 (Nat.le_of_ble_eq_true rfl) (Nat.le_of_ble_eq_true rfl)) (fun u_ hc_ => ?_)
    exact absurd rfl hc_.2
  · refine fmV_iconst (pc := 18) (v := 1) F dX4_addRow_18 rfl ?_
    refine fmV_goto (pc := 19) (tgt := 23) F dX4_addRow_19 (by decide) ?_
    refine fmV_xSv (n := 1) (pc := 23) F hX (c_X4_needState l D A G σ o hl9 1) gX4_addRow_X4_needState rfl rfl rfl (by decide +kernel) ⟨Nat.le_of_ble_eq_true rfl, Nat.le_of_ble_eq_true rfl⟩ rfl rfl (Nat.le_of_ble_eq_true rfl) dX4_addRow_23 ⟨Nat.le_of_ble_eq_true rfl, Nat.le_of_ble_eq_true rfl⟩ (fun E9 u9 hE9 ce9 q9 H9 locs9 ls9 hP9 hS9 hl8 hce9 hcv9 hcl9 => by obtain ⟨e1, e2, e3⟩ := hE9; have e2 := e2.symm; subst e2; exact fm_out F hnt ⟨rfl, Or.inr ⟨n0, Or.inl ⟨(absurd e3 (by decide)), e1⟩⟩⟩ hP9 hS9 hce9 hcv9 hcl9 (Nat.le_of_ble_eq_true rfl) (Nat.le_of_ble_eq_true rfl)) (fun u_ hc_ => ?_)
    obtain ⟨hu9, -⟩ := hc_
    have hu9 := hu9.symm
    subst hu9
    have n1 := h1
    have hrc4 : rc < 4 := by
      rcases Nat.lt_or_ge rc 4 with q | q
      · exact q
      · exact absurd (by rw [h40]; exact nI_le (a := 4) q (by omega)) h1
    refine fmV_aload_n (pc := 26) (i := 0) F dX4_addRow_26 rfl rfl ?_
    refine fmg_0_now (pc := 27) F  hin_X4 dX4_addRow_27 (List.mem_of_getElem? (i := 1) rfl) ?_
    refine fmV_iload_n (pc := 30) (i := 1) F dX4_addRow_30 rfl rfl ?_
    refine fmV_cVi (n := 1) (pc := 31) F (c_X1_openRow l D A G σ o ha0 hrc4 h40 x) gX4_addRow_X1_openRow rfl rfl rfl (by decide +kernel) ⟨Nat.le_of_ble_eq_true rfl, Nat.le_of_ble_eq_true rfl⟩ (fmR_4 F (by assumption)) rfl rfl (Nat.le_of_ble_eq_true rfl) dX4_addRow_31 ⟨Nat.le_of_ble_eq_true rfl, Nat.le_of_ble_eq_true rfl⟩ (fun r11 u10 hc12 => ?_)
    obtain ⟨hr9, hu9⟩ := hc12
    have hr9 := hr9.symm
    have hu9 := hu9.symm
    subst hr9
    subst hu9
    refine fmV_widen (k := 2) (n := 12) (Nat.le_of_ble_eq_true rfl) (Nat.le_of_ble_eq_true rfl) ?_
    refine fmV_xr ?_
    exact fmV_iret (pc := 34) F dX4_addRow_34 rfl ⟨⟨n0, n1, trivial⟩, rfl, rfl⟩

set_option maxHeartbeats 4000000 in
set_option maxRecDepth 100000 in
theorem c_X4_setWater (l : Launch) (D : va_G) (A : Nat → Prop) (G : fmG) (σ : fmS) (o : Nat → Int64) (hl9 : l.stackTraces = false) {rc cc t : Nat} (hg : fmGood 0 rc cc t σ) (x y z : Int32) : fmXi l D A G yX4_setWater wsX4_setWater (fmRm 7 3 18) 3 18 [.ref (G.1 0 0 0), .int x, .int y, .int z] σ o (fun r u => fmNo [("java/lang/IndexOutOfBoundsException", x < 0 ∨ 24 ≤ x), ("java/lang/IllegalArgumentException", y < 0 ∨ 9 < y), ("java/lang/IllegalArgumentException", z < 0 ∨ 9 < z)] ∧ r = fmEntry σ x.toNatClampNeg ∧ u = fmu (fmu σ 2 0 0 (upd (σ 2 0 0) x.toNatClampNeg y)) 3 0 0 (upd (σ 3 0 0) x.toNatClampNeg z)) (fun E u => u = σ ∧ fmFirst [("java/lang/IndexOutOfBoundsException", x < 0 ∨ 24 ≤ x), ("java/lang/IllegalArgumentException", y < 0 ∨ 9 < y), ("java/lang/IllegalArgumentException", z < 0 ∨ 9 < z)] E) := by
  refine fmXi_of (cc := cX4_setWater) (maxL := 5) (ret := (some .int)) (by decide +kernel) rfl (Nat.le_of_ble_eq_true rfl) ?_
  intro P_ E_ S_ M_ args_ below_ meth_ C_ F hX hnt
  have hin_X4 : ∀ w ∈ wsX40, w ∈ wsX4_setWater := (fun _ h => List.mem_cons_of_mem _ (List.mem_append_left _ (List.mem_append_left _ (List.mem_append_left _ (List.mem_append_right _ h)))))
  have hin_X3 : ∀ w ∈ wsX30, w ∈ wsX4_setWater := (fun _ h => List.mem_cons_of_mem _ (List.mem_append_left _ (List.mem_append_left _ (List.mem_append_right _ h))))
  obtain ⟨⟨hrc, hcc, ht, h40, h41, h42⟩, hco⟩ := id hg
  have ha0 : (0 : Nat) < 2 := by decide
  have ha1 : (1 : Nat) < 2 := by decide
  refine fmV_iload_n (pc := 0) (i := 1) F dX4_setWater_0 rfl rfl ?_
  refine fmV_bipush (pc := 1) (v := 24) F dX4_setWater_1 (by decide) ?_
  refine fmV_xSv (n := 2) (pc := 3) F hX (c_X4_needIndex l D A G σ o hl9 x (24)) gX4_setWater_X4_needIndex rfl rfl rfl (by decide +kernel) ⟨Nat.le_of_ble_eq_true rfl, Nat.le_of_ble_eq_true rfl⟩ rfl rfl (Nat.le_of_ble_eq_true rfl) dX4_setWater_3 ⟨Nat.le_of_ble_eq_true rfl, Nat.le_of_ble_eq_true rfl⟩ (fun E9 u9 hE9 ce9 q9 H9 locs9 ls9 hP9 hS9 hl8 hce9 hcv9 hcl9 => by obtain ⟨e1, e2, e3⟩ := hE9; have e2 := e2.symm; subst e2; exact fm_out F hnt ⟨rfl, Or.inl ⟨e3, e1⟩⟩ hP9 hS9 hce9 hcv9 hcl9 (Nat.le_of_ble_eq_true rfl) (Nat.le_of_ble_eq_true rfl)) (fun u_ hc_ => ?_)
  obtain ⟨hu9, n0⟩ := hc_
  have hu9 := hu9.symm
  subst hu9
  obtain ⟨hx1, hx2⟩ := fm_ixc (x := x) (n := 24) n0 (by decide)
  refine fmV_iload_n (pc := 6) (i := 2) F dX4_setWater_6 rfl rfl ?_
  refine fmV_iconst (pc := 7) (v := 0) F dX4_setWater_7 rfl ?_
  refine fmV_bipush (pc := 8) (v := 9) F dX4_setWater_8 (by decide) ?_
  refine fmV_xSv (n := 3) (pc := 10) F hX (c_X4_needRange l D A G σ o hl9 y 0 9) gX4_setWater_X4_needRange rfl rfl rfl (by decide +kernel) ⟨Nat.le_of_ble_eq_true rfl, Nat.le_of_ble_eq_true rfl⟩ rfl rfl (Nat.le_of_ble_eq_true rfl) dX4_setWater_10 ⟨Nat.le_of_ble_eq_true rfl, Nat.le_of_ble_eq_true rfl⟩ (fun E9 u9 hE9 ce9 q9 H9 locs9 ls9 hP9 hS9 hl8 hce9 hcv9 hcl9 => by obtain ⟨e1, e2, e3⟩ := hE9; have e2 := e2.symm; subst e2; exact fm_out F hnt ⟨rfl, Or.inr ⟨n0, Or.inl ⟨e3, e1⟩⟩⟩ hP9 hS9 hce9 hcv9 hcl9 (Nat.le_of_ble_eq_true rfl) (Nat.le_of_ble_eq_true rfl)) (fun u_ hc_ => ?_)
  obtain ⟨hu9, n1⟩ := hc_
  have hu9 := hu9.symm
  subst hu9
  refine fmV_iload_n (pc := 13) (i := 3) F dX4_setWater_13 rfl rfl ?_
  refine fmV_iconst (pc := 14) (v := 0) F dX4_setWater_14 rfl ?_
  refine fmV_bipush (pc := 15) (v := 9) F dX4_setWater_15 (by decide) ?_
  refine fmV_xSv (n := 3) (pc := 17) F hX (c_X4_needRange l D A G σ o hl9 z 0 9) gX4_setWater_X4_needRange rfl rfl rfl (by decide +kernel) ⟨Nat.le_of_ble_eq_true rfl, Nat.le_of_ble_eq_true rfl⟩ rfl rfl (Nat.le_of_ble_eq_true rfl) dX4_setWater_17 ⟨Nat.le_of_ble_eq_true rfl, Nat.le_of_ble_eq_true rfl⟩ (fun E9 u9 hE9 ce9 q9 H9 locs9 ls9 hP9 hS9 hl8 hce9 hcv9 hcl9 => by obtain ⟨e1, e2, e3⟩ := hE9; have e2 := e2.symm; subst e2; exact fm_out F hnt ⟨rfl, Or.inr ⟨n0, Or.inr ⟨n1, Or.inl ⟨e3, e1⟩⟩⟩⟩ hP9 hS9 hce9 hcv9 hcl9 (Nat.le_of_ble_eq_true rfl) (Nat.le_of_ble_eq_true rfl)) (fun u_ hc_ => ?_)
  obtain ⟨hu9, n2⟩ := hc_
  have hu9 := hu9.symm
  subst hu9
  refine fmV_aload_n (pc := 20) (i := 0) F dX4_setWater_20 rfl rfl ?_
  refine fmg_0_water (pc := 21) F  hin_X4 dX4_setWater_21 (List.mem_of_getElem? (i := 1) rfl) ?_
  refine fmV_iload_n (pc := 24) (i := 1) F dX4_setWater_24 rfl rfl ?_
  have q25 := c_X3_entry l D A G σ o (t := x.toNatClampNeg) (by omega)
  rw [← hx2, Nat.mod_eq_of_lt hx1] at q25
  refine fmV_cVi (n := 1) (pc := 25) F q25 gX4_setWater_X3_entry rfl rfl rfl (by decide +kernel) ⟨Nat.le_of_ble_eq_true rfl, Nat.le_of_ble_eq_true rfl⟩ (fmR_1 F ) rfl rfl (Nat.le_of_ble_eq_true rfl) dX4_setWater_25 ⟨Nat.le_of_ble_eq_true rfl, Nat.le_of_ble_eq_true rfl⟩ (fun r11 u10 hc12 => ?_)
  obtain ⟨hr9, hu9⟩ := hc12
  have hr9 := hr9.symm
  have hu9 := hu9.symm
  subst hr9
  subst hu9
  refine fmV_istore (pc := 28) (i := 4) F dX4_setWater_28 (by decide) ?_
  refine fmV_aload_n (pc := 30) (i := 0) F dX4_setWater_30 rfl rfl ?_
  refine fmg_0_water (pc := 31) F  hin_X4 dX4_setWater_31 (List.mem_of_getElem? (i := 1) rfl) ?_
  refine fmg_1_tides (pc := 34) F  hin_X3 dX4_setWater_34 (List.mem_of_getElem? (i := 2) rfl) ?_
  refine fmV_iload_n (pc := 37) (i := 1) F dX4_setWater_37 rfl rfl ?_
  refine fmV_iload_n (pc := 38) (i := 2) F dX4_setWater_38 rfl rfl ?_
  refine fmas_2 (pc := 39) F  dX4_setWater_39 (fm_in hx2 hx1 (by decide)) rfl ?_
  refine fmV_aload_n (pc := 40) (i := 0) F dX4_setWater_40 rfl rfl ?_
  refine fmg_0_water (pc := 41) F  hin_X4 dX4_setWater_41 (List.mem_of_getElem? (i := 1) rfl) ?_
  refine fmg_1_wakes (pc := 44) F  hin_X3 dX4_setWater_44 (List.mem_of_getElem? (i := 3) rfl) ?_
  refine fmV_iload_n (pc := 47) (i := 1) F dX4_setWater_47 rfl rfl ?_
  refine fmV_iload_n (pc := 48) (i := 3) F dX4_setWater_48 rfl rfl ?_
  refine fmas_3 (pc := 49) F  dX4_setWater_49 (fm_in hx2 hx1 (by decide)) rfl ?_
  refine fmV_iload (pc := 50) (i := 4) F dX4_setWater_50 rfl ?_
  refine fmV_widen (k := 3) (n := 18) (Nat.le_of_ble_eq_true rfl) (Nat.le_of_ble_eq_true rfl) ?_
  refine fmV_xr ?_
  exact fmV_iret (pc := 52) F dX4_setWater_52 rfl ⟨⟨n0, n1, n2, trivial⟩, rfl, by rw [fmu_c _ _ _ _ _ (by decide)]⟩

set_option maxHeartbeats 4000000 in
set_option maxRecDepth 100000 in
theorem c_X4_addCanoe (l : Launch) (D : va_G) (A : Nat → Prop) (G : fmG) (σ : fmS) (o : Nat → Int64) (hl9 : l.stackTraces = false) {rc cc t : Nat} (hg : fmGood 0 rc cc t σ) (x y : Int32) : fmXi l D A G yX4_addCanoe wsX4_addCanoe (fmRm 7 3 18) 3 18 [.ref (G.1 0 0 0), .int x, .int y] σ o (fun r u => fmNo [("java/lang/IllegalArgumentException", x < 0 ∨ 500 < x), ("java/lang/IllegalArgumentException", y < 0 ∨ 9 < y), ("java/lang/IllegalStateException", 14 ≤ σ 41 0 0 0)] ∧ r = nI cc ∧ u = fmu (fmu (fmu σ 50 0 cc (fun _ => x)) 51 0 cc (fun _ => y)) 41 0 0 (fun _ => nI (cc + 1))) (fun E u => u = σ ∧ fmFirst [("java/lang/IllegalArgumentException", x < 0 ∨ 500 < x), ("java/lang/IllegalArgumentException", y < 0 ∨ 9 < y), ("java/lang/IllegalStateException", 14 ≤ σ 41 0 0 0)] E) := by
  refine fmXi_of (cc := cX4_addCanoe) (maxL := 3) (ret := (some .int)) (by decide +kernel) rfl (Nat.le_of_ble_eq_true rfl) ?_
  intro P_ E_ S_ M_ args_ below_ meth_ C_ F hX hnt
  have hin_X4 : ∀ w ∈ wsX40, w ∈ wsX4_addCanoe := (fun _ h => List.mem_cons_of_mem _ (List.mem_append_left _ (List.mem_append_left _ (List.mem_append_left _ (List.mem_append_left _ (List.mem_append_right _ h))))))
  have hin_X1 : ∀ w ∈ wsX10, w ∈ wsX4_addCanoe := (fun _ h => List.mem_cons_of_mem _ (List.mem_append_left _ (List.mem_append_left _ (List.mem_append_left _ (List.mem_append_right _ h)))))
  have hin_X0 : ∀ w ∈ wsX00, w ∈ wsX4_addCanoe := (fun _ h => List.mem_cons_of_mem _ (List.mem_append_left _ (List.mem_append_left _ (List.mem_append_right _ h))))
  obtain ⟨⟨hrc, hcc, ht, h40, h41, h42⟩, hco⟩ := id hg
  have ha0 : (0 : Nat) < 2 := by decide
  have ha1 : (1 : Nat) < 2 := by decide
  refine fmV_iload_n (pc := 0) (i := 1) F dX4_addCanoe_0 rfl rfl ?_
  refine fmV_iconst (pc := 1) (v := 0) F dX4_addCanoe_1 rfl ?_
  refine fmV_sipush (pc := 2) (v := 500) F dX4_addCanoe_2 (by decide) ?_
  refine fmV_xSv (n := 3) (pc := 5) F hX (c_X4_needRange l D A G σ o hl9 x 0 500) gX4_addCanoe_X4_needRange rfl rfl rfl (by decide +kernel) ⟨Nat.le_of_ble_eq_true rfl, Nat.le_of_ble_eq_true rfl⟩ rfl rfl (Nat.le_of_ble_eq_true rfl) dX4_addCanoe_5 ⟨Nat.le_of_ble_eq_true rfl, Nat.le_of_ble_eq_true rfl⟩ (fun E9 u9 hE9 ce9 q9 H9 locs9 ls9 hP9 hS9 hl8 hce9 hcv9 hcl9 => by obtain ⟨e1, e2, e3⟩ := hE9; have e2 := e2.symm; subst e2; exact fm_out F hnt ⟨rfl, Or.inl ⟨e3, e1⟩⟩ hP9 hS9 hce9 hcv9 hcl9 (Nat.le_of_ble_eq_true rfl) (Nat.le_of_ble_eq_true rfl)) (fun u_ hc_ => ?_)
  obtain ⟨hu9, n0⟩ := hc_
  have hu9 := hu9.symm
  subst hu9
  refine fmV_iload_n (pc := 8) (i := 2) F dX4_addCanoe_8 rfl rfl ?_
  refine fmV_iconst (pc := 9) (v := 0) F dX4_addCanoe_9 rfl ?_
  refine fmV_bipush (pc := 10) (v := 9) F dX4_addCanoe_10 (by decide) ?_
  refine fmV_xSv (n := 3) (pc := 12) F hX (c_X4_needRange l D A G σ o hl9 y 0 9) gX4_addCanoe_X4_needRange rfl rfl rfl (by decide +kernel) ⟨Nat.le_of_ble_eq_true rfl, Nat.le_of_ble_eq_true rfl⟩ rfl rfl (Nat.le_of_ble_eq_true rfl) dX4_addCanoe_12 ⟨Nat.le_of_ble_eq_true rfl, Nat.le_of_ble_eq_true rfl⟩ (fun E9 u9 hE9 ce9 q9 H9 locs9 ls9 hP9 hS9 hl8 hce9 hcv9 hcl9 => by obtain ⟨e1, e2, e3⟩ := hE9; have e2 := e2.symm; subst e2; exact fm_out F hnt ⟨rfl, Or.inr ⟨n0, Or.inl ⟨e3, e1⟩⟩⟩ hP9 hS9 hce9 hcv9 hcl9 (Nat.le_of_ble_eq_true rfl) (Nat.le_of_ble_eq_true rfl)) (fun u_ hc_ => ?_)
  obtain ⟨hu9, n1⟩ := hc_
  have hu9 := hu9.symm
  subst hu9
  refine fmV_aload_n (pc := 15) (i := 0) F dX4_addCanoe_15 rfl rfl ?_
  refine fmg_0_now (pc := 16) F  hin_X4 dX4_addCanoe_16 (List.mem_of_getElem? (i := 1) rfl) ?_
  refine fmg_4_canoeCount (pc := 19) F (by assumption) hin_X1 dX4_addCanoe_19 (List.mem_of_getElem? (i := 2) rfl) ?_
  refine fmV_bipush (pc := 22) (v := 14) F dX4_addCanoe_22 (by decide) ?_
  refine fmV_icmp_ge (pc := 24) (tgt := 31) F dX4_addCanoe_24 (by decide) (fun h1 => ?_) (fun h1 => ?_)
  · refine fmV_iconst (pc := 31) (v := 0) F dX4_addCanoe_31 rfl ?_
    refine fmV_xSv (n := 1) (pc := 32) F hX (c_X4_needState l D A G σ o hl9 0) gX4_addCanoe_X4_needState rfl rfl rfl (by decide +kernel) ⟨Nat.le_of_ble_eq_true rfl, Nat.le_of_ble_eq_true rfl⟩ rfl rfl (Nat.le_of_ble_eq_true rfl) dX4_addCanoe_32 ⟨Nat.le_of_ble_eq_true rfl, Nat.le_of_ble_eq_true rfl⟩ (fun E9 u9 hE9 ce9 q9 H9 locs9 ls9 hP9 hS9 hl8 hce9 hcv9 hcl9 => by obtain ⟨e1, e2, e3⟩ := hE9; have e2 := e2.symm; subst e2; exact fm_out F hnt ⟨rfl, Or.inr ⟨n0, Or.inr ⟨n1, Or.inl ⟨h1, e1⟩⟩⟩⟩ hP9 hS9 hce9 hcv9 hcl9 (Nat.le_of_ble_eq_true rfl) (Nat.le_of_ble_eq_true rfl)) (fun u_ hc_ => ?_)
    exact absurd rfl hc_.2
  · refine fmV_iconst (pc := 27) (v := 1) F dX4_addCanoe_27 rfl ?_
    refine fmV_goto (pc := 28) (tgt := 32) F dX4_addCanoe_28 (by decide) ?_
    refine fmV_xSv (n := 1) (pc := 32) F hX (c_X4_needState l D A G σ o hl9 1) gX4_addCanoe_X4_needState rfl rfl rfl (by decide +kernel) ⟨Nat.le_of_ble_eq_true rfl, Nat.le_of_ble_eq_true rfl⟩ rfl rfl (Nat.le_of_ble_eq_true rfl) dX4_addCanoe_32 ⟨Nat.le_of_ble_eq_true rfl, Nat.le_of_ble_eq_true rfl⟩ (fun E9 u9 hE9 ce9 q9 H9 locs9 ls9 hP9 hS9 hl8 hce9 hcv9 hcl9 => by obtain ⟨e1, e2, e3⟩ := hE9; have e2 := e2.symm; subst e2; exact fm_out F hnt ⟨rfl, Or.inr ⟨n0, Or.inr ⟨n1, Or.inl ⟨(absurd e3 (by decide)), e1⟩⟩⟩⟩ hP9 hS9 hce9 hcv9 hcl9 (Nat.le_of_ble_eq_true rfl) (Nat.le_of_ble_eq_true rfl)) (fun u_ hc_ => ?_)
    obtain ⟨hu9, -⟩ := hc_
    have hu9 := hu9.symm
    subst hu9
    have n2 := h1
    have hcc4 : cc < 14 := by
      rcases Nat.lt_or_ge cc 14 with q | q
      · exact q
      · exact absurd (by rw [h41]; exact nI_le (a := 14) q (by omega)) h1
    refine fmV_aload_n (pc := 35) (i := 0) F dX4_addCanoe_35 rfl rfl ?_
    refine fmg_0_now (pc := 36) F  hin_X4 dX4_addCanoe_36 (List.mem_of_getElem? (i := 1) rfl) ?_
    refine fmV_iload_n (pc := 39) (i := 1) F dX4_addCanoe_39 rfl rfl ?_
    refine fmV_iload_n (pc := 40) (i := 2) F dX4_addCanoe_40 rfl rfl ?_
    refine fmV_cVi (n := 2) (pc := 41) F (c_X1_launch l D A G σ o ha0 hcc4 h41 x y) gX4_addCanoe_X1_launch rfl rfl rfl (by decide +kernel) ⟨Nat.le_of_ble_eq_true rfl, Nat.le_of_ble_eq_true rfl⟩ (fmR_4 F (by assumption)) rfl rfl (Nat.le_of_ble_eq_true rfl) dX4_addCanoe_41 ⟨Nat.le_of_ble_eq_true rfl, Nat.le_of_ble_eq_true rfl⟩ (fun r14 u13 hc15 => ?_)
    obtain ⟨hr9, hu9⟩ := hc15
    have hr9 := hr9.symm
    have hu9 := hu9.symm
    subst hr9
    subst hu9
    refine fmV_widen (k := 3) (n := 18) (Nat.le_of_ble_eq_true rfl) (Nat.le_of_ble_eq_true rfl) ?_
    refine fmV_xr ?_
    exact fmV_iret (pc := 44) F dX4_addCanoe_44 rfl ⟨⟨n0, n1, n2, trivial⟩, rfl, rfl⟩

set_option maxHeartbeats 4000000 in
set_option maxRecDepth 100000 in
theorem c_X4_load (l : Launch) (D : va_G) (A : Nat → Prop) (G : fmG) (σ : fmS) (o : Nat → Int64) (hl9 : l.stackTraces = false) {rc cc t : Nat} (hg : fmGood 0 rc cc t σ) (x y z : Int32) : fmXi l D A G yX4_load wsX4_load (fmRm 7 4 24) 4 24 [.ref (G.1 0 0 0), .int x, .int y, .int z] σ o (fun r u => fmNo [("java/lang/IndexOutOfBoundsException", x < 0 ∨ σ 41 0 0 0 ≤ x), ("java/lang/IndexOutOfBoundsException", y < 0 ∨ 4 ≤ y), ("java/lang/IllegalArgumentException", z < 1 ∨ 40 < z), ("java/lang/IllegalStateException", σ 52 0 x.toNatClampNeg 0 = 2 ∨ 100 < σ 10 0 x.toNatClampNeg y.toNatClampNeg + z)] ∧ r = σ 10 0 x.toNatClampNeg y.toNatClampNeg + z ∧ u = fmu σ 10 0 x.toNatClampNeg (upd (σ 10 0 x.toNatClampNeg) y.toNatClampNeg (σ 10 0 x.toNatClampNeg y.toNatClampNeg + z))) (fun E u => u = σ ∧ fmFirst [("java/lang/IndexOutOfBoundsException", x < 0 ∨ σ 41 0 0 0 ≤ x), ("java/lang/IndexOutOfBoundsException", y < 0 ∨ 4 ≤ y), ("java/lang/IllegalArgumentException", z < 1 ∨ 40 < z), ("java/lang/IllegalStateException", σ 52 0 x.toNatClampNeg 0 = 2 ∨ 100 < σ 10 0 x.toNatClampNeg y.toNatClampNeg + z)] E) := by
  refine fmXi_of (cc := cX4_load) (maxL := 5) (ret := (some .int)) (by decide +kernel) rfl (Nat.le_of_ble_eq_true rfl) ?_
  intro P_ E_ S_ M_ args_ below_ meth_ C_ F hX hnt
  have hin_X4 : ∀ w ∈ wsX40, w ∈ wsX4_load := (fun _ h => List.mem_cons_of_mem _ (List.mem_append_left _ (List.mem_append_left _ (List.mem_append_left _ (List.mem_append_left _ (List.mem_append_left _ (List.mem_append_right _ h)))))))
  have hin_X1 : ∀ w ∈ wsX10, w ∈ wsX4_load := (fun _ h => List.mem_cons_of_mem _ (List.mem_append_left _ (List.mem_append_left _ (List.mem_append_left _ (List.mem_append_left _ (List.mem_append_right _ h))))))
  have hin_X0 : ∀ w ∈ wsX00, w ∈ wsX4_load := (fun _ h => List.mem_cons_of_mem _ (List.mem_append_left _ (List.mem_append_left _ (List.mem_append_left _ (List.mem_append_right _ h)))))
  obtain ⟨⟨hrc, hcc, ht, h40, h41, h42⟩, hco⟩ := id hg
  have ha0 : (0 : Nat) < 2 := by decide
  have ha1 : (1 : Nat) < 2 := by decide
  refine fmV_iload_n (pc := 0) (i := 1) F dX4_load_0 rfl rfl ?_
  refine fmV_aload_n (pc := 1) (i := 0) F dX4_load_1 rfl rfl ?_
  refine fmg_0_now (pc := 2) F  hin_X4 dX4_load_2 (List.mem_of_getElem? (i := 1) rfl) ?_
  refine fmg_4_canoeCount (pc := 5) F (by assumption) hin_X1 dX4_load_5 (List.mem_of_getElem? (i := 2) rfl) ?_
  refine fmV_xSv (n := 2) (pc := 8) F hX (c_X4_needIndex l D A G σ o hl9 x (σ 41 0 0 0)) gX4_load_X4_needIndex rfl rfl rfl (by decide +kernel) ⟨Nat.le_of_ble_eq_true rfl, Nat.le_of_ble_eq_true rfl⟩ rfl rfl (Nat.le_of_ble_eq_true rfl) dX4_load_8 ⟨Nat.le_of_ble_eq_true rfl, Nat.le_of_ble_eq_true rfl⟩ (fun E9 u9 hE9 ce9 q9 H9 locs9 ls9 hP9 hS9 hl8 hce9 hcv9 hcl9 => by obtain ⟨e1, e2, e3⟩ := hE9; have e2 := e2.symm; subst e2; exact fm_out F hnt ⟨rfl, Or.inl ⟨e3, e1⟩⟩ hP9 hS9 hce9 hcv9 hcl9 (Nat.le_of_ble_eq_true rfl) (Nat.le_of_ble_eq_true rfl)) (fun u_ hc_ => ?_)
  obtain ⟨hu9, n0⟩ := hc_
  have hu9 := hu9.symm
  subst hu9
  obtain ⟨hx1, hx2⟩ := fm_ixc (x := x) (n := cc) (by rw [← h41]; exact n0) (by omega)
  have hx14 : x.toNatClampNeg < 14 := by omega
  refine fmV_iload_n (pc := 11) (i := 2) F dX4_load_11 rfl rfl ?_
  refine fmV_iconst (pc := 12) (v := 4) F dX4_load_12 rfl ?_
  refine fmV_xSv (n := 2) (pc := 13) F hX (c_X4_needIndex l D A G σ o hl9 y (4)) gX4_load_X4_needIndex rfl rfl rfl (by decide +kernel) ⟨Nat.le_of_ble_eq_true rfl, Nat.le_of_ble_eq_true rfl⟩ rfl rfl (Nat.le_of_ble_eq_true rfl) dX4_load_13 ⟨Nat.le_of_ble_eq_true rfl, Nat.le_of_ble_eq_true rfl⟩ (fun E9 u9 hE9 ce9 q9 H9 locs9 ls9 hP9 hS9 hl8 hce9 hcv9 hcl9 => by obtain ⟨e1, e2, e3⟩ := hE9; have e2 := e2.symm; subst e2; exact fm_out F hnt ⟨rfl, Or.inr ⟨n0, Or.inl ⟨e3, e1⟩⟩⟩ hP9 hS9 hce9 hcv9 hcl9 (Nat.le_of_ble_eq_true rfl) (Nat.le_of_ble_eq_true rfl)) (fun u_ hc_ => ?_)
  obtain ⟨hu9, n1⟩ := hc_
  have hu9 := hu9.symm
  subst hu9
  obtain ⟨hy1, hy2⟩ := fm_ixc (x := y) (n := 4) n1 (by decide)
  refine fmV_iload_n (pc := 16) (i := 3) F dX4_load_16 rfl rfl ?_
  refine fmV_iconst (pc := 17) (v := 1) F dX4_load_17 rfl ?_
  refine fmV_bipush (pc := 18) (v := 40) F dX4_load_18 (by decide) ?_
  refine fmV_xSv (n := 3) (pc := 20) F hX (c_X4_needRange l D A G σ o hl9 z 1 40) gX4_load_X4_needRange rfl rfl rfl (by decide +kernel) ⟨Nat.le_of_ble_eq_true rfl, Nat.le_of_ble_eq_true rfl⟩ rfl rfl (Nat.le_of_ble_eq_true rfl) dX4_load_20 ⟨Nat.le_of_ble_eq_true rfl, Nat.le_of_ble_eq_true rfl⟩ (fun E9 u9 hE9 ce9 q9 H9 locs9 ls9 hP9 hS9 hl8 hce9 hcv9 hcl9 => by obtain ⟨e1, e2, e3⟩ := hE9; have e2 := e2.symm; subst e2; exact fm_out F hnt ⟨rfl, Or.inr ⟨n0, Or.inr ⟨n1, Or.inl ⟨e3, e1⟩⟩⟩⟩ hP9 hS9 hce9 hcv9 hcl9 (Nat.le_of_ble_eq_true rfl) (Nat.le_of_ble_eq_true rfl)) (fun u_ hc_ => ?_)
  obtain ⟨hu9, n2⟩ := hc_
  have hu9 := hu9.symm
  subst hu9
  refine fmV_aload_n (pc := 23) (i := 0) F dX4_load_23 rfl rfl ?_
  refine fmg_0_now (pc := 24) F  hin_X4 dX4_load_24 (List.mem_of_getElem? (i := 1) rfl) ?_
  refine fmg_4_canoes (pc := 27) F (by assumption) hin_X1 dX4_load_27 (List.mem_of_getElem? (i := 3) rfl) ?_
  refine fmV_iload_n (pc := 30) (i := 1) F dX4_load_30 rfl rfl ?_
  refine fmV_ald_canoes (pc := 31) F (by assumption) dX4_load_31 (fm_in hx2 hx14 (by decide)) rfl ?_
  refine fmV_astore (pc := 32) (i := 4) F dX4_load_32 (by decide) ?_
  refine fmV_aload (pc := 34) (i := 4) F dX4_load_34 rfl ?_
  refine fmg_9_status (pc := 36) F (by assumption) (by assumption) hin_X0 dX4_load_36 (List.mem_of_getElem? (i := 4) rfl) ?_
  refine fmV_iconst (pc := 39) (v := 2) F dX4_load_39 rfl ?_
  refine fmV_icmp_eq (pc := 40) (tgt := 61) F dX4_load_40 (by decide) (fun h1 => ?_) (fun h1 => ?_)
  · refine fmV_iconst (pc := 61) (v := 0) F dX4_load_61 rfl ?_
    refine fmV_xSv (n := 1) (pc := 62) F hX (c_X4_needState l D A G σ o hl9 0) gX4_load_X4_needState rfl rfl rfl (by decide +kernel) ⟨Nat.le_of_ble_eq_true rfl, Nat.le_of_ble_eq_true rfl⟩ rfl rfl (Nat.le_of_ble_eq_true rfl) dX4_load_62 ⟨Nat.le_of_ble_eq_true rfl, Nat.le_of_ble_eq_true rfl⟩ (fun E9 u9 hE9 ce9 q9 H9 locs9 ls9 hP9 hS9 hl8 hce9 hcv9 hcl9 => by obtain ⟨e1, e2, e3⟩ := hE9; have e2 := e2.symm; subst e2; exact fm_out F hnt ⟨rfl, Or.inr ⟨n0, Or.inr ⟨n1, Or.inr ⟨n2, Or.inl ⟨Or.inl h1, e1⟩⟩⟩⟩⟩ hP9 hS9 hce9 hcv9 hcl9 (Nat.le_of_ble_eq_true rfl) (Nat.le_of_ble_eq_true rfl)) (fun u_ hc_ => ?_)
    exact absurd rfl hc_.2
  · refine fmV_aload (pc := 43) (i := 4) F dX4_load_43 rfl ?_
    refine fmg_9_has (pc := 45) F (by assumption) (by assumption) hin_X0 dX4_load_45 (List.mem_of_getElem? (i := 5) rfl) ?_
    refine fmV_iload_n (pc := 48) (i := 2) F dX4_load_48 rfl rfl ?_
    refine fmal_10 (pc := 49) F (by assumption) (by assumption) dX4_load_49 (fm_in hy2 hy1 (by decide)) rfl ?_
    refine fmV_iload_n (pc := 50) (i := 3) F dX4_load_50 rfl rfl ?_
    refine fmV_iadd (pc := 51) F dX4_load_51 ?_
    refine fmV_bipush (pc := 52) (v := 100) F dX4_load_52 (by decide) ?_
    refine fmV_icmp_gt (pc := 54) (tgt := 61) F dX4_load_54 (by decide) (fun h2 => ?_) (fun h2 => ?_)
    · refine fmV_iconst (pc := 61) (v := 0) F dX4_load_61 rfl ?_
      refine fmV_xSv (n := 1) (pc := 62) F hX (c_X4_needState l D A G σ o hl9 0) gX4_load_X4_needState rfl rfl rfl (by decide +kernel) ⟨Nat.le_of_ble_eq_true rfl, Nat.le_of_ble_eq_true rfl⟩ rfl rfl (Nat.le_of_ble_eq_true rfl) dX4_load_62 ⟨Nat.le_of_ble_eq_true rfl, Nat.le_of_ble_eq_true rfl⟩ (fun E9 u9 hE9 ce9 q9 H9 locs9 ls9 hP9 hS9 hl8 hce9 hcv9 hcl9 => by obtain ⟨e1, e2, e3⟩ := hE9; have e2 := e2.symm; subst e2; exact fm_out F hnt ⟨rfl, Or.inr ⟨n0, Or.inr ⟨n1, Or.inr ⟨n2, Or.inl ⟨Or.inr h2, e1⟩⟩⟩⟩⟩ hP9 hS9 hce9 hcv9 hcl9 (Nat.le_of_ble_eq_true rfl) (Nat.le_of_ble_eq_true rfl)) (fun u_ hc_ => ?_)
      exact absurd rfl hc_.2
    · refine fmV_iconst (pc := 57) (v := 1) F dX4_load_57 rfl ?_
      refine fmV_goto (pc := 58) (tgt := 62) F dX4_load_58 (by decide) ?_
      refine fmV_xSv (n := 1) (pc := 62) F hX (c_X4_needState l D A G σ o hl9 1) gX4_load_X4_needState rfl rfl rfl (by decide +kernel) ⟨Nat.le_of_ble_eq_true rfl, Nat.le_of_ble_eq_true rfl⟩ rfl rfl (Nat.le_of_ble_eq_true rfl) dX4_load_62 ⟨Nat.le_of_ble_eq_true rfl, Nat.le_of_ble_eq_true rfl⟩ (fun E9 u9 hE9 ce9 q9 H9 locs9 ls9 hP9 hS9 hl8 hce9 hcv9 hcl9 => by obtain ⟨e1, e2, e3⟩ := hE9; have e2 := e2.symm; subst e2; exact fm_out F hnt ⟨rfl, Or.inr ⟨n0, Or.inr ⟨n1, Or.inr ⟨n2, Or.inl ⟨(absurd e3 (by decide)), e1⟩⟩⟩⟩⟩ hP9 hS9 hce9 hcv9 hcl9 (Nat.le_of_ble_eq_true rfl) (Nat.le_of_ble_eq_true rfl)) (fun u_ hc_ => ?_)
      obtain ⟨hu9, -⟩ := hc_
      have hu9 := hu9.symm
      subst hu9
      have n3 := (fun (q : σ 52 0 x.toNatClampNeg 0 = 2 ∨ 100 < σ 10 0 x.toNatClampNeg y.toNatClampNeg + z) => q.elim h1 h2)
      refine fmV_aload (pc := 65) (i := 4) F dX4_load_65 rfl ?_
      refine fmg_9_has (pc := 67) F (by assumption) (by assumption) hin_X0 dX4_load_67 (List.mem_of_getElem? (i := 5) rfl) ?_
      refine fmV_iload_n (pc := 70) (i := 2) F dX4_load_70 rfl rfl ?_
      refine fmV_dup2 (pc := 71) F dX4_load_71 rfl rfl ?_
      refine fmal_10 (pc := 72) F (by assumption) (by assumption) dX4_load_72 (fm_in hy2 hy1 (by decide)) rfl ?_
      refine fmV_iload_n (pc := 73) (i := 3) F dX4_load_73 rfl rfl ?_
      refine fmV_iadd (pc := 74) F dX4_load_74 ?_
      refine fmas_10 (pc := 75) F (by assumption) (by assumption) dX4_load_75 (fm_in hy2 hy1 (by decide)) rfl ?_
      refine fmV_aload (pc := 76) (i := 4) F dX4_load_76 rfl ?_
      refine fmg_9_has (pc := 78) F (by assumption) (by assumption) hin_X0 dX4_load_78 (List.mem_of_getElem? (i := 5) rfl) ?_
      refine fmV_iload_n (pc := 81) (i := 2) F dX4_load_81 rfl rfl ?_
      refine fmal_10 (pc := 82) F (by assumption) (by assumption) dX4_load_82 (fm_in hy2 hy1 (by decide)) rfl ?_
      refine fmV_widen (k := 4) (n := 24) (Nat.le_of_ble_eq_true rfl) (Nat.le_of_ble_eq_true rfl) ?_
      refine fmV_xr ?_
      exact fmV_iret (pc := 83) F dX4_load_83 rfl ⟨⟨n0, n1, n2, n3, trivial⟩, by rw [fmu_self, fm_upd_same], rfl⟩

set_option maxHeartbeats 4000000 in
set_option maxRecDepth 100000 in
theorem c_X4_offer (l : Launch) (D : va_G) (A : Nat → Prop) (G : fmG) (σ : fmS) (o : Nat → Int64) (hl9 : l.stackTraces = false) {rc cc t : Nat} (hg : fmGood 0 rc cc t σ) (x y z w v : Int32) : fmXi l D A G yX4_offer wsX4_offer (fmRm 7 5 30) 5 30 [.ref (G.1 0 0 0), .int x, .int y, .int z, .int w, .int v] σ o (fun r u => fmNo [("java/lang/IndexOutOfBoundsException", x < 0 ∨ σ 41 0 0 0 ≤ x), ("java/lang/IndexOutOfBoundsException", y < 0 ∨ 4 ≤ y), ("java/lang/IllegalArgumentException", z < 0 ∨ 20 < z), ("java/lang/IllegalArgumentException", v < 0 ∨ 20 < v), ("java/lang/IllegalArgumentException", w < 0 ∨ 40 < w)] ∧ r = fmMs (fmOffer σ x.toNatClampNeg y.toNatClampNeg z w v) 0 x.toNatClampNeg y.toNatClampNeg ∧ u = fmOffer σ x.toNatClampNeg y.toNatClampNeg z w v) (fun E u => u = σ ∧ fmFirst [("java/lang/IndexOutOfBoundsException", x < 0 ∨ σ 41 0 0 0 ≤ x), ("java/lang/IndexOutOfBoundsException", y < 0 ∨ 4 ≤ y), ("java/lang/IllegalArgumentException", z < 0 ∨ 20 < z), ("java/lang/IllegalArgumentException", v < 0 ∨ 20 < v), ("java/lang/IllegalArgumentException", w < 0 ∨ 40 < w)] E) := by
  refine fmXi_of (cc := cX4_offer) (maxL := 7) (ret := (some .int)) (by decide +kernel) rfl (Nat.le_of_ble_eq_true rfl) ?_
  intro P_ E_ S_ M_ args_ below_ meth_ C_ F hX hnt
  have hin_X4 : ∀ w ∈ wsX40, w ∈ wsX4_offer := (fun _ h => List.mem_cons_of_mem _ (List.mem_append_left _ (List.mem_append_left _ (List.mem_append_left _ (List.mem_append_left _ (List.mem_append_right _ h))))))
  have hin_X1 : ∀ w ∈ wsX10, w ∈ wsX4_offer := (fun _ h => List.mem_cons_of_mem _ (List.mem_append_left _ (List.mem_append_left _ (List.mem_append_left _ (List.mem_append_right _ h)))))
  have hin_X0 : ∀ w ∈ wsX00, w ∈ wsX4_offer := (fun _ h => List.mem_cons_of_mem _ (List.mem_append_left _ (List.mem_append_left _ (List.mem_append_right _ h))))
  obtain ⟨⟨hrc, hcc, ht, h40, h41, h42⟩, hco⟩ := id hg
  have ha0 : (0 : Nat) < 2 := by decide
  have ha1 : (1 : Nat) < 2 := by decide
  refine fmV_iload_n (pc := 0) (i := 1) F dX4_offer_0 rfl rfl ?_
  refine fmV_aload_n (pc := 1) (i := 0) F dX4_offer_1 rfl rfl ?_
  refine fmg_0_now (pc := 2) F  hin_X4 dX4_offer_2 (List.mem_of_getElem? (i := 1) rfl) ?_
  refine fmg_4_canoeCount (pc := 5) F (by assumption) hin_X1 dX4_offer_5 (List.mem_of_getElem? (i := 2) rfl) ?_
  refine fmV_xSv (n := 2) (pc := 8) F hX (c_X4_needIndex l D A G σ o hl9 x (σ 41 0 0 0)) gX4_offer_X4_needIndex rfl rfl rfl (by decide +kernel) ⟨Nat.le_of_ble_eq_true rfl, Nat.le_of_ble_eq_true rfl⟩ rfl rfl (Nat.le_of_ble_eq_true rfl) dX4_offer_8 ⟨Nat.le_of_ble_eq_true rfl, Nat.le_of_ble_eq_true rfl⟩ (fun E9 u9 hE9 ce9 q9 H9 locs9 ls9 hP9 hS9 hl8 hce9 hcv9 hcl9 => by obtain ⟨e1, e2, e3⟩ := hE9; have e2 := e2.symm; subst e2; exact fm_out F hnt ⟨rfl, Or.inl ⟨e3, e1⟩⟩ hP9 hS9 hce9 hcv9 hcl9 (Nat.le_of_ble_eq_true rfl) (Nat.le_of_ble_eq_true rfl)) (fun u_ hc_ => ?_)
  obtain ⟨hu9, n0⟩ := hc_
  have hu9 := hu9.symm
  subst hu9
  obtain ⟨hx1, hx2⟩ := fm_ixc (x := x) (n := cc) (by rw [← h41]; exact n0) (by omega)
  have hx14 : x.toNatClampNeg < 14 := by omega
  refine fmV_iload_n (pc := 11) (i := 2) F dX4_offer_11 rfl rfl ?_
  refine fmV_iconst (pc := 12) (v := 4) F dX4_offer_12 rfl ?_
  refine fmV_xSv (n := 2) (pc := 13) F hX (c_X4_needIndex l D A G σ o hl9 y (4)) gX4_offer_X4_needIndex rfl rfl rfl (by decide +kernel) ⟨Nat.le_of_ble_eq_true rfl, Nat.le_of_ble_eq_true rfl⟩ rfl rfl (Nat.le_of_ble_eq_true rfl) dX4_offer_13 ⟨Nat.le_of_ble_eq_true rfl, Nat.le_of_ble_eq_true rfl⟩ (fun E9 u9 hE9 ce9 q9 H9 locs9 ls9 hP9 hS9 hl8 hce9 hcv9 hcl9 => by obtain ⟨e1, e2, e3⟩ := hE9; have e2 := e2.symm; subst e2; exact fm_out F hnt ⟨rfl, Or.inr ⟨n0, Or.inl ⟨e3, e1⟩⟩⟩ hP9 hS9 hce9 hcv9 hcl9 (Nat.le_of_ble_eq_true rfl) (Nat.le_of_ble_eq_true rfl)) (fun u_ hc_ => ?_)
  obtain ⟨hu9, n1⟩ := hc_
  have hu9 := hu9.symm
  subst hu9
  obtain ⟨hy1, hy2⟩ := fm_ixc (x := y) (n := 4) n1 (by decide)
  refine fmV_iload_n (pc := 16) (i := 3) F dX4_offer_16 rfl rfl ?_
  refine fmV_iconst (pc := 17) (v := 0) F dX4_offer_17 rfl ?_
  refine fmV_bipush (pc := 18) (v := 20) F dX4_offer_18 (by decide) ?_
  refine fmV_xSv (n := 3) (pc := 20) F hX (c_X4_needRange l D A G σ o hl9 z 0 20) gX4_offer_X4_needRange rfl rfl rfl (by decide +kernel) ⟨Nat.le_of_ble_eq_true rfl, Nat.le_of_ble_eq_true rfl⟩ rfl rfl (Nat.le_of_ble_eq_true rfl) dX4_offer_20 ⟨Nat.le_of_ble_eq_true rfl, Nat.le_of_ble_eq_true rfl⟩ (fun E9 u9 hE9 ce9 q9 H9 locs9 ls9 hP9 hS9 hl8 hce9 hcv9 hcl9 => by obtain ⟨e1, e2, e3⟩ := hE9; have e2 := e2.symm; subst e2; exact fm_out F hnt ⟨rfl, Or.inr ⟨n0, Or.inr ⟨n1, Or.inl ⟨e3, e1⟩⟩⟩⟩ hP9 hS9 hce9 hcv9 hcl9 (Nat.le_of_ble_eq_true rfl) (Nat.le_of_ble_eq_true rfl)) (fun u_ hc_ => ?_)
  obtain ⟨hu9, n2⟩ := hc_
  have hu9 := hu9.symm
  subst hu9
  refine fmV_iload (pc := 23) (i := 5) F dX4_offer_23 rfl ?_
  refine fmV_iconst (pc := 25) (v := 0) F dX4_offer_25 rfl ?_
  refine fmV_bipush (pc := 26) (v := 20) F dX4_offer_26 (by decide) ?_
  refine fmV_xSv (n := 3) (pc := 28) F hX (c_X4_needRange l D A G σ o hl9 v 0 20) gX4_offer_X4_needRange rfl rfl rfl (by decide +kernel) ⟨Nat.le_of_ble_eq_true rfl, Nat.le_of_ble_eq_true rfl⟩ rfl rfl (Nat.le_of_ble_eq_true rfl) dX4_offer_28 ⟨Nat.le_of_ble_eq_true rfl, Nat.le_of_ble_eq_true rfl⟩ (fun E9 u9 hE9 ce9 q9 H9 locs9 ls9 hP9 hS9 hl8 hce9 hcv9 hcl9 => by obtain ⟨e1, e2, e3⟩ := hE9; have e2 := e2.symm; subst e2; exact fm_out F hnt ⟨rfl, Or.inr ⟨n0, Or.inr ⟨n1, Or.inr ⟨n2, Or.inl ⟨e3, e1⟩⟩⟩⟩⟩ hP9 hS9 hce9 hcv9 hcl9 (Nat.le_of_ble_eq_true rfl) (Nat.le_of_ble_eq_true rfl)) (fun u_ hc_ => ?_)
  obtain ⟨hu9, n3⟩ := hc_
  have hu9 := hu9.symm
  subst hu9
  refine fmV_iload (pc := 31) (i := 4) F dX4_offer_31 rfl ?_
  refine fmV_iconst (pc := 33) (v := 0) F dX4_offer_33 rfl ?_
  refine fmV_bipush (pc := 34) (v := 40) F dX4_offer_34 (by decide) ?_
  refine fmV_xSv (n := 3) (pc := 36) F hX (c_X4_needRange l D A G σ o hl9 w 0 40) gX4_offer_X4_needRange rfl rfl rfl (by decide +kernel) ⟨Nat.le_of_ble_eq_true rfl, Nat.le_of_ble_eq_true rfl⟩ rfl rfl (Nat.le_of_ble_eq_true rfl) dX4_offer_36 ⟨Nat.le_of_ble_eq_true rfl, Nat.le_of_ble_eq_true rfl⟩ (fun E9 u9 hE9 ce9 q9 H9 locs9 ls9 hP9 hS9 hl8 hce9 hcv9 hcl9 => by obtain ⟨e1, e2, e3⟩ := hE9; have e2 := e2.symm; subst e2; exact fm_out F hnt ⟨rfl, Or.inr ⟨n0, Or.inr ⟨n1, Or.inr ⟨n2, Or.inr ⟨n3, Or.inl ⟨e3, e1⟩⟩⟩⟩⟩⟩ hP9 hS9 hce9 hcv9 hcl9 (Nat.le_of_ble_eq_true rfl) (Nat.le_of_ble_eq_true rfl)) (fun u_ hc_ => ?_)
  obtain ⟨hu9, n4⟩ := hc_
  have hu9 := hu9.symm
  subst hu9
  refine fmV_aload_n (pc := 39) (i := 0) F dX4_offer_39 rfl rfl ?_
  refine fmg_0_now (pc := 40) F  hin_X4 dX4_offer_40 (List.mem_of_getElem? (i := 1) rfl) ?_
  refine fmg_4_canoes (pc := 43) F (by assumption) hin_X1 dX4_offer_43 (List.mem_of_getElem? (i := 3) rfl) ?_
  refine fmV_iload_n (pc := 46) (i := 1) F dX4_offer_46 rfl rfl ?_
  refine fmV_ald_canoes (pc := 47) F (by assumption) dX4_offer_47 (fm_in hx2 hx14 (by decide)) rfl ?_
  refine fmV_astore (pc := 48) (i := 6) F dX4_offer_48 (by decide) ?_
  refine fmV_aload (pc := 50) (i := 6) F dX4_offer_50 rfl ?_
  refine fmg_9_asks (pc := 52) F (by assumption) (by assumption) hin_X0 dX4_offer_52 (List.mem_of_getElem? (i := 4) rfl) ?_
  refine fmV_iload_n (pc := 55) (i := 2) F dX4_offer_55 rfl rfl ?_
  refine fmV_iload_n (pc := 56) (i := 3) F dX4_offer_56 rfl rfl ?_
  refine fmas_11 (pc := 57) F (by assumption) (by assumption) dX4_offer_57 (fm_in hy2 hy1 (by decide)) rfl ?_
  refine fmV_aload (pc := 58) (i := 6) F dX4_offer_58 rfl ?_
  refine fmg_9_wants (pc := 60) F (by assumption) (by assumption) hin_X0 dX4_offer_60 (List.mem_of_getElem? (i := 5) rfl) ?_
  refine fmV_iload_n (pc := 63) (i := 2) F dX4_offer_63 rfl rfl ?_
  refine fmV_iload (pc := 64) (i := 4) F dX4_offer_64 rfl ?_
  refine fmas_12 (pc := 66) F (by assumption) (by assumption) dX4_offer_66 (fm_in hy2 hy1 (by decide)) rfl ?_
  refine fmV_aload (pc := 67) (i := 6) F dX4_offer_67 rfl ?_
  refine fmg_9_pays (pc := 69) F (by assumption) (by assumption) hin_X0 dX4_offer_69 (List.mem_of_getElem? (i := 6) rfl) ?_
  refine fmV_iload_n (pc := 72) (i := 2) F dX4_offer_72 rfl rfl ?_
  refine fmV_iload (pc := 73) (i := 5) F dX4_offer_73 rfl ?_
  refine fmas_13 (pc := 75) F (by assumption) (by assumption) dX4_offer_75 (fm_in hy2 hy1 (by decide)) rfl ?_
  refine fmV_sg (σ1 := fmOffer σ x.toNatClampNeg y.toNatClampNeg z w v) (by rw [fmOffer, fmu_c _ _ _ _ _ (by decide), fmu_c _ _ _ _ _ (by decide), fmu_c _ _ _ _ _ (by decide)]) ?_
  refine fmV_aload (pc := 76) (i := 6) F dX4_offer_76 rfl ?_
  refine fmV_iload_n (pc := 78) (i := 2) F dX4_offer_78 rfl rfl ?_
  have q79 := c_X0_misses l D A G (fmOffer σ x.toNatClampNeg y.toNatClampNeg z w v) o ha0 hx14 hy1
  rw [← hy2] at q79
  refine fmV_cVi (n := 1) (pc := 79) F q79 gX4_offer_X0_misses rfl rfl rfl (by decide +kernel) ⟨Nat.le_of_ble_eq_true rfl, Nat.le_of_ble_eq_true rfl⟩ (fmR_9 F (by assumption) (by assumption)) rfl rfl (Nat.le_of_ble_eq_true rfl) dX4_offer_79 ⟨Nat.le_of_ble_eq_true rfl, Nat.le_of_ble_eq_true rfl⟩ (fun r17 u16 hc18 => ?_)
  obtain ⟨hr9, hu9⟩ := hc18
  have hr9 := hr9.symm
  have hu9 := hu9.symm
  subst hr9
  subst hu9
  refine fmV_widen (k := 5) (n := 30) (Nat.le_of_ble_eq_true rfl) (Nat.le_of_ble_eq_true rfl) ?_
  refine fmV_xr ?_
  exact fmV_iret (pc := 82) F dX4_offer_82 rfl ⟨⟨n0, n1, n2, n3, n4, trivial⟩, rfl, rfl⟩

set_option maxHeartbeats 4000000 in
set_option maxRecDepth 100000 in
theorem c_X4_moor (l : Launch) (D : va_G) (A : Nat → Prop) (G : fmG) (σ : fmS) (o : Nat → Int64) (hl9 : l.stackTraces = false) {rc cc t : Nat} (hg : fmGood 0 rc cc t σ) (x y : Int32) : fmXi l D A G yX4_moor wsX4_moor (fmRm 7 3 18) 3 18 [.ref (G.1 0 0 0), .int x, .int y] σ o (fun r u => fmNo [("java/lang/IndexOutOfBoundsException", x < 0 ∨ σ 41 0 0 0 ≤ x), ("java/lang/IndexOutOfBoundsException", y < 0 ∨ σ 40 0 0 0 ≤ y), ("java/lang/IllegalStateException", σ 52 0 x.toNatClampNeg 0 ≠ 0 ∨ ¬ σ 48 0 y.toNatClampNeg 0 < σ 47 0 y.toNatClampNeg 0)] ∧ r = σ 48 0 y.toNatClampNeg 0 ∧ u = fmFast σ 0 x.toNatClampNeg y.toNatClampNeg (σ 48 0 y.toNatClampNeg 0).toNatClampNeg) (fun E u => u = σ ∧ fmFirst [("java/lang/IndexOutOfBoundsException", x < 0 ∨ σ 41 0 0 0 ≤ x), ("java/lang/IndexOutOfBoundsException", y < 0 ∨ σ 40 0 0 0 ≤ y), ("java/lang/IllegalStateException", σ 52 0 x.toNatClampNeg 0 ≠ 0 ∨ ¬ σ 48 0 y.toNatClampNeg 0 < σ 47 0 y.toNatClampNeg 0)] E) := by
  refine fmXi_of (cc := cX4_moor) (maxL := 4) (ret := (some .int)) (by decide +kernel) rfl (Nat.le_of_ble_eq_true rfl) ?_
  intro P_ E_ S_ M_ args_ below_ meth_ C_ F hX hnt
  have hin_X4 : ∀ w ∈ wsX40, w ∈ wsX4_moor := (fun _ h => List.mem_cons_of_mem _ (List.mem_append_left _ (List.mem_append_left _ (List.mem_append_left _ (List.mem_append_left _ (List.mem_append_left _ (List.mem_append_right _ h)))))))
  have hin_X1 : ∀ w ∈ wsX10, w ∈ wsX4_moor := (fun _ h => List.mem_cons_of_mem _ (List.mem_append_left _ (List.mem_append_left _ (List.mem_append_left _ (List.mem_append_left _ (List.mem_append_right _ h))))))
  have hin_X0 : ∀ w ∈ wsX00, w ∈ wsX4_moor := (fun _ h => List.mem_cons_of_mem _ (List.mem_append_left _ (List.mem_append_left _ (List.mem_append_left _ (List.mem_append_right _ h)))))
  have hin_X2 : ∀ w ∈ wsX20, w ∈ wsX4_moor := (fun _ h => List.mem_cons_of_mem _ (List.mem_append_left _ (List.mem_append_left _ (List.mem_append_right _ h))))
  obtain ⟨⟨hrc, hcc, ht, h40, h41, h42⟩, hco⟩ := id hg
  have ha0 : (0 : Nat) < 2 := by decide
  have ha1 : (1 : Nat) < 2 := by decide
  refine fmV_iload_n (pc := 0) (i := 1) F dX4_moor_0 rfl rfl ?_
  refine fmV_aload_n (pc := 1) (i := 0) F dX4_moor_1 rfl rfl ?_
  refine fmg_0_now (pc := 2) F  hin_X4 dX4_moor_2 (List.mem_of_getElem? (i := 1) rfl) ?_
  refine fmg_4_canoeCount (pc := 5) F (by assumption) hin_X1 dX4_moor_5 (List.mem_of_getElem? (i := 2) rfl) ?_
  refine fmV_xSv (n := 2) (pc := 8) F hX (c_X4_needIndex l D A G σ o hl9 x (σ 41 0 0 0)) gX4_moor_X4_needIndex rfl rfl rfl (by decide +kernel) ⟨Nat.le_of_ble_eq_true rfl, Nat.le_of_ble_eq_true rfl⟩ rfl rfl (Nat.le_of_ble_eq_true rfl) dX4_moor_8 ⟨Nat.le_of_ble_eq_true rfl, Nat.le_of_ble_eq_true rfl⟩ (fun E9 u9 hE9 ce9 q9 H9 locs9 ls9 hP9 hS9 hl8 hce9 hcv9 hcl9 => by obtain ⟨e1, e2, e3⟩ := hE9; have e2 := e2.symm; subst e2; exact fm_out F hnt ⟨rfl, Or.inl ⟨e3, e1⟩⟩ hP9 hS9 hce9 hcv9 hcl9 (Nat.le_of_ble_eq_true rfl) (Nat.le_of_ble_eq_true rfl)) (fun u_ hc_ => ?_)
  obtain ⟨hu9, n0⟩ := hc_
  have hu9 := hu9.symm
  subst hu9
  obtain ⟨hx1, hx2⟩ := fm_ixc (x := x) (n := cc) (by rw [← h41]; exact n0) (by omega)
  have hx14 : x.toNatClampNeg < 14 := by omega
  refine fmV_iload_n (pc := 11) (i := 2) F dX4_moor_11 rfl rfl ?_
  refine fmV_aload_n (pc := 12) (i := 0) F dX4_moor_12 rfl rfl ?_
  refine fmg_0_now (pc := 13) F  hin_X4 dX4_moor_13 (List.mem_of_getElem? (i := 1) rfl) ?_
  refine fmg_4_rowCount (pc := 16) F (by assumption) hin_X1 dX4_moor_16 (List.mem_of_getElem? (i := 3) rfl) ?_
  refine fmV_xSv (n := 2) (pc := 19) F hX (c_X4_needIndex l D A G σ o hl9 y (σ 40 0 0 0)) gX4_moor_X4_needIndex rfl rfl rfl (by decide +kernel) ⟨Nat.le_of_ble_eq_true rfl, Nat.le_of_ble_eq_true rfl⟩ rfl rfl (Nat.le_of_ble_eq_true rfl) dX4_moor_19 ⟨Nat.le_of_ble_eq_true rfl, Nat.le_of_ble_eq_true rfl⟩ (fun E9 u9 hE9 ce9 q9 H9 locs9 ls9 hP9 hS9 hl8 hce9 hcv9 hcl9 => by obtain ⟨e1, e2, e3⟩ := hE9; have e2 := e2.symm; subst e2; exact fm_out F hnt ⟨rfl, Or.inr ⟨n0, Or.inl ⟨e3, e1⟩⟩⟩ hP9 hS9 hce9 hcv9 hcl9 (Nat.le_of_ble_eq_true rfl) (Nat.le_of_ble_eq_true rfl)) (fun u_ hc_ => ?_)
  obtain ⟨hu9, n1⟩ := hc_
  have hu9 := hu9.symm
  subst hu9
  obtain ⟨hy1, hy2⟩ := fm_ixc (x := y) (n := rc) (by rw [← h40]; exact n1) (by omega)
  have hy4 : y.toNatClampNeg < 4 := by omega
  refine fmV_aload_n (pc := 22) (i := 0) F dX4_moor_22 rfl rfl ?_
  refine fmg_0_now (pc := 23) F  hin_X4 dX4_moor_23 (List.mem_of_getElem? (i := 1) rfl) ?_
  refine fmg_4_canoes (pc := 26) F (by assumption) hin_X1 dX4_moor_26 (List.mem_of_getElem? (i := 4) rfl) ?_
  refine fmV_iload_n (pc := 29) (i := 1) F dX4_moor_29 rfl rfl ?_
  refine fmV_ald_canoes (pc := 30) F (by assumption) dX4_moor_30 (fm_in hx2 hx14 (by decide)) rfl ?_
  refine fmV_astore_n (pc := 31) (i := 3) F dX4_moor_31 rfl (by decide) ?_
  refine fmV_aload_n (pc := 32) (i := 3) F dX4_moor_32 rfl rfl ?_
  refine fmg_9_status (pc := 33) F (by assumption) (by assumption) hin_X0 dX4_moor_33 (List.mem_of_getElem? (i := 5) rfl) ?_
  refine fmV_if_ne (pc := 36) (tgt := 58) F dX4_moor_36 (by decide) (fun h1 => ?_) (fun h1 => ?_)
  · refine fmV_iconst (pc := 58) (v := 0) F dX4_moor_58 rfl ?_
    refine fmV_xSv (n := 1) (pc := 59) F hX (c_X4_needState l D A G σ o hl9 0) gX4_moor_X4_needState rfl rfl rfl (by decide +kernel) ⟨Nat.le_of_ble_eq_true rfl, Nat.le_of_ble_eq_true rfl⟩ rfl rfl (Nat.le_of_ble_eq_true rfl) dX4_moor_59 ⟨Nat.le_of_ble_eq_true rfl, Nat.le_of_ble_eq_true rfl⟩ (fun E9 u9 hE9 ce9 q9 H9 locs9 ls9 hP9 hS9 hl8 hce9 hcv9 hcl9 => by obtain ⟨e1, e2, e3⟩ := hE9; have e2 := e2.symm; subst e2; exact fm_out F hnt ⟨rfl, Or.inr ⟨n0, Or.inr ⟨n1, Or.inl ⟨Or.inl h1, e1⟩⟩⟩⟩ hP9 hS9 hce9 hcv9 hcl9 (Nat.le_of_ble_eq_true rfl) (Nat.le_of_ble_eq_true rfl)) (fun u_ hc_ => ?_)
    exact absurd rfl hc_.2
  · refine fmV_aload_n (pc := 39) (i := 0) F dX4_moor_39 rfl rfl ?_
    refine fmg_0_now (pc := 40) F  hin_X4 dX4_moor_40 (List.mem_of_getElem? (i := 1) rfl) ?_
    refine fmg_4_rows (pc := 43) F (by assumption) hin_X1 dX4_moor_43 (List.mem_of_getElem? (i := 6) rfl) ?_
    refine fmV_iload_n (pc := 46) (i := 2) F dX4_moor_46 rfl rfl ?_
    refine fmV_ald_rows (pc := 47) F (by assumption) dX4_moor_47 (fm_in hy2 hy4 (by decide)) rfl ?_
    refine fmV_cVi (n := 0) (pc := 48) F (c_X2_isFull l D A G σ o ha0 hy4) gX4_moor_X2_isFull rfl rfl rfl (by decide +kernel) ⟨Nat.le_of_ble_eq_true rfl, Nat.le_of_ble_eq_true rfl⟩ (fmR_7 F (by assumption) (by assumption)) rfl rfl (Nat.le_of_ble_eq_true rfl) dX4_moor_48 ⟨Nat.le_of_ble_eq_true rfl, Nat.le_of_ble_eq_true rfl⟩ (fun r11 u10 hc12 => ?_)
    obtain ⟨hr9, hu9⟩ := hc12
    have hr9 := hr9.symm
    have hu9 := hu9.symm
    subst hr9
    subst hu9
    refine fmV_if_ne (pc := 51) (tgt := 58) F dX4_moor_51 (by decide) (fun h2 => ?_) (fun h2 => ?_)
    · refine fmV_iconst (pc := 58) (v := 0) F dX4_moor_58 rfl ?_
      refine fmV_xSv (n := 1) (pc := 59) F hX (c_X4_needState l D A G σ o hl9 0) gX4_moor_X4_needState rfl rfl rfl (by decide +kernel) ⟨Nat.le_of_ble_eq_true rfl, Nat.le_of_ble_eq_true rfl⟩ rfl rfl (Nat.le_of_ble_eq_true rfl) dX4_moor_59 ⟨Nat.le_of_ble_eq_true rfl, Nat.le_of_ble_eq_true rfl⟩ (fun E9 u9 hE9 ce9 q9 H9 locs9 ls9 hP9 hS9 hl8 hce9 hcv9 hcl9 => by obtain ⟨e1, e2, e3⟩ := hE9; have e2 := e2.symm; subst e2; exact fm_out F hnt ⟨rfl, Or.inr ⟨n0, Or.inr ⟨n1, Or.inl ⟨(Or.inr (fun q => h2 (if_pos q))), e1⟩⟩⟩⟩ hP9 hS9 hce9 hcv9 hcl9 (Nat.le_of_ble_eq_true rfl) (Nat.le_of_ble_eq_true rfl)) (fun u_ hc_ => ?_)
      exact absurd rfl hc_.2
    · refine fmV_iconst (pc := 54) (v := 1) F dX4_moor_54 rfl ?_
      refine fmV_goto (pc := 55) (tgt := 59) F dX4_moor_55 (by decide) ?_
      refine fmV_xSv (n := 1) (pc := 59) F hX (c_X4_needState l D A G σ o hl9 1) gX4_moor_X4_needState rfl rfl rfl (by decide +kernel) ⟨Nat.le_of_ble_eq_true rfl, Nat.le_of_ble_eq_true rfl⟩ rfl rfl (Nat.le_of_ble_eq_true rfl) dX4_moor_59 ⟨Nat.le_of_ble_eq_true rfl, Nat.le_of_ble_eq_true rfl⟩ (fun E9 u9 hE9 ce9 q9 H9 locs9 ls9 hP9 hS9 hl8 hce9 hcv9 hcl9 => by obtain ⟨e1, e2, e3⟩ := hE9; have e2 := e2.symm; subst e2; exact fm_out F hnt ⟨rfl, Or.inr ⟨n0, Or.inr ⟨n1, Or.inl ⟨(absurd e3 (by decide)), e1⟩⟩⟩⟩ hP9 hS9 hce9 hcv9 hcl9 (Nat.le_of_ble_eq_true rfl) (Nat.le_of_ble_eq_true rfl)) (fun u_ hc_ => ?_)
      obtain ⟨hu9, -⟩ := hc_
      have hu9 := hu9.symm
      subst hu9
      have n2 := (fun (q : σ 52 0 x.toNatClampNeg 0 ≠ 0 ∨ ¬ σ 48 0 y.toNatClampNeg 0 < σ 47 0 y.toNatClampNeg 0) => q.elim (fun k => k h1) (fun q2 => by rw [if_neg q2] at h2; exact absurd h2 (by decide)))
      obtain ⟨q9, v9, w1, w2, w3, w4⟩ := good_row hg hy1
      have hfr : v9 < q9 := by
        rcases Decidable.em (σ 48 0 y.toNatClampNeg 0 < σ 47 0 y.toNatClampNeg 0) with q | q
        · exact fm_lt_of w4 w3 q (by omega) (by omega)
        · exact absurd (Or.inr q) n2
      refine fmV_aload_n (pc := 62) (i := 0) F dX4_moor_62 rfl rfl ?_
      refine fmg_0_now (pc := 63) F  hin_X4 dX4_moor_63 (List.mem_of_getElem? (i := 1) rfl) ?_
      refine fmV_aload_n (pc := 66) (i := 3) F dX4_moor_66 rfl rfl ?_
      refine fmV_iload_n (pc := 67) (i := 2) F dX4_moor_67 rfl rfl ?_
      have q68 := c_X1_fasten l D A G σ o ha0 hx14 hy4 w1 hfr w4 w3
      rw [← hy2] at q68
      refine fmV_cVv (n := 2) (pc := 68) F q68 gX4_moor_X1_fasten rfl rfl rfl (by decide +kernel) ⟨Nat.le_of_ble_eq_true rfl, Nat.le_of_ble_eq_true rfl⟩ (fmR_4 F (by assumption)) rfl rfl (Nat.le_of_ble_eq_true rfl) dX4_moor_68 ⟨Nat.le_of_ble_eq_true rfl, Nat.le_of_ble_eq_true rfl⟩ (fun u19 hc21 => ?_)
      have hc21 := hc21.symm
      subst hc21
      refine fmV_aload_n (pc := 71) (i := 3) F dX4_moor_71 rfl rfl ?_
      refine fmg_9_place (pc := 72) F (by assumption) (by assumption) hin_X0 dX4_moor_72 (List.mem_of_getElem? (i := 7) rfl) ?_
      refine fmV_widen (k := 3) (n := 18) (Nat.le_of_ble_eq_true rfl) (Nat.le_of_ble_eq_true rfl) ?_
      refine fmV_xr ?_
      exact fmV_iret (pc := 75) F dX4_moor_75 rfl ⟨⟨n0, n1, n2, trivial⟩, by rw [fast_54, if_pos rfl, w4], by rw [fm_cl w4 (by omega)]⟩

set_option maxHeartbeats 4000000 in
set_option maxRecDepth 100000 in
theorem c_X4_castOff (l : Launch) (D : va_G) (A : Nat → Prop) (G : fmG) (σ : fmS) (o : Nat → Int64) (hl9 : l.stackTraces = false) {rc cc t : Nat} (hg : fmGood 0 rc cc t σ) (x : Int32) : fmXi l D A G yX4_castOff wsX4_castOff (fmRm 7 2 12) 2 12 [.ref (G.1 0 0 0), .int x] σ o (fun r u => fmNo [("java/lang/IndexOutOfBoundsException", x < 0 ∨ σ 41 0 0 0 ≤ x), ("java/lang/IllegalStateException", σ 52 0 x.toNatClampNeg 0 ≠ 1 ∨ fmDry σ 0 x.toNatClampNeg t)] ∧ r = nI ((σ 48 0 (σ 53 0 x.toNatClampNeg 0).toNatClampNeg 0).toNatClampNeg - 1 - (σ 54 0 x.toNatClampNeg 0).toNatClampNeg) ∧ u = fmUnf σ 0 x.toNatClampNeg (σ 53 0 x.toNatClampNeg 0).toNatClampNeg (σ 54 0 x.toNatClampNeg 0).toNatClampNeg (σ 48 0 (σ 53 0 x.toNatClampNeg 0).toNatClampNeg 0).toNatClampNeg 0) (fun E u => u = σ ∧ fmFirst [("java/lang/IndexOutOfBoundsException", x < 0 ∨ σ 41 0 0 0 ≤ x), ("java/lang/IllegalStateException", σ 52 0 x.toNatClampNeg 0 ≠ 1 ∨ fmDry σ 0 x.toNatClampNeg t)] E) := by
  refine fmXi_of (cc := cX4_castOff) (maxL := 3) (ret := (some .int)) (by decide +kernel) rfl (Nat.le_of_ble_eq_true rfl) ?_
  intro P_ E_ S_ M_ args_ below_ meth_ C_ F hX hnt
  have hin_X4 : ∀ w ∈ wsX40, w ∈ wsX4_castOff := (fun _ h => List.mem_cons_of_mem _ (List.mem_append_left _ (List.mem_append_left _ (List.mem_append_left _ (List.mem_append_left _ (List.mem_append_left _ (List.mem_append_left _ (List.mem_append_right _ h))))))))
  have hin_X1 : ∀ w ∈ wsX10, w ∈ wsX4_castOff := (fun _ h => List.mem_cons_of_mem _ (List.mem_append_left _ (List.mem_append_left _ (List.mem_append_left _ (List.mem_append_left _ (List.mem_append_left _ (List.mem_append_right _ h)))))))
  have hin_X0 : ∀ w ∈ wsX00, w ∈ wsX4_castOff := (fun _ h => List.mem_cons_of_mem _ (List.mem_append_left _ (List.mem_append_left _ (List.mem_append_left _ (List.mem_append_left _ (List.mem_append_right _ h))))))
  have hin_X3 : ∀ w ∈ wsX30, w ∈ wsX4_castOff := (fun _ h => List.mem_cons_of_mem _ (List.mem_append_left _ (List.mem_append_left _ (List.mem_append_left _ (List.mem_append_right _ h)))))
  have hin_X2 : ∀ w ∈ wsX20, w ∈ wsX4_castOff := (fun _ h => List.mem_cons_of_mem _ (List.mem_append_left _ (List.mem_append_left _ (List.mem_append_right _ h))))
  obtain ⟨⟨hrc, hcc, ht, h40, h41, h42⟩, hco⟩ := id hg
  have ha0 : (0 : Nat) < 2 := by decide
  have ha1 : (1 : Nat) < 2 := by decide
  refine fmV_iload_n (pc := 0) (i := 1) F dX4_castOff_0 rfl rfl ?_
  refine fmV_aload_n (pc := 1) (i := 0) F dX4_castOff_1 rfl rfl ?_
  refine fmg_0_now (pc := 2) F  hin_X4 dX4_castOff_2 (List.mem_of_getElem? (i := 1) rfl) ?_
  refine fmg_4_canoeCount (pc := 5) F (by assumption) hin_X1 dX4_castOff_5 (List.mem_of_getElem? (i := 2) rfl) ?_
  refine fmV_xSv (n := 2) (pc := 8) F hX (c_X4_needIndex l D A G σ o hl9 x (σ 41 0 0 0)) gX4_castOff_X4_needIndex rfl rfl rfl (by decide +kernel) ⟨Nat.le_of_ble_eq_true rfl, Nat.le_of_ble_eq_true rfl⟩ rfl rfl (Nat.le_of_ble_eq_true rfl) dX4_castOff_8 ⟨Nat.le_of_ble_eq_true rfl, Nat.le_of_ble_eq_true rfl⟩ (fun E9 u9 hE9 ce9 q9 H9 locs9 ls9 hP9 hS9 hl8 hce9 hcv9 hcl9 => by obtain ⟨e1, e2, e3⟩ := hE9; have e2 := e2.symm; subst e2; exact fm_out F hnt ⟨rfl, Or.inl ⟨e3, e1⟩⟩ hP9 hS9 hce9 hcv9 hcl9 (Nat.le_of_ble_eq_true rfl) (Nat.le_of_ble_eq_true rfl)) (fun u_ hc_ => ?_)
  obtain ⟨hu9, n0⟩ := hc_
  have hu9 := hu9.symm
  subst hu9
  obtain ⟨hx1, hx2⟩ := fm_ixc (x := x) (n := cc) (by rw [← h41]; exact n0) (by omega)
  have hx14 : x.toNatClampNeg < 14 := by omega
  refine fmV_aload_n (pc := 11) (i := 0) F dX4_castOff_11 rfl rfl ?_
  refine fmg_0_now (pc := 12) F  hin_X4 dX4_castOff_12 (List.mem_of_getElem? (i := 1) rfl) ?_
  refine fmg_4_canoes (pc := 15) F (by assumption) hin_X1 dX4_castOff_15 (List.mem_of_getElem? (i := 3) rfl) ?_
  refine fmV_iload_n (pc := 18) (i := 1) F dX4_castOff_18 rfl rfl ?_
  refine fmV_ald_canoes (pc := 19) F (by assumption) dX4_castOff_19 (fm_in hx2 hx14 (by decide)) rfl ?_
  refine fmV_astore_n (pc := 20) (i := 2) F dX4_castOff_20 rfl (by decide) ?_
  refine fmV_aload_n (pc := 21) (i := 2) F dX4_castOff_21 rfl rfl ?_
  refine fmg_9_status (pc := 22) F (by assumption) (by assumption) hin_X0 dX4_castOff_22 (List.mem_of_getElem? (i := 4) rfl) ?_
  refine fmV_iconst (pc := 25) (v := 1) F dX4_castOff_25 rfl ?_
  refine fmV_icmp_ne (pc := 26) (tgt := 44) F dX4_castOff_26 (by decide) (fun h1 => ?_) (fun h1 => ?_)
  · refine fmV_iconst (pc := 44) (v := 0) F dX4_castOff_44 rfl ?_
    refine fmV_xSv (n := 1) (pc := 45) F hX (c_X4_needState l D A G σ o hl9 0) gX4_castOff_X4_needState rfl rfl rfl (by decide +kernel) ⟨Nat.le_of_ble_eq_true rfl, Nat.le_of_ble_eq_true rfl⟩ rfl rfl (Nat.le_of_ble_eq_true rfl) dX4_castOff_45 ⟨Nat.le_of_ble_eq_true rfl, Nat.le_of_ble_eq_true rfl⟩ (fun E9 u9 hE9 ce9 q9 H9 locs9 ls9 hP9 hS9 hl8 hce9 hcv9 hcl9 => by obtain ⟨e1, e2, e3⟩ := hE9; have e2 := e2.symm; subst e2; exact fm_out F hnt ⟨rfl, Or.inr ⟨n0, Or.inl ⟨Or.inl h1, e1⟩⟩⟩ hP9 hS9 hce9 hcv9 hcl9 (Nat.le_of_ble_eq_true rfl) (Nat.le_of_ble_eq_true rfl)) (fun u_ hc_ => ?_)
    exact absurd rfl hc_.2
  · refine fmV_aload_n (pc := 29) (i := 0) F dX4_castOff_29 rfl rfl ?_
    refine fmg_0_now (pc := 30) F  hin_X4 dX4_castOff_30 (List.mem_of_getElem? (i := 1) rfl) ?_
    refine fmV_aload_n (pc := 33) (i := 2) F dX4_castOff_33 rfl rfl ?_
    refine fmV_cVi (n := 1) (pc := 34) F (c_X1_liesDry l D A G σ o ha0 hx14 (by omega) h42) gX4_castOff_X1_liesDry rfl rfl rfl (by decide +kernel) ⟨Nat.le_of_ble_eq_true rfl, Nat.le_of_ble_eq_true rfl⟩ (fmR_4 F (by assumption)) rfl rfl (Nat.le_of_ble_eq_true rfl) dX4_castOff_34 ⟨Nat.le_of_ble_eq_true rfl, Nat.le_of_ble_eq_true rfl⟩ (fun r8 u7 hc9 => ?_)
    obtain ⟨hr9, hu9⟩ := hc9
    have hr9 := hr9.symm
    have hu9 := hu9.symm
    subst hr9
    subst hu9
    refine fmV_if_ne (pc := 37) (tgt := 44) F dX4_castOff_37 (by decide) (fun h2 => ?_) (fun h2 => ?_)
    · refine fmV_iconst (pc := 44) (v := 0) F dX4_castOff_44 rfl ?_
      refine fmV_xSv (n := 1) (pc := 45) F hX (c_X4_needState l D A G σ o hl9 0) gX4_castOff_X4_needState rfl rfl rfl (by decide +kernel) ⟨Nat.le_of_ble_eq_true rfl, Nat.le_of_ble_eq_true rfl⟩ rfl rfl (Nat.le_of_ble_eq_true rfl) dX4_castOff_45 ⟨Nat.le_of_ble_eq_true rfl, Nat.le_of_ble_eq_true rfl⟩ (fun E9 u9 hE9 ce9 q9 H9 locs9 ls9 hP9 hS9 hl8 hce9 hcv9 hcl9 => by obtain ⟨e1, e2, e3⟩ := hE9; have e2 := e2.symm; subst e2; exact fm_out F hnt ⟨rfl, Or.inr ⟨n0, Or.inl ⟨(Or.inr (by rcases Decidable.em (fmDry σ 0 x.toNatClampNeg t) with q | q; exact q; rw [if_neg q] at h2; exact absurd rfl h2)), e1⟩⟩⟩ hP9 hS9 hce9 hcv9 hcl9 (Nat.le_of_ble_eq_true rfl) (Nat.le_of_ble_eq_true rfl)) (fun u_ hc_ => ?_)
      exact absurd rfl hc_.2
    · refine fmV_iconst (pc := 40) (v := 1) F dX4_castOff_40 rfl ?_
      refine fmV_goto (pc := 41) (tgt := 45) F dX4_castOff_41 (by decide) ?_
      refine fmV_xSv (n := 1) (pc := 45) F hX (c_X4_needState l D A G σ o hl9 1) gX4_castOff_X4_needState rfl rfl rfl (by decide +kernel) ⟨Nat.le_of_ble_eq_true rfl, Nat.le_of_ble_eq_true rfl⟩ rfl rfl (Nat.le_of_ble_eq_true rfl) dX4_castOff_45 ⟨Nat.le_of_ble_eq_true rfl, Nat.le_of_ble_eq_true rfl⟩ (fun E9 u9 hE9 ce9 q9 H9 locs9 ls9 hP9 hS9 hl8 hce9 hcv9 hcl9 => by obtain ⟨e1, e2, e3⟩ := hE9; have e2 := e2.symm; subst e2; exact fm_out F hnt ⟨rfl, Or.inr ⟨n0, Or.inl ⟨(absurd e3 (by decide)), e1⟩⟩⟩ hP9 hS9 hce9 hcv9 hcl9 (Nat.le_of_ble_eq_true rfl) (Nat.le_of_ble_eq_true rfl)) (fun u_ hc_ => ?_)
      obtain ⟨hu9, -⟩ := hc_
      have hu9 := hu9.symm
      subst hu9
      have n1 := (fun (q : σ 52 0 x.toNatClampNeg 0 ≠ 1 ∨ fmDry σ 0 x.toNatClampNeg t) => q.elim (fun k => k h1) (fun q2 => by rw [if_pos q2] at h2; exact absurd h2 (by decide)))
      have hs := h1
      obtain ⟨r9, p9, v9, w1, w2, w3, w4, w5, w6, w7⟩ := hco.2 x.toNatClampNeg hx1 hs
      have hw54 := fmCoh_hm hco hcc w1 w4 w3 w2 w7 (by omega)
      refine fmV_aload_n (pc := 48) (i := 0) F dX4_castOff_48 rfl rfl ?_
      refine fmg_0_now (pc := 49) F  hin_X4 dX4_castOff_49 (List.mem_of_getElem? (i := 1) rfl) ?_
      refine fmV_aload_n (pc := 52) (i := 2) F dX4_castOff_52 rfl rfl ?_
      refine fmV_iconst (pc := 53) (v := 0) F dX4_castOff_53 rfl ?_
      refine fmV_cVi (n := 2) (pc := 54) F (c_X1_unfasten l D A G σ o ha0 hx14 (by omega) w3 w2 hs w5 w6 w4 hw54 0) gX4_castOff_X1_unfasten rfl rfl rfl (by decide +kernel) ⟨Nat.le_of_ble_eq_true rfl, Nat.le_of_ble_eq_true rfl⟩ (fmR_4 F (by assumption)) rfl rfl (Nat.le_of_ble_eq_true rfl) dX4_castOff_54 ⟨Nat.le_of_ble_eq_true rfl, Nat.le_of_ble_eq_true rfl⟩ (fun r17 u16 hc18 => ?_)
      obtain ⟨hr9, hu9⟩ := hc18
      have hr9 := hr9.symm
      have hu9 := hu9.symm
      subst hr9
      subst hu9
      refine fmV_widen (k := 2) (n := 12) (Nat.le_of_ble_eq_true rfl) (Nat.le_of_ble_eq_true rfl) ?_
      refine fmV_xr ?_
      exact fmV_iret (pc := 57) F dX4_castOff_57 rfl ⟨⟨n0, n1, trivial⟩, by rw [fm_cl w5 (by omega), fm_cl w6 (by omega), fm_cl w4 (by omega)], by rw [fm_cl w5 (by omega), fm_cl w6 (by omega), fm_cl w4 (by omega)]⟩

set_option maxHeartbeats 4000000 in
set_option maxRecDepth 100000 in
theorem c_X4_leaveIn (l : Launch) (D : va_G) (A : Nat → Prop) (G : fmG) (σ : fmS) (o : Nat → Int64) (hl9 : l.stackTraces = false) {rc cc t : Nat} (hg : fmGood 0 rc cc t σ) (x y : Int32) : fmXi l D A G yX4_leaveIn wsX4_leaveIn (fmRm 7 3 18) 3 18 [.ref (G.1 0 0 0), .int x, .int y] σ o (fun r u => fmNo [("java/lang/IndexOutOfBoundsException", x < 0 ∨ σ 41 0 0 0 ≤ x), ("java/lang/IllegalArgumentException", y ≠ -1 ∧ (y < σ 42 0 0 0 ∨ 2147483647 < y)), ("java/lang/IllegalStateException", σ 52 0 x.toNatClampNeg 0 = 2)] ∧ r = σ 55 0 x.toNatClampNeg 0 ∧ u = fmu σ 55 0 x.toNatClampNeg (fun _ => y)) (fun E u => u = σ ∧ fmFirst [("java/lang/IndexOutOfBoundsException", x < 0 ∨ σ 41 0 0 0 ≤ x), ("java/lang/IllegalArgumentException", y ≠ -1 ∧ (y < σ 42 0 0 0 ∨ 2147483647 < y)), ("java/lang/IllegalStateException", σ 52 0 x.toNatClampNeg 0 = 2)] E) := by
  refine fmXi_of (cc := cX4_leaveIn) (maxL := 5) (ret := (some .int)) (by decide +kernel) rfl (Nat.le_of_ble_eq_true rfl) ?_
  intro P_ E_ S_ M_ args_ below_ meth_ C_ F hX hnt
  have hin_X4 : ∀ w ∈ wsX40, w ∈ wsX4_leaveIn := (fun _ h => List.mem_cons_of_mem _ (List.mem_append_left _ (List.mem_append_left _ (List.mem_append_left _ (List.mem_append_left _ (List.mem_append_left _ (List.mem_append_right _ h)))))))
  have hin_X1 : ∀ w ∈ wsX10, w ∈ wsX4_leaveIn := (fun _ h => List.mem_cons_of_mem _ (List.mem_append_left _ (List.mem_append_left _ (List.mem_append_left _ (List.mem_append_left _ (List.mem_append_right _ h))))))
  have hin_X0 : ∀ w ∈ wsX00, w ∈ wsX4_leaveIn := (fun _ h => List.mem_cons_of_mem _ (List.mem_append_left _ (List.mem_append_left _ (List.mem_append_left _ (List.mem_append_right _ h)))))
  obtain ⟨⟨hrc, hcc, ht, h40, h41, h42⟩, hco⟩ := id hg
  have ha0 : (0 : Nat) < 2 := by decide
  have ha1 : (1 : Nat) < 2 := by decide
  refine fmV_iload_n (pc := 0) (i := 1) F dX4_leaveIn_0 rfl rfl ?_
  refine fmV_aload_n (pc := 1) (i := 0) F dX4_leaveIn_1 rfl rfl ?_
  refine fmg_0_now (pc := 2) F  hin_X4 dX4_leaveIn_2 (List.mem_of_getElem? (i := 1) rfl) ?_
  refine fmg_4_canoeCount (pc := 5) F (by assumption) hin_X1 dX4_leaveIn_5 (List.mem_of_getElem? (i := 2) rfl) ?_
  refine fmV_xSv (n := 2) (pc := 8) F hX (c_X4_needIndex l D A G σ o hl9 x (σ 41 0 0 0)) gX4_leaveIn_X4_needIndex rfl rfl rfl (by decide +kernel) ⟨Nat.le_of_ble_eq_true rfl, Nat.le_of_ble_eq_true rfl⟩ rfl rfl (Nat.le_of_ble_eq_true rfl) dX4_leaveIn_8 ⟨Nat.le_of_ble_eq_true rfl, Nat.le_of_ble_eq_true rfl⟩ (fun E9 u9 hE9 ce9 q9 H9 locs9 ls9 hP9 hS9 hl8 hce9 hcv9 hcl9 => by obtain ⟨e1, e2, e3⟩ := hE9; have e2 := e2.symm; subst e2; exact fm_out F hnt ⟨rfl, Or.inl ⟨e3, e1⟩⟩ hP9 hS9 hce9 hcv9 hcl9 (Nat.le_of_ble_eq_true rfl) (Nat.le_of_ble_eq_true rfl)) (fun u_ hc_ => ?_)
  obtain ⟨hu9, n0⟩ := hc_
  have hu9 := hu9.symm
  subst hu9
  obtain ⟨hx1, hx2⟩ := fm_ixc (x := x) (n := cc) (by rw [← h41]; exact n0) (by omega)
  have hx14 : x.toNatClampNeg < 14 := by omega
  refine fmV_iload_n (pc := 11) (i := 2) F dX4_leaveIn_11 rfl rfl ?_
  refine fmV_iconst (pc := 12) (v := (-1)) F dX4_leaveIn_12 rfl ?_
  refine fmV_icmp_eq (pc := 13) (tgt := 29) F dX4_leaveIn_13 (by decide) (fun h1 => ?_) (fun h1 => ?_)
  · have n1 : ¬ (y ≠ -1 ∧ (y < σ 42 0 0 0 ∨ 2147483647 < y)) := by first | exact (fun q => q.1 h1) | exact (fun q => k1 q.2)
    refine fmV_aload_n (pc := 29) (i := 0) F dX4_leaveIn_29 rfl rfl ?_
    refine fmg_0_now (pc := 30) F  hin_X4 dX4_leaveIn_30 (List.mem_of_getElem? (i := 1) rfl) ?_
    refine fmg_4_canoes (pc := 33) F (by assumption) hin_X1 dX4_leaveIn_33 (List.mem_of_getElem? (i := 5) rfl) ?_
    refine fmV_iload_n (pc := 36) (i := 1) F dX4_leaveIn_36 rfl rfl ?_
    refine fmV_ald_canoes (pc := 37) F (by assumption) dX4_leaveIn_37 (fm_in hx2 hx14 (by decide)) rfl ?_
    refine fmV_astore_n (pc := 38) (i := 3) F dX4_leaveIn_38 rfl (by decide) ?_
    refine fmV_aload_n (pc := 39) (i := 3) F dX4_leaveIn_39 rfl rfl ?_
    refine fmg_9_status (pc := 40) F (by assumption) (by assumption) hin_X0 dX4_leaveIn_40 (List.mem_of_getElem? (i := 6) rfl) ?_
    refine fmV_iconst (pc := 43) (v := 2) F dX4_leaveIn_43 rfl ?_
    refine fmV_icmp_eq (pc := 44) (tgt := 51) F dX4_leaveIn_44 (by decide) (fun h2 => ?_) (fun h2 => ?_)
    · refine fmV_iconst (pc := 51) (v := 0) F dX4_leaveIn_51 rfl ?_
      refine fmV_xSv (n := 1) (pc := 52) F hX (c_X4_needState l D A G σ o hl9 0) gX4_leaveIn_X4_needState rfl rfl rfl (by decide +kernel) ⟨Nat.le_of_ble_eq_true rfl, Nat.le_of_ble_eq_true rfl⟩ rfl rfl (Nat.le_of_ble_eq_true rfl) dX4_leaveIn_52 ⟨Nat.le_of_ble_eq_true rfl, Nat.le_of_ble_eq_true rfl⟩ (fun E9 u9 hE9 ce9 q9 H9 locs9 ls9 hP9 hS9 hl8 hce9 hcv9 hcl9 => by obtain ⟨e1, e2, e3⟩ := hE9; have e2 := e2.symm; subst e2; exact fm_out F hnt ⟨rfl, Or.inr ⟨n0, Or.inr ⟨n1, Or.inl ⟨h2, e1⟩⟩⟩⟩ hP9 hS9 hce9 hcv9 hcl9 (Nat.le_of_ble_eq_true rfl) (Nat.le_of_ble_eq_true rfl)) (fun u_ hc_ => ?_)
      exact absurd rfl hc_.2
    · refine fmV_iconst (pc := 47) (v := 1) F dX4_leaveIn_47 rfl ?_
      refine fmV_goto (pc := 48) (tgt := 52) F dX4_leaveIn_48 (by decide) ?_
      refine fmV_xSv (n := 1) (pc := 52) F hX (c_X4_needState l D A G σ o hl9 1) gX4_leaveIn_X4_needState rfl rfl rfl (by decide +kernel) ⟨Nat.le_of_ble_eq_true rfl, Nat.le_of_ble_eq_true rfl⟩ rfl rfl (Nat.le_of_ble_eq_true rfl) dX4_leaveIn_52 ⟨Nat.le_of_ble_eq_true rfl, Nat.le_of_ble_eq_true rfl⟩ (fun E9 u9 hE9 ce9 q9 H9 locs9 ls9 hP9 hS9 hl8 hce9 hcv9 hcl9 => by obtain ⟨e1, e2, e3⟩ := hE9; have e2 := e2.symm; subst e2; exact fm_out F hnt ⟨rfl, Or.inr ⟨n0, Or.inr ⟨n1, Or.inl ⟨(absurd e3 (by decide)), e1⟩⟩⟩⟩ hP9 hS9 hce9 hcv9 hcl9 (Nat.le_of_ble_eq_true rfl) (Nat.le_of_ble_eq_true rfl)) (fun u_ hc_ => ?_)
      obtain ⟨hu9, -⟩ := hc_
      have hu9 := hu9.symm
      subst hu9
      have n2 := h2
      refine fmV_aload_n (pc := 55) (i := 3) F dX4_leaveIn_55 rfl rfl ?_
      refine fmg_9_leaveStep (pc := 56) F (by assumption) (by assumption) hin_X0 dX4_leaveIn_56 (List.mem_of_getElem? (i := 7) rfl) ?_
      refine fmV_istore (pc := 59) (i := 4) F dX4_leaveIn_59 (by decide) ?_
      refine fmV_aload_n (pc := 61) (i := 3) F dX4_leaveIn_61 rfl rfl ?_
      refine fmV_iload_n (pc := 62) (i := 2) F dX4_leaveIn_62 rfl rfl ?_
      refine fmp_9_leaveStep (pc := 63) F (by assumption) (by assumption) hin_X0 dX4_leaveIn_63 (List.mem_of_getElem? (i := 7) rfl) ?_
      refine fmV_iload (pc := 66) (i := 4) F dX4_leaveIn_66 rfl ?_
      refine fmV_widen (k := 3) (n := 18) (Nat.le_of_ble_eq_true rfl) (Nat.le_of_ble_eq_true rfl) ?_
      refine fmV_xr ?_
      exact fmV_iret (pc := 68) F dX4_leaveIn_68 rfl ⟨⟨n0, n1, n2, trivial⟩, rfl, rfl⟩
  · refine fmV_iload_n (pc := 16) (i := 2) F dX4_leaveIn_16 rfl rfl ?_
    refine fmV_aload_n (pc := 17) (i := 0) F dX4_leaveIn_17 rfl rfl ?_
    refine fmg_0_now (pc := 18) F  hin_X4 dX4_leaveIn_18 (List.mem_of_getElem? (i := 1) rfl) ?_
    refine fmg_4_step (pc := 21) F (by assumption) hin_X1 dX4_leaveIn_21 (List.mem_of_getElem? (i := 3) rfl) ?_
    refine fmV_ldc (pc := 24) (v := (2147483647)) F dX4_leaveIn_24 (List.mem_of_getElem? (i := 4) rfl) ?_
    refine fmV_xSv (n := 3) (pc := 26) F hX (c_X4_needRange l D A G σ o hl9 y (σ 42 0 0 0) 2147483647) gX4_leaveIn_X4_needRange rfl rfl rfl (by decide +kernel) ⟨Nat.le_of_ble_eq_true rfl, Nat.le_of_ble_eq_true rfl⟩ rfl rfl (Nat.le_of_ble_eq_true rfl) dX4_leaveIn_26 ⟨Nat.le_of_ble_eq_true rfl, Nat.le_of_ble_eq_true rfl⟩ (fun E9 u9 hE9 ce9 q9 H9 locs9 ls9 hP9 hS9 hl8 hce9 hcv9 hcl9 => by obtain ⟨e1, e2, e3⟩ := hE9; have e2 := e2.symm; subst e2; exact fm_out F hnt ⟨rfl, Or.inr ⟨n0, Or.inl ⟨⟨h1, e3⟩, e1⟩⟩⟩ hP9 hS9 hce9 hcv9 hcl9 (Nat.le_of_ble_eq_true rfl) (Nat.le_of_ble_eq_true rfl)) (fun u_ hc_ => ?_)
    obtain ⟨hu9, k1⟩ := hc_
    have hu9 := hu9.symm
    subst hu9
    have n1 : ¬ (y ≠ -1 ∧ (y < σ 42 0 0 0 ∨ 2147483647 < y)) := by first | exact (fun q => q.1 h1) | exact (fun q => k1 q.2)
    refine fmV_aload_n (pc := 29) (i := 0) F dX4_leaveIn_29 rfl rfl ?_
    refine fmg_0_now (pc := 30) F  hin_X4 dX4_leaveIn_30 (List.mem_of_getElem? (i := 1) rfl) ?_
    refine fmg_4_canoes (pc := 33) F (by assumption) hin_X1 dX4_leaveIn_33 (List.mem_of_getElem? (i := 5) rfl) ?_
    refine fmV_iload_n (pc := 36) (i := 1) F dX4_leaveIn_36 rfl rfl ?_
    refine fmV_ald_canoes (pc := 37) F (by assumption) dX4_leaveIn_37 (fm_in hx2 hx14 (by decide)) rfl ?_
    refine fmV_astore_n (pc := 38) (i := 3) F dX4_leaveIn_38 rfl (by decide) ?_
    refine fmV_aload_n (pc := 39) (i := 3) F dX4_leaveIn_39 rfl rfl ?_
    refine fmg_9_status (pc := 40) F (by assumption) (by assumption) hin_X0 dX4_leaveIn_40 (List.mem_of_getElem? (i := 6) rfl) ?_
    refine fmV_iconst (pc := 43) (v := 2) F dX4_leaveIn_43 rfl ?_
    refine fmV_icmp_eq (pc := 44) (tgt := 51) F dX4_leaveIn_44 (by decide) (fun h2 => ?_) (fun h2 => ?_)
    · refine fmV_iconst (pc := 51) (v := 0) F dX4_leaveIn_51 rfl ?_
      refine fmV_xSv (n := 1) (pc := 52) F hX (c_X4_needState l D A G σ o hl9 0) gX4_leaveIn_X4_needState rfl rfl rfl (by decide +kernel) ⟨Nat.le_of_ble_eq_true rfl, Nat.le_of_ble_eq_true rfl⟩ rfl rfl (Nat.le_of_ble_eq_true rfl) dX4_leaveIn_52 ⟨Nat.le_of_ble_eq_true rfl, Nat.le_of_ble_eq_true rfl⟩ (fun E9 u9 hE9 ce9 q9 H9 locs9 ls9 hP9 hS9 hl8 hce9 hcv9 hcl9 => by obtain ⟨e1, e2, e3⟩ := hE9; have e2 := e2.symm; subst e2; exact fm_out F hnt ⟨rfl, Or.inr ⟨n0, Or.inr ⟨n1, Or.inl ⟨h2, e1⟩⟩⟩⟩ hP9 hS9 hce9 hcv9 hcl9 (Nat.le_of_ble_eq_true rfl) (Nat.le_of_ble_eq_true rfl)) (fun u_ hc_ => ?_)
      exact absurd rfl hc_.2
    · refine fmV_iconst (pc := 47) (v := 1) F dX4_leaveIn_47 rfl ?_
      refine fmV_goto (pc := 48) (tgt := 52) F dX4_leaveIn_48 (by decide) ?_
      refine fmV_xSv (n := 1) (pc := 52) F hX (c_X4_needState l D A G σ o hl9 1) gX4_leaveIn_X4_needState rfl rfl rfl (by decide +kernel) ⟨Nat.le_of_ble_eq_true rfl, Nat.le_of_ble_eq_true rfl⟩ rfl rfl (Nat.le_of_ble_eq_true rfl) dX4_leaveIn_52 ⟨Nat.le_of_ble_eq_true rfl, Nat.le_of_ble_eq_true rfl⟩ (fun E9 u9 hE9 ce9 q9 H9 locs9 ls9 hP9 hS9 hl8 hce9 hcv9 hcl9 => by obtain ⟨e1, e2, e3⟩ := hE9; have e2 := e2.symm; subst e2; exact fm_out F hnt ⟨rfl, Or.inr ⟨n0, Or.inr ⟨n1, Or.inl ⟨(absurd e3 (by decide)), e1⟩⟩⟩⟩ hP9 hS9 hce9 hcv9 hcl9 (Nat.le_of_ble_eq_true rfl) (Nat.le_of_ble_eq_true rfl)) (fun u_ hc_ => ?_)
      obtain ⟨hu9, -⟩ := hc_
      have hu9 := hu9.symm
      subst hu9
      have n2 := h2
      refine fmV_aload_n (pc := 55) (i := 3) F dX4_leaveIn_55 rfl rfl ?_
      refine fmg_9_leaveStep (pc := 56) F (by assumption) (by assumption) hin_X0 dX4_leaveIn_56 (List.mem_of_getElem? (i := 7) rfl) ?_
      refine fmV_istore (pc := 59) (i := 4) F dX4_leaveIn_59 (by decide) ?_
      refine fmV_aload_n (pc := 61) (i := 3) F dX4_leaveIn_61 rfl rfl ?_
      refine fmV_iload_n (pc := 62) (i := 2) F dX4_leaveIn_62 rfl rfl ?_
      refine fmp_9_leaveStep (pc := 63) F (by assumption) (by assumption) hin_X0 dX4_leaveIn_63 (List.mem_of_getElem? (i := 7) rfl) ?_
      refine fmV_iload (pc := 66) (i := 4) F dX4_leaveIn_66 rfl ?_
      refine fmV_widen (k := 3) (n := 18) (Nat.le_of_ble_eq_true rfl) (Nat.le_of_ble_eq_true rfl) ?_
      refine fmV_xr ?_
      exact fmV_iret (pc := 68) F dX4_leaveIn_68 rfl ⟨⟨n0, n1, n2, trivial⟩, rfl, rfl⟩

set_option maxHeartbeats 4000000 in
set_option maxRecDepth 100000 in
theorem c_X4_canoe (l : Launch) (D : va_G) (A : Nat → Prop) (G : fmG) (σ : fmS) (o : Nat → Int64) (hl9 : l.stackTraces = false) {rc cc t : Nat} (hg : fmGood 0 rc cc t σ) (x y : Int32) : fmXi l D A G yX4_canoe wsX4_canoe (fmRm 7 2 12) 2 12 [.ref (G.1 0 0 0), .int x, .int y] σ o (fun r u => fmNo [("java/lang/IndexOutOfBoundsException", x < 0 ∨ σ 41 0 0 0 ≤ x), ("java/lang/IndexOutOfBoundsException", y < 0 ∨ 11 ≤ y)] ∧ r = fmFig σ 0 x.toNatClampNeg y.toNatClampNeg ∧ u = σ) (fun E u => u = σ ∧ fmFirst [("java/lang/IndexOutOfBoundsException", x < 0 ∨ σ 41 0 0 0 ≤ x), ("java/lang/IndexOutOfBoundsException", y < 0 ∨ 11 ≤ y)] E) := by
  refine fmXi_of (cc := cX4_canoe) (maxL := 3) (ret := (some .int)) (by decide +kernel) rfl (Nat.le_of_ble_eq_true rfl) ?_
  intro P_ E_ S_ M_ args_ below_ meth_ C_ F hX hnt
  have hin_X4 : ∀ w ∈ wsX40, w ∈ wsX4_canoe := (fun _ h => List.mem_cons_of_mem _ (List.mem_append_left _ (List.mem_append_left _ (List.mem_append_left _ (List.mem_append_right _ h)))))
  have hin_X1 : ∀ w ∈ wsX10, w ∈ wsX4_canoe := (fun _ h => List.mem_cons_of_mem _ (List.mem_append_left _ (List.mem_append_left _ (List.mem_append_right _ h))))
  have hin_X0 : ∀ w ∈ wsX00, w ∈ wsX4_canoe := (fun _ h => List.mem_cons_of_mem _ (List.mem_append_left _ (List.mem_append_right _ h)))
  obtain ⟨⟨hrc, hcc, ht, h40, h41, h42⟩, hco⟩ := id hg
  have ha0 : (0 : Nat) < 2 := by decide
  have ha1 : (1 : Nat) < 2 := by decide
  refine fmV_iload_n (pc := 0) (i := 1) F dX4_canoe_0 rfl rfl ?_
  refine fmV_aload_n (pc := 1) (i := 0) F dX4_canoe_1 rfl rfl ?_
  refine fmg_0_now (pc := 2) F  hin_X4 dX4_canoe_2 (List.mem_of_getElem? (i := 1) rfl) ?_
  refine fmg_4_canoeCount (pc := 5) F (by assumption) hin_X1 dX4_canoe_5 (List.mem_of_getElem? (i := 2) rfl) ?_
  refine fmV_xSv (n := 2) (pc := 8) F hX (c_X4_needIndex l D A G σ o hl9 x (σ 41 0 0 0)) gX4_canoe_X4_needIndex rfl rfl rfl (by decide +kernel) ⟨Nat.le_of_ble_eq_true rfl, Nat.le_of_ble_eq_true rfl⟩ rfl rfl (Nat.le_of_ble_eq_true rfl) dX4_canoe_8 ⟨Nat.le_of_ble_eq_true rfl, Nat.le_of_ble_eq_true rfl⟩ (fun E9 u9 hE9 ce9 q9 H9 locs9 ls9 hP9 hS9 hl8 hce9 hcv9 hcl9 => by obtain ⟨e1, e2, e3⟩ := hE9; have e2 := e2.symm; subst e2; exact fm_out F hnt ⟨rfl, Or.inl ⟨e3, e1⟩⟩ hP9 hS9 hce9 hcv9 hcl9 (Nat.le_of_ble_eq_true rfl) (Nat.le_of_ble_eq_true rfl)) (fun u_ hc_ => ?_)
  obtain ⟨hu9, n0⟩ := hc_
  have hu9 := hu9.symm
  subst hu9
  obtain ⟨hx1, hx2⟩ := fm_ixc (x := x) (n := cc) (by rw [← h41]; exact n0) (by omega)
  have hx14 : x.toNatClampNeg < 14 := by omega
  refine fmV_iload_n (pc := 11) (i := 2) F dX4_canoe_11 rfl rfl ?_
  refine fmV_bipush (pc := 12) (v := 11) F dX4_canoe_12 (by decide) ?_
  refine fmV_xSv (n := 2) (pc := 14) F hX (c_X4_needIndex l D A G σ o hl9 y (11)) gX4_canoe_X4_needIndex rfl rfl rfl (by decide +kernel) ⟨Nat.le_of_ble_eq_true rfl, Nat.le_of_ble_eq_true rfl⟩ rfl rfl (Nat.le_of_ble_eq_true rfl) dX4_canoe_14 ⟨Nat.le_of_ble_eq_true rfl, Nat.le_of_ble_eq_true rfl⟩ (fun E9 u9 hE9 ce9 q9 H9 locs9 ls9 hP9 hS9 hl8 hce9 hcv9 hcl9 => by obtain ⟨e1, e2, e3⟩ := hE9; have e2 := e2.symm; subst e2; exact fm_out F hnt ⟨rfl, Or.inr ⟨n0, Or.inl ⟨e3, e1⟩⟩⟩ hP9 hS9 hce9 hcv9 hcl9 (Nat.le_of_ble_eq_true rfl) (Nat.le_of_ble_eq_true rfl)) (fun u_ hc_ => ?_)
  obtain ⟨hu9, n1⟩ := hc_
  have hu9 := hu9.symm
  subst hu9
  obtain ⟨hy1, hy2⟩ := fm_ixc (x := y) (n := 11) n1 (by decide)
  refine fmV_aload_n (pc := 17) (i := 0) F dX4_canoe_17 rfl rfl ?_
  refine fmg_0_now (pc := 18) F  hin_X4 dX4_canoe_18 (List.mem_of_getElem? (i := 1) rfl) ?_
  refine fmg_4_canoes (pc := 21) F (by assumption) hin_X1 dX4_canoe_21 (List.mem_of_getElem? (i := 3) rfl) ?_
  refine fmV_iload_n (pc := 24) (i := 1) F dX4_canoe_24 rfl rfl ?_
  refine fmV_ald_canoes (pc := 25) F (by assumption) dX4_canoe_25 (fm_in hx2 hx14 (by decide)) rfl ?_
  refine fmV_iload_n (pc := 26) (i := 2) F dX4_canoe_26 rfl rfl ?_
  have q27 := c_X0_figure l D A G σ o ha0 hx14 hy1
  rw [← hy2] at q27
  refine fmV_cVi (n := 1) (pc := 27) F q27 gX4_canoe_X0_figure rfl rfl rfl (by decide +kernel) ⟨Nat.le_of_ble_eq_true rfl, Nat.le_of_ble_eq_true rfl⟩ (fmR_9 F (by assumption) (by assumption)) rfl rfl (Nat.le_of_ble_eq_true rfl) dX4_canoe_27 ⟨Nat.le_of_ble_eq_true rfl, Nat.le_of_ble_eq_true rfl⟩ (fun r8 u7 hc9 => ?_)
  obtain ⟨hr9, hu9⟩ := hc9
  have hr9 := hr9.symm
  have hu9 := hu9.symm
  subst hr9
  subst hu9
  refine fmV_widen (k := 2) (n := 12) (Nat.le_of_ble_eq_true rfl) (Nat.le_of_ble_eq_true rfl) ?_
  refine fmV_xr ?_
  exact fmV_iret (pc := 30) F dX4_canoe_30 rfl ⟨⟨n0, n1, trivial⟩, rfl, rfl⟩

set_option maxHeartbeats 4000000 in
set_option maxRecDepth 100000 in
theorem c_X4_good (l : Launch) (D : va_G) (A : Nat → Prop) (G : fmG) (σ : fmS) (o : Nat → Int64) (hl9 : l.stackTraces = false) {rc cc t : Nat} (hg : fmGood 0 rc cc t σ) (x y z : Int32) : fmXi l D A G yX4_good wsX4_good (fmRm 7 3 18) 3 18 [.ref (G.1 0 0 0), .int x, .int y, .int z] σ o (fun r u => fmNo [("java/lang/IndexOutOfBoundsException", x < 0 ∨ σ 41 0 0 0 ≤ x), ("java/lang/IndexOutOfBoundsException", y < 0 ∨ 4 ≤ y), ("java/lang/IndexOutOfBoundsException", z < 0 ∨ 4 ≤ z)] ∧ r = fmGFig σ 0 x.toNatClampNeg y.toNatClampNeg z.toNatClampNeg ∧ u = σ) (fun E u => u = σ ∧ fmFirst [("java/lang/IndexOutOfBoundsException", x < 0 ∨ σ 41 0 0 0 ≤ x), ("java/lang/IndexOutOfBoundsException", y < 0 ∨ 4 ≤ y), ("java/lang/IndexOutOfBoundsException", z < 0 ∨ 4 ≤ z)] E) := by
  refine fmXi_of (cc := cX4_good) (maxL := 4) (ret := (some .int)) (by decide +kernel) rfl (Nat.le_of_ble_eq_true rfl) ?_
  intro P_ E_ S_ M_ args_ below_ meth_ C_ F hX hnt
  have hin_X4 : ∀ w ∈ wsX40, w ∈ wsX4_good := (fun _ h => List.mem_cons_of_mem _ (List.mem_append_left _ (List.mem_append_left _ (List.mem_append_left _ (List.mem_append_right _ h)))))
  have hin_X1 : ∀ w ∈ wsX10, w ∈ wsX4_good := (fun _ h => List.mem_cons_of_mem _ (List.mem_append_left _ (List.mem_append_left _ (List.mem_append_right _ h))))
  have hin_X0 : ∀ w ∈ wsX00, w ∈ wsX4_good := (fun _ h => List.mem_cons_of_mem _ (List.mem_append_left _ (List.mem_append_right _ h)))
  obtain ⟨⟨hrc, hcc, ht, h40, h41, h42⟩, hco⟩ := id hg
  have ha0 : (0 : Nat) < 2 := by decide
  have ha1 : (1 : Nat) < 2 := by decide
  refine fmV_iload_n (pc := 0) (i := 1) F dX4_good_0 rfl rfl ?_
  refine fmV_aload_n (pc := 1) (i := 0) F dX4_good_1 rfl rfl ?_
  refine fmg_0_now (pc := 2) F  hin_X4 dX4_good_2 (List.mem_of_getElem? (i := 1) rfl) ?_
  refine fmg_4_canoeCount (pc := 5) F (by assumption) hin_X1 dX4_good_5 (List.mem_of_getElem? (i := 2) rfl) ?_
  refine fmV_xSv (n := 2) (pc := 8) F hX (c_X4_needIndex l D A G σ o hl9 x (σ 41 0 0 0)) gX4_good_X4_needIndex rfl rfl rfl (by decide +kernel) ⟨Nat.le_of_ble_eq_true rfl, Nat.le_of_ble_eq_true rfl⟩ rfl rfl (Nat.le_of_ble_eq_true rfl) dX4_good_8 ⟨Nat.le_of_ble_eq_true rfl, Nat.le_of_ble_eq_true rfl⟩ (fun E9 u9 hE9 ce9 q9 H9 locs9 ls9 hP9 hS9 hl8 hce9 hcv9 hcl9 => by obtain ⟨e1, e2, e3⟩ := hE9; have e2 := e2.symm; subst e2; exact fm_out F hnt ⟨rfl, Or.inl ⟨e3, e1⟩⟩ hP9 hS9 hce9 hcv9 hcl9 (Nat.le_of_ble_eq_true rfl) (Nat.le_of_ble_eq_true rfl)) (fun u_ hc_ => ?_)
  obtain ⟨hu9, n0⟩ := hc_
  have hu9 := hu9.symm
  subst hu9
  obtain ⟨hx1, hx2⟩ := fm_ixc (x := x) (n := cc) (by rw [← h41]; exact n0) (by omega)
  have hx14 : x.toNatClampNeg < 14 := by omega
  refine fmV_iload_n (pc := 11) (i := 2) F dX4_good_11 rfl rfl ?_
  refine fmV_iconst (pc := 12) (v := 4) F dX4_good_12 rfl ?_
  refine fmV_xSv (n := 2) (pc := 13) F hX (c_X4_needIndex l D A G σ o hl9 y (4)) gX4_good_X4_needIndex rfl rfl rfl (by decide +kernel) ⟨Nat.le_of_ble_eq_true rfl, Nat.le_of_ble_eq_true rfl⟩ rfl rfl (Nat.le_of_ble_eq_true rfl) dX4_good_13 ⟨Nat.le_of_ble_eq_true rfl, Nat.le_of_ble_eq_true rfl⟩ (fun E9 u9 hE9 ce9 q9 H9 locs9 ls9 hP9 hS9 hl8 hce9 hcv9 hcl9 => by obtain ⟨e1, e2, e3⟩ := hE9; have e2 := e2.symm; subst e2; exact fm_out F hnt ⟨rfl, Or.inr ⟨n0, Or.inl ⟨e3, e1⟩⟩⟩ hP9 hS9 hce9 hcv9 hcl9 (Nat.le_of_ble_eq_true rfl) (Nat.le_of_ble_eq_true rfl)) (fun u_ hc_ => ?_)
  obtain ⟨hu9, n1⟩ := hc_
  have hu9 := hu9.symm
  subst hu9
  obtain ⟨hy1, hy2⟩ := fm_ixc (x := y) (n := 4) n1 (by decide)
  refine fmV_iload_n (pc := 16) (i := 3) F dX4_good_16 rfl rfl ?_
  refine fmV_iconst (pc := 17) (v := 4) F dX4_good_17 rfl ?_
  refine fmV_xSv (n := 2) (pc := 18) F hX (c_X4_needIndex l D A G σ o hl9 z (4)) gX4_good_X4_needIndex rfl rfl rfl (by decide +kernel) ⟨Nat.le_of_ble_eq_true rfl, Nat.le_of_ble_eq_true rfl⟩ rfl rfl (Nat.le_of_ble_eq_true rfl) dX4_good_18 ⟨Nat.le_of_ble_eq_true rfl, Nat.le_of_ble_eq_true rfl⟩ (fun E9 u9 hE9 ce9 q9 H9 locs9 ls9 hP9 hS9 hl8 hce9 hcv9 hcl9 => by obtain ⟨e1, e2, e3⟩ := hE9; have e2 := e2.symm; subst e2; exact fm_out F hnt ⟨rfl, Or.inr ⟨n0, Or.inr ⟨n1, Or.inl ⟨e3, e1⟩⟩⟩⟩ hP9 hS9 hce9 hcv9 hcl9 (Nat.le_of_ble_eq_true rfl) (Nat.le_of_ble_eq_true rfl)) (fun u_ hc_ => ?_)
  obtain ⟨hu9, n2⟩ := hc_
  have hu9 := hu9.symm
  subst hu9
  obtain ⟨hz1, hz2⟩ := fm_ixc (x := z) (n := 4) n2 (by decide)
  refine fmV_aload_n (pc := 21) (i := 0) F dX4_good_21 rfl rfl ?_
  refine fmg_0_now (pc := 22) F  hin_X4 dX4_good_22 (List.mem_of_getElem? (i := 1) rfl) ?_
  refine fmg_4_canoes (pc := 25) F (by assumption) hin_X1 dX4_good_25 (List.mem_of_getElem? (i := 3) rfl) ?_
  refine fmV_iload_n (pc := 28) (i := 1) F dX4_good_28 rfl rfl ?_
  refine fmV_ald_canoes (pc := 29) F (by assumption) dX4_good_29 (fm_in hx2 hx14 (by decide)) rfl ?_
  refine fmV_iload_n (pc := 30) (i := 2) F dX4_good_30 rfl rfl ?_
  refine fmV_iload_n (pc := 31) (i := 3) F dX4_good_31 rfl rfl ?_
  have q32 := c_X0_goodFigure l D A G σ o ha0 hx14 hy1 hz1
  rw [← hy2, ← hz2] at q32
  refine fmV_cVi (n := 2) (pc := 32) F q32 gX4_good_X0_goodFigure rfl rfl rfl (by decide +kernel) ⟨Nat.le_of_ble_eq_true rfl, Nat.le_of_ble_eq_true rfl⟩ (fmR_9 F (by assumption) (by assumption)) rfl rfl (Nat.le_of_ble_eq_true rfl) dX4_good_32 ⟨Nat.le_of_ble_eq_true rfl, Nat.le_of_ble_eq_true rfl⟩ (fun r11 u10 hc12 => ?_)
  obtain ⟨hr9, hu9⟩ := hc12
  have hr9 := hr9.symm
  have hu9 := hu9.symm
  subst hr9
  subst hu9
  refine fmV_widen (k := 3) (n := 18) (Nat.le_of_ble_eq_true rfl) (Nat.le_of_ble_eq_true rfl) ?_
  refine fmV_xr ?_
  exact fmV_iret (pc := 35) F dX4_good_35 rfl ⟨⟨n0, n1, n2, trivial⟩, rfl, rfl⟩

set_option maxHeartbeats 4000000 in
set_option maxRecDepth 100000 in
theorem c_X4_at (l : Launch) (D : va_G) (A : Nat → Prop) (G : fmG) (σ : fmS) (o : Nat → Int64) (hl9 : l.stackTraces = false) {rc cc t : Nat} (hg : fmGood 0 rc cc t σ) (x y : Int32) : fmXi l D A G yX4_at wsX4_at (fmRm 7 2 12) 2 12 [.ref (G.1 0 0 0), .int x, .int y] σ o (fun r u => fmNo [("java/lang/IndexOutOfBoundsException", x < 0 ∨ σ 40 0 0 0 ≤ x), ("java/lang/IndexOutOfBoundsException", y < 0 ∨ σ 47 0 x.toNatClampNeg 0 ≤ y)] ∧ r = fmRAt σ 0 x.toNatClampNeg y ∧ u = σ) (fun E u => u = σ ∧ fmFirst [("java/lang/IndexOutOfBoundsException", x < 0 ∨ σ 40 0 0 0 ≤ x), ("java/lang/IndexOutOfBoundsException", y < 0 ∨ σ 47 0 x.toNatClampNeg 0 ≤ y)] E) := by
  refine fmXi_of (cc := cX4_at) (maxL := 3) (ret := (some .int)) (by decide +kernel) rfl (Nat.le_of_ble_eq_true rfl) ?_
  intro P_ E_ S_ M_ args_ below_ meth_ C_ F hX hnt
  have hin_X4 : ∀ w ∈ wsX40, w ∈ wsX4_at := (fun _ h => List.mem_cons_of_mem _ (List.mem_append_left _ (List.mem_append_left _ (List.mem_append_left _ (List.mem_append_right _ h)))))
  have hin_X1 : ∀ w ∈ wsX10, w ∈ wsX4_at := (fun _ h => List.mem_cons_of_mem _ (List.mem_append_left _ (List.mem_append_left _ (List.mem_append_right _ h))))
  have hin_X2 : ∀ w ∈ wsX20, w ∈ wsX4_at := (fun _ h => List.mem_cons_of_mem _ (List.mem_append_left _ (List.mem_append_right _ h)))
  obtain ⟨⟨hrc, hcc, ht, h40, h41, h42⟩, hco⟩ := id hg
  have ha0 : (0 : Nat) < 2 := by decide
  have ha1 : (1 : Nat) < 2 := by decide
  refine fmV_iload_n (pc := 0) (i := 1) F dX4_at_0 rfl rfl ?_
  refine fmV_aload_n (pc := 1) (i := 0) F dX4_at_1 rfl rfl ?_
  refine fmg_0_now (pc := 2) F  hin_X4 dX4_at_2 (List.mem_of_getElem? (i := 1) rfl) ?_
  refine fmg_4_rowCount (pc := 5) F (by assumption) hin_X1 dX4_at_5 (List.mem_of_getElem? (i := 2) rfl) ?_
  refine fmV_xSv (n := 2) (pc := 8) F hX (c_X4_needIndex l D A G σ o hl9 x (σ 40 0 0 0)) gX4_at_X4_needIndex rfl rfl rfl (by decide +kernel) ⟨Nat.le_of_ble_eq_true rfl, Nat.le_of_ble_eq_true rfl⟩ rfl rfl (Nat.le_of_ble_eq_true rfl) dX4_at_8 ⟨Nat.le_of_ble_eq_true rfl, Nat.le_of_ble_eq_true rfl⟩ (fun E9 u9 hE9 ce9 q9 H9 locs9 ls9 hP9 hS9 hl8 hce9 hcv9 hcl9 => by obtain ⟨e1, e2, e3⟩ := hE9; have e2 := e2.symm; subst e2; exact fm_out F hnt ⟨rfl, Or.inl ⟨e3, e1⟩⟩ hP9 hS9 hce9 hcv9 hcl9 (Nat.le_of_ble_eq_true rfl) (Nat.le_of_ble_eq_true rfl)) (fun u_ hc_ => ?_)
  obtain ⟨hu9, n0⟩ := hc_
  have hu9 := hu9.symm
  subst hu9
  obtain ⟨hx1, hx2⟩ := fm_ixc (x := x) (n := rc) (by rw [← h40]; exact n0) (by omega)
  have hx4 : x.toNatClampNeg < 4 := by omega
  obtain ⟨q9, v9, w1, w2, w3, w4⟩ := good_row hg hx1
  refine fmV_iload_n (pc := 11) (i := 2) F dX4_at_11 rfl rfl ?_
  refine fmV_aload_n (pc := 12) (i := 0) F dX4_at_12 rfl rfl ?_
  refine fmg_0_now (pc := 13) F  hin_X4 dX4_at_13 (List.mem_of_getElem? (i := 1) rfl) ?_
  refine fmg_4_rows (pc := 16) F (by assumption) hin_X1 dX4_at_16 (List.mem_of_getElem? (i := 3) rfl) ?_
  refine fmV_iload_n (pc := 19) (i := 1) F dX4_at_19 rfl rfl ?_
  refine fmV_ald_rows (pc := 20) F (by assumption) dX4_at_20 (fm_in hx2 hx4 (by decide)) rfl ?_
  refine fmg_7_places (pc := 21) F (by assumption) (by assumption) hin_X2 dX4_at_21 (List.mem_of_getElem? (i := 4) rfl) ?_
  refine fmV_xSv (n := 2) (pc := 24) F hX (c_X4_needIndex l D A G σ o hl9 y (σ 47 0 x.toNatClampNeg 0)) gX4_at_X4_needIndex rfl rfl rfl (by decide +kernel) ⟨Nat.le_of_ble_eq_true rfl, Nat.le_of_ble_eq_true rfl⟩ rfl rfl (Nat.le_of_ble_eq_true rfl) dX4_at_24 ⟨Nat.le_of_ble_eq_true rfl, Nat.le_of_ble_eq_true rfl⟩ (fun E9 u9 hE9 ce9 q9 H9 locs9 ls9 hP9 hS9 hl8 hce9 hcv9 hcl9 => by obtain ⟨e1, e2, e3⟩ := hE9; have e2 := e2.symm; subst e2; exact fm_out F hnt ⟨rfl, Or.inr ⟨n0, Or.inl ⟨e3, e1⟩⟩⟩ hP9 hS9 hce9 hcv9 hcl9 (Nat.le_of_ble_eq_true rfl) (Nat.le_of_ble_eq_true rfl)) (fun u_ hc_ => ?_)
  obtain ⟨hu9, n1⟩ := hc_
  have hu9 := hu9.symm
  subst hu9
  refine fmV_aload_n (pc := 27) (i := 0) F dX4_at_27 rfl rfl ?_
  refine fmg_0_now (pc := 28) F  hin_X4 dX4_at_28 (List.mem_of_getElem? (i := 1) rfl) ?_
  refine fmg_4_rows (pc := 31) F (by assumption) hin_X1 dX4_at_31 (List.mem_of_getElem? (i := 3) rfl) ?_
  refine fmV_iload_n (pc := 34) (i := 1) F dX4_at_34 rfl rfl ?_
  refine fmV_ald_rows (pc := 35) F (by assumption) dX4_at_35 (fm_in hx2 hx4 (by decide)) rfl ?_
  refine fmV_iload_n (pc := 36) (i := 2) F dX4_at_36 rfl rfl ?_
  refine fmV_cVi (n := 1) (pc := 37) F (c_X2_canoeAt l D A G σ o ha0 hx4 (by omega) w4 y) gX4_at_X2_canoeAt rfl rfl rfl (by decide +kernel) ⟨Nat.le_of_ble_eq_true rfl, Nat.le_of_ble_eq_true rfl⟩ (fmR_7 F (by assumption) (by assumption)) rfl rfl (Nat.le_of_ble_eq_true rfl) dX4_at_37 ⟨Nat.le_of_ble_eq_true rfl, Nat.le_of_ble_eq_true rfl⟩ (fun r8 u7 hc9 => ?_)
  obtain ⟨hr9, hu9⟩ := hc9
  have hr9 := hr9.symm
  have hu9 := hu9.symm
  subst hr9
  subst hu9
  refine fmV_widen (k := 2) (n := 12) (Nat.le_of_ble_eq_true rfl) (Nat.le_of_ble_eq_true rfl) ?_
  refine fmV_xr ?_
  exact fmV_iret (pc := 40) F dX4_at_40 rfl ⟨⟨n0, n1, trivial⟩, rfl, rfl⟩

set_option maxHeartbeats 4000000 in
set_option maxRecDepth 100000 in
theorem c_X4_beside (l : Launch) (D : va_G) (A : Nat → Prop) (G : fmG) (σ : fmS) (o : Nat → Int64) (hl9 : l.stackTraces = false) {rc cc t : Nat} (hg : fmGood 0 rc cc t σ) (x y : Int32) : fmXi l D A G yX4_beside wsX4_beside (fmRm 7 2 12) 2 12 [.ref (G.1 0 0 0), .int x, .int y] σ o (fun r u => fmNo [("java/lang/IndexOutOfBoundsException", x < 0 ∨ σ 41 0 0 0 ≤ x), ("java/lang/IndexOutOfBoundsException", y < 0 ∨ σ 41 0 0 0 ≤ y)] ∧ r = (if fmBes σ 0 x.toNatClampNeg y.toNatClampNeg then 1 else 0) ∧ u = σ) (fun E u => u = σ ∧ fmFirst [("java/lang/IndexOutOfBoundsException", x < 0 ∨ σ 41 0 0 0 ≤ x), ("java/lang/IndexOutOfBoundsException", y < 0 ∨ σ 41 0 0 0 ≤ y)] E) := by
  refine fmXi_of (cc := cX4_beside) (maxL := 3) (ret := (some .boolean)) (by decide +kernel) rfl (Nat.le_of_ble_eq_true rfl) ?_
  intro P_ E_ S_ M_ args_ below_ meth_ C_ F hX hnt
  have hin_X4 : ∀ w ∈ wsX40, w ∈ wsX4_beside := (fun _ h => List.mem_cons_of_mem _ (List.mem_append_left _ (List.mem_append_left _ (List.mem_append_left _ (List.mem_append_right _ h)))))
  have hin_X1 : ∀ w ∈ wsX10, w ∈ wsX4_beside := (fun _ h => List.mem_cons_of_mem _ (List.mem_append_left _ (List.mem_append_left _ (List.mem_append_right _ h))))
  have hin_X0 : ∀ w ∈ wsX00, w ∈ wsX4_beside := (fun _ h => List.mem_cons_of_mem _ (List.mem_append_left _ (List.mem_append_right _ h)))
  obtain ⟨⟨hrc, hcc, ht, h40, h41, h42⟩, hco⟩ := id hg
  have ha0 : (0 : Nat) < 2 := by decide
  have ha1 : (1 : Nat) < 2 := by decide
  refine fmV_iload_n (pc := 0) (i := 1) F dX4_beside_0 rfl rfl ?_
  refine fmV_aload_n (pc := 1) (i := 0) F dX4_beside_1 rfl rfl ?_
  refine fmg_0_now (pc := 2) F  hin_X4 dX4_beside_2 (List.mem_of_getElem? (i := 1) rfl) ?_
  refine fmg_4_canoeCount (pc := 5) F (by assumption) hin_X1 dX4_beside_5 (List.mem_of_getElem? (i := 2) rfl) ?_
  refine fmV_xSv (n := 2) (pc := 8) F hX (c_X4_needIndex l D A G σ o hl9 x (σ 41 0 0 0)) gX4_beside_X4_needIndex rfl rfl rfl (by decide +kernel) ⟨Nat.le_of_ble_eq_true rfl, Nat.le_of_ble_eq_true rfl⟩ rfl rfl (Nat.le_of_ble_eq_true rfl) dX4_beside_8 ⟨Nat.le_of_ble_eq_true rfl, Nat.le_of_ble_eq_true rfl⟩ (fun E9 u9 hE9 ce9 q9 H9 locs9 ls9 hP9 hS9 hl8 hce9 hcv9 hcl9 => by obtain ⟨e1, e2, e3⟩ := hE9; have e2 := e2.symm; subst e2; exact fm_out F hnt ⟨rfl, Or.inl ⟨e3, e1⟩⟩ hP9 hS9 hce9 hcv9 hcl9 (Nat.le_of_ble_eq_true rfl) (Nat.le_of_ble_eq_true rfl)) (fun u_ hc_ => ?_)
  obtain ⟨hu9, n0⟩ := hc_
  have hu9 := hu9.symm
  subst hu9
  obtain ⟨hx1, hx2⟩ := fm_ixc (x := x) (n := cc) (by rw [← h41]; exact n0) (by omega)
  have hx14 : x.toNatClampNeg < 14 := by omega
  refine fmV_iload_n (pc := 11) (i := 2) F dX4_beside_11 rfl rfl ?_
  refine fmV_aload_n (pc := 12) (i := 0) F dX4_beside_12 rfl rfl ?_
  refine fmg_0_now (pc := 13) F  hin_X4 dX4_beside_13 (List.mem_of_getElem? (i := 1) rfl) ?_
  refine fmg_4_canoeCount (pc := 16) F (by assumption) hin_X1 dX4_beside_16 (List.mem_of_getElem? (i := 2) rfl) ?_
  refine fmV_xSv (n := 2) (pc := 19) F hX (c_X4_needIndex l D A G σ o hl9 y (σ 41 0 0 0)) gX4_beside_X4_needIndex rfl rfl rfl (by decide +kernel) ⟨Nat.le_of_ble_eq_true rfl, Nat.le_of_ble_eq_true rfl⟩ rfl rfl (Nat.le_of_ble_eq_true rfl) dX4_beside_19 ⟨Nat.le_of_ble_eq_true rfl, Nat.le_of_ble_eq_true rfl⟩ (fun E9 u9 hE9 ce9 q9 H9 locs9 ls9 hP9 hS9 hl8 hce9 hcv9 hcl9 => by obtain ⟨e1, e2, e3⟩ := hE9; have e2 := e2.symm; subst e2; exact fm_out F hnt ⟨rfl, Or.inr ⟨n0, Or.inl ⟨e3, e1⟩⟩⟩ hP9 hS9 hce9 hcv9 hcl9 (Nat.le_of_ble_eq_true rfl) (Nat.le_of_ble_eq_true rfl)) (fun u_ hc_ => ?_)
  obtain ⟨hu9, n1⟩ := hc_
  have hu9 := hu9.symm
  subst hu9
  obtain ⟨hy1, hy2⟩ := fm_ixc (x := y) (n := cc) (by rw [← h41]; exact n1) (by omega)
  have hy14 : y.toNatClampNeg < 14 := by omega
  refine fmV_aload_n (pc := 22) (i := 0) F dX4_beside_22 rfl rfl ?_
  refine fmg_0_now (pc := 23) F  hin_X4 dX4_beside_23 (List.mem_of_getElem? (i := 1) rfl) ?_
  refine fmg_4_canoes (pc := 26) F (by assumption) hin_X1 dX4_beside_26 (List.mem_of_getElem? (i := 3) rfl) ?_
  refine fmV_iload_n (pc := 29) (i := 1) F dX4_beside_29 rfl rfl ?_
  refine fmV_ald_canoes (pc := 30) F (by assumption) dX4_beside_30 (fm_in hx2 hx14 (by decide)) rfl ?_
  refine fmV_aload_n (pc := 31) (i := 0) F dX4_beside_31 rfl rfl ?_
  refine fmg_0_now (pc := 32) F  hin_X4 dX4_beside_32 (List.mem_of_getElem? (i := 1) rfl) ?_
  refine fmg_4_canoes (pc := 35) F (by assumption) hin_X1 dX4_beside_35 (List.mem_of_getElem? (i := 3) rfl) ?_
  refine fmV_iload_n (pc := 38) (i := 2) F dX4_beside_38 rfl rfl ?_
  refine fmV_ald_canoes (pc := 39) F (by assumption) dX4_beside_39 (fm_in hy2 hy14 (by decide)) rfl ?_
  refine fmV_cVi (n := 1) (pc := 40) F (c_X0_isBeside l D A G σ o ha0 hx14 hy14) gX4_beside_X0_isBeside rfl rfl rfl (by decide +kernel) ⟨Nat.le_of_ble_eq_true rfl, Nat.le_of_ble_eq_true rfl⟩ (fmR_9 F (by assumption) (by assumption)) rfl rfl (Nat.le_of_ble_eq_true rfl) dX4_beside_40 ⟨Nat.le_of_ble_eq_true rfl, Nat.le_of_ble_eq_true rfl⟩ (fun r8 u7 hc9 => ?_)
  obtain ⟨hr9, hu9⟩ := hc9
  have hr9 := hr9.symm
  have hu9 := hu9.symm
  subst hr9
  subst hu9
  refine fmV_widen (k := 2) (n := 12) (Nat.le_of_ble_eq_true rfl) (Nat.le_of_ble_eq_true rfl) ?_
  refine fmV_xr ?_
  exact fmV_zret (pc := 43) F dX4_beside_43 rfl (by split <;> rfl) ⟨⟨n0, n1, trivial⟩, rfl, rfl⟩

set_option maxHeartbeats 4000000 in
set_option maxRecDepth 100000 in
theorem c_X4_pass (l : Launch) (D : va_G) (A : Nat → Prop) (G : fmG) (σ : fmS) (o : Nat → Int64) (hl9 : l.stackTraces = false) {rc cc t : Nat} (hg : fmGood 0 rc cc t σ) (hts : t + 200 < 2 ^ 30) (x : Int32) : fmXi l D A G yX4_pass wsX4_pass (fmRm 7 1 6) 1 6 [.ref (G.1 0 0 0), .int x] σ o (fun r u => fmNo [("java/lang/IllegalArgumentException", x < 1 ∨ 200 < x)] ∧ r = fmPass 0 rc cc t σ x.toNatClampNeg 43 0 0 0 - σ 43 0 0 0 ∧ u = fmPass 0 rc cc t σ x.toNatClampNeg) (fun E u => u = σ ∧ fmFirst [("java/lang/IllegalArgumentException", x < 1 ∨ 200 < x)] E) := by
  refine fmXi_of (cc := cX4_pass) (maxL := 3) (ret := (some .int)) (by decide +kernel) rfl (Nat.le_of_ble_eq_true rfl) ?_
  intro P_ E_ S_ M_ args_ below_ meth_ C_ F hX hnt
  have hin_X4 : ∀ w ∈ wsX40, w ∈ wsX4_pass := (fun _ h => List.mem_cons_of_mem _ (List.mem_append_left _ (List.mem_append_left _ (List.mem_append_left _ (List.mem_append_left _ (List.mem_append_left _ (List.mem_append_right _ h)))))))
  have hin_X1 : ∀ w ∈ wsX10, w ∈ wsX4_pass := (fun _ h => List.mem_cons_of_mem _ (List.mem_append_left _ (List.mem_append_left _ (List.mem_append_left _ (List.mem_append_left _ (List.mem_append_right _ h))))))
  have hin_X2 : ∀ w ∈ wsX20, w ∈ wsX4_pass := (fun _ h => List.mem_cons_of_mem _ (List.mem_append_left _ (List.mem_append_left _ (List.mem_append_left _ (List.mem_append_right _ h)))))
  have hin_X0 : ∀ w ∈ wsX00, w ∈ wsX4_pass := (fun _ h => List.mem_cons_of_mem _ (List.mem_append_left _ (List.mem_append_left _ (List.mem_append_right _ h))))
  have hin_X3 : ∀ w ∈ wsX30, w ∈ wsX4_pass := (fun _ h => List.mem_cons_of_mem _ (List.mem_append_left _ (List.mem_append_right _ h)))
  obtain ⟨⟨hrc, hcc, ht, h40, h41, h42⟩, hco⟩ := id hg
  have ha0 : (0 : Nat) < 2 := by decide
  have ha1 : (1 : Nat) < 2 := by decide
  refine fmV_iload_n (pc := 0) (i := 1) F dX4_pass_0 rfl rfl ?_
  refine fmV_iconst (pc := 1) (v := 1) F dX4_pass_1 rfl ?_
  refine fmV_sipush (pc := 2) (v := 200) F dX4_pass_2 (by decide) ?_
  refine fmV_xSv (n := 3) (pc := 5) F hX (c_X4_needRange l D A G σ o hl9 x 1 200) gX4_pass_X4_needRange rfl rfl rfl (by decide +kernel) ⟨Nat.le_of_ble_eq_true rfl, Nat.le_of_ble_eq_true rfl⟩ rfl rfl (Nat.le_of_ble_eq_true rfl) dX4_pass_5 ⟨Nat.le_of_ble_eq_true rfl, Nat.le_of_ble_eq_true rfl⟩ (fun E9 u9 hE9 ce9 q9 H9 locs9 ls9 hP9 hS9 hl8 hce9 hcv9 hcl9 => by obtain ⟨e1, e2, e3⟩ := hE9; have e2 := e2.symm; subst e2; exact fm_out F hnt ⟨rfl, Or.inl ⟨e3, e1⟩⟩ hP9 hS9 hce9 hcv9 hcl9 (Nat.le_of_ble_eq_true rfl) (Nat.le_of_ble_eq_true rfl)) (fun u_ hc_ => ?_)
  obtain ⟨hu9, n0⟩ := hc_
  have hu9 := hu9.symm
  subst hu9
  obtain ⟨hx0, hx1, hx2⟩ := fm_rgc (x := x) (lo := 1) (hi := 200) n0 (by decide) (by decide)
  refine fmV_aload_n (pc := 8) (i := 0) F dX4_pass_8 rfl rfl ?_
  refine fmg_0_now (pc := 9) F  hin_X4 dX4_pass_9 (List.mem_of_getElem? (i := 1) rfl) ?_
  refine fmg_4_sold (pc := 12) F (by assumption) hin_X1 dX4_pass_12 (List.mem_of_getElem? (i := 2) rfl) ?_
  refine fmV_istore_n (pc := 15) (i := 2) F dX4_pass_15 rfl (by decide) ?_
  refine fmV_aload_n (pc := 16) (i := 0) F dX4_pass_16 rfl rfl ?_
  refine fmg_0_now (pc := 17) F  hin_X4 dX4_pass_17 (List.mem_of_getElem? (i := 1) rfl) ?_
  refine fmV_iload_n (pc := 20) (i := 1) F dX4_pass_20 rfl rfl ?_
  have q21 := c_X1_passSteps l D A G σ o ha0 hg (n := x.toNatClampNeg) (by omega)
  rw [← hx2] at q21
  refine fmV_cVv (n := 1) (pc := 21) F q21 gX4_pass_X1_passSteps rfl rfl rfl (by decide +kernel) ⟨Nat.le_of_ble_eq_true rfl, Nat.le_of_ble_eq_true rfl⟩ (fmR_4 F (by assumption)) rfl rfl (Nat.le_of_ble_eq_true rfl) dX4_pass_21 ⟨Nat.le_of_ble_eq_true rfl, Nat.le_of_ble_eq_true rfl⟩ (fun u4 hc6 => ?_)
  have hc6 := hc6.symm
  subst hc6
  refine fmV_aload_n (pc := 24) (i := 0) F dX4_pass_24 rfl rfl ?_
  refine fmg_0_now (pc := 25) F  hin_X4 dX4_pass_25 (List.mem_of_getElem? (i := 1) rfl) ?_
  refine fmg_4_sold (pc := 28) F (by assumption) hin_X1 dX4_pass_28 (List.mem_of_getElem? (i := 2) rfl) ?_
  refine fmV_iload_n (pc := 31) (i := 2) F dX4_pass_31 rfl rfl ?_
  refine fmV_isub (pc := 32) F dX4_pass_32 ?_
  refine fmV_widen (k := 1) (n := 6) (Nat.le_of_ble_eq_true rfl) (Nat.le_of_ble_eq_true rfl) ?_
  refine fmV_xr ?_
  exact fmV_iret (pc := 33) F dX4_pass_33 rfl ⟨⟨n0, trivial⟩, rfl, rfl⟩

set_option maxHeartbeats 4000000 in
set_option maxRecDepth 100000 in
theorem c_X4_count (l : Launch) (D : va_G) (A : Nat → Prop) (G : fmG) (σ : fmS) (o : Nat → Int64) (hl9 : l.stackTraces = false) {rc cc t : Nat} (hg : fmGood 0 rc cc t σ) (x : Int32) : fmXi l D A G yX4_count wsX4_count (fmRm 7 1 6) 1 6 [.ref (G.1 0 0 0), .int x] σ o (fun r u => fmNo [("java/lang/IndexOutOfBoundsException", x < 0 ∨ 12 ≤ x)] ∧ r = fmMFig σ 0 cc t x.toNatClampNeg ∧ u = σ) (fun E u => u = σ ∧ fmFirst [("java/lang/IndexOutOfBoundsException", x < 0 ∨ 12 ≤ x)] E) := by
  refine fmXi_of (cc := cX4_count) (maxL := 2) (ret := (some .int)) (by decide +kernel) rfl (Nat.le_of_ble_eq_true rfl) ?_
  intro P_ E_ S_ M_ args_ below_ meth_ C_ F hX hnt
  have hin_X4 : ∀ w ∈ wsX40, w ∈ wsX4_count := (fun _ h => List.mem_cons_of_mem _ (List.mem_append_left _ (List.mem_append_left _ (List.mem_append_left _ (List.mem_append_left _ (List.mem_append_right _ h))))))
  have hin_X1 : ∀ w ∈ wsX10, w ∈ wsX4_count := (fun _ h => List.mem_cons_of_mem _ (List.mem_append_left _ (List.mem_append_left _ (List.mem_append_left _ (List.mem_append_right _ h)))))
  have hin_X0 : ∀ w ∈ wsX00, w ∈ wsX4_count := (fun _ h => List.mem_cons_of_mem _ (List.mem_append_left _ (List.mem_append_left _ (List.mem_append_right _ h))))
  have hin_X3 : ∀ w ∈ wsX30, w ∈ wsX4_count := (fun _ h => List.mem_cons_of_mem _ (List.mem_append_left _ (List.mem_append_right _ h)))
  obtain ⟨⟨hrc, hcc, ht, h40, h41, h42⟩, hco⟩ := id hg
  have ha0 : (0 : Nat) < 2 := by decide
  have ha1 : (1 : Nat) < 2 := by decide
  refine fmV_iload_n (pc := 0) (i := 1) F dX4_count_0 rfl rfl ?_
  refine fmV_bipush (pc := 1) (v := 12) F dX4_count_1 (by decide) ?_
  refine fmV_xSv (n := 2) (pc := 3) F hX (c_X4_needIndex l D A G σ o hl9 x (12)) gX4_count_X4_needIndex rfl rfl rfl (by decide +kernel) ⟨Nat.le_of_ble_eq_true rfl, Nat.le_of_ble_eq_true rfl⟩ rfl rfl (Nat.le_of_ble_eq_true rfl) dX4_count_3 ⟨Nat.le_of_ble_eq_true rfl, Nat.le_of_ble_eq_true rfl⟩ (fun E9 u9 hE9 ce9 q9 H9 locs9 ls9 hP9 hS9 hl8 hce9 hcv9 hcl9 => by obtain ⟨e1, e2, e3⟩ := hE9; have e2 := e2.symm; subst e2; exact fm_out F hnt ⟨rfl, Or.inl ⟨e3, e1⟩⟩ hP9 hS9 hce9 hcv9 hcl9 (Nat.le_of_ble_eq_true rfl) (Nat.le_of_ble_eq_true rfl)) (fun u_ hc_ => ?_)
  obtain ⟨hu9, n0⟩ := hc_
  have hu9 := hu9.symm
  subst hu9
  obtain ⟨hx1, hx2⟩ := fm_ixc (x := x) (n := 12) n0 (by decide)
  refine fmV_aload_n (pc := 6) (i := 0) F dX4_count_6 rfl rfl ?_
  refine fmg_0_now (pc := 7) F  hin_X4 dX4_count_7 (List.mem_of_getElem? (i := 1) rfl) ?_
  refine fmV_iload_n (pc := 10) (i := 1) F dX4_count_10 rfl rfl ?_
  have q11 := c_X1_figure l D A G σ o ha0 hcc h41 (by omega) h42 hx1
  rw [← hx2] at q11
  refine fmV_cVi (n := 1) (pc := 11) F q11 gX4_count_X1_figure rfl rfl rfl (by decide +kernel) ⟨Nat.le_of_ble_eq_true rfl, Nat.le_of_ble_eq_true rfl⟩ (fmR_4 F (by assumption)) rfl rfl (Nat.le_of_ble_eq_true rfl) dX4_count_11 ⟨Nat.le_of_ble_eq_true rfl, Nat.le_of_ble_eq_true rfl⟩ (fun r5 u4 hc6 => ?_)
  obtain ⟨hr9, hu9⟩ := hc6
  have hr9 := hr9.symm
  have hu9 := hu9.symm
  subst hr9
  subst hu9
  refine fmV_widen (k := 1) (n := 6) (Nat.le_of_ble_eq_true rfl) (Nat.le_of_ble_eq_true rfl) ?_
  refine fmV_xr ?_
  exact fmV_iret (pc := 14) F dX4_count_14 rfl ⟨⟨n0, trivial⟩, rfl, rfl⟩

set_option maxHeartbeats 4000000 in
set_option maxRecDepth 100000 in
theorem c_X4_foresee (l : Launch) (D : va_G) (A : Nat → Prop) (G : fmG) (σ : fmS) (o : Nat → Int64) (hl9 : l.stackTraces = false) {rc cc t : Nat} (hg : fmGood 0 rc cc t σ) (hts : t + 200 < 2 ^ 30) (x y z : Int32) : fmXi l D A G yX4_foresee wsX4_foresee (fmRm 7 3 18) 3 18 [.ref (G.1 0 0 0), .int x, .int y, .int z] σ o (fun r u => fmNo [("java/lang/IndexOutOfBoundsException", x < 0 ∨ σ 41 0 0 0 ≤ x), ("java/lang/IndexOutOfBoundsException", z < 0 ∨ 3 ≤ z), ("java/lang/IllegalArgumentException", y < 1 ∨ 150 < y)] ∧ r = fmFor (fmPass 1 rc cc t (fmMC σ 1 0 rc cc) y.toNatClampNeg) x.toNatClampNeg z.toNatClampNeg ∧ u = (fmPass 1 rc cc t (fmMC σ 1 0 rc cc) y.toNatClampNeg)) (fun E u => u = σ ∧ fmFirst [("java/lang/IndexOutOfBoundsException", x < 0 ∨ σ 41 0 0 0 ≤ x), ("java/lang/IndexOutOfBoundsException", z < 0 ∨ 3 ≤ z), ("java/lang/IllegalArgumentException", y < 1 ∨ 150 < y)] E) := by
  refine fmXi_of (cc := cX4_foresee) (maxL := 5) (ret := (some .int)) (by decide +kernel) rfl (Nat.le_of_ble_eq_true rfl) ?_
  intro P_ E_ S_ M_ args_ below_ meth_ C_ F hX hnt
  have hin_X4 : ∀ w ∈ wsX40, w ∈ wsX4_foresee := (fun _ h => List.mem_cons_of_mem _ (List.mem_append_left _ (List.mem_append_left _ (List.mem_append_left _ (List.mem_append_left _ (List.mem_append_left _ (List.mem_append_left _ (List.mem_append_right _ h))))))))
  have hin_X1 : ∀ w ∈ wsX10, w ∈ wsX4_foresee := (fun _ h => List.mem_cons_of_mem _ (List.mem_append_left _ (List.mem_append_left _ (List.mem_append_left _ (List.mem_append_left _ (List.mem_append_left _ (List.mem_append_right _ h)))))))
  have hin_X0 : ∀ w ∈ wsX00, w ∈ wsX4_foresee := (fun _ h => List.mem_cons_of_mem _ (List.mem_append_left _ (List.mem_append_left _ (List.mem_append_left _ (List.mem_append_left _ (List.mem_append_right _ h))))))
  have hin_X2 : ∀ w ∈ wsX20, w ∈ wsX4_foresee := (fun _ h => List.mem_cons_of_mem _ (List.mem_append_left _ (List.mem_append_left _ (List.mem_append_left _ (List.mem_append_right _ h)))))
  have hin_X3 : ∀ w ∈ wsX30, w ∈ wsX4_foresee := (fun _ h => List.mem_cons_of_mem _ (List.mem_append_left _ (List.mem_append_left _ (List.mem_append_right _ h))))
  obtain ⟨⟨hrc, hcc, ht, h40, h41, h42⟩, hco⟩ := id hg
  have ha0 : (0 : Nat) < 2 := by decide
  have ha1 : (1 : Nat) < 2 := by decide
  refine fmV_iload_n (pc := 0) (i := 1) F dX4_foresee_0 rfl rfl ?_
  refine fmV_aload_n (pc := 1) (i := 0) F dX4_foresee_1 rfl rfl ?_
  refine fmg_0_now (pc := 2) F  hin_X4 dX4_foresee_2 (List.mem_of_getElem? (i := 1) rfl) ?_
  refine fmg_4_canoeCount (pc := 5) F (by assumption) hin_X1 dX4_foresee_5 (List.mem_of_getElem? (i := 2) rfl) ?_
  refine fmV_xSv (n := 2) (pc := 8) F hX (c_X4_needIndex l D A G σ o hl9 x (σ 41 0 0 0)) gX4_foresee_X4_needIndex rfl rfl rfl (by decide +kernel) ⟨Nat.le_of_ble_eq_true rfl, Nat.le_of_ble_eq_true rfl⟩ rfl rfl (Nat.le_of_ble_eq_true rfl) dX4_foresee_8 ⟨Nat.le_of_ble_eq_true rfl, Nat.le_of_ble_eq_true rfl⟩ (fun E9 u9 hE9 ce9 q9 H9 locs9 ls9 hP9 hS9 hl8 hce9 hcv9 hcl9 => by obtain ⟨e1, e2, e3⟩ := hE9; have e2 := e2.symm; subst e2; exact fm_out F hnt ⟨rfl, Or.inl ⟨e3, e1⟩⟩ hP9 hS9 hce9 hcv9 hcl9 (Nat.le_of_ble_eq_true rfl) (Nat.le_of_ble_eq_true rfl)) (fun u_ hc_ => ?_)
  obtain ⟨hu9, n0⟩ := hc_
  have hu9 := hu9.symm
  subst hu9
  obtain ⟨hx1, hx2⟩ := fm_ixc (x := x) (n := cc) (by rw [← h41]; exact n0) (by omega)
  have hx14 : x.toNatClampNeg < 14 := by omega
  refine fmV_iload_n (pc := 11) (i := 3) F dX4_foresee_11 rfl rfl ?_
  refine fmV_iconst (pc := 12) (v := 3) F dX4_foresee_12 rfl ?_
  refine fmV_xSv (n := 2) (pc := 13) F hX (c_X4_needIndex l D A G σ o hl9 z (3)) gX4_foresee_X4_needIndex rfl rfl rfl (by decide +kernel) ⟨Nat.le_of_ble_eq_true rfl, Nat.le_of_ble_eq_true rfl⟩ rfl rfl (Nat.le_of_ble_eq_true rfl) dX4_foresee_13 ⟨Nat.le_of_ble_eq_true rfl, Nat.le_of_ble_eq_true rfl⟩ (fun E9 u9 hE9 ce9 q9 H9 locs9 ls9 hP9 hS9 hl8 hce9 hcv9 hcl9 => by obtain ⟨e1, e2, e3⟩ := hE9; have e2 := e2.symm; subst e2; exact fm_out F hnt ⟨rfl, Or.inr ⟨n0, Or.inl ⟨e3, e1⟩⟩⟩ hP9 hS9 hce9 hcv9 hcl9 (Nat.le_of_ble_eq_true rfl) (Nat.le_of_ble_eq_true rfl)) (fun u_ hc_ => ?_)
  obtain ⟨hu9, n1⟩ := hc_
  have hu9 := hu9.symm
  subst hu9
  obtain ⟨hz1, hz2⟩ := fm_ixc (x := z) (n := 3) n1 (by decide)
  refine fmV_iload_n (pc := 16) (i := 2) F dX4_foresee_16 rfl rfl ?_
  refine fmV_iconst (pc := 17) (v := 1) F dX4_foresee_17 rfl ?_
  refine fmV_sipush (pc := 18) (v := 150) F dX4_foresee_18 (by decide) ?_
  refine fmV_xSv (n := 3) (pc := 21) F hX (c_X4_needRange l D A G σ o hl9 y 1 150) gX4_foresee_X4_needRange rfl rfl rfl (by decide +kernel) ⟨Nat.le_of_ble_eq_true rfl, Nat.le_of_ble_eq_true rfl⟩ rfl rfl (Nat.le_of_ble_eq_true rfl) dX4_foresee_21 ⟨Nat.le_of_ble_eq_true rfl, Nat.le_of_ble_eq_true rfl⟩ (fun E9 u9 hE9 ce9 q9 H9 locs9 ls9 hP9 hS9 hl8 hce9 hcv9 hcl9 => by obtain ⟨e1, e2, e3⟩ := hE9; have e2 := e2.symm; subst e2; exact fm_out F hnt ⟨rfl, Or.inr ⟨n0, Or.inr ⟨n1, Or.inl ⟨e3, e1⟩⟩⟩⟩ hP9 hS9 hce9 hcv9 hcl9 (Nat.le_of_ble_eq_true rfl) (Nat.le_of_ble_eq_true rfl)) (fun u_ hc_ => ?_)
  obtain ⟨hu9, n2⟩ := hc_
  have hu9 := hu9.symm
  subst hu9
  obtain ⟨hy0, hy1, hy2⟩ := fm_rgc (x := y) (lo := 1) (hi := 150) n2 (by decide) (by decide)
  refine fmV_aload_n (pc := 24) (i := 0) F dX4_foresee_24 rfl rfl ?_
  refine fmg_0_trial (pc := 25) F  hin_X4 dX4_foresee_25 (List.mem_of_getElem? (i := 3) rfl) ?_
  refine fmV_aload_n (pc := 28) (i := 0) F dX4_foresee_28 rfl rfl ?_
  refine fmg_0_now (pc := 29) F  hin_X4 dX4_foresee_29 (List.mem_of_getElem? (i := 1) rfl) ?_
  refine fmV_cVv (n := 1) (pc := 32) F (c_X1_copyFrom l D A G σ o ha1 ha0 hrc hcc h40 h41) gX4_foresee_X1_copyFrom rfl rfl rfl (by decide +kernel) ⟨Nat.le_of_ble_eq_true rfl, Nat.le_of_ble_eq_true rfl⟩ (fmR_4 F (by assumption)) rfl rfl (Nat.le_of_ble_eq_true rfl) dX4_foresee_32 ⟨Nat.le_of_ble_eq_true rfl, Nat.le_of_ble_eq_true rfl⟩ (fun u10 hc12 => ?_)
  have hc12 := hc12.symm
  subst hc12
  refine fmV_aload_n (pc := 35) (i := 0) F dX4_foresee_35 rfl rfl ?_
  refine fmg_0_trial (pc := 36) F  hin_X4 dX4_foresee_36 (List.mem_of_getElem? (i := 3) rfl) ?_
  refine fmV_iload_n (pc := 39) (i := 2) F dX4_foresee_39 rfl rfl ?_
  have q40 := c_X1_passSteps l D A G (fmMC σ 1 0 rc cc) o ha1 (good_MC (by decide) hg) (n := y.toNatClampNeg) (by omega)
  rw [← hy2] at q40
  refine fmV_cVv (n := 1) (pc := 40) F q40 gX4_foresee_X1_passSteps rfl rfl rfl (by decide +kernel) ⟨Nat.le_of_ble_eq_true rfl, Nat.le_of_ble_eq_true rfl⟩ (fmR_4 F (by assumption)) rfl rfl (Nat.le_of_ble_eq_true rfl) dX4_foresee_40 ⟨Nat.le_of_ble_eq_true rfl, Nat.le_of_ble_eq_true rfl⟩ (fun u13 hc15 => ?_)
  have hc15 := hc15.symm
  subst hc15
  refine fmV_aload_n (pc := 43) (i := 0) F dX4_foresee_43 rfl rfl ?_
  refine fmg_0_trial (pc := 44) F  hin_X4 dX4_foresee_44 (List.mem_of_getElem? (i := 3) rfl) ?_
  refine fmg_4_canoes (pc := 47) F (by assumption) hin_X1 dX4_foresee_47 (List.mem_of_getElem? (i := 4) rfl) ?_
  refine fmV_iload_n (pc := 50) (i := 1) F dX4_foresee_50 rfl rfl ?_
  refine fmV_ald_canoes (pc := 51) F (by assumption) dX4_foresee_51 (fm_in hx2 hx14 (by decide)) rfl ?_
  refine fmV_astore (pc := 52) (i := 4) F dX4_foresee_52 (by decide) ?_
  refine fmV_iload_n (pc := 54) (i := 3) F dX4_foresee_54 rfl rfl ?_
  rcases (show z.toNatClampNeg = 0 ∨ z.toNatClampNeg = 1 ∨ z.toNatClampNeg = 2 by omega) with hz | hz | hz
  · refine fmV_lookup (pc := 55) (off := 25) (tgt := 80) F dX4_foresee_55 (by decide) (by rw [hz2, hz]; decide +kernel) (by decide) ?_
    refine fmV_aload (pc := 80) (i := 4) F dX4_foresee_80 rfl ?_
    refine fmg_9_coins (pc := 82) F (by assumption) (by assumption) hin_X0 dX4_foresee_82 (List.mem_of_getElem? (i := 5) rfl) ?_
    refine fmV_widen (k := 3) (n := 18) (Nat.le_of_ble_eq_true rfl) (Nat.le_of_ble_eq_true rfl) ?_
    refine fmV_xr ?_
    exact fmV_iret (pc := 85) F dX4_foresee_85 rfl ⟨⟨n0, n1, n2, trivial⟩, by rw [fmFor, hz]; rfl, rfl⟩
  · refine fmV_lookup (pc := 55) (off := 31) (tgt := 86) F dX4_foresee_55 (by decide) (by rw [hz2, hz]; decide +kernel) (by decide) ?_
    refine fmV_aload (pc := 86) (i := 4) F dX4_foresee_86 rfl ?_
    refine fmV_cVi (n := 0) (pc := 88) F (c_X0_missesInAll l D A G (fmPass 1 rc cc t (fmMC σ 1 0 rc cc) y.toNatClampNeg) o ha1 hx14) gX4_foresee_X0_missesInAll rfl rfl rfl (by decide +kernel) ⟨Nat.le_of_ble_eq_true rfl, Nat.le_of_ble_eq_true rfl⟩ (fmR_9 F (by assumption) (by assumption)) rfl rfl (Nat.le_of_ble_eq_true rfl) dX4_foresee_88 ⟨Nat.le_of_ble_eq_true rfl, Nat.le_of_ble_eq_true rfl⟩ (fun r17 u16 hc18 => ?_)
    obtain ⟨hr9, hu9⟩ := hc18
    have hr9 := hr9.symm
    have hu9 := hu9.symm
    subst hr9
    subst hu9
    refine fmV_widen (k := 3) (n := 18) (Nat.le_of_ble_eq_true rfl) (Nat.le_of_ble_eq_true rfl) ?_
    refine fmV_xr ?_
    exact fmV_iret (pc := 91) F dX4_foresee_91 rfl ⟨⟨n0, n1, n2, trivial⟩, by rw [fmFor, hz]; rfl, rfl⟩
  · refine fmV_lookup (pc := 55) (off := 37) (tgt := 92) F dX4_foresee_55 (by decide) (by rw [hz2, hz]; decide +kernel) (by decide) ?_
    refine fmV_aload (pc := 92) (i := 4) F dX4_foresee_92 rfl ?_
    refine fmg_9_row (pc := 94) F (by assumption) (by assumption) hin_X0 dX4_foresee_94 (List.mem_of_getElem? (i := 6) rfl) ?_
    refine fmV_widen (k := 3) (n := 18) (Nat.le_of_ble_eq_true rfl) (Nat.le_of_ble_eq_true rfl) ?_
    refine fmV_xr ?_
    exact fmV_iret (pc := 97) F dX4_foresee_97 rfl ⟨⟨n0, n1, n2, trivial⟩, by rw [fmFor, hz]; rfl, rfl⟩

set_option maxHeartbeats 4000000 in
set_option maxRecDepth 100000 in
theorem c_X4_stepsUntil0 (l : Launch) (D : va_G) (A : Nat → Prop) (G : fmG) (σ : fmS) (o : Nat → Int64) {rc cc t : Nat} (hg : fmGood 0 rc cc t σ) (hts : t + 200 < 2 ^ 30) {k : Nat} (hk : k < cc) : fmMi l D A G yX4_stepsUntil wsX4_stepsUntil (fmRm 6 0 0) 0 0 [.ref (G.1 0 0 0), .int (nI k), .int 0] σ o (fun r u => (∃ n, n ≤ 150 ∧ r = nI n ∧ fmMsAll (fmPass 1 rc cc t (fmMC σ 1 0 rc cc) n) 1 k = 0 ∧ (∀ i, i < n → ¬ fmMsAll (fmPass 1 rc cc t (fmMC σ 1 0 rc cc) i) 1 k = 0) ∧ u = (fmPass 1 rc cc t (fmMC σ 1 0 rc cc) n)) ∨ (r = -1 ∧ (∀ i, i < 151 → ¬ fmMsAll (fmPass 1 rc cc t (fmMC σ 1 0 rc cc) i) 1 k = 0) ∧ u = (fmPass 1 rc cc t (fmMC σ 1 0 rc cc) 150))) := by
  refine fmMi_of (cc := cX4_stepsUntil) (maxL := 5) (ret := (some .int)) (by decide +kernel) rfl (Nat.le_of_ble_eq_true rfl) ?_
  intro P_ E_ S_ M_ args_ below_ meth_ C_ F
  have hin_X4 : ∀ w ∈ wsX40, w ∈ wsX4_stepsUntil := (fun _ h => List.mem_cons_of_mem _ (List.mem_append_left _ (List.mem_append_left _ (List.mem_append_left _ (List.mem_append_left _ (List.mem_append_right _ h))))))
  have hin_X1 : ∀ w ∈ wsX10, w ∈ wsX4_stepsUntil := (fun _ h => List.mem_cons_of_mem _ (List.mem_append_left _ (List.mem_append_left _ (List.mem_append_left _ (List.mem_append_right _ h)))))
  have hin_X2 : ∀ w ∈ wsX20, w ∈ wsX4_stepsUntil := (fun _ h => List.mem_cons_of_mem _ (List.mem_append_left _ (List.mem_append_left _ (List.mem_append_right _ h))))
  have hin_X0 : ∀ w ∈ wsX00, w ∈ wsX4_stepsUntil := (fun _ h => List.mem_cons_of_mem _ (List.mem_append_left _ (List.mem_append_right _ h)))
  have hin_X3 : ∀ w ∈ wsX30, w ∈ wsX4_stepsUntil := (fun _ h => List.mem_cons_of_mem _ (List.mem_append_right _ h))
  obtain ⟨⟨hrc, hcc, ht, h40, h41, h42⟩, hco⟩ := id hg
  have ha0 : (0 : Nat) < 2 := by decide
  have ha1 : (1 : Nat) < 2 := by decide
  have hk14 : k < 14 := by omega
  refine fmV_aload_n (pc := 0) (i := 0) F dX4_stepsUntil_0 rfl rfl ?_
  refine fmg_0_trial (pc := 1) F  hin_X4 dX4_stepsUntil_1 (List.mem_of_getElem? (i := 1) rfl) ?_
  refine fmV_aload_n (pc := 4) (i := 0) F dX4_stepsUntil_4 rfl rfl ?_
  refine fmg_0_now (pc := 5) F  hin_X4 dX4_stepsUntil_5 (List.mem_of_getElem? (i := 2) rfl) ?_
  refine fmV_cVv (n := 1) (pc := 8) F (c_X1_copyFrom l D A G σ o ha1 ha0 hrc hcc h40 h41) gX4_stepsUntil_X1_copyFrom rfl rfl rfl (by decide +kernel) ⟨Nat.le_of_ble_eq_true rfl, Nat.le_of_ble_eq_true rfl⟩ (fmR_4 F (by assumption)) rfl rfl (Nat.le_of_ble_eq_true rfl) dX4_stepsUntil_8 ⟨Nat.le_of_ble_eq_true rfl, Nat.le_of_ble_eq_true rfl⟩ (fun u1 hc3 => ?_)
  have hc3 := hc3.symm
  subst hc3
  refine fmV_aload_n (pc := 11) (i := 0) F dX4_stepsUntil_11 rfl rfl ?_
  refine fmg_0_trial (pc := 12) F  hin_X4 dX4_stepsUntil_12 (List.mem_of_getElem? (i := 1) rfl) ?_
  refine fmg_4_canoes (pc := 15) F (by assumption) hin_X1 dX4_stepsUntil_15 (List.mem_of_getElem? (i := 3) rfl) ?_
  refine fmV_iload_n (pc := 18) (i := 1) F dX4_stepsUntil_18 rfl rfl ?_
  refine fmV_ald_canoes (pc := 19) F (by assumption) dX4_stepsUntil_19 (fm_in rfl hk14 (by decide)) (fm_cn (by omega)) ?_
  refine fmV_astore_n (pc := 20) (i := 3) F dX4_stepsUntil_20 rfl (by decide) ?_
  refine fmV_iconst (pc := 21) (v := 0) F dX4_stepsUntil_21 rfl ?_
  refine fmV_istore (pc := 22) (i := 4) F dX4_stepsUntil_22 (by decide) ?_
  refine fmV_lv (lv' := [(0, .ref (G.1 0 0 0)), (1, .int (nI k)), (2, .int 0), (3, .ref (G.1 9 1 k)), (4, .int (nI 0))]) ⟨rfl, rfl, rfl, rfl, rfl, trivial⟩ ?_
  refine fmV_upH (N := 151) (pc := 24) (Hd := fun j => ∀ i, i < j → ¬ fmMsAll (fmPass 1 rc cc t (fmMC σ 1 0 rc cc) i) 1 k = 0) (σf := fun j => (fmPass 1 rc cc t (fmMC σ 1 0 rc cc) (j - 1))) (lvf := fun j => [(0, .ref (G.1 0 0 0)), (1, .int (nI k)), (2, .int 0), (3, .ref (G.1 9 1 k)), (4, .int (nI j))]) 0 (by omega) (fun i hi => absurd hi (by omega)) (fun hH => ?_) ?_
  · refine fmV_iload (pc := 24) (i := 4) F dX4_stepsUntil_24 rfl ?_
    refine fmV_sipush (pc := 26) (v := 150) F dX4_stepsUntil_26 (by decide) ?_
    refine fmV_icmp_gt (pc := 29) (tgt := 62) F dX4_stepsUntil_29 (by decide) (fun h1 => ?_) (fun h1 => ?_)
    · refine fmV_iconst (pc := 62) (v := (-1)) F dX4_stepsUntil_62 rfl ?_
      exact fmV_iret (pc := 63) F dX4_stepsUntil_63 rfl (Or.inr ⟨rfl, hH, rfl⟩)
    · exact absurd (by decide) h1
  · intro j hj hH ih
    refine fmV_iload (pc := 24) (i := 4) F dX4_stepsUntil_24 rfl ?_
    refine fmV_sipush (pc := 26) (v := 150) F dX4_stepsUntil_26 (by decide) ?_
    refine fmV_icmp_gt (pc := 29) (tgt := 62) F dX4_stepsUntil_29 (by decide) (fun h1 => ?_) (fun h1 => ?_)
    · exact absurd h1 (by rw [Int32.not_lt]; exact nI_le (b := 150) (by omega) (by decide))
    · refine fmV_iload (pc := 32) (i := 4) F dX4_stepsUntil_32 rfl ?_
      refine fmV_if_le (pc := 34) (tgt := 45) F dX4_stepsUntil_34 (by decide) (fun h2 => ?_) (fun h2 => ?_)
      · refine fmV_sg (σ1 := (fmPass 1 rc cc t (fmMC σ 1 0 rc cc) j)) (by first | rfl | (rw [show j = 0 from by rcases Nat.eq_zero_or_pos j with q | q; exact q; exact absurd h2 (nI_nle q (by omega))])) ?_
        refine fmV_aload_n (pc := 45) (i := 3) F dX4_stepsUntil_45 rfl rfl ?_
        refine fmV_iload_n (pc := 46) (i := 2) F dX4_stepsUntil_46 rfl rfl ?_
        refine fmV_cVi (n := 1) (pc := 47) F (c_X0_hasReached0 l D A G (fmPass 1 rc cc t (fmMC σ 1 0 rc cc) j) o ha1 hk14) gX4_stepsUntil_X0_hasReached rfl rfl rfl (by decide +kernel) ⟨Nat.le_of_ble_eq_true rfl, Nat.le_of_ble_eq_true rfl⟩ (fmR_9 F (by assumption) (by assumption)) rfl rfl (Nat.le_of_ble_eq_true rfl) dX4_stepsUntil_47 ⟨Nat.le_of_ble_eq_true rfl, Nat.le_of_ble_eq_true rfl⟩ (fun r5 u4 hc6 => ?_)
        obtain ⟨hr9, hu9⟩ := hc6
        have hr9 := hr9.symm
        have hu9 := hu9.symm
        subst hr9
        subst hu9
        refine fmV_if_eq (pc := 50) (tgt := 56) F dX4_stepsUntil_50 (by decide) (fun h3 => ?_) (fun h3 => ?_)
        · refine fmV_iinc (pc := 56) (i := 4) F dX4_stepsUntil_56 rfl rfl (by decide) ?_
          refine fmV_goto (pc := 59) (tgt := 24) F dX4_stepsUntil_59 (by decide) ?_
          have hH2 : ∀ i, i < j + 1 → ¬ fmMsAll (fmPass 1 rc cc t (fmMC σ 1 0 rc cc) i) 1 k = 0 := by
            intro i hi
            rcases Nat.lt_or_ge i j with q | q
            · exact hH i q
            · have e : i = j := by omega
              rw [e]
              exact (fun q => absurd h3 (by rw [if_pos q]; decide))
          refine fmV_lv ?_ (ih hH2)
          exact ⟨rfl, rfl, rfl, rfl, by rw [nI_succ j]; rfl, trivial⟩
        · refine fmV_iload (pc := 53) (i := 4) F dX4_stepsUntil_53 rfl ?_
          exact fmV_iret (pc := 55) F dX4_stepsUntil_55 rfl (Or.inl ⟨j, by omega, rfl, by rcases Decidable.em (fmMsAll (fmPass 1 rc cc t (fmMC σ 1 0 rc cc) j) 1 k = 0) with q | q; exact q; exact absurd (by rw [if_neg q]) h3, hH, rfl⟩)
      · refine fmV_aload_n (pc := 37) (i := 0) F dX4_stepsUntil_37 rfl rfl ?_
        refine fmg_0_trial (pc := 38) F  hin_X4 dX4_stepsUntil_38 (List.mem_of_getElem? (i := 1) rfl) ?_
        refine fmV_iconst (pc := 41) (v := 1) F dX4_stepsUntil_41 rfl ?_
        have hj1 : 0 < j := by rcases Nat.eq_zero_or_pos j with q | q; exact absurd (by rw [q]; decide) h2; exact q
        have q42 := c_X1_passSteps l D A G (fmPass 1 rc cc t (fmMC σ 1 0 rc cc) (j - 1)) o ha1 (good_pass (good_MC (by decide) hg) (j - 1) (by omega)) (n := 1) (by omega)
        rw [pass_1, Nat.sub_add_cancel hj1] at q42
        refine fmV_cVv (n := 1) (pc := 42) F q42 gX4_stepsUntil_X1_passSteps rfl rfl rfl (by decide +kernel) ⟨Nat.le_of_ble_eq_true rfl, Nat.le_of_ble_eq_true rfl⟩ (fmR_4 F (by assumption)) rfl rfl (Nat.le_of_ble_eq_true rfl) dX4_stepsUntil_42 ⟨Nat.le_of_ble_eq_true rfl, Nat.le_of_ble_eq_true rfl⟩ (fun u7 hc9 => ?_)
        have hc9 := hc9.symm
        subst hc9
        refine fmV_sg (σ1 := (fmPass 1 rc cc t (fmMC σ 1 0 rc cc) j)) (by first | rfl | (rw [show j = 0 from by rcases Nat.eq_zero_or_pos j with q | q; exact q; exact absurd h2 (nI_nle q (by omega))])) ?_
        refine fmV_aload_n (pc := 45) (i := 3) F dX4_stepsUntil_45 rfl rfl ?_
        refine fmV_iload_n (pc := 46) (i := 2) F dX4_stepsUntil_46 rfl rfl ?_
        refine fmV_cVi (n := 1) (pc := 47) F (c_X0_hasReached0 l D A G (fmPass 1 rc cc t (fmMC σ 1 0 rc cc) j) o ha1 hk14) gX4_stepsUntil_X0_hasReached rfl rfl rfl (by decide +kernel) ⟨Nat.le_of_ble_eq_true rfl, Nat.le_of_ble_eq_true rfl⟩ (fmR_9 F (by assumption) (by assumption)) rfl rfl (Nat.le_of_ble_eq_true rfl) dX4_stepsUntil_47 ⟨Nat.le_of_ble_eq_true rfl, Nat.le_of_ble_eq_true rfl⟩ (fun r11 u10 hc12 => ?_)
        obtain ⟨hr9, hu9⟩ := hc12
        have hr9 := hr9.symm
        have hu9 := hu9.symm
        subst hr9
        subst hu9
        refine fmV_if_eq (pc := 50) (tgt := 56) F dX4_stepsUntil_50 (by decide) (fun h3 => ?_) (fun h3 => ?_)
        · refine fmV_iinc (pc := 56) (i := 4) F dX4_stepsUntil_56 rfl rfl (by decide) ?_
          refine fmV_goto (pc := 59) (tgt := 24) F dX4_stepsUntil_59 (by decide) ?_
          have hH2 : ∀ i, i < j + 1 → ¬ fmMsAll (fmPass 1 rc cc t (fmMC σ 1 0 rc cc) i) 1 k = 0 := by
            intro i hi
            rcases Nat.lt_or_ge i j with q | q
            · exact hH i q
            · have e : i = j := by omega
              rw [e]
              exact (fun q => absurd h3 (by rw [if_pos q]; decide))
          refine fmV_lv ?_ (ih hH2)
          exact ⟨rfl, rfl, rfl, rfl, by rw [nI_succ j]; rfl, trivial⟩
        · refine fmV_iload (pc := 53) (i := 4) F dX4_stepsUntil_53 rfl ?_
          exact fmV_iret (pc := 55) F dX4_stepsUntil_55 rfl (Or.inl ⟨j, by omega, rfl, by rcases Decidable.em (fmMsAll (fmPass 1 rc cc t (fmMC σ 1 0 rc cc) j) 1 k = 0) with q | q; exact q; exact absurd (by rw [if_neg q]) h3, hH, rfl⟩)

set_option maxHeartbeats 4000000 in
set_option maxRecDepth 100000 in
theorem c_X4_full (l : Launch) (D : va_G) (A : Nat → Prop) (G : fmG) (σ : fmS) (o : Nat → Int64) (hl9 : l.stackTraces = false) {rc cc t : Nat} (hg : fmGood 0 rc cc t σ) (hts : t + 200 < 2 ^ 30) (x : Int32) : fmXi l D A G yX4_full wsX4_full (fmRm 7 1 6) 1 6 [.ref (G.1 0 0 0), .int x] σ o (fun r u => fmNo [("java/lang/IndexOutOfBoundsException", x < 0 ∨ σ 41 0 0 0 ≤ x)] ∧ ((∃ n, n ≤ 150 ∧ r = nI n ∧ fmMsAll (fmPass 1 rc cc t (fmMC σ 1 0 rc cc) n) 1 x.toNatClampNeg = 0 ∧ (∀ i, i < n → ¬ fmMsAll (fmPass 1 rc cc t (fmMC σ 1 0 rc cc) i) 1 x.toNatClampNeg = 0) ∧ u = (fmPass 1 rc cc t (fmMC σ 1 0 rc cc) n)) ∨ (r = -1 ∧ (∀ i, i < 151 → ¬ fmMsAll (fmPass 1 rc cc t (fmMC σ 1 0 rc cc) i) 1 x.toNatClampNeg = 0) ∧ u = (fmPass 1 rc cc t (fmMC σ 1 0 rc cc) 150)))) (fun E u => u = σ ∧ fmFirst [("java/lang/IndexOutOfBoundsException", x < 0 ∨ σ 41 0 0 0 ≤ x)] E) := by
  refine fmXi_of (cc := cX4_full) (maxL := 2) (ret := (some .int)) (by decide +kernel) rfl (Nat.le_of_ble_eq_true rfl) ?_
  intro P_ E_ S_ M_ args_ below_ meth_ C_ F hX hnt
  have hin_X4 : ∀ w ∈ wsX40, w ∈ wsX4_full := (fun _ h => List.mem_cons_of_mem _ (List.mem_append_left _ (List.mem_append_left _ (List.mem_append_left _ (List.mem_append_left _ (List.mem_append_left _ (List.mem_append_right _ h)))))))
  have hin_X1 : ∀ w ∈ wsX10, w ∈ wsX4_full := (fun _ h => List.mem_cons_of_mem _ (List.mem_append_left _ (List.mem_append_left _ (List.mem_append_left _ (List.mem_append_left _ (List.mem_append_right _ h))))))
  have hin_X2 : ∀ w ∈ wsX20, w ∈ wsX4_full := (fun _ h => List.mem_cons_of_mem _ (List.mem_append_left _ (List.mem_append_left _ (List.mem_append_left _ (List.mem_append_right _ h)))))
  have hin_X0 : ∀ w ∈ wsX00, w ∈ wsX4_full := (fun _ h => List.mem_cons_of_mem _ (List.mem_append_left _ (List.mem_append_left _ (List.mem_append_right _ h))))
  have hin_X3 : ∀ w ∈ wsX30, w ∈ wsX4_full := (fun _ h => List.mem_cons_of_mem _ (List.mem_append_left _ (List.mem_append_right _ h)))
  obtain ⟨⟨hrc, hcc, ht, h40, h41, h42⟩, hco⟩ := id hg
  have ha0 : (0 : Nat) < 2 := by decide
  have ha1 : (1 : Nat) < 2 := by decide
  refine fmV_iload_n (pc := 0) (i := 1) F dX4_full_0 rfl rfl ?_
  refine fmV_aload_n (pc := 1) (i := 0) F dX4_full_1 rfl rfl ?_
  refine fmg_0_now (pc := 2) F  hin_X4 dX4_full_2 (List.mem_of_getElem? (i := 1) rfl) ?_
  refine fmg_4_canoeCount (pc := 5) F (by assumption) hin_X1 dX4_full_5 (List.mem_of_getElem? (i := 2) rfl) ?_
  refine fmV_xSv (n := 2) (pc := 8) F hX (c_X4_needIndex l D A G σ o hl9 x (σ 41 0 0 0)) gX4_full_X4_needIndex rfl rfl rfl (by decide +kernel) ⟨Nat.le_of_ble_eq_true rfl, Nat.le_of_ble_eq_true rfl⟩ rfl rfl (Nat.le_of_ble_eq_true rfl) dX4_full_8 ⟨Nat.le_of_ble_eq_true rfl, Nat.le_of_ble_eq_true rfl⟩ (fun E9 u9 hE9 ce9 q9 H9 locs9 ls9 hP9 hS9 hl8 hce9 hcv9 hcl9 => by obtain ⟨e1, e2, e3⟩ := hE9; have e2 := e2.symm; subst e2; exact fm_out F hnt ⟨rfl, Or.inl ⟨e3, e1⟩⟩ hP9 hS9 hce9 hcv9 hcl9 (Nat.le_of_ble_eq_true rfl) (Nat.le_of_ble_eq_true rfl)) (fun u_ hc_ => ?_)
  obtain ⟨hu9, n0⟩ := hc_
  have hu9 := hu9.symm
  subst hu9
  obtain ⟨hx1, hx2⟩ := fm_ixc (x := x) (n := cc) (by rw [← h41]; exact n0) (by omega)
  have hx14 : x.toNatClampNeg < 14 := by omega
  refine fmV_aload_n (pc := 11) (i := 0) F dX4_full_11 rfl rfl ?_
  refine fmV_iload_n (pc := 12) (i := 1) F dX4_full_12 rfl rfl ?_
  refine fmV_iconst (pc := 13) (v := 0) F dX4_full_13 rfl ?_
  have q14 := c_X4_stepsUntil0 l D A G σ o hg hts hx1
  rw [← hx2] at q14
  refine fmV_cVi (n := 2) (pc := 14) F q14 gX4_full_X4_stepsUntil rfl rfl rfl (by decide +kernel) ⟨Nat.le_of_ble_eq_true rfl, Nat.le_of_ble_eq_true rfl⟩ (fmR_0 F ) rfl rfl (Nat.le_of_ble_eq_true rfl) dX4_full_14 ⟨Nat.le_of_ble_eq_true rfl, Nat.le_of_ble_eq_true rfl⟩ (fun r_ u_ hc_ => ?_)
  refine fmV_widen (k := 1) (n := 6) (Nat.le_of_ble_eq_true rfl) (Nat.le_of_ble_eq_true rfl) ?_
  refine fmV_xr ?_
  exact fmV_iret (pc := 17) F dX4_full_17 rfl ⟨⟨n0, trivial⟩, hc_⟩

set_option maxHeartbeats 4000000 in
set_option maxRecDepth 100000 in
theorem c_X4_stepsUntil1 (l : Launch) (D : va_G) (A : Nat → Prop) (G : fmG) (σ : fmS) (o : Nat → Int64) {rc cc t : Nat} (hg : fmGood 0 rc cc t σ) (hts : t + 200 < 2 ^ 30) {k : Nat} (hk : k < cc) : fmMi l D A G yX4_stepsUntil wsX4_stepsUntil (fmRm 6 0 0) 0 0 [.ref (G.1 0 0 0), .int (nI k), .int 1] σ o (fun r u => (∃ n, n ≤ 150 ∧ r = nI n ∧ (fmPass 1 rc cc t (fmMC σ 1 0 rc cc) n) 52 1 k 0 = 2 ∧ (∀ i, i < n → ¬ (fmPass 1 rc cc t (fmMC σ 1 0 rc cc) i) 52 1 k 0 = 2) ∧ u = (fmPass 1 rc cc t (fmMC σ 1 0 rc cc) n)) ∨ (r = -1 ∧ (∀ i, i < 151 → ¬ (fmPass 1 rc cc t (fmMC σ 1 0 rc cc) i) 52 1 k 0 = 2) ∧ u = (fmPass 1 rc cc t (fmMC σ 1 0 rc cc) 150))) := by
  refine fmMi_of (cc := cX4_stepsUntil) (maxL := 5) (ret := (some .int)) (by decide +kernel) rfl (Nat.le_of_ble_eq_true rfl) ?_
  intro P_ E_ S_ M_ args_ below_ meth_ C_ F
  have hin_X4 : ∀ w ∈ wsX40, w ∈ wsX4_stepsUntil := (fun _ h => List.mem_cons_of_mem _ (List.mem_append_left _ (List.mem_append_left _ (List.mem_append_left _ (List.mem_append_left _ (List.mem_append_right _ h))))))
  have hin_X1 : ∀ w ∈ wsX10, w ∈ wsX4_stepsUntil := (fun _ h => List.mem_cons_of_mem _ (List.mem_append_left _ (List.mem_append_left _ (List.mem_append_left _ (List.mem_append_right _ h)))))
  have hin_X2 : ∀ w ∈ wsX20, w ∈ wsX4_stepsUntil := (fun _ h => List.mem_cons_of_mem _ (List.mem_append_left _ (List.mem_append_left _ (List.mem_append_right _ h))))
  have hin_X0 : ∀ w ∈ wsX00, w ∈ wsX4_stepsUntil := (fun _ h => List.mem_cons_of_mem _ (List.mem_append_left _ (List.mem_append_right _ h)))
  have hin_X3 : ∀ w ∈ wsX30, w ∈ wsX4_stepsUntil := (fun _ h => List.mem_cons_of_mem _ (List.mem_append_right _ h))
  obtain ⟨⟨hrc, hcc, ht, h40, h41, h42⟩, hco⟩ := id hg
  have ha0 : (0 : Nat) < 2 := by decide
  have ha1 : (1 : Nat) < 2 := by decide
  have hk14 : k < 14 := by omega
  refine fmV_aload_n (pc := 0) (i := 0) F dX4_stepsUntil_0 rfl rfl ?_
  refine fmg_0_trial (pc := 1) F  hin_X4 dX4_stepsUntil_1 (List.mem_of_getElem? (i := 1) rfl) ?_
  refine fmV_aload_n (pc := 4) (i := 0) F dX4_stepsUntil_4 rfl rfl ?_
  refine fmg_0_now (pc := 5) F  hin_X4 dX4_stepsUntil_5 (List.mem_of_getElem? (i := 2) rfl) ?_
  refine fmV_cVv (n := 1) (pc := 8) F (c_X1_copyFrom l D A G σ o ha1 ha0 hrc hcc h40 h41) gX4_stepsUntil_X1_copyFrom rfl rfl rfl (by decide +kernel) ⟨Nat.le_of_ble_eq_true rfl, Nat.le_of_ble_eq_true rfl⟩ (fmR_4 F (by assumption)) rfl rfl (Nat.le_of_ble_eq_true rfl) dX4_stepsUntil_8 ⟨Nat.le_of_ble_eq_true rfl, Nat.le_of_ble_eq_true rfl⟩ (fun u1 hc3 => ?_)
  have hc3 := hc3.symm
  subst hc3
  refine fmV_aload_n (pc := 11) (i := 0) F dX4_stepsUntil_11 rfl rfl ?_
  refine fmg_0_trial (pc := 12) F  hin_X4 dX4_stepsUntil_12 (List.mem_of_getElem? (i := 1) rfl) ?_
  refine fmg_4_canoes (pc := 15) F (by assumption) hin_X1 dX4_stepsUntil_15 (List.mem_of_getElem? (i := 3) rfl) ?_
  refine fmV_iload_n (pc := 18) (i := 1) F dX4_stepsUntil_18 rfl rfl ?_
  refine fmV_ald_canoes (pc := 19) F (by assumption) dX4_stepsUntil_19 (fm_in rfl hk14 (by decide)) (fm_cn (by omega)) ?_
  refine fmV_astore_n (pc := 20) (i := 3) F dX4_stepsUntil_20 rfl (by decide) ?_
  refine fmV_iconst (pc := 21) (v := 0) F dX4_stepsUntil_21 rfl ?_
  refine fmV_istore (pc := 22) (i := 4) F dX4_stepsUntil_22 (by decide) ?_
  refine fmV_lv (lv' := [(0, .ref (G.1 0 0 0)), (1, .int (nI k)), (2, .int 1), (3, .ref (G.1 9 1 k)), (4, .int (nI 0))]) ⟨rfl, rfl, rfl, rfl, rfl, trivial⟩ ?_
  refine fmV_upH (N := 151) (pc := 24) (Hd := fun j => ∀ i, i < j → ¬ (fmPass 1 rc cc t (fmMC σ 1 0 rc cc) i) 52 1 k 0 = 2) (σf := fun j => (fmPass 1 rc cc t (fmMC σ 1 0 rc cc) (j - 1))) (lvf := fun j => [(0, .ref (G.1 0 0 0)), (1, .int (nI k)), (2, .int 1), (3, .ref (G.1 9 1 k)), (4, .int (nI j))]) 0 (by omega) (fun i hi => absurd hi (by omega)) (fun hH => ?_) ?_
  · refine fmV_iload (pc := 24) (i := 4) F dX4_stepsUntil_24 rfl ?_
    refine fmV_sipush (pc := 26) (v := 150) F dX4_stepsUntil_26 (by decide) ?_
    refine fmV_icmp_gt (pc := 29) (tgt := 62) F dX4_stepsUntil_29 (by decide) (fun h1 => ?_) (fun h1 => ?_)
    · refine fmV_iconst (pc := 62) (v := (-1)) F dX4_stepsUntil_62 rfl ?_
      exact fmV_iret (pc := 63) F dX4_stepsUntil_63 rfl (Or.inr ⟨rfl, hH, rfl⟩)
    · exact absurd (by decide) h1
  · intro j hj hH ih
    refine fmV_iload (pc := 24) (i := 4) F dX4_stepsUntil_24 rfl ?_
    refine fmV_sipush (pc := 26) (v := 150) F dX4_stepsUntil_26 (by decide) ?_
    refine fmV_icmp_gt (pc := 29) (tgt := 62) F dX4_stepsUntil_29 (by decide) (fun h1 => ?_) (fun h1 => ?_)
    · exact absurd h1 (by rw [Int32.not_lt]; exact nI_le (b := 150) (by omega) (by decide))
    · refine fmV_iload (pc := 32) (i := 4) F dX4_stepsUntil_32 rfl ?_
      refine fmV_if_le (pc := 34) (tgt := 45) F dX4_stepsUntil_34 (by decide) (fun h2 => ?_) (fun h2 => ?_)
      · refine fmV_sg (σ1 := (fmPass 1 rc cc t (fmMC σ 1 0 rc cc) j)) (by first | rfl | (rw [show j = 0 from by rcases Nat.eq_zero_or_pos j with q | q; exact q; exact absurd h2 (nI_nle q (by omega))])) ?_
        refine fmV_aload_n (pc := 45) (i := 3) F dX4_stepsUntil_45 rfl rfl ?_
        refine fmV_iload_n (pc := 46) (i := 2) F dX4_stepsUntil_46 rfl rfl ?_
        refine fmV_cVi (n := 1) (pc := 47) F (c_X0_hasReached1 l D A G (fmPass 1 rc cc t (fmMC σ 1 0 rc cc) j) o ha1 hk14) gX4_stepsUntil_X0_hasReached rfl rfl rfl (by decide +kernel) ⟨Nat.le_of_ble_eq_true rfl, Nat.le_of_ble_eq_true rfl⟩ (fmR_9 F (by assumption) (by assumption)) rfl rfl (Nat.le_of_ble_eq_true rfl) dX4_stepsUntil_47 ⟨Nat.le_of_ble_eq_true rfl, Nat.le_of_ble_eq_true rfl⟩ (fun r5 u4 hc6 => ?_)
        obtain ⟨hr9, hu9⟩ := hc6
        have hr9 := hr9.symm
        have hu9 := hu9.symm
        subst hr9
        subst hu9
        refine fmV_if_eq (pc := 50) (tgt := 56) F dX4_stepsUntil_50 (by decide) (fun h3 => ?_) (fun h3 => ?_)
        · refine fmV_iinc (pc := 56) (i := 4) F dX4_stepsUntil_56 rfl rfl (by decide) ?_
          refine fmV_goto (pc := 59) (tgt := 24) F dX4_stepsUntil_59 (by decide) ?_
          have hH2 : ∀ i, i < j + 1 → ¬ (fmPass 1 rc cc t (fmMC σ 1 0 rc cc) i) 52 1 k 0 = 2 := by
            intro i hi
            rcases Nat.lt_or_ge i j with q | q
            · exact hH i q
            · have e : i = j := by omega
              rw [e]
              exact (fun q => absurd h3 (by rw [if_pos q]; decide))
          refine fmV_lv ?_ (ih hH2)
          exact ⟨rfl, rfl, rfl, rfl, by rw [nI_succ j]; rfl, trivial⟩
        · refine fmV_iload (pc := 53) (i := 4) F dX4_stepsUntil_53 rfl ?_
          exact fmV_iret (pc := 55) F dX4_stepsUntil_55 rfl (Or.inl ⟨j, by omega, rfl, by rcases Decidable.em ((fmPass 1 rc cc t (fmMC σ 1 0 rc cc) j) 52 1 k 0 = 2) with q | q; exact q; exact absurd (by rw [if_neg q]) h3, hH, rfl⟩)
      · refine fmV_aload_n (pc := 37) (i := 0) F dX4_stepsUntil_37 rfl rfl ?_
        refine fmg_0_trial (pc := 38) F  hin_X4 dX4_stepsUntil_38 (List.mem_of_getElem? (i := 1) rfl) ?_
        refine fmV_iconst (pc := 41) (v := 1) F dX4_stepsUntil_41 rfl ?_
        have hj1 : 0 < j := by rcases Nat.eq_zero_or_pos j with q | q; exact absurd (by rw [q]; decide) h2; exact q
        have q42 := c_X1_passSteps l D A G (fmPass 1 rc cc t (fmMC σ 1 0 rc cc) (j - 1)) o ha1 (good_pass (good_MC (by decide) hg) (j - 1) (by omega)) (n := 1) (by omega)
        rw [pass_1, Nat.sub_add_cancel hj1] at q42
        refine fmV_cVv (n := 1) (pc := 42) F q42 gX4_stepsUntil_X1_passSteps rfl rfl rfl (by decide +kernel) ⟨Nat.le_of_ble_eq_true rfl, Nat.le_of_ble_eq_true rfl⟩ (fmR_4 F (by assumption)) rfl rfl (Nat.le_of_ble_eq_true rfl) dX4_stepsUntil_42 ⟨Nat.le_of_ble_eq_true rfl, Nat.le_of_ble_eq_true rfl⟩ (fun u7 hc9 => ?_)
        have hc9 := hc9.symm
        subst hc9
        refine fmV_sg (σ1 := (fmPass 1 rc cc t (fmMC σ 1 0 rc cc) j)) (by first | rfl | (rw [show j = 0 from by rcases Nat.eq_zero_or_pos j with q | q; exact q; exact absurd h2 (nI_nle q (by omega))])) ?_
        refine fmV_aload_n (pc := 45) (i := 3) F dX4_stepsUntil_45 rfl rfl ?_
        refine fmV_iload_n (pc := 46) (i := 2) F dX4_stepsUntil_46 rfl rfl ?_
        refine fmV_cVi (n := 1) (pc := 47) F (c_X0_hasReached1 l D A G (fmPass 1 rc cc t (fmMC σ 1 0 rc cc) j) o ha1 hk14) gX4_stepsUntil_X0_hasReached rfl rfl rfl (by decide +kernel) ⟨Nat.le_of_ble_eq_true rfl, Nat.le_of_ble_eq_true rfl⟩ (fmR_9 F (by assumption) (by assumption)) rfl rfl (Nat.le_of_ble_eq_true rfl) dX4_stepsUntil_47 ⟨Nat.le_of_ble_eq_true rfl, Nat.le_of_ble_eq_true rfl⟩ (fun r11 u10 hc12 => ?_)
        obtain ⟨hr9, hu9⟩ := hc12
        have hr9 := hr9.symm
        have hu9 := hu9.symm
        subst hr9
        subst hu9
        refine fmV_if_eq (pc := 50) (tgt := 56) F dX4_stepsUntil_50 (by decide) (fun h3 => ?_) (fun h3 => ?_)
        · refine fmV_iinc (pc := 56) (i := 4) F dX4_stepsUntil_56 rfl rfl (by decide) ?_
          refine fmV_goto (pc := 59) (tgt := 24) F dX4_stepsUntil_59 (by decide) ?_
          have hH2 : ∀ i, i < j + 1 → ¬ (fmPass 1 rc cc t (fmMC σ 1 0 rc cc) i) 52 1 k 0 = 2 := by
            intro i hi
            rcases Nat.lt_or_ge i j with q | q
            · exact hH i q
            · have e : i = j := by omega
              rw [e]
              exact (fun q => absurd h3 (by rw [if_pos q]; decide))
          refine fmV_lv ?_ (ih hH2)
          exact ⟨rfl, rfl, rfl, rfl, by rw [nI_succ j]; rfl, trivial⟩
        · refine fmV_iload (pc := 53) (i := 4) F dX4_stepsUntil_53 rfl ?_
          exact fmV_iret (pc := 55) F dX4_stepsUntil_55 rfl (Or.inl ⟨j, by omega, rfl, by rcases Decidable.em ((fmPass 1 rc cc t (fmMC σ 1 0 rc cc) j) 52 1 k 0 = 2) with q | q; exact q; exact absurd (by rw [if_neg q]) h3, hH, rfl⟩)

set_option maxHeartbeats 4000000 in
set_option maxRecDepth 100000 in
theorem c_X4_gone (l : Launch) (D : va_G) (A : Nat → Prop) (G : fmG) (σ : fmS) (o : Nat → Int64) (hl9 : l.stackTraces = false) {rc cc t : Nat} (hg : fmGood 0 rc cc t σ) (hts : t + 200 < 2 ^ 30) (x : Int32) : fmXi l D A G yX4_gone wsX4_gone (fmRm 7 1 6) 1 6 [.ref (G.1 0 0 0), .int x] σ o (fun r u => fmNo [("java/lang/IndexOutOfBoundsException", x < 0 ∨ σ 41 0 0 0 ≤ x)] ∧ ((∃ n, n ≤ 150 ∧ r = nI n ∧ (fmPass 1 rc cc t (fmMC σ 1 0 rc cc) n) 52 1 x.toNatClampNeg 0 = 2 ∧ (∀ i, i < n → ¬ (fmPass 1 rc cc t (fmMC σ 1 0 rc cc) i) 52 1 x.toNatClampNeg 0 = 2) ∧ u = (fmPass 1 rc cc t (fmMC σ 1 0 rc cc) n)) ∨ (r = -1 ∧ (∀ i, i < 151 → ¬ (fmPass 1 rc cc t (fmMC σ 1 0 rc cc) i) 52 1 x.toNatClampNeg 0 = 2) ∧ u = (fmPass 1 rc cc t (fmMC σ 1 0 rc cc) 150)))) (fun E u => u = σ ∧ fmFirst [("java/lang/IndexOutOfBoundsException", x < 0 ∨ σ 41 0 0 0 ≤ x)] E) := by
  refine fmXi_of (cc := cX4_gone) (maxL := 2) (ret := (some .int)) (by decide +kernel) rfl (Nat.le_of_ble_eq_true rfl) ?_
  intro P_ E_ S_ M_ args_ below_ meth_ C_ F hX hnt
  have hin_X4 : ∀ w ∈ wsX40, w ∈ wsX4_gone := (fun _ h => List.mem_cons_of_mem _ (List.mem_append_left _ (List.mem_append_left _ (List.mem_append_left _ (List.mem_append_left _ (List.mem_append_left _ (List.mem_append_right _ h)))))))
  have hin_X1 : ∀ w ∈ wsX10, w ∈ wsX4_gone := (fun _ h => List.mem_cons_of_mem _ (List.mem_append_left _ (List.mem_append_left _ (List.mem_append_left _ (List.mem_append_left _ (List.mem_append_right _ h))))))
  have hin_X2 : ∀ w ∈ wsX20, w ∈ wsX4_gone := (fun _ h => List.mem_cons_of_mem _ (List.mem_append_left _ (List.mem_append_left _ (List.mem_append_left _ (List.mem_append_right _ h)))))
  have hin_X0 : ∀ w ∈ wsX00, w ∈ wsX4_gone := (fun _ h => List.mem_cons_of_mem _ (List.mem_append_left _ (List.mem_append_left _ (List.mem_append_right _ h))))
  have hin_X3 : ∀ w ∈ wsX30, w ∈ wsX4_gone := (fun _ h => List.mem_cons_of_mem _ (List.mem_append_left _ (List.mem_append_right _ h)))
  obtain ⟨⟨hrc, hcc, ht, h40, h41, h42⟩, hco⟩ := id hg
  have ha0 : (0 : Nat) < 2 := by decide
  have ha1 : (1 : Nat) < 2 := by decide
  refine fmV_iload_n (pc := 0) (i := 1) F dX4_gone_0 rfl rfl ?_
  refine fmV_aload_n (pc := 1) (i := 0) F dX4_gone_1 rfl rfl ?_
  refine fmg_0_now (pc := 2) F  hin_X4 dX4_gone_2 (List.mem_of_getElem? (i := 1) rfl) ?_
  refine fmg_4_canoeCount (pc := 5) F (by assumption) hin_X1 dX4_gone_5 (List.mem_of_getElem? (i := 2) rfl) ?_
  refine fmV_xSv (n := 2) (pc := 8) F hX (c_X4_needIndex l D A G σ o hl9 x (σ 41 0 0 0)) gX4_gone_X4_needIndex rfl rfl rfl (by decide +kernel) ⟨Nat.le_of_ble_eq_true rfl, Nat.le_of_ble_eq_true rfl⟩ rfl rfl (Nat.le_of_ble_eq_true rfl) dX4_gone_8 ⟨Nat.le_of_ble_eq_true rfl, Nat.le_of_ble_eq_true rfl⟩ (fun E9 u9 hE9 ce9 q9 H9 locs9 ls9 hP9 hS9 hl8 hce9 hcv9 hcl9 => by obtain ⟨e1, e2, e3⟩ := hE9; have e2 := e2.symm; subst e2; exact fm_out F hnt ⟨rfl, Or.inl ⟨e3, e1⟩⟩ hP9 hS9 hce9 hcv9 hcl9 (Nat.le_of_ble_eq_true rfl) (Nat.le_of_ble_eq_true rfl)) (fun u_ hc_ => ?_)
  obtain ⟨hu9, n0⟩ := hc_
  have hu9 := hu9.symm
  subst hu9
  obtain ⟨hx1, hx2⟩ := fm_ixc (x := x) (n := cc) (by rw [← h41]; exact n0) (by omega)
  have hx14 : x.toNatClampNeg < 14 := by omega
  refine fmV_aload_n (pc := 11) (i := 0) F dX4_gone_11 rfl rfl ?_
  refine fmV_iload_n (pc := 12) (i := 1) F dX4_gone_12 rfl rfl ?_
  refine fmV_iconst (pc := 13) (v := 1) F dX4_gone_13 rfl ?_
  have q14 := c_X4_stepsUntil1 l D A G σ o hg hts hx1
  rw [← hx2] at q14
  refine fmV_cVi (n := 2) (pc := 14) F q14 gX4_gone_X4_stepsUntil rfl rfl rfl (by decide +kernel) ⟨Nat.le_of_ble_eq_true rfl, Nat.le_of_ble_eq_true rfl⟩ (fmR_0 F ) rfl rfl (Nat.le_of_ble_eq_true rfl) dX4_gone_14 ⟨Nat.le_of_ble_eq_true rfl, Nat.le_of_ble_eq_true rfl⟩ (fun r_ u_ hc_ => ?_)
  refine fmV_widen (k := 1) (n := 6) (Nat.le_of_ble_eq_true rfl) (Nat.le_of_ble_eq_true rfl) ?_
  refine fmV_xr ?_
  exact fmV_iret (pc := 17) F dX4_gone_17 rfl ⟨⟨n0, trivial⟩, hc_⟩

set_option maxHeartbeats 4000000 in
set_option maxRecDepth 100000 in
theorem c_X4_coinsIfMoored (l : Launch) (D : va_G) (A : Nat → Prop) (G : fmG) (σ : fmS) (o : Nat → Int64) {rc cc t : Nat} (hg : fmGood 0 rc cc t σ) {k r n : Nat} (hk : k < cc) (hr : r < rc) (hf : σ 48 0 r 0 < σ 47 0 r 0) (hs : σ 52 0 k 0 ≠ 1) (hn : t + n < 2 ^ 30) : fmMi l D A G yX4_coinsIfMoored wsX4_coinsIfMoored (fmRm 6 0 0) 0 0 [.ref (G.1 0 0 0), .int (nI k), .int (nI r), .int (nI n)] σ o (fun x u => x = fmTryM rc cc t k r n σ 50 1 k 0 ∧ u = fmTryM rc cc t k r n σ) := by
  refine fmMi_of (cc := cX4_coinsIfMoored) (maxL := 5) (ret := (some .int)) (by decide +kernel) rfl (Nat.le_of_ble_eq_true rfl) ?_
  intro P_ E_ S_ M_ args_ below_ meth_ C_ F
  have hin_X4 : ∀ w ∈ wsX40, w ∈ wsX4_coinsIfMoored := (fun _ h => List.mem_cons_of_mem _ (List.mem_append_left _ (List.mem_append_left _ (List.mem_append_left _ (List.mem_append_left _ (List.mem_append_right _ h))))))
  have hin_X1 : ∀ w ∈ wsX10, w ∈ wsX4_coinsIfMoored := (fun _ h => List.mem_cons_of_mem _ (List.mem_append_left _ (List.mem_append_left _ (List.mem_append_left _ (List.mem_append_right _ h)))))
  have hin_X0 : ∀ w ∈ wsX00, w ∈ wsX4_coinsIfMoored := (fun _ h => List.mem_cons_of_mem _ (List.mem_append_left _ (List.mem_append_left _ (List.mem_append_right _ h))))
  have hin_X2 : ∀ w ∈ wsX20, w ∈ wsX4_coinsIfMoored := (fun _ h => List.mem_cons_of_mem _ (List.mem_append_left _ (List.mem_append_right _ h)))
  have hin_X3 : ∀ w ∈ wsX30, w ∈ wsX4_coinsIfMoored := (fun _ h => List.mem_cons_of_mem _ (List.mem_append_right _ h))
  obtain ⟨⟨hrc, hcc, ht, h40, h41, h42⟩, hco⟩ := id hg
  have ha0 : (0 : Nat) < 2 := by decide
  have ha1 : (1 : Nat) < 2 := by decide
  have hk14 : k < 14 := by omega
  obtain ⟨q9, v9, w1, w2, w3, w4⟩ := good_row hg hr
  have hfr : v9 < q9 := fm_lt_of w4 w3 hf (by omega) (by omega)
  have w5 : (fmMC σ 1 0 rc cc) 48 1 r 0 = nI v9 := by rw [MC_in48 (by decide) hr]; exact w4
  have w6 : (fmMC σ 1 0 rc cc) 47 1 r 0 = nI q9 := by rw [MC_in47 (by decide) hr]; exact w3
  have hs1 : (fmMC σ 1 0 rc cc) 52 1 k 0 ≠ 1 := by rw [MC_in50 (by decide) (by decide) hk]; exact hs
  refine fmV_aload_n (pc := 0) (i := 0) F dX4_coinsIfMoored_0 rfl rfl ?_
  refine fmg_0_trial (pc := 1) F  hin_X4 dX4_coinsIfMoored_1 (List.mem_of_getElem? (i := 1) rfl) ?_
  refine fmV_aload_n (pc := 4) (i := 0) F dX4_coinsIfMoored_4 rfl rfl ?_
  refine fmg_0_now (pc := 5) F  hin_X4 dX4_coinsIfMoored_5 (List.mem_of_getElem? (i := 2) rfl) ?_
  refine fmV_cVv (n := 1) (pc := 8) F (c_X1_copyFrom l D A G σ o ha1 ha0 hrc hcc h40 h41) gX4_coinsIfMoored_X1_copyFrom rfl rfl rfl (by decide +kernel) ⟨Nat.le_of_ble_eq_true rfl, Nat.le_of_ble_eq_true rfl⟩ (fmR_4 F (by assumption)) rfl rfl (Nat.le_of_ble_eq_true rfl) dX4_coinsIfMoored_8 ⟨Nat.le_of_ble_eq_true rfl, Nat.le_of_ble_eq_true rfl⟩ (fun u1 hc3 => ?_)
  have hc3 := hc3.symm
  subst hc3
  refine fmV_aload_n (pc := 11) (i := 0) F dX4_coinsIfMoored_11 rfl rfl ?_
  refine fmg_0_trial (pc := 12) F  hin_X4 dX4_coinsIfMoored_12 (List.mem_of_getElem? (i := 1) rfl) ?_
  refine fmg_4_canoes (pc := 15) F (by assumption) hin_X1 dX4_coinsIfMoored_15 (List.mem_of_getElem? (i := 3) rfl) ?_
  refine fmV_iload_n (pc := 18) (i := 1) F dX4_coinsIfMoored_18 rfl rfl ?_
  refine fmV_ald_canoes (pc := 19) F (by assumption) dX4_coinsIfMoored_19 (fm_in rfl hk14 (by decide)) (fm_cn (by omega)) ?_
  refine fmV_astore (pc := 20) (i := 4) F dX4_coinsIfMoored_20 (by decide) ?_
  refine fmV_aload_n (pc := 22) (i := 0) F dX4_coinsIfMoored_22 rfl rfl ?_
  refine fmg_0_trial (pc := 23) F  hin_X4 dX4_coinsIfMoored_23 (List.mem_of_getElem? (i := 1) rfl) ?_
  refine fmV_aload (pc := 26) (i := 4) F dX4_coinsIfMoored_26 rfl ?_
  refine fmV_iload_n (pc := 28) (i := 2) F dX4_coinsIfMoored_28 rfl rfl ?_
  refine fmV_cVv (n := 2) (pc := 29) F (c_X1_fasten l D A G (fmMC σ 1 0 rc cc) o ha1 hk14 (by omega) w1 hfr w5 w6) gX4_coinsIfMoored_X1_fasten rfl rfl rfl (by decide +kernel) ⟨Nat.le_of_ble_eq_true rfl, Nat.le_of_ble_eq_true rfl⟩ (fmR_4 F (by assumption)) rfl rfl (Nat.le_of_ble_eq_true rfl) dX4_coinsIfMoored_29 ⟨Nat.le_of_ble_eq_true rfl, Nat.le_of_ble_eq_true rfl⟩ (fun u4 hc6 => ?_)
  have hc6 := hc6.symm
  subst hc6
  refine fmV_aload_n (pc := 32) (i := 0) F dX4_coinsIfMoored_32 rfl rfl ?_
  refine fmg_0_trial (pc := 33) F  hin_X4 dX4_coinsIfMoored_33 (List.mem_of_getElem? (i := 1) rfl) ?_
  refine fmV_iload_n (pc := 36) (i := 3) F dX4_coinsIfMoored_36 rfl rfl ?_
  refine fmV_cVv (n := 1) (pc := 37) F (c_X1_passSteps l D A G (fmFast (fmMC σ 1 0 rc cc) 1 k r v9) o ha1 (good_fast (good_MC (by decide) hg) hk hr w1 hfr w5 w6 hs1) (n := n) hn) gX4_coinsIfMoored_X1_passSteps rfl rfl rfl (by decide +kernel) ⟨Nat.le_of_ble_eq_true rfl, Nat.le_of_ble_eq_true rfl⟩ (fmR_4 F (by assumption)) rfl rfl (Nat.le_of_ble_eq_true rfl) dX4_coinsIfMoored_37 ⟨Nat.le_of_ble_eq_true rfl, Nat.le_of_ble_eq_true rfl⟩ (fun u7 hc9 => ?_)
  have hc9 := hc9.symm
  subst hc9
  refine fmV_aload (pc := 40) (i := 4) F dX4_coinsIfMoored_40 rfl ?_
  refine fmg_9_coins (pc := 42) F (by assumption) (by assumption) hin_X0 dX4_coinsIfMoored_42 (List.mem_of_getElem? (i := 4) rfl) ?_
  exact fmV_iret (pc := 45) F dX4_coinsIfMoored_45 rfl ⟨by rw [fmTryM, fm_cl w4 (by omega)], by rw [fmTryM, fm_cl w4 (by omega)]⟩

set_option maxHeartbeats 4000000 in
set_option maxRecDepth 100000 in
theorem c_X4_soldIfAsking (l : Launch) (D : va_G) (A : Nat → Prop) (G : fmG) (σ : fmS) (o : Nat → Int64) {rc cc t : Nat} (hg : fmGood 0 rc cc t σ) {k g n : Nat} (x : Int32) (hk : k < cc) (hgd : g < 4) (hn : t + n < 2 ^ 30) : fmMi l D A G yX4_soldIfAsking wsX4_soldIfAsking (fmRm 6 0 0) 0 0 [.ref (G.1 0 0 0), .int (nI k), .int (nI g), .int x, .int (nI n)] σ o (fun r u => r = fmTryA rc cc t k g n x σ 59 1 k 0 ∧ u = fmTryA rc cc t k g n x σ) := by
  refine fmMi_of (cc := cX4_soldIfAsking) (maxL := 6) (ret := (some .int)) (by decide +kernel) rfl (Nat.le_of_ble_eq_true rfl) ?_
  intro P_ E_ S_ M_ args_ below_ meth_ C_ F
  have hin_X4 : ∀ w ∈ wsX40, w ∈ wsX4_soldIfAsking := (fun _ h => List.mem_cons_of_mem _ (List.mem_append_left _ (List.mem_append_left _ (List.mem_append_left _ (List.mem_append_left _ (List.mem_append_right _ h))))))
  have hin_X1 : ∀ w ∈ wsX10, w ∈ wsX4_soldIfAsking := (fun _ h => List.mem_cons_of_mem _ (List.mem_append_left _ (List.mem_append_left _ (List.mem_append_left _ (List.mem_append_right _ h)))))
  have hin_X0 : ∀ w ∈ wsX00, w ∈ wsX4_soldIfAsking := (fun _ h => List.mem_cons_of_mem _ (List.mem_append_left _ (List.mem_append_left _ (List.mem_append_right _ h))))
  have hin_X2 : ∀ w ∈ wsX20, w ∈ wsX4_soldIfAsking := (fun _ h => List.mem_cons_of_mem _ (List.mem_append_left _ (List.mem_append_right _ h)))
  have hin_X3 : ∀ w ∈ wsX30, w ∈ wsX4_soldIfAsking := (fun _ h => List.mem_cons_of_mem _ (List.mem_append_right _ h))
  obtain ⟨⟨hrc, hcc, ht, h40, h41, h42⟩, hco⟩ := id hg
  have ha0 : (0 : Nat) < 2 := by decide
  have ha1 : (1 : Nat) < 2 := by decide
  have hk14 : k < 14 := by omega
  refine fmV_aload_n (pc := 0) (i := 0) F dX4_soldIfAsking_0 rfl rfl ?_
  refine fmg_0_trial (pc := 1) F  hin_X4 dX4_soldIfAsking_1 (List.mem_of_getElem? (i := 1) rfl) ?_
  refine fmV_aload_n (pc := 4) (i := 0) F dX4_soldIfAsking_4 rfl rfl ?_
  refine fmg_0_now (pc := 5) F  hin_X4 dX4_soldIfAsking_5 (List.mem_of_getElem? (i := 2) rfl) ?_
  refine fmV_cVv (n := 1) (pc := 8) F (c_X1_copyFrom l D A G σ o ha1 ha0 hrc hcc h40 h41) gX4_soldIfAsking_X1_copyFrom rfl rfl rfl (by decide +kernel) ⟨Nat.le_of_ble_eq_true rfl, Nat.le_of_ble_eq_true rfl⟩ (fmR_4 F (by assumption)) rfl rfl (Nat.le_of_ble_eq_true rfl) dX4_soldIfAsking_8 ⟨Nat.le_of_ble_eq_true rfl, Nat.le_of_ble_eq_true rfl⟩ (fun u1 hc3 => ?_)
  have hc3 := hc3.symm
  subst hc3
  refine fmV_aload_n (pc := 11) (i := 0) F dX4_soldIfAsking_11 rfl rfl ?_
  refine fmg_0_trial (pc := 12) F  hin_X4 dX4_soldIfAsking_12 (List.mem_of_getElem? (i := 1) rfl) ?_
  refine fmg_4_canoes (pc := 15) F (by assumption) hin_X1 dX4_soldIfAsking_15 (List.mem_of_getElem? (i := 3) rfl) ?_
  refine fmV_iload_n (pc := 18) (i := 1) F dX4_soldIfAsking_18 rfl rfl ?_
  refine fmV_ald_canoes (pc := 19) F (by assumption) dX4_soldIfAsking_19 (fm_in rfl hk14 (by decide)) (fm_cn (by omega)) ?_
  refine fmV_astore (pc := 20) (i := 5) F dX4_soldIfAsking_20 (by decide) ?_
  refine fmV_aload (pc := 22) (i := 5) F dX4_soldIfAsking_22 rfl ?_
  refine fmg_9_asks (pc := 24) F (by assumption) (by assumption) hin_X0 dX4_soldIfAsking_24 (List.mem_of_getElem? (i := 4) rfl) ?_
  refine fmV_iload_n (pc := 27) (i := 2) F dX4_soldIfAsking_27 rfl rfl ?_
  refine fmV_iload_n (pc := 28) (i := 3) F dX4_soldIfAsking_28 rfl rfl ?_
  refine fmas_11 (pc := 29) F (by assumption) (by assumption) dX4_soldIfAsking_29 (fm_in rfl hgd (by decide)) (fm_cn (by omega)) ?_
  refine fmV_aload_n (pc := 30) (i := 0) F dX4_soldIfAsking_30 rfl rfl ?_
  refine fmg_0_trial (pc := 31) F  hin_X4 dX4_soldIfAsking_31 (List.mem_of_getElem? (i := 1) rfl) ?_
  refine fmV_iload (pc := 34) (i := 4) F dX4_soldIfAsking_34 rfl ?_
  refine fmV_cVv (n := 1) (pc := 36) F (c_X1_passSteps l D A G _ o ha1 (good_ask (good_MC (by decide) hg)) (n := n) hn) gX4_soldIfAsking_X1_passSteps rfl rfl rfl (by decide +kernel) ⟨Nat.le_of_ble_eq_true rfl, Nat.le_of_ble_eq_true rfl⟩ (fmR_4 F (by assumption)) rfl rfl (Nat.le_of_ble_eq_true rfl) dX4_soldIfAsking_36 ⟨Nat.le_of_ble_eq_true rfl, Nat.le_of_ble_eq_true rfl⟩ (fun u4 hc6 => ?_)
  have hc6 := hc6.symm
  subst hc6
  refine fmV_aload (pc := 39) (i := 5) F dX4_soldIfAsking_39 rfl ?_
  refine fmg_9_sold (pc := 41) F (by assumption) (by assumption) hin_X0 dX4_soldIfAsking_41 (List.mem_of_getElem? (i := 5) rfl) ?_
  exact fmV_iret (pc := 44) F dX4_soldIfAsking_44 rfl ⟨rfl, rfl⟩

set_option maxHeartbeats 4000000 in
set_option maxRecDepth 100000 in
theorem c_X4_advise (l : Launch) (D : va_G) (A : Nat → Prop) (G : fmG) (σ : fmS) (o : Nat → Int64) (hl9 : l.stackTraces = false) {rc cc t : Nat} (hg : fmGood 0 rc cc t σ) (hts : t + 200 < 2 ^ 30) (x y : Int32) : fmXi l D A G yX4_advise wsX4_advise (fmRm 7 3 18) 3 18 [.ref (G.1 0 0 0), .int x, .int y] σ o (fun r u => fmNo [("java/lang/IndexOutOfBoundsException", x < 0 ∨ σ 41 0 0 0 ≤ x), ("java/lang/IllegalArgumentException", y < 1 ∨ 60 < y), ("java/lang/IllegalStateException", σ 52 0 x.toNatClampNeg 0 ≠ 0)] ∧ r = (fmAdv rc cc t x.toNatClampNeg y.toNatClampNeg σ rc).2.1 ∧ u = (fmAdv rc cc t x.toNatClampNeg y.toNatClampNeg σ rc).1) (fun E u => u = σ ∧ fmFirst [("java/lang/IndexOutOfBoundsException", x < 0 ∨ σ 41 0 0 0 ≤ x), ("java/lang/IllegalArgumentException", y < 1 ∨ 60 < y), ("java/lang/IllegalStateException", σ 52 0 x.toNatClampNeg 0 ≠ 0)] E) := by
  refine fmXi_of (cc := cX4_advise) (maxL := 7) (ret := (some .int)) (by decide +kernel) rfl (Nat.le_of_ble_eq_true rfl) ?_
  intro P_ E_ S_ M_ args_ below_ meth_ C_ F hX hnt
  have hin_X4 : ∀ w ∈ wsX40, w ∈ wsX4_advise := (fun _ h => List.mem_cons_of_mem _ (List.mem_append_left _ (List.mem_append_left _ (List.mem_append_left _ (List.mem_append_left _ (List.mem_append_left _ (List.mem_append_left _ (List.mem_append_left _ (List.mem_append_right _ h)))))))))
  have hin_X1 : ∀ w ∈ wsX10, w ∈ wsX4_advise := (fun _ h => List.mem_cons_of_mem _ (List.mem_append_left _ (List.mem_append_left _ (List.mem_append_left _ (List.mem_append_left _ (List.mem_append_left _ (List.mem_append_left _ (List.mem_append_right _ h))))))))
  have hin_X0 : ∀ w ∈ wsX00, w ∈ wsX4_advise := (fun _ h => List.mem_cons_of_mem _ (List.mem_append_left _ (List.mem_append_left _ (List.mem_append_left _ (List.mem_append_left _ (List.mem_append_left _ (List.mem_append_right _ h)))))))
  have hin_X2 : ∀ w ∈ wsX20, w ∈ wsX4_advise := (fun _ h => List.mem_cons_of_mem _ (List.mem_append_left _ (List.mem_append_left _ (List.mem_append_left _ (List.mem_append_left _ (List.mem_append_right _ h))))))
  have hin_X3 : ∀ w ∈ wsX30, w ∈ wsX4_advise := (fun _ h => List.mem_cons_of_mem _ (List.mem_append_left _ (List.mem_append_left _ (List.mem_append_left _ (List.mem_append_right _ h)))))
  obtain ⟨⟨hrc, hcc, ht, h40, h41, h42⟩, hco⟩ := id hg
  have ha0 : (0 : Nat) < 2 := by decide
  have ha1 : (1 : Nat) < 2 := by decide
  have hk40 : ∀ n, (fmAdv rc cc t x.toNatClampNeg y.toNatClampNeg σ n).1 40 0 0 0 = nI rc := fun n => by rw [kp_adv σ n _ _ _ (fmOU_0 _)]; exact h40
  refine fmV_iload_n (pc := 0) (i := 1) F dX4_advise_0 rfl rfl ?_
  refine fmV_aload_n (pc := 1) (i := 0) F dX4_advise_1 rfl rfl ?_
  refine fmg_0_now (pc := 2) F  hin_X4 dX4_advise_2 (List.mem_of_getElem? (i := 1) rfl) ?_
  refine fmg_4_canoeCount (pc := 5) F (by assumption) hin_X1 dX4_advise_5 (List.mem_of_getElem? (i := 2) rfl) ?_
  refine fmV_xSv (n := 2) (pc := 8) F hX (c_X4_needIndex l D A G σ o hl9 x (σ 41 0 0 0)) gX4_advise_X4_needIndex rfl rfl rfl (by decide +kernel) ⟨Nat.le_of_ble_eq_true rfl, Nat.le_of_ble_eq_true rfl⟩ rfl rfl (Nat.le_of_ble_eq_true rfl) dX4_advise_8 ⟨Nat.le_of_ble_eq_true rfl, Nat.le_of_ble_eq_true rfl⟩ (fun E9 u9 hE9 ce9 q9 H9 locs9 ls9 hP9 hS9 hl8 hce9 hcv9 hcl9 => by obtain ⟨e1, e2, e3⟩ := hE9; have e2 := e2.symm; subst e2; exact fm_out F hnt ⟨rfl, Or.inl ⟨e3, e1⟩⟩ hP9 hS9 hce9 hcv9 hcl9 (Nat.le_of_ble_eq_true rfl) (Nat.le_of_ble_eq_true rfl)) (fun u_ hc_ => ?_)
  obtain ⟨hu9, n0⟩ := hc_
  have hu9 := hu9.symm
  subst hu9
  obtain ⟨hx1, hx2⟩ := fm_ixc (x := x) (n := cc) (by rw [← h41]; exact n0) (by omega)
  have hx14 : x.toNatClampNeg < 14 := by omega
  refine fmV_iload_n (pc := 11) (i := 2) F dX4_advise_11 rfl rfl ?_
  refine fmV_iconst (pc := 12) (v := 1) F dX4_advise_12 rfl ?_
  refine fmV_bipush (pc := 13) (v := 60) F dX4_advise_13 (by decide) ?_
  refine fmV_xSv (n := 3) (pc := 15) F hX (c_X4_needRange l D A G σ o hl9 y 1 60) gX4_advise_X4_needRange rfl rfl rfl (by decide +kernel) ⟨Nat.le_of_ble_eq_true rfl, Nat.le_of_ble_eq_true rfl⟩ rfl rfl (Nat.le_of_ble_eq_true rfl) dX4_advise_15 ⟨Nat.le_of_ble_eq_true rfl, Nat.le_of_ble_eq_true rfl⟩ (fun E9 u9 hE9 ce9 q9 H9 locs9 ls9 hP9 hS9 hl8 hce9 hcv9 hcl9 => by obtain ⟨e1, e2, e3⟩ := hE9; have e2 := e2.symm; subst e2; exact fm_out F hnt ⟨rfl, Or.inr ⟨n0, Or.inl ⟨e3, e1⟩⟩⟩ hP9 hS9 hce9 hcv9 hcl9 (Nat.le_of_ble_eq_true rfl) (Nat.le_of_ble_eq_true rfl)) (fun u_ hc_ => ?_)
  obtain ⟨hu9, n1⟩ := hc_
  have hu9 := hu9.symm
  subst hu9
  obtain ⟨hy0, hy1, hy2⟩ := fm_rgc (x := y) (lo := 1) (hi := 60) n1 (by decide) (by decide)
  refine fmV_aload_n (pc := 18) (i := 0) F dX4_advise_18 rfl rfl ?_
  refine fmg_0_now (pc := 19) F  hin_X4 dX4_advise_19 (List.mem_of_getElem? (i := 1) rfl) ?_
  refine fmg_4_canoes (pc := 22) F (by assumption) hin_X1 dX4_advise_22 (List.mem_of_getElem? (i := 3) rfl) ?_
  refine fmV_iload_n (pc := 25) (i := 1) F dX4_advise_25 rfl rfl ?_
  refine fmV_ald_canoes (pc := 26) F (by assumption) dX4_advise_26 (fm_in hx2 hx14 (by decide)) rfl ?_
  refine fmg_9_status (pc := 27) F (by assumption) (by assumption) hin_X0 dX4_advise_27 (List.mem_of_getElem? (i := 4) rfl) ?_
  refine fmV_if_ne (pc := 30) (tgt := 37) F dX4_advise_30 (by decide) (fun h1 => ?_) (fun h1 => ?_)
  · refine fmV_iconst (pc := 37) (v := 0) F dX4_advise_37 rfl ?_
    refine fmV_xSv (n := 1) (pc := 38) F hX (c_X4_needState l D A G σ o hl9 0) gX4_advise_X4_needState rfl rfl rfl (by decide +kernel) ⟨Nat.le_of_ble_eq_true rfl, Nat.le_of_ble_eq_true rfl⟩ rfl rfl (Nat.le_of_ble_eq_true rfl) dX4_advise_38 ⟨Nat.le_of_ble_eq_true rfl, Nat.le_of_ble_eq_true rfl⟩ (fun E9 u9 hE9 ce9 q9 H9 locs9 ls9 hP9 hS9 hl8 hce9 hcv9 hcl9 => by obtain ⟨e1, e2, e3⟩ := hE9; have e2 := e2.symm; subst e2; exact fm_out F hnt ⟨rfl, Or.inr ⟨n0, Or.inr ⟨n1, Or.inl ⟨h1, e1⟩⟩⟩⟩ hP9 hS9 hce9 hcv9 hcl9 (Nat.le_of_ble_eq_true rfl) (Nat.le_of_ble_eq_true rfl)) (fun u_ hc_ => ?_)
    exact absurd rfl hc_.2
  · refine fmV_iconst (pc := 33) (v := 1) F dX4_advise_33 rfl ?_
    refine fmV_goto (pc := 34) (tgt := 38) F dX4_advise_34 (by decide) ?_
    refine fmV_xSv (n := 1) (pc := 38) F hX (c_X4_needState l D A G σ o hl9 1) gX4_advise_X4_needState rfl rfl rfl (by decide +kernel) ⟨Nat.le_of_ble_eq_true rfl, Nat.le_of_ble_eq_true rfl⟩ rfl rfl (Nat.le_of_ble_eq_true rfl) dX4_advise_38 ⟨Nat.le_of_ble_eq_true rfl, Nat.le_of_ble_eq_true rfl⟩ (fun E9 u9 hE9 ce9 q9 H9 locs9 ls9 hP9 hS9 hl8 hce9 hcv9 hcl9 => by obtain ⟨e1, e2, e3⟩ := hE9; have e2 := e2.symm; subst e2; exact fm_out F hnt ⟨rfl, Or.inr ⟨n0, Or.inr ⟨n1, Or.inl ⟨(absurd e3 (by decide)), e1⟩⟩⟩⟩ hP9 hS9 hce9 hcv9 hcl9 (Nat.le_of_ble_eq_true rfl) (Nat.le_of_ble_eq_true rfl)) (fun u_ hc_ => ?_)
    obtain ⟨hu9, -⟩ := hc_
    have hu9 := hu9.symm
    subst hu9
    have n2 := (fun (k : σ 52 0 x.toNatClampNeg 0 ≠ 0) => k h1)
    have hs1 : σ 52 0 x.toNatClampNeg 0 ≠ 1 := by rw [h1]; decide
    refine fmV_iconst (pc := 41) (v := (-1)) F dX4_advise_41 rfl ?_
    refine fmV_istore_n (pc := 42) (i := 3) F dX4_advise_42 rfl (by decide) ?_
    refine fmV_iconst (pc := 43) (v := (-1)) F dX4_advise_43 rfl ?_
    refine fmV_istore (pc := 44) (i := 4) F dX4_advise_44 (by decide) ?_
    refine fmV_iconst (pc := 46) (v := 0) F dX4_advise_46 rfl ?_
    refine fmV_istore (pc := 47) (i := 5) F dX4_advise_47 (by decide) ?_
    refine fmV_lv (lv' := [(0, .ref (G.1 0 0 0)), (1, .int x), (2, .int y), (3, .int (fmAdv rc cc t x.toNatClampNeg y.toNatClampNeg σ 0).2.1), (4, .int (fmAdv rc cc t x.toNatClampNeg y.toNatClampNeg σ 0).2.2), (5, .int (nI 0))]) ⟨rfl, rfl, rfl, rfl, rfl, rfl, trivial⟩ ?_
    refine fmV_up (N := rc) (pc := 49) (σf := fun j => (fmAdv rc cc t x.toNatClampNeg y.toNatClampNeg σ j).1) (lvf := fun j => [(0, .ref (G.1 0 0 0)), (1, .int x), (2, .int y), (3, .int (fmAdv rc cc t x.toNatClampNeg y.toNatClampNeg σ j).2.1), (4, .int (fmAdv rc cc t x.toNatClampNeg y.toNatClampNeg σ j).2.2), (5, .int (nI j))]) 0 (Nat.zero_le _) ?_ ?_
    · refine fmV_iload (pc := 49) (i := 5) F dX4_advise_49 rfl ?_
      refine fmV_aload_n (pc := 51) (i := 0) F dX4_advise_51 rfl rfl ?_
      refine fmg_0_now (pc := 52) F  hin_X4 dX4_advise_52 (List.mem_of_getElem? (i := 1) rfl) ?_
      refine fmg_4_rowCount (pc := 55) F (by assumption) hin_X1 dX4_advise_55 (List.mem_of_getElem? (i := 5) rfl) ?_
      refine fmV_icmp_ge (pc := 58) (tgt := 107) F dX4_advise_58 (by decide) (fun h4 => ?_) (fun h4 => ?_)
      · refine fmV_iload_n (pc := 107) (i := 3) F dX4_advise_107 rfl rfl ?_
        refine fmV_widen (k := 3) (n := 18) (Nat.le_of_ble_eq_true rfl) (Nat.le_of_ble_eq_true rfl) ?_
        refine fmV_xr ?_
        exact fmV_iret (pc := 108) F dX4_advise_108 rfl ⟨⟨n0, n1, n2, trivial⟩, rfl, rfl⟩
      · rw [hk40] at h4
        exact absurd (nI_le (Nat.le_refl rc) (by omega)) h4
    · intro j hj ih
      have hj4 : j < 4 := by omega
      refine fmV_iload (pc := 49) (i := 5) F dX4_advise_49 rfl ?_
      refine fmV_aload_n (pc := 51) (i := 0) F dX4_advise_51 rfl rfl ?_
      refine fmg_0_now (pc := 52) F  hin_X4 dX4_advise_52 (List.mem_of_getElem? (i := 1) rfl) ?_
      refine fmg_4_rowCount (pc := 55) F (by assumption) hin_X1 dX4_advise_55 (List.mem_of_getElem? (i := 5) rfl) ?_
      refine fmV_icmp_ge (pc := 58) (tgt := 107) F dX4_advise_58 (by decide) (fun h4 => ?_) (fun h4 => ?_)
      · rw [hk40] at h4
        exact absurd h4 (nI_ge hj (by omega))
      · refine fmV_aload_n (pc := 61) (i := 0) F dX4_advise_61 rfl rfl ?_
        refine fmg_0_now (pc := 62) F  hin_X4 dX4_advise_62 (List.mem_of_getElem? (i := 1) rfl) ?_
        refine fmg_4_rows (pc := 65) F (by assumption) hin_X1 dX4_advise_65 (List.mem_of_getElem? (i := 6) rfl) ?_
        refine fmV_iload (pc := 68) (i := 5) F dX4_advise_68 rfl ?_
        refine fmV_ald_rows (pc := 70) F (by assumption) dX4_advise_70 (vp_in_nI (by omega) (by decide)) (fm_cn (by omega)) ?_
        refine fmV_cVi (n := 0) (pc := 71) F (c_X2_isFull l D A G (fmAdv rc cc t x.toNatClampNeg y.toNatClampNeg σ j).1 o ha0 hj4) gX4_advise_X2_isFull rfl rfl rfl (by decide +kernel) ⟨Nat.le_of_ble_eq_true rfl, Nat.le_of_ble_eq_true rfl⟩ (fmR_7 F (by assumption) (by assumption)) rfl rfl (Nat.le_of_ble_eq_true rfl) dX4_advise_71 ⟨Nat.le_of_ble_eq_true rfl, Nat.le_of_ble_eq_true rfl⟩ (fun r14 u13 hc15 => ?_)
        obtain ⟨hr9, hu9⟩ := hc15
        have hr9 := hr9.symm
        have hu9 := hu9.symm
        subst hr9
        subst hu9
        refine fmV_if_ne (pc := 74) (tgt := 101) F dX4_advise_74 (by decide) (fun h2 => ?_) (fun h2 => ?_)
        · refine fmV_iinc (pc := 101) (i := 5) F dX4_advise_101 rfl rfl (by decide) ?_
          refine fmV_goto (pc := 104) (tgt := 49) F dX4_advise_104 (by decide) ?_
          have hA : fmAdv rc cc t x.toNatClampNeg y.toNatClampNeg σ (j + 1) = _ := fmAdv.eq_2 _ _ _ _ _ _ _
          first
            | rw [if_neg (fun q => h2 (by rw [if_pos q]))] at hA
            | rw [if_pos q1, if_neg (Int32.not_lt.mpr h3)] at hA
            | rw [if_pos q1, if_pos (Int32.not_le.mp h3)] at hA
          refine fmV_sg (σ1 := (fmAdv rc cc t x.toNatClampNeg y.toNatClampNeg σ (j + 1)).1) (by rw [hA]) ?_
          refine fmV_lv ?_ ih
          exact ⟨rfl, rfl, rfl, by rw [hA]; rfl, by rw [hA]; rfl, by rw [nI_succ j]; rfl, trivial⟩
        · have q1 : (fmAdv rc cc t x.toNatClampNeg y.toNatClampNeg σ j).1 48 0 j 0 < (fmAdv rc cc t x.toNatClampNeg y.toNatClampNeg σ j).1 47 0 j 0 := by rcases Decidable.em ((fmAdv rc cc t x.toNatClampNeg y.toNatClampNeg σ j).1 48 0 j 0 < (fmAdv rc cc t x.toNatClampNeg y.toNatClampNeg σ j).1 47 0 j 0) with q | q; exact q; rw [if_neg q] at h2; exact absurd h2 (by decide)
          refine fmV_aload_n (pc := 77) (i := 0) F dX4_advise_77 rfl rfl ?_
          refine fmV_iload_n (pc := 78) (i := 1) F dX4_advise_78 rfl rfl ?_
          refine fmV_iload (pc := 79) (i := 5) F dX4_advise_79 rfl ?_
          refine fmV_iload_n (pc := 81) (i := 2) F dX4_advise_81 rfl rfl ?_
          have q82 := c_X4_coinsIfMoored l D A G (fmAdv rc cc t x.toNatClampNeg y.toNatClampNeg σ j).1 o (good_kp hg (kp_adv σ j)) (k := x.toNatClampNeg) (r := j) (n := y.toNatClampNeg) hx1 hj q1 (by rw [kp_adv σ j _ _ _ (fmOU_0 _)]; exact hs1) (by omega)
          rw [← hx2, ← hy2] at q82
          refine fmV_cVi (n := 3) (pc := 82) F q82 gX4_advise_X4_coinsIfMoored rfl rfl rfl (by decide +kernel) ⟨Nat.le_of_ble_eq_true rfl, Nat.le_of_ble_eq_true rfl⟩ (fmR_0 F ) rfl rfl (Nat.le_of_ble_eq_true rfl) dX4_advise_82 ⟨Nat.le_of_ble_eq_true rfl, Nat.le_of_ble_eq_true rfl⟩ (fun r17 u16 hc18 => ?_)
          obtain ⟨hr9, hu9⟩ := hc18
          have hr9 := hr9.symm
          have hu9 := hu9.symm
          subst hr9
          subst hu9
          refine fmV_istore (pc := 85) (i := 6) F dX4_advise_85 (by decide) ?_
          refine fmV_iload (pc := 87) (i := 6) F dX4_advise_87 rfl ?_
          refine fmV_iload (pc := 89) (i := 4) F dX4_advise_89 rfl ?_
          refine fmV_icmp_le (pc := 91) (tgt := 101) F dX4_advise_91 (by decide) (fun h3 => ?_) (fun h3 => ?_)
          · refine fmV_iinc (pc := 101) (i := 5) F dX4_advise_101 rfl rfl (by decide) ?_
            refine fmV_goto (pc := 104) (tgt := 49) F dX4_advise_104 (by decide) ?_
            have hA : fmAdv rc cc t x.toNatClampNeg y.toNatClampNeg σ (j + 1) = _ := fmAdv.eq_2 _ _ _ _ _ _ _
            first
              | rw [if_neg (fun q => h2 (by rw [if_pos q]))] at hA
              | rw [if_pos q1, if_neg (Int32.not_lt.mpr h3)] at hA
              | rw [if_pos q1, if_pos (Int32.not_le.mp h3)] at hA
            refine fmV_sg (σ1 := (fmAdv rc cc t x.toNatClampNeg y.toNatClampNeg σ (j + 1)).1) (by rw [hA]) ?_
            refine fmV_lv ?_ ih
            exact ⟨rfl, rfl, rfl, by rw [hA]; rfl, by rw [hA]; rfl, by rw [nI_succ j]; rfl, trivial⟩
          · refine fmV_iload (pc := 94) (i := 5) F dX4_advise_94 rfl ?_
            refine fmV_istore_n (pc := 96) (i := 3) F dX4_advise_96 rfl (by decide) ?_
            refine fmV_iload (pc := 97) (i := 6) F dX4_advise_97 rfl ?_
            refine fmV_istore (pc := 99) (i := 4) F dX4_advise_99 (by decide) ?_
            refine fmV_iinc (pc := 101) (i := 5) F dX4_advise_101 rfl rfl (by decide) ?_
            refine fmV_goto (pc := 104) (tgt := 49) F dX4_advise_104 (by decide) ?_
            have hA : fmAdv rc cc t x.toNatClampNeg y.toNatClampNeg σ (j + 1) = _ := fmAdv.eq_2 _ _ _ _ _ _ _
            first
              | rw [if_neg (fun q => h2 (by rw [if_pos q]))] at hA
              | rw [if_pos q1, if_neg (Int32.not_lt.mpr h3)] at hA
              | rw [if_pos q1, if_pos (Int32.not_le.mp h3)] at hA
            refine fmV_sg (σ1 := (fmAdv rc cc t x.toNatClampNeg y.toNatClampNeg σ (j + 1)).1) (by rw [hA]) ?_
            refine fmV_lv ?_ ih
            exact ⟨rfl, rfl, rfl, by rw [hA]; rfl, by rw [hA]; rfl, by rw [nI_succ j]; rfl, trivial⟩

set_option maxHeartbeats 4000000 in
set_option maxRecDepth 100000 in
theorem c_X4_price (l : Launch) (D : va_G) (A : Nat → Prop) (G : fmG) (σ : fmS) (o : Nat → Int64) (hl9 : l.stackTraces = false) {rc cc t : Nat} (hg : fmGood 0 rc cc t σ) (hts : t + 200 < 2 ^ 30) (x y z : Int32) : fmXi l D A G yX4_price wsX4_price (fmRm 7 3 18) 3 18 [.ref (G.1 0 0 0), .int x, .int y, .int z] σ o (fun r u => fmNo [("java/lang/IndexOutOfBoundsException", x < 0 ∨ σ 41 0 0 0 ≤ x), ("java/lang/IndexOutOfBoundsException", y < 0 ∨ 4 ≤ y), ("java/lang/IllegalArgumentException", z < 1 ∨ 40 < z)] ∧ r = (fmPri rc cc t x.toNatClampNeg y.toNatClampNeg z.toNatClampNeg σ 20).2.1 ∧ u = (fmPri rc cc t x.toNatClampNeg y.toNatClampNeg z.toNatClampNeg σ 20).1) (fun E u => u = σ ∧ fmFirst [("java/lang/IndexOutOfBoundsException", x < 0 ∨ σ 41 0 0 0 ≤ x), ("java/lang/IndexOutOfBoundsException", y < 0 ∨ 4 ≤ y), ("java/lang/IllegalArgumentException", z < 1 ∨ 40 < z)] E) := by
  refine fmXi_of (cc := cX4_price) (maxL := 8) (ret := (some .int)) (by decide +kernel) rfl (Nat.le_of_ble_eq_true rfl) ?_
  intro P_ E_ S_ M_ args_ below_ meth_ C_ F hX hnt
  have hin_X4 : ∀ w ∈ wsX40, w ∈ wsX4_price := (fun _ h => List.mem_cons_of_mem _ (List.mem_append_left _ (List.mem_append_left _ (List.mem_append_left _ (List.mem_append_left _ (List.mem_append_left _ (List.mem_append_left _ (List.mem_append_right _ h))))))))
  have hin_X1 : ∀ w ∈ wsX10, w ∈ wsX4_price := (fun _ h => List.mem_cons_of_mem _ (List.mem_append_left _ (List.mem_append_left _ (List.mem_append_left _ (List.mem_append_left _ (List.mem_append_left _ (List.mem_append_right _ h)))))))
  have hin_X0 : ∀ w ∈ wsX00, w ∈ wsX4_price := (fun _ h => List.mem_cons_of_mem _ (List.mem_append_left _ (List.mem_append_left _ (List.mem_append_left _ (List.mem_append_left _ (List.mem_append_right _ h))))))
  have hin_X2 : ∀ w ∈ wsX20, w ∈ wsX4_price := (fun _ h => List.mem_cons_of_mem _ (List.mem_append_left _ (List.mem_append_left _ (List.mem_append_left _ (List.mem_append_right _ h)))))
  have hin_X3 : ∀ w ∈ wsX30, w ∈ wsX4_price := (fun _ h => List.mem_cons_of_mem _ (List.mem_append_left _ (List.mem_append_left _ (List.mem_append_right _ h))))
  obtain ⟨⟨hrc, hcc, ht, h40, h41, h42⟩, hco⟩ := id hg
  have ha0 : (0 : Nat) < 2 := by decide
  have ha1 : (1 : Nat) < 2 := by decide
  refine fmV_iload_n (pc := 0) (i := 1) F dX4_price_0 rfl rfl ?_
  refine fmV_aload_n (pc := 1) (i := 0) F dX4_price_1 rfl rfl ?_
  refine fmg_0_now (pc := 2) F  hin_X4 dX4_price_2 (List.mem_of_getElem? (i := 1) rfl) ?_
  refine fmg_4_canoeCount (pc := 5) F (by assumption) hin_X1 dX4_price_5 (List.mem_of_getElem? (i := 2) rfl) ?_
  refine fmV_xSv (n := 2) (pc := 8) F hX (c_X4_needIndex l D A G σ o hl9 x (σ 41 0 0 0)) gX4_price_X4_needIndex rfl rfl rfl (by decide +kernel) ⟨Nat.le_of_ble_eq_true rfl, Nat.le_of_ble_eq_true rfl⟩ rfl rfl (Nat.le_of_ble_eq_true rfl) dX4_price_8 ⟨Nat.le_of_ble_eq_true rfl, Nat.le_of_ble_eq_true rfl⟩ (fun E9 u9 hE9 ce9 q9 H9 locs9 ls9 hP9 hS9 hl8 hce9 hcv9 hcl9 => by obtain ⟨e1, e2, e3⟩ := hE9; have e2 := e2.symm; subst e2; exact fm_out F hnt ⟨rfl, Or.inl ⟨e3, e1⟩⟩ hP9 hS9 hce9 hcv9 hcl9 (Nat.le_of_ble_eq_true rfl) (Nat.le_of_ble_eq_true rfl)) (fun u_ hc_ => ?_)
  obtain ⟨hu9, n0⟩ := hc_
  have hu9 := hu9.symm
  subst hu9
  obtain ⟨hx1, hx2⟩ := fm_ixc (x := x) (n := cc) (by rw [← h41]; exact n0) (by omega)
  have hx14 : x.toNatClampNeg < 14 := by omega
  refine fmV_iload_n (pc := 11) (i := 2) F dX4_price_11 rfl rfl ?_
  refine fmV_iconst (pc := 12) (v := 4) F dX4_price_12 rfl ?_
  refine fmV_xSv (n := 2) (pc := 13) F hX (c_X4_needIndex l D A G σ o hl9 y (4)) gX4_price_X4_needIndex rfl rfl rfl (by decide +kernel) ⟨Nat.le_of_ble_eq_true rfl, Nat.le_of_ble_eq_true rfl⟩ rfl rfl (Nat.le_of_ble_eq_true rfl) dX4_price_13 ⟨Nat.le_of_ble_eq_true rfl, Nat.le_of_ble_eq_true rfl⟩ (fun E9 u9 hE9 ce9 q9 H9 locs9 ls9 hP9 hS9 hl8 hce9 hcv9 hcl9 => by obtain ⟨e1, e2, e3⟩ := hE9; have e2 := e2.symm; subst e2; exact fm_out F hnt ⟨rfl, Or.inr ⟨n0, Or.inl ⟨e3, e1⟩⟩⟩ hP9 hS9 hce9 hcv9 hcl9 (Nat.le_of_ble_eq_true rfl) (Nat.le_of_ble_eq_true rfl)) (fun u_ hc_ => ?_)
  obtain ⟨hu9, n1⟩ := hc_
  have hu9 := hu9.symm
  subst hu9
  obtain ⟨hy1, hy2⟩ := fm_ixc (x := y) (n := 4) n1 (by decide)
  refine fmV_iload_n (pc := 16) (i := 3) F dX4_price_16 rfl rfl ?_
  refine fmV_iconst (pc := 17) (v := 1) F dX4_price_17 rfl ?_
  refine fmV_bipush (pc := 18) (v := 40) F dX4_price_18 (by decide) ?_
  refine fmV_xSv (n := 3) (pc := 20) F hX (c_X4_needRange l D A G σ o hl9 z 1 40) gX4_price_X4_needRange rfl rfl rfl (by decide +kernel) ⟨Nat.le_of_ble_eq_true rfl, Nat.le_of_ble_eq_true rfl⟩ rfl rfl (Nat.le_of_ble_eq_true rfl) dX4_price_20 ⟨Nat.le_of_ble_eq_true rfl, Nat.le_of_ble_eq_true rfl⟩ (fun E9 u9 hE9 ce9 q9 H9 locs9 ls9 hP9 hS9 hl8 hce9 hcv9 hcl9 => by obtain ⟨e1, e2, e3⟩ := hE9; have e2 := e2.symm; subst e2; exact fm_out F hnt ⟨rfl, Or.inr ⟨n0, Or.inr ⟨n1, Or.inl ⟨e3, e1⟩⟩⟩⟩ hP9 hS9 hce9 hcv9 hcl9 (Nat.le_of_ble_eq_true rfl) (Nat.le_of_ble_eq_true rfl)) (fun u_ hc_ => ?_)
  obtain ⟨hu9, n2⟩ := hc_
  have hu9 := hu9.symm
  subst hu9
  obtain ⟨hz0, hz1, hz2⟩ := fm_rgc (x := z) (lo := 1) (hi := 40) n2 (by decide) (by decide)
  refine fmV_iconst (pc := 23) (v := (-1)) F dX4_price_23 rfl ?_
  refine fmV_istore (pc := 24) (i := 4) F dX4_price_24 (by decide) ?_
  refine fmV_iconst (pc := 26) (v := (-1)) F dX4_price_26 rfl ?_
  refine fmV_istore (pc := 27) (i := 5) F dX4_price_27 (by decide) ?_
  refine fmV_iconst (pc := 29) (v := 1) F dX4_price_29 rfl ?_
  refine fmV_istore (pc := 30) (i := 6) F dX4_price_30 (by decide) ?_
  refine fmV_lv (lv' := [(0, .ref (G.1 0 0 0)), (1, .int x), (2, .int y), (3, .int z), (4, .int (fmPri rc cc t x.toNatClampNeg y.toNatClampNeg z.toNatClampNeg σ 0).2.1), (5, .int (fmPri rc cc t x.toNatClampNeg y.toNatClampNeg z.toNatClampNeg σ 0).2.2), (6, .int (nI (0 + 1)))]) ⟨rfl, rfl, rfl, rfl, rfl, rfl, rfl, trivial⟩ ?_
  refine fmV_up (N := 20) (pc := 32) (σf := fun j => (fmPri rc cc t x.toNatClampNeg y.toNatClampNeg z.toNatClampNeg σ j).1) (lvf := fun j => [(0, .ref (G.1 0 0 0)), (1, .int x), (2, .int y), (3, .int z), (4, .int (fmPri rc cc t x.toNatClampNeg y.toNatClampNeg z.toNatClampNeg σ j).2.1), (5, .int (fmPri rc cc t x.toNatClampNeg y.toNatClampNeg z.toNatClampNeg σ j).2.2), (6, .int (nI (j + 1)))]) 0 (Nat.zero_le _) ?_ ?_
  · refine fmV_iload (pc := 32) (i := 6) F dX4_price_32 rfl ?_
    refine fmV_bipush (pc := 34) (v := 20) F dX4_price_34 (by decide) ?_
    refine fmV_icmp_gt (pc := 36) (tgt := 71) F dX4_price_36 (by decide) (fun h4 => ?_) (fun h4 => ?_)
    · refine fmV_iload (pc := 71) (i := 4) F dX4_price_71 rfl ?_
      refine fmV_widen (k := 3) (n := 18) (Nat.le_of_ble_eq_true rfl) (Nat.le_of_ble_eq_true rfl) ?_
      refine fmV_xr ?_
      exact fmV_iret (pc := 73) F dX4_price_73 rfl ⟨⟨n0, n1, n2, trivial⟩, rfl, rfl⟩
    · exact absurd (by decide) h4
  · intro j hj ih
    refine fmV_iload (pc := 32) (i := 6) F dX4_price_32 rfl ?_
    refine fmV_bipush (pc := 34) (v := 20) F dX4_price_34 (by decide) ?_
    refine fmV_icmp_gt (pc := 36) (tgt := 71) F dX4_price_36 (by decide) (fun h4 => ?_) (fun h4 => ?_)
    · exact absurd h4 (by rw [Int32.not_lt]; exact nI_le (b := 20) (by omega) (by decide))
    · refine fmV_aload_n (pc := 39) (i := 0) F dX4_price_39 rfl rfl ?_
      refine fmV_iload_n (pc := 40) (i := 1) F dX4_price_40 rfl rfl ?_
      refine fmV_iload_n (pc := 41) (i := 2) F dX4_price_41 rfl rfl ?_
      refine fmV_iload (pc := 42) (i := 6) F dX4_price_42 rfl ?_
      refine fmV_iload_n (pc := 44) (i := 3) F dX4_price_44 rfl rfl ?_
      have q45 := c_X4_soldIfAsking l D A G (fmPri rc cc t x.toNatClampNeg y.toNatClampNeg z.toNatClampNeg σ j).1 o (good_kp hg (kp_pri σ j)) (k := x.toNatClampNeg) (g := y.toNatClampNeg) (n := z.toNatClampNeg) (nI (j + 1)) hx1 hy1 (by omega)
      rw [← hx2, ← hy2, ← hz2] at q45
      refine fmV_cVi (n := 4) (pc := 45) F q45 gX4_price_X4_soldIfAsking rfl rfl rfl (by decide +kernel) ⟨Nat.le_of_ble_eq_true rfl, Nat.le_of_ble_eq_true rfl⟩ (fmR_0 F ) rfl rfl (Nat.le_of_ble_eq_true rfl) dX4_price_45 ⟨Nat.le_of_ble_eq_true rfl, Nat.le_of_ble_eq_true rfl⟩ (fun r11 u10 hc12 => ?_)
      obtain ⟨hr9, hu9⟩ := hc12
      have hr9 := hr9.symm
      have hu9 := hu9.symm
      subst hr9
      subst hu9
      refine fmV_istore (pc := 48) (i := 7) F dX4_price_48 (by decide) ?_
      refine fmV_iload (pc := 50) (i := 7) F dX4_price_50 rfl ?_
      refine fmV_iload (pc := 52) (i := 5) F dX4_price_52 rfl ?_
      refine fmV_icmp_le (pc := 54) (tgt := 65) F dX4_price_54 (by decide) (fun h3 => ?_) (fun h3 => ?_)
      · refine fmV_iinc (pc := 65) (i := 6) F dX4_price_65 rfl rfl (by decide) ?_
        refine fmV_goto (pc := 68) (tgt := 32) F dX4_price_68 (by decide) ?_
        have hA : fmPri rc cc t x.toNatClampNeg y.toNatClampNeg z.toNatClampNeg σ (j + 1) = _ := fmPri.eq_2 _ _ _ _ _ _ _ _
        first
          | rw [if_neg (Int32.not_lt.mpr h3)] at hA
          | rw [if_pos (Int32.not_le.mp h3)] at hA
        refine fmV_sg (σ1 := (fmPri rc cc t x.toNatClampNeg y.toNatClampNeg z.toNatClampNeg σ (j + 1)).1) (by rw [hA]) ?_
        refine fmV_lv ?_ ih
        exact ⟨rfl, rfl, rfl, rfl, by rw [hA]; rfl, by rw [hA]; rfl, by rw [nI_succ (j + 1)]; rfl, trivial⟩
      · refine fmV_iload (pc := 57) (i := 6) F dX4_price_57 rfl ?_
        refine fmV_istore (pc := 59) (i := 4) F dX4_price_59 (by decide) ?_
        refine fmV_iload (pc := 61) (i := 7) F dX4_price_61 rfl ?_
        refine fmV_istore (pc := 63) (i := 5) F dX4_price_63 (by decide) ?_
        refine fmV_iinc (pc := 65) (i := 6) F dX4_price_65 rfl rfl (by decide) ?_
        refine fmV_goto (pc := 68) (tgt := 32) F dX4_price_68 (by decide) ?_
        have hA : fmPri rc cc t x.toNatClampNeg y.toNatClampNeg z.toNatClampNeg σ (j + 1) = _ := fmPri.eq_2 _ _ _ _ _ _ _ _
        first
          | rw [if_neg (Int32.not_lt.mpr h3)] at hA
          | rw [if_pos (Int32.not_le.mp h3)] at hA
        refine fmV_sg (σ1 := (fmPri rc cc t x.toNatClampNeg y.toNatClampNeg z.toNatClampNeg σ (j + 1)).1) (by rw [hA]) ?_
        refine fmV_lv ?_ ih
        exact ⟨rfl, rfl, rfl, rfl, by rw [hA]; rfl, by rw [hA]; rfl, by rw [nI_succ (j + 1)]; rfl, trivial⟩
