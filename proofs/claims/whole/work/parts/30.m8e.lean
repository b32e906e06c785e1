set_option maxHeartbeats 4000000 in
set_option maxRecDepth 100000 in
theorem c_X6_advise (l : Launch) (D : va_G) (A : Nat → Prop) (G : fmG) (σ : fmS) (o : Nat → Int64) {rc cc t : Nat} (hcc : cc ≤ 14) (h63 : σ 63 0 0 0 = nI cc) (hrc : rc ≤ 4) (h62 : σ 62 0 0 0 = nI rc) (ht : t + 200 < 2 ^ 30) (h64 : σ 64 0 0 0 = nI t) (x y : Int32) : fmXi l D A G yX6_advise wsX6_advise (fmRm 6 0 0) 0 0 [.ref (G.1 14 0 0), .int x, .int y] σ o (fun r u => gRes (gz σ) (r = (gAdv rc cc t x.toNatClampNeg y.toNatClampNeg (gz σ) rc).2.1 ∧ u = (gAdv rc cc t x.toNatClampNeg y.toNatClampNeg (gz σ) rc).1) r u [(1, x < 0 ∨ nI cc ≤ x), (2, y < 1 ∨ 60 < y), (3, (gz σ) 26 0 0 x.toNatClampNeg ≠ 0)]) (fun _ _ => False) := by
  refine fmXi_of (cc := cX6_advise) (maxL := 6) (ret := (some .int)) (by decide +kernel) rfl (Nat.le_of_ble_eq_true rfl) ?_
  intro P_ E_ S_ M_ args_ below_ meth_ C_ F hX hnt
  have hin_X6 : ∀ w ∈ wsX60, w ∈ wsX6_advise := (fun _ h => List.mem_cons_of_mem _ (List.mem_append_left _ (List.mem_append_right _ h)))
  have hin_X5 : ∀ w ∈ wsX50, w ∈ wsX6_advise := (fun _ h => List.mem_cons_of_mem _ (List.mem_append_right _ h))
  have hb0 : (0 : Nat) < 2 := by decide
  have hb1 : (1 : Nat) < 2 := by decide
  refine fmV_aload_n (pc := 0) (i := 0) F dX6_advise_0 rfl rfl ?_
  refine fmV_iconst (pc := 1) (v := 0) F dX6_advise_1 rfl ?_
  refine fmp_14_thrown (pc := 2) F  hin_X6 dX6_advise_2 (List.mem_of_getElem? (i := 1) rfl) ?_
  have g63 : gz σ 63 0 0 0 = nI cc := by rw [gz_c (by decide)]; exact h63
  have g62 : gz σ 62 0 0 0 = nI rc := by rw [gz_c (by decide)]; exact h62
  have g64 : gz σ 64 0 0 0 = nI t := by rw [gz_c (by decide)]; exact h64
  refine fmV_sg (σ1 := gz σ) rfl ?_
  generalize gz σ = τ at g62 g63 g64 ⊢
  refine fmV_aload_n (pc := 5) (i := 0) F dX6_advise_5 rfl rfl ?_
  refine fmV_iload_n (pc := 6) (i := 1) F dX6_advise_6 rfl rfl ?_
  refine fmV_xVi (n := 1) (pc := 7) F hX (c_X6_isCanoe l D A G τ o hcc g63 x) gX6_advise_X6_isCanoe rfl rfl rfl (by decide +kernel) ⟨Nat.le_of_ble_eq_true rfl, Nat.le_of_ble_eq_true rfl⟩ (fmR_14 F ) rfl rfl (Nat.le_of_ble_eq_true rfl) dX6_advise_7 ⟨Nat.le_of_ble_eq_true rfl, Nat.le_of_ble_eq_true rfl⟩ (fun _ _ h9 => False.elim h9) (fun r2 u1 hc3 => ?_)
  obtain ⟨hr9, hu9⟩ := hc3
  have hr9 := hr9.symm
  have hu9 := hu9.symm
  subst hr9
  subst hu9
  refine fmV_if_ne (pc := 10) (tgt := 19) F dX6_advise_10 (by decide) (fun a1 => ?_) (fun a1 => ?_)
  · refine fmV_iload_n (pc := 19) (i := 2) F dX6_advise_19 rfl rfl ?_
    refine fmV_iconst (pc := 20) (v := 1) F dX6_advise_20 rfl ?_
    refine fmV_bipush (pc := 21) (v := 60) F dX6_advise_21 (by decide) ?_
    refine fmV_xSi (n := 3) (pc := 23) F hX (c_X6_isIn l D A G τ o y 1 60) gX6_advise_X6_isIn rfl rfl rfl (by decide +kernel) ⟨Nat.le_of_ble_eq_true rfl, Nat.le_of_ble_eq_true rfl⟩ rfl rfl (Nat.le_of_ble_eq_true rfl) dX6_advise_23 ⟨Nat.le_of_ble_eq_true rfl, Nat.le_of_ble_eq_true rfl⟩ (fun _ _ h9 => False.elim h9) (fun r5 u4 hc6 => ?_)
    obtain ⟨hr9, hu9⟩ := hc6
    have hr9 := hr9.symm
    have hu9 := hu9.symm
    subst hr9
    subst hu9
    refine fmV_if_ne (pc := 26) (tgt := 35) F dX6_advise_26 (by decide) (fun a2 => ?_) (fun a2 => ?_)
    · obtain ⟨hx1, hx2⟩ := fm_ixc (x := x) (n := cc) (fm_q1 a1) (by omega)
      have hx14 : x.toNatClampNeg < 14 := by omega
      refine fmV_aload_n (pc := 35) (i := 0) F dX6_advise_35 rfl rfl ?_
      refine fmg_14_s (pc := 36) F  hin_X6 dX6_advise_36 (List.mem_of_getElem? (i := 2) rfl) ?_
      refine fmgN_23_is (pc := 39) F hX (by assumption) hin_X5 dX6_advise_39 (List.mem_of_getElem? (i := 11) rfl) ?_
      refine fmV_iload_n (pc := 42) (i := 1) F dX6_advise_42 rfl rfl ?_
      refine fmal_26 (pc := 43) F (by assumption) dX6_advise_43 (fm_in hx2 (show x.toNatClampNeg < _ by omega) (by decide)) rfl ?_
      refine fmV_if_eq (pc := 44) (tgt := 53) F dX6_advise_44 (by decide) (fun a3 => ?_) (fun a3 => ?_)
      · obtain ⟨hy0, hy1, hy2⟩ := fm_rgc (x := y) (lo := 1) (hi := 60) (fm_q1 a2) (by decide) (by decide)
        have k62 : ∀ j, (gAdv rc cc t x.toNatClampNeg y.toNatClampNeg τ j).1 62 0 0 0 = nI rc := fun j => by rw [gKp_adv τ j _ _ (by decide)]; exact g62
        have k63 : ∀ j, (gAdv rc cc t x.toNatClampNeg y.toNatClampNeg τ j).1 63 0 0 0 = nI cc := fun j => by rw [gKp_adv τ j _ _ (by decide)]; exact g63
        have k64 : ∀ j, (gAdv rc cc t x.toNatClampNeg y.toNatClampNeg τ j).1 64 0 0 0 = nI t := fun j => by rw [gKp_adv τ j _ _ (by decide)]; exact g64
        refine fmV_iconst (pc := 53) (v := (-1)) F dX6_advise_53 rfl ?_
        refine fmV_istore_n (pc := 54) (i := 3) F dX6_advise_54 rfl (by decide) ?_
        refine fmV_iconst (pc := 55) (v := (-1)) F dX6_advise_55 rfl ?_
        refine fmV_istore (pc := 56) (i := 4) F dX6_advise_56 (by decide) ?_
        refine fmV_iconst (pc := 58) (v := 0) F dX6_advise_58 rfl ?_
        refine fmV_istore (pc := 59) (i := 5) F dX6_advise_59 (by decide) ?_
        refine fmV_lv (lv' := [(0, .ref (G.1 14 0 0)), (1, .int x), (2, .int y), (3, .int (gAdv rc cc t x.toNatClampNeg y.toNatClampNeg τ 0).2.1), (4, .int (gAdv rc cc t x.toNatClampNeg y.toNatClampNeg τ 0).2.2), (5, .int (nI 0))]) ⟨rfl, rfl, rfl, rfl, rfl, rfl, trivial⟩ ?_
        refine fmV_up (N := rc) (pc := 61) (σf := fun j => (gAdv rc cc t x.toNatClampNeg y.toNatClampNeg τ j).1) (lvf := fun j => [(0, .ref (G.1 14 0 0)), (1, .int x), (2, .int y), (3, .int (gAdv rc cc t x.toNatClampNeg y.toNatClampNeg τ j).2.1), (4, .int (gAdv rc cc t x.toNatClampNeg y.toNatClampNeg τ j).2.2), (5, .int (nI j))]) 0 (Nat.zero_le _) ?_ ?_
        · refine fmV_iload (pc := 61) (i := 5) F dX6_advise_61 rfl ?_
          refine fmV_aload_n (pc := 63) (i := 0) F dX6_advise_63 rfl rfl ?_
          refine fmg_14_rows (pc := 64) F  hin_X6 dX6_advise_64 (List.mem_of_getElem? (i := 3) rfl) ?_
          refine fmV_icmp_ge (pc := 67) (tgt := 153) F dX6_advise_67 (by decide) (fun b1 => ?_) (fun b1 => ?_)
          · refine fmV_iload_n (pc := 153) (i := 3) F dX6_advise_153 rfl rfl ?_
            refine fmV_xr ?_
            exact fmV_iret (pc := 154) F dX6_advise_154 rfl (Or.inr ⟨(fm_q1 a1), (Or.inr ⟨(fm_q1 a2), (Or.inr ⟨(fun k => k a3), ⟨rfl, rfl⟩⟩)⟩)⟩)
          · rw [k62] at b1
            exact absurd (nI_le (Nat.le_refl rc) (by omega)) b1
        · intro j hj ih
          have hj4 : j < 4 := by omega
          refine fmV_iload (pc := 61) (i := 5) F dX6_advise_61 rfl ?_
          refine fmV_aload_n (pc := 63) (i := 0) F dX6_advise_63 rfl rfl ?_
          refine fmg_14_rows (pc := 64) F  hin_X6 dX6_advise_64 (List.mem_of_getElem? (i := 3) rfl) ?_
          refine fmV_icmp_ge (pc := 67) (tgt := 153) F dX6_advise_67 (by decide) (fun b1 => ?_) (fun b1 => ?_)
          · rw [k62] at b1
            exact absurd b1 (nI_ge hj (by omega))
          · refine fmV_aload_n (pc := 70) (i := 0) F dX6_advise_70 rfl rfl ?_
            refine fmg_14_s (pc := 71) F  hin_X6 dX6_advise_71 (List.mem_of_getElem? (i := 2) rfl) ?_
            refine fmV_iload (pc := 74) (i := 5) F dX6_advise_74 rfl ?_
            refine fmV_xVi (n := 1) (pc := 76) F hX (c_X5_isFull l D A G (gAdv rc cc t x.toNatClampNeg y.toNatClampNeg τ j).1 o hb0 hcc (k63 j) hj4) gX6_advise_X5_isFull rfl rfl rfl (by decide +kernel) ⟨Nat.le_of_ble_eq_true rfl, Nat.le_of_ble_eq_true rfl⟩ (fmR_23 F (by assumption)) rfl rfl (Nat.le_of_ble_eq_true rfl) dX6_advise_76 ⟨Nat.le_of_ble_eq_true rfl, Nat.le_of_ble_eq_true rfl⟩ (fun _ _ h9 => False.elim h9) (fun r8 u7 hc9 => ?_)
            obtain ⟨hr9, hu9⟩ := hc9
            have hr9 := hr9.symm
            have hu9 := hu9.symm
            subst hr9
            subst hu9
            refine fmV_if_eq (pc := 79) (tgt := 85) F dX6_advise_79 (by decide) (fun b2 => ?_) (fun b2 => ?_)
            · refine fmV_aload_n (pc := 85) (i := 0) F dX6_advise_85 rfl rfl ?_
              refine fmg_14_ahead (pc := 86) F  hin_X6 dX6_advise_86 (List.mem_of_getElem? (i := 4) rfl) ?_
              refine fmV_aload_n (pc := 89) (i := 0) F dX6_advise_89 rfl rfl ?_
              refine fmg_14_s (pc := 90) F  hin_X6 dX6_advise_90 (List.mem_of_getElem? (i := 2) rfl) ?_
              refine fmV_xVv (n := 1) (pc := 93) F hX (c_X5_become l D A G (gAdv rc cc t x.toNatClampNeg y.toNatClampNeg τ j).1 o hb1 hb0) gX6_advise_X5_become rfl rfl rfl (by decide +kernel) ⟨Nat.le_of_ble_eq_true rfl, Nat.le_of_ble_eq_true rfl⟩ (fmR_23 F (by assumption)) rfl rfl (Nat.le_of_ble_eq_true rfl) dX6_advise_93 ⟨Nat.le_of_ble_eq_true rfl, Nat.le_of_ble_eq_true rfl⟩ (fun _ _ h9 => False.elim h9) (fun u10 hc12 => ?_)
              have hc12 := hc12.symm
              subst hc12
              refine fmV_aload_n (pc := 96) (i := 0) F dX6_advise_96 rfl rfl ?_
              refine fmg_14_ahead (pc := 97) F  hin_X6 dX6_advise_97 (List.mem_of_getElem? (i := 4) rfl) ?_
              refine fmV_iload_n (pc := 100) (i := 1) F dX6_advise_100 rfl rfl ?_
              refine fmV_iload (pc := 101) (i := 5) F dX6_advise_101 rfl ?_
              have c63 : (gBc (gAdv rc cc t x.toNatClampNeg y.toNatClampNeg τ j).1 1 0) 63 0 0 0 = nI cc := by rw [gBc_m (by decide)]; exact k63 j
              have q103 := c_X5_moor l D A G (gBc (gAdv rc cc t x.toNatClampNeg y.toNatClampNeg τ j).1 1 0) o hb1 hcc c63 hx14 hj4
              rw [← hx2] at q103
              refine fmV_xVv (n := 2) (pc := 103) F hX q103 gX6_advise_X5_moor rfl rfl rfl (by decide +kernel) ⟨Nat.le_of_ble_eq_true rfl, Nat.le_of_ble_eq_true rfl⟩ (fmR_23 F (by assumption)) rfl rfl (Nat.le_of_ble_eq_true rfl) dX6_advise_103 ⟨Nat.le_of_ble_eq_true rfl, Nat.le_of_ble_eq_true rfl⟩ (fun _ _ h9 => False.elim h9) (fun u13 hc15 => ?_)
              have hc15 := hc15.symm
              subst hc15
              refine fmV_aload_n (pc := 106) (i := 0) F dX6_advise_106 rfl rfl ?_
              refine fmV_aload_n (pc := 107) (i := 0) F dX6_advise_107 rfl rfl ?_
              refine fmg_14_ahead (pc := 108) F  hin_X6 dX6_advise_108 (List.mem_of_getElem? (i := 4) rfl) ?_
              refine fmV_iload_n (pc := 111) (i := 2) F dX6_advise_111 rfl rfl ?_
              have m63 : (gMoor (gBc (gAdv rc cc t x.toNatClampNeg y.toNatClampNeg τ j).1 1 0) 1 x.toNatClampNeg j cc) 63 0 0 0 = nI cc := by rw [gMoor_c (by decide)]; exact c63
              have m62 : (gMoor (gBc (gAdv rc cc t x.toNatClampNeg y.toNatClampNeg τ j).1 1 0) 1 x.toNatClampNeg j cc) 62 0 0 0 = nI rc := by rw [gMoor_c (by decide), gBc_m (by decide)]; exact k62 j
              have m64 : (gMoor (gBc (gAdv rc cc t x.toNatClampNeg y.toNatClampNeg τ j).1 1 0) 1 x.toNatClampNeg j cc) 64 1 0 0 = nI t := by rw [gMoor_c (by decide), gBc_64]; exact k64 j
              have q112 := c_X6_pass l D A G (gMoor (gBc (gAdv rc cc t x.toNatClampNeg y.toNatClampNeg τ j).1 1 0) 1 x.toNatClampNeg j cc) o hb1 hcc m63 hrc m62 (t := t) (n := y.toNatClampNeg) (by omega) m64
              rw [← hy2] at q112
              refine fmV_xVi (n := 2) (pc := 112) F hX q112 gX6_advise_X6_pass rfl rfl rfl (by decide +kernel) ⟨Nat.le_of_ble_eq_true rfl, Nat.le_of_ble_eq_true rfl⟩ (fmR_14 F ) rfl rfl (Nat.le_of_ble_eq_true rfl) dX6_advise_112 ⟨Nat.le_of_ble_eq_true rfl, Nat.le_of_ble_eq_true rfl⟩ (fun _ _ h9 => False.elim h9) (fun r17 u16 hc18 => ?_)
              obtain ⟨hr9, hu9⟩ := hc18
              have hr9 := hr9.symm
              have hu9 := hu9.symm
              subst hr9
              subst hu9
              refine fmV_sg (σ1 := (gTryM rc cc t x.toNatClampNeg j y.toNatClampNeg (gAdv rc cc t x.toNatClampNeg y.toNatClampNeg τ j).1)) rfl ?_
              refine fmV_pop (pc := 115) F dX6_advise_115 rfl ?_
              refine fmV_aload_n (pc := 116) (i := 0) F dX6_advise_116 rfl rfl ?_
              refine fmg_14_ahead (pc := 117) F  hin_X6 dX6_advise_117 (List.mem_of_getElem? (i := 4) rfl) ?_
              refine fmgN_23_coins (pc := 120) F hX (by assumption) hin_X5 dX6_advise_120 (List.mem_of_getElem? (i := 9) rfl) ?_
              refine fmV_iload_n (pc := 123) (i := 1) F dX6_advise_123 rfl rfl ?_
              refine fmal_24 (pc := 124) F (by assumption) dX6_advise_124 (fm_in hx2 (show x.toNatClampNeg < _ by omega) (by decide)) rfl ?_
              refine fmV_iload (pc := 125) (i := 4) F dX6_advise_125 rfl ?_
              refine fmV_icmp_gt (pc := 127) (tgt := 133) F dX6_advise_127 (by decide) (fun b3 => ?_) (fun b3 => ?_)
              · refine fmV_iload (pc := 133) (i := 5) F dX6_advise_133 rfl ?_
                refine fmV_istore_n (pc := 135) (i := 3) F dX6_advise_135 rfl (by decide) ?_
                refine fmV_aload_n (pc := 136) (i := 0) F dX6_advise_136 rfl rfl ?_
                refine fmg_14_ahead (pc := 137) F  hin_X6 dX6_advise_137 (List.mem_of_getElem? (i := 4) rfl) ?_
                refine fmgN_23_coins (pc := 140) F hX (by assumption) hin_X5 dX6_advise_140 (List.mem_of_getElem? (i := 9) rfl) ?_
                refine fmV_iload_n (pc := 143) (i := 1) F dX6_advise_143 rfl rfl ?_
                refine fmal_24 (pc := 144) F (by assumption) dX6_advise_144 (fm_in hx2 (show x.toNatClampNeg < _ by omega) (by decide)) rfl ?_
                refine fmV_istore (pc := 145) (i := 4) F dX6_advise_145 (by decide) ?_
                refine fmV_iinc (pc := 147) (i := 5) F dX6_advise_147 rfl rfl (by decide) ?_
                refine fmV_goto (pc := 150) (tgt := 61) F dX6_advise_150 (by decide) ?_
                have hA : gAdv rc cc t x.toNatClampNeg y.toNatClampNeg τ (j + 1) = _ := gAdv.eq_2 _ _ _ _ _ _ _
                rw [if_neg (fm_p0 b2), if_pos b3] at hA
                refine fmV_sg (σ1 := (gAdv rc cc t x.toNatClampNeg y.toNatClampNeg τ (j + 1)).1) (by rw [hA]) ?_
                refine fmV_lv ?_ ih
                exact ⟨rfl, rfl, rfl, by rw [hA]; rfl, by rw [hA]; rfl, by rw [nI_succ j]; rfl, trivial⟩
              · refine fmV_goto (pc := 130) (tgt := 147) F dX6_advise_130 (by decide) ?_
                refine fmV_iinc (pc := 147) (i := 5) F dX6_advise_147 rfl rfl (by decide) ?_
                refine fmV_goto (pc := 150) (tgt := 61) F dX6_advise_150 (by decide) ?_
                have hA : gAdv rc cc t x.toNatClampNeg y.toNatClampNeg τ (j + 1) = _ := gAdv.eq_2 _ _ _ _ _ _ _
                rw [if_neg (fm_p0 b2), if_neg b3] at hA
                refine fmV_sg (σ1 := (gAdv rc cc t x.toNatClampNeg y.toNatClampNeg τ (j + 1)).1) (by rw [hA]) ?_
                refine fmV_lv ?_ ih
                exact ⟨rfl, rfl, rfl, by rw [hA]; rfl, by rw [hA]; rfl, by rw [nI_succ j]; rfl, trivial⟩
            · refine fmV_goto (pc := 82) (tgt := 147) F dX6_advise_82 (by decide) ?_
              refine fmV_iinc (pc := 147) (i := 5) F dX6_advise_147 rfl rfl (by decide) ?_
              refine fmV_goto (pc := 150) (tgt := 61) F dX6_advise_150 (by decide) ?_
              have hA : gAdv rc cc t x.toNatClampNeg y.toNatClampNeg τ (j + 1) = _ := gAdv.eq_2 _ _ _ _ _ _ _
              rw [if_pos (fm_p1 b2)] at hA
              refine fmV_sg (σ1 := (gAdv rc cc t x.toNatClampNeg y.toNatClampNeg τ (j + 1)).1) (by rw [hA]) ?_
              refine fmV_lv ?_ ih
              exact ⟨rfl, rfl, rfl, by rw [hA]; rfl, by rw [hA]; rfl, by rw [nI_succ j]; rfl, trivial⟩
      · refine fmV_aload_n (pc := 47) (i := 0) F dX6_advise_47 rfl rfl ?_
        refine fmV_iconst (pc := 48) (v := 3) F dX6_advise_48 rfl ?_
        refine fmV_xVi (n := 1) (pc := 49) F hX (c_X6_no l D A G τ o 3) gX6_advise_X6_no rfl rfl rfl (by decide +kernel) ⟨Nat.le_of_ble_eq_true rfl, Nat.le_of_ble_eq_true rfl⟩ (fmR_14 F ) rfl rfl (Nat.le_of_ble_eq_true rfl) dX6_advise_49 ⟨Nat.le_of_ble_eq_true rfl, Nat.le_of_ble_eq_true rfl⟩ (fun _ _ h9 => False.elim h9) (fun r20 u19 hc21 => ?_)
        obtain ⟨hr9, hu9⟩ := hc21
        have hr9 := hr9.symm
        have hu9 := hu9.symm
        subst hr9
        subst hu9
        refine fmV_xr ?_
        exact fmV_iret (pc := 52) F dX6_advise_52 rfl (Or.inr ⟨(fm_q1 a1), (Or.inr ⟨(fm_q1 a2), (Or.inl ⟨a3, rfl, rfl⟩)⟩)⟩)
    · refine fmV_aload_n (pc := 29) (i := 0) F dX6_advise_29 rfl rfl ?_
      refine fmV_iconst (pc := 30) (v := 2) F dX6_advise_30 rfl ?_
      refine fmV_xVi (n := 1) (pc := 31) F hX (c_X6_no l D A G τ o 2) gX6_advise_X6_no rfl rfl rfl (by decide +kernel) ⟨Nat.le_of_ble_eq_true rfl, Nat.le_of_ble_eq_true rfl⟩ (fmR_14 F ) rfl rfl (Nat.le_of_ble_eq_true rfl) dX6_advise_31 ⟨Nat.le_of_ble_eq_true rfl, Nat.le_of_ble_eq_true rfl⟩ (fun _ _ h9 => False.elim h9) (fun r23 u22 hc24 => ?_)
      obtain ⟨hr9, hu9⟩ := hc24
      have hr9 := hr9.symm
      have hu9 := hu9.symm
      subst hr9
      subst hu9
      refine fmV_xr ?_
      exact fmV_iret (pc := 34) F dX6_advise_34 rfl (Or.inr ⟨(fm_q1 a1), (Or.inl ⟨fm_q0 a2, rfl, rfl⟩)⟩)
  · refine fmV_aload_n (pc := 13) (i := 0) F dX6_advise_13 rfl rfl ?_
    refine fmV_iconst (pc := 14) (v := 1) F dX6_advise_14 rfl ?_
    refine fmV_xVi (n := 1) (pc := 15) F hX (c_X6_no l D A G τ o 1) gX6_advise_X6_no rfl rfl rfl (by decide +kernel) ⟨Nat.le_of_ble_eq_true rfl, Nat.le_of_ble_eq_true rfl⟩ (fmR_14 F ) rfl rfl (Nat.le_of_ble_eq_true rfl) dX6_advise_15 ⟨Nat.le_of_ble_eq_true rfl, Nat.le_of_ble_eq_true rfl⟩ (fun _ _ h9 => False.elim h9) (fun r26 u25 hc27 => ?_)
    obtain ⟨hr9, hu9⟩ := hc27
    have hr9 := hr9.symm
    have hu9 := hu9.symm
    subst hr9
    subst hu9
    refine fmV_xr ?_
    exact fmV_iret (pc := 18) F dX6_advise_18 rfl (Or.inl ⟨fm_q0 a1, rfl, rfl⟩)

set_option maxHeartbeats 4000000 in
set_option maxRecDepth 100000 in
theorem c_X6_price (l : Launch) (D : va_G) (A : Nat → Prop) (G : fmG) (σ : fmS) (o : Nat → Int64) {rc cc t : Nat} (hcc : cc ≤ 14) (h63 : σ 63 0 0 0 = nI cc) (hrc : rc ≤ 4) (h62 : σ 62 0 0 0 = nI rc) (ht : t + 200 < 2 ^ 30) (h64 : σ 64 0 0 0 = nI t) (x y z : Int32) : fmXi l D A G yX6_price wsX6_price (fmRm 6 0 0) 0 0 [.ref (G.1 14 0 0), .int x, .int y, .int z] σ o (fun r u => gRes (gz σ) (r = (gPri rc cc t x.toNatClampNeg (4 * x.toNatClampNeg + y.toNatClampNeg) z.toNatClampNeg (gz σ) 20).2.1 ∧ u = fmu (gPri rc cc t x.toNatClampNeg (4 * x.toNatClampNeg + y.toNatClampNeg) z.toNatClampNeg (gz σ) 20).1 19 0 0 (upd ((gPri rc cc t x.toNatClampNeg (4 * x.toNatClampNeg + y.toNatClampNeg) z.toNatClampNeg (gz σ) 20).1 19 0 0) (4 * x.toNatClampNeg + y.toNatClampNeg) ((gz σ) 19 0 0 (4 * x.toNatClampNeg + y.toNatClampNeg)))) r u [(1, (x < 0 ∨ nI cc ≤ x) ∨ (y < 0 ∨ 3 < y)), (2, z < 1 ∨ 40 < z)]) (fun _ _ => False) := by
  refine fmXi_of (cc := cX6_price) (maxL := 10) (ret := (some .int)) (by decide +kernel) rfl (Nat.le_of_ble_eq_true rfl) ?_
  intro P_ E_ S_ M_ args_ below_ meth_ C_ F hX hnt
  have hin_X6 : ∀ w ∈ wsX60, w ∈ wsX6_price := (fun _ h => List.mem_cons_of_mem _ (List.mem_append_left _ (List.mem_append_right _ h)))
  have hin_X5 : ∀ w ∈ wsX50, w ∈ wsX6_price := (fun _ h => List.mem_cons_of_mem _ (List.mem_append_right _ h))
  have hb0 : (0 : Nat) < 2 := by decide
  have hb1 : (1 : Nat) < 2 := by decide
  refine fmV_aload_n (pc := 0) (i := 0) F dX6_price_0 rfl rfl ?_
  refine fmV_iconst (pc := 1) (v := 0) F dX6_price_1 rfl ?_
  refine fmp_14_thrown (pc := 2) F  hin_X6 dX6_price_2 (List.mem_of_getElem? (i := 1) rfl) ?_
  have g63 : gz σ 63 0 0 0 = nI cc := by rw [gz_c (by decide)]; exact h63
  have g62 : gz σ 62 0 0 0 = nI rc := by rw [gz_c (by decide)]; exact h62
  have g64 : gz σ 64 0 0 0 = nI t := by rw [gz_c (by decide)]; exact h64
  refine fmV_sg (σ1 := gz σ) rfl ?_
  generalize gz σ = τ at g62 g63 g64 ⊢
  refine fmV_aload_n (pc := 5) (i := 0) F dX6_price_5 rfl rfl ?_
  refine fmV_iload_n (pc := 6) (i := 1) F dX6_price_6 rfl rfl ?_
  refine fmV_xVi (n := 1) (pc := 7) F hX (c_X6_isCanoe l D A G τ o hcc g63 x) gX6_price_X6_isCanoe rfl rfl rfl (by decide +kernel) ⟨Nat.le_of_ble_eq_true rfl, Nat.le_of_ble_eq_true rfl⟩ (fmR_14 F ) rfl rfl (Nat.le_of_ble_eq_true rfl) dX6_price_7 ⟨Nat.le_of_ble_eq_true rfl, Nat.le_of_ble_eq_true rfl⟩ (fun _ _ h9 => False.elim h9) (fun r2 u1 hc3 => ?_)
  obtain ⟨hr9, hu9⟩ := hc3
  have hr9 := hr9.symm
  have hu9 := hu9.symm
  subst hr9
  subst hu9
  refine fmV_if_eq (pc := 10) (tgt := 20) F dX6_price_10 (by decide) (fun a1 => ?_) (fun a1 => ?_)
  · refine fmV_aload_n (pc := 20) (i := 0) F dX6_price_20 rfl rfl ?_
    refine fmV_iconst (pc := 21) (v := 1) F dX6_price_21 rfl ?_
    refine fmV_xVi (n := 1) (pc := 22) F hX (c_X6_no l D A G τ o 1) gX6_price_X6_no rfl rfl rfl (by decide +kernel) ⟨Nat.le_of_ble_eq_true rfl, Nat.le_of_ble_eq_true rfl⟩ (fmR_14 F ) rfl rfl (Nat.le_of_ble_eq_true rfl) dX6_price_22 ⟨Nat.le_of_ble_eq_true rfl, Nat.le_of_ble_eq_true rfl⟩ (fun _ _ h9 => False.elim h9) (fun r5 u4 hc6 => ?_)
    obtain ⟨hr9, hu9⟩ := hc6
    have hr9 := hr9.symm
    have hu9 := hu9.symm
    subst hr9
    subst hu9
    refine fmV_xr ?_
    exact fmV_iret (pc := 25) F dX6_price_25 rfl (Or.inl ⟨Or.inl (fm_q0 a1), rfl, rfl⟩)
  · refine fmV_iload_n (pc := 13) (i := 2) F dX6_price_13 rfl rfl ?_
    refine fmV_xSi (n := 1) (pc := 14) F hX (c_X6_isGood l D A G τ o y) gX6_price_X6_isGood rfl rfl rfl (by decide +kernel) ⟨Nat.le_of_ble_eq_true rfl, Nat.le_of_ble_eq_true rfl⟩ rfl rfl (Nat.le_of_ble_eq_true rfl) dX6_price_14 ⟨Nat.le_of_ble_eq_true rfl, Nat.le_of_ble_eq_true rfl⟩ (fun _ _ h9 => False.elim h9) (fun r8 u7 hc9 => ?_)
    obtain ⟨hr9, hu9⟩ := hc9
    have hr9 := hr9.symm
    have hu9 := hu9.symm
    subst hr9
    subst hu9
    refine fmV_if_ne (pc := 17) (tgt := 26) F dX6_price_17 (by decide) (fun a2 => ?_) (fun a2 => ?_)
    · refine fmV_iload_n (pc := 26) (i := 3) F dX6_price_26 rfl rfl ?_
      refine fmV_iconst (pc := 27) (v := 1) F dX6_price_27 rfl ?_
      refine fmV_bipush (pc := 28) (v := 40) F dX6_price_28 (by decide) ?_
      refine fmV_xSi (n := 3) (pc := 30) F hX (c_X6_isIn l D A G τ o z 1 40) gX6_price_X6_isIn rfl rfl rfl (by decide +kernel) ⟨Nat.le_of_ble_eq_true rfl, Nat.le_of_ble_eq_true rfl⟩ rfl rfl (Nat.le_of_ble_eq_true rfl) dX6_price_30 ⟨Nat.le_of_ble_eq_true rfl, Nat.le_of_ble_eq_true rfl⟩ (fun _ _ h9 => False.elim h9) (fun r11 u10 hc12 => ?_)
      obtain ⟨hr9, hu9⟩ := hc12
      have hr9 := hr9.symm
      have hu9 := hu9.symm
      subst hr9
      subst hu9
      refine fmV_if_ne (pc := 33) (tgt := 42) F dX6_price_33 (by decide) (fun a3 => ?_) (fun a3 => ?_)
      · obtain ⟨hx1, hx2⟩ := fm_ixc (x := x) (n := cc) (fm_q1 a1) (by omega)
        have hx14 : x.toNatClampNeg < 14 := by omega
        obtain ⟨hy0, hy1, hy2⟩ := fm_rgc (x := y) (lo := 0) (hi := 3) (fm_q1 a2) (by decide) (by decide)
        obtain ⟨hz0, hz1, hz2⟩ := fm_rgc (x := z) (lo := 1) (hi := 40) (fm_q1 a3) (by decide) (by decide)
        have e4 : (4 : Int32) * x + y = nI (4 * x.toNatClampNeg + y.toNatClampNeg) := by have q := fm_e4 x.toNatClampNeg y.toNatClampNeg; rw [← hx2, ← hy2] at q; exact q
        have k62 : ∀ j, (gPri rc cc t x.toNatClampNeg (4 * x.toNatClampNeg + y.toNatClampNeg) z.toNatClampNeg τ j).1 62 0 0 0 = nI rc := fun j => by rw [gPri_c τ (by decide) 0 j]; exact g62
        have k63 : ∀ j, (gPri rc cc t x.toNatClampNeg (4 * x.toNatClampNeg + y.toNatClampNeg) z.toNatClampNeg τ j).1 63 0 0 0 = nI cc := fun j => by rw [gPri_c τ (by decide) 0 j]; exact g63
        have k64 : ∀ j, (gPri rc cc t x.toNatClampNeg (4 * x.toNatClampNeg + y.toNatClampNeg) z.toNatClampNeg τ j).1 64 0 0 0 = nI t := fun j => by rw [gPri_c τ (by decide) 0 j]; exact g64
        refine fmV_iconst (pc := 42) (v := 4) F dX6_price_42 rfl ?_
        refine fmV_iload_n (pc := 43) (i := 1) F dX6_price_43 rfl rfl ?_
        refine fmV_imul (pc := 44) F dX6_price_44 ?_
        refine fmV_iload_n (pc := 45) (i := 2) F dX6_price_45 rfl rfl ?_
        refine fmV_iadd (pc := 46) F dX6_price_46 ?_
        rw [e4]
        refine fmV_istore (pc := 47) (i := 4) F dX6_price_47 (by decide) ?_
        refine fmV_aload_n (pc := 49) (i := 0) F dX6_price_49 rfl rfl ?_
        refine fmg_14_price (pc := 50) F  hin_X6 dX6_price_50 (List.mem_of_getElem? (i := 2) rfl) ?_
        refine fmV_iload (pc := 53) (i := 4) F dX6_price_53 rfl ?_
        refine fmal_19 (pc := 55) F  dX6_price_55 (vp_in_nI (by omega) (by decide)) (fm_cn (by omega)) ?_
        refine fmV_istore (pc := 56) (i := 5) F dX6_price_56 (by decide) ?_
        refine fmV_iconst (pc := 58) (v := (-1)) F dX6_price_58 rfl ?_
        refine fmV_istore (pc := 59) (i := 6) F dX6_price_59 (by decide) ?_
        refine fmV_iconst (pc := 61) (v := (-1)) F dX6_price_61 rfl ?_
        refine fmV_istore (pc := 62) (i := 7) F dX6_price_62 (by decide) ?_
        refine fmV_iconst (pc := 64) (v := 1) F dX6_price_64 rfl ?_
        refine fmV_istore (pc := 65) (i := 8) F dX6_price_65 (by decide) ?_
        refine fmV_lv (lv' := [(0, .ref (G.1 14 0 0)), (1, .int x), (2, .int y), (3, .int z), (4, .int (nI (4 * x.toNatClampNeg + y.toNatClampNeg))), (5, .int (τ 19 0 0 (4 * x.toNatClampNeg + y.toNatClampNeg))), (6, .int (gPri rc cc t x.toNatClampNeg (4 * x.toNatClampNeg + y.toNatClampNeg) z.toNatClampNeg τ 0).2.1), (7, .int (gPri rc cc t x.toNatClampNeg (4 * x.toNatClampNeg + y.toNatClampNeg) z.toNatClampNeg τ 0).2.2), (8, .int (nI (0 + 1)))]) ⟨rfl, rfl, rfl, rfl, rfl, rfl, rfl, rfl, rfl, trivial⟩ ?_
        refine fmV_up (N := 20) (pc := 67) (σf := fun j => (gPri rc cc t x.toNatClampNeg (4 * x.toNatClampNeg + y.toNatClampNeg) z.toNatClampNeg τ j).1) (lvf := fun j => [(0, .ref (G.1 14 0 0)), (1, .int x), (2, .int y), (3, .int z), (4, .int (nI (4 * x.toNatClampNeg + y.toNatClampNeg))), (5, .int (τ 19 0 0 (4 * x.toNatClampNeg + y.toNatClampNeg))), (6, .int (gPri rc cc t x.toNatClampNeg (4 * x.toNatClampNeg + y.toNatClampNeg) z.toNatClampNeg τ j).2.1), (7, .int (gPri rc cc t x.toNatClampNeg (4 * x.toNatClampNeg + y.toNatClampNeg) z.toNatClampNeg τ j).2.2), (8, .int (nI (j + 1)))]) 0 (Nat.zero_le _) ?_ ?_
        · refine fmV_iload (pc := 67) (i := 8) F dX6_price_67 rfl ?_
          refine fmV_bipush (pc := 69) (v := 20) F dX6_price_69 (by decide) ?_
          refine fmV_icmp_gt (pc := 71) (tgt := 149) F dX6_price_71 (by decide) (fun b1 => ?_) (fun b1 => ?_)
          · refine fmV_aload_n (pc := 149) (i := 0) F dX6_price_149 rfl rfl ?_
            refine fmg_14_price (pc := 150) F  hin_X6 dX6_price_150 (List.mem_of_getElem? (i := 2) rfl) ?_
            refine fmV_iload (pc := 153) (i := 4) F dX6_price_153 rfl ?_
            refine fmV_iload (pc := 155) (i := 5) F dX6_price_155 rfl ?_
            refine fmas_19 (pc := 157) F  dX6_price_157 (vp_in_nI (by omega) (by decide)) (fm_cn (by omega)) ?_
            refine fmV_iload (pc := 158) (i := 6) F dX6_price_158 rfl ?_
            refine fmV_xr ?_
            exact fmV_iret (pc := 160) F dX6_price_160 rfl (Or.inr ⟨(fun q => q.elim (fm_q1 a1) (fm_q1 a2)), (Or.inr ⟨(fm_q1 a3), ⟨rfl, rfl⟩⟩)⟩)
          · exact absurd (by decide) b1
        · intro j hj ih
          refine fmV_iload (pc := 67) (i := 8) F dX6_price_67 rfl ?_
          refine fmV_bipush (pc := 69) (v := 20) F dX6_price_69 (by decide) ?_
          refine fmV_icmp_gt (pc := 71) (tgt := 149) F dX6_price_71 (by decide) (fun b1 => ?_) (fun b1 => ?_)
          · exact absurd b1 (by rw [Int32.not_lt]; exact nI_le (b := 20) (by omega) (by decide))
          · refine fmV_aload_n (pc := 74) (i := 0) F dX6_price_74 rfl rfl ?_
            refine fmg_14_price (pc := 75) F  hin_X6 dX6_price_75 (List.mem_of_getElem? (i := 2) rfl) ?_
            refine fmV_iload (pc := 78) (i := 4) F dX6_price_78 rfl ?_
            refine fmV_iload (pc := 80) (i := 8) F dX6_price_80 rfl ?_
            refine fmas_19 (pc := 82) F  dX6_price_82 (vp_in_nI (by omega) (by decide)) (fm_cn (by omega)) ?_
            refine fmV_aload_n (pc := 83) (i := 0) F dX6_price_83 rfl rfl ?_
            refine fmg_14_ahead (pc := 84) F  hin_X6 dX6_price_84 (List.mem_of_getElem? (i := 3) rfl) ?_
            refine fmV_aload_n (pc := 87) (i := 0) F dX6_price_87 rfl rfl ?_
            refine fmg_14_s (pc := 88) F  hin_X6 dX6_price_88 (List.mem_of_getElem? (i := 4) rfl) ?_
            refine fmV_xVv (n := 1) (pc := 91) F hX (c_X5_become l D A G (fmu (gPri rc cc t x.toNatClampNeg (4 * x.toNatClampNeg + y.toNatClampNeg) z.toNatClampNeg τ j).1 19 0 0 (upd ((gPri rc cc t x.toNatClampNeg (4 * x.toNatClampNeg + y.toNatClampNeg) z.toNatClampNeg τ j).1 19 0 0) (4 * x.toNatClampNeg + y.toNatClampNeg) (nI (j + 1)))) o hb1 hb0) gX6_price_X5_become rfl rfl rfl (by decide +kernel) ⟨Nat.le_of_ble_eq_true rfl, Nat.le_of_ble_eq_true rfl⟩ (fmR_23 F (by assumption)) rfl rfl (Nat.le_of_ble_eq_true rfl) dX6_price_91 ⟨Nat.le_of_ble_eq_true rfl, Nat.le_of_ble_eq_true rfl⟩ (fun _ _ h9 => False.elim h9) (fun u13 hc15 => ?_)
            have hc15 := hc15.symm
            subst hc15
            refine fmV_aload_n (pc := 94) (i := 0) F dX6_price_94 rfl rfl ?_
            refine fmV_aload_n (pc := 95) (i := 0) F dX6_price_95 rfl rfl ?_
            refine fmg_14_ahead (pc := 96) F  hin_X6 dX6_price_96 (List.mem_of_getElem? (i := 3) rfl) ?_
            refine fmV_iload_n (pc := 99) (i := 3) F dX6_price_99 rfl rfl ?_
            have m63 : (gBc (fmu (gPri rc cc t x.toNatClampNeg (4 * x.toNatClampNeg + y.toNatClampNeg) z.toNatClampNeg τ j).1 19 0 0 (upd ((gPri rc cc t x.toNatClampNeg (4 * x.toNatClampNeg + y.toNatClampNeg) z.toNatClampNeg τ j).1 19 0 0) (4 * x.toNatClampNeg + y.toNatClampNeg) (nI (j + 1)))) 1 0) 63 0 0 0 = nI cc := by rw [gBc_m (by decide), fmu_c _ _ _ _ _ (by decide)]; exact k63 j
            have m62 : (gBc (fmu (gPri rc cc t x.toNatClampNeg (4 * x.toNatClampNeg + y.toNatClampNeg) z.toNatClampNeg τ j).1 19 0 0 (upd ((gPri rc cc t x.toNatClampNeg (4 * x.toNatClampNeg + y.toNatClampNeg) z.toNatClampNeg τ j).1 19 0 0) (4 * x.toNatClampNeg + y.toNatClampNeg) (nI (j + 1)))) 1 0) 62 0 0 0 = nI rc := by rw [gBc_m (by decide), fmu_c _ _ _ _ _ (by decide)]; exact k62 j
            have m64 : (gBc (fmu (gPri rc cc t x.toNatClampNeg (4 * x.toNatClampNeg + y.toNatClampNeg) z.toNatClampNeg τ j).1 19 0 0 (upd ((gPri rc cc t x.toNatClampNeg (4 * x.toNatClampNeg + y.toNatClampNeg) z.toNatClampNeg τ j).1 19 0 0) (4 * x.toNatClampNeg + y.toNatClampNeg) (nI (j + 1)))) 1 0) 64 1 0 0 = nI t := by rw [gBc_64, fmu_c _ _ _ _ _ (by decide)]; exact k64 j
            have q100 := c_X6_pass l D A G (gBc (fmu (gPri rc cc t x.toNatClampNeg (4 * x.toNatClampNeg + y.toNatClampNeg) z.toNatClampNeg τ j).1 19 0 0 (upd ((gPri rc cc t x.toNatClampNeg (4 * x.toNatClampNeg + y.toNatClampNeg) z.toNatClampNeg τ j).1 19 0 0) (4 * x.toNatClampNeg + y.toNatClampNeg) (nI (j + 1)))) 1 0) o hb1 hcc m63 hrc m62 (t := t) (n := z.toNatClampNeg) (by omega) m64
            rw [← hz2] at q100
            refine fmV_xVi (n := 2) (pc := 100) F hX q100 gX6_price_X6_pass rfl rfl rfl (by decide +kernel) ⟨Nat.le_of_ble_eq_true rfl, Nat.le_of_ble_eq_true rfl⟩ (fmR_14 F ) rfl rfl (Nat.le_of_ble_eq_true rfl) dX6_price_100 ⟨Nat.le_of_ble_eq_true rfl, Nat.le_of_ble_eq_true rfl⟩ (fun _ _ h9 => False.elim h9) (fun r17 u16 hc18 => ?_)
            obtain ⟨hr9, hu9⟩ := hc18
            have hr9 := hr9.symm
            have hu9 := hu9.symm
            subst hr9
            subst hu9
            refine fmV_sg (σ1 := (gTryA rc cc t (4 * x.toNatClampNeg + y.toNatClampNeg) z.toNatClampNeg (nI (j + 1)) (gPri rc cc t x.toNatClampNeg (4 * x.toNatClampNeg + y.toNatClampNeg) z.toNatClampNeg τ j).1)) rfl ?_
            refine fmV_pop (pc := 103) F dX6_price_103 rfl ?_
            refine fmV_aload_n (pc := 104) (i := 0) F dX6_price_104 rfl rfl ?_
            refine fmg_14_ahead (pc := 105) F  hin_X6 dX6_price_105 (List.mem_of_getElem? (i := 3) rfl) ?_
            refine fmgN_23_sold (pc := 108) F hX (by assumption) hin_X5 dX6_price_108 (List.mem_of_getElem? (i := 17) rfl) ?_
            refine fmV_iload_n (pc := 111) (i := 1) F dX6_price_111 rfl rfl ?_
            refine fmal_32 (pc := 112) F (by assumption) dX6_price_112 (fm_in hx2 (show x.toNatClampNeg < _ by omega) (by decide)) rfl ?_
            refine fmV_aload_n (pc := 113) (i := 0) F dX6_price_113 rfl rfl ?_
            refine fmg_14_s (pc := 114) F  hin_X6 dX6_price_114 (List.mem_of_getElem? (i := 4) rfl) ?_
            refine fmgN_23_sold (pc := 117) F hX (by assumption) hin_X5 dX6_price_117 (List.mem_of_getElem? (i := 17) rfl) ?_
            refine fmV_iload_n (pc := 120) (i := 1) F dX6_price_120 rfl rfl ?_
            refine fmal_32 (pc := 121) F (by assumption) dX6_price_121 (fm_in hx2 (show x.toNatClampNeg < _ by omega) (by decide)) rfl ?_
            refine fmV_isub (pc := 122) F dX6_price_122 ?_
            refine fmV_istore (pc := 123) (i := 9) F dX6_price_123 (by decide) ?_
            refine fmV_iload (pc := 125) (i := 9) F dX6_price_125 rfl ?_
            refine fmV_iload (pc := 127) (i := 7) F dX6_price_127 rfl ?_
            refine fmV_icmp_gt (pc := 129) (tgt := 135) F dX6_price_129 (by decide) (fun b3 => ?_) (fun b3 => ?_)
            · refine fmV_iload (pc := 135) (i := 8) F dX6_price_135 rfl ?_
              refine fmV_istore (pc := 137) (i := 6) F dX6_price_137 (by decide) ?_
              refine fmV_iload (pc := 139) (i := 9) F dX6_price_139 rfl ?_
              refine fmV_istore (pc := 141) (i := 7) F dX6_price_141 (by decide) ?_
              refine fmV_iinc (pc := 143) (i := 8) F dX6_price_143 rfl rfl (by decide) ?_
              refine fmV_goto (pc := 146) (tgt := 67) F dX6_price_146 (by decide) ?_
              have hA : gPri rc cc t x.toNatClampNeg (4 * x.toNatClampNeg + y.toNatClampNeg) z.toNatClampNeg τ (j + 1) = _ := gPri.eq_2 _ _ _ _ _ _ _ _
              unfold gOwn at hA
              rw [if_pos b3] at hA
              refine fmV_sg (σ1 := (gPri rc cc t x.toNatClampNeg (4 * x.toNatClampNeg + y.toNatClampNeg) z.toNatClampNeg τ (j + 1)).1) (by rw [hA]) ?_
              refine fmV_lv ?_ ih
              exact ⟨rfl, rfl, rfl, rfl, rfl, rfl, by rw [hA]; rfl, by rw [hA]; rfl, by rw [nI_succ (j + 1)]; rfl, trivial⟩
            · refine fmV_goto (pc := 132) (tgt := 143) F dX6_price_132 (by decide) ?_
              refine fmV_iinc (pc := 143) (i := 8) F dX6_price_143 rfl rfl (by decide) ?_
              refine fmV_goto (pc := 146) (tgt := 67) F dX6_price_146 (by decide) ?_
              have hA : gPri rc cc t x.toNatClampNeg (4 * x.toNatClampNeg + y.toNatClampNeg) z.toNatClampNeg τ (j + 1) = _ := gPri.eq_2 _ _ _ _ _ _ _ _
              unfold gOwn at hA
              rw [if_neg b3] at hA
              refine fmV_sg (σ1 := (gPri rc cc t x.toNatClampNeg (4 * x.toNatClampNeg + y.toNatClampNeg) z.toNatClampNeg τ (j + 1)).1) (by rw [hA]) ?_
              refine fmV_lv ?_ ih
              exact ⟨rfl, rfl, rfl, rfl, rfl, rfl, by rw [hA]; rfl, by rw [hA]; rfl, by rw [nI_succ (j + 1)]; rfl, trivial⟩
      · refine fmV_aload_n (pc := 36) (i := 0) F dX6_price_36 rfl rfl ?_
        refine fmV_iconst (pc := 37) (v := 2) F dX6_price_37 rfl ?_
        refine fmV_xVi (n := 1) (pc := 38) F hX (c_X6_no l D A G τ o 2) gX6_price_X6_no rfl rfl rfl (by decide +kernel) ⟨Nat.le_of_ble_eq_true rfl, Nat.le_of_ble_eq_true rfl⟩ (fmR_14 F ) rfl rfl (Nat.le_of_ble_eq_true rfl) dX6_price_38 ⟨Nat.le_of_ble_eq_true rfl, Nat.le_of_ble_eq_true rfl⟩ (fun _ _ h9 => False.elim h9) (fun r20 u19 hc21 => ?_)
        obtain ⟨hr9, hu9⟩ := hc21
        have hr9 := hr9.symm
        have hu9 := hu9.symm
        subst hr9
        subst hu9
        refine fmV_xr ?_
        exact fmV_iret (pc := 41) F dX6_price_41 rfl (Or.inr ⟨(fun q => q.elim (fm_q1 a1) (fm_q1 a2)), (Or.inl ⟨fm_q0 a3, rfl, rfl⟩)⟩)
    · refine fmV_aload_n (pc := 20) (i := 0) F dX6_price_20 rfl rfl ?_
      refine fmV_iconst (pc := 21) (v := 1) F dX6_price_21 rfl ?_
      refine fmV_xVi (n := 1) (pc := 22) F hX (c_X6_no l D A G τ o 1) gX6_price_X6_no rfl rfl rfl (by decide +kernel) ⟨Nat.le_of_ble_eq_true rfl, Nat.le_of_ble_eq_true rfl⟩ (fmR_14 F ) rfl rfl (Nat.le_of_ble_eq_true rfl) dX6_price_22 ⟨Nat.le_of_ble_eq_true rfl, Nat.le_of_ble_eq_true rfl⟩ (fun _ _ h9 => False.elim h9) (fun r23 u22 hc24 => ?_)
      obtain ⟨hr9, hu9⟩ := hc24
      have hr9 := hr9.symm
      have hu9 := hu9.symm
      subst hr9
      subst hu9
      refine fmV_xr ?_
      exact fmV_iret (pc := 25) F dX6_price_25 rfl (Or.inl ⟨Or.inr (fm_q0 a2), rfl, rfl⟩)

set_option maxHeartbeats 4000000 in
set_option maxRecDepth 100000 in
theorem c_X6_mean (l : Launch) (D : va_G) (A : Nat → Prop) (G : fmG) (σ : fmS) (o : Nat → Int64) (hne : σ 65 0 0 0 ≠ 0 → vf_n64 (FP.ddiv (FP.i2d (σ 66 0 0 0)) (FP.i2d (σ 65 0 0 0)))) : fmXd l D A G yX6_mean wsX6_mean (fmRm 1 0 0) 0 0 [.ref (G.1 14 0 0)] σ o (fun d u => d = (if σ 65 0 0 0 = 0 then 0 else FP.ddiv (FP.i2d (σ 66 0 0 0)) (FP.i2d (σ 65 0 0 0))) ∧ u = gz σ) (fun _ _ => False) := by
  refine fmXd_of (cc := cX6_mean) (maxL := 1) (ret := (some .double)) (by decide +kernel) rfl (Nat.le_of_ble_eq_true rfl) ?_
  intro P_ E_ S_ M_ args_ below_ meth_ C_ F hX hnt
  have hin_X6 : ∀ w ∈ wsX60, w ∈ wsX6_mean := (fun _ h => List.mem_cons_of_mem _ (List.mem_append_left _ (List.mem_append_right _ h)))
  have hin_X5 : ∀ w ∈ wsX50, w ∈ wsX6_mean := (fun _ h => List.mem_cons_of_mem _ (List.mem_append_right _ h))
  have hb0 : (0 : Nat) < 2 := by decide
  refine fmV_aload_n (pc := 0) (i := 0) F dX6_mean_0 rfl rfl ?_
  refine fmV_iconst (pc := 1) (v := 0) F dX6_mean_1 rfl ?_
  refine fmp_14_thrown (pc := 2) F  hin_X6 dX6_mean_2 (List.mem_of_getElem? (i := 1) rfl) ?_
  refine fmV_aload_n (pc := 5) (i := 0) F dX6_mean_5 rfl rfl ?_
  refine fmg_14_s (pc := 6) F  hin_X6 dX6_mean_6 (List.mem_of_getElem? (i := 2) rfl) ?_
  refine fmgN_23_sum (pc := 9) F hX (by assumption) hin_X5 dX6_mean_9 (List.mem_of_getElem? (i := 7) rfl) ?_
  refine fmV_if_ne (pc := 12) (tgt := 19) F dX6_mean_12 (by decide) (fun b1 => ?_) (fun b1 => ?_)
  · refine fmV_aload_n (pc := 19) (i := 0) F dX6_mean_19 rfl rfl ?_
    refine fmg_14_s (pc := 20) F  hin_X6 dX6_mean_20 (List.mem_of_getElem? (i := 2) rfl) ?_
    refine fmgN_23_coinsPaid (pc := 23) F hX (by assumption) hin_X5 dX6_mean_23 (List.mem_of_getElem? (i := 8) rfl) ?_
    refine fmV_i2d (pc := 26) F dX6_mean_26 ?_
    refine fmV_aload_n (pc := 27) (i := 0) F dX6_mean_27 rfl rfl ?_
    refine fmg_14_s (pc := 28) F  hin_X6 dX6_mean_28 (List.mem_of_getElem? (i := 2) rfl) ?_
    refine fmgN_23_sum (pc := 31) F hX (by assumption) hin_X5 dX6_mean_31 (List.mem_of_getElem? (i := 7) rfl) ?_
    refine fmV_i2d (pc := 34) F dX6_mean_34 ?_
    refine fmV_ddiv (pc := 35) F dX6_mean_35 (hne b1) ?_
    refine fmV_xr ?_
    exact fmV_dret (pc := 36) F dX6_mean_36 rfl ⟨(if_neg b1).symm, rfl⟩
  · refine fmV_dconst0 (pc := 15) F dX6_mean_15 ?_
    refine fmV_goto (pc := 16) (tgt := 36) F dX6_mean_16 (by decide) ?_
    refine fmV_xr ?_
    exact fmV_dret (pc := 36) F dX6_mean_36 rfl ⟨(if_pos b1).symm, rfl⟩

set_option maxHeartbeats 4000000 in
set_option maxRecDepth 100000 in
theorem c_X4_mean (l : Launch) (D : va_G) (A : Nat → Prop) (G : fmG) (σ : fmS) (o : Nat → Int64) (hne : σ 43 0 0 0 ≠ 0 → vf_n64 (FP.ddiv (FP.i2d (σ 44 0 0 0)) (FP.i2d (σ 43 0 0 0)))) : fmMd l D A G yX4_mean wsX4_mean (fmRm 1 0 0) 0 0 [.ref (G.1 0 0 0)] σ o (fun d u => d = (if σ 43 0 0 0 = 0 then 0 else FP.ddiv (FP.i2d (σ 44 0 0 0)) (FP.i2d (σ 43 0 0 0))) ∧ u = σ) := by
  refine fmMd_of (cc := cX4_mean) (maxL := 1) (ret := (some .double)) (by decide +kernel) rfl (Nat.le_of_ble_eq_true rfl) ?_
  intro P_ E_ S_ M_ args_ below_ meth_ C_ F
  have hin_X4 : ∀ w ∈ wsX40, w ∈ wsX4_mean := (fun _ h => List.mem_cons_of_mem _ (List.mem_append_left _ (List.mem_append_right _ h)))
  have hin_X1 : ∀ w ∈ wsX10, w ∈ wsX4_mean := (fun _ h => List.mem_cons_of_mem _ (List.mem_append_right _ h))
  have ha0 : (0 : Nat) < 2 := by decide
  refine fmV_aload_n (pc := 0) (i := 0) F dX4_mean_0 rfl rfl ?_
  refine fmg_0_now (pc := 1) F  hin_X4 dX4_mean_1 (List.mem_of_getElem? (i := 1) rfl) ?_
  refine fmg_4_sold (pc := 4) F (by assumption) hin_X1 dX4_mean_4 (List.mem_of_getElem? (i := 2) rfl) ?_
  refine fmV_if_ne (pc := 7) (tgt := 12) F dX4_mean_7 (by decide) (fun b1 => ?_) (fun b1 => ?_)
  · refine fmV_aload_n (pc := 12) (i := 0) F dX4_mean_12 rfl rfl ?_
    refine fmg_0_now (pc := 13) F  hin_X4 dX4_mean_13 (List.mem_of_getElem? (i := 1) rfl) ?_
    refine fmg_4_paid (pc := 16) F (by assumption) hin_X1 dX4_mean_16 (List.mem_of_getElem? (i := 3) rfl) ?_
    refine fmV_i2d (pc := 19) F dX4_mean_19 ?_
    refine fmV_aload_n (pc := 20) (i := 0) F dX4_mean_20 rfl rfl ?_
    refine fmg_0_now (pc := 21) F  hin_X4 dX4_mean_21 (List.mem_of_getElem? (i := 1) rfl) ?_
    refine fmg_4_sold (pc := 24) F (by assumption) hin_X1 dX4_mean_24 (List.mem_of_getElem? (i := 2) rfl) ?_
    refine fmV_i2d (pc := 27) F dX4_mean_27 ?_
    refine fmV_ddiv (pc := 28) F dX4_mean_28 (hne b1) ?_
    exact fmV_dret (pc := 29) F dX4_mean_29 rfl ⟨(if_neg b1).symm, rfl⟩
  · refine fmV_dconst0 (pc := 10) F dX4_mean_10 ?_
    exact fmV_dret (pc := 11) F dX4_mean_11 rfl ⟨(if_pos b1).symm, rfl⟩
