set_option maxHeartbeats 4000000 in
set_option maxRecDepth 100000 in
theorem c_X5_drift (l : Launch) (D : va_G) (A : Nat → Prop) (G : fmG) (σ : fmS) (o : Nat → Int64) {b cc : Nat} (hb : b < 2) (hcc : cc ≤ 14) (h63 : σ 63 0 0 0 = nI cc) {rc : Nat} (hrc : rc ≤ 4) (h62 : σ 62 0 0 0 = nI rc) {t r : Nat} (ht : t < 2 ^ 31) (h64 : σ 64 b 0 0 = nI t) (hr : r < rc) : fmXv l D A G yX5_drift wsX5_drift (fmRm 3 0 0) 0 0 [.ref (G.1 23 b 0), .int (nI r), .ref (G.1 22 0 0)] σ o (fun u => u = gDrift σ b rc cc t r) (fun _ _ => False) := by
  refine fmXv_of (cc := cX5_drift) (maxL := 5) (ret := none) (by decide +kernel) rfl (Nat.le_of_ble_eq_true rfl) ?_
  intro P_ E_ S_ M_ args_ below_ meth_ C_ F hX hnt
  have hin_X5 : ∀ w ∈ wsX50, w ∈ wsX5_drift := (fun _ h => List.mem_cons_of_mem _ (List.mem_append_left _ (List.mem_append_right _ h)))
  have hin_X6 : ∀ w ∈ wsX60, w ∈ wsX5_drift := (fun _ h => List.mem_cons_of_mem _ (List.mem_append_right _ h))
  have e24 : (nI t - nI t / 24 * 24 : Int32) = nI (t % 24) := pk_rem (d := 24) (by omega) (by decide) (by decide)
  refine fmV_aload_n (pc := 0) (i := 0) F dX5_drift_0 rfl rfl ?_
  refine fmV_iload_n (pc := 1) (i := 1) F dX5_drift_1 rfl rfl ?_
  refine fmV_xVi (n := 1) (pc := 2) F hX (c_X5_in l D A G σ o hb hcc h63 (nI r)) gX5_drift_X5_in rfl rfl rfl (by decide +kernel) ⟨Nat.le_of_ble_eq_true rfl, Nat.le_of_ble_eq_true rfl⟩ (fmR_23 F (by assumption)) rfl rfl (Nat.le_of_ble_eq_true rfl) dX5_drift_2 ⟨Nat.le_of_ble_eq_true rfl, Nat.le_of_ble_eq_true rfl⟩ (fun _ _ h9 => False.elim h9) (fun r2 u1 hc3 => ?_)
  obtain ⟨hr9, hu9⟩ := hc3
  have hr9 := hr9.symm
  have hu9 := hu9.symm
  subst hr9
  subst hu9
  refine fmV_if_ne (pc := 5) (tgt := 12) F dX5_drift_5 (by decide) (fun h0 => ?_) (fun h0 => ?_)
  · refine fmV_aload_n (pc := 12) (i := 0) F dX5_drift_12 rfl rfl ?_
    refine fmV_iload_n (pc := 13) (i := 1) F dX5_drift_13 rfl rfl ?_
    refine fmV_aload_n (pc := 14) (i := 0) F dX5_drift_14 rfl rfl ?_
    refine fmV_iload_n (pc := 15) (i := 1) F dX5_drift_15 rfl rfl ?_
    refine fmV_xVi (n := 1) (pc := 16) F hX (c_X5_in l D A G σ o hb hcc h63 (nI r)) gX5_drift_X5_in rfl rfl rfl (by decide +kernel) ⟨Nat.le_of_ble_eq_true rfl, Nat.le_of_ble_eq_true rfl⟩ (fmR_23 F (by assumption)) rfl rfl (Nat.le_of_ble_eq_true rfl) dX5_drift_16 ⟨Nat.le_of_ble_eq_true rfl, Nat.le_of_ble_eq_true rfl⟩ (fun _ _ h9 => False.elim h9) (fun r5 u4 hc6 => ?_)
    obtain ⟨hr9, hu9⟩ := hc6
    have hr9 := hr9.symm
    have hu9 := hu9.symm
    subst hr9
    subst hu9
    refine fmV_iconst (pc := 19) (v := 1) F dX5_drift_19 rfl ?_
    refine fmV_isub (pc := 20) F dX5_drift_20 ?_
    refine fmV_xVi (n := 2) (pc := 21) F hX (c_X5_at l D A G σ o hb hcc h63 (nI r) (gIn σ b (nI r) cc - 1)) gX5_drift_X5_at rfl rfl rfl (by decide +kernel) ⟨Nat.le_of_ble_eq_true rfl, Nat.le_of_ble_eq_true rfl⟩ (fmR_23 F (by assumption)) rfl rfl (Nat.le_of_ble_eq_true rfl) dX5_drift_21 ⟨Nat.le_of_ble_eq_true rfl, Nat.le_of_ble_eq_true rfl⟩ (fun _ _ h9 => False.elim h9) (fun r8 u7 hc9 => ?_)
    obtain ⟨hr9, hu9⟩ := hc9
    have hr9 := hr9.symm
    have hu9 := hu9.symm
    subst hr9
    subst hu9
    refine fmV_istore_n (pc := 24) (i := 3) F dX5_drift_24 rfl (by decide) ?_
    refine fmV_iload_n (pc := 25) (i := 3) F dX5_drift_25 rfl rfl ?_
    refine fmV_iconst (pc := 26) (v := (-1)) F dX5_drift_26 rfl ?_
    refine fmV_icmp_eq (pc := 27) (tgt := 63) F dX5_drift_27 (by decide) (fun h3 => ?_) (fun h3 => ?_)
    · refine fmV_xr ?_
      exact fmV_vret (pc := 63) F dX5_drift_63 rfl (by rw [gDrift, if_pos (by rw [gDrC, if_neg h0]; exact h3)])
    · rcases gSe_or (gAtP σ b (nI r) (gIn σ b (nI r) cc - 1)) cc 0 with q9 | ⟨k, hk0, hkc, hkE, hkP, -⟩
      · exact absurd q9 h3
      have hkE : gAt σ b (nI r) (gIn σ b (nI r) cc - 1) cc = nI k := hkE
      rw [hkE]
      have hk14 : k < 14 := by omega
      have hC : gDrC σ b r cc = nI k := by rw [gDrC, if_neg h0]; exact hkE
      have hC1 : gDrC σ b r cc ≠ -1 := by rw [hC]; exact fm_nI_ne _ (by omega)
      have hCk : (gDrC σ b r cc).toNatClampNeg = k := by rw [hC]; exact fm_cn (by omega)
      refine fmV_aload_n (pc := 30) (i := 2) F dX5_drift_30 rfl rfl ?_
      refine fmV_iload_n (pc := 31) (i := 3) F dX5_drift_31 rfl rfl ?_
      refine fmV_zald (pc := 32) F dX5_drift_32 (vp_in_nI (by omega) (by decide)) (fm_cn (by omega)) ?_
      refine fmV_if_ne (pc := 33) (tgt := 63) F dX5_drift_33 (by decide) (fun h4 => ?_) (fun h4 => ?_)
      · refine fmV_xr ?_
        exact fmV_vret (pc := 63) F dX5_drift_63 rfl (by rw [gDrift, if_neg hC1, hCk, if_neg (fun q => h4 q.1)])
      · refine fmV_aload_n (pc := 36) (i := 0) F dX5_drift_36 rfl rfl ?_
        refine fmg_23_this0 (pc := 37) F (by assumption) hin_X5 dX5_drift_37 (List.mem_of_getElem? (i := 1) rfl) ?_
        refine fmgN_14_rope (pc := 40) F hX  hin_X6 dX5_drift_40 (List.mem_of_getElem? (i := 24) rfl) ?_
        refine fmV_iload_n (pc := 43) (i := 3) F dX5_drift_43 rfl rfl ?_
        refine fmal_18 (pc := 44) F  dX5_drift_44 (vp_in_nI (by omega) (by decide)) (fm_cn (by omega)) ?_
        refine fmV_aload_n (pc := 45) (i := 0) F dX5_drift_45 rfl rfl ?_
        refine fmg_23_this0 (pc := 46) F (by assumption) hin_X5 dX5_drift_46 (List.mem_of_getElem? (i := 1) rfl) ?_
        refine fmgN_14_wake (pc := 49) F hX  hin_X6 dX5_drift_49 (List.mem_of_getElem? (i := 22) rfl) ?_
        refine fmV_aload_n (pc := 52) (i := 0) F dX5_drift_52 rfl rfl ?_
        refine fmg_23_step (pc := 53) F (by assumption) hin_X5 dX5_drift_53 (List.mem_of_getElem? (i := 2) rfl) ?_
        refine fmV_bipush (pc := 56) (v := 24) F dX5_drift_56 (by decide) ?_
        refine fmV_irem (pc := 58) F dX5_drift_58 (by decide) ?_
        rw [h64, e24]
        refine fmal_17 (pc := 59) F  dX5_drift_59 (vp_in_nI (by omega) (by decide)) (fm_cn (by omega)) ?_
        refine fmV_icmp_lt (pc := 60) (tgt := 64) F dX5_drift_60 (by decide) (fun h5 => ?_) (fun h5 => ?_)
        · refine fmV_aload_n (pc := 64) (i := 2) F dX5_drift_64 rfl rfl ?_
          refine fmV_iload_n (pc := 65) (i := 3) F dX5_drift_65 rfl rfl ?_
          refine fmV_iconst (pc := 66) (v := 1) F dX5_drift_66 rfl ?_
          refine fmV_zast (pc := 67) F dX5_drift_67 (vp_in_nI (by omega) (by decide)) (fm_cn (by omega)) ?_
          refine fmV_aload_n (pc := 68) (i := 0) F dX5_drift_68 rfl rfl ?_
          refine fmg_23_drifted (pc := 69) F (by assumption) hin_X5 dX5_drift_69 (List.mem_of_getElem? (i := 3) rfl) ?_
          refine fmV_iload_n (pc := 72) (i := 3) F dX5_drift_72 rfl rfl ?_
          refine fmV_dup2 (pc := 73) F dX5_drift_73 rfl rfl ?_
          refine fmal_31 (pc := 74) F (by assumption) dX5_drift_74 (vp_in_nI (by omega) (by decide)) (fm_cn (by omega)) ?_
          refine fmV_iconst (pc := 75) (v := 1) F dX5_drift_75 rfl ?_
          refine fmV_iadd (pc := 76) F dX5_drift_76 ?_
          refine fmas_31 (pc := 77) F (by assumption) dX5_drift_77 (vp_in_nI (by omega) (by decide)) (fm_cn (by omega)) ?_
          refine fmV_aload_n (pc := 78) (i := 0) F dX5_drift_78 rfl rfl ?_
          refine fmg_23_is (pc := 79) F (by assumption) hin_X5 dX5_drift_79 (List.mem_of_getElem? (i := 4) rfl) ?_
          refine fmV_iload_n (pc := 82) (i := 3) F dX5_drift_82 rfl rfl ?_
          refine fmV_iconst (pc := 83) (v := 0) F dX5_drift_83 rfl ?_
          refine fmas_26 (pc := 84) F (by assumption) dX5_drift_84 (vp_in_nI (by omega) (by decide)) (fm_cn (by omega)) ?_
          refine fmV_sg (σ1 := (gDr1 σ b k)) (by rw [gDr1, fmu_c _ _ _ _ _ (by decide), fmu_c _ _ _ _ _ (by decide), fmu_c _ _ _ _ _ (by decide)]; first | done | rfl) ?_
          have e62 : (gDr1 σ b k) 62 0 0 0 = nI rc := by rw [gDr1_c (by decide)]; exact h62
          have e63 : (gDr1 σ b k) 63 0 0 0 = nI cc := by rw [gDr1_c (by decide)]; exact h63
          have e26 : (gDr1 σ b k) 26 b 0 k = 0 := by rw [gDr1, fmu_self, fm_upd_same]
          refine fmV_iconst (pc := 85) (v := 1) F dX5_drift_85 rfl ?_
          refine fmV_istore (pc := 86) (i := 4) F dX5_drift_86 (by decide) ?_
          refine fmV_lv (lv' := [(0, .ref (G.1 23 b 0)), (1, .int (nI r)), (2, .ref (G.1 22 0 0)), (3, .int (nI k)), (4, .int (nI 1))]) ⟨rfl, rfl, rfl, rfl, rfl, trivial⟩ ?_
          refine fmV_upH (N := rc) (pc := 88) (Hd := fun j => gNx (gDr1 σ b k) b rc cc r (rc - j) j = gNx (gDr1 σ b k) b rc cc r (rc - 1) 1) (σf := fun j => (gDr1 σ b k)) (lvf := fun j => [(0, .ref (G.1 23 b 0)), (1, .int (nI r)), (2, .ref (G.1 22 0 0)), (3, .int (nI k)), (4, .int (nI j))]) 1 (by omega) rfl (fun hH => ?_) ?_
          · refine fmV_iload (pc := 88) (i := 4) F dX5_drift_88 rfl ?_
            refine fmV_aload_n (pc := 90) (i := 0) F dX5_drift_90 rfl rfl ?_
            refine fmg_23_this0 (pc := 91) F (by assumption) hin_X5 dX5_drift_91 (List.mem_of_getElem? (i := 1) rfl) ?_
            refine fmgN_14_rows (pc := 94) F hX  hin_X6 dX5_drift_94 (List.mem_of_getElem? (i := 19) rfl) ?_
            refine fmV_icmp_ge (pc := 97) (tgt := 151) F dX5_drift_97 (by decide) (fun h6 => ?_) (fun h6 => ?_)
            · refine fmV_xr ?_
              exact fmV_vret (pc := 151) F dX5_drift_151 rfl (by rw [gDrift, if_neg hC1, hCk, if_pos ⟨h4, h5⟩, gDr2, if_pos (by rw [← hH, Nat.sub_self]; rfl)])
            · rw [e62] at h6
              exact absurd (nI_le (Nat.le_refl rc) (by omega)) h6
          · intro j hj hH ih
            have hrr : (r + j) % rc < 4 := Nat.lt_of_lt_of_le (Nat.mod_lt _ (by omega)) hrc
            refine fmV_iload (pc := 88) (i := 4) F dX5_drift_88 rfl ?_
            refine fmV_aload_n (pc := 90) (i := 0) F dX5_drift_90 rfl rfl ?_
            refine fmg_23_this0 (pc := 91) F (by assumption) hin_X5 dX5_drift_91 (List.mem_of_getElem? (i := 1) rfl) ?_
            refine fmgN_14_rows (pc := 94) F hX  hin_X6 dX5_drift_94 (List.mem_of_getElem? (i := 19) rfl) ?_
            refine fmV_icmp_ge (pc := 97) (tgt := 151) F dX5_drift_97 (by decide) (fun h6 => ?_) (fun h6 => ?_)
            · rw [e62] at h6
              exact absurd h6 (nI_ge hj (by omega))
            · refine fmV_aload_n (pc := 100) (i := 0) F dX5_drift_100 rfl rfl ?_
              refine fmg_23_is (pc := 101) F (by assumption) hin_X5 dX5_drift_101 (List.mem_of_getElem? (i := 4) rfl) ?_
              refine fmV_iload_n (pc := 104) (i := 3) F dX5_drift_104 rfl rfl ?_
              refine fmal_26 (pc := 105) F (by assumption) dX5_drift_105 (vp_in_nI (by omega) (by decide)) (fm_cn (by omega)) ?_
              refine fmV_if_ne (pc := 106) (tgt := 151) F dX5_drift_106 (by decide) (fun h7 => ?_) (fun h7 => ?_)
              · exact absurd e26 h7
              · refine fmV_aload_n (pc := 109) (i := 0) F dX5_drift_109 rfl rfl ?_
                refine fmV_iload_n (pc := 110) (i := 1) F dX5_drift_110 rfl rfl ?_
                refine fmV_iload (pc := 111) (i := 4) F dX5_drift_111 rfl ?_
                refine fmV_iadd (pc := 113) F dX5_drift_113 ?_
                refine fmV_aload_n (pc := 114) (i := 0) F dX5_drift_114 rfl rfl ?_
                refine fmg_23_this0 (pc := 115) F (by assumption) hin_X5 dX5_drift_115 (List.mem_of_getElem? (i := 1) rfl) ?_
                refine fmgN_14_rows (pc := 118) F hX  hin_X6 dX5_drift_118 (List.mem_of_getElem? (i := 19) rfl) ?_
                refine fmV_irem (pc := 121) F dX5_drift_121 (by rw [e62]; exact nI_ne0 (by omega) (by omega)) ?_
                rw [e62, nI_add, pk_rem (by omega) (by omega) (by omega)]
                refine fmV_xVi (n := 1) (pc := 122) F hX (c_X5_isFull l D A G (gDr1 σ b k) o hb hcc e63 hrr) gX5_drift_X5_isFull rfl rfl rfl (by decide +kernel) ⟨Nat.le_of_ble_eq_true rfl, Nat.le_of_ble_eq_true rfl⟩ (fmR_23 F (by assumption)) rfl rfl (Nat.le_of_ble_eq_true rfl) dX5_drift_122 ⟨Nat.le_of_ble_eq_true rfl, Nat.le_of_ble_eq_true rfl⟩ (fun _ _ h9 => False.elim h9) (fun r11 u10 hc12 => ?_)
                obtain ⟨hr9, hu9⟩ := hc12
                have hr9 := hr9.symm
                have hu9 := hu9.symm
                subst hr9
                subst hu9
                refine fmV_if_ne (pc := 125) (tgt := 145) F dX5_drift_125 (by decide) (fun h8 => ?_) (fun h8 => ?_)
                · refine fmV_iinc (pc := 145) (i := 4) F dX5_drift_145 rfl rfl (by decide) ?_
                  refine fmV_goto (pc := 148) (tgt := 88) F dX5_drift_148 (by decide) ?_
                  have hH2 : gNx (gDr1 σ b k) b rc cc r (rc - (j + 1)) (j + 1) = gNx (gDr1 σ b k) b rc cc r (rc - 1) 1 := by
                    rw [← hH, show rc - j = (rc - (j + 1)) + 1 by omega, gNx, if_pos (by rcases Decidable.em (gFull (gDr1 σ b k) b ((r + j) % rc) cc) with q | q; exact q; exact absurd (by rw [if_neg q]) h8)]
                  refine fmV_lv ?_ (ih hH2)
                  exact ⟨rfl, rfl, rfl, rfl, by rw [nI_succ j]; rfl, trivial⟩
                · refine fmV_aload_n (pc := 128) (i := 0) F dX5_drift_128 rfl rfl ?_
                  refine fmV_iload_n (pc := 129) (i := 3) F dX5_drift_129 rfl rfl ?_
                  refine fmV_iload_n (pc := 130) (i := 1) F dX5_drift_130 rfl rfl ?_
                  refine fmV_iload (pc := 131) (i := 4) F dX5_drift_131 rfl ?_
                  refine fmV_iadd (pc := 133) F dX5_drift_133 ?_
                  refine fmV_aload_n (pc := 134) (i := 0) F dX5_drift_134 rfl rfl ?_
                  refine fmg_23_this0 (pc := 135) F (by assumption) hin_X5 dX5_drift_135 (List.mem_of_getElem? (i := 1) rfl) ?_
                  refine fmgN_14_rows (pc := 138) F hX  hin_X6 dX5_drift_138 (List.mem_of_getElem? (i := 19) rfl) ?_
                  refine fmV_irem (pc := 141) F dX5_drift_141 (by rw [e62]; exact nI_ne0 (by omega) (by omega)) ?_
                  rw [e62, nI_add, pk_rem (by omega) (by omega) (by omega)]
                  refine fmV_xVv (n := 2) (pc := 142) F hX (c_X5_moor l D A G (gDr1 σ b k) o hb hcc e63 hk14 hrr) gX5_drift_X5_moor rfl rfl rfl (by decide +kernel) ⟨Nat.le_of_ble_eq_true rfl, Nat.le_of_ble_eq_true rfl⟩ (fmR_23 F (by assumption)) rfl rfl (Nat.le_of_ble_eq_true rfl) dX5_drift_142 ⟨Nat.le_of_ble_eq_true rfl, Nat.le_of_ble_eq_true rfl⟩ (fun _ _ h9 => False.elim h9) (fun u13 hc15 => ?_)
                  have hc15 := hc15.symm
                  subst hc15
                  refine fmV_iinc (pc := 145) (i := 4) F dX5_drift_145 rfl rfl (by decide) ?_
                  refine fmV_goto (pc := 148) (tgt := 88) F dX5_drift_148 (by decide) ?_
                  refine fmV_iload (pc := 88) (i := 4) F dX5_drift_88 rfl ?_
                  refine fmV_aload_n (pc := 90) (i := 0) F dX5_drift_90 rfl rfl ?_
                  refine fmg_23_this0 (pc := 91) F (by assumption) hin_X5 dX5_drift_91 (List.mem_of_getElem? (i := 1) rfl) ?_
                  refine fmgN_14_rows (pc := 94) F hX  hin_X6 dX5_drift_94 (List.mem_of_getElem? (i := 19) rfl) ?_
                  refine fmV_icmp_ge (pc := 97) (tgt := 151) F dX5_drift_97 (by decide) (fun h6 => ?_) (fun h6 => ?_)
                  · refine fmV_xr ?_
                    exact fmV_vret (pc := 151) F dX5_drift_151 rfl (by have hN : gNx (gDr1 σ b k) b rc cc r (rc - 1) 1 = nI ((r + j) % rc) := (by rw [← hH, show rc - j = (rc - (j + 1)) + 1 by omega, gNx, if_neg (fun q => absurd h8 (by rw [if_pos q]; decide))]); rw [gDrift, if_neg hC1, hCk, if_pos ⟨h4, h5⟩, gDr2, if_neg (by rw [hN]; exact fm_nI_ne _ (by omega)), hN, fm_cn (by omega)])
                  · refine fmV_aload_n (pc := 100) (i := 0) F dX5_drift_100 rfl rfl ?_
                    refine fmg_23_is (pc := 101) F (by assumption) hin_X5 dX5_drift_101 (List.mem_of_getElem? (i := 4) rfl) ?_
                    refine fmV_iload_n (pc := 104) (i := 3) F dX5_drift_104 rfl rfl ?_
                    refine fmal_26 (pc := 105) F (by assumption) dX5_drift_105 (vp_in_nI (by omega) (by decide)) (fm_cn (by omega)) ?_
                    refine fmV_if_ne (pc := 106) (tgt := 151) F dX5_drift_106 (by decide) (fun h7 => ?_) (fun h7 => ?_)
                    · refine fmV_xr ?_
                      exact fmV_vret (pc := 151) F dX5_drift_151 rfl (by have hN : gNx (gDr1 σ b k) b rc cc r (rc - 1) 1 = nI ((r + j) % rc) := (by rw [← hH, show rc - j = (rc - (j + 1)) + 1 by omega, gNx, if_neg (fun q => absurd h8 (by rw [if_pos q]; decide))]); rw [gDrift, if_neg hC1, hCk, if_pos ⟨h4, h5⟩, gDr2, if_neg (by rw [hN]; exact fm_nI_ne _ (by omega)), hN, fm_cn (by omega)])
                    · exact absurd h7 (by rw [gMoor, fmu_self, fm_upd_same]; decide)
        · refine fmV_xr ?_
          exact fmV_vret (pc := 63) F dX5_drift_63 rfl (by rw [gDrift, if_neg hC1, hCk, if_neg (fun q => h5 q.2)])
  · refine fmV_iconst (pc := 8) (v := (-1)) F dX5_drift_8 rfl ?_
    refine fmV_goto (pc := 9) (tgt := 24) F dX5_drift_9 (by decide) ?_
    refine fmV_istore_n (pc := 24) (i := 3) F dX5_drift_24 rfl (by decide) ?_
    refine fmV_iload_n (pc := 25) (i := 3) F dX5_drift_25 rfl rfl ?_
    refine fmV_iconst (pc := 26) (v := (-1)) F dX5_drift_26 rfl ?_
    refine fmV_icmp_eq (pc := 27) (tgt := 63) F dX5_drift_27 (by decide) (fun h3 => ?_) (fun h3 => ?_)
    · refine fmV_xr ?_
      exact fmV_vret (pc := 63) F dX5_drift_63 rfl (by rw [gDrift, if_pos (by rw [gDrC, if_pos h0])])
    · exact absurd rfl h3

set_option maxHeartbeats 4000000 in
set_option maxRecDepth 100000 in
theorem c_X5_trade (l : Launch) (D : va_G) (A : Nat → Prop) (G : fmG) (σ : fmS) (o : Nat → Int64) {b cc : Nat} (hb : b < 2) (hcc : cc ≤ 14) (h63 : σ 63 0 0 0 = nI cc) {c g : Nat} (hc : c < 14) (hg : g < 4) : fmXv l D A G yX5_trade wsX5_trade (fmRm 3 0 0) 0 0 [.ref (G.1 23 b 0), .int (nI c), .int (nI g)] σ o (fun u => u = gTrade σ b c g cc) (fun _ _ => False) := by
  refine fmXv_of (cc := cX5_trade) (maxL := 6) (ret := none) (by decide +kernel) rfl (Nat.le_of_ble_eq_true rfl) ?_
  intro P_ E_ S_ M_ args_ below_ meth_ C_ F hX hnt
  have hin_X5 : ∀ w ∈ wsX50, w ∈ wsX5_trade := (fun _ h => List.mem_cons_of_mem _ (List.mem_append_left _ (List.mem_append_right _ h)))
  have hin_X6 : ∀ w ∈ wsX60, w ∈ wsX5_trade := (fun _ h => List.mem_cons_of_mem _ (List.mem_append_right _ h))
  have e4 : ∀ i, (4 : Int32) * nI i + nI g = nI (4 * i + g) := fun i => by rw [← nI_add, ← pk_mul]; rfl
  refine fmV_aload_n (pc := 0) (i := 0) F dX5_trade_0 rfl rfl ?_
  refine fmV_iload_n (pc := 1) (i := 1) F dX5_trade_1 rfl rfl ?_
  refine fmV_iload_n (pc := 2) (i := 2) F dX5_trade_2 rfl rfl ?_
  refine fmV_xVi (n := 2) (pc := 3) F hX (c_X5_misses l D A G σ o hb hc hg) gX5_trade_X5_misses rfl rfl rfl (by decide +kernel) ⟨Nat.le_of_ble_eq_true rfl, Nat.le_of_ble_eq_true rfl⟩ (fmR_23 F (by assumption)) rfl rfl (Nat.le_of_ble_eq_true rfl) dX5_trade_3 ⟨Nat.le_of_ble_eq_true rfl, Nat.le_of_ble_eq_true rfl⟩ (fun _ _ h9 => False.elim h9) (fun r2 u1 hc3 => ?_)
  obtain ⟨hr9, hu9⟩ := hc3
  have hr9 := hr9.symm
  have hu9 := hu9.symm
  subst hr9
  subst hu9
  refine fmV_if_ne (pc := 6) (tgt := 10) F dX5_trade_6 (by decide) (fun h0 => ?_) (fun h0 => ?_)
  · refine fmV_iconst (pc := 10) (v := (-1)) F dX5_trade_10 rfl ?_
    refine fmV_istore_n (pc := 11) (i := 3) F dX5_trade_11 rfl (by decide) ?_
    refine fmV_iconst (pc := 12) (v := 0) F dX5_trade_12 rfl ?_
    refine fmV_istore (pc := 13) (i := 4) F dX5_trade_13 (by decide) ?_
    refine fmV_lv (lv' := [(0, .ref (G.1 23 b 0)), (1, .int (nI c)), (2, .int (nI g)), (3, .int (gBe σ b c g 0)), (4, .int (nI 0))]) ⟨rfl, rfl, rfl, rfl, rfl, trivial⟩ ?_
    refine fmV_up (N := cc) (pc := 15) (σf := fun j => σ) (lvf := fun j => [(0, .ref (G.1 23 b 0)), (1, .int (nI c)), (2, .int (nI g)), (3, .int (gBe σ b c g j)), (4, .int (nI j))]) 0 (Nat.zero_le _) ?_ ?_
    · refine fmV_iload (pc := 15) (i := 4) F dX5_trade_15 rfl ?_
      refine fmV_aload_n (pc := 17) (i := 0) F dX5_trade_17 rfl rfl ?_
      refine fmg_23_this0 (pc := 18) F (by assumption) hin_X5 dX5_trade_18 (List.mem_of_getElem? (i := 1) rfl) ?_
      refine fmgN_14_canoes (pc := 21) F hX  hin_X6 dX5_trade_21 (List.mem_of_getElem? (i := 23) rfl) ?_
      refine fmV_icmp_ge (pc := 24) (tgt := 166) F dX5_trade_24 (by decide) (fun h1 => ?_) (fun h1 => ?_)
      · refine fmV_iload_n (pc := 166) (i := 3) F dX5_trade_166 rfl rfl ?_
        refine fmV_iconst (pc := 167) (v := (-1)) F dX5_trade_167 rfl ?_
        refine fmV_icmp_ne (pc := 168) (tgt := 172) F dX5_trade_168 (by decide) (fun h9 => ?_) (fun h9 => ?_)
        · rcases gBe_or σ b c g cc with q9 | ⟨s9, hs9, hE9⟩
          · exact absurd q9 h9
          rw [hE9]
          have hE8 : (gBe σ b c g cc).toNatClampNeg = s9 := by rw [hE9]; exact fm_cn (by omega)
          refine fmV_aload_n (pc := 172) (i := 0) F dX5_trade_172 rfl rfl ?_
          refine fmg_23_this0 (pc := 173) F (by assumption) hin_X5 dX5_trade_173 (List.mem_of_getElem? (i := 1) rfl) ?_
          refine fmgN_14_price (pc := 176) F hX  hin_X6 dX5_trade_176 (List.mem_of_getElem? (i := 25) rfl) ?_
          refine fmV_iconst (pc := 179) (v := 4) F dX5_trade_179 rfl ?_
          refine fmV_iload_n (pc := 180) (i := 3) F dX5_trade_180 rfl rfl ?_
          refine fmV_imul (pc := 181) F dX5_trade_181 ?_
          refine fmV_iload_n (pc := 182) (i := 2) F dX5_trade_182 rfl rfl ?_
          refine fmV_iadd (pc := 183) F dX5_trade_183 ?_
          rw [e4]
          refine fmal_19 (pc := 184) F  dX5_trade_184 (vp_in_nI (by omega) (by decide)) (fm_cn (by omega)) ?_
          refine fmV_istore (pc := 185) (i := 4) F dX5_trade_185 (by decide) ?_
          refine fmV_aload_n (pc := 187) (i := 0) F dX5_trade_187 rfl rfl ?_
          refine fmg_23_coins (pc := 188) F (by assumption) hin_X5 dX5_trade_188 (List.mem_of_getElem? (i := 2) rfl) ?_
          refine fmV_iload_n (pc := 191) (i := 1) F dX5_trade_191 rfl rfl ?_
          refine fmV_dup2 (pc := 192) F dX5_trade_192 rfl rfl ?_
          refine fmal_24 (pc := 193) F (by assumption) dX5_trade_193 (vp_in_nI (by omega) (by decide)) (fm_cn (by omega)) ?_
          refine fmV_iload (pc := 194) (i := 4) F dX5_trade_194 rfl ?_
          refine fmV_isub (pc := 196) F dX5_trade_196 ?_
          refine fmas_24 (pc := 197) F (by assumption) dX5_trade_197 (vp_in_nI (by omega) (by decide)) (fm_cn (by omega)) ?_
          refine fmV_aload_n (pc := 198) (i := 0) F dX5_trade_198 rfl rfl ?_
          refine fmg_23_coins (pc := 199) F (by assumption) hin_X5 dX5_trade_199 (List.mem_of_getElem? (i := 2) rfl) ?_
          refine fmV_iload_n (pc := 202) (i := 3) F dX5_trade_202 rfl rfl ?_
          refine fmV_dup2 (pc := 203) F dX5_trade_203 rfl rfl ?_
          refine fmal_24 (pc := 204) F (by assumption) dX5_trade_204 (vp_in_nI (by omega) (by decide)) (fm_cn (by omega)) ?_
          refine fmV_iload (pc := 205) (i := 4) F dX5_trade_205 rfl ?_
          refine fmV_iadd (pc := 207) F dX5_trade_207 ?_
          refine fmas_24 (pc := 208) F (by assumption) dX5_trade_208 (vp_in_nI (by omega) (by decide)) (fm_cn (by omega)) ?_
          refine fmV_sg (σ1 := gTr1 σ b c s9 (σ 19 0 0 (4 * s9 + g))) (by rw [gTr1, fmu_self]) ?_
          refine fmV_aload_n (pc := 209) (i := 0) F dX5_trade_209 rfl rfl ?_
          refine fmg_23_has (pc := 210) F (by assumption) hin_X5 dX5_trade_210 (List.mem_of_getElem? (i := 3) rfl) ?_
          refine fmV_iconst (pc := 213) (v := 4) F dX5_trade_213 rfl ?_
          refine fmV_iload_n (pc := 214) (i := 1) F dX5_trade_214 rfl rfl ?_
          refine fmV_imul (pc := 215) F dX5_trade_215 ?_
          refine fmV_iload_n (pc := 216) (i := 2) F dX5_trade_216 rfl rfl ?_
          refine fmV_iadd (pc := 217) F dX5_trade_217 ?_
          rw [e4]
          refine fmV_dup2 (pc := 218) F dX5_trade_218 rfl rfl ?_
          refine fmal_25 (pc := 219) F (by assumption) dX5_trade_219 (vp_in_nI (by omega) (by decide)) (fm_cn (by omega)) ?_
          refine fmV_iconst (pc := 220) (v := 1) F dX5_trade_220 rfl ?_
          refine fmV_iadd (pc := 221) F dX5_trade_221 ?_
          refine fmas_25 (pc := 222) F (by assumption) dX5_trade_222 (vp_in_nI (by omega) (by decide)) (fm_cn (by omega)) ?_
          refine fmV_aload_n (pc := 223) (i := 0) F dX5_trade_223 rfl rfl ?_
          refine fmg_23_has (pc := 224) F (by assumption) hin_X5 dX5_trade_224 (List.mem_of_getElem? (i := 3) rfl) ?_
          refine fmV_iconst (pc := 227) (v := 4) F dX5_trade_227 rfl ?_
          refine fmV_iload_n (pc := 228) (i := 3) F dX5_trade_228 rfl rfl ?_
          refine fmV_imul (pc := 229) F dX5_trade_229 ?_
          refine fmV_iload_n (pc := 230) (i := 2) F dX5_trade_230 rfl rfl ?_
          refine fmV_iadd (pc := 231) F dX5_trade_231 ?_
          rw [e4]
          refine fmV_dup2 (pc := 232) F dX5_trade_232 rfl rfl ?_
          refine fmal_25 (pc := 233) F (by assumption) dX5_trade_233 (vp_in_nI (by omega) (by decide)) (fm_cn (by omega)) ?_
          refine fmV_iconst (pc := 234) (v := 1) F dX5_trade_234 rfl ?_
          refine fmV_isub (pc := 235) F dX5_trade_235 ?_
          refine fmas_25 (pc := 236) F (by assumption) dX5_trade_236 (vp_in_nI (by omega) (by decide)) (fm_cn (by omega)) ?_
          refine fmV_sg (σ1 := gTr2 (gTr1 σ b c s9 (σ 19 0 0 (4 * s9 + g))) b c s9 g) (by rw [gTr2, fmu_self]) ?_
          refine fmV_aload_n (pc := 237) (i := 0) F dX5_trade_237 rfl rfl ?_
          refine fmg_23_bought (pc := 238) F (by assumption) hin_X5 dX5_trade_238 (List.mem_of_getElem? (i := 4) rfl) ?_
          refine fmV_iload_n (pc := 241) (i := 1) F dX5_trade_241 rfl rfl ?_
          refine fmV_dup2 (pc := 242) F dX5_trade_242 rfl rfl ?_
          refine fmal_33 (pc := 243) F (by assumption) dX5_trade_243 (vp_in_nI (by omega) (by decide)) (fm_cn (by omega)) ?_
          refine fmV_iconst (pc := 244) (v := 1) F dX5_trade_244 rfl ?_
          refine fmV_iadd (pc := 245) F dX5_trade_245 ?_
          refine fmas_33 (pc := 246) F (by assumption) dX5_trade_246 (vp_in_nI (by omega) (by decide)) (fm_cn (by omega)) ?_
          refine fmV_aload_n (pc := 247) (i := 0) F dX5_trade_247 rfl rfl ?_
          refine fmg_23_sold (pc := 248) F (by assumption) hin_X5 dX5_trade_248 (List.mem_of_getElem? (i := 5) rfl) ?_
          refine fmV_iload_n (pc := 251) (i := 3) F dX5_trade_251 rfl rfl ?_
          refine fmV_dup2 (pc := 252) F dX5_trade_252 rfl rfl ?_
          refine fmal_32 (pc := 253) F (by assumption) dX5_trade_253 (vp_in_nI (by omega) (by decide)) (fm_cn (by omega)) ?_
          refine fmV_iconst (pc := 254) (v := 1) F dX5_trade_254 rfl ?_
          refine fmV_iadd (pc := 255) F dX5_trade_255 ?_
          refine fmas_32 (pc := 256) F (by assumption) dX5_trade_256 (vp_in_nI (by omega) (by decide)) (fm_cn (by omega)) ?_
          refine fmV_sg (σ1 := gTr3 (gTr2 (gTr1 σ b c s9 (σ 19 0 0 (4 * s9 + g))) b c s9 g) b c s9) (by rw [gTr3, fmu_c _ _ _ _ _ (by decide)]) ?_
          refine fmV_aload_n (pc := 257) (i := 0) F dX5_trade_257 rfl rfl ?_
          refine fmV_dup (pc := 258) F dX5_trade_258 rfl ?_
          refine fmg_23_sum (pc := 259) F (by assumption) hin_X5 dX5_trade_259 (List.mem_of_getElem? (i := 6) rfl) ?_
          refine fmV_iconst (pc := 262) (v := 1) F dX5_trade_262 rfl ?_
          refine fmV_iadd (pc := 263) F dX5_trade_263 ?_
          refine fmp_23_sum (pc := 264) F (by assumption) hin_X5 dX5_trade_264 (List.mem_of_getElem? (i := 6) rfl) ?_
          refine fmV_aload_n (pc := 267) (i := 0) F dX5_trade_267 rfl rfl ?_
          refine fmV_dup (pc := 268) F dX5_trade_268 rfl ?_
          refine fmg_23_coinsPaid (pc := 269) F (by assumption) hin_X5 dX5_trade_269 (List.mem_of_getElem? (i := 7) rfl) ?_
          refine fmV_iload (pc := 272) (i := 4) F dX5_trade_272 rfl ?_
          refine fmV_iadd (pc := 274) F dX5_trade_274 ?_
          refine fmp_23_coinsPaid (pc := 275) F (by assumption) hin_X5 dX5_trade_275 (List.mem_of_getElem? (i := 7) rfl) ?_
          refine fmV_xr ?_
          exact fmV_vret (pc := 278) F dX5_trade_278 rfl (by rw [gTrade, if_neg h0, if_neg h9, hE8, gTr, gTr4, fmu_c _ _ _ _ _ (by decide)])
        · refine fmV_xr ?_
          exact fmV_vret (pc := 171) F dX5_trade_171 rfl (by rw [gTrade, if_neg h0, if_pos h9])
      · rw [h63] at h1
        exact absurd (nI_le (Nat.le_refl cc) (by omega)) h1
    · intro j hj ih
      have hj14 : j < 14 := by omega
      refine fmV_iload (pc := 15) (i := 4) F dX5_trade_15 rfl ?_
      refine fmV_aload_n (pc := 17) (i := 0) F dX5_trade_17 rfl rfl ?_
      refine fmg_23_this0 (pc := 18) F (by assumption) hin_X5 dX5_trade_18 (List.mem_of_getElem? (i := 1) rfl) ?_
      refine fmgN_14_canoes (pc := 21) F hX  hin_X6 dX5_trade_21 (List.mem_of_getElem? (i := 23) rfl) ?_
      refine fmV_icmp_ge (pc := 24) (tgt := 166) F dX5_trade_24 (by decide) (fun h1 => ?_) (fun h1 => ?_)
      · rw [h63] at h1
        exact absurd h1 (nI_ge hj (by omega))
      · refine fmV_iconst (pc := 27) (v := 4) F dX5_trade_27 rfl ?_
        refine fmV_iload (pc := 28) (i := 4) F dX5_trade_28 rfl ?_
        refine fmV_imul (pc := 30) F dX5_trade_30 ?_
        refine fmV_iload_n (pc := 31) (i := 2) F dX5_trade_31 rfl rfl ?_
        refine fmV_iadd (pc := 32) F dX5_trade_32 ?_
        rw [e4]
        refine fmV_istore (pc := 33) (i := 5) F dX5_trade_33 (by decide) ?_
        refine fmV_aload_n (pc := 35) (i := 0) F dX5_trade_35 rfl rfl ?_
        refine fmV_iload_n (pc := 36) (i := 1) F dX5_trade_36 rfl rfl ?_
        refine fmV_iload (pc := 37) (i := 4) F dX5_trade_37 rfl ?_
        refine fmV_xVi (n := 2) (pc := 39) F hX (c_X5_beside l D A G σ o hb hc (y := j) (by omega)) gX5_trade_X5_beside rfl rfl rfl (by decide +kernel) ⟨Nat.le_of_ble_eq_true rfl, Nat.le_of_ble_eq_true rfl⟩ (fmR_23 F (by assumption)) rfl rfl (Nat.le_of_ble_eq_true rfl) dX5_trade_39 ⟨Nat.le_of_ble_eq_true rfl, Nat.le_of_ble_eq_true rfl⟩ (fun _ _ h9 => False.elim h9) (fun r5 u4 hc6 => ?_)
        obtain ⟨hr9, hu9⟩ := hc6
        have hr9 := hr9.symm
        have hu9 := hu9.symm
        subst hr9
        subst hu9
        refine fmV_if_eq (pc := 42) (tgt := 160) F dX5_trade_42 (by decide) (fun h2 => ?_) (fun h2 => ?_)
        · refine fmV_iinc (pc := 160) (i := 4) F dX5_trade_160 rfl rfl (by decide) ?_
          refine fmV_goto (pc := 163) (tgt := 15) F dX5_trade_163 (by decide) ?_
          refine fmV_lv ?_ ih
          refine ⟨rfl, rfl, rfl, ?_, by rw [nI_succ j]; rfl, trivial⟩
          first
            | exact congrArg (fun z => some (Value.int z)) hA.symm
            | exact congrArg (fun z => some (Value.int z)) (gBe_nb hE9 h7 h8 hm9 hj14).symm
            | exact congrArg (fun z => some (Value.int z)) (gBe_no (fun q => by first | exact h6 q.2.2.2.2 | exact q.2.2.2.1 h5 | exact q.2.2.1 h4 | exact q.2.1 h3 | exact absurd h2 (by rw [if_pos q.1]; decide))).symm
        · refine fmV_aload_n (pc := 45) (i := 0) F dX5_trade_45 rfl rfl ?_
          refine fmg_23_this0 (pc := 46) F (by assumption) hin_X5 dX5_trade_46 (List.mem_of_getElem? (i := 1) rfl) ?_
          refine fmgN_14_price (pc := 49) F hX  hin_X6 dX5_trade_49 (List.mem_of_getElem? (i := 25) rfl) ?_
          refine fmV_iload (pc := 52) (i := 5) F dX5_trade_52 rfl ?_
          refine fmal_19 (pc := 54) F  dX5_trade_54 (vp_in_nI (by omega) (by decide)) (fm_cn (by omega)) ?_
          refine fmV_if_eq (pc := 55) (tgt := 160) F dX5_trade_55 (by decide) (fun h3 => ?_) (fun h3 => ?_)
          · refine fmV_iinc (pc := 160) (i := 4) F dX5_trade_160 rfl rfl (by decide) ?_
            refine fmV_goto (pc := 163) (tgt := 15) F dX5_trade_163 (by decide) ?_
            refine fmV_lv ?_ ih
            refine ⟨rfl, rfl, rfl, ?_, by rw [nI_succ j]; rfl, trivial⟩
            first
              | exact congrArg (fun z => some (Value.int z)) hA.symm
              | exact congrArg (fun z => some (Value.int z)) (gBe_nb hE9 h7 h8 hm9 hj14).symm
              | exact congrArg (fun z => some (Value.int z)) (gBe_no (fun q => by first | exact h6 q.2.2.2.2 | exact q.2.2.2.1 h5 | exact q.2.2.1 h4 | exact q.2.1 h3 | exact absurd h2 (by rw [if_pos q.1]; decide))).symm
          · refine fmV_aload_n (pc := 58) (i := 0) F dX5_trade_58 rfl rfl ?_
            refine fmg_23_this0 (pc := 59) F (by assumption) hin_X5 dX5_trade_59 (List.mem_of_getElem? (i := 1) rfl) ?_
            refine fmgN_14_price (pc := 62) F hX  hin_X6 dX5_trade_62 (List.mem_of_getElem? (i := 25) rfl) ?_
            refine fmV_iload (pc := 65) (i := 5) F dX5_trade_65 rfl ?_
            refine fmal_19 (pc := 67) F  dX5_trade_67 (vp_in_nI (by omega) (by decide)) (fm_cn (by omega)) ?_
            refine fmV_aload_n (pc := 68) (i := 0) F dX5_trade_68 rfl rfl ?_
            refine fmg_23_this0 (pc := 69) F (by assumption) hin_X5 dX5_trade_69 (List.mem_of_getElem? (i := 1) rfl) ?_
            refine fmgN_14_pays (pc := 72) F hX  hin_X6 dX5_trade_72 (List.mem_of_getElem? (i := 27) rfl) ?_
            refine fmV_iconst (pc := 75) (v := 4) F dX5_trade_75 rfl ?_
            refine fmV_iload_n (pc := 76) (i := 1) F dX5_trade_76 rfl rfl ?_
            refine fmV_imul (pc := 77) F dX5_trade_77 ?_
            refine fmV_iload_n (pc := 78) (i := 2) F dX5_trade_78 rfl rfl ?_
            refine fmV_iadd (pc := 79) F dX5_trade_79 ?_
            rw [e4]
            refine fmal_21 (pc := 80) F  dX5_trade_80 (vp_in_nI (by omega) (by decide)) (fm_cn (by omega)) ?_
            refine fmV_icmp_gt (pc := 81) (tgt := 160) F dX5_trade_81 (by decide) (fun h4 => ?_) (fun h4 => ?_)
            · refine fmV_iinc (pc := 160) (i := 4) F dX5_trade_160 rfl rfl (by decide) ?_
              refine fmV_goto (pc := 163) (tgt := 15) F dX5_trade_163 (by decide) ?_
              refine fmV_lv ?_ ih
              refine ⟨rfl, rfl, rfl, ?_, by rw [nI_succ j]; rfl, trivial⟩
              first
                | exact congrArg (fun z => some (Value.int z)) hA.symm
                | exact congrArg (fun z => some (Value.int z)) (gBe_nb hE9 h7 h8 hm9 hj14).symm
                | exact congrArg (fun z => some (Value.int z)) (gBe_no (fun q => by first | exact h6 q.2.2.2.2 | exact q.2.2.2.1 h5 | exact q.2.2.1 h4 | exact q.2.1 h3 | exact absurd h2 (by rw [if_pos q.1]; decide))).symm
            · refine fmV_aload_n (pc := 84) (i := 0) F dX5_trade_84 rfl rfl ?_
              refine fmg_23_this0 (pc := 85) F (by assumption) hin_X5 dX5_trade_85 (List.mem_of_getElem? (i := 1) rfl) ?_
              refine fmgN_14_price (pc := 88) F hX  hin_X6 dX5_trade_88 (List.mem_of_getElem? (i := 25) rfl) ?_
              refine fmV_iload (pc := 91) (i := 5) F dX5_trade_91 rfl ?_
              refine fmal_19 (pc := 93) F  dX5_trade_93 (vp_in_nI (by omega) (by decide)) (fm_cn (by omega)) ?_
              refine fmV_aload_n (pc := 94) (i := 0) F dX5_trade_94 rfl rfl ?_
              refine fmg_23_coins (pc := 95) F (by assumption) hin_X5 dX5_trade_95 (List.mem_of_getElem? (i := 2) rfl) ?_
              refine fmV_iload_n (pc := 98) (i := 1) F dX5_trade_98 rfl rfl ?_
              refine fmal_24 (pc := 99) F (by assumption) dX5_trade_99 (vp_in_nI (by omega) (by decide)) (fm_cn (by omega)) ?_
              refine fmV_icmp_gt (pc := 100) (tgt := 160) F dX5_trade_100 (by decide) (fun h5 => ?_) (fun h5 => ?_)
              · refine fmV_iinc (pc := 160) (i := 4) F dX5_trade_160 rfl rfl (by decide) ?_
                refine fmV_goto (pc := 163) (tgt := 15) F dX5_trade_163 (by decide) ?_
                refine fmV_lv ?_ ih
                refine ⟨rfl, rfl, rfl, ?_, by rw [nI_succ j]; rfl, trivial⟩
                first
                  | exact congrArg (fun z => some (Value.int z)) hA.symm
                  | exact congrArg (fun z => some (Value.int z)) (gBe_nb hE9 h7 h8 hm9 hj14).symm
                  | exact congrArg (fun z => some (Value.int z)) (gBe_no (fun q => by first | exact h6 q.2.2.2.2 | exact q.2.2.2.1 h5 | exact q.2.2.1 h4 | exact q.2.1 h3 | exact absurd h2 (by rw [if_pos q.1]; decide))).symm
              · refine fmV_aload_n (pc := 103) (i := 0) F dX5_trade_103 rfl rfl ?_
                refine fmg_23_has (pc := 104) F (by assumption) hin_X5 dX5_trade_104 (List.mem_of_getElem? (i := 3) rfl) ?_
                refine fmV_iload (pc := 107) (i := 5) F dX5_trade_107 rfl ?_
                refine fmal_25 (pc := 109) F (by assumption) dX5_trade_109 (vp_in_nI (by omega) (by decide)) (fm_cn (by omega)) ?_
                refine fmV_aload_n (pc := 110) (i := 0) F dX5_trade_110 rfl rfl ?_
                refine fmg_23_this0 (pc := 111) F (by assumption) hin_X5 dX5_trade_111 (List.mem_of_getElem? (i := 1) rfl) ?_
                refine fmgN_14_wants (pc := 114) F hX  hin_X6 dX5_trade_114 (List.mem_of_getElem? (i := 26) rfl) ?_
                refine fmV_iload (pc := 117) (i := 5) F dX5_trade_117 rfl ?_
                refine fmal_20 (pc := 119) F  dX5_trade_119 (vp_in_nI (by omega) (by decide)) (fm_cn (by omega)) ?_
                refine fmV_icmp_gt (pc := 120) (tgt := 126) F dX5_trade_120 (by decide) (fun h6 => ?_) (fun h6 => ?_)
                · refine fmV_iload_n (pc := 126) (i := 3) F dX5_trade_126 rfl rfl ?_
                  refine fmV_iconst (pc := 127) (v := (-1)) F dX5_trade_127 rfl ?_
                  refine fmV_icmp_eq (pc := 128) (tgt := 157) F dX5_trade_128 (by decide) (fun h7 => ?_) (fun h7 => ?_)
                  · have hbt : gBe σ b c g j = -1 ∨ σ 19 0 0 (4 * j + g) < σ 19 0 0 (4 * (gBe σ b c g j).toNatClampNeg + g) := by first | exact Or.inl h7 | exact Or.inr (by rw [hE9, fm_cn (by omega)]; exact Int32.not_le.mp h8)
                    have hA : gBe σ b c g (j + 1) = nI j := gBe_yes ⟨(by rcases Decidable.em (gBes σ b c j) with q | q; exact q; exact absurd (by rw [if_neg q]) h2), h3, h4, h5, h6⟩ hbt
                    refine fmV_iload (pc := 157) (i := 4) F dX5_trade_157 rfl ?_
                    refine fmV_istore_n (pc := 159) (i := 3) F dX5_trade_159 rfl (by decide) ?_
                    refine fmV_iinc (pc := 160) (i := 4) F dX5_trade_160 rfl rfl (by decide) ?_
                    refine fmV_goto (pc := 163) (tgt := 15) F dX5_trade_163 (by decide) ?_
                    refine fmV_lv ?_ ih
                    refine ⟨rfl, rfl, rfl, ?_, by rw [nI_succ j]; rfl, trivial⟩
                    first
                      | exact congrArg (fun z => some (Value.int z)) hA.symm
                      | exact congrArg (fun z => some (Value.int z)) (gBe_nb hE9 h7 h8 hm9 hj14).symm
                      | exact congrArg (fun z => some (Value.int z)) (gBe_no (fun q => by first | exact h6 q.2.2.2.2 | exact q.2.2.2.1 h5 | exact q.2.2.1 h4 | exact q.2.1 h3 | exact absurd h2 (by rw [if_pos q.1]; decide))).symm
                  · rcases gBe_or σ b c g j with q9 | ⟨m9, hm9, hE9⟩
                    · exact absurd q9 h7
                    rw [hE9]
                    refine fmV_aload_n (pc := 131) (i := 0) F dX5_trade_131 rfl rfl ?_
                    refine fmg_23_this0 (pc := 132) F (by assumption) hin_X5 dX5_trade_132 (List.mem_of_getElem? (i := 1) rfl) ?_
                    refine fmgN_14_price (pc := 135) F hX  hin_X6 dX5_trade_135 (List.mem_of_getElem? (i := 25) rfl) ?_
                    refine fmV_iload (pc := 138) (i := 5) F dX5_trade_138 rfl ?_
                    refine fmal_19 (pc := 140) F  dX5_trade_140 (vp_in_nI (by omega) (by decide)) (fm_cn (by omega)) ?_
                    refine fmV_aload_n (pc := 141) (i := 0) F dX5_trade_141 rfl rfl ?_
                    refine fmg_23_this0 (pc := 142) F (by assumption) hin_X5 dX5_trade_142 (List.mem_of_getElem? (i := 1) rfl) ?_
                    refine fmgN_14_price (pc := 145) F hX  hin_X6 dX5_trade_145 (List.mem_of_getElem? (i := 25) rfl) ?_
                    refine fmV_iconst (pc := 148) (v := 4) F dX5_trade_148 rfl ?_
                    refine fmV_iload_n (pc := 149) (i := 3) F dX5_trade_149 rfl rfl ?_
                    refine fmV_imul (pc := 150) F dX5_trade_150 ?_
                    refine fmV_iload_n (pc := 151) (i := 2) F dX5_trade_151 rfl rfl ?_
                    refine fmV_iadd (pc := 152) F dX5_trade_152 ?_
                    rw [e4]
                    refine fmal_19 (pc := 153) F  dX5_trade_153 (vp_in_nI (by omega) (by decide)) (fm_cn (by omega)) ?_
                    refine fmV_icmp_ge (pc := 154) (tgt := 160) F dX5_trade_154 (by decide) (fun h8 => ?_) (fun h8 => ?_)
                    · refine fmV_iinc (pc := 160) (i := 4) F dX5_trade_160 rfl rfl (by decide) ?_
                      refine fmV_goto (pc := 163) (tgt := 15) F dX5_trade_163 (by decide) ?_
                      refine fmV_lv ?_ ih
                      refine ⟨rfl, rfl, rfl, ?_, by rw [nI_succ j]; rfl, trivial⟩
                      first
                        | exact congrArg (fun z => some (Value.int z)) hA.symm
                        | exact congrArg (fun z => some (Value.int z)) (gBe_nb hE9 h7 h8 hm9 hj14).symm
                        | exact congrArg (fun z => some (Value.int z)) (gBe_no (fun q => by first | exact h6 q.2.2.2.2 | exact q.2.2.2.1 h5 | exact q.2.2.1 h4 | exact q.2.1 h3 | exact absurd h2 (by rw [if_pos q.1]; decide))).symm
                    · have hbt : gBe σ b c g j = -1 ∨ σ 19 0 0 (4 * j + g) < σ 19 0 0 (4 * (gBe σ b c g j).toNatClampNeg + g) := by first | exact Or.inl h7 | exact Or.inr (by rw [hE9, fm_cn (by omega)]; exact Int32.not_le.mp h8)
                      have hA : gBe σ b c g (j + 1) = nI j := gBe_yes ⟨(by rcases Decidable.em (gBes σ b c j) with q | q; exact q; exact absurd (by rw [if_neg q]) h2), h3, h4, h5, h6⟩ hbt
                      refine fmV_iload (pc := 157) (i := 4) F dX5_trade_157 rfl ?_
                      refine fmV_istore_n (pc := 159) (i := 3) F dX5_trade_159 rfl (by decide) ?_
                      refine fmV_iinc (pc := 160) (i := 4) F dX5_trade_160 rfl rfl (by decide) ?_
                      refine fmV_goto (pc := 163) (tgt := 15) F dX5_trade_163 (by decide) ?_
                      refine fmV_lv ?_ ih
                      refine ⟨rfl, rfl, rfl, ?_, by rw [nI_succ j]; rfl, trivial⟩
                      first
                        | exact congrArg (fun z => some (Value.int z)) hA.symm
                        | exact congrArg (fun z => some (Value.int z)) (gBe_nb hE9 h7 h8 hm9 hj14).symm
                        | exact congrArg (fun z => some (Value.int z)) (gBe_no (fun q => by first | exact h6 q.2.2.2.2 | exact q.2.2.2.1 h5 | exact q.2.2.1 h4 | exact q.2.1 h3 | exact absurd h2 (by rw [if_pos q.1]; decide))).symm
                · refine fmV_goto (pc := 123) (tgt := 160) F dX5_trade_123 (by decide) ?_
                  refine fmV_iinc (pc := 160) (i := 4) F dX5_trade_160 rfl rfl (by decide) ?_
                  refine fmV_goto (pc := 163) (tgt := 15) F dX5_trade_163 (by decide) ?_
                  refine fmV_lv ?_ ih
                  refine ⟨rfl, rfl, rfl, ?_, by rw [nI_succ j]; rfl, trivial⟩
                  first
                    | exact congrArg (fun z => some (Value.int z)) hA.symm
                    | exact congrArg (fun z => some (Value.int z)) (gBe_nb hE9 h7 h8 hm9 hj14).symm
                    | exact congrArg (fun z => some (Value.int z)) (gBe_no (fun q => by first | exact h6 q.2.2.2.2 | exact q.2.2.2.1 h5 | exact q.2.2.1 h4 | exact q.2.1 h3 | exact absurd h2 (by rw [if_pos q.1]; decide))).symm
  · refine fmV_xr ?_
    exact fmV_vret (pc := 9) F dX5_trade_9 rfl (by rw [gTrade, if_pos h0])

set_option maxHeartbeats 4000000 in
set_option maxRecDepth 100000 in
theorem c_X5_become (l : Launch) (D : va_G) (A : Nat → Prop) (G : fmG) (σ : fmS) (o : Nat → Int64) {a b : Nat} (ha : a < 2) (hb : b < 2) : fmXv l D A G yX5_become wsX5_become (fmRm 2 0 0) 0 0 [.ref (G.1 23 a 0), .ref (G.1 23 b 0)] σ o (fun u => u = gBc σ a b) (fun _ _ => False) := by
  refine fmXv_of (cc := cX5_become) (maxL := 2) (ret := none) (by decide +kernel) rfl (Nat.le_of_ble_eq_true rfl) ?_
  intro P_ E_ S_ M_ args_ below_ meth_ C_ F hX hnt
  have hin_X5 : ∀ w ∈ wsX50, w ∈ wsX5_become := (fun _ h => List.mem_cons_of_mem _ (List.mem_append_right _ h))
  refine fmV_aload_n (pc := 0) (i := 0) F dX5_become_0 rfl rfl ?_
  refine fmV_aload_n (pc := 1) (i := 1) F dX5_become_1 rfl rfl ?_
  refine fmg_23_step (pc := 2) F hb hin_X5 dX5_become_2 (List.mem_of_getElem? (i := 1) rfl) ?_
  refine fmp_23_step (pc := 5) F ha hin_X5 dX5_become_5 (List.mem_of_getElem? (i := 1) rfl) ?_
  refine fmV_aload_n (pc := 8) (i := 0) F dX5_become_8 rfl rfl ?_
  refine fmV_aload_n (pc := 9) (i := 1) F dX5_become_9 rfl rfl ?_
  refine fmg_23_sum (pc := 10) F hb hin_X5 dX5_become_10 (List.mem_of_getElem? (i := 2) rfl) ?_
  refine fmp_23_sum (pc := 13) F ha hin_X5 dX5_become_13 (List.mem_of_getElem? (i := 2) rfl) ?_
  refine fmV_aload_n (pc := 16) (i := 0) F dX5_become_16 rfl rfl ?_
  refine fmV_aload_n (pc := 17) (i := 1) F dX5_become_17 rfl rfl ?_
  refine fmg_23_coinsPaid (pc := 18) F hb hin_X5 dX5_become_18 (List.mem_of_getElem? (i := 3) rfl) ?_
  refine fmp_23_coinsPaid (pc := 21) F ha hin_X5 dX5_become_21 (List.mem_of_getElem? (i := 3) rfl) ?_
  refine fmV_sg (σ1 := gBc1 σ a b) (by rw [gBc1, fmu_c _ _ _ _ _ (by decide), fmu_c _ _ _ _ _ (by decide), fmu_c _ _ _ _ _ (by decide)]) ?_
  refine fmV_aload_n (pc := 24) (i := 0) F dX5_become_24 rfl rfl ?_
  refine fmV_aload_n (pc := 25) (i := 1) F dX5_become_25 rfl rfl ?_
  refine fmg_23_coins (pc := 26) F hb hin_X5 dX5_become_26 (List.mem_of_getElem? (i := 4) rfl) ?_
  refine fmV_aload_n (pc := 29) (i := 0) F dX5_become_29 rfl rfl ?_
  refine fmg_23_coins (pc := 30) F ha hin_X5 dX5_become_30 (List.mem_of_getElem? (i := 4) rfl) ?_
  refine fmV_xVv (n := 2) (pc := 33) F hX (c_X5_copy_24 l D A G (gBc1 σ a b) o ha hb) gX5_become_X5_copy rfl rfl rfl (by decide +kernel) ⟨Nat.le_of_ble_eq_true rfl, Nat.le_of_ble_eq_true rfl⟩ (fmR_23 F (by assumption)) rfl rfl (Nat.le_of_ble_eq_true rfl) dX5_become_33 ⟨Nat.le_of_ble_eq_true rfl, Nat.le_of_ble_eq_true rfl⟩ (fun _ _ h9 => False.elim h9) (fun u1 hc3 => ?_)
  have hc3 := hc3.symm
  subst hc3
  refine fmV_sg (σ1 := (gBc2 (gBc1 σ a b) a b 24)) rfl ?_
  refine fmV_aload_n (pc := 36) (i := 0) F dX5_become_36 rfl rfl ?_
  refine fmV_aload_n (pc := 37) (i := 1) F dX5_become_37 rfl rfl ?_
  refine fmg_23_has (pc := 38) F hb hin_X5 dX5_become_38 (List.mem_of_getElem? (i := 5) rfl) ?_
  refine fmV_aload_n (pc := 41) (i := 0) F dX5_become_41 rfl rfl ?_
  refine fmg_23_has (pc := 42) F ha hin_X5 dX5_become_42 (List.mem_of_getElem? (i := 5) rfl) ?_
  refine fmV_xVv (n := 2) (pc := 45) F hX (c_X5_copy_25 l D A G (gBc2 (gBc1 σ a b) a b 24) o ha hb) gX5_become_X5_copy rfl rfl rfl (by decide +kernel) ⟨Nat.le_of_ble_eq_true rfl, Nat.le_of_ble_eq_true rfl⟩ (fmR_23 F (by assumption)) rfl rfl (Nat.le_of_ble_eq_true rfl) dX5_become_45 ⟨Nat.le_of_ble_eq_true rfl, Nat.le_of_ble_eq_true rfl⟩ (fun _ _ h9 => False.elim h9) (fun u4 hc6 => ?_)
  have hc6 := hc6.symm
  subst hc6
  refine fmV_sg (σ1 := (gBc2 (gBc2 (gBc1 σ a b) a b 24) a b 25)) rfl ?_
  refine fmV_aload_n (pc := 48) (i := 0) F dX5_become_48 rfl rfl ?_
  refine fmV_aload_n (pc := 49) (i := 1) F dX5_become_49 rfl rfl ?_
  refine fmg_23_is (pc := 50) F hb hin_X5 dX5_become_50 (List.mem_of_getElem? (i := 6) rfl) ?_
  refine fmV_aload_n (pc := 53) (i := 0) F dX5_become_53 rfl rfl ?_
  refine fmg_23_is (pc := 54) F ha hin_X5 dX5_become_54 (List.mem_of_getElem? (i := 6) rfl) ?_
  refine fmV_xVv (n := 2) (pc := 57) F hX (c_X5_copy_26 l D A G (gBc2 (gBc2 (gBc1 σ a b) a b 24) a b 25) o ha hb) gX5_become_X5_copy rfl rfl rfl (by decide +kernel) ⟨Nat.le_of_ble_eq_true rfl, Nat.le_of_ble_eq_true rfl⟩ (fmR_23 F (by assumption)) rfl rfl (Nat.le_of_ble_eq_true rfl) dX5_become_57 ⟨Nat.le_of_ble_eq_true rfl, Nat.le_of_ble_eq_true rfl⟩ (fun _ _ h9 => False.elim h9) (fun u7 hc9 => ?_)
  have hc9 := hc9.symm
  subst hc9
  refine fmV_sg (σ1 := (gBc2 (gBc2 (gBc2 (gBc1 σ a b) a b 24) a b 25) a b 26)) rfl ?_
  refine fmV_aload_n (pc := 60) (i := 0) F dX5_become_60 rfl rfl ?_
  refine fmV_aload_n (pc := 61) (i := 1) F dX5_become_61 rfl rfl ?_
  refine fmg_23_row (pc := 62) F hb hin_X5 dX5_become_62 (List.mem_of_getElem? (i := 7) rfl) ?_
  refine fmV_aload_n (pc := 65) (i := 0) F dX5_become_65 rfl rfl ?_
  refine fmg_23_row (pc := 66) F ha hin_X5 dX5_become_66 (List.mem_of_getElem? (i := 7) rfl) ?_
  refine fmV_xVv (n := 2) (pc := 69) F hX (c_X5_copy_27 l D A G (gBc2 (gBc2 (gBc2 (gBc1 σ a b) a b 24) a b 25) a b 26) o ha hb) gX5_become_X5_copy rfl rfl rfl (by decide +kernel) ⟨Nat.le_of_ble_eq_true rfl, Nat.le_of_ble_eq_true rfl⟩ (fmR_23 F (by assumption)) rfl rfl (Nat.le_of_ble_eq_true rfl) dX5_become_69 ⟨Nat.le_of_ble_eq_true rfl, Nat.le_of_ble_eq_true rfl⟩ (fun _ _ h9 => False.elim h9) (fun u10 hc12 => ?_)
  have hc12 := hc12.symm
  subst hc12
  refine fmV_sg (σ1 := (gBc2 (gBc2 (gBc2 (gBc2 (gBc1 σ a b) a b 24) a b 25) a b 26) a b 27)) rfl ?_
  refine fmV_aload_n (pc := 72) (i := 0) F dX5_become_72 rfl rfl ?_
  refine fmV_aload_n (pc := 73) (i := 1) F dX5_become_73 rfl rfl ?_
  refine fmg_23_place (pc := 74) F hb hin_X5 dX5_become_74 (List.mem_of_getElem? (i := 8) rfl) ?_
  refine fmV_aload_n (pc := 77) (i := 0) F dX5_become_77 rfl rfl ?_
  refine fmg_23_place (pc := 78) F ha hin_X5 dX5_become_78 (List.mem_of_getElem? (i := 8) rfl) ?_
  refine fmV_xVv (n := 2) (pc := 81) F hX (c_X5_copy_28 l D A G (gBc2 (gBc2 (gBc2 (gBc2 (gBc1 σ a b) a b 24) a b 25) a b 26) a b 27) o ha hb) gX5_become_X5_copy rfl rfl rfl (by decide +kernel) ⟨Nat.le_of_ble_eq_true rfl, Nat.le_of_ble_eq_true rfl⟩ (fmR_23 F (by assumption)) rfl rfl (Nat.le_of_ble_eq_true rfl) dX5_become_81 ⟨Nat.le_of_ble_eq_true rfl, Nat.le_of_ble_eq_true rfl⟩ (fun _ _ h9 => False.elim h9) (fun u13 hc15 => ?_)
  have hc15 := hc15.symm
  subst hc15
  refine fmV_sg (σ1 := (gBc2 (gBc2 (gBc2 (gBc2 (gBc2 (gBc1 σ a b) a b 24) a b 25) a b 26) a b 27) a b 28)) rfl ?_
  refine fmV_aload_n (pc := 84) (i := 0) F dX5_become_84 rfl rfl ?_
  refine fmV_aload_n (pc := 85) (i := 1) F dX5_become_85 rfl rfl ?_
  refine fmg_23_leaves (pc := 86) F hb hin_X5 dX5_become_86 (List.mem_of_getElem? (i := 9) rfl) ?_
  refine fmV_aload_n (pc := 89) (i := 0) F dX5_become_89 rfl rfl ?_
  refine fmg_23_leaves (pc := 90) F ha hin_X5 dX5_become_90 (List.mem_of_getElem? (i := 9) rfl) ?_
  refine fmV_xVv (n := 2) (pc := 93) F hX (c_X5_copy_29 l D A G (gBc2 (gBc2 (gBc2 (gBc2 (gBc2 (gBc1 σ a b) a b 24) a b 25) a b 26) a b 27) a b 28) o ha hb) gX5_become_X5_copy rfl rfl rfl (by decide +kernel) ⟨Nat.le_of_ble_eq_true rfl, Nat.le_of_ble_eq_true rfl⟩ (fmR_23 F (by assumption)) rfl rfl (Nat.le_of_ble_eq_true rfl) dX5_become_93 ⟨Nat.le_of_ble_eq_true rfl, Nat.le_of_ble_eq_true rfl⟩ (fun _ _ h9 => False.elim h9) (fun u16 hc18 => ?_)
  have hc18 := hc18.symm
  subst hc18
  refine fmV_sg (σ1 := (gBc2 (gBc2 (gBc2 (gBc2 (gBc2 (gBc2 (gBc1 σ a b) a b 24) a b 25) a b 26) a b 27) a b 28) a b 29)) rfl ?_
  refine fmV_aload_n (pc := 96) (i := 0) F dX5_become_96 rfl rfl ?_
  refine fmV_aload_n (pc := 97) (i := 1) F dX5_become_97 rfl rfl ?_
  refine fmg_23_loosened (pc := 98) F hb hin_X5 dX5_become_98 (List.mem_of_getElem? (i := 10) rfl) ?_
  refine fmV_aload_n (pc := 101) (i := 0) F dX5_become_101 rfl rfl ?_
  refine fmg_23_loosened (pc := 102) F ha hin_X5 dX5_become_102 (List.mem_of_getElem? (i := 10) rfl) ?_
  refine fmV_xVv (n := 2) (pc := 105) F hX (c_X5_copy_30 l D A G (gBc2 (gBc2 (gBc2 (gBc2 (gBc2 (gBc2 (gBc1 σ a b) a b 24) a b 25) a b 26) a b 27) a b 28) a b 29) o ha hb) gX5_become_X5_copy rfl rfl rfl (by decide +kernel) ⟨Nat.le_of_ble_eq_true rfl, Nat.le_of_ble_eq_true rfl⟩ (fmR_23 F (by assumption)) rfl rfl (Nat.le_of_ble_eq_true rfl) dX5_become_105 ⟨Nat.le_of_ble_eq_true rfl, Nat.le_of_ble_eq_true rfl⟩ (fun _ _ h9 => False.elim h9) (fun u19 hc21 => ?_)
  have hc21 := hc21.symm
  subst hc21
  refine fmV_sg (σ1 := (gBc2 (gBc2 (gBc2 (gBc2 (gBc2 (gBc2 (gBc2 (gBc1 σ a b) a b 24) a b 25) a b 26) a b 27) a b 28) a b 29) a b 30)) rfl ?_
  refine fmV_aload_n (pc := 108) (i := 0) F dX5_become_108 rfl rfl ?_
  refine fmV_aload_n (pc := 109) (i := 1) F dX5_become_109 rfl rfl ?_
  refine fmg_23_drifted (pc := 110) F hb hin_X5 dX5_become_110 (List.mem_of_getElem? (i := 11) rfl) ?_
  refine fmV_aload_n (pc := 113) (i := 0) F dX5_become_113 rfl rfl ?_
  refine fmg_23_drifted (pc := 114) F ha hin_X5 dX5_become_114 (List.mem_of_getElem? (i := 11) rfl) ?_
  refine fmV_xVv (n := 2) (pc := 117) F hX (c_X5_copy_31 l D A G (gBc2 (gBc2 (gBc2 (gBc2 (gBc2 (gBc2 (gBc2 (gBc1 σ a b) a b 24) a b 25) a b 26) a b 27) a b 28) a b 29) a b 30) o ha hb) gX5_become_X5_copy rfl rfl rfl (by decide +kernel) ⟨Nat.le_of_ble_eq_true rfl, Nat.le_of_ble_eq_true rfl⟩ (fmR_23 F (by assumption)) rfl rfl (Nat.le_of_ble_eq_true rfl) dX5_become_117 ⟨Nat.le_of_ble_eq_true rfl, Nat.le_of_ble_eq_true rfl⟩ (fun _ _ h9 => False.elim h9) (fun u22 hc24 => ?_)
  have hc24 := hc24.symm
  subst hc24
  refine fmV_sg (σ1 := (gBc2 (gBc2 (gBc2 (gBc2 (gBc2 (gBc2 (gBc2 (gBc2 (gBc1 σ a b) a b 24) a b 25) a b 26) a b 27) a b 28) a b 29) a b 30) a b 31)) rfl ?_
  refine fmV_aload_n (pc := 120) (i := 0) F dX5_become_120 rfl rfl ?_
  refine fmV_aload_n (pc := 121) (i := 1) F dX5_become_121 rfl rfl ?_
  refine fmg_23_sold (pc := 122) F hb hin_X5 dX5_become_122 (List.mem_of_getElem? (i := 12) rfl) ?_
  refine fmV_aload_n (pc := 125) (i := 0) F dX5_become_125 rfl rfl ?_
  refine fmg_23_sold (pc := 126) F ha hin_X5 dX5_become_126 (List.mem_of_getElem? (i := 12) rfl) ?_
  refine fmV_xVv (n := 2) (pc := 129) F hX (c_X5_copy_32 l D A G (gBc2 (gBc2 (gBc2 (gBc2 (gBc2 (gBc2 (gBc2 (gBc2 (gBc1 σ a b) a b 24) a b 25) a b 26) a b 27) a b 28) a b 29) a b 30) a b 31) o ha hb) gX5_become_X5_copy rfl rfl rfl (by decide +kernel) ⟨Nat.le_of_ble_eq_true rfl, Nat.le_of_ble_eq_true rfl⟩ (fmR_23 F (by assumption)) rfl rfl (Nat.le_of_ble_eq_true rfl) dX5_become_129 ⟨Nat.le_of_ble_eq_true rfl, Nat.le_of_ble_eq_true rfl⟩ (fun _ _ h9 => False.elim h9) (fun u25 hc27 => ?_)
  have hc27 := hc27.symm
  subst hc27
  refine fmV_sg (σ1 := (gBc2 (gBc2 (gBc2 (gBc2 (gBc2 (gBc2 (gBc2 (gBc2 (gBc2 (gBc1 σ a b) a b 24) a b 25) a b 26) a b 27) a b 28) a b 29) a b 30) a b 31) a b 32)) rfl ?_
  refine fmV_aload_n (pc := 132) (i := 0) F dX5_become_132 rfl rfl ?_
  refine fmV_aload_n (pc := 133) (i := 1) F dX5_become_133 rfl rfl ?_
  refine fmg_23_bought (pc := 134) F hb hin_X5 dX5_become_134 (List.mem_of_getElem? (i := 13) rfl) ?_
  refine fmV_aload_n (pc := 137) (i := 0) F dX5_become_137 rfl rfl ?_
  refine fmg_23_bought (pc := 138) F ha hin_X5 dX5_become_138 (List.mem_of_getElem? (i := 13) rfl) ?_
  refine fmV_xVv (n := 2) (pc := 141) F hX (c_X5_copy_33 l D A G (gBc2 (gBc2 (gBc2 (gBc2 (gBc2 (gBc2 (gBc2 (gBc2 (gBc2 (gBc1 σ a b) a b 24) a b 25) a b 26) a b 27) a b 28) a b 29) a b 30) a b 31) a b 32) o ha hb) gX5_become_X5_copy rfl rfl rfl (by decide +kernel) ⟨Nat.le_of_ble_eq_true rfl, Nat.le_of_ble_eq_true rfl⟩ (fmR_23 F (by assumption)) rfl rfl (Nat.le_of_ble_eq_true rfl) dX5_become_141 ⟨Nat.le_of_ble_eq_true rfl, Nat.le_of_ble_eq_true rfl⟩ (fun _ _ h9 => False.elim h9) (fun u28 hc30 => ?_)
  have hc30 := hc30.symm
  subst hc30
  refine fmV_sg (σ1 := (gBc2 (gBc2 (gBc2 (gBc2 (gBc2 (gBc2 (gBc2 (gBc2 (gBc2 (gBc2 (gBc1 σ a b) a b 24) a b 25) a b 26) a b 27) a b 28) a b 29) a b 30) a b 31) a b 32) a b 33)) rfl ?_
  refine fmV_xr ?_
  exact fmV_vret (pc := 144) F dX5_become_144 rfl rfl

set_option maxHeartbeats 4000000 in
set_option maxRecDepth 100000 in
theorem c_X5_pass (l : Launch) (D : va_G) (A : Nat → Prop) (G : fmG) (σ : fmS) (o : Nat → Int64) {b cc : Nat} (hb : b < 2) (hcc : cc ≤ 14) (h63 : σ 63 0 0 0 = nI cc) {rc : Nat} (hrc : rc ≤ 4) (h62 : σ 62 0 0 0 = nI rc) {t : Nat} (ht : t < 2 ^ 31) (h64 : σ 64 b 0 0 = nI t) : fmXi l D A G yX5_pass wsX5_pass (fmRm 4 0 0) 0 0 [.ref (G.1 23 b 0), .ref (G.1 22 0 0)] σ o (fun r u => r = gStep b rc cc t σ 65 b 0 0 - σ 65 b 0 0 ∧ u = gStep b rc cc t σ) (fun _ _ => False) := by
  refine fmXi_of (cc := cX5_pass) (maxL := 5) (ret := (some .int)) (by decide +kernel) rfl (Nat.le_of_ble_eq_true rfl) ?_
  intro P_ E_ S_ M_ args_ below_ meth_ C_ F hX hnt
  have hin_X5 : ∀ w ∈ wsX50, w ∈ wsX5_pass := (fun _ h => List.mem_cons_of_mem _ (List.mem_append_left _ (List.mem_append_right _ h)))
  have hin_X6 : ∀ w ∈ wsX60, w ∈ wsX5_pass := (fun _ h => List.mem_cons_of_mem _ (List.mem_append_right _ h))
  have k62a : ∀ n, (fmIt (fun r τ => gDrift τ b rc cc t r) (gDid σ cc) n) 62 0 0 0 = nI rc := fun n => by rw [it_c (fun i τ => gDrift_c (by decide) _ _), gDid_c (by decide)]; exact h62
  have k62b : ∀ n, (fmIt (gLv b cc t) (gP1 σ b rc cc t) n) 62 0 0 0 = nI rc := fun n => by rw [it_c (fun i τ => gLv_c (by decide) _ _), gP1, it_c (fun i τ => gDrift_c (by decide) _ _), gDid_c (by decide)]; exact h62
  have k62c : ∀ n, (fmIt (gTd b cc) (gP2 σ b rc cc t) n) 62 0 0 0 = nI rc := fun n => by rw [it_c (fun i τ => gTd_c (by decide) _ _), gP2, it_c (fun i τ => gLv_c (by decide) _ _), gP1, it_c (fun i τ => gDrift_c (by decide) _ _), gDid_c (by decide)]; exact h62
  have k62d : ∀ n i, (fmIt (fun g τ => gTrade τ b n g cc) (fmIt (gTd b cc) (gP2 σ b rc cc t) n) i) 62 0 0 0 = nI rc := fun n i => by rw [it_c (fun i τ => gTrade_c (by decide) _ _), it_c (fun i τ => gTd_c (by decide) _ _), gP2, it_c (fun i τ => gLv_c (by decide) _ _), gP1, it_c (fun i τ => gDrift_c (by decide) _ _), gDid_c (by decide)]; exact h62
  have k620 : ∀ n, (fmu σ 22 0 0 (gZ σ n)) 62 0 0 0 = nI rc := fun n => by rw [fmu_c _ _ _ _ _ (by decide)]; exact h62
  have k63a : ∀ n, (fmIt (fun r τ => gDrift τ b rc cc t r) (gDid σ cc) n) 63 0 0 0 = nI cc := fun n => by rw [it_c (fun i τ => gDrift_c (by decide) _ _), gDid_c (by decide)]; exact h63
  have k63b : ∀ n, (fmIt (gLv b cc t) (gP1 σ b rc cc t) n) 63 0 0 0 = nI cc := fun n => by rw [it_c (fun i τ => gLv_c (by decide) _ _), gP1, it_c (fun i τ => gDrift_c (by decide) _ _), gDid_c (by decide)]; exact h63
  have k63c : ∀ n, (fmIt (gTd b cc) (gP2 σ b rc cc t) n) 63 0 0 0 = nI cc := fun n => by rw [it_c (fun i τ => gTd_c (by decide) _ _), gP2, it_c (fun i τ => gLv_c (by decide) _ _), gP1, it_c (fun i τ => gDrift_c (by decide) _ _), gDid_c (by decide)]; exact h63
  have k63d : ∀ n i, (fmIt (fun g τ => gTrade τ b n g cc) (fmIt (gTd b cc) (gP2 σ b rc cc t) n) i) 63 0 0 0 = nI cc := fun n i => by rw [it_c (fun i τ => gTrade_c (by decide) _ _), it_c (fun i τ => gTd_c (by decide) _ _), gP2, it_c (fun i τ => gLv_c (by decide) _ _), gP1, it_c (fun i τ => gDrift_c (by decide) _ _), gDid_c (by decide)]; exact h63
  have k630 : ∀ n, (fmu σ 22 0 0 (gZ σ n)) 63 0 0 0 = nI cc := fun n => by rw [fmu_c _ _ _ _ _ (by decide)]; exact h63
  have k64a : ∀ n, (fmIt (fun r τ => gDrift τ b rc cc t r) (gDid σ cc) n) 64 b 0 0 = nI t := fun n => by rw [it_c (fun i τ => gDrift_c (by decide) _ _), gDid_c (by decide)]; exact h64
  have k64b : ∀ n, (fmIt (gLv b cc t) (gP1 σ b rc cc t) n) 64 b 0 0 = nI t := fun n => by rw [it_c (fun i τ => gLv_c (by decide) _ _), gP1, it_c (fun i τ => gDrift_c (by decide) _ _), gDid_c (by decide)]; exact h64
  have k64c : ∀ n, (fmIt (gTd b cc) (gP2 σ b rc cc t) n) 64 b 0 0 = nI t := fun n => by rw [it_c (fun i τ => gTd_c (by decide) _ _), gP2, it_c (fun i τ => gLv_c (by decide) _ _), gP1, it_c (fun i τ => gDrift_c (by decide) _ _), gDid_c (by decide)]; exact h64
  have k64d : ∀ n i, (fmIt (fun g τ => gTrade τ b n g cc) (fmIt (gTd b cc) (gP2 σ b rc cc t) n) i) 64 b 0 0 = nI t := fun n i => by rw [it_c (fun i τ => gTrade_c (by decide) _ _), it_c (fun i τ => gTd_c (by decide) _ _), gP2, it_c (fun i τ => gLv_c (by decide) _ _), gP1, it_c (fun i τ => gDrift_c (by decide) _ _), gDid_c (by decide)]; exact h64
  have k640 : ∀ n, (fmu σ 22 0 0 (gZ σ n)) 64 b 0 0 = nI t := fun n => by rw [fmu_c _ _ _ _ _ (by decide)]; exact h64
  refine fmV_aload_n (pc := 0) (i := 0) F dX5_pass_0 rfl rfl ?_
  refine fmg_23_sum (pc := 1) F (by assumption) hin_X5 dX5_pass_1 (List.mem_of_getElem? (i := 1) rfl) ?_
  refine fmV_istore_n (pc := 4) (i := 2) F dX5_pass_4 rfl (by decide) ?_
  refine fmV_sg (σ1 := (fmu σ 22 0 0 (gZ σ 0))) (by rw [gZ_0, fmu_id]) ?_
  refine fmV_iconst (pc := 5) (v := 0) F dX5_pass_5 rfl ?_
  refine fmV_istore_n (pc := 6) (i := 3) F dX5_pass_6 rfl (by decide) ?_
  refine fmV_lv (lv' := [(0, .ref (G.1 23 b 0)), (1, .ref (G.1 22 0 0)), (2, .int (σ 65 b 0 0)), (3, .int (nI 0))]) ⟨rfl, rfl, rfl, rfl, trivial⟩ ?_
  refine fmV_up (N := cc) (pc := 7) (σf := fun j => (fmu σ 22 0 0 (gZ σ j))) (lvf := fun j => [(0, .ref (G.1 23 b 0)), (1, .ref (G.1 22 0 0)), (2, .int (σ 65 b 0 0)), (3, .int (nI j))]) 0 (Nat.zero_le _) ?_ ?_
  · refine fmV_iload_n (pc := 7) (i := 3) F dX5_pass_7 rfl rfl ?_
    refine fmV_aload_n (pc := 8) (i := 0) F dX5_pass_8 rfl rfl ?_
    refine fmg_23_this0 (pc := 9) F (by assumption) hin_X5 dX5_pass_9 (List.mem_of_getElem? (i := 2) rfl) ?_
    refine fmgN_14_canoes (pc := 12) F hX  hin_X6 dX5_pass_12 (List.mem_of_getElem? (i := 23) rfl) ?_
    refine fmV_icmp_ge (pc := 15) (tgt := 28) F dX5_pass_15 (by decide) (fun h1 => ?_) (fun h1 => ?_)
    · refine fmV_sg (σ1 := (fmIt (fun r τ => gDrift τ b rc cc t r) (gDid σ cc) 0)) rfl ?_
      refine fmV_iconst (pc := 28) (v := 0) F dX5_pass_28 rfl ?_
      refine fmV_istore_n (pc := 29) (i := 3) F dX5_pass_29 rfl (by decide) ?_
      refine fmV_lv (lv' := [(0, .ref (G.1 23 b 0)), (1, .ref (G.1 22 0 0)), (2, .int (σ 65 b 0 0)), (3, .int (nI 0))]) ⟨rfl, rfl, rfl, rfl, trivial⟩ ?_
      refine fmV_up (N := rc) (pc := 30) (σf := fun j => (fmIt (fun r τ => gDrift τ b rc cc t r) (gDid σ cc) j)) (lvf := fun j => [(0, .ref (G.1 23 b 0)), (1, .ref (G.1 22 0 0)), (2, .int (σ 65 b 0 0)), (3, .int (nI j))]) 0 (Nat.zero_le _) ?_ ?_
      · refine fmV_iload_n (pc := 30) (i := 3) F dX5_pass_30 rfl rfl ?_
        refine fmV_aload_n (pc := 31) (i := 0) F dX5_pass_31 rfl rfl ?_
        refine fmg_23_this0 (pc := 32) F (by assumption) hin_X5 dX5_pass_32 (List.mem_of_getElem? (i := 2) rfl) ?_
        refine fmgN_14_rows (pc := 35) F hX  hin_X6 dX5_pass_35 (List.mem_of_getElem? (i := 19) rfl) ?_
        refine fmV_icmp_ge (pc := 38) (tgt := 53) F dX5_pass_38 (by decide) (fun h2 => ?_) (fun h2 => ?_)
        · refine fmV_sg (σ1 := (fmIt (gLv b cc t) (gP1 σ b rc cc t) 0)) rfl ?_
          refine fmV_iconst (pc := 53) (v := 0) F dX5_pass_53 rfl ?_
          refine fmV_istore_n (pc := 54) (i := 3) F dX5_pass_54 rfl (by decide) ?_
          refine fmV_lv (lv' := [(0, .ref (G.1 23 b 0)), (1, .ref (G.1 22 0 0)), (2, .int (σ 65 b 0 0)), (3, .int (nI 0))]) ⟨rfl, rfl, rfl, rfl, trivial⟩ ?_
          refine fmV_up (N := cc) (pc := 55) (σf := fun j => (fmIt (gLv b cc t) (gP1 σ b rc cc t) j)) (lvf := fun j => [(0, .ref (G.1 23 b 0)), (1, .ref (G.1 22 0 0)), (2, .int (σ 65 b 0 0)), (3, .int (nI j))]) 0 (Nat.zero_le _) ?_ ?_
          · refine fmV_iload_n (pc := 55) (i := 3) F dX5_pass_55 rfl rfl ?_
            refine fmV_aload_n (pc := 56) (i := 0) F dX5_pass_56 rfl rfl ?_
            refine fmg_23_this0 (pc := 57) F (by assumption) hin_X5 dX5_pass_57 (List.mem_of_getElem? (i := 2) rfl) ?_
            refine fmgN_14_canoes (pc := 60) F hX  hin_X6 dX5_pass_60 (List.mem_of_getElem? (i := 23) rfl) ?_
            refine fmV_icmp_ge (pc := 63) (tgt := 129) F dX5_pass_63 (by decide) (fun h3 => ?_) (fun h3 => ?_)
            · refine fmV_sg (σ1 := (fmIt (gTd b cc) (gP2 σ b rc cc t) 0)) rfl ?_
              refine fmV_iconst (pc := 129) (v := 0) F dX5_pass_129 rfl ?_
              refine fmV_istore_n (pc := 130) (i := 3) F dX5_pass_130 rfl (by decide) ?_
              refine fmV_lv (lv' := [(0, .ref (G.1 23 b 0)), (1, .ref (G.1 22 0 0)), (2, .int (σ 65 b 0 0)), (3, .int (nI 0))]) ⟨rfl, rfl, rfl, rfl, trivial⟩ ?_
              refine fmV_up (N := cc) (pc := 131) (σf := fun j => (fmIt (gTd b cc) (gP2 σ b rc cc t) j)) (lvf := fun j => [(0, .ref (G.1 23 b 0)), (1, .ref (G.1 22 0 0)), (2, .int (σ 65 b 0 0)), (3, .int (nI j))]) 0 (Nat.zero_le _) ?_ ?_
              · refine fmV_iload_n (pc := 131) (i := 3) F dX5_pass_131 rfl rfl ?_
                refine fmV_aload_n (pc := 132) (i := 0) F dX5_pass_132 rfl rfl ?_
                refine fmg_23_this0 (pc := 133) F (by assumption) hin_X5 dX5_pass_133 (List.mem_of_getElem? (i := 2) rfl) ?_
                refine fmgN_14_canoes (pc := 136) F hX  hin_X6 dX5_pass_136 (List.mem_of_getElem? (i := 23) rfl) ?_
                refine fmV_icmp_ge (pc := 139) (tgt := 180) F dX5_pass_139 (by decide) (fun h8 => ?_) (fun h8 => ?_)
                · refine fmV_sg (σ1 := gP3 σ b rc cc t) rfl ?_
                  refine fmV_aload_n (pc := 180) (i := 0) F dX5_pass_180 rfl rfl ?_
                  refine fmV_dup (pc := 181) F dX5_pass_181 rfl ?_
                  refine fmg_23_step (pc := 182) F (by assumption) hin_X5 dX5_pass_182 (List.mem_of_getElem? (i := 5) rfl) ?_
                  refine fmV_iconst (pc := 185) (v := 1) F dX5_pass_185 rfl ?_
                  refine fmV_iadd (pc := 186) F dX5_pass_186 ?_
                  refine fmp_23_step (pc := 187) F (by assumption) hin_X5 dX5_pass_187 (List.mem_of_getElem? (i := 5) rfl) ?_
                  refine fmV_aload_n (pc := 190) (i := 0) F dX5_pass_190 rfl rfl ?_
                  refine fmg_23_sum (pc := 191) F (by assumption) hin_X5 dX5_pass_191 (List.mem_of_getElem? (i := 1) rfl) ?_
                  refine fmV_iload_n (pc := 194) (i := 2) F dX5_pass_194 rfl rfl ?_
                  refine fmV_isub (pc := 195) F dX5_pass_195 ?_
                  refine fmV_xr ?_
                  exact fmV_iret (pc := 196) F dX5_pass_196 rfl ⟨by rw [gStep, show (gP3 σ b rc cc t) 64 b 0 0 = nI t from k64c cc, nI_succ]; first | done | rfl, by rw [gStep, show (gP3 σ b rc cc t) 64 b 0 0 = nI t from k64c cc, nI_succ]; first | done | rfl⟩
                · rw [k63c] at h8
                  exact absurd (nI_le (Nat.le_refl cc) (by omega)) h8
              · intro j hj ih
                have hj14 : j < 14 := by omega
                refine fmV_iload_n (pc := 131) (i := 3) F dX5_pass_131 rfl rfl ?_
                refine fmV_aload_n (pc := 132) (i := 0) F dX5_pass_132 rfl rfl ?_
                refine fmg_23_this0 (pc := 133) F (by assumption) hin_X5 dX5_pass_133 (List.mem_of_getElem? (i := 2) rfl) ?_
                refine fmgN_14_canoes (pc := 136) F hX  hin_X6 dX5_pass_136 (List.mem_of_getElem? (i := 23) rfl) ?_
                refine fmV_icmp_ge (pc := 139) (tgt := 180) F dX5_pass_139 (by decide) (fun h8 => ?_) (fun h8 => ?_)
                · rw [k63c] at h8
                  exact absurd h8 (nI_ge hj (by omega))
                · refine fmV_iconst (pc := 142) (v := 0) F dX5_pass_142 rfl ?_
                  refine fmV_istore (pc := 143) (i := 4) F dX5_pass_143 (by decide) ?_
                  rcases Decidable.em ((fmIt (gTd b cc) (gP2 σ b rc cc t) j) 26 b 0 j = 1) with hI | hI
                  · refine fmV_lv (lv' := [(0, .ref (G.1 23 b 0)), (1, .ref (G.1 22 0 0)), (2, .int (σ 65 b 0 0)), (3, .int (nI j)), (4, .int (nI 0))]) ⟨rfl, rfl, rfl, rfl, rfl, trivial⟩ ?_
                    refine fmV_up (N := 4) (pc := 145) (σf := fun i => (fmIt (fun g τ => gTrade τ b j g cc) (fmIt (gTd b cc) (gP2 σ b rc cc t) j) i)) (lvf := fun i => [(0, .ref (G.1 23 b 0)), (1, .ref (G.1 22 0 0)), (2, .int (σ 65 b 0 0)), (3, .int (nI j)), (4, .int (nI i))]) 0 (by decide) ?_ ?_
                    · refine fmV_iload (pc := 145) (i := 4) F dX5_pass_145 rfl ?_
                      refine fmV_iconst (pc := 147) (v := 4) F dX5_pass_147 rfl ?_
                      refine fmV_icmp_ge (pc := 148) (tgt := 174) F dX5_pass_148 (by decide) (fun h9 => ?_) (fun h9 => ?_)
                      · refine fmV_iinc (pc := 174) (i := 3) F dX5_pass_174 rfl rfl (by decide) ?_
                        refine fmV_goto (pc := 177) (tgt := 131) F dX5_pass_177 (by decide) ?_
                        refine fmV_sg (σ1 := (fmIt (gTd b cc) (gP2 σ b rc cc t) (j + 1))) (show gTd b cc j (fmIt (gTd b cc) (gP2 σ b rc cc t) j) = _ from gTd_yes hI) ?_
                        refine fmV_lv ?_ ih
                        exact ⟨rfl, rfl, rfl, by rw [nI_succ j]; rfl, trivial⟩
                      · exact absurd (by decide) h9
                    · intro i hi ih2
                      have e26 : (fmIt (fun g τ => gTrade τ b j g cc) (fmIt (gTd b cc) (gP2 σ b rc cc t) j) i) 26 b 0 j = 1 := by rw [it_c (fun i τ => gTrade_c (by decide) _ _)]; exact hI
                      refine fmV_iload (pc := 145) (i := 4) F dX5_pass_145 rfl ?_
                      refine fmV_iconst (pc := 147) (v := 4) F dX5_pass_147 rfl ?_
                      refine fmV_icmp_ge (pc := 148) (tgt := 174) F dX5_pass_148 (by decide) (fun h9 => ?_) (fun h9 => ?_)
                      · exact absurd h9 (nI_ge (b := 4) hi (by decide))
                      · refine fmV_aload_n (pc := 151) (i := 0) F dX5_pass_151 rfl rfl ?_
                        refine fmg_23_is (pc := 152) F (by assumption) hin_X5 dX5_pass_152 (List.mem_of_getElem? (i := 3) rfl) ?_
                        refine fmV_iload_n (pc := 155) (i := 3) F dX5_pass_155 rfl rfl ?_
                        refine fmal_26 (pc := 156) F (by assumption) dX5_pass_156 (vp_in_nI (by omega) (by decide)) (fm_cn (by omega)) ?_
                        refine fmV_iconst (pc := 157) (v := 1) F dX5_pass_157 rfl ?_
                        refine fmV_icmp_ne (pc := 158) (tgt := 174) F dX5_pass_158 (by decide) (fun h10 => ?_) (fun h10 => ?_)
                        · exact absurd e26 h10
                        · refine fmV_aload_n (pc := 161) (i := 0) F dX5_pass_161 rfl rfl ?_
                          refine fmV_iload_n (pc := 162) (i := 3) F dX5_pass_162 rfl rfl ?_
                          refine fmV_iload (pc := 163) (i := 4) F dX5_pass_163 rfl ?_
                          refine fmV_xVv (n := 2) (pc := 165) F hX (c_X5_trade l D A G (fmIt (fun g τ => gTrade τ b j g cc) (fmIt (gTd b cc) (gP2 σ b rc cc t) j) i) o hb hcc (k63d j i) hj14 hi) gX5_pass_X5_trade rfl rfl rfl (by decide +kernel) ⟨Nat.le_of_ble_eq_true rfl, Nat.le_of_ble_eq_true rfl⟩ (fmR_23 F (by assumption)) rfl rfl (Nat.le_of_ble_eq_true rfl) dX5_pass_165 ⟨Nat.le_of_ble_eq_true rfl, Nat.le_of_ble_eq_true rfl⟩ (fun _ _ h9 => False.elim h9) (fun u1 hc3 => ?_)
                          have hc3 := hc3.symm
                          subst hc3
                          refine fmV_iinc (pc := 168) (i := 4) F dX5_pass_168 rfl rfl (by decide) ?_
                          refine fmV_goto (pc := 171) (tgt := 145) F dX5_pass_171 (by decide) ?_
                          refine fmV_lv ?_ ih2
                          exact ⟨rfl, rfl, rfl, rfl, by rw [nI_succ i]; rfl, trivial⟩
                  · refine fmV_iload (pc := 145) (i := 4) F dX5_pass_145 rfl ?_
                    refine fmV_iconst (pc := 147) (v := 4) F dX5_pass_147 rfl ?_
                    refine fmV_icmp_ge (pc := 148) (tgt := 174) F dX5_pass_148 (by decide) (fun h9 => ?_) (fun h9 => ?_)
                    · exact absurd h9 (by decide)
                    · refine fmV_aload_n (pc := 151) (i := 0) F dX5_pass_151 rfl rfl ?_
                      refine fmg_23_is (pc := 152) F (by assumption) hin_X5 dX5_pass_152 (List.mem_of_getElem? (i := 3) rfl) ?_
                      refine fmV_iload_n (pc := 155) (i := 3) F dX5_pass_155 rfl rfl ?_
                      refine fmal_26 (pc := 156) F (by assumption) dX5_pass_156 (vp_in_nI (by omega) (by decide)) (fm_cn (by omega)) ?_
                      refine fmV_iconst (pc := 157) (v := 1) F dX5_pass_157 rfl ?_
                      refine fmV_icmp_ne (pc := 158) (tgt := 174) F dX5_pass_158 (by decide) (fun h10 => ?_) (fun h10 => ?_)
                      · refine fmV_iinc (pc := 174) (i := 3) F dX5_pass_174 rfl rfl (by decide) ?_
                        refine fmV_goto (pc := 177) (tgt := 131) F dX5_pass_177 (by decide) ?_
                        refine fmV_sg (σ1 := (fmIt (gTd b cc) (gP2 σ b rc cc t) (j + 1))) (show gTd b cc j (fmIt (gTd b cc) (gP2 σ b rc cc t) j) = _ from gTd_no hI) ?_
                        refine fmV_lv ?_ ih
                        exact ⟨rfl, rfl, rfl, by rw [nI_succ j]; rfl, trivial⟩
                      · exact absurd h10 hI
            · rw [k63b] at h3
              exact absurd (nI_le (Nat.le_refl cc) (by omega)) h3
          · intro j hj ih
            have hj14 : j < 14 := by omega
            refine fmV_iload_n (pc := 55) (i := 3) F dX5_pass_55 rfl rfl ?_
            refine fmV_aload_n (pc := 56) (i := 0) F dX5_pass_56 rfl rfl ?_
            refine fmg_23_this0 (pc := 57) F (by assumption) hin_X5 dX5_pass_57 (List.mem_of_getElem? (i := 2) rfl) ?_
            refine fmgN_14_canoes (pc := 60) F hX  hin_X6 dX5_pass_60 (List.mem_of_getElem? (i := 23) rfl) ?_
            refine fmV_icmp_ge (pc := 63) (tgt := 129) F dX5_pass_63 (by decide) (fun h3 => ?_) (fun h3 => ?_)
            · rw [k63b] at h3
              exact absurd h3 (nI_ge hj (by omega))
            · refine fmV_aload_n (pc := 66) (i := 0) F dX5_pass_66 rfl rfl ?_
              refine fmg_23_is (pc := 67) F (by assumption) hin_X5 dX5_pass_67 (List.mem_of_getElem? (i := 3) rfl) ?_
              refine fmV_iload_n (pc := 70) (i := 3) F dX5_pass_70 rfl rfl ?_
              refine fmal_26 (pc := 71) F (by assumption) dX5_pass_71 (vp_in_nI (by omega) (by decide)) (fm_cn (by omega)) ?_
              refine fmV_iconst (pc := 72) (v := 1) F dX5_pass_72 rfl ?_
              refine fmV_icmp_ne (pc := 73) (tgt := 123) F dX5_pass_73 (by decide) (fun h4 => ?_) (fun h4 => ?_)
              · refine fmV_iinc (pc := 123) (i := 3) F dX5_pass_123 rfl rfl (by decide) ?_
                refine fmV_goto (pc := 126) (tgt := 55) F dX5_pass_126 (by decide) ?_
                first
                  | refine fmV_sg (σ1 := (fmIt (gLv b cc t) (gP1 σ b rc cc t) (j + 1))) (gLv_yes (k64b j) h4 h5 h6 h7) ?_
                  | refine fmV_sg (σ1 := (fmIt (gLv b cc t) (gP1 σ b rc cc t) (j + 1))) (gLv_no (k64b j) (fun q => by first | exact h7 q.2.2.2 | exact q.2.2.1 h6 | exact q.2.1 h5 | exact h4 q.1)) ?_
                refine fmV_lv ?_ ih
                exact ⟨rfl, rfl, rfl, by rw [nI_succ j]; rfl, trivial⟩
              · refine fmV_aload_n (pc := 76) (i := 0) F dX5_pass_76 rfl rfl ?_
                refine fmg_23_leaves (pc := 77) F (by assumption) hin_X5 dX5_pass_77 (List.mem_of_getElem? (i := 4) rfl) ?_
                refine fmV_iload_n (pc := 80) (i := 3) F dX5_pass_80 rfl rfl ?_
                refine fmal_29 (pc := 81) F (by assumption) dX5_pass_81 (vp_in_nI (by omega) (by decide)) (fm_cn (by omega)) ?_
                refine fmV_iconst (pc := 82) (v := (-1)) F dX5_pass_82 rfl ?_
                refine fmV_icmp_eq (pc := 83) (tgt := 123) F dX5_pass_83 (by decide) (fun h5 => ?_) (fun h5 => ?_)
                · refine fmV_iinc (pc := 123) (i := 3) F dX5_pass_123 rfl rfl (by decide) ?_
                  refine fmV_goto (pc := 126) (tgt := 55) F dX5_pass_126 (by decide) ?_
                  first
                    | refine fmV_sg (σ1 := (fmIt (gLv b cc t) (gP1 σ b rc cc t) (j + 1))) (gLv_yes (k64b j) h4 h5 h6 h7) ?_
                    | refine fmV_sg (σ1 := (fmIt (gLv b cc t) (gP1 σ b rc cc t) (j + 1))) (gLv_no (k64b j) (fun q => by first | exact h7 q.2.2.2 | exact q.2.2.1 h6 | exact q.2.1 h5 | exact h4 q.1)) ?_
                  refine fmV_lv ?_ ih
                  exact ⟨rfl, rfl, rfl, by rw [nI_succ j]; rfl, trivial⟩
                · refine fmV_aload_n (pc := 86) (i := 0) F dX5_pass_86 rfl rfl ?_
                  refine fmg_23_leaves (pc := 87) F (by assumption) hin_X5 dX5_pass_87 (List.mem_of_getElem? (i := 4) rfl) ?_
                  refine fmV_iload_n (pc := 90) (i := 3) F dX5_pass_90 rfl rfl ?_
                  refine fmal_29 (pc := 91) F (by assumption) dX5_pass_91 (vp_in_nI (by omega) (by decide)) (fm_cn (by omega)) ?_
                  refine fmV_aload_n (pc := 92) (i := 0) F dX5_pass_92 rfl rfl ?_
                  refine fmg_23_step (pc := 93) F (by assumption) hin_X5 dX5_pass_93 (List.mem_of_getElem? (i := 5) rfl) ?_
                  refine fmV_icmp_gt (pc := 96) (tgt := 123) F dX5_pass_96 (by decide) (fun h6 => ?_) (fun h6 => ?_)
                  · refine fmV_iinc (pc := 123) (i := 3) F dX5_pass_123 rfl rfl (by decide) ?_
                    refine fmV_goto (pc := 126) (tgt := 55) F dX5_pass_126 (by decide) ?_
                    first
                      | refine fmV_sg (σ1 := (fmIt (gLv b cc t) (gP1 σ b rc cc t) (j + 1))) (gLv_yes (k64b j) h4 h5 h6 h7) ?_
                      | refine fmV_sg (σ1 := (fmIt (gLv b cc t) (gP1 σ b rc cc t) (j + 1))) (gLv_no (k64b j) (fun q => by first | exact h7 q.2.2.2 | exact q.2.2.1 h6 | exact q.2.1 h5 | exact h4 q.1)) ?_
                    refine fmV_lv ?_ ih
                    exact ⟨rfl, rfl, rfl, by rw [nI_succ j]; rfl, trivial⟩
                  · refine fmV_aload_n (pc := 99) (i := 0) F dX5_pass_99 rfl rfl ?_
                    refine fmV_iload_n (pc := 100) (i := 3) F dX5_pass_100 rfl rfl ?_
                    refine fmV_xVi (n := 1) (pc := 101) F hX (c_X5_isDry l D A G (fmIt (gLv b cc t) (gP1 σ b rc cc t) j) o hb hj14 ht (k64b j)) gX5_pass_X5_isDry rfl rfl rfl (by decide +kernel) ⟨Nat.le_of_ble_eq_true rfl, Nat.le_of_ble_eq_true rfl⟩ (fmR_23 F (by assumption)) rfl rfl (Nat.le_of_ble_eq_true rfl) dX5_pass_101 ⟨Nat.le_of_ble_eq_true rfl, Nat.le_of_ble_eq_true rfl⟩ (fun _ _ h9 => False.elim h9) (fun r5 u4 hc6 => ?_)
                    obtain ⟨hr9, hu9⟩ := hc6
                    have hr9 := hr9.symm
                    have hu9 := hu9.symm
                    subst hr9
                    subst hu9
                    refine fmV_if_eq (pc := 104) (tgt := 110) F dX5_pass_104 (by decide) (fun h7 => ?_) (fun h7 => ?_)
                    · refine fmV_aload_n (pc := 110) (i := 0) F dX5_pass_110 rfl rfl ?_
                      refine fmV_iload_n (pc := 111) (i := 3) F dX5_pass_111 rfl rfl ?_
                      refine fmV_xVi (n := 1) (pc := 112) F hX (c_X5_castOff l D A G (fmIt (gLv b cc t) (gP1 σ b rc cc t) j) o hb hcc (k63b j) hj14) gX5_pass_X5_castOff rfl rfl rfl (by decide +kernel) ⟨Nat.le_of_ble_eq_true rfl, Nat.le_of_ble_eq_true rfl⟩ (fmR_23 F (by assumption)) rfl rfl (Nat.le_of_ble_eq_true rfl) dX5_pass_112 ⟨Nat.le_of_ble_eq_true rfl, Nat.le_of_ble_eq_true rfl⟩ (fun _ _ h9 => False.elim h9) (fun r8 u7 hc9 => ?_)
                      obtain ⟨hr9, hu9⟩ := hc9
                      have hr9 := hr9.symm
                      have hu9 := hu9.symm
                      subst hr9
                      subst hu9
                      refine fmV_pop (pc := 115) F dX5_pass_115 rfl ?_
                      refine fmV_aload_n (pc := 116) (i := 0) F dX5_pass_116 rfl rfl ?_
                      refine fmg_23_is (pc := 117) F (by assumption) hin_X5 dX5_pass_117 (List.mem_of_getElem? (i := 3) rfl) ?_
                      refine fmV_iload_n (pc := 120) (i := 3) F dX5_pass_120 rfl rfl ?_
                      refine fmV_iconst (pc := 121) (v := 2) F dX5_pass_121 rfl ?_
                      refine fmas_26 (pc := 122) F (by assumption) dX5_pass_122 (vp_in_nI (by omega) (by decide)) (fm_cn (by omega)) ?_
                      refine fmV_iinc (pc := 123) (i := 3) F dX5_pass_123 rfl rfl (by decide) ?_
                      refine fmV_goto (pc := 126) (tgt := 55) F dX5_pass_126 (by decide) ?_
                      first
                        | refine fmV_sg (σ1 := (fmIt (gLv b cc t) (gP1 σ b rc cc t) (j + 1))) (gLv_yes (k64b j) h4 h5 h6 h7) ?_
                        | refine fmV_sg (σ1 := (fmIt (gLv b cc t) (gP1 σ b rc cc t) (j + 1))) (gLv_no (k64b j) (fun q => by first | exact h7 q.2.2.2 | exact q.2.2.1 h6 | exact q.2.1 h5 | exact h4 q.1)) ?_
                      refine fmV_lv ?_ ih
                      exact ⟨rfl, rfl, rfl, by rw [nI_succ j]; rfl, trivial⟩
                    · refine fmV_goto (pc := 107) (tgt := 123) F dX5_pass_107 (by decide) ?_
                      refine fmV_iinc (pc := 123) (i := 3) F dX5_pass_123 rfl rfl (by decide) ?_
                      refine fmV_goto (pc := 126) (tgt := 55) F dX5_pass_126 (by decide) ?_
                      first
                        | refine fmV_sg (σ1 := (fmIt (gLv b cc t) (gP1 σ b rc cc t) (j + 1))) (gLv_yes (k64b j) h4 h5 h6 h7) ?_
                        | refine fmV_sg (σ1 := (fmIt (gLv b cc t) (gP1 σ b rc cc t) (j + 1))) (gLv_no (k64b j) (fun q => by first | exact h7 q.2.2.2 | exact q.2.2.1 h6 | exact q.2.1 h5 | exact h4 q.1)) ?_
                      refine fmV_lv ?_ ih
                      exact ⟨rfl, rfl, rfl, by rw [nI_succ j]; rfl, trivial⟩
        · rw [k62a] at h2
          exact absurd (nI_le (Nat.le_refl rc) (by omega)) h2
      · intro j hj ih
        refine fmV_iload_n (pc := 30) (i := 3) F dX5_pass_30 rfl rfl ?_
        refine fmV_aload_n (pc := 31) (i := 0) F dX5_pass_31 rfl rfl ?_
        refine fmg_23_this0 (pc := 32) F (by assumption) hin_X5 dX5_pass_32 (List.mem_of_getElem? (i := 2) rfl) ?_
        refine fmgN_14_rows (pc := 35) F hX  hin_X6 dX5_pass_35 (List.mem_of_getElem? (i := 19) rfl) ?_
        refine fmV_icmp_ge (pc := 38) (tgt := 53) F dX5_pass_38 (by decide) (fun h2 => ?_) (fun h2 => ?_)
        · rw [k62a] at h2
          exact absurd h2 (nI_ge hj (by omega))
        · refine fmV_aload_n (pc := 41) (i := 0) F dX5_pass_41 rfl rfl ?_
          refine fmV_iload_n (pc := 42) (i := 3) F dX5_pass_42 rfl rfl ?_
          refine fmV_aload_n (pc := 43) (i := 1) F dX5_pass_43 rfl rfl ?_
          refine fmV_xVv (n := 2) (pc := 44) F hX (c_X5_drift l D A G (fmIt (fun r τ => gDrift τ b rc cc t r) (gDid σ cc) j) o hb hcc (k63a j) hrc (k62a j) ht (k64a j) hj) gX5_pass_X5_drift rfl rfl rfl (by decide +kernel) ⟨Nat.le_of_ble_eq_true rfl, Nat.le_of_ble_eq_true rfl⟩ (fmR_23 F (by assumption)) rfl rfl (Nat.le_of_ble_eq_true rfl) dX5_pass_44 ⟨Nat.le_of_ble_eq_true rfl, Nat.le_of_ble_eq_true rfl⟩ (fun _ _ h9 => False.elim h9) (fun u10 hc12 => ?_)
          have hc12 := hc12.symm
          subst hc12
          refine fmV_iinc (pc := 47) (i := 3) F dX5_pass_47 rfl rfl (by decide) ?_
          refine fmV_goto (pc := 50) (tgt := 30) F dX5_pass_50 (by decide) ?_
          refine fmV_lv ?_ ih
          exact ⟨rfl, rfl, rfl, by rw [nI_succ j]; rfl, trivial⟩
    · rw [k630] at h1
      exact absurd (nI_le (Nat.le_refl cc) (by omega)) h1
  · intro j hj ih
    have hj14 : j < 14 := by omega
    refine fmV_iload_n (pc := 7) (i := 3) F dX5_pass_7 rfl rfl ?_
    refine fmV_aload_n (pc := 8) (i := 0) F dX5_pass_8 rfl rfl ?_
    refine fmg_23_this0 (pc := 9) F (by assumption) hin_X5 dX5_pass_9 (List.mem_of_getElem? (i := 2) rfl) ?_
    refine fmgN_14_canoes (pc := 12) F hX  hin_X6 dX5_pass_12 (List.mem_of_getElem? (i := 23) rfl) ?_
    refine fmV_icmp_ge (pc := 15) (tgt := 28) F dX5_pass_15 (by decide) (fun h1 => ?_) (fun h1 => ?_)
    · rw [k630] at h1
      exact absurd h1 (nI_ge hj (by omega))
    · refine fmV_aload_n (pc := 18) (i := 1) F dX5_pass_18 rfl rfl ?_
      refine fmV_iload_n (pc := 19) (i := 3) F dX5_pass_19 rfl rfl ?_
      refine fmV_iconst (pc := 20) (v := 0) F dX5_pass_20 rfl ?_
      refine fmV_zast (pc := 21) F dX5_pass_21 (vp_in_nI (by omega) (by decide)) (fm_cn (by omega)) ?_
      refine fmV_iinc (pc := 22) (i := 3) F dX5_pass_22 rfl rfl (by decide) ?_
      refine fmV_goto (pc := 25) (tgt := 7) F dX5_pass_25 (by decide) ?_
      refine fmV_sg (σ1 := (fmu σ 22 0 0 (gZ σ (j + 1)))) (by rw [fmu_self, fmu_fmu, ← gZ_s]; first | done | rfl) ?_
      refine fmV_lv ?_ ih
      exact ⟨rfl, rfl, rfl, by rw [nI_succ j]; rfl, trivial⟩
