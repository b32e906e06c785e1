set_option maxHeartbeats 4000000 in
set_option maxRecDepth 100000 in
theorem c_X6_canoeTold (l : Launch) (D : va_G) (A : Nat → Prop) (G : fmG) (σ : fmS) (o : Nat → Int64) (hG : G.1 36 0 0 = 0) {c w : Nat} (hc : c < 14) (hw : w < 11) : fmXi l D A G yX6_canoeTold wsX6_canoeTold (fmRm 3 1 11) 1 11 [.ref (G.1 14 0 0), .int (nI c), .int (nI w)] σ o (fun r u => r = gFig σ c w ∧ u = σ) (fun _ _ => False) := by
  refine fmXi_of (cc := cX6_canoeTold) (maxL := 5) (ret := (some .int)) (by decide +kernel) rfl (Nat.le_of_ble_eq_true rfl) ?_
  intro P_ E_ S_ M_ args_ below_ meth_ C_ F hX hnt
  have hin_X6 : ∀ w ∈ wsX60, w ∈ wsX6_canoeTold := (fun _ h => List.mem_cons_of_mem _ (List.mem_append_left _ (List.mem_append_right _ h)))
  have hin_X5 : ∀ w ∈ wsX50, w ∈ wsX6_canoeTold := (fun _ h => List.mem_cons_of_mem _ (List.mem_append_right _ h))
  have hb0 : (0 : Nat) < 2 := by decide
  refine fmV_aload_n (pc := 0) (i := 0) F dX6_canoeTold_0 rfl rfl ?_
  refine fmg_14_s (pc := 1) F  hin_X6 dX6_canoeTold_1 (List.mem_of_getElem? (i := 1) rfl) ?_
  refine fmgN_23_is (pc := 4) F hX (by assumption) hin_X5 dX6_canoeTold_4 (List.mem_of_getElem? (i := 11) rfl) ?_
  refine fmV_iload_n (pc := 7) (i := 1) F dX6_canoeTold_7 rfl rfl ?_
  refine fmal_26 (pc := 8) F (by assumption) dX6_canoeTold_8 (vp_in_nI (by omega) (by decide)) (fm_cn (by omega)) ?_
  refine fmV_iconst (pc := 9) (v := 1) F dX6_canoeTold_9 rfl ?_
  refine fmV_icmp_ne (pc := 10) (tgt := 17) F dX6_canoeTold_10 (by decide) (fun h1 => ?_) (fun h1 => ?_)
  · refine fmV_iconst (pc := 17) (v := 0) F dX6_canoeTold_17 rfl ?_
    refine fmV_istore_n (pc := 18) (i := 3) F dX6_canoeTold_18 rfl (by decide) ?_
    refine fmV_bipush (pc := 19) (v := 11) F dX6_canoeTold_19 (by decide) ?_
    refine fmV_newa (pc := 21) F hG (n := 11) rfl (List.mem_of_getElem? (i := 2) rfl) (by decide) (by decide) (by decide) (by decide +kernel) (Nat.le_of_ble_eq_true rfl) (Nat.le_of_ble_eq_true rfl) dX6_canoeTold_21 (fun q F1 => ?_)
    refine fmV_sg (σ1 := (fmu σ 35 0 0 (gT (gFig σ c) 0))) (by rw [gT_0]) ?_
    refine fmV_lv (lv' := [(0, .ref ((fmGx G q 11).1 14 0 0)), (1, .int (nI c)), (2, .int (nI w)), (3, .int 0)]) ⟨rfl, rfl, rfl, rfl, trivial⟩ ?_
    refine fmV_dup (pc := 23) F1 dX6_canoeTold_23 rfl ?_
    refine fmV_iconst (pc := 24) (v := 0) F1 dX6_canoeTold_24 rfl ?_
    refine fmV_aload_n (pc := 25) (i := 0) F1 dX6_canoeTold_25 rfl rfl ?_
    refine fmg_14_s (pc := 26) F1  hin_X6 dX6_canoeTold_26 (List.mem_of_getElem? (i := 1) rfl) ?_
    refine fmgN_23_coins (pc := 29) F1 hX (by assumption) hin_X5 dX6_canoeTold_29 (List.mem_of_getElem? (i := 9) rfl) ?_
    refine fmV_iload_n (pc := 32) (i := 1) F1 dX6_canoeTold_32 rfl rfl ?_
    refine fmal_24 (pc := 33) F1 (by assumption) dX6_canoeTold_33 (vp_in_nI (by omega) (by decide)) (fm_cn (by omega)) ?_
    refine fmas_35 (pc := 34) F1 (show (11 : Nat) ≠ 0 by decide) dX6_canoeTold_34 (vp_in_nI (show 0 < 11 by decide) (show 11 < 2 ^ 31 by decide)) (show (0 : Int32).toNatClampNeg = 0 by decide) ?_
    refine fmV_sg (σ1 := (fmu σ 35 0 0 (gT (gFig σ c) 1))) (tmp_s σ (gFig σ c) 0 (by rw [fmu_c _ _ _ _ _ (by decide)]; rfl)) ?_
    refine fmV_dup (pc := 35) F1 dX6_canoeTold_35 rfl ?_
    refine fmV_iconst (pc := 36) (v := 1) F1 dX6_canoeTold_36 rfl ?_
    refine fmV_aload_n (pc := 37) (i := 0) F1 dX6_canoeTold_37 rfl rfl ?_
    refine fmg_14_rope (pc := 38) F1  hin_X6 dX6_canoeTold_38 (List.mem_of_getElem? (i := 3) rfl) ?_
    refine fmV_iload_n (pc := 41) (i := 1) F1 dX6_canoeTold_41 rfl rfl ?_
    refine fmal_18 (pc := 42) F1  dX6_canoeTold_42 (vp_in_nI (by omega) (by decide)) (fm_cn (by omega)) ?_
    refine fmas_35 (pc := 43) F1 (show (11 : Nat) ≠ 0 by decide) dX6_canoeTold_43 (vp_in_nI (show 1 < 11 by decide) (show 11 < 2 ^ 31 by decide)) (show (1 : Int32).toNatClampNeg = 1 by decide) ?_
    refine fmV_sg (σ1 := (fmu σ 35 0 0 (gT (gFig σ c) 2))) (tmp_s σ (gFig σ c) 1 (by rw [fmu_c _ _ _ _ _ (by decide)]; rfl)) ?_
    refine fmV_dup (pc := 44) F1 dX6_canoeTold_44 rfl ?_
    refine fmV_iconst (pc := 45) (v := 2) F1 dX6_canoeTold_45 rfl ?_
    refine fmV_aload_n (pc := 46) (i := 0) F1 dX6_canoeTold_46 rfl rfl ?_
    refine fmg_14_s (pc := 47) F1  hin_X6 dX6_canoeTold_47 (List.mem_of_getElem? (i := 1) rfl) ?_
    refine fmgN_23_is (pc := 50) F1 hX (by assumption) hin_X5 dX6_canoeTold_50 (List.mem_of_getElem? (i := 11) rfl) ?_
    refine fmV_iload_n (pc := 53) (i := 1) F1 dX6_canoeTold_53 rfl rfl ?_
    refine fmal_26 (pc := 54) F1 (by assumption) dX6_canoeTold_54 (vp_in_nI (by omega) (by decide)) (fm_cn (by omega)) ?_
    refine fmas_35 (pc := 55) F1 (show (11 : Nat) ≠ 0 by decide) dX6_canoeTold_55 (vp_in_nI (show 2 < 11 by decide) (show 11 < 2 ^ 31 by decide)) (show (2 : Int32).toNatClampNeg = 2 by decide) ?_
    refine fmV_sg (σ1 := (fmu σ 35 0 0 (gT (gFig σ c) 3))) (tmp_s σ (gFig σ c) 2 (by rw [fmu_c _ _ _ _ _ (by decide)]; rfl)) ?_
    refine fmV_dup (pc := 56) F1 dX6_canoeTold_56 rfl ?_
    refine fmV_iconst (pc := 57) (v := 3) F1 dX6_canoeTold_57 rfl ?_
    refine fmV_iload_n (pc := 58) (i := 3) F1 dX6_canoeTold_58 rfl rfl ?_
    refine fmV_if_eq (pc := 59) (tgt := 74) F1 dX6_canoeTold_59 (by decide) (fun k1 => ?_) (fun k1 => ?_)
    · refine fmV_iconst (pc := 74) (v := (-1)) F1 dX6_canoeTold_74 rfl ?_
      refine fmas_35 (pc := 75) F1 (show (11 : Nat) ≠ 0 by decide) dX6_canoeTold_75 (vp_in_nI (show 3 < 11 by decide) (show 11 < 2 ^ 31 by decide)) (show (3 : Int32).toNatClampNeg = 3 by decide) ?_
      refine fmV_sg (σ1 := (fmu σ 35 0 0 (gT (gFig σ c) 4))) (tmp_s σ (gFig σ c) 3 (by first | exact (if_pos h1).symm | exact (if_neg h1).symm)) ?_
      refine fmV_dup (pc := 76) F1 dX6_canoeTold_76 rfl ?_
      refine fmV_iconst (pc := 77) (v := 4) F1 dX6_canoeTold_77 rfl ?_
      refine fmV_iload_n (pc := 78) (i := 3) F1 dX6_canoeTold_78 rfl rfl ?_
      refine fmV_if_eq (pc := 79) (tgt := 94) F1 dX6_canoeTold_79 (by decide) (fun k2 => ?_) (fun k2 => ?_)
      · refine fmV_iconst (pc := 94) (v := (-1)) F1 dX6_canoeTold_94 rfl ?_
        refine fmas_35 (pc := 95) F1 (show (11 : Nat) ≠ 0 by decide) dX6_canoeTold_95 (vp_in_nI (show 4 < 11 by decide) (show 11 < 2 ^ 31 by decide)) (show (4 : Int32).toNatClampNeg = 4 by decide) ?_
        refine fmV_sg (σ1 := (fmu σ 35 0 0 (gT (gFig σ c) 5))) (tmp_s σ (gFig σ c) 4 (by first | exact (if_pos h1).symm | exact (if_neg h1).symm)) ?_
        refine fmV_dup (pc := 96) F1 dX6_canoeTold_96 rfl ?_
        refine fmV_iconst (pc := 97) (v := 5) F1 dX6_canoeTold_97 rfl ?_
        refine fmV_aload_n (pc := 98) (i := 0) F1 dX6_canoeTold_98 rfl rfl ?_
        refine fmg_14_s (pc := 99) F1  hin_X6 dX6_canoeTold_99 (List.mem_of_getElem? (i := 1) rfl) ?_
        refine fmgN_23_leaves (pc := 102) F1 hX (by assumption) hin_X5 dX6_canoeTold_102 (List.mem_of_getElem? (i := 14) rfl) ?_
        refine fmV_iload_n (pc := 105) (i := 1) F1 dX6_canoeTold_105 rfl rfl ?_
        refine fmal_29 (pc := 106) F1 (by assumption) dX6_canoeTold_106 (vp_in_nI (by omega) (by decide)) (fm_cn (by omega)) ?_
        refine fmas_35 (pc := 107) F1 (show (11 : Nat) ≠ 0 by decide) dX6_canoeTold_107 (vp_in_nI (show 5 < 11 by decide) (show 11 < 2 ^ 31 by decide)) (show (5 : Int32).toNatClampNeg = 5 by decide) ?_
        refine fmV_sg (σ1 := (fmu σ 35 0 0 (gT (gFig σ c) 6))) (tmp_s σ (gFig σ c) 5 (by rw [fmu_c _ _ _ _ _ (by decide)]; rfl)) ?_
        refine fmV_dup (pc := 108) F1 dX6_canoeTold_108 rfl ?_
        refine fmV_bipush (pc := 109) (v := 6) F1 dX6_canoeTold_109 (by decide) ?_
        refine fmV_aload_n (pc := 111) (i := 0) F1 dX6_canoeTold_111 rfl rfl ?_
        refine fmg_14_s (pc := 112) F1  hin_X6 dX6_canoeTold_112 (List.mem_of_getElem? (i := 1) rfl) ?_
        refine fmgN_23_loosened (pc := 115) F1 hX (by assumption) hin_X5 dX6_canoeTold_115 (List.mem_of_getElem? (i := 15) rfl) ?_
        refine fmV_iload_n (pc := 118) (i := 1) F1 dX6_canoeTold_118 rfl rfl ?_
        refine fmal_30 (pc := 119) F1 (by assumption) dX6_canoeTold_119 (vp_in_nI (by omega) (by decide)) (fm_cn (by omega)) ?_
        refine fmas_35 (pc := 120) F1 (show (11 : Nat) ≠ 0 by decide) dX6_canoeTold_120 (vp_in_nI (show 6 < 11 by decide) (show 11 < 2 ^ 31 by decide)) (show (6 : Int32).toNatClampNeg = 6 by decide) ?_
        refine fmV_sg (σ1 := (fmu σ 35 0 0 (gT (gFig σ c) 7))) (tmp_s σ (gFig σ c) 6 (by rw [fmu_c _ _ _ _ _ (by decide)]; rfl)) ?_
        refine fmV_dup (pc := 121) F1 dX6_canoeTold_121 rfl ?_
        refine fmV_bipush (pc := 122) (v := 7) F1 dX6_canoeTold_122 (by decide) ?_
        refine fmV_aload_n (pc := 124) (i := 0) F1 dX6_canoeTold_124 rfl rfl ?_
        refine fmg_14_s (pc := 125) F1  hin_X6 dX6_canoeTold_125 (List.mem_of_getElem? (i := 1) rfl) ?_
        refine fmgN_23_drifted (pc := 128) F1 hX (by assumption) hin_X5 dX6_canoeTold_128 (List.mem_of_getElem? (i := 16) rfl) ?_
        refine fmV_iload_n (pc := 131) (i := 1) F1 dX6_canoeTold_131 rfl rfl ?_
        refine fmal_31 (pc := 132) F1 (by assumption) dX6_canoeTold_132 (vp_in_nI (by omega) (by decide)) (fm_cn (by omega)) ?_
        refine fmas_35 (pc := 133) F1 (show (11 : Nat) ≠ 0 by decide) dX6_canoeTold_133 (vp_in_nI (show 7 < 11 by decide) (show 11 < 2 ^ 31 by decide)) (show (7 : Int32).toNatClampNeg = 7 by decide) ?_
        refine fmV_sg (σ1 := (fmu σ 35 0 0 (gT (gFig σ c) 8))) (tmp_s σ (gFig σ c) 7 (by rw [fmu_c _ _ _ _ _ (by decide)]; rfl)) ?_
        refine fmV_dup (pc := 134) F1 dX6_canoeTold_134 rfl ?_
        refine fmV_bipush (pc := 135) (v := 8) F1 dX6_canoeTold_135 (by decide) ?_
        refine fmV_aload_n (pc := 137) (i := 0) F1 dX6_canoeTold_137 rfl rfl ?_
        refine fmg_14_s (pc := 138) F1  hin_X6 dX6_canoeTold_138 (List.mem_of_getElem? (i := 1) rfl) ?_
        refine fmgN_23_sold (pc := 141) F1 hX (by assumption) hin_X5 dX6_canoeTold_141 (List.mem_of_getElem? (i := 17) rfl) ?_
        refine fmV_iload_n (pc := 144) (i := 1) F1 dX6_canoeTold_144 rfl rfl ?_
        refine fmal_32 (pc := 145) F1 (by assumption) dX6_canoeTold_145 (vp_in_nI (by omega) (by decide)) (fm_cn (by omega)) ?_
        refine fmas_35 (pc := 146) F1 (show (11 : Nat) ≠ 0 by decide) dX6_canoeTold_146 (vp_in_nI (show 8 < 11 by decide) (show 11 < 2 ^ 31 by decide)) (show (8 : Int32).toNatClampNeg = 8 by decide) ?_
        refine fmV_sg (σ1 := (fmu σ 35 0 0 (gT (gFig σ c) 9))) (tmp_s σ (gFig σ c) 8 (by rw [fmu_c _ _ _ _ _ (by decide)]; rfl)) ?_
        refine fmV_dup (pc := 147) F1 dX6_canoeTold_147 rfl ?_
        refine fmV_bipush (pc := 148) (v := 9) F1 dX6_canoeTold_148 (by decide) ?_
        refine fmV_aload_n (pc := 150) (i := 0) F1 dX6_canoeTold_150 rfl rfl ?_
        refine fmg_14_s (pc := 151) F1  hin_X6 dX6_canoeTold_151 (List.mem_of_getElem? (i := 1) rfl) ?_
        refine fmgN_23_bought (pc := 154) F1 hX (by assumption) hin_X5 dX6_canoeTold_154 (List.mem_of_getElem? (i := 18) rfl) ?_
        refine fmV_iload_n (pc := 157) (i := 1) F1 dX6_canoeTold_157 rfl rfl ?_
        refine fmal_33 (pc := 158) F1 (by assumption) dX6_canoeTold_158 (vp_in_nI (by omega) (by decide)) (fm_cn (by omega)) ?_
        refine fmas_35 (pc := 159) F1 (show (11 : Nat) ≠ 0 by decide) dX6_canoeTold_159 (vp_in_nI (show 9 < 11 by decide) (show 11 < 2 ^ 31 by decide)) (show (9 : Int32).toNatClampNeg = 9 by decide) ?_
        refine fmV_sg (σ1 := (fmu σ 35 0 0 (gT (gFig σ c) 10))) (tmp_s σ (gFig σ c) 9 (by rw [fmu_c _ _ _ _ _ (by decide)]; rfl)) ?_
        refine fmV_dup (pc := 160) F1 dX6_canoeTold_160 rfl ?_
        refine fmV_bipush (pc := 161) (v := 10) F1 dX6_canoeTold_161 (by decide) ?_
        refine fmV_aload_n (pc := 163) (i := 0) F1 dX6_canoeTold_163 rfl rfl ?_
        refine fmg_14_s (pc := 164) F1  hin_X6 dX6_canoeTold_164 (List.mem_of_getElem? (i := 1) rfl) ?_
        refine fmV_iload_n (pc := 167) (i := 1) F1 dX6_canoeTold_167 rfl rfl ?_
        refine fmV_xVi (n := 1) (pc := 168) F1 hX (c_X5_misses_ l D A (fmGx G q 11) (fmu σ 35 0 0 (gT (gFig σ c) 10)) o hb0 hc) gX6_canoeTold_X5_misses_ rfl rfl rfl (by decide +kernel) ⟨Nat.le_of_ble_eq_true rfl, Nat.le_of_ble_eq_true rfl⟩ (fmR_23 F1 (by assumption)) rfl rfl (Nat.le_of_ble_eq_true rfl) dX6_canoeTold_168 ⟨Nat.le_of_ble_eq_true rfl, Nat.le_of_ble_eq_true rfl⟩ (fun _ _ h9 => False.elim h9) (fun r2 u1 hc3 => ?_)
        obtain ⟨hr9, hu9⟩ := hc3
        have hr9 := hr9.symm
        have hu9 := hu9.symm
        subst hr9
        subst hu9
        refine fmas_35 (pc := 171) F1 (show (11 : Nat) ≠ 0 by decide) dX6_canoeTold_171 (vp_in_nI (show 10 < 11 by decide) (show 11 < 2 ^ 31 by decide)) (show (10 : Int32).toNatClampNeg = 10 by decide) ?_
        refine fmV_sg (σ1 := (fmu σ 35 0 0 (gT (gFig σ c) 11))) (tmp_s σ (gFig σ c) 10 (gMsAll_35 (σ := σ))) ?_
        refine fmV_astore (pc := 172) (i := 4) F1 dX6_canoeTold_172 (by decide) ?_
        refine fmV_aload (pc := 174) (i := 4) F1 dX6_canoeTold_174 rfl ?_
        refine fmV_iload_n (pc := 176) (i := 2) F1 dX6_canoeTold_176 rfl rfl ?_
        refine fmal_35 (pc := 177) F1 (show (11 : Nat) ≠ 0 by decide) dX6_canoeTold_177 (vp_in_nI (show w < 11 from hw) (show 11 < 2 ^ 31 by decide)) (fm_cn (by omega)) ?_
        refine fmV_forget hG (by decide) (σ0 := σ) (fun c m k h => fmu_ne _ _ _ _ _ (fun q => h q.1)) ?_
        refine fmV_widen (k := 1) (n := 11) (Nat.le_of_ble_eq_true rfl) (Nat.le_of_ble_eq_true rfl) ?_
        refine fmV_xr ?_
        exact fmV_iret (pc := 178) F dX6_canoeTold_178 rfl ⟨by rw [fmu_self, gT, if_pos hw], rfl⟩
      · exact absurd k2 (by decide)
    · exact absurd k1 (by decide)
  · refine fmV_iconst (pc := 13) (v := 1) F dX6_canoeTold_13 rfl ?_
    refine fmV_goto (pc := 14) (tgt := 18) F dX6_canoeTold_14 (by decide) ?_
    refine fmV_istore_n (pc := 18) (i := 3) F dX6_canoeTold_18 rfl (by decide) ?_
    refine fmV_bipush (pc := 19) (v := 11) F dX6_canoeTold_19 (by decide) ?_
    refine fmV_newa (pc := 21) F hG (n := 11) rfl (List.mem_of_getElem? (i := 2) rfl) (by decide) (by decide) (by decide) (by decide +kernel) (Nat.le_of_ble_eq_true rfl) (Nat.le_of_ble_eq_true rfl) dX6_canoeTold_21 (fun q F1 => ?_)
    refine fmV_sg (σ1 := (fmu σ 35 0 0 (gT (gFig σ c) 0))) (by rw [gT_0]) ?_
    refine fmV_lv (lv' := [(0, .ref ((fmGx G q 11).1 14 0 0)), (1, .int (nI c)), (2, .int (nI w)), (3, .int 1)]) ⟨rfl, rfl, rfl, rfl, trivial⟩ ?_
    refine fmV_dup (pc := 23) F1 dX6_canoeTold_23 rfl ?_
    refine fmV_iconst (pc := 24) (v := 0) F1 dX6_canoeTold_24 rfl ?_
    refine fmV_aload_n (pc := 25) (i := 0) F1 dX6_canoeTold_25 rfl rfl ?_
    refine fmg_14_s (pc := 26) F1  hin_X6 dX6_canoeTold_26 (List.mem_of_getElem? (i := 1) rfl) ?_
    refine fmgN_23_coins (pc := 29) F1 hX (by assumption) hin_X5 dX6_canoeTold_29 (List.mem_of_getElem? (i := 9) rfl) ?_
    refine fmV_iload_n (pc := 32) (i := 1) F1 dX6_canoeTold_32 rfl rfl ?_
    refine fmal_24 (pc := 33) F1 (by assumption) dX6_canoeTold_33 (vp_in_nI (by omega) (by decide)) (fm_cn (by omega)) ?_
    refine fmas_35 (pc := 34) F1 (show (11 : Nat) ≠ 0 by decide) dX6_canoeTold_34 (vp_in_nI (show 0 < 11 by decide) (show 11 < 2 ^ 31 by decide)) (show (0 : Int32).toNatClampNeg = 0 by decide) ?_
    refine fmV_sg (σ1 := (fmu σ 35 0 0 (gT (gFig σ c) 1))) (tmp_s σ (gFig σ c) 0 (by rw [fmu_c _ _ _ _ _ (by decide)]; rfl)) ?_
    refine fmV_dup (pc := 35) F1 dX6_canoeTold_35 rfl ?_
    refine fmV_iconst (pc := 36) (v := 1) F1 dX6_canoeTold_36 rfl ?_
    refine fmV_aload_n (pc := 37) (i := 0) F1 dX6_canoeTold_37 rfl rfl ?_
    refine fmg_14_rope (pc := 38) F1  hin_X6 dX6_canoeTold_38 (List.mem_of_getElem? (i := 3) rfl) ?_
    refine fmV_iload_n (pc := 41) (i := 1) F1 dX6_canoeTold_41 rfl rfl ?_
    refine fmal_18 (pc := 42) F1  dX6_canoeTold_42 (vp_in_nI (by omega) (by decide)) (fm_cn (by omega)) ?_
    refine fmas_35 (pc := 43) F1 (show (11 : Nat) ≠ 0 by decide) dX6_canoeTold_43 (vp_in_nI (show 1 < 11 by decide) (show 11 < 2 ^ 31 by decide)) (show (1 : Int32).toNatClampNeg = 1 by decide) ?_
    refine fmV_sg (σ1 := (fmu σ 35 0 0 (gT (gFig σ c) 2))) (tmp_s σ (gFig σ c) 1 (by rw [fmu_c _ _ _ _ _ (by decide)]; rfl)) ?_
    refine fmV_dup (pc := 44) F1 dX6_canoeTold_44 rfl ?_
    refine fmV_iconst (pc := 45) (v := 2) F1 dX6_canoeTold_45 rfl ?_
    refine fmV_aload_n (pc := 46) (i := 0) F1 dX6_canoeTold_46 rfl rfl ?_
    refine fmg_14_s (pc := 47) F1  hin_X6 dX6_canoeTold_47 (List.mem_of_getElem? (i := 1) rfl) ?_
    refine fmgN_23_is (pc := 50) F1 hX (by assumption) hin_X5 dX6_canoeTold_50 (List.mem_of_getElem? (i := 11) rfl) ?_
    refine fmV_iload_n (pc := 53) (i := 1) F1 dX6_canoeTold_53 rfl rfl ?_
    refine fmal_26 (pc := 54) F1 (by assumption) dX6_canoeTold_54 (vp_in_nI (by omega) (by decide)) (fm_cn (by omega)) ?_
    refine fmas_35 (pc := 55) F1 (show (11 : Nat) ≠ 0 by decide) dX6_canoeTold_55 (vp_in_nI (show 2 < 11 by decide) (show 11 < 2 ^ 31 by decide)) (show (2 : Int32).toNatClampNeg = 2 by decide) ?_
    refine fmV_sg (σ1 := (fmu σ 35 0 0 (gT (gFig σ c) 3))) (tmp_s σ (gFig σ c) 2 (by rw [fmu_c _ _ _ _ _ (by decide)]; rfl)) ?_
    refine fmV_dup (pc := 56) F1 dX6_canoeTold_56 rfl ?_
    refine fmV_iconst (pc := 57) (v := 3) F1 dX6_canoeTold_57 rfl ?_
    refine fmV_iload_n (pc := 58) (i := 3) F1 dX6_canoeTold_58 rfl rfl ?_
    refine fmV_if_eq (pc := 59) (tgt := 74) F1 dX6_canoeTold_59 (by decide) (fun k1 => ?_) (fun k1 => ?_)
    · exact absurd k1 (by decide)
    · refine fmV_aload_n (pc := 62) (i := 0) F1 dX6_canoeTold_62 rfl rfl ?_
      refine fmg_14_s (pc := 63) F1  hin_X6 dX6_canoeTold_63 (List.mem_of_getElem? (i := 1) rfl) ?_
      refine fmgN_23_row (pc := 66) F1 hX (by assumption) hin_X5 dX6_canoeTold_66 (List.mem_of_getElem? (i := 12) rfl) ?_
      refine fmV_iload_n (pc := 69) (i := 1) F1 dX6_canoeTold_69 rfl rfl ?_
      refine fmal_27 (pc := 70) F1 (by assumption) dX6_canoeTold_70 (vp_in_nI (by omega) (by decide)) (fm_cn (by omega)) ?_
      refine fmV_goto (pc := 71) (tgt := 75) F1 dX6_canoeTold_71 (by decide) ?_
      refine fmas_35 (pc := 75) F1 (show (11 : Nat) ≠ 0 by decide) dX6_canoeTold_75 (vp_in_nI (show 3 < 11 by decide) (show 11 < 2 ^ 31 by decide)) (show (3 : Int32).toNatClampNeg = 3 by decide) ?_
      refine fmV_sg (σ1 := (fmu σ 35 0 0 (gT (gFig σ c) 4))) (tmp_s σ (gFig σ c) 3 (by first | exact (if_pos h1).symm | exact (if_neg h1).symm)) ?_
      refine fmV_dup (pc := 76) F1 dX6_canoeTold_76 rfl ?_
      refine fmV_iconst (pc := 77) (v := 4) F1 dX6_canoeTold_77 rfl ?_
      refine fmV_iload_n (pc := 78) (i := 3) F1 dX6_canoeTold_78 rfl rfl ?_
      refine fmV_if_eq (pc := 79) (tgt := 94) F1 dX6_canoeTold_79 (by decide) (fun k2 => ?_) (fun k2 => ?_)
      · exact absurd k2 (by decide)
      · refine fmV_aload_n (pc := 82) (i := 0) F1 dX6_canoeTold_82 rfl rfl ?_
        refine fmg_14_s (pc := 83) F1  hin_X6 dX6_canoeTold_83 (List.mem_of_getElem? (i := 1) rfl) ?_
        refine fmgN_23_place (pc := 86) F1 hX (by assumption) hin_X5 dX6_canoeTold_86 (List.mem_of_getElem? (i := 13) rfl) ?_
        refine fmV_iload_n (pc := 89) (i := 1) F1 dX6_canoeTold_89 rfl rfl ?_
        refine fmal_28 (pc := 90) F1 (by assumption) dX6_canoeTold_90 (vp_in_nI (by omega) (by decide)) (fm_cn (by omega)) ?_
        refine fmV_goto (pc := 91) (tgt := 95) F1 dX6_canoeTold_91 (by decide) ?_
        refine fmas_35 (pc := 95) F1 (show (11 : Nat) ≠ 0 by decide) dX6_canoeTold_95 (vp_in_nI (show 4 < 11 by decide) (show 11 < 2 ^ 31 by decide)) (show (4 : Int32).toNatClampNeg = 4 by decide) ?_
        refine fmV_sg (σ1 := (fmu σ 35 0 0 (gT (gFig σ c) 5))) (tmp_s σ (gFig σ c) 4 (by first | exact (if_pos h1).symm | exact (if_neg h1).symm)) ?_
        refine fmV_dup (pc := 96) F1 dX6_canoeTold_96 rfl ?_
        refine fmV_iconst (pc := 97) (v := 5) F1 dX6_canoeTold_97 rfl ?_
        refine fmV_aload_n (pc := 98) (i := 0) F1 dX6_canoeTold_98 rfl rfl ?_
        refine fmg_14_s (pc := 99) F1  hin_X6 dX6_canoeTold_99 (List.mem_of_getElem? (i := 1) rfl) ?_
        refine fmgN_23_leaves (pc := 102) F1 hX (by assumption) hin_X5 dX6_canoeTold_102 (List.mem_of_getElem? (i := 14) rfl) ?_
        refine fmV_iload_n (pc := 105) (i := 1) F1 dX6_canoeTold_105 rfl rfl ?_
        refine fmal_29 (pc := 106) F1 (by assumption) dX6_canoeTold_106 (vp_in_nI (by omega) (by decide)) (fm_cn (by omega)) ?_
        refine fmas_35 (pc := 107) F1 (show (11 : Nat) ≠ 0 by decide) dX6_canoeTold_107 (vp_in_nI (show 5 < 11 by decide) (show 11 < 2 ^ 31 by decide)) (show (5 : Int32).toNatClampNeg = 5 by decide) ?_
        refine fmV_sg (σ1 := (fmu σ 35 0 0 (gT (gFig σ c) 6))) (tmp_s σ (gFig σ c) 5 (by rw [fmu_c _ _ _ _ _ (by decide)]; rfl)) ?_
        refine fmV_dup (pc := 108) F1 dX6_canoeTold_108 rfl ?_
        refine fmV_bipush (pc := 109) (v := 6) F1 dX6_canoeTold_109 (by decide) ?_
        refine fmV_aload_n (pc := 111) (i := 0) F1 dX6_canoeTold_111 rfl rfl ?_
        refine fmg_14_s (pc := 112) F1  hin_X6 dX6_canoeTold_112 (List.mem_of_getElem? (i := 1) rfl) ?_
        refine fmgN_23_loosened (pc := 115) F1 hX (by assumption) hin_X5 dX6_canoeTold_115 (List.mem_of_getElem? (i := 15) rfl) ?_
        refine fmV_iload_n (pc := 118) (i := 1) F1 dX6_canoeTold_118 rfl rfl ?_
        refine fmal_30 (pc := 119) F1 (by assumption) dX6_canoeTold_119 (vp_in_nI (by omega) (by decide)) (fm_cn (by omega)) ?_
        refine fmas_35 (pc := 120) F1 (show (11 : Nat) ≠ 0 by decide) dX6_canoeTold_120 (vp_in_nI (show 6 < 11 by decide) (show 11 < 2 ^ 31 by decide)) (show (6 : Int32).toNatClampNeg = 6 by decide) ?_
        refine fmV_sg (σ1 := (fmu σ 35 0 0 (gT (gFig σ c) 7))) (tmp_s σ (gFig σ c) 6 (by rw [fmu_c _ _ _ _ _ (by decide)]; rfl)) ?_
        refine fmV_dup (pc := 121) F1 dX6_canoeTold_121 rfl ?_
        refine fmV_bipush (pc := 122) (v := 7) F1 dX6_canoeTold_122 (by decide) ?_
        refine fmV_aload_n (pc := 124) (i := 0) F1 dX6_canoeTold_124 rfl rfl ?_
        refine fmg_14_s (pc := 125) F1  hin_X6 dX6_canoeTold_125 (List.mem_of_getElem? (i := 1) rfl) ?_
        refine fmgN_23_drifted (pc := 128) F1 hX (by assumption) hin_X5 dX6_canoeTold_128 (List.mem_of_getElem? (i := 16) rfl) ?_
        refine fmV_iload_n (pc := 131) (i := 1) F1 dX6_canoeTold_131 rfl rfl ?_
        refine fmal_31 (pc := 132) F1 (by assumption) dX6_canoeTold_132 (vp_in_nI (by omega) (by decide)) (fm_cn (by omega)) ?_
        refine fmas_35 (pc := 133) F1 (show (11 : Nat) ≠ 0 by decide) dX6_canoeTold_133 (vp_in_nI (show 7 < 11 by decide) (show 11 < 2 ^ 31 by decide)) (show (7 : Int32).toNatClampNeg = 7 by decide) ?_
        refine fmV_sg (σ1 := (fmu σ 35 0 0 (gT (gFig σ c) 8))) (tmp_s σ (gFig σ c) 7 (by rw [fmu_c _ _ _ _ _ (by decide)]; rfl)) ?_
        refine fmV_dup (pc := 134) F1 dX6_canoeTold_134 rfl ?_
        refine fmV_bipush (pc := 135) (v := 8) F1 dX6_canoeTold_135 (by decide) ?_
        refine fmV_aload_n (pc := 137) (i := 0) F1 dX6_canoeTold_137 rfl rfl ?_
        refine fmg_14_s (pc := 138) F1  hin_X6 dX6_canoeTold_138 (List.mem_of_getElem? (i := 1) rfl) ?_
        refine fmgN_23_sold (pc := 141) F1 hX (by assumption) hin_X5 dX6_canoeTold_141 (List.mem_of_getElem? (i := 17) rfl) ?_
        refine fmV_iload_n (pc := 144) (i := 1) F1 dX6_canoeTold_144 rfl rfl ?_
        refine fmal_32 (pc := 145) F1 (by assumption) dX6_canoeTold_145 (vp_in_nI (by omega) (by decide)) (fm_cn (by omega)) ?_
        refine fmas_35 (pc := 146) F1 (show (11 : Nat) ≠ 0 by decide) dX6_canoeTold_146 (vp_in_nI (show 8 < 11 by decide) (show 11 < 2 ^ 31 by decide)) (show (8 : Int32).toNatClampNeg = 8 by decide) ?_
        refine fmV_sg (σ1 := (fmu σ 35 0 0 (gT (gFig σ c) 9))) (tmp_s σ (gFig σ c) 8 (by rw [fmu_c _ _ _ _ _ (by decide)]; rfl)) ?_
        refine fmV_dup (pc := 147) F1 dX6_canoeTold_147 rfl ?_
        refine fmV_bipush (pc := 148) (v := 9) F1 dX6_canoeTold_148 (by decide) ?_
        refine fmV_aload_n (pc := 150) (i := 0) F1 dX6_canoeTold_150 rfl rfl ?_
        refine fmg_14_s (pc := 151) F1  hin_X6 dX6_canoeTold_151 (List.mem_of_getElem? (i := 1) rfl) ?_
        refine fmgN_23_bought (pc := 154) F1 hX (by assumption) hin_X5 dX6_canoeTold_154 (List.mem_of_getElem? (i := 18) rfl) ?_
        refine fmV_iload_n (pc := 157) (i := 1) F1 dX6_canoeTold_157 rfl rfl ?_
        refine fmal_33 (pc := 158) F1 (by assumption) dX6_canoeTold_158 (vp_in_nI (by omega) (by decide)) (fm_cn (by omega)) ?_
        refine fmas_35 (pc := 159) F1 (show (11 : Nat) ≠ 0 by decide) dX6_canoeTold_159 (vp_in_nI (show 9 < 11 by decide) (show 11 < 2 ^ 31 by decide)) (show (9 : Int32).toNatClampNeg = 9 by decide) ?_
        refine fmV_sg (σ1 := (fmu σ 35 0 0 (gT (gFig σ c) 10))) (tmp_s σ (gFig σ c) 9 (by rw [fmu_c _ _ _ _ _ (by decide)]; rfl)) ?_
        refine fmV_dup (pc := 160) F1 dX6_canoeTold_160 rfl ?_
        refine fmV_bipush (pc := 161) (v := 10) F1 dX6_canoeTold_161 (by decide) ?_
        refine fmV_aload_n (pc := 163) (i := 0) F1 dX6_canoeTold_163 rfl rfl ?_
        refine fmg_14_s (pc := 164) F1  hin_X6 dX6_canoeTold_164 (List.mem_of_getElem? (i := 1) rfl) ?_
        refine fmV_iload_n (pc := 167) (i := 1) F1 dX6_canoeTold_167 rfl rfl ?_
        refine fmV_xVi (n := 1) (pc := 168) F1 hX (c_X5_misses_ l D A (fmGx G q 11) (fmu σ 35 0 0 (gT (gFig σ c) 10)) o hb0 hc) gX6_canoeTold_X5_misses_ rfl rfl rfl (by decide +kernel) ⟨Nat.le_of_ble_eq_true rfl, Nat.le_of_ble_eq_true rfl⟩ (fmR_23 F1 (by assumption)) rfl rfl (Nat.le_of_ble_eq_true rfl) dX6_canoeTold_168 ⟨Nat.le_of_ble_eq_true rfl, Nat.le_of_ble_eq_true rfl⟩ (fun _ _ h9 => False.elim h9) (fun r5 u4 hc6 => ?_)
        obtain ⟨hr9, hu9⟩ := hc6
        have hr9 := hr9.symm
        have hu9 := hu9.symm
        subst hr9
        subst hu9
        refine fmas_35 (pc := 171) F1 (show (11 : Nat) ≠ 0 by decide) dX6_canoeTold_171 (vp_in_nI (show 10 < 11 by decide) (show 11 < 2 ^ 31 by decide)) (show (10 : Int32).toNatClampNeg = 10 by decide) ?_
        refine fmV_sg (σ1 := (fmu σ 35 0 0 (gT (gFig σ c) 11))) (tmp_s σ (gFig σ c) 10 (gMsAll_35 (σ := σ))) ?_
        refine fmV_astore (pc := 172) (i := 4) F1 dX6_canoeTold_172 (by decide) ?_
        refine fmV_aload (pc := 174) (i := 4) F1 dX6_canoeTold_174 rfl ?_
        refine fmV_iload_n (pc := 176) (i := 2) F1 dX6_canoeTold_176 rfl rfl ?_
        refine fmal_35 (pc := 177) F1 (show (11 : Nat) ≠ 0 by decide) dX6_canoeTold_177 (vp_in_nI (show w < 11 from hw) (show 11 < 2 ^ 31 by decide)) (fm_cn (by omega)) ?_
        refine fmV_forget hG (by decide) (σ0 := σ) (fun c m k h => fmu_ne _ _ _ _ _ (fun q => h q.1)) ?_
        refine fmV_widen (k := 1) (n := 11) (Nat.le_of_ble_eq_true rfl) (Nat.le_of_ble_eq_true rfl) ?_
        refine fmV_xr ?_
        exact fmV_iret (pc := 178) F dX6_canoeTold_178 rfl ⟨by rw [fmu_self, gT, if_pos hw], rfl⟩

set_option maxHeartbeats 4000000 in
set_option maxRecDepth 100000 in
theorem c_X6_counted (l : Launch) (D : va_G) (A : Nat → Prop) (G : fmG) (σ : fmS) (o : Nat → Int64) (hG : G.1 36 0 0 = 0) {cc t w : Nat} (hcc : cc ≤ 14) (h63 : σ 63 0 0 0 = nI cc) (ht : t < 2 ^ 30) (h64 : σ 64 0 0 0 = nI t) (hw : w < 12) : fmXi l D A G yX6_counted wsX6_counted (fmRm 3 1 12) 1 12 [.ref (G.1 14 0 0), .int (nI w)] σ o (fun r u => r = gCnt σ cc t w ∧ u = σ) (fun _ _ => False) := by
  refine fmXi_of (cc := cX6_counted) (maxL := 4) (ret := (some .int)) (by decide +kernel) rfl (Nat.le_of_ble_eq_true rfl) ?_
  intro P_ E_ S_ M_ args_ below_ meth_ C_ F hX hnt
  have hin_X6 : ∀ w ∈ wsX60, w ∈ wsX6_counted := (fun _ h => List.mem_cons_of_mem _ (List.mem_append_left _ (List.mem_append_right _ h)))
  have hin_X5 : ∀ w ∈ wsX50, w ∈ wsX6_counted := (fun _ h => List.mem_cons_of_mem _ (List.mem_append_right _ h))
  have hb0 : (0 : Nat) < 2 := by decide
  refine fmV_iconst (pc := 0) (v := 0) F dX6_counted_0 rfl ?_
  refine fmV_istore_n (pc := 1) (i := 2) F dX6_counted_1 rfl (by decide) ?_
  refine fmV_iconst (pc := 2) (v := 0) F dX6_counted_2 rfl ?_
  refine fmV_istore_n (pc := 3) (i := 3) F dX6_counted_3 rfl (by decide) ?_
  refine fmV_lv (lv' := [(0, .ref (G.1 14 0 0)), (1, .int (nI w)), (2, .int (gDryN σ t 0)), (3, .int (nI 0))]) ⟨rfl, rfl, rfl, rfl, trivial⟩ ?_
  refine fmV_up (N := cc) (pc := 4) (σf := fun j => σ) (lvf := fun j => [(0, .ref (G.1 14 0 0)), (1, .int (nI w)), (2, .int (gDryN σ t j)), (3, .int (nI j))]) 0 (Nat.zero_le _) ?_ ?_
  · refine fmV_iload_n (pc := 4) (i := 3) F dX6_counted_4 rfl rfl ?_
    refine fmV_aload_n (pc := 5) (i := 0) F dX6_counted_5 rfl rfl ?_
    refine fmg_14_canoes (pc := 6) F  hin_X6 dX6_counted_6 (List.mem_of_getElem? (i := 1) rfl) ?_
    refine fmV_icmp_ge (pc := 9) (tgt := 50) F dX6_counted_9 (by decide) (fun h1 => ?_) (fun h1 => ?_)
    · refine fmV_bipush (pc := 50) (v := 12) F dX6_counted_50 (by decide) ?_
      refine fmV_newa (pc := 52) F hG (n := 12) rfl (List.mem_of_getElem? (i := 3) rfl) (by decide) (by decide) (by decide) (by decide +kernel) (Nat.le_of_ble_eq_true rfl) (Nat.le_of_ble_eq_true rfl) dX6_counted_52 (fun q F1 => ?_)
      refine fmV_sg (σ1 := (fmu σ 35 0 0 (gT (gCnt σ cc t) 0))) (by rw [gT_0]) ?_
      refine fmV_lv (lv' := [(0, .ref ((fmGx G q 12).1 14 0 0)), (1, .int (nI w)), (2, .int (gDryN σ t cc))]) ⟨rfl, rfl, rfl, trivial⟩ ?_
      refine fmV_dup (pc := 54) F1 dX6_counted_54 rfl ?_
      refine fmV_iconst (pc := 55) (v := 0) F1 dX6_counted_55 rfl ?_
      refine fmV_aload_n (pc := 56) (i := 0) F1 dX6_counted_56 rfl rfl ?_
      refine fmg_14_s (pc := 57) F1  hin_X6 dX6_counted_57 (List.mem_of_getElem? (i := 2) rfl) ?_
      refine fmgN_23_step (pc := 60) F1 hX (by assumption) hin_X5 dX6_counted_60 (List.mem_of_getElem? (i := 6) rfl) ?_
      refine fmas_35 (pc := 63) F1 (show (12 : Nat) ≠ 0 by decide) dX6_counted_63 (vp_in_nI (show 0 < 12 by decide) (show 12 < 2 ^ 31 by decide)) (show (0 : Int32).toNatClampNeg = 0 by decide) ?_
      refine fmV_sg (σ1 := (fmu σ 35 0 0 (gT (gCnt σ cc t) 1))) (tmp_s σ (gCnt σ cc t) 0 (by rw [fmu_c _ _ _ _ _ (by decide)]; rfl)) ?_
      refine fmV_dup (pc := 64) F1 dX6_counted_64 rfl ?_
      refine fmV_iconst (pc := 65) (v := 1) F1 dX6_counted_65 rfl ?_
      refine fmV_aload_n (pc := 66) (i := 0) F1 dX6_counted_66 rfl rfl ?_
      refine fmg_14_rows (pc := 67) F1  hin_X6 dX6_counted_67 (List.mem_of_getElem? (i := 4) rfl) ?_
      refine fmas_35 (pc := 70) F1 (show (12 : Nat) ≠ 0 by decide) dX6_counted_70 (vp_in_nI (show 1 < 12 by decide) (show 12 < 2 ^ 31 by decide)) (show (1 : Int32).toNatClampNeg = 1 by decide) ?_
      refine fmV_sg (σ1 := (fmu σ 35 0 0 (gT (gCnt σ cc t) 2))) (tmp_s σ (gCnt σ cc t) 1 (by rw [fmu_c _ _ _ _ _ (by decide)]; rfl)) ?_
      refine fmV_dup (pc := 71) F1 dX6_counted_71 rfl ?_
      refine fmV_iconst (pc := 72) (v := 2) F1 dX6_counted_72 rfl ?_
      refine fmV_aload_n (pc := 73) (i := 0) F1 dX6_counted_73 rfl rfl ?_
      refine fmg_14_canoes (pc := 74) F1  hin_X6 dX6_counted_74 (List.mem_of_getElem? (i := 1) rfl) ?_
      refine fmas_35 (pc := 77) F1 (show (12 : Nat) ≠ 0 by decide) dX6_counted_77 (vp_in_nI (show 2 < 12 by decide) (show 12 < 2 ^ 31 by decide)) (show (2 : Int32).toNatClampNeg = 2 by decide) ?_
      refine fmV_sg (σ1 := (fmu σ 35 0 0 (gT (gCnt σ cc t) 3))) (tmp_s σ (gCnt σ cc t) 2 (by rw [fmu_c _ _ _ _ _ (by decide)]; rfl)) ?_
      refine fmV_dup (pc := 78) F1 dX6_counted_78 rfl ?_
      refine fmV_iconst (pc := 79) (v := 3) F1 dX6_counted_79 rfl ?_
      refine fmV_aload_n (pc := 80) (i := 0) F1 dX6_counted_80 rfl rfl ?_
      refine fmg_14_s (pc := 81) F1  hin_X6 dX6_counted_81 (List.mem_of_getElem? (i := 2) rfl) ?_
      refine fmV_iconst (pc := 84) (v := 1) F1 dX6_counted_84 rfl ?_
      refine fmV_xVi (n := 1) (pc := 85) F1 hX (c_X5_being l D A (fmGx G q 12) (fmu σ 35 0 0 (gT (gCnt σ cc t) 3)) o hb0 hcc (by rw [fmu_c _ _ _ _ _ (by decide)]; exact h63) 1) gX6_counted_X5_being rfl rfl rfl (by decide +kernel) ⟨Nat.le_of_ble_eq_true rfl, Nat.le_of_ble_eq_true rfl⟩ (fmR_23 F1 (by assumption)) rfl rfl (Nat.le_of_ble_eq_true rfl) dX6_counted_85 ⟨Nat.le_of_ble_eq_true rfl, Nat.le_of_ble_eq_true rfl⟩ (fun _ _ h9 => False.elim h9) (fun r2 u1 hc3 => ?_)
      obtain ⟨hr9, hu9⟩ := hc3
      have hr9 := hr9.symm
      have hu9 := hu9.symm
      subst hr9
      subst hu9
      refine fmas_35 (pc := 88) F1 (show (12 : Nat) ≠ 0 by decide) dX6_counted_88 (vp_in_nI (show 3 < 12 by decide) (show 12 < 2 ^ 31 by decide)) (show (3 : Int32).toNatClampNeg = 3 by decide) ?_
      refine fmV_sg (σ1 := (fmu σ 35 0 0 (gT (gCnt σ cc t) 4))) (tmp_s σ (gCnt σ cc t) 3 (gBn_35 (σ := σ))) ?_
      refine fmV_dup (pc := 89) F1 dX6_counted_89 rfl ?_
      refine fmV_iconst (pc := 90) (v := 4) F1 dX6_counted_90 rfl ?_
      refine fmV_aload_n (pc := 91) (i := 0) F1 dX6_counted_91 rfl rfl ?_
      refine fmg_14_s (pc := 92) F1  hin_X6 dX6_counted_92 (List.mem_of_getElem? (i := 2) rfl) ?_
      refine fmV_iconst (pc := 95) (v := 2) F1 dX6_counted_95 rfl ?_
      refine fmV_xVi (n := 1) (pc := 96) F1 hX (c_X5_being l D A (fmGx G q 12) (fmu σ 35 0 0 (gT (gCnt σ cc t) 4)) o hb0 hcc (by rw [fmu_c _ _ _ _ _ (by decide)]; exact h63) 2) gX6_counted_X5_being rfl rfl rfl (by decide +kernel) ⟨Nat.le_of_ble_eq_true rfl, Nat.le_of_ble_eq_true rfl⟩ (fmR_23 F1 (by assumption)) rfl rfl (Nat.le_of_ble_eq_true rfl) dX6_counted_96 ⟨Nat.le_of_ble_eq_true rfl, Nat.le_of_ble_eq_true rfl⟩ (fun _ _ h9 => False.elim h9) (fun r5 u4 hc6 => ?_)
      obtain ⟨hr9, hu9⟩ := hc6
      have hr9 := hr9.symm
      have hu9 := hu9.symm
      subst hr9
      subst hu9
      refine fmas_35 (pc := 99) F1 (show (12 : Nat) ≠ 0 by decide) dX6_counted_99 (vp_in_nI (show 4 < 12 by decide) (show 12 < 2 ^ 31 by decide)) (show (4 : Int32).toNatClampNeg = 4 by decide) ?_
      refine fmV_sg (σ1 := (fmu σ 35 0 0 (gT (gCnt σ cc t) 5))) (tmp_s σ (gCnt σ cc t) 4 (gBn_35 (σ := σ))) ?_
      refine fmV_dup (pc := 100) F1 dX6_counted_100 rfl ?_
      refine fmV_iconst (pc := 101) (v := 5) F1 dX6_counted_101 rfl ?_
      refine fmV_aload_n (pc := 102) (i := 0) F1 dX6_counted_102 rfl rfl ?_
      refine fmg_14_s (pc := 103) F1  hin_X6 dX6_counted_103 (List.mem_of_getElem? (i := 2) rfl) ?_
      refine fmV_aload_n (pc := 106) (i := 0) F1 dX6_counted_106 rfl rfl ?_
      refine fmg_14_s (pc := 107) F1  hin_X6 dX6_counted_107 (List.mem_of_getElem? (i := 2) rfl) ?_
      refine fmgN_23_coins (pc := 110) F1 hX (by assumption) hin_X5 dX6_counted_110 (List.mem_of_getElem? (i := 9) rfl) ?_
      refine fmV_xVi (n := 1) (pc := 113) F1 hX (c_X5_all_24 l D A (fmGx G q 12) (fmu σ 35 0 0 (gT (gCnt σ cc t) 5)) o (d := 0) hb0) gX6_counted_X5_all rfl rfl rfl (by decide +kernel) ⟨Nat.le_of_ble_eq_true rfl, Nat.le_of_ble_eq_true rfl⟩ (fmR_23 F1 (by assumption)) rfl rfl (Nat.le_of_ble_eq_true rfl) dX6_counted_113 ⟨Nat.le_of_ble_eq_true rfl, Nat.le_of_ble_eq_true rfl⟩ (fun _ _ h9 => False.elim h9) (fun r8 u7 hc9 => ?_)
      obtain ⟨hr9, hu9⟩ := hc9
      have hr9 := hr9.symm
      have hu9 := hu9.symm
      subst hr9
      subst hu9
      refine fmas_35 (pc := 116) F1 (show (12 : Nat) ≠ 0 by decide) dX6_counted_116 (vp_in_nI (show 5 < 12 by decide) (show 12 < 2 ^ 31 by decide)) (show (5 : Int32).toNatClampNeg = 5 by decide) ?_
      refine fmV_sg (σ1 := (fmu σ 35 0 0 (gT (gCnt σ cc t) 6))) (tmp_s σ (gCnt σ cc t) 5 (by rw [fmu_c _ _ _ _ _ (by decide)]; rfl)) ?_
      refine fmV_dup (pc := 117) F1 dX6_counted_117 rfl ?_
      refine fmV_bipush (pc := 118) (v := 6) F1 dX6_counted_118 (by decide) ?_
      refine fmV_aload_n (pc := 120) (i := 0) F1 dX6_counted_120 rfl rfl ?_
      refine fmg_14_s (pc := 121) F1  hin_X6 dX6_counted_121 (List.mem_of_getElem? (i := 2) rfl) ?_
      refine fmV_aload_n (pc := 124) (i := 0) F1 dX6_counted_124 rfl rfl ?_
      refine fmg_14_s (pc := 125) F1  hin_X6 dX6_counted_125 (List.mem_of_getElem? (i := 2) rfl) ?_
      refine fmgN_23_has (pc := 128) F1 hX (by assumption) hin_X5 dX6_counted_128 (List.mem_of_getElem? (i := 10) rfl) ?_
      refine fmV_xVi (n := 1) (pc := 131) F1 hX (c_X5_all_25 l D A (fmGx G q 12) (fmu σ 35 0 0 (gT (gCnt σ cc t) 6)) o (d := 0) hb0) gX6_counted_X5_all rfl rfl rfl (by decide +kernel) ⟨Nat.le_of_ble_eq_true rfl, Nat.le_of_ble_eq_true rfl⟩ (fmR_23 F1 (by assumption)) rfl rfl (Nat.le_of_ble_eq_true rfl) dX6_counted_131 ⟨Nat.le_of_ble_eq_true rfl, Nat.le_of_ble_eq_true rfl⟩ (fun _ _ h9 => False.elim h9) (fun r11 u10 hc12 => ?_)
      obtain ⟨hr9, hu9⟩ := hc12
      have hr9 := hr9.symm
      have hu9 := hu9.symm
      subst hr9
      subst hu9
      refine fmas_35 (pc := 134) F1 (show (12 : Nat) ≠ 0 by decide) dX6_counted_134 (vp_in_nI (show 6 < 12 by decide) (show 12 < 2 ^ 31 by decide)) (show (6 : Int32).toNatClampNeg = 6 by decide) ?_
      refine fmV_sg (σ1 := (fmu σ 35 0 0 (gT (gCnt σ cc t) 7))) (tmp_s σ (gCnt σ cc t) 6 (by rw [fmu_c _ _ _ _ _ (by decide)]; rfl)) ?_
      refine fmV_dup (pc := 135) F1 dX6_counted_135 rfl ?_
      refine fmV_bipush (pc := 136) (v := 7) F1 dX6_counted_136 (by decide) ?_
      refine fmV_aload_n (pc := 138) (i := 0) F1 dX6_counted_138 rfl rfl ?_
      refine fmg_14_s (pc := 139) F1  hin_X6 dX6_counted_139 (List.mem_of_getElem? (i := 2) rfl) ?_
      refine fmgN_23_sum (pc := 142) F1 hX (by assumption) hin_X5 dX6_counted_142 (List.mem_of_getElem? (i := 7) rfl) ?_
      refine fmas_35 (pc := 145) F1 (show (12 : Nat) ≠ 0 by decide) dX6_counted_145 (vp_in_nI (show 7 < 12 by decide) (show 12 < 2 ^ 31 by decide)) (show (7 : Int32).toNatClampNeg = 7 by decide) ?_
      refine fmV_sg (σ1 := (fmu σ 35 0 0 (gT (gCnt σ cc t) 8))) (tmp_s σ (gCnt σ cc t) 7 (by rw [fmu_c _ _ _ _ _ (by decide)]; rfl)) ?_
      refine fmV_dup (pc := 146) F1 dX6_counted_146 rfl ?_
      refine fmV_bipush (pc := 147) (v := 8) F1 dX6_counted_147 (by decide) ?_
      refine fmV_aload_n (pc := 149) (i := 0) F1 dX6_counted_149 rfl rfl ?_
      refine fmg_14_s (pc := 150) F1  hin_X6 dX6_counted_150 (List.mem_of_getElem? (i := 2) rfl) ?_
      refine fmgN_23_coinsPaid (pc := 153) F1 hX (by assumption) hin_X5 dX6_counted_153 (List.mem_of_getElem? (i := 8) rfl) ?_
      refine fmas_35 (pc := 156) F1 (show (12 : Nat) ≠ 0 by decide) dX6_counted_156 (vp_in_nI (show 8 < 12 by decide) (show 12 < 2 ^ 31 by decide)) (show (8 : Int32).toNatClampNeg = 8 by decide) ?_
      refine fmV_sg (σ1 := (fmu σ 35 0 0 (gT (gCnt σ cc t) 9))) (tmp_s σ (gCnt σ cc t) 8 (by rw [fmu_c _ _ _ _ _ (by decide)]; rfl)) ?_
      refine fmV_dup (pc := 157) F1 dX6_counted_157 rfl ?_
      refine fmV_bipush (pc := 158) (v := 9) F1 dX6_counted_158 (by decide) ?_
      refine fmV_aload_n (pc := 160) (i := 0) F1 dX6_counted_160 rfl rfl ?_
      refine fmg_14_s (pc := 161) F1  hin_X6 dX6_counted_161 (List.mem_of_getElem? (i := 2) rfl) ?_
      refine fmV_aload_n (pc := 164) (i := 0) F1 dX6_counted_164 rfl rfl ?_
      refine fmg_14_s (pc := 165) F1  hin_X6 dX6_counted_165 (List.mem_of_getElem? (i := 2) rfl) ?_
      refine fmgN_23_loosened (pc := 168) F1 hX (by assumption) hin_X5 dX6_counted_168 (List.mem_of_getElem? (i := 15) rfl) ?_
      refine fmV_xVi (n := 1) (pc := 171) F1 hX (c_X5_all_30 l D A (fmGx G q 12) (fmu σ 35 0 0 (gT (gCnt σ cc t) 9)) o (d := 0) hb0) gX6_counted_X5_all rfl rfl rfl (by decide +kernel) ⟨Nat.le_of_ble_eq_true rfl, Nat.le_of_ble_eq_true rfl⟩ (fmR_23 F1 (by assumption)) rfl rfl (Nat.le_of_ble_eq_true rfl) dX6_counted_171 ⟨Nat.le_of_ble_eq_true rfl, Nat.le_of_ble_eq_true rfl⟩ (fun _ _ h9 => False.elim h9) (fun r14 u13 hc15 => ?_)
      obtain ⟨hr9, hu9⟩ := hc15
      have hr9 := hr9.symm
      have hu9 := hu9.symm
      subst hr9
      subst hu9
      refine fmas_35 (pc := 174) F1 (show (12 : Nat) ≠ 0 by decide) dX6_counted_174 (vp_in_nI (show 9 < 12 by decide) (show 12 < 2 ^ 31 by decide)) (show (9 : Int32).toNatClampNeg = 9 by decide) ?_
      refine fmV_sg (σ1 := (fmu σ 35 0 0 (gT (gCnt σ cc t) 10))) (tmp_s σ (gCnt σ cc t) 9 (by rw [fmu_c _ _ _ _ _ (by decide)]; rfl)) ?_
      refine fmV_dup (pc := 175) F1 dX6_counted_175 rfl ?_
      refine fmV_bipush (pc := 176) (v := 10) F1 dX6_counted_176 (by decide) ?_
      refine fmV_aload_n (pc := 178) (i := 0) F1 dX6_counted_178 rfl rfl ?_
      refine fmg_14_s (pc := 179) F1  hin_X6 dX6_counted_179 (List.mem_of_getElem? (i := 2) rfl) ?_
      refine fmV_aload_n (pc := 182) (i := 0) F1 dX6_counted_182 rfl rfl ?_
      refine fmg_14_s (pc := 183) F1  hin_X6 dX6_counted_183 (List.mem_of_getElem? (i := 2) rfl) ?_
      refine fmgN_23_drifted (pc := 186) F1 hX (by assumption) hin_X5 dX6_counted_186 (List.mem_of_getElem? (i := 16) rfl) ?_
      refine fmV_xVi (n := 1) (pc := 189) F1 hX (c_X5_all_31 l D A (fmGx G q 12) (fmu σ 35 0 0 (gT (gCnt σ cc t) 10)) o (d := 0) hb0) gX6_counted_X5_all rfl rfl rfl (by decide +kernel) ⟨Nat.le_of_ble_eq_true rfl, Nat.le_of_ble_eq_true rfl⟩ (fmR_23 F1 (by assumption)) rfl rfl (Nat.le_of_ble_eq_true rfl) dX6_counted_189 ⟨Nat.le_of_ble_eq_true rfl, Nat.le_of_ble_eq_true rfl⟩ (fun _ _ h9 => False.elim h9) (fun r17 u16 hc18 => ?_)
      obtain ⟨hr9, hu9⟩ := hc18
      have hr9 := hr9.symm
      have hu9 := hu9.symm
      subst hr9
      subst hu9
      refine fmas_35 (pc := 192) F1 (show (12 : Nat) ≠ 0 by decide) dX6_counted_192 (vp_in_nI (show 10 < 12 by decide) (show 12 < 2 ^ 31 by decide)) (show (10 : Int32).toNatClampNeg = 10 by decide) ?_
      refine fmV_sg (σ1 := (fmu σ 35 0 0 (gT (gCnt σ cc t) 11))) (tmp_s σ (gCnt σ cc t) 10 (by rw [fmu_c _ _ _ _ _ (by decide)]; rfl)) ?_
      refine fmV_dup (pc := 193) F1 dX6_counted_193 rfl ?_
      refine fmV_bipush (pc := 194) (v := 11) F1 dX6_counted_194 (by decide) ?_
      refine fmV_iload_n (pc := 196) (i := 2) F1 dX6_counted_196 rfl rfl ?_
      refine fmas_35 (pc := 197) F1 (show (12 : Nat) ≠ 0 by decide) dX6_counted_197 (vp_in_nI (show 11 < 12 by decide) (show 12 < 2 ^ 31 by decide)) (show (11 : Int32).toNatClampNeg = 11 by decide) ?_
      refine fmV_sg (σ1 := (fmu σ 35 0 0 (gT (gCnt σ cc t) 12))) (tmp_s σ (gCnt σ cc t) 11 rfl) ?_
      refine fmV_astore_n (pc := 198) (i := 3) F1 dX6_counted_198 rfl (by decide) ?_
      refine fmV_aload_n (pc := 199) (i := 3) F1 dX6_counted_199 rfl rfl ?_
      refine fmV_iload_n (pc := 200) (i := 1) F1 dX6_counted_200 rfl rfl ?_
      refine fmal_35 (pc := 201) F1 (show (12 : Nat) ≠ 0 by decide) dX6_counted_201 (vp_in_nI (show w < 12 from hw) (show 12 < 2 ^ 31 by decide)) (fm_cn (by omega)) ?_
      refine fmV_forget hG (by decide) (σ0 := σ) (fun c m k h => fmu_ne _ _ _ _ _ (fun q => h q.1)) ?_
      refine fmV_widen (k := 1) (n := 12) (Nat.le_of_ble_eq_true rfl) (Nat.le_of_ble_eq_true rfl) ?_
      refine fmV_xr ?_
      exact fmV_iret (pc := 202) F dX6_counted_202 rfl ⟨by rw [fmu_self, gT, if_pos hw], rfl⟩
    · rw [h63] at h1
      exact absurd (nI_le (Nat.le_refl cc) (by omega)) h1
  · intro j hj ih
    have hj14 : j < 14 := by omega
    refine fmV_iload_n (pc := 4) (i := 3) F dX6_counted_4 rfl rfl ?_
    refine fmV_aload_n (pc := 5) (i := 0) F dX6_counted_5 rfl rfl ?_
    refine fmg_14_canoes (pc := 6) F  hin_X6 dX6_counted_6 (List.mem_of_getElem? (i := 1) rfl) ?_
    refine fmV_icmp_ge (pc := 9) (tgt := 50) F dX6_counted_9 (by decide) (fun h1 => ?_) (fun h1 => ?_)
    · rw [h63] at h1
      exact absurd h1 (nI_ge hj (by omega))
    · refine fmV_iload_n (pc := 12) (i := 2) F dX6_counted_12 rfl rfl ?_
      refine fmV_aload_n (pc := 13) (i := 0) F dX6_counted_13 rfl rfl ?_
      refine fmg_14_s (pc := 14) F  hin_X6 dX6_counted_14 (List.mem_of_getElem? (i := 2) rfl) ?_
      refine fmgN_23_is (pc := 17) F hX (by assumption) hin_X5 dX6_counted_17 (List.mem_of_getElem? (i := 11) rfl) ?_
      refine fmV_iload_n (pc := 20) (i := 3) F dX6_counted_20 rfl rfl ?_
      refine fmal_26 (pc := 21) F (by assumption) dX6_counted_21 (vp_in_nI (by omega) (by decide)) (fm_cn (by omega)) ?_
      refine fmV_iconst (pc := 22) (v := 1) F dX6_counted_22 rfl ?_
      refine fmV_icmp_ne (pc := 23) (tgt := 41) F dX6_counted_23 (by decide) (fun h2 => ?_) (fun h2 => ?_)
      · refine fmV_iconst (pc := 41) (v := 0) F dX6_counted_41 rfl ?_
        refine fmV_iadd (pc := 42) F dX6_counted_42 ?_
        refine fmV_istore_n (pc := 43) (i := 2) F dX6_counted_43 rfl (by decide) ?_
        refine fmV_iinc (pc := 44) (i := 3) F dX6_counted_44 rfl rfl (by decide) ?_
        refine fmV_goto (pc := 47) (tgt := 4) F dX6_counted_47 (by decide) ?_
        refine fmV_lv ?_ ih
        first
          | exact ⟨rfl, rfl, congrArg (fun z => some (Value.int z)) (gDryN_p ⟨h2, fm_p1 h3⟩).symm, by rw [nI_succ j]; rfl, trivial⟩
          | exact ⟨rfl, rfl, congrArg (fun z => some (Value.int z)) (gDryN_n (fun q => fm_p0 h3 q.2)).symm, by rw [nI_succ j]; rfl, trivial⟩
          | exact ⟨rfl, rfl, congrArg (fun z => some (Value.int z)) (gDryN_n (fun q => h2 q.1)).symm, by rw [nI_succ j]; rfl, trivial⟩
      · refine fmV_aload_n (pc := 26) (i := 0) F dX6_counted_26 rfl rfl ?_
        refine fmg_14_s (pc := 27) F  hin_X6 dX6_counted_27 (List.mem_of_getElem? (i := 2) rfl) ?_
        refine fmV_iload_n (pc := 30) (i := 3) F dX6_counted_30 rfl rfl ?_
        refine fmV_xVi (n := 1) (pc := 31) F hX (c_X5_isDry l D A G σ o hb0 hj14 (show t < 2 ^ 31 by omega) h64) gX6_counted_X5_isDry rfl rfl rfl (by decide +kernel) ⟨Nat.le_of_ble_eq_true rfl, Nat.le_of_ble_eq_true rfl⟩ (fmR_23 F (by assumption)) rfl rfl (Nat.le_of_ble_eq_true rfl) dX6_counted_31 ⟨Nat.le_of_ble_eq_true rfl, Nat.le_of_ble_eq_true rfl⟩ (fun _ _ h9 => False.elim h9) (fun r20 u19 hc21 => ?_)
        obtain ⟨hr9, hu9⟩ := hc21
        have hr9 := hr9.symm
        have hu9 := hu9.symm
        subst hr9
        subst hu9
        refine fmV_if_eq (pc := 34) (tgt := 41) F dX6_counted_34 (by decide) (fun h3 => ?_) (fun h3 => ?_)
        · refine fmV_iconst (pc := 41) (v := 0) F dX6_counted_41 rfl ?_
          refine fmV_iadd (pc := 42) F dX6_counted_42 ?_
          refine fmV_istore_n (pc := 43) (i := 2) F dX6_counted_43 rfl (by decide) ?_
          refine fmV_iinc (pc := 44) (i := 3) F dX6_counted_44 rfl rfl (by decide) ?_
          refine fmV_goto (pc := 47) (tgt := 4) F dX6_counted_47 (by decide) ?_
          refine fmV_lv ?_ ih
          first
            | exact ⟨rfl, rfl, congrArg (fun z => some (Value.int z)) (gDryN_p ⟨h2, fm_p1 h3⟩).symm, by rw [nI_succ j]; rfl, trivial⟩
            | exact ⟨rfl, rfl, congrArg (fun z => some (Value.int z)) (gDryN_n (fun q => fm_p0 h3 q.2)).symm, by rw [nI_succ j]; rfl, trivial⟩
            | exact ⟨rfl, rfl, congrArg (fun z => some (Value.int z)) (gDryN_n (fun q => h2 q.1)).symm, by rw [nI_succ j]; rfl, trivial⟩
        · refine fmV_iconst (pc := 37) (v := 1) F dX6_counted_37 rfl ?_
          refine fmV_goto (pc := 38) (tgt := 42) F dX6_counted_38 (by decide) ?_
          refine fmV_iadd (pc := 42) F dX6_counted_42 ?_
          refine fmV_istore_n (pc := 43) (i := 2) F dX6_counted_43 rfl (by decide) ?_
          refine fmV_iinc (pc := 44) (i := 3) F dX6_counted_44 rfl rfl (by decide) ?_
          refine fmV_goto (pc := 47) (tgt := 4) F dX6_counted_47 (by decide) ?_
          refine fmV_lv ?_ ih
          first
            | exact ⟨rfl, rfl, congrArg (fun z => some (Value.int z)) (gDryN_p ⟨h2, fm_p1 h3⟩).symm, by rw [nI_succ j]; rfl, trivial⟩
            | exact ⟨rfl, rfl, congrArg (fun z => some (Value.int z)) (gDryN_n (fun q => fm_p0 h3 q.2)).symm, by rw [nI_succ j]; rfl, trivial⟩
            | exact ⟨rfl, rfl, congrArg (fun z => some (Value.int z)) (gDryN_n (fun q => h2 q.1)).symm, by rw [nI_succ j]; rfl, trivial⟩
