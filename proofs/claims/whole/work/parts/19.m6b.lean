theorem fmFold_0 (f : Nat → Int64 → Int64) (d : Int64) : fmFold f d 0 = d := rfl
theorem fmFold_s (f : Nat → Int64 → Int64) (d : Int64) (n : Nat) : fmFold f d (n + 1) = f n (fmFold f d n) := rfl
def fmDig (σ : fmS) (rc cc t : Nat) : Int64 := (fmFold (fun k d => fmCAdd σ 0 k d) (fmFold (fun r d => fmRAdd σ 0 r (σ 47 0 r 0).toNatClampNeg d) (fmFold (fun k d => fmD d (fmEntry σ k)) (fmFold (fun w d => fmD d (fmMFig σ 0 cc t w)) 683 12) 24) rc) cc)
set_option maxHeartbeats 4000000 in
set_option maxRecDepth 100000 in
theorem c_X4_digest (l : Launch) (D : va_G) (A : Nat → Prop) (G : fmG) (σ : fmS) (o : Nat → Int64) {rc cc t : Nat} (hg : fmGood 0 rc cc t σ) : fmMl l D A G yX4_digest wsX4_digest (fmRm 7 0 0) 0 0 [.ref (G.1 0 0 0)] σ o (fun r u => r = fmDig σ rc cc t ∧ u = σ) := by
  refine fmMl_of (cc := cX4_digest) (maxL := 4) (ret := (some .long)) (by decide +kernel) rfl (Nat.le_of_ble_eq_true rfl) ?_
  intro P_ E_ S_ M_ args_ below_ meth_ C_ F
  have hin_X4 : ∀ w ∈ wsX40, w ∈ wsX4_digest := (fun _ h => List.mem_cons_of_mem _ (List.mem_append_left _ (List.mem_append_left _ (List.mem_append_left _ (List.mem_append_left _ (List.mem_append_right _ h))))))
  have hin_X1 : ∀ w ∈ wsX10, w ∈ wsX4_digest := (fun _ h => List.mem_cons_of_mem _ (List.mem_append_left _ (List.mem_append_left _ (List.mem_append_left _ (List.mem_append_right _ h)))))
  have hin_X0 : ∀ w ∈ wsX00, w ∈ wsX4_digest := (fun _ h => List.mem_cons_of_mem _ (List.mem_append_left _ (List.mem_append_left _ (List.mem_append_right _ h))))
  have hin_X3 : ∀ w ∈ wsX30, w ∈ wsX4_digest := (fun _ h => List.mem_cons_of_mem _ (List.mem_append_left _ (List.mem_append_right _ h)))
  have hin_X2 : ∀ w ∈ wsX20, w ∈ wsX4_digest := (fun _ h => List.mem_cons_of_mem _ (List.mem_append_right _ h))
  obtain ⟨⟨hrc, hcc, ht, h40, h41, h42⟩, hco⟩ := id hg
  have ha0 : (0 : Nat) < 2 := by decide
  have ha1 : (1 : Nat) < 2 := by decide
  refine fmV_ldc2 (pc := 0) (v := (683)) F dX4_digest_0 (List.mem_of_getElem? (i := 1) rfl) ?_
  refine fmV_lstore_n (pc := 3) (i := 1) F dX4_digest_3 rfl (by decide) ?_
  refine fmV_iconst (pc := 4) (v := 0) F dX4_digest_4 rfl ?_
  refine fmV_istore_n (pc := 5) (i := 3) F dX4_digest_5 rfl (by decide) ?_
  refine fmV_lv (lv' := [(0, .ref (G.1 0 0 0)), (1, .long (fmFold (fun w d => fmD d (fmMFig σ 0 cc t w)) 683 0)), (3, .int (nI 0))]) ⟨rfl, by rw [fmFold_0] <;> rfl, rfl, trivial⟩ ?_
  refine fmV_up (N := 12) (pc := 6) (σf := fun j => σ) (lvf := fun j => [(0, .ref (G.1 0 0 0)), (1, .long (fmFold (fun w d => fmD d (fmMFig σ 0 cc t w)) 683 j)), (3, .int (nI j))]) 0 (Nat.zero_le _) ?_ ?_
  · refine fmV_iload_n (pc := 6) (i := 3) F dX4_digest_6 rfl rfl ?_
    refine fmV_bipush (pc := 7) (v := 12) F dX4_digest_7 (by decide) ?_
    refine fmV_icmp_ge (pc := 9) (tgt := 34) F dX4_digest_9 (by decide) (fun h1 => ?_) (fun h1 => ?_)
    · refine fmV_iconst (pc := 34) (v := 0) F dX4_digest_34 rfl ?_
      refine fmV_istore_n (pc := 35) (i := 3) F dX4_digest_35 rfl (by decide) ?_
      refine fmV_lv (lv' := [(0, .ref (G.1 0 0 0)), (1, .long (fmFold (fun k d => fmD d (fmEntry σ k)) (fmFold (fun w d => fmD d (fmMFig σ 0 cc t w)) 683 12) 0)), (3, .int (nI 0))]) ⟨rfl, by rw [fmFold_0] <;> rfl, rfl, trivial⟩ ?_
      refine fmV_up (N := 24) (pc := 36) (σf := fun j => σ) (lvf := fun j => [(0, .ref (G.1 0 0 0)), (1, .long (fmFold (fun k d => fmD d (fmEntry σ k)) (fmFold (fun w d => fmD d (fmMFig σ 0 cc t w)) 683 12) j)), (3, .int (nI j))]) 0 (Nat.zero_le _) ?_ ?_
      · refine fmV_iload_n (pc := 36) (i := 3) F dX4_digest_36 rfl rfl ?_
        refine fmV_bipush (pc := 37) (v := 24) F dX4_digest_37 (by decide) ?_
        refine fmV_icmp_ge (pc := 39) (tgt := 64) F dX4_digest_39 (by decide) (fun h2 => ?_) (fun h2 => ?_)
        · refine fmV_iconst (pc := 64) (v := 0) F dX4_digest_64 rfl ?_
          refine fmV_istore_n (pc := 65) (i := 3) F dX4_digest_65 rfl (by decide) ?_
          refine fmV_lv (lv' := [(0, .ref (G.1 0 0 0)), (1, .long (fmFold (fun r d => fmRAdd σ 0 r (σ 47 0 r 0).toNatClampNeg d) (fmFold (fun k d => fmD d (fmEntry σ k)) (fmFold (fun w d => fmD d (fmMFig σ 0 cc t w)) 683 12) 24) 0)), (3, .int (nI 0))]) ⟨rfl, by rw [fmFold_0] <;> rfl, rfl, trivial⟩ ?_
          refine fmV_up (N := rc) (pc := 66) (σf := fun j => σ) (lvf := fun j => [(0, .ref (G.1 0 0 0)), (1, .long (fmFold (fun r d => fmRAdd σ 0 r (σ 47 0 r 0).toNatClampNeg d) (fmFold (fun k d => fmD d (fmEntry σ k)) (fmFold (fun w d => fmD d (fmMFig σ 0 cc t w)) 683 12) 24) j)), (3, .int (nI j))]) 0 (Nat.zero_le _) ?_ ?_
          · refine fmV_iload_n (pc := 66) (i := 3) F dX4_digest_66 rfl rfl ?_
            refine fmV_aload_n (pc := 67) (i := 0) F dX4_digest_67 rfl rfl ?_
            refine fmg_0_now (pc := 68) F  hin_X4 dX4_digest_68 (List.mem_of_getElem? (i := 3) rfl) ?_
            refine fmg_4_rowCount (pc := 71) F (by assumption) hin_X1 dX4_digest_71 (List.mem_of_getElem? (i := 5) rfl) ?_
            refine fmV_icmp_ge (pc := 74) (tgt := 97) F dX4_digest_74 (by decide) (fun h3 => ?_) (fun h3 => ?_)
            · refine fmV_iconst (pc := 97) (v := 0) F dX4_digest_97 rfl ?_
              refine fmV_istore_n (pc := 98) (i := 3) F dX4_digest_98 rfl (by decide) ?_
              refine fmV_lv (lv' := [(0, .ref (G.1 0 0 0)), (1, .long (fmFold (fun k d => fmCAdd σ 0 k d) (fmFold (fun r d => fmRAdd σ 0 r (σ 47 0 r 0).toNatClampNeg d) (fmFold (fun k d => fmD d (fmEntry σ k)) (fmFold (fun w d => fmD d (fmMFig σ 0 cc t w)) 683 12) 24) rc) 0)), (3, .int (nI 0))]) ⟨rfl, by rw [fmFold_0] <;> rfl, rfl, trivial⟩ ?_
              refine fmV_up (N := cc) (pc := 99) (σf := fun j => σ) (lvf := fun j => [(0, .ref (G.1 0 0 0)), (1, .long (fmFold (fun k d => fmCAdd σ 0 k d) (fmFold (fun r d => fmRAdd σ 0 r (σ 47 0 r 0).toNatClampNeg d) (fmFold (fun k d => fmD d (fmEntry σ k)) (fmFold (fun w d => fmD d (fmMFig σ 0 cc t w)) 683 12) 24) rc) j)), (3, .int (nI j))]) 0 (Nat.zero_le _) ?_ ?_
              · refine fmV_iload_n (pc := 99) (i := 3) F dX4_digest_99 rfl rfl ?_
                refine fmV_aload_n (pc := 100) (i := 0) F dX4_digest_100 rfl rfl ?_
                refine fmg_0_now (pc := 101) F  hin_X4 dX4_digest_101 (List.mem_of_getElem? (i := 3) rfl) ?_
                refine fmg_4_canoeCount (pc := 104) F (by assumption) hin_X1 dX4_digest_104 (List.mem_of_getElem? (i := 7) rfl) ?_
                refine fmV_icmp_ge (pc := 107) (tgt := 130) F dX4_digest_107 (by decide) (fun h4 => ?_) (fun h4 => ?_)
                · refine fmV_lload_n (pc := 130) (i := 1) F dX4_digest_130 rfl rfl ?_
                  exact fmV_lret (pc := 131) F dX4_digest_131 rfl ⟨rfl, rfl⟩
                · rw [h41] at h4
                  exact absurd (nI_le (Nat.le_refl cc) (by omega)) h4
              · intro j hj ih
                have hj14 : j < 14 := by omega
                refine fmV_iload_n (pc := 99) (i := 3) F dX4_digest_99 rfl rfl ?_
                refine fmV_aload_n (pc := 100) (i := 0) F dX4_digest_100 rfl rfl ?_
                refine fmg_0_now (pc := 101) F  hin_X4 dX4_digest_101 (List.mem_of_getElem? (i := 3) rfl) ?_
                refine fmg_4_canoeCount (pc := 104) F (by assumption) hin_X1 dX4_digest_104 (List.mem_of_getElem? (i := 7) rfl) ?_
                refine fmV_icmp_ge (pc := 107) (tgt := 130) F dX4_digest_107 (by decide) (fun h4 => ?_) (fun h4 => ?_)
                · rw [h41] at h4
                  exact absurd h4 (nI_ge hj (by omega))
                · refine fmV_aload_n (pc := 110) (i := 0) F dX4_digest_110 rfl rfl ?_
                  refine fmg_0_now (pc := 111) F  hin_X4 dX4_digest_111 (List.mem_of_getElem? (i := 3) rfl) ?_
                  refine fmg_4_canoes (pc := 114) F (by assumption) hin_X1 dX4_digest_114 (List.mem_of_getElem? (i := 8) rfl) ?_
                  refine fmV_iload_n (pc := 117) (i := 3) F dX4_digest_117 rfl rfl ?_
                  refine fmV_ald_canoes (pc := 118) F (by assumption) dX4_digest_118 (vp_in_nI (by omega) (by decide)) (fm_cn (by omega)) ?_
                  refine fmV_lload_n (pc := 119) (i := 1) F dX4_digest_119 rfl rfl ?_
                  refine fmV_cVl (n := 1) (pc := 120) F (c_X0_addTo l D A G σ o ha0 hj14 (fmFold (fun k d => fmCAdd σ 0 k d) (fmFold (fun r d => fmRAdd σ 0 r (σ 47 0 r 0).toNatClampNeg d) (fmFold (fun k d => fmD d (fmEntry σ k)) (fmFold (fun w d => fmD d (fmMFig σ 0 cc t w)) 683 12) 24) rc) j)) gX4_digest_X0_addTo rfl rfl rfl (by decide +kernel) ⟨Nat.le_of_ble_eq_true rfl, Nat.le_of_ble_eq_true rfl⟩ (fmR_9 F (by assumption) (by assumption)) rfl rfl (Nat.le_of_ble_eq_true rfl) dX4_digest_120 ⟨Nat.le_of_ble_eq_true rfl, Nat.le_of_ble_eq_true rfl⟩ (fun r2 u1 hc3 => ?_)
                  obtain ⟨hr9, hu9⟩ := hc3
                  have hr9 := hr9.symm
                  have hu9 := hu9.symm
                  subst hr9
                  subst hu9
                  refine fmV_lstore_n (pc := 123) (i := 1) F dX4_digest_123 rfl (by decide) ?_
                  refine fmV_iinc (pc := 124) (i := 3) F dX4_digest_124 rfl rfl (by decide) ?_
                  refine fmV_goto (pc := 127) (tgt := 99) F dX4_digest_127 (by decide) ?_
                  refine fmV_lv ?_ ih
                  have e9 : (fmFold (fun k d => fmCAdd σ 0 k d) (fmFold (fun r d => fmRAdd σ 0 r (σ 47 0 r 0).toNatClampNeg d) (fmFold (fun k d => fmD d (fmEntry σ k)) (fmFold (fun w d => fmD d (fmMFig σ 0 cc t w)) 683 12) 24) rc) (j + 1)) = fmCAdd σ 0 j (fmFold (fun k d => fmCAdd σ 0 k d) (fmFold (fun r d => fmRAdd σ 0 r (σ 47 0 r 0).toNatClampNeg d) (fmFold (fun k d => fmD d (fmEntry σ k)) (fmFold (fun w d => fmD d (fmMFig σ 0 cc t w)) 683 12) 24) rc) j) := fmFold_s _ _ _
                  exact ⟨rfl, by rw [e9] <;> rfl, by rw [nI_succ j]; rfl, trivial⟩
            · rw [h40] at h3
              exact absurd (nI_le (Nat.le_refl rc) (by omega)) h3
          · intro j hj ih
            have hj4 : j < 4 := by omega
            obtain ⟨q9, v9, w1, w2, w3, w4⟩ := good_row hg hj
            refine fmV_iload_n (pc := 66) (i := 3) F dX4_digest_66 rfl rfl ?_
            refine fmV_aload_n (pc := 67) (i := 0) F dX4_digest_67 rfl rfl ?_
            refine fmg_0_now (pc := 68) F  hin_X4 dX4_digest_68 (List.mem_of_getElem? (i := 3) rfl) ?_
            refine fmg_4_rowCount (pc := 71) F (by assumption) hin_X1 dX4_digest_71 (List.mem_of_getElem? (i := 5) rfl) ?_
            refine fmV_icmp_ge (pc := 74) (tgt := 97) F dX4_digest_74 (by decide) (fun h3 => ?_) (fun h3 => ?_)
            · rw [h40] at h3
              exact absurd h3 (nI_ge hj (by omega))
            · refine fmV_aload_n (pc := 77) (i := 0) F dX4_digest_77 rfl rfl ?_
              refine fmg_0_now (pc := 78) F  hin_X4 dX4_digest_78 (List.mem_of_getElem? (i := 3) rfl) ?_
              refine fmg_4_rows (pc := 81) F (by assumption) hin_X1 dX4_digest_81 (List.mem_of_getElem? (i := 6) rfl) ?_
              refine fmV_iload_n (pc := 84) (i := 3) F dX4_digest_84 rfl rfl ?_
              refine fmV_ald_rows (pc := 85) F (by assumption) dX4_digest_85 (vp_in_nI (by omega) (by decide)) (fm_cn (by omega)) ?_
              refine fmV_lload_n (pc := 86) (i := 1) F dX4_digest_86 rfl rfl ?_
              have q87 := c_X2_addTo l D A G σ o ha0 hj4 (v := v9) (q := q9) (by omega) w1 w4 w3 (fmFold (fun r d => fmRAdd σ 0 r (σ 47 0 r 0).toNatClampNeg d) (fmFold (fun k d => fmD d (fmEntry σ k)) (fmFold (fun w d => fmD d (fmMFig σ 0 cc t w)) 683 12) 24) j)
              refine fmV_cVl (n := 1) (pc := 87) F q87 gX4_digest_X2_addTo rfl rfl rfl (by decide +kernel) ⟨Nat.le_of_ble_eq_true rfl, Nat.le_of_ble_eq_true rfl⟩ (fmR_7 F (by assumption) (by assumption)) rfl rfl (Nat.le_of_ble_eq_true rfl) dX4_digest_87 ⟨Nat.le_of_ble_eq_true rfl, Nat.le_of_ble_eq_true rfl⟩ (fun r_ u_ hc_ => ?_)
              obtain ⟨hr9, hu9⟩ := hc_
              rw [← show (σ 47 0 j 0).toNatClampNeg = q9 from fm_cl w3 (by omega)] at hr9
              have hr9 := hr9.symm
              have hu9 := hu9.symm
              subst hr9
              subst hu9
              refine fmV_lstore_n (pc := 90) (i := 1) F dX4_digest_90 rfl (by decide) ?_
              refine fmV_iinc (pc := 91) (i := 3) F dX4_digest_91 rfl rfl (by decide) ?_
              refine fmV_goto (pc := 94) (tgt := 66) F dX4_digest_94 (by decide) ?_
              refine fmV_lv ?_ ih
              have e9 : (fmFold (fun r d => fmRAdd σ 0 r (σ 47 0 r 0).toNatClampNeg d) (fmFold (fun k d => fmD d (fmEntry σ k)) (fmFold (fun w d => fmD d (fmMFig σ 0 cc t w)) 683 12) 24) (j + 1)) = fmRAdd σ 0 j (σ 47 0 j 0).toNatClampNeg (fmFold (fun r d => fmRAdd σ 0 r (σ 47 0 r 0).toNatClampNeg d) (fmFold (fun k d => fmD d (fmEntry σ k)) (fmFold (fun w d => fmD d (fmMFig σ 0 cc t w)) 683 12) 24) j) := fmFold_s _ _ _
              exact ⟨rfl, by rw [e9] <;> rfl, by rw [nI_succ j]; rfl, trivial⟩
        · exact absurd (by decide) h2
      · intro j hj ih
        refine fmV_iload_n (pc := 36) (i := 3) F dX4_digest_36 rfl rfl ?_
        refine fmV_bipush (pc := 37) (v := 24) F dX4_digest_37 (by decide) ?_
        refine fmV_icmp_ge (pc := 39) (tgt := 64) F dX4_digest_39 (by decide) (fun h2 => ?_) (fun h2 => ?_)
        · exact absurd h2 (nI_ge (b := 24) hj (by decide))
        · refine fmV_lload_n (pc := 42) (i := 1) F dX4_digest_42 rfl rfl ?_
          refine fmV_ldc2 (pc := 43) (v := (31)) F dX4_digest_43 (List.mem_of_getElem? (i := 2) rfl) ?_
          refine fmV_lmul (pc := 46) F dX4_digest_46 ?_
          refine fmV_aload_n (pc := 47) (i := 0) F dX4_digest_47 rfl rfl ?_
          refine fmg_0_water (pc := 48) F  hin_X4 dX4_digest_48 (List.mem_of_getElem? (i := 4) rfl) ?_
          refine fmV_iload_n (pc := 51) (i := 3) F dX4_digest_51 rfl rfl ?_
          have q52 := c_X3_entry l D A G σ o (t := j) (by omega)
          rw [Nat.mod_eq_of_lt hj] at q52
          refine fmV_cVi (n := 1) (pc := 52) F q52 gX4_digest_X3_entry rfl rfl rfl (by decide +kernel) ⟨Nat.le_of_ble_eq_true rfl, Nat.le_of_ble_eq_true rfl⟩ (fmR_1 F ) rfl rfl (Nat.le_of_ble_eq_true rfl) dX4_digest_52 ⟨Nat.le_of_ble_eq_true rfl, Nat.le_of_ble_eq_true rfl⟩ (fun r8 u7 hc9 => ?_)
          obtain ⟨hr9, hu9⟩ := hc9
          have hr9 := hr9.symm
          have hu9 := hu9.symm
          subst hr9
          subst hu9
          refine fmV_i2l (pc := 55) F dX4_digest_55 rfl ?_
          refine fmV_ladd (pc := 56) F dX4_digest_56 ?_
          refine fmV_lstore_n (pc := 57) (i := 1) F dX4_digest_57 rfl (by decide) ?_
          refine fmV_iinc (pc := 58) (i := 3) F dX4_digest_58 rfl rfl (by decide) ?_
          refine fmV_goto (pc := 61) (tgt := 36) F dX4_digest_61 (by decide) ?_
          refine fmV_lv ?_ ih
          have e9 : (fmFold (fun k d => fmD d (fmEntry σ k)) (fmFold (fun w d => fmD d (fmMFig σ 0 cc t w)) 683 12) (j + 1)) = fmD (fmFold (fun k d => fmD d (fmEntry σ k)) (fmFold (fun w d => fmD d (fmMFig σ 0 cc t w)) 683 12) j) (fmEntry σ j) := fmFold_s _ _ _
          exact ⟨rfl, by rw [e9] <;> rfl, by rw [nI_succ j]; rfl, trivial⟩
    · exact absurd (by decide) h1
  · intro j hj ih
    refine fmV_iload_n (pc := 6) (i := 3) F dX4_digest_6 rfl rfl ?_
    refine fmV_bipush (pc := 7) (v := 12) F dX4_digest_7 (by decide) ?_
    refine fmV_icmp_ge (pc := 9) (tgt := 34) F dX4_digest_9 (by decide) (fun h1 => ?_) (fun h1 => ?_)
    · exact absurd h1 (nI_ge (b := 12) hj (by decide))
    · refine fmV_lload_n (pc := 12) (i := 1) F dX4_digest_12 rfl rfl ?_
      refine fmV_ldc2 (pc := 13) (v := (31)) F dX4_digest_13 (List.mem_of_getElem? (i := 2) rfl) ?_
      refine fmV_lmul (pc := 16) F dX4_digest_16 ?_
      refine fmV_aload_n (pc := 17) (i := 0) F dX4_digest_17 rfl rfl ?_
      refine fmg_0_now (pc := 18) F  hin_X4 dX4_digest_18 (List.mem_of_getElem? (i := 3) rfl) ?_
      refine fmV_iload_n (pc := 21) (i := 3) F dX4_digest_21 rfl rfl ?_
      refine fmV_cVi (n := 1) (pc := 22) F (c_X1_figure l D A G σ o ha0 hcc h41 (by omega) h42 hj) gX4_digest_X1_figure rfl rfl rfl (by decide +kernel) ⟨Nat.le_of_ble_eq_true rfl, Nat.le_of_ble_eq_true rfl⟩ (fmR_4 F (by assumption)) rfl rfl (Nat.le_of_ble_eq_true rfl) dX4_digest_22 ⟨Nat.le_of_ble_eq_true rfl, Nat.le_of_ble_eq_true rfl⟩ (fun r11 u10 hc12 => ?_)
      obtain ⟨hr9, hu9⟩ := hc12
      have hr9 := hr9.symm
      have hu9 := hu9.symm
      subst hr9
      subst hu9
      refine fmV_i2l (pc := 25) F dX4_digest_25 rfl ?_
      refine fmV_ladd (pc := 26) F dX4_digest_26 ?_
      refine fmV_lstore_n (pc := 27) (i := 1) F dX4_digest_27 rfl (by decide) ?_
      refine fmV_iinc (pc := 28) (i := 3) F dX4_digest_28 rfl rfl (by decide) ?_
      refine fmV_goto (pc := 31) (tgt := 6) F dX4_digest_31 (by decide) ?_
      refine fmV_lv ?_ ih
      have e9 : (fmFold (fun w d => fmD d (fmMFig σ 0 cc t w)) 683 (j + 1)) = fmD (fmFold (fun w d => fmD d (fmMFig σ 0 cc t w)) 683 j) (fmMFig σ 0 cc t j) := fmFold_s _ _ _
      exact ⟨rfl, by rw [e9] <;> rfl, by rw [nI_succ j]; rfl, trivial⟩
