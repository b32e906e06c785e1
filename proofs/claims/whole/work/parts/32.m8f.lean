set_option maxHeartbeats 4000000 in
set_option maxRecDepth 100000 in
theorem c_X6_digest (l : Launch) (D : va_G) (A : Nat → Prop) (G : fmG) (σ : fmS) (o : Nat → Int64) (hG : G.1 36 0 0 = 0) {rc cc t : Nat} (hcc : cc ≤ 14) (h63 : σ 63 0 0 0 = nI cc) (hrc : rc ≤ 4) (h62 : σ 62 0 0 0 = nI rc) (ht : t + 200 < 2 ^ 30) (h64 : σ 64 0 0 0 = nI t) (hpl : ∀ r, r < rc → ∃ q, q ≤ 6 ∧ σ 15 0 0 r = nI q) : fmXl l D A G yX6_digest wsX6_digest (fmRm 5 166 1838) 166 1838 [.ref (G.1 14 0 0)] σ o (fun x u => x = gDig (gz σ) rc cc t ∧ u = gz σ) (fun _ _ => False) := by
  refine fmXl_of (cc := cX6_digest) (maxL := 5) (ret := (some .long)) (by decide +kernel) rfl (Nat.le_of_ble_eq_true rfl) ?_
  intro P_ E_ S_ M_ args_ below_ meth_ C_ F hX hnt
  have hin_X6 : ∀ w ∈ wsX60, w ∈ wsX6_digest := (fun _ h => List.mem_cons_of_mem _ (List.mem_append_left _ (List.mem_append_right _ h)))
  have hin_X5 : ∀ w ∈ wsX50, w ∈ wsX6_digest := (fun _ h => List.mem_cons_of_mem _ (List.mem_append_right _ h))
  have hb0 : (0 : Nat) < 2 := by decide
  refine fmV_aload_n (pc := 0) (i := 0) F dX6_digest_0 rfl rfl ?_
  refine fmV_iconst (pc := 1) (v := 0) F dX6_digest_1 rfl ?_
  refine fmp_14_thrown (pc := 2) F  hin_X6 dX6_digest_2 (List.mem_of_getElem? (i := 1) rfl) ?_
  have g63 : gz σ 63 0 0 0 = nI cc := by rw [gz_c (by decide)]; exact h63
  have g62 : gz σ 62 0 0 0 = nI rc := by rw [gz_c (by decide)]; exact h62
  have g64 : gz σ 64 0 0 0 = nI t := by rw [gz_c (by decide)]; exact h64
  have h15 : ∀ r, r < rc → ∃ q, q ≤ 6 ∧ gz σ 15 0 0 r = nI q := fun r hr => by rw [gz_c (by decide)]; exact hpl r hr
  refine fmV_sg (σ1 := gz σ) rfl ?_
  generalize gz σ = τ at g62 g63 g64 h15 ⊢
  refine fmV_ldc2 (pc := 5) (v := (683)) F dX6_digest_5 (List.mem_of_getElem? (i := 2) rfl) ?_
  refine fmV_lstore_n (pc := 8) (i := 1) F dX6_digest_8 rfl (by decide) ?_
  refine fmV_iconst (pc := 9) (v := 0) F dX6_digest_9 rfl ?_
  refine fmV_istore_n (pc := 10) (i := 3) F dX6_digest_10 rfl (by decide) ?_
  refine fmV_lv (lv' := [(0, .ref (G.1 14 0 0)), (1, .long (gDg1 τ cc t 0)), (3, .int (nI 0))]) ⟨rfl, by rw [gDg1_0] <;> rfl, rfl, trivial⟩ ?_
  refine fmV_upC (N := 12) (pc := 11) (cf := fun j => j) (sf := fun j => 12 * j) (σf := fun j => τ) (lvf := fun j => [(0, .ref (G.1 14 0 0)), (1, .long (gDg1 τ cc t j)), (3, .int (nI j))]) 0 (Nat.zero_le _) ?_ ?_
  · refine fmV_iload_n (pc := 11) (i := 3) F dX6_digest_11 rfl rfl ?_
    refine fmV_bipush (pc := 12) (v := 12) F dX6_digest_12 (by decide) ?_
    refine fmV_icmp_ge (pc := 14) (tgt := 36) F dX6_digest_14 (by decide) (fun b1 => ?_) (fun b1 => ?_)
    · refine fmV_iconst (pc := 36) (v := 0) F dX6_digest_36 rfl ?_
      refine fmV_istore_n (pc := 37) (i := 3) F dX6_digest_37 rfl (by decide) ?_
      refine fmV_lv (lv' := [(0, .ref (G.1 14 0 0)), (1, .long (gDg2 τ (gDg1 τ cc t 12) 0)), (3, .int (nI 0))]) ⟨rfl, by rw [gDg2_0] <;> rfl, rfl, trivial⟩ ?_
      refine fmV_up (N := 24) (pc := 38) (σf := fun j => τ) (lvf := fun j => [(0, .ref (G.1 14 0 0)), (1, .long (gDg2 τ (gDg1 τ cc t 12) j)), (3, .int (nI j))]) 0 (Nat.zero_le _) ?_ ?_
      · refine fmV_iload_n (pc := 38) (i := 3) F dX6_digest_38 rfl rfl ?_
        refine fmV_bipush (pc := 39) (v := 24) F dX6_digest_39 (by decide) ?_
        refine fmV_icmp_ge (pc := 41) (tgt := 75) F dX6_digest_41 (by decide) (fun b2 => ?_) (fun b2 => ?_)
        · refine fmV_iconst (pc := 75) (v := 0) F dX6_digest_75 rfl ?_
          refine fmV_istore_n (pc := 76) (i := 3) F dX6_digest_76 rfl (by decide) ?_
          refine fmV_lv (lv' := [(0, .ref (G.1 14 0 0)), (1, .long (gDg3 τ cc (gDg2 τ (gDg1 τ cc t 12) 24) 0)), (3, .int (nI 0))]) ⟨rfl, by rw [gDg3_0] <;> rfl, rfl, trivial⟩ ?_
          refine fmV_up (N := rc) (pc := 77) (σf := fun j => τ) (lvf := fun j => [(0, .ref (G.1 14 0 0)), (1, .long (gDg3 τ cc (gDg2 τ (gDg1 τ cc t 12) 24) j)), (3, .int (nI j))]) 0 (Nat.zero_le _) ?_ ?_
          · refine fmV_iload_n (pc := 77) (i := 3) F dX6_digest_77 rfl rfl ?_
            refine fmV_aload_n (pc := 78) (i := 0) F dX6_digest_78 rfl rfl ?_
            refine fmg_14_rows (pc := 79) F  hin_X6 dX6_digest_79 (List.mem_of_getElem? (i := 6) rfl) ?_
            refine fmV_icmp_ge (pc := 82) (tgt := 143) F dX6_digest_82 (by decide) (fun b3 => ?_) (fun b3 => ?_)
            · refine fmV_widen (k := 12 + 11 * 0) (n := 144 + 121 * 0) (by (try dsimp only); omega) (by (try dsimp only); omega) ?_
              refine fmV_iconst (pc := 143) (v := 0) F dX6_digest_143 rfl ?_
              refine fmV_istore_n (pc := 144) (i := 3) F dX6_digest_144 rfl (by decide) ?_
              refine fmV_lv (lv' := [(0, .ref (G.1 14 0 0)), (1, .long (gDg4 τ (gDg3 τ cc (gDg2 τ (gDg1 τ cc t 12) 24) rc) 0)), (3, .int (nI 0))]) ⟨rfl, by rw [gDg4_0] <;> rfl, rfl, trivial⟩ ?_
              refine fmV_upC (N := cc) (pc := 145) (cf := fun j => 12 + 11 * j) (sf := fun j => 144 + 121 * j) (σf := fun j => τ) (lvf := fun j => [(0, .ref (G.1 14 0 0)), (1, .long (gDg4 τ (gDg3 τ cc (gDg2 τ (gDg1 τ cc t 12) 24) rc) j)), (3, .int (nI j))]) 0 (Nat.zero_le _) ?_ ?_
              · refine fmV_iload_n (pc := 145) (i := 3) F dX6_digest_145 rfl rfl ?_
                refine fmV_aload_n (pc := 146) (i := 0) F dX6_digest_146 rfl rfl ?_
                refine fmg_14_canoes (pc := 147) F  hin_X6 dX6_digest_147 (List.mem_of_getElem? (i := 9) rfl) ?_
                refine fmV_icmp_ge (pc := 150) (tgt := 230) F dX6_digest_150 (by decide) (fun b5 => ?_) (fun b5 => ?_)
                · refine fmV_lload_n (pc := 230) (i := 1) F dX6_digest_230 rfl rfl ?_
                  refine fmV_widen (k := 166) (n := 1838) (by (try dsimp only); omega) (by (try dsimp only); omega) ?_
                  refine fmV_xr ?_
                  exact fmV_lret (pc := 231) F dX6_digest_231 rfl ⟨rfl, rfl⟩
                · rw [g63] at b5
                  exact absurd (nI_le (Nat.le_refl cc) (by omega)) b5
              · intro j hj ih
                have hj14 : j < 14 := by omega
                refine fmV_iload_n (pc := 145) (i := 3) F dX6_digest_145 rfl rfl ?_
                refine fmV_aload_n (pc := 146) (i := 0) F dX6_digest_146 rfl rfl ?_
                refine fmg_14_canoes (pc := 147) F  hin_X6 dX6_digest_147 (List.mem_of_getElem? (i := 9) rfl) ?_
                refine fmV_icmp_ge (pc := 150) (tgt := 230) F dX6_digest_150 (by decide) (fun b5 => ?_) (fun b5 => ?_)
                · rw [g63] at b5
                  exact absurd b5 (nI_ge hj (by omega))
                · refine fmV_iconst (pc := 153) (v := 0) F dX6_digest_153 rfl ?_
                  refine fmV_widen (k := 12 + 11 * j + 0) (n := 144 + 121 * j + 11 * 0) (by (try dsimp only); omega) (by (try dsimp only); omega) ?_
                  refine fmV_istore (pc := 154) (i := 4) F dX6_digest_154 (by decide) ?_
                  refine fmV_lv (lv' := [(0, .ref (G.1 14 0 0)), (1, .long (gDga τ j (gDg4 τ (gDg3 τ cc (gDg2 τ (gDg1 τ cc t 12) 24) rc) j) 0)), (3, .int (nI j)), (4, .int (nI 0))]) ⟨rfl, by rw [gDga_0] <;> rfl, rfl, rfl, trivial⟩ ?_
                  refine fmV_upC (N := 11) (pc := 156) (cf := fun i => 12 + 11 * j + i) (sf := fun i => 144 + 121 * j + 11 * i) (σf := fun i => τ) (lvf := fun i => [(0, .ref (G.1 14 0 0)), (1, .long (gDga τ j (gDg4 τ (gDg3 τ cc (gDg2 τ (gDg1 τ cc t 12) 24) rc) j) i)), (3, .int (nI j)), (4, .int (nI i))]) 0 (Nat.zero_le _) ?_ ?_
                  · refine fmV_iload (pc := 156) (i := 4) F dX6_digest_156 rfl ?_
                    refine fmV_bipush (pc := 158) (v := 11) F dX6_digest_158 (by decide) ?_
                    refine fmV_icmp_ge (pc := 160) (tgt := 184) F dX6_digest_160 (by decide) (fun b6 => ?_) (fun b6 => ?_)
                    · refine fmV_iconst (pc := 184) (v := 0) F dX6_digest_184 rfl ?_
                      refine fmV_istore (pc := 185) (i := 4) F dX6_digest_185 (by decide) ?_
                      refine fmV_lv (lv' := [(0, .ref (G.1 14 0 0)), (1, .long (gDgb τ j (gDga τ j (gDg4 τ (gDg3 τ cc (gDg2 τ (gDg1 τ cc t 12) 24) rc) j) 11) 0)), (3, .int (nI j)), (4, .int (nI 0))]) ⟨rfl, by rw [gDgb_0] <;> rfl, rfl, rfl, trivial⟩ ?_
                      refine fmV_up (N := 16) (pc := 187) (σf := fun i => τ) (lvf := fun i => [(0, .ref (G.1 14 0 0)), (1, .long (gDgb τ j (gDga τ j (gDg4 τ (gDg3 τ cc (gDg2 τ (gDg1 τ cc t 12) 24) rc) j) 11) i)), (3, .int (nI j)), (4, .int (nI i))]) 0 (Nat.zero_le _) ?_ ?_
                      · refine fmV_iload (pc := 187) (i := 4) F dX6_digest_187 rfl ?_
                        refine fmV_bipush (pc := 189) (v := 16) F dX6_digest_189 (by decide) ?_
                        refine fmV_icmp_ge (pc := 191) (tgt := 224) F dX6_digest_191 (by decide) (fun b7 => ?_) (fun b7 => ?_)
                        · refine fmV_iinc (pc := 224) (i := 3) F dX6_digest_224 rfl rfl (by decide) ?_
                          refine fmV_goto (pc := 227) (tgt := 145) F dX6_digest_227 (by decide) ?_
                          refine fmV_widen (k := 12 + 11 * (j + 1)) (n := 144 + 121 * (j + 1)) (by omega) (by omega) ?_
                          refine fmV_lv ?_ ih
                          exact ⟨rfl, by rw [gDg4_s] <;> rfl, by rw [nI_succ j]; rfl, trivial⟩
                        · exact absurd (by decide) b7
                      · intro i hi ih2
                        refine fmV_iload (pc := 187) (i := 4) F dX6_digest_187 rfl ?_
                        refine fmV_bipush (pc := 189) (v := 16) F dX6_digest_189 (by decide) ?_
                        refine fmV_icmp_ge (pc := 191) (tgt := 224) F dX6_digest_191 (by decide) (fun b7 => ?_) (fun b7 => ?_)
                        · exact absurd b7 (nI_ge (b := 16) hi (by decide))
                        · refine fmV_lload_n (pc := 194) (i := 1) F dX6_digest_194 rfl rfl ?_
                          refine fmV_ldc2 (pc := 195) (v := (31)) F dX6_digest_195 (List.mem_of_getElem? (i := 3) rfl) ?_
                          refine fmV_lmul (pc := 198) F dX6_digest_198 ?_
                          refine fmV_aload_n (pc := 199) (i := 0) F dX6_digest_199 rfl rfl ?_
                          refine fmV_iconst (pc := 200) (v := 4) F dX6_digest_200 rfl ?_
                          refine fmV_iload_n (pc := 201) (i := 3) F dX6_digest_201 rfl rfl ?_
                          refine fmV_imul (pc := 202) F dX6_digest_202 ?_
                          refine fmV_iload (pc := 203) (i := 4) F dX6_digest_203 rfl ?_
                          refine fmV_iconst (pc := 205) (v := 4) F dX6_digest_205 rfl ?_
                          refine fmV_idiv (pc := 206) F dX6_digest_206 (by decide) ?_
                          refine fmV_iadd (pc := 207) F dX6_digest_207 ?_
                          rw [show (4 : Int32) * nI j + nI i / 4 = nI (4 * j + i / 4) from by rw [show nI i / 4 = nI (i / 4) from pk_div (d := 4) (by omega) (by decide) (by decide), fm_e4]]
                          refine fmV_iload (pc := 208) (i := 4) F dX6_digest_208 rfl ?_
                          refine fmV_iconst (pc := 210) (v := 4) F dX6_digest_210 rfl ?_
                          refine fmV_irem (pc := 211) F dX6_digest_211 (by decide) ?_
                          rw [show (nI i - nI i / 4 * 4 : Int32) = nI (i % 4) from pk_rem (d := 4) (by omega) (by decide) (by decide)]
                          refine fmV_xVi (n := 2) (pc := 212) F hX (c_X6_goodTold l D A G τ o (i := 4 * j + i / 4) (by omega) (nI (i % 4))) gX6_digest_X6_goodTold rfl rfl rfl (by decide +kernel) ⟨Nat.le_of_ble_eq_true rfl, Nat.le_of_ble_eq_true rfl⟩ (fmR_14 F ) rfl rfl (Nat.le_of_ble_eq_true rfl) dX6_digest_212 ⟨by show _ ≤ 166; (try dsimp only); omega, by show _ ≤ 1838; (try dsimp only); omega⟩ (fun _ _ h9 => False.elim h9) (fun r2 u1 hc3 => ?_)
                          obtain ⟨hr9, hu9⟩ := hc3
                          have hr9 := hr9.symm
                          have hu9 := hu9.symm
                          subst hr9
                          subst hu9
                          refine fmV_i2l (pc := 215) F dX6_digest_215 rfl ?_
                          refine fmV_ladd (pc := 216) F dX6_digest_216 ?_
                          refine fmV_lstore_n (pc := 217) (i := 1) F dX6_digest_217 rfl (by decide) ?_
                          refine fmV_iinc (pc := 218) (i := 4) F dX6_digest_218 rfl rfl (by decide) ?_
                          refine fmV_goto (pc := 221) (tgt := 187) F dX6_digest_221 (by decide) ?_
                          refine fmV_lv ?_ ih2
                          exact ⟨rfl, by rw [gDgb_s] <;> rfl, rfl, by rw [nI_succ i]; rfl, trivial⟩
                    · exact absurd (by decide) b6
                  · intro i hi ih2
                    refine fmV_iload (pc := 156) (i := 4) F dX6_digest_156 rfl ?_
                    refine fmV_bipush (pc := 158) (v := 11) F dX6_digest_158 (by decide) ?_
                    refine fmV_icmp_ge (pc := 160) (tgt := 184) F dX6_digest_160 (by decide) (fun b6 => ?_) (fun b6 => ?_)
                    · exact absurd b6 (nI_ge (b := 11) hi (by decide))
                    · refine fmV_lload_n (pc := 163) (i := 1) F dX6_digest_163 rfl rfl ?_
                      refine fmV_ldc2 (pc := 164) (v := (31)) F dX6_digest_164 (List.mem_of_getElem? (i := 3) rfl) ?_
                      refine fmV_lmul (pc := 167) F dX6_digest_167 ?_
                      refine fmV_aload_n (pc := 168) (i := 0) F dX6_digest_168 rfl rfl ?_
                      refine fmV_iload_n (pc := 169) (i := 3) F dX6_digest_169 rfl rfl ?_
                      refine fmV_iload (pc := 170) (i := 4) F dX6_digest_170 rfl ?_
                      refine fmV_xVi (n := 2) (pc := 172) F hX (c_X6_canoeTold l D A G τ o hG hj14 hi) gX6_digest_X6_canoeTold rfl rfl rfl (by decide +kernel) ⟨Nat.le_of_ble_eq_true rfl, Nat.le_of_ble_eq_true rfl⟩ (fmR_14 F ) rfl rfl (Nat.le_of_ble_eq_true rfl) dX6_digest_172 ⟨by show _ ≤ 166; (try dsimp only); omega, by show _ ≤ 1838; (try dsimp only); omega⟩ (fun _ _ h9 => False.elim h9) (fun r5 u4 hc6 => ?_)
                      obtain ⟨hr9, hu9⟩ := hc6
                      have hr9 := hr9.symm
                      have hu9 := hu9.symm
                      subst hr9
                      subst hu9
                      refine fmV_i2l (pc := 175) F dX6_digest_175 rfl ?_
                      refine fmV_ladd (pc := 176) F dX6_digest_176 ?_
                      refine fmV_lstore_n (pc := 177) (i := 1) F dX6_digest_177 rfl (by decide) ?_
                      refine fmV_iinc (pc := 178) (i := 4) F dX6_digest_178 rfl rfl (by decide) ?_
                      refine fmV_goto (pc := 181) (tgt := 156) F dX6_digest_181 (by decide) ?_
                      refine fmV_widen (k := 12 + 11 * j + (i + 1)) (n := 144 + 121 * j + 11 * (i + 1)) (by omega) (by omega) ?_
                      refine fmV_lv ?_ ih2
                      exact ⟨rfl, by rw [gDga_s] <;> rfl, rfl, by rw [nI_succ i]; rfl, trivial⟩
            · rw [g62] at b3
              exact absurd (nI_le (Nat.le_refl rc) (by omega)) b3
          · intro j hj ih
            obtain ⟨q9, hq9, hp9⟩ := h15 j hj
            refine fmV_iload_n (pc := 77) (i := 3) F dX6_digest_77 rfl rfl ?_
            refine fmV_aload_n (pc := 78) (i := 0) F dX6_digest_78 rfl rfl ?_
            refine fmg_14_rows (pc := 79) F  hin_X6 dX6_digest_79 (List.mem_of_getElem? (i := 6) rfl) ?_
            refine fmV_icmp_ge (pc := 82) (tgt := 143) F dX6_digest_82 (by decide) (fun b3 => ?_) (fun b3 => ?_)
            · rw [g62] at b3
              exact absurd b3 (nI_ge hj (by omega))
            · refine fmV_lload_n (pc := 85) (i := 1) F dX6_digest_85 rfl rfl ?_
              refine fmV_ldc2 (pc := 86) (v := (31)) F dX6_digest_86 (List.mem_of_getElem? (i := 3) rfl) ?_
              refine fmV_lmul (pc := 89) F dX6_digest_89 ?_
              refine fmV_aload_n (pc := 90) (i := 0) F dX6_digest_90 rfl rfl ?_
              refine fmg_14_places (pc := 91) F  hin_X6 dX6_digest_91 (List.mem_of_getElem? (i := 7) rfl) ?_
              refine fmV_iload_n (pc := 94) (i := 3) F dX6_digest_94 rfl rfl ?_
              refine fmal_15 (pc := 95) F  dX6_digest_95 (vp_in_nI (by omega) (by decide)) (fm_cn (by omega)) ?_
              refine fmV_i2l (pc := 96) F dX6_digest_96 rfl ?_
              refine fmV_ladd (pc := 97) F dX6_digest_97 ?_
              refine fmV_lstore_n (pc := 98) (i := 1) F dX6_digest_98 rfl (by decide) ?_
              refine fmV_iconst (pc := 99) (v := 0) F dX6_digest_99 rfl ?_
              refine fmV_istore (pc := 100) (i := 4) F dX6_digest_100 (by decide) ?_
              refine fmV_lv (lv' := [(0, .ref (G.1 14 0 0)), (1, .long (gDgr τ cc j (gDg3 τ cc (gDg2 τ (gDg1 τ cc t 12) 24) j) 0)), (3, .int (nI j)), (4, .int (nI 0))]) ⟨rfl, by rw [gDgr_0] <;> rfl, rfl, rfl, trivial⟩ ?_
              refine fmV_up (N := q9) (pc := 102) (σf := fun i => τ) (lvf := fun i => [(0, .ref (G.1 14 0 0)), (1, .long (gDgr τ cc j (gDg3 τ cc (gDg2 τ (gDg1 τ cc t 12) 24) j) i)), (3, .int (nI j)), (4, .int (nI i))]) 0 (Nat.zero_le _) ?_ ?_
              · refine fmV_iload (pc := 102) (i := 4) F dX6_digest_102 rfl ?_
                refine fmV_aload_n (pc := 104) (i := 0) F dX6_digest_104 rfl rfl ?_
                refine fmg_14_places (pc := 105) F  hin_X6 dX6_digest_105 (List.mem_of_getElem? (i := 7) rfl) ?_
                refine fmV_iload_n (pc := 108) (i := 3) F dX6_digest_108 rfl rfl ?_
                refine fmal_15 (pc := 109) F  dX6_digest_109 (vp_in_nI (by omega) (by decide)) (fm_cn (by omega)) ?_
                refine fmV_icmp_ge (pc := 110) (tgt := 137) F dX6_digest_110 (by decide) (fun b4 => ?_) (fun b4 => ?_)
                · refine fmV_iinc (pc := 137) (i := 3) F dX6_digest_137 rfl rfl (by decide) ?_
                  refine fmV_goto (pc := 140) (tgt := 77) F dX6_digest_140 (by decide) ?_
                  refine fmV_lv ?_ ih
                  exact ⟨rfl, by rw [gDg3_s, fm_cl hp9 (by omega)] <;> rfl, by rw [nI_succ j]; rfl, trivial⟩
                · rw [hp9] at b4
                  exact absurd (nI_le (Nat.le_refl q9) (by omega)) b4
              · intro i hi ih2
                refine fmV_iload (pc := 102) (i := 4) F dX6_digest_102 rfl ?_
                refine fmV_aload_n (pc := 104) (i := 0) F dX6_digest_104 rfl rfl ?_
                refine fmg_14_places (pc := 105) F  hin_X6 dX6_digest_105 (List.mem_of_getElem? (i := 7) rfl) ?_
                refine fmV_iload_n (pc := 108) (i := 3) F dX6_digest_108 rfl rfl ?_
                refine fmal_15 (pc := 109) F  dX6_digest_109 (vp_in_nI (by omega) (by decide)) (fm_cn (by omega)) ?_
                refine fmV_icmp_ge (pc := 110) (tgt := 137) F dX6_digest_110 (by decide) (fun b4 => ?_) (fun b4 => ?_)
                · rw [hp9] at b4
                  exact absurd b4 (nI_ge hi (by omega))
                · refine fmV_lload_n (pc := 113) (i := 1) F dX6_digest_113 rfl rfl ?_
                  refine fmV_ldc2 (pc := 114) (v := (31)) F dX6_digest_114 (List.mem_of_getElem? (i := 3) rfl) ?_
                  refine fmV_lmul (pc := 117) F dX6_digest_117 ?_
                  refine fmV_aload_n (pc := 118) (i := 0) F dX6_digest_118 rfl rfl ?_
                  refine fmg_14_s (pc := 119) F  hin_X6 dX6_digest_119 (List.mem_of_getElem? (i := 8) rfl) ?_
                  refine fmV_iload_n (pc := 122) (i := 3) F dX6_digest_122 rfl rfl ?_
                  refine fmV_iload (pc := 123) (i := 4) F dX6_digest_123 rfl ?_
                  refine fmV_xVi (n := 2) (pc := 125) F hX (c_X5_at l D A G τ o hb0 hcc g63 (nI j) (nI i)) gX6_digest_X5_at rfl rfl rfl (by decide +kernel) ⟨Nat.le_of_ble_eq_true rfl, Nat.le_of_ble_eq_true rfl⟩ (fmR_23 F (by assumption)) rfl rfl (Nat.le_of_ble_eq_true rfl) dX6_digest_125 ⟨by show _ ≤ 166; (try dsimp only); omega, by show _ ≤ 1838; (try dsimp only); omega⟩ (fun _ _ h9 => False.elim h9) (fun r8 u7 hc9 => ?_)
                  obtain ⟨hr9, hu9⟩ := hc9
                  have hr9 := hr9.symm
                  have hu9 := hu9.symm
                  subst hr9
                  subst hu9
                  refine fmV_i2l (pc := 128) F dX6_digest_128 rfl ?_
                  refine fmV_ladd (pc := 129) F dX6_digest_129 ?_
                  refine fmV_lstore_n (pc := 130) (i := 1) F dX6_digest_130 rfl (by decide) ?_
                  refine fmV_iinc (pc := 131) (i := 4) F dX6_digest_131 rfl rfl (by decide) ?_
                  refine fmV_goto (pc := 134) (tgt := 102) F dX6_digest_134 (by decide) ?_
                  refine fmV_lv ?_ ih2
                  exact ⟨rfl, by rw [gDgr_s] <;> rfl, rfl, by rw [nI_succ i]; rfl, trivial⟩
        · exact absurd (by decide) b2
      · intro j hj ih
        refine fmV_iload_n (pc := 38) (i := 3) F dX6_digest_38 rfl rfl ?_
        refine fmV_bipush (pc := 39) (v := 24) F dX6_digest_39 (by decide) ?_
        refine fmV_icmp_ge (pc := 41) (tgt := 75) F dX6_digest_41 (by decide) (fun b2 => ?_) (fun b2 => ?_)
        · exact absurd b2 (nI_ge (b := 24) hj (by decide))
        · refine fmV_lload_n (pc := 44) (i := 1) F dX6_digest_44 rfl rfl ?_
          refine fmV_ldc2 (pc := 45) (v := (31)) F dX6_digest_45 (List.mem_of_getElem? (i := 3) rfl) ?_
          refine fmV_lmul (pc := 48) F dX6_digest_48 ?_
          refine fmV_bipush (pc := 49) (v := 10) F dX6_digest_49 (by decide) ?_
          refine fmV_aload_n (pc := 51) (i := 0) F dX6_digest_51 rfl rfl ?_
          refine fmg_14_tide (pc := 52) F  hin_X6 dX6_digest_52 (List.mem_of_getElem? (i := 4) rfl) ?_
          refine fmV_iload_n (pc := 55) (i := 3) F dX6_digest_55 rfl rfl ?_
          refine fmal_16 (pc := 56) F  dX6_digest_56 (vp_in_nI (by omega) (by decide)) (fm_cn (by omega)) ?_
          refine fmV_imul (pc := 57) F dX6_digest_57 ?_
          refine fmV_i2l (pc := 58) F dX6_digest_58 rfl ?_
          refine fmV_ladd (pc := 59) F dX6_digest_59 ?_
          refine fmV_aload_n (pc := 60) (i := 0) F dX6_digest_60 rfl rfl ?_
          refine fmg_14_wake (pc := 61) F  hin_X6 dX6_digest_61 (List.mem_of_getElem? (i := 5) rfl) ?_
          refine fmV_iload_n (pc := 64) (i := 3) F dX6_digest_64 rfl rfl ?_
          refine fmal_17 (pc := 65) F  dX6_digest_65 (vp_in_nI (by omega) (by decide)) (fm_cn (by omega)) ?_
          refine fmV_i2l (pc := 66) F dX6_digest_66 rfl ?_
          refine fmV_ladd (pc := 67) F dX6_digest_67 ?_
          refine fmV_lstore_n (pc := 68) (i := 1) F dX6_digest_68 rfl (by decide) ?_
          refine fmV_iinc (pc := 69) (i := 3) F dX6_digest_69 rfl rfl (by decide) ?_
          refine fmV_goto (pc := 72) (tgt := 38) F dX6_digest_72 (by decide) ?_
          refine fmV_lv ?_ ih
          exact ⟨rfl, by rw [gDg2_s] <;> rfl, by rw [nI_succ j]; rfl, trivial⟩
    · exact absurd (by decide) b1
  · intro j hj ih
    refine fmV_iload_n (pc := 11) (i := 3) F dX6_digest_11 rfl rfl ?_
    refine fmV_bipush (pc := 12) (v := 12) F dX6_digest_12 (by decide) ?_
    refine fmV_icmp_ge (pc := 14) (tgt := 36) F dX6_digest_14 (by decide) (fun b1 => ?_) (fun b1 => ?_)
    · exact absurd b1 (nI_ge (b := 12) hj (by decide))
    · refine fmV_lload_n (pc := 17) (i := 1) F dX6_digest_17 rfl rfl ?_
      refine fmV_ldc2 (pc := 18) (v := (31)) F dX6_digest_18 (List.mem_of_getElem? (i := 3) rfl) ?_
      refine fmV_lmul (pc := 21) F dX6_digest_21 ?_
      refine fmV_aload_n (pc := 22) (i := 0) F dX6_digest_22 rfl rfl ?_
      refine fmV_iload_n (pc := 23) (i := 3) F dX6_digest_23 rfl rfl ?_
      refine fmV_xVi (n := 1) (pc := 24) F hX (c_X6_counted l D A G τ o hG hcc g63 (show t < 2 ^ 30 by omega) g64 hj) gX6_digest_X6_counted rfl rfl rfl (by decide +kernel) ⟨Nat.le_of_ble_eq_true rfl, Nat.le_of_ble_eq_true rfl⟩ (fmR_14 F ) rfl rfl (Nat.le_of_ble_eq_true rfl) dX6_digest_24 ⟨by show _ ≤ 166; (try dsimp only); omega, by show _ ≤ 1838; (try dsimp only); omega⟩ (fun _ _ h9 => False.elim h9) (fun r11 u10 hc12 => ?_)
      obtain ⟨hr9, hu9⟩ := hc12
      have hr9 := hr9.symm
      have hu9 := hu9.symm
      subst hr9
      subst hu9
      refine fmV_i2l (pc := 27) F dX6_digest_27 rfl ?_
      refine fmV_ladd (pc := 28) F dX6_digest_28 ?_
      refine fmV_lstore_n (pc := 29) (i := 1) F dX6_digest_29 rfl (by decide) ?_
      refine fmV_iinc (pc := 30) (i := 3) F dX6_digest_30 rfl rfl (by decide) ?_
      refine fmV_goto (pc := 33) (tgt := 11) F dX6_digest_33 (by decide) ?_
      refine fmV_widen (k := (j + 1)) (n := 12 * (j + 1)) (by omega) (by omega) ?_
      refine fmV_lv ?_ ih
      exact ⟨rfl, by rw [gDg1_s] <;> rfl, by rw [nI_succ j]; rfl, trivial⟩
