set_option maxHeartbeats 4000000 in
set_option maxRecDepth 100000 in
theorem c_X2_copyFrom (l : Launch) (D : va_G) (A : Nat → Prop) (G : fmG) (σ : fmS) (o : Nat → Int64) {a b r : Nat} (ha : a < 2) (hb2 : b < 2) (hr : r < 4) : fmMv l D A G yX2_copyFrom wsX2_copyFrom (fmRm 1 0 0) 0 0 [.ref (G.1 7 a r), .ref (G.1 7 b r)] σ o (fun u => u = fmRC a b r σ) := by
  refine fmMv_of (cc := cX2_copyFrom) (maxL := 2) (ret := none) (by decide +kernel) rfl (Nat.le_of_ble_eq_true rfl) ?_
  intro P_ E_ S_ M_ args_ below_ meth_ C_ F
  have hin_X2 : ∀ w ∈ wsX20, w ∈ wsX2_copyFrom := (fun _ h => List.mem_cons_of_mem _ (List.mem_append_right _ h))
  refine fmV_aload_n (pc := 0) (i := 0) F dX2_copyFrom_0 rfl rfl ?_
  refine fmV_aload_n (pc := 1) (i := 1) F dX2_copyFrom_1 rfl rfl ?_
  refine fmg_7_places (pc := 2) F hb2 hr hin_X2 dX2_copyFrom_2 (List.mem_of_getElem? (i := 1) rfl) ?_
  refine fmp_7_places (pc := 5) F ha hr hin_X2 dX2_copyFrom_5 (List.mem_of_getElem? (i := 1) rfl) ?_
  refine fmV_aload_n (pc := 8) (i := 0) F dX2_copyFrom_8 rfl rfl ?_
  refine fmV_aload_n (pc := 9) (i := 1) F dX2_copyFrom_9 rfl rfl ?_
  refine fmg_7_used (pc := 10) F hb2 hr hin_X2 dX2_copyFrom_10 (List.mem_of_getElem? (i := 2) rfl) ?_
  refine fmp_7_used (pc := 13) F ha hr hin_X2 dX2_copyFrom_13 (List.mem_of_getElem? (i := 2) rfl) ?_
  refine fmV_aload_n (pc := 16) (i := 1) F dX2_copyFrom_16 rfl rfl ?_
  refine fmg_7_moored (pc := 17) F hb2 hr hin_X2 dX2_copyFrom_17 (List.mem_of_getElem? (i := 3) rfl) ?_
  refine fmV_iconst (pc := 20) (v := 0) F dX2_copyFrom_20 rfl ?_
  refine fmV_aload_n (pc := 21) (i := 0) F dX2_copyFrom_21 rfl rfl ?_
  refine fmg_7_moored (pc := 22) F ha hr hin_X2 dX2_copyFrom_22 (List.mem_of_getElem? (i := 3) rfl) ?_
  refine fmV_iconst (pc := 25) (v := 0) F dX2_copyFrom_25 rfl ?_
  refine fmV_bipush (pc := 26) (v := 6) F dX2_copyFrom_26 (by decide) ?_
  refine fmV_copyi (pc := 28) F (fm_mem (a := 2) (b := 4) (by decide +kernel) (by assumption) (by assumption)) (fun τ => rfl) (fm_mem (a := 2) (b := 4) (by decide +kernel) (by assumption) (by assumption)) (fun τ => rfl) rfl dX2_copyFrom_28 ⟨(List.mem_of_getElem? (i := 4) rfl), (List.mem_of_getElem? (i := 5) rfl), (List.mem_of_getElem? (i := 6) rfl), (List.mem_of_getElem? (i := 7) rfl)⟩ (by decide) (by decide) (by decide) (Nat.le_of_ble_eq_true rfl) (Nat.le_of_ble_eq_true rfl) ?_
  exact fmV_vret (pc := 31) F dX2_copyFrom_31 rfl rfl

set_option maxHeartbeats 4000000 in
set_option maxRecDepth 100000 in
theorem c_X0_copyFrom (l : Launch) (D : va_G) (A : Nat → Prop) (G : fmG) (σ : fmS) (o : Nat → Int64) {a b k : Nat} (ha : a < 2) (hb2 : b < 2) (hb : k < 14) : fmMv l D A G yX0_copyFrom wsX0_copyFrom (fmRm 1 0 0) 0 0 [.ref (G.1 9 a k), .ref (G.1 9 b k)] σ o (fun u => u = fmCC a b k σ) := by
  refine fmMv_of (cc := cX0_copyFrom) (maxL := 2) (ret := none) (by decide +kernel) rfl (Nat.le_of_ble_eq_true rfl) ?_
  intro P_ E_ S_ M_ args_ below_ meth_ C_ F
  have hin_X0 : ∀ w ∈ wsX00, w ∈ wsX0_copyFrom := (fun _ h => List.mem_cons_of_mem _ (List.mem_append_right _ h))
  refine fmV_aload_n (pc := 0) (i := 0) F dX0_copyFrom_0 rfl rfl ?_
  refine fmV_aload_n (pc := 1) (i := 1) F dX0_copyFrom_1 rfl rfl ?_
  refine fmg_9_coins (pc := 2) F (by assumption) (by assumption) hin_X0 dX0_copyFrom_2 (List.mem_of_getElem? (i := 1) rfl) ?_
  refine fmp_9_coins (pc := 5) F (by assumption) (by assumption) hin_X0 dX0_copyFrom_5 (List.mem_of_getElem? (i := 1) rfl) ?_
  refine fmV_aload_n (pc := 8) (i := 0) F dX0_copyFrom_8 rfl rfl ?_
  refine fmV_aload_n (pc := 9) (i := 1) F dX0_copyFrom_9 rfl rfl ?_
  refine fmg_9_rope (pc := 10) F (by assumption) (by assumption) hin_X0 dX0_copyFrom_10 (List.mem_of_getElem? (i := 2) rfl) ?_
  refine fmp_9_rope (pc := 13) F (by assumption) (by assumption) hin_X0 dX0_copyFrom_13 (List.mem_of_getElem? (i := 2) rfl) ?_
  refine fmV_aload_n (pc := 16) (i := 0) F dX0_copyFrom_16 rfl rfl ?_
  refine fmV_aload_n (pc := 17) (i := 1) F dX0_copyFrom_17 rfl rfl ?_
  refine fmg_9_status (pc := 18) F (by assumption) (by assumption) hin_X0 dX0_copyFrom_18 (List.mem_of_getElem? (i := 3) rfl) ?_
  refine fmp_9_status (pc := 21) F (by assumption) (by assumption) hin_X0 dX0_copyFrom_21 (List.mem_of_getElem? (i := 3) rfl) ?_
  refine fmV_aload_n (pc := 24) (i := 0) F dX0_copyFrom_24 rfl rfl ?_
  refine fmV_aload_n (pc := 25) (i := 1) F dX0_copyFrom_25 rfl rfl ?_
  refine fmg_9_row (pc := 26) F (by assumption) (by assumption) hin_X0 dX0_copyFrom_26 (List.mem_of_getElem? (i := 4) rfl) ?_
  refine fmp_9_row (pc := 29) F (by assumption) (by assumption) hin_X0 dX0_copyFrom_29 (List.mem_of_getElem? (i := 4) rfl) ?_
  refine fmV_aload_n (pc := 32) (i := 0) F dX0_copyFrom_32 rfl rfl ?_
  refine fmV_aload_n (pc := 33) (i := 1) F dX0_copyFrom_33 rfl rfl ?_
  refine fmg_9_place (pc := 34) F (by assumption) (by assumption) hin_X0 dX0_copyFrom_34 (List.mem_of_getElem? (i := 5) rfl) ?_
  refine fmp_9_place (pc := 37) F (by assumption) (by assumption) hin_X0 dX0_copyFrom_37 (List.mem_of_getElem? (i := 5) rfl) ?_
  refine fmV_aload_n (pc := 40) (i := 0) F dX0_copyFrom_40 rfl rfl ?_
  refine fmV_aload_n (pc := 41) (i := 1) F dX0_copyFrom_41 rfl rfl ?_
  refine fmg_9_leaveStep (pc := 42) F (by assumption) (by assumption) hin_X0 dX0_copyFrom_42 (List.mem_of_getElem? (i := 6) rfl) ?_
  refine fmp_9_leaveStep (pc := 45) F (by assumption) (by assumption) hin_X0 dX0_copyFrom_45 (List.mem_of_getElem? (i := 6) rfl) ?_
  refine fmV_aload_n (pc := 48) (i := 0) F dX0_copyFrom_48 rfl rfl ?_
  refine fmV_aload_n (pc := 49) (i := 1) F dX0_copyFrom_49 rfl rfl ?_
  refine fmg_9_loosened (pc := 50) F (by assumption) (by assumption) hin_X0 dX0_copyFrom_50 (List.mem_of_getElem? (i := 7) rfl) ?_
  refine fmp_9_loosened (pc := 53) F (by assumption) (by assumption) hin_X0 dX0_copyFrom_53 (List.mem_of_getElem? (i := 7) rfl) ?_
  refine fmV_aload_n (pc := 56) (i := 0) F dX0_copyFrom_56 rfl rfl ?_
  refine fmV_aload_n (pc := 57) (i := 1) F dX0_copyFrom_57 rfl rfl ?_
  refine fmg_9_drifted (pc := 58) F (by assumption) (by assumption) hin_X0 dX0_copyFrom_58 (List.mem_of_getElem? (i := 8) rfl) ?_
  refine fmp_9_drifted (pc := 61) F (by assumption) (by assumption) hin_X0 dX0_copyFrom_61 (List.mem_of_getElem? (i := 8) rfl) ?_
  refine fmV_aload_n (pc := 64) (i := 0) F dX0_copyFrom_64 rfl rfl ?_
  refine fmV_aload_n (pc := 65) (i := 1) F dX0_copyFrom_65 rfl rfl ?_
  refine fmg_9_lastDriftStep (pc := 66) F (by assumption) (by assumption) hin_X0 dX0_copyFrom_66 (List.mem_of_getElem? (i := 9) rfl) ?_
  refine fmp_9_lastDriftStep (pc := 69) F (by assumption) (by assumption) hin_X0 dX0_copyFrom_69 (List.mem_of_getElem? (i := 9) rfl) ?_
  refine fmV_aload_n (pc := 72) (i := 0) F dX0_copyFrom_72 rfl rfl ?_
  refine fmV_aload_n (pc := 73) (i := 1) F dX0_copyFrom_73 rfl rfl ?_
  refine fmg_9_sold (pc := 74) F (by assumption) (by assumption) hin_X0 dX0_copyFrom_74 (List.mem_of_getElem? (i := 10) rfl) ?_
  refine fmp_9_sold (pc := 77) F (by assumption) (by assumption) hin_X0 dX0_copyFrom_77 (List.mem_of_getElem? (i := 10) rfl) ?_
  refine fmV_aload_n (pc := 80) (i := 0) F dX0_copyFrom_80 rfl rfl ?_
  refine fmV_aload_n (pc := 81) (i := 1) F dX0_copyFrom_81 rfl rfl ?_
  refine fmg_9_bought (pc := 82) F (by assumption) (by assumption) hin_X0 dX0_copyFrom_82 (List.mem_of_getElem? (i := 11) rfl) ?_
  refine fmp_9_bought (pc := 85) F (by assumption) (by assumption) hin_X0 dX0_copyFrom_85 (List.mem_of_getElem? (i := 11) rfl) ?_
  refine fmV_aload_n (pc := 88) (i := 1) F dX0_copyFrom_88 rfl rfl ?_
  refine fmg_9_has (pc := 89) F (by assumption) (by assumption) hin_X0 dX0_copyFrom_89 (List.mem_of_getElem? (i := 12) rfl) ?_
  refine fmV_iconst (pc := 92) (v := 0) F dX0_copyFrom_92 rfl ?_
  refine fmV_aload_n (pc := 93) (i := 0) F dX0_copyFrom_93 rfl rfl ?_
  refine fmg_9_has (pc := 94) F (by assumption) (by assumption) hin_X0 dX0_copyFrom_94 (List.mem_of_getElem? (i := 12) rfl) ?_
  refine fmV_iconst (pc := 97) (v := 0) F dX0_copyFrom_97 rfl ?_
  refine fmV_iconst (pc := 98) (v := 4) F dX0_copyFrom_98 rfl ?_
  refine fmV_copyi (pc := 99) F (fm_mem (a := 2) (b := 14) (by decide +kernel) (by assumption) (by assumption)) (fun τ => rfl) (fm_mem (a := 2) (b := 14) (by decide +kernel) (by assumption) (by assumption)) (fun τ => rfl) rfl dX0_copyFrom_99 ⟨(List.mem_of_getElem? (i := 13) rfl), (List.mem_of_getElem? (i := 14) rfl), (List.mem_of_getElem? (i := 15) rfl), (List.mem_of_getElem? (i := 16) rfl)⟩ (by decide) (by decide) (by decide) (Nat.le_of_ble_eq_true rfl) (Nat.le_of_ble_eq_true rfl) ?_
  refine fmV_aload_n (pc := 102) (i := 1) F dX0_copyFrom_102 rfl rfl ?_
  refine fmg_9_asks (pc := 103) F (by assumption) (by assumption) hin_X0 dX0_copyFrom_103 (List.mem_of_getElem? (i := 17) rfl) ?_
  refine fmV_iconst (pc := 106) (v := 0) F dX0_copyFrom_106 rfl ?_
  refine fmV_aload_n (pc := 107) (i := 0) F dX0_copyFrom_107 rfl rfl ?_
  refine fmg_9_asks (pc := 108) F (by assumption) (by assumption) hin_X0 dX0_copyFrom_108 (List.mem_of_getElem? (i := 17) rfl) ?_
  refine fmV_iconst (pc := 111) (v := 0) F dX0_copyFrom_111 rfl ?_
  refine fmV_iconst (pc := 112) (v := 4) F dX0_copyFrom_112 rfl ?_
  refine fmV_copyi (pc := 113) F (fm_mem (a := 2) (b := 14) (by decide +kernel) (by assumption) (by assumption)) (fun τ => rfl) (fm_mem (a := 2) (b := 14) (by decide +kernel) (by assumption) (by assumption)) (fun τ => rfl) rfl dX0_copyFrom_113 ⟨(List.mem_of_getElem? (i := 13) rfl), (List.mem_of_getElem? (i := 14) rfl), (List.mem_of_getElem? (i := 15) rfl), (List.mem_of_getElem? (i := 16) rfl)⟩ (by decide) (by decide) (by decide) (Nat.le_of_ble_eq_true rfl) (Nat.le_of_ble_eq_true rfl) ?_
  refine fmV_aload_n (pc := 116) (i := 1) F dX0_copyFrom_116 rfl rfl ?_
  refine fmg_9_wants (pc := 117) F (by assumption) (by assumption) hin_X0 dX0_copyFrom_117 (List.mem_of_getElem? (i := 18) rfl) ?_
  refine fmV_iconst (pc := 120) (v := 0) F dX0_copyFrom_120 rfl ?_
  refine fmV_aload_n (pc := 121) (i := 0) F dX0_copyFrom_121 rfl rfl ?_
  refine fmg_9_wants (pc := 122) F (by assumption) (by assumption) hin_X0 dX0_copyFrom_122 (List.mem_of_getElem? (i := 18) rfl) ?_
  refine fmV_iconst (pc := 125) (v := 0) F dX0_copyFrom_125 rfl ?_
  refine fmV_iconst (pc := 126) (v := 4) F dX0_copyFrom_126 rfl ?_
  refine fmV_copyi (pc := 127) F (fm_mem (a := 2) (b := 14) (by decide +kernel) (by assumption) (by assumption)) (fun τ => rfl) (fm_mem (a := 2) (b := 14) (by decide +kernel) (by assumption) (by assumption)) (fun τ => rfl) rfl dX0_copyFrom_127 ⟨(List.mem_of_getElem? (i := 13) rfl), (List.mem_of_getElem? (i := 14) rfl), (List.mem_of_getElem? (i := 15) rfl), (List.mem_of_getElem? (i := 16) rfl)⟩ (by decide) (by decide) (by decide) (Nat.le_of_ble_eq_true rfl) (Nat.le_of_ble_eq_true rfl) ?_
  refine fmV_aload_n (pc := 130) (i := 1) F dX0_copyFrom_130 rfl rfl ?_
  refine fmg_9_pays (pc := 131) F (by assumption) (by assumption) hin_X0 dX0_copyFrom_131 (List.mem_of_getElem? (i := 19) rfl) ?_
  refine fmV_iconst (pc := 134) (v := 0) F dX0_copyFrom_134 rfl ?_
  refine fmV_aload_n (pc := 135) (i := 0) F dX0_copyFrom_135 rfl rfl ?_
  refine fmg_9_pays (pc := 136) F (by assumption) (by assumption) hin_X0 dX0_copyFrom_136 (List.mem_of_getElem? (i := 19) rfl) ?_
  refine fmV_iconst (pc := 139) (v := 0) F dX0_copyFrom_139 rfl ?_
  refine fmV_iconst (pc := 140) (v := 4) F dX0_copyFrom_140 rfl ?_
  refine fmV_copyi (pc := 141) F (fm_mem (a := 2) (b := 14) (by decide +kernel) (by assumption) (by assumption)) (fun τ => rfl) (fm_mem (a := 2) (b := 14) (by decide +kernel) (by assumption) (by assumption)) (fun τ => rfl) rfl dX0_copyFrom_141 ⟨(List.mem_of_getElem? (i := 13) rfl), (List.mem_of_getElem? (i := 14) rfl), (List.mem_of_getElem? (i := 15) rfl), (List.mem_of_getElem? (i := 16) rfl)⟩ (by decide) (by decide) (by decide) (Nat.le_of_ble_eq_true rfl) (Nat.le_of_ble_eq_true rfl) ?_
  exact fmV_vret (pc := 144) F dX0_copyFrom_144 rfl rfl

set_option maxHeartbeats 4000000 in
set_option maxRecDepth 100000 in
theorem c_X1_copyFrom (l : Launch) (D : va_G) (A : Nat → Prop) (G : fmG) (σ : fmS) (o : Nat → Int64) {a b rc cc : Nat} (ha : a < 2) (hb2 : b < 2) (hrc : rc ≤ 4) (hcc : cc ≤ 14) (h40 : σ 40 b 0 0 = nI rc) (h41 : σ 41 b 0 0 = nI cc) : fmMv l D A G yX1_copyFrom wsX1_copyFrom (fmRm 2 0 0) 0 0 [.ref (G.1 4 a 0), .ref (G.1 4 b 0)] σ o (fun u => u = fmMC σ a b rc cc) := by
  refine fmMv_of (cc := cX1_copyFrom) (maxL := 3) (ret := none) (by decide +kernel) rfl (Nat.le_of_ble_eq_true rfl) ?_
  intro P_ E_ S_ M_ args_ below_ meth_ C_ F
  have hin_X1 : ∀ w ∈ wsX10, w ∈ wsX1_copyFrom := (fun _ h => List.mem_cons_of_mem _ (List.mem_append_left _ (List.mem_append_left _ (List.mem_append_right _ h))))
  have hin_X2 : ∀ w ∈ wsX20, w ∈ wsX1_copyFrom := (fun _ h => List.mem_cons_of_mem _ (List.mem_append_left _ (List.mem_append_right _ h)))
  have hin_X0 : ∀ w ∈ wsX00, w ∈ wsX1_copyFrom := (fun _ h => List.mem_cons_of_mem _ (List.mem_append_right _ h))
  have hr40 : ∀ n, (fmIt (fmRC a b) (fmMC1 σ a b) n) 40 a 0 0 = nI rc := fun n => by rw [it_c (fun i τ => RC_c (by decide) a 0), MC1_in (by decide)]; exact h40
  have hr41 : ∀ n, (fmIt (fmCC a b) (fmIt (fmRC a b) (fmMC1 σ a b) rc) n) 41 a 0 0 = nI cc := fun n => by rw [it_c (fun i τ => CC_c (by decide) (by decide) a 0), it_c (fun i τ => RC_c (by decide) a 0), MC1_in (by decide)]; exact h41
  refine fmV_aload_n (pc := 0) (i := 0) F dX1_copyFrom_0 rfl rfl ?_
  refine fmV_aload_n (pc := 1) (i := 1) F dX1_copyFrom_1 rfl rfl ?_
  refine fmg_4_rowCount (pc := 2) F (by assumption) hin_X1 dX1_copyFrom_2 (List.mem_of_getElem? (i := 1) rfl) ?_
  refine fmp_4_rowCount (pc := 5) F (by assumption) hin_X1 dX1_copyFrom_5 (List.mem_of_getElem? (i := 1) rfl) ?_
  refine fmV_aload_n (pc := 8) (i := 0) F dX1_copyFrom_8 rfl rfl ?_
  refine fmV_aload_n (pc := 9) (i := 1) F dX1_copyFrom_9 rfl rfl ?_
  refine fmg_4_canoeCount (pc := 10) F (by assumption) hin_X1 dX1_copyFrom_10 (List.mem_of_getElem? (i := 2) rfl) ?_
  refine fmp_4_canoeCount (pc := 13) F (by assumption) hin_X1 dX1_copyFrom_13 (List.mem_of_getElem? (i := 2) rfl) ?_
  refine fmV_aload_n (pc := 16) (i := 0) F dX1_copyFrom_16 rfl rfl ?_
  refine fmV_aload_n (pc := 17) (i := 1) F dX1_copyFrom_17 rfl rfl ?_
  refine fmg_4_step (pc := 18) F (by assumption) hin_X1 dX1_copyFrom_18 (List.mem_of_getElem? (i := 3) rfl) ?_
  refine fmp_4_step (pc := 21) F (by assumption) hin_X1 dX1_copyFrom_21 (List.mem_of_getElem? (i := 3) rfl) ?_
  refine fmV_aload_n (pc := 24) (i := 0) F dX1_copyFrom_24 rfl rfl ?_
  refine fmV_aload_n (pc := 25) (i := 1) F dX1_copyFrom_25 rfl rfl ?_
  refine fmg_4_sold (pc := 26) F (by assumption) hin_X1 dX1_copyFrom_26 (List.mem_of_getElem? (i := 4) rfl) ?_
  refine fmp_4_sold (pc := 29) F (by assumption) hin_X1 dX1_copyFrom_29 (List.mem_of_getElem? (i := 4) rfl) ?_
  refine fmV_aload_n (pc := 32) (i := 0) F dX1_copyFrom_32 rfl rfl ?_
  refine fmV_aload_n (pc := 33) (i := 1) F dX1_copyFrom_33 rfl rfl ?_
  refine fmg_4_paid (pc := 34) F (by assumption) hin_X1 dX1_copyFrom_34 (List.mem_of_getElem? (i := 5) rfl) ?_
  refine fmp_4_paid (pc := 37) F (by assumption) hin_X1 dX1_copyFrom_37 (List.mem_of_getElem? (i := 5) rfl) ?_
  refine fmV_aload_n (pc := 40) (i := 0) F dX1_copyFrom_40 rfl rfl ?_
  refine fmV_aload_n (pc := 41) (i := 1) F dX1_copyFrom_41 rfl rfl ?_
  refine fmg_4_loosened (pc := 42) F (by assumption) hin_X1 dX1_copyFrom_42 (List.mem_of_getElem? (i := 6) rfl) ?_
  refine fmp_4_loosened (pc := 45) F (by assumption) hin_X1 dX1_copyFrom_45 (List.mem_of_getElem? (i := 6) rfl) ?_
  refine fmV_aload_n (pc := 48) (i := 0) F dX1_copyFrom_48 rfl rfl ?_
  refine fmV_aload_n (pc := 49) (i := 1) F dX1_copyFrom_49 rfl rfl ?_
  refine fmg_4_drifted (pc := 50) F (by assumption) hin_X1 dX1_copyFrom_50 (List.mem_of_getElem? (i := 7) rfl) ?_
  refine fmp_4_drifted (pc := 53) F (by assumption) hin_X1 dX1_copyFrom_53 (List.mem_of_getElem? (i := 7) rfl) ?_
  refine fmV_sg (σ1 := fmMC1 σ a b) rfl ?_
  refine fmV_iconst (pc := 56) (v := 0) F dX1_copyFrom_56 rfl ?_
  refine fmV_istore_n (pc := 57) (i := 2) F dX1_copyFrom_57 rfl (by decide) ?_
  refine fmV_lv (lv' := [(0, .ref (G.1 4 a 0)), (1, .ref (G.1 4 b 0)), (2, .int (nI 0))]) ⟨rfl, rfl, rfl, trivial⟩ ?_
  refine fmV_up (N := rc) (pc := 58) (σf := fun j => (fmIt (fmRC a b) (fmMC1 σ a b) j)) (lvf := fun j => [(0, .ref (G.1 4 a 0)), (1, .ref (G.1 4 b 0)), (2, .int (nI j))]) 0 (Nat.zero_le _) ?_ ?_
  · refine fmV_iload_n (pc := 58) (i := 2) F dX1_copyFrom_58 rfl rfl ?_
    refine fmV_aload_n (pc := 59) (i := 0) F dX1_copyFrom_59 rfl rfl ?_
    refine fmg_4_rowCount (pc := 60) F (by assumption) hin_X1 dX1_copyFrom_60 (List.mem_of_getElem? (i := 1) rfl) ?_
    refine fmV_icmp_ge (pc := 63) (tgt := 87) F dX1_copyFrom_63 (by decide) (fun h1 => ?_) (fun h1 => ?_)
    · refine fmV_iconst (pc := 87) (v := 0) F dX1_copyFrom_87 rfl ?_
      refine fmV_istore_n (pc := 88) (i := 2) F dX1_copyFrom_88 rfl (by decide) ?_
      refine fmV_lv (lv' := [(0, .ref (G.1 4 a 0)), (1, .ref (G.1 4 b 0)), (2, .int (nI 0))]) ⟨rfl, rfl, rfl, trivial⟩ ?_
      refine fmV_up (N := cc) (pc := 89) (σf := fun j => (fmIt (fmCC a b) (fmIt (fmRC a b) (fmMC1 σ a b) rc) j)) (lvf := fun j => [(0, .ref (G.1 4 a 0)), (1, .ref (G.1 4 b 0)), (2, .int (nI j))]) 0 (Nat.zero_le _) ?_ ?_
      · refine fmV_iload_n (pc := 89) (i := 2) F dX1_copyFrom_89 rfl rfl ?_
        refine fmV_aload_n (pc := 90) (i := 0) F dX1_copyFrom_90 rfl rfl ?_
        refine fmg_4_canoeCount (pc := 91) F (by assumption) hin_X1 dX1_copyFrom_91 (List.mem_of_getElem? (i := 2) rfl) ?_
        refine fmV_icmp_ge (pc := 94) (tgt := 118) F dX1_copyFrom_94 (by decide) (fun h2 => ?_) (fun h2 => ?_)
        · exact fmV_vret (pc := 118) F dX1_copyFrom_118 rfl rfl
        · rw [hr41] at h2
          exact absurd (nI_le (Nat.le_refl cc) (by omega)) h2
      · intro j hj ih
        have hj14 : j < 14 := by omega
        refine fmV_iload_n (pc := 89) (i := 2) F dX1_copyFrom_89 rfl rfl ?_
        refine fmV_aload_n (pc := 90) (i := 0) F dX1_copyFrom_90 rfl rfl ?_
        refine fmg_4_canoeCount (pc := 91) F (by assumption) hin_X1 dX1_copyFrom_91 (List.mem_of_getElem? (i := 2) rfl) ?_
        refine fmV_icmp_ge (pc := 94) (tgt := 118) F dX1_copyFrom_94 (by decide) (fun h2 => ?_) (fun h2 => ?_)
        · rw [hr41] at h2
          exact absurd h2 (nI_ge hj (by omega))
        · refine fmV_aload_n (pc := 97) (i := 0) F dX1_copyFrom_97 rfl rfl ?_
          refine fmg_4_canoes (pc := 98) F (by assumption) hin_X1 dX1_copyFrom_98 (List.mem_of_getElem? (i := 9) rfl) ?_
          refine fmV_iload_n (pc := 101) (i := 2) F dX1_copyFrom_101 rfl rfl ?_
          refine fmV_ald_canoes (pc := 102) F (by assumption) dX1_copyFrom_102 (vp_in_nI hj14 (by decide)) (fm_cn (by omega)) ?_
          refine fmV_aload_n (pc := 103) (i := 1) F dX1_copyFrom_103 rfl rfl ?_
          refine fmg_4_canoes (pc := 104) F (by assumption) hin_X1 dX1_copyFrom_104 (List.mem_of_getElem? (i := 9) rfl) ?_
          refine fmV_iload_n (pc := 107) (i := 2) F dX1_copyFrom_107 rfl rfl ?_
          refine fmV_ald_canoes (pc := 108) F (by assumption) dX1_copyFrom_108 (vp_in_nI hj14 (by decide)) (fm_cn (by omega)) ?_
          refine fmV_cVv (n := 1) (pc := 109) F (c_X0_copyFrom l D A G (fmIt (fmCC a b) (fmIt (fmRC a b) (fmMC1 σ a b) rc) j) o ha hb2 hj14) gX1_copyFrom_X0_copyFrom rfl rfl rfl (by decide +kernel) ⟨Nat.le_of_ble_eq_true rfl, Nat.le_of_ble_eq_true rfl⟩ (fmR_9 F (by assumption) (by assumption)) rfl rfl (Nat.le_of_ble_eq_true rfl) dX1_copyFrom_109 ⟨Nat.le_of_ble_eq_true rfl, Nat.le_of_ble_eq_true rfl⟩ (fun u1 hc3 => ?_)
          have hc3 := hc3.symm
          subst hc3
          refine fmV_iinc (pc := 112) (i := 2) F dX1_copyFrom_112 rfl rfl (by decide) ?_
          refine fmV_goto (pc := 115) (tgt := 89) F dX1_copyFrom_115 (by decide) ?_
          refine fmV_lv ?_ ih
          exact ⟨rfl, rfl, by rw [nI_succ j]; rfl, trivial⟩
    · rw [hr40] at h1
      exact absurd (nI_le (Nat.le_refl rc) (by omega)) h1
  · intro j hj ih
    have hj4 : j < 4 := by omega
    refine fmV_iload_n (pc := 58) (i := 2) F dX1_copyFrom_58 rfl rfl ?_
    refine fmV_aload_n (pc := 59) (i := 0) F dX1_copyFrom_59 rfl rfl ?_
    refine fmg_4_rowCount (pc := 60) F (by assumption) hin_X1 dX1_copyFrom_60 (List.mem_of_getElem? (i := 1) rfl) ?_
    refine fmV_icmp_ge (pc := 63) (tgt := 87) F dX1_copyFrom_63 (by decide) (fun h1 => ?_) (fun h1 => ?_)
    · rw [hr40] at h1
      exact absurd h1 (nI_ge hj (by omega))
    · refine fmV_aload_n (pc := 66) (i := 0) F dX1_copyFrom_66 rfl rfl ?_
      refine fmg_4_rows (pc := 67) F (by assumption) hin_X1 dX1_copyFrom_67 (List.mem_of_getElem? (i := 8) rfl) ?_
      refine fmV_iload_n (pc := 70) (i := 2) F dX1_copyFrom_70 rfl rfl ?_
      refine fmV_ald_rows (pc := 71) F (by assumption) dX1_copyFrom_71 (vp_in_nI hj4 (by decide)) (fm_cn (by omega)) ?_
      refine fmV_aload_n (pc := 72) (i := 1) F dX1_copyFrom_72 rfl rfl ?_
      refine fmg_4_rows (pc := 73) F (by assumption) hin_X1 dX1_copyFrom_73 (List.mem_of_getElem? (i := 8) rfl) ?_
      refine fmV_iload_n (pc := 76) (i := 2) F dX1_copyFrom_76 rfl rfl ?_
      refine fmV_ald_rows (pc := 77) F (by assumption) dX1_copyFrom_77 (vp_in_nI hj4 (by decide)) (fm_cn (by omega)) ?_
      refine fmV_cVv (n := 1) (pc := 78) F (c_X2_copyFrom l D A G (fmIt (fmRC a b) (fmMC1 σ a b) j) o ha hb2 hj4) gX1_copyFrom_X2_copyFrom rfl rfl rfl (by decide +kernel) ⟨Nat.le_of_ble_eq_true rfl, Nat.le_of_ble_eq_true rfl⟩ (fmR_7 F (by assumption) (by assumption)) rfl rfl (Nat.le_of_ble_eq_true rfl) dX1_copyFrom_78 ⟨Nat.le_of_ble_eq_true rfl, Nat.le_of_ble_eq_true rfl⟩ (fun u4 hc6 => ?_)
      have hc6 := hc6.symm
      subst hc6
      refine fmV_iinc (pc := 81) (i := 2) F dX1_copyFrom_81 rfl rfl (by decide) ?_
      refine fmV_goto (pc := 84) (tgt := 58) F dX1_copyFrom_84 (by decide) ?_
      refine fmV_lv ?_ ih
      exact ⟨rfl, rfl, by rw [nI_succ j]; rfl, trivial⟩

set_option maxHeartbeats 4000000 in
set_option maxRecDepth 100000 in
theorem c_X1_coinsInAll (l : Launch) (D : va_G) (A : Nat → Prop) (G : fmG) (σ : fmS) (o : Nat → Int64) {a cc : Nat} (ha : a < 2) (hcc : cc ≤ 14) (h41 : σ 41 a 0 0 = nI cc) : fmMi l D A G yX1_coinsInAll wsX1_coinsInAll (fmRm 1 0 0) 0 0 [.ref (G.1 4 a 0)] σ o (fun r u => r = fmSum (fun k => σ 50 a k 0) cc ∧ u = σ) := by
  refine fmMi_of (cc := cX1_coinsInAll) (maxL := 3) (ret := (some .int)) (by decide +kernel) rfl (Nat.le_of_ble_eq_true rfl) ?_
  intro P_ E_ S_ M_ args_ below_ meth_ C_ F
  have hin_X1 : ∀ w ∈ wsX10, w ∈ wsX1_coinsInAll := (fun _ h => List.mem_cons_of_mem _ (List.mem_append_left _ (List.mem_append_right _ h)))
  have hin_X0 : ∀ w ∈ wsX00, w ∈ wsX1_coinsInAll := (fun _ h => List.mem_cons_of_mem _ (List.mem_append_right _ h))
  refine fmV_iconst (pc := 0) (v := 0) F dX1_coinsInAll_0 rfl ?_
  refine fmV_istore_n (pc := 1) (i := 1) F dX1_coinsInAll_1 rfl (by decide) ?_
  refine fmV_iconst (pc := 2) (v := 0) F dX1_coinsInAll_2 rfl ?_
  refine fmV_istore_n (pc := 3) (i := 2) F dX1_coinsInAll_3 rfl (by decide) ?_
  refine fmV_lv (lv' := [(0, .ref (G.1 4 a 0)), (1, .int (fmSum (fun k => σ 50 a k 0) 0)), (2, .int (nI 0))]) ⟨rfl, rfl, rfl, trivial⟩ ?_
  refine fmV_up (N := cc) (pc := 4) (σf := fun j => σ) (lvf := fun j => [(0, .ref (G.1 4 a 0)), (1, .int (fmSum (fun k => σ 50 a k 0) j)), (2, .int (nI j))]) 0 (Nat.zero_le _) ?_ ?_
  · refine fmV_iload_n (pc := 4) (i := 2) F dX1_coinsInAll_4 rfl rfl ?_
    refine fmV_aload_n (pc := 5) (i := 0) F dX1_coinsInAll_5 rfl rfl ?_
    refine fmg_4_canoeCount (pc := 6) F (by assumption) hin_X1 dX1_coinsInAll_6 (List.mem_of_getElem? (i := 1) rfl) ?_
    refine fmV_icmp_ge (pc := 9) (tgt := 30) F dX1_coinsInAll_9 (by decide) (fun h1 => ?_) (fun h1 => ?_)
    · refine fmV_iload_n (pc := 30) (i := 1) F dX1_coinsInAll_30 rfl rfl ?_
      exact fmV_iret (pc := 31) F dX1_coinsInAll_31 rfl ⟨rfl, rfl⟩
    · rw [h41] at h1
      exact absurd (nI_le (Nat.le_refl cc) (by omega)) h1
  · intro j hj ih
    have hj14 : j < 14 := by omega
    refine fmV_iload_n (pc := 4) (i := 2) F dX1_coinsInAll_4 rfl rfl ?_
    refine fmV_aload_n (pc := 5) (i := 0) F dX1_coinsInAll_5 rfl rfl ?_
    refine fmg_4_canoeCount (pc := 6) F (by assumption) hin_X1 dX1_coinsInAll_6 (List.mem_of_getElem? (i := 1) rfl) ?_
    refine fmV_icmp_ge (pc := 9) (tgt := 30) F dX1_coinsInAll_9 (by decide) (fun h1 => ?_) (fun h1 => ?_)
    · rw [h41] at h1
      exact absurd h1 (nI_ge hj (by omega))
    · refine fmV_iload_n (pc := 12) (i := 1) F dX1_coinsInAll_12 rfl rfl ?_
      refine fmV_aload_n (pc := 13) (i := 0) F dX1_coinsInAll_13 rfl rfl ?_
      refine fmg_4_canoes (pc := 14) F (by assumption) hin_X1 dX1_coinsInAll_14 (List.mem_of_getElem? (i := 2) rfl) ?_
      refine fmV_iload_n (pc := 17) (i := 2) F dX1_coinsInAll_17 rfl rfl ?_
      refine fmV_ald_canoes (pc := 18) F (by assumption) dX1_coinsInAll_18 (vp_in_nI hj14 (by decide)) (fm_cn (by omega)) ?_
      refine fmg_9_coins (pc := 19) F (by assumption) (by assumption) hin_X0 dX1_coinsInAll_19 (List.mem_of_getElem? (i := 3) rfl) ?_
      refine fmV_iadd (pc := 22) F dX1_coinsInAll_22 ?_
      refine fmV_istore_n (pc := 23) (i := 1) F dX1_coinsInAll_23 rfl (by decide) ?_
      refine fmV_iinc (pc := 24) (i := 2) F dX1_coinsInAll_24 rfl rfl (by decide) ?_
      refine fmV_goto (pc := 27) (tgt := 4) F dX1_coinsInAll_27 (by decide) ?_
      refine fmV_lv ?_ ih
      exact ⟨rfl, rfl, by rw [nI_succ j]; rfl, trivial⟩

set_option maxHeartbeats 4000000 in
set_option maxRecDepth 100000 in
theorem c_X1_goodsInAll (l : Launch) (D : va_G) (A : Nat → Prop) (G : fmG) (σ : fmS) (o : Nat → Int64) {a cc : Nat} (ha : a < 2) (hcc : cc ≤ 14) (h41 : σ 41 a 0 0 = nI cc) : fmMi l D A G yX1_goodsInAll wsX1_goodsInAll (fmRm 2 0 0) 0 0 [.ref (G.1 4 a 0)] σ o (fun r u => r = fmSum (fmGds σ a) cc ∧ u = σ) := by
  refine fmMi_of (cc := cX1_goodsInAll) (maxL := 3) (ret := (some .int)) (by decide +kernel) rfl (Nat.le_of_ble_eq_true rfl) ?_
  intro P_ E_ S_ M_ args_ below_ meth_ C_ F
  have hin_X1 : ∀ w ∈ wsX10, w ∈ wsX1_goodsInAll := (fun _ h => List.mem_cons_of_mem _ (List.mem_append_left _ (List.mem_append_right _ h)))
  have hin_X0 : ∀ w ∈ wsX00, w ∈ wsX1_goodsInAll := (fun _ h => List.mem_cons_of_mem _ (List.mem_append_right _ h))
  refine fmV_iconst (pc := 0) (v := 0) F dX1_goodsInAll_0 rfl ?_
  refine fmV_istore_n (pc := 1) (i := 1) F dX1_goodsInAll_1 rfl (by decide) ?_
  refine fmV_iconst (pc := 2) (v := 0) F dX1_goodsInAll_2 rfl ?_
  refine fmV_istore_n (pc := 3) (i := 2) F dX1_goodsInAll_3 rfl (by decide) ?_
  refine fmV_lv (lv' := [(0, .ref (G.1 4 a 0)), (1, .int (fmSum (fmGds σ a) 0)), (2, .int (nI 0))]) ⟨rfl, rfl, rfl, trivial⟩ ?_
  refine fmV_up (N := cc) (pc := 4) (σf := fun j => σ) (lvf := fun j => [(0, .ref (G.1 4 a 0)), (1, .int (fmSum (fmGds σ a) j)), (2, .int (nI j))]) 0 (Nat.zero_le _) ?_ ?_
  · refine fmV_iload_n (pc := 4) (i := 2) F dX1_goodsInAll_4 rfl rfl ?_
    refine fmV_aload_n (pc := 5) (i := 0) F dX1_goodsInAll_5 rfl rfl ?_
    refine fmg_4_canoeCount (pc := 6) F (by assumption) hin_X1 dX1_goodsInAll_6 (List.mem_of_getElem? (i := 1) rfl) ?_
    refine fmV_icmp_ge (pc := 9) (tgt := 30) F dX1_goodsInAll_9 (by decide) (fun h1 => ?_) (fun h1 => ?_)
    · refine fmV_iload_n (pc := 30) (i := 1) F dX1_goodsInAll_30 rfl rfl ?_
      exact fmV_iret (pc := 31) F dX1_goodsInAll_31 rfl ⟨rfl, rfl⟩
    · rw [h41] at h1
      exact absurd (nI_le (Nat.le_refl cc) (by omega)) h1
  · intro j hj ih
    have hj14 : j < 14 := by omega
    refine fmV_iload_n (pc := 4) (i := 2) F dX1_goodsInAll_4 rfl rfl ?_
    refine fmV_aload_n (pc := 5) (i := 0) F dX1_goodsInAll_5 rfl rfl ?_
    refine fmg_4_canoeCount (pc := 6) F (by assumption) hin_X1 dX1_goodsInAll_6 (List.mem_of_getElem? (i := 1) rfl) ?_
    refine fmV_icmp_ge (pc := 9) (tgt := 30) F dX1_goodsInAll_9 (by decide) (fun h1 => ?_) (fun h1 => ?_)
    · rw [h41] at h1
      exact absurd h1 (nI_ge hj (by omega))
    · refine fmV_iload_n (pc := 12) (i := 1) F dX1_goodsInAll_12 rfl rfl ?_
      refine fmV_aload_n (pc := 13) (i := 0) F dX1_goodsInAll_13 rfl rfl ?_
      refine fmg_4_canoes (pc := 14) F (by assumption) hin_X1 dX1_goodsInAll_14 (List.mem_of_getElem? (i := 2) rfl) ?_
      refine fmV_iload_n (pc := 17) (i := 2) F dX1_goodsInAll_17 rfl rfl ?_
      refine fmV_ald_canoes (pc := 18) F (by assumption) dX1_goodsInAll_18 (vp_in_nI hj14 (by decide)) (fm_cn (by omega)) ?_
      refine fmV_cVi (n := 0) (pc := 19) F (c_X0_goodsInAll l D A G σ o ha hj14) gX1_goodsInAll_X0_goodsInAll rfl rfl rfl (by decide +kernel) ⟨Nat.le_of_ble_eq_true rfl, Nat.le_of_ble_eq_true rfl⟩ (fmR_9 F (by assumption) (by assumption)) rfl rfl (Nat.le_of_ble_eq_true rfl) dX1_goodsInAll_19 ⟨Nat.le_of_ble_eq_true rfl, Nat.le_of_ble_eq_true rfl⟩ (fun r2 u1 hc3 => ?_)
      obtain ⟨hr9, hu9⟩ := hc3
      have hr9 := hr9.symm
      have hu9 := hu9.symm
      subst hr9
      subst hu9
      refine fmV_iadd (pc := 22) F dX1_goodsInAll_22 ?_
      refine fmV_istore_n (pc := 23) (i := 1) F dX1_goodsInAll_23 rfl (by decide) ?_
      refine fmV_iinc (pc := 24) (i := 2) F dX1_goodsInAll_24 rfl rfl (by decide) ?_
      refine fmV_goto (pc := 27) (tgt := 4) F dX1_goodsInAll_27 (by decide) ?_
      refine fmV_lv ?_ ih
      exact ⟨rfl, rfl, by rw [nI_succ j]; rfl, trivial⟩

set_option maxHeartbeats 4000000 in
set_option maxRecDepth 100000 in
theorem c_X1_canoesBeing (l : Launch) (D : va_G) (A : Nat → Prop) (G : fmG) (σ : fmS) (o : Nat → Int64) {a cc : Nat} (ha : a < 2) (hcc : cc ≤ 14) (h41 : σ 41 a 0 0 = nI cc) (x : Int32) : fmMi l D A G yX1_canoesBeing wsX1_canoesBeing (fmRm 1 0 0) 0 0 [.ref (G.1 4 a 0), .int x] σ o (fun r u => r = fmCnt (fun k => decide (σ 52 a k 0 = x)) cc ∧ u = σ) := by
  refine fmMi_of (cc := cX1_canoesBeing) (maxL := 4) (ret := (some .int)) (by decide +kernel) rfl (Nat.le_of_ble_eq_true rfl) ?_
  intro P_ E_ S_ M_ args_ below_ meth_ C_ F
  have hin_X1 : ∀ w ∈ wsX10, w ∈ wsX1_canoesBeing := (fun _ h => List.mem_cons_of_mem _ (List.mem_append_left _ (List.mem_append_right _ h)))
  have hin_X0 : ∀ w ∈ wsX00, w ∈ wsX1_canoesBeing := (fun _ h => List.mem_cons_of_mem _ (List.mem_append_right _ h))
  refine fmV_iconst (pc := 0) (v := 0) F dX1_canoesBeing_0 rfl ?_
  refine fmV_istore_n (pc := 1) (i := 2) F dX1_canoesBeing_1 rfl (by decide) ?_
  refine fmV_iconst (pc := 2) (v := 0) F dX1_canoesBeing_2 rfl ?_
  refine fmV_istore_n (pc := 3) (i := 3) F dX1_canoesBeing_3 rfl (by decide) ?_
  refine fmV_lv (lv' := [(0, .ref (G.1 4 a 0)), (1, .int x), (2, .int (fmCnt (fun k => decide (σ 52 a k 0 = x)) 0)), (3, .int (nI 0))]) ⟨rfl, rfl, rfl, rfl, trivial⟩ ?_
  refine fmV_up (N := cc) (pc := 4) (σf := fun j => σ) (lvf := fun j => [(0, .ref (G.1 4 a 0)), (1, .int x), (2, .int (fmCnt (fun k => decide (σ 52 a k 0 = x)) j)), (3, .int (nI j))]) 0 (Nat.zero_le _) ?_ ?_
  · refine fmV_iload_n (pc := 4) (i := 3) F dX1_canoesBeing_4 rfl rfl ?_
    refine fmV_aload_n (pc := 5) (i := 0) F dX1_canoesBeing_5 rfl rfl ?_
    refine fmg_4_canoeCount (pc := 6) F (by assumption) hin_X1 dX1_canoesBeing_6 (List.mem_of_getElem? (i := 1) rfl) ?_
    refine fmV_icmp_ge (pc := 9) (tgt := 34) F dX1_canoesBeing_9 (by decide) (fun h1 => ?_) (fun h1 => ?_)
    · refine fmV_iload_n (pc := 34) (i := 2) F dX1_canoesBeing_34 rfl rfl ?_
      exact fmV_iret (pc := 35) F dX1_canoesBeing_35 rfl ⟨rfl, rfl⟩
    · rw [h41] at h1
      exact absurd (nI_le (Nat.le_refl cc) (by omega)) h1
  · intro j hj ih
    have hj14 : j < 14 := by omega
    refine fmV_iload_n (pc := 4) (i := 3) F dX1_canoesBeing_4 rfl rfl ?_
    refine fmV_aload_n (pc := 5) (i := 0) F dX1_canoesBeing_5 rfl rfl ?_
    refine fmg_4_canoeCount (pc := 6) F (by assumption) hin_X1 dX1_canoesBeing_6 (List.mem_of_getElem? (i := 1) rfl) ?_
    refine fmV_icmp_ge (pc := 9) (tgt := 34) F dX1_canoesBeing_9 (by decide) (fun h1 => ?_) (fun h1 => ?_)
    · rw [h41] at h1
      exact absurd h1 (nI_ge hj (by omega))
    · refine fmV_aload_n (pc := 12) (i := 0) F dX1_canoesBeing_12 rfl rfl ?_
      refine fmg_4_canoes (pc := 13) F (by assumption) hin_X1 dX1_canoesBeing_13 (List.mem_of_getElem? (i := 2) rfl) ?_
      refine fmV_iload_n (pc := 16) (i := 3) F dX1_canoesBeing_16 rfl rfl ?_
      refine fmV_ald_canoes (pc := 17) F (by assumption) dX1_canoesBeing_17 (vp_in_nI hj14 (by decide)) (fm_cn (by omega)) ?_
      refine fmg_9_status (pc := 18) F (by assumption) (by assumption) hin_X0 dX1_canoesBeing_18 (List.mem_of_getElem? (i := 3) rfl) ?_
      refine fmV_iload_n (pc := 21) (i := 1) F dX1_canoesBeing_21 rfl rfl ?_
      refine fmV_icmp_ne (pc := 22) (tgt := 28) F dX1_canoesBeing_22 (by decide) (fun h2 => ?_) (fun h2 => ?_)
      · refine fmV_iinc (pc := 28) (i := 3) F dX1_canoesBeing_28 rfl rfl (by decide) ?_
        refine fmV_goto (pc := 31) (tgt := 4) F dX1_canoesBeing_31 (by decide) ?_
        refine fmV_lv ?_ ih
        first
          | exact ⟨rfl, rfl, by rw [fmCnt, if_pos (decide_eq_true h2)]; rfl, by rw [nI_succ j]; rfl, trivial⟩
          | exact ⟨rfl, rfl, by rw [fmCnt, if_neg (fun q => h2 (of_decide_eq_true q))]; rfl, by rw [nI_succ j]; rfl, trivial⟩
      · refine fmV_iinc (pc := 25) (i := 2) F dX1_canoesBeing_25 rfl rfl (by decide) ?_
        refine fmV_iinc (pc := 28) (i := 3) F dX1_canoesBeing_28 rfl rfl (by decide) ?_
        refine fmV_goto (pc := 31) (tgt := 4) F dX1_canoesBeing_31 (by decide) ?_
        refine fmV_lv ?_ ih
        first
          | exact ⟨rfl, rfl, by rw [fmCnt, if_pos (decide_eq_true h2)]; rfl, by rw [nI_succ j]; rfl, trivial⟩
          | exact ⟨rfl, rfl, by rw [fmCnt, if_neg (fun q => h2 (of_decide_eq_true q))]; rfl, by rw [nI_succ j]; rfl, trivial⟩

set_option maxHeartbeats 4000000 in
set_option maxRecDepth 100000 in
theorem c_X1_dryCanoes (l : Launch) (D : va_G) (A : Nat → Prop) (G : fmG) (σ : fmS) (o : Nat → Int64) {a cc : Nat} (ha : a < 2) (hcc : cc ≤ 14) (h41 : σ 41 a 0 0 = nI cc) {t : Nat} (ht : t < 2 ^ 31) (h42 : σ 42 a 0 0 = nI t) : fmMi l D A G yX1_dryCanoes wsX1_dryCanoes (fmRm 3 0 0) 0 0 [.ref (G.1 4 a 0)] σ o (fun r u => r = fmCnt (fun k => decide (fmDry σ a k t)) cc ∧ u = σ) := by
  refine fmMi_of (cc := cX1_dryCanoes) (maxL := 3) (ret := (some .int)) (by decide +kernel) rfl (Nat.le_of_ble_eq_true rfl) ?_
  intro P_ E_ S_ M_ args_ below_ meth_ C_ F
  have hin_X1 : ∀ w ∈ wsX10, w ∈ wsX1_dryCanoes := (fun _ h => List.mem_cons_of_mem _ (List.mem_append_left _ (List.mem_append_left _ (List.mem_append_right _ h))))
  have hin_X0 : ∀ w ∈ wsX00, w ∈ wsX1_dryCanoes := (fun _ h => List.mem_cons_of_mem _ (List.mem_append_left _ (List.mem_append_right _ h)))
  have hin_X3 : ∀ w ∈ wsX30, w ∈ wsX1_dryCanoes := (fun _ h => List.mem_cons_of_mem _ (List.mem_append_right _ h))
  refine fmV_iconst (pc := 0) (v := 0) F dX1_dryCanoes_0 rfl ?_
  refine fmV_istore_n (pc := 1) (i := 1) F dX1_dryCanoes_1 rfl (by decide) ?_
  refine fmV_iconst (pc := 2) (v := 0) F dX1_dryCanoes_2 rfl ?_
  refine fmV_istore_n (pc := 3) (i := 2) F dX1_dryCanoes_3 rfl (by decide) ?_
  refine fmV_lv (lv' := [(0, .ref (G.1 4 a 0)), (1, .int (fmCnt (fun k => decide (fmDry σ a k t)) 0)), (2, .int (nI 0))]) ⟨rfl, rfl, rfl, trivial⟩ ?_
  refine fmV_up (N := cc) (pc := 4) (σf := fun j => σ) (lvf := fun j => [(0, .ref (G.1 4 a 0)), (1, .int (fmCnt (fun k => decide (fmDry σ a k t)) j)), (2, .int (nI j))]) 0 (Nat.zero_le _) ?_ ?_
  · refine fmV_iload_n (pc := 4) (i := 2) F dX1_dryCanoes_4 rfl rfl ?_
    refine fmV_aload_n (pc := 5) (i := 0) F dX1_dryCanoes_5 rfl rfl ?_
    refine fmg_4_canoeCount (pc := 6) F (by assumption) hin_X1 dX1_dryCanoes_6 (List.mem_of_getElem? (i := 1) rfl) ?_
    refine fmV_icmp_ge (pc := 9) (tgt := 34) F dX1_dryCanoes_9 (by decide) (fun h1 => ?_) (fun h1 => ?_)
    · refine fmV_iload_n (pc := 34) (i := 1) F dX1_dryCanoes_34 rfl rfl ?_
      exact fmV_iret (pc := 35) F dX1_dryCanoes_35 rfl ⟨rfl, rfl⟩
    · rw [h41] at h1
      exact absurd (nI_le (Nat.le_refl cc) (by omega)) h1
  · intro j hj ih
    have hj14 : j < 14 := by omega
    refine fmV_iload_n (pc := 4) (i := 2) F dX1_dryCanoes_4 rfl rfl ?_
    refine fmV_aload_n (pc := 5) (i := 0) F dX1_dryCanoes_5 rfl rfl ?_
    refine fmg_4_canoeCount (pc := 6) F (by assumption) hin_X1 dX1_dryCanoes_6 (List.mem_of_getElem? (i := 1) rfl) ?_
    refine fmV_icmp_ge (pc := 9) (tgt := 34) F dX1_dryCanoes_9 (by decide) (fun h1 => ?_) (fun h1 => ?_)
    · rw [h41] at h1
      exact absurd h1 (nI_ge hj (by omega))
    · refine fmV_aload_n (pc := 12) (i := 0) F dX1_dryCanoes_12 rfl rfl ?_
      refine fmV_aload_n (pc := 13) (i := 0) F dX1_dryCanoes_13 rfl rfl ?_
      refine fmg_4_canoes (pc := 14) F (by assumption) hin_X1 dX1_dryCanoes_14 (List.mem_of_getElem? (i := 2) rfl) ?_
      refine fmV_iload_n (pc := 17) (i := 2) F dX1_dryCanoes_17 rfl rfl ?_
      refine fmV_ald_canoes (pc := 18) F (by assumption) dX1_dryCanoes_18 (vp_in_nI hj14 (by decide)) (fm_cn (by omega)) ?_
      refine fmV_cVi (n := 1) (pc := 19) F (c_X1_liesDry l D A G σ o ha hj14 ht h42) gX1_dryCanoes_X1_liesDry rfl rfl rfl (by decide +kernel) ⟨Nat.le_of_ble_eq_true rfl, Nat.le_of_ble_eq_true rfl⟩ (fmR_4 F (by assumption)) rfl rfl (Nat.le_of_ble_eq_true rfl) dX1_dryCanoes_19 ⟨Nat.le_of_ble_eq_true rfl, Nat.le_of_ble_eq_true rfl⟩ (fun r2 u1 hc3 => ?_)
      obtain ⟨hr9, hu9⟩ := hc3
      have hr9 := hr9.symm
      have hu9 := hu9.symm
      subst hr9
      subst hu9
      refine fmV_if_eq (pc := 22) (tgt := 28) F dX1_dryCanoes_22 (by decide) (fun h2 => ?_) (fun h2 => ?_)
      · refine fmV_iinc (pc := 28) (i := 2) F dX1_dryCanoes_28 rfl rfl (by decide) ?_
        refine fmV_goto (pc := 31) (tgt := 4) F dX1_dryCanoes_31 (by decide) ?_
        refine fmV_lv ?_ ih
        first
          | exact ⟨rfl, by rw [fmCnt, if_pos (decide_eq_true (by rcases Decidable.em (fmDry σ a j t) with q | q; exact q; rw [if_neg q] at h2; exact absurd rfl h2))]; rfl, by rw [nI_succ j]; rfl, trivial⟩
          | exact ⟨rfl, by rw [fmCnt, if_neg (fun q => by rw [if_pos (of_decide_eq_true q)] at h2; exact absurd h2 (by decide))]; rfl, by rw [nI_succ j]; rfl, trivial⟩
      · refine fmV_iinc (pc := 25) (i := 1) F dX1_dryCanoes_25 rfl rfl (by decide) ?_
        refine fmV_iinc (pc := 28) (i := 2) F dX1_dryCanoes_28 rfl rfl (by decide) ?_
        refine fmV_goto (pc := 31) (tgt := 4) F dX1_dryCanoes_31 (by decide) ?_
        refine fmV_lv ?_ ih
        first
          | exact ⟨rfl, by rw [fmCnt, if_pos (decide_eq_true (by rcases Decidable.em (fmDry σ a j t) with q | q; exact q; rw [if_neg q] at h2; exact absurd rfl h2))]; rfl, by rw [nI_succ j]; rfl, trivial⟩
          | exact ⟨rfl, by rw [fmCnt, if_neg (fun q => by rw [if_pos (of_decide_eq_true q)] at h2; exact absurd h2 (by decide))]; rfl, by rw [nI_succ j]; rfl, trivial⟩

set_option maxHeartbeats 4000000 in
set_option maxRecDepth 100000 in
theorem c_X1_figure (l : Launch) (D : va_G) (A : Nat → Prop) (G : fmG) (σ : fmS) (o : Nat → Int64) {a cc : Nat} (ha : a < 2) (hcc : cc ≤ 14) (h41 : σ 41 a 0 0 = nI cc) {t : Nat} (ht : t < 2 ^ 31) (h42 : σ 42 a 0 0 = nI t) {w : Nat} (hw : w < 12) : fmMi l D A G yX1_figure wsX1_figure (fmRm 4 0 0) 0 0 [.ref (G.1 4 a 0), .int (nI w)] σ o (fun r u => r = fmMFig σ a cc t w ∧ u = σ) := by
  refine fmMi_of (cc := cX1_figure) (maxL := 2) (ret := (some .int)) (by decide +kernel) rfl (Nat.le_of_ble_eq_true rfl) ?_
  intro P_ E_ S_ M_ args_ below_ meth_ C_ F
  have hin_X1 : ∀ w ∈ wsX10, w ∈ wsX1_figure := (fun _ h => List.mem_cons_of_mem _ (List.mem_append_left _ (List.mem_append_left _ (List.mem_append_right _ h))))
  have hin_X0 : ∀ w ∈ wsX00, w ∈ wsX1_figure := (fun _ h => List.mem_cons_of_mem _ (List.mem_append_left _ (List.mem_append_right _ h)))
  have hin_X3 : ∀ w ∈ wsX30, w ∈ wsX1_figure := (fun _ h => List.mem_cons_of_mem _ (List.mem_append_right _ h))
  rcases (show w = 0 ∨ w = 1 ∨ w = 2 ∨ w = 3 ∨ w = 4 ∨ w = 5 ∨ w = 6 ∨ w = 7 ∨ w = 8 ∨ w = 9 ∨ w = 10 ∨ w = 11 by omega) with rfl | rfl | rfl | rfl | rfl | rfl | rfl | rfl | rfl | rfl | rfl | rfl
  · refine fmV_iload_n (pc := 0) (i := 1) F dX1_figure_0 rfl rfl ?_
    refine fmV_tableIn (pc := 1) (tgt := 60) F dX1_figure_1 (by decide) (by decide) rfl (by decide) ?_
    refine fmV_aload_n (pc := 60) (i := 0) F dX1_figure_60 rfl rfl ?_
    refine fmg_4_step (pc := 61) F (by assumption) hin_X1 dX1_figure_61 (List.mem_of_getElem? (i := 1) rfl) ?_
    exact fmV_iret (pc := 64) F dX1_figure_64 rfl ⟨rfl, rfl⟩
  · refine fmV_iload_n (pc := 0) (i := 1) F dX1_figure_0 rfl rfl ?_
    refine fmV_tableIn (pc := 1) (tgt := 65) F dX1_figure_1 (by decide) (by decide) rfl (by decide) ?_
    refine fmV_aload_n (pc := 65) (i := 0) F dX1_figure_65 rfl rfl ?_
    refine fmg_4_rowCount (pc := 66) F (by assumption) hin_X1 dX1_figure_66 (List.mem_of_getElem? (i := 2) rfl) ?_
    exact fmV_iret (pc := 69) F dX1_figure_69 rfl ⟨rfl, rfl⟩
  · refine fmV_iload_n (pc := 0) (i := 1) F dX1_figure_0 rfl rfl ?_
    refine fmV_tableIn (pc := 1) (tgt := 70) F dX1_figure_1 (by decide) (by decide) rfl (by decide) ?_
    refine fmV_aload_n (pc := 70) (i := 0) F dX1_figure_70 rfl rfl ?_
    refine fmg_4_canoeCount (pc := 71) F (by assumption) hin_X1 dX1_figure_71 (List.mem_of_getElem? (i := 3) rfl) ?_
    exact fmV_iret (pc := 74) F dX1_figure_74 rfl ⟨rfl, rfl⟩
  · refine fmV_iload_n (pc := 0) (i := 1) F dX1_figure_0 rfl rfl ?_
    refine fmV_tableIn (pc := 1) (tgt := 75) F dX1_figure_1 (by decide) (by decide) rfl (by decide) ?_
    refine fmV_aload_n (pc := 75) (i := 0) F dX1_figure_75 rfl rfl ?_
    refine fmV_iconst (pc := 76) (v := 1) F dX1_figure_76 rfl ?_
    refine fmV_cVi (n := 1) (pc := 77) F (c_X1_canoesBeing l D A G σ o ha hcc h41 1) gX1_figure_X1_canoesBeing rfl rfl rfl (by decide +kernel) ⟨Nat.le_of_ble_eq_true rfl, Nat.le_of_ble_eq_true rfl⟩ (fmR_4 F (by assumption)) rfl rfl (Nat.le_of_ble_eq_true rfl) dX1_figure_77 ⟨Nat.le_of_ble_eq_true rfl, Nat.le_of_ble_eq_true rfl⟩ (fun r2 u1 hc3 => ?_)
    obtain ⟨hr9, hu9⟩ := hc3
    have hr9 := hr9.symm
    have hu9 := hu9.symm
    subst hr9
    subst hu9
    exact fmV_iret (pc := 80) F dX1_figure_80 rfl ⟨rfl, rfl⟩
  · refine fmV_iload_n (pc := 0) (i := 1) F dX1_figure_0 rfl rfl ?_
    refine fmV_tableIn (pc := 1) (tgt := 81) F dX1_figure_1 (by decide) (by decide) rfl (by decide) ?_
    refine fmV_aload_n (pc := 81) (i := 0) F dX1_figure_81 rfl rfl ?_
    refine fmV_iconst (pc := 82) (v := 2) F dX1_figure_82 rfl ?_
    refine fmV_cVi (n := 1) (pc := 83) F (c_X1_canoesBeing l D A G σ o ha hcc h41 2) gX1_figure_X1_canoesBeing rfl rfl rfl (by decide +kernel) ⟨Nat.le_of_ble_eq_true rfl, Nat.le_of_ble_eq_true rfl⟩ (fmR_4 F (by assumption)) rfl rfl (Nat.le_of_ble_eq_true rfl) dX1_figure_83 ⟨Nat.le_of_ble_eq_true rfl, Nat.le_of_ble_eq_true rfl⟩ (fun r5 u4 hc6 => ?_)
    obtain ⟨hr9, hu9⟩ := hc6
    have hr9 := hr9.symm
    have hu9 := hu9.symm
    subst hr9
    subst hu9
    exact fmV_iret (pc := 86) F dX1_figure_86 rfl ⟨rfl, rfl⟩
  · refine fmV_iload_n (pc := 0) (i := 1) F dX1_figure_0 rfl rfl ?_
    refine fmV_tableIn (pc := 1) (tgt := 87) F dX1_figure_1 (by decide) (by decide) rfl (by decide) ?_
    refine fmV_aload_n (pc := 87) (i := 0) F dX1_figure_87 rfl rfl ?_
    refine fmV_cVi (n := 0) (pc := 88) F (c_X1_coinsInAll l D A G σ o ha hcc h41) gX1_figure_X1_coinsInAll rfl rfl rfl (by decide +kernel) ⟨Nat.le_of_ble_eq_true rfl, Nat.le_of_ble_eq_true rfl⟩ (fmR_4 F (by assumption)) rfl rfl (Nat.le_of_ble_eq_true rfl) dX1_figure_88 ⟨Nat.le_of_ble_eq_true rfl, Nat.le_of_ble_eq_true rfl⟩ (fun r8 u7 hc9 => ?_)
    obtain ⟨hr9, hu9⟩ := hc9
    have hr9 := hr9.symm
    have hu9 := hu9.symm
    subst hr9
    subst hu9
    exact fmV_iret (pc := 91) F dX1_figure_91 rfl ⟨rfl, rfl⟩
  · refine fmV_iload_n (pc := 0) (i := 1) F dX1_figure_0 rfl rfl ?_
    refine fmV_tableIn (pc := 1) (tgt := 92) F dX1_figure_1 (by decide) (by decide) rfl (by decide) ?_
    refine fmV_aload_n (pc := 92) (i := 0) F dX1_figure_92 rfl rfl ?_
    refine fmV_cVi (n := 0) (pc := 93) F (c_X1_goodsInAll l D A G σ o ha hcc h41) gX1_figure_X1_goodsInAll rfl rfl rfl (by decide +kernel) ⟨Nat.le_of_ble_eq_true rfl, Nat.le_of_ble_eq_true rfl⟩ (fmR_4 F (by assumption)) rfl rfl (Nat.le_of_ble_eq_true rfl) dX1_figure_93 ⟨Nat.le_of_ble_eq_true rfl, Nat.le_of_ble_eq_true rfl⟩ (fun r11 u10 hc12 => ?_)
    obtain ⟨hr9, hu9⟩ := hc12
    have hr9 := hr9.symm
    have hu9 := hu9.symm
    subst hr9
    subst hu9
    exact fmV_iret (pc := 96) F dX1_figure_96 rfl ⟨rfl, rfl⟩
  · refine fmV_iload_n (pc := 0) (i := 1) F dX1_figure_0 rfl rfl ?_
    refine fmV_tableIn (pc := 1) (tgt := 97) F dX1_figure_1 (by decide) (by decide) rfl (by decide) ?_
    refine fmV_aload_n (pc := 97) (i := 0) F dX1_figure_97 rfl rfl ?_
    refine fmg_4_sold (pc := 98) F (by assumption) hin_X1 dX1_figure_98 (List.mem_of_getElem? (i := 4) rfl) ?_
    exact fmV_iret (pc := 101) F dX1_figure_101 rfl ⟨rfl, rfl⟩
  · refine fmV_iload_n (pc := 0) (i := 1) F dX1_figure_0 rfl rfl ?_
    refine fmV_tableIn (pc := 1) (tgt := 102) F dX1_figure_1 (by decide) (by decide) rfl (by decide) ?_
    refine fmV_aload_n (pc := 102) (i := 0) F dX1_figure_102 rfl rfl ?_
    refine fmg_4_paid (pc := 103) F (by assumption) hin_X1 dX1_figure_103 (List.mem_of_getElem? (i := 5) rfl) ?_
    exact fmV_iret (pc := 106) F dX1_figure_106 rfl ⟨rfl, rfl⟩
  · refine fmV_iload_n (pc := 0) (i := 1) F dX1_figure_0 rfl rfl ?_
    refine fmV_tableIn (pc := 1) (tgt := 107) F dX1_figure_1 (by decide) (by decide) rfl (by decide) ?_
    refine fmV_aload_n (pc := 107) (i := 0) F dX1_figure_107 rfl rfl ?_
    refine fmg_4_loosened (pc := 108) F (by assumption) hin_X1 dX1_figure_108 (List.mem_of_getElem? (i := 6) rfl) ?_
    exact fmV_iret (pc := 111) F dX1_figure_111 rfl ⟨rfl, rfl⟩
  · refine fmV_iload_n (pc := 0) (i := 1) F dX1_figure_0 rfl rfl ?_
    refine fmV_tableIn (pc := 1) (tgt := 112) F dX1_figure_1 (by decide) (by decide) rfl (by decide) ?_
    refine fmV_aload_n (pc := 112) (i := 0) F dX1_figure_112 rfl rfl ?_
    refine fmg_4_drifted (pc := 113) F (by assumption) hin_X1 dX1_figure_113 (List.mem_of_getElem? (i := 7) rfl) ?_
    exact fmV_iret (pc := 116) F dX1_figure_116 rfl ⟨rfl, rfl⟩
  · refine fmV_iload_n (pc := 0) (i := 1) F dX1_figure_0 rfl rfl ?_
    refine fmV_tableOut (pc := 1) (tgt := 117) F dX1_figure_1 (by decide) (by decide) ?_
    refine fmV_aload_n (pc := 117) (i := 0) F dX1_figure_117 rfl rfl ?_
    refine fmV_cVi (n := 0) (pc := 118) F (c_X1_dryCanoes l D A G σ o ha hcc h41 ht h42) gX1_figure_X1_dryCanoes rfl rfl rfl (by decide +kernel) ⟨Nat.le_of_ble_eq_true rfl, Nat.le_of_ble_eq_true rfl⟩ (fmR_4 F (by assumption)) rfl rfl (Nat.le_of_ble_eq_true rfl) dX1_figure_118 ⟨Nat.le_of_ble_eq_true rfl, Nat.le_of_ble_eq_true rfl⟩ (fun r14 u13 hc15 => ?_)
    obtain ⟨hr9, hu9⟩ := hc15
    have hr9 := hr9.symm
    have hu9 := hu9.symm
    subst hr9
    subst hu9
    exact fmV_iret (pc := 121) F dX1_figure_121 rfl ⟨rfl, rfl⟩
