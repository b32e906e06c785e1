set_option maxHeartbeats 4000000 in
set_option maxRecDepth 100000 in
theorem c_X6_thrown (l : Launch) (D : va_G) (A : Nat → Prop) (G : fmG) (σ : fmS) (o : Nat → Int64)  : fmXi l D A G yX6_thrown wsX6_thrown (fmRm 1 0 0) 0 0 [.ref (G.1 14 0 0)] σ o (fun r u => r = σ 61 0 0 0 ∧ u = σ) (fun _ _ => False) := by
  refine fmXi_of (cc := cX6_thrown) (maxL := 1) (ret := (some .int)) (by decide +kernel) rfl (Nat.le_of_ble_eq_true rfl) ?_
  intro P_ E_ S_ M_ args_ below_ meth_ C_ F hX hnt
  have hin_X6 : ∀ w ∈ wsX60, w ∈ wsX6_thrown := (fun _ h => List.mem_cons_of_mem _ (List.mem_append_right _ h))
  refine fmV_aload_n (pc := 0) (i := 0) F dX6_thrown_0 rfl rfl ?_
  refine fmg_14_thrown (pc := 1) F  hin_X6 dX6_thrown_1 (List.mem_of_getElem? (i := 1) rfl) ?_
  refine fmV_xr ?_
  exact fmV_iret (pc := 4) F dX6_thrown_4 rfl ⟨rfl, rfl⟩

set_option maxHeartbeats 4000000 in
set_option maxRecDepth 100000 in
theorem c_X6_no (l : Launch) (D : va_G) (A : Nat → Prop) (G : fmG) (σ : fmS) (o : Nat → Int64) (x : Int32) : fmXi l D A G yX6_no wsX6_no (fmRm 1 0 0) 0 0 [.ref (G.1 14 0 0), .int x] σ o (fun r u => r = 0 ∧ u = fmu σ 61 0 0 (fun _ => x)) (fun _ _ => False) := by
  refine fmXi_of (cc := cX6_no) (maxL := 2) (ret := (some .int)) (by decide +kernel) rfl (Nat.le_of_ble_eq_true rfl) ?_
  intro P_ E_ S_ M_ args_ below_ meth_ C_ F hX hnt
  have hin_X6 : ∀ w ∈ wsX60, w ∈ wsX6_no := (fun _ h => List.mem_cons_of_mem _ (List.mem_append_right _ h))
  refine fmV_aload_n (pc := 0) (i := 0) F dX6_no_0 rfl rfl ?_
  refine fmV_iload_n (pc := 1) (i := 1) F dX6_no_1 rfl rfl ?_
  refine fmp_14_thrown (pc := 2) F  hin_X6 dX6_no_2 (List.mem_of_getElem? (i := 1) rfl) ?_
  refine fmV_iconst (pc := 5) (v := 0) F dX6_no_5 rfl ?_
  refine fmV_xr ?_
  exact fmV_iret (pc := 6) F dX6_no_6 rfl ⟨rfl, rfl⟩

set_option maxHeartbeats 4000000 in
set_option maxRecDepth 100000 in
theorem c_X6_isIn (l : Launch) (D : va_G) (A : Nat → Prop) (G : fmG) (σ : fmS) (o : Nat → Int64) (x y z : Int32) : fmXi l D A G yX6_isIn wsX6_isIn (fmRm 1 0 0) 0 0 [.int x, .int y, .int z] σ o (fun r u => r = (if x < y ∨ z < x then 0 else 1) ∧ u = σ) (fun _ _ => False) := by
  refine fmXi_of (cc := cX6_isIn) (maxL := 3) (ret := (some .boolean)) (by decide +kernel) rfl (Nat.le_of_ble_eq_true rfl) ?_
  intro P_ E_ S_ M_ args_ below_ meth_ C_ F hX hnt
  refine fmV_iload_n (pc := 0) (i := 0) F dX6_isIn_0 rfl rfl ?_
  refine fmV_iload_n (pc := 1) (i := 1) F dX6_isIn_1 rfl rfl ?_
  refine fmV_icmp_lt (pc := 2) (tgt := 14) F dX6_isIn_2 (by decide) (fun h1 => ?_) (fun h1 => ?_)
  · refine fmV_iconst (pc := 14) (v := 0) F dX6_isIn_14 rfl ?_
    refine fmV_xr ?_
    exact fmV_zret (pc := 15) F dX6_isIn_15 rfl rfl ⟨by rw [if_pos (Or.inl h1)], rfl⟩
  · refine fmV_iload_n (pc := 5) (i := 0) F dX6_isIn_5 rfl rfl ?_
    refine fmV_iload_n (pc := 6) (i := 2) F dX6_isIn_6 rfl rfl ?_
    refine fmV_icmp_gt (pc := 7) (tgt := 14) F dX6_isIn_7 (by decide) (fun h2 => ?_) (fun h2 => ?_)
    · refine fmV_iconst (pc := 14) (v := 0) F dX6_isIn_14 rfl ?_
      refine fmV_xr ?_
      exact fmV_zret (pc := 15) F dX6_isIn_15 rfl rfl ⟨by rw [if_pos (Or.inr h2)], rfl⟩
    · refine fmV_iconst (pc := 10) (v := 1) F dX6_isIn_10 rfl ?_
      refine fmV_goto (pc := 11) (tgt := 15) F dX6_isIn_11 (by decide) ?_
      refine fmV_xr ?_
      exact fmV_zret (pc := 15) F dX6_isIn_15 rfl rfl ⟨by rw [if_neg (fun q => q.elim h1 h2)], rfl⟩

set_option maxHeartbeats 4000000 in
set_option maxRecDepth 100000 in
theorem c_X6_isCanoe (l : Launch) (D : va_G) (A : Nat → Prop) (G : fmG) (σ : fmS) (o : Nat → Int64) {cc : Nat} (hcc : cc ≤ 14) (h : σ 63 0 0 0 = nI cc) (x : Int32) : fmXi l D A G yX6_isCanoe wsX6_isCanoe (fmRm 2 0 0) 0 0 [.ref (G.1 14 0 0), .int x] σ o (fun r u => r = (if x < 0 ∨ nI cc ≤ x then 0 else 1) ∧ u = σ) (fun _ _ => False) := by
  refine fmXi_of (cc := cX6_isCanoe) (maxL := 2) (ret := (some .boolean)) (by decide +kernel) rfl (Nat.le_of_ble_eq_true rfl) ?_
  intro P_ E_ S_ M_ args_ below_ meth_ C_ F hX hnt
  have hin_X6 : ∀ w ∈ wsX60, w ∈ wsX6_isCanoe := (fun _ h => List.mem_cons_of_mem _ (List.mem_append_right _ h))
  refine fmV_iload_n (pc := 0) (i := 1) F dX6_isCanoe_0 rfl rfl ?_
  refine fmV_iconst (pc := 1) (v := 0) F dX6_isCanoe_1 rfl ?_
  refine fmV_aload_n (pc := 2) (i := 0) F dX6_isCanoe_2 rfl rfl ?_
  refine fmg_14_canoes (pc := 3) F  hin_X6 dX6_isCanoe_3 (List.mem_of_getElem? (i := 1) rfl) ?_
  refine fmV_iconst (pc := 6) (v := 1) F dX6_isCanoe_6 rfl ?_
  refine fmV_isub (pc := 7) F dX6_isCanoe_7 ?_
  refine fmV_xSi (n := 3) (pc := 8) F hX (c_X6_isIn l D A G σ o x 0 (σ 63 0 0 0 - 1)) gX6_isCanoe_X6_isIn rfl rfl rfl (by decide +kernel) ⟨Nat.le_of_ble_eq_true rfl, Nat.le_of_ble_eq_true rfl⟩ rfl rfl (Nat.le_of_ble_eq_true rfl) dX6_isCanoe_8 ⟨Nat.le_of_ble_eq_true rfl, Nat.le_of_ble_eq_true rfl⟩ (fun _ _ h9 => False.elim h9) (fun r2 u1 hc3 => ?_)
  obtain ⟨hr9, hu9⟩ := hc3
  have hr9 := hr9.symm
  have hu9 := hu9.symm
  subst hr9
  subst hu9
  refine fmV_xr ?_
  exact fmV_zret (pc := 11) F dX6_isCanoe_11 rfl (by split <;> rfl) ⟨by rw [h]; simp only [fm_pred (show cc < 2 ^ 30 by omega) x], rfl⟩

set_option maxHeartbeats 4000000 in
set_option maxRecDepth 100000 in
theorem c_X6_isRow (l : Launch) (D : va_G) (A : Nat → Prop) (G : fmG) (σ : fmS) (o : Nat → Int64) {rc : Nat} (hcc : rc ≤ 14) (h : σ 62 0 0 0 = nI rc) (x : Int32) : fmXi l D A G yX6_isRow wsX6_isRow (fmRm 2 0 0) 0 0 [.ref (G.1 14 0 0), .int x] σ o (fun r u => r = (if x < 0 ∨ nI rc ≤ x then 0 else 1) ∧ u = σ) (fun _ _ => False) := by
  refine fmXi_of (cc := cX6_isRow) (maxL := 2) (ret := (some .boolean)) (by decide +kernel) rfl (Nat.le_of_ble_eq_true rfl) ?_
  intro P_ E_ S_ M_ args_ below_ meth_ C_ F hX hnt
  have hin_X6 : ∀ w ∈ wsX60, w ∈ wsX6_isRow := (fun _ h => List.mem_cons_of_mem _ (List.mem_append_right _ h))
  refine fmV_iload_n (pc := 0) (i := 1) F dX6_isRow_0 rfl rfl ?_
  refine fmV_iconst (pc := 1) (v := 0) F dX6_isRow_1 rfl ?_
  refine fmV_aload_n (pc := 2) (i := 0) F dX6_isRow_2 rfl rfl ?_
  refine fmg_14_rows (pc := 3) F  hin_X6 dX6_isRow_3 (List.mem_of_getElem? (i := 1) rfl) ?_
  refine fmV_iconst (pc := 6) (v := 1) F dX6_isRow_6 rfl ?_
  refine fmV_isub (pc := 7) F dX6_isRow_7 ?_
  refine fmV_xSi (n := 3) (pc := 8) F hX (c_X6_isIn l D A G σ o x 0 (σ 62 0 0 0 - 1)) gX6_isRow_X6_isIn rfl rfl rfl (by decide +kernel) ⟨Nat.le_of_ble_eq_true rfl, Nat.le_of_ble_eq_true rfl⟩ rfl rfl (Nat.le_of_ble_eq_true rfl) dX6_isRow_8 ⟨Nat.le_of_ble_eq_true rfl, Nat.le_of_ble_eq_true rfl⟩ (fun _ _ h9 => False.elim h9) (fun r2 u1 hc3 => ?_)
  obtain ⟨hr9, hu9⟩ := hc3
  have hr9 := hr9.symm
  have hu9 := hu9.symm
  subst hr9
  subst hu9
  refine fmV_xr ?_
  exact fmV_zret (pc := 11) F dX6_isRow_11 rfl (by split <;> rfl) ⟨by rw [h]; simp only [fm_pred (show rc < 2 ^ 30 by omega) x], rfl⟩

set_option maxHeartbeats 4000000 in
set_option maxRecDepth 100000 in
theorem c_X6_isGood (l : Launch) (D : va_G) (A : Nat → Prop) (G : fmG) (σ : fmS) (o : Nat → Int64) (x : Int32) : fmXi l D A G yX6_isGood wsX6_isGood (fmRm 2 0 0) 0 0 [.int x] σ o (fun r u => r = (if x < 0 ∨ 3 < x then 0 else 1) ∧ u = σ) (fun _ _ => False) := by
  refine fmXi_of (cc := cX6_isGood) (maxL := 1) (ret := (some .boolean)) (by decide +kernel) rfl (Nat.le_of_ble_eq_true rfl) ?_
  intro P_ E_ S_ M_ args_ below_ meth_ C_ F hX hnt
  refine fmV_iload_n (pc := 0) (i := 0) F dX6_isGood_0 rfl rfl ?_
  refine fmV_iconst (pc := 1) (v := 0) F dX6_isGood_1 rfl ?_
  refine fmV_iconst (pc := 2) (v := 3) F dX6_isGood_2 rfl ?_
  refine fmV_xSi (n := 3) (pc := 3) F hX (c_X6_isIn l D A G σ o x 0 3) gX6_isGood_X6_isIn rfl rfl rfl (by decide +kernel) ⟨Nat.le_of_ble_eq_true rfl, Nat.le_of_ble_eq_true rfl⟩ rfl rfl (Nat.le_of_ble_eq_true rfl) dX6_isGood_3 ⟨Nat.le_of_ble_eq_true rfl, Nat.le_of_ble_eq_true rfl⟩ (fun _ _ h9 => False.elim h9) (fun r2 u1 hc3 => ?_)
  obtain ⟨hr9, hu9⟩ := hc3
  have hr9 := hr9.symm
  have hu9 := hu9.symm
  subst hr9
  subst hu9
  refine fmV_xr ?_
  exact fmV_zret (pc := 6) F dX6_isGood_6 rfl (by split <;> rfl) ⟨rfl, rfl⟩

set_option maxHeartbeats 4000000 in
set_option maxRecDepth 100000 in
theorem c_X6_pass (l : Launch) (D : va_G) (A : Nat → Prop) (G : fmG) (σ : fmS) (o : Nat → Int64) {b rc cc t n : Nat} (hb : b < 2) (hcc : cc ≤ 14) (h63 : σ 63 0 0 0 = nI cc) (hrc : rc ≤ 4) (h62 : σ 62 0 0 0 = nI rc) (ht : t + n < 2 ^ 30) (h64 : σ 64 b 0 0 = nI t) : fmXi l D A G yX6_pass wsX6_pass (fmRm 5 0 0) 0 0 [.ref (G.1 14 0 0), .ref (G.1 23 b 0), .int (nI n)] σ o (fun r u => r = (gPass b rc cc t σ n) 65 b 0 0 - σ 65 b 0 0 ∧ u = (gPass b rc cc t σ n)) (fun _ _ => False) := by
  refine fmXi_of (cc := cX6_pass) (maxL := 5) (ret := (some .int)) (by decide +kernel) rfl (Nat.le_of_ble_eq_true rfl) ?_
  intro P_ E_ S_ M_ args_ below_ meth_ C_ F hX hnt
  have hin_X6 : ∀ w ∈ wsX60, w ∈ wsX6_pass := (fun _ h => List.mem_cons_of_mem _ (List.mem_append_left _ (List.mem_append_right _ h)))
  have hin_X5 : ∀ w ∈ wsX50, w ∈ wsX6_pass := (fun _ h => List.mem_cons_of_mem _ (List.mem_append_right _ h))
  have k62 : ∀ j, (gPass b rc cc t σ j) 62 0 0 0 = nI rc := fun j => by rw [gPass_c (by decide)]; exact h62
  have k63 : ∀ j, (gPass b rc cc t σ j) 63 0 0 0 = nI cc := fun j => by rw [gPass_c (by decide)]; exact h63
  have k64 : ∀ j, (gPass b rc cc t σ j) 64 b 0 0 = nI (t + j) := fun j => gPass_64 h64 j
  refine fmV_iconst (pc := 0) (v := 0) F dX6_pass_0 rfl ?_
  refine fmV_istore_n (pc := 1) (i := 3) F dX6_pass_1 rfl (by decide) ?_
  refine fmV_iconst (pc := 2) (v := 0) F dX6_pass_2 rfl ?_
  refine fmV_istore (pc := 3) (i := 4) F dX6_pass_3 (by decide) ?_
  refine fmV_lv (lv' := [(0, .ref (G.1 14 0 0)), (1, .ref (G.1 23 b 0)), (2, .int (nI n)), (3, .int ((gPass b rc cc t σ 0) 65 b 0 0 - σ 65 b 0 0)), (4, .int (nI 0))]) ⟨rfl, rfl, rfl, by rw [gPass, Int32.sub_self]; rfl, rfl, trivial⟩ ?_
  refine fmV_up (N := n) (pc := 5) (σf := fun j => (gPass b rc cc t σ j)) (lvf := fun j => [(0, .ref (G.1 14 0 0)), (1, .ref (G.1 23 b 0)), (2, .int (nI n)), (3, .int ((gPass b rc cc t σ j) 65 b 0 0 - σ 65 b 0 0)), (4, .int (nI j))]) 0 (Nat.zero_le _) ?_ ?_
  · refine fmV_iload (pc := 5) (i := 4) F dX6_pass_5 rfl ?_
    refine fmV_iload_n (pc := 7) (i := 2) F dX6_pass_7 rfl rfl ?_
    refine fmV_icmp_ge (pc := 8) (tgt := 28) F dX6_pass_8 (by decide) (fun h1 => ?_) (fun h1 => ?_)
    · refine fmV_iload_n (pc := 28) (i := 3) F dX6_pass_28 rfl rfl ?_
      refine fmV_xr ?_
      exact fmV_iret (pc := 29) F dX6_pass_29 rfl ⟨rfl, rfl⟩
    · exact absurd (nI_le (Nat.le_refl n) (by omega)) h1
  · intro j hj ih
    refine fmV_iload (pc := 5) (i := 4) F dX6_pass_5 rfl ?_
    refine fmV_iload_n (pc := 7) (i := 2) F dX6_pass_7 rfl rfl ?_
    refine fmV_icmp_ge (pc := 8) (tgt := 28) F dX6_pass_8 (by decide) (fun h1 => ?_) (fun h1 => ?_)
    · exact absurd h1 (nI_ge hj (by omega))
    · refine fmV_iload_n (pc := 11) (i := 3) F dX6_pass_11 rfl rfl ?_
      refine fmV_aload_n (pc := 12) (i := 1) F dX6_pass_12 rfl rfl ?_
      refine fmV_aload_n (pc := 13) (i := 0) F dX6_pass_13 rfl rfl ?_
      refine fmg_14_did (pc := 14) F  hin_X6 dX6_pass_14 (List.mem_of_getElem? (i := 1) rfl) ?_
      refine fmV_xVi (n := 1) (pc := 17) F hX (c_X5_pass l D A G (gPass b rc cc t σ j) o hb hcc (k63 j) hrc (k62 j) (by omega) (k64 j)) gX6_pass_X5_pass rfl rfl rfl (by decide +kernel) ⟨Nat.le_of_ble_eq_true rfl, Nat.le_of_ble_eq_true rfl⟩ (fmR_23 F (by assumption)) rfl rfl (Nat.le_of_ble_eq_true rfl) dX6_pass_17 ⟨Nat.le_of_ble_eq_true rfl, Nat.le_of_ble_eq_true rfl⟩ (fun _ _ h9 => False.elim h9) (fun r2 u1 hc3 => ?_)
      obtain ⟨hr9, hu9⟩ := hc3
      have hr9 := hr9.symm
      have hu9 := hu9.symm
      subst hr9
      subst hu9
      refine fmV_iadd (pc := 20) F dX6_pass_20 ?_
      refine fmV_istore_n (pc := 21) (i := 3) F dX6_pass_21 rfl (by decide) ?_
      refine fmV_iinc (pc := 22) (i := 4) F dX6_pass_22 rfl rfl (by decide) ?_
      refine fmV_goto (pc := 25) (tgt := 5) F dX6_pass_25 (by decide) ?_
      refine fmV_sg (σ1 := (gPass b rc cc t σ (j + 1))) rfl ?_
      refine fmV_lv ?_ ih
      exact ⟨rfl, rfl, rfl, congrArg (fun z => some (Value.int z)) (gPass_sum σ b rc cc t j), by rw [nI_succ j]; rfl, trivial⟩
