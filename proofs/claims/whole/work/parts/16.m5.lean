set_option maxHeartbeats 4000000 in
set_option maxRecDepth 100000 in
theorem c_X4_needIndex (l : Launch) (D : va_G) (A : Nat → Prop) (G : fmG) (σ : fmS) (o : Nat → Int64) (hl9 : l.stackTraces = false) (x y : Int32) : fmXv l D A G yX4_needIndex wsX4_needIndex (fmRm 6 1 6) 1 6 [.int x, .int y] σ o (fun u => u = σ ∧ ¬ (x < 0 ∨ y ≤ x)) (fun E u => E = "java/lang/IndexOutOfBoundsException" ∧ u = σ ∧ (x < 0 ∨ y ≤ x)) := by
  refine fmXv_of (cc := cX4_needIndex) (maxL := 2) (ret := none) (by decide +kernel) rfl (Nat.le_of_ble_eq_true rfl) ?_
  intro P_ E_ S_ M_ args_ below_ meth_ C_ F hX hnt
  refine fmV_iload_n (pc := 0) (i := 0) F dX4_needIndex_0 rfl rfl ?_
  refine fmV_if_lt (pc := 1) (tgt := 9) F dX4_needIndex_1 (by decide) (fun h1 => ?_) (fun h1 => ?_)
  · exact fmV_throw (pc := 9) F hX hnt hl9 (by decide +kernel) (List.mem_of_getElem? (i := 1) rfl) (List.mem_of_getElem? (i := 2) rfl) hX.2.2.1 (fun _ h => List.mem_cons_of_mem _ (List.mem_append_right _ h)) (by decide +kernel) (by decide +kernel) dX4_needIndex_9 dX4_needIndex_12 dX4_needIndex_13 dX4_needIndex_15 dX4_needIndex_18 (by decide) (Nat.le_of_ble_eq_true rfl) (by decide) (by decide) (by decide) (by decide) ⟨rfl, rfl, Or.inl h1⟩
  · refine fmV_iload_n (pc := 4) (i := 0) F dX4_needIndex_4 rfl rfl ?_
    refine fmV_iload_n (pc := 5) (i := 1) F dX4_needIndex_5 rfl rfl ?_
    refine fmV_icmp_lt (pc := 6) (tgt := 19) F dX4_needIndex_6 (by decide) (fun h2 => ?_) (fun h2 => ?_)
    · refine fmV_widen (k := 1) (n := 6) (by decide) (by decide) ?_
      refine fmV_xr ?_
      exact fmV_vret (pc := 19) F dX4_needIndex_19 rfl ⟨rfl, fun q => q.elim h1 (fun q => Int32.not_lt.mpr q h2)⟩
    · exact fmV_throw (pc := 9) F hX hnt hl9 (by decide +kernel) (List.mem_of_getElem? (i := 1) rfl) (List.mem_of_getElem? (i := 2) rfl) hX.2.2.1 (fun _ h => List.mem_cons_of_mem _ (List.mem_append_right _ h)) (by decide +kernel) (by decide +kernel) dX4_needIndex_9 dX4_needIndex_12 dX4_needIndex_13 dX4_needIndex_15 dX4_needIndex_18 (by decide) (Nat.le_of_ble_eq_true rfl) (by decide) (by decide) (by decide) (by decide) ⟨rfl, rfl, Or.inr (Int32.not_lt.mp h2)⟩

set_option maxHeartbeats 4000000 in
set_option maxRecDepth 100000 in
theorem c_X4_needRange (l : Launch) (D : va_G) (A : Nat → Prop) (G : fmG) (σ : fmS) (o : Nat → Int64) (hl9 : l.stackTraces = false) (x y z : Int32) : fmXv l D A G yX4_needRange wsX4_needRange (fmRm 6 1 6) 1 6 [.int x, .int y, .int z] σ o (fun u => u = σ ∧ ¬ (x < y ∨ z < x)) (fun E u => E = "java/lang/IllegalArgumentException" ∧ u = σ ∧ (x < y ∨ z < x)) := by
  refine fmXv_of (cc := cX4_needRange) (maxL := 3) (ret := none) (by decide +kernel) rfl (Nat.le_of_ble_eq_true rfl) ?_
  intro P_ E_ S_ M_ args_ below_ meth_ C_ F hX hnt
  refine fmV_iload_n (pc := 0) (i := 0) F dX4_needRange_0 rfl rfl ?_
  refine fmV_iload_n (pc := 1) (i := 1) F dX4_needRange_1 rfl rfl ?_
  refine fmV_icmp_lt (pc := 2) (tgt := 10) F dX4_needRange_2 (by decide) (fun h1 => ?_) (fun h1 => ?_)
  · exact fmV_throw (pc := 10) F hX hnt hl9 (by decide +kernel) (List.mem_of_getElem? (i := 1) rfl) (List.mem_of_getElem? (i := 2) rfl) hX.2.2.2.1 (fun _ h => List.mem_cons_of_mem _ (List.mem_append_right _ h)) (by decide +kernel) (by decide +kernel) dX4_needRange_10 dX4_needRange_13 dX4_needRange_14 dX4_needRange_16 dX4_needRange_19 (by decide) (Nat.le_of_ble_eq_true rfl) (by decide) (by decide) (by decide) (by decide) ⟨rfl, rfl, Or.inl h1⟩
  · refine fmV_iload_n (pc := 5) (i := 0) F dX4_needRange_5 rfl rfl ?_
    refine fmV_iload_n (pc := 6) (i := 2) F dX4_needRange_6 rfl rfl ?_
    refine fmV_icmp_le (pc := 7) (tgt := 20) F dX4_needRange_7 (by decide) (fun h2 => ?_) (fun h2 => ?_)
    · refine fmV_widen (k := 1) (n := 6) (by decide) (by decide) ?_
      refine fmV_xr ?_
      exact fmV_vret (pc := 20) F dX4_needRange_20 rfl ⟨rfl, fun q => q.elim h1 (fun q => Int32.not_le.mpr q h2)⟩
    · exact fmV_throw (pc := 10) F hX hnt hl9 (by decide +kernel) (List.mem_of_getElem? (i := 1) rfl) (List.mem_of_getElem? (i := 2) rfl) hX.2.2.2.1 (fun _ h => List.mem_cons_of_mem _ (List.mem_append_right _ h)) (by decide +kernel) (by decide +kernel) dX4_needRange_10 dX4_needRange_13 dX4_needRange_14 dX4_needRange_16 dX4_needRange_19 (by decide) (Nat.le_of_ble_eq_true rfl) (by decide) (by decide) (by decide) (by decide) ⟨rfl, rfl, Or.inr (Int32.not_le.mp h2)⟩

set_option maxHeartbeats 4000000 in
set_option maxRecDepth 100000 in
theorem c_X4_needState (l : Launch) (D : va_G) (A : Nat → Prop) (G : fmG) (σ : fmS) (o : Nat → Int64) (hl9 : l.stackTraces = false) (x : Int32) : fmXv l D A G yX4_needState wsX4_needState (fmRm 6 1 6) 1 6 [.int x] σ o (fun u => u = σ ∧ x ≠ 0) (fun E u => E = "java/lang/IllegalStateException" ∧ u = σ ∧ x = 0) := by
  refine fmXv_of (cc := cX4_needState) (maxL := 1) (ret := none) (by decide +kernel) rfl (Nat.le_of_ble_eq_true rfl) ?_
  intro P_ E_ S_ M_ args_ below_ meth_ C_ F hX hnt
  refine fmV_iload_n (pc := 0) (i := 0) F dX4_needState_0 rfl rfl ?_
  refine fmV_if_ne (pc := 1) (tgt := 14) F dX4_needState_1 (by decide) (fun h1 => ?_) (fun h1 => ?_)
  · refine fmV_widen (k := 1) (n := 6) (by decide) (by decide) ?_
    refine fmV_xr ?_
    exact fmV_vret (pc := 14) F dX4_needState_14 rfl ⟨rfl, h1⟩
  · exact fmV_throw (pc := 4) F hX hnt hl9 (by decide +kernel) (List.mem_of_getElem? (i := 1) rfl) (List.mem_of_getElem? (i := 2) rfl) hX.2.2.2.2.1 (fun _ h => List.mem_cons_of_mem _ (List.mem_append_right _ h)) (by decide +kernel) (by decide +kernel) dX4_needState_4 dX4_needState_7 dX4_needState_8 dX4_needState_10 dX4_needState_13 (by decide) (Nat.le_of_ble_eq_true rfl) (by decide) (by decide) (by decide) (by decide) ⟨rfl, rfl, h1⟩
