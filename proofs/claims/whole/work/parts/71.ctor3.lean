theorem cRw_0 (u : cAd) (mk : Nat) : cRw u mk 0 = fun _ => none := by
  funext x; unfold cRw; rw [if_neg (by omega)]
theorem cCn_0 (u : cAd) (mk : Nat) : cCn u mk 0 = fun _ => none := by
  funext x; unfold cCn; rw [if_neg (by omega)]
theorem vp_q_ext {cA : ClassId} {n : Nat} {f g : Nat → Option Nat} (h : ∀ j, j < n → f j = g j) : vp_cell cA (n, .inr (.inr (.inr (.inr (f))))) = vp_cell cA (n, .inr (.inr (.inr (.inr (g))))) := by
  rw [vp_cell_q, vp_cell_q]
  unfold arrV
  rw [show (fun j : Fin n => va_rf (f j.val)) = fun j : Fin n => va_rf (g j.val) from funext fun j => by rw [h j.val j.isLt]]
section STM
variable {u v : cAd} {T2 : Nat → ClassId} {b : Nat}
theorem st_map (h : ∀ kd, 23 ≤ kd ∧ kd ≤ 33 → u kd b 0 = v kd b 0) (h14 : u 14 0 0 = v 14 0 0) : (stIds b).map (cC u T2) = (stIds b).map (cC v T2) := by
  have e : cC u T2 (23, b, 0) = cC v T2 (23, b, 0) := by
    show (u 23 b 0, fmC_23 (u, T2) fmNew fmNewO b 0) = (v 23 b 0, fmC_23 (v, T2) fmNew fmNewO b 0)
    unfold fmC_23
    dsimp only
    rw [h 23 (by decide), h 24 (by decide), h 25 (by decide), h 26 (by decide), h 27 (by decide), h 28 (by decide), h 29 (by decide), h 30 (by decide), h 31 (by decide), h 32 (by decide), h 33 (by decide), h14]
  unfold stIds
  rw [List.map_cons, List.map_cons, e]
  refine congrArg _ (List.map_congr_left (l := [(24, b, 0), (25, b, 0), (26, b, 0), (27, b, 0), (28, b, 0), (29, b, 0), (30, b, 0), (31, b, 0), (32, b, 0), (33, b, 0)]) (fun i hi => ?_))
  have hk : ∃ kd, (24 ≤ kd ∧ kd ≤ 33) ∧ i = (kd, b, 0) := by
    simp only [List.mem_cons, List.not_mem_nil, or_false] at hi
    rcases hi with rfl | rfl | rfl | rfl | rfl | rfl | rfl | rfl | rfl | rfl
    · exact ⟨24, by decide, rfl⟩
    · exact ⟨25, by decide, rfl⟩
    · exact ⟨26, by decide, rfl⟩
    · exact ⟨27, by decide, rfl⟩
    · exact ⟨28, by decide, rfl⟩
    · exact ⟨29, by decide, rfl⟩
    · exact ⟨30, by decide, rfl⟩
    · exact ⟨31, by decide, rfl⟩
    · exact ⟨32, by decide, rfl⟩
    · exact ⟨33, by decide, rfl⟩
  obtain ⟨kd, hkd, rfl⟩ := hk
  exact cC_a (by omega) (h kd (by omega))
end STM

set_option maxHeartbeats 4000000 in
set_option maxRecDepth 100000 in
theorem c_X1_init (l : Launch) (D : va_G) (T2 : Nat → ClassId) (A : Nat → Prop) {w w0 : va_W} {h wtr : Nat} (mk : Nat) (hw9 : w = w0 ++ [(h, .inr (1, [.null, .null, .null, .int 0, .int 0, .int 0, .int 0, .int 0, .int 0, .int 0]))]) : cMv l D T2 A yX1_init wsX1_init (fmRm 2 80 502) 80 502 [.ref h, .ref wtr] w (fun u : cAd => u 4 mk 0 = h ∧ u 1 0 0 = wtr) (fun u : cAd => w0 ++ (mktIds mk).map (cC u T2)) := by
  refine cMv_of (cc := cX1_init) (maxL := 3) (ret := none) hw9 (by decide +kernel) rfl (Nat.le_of_ble_eq_true rfl) ?_
  intro P_ E_ S_ M_ args_ below_ meth_ C_ F hnm
  have hin2 : meth_.name = "<init>" := hnm
  have hin_X1 : ∀ w ∈ wsX10, w ∈ wsX1_init := (fun _ h => List.mem_cons_of_mem _ (List.mem_append_left _ (List.mem_append_left _ (List.mem_append_right _ h))))
  have hin_X2 : ∀ w ∈ wsX20, w ∈ wsX1_init := (fun _ h => List.mem_cons_of_mem _ (List.mem_append_left _ (List.mem_append_right _ h)))
  have hin_X0 : ∀ w ∈ wsX00, w ∈ wsX1_init := (fun _ h => List.mem_cons_of_mem _ (List.mem_append_right _ h))
  refine cV_aload_n (pc := 0) (i := 0) F dX1_init_0 rfl rfl ?_
  refine cV_objInit (pc := 1) F dX1_init_1 (List.mem_of_getElem? (i := 1) rfl) (List.mem_of_getElem? (i := 2) rfl) (List.mem_of_getElem? (i := 3) rfl) (Nat.le_of_ble_eq_true rfl) (Nat.le_of_ble_eq_true rfl) ?_
  refine cV_aload_n (pc := 4) (i := 0) F dX1_init_4 rfl rfl ?_
  refine cV_aload_n (pc := 5) (i := 1) F dX1_init_5 rfl rfl ?_
  refine cV_putF (pc := 6) (a := h) (ci := 1) (fs := [.null, .null, .null, .int 0, .int 0, .int 0, .int 0, .int 0, .int 0, .int 0]) (v := .ref wtr) (b1 := []) (b2 := []) F rfl hin_X1 tyX1 tyX1_ok nmX1 0 (by decide) (Nat.le_of_ble_eq_true rfl) rfl hin2 rfl rfl rfl dX1_init_6 (List.mem_of_getElem? (i := 4) rfl) ?_
  refine cV_eq (b' := ((h, .inr (1, [.ref wtr, .null, .null, .int 0, .int 0, .int 0, .int 0, .int 0, .int 0, .int 0])) :: [])) rfl ?_
  refine cV_aload_n (pc := 9) (i := 0) F dX1_init_9 rfl rfl ?_
  refine cV_iconst (pc := 10) (v := 4) F dX1_init_10 rfl ?_
  refine cV_newq_rows (n := 4) (pc := 11) F (List.mem_of_getElem? (i := 5) rfl) (by decide) (by decide) (Nat.le_of_ble_eq_true rfl) (Nat.le_of_ble_eq_true rfl) (Nat.le_of_ble_eq_true rfl) dX1_init_11 (fun q5 => ?_)
  refine cV_eq (b' := ((h, .inr (1, [.ref wtr, .null, .null, .int 0, .int 0, .int 0, .int 0, .int 0, .int 0, .int 0])) :: [(q5, .inl (T2 3, 4, .inr (.inr (.inr (.inr (fun _ => none))))))])) rfl ?_
  refine cV_putF (pc := 14) (a := h) (ci := 1) (fs := [.ref wtr, .null, .null, .int 0, .int 0, .int 0, .int 0, .int 0, .int 0, .int 0]) (v := .ref q5) (b1 := []) (b2 := [(q5, .inl (T2 3, 4, .inr (.inr (.inr (.inr (fun _ => none))))))]) F rfl hin_X1 tyX1 tyX1_ok nmX1 1 (by decide) (Nat.le_of_ble_eq_true rfl) rfl hin2 rfl rfl rfl dX1_init_14 (List.mem_of_getElem? (i := 6) rfl) ?_
  refine cV_eq (b' := ((h, .inr (1, [.ref wtr, .ref q5, .null, .int 0, .int 0, .int 0, .int 0, .int 0, .int 0, .int 0])) :: [(q5, .inl (T2 3, 4, .inr (.inr (.inr (.inr (fun _ => none))))))])) rfl ?_
  refine cV_iconst (pc := 17) (v := 0) F dX1_init_17 rfl ?_
  refine cV_istore_n (pc := 18) (i := 2) F dX1_init_18 rfl (by decide) ?_
  refine cV_lv (lv' := [(0, .ref h), (1, .ref wtr), (2, .int (nI 0))]) ⟨rfl, rfl, rfl, trivial⟩ ?_
  refine cV_widen (k := 1 + 2 * 0) (n := 4 + 9 * 0) (Nat.le_of_ble_eq_true rfl) (Nat.le_of_ble_eq_true rfl) ?_
  refine cV_eq (by unfold cBR; rw [cRw_0]; rfl) (c_X1_rows (h := h) (wtr := wtr) (q5 := q5) (mk := mk) F (fun u => ?_) 4 0 rfl (fun _ _ _ => 0))
  refine cV_aload_n (pc := 43) (i := 0) F dX1_init_43 rfl rfl ?_
  refine cV_bipush (pc := 44) (v := 14) F dX1_init_44 (by decide) ?_
  refine cV_newq_canoes (n := 14) (pc := 46) F (List.mem_of_getElem? (i := 9) rfl) (by decide) (by decide) (Nat.le_of_ble_eq_true rfl) (Nat.le_of_ble_eq_true rfl) (Nat.le_of_ble_eq_true rfl) dX1_init_46 (fun q6 => ?_)
  refine cV_eq (b' := ((h, .inr (1, [.ref wtr, .ref q5, .null, .int 0, .int 0, .int 0, .int 0, .int 0, .int 0, .int 0])) :: (((q5, .inl (T2 3, 4, .inr (.inr (.inr (.inr (cRw u mk 4)))))) :: (rowIds mk 4).map (cC u T2)) ++ [(q6, .inl (T2 4, 14, .inr (.inr (.inr (.inr (fun _ => none))))))]))) rfl ?_
  refine cV_putF (pc := 49) (a := h) (ci := 1) (fs := [.ref wtr, .ref q5, .null, .int 0, .int 0, .int 0, .int 0, .int 0, .int 0, .int 0]) (v := .ref q6) (b1 := []) (b2 := (((q5, .inl (T2 3, 4, .inr (.inr (.inr (.inr (cRw u mk 4)))))) :: (rowIds mk 4).map (cC u T2)) ++ [(q6, .inl (T2 4, 14, .inr (.inr (.inr (.inr (fun _ => none))))))])) F rfl hin_X1 tyX1 tyX1_ok nmX1 2 (by decide) (Nat.le_of_ble_eq_true rfl) rfl hin2 rfl rfl rfl dX1_init_49 (List.mem_of_getElem? (i := 10) rfl) ?_
  refine cV_eq (b' := ((h, .inr (1, [.ref wtr, .ref q5, .ref q6, .int 0, .int 0, .int 0, .int 0, .int 0, .int 0, .int 0])) :: (((q5, .inl (T2 3, 4, .inr (.inr (.inr (.inr (cRw u mk 4)))))) :: (rowIds mk 4).map (cC u T2)) ++ [(q6, .inl (T2 4, 14, .inr (.inr (.inr (.inr (fun _ => none))))))]))) rfl ?_
  refine cV_iconst (pc := 52) (v := 0) F dX1_init_52 rfl ?_
  refine cV_istore_n (pc := 53) (i := 2) F dX1_init_53 rfl (by decide) ?_
  refine cV_lv (lv' := [(0, .ref h), (1, .ref wtr), (2, .int (nI 0))]) ⟨rfl, rfl, rfl, trivial⟩ ?_
  refine cV_widen (k := 10 + 5 * 0) (n := 54 + 32 * 0) (Nat.le_of_ble_eq_true rfl) (Nat.le_of_ble_eq_true rfl) ?_
  refine cV_eq (by unfold cBC; rw [cCn_0]; rfl) (c_X1_cans (h := h) (wtr := wtr) (q5 := q5) (q6 := q6) (mk := mk) F (fun u2 => ?_) 14 0 rfl u)
  refine cV_eq (b' := [cThis h wtr (.ref q5) (.ref q6)] ++ (q5, .inl (T2 3, 4, .inr (.inr (.inr (.inr (cRw u2 mk 4)))))) :: ((rowIds mk 4).map (cC u2 T2) ++ ((q6, .inl (T2 4, 14, .inr (.inr (.inr (.inr (cCn u2 mk 14)))))) :: (canIds mk 14).map (cC u2 T2)))) rfl ?_
  refine cV_cell (y := (T2 3, 4, .inr (.inr (.inr (.inr (fun j => some (u2 7 mk j))))))) (vp_q_ext (fun j hj => if_pos hj)) ?_
  refine cV_eq (b' := (cThis h wtr (.ref q5) (.ref q6) :: (q5, .inl (T2 3, 4, .inr (.inr (.inr (.inr (fun j => some (u2 7 mk j))))))) :: (rowIds mk 4).map (cC u2 T2)) ++ ((q6, .inl (T2 4, 14, .inr (.inr (.inr (.inr (cCn u2 mk 14)))))) :: (canIds mk 14).map (cC u2 T2))) (by simp only [List.cons_append, List.nil_append]) ?_
  refine cV_cell (y := (T2 4, 14, .inr (.inr (.inr (.inr (fun j => some (u2 9 mk j))))))) (vp_q_ext (fun j hj => if_pos hj)) ?_
  refine cV_vret (pc := 80) F dX1_init_80 rfl (fun kd a k => if kd = 4 then h else if kd = 1 then wtr else if kd = 5 then q5 else if kd = 6 then q6 else u2 kd a k) ⟨rfl, rfl⟩ (congrArg (w0 ++ ·) ?_)
  show (mktIds mk).map (cC (fun kd a k => if kd = 4 then h else if kd = 1 then wtr else if kd = 5 then q5 else if kd = 6 then q6 else u2 kd a k) T2) = _
  unfold mktIds
  rw [List.map_cons, List.map_cons, List.map_append, List.map_cons, rows_map (v := u2) (fun k _ => ⟨rfl, rfl⟩), cans_map (v := u2) (fun k _ => ⟨rfl, rfl, rfl, rfl, rfl⟩)]
  rfl

set_option maxHeartbeats 4000000 in
set_option maxRecDepth 100000 in
theorem c_X4_init (l : Launch) (D : va_G) (T2 : Nat → ClassId) (A : Nat → Prop) {w w0 : va_W} {h : Nat} (hw9 : w = w0 ++ [(h, .inr (4, [.null, .null, .null]))]) : cMv l D T2 A yX4_init wsX4_init (fmRm 3 165 1074) 165 1074 [.ref h] w (fun u : cAd => u 0 0 0 = h) (fun u : cAd => w0 ++ clsIds.map (cC u T2)) := by
  refine cMv_of (cc := cX4_init) (maxL := 1) (ret := none) hw9 (by decide +kernel) rfl (Nat.le_of_ble_eq_true rfl) ?_
  intro P_ E_ S_ M_ args_ below_ meth_ C_ F hnm
  have hin2 : meth_.name = "<init>" := hnm
  have hin_X3 : ∀ w ∈ wsX30, w ∈ wsX4_init := (fun _ h => List.mem_cons_of_mem _ (List.mem_append_left _ (List.mem_append_left _ (List.mem_append_left _ (List.mem_append_left _ (List.mem_append_right _ h))))))
  have hin_X4 : ∀ w ∈ wsX40, w ∈ wsX4_init := (fun _ h => List.mem_cons_of_mem _ (List.mem_append_left _ (List.mem_append_left _ (List.mem_append_left _ (List.mem_append_right _ h)))))
  have hin_X1 : ∀ w ∈ wsX10, w ∈ wsX4_init := (fun _ h => List.mem_cons_of_mem _ (List.mem_append_left _ (List.mem_append_left _ (List.mem_append_right _ h))))
  have hin_X2 : ∀ w ∈ wsX20, w ∈ wsX4_init := (fun _ h => List.mem_cons_of_mem _ (List.mem_append_left _ (List.mem_append_right _ h)))
  have hin_X0 : ∀ w ∈ wsX00, w ∈ wsX4_init := (fun _ h => List.mem_cons_of_mem _ (List.mem_append_right _ h))
  refine cV_aload_n (pc := 0) (i := 0) F dX4_init_0 rfl rfl ?_
  refine cV_objInit (pc := 1) F dX4_init_1 (List.mem_of_getElem? (i := 1) rfl) (List.mem_of_getElem? (i := 2) rfl) (List.mem_of_getElem? (i := 3) rfl) (Nat.le_of_ble_eq_true rfl) (Nat.le_of_ble_eq_true rfl) ?_
  refine cV_aload_n (pc := 4) (i := 0) F dX4_init_4 rfl rfl ?_
  refine cV_new (pc := 5) (ci := 3) (fs := [.null, .null]) F rfl hin_X3 tyX3 tyX3_ok (List.mem_of_getElem? (i := 4) rfl) (List.mem_of_getElem? (i := 5) rfl) (List.mem_of_getElem? (i := 6) rfl) (fun j hj => by rcases (show j = 0 ∨ j = 1 by omega) with rfl | rfl <;> rfl) (Nat.le_of_ble_eq_true rfl) (Nat.le_of_ble_eq_true rfl) dX4_init_5 (fun q1 => ?_)
  refine cV_eq (b' := ((h, .inr (4, [.null, .null, .null])) :: []) ++ [(q1, .inr (3, [.null, .null]))]) rfl ?_
  refine cV_dup (pc := 8) F dX4_init_8 rfl ?_
  refine cV_ctor (n := 0) (a0 := q1) (As := []) (pc := 9) F (c_X3_init l D T2 A (w0 := w0 ++ ((h, .inr (4, [.null, .null, .null])) :: [])) (h := q1) (List.append_assoc w0 ((h, .inr (4, [.null, .null, .null])) :: []) [(q1, .inr (3, [.null, .null]))]).symm) gX4_init_X3_init rfl rfl rfl (List.mem_of_getElem? (i := 6) rfl) (List.mem_of_getElem? (i := 13) rfl) (List.mem_of_getElem? (i := 14) rfl) rfl (by decide +kernel) ⟨Nat.le_of_ble_eq_true rfl, Nat.le_of_ble_eq_true rfl⟩ rfl rfl (Nat.le_of_ble_eq_true rfl) dX4_init_9 ⟨(Nat.le_of_ble_eq_true rfl), (Nat.le_of_ble_eq_true rfl)⟩ (bf := fun v => ((h, .inr (4, [.null, .null, .null])) :: []) ++ watIds.map (cC v T2)) (fun _ => List.append_assoc _ _ _) (fun v hv => ?_)
  subst hv
  refine cV_eq (b' := ((h, .inr (4, [.null, .null, .null])) :: (watIds.map (cC v T2)))) rfl ?_
  refine cV_putF (pc := 12) (a := h) (ci := 4) (fs := [.null, .null, .null]) (v := .ref (v 1 0 0)) (b1 := []) (b2 := (watIds.map (cC v T2))) F rfl hin_X4 tyX4 tyX4_ok nmX4 0 (by decide) (Nat.le_of_ble_eq_true rfl) rfl hin2 rfl rfl rfl dX4_init_12 (List.mem_of_getElem? (i := 7) rfl) ?_
  refine cV_eq (b' := ((h, .inr (4, [.ref (v 1 0 0), .null, .null])) :: (watIds.map (cC v T2)))) rfl ?_
  refine cV_aload_n (pc := 15) (i := 0) F dX4_init_15 rfl rfl ?_
  refine cV_new (pc := 16) (ci := 1) (fs := [.null, .null, .null, .int 0, .int 0, .int 0, .int 0, .int 0, .int 0, .int 0]) F rfl hin_X1 tyX1 tyX1_ok (List.mem_of_getElem? (i := 8) rfl) (List.mem_of_getElem? (i := 9) rfl) (List.mem_of_getElem? (i := 10) rfl) (fun j hj => by rcases (show j = 0 ∨ j = 1 ∨ j = 2 ∨ j = 3 ∨ j = 4 ∨ j = 5 ∨ j = 6 ∨ j = 7 ∨ j = 8 ∨ j = 9 by omega) with rfl | rfl | rfl | rfl | rfl | rfl | rfl | rfl | rfl | rfl <;> rfl) (Nat.le_of_ble_eq_true rfl) (Nat.le_of_ble_eq_true rfl) dX4_init_16 (fun q2 => ?_)
  refine cV_dup (pc := 19) F dX4_init_19 rfl ?_
  refine cV_aload_n (pc := 20) (i := 0) F dX4_init_20 rfl rfl ?_
  refine cV_eq (b' := [] ++ (h, .inr (4, [.ref (v 1 0 0), .null, .null])) :: ((watIds.map (cC v T2)) ++ [(q2, .inr (1, [.null, .null, .null, .int 0, .int 0, .int 0, .int 0, .int 0, .int 0, .int 0]))])) rfl ?_
  refine cV_get (pc := 21) (a := h) (ci := 4) (fs := [.ref (v 1 0 0), .null, .null]) (b1 := []) (b2 := ((watIds.map (cC v T2)) ++ [(q2, .inr (1, [.null, .null, .null, .int 0, .int 0, .int 0, .int 0, .int 0, .int 0, .int 0]))])) F rfl hin_X4 0 (by decide) rfl dX4_init_21 (List.mem_of_getElem? (i := 7) rfl) ?_
  refine cV_eq (b' := ((h, .inr (4, [.ref (v 1 0 0), .null, .null])) :: (watIds.map (cC v T2))) ++ [(q2, .inr (1, [.null, .null, .null, .int 0, .int 0, .int 0, .int 0, .int 0, .int 0, .int 0]))]) rfl ?_
  refine cV_ctor (n := 1) (a0 := q2) (As := [.ref (v 1 0 0)]) (pc := 24) F (c_X1_init l D T2 A (w0 := w0 ++ ((h, .inr (4, [.ref (v 1 0 0), .null, .null])) :: (watIds.map (cC v T2)))) (h := q2) (wtr := v 1 0 0) 0 (List.append_assoc w0 ((h, .inr (4, [.ref (v 1 0 0), .null, .null])) :: (watIds.map (cC v T2))) [(q2, .inr (1, [.null, .null, .null, .int 0, .int 0, .int 0, .int 0, .int 0, .int 0, .int 0]))]).symm) gX4_init_X1_init rfl rfl rfl (List.mem_of_getElem? (i := 10) rfl) (List.mem_of_getElem? (i := 24) rfl) (List.mem_of_getElem? (i := 25) rfl) rfl (by decide +kernel) ⟨Nat.le_of_ble_eq_true rfl, Nat.le_of_ble_eq_true rfl⟩ rfl rfl (Nat.le_of_ble_eq_true rfl) dX4_init_24 ⟨(Nat.le_of_ble_eq_true rfl), (Nat.le_of_ble_eq_true rfl)⟩ (bf := fun v0 => ((h, .inr (4, [.ref (v 1 0 0), .null, .null])) :: (watIds.map (cC v T2))) ++ (mktIds 0).map (cC v0 T2)) (fun _ => List.append_assoc _ _ _) (fun v0 hv0 => ?_)
  obtain ⟨hq, hw0⟩ := hv0
  subst hq
  refine cV_eq (b' := ((h, .inr (4, [.ref (v 1 0 0), .null, .null])) :: ((watIds.map (cC v T2)) ++ (mktIds 0).map (cC v0 T2)))) rfl ?_
  refine cV_putF (pc := 27) (a := h) (ci := 4) (fs := [.ref (v 1 0 0), .null, .null]) (v := .ref (v0 4 0 0)) (b1 := []) (b2 := ((watIds.map (cC v T2)) ++ (mktIds 0).map (cC v0 T2))) F rfl hin_X4 tyX4 tyX4_ok nmX4 1 (by decide) (Nat.le_of_ble_eq_true rfl) rfl hin2 rfl rfl rfl dX4_init_27 (List.mem_of_getElem? (i := 11) rfl) ?_
  refine cV_eq (b' := ((h, .inr (4, [.ref (v 1 0 0), .ref (v0 4 0 0), .null])) :: ((watIds.map (cC v T2)) ++ (mktIds 0).map (cC v0 T2)))) rfl ?_
  refine cV_aload_n (pc := 30) (i := 0) F dX4_init_30 rfl rfl ?_
  refine cV_new (pc := 31) (ci := 1) (fs := [.null, .null, .null, .int 0, .int 0, .int 0, .int 0, .int 0, .int 0, .int 0]) F rfl hin_X1 tyX1 tyX1_ok (List.mem_of_getElem? (i := 8) rfl) (List.mem_of_getElem? (i := 9) rfl) (List.mem_of_getElem? (i := 10) rfl) (fun j hj => by rcases (show j = 0 ∨ j = 1 ∨ j = 2 ∨ j = 3 ∨ j = 4 ∨ j = 5 ∨ j = 6 ∨ j = 7 ∨ j = 8 ∨ j = 9 by omega) with rfl | rfl | rfl | rfl | rfl | rfl | rfl | rfl | rfl | rfl <;> rfl) (Nat.le_of_ble_eq_true rfl) (Nat.le_of_ble_eq_true rfl) dX4_init_31 (fun q3 => ?_)
  refine cV_dup (pc := 34) F dX4_init_34 rfl ?_
  refine cV_aload_n (pc := 35) (i := 0) F dX4_init_35 rfl rfl ?_
  refine cV_eq (b' := [] ++ (h, .inr (4, [.ref (v 1 0 0), .ref (v0 4 0 0), .null])) :: (((watIds.map (cC v T2)) ++ (mktIds 0).map (cC v0 T2)) ++ [(q3, .inr (1, [.null, .null, .null, .int 0, .int 0, .int 0, .int 0, .int 0, .int 0, .int 0]))])) rfl ?_
  refine cV_get (pc := 36) (a := h) (ci := 4) (fs := [.ref (v 1 0 0), .ref (v0 4 0 0), .null]) (b1 := []) (b2 := (((watIds.map (cC v T2)) ++ (mktIds 0).map (cC v0 T2)) ++ [(q3, .inr (1, [.null, .null, .null, .int 0, .int 0, .int 0, .int 0, .int 0, .int 0, .int 0]))])) F rfl hin_X4 0 (by decide) rfl dX4_init_36 (List.mem_of_getElem? (i := 7) rfl) ?_
  refine cV_eq (b' := ((h, .inr (4, [.ref (v 1 0 0), .ref (v0 4 0 0), .null])) :: ((watIds.map (cC v T2)) ++ (mktIds 0).map (cC v0 T2))) ++ [(q3, .inr (1, [.null, .null, .null, .int 0, .int 0, .int 0, .int 0, .int 0, .int 0, .int 0]))]) rfl ?_
  refine cV_ctor (n := 1) (a0 := q3) (As := [.ref (v 1 0 0)]) (pc := 39) F (c_X1_init l D T2 A (w0 := w0 ++ ((h, .inr (4, [.ref (v 1 0 0), .ref (v0 4 0 0), .null])) :: ((watIds.map (cC v T2)) ++ (mktIds 0).map (cC v0 T2)))) (h := q3) (wtr := v 1 0 0) 1 (List.append_assoc w0 ((h, .inr (4, [.ref (v 1 0 0), .ref (v0 4 0 0), .null])) :: ((watIds.map (cC v T2)) ++ (mktIds 0).map (cC v0 T2))) [(q3, .inr (1, [.null, .null, .null, .int 0, .int 0, .int 0, .int 0, .int 0, .int 0, .int 0]))]).symm) gX4_init_X1_init rfl rfl rfl (List.mem_of_getElem? (i := 10) rfl) (List.mem_of_getElem? (i := 24) rfl) (List.mem_of_getElem? (i := 25) rfl) rfl (by decide +kernel) ⟨Nat.le_of_ble_eq_true rfl, Nat.le_of_ble_eq_true rfl⟩ rfl rfl (Nat.le_of_ble_eq_true rfl) dX4_init_39 ⟨(Nat.le_of_ble_eq_true rfl), (Nat.le_of_ble_eq_true rfl)⟩ (bf := fun v1 => ((h, .inr (4, [.ref (v 1 0 0), .ref (v0 4 0 0), .null])) :: ((watIds.map (cC v T2)) ++ (mktIds 0).map (cC v0 T2))) ++ (mktIds 1).map (cC v1 T2)) (fun _ => List.append_assoc _ _ _) (fun v1 hv1 => ?_)
  obtain ⟨hq, hw1⟩ := hv1
  subst hq
  refine cV_eq (b' := ((h, .inr (4, [.ref (v 1 0 0), .ref (v0 4 0 0), .null])) :: (((watIds.map (cC v T2)) ++ (mktIds 0).map (cC v0 T2)) ++ (mktIds 1).map (cC v1 T2)))) rfl ?_
  refine cV_putF (pc := 42) (a := h) (ci := 4) (fs := [.ref (v 1 0 0), .ref (v0 4 0 0), .null]) (v := .ref (v1 4 1 0)) (b1 := []) (b2 := (((watIds.map (cC v T2)) ++ (mktIds 0).map (cC v0 T2)) ++ (mktIds 1).map (cC v1 T2))) F rfl hin_X4 tyX4 tyX4_ok nmX4 2 (by decide) (Nat.le_of_ble_eq_true rfl) rfl hin2 rfl rfl rfl dX4_init_42 (List.mem_of_getElem? (i := 12) rfl) ?_
  refine cV_eq (b' := ((h, .inr (4, [.ref (v 1 0 0), .ref (v0 4 0 0), .ref (v1 4 1 0)])) :: (((watIds.map (cC v T2)) ++ (mktIds 0).map (cC v0 T2)) ++ (mktIds 1).map (cC v1 T2)))) rfl ?_
  refine cV_widen (k := 165) (n := 1074) (Nat.le_of_ble_eq_true rfl) (Nat.le_of_ble_eq_true rfl) ?_
  refine cV_vret (pc := 45) F dX4_init_45 rfl (fun kd a k => if kd = 0 then h else if kd ≤ 3 then v kd a k else if a = 0 then v0 kd a k else v1 kd a k) rfl (congrArg (w0 ++ ·) ?_)
  show clsIds.map (cC (fun kd a k => if kd = 0 then h else if kd ≤ 3 then v kd a k else if a = 0 then v0 kd a k else v1 kd a k) T2) = _
  unfold clsIds
  rw [List.map_cons, List.map_append, List.map_append, mkt_map (u := (fun kd a k => if kd = 0 then h else if kd ≤ 3 then v kd a k else if a = 0 then v0 kd a k else v1 kd a k)) (v := v0) (m := 0) (fun kd k hk => by rw [if_neg (by omega), if_neg (by omega), if_pos rfl]) hw0.symm, mkt_map (u := (fun kd a k => if kd = 0 then h else if kd ≤ 3 then v kd a k else if a = 0 then v0 kd a k else v1 kd a k)) (v := v1) (m := 1) (fun kd k hk => by rw [if_neg (by omega), if_neg (by omega), if_neg (by decide)]) hw1.symm, List.append_assoc]
  rfl

set_option maxHeartbeats 4000000 in
set_option maxRecDepth 100000 in
theorem c_X6_tide {p : Program} {l : Launch} {e : Env} {s : State} {m : MethodId} {args : Array Value} {below : List Frame} {meth : Method} {c : Code} {D : va_G} {A : Nat → Prop} {T2 : Nat → ClassId} {w0 : va_W} {Q : State → Prop} {cells slots : Nat} {h q1 q2 : Nat} {fs : List Value} {b2 : va_W} (F : cFx p s m args meth c D A T2 yX6_init.cls cX6_init 2 none wsX6_init) (hin_X6 : ∀ w ∈ wsX60, w ∈ wsX6_init) (hfs : fs[3]? = some (.ref q2)) (exit : cV p l e (fmRm 2 30 640) s m args below meth c D A w0 2 Q ([(h, .inr (6, fs)), (q1, .inl (T2 0, 4, .inl (fun _ => 0)))] ++ (q2, .inl (T2 0, 24, .inl (fun q => if q < 24 then 9 else 0))) :: b2) cells slots [(0, .ref h), (1, .int (nI 24))] [] 113) : ∀ n j, j + n = 24 → cV p l e (fmRm 2 30 640) s m args below meth c D A w0 2 Q ([(h, .inr (6, fs)), (q1, .inl (T2 0, 4, .inl (fun _ => 0)))] ++ (q2, .inl (T2 0, 24, .inl (fun q => if q < j then 9 else 0))) :: b2) cells slots [(0, .ref h), (1, .int (nI j))] [] 93 := by
  intro n
  induction n with
  | zero =>
    intro j hj
    have ej : j = 24 := by omega
    subst ej
    refine cV_iload_n (pc := 93) (i := 1) F dX6_init_93 rfl rfl ?_
    refine cV_bipush (pc := 94) (v := 24) F dX6_init_94 (by decide) ?_
    refine cV_icmp_ge (pc := 96) (tgt := 113) F dX6_init_96 (by decide) (fun h9 => ?_) (fun h9 => ?_)
    · exact exit
    · exact absurd (nI_le (Nat.le_refl 24) (by decide)) h9
  | succ n ih =>
    intro j hj
    refine cV_iload_n (pc := 93) (i := 1) F dX6_init_93 rfl rfl ?_
    refine cV_bipush (pc := 94) (v := 24) F dX6_init_94 (by decide) ?_
    refine cV_icmp_ge (pc := 96) (tgt := 113) F dX6_init_96 (by decide) (fun h9 => ?_) (fun h9 => ?_)
    · exact absurd h9 (nI_ge (b := 24) (by omega) (by decide))
    · skip
      refine cV_aload_n (pc := 99) (i := 0) F dX6_init_99 rfl rfl ?_
      refine cV_eq (b' := [] ++ (h, .inr (6, fs)) :: ((q1, .inl (T2 0, 4, .inl (fun _ => 0))) :: (q2, .inl (T2 0, 24, .inl (fun q => if q < j then 9 else 0))) :: b2)) rfl ?_
      refine cV_get (pc := 100) (b1 := []) (b2 := ((q1, .inl (T2 0, 4, .inl (fun _ => 0))) :: (q2, .inl (T2 0, 24, .inl (fun q => if q < j then 9 else 0))) :: b2)) F rfl hin_X6 3 (by decide) hfs dX6_init_100 (List.mem_of_getElem? (i := 6) rfl) ?_
      refine cV_iload_n (pc := 103) (i := 1) F dX6_init_103 rfl rfl ?_
      refine cV_bipush (pc := 104) (v := 9) F dX6_init_104 (by decide) ?_
      refine cV_eq (b' := ([(h, .inr (6, fs)), (q1, .inl (T2 0, 4, .inl (fun _ => 0)))] ++ (q2, .inl (T2 0, 24, .inl (fun q => if q < j then 9 else 0))) :: b2)) rfl ?_
      refine cV_iast (i0 := j) (pc := 106) F (vp_in_nI (by omega) (by decide)) (fm_cn (by omega)) dX6_init_106 ?_
      refine cV_iinc (pc := 107) (i := 1) (v := nI (j + 1)) F dX6_init_107 rfl (nI_1 j) (by decide) ?_
      refine cV_goto (pc := 110) (tgt := 93) F dX6_init_110 (by decide) ?_
      refine cV_lv (lv' := [(0, .ref h), (1, .int (nI (j + 1)))]) ⟨rfl, rfl, trivial⟩ ?_
      refine cV_eq ?_ (ih (j + 1) (by omega))
      rw [fill_s 9 (fun _ => 0)]

set_option maxHeartbeats 4000000 in
set_option maxRecDepth 100000 in
theorem c_X6_init (l : Launch) (D : va_G) (T2 : Nat → ClassId) (A : Nat → Prop) {w w0 : va_W} {h : Nat} (hw9 : w = w0 ++ [(h, .inr (6, [.int 0, .int 0, .null, .null, .null, .int 0, .null, .null, .null, .null, .null, .null, .null]))]) : cMv l D T2 A yX6_init wsX6_init (fmRm 2 30 640) 30 640 [.ref h] w (fun u : cAd => u 14 0 0 = h) (fun u : cAd => w0 ++ mdlIds.map (cC u T2)) := by
  refine cMv_of (cc := cX6_init) (maxL := 2) (ret := none) hw9 (by decide +kernel) rfl (Nat.le_of_ble_eq_true rfl) ?_
  intro P_ E_ S_ M_ args_ below_ meth_ C_ F hnm
  have hin2 : meth_.name = "<init>" := hnm
  have hin_X6 : ∀ w ∈ wsX60, w ∈ wsX6_init := (fun _ h => List.mem_cons_of_mem _ (List.mem_append_left _ (List.mem_append_right _ h)))
  have hin_X5 : ∀ w ∈ wsX50, w ∈ wsX6_init := (fun _ h => List.mem_cons_of_mem _ (List.mem_append_right _ h))
  refine cV_aload_n (pc := 0) (i := 0) F dX6_init_0 rfl rfl ?_
  refine cV_objInit (pc := 1) F dX6_init_1 (List.mem_of_getElem? (i := 1) rfl) (List.mem_of_getElem? (i := 2) rfl) (List.mem_of_getElem? (i := 3) rfl) (Nat.le_of_ble_eq_true rfl) (Nat.le_of_ble_eq_true rfl) ?_
  refine cV_aload_n (pc := 4) (i := 0) F dX6_init_4 rfl rfl ?_
  refine cV_iconst (pc := 5) (v := 4) F dX6_init_5 rfl ?_
  refine cV_newa_int (n := 4) (pc := 6) F rfl (List.mem_of_getElem? (i := 4) rfl) (by decide) (by decide) (Nat.le_of_ble_eq_true rfl) (Nat.le_of_ble_eq_true rfl) (Nat.le_of_ble_eq_true rfl) dX6_init_6 (fun q1 => ?_)
  refine cV_eq (b' := ((h, .inr (6, [.int 0, .int 0, .null, .null, .null, .int 0, .null, .null, .null, .null, .null, .null, .null])) :: [(q1, .inl (T2 0, 4, .inl (fun _ => 0)))])) rfl ?_
  refine cV_putF (pc := 8) (a := h) (ci := 6) (fs := [.int 0, .int 0, .null, .null, .null, .int 0, .null, .null, .null, .null, .null, .null, .null]) (v := .ref q1) (b1 := []) (b2 := [(q1, .inl (T2 0, 4, .inl (fun _ => 0)))]) F rfl hin_X6 tyX6 tyX6_ok nmX6 2 (by decide) (Nat.le_of_ble_eq_true rfl) rfl hin2 rfl rfl rfl dX6_init_8 (List.mem_of_getElem? (i := 5) rfl) ?_
  refine cV_eq (b' := ((h, .inr (6, [.int 0, .int 0, .ref q1, .null, .null, .int 0, .null, .null, .null, .null, .null, .null, .null])) :: [(q1, .inl (T2 0, 4, .inl (fun _ => 0)))])) rfl ?_
  refine cV_aload_n (pc := 11) (i := 0) F dX6_init_11 rfl rfl ?_
  refine cV_bipush (pc := 12) (v := 24) F dX6_init_12 (by decide) ?_
  refine cV_newa_int (n := 24) (pc := 14) F rfl (List.mem_of_getElem? (i := 4) rfl) (by decide) (by decide) (Nat.le_of_ble_eq_true rfl) (Nat.le_of_ble_eq_true rfl) (Nat.le_of_ble_eq_true rfl) dX6_init_14 (fun q2 => ?_)
  refine cV_eq (b' := ((h, .inr (6, [.int 0, .int 0, .ref q1, .null, .null, .int 0, .null, .null, .null, .null, .null, .null, .null])) :: [(q1, .inl (T2 0, 4, .inl (fun _ => 0))), (q2, .inl (T2 0, 24, .inl (fun _ => 0)))])) rfl ?_
  refine cV_putF (pc := 16) (a := h) (ci := 6) (fs := [.int 0, .int 0, .ref q1, .null, .null, .int 0, .null, .null, .null, .null, .null, .null, .null]) (v := .ref q2) (b1 := []) (b2 := [(q1, .inl (T2 0, 4, .inl (fun _ => 0))), (q2, .inl (T2 0, 24, .inl (fun _ => 0)))]) F rfl hin_X6 tyX6 tyX6_ok nmX6 3 (by decide) (Nat.le_of_ble_eq_true rfl) rfl hin2 rfl rfl rfl dX6_init_16 (List.mem_of_getElem? (i := 6) rfl) ?_
  refine cV_eq (b' := ((h, .inr (6, [.int 0, .int 0, .ref q1, .ref q2, .null, .int 0, .null, .null, .null, .null, .null, .null, .null])) :: [(q1, .inl (T2 0, 4, .inl (fun _ => 0))), (q2, .inl (T2 0, 24, .inl (fun _ => 0)))])) rfl ?_
  refine cV_aload_n (pc := 19) (i := 0) F dX6_init_19 rfl rfl ?_
  refine cV_bipush (pc := 20) (v := 24) F dX6_init_20 (by decide) ?_
  refine cV_newa_int (n := 24) (pc := 22) F rfl (List.mem_of_getElem? (i := 4) rfl) (by decide) (by decide) (Nat.le_of_ble_eq_true rfl) (Nat.le_of_ble_eq_true rfl) (Nat.le_of_ble_eq_true rfl) dX6_init_22 (fun q3 => ?_)
  refine cV_eq (b' := ((h, .inr (6, [.int 0, .int 0, .ref q1, .ref q2, .null, .int 0, .null, .null, .null, .null, .null, .null, .null])) :: [(q1, .inl (T2 0, 4, .inl (fun _ => 0))), (q2, .inl (T2 0, 24, .inl (fun _ => 0))), (q3, .inl (T2 0, 24, .inl (fun _ => 0)))])) rfl ?_
  refine cV_putF (pc := 24) (a := h) (ci := 6) (fs := [.int 0, .int 0, .ref q1, .ref q2, .null, .int 0, .null, .null, .null, .null, .null, .null, .null]) (v := .ref q3) (b1 := []) (b2 := [(q1, .inl (T2 0, 4, .inl (fun _ => 0))), (q2, .inl (T2 0, 24, .inl (fun _ => 0))), (q3, .inl (T2 0, 24, .inl (fun _ => 0)))]) F rfl hin_X6 tyX6 tyX6_ok nmX6 4 (by decide) (Nat.le_of_ble_eq_true rfl) rfl hin2 rfl rfl rfl dX6_init_24 (List.mem_of_getElem? (i := 7) rfl) ?_
  refine cV_eq (b' := ((h, .inr (6, [.int 0, .int 0, .ref q1, .ref q2, .ref q3, .int 0, .null, .null, .null, .null, .null, .null, .null])) :: [(q1, .inl (T2 0, 4, .inl (fun _ => 0))), (q2, .inl (T2 0, 24, .inl (fun _ => 0))), (q3, .inl (T2 0, 24, .inl (fun _ => 0)))])) rfl ?_
  refine cV_aload_n (pc := 27) (i := 0) F dX6_init_27 rfl rfl ?_
  refine cV_bipush (pc := 28) (v := 14) F dX6_init_28 (by decide) ?_
  refine cV_newa_int (n := 14) (pc := 30) F rfl (List.mem_of_getElem? (i := 4) rfl) (by decide) (by decide) (Nat.le_of_ble_eq_true rfl) (Nat.le_of_ble_eq_true rfl) (Nat.le_of_ble_eq_true rfl) dX6_init_30 (fun q4 => ?_)
  refine cV_eq (b' := ((h, .inr (6, [.int 0, .int 0, .ref q1, .ref q2, .ref q3, .int 0, .null, .null, .null, .null, .null, .null, .null])) :: [(q1, .inl (T2 0, 4, .inl (fun _ => 0))), (q2, .inl (T2 0, 24, .inl (fun _ => 0))), (q3, .inl (T2 0, 24, .inl (fun _ => 0))), (q4, .inl (T2 0, 14, .inl (fun _ => 0)))])) rfl ?_
  refine cV_putF (pc := 32) (a := h) (ci := 6) (fs := [.int 0, .int 0, .ref q1, .ref q2, .ref q3, .int 0, .null, .null, .null, .null, .null, .null, .null]) (v := .ref q4) (b1 := []) (b2 := [(q1, .inl (T2 0, 4, .inl (fun _ => 0))), (q2, .inl (T2 0, 24, .inl (fun _ => 0))), (q3, .inl (T2 0, 24, .inl (fun _ => 0))), (q4, .inl (T2 0, 14, .inl (fun _ => 0)))]) F rfl hin_X6 tyX6 tyX6_ok nmX6 6 (by decide) (Nat.le_of_ble_eq_true rfl) rfl hin2 rfl rfl rfl dX6_init_32 (List.mem_of_getElem? (i := 8) rfl) ?_
  refine cV_eq (b' := ((h, .inr (6, [.int 0, .int 0, .ref q1, .ref q2, .ref q3, .int 0, .ref q4, .null, .null, .null, .null, .null, .null])) :: [(q1, .inl (T2 0, 4, .inl (fun _ => 0))), (q2, .inl (T2 0, 24, .inl (fun _ => 0))), (q3, .inl (T2 0, 24, .inl (fun _ => 0))), (q4, .inl (T2 0, 14, .inl (fun _ => 0)))])) rfl ?_
  refine cV_aload_n (pc := 35) (i := 0) F dX6_init_35 rfl rfl ?_
  refine cV_bipush (pc := 36) (v := 56) F dX6_init_36 (by decide) ?_
  refine cV_newa_int (n := 56) (pc := 38) F rfl (List.mem_of_getElem? (i := 4) rfl) (by decide) (by decide) (Nat.le_of_ble_eq_true rfl) (Nat.le_of_ble_eq_true rfl) (Nat.le_of_ble_eq_true rfl) dX6_init_38 (fun q5 => ?_)
  refine cV_eq (b' := ((h, .inr (6, [.int 0, .int 0, .ref q1, .ref q2, .ref q3, .int 0, .ref q4, .null, .null, .null, .null, .null, .null])) :: [(q1, .inl (T2 0, 4, .inl (fun _ => 0))), (q2, .inl (T2 0, 24, .inl (fun _ => 0))), (q3, .inl (T2 0, 24, .inl (fun _ => 0))), (q4, .inl (T2 0, 14, .inl (fun _ => 0))), (q5, .inl (T2 0, 56, .inl (fun _ => 0)))])) rfl ?_
  refine cV_putF (pc := 40) (a := h) (ci := 6) (fs := [.int 0, .int 0, .ref q1, .ref q2, .ref q3, .int 0, .ref q4, .null, .null, .null, .null, .null, .null]) (v := .ref q5) (b1 := []) (b2 := [(q1, .inl (T2 0, 4, .inl (fun _ => 0))), (q2, .inl (T2 0, 24, .inl (fun _ => 0))), (q3, .inl (T2 0, 24, .inl (fun _ => 0))), (q4, .inl (T2 0, 14, .inl (fun _ => 0))), (q5, .inl (T2 0, 56, .inl (fun _ => 0)))]) F rfl hin_X6 tyX6 tyX6_ok nmX6 7 (by decide) (Nat.le_of_ble_eq_true rfl) rfl hin2 rfl rfl rfl dX6_init_40 (List.mem_of_getElem? (i := 9) rfl) ?_
  refine cV_eq (b' := ((h, .inr (6, [.int 0, .int 0, .ref q1, .ref q2, .ref q3, .int 0, .ref q4, .ref q5, .null, .null, .null, .null, .null])) :: [(q1, .inl (T2 0, 4, .inl (fun _ => 0))), (q2, .inl (T2 0, 24, .inl (fun _ => 0))), (q3, .inl (T2 0, 24, .inl (fun _ => 0))), (q4, .inl (T2 0, 14, .inl (fun _ => 0))), (q5, .inl (T2 0, 56, .inl (fun _ => 0)))])) rfl ?_
  refine cV_aload_n (pc := 43) (i := 0) F dX6_init_43 rfl rfl ?_
  refine cV_bipush (pc := 44) (v := 56) F dX6_init_44 (by decide) ?_
  refine cV_newa_int (n := 56) (pc := 46) F rfl (List.mem_of_getElem? (i := 4) rfl) (by decide) (by decide) (Nat.le_of_ble_eq_true rfl) (Nat.le_of_ble_eq_true rfl) (Nat.le_of_ble_eq_true rfl) dX6_init_46 (fun q6 => ?_)
  refine cV_eq (b' := ((h, .inr (6, [.int 0, .int 0, .ref q1, .ref q2, .ref q3, .int 0, .ref q4, .ref q5, .null, .null, .null, .null, .null])) :: [(q1, .inl (T2 0, 4, .inl (fun _ => 0))), (q2, .inl (T2 0, 24, .inl (fun _ => 0))), (q3, .inl (T2 0, 24, .inl (fun _ => 0))), (q4, .inl (T2 0, 14, .inl (fun _ => 0))), (q5, .inl (T2 0, 56, .inl (fun _ => 0))), (q6, .inl (T2 0, 56, .inl (fun _ => 0)))])) rfl ?_
  refine cV_putF (pc := 48) (a := h) (ci := 6) (fs := [.int 0, .int 0, .ref q1, .ref q2, .ref q3, .int 0, .ref q4, .ref q5, .null, .null, .null, .null, .null]) (v := .ref q6) (b1 := []) (b2 := [(q1, .inl (T2 0, 4, .inl (fun _ => 0))), (q2, .inl (T2 0, 24, .inl (fun _ => 0))), (q3, .inl (T2 0, 24, .inl (fun _ => 0))), (q4, .inl (T2 0, 14, .inl (fun _ => 0))), (q5, .inl (T2 0, 56, .inl (fun _ => 0))), (q6, .inl (T2 0, 56, .inl (fun _ => 0)))]) F rfl hin_X6 tyX6 tyX6_ok nmX6 8 (by decide) (Nat.le_of_ble_eq_true rfl) rfl hin2 rfl rfl rfl dX6_init_48 (List.mem_of_getElem? (i := 10) rfl) ?_
  refine cV_eq (b' := ((h, .inr (6, [.int 0, .int 0, .ref q1, .ref q2, .ref q3, .int 0, .ref q4, .ref q5, .ref q6, .null, .null, .null, .null])) :: [(q1, .inl (T2 0, 4, .inl (fun _ => 0))), (q2, .inl (T2 0, 24, .inl (fun _ => 0))), (q3, .inl (T2 0, 24, .inl (fun _ => 0))), (q4, .inl (T2 0, 14, .inl (fun _ => 0))), (q5, .inl (T2 0, 56, .inl (fun _ => 0))), (q6, .inl (T2 0, 56, .inl (fun _ => 0)))])) rfl ?_
  refine cV_aload_n (pc := 51) (i := 0) F dX6_init_51 rfl rfl ?_
  refine cV_bipush (pc := 52) (v := 56) F dX6_init_52 (by decide) ?_
  refine cV_newa_int (n := 56) (pc := 54) F rfl (List.mem_of_getElem? (i := 4) rfl) (by decide) (by decide) (Nat.le_of_ble_eq_true rfl) (Nat.le_of_ble_eq_true rfl) (Nat.le_of_ble_eq_true rfl) dX6_init_54 (fun q7 => ?_)
  refine cV_eq (b' := ((h, .inr (6, [.int 0, .int 0, .ref q1, .ref q2, .ref q3, .int 0, .ref q4, .ref q5, .ref q6, .null, .null, .null, .null])) :: [(q1, .inl (T2 0, 4, .inl (fun _ => 0))), (q2, .inl (T2 0, 24, .inl (fun _ => 0))), (q3, .inl (T2 0, 24, .inl (fun _ => 0))), (q4, .inl (T2 0, 14, .inl (fun _ => 0))), (q5, .inl (T2 0, 56, .inl (fun _ => 0))), (q6, .inl (T2 0, 56, .inl (fun _ => 0))), (q7, .inl (T2 0, 56, .inl (fun _ => 0)))])) rfl ?_
  refine cV_putF (pc := 56) (a := h) (ci := 6) (fs := [.int 0, .int 0, .ref q1, .ref q2, .ref q3, .int 0, .ref q4, .ref q5, .ref q6, .null, .null, .null, .null]) (v := .ref q7) (b1 := []) (b2 := [(q1, .inl (T2 0, 4, .inl (fun _ => 0))), (q2, .inl (T2 0, 24, .inl (fun _ => 0))), (q3, .inl (T2 0, 24, .inl (fun _ => 0))), (q4, .inl (T2 0, 14, .inl (fun _ => 0))), (q5, .inl (T2 0, 56, .inl (fun _ => 0))), (q6, .inl (T2 0, 56, .inl (fun _ => 0))), (q7, .inl (T2 0, 56, .inl (fun _ => 0)))]) F rfl hin_X6 tyX6 tyX6_ok nmX6 9 (by decide) (Nat.le_of_ble_eq_true rfl) rfl hin2 rfl rfl rfl dX6_init_56 (List.mem_of_getElem? (i := 11) rfl) ?_
  refine cV_eq (b' := ((h, .inr (6, [.int 0, .int 0, .ref q1, .ref q2, .ref q3, .int 0, .ref q4, .ref q5, .ref q6, .ref q7, .null, .null, .null])) :: [(q1, .inl (T2 0, 4, .inl (fun _ => 0))), (q2, .inl (T2 0, 24, .inl (fun _ => 0))), (q3, .inl (T2 0, 24, .inl (fun _ => 0))), (q4, .inl (T2 0, 14, .inl (fun _ => 0))), (q5, .inl (T2 0, 56, .inl (fun _ => 0))), (q6, .inl (T2 0, 56, .inl (fun _ => 0))), (q7, .inl (T2 0, 56, .inl (fun _ => 0)))])) rfl ?_
  refine cV_aload_n (pc := 59) (i := 0) F dX6_init_59 rfl rfl ?_
  refine cV_new (pc := 60) (ci := 5) (fs := [.int 0, .int 0, .int 0, .null, .null, .null, .null, .null, .null, .null, .null, .null, .null, .null]) F rfl hin_X5 tyX5 tyX5_ok (List.mem_of_getElem? (i := 12) rfl) (List.mem_of_getElem? (i := 13) rfl) (List.mem_of_getElem? (i := 14) rfl) (fun j hj => by rcases (show j = 0 ∨ j = 1 ∨ j = 2 ∨ j = 3 ∨ j = 4 ∨ j = 5 ∨ j = 6 ∨ j = 7 ∨ j = 8 ∨ j = 9 ∨ j = 10 ∨ j = 11 ∨ j = 12 ∨ j = 13 by omega) with rfl | rfl | rfl | rfl | rfl | rfl | rfl | rfl | rfl | rfl | rfl | rfl | rfl | rfl <;> rfl) (Nat.le_of_ble_eq_true rfl) (Nat.le_of_ble_eq_true rfl) dX6_init_60 (fun p0 => ?_)
  refine cV_dup (pc := 63) F dX6_init_63 rfl ?_
  refine cV_aload_n (pc := 64) (i := 0) F dX6_init_64 rfl rfl ?_
  refine cV_ctorN (n := 1) (host := "FloatMarketModel") (a0 := p0) (As := [.ref h]) (pc := 65) F (c_X5_init l D T2 A (w0 := w0 ++ ((h, .inr (6, [.int 0, .int 0, .ref q1, .ref q2, .ref q3, .int 0, .ref q4, .ref q5, .ref q6, .ref q7, .null, .null, .null])) :: [(q1, .inl (T2 0, 4, .inl (fun _ => 0))), (q2, .inl (T2 0, 24, .inl (fun _ => 0))), (q3, .inl (T2 0, 24, .inl (fun _ => 0))), (q4, .inl (T2 0, 14, .inl (fun _ => 0))), (q5, .inl (T2 0, 56, .inl (fun _ => 0))), (q6, .inl (T2 0, 56, .inl (fun _ => 0))), (q7, .inl (T2 0, 56, .inl (fun _ => 0)))])) (h := p0) (mdl := h) (b := 0) (List.append_assoc w0 ((h, .inr (6, [.int 0, .int 0, .ref q1, .ref q2, .ref q3, .int 0, .ref q4, .ref q5, .ref q6, .ref q7, .null, .null, .null])) :: [(q1, .inl (T2 0, 4, .inl (fun _ => 0))), (q2, .inl (T2 0, 24, .inl (fun _ => 0))), (q3, .inl (T2 0, 24, .inl (fun _ => 0))), (q4, .inl (T2 0, 14, .inl (fun _ => 0))), (q5, .inl (T2 0, 56, .inl (fun _ => 0))), (q6, .inl (T2 0, 56, .inl (fun _ => 0))), (q7, .inl (T2 0, 56, .inl (fun _ => 0)))]) [(p0, .inr (5, [.int 0, .int 0, .int 0, .null, .null, .null, .null, .null, .null, .null, .null, .null, .null, .null]))]).symm) gX6_init_X5_init_n33 rfl rfl rfl (List.mem_of_getElem? (i := 14) rfl) F.2.2.2.2.2.2.2.1.2.2 (List.mem_of_getElem? (i := 19) rfl) rfl (by decide +kernel) ⟨Nat.le_of_ble_eq_true rfl, Nat.le_of_ble_eq_true rfl⟩ rfl rfl (Nat.le_of_ble_eq_true rfl) dX6_init_65 ⟨(Nat.le_of_ble_eq_true rfl), (Nat.le_of_ble_eq_true rfl)⟩ (bf := fun v0 => ((h, .inr (6, [.int 0, .int 0, .ref q1, .ref q2, .ref q3, .int 0, .ref q4, .ref q5, .ref q6, .ref q7, .null, .null, .null])) :: [(q1, .inl (T2 0, 4, .inl (fun _ => 0))), (q2, .inl (T2 0, 24, .inl (fun _ => 0))), (q3, .inl (T2 0, 24, .inl (fun _ => 0))), (q4, .inl (T2 0, 14, .inl (fun _ => 0))), (q5, .inl (T2 0, 56, .inl (fun _ => 0))), (q6, .inl (T2 0, 56, .inl (fun _ => 0))), (q7, .inl (T2 0, 56, .inl (fun _ => 0)))]) ++ (stIds 0).map (cC v0 T2)) (fun _ => List.append_assoc _ _ _) (fun v0 hv0 => ?_)
  obtain ⟨hq, hw0⟩ := hv0
  subst hq
  refine cV_eq (b' := ((h, .inr (6, [.int 0, .int 0, .ref q1, .ref q2, .ref q3, .int 0, .ref q4, .ref q5, .ref q6, .ref q7, .null, .null, .null])) :: ([(q1, .inl (T2 0, 4, .inl (fun _ => 0))), (q2, .inl (T2 0, 24, .inl (fun _ => 0))), (q3, .inl (T2 0, 24, .inl (fun _ => 0))), (q4, .inl (T2 0, 14, .inl (fun _ => 0))), (q5, .inl (T2 0, 56, .inl (fun _ => 0))), (q6, .inl (T2 0, 56, .inl (fun _ => 0))), (q7, .inl (T2 0, 56, .inl (fun _ => 0)))] ++ (stIds 0).map (cC v0 T2)))) rfl ?_
  refine cV_putF (pc := 68) (a := h) (ci := 6) (fs := [.int 0, .int 0, .ref q1, .ref q2, .ref q3, .int 0, .ref q4, .ref q5, .ref q6, .ref q7, .null, .null, .null]) (v := .ref (v0 23 0 0)) (b1 := []) (b2 := ([(q1, .inl (T2 0, 4, .inl (fun _ => 0))), (q2, .inl (T2 0, 24, .inl (fun _ => 0))), (q3, .inl (T2 0, 24, .inl (fun _ => 0))), (q4, .inl (T2 0, 14, .inl (fun _ => 0))), (q5, .inl (T2 0, 56, .inl (fun _ => 0))), (q6, .inl (T2 0, 56, .inl (fun _ => 0))), (q7, .inl (T2 0, 56, .inl (fun _ => 0)))] ++ (stIds 0).map (cC v0 T2))) F rfl hin_X6 tyX6 tyX6_ok nmX6 10 (by decide) (Nat.le_of_ble_eq_true rfl) rfl hin2 rfl rfl rfl dX6_init_68 (List.mem_of_getElem? (i := 15) rfl) ?_
  refine cV_eq (b' := ((h, .inr (6, [.int 0, .int 0, .ref q1, .ref q2, .ref q3, .int 0, .ref q4, .ref q5, .ref q6, .ref q7, .ref (v0 23 0 0), .null, .null])) :: ([(q1, .inl (T2 0, 4, .inl (fun _ => 0))), (q2, .inl (T2 0, 24, .inl (fun _ => 0))), (q3, .inl (T2 0, 24, .inl (fun _ => 0))), (q4, .inl (T2 0, 14, .inl (fun _ => 0))), (q5, .inl (T2 0, 56, .inl (fun _ => 0))), (q6, .inl (T2 0, 56, .inl (fun _ => 0))), (q7, .inl (T2 0, 56, .inl (fun _ => 0)))] ++ (stIds 0).map (cC v0 T2)))) rfl ?_
  refine cV_aload_n (pc := 71) (i := 0) F dX6_init_71 rfl rfl ?_
  refine cV_new (pc := 72) (ci := 5) (fs := [.int 0, .int 0, .int 0, .null, .null, .null, .null, .null, .null, .null, .null, .null, .null, .null]) F rfl hin_X5 tyX5 tyX5_ok (List.mem_of_getElem? (i := 12) rfl) (List.mem_of_getElem? (i := 13) rfl) (List.mem_of_getElem? (i := 14) rfl) (fun j hj => by rcases (show j = 0 ∨ j = 1 ∨ j = 2 ∨ j = 3 ∨ j = 4 ∨ j = 5 ∨ j = 6 ∨ j = 7 ∨ j = 8 ∨ j = 9 ∨ j = 10 ∨ j = 11 ∨ j = 12 ∨ j = 13 by omega) with rfl | rfl | rfl | rfl | rfl | rfl | rfl | rfl | rfl | rfl | rfl | rfl | rfl | rfl <;> rfl) (Nat.le_of_ble_eq_true rfl) (Nat.le_of_ble_eq_true rfl) dX6_init_72 (fun p1 => ?_)
  refine cV_dup (pc := 75) F dX6_init_75 rfl ?_
  refine cV_aload_n (pc := 76) (i := 0) F dX6_init_76 rfl rfl ?_
  refine cV_ctorN (n := 1) (host := "FloatMarketModel") (a0 := p1) (As := [.ref h]) (pc := 77) F (c_X5_init l D T2 A (w0 := w0 ++ ((h, .inr (6, [.int 0, .int 0, .ref q1, .ref q2, .ref q3, .int 0, .ref q4, .ref q5, .ref q6, .ref q7, .ref (v0 23 0 0), .null, .null])) :: ([(q1, .inl (T2 0, 4, .inl (fun _ => 0))), (q2, .inl (T2 0, 24, .inl (fun _ => 0))), (q3, .inl (T2 0, 24, .inl (fun _ => 0))), (q4, .inl (T2 0, 14, .inl (fun _ => 0))), (q5, .inl (T2 0, 56, .inl (fun _ => 0))), (q6, .inl (T2 0, 56, .inl (fun _ => 0))), (q7, .inl (T2 0, 56, .inl (fun _ => 0)))] ++ (stIds 0).map (cC v0 T2)))) (h := p1) (mdl := h) (b := 1) (List.append_assoc w0 ((h, .inr (6, [.int 0, .int 0, .ref q1, .ref q2, .ref q3, .int 0, .ref q4, .ref q5, .ref q6, .ref q7, .ref (v0 23 0 0), .null, .null])) :: ([(q1, .inl (T2 0, 4, .inl (fun _ => 0))), (q2, .inl (T2 0, 24, .inl (fun _ => 0))), (q3, .inl (T2 0, 24, .inl (fun _ => 0))), (q4, .inl (T2 0, 14, .inl (fun _ => 0))), (q5, .inl (T2 0, 56, .inl (fun _ => 0))), (q6, .inl (T2 0, 56, .inl (fun _ => 0))), (q7, .inl (T2 0, 56, .inl (fun _ => 0)))] ++ (stIds 0).map (cC v0 T2))) [(p1, .inr (5, [.int 0, .int 0, .int 0, .null, .null, .null, .null, .null, .null, .null, .null, .null, .null, .null]))]).symm) gX6_init_X5_init_n33 rfl rfl rfl (List.mem_of_getElem? (i := 14) rfl) F.2.2.2.2.2.2.2.1.2.2 (List.mem_of_getElem? (i := 19) rfl) rfl (by decide +kernel) ⟨Nat.le_of_ble_eq_true rfl, Nat.le_of_ble_eq_true rfl⟩ rfl rfl (Nat.le_of_ble_eq_true rfl) dX6_init_77 ⟨(Nat.le_of_ble_eq_true rfl), (Nat.le_of_ble_eq_true rfl)⟩ (bf := fun v1 => ((h, .inr (6, [.int 0, .int 0, .ref q1, .ref q2, .ref q3, .int 0, .ref q4, .ref q5, .ref q6, .ref q7, .ref (v0 23 0 0), .null, .null])) :: ([(q1, .inl (T2 0, 4, .inl (fun _ => 0))), (q2, .inl (T2 0, 24, .inl (fun _ => 0))), (q3, .inl (T2 0, 24, .inl (fun _ => 0))), (q4, .inl (T2 0, 14, .inl (fun _ => 0))), (q5, .inl (T2 0, 56, .inl (fun _ => 0))), (q6, .inl (T2 0, 56, .inl (fun _ => 0))), (q7, .inl (T2 0, 56, .inl (fun _ => 0)))] ++ (stIds 0).map (cC v0 T2))) ++ (stIds 1).map (cC v1 T2)) (fun _ => List.append_assoc _ _ _) (fun v1 hv1 => ?_)
  obtain ⟨hq, hw1⟩ := hv1
  subst hq
  refine cV_eq (b' := ((h, .inr (6, [.int 0, .int 0, .ref q1, .ref q2, .ref q3, .int 0, .ref q4, .ref q5, .ref q6, .ref q7, .ref (v0 23 0 0), .null, .null])) :: (([(q1, .inl (T2 0, 4, .inl (fun _ => 0))), (q2, .inl (T2 0, 24, .inl (fun _ => 0))), (q3, .inl (T2 0, 24, .inl (fun _ => 0))), (q4, .inl (T2 0, 14, .inl (fun _ => 0))), (q5, .inl (T2 0, 56, .inl (fun _ => 0))), (q6, .inl (T2 0, 56, .inl (fun _ => 0))), (q7, .inl (T2 0, 56, .inl (fun _ => 0)))] ++ (stIds 0).map (cC v0 T2)) ++ (stIds 1).map (cC v1 T2)))) rfl ?_
  refine cV_putF (pc := 80) (a := h) (ci := 6) (fs := [.int 0, .int 0, .ref q1, .ref q2, .ref q3, .int 0, .ref q4, .ref q5, .ref q6, .ref q7, .ref (v0 23 0 0), .null, .null]) (v := .ref (v1 23 1 0)) (b1 := []) (b2 := (([(q1, .inl (T2 0, 4, .inl (fun _ => 0))), (q2, .inl (T2 0, 24, .inl (fun _ => 0))), (q3, .inl (T2 0, 24, .inl (fun _ => 0))), (q4, .inl (T2 0, 14, .inl (fun _ => 0))), (q5, .inl (T2 0, 56, .inl (fun _ => 0))), (q6, .inl (T2 0, 56, .inl (fun _ => 0))), (q7, .inl (T2 0, 56, .inl (fun _ => 0)))] ++ (stIds 0).map (cC v0 T2)) ++ (stIds 1).map (cC v1 T2))) F rfl hin_X6 tyX6 tyX6_ok nmX6 11 (by decide) (Nat.le_of_ble_eq_true rfl) rfl hin2 rfl rfl rfl dX6_init_80 (List.mem_of_getElem? (i := 16) rfl) ?_
  refine cV_eq (b' := ((h, .inr (6, [.int 0, .int 0, .ref q1, .ref q2, .ref q3, .int 0, .ref q4, .ref q5, .ref q6, .ref q7, .ref (v0 23 0 0), .ref (v1 23 1 0), .null])) :: (([(q1, .inl (T2 0, 4, .inl (fun _ => 0))), (q2, .inl (T2 0, 24, .inl (fun _ => 0))), (q3, .inl (T2 0, 24, .inl (fun _ => 0))), (q4, .inl (T2 0, 14, .inl (fun _ => 0))), (q5, .inl (T2 0, 56, .inl (fun _ => 0))), (q6, .inl (T2 0, 56, .inl (fun _ => 0))), (q7, .inl (T2 0, 56, .inl (fun _ => 0)))] ++ (stIds 0).map (cC v0 T2)) ++ (stIds 1).map (cC v1 T2)))) rfl ?_
  refine cV_aload_n (pc := 83) (i := 0) F dX6_init_83 rfl rfl ?_
  refine cV_bipush (pc := 84) (v := 14) F dX6_init_84 (by decide) ?_
  refine cV_newa_boolean (n := 14) (pc := 86) F rfl (List.mem_of_getElem? (i := 17) rfl) (by decide) (by decide) (Nat.le_of_ble_eq_true rfl) (Nat.le_of_ble_eq_true rfl) (Nat.le_of_ble_eq_true rfl) dX6_init_86 (fun q8 => ?_)
  refine cV_eq (b' := ((h, .inr (6, [.int 0, .int 0, .ref q1, .ref q2, .ref q3, .int 0, .ref q4, .ref q5, .ref q6, .ref q7, .ref (v0 23 0 0), .ref (v1 23 1 0), .null])) :: ((([(q1, .inl (T2 0, 4, .inl (fun _ => 0))), (q2, .inl (T2 0, 24, .inl (fun _ => 0))), (q3, .inl (T2 0, 24, .inl (fun _ => 0))), (q4, .inl (T2 0, 14, .inl (fun _ => 0))), (q5, .inl (T2 0, 56, .inl (fun _ => 0))), (q6, .inl (T2 0, 56, .inl (fun _ => 0))), (q7, .inl (T2 0, 56, .inl (fun _ => 0)))] ++ (stIds 0).map (cC v0 T2)) ++ (stIds 1).map (cC v1 T2)) ++ [(q8, .inl (T2 1, 14, .inl (fun _ => 0)))]))) rfl ?_
  refine cV_putF (pc := 88) (a := h) (ci := 6) (fs := [.int 0, .int 0, .ref q1, .ref q2, .ref q3, .int 0, .ref q4, .ref q5, .ref q6, .ref q7, .ref (v0 23 0 0), .ref (v1 23 1 0), .null]) (v := .ref q8) (b1 := []) (b2 := ((([(q1, .inl (T2 0, 4, .inl (fun _ => 0))), (q2, .inl (T2 0, 24, .inl (fun _ => 0))), (q3, .inl (T2 0, 24, .inl (fun _ => 0))), (q4, .inl (T2 0, 14, .inl (fun _ => 0))), (q5, .inl (T2 0, 56, .inl (fun _ => 0))), (q6, .inl (T2 0, 56, .inl (fun _ => 0))), (q7, .inl (T2 0, 56, .inl (fun _ => 0)))] ++ (stIds 0).map (cC v0 T2)) ++ (stIds 1).map (cC v1 T2)) ++ [(q8, .inl (T2 1, 14, .inl (fun _ => 0)))])) F rfl hin_X6 tyX6 tyX6_ok nmX6 12 (by decide) (Nat.le_of_ble_eq_true rfl) rfl hin2 rfl rfl rfl dX6_init_88 (List.mem_of_getElem? (i := 18) rfl) ?_
  refine cV_eq (b' := ((h, .inr (6, [.int 0, .int 0, .ref q1, .ref q2, .ref q3, .int 0, .ref q4, .ref q5, .ref q6, .ref q7, .ref (v0 23 0 0), .ref (v1 23 1 0), .ref q8])) :: ((([(q1, .inl (T2 0, 4, .inl (fun _ => 0))), (q2, .inl (T2 0, 24, .inl (fun _ => 0))), (q3, .inl (T2 0, 24, .inl (fun _ => 0))), (q4, .inl (T2 0, 14, .inl (fun _ => 0))), (q5, .inl (T2 0, 56, .inl (fun _ => 0))), (q6, .inl (T2 0, 56, .inl (fun _ => 0))), (q7, .inl (T2 0, 56, .inl (fun _ => 0)))] ++ (stIds 0).map (cC v0 T2)) ++ (stIds 1).map (cC v1 T2)) ++ [(q8, .inl (T2 1, 14, .inl (fun _ => 0)))]))) rfl ?_
  refine cV_iconst (pc := 91) (v := 0) F dX6_init_91 rfl ?_
  refine cV_istore_n (pc := 92) (i := 1) F dX6_init_92 rfl (by decide) ?_
  refine cV_eq (b' := [(h, .inr (6, [.int 0, .int 0, .ref q1, .ref q2, .ref q3, .int 0, .ref q4, .ref q5, .ref q6, .ref q7, .ref (v0 23 0 0), .ref (v1 23 1 0), .ref q8])), (q1, .inl (T2 0, 4, .inl (fun _ => 0)))] ++ (q2, .inl (T2 0, 24, .inl (fun q => if q < 0 then 9 else 0))) :: ([(q3, .inl (T2 0, 24, .inl (fun _ => 0))), (q4, .inl (T2 0, 14, .inl (fun _ => 0))), (q5, .inl (T2 0, 56, .inl (fun _ => 0))), (q6, .inl (T2 0, 56, .inl (fun _ => 0))), (q7, .inl (T2 0, 56, .inl (fun _ => 0)))] ++ ((stIds 0).map (cC v0 T2) ++ ((stIds 1).map (cC v1 T2) ++ [(q8, .inl (T2 1, 14, .inl (fun _ => 0)))])))) (by rw [fill_0 9 (fun _ => 0)]; simp only [List.cons_append, List.nil_append, List.append_assoc]) ?_
  refine cV_lv (lv' := [(0, .ref h), (1, .int (nI 0))]) ⟨rfl, rfl, trivial⟩ ?_
  refine c_X6_tide (h := h) (q1 := q1) (q2 := q2) (fs := [.int 0, .int 0, .ref q1, .ref q2, .ref q3, .int 0, .ref q4, .ref q5, .ref q6, .ref q7, .ref (v0 23 0 0), .ref (v1 23 1 0), .ref q8]) (b2 := ([(q3, .inl (T2 0, 24, .inl (fun _ => 0))), (q4, .inl (T2 0, 14, .inl (fun _ => 0))), (q5, .inl (T2 0, 56, .inl (fun _ => 0))), (q6, .inl (T2 0, 56, .inl (fun _ => 0))), (q7, .inl (T2 0, 56, .inl (fun _ => 0)))] ++ ((stIds 0).map (cC v0 T2) ++ ((stIds 1).map (cC v1 T2) ++ [(q8, .inl (T2 1, 14, .inl (fun _ => 0)))])))) F hin_X6 rfl ?_ 24 0 rfl
  refine cV_widen (k := 30) (n := 640) (Nat.le_of_ble_eq_true rfl) (Nat.le_of_ble_eq_true rfl) ?_
  refine cV_vret (pc := 113) F dX6_init_113 rfl (fun kd a k => if kd = 14 then h else if kd = 15 then q1 else if kd = 16 then q2 else if kd = 17 then q3 else if kd = 18 then q4 else if kd = 19 then q5 else if kd = 20 then q6 else if kd = 21 then q7 else if kd = 22 then q8 else if a = 0 then v0 kd a k else v1 kd a k) rfl (congrArg (w0 ++ ·) ?_)
  show mdlIds.map (cC (fun kd a k => if kd = 14 then h else if kd = 15 then q1 else if kd = 16 then q2 else if kd = 17 then q3 else if kd = 18 then q4 else if kd = 19 then q5 else if kd = 20 then q6 else if kd = 21 then q7 else if kd = 22 then q8 else if a = 0 then v0 kd a k else v1 kd a k) T2) = _
  unfold mdlIds
  rw [List.map_append, List.map_append, List.map_append, st_map (u := (fun kd a k => if kd = 14 then h else if kd = 15 then q1 else if kd = 16 then q2 else if kd = 17 then q3 else if kd = 18 then q4 else if kd = 19 then q5 else if kd = 20 then q6 else if kd = 21 then q7 else if kd = 22 then q8 else if a = 0 then v0 kd a k else v1 kd a k)) (v := v0) (b := 0) (fun kd hk => by rw [if_neg (by omega), if_neg (by omega), if_neg (by omega), if_neg (by omega), if_neg (by omega), if_neg (by omega), if_neg (by omega), if_neg (by omega), if_neg (by omega), if_pos rfl]) hw0.symm, st_map (u := (fun kd a k => if kd = 14 then h else if kd = 15 then q1 else if kd = 16 then q2 else if kd = 17 then q3 else if kd = 18 then q4 else if kd = 19 then q5 else if kd = 20 then q6 else if kd = 21 then q7 else if kd = 22 then q8 else if a = 0 then v0 kd a k else v1 kd a k)) (v := v1) (b := 1) (fun kd hk => by rw [if_neg (by omega), if_neg (by omega), if_neg (by omega), if_neg (by omega), if_neg (by omega), if_neg (by omega), if_neg (by omega), if_neg (by omega), if_neg (by omega), if_neg (by decide)]) hw1.symm]
  rfl
