/-- what a market holds while its rows are made, and while its canoes are -/
def cRw (u : cAd) (mk j : Nat) : Nat → Option Nat := fun x => if x < j then some (u 7 mk x) else none
def cCn (u : cAd) (mk j : Nat) : Nat → Option Nat := fun x => if x < j then some (u 9 mk x) else none
def cThis (h wtr : Nat) (x y : Value) : Nat × va_E := (h, .inr (1, [.ref wtr, x, y, .int 0, .int 0, .int 0, .int 0, .int 0, .int 0, .int 0]))
def cBR (T2 : Nat → ClassId) (h wtr q5 mk : Nat) (u : cAd) (j : Nat) : va_W := cThis h wtr (.ref q5) .null :: (q5, .inl (T2 3, 4, .inr (.inr (.inr (.inr (cRw u mk j)))))) :: (rowIds mk j).map (cC u T2)
def cBC (T2 : Nat → ClassId) (h wtr q5 q6 mk : Nat) (u : cAd) (j : Nat) : va_W := cThis h wtr (.ref q5) (.ref q6) :: (q5, .inl (T2 3, 4, .inr (.inr (.inr (.inr (cRw u mk 4)))))) :: ((rowIds mk 4).map (cC u T2) ++ ((q6, .inl (T2 4, 14, .inr (.inr (.inr (.inr (cCn u mk j)))))) :: (canIds mk j).map (cC u T2)))
def cMg (lo hi mk j : Nat) (u v : cAd) : cAd := fun kd a k => if lo ≤ kd ∧ kd ≤ hi ∧ a = mk ∧ k = j then v kd a k else u kd a k
theorem cMg_y {lo hi mk j : Nat} {u v : cAd} {kd : Nat} (h : lo ≤ kd ∧ kd ≤ hi) : cMg lo hi mk j u v kd mk j = v kd mk j := if_pos ⟨h.1, h.2, rfl, rfl⟩
theorem cMg_n {lo hi mk j : Nat} {u v : cAd} {kd a k : Nat} (h : ¬ (lo ≤ kd ∧ kd ≤ hi) ∨ k ≠ j) : cMg lo hi mk j u v kd a k = u kd a k := if_neg (fun q => h.elim (fun h => h ⟨q.1, q.2.1⟩) (fun h => h q.2.2.2))
theorem cRw_s {u v : cAd} {mk j : Nat} : va_up (cRw u mk j) j (some (v 7 mk j)) = cRw (cMg 7 8 mk j u v) mk (j + 1) := by
  funext x
  unfold va_up cRw
  by_cases e : x = j
  · rw [e, if_pos rfl, if_pos (by omega), cMg_y (by decide)]
  · rw [if_neg e]
    by_cases h : x < j
    · rw [if_pos h, if_pos (by omega), cMg_n (Or.inr e)]
    · rw [if_neg h, if_neg (by omega)]
theorem cCn_s {u v : cAd} {mk j : Nat} : va_up (cCn u mk j) j (some (v 9 mk j)) = cCn (cMg 9 13 mk j u v) mk (j + 1) := by
  funext x
  unfold va_up cCn
  by_cases e : x = j
  · rw [e, if_pos rfl, if_pos (by omega), cMg_y (by decide)]
  · rw [if_neg e]
    by_cases h : x < j
    · rw [if_pos h, if_pos (by omega), cMg_n (Or.inr e)]
    · rw [if_neg h, if_neg (by omega)]
theorem cBR_s {T2 : Nat → ClassId} {h wtr q5 mk j : Nat} {u v : cAd} : [cThis h wtr (.ref q5) .null] ++ (q5, .inl (T2 3, 4, .inr (.inr (.inr (.inr (va_up (cRw u mk j) j (some (v 7 mk j)))))))) :: ((rowIds mk j).map (cC u T2) ++ (rowId1 mk j).map (cC v T2)) = cBR T2 h wtr q5 mk (cMg 7 8 mk j u v) (j + 1) := by
  unfold cBR
  rw [rowIds_s, List.map_append, cRw_s, rows_map (u := cMg 7 8 mk j u v) (v := u) (fun k hk => ⟨cMg_n (Or.inr (by omega)), cMg_n (Or.inr (by omega))⟩)]
  show _ = _ :: _ :: (_ ++ [cC _ T2 (7, mk, j), cC _ T2 (8, mk, j)])
  rw [cC_7 (u := cMg 7 8 mk j u v) (v := v) (cMg_y (by decide)) (cMg_y (by decide)), cC_a (u := cMg 7 8 mk j u v) (v := v) (kd := 8) (by decide) (cMg_y (by decide))]
  rfl
theorem cBC_s {T2 : Nat → ClassId} {h wtr q5 q6 mk j : Nat} {u v : cAd} : (cThis h wtr (.ref q5) (.ref q6) :: (q5, .inl (T2 3, 4, .inr (.inr (.inr (.inr (cRw u mk 4)))))) :: (rowIds mk 4).map (cC u T2)) ++ (q6, .inl (T2 4, 14, .inr (.inr (.inr (.inr (va_up (cCn u mk j) j (some (v 9 mk j)))))))) :: ((canIds mk j).map (cC u T2) ++ (canId1 mk j).map (cC v T2)) = cBC T2 h wtr q5 q6 mk (cMg 9 13 mk j u v) (j + 1) := by
  have e1 : cRw (cMg 9 13 mk j u v) mk 4 = cRw u mk 4 := by
    funext x
    unfold cRw
    rw [cMg_n (Or.inl (by decide))]
  unfold cBC
  rw [canIds_s, List.map_append, cCn_s, e1, rows_map (u := cMg 9 13 mk j u v) (v := u) (fun k hk => ⟨cMg_n (Or.inl (by decide)), cMg_n (Or.inl (by decide))⟩), cans_map (u := cMg 9 13 mk j u v) (v := u) (fun k hk => ⟨cMg_n (Or.inr (by omega)), cMg_n (Or.inr (by omega)), cMg_n (Or.inr (by omega)), cMg_n (Or.inr (by omega)), cMg_n (Or.inr (by omega))⟩)]
  show _ = _ :: _ :: (_ ++ (_ :: (_ ++ [cC _ T2 (9, mk, j), cC _ T2 (10, mk, j), cC _ T2 (11, mk, j), cC _ T2 (12, mk, j), cC _ T2 (13, mk, j)])))
  rw [cC_9 (u := cMg 9 13 mk j u v) (v := v) (cMg_y (by decide)) (cMg_y (by decide)) (cMg_y (by decide)) (cMg_y (by decide)) (cMg_y (by decide)), cC_a (u := cMg 9 13 mk j u v) (v := v) (kd := 10) (by decide) (cMg_y (by decide)), cC_a (u := cMg 9 13 mk j u v) (v := v) (kd := 11) (by decide) (cMg_y (by decide)), cC_a (u := cMg 9 13 mk j u v) (v := v) (kd := 12) (by decide) (cMg_y (by decide)), cC_a (u := cMg 9 13 mk j u v) (v := v) (kd := 13) (by decide) (cMg_y (by decide))]
  rfl

set_option maxHeartbeats 4000000 in
set_option maxRecDepth 100000 in
theorem c_X1_rows {p : Program} {l : Launch} {e : Env} {s : State} {m : MethodId} {args : Array Value} {below : List Frame} {meth : Method} {c : Code} {D : va_G} {A : Nat → Prop} {T2 : Nat → ClassId} {w0 : va_W} {Q : State → Prop} (F : cFx p s m args meth c D A T2 yX1_init.cls cX1_init 3 none wsX1_init) {h wtr q5 mk : Nat} (exit : ∀ u : cAd, cV p l e (fmRm 2 80 502) s m args below meth c D A w0 3 Q (cBR T2 h wtr q5 mk u 4) 9 40 [(0, .ref h), (1, .ref wtr), (2, .int (nI 4))] [] 43) : ∀ n j, j + n = 4 → ∀ u : cAd, cV p l e (fmRm 2 80 502) s m args below meth c D A w0 3 Q (cBR T2 h wtr q5 mk u j) (1 + 2 * j) (4 + 9 * j) [(0, .ref h), (1, .ref wtr), (2, .int (nI j))] [] 19 := by
  have hin_X1 : ∀ w ∈ wsX10, w ∈ wsX1_init := (fun _ h => List.mem_cons_of_mem _ (List.mem_append_left _ (List.mem_append_left _ (List.mem_append_right _ h))))
  have hin_X2 : ∀ w ∈ wsX20, w ∈ wsX1_init := (fun _ h => List.mem_cons_of_mem _ (List.mem_append_left _ (List.mem_append_right _ h)))
  have hin_X0 : ∀ w ∈ wsX00, w ∈ wsX1_init := (fun _ h => List.mem_cons_of_mem _ (List.mem_append_right _ h))
  intro n
  induction n with
  | zero =>
    intro j hj u
    have ej : j = 4 := by omega
    subst ej
    refine cV_iload_n (pc := 19) (i := 2) F dX1_init_19 rfl rfl ?_
    refine cV_iconst (pc := 20) (v := 4) F dX1_init_20 rfl ?_
    refine cV_icmp_ge (pc := 21) (tgt := 43) F dX1_init_21 (by decide) (fun h9 => ?_) (fun h9 => ?_)
    · exact exit u
    · exact absurd (nI_le (Nat.le_refl 4) (by decide)) h9
  | succ n ih =>
    intro j hj u
    refine cV_iload_n (pc := 19) (i := 2) F dX1_init_19 rfl rfl ?_
    refine cV_iconst (pc := 20) (v := 4) F dX1_init_20 rfl ?_
    refine cV_icmp_ge (pc := 21) (tgt := 43) F dX1_init_21 (by decide) (fun h9 => ?_) (fun h9 => ?_)
    · exact absurd h9 (nI_ge (b := 4) (by omega) (by decide))
    · skip
      refine cV_aload_n (pc := 24) (i := 0) F dX1_init_24 rfl rfl ?_
      refine cV_eq (b' := [] ++ (h, .inr (1, [.ref wtr, .ref q5, .null, .int 0, .int 0, .int 0, .int 0, .int 0, .int 0, .int 0])) :: ((q5, .inl (T2 3, 4, .inr (.inr (.inr (.inr (cRw u mk j)))))) :: (rowIds mk j).map (cC u T2))) rfl ?_
      refine cV_get (pc := 25) (b1 := []) (b2 := ((q5, .inl (T2 3, 4, .inr (.inr (.inr (.inr (cRw u mk j)))))) :: (rowIds mk j).map (cC u T2))) F rfl hin_X1 1 (by decide) rfl dX1_init_25 (List.mem_of_getElem? (i := 6) rfl) ?_
      refine cV_iload_n (pc := 28) (i := 2) F dX1_init_28 rfl rfl ?_
      refine cV_new (pc := 29) (ci := 2) (fs := [.null, .int 0, .int 0]) F rfl hin_X2 tyX2 tyX2_ok (List.mem_of_getElem? (i := 5) rfl) (List.mem_of_getElem? (i := 7) rfl) (List.mem_of_getElem? (i := 8) rfl) (fun j hj => by rcases (show j = 0 ∨ j = 1 ∨ j = 2 by omega) with rfl | rfl | rfl <;> rfl) (by show _ ≤ 80; omega) (by show _ ≤ 502; omega) dX1_init_29 (fun q => ?_)
      refine cV_dup (pc := 32) F dX1_init_32 rfl ?_
      refine cV_ctor (n := 0) (a0 := q) (As := []) (pc := 33) F (c_X2_init l D T2 A (w0 := w0 ++ cBR T2 h wtr q5 mk u j) (h := q) mk j (List.append_assoc w0 (cBR T2 h wtr q5 mk u j) [(q, .inr (2, [.null, .int 0, .int 0]))]).symm) gX1_init_X2_init rfl rfl rfl (List.mem_of_getElem? (i := 8) rfl) (List.mem_of_getElem? (i := 13) rfl) (List.mem_of_getElem? (i := 14) rfl) rfl (by decide +kernel) ⟨Nat.le_of_ble_eq_true rfl, Nat.le_of_ble_eq_true rfl⟩ rfl rfl (Nat.le_of_ble_eq_true rfl) dX1_init_33 ⟨by show _ ≤ 80; omega, by show _ ≤ 502; omega⟩ (bf := fun v => cBR T2 h wtr q5 mk u j ++ (rowId1 mk j).map (cC v T2)) (fun v => List.append_assoc _ _ _) (fun v hv => ?_)
      subst hv
      refine cV_eq (b' := [cThis h wtr (.ref q5) .null] ++ (q5, .inl (T2 3, 4, .inr (.inr (.inr (.inr (cRw u mk j)))))) :: ((rowIds mk j).map (cC u T2) ++ (rowId1 mk j).map (cC v T2))) rfl ?_
      refine cV_ast (pc := 36) (ti := 3) (ci := 2) (i0 := j) (vs := [.ref (v 8 mk j), .int 0, .int 0]) (r := (RX2, TX2, 3)) F rfl (List.mem_append_right _ (List.mem_cons_of_mem _ (List.mem_append_right _ List.mem_cons_self))) rfl (vp_in_nI (by omega) (by decide)) (fm_cn (by omega)) dX1_init_36 ?_
      refine cV_iinc (pc := 37) (i := 2) (v := nI (j + 1)) F dX1_init_37 rfl (nI_1 j) (by decide) ?_
      refine cV_goto (pc := 40) (tgt := 19) F dX1_init_40 (by decide) ?_
      refine cV_lv (lv' := [(0, .ref h), (1, .ref wtr), (2, .int (nI (j + 1)))]) ⟨rfl, rfl, rfl, trivial⟩ ?_
      refine cV_widen (k := 1 + 2 * (j + 1)) (n := 4 + 9 * (j + 1)) (by omega) (by omega) ?_
      refine cV_eq cBR_s (ih (j + 1) (by omega) _)

set_option maxHeartbeats 4000000 in
set_option maxRecDepth 100000 in
theorem c_X1_cans {p : Program} {l : Launch} {e : Env} {s : State} {m : MethodId} {args : Array Value} {below : List Frame} {meth : Method} {c : Code} {D : va_G} {A : Nat → Prop} {T2 : Nat → ClassId} {w0 : va_W} {Q : State → Prop} (F : cFx p s m args meth c D A T2 yX1_init.cls cX1_init 3 none wsX1_init) {h wtr q5 q6 mk : Nat} (exit : ∀ u : cAd, cV p l e (fmRm 2 80 502) s m args below meth c D A w0 3 Q (cBC T2 h wtr q5 q6 mk u 14) 80 502 [(0, .ref h), (1, .ref wtr), (2, .int (nI 14))] [] 80) : ∀ n j, j + n = 14 → ∀ u : cAd, cV p l e (fmRm 2 80 502) s m args below meth c D A w0 3 Q (cBC T2 h wtr q5 q6 mk u j) (10 + 5 * j) (54 + 32 * j) [(0, .ref h), (1, .ref wtr), (2, .int (nI j))] [] 54 := by
  have hin_X1 : ∀ w ∈ wsX10, w ∈ wsX1_init := (fun _ h => List.mem_cons_of_mem _ (List.mem_append_left _ (List.mem_append_left _ (List.mem_append_right _ h))))
  have hin_X2 : ∀ w ∈ wsX20, w ∈ wsX1_init := (fun _ h => List.mem_cons_of_mem _ (List.mem_append_left _ (List.mem_append_right _ h)))
  have hin_X0 : ∀ w ∈ wsX00, w ∈ wsX1_init := (fun _ h => List.mem_cons_of_mem _ (List.mem_append_right _ h))
  intro n
  induction n with
  | zero =>
    intro j hj u
    have ej : j = 14 := by omega
    subst ej
    refine cV_iload_n (pc := 54) (i := 2) F dX1_init_54 rfl rfl ?_
    refine cV_bipush (pc := 55) (v := 14) F dX1_init_55 (by decide) ?_
    refine cV_icmp_ge (pc := 57) (tgt := 80) F dX1_init_57 (by decide) (fun h9 => ?_) (fun h9 => ?_)
    · exact exit u
    · exact absurd (nI_le (Nat.le_refl 14) (by decide)) h9
  | succ n ih =>
    intro j hj u
    refine cV_iload_n (pc := 54) (i := 2) F dX1_init_54 rfl rfl ?_
    refine cV_bipush (pc := 55) (v := 14) F dX1_init_55 (by decide) ?_
    refine cV_icmp_ge (pc := 57) (tgt := 80) F dX1_init_57 (by decide) (fun h9 => ?_) (fun h9 => ?_)
    · exact absurd h9 (nI_ge (b := 14) (by omega) (by decide))
    · skip
      refine cV_aload_n (pc := 60) (i := 0) F dX1_init_60 rfl rfl ?_
      refine cV_eq (b' := [] ++ (h, .inr (1, [.ref wtr, .ref q5, .ref q6, .int 0, .int 0, .int 0, .int 0, .int 0, .int 0, .int 0])) :: ((q5, .inl (T2 3, 4, .inr (.inr (.inr (.inr (cRw u mk 4)))))) :: ((rowIds mk 4).map (cC u T2) ++ ((q6, .inl (T2 4, 14, .inr (.inr (.inr (.inr (cCn u mk j)))))) :: (canIds mk j).map (cC u T2))))) rfl ?_
      refine cV_get (pc := 61) (b1 := []) (b2 := ((q5, .inl (T2 3, 4, .inr (.inr (.inr (.inr (cRw u mk 4)))))) :: ((rowIds mk 4).map (cC u T2) ++ ((q6, .inl (T2 4, 14, .inr (.inr (.inr (.inr (cCn u mk j)))))) :: (canIds mk j).map (cC u T2))))) F rfl hin_X1 2 (by decide) rfl dX1_init_61 (List.mem_of_getElem? (i := 10) rfl) ?_
      refine cV_iload_n (pc := 64) (i := 2) F dX1_init_64 rfl rfl ?_
      refine cV_new (pc := 65) (ci := 0) (fs := [.int 0, .null, .null, .null, .null, .int 0, .int 0, .int 0, .int 0, .int 0, .int 0, .int 0, .int 0, .int 0, .int 0, .int 0]) F rfl hin_X0 tyX0 tyX0_ok (List.mem_of_getElem? (i := 9) rfl) (List.mem_of_getElem? (i := 11) rfl) (List.mem_of_getElem? (i := 12) rfl) (fun j hj => by rcases (show j = 0 ∨ j = 1 ∨ j = 2 ∨ j = 3 ∨ j = 4 ∨ j = 5 ∨ j = 6 ∨ j = 7 ∨ j = 8 ∨ j = 9 ∨ j = 10 ∨ j = 11 ∨ j = 12 ∨ j = 13 ∨ j = 14 ∨ j = 15 by omega) with rfl | rfl | rfl | rfl | rfl | rfl | rfl | rfl | rfl | rfl | rfl | rfl | rfl | rfl | rfl | rfl <;> rfl) (by show _ ≤ 80; omega) (by show _ ≤ 502; omega) dX1_init_65 (fun q => ?_)
      refine cV_dup (pc := 68) F dX1_init_68 rfl ?_
      refine cV_iload_n (pc := 69) (i := 2) F dX1_init_69 rfl rfl ?_
      refine cV_ctor (n := 1) (a0 := q) (As := [.int (nI j)]) (pc := 70) F (c_X0_init l D T2 A (w0 := w0 ++ cBC T2 h wtr q5 q6 mk u j) (h := q) mk j (List.append_assoc w0 (cBC T2 h wtr q5 q6 mk u j) [(q, .inr (0, [.int 0, .null, .null, .null, .null, .int 0, .int 0, .int 0, .int 0, .int 0, .int 0, .int 0, .int 0, .int 0, .int 0, .int 0]))]).symm) gX1_init_X0_init rfl rfl rfl (List.mem_of_getElem? (i := 12) rfl) (List.mem_of_getElem? (i := 19) rfl) (List.mem_of_getElem? (i := 20) rfl) rfl (by decide +kernel) ⟨Nat.le_of_ble_eq_true rfl, Nat.le_of_ble_eq_true rfl⟩ rfl rfl (Nat.le_of_ble_eq_true rfl) dX1_init_70 ⟨by show _ ≤ 80; omega, by show _ ≤ 502; omega⟩ (bf := fun v => cBC T2 h wtr q5 q6 mk u j ++ (canId1 mk j).map (cC v T2)) (fun v => List.append_assoc _ _ _) (fun v hv => ?_)
      subst hv
      refine cV_eq (b' := (cThis h wtr (.ref q5) (.ref q6) :: (q5, .inl (T2 3, 4, .inr (.inr (.inr (.inr (cRw u mk 4)))))) :: (rowIds mk 4).map (cC u T2)) ++ (q6, .inl (T2 4, 14, .inr (.inr (.inr (.inr (cCn u mk j)))))) :: ((canIds mk j).map (cC u T2) ++ (canId1 mk j).map (cC v T2))) (by unfold cBC; simp only [List.cons_append, List.append_assoc]) ?_
      refine cV_ast (pc := 73) (ti := 4) (ci := 0) (i0 := j) (vs := [.int (nI j), .ref (v 10 mk j), .ref (v 11 mk j), .ref (v 12 mk j), .ref (v 13 mk j), .int 0, .int 0, .int 0, .int (-1), .int (-1), .int (-1), .int 0, .int 0, .int (-1), .int 0, .int 0]) (r := (RX0, TX0, 16)) F rfl (List.mem_append_right _ (List.mem_cons_of_mem _ (List.mem_append_right _ List.mem_cons_self))) rfl (vp_in_nI (by omega) (by decide)) (fm_cn (by omega)) dX1_init_73 ?_
      refine cV_iinc (pc := 74) (i := 2) (v := nI (j + 1)) F dX1_init_74 rfl (nI_1 j) (by decide) ?_
      refine cV_goto (pc := 77) (tgt := 54) F dX1_init_77 (by decide) ?_
      refine cV_lv (lv' := [(0, .ref h), (1, .ref wtr), (2, .int (nI (j + 1)))]) ⟨rfl, rfl, rfl, trivial⟩ ?_
      refine cV_widen (k := 10 + 5 * (j + 1)) (n := 54 + 32 * (j + 1)) (by omega) (by omega) ?_
      refine cV_eq cBC_s (ih (j + 1) (by omega) _)
