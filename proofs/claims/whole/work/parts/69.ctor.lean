theorem fill_s (x : Int32) (f : Nat → Int32) (j : Nat) : upd (fun q => if q < j then x else f q) j x = fun q => if q < j + 1 then x else f q := by
  funext q
  by_cases e : q = j
  · rw [e, fm_upd_same, if_pos (by omega)]
  · rw [fm_upd_ne _ _ e]
    by_cases h : q < j
    · rw [if_pos h, if_pos (by omega)]
    · rw [if_neg h, if_neg (by omega)]
theorem fill_0 (x : Int32) (f : Nat → Int32) : (fun q => if q < 0 then x else f q) = f := by
  funext q; rw [if_neg (by omega)]

set_option maxHeartbeats 4000000 in
set_option maxRecDepth 100000 in
theorem c_J7_fill (l : Launch) (D : va_G) (T2 : Nat → ClassId) (A : Nat → Prop) {w b1 b2 : va_W} {a n : Nat} {f : Nat → Int32} (x : Int32) (hn : n < 2 ^ 31) (hw9 : w = b1 ++ (a, .inl (T2 0, n, .inl f)) :: b2) : cMv l D T2 A yJ7_fill_53178 wsJ7_fill_53178 (fmRm 1 0 0) 0 0 [.ref a, .int x] w (fun _ : Unit => True) (fun _ : Unit => b1 ++ (a, .inl (T2 0, n, .inl (fun j => if j < n then x else f j))) :: b2) := by
  refine cMv_ofF (cc := cJ7_fill_53178) (maxL := 4) (ret := none) (w0 := []) (b := w) rfl (by decide +kernel) rfl (Nat.le_of_ble_eq_true rfl) ?_
  intro P_ E_ S_ M_ args_ below_ meth_ C_ F hnm
  subst hw9
  refine cV_iconst (pc := 0) (v := 0) F dJ7_fill_53178_0 rfl ?_
  refine cV_istore_n (pc := 1) (i := 2) F dJ7_fill_53178_1 rfl (by decide) ?_
  refine cV_aload_n (pc := 2) (i := 0) F dJ7_fill_53178_2 rfl rfl ?_
  refine cV_alen (pc := 3) F dJ7_fill_53178_3 (v := nI n) rfl ?_
  refine cV_istore_n (pc := 4) (i := 3) F dJ7_fill_53178_4 rfl (by decide) ?_
  refine cV_lv (lv' := [(0, .ref a), (1, .int x), (2, .int (nI 0)), (3, .int (nI n))]) ⟨rfl, rfl, rfl, rfl, trivial⟩ ?_
  have loop : ∀ d j, j + d = n → cV P_ l E_ (fmRm 1 0 0) S_ M_ args_ below_ meth_ C_ D A [] 4 (MQ below_ (va_Qv (fun _ : Unit => True) (fun u t => va_P D vwCl (b1 ++ (a, .inl (T2 0, n, .inl (fun j => if j < n then x else f j))) :: b2) t.heap ∧ va_D A (b1 ++ (a, .inl (T2 0, n, .inl (fun j => if j < n then x else f j))) :: b2)) A) args_ S_ 0 0 A) (b1 ++ (a, .inl (T2 0, n, .inl (fun q => if q < j then x else f q))) :: b2) 0 0 [(0, .ref a), (1, .int x), (2, .int (nI j)), (3, .int (nI n))] [] 5 := by
    intro d
    induction d with
    | zero =>
      intro j hj
      have e : j = n := by omega
      subst e
      refine cV_iload_n (pc := 5) (i := 2) F dJ7_fill_53178_5 rfl rfl ?_
      refine cV_iload_n (pc := 6) (i := 3) F dJ7_fill_53178_6 rfl rfl ?_
      refine cV_icmp_ge (pc := 7) (tgt := 20) F dJ7_fill_53178_7 (by decide) (fun h9 => ?_) (fun h9 => ?_)
      · exact cV_vret (pc := 20) (wf := fun _ : Unit => b1 ++ (a, .inl (T2 0, j, .inl (fun q => if q < j then x else f q))) :: b2) F dJ7_fill_53178_20 rfl () trivial rfl
      · exact absurd (nI_le (Nat.le_refl j) hn) h9
    | succ d ih =>
      intro j hj
      refine cV_iload_n (pc := 5) (i := 2) F dJ7_fill_53178_5 rfl rfl ?_
      refine cV_iload_n (pc := 6) (i := 3) F dJ7_fill_53178_6 rfl rfl ?_
      refine cV_icmp_ge (pc := 7) (tgt := 20) F dJ7_fill_53178_7 (by decide) (fun h9 => ?_) (fun h9 => ?_)
      · exact absurd h9 (nI_ge (by omega) hn)
      · refine cV_aload_n (pc := 10) (i := 0) F dJ7_fill_53178_10 rfl rfl ?_
        refine cV_iload_n (pc := 11) (i := 2) F dJ7_fill_53178_11 rfl rfl ?_
        refine cV_iload_n (pc := 12) (i := 1) F dJ7_fill_53178_12 rfl rfl ?_
        refine cV_iast (i0 := j) (pc := 13) F (vp_in_nI (by omega) hn) (fm_cn (by omega)) dJ7_fill_53178_13 ?_
        refine cV_iinc (pc := 14) (i := 2) (v := nI (j + 1)) F dJ7_fill_53178_14 rfl (nI_1 j) (by decide) ?_
        refine cV_goto (pc := 17) (tgt := 5) F dJ7_fill_53178_17 (by decide) ?_
        refine cV_lv (lv' := [(0, .ref a), (1, .int x), (2, .int (nI (j + 1))), (3, .int (nI n))]) ⟨rfl, rfl, rfl, rfl, trivial⟩ ?_
        refine cV_eq ?_ (ih (j + 1) (by omega))
        rw [fill_s]
  refine cV_eq ?_ (loop n 0 (by omega))
  rw [fill_0]

set_option maxHeartbeats 4000000 in
set_option maxRecDepth 100000 in
theorem c_X2_init (l : Launch) (D : va_G) (T2 : Nat → ClassId) (A : Nat → Prop) {w w0 : va_W} {h : Nat} (m k : Nat) (hw9 : w = w0 ++ [(h, .inr (2, [.null, .int 0, .int 0]))]) : cMv l D T2 A yX2_init wsX2_init (fmRm 1 1 6) 1 6 [.ref h] w (fun u : cAd => u 7 m k = h) (fun u : cAd => w0 ++ (rowId1 m k).map (cC u T2)) := by
  refine cMv_of (cc := cX2_init) (maxL := 1) (ret := none) hw9 (by decide +kernel) rfl (Nat.le_of_ble_eq_true rfl) ?_
  intro P_ E_ S_ M_ args_ below_ meth_ C_ F hnm
  have hin2 : meth_.name = "<init>" := hnm
  have hin_X2 : ∀ w ∈ wsX20, w ∈ wsX2_init := (fun _ h => List.mem_cons_of_mem _ (List.mem_append_right _ h))
  refine cV_aload_n (pc := 0) (i := 0) F dX2_init_0 rfl rfl ?_
  refine cV_objInit (pc := 1) F dX2_init_1 (List.mem_of_getElem? (i := 1) rfl) (List.mem_of_getElem? (i := 2) rfl) (List.mem_of_getElem? (i := 3) rfl) (Nat.le_of_ble_eq_true rfl) (Nat.le_of_ble_eq_true rfl) ?_
  refine cV_aload_n (pc := 4) (i := 0) F dX2_init_4 rfl rfl ?_
  refine cV_bipush (pc := 5) (v := 6) F dX2_init_5 (by decide) ?_
  refine cV_newa_int (n := 6) (pc := 7) F rfl (List.mem_of_getElem? (i := 4) rfl) (by decide) (by decide) (Nat.le_of_ble_eq_true rfl) (Nat.le_of_ble_eq_true rfl) (Nat.le_of_ble_eq_true rfl) dX2_init_7 (fun q1 => ?_)
  refine cV_eq (b' := ((h, .inr (2, [.null, .int 0, .int 0])) :: [(q1, .inl (T2 0, 6, .inl (fun _ => 0)))])) rfl ?_
  refine cV_putF (pc := 9) (b1 := []) (b2 := [(q1, .inl (T2 0, 6, .inl (fun _ => 0)))]) F rfl hin_X2 tyX2 tyX2_ok nmX2 0 (by decide) (Nat.le_of_ble_eq_true rfl) rfl hin2 rfl rfl rfl dX2_init_9 (List.mem_of_getElem? (i := 5) rfl) ?_
  refine cV_eq (b' := ((h, .inr (2, [.ref q1, .int 0, .int 0])) :: [(q1, .inl (T2 0, 6, .inl (fun _ => 0)))])) rfl ?_
  refine cV_widen (k := 1) (n := 6) (Nat.le_of_ble_eq_true rfl) (Nat.le_of_ble_eq_true rfl) ?_
  exact cV_vret (pc := 12) F dX2_init_12 rfl (fun kd _ _ => if kd = 7 then h else q1) rfl rfl

set_option maxHeartbeats 4000000 in
set_option maxRecDepth 100000 in
theorem c_X0_init (l : Launch) (D : va_G) (T2 : Nat → ClassId) (A : Nat → Prop) {w w0 : va_W} {h : Nat} (m k : Nat) (hw9 : w = w0 ++ [(h, .inr (0, [.int 0, .null, .null, .null, .null, .int 0, .int 0, .int 0, .int 0, .int 0, .int 0, .int 0, .int 0, .int 0, .int 0, .int 0]))]) : cMv l D T2 A yX0_init wsX0_init (fmRm 1 4 16) 4 16 [.ref h, .int (nI k)] w (fun u : cAd => u 9 m k = h) (fun u : cAd => w0 ++ (canId1 m k).map (cC u T2)) := by
  refine cMv_of (cc := cX0_init) (maxL := 2) (ret := none) hw9 (by decide +kernel) rfl (Nat.le_of_ble_eq_true rfl) ?_
  intro P_ E_ S_ M_ args_ below_ meth_ C_ F hnm
  have hin2 : meth_.name = "<init>" := hnm
  have hin_X0 : ∀ w ∈ wsX00, w ∈ wsX0_init := (fun _ h => List.mem_cons_of_mem _ (List.mem_append_right _ h))
  refine cV_aload_n (pc := 0) (i := 0) F dX0_init_0 rfl rfl ?_
  refine cV_objInit (pc := 1) F dX0_init_1 (List.mem_of_getElem? (i := 1) rfl) (List.mem_of_getElem? (i := 2) rfl) (List.mem_of_getElem? (i := 3) rfl) (Nat.le_of_ble_eq_true rfl) (Nat.le_of_ble_eq_true rfl) ?_
  refine cV_aload_n (pc := 4) (i := 0) F dX0_init_4 rfl rfl ?_
  refine cV_iload_n (pc := 5) (i := 1) F dX0_init_5 rfl rfl ?_
  refine cV_putF (pc := 6) (b1 := []) (b2 := []) F rfl hin_X0 tyX0 tyX0_ok nmX0 0 (by decide) (Nat.le_of_ble_eq_true rfl) rfl hin2 rfl rfl rfl dX0_init_6 (List.mem_of_getElem? (i := 4) rfl) ?_
  refine cV_eq (b' := ((h, .inr (0, [.int (nI k), .null, .null, .null, .null, .int 0, .int 0, .int 0, .int 0, .int 0, .int 0, .int 0, .int 0, .int 0, .int 0, .int 0])) :: [])) rfl ?_
  refine cV_aload_n (pc := 9) (i := 0) F dX0_init_9 rfl rfl ?_
  refine cV_iconst (pc := 10) (v := 4) F dX0_init_10 rfl ?_
  refine cV_newa_int (n := 4) (pc := 11) F rfl (List.mem_of_getElem? (i := 5) rfl) (by decide) (by decide) (Nat.le_of_ble_eq_true rfl) (Nat.le_of_ble_eq_true rfl) (Nat.le_of_ble_eq_true rfl) dX0_init_11 (fun q1 => ?_)
  refine cV_eq (b' := ((h, .inr (0, [.int (nI k), .null, .null, .null, .null, .int 0, .int 0, .int 0, .int 0, .int 0, .int 0, .int 0, .int 0, .int 0, .int 0, .int 0])) :: [(q1, .inl (T2 0, 4, .inl (fun _ => 0)))])) rfl ?_
  refine cV_putF (pc := 13) (b1 := []) (b2 := [(q1, .inl (T2 0, 4, .inl (fun _ => 0)))]) F rfl hin_X0 tyX0 tyX0_ok nmX0 1 (by decide) (Nat.le_of_ble_eq_true rfl) rfl hin2 rfl rfl rfl dX0_init_13 (List.mem_of_getElem? (i := 6) rfl) ?_
  refine cV_eq (b' := ((h, .inr (0, [.int (nI k), .ref q1, .null, .null, .null, .int 0, .int 0, .int 0, .int 0, .int 0, .int 0, .int 0, .int 0, .int 0, .int 0, .int 0])) :: [(q1, .inl (T2 0, 4, .inl (fun _ => 0)))])) rfl ?_
  refine cV_aload_n (pc := 16) (i := 0) F dX0_init_16 rfl rfl ?_
  refine cV_iconst (pc := 17) (v := 4) F dX0_init_17 rfl ?_
  refine cV_newa_int (n := 4) (pc := 18) F rfl (List.mem_of_getElem? (i := 5) rfl) (by decide) (by decide) (Nat.le_of_ble_eq_true rfl) (Nat.le_of_ble_eq_true rfl) (Nat.le_of_ble_eq_true rfl) dX0_init_18 (fun q2 => ?_)
  refine cV_eq (b' := ((h, .inr (0, [.int (nI k), .ref q1, .null, .null, .null, .int 0, .int 0, .int 0, .int 0, .int 0, .int 0, .int 0, .int 0, .int 0, .int 0, .int 0])) :: [(q1, .inl (T2 0, 4, .inl (fun _ => 0))), (q2, .inl (T2 0, 4, .inl (fun _ => 0)))])) rfl ?_
  refine cV_putF (pc := 20) (b1 := []) (b2 := [(q1, .inl (T2 0, 4, .inl (fun _ => 0))), (q2, .inl (T2 0, 4, .inl (fun _ => 0)))]) F rfl hin_X0 tyX0 tyX0_ok nmX0 2 (by decide) (Nat.le_of_ble_eq_true rfl) rfl hin2 rfl rfl rfl dX0_init_20 (List.mem_of_getElem? (i := 7) rfl) ?_
  refine cV_eq (b' := ((h, .inr (0, [.int (nI k), .ref q1, .ref q2, .null, .null, .int 0, .int 0, .int 0, .int 0, .int 0, .int 0, .int 0, .int 0, .int 0, .int 0, .int 0])) :: [(q1, .inl (T2 0, 4, .inl (fun _ => 0))), (q2, .inl (T2 0, 4, .inl (fun _ => 0)))])) rfl ?_
  refine cV_aload_n (pc := 23) (i := 0) F dX0_init_23 rfl rfl ?_
  refine cV_iconst (pc := 24) (v := 4) F dX0_init_24 rfl ?_
  refine cV_newa_int (n := 4) (pc := 25) F rfl (List.mem_of_getElem? (i := 5) rfl) (by decide) (by decide) (Nat.le_of_ble_eq_true rfl) (Nat.le_of_ble_eq_true rfl) (Nat.le_of_ble_eq_true rfl) dX0_init_25 (fun q3 => ?_)
  refine cV_eq (b' := ((h, .inr (0, [.int (nI k), .ref q1, .ref q2, .null, .null, .int 0, .int 0, .int 0, .int 0, .int 0, .int 0, .int 0, .int 0, .int 0, .int 0, .int 0])) :: [(q1, .inl (T2 0, 4, .inl (fun _ => 0))), (q2, .inl (T2 0, 4, .inl (fun _ => 0))), (q3, .inl (T2 0, 4, .inl (fun _ => 0)))])) rfl ?_
  refine cV_putF (pc := 27) (b1 := []) (b2 := [(q1, .inl (T2 0, 4, .inl (fun _ => 0))), (q2, .inl (T2 0, 4, .inl (fun _ => 0))), (q3, .inl (T2 0, 4, .inl (fun _ => 0)))]) F rfl hin_X0 tyX0 tyX0_ok nmX0 3 (by decide) (Nat.le_of_ble_eq_true rfl) rfl hin2 rfl rfl rfl dX0_init_27 (List.mem_of_getElem? (i := 8) rfl) ?_
  refine cV_eq (b' := ((h, .inr (0, [.int (nI k), .ref q1, .ref q2, .ref q3, .null, .int 0, .int 0, .int 0, .int 0, .int 0, .int 0, .int 0, .int 0, .int 0, .int 0, .int 0])) :: [(q1, .inl (T2 0, 4, .inl (fun _ => 0))), (q2, .inl (T2 0, 4, .inl (fun _ => 0))), (q3, .inl (T2 0, 4, .inl (fun _ => 0)))])) rfl ?_
  refine cV_aload_n (pc := 30) (i := 0) F dX0_init_30 rfl rfl ?_
  refine cV_iconst (pc := 31) (v := 4) F dX0_init_31 rfl ?_
  refine cV_newa_int (n := 4) (pc := 32) F rfl (List.mem_of_getElem? (i := 5) rfl) (by decide) (by decide) (Nat.le_of_ble_eq_true rfl) (Nat.le_of_ble_eq_true rfl) (Nat.le_of_ble_eq_true rfl) dX0_init_32 (fun q4 => ?_)
  refine cV_eq (b' := ((h, .inr (0, [.int (nI k), .ref q1, .ref q2, .ref q3, .null, .int 0, .int 0, .int 0, .int 0, .int 0, .int 0, .int 0, .int 0, .int 0, .int 0, .int 0])) :: [(q1, .inl (T2 0, 4, .inl (fun _ => 0))), (q2, .inl (T2 0, 4, .inl (fun _ => 0))), (q3, .inl (T2 0, 4, .inl (fun _ => 0))), (q4, .inl (T2 0, 4, .inl (fun _ => 0)))])) rfl ?_
  refine cV_putF (pc := 34) (b1 := []) (b2 := [(q1, .inl (T2 0, 4, .inl (fun _ => 0))), (q2, .inl (T2 0, 4, .inl (fun _ => 0))), (q3, .inl (T2 0, 4, .inl (fun _ => 0))), (q4, .inl (T2 0, 4, .inl (fun _ => 0)))]) F rfl hin_X0 tyX0 tyX0_ok nmX0 4 (by decide) (Nat.le_of_ble_eq_true rfl) rfl hin2 rfl rfl rfl dX0_init_34 (List.mem_of_getElem? (i := 9) rfl) ?_
  refine cV_eq (b' := ((h, .inr (0, [.int (nI k), .ref q1, .ref q2, .ref q3, .ref q4, .int 0, .int 0, .int 0, .int 0, .int 0, .int 0, .int 0, .int 0, .int 0, .int 0, .int 0])) :: [(q1, .inl (T2 0, 4, .inl (fun _ => 0))), (q2, .inl (T2 0, 4, .inl (fun _ => 0))), (q3, .inl (T2 0, 4, .inl (fun _ => 0))), (q4, .inl (T2 0, 4, .inl (fun _ => 0)))])) rfl ?_
  refine cV_aload_n (pc := 37) (i := 0) F dX0_init_37 rfl rfl ?_
  refine cV_iconst (pc := 38) (v := 0) F dX0_init_38 rfl ?_
  refine cV_put (pc := 39) (b1 := []) (b2 := [(q1, .inl (T2 0, 4, .inl (fun _ => 0))), (q2, .inl (T2 0, 4, .inl (fun _ => 0))), (q3, .inl (T2 0, 4, .inl (fun _ => 0))), (q4, .inl (T2 0, 4, .inl (fun _ => 0)))]) F rfl hin_X0 tyX0 tyX0_ok nmX0 7 (by decide) (Nat.le_of_ble_eq_true rfl) rfl rfl rfl dX0_init_39 (List.mem_of_getElem? (i := 10) rfl) ?_
  refine cV_eq (b' := ((h, .inr (0, [.int (nI k), .ref q1, .ref q2, .ref q3, .ref q4, .int 0, .int 0, .int 0, .int 0, .int 0, .int 0, .int 0, .int 0, .int 0, .int 0, .int 0])) :: [(q1, .inl (T2 0, 4, .inl (fun _ => 0))), (q2, .inl (T2 0, 4, .inl (fun _ => 0))), (q3, .inl (T2 0, 4, .inl (fun _ => 0))), (q4, .inl (T2 0, 4, .inl (fun _ => 0)))])) rfl ?_
  refine cV_aload_n (pc := 42) (i := 0) F dX0_init_42 rfl rfl ?_
  refine cV_iconst (pc := 43) (v := (-1)) F dX0_init_43 rfl ?_
  refine cV_put (pc := 44) (b1 := []) (b2 := [(q1, .inl (T2 0, 4, .inl (fun _ => 0))), (q2, .inl (T2 0, 4, .inl (fun _ => 0))), (q3, .inl (T2 0, 4, .inl (fun _ => 0))), (q4, .inl (T2 0, 4, .inl (fun _ => 0)))]) F rfl hin_X0 tyX0 tyX0_ok nmX0 8 (by decide) (Nat.le_of_ble_eq_true rfl) rfl rfl rfl dX0_init_44 (List.mem_of_getElem? (i := 11) rfl) ?_
  refine cV_eq (b' := ((h, .inr (0, [.int (nI k), .ref q1, .ref q2, .ref q3, .ref q4, .int 0, .int 0, .int 0, .int (-1), .int 0, .int 0, .int 0, .int 0, .int 0, .int 0, .int 0])) :: [(q1, .inl (T2 0, 4, .inl (fun _ => 0))), (q2, .inl (T2 0, 4, .inl (fun _ => 0))), (q3, .inl (T2 0, 4, .inl (fun _ => 0))), (q4, .inl (T2 0, 4, .inl (fun _ => 0)))])) rfl ?_
  refine cV_aload_n (pc := 47) (i := 0) F dX0_init_47 rfl rfl ?_
  refine cV_iconst (pc := 48) (v := (-1)) F dX0_init_48 rfl ?_
  refine cV_put (pc := 49) (b1 := []) (b2 := [(q1, .inl (T2 0, 4, .inl (fun _ => 0))), (q2, .inl (T2 0, 4, .inl (fun _ => 0))), (q3, .inl (T2 0, 4, .inl (fun _ => 0))), (q4, .inl (T2 0, 4, .inl (fun _ => 0)))]) F rfl hin_X0 tyX0 tyX0_ok nmX0 9 (by decide) (Nat.le_of_ble_eq_true rfl) rfl rfl rfl dX0_init_49 (List.mem_of_getElem? (i := 12) rfl) ?_
  refine cV_eq (b' := ((h, .inr (0, [.int (nI k), .ref q1, .ref q2, .ref q3, .ref q4, .int 0, .int 0, .int 0, .int (-1), .int (-1), .int 0, .int 0, .int 0, .int 0, .int 0, .int 0])) :: [(q1, .inl (T2 0, 4, .inl (fun _ => 0))), (q2, .inl (T2 0, 4, .inl (fun _ => 0))), (q3, .inl (T2 0, 4, .inl (fun _ => 0))), (q4, .inl (T2 0, 4, .inl (fun _ => 0)))])) rfl ?_
  refine cV_aload_n (pc := 52) (i := 0) F dX0_init_52 rfl rfl ?_
  refine cV_iconst (pc := 53) (v := (-1)) F dX0_init_53 rfl ?_
  refine cV_put (pc := 54) (b1 := []) (b2 := [(q1, .inl (T2 0, 4, .inl (fun _ => 0))), (q2, .inl (T2 0, 4, .inl (fun _ => 0))), (q3, .inl (T2 0, 4, .inl (fun _ => 0))), (q4, .inl (T2 0, 4, .inl (fun _ => 0)))]) F rfl hin_X0 tyX0 tyX0_ok nmX0 10 (by decide) (Nat.le_of_ble_eq_true rfl) rfl rfl rfl dX0_init_54 (List.mem_of_getElem? (i := 13) rfl) ?_
  refine cV_eq (b' := ((h, .inr (0, [.int (nI k), .ref q1, .ref q2, .ref q3, .ref q4, .int 0, .int 0, .int 0, .int (-1), .int (-1), .int (-1), .int 0, .int 0, .int 0, .int 0, .int 0])) :: [(q1, .inl (T2 0, 4, .inl (fun _ => 0))), (q2, .inl (T2 0, 4, .inl (fun _ => 0))), (q3, .inl (T2 0, 4, .inl (fun _ => 0))), (q4, .inl (T2 0, 4, .inl (fun _ => 0)))])) rfl ?_
  refine cV_aload_n (pc := 57) (i := 0) F dX0_init_57 rfl rfl ?_
  refine cV_iconst (pc := 58) (v := (-1)) F dX0_init_58 rfl ?_
  refine cV_put (pc := 59) (b1 := []) (b2 := [(q1, .inl (T2 0, 4, .inl (fun _ => 0))), (q2, .inl (T2 0, 4, .inl (fun _ => 0))), (q3, .inl (T2 0, 4, .inl (fun _ => 0))), (q4, .inl (T2 0, 4, .inl (fun _ => 0)))]) F rfl hin_X0 tyX0 tyX0_ok nmX0 13 (by decide) (Nat.le_of_ble_eq_true rfl) rfl rfl rfl dX0_init_59 (List.mem_of_getElem? (i := 14) rfl) ?_
  refine cV_eq (b' := ((h, .inr (0, [.int (nI k), .ref q1, .ref q2, .ref q3, .ref q4, .int 0, .int 0, .int 0, .int (-1), .int (-1), .int (-1), .int 0, .int 0, .int (-1), .int 0, .int 0])) :: [(q1, .inl (T2 0, 4, .inl (fun _ => 0))), (q2, .inl (T2 0, 4, .inl (fun _ => 0))), (q3, .inl (T2 0, 4, .inl (fun _ => 0))), (q4, .inl (T2 0, 4, .inl (fun _ => 0)))])) rfl ?_
  refine cV_widen (k := 4) (n := 16) (Nat.le_of_ble_eq_true rfl) (Nat.le_of_ble_eq_true rfl) ?_
  exact cV_vret (pc := 62) F dX0_init_62 rfl (fun kd _ _ => if kd = 9 then h else if kd = 10 then q1 else if kd = 11 then q2 else if kd = 12 then q3 else q4) rfl rfl

set_option maxHeartbeats 4000000 in
set_option maxRecDepth 100000 in
theorem c_X3_init (l : Launch) (D : va_G) (T2 : Nat → ClassId) (A : Nat → Prop) {w w0 : va_W} {h : Nat} (hw9 : w = w0 ++ [(h, .inr (3, [.null, .null]))]) : cMv l D T2 A yX3_init wsX3_init (fmRm 2 2 48) 2 48 [.ref h] w (fun u : cAd => u 1 0 0 = h) (fun u : cAd => w0 ++ watIds.map (cC u T2)) := by
  refine cMv_of (cc := cX3_init) (maxL := 1) (ret := none) hw9 (by decide +kernel) rfl (Nat.le_of_ble_eq_true rfl) ?_
  intro P_ E_ S_ M_ args_ below_ meth_ C_ F hnm
  have hin2 : meth_.name = "<init>" := hnm
  have hin_X3 : ∀ w ∈ wsX30, w ∈ wsX3_init := (fun _ h => List.mem_cons_of_mem _ (List.mem_append_right _ h))
  refine cV_aload_n (pc := 0) (i := 0) F dX3_init_0 rfl rfl ?_
  refine cV_objInit (pc := 1) F dX3_init_1 (List.mem_of_getElem? (i := 1) rfl) (List.mem_of_getElem? (i := 2) rfl) (List.mem_of_getElem? (i := 3) rfl) (Nat.le_of_ble_eq_true rfl) (Nat.le_of_ble_eq_true rfl) ?_
  refine cV_aload_n (pc := 4) (i := 0) F dX3_init_4 rfl rfl ?_
  refine cV_bipush (pc := 5) (v := 24) F dX3_init_5 (by decide) ?_
  refine cV_newa_int (n := 24) (pc := 7) F rfl (List.mem_of_getElem? (i := 4) rfl) (by decide) (by decide) (Nat.le_of_ble_eq_true rfl) (Nat.le_of_ble_eq_true rfl) (Nat.le_of_ble_eq_true rfl) dX3_init_7 (fun q1 => ?_)
  refine cV_eq (b' := ((h, .inr (3, [.null, .null])) :: [(q1, .inl (T2 0, 24, .inl (fun _ => 0)))])) rfl ?_
  refine cV_putF (pc := 9) (b1 := []) (b2 := [(q1, .inl (T2 0, 24, .inl (fun _ => 0)))]) F rfl hin_X3 tyX3 tyX3_ok nmX3 0 (by decide) (Nat.le_of_ble_eq_true rfl) rfl hin2 rfl rfl rfl dX3_init_9 (List.mem_of_getElem? (i := 5) rfl) ?_
  refine cV_eq (b' := ((h, .inr (3, [.ref q1, .null])) :: [(q1, .inl (T2 0, 24, .inl (fun _ => 0)))])) rfl ?_
  refine cV_aload_n (pc := 12) (i := 0) F dX3_init_12 rfl rfl ?_
  refine cV_bipush (pc := 13) (v := 24) F dX3_init_13 (by decide) ?_
  refine cV_newa_int (n := 24) (pc := 15) F rfl (List.mem_of_getElem? (i := 4) rfl) (by decide) (by decide) (Nat.le_of_ble_eq_true rfl) (Nat.le_of_ble_eq_true rfl) (Nat.le_of_ble_eq_true rfl) dX3_init_15 (fun q2 => ?_)
  refine cV_eq (b' := ((h, .inr (3, [.ref q1, .null])) :: [(q1, .inl (T2 0, 24, .inl (fun _ => 0))), (q2, .inl (T2 0, 24, .inl (fun _ => 0)))])) rfl ?_
  refine cV_putF (pc := 17) (b1 := []) (b2 := [(q1, .inl (T2 0, 24, .inl (fun _ => 0))), (q2, .inl (T2 0, 24, .inl (fun _ => 0)))]) F rfl hin_X3 tyX3 tyX3_ok nmX3 1 (by decide) (Nat.le_of_ble_eq_true rfl) rfl hin2 rfl rfl rfl dX3_init_17 (List.mem_of_getElem? (i := 6) rfl) ?_
  refine cV_eq (b' := ((h, .inr (3, [.ref q1, .ref q2])) :: [(q1, .inl (T2 0, 24, .inl (fun _ => 0))), (q2, .inl (T2 0, 24, .inl (fun _ => 0)))])) rfl ?_
  refine cV_aload_n (pc := 20) (i := 0) F dX3_init_20 rfl rfl ?_
  refine cV_get (pc := 21) (b1 := []) (b2 := [(q1, .inl (T2 0, 24, .inl (fun _ => 0))), (q2, .inl (T2 0, 24, .inl (fun _ => 0)))]) F rfl hin_X3 0 (by decide) rfl dX3_init_21 (List.mem_of_getElem? (i := 5) rfl) ?_
  refine cV_bipush (pc := 24) (v := 9) F dX3_init_24 (by decide) ?_
  refine cV_eq (b' := [(h, .inr (3, [.ref q1, .ref q2]))] ++ ((q1, .inl (T2 0, 24, .inl (fun _ => 0))) :: [(q2, .inl (T2 0, 24, .inl (fun _ => 0)))])) rfl ?_
  refine cV_cS (n := 2) (As := [.ref q1, .int 9]) (pc := 26) F (c_J7_fill l D T2 A (b1 := w0 ++ [(h, .inr (3, [.ref q1, .ref q2]))]) (b2 := [(q2, .inl (T2 0, 24, .inl (fun _ => 0)))]) (a := q1) (n := 24) (f := fun _ => 0) 9 (by decide) (List.append_assoc w0 [(h, .inr (3, [.ref q1, .ref q2]))] ((q1, .inl (T2 0, 24, .inl (fun _ => 0))) :: [(q2, .inl (T2 0, 24, .inl (fun _ => 0)))])).symm) gX3_init_J7_fill_53178 rfl rfl rfl (by decide +kernel) ⟨Nat.le_of_ble_eq_true rfl, Nat.le_of_ble_eq_true rfl⟩ rfl rfl (Nat.le_of_ble_eq_true rfl) dX3_init_26 ⟨Nat.le_of_ble_eq_true rfl, Nat.le_of_ble_eq_true rfl⟩ (bf := fun _ => [(h, .inr (3, [.ref q1, .ref q2]))] ++ (q1, .inl (T2 0, 24, .inl (fun j => if j < 24 then 9 else 0))) :: [(q2, .inl (T2 0, 24, .inl (fun _ => 0)))]) (fun _ => List.append_assoc _ _ _) (fun _ _ => ?_)
  refine cV_widen (k := 2) (n := 48) (Nat.le_of_ble_eq_true rfl) (Nat.le_of_ble_eq_true rfl) ?_
  exact cV_vret (pc := 29) F dX3_init_29 rfl (fun kd _ _ => if kd = 1 then h else if kd = 2 then q1 else q2) rfl rfl

set_option maxHeartbeats 4000000 in
set_option maxRecDepth 100000 in
theorem c_X5_init (l : Launch) (D : va_G) (T2 : Nat → ClassId) (A : Nat → Prop) {w w0 : va_W} {h mdl : Nat} {b : Nat} (hw9 : w = w0 ++ [(h, .inr (5, [.int 0, .int 0, .int 0, .null, .null, .null, .null, .null, .null, .null, .null, .null, .null, .null]))]) : cMv l D T2 A yX5_init wsX5_init (fmRm 1 10 182) 10 182 [.ref h, .ref mdl] w (fun u : cAd => u 23 b 0 = h ∧ u 14 0 0 = mdl) (fun u : cAd => w0 ++ (stIds b).map (cC u T2)) := by
  refine cMv_of (cc := cX5_init) (maxL := 2) (ret := none) hw9 (by decide +kernel) rfl (Nat.le_of_ble_eq_true rfl) ?_
  intro P_ E_ S_ M_ args_ below_ meth_ C_ F hnm
  have hin2 : meth_.name = "<init>" := hnm
  have hin_X5 : ∀ w ∈ wsX50, w ∈ wsX5_init := (fun _ h => List.mem_cons_of_mem _ (List.mem_append_right _ h))
  refine cV_aload_n (pc := 0) (i := 0) F dX5_init_0 rfl rfl ?_
  refine cV_aload_n (pc := 1) (i := 1) F dX5_init_1 rfl rfl ?_
  refine cV_putF (pc := 2) (b1 := []) (b2 := []) F rfl hin_X5 tyX5 tyX5_ok nmX5 13 (by decide) (Nat.le_of_ble_eq_true rfl) rfl hin2 rfl rfl rfl dX5_init_2 (List.mem_of_getElem? (i := 1) rfl) ?_
  refine cV_eq (b' := ((h, .inr (5, [.int 0, .int 0, .int 0, .null, .null, .null, .null, .null, .null, .null, .null, .null, .null, .ref mdl])) :: [])) rfl ?_
  refine cV_aload_n (pc := 5) (i := 0) F dX5_init_5 rfl rfl ?_
  refine cV_objInit (pc := 6) F dX5_init_6 (List.mem_of_getElem? (i := 2) rfl) (List.mem_of_getElem? (i := 3) rfl) (List.mem_of_getElem? (i := 4) rfl) (Nat.le_of_ble_eq_true rfl) (Nat.le_of_ble_eq_true rfl) ?_
  refine cV_aload_n (pc := 9) (i := 0) F dX5_init_9 rfl rfl ?_
  refine cV_bipush (pc := 10) (v := 14) F dX5_init_10 (by decide) ?_
  refine cV_newa_int (n := 14) (pc := 12) F rfl (List.mem_of_getElem? (i := 5) rfl) (by decide) (by decide) (Nat.le_of_ble_eq_true rfl) (Nat.le_of_ble_eq_true rfl) (Nat.le_of_ble_eq_true rfl) dX5_init_12 (fun q1 => ?_)
  refine cV_eq (b' := ((h, .inr (5, [.int 0, .int 0, .int 0, .null, .null, .null, .null, .null, .null, .null, .null, .null, .null, .ref mdl])) :: [(q1, .inl (T2 0, 14, .inl (fun _ => 0)))])) rfl ?_
  refine cV_putF (pc := 14) (b1 := []) (b2 := [(q1, .inl (T2 0, 14, .inl (fun _ => 0)))]) F rfl hin_X5 tyX5 tyX5_ok nmX5 3 (by decide) (Nat.le_of_ble_eq_true rfl) rfl hin2 rfl rfl rfl dX5_init_14 (List.mem_of_getElem? (i := 6) rfl) ?_
  refine cV_eq (b' := ((h, .inr (5, [.int 0, .int 0, .int 0, .ref q1, .null, .null, .null, .null, .null, .null, .null, .null, .null, .ref mdl])) :: [(q1, .inl (T2 0, 14, .inl (fun _ => 0)))])) rfl ?_
  refine cV_aload_n (pc := 17) (i := 0) F dX5_init_17 rfl rfl ?_
  refine cV_bipush (pc := 18) (v := 56) F dX5_init_18 (by decide) ?_
  refine cV_newa_int (n := 56) (pc := 20) F rfl (List.mem_of_getElem? (i := 5) rfl) (by decide) (by decide) (Nat.le_of_ble_eq_true rfl) (Nat.le_of_ble_eq_true rfl) (Nat.le_of_ble_eq_true rfl) dX5_init_20 (fun q2 => ?_)
  refine cV_eq (b' := ((h, .inr (5, [.int 0, .int 0, .int 0, .ref q1, .null, .null, .null, .null, .null, .null, .null, .null, .null, .ref mdl])) :: [(q1, .inl (T2 0, 14, .inl (fun _ => 0))), (q2, .inl (T2 0, 56, .inl (fun _ => 0)))])) rfl ?_
  refine cV_putF (pc := 22) (b1 := []) (b2 := [(q1, .inl (T2 0, 14, .inl (fun _ => 0))), (q2, .inl (T2 0, 56, .inl (fun _ => 0)))]) F rfl hin_X5 tyX5 tyX5_ok nmX5 4 (by decide) (Nat.le_of_ble_eq_true rfl) rfl hin2 rfl rfl rfl dX5_init_22 (List.mem_of_getElem? (i := 7) rfl) ?_
  refine cV_eq (b' := ((h, .inr (5, [.int 0, .int 0, .int 0, .ref q1, .ref q2, .null, .null, .null, .null, .null, .null, .null, .null, .ref mdl])) :: [(q1, .inl (T2 0, 14, .inl (fun _ => 0))), (q2, .inl (T2 0, 56, .inl (fun _ => 0)))])) rfl ?_
  refine cV_aload_n (pc := 25) (i := 0) F dX5_init_25 rfl rfl ?_
  refine cV_bipush (pc := 26) (v := 14) F dX5_init_26 (by decide) ?_
  refine cV_newa_int (n := 14) (pc := 28) F rfl (List.mem_of_getElem? (i := 5) rfl) (by decide) (by decide) (Nat.le_of_ble_eq_true rfl) (Nat.le_of_ble_eq_true rfl) (Nat.le_of_ble_eq_true rfl) dX5_init_28 (fun q3 => ?_)
  refine cV_eq (b' := ((h, .inr (5, [.int 0, .int 0, .int 0, .ref q1, .ref q2, .null, .null, .null, .null, .null, .null, .null, .null, .ref mdl])) :: [(q1, .inl (T2 0, 14, .inl (fun _ => 0))), (q2, .inl (T2 0, 56, .inl (fun _ => 0))), (q3, .inl (T2 0, 14, .inl (fun _ => 0)))])) rfl ?_
  refine cV_putF (pc := 30) (b1 := []) (b2 := [(q1, .inl (T2 0, 14, .inl (fun _ => 0))), (q2, .inl (T2 0, 56, .inl (fun _ => 0))), (q3, .inl (T2 0, 14, .inl (fun _ => 0)))]) F rfl hin_X5 tyX5 tyX5_ok nmX5 5 (by decide) (Nat.le_of_ble_eq_true rfl) rfl hin2 rfl rfl rfl dX5_init_30 (List.mem_of_getElem? (i := 8) rfl) ?_
  refine cV_eq (b' := ((h, .inr (5, [.int 0, .int 0, .int 0, .ref q1, .ref q2, .ref q3, .null, .null, .null, .null, .null, .null, .null, .ref mdl])) :: [(q1, .inl (T2 0, 14, .inl (fun _ => 0))), (q2, .inl (T2 0, 56, .inl (fun _ => 0))), (q3, .inl (T2 0, 14, .inl (fun _ => 0)))])) rfl ?_
  refine cV_aload_n (pc := 33) (i := 0) F dX5_init_33 rfl rfl ?_
  refine cV_bipush (pc := 34) (v := 14) F dX5_init_34 (by decide) ?_
  refine cV_newa_int (n := 14) (pc := 36) F rfl (List.mem_of_getElem? (i := 5) rfl) (by decide) (by decide) (Nat.le_of_ble_eq_true rfl) (Nat.le_of_ble_eq_true rfl) (Nat.le_of_ble_eq_true rfl) dX5_init_36 (fun q4 => ?_)
  refine cV_eq (b' := ((h, .inr (5, [.int 0, .int 0, .int 0, .ref q1, .ref q2, .ref q3, .null, .null, .null, .null, .null, .null, .null, .ref mdl])) :: [(q1, .inl (T2 0, 14, .inl (fun _ => 0))), (q2, .inl (T2 0, 56, .inl (fun _ => 0))), (q3, .inl (T2 0, 14, .inl (fun _ => 0))), (q4, .inl (T2 0, 14, .inl (fun _ => 0)))])) rfl ?_
  refine cV_putF (pc := 38) (b1 := []) (b2 := [(q1, .inl (T2 0, 14, .inl (fun _ => 0))), (q2, .inl (T2 0, 56, .inl (fun _ => 0))), (q3, .inl (T2 0, 14, .inl (fun _ => 0))), (q4, .inl (T2 0, 14, .inl (fun _ => 0)))]) F rfl hin_X5 tyX5 tyX5_ok nmX5 6 (by decide) (Nat.le_of_ble_eq_true rfl) rfl hin2 rfl rfl rfl dX5_init_38 (List.mem_of_getElem? (i := 9) rfl) ?_
  refine cV_eq (b' := ((h, .inr (5, [.int 0, .int 0, .int 0, .ref q1, .ref q2, .ref q3, .ref q4, .null, .null, .null, .null, .null, .null, .ref mdl])) :: [(q1, .inl (T2 0, 14, .inl (fun _ => 0))), (q2, .inl (T2 0, 56, .inl (fun _ => 0))), (q3, .inl (T2 0, 14, .inl (fun _ => 0))), (q4, .inl (T2 0, 14, .inl (fun _ => 0)))])) rfl ?_
  refine cV_aload_n (pc := 41) (i := 0) F dX5_init_41 rfl rfl ?_
  refine cV_bipush (pc := 42) (v := 14) F dX5_init_42 (by decide) ?_
  refine cV_newa_int (n := 14) (pc := 44) F rfl (List.mem_of_getElem? (i := 5) rfl) (by decide) (by decide) (Nat.le_of_ble_eq_true rfl) (Nat.le_of_ble_eq_true rfl) (Nat.le_of_ble_eq_true rfl) dX5_init_44 (fun q5 => ?_)
  refine cV_eq (b' := ((h, .inr (5, [.int 0, .int 0, .int 0, .ref q1, .ref q2, .ref q3, .ref q4, .null, .null, .null, .null, .null, .null, .ref mdl])) :: [(q1, .inl (T2 0, 14, .inl (fun _ => 0))), (q2, .inl (T2 0, 56, .inl (fun _ => 0))), (q3, .inl (T2 0, 14, .inl (fun _ => 0))), (q4, .inl (T2 0, 14, .inl (fun _ => 0))), (q5, .inl (T2 0, 14, .inl (fun _ => 0)))])) rfl ?_
  refine cV_putF (pc := 46) (b1 := []) (b2 := [(q1, .inl (T2 0, 14, .inl (fun _ => 0))), (q2, .inl (T2 0, 56, .inl (fun _ => 0))), (q3, .inl (T2 0, 14, .inl (fun _ => 0))), (q4, .inl (T2 0, 14, .inl (fun _ => 0))), (q5, .inl (T2 0, 14, .inl (fun _ => 0)))]) F rfl hin_X5 tyX5 tyX5_ok nmX5 7 (by decide) (Nat.le_of_ble_eq_true rfl) rfl hin2 rfl rfl rfl dX5_init_46 (List.mem_of_getElem? (i := 10) rfl) ?_
  refine cV_eq (b' := ((h, .inr (5, [.int 0, .int 0, .int 0, .ref q1, .ref q2, .ref q3, .ref q4, .ref q5, .null, .null, .null, .null, .null, .ref mdl])) :: [(q1, .inl (T2 0, 14, .inl (fun _ => 0))), (q2, .inl (T2 0, 56, .inl (fun _ => 0))), (q3, .inl (T2 0, 14, .inl (fun _ => 0))), (q4, .inl (T2 0, 14, .inl (fun _ => 0))), (q5, .inl (T2 0, 14, .inl (fun _ => 0)))])) rfl ?_
  refine cV_aload_n (pc := 49) (i := 0) F dX5_init_49 rfl rfl ?_
  refine cV_bipush (pc := 50) (v := 14) F dX5_init_50 (by decide) ?_
  refine cV_newa_int (n := 14) (pc := 52) F rfl (List.mem_of_getElem? (i := 5) rfl) (by decide) (by decide) (Nat.le_of_ble_eq_true rfl) (Nat.le_of_ble_eq_true rfl) (Nat.le_of_ble_eq_true rfl) dX5_init_52 (fun q6 => ?_)
  refine cV_eq (b' := ((h, .inr (5, [.int 0, .int 0, .int 0, .ref q1, .ref q2, .ref q3, .ref q4, .ref q5, .null, .null, .null, .null, .null, .ref mdl])) :: [(q1, .inl (T2 0, 14, .inl (fun _ => 0))), (q2, .inl (T2 0, 56, .inl (fun _ => 0))), (q3, .inl (T2 0, 14, .inl (fun _ => 0))), (q4, .inl (T2 0, 14, .inl (fun _ => 0))), (q5, .inl (T2 0, 14, .inl (fun _ => 0))), (q6, .inl (T2 0, 14, .inl (fun _ => 0)))])) rfl ?_
  refine cV_putF (pc := 54) (b1 := []) (b2 := [(q1, .inl (T2 0, 14, .inl (fun _ => 0))), (q2, .inl (T2 0, 56, .inl (fun _ => 0))), (q3, .inl (T2 0, 14, .inl (fun _ => 0))), (q4, .inl (T2 0, 14, .inl (fun _ => 0))), (q5, .inl (T2 0, 14, .inl (fun _ => 0))), (q6, .inl (T2 0, 14, .inl (fun _ => 0)))]) F rfl hin_X5 tyX5 tyX5_ok nmX5 8 (by decide) (Nat.le_of_ble_eq_true rfl) rfl hin2 rfl rfl rfl dX5_init_54 (List.mem_of_getElem? (i := 11) rfl) ?_
  refine cV_eq (b' := ((h, .inr (5, [.int 0, .int 0, .int 0, .ref q1, .ref q2, .ref q3, .ref q4, .ref q5, .ref q6, .null, .null, .null, .null, .ref mdl])) :: [(q1, .inl (T2 0, 14, .inl (fun _ => 0))), (q2, .inl (T2 0, 56, .inl (fun _ => 0))), (q3, .inl (T2 0, 14, .inl (fun _ => 0))), (q4, .inl (T2 0, 14, .inl (fun _ => 0))), (q5, .inl (T2 0, 14, .inl (fun _ => 0))), (q6, .inl (T2 0, 14, .inl (fun _ => 0)))])) rfl ?_
  refine cV_aload_n (pc := 57) (i := 0) F dX5_init_57 rfl rfl ?_
  refine cV_bipush (pc := 58) (v := 14) F dX5_init_58 (by decide) ?_
  refine cV_newa_int (n := 14) (pc := 60) F rfl (List.mem_of_getElem? (i := 5) rfl) (by decide) (by decide) (Nat.le_of_ble_eq_true rfl) (Nat.le_of_ble_eq_true rfl) (Nat.le_of_ble_eq_true rfl) dX5_init_60 (fun q7 => ?_)
  refine cV_eq (b' := ((h, .inr (5, [.int 0, .int 0, .int 0, .ref q1, .ref q2, .ref q3, .ref q4, .ref q5, .ref q6, .null, .null, .null, .null, .ref mdl])) :: [(q1, .inl (T2 0, 14, .inl (fun _ => 0))), (q2, .inl (T2 0, 56, .inl (fun _ => 0))), (q3, .inl (T2 0, 14, .inl (fun _ => 0))), (q4, .inl (T2 0, 14, .inl (fun _ => 0))), (q5, .inl (T2 0, 14, .inl (fun _ => 0))), (q6, .inl (T2 0, 14, .inl (fun _ => 0))), (q7, .inl (T2 0, 14, .inl (fun _ => 0)))])) rfl ?_
  refine cV_putF (pc := 62) (b1 := []) (b2 := [(q1, .inl (T2 0, 14, .inl (fun _ => 0))), (q2, .inl (T2 0, 56, .inl (fun _ => 0))), (q3, .inl (T2 0, 14, .inl (fun _ => 0))), (q4, .inl (T2 0, 14, .inl (fun _ => 0))), (q5, .inl (T2 0, 14, .inl (fun _ => 0))), (q6, .inl (T2 0, 14, .inl (fun _ => 0))), (q7, .inl (T2 0, 14, .inl (fun _ => 0)))]) F rfl hin_X5 tyX5 tyX5_ok nmX5 9 (by decide) (Nat.le_of_ble_eq_true rfl) rfl hin2 rfl rfl rfl dX5_init_62 (List.mem_of_getElem? (i := 12) rfl) ?_
  refine cV_eq (b' := ((h, .inr (5, [.int 0, .int 0, .int 0, .ref q1, .ref q2, .ref q3, .ref q4, .ref q5, .ref q6, .ref q7, .null, .null, .null, .ref mdl])) :: [(q1, .inl (T2 0, 14, .inl (fun _ => 0))), (q2, .inl (T2 0, 56, .inl (fun _ => 0))), (q3, .inl (T2 0, 14, .inl (fun _ => 0))), (q4, .inl (T2 0, 14, .inl (fun _ => 0))), (q5, .inl (T2 0, 14, .inl (fun _ => 0))), (q6, .inl (T2 0, 14, .inl (fun _ => 0))), (q7, .inl (T2 0, 14, .inl (fun _ => 0)))])) rfl ?_
  refine cV_aload_n (pc := 65) (i := 0) F dX5_init_65 rfl rfl ?_
  refine cV_bipush (pc := 66) (v := 14) F dX5_init_66 (by decide) ?_
  refine cV_newa_int (n := 14) (pc := 68) F rfl (List.mem_of_getElem? (i := 5) rfl) (by decide) (by decide) (Nat.le_of_ble_eq_true rfl) (Nat.le_of_ble_eq_true rfl) (Nat.le_of_ble_eq_true rfl) dX5_init_68 (fun q8 => ?_)
  refine cV_eq (b' := ((h, .inr (5, [.int 0, .int 0, .int 0, .ref q1, .ref q2, .ref q3, .ref q4, .ref q5, .ref q6, .ref q7, .null, .null, .null, .ref mdl])) :: [(q1, .inl (T2 0, 14, .inl (fun _ => 0))), (q2, .inl (T2 0, 56, .inl (fun _ => 0))), (q3, .inl (T2 0, 14, .inl (fun _ => 0))), (q4, .inl (T2 0, 14, .inl (fun _ => 0))), (q5, .inl (T2 0, 14, .inl (fun _ => 0))), (q6, .inl (T2 0, 14, .inl (fun _ => 0))), (q7, .inl (T2 0, 14, .inl (fun _ => 0))), (q8, .inl (T2 0, 14, .inl (fun _ => 0)))])) rfl ?_
  refine cV_putF (pc := 70) (b1 := []) (b2 := [(q1, .inl (T2 0, 14, .inl (fun _ => 0))), (q2, .inl (T2 0, 56, .inl (fun _ => 0))), (q3, .inl (T2 0, 14, .inl (fun _ => 0))), (q4, .inl (T2 0, 14, .inl (fun _ => 0))), (q5, .inl (T2 0, 14, .inl (fun _ => 0))), (q6, .inl (T2 0, 14, .inl (fun _ => 0))), (q7, .inl (T2 0, 14, .inl (fun _ => 0))), (q8, .inl (T2 0, 14, .inl (fun _ => 0)))]) F rfl hin_X5 tyX5 tyX5_ok nmX5 10 (by decide) (Nat.le_of_ble_eq_true rfl) rfl hin2 rfl rfl rfl dX5_init_70 (List.mem_of_getElem? (i := 13) rfl) ?_
  refine cV_eq (b' := ((h, .inr (5, [.int 0, .int 0, .int 0, .ref q1, .ref q2, .ref q3, .ref q4, .ref q5, .ref q6, .ref q7, .ref q8, .null, .null, .ref mdl])) :: [(q1, .inl (T2 0, 14, .inl (fun _ => 0))), (q2, .inl (T2 0, 56, .inl (fun _ => 0))), (q3, .inl (T2 0, 14, .inl (fun _ => 0))), (q4, .inl (T2 0, 14, .inl (fun _ => 0))), (q5, .inl (T2 0, 14, .inl (fun _ => 0))), (q6, .inl (T2 0, 14, .inl (fun _ => 0))), (q7, .inl (T2 0, 14, .inl (fun _ => 0))), (q8, .inl (T2 0, 14, .inl (fun _ => 0)))])) rfl ?_
  refine cV_aload_n (pc := 73) (i := 0) F dX5_init_73 rfl rfl ?_
  refine cV_bipush (pc := 74) (v := 14) F dX5_init_74 (by decide) ?_
  refine cV_newa_int (n := 14) (pc := 76) F rfl (List.mem_of_getElem? (i := 5) rfl) (by decide) (by decide) (Nat.le_of_ble_eq_true rfl) (Nat.le_of_ble_eq_true rfl) (Nat.le_of_ble_eq_true rfl) dX5_init_76 (fun q9 => ?_)
  refine cV_eq (b' := ((h, .inr (5, [.int 0, .int 0, .int 0, .ref q1, .ref q2, .ref q3, .ref q4, .ref q5, .ref q6, .ref q7, .ref q8, .null, .null, .ref mdl])) :: [(q1, .inl (T2 0, 14, .inl (fun _ => 0))), (q2, .inl (T2 0, 56, .inl (fun _ => 0))), (q3, .inl (T2 0, 14, .inl (fun _ => 0))), (q4, .inl (T2 0, 14, .inl (fun _ => 0))), (q5, .inl (T2 0, 14, .inl (fun _ => 0))), (q6, .inl (T2 0, 14, .inl (fun _ => 0))), (q7, .inl (T2 0, 14, .inl (fun _ => 0))), (q8, .inl (T2 0, 14, .inl (fun _ => 0))), (q9, .inl (T2 0, 14, .inl (fun _ => 0)))])) rfl ?_
  refine cV_putF (pc := 78) (b1 := []) (b2 := [(q1, .inl (T2 0, 14, .inl (fun _ => 0))), (q2, .inl (T2 0, 56, .inl (fun _ => 0))), (q3, .inl (T2 0, 14, .inl (fun _ => 0))), (q4, .inl (T2 0, 14, .inl (fun _ => 0))), (q5, .inl (T2 0, 14, .inl (fun _ => 0))), (q6, .inl (T2 0, 14, .inl (fun _ => 0))), (q7, .inl (T2 0, 14, .inl (fun _ => 0))), (q8, .inl (T2 0, 14, .inl (fun _ => 0))), (q9, .inl (T2 0, 14, .inl (fun _ => 0)))]) F rfl hin_X5 tyX5 tyX5_ok nmX5 11 (by decide) (Nat.le_of_ble_eq_true rfl) rfl hin2 rfl rfl rfl dX5_init_78 (List.mem_of_getElem? (i := 14) rfl) ?_
  refine cV_eq (b' := ((h, .inr (5, [.int 0, .int 0, .int 0, .ref q1, .ref q2, .ref q3, .ref q4, .ref q5, .ref q6, .ref q7, .ref q8, .ref q9, .null, .ref mdl])) :: [(q1, .inl (T2 0, 14, .inl (fun _ => 0))), (q2, .inl (T2 0, 56, .inl (fun _ => 0))), (q3, .inl (T2 0, 14, .inl (fun _ => 0))), (q4, .inl (T2 0, 14, .inl (fun _ => 0))), (q5, .inl (T2 0, 14, .inl (fun _ => 0))), (q6, .inl (T2 0, 14, .inl (fun _ => 0))), (q7, .inl (T2 0, 14, .inl (fun _ => 0))), (q8, .inl (T2 0, 14, .inl (fun _ => 0))), (q9, .inl (T2 0, 14, .inl (fun _ => 0)))])) rfl ?_
  refine cV_aload_n (pc := 81) (i := 0) F dX5_init_81 rfl rfl ?_
  refine cV_bipush (pc := 82) (v := 14) F dX5_init_82 (by decide) ?_
  refine cV_newa_int (n := 14) (pc := 84) F rfl (List.mem_of_getElem? (i := 5) rfl) (by decide) (by decide) (Nat.le_of_ble_eq_true rfl) (Nat.le_of_ble_eq_true rfl) (Nat.le_of_ble_eq_true rfl) dX5_init_84 (fun q10 => ?_)
  refine cV_eq (b' := ((h, .inr (5, [.int 0, .int 0, .int 0, .ref q1, .ref q2, .ref q3, .ref q4, .ref q5, .ref q6, .ref q7, .ref q8, .ref q9, .null, .ref mdl])) :: [(q1, .inl (T2 0, 14, .inl (fun _ => 0))), (q2, .inl (T2 0, 56, .inl (fun _ => 0))), (q3, .inl (T2 0, 14, .inl (fun _ => 0))), (q4, .inl (T2 0, 14, .inl (fun _ => 0))), (q5, .inl (T2 0, 14, .inl (fun _ => 0))), (q6, .inl (T2 0, 14, .inl (fun _ => 0))), (q7, .inl (T2 0, 14, .inl (fun _ => 0))), (q8, .inl (T2 0, 14, .inl (fun _ => 0))), (q9, .inl (T2 0, 14, .inl (fun _ => 0))), (q10, .inl (T2 0, 14, .inl (fun _ => 0)))])) rfl ?_
  refine cV_putF (pc := 86) (b1 := []) (b2 := [(q1, .inl (T2 0, 14, .inl (fun _ => 0))), (q2, .inl (T2 0, 56, .inl (fun _ => 0))), (q3, .inl (T2 0, 14, .inl (fun _ => 0))), (q4, .inl (T2 0, 14, .inl (fun _ => 0))), (q5, .inl (T2 0, 14, .inl (fun _ => 0))), (q6, .inl (T2 0, 14, .inl (fun _ => 0))), (q7, .inl (T2 0, 14, .inl (fun _ => 0))), (q8, .inl (T2 0, 14, .inl (fun _ => 0))), (q9, .inl (T2 0, 14, .inl (fun _ => 0))), (q10, .inl (T2 0, 14, .inl (fun _ => 0)))]) F rfl hin_X5 tyX5 tyX5_ok nmX5 12 (by decide) (Nat.le_of_ble_eq_true rfl) rfl hin2 rfl rfl rfl dX5_init_86 (List.mem_of_getElem? (i := 15) rfl) ?_
  refine cV_eq (b' := ((h, .inr (5, [.int 0, .int 0, .int 0, .ref q1, .ref q2, .ref q3, .ref q4, .ref q5, .ref q6, .ref q7, .ref q8, .ref q9, .ref q10, .ref mdl])) :: [(q1, .inl (T2 0, 14, .inl (fun _ => 0))), (q2, .inl (T2 0, 56, .inl (fun _ => 0))), (q3, .inl (T2 0, 14, .inl (fun _ => 0))), (q4, .inl (T2 0, 14, .inl (fun _ => 0))), (q5, .inl (T2 0, 14, .inl (fun _ => 0))), (q6, .inl (T2 0, 14, .inl (fun _ => 0))), (q7, .inl (T2 0, 14, .inl (fun _ => 0))), (q8, .inl (T2 0, 14, .inl (fun _ => 0))), (q9, .inl (T2 0, 14, .inl (fun _ => 0))), (q10, .inl (T2 0, 14, .inl (fun _ => 0)))])) rfl ?_
  refine cV_widen (k := 10) (n := 182) (Nat.le_of_ble_eq_true rfl) (Nat.le_of_ble_eq_true rfl) ?_
  exact cV_vret (pc := 89) F dX5_init_89 rfl (fun kd _ _ => if kd = 23 then h else if kd = 14 then mdl else if kd = 24 then q1 else if kd = 25 then q2 else if kd = 26 then q3 else if kd = 27 then q4 else if kd = 28 then q5 else if kd = 29 then q6 else if kd = 30 then q7 else if kd = 31 then q8 else if kd = 32 then q9 else q10) ⟨rfl, rfl⟩ rfl
