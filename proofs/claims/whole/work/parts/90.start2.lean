theorem lawTs (w : Cond) (h : w ∈ wsL_law0) : w ∈ wsL_law := List.mem_append_left _ (List.mem_append_left _ (List.mem_append_left _ h))
set_option maxHeartbeats 4000000 in
set_option maxRecDepth 100000 in
/-- the constructors and the array, from the entry to the loop -/
theorem law_entry {p : Program} {l : Launch} {e : Env} {s : State} {m : MethodId} {below : List Frame} {meth : Method} {c : Code} {b : Nat} {D : va_G} {A : Nat → Prop} {T2 : Nat → ClassId} {Q : State → Prop} (F : cFx p s m #[Value.ref b] meth c D A T2 RL code 9 ret wsL_law) (k : ∀ (u v : cAd) (q : Nat), cV p l e room_1 s m #[Value.ref b] below meth c D A [] 9 Q (lawIds.map (cC (lawG u v q) T2)) 200 1800 [(0, .ref b), (1, .ref (lawG u v q 0 0 0)), (2, .ref (lawG u v q 14 0 0)), (3, .ref (lawG u v q 34 0 0)), (4, .int (nI (6 * 0)))] [] 23) : cV p l e room_1 s m #[Value.ref b] below meth c D A [] 9 Q [] 0 0 [(0, .ref b)] [] 0 := by
  refine cV_new (pc := 0) (ci := 4) (fs := [.null, .null, .null]) F rfl inlX4 tyX4 tyX4_ok (lawTs (.classLink RL 8 RX4) (by decide +kernel)) (lawTs (.instantiable RX4 3) (by decide +kernel)) (lawTs (.initialized RX4) (by decide +kernel)) (fun j hj => by rcases (show j = 0 ∨ j = 1 ∨ j = 2 by omega) with rfl | rfl | rfl <;> rfl) (Nat.le_of_ble_eq_true rfl) (Nat.le_of_ble_eq_true rfl) dL_law_0 (fun q1 => ?_)
  refine cV_dup (pc := 3) F dL_law_3 rfl ?_
  refine cV_ctor (n := 0) (a0 := q1) (As := []) (pc := 4) F (c_X4_init l D T2 A (w0 := []) (h := q1) rfl) gL_law_X4_init rfl rfl rfl (lawTs (.initialized RX4) (by decide +kernel)) (lawTs (.methodLink RL 77 yX4_init) (by decide +kernel)) (lawTs (.instanceMethod yX4_init) (by decide +kernel)) rfl (by decide +kernel) ⟨(Nat.le_of_ble_eq_true rfl), (Nat.le_of_ble_eq_true rfl)⟩ rfl rfl (Nat.le_of_ble_eq_true rfl) dL_law_4 ⟨(Nat.le_of_ble_eq_true rfl), (Nat.le_of_ble_eq_true rfl)⟩ (bf := fun u => clsIds.map (cC u T2)) (fun _ => rfl) (fun u hu => ?_)
  subst hu
  refine cV_astore_n (pc := 7) (i := 1) F dL_law_7 rfl (by decide) ?_
  refine cV_new (pc := 8) (ci := 6) (fs := [.int 0, .int 0, .null, .null, .null, .int 0, .null, .null, .null, .null, .null, .null, .null]) F rfl inlX6 tyX6 tyX6_ok (lawTs (.classLink RL 78 RX6) (by decide +kernel)) (lawTs (.instantiable RX6 13) (by decide +kernel)) (lawTs (.initialized RX6) (by decide +kernel)) (fun j hj => by rcases (show j = 0 ∨ j = 1 ∨ j = 2 ∨ j = 3 ∨ j = 4 ∨ j = 5 ∨ j = 6 ∨ j = 7 ∨ j = 8 ∨ j = 9 ∨ j = 10 ∨ j = 11 ∨ j = 12 by omega) with rfl | rfl | rfl | rfl | rfl | rfl | rfl | rfl | rfl | rfl | rfl | rfl | rfl <;> rfl) (Nat.le_of_ble_eq_true rfl) (Nat.le_of_ble_eq_true rfl) dL_law_8 (fun q2 => ?_)
  refine cV_dup (pc := 11) F dL_law_11 rfl ?_
  refine cV_ctor (n := 0) (a0 := q2) (As := []) (pc := 12) F (c_X6_init l D T2 A (w0 := clsIds.map (cC u T2)) (h := q2) rfl) gL_law_X6_init rfl rfl rfl (lawTs (.initialized RX6) (by decide +kernel)) (lawTs (.methodLink RL 80 yX6_init) (by decide +kernel)) (lawTs (.instanceMethod yX6_init) (by decide +kernel)) rfl (by decide +kernel) ⟨(Nat.le_of_ble_eq_true rfl), (Nat.le_of_ble_eq_true rfl)⟩ rfl rfl (Nat.le_of_ble_eq_true rfl) dL_law_12 ⟨(Nat.le_of_ble_eq_true rfl), (Nat.le_of_ble_eq_true rfl)⟩ (bf := fun v => clsIds.map (cC u T2) ++ mdlIds.map (cC v T2)) (fun _ => rfl) (fun v hv => ?_)
  subst hv
  refine cV_astore_n (pc := 15) (i := 2) F dL_law_15 rfl (by decide) ?_
  refine cV_iconst (pc := 16) (v := 1) F dL_law_16 rfl ?_
  refine cV_newa_long (n := 1) (pc := 17) F rfl (lawTs (.arrayClass .long) (by decide +kernel)) (by decide) (by decide) (Nat.le_of_ble_eq_true rfl) (Nat.le_of_ble_eq_true rfl) (Nat.le_of_ble_eq_true rfl) dL_law_17 (fun q3 => ?_)
  refine cV_astore_n (pc := 19) (i := 3) F dL_law_19 rfl (by decide) ?_
  refine cV_iconst (pc := 20) (v := 0) F dL_law_20 rfl ?_
  refine cV_istore (pc := 21) (i := 4) F dL_law_21 (by decide) ?_
  refine cV_eq (law_block u v T2 q3) ?_
  refine cV_widen (k := 200) (n := 1800) (Nat.le_of_ble_eq_true rfl) (Nat.le_of_ble_eq_true rfl) ?_
  refine cV_lv ?_ (k u v q3)
  exact ⟨rfl, rfl, rfl, rfl, rfl, trivial⟩
set_option maxHeartbeats 4000000 in
set_option maxRecDepth 100000 in
/-- from the entry, for every script of at most 3072 ints, the law comes to its end with true -/
theorem whole_start {p : Program} {e : Env} {s : State} {m : MethodId} {below : List Frame} {meth : Method} {c : Code} (l : Launch) (hflags : l.flags = flags0) {b L : Nat} {xs : Nat → Int32} (hL : L ≤ 3072) (C0 : lw_At p s m meth c b L xs) : W p l e room_1 s m #[Value.ref b] below meth c s.heap [] 0 0 (lw_Z below #[Value.ref b] s) (entryFrame m ([Value.ref b] : List Value).toArray 9) := by
  obtain ⟨hx, hb, hr, hml, hown, hts, hX0, hbl, hlocks, hgv⟩ := id C0
  obtain ⟨D, T2, hK⟩ := law_K hts
  have hXX := law_X hts hgv
  have hl9 : l.stackTraces = false := by
    unfold Launch.stackTraces
    rw [hflags]
    decide
  have hTs : ∀ w ∈ wsL_law, w.before #[Value.ref b] s = true := fun w hw => hts w (wsL_law_in w hw)
  have hbA : ¬ (fun q : Nat => s.heap.size ≤ q) b := Nat.not_le.mpr hbl
  have F : cFx p s m #[Value.ref b] meth c D (fun q : Nat => s.heap.size ≤ q) T2 RL code 9 ret wsL_law := ⟨hx, hb, hml, hr, hown, hTs, hK, law_E hts, fun _ h => h, hlocks⟩
  have K := law_entry (l := l) (e := e) (below := below) (Q := lw_Z below #[Value.ref b] s) F (fun u v q H locs ls hP hD hS hl => by
    obtain ⟨hPw, hDw⟩ := law_world (g := lawG u v q) rfl hP hD
    have FF : fmF p s m #[Value.ref b] meth c D (fun q : Nat => s.heap.size ≤ q) (lawG u v q, T2) RL code 9 ret wsL_law := ⟨hx, hb, hml, hr, hown, hTs, hK, hDw, fun _ h => h, hlocks⟩
    exact law_loop FF hXX hl9 rfl hX0 hbl hbA hL (fun _ h => h) 513 0 rfl 0 0 0 fmNew fmNewO law_rI (Nat.le_refl _) H locs ls hPw hS hl)
  have hl := lv_entry ([.ref b]) (n := 9) (Nat.le_of_ble_eq_true rfl)
  rw [lg_entry_eq]
  exact K s.heap [] _ (fun k q h => by simp at h) ⟨fun i j p q h => by simp at h, fun k q h => by simp at h⟩ va_S.rf hl
