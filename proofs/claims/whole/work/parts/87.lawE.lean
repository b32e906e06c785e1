set_option maxHeartbeats 4000000 in
set_option maxRecDepth 100000 in
theorem law_mean {p : Program} {l : Launch} {e : Env} {s : State} {m : MethodId} {below : List Frame} {meth : Method} {c : Code} {b L : Nat} {xs : Nat → Int32} {D : va_G} {A : Nat → Prop} {G : fmG} (F : fmF p s m #[Value.ref b] meth c D A G RL code 9 ret wsL_law) (hX : fmX A s) (hl9 : l.stackTraces = false) (hG : G.1 36 0 0 = 0) (hXs : va_X b L xs s s.heap) (hbl : b < s.heap.size) (hbA : ¬ A b) (hL : L ≤ 3072) {j : Nat} (hj : 6 * j + 6 ≤ L) {rc cc t : Nat} {σ : fmS} {o : Nat → Int64} (I : rI rc cc t σ) (ht : t ≤ 200 * j) (next : ∀ (rc cc t : Nat) (σ : fmS) (o : Nat → Int64), rI rc cc t σ → t ≤ 200 * (j + 1) → fmV p l e room_1 s m #[Value.ref b] below meth c D A G 9 o (lw_Z below #[Value.ref b] s) σ (200 + 170 * (j + 1)) (1800 + 1850 * (j + 1)) [(0, .ref b), (1, .ref (G.1 0 0 0)), (2, .ref (G.1 14 0 0)), (3, .ref (G.1 34 0 0)), (4, .int (nI (6 * (j + 1))))] [] 23) : fmV p l e room_1 s m #[Value.ref b] below meth c D A G 9 o (lw_Z below #[Value.ref b] s) σ (200 + 170 * j) (1800 + 1850 * j) [(0, .ref b), (1, .ref (G.1 0 0 0)), (2, .ref (G.1 14 0 0)), (3, .ref (G.1 34 0 0)), (4, .int (nI (6 * j)))] [] 1463 := by
  have hgz := I.1.1
  obtain ⟨⟨hrc, hcc, -, -, -, -⟩, -⟩ := id hgz
  obtain ⟨h65, h66, -, -⟩ := I.1.2.1.2.2.2.1
  refine fmV_aload_n (pc := 1463) (i := 1) F dL_law_1463 rfl rfl ?_
  refine fmV_cVd (n := 0) (pc := 1464) F (c_X4_mean l D A G σ o (fun h => fq_mean h)) gL_law_X4_mean rfl rfl rfl (by decide +kernel) ⟨Nat.le_of_ble_eq_true rfl, Nat.le_of_ble_eq_true rfl⟩ (fmR_0 F) rfl rfl (Nat.le_of_ble_eq_true rfl) dL_law_1464 ⟨by show _ ≤ 601024; omega, by show _ ≤ 7293034; omega⟩ (fun d1 u1 hd1 => ?_)
  obtain ⟨hd1, hu1⟩ := hd1
  have hu1 := hu1.symm
  subst hu1
  refine fmV_dstore (pc := 1467) (i := 5) F dL_law_1467 (by decide) ?_
  refine fmV_aload_n (pc := 1469) (i := 2) F dL_law_1469 rfl rfl ?_
  refine fmV_xVd (n := 0) (pc := 1470) F hX (c_X6_mean l D A G _ o (fun h => fq_mean h)) gL_law_X6_mean rfl rfl rfl (by decide +kernel) ⟨Nat.le_of_ble_eq_true rfl, Nat.le_of_ble_eq_true rfl⟩ (fmR_14 F) rfl rfl (Nat.le_of_ble_eq_true rfl) dL_law_1470 ⟨by show _ ≤ 601024; omega, by show _ ≤ 7293034; omega⟩ (fun _ _ h9 => False.elim h9) (fun d2 u2 hd2 => ?_)
  obtain ⟨hd2, hu2⟩ := hd2
  have e12 : d2 = d1 := by rw [hd2, hd1, h65, h66]
  have hn : vf_n64 d1 := by
    rw [hd1]
    split
    · exact fq_vf (N := 0) (by decide)
    · next h => exact fq_mean h
  subst e12
  subst hu2
  refine fmV_dstore (pc := 1473) (i := 7) F dL_law_1473 (by decide) ?_
  refine fmV_dload (pc := 1475) (i := 5) F dL_law_1475 rfl ?_
  refine fmV_dload (pc := 1477) (i := 7) F dL_law_1477 rfl ?_
  refine fmV_dcmp (pc := 1479) F dL_law_1479 ?_
  refine fmV_if_eq (pc := 1480) (tgt := 1501) F dL_law_1480 (by decide) (fun h9 => ?_) (fun h9 => ?_)
  · refine fmV_goto (pc := 1501) (tgt := 1518) F dL_law_1501 (by decide) ?_
    refine fmV_iinc (pc := 1518) (i := 4) (v := nI (6 * (j + 1))) F dL_law_1518 rfl (nI_add (6 * j) 6) (by decide) ?_
    refine fmV_goto (pc := 1521) (tgt := 23) F dL_law_1521 (by decide) ?_
    refine fmV_widen (k := 200 + 170 * (j + 1)) (n := 1800 + 1850 * (j + 1)) (by omega) (by omega) ?_
    refine fmV_lv ?_ (next rc cc t _ o (rI_gz I) (by omega))
    exact ⟨rfl, rfl, rfl, rfl, rfl, trivial⟩
  · exact absurd (by rw [fq_same hn]; exact cmp_eq _) h9

set_option maxHeartbeats 4000000 in
set_option maxRecDepth 100000 in
theorem law_digest {p : Program} {l : Launch} {e : Env} {s : State} {m : MethodId} {below : List Frame} {meth : Method} {c : Code} {b L : Nat} {xs : Nat → Int32} {D : va_G} {A : Nat → Prop} {G : fmG} (F : fmF p s m #[Value.ref b] meth c D A G RL code 9 ret wsL_law) (hX : fmX A s) (hl9 : l.stackTraces = false) (hG : G.1 36 0 0 = 0) (hXs : va_X b L xs s s.heap) (hbl : b < s.heap.size) (hbA : ¬ A b) (hL : L ≤ 3072) {j : Nat} (hj : 6 * j + 6 ≤ L) {rc cc t : Nat} {σ : fmS} {o : Nat → Int64} (I : rI rc cc t σ) (ht : t ≤ 200 * j) (next : ∀ (rc cc t : Nat) (σ : fmS) (o : Nat → Int64), rI rc cc t σ → t ≤ 200 * (j + 1) → fmV p l e room_1 s m #[Value.ref b] below meth c D A G 9 o (lw_Z below #[Value.ref b] s) σ (200 + 170 * (j + 1)) (1800 + 1850 * (j + 1)) [(0, .ref b), (1, .ref (G.1 0 0 0)), (2, .ref (G.1 14 0 0)), (3, .ref (G.1 34 0 0)), (4, .int (nI (6 * (j + 1))))] [] 23) : fmV p l e room_1 s m #[Value.ref b] below meth c D A G 9 o (lw_Z below #[Value.ref b] s) σ (200 + 170 * j) (1800 + 1850 * j) [(0, .ref b), (1, .ref (G.1 0 0 0)), (2, .ref (G.1 14 0 0)), (3, .ref (G.1 34 0 0)), (4, .int (nI (6 * j)))] [] 1504 := by
  have hgz := I.1.1
  obtain ⟨⟨hrc, hcc, -, h40, h41, h42⟩, hco⟩ := id hgz
  obtain ⟨h62, h63, h64⟩ := I.2.1
  refine fmV_aload_n (pc := 1504) (i := 1) F dL_law_1504 rfl rfl ?_
  refine fmV_cVl (n := 0) (pc := 1505) F (c_X4_digest l D A G σ o hgz) gL_law_X4_digest rfl rfl rfl (by decide +kernel) ⟨Nat.le_of_ble_eq_true rfl, Nat.le_of_ble_eq_true rfl⟩ (fmR_0 F) rfl rfl (Nat.le_of_ble_eq_true rfl) dL_law_1505 ⟨by show _ ≤ 601024; omega, by show _ ≤ 7293034; omega⟩ (fun d1 u1 hd1 => ?_)
  obtain ⟨hd1, hu1⟩ := hd1
  have hu1 := hu1.symm
  subst hu1
  refine fmV_aload_n (pc := 1508) (i := 2) F dL_law_1508 rfl rfl ?_
  have hpl : ∀ r, r < rc → ∃ q, q ≤ 6 ∧ σ 15 0 0 r = nI q := fun r hr => by
    obtain ⟨q, v, g1, -, g3, -⟩ := good_row hgz hr
    exact ⟨q, g1, by rw [I.1.2.1.2.2.2.2.1 r hr, g3]⟩
  refine fmV_xVl (n := 0) (pc := 1509) F hX (c_X6_digest l D A G _ o hG hcc h63 hrc h62 (by omega) h64 hpl) gL_law_X6_digest rfl rfl rfl (by decide +kernel) ⟨Nat.le_of_ble_eq_true rfl, Nat.le_of_ble_eq_true rfl⟩ (fmR_14 F) rfl rfl (Nat.le_of_ble_eq_true rfl) dL_law_1509 ⟨by show _ ≤ 601024; omega, by show _ ≤ 7293034; omega⟩ (fun _ _ h9 => False.elim h9) (fun d2 u2 hd2 => ?_)
  obtain ⟨hd2, hu2⟩ := hd2
  subst hu2
  have hA9 := (rGo_md I.1 mK_refl).2.1
  have e12 : d2 = d1 := by
    rw [hd2, hd1]
    exact dig_eq hco hrc hcc hA9 (fun w => cnt_eq hcc hA9 (by rw [gz_c (by decide), h62, h40]) (by rw [gz_c (by decide), h63, h41]) (by rw [gz_c (by decide), h64, h42])) I.2.2.2.2 rfl
  subst e12
  refine fmV_lcmp (pc := 1512) F dL_law_1512 ?_
  refine fmV_if_eq (pc := 1513) (tgt := 1518) F dL_law_1513 (by decide) (fun h9 => ?_) (fun h9 => ?_)
  · refine fmV_iinc (pc := 1518) (i := 4) (v := nI (6 * (j + 1))) F dL_law_1518 rfl (nI_add (6 * j) 6) (by decide) ?_
    refine fmV_goto (pc := 1521) (tgt := 23) F dL_law_1521 (by decide) ?_
    refine fmV_widen (k := 200 + 170 * (j + 1)) (n := 1800 + 1850 * (j + 1)) (by omega) (by omega) ?_
    refine fmV_lv ?_ (next rc cc t _ o (rI_gz I) (by omega))
    exact ⟨rfl, rfl, rfl, rfl, rfl, trivial⟩
  · exact absurd (lg_same _) h9

set_option maxHeartbeats 4000000 in
set_option maxRecDepth 100000 in
theorem law_none {p : Program} {l : Launch} {e : Env} {s : State} {m : MethodId} {below : List Frame} {meth : Method} {c : Code} {b L : Nat} {xs : Nat → Int32} {D : va_G} {A : Nat → Prop} {G : fmG} (F : fmF p s m #[Value.ref b] meth c D A G RL code 9 ret wsL_law) (hX : fmX A s) (hl9 : l.stackTraces = false) (hG : G.1 36 0 0 = 0) (hXs : va_X b L xs s s.heap) (hbl : b < s.heap.size) (hbA : ¬ A b) (hL : L ≤ 3072) {j : Nat} (hj : 6 * j + 6 ≤ L) {rc cc t : Nat} {σ : fmS} {o : Nat → Int64} (I : rI rc cc t σ) (ht : t ≤ 200 * j) (next : ∀ (rc cc t : Nat) (σ : fmS) (o : Nat → Int64), rI rc cc t σ → t ≤ 200 * (j + 1) → fmV p l e room_1 s m #[Value.ref b] below meth c D A G 9 o (lw_Z below #[Value.ref b] s) σ (200 + 170 * (j + 1)) (1800 + 1850 * (j + 1)) [(0, .ref b), (1, .ref (G.1 0 0 0)), (2, .ref (G.1 14 0 0)), (3, .ref (G.1 34 0 0)), (4, .int (nI (6 * (j + 1))))] [] 23) : fmV p l e room_1 s m #[Value.ref b] below meth c D A G 9 o (lw_Z below #[Value.ref b] s) σ (200 + 170 * j) (1800 + 1850 * j) [(0, .ref b), (1, .ref (G.1 0 0 0)), (2, .ref (G.1 14 0 0)), (3, .ref (G.1 34 0 0)), (4, .int (nI (6 * j)))] [] 1518 := by
  refine fmV_iinc (pc := 1518) (i := 4) (v := nI (6 * (j + 1))) F dL_law_1518 rfl (nI_add (6 * j) 6) (by decide) ?_
  refine fmV_goto (pc := 1521) (tgt := 23) F dL_law_1521 (by decide) ?_
  refine fmV_widen (k := 200 + 170 * (j + 1)) (n := 1800 + 1850 * (j + 1)) (by omega) (by omega) ?_
  refine fmV_lv ?_ (next rc cc t σ o I (by omega))
  exact ⟨rfl, rfl, rfl, rfl, rfl, trivial⟩
