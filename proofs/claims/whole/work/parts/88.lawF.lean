set_option maxHeartbeats 4000000 in
set_option maxRecDepth 100000 in
theorem law_step {p : Program} {l : Launch} {e : Env} {s : State} {m : MethodId} {below : List Frame} {meth : Method} {c : Code} {b L : Nat} {xs : Nat → Int32} {D : va_G} {A : Nat → Prop} {G : fmG} (F : fmF p s m #[Value.ref b] meth c D A G RL code 9 ret wsL_law) (hX : fmX A s) (hl9 : l.stackTraces = false) (hG : G.1 36 0 0 = 0) (hXs : va_X b L xs s s.heap) (hbl : b < s.heap.size) (hbA : ¬ A b) (hL : L ≤ 3072) (hAe : ∀ q, A q → s.heap.size ≤ q) {j : Nat} (hj9 : j ≤ 513) {rc cc t : Nat} {σ : fmS} {o : Nat → Int64} (I : rI rc cc t σ) (ht : t ≤ 200 * j) (next : 6 * j + 6 ≤ L → ∀ (rc cc t : Nat) (σ : fmS) (o : Nat → Int64), rI rc cc t σ → t ≤ 200 * (j + 1) → fmV p l e room_1 s m #[Value.ref b] below meth c D A G 9 o (lw_Z below #[Value.ref b] s) σ (200 + 170 * (j + 1)) (1800 + 1850 * (j + 1)) [(0, .ref b), (1, .ref (G.1 0 0 0)), (2, .ref (G.1 14 0 0)), (3, .ref (G.1 34 0 0)), (4, .int (nI (6 * (j + 1))))] [] 23) : fmV p l e room_1 s m #[Value.ref b] below meth c D A G 9 o (lw_Z below #[Value.ref b] s) σ (200 + 170 * j) (1800 + 1850 * j) [(0, .ref b), (1, .ref (G.1 0 0 0)), (2, .ref (G.1 14 0 0)), (3, .ref (G.1 34 0 0)), (4, .int (nI (6 * j)))] [] 23 := by
  refine fmV_iload (pc := 23) (i := 4) F dL_law_23 rfl ?_
  refine fmV_aload_n (pc := 25) (i := 0) F dL_law_25 rfl rfl ?_
  refine fmV_slen (pc := 26) F hXs hbl hbA dL_law_26 ?_
  refine fmV_bipush (pc := 27) (v := nI 6) F dL_law_27 rfl ?_
  refine fmV_isub (pc := 29) F dL_law_29 ?_
  have e6 : (nI L - nI 6).toInt = (L : Int) - (6 : Nat) := pk_sub_toInt (by omega) (by decide)
  have ej : (nI (6 * j)).toInt = ((6 * j : Nat) : Int) := nI_toInt (by omega)
  refine fmV_icmp_gt (pc := 30) (tgt := 1524) F dL_law_30 (by decide) (fun h => ?_) (fun h => ?_)
  · refine fmV_iconst (pc := 1524) (v := 1) F dL_law_1524 rfl ?_
    exact fmV_lawret F hAe dL_law_1525 (by omega) (by omega)
  · have hj : 6 * j + 6 ≤ L := by
      rw [Int32.lt_iff_toInt_lt, e6, ej] at h
      omega
    refine fmV_aload_n (pc := 33) (i := 0) F dL_law_33 rfl rfl ?_
    refine fmV_iload (pc := 34) (i := 4) F dL_law_34 rfl ?_
    refine fmV_sld (pc := 36) F hXs hbl hbA dL_law_36 (fm_in rfl (by omega) (by omega)) (fm_cl rfl (by omega)) ?_
    refine fmV_bipush (pc := 37) (v := 31) F dL_law_37 rfl ?_
    refine fmV_iand (pc := 39) F dL_law_39 ?_
    obtain ⟨w, hw, ew⟩ := and31 (xs (6 * j))
    rw [ew]
    have hnx := next hj
    rcases (show w = 0 ∨ w = 1 ∨ w = 2 ∨ w = 3 ∨ w = 4 ∨ w = 5 ∨ w = 6 ∨ w = 7 ∨ w = 8 ∨ w = 9 ∨ w = 10 ∨ w = 11 ∨ w = 12 ∨ w = 13 ∨ w = 14 ∨ w = 15 ∨ w = 16 ∨ w = 17 ∨ w = 18 ∨ w = 19 ∨ w = 20 ∨ 21 ≤ w by omega) with rfl | rfl | rfl | rfl | rfl | rfl | rfl | rfl | rfl | rfl | rfl | rfl | rfl | rfl | rfl | rfl | rfl | rfl | rfl | rfl | rfl | h21
    · exact fmV_tableIn (pc := 40) (off := 100) (tgt := 140) F dL_law_40 (by decide) (by decide) rfl (by decide) (law_addRow F hX hl9 hG hXs hbl hbA hL hj I ht hnx)
    · exact fmV_tableIn (pc := 40) (off := 156) (tgt := 196) F dL_law_40 (by decide) (by decide) rfl (by decide) (law_setWater F hX hl9 hG hXs hbl hbA hL hj I ht hnx)
    · exact fmV_tableIn (pc := 40) (off := 236) (tgt := 276) F dL_law_40 (by decide) (by decide) rfl (by decide) (law_addCanoe F hX hl9 hG hXs hbl hbA hL hj I ht hnx)
    · exact fmV_tableIn (pc := 40) (off := 304) (tgt := 344) F dL_law_40 (by decide) (by decide) rfl (by decide) (law_load F hX hl9 hG hXs hbl hbA hL hj I ht hnx)
    · exact fmV_tableIn (pc := 40) (off := 384) (tgt := 424) F dL_law_40 (by decide) (by decide) rfl (by decide) (law_offer F hX hl9 hG hXs hbl hbA hL hj I ht hnx)
    · exact fmV_tableIn (pc := 40) (off := 488) (tgt := 528) F dL_law_40 (by decide) (by decide) rfl (by decide) (law_moor F hX hl9 hG hXs hbl hbA hL hj I ht hnx)
    · exact fmV_tableIn (pc := 40) (off := 556) (tgt := 596) F dL_law_40 (by decide) (by decide) rfl (by decide) (law_castOff F hX hl9 hG hXs hbl hbA hL hj I ht hnx)
    · exact fmV_tableIn (pc := 40) (off := 612) (tgt := 652) F dL_law_40 (by decide) (by decide) rfl (by decide) (law_leaveIn F hX hl9 hG hXs hbl hbA hL hj I ht hnx)
    · exact fmV_tableIn (pc := 40) (off := 680) (tgt := 720) F dL_law_40 (by decide) (by decide) rfl (by decide) (law_canoe F hX hl9 hG hXs hbl hbA hL hj I ht hnx)
    · exact fmV_tableIn (pc := 40) (off := 748) (tgt := 788) F dL_law_40 (by decide) (by decide) rfl (by decide) (law_good F hX hl9 hG hXs hbl hbA hL hj I ht hnx)
    · exact fmV_tableIn (pc := 40) (off := 828) (tgt := 868) F dL_law_40 (by decide) (by decide) rfl (by decide) (law_at F hX hl9 hG hXs hbl hbA hL hj I ht hnx)
    · exact fmV_tableIn (pc := 40) (off := 896) (tgt := 936) F dL_law_40 (by decide) (by decide) rfl (by decide) (law_beside F hX hl9 hG hXs hbl hbA hL hj I ht hnx)
    · exact fmV_tableIn (pc := 40) (off := 971) (tgt := 1011) F dL_law_40 (by decide) (by decide) rfl (by decide) (law_pass F hX hl9 hG hXs hbl hbA hL hj I ht hnx)
    · exact fmV_tableIn (pc := 40) (off := 1027) (tgt := 1067) F dL_law_40 (by decide) (by decide) rfl (by decide) (law_count F hX hl9 hG hXs hbl hbA hL hj I ht hnx)
    · exact fmV_tableIn (pc := 40) (off := 1083) (tgt := 1123) F dL_law_40 (by decide) (by decide) rfl (by decide) (law_foresee F hX hl9 hG hXs hbl hbA hL hj I ht hnx)
    · exact fmV_tableIn (pc := 40) (off := 1163) (tgt := 1203) F dL_law_40 (by decide) (by decide) rfl (by decide) (law_full F hX hl9 hG hXs hbl hbA hL hj I ht hnx)
    · exact fmV_tableIn (pc := 40) (off := 1219) (tgt := 1259) F dL_law_40 (by decide) (by decide) rfl (by decide) (law_gone F hX hl9 hG hXs hbl hbA hL hj I ht hnx)
    · exact fmV_tableIn (pc := 40) (off := 1275) (tgt := 1315) F dL_law_40 (by decide) (by decide) rfl (by decide) (law_advise F hX hl9 hG hXs hbl hbA hL hj I ht hnx)
    · exact fmV_tableIn (pc := 40) (off := 1343) (tgt := 1383) F dL_law_40 (by decide) (by decide) rfl (by decide) (law_price F hX hl9 hG hXs hbl hbA hL hj I ht hnx)
    · exact fmV_tableIn (pc := 40) (off := 1423) (tgt := 1463) F dL_law_40 (by decide) (by decide) rfl (by decide) (law_mean F hX hl9 hG hXs hbl hbA hL hj I ht hnx)
    · exact fmV_tableIn (pc := 40) (off := 1464) (tgt := 1504) F dL_law_40 (by decide) (by decide) rfl (by decide) (law_digest F hX hl9 hG hXs hbl hbA hL hj I ht hnx)
    · exact fmV_tableOut (pc := 40) (tgt := 1518) F dL_law_40 (Or.inr (by rw [nI_toInt (by omega)]; omega)) (by decide) (law_none F hX hl9 hG hXs hbl hbA hL hj I ht hnx)

theorem law_loop {p : Program} {l : Launch} {e : Env} {s : State} {m : MethodId} {below : List Frame} {meth : Method} {c : Code} {b L : Nat} {xs : Nat → Int32} {D : va_G} {A : Nat → Prop} {G : fmG} (F : fmF p s m #[Value.ref b] meth c D A G RL code 9 ret wsL_law) (hX : fmX A s) (hl9 : l.stackTraces = false) (hG : G.1 36 0 0 = 0) (hXs : va_X b L xs s s.heap) (hbl : b < s.heap.size) (hbA : ¬ A b) (hL : L ≤ 3072) (hAe : ∀ q, A q → s.heap.size ≤ q) : ∀ (n j : Nat), j + n = 513 → ∀ (rc cc t : Nat) (σ : fmS) (o : Nat → Int64), rI rc cc t σ → t ≤ 200 * j → fmV p l e room_1 s m #[Value.ref b] below meth c D A G 9 o (lw_Z below #[Value.ref b] s) σ (200 + 170 * j) (1800 + 1850 * j) [(0, .ref b), (1, .ref (G.1 0 0 0)), (2, .ref (G.1 14 0 0)), (3, .ref (G.1 34 0 0)), (4, .int (nI (6 * j)))] [] 23
  | 0, j, hn, rc, cc, t, σ, o, I, ht => law_step F hX hl9 hG hXs hbl hbA hL hAe (by omega) I ht (fun h => by omega)
  | n + 1, j, hn, rc, cc, t, σ, o, I, ht => law_step F hX hl9 hG hXs hbl hbA hL hAe (by omega) I ht (fun h => law_loop F hX hl9 hG hXs hbl hbA hL hAe n (j + 1) (by omega))
