set_option maxHeartbeats 4000000 in
set_option maxRecDepth 100000 in
theorem law_setWater {p : Program} {l : Launch} {e : Env} {s : State} {m : MethodId} {below : List Frame} {meth : Method} {c : Code} {b L : Nat} {xs : Nat → Int32} {D : va_G} {A : Nat → Prop} {G : fmG} (F : fmF p s m #[Value.ref b] meth c D A G RL code 9 ret wsL_law) (hX : fmX A s) (hl9 : l.stackTraces = false) (hG : G.1 36 0 0 = 0) (hXs : va_X b L xs s s.heap) (hbl : b < s.heap.size) (hbA : ¬ A b) (hL : L ≤ 3072) {j : Nat} (hj : 6 * j + 6 ≤ L) {rc cc t : Nat} {σ : fmS} {o : Nat → Int64} (I : rI rc cc t σ) (ht : t ≤ 200 * j) (next : ∀ (rc cc t : Nat) (σ : fmS) (o : Nat → Int64), rI rc cc t σ → t ≤ 200 * (j + 1) → fmV p l e room_1 s m #[Value.ref b] below meth c D A G 9 o (lw_Z below #[Value.ref b] s) σ (200 + 170 * (j + 1)) (1800 + 1850 * (j + 1)) [(0, .ref b), (1, .ref (G.1 0 0 0)), (2, .ref (G.1 14 0 0)), (3, .ref (G.1 34 0 0)), (4, .int (nI (6 * (j + 1))))] [] 23) : fmV p l e room_1 s m #[Value.ref b] below meth c D A G 9 o (lw_Z below #[Value.ref b] s) σ (200 + 170 * j) (1800 + 1850 * j) [(0, .ref b), (1, .ref (G.1 0 0 0)), (2, .ref (G.1 14 0 0)), (3, .ref (G.1 34 0 0)), (4, .int (nI (6 * j)))] [] 196 := by
  have hgz := I.1.1
  obtain ⟨⟨hrc, hcc, -, -, -, -⟩, -⟩ := id hgz
  refine fmV_aload_n (pc := 196) (i := 1) F dL_law_196 rfl rfl ?_
  refine fmV_aload_n (pc := 197) (i := 0) F dL_law_197 rfl rfl ?_
  refine fmV_iload (pc := 198) (i := 4) F dL_law_198 rfl ?_
  refine fmV_iconst (pc := 200) (v := 1) F dL_law_200 rfl ?_
  refine fmV_iadd (pc := 201) F dL_law_201 ?_
  refine fmV_sld (pc := 202) F hXs hbl hbA dL_law_202 (fm_in (nI_add (6 * j) 1) (by omega) (by omega)) (fm_cl (nI_add (6 * j) 1) (by omega)) ?_
  refine fmV_aload_n (pc := 203) (i := 0) F dL_law_203 rfl rfl ?_
  refine fmV_iload (pc := 204) (i := 4) F dL_law_204 rfl ?_
  refine fmV_iconst (pc := 206) (v := 2) F dL_law_206 rfl ?_
  refine fmV_iadd (pc := 207) F dL_law_207 ?_
  refine fmV_sld (pc := 208) F hXs hbl hbA dL_law_208 (fm_in (nI_add (6 * j) 2) (by omega) (by omega)) (fm_cl (nI_add (6 * j) 2) (by omega)) ?_
  refine fmV_aload_n (pc := 209) (i := 0) F dL_law_209 rfl rfl ?_
  refine fmV_iload (pc := 210) (i := 4) F dL_law_210 rfl ?_
  refine fmV_iconst (pc := 212) (v := 3) F dL_law_212 rfl ?_
  refine fmV_iadd (pc := 213) F dL_law_213 ?_
  refine fmV_sld (pc := 214) F hXs hbl hbA dL_law_214 (fm_in (nI_add (6 * j) 3) (by omega) (by omega)) (fm_cl (nI_add (6 * j) 3) (by omega)) ?_
  refine fmV_aload_n (pc := 215) (i := 3) F dL_law_215 rfl rfl ?_
  refine fmV_lSi (n := 5) (pc := 216) F hX (c_L_setWater l D A G σ o (xs (6 * j + 1)) (xs (6 * j + 2)) (xs (6 * j + 3)) (c_X4_setWater l D A G σ o hl9 hgz (xs (6 * j + 1)) (xs (6 * j + 2)) (xs (6 * j + 3))) (fun E9 u9 h9 => by
      rcases fmFirst_in h9.2 with rfl | rfl | rfl | h9
      · exact (Or.inl rfl)
      · exact (Or.inr rfl)
      · exact (Or.inr rfl)
      · exact h9.elim)) gL_law_L_setWater rfl rfl rfl (by decide +kernel) ⟨Nat.le_of_ble_eq_true rfl, Nat.le_of_ble_eq_true rfl⟩ rfl rfl (Nat.le_of_ble_eq_true rfl) dL_law_216 ⟨by show _ ≤ 601024; omega, by show _ ≤ 7293034; omega⟩ (fun k9 z9 hk9 => ?_)
  obtain ⟨hm9, hop⟩ := op_setWater I (by omega) (xs (6 * j + 1)) (xs (6 * j + 2)) (xs (6 * j + 3)) hk9
  have g63 : z9.1 63 0 0 0 = nI cc := by rw [hm9 63 0 0 (by decide)]; exact I.2.1.2.1
  have g62 : z9.1 62 0 0 0 = nI rc := by rw [hm9 62 0 0 (by decide)]; exact I.2.1.1
  have g64 : z9.1 64 0 0 0 = nI t := by rw [hm9 64 0 0 (by decide)]; exact I.2.1.2.2
  refine fmV_istore (pc := 219) (i := 5) F dL_law_219 (by decide) ?_
  refine fmV_aload_n (pc := 221) (i := 2) F dL_law_221 rfl rfl ?_
  refine fmV_aload_n (pc := 222) (i := 0) F dL_law_222 rfl rfl ?_
  refine fmV_iload (pc := 223) (i := 4) F dL_law_223 rfl ?_
  refine fmV_iconst (pc := 225) (v := 1) F dL_law_225 rfl ?_
  refine fmV_iadd (pc := 226) F dL_law_226 ?_
  refine fmV_sld (pc := 227) F hXs hbl hbA dL_law_227 (fm_in (nI_add (6 * j) 1) (by omega) (by omega)) (fm_cl (nI_add (6 * j) 1) (by omega)) ?_
  refine fmV_aload_n (pc := 228) (i := 0) F dL_law_228 rfl rfl ?_
  refine fmV_iload (pc := 229) (i := 4) F dL_law_229 rfl ?_
  refine fmV_iconst (pc := 231) (v := 2) F dL_law_231 rfl ?_
  refine fmV_iadd (pc := 232) F dL_law_232 ?_
  refine fmV_sld (pc := 233) F hXs hbl hbA dL_law_233 (fm_in (nI_add (6 * j) 2) (by omega) (by omega)) (fm_cl (nI_add (6 * j) 2) (by omega)) ?_
  refine fmV_aload_n (pc := 234) (i := 0) F dL_law_234 rfl rfl ?_
  refine fmV_iload (pc := 235) (i := 4) F dL_law_235 rfl ?_
  refine fmV_iconst (pc := 237) (v := 3) F dL_law_237 rfl ?_
  refine fmV_iadd (pc := 238) F dL_law_238 ?_
  refine fmV_sld (pc := 239) F hXs hbl hbA dL_law_239 (fm_in (nI_add (6 * j) 3) (by omega) (by omega)) (fm_cl (nI_add (6 * j) 3) (by omega)) ?_
  refine fmV_xVi (n := 3) (pc := 240) F hX (c_X6_setWater l D A G z9.1 z9.2 hcc g63 hrc g62 (by omega) g64 (xs (6 * j + 1)) (xs (6 * j + 2)) (xs (6 * j + 3))) gL_law_X6_setWater rfl rfl rfl (by decide +kernel) ⟨Nat.le_of_ble_eq_true rfl, Nat.le_of_ble_eq_true rfl⟩ (fmR_14 F) rfl rfl (Nat.le_of_ble_eq_true rfl) dL_law_240 ⟨by show _ ≤ 601024; omega, by show _ ≤ 7293034; omega⟩ (fun _ _ h9 => False.elim h9) (fun b9 u9 hb9 => ?_)
  obtain ⟨⟨rc2, cc2, t2, ht2, I2⟩, h61, hout⟩ := hop b9 u9 hb9
  refine fmV_istore (pc := 243) (i := 6) F dL_law_243 (by decide) ?_
  refine fmV_aload_n (pc := 245) (i := 2) F dL_law_245 rfl rfl ?_
  refine fmV_xVi (n := 0) (pc := 246) F hX (c_X6_thrown l D A G u9 z9.2) gL_law_X6_thrown rfl rfl rfl (by decide +kernel) ⟨Nat.le_of_ble_eq_true rfl, Nat.le_of_ble_eq_true rfl⟩ (fmR_14 F) rfl rfl (Nat.le_of_ble_eq_true rfl) dL_law_246 ⟨by show _ ≤ 601024; omega, by show _ ≤ 7293034; omega⟩ (fun _ _ h9 => False.elim h9) (fun r8 u8 hc8 => ?_)
  obtain ⟨hr8, hu8⟩ := hc8
  have hr8 := hr8.symm
  have hu8 := hu8.symm
  subst hr8
  subst hu8
  refine fmV_iload (pc := 249) (i := 5) F dL_law_249 rfl ?_
  refine fmV_icmp_eq (pc := 251) (tgt := 256) F dL_law_251 (by decide) (fun h9 => ?_) (fun h9 => ?_)
  · refine fmV_iload (pc := 256) (i := 5) F dL_law_256 rfl ?_
    refine fmV_if_ne (pc := 258) (tgt := 273) F dL_law_258 (by decide) (fun h8 => ?_) (fun h8 => ?_)
    · refine fmV_goto (pc := 273) (tgt := 1518) F dL_law_273 (by decide) ?_
      refine fmV_iinc (pc := 1518) (i := 4) (v := nI (6 * (j + 1))) F dL_law_1518 rfl (nI_add (6 * j) 6) (by decide) ?_
      refine fmV_goto (pc := 1521) (tgt := 23) F dL_law_1521 (by decide) ?_
      refine fmV_widen (k := 200 + 170 * (j + 1)) (n := 1800 + 1850 * (j + 1)) (by omega) (by omega) ?_
      refine fmV_lv ?_ (next rc2 cc2 t2 _ z9.2 I2 (by omega))
      exact ⟨rfl, rfl, rfl, rfl, rfl, trivial⟩
    · refine fmV_aload_n (pc := 261) (i := 3) F dL_law_261 rfl rfl ?_
      refine fmV_iconst (pc := 262) (v := 0) F dL_law_262 rfl ?_
      refine fmV_lald (pc := 263) F dL_law_263 (vp_in_nI (show 0 < 1 by decide) (by decide)) (show (0 : Int32).toNatClampNeg = 0 by decide) ?_
      refine fmV_iload (pc := 264) (i := 6) F dL_law_264 rfl ?_
      have he9 := hout h8
      refine fmV_i2l (pc := 266) F dL_law_266 rfl ?_
      refine fmV_lcmp (pc := 267) F dL_law_267 ?_
      refine fmV_if_eq (pc := 268) (tgt := 273) F dL_law_268 (by decide) (fun h7 => ?_) (fun h7 => ?_)
      · refine fmV_goto (pc := 273) (tgt := 1518) F dL_law_273 (by decide) ?_
        refine fmV_iinc (pc := 1518) (i := 4) (v := nI (6 * (j + 1))) F dL_law_1518 rfl (nI_add (6 * j) 6) (by decide) ?_
        refine fmV_goto (pc := 1521) (tgt := 23) F dL_law_1521 (by decide) ?_
        refine fmV_widen (k := 200 + 170 * (j + 1)) (n := 1800 + 1850 * (j + 1)) (by omega) (by omega) ?_
        refine fmV_lv ?_ (next rc2 cc2 t2 _ z9.2 I2 (by omega))
        exact ⟨rfl, rfl, rfl, rfl, rfl, trivial⟩
      · exact absurd (by rw [he9]; exact lg_same _) h7
  · exact absurd h61 h9

set_option maxHeartbeats 4000000 in
set_option maxRecDepth 100000 in
theorem law_addCanoe {p : Program} {l : Launch} {e : Env} {s : State} {m : MethodId} {below : List Frame} {meth : Method} {c : Code} {b L : Nat} {xs : Nat → Int32} {D : va_G} {A : Nat → Prop} {G : fmG} (F : fmF p s m #[Value.ref b] meth c D A G RL code 9 ret wsL_law) (hX : fmX A s) (hl9 : l.stackTraces = false) (hG : G.1 36 0 0 = 0) (hXs : va_X b L xs s s.heap) (hbl : b < s.heap.size) (hbA : ¬ A b) (hL : L ≤ 3072) {j : Nat} (hj : 6 * j + 6 ≤ L) {rc cc t : Nat} {σ : fmS} {o : Nat → Int64} (I : rI rc cc t σ) (ht : t ≤ 200 * j) (next : ∀ (rc cc t : Nat) (σ : fmS) (o : Nat → Int64), rI rc cc t σ → t ≤ 200 * (j + 1) → fmV p l e room_1 s m #[Value.ref b] below meth c D A G 9 o (lw_Z below #[Value.ref b] s) σ (200 + 170 * (j + 1)) (1800 + 1850 * (j + 1)) [(0, .ref b), (1, .ref (G.1 0 0 0)), (2, .ref (G.1 14 0 0)), (3, .ref (G.1 34 0 0)), (4, .int (nI (6 * (j + 1))))] [] 23) : fmV p l e room_1 s m #[Value.ref b] below meth c D A G 9 o (lw_Z below #[Value.ref b] s) σ (200 + 170 * j) (1800 + 1850 * j) [(0, .ref b), (1, .ref (G.1 0 0 0)), (2, .ref (G.1 14 0 0)), (3, .ref (G.1 34 0 0)), (4, .int (nI (6 * j)))] [] 276 := by
  have hgz := I.1.1
  obtain ⟨⟨hrc, hcc, -, -, -, -⟩, -⟩ := id hgz
  refine fmV_aload_n (pc := 276) (i := 1) F dL_law_276 rfl rfl ?_
  refine fmV_aload_n (pc := 277) (i := 0) F dL_law_277 rfl rfl ?_
  refine fmV_iload (pc := 278) (i := 4) F dL_law_278 rfl ?_
  refine fmV_iconst (pc := 280) (v := 1) F dL_law_280 rfl ?_
  refine fmV_iadd (pc := 281) F dL_law_281 ?_
  refine fmV_sld (pc := 282) F hXs hbl hbA dL_law_282 (fm_in (nI_add (6 * j) 1) (by omega) (by omega)) (fm_cl (nI_add (6 * j) 1) (by omega)) ?_
  refine fmV_aload_n (pc := 283) (i := 0) F dL_law_283 rfl rfl ?_
  refine fmV_iload (pc := 284) (i := 4) F dL_law_284 rfl ?_
  refine fmV_iconst (pc := 286) (v := 2) F dL_law_286 rfl ?_
  refine fmV_iadd (pc := 287) F dL_law_287 ?_
  refine fmV_sld (pc := 288) F hXs hbl hbA dL_law_288 (fm_in (nI_add (6 * j) 2) (by omega) (by omega)) (fm_cl (nI_add (6 * j) 2) (by omega)) ?_
  refine fmV_aload_n (pc := 289) (i := 3) F dL_law_289 rfl rfl ?_
  refine fmV_lSi (n := 4) (pc := 290) F hX (c_L_addCanoe l D A G σ o (xs (6 * j + 1)) (xs (6 * j + 2)) (c_X4_addCanoe l D A G σ o hl9 hgz (xs (6 * j + 1)) (xs (6 * j + 2))) (fun E9 u9 h9 => by
      rcases fmFirst_in h9.2 with rfl | rfl | rfl | h9
      · exact (Or.inl rfl)
      · exact (Or.inl rfl)
      · exact (Or.inr rfl)
      · exact h9.elim)) gL_law_L_addCanoe rfl rfl rfl (by decide +kernel) ⟨Nat.le_of_ble_eq_true rfl, Nat.le_of_ble_eq_true rfl⟩ rfl rfl (Nat.le_of_ble_eq_true rfl) dL_law_290 ⟨by show _ ≤ 601024; omega, by show _ ≤ 7293034; omega⟩ (fun k9 z9 hk9 => ?_)
  obtain ⟨hm9, hop⟩ := op_addCanoe I (by omega) (xs (6 * j + 1)) (xs (6 * j + 2)) hk9
  have g63 : z9.1 63 0 0 0 = nI cc := by rw [hm9 63 0 0 (by decide)]; exact I.2.1.2.1
  have g62 : z9.1 62 0 0 0 = nI rc := by rw [hm9 62 0 0 (by decide)]; exact I.2.1.1
  have g64 : z9.1 64 0 0 0 = nI t := by rw [hm9 64 0 0 (by decide)]; exact I.2.1.2.2
  refine fmV_istore (pc := 293) (i := 5) F dL_law_293 (by decide) ?_
  refine fmV_aload_n (pc := 295) (i := 2) F dL_law_295 rfl rfl ?_
  refine fmV_aload_n (pc := 296) (i := 0) F dL_law_296 rfl rfl ?_
  refine fmV_iload (pc := 297) (i := 4) F dL_law_297 rfl ?_
  refine fmV_iconst (pc := 299) (v := 1) F dL_law_299 rfl ?_
  refine fmV_iadd (pc := 300) F dL_law_300 ?_
  refine fmV_sld (pc := 301) F hXs hbl hbA dL_law_301 (fm_in (nI_add (6 * j) 1) (by omega) (by omega)) (fm_cl (nI_add (6 * j) 1) (by omega)) ?_
  refine fmV_aload_n (pc := 302) (i := 0) F dL_law_302 rfl rfl ?_
  refine fmV_iload (pc := 303) (i := 4) F dL_law_303 rfl ?_
  refine fmV_iconst (pc := 305) (v := 2) F dL_law_305 rfl ?_
  refine fmV_iadd (pc := 306) F dL_law_306 ?_
  refine fmV_sld (pc := 307) F hXs hbl hbA dL_law_307 (fm_in (nI_add (6 * j) 2) (by omega) (by omega)) (fm_cl (nI_add (6 * j) 2) (by omega)) ?_
  refine fmV_xVi (n := 2) (pc := 308) F hX (c_X6_addCanoe l D A G z9.1 z9.2 hcc g63 hrc g62 (by omega) g64 (xs (6 * j + 1)) (xs (6 * j + 2))) gL_law_X6_addCanoe rfl rfl rfl (by decide +kernel) ⟨Nat.le_of_ble_eq_true rfl, Nat.le_of_ble_eq_true rfl⟩ (fmR_14 F) rfl rfl (Nat.le_of_ble_eq_true rfl) dL_law_308 ⟨by show _ ≤ 601024; omega, by show _ ≤ 7293034; omega⟩ (fun _ _ h9 => False.elim h9) (fun b9 u9 hb9 => ?_)
  obtain ⟨⟨rc2, cc2, t2, ht2, I2⟩, h61, hout⟩ := hop b9 u9 hb9
  refine fmV_istore (pc := 311) (i := 6) F dL_law_311 (by decide) ?_
  refine fmV_aload_n (pc := 313) (i := 2) F dL_law_313 rfl rfl ?_
  refine fmV_xVi (n := 0) (pc := 314) F hX (c_X6_thrown l D A G u9 z9.2) gL_law_X6_thrown rfl rfl rfl (by decide +kernel) ⟨Nat.le_of_ble_eq_true rfl, Nat.le_of_ble_eq_true rfl⟩ (fmR_14 F) rfl rfl (Nat.le_of_ble_eq_true rfl) dL_law_314 ⟨by show _ ≤ 601024; omega, by show _ ≤ 7293034; omega⟩ (fun _ _ h9 => False.elim h9) (fun r8 u8 hc8 => ?_)
  obtain ⟨hr8, hu8⟩ := hc8
  have hr8 := hr8.symm
  have hu8 := hu8.symm
  subst hr8
  subst hu8
  refine fmV_iload (pc := 317) (i := 5) F dL_law_317 rfl ?_
  refine fmV_icmp_eq (pc := 319) (tgt := 324) F dL_law_319 (by decide) (fun h9 => ?_) (fun h9 => ?_)
  · refine fmV_iload (pc := 324) (i := 5) F dL_law_324 rfl ?_
    refine fmV_if_ne (pc := 326) (tgt := 341) F dL_law_326 (by decide) (fun h8 => ?_) (fun h8 => ?_)
    · refine fmV_goto (pc := 341) (tgt := 1518) F dL_law_341 (by decide) ?_
      refine fmV_iinc (pc := 1518) (i := 4) (v := nI (6 * (j + 1))) F dL_law_1518 rfl (nI_add (6 * j) 6) (by decide) ?_
      refine fmV_goto (pc := 1521) (tgt := 23) F dL_law_1521 (by decide) ?_
      refine fmV_widen (k := 200 + 170 * (j + 1)) (n := 1800 + 1850 * (j + 1)) (by omega) (by omega) ?_
      refine fmV_lv ?_ (next rc2 cc2 t2 _ z9.2 I2 (by omega))
      exact ⟨rfl, rfl, rfl, rfl, rfl, trivial⟩
    · refine fmV_aload_n (pc := 329) (i := 3) F dL_law_329 rfl rfl ?_
      refine fmV_iconst (pc := 330) (v := 0) F dL_law_330 rfl ?_
      refine fmV_lald (pc := 331) F dL_law_331 (vp_in_nI (show 0 < 1 by decide) (by decide)) (show (0 : Int32).toNatClampNeg = 0 by decide) ?_
      refine fmV_iload (pc := 332) (i := 6) F dL_law_332 rfl ?_
      have he9 := hout h8
      refine fmV_i2l (pc := 334) F dL_law_334 rfl ?_
      refine fmV_lcmp (pc := 335) F dL_law_335 ?_
      refine fmV_if_eq (pc := 336) (tgt := 341) F dL_law_336 (by decide) (fun h7 => ?_) (fun h7 => ?_)
      · refine fmV_goto (pc := 341) (tgt := 1518) F dL_law_341 (by decide) ?_
        refine fmV_iinc (pc := 1518) (i := 4) (v := nI (6 * (j + 1))) F dL_law_1518 rfl (nI_add (6 * j) 6) (by decide) ?_
        refine fmV_goto (pc := 1521) (tgt := 23) F dL_law_1521 (by decide) ?_
        refine fmV_widen (k := 200 + 170 * (j + 1)) (n := 1800 + 1850 * (j + 1)) (by omega) (by omega) ?_
        refine fmV_lv ?_ (next rc2 cc2 t2 _ z9.2 I2 (by omega))
        exact ⟨rfl, rfl, rfl, rfl, rfl, trivial⟩
      · exact absurd (by rw [he9]; exact lg_same _) h7
  · exact absurd h61 h9

set_option maxHeartbeats 4000000 in
set_option maxRecDepth 100000 in
theorem law_load {p : Program} {l : Launch} {e : Env} {s : State} {m : MethodId} {below : List Frame} {meth : Method} {c : Code} {b L : Nat} {xs : Nat → Int32} {D : va_G} {A : Nat → Prop} {G : fmG} (F : fmF p s m #[Value.ref b] meth c D A G RL code 9 ret wsL_law) (hX : fmX A s) (hl9 : l.stackTraces = false) (hG : G.1 36 0 0 = 0) (hXs : va_X b L xs s s.heap) (hbl : b < s.heap.size) (hbA : ¬ A b) (hL : L ≤ 3072) {j : Nat} (hj : 6 * j + 6 ≤ L) {rc cc t : Nat} {σ : fmS} {o : Nat → Int64} (I : rI rc cc t σ) (ht : t ≤ 200 * j) (next : ∀ (rc cc t : Nat) (σ : fmS) (o : Nat → Int64), rI rc cc t σ → t ≤ 200 * (j + 1) → fmV p l e room_1 s m #[Value.ref b] below meth c D A G 9 o (lw_Z below #[Value.ref b] s) σ (200 + 170 * (j + 1)) (1800 + 1850 * (j + 1)) [(0, .ref b), (1, .ref (G.1 0 0 0)), (2, .ref (G.1 14 0 0)), (3, .ref (G.1 34 0 0)), (4, .int (nI (6 * (j + 1))))] [] 23) : fmV p l e room_1 s m #[Value.ref b] below meth c D A G 9 o (lw_Z below #[Value.ref b] s) σ (200 + 170 * j) (1800 + 1850 * j) [(0, .ref b), (1, .ref (G.1 0 0 0)), (2, .ref (G.1 14 0 0)), (3, .ref (G.1 34 0 0)), (4, .int (nI (6 * j)))] [] 344 := by
  have hgz := I.1.1
  obtain ⟨⟨hrc, hcc, -, -, -, -⟩, -⟩ := id hgz
  refine fmV_aload_n (pc := 344) (i := 1) F dL_law_344 rfl rfl ?_
  refine fmV_aload_n (pc := 345) (i := 0) F dL_law_345 rfl rfl ?_
  refine fmV_iload (pc := 346) (i := 4) F dL_law_346 rfl ?_
  refine fmV_iconst (pc := 348) (v := 1) F dL_law_348 rfl ?_
  refine fmV_iadd (pc := 349) F dL_law_349 ?_
  refine fmV_sld (pc := 350) F hXs hbl hbA dL_law_350 (fm_in (nI_add (6 * j) 1) (by omega) (by omega)) (fm_cl (nI_add (6 * j) 1) (by omega)) ?_
  refine fmV_aload_n (pc := 351) (i := 0) F dL_law_351 rfl rfl ?_
  refine fmV_iload (pc := 352) (i := 4) F dL_law_352 rfl ?_
  refine fmV_iconst (pc := 354) (v := 2) F dL_law_354 rfl ?_
  refine fmV_iadd (pc := 355) F dL_law_355 ?_
  refine fmV_sld (pc := 356) F hXs hbl hbA dL_law_356 (fm_in (nI_add (6 * j) 2) (by omega) (by omega)) (fm_cl (nI_add (6 * j) 2) (by omega)) ?_
  refine fmV_aload_n (pc := 357) (i := 0) F dL_law_357 rfl rfl ?_
  refine fmV_iload (pc := 358) (i := 4) F dL_law_358 rfl ?_
  refine fmV_iconst (pc := 360) (v := 3) F dL_law_360 rfl ?_
  refine fmV_iadd (pc := 361) F dL_law_361 ?_
  refine fmV_sld (pc := 362) F hXs hbl hbA dL_law_362 (fm_in (nI_add (6 * j) 3) (by omega) (by omega)) (fm_cl (nI_add (6 * j) 3) (by omega)) ?_
  refine fmV_aload_n (pc := 363) (i := 3) F dL_law_363 rfl rfl ?_
  refine fmV_lSi (n := 5) (pc := 364) F hX (c_L_load l D A G σ o (xs (6 * j + 1)) (xs (6 * j + 2)) (xs (6 * j + 3)) (c_X4_load l D A G σ o hl9 hgz (xs (6 * j + 1)) (xs (6 * j + 2)) (xs (6 * j + 3))) (fun E9 u9 h9 => by
      rcases fmFirst_in h9.2 with rfl | rfl | rfl | rfl | h9
      · exact (Or.inl rfl)
      · exact (Or.inl rfl)
      · exact (Or.inr (Or.inl rfl))
      · exact (Or.inr (Or.inr rfl))
      · exact h9.elim)) gL_law_L_load rfl rfl rfl (by decide +kernel) ⟨Nat.le_of_ble_eq_true rfl, Nat.le_of_ble_eq_true rfl⟩ rfl rfl (Nat.le_of_ble_eq_true rfl) dL_law_364 ⟨by show _ ≤ 601024; omega, by show _ ≤ 7293034; omega⟩ (fun k9 z9 hk9 => ?_)
  obtain ⟨hm9, hop⟩ := op_load I (by omega) (xs (6 * j + 1)) (xs (6 * j + 2)) (xs (6 * j + 3)) hk9
  have g63 : z9.1 63 0 0 0 = nI cc := by rw [hm9 63 0 0 (by decide)]; exact I.2.1.2.1
  have g62 : z9.1 62 0 0 0 = nI rc := by rw [hm9 62 0 0 (by decide)]; exact I.2.1.1
  have g64 : z9.1 64 0 0 0 = nI t := by rw [hm9 64 0 0 (by decide)]; exact I.2.1.2.2
  refine fmV_istore (pc := 367) (i := 5) F dL_law_367 (by decide) ?_
  refine fmV_aload_n (pc := 369) (i := 2) F dL_law_369 rfl rfl ?_
  refine fmV_aload_n (pc := 370) (i := 0) F dL_law_370 rfl rfl ?_
  refine fmV_iload (pc := 371) (i := 4) F dL_law_371 rfl ?_
  refine fmV_iconst (pc := 373) (v := 1) F dL_law_373 rfl ?_
  refine fmV_iadd (pc := 374) F dL_law_374 ?_
  refine fmV_sld (pc := 375) F hXs hbl hbA dL_law_375 (fm_in (nI_add (6 * j) 1) (by omega) (by omega)) (fm_cl (nI_add (6 * j) 1) (by omega)) ?_
  refine fmV_aload_n (pc := 376) (i := 0) F dL_law_376 rfl rfl ?_
  refine fmV_iload (pc := 377) (i := 4) F dL_law_377 rfl ?_
  refine fmV_iconst (pc := 379) (v := 2) F dL_law_379 rfl ?_
  refine fmV_iadd (pc := 380) F dL_law_380 ?_
  refine fmV_sld (pc := 381) F hXs hbl hbA dL_law_381 (fm_in (nI_add (6 * j) 2) (by omega) (by omega)) (fm_cl (nI_add (6 * j) 2) (by omega)) ?_
  refine fmV_aload_n (pc := 382) (i := 0) F dL_law_382 rfl rfl ?_
  refine fmV_iload (pc := 383) (i := 4) F dL_law_383 rfl ?_
  refine fmV_iconst (pc := 385) (v := 3) F dL_law_385 rfl ?_
  refine fmV_iadd (pc := 386) F dL_law_386 ?_
  refine fmV_sld (pc := 387) F hXs hbl hbA dL_law_387 (fm_in (nI_add (6 * j) 3) (by omega) (by omega)) (fm_cl (nI_add (6 * j) 3) (by omega)) ?_
  refine fmV_xVi (n := 3) (pc := 388) F hX (c_X6_load l D A G z9.1 z9.2 hcc g63 hrc g62 (by omega) g64 (xs (6 * j + 1)) (xs (6 * j + 2)) (xs (6 * j + 3))) gL_law_X6_load rfl rfl rfl (by decide +kernel) ⟨Nat.le_of_ble_eq_true rfl, Nat.le_of_ble_eq_true rfl⟩ (fmR_14 F) rfl rfl (Nat.le_of_ble_eq_true rfl) dL_law_388 ⟨by show _ ≤ 601024; omega, by show _ ≤ 7293034; omega⟩ (fun _ _ h9 => False.elim h9) (fun b9 u9 hb9 => ?_)
  obtain ⟨⟨rc2, cc2, t2, ht2, I2⟩, h61, hout⟩ := hop b9 u9 hb9
  refine fmV_istore (pc := 391) (i := 6) F dL_law_391 (by decide) ?_
  refine fmV_aload_n (pc := 393) (i := 2) F dL_law_393 rfl rfl ?_
  refine fmV_xVi (n := 0) (pc := 394) F hX (c_X6_thrown l D A G u9 z9.2) gL_law_X6_thrown rfl rfl rfl (by decide +kernel) ⟨Nat.le_of_ble_eq_true rfl, Nat.le_of_ble_eq_true rfl⟩ (fmR_14 F) rfl rfl (Nat.le_of_ble_eq_true rfl) dL_law_394 ⟨by show _ ≤ 601024; omega, by show _ ≤ 7293034; omega⟩ (fun _ _ h9 => False.elim h9) (fun r8 u8 hc8 => ?_)
  obtain ⟨hr8, hu8⟩ := hc8
  have hr8 := hr8.symm
  have hu8 := hu8.symm
  subst hr8
  subst hu8
  refine fmV_iload (pc := 397) (i := 5) F dL_law_397 rfl ?_
  refine fmV_icmp_eq (pc := 399) (tgt := 404) F dL_law_399 (by decide) (fun h9 => ?_) (fun h9 => ?_)
  · refine fmV_iload (pc := 404) (i := 5) F dL_law_404 rfl ?_
    refine fmV_if_ne (pc := 406) (tgt := 421) F dL_law_406 (by decide) (fun h8 => ?_) (fun h8 => ?_)
    · refine fmV_goto (pc := 421) (tgt := 1518) F dL_law_421 (by decide) ?_
      refine fmV_iinc (pc := 1518) (i := 4) (v := nI (6 * (j + 1))) F dL_law_1518 rfl (nI_add (6 * j) 6) (by decide) ?_
      refine fmV_goto (pc := 1521) (tgt := 23) F dL_law_1521 (by decide) ?_
      refine fmV_widen (k := 200 + 170 * (j + 1)) (n := 1800 + 1850 * (j + 1)) (by omega) (by omega) ?_
      refine fmV_lv ?_ (next rc2 cc2 t2 _ z9.2 I2 (by omega))
      exact ⟨rfl, rfl, rfl, rfl, rfl, trivial⟩
    · refine fmV_aload_n (pc := 409) (i := 3) F dL_law_409 rfl rfl ?_
      refine fmV_iconst (pc := 410) (v := 0) F dL_law_410 rfl ?_
      refine fmV_lald (pc := 411) F dL_law_411 (vp_in_nI (show 0 < 1 by decide) (by decide)) (show (0 : Int32).toNatClampNeg = 0 by decide) ?_
      refine fmV_iload (pc := 412) (i := 6) F dL_law_412 rfl ?_
      have he9 := hout h8
      refine fmV_i2l (pc := 414) F dL_law_414 rfl ?_
      refine fmV_lcmp (pc := 415) F dL_law_415 ?_
      refine fmV_if_eq (pc := 416) (tgt := 421) F dL_law_416 (by decide) (fun h7 => ?_) (fun h7 => ?_)
      · refine fmV_goto (pc := 421) (tgt := 1518) F dL_law_421 (by decide) ?_
        refine fmV_iinc (pc := 1518) (i := 4) (v := nI (6 * (j + 1))) F dL_law_1518 rfl (nI_add (6 * j) 6) (by decide) ?_
        refine fmV_goto (pc := 1521) (tgt := 23) F dL_law_1521 (by decide) ?_
        refine fmV_widen (k := 200 + 170 * (j + 1)) (n := 1800 + 1850 * (j + 1)) (by omega) (by omega) ?_
        refine fmV_lv ?_ (next rc2 cc2 t2 _ z9.2 I2 (by omega))
        exact ⟨rfl, rfl, rfl, rfl, rfl, trivial⟩
      · exact absurd (by rw [he9]; exact lg_same _) h7
  · exact absurd h61 h9

set_option maxHeartbeats 4000000 in
set_option maxRecDepth 100000 in
theorem law_offer {p : Program} {l : Launch} {e : Env} {s : State} {m : MethodId} {below : List Frame} {meth : Method} {c : Code} {b L : Nat} {xs : Nat → Int32} {D : va_G} {A : Nat → Prop} {G : fmG} (F : fmF p s m #[Value.ref b] meth c D A G RL code 9 ret wsL_law) (hX : fmX A s) (hl9 : l.stackTraces = false) (hG : G.1 36 0 0 = 0) (hXs : va_X b L xs s s.heap) (hbl : b < s.heap.size) (hbA : ¬ A b) (hL : L ≤ 3072) {j : Nat} (hj : 6 * j + 6 ≤ L) {rc cc t : Nat} {σ : fmS} {o : Nat → Int64} (I : rI rc cc t σ) (ht : t ≤ 200 * j) (next : ∀ (rc cc t : Nat) (σ : fmS) (o : Nat → Int64), rI rc cc t σ → t ≤ 200 * (j + 1) → fmV p l e room_1 s m #[Value.ref b] below meth c D A G 9 o (lw_Z below #[Value.ref b] s) σ (200 + 170 * (j + 1)) (1800 + 1850 * (j + 1)) [(0, .ref b), (1, .ref (G.1 0 0 0)), (2, .ref (G.1 14 0 0)), (3, .ref (G.1 34 0 0)), (4, .int (nI (6 * (j + 1))))] [] 23) : fmV p l e room_1 s m #[Value.ref b] below meth c D A G 9 o (lw_Z below #[Value.ref b] s) σ (200 + 170 * j) (1800 + 1850 * j) [(0, .ref b), (1, .ref (G.1 0 0 0)), (2, .ref (G.1 14 0 0)), (3, .ref (G.1 34 0 0)), (4, .int (nI (6 * j)))] [] 424 := by
  have hgz := I.1.1
  obtain ⟨⟨hrc, hcc, -, -, -, -⟩, -⟩ := id hgz
  refine fmV_aload_n (pc := 424) (i := 1) F dL_law_424 rfl rfl ?_
  refine fmV_aload_n (pc := 425) (i := 0) F dL_law_425 rfl rfl ?_
  refine fmV_iload (pc := 426) (i := 4) F dL_law_426 rfl ?_
  refine fmV_iconst (pc := 428) (v := 1) F dL_law_428 rfl ?_
  refine fmV_iadd (pc := 429) F dL_law_429 ?_
  refine fmV_sld (pc := 430) F hXs hbl hbA dL_law_430 (fm_in (nI_add (6 * j) 1) (by omega) (by omega)) (fm_cl (nI_add (6 * j) 1) (by omega)) ?_
  refine fmV_aload_n (pc := 431) (i := 0) F dL_law_431 rfl rfl ?_
  refine fmV_iload (pc := 432) (i := 4) F dL_law_432 rfl ?_
  refine fmV_iconst (pc := 434) (v := 2) F dL_law_434 rfl ?_
  refine fmV_iadd (pc := 435) F dL_law_435 ?_
  refine fmV_sld (pc := 436) F hXs hbl hbA dL_law_436 (fm_in (nI_add (6 * j) 2) (by omega) (by omega)) (fm_cl (nI_add (6 * j) 2) (by omega)) ?_
  refine fmV_aload_n (pc := 437) (i := 0) F dL_law_437 rfl rfl ?_
  refine fmV_iload (pc := 438) (i := 4) F dL_law_438 rfl ?_
  refine fmV_iconst (pc := 440) (v := 3) F dL_law_440 rfl ?_
  refine fmV_iadd (pc := 441) F dL_law_441 ?_
  refine fmV_sld (pc := 442) F hXs hbl hbA dL_law_442 (fm_in (nI_add (6 * j) 3) (by omega) (by omega)) (fm_cl (nI_add (6 * j) 3) (by omega)) ?_
  refine fmV_aload_n (pc := 443) (i := 0) F dL_law_443 rfl rfl ?_
  refine fmV_iload (pc := 444) (i := 4) F dL_law_444 rfl ?_
  refine fmV_iconst (pc := 446) (v := 4) F dL_law_446 rfl ?_
  refine fmV_iadd (pc := 447) F dL_law_447 ?_
  refine fmV_sld (pc := 448) F hXs hbl hbA dL_law_448 (fm_in (nI_add (6 * j) 4) (by omega) (by omega)) (fm_cl (nI_add (6 * j) 4) (by omega)) ?_
  refine fmV_aload_n (pc := 449) (i := 0) F dL_law_449 rfl rfl ?_
  refine fmV_iload (pc := 450) (i := 4) F dL_law_450 rfl ?_
  refine fmV_iconst (pc := 452) (v := 5) F dL_law_452 rfl ?_
  refine fmV_iadd (pc := 453) F dL_law_453 ?_
  refine fmV_sld (pc := 454) F hXs hbl hbA dL_law_454 (fm_in (nI_add (6 * j) 5) (by omega) (by omega)) (fm_cl (nI_add (6 * j) 5) (by omega)) ?_
  refine fmV_aload_n (pc := 455) (i := 3) F dL_law_455 rfl rfl ?_
  refine fmV_lSi (n := 7) (pc := 456) F hX (c_L_offer l D A G σ o (xs (6 * j + 1)) (xs (6 * j + 2)) (xs (6 * j + 3)) (xs (6 * j + 4)) (xs (6 * j + 5)) (c_X4_offer l D A G σ o hl9 hgz (xs (6 * j + 1)) (xs (6 * j + 2)) (xs (6 * j + 3)) (xs (6 * j + 4)) (xs (6 * j + 5))) (fun E9 u9 h9 => by
      rcases fmFirst_in h9.2 with rfl | rfl | rfl | rfl | rfl | h9
      · exact (Or.inl rfl)
      · exact (Or.inl rfl)
      · exact (Or.inr rfl)
      · exact (Or.inr rfl)
      · exact (Or.inr rfl)
      · exact h9.elim)) gL_law_L_offer rfl rfl rfl (by decide +kernel) ⟨Nat.le_of_ble_eq_true rfl, Nat.le_of_ble_eq_true rfl⟩ rfl rfl (Nat.le_of_ble_eq_true rfl) dL_law_456 ⟨by show _ ≤ 601024; omega, by show _ ≤ 7293034; omega⟩ (fun k9 z9 hk9 => ?_)
  obtain ⟨hm9, hop⟩ := op_offer I (by omega) (xs (6 * j + 1)) (xs (6 * j + 2)) (xs (6 * j + 3)) (xs (6 * j + 4)) (xs (6 * j + 5)) hk9
  have g63 : z9.1 63 0 0 0 = nI cc := by rw [hm9 63 0 0 (by decide)]; exact I.2.1.2.1
  have g62 : z9.1 62 0 0 0 = nI rc := by rw [hm9 62 0 0 (by decide)]; exact I.2.1.1
  have g64 : z9.1 64 0 0 0 = nI t := by rw [hm9 64 0 0 (by decide)]; exact I.2.1.2.2
  refine fmV_istore (pc := 459) (i := 5) F dL_law_459 (by decide) ?_
  refine fmV_aload_n (pc := 461) (i := 2) F dL_law_461 rfl rfl ?_
  refine fmV_aload_n (pc := 462) (i := 0) F dL_law_462 rfl rfl ?_
  refine fmV_iload (pc := 463) (i := 4) F dL_law_463 rfl ?_
  refine fmV_iconst (pc := 465) (v := 1) F dL_law_465 rfl ?_
  refine fmV_iadd (pc := 466) F dL_law_466 ?_
  refine fmV_sld (pc := 467) F hXs hbl hbA dL_law_467 (fm_in (nI_add (6 * j) 1) (by omega) (by omega)) (fm_cl (nI_add (6 * j) 1) (by omega)) ?_
  refine fmV_aload_n (pc := 468) (i := 0) F dL_law_468 rfl rfl ?_
  refine fmV_iload (pc := 469) (i := 4) F dL_law_469 rfl ?_
  refine fmV_iconst (pc := 471) (v := 2) F dL_law_471 rfl ?_
  refine fmV_iadd (pc := 472) F dL_law_472 ?_
  refine fmV_sld (pc := 473) F hXs hbl hbA dL_law_473 (fm_in (nI_add (6 * j) 2) (by omega) (by omega)) (fm_cl (nI_add (6 * j) 2) (by omega)) ?_
  refine fmV_aload_n (pc := 474) (i := 0) F dL_law_474 rfl rfl ?_
  refine fmV_iload (pc := 475) (i := 4) F dL_law_475 rfl ?_
  refine fmV_iconst (pc := 477) (v := 3) F dL_law_477 rfl ?_
  refine fmV_iadd (pc := 478) F dL_law_478 ?_
  refine fmV_sld (pc := 479) F hXs hbl hbA dL_law_479 (fm_in (nI_add (6 * j) 3) (by omega) (by omega)) (fm_cl (nI_add (6 * j) 3) (by omega)) ?_
  refine fmV_aload_n (pc := 480) (i := 0) F dL_law_480 rfl rfl ?_
  refine fmV_iload (pc := 481) (i := 4) F dL_law_481 rfl ?_
  refine fmV_iconst (pc := 483) (v := 4) F dL_law_483 rfl ?_
  refine fmV_iadd (pc := 484) F dL_law_484 ?_
  refine fmV_sld (pc := 485) F hXs hbl hbA dL_law_485 (fm_in (nI_add (6 * j) 4) (by omega) (by omega)) (fm_cl (nI_add (6 * j) 4) (by omega)) ?_
  refine fmV_aload_n (pc := 486) (i := 0) F dL_law_486 rfl rfl ?_
  refine fmV_iload (pc := 487) (i := 4) F dL_law_487 rfl ?_
  refine fmV_iconst (pc := 489) (v := 5) F dL_law_489 rfl ?_
  refine fmV_iadd (pc := 490) F dL_law_490 ?_
  refine fmV_sld (pc := 491) F hXs hbl hbA dL_law_491 (fm_in (nI_add (6 * j) 5) (by omega) (by omega)) (fm_cl (nI_add (6 * j) 5) (by omega)) ?_
  refine fmV_xVi (n := 5) (pc := 492) F hX (c_X6_offer l D A G z9.1 z9.2 hcc g63 hrc g62 (by omega) g64 (xs (6 * j + 1)) (xs (6 * j + 2)) (xs (6 * j + 3)) (xs (6 * j + 4)) (xs (6 * j + 5))) gL_law_X6_offer rfl rfl rfl (by decide +kernel) ⟨Nat.le_of_ble_eq_true rfl, Nat.le_of_ble_eq_true rfl⟩ (fmR_14 F) rfl rfl (Nat.le_of_ble_eq_true rfl) dL_law_492 ⟨by show _ ≤ 601024; omega, by show _ ≤ 7293034; omega⟩ (fun _ _ h9 => False.elim h9) (fun b9 u9 hb9 => ?_)
  obtain ⟨⟨rc2, cc2, t2, ht2, I2⟩, h61, hout⟩ := hop b9 u9 hb9
  refine fmV_istore (pc := 495) (i := 6) F dL_law_495 (by decide) ?_
  refine fmV_aload_n (pc := 497) (i := 2) F dL_law_497 rfl rfl ?_
  refine fmV_xVi (n := 0) (pc := 498) F hX (c_X6_thrown l D A G u9 z9.2) gL_law_X6_thrown rfl rfl rfl (by decide +kernel) ⟨Nat.le_of_ble_eq_true rfl, Nat.le_of_ble_eq_true rfl⟩ (fmR_14 F) rfl rfl (Nat.le_of_ble_eq_true rfl) dL_law_498 ⟨by show _ ≤ 601024; omega, by show _ ≤ 7293034; omega⟩ (fun _ _ h9 => False.elim h9) (fun r8 u8 hc8 => ?_)
  obtain ⟨hr8, hu8⟩ := hc8
  have hr8 := hr8.symm
  have hu8 := hu8.symm
  subst hr8
  subst hu8
  refine fmV_iload (pc := 501) (i := 5) F dL_law_501 rfl ?_
  refine fmV_icmp_eq (pc := 503) (tgt := 508) F dL_law_503 (by decide) (fun h9 => ?_) (fun h9 => ?_)
  · refine fmV_iload (pc := 508) (i := 5) F dL_law_508 rfl ?_
    refine fmV_if_ne (pc := 510) (tgt := 525) F dL_law_510 (by decide) (fun h8 => ?_) (fun h8 => ?_)
    · refine fmV_goto (pc := 525) (tgt := 1518) F dL_law_525 (by decide) ?_
      refine fmV_iinc (pc := 1518) (i := 4) (v := nI (6 * (j + 1))) F dL_law_1518 rfl (nI_add (6 * j) 6) (by decide) ?_
      refine fmV_goto (pc := 1521) (tgt := 23) F dL_law_1521 (by decide) ?_
      refine fmV_widen (k := 200 + 170 * (j + 1)) (n := 1800 + 1850 * (j + 1)) (by omega) (by omega) ?_
      refine fmV_lv ?_ (next rc2 cc2 t2 _ z9.2 I2 (by omega))
      exact ⟨rfl, rfl, rfl, rfl, rfl, trivial⟩
    · refine fmV_aload_n (pc := 513) (i := 3) F dL_law_513 rfl rfl ?_
      refine fmV_iconst (pc := 514) (v := 0) F dL_law_514 rfl ?_
      refine fmV_lald (pc := 515) F dL_law_515 (vp_in_nI (show 0 < 1 by decide) (by decide)) (show (0 : Int32).toNatClampNeg = 0 by decide) ?_
      refine fmV_iload (pc := 516) (i := 6) F dL_law_516 rfl ?_
      have he9 := hout h8
      refine fmV_i2l (pc := 518) F dL_law_518 rfl ?_
      refine fmV_lcmp (pc := 519) F dL_law_519 ?_
      refine fmV_if_eq (pc := 520) (tgt := 525) F dL_law_520 (by decide) (fun h7 => ?_) (fun h7 => ?_)
      · refine fmV_goto (pc := 525) (tgt := 1518) F dL_law_525 (by decide) ?_
        refine fmV_iinc (pc := 1518) (i := 4) (v := nI (6 * (j + 1))) F dL_law_1518 rfl (nI_add (6 * j) 6) (by decide) ?_
        refine fmV_goto (pc := 1521) (tgt := 23) F dL_law_1521 (by decide) ?_
        refine fmV_widen (k := 200 + 170 * (j + 1)) (n := 1800 + 1850 * (j + 1)) (by omega) (by omega) ?_
        refine fmV_lv ?_ (next rc2 cc2 t2 _ z9.2 I2 (by omega))
        exact ⟨rfl, rfl, rfl, rfl, rfl, trivial⟩
      · exact absurd (by rw [he9]; exact lg_same _) h7
  · exact absurd h61 h9

set_option maxHeartbeats 4000000 in
set_option maxRecDepth 100000 in
theorem law_moor {p : Program} {l : Launch} {e : Env} {s : State} {m : MethodId} {below : List Frame} {meth : Method} {c : Code} {b L : Nat} {xs : Nat → Int32} {D : va_G} {A : Nat → Prop} {G : fmG} (F : fmF p s m #[Value.ref b] meth c D A G RL code 9 ret wsL_law) (hX : fmX A s) (hl9 : l.stackTraces = false) (hG : G.1 36 0 0 = 0) (hXs : va_X b L xs s s.heap) (hbl : b < s.heap.size) (hbA : ¬ A b) (hL : L ≤ 3072) {j : Nat} (hj : 6 * j + 6 ≤ L) {rc cc t : Nat} {σ : fmS} {o : Nat → Int64} (I : rI rc cc t σ) (ht : t ≤ 200 * j) (next : ∀ (rc cc t : Nat) (σ : fmS) (o : Nat → Int64), rI rc cc t σ → t ≤ 200 * (j + 1) → fmV p l e room_1 s m #[Value.ref b] below meth c D A G 9 o (lw_Z below #[Value.ref b] s) σ (200 + 170 * (j + 1)) (1800 + 1850 * (j + 1)) [(0, .ref b), (1, .ref (G.1 0 0 0)), (2, .ref (G.1 14 0 0)), (3, .ref (G.1 34 0 0)), (4, .int (nI (6 * (j + 1))))] [] 23) : fmV p l e room_1 s m #[Value.ref b] below meth c D A G 9 o (lw_Z below #[Value.ref b] s) σ (200 + 170 * j) (1800 + 1850 * j) [(0, .ref b), (1, .ref (G.1 0 0 0)), (2, .ref (G.1 14 0 0)), (3, .ref (G.1 34 0 0)), (4, .int (nI (6 * j)))] [] 528 := by
  have hgz := I.1.1
  obtain ⟨⟨hrc, hcc, -, -, -, -⟩, -⟩ := id hgz
  refine fmV_aload_n (pc := 528) (i := 1) F dL_law_528 rfl rfl ?_
  refine fmV_aload_n (pc := 529) (i := 0) F dL_law_529 rfl rfl ?_
  refine fmV_iload (pc := 530) (i := 4) F dL_law_530 rfl ?_
  refine fmV_iconst (pc := 532) (v := 1) F dL_law_532 rfl ?_
  refine fmV_iadd (pc := 533) F dL_law_533 ?_
  refine fmV_sld (pc := 534) F hXs hbl hbA dL_law_534 (fm_in (nI_add (6 * j) 1) (by omega) (by omega)) (fm_cl (nI_add (6 * j) 1) (by omega)) ?_
  refine fmV_aload_n (pc := 535) (i := 0) F dL_law_535 rfl rfl ?_
  refine fmV_iload (pc := 536) (i := 4) F dL_law_536 rfl ?_
  refine fmV_iconst (pc := 538) (v := 2) F dL_law_538 rfl ?_
  refine fmV_iadd (pc := 539) F dL_law_539 ?_
  refine fmV_sld (pc := 540) F hXs hbl hbA dL_law_540 (fm_in (nI_add (6 * j) 2) (by omega) (by omega)) (fm_cl (nI_add (6 * j) 2) (by omega)) ?_
  refine fmV_aload_n (pc := 541) (i := 3) F dL_law_541 rfl rfl ?_
  refine fmV_lSi (n := 4) (pc := 542) F hX (c_L_moor l D A G σ o (xs (6 * j + 1)) (xs (6 * j + 2)) (c_X4_moor l D A G σ o hl9 hgz (xs (6 * j + 1)) (xs (6 * j + 2))) (fun E9 u9 h9 => by
      rcases fmFirst_in h9.2 with rfl | rfl | rfl | h9
      · exact (Or.inl rfl)
      · exact (Or.inl rfl)
      · exact (Or.inr rfl)
      · exact h9.elim)) gL_law_L_moor rfl rfl rfl (by decide +kernel) ⟨Nat.le_of_ble_eq_true rfl, Nat.le_of_ble_eq_true rfl⟩ rfl rfl (Nat.le_of_ble_eq_true rfl) dL_law_542 ⟨by show _ ≤ 601024; omega, by show _ ≤ 7293034; omega⟩ (fun k9 z9 hk9 => ?_)
  obtain ⟨hm9, hop⟩ := op_moor I (by omega) (xs (6 * j + 1)) (xs (6 * j + 2)) hk9
  have g63 : z9.1 63 0 0 0 = nI cc := by rw [hm9 63 0 0 (by decide)]; exact I.2.1.2.1
  have g62 : z9.1 62 0 0 0 = nI rc := by rw [hm9 62 0 0 (by decide)]; exact I.2.1.1
  have g64 : z9.1 64 0 0 0 = nI t := by rw [hm9 64 0 0 (by decide)]; exact I.2.1.2.2
  refine fmV_istore (pc := 545) (i := 5) F dL_law_545 (by decide) ?_
  refine fmV_aload_n (pc := 547) (i := 2) F dL_law_547 rfl rfl ?_
  refine fmV_aload_n (pc := 548) (i := 0) F dL_law_548 rfl rfl ?_
  refine fmV_iload (pc := 549) (i := 4) F dL_law_549 rfl ?_
  refine fmV_iconst (pc := 551) (v := 1) F dL_law_551 rfl ?_
  refine fmV_iadd (pc := 552) F dL_law_552 ?_
  refine fmV_sld (pc := 553) F hXs hbl hbA dL_law_553 (fm_in (nI_add (6 * j) 1) (by omega) (by omega)) (fm_cl (nI_add (6 * j) 1) (by omega)) ?_
  refine fmV_aload_n (pc := 554) (i := 0) F dL_law_554 rfl rfl ?_
  refine fmV_iload (pc := 555) (i := 4) F dL_law_555 rfl ?_
  refine fmV_iconst (pc := 557) (v := 2) F dL_law_557 rfl ?_
  refine fmV_iadd (pc := 558) F dL_law_558 ?_
  refine fmV_sld (pc := 559) F hXs hbl hbA dL_law_559 (fm_in (nI_add (6 * j) 2) (by omega) (by omega)) (fm_cl (nI_add (6 * j) 2) (by omega)) ?_
  refine fmV_xVi (n := 2) (pc := 560) F hX (c_X6_moor l D A G z9.1 z9.2 hcc g63 hrc g62 (by omega) g64 (xs (6 * j + 1)) (xs (6 * j + 2))) gL_law_X6_moor rfl rfl rfl (by decide +kernel) ⟨Nat.le_of_ble_eq_true rfl, Nat.le_of_ble_eq_true rfl⟩ (fmR_14 F) rfl rfl (Nat.le_of_ble_eq_true rfl) dL_law_560 ⟨by show _ ≤ 601024; omega, by show _ ≤ 7293034; omega⟩ (fun _ _ h9 => False.elim h9) (fun b9 u9 hb9 => ?_)
  obtain ⟨⟨rc2, cc2, t2, ht2, I2⟩, h61, hout⟩ := hop b9 u9 hb9
  refine fmV_istore (pc := 563) (i := 6) F dL_law_563 (by decide) ?_
  refine fmV_aload_n (pc := 565) (i := 2) F dL_law_565 rfl rfl ?_
  refine fmV_xVi (n := 0) (pc := 566) F hX (c_X6_thrown l D A G u9 z9.2) gL_law_X6_thrown rfl rfl rfl (by decide +kernel) ⟨Nat.le_of_ble_eq_true rfl, Nat.le_of_ble_eq_true rfl⟩ (fmR_14 F) rfl rfl (Nat.le_of_ble_eq_true rfl) dL_law_566 ⟨by show _ ≤ 601024; omega, by show _ ≤ 7293034; omega⟩ (fun _ _ h9 => False.elim h9) (fun r8 u8 hc8 => ?_)
  obtain ⟨hr8, hu8⟩ := hc8
  have hr8 := hr8.symm
  have hu8 := hu8.symm
  subst hr8
  subst hu8
  refine fmV_iload (pc := 569) (i := 5) F dL_law_569 rfl ?_
  refine fmV_icmp_eq (pc := 571) (tgt := 576) F dL_law_571 (by decide) (fun h9 => ?_) (fun h9 => ?_)
  · refine fmV_iload (pc := 576) (i := 5) F dL_law_576 rfl ?_
    refine fmV_if_ne (pc := 578) (tgt := 593) F dL_law_578 (by decide) (fun h8 => ?_) (fun h8 => ?_)
    · refine fmV_goto (pc := 593) (tgt := 1518) F dL_law_593 (by decide) ?_
      refine fmV_iinc (pc := 1518) (i := 4) (v := nI (6 * (j + 1))) F dL_law_1518 rfl (nI_add (6 * j) 6) (by decide) ?_
      refine fmV_goto (pc := 1521) (tgt := 23) F dL_law_1521 (by decide) ?_
      refine fmV_widen (k := 200 + 170 * (j + 1)) (n := 1800 + 1850 * (j + 1)) (by omega) (by omega) ?_
      refine fmV_lv ?_ (next rc2 cc2 t2 _ z9.2 I2 (by omega))
      exact ⟨rfl, rfl, rfl, rfl, rfl, trivial⟩
    · refine fmV_aload_n (pc := 581) (i := 3) F dL_law_581 rfl rfl ?_
      refine fmV_iconst (pc := 582) (v := 0) F dL_law_582 rfl ?_
      refine fmV_lald (pc := 583) F dL_law_583 (vp_in_nI (show 0 < 1 by decide) (by decide)) (show (0 : Int32).toNatClampNeg = 0 by decide) ?_
      refine fmV_iload (pc := 584) (i := 6) F dL_law_584 rfl ?_
      have he9 := hout h8
      refine fmV_i2l (pc := 586) F dL_law_586 rfl ?_
      refine fmV_lcmp (pc := 587) F dL_law_587 ?_
      refine fmV_if_eq (pc := 588) (tgt := 593) F dL_law_588 (by decide) (fun h7 => ?_) (fun h7 => ?_)
      · refine fmV_goto (pc := 593) (tgt := 1518) F dL_law_593 (by decide) ?_
        refine fmV_iinc (pc := 1518) (i := 4) (v := nI (6 * (j + 1))) F dL_law_1518 rfl (nI_add (6 * j) 6) (by decide) ?_
        refine fmV_goto (pc := 1521) (tgt := 23) F dL_law_1521 (by decide) ?_
        refine fmV_widen (k := 200 + 170 * (j + 1)) (n := 1800 + 1850 * (j + 1)) (by omega) (by omega) ?_
        refine fmV_lv ?_ (next rc2 cc2 t2 _ z9.2 I2 (by omega))
        exact ⟨rfl, rfl, rfl, rfl, rfl, trivial⟩
      · exact absurd (by rw [he9]; exact lg_same _) h7
  · exact absurd h61 h9

set_option maxHeartbeats 4000000 in
set_option maxRecDepth 100000 in
theorem law_castOff {p : Program} {l : Launch} {e : Env} {s : State} {m : MethodId} {below : List Frame} {meth : Method} {c : Code} {b L : Nat} {xs : Nat → Int32} {D : va_G} {A : Nat → Prop} {G : fmG} (F : fmF p s m #[Value.ref b] meth c D A G RL code 9 ret wsL_law) (hX : fmX A s) (hl9 : l.stackTraces = false) (hG : G.1 36 0 0 = 0) (hXs : va_X b L xs s s.heap) (hbl : b < s.heap.size) (hbA : ¬ A b) (hL : L ≤ 3072) {j : Nat} (hj : 6 * j + 6 ≤ L) {rc cc t : Nat} {σ : fmS} {o : Nat → Int64} (I : rI rc cc t σ) (ht : t ≤ 200 * j) (next : ∀ (rc cc t : Nat) (σ : fmS) (o : Nat → Int64), rI rc cc t σ → t ≤ 200 * (j + 1) → fmV p l e room_1 s m #[Value.ref b] below meth c D A G 9 o (lw_Z below #[Value.ref b] s) σ (200 + 170 * (j + 1)) (1800 + 1850 * (j + 1)) [(0, .ref b), (1, .ref (G.1 0 0 0)), (2, .ref (G.1 14 0 0)), (3, .ref (G.1 34 0 0)), (4, .int (nI (6 * (j + 1))))] [] 23) : fmV p l e room_1 s m #[Value.ref b] below meth c D A G 9 o (lw_Z below #[Value.ref b] s) σ (200 + 170 * j) (1800 + 1850 * j) [(0, .ref b), (1, .ref (G.1 0 0 0)), (2, .ref (G.1 14 0 0)), (3, .ref (G.1 34 0 0)), (4, .int (nI (6 * j)))] [] 596 := by
  have hgz := I.1.1
  obtain ⟨⟨hrc, hcc, -, -, -, -⟩, -⟩ := id hgz
  refine fmV_aload_n (pc := 596) (i := 1) F dL_law_596 rfl rfl ?_
  refine fmV_aload_n (pc := 597) (i := 0) F dL_law_597 rfl rfl ?_
  refine fmV_iload (pc := 598) (i := 4) F dL_law_598 rfl ?_
  refine fmV_iconst (pc := 600) (v := 1) F dL_law_600 rfl ?_
  refine fmV_iadd (pc := 601) F dL_law_601 ?_
  refine fmV_sld (pc := 602) F hXs hbl hbA dL_law_602 (fm_in (nI_add (6 * j) 1) (by omega) (by omega)) (fm_cl (nI_add (6 * j) 1) (by omega)) ?_
  refine fmV_aload_n (pc := 603) (i := 3) F dL_law_603 rfl rfl ?_
  refine fmV_lSi (n := 3) (pc := 604) F hX (c_L_castOff l D A G σ o (xs (6 * j + 1)) (c_X4_castOff l D A G σ o hl9 hgz (xs (6 * j + 1))) (fun E9 u9 h9 => by
      rcases fmFirst_in h9.2 with rfl | rfl | h9
      · exact (Or.inl rfl)
      · exact (Or.inr rfl)
      · exact h9.elim)) gL_law_L_castOff rfl rfl rfl (by decide +kernel) ⟨Nat.le_of_ble_eq_true rfl, Nat.le_of_ble_eq_true rfl⟩ rfl rfl (Nat.le_of_ble_eq_true rfl) dL_law_604 ⟨by show _ ≤ 601024; omega, by show _ ≤ 7293034; omega⟩ (fun k9 z9 hk9 => ?_)
  obtain ⟨hm9, hop⟩ := op_castOff I (by omega) (xs (6 * j + 1)) hk9
  have g63 : z9.1 63 0 0 0 = nI cc := by rw [hm9 63 0 0 (by decide)]; exact I.2.1.2.1
  have g62 : z9.1 62 0 0 0 = nI rc := by rw [hm9 62 0 0 (by decide)]; exact I.2.1.1
  have g64 : z9.1 64 0 0 0 = nI t := by rw [hm9 64 0 0 (by decide)]; exact I.2.1.2.2
  refine fmV_istore (pc := 607) (i := 5) F dL_law_607 (by decide) ?_
  refine fmV_aload_n (pc := 609) (i := 2) F dL_law_609 rfl rfl ?_
  refine fmV_aload_n (pc := 610) (i := 0) F dL_law_610 rfl rfl ?_
  refine fmV_iload (pc := 611) (i := 4) F dL_law_611 rfl ?_
  refine fmV_iconst (pc := 613) (v := 1) F dL_law_613 rfl ?_
  refine fmV_iadd (pc := 614) F dL_law_614 ?_
  refine fmV_sld (pc := 615) F hXs hbl hbA dL_law_615 (fm_in (nI_add (6 * j) 1) (by omega) (by omega)) (fm_cl (nI_add (6 * j) 1) (by omega)) ?_
  refine fmV_xVi (n := 1) (pc := 616) F hX (c_X6_castOff l D A G z9.1 z9.2 hcc g63 hrc g62 (by omega) g64 (xs (6 * j + 1))) gL_law_X6_castOff rfl rfl rfl (by decide +kernel) ⟨Nat.le_of_ble_eq_true rfl, Nat.le_of_ble_eq_true rfl⟩ (fmR_14 F) rfl rfl (Nat.le_of_ble_eq_true rfl) dL_law_616 ⟨by show _ ≤ 601024; omega, by show _ ≤ 7293034; omega⟩ (fun _ _ h9 => False.elim h9) (fun b9 u9 hb9 => ?_)
  obtain ⟨⟨rc2, cc2, t2, ht2, I2⟩, h61, hout⟩ := hop b9 u9 hb9
  refine fmV_istore (pc := 619) (i := 6) F dL_law_619 (by decide) ?_
  refine fmV_aload_n (pc := 621) (i := 2) F dL_law_621 rfl rfl ?_
  refine fmV_xVi (n := 0) (pc := 622) F hX (c_X6_thrown l D A G u9 z9.2) gL_law_X6_thrown rfl rfl rfl (by decide +kernel) ⟨Nat.le_of_ble_eq_true rfl, Nat.le_of_ble_eq_true rfl⟩ (fmR_14 F) rfl rfl (Nat.le_of_ble_eq_true rfl) dL_law_622 ⟨by show _ ≤ 601024; omega, by show _ ≤ 7293034; omega⟩ (fun _ _ h9 => False.elim h9) (fun r8 u8 hc8 => ?_)
  obtain ⟨hr8, hu8⟩ := hc8
  have hr8 := hr8.symm
  have hu8 := hu8.symm
  subst hr8
  subst hu8
  refine fmV_iload (pc := 625) (i := 5) F dL_law_625 rfl ?_
  refine fmV_icmp_eq (pc := 627) (tgt := 632) F dL_law_627 (by decide) (fun h9 => ?_) (fun h9 => ?_)
  · refine fmV_iload (pc := 632) (i := 5) F dL_law_632 rfl ?_
    refine fmV_if_ne (pc := 634) (tgt := 649) F dL_law_634 (by decide) (fun h8 => ?_) (fun h8 => ?_)
    · refine fmV_goto (pc := 649) (tgt := 1518) F dL_law_649 (by decide) ?_
      refine fmV_iinc (pc := 1518) (i := 4) (v := nI (6 * (j + 1))) F dL_law_1518 rfl (nI_add (6 * j) 6) (by decide) ?_
      refine fmV_goto (pc := 1521) (tgt := 23) F dL_law_1521 (by decide) ?_
      refine fmV_widen (k := 200 + 170 * (j + 1)) (n := 1800 + 1850 * (j + 1)) (by omega) (by omega) ?_
      refine fmV_lv ?_ (next rc2 cc2 t2 _ z9.2 I2 (by omega))
      exact ⟨rfl, rfl, rfl, rfl, rfl, trivial⟩
    · refine fmV_aload_n (pc := 637) (i := 3) F dL_law_637 rfl rfl ?_
      refine fmV_iconst (pc := 638) (v := 0) F dL_law_638 rfl ?_
      refine fmV_lald (pc := 639) F dL_law_639 (vp_in_nI (show 0 < 1 by decide) (by decide)) (show (0 : Int32).toNatClampNeg = 0 by decide) ?_
      refine fmV_iload (pc := 640) (i := 6) F dL_law_640 rfl ?_
      have he9 := hout h8
      refine fmV_i2l (pc := 642) F dL_law_642 rfl ?_
      refine fmV_lcmp (pc := 643) F dL_law_643 ?_
      refine fmV_if_eq (pc := 644) (tgt := 649) F dL_law_644 (by decide) (fun h7 => ?_) (fun h7 => ?_)
      · refine fmV_goto (pc := 649) (tgt := 1518) F dL_law_649 (by decide) ?_
        refine fmV_iinc (pc := 1518) (i := 4) (v := nI (6 * (j + 1))) F dL_law_1518 rfl (nI_add (6 * j) 6) (by decide) ?_
        refine fmV_goto (pc := 1521) (tgt := 23) F dL_law_1521 (by decide) ?_
        refine fmV_widen (k := 200 + 170 * (j + 1)) (n := 1800 + 1850 * (j + 1)) (by omega) (by omega) ?_
        refine fmV_lv ?_ (next rc2 cc2 t2 _ z9.2 I2 (by omega))
        exact ⟨rfl, rfl, rfl, rfl, rfl, trivial⟩
      · exact absurd (by rw [he9]; exact lg_same _) h7
  · exact absurd h61 h9

set_option maxHeartbeats 4000000 in
set_option maxRecDepth 100000 in
theorem law_leaveIn {p : Program} {l : Launch} {e : Env} {s : State} {m : MethodId} {below : List Frame} {meth : Method} {c : Code} {b L : Nat} {xs : Nat → Int32} {D : va_G} {A : Nat → Prop} {G : fmG} (F : fmF p s m #[Value.ref b] meth c D A G RL code 9 ret wsL_law) (hX : fmX A s) (hl9 : l.stackTraces = false) (hG : G.1 36 0 0 = 0) (hXs : va_X b L xs s s.heap) (hbl : b < s.heap.size) (hbA : ¬ A b) (hL : L ≤ 3072) {j : Nat} (hj : 6 * j + 6 ≤ L) {rc cc t : Nat} {σ : fmS} {o : Nat → Int64} (I : rI rc cc t σ) (ht : t ≤ 200 * j) (next : ∀ (rc cc t : Nat) (σ : fmS) (o : Nat → Int64), rI rc cc t σ → t ≤ 200 * (j + 1) → fmV p l e room_1 s m #[Value.ref b] below meth c D A G 9 o (lw_Z below #[Value.ref b] s) σ (200 + 170 * (j + 1)) (1800 + 1850 * (j + 1)) [(0, .ref b), (1, .ref (G.1 0 0 0)), (2, .ref (G.1 14 0 0)), (3, .ref (G.1 34 0 0)), (4, .int (nI (6 * (j + 1))))] [] 23) : fmV p l e room_1 s m #[Value.ref b] below meth c D A G 9 o (lw_Z below #[Value.ref b] s) σ (200 + 170 * j) (1800 + 1850 * j) [(0, .ref b), (1, .ref (G.1 0 0 0)), (2, .ref (G.1 14 0 0)), (3, .ref (G.1 34 0 0)), (4, .int (nI (6 * j)))] [] 652 := by
  have hgz := I.1.1
  obtain ⟨⟨hrc, hcc, -, -, -, -⟩, -⟩ := id hgz
  refine fmV_aload_n (pc := 652) (i := 1) F dL_law_652 rfl rfl ?_
  refine fmV_aload_n (pc := 653) (i := 0) F dL_law_653 rfl rfl ?_
  refine fmV_iload (pc := 654) (i := 4) F dL_law_654 rfl ?_
  refine fmV_iconst (pc := 656) (v := 1) F dL_law_656 rfl ?_
  refine fmV_iadd (pc := 657) F dL_law_657 ?_
  refine fmV_sld (pc := 658) F hXs hbl hbA dL_law_658 (fm_in (nI_add (6 * j) 1) (by omega) (by omega)) (fm_cl (nI_add (6 * j) 1) (by omega)) ?_
  refine fmV_aload_n (pc := 659) (i := 0) F dL_law_659 rfl rfl ?_
  refine fmV_iload (pc := 660) (i := 4) F dL_law_660 rfl ?_
  refine fmV_iconst (pc := 662) (v := 2) F dL_law_662 rfl ?_
  refine fmV_iadd (pc := 663) F dL_law_663 ?_
  refine fmV_sld (pc := 664) F hXs hbl hbA dL_law_664 (fm_in (nI_add (6 * j) 2) (by omega) (by omega)) (fm_cl (nI_add (6 * j) 2) (by omega)) ?_
  refine fmV_aload_n (pc := 665) (i := 3) F dL_law_665 rfl rfl ?_
  refine fmV_lSi (n := 4) (pc := 666) F hX (c_L_leaveIn l D A G σ o (xs (6 * j + 1)) (xs (6 * j + 2)) (c_X4_leaveIn l D A G σ o hl9 hgz (xs (6 * j + 1)) (xs (6 * j + 2))) (fun E9 u9 h9 => by
      rcases fmFirst_in h9.2 with rfl | rfl | rfl | h9
      · exact (Or.inl rfl)
      · exact (Or.inr (Or.inl rfl))
      · exact (Or.inr (Or.inr rfl))
      · exact h9.elim)) gL_law_L_leaveIn rfl rfl rfl (by decide +kernel) ⟨Nat.le_of_ble_eq_true rfl, Nat.le_of_ble_eq_true rfl⟩ rfl rfl (Nat.le_of_ble_eq_true rfl) dL_law_666 ⟨by show _ ≤ 601024; omega, by show _ ≤ 7293034; omega⟩ (fun k9 z9 hk9 => ?_)
  obtain ⟨hm9, hop⟩ := op_leaveIn I (by omega) (xs (6 * j + 1)) (xs (6 * j + 2)) hk9
  have g63 : z9.1 63 0 0 0 = nI cc := by rw [hm9 63 0 0 (by decide)]; exact I.2.1.2.1
  have g62 : z9.1 62 0 0 0 = nI rc := by rw [hm9 62 0 0 (by decide)]; exact I.2.1.1
  have g64 : z9.1 64 0 0 0 = nI t := by rw [hm9 64 0 0 (by decide)]; exact I.2.1.2.2
  refine fmV_istore (pc := 669) (i := 5) F dL_law_669 (by decide) ?_
  refine fmV_aload_n (pc := 671) (i := 2) F dL_law_671 rfl rfl ?_
  refine fmV_aload_n (pc := 672) (i := 0) F dL_law_672 rfl rfl ?_
  refine fmV_iload (pc := 673) (i := 4) F dL_law_673 rfl ?_
  refine fmV_iconst (pc := 675) (v := 1) F dL_law_675 rfl ?_
  refine fmV_iadd (pc := 676) F dL_law_676 ?_
  refine fmV_sld (pc := 677) F hXs hbl hbA dL_law_677 (fm_in (nI_add (6 * j) 1) (by omega) (by omega)) (fm_cl (nI_add (6 * j) 1) (by omega)) ?_
  refine fmV_aload_n (pc := 678) (i := 0) F dL_law_678 rfl rfl ?_
  refine fmV_iload (pc := 679) (i := 4) F dL_law_679 rfl ?_
  refine fmV_iconst (pc := 681) (v := 2) F dL_law_681 rfl ?_
  refine fmV_iadd (pc := 682) F dL_law_682 ?_
  refine fmV_sld (pc := 683) F hXs hbl hbA dL_law_683 (fm_in (nI_add (6 * j) 2) (by omega) (by omega)) (fm_cl (nI_add (6 * j) 2) (by omega)) ?_
  refine fmV_xVi (n := 2) (pc := 684) F hX (c_X6_leaveIn l D A G z9.1 z9.2 hcc g63 hrc g62 (by omega) g64 (xs (6 * j + 1)) (xs (6 * j + 2))) gL_law_X6_leaveIn rfl rfl rfl (by decide +kernel) ⟨Nat.le_of_ble_eq_true rfl, Nat.le_of_ble_eq_true rfl⟩ (fmR_14 F) rfl rfl (Nat.le_of_ble_eq_true rfl) dL_law_684 ⟨by show _ ≤ 601024; omega, by show _ ≤ 7293034; omega⟩ (fun _ _ h9 => False.elim h9) (fun b9 u9 hb9 => ?_)
  obtain ⟨⟨rc2, cc2, t2, ht2, I2⟩, h61, hout⟩ := hop b9 u9 hb9
  refine fmV_istore (pc := 687) (i := 6) F dL_law_687 (by decide) ?_
  refine fmV_aload_n (pc := 689) (i := 2) F dL_law_689 rfl rfl ?_
  refine fmV_xVi (n := 0) (pc := 690) F hX (c_X6_thrown l D A G u9 z9.2) gL_law_X6_thrown rfl rfl rfl (by decide +kernel) ⟨Nat.le_of_ble_eq_true rfl, Nat.le_of_ble_eq_true rfl⟩ (fmR_14 F) rfl rfl (Nat.le_of_ble_eq_true rfl) dL_law_690 ⟨by show _ ≤ 601024; omega, by show _ ≤ 7293034; omega⟩ (fun _ _ h9 => False.elim h9) (fun r8 u8 hc8 => ?_)
  obtain ⟨hr8, hu8⟩ := hc8
  have hr8 := hr8.symm
  have hu8 := hu8.symm
  subst hr8
  subst hu8
  refine fmV_iload (pc := 693) (i := 5) F dL_law_693 rfl ?_
  refine fmV_icmp_eq (pc := 695) (tgt := 700) F dL_law_695 (by decide) (fun h9 => ?_) (fun h9 => ?_)
  · refine fmV_iload (pc := 700) (i := 5) F dL_law_700 rfl ?_
    refine fmV_if_ne (pc := 702) (tgt := 717) F dL_law_702 (by decide) (fun h8 => ?_) (fun h8 => ?_)
    · refine fmV_goto (pc := 717) (tgt := 1518) F dL_law_717 (by decide) ?_
      refine fmV_iinc (pc := 1518) (i := 4) (v := nI (6 * (j + 1))) F dL_law_1518 rfl (nI_add (6 * j) 6) (by decide) ?_
      refine fmV_goto (pc := 1521) (tgt := 23) F dL_law_1521 (by decide) ?_
      refine fmV_widen (k := 200 + 170 * (j + 1)) (n := 1800 + 1850 * (j + 1)) (by omega) (by omega) ?_
      refine fmV_lv ?_ (next rc2 cc2 t2 _ z9.2 I2 (by omega))
      exact ⟨rfl, rfl, rfl, rfl, rfl, trivial⟩
    · refine fmV_aload_n (pc := 705) (i := 3) F dL_law_705 rfl rfl ?_
      refine fmV_iconst (pc := 706) (v := 0) F dL_law_706 rfl ?_
      refine fmV_lald (pc := 707) F dL_law_707 (vp_in_nI (show 0 < 1 by decide) (by decide)) (show (0 : Int32).toNatClampNeg = 0 by decide) ?_
      refine fmV_iload (pc := 708) (i := 6) F dL_law_708 rfl ?_
      have he9 := hout h8
      refine fmV_i2l (pc := 710) F dL_law_710 rfl ?_
      refine fmV_lcmp (pc := 711) F dL_law_711 ?_
      refine fmV_if_eq (pc := 712) (tgt := 717) F dL_law_712 (by decide) (fun h7 => ?_) (fun h7 => ?_)
      · refine fmV_goto (pc := 717) (tgt := 1518) F dL_law_717 (by decide) ?_
        refine fmV_iinc (pc := 1518) (i := 4) (v := nI (6 * (j + 1))) F dL_law_1518 rfl (nI_add (6 * j) 6) (by decide) ?_
        refine fmV_goto (pc := 1521) (tgt := 23) F dL_law_1521 (by decide) ?_
        refine fmV_widen (k := 200 + 170 * (j + 1)) (n := 1800 + 1850 * (j + 1)) (by omega) (by omega) ?_
        refine fmV_lv ?_ (next rc2 cc2 t2 _ z9.2 I2 (by omega))
        exact ⟨rfl, rfl, rfl, rfl, rfl, trivial⟩
      · exact absurd (by rw [he9]; exact lg_same _) h7
  · exact absurd h61 h9
