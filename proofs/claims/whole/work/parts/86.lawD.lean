set_option maxHeartbeats 4000000 in
set_option maxRecDepth 100000 in
theorem law_foresee {p : Program} {l : Launch} {e : Env} {s : State} {m : MethodId} {below : List Frame} {meth : Method} {c : Code} {b L : Nat} {xs : Nat → Int32} {D : va_G} {A : Nat → Prop} {G : fmG} (F : fmF p s m #[Value.ref b] meth c D A G RL code 9 ret wsL_law) (hX : fmX A s) (hl9 : l.stackTraces = false) (hG : G.1 36 0 0 = 0) (hXs : va_X b L xs s s.heap) (hbl : b < s.heap.size) (hbA : ¬ A b) (hL : L ≤ 3072) {j : Nat} (hj : 6 * j + 6 ≤ L) {rc cc t : Nat} {σ : fmS} {o : Nat → Int64} (I : rI rc cc t σ) (ht : t ≤ 200 * j) (next : ∀ (rc cc t : Nat) (σ : fmS) (o : Nat → Int64), rI rc cc t σ → t ≤ 200 * (j + 1) → fmV p l e room_1 s m #[Value.ref b] below meth c D A G 9 o (lw_Z below #[Value.ref b] s) σ (200 + 170 * (j + 1)) (1800 + 1850 * (j + 1)) [(0, .ref b), (1, .ref (G.1 0 0 0)), (2, .ref (G.1 14 0 0)), (3, .ref (G.1 34 0 0)), (4, .int (nI (6 * (j + 1))))] [] 23) : fmV p l e room_1 s m #[Value.ref b] below meth c D A G 9 o (lw_Z below #[Value.ref b] s) σ (200 + 170 * j) (1800 + 1850 * j) [(0, .ref b), (1, .ref (G.1 0 0 0)), (2, .ref (G.1 14 0 0)), (3, .ref (G.1 34 0 0)), (4, .int (nI (6 * j)))] [] 1123 := by
  have hgz := I.1.1
  obtain ⟨⟨hrc, hcc, -, -, -, -⟩, -⟩ := id hgz
  refine fmV_aload_n (pc := 1123) (i := 1) F dL_law_1123 rfl rfl ?_
  refine fmV_aload_n (pc := 1124) (i := 0) F dL_law_1124 rfl rfl ?_
  refine fmV_iload (pc := 1125) (i := 4) F dL_law_1125 rfl ?_
  refine fmV_iconst (pc := 1127) (v := 1) F dL_law_1127 rfl ?_
  refine fmV_iadd (pc := 1128) F dL_law_1128 ?_
  refine fmV_sld (pc := 1129) F hXs hbl hbA dL_law_1129 (fm_in (nI_add (6 * j) 1) (by omega) (by omega)) (fm_cl (nI_add (6 * j) 1) (by omega)) ?_
  refine fmV_aload_n (pc := 1130) (i := 0) F dL_law_1130 rfl rfl ?_
  refine fmV_iload (pc := 1131) (i := 4) F dL_law_1131 rfl ?_
  refine fmV_iconst (pc := 1133) (v := 2) F dL_law_1133 rfl ?_
  refine fmV_iadd (pc := 1134) F dL_law_1134 ?_
  refine fmV_sld (pc := 1135) F hXs hbl hbA dL_law_1135 (fm_in (nI_add (6 * j) 2) (by omega) (by omega)) (fm_cl (nI_add (6 * j) 2) (by omega)) ?_
  refine fmV_aload_n (pc := 1136) (i := 0) F dL_law_1136 rfl rfl ?_
  refine fmV_iload (pc := 1137) (i := 4) F dL_law_1137 rfl ?_
  refine fmV_iconst (pc := 1139) (v := 3) F dL_law_1139 rfl ?_
  refine fmV_iadd (pc := 1140) F dL_law_1140 ?_
  refine fmV_sld (pc := 1141) F hXs hbl hbA dL_law_1141 (fm_in (nI_add (6 * j) 3) (by omega) (by omega)) (fm_cl (nI_add (6 * j) 3) (by omega)) ?_
  refine fmV_aload_n (pc := 1142) (i := 3) F dL_law_1142 rfl rfl ?_
  refine fmV_lSi (n := 5) (pc := 1143) F hX (c_L_foresee l D A G σ o (xs (6 * j + 1)) (xs (6 * j + 2)) (xs (6 * j + 3)) (c_X4_foresee l D A G σ o hl9 hgz (by omega) (xs (6 * j + 1)) (xs (6 * j + 2)) (xs (6 * j + 3))) (fun E9 u9 h9 => by
      rcases fmFirst_in h9.2 with rfl | rfl | rfl | h9
      · exact (Or.inl rfl)
      · exact (Or.inl rfl)
      · exact (Or.inr rfl)
      · exact h9.elim)) gL_law_L_foresee rfl rfl rfl (by decide +kernel) ⟨Nat.le_of_ble_eq_true rfl, Nat.le_of_ble_eq_true rfl⟩ rfl rfl (Nat.le_of_ble_eq_true rfl) dL_law_1143 ⟨by show _ ≤ 601024; omega, by show _ ≤ 7293034; omega⟩ (fun k9 z9 hk9 => ?_)
  obtain ⟨hm9, hop⟩ := op_foresee I (by omega) (xs (6 * j + 1)) (xs (6 * j + 2)) (xs (6 * j + 3)) hk9
  have g63 : z9.1 63 0 0 0 = nI cc := by rw [hm9 63 0 0 (by decide)]; exact I.2.1.2.1
  have g62 : z9.1 62 0 0 0 = nI rc := by rw [hm9 62 0 0 (by decide)]; exact I.2.1.1
  have g64 : z9.1 64 0 0 0 = nI t := by rw [hm9 64 0 0 (by decide)]; exact I.2.1.2.2
  refine fmV_istore (pc := 1146) (i := 5) F dL_law_1146 (by decide) ?_
  refine fmV_aload_n (pc := 1148) (i := 2) F dL_law_1148 rfl rfl ?_
  refine fmV_aload_n (pc := 1149) (i := 0) F dL_law_1149 rfl rfl ?_
  refine fmV_iload (pc := 1150) (i := 4) F dL_law_1150 rfl ?_
  refine fmV_iconst (pc := 1152) (v := 1) F dL_law_1152 rfl ?_
  refine fmV_iadd (pc := 1153) F dL_law_1153 ?_
  refine fmV_sld (pc := 1154) F hXs hbl hbA dL_law_1154 (fm_in (nI_add (6 * j) 1) (by omega) (by omega)) (fm_cl (nI_add (6 * j) 1) (by omega)) ?_
  refine fmV_aload_n (pc := 1155) (i := 0) F dL_law_1155 rfl rfl ?_
  refine fmV_iload (pc := 1156) (i := 4) F dL_law_1156 rfl ?_
  refine fmV_iconst (pc := 1158) (v := 2) F dL_law_1158 rfl ?_
  refine fmV_iadd (pc := 1159) F dL_law_1159 ?_
  refine fmV_sld (pc := 1160) F hXs hbl hbA dL_law_1160 (fm_in (nI_add (6 * j) 2) (by omega) (by omega)) (fm_cl (nI_add (6 * j) 2) (by omega)) ?_
  refine fmV_aload_n (pc := 1161) (i := 0) F dL_law_1161 rfl rfl ?_
  refine fmV_iload (pc := 1162) (i := 4) F dL_law_1162 rfl ?_
  refine fmV_iconst (pc := 1164) (v := 3) F dL_law_1164 rfl ?_
  refine fmV_iadd (pc := 1165) F dL_law_1165 ?_
  refine fmV_sld (pc := 1166) F hXs hbl hbA dL_law_1166 (fm_in (nI_add (6 * j) 3) (by omega) (by omega)) (fm_cl (nI_add (6 * j) 3) (by omega)) ?_
  refine fmV_xVi (n := 3) (pc := 1167) F hX (c_X6_foresee l D A G z9.1 z9.2 hcc g63 hrc g62 (by omega) g64 (xs (6 * j + 1)) (xs (6 * j + 2)) (xs (6 * j + 3))) gL_law_X6_foresee rfl rfl rfl (by decide +kernel) ⟨Nat.le_of_ble_eq_true rfl, Nat.le_of_ble_eq_true rfl⟩ (fmR_14 F) rfl rfl (Nat.le_of_ble_eq_true rfl) dL_law_1167 ⟨by show _ ≤ 601024; omega, by show _ ≤ 7293034; omega⟩ (fun _ _ h9 => False.elim h9) (fun b9 u9 hb9 => ?_)
  obtain ⟨⟨rc2, cc2, t2, ht2, I2⟩, h61, hout⟩ := hop b9 u9 hb9
  refine fmV_istore (pc := 1170) (i := 6) F dL_law_1170 (by decide) ?_
  refine fmV_aload_n (pc := 1172) (i := 2) F dL_law_1172 rfl rfl ?_
  refine fmV_xVi (n := 0) (pc := 1173) F hX (c_X6_thrown l D A G u9 z9.2) gL_law_X6_thrown rfl rfl rfl (by decide +kernel) ⟨Nat.le_of_ble_eq_true rfl, Nat.le_of_ble_eq_true rfl⟩ (fmR_14 F) rfl rfl (Nat.le_of_ble_eq_true rfl) dL_law_1173 ⟨by show _ ≤ 601024; omega, by show _ ≤ 7293034; omega⟩ (fun _ _ h9 => False.elim h9) (fun r8 u8 hc8 => ?_)
  obtain ⟨hr8, hu8⟩ := hc8
  have hr8 := hr8.symm
  have hu8 := hu8.symm
  subst hr8
  subst hu8
  refine fmV_iload (pc := 1176) (i := 5) F dL_law_1176 rfl ?_
  refine fmV_icmp_eq (pc := 1178) (tgt := 1183) F dL_law_1178 (by decide) (fun h9 => ?_) (fun h9 => ?_)
  · refine fmV_iload (pc := 1183) (i := 5) F dL_law_1183 rfl ?_
    refine fmV_if_ne (pc := 1185) (tgt := 1200) F dL_law_1185 (by decide) (fun h8 => ?_) (fun h8 => ?_)
    · refine fmV_goto (pc := 1200) (tgt := 1518) F dL_law_1200 (by decide) ?_
      refine fmV_iinc (pc := 1518) (i := 4) (v := nI (6 * (j + 1))) F dL_law_1518 rfl (nI_add (6 * j) 6) (by decide) ?_
      refine fmV_goto (pc := 1521) (tgt := 23) F dL_law_1521 (by decide) ?_
      refine fmV_widen (k := 200 + 170 * (j + 1)) (n := 1800 + 1850 * (j + 1)) (by omega) (by omega) ?_
      refine fmV_lv ?_ (next rc2 cc2 t2 _ z9.2 I2 (by omega))
      exact ⟨rfl, rfl, rfl, rfl, rfl, trivial⟩
    · refine fmV_aload_n (pc := 1188) (i := 3) F dL_law_1188 rfl rfl ?_
      refine fmV_iconst (pc := 1189) (v := 0) F dL_law_1189 rfl ?_
      refine fmV_lald (pc := 1190) F dL_law_1190 (vp_in_nI (show 0 < 1 by decide) (by decide)) (show (0 : Int32).toNatClampNeg = 0 by decide) ?_
      refine fmV_iload (pc := 1191) (i := 6) F dL_law_1191 rfl ?_
      have he9 := hout h8
      refine fmV_i2l (pc := 1193) F dL_law_1193 rfl ?_
      refine fmV_lcmp (pc := 1194) F dL_law_1194 ?_
      refine fmV_if_eq (pc := 1195) (tgt := 1200) F dL_law_1195 (by decide) (fun h7 => ?_) (fun h7 => ?_)
      · refine fmV_goto (pc := 1200) (tgt := 1518) F dL_law_1200 (by decide) ?_
        refine fmV_iinc (pc := 1518) (i := 4) (v := nI (6 * (j + 1))) F dL_law_1518 rfl (nI_add (6 * j) 6) (by decide) ?_
        refine fmV_goto (pc := 1521) (tgt := 23) F dL_law_1521 (by decide) ?_
        refine fmV_widen (k := 200 + 170 * (j + 1)) (n := 1800 + 1850 * (j + 1)) (by omega) (by omega) ?_
        refine fmV_lv ?_ (next rc2 cc2 t2 _ z9.2 I2 (by omega))
        exact ⟨rfl, rfl, rfl, rfl, rfl, trivial⟩
      · exact absurd (by rw [he9]; exact lg_same _) h7
  · exact absurd h61 h9

set_option maxHeartbeats 4000000 in
set_option maxRecDepth 100000 in
theorem law_full {p : Program} {l : Launch} {e : Env} {s : State} {m : MethodId} {below : List Frame} {meth : Method} {c : Code} {b L : Nat} {xs : Nat → Int32} {D : va_G} {A : Nat → Prop} {G : fmG} (F : fmF p s m #[Value.ref b] meth c D A G RL code 9 ret wsL_law) (hX : fmX A s) (hl9 : l.stackTraces = false) (hG : G.1 36 0 0 = 0) (hXs : va_X b L xs s s.heap) (hbl : b < s.heap.size) (hbA : ¬ A b) (hL : L ≤ 3072) {j : Nat} (hj : 6 * j + 6 ≤ L) {rc cc t : Nat} {σ : fmS} {o : Nat → Int64} (I : rI rc cc t σ) (ht : t ≤ 200 * j) (next : ∀ (rc cc t : Nat) (σ : fmS) (o : Nat → Int64), rI rc cc t σ → t ≤ 200 * (j + 1) → fmV p l e room_1 s m #[Value.ref b] below meth c D A G 9 o (lw_Z below #[Value.ref b] s) σ (200 + 170 * (j + 1)) (1800 + 1850 * (j + 1)) [(0, .ref b), (1, .ref (G.1 0 0 0)), (2, .ref (G.1 14 0 0)), (3, .ref (G.1 34 0 0)), (4, .int (nI (6 * (j + 1))))] [] 23) : fmV p l e room_1 s m #[Value.ref b] below meth c D A G 9 o (lw_Z below #[Value.ref b] s) σ (200 + 170 * j) (1800 + 1850 * j) [(0, .ref b), (1, .ref (G.1 0 0 0)), (2, .ref (G.1 14 0 0)), (3, .ref (G.1 34 0 0)), (4, .int (nI (6 * j)))] [] 1203 := by
  have hgz := I.1.1
  obtain ⟨⟨hrc, hcc, -, -, -, -⟩, -⟩ := id hgz
  refine fmV_aload_n (pc := 1203) (i := 1) F dL_law_1203 rfl rfl ?_
  refine fmV_aload_n (pc := 1204) (i := 0) F dL_law_1204 rfl rfl ?_
  refine fmV_iload (pc := 1205) (i := 4) F dL_law_1205 rfl ?_
  refine fmV_iconst (pc := 1207) (v := 1) F dL_law_1207 rfl ?_
  refine fmV_iadd (pc := 1208) F dL_law_1208 ?_
  refine fmV_sld (pc := 1209) F hXs hbl hbA dL_law_1209 (fm_in (nI_add (6 * j) 1) (by omega) (by omega)) (fm_cl (nI_add (6 * j) 1) (by omega)) ?_
  refine fmV_aload_n (pc := 1210) (i := 3) F dL_law_1210 rfl rfl ?_
  refine fmV_lSi (n := 3) (pc := 1211) F hX (c_L_full l D A G σ o (xs (6 * j + 1)) (c_X4_full l D A G σ o hl9 hgz (by omega) (xs (6 * j + 1))) (fun E9 u9 h9 => by
      rcases fmFirst_in h9.2 with rfl | h9
      · exact rfl
      · exact h9.elim)) gL_law_L_full rfl rfl rfl (by decide +kernel) ⟨Nat.le_of_ble_eq_true rfl, Nat.le_of_ble_eq_true rfl⟩ rfl rfl (Nat.le_of_ble_eq_true rfl) dL_law_1211 ⟨by show _ ≤ 601024; omega, by show _ ≤ 7293034; omega⟩ (fun k9 z9 hk9 => ?_)
  obtain ⟨hm9, hop⟩ := op_full I (by omega) (xs (6 * j + 1)) hk9
  have g63 : z9.1 63 0 0 0 = nI cc := by rw [hm9 63 0 0 (by decide)]; exact I.2.1.2.1
  have g62 : z9.1 62 0 0 0 = nI rc := by rw [hm9 62 0 0 (by decide)]; exact I.2.1.1
  have g64 : z9.1 64 0 0 0 = nI t := by rw [hm9 64 0 0 (by decide)]; exact I.2.1.2.2
  refine fmV_istore (pc := 1214) (i := 5) F dL_law_1214 (by decide) ?_
  refine fmV_aload_n (pc := 1216) (i := 2) F dL_law_1216 rfl rfl ?_
  refine fmV_aload_n (pc := 1217) (i := 0) F dL_law_1217 rfl rfl ?_
  refine fmV_iload (pc := 1218) (i := 4) F dL_law_1218 rfl ?_
  refine fmV_iconst (pc := 1220) (v := 1) F dL_law_1220 rfl ?_
  refine fmV_iadd (pc := 1221) F dL_law_1221 ?_
  refine fmV_sld (pc := 1222) F hXs hbl hbA dL_law_1222 (fm_in (nI_add (6 * j) 1) (by omega) (by omega)) (fm_cl (nI_add (6 * j) 1) (by omega)) ?_
  refine fmV_xVi (n := 1) (pc := 1223) F hX (c_X6_full l D A G z9.1 z9.2 hcc g63 hrc g62 (by omega) g64 (xs (6 * j + 1))) gL_law_X6_full rfl rfl rfl (by decide +kernel) ⟨Nat.le_of_ble_eq_true rfl, Nat.le_of_ble_eq_true rfl⟩ (fmR_14 F) rfl rfl (Nat.le_of_ble_eq_true rfl) dL_law_1223 ⟨by show _ ≤ 601024; omega, by show _ ≤ 7293034; omega⟩ (fun _ _ h9 => False.elim h9) (fun b9 u9 hb9 => ?_)
  obtain ⟨⟨rc2, cc2, t2, ht2, I2⟩, h61, hout⟩ := hop b9 u9 hb9
  refine fmV_istore (pc := 1226) (i := 6) F dL_law_1226 (by decide) ?_
  refine fmV_aload_n (pc := 1228) (i := 2) F dL_law_1228 rfl rfl ?_
  refine fmV_xVi (n := 0) (pc := 1229) F hX (c_X6_thrown l D A G u9 z9.2) gL_law_X6_thrown rfl rfl rfl (by decide +kernel) ⟨Nat.le_of_ble_eq_true rfl, Nat.le_of_ble_eq_true rfl⟩ (fmR_14 F) rfl rfl (Nat.le_of_ble_eq_true rfl) dL_law_1229 ⟨by show _ ≤ 601024; omega, by show _ ≤ 7293034; omega⟩ (fun _ _ h9 => False.elim h9) (fun r8 u8 hc8 => ?_)
  obtain ⟨hr8, hu8⟩ := hc8
  have hr8 := hr8.symm
  have hu8 := hu8.symm
  subst hr8
  subst hu8
  refine fmV_iload (pc := 1232) (i := 5) F dL_law_1232 rfl ?_
  refine fmV_icmp_eq (pc := 1234) (tgt := 1239) F dL_law_1234 (by decide) (fun h9 => ?_) (fun h9 => ?_)
  · refine fmV_iload (pc := 1239) (i := 5) F dL_law_1239 rfl ?_
    refine fmV_if_ne (pc := 1241) (tgt := 1256) F dL_law_1241 (by decide) (fun h8 => ?_) (fun h8 => ?_)
    · refine fmV_goto (pc := 1256) (tgt := 1518) F dL_law_1256 (by decide) ?_
      refine fmV_iinc (pc := 1518) (i := 4) (v := nI (6 * (j + 1))) F dL_law_1518 rfl (nI_add (6 * j) 6) (by decide) ?_
      refine fmV_goto (pc := 1521) (tgt := 23) F dL_law_1521 (by decide) ?_
      refine fmV_widen (k := 200 + 170 * (j + 1)) (n := 1800 + 1850 * (j + 1)) (by omega) (by omega) ?_
      refine fmV_lv ?_ (next rc2 cc2 t2 _ z9.2 I2 (by omega))
      exact ⟨rfl, rfl, rfl, rfl, rfl, trivial⟩
    · refine fmV_aload_n (pc := 1244) (i := 3) F dL_law_1244 rfl rfl ?_
      refine fmV_iconst (pc := 1245) (v := 0) F dL_law_1245 rfl ?_
      refine fmV_lald (pc := 1246) F dL_law_1246 (vp_in_nI (show 0 < 1 by decide) (by decide)) (show (0 : Int32).toNatClampNeg = 0 by decide) ?_
      refine fmV_iload (pc := 1247) (i := 6) F dL_law_1247 rfl ?_
      have he9 := hout h8
      refine fmV_i2l (pc := 1249) F dL_law_1249 rfl ?_
      refine fmV_lcmp (pc := 1250) F dL_law_1250 ?_
      refine fmV_if_eq (pc := 1251) (tgt := 1256) F dL_law_1251 (by decide) (fun h7 => ?_) (fun h7 => ?_)
      · refine fmV_goto (pc := 1256) (tgt := 1518) F dL_law_1256 (by decide) ?_
        refine fmV_iinc (pc := 1518) (i := 4) (v := nI (6 * (j + 1))) F dL_law_1518 rfl (nI_add (6 * j) 6) (by decide) ?_
        refine fmV_goto (pc := 1521) (tgt := 23) F dL_law_1521 (by decide) ?_
        refine fmV_widen (k := 200 + 170 * (j + 1)) (n := 1800 + 1850 * (j + 1)) (by omega) (by omega) ?_
        refine fmV_lv ?_ (next rc2 cc2 t2 _ z9.2 I2 (by omega))
        exact ⟨rfl, rfl, rfl, rfl, rfl, trivial⟩
      · exact absurd (by rw [he9]; exact lg_same _) h7
  · exact absurd h61 h9

set_option maxHeartbeats 4000000 in
set_option maxRecDepth 100000 in
theorem law_gone {p : Program} {l : Launch} {e : Env} {s : State} {m : MethodId} {below : List Frame} {meth : Method} {c : Code} {b L : Nat} {xs : Nat → Int32} {D : va_G} {A : Nat → Prop} {G : fmG} (F : fmF p s m #[Value.ref b] meth c D A G RL code 9 ret wsL_law) (hX : fmX A s) (hl9 : l.stackTraces = false) (hG : G.1 36 0 0 = 0) (hXs : va_X b L xs s s.heap) (hbl : b < s.heap.size) (hbA : ¬ A b) (hL : L ≤ 3072) {j : Nat} (hj : 6 * j + 6 ≤ L) {rc cc t : Nat} {σ : fmS} {o : Nat → Int64} (I : rI rc cc t σ) (ht : t ≤ 200 * j) (next : ∀ (rc cc t : Nat) (σ : fmS) (o : Nat → Int64), rI rc cc t σ → t ≤ 200 * (j + 1) → fmV p l e room_1 s m #[Value.ref b] below meth c D A G 9 o (lw_Z below #[Value.ref b] s) σ (200 + 170 * (j + 1)) (1800 + 1850 * (j + 1)) [(0, .ref b), (1, .ref (G.1 0 0 0)), (2, .ref (G.1 14 0 0)), (3, .ref (G.1 34 0 0)), (4, .int (nI (6 * (j + 1))))] [] 23) : fmV p l e room_1 s m #[Value.ref b] below meth c D A G 9 o (lw_Z below #[Value.ref b] s) σ (200 + 170 * j) (1800 + 1850 * j) [(0, .ref b), (1, .ref (G.1 0 0 0)), (2, .ref (G.1 14 0 0)), (3, .ref (G.1 34 0 0)), (4, .int (nI (6 * j)))] [] 1259 := by
  have hgz := I.1.1
  obtain ⟨⟨hrc, hcc, -, -, -, -⟩, -⟩ := id hgz
  refine fmV_aload_n (pc := 1259) (i := 1) F dL_law_1259 rfl rfl ?_
  refine fmV_aload_n (pc := 1260) (i := 0) F dL_law_1260 rfl rfl ?_
  refine fmV_iload (pc := 1261) (i := 4) F dL_law_1261 rfl ?_
  refine fmV_iconst (pc := 1263) (v := 1) F dL_law_1263 rfl ?_
  refine fmV_iadd (pc := 1264) F dL_law_1264 ?_
  refine fmV_sld (pc := 1265) F hXs hbl hbA dL_law_1265 (fm_in (nI_add (6 * j) 1) (by omega) (by omega)) (fm_cl (nI_add (6 * j) 1) (by omega)) ?_
  refine fmV_aload_n (pc := 1266) (i := 3) F dL_law_1266 rfl rfl ?_
  refine fmV_lSi (n := 3) (pc := 1267) F hX (c_L_gone l D A G σ o (xs (6 * j + 1)) (c_X4_gone l D A G σ o hl9 hgz (by omega) (xs (6 * j + 1))) (fun E9 u9 h9 => by
      rcases fmFirst_in h9.2 with rfl | h9
      · exact rfl
      · exact h9.elim)) gL_law_L_gone rfl rfl rfl (by decide +kernel) ⟨Nat.le_of_ble_eq_true rfl, Nat.le_of_ble_eq_true rfl⟩ rfl rfl (Nat.le_of_ble_eq_true rfl) dL_law_1267 ⟨by show _ ≤ 601024; omega, by show _ ≤ 7293034; omega⟩ (fun k9 z9 hk9 => ?_)
  obtain ⟨hm9, hop⟩ := op_gone I (by omega) (xs (6 * j + 1)) hk9
  have g63 : z9.1 63 0 0 0 = nI cc := by rw [hm9 63 0 0 (by decide)]; exact I.2.1.2.1
  have g62 : z9.1 62 0 0 0 = nI rc := by rw [hm9 62 0 0 (by decide)]; exact I.2.1.1
  have g64 : z9.1 64 0 0 0 = nI t := by rw [hm9 64 0 0 (by decide)]; exact I.2.1.2.2
  refine fmV_istore (pc := 1270) (i := 5) F dL_law_1270 (by decide) ?_
  refine fmV_aload_n (pc := 1272) (i := 2) F dL_law_1272 rfl rfl ?_
  refine fmV_aload_n (pc := 1273) (i := 0) F dL_law_1273 rfl rfl ?_
  refine fmV_iload (pc := 1274) (i := 4) F dL_law_1274 rfl ?_
  refine fmV_iconst (pc := 1276) (v := 1) F dL_law_1276 rfl ?_
  refine fmV_iadd (pc := 1277) F dL_law_1277 ?_
  refine fmV_sld (pc := 1278) F hXs hbl hbA dL_law_1278 (fm_in (nI_add (6 * j) 1) (by omega) (by omega)) (fm_cl (nI_add (6 * j) 1) (by omega)) ?_
  refine fmV_xVi (n := 1) (pc := 1279) F hX (c_X6_gone l D A G z9.1 z9.2 hcc g63 hrc g62 (by omega) g64 (xs (6 * j + 1))) gL_law_X6_gone rfl rfl rfl (by decide +kernel) ⟨Nat.le_of_ble_eq_true rfl, Nat.le_of_ble_eq_true rfl⟩ (fmR_14 F) rfl rfl (Nat.le_of_ble_eq_true rfl) dL_law_1279 ⟨by show _ ≤ 601024; omega, by show _ ≤ 7293034; omega⟩ (fun _ _ h9 => False.elim h9) (fun b9 u9 hb9 => ?_)
  obtain ⟨⟨rc2, cc2, t2, ht2, I2⟩, h61, hout⟩ := hop b9 u9 hb9
  refine fmV_istore (pc := 1282) (i := 6) F dL_law_1282 (by decide) ?_
  refine fmV_aload_n (pc := 1284) (i := 2) F dL_law_1284 rfl rfl ?_
  refine fmV_xVi (n := 0) (pc := 1285) F hX (c_X6_thrown l D A G u9 z9.2) gL_law_X6_thrown rfl rfl rfl (by decide +kernel) ⟨Nat.le_of_ble_eq_true rfl, Nat.le_of_ble_eq_true rfl⟩ (fmR_14 F) rfl rfl (Nat.le_of_ble_eq_true rfl) dL_law_1285 ⟨by show _ ≤ 601024; omega, by show _ ≤ 7293034; omega⟩ (fun _ _ h9 => False.elim h9) (fun r8 u8 hc8 => ?_)
  obtain ⟨hr8, hu8⟩ := hc8
  have hr8 := hr8.symm
  have hu8 := hu8.symm
  subst hr8
  subst hu8
  refine fmV_iload (pc := 1288) (i := 5) F dL_law_1288 rfl ?_
  refine fmV_icmp_eq (pc := 1290) (tgt := 1295) F dL_law_1290 (by decide) (fun h9 => ?_) (fun h9 => ?_)
  · refine fmV_iload (pc := 1295) (i := 5) F dL_law_1295 rfl ?_
    refine fmV_if_ne (pc := 1297) (tgt := 1312) F dL_law_1297 (by decide) (fun h8 => ?_) (fun h8 => ?_)
    · refine fmV_goto (pc := 1312) (tgt := 1518) F dL_law_1312 (by decide) ?_
      refine fmV_iinc (pc := 1518) (i := 4) (v := nI (6 * (j + 1))) F dL_law_1518 rfl (nI_add (6 * j) 6) (by decide) ?_
      refine fmV_goto (pc := 1521) (tgt := 23) F dL_law_1521 (by decide) ?_
      refine fmV_widen (k := 200 + 170 * (j + 1)) (n := 1800 + 1850 * (j + 1)) (by omega) (by omega) ?_
      refine fmV_lv ?_ (next rc2 cc2 t2 _ z9.2 I2 (by omega))
      exact ⟨rfl, rfl, rfl, rfl, rfl, trivial⟩
    · refine fmV_aload_n (pc := 1300) (i := 3) F dL_law_1300 rfl rfl ?_
      refine fmV_iconst (pc := 1301) (v := 0) F dL_law_1301 rfl ?_
      refine fmV_lald (pc := 1302) F dL_law_1302 (vp_in_nI (show 0 < 1 by decide) (by decide)) (show (0 : Int32).toNatClampNeg = 0 by decide) ?_
      refine fmV_iload (pc := 1303) (i := 6) F dL_law_1303 rfl ?_
      have he9 := hout h8
      refine fmV_i2l (pc := 1305) F dL_law_1305 rfl ?_
      refine fmV_lcmp (pc := 1306) F dL_law_1306 ?_
      refine fmV_if_eq (pc := 1307) (tgt := 1312) F dL_law_1307 (by decide) (fun h7 => ?_) (fun h7 => ?_)
      · refine fmV_goto (pc := 1312) (tgt := 1518) F dL_law_1312 (by decide) ?_
        refine fmV_iinc (pc := 1518) (i := 4) (v := nI (6 * (j + 1))) F dL_law_1518 rfl (nI_add (6 * j) 6) (by decide) ?_
        refine fmV_goto (pc := 1521) (tgt := 23) F dL_law_1521 (by decide) ?_
        refine fmV_widen (k := 200 + 170 * (j + 1)) (n := 1800 + 1850 * (j + 1)) (by omega) (by omega) ?_
        refine fmV_lv ?_ (next rc2 cc2 t2 _ z9.2 I2 (by omega))
        exact ⟨rfl, rfl, rfl, rfl, rfl, trivial⟩
      · exact absurd (by rw [he9]; exact lg_same _) h7
  · exact absurd h61 h9

set_option maxHeartbeats 4000000 in
set_option maxRecDepth 100000 in
theorem law_advise {p : Program} {l : Launch} {e : Env} {s : State} {m : MethodId} {below : List Frame} {meth : Method} {c : Code} {b L : Nat} {xs : Nat → Int32} {D : va_G} {A : Nat → Prop} {G : fmG} (F : fmF p s m #[Value.ref b] meth c D A G RL code 9 ret wsL_law) (hX : fmX A s) (hl9 : l.stackTraces = false) (hG : G.1 36 0 0 = 0) (hXs : va_X b L xs s s.heap) (hbl : b < s.heap.size) (hbA : ¬ A b) (hL : L ≤ 3072) {j : Nat} (hj : 6 * j + 6 ≤ L) {rc cc t : Nat} {σ : fmS} {o : Nat → Int64} (I : rI rc cc t σ) (ht : t ≤ 200 * j) (next : ∀ (rc cc t : Nat) (σ : fmS) (o : Nat → Int64), rI rc cc t σ → t ≤ 200 * (j + 1) → fmV p l e room_1 s m #[Value.ref b] below meth c D A G 9 o (lw_Z below #[Value.ref b] s) σ (200 + 170 * (j + 1)) (1800 + 1850 * (j + 1)) [(0, .ref b), (1, .ref (G.1 0 0 0)), (2, .ref (G.1 14 0 0)), (3, .ref (G.1 34 0 0)), (4, .int (nI (6 * (j + 1))))] [] 23) : fmV p l e room_1 s m #[Value.ref b] below meth c D A G 9 o (lw_Z below #[Value.ref b] s) σ (200 + 170 * j) (1800 + 1850 * j) [(0, .ref b), (1, .ref (G.1 0 0 0)), (2, .ref (G.1 14 0 0)), (3, .ref (G.1 34 0 0)), (4, .int (nI (6 * j)))] [] 1315 := by
  have hgz := I.1.1
  obtain ⟨⟨hrc, hcc, -, -, -, -⟩, -⟩ := id hgz
  refine fmV_aload_n (pc := 1315) (i := 1) F dL_law_1315 rfl rfl ?_
  refine fmV_aload_n (pc := 1316) (i := 0) F dL_law_1316 rfl rfl ?_
  refine fmV_iload (pc := 1317) (i := 4) F dL_law_1317 rfl ?_
  refine fmV_iconst (pc := 1319) (v := 1) F dL_law_1319 rfl ?_
  refine fmV_iadd (pc := 1320) F dL_law_1320 ?_
  refine fmV_sld (pc := 1321) F hXs hbl hbA dL_law_1321 (fm_in (nI_add (6 * j) 1) (by omega) (by omega)) (fm_cl (nI_add (6 * j) 1) (by omega)) ?_
  refine fmV_aload_n (pc := 1322) (i := 0) F dL_law_1322 rfl rfl ?_
  refine fmV_iload (pc := 1323) (i := 4) F dL_law_1323 rfl ?_
  refine fmV_iconst (pc := 1325) (v := 2) F dL_law_1325 rfl ?_
  refine fmV_iadd (pc := 1326) F dL_law_1326 ?_
  refine fmV_sld (pc := 1327) F hXs hbl hbA dL_law_1327 (fm_in (nI_add (6 * j) 2) (by omega) (by omega)) (fm_cl (nI_add (6 * j) 2) (by omega)) ?_
  refine fmV_aload_n (pc := 1328) (i := 3) F dL_law_1328 rfl rfl ?_
  refine fmV_lSi (n := 4) (pc := 1329) F hX (c_L_advise l D A G σ o (xs (6 * j + 1)) (xs (6 * j + 2)) (c_X4_advise l D A G σ o hl9 hgz (by omega) (xs (6 * j + 1)) (xs (6 * j + 2))) (fun E9 u9 h9 => by
      rcases fmFirst_in h9.2 with rfl | rfl | rfl | h9
      · exact (Or.inl rfl)
      · exact (Or.inr (Or.inl rfl))
      · exact (Or.inr (Or.inr rfl))
      · exact h9.elim)) gL_law_L_advise rfl rfl rfl (by decide +kernel) ⟨Nat.le_of_ble_eq_true rfl, Nat.le_of_ble_eq_true rfl⟩ rfl rfl (Nat.le_of_ble_eq_true rfl) dL_law_1329 ⟨by show _ ≤ 601024; omega, by show _ ≤ 7293034; omega⟩ (fun k9 z9 hk9 => ?_)
  obtain ⟨hm9, hop⟩ := op_advise I (by omega) (xs (6 * j + 1)) (xs (6 * j + 2)) hk9
  have g63 : z9.1 63 0 0 0 = nI cc := by rw [hm9 63 0 0 (by decide)]; exact I.2.1.2.1
  have g62 : z9.1 62 0 0 0 = nI rc := by rw [hm9 62 0 0 (by decide)]; exact I.2.1.1
  have g64 : z9.1 64 0 0 0 = nI t := by rw [hm9 64 0 0 (by decide)]; exact I.2.1.2.2
  refine fmV_istore (pc := 1332) (i := 5) F dL_law_1332 (by decide) ?_
  refine fmV_aload_n (pc := 1334) (i := 2) F dL_law_1334 rfl rfl ?_
  refine fmV_aload_n (pc := 1335) (i := 0) F dL_law_1335 rfl rfl ?_
  refine fmV_iload (pc := 1336) (i := 4) F dL_law_1336 rfl ?_
  refine fmV_iconst (pc := 1338) (v := 1) F dL_law_1338 rfl ?_
  refine fmV_iadd (pc := 1339) F dL_law_1339 ?_
  refine fmV_sld (pc := 1340) F hXs hbl hbA dL_law_1340 (fm_in (nI_add (6 * j) 1) (by omega) (by omega)) (fm_cl (nI_add (6 * j) 1) (by omega)) ?_
  refine fmV_aload_n (pc := 1341) (i := 0) F dL_law_1341 rfl rfl ?_
  refine fmV_iload (pc := 1342) (i := 4) F dL_law_1342 rfl ?_
  refine fmV_iconst (pc := 1344) (v := 2) F dL_law_1344 rfl ?_
  refine fmV_iadd (pc := 1345) F dL_law_1345 ?_
  refine fmV_sld (pc := 1346) F hXs hbl hbA dL_law_1346 (fm_in (nI_add (6 * j) 2) (by omega) (by omega)) (fm_cl (nI_add (6 * j) 2) (by omega)) ?_
  refine fmV_xVi (n := 2) (pc := 1347) F hX (c_X6_advise l D A G z9.1 z9.2 hcc g63 hrc g62 (by omega) g64 (xs (6 * j + 1)) (xs (6 * j + 2))) gL_law_X6_advise rfl rfl rfl (by decide +kernel) ⟨Nat.le_of_ble_eq_true rfl, Nat.le_of_ble_eq_true rfl⟩ (fmR_14 F) rfl rfl (Nat.le_of_ble_eq_true rfl) dL_law_1347 ⟨by show _ ≤ 601024; omega, by show _ ≤ 7293034; omega⟩ (fun _ _ h9 => False.elim h9) (fun b9 u9 hb9 => ?_)
  obtain ⟨⟨rc2, cc2, t2, ht2, I2⟩, h61, hout⟩ := hop b9 u9 hb9
  refine fmV_istore (pc := 1350) (i := 6) F dL_law_1350 (by decide) ?_
  refine fmV_aload_n (pc := 1352) (i := 2) F dL_law_1352 rfl rfl ?_
  refine fmV_xVi (n := 0) (pc := 1353) F hX (c_X6_thrown l D A G u9 z9.2) gL_law_X6_thrown rfl rfl rfl (by decide +kernel) ⟨Nat.le_of_ble_eq_true rfl, Nat.le_of_ble_eq_true rfl⟩ (fmR_14 F) rfl rfl (Nat.le_of_ble_eq_true rfl) dL_law_1353 ⟨by show _ ≤ 601024; omega, by show _ ≤ 7293034; omega⟩ (fun _ _ h9 => False.elim h9) (fun r8 u8 hc8 => ?_)
  obtain ⟨hr8, hu8⟩ := hc8
  have hr8 := hr8.symm
  have hu8 := hu8.symm
  subst hr8
  subst hu8
  refine fmV_iload (pc := 1356) (i := 5) F dL_law_1356 rfl ?_
  refine fmV_icmp_eq (pc := 1358) (tgt := 1363) F dL_law_1358 (by decide) (fun h9 => ?_) (fun h9 => ?_)
  · refine fmV_iload (pc := 1363) (i := 5) F dL_law_1363 rfl ?_
    refine fmV_if_ne (pc := 1365) (tgt := 1380) F dL_law_1365 (by decide) (fun h8 => ?_) (fun h8 => ?_)
    · refine fmV_goto (pc := 1380) (tgt := 1518) F dL_law_1380 (by decide) ?_
      refine fmV_iinc (pc := 1518) (i := 4) (v := nI (6 * (j + 1))) F dL_law_1518 rfl (nI_add (6 * j) 6) (by decide) ?_
      refine fmV_goto (pc := 1521) (tgt := 23) F dL_law_1521 (by decide) ?_
      refine fmV_widen (k := 200 + 170 * (j + 1)) (n := 1800 + 1850 * (j + 1)) (by omega) (by omega) ?_
      refine fmV_lv ?_ (next rc2 cc2 t2 _ z9.2 I2 (by omega))
      exact ⟨rfl, rfl, rfl, rfl, rfl, trivial⟩
    · refine fmV_aload_n (pc := 1368) (i := 3) F dL_law_1368 rfl rfl ?_
      refine fmV_iconst (pc := 1369) (v := 0) F dL_law_1369 rfl ?_
      refine fmV_lald (pc := 1370) F dL_law_1370 (vp_in_nI (show 0 < 1 by decide) (by decide)) (show (0 : Int32).toNatClampNeg = 0 by decide) ?_
      refine fmV_iload (pc := 1371) (i := 6) F dL_law_1371 rfl ?_
      have he9 := hout h8
      refine fmV_i2l (pc := 1373) F dL_law_1373 rfl ?_
      refine fmV_lcmp (pc := 1374) F dL_law_1374 ?_
      refine fmV_if_eq (pc := 1375) (tgt := 1380) F dL_law_1375 (by decide) (fun h7 => ?_) (fun h7 => ?_)
      · refine fmV_goto (pc := 1380) (tgt := 1518) F dL_law_1380 (by decide) ?_
        refine fmV_iinc (pc := 1518) (i := 4) (v := nI (6 * (j + 1))) F dL_law_1518 rfl (nI_add (6 * j) 6) (by decide) ?_
        refine fmV_goto (pc := 1521) (tgt := 23) F dL_law_1521 (by decide) ?_
        refine fmV_widen (k := 200 + 170 * (j + 1)) (n := 1800 + 1850 * (j + 1)) (by omega) (by omega) ?_
        refine fmV_lv ?_ (next rc2 cc2 t2 _ z9.2 I2 (by omega))
        exact ⟨rfl, rfl, rfl, rfl, rfl, trivial⟩
      · exact absurd (by rw [he9]; exact lg_same _) h7
  · exact absurd h61 h9

set_option maxHeartbeats 4000000 in
set_option maxRecDepth 100000 in
theorem law_price {p : Program} {l : Launch} {e : Env} {s : State} {m : MethodId} {below : List Frame} {meth : Method} {c : Code} {b L : Nat} {xs : Nat → Int32} {D : va_G} {A : Nat → Prop} {G : fmG} (F : fmF p s m #[Value.ref b] meth c D A G RL code 9 ret wsL_law) (hX : fmX A s) (hl9 : l.stackTraces = false) (hG : G.1 36 0 0 = 0) (hXs : va_X b L xs s s.heap) (hbl : b < s.heap.size) (hbA : ¬ A b) (hL : L ≤ 3072) {j : Nat} (hj : 6 * j + 6 ≤ L) {rc cc t : Nat} {σ : fmS} {o : Nat → Int64} (I : rI rc cc t σ) (ht : t ≤ 200 * j) (next : ∀ (rc cc t : Nat) (σ : fmS) (o : Nat → Int64), rI rc cc t σ → t ≤ 200 * (j + 1) → fmV p l e room_1 s m #[Value.ref b] below meth c D A G 9 o (lw_Z below #[Value.ref b] s) σ (200 + 170 * (j + 1)) (1800 + 1850 * (j + 1)) [(0, .ref b), (1, .ref (G.1 0 0 0)), (2, .ref (G.1 14 0 0)), (3, .ref (G.1 34 0 0)), (4, .int (nI (6 * (j + 1))))] [] 23) : fmV p l e room_1 s m #[Value.ref b] below meth c D A G 9 o (lw_Z below #[Value.ref b] s) σ (200 + 170 * j) (1800 + 1850 * j) [(0, .ref b), (1, .ref (G.1 0 0 0)), (2, .ref (G.1 14 0 0)), (3, .ref (G.1 34 0 0)), (4, .int (nI (6 * j)))] [] 1383 := by
  have hgz := I.1.1
  obtain ⟨⟨hrc, hcc, -, -, -, -⟩, -⟩ := id hgz
  refine fmV_aload_n (pc := 1383) (i := 1) F dL_law_1383 rfl rfl ?_
  refine fmV_aload_n (pc := 1384) (i := 0) F dL_law_1384 rfl rfl ?_
  refine fmV_iload (pc := 1385) (i := 4) F dL_law_1385 rfl ?_
  refine fmV_iconst (pc := 1387) (v := 1) F dL_law_1387 rfl ?_
  refine fmV_iadd (pc := 1388) F dL_law_1388 ?_
  refine fmV_sld (pc := 1389) F hXs hbl hbA dL_law_1389 (fm_in (nI_add (6 * j) 1) (by omega) (by omega)) (fm_cl (nI_add (6 * j) 1) (by omega)) ?_
  refine fmV_aload_n (pc := 1390) (i := 0) F dL_law_1390 rfl rfl ?_
  refine fmV_iload (pc := 1391) (i := 4) F dL_law_1391 rfl ?_
  refine fmV_iconst (pc := 1393) (v := 2) F dL_law_1393 rfl ?_
  refine fmV_iadd (pc := 1394) F dL_law_1394 ?_
  refine fmV_sld (pc := 1395) F hXs hbl hbA dL_law_1395 (fm_in (nI_add (6 * j) 2) (by omega) (by omega)) (fm_cl (nI_add (6 * j) 2) (by omega)) ?_
  refine fmV_aload_n (pc := 1396) (i := 0) F dL_law_1396 rfl rfl ?_
  refine fmV_iload (pc := 1397) (i := 4) F dL_law_1397 rfl ?_
  refine fmV_iconst (pc := 1399) (v := 3) F dL_law_1399 rfl ?_
  refine fmV_iadd (pc := 1400) F dL_law_1400 ?_
  refine fmV_sld (pc := 1401) F hXs hbl hbA dL_law_1401 (fm_in (nI_add (6 * j) 3) (by omega) (by omega)) (fm_cl (nI_add (6 * j) 3) (by omega)) ?_
  refine fmV_aload_n (pc := 1402) (i := 3) F dL_law_1402 rfl rfl ?_
  refine fmV_lSi (n := 5) (pc := 1403) F hX (c_L_price l D A G σ o (xs (6 * j + 1)) (xs (6 * j + 2)) (xs (6 * j + 3)) (c_X4_price l D A G σ o hl9 hgz (by omega) (xs (6 * j + 1)) (xs (6 * j + 2)) (xs (6 * j + 3))) (fun E9 u9 h9 => by
      rcases fmFirst_in h9.2 with rfl | rfl | rfl | h9
      · exact (Or.inl rfl)
      · exact (Or.inl rfl)
      · exact (Or.inr rfl)
      · exact h9.elim)) gL_law_L_price rfl rfl rfl (by decide +kernel) ⟨Nat.le_of_ble_eq_true rfl, Nat.le_of_ble_eq_true rfl⟩ rfl rfl (Nat.le_of_ble_eq_true rfl) dL_law_1403 ⟨by show _ ≤ 601024; omega, by show _ ≤ 7293034; omega⟩ (fun k9 z9 hk9 => ?_)
  obtain ⟨hm9, hop⟩ := op_price I (by omega) (xs (6 * j + 1)) (xs (6 * j + 2)) (xs (6 * j + 3)) hk9
  have g63 : z9.1 63 0 0 0 = nI cc := by rw [hm9 63 0 0 (by decide)]; exact I.2.1.2.1
  have g62 : z9.1 62 0 0 0 = nI rc := by rw [hm9 62 0 0 (by decide)]; exact I.2.1.1
  have g64 : z9.1 64 0 0 0 = nI t := by rw [hm9 64 0 0 (by decide)]; exact I.2.1.2.2
  refine fmV_istore (pc := 1406) (i := 5) F dL_law_1406 (by decide) ?_
  refine fmV_aload_n (pc := 1408) (i := 2) F dL_law_1408 rfl rfl ?_
  refine fmV_aload_n (pc := 1409) (i := 0) F dL_law_1409 rfl rfl ?_
  refine fmV_iload (pc := 1410) (i := 4) F dL_law_1410 rfl ?_
  refine fmV_iconst (pc := 1412) (v := 1) F dL_law_1412 rfl ?_
  refine fmV_iadd (pc := 1413) F dL_law_1413 ?_
  refine fmV_sld (pc := 1414) F hXs hbl hbA dL_law_1414 (fm_in (nI_add (6 * j) 1) (by omega) (by omega)) (fm_cl (nI_add (6 * j) 1) (by omega)) ?_
  refine fmV_aload_n (pc := 1415) (i := 0) F dL_law_1415 rfl rfl ?_
  refine fmV_iload (pc := 1416) (i := 4) F dL_law_1416 rfl ?_
  refine fmV_iconst (pc := 1418) (v := 2) F dL_law_1418 rfl ?_
  refine fmV_iadd (pc := 1419) F dL_law_1419 ?_
  refine fmV_sld (pc := 1420) F hXs hbl hbA dL_law_1420 (fm_in (nI_add (6 * j) 2) (by omega) (by omega)) (fm_cl (nI_add (6 * j) 2) (by omega)) ?_
  refine fmV_aload_n (pc := 1421) (i := 0) F dL_law_1421 rfl rfl ?_
  refine fmV_iload (pc := 1422) (i := 4) F dL_law_1422 rfl ?_
  refine fmV_iconst (pc := 1424) (v := 3) F dL_law_1424 rfl ?_
  refine fmV_iadd (pc := 1425) F dL_law_1425 ?_
  refine fmV_sld (pc := 1426) F hXs hbl hbA dL_law_1426 (fm_in (nI_add (6 * j) 3) (by omega) (by omega)) (fm_cl (nI_add (6 * j) 3) (by omega)) ?_
  refine fmV_xVi (n := 3) (pc := 1427) F hX (c_X6_price l D A G z9.1 z9.2 hcc g63 hrc g62 (by omega) g64 (xs (6 * j + 1)) (xs (6 * j + 2)) (xs (6 * j + 3))) gL_law_X6_price rfl rfl rfl (by decide +kernel) ⟨Nat.le_of_ble_eq_true rfl, Nat.le_of_ble_eq_true rfl⟩ (fmR_14 F) rfl rfl (Nat.le_of_ble_eq_true rfl) dL_law_1427 ⟨by show _ ≤ 601024; omega, by show _ ≤ 7293034; omega⟩ (fun _ _ h9 => False.elim h9) (fun b9 u9 hb9 => ?_)
  obtain ⟨⟨rc2, cc2, t2, ht2, I2⟩, h61, hout⟩ := hop b9 u9 hb9
  refine fmV_istore (pc := 1430) (i := 6) F dL_law_1430 (by decide) ?_
  refine fmV_aload_n (pc := 1432) (i := 2) F dL_law_1432 rfl rfl ?_
  refine fmV_xVi (n := 0) (pc := 1433) F hX (c_X6_thrown l D A G u9 z9.2) gL_law_X6_thrown rfl rfl rfl (by decide +kernel) ⟨Nat.le_of_ble_eq_true rfl, Nat.le_of_ble_eq_true rfl⟩ (fmR_14 F) rfl rfl (Nat.le_of_ble_eq_true rfl) dL_law_1433 ⟨by show _ ≤ 601024; omega, by show _ ≤ 7293034; omega⟩ (fun _ _ h9 => False.elim h9) (fun r8 u8 hc8 => ?_)
  obtain ⟨hr8, hu8⟩ := hc8
  have hr8 := hr8.symm
  have hu8 := hu8.symm
  subst hr8
  subst hu8
  refine fmV_iload (pc := 1436) (i := 5) F dL_law_1436 rfl ?_
  refine fmV_icmp_eq (pc := 1438) (tgt := 1443) F dL_law_1438 (by decide) (fun h9 => ?_) (fun h9 => ?_)
  · refine fmV_iload (pc := 1443) (i := 5) F dL_law_1443 rfl ?_
    refine fmV_if_ne (pc := 1445) (tgt := 1460) F dL_law_1445 (by decide) (fun h8 => ?_) (fun h8 => ?_)
    · refine fmV_goto (pc := 1460) (tgt := 1518) F dL_law_1460 (by decide) ?_
      refine fmV_iinc (pc := 1518) (i := 4) (v := nI (6 * (j + 1))) F dL_law_1518 rfl (nI_add (6 * j) 6) (by decide) ?_
      refine fmV_goto (pc := 1521) (tgt := 23) F dL_law_1521 (by decide) ?_
      refine fmV_widen (k := 200 + 170 * (j + 1)) (n := 1800 + 1850 * (j + 1)) (by omega) (by omega) ?_
      refine fmV_lv ?_ (next rc2 cc2 t2 _ z9.2 I2 (by omega))
      exact ⟨rfl, rfl, rfl, rfl, rfl, trivial⟩
    · refine fmV_aload_n (pc := 1448) (i := 3) F dL_law_1448 rfl rfl ?_
      refine fmV_iconst (pc := 1449) (v := 0) F dL_law_1449 rfl ?_
      refine fmV_lald (pc := 1450) F dL_law_1450 (vp_in_nI (show 0 < 1 by decide) (by decide)) (show (0 : Int32).toNatClampNeg = 0 by decide) ?_
      refine fmV_iload (pc := 1451) (i := 6) F dL_law_1451 rfl ?_
      have he9 := hout h8
      refine fmV_i2l (pc := 1453) F dL_law_1453 rfl ?_
      refine fmV_lcmp (pc := 1454) F dL_law_1454 ?_
      refine fmV_if_eq (pc := 1455) (tgt := 1460) F dL_law_1455 (by decide) (fun h7 => ?_) (fun h7 => ?_)
      · refine fmV_goto (pc := 1460) (tgt := 1518) F dL_law_1460 (by decide) ?_
        refine fmV_iinc (pc := 1518) (i := 4) (v := nI (6 * (j + 1))) F dL_law_1518 rfl (nI_add (6 * j) 6) (by decide) ?_
        refine fmV_goto (pc := 1521) (tgt := 23) F dL_law_1521 (by decide) ?_
        refine fmV_widen (k := 200 + 170 * (j + 1)) (n := 1800 + 1850 * (j + 1)) (by omega) (by omega) ?_
        refine fmV_lv ?_ (next rc2 cc2 t2 _ z9.2 I2 (by omega))
        exact ⟨rfl, rfl, rfl, rfl, rfl, trivial⟩
      · exact absurd (by rw [he9]; exact lg_same _) h7
  · exact absurd h61 h9
