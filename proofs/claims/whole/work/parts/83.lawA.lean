theorem lg_same (x : Int64) : lg_cmp x x = 0 := by
  unfold lg_cmp
  rw [if_neg (fun q => Int64.lt_irrefl q), if_pos rfl]
def fmIn : List (String × Prop) → String → Prop
  | [], _ => False
  | (c, _) :: t, E => E = c ∨ fmIn t E
theorem fmFirst_in : ∀ {L : List (String × Prop)} {E : String}, fmFirst L E → fmIn L E
  | [], _, h => h
  | (c, q) :: t, E, h => by
    rcases h with ⟨-, h⟩ | ⟨-, h⟩
    · exact Or.inl h
    · exact Or.inr (fmFirst_in h)

set_option maxHeartbeats 4000000 in
set_option maxRecDepth 100000 in
theorem law_addRow {p : Program} {l : Launch} {e : Env} {s : State} {m : MethodId} {below : List Frame} {meth : Method} {c : Code} {b L : Nat} {xs : Nat → Int32} {D : va_G} {A : Nat → Prop} {G : fmG} (F : fmF p s m #[Value.ref b] meth c D A G RL code 9 ret wsL_law) (hX : fmX A s) (hl9 : l.stackTraces = false) (hG : G.1 36 0 0 = 0) (hXs : va_X b L xs s s.heap) (hbl : b < s.heap.size) (hbA : ¬ A b) (hL : L ≤ 3072) {j : Nat} (hj : 6 * j + 6 ≤ L) {rc cc t : Nat} {σ : fmS} {o : Nat → Int64} (I : rI rc cc t σ) (ht : t ≤ 200 * j) (next : ∀ (rc cc t : Nat) (σ : fmS) (o : Nat → Int64), rI rc cc t σ → t ≤ 200 * (j + 1) → fmV p l e room_1 s m #[Value.ref b] below meth c D A G 9 o (lw_Z below #[Value.ref b] s) σ (200 + 170 * (j + 1)) (1800 + 1850 * (j + 1)) [(0, .ref b), (1, .ref (G.1 0 0 0)), (2, .ref (G.1 14 0 0)), (3, .ref (G.1 34 0 0)), (4, .int (nI (6 * (j + 1))))] [] 23) : fmV p l e room_1 s m #[Value.ref b] below meth c D A G 9 o (lw_Z below #[Value.ref b] s) σ (200 + 170 * j) (1800 + 1850 * j) [(0, .ref b), (1, .ref (G.1 0 0 0)), (2, .ref (G.1 14 0 0)), (3, .ref (G.1 34 0 0)), (4, .int (nI (6 * j)))] [] 140 := by
  have hgz := I.1.1
  obtain ⟨⟨hrc, hcc, -, -, -, -⟩, -⟩ := id hgz
  refine fmV_aload_n (pc := 140) (i := 1) F dL_law_140 rfl rfl ?_
  refine fmV_aload_n (pc := 141) (i := 0) F dL_law_141 rfl rfl ?_
  refine fmV_iload (pc := 142) (i := 4) F dL_law_142 rfl ?_
  refine fmV_iconst (pc := 144) (v := 1) F dL_law_144 rfl ?_
  refine fmV_iadd (pc := 145) F dL_law_145 ?_
  refine fmV_sld (pc := 146) F hXs hbl hbA dL_law_146 (fm_in (nI_add (6 * j) 1) (by omega) (by omega)) (fm_cl (nI_add (6 * j) 1) (by omega)) ?_
  refine fmV_aload_n (pc := 147) (i := 3) F dL_law_147 rfl rfl ?_
  refine fmV_lSi (n := 3) (pc := 148) F hX (c_L_addRow l D A G σ o (xs (6 * j + 1)) (c_X4_addRow l D A G σ o hl9 hgz (xs (6 * j + 1))) (fun E9 u9 h9 => by
      rcases fmFirst_in h9.2 with rfl | rfl | h9
      · exact (Or.inl rfl)
      · exact (Or.inr rfl)
      · exact h9.elim)) gL_law_L_addRow rfl rfl rfl (by decide +kernel) ⟨Nat.le_of_ble_eq_true rfl, Nat.le_of_ble_eq_true rfl⟩ rfl rfl (Nat.le_of_ble_eq_true rfl) dL_law_148 ⟨by show _ ≤ 601024; omega, by show _ ≤ 7293034; omega⟩ (fun k9 z9 hk9 => ?_)
  obtain ⟨hm9, hop⟩ := op_addRow I (by omega) (xs (6 * j + 1)) hk9
  have g63 : z9.1 63 0 0 0 = nI cc := by rw [hm9 63 0 0 (by decide)]; exact I.2.1.2.1
  have g62 : z9.1 62 0 0 0 = nI rc := by rw [hm9 62 0 0 (by decide)]; exact I.2.1.1
  have g64 : z9.1 64 0 0 0 = nI t := by rw [hm9 64 0 0 (by decide)]; exact I.2.1.2.2
  refine fmV_istore (pc := 151) (i := 5) F dL_law_151 (by decide) ?_
  refine fmV_aload_n (pc := 153) (i := 2) F dL_law_153 rfl rfl ?_
  refine fmV_aload_n (pc := 154) (i := 0) F dL_law_154 rfl rfl ?_
  refine fmV_iload (pc := 155) (i := 4) F dL_law_155 rfl ?_
  refine fmV_iconst (pc := 157) (v := 1) F dL_law_157 rfl ?_
  refine fmV_iadd (pc := 158) F dL_law_158 ?_
  refine fmV_sld (pc := 159) F hXs hbl hbA dL_law_159 (fm_in (nI_add (6 * j) 1) (by omega) (by omega)) (fm_cl (nI_add (6 * j) 1) (by omega)) ?_
  refine fmV_xVi (n := 1) (pc := 160) F hX (c_X6_addRow l D A G z9.1 z9.2 hcc g63 hrc g62 (by omega) g64 (xs (6 * j + 1))) gL_law_X6_addRow rfl rfl rfl (by decide +kernel) ⟨Nat.le_of_ble_eq_true rfl, Nat.le_of_ble_eq_true rfl⟩ (fmR_14 F) rfl rfl (Nat.le_of_ble_eq_true rfl) dL_law_160 ⟨by show _ ≤ 601024; omega, by show _ ≤ 7293034; omega⟩ (fun _ _ h9 => False.elim h9) (fun b9 u9 hb9 => ?_)
  obtain ⟨⟨rc2, cc2, t2, ht2, I2⟩, h61, hout⟩ := hop b9 u9 hb9
  refine fmV_istore (pc := 163) (i := 6) F dL_law_163 (by decide) ?_
  refine fmV_aload_n (pc := 165) (i := 2) F dL_law_165 rfl rfl ?_
  refine fmV_xVi (n := 0) (pc := 166) F hX (c_X6_thrown l D A G u9 z9.2) gL_law_X6_thrown rfl rfl rfl (by decide +kernel) ⟨Nat.le_of_ble_eq_true rfl, Nat.le_of_ble_eq_true rfl⟩ (fmR_14 F) rfl rfl (Nat.le_of_ble_eq_true rfl) dL_law_166 ⟨by show _ ≤ 601024; omega, by show _ ≤ 7293034; omega⟩ (fun _ _ h9 => False.elim h9) (fun r8 u8 hc8 => ?_)
  obtain ⟨hr8, hu8⟩ := hc8
  have hr8 := hr8.symm
  have hu8 := hu8.symm
  subst hr8
  subst hu8
  refine fmV_iload (pc := 169) (i := 5) F dL_law_169 rfl ?_
  refine fmV_icmp_eq (pc := 171) (tgt := 176) F dL_law_171 (by decide) (fun h9 => ?_) (fun h9 => ?_)
  · refine fmV_iload (pc := 176) (i := 5) F dL_law_176 rfl ?_
    refine fmV_if_ne (pc := 178) (tgt := 193) F dL_law_178 (by decide) (fun h8 => ?_) (fun h8 => ?_)
    · refine fmV_goto (pc := 193) (tgt := 1518) F dL_law_193 (by decide) ?_
      refine fmV_iinc (pc := 1518) (i := 4) (v := nI (6 * (j + 1))) F dL_law_1518 rfl (nI_add (6 * j) 6) (by decide) ?_
      refine fmV_goto (pc := 1521) (tgt := 23) F dL_law_1521 (by decide) ?_
      refine fmV_widen (k := 200 + 170 * (j + 1)) (n := 1800 + 1850 * (j + 1)) (by omega) (by omega) ?_
      refine fmV_lv ?_ (next rc2 cc2 t2 _ z9.2 I2 (by omega))
      exact ⟨rfl, rfl, rfl, rfl, rfl, trivial⟩
    · refine fmV_aload_n (pc := 181) (i := 3) F dL_law_181 rfl rfl ?_
      refine fmV_iconst (pc := 182) (v := 0) F dL_law_182 rfl ?_
      refine fmV_lald (pc := 183) F dL_law_183 (vp_in_nI (show 0 < 1 by decide) (by decide)) (show (0 : Int32).toNatClampNeg = 0 by decide) ?_
      refine fmV_iload (pc := 184) (i := 6) F dL_law_184 rfl ?_
      have he9 := hout h8
      refine fmV_i2l (pc := 186) F dL_law_186 rfl ?_
      refine fmV_lcmp (pc := 187) F dL_law_187 ?_
      refine fmV_if_eq (pc := 188) (tgt := 193) F dL_law_188 (by decide) (fun h7 => ?_) (fun h7 => ?_)
      · refine fmV_goto (pc := 193) (tgt := 1518) F dL_law_193 (by decide) ?_
        refine fmV_iinc (pc := 1518) (i := 4) (v := nI (6 * (j + 1))) F dL_law_1518 rfl (nI_add (6 * j) 6) (by decide) ?_
        refine fmV_goto (pc := 1521) (tgt := 23) F dL_law_1521 (by decide) ?_
        refine fmV_widen (k := 200 + 170 * (j + 1)) (n := 1800 + 1850 * (j + 1)) (by omega) (by omega) ?_
        refine fmV_lv ?_ (next rc2 cc2 t2 _ z9.2 I2 (by omega))
        exact ⟨rfl, rfl, rfl, rfl, rfl, trivial⟩
      · exact absurd (by rw [he9]; exact lg_same _) h7
  · exact absurd h61 h9
