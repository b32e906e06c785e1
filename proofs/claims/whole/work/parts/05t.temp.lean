/-! AN ARRAY FOR A WHILE (kind 35) -/
abbrev fmGx (G : fmG) (q n : Nat) : fmG := (fun kd a b => if kd = 35 then q else if kd = 36 then n else G.1 kd a b, G.2)
theorem fmIds_lt {i : fmI} (h : i ∈ fmIds) : i.1 < 35 := by
  obtain ⟨q, h1, h2⟩ := List.mem_flatMap.mp h
  obtain ⟨m, -, h3⟩ := List.mem_flatMap.mp h2
  obtain ⟨k, -, rfl⟩ := List.mem_map.mp h3
  exact (by decide : ∀ q ∈ fmShape, q.1 < 35) q h1
theorem fmC_x (G : fmG) (q n : Nat) (σ : fmS) (o : Nat → Int64) {i : fmI} (h : i.1 < 35) : fmC (fmGx G q n) σ o i = fmC G σ o i := by
  obtain ⟨kd, m, k⟩ := i
  dsimp only at h
  rcases (show kd = 0 ∨ kd = 1 ∨ kd = 2 ∨ kd = 3 ∨ kd = 4 ∨ kd = 5 ∨ kd = 6 ∨ kd = 7 ∨ kd = 8 ∨ kd = 9 ∨ kd = 10 ∨ kd = 11 ∨ kd = 12 ∨ kd = 13 ∨ kd = 14 ∨ kd = 15 ∨ kd = 16 ∨ kd = 17 ∨ kd = 18 ∨ kd = 19 ∨ kd = 20 ∨ kd = 21 ∨ kd = 22 ∨ kd = 23 ∨ kd = 24 ∨ kd = 25 ∨ kd = 26 ∨ kd = 27 ∨ kd = 28 ∨ kd = 29 ∨ kd = 30 ∨ kd = 31 ∨ kd = 32 ∨ kd = 33 ∨ kd = 34 by omega) with rfl | rfl | rfl | rfl | rfl | rfl | rfl | rfl | rfl | rfl | rfl | rfl | rfl | rfl | rfl | rfl | rfl | rfl | rfl | rfl | rfl | rfl | rfl | rfl | rfl | rfl | rfl | rfl | rfl | rfl | rfl | rfl | rfl | rfl | rfl <;> rfl
theorem fmAd_x (G : fmG) (q n : Nat) {i : fmI} (h : i.1 < 35) : fmAd (fmGx G q n) i = fmAd G i := by
  show (if i.1 = 35 then q else if i.1 = 36 then n else G.1 i.1 i.2.1 i.2.2) = _
  rw [if_neg (by omega), if_neg (by omega)]; rfl
theorem fmW_x {G : fmG} {q n : Nat} (hG : G.1 36 0 0 = 0) (hn : n ≠ 0) (σ : fmS) (o : Nat → Int64) : fmW (fmGx G q n) σ o = fmW G σ o ++ [(q, .inl (G.2 0, n, .inl (σ 35 0 0)))] := by
  have h1 : fmJd G = fmIds := by rw [fmJd, if_pos hG]
  have h2 : fmJd (fmGx G q n) = fmIds ++ [(35, 0, 0)] := by rw [fmJd, if_neg (show ¬ (fmGx G q n).1 36 0 0 = 0 from hn)]
  rw [fmW, fmW, h1, h2, List.map_append]
  refine congr (congrArg _ ?_) rfl
  exact List.map_congr_left (fun i hi => by rw [fmAd_x G q n (fmIds_lt hi), fmC_x G q n σ o (fmIds_lt hi)])
theorem fmW_35 {G : fmG} (hG : G.1 36 0 0 = 0) {σ σ' : fmS} (o : Nat → Int64) (h : ∀ c m k, c ≠ 35 → σ' c m k = σ c m k) : fmW G σ' o = fmW G σ o := by
  rw [fmW, fmW, fmJd, if_pos hG]
  refine List.map_congr_left (fun i hi => ?_)
  rw [fmC_ext (σ := σ) (fun c hc => h c _ _ (fun e => by have h1 := fmIds_lt hi; rw [← hc, e] at h1; exact absurd h1 (by decide)))]
theorem fmW_get35 {G : fmG} (σ : fmS) (o : Nat → Int64) (hG : G.1 36 0 0 ≠ 0) : ∃ q0 : Nat, (fmJd G)[q0]? = some (35, 0, 0) ∧ (fmW G σ o)[q0]? = some (fmAd G (35, 0, 0), fmC G σ o (35, 0, 0)) := by
  have h0 : (fmJd G)[fmIds.length]? = some (35, 0, 0) := by rw [fmJd, if_neg hG, List.getElem?_append_right (Nat.le_refl _), Nat.sub_self]; rfl
  exact ⟨_, h0, by rw [fmW, List.getElem?_map, h0]; rfl⟩
section FMTMP
variable {p : Program} {l : Launch} {e : Env} {R : Room} {s : State} {m : MethodId} {args : Array Value} {below : List Frame} {meth : Method} {c : Code} {D : va_G} {A : Nat → Prop} {G : fmG} {nL : Nat} {o : Nat → Int64} {Q : State → Prop} {σ : fmS} {cells slots : Nat} {lv : List (Nat × Value)} {st rest : List Value} {pc : Nat} {own : String} {cc : ByteArray} {ret : Option FieldType} {Ts : List Cond}
theorem fmV_newa (F : fmF p s m args meth c D A G own cc nL ret Ts) (hG : G.1 36 0 0 = 0) {n : Nat} {x : Int32} {atype : ArrayType} (hat : newarray.typeOf atype = .int) (harr : Cond.arrayClass .int ∈ Ts) (hn0 : n ≠ 0) (hx0 : ¬ x < 0) (hxn : x.toNatClampNeg = n) (hb4 : n * componentBytes .int ≤ 536870912) (hcells : cells + 1 ≤ R.cells) (hslots : slots + n ≤ R.slots) (hdg : decode cc pc = .ok (.newarray atype, 2))
    (k : ∀ q : Nat, fmF p s m args meth c D A (fmGx G q n) own cc nL ret Ts → fmV p l e R s m args below meth c D A (fmGx G q n) nL o Q (fmu σ 35 0 0 (fun _ => 0)) (cells + 1) (slots + n) lv (.ref q :: rest) (pc + 2)) : fmV p l e R s m args below meth c D A G nL o Q σ cells slots lv (.int x :: rest) pc := by
  obtain ⟨hx, hb, hml, hr, hown, hts, hK, hD, hA, hlk⟩ := F
  intro H locs ls hP hS hl
  refine va_newa (a0 := (n, .inl (fun _ => 0))) hx hb (by rw [hat]; exact hts _ harr) hat hK hP (hD σ o) hS hA (fun cA => rfl) hx0 hxn hb4 hcells hslots hdg (fun q cA H1 hK1 hP1 hD1 hS1 => ?_)
  have e1 := (hK.2 0 (G.2 0, .int) rfl).2
  have e2 := (hK1.2 5 (cA, .int) rfl).2
  have e3 : cA = G.2 0 := Option.some.inj (e2.symm.trans e1)
  subst e3
  have e4 : fmW (fmGx G q n) (fmu σ 35 0 0 (fun _ => 0)) o = fmW G σ o ++ [(q, .inl (G.2 0, n, .inl (fun _ => 0)))] := by
    rw [fmW_x hG hn0, fmu_self, fmW_35 (σ := σ) hG o (fun c' m' k' h => fmu_ne _ _ _ _ _ (fun q => h q.1))]
  rw [← e4] at hP1 hD1
  exact k q ⟨hx, hb, hml, hr, hown, hts, hK, fun σ' o' => fmW_D hD1 σ' o', hA, hlk⟩ H1 locs ls hP1 hS1 hl
theorem fmal_35 (F : fmF p s m args meth c D A G own cc nL ret Ts) (hG : G.1 36 0 0 ≠ 0) {i0 : Nat} {i : Int32} (hdg : decode cc pc = .ok (.iaload, 1)) (hin : vp_in i (G.1 36 0 0)) (hi : i.toNatClampNeg = i0) (k : fmV p l e R s m args below meth c D A G nL o Q σ cells slots lv (.int (σ 35 0 0 i0) :: rest) (pc + 1)) : fmV p l e R s m args below meth c D A G nL o Q σ cells slots lv (.int i :: .ref (G.1 35 0 0) :: rest) pc := by
  obtain ⟨hx, hb, hml, hr, hown, hts, hK, hD, hA, hlk⟩ := F
  intro H locs ls hP hS hl
  subst hi
  obtain ⟨q0, -, hq⟩ := fmW_get35 σ o hG
  exact va_iald hx hb hK hP q0 0 hq rfl hin hdg (k H locs ls hP hS hl)
theorem fmas_35 (F : fmF p s m args meth c D A G own cc nL ret Ts) (hG : G.1 36 0 0 ≠ 0) {i0 : Nat} {i x : Int32} (hdg : decode cc pc = .ok (.iastore, 1)) (hin : vp_in i (G.1 36 0 0)) (hi : i.toNatClampNeg = i0) (k : fmV p l e R s m args below meth c D A G nL o Q (fmu σ 35 0 0 (upd (σ 35 0 0) i0 x)) cells slots lv rest (pc + 1)) : fmV p l e R s m args below meth c D A G nL o Q σ cells slots lv (.int x :: .int i :: .ref (G.1 35 0 0) :: rest) pc := by
  obtain ⟨hx, hb, hml, hr, hown, hts, hK, hD, hA, hlk⟩ := F
  intro H locs ls hP hS hl
  subst hi
  obtain ⟨q0, h0, hq⟩ := fmW_get35 σ o hG
  refine va_iast hx hb hK hP (hD σ o) hS q0 0 hq rfl hin hdg (fun H1 locs1 hP1 hD1 hS1 => k H1 locs1 ls ?_ hS1 hl)
  have e := fmW_set (σ' := fmu σ 35 0 0 (upd (σ 35 0 0) i.toNatClampNeg x)) (o' := o) (hD σ o) h0 rfl (fun j hj => fmC_off j hj)
  rw [fmC_is_35, fmC_35, fmu_self] at e
  exact e ▸ hP1
theorem fmV_forget {q n : Nat} (hG : G.1 36 0 0 = 0) (hn : n ≠ 0) {σ0 : fmS} (h : ∀ c m k, c ≠ 35 → σ c m k = σ0 c m k) (k : fmV p l e R s m args below meth c D A G nL o Q σ0 cells slots lv st pc) : fmV p l e R s m args below meth c D A (fmGx G q n) nL o Q σ cells slots lv st pc := by
  intro H locs ls hP hS hl
  refine k H locs ls ?_ hS hl
  rw [fmW_x hG hn] at hP
  rw [← fmW_35 (σ := σ0) (σ' := σ) hG o h]
  exact fun k9 q9 hk => hP k9 q9 (by rw [List.getElem?_append_left (List.getElem?_eq_some_iff.mp hk).1]; exact hk)
end FMTMP
def gT (f : Nat → Int32) (k : Nat) : Nat → Int32 := fun i => if i < k then f i else 0
theorem gT_0 (f : Nat → Int32) : gT f 0 = fun _ => 0 := by
  funext i; rw [gT, if_neg (by omega)]
theorem gT_s (f : Nat → Int32) (k : Nat) {v : Int32} (h : v = f k) : upd (gT f k) k v = gT f (k + 1) := by
  funext i
  subst h
  by_cases e : i = k
  · subst e; rw [gT, if_pos (by omega)]; simp [upd]
  · have h1 : upd (gT f k) k (f k) i = gT f k i := by simp [upd, e]
    rw [h1, gT, gT]
    by_cases hi : i < k
    · rw [if_pos hi, if_pos (by omega)]
    · rw [if_neg hi, if_neg (by omega)]
theorem tmp_s (σ : fmS) (f : Nat → Int32) (k : Nat) {v : Int32} (h : v = f k) : fmu σ 35 0 0 (gT f (k + 1)) = fmu (fmu σ 35 0 0 (gT f k)) 35 0 0 (upd ((fmu σ 35 0 0 (gT f k)) 35 0 0) k v) := by
  rw [fmu_self, gT_s f k h]
  funext x1 x2 x3 x4
  rw [fmu_get, fmu_get, fmu_get]
  by_cases e : x1 = 35 ∧ x2 = 0 ∧ x3 = 0
  · rw [if_pos e, if_pos e]
  · rw [if_neg e, if_neg e, if_neg e]
