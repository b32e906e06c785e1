/-! THE START -/
theorem fmXB_in : ∀ w ∈ fmXB, w ∈ lw_tbl := by decide +kernel
theorem law_K {s : State} {b : Nat} (hts : ∀ w ∈ lw_tbl, w.before #[Value.ref b] s = true) : ∃ (D : va_G) (T2 : Nat → ClassId), va_K D vwCl (cT T2) s := by
  obtain ⟨c0, i0, k0⟩ := u_known (C := RX0) (T := TX0) (N := 16) (n := 16) hts inX0 (hts (.instantiable RX0 16) (by decide +kernel))
  obtain ⟨c1, i1, k1⟩ := u_known (C := RX1) (T := TX1) (N := 10) (n := 10) hts inX1 (hts (.instantiable RX1 10) (by decide +kernel))
  obtain ⟨c2, i2, k2⟩ := u_known (C := RX2) (T := TX2) (N := 3) (n := 3) hts inX2 (hts (.instantiable RX2 3) (by decide +kernel))
  obtain ⟨c3, i3, k3⟩ := u_known (C := RX3) (T := TX3) (N := 2) (n := 2) hts inX3 (hts (.instantiable RX3 2) (by decide +kernel))
  obtain ⟨c4, i4, k4⟩ := u_known (C := RX4) (T := TX4) (N := 3) (n := 3) hts inX4 (hts (.instantiable RX4 3) (by decide +kernel))
  obtain ⟨c5, i5, k5⟩ := u_known (C := RX5) (T := TX5) (N := 14) (n := 14) hts inX5 (hts (.instantiable RX5 14) (by decide +kernel))
  obtain ⟨c6, i6, k6⟩ := u_known (C := RX6) (T := TX6) (N := 13) (n := 13) hts inX6 (hts (.instantiable RX6 13) (by decide +kernel))
  obtain ⟨a0, b0, d0, e0, f0, g0⟩ := Cond.arrayClass_spec (hts (.arrayClass .int) (by decide +kernel))
  obtain ⟨a1, b1, d1, e1, f1, g1⟩ := Cond.arrayClass_spec (hts (.arrayClass .boolean) (by decide +kernel))
  obtain ⟨a2, b2, d2, e2, f2, g2⟩ := Cond.arrayClass_spec (hts (.arrayClass .long) (by decide +kernel))
  obtain ⟨d3, a3, b3, h3, -, f3, g3, e3⟩ := Cond.arrayOver_spec (hts (.arrayOver (.object RX2)) (by decide +kernel))
  obtain ⟨d4, a4, b4, h4, -, f4, g4, e4⟩ := Cond.arrayOver_spec (hts (.arrayOver (.object RX0)) (by decide +kernel))
  refine ⟨(fun k => if k = 0 then c0 else if k = 1 then c1 else if k = 2 then c2 else if k = 3 then c3 else if k = 4 then c4 else if k = 5 then c5 else c6, fun k => if k = 0 then i0 else if k = 1 then i1 else if k = 2 then i2 else if k = 3 then i3 else if k = 4 then i4 else if k = 5 then i5 else i6), fun k => if k = 0 then a0 else if k = 1 then a1 else if k = 2 then a2 else if k = 3 then a3 else a4, fun k q hq => ?_, fun k q hq => ?_⟩
  · match k, hq with
    | 0, hq => cases hq; exact k0
    | 1, hq => cases hq; exact k1
    | 2, hq => cases hq; exact k2
    | 3, hq => cases hq; exact k3
    | 4, hq => cases hq; exact k4
    | 5, hq => cases hq; exact k5
    | 6, hq => cases hq; exact k6
    | k + 7, hq => simp at hq
  · match k, hq with
    | 0, hq => cases hq; exact ⟨fun N z => ⟨(fun k h => by cases h), b0, f0, d0, g0⟩, e0⟩
    | 1, hq => cases hq; exact ⟨fun N z => ⟨(fun k h => by cases h), b1, f1, d1, g1⟩, e1⟩
    | 2, hq => cases hq; exact ⟨fun N z => ⟨(fun k h => by cases h), b2, f2, d2, g2⟩, e2⟩
    | 3, hq => cases hq; exact ⟨fun N z => ⟨(fun k h => by cases h), b3, f3, d3, g3⟩, b3, d3, f3, g3, h3, e3⟩
    | 4, hq => cases hq; exact ⟨fun N z => ⟨(fun k h => by cases h), b4, f4, d4, g4⟩, b4, d4, f4, g4, h4, e4⟩
    | k + 5, hq => simp [cT] at hq
theorem law_E {s : State} {b : Nat} (hts : ∀ w ∈ lw_tbl, w.before #[Value.ref b] s = true) : cE s :=
  ⟨va_AO.of (hts (.arrayOver (.object RX2)) (by decide +kernel)), va_AO.of (hts (.arrayOver (.object RX0)) (by decide +kernel)), va_Nw.of rfl (hts (.methodLinkNest RX6 33 yX5_init "FloatMarketModel") (by decide +kernel))⟩
theorem law_str {s : State} {b k : Nat} {tx : String} (h1 : (Cond.stringRef RX4 k tx).before #[Value.ref b] s = true) (h2 : (Cond.exactly (.string RX4 k) "java/lang/String").before #[Value.ref b] s = true) : ∃ a, vk_R RX4 k tx a s := by
  obtain ⟨a, c, cell, kk, he, -⟩ := Cond.exactly_spec h2
  exact ⟨a, vk_R.of h1 he⟩
theorem law_X {s : State} {b : Nat} (hts : ∀ w ∈ lw_tbl, w.before #[Value.ref b] s = true) (hgv : (Jvm.Cond.and given_1 narrow_1).before #[Value.ref b] s = true) : fmX (fun q => s.heap.size ≤ q) s := by
  have hs := flat_of_before _ hgv
  refine ⟨vx_Zqof (hts _ (show Cond.laysStatic Bundle.tN "UNASSIGNED_STACK" Bundle.steD ∈ lw_tbl by decide +kernel)) (hts (.initialized Bundle.tN) (by decide +kernel)) (hs (.isRef (.static Bundle.tN "UNASSIGNED_STACK" Bundle.steD)) (by decide +kernel)) (fun a h => Nat.not_le.mpr h),
    vx_Zqof (hts _ (show Cond.laysStatic Bundle.tN "SUPPRESSED_SENTINEL" Bundle.listD ∈ lw_tbl by decide +kernel)) (hts (.initialized Bundle.tN) (by decide +kernel)) (hs (.isRef (.static Bundle.tN "SUPPRESSED_SENTINEL" Bundle.listD)) (by decide +kernel)) (fun a h => Nat.not_le.mpr h),
    law_str (hts (.stringRef RX4 190 "there is no such number") (by decide +kernel)) (hs (.exactly (.string RX4 190) "java/lang/String") (by decide +kernel)),
    law_str (hts (.stringRef RX4 197 "the value is out of its range") (by decide +kernel)) (hs (.exactly (.string RX4 197) "java/lang/String") (by decide +kernel)),
    law_str (hts (.stringRef RX4 202 "this can not be done now") (by decide +kernel)) (hs (.exactly (.string RX4 202) "java/lang/String") (by decide +kernel)),
    fun w hw => va_Nw.of (fmXB_tab hw) (hts w (fmXB_in w hw)), ?_⟩
  exact ⟨va_Nc.of (hs (.not (.castable "java/lang/IllegalArgumentException" "java/lang/IndexOutOfBoundsException")) (by decide +kernel)), va_Nc.of (hs (.not (.castable "java/lang/IllegalStateException" "java/lang/IndexOutOfBoundsException")) (by decide +kernel)), va_Nc.of (hs (.not (.castable "java/lang/IllegalStateException" "java/lang/IllegalArgumentException")) (by decide +kernel))⟩
/-! the world that the law makes -/
def lawIds : List fmI := clsIds ++ mdlIds ++ [(34, 0, 0)]
theorem lawIds_in : ∀ i ∈ fmIds, i ∈ lawIds := by decide +kernel
theorem fmIds_nd : fmIds.Nodup := by decide +kernel
def lawG (u v : cAd) (q : Nat) : cAd := fun kd a k => if kd ≤ 13 then u kd a k else if kd ≤ 33 then v kd a k else if kd = 34 then q else 0
theorem cC_cong {u v : cAd} {T2 : Nat → ClassId} {i : fmI} (h : ∀ σ o, fmC (u, T2) σ o i = fmC (v, T2) σ o i) (h1 : u i.1 i.2.1 i.2.2 = v i.1 i.2.1 i.2.2) : cC u T2 i = cC v T2 i := by
  show (_, _) = (_, _)
  rw [h1, h]
theorem cls_map {u v : cAd} {T2 : Nat → ClassId} (h : ∀ kd a k, kd ≤ 13 → u kd a k = v kd a k) : clsIds.map (cC u T2) = clsIds.map (cC v T2) := by
  have e0 : cC u T2 (0, 0, 0) = cC v T2 (0, 0, 0) := by
    refine cC_cong (fun σ o => ?_) (h 0 0 0 (by decide))
    show fmC_0 (u, T2) σ o 0 0 = fmC_0 (v, T2) σ o 0 0
    unfold fmC_0
    dsimp only
    rw [h 1 0 0 (by decide), h 4 0 0 (by decide), h 4 1 0 (by decide)]
  have e1 : cC u T2 (1, 0, 0) = cC v T2 (1, 0, 0) := by
    refine cC_cong (fun σ o => ?_) (h 1 0 0 (by decide))
    show fmC_1 (u, T2) σ o 0 0 = fmC_1 (v, T2) σ o 0 0
    unfold fmC_1
    dsimp only
    rw [h 2 0 0 (by decide), h 3 0 0 (by decide)]
  have e2 : cC u T2 (2, 0, 0) = cC v T2 (2, 0, 0) := cC_a (by decide) (h 2 0 0 (by decide))
  have e3 : cC u T2 (3, 0, 0) = cC v T2 (3, 0, 0) := cC_a (by decide) (h 3 0 0 (by decide))
  unfold clsIds watIds
  rw [List.map_cons, List.map_append, List.map_append, List.map_cons, List.map_cons, List.map_cons, List.map_nil, List.map_cons, List.map_append, List.map_append, List.map_cons, List.map_cons, List.map_cons, List.map_nil, e0, e1, e2, e3, mkt_map (u := u) (v := v) (m := 0) (fun kd k hk => h kd 0 k hk.2) (h 1 0 0 (by decide)), mkt_map (u := u) (v := v) (m := 1) (fun kd k hk => h kd 1 k hk.2) (h 1 0 0 (by decide))]
theorem mdl_map {u v : cAd} {T2 : Nat → ClassId} (h : ∀ kd a k, 14 ≤ kd → kd ≤ 33 → u kd a k = v kd a k) : mdlIds.map (cC u T2) = mdlIds.map (cC v T2) := by
  have e14 : cC u T2 (14, 0, 0) = cC v T2 (14, 0, 0) := by
    refine cC_cong (fun σ o => ?_) (h _ _ _ (by decide) (by decide))
    show fmC_14 (u, T2) σ o 0 0 = fmC_14 (v, T2) σ o 0 0
    unfold fmC_14
    dsimp only
    rw [h 15 _ _ (by decide) (by decide), h 16 _ _ (by decide) (by decide), h 17 _ _ (by decide) (by decide), h 18 _ _ (by decide) (by decide), h 19 _ _ (by decide) (by decide), h 20 _ _ (by decide) (by decide), h 21 _ _ (by decide) (by decide), h 23 0 _ (by decide) (by decide), h 23 1 _ (by decide) (by decide), h 22 _ _ (by decide) (by decide)]
  have ea : ∀ kd, (15 ≤ kd ∧ kd ≤ 22) → cC u T2 (kd, 0, 0) = cC v T2 (kd, 0, 0) := fun kd hk => cC_a (by omega) (h kd 0 0 (by omega) (by omega))
  unfold mdlIds
  rw [List.map_append, List.map_append, List.map_append, List.map_append, List.map_append, List.map_append, st_map (u := u) (v := v) (b := 0) (fun kd hk => h kd 0 0 (by omega) (by omega)) (h 14 0 0 (by decide) (by decide)), st_map (u := u) (v := v) (b := 1) (fun kd hk => h kd 1 0 (by omega) (by omega)) (h 14 0 0 (by decide) (by decide))]
  simp only [List.map_cons, List.map_nil]
  rw [e14, ea 15 (by decide), ea 16 (by decide), ea 17 (by decide), ea 18 (by decide), ea 19 (by decide), ea 20 (by decide), ea 21 (by decide), ea 22 (by decide)]
theorem law_block (u v : cAd) (T2 : Nat → ClassId) (q : Nat) : clsIds.map (cC u T2) ++ mdlIds.map (cC v T2) ++ [(q, .inl (T2 2, 1, .inr (.inl (fun _ => 0))))] = lawIds.map (cC (lawG u v q) T2) := by
  unfold lawIds
  rw [List.map_append, List.map_append, cls_map (u := u) (v := lawG u v q) (fun kd a k hk => (if_pos hk).symm), mdl_map (u := v) (v := lawG u v q) (fun kd a k h1 h2 => by unfold lawG; rw [if_neg (by omega), if_pos h2])]
  rfl
theorem law_world {D : va_G} {A : Nat → Prop} {g : cAd} {T2 : Nat → ClassId} {H : Heap} (h0 : g 36 0 0 = 0) (hP : va_P D vwCl (lawIds.map (cC g T2)) H) (hD : va_D A (lawIds.map (cC g T2))) : va_P D vwCl (fmW (g, T2) fmNew fmNewO) H ∧ ∀ σ o, va_D A (fmW (g, T2) σ o) := by
  have e : fmW (g, T2) fmNew fmNewO = fmIds.map (cC g T2) := by
    unfold fmW fmJd
    have h1 : (g, T2).1 36 0 0 = 0 := h0
    rw [if_pos h1]
    rfl
  have key : ∀ (k : Nat) (q : Nat × va_E), (fmIds.map (cC g T2))[k]? = some q → ∃ (i : fmI) (k' : Nat), fmIds[k]? = some i ∧ q = cC g T2 i ∧ lawIds[k']? = some i ∧ (lawIds.map (cC g T2))[k']? = some q := by
    intro k q hk
    rw [List.getElem?_map] at hk
    cases hi : fmIds[k]? with
    | none => rw [hi] at hk; cases hk
    | some i =>
      rw [hi] at hk
      cases hk
      obtain ⟨k', h'⟩ := List.getElem?_of_mem (lawIds_in i (List.mem_of_getElem? hi))
      exact ⟨i, k', rfl, rfl, h', by rw [List.getElem?_map, h']; rfl⟩
  refine ⟨?_, fun σ o => fmW_D (σ := fmNew) (o := fmNewO) ?_ σ o⟩
  · rw [e]
    intro k q hk
    obtain ⟨i, k', -, -, -, h2⟩ := key k q hk
    exact hP k' q h2
  · rw [e]
    refine ⟨fun i j p q hi hj hpq => ?_, fun k q hk => ?_⟩
    · obtain ⟨x, i', x1, -, x3, x4⟩ := key i p hi
      obtain ⟨y, j', y1, -, y3, y4⟩ := key j q hj
      have hij := hD.1 i' j' p q x4 y4 hpq
      subst hij
      have hxy : x = y := Option.some.inj (x3.symm.trans y3)
      subst hxy
      obtain ⟨hli, ei⟩ := List.getElem?_eq_some_iff.mp x1
      obtain ⟨hlj, ej⟩ := List.getElem?_eq_some_iff.mp y1
      exact (List.getElem_inj fmIds_nd).mp (ei.trans ej.symm)
    · obtain ⟨i, k', -, -, -, h2⟩ := key k q hk
      exact hD.2 k' q h2
theorem law_rI : rI 0 0 0 fmNew := by
  refine ⟨⟨⟨⟨by decide, by decide, by decide, rfl, rfl, rfl⟩, fun r hr => absurd hr (Nat.not_lt_zero _), fun k hk => absurd hk (Nat.not_lt_zero _)⟩, ⟨fun k hk => absurd hk (Nat.not_lt_zero _), fun k hk => absurd hk (Nat.not_lt_zero _), ⟨fun k _ _ => ⟨rfl, rfl, rfl⟩, fun i _ _ => rfl⟩, ⟨rfl, rfl, by decide +kernel, by decide +kernel⟩, fun r hr => absurd hr (Nat.not_lt_zero _), fun k hk => absurd hk (Nat.not_lt_zero _), fun j hj => ⟨rfl, rfl⟩⟩, fun k hk => absurd hk (Nat.not_lt_zero _)⟩, ⟨rfl, rfl, rfl⟩, ⟨fun k _ _ => ⟨⟨rfl, rfl, rfl, rfl, rfl, rfl, rfl, rfl, rfl⟩, fun g _ => ⟨rfl, rfl, rfl, rfl⟩, ⟨rfl, rfl, rfl⟩, fun g _ => ⟨rfl, rfl, rfl⟩⟩, fun r _ _ => rfl⟩, fun k hk => absurd hk (Nat.not_lt_zero _), fun j hj => ⟨9, 0, by decide, by decide, ?_, rfl⟩⟩
  show (if j < 24 then (9 : Int32) else 0) = nI 9
  rw [if_pos hj]
  rfl
