/-! WHAT THE CONSTRUCTORS MAKE -/
/-- the numbers of a world that is new -/
def fmNew : fmS := fun c _ _ j => if c = 53 then -1 else if c = 54 then -1 else if c = 55 then -1 else if c = 58 then -1 else if c = 2 then (if j < 24 then 9 else 0) else if c = 16 then (if j < 24 then 9 else 0) else 0
def fmNewO : Nat → Int64 := fun _ => 0
abbrev cAd : Type := Nat → Nat → Nat → Nat
def cC (u : cAd) (T2 : Nat → ClassId) (i : fmI) : Nat × va_E := (u i.1 i.2.1 i.2.2, fmC (u, T2) fmNew fmNewO i)
def rowId1 (m k : Nat) : List fmI := [(7, m, k), (8, m, k)]
def canId1 (m k : Nat) : List fmI := [(9, m, k), (10, m, k), (11, m, k), (12, m, k), (13, m, k)]
def rowIds (m n : Nat) : List fmI := (List.range n).flatMap (rowId1 m)
def canIds (m n : Nat) : List fmI := (List.range n).flatMap (canId1 m)
def mktIds (m : Nat) : List fmI := (4, m, 0) :: (5, m, 0) :: (rowIds m 4 ++ ((6, m, 0) :: canIds m 14))
def watIds : List fmI := [(1, 0, 0), (2, 0, 0), (3, 0, 0)]
def stIds (b : Nat) : List fmI := [(23, b, 0), (24, b, 0), (25, b, 0), (26, b, 0), (27, b, 0), (28, b, 0), (29, b, 0), (30, b, 0), (31, b, 0), (32, b, 0), (33, b, 0)]
def clsIds : List fmI := (0, 0, 0) :: (watIds ++ (mktIds 0 ++ mktIds 1))
def mdlIds : List fmI := [(14, 0, 0), (15, 0, 0), (16, 0, 0), (17, 0, 0), (18, 0, 0), (19, 0, 0), (20, 0, 0), (21, 0, 0)] ++ (stIds 0 ++ (stIds 1 ++ [(22, 0, 0)]))
theorem rowIds_s (m n : Nat) : rowIds m (n + 1) = rowIds m n ++ rowId1 m n := by
  rw [rowIds, List.range_succ, List.flatMap_append]; simp [rowIds]
theorem canIds_s (m n : Nat) : canIds m (n + 1) = canIds m n ++ canId1 m n := by
  rw [canIds, List.range_succ, List.flatMap_append]; simp [canIds]
theorem rowIds_m {m n : Nat} {i : fmI} (h : i ∈ rowIds m n) : ∃ k, k < n ∧ (i = (7, m, k) ∨ i = (8, m, k)) := by
  obtain ⟨k, h1, h2⟩ := List.mem_flatMap.mp h
  refine ⟨k, List.mem_range.mp h1, ?_⟩
  simpa [rowId1] using h2
theorem canIds_m {m n : Nat} {i : fmI} (h : i ∈ canIds m n) : ∃ k, k < n ∧ (i = (9, m, k) ∨ i = (10, m, k) ∨ i = (11, m, k) ∨ i = (12, m, k) ∨ i = (13, m, k)) := by
  obtain ⟨k, h1, h2⟩ := List.mem_flatMap.mp h
  refine ⟨k, List.mem_range.mp h1, ?_⟩
  simpa [canId1] using h2
section CONG
variable {u v : cAd} {T2 : Nat → ClassId} {m k : Nat}
theorem cC_7 (h7 : u 7 m k = v 7 m k) (h8 : u 8 m k = v 8 m k) : cC u T2 (7, m, k) = cC v T2 (7, m, k) := by
  show (u 7 m k, fmC_7 (u, T2) fmNew fmNewO m k) = (v 7 m k, fmC_7 (v, T2) fmNew fmNewO m k)
  unfold fmC_7
  dsimp only
  rw [h7, h8]
theorem cC_9 (h9 : u 9 m k = v 9 m k) (h10 : u 10 m k = v 10 m k) (h11 : u 11 m k = v 11 m k) (h12 : u 12 m k = v 12 m k) (h13 : u 13 m k = v 13 m k) : cC u T2 (9, m, k) = cC v T2 (9, m, k) := by
  show (u 9 m k, fmC_9 (u, T2) fmNew fmNewO m k) = (v 9 m k, fmC_9 (v, T2) fmNew fmNewO m k)
  unfold fmC_9
  dsimp only
  rw [h9, h10, h11, h12, h13]
theorem cC_4 (h4 : u 4 m k = v 4 m k) (h1 : u 1 0 0 = v 1 0 0) (h5 : u 5 m 0 = v 5 m 0) (h6 : u 6 m 0 = v 6 m 0) : cC u T2 (4, m, k) = cC v T2 (4, m, k) := by
  show (u 4 m k, fmC_4 (u, T2) fmNew fmNewO m k) = (v 4 m k, fmC_4 (v, T2) fmNew fmNewO m k)
  unfold fmC_4
  dsimp only
  rw [h4, h1, h5, h6]
theorem cC_5 (h5 : u 5 m k = v 5 m k) (h7 : ∀ j, u 7 m j = v 7 m j) : cC u T2 (5, m, k) = cC v T2 (5, m, k) := by
  show (u 5 m k, fmC_5 (u, T2) fmNew fmNewO m k) = (v 5 m k, fmC_5 (v, T2) fmNew fmNewO m k)
  unfold fmC_5
  dsimp only
  rw [h5, show (fun j => some (u 7 m j)) = fun j => some (v 7 m j) from funext fun j => by rw [h7]]
theorem cC_6 (h6 : u 6 m k = v 6 m k) (h9 : ∀ j, u 9 m j = v 9 m j) : cC u T2 (6, m, k) = cC v T2 (6, m, k) := by
  show (u 6 m k, fmC_6 (u, T2) fmNew fmNewO m k) = (v 6 m k, fmC_6 (v, T2) fmNew fmNewO m k)
  unfold fmC_6
  dsimp only
  rw [h6, show (fun j => some (u 9 m j)) = fun j => some (v 9 m j) from funext fun j => by rw [h9]]
/-- an array of numbers is its address alone -/
theorem cC_a {kd : Nat} (hk : kd = 2 ∨ kd = 3 ∨ kd = 8 ∨ kd = 10 ∨ kd = 11 ∨ kd = 12 ∨ kd = 13 ∨ (15 ≤ kd ∧ kd ≤ 22) ∨ (24 ≤ kd ∧ kd ≤ 34)) (h : u kd m k = v kd m k) : cC u T2 (kd, m, k) = cC v T2 (kd, m, k) := by
  have e : fmC (u, T2) fmNew fmNewO (kd, m, k) = fmC (v, T2) fmNew fmNewO (kd, m, k) := by
    rcases (show kd = 2 ∨ kd = 3 ∨ kd = 8 ∨ kd = 10 ∨ kd = 11 ∨ kd = 12 ∨ kd = 13 ∨ kd = 15 ∨ kd = 16 ∨ kd = 17 ∨ kd = 18 ∨ kd = 19 ∨ kd = 20 ∨ kd = 21 ∨ kd = 22 ∨ kd = 24 ∨ kd = 25 ∨ kd = 26 ∨ kd = 27 ∨ kd = 28 ∨ kd = 29 ∨ kd = 30 ∨ kd = 31 ∨ kd = 32 ∨ kd = 33 ∨ kd = 34 by omega) with rfl | rfl | rfl | rfl | rfl | rfl | rfl | rfl | rfl | rfl | rfl | rfl | rfl | rfl | rfl | rfl | rfl | rfl | rfl | rfl | rfl | rfl | rfl | rfl | rfl | rfl <;> rfl
  show (u kd m k, _) = (v kd m k, _)
  rw [h, e]
theorem rows_map {n : Nat} (h : ∀ k, k < n → u 7 m k = v 7 m k ∧ u 8 m k = v 8 m k) : (rowIds m n).map (cC u T2) = (rowIds m n).map (cC v T2) := by
  refine List.map_congr_left (fun i hi => ?_)
  obtain ⟨k, hk, e | e⟩ := rowIds_m hi
  · rw [e]; exact cC_7 (h k hk).1 (h k hk).2
  · rw [e]; exact cC_a (by decide) (h k hk).2
theorem cans_map {n : Nat} (h : ∀ k, k < n → u 9 m k = v 9 m k ∧ u 10 m k = v 10 m k ∧ u 11 m k = v 11 m k ∧ u 12 m k = v 12 m k ∧ u 13 m k = v 13 m k) : (canIds m n).map (cC u T2) = (canIds m n).map (cC v T2) := by
  refine List.map_congr_left (fun i hi => ?_)
  obtain ⟨k, hk, e⟩ := canIds_m hi
  obtain ⟨h9, h10, h11, h12, h13⟩ := h k hk
  rcases e with e | e | e | e | e <;> rw [e]
  · exact cC_9 h9 h10 h11 h12 h13
  · exact cC_a (by decide) h10
  · exact cC_a (by decide) h11
  · exact cC_a (by decide) h12
  · exact cC_a (by decide) h13
theorem mkt_map (h : ∀ kd k, 4 ≤ kd ∧ kd ≤ 13 → u kd m k = v kd m k) (h1 : u 1 0 0 = v 1 0 0) : (mktIds m).map (cC u T2) = (mktIds m).map (cC v T2) := by
  unfold mktIds
  rw [List.map_cons, List.map_cons, List.map_append, List.map_cons, List.map_cons, List.map_cons, List.map_append, List.map_cons, cC_4 (h 4 0 (by decide)) h1 (h 5 0 (by decide)) (h 6 0 (by decide)), cC_5 (h 5 0 (by decide)) (fun j => h 7 j (by decide)), cC_6 (h 6 0 (by decide)) (fun j => h 9 j (by decide)), rows_map (fun k _ => ⟨h 7 k (by decide), h 8 k (by decide)⟩), cans_map (fun k _ => ⟨h 9 k (by decide), h 10 k (by decide), h 11 k (by decide), h 12 k (by decide), h 13 k (by decide)⟩)]
end CONG
