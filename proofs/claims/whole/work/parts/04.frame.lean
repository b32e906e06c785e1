/-! THE WORLD. A thing is named by (kind, m, k); its address is G.1 kind m k; G.2: the array classes (0 int, 1 boolean, 2 long, 3 Row, 4 Canoe).
All numbers that change lie in columns: σ column m k j (an array's column is its kind; an object's int fields have columns of their own, at j = 0). -/
abbrev fmG : Type := (Nat → Nat → Nat → Nat) × (Nat → ClassId)
abbrev fmS : Type := Nat → Nat → Nat → Nat → Int32
abbrev fmI : Type := Nat × Nat × Nat
def fmT (G : fmG) : List (ClassId × FieldType) := [(G.2 0, .int), (G.2 1, .boolean), (G.2 2, .long), (G.2 3, .object RX2), (G.2 4, .object RX0)]
/-- the only change: one column's array (or field, at 0) becomes f -/
def fmu (σ : fmS) (c m k : Nat) (f : Nat → Int32) : fmS := fun c' m' k' j' => if c' = c ∧ m' = m ∧ k' = k then f j' else σ c' m' k' j'
theorem fmu_get (σ : fmS) (c m k : Nat) (f : Nat → Int32) (c' m' k' j' : Nat) : fmu σ c m k f c' m' k' j' = if c' = c ∧ m' = m ∧ k' = k then f j' else σ c' m' k' j' := rfl
theorem fmu_self (σ : fmS) (c m k : Nat) (f : Nat → Int32) : fmu σ c m k f c m k = f := by funext j; simp [fmu]
theorem fmu_ne (σ : fmS) (c m k : Nat) (f : Nat → Int32) {c' m' k' : Nat} (h : ¬ (c' = c ∧ m' = m ∧ k' = k)) : fmu σ c m k f c' m' k' = σ c' m' k' := by funext j; simp only [fmu, if_neg h]
/-- a scalar field becomes x -/
abbrev fms (σ : fmS) (c m k : Nat) (x : Int32) : fmS := fmu σ c m k (fun _ => x)
/-- which kind owns a column -/
def fmO (c : Nat) : Nat := if c < 40 then c else if c < 47 then 4 else if c < 49 then 7 else if c < 61 then 9 else if c < 64 then 14 else 23

/-- the cell of each kind -/
def fmC_0 (G : fmG) (σ : fmS) (o : Nat → Int64) (m k : Nat) : va_E := .inr (4, [.ref (G.1 1 0 0), .ref (G.1 4 0 0), .ref (G.1 4 1 0)])
def fmC_1 (G : fmG) (σ : fmS) (o : Nat → Int64) (m k : Nat) : va_E := .inr (3, [.ref (G.1 2 0 0), .ref (G.1 3 0 0)])
def fmC_2 (G : fmG) (σ : fmS) (o : Nat → Int64) (m k : Nat) : va_E := .inl (G.2 0, 24, .inl (σ 2 m k))
def fmC_3 (G : fmG) (σ : fmS) (o : Nat → Int64) (m k : Nat) : va_E := .inl (G.2 0, 24, .inl (σ 3 m k))
def fmC_4 (G : fmG) (σ : fmS) (o : Nat → Int64) (m k : Nat) : va_E := .inr (1, [.ref (G.1 1 0 0), .ref (G.1 5 m 0), .ref (G.1 6 m 0), .int (σ 40 m k 0), .int (σ 41 m k 0), .int (σ 42 m k 0), .int (σ 43 m k 0), .int (σ 44 m k 0), .int (σ 45 m k 0), .int (σ 46 m k 0)])
def fmC_5 (G : fmG) (σ : fmS) (o : Nat → Int64) (m k : Nat) : va_E := .inl (G.2 3, 4, .inr (.inr (.inr (.inr (fun j => some (G.1 7 m j))))))
def fmC_6 (G : fmG) (σ : fmS) (o : Nat → Int64) (m k : Nat) : va_E := .inl (G.2 4, 14, .inr (.inr (.inr (.inr (fun j => some (G.1 9 m j))))))
def fmC_7 (G : fmG) (σ : fmS) (o : Nat → Int64) (m k : Nat) : va_E := .inr (2, [.ref (G.1 8 m k), .int (σ 47 m k 0), .int (σ 48 m k 0)])
def fmC_8 (G : fmG) (σ : fmS) (o : Nat → Int64) (m k : Nat) : va_E := .inl (G.2 0, 6, .inl (σ 8 m k))
def fmC_9 (G : fmG) (σ : fmS) (o : Nat → Int64) (m k : Nat) : va_E := .inr (0, [.int (nI k), .ref (G.1 10 m k), .ref (G.1 11 m k), .ref (G.1 12 m k), .ref (G.1 13 m k), .int (σ 50 m k 0), .int (σ 51 m k 0), .int (σ 52 m k 0), .int (σ 53 m k 0), .int (σ 54 m k 0), .int (σ 55 m k 0), .int (σ 56 m k 0), .int (σ 57 m k 0), .int (σ 58 m k 0), .int (σ 59 m k 0), .int (σ 60 m k 0)])
def fmC_10 (G : fmG) (σ : fmS) (o : Nat → Int64) (m k : Nat) : va_E := .inl (G.2 0, 4, .inl (σ 10 m k))
def fmC_11 (G : fmG) (σ : fmS) (o : Nat → Int64) (m k : Nat) : va_E := .inl (G.2 0, 4, .inl (σ 11 m k))
def fmC_12 (G : fmG) (σ : fmS) (o : Nat → Int64) (m k : Nat) : va_E := .inl (G.2 0, 4, .inl (σ 12 m k))
def fmC_13 (G : fmG) (σ : fmS) (o : Nat → Int64) (m k : Nat) : va_E := .inl (G.2 0, 4, .inl (σ 13 m k))
def fmC_14 (G : fmG) (σ : fmS) (o : Nat → Int64) (m k : Nat) : va_E := .inr (6, [.int (σ 61 m k 0), .int (σ 62 m k 0), .ref (G.1 15 0 0), .ref (G.1 16 0 0), .ref (G.1 17 0 0), .int (σ 63 m k 0), .ref (G.1 18 0 0), .ref (G.1 19 0 0), .ref (G.1 20 0 0), .ref (G.1 21 0 0), .ref (G.1 23 0 0), .ref (G.1 23 1 0), .ref (G.1 22 0 0)])
def fmC_15 (G : fmG) (σ : fmS) (o : Nat → Int64) (m k : Nat) : va_E := .inl (G.2 0, 4, .inl (σ 15 m k))
def fmC_16 (G : fmG) (σ : fmS) (o : Nat → Int64) (m k : Nat) : va_E := .inl (G.2 0, 24, .inl (σ 16 m k))
def fmC_17 (G : fmG) (σ : fmS) (o : Nat → Int64) (m k : Nat) : va_E := .inl (G.2 0, 24, .inl (σ 17 m k))
def fmC_18 (G : fmG) (σ : fmS) (o : Nat → Int64) (m k : Nat) : va_E := .inl (G.2 0, 14, .inl (σ 18 m k))
def fmC_19 (G : fmG) (σ : fmS) (o : Nat → Int64) (m k : Nat) : va_E := .inl (G.2 0, 56, .inl (σ 19 m k))
def fmC_20 (G : fmG) (σ : fmS) (o : Nat → Int64) (m k : Nat) : va_E := .inl (G.2 0, 56, .inl (σ 20 m k))
def fmC_21 (G : fmG) (σ : fmS) (o : Nat → Int64) (m k : Nat) : va_E := .inl (G.2 0, 56, .inl (σ 21 m k))
def fmC_22 (G : fmG) (σ : fmS) (o : Nat → Int64) (m k : Nat) : va_E := .inl (G.2 1, 14, .inl (σ 22 m k))
def fmC_23 (G : fmG) (σ : fmS) (o : Nat → Int64) (m k : Nat) : va_E := .inr (5, [.int (σ 64 m k 0), .int (σ 65 m k 0), .int (σ 66 m k 0), .ref (G.1 24 m 0), .ref (G.1 25 m 0), .ref (G.1 26 m 0), .ref (G.1 27 m 0), .ref (G.1 28 m 0), .ref (G.1 29 m 0), .ref (G.1 30 m 0), .ref (G.1 31 m 0), .ref (G.1 32 m 0), .ref (G.1 33 m 0), .ref (G.1 14 0 0)])
def fmC_24 (G : fmG) (σ : fmS) (o : Nat → Int64) (m k : Nat) : va_E := .inl (G.2 0, 14, .inl (σ 24 m k))
def fmC_25 (G : fmG) (σ : fmS) (o : Nat → Int64) (m k : Nat) : va_E := .inl (G.2 0, 56, .inl (σ 25 m k))
def fmC_26 (G : fmG) (σ : fmS) (o : Nat → Int64) (m k : Nat) : va_E := .inl (G.2 0, 14, .inl (σ 26 m k))
def fmC_27 (G : fmG) (σ : fmS) (o : Nat → Int64) (m k : Nat) : va_E := .inl (G.2 0, 14, .inl (σ 27 m k))
def fmC_28 (G : fmG) (σ : fmS) (o : Nat → Int64) (m k : Nat) : va_E := .inl (G.2 0, 14, .inl (σ 28 m k))
def fmC_29 (G : fmG) (σ : fmS) (o : Nat → Int64) (m k : Nat) : va_E := .inl (G.2 0, 14, .inl (σ 29 m k))
def fmC_30 (G : fmG) (σ : fmS) (o : Nat → Int64) (m k : Nat) : va_E := .inl (G.2 0, 14, .inl (σ 30 m k))
def fmC_31 (G : fmG) (σ : fmS) (o : Nat → Int64) (m k : Nat) : va_E := .inl (G.2 0, 14, .inl (σ 31 m k))
def fmC_32 (G : fmG) (σ : fmS) (o : Nat → Int64) (m k : Nat) : va_E := .inl (G.2 0, 14, .inl (σ 32 m k))
def fmC_33 (G : fmG) (σ : fmS) (o : Nat → Int64) (m k : Nat) : va_E := .inl (G.2 0, 14, .inl (σ 33 m k))
def fmC_34 (G : fmG) (σ : fmS) (o : Nat → Int64) (m k : Nat) : va_E := .inl (G.2 2, 1, .inr (.inl o))
def fmC_35 (G : fmG) (σ : fmS) (o : Nat → Int64) (m k : Nat) : va_E := .inl (G.2 0, G.1 36 0 0, .inl (σ 35 m k))
def fmC (G : fmG) (σ : fmS) (o : Nat → Int64) (i : fmI) : va_E :=
  if i.1 = 0 then fmC_0 G σ o i.2.1 i.2.2 else if i.1 = 1 then fmC_1 G σ o i.2.1 i.2.2 else if i.1 = 2 then fmC_2 G σ o i.2.1 i.2.2 else if i.1 = 3 then fmC_3 G σ o i.2.1 i.2.2 else if i.1 = 4 then fmC_4 G σ o i.2.1 i.2.2 else if i.1 = 5 then fmC_5 G σ o i.2.1 i.2.2 else if i.1 = 6 then fmC_6 G σ o i.2.1 i.2.2 else if i.1 = 7 then fmC_7 G σ o i.2.1 i.2.2 else if i.1 = 8 then fmC_8 G σ o i.2.1 i.2.2 else if i.1 = 9 then fmC_9 G σ o i.2.1 i.2.2 else if i.1 = 10 then fmC_10 G σ o i.2.1 i.2.2 else if i.1 = 11 then fmC_11 G σ o i.2.1 i.2.2 else if i.1 = 12 then fmC_12 G σ o i.2.1 i.2.2 else if i.1 = 13 then fmC_13 G σ o i.2.1 i.2.2 else if i.1 = 14 then fmC_14 G σ o i.2.1 i.2.2 else if i.1 = 15 then fmC_15 G σ o i.2.1 i.2.2 else if i.1 = 16 then fmC_16 G σ o i.2.1 i.2.2 else if i.1 = 17 then fmC_17 G σ o i.2.1 i.2.2 else if i.1 = 18 then fmC_18 G σ o i.2.1 i.2.2 else if i.1 = 19 then fmC_19 G σ o i.2.1 i.2.2 else if i.1 = 20 then fmC_20 G σ o i.2.1 i.2.2 else if i.1 = 21 then fmC_21 G σ o i.2.1 i.2.2 else if i.1 = 22 then fmC_22 G σ o i.2.1 i.2.2 else if i.1 = 23 then fmC_23 G σ o i.2.1 i.2.2 else if i.1 = 24 then fmC_24 G σ o i.2.1 i.2.2 else if i.1 = 25 then fmC_25 G σ o i.2.1 i.2.2 else if i.1 = 26 then fmC_26 G σ o i.2.1 i.2.2 else if i.1 = 27 then fmC_27 G σ o i.2.1 i.2.2 else if i.1 = 28 then fmC_28 G σ o i.2.1 i.2.2 else if i.1 = 29 then fmC_29 G σ o i.2.1 i.2.2 else if i.1 = 30 then fmC_30 G σ o i.2.1 i.2.2 else if i.1 = 31 then fmC_31 G σ o i.2.1 i.2.2 else if i.1 = 32 then fmC_32 G σ o i.2.1 i.2.2 else if i.1 = 33 then fmC_33 G σ o i.2.1 i.2.2 else if i.1 = 34 then fmC_34 G σ o i.2.1 i.2.2 else if i.1 = 35 then fmC_35 G σ o i.2.1 i.2.2 else fmC_0 G σ o i.2.1 i.2.2
theorem fmC_is_0 (G : fmG) (σ : fmS) (o : Nat → Int64) (m k : Nat) : fmC G σ o (0, m, k) = fmC_0 G σ o m k := rfl
theorem fmC_is_1 (G : fmG) (σ : fmS) (o : Nat → Int64) (m k : Nat) : fmC G σ o (1, m, k) = fmC_1 G σ o m k := rfl
theorem fmC_is_2 (G : fmG) (σ : fmS) (o : Nat → Int64) (m k : Nat) : fmC G σ o (2, m, k) = fmC_2 G σ o m k := rfl
theorem fmC_is_3 (G : fmG) (σ : fmS) (o : Nat → Int64) (m k : Nat) : fmC G σ o (3, m, k) = fmC_3 G σ o m k := rfl
theorem fmC_is_4 (G : fmG) (σ : fmS) (o : Nat → Int64) (m k : Nat) : fmC G σ o (4, m, k) = fmC_4 G σ o m k := rfl
theorem fmC_is_5 (G : fmG) (σ : fmS) (o : Nat → Int64) (m k : Nat) : fmC G σ o (5, m, k) = fmC_5 G σ o m k := rfl
theorem fmC_is_6 (G : fmG) (σ : fmS) (o : Nat → Int64) (m k : Nat) : fmC G σ o (6, m, k) = fmC_6 G σ o m k := rfl
theorem fmC_is_7 (G : fmG) (σ : fmS) (o : Nat → Int64) (m k : Nat) : fmC G σ o (7, m, k) = fmC_7 G σ o m k := rfl
theorem fmC_is_8 (G : fmG) (σ : fmS) (o : Nat → Int64) (m k : Nat) : fmC G σ o (8, m, k) = fmC_8 G σ o m k := rfl
theorem fmC_is_9 (G : fmG) (σ : fmS) (o : Nat → Int64) (m k : Nat) : fmC G σ o (9, m, k) = fmC_9 G σ o m k := rfl
theorem fmC_is_10 (G : fmG) (σ : fmS) (o : Nat → Int64) (m k : Nat) : fmC G σ o (10, m, k) = fmC_10 G σ o m k := rfl
theorem fmC_is_11 (G : fmG) (σ : fmS) (o : Nat → Int64) (m k : Nat) : fmC G σ o (11, m, k) = fmC_11 G σ o m k := rfl
theorem fmC_is_12 (G : fmG) (σ : fmS) (o : Nat → Int64) (m k : Nat) : fmC G σ o (12, m, k) = fmC_12 G σ o m k := rfl
theorem fmC_is_13 (G : fmG) (σ : fmS) (o : Nat → Int64) (m k : Nat) : fmC G σ o (13, m, k) = fmC_13 G σ o m k := rfl
theorem fmC_is_14 (G : fmG) (σ : fmS) (o : Nat → Int64) (m k : Nat) : fmC G σ o (14, m, k) = fmC_14 G σ o m k := rfl
theorem fmC_is_15 (G : fmG) (σ : fmS) (o : Nat → Int64) (m k : Nat) : fmC G σ o (15, m, k) = fmC_15 G σ o m k := rfl
theorem fmC_is_16 (G : fmG) (σ : fmS) (o : Nat → Int64) (m k : Nat) : fmC G σ o (16, m, k) = fmC_16 G σ o m k := rfl
theorem fmC_is_17 (G : fmG) (σ : fmS) (o : Nat → Int64) (m k : Nat) : fmC G σ o (17, m, k) = fmC_17 G σ o m k := rfl
theorem fmC_is_18 (G : fmG) (σ : fmS) (o : Nat → Int64) (m k : Nat) : fmC G σ o (18, m, k) = fmC_18 G σ o m k := rfl
theorem fmC_is_19 (G : fmG) (σ : fmS) (o : Nat → Int64) (m k : Nat) : fmC G σ o (19, m, k) = fmC_19 G σ o m k := rfl
theorem fmC_is_20 (G : fmG) (σ : fmS) (o : Nat → Int64) (m k : Nat) : fmC G σ o (20, m, k) = fmC_20 G σ o m k := rfl
theorem fmC_is_21 (G : fmG) (σ : fmS) (o : Nat → Int64) (m k : Nat) : fmC G σ o (21, m, k) = fmC_21 G σ o m k := rfl
theorem fmC_is_22 (G : fmG) (σ : fmS) (o : Nat → Int64) (m k : Nat) : fmC G σ o (22, m, k) = fmC_22 G σ o m k := rfl
theorem fmC_is_23 (G : fmG) (σ : fmS) (o : Nat → Int64) (m k : Nat) : fmC G σ o (23, m, k) = fmC_23 G σ o m k := rfl
theorem fmC_is_24 (G : fmG) (σ : fmS) (o : Nat → Int64) (m k : Nat) : fmC G σ o (24, m, k) = fmC_24 G σ o m k := rfl
theorem fmC_is_25 (G : fmG) (σ : fmS) (o : Nat → Int64) (m k : Nat) : fmC G σ o (25, m, k) = fmC_25 G σ o m k := rfl
theorem fmC_is_26 (G : fmG) (σ : fmS) (o : Nat → Int64) (m k : Nat) : fmC G σ o (26, m, k) = fmC_26 G σ o m k := rfl
theorem fmC_is_27 (G : fmG) (σ : fmS) (o : Nat → Int64) (m k : Nat) : fmC G σ o (27, m, k) = fmC_27 G σ o m k := rfl
theorem fmC_is_28 (G : fmG) (σ : fmS) (o : Nat → Int64) (m k : Nat) : fmC G σ o (28, m, k) = fmC_28 G σ o m k := rfl
theorem fmC_is_29 (G : fmG) (σ : fmS) (o : Nat → Int64) (m k : Nat) : fmC G σ o (29, m, k) = fmC_29 G σ o m k := rfl
theorem fmC_is_30 (G : fmG) (σ : fmS) (o : Nat → Int64) (m k : Nat) : fmC G σ o (30, m, k) = fmC_30 G σ o m k := rfl
theorem fmC_is_31 (G : fmG) (σ : fmS) (o : Nat → Int64) (m k : Nat) : fmC G σ o (31, m, k) = fmC_31 G σ o m k := rfl
theorem fmC_is_32 (G : fmG) (σ : fmS) (o : Nat → Int64) (m k : Nat) : fmC G σ o (32, m, k) = fmC_32 G σ o m k := rfl
theorem fmC_is_33 (G : fmG) (σ : fmS) (o : Nat → Int64) (m k : Nat) : fmC G σ o (33, m, k) = fmC_33 G σ o m k := rfl
theorem fmC_is_34 (G : fmG) (σ : fmS) (o : Nat → Int64) (m k : Nat) : fmC G σ o (34, m, k) = fmC_34 G σ o m k := rfl
theorem fmC_is_35 (G : fmG) (σ : fmS) (o : Nat → Int64) (m k : Nat) : fmC G σ o (35, m, k) = fmC_35 G σ o m k := rfl
def fmShape : List (Nat × Nat × Nat) := [(0, 1, 1), (1, 1, 1), (2, 1, 1), (3, 1, 1), (4, 2, 1), (5, 2, 1), (6, 2, 1), (7, 2, 4), (8, 2, 4), (9, 2, 14), (10, 2, 14), (11, 2, 14), (12, 2, 14), (13, 2, 14), (14, 1, 1), (15, 1, 1), (16, 1, 1), (17, 1, 1), (18, 1, 1), (19, 1, 1), (20, 1, 1), (21, 1, 1), (22, 1, 1), (23, 2, 1), (24, 2, 1), (25, 2, 1), (26, 2, 1), (27, 2, 1), (28, 2, 1), (29, 2, 1), (30, 2, 1), (31, 2, 1), (32, 2, 1), (33, 2, 1), (34, 1, 1)]
def fmIds : List fmI := fmShape.flatMap (fun q => (List.range q.2.1).flatMap (fun m => (List.range q.2.2).map (fun k => (q.1, m, k))))
theorem fm_mem {kd a b m k : Nat} (h : (kd, a, b) ∈ fmShape) (hm : m < a) (hk : k < b) : (kd, m, k) ∈ fmIds := by
  refine List.mem_flatMap.mpr ⟨(kd, a, b), h, List.mem_flatMap.mpr ⟨m, List.mem_range.mpr hm, List.mem_map.mpr ⟨k, List.mem_range.mpr hk, rfl⟩⟩⟩
def fmAd (G : fmG) (i : fmI) : Nat := G.1 i.1 i.2.1 i.2.2
/-- the things that are there: the last one is an array for a while, of G.1 36 0 0 numbers -/
def fmJd (G : fmG) : List fmI := if G.1 36 0 0 = 0 then fmIds else fmIds ++ [(35, 0, 0)]
theorem fmJd_get (G : fmG) {q0 : Nat} {i : fmI} (h : fmIds[q0]? = some i) : (fmJd G)[q0]? = some i := by
  unfold fmJd
  split
  · exact h
  · rw [List.getElem?_append_left (List.getElem?_eq_some_iff.mp h).1]; exact h
/-- the world: every thing with its cell -/
def fmW (G : fmG) (σ : fmS) (o : Nat → Int64) : va_W := (fmJd G).map (fun i => (fmAd G i, fmC G σ o i))
theorem fmW_get (G : fmG) (σ : fmS) (o : Nat → Int64) {i : fmI} (h : i ∈ fmIds) : ∃ q0 : Nat, (fmJd G)[q0]? = some i ∧ (fmW G σ o)[q0]? = some (fmAd G i, fmC G σ o i) := by
  obtain ⟨q0, h0⟩ := List.getElem?_of_mem h
  exact ⟨q0, fmJd_get G h0, by rw [fmW, List.getElem?_map, fmJd_get G h0]; rfl⟩
theorem fmW_D {A : Nat → Prop} {G : fmG} {σ : fmS} {o : Nat → Int64} (h : va_D A (fmW G σ o)) (σ' : fmS) (o' : Nat → Int64) : va_D A (fmW G σ' o') := by
  have key : ∀ (k : Nat) (q : Nat × va_E), (fmW G σ' o')[k]? = some q → ∃ e, (fmW G σ o)[k]? = some (q.1, e) := by
    intro k q hk
    rw [fmW, List.getElem?_map] at hk
    cases hi : (fmJd G)[k]? with
    | none => rw [hi] at hk; cases hk
    | some i =>
      rw [hi] at hk
      cases hk
      exact ⟨fmC G σ o i, by rw [fmW, List.getElem?_map, hi]; rfl⟩
  refine ⟨fun i j p q hi hj hpq => ?_, fun k q hk => ?_⟩
  · obtain ⟨e1, h1⟩ := key i p hi
    obtain ⟨e2, h2⟩ := key j q hj
    exact h.1 i j _ _ h1 h2 hpq
  · obtain ⟨e1, h1⟩ := key k q hk
    exact h.2 k (q.1, e1) h1
theorem fmW_set {A : Nat → Prop} {G : fmG} {σ σ' : fmS} {o o' : Nat → Int64} {i : fmI} {q0 : Nat} {e : va_E} (hD : va_D A (fmW G σ o)) (h : (fmJd G)[q0]? = some i) (he : fmC G σ' o' i = e) (hne : ∀ j, j ≠ i → fmC G σ' o' j = fmC G σ o j) : (fmW G σ o).set q0 (fmAd G i, e) = fmW G σ' o' := by
  have hq : (fmW G σ o)[q0]? = some (fmAd G i, fmC G σ o i) := by rw [fmW, List.getElem?_map, h]; rfl
  have hl := (List.getElem?_eq_some_iff.mp hq).1
  apply List.ext_getElem?
  intro j
  by_cases hj : j = q0
  · subst hj
    rw [List.getElem?_set_self hl, fmW, List.getElem?_map, h]
    show _ = some (fmAd G i, fmC G σ' o' i)
    rw [he]
  · rw [List.getElem?_set_ne (Ne.symm hj), fmW, fmW, List.getElem?_map, List.getElem?_map]
    cases hb : (fmJd G)[j]? with
    | none => rfl
    | some b =>
      have hbi : b ≠ i := by
        intro hbi
        subst hbi
        have h2 : (fmW G σ o)[j]? = some (fmAd G b, fmC G σ o b) := by rw [fmW, List.getElem?_map, hb]; rfl
        exact hj (hD.1 j q0 _ _ h2 hq rfl)
      show some (fmAd G b, fmC G σ o b) = some (fmAd G b, fmC G σ' o' b)
      rw [hne b hbi]
theorem fmC_ext {G : fmG} {σ σ' : fmS} {o : Nat → Int64} {i : fmI} (h : ∀ c, fmO c = i.1 → σ' c i.2.1 i.2.2 = σ c i.2.1 i.2.2) : fmC G σ' o i = fmC G σ o i := by
  obtain ⟨kd, m, k⟩ := i
  dsimp only at h
  by_cases hb : kd < 36
  · rcases (show kd = 0 ∨ kd = 1 ∨ kd = 2 ∨ kd = 3 ∨ kd = 4 ∨ kd = 5 ∨ kd = 6 ∨ kd = 7 ∨ kd = 8 ∨ kd = 9 ∨ kd = 10 ∨ kd = 11 ∨ kd = 12 ∨ kd = 13 ∨ kd = 14 ∨ kd = 15 ∨ kd = 16 ∨ kd = 17 ∨ kd = 18 ∨ kd = 19 ∨ kd = 20 ∨ kd = 21 ∨ kd = 22 ∨ kd = 23 ∨ kd = 24 ∨ kd = 25 ∨ kd = 26 ∨ kd = 27 ∨ kd = 28 ∨ kd = 29 ∨ kd = 30 ∨ kd = 31 ∨ kd = 32 ∨ kd = 33 ∨ kd = 34 ∨ kd = 35 by omega) with rfl | rfl | rfl | rfl | rfl | rfl | rfl | rfl | rfl | rfl | rfl | rfl | rfl | rfl | rfl | rfl | rfl | rfl | rfl | rfl | rfl | rfl | rfl | rfl | rfl | rfl | rfl | rfl | rfl | rfl | rfl | rfl | rfl | rfl | rfl | rfl
    · rfl
    · rfl
    · rw [fmC_is_2, fmC_is_2, fmC_2, fmC_2, h 2 rfl]
    · rw [fmC_is_3, fmC_is_3, fmC_3, fmC_3, h 3 rfl]
    · rw [fmC_is_4, fmC_is_4, fmC_4, fmC_4, h 40 rfl, h 41 rfl, h 42 rfl, h 43 rfl, h 44 rfl, h 45 rfl, h 46 rfl]
    · rfl
    · rfl
    · rw [fmC_is_7, fmC_is_7, fmC_7, fmC_7, h 47 rfl, h 48 rfl]
    · rw [fmC_is_8, fmC_is_8, fmC_8, fmC_8, h 8 rfl]
    · rw [fmC_is_9, fmC_is_9, fmC_9, fmC_9, h 50 rfl, h 51 rfl, h 52 rfl, h 53 rfl, h 54 rfl, h 55 rfl, h 56 rfl, h 57 rfl, h 58 rfl, h 59 rfl, h 60 rfl]
    · rw [fmC_is_10, fmC_is_10, fmC_10, fmC_10, h 10 rfl]
    · rw [fmC_is_11, fmC_is_11, fmC_11, fmC_11, h 11 rfl]
    · rw [fmC_is_12, fmC_is_12, fmC_12, fmC_12, h 12 rfl]
    · rw [fmC_is_13, fmC_is_13, fmC_13, fmC_13, h 13 rfl]
    · rw [fmC_is_14, fmC_is_14, fmC_14, fmC_14, h 61 rfl, h 62 rfl, h 63 rfl]
    · rw [fmC_is_15, fmC_is_15, fmC_15, fmC_15, h 15 rfl]
    · rw [fmC_is_16, fmC_is_16, fmC_16, fmC_16, h 16 rfl]
    · rw [fmC_is_17, fmC_is_17, fmC_17, fmC_17, h 17 rfl]
    · rw [fmC_is_18, fmC_is_18, fmC_18, fmC_18, h 18 rfl]
    · rw [fmC_is_19, fmC_is_19, fmC_19, fmC_19, h 19 rfl]
    · rw [fmC_is_20, fmC_is_20, fmC_20, fmC_20, h 20 rfl]
    · rw [fmC_is_21, fmC_is_21, fmC_21, fmC_21, h 21 rfl]
    · rw [fmC_is_22, fmC_is_22, fmC_22, fmC_22, h 22 rfl]
    · rw [fmC_is_23, fmC_is_23, fmC_23, fmC_23, h 64 rfl, h 65 rfl, h 66 rfl]
    · rw [fmC_is_24, fmC_is_24, fmC_24, fmC_24, h 24 rfl]
    · rw [fmC_is_25, fmC_is_25, fmC_25, fmC_25, h 25 rfl]
    · rw [fmC_is_26, fmC_is_26, fmC_26, fmC_26, h 26 rfl]
    · rw [fmC_is_27, fmC_is_27, fmC_27, fmC_27, h 27 rfl]
    · rw [fmC_is_28, fmC_is_28, fmC_28, fmC_28, h 28 rfl]
    · rw [fmC_is_29, fmC_is_29, fmC_29, fmC_29, h 29 rfl]
    · rw [fmC_is_30, fmC_is_30, fmC_30, fmC_30, h 30 rfl]
    · rw [fmC_is_31, fmC_is_31, fmC_31, fmC_31, h 31 rfl]
    · rw [fmC_is_32, fmC_is_32, fmC_32, fmC_32, h 32 rfl]
    · rw [fmC_is_33, fmC_is_33, fmC_33, fmC_33, h 33 rfl]
    · rfl
    · rw [fmC_is_35, fmC_is_35, fmC_35, fmC_35, h 35 rfl]
  · have hk : ∀ τ : fmS, fmC G τ o (kd, m, k) = fmC_0 G τ o m k := fun τ => by
      rw [fmC]
      dsimp only
      rw [if_neg (show ¬ kd = 0 by omega), if_neg (show ¬ kd = 1 by omega), if_neg (show ¬ kd = 2 by omega), if_neg (show ¬ kd = 3 by omega), if_neg (show ¬ kd = 4 by omega), if_neg (show ¬ kd = 5 by omega), if_neg (show ¬ kd = 6 by omega), if_neg (show ¬ kd = 7 by omega), if_neg (show ¬ kd = 8 by omega), if_neg (show ¬ kd = 9 by omega), if_neg (show ¬ kd = 10 by omega), if_neg (show ¬ kd = 11 by omega), if_neg (show ¬ kd = 12 by omega), if_neg (show ¬ kd = 13 by omega), if_neg (show ¬ kd = 14 by omega), if_neg (show ¬ kd = 15 by omega), if_neg (show ¬ kd = 16 by omega), if_neg (show ¬ kd = 17 by omega), if_neg (show ¬ kd = 18 by omega), if_neg (show ¬ kd = 19 by omega), if_neg (show ¬ kd = 20 by omega), if_neg (show ¬ kd = 21 by omega), if_neg (show ¬ kd = 22 by omega), if_neg (show ¬ kd = 23 by omega), if_neg (show ¬ kd = 24 by omega), if_neg (show ¬ kd = 25 by omega), if_neg (show ¬ kd = 26 by omega), if_neg (show ¬ kd = 27 by omega), if_neg (show ¬ kd = 28 by omega), if_neg (show ¬ kd = 29 by omega), if_neg (show ¬ kd = 30 by omega), if_neg (show ¬ kd = 31 by omega), if_neg (show ¬ kd = 32 by omega), if_neg (show ¬ kd = 33 by omega), if_neg (show ¬ kd = 34 by omega), if_neg (show ¬ kd = 35 by omega)]
    rw [hk, hk]; rfl
/-- a change of one column leaves all cells but its owner's -/
theorem fmC_off {G : fmG} {σ : fmS} {o : Nat → Int64} {c m k : Nat} {f : Nat → Int32} (j : fmI) (h : j ≠ (fmO c, m, k)) : fmC G (fmu σ c m k f) o j = fmC G σ o j := by
  refine fmC_ext fun c' hc => fmu_ne _ _ _ _ _ ?_
  rintro ⟨h1, h2, h3⟩
  apply h
  obtain ⟨kd, m', k'⟩ := j
  dsimp only at hc h2 h3
  rw [← hc, h1, h2, h3]

theorem fmP_4_3 (G : fmG) (σ : fmS) (o : Nat → Int64) (m k : Nat) (x : Int32) : fmC G (fmu σ 40 m k (fun _ => x)) o (4, m, k) = .inr (1, ([.ref (G.1 1 0 0), .ref (G.1 5 m 0), .ref (G.1 6 m 0), .int (σ 40 m k 0), .int (σ 41 m k 0), .int (σ 42 m k 0), .int (σ 43 m k 0), .int (σ 44 m k 0), .int (σ 45 m k 0), .int (σ 46 m k 0)] : List Value).set 3 (.int x)) := by
  rw [fmC_is_4, fmC_4]; simp [fmu]
theorem fmP_4_4 (G : fmG) (σ : fmS) (o : Nat → Int64) (m k : Nat) (x : Int32) : fmC G (fmu σ 41 m k (fun _ => x)) o (4, m, k) = .inr (1, ([.ref (G.1 1 0 0), .ref (G.1 5 m 0), .ref (G.1 6 m 0), .int (σ 40 m k 0), .int (σ 41 m k 0), .int (σ 42 m k 0), .int (σ 43 m k 0), .int (σ 44 m k 0), .int (σ 45 m k 0), .int (σ 46 m k 0)] : List Value).set 4 (.int x)) := by
  rw [fmC_is_4, fmC_4]; simp [fmu]
theorem fmP_4_5 (G : fmG) (σ : fmS) (o : Nat → Int64) (m k : Nat) (x : Int32) : fmC G (fmu σ 42 m k (fun _ => x)) o (4, m, k) = .inr (1, ([.ref (G.1 1 0 0), .ref (G.1 5 m 0), .ref (G.1 6 m 0), .int (σ 40 m k 0), .int (σ 41 m k 0), .int (σ 42 m k 0), .int (σ 43 m k 0), .int (σ 44 m k 0), .int (σ 45 m k 0), .int (σ 46 m k 0)] : List Value).set 5 (.int x)) := by
  rw [fmC_is_4, fmC_4]; simp [fmu]
theorem fmP_4_6 (G : fmG) (σ : fmS) (o : Nat → Int64) (m k : Nat) (x : Int32) : fmC G (fmu σ 43 m k (fun _ => x)) o (4, m, k) = .inr (1, ([.ref (G.1 1 0 0), .ref (G.1 5 m 0), .ref (G.1 6 m 0), .int (σ 40 m k 0), .int (σ 41 m k 0), .int (σ 42 m k 0), .int (σ 43 m k 0), .int (σ 44 m k 0), .int (σ 45 m k 0), .int (σ 46 m k 0)] : List Value).set 6 (.int x)) := by
  rw [fmC_is_4, fmC_4]; simp [fmu]
theorem fmP_4_7 (G : fmG) (σ : fmS) (o : Nat → Int64) (m k : Nat) (x : Int32) : fmC G (fmu σ 44 m k (fun _ => x)) o (4, m, k) = .inr (1, ([.ref (G.1 1 0 0), .ref (G.1 5 m 0), .ref (G.1 6 m 0), .int (σ 40 m k 0), .int (σ 41 m k 0), .int (σ 42 m k 0), .int (σ 43 m k 0), .int (σ 44 m k 0), .int (σ 45 m k 0), .int (σ 46 m k 0)] : List Value).set 7 (.int x)) := by
  rw [fmC_is_4, fmC_4]; simp [fmu]
theorem fmP_4_8 (G : fmG) (σ : fmS) (o : Nat → Int64) (m k : Nat) (x : Int32) : fmC G (fmu σ 45 m k (fun _ => x)) o (4, m, k) = .inr (1, ([.ref (G.1 1 0 0), .ref (G.1 5 m 0), .ref (G.1 6 m 0), .int (σ 40 m k 0), .int (σ 41 m k 0), .int (σ 42 m k 0), .int (σ 43 m k 0), .int (σ 44 m k 0), .int (σ 45 m k 0), .int (σ 46 m k 0)] : List Value).set 8 (.int x)) := by
  rw [fmC_is_4, fmC_4]; simp [fmu]
theorem fmP_4_9 (G : fmG) (σ : fmS) (o : Nat → Int64) (m k : Nat) (x : Int32) : fmC G (fmu σ 46 m k (fun _ => x)) o (4, m, k) = .inr (1, ([.ref (G.1 1 0 0), .ref (G.1 5 m 0), .ref (G.1 6 m 0), .int (σ 40 m k 0), .int (σ 41 m k 0), .int (σ 42 m k 0), .int (σ 43 m k 0), .int (σ 44 m k 0), .int (σ 45 m k 0), .int (σ 46 m k 0)] : List Value).set 9 (.int x)) := by
  rw [fmC_is_4, fmC_4]; simp [fmu]
theorem fmP_7_1 (G : fmG) (σ : fmS) (o : Nat → Int64) (m k : Nat) (x : Int32) : fmC G (fmu σ 47 m k (fun _ => x)) o (7, m, k) = .inr (2, ([.ref (G.1 8 m k), .int (σ 47 m k 0), .int (σ 48 m k 0)] : List Value).set 1 (.int x)) := by
  rw [fmC_is_7, fmC_7]; simp [fmu]
theorem fmP_7_2 (G : fmG) (σ : fmS) (o : Nat → Int64) (m k : Nat) (x : Int32) : fmC G (fmu σ 48 m k (fun _ => x)) o (7, m, k) = .inr (2, ([.ref (G.1 8 m k), .int (σ 47 m k 0), .int (σ 48 m k 0)] : List Value).set 2 (.int x)) := by
  rw [fmC_is_7, fmC_7]; simp [fmu]
theorem fmP_9_5 (G : fmG) (σ : fmS) (o : Nat → Int64) (m k : Nat) (x : Int32) : fmC G (fmu σ 50 m k (fun _ => x)) o (9, m, k) = .inr (0, ([.int (nI k), .ref (G.1 10 m k), .ref (G.1 11 m k), .ref (G.1 12 m k), .ref (G.1 13 m k), .int (σ 50 m k 0), .int (σ 51 m k 0), .int (σ 52 m k 0), .int (σ 53 m k 0), .int (σ 54 m k 0), .int (σ 55 m k 0), .int (σ 56 m k 0), .int (σ 57 m k 0), .int (σ 58 m k 0), .int (σ 59 m k 0), .int (σ 60 m k 0)] : List Value).set 5 (.int x)) := by
  rw [fmC_is_9, fmC_9]; simp [fmu]
theorem fmP_9_6 (G : fmG) (σ : fmS) (o : Nat → Int64) (m k : Nat) (x : Int32) : fmC G (fmu σ 51 m k (fun _ => x)) o (9, m, k) = .inr (0, ([.int (nI k), .ref (G.1 10 m k), .ref (G.1 11 m k), .ref (G.1 12 m k), .ref (G.1 13 m k), .int (σ 50 m k 0), .int (σ 51 m k 0), .int (σ 52 m k 0), .int (σ 53 m k 0), .int (σ 54 m k 0), .int (σ 55 m k 0), .int (σ 56 m k 0), .int (σ 57 m k 0), .int (σ 58 m k 0), .int (σ 59 m k 0), .int (σ 60 m k 0)] : List Value).set 6 (.int x)) := by
  rw [fmC_is_9, fmC_9]; simp [fmu]
theorem fmP_9_7 (G : fmG) (σ : fmS) (o : Nat → Int64) (m k : Nat) (x : Int32) : fmC G (fmu σ 52 m k (fun _ => x)) o (9, m, k) = .inr (0, ([.int (nI k), .ref (G.1 10 m k), .ref (G.1 11 m k), .ref (G.1 12 m k), .ref (G.1 13 m k), .int (σ 50 m k 0), .int (σ 51 m k 0), .int (σ 52 m k 0), .int (σ 53 m k 0), .int (σ 54 m k 0), .int (σ 55 m k 0), .int (σ 56 m k 0), .int (σ 57 m k 0), .int (σ 58 m k 0), .int (σ 59 m k 0), .int (σ 60 m k 0)] : List Value).set 7 (.int x)) := by
  rw [fmC_is_9, fmC_9]; simp [fmu]
theorem fmP_9_8 (G : fmG) (σ : fmS) (o : Nat → Int64) (m k : Nat) (x : Int32) : fmC G (fmu σ 53 m k (fun _ => x)) o (9, m, k) = .inr (0, ([.int (nI k), .ref (G.1 10 m k), .ref (G.1 11 m k), .ref (G.1 12 m k), .ref (G.1 13 m k), .int (σ 50 m k 0), .int (σ 51 m k 0), .int (σ 52 m k 0), .int (σ 53 m k 0), .int (σ 54 m k 0), .int (σ 55 m k 0), .int (σ 56 m k 0), .int (σ 57 m k 0), .int (σ 58 m k 0), .int (σ 59 m k 0), .int (σ 60 m k 0)] : List Value).set 8 (.int x)) := by
  rw [fmC_is_9, fmC_9]; simp [fmu]
theorem fmP_9_9 (G : fmG) (σ : fmS) (o : Nat → Int64) (m k : Nat) (x : Int32) : fmC G (fmu σ 54 m k (fun _ => x)) o (9, m, k) = .inr (0, ([.int (nI k), .ref (G.1 10 m k), .ref (G.1 11 m k), .ref (G.1 12 m k), .ref (G.1 13 m k), .int (σ 50 m k 0), .int (σ 51 m k 0), .int (σ 52 m k 0), .int (σ 53 m k 0), .int (σ 54 m k 0), .int (σ 55 m k 0), .int (σ 56 m k 0), .int (σ 57 m k 0), .int (σ 58 m k 0), .int (σ 59 m k 0), .int (σ 60 m k 0)] : List Value).set 9 (.int x)) := by
  rw [fmC_is_9, fmC_9]; simp [fmu]
theorem fmP_9_10 (G : fmG) (σ : fmS) (o : Nat → Int64) (m k : Nat) (x : Int32) : fmC G (fmu σ 55 m k (fun _ => x)) o (9, m, k) = .inr (0, ([.int (nI k), .ref (G.1 10 m k), .ref (G.1 11 m k), .ref (G.1 12 m k), .ref (G.1 13 m k), .int (σ 50 m k 0), .int (σ 51 m k 0), .int (σ 52 m k 0), .int (σ 53 m k 0), .int (σ 54 m k 0), .int (σ 55 m k 0), .int (σ 56 m k 0), .int (σ 57 m k 0), .int (σ 58 m k 0), .int (σ 59 m k 0), .int (σ 60 m k 0)] : List Value).set 10 (.int x)) := by
  rw [fmC_is_9, fmC_9]; simp [fmu]
theorem fmP_9_11 (G : fmG) (σ : fmS) (o : Nat → Int64) (m k : Nat) (x : Int32) : fmC G (fmu σ 56 m k (fun _ => x)) o (9, m, k) = .inr (0, ([.int (nI k), .ref (G.1 10 m k), .ref (G.1 11 m k), .ref (G.1 12 m k), .ref (G.1 13 m k), .int (σ 50 m k 0), .int (σ 51 m k 0), .int (σ 52 m k 0), .int (σ 53 m k 0), .int (σ 54 m k 0), .int (σ 55 m k 0), .int (σ 56 m k 0), .int (σ 57 m k 0), .int (σ 58 m k 0), .int (σ 59 m k 0), .int (σ 60 m k 0)] : List Value).set 11 (.int x)) := by
  rw [fmC_is_9, fmC_9]; simp [fmu]
theorem fmP_9_12 (G : fmG) (σ : fmS) (o : Nat → Int64) (m k : Nat) (x : Int32) : fmC G (fmu σ 57 m k (fun _ => x)) o (9, m, k) = .inr (0, ([.int (nI k), .ref (G.1 10 m k), .ref (G.1 11 m k), .ref (G.1 12 m k), .ref (G.1 13 m k), .int (σ 50 m k 0), .int (σ 51 m k 0), .int (σ 52 m k 0), .int (σ 53 m k 0), .int (σ 54 m k 0), .int (σ 55 m k 0), .int (σ 56 m k 0), .int (σ 57 m k 0), .int (σ 58 m k 0), .int (σ 59 m k 0), .int (σ 60 m k 0)] : List Value).set 12 (.int x)) := by
  rw [fmC_is_9, fmC_9]; simp [fmu]
theorem fmP_9_13 (G : fmG) (σ : fmS) (o : Nat → Int64) (m k : Nat) (x : Int32) : fmC G (fmu σ 58 m k (fun _ => x)) o (9, m, k) = .inr (0, ([.int (nI k), .ref (G.1 10 m k), .ref (G.1 11 m k), .ref (G.1 12 m k), .ref (G.1 13 m k), .int (σ 50 m k 0), .int (σ 51 m k 0), .int (σ 52 m k 0), .int (σ 53 m k 0), .int (σ 54 m k 0), .int (σ 55 m k 0), .int (σ 56 m k 0), .int (σ 57 m k 0), .int (σ 58 m k 0), .int (σ 59 m k 0), .int (σ 60 m k 0)] : List Value).set 13 (.int x)) := by
  rw [fmC_is_9, fmC_9]; simp [fmu]
theorem fmP_9_14 (G : fmG) (σ : fmS) (o : Nat → Int64) (m k : Nat) (x : Int32) : fmC G (fmu σ 59 m k (fun _ => x)) o (9, m, k) = .inr (0, ([.int (nI k), .ref (G.1 10 m k), .ref (G.1 11 m k), .ref (G.1 12 m k), .ref (G.1 13 m k), .int (σ 50 m k 0), .int (σ 51 m k 0), .int (σ 52 m k 0), .int (σ 53 m k 0), .int (σ 54 m k 0), .int (σ 55 m k 0), .int (σ 56 m k 0), .int (σ 57 m k 0), .int (σ 58 m k 0), .int (σ 59 m k 0), .int (σ 60 m k 0)] : List Value).set 14 (.int x)) := by
  rw [fmC_is_9, fmC_9]; simp [fmu]
theorem fmP_9_15 (G : fmG) (σ : fmS) (o : Nat → Int64) (m k : Nat) (x : Int32) : fmC G (fmu σ 60 m k (fun _ => x)) o (9, m, k) = .inr (0, ([.int (nI k), .ref (G.1 10 m k), .ref (G.1 11 m k), .ref (G.1 12 m k), .ref (G.1 13 m k), .int (σ 50 m k 0), .int (σ 51 m k 0), .int (σ 52 m k 0), .int (σ 53 m k 0), .int (σ 54 m k 0), .int (σ 55 m k 0), .int (σ 56 m k 0), .int (σ 57 m k 0), .int (σ 58 m k 0), .int (σ 59 m k 0), .int (σ 60 m k 0)] : List Value).set 15 (.int x)) := by
  rw [fmC_is_9, fmC_9]; simp [fmu]
theorem fmP_14_0 (G : fmG) (σ : fmS) (o : Nat → Int64) (m k : Nat) (x : Int32) : fmC G (fmu σ 61 m k (fun _ => x)) o (14, m, k) = .inr (6, ([.int (σ 61 m k 0), .int (σ 62 m k 0), .ref (G.1 15 0 0), .ref (G.1 16 0 0), .ref (G.1 17 0 0), .int (σ 63 m k 0), .ref (G.1 18 0 0), .ref (G.1 19 0 0), .ref (G.1 20 0 0), .ref (G.1 21 0 0), .ref (G.1 23 0 0), .ref (G.1 23 1 0), .ref (G.1 22 0 0)] : List Value).set 0 (.int x)) := by
  rw [fmC_is_14, fmC_14]; simp [fmu]
theorem fmP_14_1 (G : fmG) (σ : fmS) (o : Nat → Int64) (m k : Nat) (x : Int32) : fmC G (fmu σ 62 m k (fun _ => x)) o (14, m, k) = .inr (6, ([.int (σ 61 m k 0), .int (σ 62 m k 0), .ref (G.1 15 0 0), .ref (G.1 16 0 0), .ref (G.1 17 0 0), .int (σ 63 m k 0), .ref (G.1 18 0 0), .ref (G.1 19 0 0), .ref (G.1 20 0 0), .ref (G.1 21 0 0), .ref (G.1 23 0 0), .ref (G.1 23 1 0), .ref (G.1 22 0 0)] : List Value).set 1 (.int x)) := by
  rw [fmC_is_14, fmC_14]; simp [fmu]
theorem fmP_14_5 (G : fmG) (σ : fmS) (o : Nat → Int64) (m k : Nat) (x : Int32) : fmC G (fmu σ 63 m k (fun _ => x)) o (14, m, k) = .inr (6, ([.int (σ 61 m k 0), .int (σ 62 m k 0), .ref (G.1 15 0 0), .ref (G.1 16 0 0), .ref (G.1 17 0 0), .int (σ 63 m k 0), .ref (G.1 18 0 0), .ref (G.1 19 0 0), .ref (G.1 20 0 0), .ref (G.1 21 0 0), .ref (G.1 23 0 0), .ref (G.1 23 1 0), .ref (G.1 22 0 0)] : List Value).set 5 (.int x)) := by
  rw [fmC_is_14, fmC_14]; simp [fmu]
theorem fmP_23_0 (G : fmG) (σ : fmS) (o : Nat → Int64) (m k : Nat) (x : Int32) : fmC G (fmu σ 64 m k (fun _ => x)) o (23, m, k) = .inr (5, ([.int (σ 64 m k 0), .int (σ 65 m k 0), .int (σ 66 m k 0), .ref (G.1 24 m 0), .ref (G.1 25 m 0), .ref (G.1 26 m 0), .ref (G.1 27 m 0), .ref (G.1 28 m 0), .ref (G.1 29 m 0), .ref (G.1 30 m 0), .ref (G.1 31 m 0), .ref (G.1 32 m 0), .ref (G.1 33 m 0), .ref (G.1 14 0 0)] : List Value).set 0 (.int x)) := by
  rw [fmC_is_23, fmC_23]; simp [fmu]
theorem fmP_23_1 (G : fmG) (σ : fmS) (o : Nat → Int64) (m k : Nat) (x : Int32) : fmC G (fmu σ 65 m k (fun _ => x)) o (23, m, k) = .inr (5, ([.int (σ 64 m k 0), .int (σ 65 m k 0), .int (σ 66 m k 0), .ref (G.1 24 m 0), .ref (G.1 25 m 0), .ref (G.1 26 m 0), .ref (G.1 27 m 0), .ref (G.1 28 m 0), .ref (G.1 29 m 0), .ref (G.1 30 m 0), .ref (G.1 31 m 0), .ref (G.1 32 m 0), .ref (G.1 33 m 0), .ref (G.1 14 0 0)] : List Value).set 1 (.int x)) := by
  rw [fmC_is_23, fmC_23]; simp [fmu]
theorem fmP_23_2 (G : fmG) (σ : fmS) (o : Nat → Int64) (m k : Nat) (x : Int32) : fmC G (fmu σ 66 m k (fun _ => x)) o (23, m, k) = .inr (5, ([.int (σ 64 m k 0), .int (σ 65 m k 0), .int (σ 66 m k 0), .ref (G.1 24 m 0), .ref (G.1 25 m 0), .ref (G.1 26 m 0), .ref (G.1 27 m 0), .ref (G.1 28 m 0), .ref (G.1 29 m 0), .ref (G.1 30 m 0), .ref (G.1 31 m 0), .ref (G.1 32 m 0), .ref (G.1 33 m 0), .ref (G.1 14 0 0)] : List Value).set 2 (.int x)) := by
  rw [fmC_is_23, fmC_23]; simp [fmu]

/-! LOCALS: a list of (place, value), newest first -/
def fml : List (Nat × Value) → Nat → Option Value
  | [], _ => none
  | q :: t, i => if q.1 = i then some q.2 else fml t i
theorem fml_mem : ∀ {lv : List (Nat × Value)} {i : Nat} {v : Value}, fml lv i = some v → (i, v) ∈ lv
  | [], _, _, h => by cases h
  | q :: t, i, v, h => by
    unfold fml at h
    by_cases e : q.1 = i
    · rw [if_pos e] at h
      cases h
      subst e
      exact List.mem_cons_self
    · rw [if_neg e] at h
      exact List.mem_cons_of_mem _ (fml_mem h)
theorem fml_at {ls : Array Slot} {nL : Nat} {lv : List (Nat × Value)} {i : Nat} {v : Value} (h : lv_has ls nL lv) (hk : fml lv i = some v) : ls[i]? = some (.val v) := h.2.2 _ (fml_mem hk)
def fmst1 (lv : List (Nat × Value)) (i : Nat) (v : Value) : List (Nat × Value) := (i, v) :: lv.filter (fun q => !(q.1 == i) && !(q.1 + 1 == i && q.2.category == 2))
def fmst2 (lv : List (Nat × Value)) (i : Nat) (v : Value) : List (Nat × Value) := (i, v) :: lv.filter (fun q => !(q.1 == i) && (!(q.1 == i + 1) && !(q.1 + 1 == i && q.2.category == 2)))
/-- what the list lv' says, lv says -/
def fmle (lv : List (Nat × Value)) : List (Nat × Value) → Prop
  | [] => True
  | q :: t => fml lv q.1 = some q.2 ∧ fmle lv t
theorem fmle_has {ls : Array Slot} {nL : Nat} {lv : List (Nat × Value)} (h : lv_has ls nL lv) : ∀ {lv' : List (Nat × Value)}, fmle lv lv' → lv_has ls nL lv'
  | [], _ => ⟨h.1, h.2.1, fun q hq => by cases hq⟩
  | q :: t, h' => ⟨h.1, h.2.1, fun r hr => by
      rcases List.mem_cons.mp hr with rfl | hr
      · exact fml_at h h'.1
      · exact (fmle_has h h'.2).2.2 r hr⟩

/-! THE JUDGEMENT: from the frame at pc with the locals lv and the stack st, with the world at (σ, o), the machine comes to Q -/
def fmV (p : Program) (l : Launch) (e : Env) (R : Room) (s : State) (m : MethodId) (args : Array Value) (below : List Frame) (meth : Method) (c : Code) (D : va_G) (A : Nat → Prop) (G : fmG) (nL : Nat) (o : Nat → Int64) (Q : State → Prop) (σ : fmS) (cells slots : Nat) (lv : List (Nat × Value)) (st : List Value) (pc : Nat) : Prop :=
  ∀ (H : Heap) (locs : List Loc) (ls : Array Slot), va_P D vwCl (fmW G σ o) H → va_S A s.heap H locs → lv_has ls nL lv → W p l e R s m args below meth c H locs cells slots Q (F0 m pc ls st)
/-- what stands fast in a method -/
def fmF (p : Program) (s : State) (m : MethodId) (args : Array Value) (meth : Method) (c : Code) (D : va_G) (A : Nat → Prop) (G : fmG) (own : String) (cc : ByteArray) (nL : Nat) (ret : Option FieldType) (Ts : List Cond) : Prop :=
  p.tables.exec = Jvm.exec ∧ c.code = cc ∧ c.maxLocals = nL ∧ meth.sig.returnType = ret ∧ s.vm.findClass own = some m.cls ∧ (∀ w ∈ Ts, w.before args s = true) ∧ va_K D vwCl (fmT G) s ∧ (∀ σ o, va_D A (fmW G σ o)) ∧ (∀ q, s.heap.size ≤ q → A q) ∧ meth.locks = false
section FMV
variable {p : Program} {l : Launch} {e : Env} {R : Room} {s : State} {m : MethodId} {args : Array Value} {below : List Frame} {meth : Method} {c : Code} {D : va_G} {A : Nat → Prop} {G : fmG} {nL : Nat} {o : Nat → Int64} {Q : State → Prop} {σ : fmS} {cells slots : Nat} {lv : List (Nat × Value)} {st rest : List Value} {pc : Nat} {own : String} {cc : ByteArray} {ret : Option FieldType} {Ts : List Cond}
theorem fmV_lv {lv' : List (Nat × Value)} (h : fmle lv lv') (k : fmV p l e R s m args below meth c D A G nL o Q σ cells slots lv' st pc) : fmV p l e R s m args below meth c D A G nL o Q σ cells slots lv st pc :=
  fun H locs ls hP hS hl => k H locs ls hP hS (fmle_has hl h)
theorem fmV_widen {k n : Nat} (h1 : cells ≤ k) (h2 : slots ≤ n) (kk : fmV p l e R s m args below meth c D A G nL o Q σ k n lv st pc) : fmV p l e R s m args below meth c D A G nL o Q σ cells slots lv st pc :=
  fun H locs ls hP hS hl => W.widen h1 h2 (kk H locs ls hP hS hl)
theorem fmV_iconst (F : fmF p s m args meth c D A G own cc nL ret Ts) {n : Int} {v : Int32} (hdg : decode cc pc = .ok (.iconst n, 1)) (hv : Int32.ofInt n = v) (k : fmV p l e R s m args below meth c D A G nL o Q σ cells slots lv (.int v :: rest) (pc + 1)) : fmV p l e R s m args below meth c D A G nL o Q σ cells slots lv rest pc := by
  obtain ⟨hx, hb, hml, hr, hown, hts, hK, hD, hA, hlk⟩ := F
  exact fun H locs ls hP hS hl => lv_iconst hx hb hdg hv (k H locs ls hP hS hl)
theorem fmV_bipush (F : fmF p s m args meth c D A G own cc nL ret Ts) {n : Int} {v : Int32} (hdg : decode cc pc = .ok (.bipush n, 2)) (hv : (Int8.ofInt n).toInt32 = v) (k : fmV p l e R s m args below meth c D A G nL o Q σ cells slots lv (.int v :: rest) (pc + 2)) : fmV p l e R s m args below meth c D A G nL o Q σ cells slots lv rest pc := by
  obtain ⟨hx, hb, hml, hr, hown, hts, hK, hD, hA, hlk⟩ := F
  exact fun H locs ls hP hS hl => lv_bipush hx hb hdg hv (k H locs ls hP hS hl)
theorem fmV_sipush (F : fmF p s m args meth c D A G own cc nL ret Ts) {n : Int} {v : Int32} (hdg : decode cc pc = .ok (.sipush n, 3)) (hv : (Int16.ofInt n).toInt32 = v) (k : fmV p l e R s m args below meth c D A G nL o Q σ cells slots lv (.int v :: rest) (pc + 3)) : fmV p l e R s m args below meth c D A G nL o Q σ cells slots lv rest pc := by
  obtain ⟨hx, hb, hml, hr, hown, hts, hK, hD, hA, hlk⟩ := F
  exact fun H locs ls hP hS hl => lv_sipush hx hb hdg hv (k H locs ls hP hS hl)
theorem fmV_lconst (F : fmF p s m args meth c D A G own cc nL ret Ts) {n : Fin 2} {v : Int64} (hdg : decode cc pc = .ok (.lconst n, 1)) (hv : Int64.ofNat (n : Nat) = v) (k : fmV p l e R s m args below meth c D A G nL o Q σ cells slots lv (.long v :: rest) (pc + 1)) : fmV p l e R s m args below meth c D A G nL o Q σ cells slots lv rest pc := by
  obtain ⟨hx, hb, hml, hr, hown, hts, hK, hD, hA, hlk⟩ := F
  exact fun H locs ls hP hS hl => lv_lconst hx hb hdg hv (k H locs ls hP hS hl)
theorem fmV_iload_n (F : fmF p s m args meth c D A G own cc nL ret Ts) {kk : Fin 4} {i : Nat} {x : Int32} (hdg : decode cc pc = .ok (.iload_n kk, 1)) (hi : (kk : Nat) = i) (hv : fml lv i = some (.int x)) (k : fmV p l e R s m args below meth c D A G nL o Q σ cells slots lv (.int x :: rest) (pc + 1)) : fmV p l e R s m args below meth c D A G nL o Q σ cells slots lv rest pc := by
  obtain ⟨hx, hb, hml, hr, hown, hts, hK, hD, hA, hlk⟩ := F
  exact fun H locs ls hP hS hl => lv_iload_n hx hb hdg hi (fml_at hl hv) (k H locs ls hP hS hl)
theorem fmV_iload (F : fmF p s m args meth c D A G own cc nL ret Ts) {i : Nat} {x : Int32} (hdg : decode cc pc = .ok (.iload i, 2)) (hv : fml lv i = some (.int x)) (k : fmV p l e R s m args below meth c D A G nL o Q σ cells slots lv (.int x :: rest) (pc + 2)) : fmV p l e R s m args below meth c D A G nL o Q σ cells slots lv rest pc := by
  obtain ⟨hx, hb, hml, hr, hown, hts, hK, hD, hA, hlk⟩ := F
  exact fun H locs ls hP hS hl => lv_iload hx hb hdg (fml_at hl hv) (k H locs ls hP hS hl)
theorem fmV_lload_n (F : fmF p s m args meth c D A G own cc nL ret Ts) {kk : Fin 4} {i : Nat} {x : Int64} (hdg : decode cc pc = .ok (.lload_n kk, 1)) (hi : (kk : Nat) = i) (hv : fml lv i = some (.long x)) (k : fmV p l e R s m args below meth c D A G nL o Q σ cells slots lv (.long x :: rest) (pc + 1)) : fmV p l e R s m args below meth c D A G nL o Q σ cells slots lv rest pc := by
  obtain ⟨hx, hb, hml, hr, hown, hts, hK, hD, hA, hlk⟩ := F
  exact fun H locs ls hP hS hl => lv_lload_n hx hb hdg hi (fml_at hl hv) (k H locs ls hP hS hl)
theorem fmV_lload (F : fmF p s m args meth c D A G own cc nL ret Ts) {i : Nat} {x : Int64} (hdg : decode cc pc = .ok (.lload i, 2)) (hv : fml lv i = some (.long x)) (k : fmV p l e R s m args below meth c D A G nL o Q σ cells slots lv (.long x :: rest) (pc + 2)) : fmV p l e R s m args below meth c D A G nL o Q σ cells slots lv rest pc := by
  obtain ⟨hx, hb, hml, hr, hown, hts, hK, hD, hA, hlk⟩ := F
  exact fun H locs ls hP hS hl => lv_lload hx hb hdg (fml_at hl hv) (k H locs ls hP hS hl)
theorem fmV_aload_n (F : fmF p s m args meth c D A G own cc nL ret Ts) {kk : Fin 4} {i : Nat} {x : Nat} (hdg : decode cc pc = .ok (.aload_n kk, 1)) (hi : (kk : Nat) = i) (hv : fml lv i = some (.ref x)) (k : fmV p l e R s m args below meth c D A G nL o Q σ cells slots lv (.ref x :: rest) (pc + 1)) : fmV p l e R s m args below meth c D A G nL o Q σ cells slots lv rest pc := by
  obtain ⟨hx, hb, hml, hr, hown, hts, hK, hD, hA, hlk⟩ := F
  exact fun H locs ls hP hS hl => lv_aload_n hx hb hdg hi (fml_at hl hv) (k H locs ls hP hS hl)
theorem fmV_aload (F : fmF p s m args meth c D A G own cc nL ret Ts) {i : Nat} {x : Nat} (hdg : decode cc pc = .ok (.aload i, 2)) (hv : fml lv i = some (.ref x)) (k : fmV p l e R s m args below meth c D A G nL o Q σ cells slots lv (.ref x :: rest) (pc + 2)) : fmV p l e R s m args below meth c D A G nL o Q σ cells slots lv rest pc := by
  obtain ⟨hx, hb, hml, hr, hown, hts, hK, hD, hA, hlk⟩ := F
  exact fun H locs ls hP hS hl => lv_aload hx hb hdg (fml_at hl hv) (k H locs ls hP hS hl)
theorem fmV_dload (F : fmF p s m args meth c D A G own cc nL ret Ts) {i : Nat} {x : UInt64} (hdg : decode cc pc = .ok (.dload i, 2)) (hv : fml lv i = some (.double x)) (k : fmV p l e R s m args below meth c D A G nL o Q σ cells slots lv (.double x :: rest) (pc + 2)) : fmV p l e R s m args below meth c D A G nL o Q σ cells slots lv rest pc := by
  obtain ⟨hx, hb, hml, hr, hown, hts, hK, hD, hA, hlk⟩ := F
  exact fun H locs ls hP hS hl => lv_dload hx hb hdg (fml_at hl hv) (k H locs ls hP hS hl)
theorem fmV_aload_nN (F : fmF p s m args meth c D A G own cc nL ret Ts) {kk : Fin 4} {i : Nat} (hdg : decode cc pc = .ok (.aload_n kk, 1)) (hi : (kk : Nat) = i) (hv : fml lv i = some .null) (k : fmV p l e R s m args below meth c D A G nL o Q σ cells slots lv (.null :: rest) (pc + 1)) : fmV p l e R s m args below meth c D A G nL o Q σ cells slots lv rest pc := by
  obtain ⟨hx, hb, hml, hr, hown, hts, hK, hD, hA, hlk⟩ := F
  exact fun H locs ls hP hS hl => lv_aload_nN hx hb hdg hi (fml_at hl hv) (k H locs ls hP hS hl)
theorem fmV_aloadN (F : fmF p s m args meth c D A G own cc nL ret Ts) {i : Nat} (hdg : decode cc pc = .ok (.aload i, 2)) (hv : fml lv i = some .null) (k : fmV p l e R s m args below meth c D A G nL o Q σ cells slots lv (.null :: rest) (pc + 2)) : fmV p l e R s m args below meth c D A G nL o Q σ cells slots lv rest pc := by
  obtain ⟨hx, hb, hml, hr, hown, hts, hK, hD, hA, hlk⟩ := F
  exact fun H locs ls hP hS hl => lv_aloadN hx hb hdg (fml_at hl hv) (k H locs ls hP hS hl)
theorem fmV_istore_n (F : fmF p s m args meth c D A G own cc nL ret Ts) {kk : Fin 4} {i : Nat} {x : Int32} (hdg : decode cc pc = .ok (.istore_n kk, 1)) (hi : (kk : Nat) = i) (hn : i < nL) (k : fmV p l e R s m args below meth c D A G nL o Q σ cells slots (fmst1 lv i (.int x)) rest (pc + 1)) : fmV p l e R s m args below meth c D A G nL o Q σ cells slots lv (.int x :: rest) pc := by
  obtain ⟨hx, hb, hml, hr, hown, hts, hK, hD, hA, hlk⟩ := F
  exact fun H locs ls hP hS hl => lv_istore_n hx hb hdg hi hl hn rfl (fun ls hl => k H locs ls hP hS hl)
theorem fmV_istore (F : fmF p s m args meth c D A G own cc nL ret Ts)  {i : Nat} {x : Int32} (hdg : decode cc pc = .ok (.istore i, 2))  (hn : i < nL) (k : fmV p l e R s m args below meth c D A G nL o Q σ cells slots (fmst1 lv i (.int x)) rest (pc + 2)) : fmV p l e R s m args below meth c D A G nL o Q σ cells slots lv (.int x :: rest) pc := by
  obtain ⟨hx, hb, hml, hr, hown, hts, hK, hD, hA, hlk⟩ := F
  exact fun H locs ls hP hS hl => lv_istore hx hb hdg  hl hn rfl (fun ls hl => k H locs ls hP hS hl)
theorem fmV_lstore_n (F : fmF p s m args meth c D A G own cc nL ret Ts) {kk : Fin 4} {i : Nat} {x : Int64} (hdg : decode cc pc = .ok (.lstore_n kk, 1)) (hi : (kk : Nat) = i) (hn : i + 1 < nL) (k : fmV p l e R s m args below meth c D A G nL o Q σ cells slots (fmst2 lv i (.long x)) rest (pc + 1)) : fmV p l e R s m args below meth c D A G nL o Q σ cells slots lv (.long x :: rest) pc := by
  obtain ⟨hx, hb, hml, hr, hown, hts, hK, hD, hA, hlk⟩ := F
  exact fun H locs ls hP hS hl => lv_lstore_n hx hb hdg hi hl hn rfl (fun ls hl => k H locs ls hP hS hl)
theorem fmV_lstore (F : fmF p s m args meth c D A G own cc nL ret Ts)  {i : Nat} {x : Int64} (hdg : decode cc pc = .ok (.lstore i, 2))  (hn : i + 1 < nL) (k : fmV p l e R s m args below meth c D A G nL o Q σ cells slots (fmst2 lv i (.long x)) rest (pc + 2)) : fmV p l e R s m args below meth c D A G nL o Q σ cells slots lv (.long x :: rest) pc := by
  obtain ⟨hx, hb, hml, hr, hown, hts, hK, hD, hA, hlk⟩ := F
  exact fun H locs ls hP hS hl => lv_lstore hx hb hdg  hl hn rfl (fun ls hl => k H locs ls hP hS hl)
theorem fmV_astore_n (F : fmF p s m args meth c D A G own cc nL ret Ts) {kk : Fin 4} {i : Nat} {x : Nat} (hdg : decode cc pc = .ok (.astore_n kk, 1)) (hi : (kk : Nat) = i) (hn : i < nL) (k : fmV p l e R s m args below meth c D A G nL o Q σ cells slots (fmst1 lv i (.ref x)) rest (pc + 1)) : fmV p l e R s m args below meth c D A G nL o Q σ cells slots lv (.ref x :: rest) pc := by
  obtain ⟨hx, hb, hml, hr, hown, hts, hK, hD, hA, hlk⟩ := F
  exact fun H locs ls hP hS hl => lv_astore_n hx hb hdg hi hl hn rfl (fun ls hl => k H locs ls hP hS hl)
theorem fmV_astore (F : fmF p s m args meth c D A G own cc nL ret Ts)  {i : Nat} {x : Nat} (hdg : decode cc pc = .ok (.astore i, 2))  (hn : i < nL) (k : fmV p l e R s m args below meth c D A G nL o Q σ cells slots (fmst1 lv i (.ref x)) rest (pc + 2)) : fmV p l e R s m args below meth c D A G nL o Q σ cells slots lv (.ref x :: rest) pc := by
  obtain ⟨hx, hb, hml, hr, hown, hts, hK, hD, hA, hlk⟩ := F
  exact fun H locs ls hP hS hl => lv_astore hx hb hdg  hl hn rfl (fun ls hl => k H locs ls hP hS hl)
theorem fmV_dstore (F : fmF p s m args meth c D A G own cc nL ret Ts)  {i : Nat} {x : UInt64} (hdg : decode cc pc = .ok (.dstore i, 2))  (hn : i + 1 < nL) (k : fmV p l e R s m args below meth c D A G nL o Q σ cells slots (fmst2 lv i (.double x)) rest (pc + 2)) : fmV p l e R s m args below meth c D A G nL o Q σ cells slots lv (.double x :: rest) pc := by
  obtain ⟨hx, hb, hml, hr, hown, hts, hK, hD, hA, hlk⟩ := F
  exact fun H locs ls hP hS hl => lv_dstore hx hb hdg  hl hn rfl (fun ls hl => k H locs ls hP hS hl)
theorem fmV_astore_nN (F : fmF p s m args meth c D A G own cc nL ret Ts) {kk : Fin 4} {i : Nat}  (hdg : decode cc pc = .ok (.astore_n kk, 1)) (hi : (kk : Nat) = i) (hn : i < nL) (k : fmV p l e R s m args below meth c D A G nL o Q σ cells slots (fmst1 lv i .null) rest (pc + 1)) : fmV p l e R s m args below meth c D A G nL o Q σ cells slots lv (.null :: rest) pc := by
  obtain ⟨hx, hb, hml, hr, hown, hts, hK, hD, hA, hlk⟩ := F
  exact fun H locs ls hP hS hl => lv_astore_nN hx hb hdg hi hl hn rfl (fun ls hl => k H locs ls hP hS hl)
theorem fmV_astoreN (F : fmF p s m args meth c D A G own cc nL ret Ts)  {i : Nat}  (hdg : decode cc pc = .ok (.astore i, 2))  (hn : i < nL) (k : fmV p l e R s m args below meth c D A G nL o Q σ cells slots (fmst1 lv i .null) rest (pc + 2)) : fmV p l e R s m args below meth c D A G nL o Q σ cells slots lv (.null :: rest) pc := by
  obtain ⟨hx, hb, hml, hr, hown, hts, hK, hD, hA, hlk⟩ := F
  exact fun H locs ls hP hS hl => lv_astoreN hx hb hdg  hl hn rfl (fun ls hl => k H locs ls hP hS hl)
theorem fmV_iinc (F : fmF p s m args meth c D A G own cc nL ret Ts) {i : Nat} {n : Int} {x v : Int32} (hdg : decode cc pc = .ok (.iinc i n, 3)) (hv : fml lv i = some (.int x)) (hw : x + Int32.ofInt n = v) (hn : i < nL) (k : fmV p l e R s m args below meth c D A G nL o Q σ cells slots (fmst1 lv i (.int v)) rest (pc + 3)) : fmV p l e R s m args below meth c D A G nL o Q σ cells slots lv rest pc := by
  obtain ⟨hx, hb, hml, hr, hown, hts, hK, hD, hA, hlk⟩ := F
  intro H locs ls hP hS hl
  have hl2 : lv_has ls nL ((i, .int x) :: lv) := ⟨hl.1, hl.2.1, fun q hq => by
    rcases List.mem_cons.mp hq with rfl | hq
    · exact fml_at hl hv
    · exact hl.2.2 q hq⟩
  refine lv_iinc (k := 0) hx hb hdg hl2 rfl hw hn rfl (fun ls hl => k H locs ls hP hS ⟨hl.1, hl.2.1, fun q hq => ?_⟩)
  refine hl.2.2 q ?_
  rcases List.mem_cons.mp hq with rfl | hq
  · exact List.mem_cons_self
  · refine List.mem_cons_of_mem _ ?_
    obtain ⟨h1, h2⟩ := List.mem_filter.mp hq
    exact List.mem_filter.mpr ⟨List.mem_cons_of_mem _ h1, h2⟩
theorem fmV_iadd (F : fmF p s m args meth c D A G own cc nL ret Ts) {x y : Int32} (hdg : decode cc pc = .ok (.iadd, 1))  (k : fmV p l e R s m args below meth c D A G nL o Q σ cells slots lv (.int (x + y) :: rest) (pc + 1)) : fmV p l e R s m args below meth c D A G nL o Q σ cells slots lv (.int y :: .int x :: rest) pc := by
  obtain ⟨hx, hb, hml, hr, hown, hts, hK, hD, hA, hlk⟩ := F
  exact fun H locs ls hP hS hl => lv_iadd hx hb hdg  (k H locs ls hP hS hl)
theorem fmV_isub (F : fmF p s m args meth c D A G own cc nL ret Ts) {x y : Int32} (hdg : decode cc pc = .ok (.isub, 1))  (k : fmV p l e R s m args below meth c D A G nL o Q σ cells slots lv (.int (x - y) :: rest) (pc + 1)) : fmV p l e R s m args below meth c D A G nL o Q σ cells slots lv (.int y :: .int x :: rest) pc := by
  obtain ⟨hx, hb, hml, hr, hown, hts, hK, hD, hA, hlk⟩ := F
  exact fun H locs ls hP hS hl => lv_isub hx hb hdg  (k H locs ls hP hS hl)
theorem fmV_imul (F : fmF p s m args meth c D A G own cc nL ret Ts) {x y : Int32} (hdg : decode cc pc = .ok (.imul, 1))  (k : fmV p l e R s m args below meth c D A G nL o Q σ cells slots lv (.int (x * y) :: rest) (pc + 1)) : fmV p l e R s m args below meth c D A G nL o Q σ cells slots lv (.int y :: .int x :: rest) pc := by
  obtain ⟨hx, hb, hml, hr, hown, hts, hK, hD, hA, hlk⟩ := F
  exact fun H locs ls hP hS hl => lv_imul hx hb hdg  (k H locs ls hP hS hl)
theorem fmV_ixor (F : fmF p s m args meth c D A G own cc nL ret Ts) {x y : Int32} (hdg : decode cc pc = .ok (.ixor, 1))  (k : fmV p l e R s m args below meth c D A G nL o Q σ cells slots lv (.int (x ^^^ y) :: rest) (pc + 1)) : fmV p l e R s m args below meth c D A G nL o Q σ cells slots lv (.int y :: .int x :: rest) pc := by
  obtain ⟨hx, hb, hml, hr, hown, hts, hK, hD, hA, hlk⟩ := F
  exact fun H locs ls hP hS hl => lv_ixor hx hb hdg  (k H locs ls hP hS hl)
theorem fmV_iand (F : fmF p s m args meth c D A G own cc nL ret Ts) {x y : Int32} (hdg : decode cc pc = .ok (.iand, 1))  (k : fmV p l e R s m args below meth c D A G nL o Q σ cells slots lv (.int (x &&& y) :: rest) (pc + 1)) : fmV p l e R s m args below meth c D A G nL o Q σ cells slots lv (.int y :: .int x :: rest) pc := by
  obtain ⟨hx, hb, hml, hr, hown, hts, hK, hD, hA, hlk⟩ := F
  exact fun H locs ls hP hS hl => lv_iand hx hb hdg  (k H locs ls hP hS hl)
theorem fmV_irem (F : fmF p s m args meth c D A G own cc nL ret Ts) {x y : Int32} (hdg : decode cc pc = .ok (.irem, 1)) (hne : ¬ y = 0) (k : fmV p l e R s m args below meth c D A G nL o Q σ cells slots lv (.int (x - x / y * y) :: rest) (pc + 1)) : fmV p l e R s m args below meth c D A G nL o Q σ cells slots lv (.int y :: .int x :: rest) pc := by
  obtain ⟨hx, hb, hml, hr, hown, hts, hK, hD, hA, hlk⟩ := F
  exact fun H locs ls hP hS hl => lv_irem hx hb hdg hne (k H locs ls hP hS hl)
theorem fmV_idiv (F : fmF p s m args meth c D A G own cc nL ret Ts) {x y : Int32} (hdg : decode cc pc = .ok (.idiv, 1)) (hne : ¬ y = 0) (k : fmV p l e R s m args below meth c D A G nL o Q σ cells slots lv (.int (x / y) :: rest) (pc + 1)) : fmV p l e R s m args below meth c D A G nL o Q σ cells slots lv (.int y :: .int x :: rest) pc := by
  obtain ⟨hx, hb, hml, hr, hown, hts, hK, hD, hA, hlk⟩ := F
  exact fun H locs ls hP hS hl => lv_idiv hx hb hdg hne (k H locs ls hP hS hl)
theorem fmV_ineg (F : fmF p s m args meth c D A G own cc nL ret Ts) {x : Int32} (hdg : decode cc pc = .ok (.ineg, 1))  (k : fmV p l e R s m args below meth c D A G nL o Q σ cells slots lv (.int (-x) :: rest) (pc + 1)) : fmV p l e R s m args below meth c D A G nL o Q σ cells slots lv (.int x :: rest) pc := by
  obtain ⟨hx, hb, hml, hr, hown, hts, hK, hD, hA, hlk⟩ := F
  exact fun H locs ls hP hS hl => lv_ineg hx hb hdg  (k H locs ls hP hS hl)
theorem fmV_ladd (F : fmF p s m args meth c D A G own cc nL ret Ts) {x y : Int64} (hdg : decode cc pc = .ok (.ladd, 1))  (k : fmV p l e R s m args below meth c D A G nL o Q σ cells slots lv (.long (x + y) :: rest) (pc + 1)) : fmV p l e R s m args below meth c D A G nL o Q σ cells slots lv (.long y :: .long x :: rest) pc := by
  obtain ⟨hx, hb, hml, hr, hown, hts, hK, hD, hA, hlk⟩ := F
  exact fun H locs ls hP hS hl => lv_ladd hx hb hdg  (k H locs ls hP hS hl)
theorem fmV_lmul (F : fmF p s m args meth c D A G own cc nL ret Ts) {x y : Int64} (hdg : decode cc pc = .ok (.lmul, 1))  (k : fmV p l e R s m args below meth c D A G nL o Q σ cells slots lv (.long (x * y) :: rest) (pc + 1)) : fmV p l e R s m args below meth c D A G nL o Q σ cells slots lv (.long y :: .long x :: rest) pc := by
  obtain ⟨hx, hb, hml, hr, hown, hts, hK, hD, hA, hlk⟩ := F
  exact fun H locs ls hP hS hl => lv_lmul hx hb hdg  (k H locs ls hP hS hl)
theorem fmV_lcmp (F : fmF p s m args meth c D A G own cc nL ret Ts) {x y : Int64} (hdg : decode cc pc = .ok (.lcmp, 1))  (k : fmV p l e R s m args below meth c D A G nL o Q σ cells slots lv (.int (lg_cmp x y) :: rest) (pc + 1)) : fmV p l e R s m args below meth c D A G nL o Q σ cells slots lv (.long y :: .long x :: rest) pc := by
  obtain ⟨hx, hb, hml, hr, hown, hts, hK, hD, hA, hlk⟩ := F
  exact fun H locs ls hP hS hl => W.lcmp hx hb hdg  (k H locs ls hP hS hl)
theorem fmV_i2l (F : fmF p s m args meth c D A G own cc nL ret Ts) {x : Int32} {v : Int64} (hdg : decode cc pc = .ok (.i2l, 1)) (hv : x.toInt64 = v) (k : fmV p l e R s m args below meth c D A G nL o Q σ cells slots lv (.long v :: rest) (pc + 1)) : fmV p l e R s m args below meth c D A G nL o Q σ cells slots lv (.int x :: rest) pc := by
  obtain ⟨hx, hb, hml, hr, hown, hts, hK, hD, hA, hlk⟩ := F
  exact fun H locs ls hP hS hl => lv_i2l hx hb hdg hv (k H locs ls hP hS hl)
theorem fmV_dup (F : fmF p s m args meth c D A G own cc nL ret Ts) {va : Value} (hdg : decode cc pc = .ok (.dup, 1)) (h1 : va.category = 1) (k : fmV p l e R s m args below meth c D A G nL o Q σ cells slots lv (va :: va :: rest) (pc + 1)) : fmV p l e R s m args below meth c D A G nL o Q σ cells slots lv (va :: rest) pc := by
  obtain ⟨hx, hb, hml, hr, hown, hts, hK, hD, hA, hlk⟩ := F
  exact fun H locs ls hP hS hl => lv_dup hx hb hdg h1 (k H locs ls hP hS hl)
theorem fmV_pop (F : fmF p s m args meth c D A G own cc nL ret Ts) {va : Value} (hdg : decode cc pc = .ok (.pop, 1)) (h1 : va.category = 1) (k : fmV p l e R s m args below meth c D A G nL o Q σ cells slots lv rest (pc + 1)) : fmV p l e R s m args below meth c D A G nL o Q σ cells slots lv (va :: rest) pc := by
  obtain ⟨hx, hb, hml, hr, hown, hts, hK, hD, hA, hlk⟩ := F
  exact fun H locs ls hP hS hl => lv_pop hx hb hdg h1 (k H locs ls hP hS hl)
theorem fmV_dup2 (F : fmF p s m args meth c D A G own cc nL ret Ts) {va vb : Value} (hdg : decode cc pc = .ok (.dup2, 1)) (h1 : va.category = 1) (h2 : vb.category = 1) (k : fmV p l e R s m args below meth c D A G nL o Q σ cells slots lv (va :: vb :: va :: vb :: rest) (pc + 1)) : fmV p l e R s m args below meth c D A G nL o Q σ cells slots lv (va :: vb :: rest) pc := by
  obtain ⟨hx, hb, hml, hr, hown, hts, hK, hD, hA, hlk⟩ := F
  exact fun H locs ls hP hS hl => lv_dup2_11 hx hb hdg h1 h2 (k H locs ls hP hS hl)
theorem fmV_null (F : fmF p s m args meth c D A G own cc nL ret Ts)  (hdg : decode cc pc = .ok (.aconst_null, 1))  (k : fmV p l e R s m args below meth c D A G nL o Q σ cells slots lv (.null :: rest) (pc + 1)) : fmV p l e R s m args below meth c D A G nL o Q σ cells slots lv rest pc := by
  obtain ⟨hx, hb, hml, hr, hown, hts, hK, hD, hA, hlk⟩ := F
  exact fun H locs ls hP hS hl => lv_null hx hb hdg  (k H locs ls hP hS hl)
theorem fmV_i2d (F : fmF p s m args meth c D A G own cc nL ret Ts) {x : Int32} (hdg : decode cc pc = .ok (.i2d, 1))  (k : fmV p l e R s m args below meth c D A G nL o Q σ cells slots lv (.double (FP.i2d x) :: rest) (pc + 1)) : fmV p l e R s m args below meth c D A G nL o Q σ cells slots lv (.int x :: rest) pc := by
  obtain ⟨hx, hb, hml, hr, hown, hts, hK, hD, hA, hlk⟩ := F
  exact fun H locs ls hP hS hl => lv_i2d hx hb hdg  (k H locs ls hP hS hl)
theorem fmV_dconst0 (F : fmF p s m args meth c D A G own cc nL ret Ts)  (hdg : decode cc pc = .ok (.dconst 0, 1))  (k : fmV p l e R s m args below meth c D A G nL o Q σ cells slots lv (.double FP.dconst0 :: rest) (pc + 1)) : fmV p l e R s m args below meth c D A G nL o Q σ cells slots lv rest pc := by
  obtain ⟨hx, hb, hml, hr, hown, hts, hK, hD, hA, hlk⟩ := F
  exact fun H locs ls hP hS hl => lv_dconst0 hx hb hdg  (k H locs ls hP hS hl)
theorem fmV_dcmp (F : fmF p s m args meth c D A G own cc nL ret Ts) {x y : UInt64} {op : CmpOp} (hdg : decode cc pc = .ok (.dcmp op, 1))  (k : fmV p l e R s m args below meth c D A G nL o Q σ cells slots lv (.int (Op.cmpValue (FP.dcmp x y) op) :: rest) (pc + 1)) : fmV p l e R s m args below meth c D A G nL o Q σ cells slots lv (.double y :: .double x :: rest) pc := by
  obtain ⟨hx, hb, hml, hr, hown, hts, hK, hD, hA, hlk⟩ := F
  exact fun H locs ls hP hS hl => lv_dcmp hx hb hdg  (k H locs ls hP hS hl)
theorem fmV_ddiv (F : fmF p s m args meth c D A G own cc nL ret Ts) {x y : UInt64} (hdg : decode cc pc = .ok (.ddiv, 1)) (hne : vf_n64 (FP.ddiv x y)) (k : fmV p l e R s m args below meth c D A G nL o Q σ cells slots lv (.double (FP.ddiv x y) :: rest) (pc + 1)) : fmV p l e R s m args below meth c D A G nL o Q σ cells slots lv (.double y :: .double x :: rest) pc := by
  obtain ⟨hx, hb, hml, hr, hown, hts, hK, hD, hA, hlk⟩ := F
  exact fun H locs ls hP hS hl => lv_ddiv hx hb hdg hne (k H locs ls hP hS hl)
theorem fmV_if_eq (F : fmF p s m args meth c D A G own cc nL ret Ts) {off : Int} {tgt : Nat} {x : Int32} (hdg : decode cc pc = .ok (.ifCond .eq off, 3)) (ht : (pc : Int) + off = (tgt : Int)) (kt : x = 0 → fmV p l e R s m args below meth c D A G nL o Q σ cells slots lv rest tgt) (kf : ¬ x = 0 → fmV p l e R s m args below meth c D A G nL o Q σ cells slots lv rest (pc + 3)) : fmV p l e R s m args below meth c D A G nL o Q σ cells slots lv (.int x :: rest) pc := by
  obtain ⟨hx, hb, hml, hr, hown, hts, hK, hD, hA, hlk⟩ := F
  exact fun H locs ls hP hS hl => lv_if_eq hx hb hdg ht (fun h => kt h H locs ls hP hS hl) (fun h => kf h H locs ls hP hS hl)
theorem fmV_icmp_eq (F : fmF p s m args meth c D A G own cc nL ret Ts) {off : Int} {tgt : Nat} {x y : Int32} (hdg : decode cc pc = .ok (.if_icmp .eq off, 3)) (ht : (pc : Int) + off = (tgt : Int)) (kt : x = y → fmV p l e R s m args below meth c D A G nL o Q σ cells slots lv rest tgt) (kf : ¬ x = y → fmV p l e R s m args below meth c D A G nL o Q σ cells slots lv rest (pc + 3)) : fmV p l e R s m args below meth c D A G nL o Q σ cells slots lv (.int y :: .int x :: rest) pc := by
  obtain ⟨hx, hb, hml, hr, hown, hts, hK, hD, hA, hlk⟩ := F
  exact fun H locs ls hP hS hl => lv_icmp_eq hx hb hdg ht (fun h => kt h H locs ls hP hS hl) (fun h => kf h H locs ls hP hS hl)
theorem fmV_if_ne (F : fmF p s m args meth c D A G own cc nL ret Ts) {off : Int} {tgt : Nat} {x : Int32} (hdg : decode cc pc = .ok (.ifCond .ne off, 3)) (ht : (pc : Int) + off = (tgt : Int)) (kt : x ≠ 0 → fmV p l e R s m args below meth c D A G nL o Q σ cells slots lv rest tgt) (kf : x = 0 → fmV p l e R s m args below meth c D A G nL o Q σ cells slots lv rest (pc + 3)) : fmV p l e R s m args below meth c D A G nL o Q σ cells slots lv (.int x :: rest) pc := by
  obtain ⟨hx, hb, hml, hr, hown, hts, hK, hD, hA, hlk⟩ := F
  exact fun H locs ls hP hS hl => lv_if_ne hx hb hdg ht (fun h => kt h H locs ls hP hS hl) (fun h => kf h H locs ls hP hS hl)
theorem fmV_icmp_ne (F : fmF p s m args meth c D A G own cc nL ret Ts) {off : Int} {tgt : Nat} {x y : Int32} (hdg : decode cc pc = .ok (.if_icmp .ne off, 3)) (ht : (pc : Int) + off = (tgt : Int)) (kt : x ≠ y → fmV p l e R s m args below meth c D A G nL o Q σ cells slots lv rest tgt) (kf : x = y → fmV p l e R s m args below meth c D A G nL o Q σ cells slots lv rest (pc + 3)) : fmV p l e R s m args below meth c D A G nL o Q σ cells slots lv (.int y :: .int x :: rest) pc := by
  obtain ⟨hx, hb, hml, hr, hown, hts, hK, hD, hA, hlk⟩ := F
  exact fun H locs ls hP hS hl => lv_icmp_ne hx hb hdg ht (fun h => kt h H locs ls hP hS hl) (fun h => kf h H locs ls hP hS hl)
theorem fmV_if_lt (F : fmF p s m args meth c D A G own cc nL ret Ts) {off : Int} {tgt : Nat} {x : Int32} (hdg : decode cc pc = .ok (.ifCond .lt off, 3)) (ht : (pc : Int) + off = (tgt : Int)) (kt : x < 0 → fmV p l e R s m args below meth c D A G nL o Q σ cells slots lv rest tgt) (kf : ¬ x < 0 → fmV p l e R s m args below meth c D A G nL o Q σ cells slots lv rest (pc + 3)) : fmV p l e R s m args below meth c D A G nL o Q σ cells slots lv (.int x :: rest) pc := by
  obtain ⟨hx, hb, hml, hr, hown, hts, hK, hD, hA, hlk⟩ := F
  exact fun H locs ls hP hS hl => lv_if_lt hx hb hdg ht (fun h => kt h H locs ls hP hS hl) (fun h => kf h H locs ls hP hS hl)
theorem fmV_icmp_lt (F : fmF p s m args meth c D A G own cc nL ret Ts) {off : Int} {tgt : Nat} {x y : Int32} (hdg : decode cc pc = .ok (.if_icmp .lt off, 3)) (ht : (pc : Int) + off = (tgt : Int)) (kt : x < y → fmV p l e R s m args below meth c D A G nL o Q σ cells slots lv rest tgt) (kf : ¬ x < y → fmV p l e R s m args below meth c D A G nL o Q σ cells slots lv rest (pc + 3)) : fmV p l e R s m args below meth c D A G nL o Q σ cells slots lv (.int y :: .int x :: rest) pc := by
  obtain ⟨hx, hb, hml, hr, hown, hts, hK, hD, hA, hlk⟩ := F
  exact fun H locs ls hP hS hl => lv_icmp_lt hx hb hdg ht (fun h => kt h H locs ls hP hS hl) (fun h => kf h H locs ls hP hS hl)
theorem fmV_if_ge (F : fmF p s m args meth c D A G own cc nL ret Ts) {off : Int} {tgt : Nat} {x : Int32} (hdg : decode cc pc = .ok (.ifCond .ge off, 3)) (ht : (pc : Int) + off = (tgt : Int)) (kt : 0 ≤ x → fmV p l e R s m args below meth c D A G nL o Q σ cells slots lv rest tgt) (kf : ¬ 0 ≤ x → fmV p l e R s m args below meth c D A G nL o Q σ cells slots lv rest (pc + 3)) : fmV p l e R s m args below meth c D A G nL o Q σ cells slots lv (.int x :: rest) pc := by
  obtain ⟨hx, hb, hml, hr, hown, hts, hK, hD, hA, hlk⟩ := F
  exact fun H locs ls hP hS hl => lv_if_ge hx hb hdg ht (fun h => kt h H locs ls hP hS hl) (fun h => kf h H locs ls hP hS hl)
theorem fmV_icmp_ge (F : fmF p s m args meth c D A G own cc nL ret Ts) {off : Int} {tgt : Nat} {x y : Int32} (hdg : decode cc pc = .ok (.if_icmp .ge off, 3)) (ht : (pc : Int) + off = (tgt : Int)) (kt : y ≤ x → fmV p l e R s m args below meth c D A G nL o Q σ cells slots lv rest tgt) (kf : ¬ y ≤ x → fmV p l e R s m args below meth c D A G nL o Q σ cells slots lv rest (pc + 3)) : fmV p l e R s m args below meth c D A G nL o Q σ cells slots lv (.int y :: .int x :: rest) pc := by
  obtain ⟨hx, hb, hml, hr, hown, hts, hK, hD, hA, hlk⟩ := F
  exact fun H locs ls hP hS hl => lv_icmp_ge hx hb hdg ht (fun h => kt h H locs ls hP hS hl) (fun h => kf h H locs ls hP hS hl)
theorem fmV_if_gt (F : fmF p s m args meth c D A G own cc nL ret Ts) {off : Int} {tgt : Nat} {x : Int32} (hdg : decode cc pc = .ok (.ifCond .gt off, 3)) (ht : (pc : Int) + off = (tgt : Int)) (kt : 0 < x → fmV p l e R s m args below meth c D A G nL o Q σ cells slots lv rest tgt) (kf : ¬ 0 < x → fmV p l e R s m args below meth c D A G nL o Q σ cells slots lv rest (pc + 3)) : fmV p l e R s m args below meth c D A G nL o Q σ cells slots lv (.int x :: rest) pc := by
  obtain ⟨hx, hb, hml, hr, hown, hts, hK, hD, hA, hlk⟩ := F
  exact fun H locs ls hP hS hl => lv_if_gt hx hb hdg ht (fun h => kt h H locs ls hP hS hl) (fun h => kf h H locs ls hP hS hl)
theorem fmV_icmp_gt (F : fmF p s m args meth c D A G own cc nL ret Ts) {off : Int} {tgt : Nat} {x y : Int32} (hdg : decode cc pc = .ok (.if_icmp .gt off, 3)) (ht : (pc : Int) + off = (tgt : Int)) (kt : y < x → fmV p l e R s m args below meth c D A G nL o Q σ cells slots lv rest tgt) (kf : ¬ y < x → fmV p l e R s m args below meth c D A G nL o Q σ cells slots lv rest (pc + 3)) : fmV p l e R s m args below meth c D A G nL o Q σ cells slots lv (.int y :: .int x :: rest) pc := by
  obtain ⟨hx, hb, hml, hr, hown, hts, hK, hD, hA, hlk⟩ := F
  exact fun H locs ls hP hS hl => lv_icmp_gt hx hb hdg ht (fun h => kt h H locs ls hP hS hl) (fun h => kf h H locs ls hP hS hl)
theorem fmV_if_le (F : fmF p s m args meth c D A G own cc nL ret Ts) {off : Int} {tgt : Nat} {x : Int32} (hdg : decode cc pc = .ok (.ifCond .le off, 3)) (ht : (pc : Int) + off = (tgt : Int)) (kt : x ≤ 0 → fmV p l e R s m args below meth c D A G nL o Q σ cells slots lv rest tgt) (kf : ¬ x ≤ 0 → fmV p l e R s m args below meth c D A G nL o Q σ cells slots lv rest (pc + 3)) : fmV p l e R s m args below meth c D A G nL o Q σ cells slots lv (.int x :: rest) pc := by
  obtain ⟨hx, hb, hml, hr, hown, hts, hK, hD, hA, hlk⟩ := F
  exact fun H locs ls hP hS hl => lv_if_le hx hb hdg ht (fun h => kt h H locs ls hP hS hl) (fun h => kf h H locs ls hP hS hl)
theorem fmV_icmp_le (F : fmF p s m args meth c D A G own cc nL ret Ts) {off : Int} {tgt : Nat} {x y : Int32} (hdg : decode cc pc = .ok (.if_icmp .le off, 3)) (ht : (pc : Int) + off = (tgt : Int)) (kt : x ≤ y → fmV p l e R s m args below meth c D A G nL o Q σ cells slots lv rest tgt) (kf : ¬ x ≤ y → fmV p l e R s m args below meth c D A G nL o Q σ cells slots lv rest (pc + 3)) : fmV p l e R s m args below meth c D A G nL o Q σ cells slots lv (.int y :: .int x :: rest) pc := by
  obtain ⟨hx, hb, hml, hr, hown, hts, hK, hD, hA, hlk⟩ := F
  exact fun H locs ls hP hS hl => lv_icmp_le hx hb hdg ht (fun h => kt h H locs ls hP hS hl) (fun h => kf h H locs ls hP hS hl)
theorem fmV_goto (F : fmF p s m args meth c D A G own cc nL ret Ts) {off : Int} {tgt : Nat} (hdg : decode cc pc = .ok (.goto off, 3)) (ht : (pc : Int) + off = (tgt : Int)) (k : fmV p l e R s m args below meth c D A G nL o Q σ cells slots lv st tgt) : fmV p l e R s m args below meth c D A G nL o Q σ cells slots lv st pc := by
  obtain ⟨hx, hb, hml, hr, hown, hts, hK, hD, hA, hlk⟩ := F
  exact fun H locs ls hP hS hl => lv_goto hx hb hdg ht (k H locs ls hP hS hl)
theorem fmV_ifnull (F : fmF p s m args meth c D A G own cc nL ret Ts) {off : Int} {x : Nat} (hdg : decode cc pc = .ok (.ifnull off, 3)) (k : fmV p l e R s m args below meth c D A G nL o Q σ cells slots lv rest (pc + 3)) : fmV p l e R s m args below meth c D A G nL o Q σ cells slots lv (.ref x :: rest) pc := by
  obtain ⟨hx, hb, hml, hr, hown, hts, hK, hD, hA, hlk⟩ := F
  exact fun H locs ls hP hS hl => lv_ifnull hx hb hdg (k H locs ls hP hS hl)
theorem fmV_ifnonnullN (F : fmF p s m args meth c D A G own cc nL ret Ts) {off : Int}  (hdg : decode cc pc = .ok (.ifnonnull off, 3)) (k : fmV p l e R s m args below meth c D A G nL o Q σ cells slots lv rest (pc + 3)) : fmV p l e R s m args below meth c D A G nL o Q σ cells slots lv (.null :: rest) pc := by
  obtain ⟨hx, hb, hml, hr, hown, hts, hK, hD, hA, hlk⟩ := F
  exact fun H locs ls hP hS hl => lv_ifnonnullN hx hb hdg (k H locs ls hP hS hl)
theorem fmV_ifnullN (F : fmF p s m args meth c D A G own cc nL ret Ts) {off : Int} {tgt : Nat}  (hdg : decode cc pc = .ok (.ifnull off, 3)) (ht : (pc : Int) + off = (tgt : Int)) (k : fmV p l e R s m args below meth c D A G nL o Q σ cells slots lv rest tgt) : fmV p l e R s m args below meth c D A G nL o Q σ cells slots lv (.null :: rest) pc := by
  obtain ⟨hx, hb, hml, hr, hown, hts, hK, hD, hA, hlk⟩ := F
  exact fun H locs ls hP hS hl => lv_ifnullN hx hb hdg ht (k H locs ls hP hS hl)
theorem fmV_ifnonnull (F : fmF p s m args meth c D A G own cc nL ret Ts) {off : Int} {tgt : Nat} {x : Nat} (hdg : decode cc pc = .ok (.ifnonnull off, 3)) (ht : (pc : Int) + off = (tgt : Int)) (k : fmV p l e R s m args below meth c D A G nL o Q σ cells slots lv rest tgt) : fmV p l e R s m args below meth c D A G nL o Q σ cells slots lv (.ref x :: rest) pc := by
  obtain ⟨hx, hb, hml, hr, hown, hts, hK, hD, hA, hlk⟩ := F
  exact fun H locs ls hP hS hl => lv_ifnonnull hx hb hdg ht (k H locs ls hP hS hl)
theorem fmV_ldc2 (F : fmF p s m args meth c D A G own cc nL ret Ts) {index : Nat} {v : Int64} (hdg : decode cc pc = .ok (.ldc2_w index, 3)) (hc : Jvm.Cond.constantLong own index v ∈ Ts) (k : fmV p l e R s m args below meth c D A G nL o Q σ cells slots lv (.long v :: rest) (pc + 3)) : fmV p l e R s m args below meth c D A G nL o Q σ cells slots lv rest pc := by
  obtain ⟨hx, hb, hml, hr, hown, hts, hK, hD, hA, hlk⟩ := F
  exact fun H locs ls hP hS hl => lv_ldc2 hx hb hown (hts _ hc) hdg (k H locs ls hP hS hl)
theorem fmV_tableIn (F : fmF p s m args meth c D A G own cc nL ret Ts) {dflt lo hi : Int} {offs : Array Int} {len : Nat} {x : Int32} {off : Int} {tgt : Nat} (hdg : decode cc pc = .ok (.tableswitch dflt lo hi offs, len)) (h1 : ¬ x.toInt < lo) (h2 : ¬ hi < x.toInt) (ho : offs[(x.toInt - lo).toNat]? = some off) (ht : (pc : Int) + off = (tgt : Int)) (k : fmV p l e R s m args below meth c D A G nL o Q σ cells slots lv rest tgt) : fmV p l e R s m args below meth c D A G nL o Q σ cells slots lv (.int x :: rest) pc := by
  obtain ⟨hx, hb, hml, hr, hown, hts, hK, hD, hA, hlk⟩ := F
  exact fun H locs ls hP hS hl => lv_tableIn hx hb hdg h1 h2 ho ht (k H locs ls hP hS hl)
theorem fmV_tableOut (F : fmF p s m args meth c D A G own cc nL ret Ts) {dflt lo hi : Int} {offs : Array Int} {len : Nat} {x : Int32} {tgt : Nat} (hdg : decode cc pc = .ok (.tableswitch dflt lo hi offs, len)) (h : x.toInt < lo ∨ hi < x.toInt) (ht : (pc : Int) + dflt = (tgt : Int)) (k : fmV p l e R s m args below meth c D A G nL o Q σ cells slots lv rest tgt) : fmV p l e R s m args below meth c D A G nL o Q σ cells slots lv (.int x :: rest) pc := by
  obtain ⟨hx, hb, hml, hr, hown, hts, hK, hD, hA, hlk⟩ := F
  exact fun H locs ls hP hS hl => lv_tableOut hx hb hdg h ht (k H locs ls hP hS hl)
theorem fmV_iald (F : fmF p s m args meth c D A G own cc nL ret Ts) {kd a b n i0 : Nat} (hid : (kd, a, b) ∈ fmIds) (hc : ∀ τ : fmS, fmC G τ o (kd, a, b) = .inl (G.2 0, n, .inl (τ kd a b))) {i : Int32} (hdg : decode cc pc = .ok (.iaload, 1)) (hin : vp_in i n) (hi : i.toNatClampNeg = i0) (k : fmV p l e R s m args below meth c D A G nL o Q σ cells slots lv (.int (σ kd a b i0) :: rest) (pc + 1)) : fmV p l e R s m args below meth c D A G nL o Q σ cells slots lv (.int i :: .ref (G.1 kd a b) :: rest) pc := by
  obtain ⟨hx, hb, hml, hr, hown, hts, hK, hD, hA, hlk⟩ := F
  intro H locs ls hP hS hl
  subst hi
  obtain ⟨q0, -, hq⟩ := fmW_get G σ o hid
  rw [hc] at hq
  exact va_iald hx hb hK hP q0 0 hq rfl hin hdg (k H locs ls hP hS hl)
theorem fmV_zald (F : fmF p s m args meth c D A G own cc nL ret Ts) {i0 : Nat} {i : Int32} (hdg : decode cc pc = .ok (.baload, 1)) (hin : vp_in i 14) (hi : i.toNatClampNeg = i0) (k : fmV p l e R s m args below meth c D A G nL o Q σ cells slots lv (.int (σ 22 0 0 i0) :: rest) (pc + 1)) : fmV p l e R s m args below meth c D A G nL o Q σ cells slots lv (.int i :: .ref (G.1 22 0 0) :: rest) pc := by
  obtain ⟨hx, hb, hml, hr, hown, hts, hK, hD, hA, hlk⟩ := F
  intro H locs ls hP hS hl
  subst hi
  obtain ⟨q0, -, hq⟩ := fmW_get G σ o (i := (22, 0, 0)) (fm_mem (a := 1) (b := 1) (by decide +kernel) (by decide) (by decide))
  exact va_zald hx hb hK hP q0 1 hq rfl hin hdg (k H locs ls hP hS hl)
theorem fmV_iast (F : fmF p s m args meth c D A G own cc nL ret Ts) {kd a b n i0 : Nat} (hid : (kd, a, b) ∈ fmIds) (hc : ∀ τ : fmS, fmC G τ o (kd, a, b) = .inl (G.2 0, n, .inl (τ kd a b))) {i x : Int32} (hk : fmO kd = kd) (hdg : decode cc pc = .ok (.iastore, 1)) (hin : vp_in i n) (hi : i.toNatClampNeg = i0) (k : fmV p l e R s m args below meth c D A G nL o Q (fmu σ kd a b (upd (σ kd a b) i0 x)) cells slots lv rest (pc + 1)) : fmV p l e R s m args below meth c D A G nL o Q σ cells slots lv (.int x :: .int i :: .ref (G.1 kd a b) :: rest) pc := by
  obtain ⟨hx, hb, hml, hr, hown, hts, hK, hD, hA, hlk⟩ := F
  intro H locs ls hP hS hl
  subst hi
  obtain ⟨q0, h0, hq⟩ := fmW_get G σ o hid
  have hq' := hq
  rw [hc] at hq'
  refine va_iast hx hb hK hP (hD σ o) hS q0 0 hq' rfl hin hdg (fun H1 locs1 hP1 hD1 hS1 => k H1 locs1 ls ?_ hS1 hl)
  have e := fmW_set (σ' := fmu σ kd a b (upd (σ kd a b) i.toNatClampNeg x)) (o' := o) (hD σ o) h0 rfl (fun j hj => fmC_off j (by rw [hk]; exact hj))
  rw [hc, fmu_self] at e
  exact e ▸ hP1
theorem fmV_zast (F : fmF p s m args meth c D A G own cc nL ret Ts) {i0 : Nat} {i x : Int32} (hdg : decode cc pc = .ok (.bastore, 1)) (hin : vp_in i 14) (hi : i.toNatClampNeg = i0) (k : fmV p l e R s m args below meth c D A G nL o Q (fmu σ 22 0 0 (upd (σ 22 0 0) i0 (vp_nar .boolean x))) cells slots lv rest (pc + 1)) : fmV p l e R s m args below meth c D A G nL o Q σ cells slots lv (.int x :: .int i :: .ref (G.1 22 0 0) :: rest) pc := by
  obtain ⟨hx, hb, hml, hr, hown, hts, hK, hD, hA, hlk⟩ := F
  intro H locs ls hP hS hl
  subst hi
  obtain ⟨q0, h0, hq⟩ := fmW_get G σ o (i := (22, 0, 0)) (fm_mem (a := 1) (b := 1) (by decide +kernel) (by decide) (by decide))
  refine va_zast hx hb hK hP (hD σ o) hS q0 1 hq rfl hin hdg (fun H1 locs1 hP1 hD1 hS1 => k H1 locs1 ls ?_ hS1 hl)
  have e := fmW_set (σ' := fmu σ 22 0 0 (upd (σ 22 0 0) i.toNatClampNeg (vp_nar .boolean x))) (o' := o) (hD σ o) h0 rfl (fun j hj => fmC_off j hj)
  rw [fmC_is_22, fmC_22, fmu_self] at e
  exact e ▸ hP1
theorem fmV_ald_rows (F : fmF p s m args meth c D A G own cc nL ret Ts) {a i0 : Nat} (ha : a < 2) {i : Int32} (hdg : decode cc pc = .ok (.aaload, 1)) (hin : vp_in i 4) (hi : i.toNatClampNeg = i0) (k : fmV p l e R s m args below meth c D A G nL o Q σ cells slots lv (.ref (G.1 7 a i0) :: rest) (pc + 1)) : fmV p l e R s m args below meth c D A G nL o Q σ cells slots lv (.int i :: .ref (G.1 5 a 0) :: rest) pc := by
  obtain ⟨hx, hb, hml, hr, hown, hts, hK, hD, hA, hlk⟩ := F
  intro H locs ls hP hS hl
  subst hi
  obtain ⟨q0, -, hq⟩ := fmW_get G σ o (i := (5, a, 0)) (fm_mem (a := 2) (b := 1) (by decide +kernel) ha (by decide))
  exact va_aldq hx hb hK hP q0 3 hq rfl hin hdg (k H locs ls hP hS hl)
theorem fmV_ald_canoes (F : fmF p s m args meth c D A G own cc nL ret Ts) {a i0 : Nat} (ha : a < 2) {i : Int32} (hdg : decode cc pc = .ok (.aaload, 1)) (hin : vp_in i 14) (hi : i.toNatClampNeg = i0) (k : fmV p l e R s m args below meth c D A G nL o Q σ cells slots lv (.ref (G.1 9 a i0) :: rest) (pc + 1)) : fmV p l e R s m args below meth c D A G nL o Q σ cells slots lv (.int i :: .ref (G.1 6 a 0) :: rest) pc := by
  obtain ⟨hx, hb, hml, hr, hown, hts, hK, hD, hA, hlk⟩ := F
  intro H locs ls hP hS hl
  subst hi
  obtain ⟨q0, -, hq⟩ := fmW_get G σ o (i := (6, a, 0)) (fm_mem (a := 2) (b := 1) (by decide +kernel) ha (by decide))
  exact va_aldq hx hb hK hP q0 4 hq rfl hin hdg (k H locs ls hP hS hl)
theorem fmV_alen (F : fmF p s m args meth c D A G own cc nL ret Ts) {kd a b n : Nat} (hid : (kd, a, b) ∈ fmIds) (hc : ∀ τ : fmS, fmC G τ o (kd, a, b) = .inl (G.2 0, n, .inl (τ kd a b))) {v : Int32} (hdg : decode cc pc = .ok (.arraylength, 1)) (hv : Int32.ofNat n = v) (k : fmV p l e R s m args below meth c D A G nL o Q σ cells slots lv (.int v :: rest) (pc + 1)) : fmV p l e R s m args below meth c D A G nL o Q σ cells slots lv (.ref (G.1 kd a b) :: rest) pc := by
  obtain ⟨hx, hb, hml, hr, hown, hts, hK, hD, hA, hlk⟩ := F
  intro H locs ls hP hS hl
  obtain ⟨q0, -, hq⟩ := fmW_get G σ o hid
  rw [hc] at hq
  exact va_alen hx hb hK hP q0 0 hq rfl hv hdg (k H locs ls hP hS hl)
theorem fmV_copyi (F : fmF p s m args meth c D A G own cc nL ret Ts) {kd a b n kd1 a1 b1 n1 index : Nat} (hid : (kd, a, b) ∈ fmIds) (hc : ∀ τ : fmS, fmC G τ o (kd, a, b) = .inl (G.2 0, n, .inl (τ kd a b))) (hid1 : (kd1, a1, b1) ∈ fmIds) (hc1 : ∀ τ : fmS, fmC G τ o (kd1, a1, b1) = .inl (G.2 0, n1, .inl (τ kd1 a1 b1))) (hk1 : fmO kd1 = kd1) (hdg : decode cc pc = .ok (.invokestatic index, 3)) (hw : Cond.methodLink own index arraycopyName ∈ Ts ∧ Cond.native arraycopyName ∈ Ts ∧ Cond.static arraycopyName ∈ Ts ∧ Cond.initialized "java/lang/System" ∈ Ts) {z : Int32} (hn : ¬ z < 0) (h4 : z.toNatClampNeg ≤ n) (h5 : z.toNatClampNeg ≤ n1) (hframes : 1 ≤ R.frames) (hlocals : (rest.map fun v => v.category).sum + (nativeFrameWords "java/lang/System" "arraycopy" 5 + 11) ≤ R.locals) (k : fmV p l e R s m args below meth c D A G nL o Q (fmu σ kd1 a1 b1 (va_cpy (σ kd a b) (σ kd1 a1 b1) 0 0 z.toNatClampNeg)) cells slots lv rest (pc + 3)) : fmV p l e R s m args below meth c D A G nL o Q σ cells slots lv (.int z :: .int 0 :: .ref (G.1 kd1 a1 b1) :: .int 0 :: .ref (G.1 kd a b) :: rest) pc := by
  obtain ⟨hx, hb, hml, hr, hown, hts, hK, hD, hA, hlk⟩ := F
  intro H locs ls hP hS hl
  obtain ⟨q0, h0, hq⟩ := fmW_get G σ o hid
  obtain ⟨q1, h1, hq1⟩ := fmW_get G σ o hid1
  rw [hc] at hq
  have hq1' := hq1
  rw [hc1] at hq1'
  refine va_copyi hx hb (hml.trans hl.1.symm) hown (hts _ hw.1) (hts _ hw.2.1) (hts _ hw.2.2.1) (hts _ hw.2.2.2) hK hP (hD σ o) hS q0 q1 0 0 hq hq1' rfl rfl rfl (by decide) (by decide) hn (by rw [show (0 : Int32).toNatClampNeg = 0 from rfl]; omega) (by rw [show (0 : Int32).toNatClampNeg = 0 from rfl]; omega) (fun i _ => rfl) hframes hlocals hdg (fun H1 locs1 hP1 hD1 hS1 => k H1 locs1 ls ?_ hS1 hl)
  have e := fmW_set (σ' := fmu σ kd1 a1 b1 (va_cpy (σ kd a b) (σ kd1 a1 b1) 0 0 z.toNatClampNeg)) (o' := o) (hD σ o) h1 rfl (fun j hj => fmC_off j (by rw [hk1]; exact hj))
  rw [hc1, fmu_self] at e
  exact e ▸ hP1
theorem fmV_get (F : fmF p s m args meth c D A G own cc nL ret Ts) {kd a b ci index : Nat} {C : String} {T : u_T} {N : Nat} {fs : List Value} (hid : (kd, a, b) ∈ fmIds) (hc : fmC G σ o (kd, a, b) = .inr (ci, fs)) (hcl : vwCl[ci]? = some (C, T, N)) (hin : ∀ w ∈ u_ws C T N, w ∈ Ts) (kf : Nat) (hkf : kf < N) {v : Value} (hv : fs[kf]? = some v) (hdg : decode cc pc = .ok (.getfield index, 3)) (hlink : Cond.fieldLink own index (T kf).1 (T kf).2.1 (T kf).2.2.1 ∈ Ts) (k : fmV p l e R s m args below meth c D A G nL o Q σ cells slots lv (v :: rest) (pc + 3)) : fmV p l e R s m args below meth c D A G nL o Q σ cells slots lv (.ref (G.1 kd a b) :: rest) pc := by
  obtain ⟨hx, hb, hml, hr, hown, hts, hK, hD, hA, hlk⟩ := F
  intro H locs ls hP hS hl
  obtain ⟨q0, -, hq⟩ := fmW_get G σ o hid
  rw [hc] at hq
  exact va_get hx hb hts hin hown hK hP q0 hq hcl kf hkf (hts _ hlink) (fun _ h9 => h9) hv hdg (k H locs ls hP hS hl)
theorem fmV_put (F : fmF p s m args meth c D A G own cc nL ret Ts) {kd a b ci index col : Nat} {C : String} {T : u_T} {N : Nat} {fs : List Value} {x : Int32} (hid : (kd, a, b) ∈ fmIds) (hc : fmC G σ o (kd, a, b) = .inr (ci, fs)) (hcl : vwCl[ci]? = some (C, T, N)) (hin : ∀ w ∈ u_ws C T N, w ∈ Ts) (ty0 : Nat → FieldType) (hty : ∀ k, k < N → parseFieldDescriptor (T k).2.2.1 = some (ty0 k)) (hnm : ∀ a, a < N → ∀ b, b < N → a ≠ b → (T a).2.1 ≠ (T b).2.1) (kf : Nat) (hkf : kf < N) (hl9 : kf < fs.length) (hfin : (T kf).2.2.2 = false) (hdt : ty0 kf = .int) (hco : fmO col = kd) (hnew : fmC G (fmu σ col a b (fun _ => x)) o (kd, a, b) = .inr (ci, fs.set kf (.int x)))
    (hdg : decode cc pc = .ok (.putfield index, 3)) (hlink : Cond.fieldLink own index (T kf).1 (T kf).2.1 (T kf).2.2.1 ∈ Ts) (k : fmV p l e R s m args below meth c D A G nL o Q (fmu σ col a b (fun _ => x)) cells slots lv rest (pc + 3)) : fmV p l e R s m args below meth c D A G nL o Q σ cells slots lv (.int x :: .ref (G.1 kd a b) :: rest) pc := by
  obtain ⟨hx, hb, hml, hr, hown, hts, hK, hD, hA, hlk⟩ := F
  intro H locs ls hP hS hl
  obtain ⟨q0, h0, hq⟩ := fmW_get G σ o hid
  rw [hc] at hq
  refine va_put hx hb hts hin ty0 hty hnm hown hK hP (hD σ o) hS q0 hq hcl kf hkf (hts _ hlink) (fun _ h9 => h9) hfin (ty := .int) (hdt ▸ hty kf hkf) rfl rfl hl9 hdg (fun H1 locs1 hP1 hD1 hS1 => k H1 locs1 ls ?_ hS1 hl)
  have e := fmW_set (σ' := fmu σ col a b (fun _ => x)) (o' := o) (hD σ o) h0 rfl (fun j hj => fmC_off j (by rw [hco]; exact hj))
  rw [hnew] at e
  exact e ▸ hP1
theorem fmg_0_water (F : fmF p s m args meth c D A G own cc nL ret Ts) {index : Nat}  (hin : ∀ w ∈ wsX40, w ∈ Ts) (hdg : decode cc pc = .ok (.getfield index, 3)) (hlink : Cond.fieldLink own index (TX4 0).1 (TX4 0).2.1 (TX4 0).2.2.1 ∈ Ts) (k : fmV p l e R s m args below meth c D A G nL o Q σ cells slots lv (.ref (G.1 1 0 0) :: rest) (pc + 3)) : fmV p l e R s m args below meth c D A G nL o Q σ cells slots lv (.ref (G.1 0 0 0) :: rest) pc :=
  fmV_get F (fm_mem (a := 1) (b := 1) (by decide +kernel) (by decide) (by decide)) (fmC_is_0 G σ o 0 0) rfl hin 0 (by decide) rfl hdg hlink k
theorem fmg_0_now (F : fmF p s m args meth c D A G own cc nL ret Ts) {index : Nat}  (hin : ∀ w ∈ wsX40, w ∈ Ts) (hdg : decode cc pc = .ok (.getfield index, 3)) (hlink : Cond.fieldLink own index (TX4 1).1 (TX4 1).2.1 (TX4 1).2.2.1 ∈ Ts) (k : fmV p l e R s m args below meth c D A G nL o Q σ cells slots lv (.ref (G.1 4 0 0) :: rest) (pc + 3)) : fmV p l e R s m args below meth c D A G nL o Q σ cells slots lv (.ref (G.1 0 0 0) :: rest) pc :=
  fmV_get F (fm_mem (a := 1) (b := 1) (by decide +kernel) (by decide) (by decide)) (fmC_is_0 G σ o 0 0) rfl hin 1 (by decide) rfl hdg hlink k
theorem fmg_0_trial (F : fmF p s m args meth c D A G own cc nL ret Ts) {index : Nat}  (hin : ∀ w ∈ wsX40, w ∈ Ts) (hdg : decode cc pc = .ok (.getfield index, 3)) (hlink : Cond.fieldLink own index (TX4 2).1 (TX4 2).2.1 (TX4 2).2.2.1 ∈ Ts) (k : fmV p l e R s m args below meth c D A G nL o Q σ cells slots lv (.ref (G.1 4 1 0) :: rest) (pc + 3)) : fmV p l e R s m args below meth c D A G nL o Q σ cells slots lv (.ref (G.1 0 0 0) :: rest) pc :=
  fmV_get F (fm_mem (a := 1) (b := 1) (by decide +kernel) (by decide) (by decide)) (fmC_is_0 G σ o 0 0) rfl hin 2 (by decide) rfl hdg hlink k
theorem fmg_1_tides (F : fmF p s m args meth c D A G own cc nL ret Ts) {index : Nat}  (hin : ∀ w ∈ wsX30, w ∈ Ts) (hdg : decode cc pc = .ok (.getfield index, 3)) (hlink : Cond.fieldLink own index (TX3 0).1 (TX3 0).2.1 (TX3 0).2.2.1 ∈ Ts) (k : fmV p l e R s m args below meth c D A G nL o Q σ cells slots lv (.ref (G.1 2 0 0) :: rest) (pc + 3)) : fmV p l e R s m args below meth c D A G nL o Q σ cells slots lv (.ref (G.1 1 0 0) :: rest) pc :=
  fmV_get F (fm_mem (a := 1) (b := 1) (by decide +kernel) (by decide) (by decide)) (fmC_is_1 G σ o 0 0) rfl hin 0 (by decide) rfl hdg hlink k
theorem fmg_1_wakes (F : fmF p s m args meth c D A G own cc nL ret Ts) {index : Nat}  (hin : ∀ w ∈ wsX30, w ∈ Ts) (hdg : decode cc pc = .ok (.getfield index, 3)) (hlink : Cond.fieldLink own index (TX3 1).1 (TX3 1).2.1 (TX3 1).2.2.1 ∈ Ts) (k : fmV p l e R s m args below meth c D A G nL o Q σ cells slots lv (.ref (G.1 3 0 0) :: rest) (pc + 3)) : fmV p l e R s m args below meth c D A G nL o Q σ cells slots lv (.ref (G.1 1 0 0) :: rest) pc :=
  fmV_get F (fm_mem (a := 1) (b := 1) (by decide +kernel) (by decide) (by decide)) (fmC_is_1 G σ o 0 0) rfl hin 1 (by decide) rfl hdg hlink k
theorem fmg_4_water (F : fmF p s m args meth c D A G own cc nL ret Ts) {a index : Nat} (ha : a < 2) (hin : ∀ w ∈ wsX10, w ∈ Ts) (hdg : decode cc pc = .ok (.getfield index, 3)) (hlink : Cond.fieldLink own index (TX1 0).1 (TX1 0).2.1 (TX1 0).2.2.1 ∈ Ts) (k : fmV p l e R s m args below meth c D A G nL o Q σ cells slots lv (.ref (G.1 1 0 0) :: rest) (pc + 3)) : fmV p l e R s m args below meth c D A G nL o Q σ cells slots lv (.ref (G.1 4 a 0) :: rest) pc :=
  fmV_get F (fm_mem (a := 2) (b := 1) (by decide +kernel) ha (by decide)) (fmC_is_4 G σ o a 0) rfl hin 0 (by decide) rfl hdg hlink k
theorem fmg_4_rows (F : fmF p s m args meth c D A G own cc nL ret Ts) {a index : Nat} (ha : a < 2) (hin : ∀ w ∈ wsX10, w ∈ Ts) (hdg : decode cc pc = .ok (.getfield index, 3)) (hlink : Cond.fieldLink own index (TX1 1).1 (TX1 1).2.1 (TX1 1).2.2.1 ∈ Ts) (k : fmV p l e R s m args below meth c D A G nL o Q σ cells slots lv (.ref (G.1 5 a 0) :: rest) (pc + 3)) : fmV p l e R s m args below meth c D A G nL o Q σ cells slots lv (.ref (G.1 4 a 0) :: rest) pc :=
  fmV_get F (fm_mem (a := 2) (b := 1) (by decide +kernel) ha (by decide)) (fmC_is_4 G σ o a 0) rfl hin 1 (by decide) rfl hdg hlink k
theorem fmg_4_canoes (F : fmF p s m args meth c D A G own cc nL ret Ts) {a index : Nat} (ha : a < 2) (hin : ∀ w ∈ wsX10, w ∈ Ts) (hdg : decode cc pc = .ok (.getfield index, 3)) (hlink : Cond.fieldLink own index (TX1 2).1 (TX1 2).2.1 (TX1 2).2.2.1 ∈ Ts) (k : fmV p l e R s m args below meth c D A G nL o Q σ cells slots lv (.ref (G.1 6 a 0) :: rest) (pc + 3)) : fmV p l e R s m args below meth c D A G nL o Q σ cells slots lv (.ref (G.1 4 a 0) :: rest) pc :=
  fmV_get F (fm_mem (a := 2) (b := 1) (by decide +kernel) ha (by decide)) (fmC_is_4 G σ o a 0) rfl hin 2 (by decide) rfl hdg hlink k
theorem fmg_4_rowCount (F : fmF p s m args meth c D A G own cc nL ret Ts) {a index : Nat} (ha : a < 2) (hin : ∀ w ∈ wsX10, w ∈ Ts) (hdg : decode cc pc = .ok (.getfield index, 3)) (hlink : Cond.fieldLink own index (TX1 3).1 (TX1 3).2.1 (TX1 3).2.2.1 ∈ Ts) (k : fmV p l e R s m args below meth c D A G nL o Q σ cells slots lv (.int (σ 40 a 0 0) :: rest) (pc + 3)) : fmV p l e R s m args below meth c D A G nL o Q σ cells slots lv (.ref (G.1 4 a 0) :: rest) pc :=
  fmV_get F (fm_mem (a := 2) (b := 1) (by decide +kernel) ha (by decide)) (fmC_is_4 G σ o a 0) rfl hin 3 (by decide) rfl hdg hlink k
theorem fmp_4_rowCount (F : fmF p s m args meth c D A G own cc nL ret Ts) {a index : Nat} {x : Int32} (ha : a < 2) (hin : ∀ w ∈ wsX10, w ∈ Ts) (hdg : decode cc pc = .ok (.putfield index, 3)) (hlink : Cond.fieldLink own index (TX1 3).1 (TX1 3).2.1 (TX1 3).2.2.1 ∈ Ts) (k : fmV p l e R s m args below meth c D A G nL o Q (fmu σ 40 a 0 (fun _ => x)) cells slots lv rest (pc + 3)) : fmV p l e R s m args below meth c D A G nL o Q σ cells slots lv (.int x :: .ref (G.1 4 a 0) :: rest) pc :=
  fmV_put F (fm_mem (a := 2) (b := 1) (by decide +kernel) ha (by decide)) (fmC_is_4 G σ o a 0) rfl hin tyX1 tyX1_ok nmX1 3 (by decide) (Nat.le_of_ble_eq_true rfl) rfl rfl rfl (fmP_4_3 G σ o a 0 x) hdg hlink k
theorem fmg_4_canoeCount (F : fmF p s m args meth c D A G own cc nL ret Ts) {a index : Nat} (ha : a < 2) (hin : ∀ w ∈ wsX10, w ∈ Ts) (hdg : decode cc pc = .ok (.getfield index, 3)) (hlink : Cond.fieldLink own index (TX1 4).1 (TX1 4).2.1 (TX1 4).2.2.1 ∈ Ts) (k : fmV p l e R s m args below meth c D A G nL o Q σ cells slots lv (.int (σ 41 a 0 0) :: rest) (pc + 3)) : fmV p l e R s m args below meth c D A G nL o Q σ cells slots lv (.ref (G.1 4 a 0) :: rest) pc :=
  fmV_get F (fm_mem (a := 2) (b := 1) (by decide +kernel) ha (by decide)) (fmC_is_4 G σ o a 0) rfl hin 4 (by decide) rfl hdg hlink k
theorem fmp_4_canoeCount (F : fmF p s m args meth c D A G own cc nL ret Ts) {a index : Nat} {x : Int32} (ha : a < 2) (hin : ∀ w ∈ wsX10, w ∈ Ts) (hdg : decode cc pc = .ok (.putfield index, 3)) (hlink : Cond.fieldLink own index (TX1 4).1 (TX1 4).2.1 (TX1 4).2.2.1 ∈ Ts) (k : fmV p l e R s m args below meth c D A G nL o Q (fmu σ 41 a 0 (fun _ => x)) cells slots lv rest (pc + 3)) : fmV p l e R s m args below meth c D A G nL o Q σ cells slots lv (.int x :: .ref (G.1 4 a 0) :: rest) pc :=
  fmV_put F (fm_mem (a := 2) (b := 1) (by decide +kernel) ha (by decide)) (fmC_is_4 G σ o a 0) rfl hin tyX1 tyX1_ok nmX1 4 (by decide) (Nat.le_of_ble_eq_true rfl) rfl rfl rfl (fmP_4_4 G σ o a 0 x) hdg hlink k
theorem fmg_4_step (F : fmF p s m args meth c D A G own cc nL ret Ts) {a index : Nat} (ha : a < 2) (hin : ∀ w ∈ wsX10, w ∈ Ts) (hdg : decode cc pc = .ok (.getfield index, 3)) (hlink : Cond.fieldLink own index (TX1 5).1 (TX1 5).2.1 (TX1 5).2.2.1 ∈ Ts) (k : fmV p l e R s m args below meth c D A G nL o Q σ cells slots lv (.int (σ 42 a 0 0) :: rest) (pc + 3)) : fmV p l e R s m args below meth c D A G nL o Q σ cells slots lv (.ref (G.1 4 a 0) :: rest) pc :=
  fmV_get F (fm_mem (a := 2) (b := 1) (by decide +kernel) ha (by decide)) (fmC_is_4 G σ o a 0) rfl hin 5 (by decide) rfl hdg hlink k
theorem fmp_4_step (F : fmF p s m args meth c D A G own cc nL ret Ts) {a index : Nat} {x : Int32} (ha : a < 2) (hin : ∀ w ∈ wsX10, w ∈ Ts) (hdg : decode cc pc = .ok (.putfield index, 3)) (hlink : Cond.fieldLink own index (TX1 5).1 (TX1 5).2.1 (TX1 5).2.2.1 ∈ Ts) (k : fmV p l e R s m args below meth c D A G nL o Q (fmu σ 42 a 0 (fun _ => x)) cells slots lv rest (pc + 3)) : fmV p l e R s m args below meth c D A G nL o Q σ cells slots lv (.int x :: .ref (G.1 4 a 0) :: rest) pc :=
  fmV_put F (fm_mem (a := 2) (b := 1) (by decide +kernel) ha (by decide)) (fmC_is_4 G σ o a 0) rfl hin tyX1 tyX1_ok nmX1 5 (by decide) (Nat.le_of_ble_eq_true rfl) rfl rfl rfl (fmP_4_5 G σ o a 0 x) hdg hlink k
theorem fmg_4_sold (F : fmF p s m args meth c D A G own cc nL ret Ts) {a index : Nat} (ha : a < 2) (hin : ∀ w ∈ wsX10, w ∈ Ts) (hdg : decode cc pc = .ok (.getfield index, 3)) (hlink : Cond.fieldLink own index (TX1 6).1 (TX1 6).2.1 (TX1 6).2.2.1 ∈ Ts) (k : fmV p l e R s m args below meth c D A G nL o Q σ cells slots lv (.int (σ 43 a 0 0) :: rest) (pc + 3)) : fmV p l e R s m args below meth c D A G nL o Q σ cells slots lv (.ref (G.1 4 a 0) :: rest) pc :=
  fmV_get F (fm_mem (a := 2) (b := 1) (by decide +kernel) ha (by decide)) (fmC_is_4 G σ o a 0) rfl hin 6 (by decide) rfl hdg hlink k
theorem fmp_4_sold (F : fmF p s m args meth c D A G own cc nL ret Ts) {a index : Nat} {x : Int32} (ha : a < 2) (hin : ∀ w ∈ wsX10, w ∈ Ts) (hdg : decode cc pc = .ok (.putfield index, 3)) (hlink : Cond.fieldLink own index (TX1 6).1 (TX1 6).2.1 (TX1 6).2.2.1 ∈ Ts) (k : fmV p l e R s m args below meth c D A G nL o Q (fmu σ 43 a 0 (fun _ => x)) cells slots lv rest (pc + 3)) : fmV p l e R s m args below meth c D A G nL o Q σ cells slots lv (.int x :: .ref (G.1 4 a 0) :: rest) pc :=
  fmV_put F (fm_mem (a := 2) (b := 1) (by decide +kernel) ha (by decide)) (fmC_is_4 G σ o a 0) rfl hin tyX1 tyX1_ok nmX1 6 (by decide) (Nat.le_of_ble_eq_true rfl) rfl rfl rfl (fmP_4_6 G σ o a 0 x) hdg hlink k
theorem fmg_4_paid (F : fmF p s m args meth c D A G own cc nL ret Ts) {a index : Nat} (ha : a < 2) (hin : ∀ w ∈ wsX10, w ∈ Ts) (hdg : decode cc pc = .ok (.getfield index, 3)) (hlink : Cond.fieldLink own index (TX1 7).1 (TX1 7).2.1 (TX1 7).2.2.1 ∈ Ts) (k : fmV p l e R s m args below meth c D A G nL o Q σ cells slots lv (.int (σ 44 a 0 0) :: rest) (pc + 3)) : fmV p l e R s m args below meth c D A G nL o Q σ cells slots lv (.ref (G.1 4 a 0) :: rest) pc :=
  fmV_get F (fm_mem (a := 2) (b := 1) (by decide +kernel) ha (by decide)) (fmC_is_4 G σ o a 0) rfl hin 7 (by decide) rfl hdg hlink k
theorem fmp_4_paid (F : fmF p s m args meth c D A G own cc nL ret Ts) {a index : Nat} {x : Int32} (ha : a < 2) (hin : ∀ w ∈ wsX10, w ∈ Ts) (hdg : decode cc pc = .ok (.putfield index, 3)) (hlink : Cond.fieldLink own index (TX1 7).1 (TX1 7).2.1 (TX1 7).2.2.1 ∈ Ts) (k : fmV p l e R s m args below meth c D A G nL o Q (fmu σ 44 a 0 (fun _ => x)) cells slots lv rest (pc + 3)) : fmV p l e R s m args below meth c D A G nL o Q σ cells slots lv (.int x :: .ref (G.1 4 a 0) :: rest) pc :=
  fmV_put F (fm_mem (a := 2) (b := 1) (by decide +kernel) ha (by decide)) (fmC_is_4 G σ o a 0) rfl hin tyX1 tyX1_ok nmX1 7 (by decide) (Nat.le_of_ble_eq_true rfl) rfl rfl rfl (fmP_4_7 G σ o a 0 x) hdg hlink k
theorem fmg_4_loosened (F : fmF p s m args meth c D A G own cc nL ret Ts) {a index : Nat} (ha : a < 2) (hin : ∀ w ∈ wsX10, w ∈ Ts) (hdg : decode cc pc = .ok (.getfield index, 3)) (hlink : Cond.fieldLink own index (TX1 8).1 (TX1 8).2.1 (TX1 8).2.2.1 ∈ Ts) (k : fmV p l e R s m args below meth c D A G nL o Q σ cells slots lv (.int (σ 45 a 0 0) :: rest) (pc + 3)) : fmV p l e R s m args below meth c D A G nL o Q σ cells slots lv (.ref (G.1 4 a 0) :: rest) pc :=
  fmV_get F (fm_mem (a := 2) (b := 1) (by decide +kernel) ha (by decide)) (fmC_is_4 G σ o a 0) rfl hin 8 (by decide) rfl hdg hlink k
theorem fmp_4_loosened (F : fmF p s m args meth c D A G own cc nL ret Ts) {a index : Nat} {x : Int32} (ha : a < 2) (hin : ∀ w ∈ wsX10, w ∈ Ts) (hdg : decode cc pc = .ok (.putfield index, 3)) (hlink : Cond.fieldLink own index (TX1 8).1 (TX1 8).2.1 (TX1 8).2.2.1 ∈ Ts) (k : fmV p l e R s m args below meth c D A G nL o Q (fmu σ 45 a 0 (fun _ => x)) cells slots lv rest (pc + 3)) : fmV p l e R s m args below meth c D A G nL o Q σ cells slots lv (.int x :: .ref (G.1 4 a 0) :: rest) pc :=
  fmV_put F (fm_mem (a := 2) (b := 1) (by decide +kernel) ha (by decide)) (fmC_is_4 G σ o a 0) rfl hin tyX1 tyX1_ok nmX1 8 (by decide) (Nat.le_of_ble_eq_true rfl) rfl rfl rfl (fmP_4_8 G σ o a 0 x) hdg hlink k
theorem fmg_4_drifted (F : fmF p s m args meth c D A G own cc nL ret Ts) {a index : Nat} (ha : a < 2) (hin : ∀ w ∈ wsX10, w ∈ Ts) (hdg : decode cc pc = .ok (.getfield index, 3)) (hlink : Cond.fieldLink own index (TX1 9).1 (TX1 9).2.1 (TX1 9).2.2.1 ∈ Ts) (k : fmV p l e R s m args below meth c D A G nL o Q σ cells slots lv (.int (σ 46 a 0 0) :: rest) (pc + 3)) : fmV p l e R s m args below meth c D A G nL o Q σ cells slots lv (.ref (G.1 4 a 0) :: rest) pc :=
  fmV_get F (fm_mem (a := 2) (b := 1) (by decide +kernel) ha (by decide)) (fmC_is_4 G σ o a 0) rfl hin 9 (by decide) rfl hdg hlink k
theorem fmp_4_drifted (F : fmF p s m args meth c D A G own cc nL ret Ts) {a index : Nat} {x : Int32} (ha : a < 2) (hin : ∀ w ∈ wsX10, w ∈ Ts) (hdg : decode cc pc = .ok (.putfield index, 3)) (hlink : Cond.fieldLink own index (TX1 9).1 (TX1 9).2.1 (TX1 9).2.2.1 ∈ Ts) (k : fmV p l e R s m args below meth c D A G nL o Q (fmu σ 46 a 0 (fun _ => x)) cells slots lv rest (pc + 3)) : fmV p l e R s m args below meth c D A G nL o Q σ cells slots lv (.int x :: .ref (G.1 4 a 0) :: rest) pc :=
  fmV_put F (fm_mem (a := 2) (b := 1) (by decide +kernel) ha (by decide)) (fmC_is_4 G σ o a 0) rfl hin tyX1 tyX1_ok nmX1 9 (by decide) (Nat.le_of_ble_eq_true rfl) rfl rfl rfl (fmP_4_9 G σ o a 0 x) hdg hlink k
theorem fmg_7_moored (F : fmF p s m args meth c D A G own cc nL ret Ts) {a b index : Nat} (ha : a < 2) (hb9 : b < 4) (hin : ∀ w ∈ wsX20, w ∈ Ts) (hdg : decode cc pc = .ok (.getfield index, 3)) (hlink : Cond.fieldLink own index (TX2 0).1 (TX2 0).2.1 (TX2 0).2.2.1 ∈ Ts) (k : fmV p l e R s m args below meth c D A G nL o Q σ cells slots lv (.ref (G.1 8 a b) :: rest) (pc + 3)) : fmV p l e R s m args below meth c D A G nL o Q σ cells slots lv (.ref (G.1 7 a b) :: rest) pc :=
  fmV_get F (fm_mem (a := 2) (b := 4) (by decide +kernel) ha hb9) (fmC_is_7 G σ o a b) rfl hin 0 (by decide) rfl hdg hlink k
theorem fmg_7_places (F : fmF p s m args meth c D A G own cc nL ret Ts) {a b index : Nat} (ha : a < 2) (hb9 : b < 4) (hin : ∀ w ∈ wsX20, w ∈ Ts) (hdg : decode cc pc = .ok (.getfield index, 3)) (hlink : Cond.fieldLink own index (TX2 1).1 (TX2 1).2.1 (TX2 1).2.2.1 ∈ Ts) (k : fmV p l e R s m args below meth c D A G nL o Q σ cells slots lv (.int (σ 47 a b 0) :: rest) (pc + 3)) : fmV p l e R s m args below meth c D A G nL o Q σ cells slots lv (.ref (G.1 7 a b) :: rest) pc :=
  fmV_get F (fm_mem (a := 2) (b := 4) (by decide +kernel) ha hb9) (fmC_is_7 G σ o a b) rfl hin 1 (by decide) rfl hdg hlink k
theorem fmp_7_places (F : fmF p s m args meth c D A G own cc nL ret Ts) {a b index : Nat} {x : Int32} (ha : a < 2) (hb9 : b < 4) (hin : ∀ w ∈ wsX20, w ∈ Ts) (hdg : decode cc pc = .ok (.putfield index, 3)) (hlink : Cond.fieldLink own index (TX2 1).1 (TX2 1).2.1 (TX2 1).2.2.1 ∈ Ts) (k : fmV p l e R s m args below meth c D A G nL o Q (fmu σ 47 a b (fun _ => x)) cells slots lv rest (pc + 3)) : fmV p l e R s m args below meth c D A G nL o Q σ cells slots lv (.int x :: .ref (G.1 7 a b) :: rest) pc :=
  fmV_put F (fm_mem (a := 2) (b := 4) (by decide +kernel) ha hb9) (fmC_is_7 G σ o a b) rfl hin tyX2 tyX2_ok nmX2 1 (by decide) (Nat.le_of_ble_eq_true rfl) rfl rfl rfl (fmP_7_1 G σ o a b x) hdg hlink k
theorem fmg_7_used (F : fmF p s m args meth c D A G own cc nL ret Ts) {a b index : Nat} (ha : a < 2) (hb9 : b < 4) (hin : ∀ w ∈ wsX20, w ∈ Ts) (hdg : decode cc pc = .ok (.getfield index, 3)) (hlink : Cond.fieldLink own index (TX2 2).1 (TX2 2).2.1 (TX2 2).2.2.1 ∈ Ts) (k : fmV p l e R s m args below meth c D A G nL o Q σ cells slots lv (.int (σ 48 a b 0) :: rest) (pc + 3)) : fmV p l e R s m args below meth c D A G nL o Q σ cells slots lv (.ref (G.1 7 a b) :: rest) pc :=
  fmV_get F (fm_mem (a := 2) (b := 4) (by decide +kernel) ha hb9) (fmC_is_7 G σ o a b) rfl hin 2 (by decide) rfl hdg hlink k
theorem fmp_7_used (F : fmF p s m args meth c D A G own cc nL ret Ts) {a b index : Nat} {x : Int32} (ha : a < 2) (hb9 : b < 4) (hin : ∀ w ∈ wsX20, w ∈ Ts) (hdg : decode cc pc = .ok (.putfield index, 3)) (hlink : Cond.fieldLink own index (TX2 2).1 (TX2 2).2.1 (TX2 2).2.2.1 ∈ Ts) (k : fmV p l e R s m args below meth c D A G nL o Q (fmu σ 48 a b (fun _ => x)) cells slots lv rest (pc + 3)) : fmV p l e R s m args below meth c D A G nL o Q σ cells slots lv (.int x :: .ref (G.1 7 a b) :: rest) pc :=
  fmV_put F (fm_mem (a := 2) (b := 4) (by decide +kernel) ha hb9) (fmC_is_7 G σ o a b) rfl hin tyX2 tyX2_ok nmX2 2 (by decide) (Nat.le_of_ble_eq_true rfl) rfl rfl rfl (fmP_7_2 G σ o a b x) hdg hlink k
theorem fmg_9_number (F : fmF p s m args meth c D A G own cc nL ret Ts) {a b index : Nat} (ha : a < 2) (hb9 : b < 14) (hin : ∀ w ∈ wsX00, w ∈ Ts) (hdg : decode cc pc = .ok (.getfield index, 3)) (hlink : Cond.fieldLink own index (TX0 0).1 (TX0 0).2.1 (TX0 0).2.2.1 ∈ Ts) (k : fmV p l e R s m args below meth c D A G nL o Q σ cells slots lv (.int (nI b) :: rest) (pc + 3)) : fmV p l e R s m args below meth c D A G nL o Q σ cells slots lv (.ref (G.1 9 a b) :: rest) pc :=
  fmV_get F (fm_mem (a := 2) (b := 14) (by decide +kernel) ha hb9) (fmC_is_9 G σ o a b) rfl hin 0 (by decide) rfl hdg hlink k
theorem fmg_9_has (F : fmF p s m args meth c D A G own cc nL ret Ts) {a b index : Nat} (ha : a < 2) (hb9 : b < 14) (hin : ∀ w ∈ wsX00, w ∈ Ts) (hdg : decode cc pc = .ok (.getfield index, 3)) (hlink : Cond.fieldLink own index (TX0 1).1 (TX0 1).2.1 (TX0 1).2.2.1 ∈ Ts) (k : fmV p l e R s m args below meth c D A G nL o Q σ cells slots lv (.ref (G.1 10 a b) :: rest) (pc + 3)) : fmV p l e R s m args below meth c D A G nL o Q σ cells slots lv (.ref (G.1 9 a b) :: rest) pc :=
  fmV_get F (fm_mem (a := 2) (b := 14) (by decide +kernel) ha hb9) (fmC_is_9 G σ o a b) rfl hin 1 (by decide) rfl hdg hlink k
theorem fmg_9_asks (F : fmF p s m args meth c D A G own cc nL ret Ts) {a b index : Nat} (ha : a < 2) (hb9 : b < 14) (hin : ∀ w ∈ wsX00, w ∈ Ts) (hdg : decode cc pc = .ok (.getfield index, 3)) (hlink : Cond.fieldLink own index (TX0 2).1 (TX0 2).2.1 (TX0 2).2.2.1 ∈ Ts) (k : fmV p l e R s m args below meth c D A G nL o Q σ cells slots lv (.ref (G.1 11 a b) :: rest) (pc + 3)) : fmV p l e R s m args below meth c D A G nL o Q σ cells slots lv (.ref (G.1 9 a b) :: rest) pc :=
  fmV_get F (fm_mem (a := 2) (b := 14) (by decide +kernel) ha hb9) (fmC_is_9 G σ o a b) rfl hin 2 (by decide) rfl hdg hlink k
theorem fmg_9_wants (F : fmF p s m args meth c D A G own cc nL ret Ts) {a b index : Nat} (ha : a < 2) (hb9 : b < 14) (hin : ∀ w ∈ wsX00, w ∈ Ts) (hdg : decode cc pc = .ok (.getfield index, 3)) (hlink : Cond.fieldLink own index (TX0 3).1 (TX0 3).2.1 (TX0 3).2.2.1 ∈ Ts) (k : fmV p l e R s m args below meth c D A G nL o Q σ cells slots lv (.ref (G.1 12 a b) :: rest) (pc + 3)) : fmV p l e R s m args below meth c D A G nL o Q σ cells slots lv (.ref (G.1 9 a b) :: rest) pc :=
  fmV_get F (fm_mem (a := 2) (b := 14) (by decide +kernel) ha hb9) (fmC_is_9 G σ o a b) rfl hin 3 (by decide) rfl hdg hlink k
theorem fmg_9_pays (F : fmF p s m args meth c D A G own cc nL ret Ts) {a b index : Nat} (ha : a < 2) (hb9 : b < 14) (hin : ∀ w ∈ wsX00, w ∈ Ts) (hdg : decode cc pc = .ok (.getfield index, 3)) (hlink : Cond.fieldLink own index (TX0 4).1 (TX0 4).2.1 (TX0 4).2.2.1 ∈ Ts) (k : fmV p l e R s m args below meth c D A G nL o Q σ cells slots lv (.ref (G.1 13 a b) :: rest) (pc + 3)) : fmV p l e R s m args below meth c D A G nL o Q σ cells slots lv (.ref (G.1 9 a b) :: rest) pc :=
  fmV_get F (fm_mem (a := 2) (b := 14) (by decide +kernel) ha hb9) (fmC_is_9 G σ o a b) rfl hin 4 (by decide) rfl hdg hlink k
theorem fmg_9_coins (F : fmF p s m args meth c D A G own cc nL ret Ts) {a b index : Nat} (ha : a < 2) (hb9 : b < 14) (hin : ∀ w ∈ wsX00, w ∈ Ts) (hdg : decode cc pc = .ok (.getfield index, 3)) (hlink : Cond.fieldLink own index (TX0 5).1 (TX0 5).2.1 (TX0 5).2.2.1 ∈ Ts) (k : fmV p l e R s m args below meth c D A G nL o Q σ cells slots lv (.int (σ 50 a b 0) :: rest) (pc + 3)) : fmV p l e R s m args below meth c D A G nL o Q σ cells slots lv (.ref (G.1 9 a b) :: rest) pc :=
  fmV_get F (fm_mem (a := 2) (b := 14) (by decide +kernel) ha hb9) (fmC_is_9 G σ o a b) rfl hin 5 (by decide) rfl hdg hlink k
theorem fmp_9_coins (F : fmF p s m args meth c D A G own cc nL ret Ts) {a b index : Nat} {x : Int32} (ha : a < 2) (hb9 : b < 14) (hin : ∀ w ∈ wsX00, w ∈ Ts) (hdg : decode cc pc = .ok (.putfield index, 3)) (hlink : Cond.fieldLink own index (TX0 5).1 (TX0 5).2.1 (TX0 5).2.2.1 ∈ Ts) (k : fmV p l e R s m args below meth c D A G nL o Q (fmu σ 50 a b (fun _ => x)) cells slots lv rest (pc + 3)) : fmV p l e R s m args below meth c D A G nL o Q σ cells slots lv (.int x :: .ref (G.1 9 a b) :: rest) pc :=
  fmV_put F (fm_mem (a := 2) (b := 14) (by decide +kernel) ha hb9) (fmC_is_9 G σ o a b) rfl hin tyX0 tyX0_ok nmX0 5 (by decide) (Nat.le_of_ble_eq_true rfl) rfl rfl rfl (fmP_9_5 G σ o a b x) hdg hlink k
theorem fmg_9_rope (F : fmF p s m args meth c D A G own cc nL ret Ts) {a b index : Nat} (ha : a < 2) (hb9 : b < 14) (hin : ∀ w ∈ wsX00, w ∈ Ts) (hdg : decode cc pc = .ok (.getfield index, 3)) (hlink : Cond.fieldLink own index (TX0 6).1 (TX0 6).2.1 (TX0 6).2.2.1 ∈ Ts) (k : fmV p l e R s m args below meth c D A G nL o Q σ cells slots lv (.int (σ 51 a b 0) :: rest) (pc + 3)) : fmV p l e R s m args below meth c D A G nL o Q σ cells slots lv (.ref (G.1 9 a b) :: rest) pc :=
  fmV_get F (fm_mem (a := 2) (b := 14) (by decide +kernel) ha hb9) (fmC_is_9 G σ o a b) rfl hin 6 (by decide) rfl hdg hlink k
theorem fmp_9_rope (F : fmF p s m args meth c D A G own cc nL ret Ts) {a b index : Nat} {x : Int32} (ha : a < 2) (hb9 : b < 14) (hin : ∀ w ∈ wsX00, w ∈ Ts) (hdg : decode cc pc = .ok (.putfield index, 3)) (hlink : Cond.fieldLink own index (TX0 6).1 (TX0 6).2.1 (TX0 6).2.2.1 ∈ Ts) (k : fmV p l e R s m args below meth c D A G nL o Q (fmu σ 51 a b (fun _ => x)) cells slots lv rest (pc + 3)) : fmV p l e R s m args below meth c D A G nL o Q σ cells slots lv (.int x :: .ref (G.1 9 a b) :: rest) pc :=
  fmV_put F (fm_mem (a := 2) (b := 14) (by decide +kernel) ha hb9) (fmC_is_9 G σ o a b) rfl hin tyX0 tyX0_ok nmX0 6 (by decide) (Nat.le_of_ble_eq_true rfl) rfl rfl rfl (fmP_9_6 G σ o a b x) hdg hlink k
theorem fmg_9_status (F : fmF p s m args meth c D A G own cc nL ret Ts) {a b index : Nat} (ha : a < 2) (hb9 : b < 14) (hin : ∀ w ∈ wsX00, w ∈ Ts) (hdg : decode cc pc = .ok (.getfield index, 3)) (hlink : Cond.fieldLink own index (TX0 7).1 (TX0 7).2.1 (TX0 7).2.2.1 ∈ Ts) (k : fmV p l e R s m args below meth c D A G nL o Q σ cells slots lv (.int (σ 52 a b 0) :: rest) (pc + 3)) : fmV p l e R s m args below meth c D A G nL o Q σ cells slots lv (.ref (G.1 9 a b) :: rest) pc :=
  fmV_get F (fm_mem (a := 2) (b := 14) (by decide +kernel) ha hb9) (fmC_is_9 G σ o a b) rfl hin 7 (by decide) rfl hdg hlink k
theorem fmp_9_status (F : fmF p s m args meth c D A G own cc nL ret Ts) {a b index : Nat} {x : Int32} (ha : a < 2) (hb9 : b < 14) (hin : ∀ w ∈ wsX00, w ∈ Ts) (hdg : decode cc pc = .ok (.putfield index, 3)) (hlink : Cond.fieldLink own index (TX0 7).1 (TX0 7).2.1 (TX0 7).2.2.1 ∈ Ts) (k : fmV p l e R s m args below meth c D A G nL o Q (fmu σ 52 a b (fun _ => x)) cells slots lv rest (pc + 3)) : fmV p l e R s m args below meth c D A G nL o Q σ cells slots lv (.int x :: .ref (G.1 9 a b) :: rest) pc :=
  fmV_put F (fm_mem (a := 2) (b := 14) (by decide +kernel) ha hb9) (fmC_is_9 G σ o a b) rfl hin tyX0 tyX0_ok nmX0 7 (by decide) (Nat.le_of_ble_eq_true rfl) rfl rfl rfl (fmP_9_7 G σ o a b x) hdg hlink k
theorem fmg_9_row (F : fmF p s m args meth c D A G own cc nL ret Ts) {a b index : Nat} (ha : a < 2) (hb9 : b < 14) (hin : ∀ w ∈ wsX00, w ∈ Ts) (hdg : decode cc pc = .ok (.getfield index, 3)) (hlink : Cond.fieldLink own index (TX0 8).1 (TX0 8).2.1 (TX0 8).2.2.1 ∈ Ts) (k : fmV p l e R s m args below meth c D A G nL o Q σ cells slots lv (.int (σ 53 a b 0) :: rest) (pc + 3)) : fmV p l e R s m args below meth c D A G nL o Q σ cells slots lv (.ref (G.1 9 a b) :: rest) pc :=
  fmV_get F (fm_mem (a := 2) (b := 14) (by decide +kernel) ha hb9) (fmC_is_9 G σ o a b) rfl hin 8 (by decide) rfl hdg hlink k
theorem fmp_9_row (F : fmF p s m args meth c D A G own cc nL ret Ts) {a b index : Nat} {x : Int32} (ha : a < 2) (hb9 : b < 14) (hin : ∀ w ∈ wsX00, w ∈ Ts) (hdg : decode cc pc = .ok (.putfield index, 3)) (hlink : Cond.fieldLink own index (TX0 8).1 (TX0 8).2.1 (TX0 8).2.2.1 ∈ Ts) (k : fmV p l e R s m args below meth c D A G nL o Q (fmu σ 53 a b (fun _ => x)) cells slots lv rest (pc + 3)) : fmV p l e R s m args below meth c D A G nL o Q σ cells slots lv (.int x :: .ref (G.1 9 a b) :: rest) pc :=
  fmV_put F (fm_mem (a := 2) (b := 14) (by decide +kernel) ha hb9) (fmC_is_9 G σ o a b) rfl hin tyX0 tyX0_ok nmX0 8 (by decide) (Nat.le_of_ble_eq_true rfl) rfl rfl rfl (fmP_9_8 G σ o a b x) hdg hlink k
theorem fmg_9_place (F : fmF p s m args meth c D A G own cc nL ret Ts) {a b index : Nat} (ha : a < 2) (hb9 : b < 14) (hin : ∀ w ∈ wsX00, w ∈ Ts) (hdg : decode cc pc = .ok (.getfield index, 3)) (hlink : Cond.fieldLink own index (TX0 9).1 (TX0 9).2.1 (TX0 9).2.2.1 ∈ Ts) (k : fmV p l e R s m args below meth c D A G nL o Q σ cells slots lv (.int (σ 54 a b 0) :: rest) (pc + 3)) : fmV p l e R s m args below meth c D A G nL o Q σ cells slots lv (.ref (G.1 9 a b) :: rest) pc :=
  fmV_get F (fm_mem (a := 2) (b := 14) (by decide +kernel) ha hb9) (fmC_is_9 G σ o a b) rfl hin 9 (by decide) rfl hdg hlink k
theorem fmp_9_place (F : fmF p s m args meth c D A G own cc nL ret Ts) {a b index : Nat} {x : Int32} (ha : a < 2) (hb9 : b < 14) (hin : ∀ w ∈ wsX00, w ∈ Ts) (hdg : decode cc pc = .ok (.putfield index, 3)) (hlink : Cond.fieldLink own index (TX0 9).1 (TX0 9).2.1 (TX0 9).2.2.1 ∈ Ts) (k : fmV p l e R s m args below meth c D A G nL o Q (fmu σ 54 a b (fun _ => x)) cells slots lv rest (pc + 3)) : fmV p l e R s m args below meth c D A G nL o Q σ cells slots lv (.int x :: .ref (G.1 9 a b) :: rest) pc :=
  fmV_put F (fm_mem (a := 2) (b := 14) (by decide +kernel) ha hb9) (fmC_is_9 G σ o a b) rfl hin tyX0 tyX0_ok nmX0 9 (by decide) (Nat.le_of_ble_eq_true rfl) rfl rfl rfl (fmP_9_9 G σ o a b x) hdg hlink k
theorem fmg_9_leaveStep (F : fmF p s m args meth c D A G own cc nL ret Ts) {a b index : Nat} (ha : a < 2) (hb9 : b < 14) (hin : ∀ w ∈ wsX00, w ∈ Ts) (hdg : decode cc pc = .ok (.getfield index, 3)) (hlink : Cond.fieldLink own index (TX0 10).1 (TX0 10).2.1 (TX0 10).2.2.1 ∈ Ts) (k : fmV p l e R s m args below meth c D A G nL o Q σ cells slots lv (.int (σ 55 a b 0) :: rest) (pc + 3)) : fmV p l e R s m args below meth c D A G nL o Q σ cells slots lv (.ref (G.1 9 a b) :: rest) pc :=
  fmV_get F (fm_mem (a := 2) (b := 14) (by decide +kernel) ha hb9) (fmC_is_9 G σ o a b) rfl hin 10 (by decide) rfl hdg hlink k
theorem fmp_9_leaveStep (F : fmF p s m args meth c D A G own cc nL ret Ts) {a b index : Nat} {x : Int32} (ha : a < 2) (hb9 : b < 14) (hin : ∀ w ∈ wsX00, w ∈ Ts) (hdg : decode cc pc = .ok (.putfield index, 3)) (hlink : Cond.fieldLink own index (TX0 10).1 (TX0 10).2.1 (TX0 10).2.2.1 ∈ Ts) (k : fmV p l e R s m args below meth c D A G nL o Q (fmu σ 55 a b (fun _ => x)) cells slots lv rest (pc + 3)) : fmV p l e R s m args below meth c D A G nL o Q σ cells slots lv (.int x :: .ref (G.1 9 a b) :: rest) pc :=
  fmV_put F (fm_mem (a := 2) (b := 14) (by decide +kernel) ha hb9) (fmC_is_9 G σ o a b) rfl hin tyX0 tyX0_ok nmX0 10 (by decide) (Nat.le_of_ble_eq_true rfl) rfl rfl rfl (fmP_9_10 G σ o a b x) hdg hlink k
theorem fmg_9_loosened (F : fmF p s m args meth c D A G own cc nL ret Ts) {a b index : Nat} (ha : a < 2) (hb9 : b < 14) (hin : ∀ w ∈ wsX00, w ∈ Ts) (hdg : decode cc pc = .ok (.getfield index, 3)) (hlink : Cond.fieldLink own index (TX0 11).1 (TX0 11).2.1 (TX0 11).2.2.1 ∈ Ts) (k : fmV p l e R s m args below meth c D A G nL o Q σ cells slots lv (.int (σ 56 a b 0) :: rest) (pc + 3)) : fmV p l e R s m args below meth c D A G nL o Q σ cells slots lv (.ref (G.1 9 a b) :: rest) pc :=
  fmV_get F (fm_mem (a := 2) (b := 14) (by decide +kernel) ha hb9) (fmC_is_9 G σ o a b) rfl hin 11 (by decide) rfl hdg hlink k
theorem fmp_9_loosened (F : fmF p s m args meth c D A G own cc nL ret Ts) {a b index : Nat} {x : Int32} (ha : a < 2) (hb9 : b < 14) (hin : ∀ w ∈ wsX00, w ∈ Ts) (hdg : decode cc pc = .ok (.putfield index, 3)) (hlink : Cond.fieldLink own index (TX0 11).1 (TX0 11).2.1 (TX0 11).2.2.1 ∈ Ts) (k : fmV p l e R s m args below meth c D A G nL o Q (fmu σ 56 a b (fun _ => x)) cells slots lv rest (pc + 3)) : fmV p l e R s m args below meth c D A G nL o Q σ cells slots lv (.int x :: .ref (G.1 9 a b) :: rest) pc :=
  fmV_put F (fm_mem (a := 2) (b := 14) (by decide +kernel) ha hb9) (fmC_is_9 G σ o a b) rfl hin tyX0 tyX0_ok nmX0 11 (by decide) (Nat.le_of_ble_eq_true rfl) rfl rfl rfl (fmP_9_11 G σ o a b x) hdg hlink k
theorem fmg_9_drifted (F : fmF p s m args meth c D A G own cc nL ret Ts) {a b index : Nat} (ha : a < 2) (hb9 : b < 14) (hin : ∀ w ∈ wsX00, w ∈ Ts) (hdg : decode cc pc = .ok (.getfield index, 3)) (hlink : Cond.fieldLink own index (TX0 12).1 (TX0 12).2.1 (TX0 12).2.2.1 ∈ Ts) (k : fmV p l e R s m args below meth c D A G nL o Q σ cells slots lv (.int (σ 57 a b 0) :: rest) (pc + 3)) : fmV p l e R s m args below meth c D A G nL o Q σ cells slots lv (.ref (G.1 9 a b) :: rest) pc :=
  fmV_get F (fm_mem (a := 2) (b := 14) (by decide +kernel) ha hb9) (fmC_is_9 G σ o a b) rfl hin 12 (by decide) rfl hdg hlink k
theorem fmp_9_drifted (F : fmF p s m args meth c D A G own cc nL ret Ts) {a b index : Nat} {x : Int32} (ha : a < 2) (hb9 : b < 14) (hin : ∀ w ∈ wsX00, w ∈ Ts) (hdg : decode cc pc = .ok (.putfield index, 3)) (hlink : Cond.fieldLink own index (TX0 12).1 (TX0 12).2.1 (TX0 12).2.2.1 ∈ Ts) (k : fmV p l e R s m args below meth c D A G nL o Q (fmu σ 57 a b (fun _ => x)) cells slots lv rest (pc + 3)) : fmV p l e R s m args below meth c D A G nL o Q σ cells slots lv (.int x :: .ref (G.1 9 a b) :: rest) pc :=
  fmV_put F (fm_mem (a := 2) (b := 14) (by decide +kernel) ha hb9) (fmC_is_9 G σ o a b) rfl hin tyX0 tyX0_ok nmX0 12 (by decide) (Nat.le_of_ble_eq_true rfl) rfl rfl rfl (fmP_9_12 G σ o a b x) hdg hlink k
theorem fmg_9_lastDriftStep (F : fmF p s m args meth c D A G own cc nL ret Ts) {a b index : Nat} (ha : a < 2) (hb9 : b < 14) (hin : ∀ w ∈ wsX00, w ∈ Ts) (hdg : decode cc pc = .ok (.getfield index, 3)) (hlink : Cond.fieldLink own index (TX0 13).1 (TX0 13).2.1 (TX0 13).2.2.1 ∈ Ts) (k : fmV p l e R s m args below meth c D A G nL o Q σ cells slots lv (.int (σ 58 a b 0) :: rest) (pc + 3)) : fmV p l e R s m args below meth c D A G nL o Q σ cells slots lv (.ref (G.1 9 a b) :: rest) pc :=
  fmV_get F (fm_mem (a := 2) (b := 14) (by decide +kernel) ha hb9) (fmC_is_9 G σ o a b) rfl hin 13 (by decide) rfl hdg hlink k
theorem fmp_9_lastDriftStep (F : fmF p s m args meth c D A G own cc nL ret Ts) {a b index : Nat} {x : Int32} (ha : a < 2) (hb9 : b < 14) (hin : ∀ w ∈ wsX00, w ∈ Ts) (hdg : decode cc pc = .ok (.putfield index, 3)) (hlink : Cond.fieldLink own index (TX0 13).1 (TX0 13).2.1 (TX0 13).2.2.1 ∈ Ts) (k : fmV p l e R s m args below meth c D A G nL o Q (fmu σ 58 a b (fun _ => x)) cells slots lv rest (pc + 3)) : fmV p l e R s m args below meth c D A G nL o Q σ cells slots lv (.int x :: .ref (G.1 9 a b) :: rest) pc :=
  fmV_put F (fm_mem (a := 2) (b := 14) (by decide +kernel) ha hb9) (fmC_is_9 G σ o a b) rfl hin tyX0 tyX0_ok nmX0 13 (by decide) (Nat.le_of_ble_eq_true rfl) rfl rfl rfl (fmP_9_13 G σ o a b x) hdg hlink k
theorem fmg_9_sold (F : fmF p s m args meth c D A G own cc nL ret Ts) {a b index : Nat} (ha : a < 2) (hb9 : b < 14) (hin : ∀ w ∈ wsX00, w ∈ Ts) (hdg : decode cc pc = .ok (.getfield index, 3)) (hlink : Cond.fieldLink own index (TX0 14).1 (TX0 14).2.1 (TX0 14).2.2.1 ∈ Ts) (k : fmV p l e R s m args below meth c D A G nL o Q σ cells slots lv (.int (σ 59 a b 0) :: rest) (pc + 3)) : fmV p l e R s m args below meth c D A G nL o Q σ cells slots lv (.ref (G.1 9 a b) :: rest) pc :=
  fmV_get F (fm_mem (a := 2) (b := 14) (by decide +kernel) ha hb9) (fmC_is_9 G σ o a b) rfl hin 14 (by decide) rfl hdg hlink k
theorem fmp_9_sold (F : fmF p s m args meth c D A G own cc nL ret Ts) {a b index : Nat} {x : Int32} (ha : a < 2) (hb9 : b < 14) (hin : ∀ w ∈ wsX00, w ∈ Ts) (hdg : decode cc pc = .ok (.putfield index, 3)) (hlink : Cond.fieldLink own index (TX0 14).1 (TX0 14).2.1 (TX0 14).2.2.1 ∈ Ts) (k : fmV p l e R s m args below meth c D A G nL o Q (fmu σ 59 a b (fun _ => x)) cells slots lv rest (pc + 3)) : fmV p l e R s m args below meth c D A G nL o Q σ cells slots lv (.int x :: .ref (G.1 9 a b) :: rest) pc :=
  fmV_put F (fm_mem (a := 2) (b := 14) (by decide +kernel) ha hb9) (fmC_is_9 G σ o a b) rfl hin tyX0 tyX0_ok nmX0 14 (by decide) (Nat.le_of_ble_eq_true rfl) rfl rfl rfl (fmP_9_14 G σ o a b x) hdg hlink k
theorem fmg_9_bought (F : fmF p s m args meth c D A G own cc nL ret Ts) {a b index : Nat} (ha : a < 2) (hb9 : b < 14) (hin : ∀ w ∈ wsX00, w ∈ Ts) (hdg : decode cc pc = .ok (.getfield index, 3)) (hlink : Cond.fieldLink own index (TX0 15).1 (TX0 15).2.1 (TX0 15).2.2.1 ∈ Ts) (k : fmV p l e R s m args below meth c D A G nL o Q σ cells slots lv (.int (σ 60 a b 0) :: rest) (pc + 3)) : fmV p l e R s m args below meth c D A G nL o Q σ cells slots lv (.ref (G.1 9 a b) :: rest) pc :=
  fmV_get F (fm_mem (a := 2) (b := 14) (by decide +kernel) ha hb9) (fmC_is_9 G σ o a b) rfl hin 15 (by decide) rfl hdg hlink k
theorem fmp_9_bought (F : fmF p s m args meth c D A G own cc nL ret Ts) {a b index : Nat} {x : Int32} (ha : a < 2) (hb9 : b < 14) (hin : ∀ w ∈ wsX00, w ∈ Ts) (hdg : decode cc pc = .ok (.putfield index, 3)) (hlink : Cond.fieldLink own index (TX0 15).1 (TX0 15).2.1 (TX0 15).2.2.1 ∈ Ts) (k : fmV p l e R s m args below meth c D A G nL o Q (fmu σ 60 a b (fun _ => x)) cells slots lv rest (pc + 3)) : fmV p l e R s m args below meth c D A G nL o Q σ cells slots lv (.int x :: .ref (G.1 9 a b) :: rest) pc :=
  fmV_put F (fm_mem (a := 2) (b := 14) (by decide +kernel) ha hb9) (fmC_is_9 G σ o a b) rfl hin tyX0 tyX0_ok nmX0 15 (by decide) (Nat.le_of_ble_eq_true rfl) rfl rfl rfl (fmP_9_15 G σ o a b x) hdg hlink k
theorem fmg_14_thrown (F : fmF p s m args meth c D A G own cc nL ret Ts) {index : Nat}  (hin : ∀ w ∈ wsX60, w ∈ Ts) (hdg : decode cc pc = .ok (.getfield index, 3)) (hlink : Cond.fieldLink own index (TX6 0).1 (TX6 0).2.1 (TX6 0).2.2.1 ∈ Ts) (k : fmV p l e R s m args below meth c D A G nL o Q σ cells slots lv (.int (σ 61 0 0 0) :: rest) (pc + 3)) : fmV p l e R s m args below meth c D A G nL o Q σ cells slots lv (.ref (G.1 14 0 0) :: rest) pc :=
  fmV_get F (fm_mem (a := 1) (b := 1) (by decide +kernel) (by decide) (by decide)) (fmC_is_14 G σ o 0 0) rfl hin 0 (by decide) rfl hdg hlink k
theorem fmp_14_thrown (F : fmF p s m args meth c D A G own cc nL ret Ts) {index : Nat} {x : Int32}  (hin : ∀ w ∈ wsX60, w ∈ Ts) (hdg : decode cc pc = .ok (.putfield index, 3)) (hlink : Cond.fieldLink own index (TX6 0).1 (TX6 0).2.1 (TX6 0).2.2.1 ∈ Ts) (k : fmV p l e R s m args below meth c D A G nL o Q (fmu σ 61 0 0 (fun _ => x)) cells slots lv rest (pc + 3)) : fmV p l e R s m args below meth c D A G nL o Q σ cells slots lv (.int x :: .ref (G.1 14 0 0) :: rest) pc :=
  fmV_put F (fm_mem (a := 1) (b := 1) (by decide +kernel) (by decide) (by decide)) (fmC_is_14 G σ o 0 0) rfl hin tyX6 tyX6_ok nmX6 0 (by decide) (Nat.le_of_ble_eq_true rfl) rfl rfl rfl (fmP_14_0 G σ o 0 0 x) hdg hlink k
theorem fmg_14_rows (F : fmF p s m args meth c D A G own cc nL ret Ts) {index : Nat}  (hin : ∀ w ∈ wsX60, w ∈ Ts) (hdg : decode cc pc = .ok (.getfield index, 3)) (hlink : Cond.fieldLink own index (TX6 1).1 (TX6 1).2.1 (TX6 1).2.2.1 ∈ Ts) (k : fmV p l e R s m args below meth c D A G nL o Q σ cells slots lv (.int (σ 62 0 0 0) :: rest) (pc + 3)) : fmV p l e R s m args below meth c D A G nL o Q σ cells slots lv (.ref (G.1 14 0 0) :: rest) pc :=
  fmV_get F (fm_mem (a := 1) (b := 1) (by decide +kernel) (by decide) (by decide)) (fmC_is_14 G σ o 0 0) rfl hin 1 (by decide) rfl hdg hlink k
theorem fmp_14_rows (F : fmF p s m args meth c D A G own cc nL ret Ts) {index : Nat} {x : Int32}  (hin : ∀ w ∈ wsX60, w ∈ Ts) (hdg : decode cc pc = .ok (.putfield index, 3)) (hlink : Cond.fieldLink own index (TX6 1).1 (TX6 1).2.1 (TX6 1).2.2.1 ∈ Ts) (k : fmV p l e R s m args below meth c D A G nL o Q (fmu σ 62 0 0 (fun _ => x)) cells slots lv rest (pc + 3)) : fmV p l e R s m args below meth c D A G nL o Q σ cells slots lv (.int x :: .ref (G.1 14 0 0) :: rest) pc :=
  fmV_put F (fm_mem (a := 1) (b := 1) (by decide +kernel) (by decide) (by decide)) (fmC_is_14 G σ o 0 0) rfl hin tyX6 tyX6_ok nmX6 1 (by decide) (Nat.le_of_ble_eq_true rfl) rfl rfl rfl (fmP_14_1 G σ o 0 0 x) hdg hlink k
theorem fmg_14_places (F : fmF p s m args meth c D A G own cc nL ret Ts) {index : Nat}  (hin : ∀ w ∈ wsX60, w ∈ Ts) (hdg : decode cc pc = .ok (.getfield index, 3)) (hlink : Cond.fieldLink own index (TX6 2).1 (TX6 2).2.1 (TX6 2).2.2.1 ∈ Ts) (k : fmV p l e R s m args below meth c D A G nL o Q σ cells slots lv (.ref (G.1 15 0 0) :: rest) (pc + 3)) : fmV p l e R s m args below meth c D A G nL o Q σ cells slots lv (.ref (G.1 14 0 0) :: rest) pc :=
  fmV_get F (fm_mem (a := 1) (b := 1) (by decide +kernel) (by decide) (by decide)) (fmC_is_14 G σ o 0 0) rfl hin 2 (by decide) rfl hdg hlink k
theorem fmg_14_tide (F : fmF p s m args meth c D A G own cc nL ret Ts) {index : Nat}  (hin : ∀ w ∈ wsX60, w ∈ Ts) (hdg : decode cc pc = .ok (.getfield index, 3)) (hlink : Cond.fieldLink own index (TX6 3).1 (TX6 3).2.1 (TX6 3).2.2.1 ∈ Ts) (k : fmV p l e R s m args below meth c D A G nL o Q σ cells slots lv (.ref (G.1 16 0 0) :: rest) (pc + 3)) : fmV p l e R s m args below meth c D A G nL o Q σ cells slots lv (.ref (G.1 14 0 0) :: rest) pc :=
  fmV_get F (fm_mem (a := 1) (b := 1) (by decide +kernel) (by decide) (by decide)) (fmC_is_14 G σ o 0 0) rfl hin 3 (by decide) rfl hdg hlink k
theorem fmg_14_wake (F : fmF p s m args meth c D A G own cc nL ret Ts) {index : Nat}  (hin : ∀ w ∈ wsX60, w ∈ Ts) (hdg : decode cc pc = .ok (.getfield index, 3)) (hlink : Cond.fieldLink own index (TX6 4).1 (TX6 4).2.1 (TX6 4).2.2.1 ∈ Ts) (k : fmV p l e R s m args below meth c D A G nL o Q σ cells slots lv (.ref (G.1 17 0 0) :: rest) (pc + 3)) : fmV p l e R s m args below meth c D A G nL o Q σ cells slots lv (.ref (G.1 14 0 0) :: rest) pc :=
  fmV_get F (fm_mem (a := 1) (b := 1) (by decide +kernel) (by decide) (by decide)) (fmC_is_14 G σ o 0 0) rfl hin 4 (by decide) rfl hdg hlink k
theorem fmg_14_canoes (F : fmF p s m args meth c D A G own cc nL ret Ts) {index : Nat}  (hin : ∀ w ∈ wsX60, w ∈ Ts) (hdg : decode cc pc = .ok (.getfield index, 3)) (hlink : Cond.fieldLink own index (TX6 5).1 (TX6 5).2.1 (TX6 5).2.2.1 ∈ Ts) (k : fmV p l e R s m args below meth c D A G nL o Q σ cells slots lv (.int (σ 63 0 0 0) :: rest) (pc + 3)) : fmV p l e R s m args below meth c D A G nL o Q σ cells slots lv (.ref (G.1 14 0 0) :: rest) pc :=
  fmV_get F (fm_mem (a := 1) (b := 1) (by decide +kernel) (by decide) (by decide)) (fmC_is_14 G σ o 0 0) rfl hin 5 (by decide) rfl hdg hlink k
theorem fmp_14_canoes (F : fmF p s m args meth c D A G own cc nL ret Ts) {index : Nat} {x : Int32}  (hin : ∀ w ∈ wsX60, w ∈ Ts) (hdg : decode cc pc = .ok (.putfield index, 3)) (hlink : Cond.fieldLink own index (TX6 5).1 (TX6 5).2.1 (TX6 5).2.2.1 ∈ Ts) (k : fmV p l e R s m args below meth c D A G nL o Q (fmu σ 63 0 0 (fun _ => x)) cells slots lv rest (pc + 3)) : fmV p l e R s m args below meth c D A G nL o Q σ cells slots lv (.int x :: .ref (G.1 14 0 0) :: rest) pc :=
  fmV_put F (fm_mem (a := 1) (b := 1) (by decide +kernel) (by decide) (by decide)) (fmC_is_14 G σ o 0 0) rfl hin tyX6 tyX6_ok nmX6 5 (by decide) (Nat.le_of_ble_eq_true rfl) rfl rfl rfl (fmP_14_5 G σ o 0 0 x) hdg hlink k
theorem fmg_14_rope (F : fmF p s m args meth c D A G own cc nL ret Ts) {index : Nat}  (hin : ∀ w ∈ wsX60, w ∈ Ts) (hdg : decode cc pc = .ok (.getfield index, 3)) (hlink : Cond.fieldLink own index (TX6 6).1 (TX6 6).2.1 (TX6 6).2.2.1 ∈ Ts) (k : fmV p l e R s m args below meth c D A G nL o Q σ cells slots lv (.ref (G.1 18 0 0) :: rest) (pc + 3)) : fmV p l e R s m args below meth c D A G nL o Q σ cells slots lv (.ref (G.1 14 0 0) :: rest) pc :=
  fmV_get F (fm_mem (a := 1) (b := 1) (by decide +kernel) (by decide) (by decide)) (fmC_is_14 G σ o 0 0) rfl hin 6 (by decide) rfl hdg hlink k
theorem fmg_14_price (F : fmF p s m args meth c D A G own cc nL ret Ts) {index : Nat}  (hin : ∀ w ∈ wsX60, w ∈ Ts) (hdg : decode cc pc = .ok (.getfield index, 3)) (hlink : Cond.fieldLink own index (TX6 7).1 (TX6 7).2.1 (TX6 7).2.2.1 ∈ Ts) (k : fmV p l e R s m args below meth c D A G nL o Q σ cells slots lv (.ref (G.1 19 0 0) :: rest) (pc + 3)) : fmV p l e R s m args below meth c D A G nL o Q σ cells slots lv (.ref (G.1 14 0 0) :: rest) pc :=
  fmV_get F (fm_mem (a := 1) (b := 1) (by decide +kernel) (by decide) (by decide)) (fmC_is_14 G σ o 0 0) rfl hin 7 (by decide) rfl hdg hlink k
theorem fmg_14_wants (F : fmF p s m args meth c D A G own cc nL ret Ts) {index : Nat}  (hin : ∀ w ∈ wsX60, w ∈ Ts) (hdg : decode cc pc = .ok (.getfield index, 3)) (hlink : Cond.fieldLink own index (TX6 8).1 (TX6 8).2.1 (TX6 8).2.2.1 ∈ Ts) (k : fmV p l e R s m args below meth c D A G nL o Q σ cells slots lv (.ref (G.1 20 0 0) :: rest) (pc + 3)) : fmV p l e R s m args below meth c D A G nL o Q σ cells slots lv (.ref (G.1 14 0 0) :: rest) pc :=
  fmV_get F (fm_mem (a := 1) (b := 1) (by decide +kernel) (by decide) (by decide)) (fmC_is_14 G σ o 0 0) rfl hin 8 (by decide) rfl hdg hlink k
theorem fmg_14_pays (F : fmF p s m args meth c D A G own cc nL ret Ts) {index : Nat}  (hin : ∀ w ∈ wsX60, w ∈ Ts) (hdg : decode cc pc = .ok (.getfield index, 3)) (hlink : Cond.fieldLink own index (TX6 9).1 (TX6 9).2.1 (TX6 9).2.2.1 ∈ Ts) (k : fmV p l e R s m args below meth c D A G nL o Q σ cells slots lv (.ref (G.1 21 0 0) :: rest) (pc + 3)) : fmV p l e R s m args below meth c D A G nL o Q σ cells slots lv (.ref (G.1 14 0 0) :: rest) pc :=
  fmV_get F (fm_mem (a := 1) (b := 1) (by decide +kernel) (by decide) (by decide)) (fmC_is_14 G σ o 0 0) rfl hin 9 (by decide) rfl hdg hlink k
theorem fmg_14_s (F : fmF p s m args meth c D A G own cc nL ret Ts) {index : Nat}  (hin : ∀ w ∈ wsX60, w ∈ Ts) (hdg : decode cc pc = .ok (.getfield index, 3)) (hlink : Cond.fieldLink own index (TX6 10).1 (TX6 10).2.1 (TX6 10).2.2.1 ∈ Ts) (k : fmV p l e R s m args below meth c D A G nL o Q σ cells slots lv (.ref (G.1 23 0 0) :: rest) (pc + 3)) : fmV p l e R s m args below meth c D A G nL o Q σ cells slots lv (.ref (G.1 14 0 0) :: rest) pc :=
  fmV_get F (fm_mem (a := 1) (b := 1) (by decide +kernel) (by decide) (by decide)) (fmC_is_14 G σ o 0 0) rfl hin 10 (by decide) rfl hdg hlink k
theorem fmg_14_ahead (F : fmF p s m args meth c D A G own cc nL ret Ts) {index : Nat}  (hin : ∀ w ∈ wsX60, w ∈ Ts) (hdg : decode cc pc = .ok (.getfield index, 3)) (hlink : Cond.fieldLink own index (TX6 11).1 (TX6 11).2.1 (TX6 11).2.2.1 ∈ Ts) (k : fmV p l e R s m args below meth c D A G nL o Q σ cells slots lv (.ref (G.1 23 1 0) :: rest) (pc + 3)) : fmV p l e R s m args below meth c D A G nL o Q σ cells slots lv (.ref (G.1 14 0 0) :: rest) pc :=
  fmV_get F (fm_mem (a := 1) (b := 1) (by decide +kernel) (by decide) (by decide)) (fmC_is_14 G σ o 0 0) rfl hin 11 (by decide) rfl hdg hlink k
theorem fmg_14_did (F : fmF p s m args meth c D A G own cc nL ret Ts) {index : Nat}  (hin : ∀ w ∈ wsX60, w ∈ Ts) (hdg : decode cc pc = .ok (.getfield index, 3)) (hlink : Cond.fieldLink own index (TX6 12).1 (TX6 12).2.1 (TX6 12).2.2.1 ∈ Ts) (k : fmV p l e R s m args below meth c D A G nL o Q σ cells slots lv (.ref (G.1 22 0 0) :: rest) (pc + 3)) : fmV p l e R s m args below meth c D A G nL o Q σ cells slots lv (.ref (G.1 14 0 0) :: rest) pc :=
  fmV_get F (fm_mem (a := 1) (b := 1) (by decide +kernel) (by decide) (by decide)) (fmC_is_14 G σ o 0 0) rfl hin 12 (by decide) rfl hdg hlink k
theorem fmg_23_step (F : fmF p s m args meth c D A G own cc nL ret Ts) {a index : Nat} (ha : a < 2) (hin : ∀ w ∈ wsX50, w ∈ Ts) (hdg : decode cc pc = .ok (.getfield index, 3)) (hlink : Cond.fieldLink own index (TX5 0).1 (TX5 0).2.1 (TX5 0).2.2.1 ∈ Ts) (k : fmV p l e R s m args below meth c D A G nL o Q σ cells slots lv (.int (σ 64 a 0 0) :: rest) (pc + 3)) : fmV p l e R s m args below meth c D A G nL o Q σ cells slots lv (.ref (G.1 23 a 0) :: rest) pc :=
  fmV_get F (fm_mem (a := 2) (b := 1) (by decide +kernel) ha (by decide)) (fmC_is_23 G σ o a 0) rfl hin 0 (by decide) rfl hdg hlink k
theorem fmp_23_step (F : fmF p s m args meth c D A G own cc nL ret Ts) {a index : Nat} {x : Int32} (ha : a < 2) (hin : ∀ w ∈ wsX50, w ∈ Ts) (hdg : decode cc pc = .ok (.putfield index, 3)) (hlink : Cond.fieldLink own index (TX5 0).1 (TX5 0).2.1 (TX5 0).2.2.1 ∈ Ts) (k : fmV p l e R s m args below meth c D A G nL o Q (fmu σ 64 a 0 (fun _ => x)) cells slots lv rest (pc + 3)) : fmV p l e R s m args below meth c D A G nL o Q σ cells slots lv (.int x :: .ref (G.1 23 a 0) :: rest) pc :=
  fmV_put F (fm_mem (a := 2) (b := 1) (by decide +kernel) ha (by decide)) (fmC_is_23 G σ o a 0) rfl hin tyX5 tyX5_ok nmX5 0 (by decide) (Nat.le_of_ble_eq_true rfl) rfl rfl rfl (fmP_23_0 G σ o a 0 x) hdg hlink k
theorem fmg_23_sum (F : fmF p s m args meth c D A G own cc nL ret Ts) {a index : Nat} (ha : a < 2) (hin : ∀ w ∈ wsX50, w ∈ Ts) (hdg : decode cc pc = .ok (.getfield index, 3)) (hlink : Cond.fieldLink own index (TX5 1).1 (TX5 1).2.1 (TX5 1).2.2.1 ∈ Ts) (k : fmV p l e R s m args below meth c D A G nL o Q σ cells slots lv (.int (σ 65 a 0 0) :: rest) (pc + 3)) : fmV p l e R s m args below meth c D A G nL o Q σ cells slots lv (.ref (G.1 23 a 0) :: rest) pc :=
  fmV_get F (fm_mem (a := 2) (b := 1) (by decide +kernel) ha (by decide)) (fmC_is_23 G σ o a 0) rfl hin 1 (by decide) rfl hdg hlink k
theorem fmp_23_sum (F : fmF p s m args meth c D A G own cc nL ret Ts) {a index : Nat} {x : Int32} (ha : a < 2) (hin : ∀ w ∈ wsX50, w ∈ Ts) (hdg : decode cc pc = .ok (.putfield index, 3)) (hlink : Cond.fieldLink own index (TX5 1).1 (TX5 1).2.1 (TX5 1).2.2.1 ∈ Ts) (k : fmV p l e R s m args below meth c D A G nL o Q (fmu σ 65 a 0 (fun _ => x)) cells slots lv rest (pc + 3)) : fmV p l e R s m args below meth c D A G nL o Q σ cells slots lv (.int x :: .ref (G.1 23 a 0) :: rest) pc :=
  fmV_put F (fm_mem (a := 2) (b := 1) (by decide +kernel) ha (by decide)) (fmC_is_23 G σ o a 0) rfl hin tyX5 tyX5_ok nmX5 1 (by decide) (Nat.le_of_ble_eq_true rfl) rfl rfl rfl (fmP_23_1 G σ o a 0 x) hdg hlink k
theorem fmg_23_coinsPaid (F : fmF p s m args meth c D A G own cc nL ret Ts) {a index : Nat} (ha : a < 2) (hin : ∀ w ∈ wsX50, w ∈ Ts) (hdg : decode cc pc = .ok (.getfield index, 3)) (hlink : Cond.fieldLink own index (TX5 2).1 (TX5 2).2.1 (TX5 2).2.2.1 ∈ Ts) (k : fmV p l e R s m args below meth c D A G nL o Q σ cells slots lv (.int (σ 66 a 0 0) :: rest) (pc + 3)) : fmV p l e R s m args below meth c D A G nL o Q σ cells slots lv (.ref (G.1 23 a 0) :: rest) pc :=
  fmV_get F (fm_mem (a := 2) (b := 1) (by decide +kernel) ha (by decide)) (fmC_is_23 G σ o a 0) rfl hin 2 (by decide) rfl hdg hlink k
theorem fmp_23_coinsPaid (F : fmF p s m args meth c D A G own cc nL ret Ts) {a index : Nat} {x : Int32} (ha : a < 2) (hin : ∀ w ∈ wsX50, w ∈ Ts) (hdg : decode cc pc = .ok (.putfield index, 3)) (hlink : Cond.fieldLink own index (TX5 2).1 (TX5 2).2.1 (TX5 2).2.2.1 ∈ Ts) (k : fmV p l e R s m args below meth c D A G nL o Q (fmu σ 66 a 0 (fun _ => x)) cells slots lv rest (pc + 3)) : fmV p l e R s m args below meth c D A G nL o Q σ cells slots lv (.int x :: .ref (G.1 23 a 0) :: rest) pc :=
  fmV_put F (fm_mem (a := 2) (b := 1) (by decide +kernel) ha (by decide)) (fmC_is_23 G σ o a 0) rfl hin tyX5 tyX5_ok nmX5 2 (by decide) (Nat.le_of_ble_eq_true rfl) rfl rfl rfl (fmP_23_2 G σ o a 0 x) hdg hlink k
theorem fmg_23_coins (F : fmF p s m args meth c D A G own cc nL ret Ts) {a index : Nat} (ha : a < 2) (hin : ∀ w ∈ wsX50, w ∈ Ts) (hdg : decode cc pc = .ok (.getfield index, 3)) (hlink : Cond.fieldLink own index (TX5 3).1 (TX5 3).2.1 (TX5 3).2.2.1 ∈ Ts) (k : fmV p l e R s m args below meth c D A G nL o Q σ cells slots lv (.ref (G.1 24 a 0) :: rest) (pc + 3)) : fmV p l e R s m args below meth c D A G nL o Q σ cells slots lv (.ref (G.1 23 a 0) :: rest) pc :=
  fmV_get F (fm_mem (a := 2) (b := 1) (by decide +kernel) ha (by decide)) (fmC_is_23 G σ o a 0) rfl hin 3 (by decide) rfl hdg hlink k
theorem fmg_23_has (F : fmF p s m args meth c D A G own cc nL ret Ts) {a index : Nat} (ha : a < 2) (hin : ∀ w ∈ wsX50, w ∈ Ts) (hdg : decode cc pc = .ok (.getfield index, 3)) (hlink : Cond.fieldLink own index (TX5 4).1 (TX5 4).2.1 (TX5 4).2.2.1 ∈ Ts) (k : fmV p l e R s m args below meth c D A G nL o Q σ cells slots lv (.ref (G.1 25 a 0) :: rest) (pc + 3)) : fmV p l e R s m args below meth c D A G nL o Q σ cells slots lv (.ref (G.1 23 a 0) :: rest) pc :=
  fmV_get F (fm_mem (a := 2) (b := 1) (by decide +kernel) ha (by decide)) (fmC_is_23 G σ o a 0) rfl hin 4 (by decide) rfl hdg hlink k
theorem fmg_23_is (F : fmF p s m args meth c D A G own cc nL ret Ts) {a index : Nat} (ha : a < 2) (hin : ∀ w ∈ wsX50, w ∈ Ts) (hdg : decode cc pc = .ok (.getfield index, 3)) (hlink : Cond.fieldLink own index (TX5 5).1 (TX5 5).2.1 (TX5 5).2.2.1 ∈ Ts) (k : fmV p l e R s m args below meth c D A G nL o Q σ cells slots lv (.ref (G.1 26 a 0) :: rest) (pc + 3)) : fmV p l e R s m args below meth c D A G nL o Q σ cells slots lv (.ref (G.1 23 a 0) :: rest) pc :=
  fmV_get F (fm_mem (a := 2) (b := 1) (by decide +kernel) ha (by decide)) (fmC_is_23 G σ o a 0) rfl hin 5 (by decide) rfl hdg hlink k
theorem fmg_23_row (F : fmF p s m args meth c D A G own cc nL ret Ts) {a index : Nat} (ha : a < 2) (hin : ∀ w ∈ wsX50, w ∈ Ts) (hdg : decode cc pc = .ok (.getfield index, 3)) (hlink : Cond.fieldLink own index (TX5 6).1 (TX5 6).2.1 (TX5 6).2.2.1 ∈ Ts) (k : fmV p l e R s m args below meth c D A G nL o Q σ cells slots lv (.ref (G.1 27 a 0) :: rest) (pc + 3)) : fmV p l e R s m args below meth c D A G nL o Q σ cells slots lv (.ref (G.1 23 a 0) :: rest) pc :=
  fmV_get F (fm_mem (a := 2) (b := 1) (by decide +kernel) ha (by decide)) (fmC_is_23 G σ o a 0) rfl hin 6 (by decide) rfl hdg hlink k
theorem fmg_23_place (F : fmF p s m args meth c D A G own cc nL ret Ts) {a index : Nat} (ha : a < 2) (hin : ∀ w ∈ wsX50, w ∈ Ts) (hdg : decode cc pc = .ok (.getfield index, 3)) (hlink : Cond.fieldLink own index (TX5 7).1 (TX5 7).2.1 (TX5 7).2.2.1 ∈ Ts) (k : fmV p l e R s m args below meth c D A G nL o Q σ cells slots lv (.ref (G.1 28 a 0) :: rest) (pc + 3)) : fmV p l e R s m args below meth c D A G nL o Q σ cells slots lv (.ref (G.1 23 a 0) :: rest) pc :=
  fmV_get F (fm_mem (a := 2) (b := 1) (by decide +kernel) ha (by decide)) (fmC_is_23 G σ o a 0) rfl hin 7 (by decide) rfl hdg hlink k
theorem fmg_23_leaves (F : fmF p s m args meth c D A G own cc nL ret Ts) {a index : Nat} (ha : a < 2) (hin : ∀ w ∈ wsX50, w ∈ Ts) (hdg : decode cc pc = .ok (.getfield index, 3)) (hlink : Cond.fieldLink own index (TX5 8).1 (TX5 8).2.1 (TX5 8).2.2.1 ∈ Ts) (k : fmV p l e R s m args below meth c D A G nL o Q σ cells slots lv (.ref (G.1 29 a 0) :: rest) (pc + 3)) : fmV p l e R s m args below meth c D A G nL o Q σ cells slots lv (.ref (G.1 23 a 0) :: rest) pc :=
  fmV_get F (fm_mem (a := 2) (b := 1) (by decide +kernel) ha (by decide)) (fmC_is_23 G σ o a 0) rfl hin 8 (by decide) rfl hdg hlink k
theorem fmg_23_loosened (F : fmF p s m args meth c D A G own cc nL ret Ts) {a index : Nat} (ha : a < 2) (hin : ∀ w ∈ wsX50, w ∈ Ts) (hdg : decode cc pc = .ok (.getfield index, 3)) (hlink : Cond.fieldLink own index (TX5 9).1 (TX5 9).2.1 (TX5 9).2.2.1 ∈ Ts) (k : fmV p l e R s m args below meth c D A G nL o Q σ cells slots lv (.ref (G.1 30 a 0) :: rest) (pc + 3)) : fmV p l e R s m args below meth c D A G nL o Q σ cells slots lv (.ref (G.1 23 a 0) :: rest) pc :=
  fmV_get F (fm_mem (a := 2) (b := 1) (by decide +kernel) ha (by decide)) (fmC_is_23 G σ o a 0) rfl hin 9 (by decide) rfl hdg hlink k
theorem fmg_23_drifted (F : fmF p s m args meth c D A G own cc nL ret Ts) {a index : Nat} (ha : a < 2) (hin : ∀ w ∈ wsX50, w ∈ Ts) (hdg : decode cc pc = .ok (.getfield index, 3)) (hlink : Cond.fieldLink own index (TX5 10).1 (TX5 10).2.1 (TX5 10).2.2.1 ∈ Ts) (k : fmV p l e R s m args below meth c D A G nL o Q σ cells slots lv (.ref (G.1 31 a 0) :: rest) (pc + 3)) : fmV p l e R s m args below meth c D A G nL o Q σ cells slots lv (.ref (G.1 23 a 0) :: rest) pc :=
  fmV_get F (fm_mem (a := 2) (b := 1) (by decide +kernel) ha (by decide)) (fmC_is_23 G σ o a 0) rfl hin 10 (by decide) rfl hdg hlink k
theorem fmg_23_sold (F : fmF p s m args meth c D A G own cc nL ret Ts) {a index : Nat} (ha : a < 2) (hin : ∀ w ∈ wsX50, w ∈ Ts) (hdg : decode cc pc = .ok (.getfield index, 3)) (hlink : Cond.fieldLink own index (TX5 11).1 (TX5 11).2.1 (TX5 11).2.2.1 ∈ Ts) (k : fmV p l e R s m args below meth c D A G nL o Q σ cells slots lv (.ref (G.1 32 a 0) :: rest) (pc + 3)) : fmV p l e R s m args below meth c D A G nL o Q σ cells slots lv (.ref (G.1 23 a 0) :: rest) pc :=
  fmV_get F (fm_mem (a := 2) (b := 1) (by decide +kernel) ha (by decide)) (fmC_is_23 G σ o a 0) rfl hin 11 (by decide) rfl hdg hlink k
theorem fmg_23_bought (F : fmF p s m args meth c D A G own cc nL ret Ts) {a index : Nat} (ha : a < 2) (hin : ∀ w ∈ wsX50, w ∈ Ts) (hdg : decode cc pc = .ok (.getfield index, 3)) (hlink : Cond.fieldLink own index (TX5 12).1 (TX5 12).2.1 (TX5 12).2.2.1 ∈ Ts) (k : fmV p l e R s m args below meth c D A G nL o Q σ cells slots lv (.ref (G.1 33 a 0) :: rest) (pc + 3)) : fmV p l e R s m args below meth c D A G nL o Q σ cells slots lv (.ref (G.1 23 a 0) :: rest) pc :=
  fmV_get F (fm_mem (a := 2) (b := 1) (by decide +kernel) ha (by decide)) (fmC_is_23 G σ o a 0) rfl hin 12 (by decide) rfl hdg hlink k
theorem fmg_23_this0 (F : fmF p s m args meth c D A G own cc nL ret Ts) {a index : Nat} (ha : a < 2) (hin : ∀ w ∈ wsX50, w ∈ Ts) (hdg : decode cc pc = .ok (.getfield index, 3)) (hlink : Cond.fieldLink own index (TX5 13).1 (TX5 13).2.1 (TX5 13).2.2.1 ∈ Ts) (k : fmV p l e R s m args below meth c D A G nL o Q σ cells slots lv (.ref (G.1 14 0 0) :: rest) (pc + 3)) : fmV p l e R s m args below meth c D A G nL o Q σ cells slots lv (.ref (G.1 23 a 0) :: rest) pc :=
  fmV_get F (fm_mem (a := 2) (b := 1) (by decide +kernel) ha (by decide)) (fmC_is_23 G σ o a 0) rfl hin 13 (by decide) rfl hdg hlink k
theorem fmal_2 (F : fmF p s m args meth c D A G own cc nL ret Ts) { i0 : Nat}  {i : Int32} (hdg : decode cc pc = .ok (.iaload, 1)) (hin : vp_in i 24) (hi : i.toNatClampNeg = i0) (k : fmV p l e R s m args below meth c D A G nL o Q σ cells slots lv (.int (σ 2 0 0 i0) :: rest) (pc + 1)) : fmV p l e R s m args below meth c D A G nL o Q σ cells slots lv (.int i :: .ref (G.1 2 0 0) :: rest) pc :=
  fmV_iald F (fm_mem (a := 1) (b := 1) (by decide +kernel) (by decide) (by decide)) (fun τ => rfl) hdg hin hi k
theorem fmas_2 (F : fmF p s m args meth c D A G own cc nL ret Ts) { i0 : Nat}  {i x : Int32} (hdg : decode cc pc = .ok (.iastore, 1)) (hin : vp_in i 24) (hi : i.toNatClampNeg = i0) (k : fmV p l e R s m args below meth c D A G nL o Q (fmu σ 2 0 0 (upd (σ 2 0 0) i0 x)) cells slots lv rest (pc + 1)) : fmV p l e R s m args below meth c D A G nL o Q σ cells slots lv (.int x :: .int i :: .ref (G.1 2 0 0) :: rest) pc :=
  fmV_iast F (fm_mem (a := 1) (b := 1) (by decide +kernel) (by decide) (by decide)) (fun τ => rfl) rfl hdg hin hi k
theorem fmal_3 (F : fmF p s m args meth c D A G own cc nL ret Ts) { i0 : Nat}  {i : Int32} (hdg : decode cc pc = .ok (.iaload, 1)) (hin : vp_in i 24) (hi : i.toNatClampNeg = i0) (k : fmV p l e R s m args below meth c D A G nL o Q σ cells slots lv (.int (σ 3 0 0 i0) :: rest) (pc + 1)) : fmV p l e R s m args below meth c D A G nL o Q σ cells slots lv (.int i :: .ref (G.1 3 0 0) :: rest) pc :=
  fmV_iald F (fm_mem (a := 1) (b := 1) (by decide +kernel) (by decide) (by decide)) (fun τ => rfl) hdg hin hi k
theorem fmas_3 (F : fmF p s m args meth c D A G own cc nL ret Ts) { i0 : Nat}  {i x : Int32} (hdg : decode cc pc = .ok (.iastore, 1)) (hin : vp_in i 24) (hi : i.toNatClampNeg = i0) (k : fmV p l e R s m args below meth c D A G nL o Q (fmu σ 3 0 0 (upd (σ 3 0 0) i0 x)) cells slots lv rest (pc + 1)) : fmV p l e R s m args below meth c D A G nL o Q σ cells slots lv (.int x :: .int i :: .ref (G.1 3 0 0) :: rest) pc :=
  fmV_iast F (fm_mem (a := 1) (b := 1) (by decide +kernel) (by decide) (by decide)) (fun τ => rfl) rfl hdg hin hi k
theorem fmal_8 (F : fmF p s m args meth c D A G own cc nL ret Ts) {a b i0 : Nat} (ha : a < 2) (hb9 : b < 4) {i : Int32} (hdg : decode cc pc = .ok (.iaload, 1)) (hin : vp_in i 6) (hi : i.toNatClampNeg = i0) (k : fmV p l e R s m args below meth c D A G nL o Q σ cells slots lv (.int (σ 8 a b i0) :: rest) (pc + 1)) : fmV p l e R s m args below meth c D A G nL o Q σ cells slots lv (.int i :: .ref (G.1 8 a b) :: rest) pc :=
  fmV_iald F (fm_mem (a := 2) (b := 4) (by decide +kernel) ha hb9) (fun τ => rfl) hdg hin hi k
theorem fmas_8 (F : fmF p s m args meth c D A G own cc nL ret Ts) {a b i0 : Nat} (ha : a < 2) (hb9 : b < 4) {i x : Int32} (hdg : decode cc pc = .ok (.iastore, 1)) (hin : vp_in i 6) (hi : i.toNatClampNeg = i0) (k : fmV p l e R s m args below meth c D A G nL o Q (fmu σ 8 a b (upd (σ 8 a b) i0 x)) cells slots lv rest (pc + 1)) : fmV p l e R s m args below meth c D A G nL o Q σ cells slots lv (.int x :: .int i :: .ref (G.1 8 a b) :: rest) pc :=
  fmV_iast F (fm_mem (a := 2) (b := 4) (by decide +kernel) ha hb9) (fun τ => rfl) rfl hdg hin hi k
theorem fmal_10 (F : fmF p s m args meth c D A G own cc nL ret Ts) {a b i0 : Nat} (ha : a < 2) (hb9 : b < 14) {i : Int32} (hdg : decode cc pc = .ok (.iaload, 1)) (hin : vp_in i 4) (hi : i.toNatClampNeg = i0) (k : fmV p l e R s m args below meth c D A G nL o Q σ cells slots lv (.int (σ 10 a b i0) :: rest) (pc + 1)) : fmV p l e R s m args below meth c D A G nL o Q σ cells slots lv (.int i :: .ref (G.1 10 a b) :: rest) pc :=
  fmV_iald F (fm_mem (a := 2) (b := 14) (by decide +kernel) ha hb9) (fun τ => rfl) hdg hin hi k
theorem fmas_10 (F : fmF p s m args meth c D A G own cc nL ret Ts) {a b i0 : Nat} (ha : a < 2) (hb9 : b < 14) {i x : Int32} (hdg : decode cc pc = .ok (.iastore, 1)) (hin : vp_in i 4) (hi : i.toNatClampNeg = i0) (k : fmV p l e R s m args below meth c D A G nL o Q (fmu σ 10 a b (upd (σ 10 a b) i0 x)) cells slots lv rest (pc + 1)) : fmV p l e R s m args below meth c D A G nL o Q σ cells slots lv (.int x :: .int i :: .ref (G.1 10 a b) :: rest) pc :=
  fmV_iast F (fm_mem (a := 2) (b := 14) (by decide +kernel) ha hb9) (fun τ => rfl) rfl hdg hin hi k
theorem fmal_11 (F : fmF p s m args meth c D A G own cc nL ret Ts) {a b i0 : Nat} (ha : a < 2) (hb9 : b < 14) {i : Int32} (hdg : decode cc pc = .ok (.iaload, 1)) (hin : vp_in i 4) (hi : i.toNatClampNeg = i0) (k : fmV p l e R s m args below meth c D A G nL o Q σ cells slots lv (.int (σ 11 a b i0) :: rest) (pc + 1)) : fmV p l e R s m args below meth c D A G nL o Q σ cells slots lv (.int i :: .ref (G.1 11 a b) :: rest) pc :=
  fmV_iald F (fm_mem (a := 2) (b := 14) (by decide +kernel) ha hb9) (fun τ => rfl) hdg hin hi k
theorem fmas_11 (F : fmF p s m args meth c D A G own cc nL ret Ts) {a b i0 : Nat} (ha : a < 2) (hb9 : b < 14) {i x : Int32} (hdg : decode cc pc = .ok (.iastore, 1)) (hin : vp_in i 4) (hi : i.toNatClampNeg = i0) (k : fmV p l e R s m args below meth c D A G nL o Q (fmu σ 11 a b (upd (σ 11 a b) i0 x)) cells slots lv rest (pc + 1)) : fmV p l e R s m args below meth c D A G nL o Q σ cells slots lv (.int x :: .int i :: .ref (G.1 11 a b) :: rest) pc :=
  fmV_iast F (fm_mem (a := 2) (b := 14) (by decide +kernel) ha hb9) (fun τ => rfl) rfl hdg hin hi k
theorem fmal_12 (F : fmF p s m args meth c D A G own cc nL ret Ts) {a b i0 : Nat} (ha : a < 2) (hb9 : b < 14) {i : Int32} (hdg : decode cc pc = .ok (.iaload, 1)) (hin : vp_in i 4) (hi : i.toNatClampNeg = i0) (k : fmV p l e R s m args below meth c D A G nL o Q σ cells slots lv (.int (σ 12 a b i0) :: rest) (pc + 1)) : fmV p l e R s m args below meth c D A G nL o Q σ cells slots lv (.int i :: .ref (G.1 12 a b) :: rest) pc :=
  fmV_iald F (fm_mem (a := 2) (b := 14) (by decide +kernel) ha hb9) (fun τ => rfl) hdg hin hi k
theorem fmas_12 (F : fmF p s m args meth c D A G own cc nL ret Ts) {a b i0 : Nat} (ha : a < 2) (hb9 : b < 14) {i x : Int32} (hdg : decode cc pc = .ok (.iastore, 1)) (hin : vp_in i 4) (hi : i.toNatClampNeg = i0) (k : fmV p l e R s m args below meth c D A G nL o Q (fmu σ 12 a b (upd (σ 12 a b) i0 x)) cells slots lv rest (pc + 1)) : fmV p l e R s m args below meth c D A G nL o Q σ cells slots lv (.int x :: .int i :: .ref (G.1 12 a b) :: rest) pc :=
  fmV_iast F (fm_mem (a := 2) (b := 14) (by decide +kernel) ha hb9) (fun τ => rfl) rfl hdg hin hi k
theorem fmal_13 (F : fmF p s m args meth c D A G own cc nL ret Ts) {a b i0 : Nat} (ha : a < 2) (hb9 : b < 14) {i : Int32} (hdg : decode cc pc = .ok (.iaload, 1)) (hin : vp_in i 4) (hi : i.toNatClampNeg = i0) (k : fmV p l e R s m args below meth c D A G nL o Q σ cells slots lv (.int (σ 13 a b i0) :: rest) (pc + 1)) : fmV p l e R s m args below meth c D A G nL o Q σ cells slots lv (.int i :: .ref (G.1 13 a b) :: rest) pc :=
  fmV_iald F (fm_mem (a := 2) (b := 14) (by decide +kernel) ha hb9) (fun τ => rfl) hdg hin hi k
theorem fmas_13 (F : fmF p s m args meth c D A G own cc nL ret Ts) {a b i0 : Nat} (ha : a < 2) (hb9 : b < 14) {i x : Int32} (hdg : decode cc pc = .ok (.iastore, 1)) (hin : vp_in i 4) (hi : i.toNatClampNeg = i0) (k : fmV p l e R s m args below meth c D A G nL o Q (fmu σ 13 a b (upd (σ 13 a b) i0 x)) cells slots lv rest (pc + 1)) : fmV p l e R s m args below meth c D A G nL o Q σ cells slots lv (.int x :: .int i :: .ref (G.1 13 a b) :: rest) pc :=
  fmV_iast F (fm_mem (a := 2) (b := 14) (by decide +kernel) ha hb9) (fun τ => rfl) rfl hdg hin hi k
theorem fmal_15 (F : fmF p s m args meth c D A G own cc nL ret Ts) { i0 : Nat}  {i : Int32} (hdg : decode cc pc = .ok (.iaload, 1)) (hin : vp_in i 4) (hi : i.toNatClampNeg = i0) (k : fmV p l e R s m args below meth c D A G nL o Q σ cells slots lv (.int (σ 15 0 0 i0) :: rest) (pc + 1)) : fmV p l e R s m args below meth c D A G nL o Q σ cells slots lv (.int i :: .ref (G.1 15 0 0) :: rest) pc :=
  fmV_iald F (fm_mem (a := 1) (b := 1) (by decide +kernel) (by decide) (by decide)) (fun τ => rfl) hdg hin hi k
theorem fmas_15 (F : fmF p s m args meth c D A G own cc nL ret Ts) { i0 : Nat}  {i x : Int32} (hdg : decode cc pc = .ok (.iastore, 1)) (hin : vp_in i 4) (hi : i.toNatClampNeg = i0) (k : fmV p l e R s m args below meth c D A G nL o Q (fmu σ 15 0 0 (upd (σ 15 0 0) i0 x)) cells slots lv rest (pc + 1)) : fmV p l e R s m args below meth c D A G nL o Q σ cells slots lv (.int x :: .int i :: .ref (G.1 15 0 0) :: rest) pc :=
  fmV_iast F (fm_mem (a := 1) (b := 1) (by decide +kernel) (by decide) (by decide)) (fun τ => rfl) rfl hdg hin hi k
theorem fmal_16 (F : fmF p s m args meth c D A G own cc nL ret Ts) { i0 : Nat}  {i : Int32} (hdg : decode cc pc = .ok (.iaload, 1)) (hin : vp_in i 24) (hi : i.toNatClampNeg = i0) (k : fmV p l e R s m args below meth c D A G nL o Q σ cells slots lv (.int (σ 16 0 0 i0) :: rest) (pc + 1)) : fmV p l e R s m args below meth c D A G nL o Q σ cells slots lv (.int i :: .ref (G.1 16 0 0) :: rest) pc :=
  fmV_iald F (fm_mem (a := 1) (b := 1) (by decide +kernel) (by decide) (by decide)) (fun τ => rfl) hdg hin hi k
theorem fmas_16 (F : fmF p s m args meth c D A G own cc nL ret Ts) { i0 : Nat}  {i x : Int32} (hdg : decode cc pc = .ok (.iastore, 1)) (hin : vp_in i 24) (hi : i.toNatClampNeg = i0) (k : fmV p l e R s m args below meth c D A G nL o Q (fmu σ 16 0 0 (upd (σ 16 0 0) i0 x)) cells slots lv rest (pc + 1)) : fmV p l e R s m args below meth c D A G nL o Q σ cells slots lv (.int x :: .int i :: .ref (G.1 16 0 0) :: rest) pc :=
  fmV_iast F (fm_mem (a := 1) (b := 1) (by decide +kernel) (by decide) (by decide)) (fun τ => rfl) rfl hdg hin hi k
theorem fmal_17 (F : fmF p s m args meth c D A G own cc nL ret Ts) { i0 : Nat}  {i : Int32} (hdg : decode cc pc = .ok (.iaload, 1)) (hin : vp_in i 24) (hi : i.toNatClampNeg = i0) (k : fmV p l e R s m args below meth c D A G nL o Q σ cells slots lv (.int (σ 17 0 0 i0) :: rest) (pc + 1)) : fmV p l e R s m args below meth c D A G nL o Q σ cells slots lv (.int i :: .ref (G.1 17 0 0) :: rest) pc :=
  fmV_iald F (fm_mem (a := 1) (b := 1) (by decide +kernel) (by decide) (by decide)) (fun τ => rfl) hdg hin hi k
theorem fmas_17 (F : fmF p s m args meth c D A G own cc nL ret Ts) { i0 : Nat}  {i x : Int32} (hdg : decode cc pc = .ok (.iastore, 1)) (hin : vp_in i 24) (hi : i.toNatClampNeg = i0) (k : fmV p l e R s m args below meth c D A G nL o Q (fmu σ 17 0 0 (upd (σ 17 0 0) i0 x)) cells slots lv rest (pc + 1)) : fmV p l e R s m args below meth c D A G nL o Q σ cells slots lv (.int x :: .int i :: .ref (G.1 17 0 0) :: rest) pc :=
  fmV_iast F (fm_mem (a := 1) (b := 1) (by decide +kernel) (by decide) (by decide)) (fun τ => rfl) rfl hdg hin hi k
theorem fmal_18 (F : fmF p s m args meth c D A G own cc nL ret Ts) { i0 : Nat}  {i : Int32} (hdg : decode cc pc = .ok (.iaload, 1)) (hin : vp_in i 14) (hi : i.toNatClampNeg = i0) (k : fmV p l e R s m args below meth c D A G nL o Q σ cells slots lv (.int (σ 18 0 0 i0) :: rest) (pc + 1)) : fmV p l e R s m args below meth c D A G nL o Q σ cells slots lv (.int i :: .ref (G.1 18 0 0) :: rest) pc :=
  fmV_iald F (fm_mem (a := 1) (b := 1) (by decide +kernel) (by decide) (by decide)) (fun τ => rfl) hdg hin hi k
theorem fmas_18 (F : fmF p s m args meth c D A G own cc nL ret Ts) { i0 : Nat}  {i x : Int32} (hdg : decode cc pc = .ok (.iastore, 1)) (hin : vp_in i 14) (hi : i.toNatClampNeg = i0) (k : fmV p l e R s m args below meth c D A G nL o Q (fmu σ 18 0 0 (upd (σ 18 0 0) i0 x)) cells slots lv rest (pc + 1)) : fmV p l e R s m args below meth c D A G nL o Q σ cells slots lv (.int x :: .int i :: .ref (G.1 18 0 0) :: rest) pc :=
  fmV_iast F (fm_mem (a := 1) (b := 1) (by decide +kernel) (by decide) (by decide)) (fun τ => rfl) rfl hdg hin hi k
theorem fmal_19 (F : fmF p s m args meth c D A G own cc nL ret Ts) { i0 : Nat}  {i : Int32} (hdg : decode cc pc = .ok (.iaload, 1)) (hin : vp_in i 56) (hi : i.toNatClampNeg = i0) (k : fmV p l e R s m args below meth c D A G nL o Q σ cells slots lv (.int (σ 19 0 0 i0) :: rest) (pc + 1)) : fmV p l e R s m args below meth c D A G nL o Q σ cells slots lv (.int i :: .ref (G.1 19 0 0) :: rest) pc :=
  fmV_iald F (fm_mem (a := 1) (b := 1) (by decide +kernel) (by decide) (by decide)) (fun τ => rfl) hdg hin hi k
theorem fmas_19 (F : fmF p s m args meth c D A G own cc nL ret Ts) { i0 : Nat}  {i x : Int32} (hdg : decode cc pc = .ok (.iastore, 1)) (hin : vp_in i 56) (hi : i.toNatClampNeg = i0) (k : fmV p l e R s m args below meth c D A G nL o Q (fmu σ 19 0 0 (upd (σ 19 0 0) i0 x)) cells slots lv rest (pc + 1)) : fmV p l e R s m args below meth c D A G nL o Q σ cells slots lv (.int x :: .int i :: .ref (G.1 19 0 0) :: rest) pc :=
  fmV_iast F (fm_mem (a := 1) (b := 1) (by decide +kernel) (by decide) (by decide)) (fun τ => rfl) rfl hdg hin hi k
theorem fmal_20 (F : fmF p s m args meth c D A G own cc nL ret Ts) { i0 : Nat}  {i : Int32} (hdg : decode cc pc = .ok (.iaload, 1)) (hin : vp_in i 56) (hi : i.toNatClampNeg = i0) (k : fmV p l e R s m args below meth c D A G nL o Q σ cells slots lv (.int (σ 20 0 0 i0) :: rest) (pc + 1)) : fmV p l e R s m args below meth c D A G nL o Q σ cells slots lv (.int i :: .ref (G.1 20 0 0) :: rest) pc :=
  fmV_iald F (fm_mem (a := 1) (b := 1) (by decide +kernel) (by decide) (by decide)) (fun τ => rfl) hdg hin hi k
theorem fmas_20 (F : fmF p s m args meth c D A G own cc nL ret Ts) { i0 : Nat}  {i x : Int32} (hdg : decode cc pc = .ok (.iastore, 1)) (hin : vp_in i 56) (hi : i.toNatClampNeg = i0) (k : fmV p l e R s m args below meth c D A G nL o Q (fmu σ 20 0 0 (upd (σ 20 0 0) i0 x)) cells slots lv rest (pc + 1)) : fmV p l e R s m args below meth c D A G nL o Q σ cells slots lv (.int x :: .int i :: .ref (G.1 20 0 0) :: rest) pc :=
  fmV_iast F (fm_mem (a := 1) (b := 1) (by decide +kernel) (by decide) (by decide)) (fun τ => rfl) rfl hdg hin hi k
theorem fmal_21 (F : fmF p s m args meth c D A G own cc nL ret Ts) { i0 : Nat}  {i : Int32} (hdg : decode cc pc = .ok (.iaload, 1)) (hin : vp_in i 56) (hi : i.toNatClampNeg = i0) (k : fmV p l e R s m args below meth c D A G nL o Q σ cells slots lv (.int (σ 21 0 0 i0) :: rest) (pc + 1)) : fmV p l e R s m args below meth c D A G nL o Q σ cells slots lv (.int i :: .ref (G.1 21 0 0) :: rest) pc :=
  fmV_iald F (fm_mem (a := 1) (b := 1) (by decide +kernel) (by decide) (by decide)) (fun τ => rfl) hdg hin hi k
theorem fmas_21 (F : fmF p s m args meth c D A G own cc nL ret Ts) { i0 : Nat}  {i x : Int32} (hdg : decode cc pc = .ok (.iastore, 1)) (hin : vp_in i 56) (hi : i.toNatClampNeg = i0) (k : fmV p l e R s m args below meth c D A G nL o Q (fmu σ 21 0 0 (upd (σ 21 0 0) i0 x)) cells slots lv rest (pc + 1)) : fmV p l e R s m args below meth c D A G nL o Q σ cells slots lv (.int x :: .int i :: .ref (G.1 21 0 0) :: rest) pc :=
  fmV_iast F (fm_mem (a := 1) (b := 1) (by decide +kernel) (by decide) (by decide)) (fun τ => rfl) rfl hdg hin hi k
theorem fmal_24 (F : fmF p s m args meth c D A G own cc nL ret Ts) {a i0 : Nat} (ha : a < 2) {i : Int32} (hdg : decode cc pc = .ok (.iaload, 1)) (hin : vp_in i 14) (hi : i.toNatClampNeg = i0) (k : fmV p l e R s m args below meth c D A G nL o Q σ cells slots lv (.int (σ 24 a 0 i0) :: rest) (pc + 1)) : fmV p l e R s m args below meth c D A G nL o Q σ cells slots lv (.int i :: .ref (G.1 24 a 0) :: rest) pc :=
  fmV_iald F (fm_mem (a := 2) (b := 1) (by decide +kernel) ha (by decide)) (fun τ => rfl) hdg hin hi k
theorem fmas_24 (F : fmF p s m args meth c D A G own cc nL ret Ts) {a i0 : Nat} (ha : a < 2) {i x : Int32} (hdg : decode cc pc = .ok (.iastore, 1)) (hin : vp_in i 14) (hi : i.toNatClampNeg = i0) (k : fmV p l e R s m args below meth c D A G nL o Q (fmu σ 24 a 0 (upd (σ 24 a 0) i0 x)) cells slots lv rest (pc + 1)) : fmV p l e R s m args below meth c D A G nL o Q σ cells slots lv (.int x :: .int i :: .ref (G.1 24 a 0) :: rest) pc :=
  fmV_iast F (fm_mem (a := 2) (b := 1) (by decide +kernel) ha (by decide)) (fun τ => rfl) rfl hdg hin hi k
theorem fmal_25 (F : fmF p s m args meth c D A G own cc nL ret Ts) {a i0 : Nat} (ha : a < 2) {i : Int32} (hdg : decode cc pc = .ok (.iaload, 1)) (hin : vp_in i 56) (hi : i.toNatClampNeg = i0) (k : fmV p l e R s m args below meth c D A G nL o Q σ cells slots lv (.int (σ 25 a 0 i0) :: rest) (pc + 1)) : fmV p l e R s m args below meth c D A G nL o Q σ cells slots lv (.int i :: .ref (G.1 25 a 0) :: rest) pc :=
  fmV_iald F (fm_mem (a := 2) (b := 1) (by decide +kernel) ha (by decide)) (fun τ => rfl) hdg hin hi k
theorem fmas_25 (F : fmF p s m args meth c D A G own cc nL ret Ts) {a i0 : Nat} (ha : a < 2) {i x : Int32} (hdg : decode cc pc = .ok (.iastore, 1)) (hin : vp_in i 56) (hi : i.toNatClampNeg = i0) (k : fmV p l e R s m args below meth c D A G nL o Q (fmu σ 25 a 0 (upd (σ 25 a 0) i0 x)) cells slots lv rest (pc + 1)) : fmV p l e R s m args below meth c D A G nL o Q σ cells slots lv (.int x :: .int i :: .ref (G.1 25 a 0) :: rest) pc :=
  fmV_iast F (fm_mem (a := 2) (b := 1) (by decide +kernel) ha (by decide)) (fun τ => rfl) rfl hdg hin hi k
theorem fmal_26 (F : fmF p s m args meth c D A G own cc nL ret Ts) {a i0 : Nat} (ha : a < 2) {i : Int32} (hdg : decode cc pc = .ok (.iaload, 1)) (hin : vp_in i 14) (hi : i.toNatClampNeg = i0) (k : fmV p l e R s m args below meth c D A G nL o Q σ cells slots lv (.int (σ 26 a 0 i0) :: rest) (pc + 1)) : fmV p l e R s m args below meth c D A G nL o Q σ cells slots lv (.int i :: .ref (G.1 26 a 0) :: rest) pc :=
  fmV_iald F (fm_mem (a := 2) (b := 1) (by decide +kernel) ha (by decide)) (fun τ => rfl) hdg hin hi k
theorem fmas_26 (F : fmF p s m args meth c D A G own cc nL ret Ts) {a i0 : Nat} (ha : a < 2) {i x : Int32} (hdg : decode cc pc = .ok (.iastore, 1)) (hin : vp_in i 14) (hi : i.toNatClampNeg = i0) (k : fmV p l e R s m args below meth c D A G nL o Q (fmu σ 26 a 0 (upd (σ 26 a 0) i0 x)) cells slots lv rest (pc + 1)) : fmV p l e R s m args below meth c D A G nL o Q σ cells slots lv (.int x :: .int i :: .ref (G.1 26 a 0) :: rest) pc :=
  fmV_iast F (fm_mem (a := 2) (b := 1) (by decide +kernel) ha (by decide)) (fun τ => rfl) rfl hdg hin hi k
theorem fmal_27 (F : fmF p s m args meth c D A G own cc nL ret Ts) {a i0 : Nat} (ha : a < 2) {i : Int32} (hdg : decode cc pc = .ok (.iaload, 1)) (hin : vp_in i 14) (hi : i.toNatClampNeg = i0) (k : fmV p l e R s m args below meth c D A G nL o Q σ cells slots lv (.int (σ 27 a 0 i0) :: rest) (pc + 1)) : fmV p l e R s m args below meth c D A G nL o Q σ cells slots lv (.int i :: .ref (G.1 27 a 0) :: rest) pc :=
  fmV_iald F (fm_mem (a := 2) (b := 1) (by decide +kernel) ha (by decide)) (fun τ => rfl) hdg hin hi k
theorem fmas_27 (F : fmF p s m args meth c D A G own cc nL ret Ts) {a i0 : Nat} (ha : a < 2) {i x : Int32} (hdg : decode cc pc = .ok (.iastore, 1)) (hin : vp_in i 14) (hi : i.toNatClampNeg = i0) (k : fmV p l e R s m args below meth c D A G nL o Q (fmu σ 27 a 0 (upd (σ 27 a 0) i0 x)) cells slots lv rest (pc + 1)) : fmV p l e R s m args below meth c D A G nL o Q σ cells slots lv (.int x :: .int i :: .ref (G.1 27 a 0) :: rest) pc :=
  fmV_iast F (fm_mem (a := 2) (b := 1) (by decide +kernel) ha (by decide)) (fun τ => rfl) rfl hdg hin hi k
theorem fmal_28 (F : fmF p s m args meth c D A G own cc nL ret Ts) {a i0 : Nat} (ha : a < 2) {i : Int32} (hdg : decode cc pc = .ok (.iaload, 1)) (hin : vp_in i 14) (hi : i.toNatClampNeg = i0) (k : fmV p l e R s m args below meth c D A G nL o Q σ cells slots lv (.int (σ 28 a 0 i0) :: rest) (pc + 1)) : fmV p l e R s m args below meth c D A G nL o Q σ cells slots lv (.int i :: .ref (G.1 28 a 0) :: rest) pc :=
  fmV_iald F (fm_mem (a := 2) (b := 1) (by decide +kernel) ha (by decide)) (fun τ => rfl) hdg hin hi k
theorem fmas_28 (F : fmF p s m args meth c D A G own cc nL ret Ts) {a i0 : Nat} (ha : a < 2) {i x : Int32} (hdg : decode cc pc = .ok (.iastore, 1)) (hin : vp_in i 14) (hi : i.toNatClampNeg = i0) (k : fmV p l e R s m args below meth c D A G nL o Q (fmu σ 28 a 0 (upd (σ 28 a 0) i0 x)) cells slots lv rest (pc + 1)) : fmV p l e R s m args below meth c D A G nL o Q σ cells slots lv (.int x :: .int i :: .ref (G.1 28 a 0) :: rest) pc :=
  fmV_iast F (fm_mem (a := 2) (b := 1) (by decide +kernel) ha (by decide)) (fun τ => rfl) rfl hdg hin hi k
theorem fmal_29 (F : fmF p s m args meth c D A G own cc nL ret Ts) {a i0 : Nat} (ha : a < 2) {i : Int32} (hdg : decode cc pc = .ok (.iaload, 1)) (hin : vp_in i 14) (hi : i.toNatClampNeg = i0) (k : fmV p l e R s m args below meth c D A G nL o Q σ cells slots lv (.int (σ 29 a 0 i0) :: rest) (pc + 1)) : fmV p l e R s m args below meth c D A G nL o Q σ cells slots lv (.int i :: .ref (G.1 29 a 0) :: rest) pc :=
  fmV_iald F (fm_mem (a := 2) (b := 1) (by decide +kernel) ha (by decide)) (fun τ => rfl) hdg hin hi k
theorem fmas_29 (F : fmF p s m args meth c D A G own cc nL ret Ts) {a i0 : Nat} (ha : a < 2) {i x : Int32} (hdg : decode cc pc = .ok (.iastore, 1)) (hin : vp_in i 14) (hi : i.toNatClampNeg = i0) (k : fmV p l e R s m args below meth c D A G nL o Q (fmu σ 29 a 0 (upd (σ 29 a 0) i0 x)) cells slots lv rest (pc + 1)) : fmV p l e R s m args below meth c D A G nL o Q σ cells slots lv (.int x :: .int i :: .ref (G.1 29 a 0) :: rest) pc :=
  fmV_iast F (fm_mem (a := 2) (b := 1) (by decide +kernel) ha (by decide)) (fun τ => rfl) rfl hdg hin hi k
theorem fmal_30 (F : fmF p s m args meth c D A G own cc nL ret Ts) {a i0 : Nat} (ha : a < 2) {i : Int32} (hdg : decode cc pc = .ok (.iaload, 1)) (hin : vp_in i 14) (hi : i.toNatClampNeg = i0) (k : fmV p l e R s m args below meth c D A G nL o Q σ cells slots lv (.int (σ 30 a 0 i0) :: rest) (pc + 1)) : fmV p l e R s m args below meth c D A G nL o Q σ cells slots lv (.int i :: .ref (G.1 30 a 0) :: rest) pc :=
  fmV_iald F (fm_mem (a := 2) (b := 1) (by decide +kernel) ha (by decide)) (fun τ => rfl) hdg hin hi k
theorem fmas_30 (F : fmF p s m args meth c D A G own cc nL ret Ts) {a i0 : Nat} (ha : a < 2) {i x : Int32} (hdg : decode cc pc = .ok (.iastore, 1)) (hin : vp_in i 14) (hi : i.toNatClampNeg = i0) (k : fmV p l e R s m args below meth c D A G nL o Q (fmu σ 30 a 0 (upd (σ 30 a 0) i0 x)) cells slots lv rest (pc + 1)) : fmV p l e R s m args below meth c D A G nL o Q σ cells slots lv (.int x :: .int i :: .ref (G.1 30 a 0) :: rest) pc :=
  fmV_iast F (fm_mem (a := 2) (b := 1) (by decide +kernel) ha (by decide)) (fun τ => rfl) rfl hdg hin hi k
theorem fmal_31 (F : fmF p s m args meth c D A G own cc nL ret Ts) {a i0 : Nat} (ha : a < 2) {i : Int32} (hdg : decode cc pc = .ok (.iaload, 1)) (hin : vp_in i 14) (hi : i.toNatClampNeg = i0) (k : fmV p l e R s m args below meth c D A G nL o Q σ cells slots lv (.int (σ 31 a 0 i0) :: rest) (pc + 1)) : fmV p l e R s m args below meth c D A G nL o Q σ cells slots lv (.int i :: .ref (G.1 31 a 0) :: rest) pc :=
  fmV_iald F (fm_mem (a := 2) (b := 1) (by decide +kernel) ha (by decide)) (fun τ => rfl) hdg hin hi k
theorem fmas_31 (F : fmF p s m args meth c D A G own cc nL ret Ts) {a i0 : Nat} (ha : a < 2) {i x : Int32} (hdg : decode cc pc = .ok (.iastore, 1)) (hin : vp_in i 14) (hi : i.toNatClampNeg = i0) (k : fmV p l e R s m args below meth c D A G nL o Q (fmu σ 31 a 0 (upd (σ 31 a 0) i0 x)) cells slots lv rest (pc + 1)) : fmV p l e R s m args below meth c D A G nL o Q σ cells slots lv (.int x :: .int i :: .ref (G.1 31 a 0) :: rest) pc :=
  fmV_iast F (fm_mem (a := 2) (b := 1) (by decide +kernel) ha (by decide)) (fun τ => rfl) rfl hdg hin hi k
theorem fmal_32 (F : fmF p s m args meth c D A G own cc nL ret Ts) {a i0 : Nat} (ha : a < 2) {i : Int32} (hdg : decode cc pc = .ok (.iaload, 1)) (hin : vp_in i 14) (hi : i.toNatClampNeg = i0) (k : fmV p l e R s m args below meth c D A G nL o Q σ cells slots lv (.int (σ 32 a 0 i0) :: rest) (pc + 1)) : fmV p l e R s m args below meth c D A G nL o Q σ cells slots lv (.int i :: .ref (G.1 32 a 0) :: rest) pc :=
  fmV_iald F (fm_mem (a := 2) (b := 1) (by decide +kernel) ha (by decide)) (fun τ => rfl) hdg hin hi k
theorem fmas_32 (F : fmF p s m args meth c D A G own cc nL ret Ts) {a i0 : Nat} (ha : a < 2) {i x : Int32} (hdg : decode cc pc = .ok (.iastore, 1)) (hin : vp_in i 14) (hi : i.toNatClampNeg = i0) (k : fmV p l e R s m args below meth c D A G nL o Q (fmu σ 32 a 0 (upd (σ 32 a 0) i0 x)) cells slots lv rest (pc + 1)) : fmV p l e R s m args below meth c D A G nL o Q σ cells slots lv (.int x :: .int i :: .ref (G.1 32 a 0) :: rest) pc :=
  fmV_iast F (fm_mem (a := 2) (b := 1) (by decide +kernel) ha (by decide)) (fun τ => rfl) rfl hdg hin hi k
theorem fmal_33 (F : fmF p s m args meth c D A G own cc nL ret Ts) {a i0 : Nat} (ha : a < 2) {i : Int32} (hdg : decode cc pc = .ok (.iaload, 1)) (hin : vp_in i 14) (hi : i.toNatClampNeg = i0) (k : fmV p l e R s m args below meth c D A G nL o Q σ cells slots lv (.int (σ 33 a 0 i0) :: rest) (pc + 1)) : fmV p l e R s m args below meth c D A G nL o Q σ cells slots lv (.int i :: .ref (G.1 33 a 0) :: rest) pc :=
  fmV_iald F (fm_mem (a := 2) (b := 1) (by decide +kernel) ha (by decide)) (fun τ => rfl) hdg hin hi k
theorem fmas_33 (F : fmF p s m args meth c D A G own cc nL ret Ts) {a i0 : Nat} (ha : a < 2) {i x : Int32} (hdg : decode cc pc = .ok (.iastore, 1)) (hin : vp_in i 14) (hi : i.toNatClampNeg = i0) (k : fmV p l e R s m args below meth c D A G nL o Q (fmu σ 33 a 0 (upd (σ 33 a 0) i0 x)) cells slots lv rest (pc + 1)) : fmV p l e R s m args below meth c D A G nL o Q σ cells slots lv (.int x :: .int i :: .ref (G.1 33 a 0) :: rest) pc :=
  fmV_iast F (fm_mem (a := 2) (b := 1) (by decide +kernel) ha (by decide)) (fun τ => rfl) rfl hdg hin hi k
end FMV
