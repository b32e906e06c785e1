section FMUC
variable {p : Program} {l : Launch} {e : Env} {R : Room} {s : State} {m : MethodId} {args : Array Value} {below : List Frame} {meth : Method} {c : Code} {D : va_G} {A : Nat → Prop} {G : fmG} {nL : Nat} {o : Nat → Int64} {Q : State → Prop} {σ : fmS} {cells slots : Nat} {lv : List (Nat × Value)} {st rest : List Value} {pc : Nat}
/-- a loop whose turns take cells and slots -/
theorem fmV_upC {σf : Nat → fmS} {lvf : Nat → List (Nat × Value)} {cf sf : Nat → Nat} {N : Nat} (j0 : Nat) (hj0 : j0 ≤ N) (hN : fmV p l e R s m args below meth c D A G nL o Q (σf N) (cf N) (sf N) (lvf N) st pc) (hs : ∀ j, j < N → fmV p l e R s m args below meth c D A G nL o Q (σf (j + 1)) (cf (j + 1)) (sf (j + 1)) (lvf (j + 1)) st pc → fmV p l e R s m args below meth c D A G nL o Q (σf j) (cf j) (sf j) (lvf j) st pc) : fmV p l e R s m args below meth c D A G nL o Q (σf j0) (cf j0) (sf j0) (lvf j0) st pc := by
  have key : ∀ d j, j + d = N → fmV p l e R s m args below meth c D A G nL o Q (σf j) (cf j) (sf j) (lvf j) st pc := by
    intro d
    induction d with
    | zero => intro j h; have : j = N := by omega
              subst this; exact hN
    | succ d ih => intro j h; exact hs j (by omega) (ih (j + 1) (by omega))
  exact key (N - j0) j0 (by omega)
end FMUC
def gDg1 (σ : fmS) (cc t : Nat) : Nat → Int64 := fmFold (fun w d => fmD d (gCnt σ cc t w)) 683
def gDg2 (σ : fmS) (d : Int64) : Nat → Int64 := fmFold (fun k d => d * 31 + (10 * σ 16 0 0 k).toInt64 + (σ 17 0 0 k).toInt64) d
def gDgr (σ : fmS) (cc r : Nat) (d : Int64) : Nat → Int64 := fmFold (fun k d => fmD d (gAt σ 0 (nI r) (nI k) cc)) (fmD d (σ 15 0 0 r))
def gDg3 (σ : fmS) (cc : Nat) (d : Int64) : Nat → Int64 := fmFold (fun r d => gDgr σ cc r d (σ 15 0 0 r).toNatClampNeg) d
def gDga (σ : fmS) (c : Nat) (d : Int64) : Nat → Int64 := fmFold (fun w d => fmD d (gFig σ c w)) d
def gDgb (σ : fmS) (c : Nat) (d : Int64) : Nat → Int64 := fmFold (fun k d => fmD d (gGT σ (4 * c + k / 4) (nI (k % 4)))) d
def gDg4 (σ : fmS) (d : Int64) : Nat → Int64 := fmFold (fun c d => gDgb σ c (gDga σ c d 11) 16) d
def gDig (σ : fmS) (rc cc t : Nat) : Int64 := gDg4 σ (gDg3 σ cc (gDg2 σ (gDg1 σ cc t 12) 24) rc) cc
theorem gDg1_s (σ : fmS) (cc t j : Nat) : gDg1 σ cc t (j + 1) = gDg1 σ cc t j * 31 + (gCnt σ cc t j).toInt64 := rfl
theorem gDg2_s (σ : fmS) (d : Int64) (j : Nat) : gDg2 σ d (j + 1) = gDg2 σ d j * 31 + (10 * σ 16 0 0 j).toInt64 + (σ 17 0 0 j).toInt64 := rfl
theorem gDgr_s (σ : fmS) (cc r : Nat) (d : Int64) (j : Nat) : gDgr σ cc r d (j + 1) = gDgr σ cc r d j * 31 + (gAt σ 0 (nI r) (nI j) cc).toInt64 := rfl
theorem gDg3_s (σ : fmS) (cc : Nat) (d : Int64) (j : Nat) : gDg3 σ cc d (j + 1) = gDgr σ cc j (gDg3 σ cc d j) (σ 15 0 0 j).toNatClampNeg := rfl
theorem gDga_s (σ : fmS) (c : Nat) (d : Int64) (j : Nat) : gDga σ c d (j + 1) = gDga σ c d j * 31 + (gFig σ c j).toInt64 := rfl
theorem gDgb_s (σ : fmS) (c : Nat) (d : Int64) (j : Nat) : gDgb σ c d (j + 1) = gDgb σ c d j * 31 + (gGT σ (4 * c + j / 4) (nI (j % 4))).toInt64 := rfl
theorem gDg4_s (σ : fmS) (d : Int64) (j : Nat) : gDg4 σ d (j + 1) = gDgb σ j (gDga σ j (gDg4 σ d j) 11) 16 := rfl
theorem gDg1_0 (σ : fmS) (cc t : Nat) : gDg1 σ cc t 0 = 683 := rfl
theorem gDg2_0 (σ : fmS) (d : Int64) : gDg2 σ d 0 = d := rfl
theorem gDgr_0 (σ : fmS) (cc r : Nat) (d : Int64) : gDgr σ cc r d 0 = d * 31 + (σ 15 0 0 r).toInt64 := rfl
theorem gDg3_0 (σ : fmS) (cc : Nat) (d : Int64) : gDg3 σ cc d 0 = d := rfl
theorem gDga_0 (σ : fmS) (c : Nat) (d : Int64) : gDga σ c d 0 = d := rfl
theorem gDgb_0 (σ : fmS) (c : Nat) (d : Int64) : gDgb σ c d 0 = d := rfl
theorem gDg4_0 (σ : fmS) (d : Int64) : gDg4 σ d 0 = d := rfl
