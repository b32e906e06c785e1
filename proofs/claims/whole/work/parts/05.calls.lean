/-! CONTRACTS over the world (σ, o); calls; returns; throws -/
def fmPre (D : va_G) (A : Nat → Prop) (G : fmG) (σ : fmS) (o : Nat → Int64) (U : State) : Prop := va_P D vwCl (fmW G σ o) U.heap ∧ va_K D vwCl (fmT G) U ∧ (∀ σ o, va_D A (fmW G σ o)) ∧ (∀ q, U.heap.size ≤ q → A q)
/-- words of the three exceptions that are no good words -/
def fmXB : List Cond := [.castable "java/lang/IndexOutOfBoundsException" "java/lang/IndexOutOfBoundsException", .castable "java/lang/IllegalArgumentException" "java/lang/IllegalArgumentException", .castable "java/lang/IllegalStateException" "java/lang/IllegalStateException", .declares (Bundle.initS "java/lang/RuntimeException"), .declares (Bundle.initS "java/lang/Exception"), .declares (Bundle.initS Bundle.tN), .fieldLinkNest "FloatMarketModel" 111 "FloatMarketModel$State" "step" "I" "FloatMarketModel", .fieldLinkNest "FloatMarketModel" 154 "FloatMarketModel$State" "sum" "I" "FloatMarketModel", .fieldLinkNest "FloatMarketModel" 157 "FloatMarketModel$State" "coinsPaid" "I" "FloatMarketModel", .fieldLinkNest "FloatMarketModel" 69 "FloatMarketModel$State" "coins" "[I" "FloatMarketModel", .fieldLinkNest "FloatMarketModel" 85 "FloatMarketModel$State" "has" "[I" "FloatMarketModel", .fieldLinkNest "FloatMarketModel" 82 "FloatMarketModel$State" "is" "[I" "FloatMarketModel", .fieldLinkNest "FloatMarketModel" 114 "FloatMarketModel$State" "row" "[I" "FloatMarketModel", .fieldLinkNest "FloatMarketModel" 102 "FloatMarketModel$State" "place" "[I" "FloatMarketModel", .fieldLinkNest "FloatMarketModel" 72 "FloatMarketModel$State" "leaves" "[I" "FloatMarketModel", .fieldLinkNest "FloatMarketModel" 117 "FloatMarketModel$State" "loosened" "[I" "FloatMarketModel", .fieldLinkNest "FloatMarketModel" 120 "FloatMarketModel$State" "drifted" "[I" "FloatMarketModel", .fieldLinkNest "FloatMarketModel" 123 "FloatMarketModel$State" "sold" "[I" "FloatMarketModel", .fieldLinkNest "FloatMarketModel" 126 "FloatMarketModel$State" "bought" "[I" "FloatMarketModel", .fieldLinkNest "FloatMarketModel$State" 103 "FloatMarketModel" "rows" "I" "FloatMarketModel", .fieldLinkNest "FloatMarketModel$State" 73 "FloatMarketModel" "places" "[I" "FloatMarketModel", .fieldLinkNest "FloatMarketModel$State" 76 "FloatMarketModel" "tide" "[I" "FloatMarketModel", .fieldLinkNest "FloatMarketModel$State" 100 "FloatMarketModel" "wake" "[I" "FloatMarketModel", .fieldLinkNest "FloatMarketModel$State" 66 "FloatMarketModel" "canoes" "I" "FloatMarketModel", .fieldLinkNest "FloatMarketModel$State" 97 "FloatMarketModel" "rope" "[I" "FloatMarketModel", .fieldLinkNest "FloatMarketModel$State" 118 "FloatMarketModel" "price" "[I" "FloatMarketModel", .fieldLinkNest "FloatMarketModel$State" 84 "FloatMarketModel" "wants" "[I" "FloatMarketModel", .fieldLinkNest "FloatMarketModel$State" 121 "FloatMarketModel" "pays" "[I" "FloatMarketModel"]
theorem fmXB_tab {w : Cond} (h : w ∈ fmXB) : w.onTables = true := by
  simp only [fmXB, List.mem_cons, List.not_mem_nil, or_false] at h
  rcases h with rfl | rfl | rfl | rfl | rfl | rfl | rfl | rfl | rfl | rfl | rfl | rfl | rfl | rfl | rfl | rfl | rfl | rfl | rfl | rfl | rfl | rfl | rfl | rfl | rfl | rfl | rfl | rfl <;> rfl
def fmXW (U : State) : Prop := ∀ w ∈ fmXB, va_Nw w U
theorem fmXW_same {u U : State} (hv : U.vm = u.vm) (h : fmXW u) : fmXW U := fun w hw => va_Nw.same (fmXB_tab hw) hv.symm (h w hw)
theorem fmXW_go {s U : State} (hW : s.WarmedH U.vm) (h : fmXW s) : fmXW U := by
  intro w hw
  have h0 := h w hw
  simp only [fmXB, List.mem_cons, List.not_mem_nil, or_false] at hw
  rcases hw with rfl | rfl | rfl | rfl | rfl | rfl | rfl | rfl | rfl | rfl | rfl | rfl | rfl | rfl | rfl | rfl | rfl | rfl | rfl | rfl | rfl | rfl | rfl | rfl | rfl | rfl | rfl | rfl <;> first | exact va_Nw.warmF hW h0 | exact va_Nw.warmC hW h0 | exact va_Nw.warmD hW h0
def fmXN (U : State) : Prop := va_Nc "java/lang/IllegalArgumentException" "java/lang/IndexOutOfBoundsException" U ∧ va_Nc "java/lang/IllegalStateException" "java/lang/IndexOutOfBoundsException" U ∧ va_Nc "java/lang/IllegalStateException" "java/lang/IllegalArgumentException" U
theorem fmXN_moved {u U : State} (hv : u.vm.Alike U.vm) (h : fmXN u) : fmXN U := ⟨va_Nc.moved hv h.1, va_Nc.moved hv h.2.1, va_Nc.moved hv h.2.2⟩
/-- the throwables' statics, the class's three texts, and those words -/
def fmX (A : Nat → Prop) (U : State) : Prop := vx_Zq Bundle.tN "UNASSIGNED_STACK" Bundle.steD A U U.heap ∧ vx_Zq Bundle.tN "SUPPRESSED_SENTINEL" Bundle.listD A U U.heap ∧ (∃ a, vk_R RX4 190 "there is no such number" a U) ∧ (∃ a, vk_R RX4 197 "the value is out of its range" a U) ∧ (∃ a, vk_R RX4 202 "this can not be done now" a U) ∧ fmXW U ∧ fmXN U
def fmPreX (D : va_G) (A : Nat → Prop) (G : fmG) (σ : fmS) (o : Nat → Int64) (U : State) : Prop := fmPre D A G σ o U ∧ fmX A U
abbrev fmB (D : va_G) (G : fmG) (o : Nat → Int64) : fmS → State → Prop := fun u t => va_P D vwCl (fmW G u o) t.heap
theorem fmPre_blind {D : va_G} {A : Nat → Prop} {G : fmG} {σ : fmS} {o : Nat → Int64} {as : List Value} : FrameBlind (va_Pc as (fmPre D A G σ o)) :=
  fun a U g mk q => ⟨q.1, q.2.1, va_K.moved (u := U) (U := U.calling g mk a) (Vm.Alike.refl U.vm) q.2.2.1, q.2.2.2.1, q.2.2.2.2⟩
theorem fmX_same {A : Nat → Prop} {u U : State} (hv : U.vm = u.vm) (hh : U.heap = u.heap) (h : fmX A u) : fmX A U := by
  have ha : u.vm.Alike U.vm := by rw [hv]; exact Vm.Alike.refl _
  obtain ⟨h1, h2, ⟨a1, h3⟩, ⟨a2, h4⟩, ⟨a3, h5⟩, h6, h7⟩ := h
  exact ⟨by rw [hh]; exact vx_Zq.moved ha h1, by rw [hh]; exact vx_Zq.moved ha h2, ⟨a1, vk_R.same hv h3⟩, ⟨a2, vk_R.same hv h4⟩, ⟨a3, vk_R.same hv h5⟩, fmXW_same hv h6, fmXN_moved ha h7⟩
theorem fmX_go {A : Nat → Prop} {s U : State} {H : Heap} {locs : List Loc} (hW : s.WarmedH U.vm) (hU : U.heap = H) (hS : va_S A s.heap H locs) (h : fmX A s) : fmX A U := by
  obtain ⟨h1, h2, ⟨a1, h3⟩, ⟨a2, h4⟩, ⟨a3, h5⟩, h6, h7⟩ := h
  exact ⟨by rw [hU]; exact vx_Zq.moved hW.alike (h1.kept hS.2.1), by rw [hU]; exact vx_Zq.moved hW.alike (h2.kept hS.2.1), ⟨a1, vk_R.warm hW h3⟩, ⟨a2, vk_R.warm hW h4⟩, ⟨a3, vk_R.warm hW h5⟩, fmXW_go hW h6, fmXN_moved hW.alike h7⟩
theorem fmPreX_blind {D : va_G} {A : Nat → Prop} {G : fmG} {σ : fmS} {o : Nat → Int64} {as : List Value} : FrameBlind (va_Pc as (fmPreX D A G σ o)) :=
  fun a U g mk q => ⟨q.1, (fmPre_blind a U g mk ⟨q.1, q.2.1⟩).2, fmX_same (u := U) rfl rfl q.2.2⟩

def fmMi (l : Launch) (D : va_G) (A : Nat → Prop) (G : fmG) (y : MethodName) (ws : List Cond) (rm : Room) (mc ms : Nat) (as : List Value) (σ : fmS) (o : Nat → Int64) (post : Int32 → fmS → Prop) : Prop := Met l y ws rm (va_Pc as (fmPre D A G σ o)) (va_Qi post (fmB D G o) A) mc ms A
def fmXi (l : Launch) (D : va_G) (A : Nat → Prop) (G : fmG) (y : MethodName) (ws : List Cond) (rm : Room) (mc ms : Nat) (as : List Value) (σ : fmS) (o : Nat → Int64) (post : Int32 → fmS → Prop) (px : String → fmS → Prop) : Prop := vx_Met l y ws rm (va_Pc as (fmPreX D A G σ o)) (va_Qi post (fmB D G o) A) (vx_X (fun _ : fmS => True) (fun E u t => px E u ∧ fmB D G o u t) A) mc ms A
def fmMl (l : Launch) (D : va_G) (A : Nat → Prop) (G : fmG) (y : MethodName) (ws : List Cond) (rm : Room) (mc ms : Nat) (as : List Value) (σ : fmS) (o : Nat → Int64) (post : Int64 → fmS → Prop) : Prop := Met l y ws rm (va_Pc as (fmPre D A G σ o)) (va_Ql post (fmB D G o) A) mc ms A
def fmXl (l : Launch) (D : va_G) (A : Nat → Prop) (G : fmG) (y : MethodName) (ws : List Cond) (rm : Room) (mc ms : Nat) (as : List Value) (σ : fmS) (o : Nat → Int64) (post : Int64 → fmS → Prop) (px : String → fmS → Prop) : Prop := vx_Met l y ws rm (va_Pc as (fmPreX D A G σ o)) (va_Ql post (fmB D G o) A) (vx_X (fun _ : fmS => True) (fun E u t => px E u ∧ fmB D G o u t) A) mc ms A
def fmMd (l : Launch) (D : va_G) (A : Nat → Prop) (G : fmG) (y : MethodName) (ws : List Cond) (rm : Room) (mc ms : Nat) (as : List Value) (σ : fmS) (o : Nat → Int64) (post : UInt64 → fmS → Prop) : Prop := Met l y ws rm (va_Pc as (fmPre D A G σ o)) (va_Qd post (fmB D G o) A) mc ms A
def fmXd (l : Launch) (D : va_G) (A : Nat → Prop) (G : fmG) (y : MethodName) (ws : List Cond) (rm : Room) (mc ms : Nat) (as : List Value) (σ : fmS) (o : Nat → Int64) (post : UInt64 → fmS → Prop) (px : String → fmS → Prop) : Prop := vx_Met l y ws rm (va_Pc as (fmPreX D A G σ o)) (va_Qd post (fmB D G o) A) (vx_X (fun _ : fmS => True) (fun E u t => px E u ∧ fmB D G o u t) A) mc ms A
def fmMv (l : Launch) (D : va_G) (A : Nat → Prop) (G : fmG) (y : MethodName) (ws : List Cond) (rm : Room) (mc ms : Nat) (as : List Value) (σ : fmS) (o : Nat → Int64) (post : fmS → Prop) : Prop := Met l y ws rm (va_Pc as (fmPre D A G σ o)) (va_Qv post (fmB D G o) A) mc ms A
def fmXv (l : Launch) (D : va_G) (A : Nat → Prop) (G : fmG) (y : MethodName) (ws : List Cond) (rm : Room) (mc ms : Nat) (as : List Value) (σ : fmS) (o : Nat → Int64) (post : fmS → Prop) (px : String → fmS → Prop) : Prop := vx_Met l y ws rm (va_Pc as (fmPreX D A G σ o)) (va_Qv post (fmB D G o) A) (vx_X (fun _ : fmS => True) (fun E u t => px E u ∧ fmB D G o u t) A) mc ms A
def fmMq (l : Launch) (D : va_G) (A : Nat → Prop) (G : fmG) (y : MethodName) (ws : List Cond) (rm : Room) (mc ms : Nat) (as : List Value) (σ : fmS) (o : Nat → Int64) (post : Option Nat → fmS → Prop) : Prop := Met l y ws rm (va_Pc as (fmPre D A G σ o)) (va_Qq post (fmB D G o) A) mc ms A

section FMC
variable {p : Program} {l : Launch} {e : Env} {R : Room} {s : State} {m : MethodId} {args : Array Value} {below : List Frame} {meth : Method} {c : Code} {D : va_G} {A : Nat → Prop} {G : fmG} {nL : Nat} {o : Nat → Int64} {Q : State → Prop} {σ : fmS} {cells slots : Nat} {lv : List (Nat × Value)} {st rest : List Value} {pc : Nat} {own : String} {cc : ByteArray} {ret : Option FieldType} {Ts : List Cond}
/-- the receiver's class -/
def fmRcv (s : State) (D : va_G) (G : fmG) (σ : fmS) (o : Nat → Int64) (b : Nat) (C : String) : Prop := ∀ H : Heap, va_P D vwCl (fmW G σ o) H → ∃ cell : Cell, H[b]? = some cell ∧ cell.vm.isStatics = false ∧ s.vm.findClass C = some cell.cls
theorem fmRcv_of (F : fmF p s m args meth c D A G own cc nL ret Ts) {kd a b ci : Nat} {r : vw_C} {fs : List Value} (hid : (kd, a, b) ∈ fmIds) (hc : fmC G σ o (kd, a, b) = .inr (ci, fs)) (hcl : vwCl[ci]? = some r) : fmRcv s D G σ o (G.1 kd a b) r.1 := by
  obtain ⟨hx, hb, hml, hr, hown, hts, hK, hD, hA, hlk⟩ := F
  intro H hP
  obtain ⟨q0, -, hq⟩ := fmW_get G σ o hid
  rw [hc] at hq
  exact va_recv hK hP hcl hq
theorem fmR_0 (F : fmF p s m args meth c D A G own cc nL ret Ts)  : fmRcv s D G σ o (G.1 0 0 0) RX4 := fmRcv_of F (fm_mem (a := 1) (b := 1) (by decide +kernel) (by decide) (by decide)) (fmC_is_0 G σ o 0 0) rfl
theorem fmR_1 (F : fmF p s m args meth c D A G own cc nL ret Ts)  : fmRcv s D G σ o (G.1 1 0 0) RX3 := fmRcv_of F (fm_mem (a := 1) (b := 1) (by decide +kernel) (by decide) (by decide)) (fmC_is_1 G σ o 0 0) rfl
theorem fmR_4 (F : fmF p s m args meth c D A G own cc nL ret Ts) {a : Nat}  (ha : a < 2) : fmRcv s D G σ o (G.1 4 a 0) RX1 := fmRcv_of F (fm_mem (a := 2) (b := 1) (by decide +kernel) ha (by decide)) (fmC_is_4 G σ o a 0) rfl
theorem fmR_7 (F : fmF p s m args meth c D A G own cc nL ret Ts) {a b : Nat}  (ha : a < 2) (hb9 : b < 4) : fmRcv s D G σ o (G.1 7 a b) RX2 := fmRcv_of F (fm_mem (a := 2) (b := 4) (by decide +kernel) ha hb9) (fmC_is_7 G σ o a b) rfl
theorem fmR_9 (F : fmF p s m args meth c D A G own cc nL ret Ts) {a b : Nat}  (ha : a < 2) (hb9 : b < 14) : fmRcv s D G σ o (G.1 9 a b) RX0 := fmRcv_of F (fm_mem (a := 2) (b := 14) (by decide +kernel) ha hb9) (fmC_is_9 G σ o a b) rfl
theorem fmR_14 (F : fmF p s m args meth c D A G own cc nL ret Ts)  : fmRcv s D G σ o (G.1 14 0 0) RX6 := fmRcv_of F (fm_mem (a := 1) (b := 1) (by decide +kernel) (by decide) (by decide)) (fmC_is_14 G σ o 0 0) rfl
theorem fmR_23 (F : fmF p s m args meth c D A G own cc nL ret Ts) {a : Nat}  (ha : a < 2) : fmRcv s D G σ o (G.1 23 a 0) RX5 := fmRcv_of F (fm_mem (a := 2) (b := 1) (by decide +kernel) ha (by decide)) (fmC_is_23 G σ o a 0) rfl
theorem fmPre_at (F : fmF p s m args meth c D A G own cc nL ret Ts) {H : Heap} {locs : List Loc} (hP : va_P D vwCl (fmW G σ o) H) (hS : va_S A s.heap H locs) {U : State} (hU : U.heap = H) (hW : s.WarmedH U.vm) : fmPre D A G σ o U := by
  obtain ⟨hx, hb, hml, hr, hown, hts, hK, hD, hA, hlk⟩ := F
  exact ⟨by rw [hU]; exact hP, va_K.moved hW.alike hK, hD, fun q hq => hA q (Nat.le_trans hS.1 (by rw [hU] at hq; exact hq))⟩
theorem fmV_cVi (F : fmF p s m args meth c D A G own cc nL ret Ts) {y : MethodName} {ws ws' : List Cond} {rm : Room} {mc ms n index maxL : Nat} {bytes : ByteArray} {ret9 : Option FieldType} {As : List Value} {b : Nat} {C : String} {post : Int32 → fmS → Prop} (hM : fmMi l D A G y ws rm mc ms (.ref b :: As) σ o post) (hG : GoodIn Ts (wsV own index C y ws)) (hw : ws = Cond.code y bytes maxL ret9 :: ws') (hrc : rm.cells = mc) (hrs : rm.slots = ms) (hd : y.cls = C ∧ y.cls ≠ "java/lang/invoke/MethodHandle" ∧ y.cls ≠ "java/lang/invoke/VarHandle" ∧ (parseMethodDescriptor y.desc).map (fun d => d.parameters.length) = some n) (hR : rm.frames + 1 ≤ R.frames ∧ 8 + (maxL + 11) + rm.locals ≤ R.locals) (hrec : fmRcv s D G σ o b C) (hst : st = As.reverse ++ .ref b :: rest) (hn : As.length = n) (hcat : (rest.map fun v => v.category).sum ≤ 8) (hdg : decode cc pc = .ok (.invokevirtual index, 3)) (hf : cells + mc ≤ R.cells ∧ slots + ms ≤ R.slots) (k : ∀ (r : Int32) (u : fmS), post r u → fmV p l e R s m args below meth c D A G nL o Q u (cells + mc) (slots + ms) lv (.int r :: rest) (pc + 3)) : fmV p l e R s m args below meth c D A G nL o Q σ cells slots lv st pc := by
  have F0 := F
  obtain ⟨hx, hb, hml, hr, hown, hts, hK, hD, hA, hlk⟩ := F
  intro H locs ls hP hS hl
  refine va_calli (va_runV (As := As) (rest := rest) ⟨hx, hb, hml, hown, hts⟩ hM (cwV n hts hG hw hrc hrs hd hR) ⟨fmPre_blind, hrec H hP, fun U hU hW => ⟨rfl, fmPre_at F0 hP hS hU hW⟩⟩ rfl hn hl.1 hst (lv_room hcat) hdg hf) hS (fun q _ h => h) (fun q h => h) (fun r u t H1 locs1 ht hvm hw hB hz1 hk1 hS1 => ?_)
  have hB : va_P D vwCl (fmW G u o) H1 := by have h9 : va_P D vwCl (fmW G u o) t.heap := hB; rw [ht] at h9; exact h9
  exact k r u hw H1 locs1 ls hB hS1 hl
theorem fmV_cVl (F : fmF p s m args meth c D A G own cc nL ret Ts) {y : MethodName} {ws ws' : List Cond} {rm : Room} {mc ms n index maxL : Nat} {bytes : ByteArray} {ret9 : Option FieldType} {As : List Value} {b : Nat} {C : String} {post : Int64 → fmS → Prop} (hM : fmMl l D A G y ws rm mc ms (.ref b :: As) σ o post) (hG : GoodIn Ts (wsV own index C y ws)) (hw : ws = Cond.code y bytes maxL ret9 :: ws') (hrc : rm.cells = mc) (hrs : rm.slots = ms) (hd : y.cls = C ∧ y.cls ≠ "java/lang/invoke/MethodHandle" ∧ y.cls ≠ "java/lang/invoke/VarHandle" ∧ (parseMethodDescriptor y.desc).map (fun d => d.parameters.length) = some n) (hR : rm.frames + 1 ≤ R.frames ∧ 8 + (maxL + 11) + rm.locals ≤ R.locals) (hrec : fmRcv s D G σ o b C) (hst : st = As.reverse ++ .ref b :: rest) (hn : As.length = n) (hcat : (rest.map fun v => v.category).sum ≤ 8) (hdg : decode cc pc = .ok (.invokevirtual index, 3)) (hf : cells + mc ≤ R.cells ∧ slots + ms ≤ R.slots) (k : ∀ (r : Int64) (u : fmS), post r u → fmV p l e R s m args below meth c D A G nL o Q u (cells + mc) (slots + ms) lv (.long r :: rest) (pc + 3)) : fmV p l e R s m args below meth c D A G nL o Q σ cells slots lv st pc := by
  have F0 := F
  obtain ⟨hx, hb, hml, hr, hown, hts, hK, hD, hA, hlk⟩ := F
  intro H locs ls hP hS hl
  refine va_calll (va_runV (As := As) (rest := rest) ⟨hx, hb, hml, hown, hts⟩ hM (cwV n hts hG hw hrc hrs hd hR) ⟨fmPre_blind, hrec H hP, fun U hU hW => ⟨rfl, fmPre_at F0 hP hS hU hW⟩⟩ rfl hn hl.1 hst (lv_room hcat) hdg hf) hS (fun q _ h => h) (fun q h => h) (fun r u t H1 locs1 ht hvm hw hB hz1 hk1 hS1 => ?_)
  have hB : va_P D vwCl (fmW G u o) H1 := by have h9 : va_P D vwCl (fmW G u o) t.heap := hB; rw [ht] at h9; exact h9
  exact k r u hw H1 locs1 ls hB hS1 hl
theorem fmV_cVd (F : fmF p s m args meth c D A G own cc nL ret Ts) {y : MethodName} {ws ws' : List Cond} {rm : Room} {mc ms n index maxL : Nat} {bytes : ByteArray} {ret9 : Option FieldType} {As : List Value} {b : Nat} {C : String} {post : UInt64 → fmS → Prop} (hM : fmMd l D A G y ws rm mc ms (.ref b :: As) σ o post) (hG : GoodIn Ts (wsV own index C y ws)) (hw : ws = Cond.code y bytes maxL ret9 :: ws') (hrc : rm.cells = mc) (hrs : rm.slots = ms) (hd : y.cls = C ∧ y.cls ≠ "java/lang/invoke/MethodHandle" ∧ y.cls ≠ "java/lang/invoke/VarHandle" ∧ (parseMethodDescriptor y.desc).map (fun d => d.parameters.length) = some n) (hR : rm.frames + 1 ≤ R.frames ∧ 8 + (maxL + 11) + rm.locals ≤ R.locals) (hrec : fmRcv s D G σ o b C) (hst : st = As.reverse ++ .ref b :: rest) (hn : As.length = n) (hcat : (rest.map fun v => v.category).sum ≤ 8) (hdg : decode cc pc = .ok (.invokevirtual index, 3)) (hf : cells + mc ≤ R.cells ∧ slots + ms ≤ R.slots) (k : ∀ (r : UInt64) (u : fmS), post r u → fmV p l e R s m args below meth c D A G nL o Q u (cells + mc) (slots + ms) lv (.double r :: rest) (pc + 3)) : fmV p l e R s m args below meth c D A G nL o Q σ cells slots lv st pc := by
  have F0 := F
  obtain ⟨hx, hb, hml, hr, hown, hts, hK, hD, hA, hlk⟩ := F
  intro H locs ls hP hS hl
  refine va_calld (va_runV (As := As) (rest := rest) ⟨hx, hb, hml, hown, hts⟩ hM (cwV n hts hG hw hrc hrs hd hR) ⟨fmPre_blind, hrec H hP, fun U hU hW => ⟨rfl, fmPre_at F0 hP hS hU hW⟩⟩ rfl hn hl.1 hst (lv_room hcat) hdg hf) hS (fun q _ h => h) (fun q h => h) (fun r u t H1 locs1 ht hvm hw hB hz1 hk1 hS1 => ?_)
  have hB : va_P D vwCl (fmW G u o) H1 := by have h9 : va_P D vwCl (fmW G u o) t.heap := hB; rw [ht] at h9; exact h9
  exact k r u hw H1 locs1 ls hB hS1 hl
theorem fmV_cVv (F : fmF p s m args meth c D A G own cc nL ret Ts) {y : MethodName} {ws ws' : List Cond} {rm : Room} {mc ms n index maxL : Nat} {bytes : ByteArray} {ret9 : Option FieldType} {As : List Value} {b : Nat} {C : String} {post : fmS → Prop} (hM : fmMv l D A G y ws rm mc ms (.ref b :: As) σ o post) (hG : GoodIn Ts (wsV own index C y ws)) (hw : ws = Cond.code y bytes maxL ret9 :: ws') (hrc : rm.cells = mc) (hrs : rm.slots = ms) (hd : y.cls = C ∧ y.cls ≠ "java/lang/invoke/MethodHandle" ∧ y.cls ≠ "java/lang/invoke/VarHandle" ∧ (parseMethodDescriptor y.desc).map (fun d => d.parameters.length) = some n) (hR : rm.frames + 1 ≤ R.frames ∧ 8 + (maxL + 11) + rm.locals ≤ R.locals) (hrec : fmRcv s D G σ o b C) (hst : st = As.reverse ++ .ref b :: rest) (hn : As.length = n) (hcat : (rest.map fun v => v.category).sum ≤ 8) (hdg : decode cc pc = .ok (.invokevirtual index, 3)) (hf : cells + mc ≤ R.cells ∧ slots + ms ≤ R.slots) (k : ∀ u : fmS, post u → fmV p l e R s m args below meth c D A G nL o Q u (cells + mc) (slots + ms) lv rest (pc + 3)) : fmV p l e R s m args below meth c D A G nL o Q σ cells slots lv st pc := by
  have F0 := F
  obtain ⟨hx, hb, hml, hr, hown, hts, hK, hD, hA, hlk⟩ := F
  intro H locs ls hP hS hl
  refine va_callv (va_runV (As := As) (rest := rest) ⟨hx, hb, hml, hown, hts⟩ hM (cwV n hts hG hw hrc hrs hd hR) ⟨fmPre_blind, hrec H hP, fun U hU hW => ⟨rfl, fmPre_at F0 hP hS hU hW⟩⟩ rfl hn hl.1 hst (lv_room hcat) hdg hf) hS (fun q _ h => h) (fun q h => h) (fun u t H1 locs1 ht hvm hw hB hz1 hk1 hS1 => ?_)
  have hB : va_P D vwCl (fmW G u o) H1 := by have h9 : va_P D vwCl (fmW G u o) t.heap := hB; rw [ht] at h9; exact h9
  exact k u hw H1 locs1 ls hB hS1 hl
theorem fmV_cSi (F : fmF p s m args meth c D A G own cc nL ret Ts) {y : MethodName} {ws ws' : List Cond} {rm : Room} {mc ms n index maxL : Nat} {bytes : ByteArray} {ret9 : Option FieldType} {As : List Value}  {post : Int32 → fmS → Prop} (hM : fmMi l D A G y ws rm mc ms As σ o post) (hG : GoodIn Ts (va_wsS own index y ws)) (hw : ws = Cond.code y bytes maxL ret9 :: ws') (hrc : rm.cells = mc) (hrs : rm.slots = ms) (hd : y.cls ≠ "java/lang/invoke/MethodHandle" ∧ y.cls ≠ "java/lang/invoke/VarHandle" ∧ (parseMethodDescriptor y.desc).map (fun d => d.parameters.length) = some n) (hR : rm.frames + 1 ≤ R.frames ∧ 8 + (maxL + 11) + rm.locals ≤ R.locals)  (hst : st = As.reverse ++ rest) (hn : As.length = n) (hcat : (rest.map fun v => v.category).sum ≤ 8) (hdg : decode cc pc = .ok (.invokestatic index, 3)) (hf : cells + mc ≤ R.cells ∧ slots + ms ≤ R.slots) (k : ∀ (r : Int32) (u : fmS), post r u → fmV p l e R s m args below meth c D A G nL o Q u (cells + mc) (slots + ms) lv (.int r :: rest) (pc + 3)) : fmV p l e R s m args below meth c D A G nL o Q σ cells slots lv st pc := by
  have F0 := F
  obtain ⟨hx, hb, hml, hr, hown, hts, hK, hD, hA, hlk⟩ := F
  intro H locs ls hP hS hl
  refine va_calli (va_runS (As := As) (rest := rest) ⟨hx, hb, hml, hown, hts⟩ hM (va_cwS n hts hG hw hrc hrs hd hR) ⟨fmPre_blind, fun U hU hW => ⟨rfl, fmPre_at F0 hP hS hU hW⟩⟩ rfl hn hl.1 hst (lv_room hcat) hdg hf) hS (fun q _ h => h) (fun q h => h) (fun r u t H1 locs1 ht hvm hw hB hz1 hk1 hS1 => ?_)
  have hB : va_P D vwCl (fmW G u o) H1 := by have h9 : va_P D vwCl (fmW G u o) t.heap := hB; rw [ht] at h9; exact h9
  exact k r u hw H1 locs1 ls hB hS1 hl
theorem fmV_cSl (F : fmF p s m args meth c D A G own cc nL ret Ts) {y : MethodName} {ws ws' : List Cond} {rm : Room} {mc ms n index maxL : Nat} {bytes : ByteArray} {ret9 : Option FieldType} {As : List Value}  {post : Int64 → fmS → Prop} (hM : fmMl l D A G y ws rm mc ms As σ o post) (hG : GoodIn Ts (va_wsS own index y ws)) (hw : ws = Cond.code y bytes maxL ret9 :: ws') (hrc : rm.cells = mc) (hrs : rm.slots = ms) (hd : y.cls ≠ "java/lang/invoke/MethodHandle" ∧ y.cls ≠ "java/lang/invoke/VarHandle" ∧ (parseMethodDescriptor y.desc).map (fun d => d.parameters.length) = some n) (hR : rm.frames + 1 ≤ R.frames ∧ 8 + (maxL + 11) + rm.locals ≤ R.locals)  (hst : st = As.reverse ++ rest) (hn : As.length = n) (hcat : (rest.map fun v => v.category).sum ≤ 8) (hdg : decode cc pc = .ok (.invokestatic index, 3)) (hf : cells + mc ≤ R.cells ∧ slots + ms ≤ R.slots) (k : ∀ (r : Int64) (u : fmS), post r u → fmV p l e R s m args below meth c D A G nL o Q u (cells + mc) (slots + ms) lv (.long r :: rest) (pc + 3)) : fmV p l e R s m args below meth c D A G nL o Q σ cells slots lv st pc := by
  have F0 := F
  obtain ⟨hx, hb, hml, hr, hown, hts, hK, hD, hA, hlk⟩ := F
  intro H locs ls hP hS hl
  refine va_calll (va_runS (As := As) (rest := rest) ⟨hx, hb, hml, hown, hts⟩ hM (va_cwS n hts hG hw hrc hrs hd hR) ⟨fmPre_blind, fun U hU hW => ⟨rfl, fmPre_at F0 hP hS hU hW⟩⟩ rfl hn hl.1 hst (lv_room hcat) hdg hf) hS (fun q _ h => h) (fun q h => h) (fun r u t H1 locs1 ht hvm hw hB hz1 hk1 hS1 => ?_)
  have hB : va_P D vwCl (fmW G u o) H1 := by have h9 : va_P D vwCl (fmW G u o) t.heap := hB; rw [ht] at h9; exact h9
  exact k r u hw H1 locs1 ls hB hS1 hl
theorem fmV_cSd (F : fmF p s m args meth c D A G own cc nL ret Ts) {y : MethodName} {ws ws' : List Cond} {rm : Room} {mc ms n index maxL : Nat} {bytes : ByteArray} {ret9 : Option FieldType} {As : List Value}  {post : UInt64 → fmS → Prop} (hM : fmMd l D A G y ws rm mc ms As σ o post) (hG : GoodIn Ts (va_wsS own index y ws)) (hw : ws = Cond.code y bytes maxL ret9 :: ws') (hrc : rm.cells = mc) (hrs : rm.slots = ms) (hd : y.cls ≠ "java/lang/invoke/MethodHandle" ∧ y.cls ≠ "java/lang/invoke/VarHandle" ∧ (parseMethodDescriptor y.desc).map (fun d => d.parameters.length) = some n) (hR : rm.frames + 1 ≤ R.frames ∧ 8 + (maxL + 11) + rm.locals ≤ R.locals)  (hst : st = As.reverse ++ rest) (hn : As.length = n) (hcat : (rest.map fun v => v.category).sum ≤ 8) (hdg : decode cc pc = .ok (.invokestatic index, 3)) (hf : cells + mc ≤ R.cells ∧ slots + ms ≤ R.slots) (k : ∀ (r : UInt64) (u : fmS), post r u → fmV p l e R s m args below meth c D A G nL o Q u (cells + mc) (slots + ms) lv (.double r :: rest) (pc + 3)) : fmV p l e R s m args below meth c D A G nL o Q σ cells slots lv st pc := by
  have F0 := F
  obtain ⟨hx, hb, hml, hr, hown, hts, hK, hD, hA, hlk⟩ := F
  intro H locs ls hP hS hl
  refine va_calld (va_runS (As := As) (rest := rest) ⟨hx, hb, hml, hown, hts⟩ hM (va_cwS n hts hG hw hrc hrs hd hR) ⟨fmPre_blind, fun U hU hW => ⟨rfl, fmPre_at F0 hP hS hU hW⟩⟩ rfl hn hl.1 hst (lv_room hcat) hdg hf) hS (fun q _ h => h) (fun q h => h) (fun r u t H1 locs1 ht hvm hw hB hz1 hk1 hS1 => ?_)
  have hB : va_P D vwCl (fmW G u o) H1 := by have h9 : va_P D vwCl (fmW G u o) t.heap := hB; rw [ht] at h9; exact h9
  exact k r u hw H1 locs1 ls hB hS1 hl
theorem fmV_cSv (F : fmF p s m args meth c D A G own cc nL ret Ts) {y : MethodName} {ws ws' : List Cond} {rm : Room} {mc ms n index maxL : Nat} {bytes : ByteArray} {ret9 : Option FieldType} {As : List Value}  {post : fmS → Prop} (hM : fmMv l D A G y ws rm mc ms As σ o post) (hG : GoodIn Ts (va_wsS own index y ws)) (hw : ws = Cond.code y bytes maxL ret9 :: ws') (hrc : rm.cells = mc) (hrs : rm.slots = ms) (hd : y.cls ≠ "java/lang/invoke/MethodHandle" ∧ y.cls ≠ "java/lang/invoke/VarHandle" ∧ (parseMethodDescriptor y.desc).map (fun d => d.parameters.length) = some n) (hR : rm.frames + 1 ≤ R.frames ∧ 8 + (maxL + 11) + rm.locals ≤ R.locals)  (hst : st = As.reverse ++ rest) (hn : As.length = n) (hcat : (rest.map fun v => v.category).sum ≤ 8) (hdg : decode cc pc = .ok (.invokestatic index, 3)) (hf : cells + mc ≤ R.cells ∧ slots + ms ≤ R.slots) (k : ∀ u : fmS, post u → fmV p l e R s m args below meth c D A G nL o Q u (cells + mc) (slots + ms) lv rest (pc + 3)) : fmV p l e R s m args below meth c D A G nL o Q σ cells slots lv st pc := by
  have F0 := F
  obtain ⟨hx, hb, hml, hr, hown, hts, hK, hD, hA, hlk⟩ := F
  intro H locs ls hP hS hl
  refine va_callv (va_runS (As := As) (rest := rest) ⟨hx, hb, hml, hown, hts⟩ hM (va_cwS n hts hG hw hrc hrs hd hR) ⟨fmPre_blind, fun U hU hW => ⟨rfl, fmPre_at F0 hP hS hU hW⟩⟩ rfl hn hl.1 hst (lv_room hcat) hdg hf) hS (fun q _ h => h) (fun q h => h) (fun u t H1 locs1 ht hvm hw hB hz1 hk1 hS1 => ?_)
  have hB : va_P D vwCl (fmW G u o) H1 := by have h9 : va_P D vwCl (fmW G u o) t.heap := hB; rw [ht] at h9; exact h9
  exact k u hw H1 locs1 ls hB hS1 hl
theorem fmV_cVq (F : fmF p s m args meth c D A G own cc nL ret Ts) {y : MethodName} {ws ws' : List Cond} {rm : Room} {mc ms n index maxL : Nat} {bytes : ByteArray} {ret9 : Option FieldType} {As : List Value} {b : Nat} {C : String} {post : Option Nat → fmS → Prop} (hM : fmMq l D A G y ws rm mc ms (.ref b :: As) σ o post) (hG : GoodIn Ts (wsV own index C y ws)) (hw : ws = Cond.code y bytes maxL ret9 :: ws') (hrc : rm.cells = mc) (hrs : rm.slots = ms) (hd : y.cls = C ∧ y.cls ≠ "java/lang/invoke/MethodHandle" ∧ y.cls ≠ "java/lang/invoke/VarHandle" ∧ (parseMethodDescriptor y.desc).map (fun d => d.parameters.length) = some n) (hR : rm.frames + 1 ≤ R.frames ∧ 8 + (maxL + 11) + rm.locals ≤ R.locals) (hrec : fmRcv s D G σ o b C) (hst : st = As.reverse ++ .ref b :: rest) (hn : As.length = n) (hcat : (rest.map fun v => v.category).sum ≤ 8) (hdg : decode cc pc = .ok (.invokevirtual index, 3)) (hf : cells + mc ≤ R.cells ∧ slots + ms ≤ R.slots) (k : ∀ (r : Option Nat) (u : fmS), post r u → fmV p l e R s m args below meth c D A G nL o Q u (cells + mc) (slots + ms) lv (va_rf r :: rest) (pc + 3)) : fmV p l e R s m args below meth c D A G nL o Q σ cells slots lv st pc := by
  have F0 := F
  obtain ⟨hx, hb, hml, hr, hown, hts, hK, hD, hA, hlk⟩ := F
  intro H locs ls hP hS hl
  refine va_callq (va_runV (As := As) (rest := rest) ⟨hx, hb, hml, hown, hts⟩ hM (cwV n hts hG hw hrc hrs hd hR) ⟨fmPre_blind, hrec H hP, fun U hU hW => ⟨rfl, fmPre_at F0 hP hS hU hW⟩⟩ rfl hn hl.1 hst (lv_room hcat) hdg hf) hS (fun q _ h => h) (fun q h => h) (fun r u t H1 locs1 ht hvm hw hB hz1 hk1 hS1 => ?_)
  have hB : va_P D vwCl (fmW G u o) H1 := by have h9 : va_P D vwCl (fmW G u o) t.heap := hB; rw [ht] at h9; exact h9
  exact k r u hw H1 locs1 ls hB hS1 hl
theorem fmV_xSi (F : fmF p s m args meth c D A G own cc nL ret Ts) (hX : fmX A s) {y : MethodName} {ws ws' : List Cond} {rm : Room} {mc ms n index maxL : Nat} {bytes : ByteArray} {ret9 : Option FieldType} {As : List Value}  {post : Int32 → fmS → Prop} {px : String → fmS → Prop} (hM : fmXi l D A G y ws rm mc ms As σ o post px) (hG : GoodIn Ts (va_wsS own index y ws)) (hw : ws = Cond.code y bytes maxL ret9 :: ws') (hrc : rm.cells = mc) (hrs : rm.slots = ms) (hd : y.cls ≠ "java/lang/invoke/MethodHandle" ∧ y.cls ≠ "java/lang/invoke/VarHandle" ∧ (parseMethodDescriptor y.desc).map (fun d => d.parameters.length) = some n) (hR : rm.frames + 1 ≤ R.frames ∧ 8 + (maxL + 11) + rm.locals ≤ R.locals)  (hst : st = As.reverse ++ rest) (hn : As.length = n) (hcat : (rest.map fun v => v.category).sum ≤ 8) (hdg : decode cc pc = .ok (.invokestatic index, 3)) (hf : cells + mc ≤ R.cells ∧ slots + ms ≤ R.slots) (kx : ∀ (E : String) (u : fmS), px E u → ∀ (ce : Cell) (q9 : Addr) (H1 : Heap) (locs1 : List Loc) (ls : Array Slot), va_P D vwCl (fmW G u o) H1 → va_S A s.heap H1 locs1 → lv_has ls nL lv → H1[q9]? = some ce → ce.vm = .none → s.vm.findClass E = some ce.cls → vx_W p l e R s m args below meth c H1 locs1 (cells + mc) (slots + ms) Q (F0 m pc ls rest) q9) (k : ∀ (r : Int32) (u : fmS), post r u → fmV p l e R s m args below meth c D A G nL o Q u (cells + mc) (slots + ms) lv (.int r :: rest) (pc + 3)) : fmV p l e R s m args below meth c D A G nL o Q σ cells slots lv st pc := by
  have F0 := F
  obtain ⟨hx, hb, hml, hr, hown, hts, hK, hD, hA, hlk⟩ := F
  intro H locs ls hP hS hl
  refine vx_calli (vx_runS (As := As) (rest := rest) ⟨hx, hb, hml, hown, hts⟩ hM (va_cwS n hts hG hw hrc hrs hd hR) ⟨fmPreX_blind, fun U hU hW => ⟨rfl, fmPre_at F0 hP hS hU hW, fmX_go hW hU hS hX⟩⟩ rfl hn hl.1 hst (lv_room hcat) hdg hf) hS (fun q _ h => h) (fun q h => h) (fun q _ h => h) (fun E ce q9 u t H1 locs1 ht hvm hu hBX hz1 hk1 hS1 hce hcv hcl => ?_) (fun r u t H1 locs1 ht hvm hw hB hz1 hk1 hS1 => ?_)
  · obtain ⟨hpx, hB⟩ := hBX
    have hB : va_P D vwCl (fmW G u o) H1 := by have h9 : va_P D vwCl (fmW G u o) t.heap := hB; rw [ht] at h9; exact h9
    exact kx E u hpx ce q9 H1 locs1 ls hB hS1 hl hce hcv hcl
  · have hB : va_P D vwCl (fmW G u o) H1 := by have h9 : va_P D vwCl (fmW G u o) t.heap := hB; rw [ht] at h9; exact h9
    exact k r u hw H1 locs1 ls hB hS1 hl
theorem fmV_xSl (F : fmF p s m args meth c D A G own cc nL ret Ts) (hX : fmX A s) {y : MethodName} {ws ws' : List Cond} {rm : Room} {mc ms n index maxL : Nat} {bytes : ByteArray} {ret9 : Option FieldType} {As : List Value}  {post : Int64 → fmS → Prop} {px : String → fmS → Prop} (hM : fmXl l D A G y ws rm mc ms As σ o post px) (hG : GoodIn Ts (va_wsS own index y ws)) (hw : ws = Cond.code y bytes maxL ret9 :: ws') (hrc : rm.cells = mc) (hrs : rm.slots = ms) (hd : y.cls ≠ "java/lang/invoke/MethodHandle" ∧ y.cls ≠ "java/lang/invoke/VarHandle" ∧ (parseMethodDescriptor y.desc).map (fun d => d.parameters.length) = some n) (hR : rm.frames + 1 ≤ R.frames ∧ 8 + (maxL + 11) + rm.locals ≤ R.locals)  (hst : st = As.reverse ++ rest) (hn : As.length = n) (hcat : (rest.map fun v => v.category).sum ≤ 8) (hdg : decode cc pc = .ok (.invokestatic index, 3)) (hf : cells + mc ≤ R.cells ∧ slots + ms ≤ R.slots) (kx : ∀ (E : String) (u : fmS), px E u → ∀ (ce : Cell) (q9 : Addr) (H1 : Heap) (locs1 : List Loc) (ls : Array Slot), va_P D vwCl (fmW G u o) H1 → va_S A s.heap H1 locs1 → lv_has ls nL lv → H1[q9]? = some ce → ce.vm = .none → s.vm.findClass E = some ce.cls → vx_W p l e R s m args below meth c H1 locs1 (cells + mc) (slots + ms) Q (F0 m pc ls rest) q9) (k : ∀ (r : Int64) (u : fmS), post r u → fmV p l e R s m args below meth c D A G nL o Q u (cells + mc) (slots + ms) lv (.long r :: rest) (pc + 3)) : fmV p l e R s m args below meth c D A G nL o Q σ cells slots lv st pc := by
  have F0 := F
  obtain ⟨hx, hb, hml, hr, hown, hts, hK, hD, hA, hlk⟩ := F
  intro H locs ls hP hS hl
  refine vx_calll (vx_runS (As := As) (rest := rest) ⟨hx, hb, hml, hown, hts⟩ hM (va_cwS n hts hG hw hrc hrs hd hR) ⟨fmPreX_blind, fun U hU hW => ⟨rfl, fmPre_at F0 hP hS hU hW, fmX_go hW hU hS hX⟩⟩ rfl hn hl.1 hst (lv_room hcat) hdg hf) hS (fun q _ h => h) (fun q h => h) (fun q _ h => h) (fun E ce q9 u t H1 locs1 ht hvm hu hBX hz1 hk1 hS1 hce hcv hcl => ?_) (fun r u t H1 locs1 ht hvm hw hB hz1 hk1 hS1 => ?_)
  · obtain ⟨hpx, hB⟩ := hBX
    have hB : va_P D vwCl (fmW G u o) H1 := by have h9 : va_P D vwCl (fmW G u o) t.heap := hB; rw [ht] at h9; exact h9
    exact kx E u hpx ce q9 H1 locs1 ls hB hS1 hl hce hcv hcl
  · have hB : va_P D vwCl (fmW G u o) H1 := by have h9 : va_P D vwCl (fmW G u o) t.heap := hB; rw [ht] at h9; exact h9
    exact k r u hw H1 locs1 ls hB hS1 hl
theorem fmV_xSd (F : fmF p s m args meth c D A G own cc nL ret Ts) (hX : fmX A s) {y : MethodName} {ws ws' : List Cond} {rm : Room} {mc ms n index maxL : Nat} {bytes : ByteArray} {ret9 : Option FieldType} {As : List Value}  {post : UInt64 → fmS → Prop} {px : String → fmS → Prop} (hM : fmXd l D A G y ws rm mc ms As σ o post px) (hG : GoodIn Ts (va_wsS own index y ws)) (hw : ws = Cond.code y bytes maxL ret9 :: ws') (hrc : rm.cells = mc) (hrs : rm.slots = ms) (hd : y.cls ≠ "java/lang/invoke/MethodHandle" ∧ y.cls ≠ "java/lang/invoke/VarHandle" ∧ (parseMethodDescriptor y.desc).map (fun d => d.parameters.length) = some n) (hR : rm.frames + 1 ≤ R.frames ∧ 8 + (maxL + 11) + rm.locals ≤ R.locals)  (hst : st = As.reverse ++ rest) (hn : As.length = n) (hcat : (rest.map fun v => v.category).sum ≤ 8) (hdg : decode cc pc = .ok (.invokestatic index, 3)) (hf : cells + mc ≤ R.cells ∧ slots + ms ≤ R.slots) (kx : ∀ (E : String) (u : fmS), px E u → ∀ (ce : Cell) (q9 : Addr) (H1 : Heap) (locs1 : List Loc) (ls : Array Slot), va_P D vwCl (fmW G u o) H1 → va_S A s.heap H1 locs1 → lv_has ls nL lv → H1[q9]? = some ce → ce.vm = .none → s.vm.findClass E = some ce.cls → vx_W p l e R s m args below meth c H1 locs1 (cells + mc) (slots + ms) Q (F0 m pc ls rest) q9) (k : ∀ (r : UInt64) (u : fmS), post r u → fmV p l e R s m args below meth c D A G nL o Q u (cells + mc) (slots + ms) lv (.double r :: rest) (pc + 3)) : fmV p l e R s m args below meth c D A G nL o Q σ cells slots lv st pc := by
  have F0 := F
  obtain ⟨hx, hb, hml, hr, hown, hts, hK, hD, hA, hlk⟩ := F
  intro H locs ls hP hS hl
  refine vx_calld (vx_runS (As := As) (rest := rest) ⟨hx, hb, hml, hown, hts⟩ hM (va_cwS n hts hG hw hrc hrs hd hR) ⟨fmPreX_blind, fun U hU hW => ⟨rfl, fmPre_at F0 hP hS hU hW, fmX_go hW hU hS hX⟩⟩ rfl hn hl.1 hst (lv_room hcat) hdg hf) hS (fun q _ h => h) (fun q h => h) (fun q _ h => h) (fun E ce q9 u t H1 locs1 ht hvm hu hBX hz1 hk1 hS1 hce hcv hcl => ?_) (fun r u t H1 locs1 ht hvm hw hB hz1 hk1 hS1 => ?_)
  · obtain ⟨hpx, hB⟩ := hBX
    have hB : va_P D vwCl (fmW G u o) H1 := by have h9 : va_P D vwCl (fmW G u o) t.heap := hB; rw [ht] at h9; exact h9
    exact kx E u hpx ce q9 H1 locs1 ls hB hS1 hl hce hcv hcl
  · have hB : va_P D vwCl (fmW G u o) H1 := by have h9 : va_P D vwCl (fmW G u o) t.heap := hB; rw [ht] at h9; exact h9
    exact k r u hw H1 locs1 ls hB hS1 hl
theorem fmV_xSv (F : fmF p s m args meth c D A G own cc nL ret Ts) (hX : fmX A s) {y : MethodName} {ws ws' : List Cond} {rm : Room} {mc ms n index maxL : Nat} {bytes : ByteArray} {ret9 : Option FieldType} {As : List Value}  {post : fmS → Prop} {px : String → fmS → Prop} (hM : fmXv l D A G y ws rm mc ms As σ o post px) (hG : GoodIn Ts (va_wsS own index y ws)) (hw : ws = Cond.code y bytes maxL ret9 :: ws') (hrc : rm.cells = mc) (hrs : rm.slots = ms) (hd : y.cls ≠ "java/lang/invoke/MethodHandle" ∧ y.cls ≠ "java/lang/invoke/VarHandle" ∧ (parseMethodDescriptor y.desc).map (fun d => d.parameters.length) = some n) (hR : rm.frames + 1 ≤ R.frames ∧ 8 + (maxL + 11) + rm.locals ≤ R.locals)  (hst : st = As.reverse ++ rest) (hn : As.length = n) (hcat : (rest.map fun v => v.category).sum ≤ 8) (hdg : decode cc pc = .ok (.invokestatic index, 3)) (hf : cells + mc ≤ R.cells ∧ slots + ms ≤ R.slots) (kx : ∀ (E : String) (u : fmS), px E u → ∀ (ce : Cell) (q9 : Addr) (H1 : Heap) (locs1 : List Loc) (ls : Array Slot), va_P D vwCl (fmW G u o) H1 → va_S A s.heap H1 locs1 → lv_has ls nL lv → H1[q9]? = some ce → ce.vm = .none → s.vm.findClass E = some ce.cls → vx_W p l e R s m args below meth c H1 locs1 (cells + mc) (slots + ms) Q (F0 m pc ls rest) q9) (k : ∀ u : fmS, post u → fmV p l e R s m args below meth c D A G nL o Q u (cells + mc) (slots + ms) lv rest (pc + 3)) : fmV p l e R s m args below meth c D A G nL o Q σ cells slots lv st pc := by
  have F0 := F
  obtain ⟨hx, hb, hml, hr, hown, hts, hK, hD, hA, hlk⟩ := F
  intro H locs ls hP hS hl
  refine vx_callv (vx_runS (As := As) (rest := rest) ⟨hx, hb, hml, hown, hts⟩ hM (va_cwS n hts hG hw hrc hrs hd hR) ⟨fmPreX_blind, fun U hU hW => ⟨rfl, fmPre_at F0 hP hS hU hW, fmX_go hW hU hS hX⟩⟩ rfl hn hl.1 hst (lv_room hcat) hdg hf) hS (fun q _ h => h) (fun q h => h) (fun q _ h => h) (fun E ce q9 u t H1 locs1 ht hvm hu hBX hz1 hk1 hS1 hce hcv hcl => ?_) (fun u t H1 locs1 ht hvm hw hB hz1 hk1 hS1 => ?_)
  · obtain ⟨hpx, hB⟩ := hBX
    have hB : va_P D vwCl (fmW G u o) H1 := by have h9 : va_P D vwCl (fmW G u o) t.heap := hB; rw [ht] at h9; exact h9
    exact kx E u hpx ce q9 H1 locs1 ls hB hS1 hl hce hcv hcl
  · have hB : va_P D vwCl (fmW G u o) H1 := by have h9 : va_P D vwCl (fmW G u o) t.heap := hB; rw [ht] at h9; exact h9
    exact k u hw H1 locs1 ls hB hS1 hl
theorem fmV_xVi (F : fmF p s m args meth c D A G own cc nL ret Ts) (hX : fmX A s) {y : MethodName} {ws ws' : List Cond} {rm : Room} {mc ms n index maxL : Nat} {bytes : ByteArray} {ret9 : Option FieldType} {As : List Value} {b : Nat} {C : String} {post : Int32 → fmS → Prop} {px : String → fmS → Prop} (hM : fmXi l D A G y ws rm mc ms (.ref b :: As) σ o post px) (hG : GoodIn Ts (wsV own index C y ws)) (hw : ws = Cond.code y bytes maxL ret9 :: ws') (hrc : rm.cells = mc) (hrs : rm.slots = ms) (hd : y.cls = C ∧ y.cls ≠ "java/lang/invoke/MethodHandle" ∧ y.cls ≠ "java/lang/invoke/VarHandle" ∧ (parseMethodDescriptor y.desc).map (fun d => d.parameters.length) = some n) (hR : rm.frames + 1 ≤ R.frames ∧ 8 + (maxL + 11) + rm.locals ≤ R.locals) (hrec : fmRcv s D G σ o b C) (hst : st = As.reverse ++ .ref b :: rest) (hn : As.length = n) (hcat : (rest.map fun v => v.category).sum ≤ 8) (hdg : decode cc pc = .ok (.invokevirtual index, 3)) (hf : cells + mc ≤ R.cells ∧ slots + ms ≤ R.slots) (kx : ∀ (E : String) (u : fmS), px E u → ∀ (ce : Cell) (q9 : Addr) (H1 : Heap) (locs1 : List Loc) (ls : Array Slot), va_P D vwCl (fmW G u o) H1 → va_S A s.heap H1 locs1 → lv_has ls nL lv → H1[q9]? = some ce → ce.vm = .none → s.vm.findClass E = some ce.cls → vx_W p l e R s m args below meth c H1 locs1 (cells + mc) (slots + ms) Q (F0 m pc ls rest) q9) (k : ∀ (r : Int32) (u : fmS), post r u → fmV p l e R s m args below meth c D A G nL o Q u (cells + mc) (slots + ms) lv (.int r :: rest) (pc + 3)) : fmV p l e R s m args below meth c D A G nL o Q σ cells slots lv st pc := by
  have F0 := F
  obtain ⟨hx, hb, hml, hr, hown, hts, hK, hD, hA, hlk⟩ := F
  intro H locs ls hP hS hl
  refine vx_calli (vx_runV (As := As) (rest := rest) ⟨hx, hb, hml, hown, hts⟩ hM (cwV n hts hG hw hrc hrs hd hR) ⟨fmPreX_blind, hrec H hP, fun U hU hW => ⟨rfl, fmPre_at F0 hP hS hU hW, fmX_go hW hU hS hX⟩⟩ rfl hn hl.1 hst (lv_room hcat) hdg hf) hS (fun q _ h => h) (fun q h => h) (fun q _ h => h) (fun E ce q9 u t H1 locs1 ht hvm hu hBX hz1 hk1 hS1 hce hcv hcl => ?_) (fun r u t H1 locs1 ht hvm hw hB hz1 hk1 hS1 => ?_)
  · obtain ⟨hpx, hB⟩ := hBX
    have hB : va_P D vwCl (fmW G u o) H1 := by have h9 : va_P D vwCl (fmW G u o) t.heap := hB; rw [ht] at h9; exact h9
    exact kx E u hpx ce q9 H1 locs1 ls hB hS1 hl hce hcv hcl
  · have hB : va_P D vwCl (fmW G u o) H1 := by have h9 : va_P D vwCl (fmW G u o) t.heap := hB; rw [ht] at h9; exact h9
    exact k r u hw H1 locs1 ls hB hS1 hl
theorem fmV_xVl (F : fmF p s m args meth c D A G own cc nL ret Ts) (hX : fmX A s) {y : MethodName} {ws ws' : List Cond} {rm : Room} {mc ms n index maxL : Nat} {bytes : ByteArray} {ret9 : Option FieldType} {As : List Value} {b : Nat} {C : String} {post : Int64 → fmS → Prop} {px : String → fmS → Prop} (hM : fmXl l D A G y ws rm mc ms (.ref b :: As) σ o post px) (hG : GoodIn Ts (wsV own index C y ws)) (hw : ws = Cond.code y bytes maxL ret9 :: ws') (hrc : rm.cells = mc) (hrs : rm.slots = ms) (hd : y.cls = C ∧ y.cls ≠ "java/lang/invoke/MethodHandle" ∧ y.cls ≠ "java/lang/invoke/VarHandle" ∧ (parseMethodDescriptor y.desc).map (fun d => d.parameters.length) = some n) (hR : rm.frames + 1 ≤ R.frames ∧ 8 + (maxL + 11) + rm.locals ≤ R.locals) (hrec : fmRcv s D G σ o b C) (hst : st = As.reverse ++ .ref b :: rest) (hn : As.length = n) (hcat : (rest.map fun v => v.category).sum ≤ 8) (hdg : decode cc pc = .ok (.invokevirtual index, 3)) (hf : cells + mc ≤ R.cells ∧ slots + ms ≤ R.slots) (kx : ∀ (E : String) (u : fmS), px E u → ∀ (ce : Cell) (q9 : Addr) (H1 : Heap) (locs1 : List Loc) (ls : Array Slot), va_P D vwCl (fmW G u o) H1 → va_S A s.heap H1 locs1 → lv_has ls nL lv → H1[q9]? = some ce → ce.vm = .none → s.vm.findClass E = some ce.cls → vx_W p l e R s m args below meth c H1 locs1 (cells + mc) (slots + ms) Q (F0 m pc ls rest) q9) (k : ∀ (r : Int64) (u : fmS), post r u → fmV p l e R s m args below meth c D A G nL o Q u (cells + mc) (slots + ms) lv (.long r :: rest) (pc + 3)) : fmV p l e R s m args below meth c D A G nL o Q σ cells slots lv st pc := by
  have F0 := F
  obtain ⟨hx, hb, hml, hr, hown, hts, hK, hD, hA, hlk⟩ := F
  intro H locs ls hP hS hl
  refine vx_calll (vx_runV (As := As) (rest := rest) ⟨hx, hb, hml, hown, hts⟩ hM (cwV n hts hG hw hrc hrs hd hR) ⟨fmPreX_blind, hrec H hP, fun U hU hW => ⟨rfl, fmPre_at F0 hP hS hU hW, fmX_go hW hU hS hX⟩⟩ rfl hn hl.1 hst (lv_room hcat) hdg hf) hS (fun q _ h => h) (fun q h => h) (fun q _ h => h) (fun E ce q9 u t H1 locs1 ht hvm hu hBX hz1 hk1 hS1 hce hcv hcl => ?_) (fun r u t H1 locs1 ht hvm hw hB hz1 hk1 hS1 => ?_)
  · obtain ⟨hpx, hB⟩ := hBX
    have hB : va_P D vwCl (fmW G u o) H1 := by have h9 : va_P D vwCl (fmW G u o) t.heap := hB; rw [ht] at h9; exact h9
    exact kx E u hpx ce q9 H1 locs1 ls hB hS1 hl hce hcv hcl
  · have hB : va_P D vwCl (fmW G u o) H1 := by have h9 : va_P D vwCl (fmW G u o) t.heap := hB; rw [ht] at h9; exact h9
    exact k r u hw H1 locs1 ls hB hS1 hl
theorem fmV_xVd (F : fmF p s m args meth c D A G own cc nL ret Ts) (hX : fmX A s) {y : MethodName} {ws ws' : List Cond} {rm : Room} {mc ms n index maxL : Nat} {bytes : ByteArray} {ret9 : Option FieldType} {As : List Value} {b : Nat} {C : String} {post : UInt64 → fmS → Prop} {px : String → fmS → Prop} (hM : fmXd l D A G y ws rm mc ms (.ref b :: As) σ o post px) (hG : GoodIn Ts (wsV own index C y ws)) (hw : ws = Cond.code y bytes maxL ret9 :: ws') (hrc : rm.cells = mc) (hrs : rm.slots = ms) (hd : y.cls = C ∧ y.cls ≠ "java/lang/invoke/MethodHandle" ∧ y.cls ≠ "java/lang/invoke/VarHandle" ∧ (parseMethodDescriptor y.desc).map (fun d => d.parameters.length) = some n) (hR : rm.frames + 1 ≤ R.frames ∧ 8 + (maxL + 11) + rm.locals ≤ R.locals) (hrec : fmRcv s D G σ o b C) (hst : st = As.reverse ++ .ref b :: rest) (hn : As.length = n) (hcat : (rest.map fun v => v.category).sum ≤ 8) (hdg : decode cc pc = .ok (.invokevirtual index, 3)) (hf : cells + mc ≤ R.cells ∧ slots + ms ≤ R.slots) (kx : ∀ (E : String) (u : fmS), px E u → ∀ (ce : Cell) (q9 : Addr) (H1 : Heap) (locs1 : List Loc) (ls : Array Slot), va_P D vwCl (fmW G u o) H1 → va_S A s.heap H1 locs1 → lv_has ls nL lv → H1[q9]? = some ce → ce.vm = .none → s.vm.findClass E = some ce.cls → vx_W p l e R s m args below meth c H1 locs1 (cells + mc) (slots + ms) Q (F0 m pc ls rest) q9) (k : ∀ (r : UInt64) (u : fmS), post r u → fmV p l e R s m args below meth c D A G nL o Q u (cells + mc) (slots + ms) lv (.double r :: rest) (pc + 3)) : fmV p l e R s m args below meth c D A G nL o Q σ cells slots lv st pc := by
  have F0 := F
  obtain ⟨hx, hb, hml, hr, hown, hts, hK, hD, hA, hlk⟩ := F
  intro H locs ls hP hS hl
  refine vx_calld (vx_runV (As := As) (rest := rest) ⟨hx, hb, hml, hown, hts⟩ hM (cwV n hts hG hw hrc hrs hd hR) ⟨fmPreX_blind, hrec H hP, fun U hU hW => ⟨rfl, fmPre_at F0 hP hS hU hW, fmX_go hW hU hS hX⟩⟩ rfl hn hl.1 hst (lv_room hcat) hdg hf) hS (fun q _ h => h) (fun q h => h) (fun q _ h => h) (fun E ce q9 u t H1 locs1 ht hvm hu hBX hz1 hk1 hS1 hce hcv hcl => ?_) (fun r u t H1 locs1 ht hvm hw hB hz1 hk1 hS1 => ?_)
  · obtain ⟨hpx, hB⟩ := hBX
    have hB : va_P D vwCl (fmW G u o) H1 := by have h9 : va_P D vwCl (fmW G u o) t.heap := hB; rw [ht] at h9; exact h9
    exact kx E u hpx ce q9 H1 locs1 ls hB hS1 hl hce hcv hcl
  · have hB : va_P D vwCl (fmW G u o) H1 := by have h9 : va_P D vwCl (fmW G u o) t.heap := hB; rw [ht] at h9; exact h9
    exact k r u hw H1 locs1 ls hB hS1 hl
theorem fmV_xVv (F : fmF p s m args meth c D A G own cc nL ret Ts) (hX : fmX A s) {y : MethodName} {ws ws' : List Cond} {rm : Room} {mc ms n index maxL : Nat} {bytes : ByteArray} {ret9 : Option FieldType} {As : List Value} {b : Nat} {C : String} {post : fmS → Prop} {px : String → fmS → Prop} (hM : fmXv l D A G y ws rm mc ms (.ref b :: As) σ o post px) (hG : GoodIn Ts (wsV own index C y ws)) (hw : ws = Cond.code y bytes maxL ret9 :: ws') (hrc : rm.cells = mc) (hrs : rm.slots = ms) (hd : y.cls = C ∧ y.cls ≠ "java/lang/invoke/MethodHandle" ∧ y.cls ≠ "java/lang/invoke/VarHandle" ∧ (parseMethodDescriptor y.desc).map (fun d => d.parameters.length) = some n) (hR : rm.frames + 1 ≤ R.frames ∧ 8 + (maxL + 11) + rm.locals ≤ R.locals) (hrec : fmRcv s D G σ o b C) (hst : st = As.reverse ++ .ref b :: rest) (hn : As.length = n) (hcat : (rest.map fun v => v.category).sum ≤ 8) (hdg : decode cc pc = .ok (.invokevirtual index, 3)) (hf : cells + mc ≤ R.cells ∧ slots + ms ≤ R.slots) (kx : ∀ (E : String) (u : fmS), px E u → ∀ (ce : Cell) (q9 : Addr) (H1 : Heap) (locs1 : List Loc) (ls : Array Slot), va_P D vwCl (fmW G u o) H1 → va_S A s.heap H1 locs1 → lv_has ls nL lv → H1[q9]? = some ce → ce.vm = .none → s.vm.findClass E = some ce.cls → vx_W p l e R s m args below meth c H1 locs1 (cells + mc) (slots + ms) Q (F0 m pc ls rest) q9) (k : ∀ u : fmS, post u → fmV p l e R s m args below meth c D A G nL o Q u (cells + mc) (slots + ms) lv rest (pc + 3)) : fmV p l e R s m args below meth c D A G nL o Q σ cells slots lv st pc := by
  have F0 := F
  obtain ⟨hx, hb, hml, hr, hown, hts, hK, hD, hA, hlk⟩ := F
  intro H locs ls hP hS hl
  refine vx_callv (vx_runV (As := As) (rest := rest) ⟨hx, hb, hml, hown, hts⟩ hM (cwV n hts hG hw hrc hrs hd hR) ⟨fmPreX_blind, hrec H hP, fun U hU hW => ⟨rfl, fmPre_at F0 hP hS hU hW, fmX_go hW hU hS hX⟩⟩ rfl hn hl.1 hst (lv_room hcat) hdg hf) hS (fun q _ h => h) (fun q h => h) (fun q _ h => h) (fun E ce q9 u t H1 locs1 ht hvm hu hBX hz1 hk1 hS1 hce hcv hcl => ?_) (fun u t H1 locs1 ht hvm hw hB hz1 hk1 hS1 => ?_)
  · obtain ⟨hpx, hB⟩ := hBX
    have hB : va_P D vwCl (fmW G u o) H1 := by have h9 : va_P D vwCl (fmW G u o) t.heap := hB; rw [ht] at h9; exact h9
    exact kx E u hpx ce q9 H1 locs1 ls hB hS1 hl hce hcv hcl
  · have hB : va_P D vwCl (fmW G u o) H1 := by have h9 : va_P D vwCl (fmW G u o) t.heap := hB; rw [ht] at h9; exact h9
    exact k u hw H1 locs1 ls hB hS1 hl
/-- what is thrown goes on to the caller -/
theorem fm_out (F : fmF p s m args meth c D A G own cc nL ret Ts) (hnt : ∀ x ∈ c.exceptionTable.toList, False) {Qc : Array Value → State → Outcome → State → Prop} {px : String → fmS → Prop} {E : String} {u : fmS} {ce : Cell} {q9 : Addr} {H1 : Heap} {locs1 : List Loc} {ls : Array Slot} {mc ms : Nat} (hpx : px E u) (hP : va_P D vwCl (fmW G u o) H1) (hS : va_S A s.heap H1 locs1) (hce : H1[q9]? = some ce) (hcv : ce.vm = .none) (hcl : s.vm.findClass E = some ce.cls) (h1 : cells ≤ mc) (h2 : slots ≤ ms) :
    vx_W p l e R s m args below meth c H1 locs1 cells slots (vx_MQ below Qc (vx_X (fun _ : fmS => True) (fun E u t => px E u ∧ fmB D G o u t) A) args s mc ms A) (F0 m pc ls rest) q9 := by
  obtain ⟨hx, hb, hml, hr, hown, hts, hK, hD, hA, hlk⟩ := F
  exact vx_out (fun x hx => (hnt x hx).elim) hlk hce hcv hcl (fun t ht _ => ⟨u, trivial, ⟨hpx, by show va_P D vwCl (fmW G u o) t.heap; rw [ht]; exact hP⟩, hS.F ht⟩) hS.2.2 h1 h2
theorem fmV_iret (F : fmF p s m args meth c D A G own cc nL ret Ts) {post : Int32 → fmS → Prop} {x : Int32} (hdg : decode cc pc = .ok (.ireturn, 1)) (hret : ret = some .int) (hp : post x σ) : fmV p l e R s m args below meth c D A G nL o (MQ below (va_Qi post (fmB D G o) A) args s cells slots A) σ cells slots lv [.int x] pc := by
  obtain ⟨hx, hb, hml, hr, hown, hts, hK, hD, hA, hlk⟩ := F
  subst hret
  exact fun H locs ls hP hS hl => W.iret hx hb hr (fun t ht hW => ⟨⟨x, σ, rfl, hp, by show va_P D vwCl (fmW G σ o) t.heap; rw [ht]; exact hP⟩, hS.F ht⟩) hS.2.2 hdg hlk
theorem fmV_lret (F : fmF p s m args meth c D A G own cc nL ret Ts) {post : Int64 → fmS → Prop} {x : Int64} (hdg : decode cc pc = .ok (.lreturn, 1)) (hret : ret = some .long) (hp : post x σ) : fmV p l e R s m args below meth c D A G nL o (MQ below (va_Ql post (fmB D G o) A) args s cells slots A) σ cells slots lv [.long x] pc := by
  obtain ⟨hx, hb, hml, hr, hown, hts, hK, hD, hA, hlk⟩ := F
  subst hret
  exact fun H locs ls hP hS hl => W.lret hx hb hr (fun t ht hW => ⟨⟨x, σ, rfl, hp, by show va_P D vwCl (fmW G σ o) t.heap; rw [ht]; exact hP⟩, hS.F ht⟩) hS.2.2 hdg hlk
theorem fmV_dret (F : fmF p s m args meth c D A G own cc nL ret Ts) {post : UInt64 → fmS → Prop} {x : UInt64} (hdg : decode cc pc = .ok (.dreturn, 1)) (hret : ret = some .double) (hp : post x σ) : fmV p l e R s m args below meth c D A G nL o (MQ below (va_Qd post (fmB D G o) A) args s cells slots A) σ cells slots lv [.double x] pc := by
  obtain ⟨hx, hb, hml, hr, hown, hts, hK, hD, hA, hlk⟩ := F
  subst hret
  exact fun H locs ls hP hS hl => W.dret hx hb hr (fun t ht hW => ⟨⟨x, σ, rfl, hp, by show va_P D vwCl (fmW G σ o) t.heap; rw [ht]; exact hP⟩, hS.F ht⟩) hS.2.2 hdg hlk
theorem fmV_zret (F : fmF p s m args meth c D A G own cc nL ret Ts) {post : Int32 → fmS → Prop} {x : Int32} (hdg : decode cc pc = .ok (.ireturn, 1)) (hret : ret = some .boolean) (hn : narrow .boolean (.int x) = .int x) (hp : post x σ) : fmV p l e R s m args below meth c D A G nL o (MQ below (va_Qi post (fmB D G o) A) args s cells slots A) σ cells slots lv [.int x] pc := by
  obtain ⟨hx, hb, hml, hr, hown, hts, hK, hD, hA, hlk⟩ := F
  subst hret
  exact fun H locs ls hP hS hl => W.zret hx hb hr hn (fun t ht hW => ⟨⟨x, σ, rfl, hp, by show va_P D vwCl (fmW G σ o) t.heap; rw [ht]; exact hP⟩, hS.F ht⟩) hS.2.2 hdg hlk
theorem fmV_vret (F : fmF p s m args meth c D A G own cc nL ret Ts) {post : fmS → Prop} (hdg : decode cc pc = .ok (.return_, 1)) (hret : ret = none) (hp : post σ) : fmV p l e R s m args below meth c D A G nL o (MQ below (va_Qv post (fmB D G o) A) args s cells slots A) σ cells slots lv [] pc := by
  obtain ⟨hx, hb, hml, hr, hown, hts, hK, hD, hA, hlk⟩ := F
  subst hret
  exact fun H locs ls hP hS hl => W.vret hx hb hr (fun t ht hW => ⟨⟨σ, rfl, hp, by show va_P D vwCl (fmW G σ o) t.heap; rw [ht]; exact hP⟩, hS.F ht⟩) hS.2.2 hdg hlk
theorem fmV_aret (F : fmF p s m args meth c D A G own cc nL ret Ts) {post : Option Nat → fmS → Prop} {x : Option Nat} {n9 : String} (hdg : decode cc pc = .ok (.areturn, 1)) (hret : ret = some (.object n9)) (hp : post x σ) : fmV p l e R s m args below meth c D A G nL o (MQ below (va_Qq post (fmB D G o) A) args s cells slots A) σ cells slots lv [va_rf x] pc := by
  obtain ⟨hx, hb, hml, hr, hown, hts, hK, hD, hA, hlk⟩ := F
  subst hret
  exact fun H locs ls hP hS hl => W.aret hx hb hr (Or.inl ⟨_, rfl⟩) (va_rf_or x) (fun t ht hW => ⟨⟨x, σ, rfl, hp, by show va_P D vwCl (fmW G σ o) t.heap; rw [ht]; exact hP⟩, hS.F ht⟩) hS.2.2 hdg hlk
theorem fmV_xr {Qc : Array Value → State → Outcome → State → Prop} {XC : String → State → State → Prop} {mc ms : Nat} (k : fmV p l e R s m args below meth c D A G nL o (MQ below Qc args s mc ms A) σ cells slots lv st pc) : fmV p l e R s m args below meth c D A G nL o (vx_MQ below Qc XC args s mc ms A) σ cells slots lv st pc :=
  fun H locs ls hP hS hl => vx_ret (k H locs ls hP hS hl)
theorem fmV_mmax (F : fmF p s m args meth c D A G own cc nL ret Ts) {index : Nat} {x y : Int32} (hw : Cond.methodLink own index Lib.Math.max.name ∈ Ts ∧ Cond.static Lib.Math.max.name ∈ Ts ∧ Cond.initialized "java/lang/Math" ∈ Ts ∧ Cond.code Lib.Math.max.name Lib.Math.max.code 2 (some .int) ∈ Ts) (hframes : 1 ≤ R.frames) (hlocals : (rest.map fun v => v.category).sum + 13 ≤ R.locals) (hce : cells ≤ R.cells) (hsl : slots ≤ R.slots) (hdg : decode cc pc = .ok (.invokestatic index, 3)) (k : fmV p l e R s m args below meth c D A G nL o Q σ cells slots lv (.int (if x < y then y else x) :: rest) (pc + 3)) : fmV p l e R s m args below meth c D A G nL o Q σ cells slots lv (.int y :: .int x :: rest) pc := by
  obtain ⟨hx, hb, hml, hr, hown, hts, hK, hD, hA, hlk⟩ := F
  exact fun H locs ls hP hS hl => va_mmax hx hb (hml.trans hl.1.symm) hown (hts _ hw.1) (hts _ hw.2.1) (hts _ hw.2.2.1) (hts _ hw.2.2.2) hframes hlocals hce hsl hdg (k H locs ls hP hS hl)
theorem fmV_mmin (F : fmF p s m args meth c D A G own cc nL ret Ts) {index : Nat} {x y : Int32} (hw : Cond.methodLink own index Lib.Math.min.name ∈ Ts ∧ Cond.static Lib.Math.min.name ∈ Ts ∧ Cond.initialized "java/lang/Math" ∈ Ts ∧ Cond.code Lib.Math.min.name Lib.Math.min.code 2 (some .int) ∈ Ts) (hframes : 1 ≤ R.frames) (hlocals : (rest.map fun v => v.category).sum + 13 ≤ R.locals) (hce : cells ≤ R.cells) (hsl : slots ≤ R.slots) (hdg : decode cc pc = .ok (.invokestatic index, 3)) (k : fmV p l e R s m args below meth c D A G nL o Q σ cells slots lv (.int (if y < x then y else x) :: rest) (pc + 3)) : fmV p l e R s m args below meth c D A G nL o Q σ cells slots lv (.int y :: .int x :: rest) pc := by
  obtain ⟨hx, hb, hml, hr, hown, hts, hK, hD, hA, hlk⟩ := F
  exact fun H locs ls hP hS hl => va_mmin hx hb (hml.trans hl.1.symm) hown (hts _ hw.1) (hts _ hw.2.1) (hts _ hw.2.2.1) (hts _ hw.2.2.2) hframes hlocals hce hsl hdg (k H locs ls hP hS hl)
theorem fmV_mabs (F : fmF p s m args meth c D A G own cc nL ret Ts) {index : Nat} {x : Int32} (hw : Cond.methodLink own index Lib.Math.abs.name ∈ Ts ∧ Cond.static Lib.Math.abs.name ∈ Ts ∧ Cond.initialized "java/lang/Math" ∈ Ts ∧ Cond.code Lib.Math.abs.name Lib.Math.abs.code 1 (some .int) ∈ Ts) (hframes : 1 ≤ R.frames) (hlocals : (rest.map fun v => v.category).sum + 13 ≤ R.locals) (hce : cells ≤ R.cells) (hsl : slots ≤ R.slots) (hdg : decode cc pc = .ok (.invokestatic index, 3)) (k : fmV p l e R s m args below meth c D A G nL o Q σ cells slots lv (.int (if 0 ≤ x then x else 0 - x) :: rest) (pc + 3)) : fmV p l e R s m args below meth c D A G nL o Q σ cells slots lv (.int x :: rest) pc := by
  obtain ⟨hx, hb, hml, hr, hown, hts, hK, hD, hA, hlk⟩ := F
  exact fun H locs ls hP hS hl => va_mabs hx hb (hml.trans hl.1.symm) hown (hts _ hw.1) (hts _ hw.2.1) (hts _ hw.2.2.1) (hts _ hw.2.2.2) hframes hlocals hce hsl hdg (k H locs ls hP hS hl)
theorem fmV_sg {σ1 : fmS} (h : σ1 = σ) (k : fmV p l e R s m args below meth c D A G nL o Q σ1 cells slots lv st pc) : fmV p l e R s m args below meth c D A G nL o Q σ cells slots lv st pc := h ▸ k
/-- a loop: from the end back to the start -/
theorem fmV_up {σf : Nat → fmS} {lvf : Nat → List (Nat × Value)} {N : Nat} (j0 : Nat) (hj0 : j0 ≤ N) (hN : fmV p l e R s m args below meth c D A G nL o Q (σf N) cells slots (lvf N) st pc) (hs : ∀ j, j < N → fmV p l e R s m args below meth c D A G nL o Q (σf (j + 1)) cells slots (lvf (j + 1)) st pc → fmV p l e R s m args below meth c D A G nL o Q (σf j) cells slots (lvf j) st pc) : fmV p l e R s m args below meth c D A G nL o Q (σf j0) cells slots (lvf j0) st pc := by
  have key : ∀ d j, j + d = N → fmV p l e R s m args below meth c D A G nL o Q (σf j) cells slots (lvf j) st pc := by
    intro d
    induction d with
    | zero => intro j h; have : j = N := by omega
              rw [this]; exact hN
    | succ d ih => intro j h; exact hs j (by omega) (ih (j + 1) (by omega))
  exact key (N - j0) j0 (by omega)
end FMC
theorem fm_MetF {l : Launch} {y : MethodName} {ws ws' : List Cond} {rm : Room} {Pc : Array Value → State → Prop} {Qc : Array Value → State → Outcome → State → Prop} {mc ms : Nat} {free : Addr → Prop} {cc : ByteArray} {maxL : Nat} {ret : Option FieldType}
    (hy : plainFor y = true) (hw : ws = Cond.code y cc maxL ret :: ws')
    (body : ∀ p e s m args below meth c s₁, BodyLoose p l y (headSpec ws rm) cc maxL ret e s m args below meth c s₁ → c.maxLocals = maxL → Pc args s →
      W p l e (headSpec ws rm).room s m args below meth c s.heap [] 0 0 (MQ below Qc args s mc ms free) (entryFrame m args maxL)) : Met l y ws rm Pc Qc mc ms free := by
  refine MetFree.of_bodySF (code := cc) (maxLocals := maxL) (ret := ret) hy ?_ ?_
  · intro args s m h hn
    obtain ⟨meth, c, h1, h2, h3, h4, h5, h6, -, -⟩ := Cond.code_spec hn (atoms_spec (ws := ws) h _ (by rw [hw]; exact List.mem_cons_self))
    exact ⟨meth, c, h1, h2, h3, h4, h5, h6⟩
  · intro p e s m args below meth c s₁ B hml hP _
    have hh0 : s₁.heap = s.heap := by rw [B.state]; rfl
    obtain ⟨t, a1, o, b1, b2, b3⟩ := body p e s m args below meth c s₁ B hml hP s₁ hh0 (Stand.of_body B)
    exact ⟨t, o, a1, b1, b2, ⟨b3.1, b3.2⟩⟩
theorem fmMi_of {l : Launch} {D : va_G} {A : Nat → Prop} {G : fmG} {y : MethodName} {ws ws' : List Cond} {rm : Room} {mc ms : Nat} {as : List Value} {σ : fmS} {o : Nat → Int64} {post : Int32 → fmS → Prop} {cc : ByteArray} {maxL : Nat} {ret : Option FieldType} (hy : plainName y.cls = true) (hw : ws = Cond.code y cc maxL ret :: ws') (hlen : (lg_sl as).length ≤ maxL)
    (body : ∀ p e s m args below meth c, fmF p s m args meth c D A G y.cls cc maxL ret ws → fmV p l e rm s m args below meth c D A G maxL o (MQ below (va_Qi post (fmB D G o) A) args s mc ms A) σ 0 0 (lv_args 0 as) [] 0) : fmMi l D A G y ws rm mc ms as σ o post := by
  refine Met.ofW (cc := cc) (maxL := maxL) (ret := ret) hy hw ?_
  intro p e s m args below meth c s₁ B hml hv
  obtain ⟨rfl, hP, hK, hD, hA⟩ := hv
  have hts := atoms_spec (ws := ws) B.pre
  have hl := lv_entry as (n := maxL) hlen
  rw [lg_entry_eq]
  exact body p e s m _ below meth c ⟨B.exec, B.bytes, hml, B.returns, findClass_of_methodNamed B.named, hts, hK, hD, hA, B.notSynchronized⟩ s.heap [] _ hP va_S.rf hl
theorem fmXi_of {l : Launch} {D : va_G} {A : Nat → Prop} {G : fmG} {y : MethodName} {ws ws' : List Cond} {rm : Room} {mc ms : Nat} {as : List Value} {σ : fmS} {o : Nat → Int64} {post : Int32 → fmS → Prop} {px : String → fmS → Prop} {cc : ByteArray} {maxL : Nat} {ret : Option FieldType} (hy : plainName y.cls = true) (hw : ws = Cond.code y cc maxL ret :: ws') (hlen : (lg_sl as).length ≤ maxL)
    (body : ∀ p e s m args below meth c, fmF p s m args meth c D A G y.cls cc maxL ret ws → fmX A s → (∀ x ∈ c.exceptionTable.toList, False) → fmV p l e rm s m args below meth c D A G maxL o (vx_MQ below (va_Qi post (fmB D G o) A) (vx_X (fun _ : fmS => True) (fun E u t => px E u ∧ fmB D G o u t) A) args s mc ms A) σ 0 0 (lv_args 0 as) [] 0) : fmXi l D A G y ws rm mc ms as σ o post px := by
  refine vx_ofW (cc := cc) (maxL := maxL) (ret := ret) hy hw ?_
  intro p e s m args below meth c s₁ B hml hnt hv
  obtain ⟨rfl, ⟨hP, hK, hD, hA⟩, hX⟩ := hv
  have hts := atoms_spec (ws := ws) B.pre
  have hl := lv_entry as (n := maxL) hlen
  rw [lg_entry_eq]
  exact body p e s m _ below meth c ⟨B.exec, B.bytes, hml, B.returns, findClass_of_methodNamed B.named, hts, hK, hD, hA, B.notSynchronized⟩ hX hnt s.heap [] _ hP va_S.rf hl
theorem fmMl_of {l : Launch} {D : va_G} {A : Nat → Prop} {G : fmG} {y : MethodName} {ws ws' : List Cond} {rm : Room} {mc ms : Nat} {as : List Value} {σ : fmS} {o : Nat → Int64} {post : Int64 → fmS → Prop} {cc : ByteArray} {maxL : Nat} {ret : Option FieldType} (hy : plainName y.cls = true) (hw : ws = Cond.code y cc maxL ret :: ws') (hlen : (lg_sl as).length ≤ maxL)
    (body : ∀ p e s m args below meth c, fmF p s m args meth c D A G y.cls cc maxL ret ws → fmV p l e rm s m args below meth c D A G maxL o (MQ below (va_Ql post (fmB D G o) A) args s mc ms A) σ 0 0 (lv_args 0 as) [] 0) : fmMl l D A G y ws rm mc ms as σ o post := by
  refine Met.ofW (cc := cc) (maxL := maxL) (ret := ret) hy hw ?_
  intro p e s m args below meth c s₁ B hml hv
  obtain ⟨rfl, hP, hK, hD, hA⟩ := hv
  have hts := atoms_spec (ws := ws) B.pre
  have hl := lv_entry as (n := maxL) hlen
  rw [lg_entry_eq]
  exact body p e s m _ below meth c ⟨B.exec, B.bytes, hml, B.returns, findClass_of_methodNamed B.named, hts, hK, hD, hA, B.notSynchronized⟩ s.heap [] _ hP va_S.rf hl
theorem fmXl_of {l : Launch} {D : va_G} {A : Nat → Prop} {G : fmG} {y : MethodName} {ws ws' : List Cond} {rm : Room} {mc ms : Nat} {as : List Value} {σ : fmS} {o : Nat → Int64} {post : Int64 → fmS → Prop} {px : String → fmS → Prop} {cc : ByteArray} {maxL : Nat} {ret : Option FieldType} (hy : plainName y.cls = true) (hw : ws = Cond.code y cc maxL ret :: ws') (hlen : (lg_sl as).length ≤ maxL)
    (body : ∀ p e s m args below meth c, fmF p s m args meth c D A G y.cls cc maxL ret ws → fmX A s → (∀ x ∈ c.exceptionTable.toList, False) → fmV p l e rm s m args below meth c D A G maxL o (vx_MQ below (va_Ql post (fmB D G o) A) (vx_X (fun _ : fmS => True) (fun E u t => px E u ∧ fmB D G o u t) A) args s mc ms A) σ 0 0 (lv_args 0 as) [] 0) : fmXl l D A G y ws rm mc ms as σ o post px := by
  refine vx_ofW (cc := cc) (maxL := maxL) (ret := ret) hy hw ?_
  intro p e s m args below meth c s₁ B hml hnt hv
  obtain ⟨rfl, ⟨hP, hK, hD, hA⟩, hX⟩ := hv
  have hts := atoms_spec (ws := ws) B.pre
  have hl := lv_entry as (n := maxL) hlen
  rw [lg_entry_eq]
  exact body p e s m _ below meth c ⟨B.exec, B.bytes, hml, B.returns, findClass_of_methodNamed B.named, hts, hK, hD, hA, B.notSynchronized⟩ hX hnt s.heap [] _ hP va_S.rf hl
theorem fmMd_of {l : Launch} {D : va_G} {A : Nat → Prop} {G : fmG} {y : MethodName} {ws ws' : List Cond} {rm : Room} {mc ms : Nat} {as : List Value} {σ : fmS} {o : Nat → Int64} {post : UInt64 → fmS → Prop} {cc : ByteArray} {maxL : Nat} {ret : Option FieldType} (hy : plainName y.cls = true) (hw : ws = Cond.code y cc maxL ret :: ws') (hlen : (lg_sl as).length ≤ maxL)
    (body : ∀ p e s m args below meth c, fmF p s m args meth c D A G y.cls cc maxL ret ws → fmV p l e rm s m args below meth c D A G maxL o (MQ below (va_Qd post (fmB D G o) A) args s mc ms A) σ 0 0 (lv_args 0 as) [] 0) : fmMd l D A G y ws rm mc ms as σ o post := by
  refine Met.ofW (cc := cc) (maxL := maxL) (ret := ret) hy hw ?_
  intro p e s m args below meth c s₁ B hml hv
  obtain ⟨rfl, hP, hK, hD, hA⟩ := hv
  have hts := atoms_spec (ws := ws) B.pre
  have hl := lv_entry as (n := maxL) hlen
  rw [lg_entry_eq]
  exact body p e s m _ below meth c ⟨B.exec, B.bytes, hml, B.returns, findClass_of_methodNamed B.named, hts, hK, hD, hA, B.notSynchronized⟩ s.heap [] _ hP va_S.rf hl
theorem fmXd_of {l : Launch} {D : va_G} {A : Nat → Prop} {G : fmG} {y : MethodName} {ws ws' : List Cond} {rm : Room} {mc ms : Nat} {as : List Value} {σ : fmS} {o : Nat → Int64} {post : UInt64 → fmS → Prop} {px : String → fmS → Prop} {cc : ByteArray} {maxL : Nat} {ret : Option FieldType} (hy : plainName y.cls = true) (hw : ws = Cond.code y cc maxL ret :: ws') (hlen : (lg_sl as).length ≤ maxL)
    (body : ∀ p e s m args below meth c, fmF p s m args meth c D A G y.cls cc maxL ret ws → fmX A s → (∀ x ∈ c.exceptionTable.toList, False) → fmV p l e rm s m args below meth c D A G maxL o (vx_MQ below (va_Qd post (fmB D G o) A) (vx_X (fun _ : fmS => True) (fun E u t => px E u ∧ fmB D G o u t) A) args s mc ms A) σ 0 0 (lv_args 0 as) [] 0) : fmXd l D A G y ws rm mc ms as σ o post px := by
  refine vx_ofW (cc := cc) (maxL := maxL) (ret := ret) hy hw ?_
  intro p e s m args below meth c s₁ B hml hnt hv
  obtain ⟨rfl, ⟨hP, hK, hD, hA⟩, hX⟩ := hv
  have hts := atoms_spec (ws := ws) B.pre
  have hl := lv_entry as (n := maxL) hlen
  rw [lg_entry_eq]
  exact body p e s m _ below meth c ⟨B.exec, B.bytes, hml, B.returns, findClass_of_methodNamed B.named, hts, hK, hD, hA, B.notSynchronized⟩ hX hnt s.heap [] _ hP va_S.rf hl
theorem fmMv_of {l : Launch} {D : va_G} {A : Nat → Prop} {G : fmG} {y : MethodName} {ws ws' : List Cond} {rm : Room} {mc ms : Nat} {as : List Value} {σ : fmS} {o : Nat → Int64} {post : fmS → Prop} {cc : ByteArray} {maxL : Nat} {ret : Option FieldType} (hy : plainName y.cls = true) (hw : ws = Cond.code y cc maxL ret :: ws') (hlen : (lg_sl as).length ≤ maxL)
    (body : ∀ p e s m args below meth c, fmF p s m args meth c D A G y.cls cc maxL ret ws → fmV p l e rm s m args below meth c D A G maxL o (MQ below (va_Qv post (fmB D G o) A) args s mc ms A) σ 0 0 (lv_args 0 as) [] 0) : fmMv l D A G y ws rm mc ms as σ o post := by
  refine Met.ofW (cc := cc) (maxL := maxL) (ret := ret) hy hw ?_
  intro p e s m args below meth c s₁ B hml hv
  obtain ⟨rfl, hP, hK, hD, hA⟩ := hv
  have hts := atoms_spec (ws := ws) B.pre
  have hl := lv_entry as (n := maxL) hlen
  rw [lg_entry_eq]
  exact body p e s m _ below meth c ⟨B.exec, B.bytes, hml, B.returns, findClass_of_methodNamed B.named, hts, hK, hD, hA, B.notSynchronized⟩ s.heap [] _ hP va_S.rf hl
theorem fmXv_of {l : Launch} {D : va_G} {A : Nat → Prop} {G : fmG} {y : MethodName} {ws ws' : List Cond} {rm : Room} {mc ms : Nat} {as : List Value} {σ : fmS} {o : Nat → Int64} {post : fmS → Prop} {px : String → fmS → Prop} {cc : ByteArray} {maxL : Nat} {ret : Option FieldType} (hy : plainName y.cls = true) (hw : ws = Cond.code y cc maxL ret :: ws') (hlen : (lg_sl as).length ≤ maxL)
    (body : ∀ p e s m args below meth c, fmF p s m args meth c D A G y.cls cc maxL ret ws → fmX A s → (∀ x ∈ c.exceptionTable.toList, False) → fmV p l e rm s m args below meth c D A G maxL o (vx_MQ below (va_Qv post (fmB D G o) A) (vx_X (fun _ : fmS => True) (fun E u t => px E u ∧ fmB D G o u t) A) args s mc ms A) σ 0 0 (lv_args 0 as) [] 0) : fmXv l D A G y ws rm mc ms as σ o post px := by
  refine vx_ofW (cc := cc) (maxL := maxL) (ret := ret) hy hw ?_
  intro p e s m args below meth c s₁ B hml hnt hv
  obtain ⟨rfl, ⟨hP, hK, hD, hA⟩, hX⟩ := hv
  have hts := atoms_spec (ws := ws) B.pre
  have hl := lv_entry as (n := maxL) hlen
  rw [lg_entry_eq]
  exact body p e s m _ below meth c ⟨B.exec, B.bytes, hml, B.returns, findClass_of_methodNamed B.named, hts, hK, hD, hA, B.notSynchronized⟩ hX hnt s.heap [] _ hP va_S.rf hl
theorem fmMq_of {l : Launch} {D : va_G} {A : Nat → Prop} {G : fmG} {y : MethodName} {ws ws' : List Cond} {rm : Room} {mc ms : Nat} {as : List Value} {σ : fmS} {o : Nat → Int64} {post : Option Nat → fmS → Prop} {cc : ByteArray} {maxL : Nat} {ret : Option FieldType} (hy : plainName y.cls = true) (hw : ws = Cond.code y cc maxL ret :: ws') (hlen : (lg_sl as).length ≤ maxL)
    (body : ∀ p e s m args below meth c, fmF p s m args meth c D A G y.cls cc maxL ret ws → fmV p l e rm s m args below meth c D A G maxL o (MQ below (va_Qq post (fmB D G o) A) args s mc ms A) σ 0 0 (lv_args 0 as) [] 0) : fmMq l D A G y ws rm mc ms as σ o post := by
  refine Met.ofW (cc := cc) (maxL := maxL) (ret := ret) hy hw ?_
  intro p e s m args below meth c s₁ B hml hv
  obtain ⟨rfl, hP, hK, hD, hA⟩ := hv
  have hts := atoms_spec (ws := ws) B.pre
  have hl := lv_entry as (n := maxL) hlen
  rw [lg_entry_eq]
  exact body p e s m _ below meth c ⟨B.exec, B.bytes, hml, B.returns, findClass_of_methodNamed B.named, hts, hK, hD, hA, B.notSynchronized⟩ s.heap [] _ hP va_S.rf hl
theorem fmMi_ofF {l : Launch} {D : va_G} {A : Nat → Prop} {G : fmG} {y : MethodName} {ws ws' : List Cond} {rm : Room} {mc ms : Nat} {as : List Value} {σ : fmS} {o : Nat → Int64} {post : Int32 → fmS → Prop} {cc : ByteArray} {maxL : Nat} {ret : Option FieldType} (hy : plainFor y = true) (hw : ws = Cond.code y cc maxL ret :: ws') (hlen : (lg_sl as).length ≤ maxL)
    (body : ∀ p e s m args below meth c, fmF p s m args meth c D A G y.cls cc maxL ret ws → fmV p l e rm s m args below meth c D A G maxL o (MQ below (va_Qi post (fmB D G o) A) args s mc ms A) σ 0 0 (lv_args 0 as) [] 0) : fmMi l D A G y ws rm mc ms as σ o post := by
  refine fm_MetF (cc := cc) (maxL := maxL) (ret := ret) hy hw ?_
  intro p e s m args below meth c s₁ B hml hv
  obtain ⟨rfl, hP, hK, hD, hA⟩ := hv
  have hts := atoms_spec (ws := ws) B.pre
  have hl := lv_entry as (n := maxL) hlen
  rw [lg_entry_eq]
  exact body p e s m _ below meth c ⟨B.exec, B.bytes, hml, B.returns, findClass_of_methodNamed B.named, hts, hK, hD, hA, B.notSynchronized⟩ s.heap [] _ hP va_S.rf hl
theorem fmMv_ofF {l : Launch} {D : va_G} {A : Nat → Prop} {G : fmG} {y : MethodName} {ws ws' : List Cond} {rm : Room} {mc ms : Nat} {as : List Value} {σ : fmS} {o : Nat → Int64} {post : fmS → Prop} {cc : ByteArray} {maxL : Nat} {ret : Option FieldType} (hy : plainFor y = true) (hw : ws = Cond.code y cc maxL ret :: ws') (hlen : (lg_sl as).length ≤ maxL)
    (body : ∀ p e s m args below meth c, fmF p s m args meth c D A G y.cls cc maxL ret ws → fmV p l e rm s m args below meth c D A G maxL o (MQ below (va_Qv post (fmB D G o) A) args s mc ms A) σ 0 0 (lv_args 0 as) [] 0) : fmMv l D A G y ws rm mc ms as σ o post := by
  refine fm_MetF (cc := cc) (maxL := maxL) (ret := ret) hy hw ?_
  intro p e s m args below meth c s₁ B hml hv
  obtain ⟨rfl, hP, hK, hD, hA⟩ := hv
  have hts := atoms_spec (ws := ws) B.pre
  have hl := lv_entry as (n := maxL) hlen
  rw [lg_entry_eq]
  exact body p e s m _ below meth c ⟨B.exec, B.bytes, hml, B.returns, findClass_of_methodNamed B.named, hts, hK, hD, hA, B.notSynchronized⟩ s.heap [] _ hP va_S.rf hl
section FMQ
variable {p : Program} {l : Launch} {e : Env} {R : Room} {s : State} {m : MethodId} {args : Array Value} {below : List Frame} {meth : Method} {c : Code} {D : va_G} {A : Nat → Prop} {G : fmG} {nL : Nat} {o : Nat → Int64} {Q : State → Prop} {σ : fmS} {cells slots : Nat} {lv : List (Nat × Value)} {st rest : List Value} {pc : Nat} {own : String} {cc : ByteArray} {ret : Option FieldType} {Ts : List Cond}
/-- a loop that may be left early: what is known at its head goes with it -/
theorem fmV_upH {Hd : Nat → Prop} {σf : Nat → fmS} {lvf : Nat → List (Nat × Value)} {N : Nat} (j0 : Nat) (hj0 : j0 ≤ N) (h0 : Hd j0) (hN : Hd N → fmV p l e R s m args below meth c D A G nL o Q (σf N) cells slots (lvf N) st pc) (hs : ∀ j, j < N → Hd j → (Hd (j + 1) → fmV p l e R s m args below meth c D A G nL o Q (σf (j + 1)) cells slots (lvf (j + 1)) st pc) → fmV p l e R s m args below meth c D A G nL o Q (σf j) cells slots (lvf j) st pc) : fmV p l e R s m args below meth c D A G nL o Q (σf j0) cells slots (lvf j0) st pc := by
  have key : ∀ d j, j + d = N → Hd j → fmV p l e R s m args below meth c D A G nL o Q (σf j) cells slots (lvf j) st pc := by
    intro d
    induction d with
    | zero => intro j h hh; have : j = N := by omega
              subst this; exact hN hh
    | succ d ih => intro j h hh; exact hs j (by omega) hh (ih (j + 1) (by omega))
  exact key (N - j0) j0 (by omega) h0
theorem fmV_aloadq (F : fmF p s m args meth c D A G own cc nL ret Ts) {i : Nat} {x : Option Nat} (hdg : decode cc pc = .ok (.aload i, 2)) (hv : fml lv i = some (va_rf x)) (k : fmV p l e R s m args below meth c D A G nL o Q σ cells slots lv (va_rf x :: rest) (pc + 2)) : fmV p l e R s m args below meth c D A G nL o Q σ cells slots lv rest pc := by
  cases x with
  | none => exact fmV_aloadN F hdg hv k
  | some x => exact fmV_aload F hdg hv k
theorem fmV_aload_nq (F : fmF p s m args meth c D A G own cc nL ret Ts) {kk : Fin 4} {i : Nat} {x : Option Nat} (hdg : decode cc pc = .ok (.aload_n kk, 1)) (hi : (kk : Nat) = i) (hv : fml lv i = some (va_rf x)) (k : fmV p l e R s m args below meth c D A G nL o Q σ cells slots lv (va_rf x :: rest) (pc + 1)) : fmV p l e R s m args below meth c D A G nL o Q σ cells slots lv rest pc := by
  cases x with
  | none => exact fmV_aload_nN F hdg hi hv k
  | some x => exact fmV_aload_n F hdg hi hv k
theorem fmV_astoreq (F : fmF p s m args meth c D A G own cc nL ret Ts) {i : Nat} {x : Option Nat} (hdg : decode cc pc = .ok (.astore i, 2)) (hn : i < nL) (k : fmV p l e R s m args below meth c D A G nL o Q σ cells slots (fmst1 lv i (va_rf x)) rest (pc + 2)) : fmV p l e R s m args below meth c D A G nL o Q σ cells slots lv (va_rf x :: rest) pc := by
  cases x with
  | none => exact fmV_astoreN F hdg hn k
  | some x => exact fmV_astore F hdg hn k
theorem fmV_astore_nq (F : fmF p s m args meth c D A G own cc nL ret Ts) {kk : Fin 4} {i : Nat} {x : Option Nat} (hdg : decode cc pc = .ok (.astore_n kk, 1)) (hi : (kk : Nat) = i) (hn : i < nL) (k : fmV p l e R s m args below meth c D A G nL o Q σ cells slots (fmst1 lv i (va_rf x)) rest (pc + 1)) : fmV p l e R s m args below meth c D A G nL o Q σ cells slots lv (va_rf x :: rest) pc := by
  cases x with
  | none => exact fmV_astore_nN F hdg hi hn k
  | some x => exact fmV_astore_n F hdg hi hn k
end FMQ
/-- the room of a method at height h -/
abbrev fmRm (h mc ms : Nat) : Room := { frames := h, cells := mc, slots := ms, locals := 28 * h }
