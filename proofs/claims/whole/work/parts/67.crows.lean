/-! CONSTRUCTORS: the world is w0, which stays, and a block that grows -/
def cT (T2 : Nat → ClassId) : List (ClassId × FieldType) := [(T2 0, .int), (T2 1, .boolean), (T2 2, .long), (T2 3, .object RX2), (T2 4, .object RX0)]
def cE (U : State) : Prop := va_AO RX2 U ∧ va_AO RX0 U ∧ va_Nw (.methodLinkNest RX6 33 yX5_init "FloatMarketModel") U
theorem cE_same {u U : State} (hv : U.vm = u.vm) (h : cE u) : cE U := by
  have ha : u.vm.Alike U.vm := by rw [hv]; exact Vm.Alike.refl _
  exact ⟨va_AO.moved ha h.1, va_AO.moved ha h.2.1, va_Nw.same rfl hv.symm h.2.2⟩
theorem cE_go {s U : State} (hW : s.WarmedH U.vm) (h : cE s) : cE U := ⟨va_AO.moved hW.alike h.1, va_AO.moved hW.alike h.2.1, va_Nw.warmM hW h.2.2⟩
def cV (p : Program) (l : Launch) (e : Env) (R : Room) (s : State) (m : MethodId) (args : Array Value) (below : List Frame) (meth : Method) (c : Code) (D : va_G) (A : Nat → Prop) (w0 : va_W) (nL : Nat) (Q : State → Prop) (b : va_W) (cells slots : Nat) (lv : List (Nat × Value)) (st : List Value) (pc : Nat) : Prop :=
  ∀ (H : Heap) (locs : List Loc) (ls : Array Slot), va_P D vwCl (w0 ++ b) H → va_D A (w0 ++ b) → va_S A s.heap H locs → lv_has ls nL lv → W p l e R s m args below meth c H locs cells slots Q (F0 m pc ls st)
def cFx (p : Program) (s : State) (m : MethodId) (args : Array Value) (meth : Method) (c : Code) (D : va_G) (A : Nat → Prop) (T2 : Nat → ClassId) (own : String) (cc : ByteArray) (nL : Nat) (ret : Option FieldType) (Ts : List Cond) : Prop :=
  p.tables.exec = Jvm.exec ∧ c.code = cc ∧ c.maxLocals = nL ∧ meth.sig.returnType = ret ∧ s.vm.findClass own = some m.cls ∧ (∀ w ∈ Ts, w.before args s = true) ∧ va_K D vwCl (cT T2) s ∧ cE s ∧ (∀ q, s.heap.size ≤ q → A q) ∧ meth.locks = false
theorem cL_get {α : Type} (w b1 b2 : List α) (x : α) : (w ++ (b1 ++ x :: b2))[(w ++ b1).length]? = some x := by
  rw [← List.append_assoc, List.getElem?_append_right (Nat.le_refl _), Nat.sub_self]; rfl
theorem cL_set {α : Type} (w b1 b2 : List α) (x y : α) : (w ++ (b1 ++ x :: b2)).set (w ++ b1).length y = w ++ (b1 ++ y :: b2) := by
  rw [← List.append_assoc, List.set_append_right _ _ (Nat.le_refl _), Nat.sub_self]
  show (w ++ b1) ++ (y :: b2) = _
  rw [List.append_assoc]
def cPre (D : va_G) (T2 : Nat → ClassId) (A : Nat → Prop) (w : va_W) (U : State) : Prop := va_P D vwCl w U.heap ∧ va_K D vwCl (cT T2) U ∧ va_D A w ∧ (∀ q, U.heap.size ≤ q → A q) ∧ cE U
theorem cPre_blind {D : va_G} {T2 : Nat → ClassId} {A : Nat → Prop} {w : va_W} {as : List Value} : FrameBlind (va_Pc as (cPre D T2 A w)) :=
  fun a U g mk q => ⟨q.1, q.2.1, va_K.moved (u := U) (U := U.calling g mk a) (Vm.Alike.refl U.vm) q.2.2.1, q.2.2.2.1, q.2.2.2.2.1, cE_same (u := U) rfl q.2.2.2.2.2⟩
def cMv (l : Launch) (D : va_G) (T2 : Nat → ClassId) (A : Nat → Prop) (y : MethodName) (ws : List Cond) (rm : Room) (mc ms : Nat) (as : List Value) (w : va_W) {S : Type} (post : S → Prop) (wf : S → va_W) : Prop := Met l y ws rm (va_Pc as (cPre D T2 A w)) (va_Qv post (fun u t => va_P D vwCl (wf u) t.heap ∧ va_D A (wf u)) A) mc ms A
section CROWS
variable {p : Program} {l : Launch} {e : Env} {R : Room} {s : State} {m : MethodId} {args : Array Value} {below : List Frame} {meth : Method} {c : Code} {D : va_G} {A : Nat → Prop} {T2 : Nat → ClassId} {w0 : va_W} {nL : Nat} {Q : State → Prop} {b b1 b2 : va_W} {cells slots : Nat} {lv : List (Nat × Value)} {st rest : List Value} {pc : Nat} {own : String} {cc : ByteArray} {ret : Option FieldType} {Ts : List Cond}
theorem cV_lv {lv' : List (Nat × Value)} (h : fmle lv lv') (k : cV p l e R s m args below meth c D A w0 nL Q b cells slots lv' st pc) : cV p l e R s m args below meth c D A w0 nL Q b cells slots lv st pc :=
  fun H locs ls hP hD hS hl => k H locs ls hP hD hS (fmle_has hl h)
theorem cV_widen {k n : Nat} (h1 : cells ≤ k) (h2 : slots ≤ n) (kk : cV p l e R s m args below meth c D A w0 nL Q b k n lv st pc) : cV p l e R s m args below meth c D A w0 nL Q b cells slots lv st pc :=
  fun H locs ls hP hD hS hl => W.widen h1 h2 (kk H locs ls hP hD hS hl)
theorem cV_eq {b' : va_W} (h : b = b') (k : cV p l e R s m args below meth c D A w0 nL Q b' cells slots lv st pc) : cV p l e R s m args below meth c D A w0 nL Q b cells slots lv st pc := h ▸ k
theorem cV_iconst (F : cFx p s m args meth c D A T2 own cc nL ret Ts) {n : Int} {v : Int32} (hdg : decode cc pc = .ok (.iconst n, 1)) (hv : Int32.ofInt n = v) (k : cV p l e R s m args below meth c D A w0 nL Q b cells slots lv (.int v :: rest) (pc + 1)) : cV p l e R s m args below meth c D A w0 nL Q b cells slots lv rest pc := by
  obtain ⟨hx, hb, hml, hr, hown, hts, hK, hE, hA, hlk⟩ := F
  exact fun H locs ls hP hD hS hl => lv_iconst hx hb hdg hv (k H locs ls hP hD hS hl)
theorem cV_bipush (F : cFx p s m args meth c D A T2 own cc nL ret Ts) {n : Int} {v : Int32} (hdg : decode cc pc = .ok (.bipush n, 2)) (hv : (Int8.ofInt n).toInt32 = v) (k : cV p l e R s m args below meth c D A w0 nL Q b cells slots lv (.int v :: rest) (pc + 2)) : cV p l e R s m args below meth c D A w0 nL Q b cells slots lv rest pc := by
  obtain ⟨hx, hb, hml, hr, hown, hts, hK, hE, hA, hlk⟩ := F
  exact fun H locs ls hP hD hS hl => lv_bipush hx hb hdg hv (k H locs ls hP hD hS hl)
theorem cV_iload_n (F : cFx p s m args meth c D A T2 own cc nL ret Ts) {kk : Fin 4} {i : Nat} {x : Int32} (hdg : decode cc pc = .ok (.iload_n kk, 1)) (hi : (kk : Nat) = i) (hv : fml lv i = some (.int x)) (k : cV p l e R s m args below meth c D A w0 nL Q b cells slots lv (.int x :: rest) (pc + 1)) : cV p l e R s m args below meth c D A w0 nL Q b cells slots lv rest pc := by
  obtain ⟨hx, hb, hml, hr, hown, hts, hK, hE, hA, hlk⟩ := F
  exact fun H locs ls hP hD hS hl => lv_iload_n hx hb hdg hi (fml_at hl hv) (k H locs ls hP hD hS hl)
theorem cV_aload_n (F : cFx p s m args meth c D A T2 own cc nL ret Ts) {kk : Fin 4} {i : Nat} {x : Nat} (hdg : decode cc pc = .ok (.aload_n kk, 1)) (hi : (kk : Nat) = i) (hv : fml lv i = some (.ref x)) (k : cV p l e R s m args below meth c D A w0 nL Q b cells slots lv (.ref x :: rest) (pc + 1)) : cV p l e R s m args below meth c D A w0 nL Q b cells slots lv rest pc := by
  obtain ⟨hx, hb, hml, hr, hown, hts, hK, hE, hA, hlk⟩ := F
  exact fun H locs ls hP hD hS hl => lv_aload_n hx hb hdg hi (fml_at hl hv) (k H locs ls hP hD hS hl)
theorem cV_dup (F : cFx p s m args meth c D A T2 own cc nL ret Ts) {va : Value} (hdg : decode cc pc = .ok (.dup, 1)) (h1 : va.category = 1) (k : cV p l e R s m args below meth c D A w0 nL Q b cells slots lv (va :: va :: rest) (pc + 1)) : cV p l e R s m args below meth c D A w0 nL Q b cells slots lv (va :: rest) pc := by
  obtain ⟨hx, hb, hml, hr, hown, hts, hK, hE, hA, hlk⟩ := F
  exact fun H locs ls hP hD hS hl => lv_dup hx hb hdg h1 (k H locs ls hP hD hS hl)
theorem cV_istore_n (F : cFx p s m args meth c D A T2 own cc nL ret Ts) {kk : Fin 4} {i : Nat} {x : Int32} (hdg : decode cc pc = .ok (.istore_n kk, 1)) (hi : (kk : Nat) = i) (hn : i < nL) (k : cV p l e R s m args below meth c D A w0 nL Q b cells slots (fmst1 lv i (.int x)) rest (pc + 1)) : cV p l e R s m args below meth c D A w0 nL Q b cells slots lv (.int x :: rest) pc := by
  obtain ⟨hx, hb, hml, hr, hown, hts, hK, hE, hA, hlk⟩ := F
  exact fun H locs ls hP hD hS hl => lv_istore_n hx hb hdg hi hl hn rfl (fun ls hl => k H locs ls hP hD hS hl)
theorem cV_astore_n (F : cFx p s m args meth c D A T2 own cc nL ret Ts) {kk : Fin 4} {i : Nat} {x : Nat} (hdg : decode cc pc = .ok (.astore_n kk, 1)) (hi : (kk : Nat) = i) (hn : i < nL) (k : cV p l e R s m args below meth c D A w0 nL Q b cells slots (fmst1 lv i (.ref x)) rest (pc + 1)) : cV p l e R s m args below meth c D A w0 nL Q b cells slots lv (.ref x :: rest) pc := by
  obtain ⟨hx, hb, hml, hr, hown, hts, hK, hE, hA, hlk⟩ := F
  exact fun H locs ls hP hD hS hl => lv_astore_n hx hb hdg hi hl hn rfl (fun ls hl => k H locs ls hP hD hS hl)
theorem cV_istore (F : cFx p s m args meth c D A T2 own cc nL ret Ts) {i : Nat} {x : Int32} (hdg : decode cc pc = .ok (.istore i, 2)) (hn : i < nL) (k : cV p l e R s m args below meth c D A w0 nL Q b cells slots (fmst1 lv i (.int x)) rest (pc + 2)) : cV p l e R s m args below meth c D A w0 nL Q b cells slots lv (.int x :: rest) pc := by
  obtain ⟨hx, hb, hml, hr, hown, hts, hK, hE, hA, hlk⟩ := F
  exact fun H locs ls hP hD hS hl => lv_istore hx hb hdg hl hn rfl (fun ls hl => k H locs ls hP hD hS hl)
theorem cV_iinc (F : cFx p s m args meth c D A T2 own cc nL ret Ts) {i : Nat} {n : Int} {x v : Int32} (hdg : decode cc pc = .ok (.iinc i n, 3)) (hv : fml lv i = some (.int x)) (hw : x + Int32.ofInt n = v) (hn : i < nL) (k : cV p l e R s m args below meth c D A w0 nL Q b cells slots (fmst1 lv i (.int v)) rest (pc + 3)) : cV p l e R s m args below meth c D A w0 nL Q b cells slots lv rest pc := by
  obtain ⟨hx, hb, hml, hr, hown, hts, hK, hE, hA, hlk⟩ := F
  intro H locs ls hP hD hS hl
  have hl2 : lv_has ls nL ((i, .int x) :: lv) := ⟨hl.1, hl.2.1, fun q hq => by
    rcases List.mem_cons.mp hq with rfl | hq
    · exact fml_at hl hv
    · exact hl.2.2 q hq⟩
  refine lv_iinc (k := 0) hx hb hdg hl2 rfl hw hn rfl (fun ls hl => k H locs ls hP hD hS ⟨hl.1, hl.2.1, fun q hq => ?_⟩)
  refine hl.2.2 q ?_
  rcases List.mem_cons.mp hq with rfl | hq
  · exact List.mem_cons_self
  · refine List.mem_cons_of_mem _ ?_
    obtain ⟨h1, h2⟩ := List.mem_filter.mp hq
    exact List.mem_filter.mpr ⟨List.mem_cons_of_mem _ h1, h2⟩
theorem cV_icmp_ge (F : cFx p s m args meth c D A T2 own cc nL ret Ts) {off : Int} {tgt : Nat} {x y : Int32} (hdg : decode cc pc = .ok (.if_icmp .ge off, 3)) (ht : (pc : Int) + off = (tgt : Int)) (kt : y ≤ x → cV p l e R s m args below meth c D A w0 nL Q b cells slots lv rest tgt) (kf : ¬ y ≤ x → cV p l e R s m args below meth c D A w0 nL Q b cells slots lv rest (pc + 3)) : cV p l e R s m args below meth c D A w0 nL Q b cells slots lv (.int y :: .int x :: rest) pc := by
  obtain ⟨hx, hb, hml, hr, hown, hts, hK, hE, hA, hlk⟩ := F
  exact fun H locs ls hP hD hS hl => lv_icmp_ge hx hb hdg ht (fun h => kt h H locs ls hP hD hS hl) (fun h => kf h H locs ls hP hD hS hl)
theorem cV_goto (F : cFx p s m args meth c D A T2 own cc nL ret Ts) {off : Int} {tgt : Nat} (hdg : decode cc pc = .ok (.goto off, 3)) (ht : (pc : Int) + off = (tgt : Int)) (k : cV p l e R s m args below meth c D A w0 nL Q b cells slots lv st tgt) : cV p l e R s m args below meth c D A w0 nL Q b cells slots lv st pc := by
  obtain ⟨hx, hb, hml, hr, hown, hts, hK, hE, hA, hlk⟩ := F
  exact fun H locs ls hP hD hS hl => lv_goto hx hb hdg ht (k H locs ls hP hD hS hl)
theorem cV_objInit (F : cFx p s m args meth c D A T2 own cc nL ret Ts) {idx a : Nat} (hdg : decode cc pc = .ok (.invokespecial idx, 3)) (h1 : Cond.methodLink own idx objectInit ∈ Ts) (h2 : Cond.instanceMethod objectInit ∈ Ts) (h3 : Cond.code objectInit ⟨#[0xb1]⟩ 1 none ∈ Ts) (hfr : 1 ≤ R.frames) (hlo : (rest.map fun v => v.category).sum + 12 ≤ R.locals) (k : cV p l e R s m args below meth c D A w0 nL Q b cells slots lv rest (pc + 3)) : cV p l e R s m args below meth c D A w0 nL Q b cells slots lv (.ref a :: rest) pc := by
  obtain ⟨hx, hb, hml, hr, hown, hts, hK, hE, hA, hlk⟩ := F
  intro H locs ls hP hD hS hl
  refine W.objInit hx hb hown (hts _ h1) (hts _ h2) (hts _ h3) rfl (by rw [hml]; exact hl.1) rfl hdg hfr (by show 2 * (F0 m pc ls _).monitorRoom + _ + 12 ≤ _; rw [show (F0 m pc ls (.ref a :: rest)).monitorRoom = 0 from rfl]; omega) ?_
  refine W.eq (g2 := F0 m (pc + 3) ls rest) rfl ?_
  exact k H locs ls hP hD hS hl
theorem cV_get (F : cFx p s m args meth c D A T2 own cc nL ret Ts) {a ci index : Nat} {fs : List Value} {C : String} {T : u_T} {N : Nat} (hcl : vwCl[ci]? = some (C, T, N)) (hin : ∀ w ∈ u_ws C T N, w ∈ Ts) (kf : Nat) (hkf : kf < N) {v : Value} (hv : fs[kf]? = some v) (hdg : decode cc pc = .ok (.getfield index, 3)) (hlink : Cond.fieldLink own index (T kf).1 (T kf).2.1 (T kf).2.2.1 ∈ Ts) (k : cV p l e R s m args below meth c D A w0 nL Q (b1 ++ (a, .inr (ci, fs)) :: b2) cells slots lv (v :: rest) (pc + 3)) : cV p l e R s m args below meth c D A w0 nL Q (b1 ++ (a, .inr (ci, fs)) :: b2) cells slots lv (.ref a :: rest) pc := by
  obtain ⟨hx, hb, hml, hr, hown, hts, hK, hE, hA, hlk⟩ := F
  exact fun H locs ls hP hD hS hl => va_get hx hb hts hin hown hK hP (w0 ++ b1).length (cL_get w0 b1 b2 _) hcl kf hkf (hts _ hlink) (fun _ h9 => h9) hv hdg (k H locs ls hP hD hS hl)
theorem cV_putF (F : cFx p s m args meth c D A T2 own cc nL ret Ts) {a ci index : Nat} {fs : List Value} {C : String} {T : u_T} {N : Nat} (hcl : vwCl[ci]? = some (C, T, N)) (hin : ∀ w ∈ u_ws C T N, w ∈ Ts) (ty0 : Nat → FieldType) (hty : ∀ k, k < N → parseFieldDescriptor (T k).2.2.1 = some (ty0 k)) (hnm : ∀ a, a < N → ∀ b, b < N → a ≠ b → (T a).2.1 ≠ (T b).2.1) (kf : Nat) (hkf : kf < N) (hl9 : kf < fs.length) (hfin : (T kf).2.2.2 = true) (hin2 : meth.name = "<init>") (hdecl : (T kf).1 = own) {v : Value} (hn : narrow (ty0 kf) v = v) (hfit : fits (ty0 kf) v = true) (hdg : decode cc pc = .ok (.putfield index, 3)) (hlink : Cond.fieldLink own index (T kf).1 (T kf).2.1 (T kf).2.2.1 ∈ Ts) (k : cV p l e R s m args below meth c D A w0 nL Q (b1 ++ (a, .inr (ci, fs.set kf v)) :: b2) cells slots lv rest (pc + 3)) : cV p l e R s m args below meth c D A w0 nL Q (b1 ++ (a, .inr (ci, fs)) :: b2) cells slots lv (v :: .ref a :: rest) pc := by
  obtain ⟨hx, hb, hml, hr, hown, hts, hK, hE, hA, hlk⟩ := F
  intro H locs ls hP hD hS hl
  refine va_putF hx hb hts hin ty0 hty hnm hown hK hP hD hS (w0 ++ b1).length (cL_get w0 b1 b2 _) hcl kf hkf (hts _ hlink) (fun _ h9 => h9) hfin hin2 hdecl (hty kf hkf) hn hfit hl9 hdg (fun H1 locs1 hP1 hD1 hS1 => ?_)
  rw [cL_set] at hP1 hD1
  exact k H1 locs1 ls hP1 hD1 hS1 hl
theorem cV_put (F : cFx p s m args meth c D A T2 own cc nL ret Ts) {a ci index : Nat} {fs : List Value} {C : String} {T : u_T} {N : Nat} (hcl : vwCl[ci]? = some (C, T, N)) (hin : ∀ w ∈ u_ws C T N, w ∈ Ts) (ty0 : Nat → FieldType) (hty : ∀ k, k < N → parseFieldDescriptor (T k).2.2.1 = some (ty0 k)) (hnm : ∀ a, a < N → ∀ b, b < N → a ≠ b → (T a).2.1 ≠ (T b).2.1) (kf : Nat) (hkf : kf < N) (hl9 : kf < fs.length) (hfin : (T kf).2.2.2 = false)  {v : Value} (hn : narrow (ty0 kf) v = v) (hfit : fits (ty0 kf) v = true) (hdg : decode cc pc = .ok (.putfield index, 3)) (hlink : Cond.fieldLink own index (T kf).1 (T kf).2.1 (T kf).2.2.1 ∈ Ts) (k : cV p l e R s m args below meth c D A w0 nL Q (b1 ++ (a, .inr (ci, fs.set kf v)) :: b2) cells slots lv rest (pc + 3)) : cV p l e R s m args below meth c D A w0 nL Q (b1 ++ (a, .inr (ci, fs)) :: b2) cells slots lv (v :: .ref a :: rest) pc := by
  obtain ⟨hx, hb, hml, hr, hown, hts, hK, hE, hA, hlk⟩ := F
  intro H locs ls hP hD hS hl
  refine va_put hx hb hts hin ty0 hty hnm hown hK hP hD hS (w0 ++ b1).length (cL_get w0 b1 b2 _) hcl kf hkf (hts _ hlink) (fun _ h9 => h9) hfin (hty kf hkf) hn hfit hl9 hdg (fun H1 locs1 hP1 hD1 hS1 => ?_)
  rw [cL_set] at hP1 hD1
  exact k H1 locs1 ls hP1 hD1 hS1 hl
theorem cV_newa_int (F : cFx p s m args meth c D A T2 own cc nL ret Ts) {n : Nat} {x : Int32} {atype : ArrayType} (hat : newarray.typeOf atype = .int) (harr : Cond.arrayClass .int ∈ Ts) (hx0 : ¬ x < 0) (hxn : x.toNatClampNeg = n) (hb4 : n * componentBytes .int ≤ 536870912) (hcells : cells + 1 ≤ R.cells) (hslots : slots + n ≤ R.slots) (hdg : decode cc pc = .ok (.newarray atype, 2)) (k : ∀ q : Nat, cV p l e R s m args below meth c D A w0 nL Q (b ++ [(q, .inl (T2 0, n, .inl (fun _ => 0)))]) (cells + 1) (slots + n) lv (.ref q :: rest) (pc + 2)) : cV p l e R s m args below meth c D A w0 nL Q b cells slots lv (.int x :: rest) pc := by
  obtain ⟨hx, hb, hml, hr, hown, hts, hK, hE, hA, hlk⟩ := F
  intro H locs ls hP hD hS hl
  refine va_newa (a0 := (n, .inl (fun _ => 0))) hx hb (by rw [hat]; exact hts _ harr) hat hK hP hD hS hA (fun cA => rfl) hx0 hxn hb4 hcells hslots hdg (fun q cA H1 hK1 hP1 hD1 hS1 => ?_)
  have e1 := (hK.2 0 (T2 0, .int) rfl).2
  have e2 := (hK1.2 5 (cA, .int) rfl).2
  have e3 : cA = T2 0 := Option.some.inj (e2.symm.trans e1)
  subst e3
  rw [List.append_assoc] at hP1 hD1
  exact k q H1 locs ls hP1 hD1 hS1 hl
theorem cV_newa_boolean (F : cFx p s m args meth c D A T2 own cc nL ret Ts) {n : Nat} {x : Int32} {atype : ArrayType} (hat : newarray.typeOf atype = .boolean) (harr : Cond.arrayClass .boolean ∈ Ts) (hx0 : ¬ x < 0) (hxn : x.toNatClampNeg = n) (hb4 : n * componentBytes .boolean ≤ 536870912) (hcells : cells + 1 ≤ R.cells) (hslots : slots + n ≤ R.slots) (hdg : decode cc pc = .ok (.newarray atype, 2)) (k : ∀ q : Nat, cV p l e R s m args below meth c D A w0 nL Q (b ++ [(q, .inl (T2 1, n, .inl (fun _ => 0)))]) (cells + 1) (slots + n) lv (.ref q :: rest) (pc + 2)) : cV p l e R s m args below meth c D A w0 nL Q b cells slots lv (.int x :: rest) pc := by
  obtain ⟨hx, hb, hml, hr, hown, hts, hK, hE, hA, hlk⟩ := F
  intro H locs ls hP hD hS hl
  refine va_newa (a0 := (n, .inl (fun _ => 0))) hx hb (by rw [hat]; exact hts _ harr) hat hK hP hD hS hA (fun cA => rfl) hx0 hxn hb4 hcells hslots hdg (fun q cA H1 hK1 hP1 hD1 hS1 => ?_)
  have e1 := (hK.2 1 (T2 1, .boolean) rfl).2
  have e2 := (hK1.2 5 (cA, .boolean) rfl).2
  have e3 : cA = T2 1 := Option.some.inj (e2.symm.trans e1)
  subst e3
  rw [List.append_assoc] at hP1 hD1
  exact k q H1 locs ls hP1 hD1 hS1 hl
theorem cV_newa_long (F : cFx p s m args meth c D A T2 own cc nL ret Ts) {n : Nat} {x : Int32} {atype : ArrayType} (hat : newarray.typeOf atype = .long) (harr : Cond.arrayClass .long ∈ Ts) (hx0 : ¬ x < 0) (hxn : x.toNatClampNeg = n) (hb4 : n * componentBytes .long ≤ 536870912) (hcells : cells + 1 ≤ R.cells) (hslots : slots + n ≤ R.slots) (hdg : decode cc pc = .ok (.newarray atype, 2)) (k : ∀ q : Nat, cV p l e R s m args below meth c D A w0 nL Q (b ++ [(q, .inl (T2 2, n, .inr (.inl (fun _ => 0))))]) (cells + 1) (slots + n) lv (.ref q :: rest) (pc + 2)) : cV p l e R s m args below meth c D A w0 nL Q b cells slots lv (.int x :: rest) pc := by
  obtain ⟨hx, hb, hml, hr, hown, hts, hK, hE, hA, hlk⟩ := F
  intro H locs ls hP hD hS hl
  refine va_newa (a0 := (n, .inr (.inl (fun _ => 0)))) hx hb (by rw [hat]; exact hts _ harr) hat hK hP hD hS hA (fun cA => rfl) hx0 hxn hb4 hcells hslots hdg (fun q cA H1 hK1 hP1 hD1 hS1 => ?_)
  have e1 := (hK.2 2 (T2 2, .long) rfl).2
  have e2 := (hK1.2 5 (cA, .long) rfl).2
  have e3 : cA = T2 2 := Option.some.inj (e2.symm.trans e1)
  subst e3
  rw [List.append_assoc] at hP1 hD1
  exact k q H1 locs ls hP1 hD1 hS1 hl
theorem cV_newq_rows (F : cFx p s m args meth c D A T2 own cc nL ret Ts) {n index : Nat} {x : Int32} (hcl : Cond.classLink own index RX2 ∈ Ts) (hx0 : ¬ x < 0) (hxn : x.toNatClampNeg = n) (hb4 : n * 4 ≤ 536870912) (hcells : cells + 1 ≤ R.cells) (hslots : slots + n ≤ R.slots) (hdg : decode cc pc = .ok (.anewarray index, 3)) (k : ∀ q : Nat, cV p l e R s m args below meth c D A w0 nL Q (b ++ [(q, .inl (T2 3, n, .inr (.inr (.inr (.inr (fun _ => none))))))]) (cells + 1) (slots + n) lv (.ref q :: rest) (pc + 3)) : cV p l e R s m args below meth c D A w0 nL Q b cells slots lv (.int x :: rest) pc := by
  obtain ⟨hx, hb, hml, hr, hown, hts, hK, hE, hA, hlk⟩ := F
  intro H locs ls hP hD hS hl
  refine va_newq hx hb hown (hts _ hcl) hE.1 hK hP hD hS hA hx0 hxn hb4 hcells hslots hdg (fun q cA H1 hK1 hP1 hD1 hS1 => ?_)
  obtain ⟨kA, comp, -, -, -, e1⟩ := (hK.2 3 (T2 3, .object RX2) rfl).2
  obtain ⟨kA2, comp2, -, -, -, e2⟩ := (hK1.2 5 (cA, .object RX2) rfl).2
  have e3 : cA = T2 3 := Option.some.inj (e2.symm.trans e1)
  subst e3
  rw [List.append_assoc] at hP1 hD1
  exact k q H1 locs ls hP1 hD1 hS1 hl
theorem cV_newq_canoes (F : cFx p s m args meth c D A T2 own cc nL ret Ts) {n index : Nat} {x : Int32} (hcl : Cond.classLink own index RX0 ∈ Ts) (hx0 : ¬ x < 0) (hxn : x.toNatClampNeg = n) (hb4 : n * 4 ≤ 536870912) (hcells : cells + 1 ≤ R.cells) (hslots : slots + n ≤ R.slots) (hdg : decode cc pc = .ok (.anewarray index, 3)) (k : ∀ q : Nat, cV p l e R s m args below meth c D A w0 nL Q (b ++ [(q, .inl (T2 4, n, .inr (.inr (.inr (.inr (fun _ => none))))))]) (cells + 1) (slots + n) lv (.ref q :: rest) (pc + 3)) : cV p l e R s m args below meth c D A w0 nL Q b cells slots lv (.int x :: rest) pc := by
  obtain ⟨hx, hb, hml, hr, hown, hts, hK, hE, hA, hlk⟩ := F
  intro H locs ls hP hD hS hl
  refine va_newq hx hb hown (hts _ hcl) hE.2.1 hK hP hD hS hA hx0 hxn hb4 hcells hslots hdg (fun q cA H1 hK1 hP1 hD1 hS1 => ?_)
  obtain ⟨kA, comp, -, -, -, e1⟩ := (hK.2 4 (T2 4, .object RX0) rfl).2
  obtain ⟨kA2, comp2, -, -, -, e2⟩ := (hK1.2 5 (cA, .object RX0) rfl).2
  have e3 : cA = T2 4 := Option.some.inj (e2.symm.trans e1)
  subst e3
  rw [List.append_assoc] at hP1 hD1
  exact k q H1 locs ls hP1 hD1 hS1 hl
theorem cV_new (F : cFx p s m args meth c D A T2 own cc nL ret Ts) {ci index : Nat} {fs : List Value} {C : String} {T : u_T} {N : Nat} (hcl : vwCl[ci]? = some (C, T, N)) (hin : ∀ w ∈ u_ws C T N, w ∈ Ts) (ty0 : Nat → FieldType) (hty : ∀ k, k < N → parseFieldDescriptor (T k).2.2.1 = some (ty0 k)) (h1 : Cond.classLink own index C ∈ Ts) (h2 : Cond.instantiable C N ∈ Ts) (h3 : Cond.initialized C ∈ Ts) (hfs : ∀ j, j < N → defaultValue (ty0 j) = vp_V fs j) (hcells : cells + 1 ≤ R.cells) (hslots : slots + N ≤ R.slots) (hdg : decode cc pc = .ok (.new index, 3)) (k : ∀ q : Nat, cV p l e R s m args below meth c D A w0 nL Q (b ++ [(q, .inr (ci, fs))]) (cells + 1) (slots + N) lv (.ref q :: rest) (pc + 3)) : cV p l e R s m args below meth c D A w0 nL Q b cells slots lv rest pc := by
  obtain ⟨hx, hb, hml, hr, hown, hts, hK, hE, hA, hlk⟩ := F
  intro H locs ls hP hD hS hl
  refine va_new hx hb hts hin ty0 hty hown (hts _ h1) (hts _ h2) (hts _ h3) hK hP hD hS hA hcl hfs hcells hslots hdg (fun q H1 hP1 hD1 hS1 => ?_)
  rw [List.append_assoc] at hP1 hD1
  exact k q H1 locs ls hP1 hD1 hS1 hl
theorem cV_ast (F : cFx p s m args meth c D A T2 own cc nL ret Ts) {a ti n v ci i0 : Nat} {vs : List Value} {r : vw_C} {f : Nat → Option Nat} (hti : (cT T2)[ti]? = some (T2 ti, .object r.1)) (hmem : (v, (.inr (ci, vs) : va_E)) ∈ b1 ++ (a, .inl (T2 ti, n, .inr (.inr (.inr (.inr f))))) :: b2) (hcl : vwCl[ci]? = some r) {i : Int32} (hin : vp_in i n) (hi : i.toNatClampNeg = i0) (hdg : decode cc pc = .ok (.aastore, 1)) (k : cV p l e R s m args below meth c D A w0 nL Q (b1 ++ (a, .inl (T2 ti, n, .inr (.inr (.inr (.inr (va_up f i0 (some v))))))) :: b2) cells slots lv rest (pc + 1)) : cV p l e R s m args below meth c D A w0 nL Q (b1 ++ (a, .inl (T2 ti, n, .inr (.inr (.inr (.inr f))))) :: b2) cells slots lv (.ref v :: .int i :: .ref a :: rest) pc := by
  obtain ⟨hx, hb, hml, hr, hown, hts, hK, hE, hA, hlk⟩ := F
  intro H locs ls hP hD hS hl
  subst hi
  obtain ⟨qk, hqk⟩ := List.getElem?_of_mem (List.mem_append_right w0 hmem)
  refine va_astq hx hb hK hP hD hS (w0 ++ b1).length ti qk ci (cL_get w0 b1 b2 _) hti hqk hcl hin hdg (fun H1 locs1 hP1 hD1 hS1 => ?_)
  rw [cL_set] at hP1 hD1
  exact k H1 locs1 ls hP1 hD1 hS1 hl
theorem cV_iast (F : cFx p s m args meth c D A T2 own cc nL ret Ts) {a n i0 : Nat} {f : Nat → Int32} {i x : Int32} (hin : vp_in i n) (hi : i.toNatClampNeg = i0) (hdg : decode cc pc = .ok (.iastore, 1)) (k : cV p l e R s m args below meth c D A w0 nL Q (b1 ++ (a, .inl (T2 0, n, .inl (upd f i0 x))) :: b2) cells slots lv rest (pc + 1)) : cV p l e R s m args below meth c D A w0 nL Q (b1 ++ (a, .inl (T2 0, n, .inl f)) :: b2) cells slots lv (.int x :: .int i :: .ref a :: rest) pc := by
  obtain ⟨hx, hb, hml, hr, hown, hts, hK, hE, hA, hlk⟩ := F
  intro H locs ls hP hD hS hl
  subst hi
  refine va_iast hx hb hK hP hD hS (w0 ++ b1).length 0 (cL_get w0 b1 b2 _) rfl hin hdg (fun H1 locs1 hP1 hD1 hS1 => ?_)
  rw [cL_set] at hP1 hD1
  exact k H1 locs1 ls hP1 hD1 hS1 hl
theorem cV_alen (F : cFx p s m args meth c D A T2 own cc nL ret Ts) {a n : Nat} {f : Nat → Int32} {v : Int32} (hdg : decode cc pc = .ok (.arraylength, 1)) (hv : Int32.ofNat n = v) (k : cV p l e R s m args below meth c D A w0 nL Q (b1 ++ (a, .inl (T2 0, n, .inl f)) :: b2) cells slots lv (.int v :: rest) (pc + 1)) : cV p l e R s m args below meth c D A w0 nL Q (b1 ++ (a, .inl (T2 0, n, .inl f)) :: b2) cells slots lv (.ref a :: rest) pc := by
  obtain ⟨hx, hb, hml, hr, hown, hts, hK, hE, hA, hlk⟩ := F
  exact fun H locs ls hP hD hS hl => va_alen hx hb hK hP (w0 ++ b1).length 0 (cL_get w0 b1 b2 _) rfl hv hdg (k H locs ls hP hD hS hl)
theorem cV_cell {a : Nat} {x y : ClassId × vp_A} (h : vp_cell x.1 x.2 = vp_cell y.1 y.2) (k : cV p l e R s m args below meth c D A w0 nL Q (b1 ++ (a, .inl y) :: b2) cells slots lv st pc) : cV p l e R s m args below meth c D A w0 nL Q (b1 ++ (a, .inl x) :: b2) cells slots lv st pc := by
  intro H locs ls hP hD hS hl
  have hD1 := hD.set (e := .inl y) (cL_get w0 b1 b2 (a, .inl x))
  rw [cL_set] at hD1
  refine k H locs ls ?_ hD1 hS hl
  have hP1 := hP.set (e := .inl y) (H1 := H) hD (cL_get w0 b1 b2 (a, .inl x)) (by
    have h0 := hP _ _ (cL_get w0 b1 b2 (a, .inl x))
    show H[a]? = some (vp_cell y.1 y.2)
    rw [← h]; exact h0) (fun _ _ => rfl)
  rw [cL_set] at hP1
  exact hP1
theorem cV_ctor (F : cFx p s m args meth c D A T2 own cc nL ret Ts)  {y : MethodName} {ws ws' : List Cond} {rm : Room} {mc ms n index maxL : Nat} {bytes : ByteArray} {As : List Value} {a0 : Nat} {S : Type} {post : S → Prop} {wf : S → va_W} (hM : cMv l D T2 A y ws rm mc ms (.ref a0 :: As) (w0 ++ b) post wf) (hG : GoodIn Ts ws) (hw : ws = Cond.code y bytes maxL none :: ws') (hrc : rm.cells = mc) (hrs : rm.slots = ms) (hini : Cond.initialized y.cls ∈ Ts) (hl0 : Cond.methodLink own index y ∈ Ts) (hin0 : Cond.instanceMethod y ∈ Ts) (hy1 : y.name = "<init>") (hd : y.cls ≠ "java/lang/invoke/MethodHandle" ∧ y.cls ≠ "java/lang/invoke/VarHandle" ∧ (parseMethodDescriptor y.desc).map (fun d => d.parameters.length) = some n) (hR : rm.frames + 1 ≤ R.frames ∧ 8 + (maxL + 11) + rm.locals ≤ R.locals) (hst : st = As.reverse ++ .ref a0 :: rest) (hn : As.length = n) (hcat : (rest.map fun v => v.category).sum ≤ 8) (hdg : decode cc pc = .ok (.invokespecial index, 3)) (hf : cells + mc ≤ R.cells ∧ slots + ms ≤ R.slots) {bf : S → va_W} (hwf : ∀ u, wf u = w0 ++ bf u) (k : ∀ u : S, post u → cV p l e R s m args below meth c D A w0 nL Q (bf u) (cells + mc) (slots + ms) lv rest (pc + 3)) : cV p l e R s m args below meth c D A w0 nL Q b cells slots lv st pc := by
  obtain ⟨hx, hb, hml, hr, hown, hts, hK, hE, hA, hlk⟩ := F
  intro H locs ls hP hD hS hl
  refine va_callv (va_runI (As := As) (rest := rest) ⟨hx, hb, hml, hown, hts⟩ hM (cwI n hts hG hw hrc hrs (hts _ hini) (hts _ hl0) (hts _ hin0) hy1 hd hR) ⟨cPre_blind, fun U hU hW => ⟨rfl, by rw [hU]; exact hP, va_K.moved hW.alike hK, hD, fun q hq => hA q (Nat.le_trans hS.1 (by rw [hU] at hq; exact hq)), cE_go hW hE⟩⟩ rfl hn hl.1 hst (lv_room hcat) hdg hf) hS (fun q _ h => h) (fun q h => h) (fun u t H1 locs1 ht hvm hw9 hB hz1 hk1 hS1 => ?_)
  obtain ⟨hP1, hD1⟩ := hB
  rw [ht] at hP1
  rw [hwf u] at hP1 hD1
  exact k u hw9 H1 locs1 ls hP1 hD1 hS1 hl
theorem cV_ctorN (F : cFx p s m args meth c D A T2 own cc nL ret Ts)  {y : MethodName} {ws ws' : List Cond} {rm : Room} {mc ms n index maxL : Nat} {bytes : ByteArray} {As : List Value} {a0 : Nat} {host : String} {S : Type} {post : S → Prop} {wf : S → va_W} (hM : cMv l D T2 A y ws rm mc ms (.ref a0 :: As) (w0 ++ b) post wf) (hG : GoodIn Ts ws) (hw : ws = Cond.code y bytes maxL none :: ws') (hrc : rm.cells = mc) (hrs : rm.slots = ms) (hini : Cond.initialized y.cls ∈ Ts) (hl0 : va_Nw (.methodLinkNest own index y host) s) (hin0 : Cond.instanceMethod y ∈ Ts) (hy1 : y.name = "<init>") (hd : y.cls ≠ "java/lang/invoke/MethodHandle" ∧ y.cls ≠ "java/lang/invoke/VarHandle" ∧ (parseMethodDescriptor y.desc).map (fun d => d.parameters.length) = some n) (hR : rm.frames + 1 ≤ R.frames ∧ 8 + (maxL + 11) + rm.locals ≤ R.locals) (hst : st = As.reverse ++ .ref a0 :: rest) (hn : As.length = n) (hcat : (rest.map fun v => v.category).sum ≤ 8) (hdg : decode cc pc = .ok (.invokespecial index, 3)) (hf : cells + mc ≤ R.cells ∧ slots + ms ≤ R.slots) {bf : S → va_W} (hwf : ∀ u, wf u = w0 ++ bf u) (k : ∀ u : S, post u → cV p l e R s m args below meth c D A w0 nL Q (bf u) (cells + mc) (slots + ms) lv rest (pc + 3)) : cV p l e R s m args below meth c D A w0 nL Q b cells slots lv st pc := by
  obtain ⟨hx, hb, hml, hr, hown, hts, hK, hE, hA, hlk⟩ := F
  intro H locs ls hP hD hS hl
  refine va_callv (va_runIN (host := host) (As := As) (rest := rest) ⟨hx, hb, hml, hown, hts⟩ hM ⟨va_cnB n hts hG hw hrc hrs hl0 (hts _ hini) hd hR, hy1, hts _ hin0⟩ ⟨cPre_blind, fun U hU hW => ⟨rfl, by rw [hU]; exact hP, va_K.moved hW.alike hK, hD, fun q hq => hA q (Nat.le_trans hS.1 (by rw [hU] at hq; exact hq)), cE_go hW hE⟩⟩ rfl hn hl.1 hst (lv_room hcat) hdg hf) hS (fun q _ h => h) (fun q h => h) (fun u t H1 locs1 ht hvm hw9 hB hz1 hk1 hS1 => ?_)
  obtain ⟨hP1, hD1⟩ := hB
  rw [ht] at hP1
  rw [hwf u] at hP1 hD1
  exact k u hw9 H1 locs1 ls hP1 hD1 hS1 hl
theorem cV_cS (F : cFx p s m args meth c D A T2 own cc nL ret Ts)  {y : MethodName} {ws ws' : List Cond} {rm : Room} {mc ms n index maxL : Nat} {bytes : ByteArray} {As : List Value}  {S : Type} {post : S → Prop} {wf : S → va_W} (hM : cMv l D T2 A y ws rm mc ms As (w0 ++ b) post wf) (hG : GoodIn Ts (va_wsS own index y ws)) (hw : ws = Cond.code y bytes maxL none :: ws') (hrc : rm.cells = mc) (hrs : rm.slots = ms)  (hd : y.cls ≠ "java/lang/invoke/MethodHandle" ∧ y.cls ≠ "java/lang/invoke/VarHandle" ∧ (parseMethodDescriptor y.desc).map (fun d => d.parameters.length) = some n) (hR : rm.frames + 1 ≤ R.frames ∧ 8 + (maxL + 11) + rm.locals ≤ R.locals) (hst : st = As.reverse ++ rest) (hn : As.length = n) (hcat : (rest.map fun v => v.category).sum ≤ 8) (hdg : decode cc pc = .ok (.invokestatic index, 3)) (hf : cells + mc ≤ R.cells ∧ slots + ms ≤ R.slots) {bf : S → va_W} (hwf : ∀ u, wf u = w0 ++ bf u) (k : ∀ u : S, post u → cV p l e R s m args below meth c D A w0 nL Q (bf u) (cells + mc) (slots + ms) lv rest (pc + 3)) : cV p l e R s m args below meth c D A w0 nL Q b cells slots lv st pc := by
  obtain ⟨hx, hb, hml, hr, hown, hts, hK, hE, hA, hlk⟩ := F
  intro H locs ls hP hD hS hl
  refine va_callv (va_runS (As := As) (rest := rest) ⟨hx, hb, hml, hown, hts⟩ hM (va_cwS n hts hG hw hrc hrs hd hR) ⟨cPre_blind, fun U hU hW => ⟨rfl, by rw [hU]; exact hP, va_K.moved hW.alike hK, hD, fun q hq => hA q (Nat.le_trans hS.1 (by rw [hU] at hq; exact hq)), cE_go hW hE⟩⟩ rfl hn hl.1 hst (lv_room hcat) hdg hf) hS (fun q _ h => h) (fun q h => h) (fun u t H1 locs1 ht hvm hw9 hB hz1 hk1 hS1 => ?_)
  obtain ⟨hP1, hD1⟩ := hB
  rw [ht] at hP1
  rw [hwf u] at hP1 hD1
  exact k u hw9 H1 locs1 ls hP1 hD1 hS1 hl
theorem cV_vret (F : cFx p s m args meth c D A T2 own cc nL ret Ts) {S : Type} {post : S → Prop} {wf : S → va_W} (hdg : decode cc pc = .ok (.return_, 1)) (hret : ret = none) (u : S) (hp : post u) (hwf : wf u = w0 ++ b) : cV p l e R s m args below meth c D A w0 nL (MQ below (va_Qv post (fun u t => va_P D vwCl (wf u) t.heap ∧ va_D A (wf u)) A) args s cells slots A) b cells slots lv [] pc := by
  obtain ⟨hx, hb, hml, hr, hown, hts, hK, hE, hA, hlk⟩ := F
  subst hret
  intro H locs ls hP hD hS hl
  exact W.vret hx hb hr (fun t ht hW => ⟨⟨u, rfl, hp, by show va_P D vwCl (wf u) t.heap ∧ va_D A (wf u); rw [hwf, ht]; exact ⟨hP, hD⟩⟩, hS.F ht⟩) hS.2.2 hdg hlk
end CROWS
theorem cMv_of {l : Launch} {D : va_G} {T2 : Nat → ClassId} {A : Nat → Prop} {y : MethodName} {ws ws' : List Cond} {rm : Room} {mc ms : Nat} {as : List Value} {w w0 b : va_W} {S : Type} {post : S → Prop} {wf : S → va_W} {cc : ByteArray} {maxL : Nat} {ret : Option FieldType} (hwb : w = w0 ++ b) (hy : plainName y.cls = true) (hw : ws = Cond.code y cc maxL ret :: ws') (hlen : (lg_sl as).length ≤ maxL)
    (body : ∀ p e s m args below meth c, cFx p s m args meth c D A T2 y.cls cc maxL ret ws → meth.name = y.name → cV p l e rm s m args below meth c D A w0 maxL (MQ below (va_Qv post (fun u t => va_P D vwCl (wf u) t.heap ∧ va_D A (wf u)) A) args s mc ms A) b 0 0 (lv_args 0 as) [] 0) : cMv l D T2 A y ws rm mc ms as w post wf := by
  refine Met.ofW (cc := cc) (maxL := maxL) (ret := ret) hy hw ?_
  intro p e s m args below meth c s₁ B hml hv
  obtain ⟨rfl, hP, hK, hD, hA, hE⟩ := hv
  have hts := atoms_spec (ws := ws) B.pre
  have hl := lv_entry as (n := maxL) hlen
  rw [lg_entry_eq]
  rw [hwb] at hP hD
  exact body p e s m _ below meth c ⟨B.exec, B.bytes, hml, B.returns, findClass_of_methodNamed B.named, hts, hK, hE, hA, B.notSynchronized⟩ (name_of_methodNamed B.named B.method).1 s.heap [] _ hP hD va_S.rf hl
theorem cMv_ofF {l : Launch} {D : va_G} {T2 : Nat → ClassId} {A : Nat → Prop} {y : MethodName} {ws ws' : List Cond} {rm : Room} {mc ms : Nat} {as : List Value} {w w0 b : va_W} {S : Type} {post : S → Prop} {wf : S → va_W} {cc : ByteArray} {maxL : Nat} {ret : Option FieldType} (hwb : w = w0 ++ b) (hy : plainFor y = true) (hw : ws = Cond.code y cc maxL ret :: ws') (hlen : (lg_sl as).length ≤ maxL)
    (body : ∀ p e s m args below meth c, cFx p s m args meth c D A T2 y.cls cc maxL ret ws → meth.name = y.name → cV p l e rm s m args below meth c D A w0 maxL (MQ below (va_Qv post (fun u t => va_P D vwCl (wf u) t.heap ∧ va_D A (wf u)) A) args s mc ms A) b 0 0 (lv_args 0 as) [] 0) : cMv l D T2 A y ws rm mc ms as w post wf := by
  refine fm_MetF (cc := cc) (maxL := maxL) (ret := ret) hy hw ?_
  intro p e s m args below meth c s₁ B hml hv
  obtain ⟨rfl, hP, hK, hD, hA, hE⟩ := hv
  have hts := atoms_spec (ws := ws) B.pre
  have hl := lv_entry as (n := maxL) hlen
  rw [lg_entry_eq]
  rw [hwb] at hP hD
  exact body p e s m _ below meth c ⟨B.exec, B.bytes, hml, B.returns, findClass_of_methodNamed B.named, hts, hK, hE, hA, B.notSynchronized⟩ (name_of_methodNamed B.named B.method).1 s.heap [] _ hP hD va_S.rf hl
