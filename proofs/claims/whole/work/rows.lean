section
-- ===== PART A: goes FIRST, ahead of the names: the tables' words, and 'selects' of the private methods out of them =====
/-- a private method of a class that the tables say can be made, by its rows of tables_1 -/
def lw_okq (q : MethodName × Nat) : Prop := (q.1.cls ≠ "java/lang/invoke/MethodHandle" ∧ q.1.cls ≠ "java/lang/invoke/VarHandle") ∧ Cond.instantiable q.1.cls q.2 ∈ tables_1 ∧ Cond.privateMethod q.1 ∈ tables_1 ∧ Cond.instanceMethod q.1 ∈ tables_1
theorem lw_p0 : lw_okq (⟨"java/lang/Throwable", "fillInStackTrace", "(I)Ljava/lang/Throwable;"⟩, 6) := ⟨⟨by decide +kernel, by decide +kernel⟩, List.mem_of_getElem? (i := 337) (by decide +kernel), List.mem_of_getElem? (i := 335) (by decide +kernel), List.mem_of_getElem? (i := 336) (by decide +kernel)⟩
theorem lw_p1 : lw_okq (⟨"FloatMarket", "stepsUntil", "(II)I"⟩, 3) := ⟨⟨by decide +kernel, by decide +kernel⟩, List.mem_of_getElem? (i := 18) (by decide +kernel), List.mem_of_getElem? (i := 626) (by decide +kernel), List.mem_of_getElem? (i := 627) (by decide +kernel)⟩
theorem lw_p2 : lw_okq (⟨"FloatMarket", "coinsIfMoored", "(III)I"⟩, 3) := ⟨⟨by decide +kernel, by decide +kernel⟩, List.mem_of_getElem? (i := 18) (by decide +kernel), List.mem_of_getElem? (i := 648) (by decide +kernel), List.mem_of_getElem? (i := 649) (by decide +kernel)⟩
theorem lw_p3 : lw_okq (⟨"FloatMarket", "soldIfAsking", "(IIII)I"⟩, 3) := ⟨⟨by decide +kernel, by decide +kernel⟩, List.mem_of_getElem? (i := 18) (by decide +kernel), List.mem_of_getElem? (i := 659) (by decide +kernel), List.mem_of_getElem? (i := 660) (by decide +kernel)⟩
theorem lw_p4 : lw_okq (⟨"FloatMarketModel", "no", "(I)I"⟩, 13) := ⟨⟨by decide +kernel, by decide +kernel⟩, List.mem_of_getElem? (i := 663) (by decide +kernel), List.mem_of_getElem? (i := 792) (by decide +kernel), List.mem_of_getElem? (i := 793) (by decide +kernel)⟩
theorem lw_p5 : lw_okq (⟨"FloatMarketModel", "isCanoe", "(I)Z"⟩, 13) := ⟨⟨by decide +kernel, by decide +kernel⟩, List.mem_of_getElem? (i := 663) (by decide +kernel), List.mem_of_getElem? (i := 808) (by decide +kernel), List.mem_of_getElem? (i := 809) (by decide +kernel)⟩
theorem lw_p6 : lw_okq (⟨"FloatMarketModel", "isRow", "(I)Z"⟩, 13) := ⟨⟨by decide +kernel, by decide +kernel⟩, List.mem_of_getElem? (i := 663) (by decide +kernel), List.mem_of_getElem? (i := 828) (by decide +kernel), List.mem_of_getElem? (i := 829) (by decide +kernel)⟩
theorem lw_p7 : lw_okq (⟨"FloatMarketModel", "canoeTold", "(II)I"⟩, 13) := ⟨⟨by decide +kernel, by decide +kernel⟩, List.mem_of_getElem? (i := 663) (by decide +kernel), List.mem_of_getElem? (i := 864) (by decide +kernel), List.mem_of_getElem? (i := 865) (by decide +kernel)⟩
theorem lw_p8 : lw_okq (⟨"FloatMarketModel", "goodTold", "(II)I"⟩, 13) := ⟨⟨by decide +kernel, by decide +kernel⟩, List.mem_of_getElem? (i := 663) (by decide +kernel), List.mem_of_getElem? (i := 877) (by decide +kernel), List.mem_of_getElem? (i := 878) (by decide +kernel)⟩
theorem lw_p9 : lw_okq (⟨"FloatMarketModel", "pass", "(LFloatMarketModel$State;I)I"⟩, 13) := ⟨⟨by decide +kernel, by decide +kernel⟩, List.mem_of_getElem? (i := 663) (by decide +kernel), List.mem_of_getElem? (i := 902) (by decide +kernel), List.mem_of_getElem? (i := 903) (by decide +kernel)⟩
theorem lw_p10 : lw_okq (⟨"FloatMarketModel$State", "drift", "(I[Z)V"⟩, 14) := ⟨⟨by decide +kernel, by decide +kernel⟩, List.mem_of_getElem? (i := 669) (by decide +kernel), List.mem_of_getElem? (i := 910) (by decide +kernel), List.mem_of_getElem? (i := 911) (by decide +kernel)⟩
theorem lw_p11 : lw_okq (⟨"FloatMarketModel$State", "trade", "(II)V"⟩, 14) := ⟨⟨by decide +kernel, by decide +kernel⟩, List.mem_of_getElem? (i := 669) (by decide +kernel), List.mem_of_getElem? (i := 919) (by decide +kernel), List.mem_of_getElem? (i := 920) (by decide +kernel)⟩
theorem lw_p12 : lw_okq (⟨"FloatMarketModel", "counted", "(I)I"⟩, 13) := ⟨⟨by decide +kernel, by decide +kernel⟩, List.mem_of_getElem? (i := 663) (by decide +kernel), List.mem_of_getElem? (i := 928) (by decide +kernel), List.mem_of_getElem? (i := 929) (by decide +kernel)⟩
theorem lw_p13 : lw_okq (⟨"FloatMarketModel$State", "copy", "([I[I)V"⟩, 14) := ⟨⟨by decide +kernel, by decide +kernel⟩, List.mem_of_getElem? (i := 669) (by decide +kernel), List.mem_of_getElem? (i := 948) (by decide +kernel), List.mem_of_getElem? (i := 949) (by decide +kernel)⟩
def lw_privs_1 : List (MethodName × Nat) := [(⟨"java/lang/Throwable", "fillInStackTrace", "(I)Ljava/lang/Throwable;"⟩, 6), (⟨"FloatMarket", "stepsUntil", "(II)I"⟩, 3), (⟨"FloatMarket", "coinsIfMoored", "(III)I"⟩, 3), (⟨"FloatMarket", "soldIfAsking", "(IIII)I"⟩, 3), (⟨"FloatMarketModel", "no", "(I)I"⟩, 13), (⟨"FloatMarketModel", "isCanoe", "(I)Z"⟩, 13), (⟨"FloatMarketModel", "isRow", "(I)Z"⟩, 13), (⟨"FloatMarketModel", "canoeTold", "(II)I"⟩, 13), (⟨"FloatMarketModel", "goodTold", "(II)I"⟩, 13), (⟨"FloatMarketModel", "pass", "(LFloatMarketModel$State;I)I"⟩, 13), (⟨"FloatMarketModel$State", "drift", "(I[Z)V"⟩, 14), (⟨"FloatMarketModel$State", "trade", "(II)V"⟩, 14), (⟨"FloatMarketModel", "counted", "(I)I"⟩, 13), (⟨"FloatMarketModel$State", "copy", "([I[I)V"⟩, 14)]
theorem lw_r1 : ∀ q ∈ lw_privs_1, lw_okq q := List.forall_mem_cons.mpr ⟨lw_p0, List.forall_mem_cons.mpr ⟨lw_p1, List.forall_mem_cons.mpr ⟨lw_p2, List.forall_mem_cons.mpr ⟨lw_p3, List.forall_mem_cons.mpr ⟨lw_p4, List.forall_mem_cons.mpr ⟨lw_p5, List.forall_mem_cons.mpr ⟨lw_p6, List.forall_mem_cons.mpr ⟨lw_p7, List.forall_mem_cons.mpr ⟨lw_p8, List.forall_mem_cons.mpr ⟨lw_p9, List.forall_mem_cons.mpr ⟨lw_p10, List.forall_mem_cons.mpr ⟨lw_p11, List.forall_mem_cons.mpr ⟨lw_p12, List.forall_mem_cons.mpr ⟨lw_p13, fun _ h => absurd h List.not_mem_nil⟩⟩⟩⟩⟩⟩⟩⟩⟩⟩⟩⟩⟩⟩
def lw_privs : List (MethodName × Nat) := lw_privs_1
def lw_tbl : List Cond := k2_sels lw_privs ++ tables_1
theorem lw_privs_ok : ∀ q ∈ lw_privs, lw_okq q := lw_r1
/-- the streams that the claim lets the run draw from -/
abbrev lw_cs : List Choice := [Jvm.Choice.named "NaN.bits"]
theorem lw_bits : nanBits ∈ lw_cs := by first | decide | exact List.mem_cons_self | simp [lw_cs, nanBits]
end
section
/-! ===== BEGIN words of one list among another's, by their places ===== -/
theorem goodIn_r {big : List Cond} (ws : List Cond) (ps : List Nat) (hp : ws = ps.filterMap (fun i => big[i]?)) (h : ws.all goodWord = true) : GoodIn big ws := by
  intro w hw
  have h1 := List.all_eq_true.mp h w hw
  rw [hp] at hw
  obtain ⟨i, -, hi⟩ := List.mem_filterMap.mp hw
  have hm : w ∈ big := by first | exact List.mem_of_getElem? hi | exact List.getElem?_mem hi
  exact ⟨hm, good_of_word h1⟩
theorem goodIn_app {big a b : List Cond} (ha : GoodIn big a) (hb : GoodIn big b) : GoodIn big (a ++ b) := fun w h => (List.mem_append.mp h).elim (ha w) (hb w)
theorem goodIn_ca {big a b : List Cond} {c : Cond} (ha : GoodIn big (c :: a)) (hb : GoodIn big b) : GoodIn big (c :: (a ++ b)) := fun w h => (List.mem_cons.mp h).elim (fun e => ha w (List.mem_cons.mpr (Or.inl e))) (fun h => (List.mem_append.mp h).elim (fun h => ha w (List.mem_cons.mpr (Or.inr h))) (hb w))
theorem goodIn_sub {big ws : List Cond} (hm : ∀ w ∈ ws, w ∈ big) (h : ws.all goodWord = true) : GoodIn big ws := fun w hw => ⟨hm w hw, good_of_word (List.all_eq_true.mp h w hw)⟩
/-! ===== END ===== -/

/-! ===== BEGIN exceptions that leave a method, and their catching by the caller (launches without stack traces) ===== -/
section VXA
/-! The laws vx_back, vx_callV, vx_callS, vx_callSW, vx_throw0, vx_throwS follow proofs of the library, with one case more: JvmDerived/Free/Laws.lean (Back.of_free), Shelf42/LK1.lean (callV, callS), Shelf/KitTraced.lean (throwNew0V, throwNewS). -/
/-- where a method has thrown q: the class by its name, the cell, what was written, the world -/
def vx_T (XC : String → State → State → Prop) (st : State) (q : Addr) (t : State) (mc ms : Nat) (free : Addr → Prop) : Prop :=
  ∃ (E : String) (ce : Cell) (L : List Loc), XC E st t ∧ t.heap[q]? = some ce ∧ ce.vm = .none ∧ st.vm.findClass E = some ce.cls ∧ st.WarmedH t.vm ∧ st.sameButNew ({ t with vm := st.vm } : State) L mc ms ∧ ∀ z ∈ L, free z.base
def vx_Q (Qc : Array Value → State → Outcome → State → Prop) (XC : String → State → State → Prop) (mc ms : Nat) (free : Addr → Prop) : Array Value → State → Outcome → State → Prop := fun a st o t =>
  (Qc a st o t ∧ ∃ L, FrameEnd st o t L mc ms ∧ ∀ q ∈ L, free q.base) ∨ ∃ q, o = .threw q ∧ vx_T XC st q t mc ms free
/-- a callee that returns or throws -/
def vx_Met (l : Launch) (y : MethodName) (ws : List Cond) (rm : Room) (Pc : Array Value → State → Prop) (Qc : Array Value → State → Outcome → State → Prop) (XC : String → State → State → Prop) (mc ms : Nat) (free : Addr → Prop) : Prop :=
  MetFree l y (headSpec ws rm) Pc (fun _ _ _ _ _ => True) (vx_Q Qc XC mc ms free)
def vx_Post (XC : String → State → State → Prop) (mc ms : Nat) (free : Addr → Prop) : Pt → Array Value → Addr → Pt → Prop := fun A a q B =>
  ∃ (g : JFrame) (mk : MethodId) (t : State) (L : List Loc) (E : String) (ce : Cell), B.U.heap = t.heap ∧ B.U.vm = t.vm ∧ XC E (A.U.calling g mk a) t ∧ t.heap[q]? = some ce ∧ ce.vm = .none ∧ A.U.vm.findClass E = some ce.cls ∧ B.locs = A.locs ++ L ∧ (∀ z ∈ L, free z.base) ∧ B.cells = A.cells + mc ∧ B.slots = A.slots + ms
def vx_Back (l : Launch) (R : Room) (p : Program) (e : Env) (below : List Frame) (s : State) (sargs : Array Value) (y : MethodName) (len W9 : Nat)
    (Pre : Pt → Array Value → Prop) (Post : Pt → Array Value → Option Value → Pt → Prop) (PostX : Pt → Array Value → Addr → Pt → Prop) : Prop :=
  ∀ (m : MethodId) (meth : Method) (c : Code) (A : Pt) (g : JFrame) (ig : Instr) (mk : MethodId) (a : Array Value),
    Stand p l e R s m sargs below meth c A.U A.locs A.cells A.slots → g.method = m → g.locals.size = c.maxLocals → decode c.code g.pc = .ok (ig, len) →
    2 * g.monitorRoom + (g.stack.map fun v => v.category).sum ≤ W9 → A.U.methodNamed? y = some mk → Pre A a →
    (∃ (v : Option Value) (B : Pt), Stand p l e R s m sargs below meth c B.U B.locs B.cells B.slots ∧ Post A a v B ∧
      Steps p.tables e below (doInvoke e (A.U.setTop g) [] mk a).1 (B.U.setTop { g with pc := g.pc + len, stack := v.toList ++ g.stack })) ∨
    (∃ (q : Addr) (B : Pt), Stand p l e R s m sargs below meth c B.U B.locs B.cells B.slots ∧ PostX A a q B ∧
      Steps p.tables e below (doInvoke e (A.U.setTop g) [] mk a).1 ((B.U.setTop g).pushFrame (.throwing q)))
section Payer
variable {l : Launch} {R : Room} {p : Program} {e : Env} {below : List Frame} {s : State} {sargs : Array Value} {y : MethodName} {len W9 : Nat}
theorem vx_back {ws : List Cond} {rm : Room} {Pc : Array Value → State → Prop} {Qc : Array Value → State → Outcome → State → Prop} {XC : String → State → State → Prop} {mc ms : Nat} {free : Addr → Prop} {bytes : ByteArray} {maxL : Nat} {ret : Option FieldType}
    (hM : vx_Met l y ws rm Pc Qc XC mc ms free) (hblind : FrameBlind Pc) (hrc : rm.cells = mc) (hrs : rm.slots = ms)
    (hframes : rm.frames + 1 ≤ R.frames) (hlocals : W9 + (maxL + 11) + rm.locals ≤ R.locals)
    (hws : ∀ w ∈ ws, ∀ a' U, s.WarmedH U.vm → w.before a' U = true) (hcode : Cond.code y bytes maxL ret ∈ ws) (hinit : ∀ a' U, s.WarmedH U.vm → (Cond.initialized y.cls).before a' U = true) :
    vx_Back l R p e below s sargs y len W9 (PreOf R mc ms Pc) (PostOf Qc mc ms free) (vx_Post XC mc ms free) := by
  intro m meth c A g ig mk a X hg hsize hdg hW hn hp
  have h1 : (headSpec ws rm).pre.before a A.U = true := atoms_intro fun w hw => hws w hw _ _ X.warmed
  have h2 : (Cond.code y bytes maxL ret).before a A.U = true := hws _ hcode _ _ X.warmed
  have h3 : (Cond.initialized y.cls).before a A.U = true := hinit _ _ X.warmed
  have h4 : A.cells + (headSpec ws rm).room.cells ≤ R.cells := by rw [show (headSpec ws rm).room.cells = mc from hrc]; exact hp.1
  have h5 : A.slots + (headSpec ws rm).room.slots ≤ R.slots := by rw [show (headSpec ws rm).room.slots = ms from hrs]; exact hp.2.1
  have hPc : Pc a (A.U.calling g mk a) := hblind _ _ _ _ hp.2.2
  obtain ⟨U, Ls, c0, s0⟩ := A
  dsimp only [Pt.U, Pt.locs, Pt.cells, Pt.slots] at h1 h2 h3 h4 h5 X hn hPc ⊢
  obtain ⟨methY, cY, hmY, hcY, -, hlY, -, -, -, -⟩ := Cond.code_spec hn h2
  obtain ⟨kY, hkY, -⟩ := className_of_methodNamed hn
  have hinitY : kY.init = .initialized := Cond.initialized_spec (findClass_of_methodNamed hn) hkY h3
  have h : At U g.method c below := by rw [hg]; exact X.here
  have hlocals9 : W9 + (maxL + 11) + (headSpec ws rm).room.locals ≤ R.locals := hlocals
  have happ : (headSpec ws rm).appliesLoose y e.platform (U.calling g mk a) = true :=
    Spec.appliesLoose_calling (g := g) h hdg hn hkY hinitY
      (X.room_calling (g := g) (R' := (headSpec ws rm).room) hsize hmY hcY hframes (by rw [hlY]; omega) h4 h5) h1
  obtain ⟨mid, hmid⟩ := h.above
  have hfr : (U.setTop g).frames = (.java g :: mid) ++ below := by rw [State.frames_setTop' g h.top, hmid]; rfl
  obtain ⟨o, s₂, hsteps, -, hend, hq⟩ := Steps.callFree hM p X.admits X.cas X.clock (acts := []) hfr happ hPc trivial
  have hq' : vx_Q Qc XC mc ms free a (U.calling g mk a) o s₂ := hq
  rw [State.frames_setTop' g h.top] at hend
  obtain ⟨g₀, hg0⟩ := Option.isSome_iff_exists.mp h.top
  obtain ⟨r, hr⟩ := State.topJava?_eq_some.mp hg0
  have hr' : (({ U with heap := s₂.heap, slotsUsed := s₂.slotsUsed } : State).setVm s₂.vm).frames = .java g₀ :: r := hr
  rcases hq' with ⟨hqc, L, hfe, hL⟩ | ⟨q, rfl, E, ce, L, hx, hce, hcv, hcl, hW₂, hsm, hL⟩
  · obtain ⟨⟨v, rfl⟩, hW₂, e2, q2, q3, q4, q5, q6⟩ := id hfe
    have e3 : s₂ = ({ (U.calling g mk a).setFrames s₂.frames with heap := s₂.heap, slotsUsed := s₂.slotsUsed } : State).setVm s₂.vm := by
      have : s₂ = ({ s₂ with vm := (U.calling g mk a).vm } : State).setVm s₂.vm := rfl
      rw [e2] at this
      exact this
    obtain ⟨c₂, i₂, len₂, hc₂, hd₂, hf₂⟩ := hend
    have hW' : U.WarmedH s₂.vm := hW₂
    have hcc : c₂ = c := by
      have h1 : s₂.code? g.method = U.code? g.method := by
        rw [State.code?_eq, State.code?_eq, hW'.alike.method?]
      exact Option.some.inj (hc₂.symm.trans (h1.trans h.code))
    subst hcc
    have hlen : len₂ = len := by rw [hdg] at hd₂; cases hd₂; rfl
    subst hlen
    have hs₂ : s₂ = (({ U with heap := s₂.heap, slotsUsed := s₂.slotsUsed } : State).setVm s₂.vm).setTop { g with pc := g.pc + len₂, stack := v.toList ++ g.stack } := by
      refine e3.trans ?_
      rw [hf₂, State.calling_eq h.top, State.setFrames_setFrames, State.setTop_of_frames _ hr', hr]
      rfl
    have hsame : U.sameButNew ({ U with heap := s₂.heap, slotsUsed := s₂.slotsUsed } : State) L mc ms := by
      refine ⟨?_, q2, q3, q4, q5, q6⟩
      obtain ⟨t, ht, -⟩ := State.frames_cons hr
      show ({ U with heap := s₂.heap, slotsUsed := s₂.slotsUsed } : State) = { U.setFrames U.frames with heap := s₂.heap, slotsUsed := s₂.slotsUsed }
      rw [State.setFrames_self ht]
    subst hg
    refine Or.inl ⟨v, ⟨(({ U with heap := s₂.heap, slotsUsed := s₂.slotsUsed } : State).setVm s₂.vm), Ls ++ L, c0 + mc, s0 + ms⟩,
      ⟨X.admits, X.cas, X.clock, X.frames, X.room, X.hears, X.method, X.code, (X.here.setHeapUsed s₂.heap s₂.slotsUsed).setVm hW'.alike, X.tail, State.WarmedH.trans X.warmed hW', X.limits, X.bytes, X.same.trans (hsame.setVm s.vm)⟩,
      ⟨g, mk, s₂, L, rfl, rfl, hqc, rfl, hL, rfl, rfl⟩, ?_⟩
    show Steps p.tables e below _ ((({ U with heap := s₂.heap, slotsUsed := s₂.slotsUsed } : State).setVm s₂.vm).setTop { g with pc := g.pc + len₂, stack := v.toList ++ g.stack })
    rw [← hs₂]
    exact hsteps
  · obtain ⟨e2, q2, q3, q4, q5, q6⟩ := id hsm
    have e3 : s₂ = ({ (U.calling g mk a).setFrames s₂.frames with heap := s₂.heap, slotsUsed := s₂.slotsUsed } : State).setVm s₂.vm := by
      have : s₂ = ({ s₂ with vm := (U.calling g mk a).vm } : State).setVm s₂.vm := rfl
      rw [e2] at this
      exact this
    have hf₂ : s₂.frames = .throwing q :: .java g :: U.frames.tail := hend
    have hW' : U.WarmedH s₂.vm := hW₂
    have hs₂ : s₂ = ((({ U with heap := s₂.heap, slotsUsed := s₂.slotsUsed } : State).setVm s₂.vm).setTop g).pushFrame (.throwing q) := by
      refine e3.trans ?_
      rw [hf₂, State.calling_eq h.top, State.setFrames_setFrames, State.pushFrame, State.frames_setTop _ hr', State.setTop_of_frames _ hr', State.setFrames_setFrames, hr]
      rfl
    have hsame : U.sameButNew ({ U with heap := s₂.heap, slotsUsed := s₂.slotsUsed } : State) L mc ms := by
      refine ⟨?_, q2, q3, q4, q5, q6⟩
      obtain ⟨t, ht, -⟩ := State.frames_cons hr
      show ({ U with heap := s₂.heap, slotsUsed := s₂.slotsUsed } : State) = { U.setFrames U.frames with heap := s₂.heap, slotsUsed := s₂.slotsUsed }
      rw [State.setFrames_self ht]
    subst hg
    refine Or.inr ⟨q, ⟨(({ U with heap := s₂.heap, slotsUsed := s₂.slotsUsed } : State).setVm s₂.vm), Ls ++ L, c0 + mc, s0 + ms⟩,
      ⟨X.admits, X.cas, X.clock, X.frames, X.room, X.hears, X.method, X.code, (X.here.setHeapUsed s₂.heap s₂.slotsUsed).setVm hW'.alike, X.tail, State.WarmedH.trans X.warmed hW', X.limits, X.bytes, X.same.trans (hsame.setVm s.vm)⟩,
      ⟨g, mk, s₂, L, E, ce, rfl, rfl, hx, hce, hcv, hcl, rfl, hL, rfl, rfl⟩, ?_⟩
    show Steps p.tables e below _ (((({ U with heap := s₂.heap, slotsUsed := s₂.slotsUsed } : State).setVm s₂.vm).setTop g).pushFrame (.throwing q))
    rw [← hs₂]
    exact hsteps
end Payer
section Calls
variable {p : Program} {l : Launch} {e : Env} {R : Room} {s : State} {m : MethodId} {args : Array Value} {below : List Frame} {meth : Method} {c : Code} {T : State} {locs : List Loc} {cells slots : Nat}
theorem vx_callV (X : Stand p l e R s m args below meth c T locs cells slots) (hexec : p.tables.exec = Jvm.exec) {own C : String} {index : Nat} {y : MethodName} {bytes : ByteArray} {maxL : Nat} {ret : Option FieldType}
    (hown : s.vm.findClass own = some m.cls) (hlink : (Cond.methodLink own index y).before args s = true) (hinst : (Cond.instanceMethod y).before args s = true) (hsel : (Cond.selects C y y).before args s = true)
    (hcode : (Cond.code y bytes maxL ret).before args s = true) (hy : y.cls ≠ "java/lang/invoke/MethodHandle" ∧ y.cls ≠ "java/lang/invoke/VarHandle")
    {W9 : Nat} {Pre : Pt → Array Value → Prop} {Post : Pt → Array Value → Option Value → Pt → Prop} {PostX : Pt → Array Value → Addr → Pt → Prop} (hK : vx_Back l R p e below s args y 3 W9 Pre Post PostX)
    {b : Addr} {cellB : Cell} (hcell : T.heap[b]? = some cellB) (hobj : cellB.vm.isStatics = false) (hcls : s.vm.findClass C = some cellB.cls)
    {g : JFrame} (hg : g.method = m) (hsize : g.locals.size = c.maxLocals) {argsL rest : List Value} (hlen : ∀ sig, parseMethodDescriptor y.desc = some sig → argsL.length = sig.parameters.length)
    (hstack : g.stack = argsL.reverse ++ .ref b :: rest) (hW : 2 * g.monitorRoom + (rest.map fun v => v.category).sum ≤ W9) (hdg : decode c.code g.pc = .ok (.invokevirtual index, 3))
    (hpre : ∀ vm₁, s.WarmedH vm₁ → Pre ⟨T.setVm vm₁, locs, cells, slots⟩ (Value.ref b :: argsL).toArray) :
    (∃ (v : Option Value) (vm₁ : Vm) (B : Pt), s.WarmedH vm₁ ∧ Stand p l e R s m args below meth c B.U B.locs B.cells B.slots ∧ Post ⟨T.setVm vm₁, locs, cells, slots⟩ (Value.ref b :: argsL).toArray v B ∧
      ∀ target, Steps p.tables e below (B.U.setTop { g with pc := g.pc + 3, stack := v.toList ++ rest }) target → Steps p.tables e below (T.setTop g) target) ∨
    (∃ (q : Addr) (vm₁ : Vm) (B : Pt), s.WarmedH vm₁ ∧ Stand p l e R s m args below meth c B.U B.locs B.cells B.slots ∧ PostX ⟨T.setVm vm₁, locs, cells, slots⟩ (Value.ref b :: argsL).toArray q B ∧
      Steps p.tables e below (T.setTop g) ((B.U.setTop { g with stack := rest }).pushFrame (.throwing q))) := by
  obtain ⟨mk, methM, hnamed, hmethM, hstM, habM⟩ := Cond.instanceMethod_spec hinst
  obtain ⟨methM', cM, hmethM', -, -, -, -, -, -, hsigM⟩ := Cond.code_spec hnamed hcode
  cases hmethM.symm.trans hmethM'
  obtain ⟨c2, r2, m2, q1, q2, q3, q4, kP, hkP, hkPi⟩ := Cond.selects_spec hsel
  cases hcls.symm.trans q1
  cases (State.methodFound?_of_named hnamed hy).symm.trans q2
  cases hnamed.symm.trans q3
  have hselP : selectMethod e.platform s.vm cellB.cls mk = .method mk := by rw [Launch.admits_selectMethod X.admits]; exact q4
  obtain ⟨vm₁, X₁, hstep₁⟩ := X.invokevirtual hexec hown hlink hnamed hmethM hstM hkP hkPi hy (a := b) (cell := cellB) hcell
    (fun z h => by rw [h] at hobj; cases hobj) hselP hmethM habM hkP hkPi (g := g) hg (argsL := argsL) (rest := rest) (hlen _ hsigM) hstack hdg
  rcases hK m meth c ⟨T.setVm vm₁, locs, cells, slots⟩ { g with stack := rest } (.invokevirtual index) mk (Value.ref b :: argsL).toArray X₁ hg hsize hdg hW (X₁.named hnamed) (hpre vm₁ X₁.warmed) with ⟨v, B, X', hpost, hsteps⟩ | ⟨q, B, X', hpost, hsteps⟩
  · exact Or.inl ⟨v, vm₁, B, X₁.warmed, X', hpost, fun target h => hstep₁ _ fun acts => by rw [doInvoke_state]; exact hsteps.trans h⟩
  · exact Or.inr ⟨q, vm₁, B, X₁.warmed, X', hpost, hstep₁ _ fun acts => by rw [doInvoke_state]; exact hsteps⟩
theorem vx_callS (X : Stand p l e R s m args below meth c T locs cells slots) (hexec : p.tables.exec = Jvm.exec) {own : String} {index : Nat} {y : MethodName} {bytes : ByteArray} {maxL : Nat} {ret : Option FieldType}
    (hown : s.vm.findClass own = some m.cls) (hlink : (Cond.methodLink own index y).before args s = true) (hstat : (Cond.static y).before args s = true) (hinit : (Cond.initialized y.cls).before args s = true)
    (hcode : (Cond.code y bytes maxL ret).before args s = true) (hy : y.cls ≠ "java/lang/invoke/MethodHandle" ∧ y.cls ≠ "java/lang/invoke/VarHandle")
    {W9 : Nat} {Pre : Pt → Array Value → Prop} {Post : Pt → Array Value → Option Value → Pt → Prop} {PostX : Pt → Array Value → Addr → Pt → Prop} (hK : vx_Back l R p e below s args y 3 W9 Pre Post PostX)
    {g : JFrame} (hg : g.method = m) (hsize : g.locals.size = c.maxLocals) {argsL rest : List Value} (hlen : ∀ sig, parseMethodDescriptor y.desc = some sig → argsL.length = sig.parameters.length)
    (hstack : g.stack = argsL.reverse ++ rest) (hW : 2 * g.monitorRoom + (rest.map fun v => v.category).sum ≤ W9) (hdg : decode c.code g.pc = .ok (.invokestatic index, 3))
    (hpre : ∀ vm₁, s.WarmedH vm₁ → Pre ⟨T.setVm vm₁, locs, cells, slots⟩ argsL.toArray) :
    (∃ (v : Option Value) (vm₁ : Vm) (B : Pt), s.WarmedH vm₁ ∧ Stand p l e R s m args below meth c B.U B.locs B.cells B.slots ∧ Post ⟨T.setVm vm₁, locs, cells, slots⟩ argsL.toArray v B ∧
      ∀ target, Steps p.tables e below (B.U.setTop { g with pc := g.pc + 3, stack := v.toList ++ rest }) target → Steps p.tables e below (T.setTop g) target) ∨
    (∃ (q : Addr) (vm₁ : Vm) (B : Pt), s.WarmedH vm₁ ∧ Stand p l e R s m args below meth c B.U B.locs B.cells B.slots ∧ PostX ⟨T.setVm vm₁, locs, cells, slots⟩ argsL.toArray q B ∧
      Steps p.tables e below (T.setTop g) ((B.U.setTop { g with stack := rest }).pushFrame (.throwing q))) := by
  obtain ⟨mk, hnamed⟩ := Cond.code_named hcode
  obtain ⟨methM, cM, hmethM, -, -, -, -, -, -, hsigM⟩ := Cond.code_spec hnamed hcode
  have hstatic : methM.isStatic = true := Cond.static_spec hnamed hmethM hstat
  obtain ⟨kP, hkP, -⟩ := className_of_methodNamed hnamed
  have hinitP : kP.init = .initialized := Cond.initialized_spec (findClass_of_methodNamed hnamed) hkP hinit
  obtain ⟨vm₁, X₁, hstep₁⟩ := X.invokestatic hexec hown hlink hnamed hmethM hstatic hkP hinitP hy (g := g) hg (argsL := argsL) (rest := rest) (hlen _ hsigM) hstack hdg
  rcases hK m meth c ⟨T.setVm vm₁, locs, cells, slots⟩ { g with stack := rest } (.invokestatic index) mk argsL.toArray X₁ hg hsize hdg hW (X₁.named hnamed) (hpre vm₁ X₁.warmed) with ⟨v, B, X', hpost, hsteps⟩ | ⟨q, B, X', hpost, hsteps⟩
  · exact Or.inl ⟨v, vm₁, B, X₁.warmed, X', hpost, fun target h => hstep₁ _ fun acts => by rw [doInvoke_state]; exact hsteps.trans h⟩
  · exact Or.inr ⟨q, vm₁, B, X₁.warmed, X', hpost, hstep₁ _ fun acts => by rw [doInvoke_state]; exact hsteps⟩
end Calls
theorem vx_cls {s : State} {T : State} {vm₁ : Vm} {E : String} {k : ClassId} (hW : s.WarmedH vm₁) (h : (T.setVm vm₁).vm.findClass E = some k) : s.vm.findClass E = some k := by
  have h1 : vm₁.findClass E = some k := h
  rw [hW.alike.findClass] at h1
  exact h1
/-- the method's frame g, with q thrown over it -/
def vx_W (p : Program) (l : Launch) (e : Env) (R : Room) (s : State) (m : MethodId) (args : Array Value) (below : List Frame) (meth : Method) (c : Code) (H : Heap) (locs : List Loc) (cells slots : Nat) (Q : State → Prop) (g : JFrame) (q : Addr) : Prop :=
  ∀ T : State, T.heap = H → Stand p l e R s m args below meth c T locs cells slots → ∃ t, Steps p.tables e below ((T.setTop g).pushFrame (.throwing q)) t ∧ Q t
def vx_Run (p : Program) (l : Launch) (e : Env) (R : Room) (s : State) (m : MethodId) (args : Array Value) (below : List Frame) (meth : Method) (c : Code) (H : Heap) (locs : List Loc) (cells slots mc ms : Nat) (g : JFrame) (rest : List Value) (Qa : State → Outcome → State → Prop) (XC : String → State → State → Prop) (free : Addr → Prop) : Prop :=
  ∀ T : State, T.heap = H → Stand p l e R s m args below meth c T locs cells slots →
    (∃ (v : Option Value) (st₀ t T' : State) (L : List Loc), st₀.heap = H ∧ Stand p l e R s m args below meth c T' (locs ++ L) (cells + mc) (slots + ms) ∧ (∀ q ∈ L, free q.base) ∧ T'.heap = t.heap ∧ T'.vm = t.vm ∧ Qa st₀ (.returned v) t ∧
      Goes p e below T g T' { g with pc := g.pc + 3, stack := v.toList ++ rest }) ∨
    (∃ (q : Addr) (st₀ t T' : State) (L : List Loc) (E : String) (ce : Cell), st₀.heap = H ∧ Stand p l e R s m args below meth c T' (locs ++ L) (cells + mc) (slots + ms) ∧ (∀ z ∈ L, free z.base) ∧ T'.heap = t.heap ∧ T'.vm = t.vm ∧ XC E st₀ t ∧ t.heap[q]? = some ce ∧ ce.vm = .none ∧ s.vm.findClass E = some ce.cls ∧
      Steps p.tables e below (T.setTop g) ((T'.setTop { g with stack := rest }).pushFrame (.throwing q)))
def vx_X {S : Type} (px : S → Prop) (B : String → S → State → Prop) (A : Nat → Prop) : String → State → State → Prop := fun E st t => ∃ u : S, px u ∧ B E u t ∧ va_F A st t
section Runs
variable {p : Program} {l : Launch} {e : Env} {R : Room} {s : State} {m : MethodId} {args : Array Value} {below : List Frame} {meth : Method} {c : Code} {H : Heap} {locs : List Loc} {cells slots : Nat}
variable {y : MethodName} {bytes cc : ByteArray} {maxL nL mc ms n index : Nat} {ret : Option FieldType} {ws : List Cond} {rm : Room} {Pc : Array Value → State → Prop} {Qc : Array Value → State → Outcome → State → Prop} {XC : String → State → State → Prop} {free : Addr → Prop} {Ts : List Cond} {own C : String} {b : Addr} {As rest : List Value} {g : JFrame}
theorem vx_callBack (cb : CallB R s args own index y bytes maxL ret ws rm mc ms n) (hM : vx_Met l y ws rm Pc Qc XC mc ms free) (hbl : FrameBlind Pc) : vx_Back l R p e below s args y 3 8 (PreOf R mc ms Pc) (PostOf Qc mc ms free) (vx_Post XC mc ms free) := by
  obtain ⟨hrc, hrs, hfr, hlo, hws, hcw, -, hini, -⟩ := cb
  exact vx_back (bytes := bytes) (maxL := maxL) (ret := ret) hM hbl hrc hrs hfr hlo hws hcw (fun a' U hW => word_at hW (Or.inl (by first | rfl | simp [Cond.onTables, Cond.keeps, Cond.steady])) hini)
theorem vx_runV (S : CallFix p m c cc nL s args Ts own) (hM : vx_Met l y ws rm Pc Qc XC mc ms free) (cw : CallW R s args own C index y bytes maxL ret ws rm mc ms n) (hp : PreV s H C b Pc As)
    (hg : g.method = m) (hn : As.length = n) (hsize : g.locals.size = nL) (hstack : g.stack = As.reverse ++ .ref b :: rest) (hW : 2 * g.monitorRoom + (rest.map fun v => v.category).sum ≤ 8) (hdg : decode cc g.pc = .ok (.invokevirtual index, 3)) (hf : cells + mc ≤ R.cells ∧ slots + ms ≤ R.slots) :
    vx_Run p l e R s m args below meth c H locs cells slots mc ms g rest (Qc (Value.ref b :: As).toArray) XC free := by
  have hK : vx_Back l R p e below s args y 3 8 (PreOf R mc ms Pc) (PostOf Qc mc ms free) (vx_Post XC mc ms free) := vx_callBack cw.1 hM hp.1
  obtain ⟨⟨-, -, -, -, -, -, hcode, -, hy, hlen, hl⟩, hin, hse⟩ := cw
  obtain ⟨hx, hb, hml, ho, -⟩ := S
  obtain ⟨-, ⟨cellB, hcB, hoB, hclB⟩, hPc⟩ := hp
  intro T hT X
  rcases vx_callV X hx (C := C) (bytes := bytes) (maxL := maxL) (ret := ret) ho hl hin hse hcode hy hK (by rw [hT]; exact hcB) hoB hclB hg (hsize.trans hml.symm) (argsL := As) (rest := rest) (fun sig h => hn.trans (hlen sig h)) hstack hW (by rw [hb]; exact hdg)
    (fun vm₁ hW₁ => ⟨hf.1, hf.2, hPc (T.setVm vm₁) hT hW₁⟩) with ⟨v, vm₁, ⟨U', l2, c2, s2⟩, hW₁, X', ⟨g', mk, t, L, e1, e2, hq, h1, hL, h2, h3⟩, st⟩ | ⟨q, vm₁, ⟨U', l2, c2, s2⟩, hW₁, X', ⟨g', mk, t, L, E, ce, e1, e2, hq, hce, hcv, hcl, h1, hL, h2, h3⟩, st⟩
  · dsimp only [Pt.U, Pt.locs, Pt.cells, Pt.slots] at X' e1 e2 h1 h2 h3 st
    subst h1; subst h2; subst h3
    exact Or.inl ⟨v, (T.setVm vm₁).calling g' mk (Value.ref b :: As).toArray, t, U', L, hT, X', hL, e1, e2, hq, st⟩
  · dsimp only [Pt.U, Pt.locs, Pt.cells, Pt.slots] at X' e1 e2 h1 h2 h3 st hcl
    subst h1; subst h2; subst h3
    exact Or.inr ⟨q, (T.setVm vm₁).calling g' mk (Value.ref b :: As).toArray, t, U', L, E, ce, hT, X', hL, e1, e2, hq, hce, hcv, vx_cls hW₁ hcl, st⟩
theorem vx_runS (S : CallFix p m c cc nL s args Ts own) (hM : vx_Met l y ws rm Pc Qc XC mc ms free) (cw : CallB R s args own index y bytes maxL ret ws rm mc ms n ∧ (Cond.static y).before args s = true) (hp : PreS s H Pc As)
    (hg : g.method = m) (hn : As.length = n) (hsize : g.locals.size = nL) (hstack : g.stack = As.reverse ++ rest) (hW : 2 * g.monitorRoom + (rest.map fun v => v.category).sum ≤ 8) (hdg : decode cc g.pc = .ok (.invokestatic index, 3)) (hf : cells + mc ≤ R.cells ∧ slots + ms ≤ R.slots) :
    vx_Run p l e R s m args below meth c H locs cells slots mc ms g rest (Qc As.toArray) XC free := by
  have hK : vx_Back l R p e below s args y 3 8 (PreOf R mc ms Pc) (PostOf Qc mc ms free) (vx_Post XC mc ms free) := vx_callBack cw.1 hM hp.1
  obtain ⟨⟨-, -, -, -, -, -, hcode, hini, hy, hlen, hl⟩, hstt⟩ := cw
  obtain ⟨hx, hb, hml, ho, -⟩ := S
  intro T hT X
  rcases vx_callS X hx (bytes := bytes) (maxL := maxL) (ret := ret) ho hl hstt hini hcode hy hK hg (hsize.trans hml.symm) (argsL := As) (rest := rest) (fun sig h => hn.trans (hlen sig h)) hstack hW (by rw [hb]; exact hdg)
    (fun vm₁ hW₁ => ⟨hf.1, hf.2, hp.2 (T.setVm vm₁) hT hW₁⟩) with ⟨v, vm₁, ⟨U', l2, c2, s2⟩, hW₁, X', ⟨g', mk, t, L, e1, e2, hq, h1, hL, h2, h3⟩, st⟩ | ⟨q, vm₁, ⟨U', l2, c2, s2⟩, hW₁, X', ⟨g', mk, t, L, E, ce, e1, e2, hq, hce, hcv, hcl, h1, hL, h2, h3⟩, st⟩
  · dsimp only [Pt.U, Pt.locs, Pt.cells, Pt.slots] at X' e1 e2 h1 h2 h3 st
    subst h1; subst h2; subst h3
    exact Or.inl ⟨v, (T.setVm vm₁).calling g' mk As.toArray, t, U', L, hT, X', hL, e1, e2, hq, st⟩
  · dsimp only [Pt.U, Pt.locs, Pt.cells, Pt.slots] at X' e1 e2 h1 h2 h3 st hcl
    subst h1; subst h2; subst h3
    exact Or.inr ⟨q, (T.setVm vm₁).calling g' mk As.toArray, t, U', L, E, ce, hT, X', hL, e1, e2, hq, hce, hcv, vx_cls hW₁ hcl, st⟩
end Runs
section Rows
variable {p : Program} {l : Launch} {e : Env} {R : Room} {s : State} {m : MethodId} {args : Array Value} {below : List Frame} {meth : Method} {c : Code} {H : Heap} {locs : List Loc} {cells slots : Nat} {Q : State → Prop}
variable {mc ms : Nat} {free : Addr → Prop} {A0 A1 : Nat → Prop} {H0 : Heap} {a : Array Value} {pc : Nat} {ls : Array Slot} {st0 rest : List Value}
theorem vx_keep {st₀ t T' : State} {L : List Loc} (h0 : st₀.heap = H) (e1 : T'.heap = t.heap) (hS : va_S A0 H0 H locs) (hA : ∀ q, q < H.size → A1 q → A0 q) (hf : ∀ q, free q → A0 q) (hL : ∀ q ∈ L, free q.base) (hF : va_F A1 st₀ t) :
    H.size ≤ T'.heap.size ∧ (∀ q : Nat, q < H.size → ¬ A1 q → T'.heap[q]? = H[q]?) ∧ va_S A0 H0 T'.heap (locs ++ L) := by
  obtain ⟨hz, hk⟩ := hF
  rw [h0] at hz hk
  exact ⟨by rw [e1]; exact hz, fun q h1 h2 => by rw [e1]; exact hk q h1 h2,
    ⟨Nat.le_trans hS.1 (by rw [e1]; exact hz), fun q h1 h2 => by rw [e1, hk q (Nat.lt_of_lt_of_le h1 hS.1) (fun z => h2 (hA q (Nat.lt_of_lt_of_le h1 hS.1) z))]; exact hS.2.1 q h1 h2, fun q hq => by
      rcases List.mem_append.mp hq with h | h
      · exact hS.2.2 q h
      · exact hf _ (hL q h)⟩⟩
theorem vx_calli {S SX : Type} {post : Int32 → S → Prop} {px : SX → Prop} {B : S → State → Prop} {BX : String → SX → State → Prop} {AX : Nat → Prop} (hr : vx_Run p l e R s m args below meth c H locs cells slots mc ms (F0 m pc ls st0) rest (va_Qi post B A1 a) (vx_X px BX AX) free) (hS : va_S A0 H0 H locs) (hA : ∀ q, q < H.size → A1 q → A0 q) (hf : ∀ q, free q → A0 q) (hAX : ∀ q, q < H.size → AX q → A0 q)
    (kx : ∀ (E : String) (ce : Cell) (q9 : Addr) (u : SX) (t : State) (H1 : Heap) (locs1 : List Loc), t.heap = H1 → s.vm.Alike t.vm → px u → BX E u t → H.size ≤ H1.size → (∀ q : Nat, q < H.size → ¬ AX q → H1[q]? = H[q]?) → va_S A0 H0 H1 locs1 → H1[q9]? = some ce → ce.vm = .none → s.vm.findClass E = some ce.cls → vx_W p l e R s m args below meth c H1 locs1 (cells + mc) (slots + ms) Q (F0 m pc ls rest) q9)
    (kk : ∀ (r : Int32) (u : S) (t : State) (H1 : Heap) (locs1 : List Loc), t.heap = H1 → s.vm.Alike t.vm → post r u → B u t → H.size ≤ H1.size → (∀ q : Nat, q < H.size → ¬ A1 q → H1[q]? = H[q]?) → va_S A0 H0 H1 locs1 → W p l e R s m args below meth c H1 locs1 (cells + mc) (slots + ms) Q (F0 m (pc + 3) ls (.int r :: rest))) : W p l e R s m args below meth c H locs cells slots Q (F0 m pc ls st0) := by
  intro T hT X
  rcases hr T hT X with ⟨v, st₀, t, T', L, h0, X', hL, e1, e2, ⟨⟨r, u, hv, hp, hb⟩, hF⟩, st⟩ | ⟨q, st₀, t, T', L, E, ce, h0, X', hL, e1, e2, ⟨u, hp, hb, hF⟩, hce, hcv, hcl, st⟩
  · cases hv
    obtain ⟨k1, k2, k3⟩ := vx_keep h0 e1 hS hA hf hL hF
    obtain ⟨t2, a1, b1⟩ := kk r u t T'.heap (locs ++ L) e1.symm (by rw [← e2]; exact X'.warmed.alike) hp hb k1 k2 k3 T' rfl X'
    exact ⟨t2, st t2 a1, b1⟩
  · obtain ⟨k1, k2, k3⟩ := vx_keep h0 e1 hS hAX hf hL hF
    obtain ⟨t2, a1, b1⟩ := kx E ce q u t T'.heap (locs ++ L) e1.symm (by rw [← e2]; exact X'.warmed.alike) hp hb k1 k2 k3 (by rw [e1]; exact hce) hcv hcl T' rfl X'
    exact ⟨t2, st.trans a1, b1⟩
theorem vx_calll {S SX : Type} {post : Int64 → S → Prop} {px : SX → Prop} {B : S → State → Prop} {BX : String → SX → State → Prop} {AX : Nat → Prop} (hr : vx_Run p l e R s m args below meth c H locs cells slots mc ms (F0 m pc ls st0) rest (va_Ql post B A1 a) (vx_X px BX AX) free) (hS : va_S A0 H0 H locs) (hA : ∀ q, q < H.size → A1 q → A0 q) (hf : ∀ q, free q → A0 q) (hAX : ∀ q, q < H.size → AX q → A0 q)
    (kx : ∀ (E : String) (ce : Cell) (q9 : Addr) (u : SX) (t : State) (H1 : Heap) (locs1 : List Loc), t.heap = H1 → s.vm.Alike t.vm → px u → BX E u t → H.size ≤ H1.size → (∀ q : Nat, q < H.size → ¬ AX q → H1[q]? = H[q]?) → va_S A0 H0 H1 locs1 → H1[q9]? = some ce → ce.vm = .none → s.vm.findClass E = some ce.cls → vx_W p l e R s m args below meth c H1 locs1 (cells + mc) (slots + ms) Q (F0 m pc ls rest) q9)
    (kk : ∀ (r : Int64) (u : S) (t : State) (H1 : Heap) (locs1 : List Loc), t.heap = H1 → s.vm.Alike t.vm → post r u → B u t → H.size ≤ H1.size → (∀ q : Nat, q < H.size → ¬ A1 q → H1[q]? = H[q]?) → va_S A0 H0 H1 locs1 → W p l e R s m args below meth c H1 locs1 (cells + mc) (slots + ms) Q (F0 m (pc + 3) ls (.long r :: rest))) : W p l e R s m args below meth c H locs cells slots Q (F0 m pc ls st0) := by
  intro T hT X
  rcases hr T hT X with ⟨v, st₀, t, T', L, h0, X', hL, e1, e2, ⟨⟨r, u, hv, hp, hb⟩, hF⟩, st⟩ | ⟨q, st₀, t, T', L, E, ce, h0, X', hL, e1, e2, ⟨u, hp, hb, hF⟩, hce, hcv, hcl, st⟩
  · cases hv
    obtain ⟨k1, k2, k3⟩ := vx_keep h0 e1 hS hA hf hL hF
    obtain ⟨t2, a1, b1⟩ := kk r u t T'.heap (locs ++ L) e1.symm (by rw [← e2]; exact X'.warmed.alike) hp hb k1 k2 k3 T' rfl X'
    exact ⟨t2, st t2 a1, b1⟩
  · obtain ⟨k1, k2, k3⟩ := vx_keep h0 e1 hS hAX hf hL hF
    obtain ⟨t2, a1, b1⟩ := kx E ce q u t T'.heap (locs ++ L) e1.symm (by rw [← e2]; exact X'.warmed.alike) hp hb k1 k2 k3 (by rw [e1]; exact hce) hcv hcl T' rfl X'
    exact ⟨t2, st.trans a1, b1⟩
theorem vx_callf {S SX : Type} {post : UInt32 → S → Prop} {px : SX → Prop} {B : S → State → Prop} {BX : String → SX → State → Prop} {AX : Nat → Prop} (hr : vx_Run p l e R s m args below meth c H locs cells slots mc ms (F0 m pc ls st0) rest (va_Qf post B A1 a) (vx_X px BX AX) free) (hS : va_S A0 H0 H locs) (hA : ∀ q, q < H.size → A1 q → A0 q) (hf : ∀ q, free q → A0 q) (hAX : ∀ q, q < H.size → AX q → A0 q)
    (kx : ∀ (E : String) (ce : Cell) (q9 : Addr) (u : SX) (t : State) (H1 : Heap) (locs1 : List Loc), t.heap = H1 → s.vm.Alike t.vm → px u → BX E u t → H.size ≤ H1.size → (∀ q : Nat, q < H.size → ¬ AX q → H1[q]? = H[q]?) → va_S A0 H0 H1 locs1 → H1[q9]? = some ce → ce.vm = .none → s.vm.findClass E = some ce.cls → vx_W p l e R s m args below meth c H1 locs1 (cells + mc) (slots + ms) Q (F0 m pc ls rest) q9)
    (kk : ∀ (r : UInt32) (u : S) (t : State) (H1 : Heap) (locs1 : List Loc), t.heap = H1 → s.vm.Alike t.vm → post r u → B u t → H.size ≤ H1.size → (∀ q : Nat, q < H.size → ¬ A1 q → H1[q]? = H[q]?) → va_S A0 H0 H1 locs1 → W p l e R s m args below meth c H1 locs1 (cells + mc) (slots + ms) Q (F0 m (pc + 3) ls (.float r :: rest))) : W p l e R s m args below meth c H locs cells slots Q (F0 m pc ls st0) := by
  intro T hT X
  rcases hr T hT X with ⟨v, st₀, t, T', L, h0, X', hL, e1, e2, ⟨⟨r, u, hv, hp, hb⟩, hF⟩, st⟩ | ⟨q, st₀, t, T', L, E, ce, h0, X', hL, e1, e2, ⟨u, hp, hb, hF⟩, hce, hcv, hcl, st⟩
  · cases hv
    obtain ⟨k1, k2, k3⟩ := vx_keep h0 e1 hS hA hf hL hF
    obtain ⟨t2, a1, b1⟩ := kk r u t T'.heap (locs ++ L) e1.symm (by rw [← e2]; exact X'.warmed.alike) hp hb k1 k2 k3 T' rfl X'
    exact ⟨t2, st t2 a1, b1⟩
  · obtain ⟨k1, k2, k3⟩ := vx_keep h0 e1 hS hAX hf hL hF
    obtain ⟨t2, a1, b1⟩ := kx E ce q u t T'.heap (locs ++ L) e1.symm (by rw [← e2]; exact X'.warmed.alike) hp hb k1 k2 k3 (by rw [e1]; exact hce) hcv hcl T' rfl X'
    exact ⟨t2, st.trans a1, b1⟩
theorem vx_calld {S SX : Type} {post : UInt64 → S → Prop} {px : SX → Prop} {B : S → State → Prop} {BX : String → SX → State → Prop} {AX : Nat → Prop} (hr : vx_Run p l e R s m args below meth c H locs cells slots mc ms (F0 m pc ls st0) rest (va_Qd post B A1 a) (vx_X px BX AX) free) (hS : va_S A0 H0 H locs) (hA : ∀ q, q < H.size → A1 q → A0 q) (hf : ∀ q, free q → A0 q) (hAX : ∀ q, q < H.size → AX q → A0 q)
    (kx : ∀ (E : String) (ce : Cell) (q9 : Addr) (u : SX) (t : State) (H1 : Heap) (locs1 : List Loc), t.heap = H1 → s.vm.Alike t.vm → px u → BX E u t → H.size ≤ H1.size → (∀ q : Nat, q < H.size → ¬ AX q → H1[q]? = H[q]?) → va_S A0 H0 H1 locs1 → H1[q9]? = some ce → ce.vm = .none → s.vm.findClass E = some ce.cls → vx_W p l e R s m args below meth c H1 locs1 (cells + mc) (slots + ms) Q (F0 m pc ls rest) q9)
    (kk : ∀ (r : UInt64) (u : S) (t : State) (H1 : Heap) (locs1 : List Loc), t.heap = H1 → s.vm.Alike t.vm → post r u → B u t → H.size ≤ H1.size → (∀ q : Nat, q < H.size → ¬ A1 q → H1[q]? = H[q]?) → va_S A0 H0 H1 locs1 → W p l e R s m args below meth c H1 locs1 (cells + mc) (slots + ms) Q (F0 m (pc + 3) ls (.double r :: rest))) : W p l e R s m args below meth c H locs cells slots Q (F0 m pc ls st0) := by
  intro T hT X
  rcases hr T hT X with ⟨v, st₀, t, T', L, h0, X', hL, e1, e2, ⟨⟨r, u, hv, hp, hb⟩, hF⟩, st⟩ | ⟨q, st₀, t, T', L, E, ce, h0, X', hL, e1, e2, ⟨u, hp, hb, hF⟩, hce, hcv, hcl, st⟩
  · cases hv
    obtain ⟨k1, k2, k3⟩ := vx_keep h0 e1 hS hA hf hL hF
    obtain ⟨t2, a1, b1⟩ := kk r u t T'.heap (locs ++ L) e1.symm (by rw [← e2]; exact X'.warmed.alike) hp hb k1 k2 k3 T' rfl X'
    exact ⟨t2, st t2 a1, b1⟩
  · obtain ⟨k1, k2, k3⟩ := vx_keep h0 e1 hS hAX hf hL hF
    obtain ⟨t2, a1, b1⟩ := kx E ce q u t T'.heap (locs ++ L) e1.symm (by rw [← e2]; exact X'.warmed.alike) hp hb k1 k2 k3 (by rw [e1]; exact hce) hcv hcl T' rfl X'
    exact ⟨t2, st.trans a1, b1⟩
theorem vx_callv {S SX : Type} {post : S → Prop} {px : SX → Prop} {B : S → State → Prop} {BX : String → SX → State → Prop} {AX : Nat → Prop} (hr : vx_Run p l e R s m args below meth c H locs cells slots mc ms (F0 m pc ls st0) rest (va_Qv post B A1 a) (vx_X px BX AX) free) (hS : va_S A0 H0 H locs) (hA : ∀ q, q < H.size → A1 q → A0 q) (hf : ∀ q, free q → A0 q) (hAX : ∀ q, q < H.size → AX q → A0 q)
    (kx : ∀ (E : String) (ce : Cell) (q9 : Addr) (u : SX) (t : State) (H1 : Heap) (locs1 : List Loc), t.heap = H1 → s.vm.Alike t.vm → px u → BX E u t → H.size ≤ H1.size → (∀ q : Nat, q < H.size → ¬ AX q → H1[q]? = H[q]?) → va_S A0 H0 H1 locs1 → H1[q9]? = some ce → ce.vm = .none → s.vm.findClass E = some ce.cls → vx_W p l e R s m args below meth c H1 locs1 (cells + mc) (slots + ms) Q (F0 m pc ls rest) q9)
    (kk : ∀ (u : S) (t : State) (H1 : Heap) (locs1 : List Loc), t.heap = H1 → s.vm.Alike t.vm → post u → B u t → H.size ≤ H1.size → (∀ q : Nat, q < H.size → ¬ A1 q → H1[q]? = H[q]?) → va_S A0 H0 H1 locs1 → W p l e R s m args below meth c H1 locs1 (cells + mc) (slots + ms) Q (F0 m (pc + 3) ls (rest))) : W p l e R s m args below meth c H locs cells slots Q (F0 m pc ls st0) := by
  intro T hT X
  rcases hr T hT X with ⟨v, st₀, t, T', L, h0, X', hL, e1, e2, ⟨⟨u, hv, hp, hb⟩, hF⟩, st⟩ | ⟨q, st₀, t, T', L, E, ce, h0, X', hL, e1, e2, ⟨u, hp, hb, hF⟩, hce, hcv, hcl, st⟩
  · cases hv
    obtain ⟨k1, k2, k3⟩ := vx_keep h0 e1 hS hA hf hL hF
    obtain ⟨t2, a1, b1⟩ := kk u t T'.heap (locs ++ L) e1.symm (by rw [← e2]; exact X'.warmed.alike) hp hb k1 k2 k3 T' rfl X'
    exact ⟨t2, st t2 a1, b1⟩
  · obtain ⟨k1, k2, k3⟩ := vx_keep h0 e1 hS hAX hf hL hF
    obtain ⟨t2, a1, b1⟩ := kx E ce q u t T'.heap (locs ++ L) e1.symm (by rw [← e2]; exact X'.warmed.alike) hp hb k1 k2 k3 (by rw [e1]; exact hce) hcv hcl T' rfl X'
    exact ⟨t2, st.trans a1, b1⟩
/-- caught by the row x of this method's table; the rows ahead don't take it -/
theorem vx_catch {own name : String} {E : String} {ce : Cell} {q : Addr} (hown : s.vm.findClass own = some m.cls) (pre : List ExceptionTableEntry) (x : ExceptionTableEntry) (suf : List ExceptionTableEntry) (hsplit : c.exceptionTable.toList = pre ++ x :: suf)
    (hpass : ∀ z ∈ pre, covers z pc = false ∨ (z.catchType ≠ 0 ∧ ∃ nm : String, (Cond.classLink own z.catchType nm).before args s = true ∧ va_Nc E nm s)) (hx : covers x pc = true) (h0 : x.catchType ≠ 0)
    (hlink : (Cond.classLink own x.catchType name).before args s = true) (hcast : (Cond.castable E name).before args s = true) (hcell : H[q]? = some ce) (hv : ce.vm = .none) (hcl : s.vm.findClass E = some ce.cls)
    (kk : W p l e R s m args below meth c H locs cells slots Q (F0 m x.handlerPc ls [.ref q])) : vx_W p l e R s m args below meth c H locs cells slots Q (F0 m pc ls rest) q := by
  intro T hT X
  have hpl : e.platform.magicAccessors = ({} : Platform).magicAccessors := by rw [X.admits.platform]
  obtain ⟨c3, c4, hc3, hc4, hasg⟩ := Cond.castable_spec hcast
  cases Option.some.inj (hc3.symm.trans hcl)
  obtain ⟨c5, hc5, hcl5⟩ := Cond.classLink_spec hown hlink e.platform hpl
  cases Option.some.inj (hc4.symm.trans hc5)
  obtain ⟨vm', X', st⟩ := X.thenCaughtThrough q (g := F0 m pc ls rest) rfl (Steps.refl _) (by rw [hT]; exact hcell) (by rw [hv]; rfl) (by obtain ⟨k9, h9, -⟩ := Vm.findClass_spec hcl; exact ⟨k9, h9⟩) pre x suf hsplit
    (fun z hz => by
      rcases hpass z hz with h | ⟨hz0, nm, hl1, hn1⟩
      · exact Or.inl h
      · obtain ⟨c6, hc6, hcl6⟩ := Cond.classLink_spec hown hl1 e.platform hpl
        obtain ⟨a8, b8, h1, h2, h3⟩ := hn1
        cases Option.some.inj (h1.symm.trans hcl)
        cases Option.some.inj (h2.symm.trans hc6)
        exact Or.inr ⟨hz0, _, hcl6, h3⟩) hx (Or.inr ⟨h0, c4, hcl5, hasg⟩)
  obtain ⟨t, a1, b1⟩ := kk (T.setVm vm') hT X'
  exact ⟨t, st.trans a1, b1⟩
end Rows
section Ends
variable {p : Program} {l : Launch} {e : Env} {R : Room} {s : State} {m : MethodId} {args : Array Value} {below : List Frame} {meth : Method} {c : Code} {H : Heap} {locs : List Loc} {cells slots : Nat} {Q : State → Prop}
variable {mc ms : Nat} {free : Addr → Prop} {A0 A1 : Nat → Prop} {H0 : Heap} {a : Array Value} {ls : Array Slot} {st0 rest : List Value}
variable {Qc : Array Value → State → Outcome → State → Prop} {XC : String → State → State → Prop}
/-- what a body that may throw owes at its end -/
def vx_MQ (below : List Frame) (Qc : Array Value → State → Outcome → State → Prop) (XC : String → State → State → Prop) (a : Array Value) (s : State) (mc ms : Nat) (free : Addr → Prop) : State → Prop := fun t =>
  ∃ o, t.status = .running ∧ Ended t below o ∧ vx_Q Qc XC mc ms free a s o t
theorem vx_ret {g : JFrame} {mc ms : Nat} (k : W p l e R s m args below meth c H locs cells slots (MQ below Qc args s mc ms free) g) : W p l e R s m args below meth c H locs cells slots (vx_MQ below Qc XC args s mc ms free) g := by
  intro T hT X
  obtain ⟨t, a1, o, b1, b2, b3, b4⟩ := k T hT X
  exact ⟨t, a1, o, b1, b2, Or.inl ⟨b3, b4⟩⟩
/-- not caught here: it goes on to the caller -/
theorem vx_widen {g : JFrame} {q : Addr} {k n : Nat} (h1 : cells ≤ k) (h2 : slots ≤ n) (kk : vx_W p l e R s m args below meth c H locs k n Q g q) : vx_W p l e R s m args below meth c H locs cells slots Q g q := fun T hT X => kk T hT (stand_widen X h1 h2)
theorem vx_out {pc : Nat} {E : String} {ce : Cell} {q : Addr} {mc ms : Nat} (hout : ∀ x ∈ c.exceptionTable.toList, covers x pc = false) (hlocks : meth.locks = false) (hcell : H[q]? = some ce) (hv : ce.vm = .none) (hcl : s.vm.findClass E = some ce.cls)
    (hx : ∀ t : State, t.heap = H → s.vm.Alike t.vm → XC E s t) (hf : ∀ z ∈ locs, free z.base) (hc : cells ≤ mc) (hs : slots ≤ ms) :
    vx_W p l e R s m args below meth c H locs cells slots (vx_MQ below Qc XC args s mc ms free) (F0 m pc ls rest) q := by
  intro T hT X
  obtain ⟨st1, hrun, hend, hW, hsm⟩ := X.leaveThrown q (g := F0 m pc ls rest) rfl rfl rfl hout hlocks
  have hcell9 : (T.setFrames (.throwing q :: below)).heap[q]? = some ce := by
    show T.heap[q]? = some ce
    rw [hT]; exact hcell
  exact ⟨_, st1, .threw q, hrun, hend, Or.inr ⟨q, rfl, E, ce, locs, hx _ hT hW.alike, hcell9, hv, hcl, hW, hsm.mono hc hs, hf⟩⟩
theorem vx_frame {U : State} {k n : Nat} (h : s.sameButNew ({ U with vm := s.vm } : State) locs k n) : s.heap.size ≤ U.heap.size ∧ ∀ q : Nat, q < s.heap.size → (∀ z ∈ locs, z.base ≠ q) → U.heap[q]? = s.heap[q]? := by
  obtain ⟨-, h2, -, -, -, h6⟩ := h
  refine ⟨h2, fun q hq hz => ?_⟩
  obtain ⟨c9, e1, e2, e3, e4⟩ := h6 q _ (Array.getElem?_eq_getElem hq)
  have hs : c9.slots = (s.heap[q]).slots := Array.ext_getElem? fun i => e4 i fun hm => hz _ hm rfl
  have h9 : c9 = s.heap[q] := by
    rw [hs] at e2
    exact e2
  have e5 : U.heap[q]? = some c9 := e1
  rw [e5, h9, Array.getElem?_eq_getElem hq]
/-- the words of a throw but the four that speak of the heap -/
def vx_no (w : Cond) : Bool := decide (w ≠ .isRef (.static Bundle.tN "UNASSIGNED_STACK" Bundle.steD)) && decide (w ≠ .isRef (.static Bundle.tN "SUPPRESSED_SENTINEL" Bundle.listD)) && decide (w ≠ .laysStatic Bundle.tN "UNASSIGNED_STACK" Bundle.steD) && decide (w ≠ .laysStatic Bundle.tN "SUPPRESSED_SENTINEL" Bundle.listD)
def vx_at0 (own : String) (ic : Nat) (X : String) (names : List String) : List Cond := (Bundle.ownAtoms0 own ic X names).filter vx_no
def vx_atS (own : String) (ic : Nat) (X : String) (names : List String) : List Cond := (Bundle.ownAtoms own ic X names).filter vx_no
/-- a word that the tables alone decide, or a good one -/
def vx_ot (w : Cond) : Bool := w.onTables || goodWord w
theorem vx_ot_at {args a' : Array Value} {s U : State} {w : Cond} (hW : s.WarmedH U.vm) (hvm : s.vm = U.vm) (hg : vx_ot w = true) (h : w.before args s = true) : w.before a' U = true := by
  simp only [vx_ot, Bool.or_eq_true] at hg
  rcases hg with hg | hg
  · exact va_tabs hg hvm h
  · exact word_at hW (good_of_word hg) h
/-- a list's words: the good ones out of the method's own list, the others by premises of their own -/
theorem vx_hat {args : Array Value} {s : State} {L B : List Cond} (h1 : ∀ w ∈ L.filter goodWord, w.before args s = true) (h2 : ∀ w ∈ L.filter (fun w => !goodWord w), w ∈ B) (h3 : ∀ w ∈ B, w.before args s = true) : ∀ w ∈ L, w.before args s = true := by
  intro w hw
  by_cases g : goodWord w = true
  · exact h1 w (List.mem_filter.mpr ⟨hw, g⟩)
  · refine h3 w (h2 w (List.mem_filter.mpr ⟨hw, ?_⟩))
    show (!goodWord w) = true
    cases hgw : goodWord w
    · rfl
    · exact absurd hgw g
theorem vx_c {args : Array Value} {s : State} {w : Cond} {B : List Cond} (h : w.before args s = true) (t : ∀ w ∈ B, w.before args s = true) : ∀ w' ∈ w :: B, w'.before args s = true := fun w' h' => (List.mem_cons.mp h').elim (fun e => by rw [e]; exact h) (t w')
theorem vx_n {args : Array Value} {s : State} : ∀ w ∈ ([] : List Cond), w.before args s = true := fun _ h => nomatch h
theorem vx_own {args : Array Value} {s : State} {L : List Cond} (h1 : ∀ w ∈ L.filter vx_no, w.before args s = true)
    (hU : (Cond.isRef (.static Bundle.tN "UNASSIGNED_STACK" Bundle.steD)).before args s = true) (hN : (Cond.isRef (.static Bundle.tN "SUPPRESSED_SENTINEL" Bundle.listD)).before args s = true)
    (lU : (Cond.laysStatic Bundle.tN "UNASSIGNED_STACK" Bundle.steD).before args s = true) (lN : (Cond.laysStatic Bundle.tN "SUPPRESSED_SENTINEL" Bundle.listD).before args s = true) : ∀ w ∈ L, w.before args s = true := by
  intro w hw
  by_cases e1 : w = .isRef (.static Bundle.tN "UNASSIGNED_STACK" Bundle.steD)
  · rw [e1]; exact hU
  · by_cases e2 : w = .isRef (.static Bundle.tN "SUPPRESSED_SENTINEL" Bundle.listD)
    · rw [e2]; exact hN
    · by_cases e3 : w = .laysStatic Bundle.tN "UNASSIGNED_STACK" Bundle.steD
      · rw [e3]; exact lU
      · by_cases e4 : w = .laysStatic Bundle.tN "SUPPRESSED_SENTINEL" Bundle.listD
        · rw [e4]; exact lN
        · exact h1 w (List.mem_filter.mpr ⟨hw, by unfold vx_no; rw [decide_eq_true e1, decide_eq_true e2, decide_eq_true e3, decide_eq_true e4]; rfl⟩)
/-- where a static field lies, its class's statics cell in H -/
def vx_L (C n d : String) (A : Nat → Prop) (U : State) (H : Heap) : Prop := ∃ (c : ClassId) (k : Class) (i : Nat) (f : Field) (a : Nat) (cell : Cell), U.vm.findClass C = some c ∧ U.fieldFound? C n d = some (c, k, i, f) ∧ f.isStatic = true ∧ k.statics = some a ∧ H[a]? = some cell ∧ cell.vm.isStatics = true ∧ cell.cls = c ∧ f.slot < cell.slots.size ∧ k.staticTypes[f.slot]? = some f.type ∧ ¬ A a
theorem vx_L.moved {C n d : String} {A : Nat → Prop} {u U : State} {H : Heap} (hvm : u.vm.Alike U.vm) (h : vx_L C n d A u H) : vx_L C n d A U H := by
  obtain ⟨c, k, i, f, a, cell, h1, h2, h3, h4, h5, h6, h7, h8, h9, h10⟩ := h
  obtain ⟨k', hi', he⟩ := State.fieldFound?_setVm hvm h2
  exact ⟨c, k', i, f, a, cell, by rw [hvm.findClass]; exact h1, hi', h3, by rw [he]; exact h4, h5, h6, h7, h8, by rw [he]; exact h9, h10⟩
theorem vx_L.kept {C n d : String} {A : Nat → Prop} {U : State} {H H1 : Heap} (h : vx_L C n d A U H) (hq : ∀ a : Nat, a < H.size → ¬ A a → H1[a]? = H[a]?) : vx_L C n d A U H1 := by
  obtain ⟨c, k, i, f, a, cell, h1, h2, h3, h4, h5, h6, h7, h8, h9, h10⟩ := h
  exact ⟨c, k, i, f, a, cell, h1, h2, h3, h4, by rw [hq a (Array.getElem?_eq_some_iff.mp h5).1 h10]; exact h5, h6, h7, h8, h9, h10⟩
theorem vx_L.narrow {C n d : String} {A B : Nat → Prop} {U : State} {H : Heap} (h : vx_L C n d A U H) (hAB : ∀ q, B q → A q) : vx_L C n d B U H := by
  obtain ⟨c, k, i, f, a, cell, h1, h2, h3, h4, h5, h6, h7, h8, h9, h10⟩ := h
  exact ⟨c, k, i, f, a, cell, h1, h2, h3, h4, h5, h6, h7, h8, h9, fun z => h10 (hAB _ z)⟩
theorem vx_L.word {C n d : String} {A : Nat → Prop} {s : State} {args : Array Value} (h : vx_L C n d A s s.heap) : (Cond.laysStatic C n d).before args s = true := by
  obtain ⟨c, k, i, f, a, cell, h1, h2, h3, h4, h5, h6, h7, h8, h9, -⟩ := h
  show (Cond.laysStatic C n d).holds args s none s [] = true
  exact Cond.laysStatic_of h1 h2 h3 h4 h5 h6 h7 h8 h9
/-- .. and what it holds: null or some reference -/
def vx_Zq (C n d : String) (A : Nat → Prop) (U : State) (H : Heap) : Prop := va_Zq C n d A U H ∧ vx_L C n d A U H
theorem vx_Zq.moved {C n d : String} {A : Nat → Prop} {u U : State} {H : Heap} (hvm : u.vm.Alike U.vm) (h : vx_Zq C n d A u H) : vx_Zq C n d A U H := ⟨va_Zq.moved hvm h.1, vx_L.moved hvm h.2⟩
theorem vx_Zq.kept {C n d : String} {A : Nat → Prop} {U : State} {H H1 : Heap} (h : vx_Zq C n d A U H) (hq : ∀ a : Nat, a < H.size → ¬ A a → H1[a]? = H[a]?) : vx_Zq C n d A U H1 := ⟨va_Zq.kept h.1 hq, vx_L.kept h.2 hq⟩
theorem vx_Zq.narrow {C n d : String} {A B : Nat → Prop} {U : State} {H : Heap} (h : vx_Zq C n d A U H) (hAB : ∀ q, B q → A q) : vx_Zq C n d B U H := ⟨va_Zq.narrow h.1 hAB, vx_L.narrow h.2 hAB⟩
theorem vx_Zqof {args : Array Value} {s : State} {C n d : String} {A : Nat → Prop} (hl : (Cond.laysStatic C n d).before args s = true) (hini : (Cond.initialized C).before args s = true) (h : (Cond.isRef (.static C n d)).before args s = true) (hA : ∀ a : Nat, a < s.heap.size → ¬ A a) : vx_Zq C n d A s s.heap := by
  refine ⟨va_Zqof hl hini h hA, ?_⟩
  obtain ⟨c, k, i, f, a, cell, h1, h2, h3, h4, h5, h6, h7, h8, h9⟩ := Cond.laysStatic_spec hl
  exact ⟨c, k, i, f, a, cell, h1, h2, h3, h4, h5, h6, h7, h8, h9, hA a (Array.getElem?_eq_some_iff.mp h5).1⟩
theorem vx_isRef {C n d : String} {v : Value} {A : Nat → Prop} {s : State} {args : Array Value} (h : va_Z C n d v A s s.heap) (hv : v.isRef = true) : (Cond.isRef (.static C n d)).before args s = true := by
  obtain ⟨cf, kf, fi, f, a, cell, h1, h2, h3, h4, h5, h6, h7, -⟩ := h
  have he : (Term.static C n d).eval args s none [] s = some v := by
    simp [Term.eval, State.fieldNamed?, h1, h2, h4, h5, h6, h7]
  simp only [Cond.before, Cond.holds, Cond.value, he]
  cases v <;> simp_all [Value.isRef]
theorem vx_isRefq {C n d : String} {A : Nat → Prop} {s : State} {args : Array Value} (h : va_Zq C n d A s s.heap) : (Cond.isRef (.static C n d)).before args s = true := by
  rcases h with h | ⟨t, h⟩
  · exact vx_isRef h rfl
  · exact vx_isRef h rfl
/-- the same frame, seen from here: as if the method were called anew in this heap -/
theorem vx_rebase {T : State} (X : Stand p l e R s m args below meth c T locs cells slots) {R' : Room} (hf : R'.frames ≤ R.frames) (hl : R'.locals ≤ R.locals) (hc : cells + R'.cells ≤ R.cells) (hs : slots + R'.slots ≤ R.slots) :
    Stand p l e R' ((T.setVm s.vm).setFrames (.invoking m args :: below)) m args below meth c T [] 0 0 := by
  have htop : (T.setVm s.vm).topJava?.isSome := X.here.top
  have hF : ((T.setVm s.vm).setFrames (.invoking m args :: below)).frames = .invoking m args :: below := State.frames_setFrames _ (State.cur_lt_of_top htop)
  obtain ⟨g₀, hg0⟩ := Option.isSome_iff_exists.mp htop
  obtain ⟨r, hr⟩ := State.topJava?_eq_some.mp hg0
  have hl9 : e.platform.stackLimits (T.setVm s.vm).me = e.platform.stackLimits s.me := X.limits
  have hb9 : (T.setVm s.vm).me.stackBytes = s.me.stackBytes := X.bytes
  refine ⟨X.admits, X.cas, X.clock, hF, ?_, X.hears, X.method, X.code, X.here, X.tail, X.warmed, ?_, ?_, ?_⟩
  · have h := X.room
    have hU : ((T.setVm s.vm).setFrames (.invoking m args :: below)).localsInUse = s.localsInUse := by
      rw [State.localsInUse_invoking hF (meth := meth) (c := c) X.method X.code, State.localsInUse_invoking X.frames X.method X.code]
    simp only [State.hasRoom, Bool.and_eq_true, decide_eq_true_eq] at h ⊢
    obtain ⟨⟨⟨⟨h1, h2, h3, h4, h5, h6⟩, h7⟩, h8⟩, h9⟩ := h
    rw [X.frames, List.length_cons] at h2 h3
    have q1 := X.heapSize
    have q2 := X.used
    simp only [hF, hU, List.length_cons, State.stackLimits_setFrames, State.stackBytes_setFrames, hl9, hb9]
    refine ⟨⟨⟨⟨by omega, by omega, by omega, by omega, by omega, h6⟩, ?_⟩, ?_⟩, X.book⟩
    · show T.heap.size + R'.cells ≤ e.platform.maxCells
      omega
    · show T.slotsUsed + R'.slots ≤ e.platform.maxSlots
      omega
  · rw [State.stackLimits_setFrames]; rfl
  · rw [State.stackBytes_setFrames]; rfl
  · refine ⟨?_, Nat.le_refl _, Nat.le_refl _, ?_, ?_, fun a c9 h9 => ⟨c9, h9, rfl, rfl, fun _ _ => rfl⟩⟩
    · obtain ⟨t, ht, -⟩ := State.frames_cons hr
      show T.setVm s.vm = { ((T.setVm s.vm).setFrames (.invoking m args :: below)).setFrames (T.setVm s.vm).frames with heap := T.heap, slotsUsed := T.slotsUsed }
      rw [State.setFrames_setFrames, State.setFrames_self ht]
      rfl
    · show T.slotsUsed = T.slotsUsed + ((T.heap.toList.drop T.heap.size).map (·.slots.size)).sum
      rw [List.drop_eq_nil_of_le (Nat.le_of_eq Array.length_toList)]
      rfl
    · show ((T.heap.toList.drop T.heap.size).map (·.slots.size)).sum ≤ 0
      rw [List.drop_eq_nil_of_le (Nat.le_of_eq Array.length_toList)]
      exact Nat.le_refl _
/-- 'throw new E()': new; dup; invokespecial; athrow -/
theorem vx_throw0 {cc : ByteArray} {pc : Nat} (hexec : p.tables.exec = Jvm.exec) (hb : c.code = cc) (hl : l.stackTraces = false) {own cls : String} {names : List String} {ik ic mc ms : Nat} {A : Nat → Prop}
    (hown : s.vm.findClass own = some m.cls) (hcls : Bundle.fit cls = true) (hnames : ∀ n ∈ names, Bundle.fit n = true)
    (hk : (Cond.classLink own ik cls).before args s = true) (hini : (Cond.initialized cls).before args s = true) (hat : ∀ w ∈ vx_at0 own ic cls names, w.before args s = true)
    (hgood : ∀ w ∈ Cond.classLink own ik cls :: Cond.initialized cls :: vx_at0 own ic cls names, vx_ot w = true)
    (hU : vx_Zq Bundle.tN "UNASSIGNED_STACK" Bundle.steD A s s.heap) (hN : vx_Zq Bundle.tN "SUPPRESSED_SENTINEL" Bundle.listD A s s.heap) (hS : va_S A s.heap H locs) (hsize : ls.size = c.maxLocals)
    (d0 : decode cc pc = .ok (.new ik, 3)) (d3 : decode cc (pc + 3) = .ok (.dup, 1)) (d4 : decode cc (pc + 4) = .ok (.invokespecial ic, 3)) (d7 : decode cc (pc + 7) = .ok (.athrow, 1))
    (hout : ∀ x ∈ c.exceptionTable.toList, covers x (pc + 7) = false)
    (hRframes : names.length + 3 < R.frames) (hRlocals : (rest.map fun v => v.category).sum + (13 * (names.length + 1) + 42) ≤ R.locals) (hRcells : cells + 1 ≤ R.cells) (hRslots : slots + 6 ≤ R.slots) (hlocks : meth.locks = false)
    (hx : ∀ t : State, s.vm.Alike t.vm → H.size ≤ t.heap.size → (∀ q : Nat, q < H.size → t.heap[q]? = H[q]?) → XC cls s t)
    (hf : ∀ z ∈ locs, free z.base) (hc : cells + 1 ≤ mc) (hs : slots + 6 ≤ ms) :
    W p l e R s m args below meth c H locs cells slots (vx_MQ below Qc XC args s mc ms free) (F0 m pc ls rest) := by
  intro T hT X
  have htr : e.platform.stackTraces = false := (show e.platform.stackTraces = l.stackTraces by rw [X.admits.platform]).trans hl
  have Y := vx_rebase X (R' := { frames := R.frames, locals := R.locals, cells := 1, slots := 6 }) (Nat.le_refl _) (Nat.le_refl _) hRcells hRslots
  obtain ⟨s', hA⟩ : ∃ z, z = (T.setVm s.vm).setFrames (.invoking m args :: below) := ⟨_, rfl⟩
  rw [← hA] at Y
  have hvm : s'.vm = s.vm := by rw [hA]; rfl
  have hhp : s'.heap = H := by rw [hA]; exact hT
  have hW0 : s.WarmedH s'.vm := by rw [hvm]; exact State.WarmedH.refl s
  have hat' : ∀ w ∈ vx_at0 own ic cls names, w.before args s' = true := fun w hw => vx_ot_at hW0 hvm.symm (hgood w (List.mem_cons_of_mem _ (List.mem_cons_of_mem _ hw))) (hat w hw)
  have hk' : (Cond.classLink own ik cls).before args s' = true := vx_ot_at hW0 hvm.symm (hgood _ List.mem_cons_self) hk
  have hini' : (Cond.initialized cls).before args s' = true := vx_ot_at hW0 hvm.symm (hgood _ (List.mem_cons_of_mem _ List.mem_cons_self)) hini
  have hU' : vx_Zq Bundle.tN "UNASSIGNED_STACK" Bundle.steD A s' s'.heap := by rw [hhp]; exact vx_Zq.moved hW0.alike (hU.kept hS.2.1)
  have hN' : vx_Zq Bundle.tN "SUPPRESSED_SENTINEL" Bundle.listD A s' s'.heap := by rw [hhp]; exact vx_Zq.moved hW0.alike (hN.kept hS.2.1)
  have h : ∀ w ∈ Bundle.ownAtoms0 own ic cls names, w.before args s' = true := vx_own hat' (vx_isRefq hU'.1) (vx_isRefq hN'.1) hU'.2.word hN'.2.word
  have hown' : s'.vm.findClass own = some m.cls := by rw [hvm]; exact hown
  have hins : (Cond.instantiable cls 6).before args s' = true := h _ (by simp [Bundle.ownAtoms0])
  obtain ⟨vm₁, cX, kX, hfX, hkX, -, -, X₁, st1⟩ := Y.newCold hexec (own := own) (C := cls) (index := ik) (n := 6) hown' hk' hins hini'
    (g := F0 m pc ls rest) rfl (by rw [hb]; exact d0) (Nat.le_refl _) (Nat.le_refl _)
  generalize hT1 : (T.setVm vm₁).pushCell { cls := cX, slots := kX.instanceTypes.map defaultValue, vm := .none } = T1 at X₁ st1
  have hcat : (Value.ref T.heap.size).category = 1 := rfl
  have hcellA : T1.heap[T.heap.size]? = some (freshCell cX kX) := by rw [← hT1]; exact State.heap_pushCell_size _ _
  have d3' : decode c.code (pc + 3) = .ok (.dup, 1) := by rw [hb]; exact d3
  obtain ⟨U, hsteps, hrun, hend, hW, hsame, ce, hce, hO⟩ := X₁.ctorThrow0 hexec htr (own := own) (cls := cls) (names := names) (ic := ic) hown' hcls hnames h (fun x hx => nomatch hx) hfX hkX hcellA (by rw [hhp, hT]; exact Nat.le_refl _)
    (g := { method := m, pc := pc + 4, locals := ls, stack := .ref T.heap.size :: .ref T.heap.size :: rest, locked := none }) rfl hsize rfl rfl (rest := rest) rfl
    (by rw [hb]; exact d4) (by rw [hb]; exact d7) hout hRframes (by simp only [List.map_cons, List.sum_cons, hcat]; omega) hlocks
  obtain ⟨f1, f2⟩ := vx_frame hsame
  rw [hhp] at f1 f2
  have hWs : s.WarmedH U.vm := State.WarmedH.trans hW0 hW
  have hcl : s.vm.findClass cls = some ce.cls := by
    have h9 := hO.cls
    rw [hvm] at h9
    exact h9
  have hall : s.sameButNew ({ U with vm := s.vm } : State) locs mc ms := by
    subst hA
    obtain ⟨e1, e2⟩ := hsame
    rw [State.setFrames_setFrames] at e1
    have h2 : (T.setVm s.vm).sameButNew ({ U with vm := s.vm } : State) [] (0 + 1) (0 + 6) := ⟨e1, e2⟩
    have h3 := X.same.trans h2
    rw [List.append_nil] at h3
    exact h3.mono hc hs
  refine ⟨U, ?_, .threw T.heap.size, hrun, hend, Or.inr ⟨T.heap.size, rfl, cls, ce, locs, hx U hWs.alike f1 (fun q hq => f2 q hq (fun z hz => nomatch hz)), hce, hO.vm, hcl, hWs, hall, hf⟩⟩
  refine st1 _ ?_
  show Steps p.tables e below (T1.setTop { method := m, pc := pc + 3, locals := ls, stack := .ref T.heap.size :: rest, locked := none }) _
  jvm_step X₁.here [X₁.here.top, hexec, d3', Value.category]
  exact hsteps
/-- 'throw new E("text")': new; dup; ldc; invokespecial; athrow -/
theorem vx_throwS {cc : ByteArray} {pc : Nat} (hexec : p.tables.exec = Jvm.exec) (hb : c.code = cc) (hl : l.stackTraces = false) {own cls text : String} {names : List String} {ik is ic mc ms sa : Nat} {A : Nat → Prop}
    (hown : s.vm.findClass own = some m.cls) (hcls : Bundle.fit cls = true) (hnames : ∀ n ∈ names, Bundle.fit n = true)
    (hk : (Cond.classLink own ik cls).before args s = true) (hini : (Cond.initialized cls).before args s = true) (hstr : vk_R own is text sa s) (hat : ∀ w ∈ vx_atS own ic cls names, w.before args s = true)
    (hgood : ∀ w ∈ Cond.classLink own ik cls :: Cond.initialized cls :: vx_atS own ic cls names, vx_ot w = true)
    (hU : vx_Zq Bundle.tN "UNASSIGNED_STACK" Bundle.steD A s s.heap) (hN : vx_Zq Bundle.tN "SUPPRESSED_SENTINEL" Bundle.listD A s s.heap) (hS : va_S A s.heap H locs) (hsize : ls.size = c.maxLocals)
    (d0 : decode cc pc = .ok (.new ik, 3)) (d3 : decode cc (pc + 3) = .ok (.dup, 1)) (d4 : decode cc (pc + 4) = .ok (.ldc is, 2)) (d6 : decode cc (pc + 6) = .ok (.invokespecial ic, 3)) (d9 : decode cc (pc + 9) = .ok (.athrow, 1))
    (hout : ∀ x ∈ c.exceptionTable.toList, covers x (pc + 9) = false)
    (hRframes : names.length + 3 < R.frames) (hRlocals : (rest.map fun v => v.category).sum + (13 * (names.length + 1) + 43) ≤ R.locals) (hRcells : cells + 1 ≤ R.cells) (hRslots : slots + 6 ≤ R.slots) (hlocks : meth.locks = false)
    (hx : ∀ t : State, s.vm.Alike t.vm → H.size ≤ t.heap.size → (∀ q : Nat, q < H.size → t.heap[q]? = H[q]?) → XC cls s t)
    (hf : ∀ z ∈ locs, free z.base) (hc : cells + 1 ≤ mc) (hs : slots + 6 ≤ ms) :
    W p l e R s m args below meth c H locs cells slots (vx_MQ below Qc XC args s mc ms free) (F0 m pc ls rest) := by
  intro T hT X
  have htr : e.platform.stackTraces = false := (show e.platform.stackTraces = l.stackTraces by rw [X.admits.platform]).trans hl
  have Y := vx_rebase X (R' := { frames := R.frames, locals := R.locals, cells := 1, slots := 6 }) (Nat.le_refl _) (Nat.le_refl _) hRcells hRslots
  obtain ⟨s', hA⟩ : ∃ z, z = (T.setVm s.vm).setFrames (.invoking m args :: below) := ⟨_, rfl⟩
  rw [← hA] at Y
  have hvm : s'.vm = s.vm := by rw [hA]; rfl
  have hhp : s'.heap = H := by rw [hA]; exact hT
  have hW0 : s.WarmedH s'.vm := by rw [hvm]; exact State.WarmedH.refl s
  have hat' : ∀ w ∈ vx_atS own ic cls names, w.before args s' = true := fun w hw => vx_ot_at hW0 hvm.symm (hgood w (List.mem_cons_of_mem _ (List.mem_cons_of_mem _ hw))) (hat w hw)
  have hk' : (Cond.classLink own ik cls).before args s' = true := vx_ot_at hW0 hvm.symm (hgood _ List.mem_cons_self) hk
  have hini' : (Cond.initialized cls).before args s' = true := vx_ot_at hW0 hvm.symm (hgood _ (List.mem_cons_of_mem _ List.mem_cons_self)) hini
  have hU' : vx_Zq Bundle.tN "UNASSIGNED_STACK" Bundle.steD A s' s'.heap := by rw [hhp]; exact vx_Zq.moved hW0.alike (hU.kept hS.2.1)
  have hN' : vx_Zq Bundle.tN "SUPPRESSED_SENTINEL" Bundle.listD A s' s'.heap := by rw [hhp]; exact vx_Zq.moved hW0.alike (hN.kept hS.2.1)
  have h : ∀ w ∈ Bundle.ownAtoms own ic cls names, w.before args s' = true := vx_own hat' (vx_isRefq hU'.1) (vx_isRefq hN'.1) hU'.2.word hN'.2.word
  have hown' : s'.vm.findClass own = some m.cls := by rw [hvm]; exact hown
  have hins : (Cond.instantiable cls 6).before args s' = true := h _ (by simp [Bundle.ownAtoms])
  obtain ⟨vm₁, cX, kX, hfX, hkX, -, -, X₁, st1⟩ := Y.newCold hexec (own := own) (C := cls) (index := ik) (n := 6) hown' hk' hins hini'
    (g := F0 m pc ls rest) rfl (by rw [hb]; exact d0) (Nat.le_refl _) (Nat.le_refl _)
  generalize hT1 : (T.setVm vm₁).pushCell { cls := cX, slots := kX.instanceTypes.map defaultValue, vm := .none } = T1 at X₁ st1
  have hcat : (Value.ref T.heap.size).category = 1 := rfl
  have hcellA : T1.heap[T.heap.size]? = some (freshCell cX kX) := by rw [← hT1]; exact State.heap_pushCell_size _ _
  have d3' : decode c.code (pc + 3) = .ok (.dup, 1) := by rw [hb]; exact d3
  have d4' : decode c.code (pc + 4) = .ok (.ldc is, 2) := by rw [hb]; exact d4
  have hstr' : vk_R own is text sa s' := vk_R.warm hW0 hstr
  obtain ⟨U, hsteps, hrun, hend, hW, hsame, ce, hce, hO⟩ := X₁.ctorThrowS hexec htr (own := own) (cls := cls) (names := names) (ic := ic) hown' hcls hnames h (fun x hx => nomatch hx) hfX hkX hcellA (by rw [hhp, hT]; exact Nat.le_refl _) (msg := .ref sa) rfl
    (g := { method := m, pc := pc + 6, locals := ls, stack := .ref sa :: .ref T.heap.size :: .ref T.heap.size :: rest, locked := none }) rfl hsize rfl rfl (rest := rest) rfl
    (by rw [hb]; exact d6) (by rw [hb]; exact d9) hout hRframes (by simp only [List.map_cons, List.sum_cons, hcat]; omega) hlocks
  obtain ⟨f1, f2⟩ := vx_frame hsame
  rw [hhp] at f1 f2
  have hWs : s.WarmedH U.vm := State.WarmedH.trans hW0 hW
  have hcl : s.vm.findClass cls = some ce.cls := by
    have h9 := hO.cls
    rw [hvm] at h9
    exact h9
  have hall : s.sameButNew ({ U with vm := s.vm } : State) locs mc ms := by
    subst hA
    obtain ⟨e1, e2⟩ := hsame
    rw [State.setFrames_setFrames] at e1
    have h2 : (T.setVm s.vm).sameButNew ({ U with vm := s.vm } : State) [] (0 + 1) (0 + 6) := ⟨e1, e2⟩
    have h3 := X.same.trans h2
    rw [List.append_nil] at h3
    exact h3.mono hc hs
  refine ⟨U, ?_, .threw T.heap.size, hrun, hend, Or.inr ⟨T.heap.size, rfl, cls, ce, locs, hx U hWs.alike f1 (fun q hq => f2 q hq (fun z hz => nomatch hz)), hce, hO.vm, hcl, hWs, hall, hf⟩⟩
  refine st1 _ ?_
  show Steps p.tables e below (T1.setTop { method := m, pc := pc + 3, locals := ls, stack := .ref T.heap.size :: rest, locked := none }) _
  jvm_step X₁.here [X₁.here.top, hexec, d3', Value.category]
  exact X₁.ldcString hexec (own := own) (text := text) (index := is) (a := sa) hown' hstr'.1 hstr'.2
    (g := { method := m, pc := pc + 4, locals := ls, stack := .ref T.heap.size :: .ref T.heap.size :: rest, locked := none }) rfl d4' _ hsteps
/-- 'throw new E("text")', the text by a wide index -/
theorem vx_throwSW {cc : ByteArray} {pc : Nat} (hexec : p.tables.exec = Jvm.exec) (hb : c.code = cc) (hl : l.stackTraces = false) {own cls text : String} {names : List String} {ik is ic mc ms sa : Nat} {A : Nat → Prop}
    (hown : s.vm.findClass own = some m.cls) (hcls : Bundle.fit cls = true) (hnames : ∀ n ∈ names, Bundle.fit n = true)
    (hk : (Cond.classLink own ik cls).before args s = true) (hini : (Cond.initialized cls).before args s = true) (hstr : vk_R own is text sa s) (hat : ∀ w ∈ vx_atS own ic cls names, w.before args s = true)
    (hgood : ∀ w ∈ Cond.classLink own ik cls :: Cond.initialized cls :: vx_atS own ic cls names, vx_ot w = true)
    (hU : vx_Zq Bundle.tN "UNASSIGNED_STACK" Bundle.steD A s s.heap) (hN : vx_Zq Bundle.tN "SUPPRESSED_SENTINEL" Bundle.listD A s s.heap) (hS : va_S A s.heap H locs) (hsize : ls.size = c.maxLocals)
    (d0 : decode cc pc = .ok (.new ik, 3)) (d3 : decode cc (pc + 3) = .ok (.dup, 1)) (d4 : decode cc (pc + 4) = .ok (.ldc_w is, 3)) (d7 : decode cc (pc + 7) = .ok (.invokespecial ic, 3)) (d10 : decode cc (pc + 10) = .ok (.athrow, 1))
    (hout : ∀ x ∈ c.exceptionTable.toList, covers x (pc + 10) = false)
    (hRframes : names.length + 3 < R.frames) (hRlocals : (rest.map fun v => v.category).sum + (13 * (names.length + 1) + 43) ≤ R.locals) (hRcells : cells + 1 ≤ R.cells) (hRslots : slots + 6 ≤ R.slots) (hlocks : meth.locks = false)
    (hx : ∀ t : State, s.vm.Alike t.vm → H.size ≤ t.heap.size → (∀ q : Nat, q < H.size → t.heap[q]? = H[q]?) → XC cls s t)
    (hf : ∀ z ∈ locs, free z.base) (hc : cells + 1 ≤ mc) (hs : slots + 6 ≤ ms) :
    W p l e R s m args below meth c H locs cells slots (vx_MQ below Qc XC args s mc ms free) (F0 m pc ls rest) := by
  intro T hT X
  have htr : e.platform.stackTraces = false := (show e.platform.stackTraces = l.stackTraces by rw [X.admits.platform]).trans hl
  have Y := vx_rebase X (R' := { frames := R.frames, locals := R.locals, cells := 1, slots := 6 }) (Nat.le_refl _) (Nat.le_refl _) hRcells hRslots
  obtain ⟨s', hA⟩ : ∃ z, z = (T.setVm s.vm).setFrames (.invoking m args :: below) := ⟨_, rfl⟩
  rw [← hA] at Y
  have hvm : s'.vm = s.vm := by rw [hA]; rfl
  have hhp : s'.heap = H := by rw [hA]; exact hT
  have hW0 : s.WarmedH s'.vm := by rw [hvm]; exact State.WarmedH.refl s
  have hat' : ∀ w ∈ vx_atS own ic cls names, w.before args s' = true := fun w hw => vx_ot_at hW0 hvm.symm (hgood w (List.mem_cons_of_mem _ (List.mem_cons_of_mem _ hw))) (hat w hw)
  have hk' : (Cond.classLink own ik cls).before args s' = true := vx_ot_at hW0 hvm.symm (hgood _ List.mem_cons_self) hk
  have hini' : (Cond.initialized cls).before args s' = true := vx_ot_at hW0 hvm.symm (hgood _ (List.mem_cons_of_mem _ List.mem_cons_self)) hini
  have hU' : vx_Zq Bundle.tN "UNASSIGNED_STACK" Bundle.steD A s' s'.heap := by rw [hhp]; exact vx_Zq.moved hW0.alike (hU.kept hS.2.1)
  have hN' : vx_Zq Bundle.tN "SUPPRESSED_SENTINEL" Bundle.listD A s' s'.heap := by rw [hhp]; exact vx_Zq.moved hW0.alike (hN.kept hS.2.1)
  have h : ∀ w ∈ Bundle.ownAtoms own ic cls names, w.before args s' = true := vx_own hat' (vx_isRefq hU'.1) (vx_isRefq hN'.1) hU'.2.word hN'.2.word
  have hown' : s'.vm.findClass own = some m.cls := by rw [hvm]; exact hown
  have hins : (Cond.instantiable cls 6).before args s' = true := h _ (by simp [Bundle.ownAtoms])
  obtain ⟨vm₁, cX, kX, hfX, hkX, -, -, X₁, st1⟩ := Y.newCold hexec (own := own) (C := cls) (index := ik) (n := 6) hown' hk' hins hini'
    (g := F0 m pc ls rest) rfl (by rw [hb]; exact d0) (Nat.le_refl _) (Nat.le_refl _)
  generalize hT1 : (T.setVm vm₁).pushCell { cls := cX, slots := kX.instanceTypes.map defaultValue, vm := .none } = T1 at X₁ st1
  have hcat : (Value.ref T.heap.size).category = 1 := rfl
  have hcellA : T1.heap[T.heap.size]? = some (freshCell cX kX) := by rw [← hT1]; exact State.heap_pushCell_size _ _
  have d3' : decode c.code (pc + 3) = .ok (.dup, 1) := by rw [hb]; exact d3
  have d4' : decode c.code (pc + 4) = .ok (.ldc_w is, 3) := by rw [hb]; exact d4
  have hstr' : vk_R own is text sa s' := vk_R.warm hW0 hstr
  obtain ⟨U, hsteps, hrun, hend, hW, hsame, ce, hce, hO⟩ := X₁.ctorThrowS hexec htr (own := own) (cls := cls) (names := names) (ic := ic) hown' hcls hnames h (fun x hx => nomatch hx) hfX hkX hcellA (by rw [hhp, hT]; exact Nat.le_refl _) (msg := .ref sa) rfl
    (g := { method := m, pc := pc + 7, locals := ls, stack := .ref sa :: .ref T.heap.size :: .ref T.heap.size :: rest, locked := none }) rfl hsize rfl rfl (rest := rest) rfl
    (by rw [hb]; exact d7) (by rw [hb]; exact d10) hout hRframes (by simp only [List.map_cons, List.sum_cons, hcat]; omega) hlocks
  obtain ⟨f1, f2⟩ := vx_frame hsame
  rw [hhp] at f1 f2
  have hWs : s.WarmedH U.vm := State.WarmedH.trans hW0 hW
  have hcl : s.vm.findClass cls = some ce.cls := by
    have h9 := hO.cls
    rw [hvm] at h9
    exact h9
  have hall : s.sameButNew ({ U with vm := s.vm } : State) locs mc ms := by
    subst hA
    obtain ⟨e1, e2⟩ := hsame
    rw [State.setFrames_setFrames] at e1
    have h2 : (T.setVm s.vm).sameButNew ({ U with vm := s.vm } : State) [] (0 + 1) (0 + 6) := ⟨e1, e2⟩
    have h3 := X.same.trans h2
    rw [List.append_nil] at h3
    exact h3.mono hc hs
  refine ⟨U, ?_, .threw T.heap.size, hrun, hend, Or.inr ⟨T.heap.size, rfl, cls, ce, locs, hx U hWs.alike f1 (fun q hq => f2 q hq (fun z hz => nomatch hz)), hce, hO.vm, hcl, hWs, hall, hf⟩⟩
  refine st1 _ ?_
  show Steps p.tables e below (T1.setTop { method := m, pc := pc + 3, locals := ls, stack := .ref T.heap.size :: rest, locked := none }) _
  jvm_step X₁.here [X₁.here.top, hexec, d3', Value.category]
  exact X₁.ldcStringW hexec (own := own) (text := text) (index := is) (a := sa) hown' hstr'.1 hstr'.2
    (g := { method := m, pc := pc + 4, locals := ls, stack := .ref T.heap.size :: .ref T.heap.size :: rest, locked := none }) rfl d4' _ hsteps
end Ends
section Bodies
variable {l : Launch}
theorem vx_ofW {y : MethodName} {ws ws' : List Cond} {rm : Room} {Pc : Array Value → State → Prop} {Qc : Array Value → State → Outcome → State → Prop} {XC : String → State → State → Prop} {mc ms : Nat} {free : Addr → Prop} {cc : ByteArray} {maxL : Nat} {ret : Option FieldType}
    (hy : plainName y.cls = true) (hw : ws = Cond.code y cc maxL ret :: ws')
    (body : ∀ p e s m args below meth c s₁, BodyLoose p l y (headSpec ws rm) cc maxL ret e s m args below meth c s₁ → c.maxLocals = maxL → (∀ x ∈ c.exceptionTable.toList, False) → Pc args s →
      W p l e (headSpec ws rm).room s m args below meth c s.heap [] 0 0 (vx_MQ below Qc XC args s mc ms free) (entryFrame m args maxL)) : vx_Met l y ws rm Pc Qc XC mc ms free := by
  refine MetFree.of_bodyS (code := cc) (maxLocals := maxL) (ret := ret) hy ?_ ?_
  · intro args s m h hn
    obtain ⟨meth, c, h1, h2, h3, h4, h5, h6, -, -⟩ := Cond.code_spec hn (atoms_spec (ws := ws) h _ (by rw [hw]; exact List.mem_cons_self))
    exact ⟨meth, c, h1, h2, h3, h4, h5, h6⟩
  · intro p e s m args below meth c s₁ B hml hP _
    have hh0 : s₁.heap = s.heap := by rw [B.state]; rfl
    have ht : ∀ x ∈ c.exceptionTable.toList, False := by
      obtain ⟨meth9, c9, h1, h2, -, -, -, -, h7, -⟩ := Cond.code_spec B.named (atoms_spec (ws := ws) B.pre _ (by rw [hw]; exact List.mem_cons_self))
      cases Option.some.inj (h1.symm.trans B.method)
      cases Option.some.inj (h2.symm.trans (Stand.of_body B).code)
      intro x hx
      rw [Array.isEmpty_iff.mp h7] at hx
      cases hx
    obtain ⟨t, a1, o, b1, b2, b3⟩ := body p e s m args below meth c s₁ B hml ht hP s₁ hh0 (Stand.of_body B)
    exact ⟨t, o, a1, b1, b2, b3⟩
/-- the table of a body with handlers -/
theorem vx_table {p : Program} {x y : MethodName} {S : Spec} {cc bytes : ByteArray} {maxL maxL' : Nat} {ret ret' : Option FieldType} {e : Env} {s s₁ : State} {m : MethodId} {args : Array Value} {below : List Frame} {meth : Method} {c : Code} {hh : List (Nat × Nat × Nat × Nat)}
    (B : BodyLoose p l y S cc maxL ret e s m args below meth c s₁) (h : (Cond.codeWith y bytes maxL' ret' hh).before args s = true) : c.exceptionTable.toList = tableOf hh := by
  obtain ⟨m9, meth9, c9, hn9, h1, h2, -, -, h6, -⟩ := Cond.codeWith_spec h
  cases Option.some.inj (hn9.symm.trans B.named)
  cases Option.some.inj (h1.symm.trans B.method)
  cases Option.some.inj (h2.symm.trans (Stand.of_body B).code)
  rw [← h6, table_eq]
end Bodies
end VXA
/-! ===== END ===== -/
/-! ===== BEGIN a static call of a method with an exception table ===== -/
section VXS
variable {p : Program} {l : Launch} {e : Env} {R : Room} {s : State} {m : MethodId} {args : Array Value} {below : List Frame} {meth : Method} {c : Code} {T : State} {H : Heap} {locs : List Loc} {cells slots : Nat}
abbrev vx_CSW (R : Room) (s : State) (args : Array Value) (own : String) (index : Nat) (y : MethodName) (bytes : ByteArray) (maxL : Nat) (ret : Option FieldType) (hh : List (Nat × Nat × Nat × Nat)) (ws : List Cond) (rm : Room) (mc ms n : Nat) : Prop :=
  (rm.cells = mc ∧ rm.slots = ms ∧ rm.frames + 1 ≤ R.frames ∧ 8 + (maxL + 11) + rm.locals ≤ R.locals ∧ (∀ w ∈ ws, ∀ (a' : Array Value) (U : State), s.WarmedH U.vm → w.before a' U = true) ∧ Cond.codeWith y bytes maxL ret hh ∈ ws) ∧
  (Cond.codeWith y bytes maxL ret hh).before args s = true ∧ (Cond.initialized y.cls).before args s = true ∧ (y.cls ≠ "java/lang/invoke/MethodHandle" ∧ y.cls ≠ "java/lang/invoke/VarHandle") ∧
  (∀ sig, parseMethodDescriptor y.desc = some sig → n = sig.parameters.length) ∧ (Cond.methodLink own index y).before args s = true ∧ (Cond.static y).before args s = true
theorem vx_cwSW {own : String} {index maxL mc ms : Nat} {y : MethodName} {bytes : ByteArray} {ret : Option FieldType} {hh : List (Nat × Nat × Nat × Nat)} {Ts ws ws' : List Cond} {rm : Room} (n : Nat) (ht : ∀ w ∈ Ts, w.before args s = true) (hT : GoodIn Ts (va_wsS own index y ws)) (hw : ws = Cond.codeWith y bytes maxL ret hh :: ws') (hrc : rm.cells = mc) (hrs : rm.slots = ms)
    (hd : y.cls ≠ "java/lang/invoke/MethodHandle" ∧ y.cls ≠ "java/lang/invoke/VarHandle" ∧ (parseMethodDescriptor y.desc).map (fun d => d.parameters.length) = some n) (hR : rm.frames + 1 ≤ R.frames ∧ 8 + (maxL + 11) + rm.locals ≤ R.locals) :
    vx_CSW R s args own index y bytes maxL ret hh ws rm mc ms n := by
  have ok : ∀ w ∈ va_wsS own index y ws, w.before args s = true := fun w h => ht w (hT w h).1
  have hG : GoodIn Ts ws := fun w h => hT w (by unfold va_wsS; exact List.mem_append_right _ h)
  have hc : Cond.codeWith y bytes maxL ret hh ∈ ws := by rw [hw]; exact List.mem_cons_self
  refine ⟨⟨hrc, hrs, hR.1, hR.2, pay_in ht hG, hc⟩, ht _ (hG _ hc).1, ok _ (by simp [va_wsS]), ⟨hd.1, hd.2.1⟩, fun sig h => ?_, ok _ (by simp [va_wsS]), ok _ (by simp [va_wsS])⟩
  have h2 := hd.2.2
  rw [h] at h2
  exact (Option.some.inj h2).symm
theorem vx_callSW (X : Stand p l e R s m args below meth c T locs cells slots) (hexec : p.tables.exec = Jvm.exec) {own : String} {index : Nat} {y : MethodName} {bytes : ByteArray} {maxL : Nat} {ret : Option FieldType} {hh : List (Nat × Nat × Nat × Nat)}
    (hown : s.vm.findClass own = some m.cls) (hlink : (Cond.methodLink own index y).before args s = true) (hstat : (Cond.static y).before args s = true) (hinit : (Cond.initialized y.cls).before args s = true)
    (hcode : (Cond.codeWith y bytes maxL ret hh).before args s = true) (hy : y.cls ≠ "java/lang/invoke/MethodHandle" ∧ y.cls ≠ "java/lang/invoke/VarHandle")
    {W9 : Nat} {Pre : Pt → Array Value → Prop} {Post : Pt → Array Value → Option Value → Pt → Prop} (hK : Back l R p e below s args y 3 W9 Pre Post)
    {g : JFrame} (hg : g.method = m) (hsize : g.locals.size = c.maxLocals) {argsL rest : List Value} (hlen : ∀ sig, parseMethodDescriptor y.desc = some sig → argsL.length = sig.parameters.length)
    (hstack : g.stack = argsL.reverse ++ rest) (hW : 2 * g.monitorRoom + (rest.map fun v => v.category).sum ≤ W9) (hdg : decode c.code g.pc = .ok (.invokestatic index, 3))
    (hpre : ∀ vm₁, s.WarmedH vm₁ → Pre ⟨T.setVm vm₁, locs, cells, slots⟩ argsL.toArray) :
    ∃ (v : Option Value) (vm₁ : Vm) (B : Pt), s.WarmedH vm₁ ∧ Stand p l e R s m args below meth c B.U B.locs B.cells B.slots ∧ Post ⟨T.setVm vm₁, locs, cells, slots⟩ argsL.toArray v B ∧
      ∀ target, Steps p.tables e below (B.U.setTop { g with pc := g.pc + 3, stack := v.toList ++ rest }) target → Steps p.tables e below (T.setTop g) target := by
  obtain ⟨mk, methM, cM, hnamed, hmethM, -, -, -, -, -, -, hsigM⟩ := Cond.codeWith_spec hcode
  have hstatic : methM.isStatic = true := Cond.static_spec hnamed hmethM hstat
  obtain ⟨kP, hkP, -⟩ := className_of_methodNamed hnamed
  have hinitP : kP.init = .initialized := Cond.initialized_spec (findClass_of_methodNamed hnamed) hkP hinit
  obtain ⟨vm₁, X₁, hstep₁⟩ := X.invokestatic hexec hown hlink hnamed hmethM hstatic hkP hinitP hy (g := g) hg (argsL := argsL) (rest := rest) (hlen _ hsigM) hstack hdg
  obtain ⟨v, B, X', hpost, hsteps⟩ := hK m meth c ⟨T.setVm vm₁, locs, cells, slots⟩ { g with stack := rest } (.invokestatic index) mk argsL.toArray X₁ hg hsize hdg hW (X₁.named hnamed) (hpre vm₁ X₁.warmed)
  exact ⟨v, vm₁, B, X₁.warmed, X', hpost, fun target h => hstep₁ _ fun acts => by rw [doInvoke_state]; exact hsteps.trans h⟩
theorem vx_runSW {y : MethodName} {bytes cc : ByteArray} {maxL nL mc ms n index : Nat} {ret : Option FieldType} {hh : List (Nat × Nat × Nat × Nat)} {ws : List Cond} {rm : Room} {Pc : Array Value → State → Prop} {Qc : Array Value → State → Outcome → State → Prop} {free : Addr → Prop} {Ts : List Cond} {own : String} {As rest : List Value} {g : JFrame}
    (S : CallFix p m c cc nL s args Ts own) (hM : Met l y ws rm Pc Qc mc ms free) (cw : vx_CSW R s args own index y bytes maxL ret hh ws rm mc ms n) (hp : PreS s H Pc As)
    (hg : g.method = m) (hn : As.length = n) (hsize : g.locals.size = nL) (hstack : g.stack = As.reverse ++ rest) (hW : 2 * g.monitorRoom + (rest.map fun v => v.category).sum ≤ 8) (hdg : decode cc g.pc = .ok (.invokestatic index, 3)) (hf : cells + mc ≤ R.cells ∧ slots + ms ≤ R.slots) :
    va_Run p l e R s m args below meth c H locs cells slots mc ms g rest (Qc As.toArray) (free) := by
  obtain ⟨⟨hrc, hrs, hfr, hlo, hws, hcw⟩, hcode, hini, hy, hlen, hl, hstt⟩ := cw
  have hK : Back l R p e below s args y 3 8 (PreOf R mc ms Pc) (PostOf Qc mc ms free) := va_backW (hh := hh) (bytes := bytes) (maxL := maxL) (ret := ret) hM hp.1 hrc hrs hfr hlo hws hcw (fun a' U hW => word_at hW (Or.inl (by first | rfl | simp [Cond.onTables, Cond.keeps, Cond.steady])) hini)
  obtain ⟨hx, hb, hml, ho, -⟩ := S
  intro T hT X
  obtain ⟨v, vm₁, ⟨U', l2, c2, s2⟩, hW₁, X', ⟨g', mk, t, L, e1, e2, hq, h1, hL, h2, h3⟩, st⟩ := vx_callSW X hx (hh := hh) (bytes := bytes) (maxL := maxL) (ret := ret) ho hl hstt hini hcode hy hK hg (hsize.trans hml.symm) (argsL := As) (rest := rest) (fun sig h => hn.trans (hlen sig h)) hstack hW (by rw [hb]; exact hdg)
    (fun vm₁ hW₁ => ⟨hf.1, hf.2, hp.2 (T.setVm vm₁) hT hW₁⟩)
  dsimp only [Pt.U, Pt.locs, Pt.cells, Pt.slots] at X' e1 e2 h1 h2 h3 st
  subst h1; subst h2; subst h3
  exact ⟨v, (T.setVm vm₁).calling g' mk As.toArray, t, U', L, hT, X', hL, e1, e2, hq, st⟩
/-- not caught here, past rows that name other classes: it goes on to the caller -/
theorem vx_outP {p : Program} {l : Launch} {e : Env} {R : Room} {s : State} {m : MethodId} {args : Array Value} {below : List Frame} {meth : Method} {c : Code} {H : Heap} {locs : List Loc} {cells slots : Nat} {free : Addr → Prop} {ls : Array Slot} {rest : List Value} {Qc : Array Value → State → Outcome → State → Prop} {XC : String → State → State → Prop}
    {pc : Nat} {own E : String} {ce : Cell} {q : Addr} {mc ms : Nat} (hown : s.vm.findClass own = some m.cls) (hlocks : meth.locks = false)
    (hpass : ∀ z ∈ c.exceptionTable.toList, covers z pc = false ∨ (z.catchType ≠ 0 ∧ ∃ nm : String, (Cond.classLink own z.catchType nm).before args s = true ∧ va_Nc E nm s)) (hcell : H[q]? = some ce) (hv : ce.vm = .none) (hcl : s.vm.findClass E = some ce.cls)
    (hx : ∀ t : State, t.heap = H → s.vm.Alike t.vm → XC E s t) (hf : ∀ z ∈ locs, free z.base) (hc : cells ≤ mc) (hs : slots ≤ ms) :
    vx_W p l e R s m args below meth c H locs cells slots (vx_MQ below Qc XC args s mc ms free) (F0 m pc ls rest) q := by
  intro T hT X
  have hpl : e.platform.magicAccessors = ({} : Platform).magicAccessors := by rw [X.admits.platform]
  obtain ⟨vm', hW', X', st⟩ := X.outThrough hlocks q (g := F0 m pc ls rest) rfl rfl rfl (cell := ce) (by rw [hT]; exact hcell) (by rw [hv]; rfl)
    (by obtain ⟨k9, h9, -⟩ := Vm.findClass_spec hcl; exact ⟨k9, h9⟩) (fun z hz => by
      rcases hpass z hz with h | ⟨hz0, nm, hl1, hn1⟩
      · exact Or.inl h
      · obtain ⟨c6, hc6, hcl6⟩ := Cond.classLink_spec hown hl1 e.platform hpl
        obtain ⟨a8, b8, h1, h2, h3⟩ := hn1
        cases Option.some.inj (h1.symm.trans hcl)
        cases Option.some.inj (h2.symm.trans hc6)
        exact Or.inr ⟨hz0, _, hcl6, h3⟩)
  obtain ⟨g₀, hfr⟩ := X'.frames_eq
  have hcell9 : ((T.setVm vm').setFrames (.throwing q :: below)).heap[q]? = some ce := by
    show T.heap[q]? = some ce
    rw [hT]; exact hcell
  have hend : Ended ((T.setVm vm').setFrames (.throwing q :: below)) below (.threw q) := State.frames_setFrames _ (State.cur_lt_of_frames hfr)
  refine ⟨(T.setVm vm').setFrames (.throwing q :: below), ?_, .threw q, X'.here.running, hend, Or.inr ⟨q, rfl, E, ce, locs, hx _ hT (X'.ends _).1.alike, hcell9, hv, hcl, (X'.ends _).1, (X'.ends _).2.mono hc hs, hf⟩⟩
  rw [X.pushThrowing_eq]
  exact st
/-- a thing of a world lies in the heap -/
theorem vx_lt {D : va_G} {cl : List vw_C} {ws : va_W} {H1 : Heap} (h : va_P D cl ws H1) {k : Nat} {q : Nat × va_E} (hk : ws[k]? = some q) : q.1 < H1.size := (h k q hk).lt
end VXS
/-! ===== END ===== -/
/-! ===== BEGIN methods with a table of their own: called by a name, returning or throwing ===== -/
section VXH
/-! vx_backW, vx_callVX, vx_callSX, vx_callVW, vx_runVW, vx_runVX, vx_runSX, vx_ofWH follow the same proofs as their sisters above (Free/Laws.lean, Shelf42/LK1.lean); vx_outP calls Shelf42/NT130.lean (outThrough). -/
section
variable {l : Launch} {R : Room} {p : Program} {e : Env} {below : List Frame} {s : State} {sargs : Array Value} {y : MethodName} {len W9 : Nat}
theorem vx_backW {ws : List Cond} {rm : Room} {Pc : Array Value → State → Prop} {Qc : Array Value → State → Outcome → State → Prop} {XC : String → State → State → Prop} {mc ms : Nat} {free : Addr → Prop} {bytes : ByteArray} {maxL : Nat} {ret : Option FieldType} {hh : List (Nat × Nat × Nat × Nat)}
    (hM : vx_Met l y ws rm Pc Qc XC mc ms free) (hblind : FrameBlind Pc) (hrc : rm.cells = mc) (hrs : rm.slots = ms)
    (hframes : rm.frames + 1 ≤ R.frames) (hlocals : W9 + (maxL + 11) + rm.locals ≤ R.locals)
    (hws : ∀ w ∈ ws, ∀ a' U, s.WarmedH U.vm → w.before a' U = true) (hcode : Cond.codeWith y bytes maxL ret hh ∈ ws) (hinit : ∀ a' U, s.WarmedH U.vm → (Cond.initialized y.cls).before a' U = true) :
    vx_Back l R p e below s sargs y len W9 (PreOf R mc ms Pc) (PostOf Qc mc ms free) (vx_Post XC mc ms free) := by
  intro m meth c A g ig mk a X hg hsize hdg hW hn hp
  have h1 : (headSpec ws rm).pre.before a A.U = true := atoms_intro fun w hw => hws w hw _ _ X.warmed
  have h2 : (Cond.codeWith y bytes maxL ret hh).before a A.U = true := hws _ hcode _ _ X.warmed
  have h3 : (Cond.initialized y.cls).before a A.U = true := hinit _ _ X.warmed
  have h4 : A.cells + (headSpec ws rm).room.cells ≤ R.cells := by rw [show (headSpec ws rm).room.cells = mc from hrc]; exact hp.1
  have h5 : A.slots + (headSpec ws rm).room.slots ≤ R.slots := by rw [show (headSpec ws rm).room.slots = ms from hrs]; exact hp.2.1
  have hPc : Pc a (A.U.calling g mk a) := hblind _ _ _ _ hp.2.2
  obtain ⟨U, Ls, c0, s0⟩ := A
  dsimp only [Pt.U, Pt.locs, Pt.cells, Pt.slots] at h1 h2 h3 h4 h5 X hn hPc ⊢
  obtain ⟨m9, methY, cY, hn9, hmY, hcY, -, hlY, -⟩ := Cond.codeWith_spec h2
  cases Option.some.inj (hn9.symm.trans hn)
  obtain ⟨kY, hkY, -⟩ := className_of_methodNamed hn
  have hinitY : kY.init = .initialized := Cond.initialized_spec (findClass_of_methodNamed hn) hkY h3
  have h : At U g.method c below := by rw [hg]; exact X.here
  have hlocals9 : W9 + (maxL + 11) + (headSpec ws rm).room.locals ≤ R.locals := hlocals
  have happ : (headSpec ws rm).appliesLoose y e.platform (U.calling g mk a) = true :=
    Spec.appliesLoose_calling (g := g) h hdg hn hkY hinitY
      (X.room_calling (g := g) (R' := (headSpec ws rm).room) hsize hmY hcY hframes (by rw [hlY]; omega) h4 h5) h1
  obtain ⟨mid, hmid⟩ := h.above
  have hfr : (U.setTop g).frames = (.java g :: mid) ++ below := by rw [State.frames_setTop' g h.top, hmid]; rfl
  obtain ⟨o, s₂, hsteps, -, hend, hq⟩ := Steps.callFree hM p X.admits X.cas X.clock (acts := []) hfr happ hPc trivial
  have hq' : vx_Q Qc XC mc ms free a (U.calling g mk a) o s₂ := hq
  rw [State.frames_setTop' g h.top] at hend
  obtain ⟨g₀, hg0⟩ := Option.isSome_iff_exists.mp h.top
  obtain ⟨r, hr⟩ := State.topJava?_eq_some.mp hg0
  have hr' : (({ U with heap := s₂.heap, slotsUsed := s₂.slotsUsed } : State).setVm s₂.vm).frames = .java g₀ :: r := hr
  rcases hq' with ⟨hqc, L, hfe, hL⟩ | ⟨q, rfl, E, ce, L, hx, hce, hcv, hcl, hW₂, hsm, hL⟩
  · obtain ⟨⟨v, rfl⟩, hW₂, e2, q2, q3, q4, q5, q6⟩ := id hfe
    have e3 : s₂ = ({ (U.calling g mk a).setFrames s₂.frames with heap := s₂.heap, slotsUsed := s₂.slotsUsed } : State).setVm s₂.vm := by
      have : s₂ = ({ s₂ with vm := (U.calling g mk a).vm } : State).setVm s₂.vm := rfl
      rw [e2] at this
      exact this
    obtain ⟨c₂, i₂, len₂, hc₂, hd₂, hf₂⟩ := hend
    have hW' : U.WarmedH s₂.vm := hW₂
    have hcc : c₂ = c := by
      have h1 : s₂.code? g.method = U.code? g.method := by
        rw [State.code?_eq, State.code?_eq, hW'.alike.method?]
      exact Option.some.inj (hc₂.symm.trans (h1.trans h.code))
    subst hcc
    have hlen : len₂ = len := by rw [hdg] at hd₂; cases hd₂; rfl
    subst hlen
    have hs₂ : s₂ = (({ U with heap := s₂.heap, slotsUsed := s₂.slotsUsed } : State).setVm s₂.vm).setTop { g with pc := g.pc + len₂, stack := v.toList ++ g.stack } := by
      refine e3.trans ?_
      rw [hf₂, State.calling_eq h.top, State.setFrames_setFrames, State.setTop_of_frames _ hr', hr]
      rfl
    have hsame : U.sameButNew ({ U with heap := s₂.heap, slotsUsed := s₂.slotsUsed } : State) L mc ms := by
      refine ⟨?_, q2, q3, q4, q5, q6⟩
      obtain ⟨t, ht, -⟩ := State.frames_cons hr
      show ({ U with heap := s₂.heap, slotsUsed := s₂.slotsUsed } : State) = { U.setFrames U.frames with heap := s₂.heap, slotsUsed := s₂.slotsUsed }
      rw [State.setFrames_self ht]
    subst hg
    refine Or.inl ⟨v, ⟨(({ U with heap := s₂.heap, slotsUsed := s₂.slotsUsed } : State).setVm s₂.vm), Ls ++ L, c0 + mc, s0 + ms⟩,
      ⟨X.admits, X.cas, X.clock, X.frames, X.room, X.hears, X.method, X.code, (X.here.setHeapUsed s₂.heap s₂.slotsUsed).setVm hW'.alike, X.tail, State.WarmedH.trans X.warmed hW', X.limits, X.bytes, X.same.trans (hsame.setVm s.vm)⟩,
      ⟨g, mk, s₂, L, rfl, rfl, hqc, rfl, hL, rfl, rfl⟩, ?_⟩
    show Steps p.tables e below _ ((({ U with heap := s₂.heap, slotsUsed := s₂.slotsUsed } : State).setVm s₂.vm).setTop { g with pc := g.pc + len₂, stack := v.toList ++ g.stack })
    rw [← hs₂]
    exact hsteps
  · obtain ⟨e2, q2, q3, q4, q5, q6⟩ := id hsm
    have e3 : s₂ = ({ (U.calling g mk a).setFrames s₂.frames with heap := s₂.heap, slotsUsed := s₂.slotsUsed } : State).setVm s₂.vm := by
      have : s₂ = ({ s₂ with vm := (U.calling g mk a).vm } : State).setVm s₂.vm := rfl
      rw [e2] at this
      exact this
    have hf₂ : s₂.frames = .throwing q :: .java g :: U.frames.tail := hend
    have hW' : U.WarmedH s₂.vm := hW₂
    have hs₂ : s₂ = ((({ U with heap := s₂.heap, slotsUsed := s₂.slotsUsed } : State).setVm s₂.vm).setTop g).pushFrame (.throwing q) := by
      refine e3.trans ?_
      rw [hf₂, State.calling_eq h.top, State.setFrames_setFrames, State.pushFrame, State.frames_setTop _ hr', State.setTop_of_frames _ hr', State.setFrames_setFrames, hr]
      rfl
    have hsame : U.sameButNew ({ U with heap := s₂.heap, slotsUsed := s₂.slotsUsed } : State) L mc ms := by
      refine ⟨?_, q2, q3, q4, q5, q6⟩
      obtain ⟨t, ht, -⟩ := State.frames_cons hr
      show ({ U with heap := s₂.heap, slotsUsed := s₂.slotsUsed } : State) = { U.setFrames U.frames with heap := s₂.heap, slotsUsed := s₂.slotsUsed }
      rw [State.setFrames_self ht]
    subst hg
    refine Or.inr ⟨q, ⟨(({ U with heap := s₂.heap, slotsUsed := s₂.slotsUsed } : State).setVm s₂.vm), Ls ++ L, c0 + mc, s0 + ms⟩,
      ⟨X.admits, X.cas, X.clock, X.frames, X.room, X.hears, X.method, X.code, (X.here.setHeapUsed s₂.heap s₂.slotsUsed).setVm hW'.alike, X.tail, State.WarmedH.trans X.warmed hW', X.limits, X.bytes, X.same.trans (hsame.setVm s.vm)⟩,
      ⟨g, mk, s₂, L, E, ce, rfl, rfl, hx, hce, hcv, hcl, rfl, hL, rfl, rfl⟩, ?_⟩
    show Steps p.tables e below _ (((({ U with heap := s₂.heap, slotsUsed := s₂.slotsUsed } : State).setVm s₂.vm).setTop g).pushFrame (.throwing q))
    rw [← hs₂]
    exact hsteps
end
variable {p : Program} {l : Launch} {e : Env} {R : Room} {s : State} {m : MethodId} {args : Array Value} {below : List Frame} {meth : Method} {c : Code} {T : State} {H : Heap} {locs : List Loc} {cells slots : Nat}
theorem vx_callVX (X : Stand p l e R s m args below meth c T locs cells slots) (hexec : p.tables.exec = Jvm.exec) {own C : String} {index : Nat} {y : MethodName} {bytes : ByteArray} {maxL : Nat} {ret : Option FieldType} {hh : List (Nat × Nat × Nat × Nat)}
    (hown : s.vm.findClass own = some m.cls) (hlink : (Cond.methodLink own index y).before args s = true) (hinst : (Cond.instanceMethod y).before args s = true) (hsel : (Cond.selects C y y).before args s = true)
    (hcode : (Cond.codeWith y bytes maxL ret hh).before args s = true) (hy : y.cls ≠ "java/lang/invoke/MethodHandle" ∧ y.cls ≠ "java/lang/invoke/VarHandle")
    {W9 : Nat} {Pre : Pt → Array Value → Prop} {Post : Pt → Array Value → Option Value → Pt → Prop} {PostX : Pt → Array Value → Addr → Pt → Prop} (hK : vx_Back l R p e below s args y 3 W9 Pre Post PostX)
    {b : Addr} {cellB : Cell} (hcell : T.heap[b]? = some cellB) (hobj : cellB.vm.isStatics = false) (hcls : s.vm.findClass C = some cellB.cls)
    {g : JFrame} (hg : g.method = m) (hsize : g.locals.size = c.maxLocals) {argsL rest : List Value} (hlen : ∀ sig, parseMethodDescriptor y.desc = some sig → argsL.length = sig.parameters.length)
    (hstack : g.stack = argsL.reverse ++ .ref b :: rest) (hW : 2 * g.monitorRoom + (rest.map fun v => v.category).sum ≤ W9) (hdg : decode c.code g.pc = .ok (.invokevirtual index, 3))
    (hpre : ∀ vm₁, s.WarmedH vm₁ → Pre ⟨T.setVm vm₁, locs, cells, slots⟩ (Value.ref b :: argsL).toArray) :
    (∃ (v : Option Value) (vm₁ : Vm) (B : Pt), s.WarmedH vm₁ ∧ Stand p l e R s m args below meth c B.U B.locs B.cells B.slots ∧ Post ⟨T.setVm vm₁, locs, cells, slots⟩ (Value.ref b :: argsL).toArray v B ∧
      ∀ target, Steps p.tables e below (B.U.setTop { g with pc := g.pc + 3, stack := v.toList ++ rest }) target → Steps p.tables e below (T.setTop g) target) ∨
    (∃ (q : Addr) (vm₁ : Vm) (B : Pt), s.WarmedH vm₁ ∧ Stand p l e R s m args below meth c B.U B.locs B.cells B.slots ∧ PostX ⟨T.setVm vm₁, locs, cells, slots⟩ (Value.ref b :: argsL).toArray q B ∧
      Steps p.tables e below (T.setTop g) ((B.U.setTop { g with stack := rest }).pushFrame (.throwing q))) := by
  obtain ⟨mk, methM, hnamed, hmethM, hstM, habM⟩ := Cond.instanceMethod_spec hinst
  obtain ⟨m8, methM', cM, hn8, hmethM', -, -, -, -, -, -, hsigM⟩ := Cond.codeWith_spec hcode
  cases Option.some.inj (hn8.symm.trans hnamed)
  cases hmethM.symm.trans hmethM'
  obtain ⟨c2, r2, m2, q1, q2, q3, q4, kP, hkP, hkPi⟩ := Cond.selects_spec hsel
  cases hcls.symm.trans q1
  cases (State.methodFound?_of_named hnamed hy).symm.trans q2
  cases hnamed.symm.trans q3
  have hselP : selectMethod e.platform s.vm cellB.cls mk = .method mk := by rw [Launch.admits_selectMethod X.admits]; exact q4
  obtain ⟨vm₁, X₁, hstep₁⟩ := X.invokevirtual hexec hown hlink hnamed hmethM hstM hkP hkPi hy (a := b) (cell := cellB) hcell
    (fun z h => by rw [h] at hobj; cases hobj) hselP hmethM habM hkP hkPi (g := g) hg (argsL := argsL) (rest := rest) (hlen _ hsigM) hstack hdg
  rcases hK m meth c ⟨T.setVm vm₁, locs, cells, slots⟩ { g with stack := rest } (.invokevirtual index) mk (Value.ref b :: argsL).toArray X₁ hg hsize hdg hW (X₁.named hnamed) (hpre vm₁ X₁.warmed) with ⟨v, B, X', hpost, hsteps⟩ | ⟨q, B, X', hpost, hsteps⟩
  · exact Or.inl ⟨v, vm₁, B, X₁.warmed, X', hpost, fun target h => hstep₁ _ fun acts => by rw [doInvoke_state]; exact hsteps.trans h⟩
  · exact Or.inr ⟨q, vm₁, B, X₁.warmed, X', hpost, hstep₁ _ fun acts => by rw [doInvoke_state]; exact hsteps⟩
theorem vx_callSX (X : Stand p l e R s m args below meth c T locs cells slots) (hexec : p.tables.exec = Jvm.exec) {own : String} {index : Nat} {y : MethodName} {bytes : ByteArray} {maxL : Nat} {ret : Option FieldType} {hh : List (Nat × Nat × Nat × Nat)}
    (hown : s.vm.findClass own = some m.cls) (hlink : (Cond.methodLink own index y).before args s = true) (hstat : (Cond.static y).before args s = true) (hinit : (Cond.initialized y.cls).before args s = true)
    (hcode : (Cond.codeWith y bytes maxL ret hh).before args s = true) (hy : y.cls ≠ "java/lang/invoke/MethodHandle" ∧ y.cls ≠ "java/lang/invoke/VarHandle")
    {W9 : Nat} {Pre : Pt → Array Value → Prop} {Post : Pt → Array Value → Option Value → Pt → Prop} {PostX : Pt → Array Value → Addr → Pt → Prop} (hK : vx_Back l R p e below s args y 3 W9 Pre Post PostX)
    {g : JFrame} (hg : g.method = m) (hsize : g.locals.size = c.maxLocals) {argsL rest : List Value} (hlen : ∀ sig, parseMethodDescriptor y.desc = some sig → argsL.length = sig.parameters.length)
    (hstack : g.stack = argsL.reverse ++ rest) (hW : 2 * g.monitorRoom + (rest.map fun v => v.category).sum ≤ W9) (hdg : decode c.code g.pc = .ok (.invokestatic index, 3))
    (hpre : ∀ vm₁, s.WarmedH vm₁ → Pre ⟨T.setVm vm₁, locs, cells, slots⟩ argsL.toArray) :
    (∃ (v : Option Value) (vm₁ : Vm) (B : Pt), s.WarmedH vm₁ ∧ Stand p l e R s m args below meth c B.U B.locs B.cells B.slots ∧ Post ⟨T.setVm vm₁, locs, cells, slots⟩ argsL.toArray v B ∧
      ∀ target, Steps p.tables e below (B.U.setTop { g with pc := g.pc + 3, stack := v.toList ++ rest }) target → Steps p.tables e below (T.setTop g) target) ∨
    (∃ (q : Addr) (vm₁ : Vm) (B : Pt), s.WarmedH vm₁ ∧ Stand p l e R s m args below meth c B.U B.locs B.cells B.slots ∧ PostX ⟨T.setVm vm₁, locs, cells, slots⟩ argsL.toArray q B ∧
      Steps p.tables e below (T.setTop g) ((B.U.setTop { g with stack := rest }).pushFrame (.throwing q))) := by
  obtain ⟨mk, methM, cM, hnamed, hmethM, -, -, -, -, -, -, hsigM⟩ := Cond.codeWith_spec hcode
  have hstatic : methM.isStatic = true := Cond.static_spec hnamed hmethM hstat
  obtain ⟨kP, hkP, -⟩ := className_of_methodNamed hnamed
  have hinitP : kP.init = .initialized := Cond.initialized_spec (findClass_of_methodNamed hnamed) hkP hinit
  obtain ⟨vm₁, X₁, hstep₁⟩ := X.invokestatic hexec hown hlink hnamed hmethM hstatic hkP hinitP hy (g := g) hg (argsL := argsL) (rest := rest) (hlen _ hsigM) hstack hdg
  rcases hK m meth c ⟨T.setVm vm₁, locs, cells, slots⟩ { g with stack := rest } (.invokestatic index) mk argsL.toArray X₁ hg hsize hdg hW (X₁.named hnamed) (hpre vm₁ X₁.warmed) with ⟨v, B, X', hpost, hsteps⟩ | ⟨q, B, X', hpost, hsteps⟩
  · exact Or.inl ⟨v, vm₁, B, X₁.warmed, X', hpost, fun target h => hstep₁ _ fun acts => by rw [doInvoke_state]; exact hsteps.trans h⟩
  · exact Or.inr ⟨q, vm₁, B, X₁.warmed, X', hpost, hstep₁ _ fun acts => by rw [doInvoke_state]; exact hsteps⟩
theorem vx_callVW (X : Stand p l e R s m args below meth c T locs cells slots) (hexec : p.tables.exec = Jvm.exec) {own C : String} {index : Nat} {y : MethodName} {bytes : ByteArray} {maxL : Nat} {ret : Option FieldType} {hh : List (Nat × Nat × Nat × Nat)}
    (hown : s.vm.findClass own = some m.cls) (hlink : (Cond.methodLink own index y).before args s = true) (hinst : (Cond.instanceMethod y).before args s = true) (hsel : (Cond.selects C y y).before args s = true)
    (hcode : (Cond.codeWith y bytes maxL ret hh).before args s = true) (hy : y.cls ≠ "java/lang/invoke/MethodHandle" ∧ y.cls ≠ "java/lang/invoke/VarHandle")
    {W9 : Nat} {Pre : Pt → Array Value → Prop} {Post : Pt → Array Value → Option Value → Pt → Prop} (hK : Back l R p e below s args y 3 W9 Pre Post)
    {b : Addr} {cellB : Cell} (hcell : T.heap[b]? = some cellB) (hobj : cellB.vm.isStatics = false) (hcls : s.vm.findClass C = some cellB.cls)
    {g : JFrame} (hg : g.method = m) (hsize : g.locals.size = c.maxLocals) {argsL rest : List Value} (hlen : ∀ sig, parseMethodDescriptor y.desc = some sig → argsL.length = sig.parameters.length)
    (hstack : g.stack = argsL.reverse ++ .ref b :: rest) (hW : 2 * g.monitorRoom + (rest.map fun v => v.category).sum ≤ W9) (hdg : decode c.code g.pc = .ok (.invokevirtual index, 3))
    (hpre : ∀ vm₁, s.WarmedH vm₁ → Pre ⟨T.setVm vm₁, locs, cells, slots⟩ (Value.ref b :: argsL).toArray) :
    ∃ (v : Option Value) (vm₁ : Vm) (B : Pt), s.WarmedH vm₁ ∧ Stand p l e R s m args below meth c B.U B.locs B.cells B.slots ∧ Post ⟨T.setVm vm₁, locs, cells, slots⟩ (Value.ref b :: argsL).toArray v B ∧
      ∀ target, Steps p.tables e below (B.U.setTop { g with pc := g.pc + 3, stack := v.toList ++ rest }) target → Steps p.tables e below (T.setTop g) target := by
  obtain ⟨mk, methM, hnamed, hmethM, hstM, habM⟩ := Cond.instanceMethod_spec hinst
  obtain ⟨m8, methM', cM, hn8, hmethM', -, -, -, -, -, -, hsigM⟩ := Cond.codeWith_spec hcode
  cases Option.some.inj (hn8.symm.trans hnamed)
  cases hmethM.symm.trans hmethM'
  obtain ⟨c2, r2, m2, q1, q2, q3, q4, kP, hkP, hkPi⟩ := Cond.selects_spec hsel
  cases hcls.symm.trans q1
  cases (State.methodFound?_of_named hnamed hy).symm.trans q2
  cases hnamed.symm.trans q3
  have hselP : selectMethod e.platform s.vm cellB.cls mk = .method mk := by rw [Launch.admits_selectMethod X.admits]; exact q4
  obtain ⟨vm₁, X₁, hstep₁⟩ := X.invokevirtual hexec hown hlink hnamed hmethM hstM hkP hkPi hy (a := b) (cell := cellB) hcell
    (fun z h => by rw [h] at hobj; cases hobj) hselP hmethM habM hkP hkPi (g := g) hg (argsL := argsL) (rest := rest) (hlen _ hsigM) hstack hdg
  obtain ⟨v, B, X', hpost, hsteps⟩ := hK m meth c ⟨T.setVm vm₁, locs, cells, slots⟩ { g with stack := rest } (.invokevirtual index) mk (Value.ref b :: argsL).toArray X₁ hg hsize hdg hW (X₁.named hnamed) (hpre vm₁ X₁.warmed)
  exact ⟨v, vm₁, B, X₁.warmed, X', hpost, fun target h => hstep₁ _ fun acts => by rw [doInvoke_state]; exact hsteps.trans h⟩
abbrev vx_CVW (R : Room) (s : State) (args : Array Value) (own C : String) (index : Nat) (y : MethodName) (bytes : ByteArray) (maxL : Nat) (ret : Option FieldType) (hh : List (Nat × Nat × Nat × Nat)) (ws : List Cond) (rm : Room) (mc ms n : Nat) : Prop :=
  (rm.cells = mc ∧ rm.slots = ms ∧ rm.frames + 1 ≤ R.frames ∧ 8 + (maxL + 11) + rm.locals ≤ R.locals ∧ (∀ w ∈ ws, ∀ (a' : Array Value) (U : State), s.WarmedH U.vm → w.before a' U = true) ∧ Cond.codeWith y bytes maxL ret hh ∈ ws) ∧
  (Cond.codeWith y bytes maxL ret hh).before args s = true ∧ (Cond.initialized y.cls).before args s = true ∧ (y.cls ≠ "java/lang/invoke/MethodHandle" ∧ y.cls ≠ "java/lang/invoke/VarHandle") ∧
  (∀ sig, parseMethodDescriptor y.desc = some sig → n = sig.parameters.length) ∧ (Cond.methodLink own index y).before args s = true ∧ (Cond.instanceMethod y).before args s = true ∧ (Cond.selects C y y).before args s = true
theorem vx_cwVW {own C : String} {index maxL mc ms : Nat} {y : MethodName} {bytes : ByteArray} {ret : Option FieldType} {hh : List (Nat × Nat × Nat × Nat)} {Ts ws ws' : List Cond} {rm : Room} (n : Nat) (ht : ∀ w ∈ Ts, w.before args s = true) (hT : GoodIn Ts (wsV own index C y ws)) (hw : ws = Cond.codeWith y bytes maxL ret hh :: ws') (hrc : rm.cells = mc) (hrs : rm.slots = ms)
    (hd : y.cls = C ∧ y.cls ≠ "java/lang/invoke/MethodHandle" ∧ y.cls ≠ "java/lang/invoke/VarHandle" ∧ (parseMethodDescriptor y.desc).map (fun d => d.parameters.length) = some n) (hR : rm.frames + 1 ≤ R.frames ∧ 8 + (maxL + 11) + rm.locals ≤ R.locals) :
    vx_CVW R s args own C index y bytes maxL ret hh ws rm mc ms n := by
  obtain ⟨hC, hd⟩ := hd
  subst hC
  have ok : ∀ w ∈ wsV own index y.cls y ws, w.before args s = true := fun w h => ht w (hT w h).1
  have hG : GoodIn Ts ws := fun w h => hT w (by unfold wsV; exact List.mem_append_right _ h)
  have hc : Cond.codeWith y bytes maxL ret hh ∈ ws := by rw [hw]; exact List.mem_cons_self
  refine ⟨⟨hrc, hrs, hR.1, hR.2, pay_in ht hG, hc⟩, ht _ (hG _ hc).1, ok _ (by simp [wsV]), ⟨hd.1, hd.2.1⟩, fun sig h => ?_, ok _ (by simp [wsV]), ok _ (by simp [wsV]), ok _ (by simp [wsV])⟩
  have h2 := hd.2.2
  rw [h] at h2
  exact (Option.some.inj h2).symm
theorem vx_runVW {y : MethodName} {bytes cc : ByteArray} {maxL nL mc ms n index : Nat} {ret : Option FieldType} {hh : List (Nat × Nat × Nat × Nat)} {ws : List Cond} {rm : Room} {Pc : Array Value → State → Prop} {Qc : Array Value → State → Outcome → State → Prop} {free : Addr → Prop} {Ts : List Cond} {own C : String} {b : Addr} {As rest : List Value} {g : JFrame}
    (S : CallFix p m c cc nL s args Ts own) (hM : Met l y ws rm Pc Qc mc ms free) (cw : vx_CVW R s args own C index y bytes maxL ret hh ws rm mc ms n) (hp : PreV s H C b Pc As)
    (hg : g.method = m) (hn : As.length = n) (hsize : g.locals.size = nL) (hstack : g.stack = As.reverse ++ .ref b :: rest) (hW : 2 * g.monitorRoom + (rest.map fun v => v.category).sum ≤ 8) (hdg : decode cc g.pc = .ok (.invokevirtual index, 3)) (hf : cells + mc ≤ R.cells ∧ slots + ms ≤ R.slots) :
    va_Run p l e R s m args below meth c H locs cells slots mc ms g rest (Qc (Value.ref b :: As).toArray) free := by
  obtain ⟨⟨hrc, hrs, hfr, hlo, hws, hcw⟩, hcode, hini, hy, hlen, hl, hin, hse⟩ := cw
  have hK : Back l R p e below s args y 3 8 (PreOf R mc ms Pc) (PostOf Qc mc ms free) := va_backW (hh := hh) (bytes := bytes) (maxL := maxL) (ret := ret) hM hp.1 hrc hrs hfr hlo hws hcw (fun a' U hW => word_at hW (Or.inl (by first | rfl | simp [Cond.onTables, Cond.keeps, Cond.steady])) hini)
  obtain ⟨hx, hb, hml, ho, -⟩ := S
  obtain ⟨-, ⟨cellB, hcB, hoB, hclB⟩, hPc⟩ := hp
  intro T hT X
  obtain ⟨v, vm₁, ⟨U', l2, c2, s2⟩, hW₁, X', ⟨g', mk, t, L, e1, e2, hq, h1, hL, h2, h3⟩, st⟩ := vx_callVW X hx (C := C) (hh := hh) (bytes := bytes) (maxL := maxL) (ret := ret) ho hl hin hse hcode hy hK (by rw [hT]; exact hcB) hoB hclB hg (hsize.trans hml.symm) (argsL := As) (rest := rest) (fun sig h => hn.trans (hlen sig h)) hstack hW (by rw [hb]; exact hdg)
    (fun vm₁ hW₁ => ⟨hf.1, hf.2, hPc (T.setVm vm₁) hT hW₁⟩)
  dsimp only [Pt.U, Pt.locs, Pt.cells, Pt.slots] at X' e1 e2 h1 h2 h3 st
  subst h1; subst h2; subst h3
  exact ⟨v, (T.setVm vm₁).calling g' mk (Value.ref b :: As).toArray, t, U', L, hT, X', hL, e1, e2, hq, st⟩
section
variable {y : MethodName} {bytes cc : ByteArray} {maxL nL mc ms n index : Nat} {ret : Option FieldType} {ws : List Cond} {rm : Room} {Pc : Array Value → State → Prop} {Qc : Array Value → State → Outcome → State → Prop} {XC : String → State → State → Prop} {free : Addr → Prop} {Ts : List Cond} {own C : String} {b : Addr} {As rest : List Value} {g : JFrame}
theorem vx_runVX {hh : List (Nat × Nat × Nat × Nat)} (S : CallFix p m c cc nL s args Ts own) (hM : vx_Met l y ws rm Pc Qc XC mc ms free) (cw : vx_CVW R s args own C index y bytes maxL ret hh ws rm mc ms n) (hp : PreV s H C b Pc As)
    (hg : g.method = m) (hn : As.length = n) (hsize : g.locals.size = nL) (hstack : g.stack = As.reverse ++ .ref b :: rest) (hW : 2 * g.monitorRoom + (rest.map fun v => v.category).sum ≤ 8) (hdg : decode cc g.pc = .ok (.invokevirtual index, 3)) (hf : cells + mc ≤ R.cells ∧ slots + ms ≤ R.slots) :
    vx_Run p l e R s m args below meth c H locs cells slots mc ms g rest (Qc (Value.ref b :: As).toArray) XC free := by
  obtain ⟨⟨hrc, hrs, hfr, hlo, hws, hcw⟩, hcode, hini, hy, hlen, hl, hin, hse⟩ := cw
  have hK : vx_Back l R p e below s args y 3 8 (PreOf R mc ms Pc) (PostOf Qc mc ms free) (vx_Post XC mc ms free) := vx_backW (hh := hh) (bytes := bytes) (maxL := maxL) (ret := ret) hM hp.1 hrc hrs hfr hlo hws hcw (fun a' U hW => word_at hW (Or.inl (by first | rfl | simp [Cond.onTables, Cond.keeps, Cond.steady])) hini)
  obtain ⟨hx, hb, hml, ho, -⟩ := S
  obtain ⟨-, ⟨cellB, hcB, hoB, hclB⟩, hPc⟩ := hp
  intro T hT X
  rcases vx_callVX X hx (C := C) (hh := hh) (bytes := bytes) (maxL := maxL) (ret := ret) ho hl hin hse hcode hy hK (by rw [hT]; exact hcB) hoB hclB hg (hsize.trans hml.symm) (argsL := As) (rest := rest) (fun sig h => hn.trans (hlen sig h)) hstack hW (by rw [hb]; exact hdg)
    (fun vm₁ hW₁ => ⟨hf.1, hf.2, hPc (T.setVm vm₁) hT hW₁⟩) with ⟨v, vm₁, ⟨U', l2, c2, s2⟩, hW₁, X', ⟨g', mk, t, L, e1, e2, hq, h1, hL, h2, h3⟩, st⟩ | ⟨q, vm₁, ⟨U', l2, c2, s2⟩, hW₁, X', ⟨g', mk, t, L, E, ce, e1, e2, hq, hce, hcv, hcl, h1, hL, h2, h3⟩, st⟩
  · dsimp only [Pt.U, Pt.locs, Pt.cells, Pt.slots] at X' e1 e2 h1 h2 h3 st
    subst h1; subst h2; subst h3
    exact Or.inl ⟨v, (T.setVm vm₁).calling g' mk (Value.ref b :: As).toArray, t, U', L, hT, X', hL, e1, e2, hq, st⟩
  · dsimp only [Pt.U, Pt.locs, Pt.cells, Pt.slots] at X' e1 e2 h1 h2 h3 st hcl
    subst h1; subst h2; subst h3
    exact Or.inr ⟨q, (T.setVm vm₁).calling g' mk (Value.ref b :: As).toArray, t, U', L, E, ce, hT, X', hL, e1, e2, hq, hce, hcv, vx_cls hW₁ hcl, st⟩
theorem vx_runSX {hh : List (Nat × Nat × Nat × Nat)} (S : CallFix p m c cc nL s args Ts own) (hM : vx_Met l y ws rm Pc Qc XC mc ms free) (cw : vx_CSW R s args own index y bytes maxL ret hh ws rm mc ms n) (hp : PreS s H Pc As)
    (hg : g.method = m) (hn : As.length = n) (hsize : g.locals.size = nL) (hstack : g.stack = As.reverse ++ rest) (hW : 2 * g.monitorRoom + (rest.map fun v => v.category).sum ≤ 8) (hdg : decode cc g.pc = .ok (.invokestatic index, 3)) (hf : cells + mc ≤ R.cells ∧ slots + ms ≤ R.slots) :
    vx_Run p l e R s m args below meth c H locs cells slots mc ms g rest (Qc As.toArray) XC free := by
  obtain ⟨⟨hrc, hrs, hfr, hlo, hws, hcw⟩, hcode, hini, hy, hlen, hl, hstt⟩ := cw
  have hK : vx_Back l R p e below s args y 3 8 (PreOf R mc ms Pc) (PostOf Qc mc ms free) (vx_Post XC mc ms free) := vx_backW (hh := hh) (bytes := bytes) (maxL := maxL) (ret := ret) hM hp.1 hrc hrs hfr hlo hws hcw (fun a' U hW => word_at hW (Or.inl (by first | rfl | simp [Cond.onTables, Cond.keeps, Cond.steady])) hini)
  obtain ⟨hx, hb, hml, ho, -⟩ := S
  intro T hT X
  rcases vx_callSX X hx (hh := hh) (bytes := bytes) (maxL := maxL) (ret := ret) ho hl hstt hini hcode hy hK hg (hsize.trans hml.symm) (argsL := As) (rest := rest) (fun sig h => hn.trans (hlen sig h)) hstack hW (by rw [hb]; exact hdg)
    (fun vm₁ hW₁ => ⟨hf.1, hf.2, hp.2 (T.setVm vm₁) hT hW₁⟩) with ⟨v, vm₁, ⟨U', l2, c2, s2⟩, hW₁, X', ⟨g', mk, t, L, e1, e2, hq, h1, hL, h2, h3⟩, st⟩ | ⟨q, vm₁, ⟨U', l2, c2, s2⟩, hW₁, X', ⟨g', mk, t, L, E, ce, e1, e2, hq, hce, hcv, hcl, h1, hL, h2, h3⟩, st⟩
  · dsimp only [Pt.U, Pt.locs, Pt.cells, Pt.slots] at X' e1 e2 h1 h2 h3 st
    subst h1; subst h2; subst h3
    exact Or.inl ⟨v, (T.setVm vm₁).calling g' mk As.toArray, t, U', L, hT, X', hL, e1, e2, hq, st⟩
  · dsimp only [Pt.U, Pt.locs, Pt.cells, Pt.slots] at X' e1 e2 h1 h2 h3 st hcl
    subst h1; subst h2; subst h3
    exact Or.inr ⟨q, (T.setVm vm₁).calling g' mk As.toArray, t, U', L, E, ce, hT, X', hL, e1, e2, hq, hce, hcv, vx_cls hW₁ hcl, st⟩
end
end VXH
theorem vx_ofWH {l : Launch} {y : MethodName} {ws ws' : List Cond} {rm : Room} {Pc : Array Value → State → Prop} {Qc : Array Value → State → Outcome → State → Prop} {XC : String → State → State → Prop} {mc ms : Nat} {free : Addr → Prop} {cc : ByteArray} {maxL : Nat} {ret : Option FieldType} {hh : List (Nat × Nat × Nat × Nat)}
    (hy : plainName y.cls = true) (hw : ws = Cond.codeWith y cc maxL ret hh :: ws')
    (body : ∀ p e s m args below meth c s₁, BodyLoose p l y (headSpec ws rm) cc maxL ret e s m args below meth c s₁ → c.maxLocals = maxL → Pc args s →
      W p l e (headSpec ws rm).room s m args below meth c s.heap [] 0 0 (vx_MQ below Qc XC args s mc ms free) (entryFrame m args maxL)) : vx_Met l y ws rm Pc Qc XC mc ms free := by
  refine MetFree.of_bodyS (code := cc) (maxLocals := maxL) (ret := ret) hy ?_ ?_
  · intro args s m h hn
    obtain ⟨m9, meth, c, hn9, h1, h2, h3, h4, -, h5, h6, -⟩ := Cond.codeWith_spec (atoms_spec (ws := ws) h _ (by rw [hw]; exact List.mem_cons_self))
    cases hn.symm.trans hn9
    exact ⟨meth, c, h1, h2, h3, h4, h5, h6⟩
  · intro p e s m args below meth c s₁ B hml hP _
    have hh0 : s₁.heap = s.heap := by rw [B.state]; rfl
    obtain ⟨t, a1, o, b1, b2, b3⟩ := body p e s m args below meth c s₁ B hml hP s₁ hh0 (Stand.of_body B)
    exact ⟨t, o, a1, b1, b2, b3⟩
/-! ===== END ===== -/
end
section
/-! ===== BEGIN printed: names, fields, word lists, decode rows ===== -/
def RX0 : String := "FloatMarket$Canoe"
def TX0 : u_T := fun k => match k with
  | 0 => ("FloatMarket$Canoe", "number", "I", true)
  | 1 => ("FloatMarket$Canoe", "has", "[I", true)
  | 2 => ("FloatMarket$Canoe", "asks", "[I", true)
  | 3 => ("FloatMarket$Canoe", "wants", "[I", true)
  | 4 => ("FloatMarket$Canoe", "pays", "[I", true)
  | 5 => ("FloatMarket$Canoe", "coins", "I", false)
  | 6 => ("FloatMarket$Canoe", "rope", "I", false)
  | 7 => ("FloatMarket$Canoe", "status", "I", false)
  | 8 => ("FloatMarket$Canoe", "row", "I", false)
  | 9 => ("FloatMarket$Canoe", "place", "I", false)
  | 10 => ("FloatMarket$Canoe", "leaveStep", "I", false)
  | 11 => ("FloatMarket$Canoe", "loosened", "I", false)
  | 12 => ("FloatMarket$Canoe", "drifted", "I", false)
  | 13 => ("FloatMarket$Canoe", "lastDriftStep", "I", false)
  | 14 => ("FloatMarket$Canoe", "sold", "I", false)
  | _ => ("FloatMarket$Canoe", "bought", "I", false)
def tyX0 : Nat → FieldType := fun k => match k with
  | 0 => .int
  | 1 => .array .int
  | 2 => .array .int
  | 3 => .array .int
  | 4 => .array .int
  | 5 => .int
  | 6 => .int
  | 7 => .int
  | 8 => .int
  | 9 => .int
  | 10 => .int
  | 11 => .int
  | 12 => .int
  | 13 => .int
  | 14 => .int
  | _ => .int
abbrev wsX00 : List Cond := u_ws RX0 TX0 16
theorem nmX0 : ∀ a, a < 16 → ∀ b, b < 16 → a ≠ b → (TX0 a).2.1 ≠ (TX0 b).2.1 := by decide +kernel
theorem tyX0_ok : ∀ k, k < 16 → parseFieldDescriptor (TX0 k).2.2.1 = some (tyX0 k) := by decide +kernel
abbrev cX0_init : ByteArray := prog_2_method_1_code
def yX0_init : MethodName := ⟨RX0, "<init>", "(I)V"⟩
abbrev cX0_copyFrom : ByteArray := prog_2_method_2_code
def yX0_copyFrom : MethodName := ⟨RX0, "copyFrom", "(LFloatMarket$Canoe;)V"⟩
abbrev cX0_misses : ByteArray := prog_2_method_3_code
def yX0_misses : MethodName := ⟨RX0, "misses", "(I)I"⟩
abbrev cX0_missesInAll : ByteArray := prog_2_method_4_code
def yX0_missesInAll : MethodName := ⟨RX0, "missesInAll", "()I"⟩
abbrev cX0_goodsInAll : ByteArray := prog_2_method_5_code
def yX0_goodsInAll : MethodName := ⟨RX0, "goodsInAll", "()I"⟩
abbrev cX0_sells : ByteArray := prog_2_method_6_code
def yX0_sells : MethodName := ⟨RX0, "sells", "(II)Z"⟩
abbrev cX0_isBeside : ByteArray := prog_2_method_7_code
def yX0_isBeside : MethodName := ⟨RX0, "isBeside", "(LFloatMarket$Canoe;)Z"⟩
abbrev cX0_hasReached : ByteArray := prog_2_method_8_code
def yX0_hasReached : MethodName := ⟨RX0, "hasReached", "(I)Z"⟩
abbrev cX0_isToLeaveBy : ByteArray := prog_2_method_9_code
def yX0_isToLeaveBy : MethodName := ⟨RX0, "isToLeaveBy", "(I)Z"⟩
abbrev cX0_figure : ByteArray := prog_2_method_10_code
def yX0_figure : MethodName := ⟨RX0, "figure", "(I)I"⟩
abbrev cX0_goodFigure : ByteArray := prog_2_method_11_code
def yX0_goodFigure : MethodName := ⟨RX0, "goodFigure", "(II)I"⟩
abbrev cX0_addTo : ByteArray := prog_2_method_12_code
def yX0_addTo : MethodName := ⟨RX0, "addTo", "(J)J"⟩
def RX1 : String := "FloatMarket$Market"
def TX1 : u_T := fun k => match k with
  | 0 => ("FloatMarket$Market", "water", "LFloatMarket$Water;", true)
  | 1 => ("FloatMarket$Market", "rows", "[LFloatMarket$Row;", true)
  | 2 => ("FloatMarket$Market", "canoes", "[LFloatMarket$Canoe;", true)
  | 3 => ("FloatMarket$Market", "rowCount", "I", false)
  | 4 => ("FloatMarket$Market", "canoeCount", "I", false)
  | 5 => ("FloatMarket$Market", "step", "I", false)
  | 6 => ("FloatMarket$Market", "sold", "I", false)
  | 7 => ("FloatMarket$Market", "paid", "I", false)
  | 8 => ("FloatMarket$Market", "loosened", "I", false)
  | _ => ("FloatMarket$Market", "drifted", "I", false)
def tyX1 : Nat → FieldType := fun k => match k with
  | 0 => .object "FloatMarket$Water"
  | 1 => .array (.object "FloatMarket$Row")
  | 2 => .array (.object "FloatMarket$Canoe")
  | 3 => .int
  | 4 => .int
  | 5 => .int
  | 6 => .int
  | 7 => .int
  | 8 => .int
  | _ => .int
abbrev wsX10 : List Cond := u_ws RX1 TX1 10
theorem nmX1 : ∀ a, a < 10 → ∀ b, b < 10 → a ≠ b → (TX1 a).2.1 ≠ (TX1 b).2.1 := by decide +kernel
theorem tyX1_ok : ∀ k, k < 10 → parseFieldDescriptor (TX1 k).2.2.1 = some (tyX1 k) := by decide +kernel
abbrev cX1_init : ByteArray := prog_3_method_1_code
def yX1_init : MethodName := ⟨RX1, "<init>", "(LFloatMarket$Water;)V"⟩
abbrev cX1_copyFrom : ByteArray := prog_3_method_2_code
def yX1_copyFrom : MethodName := ⟨RX1, "copyFrom", "(LFloatMarket$Market;)V"⟩
abbrev cX1_openRow : ByteArray := prog_3_method_3_code
def yX1_openRow : MethodName := ⟨RX1, "openRow", "(I)I"⟩
abbrev cX1_launch : ByteArray := prog_3_method_4_code
def yX1_launch : MethodName := ⟨RX1, "launch", "(II)I"⟩
abbrev cX1_fasten : ByteArray := prog_3_method_5_code
def yX1_fasten : MethodName := ⟨RX1, "fasten", "(LFloatMarket$Canoe;I)V"⟩
abbrev cX1_unfasten : ByteArray := prog_3_method_6_code
def yX1_unfasten : MethodName := ⟨RX1, "unfasten", "(LFloatMarket$Canoe;I)I"⟩
abbrev cX1_liesDry : ByteArray := prog_3_method_7_code
def yX1_liesDry : MethodName := ⟨RX1, "liesDry", "(LFloatMarket$Canoe;)Z"⟩
abbrev cX1_passSteps : ByteArray := prog_3_method_8_code
def yX1_passSteps : MethodName := ⟨RX1, "passSteps", "(I)V"⟩
abbrev cX1_driftByRows : ByteArray := prog_3_method_9_code
def yX1_driftByRows : MethodName := ⟨RX1, "driftByRows", "()V"⟩
abbrev cX1_drift : ByteArray := prog_3_method_10_code
def yX1_drift : MethodName := ⟨RX1, "drift", "(LFloatMarket$Canoe;I)V"⟩
abbrev cX1_nextRowNotFull : ByteArray := prog_3_method_11_code
def yX1_nextRowNotFull : MethodName := ⟨RX1, "nextRowNotFull", "(I)I"⟩
abbrev cX1_leaveByNumbers : ByteArray := prog_3_method_12_code
def yX1_leaveByNumbers : MethodName := ⟨RX1, "leaveByNumbers", "()V"⟩
abbrev cX1_tradeByNumbers : ByteArray := prog_3_method_13_code
def yX1_tradeByNumbers : MethodName := ⟨RX1, "tradeByNumbers", "()V"⟩
abbrev cX1_cheapestSeller : ByteArray := prog_3_method_14_code
def yX1_cheapestSeller : MethodName := ⟨RX1, "cheapestSeller", "(LFloatMarket$Canoe;I)LFloatMarket$Canoe;"⟩
abbrev cX1_cheaper : ByteArray := prog_3_method_15_code
def yX1_cheaper : MethodName := ⟨RX1, "cheaper", "(LFloatMarket$Canoe;LFloatMarket$Canoe;II)LFloatMarket$Canoe;"⟩
abbrev cX1_trade : ByteArray := prog_3_method_16_code
def yX1_trade : MethodName := ⟨RX1, "trade", "(LFloatMarket$Canoe;LFloatMarket$Canoe;I)V"⟩
abbrev cX1_canoeAt : ByteArray := prog_3_method_17_code
def yX1_canoeAt : MethodName := ⟨RX1, "canoeAt", "(II)LFloatMarket$Canoe;"⟩
abbrev cX1_figure : ByteArray := prog_3_method_18_code
def yX1_figure : MethodName := ⟨RX1, "figure", "(I)I"⟩
abbrev cX1_coinsInAll : ByteArray := prog_3_method_19_code
def yX1_coinsInAll : MethodName := ⟨RX1, "coinsInAll", "()I"⟩
abbrev cX1_goodsInAll : ByteArray := prog_3_method_20_code
def yX1_goodsInAll : MethodName := ⟨RX1, "goodsInAll", "()I"⟩
abbrev cX1_canoesBeing : ByteArray := prog_3_method_21_code
def yX1_canoesBeing : MethodName := ⟨RX1, "canoesBeing", "(I)I"⟩
abbrev cX1_dryCanoes : ByteArray := prog_3_method_22_code
def yX1_dryCanoes : MethodName := ⟨RX1, "dryCanoes", "()I"⟩
def RX2 : String := "FloatMarket$Row"
def TX2 : u_T := fun k => match k with
  | 0 => ("FloatMarket$Row", "moored", "[I", true)
  | 1 => ("FloatMarket$Row", "places", "I", false)
  | _ => ("FloatMarket$Row", "used", "I", false)
def tyX2 : Nat → FieldType := fun k => match k with
  | 0 => .array .int
  | 1 => .int
  | _ => .int
abbrev wsX20 : List Cond := u_ws RX2 TX2 3
theorem nmX2 : ∀ a, a < 3 → ∀ b, b < 3 → a ≠ b → (TX2 a).2.1 ≠ (TX2 b).2.1 := by decide +kernel
theorem tyX2_ok : ∀ k, k < 3 → parseFieldDescriptor (TX2 k).2.2.1 = some (tyX2 k) := by decide +kernel
abbrev cX2_init : ByteArray := prog_4_method_1_code
def yX2_init : MethodName := ⟨RX2, "<init>", "()V"⟩
abbrev cX2_copyFrom : ByteArray := prog_4_method_2_code
def yX2_copyFrom : MethodName := ⟨RX2, "copyFrom", "(LFloatMarket$Row;)V"⟩
abbrev cX2_isFull : ByteArray := prog_4_method_3_code
def yX2_isFull : MethodName := ⟨RX2, "isFull", "()Z"⟩
abbrev cX2_canoeAt : ByteArray := prog_4_method_4_code
def yX2_canoeAt : MethodName := ⟨RX2, "canoeAt", "(I)I"⟩
abbrev cX2_append : ByteArray := prog_4_method_5_code
def yX2_append : MethodName := ⟨RX2, "append", "(I)V"⟩
abbrev cX2_closeGap : ByteArray := prog_4_method_6_code
def yX2_closeGap : MethodName := ⟨RX2, "closeGap", "(I)V"⟩
abbrev cX2_addTo : ByteArray := prog_4_method_7_code
def yX2_addTo : MethodName := ⟨RX2, "addTo", "(J)J"⟩
def RX3 : String := "FloatMarket$Water"
def TX3 : u_T := fun k => match k with
  | 0 => ("FloatMarket$Water", "tides", "[I", true)
  | _ => ("FloatMarket$Water", "wakes", "[I", true)
def tyX3 : Nat → FieldType := fun k => match k with
  | 0 => .array .int
  | _ => .array .int
abbrev wsX30 : List Cond := u_ws RX3 TX3 2
theorem nmX3 : ∀ a, a < 2 → ∀ b, b < 2 → a ≠ b → (TX3 a).2.1 ≠ (TX3 b).2.1 := by decide +kernel
theorem tyX3_ok : ∀ k, k < 2 → parseFieldDescriptor (TX3 k).2.2.1 = some (tyX3 k) := by decide +kernel
abbrev cX3_init : ByteArray := prog_5_method_1_code
def yX3_init : MethodName := ⟨RX3, "<init>", "()V"⟩
abbrev cX3_tideIn : ByteArray := prog_5_method_2_code
def yX3_tideIn : MethodName := ⟨RX3, "tideIn", "(I)I"⟩
abbrev cX3_wakeIn : ByteArray := prog_5_method_3_code
def yX3_wakeIn : MethodName := ⟨RX3, "wakeIn", "(I)I"⟩
abbrev cX3_entry : ByteArray := prog_5_method_4_code
def yX3_entry : MethodName := ⟨RX3, "entry", "(I)I"⟩
def RX4 : String := "FloatMarket"
def TX4 : u_T := fun k => match k with
  | 0 => ("FloatMarket", "water", "LFloatMarket$Water;", true)
  | 1 => ("FloatMarket", "now", "LFloatMarket$Market;", true)
  | _ => ("FloatMarket", "trial", "LFloatMarket$Market;", true)
def tyX4 : Nat → FieldType := fun k => match k with
  | 0 => .object "FloatMarket$Water"
  | 1 => .object "FloatMarket$Market"
  | _ => .object "FloatMarket$Market"
abbrev wsX40 : List Cond := u_ws RX4 TX4 3
theorem nmX4 : ∀ a, a < 3 → ∀ b, b < 3 → a ≠ b → (TX4 a).2.1 ≠ (TX4 b).2.1 := by decide +kernel
theorem tyX4_ok : ∀ k, k < 3 → parseFieldDescriptor (TX4 k).2.2.1 = some (tyX4 k) := by decide +kernel
abbrev cX4_init : ByteArray := prog_1_method_1_code
def yX4_init : MethodName := ⟨RX4, "<init>", "()V"⟩
abbrev cX4_addRow : ByteArray := prog_1_method_2_code
def yX4_addRow : MethodName := ⟨RX4, "addRow", "(I)I"⟩
abbrev cX4_setWater : ByteArray := prog_1_method_3_code
def yX4_setWater : MethodName := ⟨RX4, "setWater", "(III)I"⟩
abbrev cX4_addCanoe : ByteArray := prog_1_method_4_code
def yX4_addCanoe : MethodName := ⟨RX4, "addCanoe", "(II)I"⟩
abbrev cX4_load : ByteArray := prog_1_method_5_code
def yX4_load : MethodName := ⟨RX4, "load", "(III)I"⟩
abbrev cX4_offer : ByteArray := prog_1_method_6_code
def yX4_offer : MethodName := ⟨RX4, "offer", "(IIIII)I"⟩
abbrev cX4_moor : ByteArray := prog_1_method_7_code
def yX4_moor : MethodName := ⟨RX4, "moor", "(II)I"⟩
abbrev cX4_castOff : ByteArray := prog_1_method_8_code
def yX4_castOff : MethodName := ⟨RX4, "castOff", "(I)I"⟩
abbrev cX4_leaveIn : ByteArray := prog_1_method_9_code
def yX4_leaveIn : MethodName := ⟨RX4, "leaveIn", "(II)I"⟩
abbrev cX4_canoe : ByteArray := prog_1_method_10_code
def yX4_canoe : MethodName := ⟨RX4, "canoe", "(II)I"⟩
abbrev cX4_good : ByteArray := prog_1_method_11_code
def yX4_good : MethodName := ⟨RX4, "good", "(III)I"⟩
abbrev cX4_at : ByteArray := prog_1_method_12_code
def yX4_at : MethodName := ⟨RX4, "at", "(II)I"⟩
abbrev cX4_beside : ByteArray := prog_1_method_13_code
def yX4_beside : MethodName := ⟨RX4, "beside", "(II)Z"⟩
abbrev cX4_pass : ByteArray := prog_1_method_14_code
def yX4_pass : MethodName := ⟨RX4, "pass", "(I)I"⟩
abbrev cX4_count : ByteArray := prog_1_method_15_code
def yX4_count : MethodName := ⟨RX4, "count", "(I)I"⟩
abbrev cX4_foresee : ByteArray := prog_1_method_16_code
def yX4_foresee : MethodName := ⟨RX4, "foresee", "(III)I"⟩
abbrev cX4_full : ByteArray := prog_1_method_17_code
def yX4_full : MethodName := ⟨RX4, "full", "(I)I"⟩
abbrev cX4_gone : ByteArray := prog_1_method_18_code
def yX4_gone : MethodName := ⟨RX4, "gone", "(I)I"⟩
abbrev cX4_advise : ByteArray := prog_1_method_19_code
def yX4_advise : MethodName := ⟨RX4, "advise", "(II)I"⟩
abbrev cX4_price : ByteArray := prog_1_method_20_code
def yX4_price : MethodName := ⟨RX4, "price", "(III)I"⟩
abbrev cX4_mean : ByteArray := prog_1_method_21_code
def yX4_mean : MethodName := ⟨RX4, "mean", "()D"⟩
abbrev cX4_digest : ByteArray := prog_1_method_22_code
def yX4_digest : MethodName := ⟨RX4, "digest", "()J"⟩
abbrev cX4_stepsUntil : ByteArray := prog_1_method_23_code
def yX4_stepsUntil : MethodName := ⟨RX4, "stepsUntil", "(II)I"⟩
abbrev cX4_coinsIfMoored : ByteArray := prog_1_method_24_code
def yX4_coinsIfMoored : MethodName := ⟨RX4, "coinsIfMoored", "(III)I"⟩
abbrev cX4_soldIfAsking : ByteArray := prog_1_method_25_code
def yX4_soldIfAsking : MethodName := ⟨RX4, "soldIfAsking", "(IIII)I"⟩
abbrev cX4_needIndex : ByteArray := prog_1_method_26_code
def yX4_needIndex : MethodName := ⟨RX4, "needIndex", "(II)V"⟩
abbrev cX4_needRange : ByteArray := prog_1_method_27_code
def yX4_needRange : MethodName := ⟨RX4, "needRange", "(III)V"⟩
abbrev cX4_needState : ByteArray := prog_1_method_28_code
def yX4_needState : MethodName := ⟨RX4, "needState", "(Z)V"⟩
def RX5 : String := "FloatMarketModel$State"
def TX5 : u_T := fun k => match k with
  | 0 => ("FloatMarketModel$State", "step", "I", false)
  | 1 => ("FloatMarketModel$State", "sum", "I", false)
  | 2 => ("FloatMarketModel$State", "coinsPaid", "I", false)
  | 3 => ("FloatMarketModel$State", "coins", "[I", true)
  | 4 => ("FloatMarketModel$State", "has", "[I", true)
  | 5 => ("FloatMarketModel$State", "is", "[I", true)
  | 6 => ("FloatMarketModel$State", "row", "[I", true)
  | 7 => ("FloatMarketModel$State", "place", "[I", true)
  | 8 => ("FloatMarketModel$State", "leaves", "[I", true)
  | 9 => ("FloatMarketModel$State", "loosened", "[I", true)
  | 10 => ("FloatMarketModel$State", "drifted", "[I", true)
  | 11 => ("FloatMarketModel$State", "sold", "[I", true)
  | 12 => ("FloatMarketModel$State", "bought", "[I", true)
  | _ => ("FloatMarketModel$State", "this$0", "LFloatMarketModel;", true)
def tyX5 : Nat → FieldType := fun k => match k with
  | 0 => .int
  | 1 => .int
  | 2 => .int
  | 3 => .array .int
  | 4 => .array .int
  | 5 => .array .int
  | 6 => .array .int
  | 7 => .array .int
  | 8 => .array .int
  | 9 => .array .int
  | 10 => .array .int
  | 11 => .array .int
  | 12 => .array .int
  | _ => .object "FloatMarketModel"
abbrev wsX50 : List Cond := u_ws RX5 TX5 14
theorem nmX5 : ∀ a, a < 14 → ∀ b, b < 14 → a ≠ b → (TX5 a).2.1 ≠ (TX5 b).2.1 := by decide +kernel
theorem tyX5_ok : ∀ k, k < 14 → parseFieldDescriptor (TX5 k).2.2.1 = some (tyX5 k) := by decide +kernel
abbrev cX5_init : ByteArray := prog_8_method_1_code
def yX5_init : MethodName := ⟨RX5, "<init>", "(LFloatMarketModel;)V"⟩
abbrev cX5_copy : ByteArray := prog_8_method_2_code
def yX5_copy : MethodName := ⟨RX5, "copy", "([I[I)V"⟩
abbrev cX5_become : ByteArray := prog_8_method_3_code
def yX5_become : MethodName := ⟨RX5, "become", "(LFloatMarketModel$State;)V"⟩
abbrev cX5_at : ByteArray := prog_8_method_4_code
def yX5_at : MethodName := ⟨RX5, "at", "(II)I"⟩
abbrev cX5_in : ByteArray := prog_8_method_5_code
def yX5_in : MethodName := ⟨RX5, "in", "(I)I"⟩
abbrev cX5_isFull : ByteArray := prog_8_method_6_code
def yX5_isFull : MethodName := ⟨RX5, "isFull", "(I)Z"⟩
abbrev cX5_isDry : ByteArray := prog_8_method_7_code
def yX5_isDry : MethodName := ⟨RX5, "isDry", "(I)Z"⟩
abbrev cX5_moor : ByteArray := prog_8_method_8_code
def yX5_moor : MethodName := ⟨RX5, "moor", "(II)V"⟩
abbrev cX5_castOff : ByteArray := prog_8_method_9_code
def yX5_castOff : MethodName := ⟨RX5, "castOff", "(I)I"⟩
abbrev cX5_beside : ByteArray := prog_8_method_10_code
def yX5_beside : MethodName := ⟨RX5, "beside", "(II)Z"⟩
abbrev cX5_misses : ByteArray := prog_8_method_11_code
def yX5_misses : MethodName := ⟨RX5, "misses", "(II)I"⟩
abbrev cX5_misses_ : ByteArray := prog_8_method_12_code
def yX5_misses_ : MethodName := ⟨RX5, "misses", "(I)I"⟩
abbrev cX5_drift : ByteArray := prog_8_method_13_code
def yX5_drift : MethodName := ⟨RX5, "drift", "(I[Z)V"⟩
abbrev cX5_trade : ByteArray := prog_8_method_14_code
def yX5_trade : MethodName := ⟨RX5, "trade", "(II)V"⟩
abbrev cX5_pass : ByteArray := prog_8_method_15_code
def yX5_pass : MethodName := ⟨RX5, "pass", "([Z)I"⟩
abbrev cX5_all : ByteArray := prog_8_method_16_code
def yX5_all : MethodName := ⟨RX5, "all", "([I)I"⟩
abbrev cX5_being : ByteArray := prog_8_method_17_code
def yX5_being : MethodName := ⟨RX5, "being", "(I)I"⟩
def RX6 : String := "FloatMarketModel"
def TX6 : u_T := fun k => match k with
  | 0 => ("FloatMarketModel", "thrown", "I", false)
  | 1 => ("FloatMarketModel", "rows", "I", false)
  | 2 => ("FloatMarketModel", "places", "[I", true)
  | 3 => ("FloatMarketModel", "tide", "[I", true)
  | 4 => ("FloatMarketModel", "wake", "[I", true)
  | 5 => ("FloatMarketModel", "canoes", "I", false)
  | 6 => ("FloatMarketModel", "rope", "[I", true)
  | 7 => ("FloatMarketModel", "price", "[I", true)
  | 8 => ("FloatMarketModel", "wants", "[I", true)
  | 9 => ("FloatMarketModel", "pays", "[I", true)
  | 10 => ("FloatMarketModel", "s", "LFloatMarketModel$State;", true)
  | 11 => ("FloatMarketModel", "ahead", "LFloatMarketModel$State;", true)
  | _ => ("FloatMarketModel", "did", "[Z", true)
def tyX6 : Nat → FieldType := fun k => match k with
  | 0 => .int
  | 1 => .int
  | 2 => .array .int
  | 3 => .array .int
  | 4 => .array .int
  | 5 => .int
  | 6 => .array .int
  | 7 => .array .int
  | 8 => .array .int
  | 9 => .array .int
  | 10 => .object "FloatMarketModel$State"
  | 11 => .object "FloatMarketModel$State"
  | _ => .array .boolean
abbrev wsX60 : List Cond := u_ws RX6 TX6 13
theorem nmX6 : ∀ a, a < 13 → ∀ b, b < 13 → a ≠ b → (TX6 a).2.1 ≠ (TX6 b).2.1 := by decide +kernel
theorem tyX6_ok : ∀ k, k < 13 → parseFieldDescriptor (TX6 k).2.2.1 = some (tyX6 k) := by decide +kernel
abbrev cX6_init : ByteArray := prog_7_method_1_code
def yX6_init : MethodName := ⟨RX6, "<init>", "()V"⟩
abbrev cX6_thrown : ByteArray := prog_7_method_2_code
def yX6_thrown : MethodName := ⟨RX6, "thrown", "()I"⟩
abbrev cX6_no : ByteArray := prog_7_method_3_code
def yX6_no : MethodName := ⟨RX6, "no", "(I)I"⟩
abbrev cX6_isIn : ByteArray := prog_7_method_4_code
def yX6_isIn : MethodName := ⟨RX6, "isIn", "(III)Z"⟩
abbrev cX6_isCanoe : ByteArray := prog_7_method_5_code
def yX6_isCanoe : MethodName := ⟨RX6, "isCanoe", "(I)Z"⟩
abbrev cX6_isRow : ByteArray := prog_7_method_6_code
def yX6_isRow : MethodName := ⟨RX6, "isRow", "(I)Z"⟩
abbrev cX6_isGood : ByteArray := prog_7_method_7_code
def yX6_isGood : MethodName := ⟨RX6, "isGood", "(I)Z"⟩
abbrev cX6_pass : ByteArray := prog_7_method_8_code
def yX6_pass : MethodName := ⟨RX6, "pass", "(LFloatMarketModel$State;I)I"⟩
abbrev cX6_addRow : ByteArray := prog_7_method_9_code
def yX6_addRow : MethodName := ⟨RX6, "addRow", "(I)I"⟩
abbrev cX6_setWater : ByteArray := prog_7_method_10_code
def yX6_setWater : MethodName := ⟨RX6, "setWater", "(III)I"⟩
abbrev cX6_addCanoe : ByteArray := prog_7_method_11_code
def yX6_addCanoe : MethodName := ⟨RX6, "addCanoe", "(II)I"⟩
abbrev cX6_load : ByteArray := prog_7_method_12_code
def yX6_load : MethodName := ⟨RX6, "load", "(III)I"⟩
abbrev cX6_offer : ByteArray := prog_7_method_13_code
def yX6_offer : MethodName := ⟨RX6, "offer", "(IIIII)I"⟩
abbrev cX6_moor : ByteArray := prog_7_method_14_code
def yX6_moor : MethodName := ⟨RX6, "moor", "(II)I"⟩
abbrev cX6_castOff : ByteArray := prog_7_method_15_code
def yX6_castOff : MethodName := ⟨RX6, "castOff", "(I)I"⟩
abbrev cX6_leaveIn : ByteArray := prog_7_method_16_code
def yX6_leaveIn : MethodName := ⟨RX6, "leaveIn", "(II)I"⟩
abbrev cX6_canoeTold : ByteArray := prog_7_method_17_code
def yX6_canoeTold : MethodName := ⟨RX6, "canoeTold", "(II)I"⟩
abbrev cX6_canoe : ByteArray := prog_7_method_18_code
def yX6_canoe : MethodName := ⟨RX6, "canoe", "(II)I"⟩
abbrev cX6_goodTold : ByteArray := prog_7_method_19_code
def yX6_goodTold : MethodName := ⟨RX6, "goodTold", "(II)I"⟩
abbrev cX6_good : ByteArray := prog_7_method_20_code
def yX6_good : MethodName := ⟨RX6, "good", "(III)I"⟩
abbrev cX6_at : ByteArray := prog_7_method_21_code
def yX6_at : MethodName := ⟨RX6, "at", "(II)I"⟩
abbrev cX6_beside : ByteArray := prog_7_method_22_code
def yX6_beside : MethodName := ⟨RX6, "beside", "(II)Z"⟩
abbrev cX6_pass_ : ByteArray := prog_7_method_23_code
def yX6_pass_ : MethodName := ⟨RX6, "pass", "(I)I"⟩
abbrev cX6_counted : ByteArray := prog_7_method_24_code
def yX6_counted : MethodName := ⟨RX6, "counted", "(I)I"⟩
abbrev cX6_count : ByteArray := prog_7_method_25_code
def yX6_count : MethodName := ⟨RX6, "count", "(I)I"⟩
abbrev cX6_foresee : ByteArray := prog_7_method_26_code
def yX6_foresee : MethodName := ⟨RX6, "foresee", "(III)I"⟩
abbrev cX6_full : ByteArray := prog_7_method_27_code
def yX6_full : MethodName := ⟨RX6, "full", "(I)I"⟩
abbrev cX6_gone : ByteArray := prog_7_method_28_code
def yX6_gone : MethodName := ⟨RX6, "gone", "(I)I"⟩
abbrev cX6_advise : ByteArray := prog_7_method_29_code
def yX6_advise : MethodName := ⟨RX6, "advise", "(II)I"⟩
abbrev cX6_price : ByteArray := prog_7_method_30_code
def yX6_price : MethodName := ⟨RX6, "price", "(III)I"⟩
abbrev cX6_mean : ByteArray := prog_7_method_31_code
def yX6_mean : MethodName := ⟨RX6, "mean", "()D"⟩
abbrev cX6_digest : ByteArray := prog_7_method_32_code
def yX6_digest : MethodName := ⟨RX6, "digest", "()J"⟩
def RJx145de : String := "java/io/Serializable"
def TJx145de : u_T := fun k => match k with
  | _ => ("", "", "", false)
def tyJx145de : Nat → FieldType := fun k => match k with
  | _ => .int
abbrev wsJx145de0 : List Cond := u_ws RJx145de TJx145de 0
theorem nmJx145de : ∀ a, a < 0 → ∀ b, b < 0 → a ≠ b → (TJx145de a).2.1 ≠ (TJx145de b).2.1 := by decide +kernel
theorem tyJx145de_ok : ∀ k, k < 0 → parseFieldDescriptor (TJx145de k).2.2.1 = some (tyJx145de k) := by decide +kernel
def RJ9 : String := "java/lang/Math"
def TJ9 : u_T := fun k => match k with
  | _ => ("", "", "", false)
def tyJ9 : Nat → FieldType := fun k => match k with
  | _ => .int
abbrev wsJ90 : List Cond := u_ws RJ9 TJ9 0
theorem nmJ9 : ∀ a, a < 0 → ∀ b, b < 0 → a ≠ b → (TJ9 a).2.1 ≠ (TJ9 b).2.1 := by decide +kernel
theorem tyJ9_ok : ∀ k, k < 0 → parseFieldDescriptor (TJ9 k).2.2.1 = some (tyJ9 k) := by decide +kernel
abbrev cJ9_floorMod_7cf53 : ByteArray := prog_13_method_50_code
def yJ9_floorMod_7cf53 : MethodName := ⟨RJ9, "floorMod", "(II)I"⟩
abbrev cJ9_abs_0f7a4 : ByteArray := prog_13_method_59_code
def yJ9_abs_0f7a4 : MethodName := ⟨RJ9, "abs", "(I)I"⟩
abbrev cJ9_max_7cf53 : ByteArray := prog_13_method_65_code
def yJ9_max_7cf53 : MethodName := ⟨RJ9, "max", "(II)I"⟩
abbrev cJ9_min_7cf53 : ByteArray := prog_13_method_69_code
def yJ9_min_7cf53 : MethodName := ⟨RJ9, "min", "(II)I"⟩
def RJ0 : String := "java/lang/String"
def TJ0 : u_T := fun k => match k with
  | _ => ("", "", "", false)
def tyJ0 : Nat → FieldType := fun k => match k with
  | _ => .int
abbrev wsJ00 : List Cond := u_ws RJ0 TJ0 0
theorem nmJ0 : ∀ a, a < 0 → ∀ b, b < 0 → a ≠ b → (TJ0 a).2.1 ≠ (TJ0 b).2.1 := by decide +kernel
theorem tyJ0_ok : ∀ k, k < 0 → parseFieldDescriptor (TJ0 k).2.2.1 = some (tyJ0 k) := by decide +kernel
def RJ10 : String := "java/lang/System"
def TJ10 : u_T := fun k => match k with
  | _ => ("", "", "", false)
def tyJ10 : Nat → FieldType := fun k => match k with
  | _ => .int
abbrev wsJ100 : List Cond := u_ws RJ10 TJ10 0
theorem nmJ10 : ∀ a, a < 0 → ∀ b, b < 0 → a ≠ b → (TJ10 a).2.1 ≠ (TJ10 b).2.1 := by decide +kernel
theorem tyJ10_ok : ∀ k, k < 0 → parseFieldDescriptor (TJ10 k).2.2.1 = some (tyJ10 k) := by decide +kernel
def RJ7 : String := "java/util/Arrays"
def TJ7 : u_T := fun k => match k with
  | _ => ("", "", "", false)
def tyJ7 : Nat → FieldType := fun k => match k with
  | _ => .int
abbrev wsJ70 : List Cond := u_ws RJ7 TJ7 0
theorem nmJ7 : ∀ a, a < 0 → ∀ b, b < 0 → a ≠ b → (TJ7 a).2.1 ≠ (TJ7 b).2.1 := by decide +kernel
theorem tyJ7_ok : ∀ k, k < 0 → parseFieldDescriptor (TJ7 k).2.2.1 = some (tyJ7 k) := by decide +kernel
abbrev cJ7_fill_53178 : ByteArray := prog_18_method_103_code
def yJ7_fill_53178 : MethodName := ⟨RJ7, "fill", "([II)V"⟩
def RL : String := "FloatMarketLaw"
abbrev cL_addRow : ByteArray := method_3_code
def yL_addRow : MethodName := ⟨RL, "addRow", "(LFloatMarket;I[J)I"⟩
abbrev cL_setWater : ByteArray := method_4_code
def yL_setWater : MethodName := ⟨RL, "setWater", "(LFloatMarket;III[J)I"⟩
abbrev cL_addCanoe : ByteArray := method_5_code
def yL_addCanoe : MethodName := ⟨RL, "addCanoe", "(LFloatMarket;II[J)I"⟩
abbrev cL_load : ByteArray := method_6_code
def yL_load : MethodName := ⟨RL, "load", "(LFloatMarket;III[J)I"⟩
abbrev cL_offer : ByteArray := method_7_code
def yL_offer : MethodName := ⟨RL, "offer", "(LFloatMarket;IIIII[J)I"⟩
abbrev cL_moor : ByteArray := method_8_code
def yL_moor : MethodName := ⟨RL, "moor", "(LFloatMarket;II[J)I"⟩
abbrev cL_castOff : ByteArray := method_9_code
def yL_castOff : MethodName := ⟨RL, "castOff", "(LFloatMarket;I[J)I"⟩
abbrev cL_leaveIn : ByteArray := method_10_code
def yL_leaveIn : MethodName := ⟨RL, "leaveIn", "(LFloatMarket;II[J)I"⟩
abbrev cL_canoe : ByteArray := method_11_code
def yL_canoe : MethodName := ⟨RL, "canoe", "(LFloatMarket;II[J)I"⟩
abbrev cL_good : ByteArray := method_12_code
def yL_good : MethodName := ⟨RL, "good", "(LFloatMarket;III[J)I"⟩
abbrev cL_at : ByteArray := method_13_code
def yL_at : MethodName := ⟨RL, "at", "(LFloatMarket;II[J)I"⟩
abbrev cL_beside : ByteArray := method_14_code
def yL_beside : MethodName := ⟨RL, "beside", "(LFloatMarket;II[J)I"⟩
abbrev cL_pass : ByteArray := method_15_code
def yL_pass : MethodName := ⟨RL, "pass", "(LFloatMarket;I[J)I"⟩
abbrev cL_count : ByteArray := method_16_code
def yL_count : MethodName := ⟨RL, "count", "(LFloatMarket;I[J)I"⟩
abbrev cL_foresee : ByteArray := method_17_code
def yL_foresee : MethodName := ⟨RL, "foresee", "(LFloatMarket;III[J)I"⟩
abbrev cL_full : ByteArray := method_18_code
def yL_full : MethodName := ⟨RL, "full", "(LFloatMarket;I[J)I"⟩
abbrev cL_gone : ByteArray := method_19_code
def yL_gone : MethodName := ⟨RL, "gone", "(LFloatMarket;I[J)I"⟩
abbrev cL_advise : ByteArray := method_20_code
def yL_advise : MethodName := ⟨RL, "advise", "(LFloatMarket;II[J)I"⟩
abbrev cL_price : ByteArray := method_21_code
def yL_price : MethodName := ⟨RL, "price", "(LFloatMarket;III[J)I"⟩
abbrev cL_law : ByteArray := code
def yL_law : MethodName := ⟨RL, "law", "([I)Z"⟩
def wsX0_init : List Cond := .code yX0_init cX0_init 2 none :: ([.methodLink RX0 3 objectInit, .instanceMethod objectInit, .code objectInit ⟨#[0xb1]⟩ 1 none, .fieldLink RX0 9 "FloatMarket$Canoe" "number" "I", .arrayClass .int, .fieldLink RX0 15 "FloatMarket$Canoe" "has" "[I", .fieldLink RX0 19 "FloatMarket$Canoe" "asks" "[I", .fieldLink RX0 22 "FloatMarket$Canoe" "wants" "[I", .fieldLink RX0 25 "FloatMarket$Canoe" "pays" "[I", .fieldLink RX0 28 "FloatMarket$Canoe" "status" "I", .fieldLink RX0 31 "FloatMarket$Canoe" "row" "I", .fieldLink RX0 34 "FloatMarket$Canoe" "place" "I", .fieldLink RX0 37 "FloatMarket$Canoe" "leaveStep" "I", .fieldLink RX0 40 "FloatMarket$Canoe" "lastDriftStep" "I"] ++ wsX00)
def wsX0_copyFrom : List Cond := .code yX0_copyFrom cX0_copyFrom 2 none :: ([.fieldLink RX0 43 "FloatMarket$Canoe" "coins" "I", .fieldLink RX0 46 "FloatMarket$Canoe" "rope" "I", .fieldLink RX0 28 "FloatMarket$Canoe" "status" "I", .fieldLink RX0 31 "FloatMarket$Canoe" "row" "I", .fieldLink RX0 34 "FloatMarket$Canoe" "place" "I", .fieldLink RX0 37 "FloatMarket$Canoe" "leaveStep" "I", .fieldLink RX0 49 "FloatMarket$Canoe" "loosened" "I", .fieldLink RX0 52 "FloatMarket$Canoe" "drifted" "I", .fieldLink RX0 40 "FloatMarket$Canoe" "lastDriftStep" "I", .fieldLink RX0 55 "FloatMarket$Canoe" "sold" "I", .fieldLink RX0 58 "FloatMarket$Canoe" "bought" "I", .fieldLink RX0 15 "FloatMarket$Canoe" "has" "[I", .methodLink RX0 61 arraycopyName, .native arraycopyName, .static arraycopyName, .initialized "java/lang/System", .fieldLink RX0 19 "FloatMarket$Canoe" "asks" "[I", .fieldLink RX0 22 "FloatMarket$Canoe" "wants" "[I", .fieldLink RX0 25 "FloatMarket$Canoe" "pays" "[I"] ++ wsX00)
def wsX0_misses : List Cond := .code yX0_misses cX0_misses 2 (some .int) :: ([.fieldLink RX0 22 "FloatMarket$Canoe" "wants" "[I", .fieldLink RX0 15 "FloatMarket$Canoe" "has" "[I", .methodLink RX0 67 Lib.Math.max.name, .static Lib.Math.max.name, .initialized "java/lang/Math", .code Lib.Math.max.name Lib.Math.max.code 2 (some .int)] ++ wsX00)
def wsX0_missesInAll : List Cond := .code yX0_missesInAll cX0_missesInAll 3 (some .int) :: ([.methodLink RX0 73 yX0_misses, .instanceMethod yX0_misses, .selects RX0 yX0_misses yX0_misses, .initialized RX0, .code yX0_misses cX0_misses 2 (some .int), .fieldLink RX0 22 "FloatMarket$Canoe" "wants" "[I", .fieldLink RX0 15 "FloatMarket$Canoe" "has" "[I", .methodLink RX0 67 Lib.Math.max.name, .static Lib.Math.max.name, .initialized "java/lang/Math", .code Lib.Math.max.name Lib.Math.max.code 2 (some .int)] ++ wsX00)
def wsX0_goodsInAll : List Cond := .code yX0_goodsInAll cX0_goodsInAll 3 (some .int) :: ([.fieldLink RX0 15 "FloatMarket$Canoe" "has" "[I"] ++ wsX00)
def wsX0_sells : List Cond := .code yX0_sells cX0_sells 3 (some .boolean) :: ([.fieldLink RX0 19 "FloatMarket$Canoe" "asks" "[I", .fieldLink RX0 15 "FloatMarket$Canoe" "has" "[I", .fieldLink RX0 22 "FloatMarket$Canoe" "wants" "[I"] ++ wsX00)
def wsX0_isBeside : List Cond := .code yX0_isBeside cX0_isBeside 4 (some .boolean) :: ([.fieldLink RX0 28 "FloatMarket$Canoe" "status" "I", .fieldLink RX0 31 "FloatMarket$Canoe" "row" "I", .methodLink RX0 77 Lib.Math.abs.name, .static Lib.Math.abs.name, .initialized "java/lang/Math", .code Lib.Math.abs.name Lib.Math.abs.code 1 (some .int), .fieldLink RX0 34 "FloatMarket$Canoe" "place" "I"] ++ wsX00)
def wsX0_hasReached : List Cond := .code yX0_hasReached cX0_hasReached 2 (some .boolean) :: ([.fieldLink RX0 28 "FloatMarket$Canoe" "status" "I", .methodLink RX0 80 yX0_missesInAll, .instanceMethod yX0_missesInAll, .selects RX0 yX0_missesInAll yX0_missesInAll, .initialized RX0, .code yX0_missesInAll cX0_missesInAll 3 (some .int), .methodLink RX0 73 yX0_misses, .instanceMethod yX0_misses, .selects RX0 yX0_misses yX0_misses, .code yX0_misses cX0_misses 2 (some .int), .fieldLink RX0 22 "FloatMarket$Canoe" "wants" "[I", .fieldLink RX0 15 "FloatMarket$Canoe" "has" "[I", .methodLink RX0 67 Lib.Math.max.name, .static Lib.Math.max.name, .initialized "java/lang/Math", .code Lib.Math.max.name Lib.Math.max.code 2 (some .int)] ++ wsX00)
def wsX0_isToLeaveBy : List Cond := .code yX0_isToLeaveBy cX0_isToLeaveBy 2 (some .boolean) :: ([.fieldLink RX0 37 "FloatMarket$Canoe" "leaveStep" "I"] ++ wsX00)
def wsX0_figure_r1 : List Cond := [Cond.fieldLink RX0 43 "FloatMarket$Canoe" "coins" "I", Cond.fieldLink RX0 46 "FloatMarket$Canoe" "rope" "I", Cond.fieldLink RX0 28 "FloatMarket$Canoe" "status" "I", Cond.fieldLink RX0 31 "FloatMarket$Canoe" "row" "I", Cond.fieldLink RX0 34 "FloatMarket$Canoe" "place" "I", Cond.fieldLink RX0 37 "FloatMarket$Canoe" "leaveStep" "I", Cond.fieldLink RX0 49 "FloatMarket$Canoe" "loosened" "I", Cond.fieldLink RX0 52 "FloatMarket$Canoe" "drifted" "I", Cond.fieldLink RX0 55 "FloatMarket$Canoe" "sold" "I", Cond.fieldLink RX0 58 "FloatMarket$Canoe" "bought" "I", Cond.methodLink RX0 80 yX0_missesInAll, Cond.instanceMethod yX0_missesInAll, Cond.selects RX0 yX0_missesInAll yX0_missesInAll, Cond.initialized RX0, Cond.code yX0_missesInAll cX0_missesInAll 3 (some .int), Cond.methodLink RX0 73 yX0_misses, Cond.instanceMethod yX0_misses, Cond.selects RX0 yX0_misses yX0_misses, Cond.code yX0_misses cX0_misses 2 (some .int), Cond.fieldLink RX0 22 "FloatMarket$Canoe" "wants" "[I", Cond.fieldLink RX0 15 "FloatMarket$Canoe" "has" "[I", Cond.methodLink RX0 67 Lib.Math.max.name, Cond.static Lib.Math.max.name, Cond.initialized "java/lang/Math"]
def wsX0_figure_r2 : List Cond := [Cond.code Lib.Math.max.name Lib.Math.max.code 2 (some .int)]
def wsX0_figure : List Cond := .code yX0_figure cX0_figure 2 (some .int) :: ((wsX0_figure_r1 ++ wsX0_figure_r2) ++ wsX00)
def wsX0_goodFigure : List Cond := .code yX0_goodFigure cX0_goodFigure 3 (some .int) :: ([.fieldLink RX0 15 "FloatMarket$Canoe" "has" "[I", .fieldLink RX0 19 "FloatMarket$Canoe" "asks" "[I", .fieldLink RX0 22 "FloatMarket$Canoe" "wants" "[I", .fieldLink RX0 25 "FloatMarket$Canoe" "pays" "[I"] ++ wsX00)
def wsX0_addTo_r1 : List Cond := [Cond.constantLong RX0 84 (31), Cond.methodLink RX0 86 yX0_figure, Cond.instanceMethod yX0_figure, Cond.selects RX0 yX0_figure yX0_figure, Cond.initialized RX0, Cond.code yX0_figure cX0_figure 2 (some .int), Cond.fieldLink RX0 43 "FloatMarket$Canoe" "coins" "I", Cond.fieldLink RX0 46 "FloatMarket$Canoe" "rope" "I", Cond.fieldLink RX0 28 "FloatMarket$Canoe" "status" "I", Cond.fieldLink RX0 31 "FloatMarket$Canoe" "row" "I", Cond.fieldLink RX0 34 "FloatMarket$Canoe" "place" "I", Cond.fieldLink RX0 37 "FloatMarket$Canoe" "leaveStep" "I", Cond.fieldLink RX0 49 "FloatMarket$Canoe" "loosened" "I", Cond.fieldLink RX0 52 "FloatMarket$Canoe" "drifted" "I", Cond.fieldLink RX0 55 "FloatMarket$Canoe" "sold" "I", Cond.fieldLink RX0 58 "FloatMarket$Canoe" "bought" "I", Cond.methodLink RX0 80 yX0_missesInAll, Cond.instanceMethod yX0_missesInAll, Cond.selects RX0 yX0_missesInAll yX0_missesInAll, Cond.code yX0_missesInAll cX0_missesInAll 3 (some .int), Cond.methodLink RX0 73 yX0_misses, Cond.instanceMethod yX0_misses, Cond.selects RX0 yX0_misses yX0_misses, Cond.code yX0_misses cX0_misses 2 (some .int)]
def wsX0_addTo_r2 : List Cond := [Cond.fieldLink RX0 22 "FloatMarket$Canoe" "wants" "[I", Cond.fieldLink RX0 15 "FloatMarket$Canoe" "has" "[I", Cond.methodLink RX0 67 Lib.Math.max.name, Cond.static Lib.Math.max.name, Cond.initialized "java/lang/Math", Cond.code Lib.Math.max.name Lib.Math.max.code 2 (some .int), Cond.methodLink RX0 89 yX0_goodFigure, Cond.instanceMethod yX0_goodFigure, Cond.selects RX0 yX0_goodFigure yX0_goodFigure, Cond.code yX0_goodFigure cX0_goodFigure 3 (some .int), Cond.fieldLink RX0 19 "FloatMarket$Canoe" "asks" "[I", Cond.fieldLink RX0 25 "FloatMarket$Canoe" "pays" "[I"]
def wsX0_addTo : List Cond := .code yX0_addTo cX0_addTo 7 (some .long) :: ((wsX0_addTo_r1 ++ wsX0_addTo_r2) ++ wsX00)
def wsX2_init : List Cond := .code yX2_init cX2_init 1 none :: ([.methodLink RX2 3 objectInit, .instanceMethod objectInit, .code objectInit ⟨#[0xb1]⟩ 1 none, .arrayClass .int, .fieldLink RX2 9 "FloatMarket$Row" "moored" "[I"] ++ wsX20)
def wsX1_init_r1 : List Cond := [Cond.methodLink RX1 3 objectInit, Cond.instanceMethod objectInit, Cond.code objectInit ⟨#[0xb1]⟩ 1 none, Cond.fieldLink RX1 9 "FloatMarket$Market" "water" "LFloatMarket$Water;", Cond.classLink RX1 15 RX2, Cond.fieldLink RX1 17 "FloatMarket$Market" "rows" "[LFloatMarket$Row;", Cond.instantiable RX2 3, Cond.initialized RX2, Cond.classLink RX1 22 RX0, Cond.fieldLink RX1 24 "FloatMarket$Market" "canoes" "[LFloatMarket$Canoe;", Cond.instantiable RX0 16, Cond.initialized RX0, Cond.methodLink RX1 21 yX2_init, Cond.instanceMethod yX2_init, Cond.code yX2_init cX2_init 1 none, Cond.methodLink RX2 3 objectInit, Cond.arrayClass .int, Cond.fieldLink RX2 9 "FloatMarket$Row" "moored" "[I", Cond.methodLink RX1 28 yX0_init, Cond.instanceMethod yX0_init, Cond.code yX0_init cX0_init 2 none, Cond.methodLink RX0 3 objectInit, Cond.fieldLink RX0 9 "FloatMarket$Canoe" "number" "I", Cond.fieldLink RX0 15 "FloatMarket$Canoe" "has" "[I"]
def wsX1_init_r2 : List Cond := [Cond.fieldLink RX0 19 "FloatMarket$Canoe" "asks" "[I", Cond.fieldLink RX0 22 "FloatMarket$Canoe" "wants" "[I", Cond.fieldLink RX0 25 "FloatMarket$Canoe" "pays" "[I", Cond.fieldLink RX0 28 "FloatMarket$Canoe" "status" "I", Cond.fieldLink RX0 31 "FloatMarket$Canoe" "row" "I", Cond.fieldLink RX0 34 "FloatMarket$Canoe" "place" "I", Cond.fieldLink RX0 37 "FloatMarket$Canoe" "leaveStep" "I", Cond.fieldLink RX0 40 "FloatMarket$Canoe" "lastDriftStep" "I"]
def wsX1_init : List Cond := .code yX1_init cX1_init 3 none :: ((wsX1_init_r1 ++ wsX1_init_r2) ++ wsX10 ++ wsX20 ++ wsX00)
def wsX2_copyFrom : List Cond := .code yX2_copyFrom cX2_copyFrom 2 none :: ([.fieldLink RX2 15 "FloatMarket$Row" "places" "I", .fieldLink RX2 19 "FloatMarket$Row" "used" "I", .fieldLink RX2 9 "FloatMarket$Row" "moored" "[I", .methodLink RX2 22 arraycopyName, .native arraycopyName, .static arraycopyName, .initialized "java/lang/System"] ++ wsX20)
def wsX1_copyFrom_r1 : List Cond := [Cond.fieldLink RX1 31 "FloatMarket$Market" "rowCount" "I", Cond.fieldLink RX1 35 "FloatMarket$Market" "canoeCount" "I", Cond.fieldLink RX1 38 "FloatMarket$Market" "step" "I", Cond.fieldLink RX1 41 "FloatMarket$Market" "sold" "I", Cond.fieldLink RX1 44 "FloatMarket$Market" "paid" "I", Cond.fieldLink RX1 47 "FloatMarket$Market" "loosened" "I", Cond.fieldLink RX1 50 "FloatMarket$Market" "drifted" "I", Cond.fieldLink RX1 17 "FloatMarket$Market" "rows" "[LFloatMarket$Row;", Cond.fieldLink RX1 24 "FloatMarket$Market" "canoes" "[LFloatMarket$Canoe;", Cond.methodLink RX1 53 yX2_copyFrom, Cond.instanceMethod yX2_copyFrom, Cond.selects RX2 yX2_copyFrom yX2_copyFrom, Cond.initialized RX2, Cond.code yX2_copyFrom cX2_copyFrom 2 none, Cond.fieldLink RX2 15 "FloatMarket$Row" "places" "I", Cond.fieldLink RX2 19 "FloatMarket$Row" "used" "I", Cond.fieldLink RX2 9 "FloatMarket$Row" "moored" "[I", Cond.methodLink RX2 22 arraycopyName, Cond.native arraycopyName, Cond.static arraycopyName, Cond.initialized "java/lang/System", Cond.methodLink RX1 57 yX0_copyFrom, Cond.instanceMethod yX0_copyFrom, Cond.selects RX0 yX0_copyFrom yX0_copyFrom]
def wsX1_copyFrom_r2 : List Cond := [Cond.initialized RX0, Cond.code yX0_copyFrom cX0_copyFrom 2 none, Cond.fieldLink RX0 43 "FloatMarket$Canoe" "coins" "I", Cond.fieldLink RX0 46 "FloatMarket$Canoe" "rope" "I", Cond.fieldLink RX0 28 "FloatMarket$Canoe" "status" "I", Cond.fieldLink RX0 31 "FloatMarket$Canoe" "row" "I", Cond.fieldLink RX0 34 "FloatMarket$Canoe" "place" "I", Cond.fieldLink RX0 37 "FloatMarket$Canoe" "leaveStep" "I", Cond.fieldLink RX0 49 "FloatMarket$Canoe" "loosened" "I", Cond.fieldLink RX0 52 "FloatMarket$Canoe" "drifted" "I", Cond.fieldLink RX0 40 "FloatMarket$Canoe" "lastDriftStep" "I", Cond.fieldLink RX0 55 "FloatMarket$Canoe" "sold" "I", Cond.fieldLink RX0 58 "FloatMarket$Canoe" "bought" "I", Cond.fieldLink RX0 15 "FloatMarket$Canoe" "has" "[I", Cond.methodLink RX0 61 arraycopyName, Cond.fieldLink RX0 19 "FloatMarket$Canoe" "asks" "[I", Cond.fieldLink RX0 22 "FloatMarket$Canoe" "wants" "[I", Cond.fieldLink RX0 25 "FloatMarket$Canoe" "pays" "[I"]
def wsX1_copyFrom : List Cond := .code yX1_copyFrom cX1_copyFrom 3 none :: ((wsX1_copyFrom_r1 ++ wsX1_copyFrom_r2) ++ wsX10 ++ wsX20 ++ wsX00)
def wsX1_openRow : List Cond := .code yX1_openRow cX1_openRow 3 (some .int) :: ([.fieldLink RX1 31 "FloatMarket$Market" "rowCount" "I", .fieldLink RX1 17 "FloatMarket$Market" "rows" "[LFloatMarket$Row;", .fieldLink RX1 60 "FloatMarket$Row" "places" "I"] ++ wsX10 ++ wsX20)
def wsX1_launch : List Cond := .code yX1_launch cX1_launch 4 (some .int) :: ([.fieldLink RX1 35 "FloatMarket$Market" "canoeCount" "I", .fieldLink RX1 24 "FloatMarket$Market" "canoes" "[LFloatMarket$Canoe;", .fieldLink RX1 63 "FloatMarket$Canoe" "coins" "I", .fieldLink RX1 66 "FloatMarket$Canoe" "rope" "I"] ++ wsX10 ++ wsX00)
def wsX2_append : List Cond := .code yX2_append cX2_append 2 none :: ([.fieldLink RX2 19 "FloatMarket$Row" "used" "I", .fieldLink RX2 15 "FloatMarket$Row" "places" "I", .fieldLink RX2 9 "FloatMarket$Row" "moored" "[I"] ++ wsX20)
def wsX1_fasten : List Cond := .code yX1_fasten cX1_fasten 3 none :: ([.fieldLink RX1 69 "FloatMarket$Canoe" "status" "I", .fieldLink RX1 72 "FloatMarket$Canoe" "row" "I", .fieldLink RX1 17 "FloatMarket$Market" "rows" "[LFloatMarket$Row;", .fieldLink RX1 75 "FloatMarket$Row" "used" "I", .fieldLink RX1 78 "FloatMarket$Canoe" "place" "I", .fieldLink RX1 81 "FloatMarket$Canoe" "number" "I", .methodLink RX1 84 yX2_append, .instanceMethod yX2_append, .selects RX2 yX2_append yX2_append, .initialized RX2, .code yX2_append cX2_append 2 none, .fieldLink RX2 19 "FloatMarket$Row" "used" "I", .fieldLink RX2 15 "FloatMarket$Row" "places" "I", .fieldLink RX2 9 "FloatMarket$Row" "moored" "[I"] ++ wsX00 ++ wsX10 ++ wsX20)
def wsX2_closeGap : List Cond := .code yX2_closeGap cX2_closeGap 3 none :: ([.fieldLink RX2 19 "FloatMarket$Row" "used" "I", .fieldLink RX2 9 "FloatMarket$Row" "moored" "[I"] ++ wsX20)
def wsX1_unfasten : List Cond := .code yX1_unfasten cX1_unfasten 6 (some .int) :: ([.fieldLink RX1 69 "FloatMarket$Canoe" "status" "I", .fieldLink RX1 17 "FloatMarket$Market" "rows" "[LFloatMarket$Row;", .fieldLink RX1 72 "FloatMarket$Canoe" "row" "I", .fieldLink RX1 78 "FloatMarket$Canoe" "place" "I", .fieldLink RX1 75 "FloatMarket$Row" "used" "I", .fieldLink RX1 24 "FloatMarket$Market" "canoes" "[LFloatMarket$Canoe;", .fieldLink RX1 90 "FloatMarket$Row" "moored" "[I", .fieldLink RX1 94 "FloatMarket$Canoe" "loosened" "I", .fieldLink RX1 47 "FloatMarket$Market" "loosened" "I", .methodLink RX1 87 yX2_closeGap, .instanceMethod yX2_closeGap, .selects RX2 yX2_closeGap yX2_closeGap, .initialized RX2, .code yX2_closeGap cX2_closeGap 3 none, .fieldLink RX2 19 "FloatMarket$Row" "used" "I", .fieldLink RX2 9 "FloatMarket$Row" "moored" "[I"] ++ wsX00 ++ wsX10 ++ wsX20)
def wsJ9_floorMod_7cf53 : List Cond := .code yJ9_floorMod_7cf53 cJ9_floorMod_7cf53 3 (some .int) :: ([])
def wsX3_tideIn : List Cond := .code yX3_tideIn cX3_tideIn 2 (some .int) :: ([.fieldLink RX3 9 "FloatMarket$Water" "tides" "[I", .methodLink RX3 24 yJ9_floorMod_7cf53, .static yJ9_floorMod_7cf53, .initialized RJ9, .code yJ9_floorMod_7cf53 cJ9_floorMod_7cf53 3 (some .int)] ++ wsX30)
def wsX1_liesDry : List Cond := .code yX1_liesDry cX1_liesDry 2 (some .boolean) :: ([.fieldLink RX1 69 "FloatMarket$Canoe" "status" "I", .fieldLink RX1 78 "FloatMarket$Canoe" "place" "I", .fieldLink RX1 9 "FloatMarket$Market" "water" "LFloatMarket$Water;", .fieldLink RX1 38 "FloatMarket$Market" "step" "I", .methodLink RX1 95 yX3_tideIn, .instanceMethod yX3_tideIn, .selects RX3 yX3_tideIn yX3_tideIn, .initialized RX3, .code yX3_tideIn cX3_tideIn 2 (some .int), .fieldLink RX3 9 "FloatMarket$Water" "tides" "[I", .methodLink RX3 24 yJ9_floorMod_7cf53, .static yJ9_floorMod_7cf53, .initialized RJ9, .code yJ9_floorMod_7cf53 cJ9_floorMod_7cf53 3 (some .int)] ++ wsX00 ++ wsX10 ++ wsX30)
def wsX3_wakeIn : List Cond := .code yX3_wakeIn cX3_wakeIn 2 (some .int) :: ([.fieldLink RX3 15 "FloatMarket$Water" "wakes" "[I", .methodLink RX3 24 yJ9_floorMod_7cf53, .static yJ9_floorMod_7cf53, .initialized RJ9, .code yJ9_floorMod_7cf53 cJ9_floorMod_7cf53 3 (some .int)] ++ wsX30)
def wsX2_canoeAt : List Cond := .code yX2_canoeAt cX2_canoeAt 2 (some .int) :: ([.fieldLink RX2 19 "FloatMarket$Row" "used" "I", .fieldLink RX2 9 "FloatMarket$Row" "moored" "[I"] ++ wsX20)
def wsX1_canoeAt : List Cond := .code yX1_canoeAt cX1_canoeAt 4 (some (.object "FloatMarket$Canoe")) :: ([.fieldLink RX1 31 "FloatMarket$Market" "rowCount" "I", .fieldLink RX1 17 "FloatMarket$Market" "rows" "[LFloatMarket$Row;", .fieldLink RX1 24 "FloatMarket$Market" "canoes" "[LFloatMarket$Canoe;", .methodLink RX1 185 yX2_canoeAt, .instanceMethod yX2_canoeAt, .selects RX2 yX2_canoeAt yX2_canoeAt, .initialized RX2, .code yX2_canoeAt cX2_canoeAt 2 (some .int), .fieldLink RX2 19 "FloatMarket$Row" "used" "I", .fieldLink RX2 9 "FloatMarket$Row" "moored" "[I"] ++ wsX10 ++ wsX20)
def wsX2_isFull : List Cond := .code yX2_isFull cX2_isFull 1 (some .boolean) :: ([.fieldLink RX2 19 "FloatMarket$Row" "used" "I", .fieldLink RX2 15 "FloatMarket$Row" "places" "I"] ++ wsX20)
def wsX1_nextRowNotFull : List Cond := .code yX1_nextRowNotFull cX1_nextRowNotFull 4 (some .int) :: ([.fieldLink RX1 31 "FloatMarket$Market" "rowCount" "I", .fieldLink RX1 17 "FloatMarket$Market" "rows" "[LFloatMarket$Row;", .methodLink RX1 135 yX2_isFull, .instanceMethod yX2_isFull, .selects RX2 yX2_isFull yX2_isFull, .initialized RX2, .code yX2_isFull cX2_isFull 1 (some .boolean), .fieldLink RX2 19 "FloatMarket$Row" "used" "I", .fieldLink RX2 15 "FloatMarket$Row" "places" "I"] ++ wsX10 ++ wsX20)
def wsX1_drift_r1 : List Cond := [Cond.fieldLink RX1 134 "FloatMarket$Canoe" "drifted" "I", Cond.fieldLink RX1 50 "FloatMarket$Market" "drifted" "I", Cond.fieldLink RX1 38 "FloatMarket$Market" "step" "I", Cond.fieldLink RX1 117 "FloatMarket$Canoe" "lastDriftStep" "I", Cond.methodLink RX1 124 yX1_unfasten, Cond.instanceMethod yX1_unfasten, Cond.selects RX1 yX1_unfasten yX1_unfasten, Cond.initialized RX1, Cond.code yX1_unfasten cX1_unfasten 6 (some .int), Cond.fieldLink RX1 69 "FloatMarket$Canoe" "status" "I", Cond.fieldLink RX1 17 "FloatMarket$Market" "rows" "[LFloatMarket$Row;", Cond.fieldLink RX1 72 "FloatMarket$Canoe" "row" "I", Cond.fieldLink RX1 78 "FloatMarket$Canoe" "place" "I", Cond.fieldLink RX1 75 "FloatMarket$Row" "used" "I", Cond.fieldLink RX1 24 "FloatMarket$Market" "canoes" "[LFloatMarket$Canoe;", Cond.fieldLink RX1 90 "FloatMarket$Row" "moored" "[I", Cond.fieldLink RX1 94 "FloatMarket$Canoe" "loosened" "I", Cond.fieldLink RX1 47 "FloatMarket$Market" "loosened" "I", Cond.methodLink RX1 87 yX2_closeGap, Cond.instanceMethod yX2_closeGap, Cond.selects RX2 yX2_closeGap yX2_closeGap, Cond.initialized RX2, Cond.code yX2_closeGap cX2_closeGap 3 none, Cond.fieldLink RX2 19 "FloatMarket$Row" "used" "I"]
def wsX1_drift_r2 : List Cond := [Cond.fieldLink RX2 9 "FloatMarket$Row" "moored" "[I", Cond.methodLink RX1 128 yX1_nextRowNotFull, Cond.instanceMethod yX1_nextRowNotFull, Cond.selects RX1 yX1_nextRowNotFull yX1_nextRowNotFull, Cond.code yX1_nextRowNotFull cX1_nextRowNotFull 4 (some .int), Cond.fieldLink RX1 31 "FloatMarket$Market" "rowCount" "I", Cond.methodLink RX1 135 yX2_isFull, Cond.instanceMethod yX2_isFull, Cond.selects RX2 yX2_isFull yX2_isFull, Cond.code yX2_isFull cX2_isFull 1 (some .boolean), Cond.fieldLink RX2 15 "FloatMarket$Row" "places" "I", Cond.methodLink RX1 131 yX1_fasten, Cond.instanceMethod yX1_fasten, Cond.selects RX1 yX1_fasten yX1_fasten, Cond.code yX1_fasten cX1_fasten 3 none, Cond.fieldLink RX1 81 "FloatMarket$Canoe" "number" "I", Cond.methodLink RX1 84 yX2_append, Cond.instanceMethod yX2_append, Cond.selects RX2 yX2_append yX2_append, Cond.code yX2_append cX2_append 2 none]
def wsX1_drift : List Cond := .code yX1_drift cX1_drift 4 none :: ((wsX1_drift_r1 ++ wsX1_drift_r2) ++ wsX00 ++ wsX10 ++ wsX20)
def wsX1_driftByRows_r1 : List Cond := [Cond.fieldLink RX1 9 "FloatMarket$Market" "water" "LFloatMarket$Water;", Cond.fieldLink RX1 38 "FloatMarket$Market" "step" "I", Cond.fieldLink RX1 31 "FloatMarket$Market" "rowCount" "I", Cond.fieldLink RX1 17 "FloatMarket$Market" "rows" "[LFloatMarket$Row;", Cond.fieldLink RX1 75 "FloatMarket$Row" "used" "I", Cond.fieldLink RX1 66 "FloatMarket$Canoe" "rope" "I", Cond.fieldLink RX1 117 "FloatMarket$Canoe" "lastDriftStep" "I", Cond.methodLink RX1 110 yX3_wakeIn, Cond.instanceMethod yX3_wakeIn, Cond.selects RX3 yX3_wakeIn yX3_wakeIn, Cond.initialized RX3, Cond.code yX3_wakeIn cX3_wakeIn 2 (some .int), Cond.fieldLink RX3 15 "FloatMarket$Water" "wakes" "[I", Cond.methodLink RX3 24 yJ9_floorMod_7cf53, Cond.static yJ9_floorMod_7cf53, Cond.initialized RJ9, Cond.code yJ9_floorMod_7cf53 cJ9_floorMod_7cf53 3 (some .int), Cond.methodLink RX1 113 yX1_canoeAt, Cond.instanceMethod yX1_canoeAt, Cond.selects RX1 yX1_canoeAt yX1_canoeAt, Cond.initialized RX1, Cond.code yX1_canoeAt cX1_canoeAt 4 (some (.object "FloatMarket$Canoe")), Cond.fieldLink RX1 24 "FloatMarket$Market" "canoes" "[LFloatMarket$Canoe;", Cond.methodLink RX1 185 yX2_canoeAt]
def wsX1_driftByRows_r2 : List Cond := [Cond.instanceMethod yX2_canoeAt, Cond.selects RX2 yX2_canoeAt yX2_canoeAt, Cond.initialized RX2, Cond.code yX2_canoeAt cX2_canoeAt 2 (some .int), Cond.fieldLink RX2 19 "FloatMarket$Row" "used" "I", Cond.fieldLink RX2 9 "FloatMarket$Row" "moored" "[I", Cond.methodLink RX1 120 yX1_drift, Cond.instanceMethod yX1_drift, Cond.selects RX1 yX1_drift yX1_drift, Cond.code yX1_drift cX1_drift 4 none, Cond.fieldLink RX1 134 "FloatMarket$Canoe" "drifted" "I", Cond.fieldLink RX1 50 "FloatMarket$Market" "drifted" "I", Cond.methodLink RX1 124 yX1_unfasten, Cond.instanceMethod yX1_unfasten, Cond.selects RX1 yX1_unfasten yX1_unfasten, Cond.code yX1_unfasten cX1_unfasten 6 (some .int), Cond.fieldLink RX1 69 "FloatMarket$Canoe" "status" "I", Cond.fieldLink RX1 72 "FloatMarket$Canoe" "row" "I", Cond.fieldLink RX1 78 "FloatMarket$Canoe" "place" "I", Cond.fieldLink RX1 90 "FloatMarket$Row" "moored" "[I", Cond.fieldLink RX1 94 "FloatMarket$Canoe" "loosened" "I", Cond.fieldLink RX1 47 "FloatMarket$Market" "loosened" "I", Cond.methodLink RX1 87 yX2_closeGap, Cond.instanceMethod yX2_closeGap]
def wsX1_driftByRows_r3 : List Cond := [Cond.selects RX2 yX2_closeGap yX2_closeGap, Cond.code yX2_closeGap cX2_closeGap 3 none, Cond.methodLink RX1 128 yX1_nextRowNotFull, Cond.instanceMethod yX1_nextRowNotFull, Cond.selects RX1 yX1_nextRowNotFull yX1_nextRowNotFull, Cond.code yX1_nextRowNotFull cX1_nextRowNotFull 4 (some .int), Cond.methodLink RX1 135 yX2_isFull, Cond.instanceMethod yX2_isFull, Cond.selects RX2 yX2_isFull yX2_isFull, Cond.code yX2_isFull cX2_isFull 1 (some .boolean), Cond.fieldLink RX2 15 "FloatMarket$Row" "places" "I", Cond.methodLink RX1 131 yX1_fasten, Cond.instanceMethod yX1_fasten, Cond.selects RX1 yX1_fasten yX1_fasten, Cond.code yX1_fasten cX1_fasten 3 none, Cond.fieldLink RX1 81 "FloatMarket$Canoe" "number" "I", Cond.methodLink RX1 84 yX2_append, Cond.instanceMethod yX2_append, Cond.selects RX2 yX2_append yX2_append, Cond.code yX2_append cX2_append 2 none]
def wsX1_driftByRows : List Cond := .code yX1_driftByRows cX1_driftByRows 4 none :: ((wsX1_driftByRows_r1 ++ (wsX1_driftByRows_r2 ++ wsX1_driftByRows_r3)) ++ wsX10 ++ wsX20 ++ wsX00 ++ wsX30)
def wsX1_leaveByNumbers_r1 : List Cond := [Cond.fieldLink RX1 35 "FloatMarket$Market" "canoeCount" "I", Cond.fieldLink RX1 24 "FloatMarket$Market" "canoes" "[LFloatMarket$Canoe;", Cond.fieldLink RX1 69 "FloatMarket$Canoe" "status" "I", Cond.fieldLink RX1 38 "FloatMarket$Market" "step" "I", Cond.methodLink RX1 139 yX0_isToLeaveBy, Cond.instanceMethod yX0_isToLeaveBy, Cond.selects RX0 yX0_isToLeaveBy yX0_isToLeaveBy, Cond.initialized RX0, Cond.code yX0_isToLeaveBy cX0_isToLeaveBy 2 (some .boolean), Cond.fieldLink RX0 37 "FloatMarket$Canoe" "leaveStep" "I", Cond.methodLink RX1 143 yX1_liesDry, Cond.instanceMethod yX1_liesDry, Cond.selects RX1 yX1_liesDry yX1_liesDry, Cond.initialized RX1, Cond.code yX1_liesDry cX1_liesDry 2 (some .boolean), Cond.fieldLink RX1 78 "FloatMarket$Canoe" "place" "I", Cond.fieldLink RX1 9 "FloatMarket$Market" "water" "LFloatMarket$Water;", Cond.methodLink RX1 95 yX3_tideIn, Cond.instanceMethod yX3_tideIn, Cond.selects RX3 yX3_tideIn yX3_tideIn, Cond.initialized RX3, Cond.code yX3_tideIn cX3_tideIn 2 (some .int), Cond.fieldLink RX3 9 "FloatMarket$Water" "tides" "[I", Cond.methodLink RX3 24 yJ9_floorMod_7cf53]
def wsX1_leaveByNumbers_r2 : List Cond := [Cond.static yJ9_floorMod_7cf53, Cond.initialized RJ9, Cond.code yJ9_floorMod_7cf53 cJ9_floorMod_7cf53 3 (some .int), Cond.methodLink RX1 124 yX1_unfasten, Cond.instanceMethod yX1_unfasten, Cond.selects RX1 yX1_unfasten yX1_unfasten, Cond.code yX1_unfasten cX1_unfasten 6 (some .int), Cond.fieldLink RX1 17 "FloatMarket$Market" "rows" "[LFloatMarket$Row;", Cond.fieldLink RX1 72 "FloatMarket$Canoe" "row" "I", Cond.fieldLink RX1 75 "FloatMarket$Row" "used" "I", Cond.fieldLink RX1 90 "FloatMarket$Row" "moored" "[I", Cond.fieldLink RX1 94 "FloatMarket$Canoe" "loosened" "I", Cond.fieldLink RX1 47 "FloatMarket$Market" "loosened" "I", Cond.methodLink RX1 87 yX2_closeGap, Cond.instanceMethod yX2_closeGap, Cond.selects RX2 yX2_closeGap yX2_closeGap, Cond.initialized RX2, Cond.code yX2_closeGap cX2_closeGap 3 none, Cond.fieldLink RX2 19 "FloatMarket$Row" "used" "I", Cond.fieldLink RX2 9 "FloatMarket$Row" "moored" "[I"]
def wsX1_leaveByNumbers : List Cond := .code yX1_leaveByNumbers cX1_leaveByNumbers 3 none :: ((wsX1_leaveByNumbers_r1 ++ wsX1_leaveByNumbers_r2) ++ wsX10 ++ wsX00 ++ wsX30 ++ wsX20)
def wsX1_cheaper : List Cond := .code yX1_cheaper cX1_cheaper 6 (some (.object "FloatMarket$Canoe")) :: ([.fieldLink RX1 175 "FloatMarket$Canoe" "asks" "[I", .fieldLink RX1 81 "FloatMarket$Canoe" "number" "I", .methodLink RX1 171 yX0_sells, .instanceMethod yX0_sells, .selects RX0 yX0_sells yX0_sells, .initialized RX0, .code yX0_sells cX0_sells 3 (some .boolean), .fieldLink RX0 19 "FloatMarket$Canoe" "asks" "[I", .fieldLink RX0 15 "FloatMarket$Canoe" "has" "[I", .fieldLink RX0 22 "FloatMarket$Canoe" "wants" "[I"] ++ wsX00)
def wsX1_cheapestSeller_r1 : List Cond := [Cond.fieldLink RX1 158 "FloatMarket$Canoe" "pays" "[I", Cond.fieldLink RX1 63 "FloatMarket$Canoe" "coins" "I", Cond.methodLink RX1 161 Lib.Math.min.name, Cond.static Lib.Math.min.name, Cond.initialized "java/lang/Math", Cond.code Lib.Math.min.name Lib.Math.min.code 2 (some .int), Cond.fieldLink RX1 72 "FloatMarket$Canoe" "row" "I", Cond.fieldLink RX1 78 "FloatMarket$Canoe" "place" "I", Cond.methodLink RX1 113 yX1_canoeAt, Cond.instanceMethod yX1_canoeAt, Cond.selects RX1 yX1_canoeAt yX1_canoeAt, Cond.initialized RX1, Cond.code yX1_canoeAt cX1_canoeAt 4 (some (.object "FloatMarket$Canoe")), Cond.fieldLink RX1 31 "FloatMarket$Market" "rowCount" "I", Cond.fieldLink RX1 17 "FloatMarket$Market" "rows" "[LFloatMarket$Row;", Cond.fieldLink RX1 24 "FloatMarket$Market" "canoes" "[LFloatMarket$Canoe;", Cond.methodLink RX1 185 yX2_canoeAt, Cond.instanceMethod yX2_canoeAt, Cond.selects RX2 yX2_canoeAt yX2_canoeAt, Cond.initialized RX2, Cond.code yX2_canoeAt cX2_canoeAt 2 (some .int), Cond.fieldLink RX2 19 "FloatMarket$Row" "used" "I", Cond.fieldLink RX2 9 "FloatMarket$Row" "moored" "[I", Cond.methodLink RX1 167 yX1_cheaper]
def wsX1_cheapestSeller_r2 : List Cond := [Cond.instanceMethod yX1_cheaper, Cond.selects RX1 yX1_cheaper yX1_cheaper, Cond.code yX1_cheaper cX1_cheaper 6 (some (.object "FloatMarket$Canoe")), Cond.fieldLink RX1 175 "FloatMarket$Canoe" "asks" "[I", Cond.fieldLink RX1 81 "FloatMarket$Canoe" "number" "I", Cond.methodLink RX1 171 yX0_sells, Cond.instanceMethod yX0_sells, Cond.selects RX0 yX0_sells yX0_sells, Cond.initialized RX0, Cond.code yX0_sells cX0_sells 3 (some .boolean), Cond.fieldLink RX0 19 "FloatMarket$Canoe" "asks" "[I", Cond.fieldLink RX0 15 "FloatMarket$Canoe" "has" "[I", Cond.fieldLink RX0 22 "FloatMarket$Canoe" "wants" "[I"]
def wsX1_cheapestSeller : List Cond := .code yX1_cheapestSeller cX1_cheapestSeller 7 (some (.object "FloatMarket$Canoe")) :: ((wsX1_cheapestSeller_r1 ++ wsX1_cheapestSeller_r2) ++ wsX00 ++ wsX10 ++ wsX20)
def wsX1_trade : List Cond := .code yX1_trade cX1_trade 5 none :: ([.fieldLink RX1 175 "FloatMarket$Canoe" "asks" "[I", .fieldLink RX1 178 "FloatMarket$Canoe" "has" "[I", .fieldLink RX1 63 "FloatMarket$Canoe" "coins" "I", .fieldLink RX1 181 "FloatMarket$Canoe" "sold" "I", .fieldLink RX1 182 "FloatMarket$Canoe" "bought" "I", .fieldLink RX1 41 "FloatMarket$Market" "sold" "I", .fieldLink RX1 44 "FloatMarket$Market" "paid" "I"] ++ wsX00 ++ wsX10)
def wsX1_tradeByNumbers_r1 : List Cond := [Cond.fieldLink RX1 35 "FloatMarket$Market" "canoeCount" "I", Cond.fieldLink RX1 24 "FloatMarket$Market" "canoes" "[LFloatMarket$Canoe;", Cond.fieldLink RX1 69 "FloatMarket$Canoe" "status" "I", Cond.methodLink RX1 147 yX0_misses, Cond.instanceMethod yX0_misses, Cond.selects RX0 yX0_misses yX0_misses, Cond.initialized RX0, Cond.code yX0_misses cX0_misses 2 (some .int), Cond.fieldLink RX0 22 "FloatMarket$Canoe" "wants" "[I", Cond.fieldLink RX0 15 "FloatMarket$Canoe" "has" "[I", Cond.methodLink RX0 67 Lib.Math.max.name, Cond.static Lib.Math.max.name, Cond.initialized "java/lang/Math", Cond.code Lib.Math.max.name Lib.Math.max.code 2 (some .int), Cond.methodLink RX1 150 yX1_cheapestSeller, Cond.instanceMethod yX1_cheapestSeller, Cond.selects RX1 yX1_cheapestSeller yX1_cheapestSeller, Cond.initialized RX1, Cond.code yX1_cheapestSeller cX1_cheapestSeller 7 (some (.object "FloatMarket$Canoe")), Cond.fieldLink RX1 158 "FloatMarket$Canoe" "pays" "[I", Cond.fieldLink RX1 63 "FloatMarket$Canoe" "coins" "I", Cond.methodLink RX1 161 Lib.Math.min.name, Cond.static Lib.Math.min.name, Cond.code Lib.Math.min.name Lib.Math.min.code 2 (some .int)]
def wsX1_tradeByNumbers_r2 : List Cond := [Cond.fieldLink RX1 72 "FloatMarket$Canoe" "row" "I", Cond.fieldLink RX1 78 "FloatMarket$Canoe" "place" "I", Cond.methodLink RX1 113 yX1_canoeAt, Cond.instanceMethod yX1_canoeAt, Cond.selects RX1 yX1_canoeAt yX1_canoeAt, Cond.code yX1_canoeAt cX1_canoeAt 4 (some (.object "FloatMarket$Canoe")), Cond.fieldLink RX1 31 "FloatMarket$Market" "rowCount" "I", Cond.fieldLink RX1 17 "FloatMarket$Market" "rows" "[LFloatMarket$Row;", Cond.methodLink RX1 185 yX2_canoeAt, Cond.instanceMethod yX2_canoeAt, Cond.selects RX2 yX2_canoeAt yX2_canoeAt, Cond.initialized RX2, Cond.code yX2_canoeAt cX2_canoeAt 2 (some .int), Cond.fieldLink RX2 19 "FloatMarket$Row" "used" "I", Cond.fieldLink RX2 9 "FloatMarket$Row" "moored" "[I", Cond.methodLink RX1 167 yX1_cheaper, Cond.instanceMethod yX1_cheaper, Cond.selects RX1 yX1_cheaper yX1_cheaper, Cond.code yX1_cheaper cX1_cheaper 6 (some (.object "FloatMarket$Canoe")), Cond.fieldLink RX1 175 "FloatMarket$Canoe" "asks" "[I", Cond.fieldLink RX1 81 "FloatMarket$Canoe" "number" "I", Cond.methodLink RX1 171 yX0_sells, Cond.instanceMethod yX0_sells, Cond.selects RX0 yX0_sells yX0_sells]
def wsX1_tradeByNumbers_r3 : List Cond := [Cond.code yX0_sells cX0_sells 3 (some .boolean), Cond.fieldLink RX0 19 "FloatMarket$Canoe" "asks" "[I", Cond.methodLink RX1 154 yX1_trade, Cond.instanceMethod yX1_trade, Cond.selects RX1 yX1_trade yX1_trade, Cond.code yX1_trade cX1_trade 5 none, Cond.fieldLink RX1 178 "FloatMarket$Canoe" "has" "[I", Cond.fieldLink RX1 181 "FloatMarket$Canoe" "sold" "I", Cond.fieldLink RX1 182 "FloatMarket$Canoe" "bought" "I", Cond.fieldLink RX1 41 "FloatMarket$Market" "sold" "I", Cond.fieldLink RX1 44 "FloatMarket$Market" "paid" "I"]
def wsX1_tradeByNumbers : List Cond := .code yX1_tradeByNumbers cX1_tradeByNumbers 4 none :: ((wsX1_tradeByNumbers_r1 ++ (wsX1_tradeByNumbers_r2 ++ wsX1_tradeByNumbers_r3)) ++ wsX10 ++ wsX00 ++ wsX20)
def wsX1_passSteps_r1 : List Cond := [Cond.fieldLink RX1 38 "FloatMarket$Market" "step" "I", Cond.methodLink RX1 101 yX1_driftByRows, Cond.instanceMethod yX1_driftByRows, Cond.selects RX1 yX1_driftByRows yX1_driftByRows, Cond.initialized RX1, Cond.code yX1_driftByRows cX1_driftByRows 4 none, Cond.fieldLink RX1 9 "FloatMarket$Market" "water" "LFloatMarket$Water;", Cond.fieldLink RX1 31 "FloatMarket$Market" "rowCount" "I", Cond.fieldLink RX1 17 "FloatMarket$Market" "rows" "[LFloatMarket$Row;", Cond.fieldLink RX1 75 "FloatMarket$Row" "used" "I", Cond.fieldLink RX1 66 "FloatMarket$Canoe" "rope" "I", Cond.fieldLink RX1 117 "FloatMarket$Canoe" "lastDriftStep" "I", Cond.methodLink RX1 110 yX3_wakeIn, Cond.instanceMethod yX3_wakeIn, Cond.selects RX3 yX3_wakeIn yX3_wakeIn, Cond.initialized RX3, Cond.code yX3_wakeIn cX3_wakeIn 2 (some .int), Cond.fieldLink RX3 15 "FloatMarket$Water" "wakes" "[I", Cond.methodLink RX3 24 yJ9_floorMod_7cf53, Cond.static yJ9_floorMod_7cf53, Cond.initialized RJ9, Cond.code yJ9_floorMod_7cf53 cJ9_floorMod_7cf53 3 (some .int), Cond.methodLink RX1 113 yX1_canoeAt, Cond.instanceMethod yX1_canoeAt]
def wsX1_passSteps_r2 : List Cond := [Cond.selects RX1 yX1_canoeAt yX1_canoeAt, Cond.code yX1_canoeAt cX1_canoeAt 4 (some (.object "FloatMarket$Canoe")), Cond.fieldLink RX1 24 "FloatMarket$Market" "canoes" "[LFloatMarket$Canoe;", Cond.methodLink RX1 185 yX2_canoeAt, Cond.instanceMethod yX2_canoeAt, Cond.selects RX2 yX2_canoeAt yX2_canoeAt, Cond.initialized RX2, Cond.code yX2_canoeAt cX2_canoeAt 2 (some .int), Cond.fieldLink RX2 19 "FloatMarket$Row" "used" "I", Cond.fieldLink RX2 9 "FloatMarket$Row" "moored" "[I", Cond.methodLink RX1 120 yX1_drift, Cond.instanceMethod yX1_drift, Cond.selects RX1 yX1_drift yX1_drift, Cond.code yX1_drift cX1_drift 4 none, Cond.fieldLink RX1 134 "FloatMarket$Canoe" "drifted" "I", Cond.fieldLink RX1 50 "FloatMarket$Market" "drifted" "I", Cond.methodLink RX1 124 yX1_unfasten, Cond.instanceMethod yX1_unfasten, Cond.selects RX1 yX1_unfasten yX1_unfasten, Cond.code yX1_unfasten cX1_unfasten 6 (some .int), Cond.fieldLink RX1 69 "FloatMarket$Canoe" "status" "I", Cond.fieldLink RX1 72 "FloatMarket$Canoe" "row" "I", Cond.fieldLink RX1 78 "FloatMarket$Canoe" "place" "I", Cond.fieldLink RX1 90 "FloatMarket$Row" "moored" "[I"]
def wsX1_passSteps_r3 : List Cond := [Cond.fieldLink RX1 94 "FloatMarket$Canoe" "loosened" "I", Cond.fieldLink RX1 47 "FloatMarket$Market" "loosened" "I", Cond.methodLink RX1 87 yX2_closeGap, Cond.instanceMethod yX2_closeGap, Cond.selects RX2 yX2_closeGap yX2_closeGap, Cond.code yX2_closeGap cX2_closeGap 3 none, Cond.methodLink RX1 128 yX1_nextRowNotFull, Cond.instanceMethod yX1_nextRowNotFull, Cond.selects RX1 yX1_nextRowNotFull yX1_nextRowNotFull, Cond.code yX1_nextRowNotFull cX1_nextRowNotFull 4 (some .int), Cond.methodLink RX1 135 yX2_isFull, Cond.instanceMethod yX2_isFull, Cond.selects RX2 yX2_isFull yX2_isFull, Cond.code yX2_isFull cX2_isFull 1 (some .boolean), Cond.fieldLink RX2 15 "FloatMarket$Row" "places" "I", Cond.methodLink RX1 131 yX1_fasten, Cond.instanceMethod yX1_fasten, Cond.selects RX1 yX1_fasten yX1_fasten, Cond.code yX1_fasten cX1_fasten 3 none, Cond.fieldLink RX1 81 "FloatMarket$Canoe" "number" "I", Cond.methodLink RX1 84 yX2_append, Cond.instanceMethod yX2_append, Cond.selects RX2 yX2_append yX2_append, Cond.code yX2_append cX2_append 2 none]
def wsX1_passSteps_r4 : List Cond := [Cond.methodLink RX1 104 yX1_leaveByNumbers, Cond.instanceMethod yX1_leaveByNumbers, Cond.selects RX1 yX1_leaveByNumbers yX1_leaveByNumbers, Cond.code yX1_leaveByNumbers cX1_leaveByNumbers 3 none, Cond.fieldLink RX1 35 "FloatMarket$Market" "canoeCount" "I", Cond.methodLink RX1 139 yX0_isToLeaveBy, Cond.instanceMethod yX0_isToLeaveBy, Cond.selects RX0 yX0_isToLeaveBy yX0_isToLeaveBy, Cond.initialized RX0, Cond.code yX0_isToLeaveBy cX0_isToLeaveBy 2 (some .boolean), Cond.fieldLink RX0 37 "FloatMarket$Canoe" "leaveStep" "I", Cond.methodLink RX1 143 yX1_liesDry, Cond.instanceMethod yX1_liesDry, Cond.selects RX1 yX1_liesDry yX1_liesDry, Cond.code yX1_liesDry cX1_liesDry 2 (some .boolean), Cond.methodLink RX1 95 yX3_tideIn, Cond.instanceMethod yX3_tideIn, Cond.selects RX3 yX3_tideIn yX3_tideIn, Cond.code yX3_tideIn cX3_tideIn 2 (some .int), Cond.fieldLink RX3 9 "FloatMarket$Water" "tides" "[I", Cond.methodLink RX1 107 yX1_tradeByNumbers, Cond.instanceMethod yX1_tradeByNumbers, Cond.selects RX1 yX1_tradeByNumbers yX1_tradeByNumbers, Cond.code yX1_tradeByNumbers cX1_tradeByNumbers 4 none]
def wsX1_passSteps_r5 : List Cond := [Cond.methodLink RX1 147 yX0_misses, Cond.instanceMethod yX0_misses, Cond.selects RX0 yX0_misses yX0_misses, Cond.code yX0_misses cX0_misses 2 (some .int), Cond.fieldLink RX0 22 "FloatMarket$Canoe" "wants" "[I", Cond.fieldLink RX0 15 "FloatMarket$Canoe" "has" "[I", Cond.methodLink RX0 67 Lib.Math.max.name, Cond.static Lib.Math.max.name, Cond.initialized "java/lang/Math", Cond.code Lib.Math.max.name Lib.Math.max.code 2 (some .int), Cond.methodLink RX1 150 yX1_cheapestSeller, Cond.instanceMethod yX1_cheapestSeller, Cond.selects RX1 yX1_cheapestSeller yX1_cheapestSeller, Cond.code yX1_cheapestSeller cX1_cheapestSeller 7 (some (.object "FloatMarket$Canoe")), Cond.fieldLink RX1 158 "FloatMarket$Canoe" "pays" "[I", Cond.fieldLink RX1 63 "FloatMarket$Canoe" "coins" "I", Cond.methodLink RX1 161 Lib.Math.min.name, Cond.static Lib.Math.min.name, Cond.code Lib.Math.min.name Lib.Math.min.code 2 (some .int), Cond.methodLink RX1 167 yX1_cheaper, Cond.instanceMethod yX1_cheaper, Cond.selects RX1 yX1_cheaper yX1_cheaper, Cond.code yX1_cheaper cX1_cheaper 6 (some (.object "FloatMarket$Canoe")), Cond.fieldLink RX1 175 "FloatMarket$Canoe" "asks" "[I"]
def wsX1_passSteps_r6 : List Cond := [Cond.methodLink RX1 171 yX0_sells, Cond.instanceMethod yX0_sells, Cond.selects RX0 yX0_sells yX0_sells, Cond.code yX0_sells cX0_sells 3 (some .boolean), Cond.fieldLink RX0 19 "FloatMarket$Canoe" "asks" "[I", Cond.methodLink RX1 154 yX1_trade, Cond.instanceMethod yX1_trade, Cond.selects RX1 yX1_trade yX1_trade, Cond.code yX1_trade cX1_trade 5 none, Cond.fieldLink RX1 178 "FloatMarket$Canoe" "has" "[I", Cond.fieldLink RX1 181 "FloatMarket$Canoe" "sold" "I", Cond.fieldLink RX1 182 "FloatMarket$Canoe" "bought" "I", Cond.fieldLink RX1 41 "FloatMarket$Market" "sold" "I", Cond.fieldLink RX1 44 "FloatMarket$Market" "paid" "I"]
def wsX1_passSteps : List Cond := .code yX1_passSteps cX1_passSteps 3 none :: ((wsX1_passSteps_r1 ++ (wsX1_passSteps_r2 ++ (wsX1_passSteps_r3 ++ (wsX1_passSteps_r4 ++ (wsX1_passSteps_r5 ++ wsX1_passSteps_r6))))) ++ wsX10 ++ wsX20 ++ wsX00 ++ wsX30)
def wsX1_canoesBeing : List Cond := .code yX1_canoesBeing cX1_canoesBeing 4 (some .int) :: ([.fieldLink RX1 35 "FloatMarket$Market" "canoeCount" "I", .fieldLink RX1 24 "FloatMarket$Market" "canoes" "[LFloatMarket$Canoe;", .fieldLink RX1 69 "FloatMarket$Canoe" "status" "I"] ++ wsX10 ++ wsX00)
def wsX1_coinsInAll : List Cond := .code yX1_coinsInAll cX1_coinsInAll 3 (some .int) :: ([.fieldLink RX1 35 "FloatMarket$Market" "canoeCount" "I", .fieldLink RX1 24 "FloatMarket$Market" "canoes" "[LFloatMarket$Canoe;", .fieldLink RX1 63 "FloatMarket$Canoe" "coins" "I"] ++ wsX10 ++ wsX00)
def wsX1_goodsInAll : List Cond := .code yX1_goodsInAll cX1_goodsInAll 3 (some .int) :: ([.fieldLink RX1 35 "FloatMarket$Market" "canoeCount" "I", .fieldLink RX1 24 "FloatMarket$Market" "canoes" "[LFloatMarket$Canoe;", .methodLink RX1 200 yX0_goodsInAll, .instanceMethod yX0_goodsInAll, .selects RX0 yX0_goodsInAll yX0_goodsInAll, .initialized RX0, .code yX0_goodsInAll cX0_goodsInAll 3 (some .int), .fieldLink RX0 15 "FloatMarket$Canoe" "has" "[I"] ++ wsX10 ++ wsX00)
def wsX1_dryCanoes : List Cond := .code yX1_dryCanoes cX1_dryCanoes 3 (some .int) :: ([.fieldLink RX1 35 "FloatMarket$Market" "canoeCount" "I", .fieldLink RX1 24 "FloatMarket$Market" "canoes" "[LFloatMarket$Canoe;", .methodLink RX1 143 yX1_liesDry, .instanceMethod yX1_liesDry, .selects RX1 yX1_liesDry yX1_liesDry, .initialized RX1, .code yX1_liesDry cX1_liesDry 2 (some .boolean), .fieldLink RX1 69 "FloatMarket$Canoe" "status" "I", .fieldLink RX1 78 "FloatMarket$Canoe" "place" "I", .fieldLink RX1 9 "FloatMarket$Market" "water" "LFloatMarket$Water;", .fieldLink RX1 38 "FloatMarket$Market" "step" "I", .methodLink RX1 95 yX3_tideIn, .instanceMethod yX3_tideIn, .selects RX3 yX3_tideIn yX3_tideIn, .initialized RX3, .code yX3_tideIn cX3_tideIn 2 (some .int), .fieldLink RX3 9 "FloatMarket$Water" "tides" "[I", .methodLink RX3 24 yJ9_floorMod_7cf53, .static yJ9_floorMod_7cf53, .initialized RJ9, .code yJ9_floorMod_7cf53 cJ9_floorMod_7cf53 3 (some .int)] ++ wsX10 ++ wsX00 ++ wsX30)
def wsX1_figure_r1 : List Cond := [Cond.fieldLink RX1 38 "FloatMarket$Market" "step" "I", Cond.fieldLink RX1 31 "FloatMarket$Market" "rowCount" "I", Cond.fieldLink RX1 35 "FloatMarket$Market" "canoeCount" "I", Cond.fieldLink RX1 41 "FloatMarket$Market" "sold" "I", Cond.fieldLink RX1 44 "FloatMarket$Market" "paid" "I", Cond.fieldLink RX1 47 "FloatMarket$Market" "loosened" "I", Cond.fieldLink RX1 50 "FloatMarket$Market" "drifted" "I", Cond.methodLink RX1 187 yX1_canoesBeing, Cond.instanceMethod yX1_canoesBeing, Cond.selects RX1 yX1_canoesBeing yX1_canoesBeing, Cond.initialized RX1, Cond.code yX1_canoesBeing cX1_canoesBeing 4 (some .int), Cond.fieldLink RX1 24 "FloatMarket$Market" "canoes" "[LFloatMarket$Canoe;", Cond.fieldLink RX1 69 "FloatMarket$Canoe" "status" "I", Cond.methodLink RX1 190 yX1_coinsInAll, Cond.instanceMethod yX1_coinsInAll, Cond.selects RX1 yX1_coinsInAll yX1_coinsInAll, Cond.code yX1_coinsInAll cX1_coinsInAll 3 (some .int), Cond.fieldLink RX1 63 "FloatMarket$Canoe" "coins" "I", Cond.methodLink RX1 194 yX1_goodsInAll, Cond.instanceMethod yX1_goodsInAll, Cond.selects RX1 yX1_goodsInAll yX1_goodsInAll, Cond.code yX1_goodsInAll cX1_goodsInAll 3 (some .int), Cond.methodLink RX1 200 yX0_goodsInAll]
def wsX1_figure_r2 : List Cond := [Cond.instanceMethod yX0_goodsInAll, Cond.selects RX0 yX0_goodsInAll yX0_goodsInAll, Cond.initialized RX0, Cond.code yX0_goodsInAll cX0_goodsInAll 3 (some .int), Cond.fieldLink RX0 15 "FloatMarket$Canoe" "has" "[I", Cond.methodLink RX1 197 yX1_dryCanoes, Cond.instanceMethod yX1_dryCanoes, Cond.selects RX1 yX1_dryCanoes yX1_dryCanoes, Cond.code yX1_dryCanoes cX1_dryCanoes 3 (some .int), Cond.methodLink RX1 143 yX1_liesDry, Cond.instanceMethod yX1_liesDry, Cond.selects RX1 yX1_liesDry yX1_liesDry, Cond.code yX1_liesDry cX1_liesDry 2 (some .boolean), Cond.fieldLink RX1 78 "FloatMarket$Canoe" "place" "I", Cond.fieldLink RX1 9 "FloatMarket$Market" "water" "LFloatMarket$Water;", Cond.methodLink RX1 95 yX3_tideIn, Cond.instanceMethod yX3_tideIn, Cond.selects RX3 yX3_tideIn yX3_tideIn, Cond.initialized RX3, Cond.code yX3_tideIn cX3_tideIn 2 (some .int), Cond.fieldLink RX3 9 "FloatMarket$Water" "tides" "[I", Cond.methodLink RX3 24 yJ9_floorMod_7cf53, Cond.static yJ9_floorMod_7cf53, Cond.initialized RJ9]
def wsX1_figure_r3 : List Cond := [Cond.code yJ9_floorMod_7cf53 cJ9_floorMod_7cf53 3 (some .int)]
def wsX1_figure : List Cond := .code yX1_figure cX1_figure 2 (some .int) :: ((wsX1_figure_r1 ++ (wsX1_figure_r2 ++ wsX1_figure_r3)) ++ wsX10 ++ wsX00 ++ wsX30)
def wsX2_addTo : List Cond := .code yX2_addTo cX2_addTo 6 (some .long) :: ([.constantLong RX2 28 (31), .fieldLink RX2 15 "FloatMarket$Row" "places" "I", .methodLink RX2 30 yX2_canoeAt, .instanceMethod yX2_canoeAt, .selects RX2 yX2_canoeAt yX2_canoeAt, .initialized RX2, .code yX2_canoeAt cX2_canoeAt 2 (some .int), .fieldLink RX2 19 "FloatMarket$Row" "used" "I", .fieldLink RX2 9 "FloatMarket$Row" "moored" "[I"] ++ wsX20)
def wsJ7_fill_53178 : List Cond := .code yJ7_fill_53178 cJ7_fill_53178 4 none :: ([])
def wsX3_init : List Cond := .code yX3_init cX3_init 1 none :: ([.methodLink RX3 3 objectInit, .instanceMethod objectInit, .code objectInit ⟨#[0xb1]⟩ 1 none, .arrayClass .int, .fieldLink RX3 9 "FloatMarket$Water" "tides" "[I", .fieldLink RX3 15 "FloatMarket$Water" "wakes" "[I", .methodLink RX3 18 yJ7_fill_53178, .static yJ7_fill_53178, .initialized RJ7, .code yJ7_fill_53178 cJ7_fill_53178 4 none] ++ wsX30)
def wsX3_entry : List Cond := .code yX3_entry cX3_entry 2 (some .int) :: ([.methodLink RX3 30 yX3_tideIn, .instanceMethod yX3_tideIn, .selects RX3 yX3_tideIn yX3_tideIn, .initialized RX3, .code yX3_tideIn cX3_tideIn 2 (some .int), .fieldLink RX3 9 "FloatMarket$Water" "tides" "[I", .methodLink RX3 24 yJ9_floorMod_7cf53, .static yJ9_floorMod_7cf53, .initialized RJ9, .code yJ9_floorMod_7cf53 cJ9_floorMod_7cf53 3 (some .int), .methodLink RX3 34 yX3_wakeIn, .instanceMethod yX3_wakeIn, .selects RX3 yX3_wakeIn yX3_wakeIn, .code yX3_wakeIn cX3_wakeIn 2 (some .int), .fieldLink RX3 15 "FloatMarket$Water" "wakes" "[I"] ++ wsX30)
def wsX4_init_r1 : List Cond := [Cond.methodLink RX4 1 objectInit, Cond.instanceMethod objectInit, Cond.code objectInit ⟨#[0xb1]⟩ 1 none, Cond.classLink RX4 7 RX3, Cond.instantiable RX3 2, Cond.initialized RX3, Cond.fieldLink RX4 10 "FloatMarket" "water" "LFloatMarket$Water;", Cond.classLink RX4 16 RX1, Cond.instantiable RX1 10, Cond.initialized RX1, Cond.fieldLink RX4 21 "FloatMarket" "now" "LFloatMarket$Market;", Cond.fieldLink RX4 25 "FloatMarket" "trial" "LFloatMarket$Market;", Cond.methodLink RX4 9 yX3_init, Cond.instanceMethod yX3_init, Cond.code yX3_init cX3_init 1 none, Cond.methodLink RX3 3 objectInit, Cond.arrayClass .int, Cond.fieldLink RX3 9 "FloatMarket$Water" "tides" "[I", Cond.fieldLink RX3 15 "FloatMarket$Water" "wakes" "[I", Cond.methodLink RX3 18 yJ7_fill_53178, Cond.static yJ7_fill_53178, Cond.initialized RJ7, Cond.code yJ7_fill_53178 cJ7_fill_53178 4 none, Cond.methodLink RX4 18 yX1_init]
def wsX4_init_r2 : List Cond := [Cond.instanceMethod yX1_init, Cond.code yX1_init cX1_init 3 none, Cond.methodLink RX1 3 objectInit, Cond.fieldLink RX1 9 "FloatMarket$Market" "water" "LFloatMarket$Water;", Cond.classLink RX1 15 RX2, Cond.fieldLink RX1 17 "FloatMarket$Market" "rows" "[LFloatMarket$Row;", Cond.instantiable RX2 3, Cond.initialized RX2, Cond.classLink RX1 22 RX0, Cond.fieldLink RX1 24 "FloatMarket$Market" "canoes" "[LFloatMarket$Canoe;", Cond.instantiable RX0 16, Cond.initialized RX0, Cond.methodLink RX1 21 yX2_init, Cond.instanceMethod yX2_init, Cond.code yX2_init cX2_init 1 none, Cond.methodLink RX2 3 objectInit, Cond.fieldLink RX2 9 "FloatMarket$Row" "moored" "[I", Cond.methodLink RX1 28 yX0_init, Cond.instanceMethod yX0_init, Cond.code yX0_init cX0_init 2 none, Cond.methodLink RX0 3 objectInit, Cond.fieldLink RX0 9 "FloatMarket$Canoe" "number" "I", Cond.fieldLink RX0 15 "FloatMarket$Canoe" "has" "[I", Cond.fieldLink RX0 19 "FloatMarket$Canoe" "asks" "[I"]
def wsX4_init_r3 : List Cond := [Cond.fieldLink RX0 22 "FloatMarket$Canoe" "wants" "[I", Cond.fieldLink RX0 25 "FloatMarket$Canoe" "pays" "[I", Cond.fieldLink RX0 28 "FloatMarket$Canoe" "status" "I", Cond.fieldLink RX0 31 "FloatMarket$Canoe" "row" "I", Cond.fieldLink RX0 34 "FloatMarket$Canoe" "place" "I", Cond.fieldLink RX0 37 "FloatMarket$Canoe" "leaveStep" "I", Cond.fieldLink RX0 40 "FloatMarket$Canoe" "lastDriftStep" "I"]
def wsX4_init : List Cond := .code yX4_init cX4_init 1 none :: ((wsX4_init_r1 ++ (wsX4_init_r2 ++ wsX4_init_r3)) ++ wsX30 ++ wsX40 ++ wsX10 ++ wsX20 ++ wsX00)
def wsX4_needRange : List Cond := .code yX4_needRange cX4_needRange 3 none :: ([.classLink RX4 195 "java/lang/IllegalArgumentException", .initialized "java/lang/IllegalArgumentException"] ++ (vx_atS RX4 199 "java/lang/IllegalArgumentException" ["java/lang/RuntimeException", "java/lang/Exception"]).filter goodWord)
def wsX4_needState : List Cond := .code yX4_needState cX4_needState 1 none :: ([.classLink RX4 200 "java/lang/IllegalStateException", .initialized "java/lang/IllegalStateException"] ++ (vx_atS RX4 204 "java/lang/IllegalStateException" ["java/lang/RuntimeException", "java/lang/Exception"]).filter goodWord)
def wsX4_addRow : List Cond := .code yX4_addRow cX4_addRow 2 (some .int) :: ([.fieldLink RX4 21 "FloatMarket" "now" "LFloatMarket$Market;", .fieldLink RX4 32 "FloatMarket$Market" "rowCount" "I", .methodLink RX4 28 yX4_needRange, .static yX4_needRange, .initialized RX4, .code yX4_needRange cX4_needRange 3 none, .classLink RX4 195 "java/lang/IllegalArgumentException", .initialized "java/lang/IllegalArgumentException", .methodLink RX4 36 yX4_needState, .static yX4_needState, .code yX4_needState cX4_needState 1 none, .classLink RX4 200 "java/lang/IllegalStateException", .initialized "java/lang/IllegalStateException", .methodLink RX4 40 yX1_openRow, .instanceMethod yX1_openRow, .selects RX1 yX1_openRow yX1_openRow, .initialized RX1, .code yX1_openRow cX1_openRow 3 (some .int), .fieldLink RX1 31 "FloatMarket$Market" "rowCount" "I", .fieldLink RX1 17 "FloatMarket$Market" "rows" "[LFloatMarket$Row;", .fieldLink RX1 60 "FloatMarket$Row" "places" "I"] ++ wsX40 ++ wsX10 ++ wsX20 ++ (vx_atS RX4 199 "java/lang/IllegalArgumentException" ["java/lang/RuntimeException", "java/lang/Exception"]).filter goodWord ++ (vx_atS RX4 204 "java/lang/IllegalStateException" ["java/lang/RuntimeException", "java/lang/Exception"]).filter goodWord)
def wsX4_needIndex : List Cond := .code yX4_needIndex cX4_needIndex 2 none :: ([.classLink RX4 188 "java/lang/IndexOutOfBoundsException", .initialized "java/lang/IndexOutOfBoundsException"] ++ (vx_atS RX4 192 "java/lang/IndexOutOfBoundsException" ["java/lang/RuntimeException", "java/lang/Exception"]).filter goodWord)
def wsX4_setWater_r1 : List Cond := [Cond.fieldLink RX4 10 "FloatMarket" "water" "LFloatMarket$Water;", Cond.fieldLink RX4 51 "FloatMarket$Water" "tides" "[I", Cond.fieldLink RX4 55 "FloatMarket$Water" "wakes" "[I", Cond.methodLink RX4 44 yX4_needIndex, Cond.static yX4_needIndex, Cond.initialized RX4, Cond.code yX4_needIndex cX4_needIndex 2 none, Cond.classLink RX4 188 "java/lang/IndexOutOfBoundsException", Cond.initialized "java/lang/IndexOutOfBoundsException", Cond.methodLink RX4 28 yX4_needRange, Cond.static yX4_needRange, Cond.code yX4_needRange cX4_needRange 3 none, Cond.classLink RX4 195 "java/lang/IllegalArgumentException", Cond.initialized "java/lang/IllegalArgumentException", Cond.methodLink RX4 48 yX3_entry, Cond.instanceMethod yX3_entry, Cond.selects RX3 yX3_entry yX3_entry, Cond.initialized RX3, Cond.code yX3_entry cX3_entry 2 (some .int), Cond.methodLink RX3 30 yX3_tideIn, Cond.instanceMethod yX3_tideIn, Cond.selects RX3 yX3_tideIn yX3_tideIn, Cond.code yX3_tideIn cX3_tideIn 2 (some .int), Cond.fieldLink RX3 9 "FloatMarket$Water" "tides" "[I"]
def wsX4_setWater_r2 : List Cond := [Cond.methodLink RX3 24 yJ9_floorMod_7cf53, Cond.static yJ9_floorMod_7cf53, Cond.initialized RJ9, Cond.code yJ9_floorMod_7cf53 cJ9_floorMod_7cf53 3 (some .int), Cond.methodLink RX3 34 yX3_wakeIn, Cond.instanceMethod yX3_wakeIn, Cond.selects RX3 yX3_wakeIn yX3_wakeIn, Cond.code yX3_wakeIn cX3_wakeIn 2 (some .int), Cond.fieldLink RX3 15 "FloatMarket$Water" "wakes" "[I"]
def wsX4_setWater : List Cond := .code yX4_setWater cX4_setWater 5 (some .int) :: ((wsX4_setWater_r1 ++ wsX4_setWater_r2) ++ wsX40 ++ wsX30 ++ (vx_atS RX4 192 "java/lang/IndexOutOfBoundsException" ["java/lang/RuntimeException", "java/lang/Exception"]).filter goodWord ++ (vx_atS RX4 199 "java/lang/IllegalArgumentException" ["java/lang/RuntimeException", "java/lang/Exception"]).filter goodWord)
def wsX4_addCanoe : List Cond := .code yX4_addCanoe cX4_addCanoe 3 (some .int) :: ([.fieldLink RX4 21 "FloatMarket" "now" "LFloatMarket$Market;", .fieldLink RX4 58 "FloatMarket$Market" "canoeCount" "I", .methodLink RX4 28 yX4_needRange, .static yX4_needRange, .initialized RX4, .code yX4_needRange cX4_needRange 3 none, .classLink RX4 195 "java/lang/IllegalArgumentException", .initialized "java/lang/IllegalArgumentException", .methodLink RX4 36 yX4_needState, .static yX4_needState, .code yX4_needState cX4_needState 1 none, .classLink RX4 200 "java/lang/IllegalStateException", .initialized "java/lang/IllegalStateException", .methodLink RX4 61 yX1_launch, .instanceMethod yX1_launch, .selects RX1 yX1_launch yX1_launch, .initialized RX1, .code yX1_launch cX1_launch 4 (some .int), .fieldLink RX1 35 "FloatMarket$Market" "canoeCount" "I", .fieldLink RX1 24 "FloatMarket$Market" "canoes" "[LFloatMarket$Canoe;", .fieldLink RX1 63 "FloatMarket$Canoe" "coins" "I", .fieldLink RX1 66 "FloatMarket$Canoe" "rope" "I"] ++ wsX40 ++ wsX10 ++ wsX00 ++ (vx_atS RX4 199 "java/lang/IllegalArgumentException" ["java/lang/RuntimeException", "java/lang/Exception"]).filter goodWord ++ (vx_atS RX4 204 "java/lang/IllegalStateException" ["java/lang/RuntimeException", "java/lang/Exception"]).filter goodWord)
def wsX4_load : List Cond := .code yX4_load cX4_load 5 (some .int) :: ([.fieldLink RX4 21 "FloatMarket" "now" "LFloatMarket$Market;", .fieldLink RX4 58 "FloatMarket$Market" "canoeCount" "I", .fieldLink RX4 65 "FloatMarket$Market" "canoes" "[LFloatMarket$Canoe;", .fieldLink RX4 69 "FloatMarket$Canoe" "status" "I", .fieldLink RX4 74 "FloatMarket$Canoe" "has" "[I", .methodLink RX4 44 yX4_needIndex, .static yX4_needIndex, .initialized RX4, .code yX4_needIndex cX4_needIndex 2 none, .classLink RX4 188 "java/lang/IndexOutOfBoundsException", .initialized "java/lang/IndexOutOfBoundsException", .methodLink RX4 28 yX4_needRange, .static yX4_needRange, .code yX4_needRange cX4_needRange 3 none, .classLink RX4 195 "java/lang/IllegalArgumentException", .initialized "java/lang/IllegalArgumentException", .methodLink RX4 36 yX4_needState, .static yX4_needState, .code yX4_needState cX4_needState 1 none, .classLink RX4 200 "java/lang/IllegalStateException", .initialized "java/lang/IllegalStateException"] ++ wsX40 ++ wsX10 ++ wsX00 ++ (vx_atS RX4 192 "java/lang/IndexOutOfBoundsException" ["java/lang/RuntimeException", "java/lang/Exception"]).filter goodWord ++ (vx_atS RX4 199 "java/lang/IllegalArgumentException" ["java/lang/RuntimeException", "java/lang/Exception"]).filter goodWord ++ (vx_atS RX4 204 "java/lang/IllegalStateException" ["java/lang/RuntimeException", "java/lang/Exception"]).filter goodWord)
def wsX4_offer_r1 : List Cond := [Cond.fieldLink RX4 21 "FloatMarket" "now" "LFloatMarket$Market;", Cond.fieldLink RX4 58 "FloatMarket$Market" "canoeCount" "I", Cond.fieldLink RX4 65 "FloatMarket$Market" "canoes" "[LFloatMarket$Canoe;", Cond.fieldLink RX4 77 "FloatMarket$Canoe" "asks" "[I", Cond.fieldLink RX4 80 "FloatMarket$Canoe" "wants" "[I", Cond.fieldLink RX4 83 "FloatMarket$Canoe" "pays" "[I", Cond.methodLink RX4 44 yX4_needIndex, Cond.static yX4_needIndex, Cond.initialized RX4, Cond.code yX4_needIndex cX4_needIndex 2 none, Cond.classLink RX4 188 "java/lang/IndexOutOfBoundsException", Cond.initialized "java/lang/IndexOutOfBoundsException", Cond.methodLink RX4 28 yX4_needRange, Cond.static yX4_needRange, Cond.code yX4_needRange cX4_needRange 3 none, Cond.classLink RX4 195 "java/lang/IllegalArgumentException", Cond.initialized "java/lang/IllegalArgumentException", Cond.methodLink RX4 86 yX0_misses, Cond.instanceMethod yX0_misses, Cond.selects RX0 yX0_misses yX0_misses, Cond.initialized RX0, Cond.code yX0_misses cX0_misses 2 (some .int), Cond.fieldLink RX0 22 "FloatMarket$Canoe" "wants" "[I", Cond.fieldLink RX0 15 "FloatMarket$Canoe" "has" "[I"]
def wsX4_offer_r2 : List Cond := [Cond.methodLink RX0 67 Lib.Math.max.name, Cond.static Lib.Math.max.name, Cond.initialized "java/lang/Math", Cond.code Lib.Math.max.name Lib.Math.max.code 2 (some .int)]
def wsX4_offer : List Cond := .code yX4_offer cX4_offer 7 (some .int) :: ((wsX4_offer_r1 ++ wsX4_offer_r2) ++ wsX40 ++ wsX10 ++ wsX00 ++ (vx_atS RX4 192 "java/lang/IndexOutOfBoundsException" ["java/lang/RuntimeException", "java/lang/Exception"]).filter goodWord ++ (vx_atS RX4 199 "java/lang/IllegalArgumentException" ["java/lang/RuntimeException", "java/lang/Exception"]).filter goodWord)
def wsX4_moor_r1 : List Cond := [Cond.fieldLink RX4 21 "FloatMarket" "now" "LFloatMarket$Market;", Cond.fieldLink RX4 58 "FloatMarket$Market" "canoeCount" "I", Cond.fieldLink RX4 32 "FloatMarket$Market" "rowCount" "I", Cond.fieldLink RX4 65 "FloatMarket$Market" "canoes" "[LFloatMarket$Canoe;", Cond.fieldLink RX4 69 "FloatMarket$Canoe" "status" "I", Cond.fieldLink RX4 89 "FloatMarket$Market" "rows" "[LFloatMarket$Row;", Cond.fieldLink RX4 103 "FloatMarket$Canoe" "place" "I", Cond.methodLink RX4 44 yX4_needIndex, Cond.static yX4_needIndex, Cond.initialized RX4, Cond.code yX4_needIndex cX4_needIndex 2 none, Cond.classLink RX4 188 "java/lang/IndexOutOfBoundsException", Cond.initialized "java/lang/IndexOutOfBoundsException", Cond.methodLink RX4 93 yX2_isFull, Cond.instanceMethod yX2_isFull, Cond.selects RX2 yX2_isFull yX2_isFull, Cond.initialized RX2, Cond.code yX2_isFull cX2_isFull 1 (some .boolean), Cond.fieldLink RX2 19 "FloatMarket$Row" "used" "I", Cond.fieldLink RX2 15 "FloatMarket$Row" "places" "I", Cond.methodLink RX4 36 yX4_needState, Cond.static yX4_needState, Cond.code yX4_needState cX4_needState 1 none, Cond.classLink RX4 200 "java/lang/IllegalStateException"]
def wsX4_moor_r2 : List Cond := [Cond.initialized "java/lang/IllegalStateException", Cond.methodLink RX4 99 yX1_fasten, Cond.instanceMethod yX1_fasten, Cond.selects RX1 yX1_fasten yX1_fasten, Cond.initialized RX1, Cond.code yX1_fasten cX1_fasten 3 none, Cond.fieldLink RX1 69 "FloatMarket$Canoe" "status" "I", Cond.fieldLink RX1 72 "FloatMarket$Canoe" "row" "I", Cond.fieldLink RX1 17 "FloatMarket$Market" "rows" "[LFloatMarket$Row;", Cond.fieldLink RX1 75 "FloatMarket$Row" "used" "I", Cond.fieldLink RX1 78 "FloatMarket$Canoe" "place" "I", Cond.fieldLink RX1 81 "FloatMarket$Canoe" "number" "I", Cond.methodLink RX1 84 yX2_append, Cond.instanceMethod yX2_append, Cond.selects RX2 yX2_append yX2_append, Cond.code yX2_append cX2_append 2 none, Cond.fieldLink RX2 9 "FloatMarket$Row" "moored" "[I"]
def wsX4_moor : List Cond := .code yX4_moor cX4_moor 4 (some .int) :: ((wsX4_moor_r1 ++ wsX4_moor_r2) ++ wsX40 ++ wsX10 ++ wsX00 ++ wsX20 ++ (vx_atS RX4 192 "java/lang/IndexOutOfBoundsException" ["java/lang/RuntimeException", "java/lang/Exception"]).filter goodWord ++ (vx_atS RX4 204 "java/lang/IllegalStateException" ["java/lang/RuntimeException", "java/lang/Exception"]).filter goodWord)
def wsX4_castOff_r1 : List Cond := [Cond.fieldLink RX4 21 "FloatMarket" "now" "LFloatMarket$Market;", Cond.fieldLink RX4 58 "FloatMarket$Market" "canoeCount" "I", Cond.fieldLink RX4 65 "FloatMarket$Market" "canoes" "[LFloatMarket$Canoe;", Cond.fieldLink RX4 69 "FloatMarket$Canoe" "status" "I", Cond.methodLink RX4 44 yX4_needIndex, Cond.static yX4_needIndex, Cond.initialized RX4, Cond.code yX4_needIndex cX4_needIndex 2 none, Cond.classLink RX4 188 "java/lang/IndexOutOfBoundsException", Cond.initialized "java/lang/IndexOutOfBoundsException", Cond.methodLink RX4 106 yX1_liesDry, Cond.instanceMethod yX1_liesDry, Cond.selects RX1 yX1_liesDry yX1_liesDry, Cond.initialized RX1, Cond.code yX1_liesDry cX1_liesDry 2 (some .boolean), Cond.fieldLink RX1 69 "FloatMarket$Canoe" "status" "I", Cond.fieldLink RX1 78 "FloatMarket$Canoe" "place" "I", Cond.fieldLink RX1 9 "FloatMarket$Market" "water" "LFloatMarket$Water;", Cond.fieldLink RX1 38 "FloatMarket$Market" "step" "I", Cond.methodLink RX1 95 yX3_tideIn, Cond.instanceMethod yX3_tideIn, Cond.selects RX3 yX3_tideIn yX3_tideIn, Cond.initialized RX3, Cond.code yX3_tideIn cX3_tideIn 2 (some .int)]
def wsX4_castOff_r2 : List Cond := [Cond.fieldLink RX3 9 "FloatMarket$Water" "tides" "[I", Cond.methodLink RX3 24 yJ9_floorMod_7cf53, Cond.static yJ9_floorMod_7cf53, Cond.initialized RJ9, Cond.code yJ9_floorMod_7cf53 cJ9_floorMod_7cf53 3 (some .int), Cond.methodLink RX4 36 yX4_needState, Cond.static yX4_needState, Cond.code yX4_needState cX4_needState 1 none, Cond.classLink RX4 200 "java/lang/IllegalStateException", Cond.initialized "java/lang/IllegalStateException", Cond.methodLink RX4 110 yX1_unfasten, Cond.instanceMethod yX1_unfasten, Cond.selects RX1 yX1_unfasten yX1_unfasten, Cond.code yX1_unfasten cX1_unfasten 6 (some .int), Cond.fieldLink RX1 17 "FloatMarket$Market" "rows" "[LFloatMarket$Row;", Cond.fieldLink RX1 72 "FloatMarket$Canoe" "row" "I", Cond.fieldLink RX1 75 "FloatMarket$Row" "used" "I", Cond.fieldLink RX1 24 "FloatMarket$Market" "canoes" "[LFloatMarket$Canoe;", Cond.fieldLink RX1 90 "FloatMarket$Row" "moored" "[I", Cond.fieldLink RX1 94 "FloatMarket$Canoe" "loosened" "I", Cond.fieldLink RX1 47 "FloatMarket$Market" "loosened" "I", Cond.methodLink RX1 87 yX2_closeGap, Cond.instanceMethod yX2_closeGap, Cond.selects RX2 yX2_closeGap yX2_closeGap]
def wsX4_castOff_r3 : List Cond := [Cond.initialized RX2, Cond.code yX2_closeGap cX2_closeGap 3 none, Cond.fieldLink RX2 19 "FloatMarket$Row" "used" "I", Cond.fieldLink RX2 9 "FloatMarket$Row" "moored" "[I"]
def wsX4_castOff : List Cond := .code yX4_castOff cX4_castOff 3 (some .int) :: ((wsX4_castOff_r1 ++ (wsX4_castOff_r2 ++ wsX4_castOff_r3)) ++ wsX40 ++ wsX10 ++ wsX00 ++ wsX30 ++ wsX20 ++ (vx_atS RX4 192 "java/lang/IndexOutOfBoundsException" ["java/lang/RuntimeException", "java/lang/Exception"]).filter goodWord ++ (vx_atS RX4 204 "java/lang/IllegalStateException" ["java/lang/RuntimeException", "java/lang/Exception"]).filter goodWord)
def wsX4_leaveIn : List Cond := .code yX4_leaveIn cX4_leaveIn 5 (some .int) :: ([.fieldLink RX4 21 "FloatMarket" "now" "LFloatMarket$Market;", .fieldLink RX4 58 "FloatMarket$Market" "canoeCount" "I", .fieldLink RX4 114 "FloatMarket$Market" "step" "I", .constant RX4 119 (2147483647), .fieldLink RX4 65 "FloatMarket$Market" "canoes" "[LFloatMarket$Canoe;", .fieldLink RX4 69 "FloatMarket$Canoe" "status" "I", .fieldLink RX4 120 "FloatMarket$Canoe" "leaveStep" "I", .methodLink RX4 44 yX4_needIndex, .static yX4_needIndex, .initialized RX4, .code yX4_needIndex cX4_needIndex 2 none, .classLink RX4 188 "java/lang/IndexOutOfBoundsException", .initialized "java/lang/IndexOutOfBoundsException", .methodLink RX4 28 yX4_needRange, .static yX4_needRange, .code yX4_needRange cX4_needRange 3 none, .classLink RX4 195 "java/lang/IllegalArgumentException", .initialized "java/lang/IllegalArgumentException", .methodLink RX4 36 yX4_needState, .static yX4_needState, .code yX4_needState cX4_needState 1 none, .classLink RX4 200 "java/lang/IllegalStateException", .initialized "java/lang/IllegalStateException"] ++ wsX40 ++ wsX10 ++ wsX00 ++ (vx_atS RX4 192 "java/lang/IndexOutOfBoundsException" ["java/lang/RuntimeException", "java/lang/Exception"]).filter goodWord ++ (vx_atS RX4 199 "java/lang/IllegalArgumentException" ["java/lang/RuntimeException", "java/lang/Exception"]).filter goodWord ++ (vx_atS RX4 204 "java/lang/IllegalStateException" ["java/lang/RuntimeException", "java/lang/Exception"]).filter goodWord)
def wsX4_canoe_r1 : List Cond := [Cond.fieldLink RX4 21 "FloatMarket" "now" "LFloatMarket$Market;", Cond.fieldLink RX4 58 "FloatMarket$Market" "canoeCount" "I", Cond.fieldLink RX4 65 "FloatMarket$Market" "canoes" "[LFloatMarket$Canoe;", Cond.methodLink RX4 44 yX4_needIndex, Cond.static yX4_needIndex, Cond.initialized RX4, Cond.code yX4_needIndex cX4_needIndex 2 none, Cond.classLink RX4 188 "java/lang/IndexOutOfBoundsException", Cond.initialized "java/lang/IndexOutOfBoundsException", Cond.methodLink RX4 123 yX0_figure, Cond.instanceMethod yX0_figure, Cond.selects RX0 yX0_figure yX0_figure, Cond.initialized RX0, Cond.code yX0_figure cX0_figure 2 (some .int), Cond.fieldLink RX0 43 "FloatMarket$Canoe" "coins" "I", Cond.fieldLink RX0 46 "FloatMarket$Canoe" "rope" "I", Cond.fieldLink RX0 28 "FloatMarket$Canoe" "status" "I", Cond.fieldLink RX0 31 "FloatMarket$Canoe" "row" "I", Cond.fieldLink RX0 34 "FloatMarket$Canoe" "place" "I", Cond.fieldLink RX0 37 "FloatMarket$Canoe" "leaveStep" "I", Cond.fieldLink RX0 49 "FloatMarket$Canoe" "loosened" "I", Cond.fieldLink RX0 52 "FloatMarket$Canoe" "drifted" "I", Cond.fieldLink RX0 55 "FloatMarket$Canoe" "sold" "I", Cond.fieldLink RX0 58 "FloatMarket$Canoe" "bought" "I"]
def wsX4_canoe_r2 : List Cond := [Cond.methodLink RX0 80 yX0_missesInAll, Cond.instanceMethod yX0_missesInAll, Cond.selects RX0 yX0_missesInAll yX0_missesInAll, Cond.code yX0_missesInAll cX0_missesInAll 3 (some .int), Cond.methodLink RX0 73 yX0_misses, Cond.instanceMethod yX0_misses, Cond.selects RX0 yX0_misses yX0_misses, Cond.code yX0_misses cX0_misses 2 (some .int), Cond.fieldLink RX0 22 "FloatMarket$Canoe" "wants" "[I", Cond.fieldLink RX0 15 "FloatMarket$Canoe" "has" "[I", Cond.methodLink RX0 67 Lib.Math.max.name, Cond.static Lib.Math.max.name, Cond.initialized "java/lang/Math", Cond.code Lib.Math.max.name Lib.Math.max.code 2 (some .int)]
def wsX4_canoe : List Cond := .code yX4_canoe cX4_canoe 3 (some .int) :: ((wsX4_canoe_r1 ++ wsX4_canoe_r2) ++ wsX40 ++ wsX10 ++ wsX00 ++ (vx_atS RX4 192 "java/lang/IndexOutOfBoundsException" ["java/lang/RuntimeException", "java/lang/Exception"]).filter goodWord)
def wsX4_good : List Cond := .code yX4_good cX4_good 4 (some .int) :: ([.fieldLink RX4 21 "FloatMarket" "now" "LFloatMarket$Market;", .fieldLink RX4 58 "FloatMarket$Market" "canoeCount" "I", .fieldLink RX4 65 "FloatMarket$Market" "canoes" "[LFloatMarket$Canoe;", .methodLink RX4 44 yX4_needIndex, .static yX4_needIndex, .initialized RX4, .code yX4_needIndex cX4_needIndex 2 none, .classLink RX4 188 "java/lang/IndexOutOfBoundsException", .initialized "java/lang/IndexOutOfBoundsException", .methodLink RX4 126 yX0_goodFigure, .instanceMethod yX0_goodFigure, .selects RX0 yX0_goodFigure yX0_goodFigure, .initialized RX0, .code yX0_goodFigure cX0_goodFigure 3 (some .int), .fieldLink RX0 15 "FloatMarket$Canoe" "has" "[I", .fieldLink RX0 19 "FloatMarket$Canoe" "asks" "[I", .fieldLink RX0 22 "FloatMarket$Canoe" "wants" "[I", .fieldLink RX0 25 "FloatMarket$Canoe" "pays" "[I"] ++ wsX40 ++ wsX10 ++ wsX00 ++ (vx_atS RX4 192 "java/lang/IndexOutOfBoundsException" ["java/lang/RuntimeException", "java/lang/Exception"]).filter goodWord)
def wsX4_at : List Cond := .code yX4_at cX4_at 3 (some .int) :: ([.fieldLink RX4 21 "FloatMarket" "now" "LFloatMarket$Market;", .fieldLink RX4 32 "FloatMarket$Market" "rowCount" "I", .fieldLink RX4 89 "FloatMarket$Market" "rows" "[LFloatMarket$Row;", .fieldLink RX4 129 "FloatMarket$Row" "places" "I", .methodLink RX4 44 yX4_needIndex, .static yX4_needIndex, .initialized RX4, .code yX4_needIndex cX4_needIndex 2 none, .classLink RX4 188 "java/lang/IndexOutOfBoundsException", .initialized "java/lang/IndexOutOfBoundsException", .methodLink RX4 132 yX2_canoeAt, .instanceMethod yX2_canoeAt, .selects RX2 yX2_canoeAt yX2_canoeAt, .initialized RX2, .code yX2_canoeAt cX2_canoeAt 2 (some .int), .fieldLink RX2 19 "FloatMarket$Row" "used" "I", .fieldLink RX2 9 "FloatMarket$Row" "moored" "[I"] ++ wsX40 ++ wsX10 ++ wsX20 ++ (vx_atS RX4 192 "java/lang/IndexOutOfBoundsException" ["java/lang/RuntimeException", "java/lang/Exception"]).filter goodWord)
def wsX4_beside : List Cond := .code yX4_beside cX4_beside 3 (some .boolean) :: ([.fieldLink RX4 21 "FloatMarket" "now" "LFloatMarket$Market;", .fieldLink RX4 58 "FloatMarket$Market" "canoeCount" "I", .fieldLink RX4 65 "FloatMarket$Market" "canoes" "[LFloatMarket$Canoe;", .methodLink RX4 44 yX4_needIndex, .static yX4_needIndex, .initialized RX4, .code yX4_needIndex cX4_needIndex 2 none, .classLink RX4 188 "java/lang/IndexOutOfBoundsException", .initialized "java/lang/IndexOutOfBoundsException", .methodLink RX4 135 yX0_isBeside, .instanceMethod yX0_isBeside, .selects RX0 yX0_isBeside yX0_isBeside, .initialized RX0, .code yX0_isBeside cX0_isBeside 4 (some .boolean), .fieldLink RX0 28 "FloatMarket$Canoe" "status" "I", .fieldLink RX0 31 "FloatMarket$Canoe" "row" "I", .methodLink RX0 77 Lib.Math.abs.name, .static Lib.Math.abs.name, .initialized "java/lang/Math", .code Lib.Math.abs.name Lib.Math.abs.code 1 (some .int), .fieldLink RX0 34 "FloatMarket$Canoe" "place" "I"] ++ wsX40 ++ wsX10 ++ wsX00 ++ (vx_atS RX4 192 "java/lang/IndexOutOfBoundsException" ["java/lang/RuntimeException", "java/lang/Exception"]).filter goodWord)
def wsX4_pass_r1 : List Cond := [Cond.fieldLink RX4 21 "FloatMarket" "now" "LFloatMarket$Market;", Cond.fieldLink RX4 138 "FloatMarket$Market" "sold" "I", Cond.methodLink RX4 28 yX4_needRange, Cond.static yX4_needRange, Cond.initialized RX4, Cond.code yX4_needRange cX4_needRange 3 none, Cond.classLink RX4 195 "java/lang/IllegalArgumentException", Cond.initialized "java/lang/IllegalArgumentException", Cond.methodLink RX4 141 yX1_passSteps, Cond.instanceMethod yX1_passSteps, Cond.selects RX1 yX1_passSteps yX1_passSteps, Cond.initialized RX1, Cond.code yX1_passSteps cX1_passSteps 3 none, Cond.fieldLink RX1 38 "FloatMarket$Market" "step" "I", Cond.methodLink RX1 101 yX1_driftByRows, Cond.instanceMethod yX1_driftByRows, Cond.selects RX1 yX1_driftByRows yX1_driftByRows, Cond.code yX1_driftByRows cX1_driftByRows 4 none, Cond.fieldLink RX1 9 "FloatMarket$Market" "water" "LFloatMarket$Water;", Cond.fieldLink RX1 31 "FloatMarket$Market" "rowCount" "I", Cond.fieldLink RX1 17 "FloatMarket$Market" "rows" "[LFloatMarket$Row;", Cond.fieldLink RX1 75 "FloatMarket$Row" "used" "I", Cond.fieldLink RX1 66 "FloatMarket$Canoe" "rope" "I", Cond.fieldLink RX1 117 "FloatMarket$Canoe" "lastDriftStep" "I"]
def wsX4_pass_r2 : List Cond := [Cond.methodLink RX1 110 yX3_wakeIn, Cond.instanceMethod yX3_wakeIn, Cond.selects RX3 yX3_wakeIn yX3_wakeIn, Cond.initialized RX3, Cond.code yX3_wakeIn cX3_wakeIn 2 (some .int), Cond.fieldLink RX3 15 "FloatMarket$Water" "wakes" "[I", Cond.methodLink RX3 24 yJ9_floorMod_7cf53, Cond.static yJ9_floorMod_7cf53, Cond.initialized RJ9, Cond.code yJ9_floorMod_7cf53 cJ9_floorMod_7cf53 3 (some .int), Cond.methodLink RX1 113 yX1_canoeAt, Cond.instanceMethod yX1_canoeAt, Cond.selects RX1 yX1_canoeAt yX1_canoeAt, Cond.code yX1_canoeAt cX1_canoeAt 4 (some (.object "FloatMarket$Canoe")), Cond.fieldLink RX1 24 "FloatMarket$Market" "canoes" "[LFloatMarket$Canoe;", Cond.methodLink RX1 185 yX2_canoeAt, Cond.instanceMethod yX2_canoeAt, Cond.selects RX2 yX2_canoeAt yX2_canoeAt, Cond.initialized RX2, Cond.code yX2_canoeAt cX2_canoeAt 2 (some .int), Cond.fieldLink RX2 19 "FloatMarket$Row" "used" "I", Cond.fieldLink RX2 9 "FloatMarket$Row" "moored" "[I", Cond.methodLink RX1 120 yX1_drift, Cond.instanceMethod yX1_drift]
def wsX4_pass_r3 : List Cond := [Cond.selects RX1 yX1_drift yX1_drift, Cond.code yX1_drift cX1_drift 4 none, Cond.fieldLink RX1 134 "FloatMarket$Canoe" "drifted" "I", Cond.fieldLink RX1 50 "FloatMarket$Market" "drifted" "I", Cond.methodLink RX1 124 yX1_unfasten, Cond.instanceMethod yX1_unfasten, Cond.selects RX1 yX1_unfasten yX1_unfasten, Cond.code yX1_unfasten cX1_unfasten 6 (some .int), Cond.fieldLink RX1 69 "FloatMarket$Canoe" "status" "I", Cond.fieldLink RX1 72 "FloatMarket$Canoe" "row" "I", Cond.fieldLink RX1 78 "FloatMarket$Canoe" "place" "I", Cond.fieldLink RX1 90 "FloatMarket$Row" "moored" "[I", Cond.fieldLink RX1 94 "FloatMarket$Canoe" "loosened" "I", Cond.fieldLink RX1 47 "FloatMarket$Market" "loosened" "I", Cond.methodLink RX1 87 yX2_closeGap, Cond.instanceMethod yX2_closeGap, Cond.selects RX2 yX2_closeGap yX2_closeGap, Cond.code yX2_closeGap cX2_closeGap 3 none, Cond.methodLink RX1 128 yX1_nextRowNotFull, Cond.instanceMethod yX1_nextRowNotFull, Cond.selects RX1 yX1_nextRowNotFull yX1_nextRowNotFull, Cond.code yX1_nextRowNotFull cX1_nextRowNotFull 4 (some .int), Cond.methodLink RX1 135 yX2_isFull, Cond.instanceMethod yX2_isFull]
def wsX4_pass_r4 : List Cond := [Cond.selects RX2 yX2_isFull yX2_isFull, Cond.code yX2_isFull cX2_isFull 1 (some .boolean), Cond.fieldLink RX2 15 "FloatMarket$Row" "places" "I", Cond.methodLink RX1 131 yX1_fasten, Cond.instanceMethod yX1_fasten, Cond.selects RX1 yX1_fasten yX1_fasten, Cond.code yX1_fasten cX1_fasten 3 none, Cond.fieldLink RX1 81 "FloatMarket$Canoe" "number" "I", Cond.methodLink RX1 84 yX2_append, Cond.instanceMethod yX2_append, Cond.selects RX2 yX2_append yX2_append, Cond.code yX2_append cX2_append 2 none, Cond.methodLink RX1 104 yX1_leaveByNumbers, Cond.instanceMethod yX1_leaveByNumbers, Cond.selects RX1 yX1_leaveByNumbers yX1_leaveByNumbers, Cond.code yX1_leaveByNumbers cX1_leaveByNumbers 3 none, Cond.fieldLink RX1 35 "FloatMarket$Market" "canoeCount" "I", Cond.methodLink RX1 139 yX0_isToLeaveBy, Cond.instanceMethod yX0_isToLeaveBy, Cond.selects RX0 yX0_isToLeaveBy yX0_isToLeaveBy, Cond.initialized RX0, Cond.code yX0_isToLeaveBy cX0_isToLeaveBy 2 (some .boolean), Cond.fieldLink RX0 37 "FloatMarket$Canoe" "leaveStep" "I", Cond.methodLink RX1 143 yX1_liesDry]
def wsX4_pass_r5 : List Cond := [Cond.instanceMethod yX1_liesDry, Cond.selects RX1 yX1_liesDry yX1_liesDry, Cond.code yX1_liesDry cX1_liesDry 2 (some .boolean), Cond.methodLink RX1 95 yX3_tideIn, Cond.instanceMethod yX3_tideIn, Cond.selects RX3 yX3_tideIn yX3_tideIn, Cond.code yX3_tideIn cX3_tideIn 2 (some .int), Cond.fieldLink RX3 9 "FloatMarket$Water" "tides" "[I", Cond.methodLink RX1 107 yX1_tradeByNumbers, Cond.instanceMethod yX1_tradeByNumbers, Cond.selects RX1 yX1_tradeByNumbers yX1_tradeByNumbers, Cond.code yX1_tradeByNumbers cX1_tradeByNumbers 4 none, Cond.methodLink RX1 147 yX0_misses, Cond.instanceMethod yX0_misses, Cond.selects RX0 yX0_misses yX0_misses, Cond.code yX0_misses cX0_misses 2 (some .int), Cond.fieldLink RX0 22 "FloatMarket$Canoe" "wants" "[I", Cond.fieldLink RX0 15 "FloatMarket$Canoe" "has" "[I", Cond.methodLink RX0 67 Lib.Math.max.name, Cond.static Lib.Math.max.name, Cond.initialized "java/lang/Math", Cond.code Lib.Math.max.name Lib.Math.max.code 2 (some .int), Cond.methodLink RX1 150 yX1_cheapestSeller, Cond.instanceMethod yX1_cheapestSeller]
def wsX4_pass_r6 : List Cond := [Cond.selects RX1 yX1_cheapestSeller yX1_cheapestSeller, Cond.code yX1_cheapestSeller cX1_cheapestSeller 7 (some (.object "FloatMarket$Canoe")), Cond.fieldLink RX1 158 "FloatMarket$Canoe" "pays" "[I", Cond.fieldLink RX1 63 "FloatMarket$Canoe" "coins" "I", Cond.methodLink RX1 161 Lib.Math.min.name, Cond.static Lib.Math.min.name, Cond.code Lib.Math.min.name Lib.Math.min.code 2 (some .int), Cond.methodLink RX1 167 yX1_cheaper, Cond.instanceMethod yX1_cheaper, Cond.selects RX1 yX1_cheaper yX1_cheaper, Cond.code yX1_cheaper cX1_cheaper 6 (some (.object "FloatMarket$Canoe")), Cond.fieldLink RX1 175 "FloatMarket$Canoe" "asks" "[I", Cond.methodLink RX1 171 yX0_sells, Cond.instanceMethod yX0_sells, Cond.selects RX0 yX0_sells yX0_sells, Cond.code yX0_sells cX0_sells 3 (some .boolean), Cond.fieldLink RX0 19 "FloatMarket$Canoe" "asks" "[I", Cond.methodLink RX1 154 yX1_trade, Cond.instanceMethod yX1_trade, Cond.selects RX1 yX1_trade yX1_trade, Cond.code yX1_trade cX1_trade 5 none, Cond.fieldLink RX1 178 "FloatMarket$Canoe" "has" "[I", Cond.fieldLink RX1 181 "FloatMarket$Canoe" "sold" "I", Cond.fieldLink RX1 182 "FloatMarket$Canoe" "bought" "I"]
def wsX4_pass_r7 : List Cond := [Cond.fieldLink RX1 41 "FloatMarket$Market" "sold" "I", Cond.fieldLink RX1 44 "FloatMarket$Market" "paid" "I"]
def wsX4_pass : List Cond := .code yX4_pass cX4_pass 3 (some .int) :: ((wsX4_pass_r1 ++ (wsX4_pass_r2 ++ (wsX4_pass_r3 ++ (wsX4_pass_r4 ++ (wsX4_pass_r5 ++ (wsX4_pass_r6 ++ wsX4_pass_r7)))))) ++ wsX40 ++ wsX10 ++ wsX20 ++ wsX00 ++ wsX30 ++ (vx_atS RX4 199 "java/lang/IllegalArgumentException" ["java/lang/RuntimeException", "java/lang/Exception"]).filter goodWord)
def wsX4_count_r1 : List Cond := [Cond.fieldLink RX4 21 "FloatMarket" "now" "LFloatMarket$Market;", Cond.methodLink RX4 44 yX4_needIndex, Cond.static yX4_needIndex, Cond.initialized RX4, Cond.code yX4_needIndex cX4_needIndex 2 none, Cond.classLink RX4 188 "java/lang/IndexOutOfBoundsException", Cond.initialized "java/lang/IndexOutOfBoundsException", Cond.methodLink RX4 145 yX1_figure, Cond.instanceMethod yX1_figure, Cond.selects RX1 yX1_figure yX1_figure, Cond.initialized RX1, Cond.code yX1_figure cX1_figure 2 (some .int), Cond.fieldLink RX1 38 "FloatMarket$Market" "step" "I", Cond.fieldLink RX1 31 "FloatMarket$Market" "rowCount" "I", Cond.fieldLink RX1 35 "FloatMarket$Market" "canoeCount" "I", Cond.fieldLink RX1 41 "FloatMarket$Market" "sold" "I", Cond.fieldLink RX1 44 "FloatMarket$Market" "paid" "I", Cond.fieldLink RX1 47 "FloatMarket$Market" "loosened" "I", Cond.fieldLink RX1 50 "FloatMarket$Market" "drifted" "I", Cond.methodLink RX1 187 yX1_canoesBeing, Cond.instanceMethod yX1_canoesBeing, Cond.selects RX1 yX1_canoesBeing yX1_canoesBeing, Cond.code yX1_canoesBeing cX1_canoesBeing 4 (some .int), Cond.fieldLink RX1 24 "FloatMarket$Market" "canoes" "[LFloatMarket$Canoe;"]
def wsX4_count_r2 : List Cond := [Cond.fieldLink RX1 69 "FloatMarket$Canoe" "status" "I", Cond.methodLink RX1 190 yX1_coinsInAll, Cond.instanceMethod yX1_coinsInAll, Cond.selects RX1 yX1_coinsInAll yX1_coinsInAll, Cond.code yX1_coinsInAll cX1_coinsInAll 3 (some .int), Cond.fieldLink RX1 63 "FloatMarket$Canoe" "coins" "I", Cond.methodLink RX1 194 yX1_goodsInAll, Cond.instanceMethod yX1_goodsInAll, Cond.selects RX1 yX1_goodsInAll yX1_goodsInAll, Cond.code yX1_goodsInAll cX1_goodsInAll 3 (some .int), Cond.methodLink RX1 200 yX0_goodsInAll, Cond.instanceMethod yX0_goodsInAll, Cond.selects RX0 yX0_goodsInAll yX0_goodsInAll, Cond.initialized RX0, Cond.code yX0_goodsInAll cX0_goodsInAll 3 (some .int), Cond.fieldLink RX0 15 "FloatMarket$Canoe" "has" "[I", Cond.methodLink RX1 197 yX1_dryCanoes, Cond.instanceMethod yX1_dryCanoes, Cond.selects RX1 yX1_dryCanoes yX1_dryCanoes, Cond.code yX1_dryCanoes cX1_dryCanoes 3 (some .int), Cond.methodLink RX1 143 yX1_liesDry, Cond.instanceMethod yX1_liesDry, Cond.selects RX1 yX1_liesDry yX1_liesDry, Cond.code yX1_liesDry cX1_liesDry 2 (some .boolean)]
def wsX4_count_r3 : List Cond := [Cond.fieldLink RX1 78 "FloatMarket$Canoe" "place" "I", Cond.fieldLink RX1 9 "FloatMarket$Market" "water" "LFloatMarket$Water;", Cond.methodLink RX1 95 yX3_tideIn, Cond.instanceMethod yX3_tideIn, Cond.selects RX3 yX3_tideIn yX3_tideIn, Cond.initialized RX3, Cond.code yX3_tideIn cX3_tideIn 2 (some .int), Cond.fieldLink RX3 9 "FloatMarket$Water" "tides" "[I", Cond.methodLink RX3 24 yJ9_floorMod_7cf53, Cond.static yJ9_floorMod_7cf53, Cond.initialized RJ9, Cond.code yJ9_floorMod_7cf53 cJ9_floorMod_7cf53 3 (some .int)]
def wsX4_count : List Cond := .code yX4_count cX4_count 2 (some .int) :: ((wsX4_count_r1 ++ (wsX4_count_r2 ++ wsX4_count_r3)) ++ wsX40 ++ wsX10 ++ wsX00 ++ wsX30 ++ (vx_atS RX4 192 "java/lang/IndexOutOfBoundsException" ["java/lang/RuntimeException", "java/lang/Exception"]).filter goodWord)
def wsX4_foresee_r1 : List Cond := [Cond.fieldLink RX4 21 "FloatMarket" "now" "LFloatMarket$Market;", Cond.fieldLink RX4 58 "FloatMarket$Market" "canoeCount" "I", Cond.fieldLink RX4 25 "FloatMarket" "trial" "LFloatMarket$Market;", Cond.fieldLink RX4 65 "FloatMarket$Market" "canoes" "[LFloatMarket$Canoe;", Cond.fieldLink RX4 150 "FloatMarket$Canoe" "coins" "I", Cond.fieldLink RX4 157 "FloatMarket$Canoe" "row" "I", Cond.methodLink RX4 44 yX4_needIndex, Cond.static yX4_needIndex, Cond.initialized RX4, Cond.code yX4_needIndex cX4_needIndex 2 none, Cond.classLink RX4 188 "java/lang/IndexOutOfBoundsException", Cond.initialized "java/lang/IndexOutOfBoundsException", Cond.methodLink RX4 28 yX4_needRange, Cond.static yX4_needRange, Cond.code yX4_needRange cX4_needRange 3 none, Cond.classLink RX4 195 "java/lang/IllegalArgumentException", Cond.initialized "java/lang/IllegalArgumentException", Cond.methodLink RX4 146 yX1_copyFrom, Cond.instanceMethod yX1_copyFrom, Cond.selects RX1 yX1_copyFrom yX1_copyFrom, Cond.initialized RX1, Cond.code yX1_copyFrom cX1_copyFrom 3 none, Cond.fieldLink RX1 31 "FloatMarket$Market" "rowCount" "I", Cond.fieldLink RX1 35 "FloatMarket$Market" "canoeCount" "I"]
def wsX4_foresee_r2 : List Cond := [Cond.fieldLink RX1 38 "FloatMarket$Market" "step" "I", Cond.fieldLink RX1 41 "FloatMarket$Market" "sold" "I", Cond.fieldLink RX1 44 "FloatMarket$Market" "paid" "I", Cond.fieldLink RX1 47 "FloatMarket$Market" "loosened" "I", Cond.fieldLink RX1 50 "FloatMarket$Market" "drifted" "I", Cond.fieldLink RX1 17 "FloatMarket$Market" "rows" "[LFloatMarket$Row;", Cond.fieldLink RX1 24 "FloatMarket$Market" "canoes" "[LFloatMarket$Canoe;", Cond.methodLink RX1 53 yX2_copyFrom, Cond.instanceMethod yX2_copyFrom, Cond.selects RX2 yX2_copyFrom yX2_copyFrom, Cond.initialized RX2, Cond.code yX2_copyFrom cX2_copyFrom 2 none, Cond.fieldLink RX2 15 "FloatMarket$Row" "places" "I", Cond.fieldLink RX2 19 "FloatMarket$Row" "used" "I", Cond.fieldLink RX2 9 "FloatMarket$Row" "moored" "[I", Cond.methodLink RX2 22 arraycopyName, Cond.native arraycopyName, Cond.static arraycopyName, Cond.initialized "java/lang/System", Cond.methodLink RX1 57 yX0_copyFrom, Cond.instanceMethod yX0_copyFrom, Cond.selects RX0 yX0_copyFrom yX0_copyFrom, Cond.initialized RX0, Cond.code yX0_copyFrom cX0_copyFrom 2 none]
def wsX4_foresee_r3 : List Cond := [Cond.fieldLink RX0 43 "FloatMarket$Canoe" "coins" "I", Cond.fieldLink RX0 46 "FloatMarket$Canoe" "rope" "I", Cond.fieldLink RX0 28 "FloatMarket$Canoe" "status" "I", Cond.fieldLink RX0 31 "FloatMarket$Canoe" "row" "I", Cond.fieldLink RX0 34 "FloatMarket$Canoe" "place" "I", Cond.fieldLink RX0 37 "FloatMarket$Canoe" "leaveStep" "I", Cond.fieldLink RX0 49 "FloatMarket$Canoe" "loosened" "I", Cond.fieldLink RX0 52 "FloatMarket$Canoe" "drifted" "I", Cond.fieldLink RX0 40 "FloatMarket$Canoe" "lastDriftStep" "I", Cond.fieldLink RX0 55 "FloatMarket$Canoe" "sold" "I", Cond.fieldLink RX0 58 "FloatMarket$Canoe" "bought" "I", Cond.fieldLink RX0 15 "FloatMarket$Canoe" "has" "[I", Cond.methodLink RX0 61 arraycopyName, Cond.fieldLink RX0 19 "FloatMarket$Canoe" "asks" "[I", Cond.fieldLink RX0 22 "FloatMarket$Canoe" "wants" "[I", Cond.fieldLink RX0 25 "FloatMarket$Canoe" "pays" "[I", Cond.methodLink RX4 141 yX1_passSteps, Cond.instanceMethod yX1_passSteps, Cond.selects RX1 yX1_passSteps yX1_passSteps, Cond.code yX1_passSteps cX1_passSteps 3 none, Cond.methodLink RX1 101 yX1_driftByRows, Cond.instanceMethod yX1_driftByRows, Cond.selects RX1 yX1_driftByRows yX1_driftByRows, Cond.code yX1_driftByRows cX1_driftByRows 4 none]
def wsX4_foresee_r4 : List Cond := [Cond.fieldLink RX1 9 "FloatMarket$Market" "water" "LFloatMarket$Water;", Cond.fieldLink RX1 75 "FloatMarket$Row" "used" "I", Cond.fieldLink RX1 66 "FloatMarket$Canoe" "rope" "I", Cond.fieldLink RX1 117 "FloatMarket$Canoe" "lastDriftStep" "I", Cond.methodLink RX1 110 yX3_wakeIn, Cond.instanceMethod yX3_wakeIn, Cond.selects RX3 yX3_wakeIn yX3_wakeIn, Cond.initialized RX3, Cond.code yX3_wakeIn cX3_wakeIn 2 (some .int), Cond.fieldLink RX3 15 "FloatMarket$Water" "wakes" "[I", Cond.methodLink RX3 24 yJ9_floorMod_7cf53, Cond.static yJ9_floorMod_7cf53, Cond.initialized RJ9, Cond.code yJ9_floorMod_7cf53 cJ9_floorMod_7cf53 3 (some .int), Cond.methodLink RX1 113 yX1_canoeAt, Cond.instanceMethod yX1_canoeAt, Cond.selects RX1 yX1_canoeAt yX1_canoeAt, Cond.code yX1_canoeAt cX1_canoeAt 4 (some (.object "FloatMarket$Canoe")), Cond.methodLink RX1 185 yX2_canoeAt, Cond.instanceMethod yX2_canoeAt, Cond.selects RX2 yX2_canoeAt yX2_canoeAt, Cond.code yX2_canoeAt cX2_canoeAt 2 (some .int), Cond.methodLink RX1 120 yX1_drift, Cond.instanceMethod yX1_drift]
def wsX4_foresee_r5 : List Cond := [Cond.selects RX1 yX1_drift yX1_drift, Cond.code yX1_drift cX1_drift 4 none, Cond.fieldLink RX1 134 "FloatMarket$Canoe" "drifted" "I", Cond.methodLink RX1 124 yX1_unfasten, Cond.instanceMethod yX1_unfasten, Cond.selects RX1 yX1_unfasten yX1_unfasten, Cond.code yX1_unfasten cX1_unfasten 6 (some .int), Cond.fieldLink RX1 69 "FloatMarket$Canoe" "status" "I", Cond.fieldLink RX1 72 "FloatMarket$Canoe" "row" "I", Cond.fieldLink RX1 78 "FloatMarket$Canoe" "place" "I", Cond.fieldLink RX1 90 "FloatMarket$Row" "moored" "[I", Cond.fieldLink RX1 94 "FloatMarket$Canoe" "loosened" "I", Cond.methodLink RX1 87 yX2_closeGap, Cond.instanceMethod yX2_closeGap, Cond.selects RX2 yX2_closeGap yX2_closeGap, Cond.code yX2_closeGap cX2_closeGap 3 none, Cond.methodLink RX1 128 yX1_nextRowNotFull, Cond.instanceMethod yX1_nextRowNotFull, Cond.selects RX1 yX1_nextRowNotFull yX1_nextRowNotFull, Cond.code yX1_nextRowNotFull cX1_nextRowNotFull 4 (some .int), Cond.methodLink RX1 135 yX2_isFull, Cond.instanceMethod yX2_isFull, Cond.selects RX2 yX2_isFull yX2_isFull, Cond.code yX2_isFull cX2_isFull 1 (some .boolean)]
def wsX4_foresee_r6 : List Cond := [Cond.methodLink RX1 131 yX1_fasten, Cond.instanceMethod yX1_fasten, Cond.selects RX1 yX1_fasten yX1_fasten, Cond.code yX1_fasten cX1_fasten 3 none, Cond.fieldLink RX1 81 "FloatMarket$Canoe" "number" "I", Cond.methodLink RX1 84 yX2_append, Cond.instanceMethod yX2_append, Cond.selects RX2 yX2_append yX2_append, Cond.code yX2_append cX2_append 2 none, Cond.methodLink RX1 104 yX1_leaveByNumbers, Cond.instanceMethod yX1_leaveByNumbers, Cond.selects RX1 yX1_leaveByNumbers yX1_leaveByNumbers, Cond.code yX1_leaveByNumbers cX1_leaveByNumbers 3 none, Cond.methodLink RX1 139 yX0_isToLeaveBy, Cond.instanceMethod yX0_isToLeaveBy, Cond.selects RX0 yX0_isToLeaveBy yX0_isToLeaveBy, Cond.code yX0_isToLeaveBy cX0_isToLeaveBy 2 (some .boolean), Cond.methodLink RX1 143 yX1_liesDry, Cond.instanceMethod yX1_liesDry, Cond.selects RX1 yX1_liesDry yX1_liesDry, Cond.code yX1_liesDry cX1_liesDry 2 (some .boolean), Cond.methodLink RX1 95 yX3_tideIn, Cond.instanceMethod yX3_tideIn, Cond.selects RX3 yX3_tideIn yX3_tideIn]
def wsX4_foresee_r7 : List Cond := [Cond.code yX3_tideIn cX3_tideIn 2 (some .int), Cond.fieldLink RX3 9 "FloatMarket$Water" "tides" "[I", Cond.methodLink RX1 107 yX1_tradeByNumbers, Cond.instanceMethod yX1_tradeByNumbers, Cond.selects RX1 yX1_tradeByNumbers yX1_tradeByNumbers, Cond.code yX1_tradeByNumbers cX1_tradeByNumbers 4 none, Cond.methodLink RX1 147 yX0_misses, Cond.instanceMethod yX0_misses, Cond.selects RX0 yX0_misses yX0_misses, Cond.code yX0_misses cX0_misses 2 (some .int), Cond.methodLink RX0 67 Lib.Math.max.name, Cond.static Lib.Math.max.name, Cond.initialized "java/lang/Math", Cond.code Lib.Math.max.name Lib.Math.max.code 2 (some .int), Cond.methodLink RX1 150 yX1_cheapestSeller, Cond.instanceMethod yX1_cheapestSeller, Cond.selects RX1 yX1_cheapestSeller yX1_cheapestSeller, Cond.code yX1_cheapestSeller cX1_cheapestSeller 7 (some (.object "FloatMarket$Canoe")), Cond.fieldLink RX1 158 "FloatMarket$Canoe" "pays" "[I", Cond.fieldLink RX1 63 "FloatMarket$Canoe" "coins" "I", Cond.methodLink RX1 161 Lib.Math.min.name, Cond.static Lib.Math.min.name, Cond.code Lib.Math.min.name Lib.Math.min.code 2 (some .int), Cond.methodLink RX1 167 yX1_cheaper]
def wsX4_foresee_r8 : List Cond := [Cond.instanceMethod yX1_cheaper, Cond.selects RX1 yX1_cheaper yX1_cheaper, Cond.code yX1_cheaper cX1_cheaper 6 (some (.object "FloatMarket$Canoe")), Cond.fieldLink RX1 175 "FloatMarket$Canoe" "asks" "[I", Cond.methodLink RX1 171 yX0_sells, Cond.instanceMethod yX0_sells, Cond.selects RX0 yX0_sells yX0_sells, Cond.code yX0_sells cX0_sells 3 (some .boolean), Cond.methodLink RX1 154 yX1_trade, Cond.instanceMethod yX1_trade, Cond.selects RX1 yX1_trade yX1_trade, Cond.code yX1_trade cX1_trade 5 none, Cond.fieldLink RX1 178 "FloatMarket$Canoe" "has" "[I", Cond.fieldLink RX1 181 "FloatMarket$Canoe" "sold" "I", Cond.fieldLink RX1 182 "FloatMarket$Canoe" "bought" "I", Cond.methodLink RX4 153 yX0_missesInAll, Cond.instanceMethod yX0_missesInAll, Cond.selects RX0 yX0_missesInAll yX0_missesInAll, Cond.code yX0_missesInAll cX0_missesInAll 3 (some .int), Cond.methodLink RX0 73 yX0_misses]
def wsX4_foresee : List Cond := .code yX4_foresee cX4_foresee 5 (some .int) :: ((wsX4_foresee_r1 ++ (wsX4_foresee_r2 ++ (wsX4_foresee_r3 ++ (wsX4_foresee_r4 ++ (wsX4_foresee_r5 ++ (wsX4_foresee_r6 ++ (wsX4_foresee_r7 ++ wsX4_foresee_r8))))))) ++ wsX40 ++ wsX10 ++ wsX00 ++ wsX20 ++ wsX30 ++ (vx_atS RX4 192 "java/lang/IndexOutOfBoundsException" ["java/lang/RuntimeException", "java/lang/Exception"]).filter goodWord ++ (vx_atS RX4 199 "java/lang/IllegalArgumentException" ["java/lang/RuntimeException", "java/lang/Exception"]).filter goodWord)
def wsX4_stepsUntil_r1 : List Cond := [Cond.fieldLink RX4 25 "FloatMarket" "trial" "LFloatMarket$Market;", Cond.fieldLink RX4 21 "FloatMarket" "now" "LFloatMarket$Market;", Cond.fieldLink RX4 65 "FloatMarket$Market" "canoes" "[LFloatMarket$Canoe;", Cond.methodLink RX4 146 yX1_copyFrom, Cond.instanceMethod yX1_copyFrom, Cond.selects RX1 yX1_copyFrom yX1_copyFrom, Cond.initialized RX1, Cond.code yX1_copyFrom cX1_copyFrom 3 none, Cond.fieldLink RX1 31 "FloatMarket$Market" "rowCount" "I", Cond.fieldLink RX1 35 "FloatMarket$Market" "canoeCount" "I", Cond.fieldLink RX1 38 "FloatMarket$Market" "step" "I", Cond.fieldLink RX1 41 "FloatMarket$Market" "sold" "I", Cond.fieldLink RX1 44 "FloatMarket$Market" "paid" "I", Cond.fieldLink RX1 47 "FloatMarket$Market" "loosened" "I", Cond.fieldLink RX1 50 "FloatMarket$Market" "drifted" "I", Cond.fieldLink RX1 17 "FloatMarket$Market" "rows" "[LFloatMarket$Row;", Cond.fieldLink RX1 24 "FloatMarket$Market" "canoes" "[LFloatMarket$Canoe;", Cond.methodLink RX1 53 yX2_copyFrom, Cond.instanceMethod yX2_copyFrom, Cond.selects RX2 yX2_copyFrom yX2_copyFrom, Cond.initialized RX2, Cond.code yX2_copyFrom cX2_copyFrom 2 none, Cond.fieldLink RX2 15 "FloatMarket$Row" "places" "I", Cond.fieldLink RX2 19 "FloatMarket$Row" "used" "I"]
def wsX4_stepsUntil_r2 : List Cond := [Cond.fieldLink RX2 9 "FloatMarket$Row" "moored" "[I", Cond.methodLink RX2 22 arraycopyName, Cond.native arraycopyName, Cond.static arraycopyName, Cond.initialized "java/lang/System", Cond.methodLink RX1 57 yX0_copyFrom, Cond.instanceMethod yX0_copyFrom, Cond.selects RX0 yX0_copyFrom yX0_copyFrom, Cond.initialized RX0, Cond.code yX0_copyFrom cX0_copyFrom 2 none, Cond.fieldLink RX0 43 "FloatMarket$Canoe" "coins" "I", Cond.fieldLink RX0 46 "FloatMarket$Canoe" "rope" "I", Cond.fieldLink RX0 28 "FloatMarket$Canoe" "status" "I", Cond.fieldLink RX0 31 "FloatMarket$Canoe" "row" "I", Cond.fieldLink RX0 34 "FloatMarket$Canoe" "place" "I", Cond.fieldLink RX0 37 "FloatMarket$Canoe" "leaveStep" "I", Cond.fieldLink RX0 49 "FloatMarket$Canoe" "loosened" "I", Cond.fieldLink RX0 52 "FloatMarket$Canoe" "drifted" "I", Cond.fieldLink RX0 40 "FloatMarket$Canoe" "lastDriftStep" "I", Cond.fieldLink RX0 55 "FloatMarket$Canoe" "sold" "I", Cond.fieldLink RX0 58 "FloatMarket$Canoe" "bought" "I", Cond.fieldLink RX0 15 "FloatMarket$Canoe" "has" "[I", Cond.methodLink RX0 61 arraycopyName, Cond.fieldLink RX0 19 "FloatMarket$Canoe" "asks" "[I"]
def wsX4_stepsUntil_r3 : List Cond := [Cond.fieldLink RX0 22 "FloatMarket$Canoe" "wants" "[I", Cond.fieldLink RX0 25 "FloatMarket$Canoe" "pays" "[I", Cond.methodLink RX4 141 yX1_passSteps, Cond.instanceMethod yX1_passSteps, Cond.selects RX1 yX1_passSteps yX1_passSteps, Cond.code yX1_passSteps cX1_passSteps 3 none, Cond.methodLink RX1 101 yX1_driftByRows, Cond.instanceMethod yX1_driftByRows, Cond.selects RX1 yX1_driftByRows yX1_driftByRows, Cond.code yX1_driftByRows cX1_driftByRows 4 none, Cond.fieldLink RX1 9 "FloatMarket$Market" "water" "LFloatMarket$Water;", Cond.fieldLink RX1 75 "FloatMarket$Row" "used" "I", Cond.fieldLink RX1 66 "FloatMarket$Canoe" "rope" "I", Cond.fieldLink RX1 117 "FloatMarket$Canoe" "lastDriftStep" "I", Cond.methodLink RX1 110 yX3_wakeIn, Cond.instanceMethod yX3_wakeIn, Cond.selects RX3 yX3_wakeIn yX3_wakeIn, Cond.initialized RX3, Cond.code yX3_wakeIn cX3_wakeIn 2 (some .int), Cond.fieldLink RX3 15 "FloatMarket$Water" "wakes" "[I", Cond.methodLink RX3 24 yJ9_floorMod_7cf53, Cond.static yJ9_floorMod_7cf53, Cond.initialized RJ9, Cond.code yJ9_floorMod_7cf53 cJ9_floorMod_7cf53 3 (some .int)]
def wsX4_stepsUntil_r4 : List Cond := [Cond.methodLink RX1 113 yX1_canoeAt, Cond.instanceMethod yX1_canoeAt, Cond.selects RX1 yX1_canoeAt yX1_canoeAt, Cond.code yX1_canoeAt cX1_canoeAt 4 (some (.object "FloatMarket$Canoe")), Cond.methodLink RX1 185 yX2_canoeAt, Cond.instanceMethod yX2_canoeAt, Cond.selects RX2 yX2_canoeAt yX2_canoeAt, Cond.code yX2_canoeAt cX2_canoeAt 2 (some .int), Cond.methodLink RX1 120 yX1_drift, Cond.instanceMethod yX1_drift, Cond.selects RX1 yX1_drift yX1_drift, Cond.code yX1_drift cX1_drift 4 none, Cond.fieldLink RX1 134 "FloatMarket$Canoe" "drifted" "I", Cond.methodLink RX1 124 yX1_unfasten, Cond.instanceMethod yX1_unfasten, Cond.selects RX1 yX1_unfasten yX1_unfasten, Cond.code yX1_unfasten cX1_unfasten 6 (some .int), Cond.fieldLink RX1 69 "FloatMarket$Canoe" "status" "I", Cond.fieldLink RX1 72 "FloatMarket$Canoe" "row" "I", Cond.fieldLink RX1 78 "FloatMarket$Canoe" "place" "I", Cond.fieldLink RX1 90 "FloatMarket$Row" "moored" "[I", Cond.fieldLink RX1 94 "FloatMarket$Canoe" "loosened" "I", Cond.methodLink RX1 87 yX2_closeGap, Cond.instanceMethod yX2_closeGap]
def wsX4_stepsUntil_r5 : List Cond := [Cond.selects RX2 yX2_closeGap yX2_closeGap, Cond.code yX2_closeGap cX2_closeGap 3 none, Cond.methodLink RX1 128 yX1_nextRowNotFull, Cond.instanceMethod yX1_nextRowNotFull, Cond.selects RX1 yX1_nextRowNotFull yX1_nextRowNotFull, Cond.code yX1_nextRowNotFull cX1_nextRowNotFull 4 (some .int), Cond.methodLink RX1 135 yX2_isFull, Cond.instanceMethod yX2_isFull, Cond.selects RX2 yX2_isFull yX2_isFull, Cond.code yX2_isFull cX2_isFull 1 (some .boolean), Cond.methodLink RX1 131 yX1_fasten, Cond.instanceMethod yX1_fasten, Cond.selects RX1 yX1_fasten yX1_fasten, Cond.code yX1_fasten cX1_fasten 3 none, Cond.fieldLink RX1 81 "FloatMarket$Canoe" "number" "I", Cond.methodLink RX1 84 yX2_append, Cond.instanceMethod yX2_append, Cond.selects RX2 yX2_append yX2_append, Cond.code yX2_append cX2_append 2 none, Cond.methodLink RX1 104 yX1_leaveByNumbers, Cond.instanceMethod yX1_leaveByNumbers, Cond.selects RX1 yX1_leaveByNumbers yX1_leaveByNumbers, Cond.code yX1_leaveByNumbers cX1_leaveByNumbers 3 none, Cond.methodLink RX1 139 yX0_isToLeaveBy]
def wsX4_stepsUntil_r6 : List Cond := [Cond.instanceMethod yX0_isToLeaveBy, Cond.selects RX0 yX0_isToLeaveBy yX0_isToLeaveBy, Cond.code yX0_isToLeaveBy cX0_isToLeaveBy 2 (some .boolean), Cond.methodLink RX1 143 yX1_liesDry, Cond.instanceMethod yX1_liesDry, Cond.selects RX1 yX1_liesDry yX1_liesDry, Cond.code yX1_liesDry cX1_liesDry 2 (some .boolean), Cond.methodLink RX1 95 yX3_tideIn, Cond.instanceMethod yX3_tideIn, Cond.selects RX3 yX3_tideIn yX3_tideIn, Cond.code yX3_tideIn cX3_tideIn 2 (some .int), Cond.fieldLink RX3 9 "FloatMarket$Water" "tides" "[I", Cond.methodLink RX1 107 yX1_tradeByNumbers, Cond.instanceMethod yX1_tradeByNumbers, Cond.selects RX1 yX1_tradeByNumbers yX1_tradeByNumbers, Cond.code yX1_tradeByNumbers cX1_tradeByNumbers 4 none, Cond.methodLink RX1 147 yX0_misses, Cond.instanceMethod yX0_misses, Cond.selects RX0 yX0_misses yX0_misses, Cond.code yX0_misses cX0_misses 2 (some .int), Cond.methodLink RX0 67 Lib.Math.max.name, Cond.static Lib.Math.max.name, Cond.initialized "java/lang/Math", Cond.code Lib.Math.max.name Lib.Math.max.code 2 (some .int)]
def wsX4_stepsUntil_r7 : List Cond := [Cond.methodLink RX1 150 yX1_cheapestSeller, Cond.instanceMethod yX1_cheapestSeller, Cond.selects RX1 yX1_cheapestSeller yX1_cheapestSeller, Cond.code yX1_cheapestSeller cX1_cheapestSeller 7 (some (.object "FloatMarket$Canoe")), Cond.fieldLink RX1 158 "FloatMarket$Canoe" "pays" "[I", Cond.fieldLink RX1 63 "FloatMarket$Canoe" "coins" "I", Cond.methodLink RX1 161 Lib.Math.min.name, Cond.static Lib.Math.min.name, Cond.code Lib.Math.min.name Lib.Math.min.code 2 (some .int), Cond.methodLink RX1 167 yX1_cheaper, Cond.instanceMethod yX1_cheaper, Cond.selects RX1 yX1_cheaper yX1_cheaper, Cond.code yX1_cheaper cX1_cheaper 6 (some (.object "FloatMarket$Canoe")), Cond.fieldLink RX1 175 "FloatMarket$Canoe" "asks" "[I", Cond.methodLink RX1 171 yX0_sells, Cond.instanceMethod yX0_sells, Cond.selects RX0 yX0_sells yX0_sells, Cond.code yX0_sells cX0_sells 3 (some .boolean), Cond.methodLink RX1 154 yX1_trade, Cond.instanceMethod yX1_trade, Cond.selects RX1 yX1_trade yX1_trade, Cond.code yX1_trade cX1_trade 5 none, Cond.fieldLink RX1 178 "FloatMarket$Canoe" "has" "[I", Cond.fieldLink RX1 181 "FloatMarket$Canoe" "sold" "I"]
def wsX4_stepsUntil_r8 : List Cond := [Cond.fieldLink RX1 182 "FloatMarket$Canoe" "bought" "I", Cond.methodLink RX4 183 yX0_hasReached, Cond.instanceMethod yX0_hasReached, Cond.selects RX0 yX0_hasReached yX0_hasReached, Cond.code yX0_hasReached cX0_hasReached 2 (some .boolean), Cond.methodLink RX0 80 yX0_missesInAll, Cond.instanceMethod yX0_missesInAll, Cond.selects RX0 yX0_missesInAll yX0_missesInAll, Cond.code yX0_missesInAll cX0_missesInAll 3 (some .int), Cond.methodLink RX0 73 yX0_misses]
def wsX4_stepsUntil : List Cond := .code yX4_stepsUntil cX4_stepsUntil 5 (some .int) :: ((wsX4_stepsUntil_r1 ++ (wsX4_stepsUntil_r2 ++ (wsX4_stepsUntil_r3 ++ (wsX4_stepsUntil_r4 ++ (wsX4_stepsUntil_r5 ++ (wsX4_stepsUntil_r6 ++ (wsX4_stepsUntil_r7 ++ wsX4_stepsUntil_r8))))))) ++ wsX40 ++ wsX10 ++ wsX20 ++ wsX00 ++ wsX30)
def wsX4_full_r1 : List Cond := [Cond.fieldLink RX4 21 "FloatMarket" "now" "LFloatMarket$Market;", Cond.fieldLink RX4 58 "FloatMarket$Market" "canoeCount" "I", Cond.methodLink RX4 44 yX4_needIndex, Cond.static yX4_needIndex, Cond.initialized RX4, Cond.code yX4_needIndex cX4_needIndex 2 none, Cond.classLink RX4 188 "java/lang/IndexOutOfBoundsException", Cond.initialized "java/lang/IndexOutOfBoundsException", Cond.methodLink RX4 160 yX4_stepsUntil, Cond.instanceMethod yX4_stepsUntil, Cond.selects RX4 yX4_stepsUntil yX4_stepsUntil, Cond.code yX4_stepsUntil cX4_stepsUntil 5 (some .int), Cond.fieldLink RX4 25 "FloatMarket" "trial" "LFloatMarket$Market;", Cond.fieldLink RX4 65 "FloatMarket$Market" "canoes" "[LFloatMarket$Canoe;", Cond.methodLink RX4 146 yX1_copyFrom, Cond.instanceMethod yX1_copyFrom, Cond.selects RX1 yX1_copyFrom yX1_copyFrom, Cond.initialized RX1, Cond.code yX1_copyFrom cX1_copyFrom 3 none, Cond.fieldLink RX1 31 "FloatMarket$Market" "rowCount" "I", Cond.fieldLink RX1 35 "FloatMarket$Market" "canoeCount" "I", Cond.fieldLink RX1 38 "FloatMarket$Market" "step" "I", Cond.fieldLink RX1 41 "FloatMarket$Market" "sold" "I", Cond.fieldLink RX1 44 "FloatMarket$Market" "paid" "I"]
def wsX4_full_r2 : List Cond := [Cond.fieldLink RX1 47 "FloatMarket$Market" "loosened" "I", Cond.fieldLink RX1 50 "FloatMarket$Market" "drifted" "I", Cond.fieldLink RX1 17 "FloatMarket$Market" "rows" "[LFloatMarket$Row;", Cond.fieldLink RX1 24 "FloatMarket$Market" "canoes" "[LFloatMarket$Canoe;", Cond.methodLink RX1 53 yX2_copyFrom, Cond.instanceMethod yX2_copyFrom, Cond.selects RX2 yX2_copyFrom yX2_copyFrom, Cond.initialized RX2, Cond.code yX2_copyFrom cX2_copyFrom 2 none, Cond.fieldLink RX2 15 "FloatMarket$Row" "places" "I", Cond.fieldLink RX2 19 "FloatMarket$Row" "used" "I", Cond.fieldLink RX2 9 "FloatMarket$Row" "moored" "[I", Cond.methodLink RX2 22 arraycopyName, Cond.native arraycopyName, Cond.static arraycopyName, Cond.initialized "java/lang/System", Cond.methodLink RX1 57 yX0_copyFrom, Cond.instanceMethod yX0_copyFrom, Cond.selects RX0 yX0_copyFrom yX0_copyFrom, Cond.initialized RX0, Cond.code yX0_copyFrom cX0_copyFrom 2 none, Cond.fieldLink RX0 43 "FloatMarket$Canoe" "coins" "I", Cond.fieldLink RX0 46 "FloatMarket$Canoe" "rope" "I", Cond.fieldLink RX0 28 "FloatMarket$Canoe" "status" "I"]
def wsX4_full_r3 : List Cond := [Cond.fieldLink RX0 31 "FloatMarket$Canoe" "row" "I", Cond.fieldLink RX0 34 "FloatMarket$Canoe" "place" "I", Cond.fieldLink RX0 37 "FloatMarket$Canoe" "leaveStep" "I", Cond.fieldLink RX0 49 "FloatMarket$Canoe" "loosened" "I", Cond.fieldLink RX0 52 "FloatMarket$Canoe" "drifted" "I", Cond.fieldLink RX0 40 "FloatMarket$Canoe" "lastDriftStep" "I", Cond.fieldLink RX0 55 "FloatMarket$Canoe" "sold" "I", Cond.fieldLink RX0 58 "FloatMarket$Canoe" "bought" "I", Cond.fieldLink RX0 15 "FloatMarket$Canoe" "has" "[I", Cond.methodLink RX0 61 arraycopyName, Cond.fieldLink RX0 19 "FloatMarket$Canoe" "asks" "[I", Cond.fieldLink RX0 22 "FloatMarket$Canoe" "wants" "[I", Cond.fieldLink RX0 25 "FloatMarket$Canoe" "pays" "[I", Cond.methodLink RX4 141 yX1_passSteps, Cond.instanceMethod yX1_passSteps, Cond.selects RX1 yX1_passSteps yX1_passSteps, Cond.code yX1_passSteps cX1_passSteps 3 none, Cond.methodLink RX1 101 yX1_driftByRows, Cond.instanceMethod yX1_driftByRows, Cond.selects RX1 yX1_driftByRows yX1_driftByRows, Cond.code yX1_driftByRows cX1_driftByRows 4 none, Cond.fieldLink RX1 9 "FloatMarket$Market" "water" "LFloatMarket$Water;", Cond.fieldLink RX1 75 "FloatMarket$Row" "used" "I", Cond.fieldLink RX1 66 "FloatMarket$Canoe" "rope" "I"]
def wsX4_full_r4 : List Cond := [Cond.fieldLink RX1 117 "FloatMarket$Canoe" "lastDriftStep" "I", Cond.methodLink RX1 110 yX3_wakeIn, Cond.instanceMethod yX3_wakeIn, Cond.selects RX3 yX3_wakeIn yX3_wakeIn, Cond.initialized RX3, Cond.code yX3_wakeIn cX3_wakeIn 2 (some .int), Cond.fieldLink RX3 15 "FloatMarket$Water" "wakes" "[I", Cond.methodLink RX3 24 yJ9_floorMod_7cf53, Cond.static yJ9_floorMod_7cf53, Cond.initialized RJ9, Cond.code yJ9_floorMod_7cf53 cJ9_floorMod_7cf53 3 (some .int), Cond.methodLink RX1 113 yX1_canoeAt, Cond.instanceMethod yX1_canoeAt, Cond.selects RX1 yX1_canoeAt yX1_canoeAt, Cond.code yX1_canoeAt cX1_canoeAt 4 (some (.object "FloatMarket$Canoe")), Cond.methodLink RX1 185 yX2_canoeAt, Cond.instanceMethod yX2_canoeAt, Cond.selects RX2 yX2_canoeAt yX2_canoeAt, Cond.code yX2_canoeAt cX2_canoeAt 2 (some .int), Cond.methodLink RX1 120 yX1_drift, Cond.instanceMethod yX1_drift, Cond.selects RX1 yX1_drift yX1_drift, Cond.code yX1_drift cX1_drift 4 none, Cond.fieldLink RX1 134 "FloatMarket$Canoe" "drifted" "I"]
def wsX4_full_r5 : List Cond := [Cond.methodLink RX1 124 yX1_unfasten, Cond.instanceMethod yX1_unfasten, Cond.selects RX1 yX1_unfasten yX1_unfasten, Cond.code yX1_unfasten cX1_unfasten 6 (some .int), Cond.fieldLink RX1 69 "FloatMarket$Canoe" "status" "I", Cond.fieldLink RX1 72 "FloatMarket$Canoe" "row" "I", Cond.fieldLink RX1 78 "FloatMarket$Canoe" "place" "I", Cond.fieldLink RX1 90 "FloatMarket$Row" "moored" "[I", Cond.fieldLink RX1 94 "FloatMarket$Canoe" "loosened" "I", Cond.methodLink RX1 87 yX2_closeGap, Cond.instanceMethod yX2_closeGap, Cond.selects RX2 yX2_closeGap yX2_closeGap, Cond.code yX2_closeGap cX2_closeGap 3 none, Cond.methodLink RX1 128 yX1_nextRowNotFull, Cond.instanceMethod yX1_nextRowNotFull, Cond.selects RX1 yX1_nextRowNotFull yX1_nextRowNotFull, Cond.code yX1_nextRowNotFull cX1_nextRowNotFull 4 (some .int), Cond.methodLink RX1 135 yX2_isFull, Cond.instanceMethod yX2_isFull, Cond.selects RX2 yX2_isFull yX2_isFull, Cond.code yX2_isFull cX2_isFull 1 (some .boolean), Cond.methodLink RX1 131 yX1_fasten, Cond.instanceMethod yX1_fasten, Cond.selects RX1 yX1_fasten yX1_fasten]
def wsX4_full_r6 : List Cond := [Cond.code yX1_fasten cX1_fasten 3 none, Cond.fieldLink RX1 81 "FloatMarket$Canoe" "number" "I", Cond.methodLink RX1 84 yX2_append, Cond.instanceMethod yX2_append, Cond.selects RX2 yX2_append yX2_append, Cond.code yX2_append cX2_append 2 none, Cond.methodLink RX1 104 yX1_leaveByNumbers, Cond.instanceMethod yX1_leaveByNumbers, Cond.selects RX1 yX1_leaveByNumbers yX1_leaveByNumbers, Cond.code yX1_leaveByNumbers cX1_leaveByNumbers 3 none, Cond.methodLink RX1 139 yX0_isToLeaveBy, Cond.instanceMethod yX0_isToLeaveBy, Cond.selects RX0 yX0_isToLeaveBy yX0_isToLeaveBy, Cond.code yX0_isToLeaveBy cX0_isToLeaveBy 2 (some .boolean), Cond.methodLink RX1 143 yX1_liesDry, Cond.instanceMethod yX1_liesDry, Cond.selects RX1 yX1_liesDry yX1_liesDry, Cond.code yX1_liesDry cX1_liesDry 2 (some .boolean), Cond.methodLink RX1 95 yX3_tideIn, Cond.instanceMethod yX3_tideIn, Cond.selects RX3 yX3_tideIn yX3_tideIn, Cond.code yX3_tideIn cX3_tideIn 2 (some .int), Cond.fieldLink RX3 9 "FloatMarket$Water" "tides" "[I", Cond.methodLink RX1 107 yX1_tradeByNumbers]
def wsX4_full_r7 : List Cond := [Cond.instanceMethod yX1_tradeByNumbers, Cond.selects RX1 yX1_tradeByNumbers yX1_tradeByNumbers, Cond.code yX1_tradeByNumbers cX1_tradeByNumbers 4 none, Cond.methodLink RX1 147 yX0_misses, Cond.instanceMethod yX0_misses, Cond.selects RX0 yX0_misses yX0_misses, Cond.code yX0_misses cX0_misses 2 (some .int), Cond.methodLink RX0 67 Lib.Math.max.name, Cond.static Lib.Math.max.name, Cond.initialized "java/lang/Math", Cond.code Lib.Math.max.name Lib.Math.max.code 2 (some .int), Cond.methodLink RX1 150 yX1_cheapestSeller, Cond.instanceMethod yX1_cheapestSeller, Cond.selects RX1 yX1_cheapestSeller yX1_cheapestSeller, Cond.code yX1_cheapestSeller cX1_cheapestSeller 7 (some (.object "FloatMarket$Canoe")), Cond.fieldLink RX1 158 "FloatMarket$Canoe" "pays" "[I", Cond.fieldLink RX1 63 "FloatMarket$Canoe" "coins" "I", Cond.methodLink RX1 161 Lib.Math.min.name, Cond.static Lib.Math.min.name, Cond.code Lib.Math.min.name Lib.Math.min.code 2 (some .int), Cond.methodLink RX1 167 yX1_cheaper, Cond.instanceMethod yX1_cheaper, Cond.selects RX1 yX1_cheaper yX1_cheaper, Cond.code yX1_cheaper cX1_cheaper 6 (some (.object "FloatMarket$Canoe"))]
def wsX4_full_r8 : List Cond := [Cond.fieldLink RX1 175 "FloatMarket$Canoe" "asks" "[I", Cond.methodLink RX1 171 yX0_sells, Cond.instanceMethod yX0_sells, Cond.selects RX0 yX0_sells yX0_sells, Cond.code yX0_sells cX0_sells 3 (some .boolean), Cond.methodLink RX1 154 yX1_trade, Cond.instanceMethod yX1_trade, Cond.selects RX1 yX1_trade yX1_trade, Cond.code yX1_trade cX1_trade 5 none, Cond.fieldLink RX1 178 "FloatMarket$Canoe" "has" "[I", Cond.fieldLink RX1 181 "FloatMarket$Canoe" "sold" "I", Cond.fieldLink RX1 182 "FloatMarket$Canoe" "bought" "I", Cond.methodLink RX4 183 yX0_hasReached, Cond.instanceMethod yX0_hasReached, Cond.selects RX0 yX0_hasReached yX0_hasReached, Cond.code yX0_hasReached cX0_hasReached 2 (some .boolean), Cond.methodLink RX0 80 yX0_missesInAll, Cond.instanceMethod yX0_missesInAll, Cond.selects RX0 yX0_missesInAll yX0_missesInAll, Cond.code yX0_missesInAll cX0_missesInAll 3 (some .int), Cond.methodLink RX0 73 yX0_misses]
def wsX4_full : List Cond := .code yX4_full cX4_full 2 (some .int) :: ((wsX4_full_r1 ++ (wsX4_full_r2 ++ (wsX4_full_r3 ++ (wsX4_full_r4 ++ (wsX4_full_r5 ++ (wsX4_full_r6 ++ (wsX4_full_r7 ++ wsX4_full_r8))))))) ++ wsX40 ++ wsX10 ++ wsX20 ++ wsX00 ++ wsX30 ++ (vx_atS RX4 192 "java/lang/IndexOutOfBoundsException" ["java/lang/RuntimeException", "java/lang/Exception"]).filter goodWord)
def wsX4_gone_r1 : List Cond := [Cond.fieldLink RX4 21 "FloatMarket" "now" "LFloatMarket$Market;", Cond.fieldLink RX4 58 "FloatMarket$Market" "canoeCount" "I", Cond.methodLink RX4 44 yX4_needIndex, Cond.static yX4_needIndex, Cond.initialized RX4, Cond.code yX4_needIndex cX4_needIndex 2 none, Cond.classLink RX4 188 "java/lang/IndexOutOfBoundsException", Cond.initialized "java/lang/IndexOutOfBoundsException", Cond.methodLink RX4 160 yX4_stepsUntil, Cond.instanceMethod yX4_stepsUntil, Cond.selects RX4 yX4_stepsUntil yX4_stepsUntil, Cond.code yX4_stepsUntil cX4_stepsUntil 5 (some .int), Cond.fieldLink RX4 25 "FloatMarket" "trial" "LFloatMarket$Market;", Cond.fieldLink RX4 65 "FloatMarket$Market" "canoes" "[LFloatMarket$Canoe;", Cond.methodLink RX4 146 yX1_copyFrom, Cond.instanceMethod yX1_copyFrom, Cond.selects RX1 yX1_copyFrom yX1_copyFrom, Cond.initialized RX1, Cond.code yX1_copyFrom cX1_copyFrom 3 none, Cond.fieldLink RX1 31 "FloatMarket$Market" "rowCount" "I", Cond.fieldLink RX1 35 "FloatMarket$Market" "canoeCount" "I", Cond.fieldLink RX1 38 "FloatMarket$Market" "step" "I", Cond.fieldLink RX1 41 "FloatMarket$Market" "sold" "I", Cond.fieldLink RX1 44 "FloatMarket$Market" "paid" "I"]
def wsX4_gone_r2 : List Cond := [Cond.fieldLink RX1 47 "FloatMarket$Market" "loosened" "I", Cond.fieldLink RX1 50 "FloatMarket$Market" "drifted" "I", Cond.fieldLink RX1 17 "FloatMarket$Market" "rows" "[LFloatMarket$Row;", Cond.fieldLink RX1 24 "FloatMarket$Market" "canoes" "[LFloatMarket$Canoe;", Cond.methodLink RX1 53 yX2_copyFrom, Cond.instanceMethod yX2_copyFrom, Cond.selects RX2 yX2_copyFrom yX2_copyFrom, Cond.initialized RX2, Cond.code yX2_copyFrom cX2_copyFrom 2 none, Cond.fieldLink RX2 15 "FloatMarket$Row" "places" "I", Cond.fieldLink RX2 19 "FloatMarket$Row" "used" "I", Cond.fieldLink RX2 9 "FloatMarket$Row" "moored" "[I", Cond.methodLink RX2 22 arraycopyName, Cond.native arraycopyName, Cond.static arraycopyName, Cond.initialized "java/lang/System", Cond.methodLink RX1 57 yX0_copyFrom, Cond.instanceMethod yX0_copyFrom, Cond.selects RX0 yX0_copyFrom yX0_copyFrom, Cond.initialized RX0, Cond.code yX0_copyFrom cX0_copyFrom 2 none, Cond.fieldLink RX0 43 "FloatMarket$Canoe" "coins" "I", Cond.fieldLink RX0 46 "FloatMarket$Canoe" "rope" "I", Cond.fieldLink RX0 28 "FloatMarket$Canoe" "status" "I"]
def wsX4_gone_r3 : List Cond := [Cond.fieldLink RX0 31 "FloatMarket$Canoe" "row" "I", Cond.fieldLink RX0 34 "FloatMarket$Canoe" "place" "I", Cond.fieldLink RX0 37 "FloatMarket$Canoe" "leaveStep" "I", Cond.fieldLink RX0 49 "FloatMarket$Canoe" "loosened" "I", Cond.fieldLink RX0 52 "FloatMarket$Canoe" "drifted" "I", Cond.fieldLink RX0 40 "FloatMarket$Canoe" "lastDriftStep" "I", Cond.fieldLink RX0 55 "FloatMarket$Canoe" "sold" "I", Cond.fieldLink RX0 58 "FloatMarket$Canoe" "bought" "I", Cond.fieldLink RX0 15 "FloatMarket$Canoe" "has" "[I", Cond.methodLink RX0 61 arraycopyName, Cond.fieldLink RX0 19 "FloatMarket$Canoe" "asks" "[I", Cond.fieldLink RX0 22 "FloatMarket$Canoe" "wants" "[I", Cond.fieldLink RX0 25 "FloatMarket$Canoe" "pays" "[I", Cond.methodLink RX4 141 yX1_passSteps, Cond.instanceMethod yX1_passSteps, Cond.selects RX1 yX1_passSteps yX1_passSteps, Cond.code yX1_passSteps cX1_passSteps 3 none, Cond.methodLink RX1 101 yX1_driftByRows, Cond.instanceMethod yX1_driftByRows, Cond.selects RX1 yX1_driftByRows yX1_driftByRows, Cond.code yX1_driftByRows cX1_driftByRows 4 none, Cond.fieldLink RX1 9 "FloatMarket$Market" "water" "LFloatMarket$Water;", Cond.fieldLink RX1 75 "FloatMarket$Row" "used" "I", Cond.fieldLink RX1 66 "FloatMarket$Canoe" "rope" "I"]
def wsX4_gone_r4 : List Cond := [Cond.fieldLink RX1 117 "FloatMarket$Canoe" "lastDriftStep" "I", Cond.methodLink RX1 110 yX3_wakeIn, Cond.instanceMethod yX3_wakeIn, Cond.selects RX3 yX3_wakeIn yX3_wakeIn, Cond.initialized RX3, Cond.code yX3_wakeIn cX3_wakeIn 2 (some .int), Cond.fieldLink RX3 15 "FloatMarket$Water" "wakes" "[I", Cond.methodLink RX3 24 yJ9_floorMod_7cf53, Cond.static yJ9_floorMod_7cf53, Cond.initialized RJ9, Cond.code yJ9_floorMod_7cf53 cJ9_floorMod_7cf53 3 (some .int), Cond.methodLink RX1 113 yX1_canoeAt, Cond.instanceMethod yX1_canoeAt, Cond.selects RX1 yX1_canoeAt yX1_canoeAt, Cond.code yX1_canoeAt cX1_canoeAt 4 (some (.object "FloatMarket$Canoe")), Cond.methodLink RX1 185 yX2_canoeAt, Cond.instanceMethod yX2_canoeAt, Cond.selects RX2 yX2_canoeAt yX2_canoeAt, Cond.code yX2_canoeAt cX2_canoeAt 2 (some .int), Cond.methodLink RX1 120 yX1_drift, Cond.instanceMethod yX1_drift, Cond.selects RX1 yX1_drift yX1_drift, Cond.code yX1_drift cX1_drift 4 none, Cond.fieldLink RX1 134 "FloatMarket$Canoe" "drifted" "I"]
def wsX4_gone_r5 : List Cond := [Cond.methodLink RX1 124 yX1_unfasten, Cond.instanceMethod yX1_unfasten, Cond.selects RX1 yX1_unfasten yX1_unfasten, Cond.code yX1_unfasten cX1_unfasten 6 (some .int), Cond.fieldLink RX1 69 "FloatMarket$Canoe" "status" "I", Cond.fieldLink RX1 72 "FloatMarket$Canoe" "row" "I", Cond.fieldLink RX1 78 "FloatMarket$Canoe" "place" "I", Cond.fieldLink RX1 90 "FloatMarket$Row" "moored" "[I", Cond.fieldLink RX1 94 "FloatMarket$Canoe" "loosened" "I", Cond.methodLink RX1 87 yX2_closeGap, Cond.instanceMethod yX2_closeGap, Cond.selects RX2 yX2_closeGap yX2_closeGap, Cond.code yX2_closeGap cX2_closeGap 3 none, Cond.methodLink RX1 128 yX1_nextRowNotFull, Cond.instanceMethod yX1_nextRowNotFull, Cond.selects RX1 yX1_nextRowNotFull yX1_nextRowNotFull, Cond.code yX1_nextRowNotFull cX1_nextRowNotFull 4 (some .int), Cond.methodLink RX1 135 yX2_isFull, Cond.instanceMethod yX2_isFull, Cond.selects RX2 yX2_isFull yX2_isFull, Cond.code yX2_isFull cX2_isFull 1 (some .boolean), Cond.methodLink RX1 131 yX1_fasten, Cond.instanceMethod yX1_fasten, Cond.selects RX1 yX1_fasten yX1_fasten]
def wsX4_gone_r6 : List Cond := [Cond.code yX1_fasten cX1_fasten 3 none, Cond.fieldLink RX1 81 "FloatMarket$Canoe" "number" "I", Cond.methodLink RX1 84 yX2_append, Cond.instanceMethod yX2_append, Cond.selects RX2 yX2_append yX2_append, Cond.code yX2_append cX2_append 2 none, Cond.methodLink RX1 104 yX1_leaveByNumbers, Cond.instanceMethod yX1_leaveByNumbers, Cond.selects RX1 yX1_leaveByNumbers yX1_leaveByNumbers, Cond.code yX1_leaveByNumbers cX1_leaveByNumbers 3 none, Cond.methodLink RX1 139 yX0_isToLeaveBy, Cond.instanceMethod yX0_isToLeaveBy, Cond.selects RX0 yX0_isToLeaveBy yX0_isToLeaveBy, Cond.code yX0_isToLeaveBy cX0_isToLeaveBy 2 (some .boolean), Cond.methodLink RX1 143 yX1_liesDry, Cond.instanceMethod yX1_liesDry, Cond.selects RX1 yX1_liesDry yX1_liesDry, Cond.code yX1_liesDry cX1_liesDry 2 (some .boolean), Cond.methodLink RX1 95 yX3_tideIn, Cond.instanceMethod yX3_tideIn, Cond.selects RX3 yX3_tideIn yX3_tideIn, Cond.code yX3_tideIn cX3_tideIn 2 (some .int), Cond.fieldLink RX3 9 "FloatMarket$Water" "tides" "[I", Cond.methodLink RX1 107 yX1_tradeByNumbers]
def wsX4_gone_r7 : List Cond := [Cond.instanceMethod yX1_tradeByNumbers, Cond.selects RX1 yX1_tradeByNumbers yX1_tradeByNumbers, Cond.code yX1_tradeByNumbers cX1_tradeByNumbers 4 none, Cond.methodLink RX1 147 yX0_misses, Cond.instanceMethod yX0_misses, Cond.selects RX0 yX0_misses yX0_misses, Cond.code yX0_misses cX0_misses 2 (some .int), Cond.methodLink RX0 67 Lib.Math.max.name, Cond.static Lib.Math.max.name, Cond.initialized "java/lang/Math", Cond.code Lib.Math.max.name Lib.Math.max.code 2 (some .int), Cond.methodLink RX1 150 yX1_cheapestSeller, Cond.instanceMethod yX1_cheapestSeller, Cond.selects RX1 yX1_cheapestSeller yX1_cheapestSeller, Cond.code yX1_cheapestSeller cX1_cheapestSeller 7 (some (.object "FloatMarket$Canoe")), Cond.fieldLink RX1 158 "FloatMarket$Canoe" "pays" "[I", Cond.fieldLink RX1 63 "FloatMarket$Canoe" "coins" "I", Cond.methodLink RX1 161 Lib.Math.min.name, Cond.static Lib.Math.min.name, Cond.code Lib.Math.min.name Lib.Math.min.code 2 (some .int), Cond.methodLink RX1 167 yX1_cheaper, Cond.instanceMethod yX1_cheaper, Cond.selects RX1 yX1_cheaper yX1_cheaper, Cond.code yX1_cheaper cX1_cheaper 6 (some (.object "FloatMarket$Canoe"))]
def wsX4_gone_r8 : List Cond := [Cond.fieldLink RX1 175 "FloatMarket$Canoe" "asks" "[I", Cond.methodLink RX1 171 yX0_sells, Cond.instanceMethod yX0_sells, Cond.selects RX0 yX0_sells yX0_sells, Cond.code yX0_sells cX0_sells 3 (some .boolean), Cond.methodLink RX1 154 yX1_trade, Cond.instanceMethod yX1_trade, Cond.selects RX1 yX1_trade yX1_trade, Cond.code yX1_trade cX1_trade 5 none, Cond.fieldLink RX1 178 "FloatMarket$Canoe" "has" "[I", Cond.fieldLink RX1 181 "FloatMarket$Canoe" "sold" "I", Cond.fieldLink RX1 182 "FloatMarket$Canoe" "bought" "I", Cond.methodLink RX4 183 yX0_hasReached, Cond.instanceMethod yX0_hasReached, Cond.selects RX0 yX0_hasReached yX0_hasReached, Cond.code yX0_hasReached cX0_hasReached 2 (some .boolean), Cond.methodLink RX0 80 yX0_missesInAll, Cond.instanceMethod yX0_missesInAll, Cond.selects RX0 yX0_missesInAll yX0_missesInAll, Cond.code yX0_missesInAll cX0_missesInAll 3 (some .int), Cond.methodLink RX0 73 yX0_misses]
def wsX4_gone : List Cond := .code yX4_gone cX4_gone 2 (some .int) :: ((wsX4_gone_r1 ++ (wsX4_gone_r2 ++ (wsX4_gone_r3 ++ (wsX4_gone_r4 ++ (wsX4_gone_r5 ++ (wsX4_gone_r6 ++ (wsX4_gone_r7 ++ wsX4_gone_r8))))))) ++ wsX40 ++ wsX10 ++ wsX20 ++ wsX00 ++ wsX30 ++ (vx_atS RX4 192 "java/lang/IndexOutOfBoundsException" ["java/lang/RuntimeException", "java/lang/Exception"]).filter goodWord)
def wsX4_coinsIfMoored_r1 : List Cond := [Cond.fieldLink RX4 25 "FloatMarket" "trial" "LFloatMarket$Market;", Cond.fieldLink RX4 21 "FloatMarket" "now" "LFloatMarket$Market;", Cond.fieldLink RX4 65 "FloatMarket$Market" "canoes" "[LFloatMarket$Canoe;", Cond.fieldLink RX4 150 "FloatMarket$Canoe" "coins" "I", Cond.methodLink RX4 146 yX1_copyFrom, Cond.instanceMethod yX1_copyFrom, Cond.selects RX1 yX1_copyFrom yX1_copyFrom, Cond.initialized RX1, Cond.code yX1_copyFrom cX1_copyFrom 3 none, Cond.fieldLink RX1 31 "FloatMarket$Market" "rowCount" "I", Cond.fieldLink RX1 35 "FloatMarket$Market" "canoeCount" "I", Cond.fieldLink RX1 38 "FloatMarket$Market" "step" "I", Cond.fieldLink RX1 41 "FloatMarket$Market" "sold" "I", Cond.fieldLink RX1 44 "FloatMarket$Market" "paid" "I", Cond.fieldLink RX1 47 "FloatMarket$Market" "loosened" "I", Cond.fieldLink RX1 50 "FloatMarket$Market" "drifted" "I", Cond.fieldLink RX1 17 "FloatMarket$Market" "rows" "[LFloatMarket$Row;", Cond.fieldLink RX1 24 "FloatMarket$Market" "canoes" "[LFloatMarket$Canoe;", Cond.methodLink RX1 53 yX2_copyFrom, Cond.instanceMethod yX2_copyFrom, Cond.selects RX2 yX2_copyFrom yX2_copyFrom, Cond.initialized RX2, Cond.code yX2_copyFrom cX2_copyFrom 2 none, Cond.fieldLink RX2 15 "FloatMarket$Row" "places" "I"]
def wsX4_coinsIfMoored_r2 : List Cond := [Cond.fieldLink RX2 19 "FloatMarket$Row" "used" "I", Cond.fieldLink RX2 9 "FloatMarket$Row" "moored" "[I", Cond.methodLink RX2 22 arraycopyName, Cond.native arraycopyName, Cond.static arraycopyName, Cond.initialized "java/lang/System", Cond.methodLink RX1 57 yX0_copyFrom, Cond.instanceMethod yX0_copyFrom, Cond.selects RX0 yX0_copyFrom yX0_copyFrom, Cond.initialized RX0, Cond.code yX0_copyFrom cX0_copyFrom 2 none, Cond.fieldLink RX0 43 "FloatMarket$Canoe" "coins" "I", Cond.fieldLink RX0 46 "FloatMarket$Canoe" "rope" "I", Cond.fieldLink RX0 28 "FloatMarket$Canoe" "status" "I", Cond.fieldLink RX0 31 "FloatMarket$Canoe" "row" "I", Cond.fieldLink RX0 34 "FloatMarket$Canoe" "place" "I", Cond.fieldLink RX0 37 "FloatMarket$Canoe" "leaveStep" "I", Cond.fieldLink RX0 49 "FloatMarket$Canoe" "loosened" "I", Cond.fieldLink RX0 52 "FloatMarket$Canoe" "drifted" "I", Cond.fieldLink RX0 40 "FloatMarket$Canoe" "lastDriftStep" "I", Cond.fieldLink RX0 55 "FloatMarket$Canoe" "sold" "I", Cond.fieldLink RX0 58 "FloatMarket$Canoe" "bought" "I", Cond.fieldLink RX0 15 "FloatMarket$Canoe" "has" "[I", Cond.methodLink RX0 61 arraycopyName]
def wsX4_coinsIfMoored_r3 : List Cond := [Cond.fieldLink RX0 19 "FloatMarket$Canoe" "asks" "[I", Cond.fieldLink RX0 22 "FloatMarket$Canoe" "wants" "[I", Cond.fieldLink RX0 25 "FloatMarket$Canoe" "pays" "[I", Cond.methodLink RX4 99 yX1_fasten, Cond.instanceMethod yX1_fasten, Cond.selects RX1 yX1_fasten yX1_fasten, Cond.code yX1_fasten cX1_fasten 3 none, Cond.fieldLink RX1 69 "FloatMarket$Canoe" "status" "I", Cond.fieldLink RX1 72 "FloatMarket$Canoe" "row" "I", Cond.fieldLink RX1 75 "FloatMarket$Row" "used" "I", Cond.fieldLink RX1 78 "FloatMarket$Canoe" "place" "I", Cond.fieldLink RX1 81 "FloatMarket$Canoe" "number" "I", Cond.methodLink RX1 84 yX2_append, Cond.instanceMethod yX2_append, Cond.selects RX2 yX2_append yX2_append, Cond.code yX2_append cX2_append 2 none, Cond.methodLink RX4 141 yX1_passSteps, Cond.instanceMethod yX1_passSteps, Cond.selects RX1 yX1_passSteps yX1_passSteps, Cond.code yX1_passSteps cX1_passSteps 3 none, Cond.methodLink RX1 101 yX1_driftByRows, Cond.instanceMethod yX1_driftByRows, Cond.selects RX1 yX1_driftByRows yX1_driftByRows, Cond.code yX1_driftByRows cX1_driftByRows 4 none]
def wsX4_coinsIfMoored_r4 : List Cond := [Cond.fieldLink RX1 9 "FloatMarket$Market" "water" "LFloatMarket$Water;", Cond.fieldLink RX1 66 "FloatMarket$Canoe" "rope" "I", Cond.fieldLink RX1 117 "FloatMarket$Canoe" "lastDriftStep" "I", Cond.methodLink RX1 110 yX3_wakeIn, Cond.instanceMethod yX3_wakeIn, Cond.selects RX3 yX3_wakeIn yX3_wakeIn, Cond.initialized RX3, Cond.code yX3_wakeIn cX3_wakeIn 2 (some .int), Cond.fieldLink RX3 15 "FloatMarket$Water" "wakes" "[I", Cond.methodLink RX3 24 yJ9_floorMod_7cf53, Cond.static yJ9_floorMod_7cf53, Cond.initialized RJ9, Cond.code yJ9_floorMod_7cf53 cJ9_floorMod_7cf53 3 (some .int), Cond.methodLink RX1 113 yX1_canoeAt, Cond.instanceMethod yX1_canoeAt, Cond.selects RX1 yX1_canoeAt yX1_canoeAt, Cond.code yX1_canoeAt cX1_canoeAt 4 (some (.object "FloatMarket$Canoe")), Cond.methodLink RX1 185 yX2_canoeAt, Cond.instanceMethod yX2_canoeAt, Cond.selects RX2 yX2_canoeAt yX2_canoeAt, Cond.code yX2_canoeAt cX2_canoeAt 2 (some .int), Cond.methodLink RX1 120 yX1_drift, Cond.instanceMethod yX1_drift, Cond.selects RX1 yX1_drift yX1_drift]
def wsX4_coinsIfMoored_r5 : List Cond := [Cond.code yX1_drift cX1_drift 4 none, Cond.fieldLink RX1 134 "FloatMarket$Canoe" "drifted" "I", Cond.methodLink RX1 124 yX1_unfasten, Cond.instanceMethod yX1_unfasten, Cond.selects RX1 yX1_unfasten yX1_unfasten, Cond.code yX1_unfasten cX1_unfasten 6 (some .int), Cond.fieldLink RX1 90 "FloatMarket$Row" "moored" "[I", Cond.fieldLink RX1 94 "FloatMarket$Canoe" "loosened" "I", Cond.methodLink RX1 87 yX2_closeGap, Cond.instanceMethod yX2_closeGap, Cond.selects RX2 yX2_closeGap yX2_closeGap, Cond.code yX2_closeGap cX2_closeGap 3 none, Cond.methodLink RX1 128 yX1_nextRowNotFull, Cond.instanceMethod yX1_nextRowNotFull, Cond.selects RX1 yX1_nextRowNotFull yX1_nextRowNotFull, Cond.code yX1_nextRowNotFull cX1_nextRowNotFull 4 (some .int), Cond.methodLink RX1 135 yX2_isFull, Cond.instanceMethod yX2_isFull, Cond.selects RX2 yX2_isFull yX2_isFull, Cond.code yX2_isFull cX2_isFull 1 (some .boolean), Cond.methodLink RX1 131 yX1_fasten, Cond.methodLink RX1 104 yX1_leaveByNumbers, Cond.instanceMethod yX1_leaveByNumbers, Cond.selects RX1 yX1_leaveByNumbers yX1_leaveByNumbers]
def wsX4_coinsIfMoored_r6 : List Cond := [Cond.code yX1_leaveByNumbers cX1_leaveByNumbers 3 none, Cond.methodLink RX1 139 yX0_isToLeaveBy, Cond.instanceMethod yX0_isToLeaveBy, Cond.selects RX0 yX0_isToLeaveBy yX0_isToLeaveBy, Cond.code yX0_isToLeaveBy cX0_isToLeaveBy 2 (some .boolean), Cond.methodLink RX1 143 yX1_liesDry, Cond.instanceMethod yX1_liesDry, Cond.selects RX1 yX1_liesDry yX1_liesDry, Cond.code yX1_liesDry cX1_liesDry 2 (some .boolean), Cond.methodLink RX1 95 yX3_tideIn, Cond.instanceMethod yX3_tideIn, Cond.selects RX3 yX3_tideIn yX3_tideIn, Cond.code yX3_tideIn cX3_tideIn 2 (some .int), Cond.fieldLink RX3 9 "FloatMarket$Water" "tides" "[I", Cond.methodLink RX1 107 yX1_tradeByNumbers, Cond.instanceMethod yX1_tradeByNumbers, Cond.selects RX1 yX1_tradeByNumbers yX1_tradeByNumbers, Cond.code yX1_tradeByNumbers cX1_tradeByNumbers 4 none, Cond.methodLink RX1 147 yX0_misses, Cond.instanceMethod yX0_misses, Cond.selects RX0 yX0_misses yX0_misses, Cond.code yX0_misses cX0_misses 2 (some .int), Cond.methodLink RX0 67 Lib.Math.max.name, Cond.static Lib.Math.max.name]
def wsX4_coinsIfMoored_r7 : List Cond := [Cond.initialized "java/lang/Math", Cond.code Lib.Math.max.name Lib.Math.max.code 2 (some .int), Cond.methodLink RX1 150 yX1_cheapestSeller, Cond.instanceMethod yX1_cheapestSeller, Cond.selects RX1 yX1_cheapestSeller yX1_cheapestSeller, Cond.code yX1_cheapestSeller cX1_cheapestSeller 7 (some (.object "FloatMarket$Canoe")), Cond.fieldLink RX1 158 "FloatMarket$Canoe" "pays" "[I", Cond.fieldLink RX1 63 "FloatMarket$Canoe" "coins" "I", Cond.methodLink RX1 161 Lib.Math.min.name, Cond.static Lib.Math.min.name, Cond.code Lib.Math.min.name Lib.Math.min.code 2 (some .int), Cond.methodLink RX1 167 yX1_cheaper, Cond.instanceMethod yX1_cheaper, Cond.selects RX1 yX1_cheaper yX1_cheaper, Cond.code yX1_cheaper cX1_cheaper 6 (some (.object "FloatMarket$Canoe")), Cond.fieldLink RX1 175 "FloatMarket$Canoe" "asks" "[I", Cond.methodLink RX1 171 yX0_sells, Cond.instanceMethod yX0_sells, Cond.selects RX0 yX0_sells yX0_sells, Cond.code yX0_sells cX0_sells 3 (some .boolean), Cond.methodLink RX1 154 yX1_trade, Cond.instanceMethod yX1_trade, Cond.selects RX1 yX1_trade yX1_trade, Cond.code yX1_trade cX1_trade 5 none]
def wsX4_coinsIfMoored_r8 : List Cond := [Cond.fieldLink RX1 178 "FloatMarket$Canoe" "has" "[I", Cond.fieldLink RX1 181 "FloatMarket$Canoe" "sold" "I", Cond.fieldLink RX1 182 "FloatMarket$Canoe" "bought" "I"]
def wsX4_coinsIfMoored : List Cond := .code yX4_coinsIfMoored cX4_coinsIfMoored 5 (some .int) :: ((wsX4_coinsIfMoored_r1 ++ (wsX4_coinsIfMoored_r2 ++ (wsX4_coinsIfMoored_r3 ++ (wsX4_coinsIfMoored_r4 ++ (wsX4_coinsIfMoored_r5 ++ (wsX4_coinsIfMoored_r6 ++ (wsX4_coinsIfMoored_r7 ++ wsX4_coinsIfMoored_r8))))))) ++ wsX40 ++ wsX10 ++ wsX00 ++ wsX20 ++ wsX30)
def wsX4_advise_r1 : List Cond := [Cond.fieldLink RX4 21 "FloatMarket" "now" "LFloatMarket$Market;", Cond.fieldLink RX4 58 "FloatMarket$Market" "canoeCount" "I", Cond.fieldLink RX4 65 "FloatMarket$Market" "canoes" "[LFloatMarket$Canoe;", Cond.fieldLink RX4 69 "FloatMarket$Canoe" "status" "I", Cond.fieldLink RX4 32 "FloatMarket$Market" "rowCount" "I", Cond.fieldLink RX4 89 "FloatMarket$Market" "rows" "[LFloatMarket$Row;", Cond.methodLink RX4 44 yX4_needIndex, Cond.static yX4_needIndex, Cond.initialized RX4, Cond.code yX4_needIndex cX4_needIndex 2 none, Cond.classLink RX4 188 "java/lang/IndexOutOfBoundsException", Cond.initialized "java/lang/IndexOutOfBoundsException", Cond.methodLink RX4 28 yX4_needRange, Cond.static yX4_needRange, Cond.code yX4_needRange cX4_needRange 3 none, Cond.classLink RX4 195 "java/lang/IllegalArgumentException", Cond.initialized "java/lang/IllegalArgumentException", Cond.methodLink RX4 36 yX4_needState, Cond.static yX4_needState, Cond.code yX4_needState cX4_needState 1 none, Cond.classLink RX4 200 "java/lang/IllegalStateException", Cond.initialized "java/lang/IllegalStateException", Cond.methodLink RX4 93 yX2_isFull, Cond.instanceMethod yX2_isFull]
def wsX4_advise_r2 : List Cond := [Cond.selects RX2 yX2_isFull yX2_isFull, Cond.initialized RX2, Cond.code yX2_isFull cX2_isFull 1 (some .boolean), Cond.fieldLink RX2 19 "FloatMarket$Row" "used" "I", Cond.fieldLink RX2 15 "FloatMarket$Row" "places" "I", Cond.methodLink RX4 163 yX4_coinsIfMoored, Cond.instanceMethod yX4_coinsIfMoored, Cond.selects RX4 yX4_coinsIfMoored yX4_coinsIfMoored, Cond.code yX4_coinsIfMoored cX4_coinsIfMoored 5 (some .int), Cond.fieldLink RX4 25 "FloatMarket" "trial" "LFloatMarket$Market;", Cond.fieldLink RX4 150 "FloatMarket$Canoe" "coins" "I", Cond.methodLink RX4 146 yX1_copyFrom, Cond.instanceMethod yX1_copyFrom, Cond.selects RX1 yX1_copyFrom yX1_copyFrom, Cond.initialized RX1, Cond.code yX1_copyFrom cX1_copyFrom 3 none, Cond.fieldLink RX1 31 "FloatMarket$Market" "rowCount" "I", Cond.fieldLink RX1 35 "FloatMarket$Market" "canoeCount" "I", Cond.fieldLink RX1 38 "FloatMarket$Market" "step" "I", Cond.fieldLink RX1 41 "FloatMarket$Market" "sold" "I", Cond.fieldLink RX1 44 "FloatMarket$Market" "paid" "I", Cond.fieldLink RX1 47 "FloatMarket$Market" "loosened" "I", Cond.fieldLink RX1 50 "FloatMarket$Market" "drifted" "I", Cond.fieldLink RX1 17 "FloatMarket$Market" "rows" "[LFloatMarket$Row;"]
def wsX4_advise_r3 : List Cond := [Cond.fieldLink RX1 24 "FloatMarket$Market" "canoes" "[LFloatMarket$Canoe;", Cond.methodLink RX1 53 yX2_copyFrom, Cond.instanceMethod yX2_copyFrom, Cond.selects RX2 yX2_copyFrom yX2_copyFrom, Cond.code yX2_copyFrom cX2_copyFrom 2 none, Cond.fieldLink RX2 9 "FloatMarket$Row" "moored" "[I", Cond.methodLink RX2 22 arraycopyName, Cond.native arraycopyName, Cond.static arraycopyName, Cond.initialized "java/lang/System", Cond.methodLink RX1 57 yX0_copyFrom, Cond.instanceMethod yX0_copyFrom, Cond.selects RX0 yX0_copyFrom yX0_copyFrom, Cond.initialized RX0, Cond.code yX0_copyFrom cX0_copyFrom 2 none, Cond.fieldLink RX0 43 "FloatMarket$Canoe" "coins" "I", Cond.fieldLink RX0 46 "FloatMarket$Canoe" "rope" "I", Cond.fieldLink RX0 28 "FloatMarket$Canoe" "status" "I", Cond.fieldLink RX0 31 "FloatMarket$Canoe" "row" "I", Cond.fieldLink RX0 34 "FloatMarket$Canoe" "place" "I", Cond.fieldLink RX0 37 "FloatMarket$Canoe" "leaveStep" "I", Cond.fieldLink RX0 49 "FloatMarket$Canoe" "loosened" "I", Cond.fieldLink RX0 52 "FloatMarket$Canoe" "drifted" "I", Cond.fieldLink RX0 40 "FloatMarket$Canoe" "lastDriftStep" "I"]
def wsX4_advise_r4 : List Cond := [Cond.fieldLink RX0 55 "FloatMarket$Canoe" "sold" "I", Cond.fieldLink RX0 58 "FloatMarket$Canoe" "bought" "I", Cond.fieldLink RX0 15 "FloatMarket$Canoe" "has" "[I", Cond.methodLink RX0 61 arraycopyName, Cond.fieldLink RX0 19 "FloatMarket$Canoe" "asks" "[I", Cond.fieldLink RX0 22 "FloatMarket$Canoe" "wants" "[I", Cond.fieldLink RX0 25 "FloatMarket$Canoe" "pays" "[I", Cond.methodLink RX4 99 yX1_fasten, Cond.instanceMethod yX1_fasten, Cond.selects RX1 yX1_fasten yX1_fasten, Cond.code yX1_fasten cX1_fasten 3 none, Cond.fieldLink RX1 69 "FloatMarket$Canoe" "status" "I", Cond.fieldLink RX1 72 "FloatMarket$Canoe" "row" "I", Cond.fieldLink RX1 75 "FloatMarket$Row" "used" "I", Cond.fieldLink RX1 78 "FloatMarket$Canoe" "place" "I", Cond.fieldLink RX1 81 "FloatMarket$Canoe" "number" "I", Cond.methodLink RX1 84 yX2_append, Cond.instanceMethod yX2_append, Cond.selects RX2 yX2_append yX2_append, Cond.code yX2_append cX2_append 2 none, Cond.methodLink RX4 141 yX1_passSteps, Cond.instanceMethod yX1_passSteps, Cond.selects RX1 yX1_passSteps yX1_passSteps, Cond.code yX1_passSteps cX1_passSteps 3 none]
def wsX4_advise_r5 : List Cond := [Cond.methodLink RX1 101 yX1_driftByRows, Cond.instanceMethod yX1_driftByRows, Cond.selects RX1 yX1_driftByRows yX1_driftByRows, Cond.code yX1_driftByRows cX1_driftByRows 4 none, Cond.fieldLink RX1 9 "FloatMarket$Market" "water" "LFloatMarket$Water;", Cond.fieldLink RX1 66 "FloatMarket$Canoe" "rope" "I", Cond.fieldLink RX1 117 "FloatMarket$Canoe" "lastDriftStep" "I", Cond.methodLink RX1 110 yX3_wakeIn, Cond.instanceMethod yX3_wakeIn, Cond.selects RX3 yX3_wakeIn yX3_wakeIn, Cond.initialized RX3, Cond.code yX3_wakeIn cX3_wakeIn 2 (some .int), Cond.fieldLink RX3 15 "FloatMarket$Water" "wakes" "[I", Cond.methodLink RX3 24 yJ9_floorMod_7cf53, Cond.static yJ9_floorMod_7cf53, Cond.initialized RJ9, Cond.code yJ9_floorMod_7cf53 cJ9_floorMod_7cf53 3 (some .int), Cond.methodLink RX1 113 yX1_canoeAt, Cond.instanceMethod yX1_canoeAt, Cond.selects RX1 yX1_canoeAt yX1_canoeAt, Cond.code yX1_canoeAt cX1_canoeAt 4 (some (.object "FloatMarket$Canoe")), Cond.methodLink RX1 185 yX2_canoeAt, Cond.instanceMethod yX2_canoeAt, Cond.selects RX2 yX2_canoeAt yX2_canoeAt]
def wsX4_advise_r6 : List Cond := [Cond.code yX2_canoeAt cX2_canoeAt 2 (some .int), Cond.methodLink RX1 120 yX1_drift, Cond.instanceMethod yX1_drift, Cond.selects RX1 yX1_drift yX1_drift, Cond.code yX1_drift cX1_drift 4 none, Cond.fieldLink RX1 134 "FloatMarket$Canoe" "drifted" "I", Cond.methodLink RX1 124 yX1_unfasten, Cond.instanceMethod yX1_unfasten, Cond.selects RX1 yX1_unfasten yX1_unfasten, Cond.code yX1_unfasten cX1_unfasten 6 (some .int), Cond.fieldLink RX1 90 "FloatMarket$Row" "moored" "[I", Cond.fieldLink RX1 94 "FloatMarket$Canoe" "loosened" "I", Cond.methodLink RX1 87 yX2_closeGap, Cond.instanceMethod yX2_closeGap, Cond.selects RX2 yX2_closeGap yX2_closeGap, Cond.code yX2_closeGap cX2_closeGap 3 none, Cond.methodLink RX1 128 yX1_nextRowNotFull, Cond.instanceMethod yX1_nextRowNotFull, Cond.selects RX1 yX1_nextRowNotFull yX1_nextRowNotFull, Cond.code yX1_nextRowNotFull cX1_nextRowNotFull 4 (some .int), Cond.methodLink RX1 135 yX2_isFull, Cond.methodLink RX1 131 yX1_fasten, Cond.methodLink RX1 104 yX1_leaveByNumbers, Cond.instanceMethod yX1_leaveByNumbers]
def wsX4_advise_r7 : List Cond := [Cond.selects RX1 yX1_leaveByNumbers yX1_leaveByNumbers, Cond.code yX1_leaveByNumbers cX1_leaveByNumbers 3 none, Cond.methodLink RX1 139 yX0_isToLeaveBy, Cond.instanceMethod yX0_isToLeaveBy, Cond.selects RX0 yX0_isToLeaveBy yX0_isToLeaveBy, Cond.code yX0_isToLeaveBy cX0_isToLeaveBy 2 (some .boolean), Cond.methodLink RX1 143 yX1_liesDry, Cond.instanceMethod yX1_liesDry, Cond.selects RX1 yX1_liesDry yX1_liesDry, Cond.code yX1_liesDry cX1_liesDry 2 (some .boolean), Cond.methodLink RX1 95 yX3_tideIn, Cond.instanceMethod yX3_tideIn, Cond.selects RX3 yX3_tideIn yX3_tideIn, Cond.code yX3_tideIn cX3_tideIn 2 (some .int), Cond.fieldLink RX3 9 "FloatMarket$Water" "tides" "[I", Cond.methodLink RX1 107 yX1_tradeByNumbers, Cond.instanceMethod yX1_tradeByNumbers, Cond.selects RX1 yX1_tradeByNumbers yX1_tradeByNumbers, Cond.code yX1_tradeByNumbers cX1_tradeByNumbers 4 none, Cond.methodLink RX1 147 yX0_misses, Cond.instanceMethod yX0_misses, Cond.selects RX0 yX0_misses yX0_misses, Cond.code yX0_misses cX0_misses 2 (some .int), Cond.methodLink RX0 67 Lib.Math.max.name]
def wsX4_advise_r8 : List Cond := [Cond.static Lib.Math.max.name, Cond.initialized "java/lang/Math", Cond.code Lib.Math.max.name Lib.Math.max.code 2 (some .int), Cond.methodLink RX1 150 yX1_cheapestSeller, Cond.instanceMethod yX1_cheapestSeller, Cond.selects RX1 yX1_cheapestSeller yX1_cheapestSeller, Cond.code yX1_cheapestSeller cX1_cheapestSeller 7 (some (.object "FloatMarket$Canoe")), Cond.fieldLink RX1 158 "FloatMarket$Canoe" "pays" "[I", Cond.fieldLink RX1 63 "FloatMarket$Canoe" "coins" "I", Cond.methodLink RX1 161 Lib.Math.min.name, Cond.static Lib.Math.min.name, Cond.code Lib.Math.min.name Lib.Math.min.code 2 (some .int), Cond.methodLink RX1 167 yX1_cheaper, Cond.instanceMethod yX1_cheaper, Cond.selects RX1 yX1_cheaper yX1_cheaper, Cond.code yX1_cheaper cX1_cheaper 6 (some (.object "FloatMarket$Canoe")), Cond.fieldLink RX1 175 "FloatMarket$Canoe" "asks" "[I", Cond.methodLink RX1 171 yX0_sells, Cond.instanceMethod yX0_sells, Cond.selects RX0 yX0_sells yX0_sells, Cond.code yX0_sells cX0_sells 3 (some .boolean), Cond.methodLink RX1 154 yX1_trade, Cond.instanceMethod yX1_trade, Cond.selects RX1 yX1_trade yX1_trade]
def wsX4_advise_r9 : List Cond := [Cond.code yX1_trade cX1_trade 5 none, Cond.fieldLink RX1 178 "FloatMarket$Canoe" "has" "[I", Cond.fieldLink RX1 181 "FloatMarket$Canoe" "sold" "I", Cond.fieldLink RX1 182 "FloatMarket$Canoe" "bought" "I"]
def wsX4_advise : List Cond := .code yX4_advise cX4_advise 7 (some .int) :: ((wsX4_advise_r1 ++ (wsX4_advise_r2 ++ (wsX4_advise_r3 ++ (wsX4_advise_r4 ++ (wsX4_advise_r5 ++ (wsX4_advise_r6 ++ (wsX4_advise_r7 ++ (wsX4_advise_r8 ++ wsX4_advise_r9)))))))) ++ wsX40 ++ wsX10 ++ wsX00 ++ wsX20 ++ wsX30 ++ (vx_atS RX4 192 "java/lang/IndexOutOfBoundsException" ["java/lang/RuntimeException", "java/lang/Exception"]).filter goodWord ++ (vx_atS RX4 199 "java/lang/IllegalArgumentException" ["java/lang/RuntimeException", "java/lang/Exception"]).filter goodWord ++ (vx_atS RX4 204 "java/lang/IllegalStateException" ["java/lang/RuntimeException", "java/lang/Exception"]).filter goodWord)
def wsX4_soldIfAsking_r1 : List Cond := [Cond.fieldLink RX4 25 "FloatMarket" "trial" "LFloatMarket$Market;", Cond.fieldLink RX4 21 "FloatMarket" "now" "LFloatMarket$Market;", Cond.fieldLink RX4 65 "FloatMarket$Market" "canoes" "[LFloatMarket$Canoe;", Cond.fieldLink RX4 77 "FloatMarket$Canoe" "asks" "[I", Cond.fieldLink RX4 187 "FloatMarket$Canoe" "sold" "I", Cond.methodLink RX4 146 yX1_copyFrom, Cond.instanceMethod yX1_copyFrom, Cond.selects RX1 yX1_copyFrom yX1_copyFrom, Cond.initialized RX1, Cond.code yX1_copyFrom cX1_copyFrom 3 none, Cond.fieldLink RX1 31 "FloatMarket$Market" "rowCount" "I", Cond.fieldLink RX1 35 "FloatMarket$Market" "canoeCount" "I", Cond.fieldLink RX1 38 "FloatMarket$Market" "step" "I", Cond.fieldLink RX1 41 "FloatMarket$Market" "sold" "I", Cond.fieldLink RX1 44 "FloatMarket$Market" "paid" "I", Cond.fieldLink RX1 47 "FloatMarket$Market" "loosened" "I", Cond.fieldLink RX1 50 "FloatMarket$Market" "drifted" "I", Cond.fieldLink RX1 17 "FloatMarket$Market" "rows" "[LFloatMarket$Row;", Cond.fieldLink RX1 24 "FloatMarket$Market" "canoes" "[LFloatMarket$Canoe;", Cond.methodLink RX1 53 yX2_copyFrom, Cond.instanceMethod yX2_copyFrom, Cond.selects RX2 yX2_copyFrom yX2_copyFrom, Cond.initialized RX2, Cond.code yX2_copyFrom cX2_copyFrom 2 none]
def wsX4_soldIfAsking_r2 : List Cond := [Cond.fieldLink RX2 15 "FloatMarket$Row" "places" "I", Cond.fieldLink RX2 19 "FloatMarket$Row" "used" "I", Cond.fieldLink RX2 9 "FloatMarket$Row" "moored" "[I", Cond.methodLink RX2 22 arraycopyName, Cond.native arraycopyName, Cond.static arraycopyName, Cond.initialized "java/lang/System", Cond.methodLink RX1 57 yX0_copyFrom, Cond.instanceMethod yX0_copyFrom, Cond.selects RX0 yX0_copyFrom yX0_copyFrom, Cond.initialized RX0, Cond.code yX0_copyFrom cX0_copyFrom 2 none, Cond.fieldLink RX0 43 "FloatMarket$Canoe" "coins" "I", Cond.fieldLink RX0 46 "FloatMarket$Canoe" "rope" "I", Cond.fieldLink RX0 28 "FloatMarket$Canoe" "status" "I", Cond.fieldLink RX0 31 "FloatMarket$Canoe" "row" "I", Cond.fieldLink RX0 34 "FloatMarket$Canoe" "place" "I", Cond.fieldLink RX0 37 "FloatMarket$Canoe" "leaveStep" "I", Cond.fieldLink RX0 49 "FloatMarket$Canoe" "loosened" "I", Cond.fieldLink RX0 52 "FloatMarket$Canoe" "drifted" "I", Cond.fieldLink RX0 40 "FloatMarket$Canoe" "lastDriftStep" "I", Cond.fieldLink RX0 55 "FloatMarket$Canoe" "sold" "I", Cond.fieldLink RX0 58 "FloatMarket$Canoe" "bought" "I", Cond.fieldLink RX0 15 "FloatMarket$Canoe" "has" "[I"]
def wsX4_soldIfAsking_r3 : List Cond := [Cond.methodLink RX0 61 arraycopyName, Cond.fieldLink RX0 19 "FloatMarket$Canoe" "asks" "[I", Cond.fieldLink RX0 22 "FloatMarket$Canoe" "wants" "[I", Cond.fieldLink RX0 25 "FloatMarket$Canoe" "pays" "[I", Cond.methodLink RX4 141 yX1_passSteps, Cond.instanceMethod yX1_passSteps, Cond.selects RX1 yX1_passSteps yX1_passSteps, Cond.code yX1_passSteps cX1_passSteps 3 none, Cond.methodLink RX1 101 yX1_driftByRows, Cond.instanceMethod yX1_driftByRows, Cond.selects RX1 yX1_driftByRows yX1_driftByRows, Cond.code yX1_driftByRows cX1_driftByRows 4 none, Cond.fieldLink RX1 9 "FloatMarket$Market" "water" "LFloatMarket$Water;", Cond.fieldLink RX1 75 "FloatMarket$Row" "used" "I", Cond.fieldLink RX1 66 "FloatMarket$Canoe" "rope" "I", Cond.fieldLink RX1 117 "FloatMarket$Canoe" "lastDriftStep" "I", Cond.methodLink RX1 110 yX3_wakeIn, Cond.instanceMethod yX3_wakeIn, Cond.selects RX3 yX3_wakeIn yX3_wakeIn, Cond.initialized RX3, Cond.code yX3_wakeIn cX3_wakeIn 2 (some .int), Cond.fieldLink RX3 15 "FloatMarket$Water" "wakes" "[I", Cond.methodLink RX3 24 yJ9_floorMod_7cf53, Cond.static yJ9_floorMod_7cf53]
def wsX4_soldIfAsking_r4 : List Cond := [Cond.initialized RJ9, Cond.code yJ9_floorMod_7cf53 cJ9_floorMod_7cf53 3 (some .int), Cond.methodLink RX1 113 yX1_canoeAt, Cond.instanceMethod yX1_canoeAt, Cond.selects RX1 yX1_canoeAt yX1_canoeAt, Cond.code yX1_canoeAt cX1_canoeAt 4 (some (.object "FloatMarket$Canoe")), Cond.methodLink RX1 185 yX2_canoeAt, Cond.instanceMethod yX2_canoeAt, Cond.selects RX2 yX2_canoeAt yX2_canoeAt, Cond.code yX2_canoeAt cX2_canoeAt 2 (some .int), Cond.methodLink RX1 120 yX1_drift, Cond.instanceMethod yX1_drift, Cond.selects RX1 yX1_drift yX1_drift, Cond.code yX1_drift cX1_drift 4 none, Cond.fieldLink RX1 134 "FloatMarket$Canoe" "drifted" "I", Cond.methodLink RX1 124 yX1_unfasten, Cond.instanceMethod yX1_unfasten, Cond.selects RX1 yX1_unfasten yX1_unfasten, Cond.code yX1_unfasten cX1_unfasten 6 (some .int), Cond.fieldLink RX1 69 "FloatMarket$Canoe" "status" "I", Cond.fieldLink RX1 72 "FloatMarket$Canoe" "row" "I", Cond.fieldLink RX1 78 "FloatMarket$Canoe" "place" "I", Cond.fieldLink RX1 90 "FloatMarket$Row" "moored" "[I", Cond.fieldLink RX1 94 "FloatMarket$Canoe" "loosened" "I"]
def wsX4_soldIfAsking_r5 : List Cond := [Cond.methodLink RX1 87 yX2_closeGap, Cond.instanceMethod yX2_closeGap, Cond.selects RX2 yX2_closeGap yX2_closeGap, Cond.code yX2_closeGap cX2_closeGap 3 none, Cond.methodLink RX1 128 yX1_nextRowNotFull, Cond.instanceMethod yX1_nextRowNotFull, Cond.selects RX1 yX1_nextRowNotFull yX1_nextRowNotFull, Cond.code yX1_nextRowNotFull cX1_nextRowNotFull 4 (some .int), Cond.methodLink RX1 135 yX2_isFull, Cond.instanceMethod yX2_isFull, Cond.selects RX2 yX2_isFull yX2_isFull, Cond.code yX2_isFull cX2_isFull 1 (some .boolean), Cond.methodLink RX1 131 yX1_fasten, Cond.instanceMethod yX1_fasten, Cond.selects RX1 yX1_fasten yX1_fasten, Cond.code yX1_fasten cX1_fasten 3 none, Cond.fieldLink RX1 81 "FloatMarket$Canoe" "number" "I", Cond.methodLink RX1 84 yX2_append, Cond.instanceMethod yX2_append, Cond.selects RX2 yX2_append yX2_append, Cond.code yX2_append cX2_append 2 none, Cond.methodLink RX1 104 yX1_leaveByNumbers, Cond.instanceMethod yX1_leaveByNumbers, Cond.selects RX1 yX1_leaveByNumbers yX1_leaveByNumbers]
def wsX4_soldIfAsking_r6 : List Cond := [Cond.code yX1_leaveByNumbers cX1_leaveByNumbers 3 none, Cond.methodLink RX1 139 yX0_isToLeaveBy, Cond.instanceMethod yX0_isToLeaveBy, Cond.selects RX0 yX0_isToLeaveBy yX0_isToLeaveBy, Cond.code yX0_isToLeaveBy cX0_isToLeaveBy 2 (some .boolean), Cond.methodLink RX1 143 yX1_liesDry, Cond.instanceMethod yX1_liesDry, Cond.selects RX1 yX1_liesDry yX1_liesDry, Cond.code yX1_liesDry cX1_liesDry 2 (some .boolean), Cond.methodLink RX1 95 yX3_tideIn, Cond.instanceMethod yX3_tideIn, Cond.selects RX3 yX3_tideIn yX3_tideIn, Cond.code yX3_tideIn cX3_tideIn 2 (some .int), Cond.fieldLink RX3 9 "FloatMarket$Water" "tides" "[I", Cond.methodLink RX1 107 yX1_tradeByNumbers, Cond.instanceMethod yX1_tradeByNumbers, Cond.selects RX1 yX1_tradeByNumbers yX1_tradeByNumbers, Cond.code yX1_tradeByNumbers cX1_tradeByNumbers 4 none, Cond.methodLink RX1 147 yX0_misses, Cond.instanceMethod yX0_misses, Cond.selects RX0 yX0_misses yX0_misses, Cond.code yX0_misses cX0_misses 2 (some .int), Cond.methodLink RX0 67 Lib.Math.max.name, Cond.static Lib.Math.max.name]
def wsX4_soldIfAsking_r7 : List Cond := [Cond.initialized "java/lang/Math", Cond.code Lib.Math.max.name Lib.Math.max.code 2 (some .int), Cond.methodLink RX1 150 yX1_cheapestSeller, Cond.instanceMethod yX1_cheapestSeller, Cond.selects RX1 yX1_cheapestSeller yX1_cheapestSeller, Cond.code yX1_cheapestSeller cX1_cheapestSeller 7 (some (.object "FloatMarket$Canoe")), Cond.fieldLink RX1 158 "FloatMarket$Canoe" "pays" "[I", Cond.fieldLink RX1 63 "FloatMarket$Canoe" "coins" "I", Cond.methodLink RX1 161 Lib.Math.min.name, Cond.static Lib.Math.min.name, Cond.code Lib.Math.min.name Lib.Math.min.code 2 (some .int), Cond.methodLink RX1 167 yX1_cheaper, Cond.instanceMethod yX1_cheaper, Cond.selects RX1 yX1_cheaper yX1_cheaper, Cond.code yX1_cheaper cX1_cheaper 6 (some (.object "FloatMarket$Canoe")), Cond.fieldLink RX1 175 "FloatMarket$Canoe" "asks" "[I", Cond.methodLink RX1 171 yX0_sells, Cond.instanceMethod yX0_sells, Cond.selects RX0 yX0_sells yX0_sells, Cond.code yX0_sells cX0_sells 3 (some .boolean), Cond.methodLink RX1 154 yX1_trade, Cond.instanceMethod yX1_trade, Cond.selects RX1 yX1_trade yX1_trade, Cond.code yX1_trade cX1_trade 5 none]
def wsX4_soldIfAsking_r8 : List Cond := [Cond.fieldLink RX1 178 "FloatMarket$Canoe" "has" "[I", Cond.fieldLink RX1 181 "FloatMarket$Canoe" "sold" "I", Cond.fieldLink RX1 182 "FloatMarket$Canoe" "bought" "I"]
def wsX4_soldIfAsking : List Cond := .code yX4_soldIfAsking cX4_soldIfAsking 6 (some .int) :: ((wsX4_soldIfAsking_r1 ++ (wsX4_soldIfAsking_r2 ++ (wsX4_soldIfAsking_r3 ++ (wsX4_soldIfAsking_r4 ++ (wsX4_soldIfAsking_r5 ++ (wsX4_soldIfAsking_r6 ++ (wsX4_soldIfAsking_r7 ++ wsX4_soldIfAsking_r8))))))) ++ wsX40 ++ wsX10 ++ wsX00 ++ wsX20 ++ wsX30)
def wsX4_price_r1 : List Cond := [Cond.fieldLink RX4 21 "FloatMarket" "now" "LFloatMarket$Market;", Cond.fieldLink RX4 58 "FloatMarket$Market" "canoeCount" "I", Cond.methodLink RX4 44 yX4_needIndex, Cond.static yX4_needIndex, Cond.initialized RX4, Cond.code yX4_needIndex cX4_needIndex 2 none, Cond.classLink RX4 188 "java/lang/IndexOutOfBoundsException", Cond.initialized "java/lang/IndexOutOfBoundsException", Cond.methodLink RX4 28 yX4_needRange, Cond.static yX4_needRange, Cond.code yX4_needRange cX4_needRange 3 none, Cond.classLink RX4 195 "java/lang/IllegalArgumentException", Cond.initialized "java/lang/IllegalArgumentException", Cond.methodLink RX4 167 yX4_soldIfAsking, Cond.instanceMethod yX4_soldIfAsking, Cond.selects RX4 yX4_soldIfAsking yX4_soldIfAsking, Cond.code yX4_soldIfAsking cX4_soldIfAsking 6 (some .int), Cond.fieldLink RX4 25 "FloatMarket" "trial" "LFloatMarket$Market;", Cond.fieldLink RX4 65 "FloatMarket$Market" "canoes" "[LFloatMarket$Canoe;", Cond.fieldLink RX4 77 "FloatMarket$Canoe" "asks" "[I", Cond.fieldLink RX4 187 "FloatMarket$Canoe" "sold" "I", Cond.methodLink RX4 146 yX1_copyFrom, Cond.instanceMethod yX1_copyFrom, Cond.selects RX1 yX1_copyFrom yX1_copyFrom]
def wsX4_price_r2 : List Cond := [Cond.initialized RX1, Cond.code yX1_copyFrom cX1_copyFrom 3 none, Cond.fieldLink RX1 31 "FloatMarket$Market" "rowCount" "I", Cond.fieldLink RX1 35 "FloatMarket$Market" "canoeCount" "I", Cond.fieldLink RX1 38 "FloatMarket$Market" "step" "I", Cond.fieldLink RX1 41 "FloatMarket$Market" "sold" "I", Cond.fieldLink RX1 44 "FloatMarket$Market" "paid" "I", Cond.fieldLink RX1 47 "FloatMarket$Market" "loosened" "I", Cond.fieldLink RX1 50 "FloatMarket$Market" "drifted" "I", Cond.fieldLink RX1 17 "FloatMarket$Market" "rows" "[LFloatMarket$Row;", Cond.fieldLink RX1 24 "FloatMarket$Market" "canoes" "[LFloatMarket$Canoe;", Cond.methodLink RX1 53 yX2_copyFrom, Cond.instanceMethod yX2_copyFrom, Cond.selects RX2 yX2_copyFrom yX2_copyFrom, Cond.initialized RX2, Cond.code yX2_copyFrom cX2_copyFrom 2 none, Cond.fieldLink RX2 15 "FloatMarket$Row" "places" "I", Cond.fieldLink RX2 19 "FloatMarket$Row" "used" "I", Cond.fieldLink RX2 9 "FloatMarket$Row" "moored" "[I", Cond.methodLink RX2 22 arraycopyName, Cond.native arraycopyName, Cond.static arraycopyName, Cond.initialized "java/lang/System", Cond.methodLink RX1 57 yX0_copyFrom]
def wsX4_price_r3 : List Cond := [Cond.instanceMethod yX0_copyFrom, Cond.selects RX0 yX0_copyFrom yX0_copyFrom, Cond.initialized RX0, Cond.code yX0_copyFrom cX0_copyFrom 2 none, Cond.fieldLink RX0 43 "FloatMarket$Canoe" "coins" "I", Cond.fieldLink RX0 46 "FloatMarket$Canoe" "rope" "I", Cond.fieldLink RX0 28 "FloatMarket$Canoe" "status" "I", Cond.fieldLink RX0 31 "FloatMarket$Canoe" "row" "I", Cond.fieldLink RX0 34 "FloatMarket$Canoe" "place" "I", Cond.fieldLink RX0 37 "FloatMarket$Canoe" "leaveStep" "I", Cond.fieldLink RX0 49 "FloatMarket$Canoe" "loosened" "I", Cond.fieldLink RX0 52 "FloatMarket$Canoe" "drifted" "I", Cond.fieldLink RX0 40 "FloatMarket$Canoe" "lastDriftStep" "I", Cond.fieldLink RX0 55 "FloatMarket$Canoe" "sold" "I", Cond.fieldLink RX0 58 "FloatMarket$Canoe" "bought" "I", Cond.fieldLink RX0 15 "FloatMarket$Canoe" "has" "[I", Cond.methodLink RX0 61 arraycopyName, Cond.fieldLink RX0 19 "FloatMarket$Canoe" "asks" "[I", Cond.fieldLink RX0 22 "FloatMarket$Canoe" "wants" "[I", Cond.fieldLink RX0 25 "FloatMarket$Canoe" "pays" "[I", Cond.methodLink RX4 141 yX1_passSteps, Cond.instanceMethod yX1_passSteps, Cond.selects RX1 yX1_passSteps yX1_passSteps, Cond.code yX1_passSteps cX1_passSteps 3 none]
def wsX4_price_r4 : List Cond := [Cond.methodLink RX1 101 yX1_driftByRows, Cond.instanceMethod yX1_driftByRows, Cond.selects RX1 yX1_driftByRows yX1_driftByRows, Cond.code yX1_driftByRows cX1_driftByRows 4 none, Cond.fieldLink RX1 9 "FloatMarket$Market" "water" "LFloatMarket$Water;", Cond.fieldLink RX1 75 "FloatMarket$Row" "used" "I", Cond.fieldLink RX1 66 "FloatMarket$Canoe" "rope" "I", Cond.fieldLink RX1 117 "FloatMarket$Canoe" "lastDriftStep" "I", Cond.methodLink RX1 110 yX3_wakeIn, Cond.instanceMethod yX3_wakeIn, Cond.selects RX3 yX3_wakeIn yX3_wakeIn, Cond.initialized RX3, Cond.code yX3_wakeIn cX3_wakeIn 2 (some .int), Cond.fieldLink RX3 15 "FloatMarket$Water" "wakes" "[I", Cond.methodLink RX3 24 yJ9_floorMod_7cf53, Cond.static yJ9_floorMod_7cf53, Cond.initialized RJ9, Cond.code yJ9_floorMod_7cf53 cJ9_floorMod_7cf53 3 (some .int), Cond.methodLink RX1 113 yX1_canoeAt, Cond.instanceMethod yX1_canoeAt, Cond.selects RX1 yX1_canoeAt yX1_canoeAt, Cond.code yX1_canoeAt cX1_canoeAt 4 (some (.object "FloatMarket$Canoe")), Cond.methodLink RX1 185 yX2_canoeAt, Cond.instanceMethod yX2_canoeAt]
def wsX4_price_r5 : List Cond := [Cond.selects RX2 yX2_canoeAt yX2_canoeAt, Cond.code yX2_canoeAt cX2_canoeAt 2 (some .int), Cond.methodLink RX1 120 yX1_drift, Cond.instanceMethod yX1_drift, Cond.selects RX1 yX1_drift yX1_drift, Cond.code yX1_drift cX1_drift 4 none, Cond.fieldLink RX1 134 "FloatMarket$Canoe" "drifted" "I", Cond.methodLink RX1 124 yX1_unfasten, Cond.instanceMethod yX1_unfasten, Cond.selects RX1 yX1_unfasten yX1_unfasten, Cond.code yX1_unfasten cX1_unfasten 6 (some .int), Cond.fieldLink RX1 69 "FloatMarket$Canoe" "status" "I", Cond.fieldLink RX1 72 "FloatMarket$Canoe" "row" "I", Cond.fieldLink RX1 78 "FloatMarket$Canoe" "place" "I", Cond.fieldLink RX1 90 "FloatMarket$Row" "moored" "[I", Cond.fieldLink RX1 94 "FloatMarket$Canoe" "loosened" "I", Cond.methodLink RX1 87 yX2_closeGap, Cond.instanceMethod yX2_closeGap, Cond.selects RX2 yX2_closeGap yX2_closeGap, Cond.code yX2_closeGap cX2_closeGap 3 none, Cond.methodLink RX1 128 yX1_nextRowNotFull, Cond.instanceMethod yX1_nextRowNotFull, Cond.selects RX1 yX1_nextRowNotFull yX1_nextRowNotFull, Cond.code yX1_nextRowNotFull cX1_nextRowNotFull 4 (some .int)]
def wsX4_price_r6 : List Cond := [Cond.methodLink RX1 135 yX2_isFull, Cond.instanceMethod yX2_isFull, Cond.selects RX2 yX2_isFull yX2_isFull, Cond.code yX2_isFull cX2_isFull 1 (some .boolean), Cond.methodLink RX1 131 yX1_fasten, Cond.instanceMethod yX1_fasten, Cond.selects RX1 yX1_fasten yX1_fasten, Cond.code yX1_fasten cX1_fasten 3 none, Cond.fieldLink RX1 81 "FloatMarket$Canoe" "number" "I", Cond.methodLink RX1 84 yX2_append, Cond.instanceMethod yX2_append, Cond.selects RX2 yX2_append yX2_append, Cond.code yX2_append cX2_append 2 none, Cond.methodLink RX1 104 yX1_leaveByNumbers, Cond.instanceMethod yX1_leaveByNumbers, Cond.selects RX1 yX1_leaveByNumbers yX1_leaveByNumbers, Cond.code yX1_leaveByNumbers cX1_leaveByNumbers 3 none, Cond.methodLink RX1 139 yX0_isToLeaveBy, Cond.instanceMethod yX0_isToLeaveBy, Cond.selects RX0 yX0_isToLeaveBy yX0_isToLeaveBy, Cond.code yX0_isToLeaveBy cX0_isToLeaveBy 2 (some .boolean), Cond.methodLink RX1 143 yX1_liesDry, Cond.instanceMethod yX1_liesDry, Cond.selects RX1 yX1_liesDry yX1_liesDry]
def wsX4_price_r7 : List Cond := [Cond.code yX1_liesDry cX1_liesDry 2 (some .boolean), Cond.methodLink RX1 95 yX3_tideIn, Cond.instanceMethod yX3_tideIn, Cond.selects RX3 yX3_tideIn yX3_tideIn, Cond.code yX3_tideIn cX3_tideIn 2 (some .int), Cond.fieldLink RX3 9 "FloatMarket$Water" "tides" "[I", Cond.methodLink RX1 107 yX1_tradeByNumbers, Cond.instanceMethod yX1_tradeByNumbers, Cond.selects RX1 yX1_tradeByNumbers yX1_tradeByNumbers, Cond.code yX1_tradeByNumbers cX1_tradeByNumbers 4 none, Cond.methodLink RX1 147 yX0_misses, Cond.instanceMethod yX0_misses, Cond.selects RX0 yX0_misses yX0_misses, Cond.code yX0_misses cX0_misses 2 (some .int), Cond.methodLink RX0 67 Lib.Math.max.name, Cond.static Lib.Math.max.name, Cond.initialized "java/lang/Math", Cond.code Lib.Math.max.name Lib.Math.max.code 2 (some .int), Cond.methodLink RX1 150 yX1_cheapestSeller, Cond.instanceMethod yX1_cheapestSeller, Cond.selects RX1 yX1_cheapestSeller yX1_cheapestSeller, Cond.code yX1_cheapestSeller cX1_cheapestSeller 7 (some (.object "FloatMarket$Canoe")), Cond.fieldLink RX1 158 "FloatMarket$Canoe" "pays" "[I", Cond.fieldLink RX1 63 "FloatMarket$Canoe" "coins" "I"]
def wsX4_price_r8 : List Cond := [Cond.methodLink RX1 161 Lib.Math.min.name, Cond.static Lib.Math.min.name, Cond.code Lib.Math.min.name Lib.Math.min.code 2 (some .int), Cond.methodLink RX1 167 yX1_cheaper, Cond.instanceMethod yX1_cheaper, Cond.selects RX1 yX1_cheaper yX1_cheaper, Cond.code yX1_cheaper cX1_cheaper 6 (some (.object "FloatMarket$Canoe")), Cond.fieldLink RX1 175 "FloatMarket$Canoe" "asks" "[I", Cond.methodLink RX1 171 yX0_sells, Cond.instanceMethod yX0_sells, Cond.selects RX0 yX0_sells yX0_sells, Cond.code yX0_sells cX0_sells 3 (some .boolean), Cond.methodLink RX1 154 yX1_trade, Cond.instanceMethod yX1_trade, Cond.selects RX1 yX1_trade yX1_trade, Cond.code yX1_trade cX1_trade 5 none, Cond.fieldLink RX1 178 "FloatMarket$Canoe" "has" "[I", Cond.fieldLink RX1 181 "FloatMarket$Canoe" "sold" "I", Cond.fieldLink RX1 182 "FloatMarket$Canoe" "bought" "I"]
def wsX4_price : List Cond := .code yX4_price cX4_price 8 (some .int) :: ((wsX4_price_r1 ++ (wsX4_price_r2 ++ (wsX4_price_r3 ++ (wsX4_price_r4 ++ (wsX4_price_r5 ++ (wsX4_price_r6 ++ (wsX4_price_r7 ++ wsX4_price_r8))))))) ++ wsX40 ++ wsX10 ++ wsX00 ++ wsX20 ++ wsX30 ++ (vx_atS RX4 192 "java/lang/IndexOutOfBoundsException" ["java/lang/RuntimeException", "java/lang/Exception"]).filter goodWord ++ (vx_atS RX4 199 "java/lang/IllegalArgumentException" ["java/lang/RuntimeException", "java/lang/Exception"]).filter goodWord)
def wsX4_mean : List Cond := .code yX4_mean cX4_mean 1 (some .double) :: ([.fieldLink RX4 21 "FloatMarket" "now" "LFloatMarket$Market;", .fieldLink RX4 138 "FloatMarket$Market" "sold" "I", .fieldLink RX4 171 "FloatMarket$Market" "paid" "I"] ++ wsX40 ++ wsX10)
def wsX4_digest_r1 : List Cond := [Cond.constantLong RX4 174 (683), Cond.constantLong RX4 176 (31), Cond.fieldLink RX4 21 "FloatMarket" "now" "LFloatMarket$Market;", Cond.fieldLink RX4 10 "FloatMarket" "water" "LFloatMarket$Water;", Cond.fieldLink RX4 32 "FloatMarket$Market" "rowCount" "I", Cond.fieldLink RX4 89 "FloatMarket$Market" "rows" "[LFloatMarket$Row;", Cond.fieldLink RX4 58 "FloatMarket$Market" "canoeCount" "I", Cond.fieldLink RX4 65 "FloatMarket$Market" "canoes" "[LFloatMarket$Canoe;", Cond.methodLink RX4 145 yX1_figure, Cond.instanceMethod yX1_figure, Cond.selects RX1 yX1_figure yX1_figure, Cond.initialized RX1, Cond.code yX1_figure cX1_figure 2 (some .int), Cond.fieldLink RX1 38 "FloatMarket$Market" "step" "I", Cond.fieldLink RX1 31 "FloatMarket$Market" "rowCount" "I", Cond.fieldLink RX1 35 "FloatMarket$Market" "canoeCount" "I", Cond.fieldLink RX1 41 "FloatMarket$Market" "sold" "I", Cond.fieldLink RX1 44 "FloatMarket$Market" "paid" "I", Cond.fieldLink RX1 47 "FloatMarket$Market" "loosened" "I", Cond.fieldLink RX1 50 "FloatMarket$Market" "drifted" "I", Cond.methodLink RX1 187 yX1_canoesBeing, Cond.instanceMethod yX1_canoesBeing, Cond.selects RX1 yX1_canoesBeing yX1_canoesBeing, Cond.code yX1_canoesBeing cX1_canoesBeing 4 (some .int)]
def wsX4_digest_r2 : List Cond := [Cond.fieldLink RX1 24 "FloatMarket$Market" "canoes" "[LFloatMarket$Canoe;", Cond.fieldLink RX1 69 "FloatMarket$Canoe" "status" "I", Cond.methodLink RX1 190 yX1_coinsInAll, Cond.instanceMethod yX1_coinsInAll, Cond.selects RX1 yX1_coinsInAll yX1_coinsInAll, Cond.code yX1_coinsInAll cX1_coinsInAll 3 (some .int), Cond.fieldLink RX1 63 "FloatMarket$Canoe" "coins" "I", Cond.methodLink RX1 194 yX1_goodsInAll, Cond.instanceMethod yX1_goodsInAll, Cond.selects RX1 yX1_goodsInAll yX1_goodsInAll, Cond.code yX1_goodsInAll cX1_goodsInAll 3 (some .int), Cond.methodLink RX1 200 yX0_goodsInAll, Cond.instanceMethod yX0_goodsInAll, Cond.selects RX0 yX0_goodsInAll yX0_goodsInAll, Cond.initialized RX0, Cond.code yX0_goodsInAll cX0_goodsInAll 3 (some .int), Cond.fieldLink RX0 15 "FloatMarket$Canoe" "has" "[I", Cond.methodLink RX1 197 yX1_dryCanoes, Cond.instanceMethod yX1_dryCanoes, Cond.selects RX1 yX1_dryCanoes yX1_dryCanoes, Cond.code yX1_dryCanoes cX1_dryCanoes 3 (some .int), Cond.methodLink RX1 143 yX1_liesDry, Cond.instanceMethod yX1_liesDry, Cond.selects RX1 yX1_liesDry yX1_liesDry]
def wsX4_digest_r3 : List Cond := [Cond.code yX1_liesDry cX1_liesDry 2 (some .boolean), Cond.fieldLink RX1 78 "FloatMarket$Canoe" "place" "I", Cond.fieldLink RX1 9 "FloatMarket$Market" "water" "LFloatMarket$Water;", Cond.methodLink RX1 95 yX3_tideIn, Cond.instanceMethod yX3_tideIn, Cond.selects RX3 yX3_tideIn yX3_tideIn, Cond.initialized RX3, Cond.code yX3_tideIn cX3_tideIn 2 (some .int), Cond.fieldLink RX3 9 "FloatMarket$Water" "tides" "[I", Cond.methodLink RX3 24 yJ9_floorMod_7cf53, Cond.static yJ9_floorMod_7cf53, Cond.initialized RJ9, Cond.code yJ9_floorMod_7cf53 cJ9_floorMod_7cf53 3 (some .int), Cond.methodLink RX4 48 yX3_entry, Cond.instanceMethod yX3_entry, Cond.selects RX3 yX3_entry yX3_entry, Cond.code yX3_entry cX3_entry 2 (some .int), Cond.methodLink RX3 30 yX3_tideIn, Cond.methodLink RX3 34 yX3_wakeIn, Cond.instanceMethod yX3_wakeIn, Cond.selects RX3 yX3_wakeIn yX3_wakeIn, Cond.code yX3_wakeIn cX3_wakeIn 2 (some .int), Cond.fieldLink RX3 15 "FloatMarket$Water" "wakes" "[I", Cond.methodLink RX4 178 yX2_addTo]
def wsX4_digest_r4 : List Cond := [Cond.instanceMethod yX2_addTo, Cond.selects RX2 yX2_addTo yX2_addTo, Cond.initialized RX2, Cond.code yX2_addTo cX2_addTo 6 (some .long), Cond.constantLong RX2 28 (31), Cond.fieldLink RX2 15 "FloatMarket$Row" "places" "I", Cond.methodLink RX2 30 yX2_canoeAt, Cond.instanceMethod yX2_canoeAt, Cond.selects RX2 yX2_canoeAt yX2_canoeAt, Cond.code yX2_canoeAt cX2_canoeAt 2 (some .int), Cond.fieldLink RX2 19 "FloatMarket$Row" "used" "I", Cond.fieldLink RX2 9 "FloatMarket$Row" "moored" "[I", Cond.methodLink RX4 182 yX0_addTo, Cond.instanceMethod yX0_addTo, Cond.selects RX0 yX0_addTo yX0_addTo, Cond.code yX0_addTo cX0_addTo 7 (some .long), Cond.constantLong RX0 84 (31), Cond.methodLink RX0 86 yX0_figure, Cond.instanceMethod yX0_figure, Cond.selects RX0 yX0_figure yX0_figure, Cond.code yX0_figure cX0_figure 2 (some .int), Cond.fieldLink RX0 43 "FloatMarket$Canoe" "coins" "I", Cond.fieldLink RX0 46 "FloatMarket$Canoe" "rope" "I", Cond.fieldLink RX0 28 "FloatMarket$Canoe" "status" "I"]
def wsX4_digest_r5 : List Cond := [Cond.fieldLink RX0 31 "FloatMarket$Canoe" "row" "I", Cond.fieldLink RX0 34 "FloatMarket$Canoe" "place" "I", Cond.fieldLink RX0 37 "FloatMarket$Canoe" "leaveStep" "I", Cond.fieldLink RX0 49 "FloatMarket$Canoe" "loosened" "I", Cond.fieldLink RX0 52 "FloatMarket$Canoe" "drifted" "I", Cond.fieldLink RX0 55 "FloatMarket$Canoe" "sold" "I", Cond.fieldLink RX0 58 "FloatMarket$Canoe" "bought" "I", Cond.methodLink RX0 80 yX0_missesInAll, Cond.instanceMethod yX0_missesInAll, Cond.selects RX0 yX0_missesInAll yX0_missesInAll, Cond.code yX0_missesInAll cX0_missesInAll 3 (some .int), Cond.methodLink RX0 73 yX0_misses, Cond.instanceMethod yX0_misses, Cond.selects RX0 yX0_misses yX0_misses, Cond.code yX0_misses cX0_misses 2 (some .int), Cond.fieldLink RX0 22 "FloatMarket$Canoe" "wants" "[I", Cond.methodLink RX0 67 Lib.Math.max.name, Cond.static Lib.Math.max.name, Cond.initialized "java/lang/Math", Cond.code Lib.Math.max.name Lib.Math.max.code 2 (some .int), Cond.methodLink RX0 89 yX0_goodFigure, Cond.instanceMethod yX0_goodFigure, Cond.selects RX0 yX0_goodFigure yX0_goodFigure, Cond.code yX0_goodFigure cX0_goodFigure 3 (some .int)]
def wsX4_digest_r6 : List Cond := [Cond.fieldLink RX0 19 "FloatMarket$Canoe" "asks" "[I", Cond.fieldLink RX0 25 "FloatMarket$Canoe" "pays" "[I"]
def wsX4_digest : List Cond := .code yX4_digest cX4_digest 4 (some .long) :: ((wsX4_digest_r1 ++ (wsX4_digest_r2 ++ (wsX4_digest_r3 ++ (wsX4_digest_r4 ++ (wsX4_digest_r5 ++ wsX4_digest_r6))))) ++ wsX40 ++ wsX10 ++ wsX00 ++ wsX30 ++ wsX20)
def wsX5_init : List Cond := .code yX5_init cX5_init 2 none :: ([.fieldLink RX5 3 "FloatMarketModel$State" "this$0" "LFloatMarketModel;", .methodLink RX5 9 objectInit, .instanceMethod objectInit, .code objectInit ⟨#[0xb1]⟩ 1 none, .arrayClass .int, .fieldLink RX5 15 "FloatMarketModel$State" "coins" "[I", .fieldLink RX5 19 "FloatMarketModel$State" "has" "[I", .fieldLink RX5 22 "FloatMarketModel$State" "is" "[I", .fieldLink RX5 25 "FloatMarketModel$State" "row" "[I", .fieldLink RX5 28 "FloatMarketModel$State" "place" "[I", .fieldLink RX5 31 "FloatMarketModel$State" "leaves" "[I", .fieldLink RX5 34 "FloatMarketModel$State" "loosened" "[I", .fieldLink RX5 37 "FloatMarketModel$State" "drifted" "[I", .fieldLink RX5 40 "FloatMarketModel$State" "sold" "[I", .fieldLink RX5 43 "FloatMarketModel$State" "bought" "[I"] ++ wsX50)
def wsX5_copy : List Cond := .code yX5_copy cX5_copy 3 none :: ([.methodLink RX5 46 arraycopyName, .native arraycopyName, .static arraycopyName, .initialized "java/lang/System"])
def wsX5_become : List Cond := .code yX5_become cX5_become 2 none :: ([.fieldLink RX5 52 "FloatMarketModel$State" "step" "I", .fieldLink RX5 56 "FloatMarketModel$State" "sum" "I", .fieldLink RX5 59 "FloatMarketModel$State" "coinsPaid" "I", .fieldLink RX5 15 "FloatMarketModel$State" "coins" "[I", .fieldLink RX5 19 "FloatMarketModel$State" "has" "[I", .fieldLink RX5 22 "FloatMarketModel$State" "is" "[I", .fieldLink RX5 25 "FloatMarketModel$State" "row" "[I", .fieldLink RX5 28 "FloatMarketModel$State" "place" "[I", .fieldLink RX5 31 "FloatMarketModel$State" "leaves" "[I", .fieldLink RX5 34 "FloatMarketModel$State" "loosened" "[I", .fieldLink RX5 37 "FloatMarketModel$State" "drifted" "[I", .fieldLink RX5 40 "FloatMarketModel$State" "sold" "[I", .fieldLink RX5 43 "FloatMarketModel$State" "bought" "[I", .methodLink RX5 62 yX5_copy, .instanceMethod yX5_copy, .selects RX5 yX5_copy yX5_copy, .initialized RX5, .code yX5_copy cX5_copy 3 none, .methodLink RX5 46 arraycopyName, .native arraycopyName, .static arraycopyName, .initialized "java/lang/System"] ++ wsX50)
def wsX5_at : List Cond := .code yX5_at cX5_at 4 (some .int) :: ([.fieldLink RX5 3 "FloatMarketModel$State" "this$0" "LFloatMarketModel;", .fieldLink RX5 22 "FloatMarketModel$State" "is" "[I", .fieldLink RX5 25 "FloatMarketModel$State" "row" "[I", .fieldLink RX5 28 "FloatMarketModel$State" "place" "[I"] ++ wsX50 ++ wsX60)
def wsX5_in : List Cond := .code yX5_in cX5_in 4 (some .int) :: ([.fieldLink RX5 3 "FloatMarketModel$State" "this$0" "LFloatMarketModel;", .fieldLink RX5 22 "FloatMarketModel$State" "is" "[I", .fieldLink RX5 25 "FloatMarketModel$State" "row" "[I"] ++ wsX50 ++ wsX60)
def wsX5_isFull : List Cond := .code yX5_isFull cX5_isFull 2 (some .boolean) :: ([.fieldLink RX5 3 "FloatMarketModel$State" "this$0" "LFloatMarketModel;", .methodLink RX5 69 yX5_in, .instanceMethod yX5_in, .selects RX5 yX5_in yX5_in, .initialized RX5, .code yX5_in cX5_in 4 (some .int), .fieldLink RX5 22 "FloatMarketModel$State" "is" "[I", .fieldLink RX5 25 "FloatMarketModel$State" "row" "[I"] ++ wsX50 ++ wsX60)
def wsX5_isDry : List Cond := .code yX5_isDry cX5_isDry 2 (some .boolean) :: ([.fieldLink RX5 28 "FloatMarketModel$State" "place" "[I", .fieldLink RX5 3 "FloatMarketModel$State" "this$0" "LFloatMarketModel;", .fieldLink RX5 52 "FloatMarketModel$State" "step" "I"] ++ wsX50 ++ wsX60)
def wsX5_moor : List Cond := .code yX5_moor cX5_moor 3 none :: ([.fieldLink RX5 28 "FloatMarketModel$State" "place" "[I", .fieldLink RX5 25 "FloatMarketModel$State" "row" "[I", .fieldLink RX5 22 "FloatMarketModel$State" "is" "[I", .methodLink RX5 69 yX5_in, .instanceMethod yX5_in, .selects RX5 yX5_in yX5_in, .initialized RX5, .code yX5_in cX5_in 4 (some .int), .fieldLink RX5 3 "FloatMarketModel$State" "this$0" "LFloatMarketModel;"] ++ wsX50 ++ wsX60)
def wsX5_castOff : List Cond := .code yX5_castOff cX5_castOff 4 (some .int) :: ([.fieldLink RX5 22 "FloatMarketModel$State" "is" "[I", .fieldLink RX5 3 "FloatMarketModel$State" "this$0" "LFloatMarketModel;", .fieldLink RX5 25 "FloatMarketModel$State" "row" "[I", .fieldLink RX5 28 "FloatMarketModel$State" "place" "[I", .fieldLink RX5 34 "FloatMarketModel$State" "loosened" "[I"] ++ wsX50 ++ wsX60)
def wsX5_beside : List Cond := .code yX5_beside cX5_beside 3 (some .boolean) :: ([.fieldLink RX5 22 "FloatMarketModel$State" "is" "[I", .fieldLink RX5 25 "FloatMarketModel$State" "row" "[I", .methodLink RX5 79 Lib.Math.abs.name, .static Lib.Math.abs.name, .initialized "java/lang/Math", .code Lib.Math.abs.name Lib.Math.abs.code 1 (some .int), .fieldLink RX5 28 "FloatMarketModel$State" "place" "[I"] ++ wsX50)
def wsX5_misses : List Cond := .code yX5_misses cX5_misses 3 (some .int) :: ([.fieldLink RX5 3 "FloatMarketModel$State" "this$0" "LFloatMarketModel;", .fieldLink RX5 19 "FloatMarketModel$State" "has" "[I", .methodLink RX5 87 Lib.Math.max.name, .static Lib.Math.max.name, .initialized "java/lang/Math", .code Lib.Math.max.name Lib.Math.max.code 2 (some .int)] ++ wsX50 ++ wsX60)
def wsX5_misses_ : List Cond := .code yX5_misses_ cX5_misses_ 4 (some .int) :: ([.methodLink RX5 91 yX5_misses, .instanceMethod yX5_misses, .selects RX5 yX5_misses yX5_misses, .initialized RX5, .code yX5_misses cX5_misses 3 (some .int), .fieldLink RX5 3 "FloatMarketModel$State" "this$0" "LFloatMarketModel;", .fieldLink RX5 19 "FloatMarketModel$State" "has" "[I", .methodLink RX5 87 Lib.Math.max.name, .static Lib.Math.max.name, .initialized "java/lang/Math", .code Lib.Math.max.name Lib.Math.max.code 2 (some .int)] ++ wsX50 ++ wsX60)
def wsX5_drift : List Cond := .code yX5_drift cX5_drift 5 none :: ([.fieldLink RX5 3 "FloatMarketModel$State" "this$0" "LFloatMarketModel;", .fieldLink RX5 52 "FloatMarketModel$State" "step" "I", .fieldLink RX5 37 "FloatMarketModel$State" "drifted" "[I", .fieldLink RX5 22 "FloatMarketModel$State" "is" "[I", .methodLink RX5 69 yX5_in, .instanceMethod yX5_in, .selects RX5 yX5_in yX5_in, .initialized RX5, .code yX5_in cX5_in 4 (some .int), .fieldLink RX5 25 "FloatMarketModel$State" "row" "[I", .methodLink RX5 94 yX5_at, .instanceMethod yX5_at, .selects RX5 yX5_at yX5_at, .code yX5_at cX5_at 4 (some .int), .fieldLink RX5 28 "FloatMarketModel$State" "place" "[I", .methodLink RX5 106 yX5_isFull, .instanceMethod yX5_isFull, .selects RX5 yX5_isFull yX5_isFull, .code yX5_isFull cX5_isFull 2 (some .boolean), .methodLink RX5 110 yX5_moor, .instanceMethod yX5_moor, .selects RX5 yX5_moor yX5_moor, .code yX5_moor cX5_moor 3 none] ++ wsX50 ++ wsX60)
def wsX5_trade_r1 : List Cond := [Cond.fieldLink RX5 3 "FloatMarketModel$State" "this$0" "LFloatMarketModel;", Cond.fieldLink RX5 15 "FloatMarketModel$State" "coins" "[I", Cond.fieldLink RX5 19 "FloatMarketModel$State" "has" "[I", Cond.fieldLink RX5 43 "FloatMarketModel$State" "bought" "[I", Cond.fieldLink RX5 40 "FloatMarketModel$State" "sold" "[I", Cond.fieldLink RX5 56 "FloatMarketModel$State" "sum" "I", Cond.fieldLink RX5 59 "FloatMarketModel$State" "coinsPaid" "I", Cond.methodLink RX5 91 yX5_misses, Cond.instanceMethod yX5_misses, Cond.selects RX5 yX5_misses yX5_misses, Cond.initialized RX5, Cond.code yX5_misses cX5_misses 3 (some .int), Cond.methodLink RX5 87 Lib.Math.max.name, Cond.static Lib.Math.max.name, Cond.initialized "java/lang/Math", Cond.code Lib.Math.max.name Lib.Math.max.code 2 (some .int), Cond.methodLink RX5 114 yX5_beside, Cond.instanceMethod yX5_beside, Cond.selects RX5 yX5_beside yX5_beside, Cond.code yX5_beside cX5_beside 3 (some .boolean), Cond.fieldLink RX5 22 "FloatMarketModel$State" "is" "[I", Cond.fieldLink RX5 25 "FloatMarketModel$State" "row" "[I", Cond.methodLink RX5 79 Lib.Math.abs.name, Cond.static Lib.Math.abs.name]
def wsX5_trade_r2 : List Cond := [Cond.code Lib.Math.abs.name Lib.Math.abs.code 1 (some .int), Cond.fieldLink RX5 28 "FloatMarketModel$State" "place" "[I"]
def wsX5_trade : List Cond := .code yX5_trade cX5_trade 6 none :: ((wsX5_trade_r1 ++ wsX5_trade_r2) ++ wsX50 ++ wsX60)
def wsX5_pass_r1 : List Cond := [Cond.fieldLink RX5 56 "FloatMarketModel$State" "sum" "I", Cond.fieldLink RX5 3 "FloatMarketModel$State" "this$0" "LFloatMarketModel;", Cond.fieldLink RX5 22 "FloatMarketModel$State" "is" "[I", Cond.fieldLink RX5 31 "FloatMarketModel$State" "leaves" "[I", Cond.fieldLink RX5 52 "FloatMarketModel$State" "step" "I", Cond.methodLink RX5 124 yX5_drift, Cond.instanceMethod yX5_drift, Cond.selects RX5 yX5_drift yX5_drift, Cond.initialized RX5, Cond.code yX5_drift cX5_drift 5 none, Cond.fieldLink RX5 37 "FloatMarketModel$State" "drifted" "[I", Cond.methodLink RX5 69 yX5_in, Cond.instanceMethod yX5_in, Cond.selects RX5 yX5_in yX5_in, Cond.code yX5_in cX5_in 4 (some .int), Cond.fieldLink RX5 25 "FloatMarketModel$State" "row" "[I", Cond.methodLink RX5 94 yX5_at, Cond.instanceMethod yX5_at, Cond.selects RX5 yX5_at yX5_at, Cond.code yX5_at cX5_at 4 (some .int), Cond.fieldLink RX5 28 "FloatMarketModel$State" "place" "[I", Cond.methodLink RX5 106 yX5_isFull, Cond.instanceMethod yX5_isFull, Cond.selects RX5 yX5_isFull yX5_isFull]
def wsX5_pass_r2 : List Cond := [Cond.code yX5_isFull cX5_isFull 2 (some .boolean), Cond.methodLink RX5 110 yX5_moor, Cond.instanceMethod yX5_moor, Cond.selects RX5 yX5_moor yX5_moor, Cond.code yX5_moor cX5_moor 3 none, Cond.methodLink RX5 128 yX5_isDry, Cond.instanceMethod yX5_isDry, Cond.selects RX5 yX5_isDry yX5_isDry, Cond.code yX5_isDry cX5_isDry 2 (some .boolean), Cond.methodLink RX5 131 yX5_castOff, Cond.instanceMethod yX5_castOff, Cond.selects RX5 yX5_castOff yX5_castOff, Cond.code yX5_castOff cX5_castOff 4 (some .int), Cond.fieldLink RX5 34 "FloatMarketModel$State" "loosened" "[I", Cond.methodLink RX5 134 yX5_trade, Cond.instanceMethod yX5_trade, Cond.selects RX5 yX5_trade yX5_trade, Cond.code yX5_trade cX5_trade 6 none, Cond.fieldLink RX5 15 "FloatMarketModel$State" "coins" "[I", Cond.fieldLink RX5 19 "FloatMarketModel$State" "has" "[I", Cond.fieldLink RX5 43 "FloatMarketModel$State" "bought" "[I", Cond.fieldLink RX5 40 "FloatMarketModel$State" "sold" "[I", Cond.fieldLink RX5 59 "FloatMarketModel$State" "coinsPaid" "I", Cond.methodLink RX5 91 yX5_misses]
def wsX5_pass_r3 : List Cond := [Cond.instanceMethod yX5_misses, Cond.selects RX5 yX5_misses yX5_misses, Cond.code yX5_misses cX5_misses 3 (some .int), Cond.methodLink RX5 87 Lib.Math.max.name, Cond.static Lib.Math.max.name, Cond.initialized "java/lang/Math", Cond.code Lib.Math.max.name Lib.Math.max.code 2 (some .int), Cond.methodLink RX5 114 yX5_beside, Cond.instanceMethod yX5_beside, Cond.selects RX5 yX5_beside yX5_beside, Cond.code yX5_beside cX5_beside 3 (some .boolean), Cond.methodLink RX5 79 Lib.Math.abs.name, Cond.static Lib.Math.abs.name, Cond.code Lib.Math.abs.name Lib.Math.abs.code 1 (some .int)]
def wsX5_pass : List Cond := .code yX5_pass cX5_pass 5 (some .int) :: ((wsX5_pass_r1 ++ (wsX5_pass_r2 ++ wsX5_pass_r3)) ++ wsX50 ++ wsX60)
def wsX5_all : List Cond := .code yX5_all cX5_all 7 (some .int) :: ([])
def wsX5_being : List Cond := .code yX5_being cX5_being 4 (some .int) :: ([.fieldLink RX5 3 "FloatMarketModel$State" "this$0" "LFloatMarketModel;", .fieldLink RX5 22 "FloatMarketModel$State" "is" "[I"] ++ wsX50 ++ wsX60)
def wsX6_init_r1 : List Cond := [Cond.methodLink RX6 1 objectInit, Cond.instanceMethod objectInit, Cond.code objectInit ⟨#[0xb1]⟩ 1 none, Cond.arrayClass .int, Cond.fieldLink RX6 9 "FloatMarketModel" "places" "[I", Cond.fieldLink RX6 13 "FloatMarketModel" "tide" "[I", Cond.fieldLink RX6 16 "FloatMarketModel" "wake" "[I", Cond.fieldLink RX6 19 "FloatMarketModel" "rope" "[I", Cond.fieldLink RX6 22 "FloatMarketModel" "price" "[I", Cond.fieldLink RX6 25 "FloatMarketModel" "wants" "[I", Cond.fieldLink RX6 28 "FloatMarketModel" "pays" "[I", Cond.classLink RX6 31 RX5, Cond.instantiable RX5 14, Cond.initialized RX5, Cond.fieldLink RX6 36 "FloatMarketModel" "s" "LFloatMarketModel$State;", Cond.fieldLink RX6 40 "FloatMarketModel" "ahead" "LFloatMarketModel$State;", Cond.arrayClass .boolean, Cond.fieldLink RX6 43 "FloatMarketModel" "did" "[Z", Cond.instanceMethod yX5_init, Cond.code yX5_init cX5_init 2 none, Cond.fieldLink RX5 3 "FloatMarketModel$State" "this$0" "LFloatMarketModel;", Cond.methodLink RX5 9 objectInit, Cond.fieldLink RX5 15 "FloatMarketModel$State" "coins" "[I", Cond.fieldLink RX5 19 "FloatMarketModel$State" "has" "[I"]
def wsX6_init_r2 : List Cond := [Cond.fieldLink RX5 22 "FloatMarketModel$State" "is" "[I", Cond.fieldLink RX5 25 "FloatMarketModel$State" "row" "[I", Cond.fieldLink RX5 28 "FloatMarketModel$State" "place" "[I", Cond.fieldLink RX5 31 "FloatMarketModel$State" "leaves" "[I", Cond.fieldLink RX5 34 "FloatMarketModel$State" "loosened" "[I", Cond.fieldLink RX5 37 "FloatMarketModel$State" "drifted" "[I", Cond.fieldLink RX5 40 "FloatMarketModel$State" "sold" "[I", Cond.fieldLink RX5 43 "FloatMarketModel$State" "bought" "[I"]
def wsX6_init : List Cond := .code yX6_init cX6_init 2 none :: ((wsX6_init_r1 ++ wsX6_init_r2) ++ wsX60 ++ wsX50)
def wsX6_thrown : List Cond := .code yX6_thrown cX6_thrown 1 (some .int) :: ([.fieldLink RX6 47 "FloatMarketModel" "thrown" "I"] ++ wsX60)
def wsX6_no : List Cond := .code yX6_no cX6_no 2 (some .int) :: ([.fieldLink RX6 47 "FloatMarketModel" "thrown" "I"] ++ wsX60)
def wsX6_isIn : List Cond := .code yX6_isIn cX6_isIn 3 (some .boolean) :: ([])
def wsX6_isCanoe : List Cond := .code yX6_isCanoe cX6_isCanoe 2 (some .boolean) :: ([.fieldLink RX6 51 "FloatMarketModel" "canoes" "I", .methodLink RX6 54 yX6_isIn, .static yX6_isIn, .initialized RX6, .code yX6_isIn cX6_isIn 3 (some .boolean)] ++ wsX60)
def wsX6_isRow : List Cond := .code yX6_isRow cX6_isRow 2 (some .boolean) :: ([.fieldLink RX6 58 "FloatMarketModel" "rows" "I", .methodLink RX6 54 yX6_isIn, .static yX6_isIn, .initialized RX6, .code yX6_isIn cX6_isIn 3 (some .boolean)] ++ wsX60)
def wsX6_isGood : List Cond := .code yX6_isGood cX6_isGood 1 (some .boolean) :: ([.methodLink RX6 54 yX6_isIn, .static yX6_isIn, .initialized RX6, .code yX6_isIn cX6_isIn 3 (some .boolean)])
def wsX6_pass_r1 : List Cond := [Cond.fieldLink RX6 43 "FloatMarketModel" "did" "[Z", Cond.methodLink RX6 61 yX5_pass, Cond.instanceMethod yX5_pass, Cond.selects RX5 yX5_pass yX5_pass, Cond.initialized RX5, Cond.code yX5_pass cX5_pass 5 (some .int), Cond.fieldLink RX5 56 "FloatMarketModel$State" "sum" "I", Cond.fieldLink RX5 3 "FloatMarketModel$State" "this$0" "LFloatMarketModel;", Cond.fieldLink RX5 22 "FloatMarketModel$State" "is" "[I", Cond.fieldLink RX5 31 "FloatMarketModel$State" "leaves" "[I", Cond.fieldLink RX5 52 "FloatMarketModel$State" "step" "I", Cond.methodLink RX5 124 yX5_drift, Cond.instanceMethod yX5_drift, Cond.selects RX5 yX5_drift yX5_drift, Cond.code yX5_drift cX5_drift 5 none, Cond.fieldLink RX5 37 "FloatMarketModel$State" "drifted" "[I", Cond.methodLink RX5 69 yX5_in, Cond.instanceMethod yX5_in, Cond.selects RX5 yX5_in yX5_in, Cond.code yX5_in cX5_in 4 (some .int), Cond.fieldLink RX5 25 "FloatMarketModel$State" "row" "[I", Cond.methodLink RX5 94 yX5_at, Cond.instanceMethod yX5_at, Cond.selects RX5 yX5_at yX5_at]
def wsX6_pass_r2 : List Cond := [Cond.code yX5_at cX5_at 4 (some .int), Cond.fieldLink RX5 28 "FloatMarketModel$State" "place" "[I", Cond.methodLink RX5 106 yX5_isFull, Cond.instanceMethod yX5_isFull, Cond.selects RX5 yX5_isFull yX5_isFull, Cond.code yX5_isFull cX5_isFull 2 (some .boolean), Cond.methodLink RX5 110 yX5_moor, Cond.instanceMethod yX5_moor, Cond.selects RX5 yX5_moor yX5_moor, Cond.code yX5_moor cX5_moor 3 none, Cond.methodLink RX5 128 yX5_isDry, Cond.instanceMethod yX5_isDry, Cond.selects RX5 yX5_isDry yX5_isDry, Cond.code yX5_isDry cX5_isDry 2 (some .boolean), Cond.methodLink RX5 131 yX5_castOff, Cond.instanceMethod yX5_castOff, Cond.selects RX5 yX5_castOff yX5_castOff, Cond.code yX5_castOff cX5_castOff 4 (some .int), Cond.fieldLink RX5 34 "FloatMarketModel$State" "loosened" "[I", Cond.methodLink RX5 134 yX5_trade, Cond.instanceMethod yX5_trade, Cond.selects RX5 yX5_trade yX5_trade, Cond.code yX5_trade cX5_trade 6 none, Cond.fieldLink RX5 15 "FloatMarketModel$State" "coins" "[I"]
def wsX6_pass_r3 : List Cond := [Cond.fieldLink RX5 19 "FloatMarketModel$State" "has" "[I", Cond.fieldLink RX5 43 "FloatMarketModel$State" "bought" "[I", Cond.fieldLink RX5 40 "FloatMarketModel$State" "sold" "[I", Cond.fieldLink RX5 59 "FloatMarketModel$State" "coinsPaid" "I", Cond.methodLink RX5 91 yX5_misses, Cond.instanceMethod yX5_misses, Cond.selects RX5 yX5_misses yX5_misses, Cond.code yX5_misses cX5_misses 3 (some .int), Cond.methodLink RX5 87 Lib.Math.max.name, Cond.static Lib.Math.max.name, Cond.initialized "java/lang/Math", Cond.code Lib.Math.max.name Lib.Math.max.code 2 (some .int), Cond.methodLink RX5 114 yX5_beside, Cond.instanceMethod yX5_beside, Cond.selects RX5 yX5_beside yX5_beside, Cond.code yX5_beside cX5_beside 3 (some .boolean), Cond.methodLink RX5 79 Lib.Math.abs.name, Cond.static Lib.Math.abs.name, Cond.code Lib.Math.abs.name Lib.Math.abs.code 1 (some .int)]
def wsX6_pass : List Cond := .code yX6_pass cX6_pass 5 (some .int) :: ((wsX6_pass_r1 ++ (wsX6_pass_r2 ++ wsX6_pass_r3)) ++ wsX60 ++ wsX50)
def wsX6_addRow : List Cond := .code yX6_addRow cX6_addRow 2 (some .int) :: ([.fieldLink RX6 47 "FloatMarketModel" "thrown" "I", .fieldLink RX6 58 "FloatMarketModel" "rows" "I", .fieldLink RX6 9 "FloatMarketModel" "places" "[I", .methodLink RX6 54 yX6_isIn, .static yX6_isIn, .initialized RX6, .code yX6_isIn cX6_isIn 3 (some .boolean), .methodLink RX6 65 yX6_no, .instanceMethod yX6_no, .selects RX6 yX6_no yX6_no, .code yX6_no cX6_no 2 (some .int)] ++ wsX60)
def wsX6_setWater : List Cond := .code yX6_setWater cX6_setWater 5 (some .int) :: ([.fieldLink RX6 47 "FloatMarketModel" "thrown" "I", .fieldLink RX6 13 "FloatMarketModel" "tide" "[I", .fieldLink RX6 16 "FloatMarketModel" "wake" "[I", .methodLink RX6 54 yX6_isIn, .static yX6_isIn, .initialized RX6, .code yX6_isIn cX6_isIn 3 (some .boolean), .methodLink RX6 65 yX6_no, .instanceMethod yX6_no, .selects RX6 yX6_no yX6_no, .code yX6_no cX6_no 2 (some .int)] ++ wsX60)
def wsX6_addCanoe : List Cond := .code yX6_addCanoe cX6_addCanoe 3 (some .int) :: ([.fieldLink RX6 47 "FloatMarketModel" "thrown" "I", .fieldLink RX6 51 "FloatMarketModel" "canoes" "I", .fieldLink RX6 36 "FloatMarketModel" "s" "LFloatMarketModel$State;", .fieldLink RX6 19 "FloatMarketModel" "rope" "[I", .methodLink RX6 54 yX6_isIn, .static yX6_isIn, .initialized RX6, .code yX6_isIn cX6_isIn 3 (some .boolean), .methodLink RX6 65 yX6_no, .instanceMethod yX6_no, .selects RX6 yX6_no yX6_no, .code yX6_no cX6_no 2 (some .int)] ++ wsX60 ++ wsX50)
def wsX6_load : List Cond := .code yX6_load cX6_load 5 (some .int) :: ([.fieldLink RX6 47 "FloatMarketModel" "thrown" "I", .fieldLink RX6 36 "FloatMarketModel" "s" "LFloatMarketModel$State;", .methodLink RX6 75 yX6_isCanoe, .instanceMethod yX6_isCanoe, .selects RX6 yX6_isCanoe yX6_isCanoe, .initialized RX6, .code yX6_isCanoe cX6_isCanoe 2 (some .boolean), .fieldLink RX6 51 "FloatMarketModel" "canoes" "I", .methodLink RX6 54 yX6_isIn, .static yX6_isIn, .code yX6_isIn cX6_isIn 3 (some .boolean), .methodLink RX6 79 yX6_isGood, .static yX6_isGood, .code yX6_isGood cX6_isGood 1 (some .boolean), .methodLink RX6 65 yX6_no, .instanceMethod yX6_no, .selects RX6 yX6_no yX6_no, .code yX6_no cX6_no 2 (some .int)] ++ wsX60 ++ wsX50)
def wsX6_offer_r1 : List Cond := [Cond.fieldLink RX6 47 "FloatMarketModel" "thrown" "I", Cond.fieldLink RX6 22 "FloatMarketModel" "price" "[I", Cond.fieldLink RX6 25 "FloatMarketModel" "wants" "[I", Cond.fieldLink RX6 28 "FloatMarketModel" "pays" "[I", Cond.fieldLink RX6 36 "FloatMarketModel" "s" "LFloatMarketModel$State;", Cond.methodLink RX6 75 yX6_isCanoe, Cond.instanceMethod yX6_isCanoe, Cond.selects RX6 yX6_isCanoe yX6_isCanoe, Cond.initialized RX6, Cond.code yX6_isCanoe cX6_isCanoe 2 (some .boolean), Cond.fieldLink RX6 51 "FloatMarketModel" "canoes" "I", Cond.methodLink RX6 54 yX6_isIn, Cond.static yX6_isIn, Cond.code yX6_isIn cX6_isIn 3 (some .boolean), Cond.methodLink RX6 79 yX6_isGood, Cond.static yX6_isGood, Cond.code yX6_isGood cX6_isGood 1 (some .boolean), Cond.methodLink RX6 65 yX6_no, Cond.instanceMethod yX6_no, Cond.selects RX6 yX6_no yX6_no, Cond.code yX6_no cX6_no 2 (some .int), Cond.methodLink RX6 88 yX5_misses, Cond.instanceMethod yX5_misses, Cond.selects RX5 yX5_misses yX5_misses]
def wsX6_offer_r2 : List Cond := [Cond.initialized RX5, Cond.code yX5_misses cX5_misses 3 (some .int), Cond.fieldLink RX5 3 "FloatMarketModel$State" "this$0" "LFloatMarketModel;", Cond.fieldLink RX5 19 "FloatMarketModel$State" "has" "[I", Cond.methodLink RX5 87 Lib.Math.max.name, Cond.static Lib.Math.max.name, Cond.initialized "java/lang/Math", Cond.code Lib.Math.max.name Lib.Math.max.code 2 (some .int)]
def wsX6_offer : List Cond := .code yX6_offer cX6_offer 7 (some .int) :: ((wsX6_offer_r1 ++ wsX6_offer_r2) ++ wsX60 ++ wsX50)
def wsX6_moor_r1 : List Cond := [Cond.fieldLink RX6 47 "FloatMarketModel" "thrown" "I", Cond.fieldLink RX6 36 "FloatMarketModel" "s" "LFloatMarketModel$State;", Cond.methodLink RX6 75 yX6_isCanoe, Cond.instanceMethod yX6_isCanoe, Cond.selects RX6 yX6_isCanoe yX6_isCanoe, Cond.initialized RX6, Cond.code yX6_isCanoe cX6_isCanoe 2 (some .boolean), Cond.fieldLink RX6 51 "FloatMarketModel" "canoes" "I", Cond.methodLink RX6 54 yX6_isIn, Cond.static yX6_isIn, Cond.code yX6_isIn cX6_isIn 3 (some .boolean), Cond.methodLink RX6 92 yX6_isRow, Cond.instanceMethod yX6_isRow, Cond.selects RX6 yX6_isRow yX6_isRow, Cond.code yX6_isRow cX6_isRow 2 (some .boolean), Cond.fieldLink RX6 58 "FloatMarketModel" "rows" "I", Cond.methodLink RX6 65 yX6_no, Cond.instanceMethod yX6_no, Cond.selects RX6 yX6_no yX6_no, Cond.code yX6_no cX6_no 2 (some .int), Cond.methodLink RX6 95 yX5_isFull, Cond.instanceMethod yX5_isFull, Cond.selects RX5 yX5_isFull yX5_isFull, Cond.initialized RX5]
def wsX6_moor_r2 : List Cond := [Cond.code yX5_isFull cX5_isFull 2 (some .boolean), Cond.fieldLink RX5 3 "FloatMarketModel$State" "this$0" "LFloatMarketModel;", Cond.methodLink RX5 69 yX5_in, Cond.instanceMethod yX5_in, Cond.selects RX5 yX5_in yX5_in, Cond.code yX5_in cX5_in 4 (some .int), Cond.fieldLink RX5 22 "FloatMarketModel$State" "is" "[I", Cond.fieldLink RX5 25 "FloatMarketModel$State" "row" "[I", Cond.methodLink RX6 98 yX5_moor, Cond.instanceMethod yX5_moor, Cond.selects RX5 yX5_moor yX5_moor, Cond.code yX5_moor cX5_moor 3 none, Cond.fieldLink RX5 28 "FloatMarketModel$State" "place" "[I"]
def wsX6_moor : List Cond := .code yX6_moor cX6_moor 3 (some .int) :: ((wsX6_moor_r1 ++ wsX6_moor_r2) ++ wsX60 ++ wsX50)
def wsX6_castOff_r1 : List Cond := [Cond.fieldLink RX6 47 "FloatMarketModel" "thrown" "I", Cond.fieldLink RX6 36 "FloatMarketModel" "s" "LFloatMarketModel$State;", Cond.methodLink RX6 75 yX6_isCanoe, Cond.instanceMethod yX6_isCanoe, Cond.selects RX6 yX6_isCanoe yX6_isCanoe, Cond.initialized RX6, Cond.code yX6_isCanoe cX6_isCanoe 2 (some .boolean), Cond.fieldLink RX6 51 "FloatMarketModel" "canoes" "I", Cond.methodLink RX6 54 yX6_isIn, Cond.static yX6_isIn, Cond.code yX6_isIn cX6_isIn 3 (some .boolean), Cond.methodLink RX6 65 yX6_no, Cond.instanceMethod yX6_no, Cond.selects RX6 yX6_no yX6_no, Cond.code yX6_no cX6_no 2 (some .int), Cond.methodLink RX6 105 yX5_isDry, Cond.instanceMethod yX5_isDry, Cond.selects RX5 yX5_isDry yX5_isDry, Cond.initialized RX5, Cond.code yX5_isDry cX5_isDry 2 (some .boolean), Cond.fieldLink RX5 28 "FloatMarketModel$State" "place" "[I", Cond.fieldLink RX5 3 "FloatMarketModel$State" "this$0" "LFloatMarketModel;", Cond.fieldLink RX5 52 "FloatMarketModel$State" "step" "I", Cond.methodLink RX6 108 yX5_castOff]
def wsX6_castOff_r2 : List Cond := [Cond.instanceMethod yX5_castOff, Cond.selects RX5 yX5_castOff yX5_castOff, Cond.code yX5_castOff cX5_castOff 4 (some .int), Cond.fieldLink RX5 22 "FloatMarketModel$State" "is" "[I", Cond.fieldLink RX5 25 "FloatMarketModel$State" "row" "[I", Cond.fieldLink RX5 34 "FloatMarketModel$State" "loosened" "[I"]
def wsX6_castOff : List Cond := .code yX6_castOff cX6_castOff 2 (some .int) :: ((wsX6_castOff_r1 ++ wsX6_castOff_r2) ++ wsX60 ++ wsX50)
def wsX6_leaveIn : List Cond := .code yX6_leaveIn cX6_leaveIn 4 (some .int) :: ([.fieldLink RX6 47 "FloatMarketModel" "thrown" "I", .fieldLink RX6 36 "FloatMarketModel" "s" "LFloatMarketModel$State;", .methodLink RX6 75 yX6_isCanoe, .instanceMethod yX6_isCanoe, .selects RX6 yX6_isCanoe yX6_isCanoe, .initialized RX6, .code yX6_isCanoe cX6_isCanoe 2 (some .boolean), .fieldLink RX6 51 "FloatMarketModel" "canoes" "I", .methodLink RX6 54 yX6_isIn, .static yX6_isIn, .code yX6_isIn cX6_isIn 3 (some .boolean), .methodLink RX6 65 yX6_no, .instanceMethod yX6_no, .selects RX6 yX6_no yX6_no, .code yX6_no cX6_no 2 (some .int)] ++ wsX60 ++ wsX50)
def wsX6_canoeTold : List Cond := .code yX6_canoeTold cX6_canoeTold 5 (some .int) :: ([.fieldLink RX6 36 "FloatMarketModel" "s" "LFloatMarketModel$State;", .arrayClass .int, .fieldLink RX6 19 "FloatMarketModel" "rope" "[I", .methodLink RX6 129 yX5_misses_, .instanceMethod yX5_misses_, .selects RX5 yX5_misses_ yX5_misses_, .initialized RX5, .code yX5_misses_ cX5_misses_ 4 (some .int), .methodLink RX5 91 yX5_misses, .instanceMethod yX5_misses, .selects RX5 yX5_misses yX5_misses, .code yX5_misses cX5_misses 3 (some .int), .fieldLink RX5 3 "FloatMarketModel$State" "this$0" "LFloatMarketModel;", .fieldLink RX5 19 "FloatMarketModel$State" "has" "[I", .methodLink RX5 87 Lib.Math.max.name, .static Lib.Math.max.name, .initialized "java/lang/Math", .code Lib.Math.max.name Lib.Math.max.code 2 (some .int)] ++ wsX60 ++ wsX50)
def wsX6_canoe_r1 : List Cond := [Cond.fieldLink RX6 47 "FloatMarketModel" "thrown" "I", Cond.methodLink RX6 75 yX6_isCanoe, Cond.instanceMethod yX6_isCanoe, Cond.selects RX6 yX6_isCanoe yX6_isCanoe, Cond.initialized RX6, Cond.code yX6_isCanoe cX6_isCanoe 2 (some .boolean), Cond.fieldLink RX6 51 "FloatMarketModel" "canoes" "I", Cond.methodLink RX6 54 yX6_isIn, Cond.static yX6_isIn, Cond.code yX6_isIn cX6_isIn 3 (some .boolean), Cond.methodLink RX6 131 yX6_canoeTold, Cond.instanceMethod yX6_canoeTold, Cond.selects RX6 yX6_canoeTold yX6_canoeTold, Cond.code yX6_canoeTold cX6_canoeTold 5 (some .int), Cond.fieldLink RX6 36 "FloatMarketModel" "s" "LFloatMarketModel$State;", Cond.arrayClass .int, Cond.fieldLink RX6 19 "FloatMarketModel" "rope" "[I", Cond.methodLink RX6 129 yX5_misses_, Cond.instanceMethod yX5_misses_, Cond.selects RX5 yX5_misses_ yX5_misses_, Cond.initialized RX5, Cond.code yX5_misses_ cX5_misses_ 4 (some .int), Cond.methodLink RX5 91 yX5_misses, Cond.instanceMethod yX5_misses]
def wsX6_canoe_r2 : List Cond := [Cond.selects RX5 yX5_misses yX5_misses, Cond.code yX5_misses cX5_misses 3 (some .int), Cond.fieldLink RX5 3 "FloatMarketModel$State" "this$0" "LFloatMarketModel;", Cond.fieldLink RX5 19 "FloatMarketModel$State" "has" "[I", Cond.methodLink RX5 87 Lib.Math.max.name, Cond.static Lib.Math.max.name, Cond.initialized "java/lang/Math", Cond.code Lib.Math.max.name Lib.Math.max.code 2 (some .int), Cond.methodLink RX6 65 yX6_no, Cond.instanceMethod yX6_no, Cond.selects RX6 yX6_no yX6_no, Cond.code yX6_no cX6_no 2 (some .int)]
def wsX6_canoe : List Cond := .code yX6_canoe cX6_canoe 3 (some .int) :: ((wsX6_canoe_r1 ++ wsX6_canoe_r2) ++ wsX60 ++ wsX50)
def wsX6_goodTold : List Cond := .code yX6_goodTold cX6_goodTold 3 (some .int) :: ([.fieldLink RX6 36 "FloatMarketModel" "s" "LFloatMarketModel$State;", .fieldLink RX6 22 "FloatMarketModel" "price" "[I", .fieldLink RX6 25 "FloatMarketModel" "wants" "[I", .fieldLink RX6 28 "FloatMarketModel" "pays" "[I"] ++ wsX60 ++ wsX50)
def wsX6_good_r1 : List Cond := [Cond.fieldLink RX6 47 "FloatMarketModel" "thrown" "I", Cond.methodLink RX6 75 yX6_isCanoe, Cond.instanceMethod yX6_isCanoe, Cond.selects RX6 yX6_isCanoe yX6_isCanoe, Cond.initialized RX6, Cond.code yX6_isCanoe cX6_isCanoe 2 (some .boolean), Cond.fieldLink RX6 51 "FloatMarketModel" "canoes" "I", Cond.methodLink RX6 54 yX6_isIn, Cond.static yX6_isIn, Cond.code yX6_isIn cX6_isIn 3 (some .boolean), Cond.methodLink RX6 79 yX6_isGood, Cond.static yX6_isGood, Cond.code yX6_isGood cX6_isGood 1 (some .boolean), Cond.methodLink RX6 134 yX6_goodTold, Cond.instanceMethod yX6_goodTold, Cond.selects RX6 yX6_goodTold yX6_goodTold, Cond.code yX6_goodTold cX6_goodTold 3 (some .int), Cond.fieldLink RX6 36 "FloatMarketModel" "s" "LFloatMarketModel$State;", Cond.fieldLink RX6 22 "FloatMarketModel" "price" "[I", Cond.fieldLink RX6 25 "FloatMarketModel" "wants" "[I", Cond.fieldLink RX6 28 "FloatMarketModel" "pays" "[I", Cond.methodLink RX6 65 yX6_no, Cond.instanceMethod yX6_no, Cond.selects RX6 yX6_no yX6_no]
def wsX6_good_r2 : List Cond := [Cond.code yX6_no cX6_no 2 (some .int)]
def wsX6_good : List Cond := .code yX6_good cX6_good 4 (some .int) :: ((wsX6_good_r1 ++ wsX6_good_r2) ++ wsX60 ++ wsX50)
def wsX6_at_r1 : List Cond := [Cond.fieldLink RX6 47 "FloatMarketModel" "thrown" "I", Cond.fieldLink RX6 9 "FloatMarketModel" "places" "[I", Cond.fieldLink RX6 36 "FloatMarketModel" "s" "LFloatMarketModel$State;", Cond.methodLink RX6 92 yX6_isRow, Cond.instanceMethod yX6_isRow, Cond.selects RX6 yX6_isRow yX6_isRow, Cond.initialized RX6, Cond.code yX6_isRow cX6_isRow 2 (some .boolean), Cond.fieldLink RX6 58 "FloatMarketModel" "rows" "I", Cond.methodLink RX6 54 yX6_isIn, Cond.static yX6_isIn, Cond.code yX6_isIn cX6_isIn 3 (some .boolean), Cond.methodLink RX6 137 yX5_at, Cond.instanceMethod yX5_at, Cond.selects RX5 yX5_at yX5_at, Cond.initialized RX5, Cond.code yX5_at cX5_at 4 (some .int), Cond.fieldLink RX5 3 "FloatMarketModel$State" "this$0" "LFloatMarketModel;", Cond.fieldLink RX5 22 "FloatMarketModel$State" "is" "[I", Cond.fieldLink RX5 25 "FloatMarketModel$State" "row" "[I", Cond.fieldLink RX5 28 "FloatMarketModel$State" "place" "[I", Cond.methodLink RX6 65 yX6_no, Cond.instanceMethod yX6_no, Cond.selects RX6 yX6_no yX6_no]
def wsX6_at_r2 : List Cond := [Cond.code yX6_no cX6_no 2 (some .int)]
def wsX6_at : List Cond := .code yX6_at cX6_at 3 (some .int) :: ((wsX6_at_r1 ++ wsX6_at_r2) ++ wsX60 ++ wsX50)
def wsX6_beside_r1 : List Cond := [Cond.fieldLink RX6 47 "FloatMarketModel" "thrown" "I", Cond.fieldLink RX6 36 "FloatMarketModel" "s" "LFloatMarketModel$State;", Cond.methodLink RX6 75 yX6_isCanoe, Cond.instanceMethod yX6_isCanoe, Cond.selects RX6 yX6_isCanoe yX6_isCanoe, Cond.initialized RX6, Cond.code yX6_isCanoe cX6_isCanoe 2 (some .boolean), Cond.fieldLink RX6 51 "FloatMarketModel" "canoes" "I", Cond.methodLink RX6 54 yX6_isIn, Cond.static yX6_isIn, Cond.code yX6_isIn cX6_isIn 3 (some .boolean), Cond.methodLink RX6 140 yX5_beside, Cond.instanceMethod yX5_beside, Cond.selects RX5 yX5_beside yX5_beside, Cond.initialized RX5, Cond.code yX5_beside cX5_beside 3 (some .boolean), Cond.fieldLink RX5 22 "FloatMarketModel$State" "is" "[I", Cond.fieldLink RX5 25 "FloatMarketModel$State" "row" "[I", Cond.methodLink RX5 79 Lib.Math.abs.name, Cond.static Lib.Math.abs.name, Cond.initialized "java/lang/Math", Cond.code Lib.Math.abs.name Lib.Math.abs.code 1 (some .int), Cond.fieldLink RX5 28 "FloatMarketModel$State" "place" "[I", Cond.methodLink RX6 65 yX6_no]
def wsX6_beside_r2 : List Cond := [Cond.instanceMethod yX6_no, Cond.selects RX6 yX6_no yX6_no, Cond.code yX6_no cX6_no 2 (some .int)]
def wsX6_beside : List Cond := .code yX6_beside cX6_beside 3 (some .boolean) :: ((wsX6_beside_r1 ++ wsX6_beside_r2) ++ wsX60 ++ wsX50)
def wsX6_pass__r1 : List Cond := [Cond.fieldLink RX6 47 "FloatMarketModel" "thrown" "I", Cond.fieldLink RX6 36 "FloatMarketModel" "s" "LFloatMarketModel$State;", Cond.methodLink RX6 54 yX6_isIn, Cond.static yX6_isIn, Cond.initialized RX6, Cond.code yX6_isIn cX6_isIn 3 (some .boolean), Cond.methodLink RX6 144 yX6_pass, Cond.instanceMethod yX6_pass, Cond.selects RX6 yX6_pass yX6_pass, Cond.code yX6_pass cX6_pass 5 (some .int), Cond.fieldLink RX6 43 "FloatMarketModel" "did" "[Z", Cond.methodLink RX6 61 yX5_pass, Cond.instanceMethod yX5_pass, Cond.selects RX5 yX5_pass yX5_pass, Cond.initialized RX5, Cond.code yX5_pass cX5_pass 5 (some .int), Cond.fieldLink RX5 56 "FloatMarketModel$State" "sum" "I", Cond.fieldLink RX5 3 "FloatMarketModel$State" "this$0" "LFloatMarketModel;", Cond.fieldLink RX5 22 "FloatMarketModel$State" "is" "[I", Cond.fieldLink RX5 31 "FloatMarketModel$State" "leaves" "[I", Cond.fieldLink RX5 52 "FloatMarketModel$State" "step" "I", Cond.methodLink RX5 124 yX5_drift, Cond.instanceMethod yX5_drift, Cond.selects RX5 yX5_drift yX5_drift]
def wsX6_pass__r2 : List Cond := [Cond.code yX5_drift cX5_drift 5 none, Cond.fieldLink RX5 37 "FloatMarketModel$State" "drifted" "[I", Cond.methodLink RX5 69 yX5_in, Cond.instanceMethod yX5_in, Cond.selects RX5 yX5_in yX5_in, Cond.code yX5_in cX5_in 4 (some .int), Cond.fieldLink RX5 25 "FloatMarketModel$State" "row" "[I", Cond.methodLink RX5 94 yX5_at, Cond.instanceMethod yX5_at, Cond.selects RX5 yX5_at yX5_at, Cond.code yX5_at cX5_at 4 (some .int), Cond.fieldLink RX5 28 "FloatMarketModel$State" "place" "[I", Cond.methodLink RX5 106 yX5_isFull, Cond.instanceMethod yX5_isFull, Cond.selects RX5 yX5_isFull yX5_isFull, Cond.code yX5_isFull cX5_isFull 2 (some .boolean), Cond.methodLink RX5 110 yX5_moor, Cond.instanceMethod yX5_moor, Cond.selects RX5 yX5_moor yX5_moor, Cond.code yX5_moor cX5_moor 3 none, Cond.methodLink RX5 128 yX5_isDry, Cond.instanceMethod yX5_isDry, Cond.selects RX5 yX5_isDry yX5_isDry, Cond.code yX5_isDry cX5_isDry 2 (some .boolean)]
def wsX6_pass__r3 : List Cond := [Cond.methodLink RX5 131 yX5_castOff, Cond.instanceMethod yX5_castOff, Cond.selects RX5 yX5_castOff yX5_castOff, Cond.code yX5_castOff cX5_castOff 4 (some .int), Cond.fieldLink RX5 34 "FloatMarketModel$State" "loosened" "[I", Cond.methodLink RX5 134 yX5_trade, Cond.instanceMethod yX5_trade, Cond.selects RX5 yX5_trade yX5_trade, Cond.code yX5_trade cX5_trade 6 none, Cond.fieldLink RX5 15 "FloatMarketModel$State" "coins" "[I", Cond.fieldLink RX5 19 "FloatMarketModel$State" "has" "[I", Cond.fieldLink RX5 43 "FloatMarketModel$State" "bought" "[I", Cond.fieldLink RX5 40 "FloatMarketModel$State" "sold" "[I", Cond.fieldLink RX5 59 "FloatMarketModel$State" "coinsPaid" "I", Cond.methodLink RX5 91 yX5_misses, Cond.instanceMethod yX5_misses, Cond.selects RX5 yX5_misses yX5_misses, Cond.code yX5_misses cX5_misses 3 (some .int), Cond.methodLink RX5 87 Lib.Math.max.name, Cond.static Lib.Math.max.name, Cond.initialized "java/lang/Math", Cond.code Lib.Math.max.name Lib.Math.max.code 2 (some .int), Cond.methodLink RX5 114 yX5_beside, Cond.instanceMethod yX5_beside]
def wsX6_pass__r4 : List Cond := [Cond.selects RX5 yX5_beside yX5_beside, Cond.code yX5_beside cX5_beside 3 (some .boolean), Cond.methodLink RX5 79 Lib.Math.abs.name, Cond.static Lib.Math.abs.name, Cond.code Lib.Math.abs.name Lib.Math.abs.code 1 (some .int), Cond.methodLink RX6 65 yX6_no, Cond.instanceMethod yX6_no, Cond.selects RX6 yX6_no yX6_no, Cond.code yX6_no cX6_no 2 (some .int)]
def wsX6_pass_ : List Cond := .code yX6_pass_ cX6_pass_ 2 (some .int) :: ((wsX6_pass__r1 ++ (wsX6_pass__r2 ++ (wsX6_pass__r3 ++ wsX6_pass__r4))) ++ wsX60 ++ wsX50)
def wsX6_counted : List Cond := .code yX6_counted cX6_counted 4 (some .int) :: ([.fieldLink RX6 51 "FloatMarketModel" "canoes" "I", .fieldLink RX6 36 "FloatMarketModel" "s" "LFloatMarketModel$State;", .arrayClass .int, .fieldLink RX6 58 "FloatMarketModel" "rows" "I", .methodLink RX6 105 yX5_isDry, .instanceMethod yX5_isDry, .selects RX5 yX5_isDry yX5_isDry, .initialized RX5, .code yX5_isDry cX5_isDry 2 (some .boolean), .fieldLink RX5 28 "FloatMarketModel$State" "place" "[I", .fieldLink RX5 3 "FloatMarketModel$State" "this$0" "LFloatMarketModel;", .fieldLink RX5 52 "FloatMarketModel$State" "step" "I", .methodLink RX6 147 yX5_being, .instanceMethod yX5_being, .selects RX5 yX5_being yX5_being, .code yX5_being cX5_being 4 (some .int), .fieldLink RX5 22 "FloatMarketModel$State" "is" "[I", .methodLink RX6 150 yX5_all, .instanceMethod yX5_all, .selects RX5 yX5_all yX5_all, .code yX5_all cX5_all 7 (some .int)] ++ wsX60 ++ wsX50)
def wsX6_count_r1 : List Cond := [Cond.fieldLink RX6 47 "FloatMarketModel" "thrown" "I", Cond.methodLink RX6 54 yX6_isIn, Cond.static yX6_isIn, Cond.initialized RX6, Cond.code yX6_isIn cX6_isIn 3 (some .boolean), Cond.methodLink RX6 160 yX6_counted, Cond.instanceMethod yX6_counted, Cond.selects RX6 yX6_counted yX6_counted, Cond.code yX6_counted cX6_counted 4 (some .int), Cond.fieldLink RX6 51 "FloatMarketModel" "canoes" "I", Cond.fieldLink RX6 36 "FloatMarketModel" "s" "LFloatMarketModel$State;", Cond.arrayClass .int, Cond.fieldLink RX6 58 "FloatMarketModel" "rows" "I", Cond.methodLink RX6 105 yX5_isDry, Cond.instanceMethod yX5_isDry, Cond.selects RX5 yX5_isDry yX5_isDry, Cond.initialized RX5, Cond.code yX5_isDry cX5_isDry 2 (some .boolean), Cond.fieldLink RX5 28 "FloatMarketModel$State" "place" "[I", Cond.fieldLink RX5 3 "FloatMarketModel$State" "this$0" "LFloatMarketModel;", Cond.fieldLink RX5 52 "FloatMarketModel$State" "step" "I", Cond.methodLink RX6 147 yX5_being, Cond.instanceMethod yX5_being, Cond.selects RX5 yX5_being yX5_being]
def wsX6_count_r2 : List Cond := [Cond.code yX5_being cX5_being 4 (some .int), Cond.fieldLink RX5 22 "FloatMarketModel$State" "is" "[I", Cond.methodLink RX6 150 yX5_all, Cond.instanceMethod yX5_all, Cond.selects RX5 yX5_all yX5_all, Cond.code yX5_all cX5_all 7 (some .int), Cond.methodLink RX6 65 yX6_no, Cond.instanceMethod yX6_no, Cond.selects RX6 yX6_no yX6_no, Cond.code yX6_no cX6_no 2 (some .int)]
def wsX6_count : List Cond := .code yX6_count cX6_count 2 (some .int) :: ((wsX6_count_r1 ++ wsX6_count_r2) ++ wsX60 ++ wsX50)
def wsX6_foresee_r1 : List Cond := [Cond.fieldLink RX6 47 "FloatMarketModel" "thrown" "I", Cond.fieldLink RX6 40 "FloatMarketModel" "ahead" "LFloatMarketModel$State;", Cond.fieldLink RX6 36 "FloatMarketModel" "s" "LFloatMarketModel$State;", Cond.methodLink RX6 75 yX6_isCanoe, Cond.instanceMethod yX6_isCanoe, Cond.selects RX6 yX6_isCanoe yX6_isCanoe, Cond.initialized RX6, Cond.code yX6_isCanoe cX6_isCanoe 2 (some .boolean), Cond.fieldLink RX6 51 "FloatMarketModel" "canoes" "I", Cond.methodLink RX6 54 yX6_isIn, Cond.static yX6_isIn, Cond.code yX6_isIn cX6_isIn 3 (some .boolean), Cond.methodLink RX6 65 yX6_no, Cond.instanceMethod yX6_no, Cond.selects RX6 yX6_no yX6_no, Cond.code yX6_no cX6_no 2 (some .int), Cond.methodLink RX6 163 yX5_become, Cond.instanceMethod yX5_become, Cond.selects RX5 yX5_become yX5_become, Cond.initialized RX5, Cond.code yX5_become cX5_become 2 none, Cond.fieldLink RX5 52 "FloatMarketModel$State" "step" "I", Cond.fieldLink RX5 56 "FloatMarketModel$State" "sum" "I", Cond.fieldLink RX5 59 "FloatMarketModel$State" "coinsPaid" "I"]
def wsX6_foresee_r2 : List Cond := [Cond.fieldLink RX5 15 "FloatMarketModel$State" "coins" "[I", Cond.fieldLink RX5 19 "FloatMarketModel$State" "has" "[I", Cond.fieldLink RX5 22 "FloatMarketModel$State" "is" "[I", Cond.fieldLink RX5 25 "FloatMarketModel$State" "row" "[I", Cond.fieldLink RX5 28 "FloatMarketModel$State" "place" "[I", Cond.fieldLink RX5 31 "FloatMarketModel$State" "leaves" "[I", Cond.fieldLink RX5 34 "FloatMarketModel$State" "loosened" "[I", Cond.fieldLink RX5 37 "FloatMarketModel$State" "drifted" "[I", Cond.fieldLink RX5 40 "FloatMarketModel$State" "sold" "[I", Cond.fieldLink RX5 43 "FloatMarketModel$State" "bought" "[I", Cond.methodLink RX5 62 yX5_copy, Cond.instanceMethod yX5_copy, Cond.selects RX5 yX5_copy yX5_copy, Cond.code yX5_copy cX5_copy 3 none, Cond.methodLink RX5 46 arraycopyName, Cond.native arraycopyName, Cond.static arraycopyName, Cond.initialized "java/lang/System", Cond.methodLink RX6 144 yX6_pass, Cond.instanceMethod yX6_pass, Cond.selects RX6 yX6_pass yX6_pass, Cond.code yX6_pass cX6_pass 5 (some .int), Cond.fieldLink RX6 43 "FloatMarketModel" "did" "[Z", Cond.methodLink RX6 61 yX5_pass]
def wsX6_foresee_r3 : List Cond := [Cond.instanceMethod yX5_pass, Cond.selects RX5 yX5_pass yX5_pass, Cond.code yX5_pass cX5_pass 5 (some .int), Cond.fieldLink RX5 3 "FloatMarketModel$State" "this$0" "LFloatMarketModel;", Cond.methodLink RX5 124 yX5_drift, Cond.instanceMethod yX5_drift, Cond.selects RX5 yX5_drift yX5_drift, Cond.code yX5_drift cX5_drift 5 none, Cond.methodLink RX5 69 yX5_in, Cond.instanceMethod yX5_in, Cond.selects RX5 yX5_in yX5_in, Cond.code yX5_in cX5_in 4 (some .int), Cond.methodLink RX5 94 yX5_at, Cond.instanceMethod yX5_at, Cond.selects RX5 yX5_at yX5_at, Cond.code yX5_at cX5_at 4 (some .int), Cond.methodLink RX5 106 yX5_isFull, Cond.instanceMethod yX5_isFull, Cond.selects RX5 yX5_isFull yX5_isFull, Cond.code yX5_isFull cX5_isFull 2 (some .boolean), Cond.methodLink RX5 110 yX5_moor, Cond.instanceMethod yX5_moor, Cond.selects RX5 yX5_moor yX5_moor, Cond.code yX5_moor cX5_moor 3 none]
def wsX6_foresee_r4 : List Cond := [Cond.methodLink RX5 128 yX5_isDry, Cond.instanceMethod yX5_isDry, Cond.selects RX5 yX5_isDry yX5_isDry, Cond.code yX5_isDry cX5_isDry 2 (some .boolean), Cond.methodLink RX5 131 yX5_castOff, Cond.instanceMethod yX5_castOff, Cond.selects RX5 yX5_castOff yX5_castOff, Cond.code yX5_castOff cX5_castOff 4 (some .int), Cond.methodLink RX5 134 yX5_trade, Cond.instanceMethod yX5_trade, Cond.selects RX5 yX5_trade yX5_trade, Cond.code yX5_trade cX5_trade 6 none, Cond.methodLink RX5 91 yX5_misses, Cond.instanceMethod yX5_misses, Cond.selects RX5 yX5_misses yX5_misses, Cond.code yX5_misses cX5_misses 3 (some .int), Cond.methodLink RX5 87 Lib.Math.max.name, Cond.static Lib.Math.max.name, Cond.initialized "java/lang/Math", Cond.code Lib.Math.max.name Lib.Math.max.code 2 (some .int), Cond.methodLink RX5 114 yX5_beside, Cond.instanceMethod yX5_beside, Cond.selects RX5 yX5_beside yX5_beside, Cond.code yX5_beside cX5_beside 3 (some .boolean)]
def wsX6_foresee_r5 : List Cond := [Cond.methodLink RX5 79 Lib.Math.abs.name, Cond.static Lib.Math.abs.name, Cond.code Lib.Math.abs.name Lib.Math.abs.code 1 (some .int), Cond.methodLink RX6 129 yX5_misses_, Cond.instanceMethod yX5_misses_, Cond.selects RX5 yX5_misses_ yX5_misses_, Cond.code yX5_misses_ cX5_misses_ 4 (some .int)]
def wsX6_foresee : List Cond := .code yX6_foresee cX6_foresee 4 (some .int) :: ((wsX6_foresee_r1 ++ (wsX6_foresee_r2 ++ (wsX6_foresee_r3 ++ (wsX6_foresee_r4 ++ wsX6_foresee_r5)))) ++ wsX60 ++ wsX50)
def wsX6_full_r1 : List Cond := [Cond.fieldLink RX6 47 "FloatMarketModel" "thrown" "I", Cond.fieldLink RX6 40 "FloatMarketModel" "ahead" "LFloatMarketModel$State;", Cond.fieldLink RX6 36 "FloatMarketModel" "s" "LFloatMarketModel$State;", Cond.fieldLink RX6 43 "FloatMarketModel" "did" "[Z", Cond.methodLink RX6 75 yX6_isCanoe, Cond.instanceMethod yX6_isCanoe, Cond.selects RX6 yX6_isCanoe yX6_isCanoe, Cond.initialized RX6, Cond.code yX6_isCanoe cX6_isCanoe 2 (some .boolean), Cond.fieldLink RX6 51 "FloatMarketModel" "canoes" "I", Cond.methodLink RX6 54 yX6_isIn, Cond.static yX6_isIn, Cond.code yX6_isIn cX6_isIn 3 (some .boolean), Cond.methodLink RX6 65 yX6_no, Cond.instanceMethod yX6_no, Cond.selects RX6 yX6_no yX6_no, Cond.code yX6_no cX6_no 2 (some .int), Cond.methodLink RX6 163 yX5_become, Cond.instanceMethod yX5_become, Cond.selects RX5 yX5_become yX5_become, Cond.initialized RX5, Cond.code yX5_become cX5_become 2 none, Cond.fieldLink RX5 52 "FloatMarketModel$State" "step" "I", Cond.fieldLink RX5 56 "FloatMarketModel$State" "sum" "I"]
def wsX6_full_r2 : List Cond := [Cond.fieldLink RX5 59 "FloatMarketModel$State" "coinsPaid" "I", Cond.fieldLink RX5 15 "FloatMarketModel$State" "coins" "[I", Cond.fieldLink RX5 19 "FloatMarketModel$State" "has" "[I", Cond.fieldLink RX5 22 "FloatMarketModel$State" "is" "[I", Cond.fieldLink RX5 25 "FloatMarketModel$State" "row" "[I", Cond.fieldLink RX5 28 "FloatMarketModel$State" "place" "[I", Cond.fieldLink RX5 31 "FloatMarketModel$State" "leaves" "[I", Cond.fieldLink RX5 34 "FloatMarketModel$State" "loosened" "[I", Cond.fieldLink RX5 37 "FloatMarketModel$State" "drifted" "[I", Cond.fieldLink RX5 40 "FloatMarketModel$State" "sold" "[I", Cond.fieldLink RX5 43 "FloatMarketModel$State" "bought" "[I", Cond.methodLink RX5 62 yX5_copy, Cond.instanceMethod yX5_copy, Cond.selects RX5 yX5_copy yX5_copy, Cond.code yX5_copy cX5_copy 3 none, Cond.methodLink RX5 46 arraycopyName, Cond.native arraycopyName, Cond.static arraycopyName, Cond.initialized "java/lang/System", Cond.methodLink RX6 129 yX5_misses_, Cond.instanceMethod yX5_misses_, Cond.selects RX5 yX5_misses_ yX5_misses_, Cond.code yX5_misses_ cX5_misses_ 4 (some .int), Cond.methodLink RX5 91 yX5_misses]
def wsX6_full_r3 : List Cond := [Cond.instanceMethod yX5_misses, Cond.selects RX5 yX5_misses yX5_misses, Cond.code yX5_misses cX5_misses 3 (some .int), Cond.fieldLink RX5 3 "FloatMarketModel$State" "this$0" "LFloatMarketModel;", Cond.methodLink RX5 87 Lib.Math.max.name, Cond.static Lib.Math.max.name, Cond.initialized "java/lang/Math", Cond.code Lib.Math.max.name Lib.Math.max.code 2 (some .int), Cond.methodLink RX6 61 yX5_pass, Cond.instanceMethod yX5_pass, Cond.selects RX5 yX5_pass yX5_pass, Cond.code yX5_pass cX5_pass 5 (some .int), Cond.methodLink RX5 124 yX5_drift, Cond.instanceMethod yX5_drift, Cond.selects RX5 yX5_drift yX5_drift, Cond.code yX5_drift cX5_drift 5 none, Cond.methodLink RX5 69 yX5_in, Cond.instanceMethod yX5_in, Cond.selects RX5 yX5_in yX5_in, Cond.code yX5_in cX5_in 4 (some .int), Cond.methodLink RX5 94 yX5_at, Cond.instanceMethod yX5_at, Cond.selects RX5 yX5_at yX5_at, Cond.code yX5_at cX5_at 4 (some .int)]
def wsX6_full_r4 : List Cond := [Cond.methodLink RX5 106 yX5_isFull, Cond.instanceMethod yX5_isFull, Cond.selects RX5 yX5_isFull yX5_isFull, Cond.code yX5_isFull cX5_isFull 2 (some .boolean), Cond.methodLink RX5 110 yX5_moor, Cond.instanceMethod yX5_moor, Cond.selects RX5 yX5_moor yX5_moor, Cond.code yX5_moor cX5_moor 3 none, Cond.methodLink RX5 128 yX5_isDry, Cond.instanceMethod yX5_isDry, Cond.selects RX5 yX5_isDry yX5_isDry, Cond.code yX5_isDry cX5_isDry 2 (some .boolean), Cond.methodLink RX5 131 yX5_castOff, Cond.instanceMethod yX5_castOff, Cond.selects RX5 yX5_castOff yX5_castOff, Cond.code yX5_castOff cX5_castOff 4 (some .int), Cond.methodLink RX5 134 yX5_trade, Cond.instanceMethod yX5_trade, Cond.selects RX5 yX5_trade yX5_trade, Cond.code yX5_trade cX5_trade 6 none, Cond.methodLink RX5 114 yX5_beside, Cond.instanceMethod yX5_beside, Cond.selects RX5 yX5_beside yX5_beside, Cond.code yX5_beside cX5_beside 3 (some .boolean)]
def wsX6_full_r5 : List Cond := [Cond.methodLink RX5 79 Lib.Math.abs.name, Cond.static Lib.Math.abs.name, Cond.code Lib.Math.abs.name Lib.Math.abs.code 1 (some .int)]
def wsX6_full : List Cond := .code yX6_full cX6_full 3 (some .int) :: ((wsX6_full_r1 ++ (wsX6_full_r2 ++ (wsX6_full_r3 ++ (wsX6_full_r4 ++ wsX6_full_r5)))) ++ wsX60 ++ wsX50)
def wsX6_gone_r1 : List Cond := [Cond.fieldLink RX6 47 "FloatMarketModel" "thrown" "I", Cond.fieldLink RX6 40 "FloatMarketModel" "ahead" "LFloatMarketModel$State;", Cond.fieldLink RX6 36 "FloatMarketModel" "s" "LFloatMarketModel$State;", Cond.fieldLink RX6 43 "FloatMarketModel" "did" "[Z", Cond.methodLink RX6 75 yX6_isCanoe, Cond.instanceMethod yX6_isCanoe, Cond.selects RX6 yX6_isCanoe yX6_isCanoe, Cond.initialized RX6, Cond.code yX6_isCanoe cX6_isCanoe 2 (some .boolean), Cond.fieldLink RX6 51 "FloatMarketModel" "canoes" "I", Cond.methodLink RX6 54 yX6_isIn, Cond.static yX6_isIn, Cond.code yX6_isIn cX6_isIn 3 (some .boolean), Cond.methodLink RX6 65 yX6_no, Cond.instanceMethod yX6_no, Cond.selects RX6 yX6_no yX6_no, Cond.code yX6_no cX6_no 2 (some .int), Cond.methodLink RX6 163 yX5_become, Cond.instanceMethod yX5_become, Cond.selects RX5 yX5_become yX5_become, Cond.initialized RX5, Cond.code yX5_become cX5_become 2 none, Cond.fieldLink RX5 52 "FloatMarketModel$State" "step" "I", Cond.fieldLink RX5 56 "FloatMarketModel$State" "sum" "I"]
def wsX6_gone_r2 : List Cond := [Cond.fieldLink RX5 59 "FloatMarketModel$State" "coinsPaid" "I", Cond.fieldLink RX5 15 "FloatMarketModel$State" "coins" "[I", Cond.fieldLink RX5 19 "FloatMarketModel$State" "has" "[I", Cond.fieldLink RX5 22 "FloatMarketModel$State" "is" "[I", Cond.fieldLink RX5 25 "FloatMarketModel$State" "row" "[I", Cond.fieldLink RX5 28 "FloatMarketModel$State" "place" "[I", Cond.fieldLink RX5 31 "FloatMarketModel$State" "leaves" "[I", Cond.fieldLink RX5 34 "FloatMarketModel$State" "loosened" "[I", Cond.fieldLink RX5 37 "FloatMarketModel$State" "drifted" "[I", Cond.fieldLink RX5 40 "FloatMarketModel$State" "sold" "[I", Cond.fieldLink RX5 43 "FloatMarketModel$State" "bought" "[I", Cond.methodLink RX5 62 yX5_copy, Cond.instanceMethod yX5_copy, Cond.selects RX5 yX5_copy yX5_copy, Cond.code yX5_copy cX5_copy 3 none, Cond.methodLink RX5 46 arraycopyName, Cond.native arraycopyName, Cond.static arraycopyName, Cond.initialized "java/lang/System", Cond.methodLink RX6 61 yX5_pass, Cond.instanceMethod yX5_pass, Cond.selects RX5 yX5_pass yX5_pass, Cond.code yX5_pass cX5_pass 5 (some .int), Cond.fieldLink RX5 3 "FloatMarketModel$State" "this$0" "LFloatMarketModel;"]
def wsX6_gone_r3 : List Cond := [Cond.methodLink RX5 124 yX5_drift, Cond.instanceMethod yX5_drift, Cond.selects RX5 yX5_drift yX5_drift, Cond.code yX5_drift cX5_drift 5 none, Cond.methodLink RX5 69 yX5_in, Cond.instanceMethod yX5_in, Cond.selects RX5 yX5_in yX5_in, Cond.code yX5_in cX5_in 4 (some .int), Cond.methodLink RX5 94 yX5_at, Cond.instanceMethod yX5_at, Cond.selects RX5 yX5_at yX5_at, Cond.code yX5_at cX5_at 4 (some .int), Cond.methodLink RX5 106 yX5_isFull, Cond.instanceMethod yX5_isFull, Cond.selects RX5 yX5_isFull yX5_isFull, Cond.code yX5_isFull cX5_isFull 2 (some .boolean), Cond.methodLink RX5 110 yX5_moor, Cond.instanceMethod yX5_moor, Cond.selects RX5 yX5_moor yX5_moor, Cond.code yX5_moor cX5_moor 3 none, Cond.methodLink RX5 128 yX5_isDry, Cond.instanceMethod yX5_isDry, Cond.selects RX5 yX5_isDry yX5_isDry, Cond.code yX5_isDry cX5_isDry 2 (some .boolean)]
def wsX6_gone_r4 : List Cond := [Cond.methodLink RX5 131 yX5_castOff, Cond.instanceMethod yX5_castOff, Cond.selects RX5 yX5_castOff yX5_castOff, Cond.code yX5_castOff cX5_castOff 4 (some .int), Cond.methodLink RX5 134 yX5_trade, Cond.instanceMethod yX5_trade, Cond.selects RX5 yX5_trade yX5_trade, Cond.code yX5_trade cX5_trade 6 none, Cond.methodLink RX5 91 yX5_misses, Cond.instanceMethod yX5_misses, Cond.selects RX5 yX5_misses yX5_misses, Cond.code yX5_misses cX5_misses 3 (some .int), Cond.methodLink RX5 87 Lib.Math.max.name, Cond.static Lib.Math.max.name, Cond.initialized "java/lang/Math", Cond.code Lib.Math.max.name Lib.Math.max.code 2 (some .int), Cond.methodLink RX5 114 yX5_beside, Cond.instanceMethod yX5_beside, Cond.selects RX5 yX5_beside yX5_beside, Cond.code yX5_beside cX5_beside 3 (some .boolean), Cond.methodLink RX5 79 Lib.Math.abs.name, Cond.static Lib.Math.abs.name, Cond.code Lib.Math.abs.name Lib.Math.abs.code 1 (some .int)]
def wsX6_gone : List Cond := .code yX6_gone cX6_gone 3 (some .int) :: ((wsX6_gone_r1 ++ (wsX6_gone_r2 ++ (wsX6_gone_r3 ++ wsX6_gone_r4))) ++ wsX60 ++ wsX50)
def wsX6_advise_r1 : List Cond := [Cond.fieldLink RX6 47 "FloatMarketModel" "thrown" "I", Cond.fieldLink RX6 36 "FloatMarketModel" "s" "LFloatMarketModel$State;", Cond.fieldLink RX6 58 "FloatMarketModel" "rows" "I", Cond.fieldLink RX6 40 "FloatMarketModel" "ahead" "LFloatMarketModel$State;", Cond.methodLink RX6 75 yX6_isCanoe, Cond.instanceMethod yX6_isCanoe, Cond.selects RX6 yX6_isCanoe yX6_isCanoe, Cond.initialized RX6, Cond.code yX6_isCanoe cX6_isCanoe 2 (some .boolean), Cond.fieldLink RX6 51 "FloatMarketModel" "canoes" "I", Cond.methodLink RX6 54 yX6_isIn, Cond.static yX6_isIn, Cond.code yX6_isIn cX6_isIn 3 (some .boolean), Cond.methodLink RX6 65 yX6_no, Cond.instanceMethod yX6_no, Cond.selects RX6 yX6_no yX6_no, Cond.code yX6_no cX6_no 2 (some .int), Cond.methodLink RX6 95 yX5_isFull, Cond.instanceMethod yX5_isFull, Cond.selects RX5 yX5_isFull yX5_isFull, Cond.initialized RX5, Cond.code yX5_isFull cX5_isFull 2 (some .boolean), Cond.fieldLink RX5 3 "FloatMarketModel$State" "this$0" "LFloatMarketModel;", Cond.methodLink RX5 69 yX5_in]
def wsX6_advise_r2 : List Cond := [Cond.instanceMethod yX5_in, Cond.selects RX5 yX5_in yX5_in, Cond.code yX5_in cX5_in 4 (some .int), Cond.fieldLink RX5 22 "FloatMarketModel$State" "is" "[I", Cond.fieldLink RX5 25 "FloatMarketModel$State" "row" "[I", Cond.methodLink RX6 163 yX5_become, Cond.instanceMethod yX5_become, Cond.selects RX5 yX5_become yX5_become, Cond.code yX5_become cX5_become 2 none, Cond.fieldLink RX5 52 "FloatMarketModel$State" "step" "I", Cond.fieldLink RX5 56 "FloatMarketModel$State" "sum" "I", Cond.fieldLink RX5 59 "FloatMarketModel$State" "coinsPaid" "I", Cond.fieldLink RX5 15 "FloatMarketModel$State" "coins" "[I", Cond.fieldLink RX5 19 "FloatMarketModel$State" "has" "[I", Cond.fieldLink RX5 28 "FloatMarketModel$State" "place" "[I", Cond.fieldLink RX5 31 "FloatMarketModel$State" "leaves" "[I", Cond.fieldLink RX5 34 "FloatMarketModel$State" "loosened" "[I", Cond.fieldLink RX5 37 "FloatMarketModel$State" "drifted" "[I", Cond.fieldLink RX5 40 "FloatMarketModel$State" "sold" "[I", Cond.fieldLink RX5 43 "FloatMarketModel$State" "bought" "[I", Cond.methodLink RX5 62 yX5_copy, Cond.instanceMethod yX5_copy, Cond.selects RX5 yX5_copy yX5_copy, Cond.code yX5_copy cX5_copy 3 none]
def wsX6_advise_r3 : List Cond := [Cond.methodLink RX5 46 arraycopyName, Cond.native arraycopyName, Cond.static arraycopyName, Cond.initialized "java/lang/System", Cond.methodLink RX6 98 yX5_moor, Cond.instanceMethod yX5_moor, Cond.selects RX5 yX5_moor yX5_moor, Cond.code yX5_moor cX5_moor 3 none, Cond.methodLink RX6 144 yX6_pass, Cond.instanceMethod yX6_pass, Cond.selects RX6 yX6_pass yX6_pass, Cond.code yX6_pass cX6_pass 5 (some .int), Cond.fieldLink RX6 43 "FloatMarketModel" "did" "[Z", Cond.methodLink RX6 61 yX5_pass, Cond.instanceMethod yX5_pass, Cond.selects RX5 yX5_pass yX5_pass, Cond.code yX5_pass cX5_pass 5 (some .int), Cond.methodLink RX5 124 yX5_drift, Cond.instanceMethod yX5_drift, Cond.selects RX5 yX5_drift yX5_drift, Cond.code yX5_drift cX5_drift 5 none, Cond.methodLink RX5 94 yX5_at, Cond.instanceMethod yX5_at, Cond.selects RX5 yX5_at yX5_at]
def wsX6_advise_r4 : List Cond := [Cond.code yX5_at cX5_at 4 (some .int), Cond.methodLink RX5 106 yX5_isFull, Cond.methodLink RX5 110 yX5_moor, Cond.methodLink RX5 128 yX5_isDry, Cond.instanceMethod yX5_isDry, Cond.selects RX5 yX5_isDry yX5_isDry, Cond.code yX5_isDry cX5_isDry 2 (some .boolean), Cond.methodLink RX5 131 yX5_castOff, Cond.instanceMethod yX5_castOff, Cond.selects RX5 yX5_castOff yX5_castOff, Cond.code yX5_castOff cX5_castOff 4 (some .int), Cond.methodLink RX5 134 yX5_trade, Cond.instanceMethod yX5_trade, Cond.selects RX5 yX5_trade yX5_trade, Cond.code yX5_trade cX5_trade 6 none, Cond.methodLink RX5 91 yX5_misses, Cond.instanceMethod yX5_misses, Cond.selects RX5 yX5_misses yX5_misses, Cond.code yX5_misses cX5_misses 3 (some .int), Cond.methodLink RX5 87 Lib.Math.max.name, Cond.static Lib.Math.max.name, Cond.initialized "java/lang/Math", Cond.code Lib.Math.max.name Lib.Math.max.code 2 (some .int), Cond.methodLink RX5 114 yX5_beside]
def wsX6_advise_r5 : List Cond := [Cond.instanceMethod yX5_beside, Cond.selects RX5 yX5_beside yX5_beside, Cond.code yX5_beside cX5_beside 3 (some .boolean), Cond.methodLink RX5 79 Lib.Math.abs.name, Cond.static Lib.Math.abs.name, Cond.code Lib.Math.abs.name Lib.Math.abs.code 1 (some .int)]
def wsX6_advise : List Cond := .code yX6_advise cX6_advise 6 (some .int) :: ((wsX6_advise_r1 ++ (wsX6_advise_r2 ++ (wsX6_advise_r3 ++ (wsX6_advise_r4 ++ wsX6_advise_r5)))) ++ wsX60 ++ wsX50)
def wsX6_price_r1 : List Cond := [Cond.fieldLink RX6 47 "FloatMarketModel" "thrown" "I", Cond.fieldLink RX6 22 "FloatMarketModel" "price" "[I", Cond.fieldLink RX6 40 "FloatMarketModel" "ahead" "LFloatMarketModel$State;", Cond.fieldLink RX6 36 "FloatMarketModel" "s" "LFloatMarketModel$State;", Cond.methodLink RX6 75 yX6_isCanoe, Cond.instanceMethod yX6_isCanoe, Cond.selects RX6 yX6_isCanoe yX6_isCanoe, Cond.initialized RX6, Cond.code yX6_isCanoe cX6_isCanoe 2 (some .boolean), Cond.fieldLink RX6 51 "FloatMarketModel" "canoes" "I", Cond.methodLink RX6 54 yX6_isIn, Cond.static yX6_isIn, Cond.code yX6_isIn cX6_isIn 3 (some .boolean), Cond.methodLink RX6 79 yX6_isGood, Cond.static yX6_isGood, Cond.code yX6_isGood cX6_isGood 1 (some .boolean), Cond.methodLink RX6 65 yX6_no, Cond.instanceMethod yX6_no, Cond.selects RX6 yX6_no yX6_no, Cond.code yX6_no cX6_no 2 (some .int), Cond.methodLink RX6 163 yX5_become, Cond.instanceMethod yX5_become, Cond.selects RX5 yX5_become yX5_become, Cond.initialized RX5]
def wsX6_price_r2 : List Cond := [Cond.code yX5_become cX5_become 2 none, Cond.fieldLink RX5 52 "FloatMarketModel$State" "step" "I", Cond.fieldLink RX5 56 "FloatMarketModel$State" "sum" "I", Cond.fieldLink RX5 59 "FloatMarketModel$State" "coinsPaid" "I", Cond.fieldLink RX5 15 "FloatMarketModel$State" "coins" "[I", Cond.fieldLink RX5 19 "FloatMarketModel$State" "has" "[I", Cond.fieldLink RX5 22 "FloatMarketModel$State" "is" "[I", Cond.fieldLink RX5 25 "FloatMarketModel$State" "row" "[I", Cond.fieldLink RX5 28 "FloatMarketModel$State" "place" "[I", Cond.fieldLink RX5 31 "FloatMarketModel$State" "leaves" "[I", Cond.fieldLink RX5 34 "FloatMarketModel$State" "loosened" "[I", Cond.fieldLink RX5 37 "FloatMarketModel$State" "drifted" "[I", Cond.fieldLink RX5 40 "FloatMarketModel$State" "sold" "[I", Cond.fieldLink RX5 43 "FloatMarketModel$State" "bought" "[I", Cond.methodLink RX5 62 yX5_copy, Cond.instanceMethod yX5_copy, Cond.selects RX5 yX5_copy yX5_copy, Cond.code yX5_copy cX5_copy 3 none, Cond.methodLink RX5 46 arraycopyName, Cond.native arraycopyName, Cond.static arraycopyName, Cond.initialized "java/lang/System", Cond.methodLink RX6 144 yX6_pass, Cond.instanceMethod yX6_pass]
def wsX6_price_r3 : List Cond := [Cond.selects RX6 yX6_pass yX6_pass, Cond.code yX6_pass cX6_pass 5 (some .int), Cond.fieldLink RX6 43 "FloatMarketModel" "did" "[Z", Cond.methodLink RX6 61 yX5_pass, Cond.instanceMethod yX5_pass, Cond.selects RX5 yX5_pass yX5_pass, Cond.code yX5_pass cX5_pass 5 (some .int), Cond.fieldLink RX5 3 "FloatMarketModel$State" "this$0" "LFloatMarketModel;", Cond.methodLink RX5 124 yX5_drift, Cond.instanceMethod yX5_drift, Cond.selects RX5 yX5_drift yX5_drift, Cond.code yX5_drift cX5_drift 5 none, Cond.methodLink RX5 69 yX5_in, Cond.instanceMethod yX5_in, Cond.selects RX5 yX5_in yX5_in, Cond.code yX5_in cX5_in 4 (some .int), Cond.methodLink RX5 94 yX5_at, Cond.instanceMethod yX5_at, Cond.selects RX5 yX5_at yX5_at, Cond.code yX5_at cX5_at 4 (some .int), Cond.methodLink RX5 106 yX5_isFull, Cond.instanceMethod yX5_isFull, Cond.selects RX5 yX5_isFull yX5_isFull, Cond.code yX5_isFull cX5_isFull 2 (some .boolean)]
def wsX6_price_r4 : List Cond := [Cond.methodLink RX5 110 yX5_moor, Cond.instanceMethod yX5_moor, Cond.selects RX5 yX5_moor yX5_moor, Cond.code yX5_moor cX5_moor 3 none, Cond.methodLink RX5 128 yX5_isDry, Cond.instanceMethod yX5_isDry, Cond.selects RX5 yX5_isDry yX5_isDry, Cond.code yX5_isDry cX5_isDry 2 (some .boolean), Cond.methodLink RX5 131 yX5_castOff, Cond.instanceMethod yX5_castOff, Cond.selects RX5 yX5_castOff yX5_castOff, Cond.code yX5_castOff cX5_castOff 4 (some .int), Cond.methodLink RX5 134 yX5_trade, Cond.instanceMethod yX5_trade, Cond.selects RX5 yX5_trade yX5_trade, Cond.code yX5_trade cX5_trade 6 none, Cond.methodLink RX5 91 yX5_misses, Cond.instanceMethod yX5_misses, Cond.selects RX5 yX5_misses yX5_misses, Cond.code yX5_misses cX5_misses 3 (some .int), Cond.methodLink RX5 87 Lib.Math.max.name, Cond.static Lib.Math.max.name, Cond.initialized "java/lang/Math", Cond.code Lib.Math.max.name Lib.Math.max.code 2 (some .int)]
def wsX6_price_r5 : List Cond := [Cond.methodLink RX5 114 yX5_beside, Cond.instanceMethod yX5_beside, Cond.selects RX5 yX5_beside yX5_beside, Cond.code yX5_beside cX5_beside 3 (some .boolean), Cond.methodLink RX5 79 Lib.Math.abs.name, Cond.static Lib.Math.abs.name, Cond.code Lib.Math.abs.name Lib.Math.abs.code 1 (some .int)]
def wsX6_price : List Cond := .code yX6_price cX6_price 10 (some .int) :: ((wsX6_price_r1 ++ (wsX6_price_r2 ++ (wsX6_price_r3 ++ (wsX6_price_r4 ++ wsX6_price_r5)))) ++ wsX60 ++ wsX50)
def wsX6_mean : List Cond := .code yX6_mean cX6_mean 1 (some .double) :: ([.fieldLink RX6 47 "FloatMarketModel" "thrown" "I", .fieldLink RX6 36 "FloatMarketModel" "s" "LFloatMarketModel$State;"] ++ wsX60 ++ wsX50)
def wsX6_digest_r1 : List Cond := [Cond.fieldLink RX6 47 "FloatMarketModel" "thrown" "I", Cond.constantLong RX6 167 (683), Cond.constantLong RX6 169 (31), Cond.fieldLink RX6 13 "FloatMarketModel" "tide" "[I", Cond.fieldLink RX6 16 "FloatMarketModel" "wake" "[I", Cond.fieldLink RX6 58 "FloatMarketModel" "rows" "I", Cond.fieldLink RX6 9 "FloatMarketModel" "places" "[I", Cond.fieldLink RX6 36 "FloatMarketModel" "s" "LFloatMarketModel$State;", Cond.fieldLink RX6 51 "FloatMarketModel" "canoes" "I", Cond.methodLink RX6 160 yX6_counted, Cond.instanceMethod yX6_counted, Cond.selects RX6 yX6_counted yX6_counted, Cond.initialized RX6, Cond.code yX6_counted cX6_counted 4 (some .int), Cond.arrayClass .int, Cond.methodLink RX6 105 yX5_isDry, Cond.instanceMethod yX5_isDry, Cond.selects RX5 yX5_isDry yX5_isDry, Cond.initialized RX5, Cond.code yX5_isDry cX5_isDry 2 (some .boolean), Cond.fieldLink RX5 28 "FloatMarketModel$State" "place" "[I", Cond.fieldLink RX5 3 "FloatMarketModel$State" "this$0" "LFloatMarketModel;", Cond.fieldLink RX5 52 "FloatMarketModel$State" "step" "I", Cond.methodLink RX6 147 yX5_being]
def wsX6_digest_r2 : List Cond := [Cond.instanceMethod yX5_being, Cond.selects RX5 yX5_being yX5_being, Cond.code yX5_being cX5_being 4 (some .int), Cond.fieldLink RX5 22 "FloatMarketModel$State" "is" "[I", Cond.methodLink RX6 150 yX5_all, Cond.instanceMethod yX5_all, Cond.selects RX5 yX5_all yX5_all, Cond.code yX5_all cX5_all 7 (some .int), Cond.methodLink RX6 137 yX5_at, Cond.instanceMethod yX5_at, Cond.selects RX5 yX5_at yX5_at, Cond.code yX5_at cX5_at 4 (some .int), Cond.fieldLink RX5 25 "FloatMarketModel$State" "row" "[I", Cond.methodLink RX6 131 yX6_canoeTold, Cond.instanceMethod yX6_canoeTold, Cond.selects RX6 yX6_canoeTold yX6_canoeTold, Cond.code yX6_canoeTold cX6_canoeTold 5 (some .int), Cond.fieldLink RX6 19 "FloatMarketModel" "rope" "[I", Cond.methodLink RX6 129 yX5_misses_, Cond.instanceMethod yX5_misses_, Cond.selects RX5 yX5_misses_ yX5_misses_, Cond.code yX5_misses_ cX5_misses_ 4 (some .int), Cond.methodLink RX5 91 yX5_misses, Cond.instanceMethod yX5_misses]
def wsX6_digest_r3 : List Cond := [Cond.selects RX5 yX5_misses yX5_misses, Cond.code yX5_misses cX5_misses 3 (some .int), Cond.fieldLink RX5 19 "FloatMarketModel$State" "has" "[I", Cond.methodLink RX5 87 Lib.Math.max.name, Cond.static Lib.Math.max.name, Cond.initialized "java/lang/Math", Cond.code Lib.Math.max.name Lib.Math.max.code 2 (some .int), Cond.methodLink RX6 134 yX6_goodTold, Cond.instanceMethod yX6_goodTold, Cond.selects RX6 yX6_goodTold yX6_goodTold, Cond.code yX6_goodTold cX6_goodTold 3 (some .int), Cond.fieldLink RX6 22 "FloatMarketModel" "price" "[I", Cond.fieldLink RX6 25 "FloatMarketModel" "wants" "[I", Cond.fieldLink RX6 28 "FloatMarketModel" "pays" "[I"]
def wsX6_digest : List Cond := .code yX6_digest cX6_digest 5 (some .long) :: ((wsX6_digest_r1 ++ (wsX6_digest_r2 ++ wsX6_digest_r3)) ++ wsX60 ++ wsX50)
def wsJ9_abs_0f7a4 : List Cond := .code yJ9_abs_0f7a4 cJ9_abs_0f7a4 1 (some .int) :: ([])
def wsJ9_max_7cf53 : List Cond := .code yJ9_max_7cf53 cJ9_max_7cf53 2 (some .int) :: ([])
def wsJ9_min_7cf53 : List Cond := .code yJ9_min_7cf53 cJ9_min_7cf53 2 (some .int) :: ([])
def wsL_addRow_r1 : List Cond := [Cond.classLink RL 13 "java/lang/IllegalArgumentException", Cond.classLink RL 15 "java/lang/IllegalStateException", Cond.methodLink RL 7 yX4_addRow, Cond.instanceMethod yX4_addRow, Cond.selects RX4 yX4_addRow yX4_addRow, Cond.initialized RX4, Cond.code yX4_addRow cX4_addRow 2 (some .int), Cond.fieldLink RX4 21 "FloatMarket" "now" "LFloatMarket$Market;", Cond.fieldLink RX4 32 "FloatMarket$Market" "rowCount" "I", Cond.methodLink RX4 28 yX4_needRange, Cond.static yX4_needRange, Cond.code yX4_needRange cX4_needRange 3 none, Cond.classLink RX4 195 "java/lang/IllegalArgumentException", Cond.initialized "java/lang/IllegalArgumentException", Cond.methodLink RX4 36 yX4_needState, Cond.static yX4_needState, Cond.code yX4_needState cX4_needState 1 none, Cond.classLink RX4 200 "java/lang/IllegalStateException", Cond.initialized "java/lang/IllegalStateException", Cond.methodLink RX4 40 yX1_openRow, Cond.instanceMethod yX1_openRow, Cond.selects RX1 yX1_openRow yX1_openRow, Cond.initialized RX1, Cond.code yX1_openRow cX1_openRow 3 (some .int)]
def wsL_addRow_r2 : List Cond := [Cond.fieldLink RX1 31 "FloatMarket$Market" "rowCount" "I", Cond.fieldLink RX1 17 "FloatMarket$Market" "rows" "[LFloatMarket$Row;", Cond.fieldLink RX1 60 "FloatMarket$Row" "places" "I"]
def wsL_addRow : List Cond := .codeWith yL_addRow cL_addRow 4 (some .int) [(0, 9, 12, 13), (0, 9, 15, 15)] :: ((wsL_addRow_r1 ++ wsL_addRow_r2) ++ wsX40 ++ wsX10 ++ wsX20 ++ (vx_atS RX4 199 "java/lang/IllegalArgumentException" ["java/lang/RuntimeException", "java/lang/Exception"]).filter goodWord ++ (vx_atS RX4 204 "java/lang/IllegalStateException" ["java/lang/RuntimeException", "java/lang/Exception"]).filter goodWord)
def wsL_setWater_r1 : List Cond := [Cond.classLink RL 21 "java/lang/IndexOutOfBoundsException", Cond.classLink RL 13 "java/lang/IllegalArgumentException", Cond.methodLink RL 17 yX4_setWater, Cond.instanceMethod yX4_setWater, Cond.selects RX4 yX4_setWater yX4_setWater, Cond.initialized RX4, Cond.code yX4_setWater cX4_setWater 5 (some .int), Cond.fieldLink RX4 10 "FloatMarket" "water" "LFloatMarket$Water;", Cond.fieldLink RX4 51 "FloatMarket$Water" "tides" "[I", Cond.fieldLink RX4 55 "FloatMarket$Water" "wakes" "[I", Cond.methodLink RX4 44 yX4_needIndex, Cond.static yX4_needIndex, Cond.code yX4_needIndex cX4_needIndex 2 none, Cond.classLink RX4 188 "java/lang/IndexOutOfBoundsException", Cond.initialized "java/lang/IndexOutOfBoundsException", Cond.methodLink RX4 28 yX4_needRange, Cond.static yX4_needRange, Cond.code yX4_needRange cX4_needRange 3 none, Cond.classLink RX4 195 "java/lang/IllegalArgumentException", Cond.initialized "java/lang/IllegalArgumentException", Cond.methodLink RX4 48 yX3_entry, Cond.instanceMethod yX3_entry, Cond.selects RX3 yX3_entry yX3_entry, Cond.initialized RX3]
def wsL_setWater_r2 : List Cond := [Cond.code yX3_entry cX3_entry 2 (some .int), Cond.methodLink RX3 30 yX3_tideIn, Cond.instanceMethod yX3_tideIn, Cond.selects RX3 yX3_tideIn yX3_tideIn, Cond.code yX3_tideIn cX3_tideIn 2 (some .int), Cond.fieldLink RX3 9 "FloatMarket$Water" "tides" "[I", Cond.methodLink RX3 24 yJ9_floorMod_7cf53, Cond.static yJ9_floorMod_7cf53, Cond.initialized RJ9, Cond.code yJ9_floorMod_7cf53 cJ9_floorMod_7cf53 3 (some .int), Cond.methodLink RX3 34 yX3_wakeIn, Cond.instanceMethod yX3_wakeIn, Cond.selects RX3 yX3_wakeIn yX3_wakeIn, Cond.code yX3_wakeIn cX3_wakeIn 2 (some .int), Cond.fieldLink RX3 15 "FloatMarket$Water" "wakes" "[I"]
def wsL_setWater : List Cond := .codeWith yL_setWater cL_setWater 6 (some .int) [(0, 12, 15, 21), (0, 12, 19, 13)] :: ((wsL_setWater_r1 ++ wsL_setWater_r2) ++ wsX40 ++ wsX30 ++ (vx_atS RX4 192 "java/lang/IndexOutOfBoundsException" ["java/lang/RuntimeException", "java/lang/Exception"]).filter goodWord ++ (vx_atS RX4 199 "java/lang/IllegalArgumentException" ["java/lang/RuntimeException", "java/lang/Exception"]).filter goodWord)
def wsL_addCanoe_r1 : List Cond := [Cond.classLink RL 13 "java/lang/IllegalArgumentException", Cond.classLink RL 15 "java/lang/IllegalStateException", Cond.methodLink RL 23 yX4_addCanoe, Cond.instanceMethod yX4_addCanoe, Cond.selects RX4 yX4_addCanoe yX4_addCanoe, Cond.initialized RX4, Cond.code yX4_addCanoe cX4_addCanoe 3 (some .int), Cond.fieldLink RX4 21 "FloatMarket" "now" "LFloatMarket$Market;", Cond.fieldLink RX4 58 "FloatMarket$Market" "canoeCount" "I", Cond.methodLink RX4 28 yX4_needRange, Cond.static yX4_needRange, Cond.code yX4_needRange cX4_needRange 3 none, Cond.classLink RX4 195 "java/lang/IllegalArgumentException", Cond.initialized "java/lang/IllegalArgumentException", Cond.methodLink RX4 36 yX4_needState, Cond.static yX4_needState, Cond.code yX4_needState cX4_needState 1 none, Cond.classLink RX4 200 "java/lang/IllegalStateException", Cond.initialized "java/lang/IllegalStateException", Cond.methodLink RX4 61 yX1_launch, Cond.instanceMethod yX1_launch, Cond.selects RX1 yX1_launch yX1_launch, Cond.initialized RX1, Cond.code yX1_launch cX1_launch 4 (some .int)]
def wsL_addCanoe_r2 : List Cond := [Cond.fieldLink RX1 35 "FloatMarket$Market" "canoeCount" "I", Cond.fieldLink RX1 24 "FloatMarket$Market" "canoes" "[LFloatMarket$Canoe;", Cond.fieldLink RX1 63 "FloatMarket$Canoe" "coins" "I", Cond.fieldLink RX1 66 "FloatMarket$Canoe" "rope" "I"]
def wsL_addCanoe : List Cond := .codeWith yL_addCanoe cL_addCanoe 5 (some .int) [(0, 10, 13, 13), (0, 10, 17, 15)] :: ((wsL_addCanoe_r1 ++ wsL_addCanoe_r2) ++ wsX40 ++ wsX10 ++ wsX00 ++ (vx_atS RX4 199 "java/lang/IllegalArgumentException" ["java/lang/RuntimeException", "java/lang/Exception"]).filter goodWord ++ (vx_atS RX4 204 "java/lang/IllegalStateException" ["java/lang/RuntimeException", "java/lang/Exception"]).filter goodWord)
def wsL_load_r1 : List Cond := [Cond.classLink RL 21 "java/lang/IndexOutOfBoundsException", Cond.classLink RL 13 "java/lang/IllegalArgumentException", Cond.classLink RL 15 "java/lang/IllegalStateException", Cond.methodLink RL 27 yX4_load, Cond.instanceMethod yX4_load, Cond.selects RX4 yX4_load yX4_load, Cond.initialized RX4, Cond.code yX4_load cX4_load 5 (some .int), Cond.fieldLink RX4 21 "FloatMarket" "now" "LFloatMarket$Market;", Cond.fieldLink RX4 58 "FloatMarket$Market" "canoeCount" "I", Cond.fieldLink RX4 65 "FloatMarket$Market" "canoes" "[LFloatMarket$Canoe;", Cond.fieldLink RX4 69 "FloatMarket$Canoe" "status" "I", Cond.fieldLink RX4 74 "FloatMarket$Canoe" "has" "[I", Cond.methodLink RX4 44 yX4_needIndex, Cond.static yX4_needIndex, Cond.code yX4_needIndex cX4_needIndex 2 none, Cond.classLink RX4 188 "java/lang/IndexOutOfBoundsException", Cond.initialized "java/lang/IndexOutOfBoundsException", Cond.methodLink RX4 28 yX4_needRange, Cond.static yX4_needRange, Cond.code yX4_needRange cX4_needRange 3 none, Cond.classLink RX4 195 "java/lang/IllegalArgumentException", Cond.initialized "java/lang/IllegalArgumentException", Cond.methodLink RX4 36 yX4_needState]
def wsL_load_r2 : List Cond := [Cond.static yX4_needState, Cond.code yX4_needState cX4_needState 1 none, Cond.classLink RX4 200 "java/lang/IllegalStateException", Cond.initialized "java/lang/IllegalStateException"]
def wsL_load : List Cond := .codeWith yL_load cL_load 6 (some .int) [(0, 12, 15, 21), (0, 12, 19, 13), (0, 12, 23, 15)] :: ((wsL_load_r1 ++ wsL_load_r2) ++ wsX40 ++ wsX10 ++ wsX00 ++ (vx_atS RX4 192 "java/lang/IndexOutOfBoundsException" ["java/lang/RuntimeException", "java/lang/Exception"]).filter goodWord ++ (vx_atS RX4 199 "java/lang/IllegalArgumentException" ["java/lang/RuntimeException", "java/lang/Exception"]).filter goodWord ++ (vx_atS RX4 204 "java/lang/IllegalStateException" ["java/lang/RuntimeException", "java/lang/Exception"]).filter goodWord)
def wsL_offer_r1 : List Cond := [Cond.classLink RL 21 "java/lang/IndexOutOfBoundsException", Cond.classLink RL 13 "java/lang/IllegalArgumentException", Cond.methodLink RL 30 yX4_offer, Cond.instanceMethod yX4_offer, Cond.selects RX4 yX4_offer yX4_offer, Cond.initialized RX4, Cond.code yX4_offer cX4_offer 7 (some .int), Cond.fieldLink RX4 21 "FloatMarket" "now" "LFloatMarket$Market;", Cond.fieldLink RX4 58 "FloatMarket$Market" "canoeCount" "I", Cond.fieldLink RX4 65 "FloatMarket$Market" "canoes" "[LFloatMarket$Canoe;", Cond.fieldLink RX4 77 "FloatMarket$Canoe" "asks" "[I", Cond.fieldLink RX4 80 "FloatMarket$Canoe" "wants" "[I", Cond.fieldLink RX4 83 "FloatMarket$Canoe" "pays" "[I", Cond.methodLink RX4 44 yX4_needIndex, Cond.static yX4_needIndex, Cond.code yX4_needIndex cX4_needIndex 2 none, Cond.classLink RX4 188 "java/lang/IndexOutOfBoundsException", Cond.initialized "java/lang/IndexOutOfBoundsException", Cond.methodLink RX4 28 yX4_needRange, Cond.static yX4_needRange, Cond.code yX4_needRange cX4_needRange 3 none, Cond.classLink RX4 195 "java/lang/IllegalArgumentException", Cond.initialized "java/lang/IllegalArgumentException", Cond.methodLink RX4 86 yX0_misses]
def wsL_offer_r2 : List Cond := [Cond.instanceMethod yX0_misses, Cond.selects RX0 yX0_misses yX0_misses, Cond.initialized RX0, Cond.code yX0_misses cX0_misses 2 (some .int), Cond.fieldLink RX0 22 "FloatMarket$Canoe" "wants" "[I", Cond.fieldLink RX0 15 "FloatMarket$Canoe" "has" "[I", Cond.methodLink RX0 67 Lib.Math.max.name, Cond.static Lib.Math.max.name, Cond.initialized "java/lang/Math", Cond.code Lib.Math.max.name Lib.Math.max.code 2 (some .int)]
def wsL_offer : List Cond := .codeWith yL_offer cL_offer 8 (some .int) [(0, 16, 19, 21), (0, 16, 23, 13)] :: ((wsL_offer_r1 ++ wsL_offer_r2) ++ wsX40 ++ wsX10 ++ wsX00 ++ (vx_atS RX4 192 "java/lang/IndexOutOfBoundsException" ["java/lang/RuntimeException", "java/lang/Exception"]).filter goodWord ++ (vx_atS RX4 199 "java/lang/IllegalArgumentException" ["java/lang/RuntimeException", "java/lang/Exception"]).filter goodWord)
def wsL_moor_r1 : List Cond := [Cond.classLink RL 21 "java/lang/IndexOutOfBoundsException", Cond.classLink RL 15 "java/lang/IllegalStateException", Cond.methodLink RL 34 yX4_moor, Cond.instanceMethod yX4_moor, Cond.selects RX4 yX4_moor yX4_moor, Cond.initialized RX4, Cond.code yX4_moor cX4_moor 4 (some .int), Cond.fieldLink RX4 21 "FloatMarket" "now" "LFloatMarket$Market;", Cond.fieldLink RX4 58 "FloatMarket$Market" "canoeCount" "I", Cond.fieldLink RX4 32 "FloatMarket$Market" "rowCount" "I", Cond.fieldLink RX4 65 "FloatMarket$Market" "canoes" "[LFloatMarket$Canoe;", Cond.fieldLink RX4 69 "FloatMarket$Canoe" "status" "I", Cond.fieldLink RX4 89 "FloatMarket$Market" "rows" "[LFloatMarket$Row;", Cond.fieldLink RX4 103 "FloatMarket$Canoe" "place" "I", Cond.methodLink RX4 44 yX4_needIndex, Cond.static yX4_needIndex, Cond.code yX4_needIndex cX4_needIndex 2 none, Cond.classLink RX4 188 "java/lang/IndexOutOfBoundsException", Cond.initialized "java/lang/IndexOutOfBoundsException", Cond.methodLink RX4 93 yX2_isFull, Cond.instanceMethod yX2_isFull, Cond.selects RX2 yX2_isFull yX2_isFull, Cond.initialized RX2, Cond.code yX2_isFull cX2_isFull 1 (some .boolean)]
def wsL_moor_r2 : List Cond := [Cond.fieldLink RX2 19 "FloatMarket$Row" "used" "I", Cond.fieldLink RX2 15 "FloatMarket$Row" "places" "I", Cond.methodLink RX4 36 yX4_needState, Cond.static yX4_needState, Cond.code yX4_needState cX4_needState 1 none, Cond.classLink RX4 200 "java/lang/IllegalStateException", Cond.initialized "java/lang/IllegalStateException", Cond.methodLink RX4 99 yX1_fasten, Cond.instanceMethod yX1_fasten, Cond.selects RX1 yX1_fasten yX1_fasten, Cond.initialized RX1, Cond.code yX1_fasten cX1_fasten 3 none, Cond.fieldLink RX1 69 "FloatMarket$Canoe" "status" "I", Cond.fieldLink RX1 72 "FloatMarket$Canoe" "row" "I", Cond.fieldLink RX1 17 "FloatMarket$Market" "rows" "[LFloatMarket$Row;", Cond.fieldLink RX1 75 "FloatMarket$Row" "used" "I", Cond.fieldLink RX1 78 "FloatMarket$Canoe" "place" "I", Cond.fieldLink RX1 81 "FloatMarket$Canoe" "number" "I", Cond.methodLink RX1 84 yX2_append, Cond.instanceMethod yX2_append, Cond.selects RX2 yX2_append yX2_append, Cond.code yX2_append cX2_append 2 none, Cond.fieldLink RX2 9 "FloatMarket$Row" "moored" "[I"]
def wsL_moor : List Cond := .codeWith yL_moor cL_moor 5 (some .int) [(0, 10, 13, 21), (0, 10, 17, 15)] :: ((wsL_moor_r1 ++ wsL_moor_r2) ++ wsX40 ++ wsX10 ++ wsX00 ++ wsX20 ++ (vx_atS RX4 192 "java/lang/IndexOutOfBoundsException" ["java/lang/RuntimeException", "java/lang/Exception"]).filter goodWord ++ (vx_atS RX4 204 "java/lang/IllegalStateException" ["java/lang/RuntimeException", "java/lang/Exception"]).filter goodWord)
def wsL_castOff_r1 : List Cond := [Cond.classLink RL 21 "java/lang/IndexOutOfBoundsException", Cond.classLink RL 15 "java/lang/IllegalStateException", Cond.methodLink RL 37 yX4_castOff, Cond.instanceMethod yX4_castOff, Cond.selects RX4 yX4_castOff yX4_castOff, Cond.initialized RX4, Cond.code yX4_castOff cX4_castOff 3 (some .int), Cond.fieldLink RX4 21 "FloatMarket" "now" "LFloatMarket$Market;", Cond.fieldLink RX4 58 "FloatMarket$Market" "canoeCount" "I", Cond.fieldLink RX4 65 "FloatMarket$Market" "canoes" "[LFloatMarket$Canoe;", Cond.fieldLink RX4 69 "FloatMarket$Canoe" "status" "I", Cond.methodLink RX4 44 yX4_needIndex, Cond.static yX4_needIndex, Cond.code yX4_needIndex cX4_needIndex 2 none, Cond.classLink RX4 188 "java/lang/IndexOutOfBoundsException", Cond.initialized "java/lang/IndexOutOfBoundsException", Cond.methodLink RX4 106 yX1_liesDry, Cond.instanceMethod yX1_liesDry, Cond.selects RX1 yX1_liesDry yX1_liesDry, Cond.initialized RX1, Cond.code yX1_liesDry cX1_liesDry 2 (some .boolean), Cond.fieldLink RX1 69 "FloatMarket$Canoe" "status" "I", Cond.fieldLink RX1 78 "FloatMarket$Canoe" "place" "I", Cond.fieldLink RX1 9 "FloatMarket$Market" "water" "LFloatMarket$Water;"]
def wsL_castOff_r2 : List Cond := [Cond.fieldLink RX1 38 "FloatMarket$Market" "step" "I", Cond.methodLink RX1 95 yX3_tideIn, Cond.instanceMethod yX3_tideIn, Cond.selects RX3 yX3_tideIn yX3_tideIn, Cond.initialized RX3, Cond.code yX3_tideIn cX3_tideIn 2 (some .int), Cond.fieldLink RX3 9 "FloatMarket$Water" "tides" "[I", Cond.methodLink RX3 24 yJ9_floorMod_7cf53, Cond.static yJ9_floorMod_7cf53, Cond.initialized RJ9, Cond.code yJ9_floorMod_7cf53 cJ9_floorMod_7cf53 3 (some .int), Cond.methodLink RX4 36 yX4_needState, Cond.static yX4_needState, Cond.code yX4_needState cX4_needState 1 none, Cond.classLink RX4 200 "java/lang/IllegalStateException", Cond.initialized "java/lang/IllegalStateException", Cond.methodLink RX4 110 yX1_unfasten, Cond.instanceMethod yX1_unfasten, Cond.selects RX1 yX1_unfasten yX1_unfasten, Cond.code yX1_unfasten cX1_unfasten 6 (some .int), Cond.fieldLink RX1 17 "FloatMarket$Market" "rows" "[LFloatMarket$Row;", Cond.fieldLink RX1 72 "FloatMarket$Canoe" "row" "I", Cond.fieldLink RX1 75 "FloatMarket$Row" "used" "I", Cond.fieldLink RX1 24 "FloatMarket$Market" "canoes" "[LFloatMarket$Canoe;"]
def wsL_castOff_r3 : List Cond := [Cond.fieldLink RX1 90 "FloatMarket$Row" "moored" "[I", Cond.fieldLink RX1 94 "FloatMarket$Canoe" "loosened" "I", Cond.fieldLink RX1 47 "FloatMarket$Market" "loosened" "I", Cond.methodLink RX1 87 yX2_closeGap, Cond.instanceMethod yX2_closeGap, Cond.selects RX2 yX2_closeGap yX2_closeGap, Cond.initialized RX2, Cond.code yX2_closeGap cX2_closeGap 3 none, Cond.fieldLink RX2 19 "FloatMarket$Row" "used" "I", Cond.fieldLink RX2 9 "FloatMarket$Row" "moored" "[I"]
def wsL_castOff : List Cond := .codeWith yL_castOff cL_castOff 4 (some .int) [(0, 9, 12, 21), (0, 9, 15, 15)] :: ((wsL_castOff_r1 ++ (wsL_castOff_r2 ++ wsL_castOff_r3)) ++ wsX40 ++ wsX10 ++ wsX00 ++ wsX30 ++ wsX20 ++ (vx_atS RX4 192 "java/lang/IndexOutOfBoundsException" ["java/lang/RuntimeException", "java/lang/Exception"]).filter goodWord ++ (vx_atS RX4 204 "java/lang/IllegalStateException" ["java/lang/RuntimeException", "java/lang/Exception"]).filter goodWord)
def wsL_leaveIn_r1 : List Cond := [Cond.classLink RL 21 "java/lang/IndexOutOfBoundsException", Cond.classLink RL 13 "java/lang/IllegalArgumentException", Cond.classLink RL 15 "java/lang/IllegalStateException", Cond.methodLink RL 40 yX4_leaveIn, Cond.instanceMethod yX4_leaveIn, Cond.selects RX4 yX4_leaveIn yX4_leaveIn, Cond.initialized RX4, Cond.code yX4_leaveIn cX4_leaveIn 5 (some .int), Cond.fieldLink RX4 21 "FloatMarket" "now" "LFloatMarket$Market;", Cond.fieldLink RX4 58 "FloatMarket$Market" "canoeCount" "I", Cond.fieldLink RX4 114 "FloatMarket$Market" "step" "I", Cond.constant RX4 119 (2147483647), Cond.fieldLink RX4 65 "FloatMarket$Market" "canoes" "[LFloatMarket$Canoe;", Cond.fieldLink RX4 69 "FloatMarket$Canoe" "status" "I", Cond.fieldLink RX4 120 "FloatMarket$Canoe" "leaveStep" "I", Cond.methodLink RX4 44 yX4_needIndex, Cond.static yX4_needIndex, Cond.code yX4_needIndex cX4_needIndex 2 none, Cond.classLink RX4 188 "java/lang/IndexOutOfBoundsException", Cond.initialized "java/lang/IndexOutOfBoundsException", Cond.methodLink RX4 28 yX4_needRange, Cond.static yX4_needRange, Cond.code yX4_needRange cX4_needRange 3 none, Cond.classLink RX4 195 "java/lang/IllegalArgumentException"]
def wsL_leaveIn_r2 : List Cond := [Cond.initialized "java/lang/IllegalArgumentException", Cond.methodLink RX4 36 yX4_needState, Cond.static yX4_needState, Cond.code yX4_needState cX4_needState 1 none, Cond.classLink RX4 200 "java/lang/IllegalStateException", Cond.initialized "java/lang/IllegalStateException"]
def wsL_leaveIn : List Cond := .codeWith yL_leaveIn cL_leaveIn 5 (some .int) [(0, 10, 13, 21), (0, 10, 17, 13), (0, 10, 21, 15)] :: ((wsL_leaveIn_r1 ++ wsL_leaveIn_r2) ++ wsX40 ++ wsX10 ++ wsX00 ++ (vx_atS RX4 192 "java/lang/IndexOutOfBoundsException" ["java/lang/RuntimeException", "java/lang/Exception"]).filter goodWord ++ (vx_atS RX4 199 "java/lang/IllegalArgumentException" ["java/lang/RuntimeException", "java/lang/Exception"]).filter goodWord ++ (vx_atS RX4 204 "java/lang/IllegalStateException" ["java/lang/RuntimeException", "java/lang/Exception"]).filter goodWord)
def wsL_canoe_r1 : List Cond := [Cond.classLink RL 21 "java/lang/IndexOutOfBoundsException", Cond.methodLink RL 43 yX4_canoe, Cond.instanceMethod yX4_canoe, Cond.selects RX4 yX4_canoe yX4_canoe, Cond.initialized RX4, Cond.code yX4_canoe cX4_canoe 3 (some .int), Cond.fieldLink RX4 21 "FloatMarket" "now" "LFloatMarket$Market;", Cond.fieldLink RX4 58 "FloatMarket$Market" "canoeCount" "I", Cond.fieldLink RX4 65 "FloatMarket$Market" "canoes" "[LFloatMarket$Canoe;", Cond.methodLink RX4 44 yX4_needIndex, Cond.static yX4_needIndex, Cond.code yX4_needIndex cX4_needIndex 2 none, Cond.classLink RX4 188 "java/lang/IndexOutOfBoundsException", Cond.initialized "java/lang/IndexOutOfBoundsException", Cond.methodLink RX4 123 yX0_figure, Cond.instanceMethod yX0_figure, Cond.selects RX0 yX0_figure yX0_figure, Cond.initialized RX0, Cond.code yX0_figure cX0_figure 2 (some .int), Cond.fieldLink RX0 43 "FloatMarket$Canoe" "coins" "I", Cond.fieldLink RX0 46 "FloatMarket$Canoe" "rope" "I", Cond.fieldLink RX0 28 "FloatMarket$Canoe" "status" "I", Cond.fieldLink RX0 31 "FloatMarket$Canoe" "row" "I", Cond.fieldLink RX0 34 "FloatMarket$Canoe" "place" "I"]
def wsL_canoe_r2 : List Cond := [Cond.fieldLink RX0 37 "FloatMarket$Canoe" "leaveStep" "I", Cond.fieldLink RX0 49 "FloatMarket$Canoe" "loosened" "I", Cond.fieldLink RX0 52 "FloatMarket$Canoe" "drifted" "I", Cond.fieldLink RX0 55 "FloatMarket$Canoe" "sold" "I", Cond.fieldLink RX0 58 "FloatMarket$Canoe" "bought" "I", Cond.methodLink RX0 80 yX0_missesInAll, Cond.instanceMethod yX0_missesInAll, Cond.selects RX0 yX0_missesInAll yX0_missesInAll, Cond.code yX0_missesInAll cX0_missesInAll 3 (some .int), Cond.methodLink RX0 73 yX0_misses, Cond.instanceMethod yX0_misses, Cond.selects RX0 yX0_misses yX0_misses, Cond.code yX0_misses cX0_misses 2 (some .int), Cond.fieldLink RX0 22 "FloatMarket$Canoe" "wants" "[I", Cond.fieldLink RX0 15 "FloatMarket$Canoe" "has" "[I", Cond.methodLink RX0 67 Lib.Math.max.name, Cond.static Lib.Math.max.name, Cond.initialized "java/lang/Math", Cond.code Lib.Math.max.name Lib.Math.max.code 2 (some .int)]
def wsL_canoe : List Cond := .codeWith yL_canoe cL_canoe 5 (some .int) [(0, 10, 13, 21)] :: ((wsL_canoe_r1 ++ wsL_canoe_r2) ++ wsX40 ++ wsX10 ++ wsX00 ++ (vx_atS RX4 192 "java/lang/IndexOutOfBoundsException" ["java/lang/RuntimeException", "java/lang/Exception"]).filter goodWord)
def wsL_good : List Cond := .codeWith yL_good cL_good 6 (some .int) [(0, 12, 15, 21)] :: ([.classLink RL 21 "java/lang/IndexOutOfBoundsException", .methodLink RL 46 yX4_good, .instanceMethod yX4_good, .selects RX4 yX4_good yX4_good, .initialized RX4, .code yX4_good cX4_good 4 (some .int), .fieldLink RX4 21 "FloatMarket" "now" "LFloatMarket$Market;", .fieldLink RX4 58 "FloatMarket$Market" "canoeCount" "I", .fieldLink RX4 65 "FloatMarket$Market" "canoes" "[LFloatMarket$Canoe;", .methodLink RX4 44 yX4_needIndex, .static yX4_needIndex, .code yX4_needIndex cX4_needIndex 2 none, .classLink RX4 188 "java/lang/IndexOutOfBoundsException", .initialized "java/lang/IndexOutOfBoundsException", .methodLink RX4 126 yX0_goodFigure, .instanceMethod yX0_goodFigure, .selects RX0 yX0_goodFigure yX0_goodFigure, .initialized RX0, .code yX0_goodFigure cX0_goodFigure 3 (some .int), .fieldLink RX0 15 "FloatMarket$Canoe" "has" "[I", .fieldLink RX0 19 "FloatMarket$Canoe" "asks" "[I", .fieldLink RX0 22 "FloatMarket$Canoe" "wants" "[I", .fieldLink RX0 25 "FloatMarket$Canoe" "pays" "[I"] ++ wsX40 ++ wsX10 ++ wsX00 ++ (vx_atS RX4 192 "java/lang/IndexOutOfBoundsException" ["java/lang/RuntimeException", "java/lang/Exception"]).filter goodWord)
def wsL_at : List Cond := .codeWith yL_at cL_at 5 (some .int) [(0, 10, 13, 21)] :: ([.classLink RL 21 "java/lang/IndexOutOfBoundsException", .methodLink RL 49 yX4_at, .instanceMethod yX4_at, .selects RX4 yX4_at yX4_at, .initialized RX4, .code yX4_at cX4_at 3 (some .int), .fieldLink RX4 21 "FloatMarket" "now" "LFloatMarket$Market;", .fieldLink RX4 32 "FloatMarket$Market" "rowCount" "I", .fieldLink RX4 89 "FloatMarket$Market" "rows" "[LFloatMarket$Row;", .fieldLink RX4 129 "FloatMarket$Row" "places" "I", .methodLink RX4 44 yX4_needIndex, .static yX4_needIndex, .code yX4_needIndex cX4_needIndex 2 none, .classLink RX4 188 "java/lang/IndexOutOfBoundsException", .initialized "java/lang/IndexOutOfBoundsException", .methodLink RX4 132 yX2_canoeAt, .instanceMethod yX2_canoeAt, .selects RX2 yX2_canoeAt yX2_canoeAt, .initialized RX2, .code yX2_canoeAt cX2_canoeAt 2 (some .int), .fieldLink RX2 19 "FloatMarket$Row" "used" "I", .fieldLink RX2 9 "FloatMarket$Row" "moored" "[I"] ++ wsX40 ++ wsX10 ++ wsX20 ++ (vx_atS RX4 192 "java/lang/IndexOutOfBoundsException" ["java/lang/RuntimeException", "java/lang/Exception"]).filter goodWord)
def wsL_beside_r1 : List Cond := [Cond.classLink RL 21 "java/lang/IndexOutOfBoundsException", Cond.methodLink RL 52 yX4_beside, Cond.instanceMethod yX4_beside, Cond.selects RX4 yX4_beside yX4_beside, Cond.initialized RX4, Cond.code yX4_beside cX4_beside 3 (some .boolean), Cond.fieldLink RX4 21 "FloatMarket" "now" "LFloatMarket$Market;", Cond.fieldLink RX4 58 "FloatMarket$Market" "canoeCount" "I", Cond.fieldLink RX4 65 "FloatMarket$Market" "canoes" "[LFloatMarket$Canoe;", Cond.methodLink RX4 44 yX4_needIndex, Cond.static yX4_needIndex, Cond.code yX4_needIndex cX4_needIndex 2 none, Cond.classLink RX4 188 "java/lang/IndexOutOfBoundsException", Cond.initialized "java/lang/IndexOutOfBoundsException", Cond.methodLink RX4 135 yX0_isBeside, Cond.instanceMethod yX0_isBeside, Cond.selects RX0 yX0_isBeside yX0_isBeside, Cond.initialized RX0, Cond.code yX0_isBeside cX0_isBeside 4 (some .boolean), Cond.fieldLink RX0 28 "FloatMarket$Canoe" "status" "I", Cond.fieldLink RX0 31 "FloatMarket$Canoe" "row" "I", Cond.methodLink RX0 77 Lib.Math.abs.name, Cond.static Lib.Math.abs.name, Cond.initialized "java/lang/Math"]
def wsL_beside_r2 : List Cond := [Cond.code Lib.Math.abs.name Lib.Math.abs.code 1 (some .int), Cond.fieldLink RX0 34 "FloatMarket$Canoe" "place" "I"]
def wsL_beside : List Cond := .codeWith yL_beside cL_beside 5 (some .int) [(0, 17, 20, 21)] :: ((wsL_beside_r1 ++ wsL_beside_r2) ++ wsX40 ++ wsX10 ++ wsX00 ++ (vx_atS RX4 192 "java/lang/IndexOutOfBoundsException" ["java/lang/RuntimeException", "java/lang/Exception"]).filter goodWord)
def wsL_pass_r1 : List Cond := [Cond.classLink RL 13 "java/lang/IllegalArgumentException", Cond.methodLink RL 56 yX4_pass, Cond.instanceMethod yX4_pass, Cond.selects RX4 yX4_pass yX4_pass, Cond.initialized RX4, Cond.code yX4_pass cX4_pass 3 (some .int), Cond.fieldLink RX4 21 "FloatMarket" "now" "LFloatMarket$Market;", Cond.fieldLink RX4 138 "FloatMarket$Market" "sold" "I", Cond.methodLink RX4 28 yX4_needRange, Cond.static yX4_needRange, Cond.code yX4_needRange cX4_needRange 3 none, Cond.classLink RX4 195 "java/lang/IllegalArgumentException", Cond.initialized "java/lang/IllegalArgumentException", Cond.methodLink RX4 141 yX1_passSteps, Cond.instanceMethod yX1_passSteps, Cond.selects RX1 yX1_passSteps yX1_passSteps, Cond.initialized RX1, Cond.code yX1_passSteps cX1_passSteps 3 none, Cond.fieldLink RX1 38 "FloatMarket$Market" "step" "I", Cond.methodLink RX1 101 yX1_driftByRows, Cond.instanceMethod yX1_driftByRows, Cond.selects RX1 yX1_driftByRows yX1_driftByRows, Cond.code yX1_driftByRows cX1_driftByRows 4 none, Cond.fieldLink RX1 9 "FloatMarket$Market" "water" "LFloatMarket$Water;"]
def wsL_pass_r2 : List Cond := [Cond.fieldLink RX1 31 "FloatMarket$Market" "rowCount" "I", Cond.fieldLink RX1 17 "FloatMarket$Market" "rows" "[LFloatMarket$Row;", Cond.fieldLink RX1 75 "FloatMarket$Row" "used" "I", Cond.fieldLink RX1 66 "FloatMarket$Canoe" "rope" "I", Cond.fieldLink RX1 117 "FloatMarket$Canoe" "lastDriftStep" "I", Cond.methodLink RX1 110 yX3_wakeIn, Cond.instanceMethod yX3_wakeIn, Cond.selects RX3 yX3_wakeIn yX3_wakeIn, Cond.initialized RX3, Cond.code yX3_wakeIn cX3_wakeIn 2 (some .int), Cond.fieldLink RX3 15 "FloatMarket$Water" "wakes" "[I", Cond.methodLink RX3 24 yJ9_floorMod_7cf53, Cond.static yJ9_floorMod_7cf53, Cond.initialized RJ9, Cond.code yJ9_floorMod_7cf53 cJ9_floorMod_7cf53 3 (some .int), Cond.methodLink RX1 113 yX1_canoeAt, Cond.instanceMethod yX1_canoeAt, Cond.selects RX1 yX1_canoeAt yX1_canoeAt, Cond.code yX1_canoeAt cX1_canoeAt 4 (some (.object "FloatMarket$Canoe")), Cond.fieldLink RX1 24 "FloatMarket$Market" "canoes" "[LFloatMarket$Canoe;", Cond.methodLink RX1 185 yX2_canoeAt, Cond.instanceMethod yX2_canoeAt, Cond.selects RX2 yX2_canoeAt yX2_canoeAt, Cond.initialized RX2]
def wsL_pass_r3 : List Cond := [Cond.code yX2_canoeAt cX2_canoeAt 2 (some .int), Cond.fieldLink RX2 19 "FloatMarket$Row" "used" "I", Cond.fieldLink RX2 9 "FloatMarket$Row" "moored" "[I", Cond.methodLink RX1 120 yX1_drift, Cond.instanceMethod yX1_drift, Cond.selects RX1 yX1_drift yX1_drift, Cond.code yX1_drift cX1_drift 4 none, Cond.fieldLink RX1 134 "FloatMarket$Canoe" "drifted" "I", Cond.fieldLink RX1 50 "FloatMarket$Market" "drifted" "I", Cond.methodLink RX1 124 yX1_unfasten, Cond.instanceMethod yX1_unfasten, Cond.selects RX1 yX1_unfasten yX1_unfasten, Cond.code yX1_unfasten cX1_unfasten 6 (some .int), Cond.fieldLink RX1 69 "FloatMarket$Canoe" "status" "I", Cond.fieldLink RX1 72 "FloatMarket$Canoe" "row" "I", Cond.fieldLink RX1 78 "FloatMarket$Canoe" "place" "I", Cond.fieldLink RX1 90 "FloatMarket$Row" "moored" "[I", Cond.fieldLink RX1 94 "FloatMarket$Canoe" "loosened" "I", Cond.fieldLink RX1 47 "FloatMarket$Market" "loosened" "I", Cond.methodLink RX1 87 yX2_closeGap, Cond.instanceMethod yX2_closeGap, Cond.selects RX2 yX2_closeGap yX2_closeGap, Cond.code yX2_closeGap cX2_closeGap 3 none, Cond.methodLink RX1 128 yX1_nextRowNotFull]
def wsL_pass_r4 : List Cond := [Cond.instanceMethod yX1_nextRowNotFull, Cond.selects RX1 yX1_nextRowNotFull yX1_nextRowNotFull, Cond.code yX1_nextRowNotFull cX1_nextRowNotFull 4 (some .int), Cond.methodLink RX1 135 yX2_isFull, Cond.instanceMethod yX2_isFull, Cond.selects RX2 yX2_isFull yX2_isFull, Cond.code yX2_isFull cX2_isFull 1 (some .boolean), Cond.fieldLink RX2 15 "FloatMarket$Row" "places" "I", Cond.methodLink RX1 131 yX1_fasten, Cond.instanceMethod yX1_fasten, Cond.selects RX1 yX1_fasten yX1_fasten, Cond.code yX1_fasten cX1_fasten 3 none, Cond.fieldLink RX1 81 "FloatMarket$Canoe" "number" "I", Cond.methodLink RX1 84 yX2_append, Cond.instanceMethod yX2_append, Cond.selects RX2 yX2_append yX2_append, Cond.code yX2_append cX2_append 2 none, Cond.methodLink RX1 104 yX1_leaveByNumbers, Cond.instanceMethod yX1_leaveByNumbers, Cond.selects RX1 yX1_leaveByNumbers yX1_leaveByNumbers, Cond.code yX1_leaveByNumbers cX1_leaveByNumbers 3 none, Cond.fieldLink RX1 35 "FloatMarket$Market" "canoeCount" "I", Cond.methodLink RX1 139 yX0_isToLeaveBy, Cond.instanceMethod yX0_isToLeaveBy]
def wsL_pass_r5 : List Cond := [Cond.selects RX0 yX0_isToLeaveBy yX0_isToLeaveBy, Cond.initialized RX0, Cond.code yX0_isToLeaveBy cX0_isToLeaveBy 2 (some .boolean), Cond.fieldLink RX0 37 "FloatMarket$Canoe" "leaveStep" "I", Cond.methodLink RX1 143 yX1_liesDry, Cond.instanceMethod yX1_liesDry, Cond.selects RX1 yX1_liesDry yX1_liesDry, Cond.code yX1_liesDry cX1_liesDry 2 (some .boolean), Cond.methodLink RX1 95 yX3_tideIn, Cond.instanceMethod yX3_tideIn, Cond.selects RX3 yX3_tideIn yX3_tideIn, Cond.code yX3_tideIn cX3_tideIn 2 (some .int), Cond.fieldLink RX3 9 "FloatMarket$Water" "tides" "[I", Cond.methodLink RX1 107 yX1_tradeByNumbers, Cond.instanceMethod yX1_tradeByNumbers, Cond.selects RX1 yX1_tradeByNumbers yX1_tradeByNumbers, Cond.code yX1_tradeByNumbers cX1_tradeByNumbers 4 none, Cond.methodLink RX1 147 yX0_misses, Cond.instanceMethod yX0_misses, Cond.selects RX0 yX0_misses yX0_misses, Cond.code yX0_misses cX0_misses 2 (some .int), Cond.fieldLink RX0 22 "FloatMarket$Canoe" "wants" "[I", Cond.fieldLink RX0 15 "FloatMarket$Canoe" "has" "[I", Cond.methodLink RX0 67 Lib.Math.max.name]
def wsL_pass_r6 : List Cond := [Cond.static Lib.Math.max.name, Cond.initialized "java/lang/Math", Cond.code Lib.Math.max.name Lib.Math.max.code 2 (some .int), Cond.methodLink RX1 150 yX1_cheapestSeller, Cond.instanceMethod yX1_cheapestSeller, Cond.selects RX1 yX1_cheapestSeller yX1_cheapestSeller, Cond.code yX1_cheapestSeller cX1_cheapestSeller 7 (some (.object "FloatMarket$Canoe")), Cond.fieldLink RX1 158 "FloatMarket$Canoe" "pays" "[I", Cond.fieldLink RX1 63 "FloatMarket$Canoe" "coins" "I", Cond.methodLink RX1 161 Lib.Math.min.name, Cond.static Lib.Math.min.name, Cond.code Lib.Math.min.name Lib.Math.min.code 2 (some .int), Cond.methodLink RX1 167 yX1_cheaper, Cond.instanceMethod yX1_cheaper, Cond.selects RX1 yX1_cheaper yX1_cheaper, Cond.code yX1_cheaper cX1_cheaper 6 (some (.object "FloatMarket$Canoe")), Cond.fieldLink RX1 175 "FloatMarket$Canoe" "asks" "[I", Cond.methodLink RX1 171 yX0_sells, Cond.instanceMethod yX0_sells, Cond.selects RX0 yX0_sells yX0_sells, Cond.code yX0_sells cX0_sells 3 (some .boolean), Cond.fieldLink RX0 19 "FloatMarket$Canoe" "asks" "[I", Cond.methodLink RX1 154 yX1_trade, Cond.instanceMethod yX1_trade]
def wsL_pass_r7 : List Cond := [Cond.selects RX1 yX1_trade yX1_trade, Cond.code yX1_trade cX1_trade 5 none, Cond.fieldLink RX1 178 "FloatMarket$Canoe" "has" "[I", Cond.fieldLink RX1 181 "FloatMarket$Canoe" "sold" "I", Cond.fieldLink RX1 182 "FloatMarket$Canoe" "bought" "I", Cond.fieldLink RX1 41 "FloatMarket$Market" "sold" "I", Cond.fieldLink RX1 44 "FloatMarket$Market" "paid" "I"]
def wsL_pass : List Cond := .codeWith yL_pass cL_pass 4 (some .int) [(0, 9, 12, 13)] :: ((wsL_pass_r1 ++ (wsL_pass_r2 ++ (wsL_pass_r3 ++ (wsL_pass_r4 ++ (wsL_pass_r5 ++ (wsL_pass_r6 ++ wsL_pass_r7)))))) ++ wsX40 ++ wsX10 ++ wsX20 ++ wsX00 ++ wsX30 ++ (vx_atS RX4 199 "java/lang/IllegalArgumentException" ["java/lang/RuntimeException", "java/lang/Exception"]).filter goodWord)
def wsL_count_r1 : List Cond := [Cond.classLink RL 21 "java/lang/IndexOutOfBoundsException", Cond.methodLink RL 59 yX4_count, Cond.instanceMethod yX4_count, Cond.selects RX4 yX4_count yX4_count, Cond.initialized RX4, Cond.code yX4_count cX4_count 2 (some .int), Cond.fieldLink RX4 21 "FloatMarket" "now" "LFloatMarket$Market;", Cond.methodLink RX4 44 yX4_needIndex, Cond.static yX4_needIndex, Cond.code yX4_needIndex cX4_needIndex 2 none, Cond.classLink RX4 188 "java/lang/IndexOutOfBoundsException", Cond.initialized "java/lang/IndexOutOfBoundsException", Cond.methodLink RX4 145 yX1_figure, Cond.instanceMethod yX1_figure, Cond.selects RX1 yX1_figure yX1_figure, Cond.initialized RX1, Cond.code yX1_figure cX1_figure 2 (some .int), Cond.fieldLink RX1 38 "FloatMarket$Market" "step" "I", Cond.fieldLink RX1 31 "FloatMarket$Market" "rowCount" "I", Cond.fieldLink RX1 35 "FloatMarket$Market" "canoeCount" "I", Cond.fieldLink RX1 41 "FloatMarket$Market" "sold" "I", Cond.fieldLink RX1 44 "FloatMarket$Market" "paid" "I", Cond.fieldLink RX1 47 "FloatMarket$Market" "loosened" "I", Cond.fieldLink RX1 50 "FloatMarket$Market" "drifted" "I"]
def wsL_count_r2 : List Cond := [Cond.methodLink RX1 187 yX1_canoesBeing, Cond.instanceMethod yX1_canoesBeing, Cond.selects RX1 yX1_canoesBeing yX1_canoesBeing, Cond.code yX1_canoesBeing cX1_canoesBeing 4 (some .int), Cond.fieldLink RX1 24 "FloatMarket$Market" "canoes" "[LFloatMarket$Canoe;", Cond.fieldLink RX1 69 "FloatMarket$Canoe" "status" "I", Cond.methodLink RX1 190 yX1_coinsInAll, Cond.instanceMethod yX1_coinsInAll, Cond.selects RX1 yX1_coinsInAll yX1_coinsInAll, Cond.code yX1_coinsInAll cX1_coinsInAll 3 (some .int), Cond.fieldLink RX1 63 "FloatMarket$Canoe" "coins" "I", Cond.methodLink RX1 194 yX1_goodsInAll, Cond.instanceMethod yX1_goodsInAll, Cond.selects RX1 yX1_goodsInAll yX1_goodsInAll, Cond.code yX1_goodsInAll cX1_goodsInAll 3 (some .int), Cond.methodLink RX1 200 yX0_goodsInAll, Cond.instanceMethod yX0_goodsInAll, Cond.selects RX0 yX0_goodsInAll yX0_goodsInAll, Cond.initialized RX0, Cond.code yX0_goodsInAll cX0_goodsInAll 3 (some .int), Cond.fieldLink RX0 15 "FloatMarket$Canoe" "has" "[I", Cond.methodLink RX1 197 yX1_dryCanoes, Cond.instanceMethod yX1_dryCanoes, Cond.selects RX1 yX1_dryCanoes yX1_dryCanoes]
def wsL_count_r3 : List Cond := [Cond.code yX1_dryCanoes cX1_dryCanoes 3 (some .int), Cond.methodLink RX1 143 yX1_liesDry, Cond.instanceMethod yX1_liesDry, Cond.selects RX1 yX1_liesDry yX1_liesDry, Cond.code yX1_liesDry cX1_liesDry 2 (some .boolean), Cond.fieldLink RX1 78 "FloatMarket$Canoe" "place" "I", Cond.fieldLink RX1 9 "FloatMarket$Market" "water" "LFloatMarket$Water;", Cond.methodLink RX1 95 yX3_tideIn, Cond.instanceMethod yX3_tideIn, Cond.selects RX3 yX3_tideIn yX3_tideIn, Cond.initialized RX3, Cond.code yX3_tideIn cX3_tideIn 2 (some .int), Cond.fieldLink RX3 9 "FloatMarket$Water" "tides" "[I", Cond.methodLink RX3 24 yJ9_floorMod_7cf53, Cond.static yJ9_floorMod_7cf53, Cond.initialized RJ9, Cond.code yJ9_floorMod_7cf53 cJ9_floorMod_7cf53 3 (some .int)]
def wsL_count : List Cond := .codeWith yL_count cL_count 4 (some .int) [(0, 9, 12, 21)] :: ((wsL_count_r1 ++ (wsL_count_r2 ++ wsL_count_r3)) ++ wsX40 ++ wsX10 ++ wsX00 ++ wsX30 ++ (vx_atS RX4 192 "java/lang/IndexOutOfBoundsException" ["java/lang/RuntimeException", "java/lang/Exception"]).filter goodWord)
def wsL_foresee_r1 : List Cond := [Cond.classLink RL 21 "java/lang/IndexOutOfBoundsException", Cond.classLink RL 13 "java/lang/IllegalArgumentException", Cond.methodLink RL 62 yX4_foresee, Cond.instanceMethod yX4_foresee, Cond.selects RX4 yX4_foresee yX4_foresee, Cond.initialized RX4, Cond.code yX4_foresee cX4_foresee 5 (some .int), Cond.fieldLink RX4 21 "FloatMarket" "now" "LFloatMarket$Market;", Cond.fieldLink RX4 58 "FloatMarket$Market" "canoeCount" "I", Cond.fieldLink RX4 25 "FloatMarket" "trial" "LFloatMarket$Market;", Cond.fieldLink RX4 65 "FloatMarket$Market" "canoes" "[LFloatMarket$Canoe;", Cond.fieldLink RX4 150 "FloatMarket$Canoe" "coins" "I", Cond.fieldLink RX4 157 "FloatMarket$Canoe" "row" "I", Cond.methodLink RX4 44 yX4_needIndex, Cond.static yX4_needIndex, Cond.code yX4_needIndex cX4_needIndex 2 none, Cond.classLink RX4 188 "java/lang/IndexOutOfBoundsException", Cond.initialized "java/lang/IndexOutOfBoundsException", Cond.methodLink RX4 28 yX4_needRange, Cond.static yX4_needRange, Cond.code yX4_needRange cX4_needRange 3 none, Cond.classLink RX4 195 "java/lang/IllegalArgumentException", Cond.initialized "java/lang/IllegalArgumentException", Cond.methodLink RX4 146 yX1_copyFrom]
def wsL_foresee_r2 : List Cond := [Cond.instanceMethod yX1_copyFrom, Cond.selects RX1 yX1_copyFrom yX1_copyFrom, Cond.initialized RX1, Cond.code yX1_copyFrom cX1_copyFrom 3 none, Cond.fieldLink RX1 31 "FloatMarket$Market" "rowCount" "I", Cond.fieldLink RX1 35 "FloatMarket$Market" "canoeCount" "I", Cond.fieldLink RX1 38 "FloatMarket$Market" "step" "I", Cond.fieldLink RX1 41 "FloatMarket$Market" "sold" "I", Cond.fieldLink RX1 44 "FloatMarket$Market" "paid" "I", Cond.fieldLink RX1 47 "FloatMarket$Market" "loosened" "I", Cond.fieldLink RX1 50 "FloatMarket$Market" "drifted" "I", Cond.fieldLink RX1 17 "FloatMarket$Market" "rows" "[LFloatMarket$Row;", Cond.fieldLink RX1 24 "FloatMarket$Market" "canoes" "[LFloatMarket$Canoe;", Cond.methodLink RX1 53 yX2_copyFrom, Cond.instanceMethod yX2_copyFrom, Cond.selects RX2 yX2_copyFrom yX2_copyFrom, Cond.initialized RX2, Cond.code yX2_copyFrom cX2_copyFrom 2 none, Cond.fieldLink RX2 15 "FloatMarket$Row" "places" "I", Cond.fieldLink RX2 19 "FloatMarket$Row" "used" "I", Cond.fieldLink RX2 9 "FloatMarket$Row" "moored" "[I", Cond.methodLink RX2 22 arraycopyName, Cond.native arraycopyName, Cond.static arraycopyName]
def wsL_foresee_r3 : List Cond := [Cond.initialized "java/lang/System", Cond.methodLink RX1 57 yX0_copyFrom, Cond.instanceMethod yX0_copyFrom, Cond.selects RX0 yX0_copyFrom yX0_copyFrom, Cond.initialized RX0, Cond.code yX0_copyFrom cX0_copyFrom 2 none, Cond.fieldLink RX0 43 "FloatMarket$Canoe" "coins" "I", Cond.fieldLink RX0 46 "FloatMarket$Canoe" "rope" "I", Cond.fieldLink RX0 28 "FloatMarket$Canoe" "status" "I", Cond.fieldLink RX0 31 "FloatMarket$Canoe" "row" "I", Cond.fieldLink RX0 34 "FloatMarket$Canoe" "place" "I", Cond.fieldLink RX0 37 "FloatMarket$Canoe" "leaveStep" "I", Cond.fieldLink RX0 49 "FloatMarket$Canoe" "loosened" "I", Cond.fieldLink RX0 52 "FloatMarket$Canoe" "drifted" "I", Cond.fieldLink RX0 40 "FloatMarket$Canoe" "lastDriftStep" "I", Cond.fieldLink RX0 55 "FloatMarket$Canoe" "sold" "I", Cond.fieldLink RX0 58 "FloatMarket$Canoe" "bought" "I", Cond.fieldLink RX0 15 "FloatMarket$Canoe" "has" "[I", Cond.methodLink RX0 61 arraycopyName, Cond.fieldLink RX0 19 "FloatMarket$Canoe" "asks" "[I", Cond.fieldLink RX0 22 "FloatMarket$Canoe" "wants" "[I", Cond.fieldLink RX0 25 "FloatMarket$Canoe" "pays" "[I", Cond.methodLink RX4 141 yX1_passSteps, Cond.instanceMethod yX1_passSteps]
def wsL_foresee_r4 : List Cond := [Cond.selects RX1 yX1_passSteps yX1_passSteps, Cond.code yX1_passSteps cX1_passSteps 3 none, Cond.methodLink RX1 101 yX1_driftByRows, Cond.instanceMethod yX1_driftByRows, Cond.selects RX1 yX1_driftByRows yX1_driftByRows, Cond.code yX1_driftByRows cX1_driftByRows 4 none, Cond.fieldLink RX1 9 "FloatMarket$Market" "water" "LFloatMarket$Water;", Cond.fieldLink RX1 75 "FloatMarket$Row" "used" "I", Cond.fieldLink RX1 66 "FloatMarket$Canoe" "rope" "I", Cond.fieldLink RX1 117 "FloatMarket$Canoe" "lastDriftStep" "I", Cond.methodLink RX1 110 yX3_wakeIn, Cond.instanceMethod yX3_wakeIn, Cond.selects RX3 yX3_wakeIn yX3_wakeIn, Cond.initialized RX3, Cond.code yX3_wakeIn cX3_wakeIn 2 (some .int), Cond.fieldLink RX3 15 "FloatMarket$Water" "wakes" "[I", Cond.methodLink RX3 24 yJ9_floorMod_7cf53, Cond.static yJ9_floorMod_7cf53, Cond.initialized RJ9, Cond.code yJ9_floorMod_7cf53 cJ9_floorMod_7cf53 3 (some .int), Cond.methodLink RX1 113 yX1_canoeAt, Cond.instanceMethod yX1_canoeAt, Cond.selects RX1 yX1_canoeAt yX1_canoeAt, Cond.code yX1_canoeAt cX1_canoeAt 4 (some (.object "FloatMarket$Canoe"))]
def wsL_foresee_r5 : List Cond := [Cond.methodLink RX1 185 yX2_canoeAt, Cond.instanceMethod yX2_canoeAt, Cond.selects RX2 yX2_canoeAt yX2_canoeAt, Cond.code yX2_canoeAt cX2_canoeAt 2 (some .int), Cond.methodLink RX1 120 yX1_drift, Cond.instanceMethod yX1_drift, Cond.selects RX1 yX1_drift yX1_drift, Cond.code yX1_drift cX1_drift 4 none, Cond.fieldLink RX1 134 "FloatMarket$Canoe" "drifted" "I", Cond.methodLink RX1 124 yX1_unfasten, Cond.instanceMethod yX1_unfasten, Cond.selects RX1 yX1_unfasten yX1_unfasten, Cond.code yX1_unfasten cX1_unfasten 6 (some .int), Cond.fieldLink RX1 69 "FloatMarket$Canoe" "status" "I", Cond.fieldLink RX1 72 "FloatMarket$Canoe" "row" "I", Cond.fieldLink RX1 78 "FloatMarket$Canoe" "place" "I", Cond.fieldLink RX1 90 "FloatMarket$Row" "moored" "[I", Cond.fieldLink RX1 94 "FloatMarket$Canoe" "loosened" "I", Cond.methodLink RX1 87 yX2_closeGap, Cond.instanceMethod yX2_closeGap, Cond.selects RX2 yX2_closeGap yX2_closeGap, Cond.code yX2_closeGap cX2_closeGap 3 none, Cond.methodLink RX1 128 yX1_nextRowNotFull, Cond.instanceMethod yX1_nextRowNotFull]
def wsL_foresee_r6 : List Cond := [Cond.selects RX1 yX1_nextRowNotFull yX1_nextRowNotFull, Cond.code yX1_nextRowNotFull cX1_nextRowNotFull 4 (some .int), Cond.methodLink RX1 135 yX2_isFull, Cond.instanceMethod yX2_isFull, Cond.selects RX2 yX2_isFull yX2_isFull, Cond.code yX2_isFull cX2_isFull 1 (some .boolean), Cond.methodLink RX1 131 yX1_fasten, Cond.instanceMethod yX1_fasten, Cond.selects RX1 yX1_fasten yX1_fasten, Cond.code yX1_fasten cX1_fasten 3 none, Cond.fieldLink RX1 81 "FloatMarket$Canoe" "number" "I", Cond.methodLink RX1 84 yX2_append, Cond.instanceMethod yX2_append, Cond.selects RX2 yX2_append yX2_append, Cond.code yX2_append cX2_append 2 none, Cond.methodLink RX1 104 yX1_leaveByNumbers, Cond.instanceMethod yX1_leaveByNumbers, Cond.selects RX1 yX1_leaveByNumbers yX1_leaveByNumbers, Cond.code yX1_leaveByNumbers cX1_leaveByNumbers 3 none, Cond.methodLink RX1 139 yX0_isToLeaveBy, Cond.instanceMethod yX0_isToLeaveBy, Cond.selects RX0 yX0_isToLeaveBy yX0_isToLeaveBy, Cond.code yX0_isToLeaveBy cX0_isToLeaveBy 2 (some .boolean), Cond.methodLink RX1 143 yX1_liesDry]
def wsL_foresee_r7 : List Cond := [Cond.instanceMethod yX1_liesDry, Cond.selects RX1 yX1_liesDry yX1_liesDry, Cond.code yX1_liesDry cX1_liesDry 2 (some .boolean), Cond.methodLink RX1 95 yX3_tideIn, Cond.instanceMethod yX3_tideIn, Cond.selects RX3 yX3_tideIn yX3_tideIn, Cond.code yX3_tideIn cX3_tideIn 2 (some .int), Cond.fieldLink RX3 9 "FloatMarket$Water" "tides" "[I", Cond.methodLink RX1 107 yX1_tradeByNumbers, Cond.instanceMethod yX1_tradeByNumbers, Cond.selects RX1 yX1_tradeByNumbers yX1_tradeByNumbers, Cond.code yX1_tradeByNumbers cX1_tradeByNumbers 4 none, Cond.methodLink RX1 147 yX0_misses, Cond.instanceMethod yX0_misses, Cond.selects RX0 yX0_misses yX0_misses, Cond.code yX0_misses cX0_misses 2 (some .int), Cond.methodLink RX0 67 Lib.Math.max.name, Cond.static Lib.Math.max.name, Cond.initialized "java/lang/Math", Cond.code Lib.Math.max.name Lib.Math.max.code 2 (some .int), Cond.methodLink RX1 150 yX1_cheapestSeller, Cond.instanceMethod yX1_cheapestSeller, Cond.selects RX1 yX1_cheapestSeller yX1_cheapestSeller, Cond.code yX1_cheapestSeller cX1_cheapestSeller 7 (some (.object "FloatMarket$Canoe"))]
def wsL_foresee_r8 : List Cond := [Cond.fieldLink RX1 158 "FloatMarket$Canoe" "pays" "[I", Cond.fieldLink RX1 63 "FloatMarket$Canoe" "coins" "I", Cond.methodLink RX1 161 Lib.Math.min.name, Cond.static Lib.Math.min.name, Cond.code Lib.Math.min.name Lib.Math.min.code 2 (some .int), Cond.methodLink RX1 167 yX1_cheaper, Cond.instanceMethod yX1_cheaper, Cond.selects RX1 yX1_cheaper yX1_cheaper, Cond.code yX1_cheaper cX1_cheaper 6 (some (.object "FloatMarket$Canoe")), Cond.fieldLink RX1 175 "FloatMarket$Canoe" "asks" "[I", Cond.methodLink RX1 171 yX0_sells, Cond.instanceMethod yX0_sells, Cond.selects RX0 yX0_sells yX0_sells, Cond.code yX0_sells cX0_sells 3 (some .boolean), Cond.methodLink RX1 154 yX1_trade, Cond.instanceMethod yX1_trade, Cond.selects RX1 yX1_trade yX1_trade, Cond.code yX1_trade cX1_trade 5 none, Cond.fieldLink RX1 178 "FloatMarket$Canoe" "has" "[I", Cond.fieldLink RX1 181 "FloatMarket$Canoe" "sold" "I", Cond.fieldLink RX1 182 "FloatMarket$Canoe" "bought" "I", Cond.methodLink RX4 153 yX0_missesInAll, Cond.instanceMethod yX0_missesInAll, Cond.selects RX0 yX0_missesInAll yX0_missesInAll]
def wsL_foresee_r9 : List Cond := [Cond.code yX0_missesInAll cX0_missesInAll 3 (some .int), Cond.methodLink RX0 73 yX0_misses]
def wsL_foresee : List Cond := .codeWith yL_foresee cL_foresee 6 (some .int) [(0, 12, 15, 21), (0, 12, 19, 13)] :: ((wsL_foresee_r1 ++ (wsL_foresee_r2 ++ (wsL_foresee_r3 ++ (wsL_foresee_r4 ++ (wsL_foresee_r5 ++ (wsL_foresee_r6 ++ (wsL_foresee_r7 ++ (wsL_foresee_r8 ++ wsL_foresee_r9)))))))) ++ wsX40 ++ wsX10 ++ wsX00 ++ wsX20 ++ wsX30 ++ (vx_atS RX4 192 "java/lang/IndexOutOfBoundsException" ["java/lang/RuntimeException", "java/lang/Exception"]).filter goodWord ++ (vx_atS RX4 199 "java/lang/IllegalArgumentException" ["java/lang/RuntimeException", "java/lang/Exception"]).filter goodWord)
def wsL_full_r1 : List Cond := [Cond.classLink RL 21 "java/lang/IndexOutOfBoundsException", Cond.methodLink RL 65 yX4_full, Cond.instanceMethod yX4_full, Cond.selects RX4 yX4_full yX4_full, Cond.initialized RX4, Cond.code yX4_full cX4_full 2 (some .int), Cond.fieldLink RX4 21 "FloatMarket" "now" "LFloatMarket$Market;", Cond.fieldLink RX4 58 "FloatMarket$Market" "canoeCount" "I", Cond.methodLink RX4 44 yX4_needIndex, Cond.static yX4_needIndex, Cond.code yX4_needIndex cX4_needIndex 2 none, Cond.classLink RX4 188 "java/lang/IndexOutOfBoundsException", Cond.initialized "java/lang/IndexOutOfBoundsException", Cond.methodLink RX4 160 yX4_stepsUntil, Cond.instanceMethod yX4_stepsUntil, Cond.selects RX4 yX4_stepsUntil yX4_stepsUntil, Cond.code yX4_stepsUntil cX4_stepsUntil 5 (some .int), Cond.fieldLink RX4 25 "FloatMarket" "trial" "LFloatMarket$Market;", Cond.fieldLink RX4 65 "FloatMarket$Market" "canoes" "[LFloatMarket$Canoe;", Cond.methodLink RX4 146 yX1_copyFrom, Cond.instanceMethod yX1_copyFrom, Cond.selects RX1 yX1_copyFrom yX1_copyFrom, Cond.initialized RX1, Cond.code yX1_copyFrom cX1_copyFrom 3 none]
def wsL_full_r2 : List Cond := [Cond.fieldLink RX1 31 "FloatMarket$Market" "rowCount" "I", Cond.fieldLink RX1 35 "FloatMarket$Market" "canoeCount" "I", Cond.fieldLink RX1 38 "FloatMarket$Market" "step" "I", Cond.fieldLink RX1 41 "FloatMarket$Market" "sold" "I", Cond.fieldLink RX1 44 "FloatMarket$Market" "paid" "I", Cond.fieldLink RX1 47 "FloatMarket$Market" "loosened" "I", Cond.fieldLink RX1 50 "FloatMarket$Market" "drifted" "I", Cond.fieldLink RX1 17 "FloatMarket$Market" "rows" "[LFloatMarket$Row;", Cond.fieldLink RX1 24 "FloatMarket$Market" "canoes" "[LFloatMarket$Canoe;", Cond.methodLink RX1 53 yX2_copyFrom, Cond.instanceMethod yX2_copyFrom, Cond.selects RX2 yX2_copyFrom yX2_copyFrom, Cond.initialized RX2, Cond.code yX2_copyFrom cX2_copyFrom 2 none, Cond.fieldLink RX2 15 "FloatMarket$Row" "places" "I", Cond.fieldLink RX2 19 "FloatMarket$Row" "used" "I", Cond.fieldLink RX2 9 "FloatMarket$Row" "moored" "[I", Cond.methodLink RX2 22 arraycopyName, Cond.native arraycopyName, Cond.static arraycopyName, Cond.initialized "java/lang/System", Cond.methodLink RX1 57 yX0_copyFrom, Cond.instanceMethod yX0_copyFrom, Cond.selects RX0 yX0_copyFrom yX0_copyFrom]
def wsL_full_r3 : List Cond := [Cond.initialized RX0, Cond.code yX0_copyFrom cX0_copyFrom 2 none, Cond.fieldLink RX0 43 "FloatMarket$Canoe" "coins" "I", Cond.fieldLink RX0 46 "FloatMarket$Canoe" "rope" "I", Cond.fieldLink RX0 28 "FloatMarket$Canoe" "status" "I", Cond.fieldLink RX0 31 "FloatMarket$Canoe" "row" "I", Cond.fieldLink RX0 34 "FloatMarket$Canoe" "place" "I", Cond.fieldLink RX0 37 "FloatMarket$Canoe" "leaveStep" "I", Cond.fieldLink RX0 49 "FloatMarket$Canoe" "loosened" "I", Cond.fieldLink RX0 52 "FloatMarket$Canoe" "drifted" "I", Cond.fieldLink RX0 40 "FloatMarket$Canoe" "lastDriftStep" "I", Cond.fieldLink RX0 55 "FloatMarket$Canoe" "sold" "I", Cond.fieldLink RX0 58 "FloatMarket$Canoe" "bought" "I", Cond.fieldLink RX0 15 "FloatMarket$Canoe" "has" "[I", Cond.methodLink RX0 61 arraycopyName, Cond.fieldLink RX0 19 "FloatMarket$Canoe" "asks" "[I", Cond.fieldLink RX0 22 "FloatMarket$Canoe" "wants" "[I", Cond.fieldLink RX0 25 "FloatMarket$Canoe" "pays" "[I", Cond.methodLink RX4 141 yX1_passSteps, Cond.instanceMethod yX1_passSteps, Cond.selects RX1 yX1_passSteps yX1_passSteps, Cond.code yX1_passSteps cX1_passSteps 3 none, Cond.methodLink RX1 101 yX1_driftByRows, Cond.instanceMethod yX1_driftByRows]
def wsL_full_r4 : List Cond := [Cond.selects RX1 yX1_driftByRows yX1_driftByRows, Cond.code yX1_driftByRows cX1_driftByRows 4 none, Cond.fieldLink RX1 9 "FloatMarket$Market" "water" "LFloatMarket$Water;", Cond.fieldLink RX1 75 "FloatMarket$Row" "used" "I", Cond.fieldLink RX1 66 "FloatMarket$Canoe" "rope" "I", Cond.fieldLink RX1 117 "FloatMarket$Canoe" "lastDriftStep" "I", Cond.methodLink RX1 110 yX3_wakeIn, Cond.instanceMethod yX3_wakeIn, Cond.selects RX3 yX3_wakeIn yX3_wakeIn, Cond.initialized RX3, Cond.code yX3_wakeIn cX3_wakeIn 2 (some .int), Cond.fieldLink RX3 15 "FloatMarket$Water" "wakes" "[I", Cond.methodLink RX3 24 yJ9_floorMod_7cf53, Cond.static yJ9_floorMod_7cf53, Cond.initialized RJ9, Cond.code yJ9_floorMod_7cf53 cJ9_floorMod_7cf53 3 (some .int), Cond.methodLink RX1 113 yX1_canoeAt, Cond.instanceMethod yX1_canoeAt, Cond.selects RX1 yX1_canoeAt yX1_canoeAt, Cond.code yX1_canoeAt cX1_canoeAt 4 (some (.object "FloatMarket$Canoe")), Cond.methodLink RX1 185 yX2_canoeAt, Cond.instanceMethod yX2_canoeAt, Cond.selects RX2 yX2_canoeAt yX2_canoeAt, Cond.code yX2_canoeAt cX2_canoeAt 2 (some .int)]
def wsL_full_r5 : List Cond := [Cond.methodLink RX1 120 yX1_drift, Cond.instanceMethod yX1_drift, Cond.selects RX1 yX1_drift yX1_drift, Cond.code yX1_drift cX1_drift 4 none, Cond.fieldLink RX1 134 "FloatMarket$Canoe" "drifted" "I", Cond.methodLink RX1 124 yX1_unfasten, Cond.instanceMethod yX1_unfasten, Cond.selects RX1 yX1_unfasten yX1_unfasten, Cond.code yX1_unfasten cX1_unfasten 6 (some .int), Cond.fieldLink RX1 69 "FloatMarket$Canoe" "status" "I", Cond.fieldLink RX1 72 "FloatMarket$Canoe" "row" "I", Cond.fieldLink RX1 78 "FloatMarket$Canoe" "place" "I", Cond.fieldLink RX1 90 "FloatMarket$Row" "moored" "[I", Cond.fieldLink RX1 94 "FloatMarket$Canoe" "loosened" "I", Cond.methodLink RX1 87 yX2_closeGap, Cond.instanceMethod yX2_closeGap, Cond.selects RX2 yX2_closeGap yX2_closeGap, Cond.code yX2_closeGap cX2_closeGap 3 none, Cond.methodLink RX1 128 yX1_nextRowNotFull, Cond.instanceMethod yX1_nextRowNotFull, Cond.selects RX1 yX1_nextRowNotFull yX1_nextRowNotFull, Cond.code yX1_nextRowNotFull cX1_nextRowNotFull 4 (some .int), Cond.methodLink RX1 135 yX2_isFull, Cond.instanceMethod yX2_isFull]
def wsL_full_r6 : List Cond := [Cond.selects RX2 yX2_isFull yX2_isFull, Cond.code yX2_isFull cX2_isFull 1 (some .boolean), Cond.methodLink RX1 131 yX1_fasten, Cond.instanceMethod yX1_fasten, Cond.selects RX1 yX1_fasten yX1_fasten, Cond.code yX1_fasten cX1_fasten 3 none, Cond.fieldLink RX1 81 "FloatMarket$Canoe" "number" "I", Cond.methodLink RX1 84 yX2_append, Cond.instanceMethod yX2_append, Cond.selects RX2 yX2_append yX2_append, Cond.code yX2_append cX2_append 2 none, Cond.methodLink RX1 104 yX1_leaveByNumbers, Cond.instanceMethod yX1_leaveByNumbers, Cond.selects RX1 yX1_leaveByNumbers yX1_leaveByNumbers, Cond.code yX1_leaveByNumbers cX1_leaveByNumbers 3 none, Cond.methodLink RX1 139 yX0_isToLeaveBy, Cond.instanceMethod yX0_isToLeaveBy, Cond.selects RX0 yX0_isToLeaveBy yX0_isToLeaveBy, Cond.code yX0_isToLeaveBy cX0_isToLeaveBy 2 (some .boolean), Cond.methodLink RX1 143 yX1_liesDry, Cond.instanceMethod yX1_liesDry, Cond.selects RX1 yX1_liesDry yX1_liesDry, Cond.code yX1_liesDry cX1_liesDry 2 (some .boolean), Cond.methodLink RX1 95 yX3_tideIn]
def wsL_full_r7 : List Cond := [Cond.instanceMethod yX3_tideIn, Cond.selects RX3 yX3_tideIn yX3_tideIn, Cond.code yX3_tideIn cX3_tideIn 2 (some .int), Cond.fieldLink RX3 9 "FloatMarket$Water" "tides" "[I", Cond.methodLink RX1 107 yX1_tradeByNumbers, Cond.instanceMethod yX1_tradeByNumbers, Cond.selects RX1 yX1_tradeByNumbers yX1_tradeByNumbers, Cond.code yX1_tradeByNumbers cX1_tradeByNumbers 4 none, Cond.methodLink RX1 147 yX0_misses, Cond.instanceMethod yX0_misses, Cond.selects RX0 yX0_misses yX0_misses, Cond.code yX0_misses cX0_misses 2 (some .int), Cond.methodLink RX0 67 Lib.Math.max.name, Cond.static Lib.Math.max.name, Cond.initialized "java/lang/Math", Cond.code Lib.Math.max.name Lib.Math.max.code 2 (some .int), Cond.methodLink RX1 150 yX1_cheapestSeller, Cond.instanceMethod yX1_cheapestSeller, Cond.selects RX1 yX1_cheapestSeller yX1_cheapestSeller, Cond.code yX1_cheapestSeller cX1_cheapestSeller 7 (some (.object "FloatMarket$Canoe")), Cond.fieldLink RX1 158 "FloatMarket$Canoe" "pays" "[I", Cond.fieldLink RX1 63 "FloatMarket$Canoe" "coins" "I", Cond.methodLink RX1 161 Lib.Math.min.name, Cond.static Lib.Math.min.name]
def wsL_full_r8 : List Cond := [Cond.code Lib.Math.min.name Lib.Math.min.code 2 (some .int), Cond.methodLink RX1 167 yX1_cheaper, Cond.instanceMethod yX1_cheaper, Cond.selects RX1 yX1_cheaper yX1_cheaper, Cond.code yX1_cheaper cX1_cheaper 6 (some (.object "FloatMarket$Canoe")), Cond.fieldLink RX1 175 "FloatMarket$Canoe" "asks" "[I", Cond.methodLink RX1 171 yX0_sells, Cond.instanceMethod yX0_sells, Cond.selects RX0 yX0_sells yX0_sells, Cond.code yX0_sells cX0_sells 3 (some .boolean), Cond.methodLink RX1 154 yX1_trade, Cond.instanceMethod yX1_trade, Cond.selects RX1 yX1_trade yX1_trade, Cond.code yX1_trade cX1_trade 5 none, Cond.fieldLink RX1 178 "FloatMarket$Canoe" "has" "[I", Cond.fieldLink RX1 181 "FloatMarket$Canoe" "sold" "I", Cond.fieldLink RX1 182 "FloatMarket$Canoe" "bought" "I", Cond.methodLink RX4 183 yX0_hasReached, Cond.instanceMethod yX0_hasReached, Cond.selects RX0 yX0_hasReached yX0_hasReached, Cond.code yX0_hasReached cX0_hasReached 2 (some .boolean), Cond.methodLink RX0 80 yX0_missesInAll, Cond.instanceMethod yX0_missesInAll, Cond.selects RX0 yX0_missesInAll yX0_missesInAll]
def wsL_full_r9 : List Cond := [Cond.code yX0_missesInAll cX0_missesInAll 3 (some .int), Cond.methodLink RX0 73 yX0_misses]
def wsL_full : List Cond := .codeWith yL_full cL_full 4 (some .int) [(0, 9, 12, 21)] :: ((wsL_full_r1 ++ (wsL_full_r2 ++ (wsL_full_r3 ++ (wsL_full_r4 ++ (wsL_full_r5 ++ (wsL_full_r6 ++ (wsL_full_r7 ++ (wsL_full_r8 ++ wsL_full_r9)))))))) ++ wsX40 ++ wsX10 ++ wsX20 ++ wsX00 ++ wsX30 ++ (vx_atS RX4 192 "java/lang/IndexOutOfBoundsException" ["java/lang/RuntimeException", "java/lang/Exception"]).filter goodWord)
def wsL_gone_r1 : List Cond := [Cond.classLink RL 21 "java/lang/IndexOutOfBoundsException", Cond.methodLink RL 68 yX4_gone, Cond.instanceMethod yX4_gone, Cond.selects RX4 yX4_gone yX4_gone, Cond.initialized RX4, Cond.code yX4_gone cX4_gone 2 (some .int), Cond.fieldLink RX4 21 "FloatMarket" "now" "LFloatMarket$Market;", Cond.fieldLink RX4 58 "FloatMarket$Market" "canoeCount" "I", Cond.methodLink RX4 44 yX4_needIndex, Cond.static yX4_needIndex, Cond.code yX4_needIndex cX4_needIndex 2 none, Cond.classLink RX4 188 "java/lang/IndexOutOfBoundsException", Cond.initialized "java/lang/IndexOutOfBoundsException", Cond.methodLink RX4 160 yX4_stepsUntil, Cond.instanceMethod yX4_stepsUntil, Cond.selects RX4 yX4_stepsUntil yX4_stepsUntil, Cond.code yX4_stepsUntil cX4_stepsUntil 5 (some .int), Cond.fieldLink RX4 25 "FloatMarket" "trial" "LFloatMarket$Market;", Cond.fieldLink RX4 65 "FloatMarket$Market" "canoes" "[LFloatMarket$Canoe;", Cond.methodLink RX4 146 yX1_copyFrom, Cond.instanceMethod yX1_copyFrom, Cond.selects RX1 yX1_copyFrom yX1_copyFrom, Cond.initialized RX1, Cond.code yX1_copyFrom cX1_copyFrom 3 none]
def wsL_gone_r2 : List Cond := [Cond.fieldLink RX1 31 "FloatMarket$Market" "rowCount" "I", Cond.fieldLink RX1 35 "FloatMarket$Market" "canoeCount" "I", Cond.fieldLink RX1 38 "FloatMarket$Market" "step" "I", Cond.fieldLink RX1 41 "FloatMarket$Market" "sold" "I", Cond.fieldLink RX1 44 "FloatMarket$Market" "paid" "I", Cond.fieldLink RX1 47 "FloatMarket$Market" "loosened" "I", Cond.fieldLink RX1 50 "FloatMarket$Market" "drifted" "I", Cond.fieldLink RX1 17 "FloatMarket$Market" "rows" "[LFloatMarket$Row;", Cond.fieldLink RX1 24 "FloatMarket$Market" "canoes" "[LFloatMarket$Canoe;", Cond.methodLink RX1 53 yX2_copyFrom, Cond.instanceMethod yX2_copyFrom, Cond.selects RX2 yX2_copyFrom yX2_copyFrom, Cond.initialized RX2, Cond.code yX2_copyFrom cX2_copyFrom 2 none, Cond.fieldLink RX2 15 "FloatMarket$Row" "places" "I", Cond.fieldLink RX2 19 "FloatMarket$Row" "used" "I", Cond.fieldLink RX2 9 "FloatMarket$Row" "moored" "[I", Cond.methodLink RX2 22 arraycopyName, Cond.native arraycopyName, Cond.static arraycopyName, Cond.initialized "java/lang/System", Cond.methodLink RX1 57 yX0_copyFrom, Cond.instanceMethod yX0_copyFrom, Cond.selects RX0 yX0_copyFrom yX0_copyFrom]
def wsL_gone_r3 : List Cond := [Cond.initialized RX0, Cond.code yX0_copyFrom cX0_copyFrom 2 none, Cond.fieldLink RX0 43 "FloatMarket$Canoe" "coins" "I", Cond.fieldLink RX0 46 "FloatMarket$Canoe" "rope" "I", Cond.fieldLink RX0 28 "FloatMarket$Canoe" "status" "I", Cond.fieldLink RX0 31 "FloatMarket$Canoe" "row" "I", Cond.fieldLink RX0 34 "FloatMarket$Canoe" "place" "I", Cond.fieldLink RX0 37 "FloatMarket$Canoe" "leaveStep" "I", Cond.fieldLink RX0 49 "FloatMarket$Canoe" "loosened" "I", Cond.fieldLink RX0 52 "FloatMarket$Canoe" "drifted" "I", Cond.fieldLink RX0 40 "FloatMarket$Canoe" "lastDriftStep" "I", Cond.fieldLink RX0 55 "FloatMarket$Canoe" "sold" "I", Cond.fieldLink RX0 58 "FloatMarket$Canoe" "bought" "I", Cond.fieldLink RX0 15 "FloatMarket$Canoe" "has" "[I", Cond.methodLink RX0 61 arraycopyName, Cond.fieldLink RX0 19 "FloatMarket$Canoe" "asks" "[I", Cond.fieldLink RX0 22 "FloatMarket$Canoe" "wants" "[I", Cond.fieldLink RX0 25 "FloatMarket$Canoe" "pays" "[I", Cond.methodLink RX4 141 yX1_passSteps, Cond.instanceMethod yX1_passSteps, Cond.selects RX1 yX1_passSteps yX1_passSteps, Cond.code yX1_passSteps cX1_passSteps 3 none, Cond.methodLink RX1 101 yX1_driftByRows, Cond.instanceMethod yX1_driftByRows]
def wsL_gone_r4 : List Cond := [Cond.selects RX1 yX1_driftByRows yX1_driftByRows, Cond.code yX1_driftByRows cX1_driftByRows 4 none, Cond.fieldLink RX1 9 "FloatMarket$Market" "water" "LFloatMarket$Water;", Cond.fieldLink RX1 75 "FloatMarket$Row" "used" "I", Cond.fieldLink RX1 66 "FloatMarket$Canoe" "rope" "I", Cond.fieldLink RX1 117 "FloatMarket$Canoe" "lastDriftStep" "I", Cond.methodLink RX1 110 yX3_wakeIn, Cond.instanceMethod yX3_wakeIn, Cond.selects RX3 yX3_wakeIn yX3_wakeIn, Cond.initialized RX3, Cond.code yX3_wakeIn cX3_wakeIn 2 (some .int), Cond.fieldLink RX3 15 "FloatMarket$Water" "wakes" "[I", Cond.methodLink RX3 24 yJ9_floorMod_7cf53, Cond.static yJ9_floorMod_7cf53, Cond.initialized RJ9, Cond.code yJ9_floorMod_7cf53 cJ9_floorMod_7cf53 3 (some .int), Cond.methodLink RX1 113 yX1_canoeAt, Cond.instanceMethod yX1_canoeAt, Cond.selects RX1 yX1_canoeAt yX1_canoeAt, Cond.code yX1_canoeAt cX1_canoeAt 4 (some (.object "FloatMarket$Canoe")), Cond.methodLink RX1 185 yX2_canoeAt, Cond.instanceMethod yX2_canoeAt, Cond.selects RX2 yX2_canoeAt yX2_canoeAt, Cond.code yX2_canoeAt cX2_canoeAt 2 (some .int)]
def wsL_gone_r5 : List Cond := [Cond.methodLink RX1 120 yX1_drift, Cond.instanceMethod yX1_drift, Cond.selects RX1 yX1_drift yX1_drift, Cond.code yX1_drift cX1_drift 4 none, Cond.fieldLink RX1 134 "FloatMarket$Canoe" "drifted" "I", Cond.methodLink RX1 124 yX1_unfasten, Cond.instanceMethod yX1_unfasten, Cond.selects RX1 yX1_unfasten yX1_unfasten, Cond.code yX1_unfasten cX1_unfasten 6 (some .int), Cond.fieldLink RX1 69 "FloatMarket$Canoe" "status" "I", Cond.fieldLink RX1 72 "FloatMarket$Canoe" "row" "I", Cond.fieldLink RX1 78 "FloatMarket$Canoe" "place" "I", Cond.fieldLink RX1 90 "FloatMarket$Row" "moored" "[I", Cond.fieldLink RX1 94 "FloatMarket$Canoe" "loosened" "I", Cond.methodLink RX1 87 yX2_closeGap, Cond.instanceMethod yX2_closeGap, Cond.selects RX2 yX2_closeGap yX2_closeGap, Cond.code yX2_closeGap cX2_closeGap 3 none, Cond.methodLink RX1 128 yX1_nextRowNotFull, Cond.instanceMethod yX1_nextRowNotFull, Cond.selects RX1 yX1_nextRowNotFull yX1_nextRowNotFull, Cond.code yX1_nextRowNotFull cX1_nextRowNotFull 4 (some .int), Cond.methodLink RX1 135 yX2_isFull, Cond.instanceMethod yX2_isFull]
def wsL_gone_r6 : List Cond := [Cond.selects RX2 yX2_isFull yX2_isFull, Cond.code yX2_isFull cX2_isFull 1 (some .boolean), Cond.methodLink RX1 131 yX1_fasten, Cond.instanceMethod yX1_fasten, Cond.selects RX1 yX1_fasten yX1_fasten, Cond.code yX1_fasten cX1_fasten 3 none, Cond.fieldLink RX1 81 "FloatMarket$Canoe" "number" "I", Cond.methodLink RX1 84 yX2_append, Cond.instanceMethod yX2_append, Cond.selects RX2 yX2_append yX2_append, Cond.code yX2_append cX2_append 2 none, Cond.methodLink RX1 104 yX1_leaveByNumbers, Cond.instanceMethod yX1_leaveByNumbers, Cond.selects RX1 yX1_leaveByNumbers yX1_leaveByNumbers, Cond.code yX1_leaveByNumbers cX1_leaveByNumbers 3 none, Cond.methodLink RX1 139 yX0_isToLeaveBy, Cond.instanceMethod yX0_isToLeaveBy, Cond.selects RX0 yX0_isToLeaveBy yX0_isToLeaveBy, Cond.code yX0_isToLeaveBy cX0_isToLeaveBy 2 (some .boolean), Cond.methodLink RX1 143 yX1_liesDry, Cond.instanceMethod yX1_liesDry, Cond.selects RX1 yX1_liesDry yX1_liesDry, Cond.code yX1_liesDry cX1_liesDry 2 (some .boolean), Cond.methodLink RX1 95 yX3_tideIn]
def wsL_gone_r7 : List Cond := [Cond.instanceMethod yX3_tideIn, Cond.selects RX3 yX3_tideIn yX3_tideIn, Cond.code yX3_tideIn cX3_tideIn 2 (some .int), Cond.fieldLink RX3 9 "FloatMarket$Water" "tides" "[I", Cond.methodLink RX1 107 yX1_tradeByNumbers, Cond.instanceMethod yX1_tradeByNumbers, Cond.selects RX1 yX1_tradeByNumbers yX1_tradeByNumbers, Cond.code yX1_tradeByNumbers cX1_tradeByNumbers 4 none, Cond.methodLink RX1 147 yX0_misses, Cond.instanceMethod yX0_misses, Cond.selects RX0 yX0_misses yX0_misses, Cond.code yX0_misses cX0_misses 2 (some .int), Cond.methodLink RX0 67 Lib.Math.max.name, Cond.static Lib.Math.max.name, Cond.initialized "java/lang/Math", Cond.code Lib.Math.max.name Lib.Math.max.code 2 (some .int), Cond.methodLink RX1 150 yX1_cheapestSeller, Cond.instanceMethod yX1_cheapestSeller, Cond.selects RX1 yX1_cheapestSeller yX1_cheapestSeller, Cond.code yX1_cheapestSeller cX1_cheapestSeller 7 (some (.object "FloatMarket$Canoe")), Cond.fieldLink RX1 158 "FloatMarket$Canoe" "pays" "[I", Cond.fieldLink RX1 63 "FloatMarket$Canoe" "coins" "I", Cond.methodLink RX1 161 Lib.Math.min.name, Cond.static Lib.Math.min.name]
def wsL_gone_r8 : List Cond := [Cond.code Lib.Math.min.name Lib.Math.min.code 2 (some .int), Cond.methodLink RX1 167 yX1_cheaper, Cond.instanceMethod yX1_cheaper, Cond.selects RX1 yX1_cheaper yX1_cheaper, Cond.code yX1_cheaper cX1_cheaper 6 (some (.object "FloatMarket$Canoe")), Cond.fieldLink RX1 175 "FloatMarket$Canoe" "asks" "[I", Cond.methodLink RX1 171 yX0_sells, Cond.instanceMethod yX0_sells, Cond.selects RX0 yX0_sells yX0_sells, Cond.code yX0_sells cX0_sells 3 (some .boolean), Cond.methodLink RX1 154 yX1_trade, Cond.instanceMethod yX1_trade, Cond.selects RX1 yX1_trade yX1_trade, Cond.code yX1_trade cX1_trade 5 none, Cond.fieldLink RX1 178 "FloatMarket$Canoe" "has" "[I", Cond.fieldLink RX1 181 "FloatMarket$Canoe" "sold" "I", Cond.fieldLink RX1 182 "FloatMarket$Canoe" "bought" "I", Cond.methodLink RX4 183 yX0_hasReached, Cond.instanceMethod yX0_hasReached, Cond.selects RX0 yX0_hasReached yX0_hasReached, Cond.code yX0_hasReached cX0_hasReached 2 (some .boolean), Cond.methodLink RX0 80 yX0_missesInAll, Cond.instanceMethod yX0_missesInAll, Cond.selects RX0 yX0_missesInAll yX0_missesInAll]
def wsL_gone_r9 : List Cond := [Cond.code yX0_missesInAll cX0_missesInAll 3 (some .int), Cond.methodLink RX0 73 yX0_misses]
def wsL_gone : List Cond := .codeWith yL_gone cL_gone 4 (some .int) [(0, 9, 12, 21)] :: ((wsL_gone_r1 ++ (wsL_gone_r2 ++ (wsL_gone_r3 ++ (wsL_gone_r4 ++ (wsL_gone_r5 ++ (wsL_gone_r6 ++ (wsL_gone_r7 ++ (wsL_gone_r8 ++ wsL_gone_r9)))))))) ++ wsX40 ++ wsX10 ++ wsX20 ++ wsX00 ++ wsX30 ++ (vx_atS RX4 192 "java/lang/IndexOutOfBoundsException" ["java/lang/RuntimeException", "java/lang/Exception"]).filter goodWord)
def wsL_advise_r1 : List Cond := [Cond.classLink RL 21 "java/lang/IndexOutOfBoundsException", Cond.classLink RL 13 "java/lang/IllegalArgumentException", Cond.classLink RL 15 "java/lang/IllegalStateException", Cond.methodLink RL 71 yX4_advise, Cond.instanceMethod yX4_advise, Cond.selects RX4 yX4_advise yX4_advise, Cond.initialized RX4, Cond.code yX4_advise cX4_advise 7 (some .int), Cond.fieldLink RX4 21 "FloatMarket" "now" "LFloatMarket$Market;", Cond.fieldLink RX4 58 "FloatMarket$Market" "canoeCount" "I", Cond.fieldLink RX4 65 "FloatMarket$Market" "canoes" "[LFloatMarket$Canoe;", Cond.fieldLink RX4 69 "FloatMarket$Canoe" "status" "I", Cond.fieldLink RX4 32 "FloatMarket$Market" "rowCount" "I", Cond.fieldLink RX4 89 "FloatMarket$Market" "rows" "[LFloatMarket$Row;", Cond.methodLink RX4 44 yX4_needIndex, Cond.static yX4_needIndex, Cond.code yX4_needIndex cX4_needIndex 2 none, Cond.classLink RX4 188 "java/lang/IndexOutOfBoundsException", Cond.initialized "java/lang/IndexOutOfBoundsException", Cond.methodLink RX4 28 yX4_needRange, Cond.static yX4_needRange, Cond.code yX4_needRange cX4_needRange 3 none, Cond.classLink RX4 195 "java/lang/IllegalArgumentException", Cond.initialized "java/lang/IllegalArgumentException"]
def wsL_advise_r2 : List Cond := [Cond.methodLink RX4 36 yX4_needState, Cond.static yX4_needState, Cond.code yX4_needState cX4_needState 1 none, Cond.classLink RX4 200 "java/lang/IllegalStateException", Cond.initialized "java/lang/IllegalStateException", Cond.methodLink RX4 93 yX2_isFull, Cond.instanceMethod yX2_isFull, Cond.selects RX2 yX2_isFull yX2_isFull, Cond.initialized RX2, Cond.code yX2_isFull cX2_isFull 1 (some .boolean), Cond.fieldLink RX2 19 "FloatMarket$Row" "used" "I", Cond.fieldLink RX2 15 "FloatMarket$Row" "places" "I", Cond.methodLink RX4 163 yX4_coinsIfMoored, Cond.instanceMethod yX4_coinsIfMoored, Cond.selects RX4 yX4_coinsIfMoored yX4_coinsIfMoored, Cond.code yX4_coinsIfMoored cX4_coinsIfMoored 5 (some .int), Cond.fieldLink RX4 25 "FloatMarket" "trial" "LFloatMarket$Market;", Cond.fieldLink RX4 150 "FloatMarket$Canoe" "coins" "I", Cond.methodLink RX4 146 yX1_copyFrom, Cond.instanceMethod yX1_copyFrom, Cond.selects RX1 yX1_copyFrom yX1_copyFrom, Cond.initialized RX1, Cond.code yX1_copyFrom cX1_copyFrom 3 none, Cond.fieldLink RX1 31 "FloatMarket$Market" "rowCount" "I"]
def wsL_advise_r3 : List Cond := [Cond.fieldLink RX1 35 "FloatMarket$Market" "canoeCount" "I", Cond.fieldLink RX1 38 "FloatMarket$Market" "step" "I", Cond.fieldLink RX1 41 "FloatMarket$Market" "sold" "I", Cond.fieldLink RX1 44 "FloatMarket$Market" "paid" "I", Cond.fieldLink RX1 47 "FloatMarket$Market" "loosened" "I", Cond.fieldLink RX1 50 "FloatMarket$Market" "drifted" "I", Cond.fieldLink RX1 17 "FloatMarket$Market" "rows" "[LFloatMarket$Row;", Cond.fieldLink RX1 24 "FloatMarket$Market" "canoes" "[LFloatMarket$Canoe;", Cond.methodLink RX1 53 yX2_copyFrom, Cond.instanceMethod yX2_copyFrom, Cond.selects RX2 yX2_copyFrom yX2_copyFrom, Cond.code yX2_copyFrom cX2_copyFrom 2 none, Cond.fieldLink RX2 9 "FloatMarket$Row" "moored" "[I", Cond.methodLink RX2 22 arraycopyName, Cond.native arraycopyName, Cond.static arraycopyName, Cond.initialized "java/lang/System", Cond.methodLink RX1 57 yX0_copyFrom, Cond.instanceMethod yX0_copyFrom, Cond.selects RX0 yX0_copyFrom yX0_copyFrom, Cond.initialized RX0, Cond.code yX0_copyFrom cX0_copyFrom 2 none, Cond.fieldLink RX0 43 "FloatMarket$Canoe" "coins" "I", Cond.fieldLink RX0 46 "FloatMarket$Canoe" "rope" "I"]
def wsL_advise_r4 : List Cond := [Cond.fieldLink RX0 28 "FloatMarket$Canoe" "status" "I", Cond.fieldLink RX0 31 "FloatMarket$Canoe" "row" "I", Cond.fieldLink RX0 34 "FloatMarket$Canoe" "place" "I", Cond.fieldLink RX0 37 "FloatMarket$Canoe" "leaveStep" "I", Cond.fieldLink RX0 49 "FloatMarket$Canoe" "loosened" "I", Cond.fieldLink RX0 52 "FloatMarket$Canoe" "drifted" "I", Cond.fieldLink RX0 40 "FloatMarket$Canoe" "lastDriftStep" "I", Cond.fieldLink RX0 55 "FloatMarket$Canoe" "sold" "I", Cond.fieldLink RX0 58 "FloatMarket$Canoe" "bought" "I", Cond.fieldLink RX0 15 "FloatMarket$Canoe" "has" "[I", Cond.methodLink RX0 61 arraycopyName, Cond.fieldLink RX0 19 "FloatMarket$Canoe" "asks" "[I", Cond.fieldLink RX0 22 "FloatMarket$Canoe" "wants" "[I", Cond.fieldLink RX0 25 "FloatMarket$Canoe" "pays" "[I", Cond.methodLink RX4 99 yX1_fasten, Cond.instanceMethod yX1_fasten, Cond.selects RX1 yX1_fasten yX1_fasten, Cond.code yX1_fasten cX1_fasten 3 none, Cond.fieldLink RX1 69 "FloatMarket$Canoe" "status" "I", Cond.fieldLink RX1 72 "FloatMarket$Canoe" "row" "I", Cond.fieldLink RX1 75 "FloatMarket$Row" "used" "I", Cond.fieldLink RX1 78 "FloatMarket$Canoe" "place" "I", Cond.fieldLink RX1 81 "FloatMarket$Canoe" "number" "I", Cond.methodLink RX1 84 yX2_append]
def wsL_advise_r5 : List Cond := [Cond.instanceMethod yX2_append, Cond.selects RX2 yX2_append yX2_append, Cond.code yX2_append cX2_append 2 none, Cond.methodLink RX4 141 yX1_passSteps, Cond.instanceMethod yX1_passSteps, Cond.selects RX1 yX1_passSteps yX1_passSteps, Cond.code yX1_passSteps cX1_passSteps 3 none, Cond.methodLink RX1 101 yX1_driftByRows, Cond.instanceMethod yX1_driftByRows, Cond.selects RX1 yX1_driftByRows yX1_driftByRows, Cond.code yX1_driftByRows cX1_driftByRows 4 none, Cond.fieldLink RX1 9 "FloatMarket$Market" "water" "LFloatMarket$Water;", Cond.fieldLink RX1 66 "FloatMarket$Canoe" "rope" "I", Cond.fieldLink RX1 117 "FloatMarket$Canoe" "lastDriftStep" "I", Cond.methodLink RX1 110 yX3_wakeIn, Cond.instanceMethod yX3_wakeIn, Cond.selects RX3 yX3_wakeIn yX3_wakeIn, Cond.initialized RX3, Cond.code yX3_wakeIn cX3_wakeIn 2 (some .int), Cond.fieldLink RX3 15 "FloatMarket$Water" "wakes" "[I", Cond.methodLink RX3 24 yJ9_floorMod_7cf53, Cond.static yJ9_floorMod_7cf53, Cond.initialized RJ9, Cond.code yJ9_floorMod_7cf53 cJ9_floorMod_7cf53 3 (some .int)]
def wsL_advise_r6 : List Cond := [Cond.methodLink RX1 113 yX1_canoeAt, Cond.instanceMethod yX1_canoeAt, Cond.selects RX1 yX1_canoeAt yX1_canoeAt, Cond.code yX1_canoeAt cX1_canoeAt 4 (some (.object "FloatMarket$Canoe")), Cond.methodLink RX1 185 yX2_canoeAt, Cond.instanceMethod yX2_canoeAt, Cond.selects RX2 yX2_canoeAt yX2_canoeAt, Cond.code yX2_canoeAt cX2_canoeAt 2 (some .int), Cond.methodLink RX1 120 yX1_drift, Cond.instanceMethod yX1_drift, Cond.selects RX1 yX1_drift yX1_drift, Cond.code yX1_drift cX1_drift 4 none, Cond.fieldLink RX1 134 "FloatMarket$Canoe" "drifted" "I", Cond.methodLink RX1 124 yX1_unfasten, Cond.instanceMethod yX1_unfasten, Cond.selects RX1 yX1_unfasten yX1_unfasten, Cond.code yX1_unfasten cX1_unfasten 6 (some .int), Cond.fieldLink RX1 90 "FloatMarket$Row" "moored" "[I", Cond.fieldLink RX1 94 "FloatMarket$Canoe" "loosened" "I", Cond.methodLink RX1 87 yX2_closeGap, Cond.instanceMethod yX2_closeGap, Cond.selects RX2 yX2_closeGap yX2_closeGap, Cond.code yX2_closeGap cX2_closeGap 3 none, Cond.methodLink RX1 128 yX1_nextRowNotFull]
def wsL_advise_r7 : List Cond := [Cond.instanceMethod yX1_nextRowNotFull, Cond.selects RX1 yX1_nextRowNotFull yX1_nextRowNotFull, Cond.code yX1_nextRowNotFull cX1_nextRowNotFull 4 (some .int), Cond.methodLink RX1 135 yX2_isFull, Cond.methodLink RX1 131 yX1_fasten, Cond.methodLink RX1 104 yX1_leaveByNumbers, Cond.instanceMethod yX1_leaveByNumbers, Cond.selects RX1 yX1_leaveByNumbers yX1_leaveByNumbers, Cond.code yX1_leaveByNumbers cX1_leaveByNumbers 3 none, Cond.methodLink RX1 139 yX0_isToLeaveBy, Cond.instanceMethod yX0_isToLeaveBy, Cond.selects RX0 yX0_isToLeaveBy yX0_isToLeaveBy, Cond.code yX0_isToLeaveBy cX0_isToLeaveBy 2 (some .boolean), Cond.methodLink RX1 143 yX1_liesDry, Cond.instanceMethod yX1_liesDry, Cond.selects RX1 yX1_liesDry yX1_liesDry, Cond.code yX1_liesDry cX1_liesDry 2 (some .boolean), Cond.methodLink RX1 95 yX3_tideIn, Cond.instanceMethod yX3_tideIn, Cond.selects RX3 yX3_tideIn yX3_tideIn, Cond.code yX3_tideIn cX3_tideIn 2 (some .int), Cond.fieldLink RX3 9 "FloatMarket$Water" "tides" "[I", Cond.methodLink RX1 107 yX1_tradeByNumbers, Cond.instanceMethod yX1_tradeByNumbers]
def wsL_advise_r8 : List Cond := [Cond.selects RX1 yX1_tradeByNumbers yX1_tradeByNumbers, Cond.code yX1_tradeByNumbers cX1_tradeByNumbers 4 none, Cond.methodLink RX1 147 yX0_misses, Cond.instanceMethod yX0_misses, Cond.selects RX0 yX0_misses yX0_misses, Cond.code yX0_misses cX0_misses 2 (some .int), Cond.methodLink RX0 67 Lib.Math.max.name, Cond.static Lib.Math.max.name, Cond.initialized "java/lang/Math", Cond.code Lib.Math.max.name Lib.Math.max.code 2 (some .int), Cond.methodLink RX1 150 yX1_cheapestSeller, Cond.instanceMethod yX1_cheapestSeller, Cond.selects RX1 yX1_cheapestSeller yX1_cheapestSeller, Cond.code yX1_cheapestSeller cX1_cheapestSeller 7 (some (.object "FloatMarket$Canoe")), Cond.fieldLink RX1 158 "FloatMarket$Canoe" "pays" "[I", Cond.fieldLink RX1 63 "FloatMarket$Canoe" "coins" "I", Cond.methodLink RX1 161 Lib.Math.min.name, Cond.static Lib.Math.min.name, Cond.code Lib.Math.min.name Lib.Math.min.code 2 (some .int), Cond.methodLink RX1 167 yX1_cheaper, Cond.instanceMethod yX1_cheaper, Cond.selects RX1 yX1_cheaper yX1_cheaper, Cond.code yX1_cheaper cX1_cheaper 6 (some (.object "FloatMarket$Canoe")), Cond.fieldLink RX1 175 "FloatMarket$Canoe" "asks" "[I"]
def wsL_advise_r9 : List Cond := [Cond.methodLink RX1 171 yX0_sells, Cond.instanceMethod yX0_sells, Cond.selects RX0 yX0_sells yX0_sells, Cond.code yX0_sells cX0_sells 3 (some .boolean), Cond.methodLink RX1 154 yX1_trade, Cond.instanceMethod yX1_trade, Cond.selects RX1 yX1_trade yX1_trade, Cond.code yX1_trade cX1_trade 5 none, Cond.fieldLink RX1 178 "FloatMarket$Canoe" "has" "[I", Cond.fieldLink RX1 181 "FloatMarket$Canoe" "sold" "I", Cond.fieldLink RX1 182 "FloatMarket$Canoe" "bought" "I"]
def wsL_advise : List Cond := .codeWith yL_advise cL_advise 5 (some .int) [(0, 10, 13, 21), (0, 10, 17, 13), (0, 10, 21, 15)] :: ((wsL_advise_r1 ++ (wsL_advise_r2 ++ (wsL_advise_r3 ++ (wsL_advise_r4 ++ (wsL_advise_r5 ++ (wsL_advise_r6 ++ (wsL_advise_r7 ++ (wsL_advise_r8 ++ wsL_advise_r9)))))))) ++ wsX40 ++ wsX10 ++ wsX00 ++ wsX20 ++ wsX30 ++ (vx_atS RX4 192 "java/lang/IndexOutOfBoundsException" ["java/lang/RuntimeException", "java/lang/Exception"]).filter goodWord ++ (vx_atS RX4 199 "java/lang/IllegalArgumentException" ["java/lang/RuntimeException", "java/lang/Exception"]).filter goodWord ++ (vx_atS RX4 204 "java/lang/IllegalStateException" ["java/lang/RuntimeException", "java/lang/Exception"]).filter goodWord)
def wsL_price_r1 : List Cond := [Cond.classLink RL 21 "java/lang/IndexOutOfBoundsException", Cond.classLink RL 13 "java/lang/IllegalArgumentException", Cond.methodLink RL 74 yX4_price, Cond.instanceMethod yX4_price, Cond.selects RX4 yX4_price yX4_price, Cond.initialized RX4, Cond.code yX4_price cX4_price 8 (some .int), Cond.fieldLink RX4 21 "FloatMarket" "now" "LFloatMarket$Market;", Cond.fieldLink RX4 58 "FloatMarket$Market" "canoeCount" "I", Cond.methodLink RX4 44 yX4_needIndex, Cond.static yX4_needIndex, Cond.code yX4_needIndex cX4_needIndex 2 none, Cond.classLink RX4 188 "java/lang/IndexOutOfBoundsException", Cond.initialized "java/lang/IndexOutOfBoundsException", Cond.methodLink RX4 28 yX4_needRange, Cond.static yX4_needRange, Cond.code yX4_needRange cX4_needRange 3 none, Cond.classLink RX4 195 "java/lang/IllegalArgumentException", Cond.initialized "java/lang/IllegalArgumentException", Cond.methodLink RX4 167 yX4_soldIfAsking, Cond.instanceMethod yX4_soldIfAsking, Cond.selects RX4 yX4_soldIfAsking yX4_soldIfAsking, Cond.code yX4_soldIfAsking cX4_soldIfAsking 6 (some .int), Cond.fieldLink RX4 25 "FloatMarket" "trial" "LFloatMarket$Market;"]
def wsL_price_r2 : List Cond := [Cond.fieldLink RX4 65 "FloatMarket$Market" "canoes" "[LFloatMarket$Canoe;", Cond.fieldLink RX4 77 "FloatMarket$Canoe" "asks" "[I", Cond.fieldLink RX4 187 "FloatMarket$Canoe" "sold" "I", Cond.methodLink RX4 146 yX1_copyFrom, Cond.instanceMethod yX1_copyFrom, Cond.selects RX1 yX1_copyFrom yX1_copyFrom, Cond.initialized RX1, Cond.code yX1_copyFrom cX1_copyFrom 3 none, Cond.fieldLink RX1 31 "FloatMarket$Market" "rowCount" "I", Cond.fieldLink RX1 35 "FloatMarket$Market" "canoeCount" "I", Cond.fieldLink RX1 38 "FloatMarket$Market" "step" "I", Cond.fieldLink RX1 41 "FloatMarket$Market" "sold" "I", Cond.fieldLink RX1 44 "FloatMarket$Market" "paid" "I", Cond.fieldLink RX1 47 "FloatMarket$Market" "loosened" "I", Cond.fieldLink RX1 50 "FloatMarket$Market" "drifted" "I", Cond.fieldLink RX1 17 "FloatMarket$Market" "rows" "[LFloatMarket$Row;", Cond.fieldLink RX1 24 "FloatMarket$Market" "canoes" "[LFloatMarket$Canoe;", Cond.methodLink RX1 53 yX2_copyFrom, Cond.instanceMethod yX2_copyFrom, Cond.selects RX2 yX2_copyFrom yX2_copyFrom, Cond.initialized RX2, Cond.code yX2_copyFrom cX2_copyFrom 2 none, Cond.fieldLink RX2 15 "FloatMarket$Row" "places" "I", Cond.fieldLink RX2 19 "FloatMarket$Row" "used" "I"]
def wsL_price_r3 : List Cond := [Cond.fieldLink RX2 9 "FloatMarket$Row" "moored" "[I", Cond.methodLink RX2 22 arraycopyName, Cond.native arraycopyName, Cond.static arraycopyName, Cond.initialized "java/lang/System", Cond.methodLink RX1 57 yX0_copyFrom, Cond.instanceMethod yX0_copyFrom, Cond.selects RX0 yX0_copyFrom yX0_copyFrom, Cond.initialized RX0, Cond.code yX0_copyFrom cX0_copyFrom 2 none, Cond.fieldLink RX0 43 "FloatMarket$Canoe" "coins" "I", Cond.fieldLink RX0 46 "FloatMarket$Canoe" "rope" "I", Cond.fieldLink RX0 28 "FloatMarket$Canoe" "status" "I", Cond.fieldLink RX0 31 "FloatMarket$Canoe" "row" "I", Cond.fieldLink RX0 34 "FloatMarket$Canoe" "place" "I", Cond.fieldLink RX0 37 "FloatMarket$Canoe" "leaveStep" "I", Cond.fieldLink RX0 49 "FloatMarket$Canoe" "loosened" "I", Cond.fieldLink RX0 52 "FloatMarket$Canoe" "drifted" "I", Cond.fieldLink RX0 40 "FloatMarket$Canoe" "lastDriftStep" "I", Cond.fieldLink RX0 55 "FloatMarket$Canoe" "sold" "I", Cond.fieldLink RX0 58 "FloatMarket$Canoe" "bought" "I", Cond.fieldLink RX0 15 "FloatMarket$Canoe" "has" "[I", Cond.methodLink RX0 61 arraycopyName, Cond.fieldLink RX0 19 "FloatMarket$Canoe" "asks" "[I"]
def wsL_price_r4 : List Cond := [Cond.fieldLink RX0 22 "FloatMarket$Canoe" "wants" "[I", Cond.fieldLink RX0 25 "FloatMarket$Canoe" "pays" "[I", Cond.methodLink RX4 141 yX1_passSteps, Cond.instanceMethod yX1_passSteps, Cond.selects RX1 yX1_passSteps yX1_passSteps, Cond.code yX1_passSteps cX1_passSteps 3 none, Cond.methodLink RX1 101 yX1_driftByRows, Cond.instanceMethod yX1_driftByRows, Cond.selects RX1 yX1_driftByRows yX1_driftByRows, Cond.code yX1_driftByRows cX1_driftByRows 4 none, Cond.fieldLink RX1 9 "FloatMarket$Market" "water" "LFloatMarket$Water;", Cond.fieldLink RX1 75 "FloatMarket$Row" "used" "I", Cond.fieldLink RX1 66 "FloatMarket$Canoe" "rope" "I", Cond.fieldLink RX1 117 "FloatMarket$Canoe" "lastDriftStep" "I", Cond.methodLink RX1 110 yX3_wakeIn, Cond.instanceMethod yX3_wakeIn, Cond.selects RX3 yX3_wakeIn yX3_wakeIn, Cond.initialized RX3, Cond.code yX3_wakeIn cX3_wakeIn 2 (some .int), Cond.fieldLink RX3 15 "FloatMarket$Water" "wakes" "[I", Cond.methodLink RX3 24 yJ9_floorMod_7cf53, Cond.static yJ9_floorMod_7cf53, Cond.initialized RJ9, Cond.code yJ9_floorMod_7cf53 cJ9_floorMod_7cf53 3 (some .int)]
def wsL_price_r5 : List Cond := [Cond.methodLink RX1 113 yX1_canoeAt, Cond.instanceMethod yX1_canoeAt, Cond.selects RX1 yX1_canoeAt yX1_canoeAt, Cond.code yX1_canoeAt cX1_canoeAt 4 (some (.object "FloatMarket$Canoe")), Cond.methodLink RX1 185 yX2_canoeAt, Cond.instanceMethod yX2_canoeAt, Cond.selects RX2 yX2_canoeAt yX2_canoeAt, Cond.code yX2_canoeAt cX2_canoeAt 2 (some .int), Cond.methodLink RX1 120 yX1_drift, Cond.instanceMethod yX1_drift, Cond.selects RX1 yX1_drift yX1_drift, Cond.code yX1_drift cX1_drift 4 none, Cond.fieldLink RX1 134 "FloatMarket$Canoe" "drifted" "I", Cond.methodLink RX1 124 yX1_unfasten, Cond.instanceMethod yX1_unfasten, Cond.selects RX1 yX1_unfasten yX1_unfasten, Cond.code yX1_unfasten cX1_unfasten 6 (some .int), Cond.fieldLink RX1 69 "FloatMarket$Canoe" "status" "I", Cond.fieldLink RX1 72 "FloatMarket$Canoe" "row" "I", Cond.fieldLink RX1 78 "FloatMarket$Canoe" "place" "I", Cond.fieldLink RX1 90 "FloatMarket$Row" "moored" "[I", Cond.fieldLink RX1 94 "FloatMarket$Canoe" "loosened" "I", Cond.methodLink RX1 87 yX2_closeGap, Cond.instanceMethod yX2_closeGap]
def wsL_price_r6 : List Cond := [Cond.selects RX2 yX2_closeGap yX2_closeGap, Cond.code yX2_closeGap cX2_closeGap 3 none, Cond.methodLink RX1 128 yX1_nextRowNotFull, Cond.instanceMethod yX1_nextRowNotFull, Cond.selects RX1 yX1_nextRowNotFull yX1_nextRowNotFull, Cond.code yX1_nextRowNotFull cX1_nextRowNotFull 4 (some .int), Cond.methodLink RX1 135 yX2_isFull, Cond.instanceMethod yX2_isFull, Cond.selects RX2 yX2_isFull yX2_isFull, Cond.code yX2_isFull cX2_isFull 1 (some .boolean), Cond.methodLink RX1 131 yX1_fasten, Cond.instanceMethod yX1_fasten, Cond.selects RX1 yX1_fasten yX1_fasten, Cond.code yX1_fasten cX1_fasten 3 none, Cond.fieldLink RX1 81 "FloatMarket$Canoe" "number" "I", Cond.methodLink RX1 84 yX2_append, Cond.instanceMethod yX2_append, Cond.selects RX2 yX2_append yX2_append, Cond.code yX2_append cX2_append 2 none, Cond.methodLink RX1 104 yX1_leaveByNumbers, Cond.instanceMethod yX1_leaveByNumbers, Cond.selects RX1 yX1_leaveByNumbers yX1_leaveByNumbers, Cond.code yX1_leaveByNumbers cX1_leaveByNumbers 3 none, Cond.methodLink RX1 139 yX0_isToLeaveBy]
def wsL_price_r7 : List Cond := [Cond.instanceMethod yX0_isToLeaveBy, Cond.selects RX0 yX0_isToLeaveBy yX0_isToLeaveBy, Cond.code yX0_isToLeaveBy cX0_isToLeaveBy 2 (some .boolean), Cond.methodLink RX1 143 yX1_liesDry, Cond.instanceMethod yX1_liesDry, Cond.selects RX1 yX1_liesDry yX1_liesDry, Cond.code yX1_liesDry cX1_liesDry 2 (some .boolean), Cond.methodLink RX1 95 yX3_tideIn, Cond.instanceMethod yX3_tideIn, Cond.selects RX3 yX3_tideIn yX3_tideIn, Cond.code yX3_tideIn cX3_tideIn 2 (some .int), Cond.fieldLink RX3 9 "FloatMarket$Water" "tides" "[I", Cond.methodLink RX1 107 yX1_tradeByNumbers, Cond.instanceMethod yX1_tradeByNumbers, Cond.selects RX1 yX1_tradeByNumbers yX1_tradeByNumbers, Cond.code yX1_tradeByNumbers cX1_tradeByNumbers 4 none, Cond.methodLink RX1 147 yX0_misses, Cond.instanceMethod yX0_misses, Cond.selects RX0 yX0_misses yX0_misses, Cond.code yX0_misses cX0_misses 2 (some .int), Cond.methodLink RX0 67 Lib.Math.max.name, Cond.static Lib.Math.max.name, Cond.initialized "java/lang/Math", Cond.code Lib.Math.max.name Lib.Math.max.code 2 (some .int)]
def wsL_price_r8 : List Cond := [Cond.methodLink RX1 150 yX1_cheapestSeller, Cond.instanceMethod yX1_cheapestSeller, Cond.selects RX1 yX1_cheapestSeller yX1_cheapestSeller, Cond.code yX1_cheapestSeller cX1_cheapestSeller 7 (some (.object "FloatMarket$Canoe")), Cond.fieldLink RX1 158 "FloatMarket$Canoe" "pays" "[I", Cond.fieldLink RX1 63 "FloatMarket$Canoe" "coins" "I", Cond.methodLink RX1 161 Lib.Math.min.name, Cond.static Lib.Math.min.name, Cond.code Lib.Math.min.name Lib.Math.min.code 2 (some .int), Cond.methodLink RX1 167 yX1_cheaper, Cond.instanceMethod yX1_cheaper, Cond.selects RX1 yX1_cheaper yX1_cheaper, Cond.code yX1_cheaper cX1_cheaper 6 (some (.object "FloatMarket$Canoe")), Cond.fieldLink RX1 175 "FloatMarket$Canoe" "asks" "[I", Cond.methodLink RX1 171 yX0_sells, Cond.instanceMethod yX0_sells, Cond.selects RX0 yX0_sells yX0_sells, Cond.code yX0_sells cX0_sells 3 (some .boolean), Cond.methodLink RX1 154 yX1_trade, Cond.instanceMethod yX1_trade, Cond.selects RX1 yX1_trade yX1_trade, Cond.code yX1_trade cX1_trade 5 none, Cond.fieldLink RX1 178 "FloatMarket$Canoe" "has" "[I", Cond.fieldLink RX1 181 "FloatMarket$Canoe" "sold" "I"]
def wsL_price_r9 : List Cond := [Cond.fieldLink RX1 182 "FloatMarket$Canoe" "bought" "I"]
def wsL_price : List Cond := .codeWith yL_price cL_price 6 (some .int) [(0, 12, 15, 21), (0, 12, 19, 13)] :: ((wsL_price_r1 ++ (wsL_price_r2 ++ (wsL_price_r3 ++ (wsL_price_r4 ++ (wsL_price_r5 ++ (wsL_price_r6 ++ (wsL_price_r7 ++ (wsL_price_r8 ++ wsL_price_r9)))))))) ++ wsX40 ++ wsX10 ++ wsX00 ++ wsX20 ++ wsX30 ++ (vx_atS RX4 192 "java/lang/IndexOutOfBoundsException" ["java/lang/RuntimeException", "java/lang/Exception"]).filter goodWord ++ (vx_atS RX4 199 "java/lang/IllegalArgumentException" ["java/lang/RuntimeException", "java/lang/Exception"]).filter goodWord)
def wsL_law0_r1 : List Cond := [Cond.classLink RL 8 RX4, Cond.instantiable RX4 3, Cond.initialized RX4, Cond.classLink RL 78 RX6, Cond.instantiable RX6 13, Cond.initialized RX6, Cond.arrayClass .long, Cond.methodLink RL 77 yX4_init, Cond.instanceMethod yX4_init, Cond.code yX4_init cX4_init 1 none, Cond.methodLink RX4 1 objectInit, Cond.instanceMethod objectInit, Cond.code objectInit ⟨#[0xb1]⟩ 1 none, Cond.classLink RX4 7 RX3, Cond.instantiable RX3 2, Cond.initialized RX3, Cond.fieldLink RX4 10 "FloatMarket" "water" "LFloatMarket$Water;", Cond.classLink RX4 16 RX1, Cond.instantiable RX1 10, Cond.initialized RX1, Cond.fieldLink RX4 21 "FloatMarket" "now" "LFloatMarket$Market;", Cond.fieldLink RX4 25 "FloatMarket" "trial" "LFloatMarket$Market;", Cond.methodLink RX4 9 yX3_init, Cond.instanceMethod yX3_init]
def wsL_law0_r2 : List Cond := [Cond.code yX3_init cX3_init 1 none, Cond.methodLink RX3 3 objectInit, Cond.arrayClass .int, Cond.fieldLink RX3 9 "FloatMarket$Water" "tides" "[I", Cond.fieldLink RX3 15 "FloatMarket$Water" "wakes" "[I", Cond.methodLink RX3 18 yJ7_fill_53178, Cond.static yJ7_fill_53178, Cond.initialized RJ7, Cond.code yJ7_fill_53178 cJ7_fill_53178 4 none, Cond.methodLink RX4 18 yX1_init, Cond.instanceMethod yX1_init, Cond.code yX1_init cX1_init 3 none, Cond.methodLink RX1 3 objectInit, Cond.fieldLink RX1 9 "FloatMarket$Market" "water" "LFloatMarket$Water;", Cond.classLink RX1 15 RX2, Cond.fieldLink RX1 17 "FloatMarket$Market" "rows" "[LFloatMarket$Row;", Cond.instantiable RX2 3, Cond.initialized RX2, Cond.classLink RX1 22 RX0, Cond.fieldLink RX1 24 "FloatMarket$Market" "canoes" "[LFloatMarket$Canoe;", Cond.instantiable RX0 16, Cond.initialized RX0, Cond.methodLink RX1 21 yX2_init, Cond.instanceMethod yX2_init]
def wsL_law0_r3 : List Cond := [Cond.code yX2_init cX2_init 1 none, Cond.methodLink RX2 3 objectInit, Cond.fieldLink RX2 9 "FloatMarket$Row" "moored" "[I", Cond.methodLink RX1 28 yX0_init, Cond.instanceMethod yX0_init, Cond.code yX0_init cX0_init 2 none, Cond.methodLink RX0 3 objectInit, Cond.fieldLink RX0 9 "FloatMarket$Canoe" "number" "I", Cond.fieldLink RX0 15 "FloatMarket$Canoe" "has" "[I", Cond.fieldLink RX0 19 "FloatMarket$Canoe" "asks" "[I", Cond.fieldLink RX0 22 "FloatMarket$Canoe" "wants" "[I", Cond.fieldLink RX0 25 "FloatMarket$Canoe" "pays" "[I", Cond.fieldLink RX0 28 "FloatMarket$Canoe" "status" "I", Cond.fieldLink RX0 31 "FloatMarket$Canoe" "row" "I", Cond.fieldLink RX0 34 "FloatMarket$Canoe" "place" "I", Cond.fieldLink RX0 37 "FloatMarket$Canoe" "leaveStep" "I", Cond.fieldLink RX0 40 "FloatMarket$Canoe" "lastDriftStep" "I", Cond.methodLink RL 80 yX6_init, Cond.instanceMethod yX6_init, Cond.code yX6_init cX6_init 2 none, Cond.methodLink RX6 1 objectInit, Cond.fieldLink RX6 9 "FloatMarketModel" "places" "[I", Cond.fieldLink RX6 13 "FloatMarketModel" "tide" "[I", Cond.fieldLink RX6 16 "FloatMarketModel" "wake" "[I"]
def wsL_law0_r4 : List Cond := [Cond.fieldLink RX6 19 "FloatMarketModel" "rope" "[I", Cond.fieldLink RX6 22 "FloatMarketModel" "price" "[I", Cond.fieldLink RX6 25 "FloatMarketModel" "wants" "[I", Cond.fieldLink RX6 28 "FloatMarketModel" "pays" "[I", Cond.classLink RX6 31 RX5, Cond.instantiable RX5 14, Cond.initialized RX5, Cond.fieldLink RX6 36 "FloatMarketModel" "s" "LFloatMarketModel$State;", Cond.fieldLink RX6 40 "FloatMarketModel" "ahead" "LFloatMarketModel$State;", Cond.arrayClass .boolean, Cond.fieldLink RX6 43 "FloatMarketModel" "did" "[Z", Cond.instanceMethod yX5_init, Cond.code yX5_init cX5_init 2 none, Cond.fieldLink RX5 3 "FloatMarketModel$State" "this$0" "LFloatMarketModel;", Cond.methodLink RX5 9 objectInit, Cond.fieldLink RX5 15 "FloatMarketModel$State" "coins" "[I", Cond.fieldLink RX5 19 "FloatMarketModel$State" "has" "[I", Cond.fieldLink RX5 22 "FloatMarketModel$State" "is" "[I", Cond.fieldLink RX5 25 "FloatMarketModel$State" "row" "[I", Cond.fieldLink RX5 28 "FloatMarketModel$State" "place" "[I", Cond.fieldLink RX5 31 "FloatMarketModel$State" "leaves" "[I", Cond.fieldLink RX5 34 "FloatMarketModel$State" "loosened" "[I", Cond.fieldLink RX5 37 "FloatMarketModel$State" "drifted" "[I", Cond.fieldLink RX5 40 "FloatMarketModel$State" "sold" "[I"]
def wsL_law0_r5 : List Cond := [Cond.fieldLink RX5 43 "FloatMarketModel$State" "bought" "[I", Cond.methodLink RL 81 yL_addRow, Cond.static yL_addRow, Cond.initialized RL, Cond.codeWith yL_addRow cL_addRow 4 (some .int) [(0, 9, 12, 13), (0, 9, 15, 15)], Cond.classLink RL 13 "java/lang/IllegalArgumentException", Cond.classLink RL 15 "java/lang/IllegalStateException", Cond.methodLink RL 7 yX4_addRow, Cond.instanceMethod yX4_addRow, Cond.selects RX4 yX4_addRow yX4_addRow, Cond.code yX4_addRow cX4_addRow 2 (some .int), Cond.fieldLink RX4 32 "FloatMarket$Market" "rowCount" "I", Cond.methodLink RX4 28 yX4_needRange, Cond.static yX4_needRange, Cond.code yX4_needRange cX4_needRange 3 none, Cond.classLink RX4 195 "java/lang/IllegalArgumentException", Cond.initialized "java/lang/IllegalArgumentException", Cond.methodLink RX4 36 yX4_needState, Cond.static yX4_needState, Cond.code yX4_needState cX4_needState 1 none, Cond.classLink RX4 200 "java/lang/IllegalStateException", Cond.initialized "java/lang/IllegalStateException", Cond.methodLink RX4 40 yX1_openRow, Cond.instanceMethod yX1_openRow]
def wsL_law0_r6 : List Cond := [Cond.selects RX1 yX1_openRow yX1_openRow, Cond.code yX1_openRow cX1_openRow 3 (some .int), Cond.fieldLink RX1 31 "FloatMarket$Market" "rowCount" "I", Cond.fieldLink RX1 60 "FloatMarket$Row" "places" "I", Cond.methodLink RL 86 yX6_addRow, Cond.instanceMethod yX6_addRow, Cond.selects RX6 yX6_addRow yX6_addRow, Cond.code yX6_addRow cX6_addRow 2 (some .int), Cond.fieldLink RX6 47 "FloatMarketModel" "thrown" "I", Cond.fieldLink RX6 58 "FloatMarketModel" "rows" "I", Cond.methodLink RX6 54 yX6_isIn, Cond.static yX6_isIn, Cond.code yX6_isIn cX6_isIn 3 (some .boolean), Cond.methodLink RX6 65 yX6_no, Cond.instanceMethod yX6_no, Cond.selects RX6 yX6_no yX6_no, Cond.code yX6_no cX6_no 2 (some .int), Cond.methodLink RL 87 yX6_thrown, Cond.instanceMethod yX6_thrown, Cond.selects RX6 yX6_thrown yX6_thrown, Cond.code yX6_thrown cX6_thrown 1 (some .int), Cond.methodLink RL 91 yL_setWater, Cond.static yL_setWater, Cond.codeWith yL_setWater cL_setWater 6 (some .int) [(0, 12, 15, 21), (0, 12, 19, 13)]]
def wsL_law0_r7 : List Cond := [Cond.classLink RL 21 "java/lang/IndexOutOfBoundsException", Cond.methodLink RL 17 yX4_setWater, Cond.instanceMethod yX4_setWater, Cond.selects RX4 yX4_setWater yX4_setWater, Cond.code yX4_setWater cX4_setWater 5 (some .int), Cond.fieldLink RX4 51 "FloatMarket$Water" "tides" "[I", Cond.fieldLink RX4 55 "FloatMarket$Water" "wakes" "[I", Cond.methodLink RX4 44 yX4_needIndex, Cond.static yX4_needIndex, Cond.code yX4_needIndex cX4_needIndex 2 none, Cond.classLink RX4 188 "java/lang/IndexOutOfBoundsException", Cond.initialized "java/lang/IndexOutOfBoundsException", Cond.methodLink RX4 48 yX3_entry, Cond.instanceMethod yX3_entry, Cond.selects RX3 yX3_entry yX3_entry, Cond.code yX3_entry cX3_entry 2 (some .int), Cond.methodLink RX3 30 yX3_tideIn, Cond.instanceMethod yX3_tideIn, Cond.selects RX3 yX3_tideIn yX3_tideIn, Cond.code yX3_tideIn cX3_tideIn 2 (some .int), Cond.methodLink RX3 24 yJ9_floorMod_7cf53, Cond.static yJ9_floorMod_7cf53, Cond.initialized RJ9, Cond.code yJ9_floorMod_7cf53 cJ9_floorMod_7cf53 3 (some .int)]
def wsL_law0_r8 : List Cond := [Cond.methodLink RX3 34 yX3_wakeIn, Cond.instanceMethod yX3_wakeIn, Cond.selects RX3 yX3_wakeIn yX3_wakeIn, Cond.code yX3_wakeIn cX3_wakeIn 2 (some .int), Cond.methodLink RL 94 yX6_setWater, Cond.instanceMethod yX6_setWater, Cond.selects RX6 yX6_setWater yX6_setWater, Cond.code yX6_setWater cX6_setWater 5 (some .int), Cond.methodLink RL 95 yL_addCanoe, Cond.static yL_addCanoe, Cond.codeWith yL_addCanoe cL_addCanoe 5 (some .int) [(0, 10, 13, 13), (0, 10, 17, 15)], Cond.methodLink RL 23 yX4_addCanoe, Cond.instanceMethod yX4_addCanoe, Cond.selects RX4 yX4_addCanoe yX4_addCanoe, Cond.code yX4_addCanoe cX4_addCanoe 3 (some .int), Cond.fieldLink RX4 58 "FloatMarket$Market" "canoeCount" "I", Cond.methodLink RX4 61 yX1_launch, Cond.instanceMethod yX1_launch, Cond.selects RX1 yX1_launch yX1_launch, Cond.code yX1_launch cX1_launch 4 (some .int), Cond.fieldLink RX1 35 "FloatMarket$Market" "canoeCount" "I", Cond.fieldLink RX1 63 "FloatMarket$Canoe" "coins" "I", Cond.fieldLink RX1 66 "FloatMarket$Canoe" "rope" "I", Cond.methodLink RL 98 yX6_addCanoe]
def wsL_law0_r9 : List Cond := [Cond.instanceMethod yX6_addCanoe, Cond.selects RX6 yX6_addCanoe yX6_addCanoe, Cond.code yX6_addCanoe cX6_addCanoe 3 (some .int), Cond.fieldLink RX6 51 "FloatMarketModel" "canoes" "I", Cond.methodLink RL 99 yL_load, Cond.static yL_load, Cond.codeWith yL_load cL_load 6 (some .int) [(0, 12, 15, 21), (0, 12, 19, 13), (0, 12, 23, 15)], Cond.methodLink RL 27 yX4_load, Cond.instanceMethod yX4_load, Cond.selects RX4 yX4_load yX4_load, Cond.code yX4_load cX4_load 5 (some .int), Cond.fieldLink RX4 65 "FloatMarket$Market" "canoes" "[LFloatMarket$Canoe;", Cond.fieldLink RX4 69 "FloatMarket$Canoe" "status" "I", Cond.fieldLink RX4 74 "FloatMarket$Canoe" "has" "[I", Cond.methodLink RL 101 yX6_load, Cond.instanceMethod yX6_load, Cond.selects RX6 yX6_load yX6_load, Cond.code yX6_load cX6_load 5 (some .int), Cond.methodLink RX6 75 yX6_isCanoe, Cond.instanceMethod yX6_isCanoe, Cond.selects RX6 yX6_isCanoe yX6_isCanoe, Cond.code yX6_isCanoe cX6_isCanoe 2 (some .boolean), Cond.methodLink RX6 79 yX6_isGood, Cond.static yX6_isGood]
def wsL_law0_r10 : List Cond := [Cond.code yX6_isGood cX6_isGood 1 (some .boolean), Cond.methodLink RL 102 yL_offer, Cond.static yL_offer, Cond.codeWith yL_offer cL_offer 8 (some .int) [(0, 16, 19, 21), (0, 16, 23, 13)], Cond.methodLink RL 30 yX4_offer, Cond.instanceMethod yX4_offer, Cond.selects RX4 yX4_offer yX4_offer, Cond.code yX4_offer cX4_offer 7 (some .int), Cond.fieldLink RX4 77 "FloatMarket$Canoe" "asks" "[I", Cond.fieldLink RX4 80 "FloatMarket$Canoe" "wants" "[I", Cond.fieldLink RX4 83 "FloatMarket$Canoe" "pays" "[I", Cond.methodLink RX4 86 yX0_misses, Cond.instanceMethod yX0_misses, Cond.selects RX0 yX0_misses yX0_misses, Cond.code yX0_misses cX0_misses 2 (some .int), Cond.methodLink RX0 67 Lib.Math.max.name, Cond.static Lib.Math.max.name, Cond.initialized "java/lang/Math", Cond.code Lib.Math.max.name Lib.Math.max.code 2 (some .int), Cond.methodLink RL 105 yX6_offer, Cond.instanceMethod yX6_offer, Cond.selects RX6 yX6_offer yX6_offer, Cond.code yX6_offer cX6_offer 7 (some .int), Cond.methodLink RX6 88 yX5_misses]
def wsL_law0_r11 : List Cond := [Cond.instanceMethod yX5_misses, Cond.selects RX5 yX5_misses yX5_misses, Cond.code yX5_misses cX5_misses 3 (some .int), Cond.methodLink RX5 87 Lib.Math.max.name, Cond.methodLink RL 106 yL_moor, Cond.static yL_moor, Cond.codeWith yL_moor cL_moor 5 (some .int) [(0, 10, 13, 21), (0, 10, 17, 15)], Cond.methodLink RL 34 yX4_moor, Cond.instanceMethod yX4_moor, Cond.selects RX4 yX4_moor yX4_moor, Cond.code yX4_moor cX4_moor 4 (some .int), Cond.fieldLink RX4 89 "FloatMarket$Market" "rows" "[LFloatMarket$Row;", Cond.fieldLink RX4 103 "FloatMarket$Canoe" "place" "I", Cond.methodLink RX4 93 yX2_isFull, Cond.instanceMethod yX2_isFull, Cond.selects RX2 yX2_isFull yX2_isFull, Cond.code yX2_isFull cX2_isFull 1 (some .boolean), Cond.fieldLink RX2 19 "FloatMarket$Row" "used" "I", Cond.fieldLink RX2 15 "FloatMarket$Row" "places" "I", Cond.methodLink RX4 99 yX1_fasten, Cond.instanceMethod yX1_fasten, Cond.selects RX1 yX1_fasten yX1_fasten, Cond.code yX1_fasten cX1_fasten 3 none, Cond.fieldLink RX1 69 "FloatMarket$Canoe" "status" "I"]
def wsL_law0_r12 : List Cond := [Cond.fieldLink RX1 72 "FloatMarket$Canoe" "row" "I", Cond.fieldLink RX1 75 "FloatMarket$Row" "used" "I", Cond.fieldLink RX1 78 "FloatMarket$Canoe" "place" "I", Cond.fieldLink RX1 81 "FloatMarket$Canoe" "number" "I", Cond.methodLink RX1 84 yX2_append, Cond.instanceMethod yX2_append, Cond.selects RX2 yX2_append yX2_append, Cond.code yX2_append cX2_append 2 none, Cond.methodLink RL 108 yX6_moor, Cond.instanceMethod yX6_moor, Cond.selects RX6 yX6_moor yX6_moor, Cond.code yX6_moor cX6_moor 3 (some .int), Cond.methodLink RX6 92 yX6_isRow, Cond.instanceMethod yX6_isRow, Cond.selects RX6 yX6_isRow yX6_isRow, Cond.code yX6_isRow cX6_isRow 2 (some .boolean), Cond.methodLink RX6 95 yX5_isFull, Cond.instanceMethod yX5_isFull, Cond.selects RX5 yX5_isFull yX5_isFull, Cond.code yX5_isFull cX5_isFull 2 (some .boolean), Cond.methodLink RX5 69 yX5_in, Cond.instanceMethod yX5_in, Cond.selects RX5 yX5_in yX5_in, Cond.code yX5_in cX5_in 4 (some .int)]
def wsL_law0_r13 : List Cond := [Cond.methodLink RX6 98 yX5_moor, Cond.instanceMethod yX5_moor, Cond.selects RX5 yX5_moor yX5_moor, Cond.code yX5_moor cX5_moor 3 none, Cond.methodLink RL 109 yL_castOff, Cond.static yL_castOff, Cond.codeWith yL_castOff cL_castOff 4 (some .int) [(0, 9, 12, 21), (0, 9, 15, 15)], Cond.methodLink RL 37 yX4_castOff, Cond.instanceMethod yX4_castOff, Cond.selects RX4 yX4_castOff yX4_castOff, Cond.code yX4_castOff cX4_castOff 3 (some .int), Cond.methodLink RX4 106 yX1_liesDry, Cond.instanceMethod yX1_liesDry, Cond.selects RX1 yX1_liesDry yX1_liesDry, Cond.code yX1_liesDry cX1_liesDry 2 (some .boolean), Cond.fieldLink RX1 38 "FloatMarket$Market" "step" "I", Cond.methodLink RX1 95 yX3_tideIn, Cond.methodLink RX4 110 yX1_unfasten, Cond.instanceMethod yX1_unfasten, Cond.selects RX1 yX1_unfasten yX1_unfasten, Cond.code yX1_unfasten cX1_unfasten 6 (some .int), Cond.fieldLink RX1 90 "FloatMarket$Row" "moored" "[I", Cond.fieldLink RX1 94 "FloatMarket$Canoe" "loosened" "I", Cond.fieldLink RX1 47 "FloatMarket$Market" "loosened" "I"]
def wsL_law0_r14 : List Cond := [Cond.methodLink RX1 87 yX2_closeGap, Cond.instanceMethod yX2_closeGap, Cond.selects RX2 yX2_closeGap yX2_closeGap, Cond.code yX2_closeGap cX2_closeGap 3 none, Cond.methodLink RL 111 yX6_castOff, Cond.instanceMethod yX6_castOff, Cond.selects RX6 yX6_castOff yX6_castOff, Cond.code yX6_castOff cX6_castOff 2 (some .int), Cond.methodLink RX6 105 yX5_isDry, Cond.instanceMethod yX5_isDry, Cond.selects RX5 yX5_isDry yX5_isDry, Cond.code yX5_isDry cX5_isDry 2 (some .boolean), Cond.fieldLink RX5 52 "FloatMarketModel$State" "step" "I", Cond.methodLink RX6 108 yX5_castOff, Cond.instanceMethod yX5_castOff, Cond.selects RX5 yX5_castOff yX5_castOff, Cond.code yX5_castOff cX5_castOff 4 (some .int), Cond.methodLink RL 112 yL_leaveIn, Cond.static yL_leaveIn, Cond.codeWith yL_leaveIn cL_leaveIn 5 (some .int) [(0, 10, 13, 21), (0, 10, 17, 13), (0, 10, 21, 15)], Cond.methodLink RL 40 yX4_leaveIn, Cond.instanceMethod yX4_leaveIn, Cond.selects RX4 yX4_leaveIn yX4_leaveIn, Cond.code yX4_leaveIn cX4_leaveIn 5 (some .int)]
def wsL_law0_r15 : List Cond := [Cond.fieldLink RX4 114 "FloatMarket$Market" "step" "I", Cond.constant RX4 119 (2147483647), Cond.fieldLink RX4 120 "FloatMarket$Canoe" "leaveStep" "I", Cond.methodLink RL 114 yX6_leaveIn, Cond.instanceMethod yX6_leaveIn, Cond.selects RX6 yX6_leaveIn yX6_leaveIn, Cond.code yX6_leaveIn cX6_leaveIn 4 (some .int), Cond.methodLink RL 115 yL_canoe, Cond.static yL_canoe, Cond.codeWith yL_canoe cL_canoe 5 (some .int) [(0, 10, 13, 21)], Cond.methodLink RL 43 yX4_canoe, Cond.instanceMethod yX4_canoe, Cond.selects RX4 yX4_canoe yX4_canoe, Cond.code yX4_canoe cX4_canoe 3 (some .int), Cond.methodLink RX4 123 yX0_figure, Cond.instanceMethod yX0_figure, Cond.selects RX0 yX0_figure yX0_figure, Cond.code yX0_figure cX0_figure 2 (some .int), Cond.fieldLink RX0 43 "FloatMarket$Canoe" "coins" "I", Cond.fieldLink RX0 46 "FloatMarket$Canoe" "rope" "I", Cond.fieldLink RX0 49 "FloatMarket$Canoe" "loosened" "I", Cond.fieldLink RX0 52 "FloatMarket$Canoe" "drifted" "I", Cond.fieldLink RX0 55 "FloatMarket$Canoe" "sold" "I", Cond.fieldLink RX0 58 "FloatMarket$Canoe" "bought" "I"]
def wsL_law0_r16 : List Cond := [Cond.methodLink RX0 80 yX0_missesInAll, Cond.instanceMethod yX0_missesInAll, Cond.selects RX0 yX0_missesInAll yX0_missesInAll, Cond.code yX0_missesInAll cX0_missesInAll 3 (some .int), Cond.methodLink RX0 73 yX0_misses, Cond.methodLink RL 117 yX6_canoe, Cond.instanceMethod yX6_canoe, Cond.selects RX6 yX6_canoe yX6_canoe, Cond.code yX6_canoe cX6_canoe 3 (some .int), Cond.methodLink RX6 131 yX6_canoeTold, Cond.instanceMethod yX6_canoeTold, Cond.selects RX6 yX6_canoeTold yX6_canoeTold, Cond.code yX6_canoeTold cX6_canoeTold 5 (some .int), Cond.methodLink RX6 129 yX5_misses_, Cond.instanceMethod yX5_misses_, Cond.selects RX5 yX5_misses_ yX5_misses_, Cond.code yX5_misses_ cX5_misses_ 4 (some .int), Cond.methodLink RX5 91 yX5_misses, Cond.methodLink RL 118 yL_good, Cond.static yL_good, Cond.codeWith yL_good cL_good 6 (some .int) [(0, 12, 15, 21)], Cond.methodLink RL 46 yX4_good, Cond.instanceMethod yX4_good, Cond.selects RX4 yX4_good yX4_good]
def wsL_law0_r17 : List Cond := [Cond.code yX4_good cX4_good 4 (some .int), Cond.methodLink RX4 126 yX0_goodFigure, Cond.instanceMethod yX0_goodFigure, Cond.selects RX0 yX0_goodFigure yX0_goodFigure, Cond.code yX0_goodFigure cX0_goodFigure 3 (some .int), Cond.methodLink RL 120 yX6_good, Cond.instanceMethod yX6_good, Cond.selects RX6 yX6_good yX6_good, Cond.code yX6_good cX6_good 4 (some .int), Cond.methodLink RX6 134 yX6_goodTold, Cond.instanceMethod yX6_goodTold, Cond.selects RX6 yX6_goodTold yX6_goodTold, Cond.code yX6_goodTold cX6_goodTold 3 (some .int), Cond.methodLink RL 121 yL_at, Cond.static yL_at, Cond.codeWith yL_at cL_at 5 (some .int) [(0, 10, 13, 21)], Cond.methodLink RL 49 yX4_at, Cond.instanceMethod yX4_at, Cond.selects RX4 yX4_at yX4_at, Cond.code yX4_at cX4_at 3 (some .int), Cond.fieldLink RX4 129 "FloatMarket$Row" "places" "I", Cond.methodLink RX4 132 yX2_canoeAt, Cond.instanceMethod yX2_canoeAt, Cond.selects RX2 yX2_canoeAt yX2_canoeAt]
def wsL_law0_r18 : List Cond := [Cond.code yX2_canoeAt cX2_canoeAt 2 (some .int), Cond.methodLink RL 123 yX6_at, Cond.instanceMethod yX6_at, Cond.selects RX6 yX6_at yX6_at, Cond.code yX6_at cX6_at 3 (some .int), Cond.methodLink RX6 137 yX5_at, Cond.instanceMethod yX5_at, Cond.selects RX5 yX5_at yX5_at, Cond.code yX5_at cX5_at 4 (some .int), Cond.methodLink RL 124 yL_beside, Cond.static yL_beside, Cond.codeWith yL_beside cL_beside 5 (some .int) [(0, 17, 20, 21)], Cond.methodLink RL 52 yX4_beside, Cond.instanceMethod yX4_beside, Cond.selects RX4 yX4_beside yX4_beside, Cond.code yX4_beside cX4_beside 3 (some .boolean), Cond.methodLink RX4 135 yX0_isBeside, Cond.instanceMethod yX0_isBeside, Cond.selects RX0 yX0_isBeside yX0_isBeside, Cond.code yX0_isBeside cX0_isBeside 4 (some .boolean), Cond.methodLink RX0 77 Lib.Math.abs.name, Cond.static Lib.Math.abs.name, Cond.code Lib.Math.abs.name Lib.Math.abs.code 1 (some .int), Cond.methodLink RL 126 yX6_beside]
def wsL_law0_r19 : List Cond := [Cond.instanceMethod yX6_beside, Cond.selects RX6 yX6_beside yX6_beside, Cond.code yX6_beside cX6_beside 3 (some .boolean), Cond.methodLink RX6 140 yX5_beside, Cond.instanceMethod yX5_beside, Cond.selects RX5 yX5_beside yX5_beside, Cond.code yX5_beside cX5_beside 3 (some .boolean), Cond.methodLink RX5 79 Lib.Math.abs.name, Cond.methodLink RL 127 yL_pass, Cond.static yL_pass, Cond.codeWith yL_pass cL_pass 4 (some .int) [(0, 9, 12, 13)], Cond.methodLink RL 56 yX4_pass, Cond.instanceMethod yX4_pass, Cond.selects RX4 yX4_pass yX4_pass, Cond.code yX4_pass cX4_pass 3 (some .int), Cond.fieldLink RX4 138 "FloatMarket$Market" "sold" "I", Cond.methodLink RX4 141 yX1_passSteps, Cond.instanceMethod yX1_passSteps, Cond.selects RX1 yX1_passSteps yX1_passSteps, Cond.code yX1_passSteps cX1_passSteps 3 none, Cond.methodLink RX1 101 yX1_driftByRows, Cond.instanceMethod yX1_driftByRows, Cond.selects RX1 yX1_driftByRows yX1_driftByRows, Cond.code yX1_driftByRows cX1_driftByRows 4 none]
def wsL_law0_r20 : List Cond := [Cond.fieldLink RX1 117 "FloatMarket$Canoe" "lastDriftStep" "I", Cond.methodLink RX1 110 yX3_wakeIn, Cond.methodLink RX1 113 yX1_canoeAt, Cond.instanceMethod yX1_canoeAt, Cond.selects RX1 yX1_canoeAt yX1_canoeAt, Cond.code yX1_canoeAt cX1_canoeAt 4 (some (.object "FloatMarket$Canoe")), Cond.methodLink RX1 185 yX2_canoeAt, Cond.methodLink RX1 120 yX1_drift, Cond.instanceMethod yX1_drift, Cond.selects RX1 yX1_drift yX1_drift, Cond.code yX1_drift cX1_drift 4 none, Cond.fieldLink RX1 134 "FloatMarket$Canoe" "drifted" "I", Cond.fieldLink RX1 50 "FloatMarket$Market" "drifted" "I", Cond.methodLink RX1 124 yX1_unfasten, Cond.methodLink RX1 128 yX1_nextRowNotFull, Cond.instanceMethod yX1_nextRowNotFull, Cond.selects RX1 yX1_nextRowNotFull yX1_nextRowNotFull, Cond.code yX1_nextRowNotFull cX1_nextRowNotFull 4 (some .int), Cond.methodLink RX1 135 yX2_isFull, Cond.methodLink RX1 131 yX1_fasten, Cond.methodLink RX1 104 yX1_leaveByNumbers, Cond.instanceMethod yX1_leaveByNumbers, Cond.selects RX1 yX1_leaveByNumbers yX1_leaveByNumbers, Cond.code yX1_leaveByNumbers cX1_leaveByNumbers 3 none]
def wsL_law0_r21 : List Cond := [Cond.methodLink RX1 139 yX0_isToLeaveBy, Cond.instanceMethod yX0_isToLeaveBy, Cond.selects RX0 yX0_isToLeaveBy yX0_isToLeaveBy, Cond.code yX0_isToLeaveBy cX0_isToLeaveBy 2 (some .boolean), Cond.methodLink RX1 143 yX1_liesDry, Cond.methodLink RX1 107 yX1_tradeByNumbers, Cond.instanceMethod yX1_tradeByNumbers, Cond.selects RX1 yX1_tradeByNumbers yX1_tradeByNumbers, Cond.code yX1_tradeByNumbers cX1_tradeByNumbers 4 none, Cond.methodLink RX1 147 yX0_misses, Cond.methodLink RX1 150 yX1_cheapestSeller, Cond.instanceMethod yX1_cheapestSeller, Cond.selects RX1 yX1_cheapestSeller yX1_cheapestSeller, Cond.code yX1_cheapestSeller cX1_cheapestSeller 7 (some (.object "FloatMarket$Canoe")), Cond.fieldLink RX1 158 "FloatMarket$Canoe" "pays" "[I", Cond.methodLink RX1 161 Lib.Math.min.name, Cond.static Lib.Math.min.name, Cond.code Lib.Math.min.name Lib.Math.min.code 2 (some .int), Cond.methodLink RX1 167 yX1_cheaper, Cond.instanceMethod yX1_cheaper, Cond.selects RX1 yX1_cheaper yX1_cheaper, Cond.code yX1_cheaper cX1_cheaper 6 (some (.object "FloatMarket$Canoe")), Cond.fieldLink RX1 175 "FloatMarket$Canoe" "asks" "[I", Cond.methodLink RX1 171 yX0_sells]
def wsL_law0_r22 : List Cond := [Cond.instanceMethod yX0_sells, Cond.selects RX0 yX0_sells yX0_sells, Cond.code yX0_sells cX0_sells 3 (some .boolean), Cond.methodLink RX1 154 yX1_trade, Cond.instanceMethod yX1_trade, Cond.selects RX1 yX1_trade yX1_trade, Cond.code yX1_trade cX1_trade 5 none, Cond.fieldLink RX1 178 "FloatMarket$Canoe" "has" "[I", Cond.fieldLink RX1 181 "FloatMarket$Canoe" "sold" "I", Cond.fieldLink RX1 182 "FloatMarket$Canoe" "bought" "I", Cond.fieldLink RX1 41 "FloatMarket$Market" "sold" "I", Cond.fieldLink RX1 44 "FloatMarket$Market" "paid" "I", Cond.methodLink RL 129 yX6_pass_, Cond.instanceMethod yX6_pass_, Cond.selects RX6 yX6_pass_ yX6_pass_, Cond.code yX6_pass_ cX6_pass_ 2 (some .int), Cond.methodLink RX6 144 yX6_pass, Cond.instanceMethod yX6_pass, Cond.selects RX6 yX6_pass yX6_pass, Cond.code yX6_pass cX6_pass 5 (some .int), Cond.methodLink RX6 61 yX5_pass, Cond.instanceMethod yX5_pass, Cond.selects RX5 yX5_pass yX5_pass, Cond.code yX5_pass cX5_pass 5 (some .int)]
def wsL_law0_r23 : List Cond := [Cond.fieldLink RX5 56 "FloatMarketModel$State" "sum" "I", Cond.methodLink RX5 124 yX5_drift, Cond.instanceMethod yX5_drift, Cond.selects RX5 yX5_drift yX5_drift, Cond.code yX5_drift cX5_drift 5 none, Cond.methodLink RX5 94 yX5_at, Cond.methodLink RX5 106 yX5_isFull, Cond.methodLink RX5 110 yX5_moor, Cond.methodLink RX5 128 yX5_isDry, Cond.methodLink RX5 131 yX5_castOff, Cond.methodLink RX5 134 yX5_trade, Cond.instanceMethod yX5_trade, Cond.selects RX5 yX5_trade yX5_trade, Cond.code yX5_trade cX5_trade 6 none, Cond.fieldLink RX5 59 "FloatMarketModel$State" "coinsPaid" "I", Cond.methodLink RX5 114 yX5_beside, Cond.methodLink RL 130 yL_count, Cond.static yL_count, Cond.codeWith yL_count cL_count 4 (some .int) [(0, 9, 12, 21)], Cond.methodLink RL 59 yX4_count, Cond.instanceMethod yX4_count, Cond.selects RX4 yX4_count yX4_count, Cond.code yX4_count cX4_count 2 (some .int), Cond.methodLink RX4 145 yX1_figure]
def wsL_law0_r24 : List Cond := [Cond.instanceMethod yX1_figure, Cond.selects RX1 yX1_figure yX1_figure, Cond.code yX1_figure cX1_figure 2 (some .int), Cond.methodLink RX1 187 yX1_canoesBeing, Cond.instanceMethod yX1_canoesBeing, Cond.selects RX1 yX1_canoesBeing yX1_canoesBeing, Cond.code yX1_canoesBeing cX1_canoesBeing 4 (some .int), Cond.methodLink RX1 190 yX1_coinsInAll, Cond.instanceMethod yX1_coinsInAll, Cond.selects RX1 yX1_coinsInAll yX1_coinsInAll, Cond.code yX1_coinsInAll cX1_coinsInAll 3 (some .int), Cond.methodLink RX1 194 yX1_goodsInAll, Cond.instanceMethod yX1_goodsInAll, Cond.selects RX1 yX1_goodsInAll yX1_goodsInAll, Cond.code yX1_goodsInAll cX1_goodsInAll 3 (some .int), Cond.methodLink RX1 200 yX0_goodsInAll, Cond.instanceMethod yX0_goodsInAll, Cond.selects RX0 yX0_goodsInAll yX0_goodsInAll, Cond.code yX0_goodsInAll cX0_goodsInAll 3 (some .int), Cond.methodLink RX1 197 yX1_dryCanoes, Cond.instanceMethod yX1_dryCanoes, Cond.selects RX1 yX1_dryCanoes yX1_dryCanoes, Cond.code yX1_dryCanoes cX1_dryCanoes 3 (some .int), Cond.methodLink RL 132 yX6_count]
def wsL_law0_r25 : List Cond := [Cond.instanceMethod yX6_count, Cond.selects RX6 yX6_count yX6_count, Cond.code yX6_count cX6_count 2 (some .int), Cond.methodLink RX6 160 yX6_counted, Cond.instanceMethod yX6_counted, Cond.selects RX6 yX6_counted yX6_counted, Cond.code yX6_counted cX6_counted 4 (some .int), Cond.methodLink RX6 147 yX5_being, Cond.instanceMethod yX5_being, Cond.selects RX5 yX5_being yX5_being, Cond.code yX5_being cX5_being 4 (some .int), Cond.methodLink RX6 150 yX5_all, Cond.instanceMethod yX5_all, Cond.selects RX5 yX5_all yX5_all, Cond.code yX5_all cX5_all 7 (some .int), Cond.methodLink RL 133 yL_foresee, Cond.static yL_foresee, Cond.codeWith yL_foresee cL_foresee 6 (some .int) [(0, 12, 15, 21), (0, 12, 19, 13)], Cond.methodLink RL 62 yX4_foresee, Cond.instanceMethod yX4_foresee, Cond.selects RX4 yX4_foresee yX4_foresee, Cond.code yX4_foresee cX4_foresee 5 (some .int), Cond.fieldLink RX4 150 "FloatMarket$Canoe" "coins" "I", Cond.fieldLink RX4 157 "FloatMarket$Canoe" "row" "I"]
def wsL_law0_r26 : List Cond := [Cond.methodLink RX4 146 yX1_copyFrom, Cond.instanceMethod yX1_copyFrom, Cond.selects RX1 yX1_copyFrom yX1_copyFrom, Cond.code yX1_copyFrom cX1_copyFrom 3 none, Cond.methodLink RX1 53 yX2_copyFrom, Cond.instanceMethod yX2_copyFrom, Cond.selects RX2 yX2_copyFrom yX2_copyFrom, Cond.code yX2_copyFrom cX2_copyFrom 2 none, Cond.methodLink RX2 22 arraycopyName, Cond.native arraycopyName, Cond.static arraycopyName, Cond.initialized "java/lang/System", Cond.methodLink RX1 57 yX0_copyFrom, Cond.instanceMethod yX0_copyFrom, Cond.selects RX0 yX0_copyFrom yX0_copyFrom, Cond.code yX0_copyFrom cX0_copyFrom 2 none, Cond.methodLink RX0 61 arraycopyName, Cond.methodLink RX4 153 yX0_missesInAll, Cond.methodLink RL 135 yX6_foresee, Cond.instanceMethod yX6_foresee, Cond.selects RX6 yX6_foresee yX6_foresee, Cond.code yX6_foresee cX6_foresee 4 (some .int), Cond.methodLink RX6 163 yX5_become, Cond.instanceMethod yX5_become]
def wsL_law0_r27 : List Cond := [Cond.selects RX5 yX5_become yX5_become, Cond.code yX5_become cX5_become 2 none, Cond.methodLink RX5 62 yX5_copy, Cond.instanceMethod yX5_copy, Cond.selects RX5 yX5_copy yX5_copy, Cond.code yX5_copy cX5_copy 3 none, Cond.methodLink RX5 46 arraycopyName, Cond.methodLink RL 136 yL_full, Cond.static yL_full, Cond.codeWith yL_full cL_full 4 (some .int) [(0, 9, 12, 21)], Cond.methodLink RL 65 yX4_full, Cond.instanceMethod yX4_full, Cond.selects RX4 yX4_full yX4_full, Cond.code yX4_full cX4_full 2 (some .int), Cond.methodLink RX4 160 yX4_stepsUntil, Cond.instanceMethod yX4_stepsUntil, Cond.selects RX4 yX4_stepsUntil yX4_stepsUntil, Cond.code yX4_stepsUntil cX4_stepsUntil 5 (some .int), Cond.methodLink RX4 183 yX0_hasReached, Cond.instanceMethod yX0_hasReached, Cond.selects RX0 yX0_hasReached yX0_hasReached, Cond.code yX0_hasReached cX0_hasReached 2 (some .boolean), Cond.methodLink RL 138 yX6_full, Cond.instanceMethod yX6_full]
def wsL_law0_r28 : List Cond := [Cond.selects RX6 yX6_full yX6_full, Cond.code yX6_full cX6_full 3 (some .int), Cond.methodLink RL 139 yL_gone, Cond.static yL_gone, Cond.codeWith yL_gone cL_gone 4 (some .int) [(0, 9, 12, 21)], Cond.methodLink RL 68 yX4_gone, Cond.instanceMethod yX4_gone, Cond.selects RX4 yX4_gone yX4_gone, Cond.code yX4_gone cX4_gone 2 (some .int), Cond.methodLink RL 141 yX6_gone, Cond.instanceMethod yX6_gone, Cond.selects RX6 yX6_gone yX6_gone, Cond.code yX6_gone cX6_gone 3 (some .int), Cond.methodLink RL 142 yL_advise, Cond.static yL_advise, Cond.codeWith yL_advise cL_advise 5 (some .int) [(0, 10, 13, 21), (0, 10, 17, 13), (0, 10, 21, 15)], Cond.methodLink RL 71 yX4_advise, Cond.instanceMethod yX4_advise, Cond.selects RX4 yX4_advise yX4_advise, Cond.code yX4_advise cX4_advise 7 (some .int), Cond.methodLink RX4 163 yX4_coinsIfMoored, Cond.instanceMethod yX4_coinsIfMoored, Cond.selects RX4 yX4_coinsIfMoored yX4_coinsIfMoored, Cond.code yX4_coinsIfMoored cX4_coinsIfMoored 5 (some .int)]
def wsL_law0_r29 : List Cond := [Cond.methodLink RL 144 yX6_advise, Cond.instanceMethod yX6_advise, Cond.selects RX6 yX6_advise yX6_advise, Cond.code yX6_advise cX6_advise 6 (some .int), Cond.methodLink RL 145 yL_price, Cond.static yL_price, Cond.codeWith yL_price cL_price 6 (some .int) [(0, 12, 15, 21), (0, 12, 19, 13)], Cond.methodLink RL 74 yX4_price, Cond.instanceMethod yX4_price, Cond.selects RX4 yX4_price yX4_price, Cond.code yX4_price cX4_price 8 (some .int), Cond.methodLink RX4 167 yX4_soldIfAsking, Cond.instanceMethod yX4_soldIfAsking, Cond.selects RX4 yX4_soldIfAsking yX4_soldIfAsking, Cond.code yX4_soldIfAsking cX4_soldIfAsking 6 (some .int), Cond.fieldLink RX4 187 "FloatMarket$Canoe" "sold" "I", Cond.methodLink RL 147 yX6_price, Cond.instanceMethod yX6_price, Cond.selects RX6 yX6_price yX6_price, Cond.code yX6_price cX6_price 10 (some .int), Cond.methodLink RL 148 yX4_mean, Cond.instanceMethod yX4_mean, Cond.selects RX4 yX4_mean yX4_mean, Cond.code yX4_mean cX4_mean 1 (some .double)]
def wsL_law0_r30 : List Cond := [Cond.fieldLink RX4 171 "FloatMarket$Market" "paid" "I", Cond.methodLink RL 152 yX6_mean, Cond.instanceMethod yX6_mean, Cond.selects RX6 yX6_mean yX6_mean, Cond.code yX6_mean cX6_mean 1 (some .double), Cond.methodLink RL 153 yX4_digest, Cond.instanceMethod yX4_digest, Cond.selects RX4 yX4_digest yX4_digest, Cond.code yX4_digest cX4_digest 4 (some .long), Cond.constantLong RX4 174 (683), Cond.constantLong RX4 176 (31), Cond.methodLink RX4 178 yX2_addTo, Cond.instanceMethod yX2_addTo, Cond.selects RX2 yX2_addTo yX2_addTo, Cond.code yX2_addTo cX2_addTo 6 (some .long), Cond.constantLong RX2 28 (31), Cond.methodLink RX2 30 yX2_canoeAt, Cond.methodLink RX4 182 yX0_addTo, Cond.instanceMethod yX0_addTo, Cond.selects RX0 yX0_addTo yX0_addTo, Cond.code yX0_addTo cX0_addTo 7 (some .long), Cond.constantLong RX0 84 (31), Cond.methodLink RX0 86 yX0_figure, Cond.methodLink RX0 89 yX0_goodFigure]
def wsL_law0_r31 : List Cond := [Cond.methodLink RL 157 yX6_digest, Cond.instanceMethod yX6_digest, Cond.selects RX6 yX6_digest yX6_digest, Cond.code yX6_digest cX6_digest 5 (some .long), Cond.constantLong RX6 167 (683), Cond.constantLong RX6 169 (31)]
def wsL_law0 : List Cond := (wsL_law0_r1 ++ (wsL_law0_r2 ++ (wsL_law0_r3 ++ (wsL_law0_r4 ++ (wsL_law0_r5 ++ (wsL_law0_r6 ++ (wsL_law0_r7 ++ (wsL_law0_r8 ++ (wsL_law0_r9 ++ (wsL_law0_r10 ++ (wsL_law0_r11 ++ (wsL_law0_r12 ++ (wsL_law0_r13 ++ (wsL_law0_r14 ++ (wsL_law0_r15 ++ (wsL_law0_r16 ++ (wsL_law0_r17 ++ (wsL_law0_r18 ++ (wsL_law0_r19 ++ (wsL_law0_r20 ++ (wsL_law0_r21 ++ (wsL_law0_r22 ++ (wsL_law0_r23 ++ (wsL_law0_r24 ++ (wsL_law0_r25 ++ (wsL_law0_r26 ++ (wsL_law0_r27 ++ (wsL_law0_r28 ++ (wsL_law0_r29 ++ (wsL_law0_r30 ++ wsL_law0_r31)))))))))))))))))))))))))))))) ++ wsX40 ++ wsX60 ++ wsX30 ++ wsX10 ++ wsX20 ++ wsX00 ++ wsX50 ++ ([] : List Cond)
def wsL_law : List Cond := wsL_law0 ++ (vx_atS RX4 199 "java/lang/IllegalArgumentException" ["java/lang/RuntimeException", "java/lang/Exception"]).filter goodWord ++ (vx_atS RX4 204 "java/lang/IllegalStateException" ["java/lang/RuntimeException", "java/lang/Exception"]).filter goodWord ++ (vx_atS RX4 192 "java/lang/IndexOutOfBoundsException" ["java/lang/RuntimeException", "java/lang/Exception"]).filter goodWord
end
section
theorem dX0_init_0 : decode cX0_init 0 = .ok (.aload_n 0, 1) := by decide +kernel
theorem dX0_init_1 : decode cX0_init 1 = .ok (.invokespecial 3, 3) := by decide +kernel
theorem dX0_init_4 : decode cX0_init 4 = .ok (.aload_n 0, 1) := by decide +kernel
theorem dX0_init_5 : decode cX0_init 5 = .ok (.iload_n 1, 1) := by decide +kernel
theorem dX0_init_6 : decode cX0_init 6 = .ok (.putfield 9, 3) := by decide +kernel
theorem dX0_init_9 : decode cX0_init 9 = .ok (.aload_n 0, 1) := by decide +kernel
theorem dX0_init_10 : decode cX0_init 10 = .ok (.iconst 4, 1) := by decide +kernel
theorem dX0_init_11 : decode cX0_init 11 = .ok (.newarray .int, 2) := by decide +kernel
theorem dX0_init_13 : decode cX0_init 13 = .ok (.putfield 15, 3) := by decide +kernel
theorem dX0_init_16 : decode cX0_init 16 = .ok (.aload_n 0, 1) := by decide +kernel
theorem dX0_init_17 : decode cX0_init 17 = .ok (.iconst 4, 1) := by decide +kernel
theorem dX0_init_18 : decode cX0_init 18 = .ok (.newarray .int, 2) := by decide +kernel
theorem dX0_init_20 : decode cX0_init 20 = .ok (.putfield 19, 3) := by decide +kernel
theorem dX0_init_23 : decode cX0_init 23 = .ok (.aload_n 0, 1) := by decide +kernel
theorem dX0_init_24 : decode cX0_init 24 = .ok (.iconst 4, 1) := by decide +kernel
theorem dX0_init_25 : decode cX0_init 25 = .ok (.newarray .int, 2) := by decide +kernel
theorem dX0_init_27 : decode cX0_init 27 = .ok (.putfield 22, 3) := by decide +kernel
theorem dX0_init_30 : decode cX0_init 30 = .ok (.aload_n 0, 1) := by decide +kernel
theorem dX0_init_31 : decode cX0_init 31 = .ok (.iconst 4, 1) := by decide +kernel
theorem dX0_init_32 : decode cX0_init 32 = .ok (.newarray .int, 2) := by decide +kernel
theorem dX0_init_34 : decode cX0_init 34 = .ok (.putfield 25, 3) := by decide +kernel
theorem dX0_init_37 : decode cX0_init 37 = .ok (.aload_n 0, 1) := by decide +kernel
theorem dX0_init_38 : decode cX0_init 38 = .ok (.iconst 0, 1) := by decide +kernel
theorem dX0_init_39 : decode cX0_init 39 = .ok (.putfield 28, 3) := by decide +kernel
theorem dX0_init_42 : decode cX0_init 42 = .ok (.aload_n 0, 1) := by decide +kernel
theorem dX0_init_43 : decode cX0_init 43 = .ok (.iconst (-1), 1) := by decide +kernel
theorem dX0_init_44 : decode cX0_init 44 = .ok (.putfield 31, 3) := by decide +kernel
theorem dX0_init_47 : decode cX0_init 47 = .ok (.aload_n 0, 1) := by decide +kernel
theorem dX0_init_48 : decode cX0_init 48 = .ok (.iconst (-1), 1) := by decide +kernel
theorem dX0_init_49 : decode cX0_init 49 = .ok (.putfield 34, 3) := by decide +kernel
theorem dX0_init_52 : decode cX0_init 52 = .ok (.aload_n 0, 1) := by decide +kernel
theorem dX0_init_53 : decode cX0_init 53 = .ok (.iconst (-1), 1) := by decide +kernel
theorem dX0_init_54 : decode cX0_init 54 = .ok (.putfield 37, 3) := by decide +kernel
theorem dX0_init_57 : decode cX0_init 57 = .ok (.aload_n 0, 1) := by decide +kernel
theorem dX0_init_58 : decode cX0_init 58 = .ok (.iconst (-1), 1) := by decide +kernel
theorem dX0_init_59 : decode cX0_init 59 = .ok (.putfield 40, 3) := by decide +kernel
theorem dX0_init_62 : decode cX0_init 62 = .ok (.return_, 1) := by decide +kernel
theorem dX0_copyFrom_0 : decode cX0_copyFrom 0 = .ok (.aload_n 0, 1) := by decide +kernel
theorem dX0_copyFrom_1 : decode cX0_copyFrom 1 = .ok (.aload_n 1, 1) := by decide +kernel
theorem dX0_copyFrom_2 : decode cX0_copyFrom 2 = .ok (.getfield 43, 3) := by decide +kernel
theorem dX0_copyFrom_5 : decode cX0_copyFrom 5 = .ok (.putfield 43, 3) := by decide +kernel
theorem dX0_copyFrom_8 : decode cX0_copyFrom 8 = .ok (.aload_n 0, 1) := by decide +kernel
theorem dX0_copyFrom_9 : decode cX0_copyFrom 9 = .ok (.aload_n 1, 1) := by decide +kernel
theorem dX0_copyFrom_10 : decode cX0_copyFrom 10 = .ok (.getfield 46, 3) := by decide +kernel
theorem dX0_copyFrom_13 : decode cX0_copyFrom 13 = .ok (.putfield 46, 3) := by decide +kernel
theorem dX0_copyFrom_16 : decode cX0_copyFrom 16 = .ok (.aload_n 0, 1) := by decide +kernel
theorem dX0_copyFrom_17 : decode cX0_copyFrom 17 = .ok (.aload_n 1, 1) := by decide +kernel
theorem dX0_copyFrom_18 : decode cX0_copyFrom 18 = .ok (.getfield 28, 3) := by decide +kernel
theorem dX0_copyFrom_21 : decode cX0_copyFrom 21 = .ok (.putfield 28, 3) := by decide +kernel
theorem dX0_copyFrom_24 : decode cX0_copyFrom 24 = .ok (.aload_n 0, 1) := by decide +kernel
theorem dX0_copyFrom_25 : decode cX0_copyFrom 25 = .ok (.aload_n 1, 1) := by decide +kernel
theorem dX0_copyFrom_26 : decode cX0_copyFrom 26 = .ok (.getfield 31, 3) := by decide +kernel
theorem dX0_copyFrom_29 : decode cX0_copyFrom 29 = .ok (.putfield 31, 3) := by decide +kernel
theorem dX0_copyFrom_32 : decode cX0_copyFrom 32 = .ok (.aload_n 0, 1) := by decide +kernel
theorem dX0_copyFrom_33 : decode cX0_copyFrom 33 = .ok (.aload_n 1, 1) := by decide +kernel
theorem dX0_copyFrom_34 : decode cX0_copyFrom 34 = .ok (.getfield 34, 3) := by decide +kernel
theorem dX0_copyFrom_37 : decode cX0_copyFrom 37 = .ok (.putfield 34, 3) := by decide +kernel
theorem dX0_copyFrom_40 : decode cX0_copyFrom 40 = .ok (.aload_n 0, 1) := by decide +kernel
theorem dX0_copyFrom_41 : decode cX0_copyFrom 41 = .ok (.aload_n 1, 1) := by decide +kernel
theorem dX0_copyFrom_42 : decode cX0_copyFrom 42 = .ok (.getfield 37, 3) := by decide +kernel
theorem dX0_copyFrom_45 : decode cX0_copyFrom 45 = .ok (.putfield 37, 3) := by decide +kernel
theorem dX0_copyFrom_48 : decode cX0_copyFrom 48 = .ok (.aload_n 0, 1) := by decide +kernel
theorem dX0_copyFrom_49 : decode cX0_copyFrom 49 = .ok (.aload_n 1, 1) := by decide +kernel
theorem dX0_copyFrom_50 : decode cX0_copyFrom 50 = .ok (.getfield 49, 3) := by decide +kernel
theorem dX0_copyFrom_53 : decode cX0_copyFrom 53 = .ok (.putfield 49, 3) := by decide +kernel
theorem dX0_copyFrom_56 : decode cX0_copyFrom 56 = .ok (.aload_n 0, 1) := by decide +kernel
theorem dX0_copyFrom_57 : decode cX0_copyFrom 57 = .ok (.aload_n 1, 1) := by decide +kernel
theorem dX0_copyFrom_58 : decode cX0_copyFrom 58 = .ok (.getfield 52, 3) := by decide +kernel
theorem dX0_copyFrom_61 : decode cX0_copyFrom 61 = .ok (.putfield 52, 3) := by decide +kernel
theorem dX0_copyFrom_64 : decode cX0_copyFrom 64 = .ok (.aload_n 0, 1) := by decide +kernel
theorem dX0_copyFrom_65 : decode cX0_copyFrom 65 = .ok (.aload_n 1, 1) := by decide +kernel
theorem dX0_copyFrom_66 : decode cX0_copyFrom 66 = .ok (.getfield 40, 3) := by decide +kernel
theorem dX0_copyFrom_69 : decode cX0_copyFrom 69 = .ok (.putfield 40, 3) := by decide +kernel
theorem dX0_copyFrom_72 : decode cX0_copyFrom 72 = .ok (.aload_n 0, 1) := by decide +kernel
theorem dX0_copyFrom_73 : decode cX0_copyFrom 73 = .ok (.aload_n 1, 1) := by decide +kernel
theorem dX0_copyFrom_74 : decode cX0_copyFrom 74 = .ok (.getfield 55, 3) := by decide +kernel
theorem dX0_copyFrom_77 : decode cX0_copyFrom 77 = .ok (.putfield 55, 3) := by decide +kernel
theorem dX0_copyFrom_80 : decode cX0_copyFrom 80 = .ok (.aload_n 0, 1) := by decide +kernel
theorem dX0_copyFrom_81 : decode cX0_copyFrom 81 = .ok (.aload_n 1, 1) := by decide +kernel
theorem dX0_copyFrom_82 : decode cX0_copyFrom 82 = .ok (.getfield 58, 3) := by decide +kernel
theorem dX0_copyFrom_85 : decode cX0_copyFrom 85 = .ok (.putfield 58, 3) := by decide +kernel
theorem dX0_copyFrom_88 : decode cX0_copyFrom 88 = .ok (.aload_n 1, 1) := by decide +kernel
theorem dX0_copyFrom_89 : decode cX0_copyFrom 89 = .ok (.getfield 15, 3) := by decide +kernel
theorem dX0_copyFrom_92 : decode cX0_copyFrom 92 = .ok (.iconst 0, 1) := by decide +kernel
theorem dX0_copyFrom_93 : decode cX0_copyFrom 93 = .ok (.aload_n 0, 1) := by decide +kernel
theorem dX0_copyFrom_94 : decode cX0_copyFrom 94 = .ok (.getfield 15, 3) := by decide +kernel
theorem dX0_copyFrom_97 : decode cX0_copyFrom 97 = .ok (.iconst 0, 1) := by decide +kernel
theorem dX0_copyFrom_98 : decode cX0_copyFrom 98 = .ok (.iconst 4, 1) := by decide +kernel
theorem dX0_copyFrom_99 : decode cX0_copyFrom 99 = .ok (.invokestatic 61, 3) := by decide +kernel
theorem dX0_copyFrom_102 : decode cX0_copyFrom 102 = .ok (.aload_n 1, 1) := by decide +kernel
theorem dX0_copyFrom_103 : decode cX0_copyFrom 103 = .ok (.getfield 19, 3) := by decide +kernel
theorem dX0_copyFrom_106 : decode cX0_copyFrom 106 = .ok (.iconst 0, 1) := by decide +kernel
theorem dX0_copyFrom_107 : decode cX0_copyFrom 107 = .ok (.aload_n 0, 1) := by decide +kernel
theorem dX0_copyFrom_108 : decode cX0_copyFrom 108 = .ok (.getfield 19, 3) := by decide +kernel
theorem dX0_copyFrom_111 : decode cX0_copyFrom 111 = .ok (.iconst 0, 1) := by decide +kernel
theorem dX0_copyFrom_112 : decode cX0_copyFrom 112 = .ok (.iconst 4, 1) := by decide +kernel
theorem dX0_copyFrom_113 : decode cX0_copyFrom 113 = .ok (.invokestatic 61, 3) := by decide +kernel
theorem dX0_copyFrom_116 : decode cX0_copyFrom 116 = .ok (.aload_n 1, 1) := by decide +kernel
theorem dX0_copyFrom_117 : decode cX0_copyFrom 117 = .ok (.getfield 22, 3) := by decide +kernel
theorem dX0_copyFrom_120 : decode cX0_copyFrom 120 = .ok (.iconst 0, 1) := by decide +kernel
theorem dX0_copyFrom_121 : decode cX0_copyFrom 121 = .ok (.aload_n 0, 1) := by decide +kernel
theorem dX0_copyFrom_122 : decode cX0_copyFrom 122 = .ok (.getfield 22, 3) := by decide +kernel
theorem dX0_copyFrom_125 : decode cX0_copyFrom 125 = .ok (.iconst 0, 1) := by decide +kernel
theorem dX0_copyFrom_126 : decode cX0_copyFrom 126 = .ok (.iconst 4, 1) := by decide +kernel
theorem dX0_copyFrom_127 : decode cX0_copyFrom 127 = .ok (.invokestatic 61, 3) := by decide +kernel
theorem dX0_copyFrom_130 : decode cX0_copyFrom 130 = .ok (.aload_n 1, 1) := by decide +kernel
theorem dX0_copyFrom_131 : decode cX0_copyFrom 131 = .ok (.getfield 25, 3) := by decide +kernel
theorem dX0_copyFrom_134 : decode cX0_copyFrom 134 = .ok (.iconst 0, 1) := by decide +kernel
theorem dX0_copyFrom_135 : decode cX0_copyFrom 135 = .ok (.aload_n 0, 1) := by decide +kernel
theorem dX0_copyFrom_136 : decode cX0_copyFrom 136 = .ok (.getfield 25, 3) := by decide +kernel
theorem dX0_copyFrom_139 : decode cX0_copyFrom 139 = .ok (.iconst 0, 1) := by decide +kernel
theorem dX0_copyFrom_140 : decode cX0_copyFrom 140 = .ok (.iconst 4, 1) := by decide +kernel
theorem dX0_copyFrom_141 : decode cX0_copyFrom 141 = .ok (.invokestatic 61, 3) := by decide +kernel
theorem dX0_copyFrom_144 : decode cX0_copyFrom 144 = .ok (.return_, 1) := by decide +kernel
theorem dX0_misses_0 : decode cX0_misses 0 = .ok (.iconst 0, 1) := by decide +kernel
theorem dX0_misses_1 : decode cX0_misses 1 = .ok (.aload_n 0, 1) := by decide +kernel
theorem dX0_misses_2 : decode cX0_misses 2 = .ok (.getfield 22, 3) := by decide +kernel
theorem dX0_misses_5 : decode cX0_misses 5 = .ok (.iload_n 1, 1) := by decide +kernel
theorem dX0_misses_6 : decode cX0_misses 6 = .ok (.iaload, 1) := by decide +kernel
theorem dX0_misses_7 : decode cX0_misses 7 = .ok (.aload_n 0, 1) := by decide +kernel
theorem dX0_misses_8 : decode cX0_misses 8 = .ok (.getfield 15, 3) := by decide +kernel
theorem dX0_misses_11 : decode cX0_misses 11 = .ok (.iload_n 1, 1) := by decide +kernel
theorem dX0_misses_12 : decode cX0_misses 12 = .ok (.iaload, 1) := by decide +kernel
theorem dX0_misses_13 : decode cX0_misses 13 = .ok (.isub, 1) := by decide +kernel
theorem dX0_misses_14 : decode cX0_misses 14 = .ok (.invokestatic 67, 3) := by decide +kernel
theorem dX0_misses_17 : decode cX0_misses 17 = .ok (.ireturn, 1) := by decide +kernel
set_option maxRecDepth 20000 in
theorem ggX0_missesInAll_X0_misses : GoodIn wsX0_missesInAll wsX0_misses := goodIn_r _ [5, 6, 7, 8, 9, 10, 11, 12, 13, 14, 15, 16, 17, 18, 19, 20, 21, 22, 23, 24, 25, 26, 27] (by decide +kernel) (by decide +kernel)
set_option maxRecDepth 20000 in
theorem gX0_missesInAll_X0_misses : GoodIn wsX0_missesInAll (wsV RX0 73 RX0 yX0_misses wsX0_misses) := goodIn_app (goodIn_of _ (by decide +kernel)) ggX0_missesInAll_X0_misses
theorem dX0_missesInAll_0 : decode cX0_missesInAll 0 = .ok (.iconst 0, 1) := by decide +kernel
theorem dX0_missesInAll_1 : decode cX0_missesInAll 1 = .ok (.istore_n 1, 1) := by decide +kernel
theorem dX0_missesInAll_2 : decode cX0_missesInAll 2 = .ok (.iconst 0, 1) := by decide +kernel
theorem dX0_missesInAll_3 : decode cX0_missesInAll 3 = .ok (.istore_n 2, 1) := by decide +kernel
theorem dX0_missesInAll_4 : decode cX0_missesInAll 4 = .ok (.iload_n 2, 1) := by decide +kernel
theorem dX0_missesInAll_5 : decode cX0_missesInAll 5 = .ok (.iconst 4, 1) := by decide +kernel
theorem dX0_missesInAll_6 : decode cX0_missesInAll 6 = .ok (.if_icmp .ge 17, 3) := by decide +kernel
theorem dX0_missesInAll_9 : decode cX0_missesInAll 9 = .ok (.iload_n 1, 1) := by decide +kernel
theorem dX0_missesInAll_10 : decode cX0_missesInAll 10 = .ok (.aload_n 0, 1) := by decide +kernel
theorem dX0_missesInAll_11 : decode cX0_missesInAll 11 = .ok (.iload_n 2, 1) := by decide +kernel
theorem dX0_missesInAll_12 : decode cX0_missesInAll 12 = .ok (.invokevirtual 73, 3) := by decide +kernel
theorem dX0_missesInAll_15 : decode cX0_missesInAll 15 = .ok (.iadd, 1) := by decide +kernel
theorem dX0_missesInAll_16 : decode cX0_missesInAll 16 = .ok (.istore_n 1, 1) := by decide +kernel
theorem dX0_missesInAll_17 : decode cX0_missesInAll 17 = .ok (.iinc 2 1, 3) := by decide +kernel
theorem dX0_missesInAll_20 : decode cX0_missesInAll 20 = .ok (.goto (-16), 3) := by decide +kernel
theorem dX0_missesInAll_23 : decode cX0_missesInAll 23 = .ok (.iload_n 1, 1) := by decide +kernel
theorem dX0_missesInAll_24 : decode cX0_missesInAll 24 = .ok (.ireturn, 1) := by decide +kernel
theorem dX0_goodsInAll_0 : decode cX0_goodsInAll 0 = .ok (.iconst 0, 1) := by decide +kernel
theorem dX0_goodsInAll_1 : decode cX0_goodsInAll 1 = .ok (.istore_n 1, 1) := by decide +kernel
theorem dX0_goodsInAll_2 : decode cX0_goodsInAll 2 = .ok (.iconst 0, 1) := by decide +kernel
theorem dX0_goodsInAll_3 : decode cX0_goodsInAll 3 = .ok (.istore_n 2, 1) := by decide +kernel
theorem dX0_goodsInAll_4 : decode cX0_goodsInAll 4 = .ok (.iload_n 2, 1) := by decide +kernel
theorem dX0_goodsInAll_5 : decode cX0_goodsInAll 5 = .ok (.iconst 4, 1) := by decide +kernel
theorem dX0_goodsInAll_6 : decode cX0_goodsInAll 6 = .ok (.if_icmp .ge 18, 3) := by decide +kernel
theorem dX0_goodsInAll_9 : decode cX0_goodsInAll 9 = .ok (.iload_n 1, 1) := by decide +kernel
theorem dX0_goodsInAll_10 : decode cX0_goodsInAll 10 = .ok (.aload_n 0, 1) := by decide +kernel
theorem dX0_goodsInAll_11 : decode cX0_goodsInAll 11 = .ok (.getfield 15, 3) := by decide +kernel
theorem dX0_goodsInAll_14 : decode cX0_goodsInAll 14 = .ok (.iload_n 2, 1) := by decide +kernel
theorem dX0_goodsInAll_15 : decode cX0_goodsInAll 15 = .ok (.iaload, 1) := by decide +kernel
theorem dX0_goodsInAll_16 : decode cX0_goodsInAll 16 = .ok (.iadd, 1) := by decide +kernel
theorem dX0_goodsInAll_17 : decode cX0_goodsInAll 17 = .ok (.istore_n 1, 1) := by decide +kernel
theorem dX0_goodsInAll_18 : decode cX0_goodsInAll 18 = .ok (.iinc 2 1, 3) := by decide +kernel
theorem dX0_goodsInAll_21 : decode cX0_goodsInAll 21 = .ok (.goto (-17), 3) := by decide +kernel
theorem dX0_goodsInAll_24 : decode cX0_goodsInAll 24 = .ok (.iload_n 1, 1) := by decide +kernel
theorem dX0_goodsInAll_25 : decode cX0_goodsInAll 25 = .ok (.ireturn, 1) := by decide +kernel
theorem dX0_sells_0 : decode cX0_sells 0 = .ok (.aload_n 0, 1) := by decide +kernel
theorem dX0_sells_1 : decode cX0_sells 1 = .ok (.getfield 19, 3) := by decide +kernel
theorem dX0_sells_4 : decode cX0_sells 4 = .ok (.iload_n 1, 1) := by decide +kernel
theorem dX0_sells_5 : decode cX0_sells 5 = .ok (.iaload, 1) := by decide +kernel
theorem dX0_sells_6 : decode cX0_sells 6 = .ok (.ifCond .eq 32, 3) := by decide +kernel
theorem dX0_sells_9 : decode cX0_sells 9 = .ok (.aload_n 0, 1) := by decide +kernel
theorem dX0_sells_10 : decode cX0_sells 10 = .ok (.getfield 19, 3) := by decide +kernel
theorem dX0_sells_13 : decode cX0_sells 13 = .ok (.iload_n 1, 1) := by decide +kernel
theorem dX0_sells_14 : decode cX0_sells 14 = .ok (.iaload, 1) := by decide +kernel
theorem dX0_sells_15 : decode cX0_sells 15 = .ok (.iload_n 2, 1) := by decide +kernel
theorem dX0_sells_16 : decode cX0_sells 16 = .ok (.if_icmp .gt 22, 3) := by decide +kernel
theorem dX0_sells_19 : decode cX0_sells 19 = .ok (.aload_n 0, 1) := by decide +kernel
theorem dX0_sells_20 : decode cX0_sells 20 = .ok (.getfield 15, 3) := by decide +kernel
theorem dX0_sells_23 : decode cX0_sells 23 = .ok (.iload_n 1, 1) := by decide +kernel
theorem dX0_sells_24 : decode cX0_sells 24 = .ok (.iaload, 1) := by decide +kernel
theorem dX0_sells_25 : decode cX0_sells 25 = .ok (.aload_n 0, 1) := by decide +kernel
theorem dX0_sells_26 : decode cX0_sells 26 = .ok (.getfield 22, 3) := by decide +kernel
theorem dX0_sells_29 : decode cX0_sells 29 = .ok (.iload_n 1, 1) := by decide +kernel
theorem dX0_sells_30 : decode cX0_sells 30 = .ok (.iaload, 1) := by decide +kernel
theorem dX0_sells_31 : decode cX0_sells 31 = .ok (.if_icmp .le 7, 3) := by decide +kernel
theorem dX0_sells_34 : decode cX0_sells 34 = .ok (.iconst 1, 1) := by decide +kernel
theorem dX0_sells_35 : decode cX0_sells 35 = .ok (.goto 4, 3) := by decide +kernel
theorem dX0_sells_38 : decode cX0_sells 38 = .ok (.iconst 0, 1) := by decide +kernel
theorem dX0_sells_39 : decode cX0_sells 39 = .ok (.ireturn, 1) := by decide +kernel
theorem dX0_isBeside_0 : decode cX0_isBeside 0 = .ok (.aload_n 0, 1) := by decide +kernel
theorem dX0_isBeside_1 : decode cX0_isBeside 1 = .ok (.getfield 28, 3) := by decide +kernel
theorem dX0_isBeside_4 : decode cX0_isBeside 4 = .ok (.iconst 1, 1) := by decide +kernel
theorem dX0_isBeside_5 : decode cX0_isBeside 5 = .ok (.if_icmp .ne 11, 3) := by decide +kernel
theorem dX0_isBeside_8 : decode cX0_isBeside 8 = .ok (.aload_n 1, 1) := by decide +kernel
theorem dX0_isBeside_9 : decode cX0_isBeside 9 = .ok (.getfield 28, 3) := by decide +kernel
theorem dX0_isBeside_12 : decode cX0_isBeside 12 = .ok (.iconst 1, 1) := by decide +kernel
theorem dX0_isBeside_13 : decode cX0_isBeside 13 = .ok (.if_icmp .eq 5, 3) := by decide +kernel
theorem dX0_isBeside_16 : decode cX0_isBeside 16 = .ok (.iconst 0, 1) := by decide +kernel
theorem dX0_isBeside_17 : decode cX0_isBeside 17 = .ok (.ireturn, 1) := by decide +kernel
theorem dX0_isBeside_18 : decode cX0_isBeside 18 = .ok (.aload_n 0, 1) := by decide +kernel
theorem dX0_isBeside_19 : decode cX0_isBeside 19 = .ok (.getfield 31, 3) := by decide +kernel
theorem dX0_isBeside_22 : decode cX0_isBeside 22 = .ok (.aload_n 1, 1) := by decide +kernel
theorem dX0_isBeside_23 : decode cX0_isBeside 23 = .ok (.getfield 31, 3) := by decide +kernel
theorem dX0_isBeside_26 : decode cX0_isBeside 26 = .ok (.isub, 1) := by decide +kernel
theorem dX0_isBeside_27 : decode cX0_isBeside 27 = .ok (.invokestatic 77, 3) := by decide +kernel
theorem dX0_isBeside_30 : decode cX0_isBeside 30 = .ok (.istore_n 2, 1) := by decide +kernel
theorem dX0_isBeside_31 : decode cX0_isBeside 31 = .ok (.aload_n 0, 1) := by decide +kernel
theorem dX0_isBeside_32 : decode cX0_isBeside 32 = .ok (.getfield 34, 3) := by decide +kernel
theorem dX0_isBeside_35 : decode cX0_isBeside 35 = .ok (.aload_n 1, 1) := by decide +kernel
theorem dX0_isBeside_36 : decode cX0_isBeside 36 = .ok (.getfield 34, 3) := by decide +kernel
theorem dX0_isBeside_39 : decode cX0_isBeside 39 = .ok (.isub, 1) := by decide +kernel
theorem dX0_isBeside_40 : decode cX0_isBeside 40 = .ok (.invokestatic 77, 3) := by decide +kernel
theorem dX0_isBeside_43 : decode cX0_isBeside 43 = .ok (.istore_n 3, 1) := by decide +kernel
theorem dX0_isBeside_44 : decode cX0_isBeside 44 = .ok (.iload_n 2, 1) := by decide +kernel
theorem dX0_isBeside_45 : decode cX0_isBeside 45 = .ok (.iload_n 3, 1) := by decide +kernel
theorem dX0_isBeside_46 : decode cX0_isBeside 46 = .ok (.iadd, 1) := by decide +kernel
theorem dX0_isBeside_47 : decode cX0_isBeside 47 = .ok (.iconst 1, 1) := by decide +kernel
theorem dX0_isBeside_48 : decode cX0_isBeside 48 = .ok (.if_icmp .ne 7, 3) := by decide +kernel
theorem dX0_isBeside_51 : decode cX0_isBeside 51 = .ok (.iconst 1, 1) := by decide +kernel
theorem dX0_isBeside_52 : decode cX0_isBeside 52 = .ok (.goto 4, 3) := by decide +kernel
theorem dX0_isBeside_55 : decode cX0_isBeside 55 = .ok (.iconst 0, 1) := by decide +kernel
theorem dX0_isBeside_56 : decode cX0_isBeside 56 = .ok (.ireturn, 1) := by decide +kernel
set_option maxRecDepth 20000 in
theorem ggX0_hasReached_X0_missesInAll : GoodIn wsX0_hasReached wsX0_missesInAll := goodIn_r _ [6, 7, 8, 9, 5, 10, 11, 12, 13, 14, 15, 16, 17, 18, 19, 20, 21, 22, 23, 24, 25, 26, 27, 28, 29, 30, 31, 32] (by decide +kernel) (by decide +kernel)
set_option maxRecDepth 20000 in
theorem gX0_hasReached_X0_missesInAll : GoodIn wsX0_hasReached (wsV RX0 80 RX0 yX0_missesInAll wsX0_missesInAll) := goodIn_app (goodIn_of _ (by decide +kernel)) ggX0_hasReached_X0_missesInAll
theorem dX0_hasReached_0 : decode cX0_hasReached 0 = .ok (.iload_n 1, 1) := by decide +kernel
theorem dX0_hasReached_1 : decode cX0_hasReached 1 = .ok (.iconst 1, 1) := by decide +kernel
theorem dX0_hasReached_2 : decode cX0_hasReached 2 = .ok (.if_icmp .ne 19, 3) := by decide +kernel
theorem dX0_hasReached_5 : decode cX0_hasReached 5 = .ok (.aload_n 0, 1) := by decide +kernel
theorem dX0_hasReached_6 : decode cX0_hasReached 6 = .ok (.getfield 28, 3) := by decide +kernel
theorem dX0_hasReached_9 : decode cX0_hasReached 9 = .ok (.iconst 2, 1) := by decide +kernel
theorem dX0_hasReached_10 : decode cX0_hasReached 10 = .ok (.if_icmp .ne 7, 3) := by decide +kernel
theorem dX0_hasReached_13 : decode cX0_hasReached 13 = .ok (.iconst 1, 1) := by decide +kernel
theorem dX0_hasReached_14 : decode cX0_hasReached 14 = .ok (.goto 19, 3) := by decide +kernel
theorem dX0_hasReached_17 : decode cX0_hasReached 17 = .ok (.iconst 0, 1) := by decide +kernel
theorem dX0_hasReached_18 : decode cX0_hasReached 18 = .ok (.goto 15, 3) := by decide +kernel
theorem dX0_hasReached_21 : decode cX0_hasReached 21 = .ok (.aload_n 0, 1) := by decide +kernel
theorem dX0_hasReached_22 : decode cX0_hasReached 22 = .ok (.invokevirtual 80, 3) := by decide +kernel
theorem dX0_hasReached_25 : decode cX0_hasReached 25 = .ok (.ifCond .ne 7, 3) := by decide +kernel
theorem dX0_hasReached_28 : decode cX0_hasReached 28 = .ok (.iconst 1, 1) := by decide +kernel
theorem dX0_hasReached_29 : decode cX0_hasReached 29 = .ok (.goto 4, 3) := by decide +kernel
theorem dX0_hasReached_32 : decode cX0_hasReached 32 = .ok (.iconst 0, 1) := by decide +kernel
theorem dX0_hasReached_33 : decode cX0_hasReached 33 = .ok (.ireturn, 1) := by decide +kernel
theorem dX0_isToLeaveBy_0 : decode cX0_isToLeaveBy 0 = .ok (.aload_n 0, 1) := by decide +kernel
theorem dX0_isToLeaveBy_1 : decode cX0_isToLeaveBy 1 = .ok (.getfield 37, 3) := by decide +kernel
theorem dX0_isToLeaveBy_4 : decode cX0_isToLeaveBy 4 = .ok (.iconst (-1), 1) := by decide +kernel
theorem dX0_isToLeaveBy_5 : decode cX0_isToLeaveBy 5 = .ok (.if_icmp .eq 15, 3) := by decide +kernel
theorem dX0_isToLeaveBy_8 : decode cX0_isToLeaveBy 8 = .ok (.aload_n 0, 1) := by decide +kernel
theorem dX0_isToLeaveBy_9 : decode cX0_isToLeaveBy 9 = .ok (.getfield 37, 3) := by decide +kernel
theorem dX0_isToLeaveBy_12 : decode cX0_isToLeaveBy 12 = .ok (.iload_n 1, 1) := by decide +kernel
theorem dX0_isToLeaveBy_13 : decode cX0_isToLeaveBy 13 = .ok (.if_icmp .gt 7, 3) := by decide +kernel
theorem dX0_isToLeaveBy_16 : decode cX0_isToLeaveBy 16 = .ok (.iconst 1, 1) := by decide +kernel
theorem dX0_isToLeaveBy_17 : decode cX0_isToLeaveBy 17 = .ok (.goto 4, 3) := by decide +kernel
theorem dX0_isToLeaveBy_20 : decode cX0_isToLeaveBy 20 = .ok (.iconst 0, 1) := by decide +kernel
theorem dX0_isToLeaveBy_21 : decode cX0_isToLeaveBy 21 = .ok (.ireturn, 1) := by decide +kernel
set_option maxRecDepth 20000 in
theorem ggX0_figure_X0_missesInAll : GoodIn wsX0_figure wsX0_missesInAll := goodIn_r _ [15, 16, 17, 18, 14, 19, 20, 21, 22, 23, 24, 25, 26, 27, 28, 29, 30, 31, 32, 33, 34, 35, 36, 37, 38, 39, 40, 41] (by decide +kernel) (by decide +kernel)
set_option maxRecDepth 20000 in
theorem gX0_figure_X0_missesInAll : GoodIn wsX0_figure (wsV RX0 80 RX0 yX0_missesInAll wsX0_missesInAll) := goodIn_app (goodIn_of _ (by decide +kernel)) ggX0_figure_X0_missesInAll
theorem dX0_figure_0 : decode cX0_figure 0 = .ok (.iload_n 1, 1) := by decide +kernel
theorem dX0_figure_1 : decode cX0_figure 1 = .ok (.tableswitch 105 0 9 #[55, 60, 65, 70, 75, 80, 85, 90, 95, 100], 55) := by decide +kernel
theorem dX0_figure_56 : decode cX0_figure 56 = .ok (.aload_n 0, 1) := by decide +kernel
theorem dX0_figure_57 : decode cX0_figure 57 = .ok (.getfield 43, 3) := by decide +kernel
theorem dX0_figure_60 : decode cX0_figure 60 = .ok (.ireturn, 1) := by decide +kernel
theorem dX0_figure_61 : decode cX0_figure 61 = .ok (.aload_n 0, 1) := by decide +kernel
theorem dX0_figure_62 : decode cX0_figure 62 = .ok (.getfield 46, 3) := by decide +kernel
theorem dX0_figure_65 : decode cX0_figure 65 = .ok (.ireturn, 1) := by decide +kernel
theorem dX0_figure_66 : decode cX0_figure 66 = .ok (.aload_n 0, 1) := by decide +kernel
theorem dX0_figure_67 : decode cX0_figure 67 = .ok (.getfield 28, 3) := by decide +kernel
theorem dX0_figure_70 : decode cX0_figure 70 = .ok (.ireturn, 1) := by decide +kernel
theorem dX0_figure_71 : decode cX0_figure 71 = .ok (.aload_n 0, 1) := by decide +kernel
theorem dX0_figure_72 : decode cX0_figure 72 = .ok (.getfield 31, 3) := by decide +kernel
theorem dX0_figure_75 : decode cX0_figure 75 = .ok (.ireturn, 1) := by decide +kernel
theorem dX0_figure_76 : decode cX0_figure 76 = .ok (.aload_n 0, 1) := by decide +kernel
theorem dX0_figure_77 : decode cX0_figure 77 = .ok (.getfield 34, 3) := by decide +kernel
theorem dX0_figure_80 : decode cX0_figure 80 = .ok (.ireturn, 1) := by decide +kernel
theorem dX0_figure_81 : decode cX0_figure 81 = .ok (.aload_n 0, 1) := by decide +kernel
theorem dX0_figure_82 : decode cX0_figure 82 = .ok (.getfield 37, 3) := by decide +kernel
theorem dX0_figure_85 : decode cX0_figure 85 = .ok (.ireturn, 1) := by decide +kernel
theorem dX0_figure_86 : decode cX0_figure 86 = .ok (.aload_n 0, 1) := by decide +kernel
theorem dX0_figure_87 : decode cX0_figure 87 = .ok (.getfield 49, 3) := by decide +kernel
theorem dX0_figure_90 : decode cX0_figure 90 = .ok (.ireturn, 1) := by decide +kernel
theorem dX0_figure_91 : decode cX0_figure 91 = .ok (.aload_n 0, 1) := by decide +kernel
theorem dX0_figure_92 : decode cX0_figure 92 = .ok (.getfield 52, 3) := by decide +kernel
theorem dX0_figure_95 : decode cX0_figure 95 = .ok (.ireturn, 1) := by decide +kernel
theorem dX0_figure_96 : decode cX0_figure 96 = .ok (.aload_n 0, 1) := by decide +kernel
theorem dX0_figure_97 : decode cX0_figure 97 = .ok (.getfield 55, 3) := by decide +kernel
theorem dX0_figure_100 : decode cX0_figure 100 = .ok (.ireturn, 1) := by decide +kernel
theorem dX0_figure_101 : decode cX0_figure 101 = .ok (.aload_n 0, 1) := by decide +kernel
theorem dX0_figure_102 : decode cX0_figure 102 = .ok (.getfield 58, 3) := by decide +kernel
theorem dX0_figure_105 : decode cX0_figure 105 = .ok (.ireturn, 1) := by decide +kernel
theorem dX0_figure_106 : decode cX0_figure 106 = .ok (.aload_n 0, 1) := by decide +kernel
theorem dX0_figure_107 : decode cX0_figure 107 = .ok (.invokevirtual 80, 3) := by decide +kernel
theorem dX0_figure_110 : decode cX0_figure 110 = .ok (.ireturn, 1) := by decide +kernel
theorem dX0_goodFigure_0 : decode cX0_goodFigure 0 = .ok (.iload_n 2, 1) := by decide +kernel
theorem dX0_goodFigure_1 : decode cX0_goodFigure 1 = .ok (.tableswitch 48 0 2 #[27, 34, 41], 27) := by decide +kernel
theorem dX0_goodFigure_28 : decode cX0_goodFigure 28 = .ok (.aload_n 0, 1) := by decide +kernel
theorem dX0_goodFigure_29 : decode cX0_goodFigure 29 = .ok (.getfield 15, 3) := by decide +kernel
theorem dX0_goodFigure_32 : decode cX0_goodFigure 32 = .ok (.iload_n 1, 1) := by decide +kernel
theorem dX0_goodFigure_33 : decode cX0_goodFigure 33 = .ok (.iaload, 1) := by decide +kernel
theorem dX0_goodFigure_34 : decode cX0_goodFigure 34 = .ok (.ireturn, 1) := by decide +kernel
theorem dX0_goodFigure_35 : decode cX0_goodFigure 35 = .ok (.aload_n 0, 1) := by decide +kernel
theorem dX0_goodFigure_36 : decode cX0_goodFigure 36 = .ok (.getfield 19, 3) := by decide +kernel
theorem dX0_goodFigure_39 : decode cX0_goodFigure 39 = .ok (.iload_n 1, 1) := by decide +kernel
theorem dX0_goodFigure_40 : decode cX0_goodFigure 40 = .ok (.iaload, 1) := by decide +kernel
theorem dX0_goodFigure_41 : decode cX0_goodFigure 41 = .ok (.ireturn, 1) := by decide +kernel
theorem dX0_goodFigure_42 : decode cX0_goodFigure 42 = .ok (.aload_n 0, 1) := by decide +kernel
theorem dX0_goodFigure_43 : decode cX0_goodFigure 43 = .ok (.getfield 22, 3) := by decide +kernel
theorem dX0_goodFigure_46 : decode cX0_goodFigure 46 = .ok (.iload_n 1, 1) := by decide +kernel
theorem dX0_goodFigure_47 : decode cX0_goodFigure 47 = .ok (.iaload, 1) := by decide +kernel
theorem dX0_goodFigure_48 : decode cX0_goodFigure 48 = .ok (.ireturn, 1) := by decide +kernel
theorem dX0_goodFigure_49 : decode cX0_goodFigure 49 = .ok (.aload_n 0, 1) := by decide +kernel
theorem dX0_goodFigure_50 : decode cX0_goodFigure 50 = .ok (.getfield 25, 3) := by decide +kernel
theorem dX0_goodFigure_53 : decode cX0_goodFigure 53 = .ok (.iload_n 1, 1) := by decide +kernel
theorem dX0_goodFigure_54 : decode cX0_goodFigure 54 = .ok (.iaload, 1) := by decide +kernel
theorem dX0_goodFigure_55 : decode cX0_goodFigure 55 = .ok (.ireturn, 1) := by decide +kernel
set_option maxRecDepth 20000 in
theorem ggX0_addTo_X0_figure : GoodIn wsX0_addTo wsX0_figure := goodIn_r _ [6, 7, 8, 9, 10, 11, 12, 13, 14, 15, 16, 17, 18, 19, 5, 20, 21, 22, 23, 24, 25, 26, 27, 28, 29, 30, 37, 38, 39, 40, 41, 42, 43, 44, 45, 46, 47, 48, 49, 50, 51, 52] (by decide +kernel) (by decide +kernel)
set_option maxRecDepth 20000 in
theorem gX0_addTo_X0_figure : GoodIn wsX0_addTo (wsV RX0 86 RX0 yX0_figure wsX0_figure) := goodIn_app (goodIn_of _ (by decide +kernel)) ggX0_addTo_X0_figure
set_option maxRecDepth 20000 in
theorem ggX0_addTo_X0_goodFigure : GoodIn wsX0_addTo wsX0_goodFigure := goodIn_r _ [34, 26, 35, 25, 36, 37, 38, 39, 40, 41, 42, 43, 44, 45, 46, 47, 48, 49, 50, 51, 52] (by decide +kernel) (by decide +kernel)
set_option maxRecDepth 20000 in
theorem gX0_addTo_X0_goodFigure : GoodIn wsX0_addTo (wsV RX0 89 RX0 yX0_goodFigure wsX0_goodFigure) := goodIn_app (goodIn_of _ (by decide +kernel)) ggX0_addTo_X0_goodFigure
theorem dX0_addTo_0 : decode cX0_addTo 0 = .ok (.lload_n 1, 1) := by decide +kernel
theorem dX0_addTo_1 : decode cX0_addTo 1 = .ok (.lstore_n 3, 1) := by decide +kernel
theorem dX0_addTo_2 : decode cX0_addTo 2 = .ok (.iconst 0, 1) := by decide +kernel
theorem dX0_addTo_3 : decode cX0_addTo 3 = .ok (.istore 5, 2) := by decide +kernel
theorem dX0_addTo_5 : decode cX0_addTo 5 = .ok (.iload 5, 2) := by decide +kernel
theorem dX0_addTo_7 : decode cX0_addTo 7 = .ok (.bipush 11, 2) := by decide +kernel
theorem dX0_addTo_9 : decode cX0_addTo 9 = .ok (.if_icmp .ge 23, 3) := by decide +kernel
theorem dX0_addTo_12 : decode cX0_addTo 12 = .ok (.lload_n 3, 1) := by decide +kernel
theorem dX0_addTo_13 : decode cX0_addTo 13 = .ok (.ldc2_w 84, 3) := by decide +kernel
theorem dX0_addTo_16 : decode cX0_addTo 16 = .ok (.lmul, 1) := by decide +kernel
theorem dX0_addTo_17 : decode cX0_addTo 17 = .ok (.aload_n 0, 1) := by decide +kernel
theorem dX0_addTo_18 : decode cX0_addTo 18 = .ok (.iload 5, 2) := by decide +kernel
theorem dX0_addTo_20 : decode cX0_addTo 20 = .ok (.invokevirtual 86, 3) := by decide +kernel
theorem dX0_addTo_23 : decode cX0_addTo 23 = .ok (.i2l, 1) := by decide +kernel
theorem dX0_addTo_24 : decode cX0_addTo 24 = .ok (.ladd, 1) := by decide +kernel
theorem dX0_addTo_25 : decode cX0_addTo 25 = .ok (.lstore_n 3, 1) := by decide +kernel
theorem dX0_addTo_26 : decode cX0_addTo 26 = .ok (.iinc 5 1, 3) := by decide +kernel
theorem dX0_addTo_29 : decode cX0_addTo 29 = .ok (.goto (-24), 3) := by decide +kernel
theorem dX0_addTo_32 : decode cX0_addTo 32 = .ok (.iconst 0, 1) := by decide +kernel
theorem dX0_addTo_33 : decode cX0_addTo 33 = .ok (.istore 5, 2) := by decide +kernel
theorem dX0_addTo_35 : decode cX0_addTo 35 = .ok (.iload 5, 2) := by decide +kernel
theorem dX0_addTo_37 : decode cX0_addTo 37 = .ok (.iconst 4, 1) := by decide +kernel
theorem dX0_addTo_38 : decode cX0_addTo 38 = .ok (.if_icmp .ge 40, 3) := by decide +kernel
theorem dX0_addTo_41 : decode cX0_addTo 41 = .ok (.iconst 0, 1) := by decide +kernel
theorem dX0_addTo_42 : decode cX0_addTo 42 = .ok (.istore 6, 2) := by decide +kernel
theorem dX0_addTo_44 : decode cX0_addTo 44 = .ok (.iload 6, 2) := by decide +kernel
theorem dX0_addTo_46 : decode cX0_addTo 46 = .ok (.iconst 4, 1) := by decide +kernel
theorem dX0_addTo_47 : decode cX0_addTo 47 = .ok (.if_icmp .ge 25, 3) := by decide +kernel
theorem dX0_addTo_50 : decode cX0_addTo 50 = .ok (.lload_n 3, 1) := by decide +kernel
theorem dX0_addTo_51 : decode cX0_addTo 51 = .ok (.ldc2_w 84, 3) := by decide +kernel
theorem dX0_addTo_54 : decode cX0_addTo 54 = .ok (.lmul, 1) := by decide +kernel
theorem dX0_addTo_55 : decode cX0_addTo 55 = .ok (.aload_n 0, 1) := by decide +kernel
theorem dX0_addTo_56 : decode cX0_addTo 56 = .ok (.iload 5, 2) := by decide +kernel
theorem dX0_addTo_58 : decode cX0_addTo 58 = .ok (.iload 6, 2) := by decide +kernel
theorem dX0_addTo_60 : decode cX0_addTo 60 = .ok (.invokevirtual 89, 3) := by decide +kernel
theorem dX0_addTo_63 : decode cX0_addTo 63 = .ok (.i2l, 1) := by decide +kernel
theorem dX0_addTo_64 : decode cX0_addTo 64 = .ok (.ladd, 1) := by decide +kernel
theorem dX0_addTo_65 : decode cX0_addTo 65 = .ok (.lstore_n 3, 1) := by decide +kernel
theorem dX0_addTo_66 : decode cX0_addTo 66 = .ok (.iinc 6 1, 3) := by decide +kernel
theorem dX0_addTo_69 : decode cX0_addTo 69 = .ok (.goto (-25), 3) := by decide +kernel
theorem dX0_addTo_72 : decode cX0_addTo 72 = .ok (.iinc 5 1, 3) := by decide +kernel
theorem dX0_addTo_75 : decode cX0_addTo 75 = .ok (.goto (-40), 3) := by decide +kernel
theorem dX0_addTo_78 : decode cX0_addTo 78 = .ok (.lload_n 3, 1) := by decide +kernel
theorem dX0_addTo_79 : decode cX0_addTo 79 = .ok (.lreturn, 1) := by decide +kernel
set_option maxRecDepth 20000 in
theorem ggX1_init_X2_init : GoodIn wsX1_init wsX2_init := goodIn_r _ [15, 16, 2, 3, 17, 18, 43, 44, 45] (by decide +kernel) (by decide +kernel)
end
section
abbrev vwCl : List vw_C := [(RX0, TX0, 16), (RX1, TX1, 10), (RX2, TX2, 3), (RX3, TX3, 2), (RX4, TX4, 3), (RX5, TX5, 14), (RX6, TX6, 13)]
end
section
set_option maxRecDepth 20000 in
theorem gX1_init_X2_init : GoodIn wsX1_init (wsX2_init) := ggX1_init_X2_init
set_option maxRecDepth 20000 in
theorem ggX1_init_X0_init : GoodIn wsX1_init wsX0_init := goodIn_r _ [21, 22, 2, 3, 23, 17, 24, 25, 26, 27, 28, 29, 30, 31, 32, 46, 47, 48, 49, 50, 51, 52, 53, 54, 55, 56, 57, 58, 59, 60, 61] (by decide +kernel) (by decide +kernel)
set_option maxRecDepth 20000 in
theorem gX1_init_X0_init : GoodIn wsX1_init (wsX0_init) := ggX1_init_X0_init
theorem dX1_init_0 : decode cX1_init 0 = .ok (.aload_n 0, 1) := by decide +kernel
theorem dX1_init_1 : decode cX1_init 1 = .ok (.invokespecial 3, 3) := by decide +kernel
theorem dX1_init_4 : decode cX1_init 4 = .ok (.aload_n 0, 1) := by decide +kernel
theorem dX1_init_5 : decode cX1_init 5 = .ok (.aload_n 1, 1) := by decide +kernel
theorem dX1_init_6 : decode cX1_init 6 = .ok (.putfield 9, 3) := by decide +kernel
theorem dX1_init_9 : decode cX1_init 9 = .ok (.aload_n 0, 1) := by decide +kernel
theorem dX1_init_10 : decode cX1_init 10 = .ok (.iconst 4, 1) := by decide +kernel
theorem dX1_init_11 : decode cX1_init 11 = .ok (.anewarray 15, 3) := by decide +kernel
theorem dX1_init_14 : decode cX1_init 14 = .ok (.putfield 17, 3) := by decide +kernel
theorem dX1_init_17 : decode cX1_init 17 = .ok (.iconst 0, 1) := by decide +kernel
theorem dX1_init_18 : decode cX1_init 18 = .ok (.istore_n 2, 1) := by decide +kernel
theorem dX1_init_19 : decode cX1_init 19 = .ok (.iload_n 2, 1) := by decide +kernel
theorem dX1_init_20 : decode cX1_init 20 = .ok (.iconst 4, 1) := by decide +kernel
theorem dX1_init_21 : decode cX1_init 21 = .ok (.if_icmp .ge 22, 3) := by decide +kernel
theorem dX1_init_24 : decode cX1_init 24 = .ok (.aload_n 0, 1) := by decide +kernel
theorem dX1_init_25 : decode cX1_init 25 = .ok (.getfield 17, 3) := by decide +kernel
theorem dX1_init_28 : decode cX1_init 28 = .ok (.iload_n 2, 1) := by decide +kernel
theorem dX1_init_29 : decode cX1_init 29 = .ok (.new 15, 3) := by decide +kernel
theorem dX1_init_32 : decode cX1_init 32 = .ok (.dup, 1) := by decide +kernel
theorem dX1_init_33 : decode cX1_init 33 = .ok (.invokespecial 21, 3) := by decide +kernel
theorem dX1_init_36 : decode cX1_init 36 = .ok (.aastore, 1) := by decide +kernel
theorem dX1_init_37 : decode cX1_init 37 = .ok (.iinc 2 1, 3) := by decide +kernel
theorem dX1_init_40 : decode cX1_init 40 = .ok (.goto (-21), 3) := by decide +kernel
theorem dX1_init_43 : decode cX1_init 43 = .ok (.aload_n 0, 1) := by decide +kernel
theorem dX1_init_44 : decode cX1_init 44 = .ok (.bipush 14, 2) := by decide +kernel
theorem dX1_init_46 : decode cX1_init 46 = .ok (.anewarray 22, 3) := by decide +kernel
theorem dX1_init_49 : decode cX1_init 49 = .ok (.putfield 24, 3) := by decide +kernel
theorem dX1_init_52 : decode cX1_init 52 = .ok (.iconst 0, 1) := by decide +kernel
theorem dX1_init_53 : decode cX1_init 53 = .ok (.istore_n 2, 1) := by decide +kernel
theorem dX1_init_54 : decode cX1_init 54 = .ok (.iload_n 2, 1) := by decide +kernel
theorem dX1_init_55 : decode cX1_init 55 = .ok (.bipush 14, 2) := by decide +kernel
theorem dX1_init_57 : decode cX1_init 57 = .ok (.if_icmp .ge 23, 3) := by decide +kernel
theorem dX1_init_60 : decode cX1_init 60 = .ok (.aload_n 0, 1) := by decide +kernel
theorem dX1_init_61 : decode cX1_init 61 = .ok (.getfield 24, 3) := by decide +kernel
theorem dX1_init_64 : decode cX1_init 64 = .ok (.iload_n 2, 1) := by decide +kernel
theorem dX1_init_65 : decode cX1_init 65 = .ok (.new 22, 3) := by decide +kernel
theorem dX1_init_68 : decode cX1_init 68 = .ok (.dup, 1) := by decide +kernel
theorem dX1_init_69 : decode cX1_init 69 = .ok (.iload_n 2, 1) := by decide +kernel
theorem dX1_init_70 : decode cX1_init 70 = .ok (.invokespecial 28, 3) := by decide +kernel
theorem dX1_init_73 : decode cX1_init 73 = .ok (.aastore, 1) := by decide +kernel
theorem dX1_init_74 : decode cX1_init 74 = .ok (.iinc 2 1, 3) := by decide +kernel
theorem dX1_init_77 : decode cX1_init 77 = .ok (.goto (-23), 3) := by decide +kernel
theorem dX1_init_80 : decode cX1_init 80 = .ok (.return_, 1) := by decide +kernel
set_option maxRecDepth 20000 in
theorem ggX1_copyFrom_X2_copyFrom : GoodIn wsX1_copyFrom wsX2_copyFrom := goodIn_r _ [14, 15, 16, 17, 18, 19, 20, 21, 53, 54, 55] (by decide +kernel) (by decide +kernel)
set_option maxRecDepth 20000 in
theorem gX1_copyFrom_X2_copyFrom : GoodIn wsX1_copyFrom (wsV RX1 53 RX2 yX2_copyFrom wsX2_copyFrom) := goodIn_app (goodIn_of _ (by decide +kernel)) ggX1_copyFrom_X2_copyFrom
set_option maxRecDepth 20000 in
theorem ggX1_copyFrom_X0_copyFrom : GoodIn wsX1_copyFrom wsX0_copyFrom := goodIn_r _ [26, 27, 28, 29, 30, 31, 32, 33, 34, 35, 36, 37, 38, 39, 19, 20, 21, 40, 41, 42, 56, 57, 58, 59, 60, 61, 62, 63, 64, 65, 66, 67, 68, 69, 70, 71] (by decide +kernel) (by decide +kernel)
set_option maxRecDepth 20000 in
theorem gX1_copyFrom_X0_copyFrom : GoodIn wsX1_copyFrom (wsV RX1 57 RX0 yX0_copyFrom wsX0_copyFrom) := goodIn_app (goodIn_of _ (by decide +kernel)) ggX1_copyFrom_X0_copyFrom
theorem dX1_copyFrom_0 : decode cX1_copyFrom 0 = .ok (.aload_n 0, 1) := by decide +kernel
theorem dX1_copyFrom_1 : decode cX1_copyFrom 1 = .ok (.aload_n 1, 1) := by decide +kernel
theorem dX1_copyFrom_2 : decode cX1_copyFrom 2 = .ok (.getfield 31, 3) := by decide +kernel
theorem dX1_copyFrom_5 : decode cX1_copyFrom 5 = .ok (.putfield 31, 3) := by decide +kernel
theorem dX1_copyFrom_8 : decode cX1_copyFrom 8 = .ok (.aload_n 0, 1) := by decide +kernel
theorem dX1_copyFrom_9 : decode cX1_copyFrom 9 = .ok (.aload_n 1, 1) := by decide +kernel
theorem dX1_copyFrom_10 : decode cX1_copyFrom 10 = .ok (.getfield 35, 3) := by decide +kernel
theorem dX1_copyFrom_13 : decode cX1_copyFrom 13 = .ok (.putfield 35, 3) := by decide +kernel
theorem dX1_copyFrom_16 : decode cX1_copyFrom 16 = .ok (.aload_n 0, 1) := by decide +kernel
theorem dX1_copyFrom_17 : decode cX1_copyFrom 17 = .ok (.aload_n 1, 1) := by decide +kernel
theorem dX1_copyFrom_18 : decode cX1_copyFrom 18 = .ok (.getfield 38, 3) := by decide +kernel
theorem dX1_copyFrom_21 : decode cX1_copyFrom 21 = .ok (.putfield 38, 3) := by decide +kernel
theorem dX1_copyFrom_24 : decode cX1_copyFrom 24 = .ok (.aload_n 0, 1) := by decide +kernel
theorem dX1_copyFrom_25 : decode cX1_copyFrom 25 = .ok (.aload_n 1, 1) := by decide +kernel
theorem dX1_copyFrom_26 : decode cX1_copyFrom 26 = .ok (.getfield 41, 3) := by decide +kernel
theorem dX1_copyFrom_29 : decode cX1_copyFrom 29 = .ok (.putfield 41, 3) := by decide +kernel
theorem dX1_copyFrom_32 : decode cX1_copyFrom 32 = .ok (.aload_n 0, 1) := by decide +kernel
theorem dX1_copyFrom_33 : decode cX1_copyFrom 33 = .ok (.aload_n 1, 1) := by decide +kernel
theorem dX1_copyFrom_34 : decode cX1_copyFrom 34 = .ok (.getfield 44, 3) := by decide +kernel
theorem dX1_copyFrom_37 : decode cX1_copyFrom 37 = .ok (.putfield 44, 3) := by decide +kernel
theorem dX1_copyFrom_40 : decode cX1_copyFrom 40 = .ok (.aload_n 0, 1) := by decide +kernel
theorem dX1_copyFrom_41 : decode cX1_copyFrom 41 = .ok (.aload_n 1, 1) := by decide +kernel
theorem dX1_copyFrom_42 : decode cX1_copyFrom 42 = .ok (.getfield 47, 3) := by decide +kernel
theorem dX1_copyFrom_45 : decode cX1_copyFrom 45 = .ok (.putfield 47, 3) := by decide +kernel
theorem dX1_copyFrom_48 : decode cX1_copyFrom 48 = .ok (.aload_n 0, 1) := by decide +kernel
theorem dX1_copyFrom_49 : decode cX1_copyFrom 49 = .ok (.aload_n 1, 1) := by decide +kernel
theorem dX1_copyFrom_50 : decode cX1_copyFrom 50 = .ok (.getfield 50, 3) := by decide +kernel
theorem dX1_copyFrom_53 : decode cX1_copyFrom 53 = .ok (.putfield 50, 3) := by decide +kernel
theorem dX1_copyFrom_56 : decode cX1_copyFrom 56 = .ok (.iconst 0, 1) := by decide +kernel
theorem dX1_copyFrom_57 : decode cX1_copyFrom 57 = .ok (.istore_n 2, 1) := by decide +kernel
theorem dX1_copyFrom_58 : decode cX1_copyFrom 58 = .ok (.iload_n 2, 1) := by decide +kernel
theorem dX1_copyFrom_59 : decode cX1_copyFrom 59 = .ok (.aload_n 0, 1) := by decide +kernel
theorem dX1_copyFrom_60 : decode cX1_copyFrom 60 = .ok (.getfield 31, 3) := by decide +kernel
theorem dX1_copyFrom_63 : decode cX1_copyFrom 63 = .ok (.if_icmp .ge 24, 3) := by decide +kernel
theorem dX1_copyFrom_66 : decode cX1_copyFrom 66 = .ok (.aload_n 0, 1) := by decide +kernel
theorem dX1_copyFrom_67 : decode cX1_copyFrom 67 = .ok (.getfield 17, 3) := by decide +kernel
theorem dX1_copyFrom_70 : decode cX1_copyFrom 70 = .ok (.iload_n 2, 1) := by decide +kernel
theorem dX1_copyFrom_71 : decode cX1_copyFrom 71 = .ok (.aaload, 1) := by decide +kernel
theorem dX1_copyFrom_72 : decode cX1_copyFrom 72 = .ok (.aload_n 1, 1) := by decide +kernel
theorem dX1_copyFrom_73 : decode cX1_copyFrom 73 = .ok (.getfield 17, 3) := by decide +kernel
theorem dX1_copyFrom_76 : decode cX1_copyFrom 76 = .ok (.iload_n 2, 1) := by decide +kernel
theorem dX1_copyFrom_77 : decode cX1_copyFrom 77 = .ok (.aaload, 1) := by decide +kernel
theorem dX1_copyFrom_78 : decode cX1_copyFrom 78 = .ok (.invokevirtual 53, 3) := by decide +kernel
theorem dX1_copyFrom_81 : decode cX1_copyFrom 81 = .ok (.iinc 2 1, 3) := by decide +kernel
theorem dX1_copyFrom_84 : decode cX1_copyFrom 84 = .ok (.goto (-26), 3) := by decide +kernel
theorem dX1_copyFrom_87 : decode cX1_copyFrom 87 = .ok (.iconst 0, 1) := by decide +kernel
theorem dX1_copyFrom_88 : decode cX1_copyFrom 88 = .ok (.istore_n 2, 1) := by decide +kernel
theorem dX1_copyFrom_89 : decode cX1_copyFrom 89 = .ok (.iload_n 2, 1) := by decide +kernel
theorem dX1_copyFrom_90 : decode cX1_copyFrom 90 = .ok (.aload_n 0, 1) := by decide +kernel
theorem dX1_copyFrom_91 : decode cX1_copyFrom 91 = .ok (.getfield 35, 3) := by decide +kernel
theorem dX1_copyFrom_94 : decode cX1_copyFrom 94 = .ok (.if_icmp .ge 24, 3) := by decide +kernel
theorem dX1_copyFrom_97 : decode cX1_copyFrom 97 = .ok (.aload_n 0, 1) := by decide +kernel
theorem dX1_copyFrom_98 : decode cX1_copyFrom 98 = .ok (.getfield 24, 3) := by decide +kernel
theorem dX1_copyFrom_101 : decode cX1_copyFrom 101 = .ok (.iload_n 2, 1) := by decide +kernel
theorem dX1_copyFrom_102 : decode cX1_copyFrom 102 = .ok (.aaload, 1) := by decide +kernel
theorem dX1_copyFrom_103 : decode cX1_copyFrom 103 = .ok (.aload_n 1, 1) := by decide +kernel
theorem dX1_copyFrom_104 : decode cX1_copyFrom 104 = .ok (.getfield 24, 3) := by decide +kernel
theorem dX1_copyFrom_107 : decode cX1_copyFrom 107 = .ok (.iload_n 2, 1) := by decide +kernel
theorem dX1_copyFrom_108 : decode cX1_copyFrom 108 = .ok (.aaload, 1) := by decide +kernel
theorem dX1_copyFrom_109 : decode cX1_copyFrom 109 = .ok (.invokevirtual 57, 3) := by decide +kernel
theorem dX1_copyFrom_112 : decode cX1_copyFrom 112 = .ok (.iinc 2 1, 3) := by decide +kernel
theorem dX1_copyFrom_115 : decode cX1_copyFrom 115 = .ok (.goto (-26), 3) := by decide +kernel
theorem dX1_copyFrom_118 : decode cX1_copyFrom 118 = .ok (.return_, 1) := by decide +kernel
theorem dX1_openRow_0 : decode cX1_openRow 0 = .ok (.aload_n 0, 1) := by decide +kernel
theorem dX1_openRow_1 : decode cX1_openRow 1 = .ok (.getfield 31, 3) := by decide +kernel
theorem dX1_openRow_4 : decode cX1_openRow 4 = .ok (.istore_n 2, 1) := by decide +kernel
theorem dX1_openRow_5 : decode cX1_openRow 5 = .ok (.aload_n 0, 1) := by decide +kernel
theorem dX1_openRow_6 : decode cX1_openRow 6 = .ok (.getfield 17, 3) := by decide +kernel
theorem dX1_openRow_9 : decode cX1_openRow 9 = .ok (.iload_n 2, 1) := by decide +kernel
theorem dX1_openRow_10 : decode cX1_openRow 10 = .ok (.aaload, 1) := by decide +kernel
theorem dX1_openRow_11 : decode cX1_openRow 11 = .ok (.iload_n 1, 1) := by decide +kernel
theorem dX1_openRow_12 : decode cX1_openRow 12 = .ok (.putfield 60, 3) := by decide +kernel
theorem dX1_openRow_15 : decode cX1_openRow 15 = .ok (.aload_n 0, 1) := by decide +kernel
theorem dX1_openRow_16 : decode cX1_openRow 16 = .ok (.dup, 1) := by decide +kernel
theorem dX1_openRow_17 : decode cX1_openRow 17 = .ok (.getfield 31, 3) := by decide +kernel
theorem dX1_openRow_20 : decode cX1_openRow 20 = .ok (.iconst 1, 1) := by decide +kernel
theorem dX1_openRow_21 : decode cX1_openRow 21 = .ok (.iadd, 1) := by decide +kernel
theorem dX1_openRow_22 : decode cX1_openRow 22 = .ok (.putfield 31, 3) := by decide +kernel
theorem dX1_openRow_25 : decode cX1_openRow 25 = .ok (.iload_n 2, 1) := by decide +kernel
theorem dX1_openRow_26 : decode cX1_openRow 26 = .ok (.ireturn, 1) := by decide +kernel
theorem dX1_launch_0 : decode cX1_launch 0 = .ok (.aload_n 0, 1) := by decide +kernel
theorem dX1_launch_1 : decode cX1_launch 1 = .ok (.getfield 35, 3) := by decide +kernel
theorem dX1_launch_4 : decode cX1_launch 4 = .ok (.istore_n 3, 1) := by decide +kernel
theorem dX1_launch_5 : decode cX1_launch 5 = .ok (.aload_n 0, 1) := by decide +kernel
theorem dX1_launch_6 : decode cX1_launch 6 = .ok (.getfield 24, 3) := by decide +kernel
theorem dX1_launch_9 : decode cX1_launch 9 = .ok (.iload_n 3, 1) := by decide +kernel
theorem dX1_launch_10 : decode cX1_launch 10 = .ok (.aaload, 1) := by decide +kernel
theorem dX1_launch_11 : decode cX1_launch 11 = .ok (.iload_n 1, 1) := by decide +kernel
theorem dX1_launch_12 : decode cX1_launch 12 = .ok (.putfield 63, 3) := by decide +kernel
theorem dX1_launch_15 : decode cX1_launch 15 = .ok (.aload_n 0, 1) := by decide +kernel
theorem dX1_launch_16 : decode cX1_launch 16 = .ok (.getfield 24, 3) := by decide +kernel
theorem dX1_launch_19 : decode cX1_launch 19 = .ok (.iload_n 3, 1) := by decide +kernel
theorem dX1_launch_20 : decode cX1_launch 20 = .ok (.aaload, 1) := by decide +kernel
theorem dX1_launch_21 : decode cX1_launch 21 = .ok (.iload_n 2, 1) := by decide +kernel
theorem dX1_launch_22 : decode cX1_launch 22 = .ok (.putfield 66, 3) := by decide +kernel
theorem dX1_launch_25 : decode cX1_launch 25 = .ok (.aload_n 0, 1) := by decide +kernel
theorem dX1_launch_26 : decode cX1_launch 26 = .ok (.dup, 1) := by decide +kernel
theorem dX1_launch_27 : decode cX1_launch 27 = .ok (.getfield 35, 3) := by decide +kernel
theorem dX1_launch_30 : decode cX1_launch 30 = .ok (.iconst 1, 1) := by decide +kernel
theorem dX1_launch_31 : decode cX1_launch 31 = .ok (.iadd, 1) := by decide +kernel
theorem dX1_launch_32 : decode cX1_launch 32 = .ok (.putfield 35, 3) := by decide +kernel
theorem dX1_launch_35 : decode cX1_launch 35 = .ok (.iload_n 3, 1) := by decide +kernel
theorem dX1_launch_36 : decode cX1_launch 36 = .ok (.ireturn, 1) := by decide +kernel
set_option maxRecDepth 20000 in
theorem ggX1_fasten_X2_append : GoodIn wsX1_fasten wsX2_append := goodIn_r _ [11, 12, 13, 14, 41, 42, 43] (by decide +kernel) (by decide +kernel)
set_option maxRecDepth 20000 in
theorem gX1_fasten_X2_append : GoodIn wsX1_fasten (wsV RX1 84 RX2 yX2_append wsX2_append) := goodIn_app (goodIn_of _ (by decide +kernel)) ggX1_fasten_X2_append
theorem dX1_fasten_0 : decode cX1_fasten 0 = .ok (.aload_n 1, 1) := by decide +kernel
theorem dX1_fasten_1 : decode cX1_fasten 1 = .ok (.iconst 1, 1) := by decide +kernel
theorem dX1_fasten_2 : decode cX1_fasten 2 = .ok (.putfield 69, 3) := by decide +kernel
theorem dX1_fasten_5 : decode cX1_fasten 5 = .ok (.aload_n 1, 1) := by decide +kernel
theorem dX1_fasten_6 : decode cX1_fasten 6 = .ok (.iload_n 2, 1) := by decide +kernel
theorem dX1_fasten_7 : decode cX1_fasten 7 = .ok (.putfield 72, 3) := by decide +kernel
theorem dX1_fasten_10 : decode cX1_fasten 10 = .ok (.aload_n 1, 1) := by decide +kernel
theorem dX1_fasten_11 : decode cX1_fasten 11 = .ok (.aload_n 0, 1) := by decide +kernel
theorem dX1_fasten_12 : decode cX1_fasten 12 = .ok (.getfield 17, 3) := by decide +kernel
theorem dX1_fasten_15 : decode cX1_fasten 15 = .ok (.iload_n 2, 1) := by decide +kernel
theorem dX1_fasten_16 : decode cX1_fasten 16 = .ok (.aaload, 1) := by decide +kernel
theorem dX1_fasten_17 : decode cX1_fasten 17 = .ok (.getfield 75, 3) := by decide +kernel
theorem dX1_fasten_20 : decode cX1_fasten 20 = .ok (.putfield 78, 3) := by decide +kernel
theorem dX1_fasten_23 : decode cX1_fasten 23 = .ok (.aload_n 0, 1) := by decide +kernel
theorem dX1_fasten_24 : decode cX1_fasten 24 = .ok (.getfield 17, 3) := by decide +kernel
theorem dX1_fasten_27 : decode cX1_fasten 27 = .ok (.iload_n 2, 1) := by decide +kernel
theorem dX1_fasten_28 : decode cX1_fasten 28 = .ok (.aaload, 1) := by decide +kernel
theorem dX1_fasten_29 : decode cX1_fasten 29 = .ok (.aload_n 1, 1) := by decide +kernel
theorem dX1_fasten_30 : decode cX1_fasten 30 = .ok (.getfield 81, 3) := by decide +kernel
theorem dX1_fasten_33 : decode cX1_fasten 33 = .ok (.invokevirtual 84, 3) := by decide +kernel
theorem dX1_fasten_36 : decode cX1_fasten 36 = .ok (.return_, 1) := by decide +kernel
set_option maxRecDepth 20000 in
theorem ggX1_unfasten_X2_closeGap : GoodIn wsX1_unfasten wsX2_closeGap := goodIn_r _ [14, 15, 16, 43, 44, 45] (by decide +kernel) (by decide +kernel)
set_option maxRecDepth 20000 in
theorem gX1_unfasten_X2_closeGap : GoodIn wsX1_unfasten (wsV RX1 87 RX2 yX2_closeGap wsX2_closeGap) := goodIn_app (goodIn_of _ (by decide +kernel)) ggX1_unfasten_X2_closeGap
theorem dX1_unfasten_0 : decode cX1_unfasten 0 = .ok (.aload_n 1, 1) := by decide +kernel
theorem dX1_unfasten_1 : decode cX1_unfasten 1 = .ok (.getfield 69, 3) := by decide +kernel
theorem dX1_unfasten_4 : decode cX1_unfasten 4 = .ok (.iconst 1, 1) := by decide +kernel
theorem dX1_unfasten_5 : decode cX1_unfasten 5 = .ok (.if_icmp .eq 5, 3) := by decide +kernel
theorem dX1_unfasten_8 : decode cX1_unfasten 8 = .ok (.iconst 0, 1) := by decide +kernel
theorem dX1_unfasten_9 : decode cX1_unfasten 9 = .ok (.ireturn, 1) := by decide +kernel
theorem dX1_unfasten_10 : decode cX1_unfasten 10 = .ok (.aload_n 0, 1) := by decide +kernel
theorem dX1_unfasten_11 : decode cX1_unfasten 11 = .ok (.getfield 17, 3) := by decide +kernel
theorem dX1_unfasten_14 : decode cX1_unfasten 14 = .ok (.aload_n 1, 1) := by decide +kernel
theorem dX1_unfasten_15 : decode cX1_unfasten 15 = .ok (.getfield 72, 3) := by decide +kernel
theorem dX1_unfasten_18 : decode cX1_unfasten 18 = .ok (.aaload, 1) := by decide +kernel
theorem dX1_unfasten_19 : decode cX1_unfasten 19 = .ok (.astore_n 3, 1) := by decide +kernel
theorem dX1_unfasten_20 : decode cX1_unfasten 20 = .ok (.aload_n 3, 1) := by decide +kernel
theorem dX1_unfasten_21 : decode cX1_unfasten 21 = .ok (.aload_n 1, 1) := by decide +kernel
theorem dX1_unfasten_22 : decode cX1_unfasten 22 = .ok (.getfield 78, 3) := by decide +kernel
theorem dX1_unfasten_25 : decode cX1_unfasten 25 = .ok (.invokevirtual 87, 3) := by decide +kernel
theorem dX1_unfasten_28 : decode cX1_unfasten 28 = .ok (.aload_n 1, 1) := by decide +kernel
theorem dX1_unfasten_29 : decode cX1_unfasten 29 = .ok (.getfield 78, 3) := by decide +kernel
theorem dX1_unfasten_32 : decode cX1_unfasten 32 = .ok (.istore 4, 2) := by decide +kernel
theorem dX1_unfasten_34 : decode cX1_unfasten 34 = .ok (.iload 4, 2) := by decide +kernel
theorem dX1_unfasten_36 : decode cX1_unfasten 36 = .ok (.aload_n 3, 1) := by decide +kernel
theorem dX1_unfasten_37 : decode cX1_unfasten 37 = .ok (.getfield 75, 3) := by decide +kernel
theorem dX1_unfasten_40 : decode cX1_unfasten 40 = .ok (.if_icmp .ge 41, 3) := by decide +kernel
theorem dX1_unfasten_43 : decode cX1_unfasten 43 = .ok (.aload_n 0, 1) := by decide +kernel
theorem dX1_unfasten_44 : decode cX1_unfasten 44 = .ok (.getfield 24, 3) := by decide +kernel
theorem dX1_unfasten_47 : decode cX1_unfasten 47 = .ok (.aload_n 3, 1) := by decide +kernel
theorem dX1_unfasten_48 : decode cX1_unfasten 48 = .ok (.getfield 90, 3) := by decide +kernel
theorem dX1_unfasten_51 : decode cX1_unfasten 51 = .ok (.iload 4, 2) := by decide +kernel
theorem dX1_unfasten_53 : decode cX1_unfasten 53 = .ok (.iaload, 1) := by decide +kernel
theorem dX1_unfasten_54 : decode cX1_unfasten 54 = .ok (.aaload, 1) := by decide +kernel
theorem dX1_unfasten_55 : decode cX1_unfasten 55 = .ok (.astore 5, 2) := by decide +kernel
theorem dX1_unfasten_57 : decode cX1_unfasten 57 = .ok (.aload 5, 2) := by decide +kernel
theorem dX1_unfasten_59 : decode cX1_unfasten 59 = .ok (.iload 4, 2) := by decide +kernel
theorem dX1_unfasten_61 : decode cX1_unfasten 61 = .ok (.putfield 78, 3) := by decide +kernel
theorem dX1_unfasten_64 : decode cX1_unfasten 64 = .ok (.aload 5, 2) := by decide +kernel
theorem dX1_unfasten_66 : decode cX1_unfasten 66 = .ok (.dup, 1) := by decide +kernel
theorem dX1_unfasten_67 : decode cX1_unfasten 67 = .ok (.getfield 94, 3) := by decide +kernel
theorem dX1_unfasten_70 : decode cX1_unfasten 70 = .ok (.iconst 1, 1) := by decide +kernel
theorem dX1_unfasten_71 : decode cX1_unfasten 71 = .ok (.iadd, 1) := by decide +kernel
theorem dX1_unfasten_72 : decode cX1_unfasten 72 = .ok (.putfield 94, 3) := by decide +kernel
theorem dX1_unfasten_75 : decode cX1_unfasten 75 = .ok (.iinc 4 1, 3) := by decide +kernel
theorem dX1_unfasten_78 : decode cX1_unfasten 78 = .ok (.goto (-44), 3) := by decide +kernel
theorem dX1_unfasten_81 : decode cX1_unfasten 81 = .ok (.aload_n 3, 1) := by decide +kernel
theorem dX1_unfasten_82 : decode cX1_unfasten 82 = .ok (.getfield 75, 3) := by decide +kernel
theorem dX1_unfasten_85 : decode cX1_unfasten 85 = .ok (.aload_n 1, 1) := by decide +kernel
theorem dX1_unfasten_86 : decode cX1_unfasten 86 = .ok (.getfield 78, 3) := by decide +kernel
theorem dX1_unfasten_89 : decode cX1_unfasten 89 = .ok (.isub, 1) := by decide +kernel
theorem dX1_unfasten_90 : decode cX1_unfasten 90 = .ok (.istore 4, 2) := by decide +kernel
theorem dX1_unfasten_92 : decode cX1_unfasten 92 = .ok (.aload_n 0, 1) := by decide +kernel
theorem dX1_unfasten_93 : decode cX1_unfasten 93 = .ok (.dup, 1) := by decide +kernel
theorem dX1_unfasten_94 : decode cX1_unfasten 94 = .ok (.getfield 47, 3) := by decide +kernel
theorem dX1_unfasten_97 : decode cX1_unfasten 97 = .ok (.iload 4, 2) := by decide +kernel
theorem dX1_unfasten_99 : decode cX1_unfasten 99 = .ok (.iadd, 1) := by decide +kernel
theorem dX1_unfasten_100 : decode cX1_unfasten 100 = .ok (.putfield 47, 3) := by decide +kernel
theorem dX1_unfasten_103 : decode cX1_unfasten 103 = .ok (.aload_n 1, 1) := by decide +kernel
theorem dX1_unfasten_104 : decode cX1_unfasten 104 = .ok (.iload_n 2, 1) := by decide +kernel
theorem dX1_unfasten_105 : decode cX1_unfasten 105 = .ok (.putfield 69, 3) := by decide +kernel
theorem dX1_unfasten_108 : decode cX1_unfasten 108 = .ok (.aload_n 1, 1) := by decide +kernel
theorem dX1_unfasten_109 : decode cX1_unfasten 109 = .ok (.iconst (-1), 1) := by decide +kernel
theorem dX1_unfasten_110 : decode cX1_unfasten 110 = .ok (.putfield 72, 3) := by decide +kernel
theorem dX1_unfasten_113 : decode cX1_unfasten 113 = .ok (.aload_n 1, 1) := by decide +kernel
theorem dX1_unfasten_114 : decode cX1_unfasten 114 = .ok (.iconst (-1), 1) := by decide +kernel
theorem dX1_unfasten_115 : decode cX1_unfasten 115 = .ok (.putfield 78, 3) := by decide +kernel
theorem dX1_unfasten_118 : decode cX1_unfasten 118 = .ok (.iload 4, 2) := by decide +kernel
theorem dX1_unfasten_120 : decode cX1_unfasten 120 = .ok (.ireturn, 1) := by decide +kernel
set_option maxRecDepth 20000 in
theorem ggX1_liesDry_X3_tideIn : GoodIn wsX1_liesDry wsX3_tideIn := goodIn_r _ [9, 10, 11, 12, 13, 14, 41, 42] (by decide +kernel) (by decide +kernel)
set_option maxRecDepth 20000 in
theorem gX1_liesDry_X3_tideIn : GoodIn wsX1_liesDry (wsV RX1 95 RX3 yX3_tideIn wsX3_tideIn) := goodIn_app (goodIn_of _ (by decide +kernel)) ggX1_liesDry_X3_tideIn
theorem dX1_liesDry_0 : decode cX1_liesDry 0 = .ok (.aload_n 1, 1) := by decide +kernel
theorem dX1_liesDry_1 : decode cX1_liesDry 1 = .ok (.getfield 69, 3) := by decide +kernel
theorem dX1_liesDry_4 : decode cX1_liesDry 4 = .ok (.iconst 1, 1) := by decide +kernel
theorem dX1_liesDry_5 : decode cX1_liesDry 5 = .ok (.if_icmp .ne 27, 3) := by decide +kernel
theorem dX1_liesDry_8 : decode cX1_liesDry 8 = .ok (.aload_n 1, 1) := by decide +kernel
theorem dX1_liesDry_9 : decode cX1_liesDry 9 = .ok (.getfield 78, 3) := by decide +kernel
theorem dX1_liesDry_12 : decode cX1_liesDry 12 = .ok (.aload_n 0, 1) := by decide +kernel
theorem dX1_liesDry_13 : decode cX1_liesDry 13 = .ok (.getfield 9, 3) := by decide +kernel
theorem dX1_liesDry_16 : decode cX1_liesDry 16 = .ok (.aload_n 0, 1) := by decide +kernel
theorem dX1_liesDry_17 : decode cX1_liesDry 17 = .ok (.getfield 38, 3) := by decide +kernel
theorem dX1_liesDry_20 : decode cX1_liesDry 20 = .ok (.invokevirtual 95, 3) := by decide +kernel
theorem dX1_liesDry_23 : decode cX1_liesDry 23 = .ok (.iadd, 1) := by decide +kernel
theorem dX1_liesDry_24 : decode cX1_liesDry 24 = .ok (.iconst 4, 1) := by decide +kernel
theorem dX1_liesDry_25 : decode cX1_liesDry 25 = .ok (.if_icmp .ge 7, 3) := by decide +kernel
theorem dX1_liesDry_28 : decode cX1_liesDry 28 = .ok (.iconst 1, 1) := by decide +kernel
theorem dX1_liesDry_29 : decode cX1_liesDry 29 = .ok (.goto 4, 3) := by decide +kernel
theorem dX1_liesDry_32 : decode cX1_liesDry 32 = .ok (.iconst 0, 1) := by decide +kernel
theorem dX1_liesDry_33 : decode cX1_liesDry 33 = .ok (.ireturn, 1) := by decide +kernel
set_option maxRecDepth 20000 in
theorem ggX1_passSteps_X1_driftByRows : GoodIn wsX1_passSteps wsX1_driftByRows := goodIn_r _ [6, 7, 1, 8, 9, 10, 11, 12, 13, 14, 15, 16, 17, 18, 19, 20, 21, 22, 23, 24, 25, 5, 26, 27, 28, 29, 30, 31, 32, 33, 34, 35, 36, 37, 38, 39, 40, 41, 42, 43, 44, 45, 46, 47, 48, 49, 50, 51, 52, 53, 54, 55, 56, 57, 58, 59, 60, 61, 62, 63, 64, 65, 66, 67, 68, 69, 70, 71, 72, 135, 136, 137, 138, 139, 140, 141, 142, 143, 144, 145, 146, 147, 148, 149, 150, 151, 152, 153, 154, 155, 156, 157, 158, 159, 160, 161, 162, 163, 164, 165] (by decide +kernel) (by decide +kernel)
set_option maxRecDepth 20000 in
theorem gX1_passSteps_X1_driftByRows : GoodIn wsX1_passSteps (wsV RX1 101 RX1 yX1_driftByRows wsX1_driftByRows) := goodIn_app (goodIn_of _ (by decide +kernel)) ggX1_passSteps_X1_driftByRows
set_option maxRecDepth 20000 in
theorem ggX1_passSteps_X1_leaveByNumbers : GoodIn wsX1_passSteps wsX1_leaveByNumbers := goodIn_r _ [76, 77, 27, 45, 1, 78, 79, 80, 81, 82, 83, 84, 85, 86, 5, 87, 47, 7, 88, 89, 90, 16, 91, 92, 19, 20, 21, 22, 41, 42, 43, 44, 9, 46, 10, 48, 49, 50, 51, 52, 53, 31, 54, 33, 34, 135, 136, 137, 138, 139, 140, 141, 142, 143, 144, 148, 149, 150, 151, 152, 153, 154, 155, 156, 157, 158, 159, 160, 161, 162, 163, 164, 165, 145, 146, 147] (by decide +kernel) (by decide +kernel)
set_option maxRecDepth 20000 in
theorem gX1_passSteps_X1_leaveByNumbers : GoodIn wsX1_passSteps (wsV RX1 104 RX1 yX1_leaveByNumbers wsX1_leaveByNumbers) := goodIn_app (goodIn_of _ (by decide +kernel)) ggX1_passSteps_X1_leaveByNumbers
set_option maxRecDepth 20000 in
theorem ggX1_passSteps_X1_tradeByNumbers : GoodIn wsX1_passSteps wsX1_tradeByNumbers := goodIn_r _ [96, 77, 27, 45, 97, 98, 99, 81, 100, 101, 102, 103, 104, 105, 106, 107, 108, 109, 5, 110, 111, 112, 113, 114, 115, 46, 47, 23, 24, 25, 26, 8, 9, 28, 29, 30, 31, 32, 33, 34, 116, 117, 118, 119, 120, 68, 121, 122, 123, 124, 125, 126, 127, 128, 129, 130, 131, 132, 133, 134, 135, 136, 137, 138, 139, 140, 141, 142, 143, 144, 148, 149, 150, 151, 152, 153, 154, 155, 156, 157, 158, 159, 160, 161, 162, 163, 145, 146, 147] (by decide +kernel) (by decide +kernel)
set_option maxRecDepth 20000 in
theorem gX1_passSteps_X1_tradeByNumbers : GoodIn wsX1_passSteps (wsV RX1 107 RX1 yX1_tradeByNumbers wsX1_tradeByNumbers) := goodIn_app (goodIn_of _ (by decide +kernel)) ggX1_passSteps_X1_tradeByNumbers
theorem dX1_passSteps_0 : decode cX1_passSteps 0 = .ok (.iconst 0, 1) := by decide +kernel
theorem dX1_passSteps_1 : decode cX1_passSteps 1 = .ok (.istore_n 2, 1) := by decide +kernel
theorem dX1_passSteps_2 : decode cX1_passSteps 2 = .ok (.iload_n 2, 1) := by decide +kernel
theorem dX1_passSteps_3 : decode cX1_passSteps 3 = .ok (.iload_n 1, 1) := by decide +kernel
theorem dX1_passSteps_4 : decode cX1_passSteps 4 = .ok (.if_icmp .ge 31, 3) := by decide +kernel
theorem dX1_passSteps_7 : decode cX1_passSteps 7 = .ok (.aload_n 0, 1) := by decide +kernel
theorem dX1_passSteps_8 : decode cX1_passSteps 8 = .ok (.invokevirtual 101, 3) := by decide +kernel
theorem dX1_passSteps_11 : decode cX1_passSteps 11 = .ok (.aload_n 0, 1) := by decide +kernel
theorem dX1_passSteps_12 : decode cX1_passSteps 12 = .ok (.invokevirtual 104, 3) := by decide +kernel
theorem dX1_passSteps_15 : decode cX1_passSteps 15 = .ok (.aload_n 0, 1) := by decide +kernel
theorem dX1_passSteps_16 : decode cX1_passSteps 16 = .ok (.invokevirtual 107, 3) := by decide +kernel
theorem dX1_passSteps_19 : decode cX1_passSteps 19 = .ok (.aload_n 0, 1) := by decide +kernel
theorem dX1_passSteps_20 : decode cX1_passSteps 20 = .ok (.dup, 1) := by decide +kernel
theorem dX1_passSteps_21 : decode cX1_passSteps 21 = .ok (.getfield 38, 3) := by decide +kernel
theorem dX1_passSteps_24 : decode cX1_passSteps 24 = .ok (.iconst 1, 1) := by decide +kernel
theorem dX1_passSteps_25 : decode cX1_passSteps 25 = .ok (.iadd, 1) := by decide +kernel
theorem dX1_passSteps_26 : decode cX1_passSteps 26 = .ok (.putfield 38, 3) := by decide +kernel
theorem dX1_passSteps_29 : decode cX1_passSteps 29 = .ok (.iinc 2 1, 3) := by decide +kernel
theorem dX1_passSteps_32 : decode cX1_passSteps 32 = .ok (.goto (-30), 3) := by decide +kernel
theorem dX1_passSteps_35 : decode cX1_passSteps 35 = .ok (.return_, 1) := by decide +kernel
set_option maxRecDepth 20000 in
theorem ggX1_driftByRows_X3_wakeIn : GoodIn wsX1_driftByRows wsX3_wakeIn := goodIn_r _ [12, 13, 14, 15, 16, 17, 98, 99] (by decide +kernel) (by decide +kernel)
set_option maxRecDepth 20000 in
theorem gX1_driftByRows_X3_wakeIn : GoodIn wsX1_driftByRows (wsV RX1 110 RX3 yX3_wakeIn wsX3_wakeIn) := goodIn_app (goodIn_of _ (by decide +kernel)) ggX1_driftByRows_X3_wakeIn
set_option maxRecDepth 20000 in
theorem ggX1_driftByRows_X1_canoeAt : GoodIn wsX1_driftByRows wsX1_canoeAt := goodIn_r _ [22, 3, 4, 23, 24, 25, 26, 27, 28, 29, 30, 69, 70, 71, 72, 73, 74, 75, 76, 77, 78, 79, 80, 81] (by decide +kernel) (by decide +kernel)
set_option maxRecDepth 20000 in
theorem gX1_driftByRows_X1_canoeAt : GoodIn wsX1_driftByRows (wsV RX1 113 RX1 yX1_canoeAt wsX1_canoeAt) := goodIn_app (goodIn_of _ (by decide +kernel)) ggX1_driftByRows_X1_canoeAt
set_option maxRecDepth 20000 in
theorem ggX1_driftByRows_X1_drift : GoodIn wsX1_driftByRows wsX1_drift := goodIn_r _ [34, 35, 36, 2, 7, 37, 38, 39, 21, 40, 41, 4, 42, 43, 5, 23, 44, 45, 46, 47, 48, 49, 27, 50, 29, 30, 51, 52, 53, 54, 3, 55, 56, 57, 58, 59, 60, 61, 62, 63, 64, 65, 66, 67, 68, 82, 83, 84, 85, 86, 87, 88, 89, 90, 91, 92, 93, 94, 95, 96, 97, 69, 70, 71, 72, 73, 74, 75, 76, 77, 78, 79, 80, 81] (by decide +kernel) (by decide +kernel)
set_option maxRecDepth 20000 in
theorem gX1_driftByRows_X1_drift : GoodIn wsX1_driftByRows (wsV RX1 120 RX1 yX1_drift wsX1_drift) := goodIn_app (goodIn_of _ (by decide +kernel)) ggX1_driftByRows_X1_drift
theorem dX1_driftByRows_0 : decode cX1_driftByRows 0 = .ok (.aload_n 0, 1) := by decide +kernel
theorem dX1_driftByRows_1 : decode cX1_driftByRows 1 = .ok (.getfield 9, 3) := by decide +kernel
theorem dX1_driftByRows_4 : decode cX1_driftByRows 4 = .ok (.aload_n 0, 1) := by decide +kernel
theorem dX1_driftByRows_5 : decode cX1_driftByRows 5 = .ok (.getfield 38, 3) := by decide +kernel
theorem dX1_driftByRows_8 : decode cX1_driftByRows 8 = .ok (.invokevirtual 110, 3) := by decide +kernel
theorem dX1_driftByRows_11 : decode cX1_driftByRows 11 = .ok (.istore_n 1, 1) := by decide +kernel
theorem dX1_driftByRows_12 : decode cX1_driftByRows 12 = .ok (.iconst 0, 1) := by decide +kernel
theorem dX1_driftByRows_13 : decode cX1_driftByRows 13 = .ok (.istore_n 2, 1) := by decide +kernel
theorem dX1_driftByRows_14 : decode cX1_driftByRows 14 = .ok (.iload_n 2, 1) := by decide +kernel
theorem dX1_driftByRows_15 : decode cX1_driftByRows 15 = .ok (.aload_n 0, 1) := by decide +kernel
theorem dX1_driftByRows_16 : decode cX1_driftByRows 16 = .ok (.getfield 31, 3) := by decide +kernel
theorem dX1_driftByRows_19 : decode cX1_driftByRows 19 = .ok (.if_icmp .ge 55, 3) := by decide +kernel
theorem dX1_driftByRows_22 : decode cX1_driftByRows 22 = .ok (.aload_n 0, 1) := by decide +kernel
theorem dX1_driftByRows_23 : decode cX1_driftByRows 23 = .ok (.iload_n 2, 1) := by decide +kernel
theorem dX1_driftByRows_24 : decode cX1_driftByRows 24 = .ok (.aload_n 0, 1) := by decide +kernel
theorem dX1_driftByRows_25 : decode cX1_driftByRows 25 = .ok (.getfield 17, 3) := by decide +kernel
theorem dX1_driftByRows_28 : decode cX1_driftByRows 28 = .ok (.iload_n 2, 1) := by decide +kernel
theorem dX1_driftByRows_29 : decode cX1_driftByRows 29 = .ok (.aaload, 1) := by decide +kernel
theorem dX1_driftByRows_30 : decode cX1_driftByRows 30 = .ok (.getfield 75, 3) := by decide +kernel
theorem dX1_driftByRows_33 : decode cX1_driftByRows 33 = .ok (.iconst 1, 1) := by decide +kernel
theorem dX1_driftByRows_34 : decode cX1_driftByRows 34 = .ok (.isub, 1) := by decide +kernel
theorem dX1_driftByRows_35 : decode cX1_driftByRows 35 = .ok (.invokevirtual 113, 3) := by decide +kernel
theorem dX1_driftByRows_38 : decode cX1_driftByRows 38 = .ok (.astore_n 3, 1) := by decide +kernel
theorem dX1_driftByRows_39 : decode cX1_driftByRows 39 = .ok (.aload_n 3, 1) := by decide +kernel
theorem dX1_driftByRows_40 : decode cX1_driftByRows 40 = .ok (.ifnull 28, 3) := by decide +kernel
theorem dX1_driftByRows_43 : decode cX1_driftByRows 43 = .ok (.aload_n 3, 1) := by decide +kernel
theorem dX1_driftByRows_44 : decode cX1_driftByRows 44 = .ok (.getfield 66, 3) := by decide +kernel
theorem dX1_driftByRows_47 : decode cX1_driftByRows 47 = .ok (.iload_n 1, 1) := by decide +kernel
theorem dX1_driftByRows_48 : decode cX1_driftByRows 48 = .ok (.if_icmp .ge 20, 3) := by decide +kernel
theorem dX1_driftByRows_51 : decode cX1_driftByRows 51 = .ok (.aload_n 3, 1) := by decide +kernel
theorem dX1_driftByRows_52 : decode cX1_driftByRows 52 = .ok (.getfield 117, 3) := by decide +kernel
theorem dX1_driftByRows_55 : decode cX1_driftByRows 55 = .ok (.aload_n 0, 1) := by decide +kernel
theorem dX1_driftByRows_56 : decode cX1_driftByRows 56 = .ok (.getfield 38, 3) := by decide +kernel
theorem dX1_driftByRows_59 : decode cX1_driftByRows 59 = .ok (.if_icmp .eq 9, 3) := by decide +kernel
theorem dX1_driftByRows_62 : decode cX1_driftByRows 62 = .ok (.aload_n 0, 1) := by decide +kernel
theorem dX1_driftByRows_63 : decode cX1_driftByRows 63 = .ok (.aload_n 3, 1) := by decide +kernel
theorem dX1_driftByRows_64 : decode cX1_driftByRows 64 = .ok (.iload_n 2, 1) := by decide +kernel
theorem dX1_driftByRows_65 : decode cX1_driftByRows 65 = .ok (.invokevirtual 120, 3) := by decide +kernel
theorem dX1_driftByRows_68 : decode cX1_driftByRows 68 = .ok (.iinc 2 1, 3) := by decide +kernel
theorem dX1_driftByRows_71 : decode cX1_driftByRows 71 = .ok (.goto (-57), 3) := by decide +kernel
theorem dX1_driftByRows_74 : decode cX1_driftByRows 74 = .ok (.return_, 1) := by decide +kernel
set_option maxRecDepth 20000 in
theorem ggX1_drift_X1_unfasten : GoodIn wsX1_drift wsX1_unfasten := goodIn_r _ [9, 10, 11, 12, 13, 14, 15, 16, 17, 18, 19, 20, 21, 22, 23, 24, 25, 45, 46, 47, 48, 49, 50, 51, 52, 53, 54, 55, 56, 57, 58, 59, 60, 61, 62, 63, 64, 65, 66, 67, 68, 69, 70, 71, 72, 73] (by decide +kernel) (by decide +kernel)
set_option maxRecDepth 20000 in
theorem gX1_drift_X1_unfasten : GoodIn wsX1_drift (wsV RX1 124 RX1 yX1_unfasten wsX1_unfasten) := goodIn_app (goodIn_of _ (by decide +kernel)) ggX1_drift_X1_unfasten
set_option maxRecDepth 20000 in
theorem ggX1_drift_X1_nextRowNotFull : GoodIn wsX1_drift wsX1_nextRowNotFull := goodIn_r _ [29, 30, 11, 31, 32, 33, 22, 34, 24, 35, 61, 62, 63, 64, 65, 66, 67, 68, 69, 70, 71, 72, 73] (by decide +kernel) (by decide +kernel)
set_option maxRecDepth 20000 in
theorem gX1_drift_X1_nextRowNotFull : GoodIn wsX1_drift (wsV RX1 128 RX1 yX1_nextRowNotFull wsX1_nextRowNotFull) := goodIn_app (goodIn_of _ (by decide +kernel)) ggX1_drift_X1_nextRowNotFull
set_option maxRecDepth 20000 in
theorem ggX1_drift_X1_fasten : GoodIn wsX1_drift wsX1_fasten := goodIn_r _ [39, 10, 12, 11, 14, 13, 40, 41, 42, 43, 22, 44, 24, 35, 25, 45, 46, 47, 48, 49, 50, 51, 52, 53, 54, 55, 56, 57, 58, 59, 60, 61, 62, 63, 64, 65, 66, 67, 68, 69, 70, 71, 72, 73] (by decide +kernel) (by decide +kernel)
set_option maxRecDepth 20000 in
theorem gX1_drift_X1_fasten : GoodIn wsX1_drift (wsV RX1 131 RX1 yX1_fasten wsX1_fasten) := goodIn_app (goodIn_of _ (by decide +kernel)) ggX1_drift_X1_fasten
theorem dX1_drift_0 : decode cX1_drift 0 = .ok (.aload_n 0, 1) := by decide +kernel
theorem dX1_drift_1 : decode cX1_drift 1 = .ok (.aload_n 1, 1) := by decide +kernel
theorem dX1_drift_2 : decode cX1_drift 2 = .ok (.iconst 0, 1) := by decide +kernel
theorem dX1_drift_3 : decode cX1_drift 3 = .ok (.invokevirtual 124, 3) := by decide +kernel
theorem dX1_drift_6 : decode cX1_drift 6 = .ok (.pop, 1) := by decide +kernel
theorem dX1_drift_7 : decode cX1_drift 7 = .ok (.aload_n 0, 1) := by decide +kernel
theorem dX1_drift_8 : decode cX1_drift 8 = .ok (.iload_n 2, 1) := by decide +kernel
theorem dX1_drift_9 : decode cX1_drift 9 = .ok (.invokevirtual 128, 3) := by decide +kernel
theorem dX1_drift_12 : decode cX1_drift 12 = .ok (.istore_n 3, 1) := by decide +kernel
theorem dX1_drift_13 : decode cX1_drift 13 = .ok (.iload_n 3, 1) := by decide +kernel
theorem dX1_drift_14 : decode cX1_drift 14 = .ok (.iconst (-1), 1) := by decide +kernel
theorem dX1_drift_15 : decode cX1_drift 15 = .ok (.if_icmp .eq 9, 3) := by decide +kernel
theorem dX1_drift_18 : decode cX1_drift 18 = .ok (.aload_n 0, 1) := by decide +kernel
theorem dX1_drift_19 : decode cX1_drift 19 = .ok (.aload_n 1, 1) := by decide +kernel
theorem dX1_drift_20 : decode cX1_drift 20 = .ok (.iload_n 3, 1) := by decide +kernel
theorem dX1_drift_21 : decode cX1_drift 21 = .ok (.invokevirtual 131, 3) := by decide +kernel
theorem dX1_drift_24 : decode cX1_drift 24 = .ok (.aload_n 1, 1) := by decide +kernel
theorem dX1_drift_25 : decode cX1_drift 25 = .ok (.dup, 1) := by decide +kernel
theorem dX1_drift_26 : decode cX1_drift 26 = .ok (.getfield 134, 3) := by decide +kernel
theorem dX1_drift_29 : decode cX1_drift 29 = .ok (.iconst 1, 1) := by decide +kernel
theorem dX1_drift_30 : decode cX1_drift 30 = .ok (.iadd, 1) := by decide +kernel
theorem dX1_drift_31 : decode cX1_drift 31 = .ok (.putfield 134, 3) := by decide +kernel
theorem dX1_drift_34 : decode cX1_drift 34 = .ok (.aload_n 0, 1) := by decide +kernel
theorem dX1_drift_35 : decode cX1_drift 35 = .ok (.dup, 1) := by decide +kernel
theorem dX1_drift_36 : decode cX1_drift 36 = .ok (.getfield 50, 3) := by decide +kernel
theorem dX1_drift_39 : decode cX1_drift 39 = .ok (.iconst 1, 1) := by decide +kernel
theorem dX1_drift_40 : decode cX1_drift 40 = .ok (.iadd, 1) := by decide +kernel
theorem dX1_drift_41 : decode cX1_drift 41 = .ok (.putfield 50, 3) := by decide +kernel
theorem dX1_drift_44 : decode cX1_drift 44 = .ok (.aload_n 1, 1) := by decide +kernel
theorem dX1_drift_45 : decode cX1_drift 45 = .ok (.aload_n 0, 1) := by decide +kernel
theorem dX1_drift_46 : decode cX1_drift 46 = .ok (.getfield 38, 3) := by decide +kernel
theorem dX1_drift_49 : decode cX1_drift 49 = .ok (.putfield 117, 3) := by decide +kernel
theorem dX1_drift_52 : decode cX1_drift 52 = .ok (.return_, 1) := by decide +kernel
set_option maxRecDepth 20000 in
theorem ggX1_nextRowNotFull_X2_isFull : GoodIn wsX1_nextRowNotFull wsX2_isFull := goodIn_r _ [7, 8, 9, 20, 21, 22] (by decide +kernel) (by decide +kernel)
set_option maxRecDepth 20000 in
theorem gX1_nextRowNotFull_X2_isFull : GoodIn wsX1_nextRowNotFull (wsV RX1 135 RX2 yX2_isFull wsX2_isFull) := goodIn_app (goodIn_of _ (by decide +kernel)) ggX1_nextRowNotFull_X2_isFull
theorem dX1_nextRowNotFull_0 : decode cX1_nextRowNotFull 0 = .ok (.iconst 1, 1) := by decide +kernel
theorem dX1_nextRowNotFull_1 : decode cX1_nextRowNotFull 1 = .ok (.istore_n 2, 1) := by decide +kernel
theorem dX1_nextRowNotFull_2 : decode cX1_nextRowNotFull 2 = .ok (.iload_n 2, 1) := by decide +kernel
theorem dX1_nextRowNotFull_3 : decode cX1_nextRowNotFull 3 = .ok (.aload_n 0, 1) := by decide +kernel
theorem dX1_nextRowNotFull_4 : decode cX1_nextRowNotFull 4 = .ok (.getfield 31, 3) := by decide +kernel
theorem dX1_nextRowNotFull_7 : decode cX1_nextRowNotFull 7 = .ok (.if_icmp .ge 32, 3) := by decide +kernel
theorem dX1_nextRowNotFull_10 : decode cX1_nextRowNotFull 10 = .ok (.iload_n 1, 1) := by decide +kernel
theorem dX1_nextRowNotFull_11 : decode cX1_nextRowNotFull 11 = .ok (.iload_n 2, 1) := by decide +kernel
theorem dX1_nextRowNotFull_12 : decode cX1_nextRowNotFull 12 = .ok (.iadd, 1) := by decide +kernel
theorem dX1_nextRowNotFull_13 : decode cX1_nextRowNotFull 13 = .ok (.aload_n 0, 1) := by decide +kernel
theorem dX1_nextRowNotFull_14 : decode cX1_nextRowNotFull 14 = .ok (.getfield 31, 3) := by decide +kernel
theorem dX1_nextRowNotFull_17 : decode cX1_nextRowNotFull 17 = .ok (.irem, 1) := by decide +kernel
theorem dX1_nextRowNotFull_18 : decode cX1_nextRowNotFull 18 = .ok (.istore_n 3, 1) := by decide +kernel
theorem dX1_nextRowNotFull_19 : decode cX1_nextRowNotFull 19 = .ok (.aload_n 0, 1) := by decide +kernel
theorem dX1_nextRowNotFull_20 : decode cX1_nextRowNotFull 20 = .ok (.getfield 17, 3) := by decide +kernel
theorem dX1_nextRowNotFull_23 : decode cX1_nextRowNotFull 23 = .ok (.iload_n 3, 1) := by decide +kernel
theorem dX1_nextRowNotFull_24 : decode cX1_nextRowNotFull 24 = .ok (.aaload, 1) := by decide +kernel
theorem dX1_nextRowNotFull_25 : decode cX1_nextRowNotFull 25 = .ok (.invokevirtual 135, 3) := by decide +kernel
theorem dX1_nextRowNotFull_28 : decode cX1_nextRowNotFull 28 = .ok (.ifCond .ne 5, 3) := by decide +kernel
theorem dX1_nextRowNotFull_31 : decode cX1_nextRowNotFull 31 = .ok (.iload_n 3, 1) := by decide +kernel
theorem dX1_nextRowNotFull_32 : decode cX1_nextRowNotFull 32 = .ok (.ireturn, 1) := by decide +kernel
theorem dX1_nextRowNotFull_33 : decode cX1_nextRowNotFull 33 = .ok (.iinc 2 1, 3) := by decide +kernel
theorem dX1_nextRowNotFull_36 : decode cX1_nextRowNotFull 36 = .ok (.goto (-34), 3) := by decide +kernel
theorem dX1_nextRowNotFull_39 : decode cX1_nextRowNotFull 39 = .ok (.iconst (-1), 1) := by decide +kernel
theorem dX1_nextRowNotFull_40 : decode cX1_nextRowNotFull 40 = .ok (.ireturn, 1) := by decide +kernel
set_option maxRecDepth 20000 in
theorem ggX1_leaveByNumbers_X0_isToLeaveBy : GoodIn wsX1_leaveByNumbers wsX0_isToLeaveBy := goodIn_r _ [9, 10, 55, 56, 57, 58, 59, 60, 61, 62, 63, 64, 65, 66, 67, 68, 69, 70] (by decide +kernel) (by decide +kernel)
set_option maxRecDepth 20000 in
theorem gX1_leaveByNumbers_X0_isToLeaveBy : GoodIn wsX1_leaveByNumbers (wsV RX1 139 RX0 yX0_isToLeaveBy wsX0_isToLeaveBy) := goodIn_app (goodIn_of _ (by decide +kernel)) ggX1_leaveByNumbers_X0_isToLeaveBy
set_option maxRecDepth 20000 in
theorem ggX1_leaveByNumbers_X1_liesDry : GoodIn wsX1_leaveByNumbers wsX1_liesDry := goodIn_r _ [15, 3, 16, 17, 4, 18, 19, 20, 21, 22, 23, 24, 25, 26, 27, 55, 56, 57, 58, 59, 60, 61, 62, 63, 64, 65, 66, 67, 68, 69, 70, 45, 46, 47, 48, 49, 50, 51, 52, 53, 54, 71, 72] (by decide +kernel) (by decide +kernel)
set_option maxRecDepth 20000 in
theorem gX1_leaveByNumbers_X1_liesDry : GoodIn wsX1_leaveByNumbers (wsV RX1 143 RX1 yX1_liesDry wsX1_liesDry) := goodIn_app (goodIn_of _ (by decide +kernel)) ggX1_leaveByNumbers_X1_liesDry
set_option maxRecDepth 20000 in
theorem ggX1_leaveByNumbers_X1_unfasten : GoodIn wsX1_leaveByNumbers wsX1_unfasten := goodIn_r _ [31, 3, 32, 33, 16, 34, 2, 35, 36, 37, 38, 39, 40, 41, 42, 43, 44, 55, 56, 57, 58, 59, 60, 61, 62, 63, 64, 65, 66, 67, 68, 69, 70, 45, 46, 47, 48, 49, 50, 51, 52, 53, 54, 73, 74, 75] (by decide +kernel) (by decide +kernel)
set_option maxRecDepth 20000 in
theorem gX1_leaveByNumbers_X1_unfasten : GoodIn wsX1_leaveByNumbers (wsV RX1 124 RX1 yX1_unfasten wsX1_unfasten) := goodIn_app (goodIn_of _ (by decide +kernel)) ggX1_leaveByNumbers_X1_unfasten
theorem dX1_leaveByNumbers_0 : decode cX1_leaveByNumbers 0 = .ok (.iconst 0, 1) := by decide +kernel
theorem dX1_leaveByNumbers_1 : decode cX1_leaveByNumbers 1 = .ok (.istore_n 1, 1) := by decide +kernel
theorem dX1_leaveByNumbers_2 : decode cX1_leaveByNumbers 2 = .ok (.iload_n 1, 1) := by decide +kernel
theorem dX1_leaveByNumbers_3 : decode cX1_leaveByNumbers 3 = .ok (.aload_n 0, 1) := by decide +kernel
theorem dX1_leaveByNumbers_4 : decode cX1_leaveByNumbers 4 = .ok (.getfield 35, 3) := by decide +kernel
theorem dX1_leaveByNumbers_7 : decode cX1_leaveByNumbers 7 = .ok (.if_icmp .ge 50, 3) := by decide +kernel
theorem dX1_leaveByNumbers_10 : decode cX1_leaveByNumbers 10 = .ok (.aload_n 0, 1) := by decide +kernel
theorem dX1_leaveByNumbers_11 : decode cX1_leaveByNumbers 11 = .ok (.getfield 24, 3) := by decide +kernel
theorem dX1_leaveByNumbers_14 : decode cX1_leaveByNumbers 14 = .ok (.iload_n 1, 1) := by decide +kernel
theorem dX1_leaveByNumbers_15 : decode cX1_leaveByNumbers 15 = .ok (.aaload, 1) := by decide +kernel
theorem dX1_leaveByNumbers_16 : decode cX1_leaveByNumbers 16 = .ok (.astore_n 2, 1) := by decide +kernel
theorem dX1_leaveByNumbers_17 : decode cX1_leaveByNumbers 17 = .ok (.aload_n 2, 1) := by decide +kernel
theorem dX1_leaveByNumbers_18 : decode cX1_leaveByNumbers 18 = .ok (.getfield 69, 3) := by decide +kernel
theorem dX1_leaveByNumbers_21 : decode cX1_leaveByNumbers 21 = .ok (.iconst 1, 1) := by decide +kernel
theorem dX1_leaveByNumbers_22 : decode cX1_leaveByNumbers 22 = .ok (.if_icmp .ne 29, 3) := by decide +kernel
theorem dX1_leaveByNumbers_25 : decode cX1_leaveByNumbers 25 = .ok (.aload_n 2, 1) := by decide +kernel
theorem dX1_leaveByNumbers_26 : decode cX1_leaveByNumbers 26 = .ok (.aload_n 0, 1) := by decide +kernel
theorem dX1_leaveByNumbers_27 : decode cX1_leaveByNumbers 27 = .ok (.getfield 38, 3) := by decide +kernel
theorem dX1_leaveByNumbers_30 : decode cX1_leaveByNumbers 30 = .ok (.invokevirtual 139, 3) := by decide +kernel
theorem dX1_leaveByNumbers_33 : decode cX1_leaveByNumbers 33 = .ok (.ifCond .eq 18, 3) := by decide +kernel
theorem dX1_leaveByNumbers_36 : decode cX1_leaveByNumbers 36 = .ok (.aload_n 0, 1) := by decide +kernel
theorem dX1_leaveByNumbers_37 : decode cX1_leaveByNumbers 37 = .ok (.aload_n 2, 1) := by decide +kernel
theorem dX1_leaveByNumbers_38 : decode cX1_leaveByNumbers 38 = .ok (.invokevirtual 143, 3) := by decide +kernel
theorem dX1_leaveByNumbers_41 : decode cX1_leaveByNumbers 41 = .ok (.ifCond .ne 10, 3) := by decide +kernel
theorem dX1_leaveByNumbers_44 : decode cX1_leaveByNumbers 44 = .ok (.aload_n 0, 1) := by decide +kernel
theorem dX1_leaveByNumbers_45 : decode cX1_leaveByNumbers 45 = .ok (.aload_n 2, 1) := by decide +kernel
theorem dX1_leaveByNumbers_46 : decode cX1_leaveByNumbers 46 = .ok (.iconst 2, 1) := by decide +kernel
theorem dX1_leaveByNumbers_47 : decode cX1_leaveByNumbers 47 = .ok (.invokevirtual 124, 3) := by decide +kernel
theorem dX1_leaveByNumbers_50 : decode cX1_leaveByNumbers 50 = .ok (.pop, 1) := by decide +kernel
theorem dX1_leaveByNumbers_51 : decode cX1_leaveByNumbers 51 = .ok (.iinc 1 1, 3) := by decide +kernel
theorem dX1_leaveByNumbers_54 : decode cX1_leaveByNumbers 54 = .ok (.goto (-52), 3) := by decide +kernel
theorem dX1_leaveByNumbers_57 : decode cX1_leaveByNumbers 57 = .ok (.return_, 1) := by decide +kernel
set_option maxRecDepth 20000 in
theorem ggX1_tradeByNumbers_X0_misses : GoodIn wsX1_tradeByNumbers wsX0_misses := goodIn_r _ [8, 9, 10, 11, 12, 13, 14, 70, 71, 72, 73, 74, 75, 76, 77, 78, 79, 80, 81, 82, 83, 84, 85] (by decide +kernel) (by decide +kernel)
set_option maxRecDepth 20000 in
theorem gX1_tradeByNumbers_X0_misses : GoodIn wsX1_tradeByNumbers (wsV RX1 147 RX0 yX0_misses wsX0_misses) := goodIn_app (goodIn_of _ (by decide +kernel)) ggX1_tradeByNumbers_X0_misses
set_option maxRecDepth 20000 in
theorem ggX1_tradeByNumbers_X1_cheapestSeller : GoodIn wsX1_tradeByNumbers wsX1_cheapestSeller := goodIn_r _ [19, 20, 21, 22, 23, 13, 24, 25, 26, 27, 28, 29, 18, 30, 31, 32, 2, 33, 34, 35, 36, 37, 38, 39, 40, 41, 42, 43, 44, 45, 46, 47, 48, 7, 49, 50, 10, 9, 70, 71, 72, 73, 74, 75, 76, 77, 78, 79, 80, 81, 82, 83, 84, 85, 60, 61, 62, 63, 64, 65, 66, 67, 68, 69, 86, 87, 88] (by decide +kernel) (by decide +kernel)
set_option maxRecDepth 20000 in
theorem gX1_tradeByNumbers_X1_cheapestSeller : GoodIn wsX1_tradeByNumbers (wsV RX1 150 RX1 yX1_cheapestSeller wsX1_cheapestSeller) := goodIn_app (goodIn_of _ (by decide +kernel)) ggX1_tradeByNumbers_X1_cheapestSeller
set_option maxRecDepth 20000 in
theorem ggX1_tradeByNumbers_X1_trade : GoodIn wsX1_tradeByNumbers wsX1_trade := goodIn_r _ [54, 44, 55, 21, 56, 57, 58, 59, 70, 71, 72, 73, 74, 75, 76, 77, 78, 79, 80, 81, 82, 83, 84, 85, 60, 61, 62, 63, 64, 65, 66, 67, 68, 69] (by decide +kernel) (by decide +kernel)
set_option maxRecDepth 20000 in
theorem gX1_tradeByNumbers_X1_trade : GoodIn wsX1_tradeByNumbers (wsV RX1 154 RX1 yX1_trade wsX1_trade) := goodIn_app (goodIn_of _ (by decide +kernel)) ggX1_tradeByNumbers_X1_trade
theorem dX1_tradeByNumbers_0 : decode cX1_tradeByNumbers 0 = .ok (.iconst 0, 1) := by decide +kernel
theorem dX1_tradeByNumbers_1 : decode cX1_tradeByNumbers 1 = .ok (.istore_n 1, 1) := by decide +kernel
theorem dX1_tradeByNumbers_2 : decode cX1_tradeByNumbers 2 = .ok (.iload_n 1, 1) := by decide +kernel
theorem dX1_tradeByNumbers_3 : decode cX1_tradeByNumbers 3 = .ok (.aload_n 0, 1) := by decide +kernel
theorem dX1_tradeByNumbers_4 : decode cX1_tradeByNumbers 4 = .ok (.getfield 35, 3) := by decide +kernel
theorem dX1_tradeByNumbers_7 : decode cX1_tradeByNumbers 7 = .ok (.if_icmp .ge 57, 3) := by decide +kernel
theorem dX1_tradeByNumbers_10 : decode cX1_tradeByNumbers 10 = .ok (.aload_n 0, 1) := by decide +kernel
theorem dX1_tradeByNumbers_11 : decode cX1_tradeByNumbers 11 = .ok (.getfield 24, 3) := by decide +kernel
theorem dX1_tradeByNumbers_14 : decode cX1_tradeByNumbers 14 = .ok (.iload_n 1, 1) := by decide +kernel
theorem dX1_tradeByNumbers_15 : decode cX1_tradeByNumbers 15 = .ok (.aaload, 1) := by decide +kernel
theorem dX1_tradeByNumbers_16 : decode cX1_tradeByNumbers 16 = .ok (.astore_n 2, 1) := by decide +kernel
theorem dX1_tradeByNumbers_17 : decode cX1_tradeByNumbers 17 = .ok (.aload_n 2, 1) := by decide +kernel
theorem dX1_tradeByNumbers_18 : decode cX1_tradeByNumbers 18 = .ok (.getfield 69, 3) := by decide +kernel
theorem dX1_tradeByNumbers_21 : decode cX1_tradeByNumbers 21 = .ok (.iconst 1, 1) := by decide +kernel
theorem dX1_tradeByNumbers_22 : decode cX1_tradeByNumbers 22 = .ok (.if_icmp .ne 36, 3) := by decide +kernel
theorem dX1_tradeByNumbers_25 : decode cX1_tradeByNumbers 25 = .ok (.iconst 0, 1) := by decide +kernel
theorem dX1_tradeByNumbers_26 : decode cX1_tradeByNumbers 26 = .ok (.istore_n 3, 1) := by decide +kernel
theorem dX1_tradeByNumbers_27 : decode cX1_tradeByNumbers 27 = .ok (.iload_n 3, 1) := by decide +kernel
theorem dX1_tradeByNumbers_28 : decode cX1_tradeByNumbers 28 = .ok (.iconst 4, 1) := by decide +kernel
theorem dX1_tradeByNumbers_29 : decode cX1_tradeByNumbers 29 = .ok (.if_icmp .ge 29, 3) := by decide +kernel
theorem dX1_tradeByNumbers_32 : decode cX1_tradeByNumbers 32 = .ok (.aload_n 2, 1) := by decide +kernel
theorem dX1_tradeByNumbers_33 : decode cX1_tradeByNumbers 33 = .ok (.iload_n 3, 1) := by decide +kernel
theorem dX1_tradeByNumbers_34 : decode cX1_tradeByNumbers 34 = .ok (.invokevirtual 147, 3) := by decide +kernel
theorem dX1_tradeByNumbers_37 : decode cX1_tradeByNumbers 37 = .ok (.ifCond .le 15, 3) := by decide +kernel
theorem dX1_tradeByNumbers_40 : decode cX1_tradeByNumbers 40 = .ok (.aload_n 0, 1) := by decide +kernel
theorem dX1_tradeByNumbers_41 : decode cX1_tradeByNumbers 41 = .ok (.aload_n 2, 1) := by decide +kernel
theorem dX1_tradeByNumbers_42 : decode cX1_tradeByNumbers 42 = .ok (.aload_n 0, 1) := by decide +kernel
theorem dX1_tradeByNumbers_43 : decode cX1_tradeByNumbers 43 = .ok (.aload_n 2, 1) := by decide +kernel
theorem dX1_tradeByNumbers_44 : decode cX1_tradeByNumbers 44 = .ok (.iload_n 3, 1) := by decide +kernel
theorem dX1_tradeByNumbers_45 : decode cX1_tradeByNumbers 45 = .ok (.invokevirtual 150, 3) := by decide +kernel
theorem dX1_tradeByNumbers_48 : decode cX1_tradeByNumbers 48 = .ok (.iload_n 3, 1) := by decide +kernel
theorem dX1_tradeByNumbers_49 : decode cX1_tradeByNumbers 49 = .ok (.invokevirtual 154, 3) := by decide +kernel
theorem dX1_tradeByNumbers_52 : decode cX1_tradeByNumbers 52 = .ok (.iinc 3 1, 3) := by decide +kernel
theorem dX1_tradeByNumbers_55 : decode cX1_tradeByNumbers 55 = .ok (.goto (-28), 3) := by decide +kernel
theorem dX1_tradeByNumbers_58 : decode cX1_tradeByNumbers 58 = .ok (.iinc 1 1, 3) := by decide +kernel
theorem dX1_tradeByNumbers_61 : decode cX1_tradeByNumbers 61 = .ok (.goto (-59), 3) := by decide +kernel
theorem dX1_tradeByNumbers_64 : decode cX1_tradeByNumbers 64 = .ok (.return_, 1) := by decide +kernel
set_option maxRecDepth 20000 in
theorem ggX1_cheapestSeller_X1_canoeAt : GoodIn wsX1_cheapestSeller wsX1_canoeAt := goodIn_r _ [13, 14, 15, 16, 17, 18, 19, 20, 21, 22, 23, 54, 55, 56, 57, 58, 59, 60, 61, 62, 63, 64, 65, 66] (by decide +kernel) (by decide +kernel)
set_option maxRecDepth 20000 in
theorem gX1_cheapestSeller_X1_canoeAt : GoodIn wsX1_cheapestSeller (wsV RX1 113 RX1 yX1_canoeAt wsX1_canoeAt) := goodIn_app (goodIn_of _ (by decide +kernel)) ggX1_cheapestSeller_X1_canoeAt
set_option maxRecDepth 20000 in
theorem ggX1_cheapestSeller_X1_cheaper : GoodIn wsX1_cheapestSeller wsX1_cheaper := goodIn_r _ [27, 28, 29, 30, 31, 32, 33, 34, 35, 36, 37, 38, 39, 40, 41, 42, 43, 44, 45, 46, 47, 48, 49, 50, 51, 52, 53] (by decide +kernel) (by decide +kernel)
set_option maxRecDepth 20000 in
theorem gX1_cheapestSeller_X1_cheaper : GoodIn wsX1_cheapestSeller (wsV RX1 167 RX1 yX1_cheaper wsX1_cheaper) := goodIn_app (goodIn_of _ (by decide +kernel)) ggX1_cheapestSeller_X1_cheaper
theorem dX1_cheapestSeller_0 : decode cX1_cheapestSeller 0 = .ok (.aload_n 1, 1) := by decide +kernel
theorem dX1_cheapestSeller_1 : decode cX1_cheapestSeller 1 = .ok (.getfield 158, 3) := by decide +kernel
theorem dX1_cheapestSeller_4 : decode cX1_cheapestSeller 4 = .ok (.iload_n 2, 1) := by decide +kernel
theorem dX1_cheapestSeller_5 : decode cX1_cheapestSeller 5 = .ok (.iaload, 1) := by decide +kernel
theorem dX1_cheapestSeller_6 : decode cX1_cheapestSeller 6 = .ok (.aload_n 1, 1) := by decide +kernel
theorem dX1_cheapestSeller_7 : decode cX1_cheapestSeller 7 = .ok (.getfield 63, 3) := by decide +kernel
theorem dX1_cheapestSeller_10 : decode cX1_cheapestSeller 10 = .ok (.invokestatic 161, 3) := by decide +kernel
theorem dX1_cheapestSeller_13 : decode cX1_cheapestSeller 13 = .ok (.istore_n 3, 1) := by decide +kernel
theorem dX1_cheapestSeller_14 : decode cX1_cheapestSeller 14 = .ok (.aload_n 1, 1) := by decide +kernel
theorem dX1_cheapestSeller_15 : decode cX1_cheapestSeller 15 = .ok (.getfield 72, 3) := by decide +kernel
theorem dX1_cheapestSeller_18 : decode cX1_cheapestSeller 18 = .ok (.istore 4, 2) := by decide +kernel
theorem dX1_cheapestSeller_20 : decode cX1_cheapestSeller 20 = .ok (.aload_n 1, 1) := by decide +kernel
theorem dX1_cheapestSeller_21 : decode cX1_cheapestSeller 21 = .ok (.getfield 78, 3) := by decide +kernel
theorem dX1_cheapestSeller_24 : decode cX1_cheapestSeller 24 = .ok (.istore 5, 2) := by decide +kernel
theorem dX1_cheapestSeller_26 : decode cX1_cheapestSeller 26 = .ok (.aconst_null, 1) := by decide +kernel
theorem dX1_cheapestSeller_27 : decode cX1_cheapestSeller 27 = .ok (.astore 6, 2) := by decide +kernel
theorem dX1_cheapestSeller_29 : decode cX1_cheapestSeller 29 = .ok (.aload_n 0, 1) := by decide +kernel
theorem dX1_cheapestSeller_30 : decode cX1_cheapestSeller 30 = .ok (.aload 6, 2) := by decide +kernel
theorem dX1_cheapestSeller_32 : decode cX1_cheapestSeller 32 = .ok (.aload_n 0, 1) := by decide +kernel
theorem dX1_cheapestSeller_33 : decode cX1_cheapestSeller 33 = .ok (.iload 4, 2) := by decide +kernel
theorem dX1_cheapestSeller_35 : decode cX1_cheapestSeller 35 = .ok (.iload 5, 2) := by decide +kernel
theorem dX1_cheapestSeller_37 : decode cX1_cheapestSeller 37 = .ok (.iconst 1, 1) := by decide +kernel
theorem dX1_cheapestSeller_38 : decode cX1_cheapestSeller 38 = .ok (.isub, 1) := by decide +kernel
theorem dX1_cheapestSeller_39 : decode cX1_cheapestSeller 39 = .ok (.invokevirtual 113, 3) := by decide +kernel
theorem dX1_cheapestSeller_42 : decode cX1_cheapestSeller 42 = .ok (.iload_n 2, 1) := by decide +kernel
theorem dX1_cheapestSeller_43 : decode cX1_cheapestSeller 43 = .ok (.iload_n 3, 1) := by decide +kernel
theorem dX1_cheapestSeller_44 : decode cX1_cheapestSeller 44 = .ok (.invokevirtual 167, 3) := by decide +kernel
theorem dX1_cheapestSeller_47 : decode cX1_cheapestSeller 47 = .ok (.astore 6, 2) := by decide +kernel
theorem dX1_cheapestSeller_49 : decode cX1_cheapestSeller 49 = .ok (.aload_n 0, 1) := by decide +kernel
theorem dX1_cheapestSeller_50 : decode cX1_cheapestSeller 50 = .ok (.aload 6, 2) := by decide +kernel
theorem dX1_cheapestSeller_52 : decode cX1_cheapestSeller 52 = .ok (.aload_n 0, 1) := by decide +kernel
theorem dX1_cheapestSeller_53 : decode cX1_cheapestSeller 53 = .ok (.iload 4, 2) := by decide +kernel
theorem dX1_cheapestSeller_55 : decode cX1_cheapestSeller 55 = .ok (.iload 5, 2) := by decide +kernel
theorem dX1_cheapestSeller_57 : decode cX1_cheapestSeller 57 = .ok (.iconst 1, 1) := by decide +kernel
theorem dX1_cheapestSeller_58 : decode cX1_cheapestSeller 58 = .ok (.iadd, 1) := by decide +kernel
theorem dX1_cheapestSeller_59 : decode cX1_cheapestSeller 59 = .ok (.invokevirtual 113, 3) := by decide +kernel
theorem dX1_cheapestSeller_62 : decode cX1_cheapestSeller 62 = .ok (.iload_n 2, 1) := by decide +kernel
theorem dX1_cheapestSeller_63 : decode cX1_cheapestSeller 63 = .ok (.iload_n 3, 1) := by decide +kernel
theorem dX1_cheapestSeller_64 : decode cX1_cheapestSeller 64 = .ok (.invokevirtual 167, 3) := by decide +kernel
theorem dX1_cheapestSeller_67 : decode cX1_cheapestSeller 67 = .ok (.astore 6, 2) := by decide +kernel
theorem dX1_cheapestSeller_69 : decode cX1_cheapestSeller 69 = .ok (.aload_n 0, 1) := by decide +kernel
theorem dX1_cheapestSeller_70 : decode cX1_cheapestSeller 70 = .ok (.aload 6, 2) := by decide +kernel
theorem dX1_cheapestSeller_72 : decode cX1_cheapestSeller 72 = .ok (.aload_n 0, 1) := by decide +kernel
theorem dX1_cheapestSeller_73 : decode cX1_cheapestSeller 73 = .ok (.iload 4, 2) := by decide +kernel
theorem dX1_cheapestSeller_75 : decode cX1_cheapestSeller 75 = .ok (.iconst 1, 1) := by decide +kernel
theorem dX1_cheapestSeller_76 : decode cX1_cheapestSeller 76 = .ok (.isub, 1) := by decide +kernel
theorem dX1_cheapestSeller_77 : decode cX1_cheapestSeller 77 = .ok (.iload 5, 2) := by decide +kernel
theorem dX1_cheapestSeller_79 : decode cX1_cheapestSeller 79 = .ok (.invokevirtual 113, 3) := by decide +kernel
theorem dX1_cheapestSeller_82 : decode cX1_cheapestSeller 82 = .ok (.iload_n 2, 1) := by decide +kernel
theorem dX1_cheapestSeller_83 : decode cX1_cheapestSeller 83 = .ok (.iload_n 3, 1) := by decide +kernel
theorem dX1_cheapestSeller_84 : decode cX1_cheapestSeller 84 = .ok (.invokevirtual 167, 3) := by decide +kernel
theorem dX1_cheapestSeller_87 : decode cX1_cheapestSeller 87 = .ok (.astore 6, 2) := by decide +kernel
theorem dX1_cheapestSeller_89 : decode cX1_cheapestSeller 89 = .ok (.aload_n 0, 1) := by decide +kernel
theorem dX1_cheapestSeller_90 : decode cX1_cheapestSeller 90 = .ok (.aload 6, 2) := by decide +kernel
theorem dX1_cheapestSeller_92 : decode cX1_cheapestSeller 92 = .ok (.aload_n 0, 1) := by decide +kernel
theorem dX1_cheapestSeller_93 : decode cX1_cheapestSeller 93 = .ok (.iload 4, 2) := by decide +kernel
theorem dX1_cheapestSeller_95 : decode cX1_cheapestSeller 95 = .ok (.iconst 1, 1) := by decide +kernel
theorem dX1_cheapestSeller_96 : decode cX1_cheapestSeller 96 = .ok (.iadd, 1) := by decide +kernel
theorem dX1_cheapestSeller_97 : decode cX1_cheapestSeller 97 = .ok (.iload 5, 2) := by decide +kernel
theorem dX1_cheapestSeller_99 : decode cX1_cheapestSeller 99 = .ok (.invokevirtual 113, 3) := by decide +kernel
theorem dX1_cheapestSeller_102 : decode cX1_cheapestSeller 102 = .ok (.iload_n 2, 1) := by decide +kernel
theorem dX1_cheapestSeller_103 : decode cX1_cheapestSeller 103 = .ok (.iload_n 3, 1) := by decide +kernel
theorem dX1_cheapestSeller_104 : decode cX1_cheapestSeller 104 = .ok (.invokevirtual 167, 3) := by decide +kernel
theorem dX1_cheapestSeller_107 : decode cX1_cheapestSeller 107 = .ok (.astore 6, 2) := by decide +kernel
theorem dX1_cheapestSeller_109 : decode cX1_cheapestSeller 109 = .ok (.aload 6, 2) := by decide +kernel
theorem dX1_cheapestSeller_111 : decode cX1_cheapestSeller 111 = .ok (.areturn, 1) := by decide +kernel
set_option maxRecDepth 20000 in
theorem ggX1_cheaper_X0_sells : GoodIn wsX1_cheaper wsX0_sells := goodIn_r _ [7, 8, 9, 10, 11, 12, 13, 14, 15, 16, 17, 18, 19, 20, 21, 22, 23, 24, 25, 26] (by decide +kernel) (by decide +kernel)
set_option maxRecDepth 20000 in
theorem gX1_cheaper_X0_sells : GoodIn wsX1_cheaper (wsV RX1 171 RX0 yX0_sells wsX0_sells) := goodIn_app (goodIn_of _ (by decide +kernel)) ggX1_cheaper_X0_sells
theorem dX1_cheaper_0 : decode cX1_cheaper 0 = .ok (.aload_n 2, 1) := by decide +kernel
theorem dX1_cheaper_1 : decode cX1_cheaper 1 = .ok (.ifnull 13, 3) := by decide +kernel
theorem dX1_cheaper_4 : decode cX1_cheaper 4 = .ok (.aload_n 2, 1) := by decide +kernel
theorem dX1_cheaper_5 : decode cX1_cheaper 5 = .ok (.iload_n 3, 1) := by decide +kernel
theorem dX1_cheaper_6 : decode cX1_cheaper 6 = .ok (.iload 4, 2) := by decide +kernel
theorem dX1_cheaper_8 : decode cX1_cheaper 8 = .ok (.invokevirtual 171, 3) := by decide +kernel
theorem dX1_cheaper_11 : decode cX1_cheaper 11 = .ok (.ifCond .ne 5, 3) := by decide +kernel
theorem dX1_cheaper_14 : decode cX1_cheaper 14 = .ok (.aload_n 1, 1) := by decide +kernel
theorem dX1_cheaper_15 : decode cX1_cheaper 15 = .ok (.areturn, 1) := by decide +kernel
theorem dX1_cheaper_16 : decode cX1_cheaper 16 = .ok (.aload_n 1, 1) := by decide +kernel
theorem dX1_cheaper_17 : decode cX1_cheaper 17 = .ok (.ifnull 18, 3) := by decide +kernel
theorem dX1_cheaper_20 : decode cX1_cheaper 20 = .ok (.aload_n 2, 1) := by decide +kernel
theorem dX1_cheaper_21 : decode cX1_cheaper 21 = .ok (.getfield 175, 3) := by decide +kernel
theorem dX1_cheaper_24 : decode cX1_cheaper 24 = .ok (.iload_n 3, 1) := by decide +kernel
theorem dX1_cheaper_25 : decode cX1_cheaper 25 = .ok (.iaload, 1) := by decide +kernel
theorem dX1_cheaper_26 : decode cX1_cheaper 26 = .ok (.aload_n 1, 1) := by decide +kernel
theorem dX1_cheaper_27 : decode cX1_cheaper 27 = .ok (.getfield 175, 3) := by decide +kernel
theorem dX1_cheaper_30 : decode cX1_cheaper 30 = .ok (.iload_n 3, 1) := by decide +kernel
theorem dX1_cheaper_31 : decode cX1_cheaper 31 = .ok (.iaload, 1) := by decide +kernel
theorem dX1_cheaper_32 : decode cX1_cheaper 32 = .ok (.if_icmp .ge 5, 3) := by decide +kernel
theorem dX1_cheaper_35 : decode cX1_cheaper 35 = .ok (.aload_n 2, 1) := by decide +kernel
theorem dX1_cheaper_36 : decode cX1_cheaper 36 = .ok (.areturn, 1) := by decide +kernel
theorem dX1_cheaper_37 : decode cX1_cheaper 37 = .ok (.aload_n 2, 1) := by decide +kernel
theorem dX1_cheaper_38 : decode cX1_cheaper 38 = .ok (.getfield 175, 3) := by decide +kernel
theorem dX1_cheaper_41 : decode cX1_cheaper 41 = .ok (.iload_n 3, 1) := by decide +kernel
theorem dX1_cheaper_42 : decode cX1_cheaper 42 = .ok (.iaload, 1) := by decide +kernel
theorem dX1_cheaper_43 : decode cX1_cheaper 43 = .ok (.aload_n 1, 1) := by decide +kernel
theorem dX1_cheaper_44 : decode cX1_cheaper 44 = .ok (.getfield 175, 3) := by decide +kernel
theorem dX1_cheaper_47 : decode cX1_cheaper 47 = .ok (.iload_n 3, 1) := by decide +kernel
theorem dX1_cheaper_48 : decode cX1_cheaper 48 = .ok (.iaload, 1) := by decide +kernel
theorem dX1_cheaper_49 : decode cX1_cheaper 49 = .ok (.if_icmp .ne 18, 3) := by decide +kernel
theorem dX1_cheaper_52 : decode cX1_cheaper 52 = .ok (.aload_n 2, 1) := by decide +kernel
theorem dX1_cheaper_53 : decode cX1_cheaper 53 = .ok (.getfield 81, 3) := by decide +kernel
theorem dX1_cheaper_56 : decode cX1_cheaper 56 = .ok (.aload_n 1, 1) := by decide +kernel
theorem dX1_cheaper_57 : decode cX1_cheaper 57 = .ok (.getfield 81, 3) := by decide +kernel
theorem dX1_cheaper_60 : decode cX1_cheaper 60 = .ok (.if_icmp .ge 7, 3) := by decide +kernel
theorem dX1_cheaper_63 : decode cX1_cheaper 63 = .ok (.iconst 1, 1) := by decide +kernel
theorem dX1_cheaper_64 : decode cX1_cheaper 64 = .ok (.goto 4, 3) := by decide +kernel
theorem dX1_cheaper_67 : decode cX1_cheaper 67 = .ok (.iconst 0, 1) := by decide +kernel
theorem dX1_cheaper_68 : decode cX1_cheaper 68 = .ok (.istore 5, 2) := by decide +kernel
theorem dX1_cheaper_70 : decode cX1_cheaper 70 = .ok (.iload 5, 2) := by decide +kernel
theorem dX1_cheaper_72 : decode cX1_cheaper 72 = .ok (.ifCond .eq 7, 3) := by decide +kernel
theorem dX1_cheaper_75 : decode cX1_cheaper 75 = .ok (.aload_n 2, 1) := by decide +kernel
theorem dX1_cheaper_76 : decode cX1_cheaper 76 = .ok (.goto 4, 3) := by decide +kernel
theorem dX1_cheaper_79 : decode cX1_cheaper 79 = .ok (.aload_n 1, 1) := by decide +kernel
theorem dX1_cheaper_80 : decode cX1_cheaper 80 = .ok (.areturn, 1) := by decide +kernel
theorem dX1_trade_0 : decode cX1_trade 0 = .ok (.aload_n 2, 1) := by decide +kernel
theorem dX1_trade_1 : decode cX1_trade 1 = .ok (.ifnonnull 4, 3) := by decide +kernel
theorem dX1_trade_4 : decode cX1_trade 4 = .ok (.return_, 1) := by decide +kernel
theorem dX1_trade_5 : decode cX1_trade 5 = .ok (.aload_n 2, 1) := by decide +kernel
theorem dX1_trade_6 : decode cX1_trade 6 = .ok (.getfield 175, 3) := by decide +kernel
theorem dX1_trade_9 : decode cX1_trade 9 = .ok (.iload_n 3, 1) := by decide +kernel
theorem dX1_trade_10 : decode cX1_trade 10 = .ok (.iaload, 1) := by decide +kernel
theorem dX1_trade_11 : decode cX1_trade 11 = .ok (.istore 4, 2) := by decide +kernel
theorem dX1_trade_13 : decode cX1_trade 13 = .ok (.aload_n 2, 1) := by decide +kernel
theorem dX1_trade_14 : decode cX1_trade 14 = .ok (.getfield 178, 3) := by decide +kernel
theorem dX1_trade_17 : decode cX1_trade 17 = .ok (.iload_n 3, 1) := by decide +kernel
theorem dX1_trade_18 : decode cX1_trade 18 = .ok (.dup2, 1) := by decide +kernel
theorem dX1_trade_19 : decode cX1_trade 19 = .ok (.iaload, 1) := by decide +kernel
theorem dX1_trade_20 : decode cX1_trade 20 = .ok (.iconst 1, 1) := by decide +kernel
theorem dX1_trade_21 : decode cX1_trade 21 = .ok (.isub, 1) := by decide +kernel
theorem dX1_trade_22 : decode cX1_trade 22 = .ok (.iastore, 1) := by decide +kernel
theorem dX1_trade_23 : decode cX1_trade 23 = .ok (.aload_n 2, 1) := by decide +kernel
theorem dX1_trade_24 : decode cX1_trade 24 = .ok (.dup, 1) := by decide +kernel
theorem dX1_trade_25 : decode cX1_trade 25 = .ok (.getfield 63, 3) := by decide +kernel
theorem dX1_trade_28 : decode cX1_trade 28 = .ok (.iload 4, 2) := by decide +kernel
theorem dX1_trade_30 : decode cX1_trade 30 = .ok (.iadd, 1) := by decide +kernel
theorem dX1_trade_31 : decode cX1_trade 31 = .ok (.putfield 63, 3) := by decide +kernel
theorem dX1_trade_34 : decode cX1_trade 34 = .ok (.aload_n 2, 1) := by decide +kernel
theorem dX1_trade_35 : decode cX1_trade 35 = .ok (.dup, 1) := by decide +kernel
theorem dX1_trade_36 : decode cX1_trade 36 = .ok (.getfield 181, 3) := by decide +kernel
theorem dX1_trade_39 : decode cX1_trade 39 = .ok (.iconst 1, 1) := by decide +kernel
theorem dX1_trade_40 : decode cX1_trade 40 = .ok (.iadd, 1) := by decide +kernel
theorem dX1_trade_41 : decode cX1_trade 41 = .ok (.putfield 181, 3) := by decide +kernel
theorem dX1_trade_44 : decode cX1_trade 44 = .ok (.aload_n 1, 1) := by decide +kernel
theorem dX1_trade_45 : decode cX1_trade 45 = .ok (.getfield 178, 3) := by decide +kernel
theorem dX1_trade_48 : decode cX1_trade 48 = .ok (.iload_n 3, 1) := by decide +kernel
theorem dX1_trade_49 : decode cX1_trade 49 = .ok (.dup2, 1) := by decide +kernel
theorem dX1_trade_50 : decode cX1_trade 50 = .ok (.iaload, 1) := by decide +kernel
theorem dX1_trade_51 : decode cX1_trade 51 = .ok (.iconst 1, 1) := by decide +kernel
theorem dX1_trade_52 : decode cX1_trade 52 = .ok (.iadd, 1) := by decide +kernel
theorem dX1_trade_53 : decode cX1_trade 53 = .ok (.iastore, 1) := by decide +kernel
theorem dX1_trade_54 : decode cX1_trade 54 = .ok (.aload_n 1, 1) := by decide +kernel
theorem dX1_trade_55 : decode cX1_trade 55 = .ok (.dup, 1) := by decide +kernel
theorem dX1_trade_56 : decode cX1_trade 56 = .ok (.getfield 63, 3) := by decide +kernel
theorem dX1_trade_59 : decode cX1_trade 59 = .ok (.iload 4, 2) := by decide +kernel
theorem dX1_trade_61 : decode cX1_trade 61 = .ok (.isub, 1) := by decide +kernel
theorem dX1_trade_62 : decode cX1_trade 62 = .ok (.putfield 63, 3) := by decide +kernel
theorem dX1_trade_65 : decode cX1_trade 65 = .ok (.aload_n 1, 1) := by decide +kernel
theorem dX1_trade_66 : decode cX1_trade 66 = .ok (.dup, 1) := by decide +kernel
theorem dX1_trade_67 : decode cX1_trade 67 = .ok (.getfield 182, 3) := by decide +kernel
theorem dX1_trade_70 : decode cX1_trade 70 = .ok (.iconst 1, 1) := by decide +kernel
theorem dX1_trade_71 : decode cX1_trade 71 = .ok (.iadd, 1) := by decide +kernel
theorem dX1_trade_72 : decode cX1_trade 72 = .ok (.putfield 182, 3) := by decide +kernel
theorem dX1_trade_75 : decode cX1_trade 75 = .ok (.aload_n 0, 1) := by decide +kernel
theorem dX1_trade_76 : decode cX1_trade 76 = .ok (.dup, 1) := by decide +kernel
theorem dX1_trade_77 : decode cX1_trade 77 = .ok (.getfield 41, 3) := by decide +kernel
theorem dX1_trade_80 : decode cX1_trade 80 = .ok (.iconst 1, 1) := by decide +kernel
theorem dX1_trade_81 : decode cX1_trade 81 = .ok (.iadd, 1) := by decide +kernel
theorem dX1_trade_82 : decode cX1_trade 82 = .ok (.putfield 41, 3) := by decide +kernel
theorem dX1_trade_85 : decode cX1_trade 85 = .ok (.aload_n 0, 1) := by decide +kernel
theorem dX1_trade_86 : decode cX1_trade 86 = .ok (.dup, 1) := by decide +kernel
theorem dX1_trade_87 : decode cX1_trade 87 = .ok (.getfield 44, 3) := by decide +kernel
theorem dX1_trade_90 : decode cX1_trade 90 = .ok (.iload 4, 2) := by decide +kernel
theorem dX1_trade_92 : decode cX1_trade 92 = .ok (.iadd, 1) := by decide +kernel
theorem dX1_trade_93 : decode cX1_trade 93 = .ok (.putfield 44, 3) := by decide +kernel
theorem dX1_trade_96 : decode cX1_trade 96 = .ok (.return_, 1) := by decide +kernel
set_option maxRecDepth 20000 in
theorem ggX1_canoeAt_X2_canoeAt : GoodIn wsX1_canoeAt wsX2_canoeAt := goodIn_r _ [8, 9, 10, 21, 22, 23] (by decide +kernel) (by decide +kernel)
set_option maxRecDepth 20000 in
theorem gX1_canoeAt_X2_canoeAt : GoodIn wsX1_canoeAt (wsV RX1 185 RX2 yX2_canoeAt wsX2_canoeAt) := goodIn_app (goodIn_of _ (by decide +kernel)) ggX1_canoeAt_X2_canoeAt
theorem dX1_canoeAt_0 : decode cX1_canoeAt 0 = .ok (.iload_n 1, 1) := by decide +kernel
theorem dX1_canoeAt_1 : decode cX1_canoeAt 1 = .ok (.ifCond .lt 11, 3) := by decide +kernel
theorem dX1_canoeAt_4 : decode cX1_canoeAt 4 = .ok (.iload_n 1, 1) := by decide +kernel
theorem dX1_canoeAt_5 : decode cX1_canoeAt 5 = .ok (.aload_n 0, 1) := by decide +kernel
theorem dX1_canoeAt_6 : decode cX1_canoeAt 6 = .ok (.getfield 31, 3) := by decide +kernel
theorem dX1_canoeAt_9 : decode cX1_canoeAt 9 = .ok (.if_icmp .lt 5, 3) := by decide +kernel
theorem dX1_canoeAt_12 : decode cX1_canoeAt 12 = .ok (.aconst_null, 1) := by decide +kernel
theorem dX1_canoeAt_13 : decode cX1_canoeAt 13 = .ok (.areturn, 1) := by decide +kernel
theorem dX1_canoeAt_14 : decode cX1_canoeAt 14 = .ok (.aload_n 0, 1) := by decide +kernel
theorem dX1_canoeAt_15 : decode cX1_canoeAt 15 = .ok (.getfield 17, 3) := by decide +kernel
theorem dX1_canoeAt_18 : decode cX1_canoeAt 18 = .ok (.iload_n 1, 1) := by decide +kernel
theorem dX1_canoeAt_19 : decode cX1_canoeAt 19 = .ok (.aaload, 1) := by decide +kernel
theorem dX1_canoeAt_20 : decode cX1_canoeAt 20 = .ok (.iload_n 2, 1) := by decide +kernel
theorem dX1_canoeAt_21 : decode cX1_canoeAt 21 = .ok (.invokevirtual 185, 3) := by decide +kernel
theorem dX1_canoeAt_24 : decode cX1_canoeAt 24 = .ok (.istore_n 3, 1) := by decide +kernel
theorem dX1_canoeAt_25 : decode cX1_canoeAt 25 = .ok (.iload_n 3, 1) := by decide +kernel
theorem dX1_canoeAt_26 : decode cX1_canoeAt 26 = .ok (.iconst (-1), 1) := by decide +kernel
theorem dX1_canoeAt_27 : decode cX1_canoeAt 27 = .ok (.if_icmp .ne 7, 3) := by decide +kernel
theorem dX1_canoeAt_30 : decode cX1_canoeAt 30 = .ok (.aconst_null, 1) := by decide +kernel
theorem dX1_canoeAt_31 : decode cX1_canoeAt 31 = .ok (.goto 9, 3) := by decide +kernel
theorem dX1_canoeAt_34 : decode cX1_canoeAt 34 = .ok (.aload_n 0, 1) := by decide +kernel
theorem dX1_canoeAt_35 : decode cX1_canoeAt 35 = .ok (.getfield 24, 3) := by decide +kernel
theorem dX1_canoeAt_38 : decode cX1_canoeAt 38 = .ok (.iload_n 3, 1) := by decide +kernel
theorem dX1_canoeAt_39 : decode cX1_canoeAt 39 = .ok (.aaload, 1) := by decide +kernel
theorem dX1_canoeAt_40 : decode cX1_canoeAt 40 = .ok (.areturn, 1) := by decide +kernel
set_option maxRecDepth 20000 in
theorem ggX1_figure_X1_canoesBeing : GoodIn wsX1_figure wsX1_canoesBeing := goodIn_r _ [12, 3, 13, 14, 50, 51, 52, 53, 54, 55, 56, 57, 58, 59, 60, 61, 62, 63, 64, 65, 66, 67, 68, 69, 70, 71, 72, 73, 74, 75] (by decide +kernel) (by decide +kernel)
set_option maxRecDepth 20000 in
theorem gX1_figure_X1_canoesBeing : GoodIn wsX1_figure (wsV RX1 187 RX1 yX1_canoesBeing wsX1_canoesBeing) := goodIn_app (goodIn_of _ (by decide +kernel)) ggX1_figure_X1_canoesBeing
set_option maxRecDepth 20000 in
theorem ggX1_figure_X1_coinsInAll : GoodIn wsX1_figure wsX1_coinsInAll := goodIn_r _ [18, 3, 13, 19, 50, 51, 52, 53, 54, 55, 56, 57, 58, 59, 60, 61, 62, 63, 64, 65, 66, 67, 68, 69, 70, 71, 72, 73, 74, 75] (by decide +kernel) (by decide +kernel)
end
section
set_option maxRecDepth 20000 in
theorem gX1_figure_X1_coinsInAll : GoodIn wsX1_figure (wsV RX1 190 RX1 yX1_coinsInAll wsX1_coinsInAll) := goodIn_app (goodIn_of _ (by decide +kernel)) ggX1_figure_X1_coinsInAll
set_option maxRecDepth 20000 in
theorem ggX1_figure_X1_goodsInAll : GoodIn wsX1_figure wsX1_goodsInAll := goodIn_r _ [23, 3, 13, 24, 25, 26, 27, 28, 29, 50, 51, 52, 53, 54, 55, 56, 57, 58, 59, 60, 61, 62, 63, 64, 65, 66, 67, 68, 69, 70, 71, 72, 73, 74, 75] (by decide +kernel) (by decide +kernel)
set_option maxRecDepth 20000 in
theorem gX1_figure_X1_goodsInAll : GoodIn wsX1_figure (wsV RX1 194 RX1 yX1_goodsInAll wsX1_goodsInAll) := goodIn_app (goodIn_of _ (by decide +kernel)) ggX1_figure_X1_goodsInAll
set_option maxRecDepth 20000 in
theorem ggX1_figure_X1_dryCanoes : GoodIn wsX1_figure wsX1_dryCanoes := goodIn_r _ [33, 3, 13, 34, 35, 36, 11, 37, 14, 38, 39, 1, 40, 41, 42, 43, 44, 45, 46, 47, 48, 49, 50, 51, 52, 53, 54, 55, 56, 57, 58, 59, 60, 61, 62, 63, 64, 65, 66, 67, 68, 69, 70, 71, 72, 73, 74, 75, 76, 77] (by decide +kernel) (by decide +kernel)
set_option maxRecDepth 20000 in
theorem gX1_figure_X1_dryCanoes : GoodIn wsX1_figure (wsV RX1 197 RX1 yX1_dryCanoes wsX1_dryCanoes) := goodIn_app (goodIn_of _ (by decide +kernel)) ggX1_figure_X1_dryCanoes
theorem dX1_figure_0 : decode cX1_figure 0 = .ok (.iload_n 1, 1) := by decide +kernel
theorem dX1_figure_1 : decode cX1_figure 1 = .ok (.tableswitch 116 0 10 #[59, 64, 69, 74, 80, 86, 91, 96, 101, 106, 111], 59) := by decide +kernel
theorem dX1_figure_60 : decode cX1_figure 60 = .ok (.aload_n 0, 1) := by decide +kernel
theorem dX1_figure_61 : decode cX1_figure 61 = .ok (.getfield 38, 3) := by decide +kernel
theorem dX1_figure_64 : decode cX1_figure 64 = .ok (.ireturn, 1) := by decide +kernel
theorem dX1_figure_65 : decode cX1_figure 65 = .ok (.aload_n 0, 1) := by decide +kernel
theorem dX1_figure_66 : decode cX1_figure 66 = .ok (.getfield 31, 3) := by decide +kernel
theorem dX1_figure_69 : decode cX1_figure 69 = .ok (.ireturn, 1) := by decide +kernel
theorem dX1_figure_70 : decode cX1_figure 70 = .ok (.aload_n 0, 1) := by decide +kernel
theorem dX1_figure_71 : decode cX1_figure 71 = .ok (.getfield 35, 3) := by decide +kernel
theorem dX1_figure_74 : decode cX1_figure 74 = .ok (.ireturn, 1) := by decide +kernel
theorem dX1_figure_75 : decode cX1_figure 75 = .ok (.aload_n 0, 1) := by decide +kernel
theorem dX1_figure_76 : decode cX1_figure 76 = .ok (.iconst 1, 1) := by decide +kernel
theorem dX1_figure_77 : decode cX1_figure 77 = .ok (.invokevirtual 187, 3) := by decide +kernel
theorem dX1_figure_80 : decode cX1_figure 80 = .ok (.ireturn, 1) := by decide +kernel
theorem dX1_figure_81 : decode cX1_figure 81 = .ok (.aload_n 0, 1) := by decide +kernel
theorem dX1_figure_82 : decode cX1_figure 82 = .ok (.iconst 2, 1) := by decide +kernel
theorem dX1_figure_83 : decode cX1_figure 83 = .ok (.invokevirtual 187, 3) := by decide +kernel
theorem dX1_figure_86 : decode cX1_figure 86 = .ok (.ireturn, 1) := by decide +kernel
theorem dX1_figure_87 : decode cX1_figure 87 = .ok (.aload_n 0, 1) := by decide +kernel
theorem dX1_figure_88 : decode cX1_figure 88 = .ok (.invokevirtual 190, 3) := by decide +kernel
theorem dX1_figure_91 : decode cX1_figure 91 = .ok (.ireturn, 1) := by decide +kernel
theorem dX1_figure_92 : decode cX1_figure 92 = .ok (.aload_n 0, 1) := by decide +kernel
theorem dX1_figure_93 : decode cX1_figure 93 = .ok (.invokevirtual 194, 3) := by decide +kernel
theorem dX1_figure_96 : decode cX1_figure 96 = .ok (.ireturn, 1) := by decide +kernel
theorem dX1_figure_97 : decode cX1_figure 97 = .ok (.aload_n 0, 1) := by decide +kernel
theorem dX1_figure_98 : decode cX1_figure 98 = .ok (.getfield 41, 3) := by decide +kernel
theorem dX1_figure_101 : decode cX1_figure 101 = .ok (.ireturn, 1) := by decide +kernel
theorem dX1_figure_102 : decode cX1_figure 102 = .ok (.aload_n 0, 1) := by decide +kernel
theorem dX1_figure_103 : decode cX1_figure 103 = .ok (.getfield 44, 3) := by decide +kernel
theorem dX1_figure_106 : decode cX1_figure 106 = .ok (.ireturn, 1) := by decide +kernel
theorem dX1_figure_107 : decode cX1_figure 107 = .ok (.aload_n 0, 1) := by decide +kernel
theorem dX1_figure_108 : decode cX1_figure 108 = .ok (.getfield 47, 3) := by decide +kernel
theorem dX1_figure_111 : decode cX1_figure 111 = .ok (.ireturn, 1) := by decide +kernel
theorem dX1_figure_112 : decode cX1_figure 112 = .ok (.aload_n 0, 1) := by decide +kernel
theorem dX1_figure_113 : decode cX1_figure 113 = .ok (.getfield 50, 3) := by decide +kernel
theorem dX1_figure_116 : decode cX1_figure 116 = .ok (.ireturn, 1) := by decide +kernel
theorem dX1_figure_117 : decode cX1_figure 117 = .ok (.aload_n 0, 1) := by decide +kernel
theorem dX1_figure_118 : decode cX1_figure 118 = .ok (.invokevirtual 197, 3) := by decide +kernel
theorem dX1_figure_121 : decode cX1_figure 121 = .ok (.ireturn, 1) := by decide +kernel
theorem dX1_coinsInAll_0 : decode cX1_coinsInAll 0 = .ok (.iconst 0, 1) := by decide +kernel
theorem dX1_coinsInAll_1 : decode cX1_coinsInAll 1 = .ok (.istore_n 1, 1) := by decide +kernel
theorem dX1_coinsInAll_2 : decode cX1_coinsInAll 2 = .ok (.iconst 0, 1) := by decide +kernel
theorem dX1_coinsInAll_3 : decode cX1_coinsInAll 3 = .ok (.istore_n 2, 1) := by decide +kernel
theorem dX1_coinsInAll_4 : decode cX1_coinsInAll 4 = .ok (.iload_n 2, 1) := by decide +kernel
theorem dX1_coinsInAll_5 : decode cX1_coinsInAll 5 = .ok (.aload_n 0, 1) := by decide +kernel
theorem dX1_coinsInAll_6 : decode cX1_coinsInAll 6 = .ok (.getfield 35, 3) := by decide +kernel
theorem dX1_coinsInAll_9 : decode cX1_coinsInAll 9 = .ok (.if_icmp .ge 21, 3) := by decide +kernel
theorem dX1_coinsInAll_12 : decode cX1_coinsInAll 12 = .ok (.iload_n 1, 1) := by decide +kernel
theorem dX1_coinsInAll_13 : decode cX1_coinsInAll 13 = .ok (.aload_n 0, 1) := by decide +kernel
theorem dX1_coinsInAll_14 : decode cX1_coinsInAll 14 = .ok (.getfield 24, 3) := by decide +kernel
theorem dX1_coinsInAll_17 : decode cX1_coinsInAll 17 = .ok (.iload_n 2, 1) := by decide +kernel
theorem dX1_coinsInAll_18 : decode cX1_coinsInAll 18 = .ok (.aaload, 1) := by decide +kernel
theorem dX1_coinsInAll_19 : decode cX1_coinsInAll 19 = .ok (.getfield 63, 3) := by decide +kernel
theorem dX1_coinsInAll_22 : decode cX1_coinsInAll 22 = .ok (.iadd, 1) := by decide +kernel
theorem dX1_coinsInAll_23 : decode cX1_coinsInAll 23 = .ok (.istore_n 1, 1) := by decide +kernel
theorem dX1_coinsInAll_24 : decode cX1_coinsInAll 24 = .ok (.iinc 2 1, 3) := by decide +kernel
theorem dX1_coinsInAll_27 : decode cX1_coinsInAll 27 = .ok (.goto (-23), 3) := by decide +kernel
theorem dX1_coinsInAll_30 : decode cX1_coinsInAll 30 = .ok (.iload_n 1, 1) := by decide +kernel
theorem dX1_coinsInAll_31 : decode cX1_coinsInAll 31 = .ok (.ireturn, 1) := by decide +kernel
set_option maxRecDepth 20000 in
theorem ggX1_goodsInAll_X0_goodsInAll : GoodIn wsX1_goodsInAll wsX0_goodsInAll := goodIn_r _ [7, 8, 19, 20, 21, 22, 23, 24, 25, 26, 27, 28, 29, 30, 31, 32, 33, 34] (by decide +kernel) (by decide +kernel)
set_option maxRecDepth 20000 in
theorem gX1_goodsInAll_X0_goodsInAll : GoodIn wsX1_goodsInAll (wsV RX1 200 RX0 yX0_goodsInAll wsX0_goodsInAll) := goodIn_app (goodIn_of _ (by decide +kernel)) ggX1_goodsInAll_X0_goodsInAll
theorem dX1_goodsInAll_0 : decode cX1_goodsInAll 0 = .ok (.iconst 0, 1) := by decide +kernel
theorem dX1_goodsInAll_1 : decode cX1_goodsInAll 1 = .ok (.istore_n 1, 1) := by decide +kernel
theorem dX1_goodsInAll_2 : decode cX1_goodsInAll 2 = .ok (.iconst 0, 1) := by decide +kernel
theorem dX1_goodsInAll_3 : decode cX1_goodsInAll 3 = .ok (.istore_n 2, 1) := by decide +kernel
theorem dX1_goodsInAll_4 : decode cX1_goodsInAll 4 = .ok (.iload_n 2, 1) := by decide +kernel
theorem dX1_goodsInAll_5 : decode cX1_goodsInAll 5 = .ok (.aload_n 0, 1) := by decide +kernel
theorem dX1_goodsInAll_6 : decode cX1_goodsInAll 6 = .ok (.getfield 35, 3) := by decide +kernel
theorem dX1_goodsInAll_9 : decode cX1_goodsInAll 9 = .ok (.if_icmp .ge 21, 3) := by decide +kernel
theorem dX1_goodsInAll_12 : decode cX1_goodsInAll 12 = .ok (.iload_n 1, 1) := by decide +kernel
theorem dX1_goodsInAll_13 : decode cX1_goodsInAll 13 = .ok (.aload_n 0, 1) := by decide +kernel
theorem dX1_goodsInAll_14 : decode cX1_goodsInAll 14 = .ok (.getfield 24, 3) := by decide +kernel
theorem dX1_goodsInAll_17 : decode cX1_goodsInAll 17 = .ok (.iload_n 2, 1) := by decide +kernel
theorem dX1_goodsInAll_18 : decode cX1_goodsInAll 18 = .ok (.aaload, 1) := by decide +kernel
theorem dX1_goodsInAll_19 : decode cX1_goodsInAll 19 = .ok (.invokevirtual 200, 3) := by decide +kernel
theorem dX1_goodsInAll_22 : decode cX1_goodsInAll 22 = .ok (.iadd, 1) := by decide +kernel
theorem dX1_goodsInAll_23 : decode cX1_goodsInAll 23 = .ok (.istore_n 1, 1) := by decide +kernel
theorem dX1_goodsInAll_24 : decode cX1_goodsInAll 24 = .ok (.iinc 2 1, 3) := by decide +kernel
theorem dX1_goodsInAll_27 : decode cX1_goodsInAll 27 = .ok (.goto (-23), 3) := by decide +kernel
theorem dX1_goodsInAll_30 : decode cX1_goodsInAll 30 = .ok (.iload_n 1, 1) := by decide +kernel
theorem dX1_goodsInAll_31 : decode cX1_goodsInAll 31 = .ok (.ireturn, 1) := by decide +kernel
theorem dX1_canoesBeing_0 : decode cX1_canoesBeing 0 = .ok (.iconst 0, 1) := by decide +kernel
theorem dX1_canoesBeing_1 : decode cX1_canoesBeing 1 = .ok (.istore_n 2, 1) := by decide +kernel
theorem dX1_canoesBeing_2 : decode cX1_canoesBeing 2 = .ok (.iconst 0, 1) := by decide +kernel
theorem dX1_canoesBeing_3 : decode cX1_canoesBeing 3 = .ok (.istore_n 3, 1) := by decide +kernel
theorem dX1_canoesBeing_4 : decode cX1_canoesBeing 4 = .ok (.iload_n 3, 1) := by decide +kernel
theorem dX1_canoesBeing_5 : decode cX1_canoesBeing 5 = .ok (.aload_n 0, 1) := by decide +kernel
theorem dX1_canoesBeing_6 : decode cX1_canoesBeing 6 = .ok (.getfield 35, 3) := by decide +kernel
theorem dX1_canoesBeing_9 : decode cX1_canoesBeing 9 = .ok (.if_icmp .ge 25, 3) := by decide +kernel
theorem dX1_canoesBeing_12 : decode cX1_canoesBeing 12 = .ok (.aload_n 0, 1) := by decide +kernel
theorem dX1_canoesBeing_13 : decode cX1_canoesBeing 13 = .ok (.getfield 24, 3) := by decide +kernel
theorem dX1_canoesBeing_16 : decode cX1_canoesBeing 16 = .ok (.iload_n 3, 1) := by decide +kernel
theorem dX1_canoesBeing_17 : decode cX1_canoesBeing 17 = .ok (.aaload, 1) := by decide +kernel
theorem dX1_canoesBeing_18 : decode cX1_canoesBeing 18 = .ok (.getfield 69, 3) := by decide +kernel
theorem dX1_canoesBeing_21 : decode cX1_canoesBeing 21 = .ok (.iload_n 1, 1) := by decide +kernel
theorem dX1_canoesBeing_22 : decode cX1_canoesBeing 22 = .ok (.if_icmp .ne 6, 3) := by decide +kernel
theorem dX1_canoesBeing_25 : decode cX1_canoesBeing 25 = .ok (.iinc 2 1, 3) := by decide +kernel
theorem dX1_canoesBeing_28 : decode cX1_canoesBeing 28 = .ok (.iinc 3 1, 3) := by decide +kernel
theorem dX1_canoesBeing_31 : decode cX1_canoesBeing 31 = .ok (.goto (-27), 3) := by decide +kernel
theorem dX1_canoesBeing_34 : decode cX1_canoesBeing 34 = .ok (.iload_n 2, 1) := by decide +kernel
theorem dX1_canoesBeing_35 : decode cX1_canoesBeing 35 = .ok (.ireturn, 1) := by decide +kernel
set_option maxRecDepth 20000 in
theorem ggX1_dryCanoes_X1_liesDry : GoodIn wsX1_dryCanoes wsX1_liesDry := goodIn_r _ [7, 8, 9, 10, 11, 12, 13, 14, 15, 16, 17, 18, 19, 20, 21, 32, 33, 34, 35, 36, 37, 38, 39, 40, 41, 42, 43, 44, 45, 46, 47, 22, 23, 24, 25, 26, 27, 28, 29, 30, 31, 48, 49] (by decide +kernel) (by decide +kernel)
set_option maxRecDepth 20000 in
theorem gX1_dryCanoes_X1_liesDry : GoodIn wsX1_dryCanoes (wsV RX1 143 RX1 yX1_liesDry wsX1_liesDry) := goodIn_app (goodIn_of _ (by decide +kernel)) ggX1_dryCanoes_X1_liesDry
theorem dX1_dryCanoes_0 : decode cX1_dryCanoes 0 = .ok (.iconst 0, 1) := by decide +kernel
theorem dX1_dryCanoes_1 : decode cX1_dryCanoes 1 = .ok (.istore_n 1, 1) := by decide +kernel
theorem dX1_dryCanoes_2 : decode cX1_dryCanoes 2 = .ok (.iconst 0, 1) := by decide +kernel
theorem dX1_dryCanoes_3 : decode cX1_dryCanoes 3 = .ok (.istore_n 2, 1) := by decide +kernel
theorem dX1_dryCanoes_4 : decode cX1_dryCanoes 4 = .ok (.iload_n 2, 1) := by decide +kernel
theorem dX1_dryCanoes_5 : decode cX1_dryCanoes 5 = .ok (.aload_n 0, 1) := by decide +kernel
theorem dX1_dryCanoes_6 : decode cX1_dryCanoes 6 = .ok (.getfield 35, 3) := by decide +kernel
theorem dX1_dryCanoes_9 : decode cX1_dryCanoes 9 = .ok (.if_icmp .ge 25, 3) := by decide +kernel
theorem dX1_dryCanoes_12 : decode cX1_dryCanoes 12 = .ok (.aload_n 0, 1) := by decide +kernel
theorem dX1_dryCanoes_13 : decode cX1_dryCanoes 13 = .ok (.aload_n 0, 1) := by decide +kernel
theorem dX1_dryCanoes_14 : decode cX1_dryCanoes 14 = .ok (.getfield 24, 3) := by decide +kernel
theorem dX1_dryCanoes_17 : decode cX1_dryCanoes 17 = .ok (.iload_n 2, 1) := by decide +kernel
theorem dX1_dryCanoes_18 : decode cX1_dryCanoes 18 = .ok (.aaload, 1) := by decide +kernel
theorem dX1_dryCanoes_19 : decode cX1_dryCanoes 19 = .ok (.invokevirtual 143, 3) := by decide +kernel
theorem dX1_dryCanoes_22 : decode cX1_dryCanoes 22 = .ok (.ifCond .eq 6, 3) := by decide +kernel
theorem dX1_dryCanoes_25 : decode cX1_dryCanoes 25 = .ok (.iinc 1 1, 3) := by decide +kernel
theorem dX1_dryCanoes_28 : decode cX1_dryCanoes 28 = .ok (.iinc 2 1, 3) := by decide +kernel
theorem dX1_dryCanoes_31 : decode cX1_dryCanoes 31 = .ok (.goto (-27), 3) := by decide +kernel
theorem dX1_dryCanoes_34 : decode cX1_dryCanoes 34 = .ok (.iload_n 1, 1) := by decide +kernel
theorem dX1_dryCanoes_35 : decode cX1_dryCanoes 35 = .ok (.ireturn, 1) := by decide +kernel
theorem dX2_init_0 : decode cX2_init 0 = .ok (.aload_n 0, 1) := by decide +kernel
theorem dX2_init_1 : decode cX2_init 1 = .ok (.invokespecial 3, 3) := by decide +kernel
theorem dX2_init_4 : decode cX2_init 4 = .ok (.aload_n 0, 1) := by decide +kernel
theorem dX2_init_5 : decode cX2_init 5 = .ok (.bipush 6, 2) := by decide +kernel
theorem dX2_init_7 : decode cX2_init 7 = .ok (.newarray .int, 2) := by decide +kernel
theorem dX2_init_9 : decode cX2_init 9 = .ok (.putfield 9, 3) := by decide +kernel
theorem dX2_init_12 : decode cX2_init 12 = .ok (.return_, 1) := by decide +kernel
theorem dX2_copyFrom_0 : decode cX2_copyFrom 0 = .ok (.aload_n 0, 1) := by decide +kernel
theorem dX2_copyFrom_1 : decode cX2_copyFrom 1 = .ok (.aload_n 1, 1) := by decide +kernel
theorem dX2_copyFrom_2 : decode cX2_copyFrom 2 = .ok (.getfield 15, 3) := by decide +kernel
theorem dX2_copyFrom_5 : decode cX2_copyFrom 5 = .ok (.putfield 15, 3) := by decide +kernel
theorem dX2_copyFrom_8 : decode cX2_copyFrom 8 = .ok (.aload_n 0, 1) := by decide +kernel
theorem dX2_copyFrom_9 : decode cX2_copyFrom 9 = .ok (.aload_n 1, 1) := by decide +kernel
theorem dX2_copyFrom_10 : decode cX2_copyFrom 10 = .ok (.getfield 19, 3) := by decide +kernel
theorem dX2_copyFrom_13 : decode cX2_copyFrom 13 = .ok (.putfield 19, 3) := by decide +kernel
theorem dX2_copyFrom_16 : decode cX2_copyFrom 16 = .ok (.aload_n 1, 1) := by decide +kernel
theorem dX2_copyFrom_17 : decode cX2_copyFrom 17 = .ok (.getfield 9, 3) := by decide +kernel
theorem dX2_copyFrom_20 : decode cX2_copyFrom 20 = .ok (.iconst 0, 1) := by decide +kernel
theorem dX2_copyFrom_21 : decode cX2_copyFrom 21 = .ok (.aload_n 0, 1) := by decide +kernel
theorem dX2_copyFrom_22 : decode cX2_copyFrom 22 = .ok (.getfield 9, 3) := by decide +kernel
theorem dX2_copyFrom_25 : decode cX2_copyFrom 25 = .ok (.iconst 0, 1) := by decide +kernel
theorem dX2_copyFrom_26 : decode cX2_copyFrom 26 = .ok (.bipush 6, 2) := by decide +kernel
theorem dX2_copyFrom_28 : decode cX2_copyFrom 28 = .ok (.invokestatic 22, 3) := by decide +kernel
theorem dX2_copyFrom_31 : decode cX2_copyFrom 31 = .ok (.return_, 1) := by decide +kernel
theorem dX2_isFull_0 : decode cX2_isFull 0 = .ok (.aload_n 0, 1) := by decide +kernel
theorem dX2_isFull_1 : decode cX2_isFull 1 = .ok (.getfield 19, 3) := by decide +kernel
theorem dX2_isFull_4 : decode cX2_isFull 4 = .ok (.aload_n 0, 1) := by decide +kernel
theorem dX2_isFull_5 : decode cX2_isFull 5 = .ok (.getfield 15, 3) := by decide +kernel
theorem dX2_isFull_8 : decode cX2_isFull 8 = .ok (.if_icmp .lt 7, 3) := by decide +kernel
theorem dX2_isFull_11 : decode cX2_isFull 11 = .ok (.iconst 1, 1) := by decide +kernel
theorem dX2_isFull_12 : decode cX2_isFull 12 = .ok (.goto 4, 3) := by decide +kernel
theorem dX2_isFull_15 : decode cX2_isFull 15 = .ok (.iconst 0, 1) := by decide +kernel
theorem dX2_isFull_16 : decode cX2_isFull 16 = .ok (.ireturn, 1) := by decide +kernel
theorem dX2_canoeAt_0 : decode cX2_canoeAt 0 = .ok (.iload_n 1, 1) := by decide +kernel
theorem dX2_canoeAt_1 : decode cX2_canoeAt 1 = .ok (.ifCond .lt 20, 3) := by decide +kernel
theorem dX2_canoeAt_4 : decode cX2_canoeAt 4 = .ok (.iload_n 1, 1) := by decide +kernel
theorem dX2_canoeAt_5 : decode cX2_canoeAt 5 = .ok (.aload_n 0, 1) := by decide +kernel
theorem dX2_canoeAt_6 : decode cX2_canoeAt 6 = .ok (.getfield 19, 3) := by decide +kernel
theorem dX2_canoeAt_9 : decode cX2_canoeAt 9 = .ok (.if_icmp .ge 12, 3) := by decide +kernel
theorem dX2_canoeAt_12 : decode cX2_canoeAt 12 = .ok (.aload_n 0, 1) := by decide +kernel
theorem dX2_canoeAt_13 : decode cX2_canoeAt 13 = .ok (.getfield 9, 3) := by decide +kernel
theorem dX2_canoeAt_16 : decode cX2_canoeAt 16 = .ok (.iload_n 1, 1) := by decide +kernel
theorem dX2_canoeAt_17 : decode cX2_canoeAt 17 = .ok (.iaload, 1) := by decide +kernel
theorem dX2_canoeAt_18 : decode cX2_canoeAt 18 = .ok (.goto 4, 3) := by decide +kernel
theorem dX2_canoeAt_21 : decode cX2_canoeAt 21 = .ok (.iconst (-1), 1) := by decide +kernel
theorem dX2_canoeAt_22 : decode cX2_canoeAt 22 = .ok (.ireturn, 1) := by decide +kernel
theorem dX2_append_0 : decode cX2_append 0 = .ok (.aload_n 0, 1) := by decide +kernel
theorem dX2_append_1 : decode cX2_append 1 = .ok (.getfield 19, 3) := by decide +kernel
theorem dX2_append_4 : decode cX2_append 4 = .ok (.aload_n 0, 1) := by decide +kernel
theorem dX2_append_5 : decode cX2_append 5 = .ok (.getfield 15, 3) := by decide +kernel
theorem dX2_append_8 : decode cX2_append 8 = .ok (.if_icmp .ge 23, 3) := by decide +kernel
theorem dX2_append_11 : decode cX2_append 11 = .ok (.aload_n 0, 1) := by decide +kernel
theorem dX2_append_12 : decode cX2_append 12 = .ok (.getfield 9, 3) := by decide +kernel
theorem dX2_append_15 : decode cX2_append 15 = .ok (.aload_n 0, 1) := by decide +kernel
theorem dX2_append_16 : decode cX2_append 16 = .ok (.getfield 19, 3) := by decide +kernel
theorem dX2_append_19 : decode cX2_append 19 = .ok (.iload_n 1, 1) := by decide +kernel
theorem dX2_append_20 : decode cX2_append 20 = .ok (.iastore, 1) := by decide +kernel
theorem dX2_append_21 : decode cX2_append 21 = .ok (.aload_n 0, 1) := by decide +kernel
theorem dX2_append_22 : decode cX2_append 22 = .ok (.dup, 1) := by decide +kernel
theorem dX2_append_23 : decode cX2_append 23 = .ok (.getfield 19, 3) := by decide +kernel
theorem dX2_append_26 : decode cX2_append 26 = .ok (.iconst 1, 1) := by decide +kernel
theorem dX2_append_27 : decode cX2_append 27 = .ok (.iadd, 1) := by decide +kernel
theorem dX2_append_28 : decode cX2_append 28 = .ok (.putfield 19, 3) := by decide +kernel
theorem dX2_append_31 : decode cX2_append 31 = .ok (.return_, 1) := by decide +kernel
theorem dX2_closeGap_0 : decode cX2_closeGap 0 = .ok (.iload_n 1, 1) := by decide +kernel
theorem dX2_closeGap_1 : decode cX2_closeGap 1 = .ok (.ifCond .lt 11, 3) := by decide +kernel
theorem dX2_closeGap_4 : decode cX2_closeGap 4 = .ok (.iload_n 1, 1) := by decide +kernel
theorem dX2_closeGap_5 : decode cX2_closeGap 5 = .ok (.aload_n 0, 1) := by decide +kernel
theorem dX2_closeGap_6 : decode cX2_closeGap 6 = .ok (.getfield 19, 3) := by decide +kernel
theorem dX2_closeGap_9 : decode cX2_closeGap 9 = .ok (.if_icmp .lt 4, 3) := by decide +kernel
theorem dX2_closeGap_12 : decode cX2_closeGap 12 = .ok (.return_, 1) := by decide +kernel
theorem dX2_closeGap_13 : decode cX2_closeGap 13 = .ok (.iload_n 1, 1) := by decide +kernel
theorem dX2_closeGap_14 : decode cX2_closeGap 14 = .ok (.iconst 1, 1) := by decide +kernel
theorem dX2_closeGap_15 : decode cX2_closeGap 15 = .ok (.iadd, 1) := by decide +kernel
theorem dX2_closeGap_16 : decode cX2_closeGap 16 = .ok (.istore_n 2, 1) := by decide +kernel
theorem dX2_closeGap_17 : decode cX2_closeGap 17 = .ok (.iload_n 2, 1) := by decide +kernel
theorem dX2_closeGap_18 : decode cX2_closeGap 18 = .ok (.aload_n 0, 1) := by decide +kernel
theorem dX2_closeGap_19 : decode cX2_closeGap 19 = .ok (.getfield 19, 3) := by decide +kernel
theorem dX2_closeGap_22 : decode cX2_closeGap 22 = .ok (.if_icmp .ge 23, 3) := by decide +kernel
theorem dX2_closeGap_25 : decode cX2_closeGap 25 = .ok (.aload_n 0, 1) := by decide +kernel
theorem dX2_closeGap_26 : decode cX2_closeGap 26 = .ok (.getfield 9, 3) := by decide +kernel
theorem dX2_closeGap_29 : decode cX2_closeGap 29 = .ok (.iload_n 2, 1) := by decide +kernel
theorem dX2_closeGap_30 : decode cX2_closeGap 30 = .ok (.iconst 1, 1) := by decide +kernel
theorem dX2_closeGap_31 : decode cX2_closeGap 31 = .ok (.isub, 1) := by decide +kernel
theorem dX2_closeGap_32 : decode cX2_closeGap 32 = .ok (.aload_n 0, 1) := by decide +kernel
theorem dX2_closeGap_33 : decode cX2_closeGap 33 = .ok (.getfield 9, 3) := by decide +kernel
theorem dX2_closeGap_36 : decode cX2_closeGap 36 = .ok (.iload_n 2, 1) := by decide +kernel
theorem dX2_closeGap_37 : decode cX2_closeGap 37 = .ok (.iaload, 1) := by decide +kernel
theorem dX2_closeGap_38 : decode cX2_closeGap 38 = .ok (.iastore, 1) := by decide +kernel
theorem dX2_closeGap_39 : decode cX2_closeGap 39 = .ok (.iinc 2 1, 3) := by decide +kernel
theorem dX2_closeGap_42 : decode cX2_closeGap 42 = .ok (.goto (-25), 3) := by decide +kernel
theorem dX2_closeGap_45 : decode cX2_closeGap 45 = .ok (.aload_n 0, 1) := by decide +kernel
theorem dX2_closeGap_46 : decode cX2_closeGap 46 = .ok (.dup, 1) := by decide +kernel
theorem dX2_closeGap_47 : decode cX2_closeGap 47 = .ok (.getfield 19, 3) := by decide +kernel
theorem dX2_closeGap_50 : decode cX2_closeGap 50 = .ok (.iconst 1, 1) := by decide +kernel
theorem dX2_closeGap_51 : decode cX2_closeGap 51 = .ok (.isub, 1) := by decide +kernel
theorem dX2_closeGap_52 : decode cX2_closeGap 52 = .ok (.putfield 19, 3) := by decide +kernel
theorem dX2_closeGap_55 : decode cX2_closeGap 55 = .ok (.return_, 1) := by decide +kernel
set_option maxRecDepth 20000 in
theorem ggX2_addTo_X2_canoeAt : GoodIn wsX2_addTo wsX2_canoeAt := goodIn_r _ [7, 8, 9, 10, 11, 12] (by decide +kernel) (by decide +kernel)
set_option maxRecDepth 20000 in
theorem gX2_addTo_X2_canoeAt : GoodIn wsX2_addTo (wsV RX2 30 RX2 yX2_canoeAt wsX2_canoeAt) := goodIn_app (goodIn_of _ (by decide +kernel)) ggX2_addTo_X2_canoeAt
theorem dX2_addTo_0 : decode cX2_addTo 0 = .ok (.lload_n 1, 1) := by decide +kernel
theorem dX2_addTo_1 : decode cX2_addTo 1 = .ok (.ldc2_w 28, 3) := by decide +kernel
theorem dX2_addTo_4 : decode cX2_addTo 4 = .ok (.lmul, 1) := by decide +kernel
theorem dX2_addTo_5 : decode cX2_addTo 5 = .ok (.aload_n 0, 1) := by decide +kernel
theorem dX2_addTo_6 : decode cX2_addTo 6 = .ok (.getfield 15, 3) := by decide +kernel
theorem dX2_addTo_9 : decode cX2_addTo 9 = .ok (.i2l, 1) := by decide +kernel
theorem dX2_addTo_10 : decode cX2_addTo 10 = .ok (.ladd, 1) := by decide +kernel
theorem dX2_addTo_11 : decode cX2_addTo 11 = .ok (.lstore_n 3, 1) := by decide +kernel
theorem dX2_addTo_12 : decode cX2_addTo 12 = .ok (.iconst 0, 1) := by decide +kernel
theorem dX2_addTo_13 : decode cX2_addTo 13 = .ok (.istore 5, 2) := by decide +kernel
theorem dX2_addTo_15 : decode cX2_addTo 15 = .ok (.iload 5, 2) := by decide +kernel
theorem dX2_addTo_17 : decode cX2_addTo 17 = .ok (.aload_n 0, 1) := by decide +kernel
theorem dX2_addTo_18 : decode cX2_addTo 18 = .ok (.getfield 15, 3) := by decide +kernel
theorem dX2_addTo_21 : decode cX2_addTo 21 = .ok (.if_icmp .ge 23, 3) := by decide +kernel
theorem dX2_addTo_24 : decode cX2_addTo 24 = .ok (.lload_n 3, 1) := by decide +kernel
theorem dX2_addTo_25 : decode cX2_addTo 25 = .ok (.ldc2_w 28, 3) := by decide +kernel
theorem dX2_addTo_28 : decode cX2_addTo 28 = .ok (.lmul, 1) := by decide +kernel
theorem dX2_addTo_29 : decode cX2_addTo 29 = .ok (.aload_n 0, 1) := by decide +kernel
theorem dX2_addTo_30 : decode cX2_addTo 30 = .ok (.iload 5, 2) := by decide +kernel
theorem dX2_addTo_32 : decode cX2_addTo 32 = .ok (.invokevirtual 30, 3) := by decide +kernel
theorem dX2_addTo_35 : decode cX2_addTo 35 = .ok (.i2l, 1) := by decide +kernel
theorem dX2_addTo_36 : decode cX2_addTo 36 = .ok (.ladd, 1) := by decide +kernel
theorem dX2_addTo_37 : decode cX2_addTo 37 = .ok (.lstore_n 3, 1) := by decide +kernel
theorem dX2_addTo_38 : decode cX2_addTo 38 = .ok (.iinc 5 1, 3) := by decide +kernel
theorem dX2_addTo_41 : decode cX2_addTo 41 = .ok (.goto (-26), 3) := by decide +kernel
theorem dX2_addTo_44 : decode cX2_addTo 44 = .ok (.lload_n 3, 1) := by decide +kernel
theorem dX2_addTo_45 : decode cX2_addTo 45 = .ok (.lreturn, 1) := by decide +kernel
set_option maxRecDepth 20000 in
theorem ggX3_init_J7_fill_53178 : GoodIn wsX3_init wsJ7_fill_53178 := goodIn_r _ [10] (by decide +kernel) (by decide +kernel)
set_option maxRecDepth 20000 in
theorem gX3_init_J7_fill_53178 : GoodIn wsX3_init (va_wsS RX3 18 yJ7_fill_53178 wsJ7_fill_53178) := goodIn_app (goodIn_of _ (by decide +kernel)) ggX3_init_J7_fill_53178
theorem dX3_init_0 : decode cX3_init 0 = .ok (.aload_n 0, 1) := by decide +kernel
theorem dX3_init_1 : decode cX3_init 1 = .ok (.invokespecial 3, 3) := by decide +kernel
theorem dX3_init_4 : decode cX3_init 4 = .ok (.aload_n 0, 1) := by decide +kernel
theorem dX3_init_5 : decode cX3_init 5 = .ok (.bipush 24, 2) := by decide +kernel
theorem dX3_init_7 : decode cX3_init 7 = .ok (.newarray .int, 2) := by decide +kernel
theorem dX3_init_9 : decode cX3_init 9 = .ok (.putfield 9, 3) := by decide +kernel
theorem dX3_init_12 : decode cX3_init 12 = .ok (.aload_n 0, 1) := by decide +kernel
theorem dX3_init_13 : decode cX3_init 13 = .ok (.bipush 24, 2) := by decide +kernel
theorem dX3_init_15 : decode cX3_init 15 = .ok (.newarray .int, 2) := by decide +kernel
theorem dX3_init_17 : decode cX3_init 17 = .ok (.putfield 15, 3) := by decide +kernel
theorem dX3_init_20 : decode cX3_init 20 = .ok (.aload_n 0, 1) := by decide +kernel
theorem dX3_init_21 : decode cX3_init 21 = .ok (.getfield 9, 3) := by decide +kernel
theorem dX3_init_24 : decode cX3_init 24 = .ok (.bipush 9, 2) := by decide +kernel
theorem dX3_init_26 : decode cX3_init 26 = .ok (.invokestatic 18, 3) := by decide +kernel
theorem dX3_init_29 : decode cX3_init 29 = .ok (.return_, 1) := by decide +kernel
set_option maxRecDepth 20000 in
theorem ggX3_tideIn_J9_floorMod_7cf53 : GoodIn wsX3_tideIn wsJ9_floorMod_7cf53 := goodIn_r _ [5] (by decide +kernel) (by decide +kernel)
set_option maxRecDepth 20000 in
theorem gX3_tideIn_J9_floorMod_7cf53 : GoodIn wsX3_tideIn (va_wsS RX3 24 yJ9_floorMod_7cf53 wsJ9_floorMod_7cf53) := goodIn_app (goodIn_of _ (by decide +kernel)) ggX3_tideIn_J9_floorMod_7cf53
theorem dX3_tideIn_0 : decode cX3_tideIn 0 = .ok (.aload_n 0, 1) := by decide +kernel
theorem dX3_tideIn_1 : decode cX3_tideIn 1 = .ok (.getfield 9, 3) := by decide +kernel
theorem dX3_tideIn_4 : decode cX3_tideIn 4 = .ok (.iload_n 1, 1) := by decide +kernel
theorem dX3_tideIn_5 : decode cX3_tideIn 5 = .ok (.bipush 24, 2) := by decide +kernel
theorem dX3_tideIn_7 : decode cX3_tideIn 7 = .ok (.invokestatic 24, 3) := by decide +kernel
theorem dX3_tideIn_10 : decode cX3_tideIn 10 = .ok (.iaload, 1) := by decide +kernel
theorem dX3_tideIn_11 : decode cX3_tideIn 11 = .ok (.ireturn, 1) := by decide +kernel
set_option maxRecDepth 20000 in
theorem ggX3_wakeIn_J9_floorMod_7cf53 : GoodIn wsX3_wakeIn wsJ9_floorMod_7cf53 := goodIn_r _ [5] (by decide +kernel) (by decide +kernel)
set_option maxRecDepth 20000 in
theorem gX3_wakeIn_J9_floorMod_7cf53 : GoodIn wsX3_wakeIn (va_wsS RX3 24 yJ9_floorMod_7cf53 wsJ9_floorMod_7cf53) := goodIn_app (goodIn_of _ (by decide +kernel)) ggX3_wakeIn_J9_floorMod_7cf53
theorem dX3_wakeIn_0 : decode cX3_wakeIn 0 = .ok (.aload_n 0, 1) := by decide +kernel
theorem dX3_wakeIn_1 : decode cX3_wakeIn 1 = .ok (.getfield 15, 3) := by decide +kernel
theorem dX3_wakeIn_4 : decode cX3_wakeIn 4 = .ok (.iload_n 1, 1) := by decide +kernel
theorem dX3_wakeIn_5 : decode cX3_wakeIn 5 = .ok (.bipush 24, 2) := by decide +kernel
theorem dX3_wakeIn_7 : decode cX3_wakeIn 7 = .ok (.invokestatic 24, 3) := by decide +kernel
theorem dX3_wakeIn_10 : decode cX3_wakeIn 10 = .ok (.iaload, 1) := by decide +kernel
theorem dX3_wakeIn_11 : decode cX3_wakeIn 11 = .ok (.ireturn, 1) := by decide +kernel
set_option maxRecDepth 20000 in
theorem ggX3_entry_X3_tideIn : GoodIn wsX3_entry wsX3_tideIn := goodIn_r _ [5, 6, 7, 8, 9, 10, 16, 17] (by decide +kernel) (by decide +kernel)
set_option maxRecDepth 20000 in
theorem gX3_entry_X3_tideIn : GoodIn wsX3_entry (wsV RX3 30 RX3 yX3_tideIn wsX3_tideIn) := goodIn_app (goodIn_of _ (by decide +kernel)) ggX3_entry_X3_tideIn
set_option maxRecDepth 20000 in
theorem ggX3_entry_X3_wakeIn : GoodIn wsX3_entry wsX3_wakeIn := goodIn_r _ [14, 15, 7, 8, 9, 10, 16, 17] (by decide +kernel) (by decide +kernel)
set_option maxRecDepth 20000 in
theorem gX3_entry_X3_wakeIn : GoodIn wsX3_entry (wsV RX3 34 RX3 yX3_wakeIn wsX3_wakeIn) := goodIn_app (goodIn_of _ (by decide +kernel)) ggX3_entry_X3_wakeIn
theorem dX3_entry_0 : decode cX3_entry 0 = .ok (.bipush 10, 2) := by decide +kernel
theorem dX3_entry_2 : decode cX3_entry 2 = .ok (.aload_n 0, 1) := by decide +kernel
theorem dX3_entry_3 : decode cX3_entry 3 = .ok (.iload_n 1, 1) := by decide +kernel
theorem dX3_entry_4 : decode cX3_entry 4 = .ok (.invokevirtual 30, 3) := by decide +kernel
theorem dX3_entry_7 : decode cX3_entry 7 = .ok (.imul, 1) := by decide +kernel
theorem dX3_entry_8 : decode cX3_entry 8 = .ok (.aload_n 0, 1) := by decide +kernel
theorem dX3_entry_9 : decode cX3_entry 9 = .ok (.iload_n 1, 1) := by decide +kernel
theorem dX3_entry_10 : decode cX3_entry 10 = .ok (.invokevirtual 34, 3) := by decide +kernel
theorem dX3_entry_13 : decode cX3_entry 13 = .ok (.iadd, 1) := by decide +kernel
theorem dX3_entry_14 : decode cX3_entry 14 = .ok (.ireturn, 1) := by decide +kernel
set_option maxRecDepth 20000 in
theorem ggX4_init_X3_init : GoodIn wsX4_init wsX3_init := goodIn_r _ [15, 16, 2, 3, 17, 18, 19, 20, 21, 22, 23, 56, 57] (by decide +kernel) (by decide +kernel)
set_option maxRecDepth 20000 in
theorem gX4_init_X3_init : GoodIn wsX4_init (wsX3_init) := ggX4_init_X3_init
set_option maxRecDepth 20000 in
theorem ggX4_init_X1_init : GoodIn wsX4_init wsX1_init := goodIn_r _ [26, 27, 2, 3, 28, 29, 30, 31, 32, 33, 34, 35, 36, 37, 38, 39, 40, 17, 41, 42, 43, 44, 45, 46, 47, 48, 49, 50, 51, 52, 53, 54, 55, 61, 62, 63, 64, 65, 66, 67, 68, 69, 70, 71, 72, 73, 74, 75, 76, 77, 78, 79, 80, 81, 82, 83, 84, 85, 86, 87, 88, 89] (by decide +kernel) (by decide +kernel)
set_option maxRecDepth 20000 in
theorem gX4_init_X1_init : GoodIn wsX4_init (wsX1_init) := ggX4_init_X1_init
theorem dX4_init_0 : decode cX4_init 0 = .ok (.aload_n 0, 1) := by decide +kernel
theorem dX4_init_1 : decode cX4_init 1 = .ok (.invokespecial 1, 3) := by decide +kernel
theorem dX4_init_4 : decode cX4_init 4 = .ok (.aload_n 0, 1) := by decide +kernel
theorem dX4_init_5 : decode cX4_init 5 = .ok (.new 7, 3) := by decide +kernel
theorem dX4_init_8 : decode cX4_init 8 = .ok (.dup, 1) := by decide +kernel
theorem dX4_init_9 : decode cX4_init 9 = .ok (.invokespecial 9, 3) := by decide +kernel
theorem dX4_init_12 : decode cX4_init 12 = .ok (.putfield 10, 3) := by decide +kernel
theorem dX4_init_15 : decode cX4_init 15 = .ok (.aload_n 0, 1) := by decide +kernel
theorem dX4_init_16 : decode cX4_init 16 = .ok (.new 16, 3) := by decide +kernel
theorem dX4_init_19 : decode cX4_init 19 = .ok (.dup, 1) := by decide +kernel
theorem dX4_init_20 : decode cX4_init 20 = .ok (.aload_n 0, 1) := by decide +kernel
theorem dX4_init_21 : decode cX4_init 21 = .ok (.getfield 10, 3) := by decide +kernel
theorem dX4_init_24 : decode cX4_init 24 = .ok (.invokespecial 18, 3) := by decide +kernel
theorem dX4_init_27 : decode cX4_init 27 = .ok (.putfield 21, 3) := by decide +kernel
theorem dX4_init_30 : decode cX4_init 30 = .ok (.aload_n 0, 1) := by decide +kernel
theorem dX4_init_31 : decode cX4_init 31 = .ok (.new 16, 3) := by decide +kernel
theorem dX4_init_34 : decode cX4_init 34 = .ok (.dup, 1) := by decide +kernel
theorem dX4_init_35 : decode cX4_init 35 = .ok (.aload_n 0, 1) := by decide +kernel
theorem dX4_init_36 : decode cX4_init 36 = .ok (.getfield 10, 3) := by decide +kernel
theorem dX4_init_39 : decode cX4_init 39 = .ok (.invokespecial 18, 3) := by decide +kernel
theorem dX4_init_42 : decode cX4_init 42 = .ok (.putfield 25, 3) := by decide +kernel
theorem dX4_init_45 : decode cX4_init 45 = .ok (.return_, 1) := by decide +kernel
set_option maxRecDepth 20000 in
theorem ggX4_addRow_X4_needRange : GoodIn wsX4_addRow wsX4_needRange := goodIn_ca (goodIn_r _ [6, 7, 8] (by decide +kernel) (by decide +kernel)) (goodIn_sub (fun _ h => List.mem_cons_of_mem _ (List.mem_append_left _ (List.mem_append_right _ h))) (by decide +kernel))
set_option maxRecDepth 20000 in
theorem gX4_addRow_X4_needRange : GoodIn wsX4_addRow (va_wsS RX4 28 yX4_needRange wsX4_needRange) := goodIn_app (goodIn_of _ (by decide +kernel)) ggX4_addRow_X4_needRange
set_option maxRecDepth 20000 in
theorem ggX4_addRow_X4_needState : GoodIn wsX4_addRow wsX4_needState := goodIn_ca (goodIn_r _ [11, 12, 13] (by decide +kernel) (by decide +kernel)) (goodIn_sub (fun _ h => List.mem_cons_of_mem _ (List.mem_append_right _ h)) (by decide +kernel))
set_option maxRecDepth 20000 in
theorem gX4_addRow_X4_needState : GoodIn wsX4_addRow (va_wsS RX4 36 yX4_needState wsX4_needState) := goodIn_app (goodIn_of _ (by decide +kernel)) ggX4_addRow_X4_needState
set_option maxRecDepth 20000 in
theorem ggX4_addRow_X1_openRow : GoodIn wsX4_addRow wsX1_openRow := goodIn_r _ [18, 19, 20, 21, 25, 26, 27, 28, 29, 30, 31, 32, 33, 34, 35, 36, 37] (by decide +kernel) (by decide +kernel)
set_option maxRecDepth 20000 in
theorem gX4_addRow_X1_openRow : GoodIn wsX4_addRow (wsV RX4 40 RX1 yX1_openRow wsX1_openRow) := goodIn_app (goodIn_of _ (by decide +kernel)) ggX4_addRow_X1_openRow
theorem dX4_addRow_0 : decode cX4_addRow 0 = .ok (.iload_n 1, 1) := by decide +kernel
theorem dX4_addRow_1 : decode cX4_addRow 1 = .ok (.iconst 1, 1) := by decide +kernel
theorem dX4_addRow_2 : decode cX4_addRow 2 = .ok (.bipush 6, 2) := by decide +kernel
theorem dX4_addRow_4 : decode cX4_addRow 4 = .ok (.invokestatic 28, 3) := by decide +kernel
theorem dX4_addRow_7 : decode cX4_addRow 7 = .ok (.aload_n 0, 1) := by decide +kernel
theorem dX4_addRow_8 : decode cX4_addRow 8 = .ok (.getfield 21, 3) := by decide +kernel
theorem dX4_addRow_11 : decode cX4_addRow 11 = .ok (.getfield 32, 3) := by decide +kernel
theorem dX4_addRow_14 : decode cX4_addRow 14 = .ok (.iconst 4, 1) := by decide +kernel
theorem dX4_addRow_15 : decode cX4_addRow 15 = .ok (.if_icmp .ge 7, 3) := by decide +kernel
theorem dX4_addRow_18 : decode cX4_addRow 18 = .ok (.iconst 1, 1) := by decide +kernel
theorem dX4_addRow_19 : decode cX4_addRow 19 = .ok (.goto 4, 3) := by decide +kernel
theorem dX4_addRow_22 : decode cX4_addRow 22 = .ok (.iconst 0, 1) := by decide +kernel
theorem dX4_addRow_23 : decode cX4_addRow 23 = .ok (.invokestatic 36, 3) := by decide +kernel
theorem dX4_addRow_26 : decode cX4_addRow 26 = .ok (.aload_n 0, 1) := by decide +kernel
theorem dX4_addRow_27 : decode cX4_addRow 27 = .ok (.getfield 21, 3) := by decide +kernel
theorem dX4_addRow_30 : decode cX4_addRow 30 = .ok (.iload_n 1, 1) := by decide +kernel
theorem dX4_addRow_31 : decode cX4_addRow 31 = .ok (.invokevirtual 40, 3) := by decide +kernel
theorem dX4_addRow_34 : decode cX4_addRow 34 = .ok (.ireturn, 1) := by decide +kernel
set_option maxRecDepth 20000 in
theorem ggX4_setWater_X4_needIndex : GoodIn wsX4_setWater wsX4_needIndex := goodIn_ca (goodIn_r _ [7, 8, 9] (by decide +kernel) (by decide +kernel)) (goodIn_sub (fun _ h => List.mem_cons_of_mem _ (List.mem_append_left _ (List.mem_append_right _ h))) (by decide +kernel))
set_option maxRecDepth 20000 in
theorem gX4_setWater_X4_needIndex : GoodIn wsX4_setWater (va_wsS RX4 44 yX4_needIndex wsX4_needIndex) := goodIn_app (goodIn_of _ (by decide +kernel)) ggX4_setWater_X4_needIndex
set_option maxRecDepth 20000 in
theorem ggX4_setWater_X4_needRange : GoodIn wsX4_setWater wsX4_needRange := goodIn_ca (goodIn_r _ [12, 13, 14] (by decide +kernel) (by decide +kernel)) (goodIn_sub (fun _ h => List.mem_cons_of_mem _ (List.mem_append_right _ h)) (by decide +kernel))
set_option maxRecDepth 20000 in
theorem gX4_setWater_X4_needRange : GoodIn wsX4_setWater (va_wsS RX4 28 yX4_needRange wsX4_needRange) := goodIn_app (goodIn_of _ (by decide +kernel)) ggX4_setWater_X4_needRange
set_option maxRecDepth 20000 in
theorem ggX4_setWater_X3_entry : GoodIn wsX4_setWater wsX3_entry := goodIn_r _ [19, 20, 21, 22, 18, 23, 24, 25, 26, 27, 28, 29, 30, 31, 32, 33, 37, 38] (by decide +kernel) (by decide +kernel)
set_option maxRecDepth 20000 in
theorem gX4_setWater_X3_entry : GoodIn wsX4_setWater (wsV RX4 48 RX3 yX3_entry wsX3_entry) := goodIn_app (goodIn_of _ (by decide +kernel)) ggX4_setWater_X3_entry
theorem dX4_setWater_0 : decode cX4_setWater 0 = .ok (.iload_n 1, 1) := by decide +kernel
theorem dX4_setWater_1 : decode cX4_setWater 1 = .ok (.bipush 24, 2) := by decide +kernel
theorem dX4_setWater_3 : decode cX4_setWater 3 = .ok (.invokestatic 44, 3) := by decide +kernel
theorem dX4_setWater_6 : decode cX4_setWater 6 = .ok (.iload_n 2, 1) := by decide +kernel
theorem dX4_setWater_7 : decode cX4_setWater 7 = .ok (.iconst 0, 1) := by decide +kernel
theorem dX4_setWater_8 : decode cX4_setWater 8 = .ok (.bipush 9, 2) := by decide +kernel
theorem dX4_setWater_10 : decode cX4_setWater 10 = .ok (.invokestatic 28, 3) := by decide +kernel
theorem dX4_setWater_13 : decode cX4_setWater 13 = .ok (.iload_n 3, 1) := by decide +kernel
theorem dX4_setWater_14 : decode cX4_setWater 14 = .ok (.iconst 0, 1) := by decide +kernel
theorem dX4_setWater_15 : decode cX4_setWater 15 = .ok (.bipush 9, 2) := by decide +kernel
theorem dX4_setWater_17 : decode cX4_setWater 17 = .ok (.invokestatic 28, 3) := by decide +kernel
theorem dX4_setWater_20 : decode cX4_setWater 20 = .ok (.aload_n 0, 1) := by decide +kernel
theorem dX4_setWater_21 : decode cX4_setWater 21 = .ok (.getfield 10, 3) := by decide +kernel
theorem dX4_setWater_24 : decode cX4_setWater 24 = .ok (.iload_n 1, 1) := by decide +kernel
theorem dX4_setWater_25 : decode cX4_setWater 25 = .ok (.invokevirtual 48, 3) := by decide +kernel
theorem dX4_setWater_28 : decode cX4_setWater 28 = .ok (.istore 4, 2) := by decide +kernel
theorem dX4_setWater_30 : decode cX4_setWater 30 = .ok (.aload_n 0, 1) := by decide +kernel
theorem dX4_setWater_31 : decode cX4_setWater 31 = .ok (.getfield 10, 3) := by decide +kernel
theorem dX4_setWater_34 : decode cX4_setWater 34 = .ok (.getfield 51, 3) := by decide +kernel
theorem dX4_setWater_37 : decode cX4_setWater 37 = .ok (.iload_n 1, 1) := by decide +kernel
theorem dX4_setWater_38 : decode cX4_setWater 38 = .ok (.iload_n 2, 1) := by decide +kernel
theorem dX4_setWater_39 : decode cX4_setWater 39 = .ok (.iastore, 1) := by decide +kernel
theorem dX4_setWater_40 : decode cX4_setWater 40 = .ok (.aload_n 0, 1) := by decide +kernel
theorem dX4_setWater_41 : decode cX4_setWater 41 = .ok (.getfield 10, 3) := by decide +kernel
theorem dX4_setWater_44 : decode cX4_setWater 44 = .ok (.getfield 55, 3) := by decide +kernel
theorem dX4_setWater_47 : decode cX4_setWater 47 = .ok (.iload_n 1, 1) := by decide +kernel
theorem dX4_setWater_48 : decode cX4_setWater 48 = .ok (.iload_n 3, 1) := by decide +kernel
theorem dX4_setWater_49 : decode cX4_setWater 49 = .ok (.iastore, 1) := by decide +kernel
theorem dX4_setWater_50 : decode cX4_setWater 50 = .ok (.iload 4, 2) := by decide +kernel
theorem dX4_setWater_52 : decode cX4_setWater 52 = .ok (.ireturn, 1) := by decide +kernel
set_option maxRecDepth 20000 in
theorem ggX4_addCanoe_X4_needRange : GoodIn wsX4_addCanoe wsX4_needRange := goodIn_ca (goodIn_r _ [6, 7, 8] (by decide +kernel) (by decide +kernel)) (goodIn_sub (fun _ h => List.mem_cons_of_mem _ (List.mem_append_left _ (List.mem_append_right _ h))) (by decide +kernel))
set_option maxRecDepth 20000 in
theorem gX4_addCanoe_X4_needRange : GoodIn wsX4_addCanoe (va_wsS RX4 28 yX4_needRange wsX4_needRange) := goodIn_app (goodIn_of _ (by decide +kernel)) ggX4_addCanoe_X4_needRange
set_option maxRecDepth 20000 in
theorem ggX4_addCanoe_X4_needState : GoodIn wsX4_addCanoe wsX4_needState := goodIn_ca (goodIn_r _ [11, 12, 13] (by decide +kernel) (by decide +kernel)) (goodIn_sub (fun _ h => List.mem_cons_of_mem _ (List.mem_append_right _ h)) (by decide +kernel))
set_option maxRecDepth 20000 in
theorem gX4_addCanoe_X4_needState : GoodIn wsX4_addCanoe (va_wsS RX4 36 yX4_needState wsX4_needState) := goodIn_app (goodIn_of _ (by decide +kernel)) ggX4_addCanoe_X4_needState
set_option maxRecDepth 20000 in
theorem ggX4_addCanoe_X1_launch : GoodIn wsX4_addCanoe wsX1_launch := goodIn_r _ [18, 19, 20, 21, 22, 26, 27, 28, 29, 30, 31, 32, 33, 34, 35, 36, 37, 38, 39, 40, 41, 42, 43, 44, 45, 46, 47, 48, 49, 50, 51] (by decide +kernel) (by decide +kernel)
set_option maxRecDepth 20000 in
theorem gX4_addCanoe_X1_launch : GoodIn wsX4_addCanoe (wsV RX4 61 RX1 yX1_launch wsX1_launch) := goodIn_app (goodIn_of _ (by decide +kernel)) ggX4_addCanoe_X1_launch
theorem dX4_addCanoe_0 : decode cX4_addCanoe 0 = .ok (.iload_n 1, 1) := by decide +kernel
theorem dX4_addCanoe_1 : decode cX4_addCanoe 1 = .ok (.iconst 0, 1) := by decide +kernel
theorem dX4_addCanoe_2 : decode cX4_addCanoe 2 = .ok (.sipush 500, 3) := by decide +kernel
theorem dX4_addCanoe_5 : decode cX4_addCanoe 5 = .ok (.invokestatic 28, 3) := by decide +kernel
theorem dX4_addCanoe_8 : decode cX4_addCanoe 8 = .ok (.iload_n 2, 1) := by decide +kernel
theorem dX4_addCanoe_9 : decode cX4_addCanoe 9 = .ok (.iconst 0, 1) := by decide +kernel
theorem dX4_addCanoe_10 : decode cX4_addCanoe 10 = .ok (.bipush 9, 2) := by decide +kernel
theorem dX4_addCanoe_12 : decode cX4_addCanoe 12 = .ok (.invokestatic 28, 3) := by decide +kernel
theorem dX4_addCanoe_15 : decode cX4_addCanoe 15 = .ok (.aload_n 0, 1) := by decide +kernel
theorem dX4_addCanoe_16 : decode cX4_addCanoe 16 = .ok (.getfield 21, 3) := by decide +kernel
theorem dX4_addCanoe_19 : decode cX4_addCanoe 19 = .ok (.getfield 58, 3) := by decide +kernel
theorem dX4_addCanoe_22 : decode cX4_addCanoe 22 = .ok (.bipush 14, 2) := by decide +kernel
theorem dX4_addCanoe_24 : decode cX4_addCanoe 24 = .ok (.if_icmp .ge 7, 3) := by decide +kernel
theorem dX4_addCanoe_27 : decode cX4_addCanoe 27 = .ok (.iconst 1, 1) := by decide +kernel
theorem dX4_addCanoe_28 : decode cX4_addCanoe 28 = .ok (.goto 4, 3) := by decide +kernel
theorem dX4_addCanoe_31 : decode cX4_addCanoe 31 = .ok (.iconst 0, 1) := by decide +kernel
theorem dX4_addCanoe_32 : decode cX4_addCanoe 32 = .ok (.invokestatic 36, 3) := by decide +kernel
theorem dX4_addCanoe_35 : decode cX4_addCanoe 35 = .ok (.aload_n 0, 1) := by decide +kernel
theorem dX4_addCanoe_36 : decode cX4_addCanoe 36 = .ok (.getfield 21, 3) := by decide +kernel
theorem dX4_addCanoe_39 : decode cX4_addCanoe 39 = .ok (.iload_n 1, 1) := by decide +kernel
theorem dX4_addCanoe_40 : decode cX4_addCanoe 40 = .ok (.iload_n 2, 1) := by decide +kernel
theorem dX4_addCanoe_41 : decode cX4_addCanoe 41 = .ok (.invokevirtual 61, 3) := by decide +kernel
theorem dX4_addCanoe_44 : decode cX4_addCanoe 44 = .ok (.ireturn, 1) := by decide +kernel
set_option maxRecDepth 20000 in
theorem ggX4_load_X4_needIndex : GoodIn wsX4_load wsX4_needIndex := goodIn_ca (goodIn_r _ [9, 10, 11] (by decide +kernel) (by decide +kernel)) (goodIn_sub (fun _ h => List.mem_cons_of_mem _ (List.mem_append_left _ (List.mem_append_left _ (List.mem_append_right _ h)))) (by decide +kernel))
set_option maxRecDepth 20000 in
theorem gX4_load_X4_needIndex : GoodIn wsX4_load (va_wsS RX4 44 yX4_needIndex wsX4_needIndex) := goodIn_app (goodIn_of _ (by decide +kernel)) ggX4_load_X4_needIndex
set_option maxRecDepth 20000 in
theorem ggX4_load_X4_needRange : GoodIn wsX4_load wsX4_needRange := goodIn_ca (goodIn_r _ [14, 15, 16] (by decide +kernel) (by decide +kernel)) (goodIn_sub (fun _ h => List.mem_cons_of_mem _ (List.mem_append_left _ (List.mem_append_right _ h))) (by decide +kernel))
set_option maxRecDepth 20000 in
theorem gX4_load_X4_needRange : GoodIn wsX4_load (va_wsS RX4 28 yX4_needRange wsX4_needRange) := goodIn_app (goodIn_of _ (by decide +kernel)) ggX4_load_X4_needRange
set_option maxRecDepth 20000 in
theorem ggX4_load_X4_needState : GoodIn wsX4_load wsX4_needState := goodIn_ca (goodIn_r _ [19, 20, 21] (by decide +kernel) (by decide +kernel)) (goodIn_sub (fun _ h => List.mem_cons_of_mem _ (List.mem_append_right _ h)) (by decide +kernel))
set_option maxRecDepth 20000 in
theorem gX4_load_X4_needState : GoodIn wsX4_load (va_wsS RX4 36 yX4_needState wsX4_needState) := goodIn_app (goodIn_of _ (by decide +kernel)) ggX4_load_X4_needState
theorem dX4_load_0 : decode cX4_load 0 = .ok (.iload_n 1, 1) := by decide +kernel
theorem dX4_load_1 : decode cX4_load 1 = .ok (.aload_n 0, 1) := by decide +kernel
theorem dX4_load_2 : decode cX4_load 2 = .ok (.getfield 21, 3) := by decide +kernel
theorem dX4_load_5 : decode cX4_load 5 = .ok (.getfield 58, 3) := by decide +kernel
theorem dX4_load_8 : decode cX4_load 8 = .ok (.invokestatic 44, 3) := by decide +kernel
theorem dX4_load_11 : decode cX4_load 11 = .ok (.iload_n 2, 1) := by decide +kernel
theorem dX4_load_12 : decode cX4_load 12 = .ok (.iconst 4, 1) := by decide +kernel
theorem dX4_load_13 : decode cX4_load 13 = .ok (.invokestatic 44, 3) := by decide +kernel
theorem dX4_load_16 : decode cX4_load 16 = .ok (.iload_n 3, 1) := by decide +kernel
theorem dX4_load_17 : decode cX4_load 17 = .ok (.iconst 1, 1) := by decide +kernel
theorem dX4_load_18 : decode cX4_load 18 = .ok (.bipush 40, 2) := by decide +kernel
theorem dX4_load_20 : decode cX4_load 20 = .ok (.invokestatic 28, 3) := by decide +kernel
theorem dX4_load_23 : decode cX4_load 23 = .ok (.aload_n 0, 1) := by decide +kernel
theorem dX4_load_24 : decode cX4_load 24 = .ok (.getfield 21, 3) := by decide +kernel
theorem dX4_load_27 : decode cX4_load 27 = .ok (.getfield 65, 3) := by decide +kernel
theorem dX4_load_30 : decode cX4_load 30 = .ok (.iload_n 1, 1) := by decide +kernel
theorem dX4_load_31 : decode cX4_load 31 = .ok (.aaload, 1) := by decide +kernel
theorem dX4_load_32 : decode cX4_load 32 = .ok (.astore 4, 2) := by decide +kernel
theorem dX4_load_34 : decode cX4_load 34 = .ok (.aload 4, 2) := by decide +kernel
theorem dX4_load_36 : decode cX4_load 36 = .ok (.getfield 69, 3) := by decide +kernel
theorem dX4_load_39 : decode cX4_load 39 = .ok (.iconst 2, 1) := by decide +kernel
theorem dX4_load_40 : decode cX4_load 40 = .ok (.if_icmp .eq 21, 3) := by decide +kernel
theorem dX4_load_43 : decode cX4_load 43 = .ok (.aload 4, 2) := by decide +kernel
theorem dX4_load_45 : decode cX4_load 45 = .ok (.getfield 74, 3) := by decide +kernel
theorem dX4_load_48 : decode cX4_load 48 = .ok (.iload_n 2, 1) := by decide +kernel
theorem dX4_load_49 : decode cX4_load 49 = .ok (.iaload, 1) := by decide +kernel
theorem dX4_load_50 : decode cX4_load 50 = .ok (.iload_n 3, 1) := by decide +kernel
theorem dX4_load_51 : decode cX4_load 51 = .ok (.iadd, 1) := by decide +kernel
theorem dX4_load_52 : decode cX4_load 52 = .ok (.bipush 100, 2) := by decide +kernel
theorem dX4_load_54 : decode cX4_load 54 = .ok (.if_icmp .gt 7, 3) := by decide +kernel
theorem dX4_load_57 : decode cX4_load 57 = .ok (.iconst 1, 1) := by decide +kernel
theorem dX4_load_58 : decode cX4_load 58 = .ok (.goto 4, 3) := by decide +kernel
theorem dX4_load_61 : decode cX4_load 61 = .ok (.iconst 0, 1) := by decide +kernel
theorem dX4_load_62 : decode cX4_load 62 = .ok (.invokestatic 36, 3) := by decide +kernel
theorem dX4_load_65 : decode cX4_load 65 = .ok (.aload 4, 2) := by decide +kernel
theorem dX4_load_67 : decode cX4_load 67 = .ok (.getfield 74, 3) := by decide +kernel
theorem dX4_load_70 : decode cX4_load 70 = .ok (.iload_n 2, 1) := by decide +kernel
theorem dX4_load_71 : decode cX4_load 71 = .ok (.dup2, 1) := by decide +kernel
theorem dX4_load_72 : decode cX4_load 72 = .ok (.iaload, 1) := by decide +kernel
theorem dX4_load_73 : decode cX4_load 73 = .ok (.iload_n 3, 1) := by decide +kernel
theorem dX4_load_74 : decode cX4_load 74 = .ok (.iadd, 1) := by decide +kernel
theorem dX4_load_75 : decode cX4_load 75 = .ok (.iastore, 1) := by decide +kernel
theorem dX4_load_76 : decode cX4_load 76 = .ok (.aload 4, 2) := by decide +kernel
theorem dX4_load_78 : decode cX4_load 78 = .ok (.getfield 74, 3) := by decide +kernel
theorem dX4_load_81 : decode cX4_load 81 = .ok (.iload_n 2, 1) := by decide +kernel
theorem dX4_load_82 : decode cX4_load 82 = .ok (.iaload, 1) := by decide +kernel
theorem dX4_load_83 : decode cX4_load 83 = .ok (.ireturn, 1) := by decide +kernel
set_option maxRecDepth 20000 in
theorem ggX4_offer_X4_needIndex : GoodIn wsX4_offer wsX4_needIndex := goodIn_ca (goodIn_r _ [10, 11, 12] (by decide +kernel) (by decide +kernel)) (goodIn_sub (fun _ h => List.mem_cons_of_mem _ (List.mem_append_left _ (List.mem_append_right _ h))) (by decide +kernel))
set_option maxRecDepth 20000 in
theorem gX4_offer_X4_needIndex : GoodIn wsX4_offer (va_wsS RX4 44 yX4_needIndex wsX4_needIndex) := goodIn_app (goodIn_of _ (by decide +kernel)) ggX4_offer_X4_needIndex
set_option maxRecDepth 20000 in
theorem ggX4_offer_X4_needRange : GoodIn wsX4_offer wsX4_needRange := goodIn_ca (goodIn_r _ [15, 16, 17] (by decide +kernel) (by decide +kernel)) (goodIn_sub (fun _ h => List.mem_cons_of_mem _ (List.mem_append_right _ h)) (by decide +kernel))
set_option maxRecDepth 20000 in
theorem gX4_offer_X4_needRange : GoodIn wsX4_offer (va_wsS RX4 28 yX4_needRange wsX4_needRange) := goodIn_app (goodIn_of _ (by decide +kernel)) ggX4_offer_X4_needRange
set_option maxRecDepth 20000 in
theorem ggX4_offer_X0_misses : GoodIn wsX4_offer wsX0_misses := goodIn_r _ [22, 23, 24, 25, 26, 27, 28, 42, 43, 44, 45, 46, 47, 48, 49, 50, 51, 52, 53, 54, 55, 56, 57] (by decide +kernel) (by decide +kernel)
set_option maxRecDepth 20000 in
theorem gX4_offer_X0_misses : GoodIn wsX4_offer (wsV RX4 86 RX0 yX0_misses wsX0_misses) := goodIn_app (goodIn_of _ (by decide +kernel)) ggX4_offer_X0_misses
theorem dX4_offer_0 : decode cX4_offer 0 = .ok (.iload_n 1, 1) := by decide +kernel
theorem dX4_offer_1 : decode cX4_offer 1 = .ok (.aload_n 0, 1) := by decide +kernel
theorem dX4_offer_2 : decode cX4_offer 2 = .ok (.getfield 21, 3) := by decide +kernel
theorem dX4_offer_5 : decode cX4_offer 5 = .ok (.getfield 58, 3) := by decide +kernel
theorem dX4_offer_8 : decode cX4_offer 8 = .ok (.invokestatic 44, 3) := by decide +kernel
theorem dX4_offer_11 : decode cX4_offer 11 = .ok (.iload_n 2, 1) := by decide +kernel
theorem dX4_offer_12 : decode cX4_offer 12 = .ok (.iconst 4, 1) := by decide +kernel
theorem dX4_offer_13 : decode cX4_offer 13 = .ok (.invokestatic 44, 3) := by decide +kernel
theorem dX4_offer_16 : decode cX4_offer 16 = .ok (.iload_n 3, 1) := by decide +kernel
theorem dX4_offer_17 : decode cX4_offer 17 = .ok (.iconst 0, 1) := by decide +kernel
theorem dX4_offer_18 : decode cX4_offer 18 = .ok (.bipush 20, 2) := by decide +kernel
theorem dX4_offer_20 : decode cX4_offer 20 = .ok (.invokestatic 28, 3) := by decide +kernel
theorem dX4_offer_23 : decode cX4_offer 23 = .ok (.iload 5, 2) := by decide +kernel
theorem dX4_offer_25 : decode cX4_offer 25 = .ok (.iconst 0, 1) := by decide +kernel
theorem dX4_offer_26 : decode cX4_offer 26 = .ok (.bipush 20, 2) := by decide +kernel
theorem dX4_offer_28 : decode cX4_offer 28 = .ok (.invokestatic 28, 3) := by decide +kernel
theorem dX4_offer_31 : decode cX4_offer 31 = .ok (.iload 4, 2) := by decide +kernel
theorem dX4_offer_33 : decode cX4_offer 33 = .ok (.iconst 0, 1) := by decide +kernel
theorem dX4_offer_34 : decode cX4_offer 34 = .ok (.bipush 40, 2) := by decide +kernel
theorem dX4_offer_36 : decode cX4_offer 36 = .ok (.invokestatic 28, 3) := by decide +kernel
theorem dX4_offer_39 : decode cX4_offer 39 = .ok (.aload_n 0, 1) := by decide +kernel
theorem dX4_offer_40 : decode cX4_offer 40 = .ok (.getfield 21, 3) := by decide +kernel
theorem dX4_offer_43 : decode cX4_offer 43 = .ok (.getfield 65, 3) := by decide +kernel
theorem dX4_offer_46 : decode cX4_offer 46 = .ok (.iload_n 1, 1) := by decide +kernel
theorem dX4_offer_47 : decode cX4_offer 47 = .ok (.aaload, 1) := by decide +kernel
theorem dX4_offer_48 : decode cX4_offer 48 = .ok (.astore 6, 2) := by decide +kernel
theorem dX4_offer_50 : decode cX4_offer 50 = .ok (.aload 6, 2) := by decide +kernel
theorem dX4_offer_52 : decode cX4_offer 52 = .ok (.getfield 77, 3) := by decide +kernel
theorem dX4_offer_55 : decode cX4_offer 55 = .ok (.iload_n 2, 1) := by decide +kernel
theorem dX4_offer_56 : decode cX4_offer 56 = .ok (.iload_n 3, 1) := by decide +kernel
theorem dX4_offer_57 : decode cX4_offer 57 = .ok (.iastore, 1) := by decide +kernel
theorem dX4_offer_58 : decode cX4_offer 58 = .ok (.aload 6, 2) := by decide +kernel
theorem dX4_offer_60 : decode cX4_offer 60 = .ok (.getfield 80, 3) := by decide +kernel
theorem dX4_offer_63 : decode cX4_offer 63 = .ok (.iload_n 2, 1) := by decide +kernel
theorem dX4_offer_64 : decode cX4_offer 64 = .ok (.iload 4, 2) := by decide +kernel
theorem dX4_offer_66 : decode cX4_offer 66 = .ok (.iastore, 1) := by decide +kernel
theorem dX4_offer_67 : decode cX4_offer 67 = .ok (.aload 6, 2) := by decide +kernel
theorem dX4_offer_69 : decode cX4_offer 69 = .ok (.getfield 83, 3) := by decide +kernel
theorem dX4_offer_72 : decode cX4_offer 72 = .ok (.iload_n 2, 1) := by decide +kernel
theorem dX4_offer_73 : decode cX4_offer 73 = .ok (.iload 5, 2) := by decide +kernel
theorem dX4_offer_75 : decode cX4_offer 75 = .ok (.iastore, 1) := by decide +kernel
theorem dX4_offer_76 : decode cX4_offer 76 = .ok (.aload 6, 2) := by decide +kernel
theorem dX4_offer_78 : decode cX4_offer 78 = .ok (.iload_n 2, 1) := by decide +kernel
theorem dX4_offer_79 : decode cX4_offer 79 = .ok (.invokevirtual 86, 3) := by decide +kernel
theorem dX4_offer_82 : decode cX4_offer 82 = .ok (.ireturn, 1) := by decide +kernel
set_option maxRecDepth 20000 in
theorem ggX4_moor_X4_needIndex : GoodIn wsX4_moor wsX4_needIndex := goodIn_ca (goodIn_r _ [11, 12, 13] (by decide +kernel) (by decide +kernel)) (goodIn_sub (fun _ h => List.mem_cons_of_mem _ (List.mem_append_left _ (List.mem_append_right _ h))) (by decide +kernel))
set_option maxRecDepth 20000 in
theorem gX4_moor_X4_needIndex : GoodIn wsX4_moor (va_wsS RX4 44 yX4_needIndex wsX4_needIndex) := goodIn_app (goodIn_of _ (by decide +kernel)) ggX4_moor_X4_needIndex
set_option maxRecDepth 20000 in
theorem ggX4_moor_X2_isFull : GoodIn wsX4_moor wsX2_isFull := goodIn_r _ [18, 19, 20, 71, 72, 73] (by decide +kernel) (by decide +kernel)
set_option maxRecDepth 20000 in
theorem gX4_moor_X2_isFull : GoodIn wsX4_moor (wsV RX4 93 RX2 yX2_isFull wsX2_isFull) := goodIn_app (goodIn_of _ (by decide +kernel)) ggX4_moor_X2_isFull
set_option maxRecDepth 20000 in
theorem ggX4_moor_X4_needState : GoodIn wsX4_moor wsX4_needState := goodIn_ca (goodIn_r _ [23, 24, 25] (by decide +kernel) (by decide +kernel)) (goodIn_sub (fun _ h => List.mem_cons_of_mem _ (List.mem_append_right _ h)) (by decide +kernel))
set_option maxRecDepth 20000 in
theorem gX4_moor_X4_needState : GoodIn wsX4_moor (va_wsS RX4 36 yX4_needState wsX4_needState) := goodIn_app (goodIn_of _ (by decide +kernel)) ggX4_moor_X4_needState
set_option maxRecDepth 20000 in
theorem ggX4_moor_X1_fasten : GoodIn wsX4_moor wsX1_fasten := goodIn_r _ [30, 31, 32, 33, 34, 35, 36, 37, 38, 39, 17, 40, 19, 20, 41, 55, 56, 57, 58, 59, 60, 61, 62, 63, 64, 65, 66, 67, 68, 69, 70, 45, 46, 47, 48, 49, 50, 51, 52, 53, 54, 71, 72, 73] (by decide +kernel) (by decide +kernel)
set_option maxRecDepth 20000 in
theorem gX4_moor_X1_fasten : GoodIn wsX4_moor (wsV RX4 99 RX1 yX1_fasten wsX1_fasten) := goodIn_app (goodIn_of _ (by decide +kernel)) ggX4_moor_X1_fasten
theorem dX4_moor_0 : decode cX4_moor 0 = .ok (.iload_n 1, 1) := by decide +kernel
theorem dX4_moor_1 : decode cX4_moor 1 = .ok (.aload_n 0, 1) := by decide +kernel
theorem dX4_moor_2 : decode cX4_moor 2 = .ok (.getfield 21, 3) := by decide +kernel
theorem dX4_moor_5 : decode cX4_moor 5 = .ok (.getfield 58, 3) := by decide +kernel
theorem dX4_moor_8 : decode cX4_moor 8 = .ok (.invokestatic 44, 3) := by decide +kernel
theorem dX4_moor_11 : decode cX4_moor 11 = .ok (.iload_n 2, 1) := by decide +kernel
theorem dX4_moor_12 : decode cX4_moor 12 = .ok (.aload_n 0, 1) := by decide +kernel
theorem dX4_moor_13 : decode cX4_moor 13 = .ok (.getfield 21, 3) := by decide +kernel
theorem dX4_moor_16 : decode cX4_moor 16 = .ok (.getfield 32, 3) := by decide +kernel
theorem dX4_moor_19 : decode cX4_moor 19 = .ok (.invokestatic 44, 3) := by decide +kernel
theorem dX4_moor_22 : decode cX4_moor 22 = .ok (.aload_n 0, 1) := by decide +kernel
theorem dX4_moor_23 : decode cX4_moor 23 = .ok (.getfield 21, 3) := by decide +kernel
theorem dX4_moor_26 : decode cX4_moor 26 = .ok (.getfield 65, 3) := by decide +kernel
theorem dX4_moor_29 : decode cX4_moor 29 = .ok (.iload_n 1, 1) := by decide +kernel
theorem dX4_moor_30 : decode cX4_moor 30 = .ok (.aaload, 1) := by decide +kernel
theorem dX4_moor_31 : decode cX4_moor 31 = .ok (.astore_n 3, 1) := by decide +kernel
theorem dX4_moor_32 : decode cX4_moor 32 = .ok (.aload_n 3, 1) := by decide +kernel
theorem dX4_moor_33 : decode cX4_moor 33 = .ok (.getfield 69, 3) := by decide +kernel
theorem dX4_moor_36 : decode cX4_moor 36 = .ok (.ifCond .ne 22, 3) := by decide +kernel
theorem dX4_moor_39 : decode cX4_moor 39 = .ok (.aload_n 0, 1) := by decide +kernel
theorem dX4_moor_40 : decode cX4_moor 40 = .ok (.getfield 21, 3) := by decide +kernel
theorem dX4_moor_43 : decode cX4_moor 43 = .ok (.getfield 89, 3) := by decide +kernel
theorem dX4_moor_46 : decode cX4_moor 46 = .ok (.iload_n 2, 1) := by decide +kernel
theorem dX4_moor_47 : decode cX4_moor 47 = .ok (.aaload, 1) := by decide +kernel
theorem dX4_moor_48 : decode cX4_moor 48 = .ok (.invokevirtual 93, 3) := by decide +kernel
theorem dX4_moor_51 : decode cX4_moor 51 = .ok (.ifCond .ne 7, 3) := by decide +kernel
theorem dX4_moor_54 : decode cX4_moor 54 = .ok (.iconst 1, 1) := by decide +kernel
theorem dX4_moor_55 : decode cX4_moor 55 = .ok (.goto 4, 3) := by decide +kernel
theorem dX4_moor_58 : decode cX4_moor 58 = .ok (.iconst 0, 1) := by decide +kernel
theorem dX4_moor_59 : decode cX4_moor 59 = .ok (.invokestatic 36, 3) := by decide +kernel
theorem dX4_moor_62 : decode cX4_moor 62 = .ok (.aload_n 0, 1) := by decide +kernel
theorem dX4_moor_63 : decode cX4_moor 63 = .ok (.getfield 21, 3) := by decide +kernel
theorem dX4_moor_66 : decode cX4_moor 66 = .ok (.aload_n 3, 1) := by decide +kernel
theorem dX4_moor_67 : decode cX4_moor 67 = .ok (.iload_n 2, 1) := by decide +kernel
theorem dX4_moor_68 : decode cX4_moor 68 = .ok (.invokevirtual 99, 3) := by decide +kernel
theorem dX4_moor_71 : decode cX4_moor 71 = .ok (.aload_n 3, 1) := by decide +kernel
theorem dX4_moor_72 : decode cX4_moor 72 = .ok (.getfield 103, 3) := by decide +kernel
theorem dX4_moor_75 : decode cX4_moor 75 = .ok (.ireturn, 1) := by decide +kernel
set_option maxRecDepth 20000 in
theorem ggX4_castOff_X4_needIndex : GoodIn wsX4_castOff wsX4_needIndex := goodIn_ca (goodIn_r _ [8, 9, 10] (by decide +kernel) (by decide +kernel)) (goodIn_sub (fun _ h => List.mem_cons_of_mem _ (List.mem_append_left _ (List.mem_append_right _ h))) (by decide +kernel))
set_option maxRecDepth 20000 in
theorem gX4_castOff_X4_needIndex : GoodIn wsX4_castOff (va_wsS RX4 44 yX4_needIndex wsX4_needIndex) := goodIn_app (goodIn_of _ (by decide +kernel)) ggX4_castOff_X4_needIndex
set_option maxRecDepth 20000 in
theorem ggX4_castOff_X1_liesDry : GoodIn wsX4_castOff wsX1_liesDry := goodIn_r _ [15, 16, 17, 18, 19, 20, 21, 22, 23, 24, 25, 26, 27, 28, 29, 66, 67, 68, 69, 70, 71, 72, 73, 74, 75, 76, 77, 78, 79, 80, 81, 56, 57, 58, 59, 60, 61, 62, 63, 64, 65, 82, 83] (by decide +kernel) (by decide +kernel)
set_option maxRecDepth 20000 in
theorem gX4_castOff_X1_liesDry : GoodIn wsX4_castOff (wsV RX4 106 RX1 yX1_liesDry wsX1_liesDry) := goodIn_app (goodIn_of _ (by decide +kernel)) ggX4_castOff_X1_liesDry
end
section
/-! THE WORLD. A thing is named by (kind, m, k); its address is G.1 kind m k; G.2: the array classes (0 int, 1 boolean, 2 long, 3 Row, 4 Canoe).
All numbers that change lie in columns: σ column m k j (an array's column is its kind; an object's int fields have columns of their own, at j = 0). -/
abbrev fmG : Type := (Nat → Nat → Nat → Nat) × (Nat → ClassId)
abbrev fmS : Type := Nat → Nat → Nat → Nat → Int32
abbrev fmI : Type := Nat × Nat × Nat
def fmT (G : fmG) : List (ClassId × FieldType) := [(G.2 0, .int), (G.2 1, .boolean), (G.2 2, .long), (G.2 3, .object RX2), (G.2 4, .object RX0)]
/-- the only change: one column's array (or field, at 0) becomes f -/
def fmu (σ : fmS) (c m k : Nat) (f : Nat → Int32) : fmS := fun c' m' k' j' => if c' = c ∧ m' = m ∧ k' = k then f j' else σ c' m' k' j'
theorem fmu_get (σ : fmS) (c m k : Nat) (f : Nat → Int32) (c' m' k' j' : Nat) : fmu σ c m k f c' m' k' j' = if c' = c ∧ m' = m ∧ k' = k then f j' else σ c' m' k' j' := rfl
theorem fmu_self (σ : fmS) (c m k : Nat) (f : Nat → Int32) : fmu σ c m k f c m k = f := by funext j; simp [fmu]
theorem fmu_ne (σ : fmS) (c m k : Nat) (f : Nat → Int32) {c' m' k' : Nat} (h : ¬ (c' = c ∧ m' = m ∧ k' = k)) : fmu σ c m k f c' m' k' = σ c' m' k' := by funext j; simp only [fmu, if_neg h]
/-- a scalar field becomes x -/
abbrev fms (σ : fmS) (c m k : Nat) (x : Int32) : fmS := fmu σ c m k (fun _ => x)
/-- which kind owns a column -/
def fmO (c : Nat) : Nat := if c < 40 then c else if c < 47 then 4 else if c < 49 then 7 else if c < 61 then 9 else if c < 64 then 14 else 23

/-- the cell of each kind -/
def fmC_0 (G : fmG) (σ : fmS) (o : Nat → Int64) (m k : Nat) : va_E := .inr (4, [.ref (G.1 1 0 0), .ref (G.1 4 0 0), .ref (G.1 4 1 0)])
def fmC_1 (G : fmG) (σ : fmS) (o : Nat → Int64) (m k : Nat) : va_E := .inr (3, [.ref (G.1 2 0 0), .ref (G.1 3 0 0)])
def fmC_2 (G : fmG) (σ : fmS) (o : Nat → Int64) (m k : Nat) : va_E := .inl (G.2 0, 24, .inl (σ 2 m k))
def fmC_3 (G : fmG) (σ : fmS) (o : Nat → Int64) (m k : Nat) : va_E := .inl (G.2 0, 24, .inl (σ 3 m k))
def fmC_4 (G : fmG) (σ : fmS) (o : Nat → Int64) (m k : Nat) : va_E := .inr (1, [.ref (G.1 1 0 0), .ref (G.1 5 m 0), .ref (G.1 6 m 0), .int (σ 40 m k 0), .int (σ 41 m k 0), .int (σ 42 m k 0), .int (σ 43 m k 0), .int (σ 44 m k 0), .int (σ 45 m k 0), .int (σ 46 m k 0)])
def fmC_5 (G : fmG) (σ : fmS) (o : Nat → Int64) (m k : Nat) : va_E := .inl (G.2 3, 4, .inr (.inr (.inr (.inr (fun j => some (G.1 7 m j))))))
def fmC_6 (G : fmG) (σ : fmS) (o : Nat → Int64) (m k : Nat) : va_E := .inl (G.2 4, 14, .inr (.inr (.inr (.inr (fun j => some (G.1 9 m j))))))
def fmC_7 (G : fmG) (σ : fmS) (o : Nat → Int64) (m k : Nat) : va_E := .inr (2, [.ref (G.1 8 m k), .int (σ 47 m k 0), .int (σ 48 m k 0)])
def fmC_8 (G : fmG) (σ : fmS) (o : Nat → Int64) (m k : Nat) : va_E := .inl (G.2 0, 6, .inl (σ 8 m k))
def fmC_9 (G : fmG) (σ : fmS) (o : Nat → Int64) (m k : Nat) : va_E := .inr (0, [.int (nI k), .ref (G.1 10 m k), .ref (G.1 11 m k), .ref (G.1 12 m k), .ref (G.1 13 m k), .int (σ 50 m k 0), .int (σ 51 m k 0), .int (σ 52 m k 0), .int (σ 53 m k 0), .int (σ 54 m k 0), .int (σ 55 m k 0), .int (σ 56 m k 0), .int (σ 57 m k 0), .int (σ 58 m k 0), .int (σ 59 m k 0), .int (σ 60 m k 0)])
def fmC_10 (G : fmG) (σ : fmS) (o : Nat → Int64) (m k : Nat) : va_E := .inl (G.2 0, 4, .inl (σ 10 m k))
def fmC_11 (G : fmG) (σ : fmS) (o : Nat → Int64) (m k : Nat) : va_E := .inl (G.2 0, 4, .inl (σ 11 m k))
def fmC_12 (G : fmG) (σ : fmS) (o : Nat → Int64) (m k : Nat) : va_E := .inl (G.2 0, 4, .inl (σ 12 m k))
def fmC_13 (G : fmG) (σ : fmS) (o : Nat → Int64) (m k : Nat) : va_E := .inl (G.2 0, 4, .inl (σ 13 m k))
def fmC_14 (G : fmG) (σ : fmS) (o : Nat → Int64) (m k : Nat) : va_E := .inr (6, [.int (σ 61 m k 0), .int (σ 62 m k 0), .ref (G.1 15 0 0), .ref (G.1 16 0 0), .ref (G.1 17 0 0), .int (σ 63 m k 0), .ref (G.1 18 0 0), .ref (G.1 19 0 0), .ref (G.1 20 0 0), .ref (G.1 21 0 0), .ref (G.1 23 0 0), .ref (G.1 23 1 0), .ref (G.1 22 0 0)])
def fmC_15 (G : fmG) (σ : fmS) (o : Nat → Int64) (m k : Nat) : va_E := .inl (G.2 0, 4, .inl (σ 15 m k))
def fmC_16 (G : fmG) (σ : fmS) (o : Nat → Int64) (m k : Nat) : va_E := .inl (G.2 0, 24, .inl (σ 16 m k))
def fmC_17 (G : fmG) (σ : fmS) (o : Nat → Int64) (m k : Nat) : va_E := .inl (G.2 0, 24, .inl (σ 17 m k))
def fmC_18 (G : fmG) (σ : fmS) (o : Nat → Int64) (m k : Nat) : va_E := .inl (G.2 0, 14, .inl (σ 18 m k))
def fmC_19 (G : fmG) (σ : fmS) (o : Nat → Int64) (m k : Nat) : va_E := .inl (G.2 0, 56, .inl (σ 19 m k))
def fmC_20 (G : fmG) (σ : fmS) (o : Nat → Int64) (m k : Nat) : va_E := .inl (G.2 0, 56, .inl (σ 20 m k))
def fmC_21 (G : fmG) (σ : fmS) (o : Nat → Int64) (m k : Nat) : va_E := .inl (G.2 0, 56, .inl (σ 21 m k))
def fmC_22 (G : fmG) (σ : fmS) (o : Nat → Int64) (m k : Nat) : va_E := .inl (G.2 1, 14, .inl (σ 22 m k))
def fmC_23 (G : fmG) (σ : fmS) (o : Nat → Int64) (m k : Nat) : va_E := .inr (5, [.int (σ 64 m k 0), .int (σ 65 m k 0), .int (σ 66 m k 0), .ref (G.1 24 m 0), .ref (G.1 25 m 0), .ref (G.1 26 m 0), .ref (G.1 27 m 0), .ref (G.1 28 m 0), .ref (G.1 29 m 0), .ref (G.1 30 m 0), .ref (G.1 31 m 0), .ref (G.1 32 m 0), .ref (G.1 33 m 0), .ref (G.1 14 0 0)])
def fmC_24 (G : fmG) (σ : fmS) (o : Nat → Int64) (m k : Nat) : va_E := .inl (G.2 0, 14, .inl (σ 24 m k))
def fmC_25 (G : fmG) (σ : fmS) (o : Nat → Int64) (m k : Nat) : va_E := .inl (G.2 0, 56, .inl (σ 25 m k))
def fmC_26 (G : fmG) (σ : fmS) (o : Nat → Int64) (m k : Nat) : va_E := .inl (G.2 0, 14, .inl (σ 26 m k))
def fmC_27 (G : fmG) (σ : fmS) (o : Nat → Int64) (m k : Nat) : va_E := .inl (G.2 0, 14, .inl (σ 27 m k))
def fmC_28 (G : fmG) (σ : fmS) (o : Nat → Int64) (m k : Nat) : va_E := .inl (G.2 0, 14, .inl (σ 28 m k))
def fmC_29 (G : fmG) (σ : fmS) (o : Nat → Int64) (m k : Nat) : va_E := .inl (G.2 0, 14, .inl (σ 29 m k))
def fmC_30 (G : fmG) (σ : fmS) (o : Nat → Int64) (m k : Nat) : va_E := .inl (G.2 0, 14, .inl (σ 30 m k))
def fmC_31 (G : fmG) (σ : fmS) (o : Nat → Int64) (m k : Nat) : va_E := .inl (G.2 0, 14, .inl (σ 31 m k))
def fmC_32 (G : fmG) (σ : fmS) (o : Nat → Int64) (m k : Nat) : va_E := .inl (G.2 0, 14, .inl (σ 32 m k))
def fmC_33 (G : fmG) (σ : fmS) (o : Nat → Int64) (m k : Nat) : va_E := .inl (G.2 0, 14, .inl (σ 33 m k))
def fmC_34 (G : fmG) (σ : fmS) (o : Nat → Int64) (m k : Nat) : va_E := .inl (G.2 2, 1, .inr (.inl o))
def fmC (G : fmG) (σ : fmS) (o : Nat → Int64) (i : fmI) : va_E :=
  if i.1 = 0 then fmC_0 G σ o i.2.1 i.2.2 else if i.1 = 1 then fmC_1 G σ o i.2.1 i.2.2 else if i.1 = 2 then fmC_2 G σ o i.2.1 i.2.2 else if i.1 = 3 then fmC_3 G σ o i.2.1 i.2.2 else if i.1 = 4 then fmC_4 G σ o i.2.1 i.2.2 else if i.1 = 5 then fmC_5 G σ o i.2.1 i.2.2 else if i.1 = 6 then fmC_6 G σ o i.2.1 i.2.2 else if i.1 = 7 then fmC_7 G σ o i.2.1 i.2.2 else if i.1 = 8 then fmC_8 G σ o i.2.1 i.2.2 else if i.1 = 9 then fmC_9 G σ o i.2.1 i.2.2 else if i.1 = 10 then fmC_10 G σ o i.2.1 i.2.2 else if i.1 = 11 then fmC_11 G σ o i.2.1 i.2.2 else if i.1 = 12 then fmC_12 G σ o i.2.1 i.2.2 else if i.1 = 13 then fmC_13 G σ o i.2.1 i.2.2 else if i.1 = 14 then fmC_14 G σ o i.2.1 i.2.2 else if i.1 = 15 then fmC_15 G σ o i.2.1 i.2.2 else if i.1 = 16 then fmC_16 G σ o i.2.1 i.2.2 else if i.1 = 17 then fmC_17 G σ o i.2.1 i.2.2 else if i.1 = 18 then fmC_18 G σ o i.2.1 i.2.2 else if i.1 = 19 then fmC_19 G σ o i.2.1 i.2.2 else if i.1 = 20 then fmC_20 G σ o i.2.1 i.2.2 else if i.1 = 21 then fmC_21 G σ o i.2.1 i.2.2 else if i.1 = 22 then fmC_22 G σ o i.2.1 i.2.2 else if i.1 = 23 then fmC_23 G σ o i.2.1 i.2.2 else if i.1 = 24 then fmC_24 G σ o i.2.1 i.2.2 else if i.1 = 25 then fmC_25 G σ o i.2.1 i.2.2 else if i.1 = 26 then fmC_26 G σ o i.2.1 i.2.2 else if i.1 = 27 then fmC_27 G σ o i.2.1 i.2.2 else if i.1 = 28 then fmC_28 G σ o i.2.1 i.2.2 else if i.1 = 29 then fmC_29 G σ o i.2.1 i.2.2 else if i.1 = 30 then fmC_30 G σ o i.2.1 i.2.2 else if i.1 = 31 then fmC_31 G σ o i.2.1 i.2.2 else if i.1 = 32 then fmC_32 G σ o i.2.1 i.2.2 else if i.1 = 33 then fmC_33 G σ o i.2.1 i.2.2 else fmC_34 G σ o i.2.1 i.2.2
theorem fmC_is_0 (G : fmG) (σ : fmS) (o : Nat → Int64) (m k : Nat) : fmC G σ o (0, m, k) = fmC_0 G σ o m k := rfl
theorem fmC_is_1 (G : fmG) (σ : fmS) (o : Nat → Int64) (m k : Nat) : fmC G σ o (1, m, k) = fmC_1 G σ o m k := rfl
theorem fmC_is_2 (G : fmG) (σ : fmS) (o : Nat → Int64) (m k : Nat) : fmC G σ o (2, m, k) = fmC_2 G σ o m k := rfl
theorem fmC_is_3 (G : fmG) (σ : fmS) (o : Nat → Int64) (m k : Nat) : fmC G σ o (3, m, k) = fmC_3 G σ o m k := rfl
theorem fmC_is_4 (G : fmG) (σ : fmS) (o : Nat → Int64) (m k : Nat) : fmC G σ o (4, m, k) = fmC_4 G σ o m k := rfl
theorem fmC_is_5 (G : fmG) (σ : fmS) (o : Nat → Int64) (m k : Nat) : fmC G σ o (5, m, k) = fmC_5 G σ o m k := rfl
theorem fmC_is_6 (G : fmG) (σ : fmS) (o : Nat → Int64) (m k : Nat) : fmC G σ o (6, m, k) = fmC_6 G σ o m k := rfl
theorem fmC_is_7 (G : fmG) (σ : fmS) (o : Nat → Int64) (m k : Nat) : fmC G σ o (7, m, k) = fmC_7 G σ o m k := rfl
theorem fmC_is_8 (G : fmG) (σ : fmS) (o : Nat → Int64) (m k : Nat) : fmC G σ o (8, m, k) = fmC_8 G σ o m k := rfl
theorem fmC_is_9 (G : fmG) (σ : fmS) (o : Nat → Int64) (m k : Nat) : fmC G σ o (9, m, k) = fmC_9 G σ o m k := rfl
theorem fmC_is_10 (G : fmG) (σ : fmS) (o : Nat → Int64) (m k : Nat) : fmC G σ o (10, m, k) = fmC_10 G σ o m k := rfl
theorem fmC_is_11 (G : fmG) (σ : fmS) (o : Nat → Int64) (m k : Nat) : fmC G σ o (11, m, k) = fmC_11 G σ o m k := rfl
theorem fmC_is_12 (G : fmG) (σ : fmS) (o : Nat → Int64) (m k : Nat) : fmC G σ o (12, m, k) = fmC_12 G σ o m k := rfl
theorem fmC_is_13 (G : fmG) (σ : fmS) (o : Nat → Int64) (m k : Nat) : fmC G σ o (13, m, k) = fmC_13 G σ o m k := rfl
theorem fmC_is_14 (G : fmG) (σ : fmS) (o : Nat → Int64) (m k : Nat) : fmC G σ o (14, m, k) = fmC_14 G σ o m k := rfl
theorem fmC_is_15 (G : fmG) (σ : fmS) (o : Nat → Int64) (m k : Nat) : fmC G σ o (15, m, k) = fmC_15 G σ o m k := rfl
theorem fmC_is_16 (G : fmG) (σ : fmS) (o : Nat → Int64) (m k : Nat) : fmC G σ o (16, m, k) = fmC_16 G σ o m k := rfl
theorem fmC_is_17 (G : fmG) (σ : fmS) (o : Nat → Int64) (m k : Nat) : fmC G σ o (17, m, k) = fmC_17 G σ o m k := rfl
theorem fmC_is_18 (G : fmG) (σ : fmS) (o : Nat → Int64) (m k : Nat) : fmC G σ o (18, m, k) = fmC_18 G σ o m k := rfl
theorem fmC_is_19 (G : fmG) (σ : fmS) (o : Nat → Int64) (m k : Nat) : fmC G σ o (19, m, k) = fmC_19 G σ o m k := rfl
theorem fmC_is_20 (G : fmG) (σ : fmS) (o : Nat → Int64) (m k : Nat) : fmC G σ o (20, m, k) = fmC_20 G σ o m k := rfl
theorem fmC_is_21 (G : fmG) (σ : fmS) (o : Nat → Int64) (m k : Nat) : fmC G σ o (21, m, k) = fmC_21 G σ o m k := rfl
theorem fmC_is_22 (G : fmG) (σ : fmS) (o : Nat → Int64) (m k : Nat) : fmC G σ o (22, m, k) = fmC_22 G σ o m k := rfl
theorem fmC_is_23 (G : fmG) (σ : fmS) (o : Nat → Int64) (m k : Nat) : fmC G σ o (23, m, k) = fmC_23 G σ o m k := rfl
theorem fmC_is_24 (G : fmG) (σ : fmS) (o : Nat → Int64) (m k : Nat) : fmC G σ o (24, m, k) = fmC_24 G σ o m k := rfl
theorem fmC_is_25 (G : fmG) (σ : fmS) (o : Nat → Int64) (m k : Nat) : fmC G σ o (25, m, k) = fmC_25 G σ o m k := rfl
theorem fmC_is_26 (G : fmG) (σ : fmS) (o : Nat → Int64) (m k : Nat) : fmC G σ o (26, m, k) = fmC_26 G σ o m k := rfl
theorem fmC_is_27 (G : fmG) (σ : fmS) (o : Nat → Int64) (m k : Nat) : fmC G σ o (27, m, k) = fmC_27 G σ o m k := rfl
theorem fmC_is_28 (G : fmG) (σ : fmS) (o : Nat → Int64) (m k : Nat) : fmC G σ o (28, m, k) = fmC_28 G σ o m k := rfl
theorem fmC_is_29 (G : fmG) (σ : fmS) (o : Nat → Int64) (m k : Nat) : fmC G σ o (29, m, k) = fmC_29 G σ o m k := rfl
theorem fmC_is_30 (G : fmG) (σ : fmS) (o : Nat → Int64) (m k : Nat) : fmC G σ o (30, m, k) = fmC_30 G σ o m k := rfl
theorem fmC_is_31 (G : fmG) (σ : fmS) (o : Nat → Int64) (m k : Nat) : fmC G σ o (31, m, k) = fmC_31 G σ o m k := rfl
theorem fmC_is_32 (G : fmG) (σ : fmS) (o : Nat → Int64) (m k : Nat) : fmC G σ o (32, m, k) = fmC_32 G σ o m k := rfl
theorem fmC_is_33 (G : fmG) (σ : fmS) (o : Nat → Int64) (m k : Nat) : fmC G σ o (33, m, k) = fmC_33 G σ o m k := rfl
theorem fmC_is_34 (G : fmG) (σ : fmS) (o : Nat → Int64) (m k : Nat) : fmC G σ o (34, m, k) = fmC_34 G σ o m k := rfl
def fmShape : List (Nat × Nat × Nat) := [(0, 1, 1), (1, 1, 1), (2, 1, 1), (3, 1, 1), (4, 2, 1), (5, 2, 1), (6, 2, 1), (7, 2, 4), (8, 2, 4), (9, 2, 14), (10, 2, 14), (11, 2, 14), (12, 2, 14), (13, 2, 14), (14, 1, 1), (15, 1, 1), (16, 1, 1), (17, 1, 1), (18, 1, 1), (19, 1, 1), (20, 1, 1), (21, 1, 1), (22, 1, 1), (23, 2, 1), (24, 2, 1), (25, 2, 1), (26, 2, 1), (27, 2, 1), (28, 2, 1), (29, 2, 1), (30, 2, 1), (31, 2, 1), (32, 2, 1), (33, 2, 1), (34, 1, 1)]
def fmIds : List fmI := fmShape.flatMap (fun q => (List.range q.2.1).flatMap (fun m => (List.range q.2.2).map (fun k => (q.1, m, k))))
theorem fm_mem {kd a b m k : Nat} (h : (kd, a, b) ∈ fmShape) (hm : m < a) (hk : k < b) : (kd, m, k) ∈ fmIds := by
  refine List.mem_flatMap.mpr ⟨(kd, a, b), h, List.mem_flatMap.mpr ⟨m, List.mem_range.mpr hm, List.mem_map.mpr ⟨k, List.mem_range.mpr hk, rfl⟩⟩⟩
def fmAd (G : fmG) (i : fmI) : Nat := G.1 i.1 i.2.1 i.2.2
/-- the world: every thing with its cell -/
def fmW (G : fmG) (σ : fmS) (o : Nat → Int64) : va_W := fmIds.map (fun i => (fmAd G i, fmC G σ o i))
theorem fmW_get (G : fmG) (σ : fmS) (o : Nat → Int64) {i : fmI} (h : i ∈ fmIds) : ∃ q0 : Nat, fmIds[q0]? = some i ∧ (fmW G σ o)[q0]? = some (fmAd G i, fmC G σ o i) := by
  obtain ⟨q0, h0⟩ := List.getElem?_of_mem h
  exact ⟨q0, h0, by rw [fmW, List.getElem?_map, h0]; rfl⟩
theorem fmW_D {A : Nat → Prop} {G : fmG} {σ : fmS} {o : Nat → Int64} (h : va_D A (fmW G σ o)) (σ' : fmS) (o' : Nat → Int64) : va_D A (fmW G σ' o') := by
  have key : ∀ (k : Nat) (q : Nat × va_E), (fmW G σ' o')[k]? = some q → ∃ e, (fmW G σ o)[k]? = some (q.1, e) := by
    intro k q hk
    rw [fmW, List.getElem?_map] at hk
    cases hi : fmIds[k]? with
    | none => rw [hi] at hk; cases hk
    | some i =>
      rw [hi] at hk
      cases hk
      exact ⟨fmC G σ o i, by rw [fmW, List.getElem?_map, hi]; rfl⟩
  refine ⟨fun i j p q hi hj hpq => ?_, fun k q hk => ?_⟩
  · obtain ⟨e1, h1⟩ := key i p hi
    obtain ⟨e2, h2⟩ := key j q hj
    exact h.1 i j _ _ h1 h2 hpq
  · obtain ⟨e1, h1⟩ := key k q hk
    exact h.2 k (q.1, e1) h1
theorem fmW_set {A : Nat → Prop} {G : fmG} {σ σ' : fmS} {o o' : Nat → Int64} {i : fmI} {q0 : Nat} {e : va_E} (hD : va_D A (fmW G σ o)) (h : fmIds[q0]? = some i) (he : fmC G σ' o' i = e) (hne : ∀ j, j ≠ i → fmC G σ' o' j = fmC G σ o j) : (fmW G σ o).set q0 (fmAd G i, e) = fmW G σ' o' := by
  have hq : (fmW G σ o)[q0]? = some (fmAd G i, fmC G σ o i) := by rw [fmW, List.getElem?_map, h]; rfl
  have hl := (List.getElem?_eq_some_iff.mp hq).1
  apply List.ext_getElem?
  intro j
  by_cases hj : j = q0
  · subst hj
    rw [List.getElem?_set_self hl, fmW, List.getElem?_map, h]
    show _ = some (fmAd G i, fmC G σ' o' i)
    rw [he]
  · rw [List.getElem?_set_ne (Ne.symm hj), fmW, fmW, List.getElem?_map, List.getElem?_map]
    cases hb : fmIds[j]? with
    | none => rfl
    | some b =>
      have hbi : b ≠ i := by
        intro hbi
        subst hbi
        have h2 : (fmW G σ o)[j]? = some (fmAd G b, fmC G σ o b) := by rw [fmW, List.getElem?_map, hb]; rfl
        exact hj (hD.1 j q0 _ _ h2 hq rfl)
      show some (fmAd G b, fmC G σ o b) = some (fmAd G b, fmC G σ' o' b)
      rw [hne b hbi]
theorem fmC_ext {G : fmG} {σ σ' : fmS} {o : Nat → Int64} {i : fmI} (h : ∀ c, fmO c = i.1 → σ' c i.2.1 i.2.2 = σ c i.2.1 i.2.2) : fmC G σ' o i = fmC G σ o i := by
  obtain ⟨kd, m, k⟩ := i
  dsimp only at h
  by_cases hb : kd < 35
  · rcases (show kd = 0 ∨ kd = 1 ∨ kd = 2 ∨ kd = 3 ∨ kd = 4 ∨ kd = 5 ∨ kd = 6 ∨ kd = 7 ∨ kd = 8 ∨ kd = 9 ∨ kd = 10 ∨ kd = 11 ∨ kd = 12 ∨ kd = 13 ∨ kd = 14 ∨ kd = 15 ∨ kd = 16 ∨ kd = 17 ∨ kd = 18 ∨ kd = 19 ∨ kd = 20 ∨ kd = 21 ∨ kd = 22 ∨ kd = 23 ∨ kd = 24 ∨ kd = 25 ∨ kd = 26 ∨ kd = 27 ∨ kd = 28 ∨ kd = 29 ∨ kd = 30 ∨ kd = 31 ∨ kd = 32 ∨ kd = 33 ∨ kd = 34 by omega) with rfl | rfl | rfl | rfl | rfl | rfl | rfl | rfl | rfl | rfl | rfl | rfl | rfl | rfl | rfl | rfl | rfl | rfl | rfl | rfl | rfl | rfl | rfl | rfl | rfl | rfl | rfl | rfl | rfl | rfl | rfl | rfl | rfl | rfl | rfl
    · rfl
    · rfl
    · rw [fmC_is_2, fmC_is_2, fmC_2, fmC_2, h 2 rfl]
    · rw [fmC_is_3, fmC_is_3, fmC_3, fmC_3, h 3 rfl]
    · rw [fmC_is_4, fmC_is_4, fmC_4, fmC_4, h 40 rfl, h 41 rfl, h 42 rfl, h 43 rfl, h 44 rfl, h 45 rfl, h 46 rfl]
    · rfl
    · rfl
    · rw [fmC_is_7, fmC_is_7, fmC_7, fmC_7, h 47 rfl, h 48 rfl]
    · rw [fmC_is_8, fmC_is_8, fmC_8, fmC_8, h 8 rfl]
    · rw [fmC_is_9, fmC_is_9, fmC_9, fmC_9, h 50 rfl, h 51 rfl, h 52 rfl, h 53 rfl, h 54 rfl, h 55 rfl, h 56 rfl, h 57 rfl, h 58 rfl, h 59 rfl, h 60 rfl]
    · rw [fmC_is_10, fmC_is_10, fmC_10, fmC_10, h 10 rfl]
    · rw [fmC_is_11, fmC_is_11, fmC_11, fmC_11, h 11 rfl]
    · rw [fmC_is_12, fmC_is_12, fmC_12, fmC_12, h 12 rfl]
    · rw [fmC_is_13, fmC_is_13, fmC_13, fmC_13, h 13 rfl]
    · rw [fmC_is_14, fmC_is_14, fmC_14, fmC_14, h 61 rfl, h 62 rfl, h 63 rfl]
    · rw [fmC_is_15, fmC_is_15, fmC_15, fmC_15, h 15 rfl]
    · rw [fmC_is_16, fmC_is_16, fmC_16, fmC_16, h 16 rfl]
    · rw [fmC_is_17, fmC_is_17, fmC_17, fmC_17, h 17 rfl]
    · rw [fmC_is_18, fmC_is_18, fmC_18, fmC_18, h 18 rfl]
    · rw [fmC_is_19, fmC_is_19, fmC_19, fmC_19, h 19 rfl]
    · rw [fmC_is_20, fmC_is_20, fmC_20, fmC_20, h 20 rfl]
    · rw [fmC_is_21, fmC_is_21, fmC_21, fmC_21, h 21 rfl]
    · rw [fmC_is_22, fmC_is_22, fmC_22, fmC_22, h 22 rfl]
    · rw [fmC_is_23, fmC_is_23, fmC_23, fmC_23, h 64 rfl, h 65 rfl, h 66 rfl]
    · rw [fmC_is_24, fmC_is_24, fmC_24, fmC_24, h 24 rfl]
    · rw [fmC_is_25, fmC_is_25, fmC_25, fmC_25, h 25 rfl]
    · rw [fmC_is_26, fmC_is_26, fmC_26, fmC_26, h 26 rfl]
    · rw [fmC_is_27, fmC_is_27, fmC_27, fmC_27, h 27 rfl]
    · rw [fmC_is_28, fmC_is_28, fmC_28, fmC_28, h 28 rfl]
    · rw [fmC_is_29, fmC_is_29, fmC_29, fmC_29, h 29 rfl]
    · rw [fmC_is_30, fmC_is_30, fmC_30, fmC_30, h 30 rfl]
    · rw [fmC_is_31, fmC_is_31, fmC_31, fmC_31, h 31 rfl]
    · rw [fmC_is_32, fmC_is_32, fmC_32, fmC_32, h 32 rfl]
    · rw [fmC_is_33, fmC_is_33, fmC_33, fmC_33, h 33 rfl]
    · rfl
  · have hk : ∀ τ : fmS, fmC G τ o (kd, m, k) = fmC_34 G τ o m k := fun τ => by
      rw [fmC]
      dsimp only
      rw [if_neg (show ¬ kd = 0 by omega), if_neg (show ¬ kd = 1 by omega), if_neg (show ¬ kd = 2 by omega), if_neg (show ¬ kd = 3 by omega), if_neg (show ¬ kd = 4 by omega), if_neg (show ¬ kd = 5 by omega), if_neg (show ¬ kd = 6 by omega), if_neg (show ¬ kd = 7 by omega), if_neg (show ¬ kd = 8 by omega), if_neg (show ¬ kd = 9 by omega), if_neg (show ¬ kd = 10 by omega), if_neg (show ¬ kd = 11 by omega), if_neg (show ¬ kd = 12 by omega), if_neg (show ¬ kd = 13 by omega), if_neg (show ¬ kd = 14 by omega), if_neg (show ¬ kd = 15 by omega), if_neg (show ¬ kd = 16 by omega), if_neg (show ¬ kd = 17 by omega), if_neg (show ¬ kd = 18 by omega), if_neg (show ¬ kd = 19 by omega), if_neg (show ¬ kd = 20 by omega), if_neg (show ¬ kd = 21 by omega), if_neg (show ¬ kd = 22 by omega), if_neg (show ¬ kd = 23 by omega), if_neg (show ¬ kd = 24 by omega), if_neg (show ¬ kd = 25 by omega), if_neg (show ¬ kd = 26 by omega), if_neg (show ¬ kd = 27 by omega), if_neg (show ¬ kd = 28 by omega), if_neg (show ¬ kd = 29 by omega), if_neg (show ¬ kd = 30 by omega), if_neg (show ¬ kd = 31 by omega), if_neg (show ¬ kd = 32 by omega), if_neg (show ¬ kd = 33 by omega)]
    rw [hk, hk]; rfl
/-- a change of one column leaves all cells but its owner's -/
theorem fmC_off {G : fmG} {σ : fmS} {o : Nat → Int64} {c m k : Nat} {f : Nat → Int32} (j : fmI) (h : j ≠ (fmO c, m, k)) : fmC G (fmu σ c m k f) o j = fmC G σ o j := by
  refine fmC_ext fun c' hc => fmu_ne _ _ _ _ _ ?_
  rintro ⟨h1, h2, h3⟩
  apply h
  obtain ⟨kd, m', k'⟩ := j
  dsimp only at hc h2 h3
  rw [← hc, h1, h2, h3]

theorem fmP_4_3 (G : fmG) (σ : fmS) (o : Nat → Int64) (m k : Nat) (x : Int32) : fmC G (fms σ 40 m k x) o (4, m, k) = .inr (1, ([.ref (G.1 1 0 0), .ref (G.1 5 m 0), .ref (G.1 6 m 0), .int (σ 40 m k 0), .int (σ 41 m k 0), .int (σ 42 m k 0), .int (σ 43 m k 0), .int (σ 44 m k 0), .int (σ 45 m k 0), .int (σ 46 m k 0)] : List Value).set 3 (.int x)) := by
  rw [fmC_is_4, fmC_4]; simp [fmu]
theorem fmP_4_4 (G : fmG) (σ : fmS) (o : Nat → Int64) (m k : Nat) (x : Int32) : fmC G (fms σ 41 m k x) o (4, m, k) = .inr (1, ([.ref (G.1 1 0 0), .ref (G.1 5 m 0), .ref (G.1 6 m 0), .int (σ 40 m k 0), .int (σ 41 m k 0), .int (σ 42 m k 0), .int (σ 43 m k 0), .int (σ 44 m k 0), .int (σ 45 m k 0), .int (σ 46 m k 0)] : List Value).set 4 (.int x)) := by
  rw [fmC_is_4, fmC_4]; simp [fmu]
theorem fmP_4_5 (G : fmG) (σ : fmS) (o : Nat → Int64) (m k : Nat) (x : Int32) : fmC G (fms σ 42 m k x) o (4, m, k) = .inr (1, ([.ref (G.1 1 0 0), .ref (G.1 5 m 0), .ref (G.1 6 m 0), .int (σ 40 m k 0), .int (σ 41 m k 0), .int (σ 42 m k 0), .int (σ 43 m k 0), .int (σ 44 m k 0), .int (σ 45 m k 0), .int (σ 46 m k 0)] : List Value).set 5 (.int x)) := by
  rw [fmC_is_4, fmC_4]; simp [fmu]
theorem fmP_4_6 (G : fmG) (σ : fmS) (o : Nat → Int64) (m k : Nat) (x : Int32) : fmC G (fms σ 43 m k x) o (4, m, k) = .inr (1, ([.ref (G.1 1 0 0), .ref (G.1 5 m 0), .ref (G.1 6 m 0), .int (σ 40 m k 0), .int (σ 41 m k 0), .int (σ 42 m k 0), .int (σ 43 m k 0), .int (σ 44 m k 0), .int (σ 45 m k 0), .int (σ 46 m k 0)] : List Value).set 6 (.int x)) := by
  rw [fmC_is_4, fmC_4]; simp [fmu]
theorem fmP_4_7 (G : fmG) (σ : fmS) (o : Nat → Int64) (m k : Nat) (x : Int32) : fmC G (fms σ 44 m k x) o (4, m, k) = .inr (1, ([.ref (G.1 1 0 0), .ref (G.1 5 m 0), .ref (G.1 6 m 0), .int (σ 40 m k 0), .int (σ 41 m k 0), .int (σ 42 m k 0), .int (σ 43 m k 0), .int (σ 44 m k 0), .int (σ 45 m k 0), .int (σ 46 m k 0)] : List Value).set 7 (.int x)) := by
  rw [fmC_is_4, fmC_4]; simp [fmu]
theorem fmP_4_8 (G : fmG) (σ : fmS) (o : Nat → Int64) (m k : Nat) (x : Int32) : fmC G (fms σ 45 m k x) o (4, m, k) = .inr (1, ([.ref (G.1 1 0 0), .ref (G.1 5 m 0), .ref (G.1 6 m 0), .int (σ 40 m k 0), .int (σ 41 m k 0), .int (σ 42 m k 0), .int (σ 43 m k 0), .int (σ 44 m k 0), .int (σ 45 m k 0), .int (σ 46 m k 0)] : List Value).set 8 (.int x)) := by
  rw [fmC_is_4, fmC_4]; simp [fmu]
theorem fmP_4_9 (G : fmG) (σ : fmS) (o : Nat → Int64) (m k : Nat) (x : Int32) : fmC G (fms σ 46 m k x) o (4, m, k) = .inr (1, ([.ref (G.1 1 0 0), .ref (G.1 5 m 0), .ref (G.1 6 m 0), .int (σ 40 m k 0), .int (σ 41 m k 0), .int (σ 42 m k 0), .int (σ 43 m k 0), .int (σ 44 m k 0), .int (σ 45 m k 0), .int (σ 46 m k 0)] : List Value).set 9 (.int x)) := by
  rw [fmC_is_4, fmC_4]; simp [fmu]
theorem fmP_7_1 (G : fmG) (σ : fmS) (o : Nat → Int64) (m k : Nat) (x : Int32) : fmC G (fms σ 47 m k x) o (7, m, k) = .inr (2, ([.ref (G.1 8 m k), .int (σ 47 m k 0), .int (σ 48 m k 0)] : List Value).set 1 (.int x)) := by
  rw [fmC_is_7, fmC_7]; simp [fmu]
theorem fmP_7_2 (G : fmG) (σ : fmS) (o : Nat → Int64) (m k : Nat) (x : Int32) : fmC G (fms σ 48 m k x) o (7, m, k) = .inr (2, ([.ref (G.1 8 m k), .int (σ 47 m k 0), .int (σ 48 m k 0)] : List Value).set 2 (.int x)) := by
  rw [fmC_is_7, fmC_7]; simp [fmu]
theorem fmP_9_5 (G : fmG) (σ : fmS) (o : Nat → Int64) (m k : Nat) (x : Int32) : fmC G (fms σ 50 m k x) o (9, m, k) = .inr (0, ([.int (nI k), .ref (G.1 10 m k), .ref (G.1 11 m k), .ref (G.1 12 m k), .ref (G.1 13 m k), .int (σ 50 m k 0), .int (σ 51 m k 0), .int (σ 52 m k 0), .int (σ 53 m k 0), .int (σ 54 m k 0), .int (σ 55 m k 0), .int (σ 56 m k 0), .int (σ 57 m k 0), .int (σ 58 m k 0), .int (σ 59 m k 0), .int (σ 60 m k 0)] : List Value).set 5 (.int x)) := by
  rw [fmC_is_9, fmC_9]; simp [fmu]
theorem fmP_9_6 (G : fmG) (σ : fmS) (o : Nat → Int64) (m k : Nat) (x : Int32) : fmC G (fms σ 51 m k x) o (9, m, k) = .inr (0, ([.int (nI k), .ref (G.1 10 m k), .ref (G.1 11 m k), .ref (G.1 12 m k), .ref (G.1 13 m k), .int (σ 50 m k 0), .int (σ 51 m k 0), .int (σ 52 m k 0), .int (σ 53 m k 0), .int (σ 54 m k 0), .int (σ 55 m k 0), .int (σ 56 m k 0), .int (σ 57 m k 0), .int (σ 58 m k 0), .int (σ 59 m k 0), .int (σ 60 m k 0)] : List Value).set 6 (.int x)) := by
  rw [fmC_is_9, fmC_9]; simp [fmu]
theorem fmP_9_7 (G : fmG) (σ : fmS) (o : Nat → Int64) (m k : Nat) (x : Int32) : fmC G (fms σ 52 m k x) o (9, m, k) = .inr (0, ([.int (nI k), .ref (G.1 10 m k), .ref (G.1 11 m k), .ref (G.1 12 m k), .ref (G.1 13 m k), .int (σ 50 m k 0), .int (σ 51 m k 0), .int (σ 52 m k 0), .int (σ 53 m k 0), .int (σ 54 m k 0), .int (σ 55 m k 0), .int (σ 56 m k 0), .int (σ 57 m k 0), .int (σ 58 m k 0), .int (σ 59 m k 0), .int (σ 60 m k 0)] : List Value).set 7 (.int x)) := by
  rw [fmC_is_9, fmC_9]; simp [fmu]
theorem fmP_9_8 (G : fmG) (σ : fmS) (o : Nat → Int64) (m k : Nat) (x : Int32) : fmC G (fms σ 53 m k x) o (9, m, k) = .inr (0, ([.int (nI k), .ref (G.1 10 m k), .ref (G.1 11 m k), .ref (G.1 12 m k), .ref (G.1 13 m k), .int (σ 50 m k 0), .int (σ 51 m k 0), .int (σ 52 m k 0), .int (σ 53 m k 0), .int (σ 54 m k 0), .int (σ 55 m k 0), .int (σ 56 m k 0), .int (σ 57 m k 0), .int (σ 58 m k 0), .int (σ 59 m k 0), .int (σ 60 m k 0)] : List Value).set 8 (.int x)) := by
  rw [fmC_is_9, fmC_9]; simp [fmu]
theorem fmP_9_9 (G : fmG) (σ : fmS) (o : Nat → Int64) (m k : Nat) (x : Int32) : fmC G (fms σ 54 m k x) o (9, m, k) = .inr (0, ([.int (nI k), .ref (G.1 10 m k), .ref (G.1 11 m k), .ref (G.1 12 m k), .ref (G.1 13 m k), .int (σ 50 m k 0), .int (σ 51 m k 0), .int (σ 52 m k 0), .int (σ 53 m k 0), .int (σ 54 m k 0), .int (σ 55 m k 0), .int (σ 56 m k 0), .int (σ 57 m k 0), .int (σ 58 m k 0), .int (σ 59 m k 0), .int (σ 60 m k 0)] : List Value).set 9 (.int x)) := by
  rw [fmC_is_9, fmC_9]; simp [fmu]
theorem fmP_9_10 (G : fmG) (σ : fmS) (o : Nat → Int64) (m k : Nat) (x : Int32) : fmC G (fms σ 55 m k x) o (9, m, k) = .inr (0, ([.int (nI k), .ref (G.1 10 m k), .ref (G.1 11 m k), .ref (G.1 12 m k), .ref (G.1 13 m k), .int (σ 50 m k 0), .int (σ 51 m k 0), .int (σ 52 m k 0), .int (σ 53 m k 0), .int (σ 54 m k 0), .int (σ 55 m k 0), .int (σ 56 m k 0), .int (σ 57 m k 0), .int (σ 58 m k 0), .int (σ 59 m k 0), .int (σ 60 m k 0)] : List Value).set 10 (.int x)) := by
  rw [fmC_is_9, fmC_9]; simp [fmu]
theorem fmP_9_11 (G : fmG) (σ : fmS) (o : Nat → Int64) (m k : Nat) (x : Int32) : fmC G (fms σ 56 m k x) o (9, m, k) = .inr (0, ([.int (nI k), .ref (G.1 10 m k), .ref (G.1 11 m k), .ref (G.1 12 m k), .ref (G.1 13 m k), .int (σ 50 m k 0), .int (σ 51 m k 0), .int (σ 52 m k 0), .int (σ 53 m k 0), .int (σ 54 m k 0), .int (σ 55 m k 0), .int (σ 56 m k 0), .int (σ 57 m k 0), .int (σ 58 m k 0), .int (σ 59 m k 0), .int (σ 60 m k 0)] : List Value).set 11 (.int x)) := by
  rw [fmC_is_9, fmC_9]; simp [fmu]
theorem fmP_9_12 (G : fmG) (σ : fmS) (o : Nat → Int64) (m k : Nat) (x : Int32) : fmC G (fms σ 57 m k x) o (9, m, k) = .inr (0, ([.int (nI k), .ref (G.1 10 m k), .ref (G.1 11 m k), .ref (G.1 12 m k), .ref (G.1 13 m k), .int (σ 50 m k 0), .int (σ 51 m k 0), .int (σ 52 m k 0), .int (σ 53 m k 0), .int (σ 54 m k 0), .int (σ 55 m k 0), .int (σ 56 m k 0), .int (σ 57 m k 0), .int (σ 58 m k 0), .int (σ 59 m k 0), .int (σ 60 m k 0)] : List Value).set 12 (.int x)) := by
  rw [fmC_is_9, fmC_9]; simp [fmu]
theorem fmP_9_13 (G : fmG) (σ : fmS) (o : Nat → Int64) (m k : Nat) (x : Int32) : fmC G (fms σ 58 m k x) o (9, m, k) = .inr (0, ([.int (nI k), .ref (G.1 10 m k), .ref (G.1 11 m k), .ref (G.1 12 m k), .ref (G.1 13 m k), .int (σ 50 m k 0), .int (σ 51 m k 0), .int (σ 52 m k 0), .int (σ 53 m k 0), .int (σ 54 m k 0), .int (σ 55 m k 0), .int (σ 56 m k 0), .int (σ 57 m k 0), .int (σ 58 m k 0), .int (σ 59 m k 0), .int (σ 60 m k 0)] : List Value).set 13 (.int x)) := by
  rw [fmC_is_9, fmC_9]; simp [fmu]
theorem fmP_9_14 (G : fmG) (σ : fmS) (o : Nat → Int64) (m k : Nat) (x : Int32) : fmC G (fms σ 59 m k x) o (9, m, k) = .inr (0, ([.int (nI k), .ref (G.1 10 m k), .ref (G.1 11 m k), .ref (G.1 12 m k), .ref (G.1 13 m k), .int (σ 50 m k 0), .int (σ 51 m k 0), .int (σ 52 m k 0), .int (σ 53 m k 0), .int (σ 54 m k 0), .int (σ 55 m k 0), .int (σ 56 m k 0), .int (σ 57 m k 0), .int (σ 58 m k 0), .int (σ 59 m k 0), .int (σ 60 m k 0)] : List Value).set 14 (.int x)) := by
  rw [fmC_is_9, fmC_9]; simp [fmu]
theorem fmP_9_15 (G : fmG) (σ : fmS) (o : Nat → Int64) (m k : Nat) (x : Int32) : fmC G (fms σ 60 m k x) o (9, m, k) = .inr (0, ([.int (nI k), .ref (G.1 10 m k), .ref (G.1 11 m k), .ref (G.1 12 m k), .ref (G.1 13 m k), .int (σ 50 m k 0), .int (σ 51 m k 0), .int (σ 52 m k 0), .int (σ 53 m k 0), .int (σ 54 m k 0), .int (σ 55 m k 0), .int (σ 56 m k 0), .int (σ 57 m k 0), .int (σ 58 m k 0), .int (σ 59 m k 0), .int (σ 60 m k 0)] : List Value).set 15 (.int x)) := by
  rw [fmC_is_9, fmC_9]; simp [fmu]
theorem fmP_14_0 (G : fmG) (σ : fmS) (o : Nat → Int64) (m k : Nat) (x : Int32) : fmC G (fms σ 61 m k x) o (14, m, k) = .inr (6, ([.int (σ 61 m k 0), .int (σ 62 m k 0), .ref (G.1 15 0 0), .ref (G.1 16 0 0), .ref (G.1 17 0 0), .int (σ 63 m k 0), .ref (G.1 18 0 0), .ref (G.1 19 0 0), .ref (G.1 20 0 0), .ref (G.1 21 0 0), .ref (G.1 23 0 0), .ref (G.1 23 1 0), .ref (G.1 22 0 0)] : List Value).set 0 (.int x)) := by
  rw [fmC_is_14, fmC_14]; simp [fmu]
theorem fmP_14_1 (G : fmG) (σ : fmS) (o : Nat → Int64) (m k : Nat) (x : Int32) : fmC G (fms σ 62 m k x) o (14, m, k) = .inr (6, ([.int (σ 61 m k 0), .int (σ 62 m k 0), .ref (G.1 15 0 0), .ref (G.1 16 0 0), .ref (G.1 17 0 0), .int (σ 63 m k 0), .ref (G.1 18 0 0), .ref (G.1 19 0 0), .ref (G.1 20 0 0), .ref (G.1 21 0 0), .ref (G.1 23 0 0), .ref (G.1 23 1 0), .ref (G.1 22 0 0)] : List Value).set 1 (.int x)) := by
  rw [fmC_is_14, fmC_14]; simp [fmu]
theorem fmP_14_5 (G : fmG) (σ : fmS) (o : Nat → Int64) (m k : Nat) (x : Int32) : fmC G (fms σ 63 m k x) o (14, m, k) = .inr (6, ([.int (σ 61 m k 0), .int (σ 62 m k 0), .ref (G.1 15 0 0), .ref (G.1 16 0 0), .ref (G.1 17 0 0), .int (σ 63 m k 0), .ref (G.1 18 0 0), .ref (G.1 19 0 0), .ref (G.1 20 0 0), .ref (G.1 21 0 0), .ref (G.1 23 0 0), .ref (G.1 23 1 0), .ref (G.1 22 0 0)] : List Value).set 5 (.int x)) := by
  rw [fmC_is_14, fmC_14]; simp [fmu]
theorem fmP_23_0 (G : fmG) (σ : fmS) (o : Nat → Int64) (m k : Nat) (x : Int32) : fmC G (fms σ 64 m k x) o (23, m, k) = .inr (5, ([.int (σ 64 m k 0), .int (σ 65 m k 0), .int (σ 66 m k 0), .ref (G.1 24 m 0), .ref (G.1 25 m 0), .ref (G.1 26 m 0), .ref (G.1 27 m 0), .ref (G.1 28 m 0), .ref (G.1 29 m 0), .ref (G.1 30 m 0), .ref (G.1 31 m 0), .ref (G.1 32 m 0), .ref (G.1 33 m 0), .ref (G.1 14 0 0)] : List Value).set 0 (.int x)) := by
  rw [fmC_is_23, fmC_23]; simp [fmu]
theorem fmP_23_1 (G : fmG) (σ : fmS) (o : Nat → Int64) (m k : Nat) (x : Int32) : fmC G (fms σ 65 m k x) o (23, m, k) = .inr (5, ([.int (σ 64 m k 0), .int (σ 65 m k 0), .int (σ 66 m k 0), .ref (G.1 24 m 0), .ref (G.1 25 m 0), .ref (G.1 26 m 0), .ref (G.1 27 m 0), .ref (G.1 28 m 0), .ref (G.1 29 m 0), .ref (G.1 30 m 0), .ref (G.1 31 m 0), .ref (G.1 32 m 0), .ref (G.1 33 m 0), .ref (G.1 14 0 0)] : List Value).set 1 (.int x)) := by
  rw [fmC_is_23, fmC_23]; simp [fmu]
theorem fmP_23_2 (G : fmG) (σ : fmS) (o : Nat → Int64) (m k : Nat) (x : Int32) : fmC G (fms σ 66 m k x) o (23, m, k) = .inr (5, ([.int (σ 64 m k 0), .int (σ 65 m k 0), .int (σ 66 m k 0), .ref (G.1 24 m 0), .ref (G.1 25 m 0), .ref (G.1 26 m 0), .ref (G.1 27 m 0), .ref (G.1 28 m 0), .ref (G.1 29 m 0), .ref (G.1 30 m 0), .ref (G.1 31 m 0), .ref (G.1 32 m 0), .ref (G.1 33 m 0), .ref (G.1 14 0 0)] : List Value).set 2 (.int x)) := by
  rw [fmC_is_23, fmC_23]; simp [fmu]

/-! LOCALS: a list of (place, value), newest first -/
def fml : List (Nat × Value) → Nat → Option Value
  | [], _ => none
  | q :: t, i => if q.1 = i then some q.2 else fml t i
theorem fml_mem : ∀ {lv : List (Nat × Value)} {i : Nat} {v : Value}, fml lv i = some v → (i, v) ∈ lv
  | [], _, _, h => by cases h
  | q :: t, i, v, h => by
    unfold fml at h
    by_cases e : q.1 = i
    · rw [if_pos e] at h
      cases h
      subst e
      exact List.mem_cons_self
    · rw [if_neg e] at h
      exact List.mem_cons_of_mem _ (fml_mem h)
theorem fml_at {ls : Array Slot} {nL : Nat} {lv : List (Nat × Value)} {i : Nat} {v : Value} (h : lv_has ls nL lv) (hk : fml lv i = some v) : ls[i]? = some (.val v) := h.2.2 _ (fml_mem hk)
def fmst1 (lv : List (Nat × Value)) (i : Nat) (v : Value) : List (Nat × Value) := (i, v) :: lv.filter (fun q => !(q.1 == i) && !(q.1 + 1 == i && q.2.category == 2))
def fmst2 (lv : List (Nat × Value)) (i : Nat) (v : Value) : List (Nat × Value) := (i, v) :: lv.filter (fun q => !(q.1 == i) && (!(q.1 == i + 1) && !(q.1 + 1 == i && q.2.category == 2)))
/-- what the list lv' says, lv says -/
def fmle (lv : List (Nat × Value)) : List (Nat × Value) → Prop
  | [] => True
  | q :: t => fml lv q.1 = some q.2 ∧ fmle lv t
theorem fmle_has {ls : Array Slot} {nL : Nat} {lv : List (Nat × Value)} (h : lv_has ls nL lv) : ∀ {lv' : List (Nat × Value)}, fmle lv lv' → lv_has ls nL lv'
  | [], _ => ⟨h.1, h.2.1, fun q hq => by cases hq⟩
  | q :: t, h' => ⟨h.1, h.2.1, fun r hr => by
      rcases List.mem_cons.mp hr with rfl | hr
      · exact fml_at h h'.1
      · exact (fmle_has h h'.2).2.2 r hr⟩

/-! THE JUDGEMENT: from the frame at pc with the locals lv and the stack st, with the world at (σ, o), the machine comes to Q -/
def fmV (p : Program) (l : Launch) (e : Env) (R : Room) (s : State) (m : MethodId) (args : Array Value) (below : List Frame) (meth : Method) (c : Code) (D : va_G) (A : Nat → Prop) (G : fmG) (nL : Nat) (o : Nat → Int64) (Q : State → Prop) (σ : fmS) (cells slots : Nat) (lv : List (Nat × Value)) (st : List Value) (pc : Nat) : Prop :=
  ∀ (H : Heap) (locs : List Loc) (ls : Array Slot), va_P D vwCl (fmW G σ o) H → va_S A s.heap H locs → lv_has ls nL lv → W p l e R s m args below meth c H locs cells slots Q (F0 m pc ls st)
/-- what stands fast in a method -/
def fmF (p : Program) (s : State) (m : MethodId) (args : Array Value) (meth : Method) (c : Code) (D : va_G) (A : Nat → Prop) (G : fmG) (own : String) (cc : ByteArray) (nL : Nat) (ret : Option FieldType) (Ts : List Cond) : Prop :=
  p.tables.exec = Jvm.exec ∧ c.code = cc ∧ c.maxLocals = nL ∧ meth.sig.returnType = ret ∧ s.vm.findClass own = some m.cls ∧ (∀ w ∈ Ts, w.before args s = true) ∧ va_K D vwCl (fmT G) s ∧ (∀ σ o, va_D A (fmW G σ o)) ∧ (∀ q, s.heap.size ≤ q → A q) ∧ meth.locks = false
section FMV
variable {p : Program} {l : Launch} {e : Env} {R : Room} {s : State} {m : MethodId} {args : Array Value} {below : List Frame} {meth : Method} {c : Code} {D : va_G} {A : Nat → Prop} {G : fmG} {nL : Nat} {o : Nat → Int64} {Q : State → Prop} {σ : fmS} {cells slots : Nat} {lv : List (Nat × Value)} {st rest : List Value} {pc : Nat} {own : String} {cc : ByteArray} {ret : Option FieldType} {Ts : List Cond}
theorem fmV_lv {lv' : List (Nat × Value)} (h : fmle lv lv') (k : fmV p l e R s m args below meth c D A G nL o Q σ cells slots lv' st pc) : fmV p l e R s m args below meth c D A G nL o Q σ cells slots lv st pc :=
  fun H locs ls hP hS hl => k H locs ls hP hS (fmle_has hl h)
theorem fmV_widen {k n : Nat} (h1 : cells ≤ k) (h2 : slots ≤ n) (kk : fmV p l e R s m args below meth c D A G nL o Q σ k n lv st pc) : fmV p l e R s m args below meth c D A G nL o Q σ cells slots lv st pc :=
  fun H locs ls hP hS hl => W.widen h1 h2 (kk H locs ls hP hS hl)
theorem fmV_iconst (F : fmF p s m args meth c D A G own cc nL ret Ts) {n : Int} {v : Int32} (hdg : decode cc pc = .ok (.iconst n, 1)) (hv : Int32.ofInt n = v) (k : fmV p l e R s m args below meth c D A G nL o Q σ cells slots lv (.int v :: rest) (pc + 1)) : fmV p l e R s m args below meth c D A G nL o Q σ cells slots lv rest pc := by
  obtain ⟨hx, hb, hml, hr, hown, hts, hK, hD, hA, hlk⟩ := F
  exact fun H locs ls hP hS hl => lv_iconst hx hb hdg hv (k H locs ls hP hS hl)
theorem fmV_bipush (F : fmF p s m args meth c D A G own cc nL ret Ts) {n : Int} {v : Int32} (hdg : decode cc pc = .ok (.bipush n, 2)) (hv : (Int8.ofInt n).toInt32 = v) (k : fmV p l e R s m args below meth c D A G nL o Q σ cells slots lv (.int v :: rest) (pc + 2)) : fmV p l e R s m args below meth c D A G nL o Q σ cells slots lv rest pc := by
  obtain ⟨hx, hb, hml, hr, hown, hts, hK, hD, hA, hlk⟩ := F
  exact fun H locs ls hP hS hl => lv_bipush hx hb hdg hv (k H locs ls hP hS hl)
theorem fmV_sipush (F : fmF p s m args meth c D A G own cc nL ret Ts) {n : Int} {v : Int32} (hdg : decode cc pc = .ok (.sipush n, 3)) (hv : (Int16.ofInt n).toInt32 = v) (k : fmV p l e R s m args below meth c D A G nL o Q σ cells slots lv (.int v :: rest) (pc + 3)) : fmV p l e R s m args below meth c D A G nL o Q σ cells slots lv rest pc := by
  obtain ⟨hx, hb, hml, hr, hown, hts, hK, hD, hA, hlk⟩ := F
  exact fun H locs ls hP hS hl => lv_sipush hx hb hdg hv (k H locs ls hP hS hl)
theorem fmV_lconst (F : fmF p s m args meth c D A G own cc nL ret Ts) {n : Fin 2} {v : Int64} (hdg : decode cc pc = .ok (.lconst n, 1)) (hv : Int64.ofNat (n : Nat) = v) (k : fmV p l e R s m args below meth c D A G nL o Q σ cells slots lv (.long v :: rest) (pc + 1)) : fmV p l e R s m args below meth c D A G nL o Q σ cells slots lv rest pc := by
  obtain ⟨hx, hb, hml, hr, hown, hts, hK, hD, hA, hlk⟩ := F
  exact fun H locs ls hP hS hl => lv_lconst hx hb hdg hv (k H locs ls hP hS hl)
theorem fmV_iload_n (F : fmF p s m args meth c D A G own cc nL ret Ts) {kk : Fin 4} {i : Nat} {x : Int32} (hdg : decode cc pc = .ok (.iload_n kk, 1)) (hi : (kk : Nat) = i) (hv : fml lv i = some (.int x)) (k : fmV p l e R s m args below meth c D A G nL o Q σ cells slots lv (.int x :: rest) (pc + 1)) : fmV p l e R s m args below meth c D A G nL o Q σ cells slots lv rest pc := by
  obtain ⟨hx, hb, hml, hr, hown, hts, hK, hD, hA, hlk⟩ := F
  exact fun H locs ls hP hS hl => lv_iload_n hx hb hdg hi (fml_at hl hv) (k H locs ls hP hS hl)
theorem fmV_iload (F : fmF p s m args meth c D A G own cc nL ret Ts) {i : Nat} {x : Int32} (hdg : decode cc pc = .ok (.iload i, 2)) (hv : fml lv i = some (.int x)) (k : fmV p l e R s m args below meth c D A G nL o Q σ cells slots lv (.int x :: rest) (pc + 2)) : fmV p l e R s m args below meth c D A G nL o Q σ cells slots lv rest pc := by
  obtain ⟨hx, hb, hml, hr, hown, hts, hK, hD, hA, hlk⟩ := F
  exact fun H locs ls hP hS hl => lv_iload hx hb hdg (fml_at hl hv) (k H locs ls hP hS hl)
theorem fmV_lload_n (F : fmF p s m args meth c D A G own cc nL ret Ts) {kk : Fin 4} {i : Nat} {x : Int64} (hdg : decode cc pc = .ok (.lload_n kk, 1)) (hi : (kk : Nat) = i) (hv : fml lv i = some (.long x)) (k : fmV p l e R s m args below meth c D A G nL o Q σ cells slots lv (.long x :: rest) (pc + 1)) : fmV p l e R s m args below meth c D A G nL o Q σ cells slots lv rest pc := by
  obtain ⟨hx, hb, hml, hr, hown, hts, hK, hD, hA, hlk⟩ := F
  exact fun H locs ls hP hS hl => lv_lload_n hx hb hdg hi (fml_at hl hv) (k H locs ls hP hS hl)
theorem fmV_lload (F : fmF p s m args meth c D A G own cc nL ret Ts) {i : Nat} {x : Int64} (hdg : decode cc pc = .ok (.lload i, 2)) (hv : fml lv i = some (.long x)) (k : fmV p l e R s m args below meth c D A G nL o Q σ cells slots lv (.long x :: rest) (pc + 2)) : fmV p l e R s m args below meth c D A G nL o Q σ cells slots lv rest pc := by
  obtain ⟨hx, hb, hml, hr, hown, hts, hK, hD, hA, hlk⟩ := F
  exact fun H locs ls hP hS hl => lv_lload hx hb hdg (fml_at hl hv) (k H locs ls hP hS hl)
theorem fmV_aload_n (F : fmF p s m args meth c D A G own cc nL ret Ts) {kk : Fin 4} {i : Nat} {x : Nat} (hdg : decode cc pc = .ok (.aload_n kk, 1)) (hi : (kk : Nat) = i) (hv : fml lv i = some (.ref x)) (k : fmV p l e R s m args below meth c D A G nL o Q σ cells slots lv (.ref x :: rest) (pc + 1)) : fmV p l e R s m args below meth c D A G nL o Q σ cells slots lv rest pc := by
  obtain ⟨hx, hb, hml, hr, hown, hts, hK, hD, hA, hlk⟩ := F
  exact fun H locs ls hP hS hl => lv_aload_n hx hb hdg hi (fml_at hl hv) (k H locs ls hP hS hl)
theorem fmV_aload (F : fmF p s m args meth c D A G own cc nL ret Ts) {i : Nat} {x : Nat} (hdg : decode cc pc = .ok (.aload i, 2)) (hv : fml lv i = some (.ref x)) (k : fmV p l e R s m args below meth c D A G nL o Q σ cells slots lv (.ref x :: rest) (pc + 2)) : fmV p l e R s m args below meth c D A G nL o Q σ cells slots lv rest pc := by
  obtain ⟨hx, hb, hml, hr, hown, hts, hK, hD, hA, hlk⟩ := F
  exact fun H locs ls hP hS hl => lv_aload hx hb hdg (fml_at hl hv) (k H locs ls hP hS hl)
theorem fmV_dload (F : fmF p s m args meth c D A G own cc nL ret Ts) {i : Nat} {x : UInt64} (hdg : decode cc pc = .ok (.dload i, 2)) (hv : fml lv i = some (.double x)) (k : fmV p l e R s m args below meth c D A G nL o Q σ cells slots lv (.double x :: rest) (pc + 2)) : fmV p l e R s m args below meth c D A G nL o Q σ cells slots lv rest pc := by
  obtain ⟨hx, hb, hml, hr, hown, hts, hK, hD, hA, hlk⟩ := F
  exact fun H locs ls hP hS hl => lv_dload hx hb hdg (fml_at hl hv) (k H locs ls hP hS hl)
theorem fmV_aload_nN (F : fmF p s m args meth c D A G own cc nL ret Ts) {kk : Fin 4} {i : Nat} (hdg : decode cc pc = .ok (.aload_n kk, 1)) (hi : (kk : Nat) = i) (hv : fml lv i = some .null) (k : fmV p l e R s m args below meth c D A G nL o Q σ cells slots lv (.null :: rest) (pc + 1)) : fmV p l e R s m args below meth c D A G nL o Q σ cells slots lv rest pc := by
  obtain ⟨hx, hb, hml, hr, hown, hts, hK, hD, hA, hlk⟩ := F
  exact fun H locs ls hP hS hl => lv_aload_nN hx hb hdg hi (fml_at hl hv) (k H locs ls hP hS hl)
theorem fmV_aloadN (F : fmF p s m args meth c D A G own cc nL ret Ts) {i : Nat} (hdg : decode cc pc = .ok (.aload i, 2)) (hv : fml lv i = some .null) (k : fmV p l e R s m args below meth c D A G nL o Q σ cells slots lv (.null :: rest) (pc + 2)) : fmV p l e R s m args below meth c D A G nL o Q σ cells slots lv rest pc := by
  obtain ⟨hx, hb, hml, hr, hown, hts, hK, hD, hA, hlk⟩ := F
  exact fun H locs ls hP hS hl => lv_aloadN hx hb hdg (fml_at hl hv) (k H locs ls hP hS hl)
theorem fmV_istore_n (F : fmF p s m args meth c D A G own cc nL ret Ts) {kk : Fin 4} {i : Nat} {x : Int32} (hdg : decode cc pc = .ok (.istore_n kk, 1)) (hi : (kk : Nat) = i) (hn : i < nL) (k : fmV p l e R s m args below meth c D A G nL o Q σ cells slots (fmst1 lv i (.int x)) rest (pc + 1)) : fmV p l e R s m args below meth c D A G nL o Q σ cells slots lv (.int x :: rest) pc := by
  obtain ⟨hx, hb, hml, hr, hown, hts, hK, hD, hA, hlk⟩ := F
  exact fun H locs ls hP hS hl => lv_istore_n hx hb hdg hi hl hn rfl (fun ls hl => k H locs ls hP hS hl)
theorem fmV_istore (F : fmF p s m args meth c D A G own cc nL ret Ts)  {i : Nat} {x : Int32} (hdg : decode cc pc = .ok (.istore i, 2))  (hn : i < nL) (k : fmV p l e R s m args below meth c D A G nL o Q σ cells slots (fmst1 lv i (.int x)) rest (pc + 2)) : fmV p l e R s m args below meth c D A G nL o Q σ cells slots lv (.int x :: rest) pc := by
  obtain ⟨hx, hb, hml, hr, hown, hts, hK, hD, hA, hlk⟩ := F
  exact fun H locs ls hP hS hl => lv_istore hx hb hdg  hl hn rfl (fun ls hl => k H locs ls hP hS hl)
theorem fmV_lstore_n (F : fmF p s m args meth c D A G own cc nL ret Ts) {kk : Fin 4} {i : Nat} {x : Int64} (hdg : decode cc pc = .ok (.lstore_n kk, 1)) (hi : (kk : Nat) = i) (hn : i + 1 < nL) (k : fmV p l e R s m args below meth c D A G nL o Q σ cells slots (fmst2 lv i (.long x)) rest (pc + 1)) : fmV p l e R s m args below meth c D A G nL o Q σ cells slots lv (.long x :: rest) pc := by
  obtain ⟨hx, hb, hml, hr, hown, hts, hK, hD, hA, hlk⟩ := F
  exact fun H locs ls hP hS hl => lv_lstore_n hx hb hdg hi hl hn rfl (fun ls hl => k H locs ls hP hS hl)
theorem fmV_lstore (F : fmF p s m args meth c D A G own cc nL ret Ts)  {i : Nat} {x : Int64} (hdg : decode cc pc = .ok (.lstore i, 2))  (hn : i + 1 < nL) (k : fmV p l e R s m args below meth c D A G nL o Q σ cells slots (fmst2 lv i (.long x)) rest (pc + 2)) : fmV p l e R s m args below meth c D A G nL o Q σ cells slots lv (.long x :: rest) pc := by
  obtain ⟨hx, hb, hml, hr, hown, hts, hK, hD, hA, hlk⟩ := F
  exact fun H locs ls hP hS hl => lv_lstore hx hb hdg  hl hn rfl (fun ls hl => k H locs ls hP hS hl)
theorem fmV_astore_n (F : fmF p s m args meth c D A G own cc nL ret Ts) {kk : Fin 4} {i : Nat} {x : Nat} (hdg : decode cc pc = .ok (.astore_n kk, 1)) (hi : (kk : Nat) = i) (hn : i < nL) (k : fmV p l e R s m args below meth c D A G nL o Q σ cells slots (fmst1 lv i (.ref x)) rest (pc + 1)) : fmV p l e R s m args below meth c D A G nL o Q σ cells slots lv (.ref x :: rest) pc := by
  obtain ⟨hx, hb, hml, hr, hown, hts, hK, hD, hA, hlk⟩ := F
  exact fun H locs ls hP hS hl => lv_astore_n hx hb hdg hi hl hn rfl (fun ls hl => k H locs ls hP hS hl)
theorem fmV_astore (F : fmF p s m args meth c D A G own cc nL ret Ts)  {i : Nat} {x : Nat} (hdg : decode cc pc = .ok (.astore i, 2))  (hn : i < nL) (k : fmV p l e R s m args below meth c D A G nL o Q σ cells slots (fmst1 lv i (.ref x)) rest (pc + 2)) : fmV p l e R s m args below meth c D A G nL o Q σ cells slots lv (.ref x :: rest) pc := by
  obtain ⟨hx, hb, hml, hr, hown, hts, hK, hD, hA, hlk⟩ := F
  exact fun H locs ls hP hS hl => lv_astore hx hb hdg  hl hn rfl (fun ls hl => k H locs ls hP hS hl)
theorem fmV_dstore (F : fmF p s m args meth c D A G own cc nL ret Ts)  {i : Nat} {x : UInt64} (hdg : decode cc pc = .ok (.dstore i, 2))  (hn : i + 1 < nL) (k : fmV p l e R s m args below meth c D A G nL o Q σ cells slots (fmst2 lv i (.double x)) rest (pc + 2)) : fmV p l e R s m args below meth c D A G nL o Q σ cells slots lv (.double x :: rest) pc := by
  obtain ⟨hx, hb, hml, hr, hown, hts, hK, hD, hA, hlk⟩ := F
  exact fun H locs ls hP hS hl => lv_dstore hx hb hdg  hl hn rfl (fun ls hl => k H locs ls hP hS hl)
theorem fmV_astore_nN (F : fmF p s m args meth c D A G own cc nL ret Ts) {kk : Fin 4} {i : Nat}  (hdg : decode cc pc = .ok (.astore_n kk, 1)) (hi : (kk : Nat) = i) (hn : i < nL) (k : fmV p l e R s m args below meth c D A G nL o Q σ cells slots (fmst1 lv i .null) rest (pc + 1)) : fmV p l e R s m args below meth c D A G nL o Q σ cells slots lv (.null :: rest) pc := by
  obtain ⟨hx, hb, hml, hr, hown, hts, hK, hD, hA, hlk⟩ := F
  exact fun H locs ls hP hS hl => lv_astore_nN hx hb hdg hi hl hn rfl (fun ls hl => k H locs ls hP hS hl)
theorem fmV_astoreN (F : fmF p s m args meth c D A G own cc nL ret Ts)  {i : Nat}  (hdg : decode cc pc = .ok (.astore i, 2))  (hn : i < nL) (k : fmV p l e R s m args below meth c D A G nL o Q σ cells slots (fmst1 lv i .null) rest (pc + 2)) : fmV p l e R s m args below meth c D A G nL o Q σ cells slots lv (.null :: rest) pc := by
  obtain ⟨hx, hb, hml, hr, hown, hts, hK, hD, hA, hlk⟩ := F
  exact fun H locs ls hP hS hl => lv_astoreN hx hb hdg  hl hn rfl (fun ls hl => k H locs ls hP hS hl)
theorem fmV_iinc (F : fmF p s m args meth c D A G own cc nL ret Ts) {i : Nat} {n : Int} {x v : Int32} (hdg : decode cc pc = .ok (.iinc i n, 3)) (hv : fml lv i = some (.int x)) (hw : x + Int32.ofInt n = v) (hn : i < nL) (k : fmV p l e R s m args below meth c D A G nL o Q σ cells slots (fmst1 lv i (.int v)) rest (pc + 3)) : fmV p l e R s m args below meth c D A G nL o Q σ cells slots lv rest pc := by
  obtain ⟨hx, hb, hml, hr, hown, hts, hK, hD, hA, hlk⟩ := F
  intro H locs ls hP hS hl
  have hl2 : lv_has ls nL ((i, .int x) :: lv) := ⟨hl.1, hl.2.1, fun q hq => by
    rcases List.mem_cons.mp hq with rfl | hq
    · exact fml_at hl hv
    · exact hl.2.2 q hq⟩
  refine lv_iinc (k := 0) hx hb hdg hl2 rfl hw hn rfl (fun ls hl => k H locs ls hP hS ⟨hl.1, hl.2.1, fun q hq => ?_⟩)
  refine hl.2.2 q ?_
  rcases List.mem_cons.mp hq with rfl | hq
  · exact List.mem_cons_self
  · refine List.mem_cons_of_mem _ ?_
    obtain ⟨h1, h2⟩ := List.mem_filter.mp hq
    exact List.mem_filter.mpr ⟨List.mem_cons_of_mem _ h1, h2⟩
theorem fmV_iadd (F : fmF p s m args meth c D A G own cc nL ret Ts) {x y : Int32} (hdg : decode cc pc = .ok (.iadd, 1))  (k : fmV p l e R s m args below meth c D A G nL o Q σ cells slots lv (.int (x + y) :: rest) (pc + 1)) : fmV p l e R s m args below meth c D A G nL o Q σ cells slots lv (.int y :: .int x :: rest) pc := by
  obtain ⟨hx, hb, hml, hr, hown, hts, hK, hD, hA, hlk⟩ := F
  exact fun H locs ls hP hS hl => lv_iadd hx hb hdg  (k H locs ls hP hS hl)
theorem fmV_isub (F : fmF p s m args meth c D A G own cc nL ret Ts) {x y : Int32} (hdg : decode cc pc = .ok (.isub, 1))  (k : fmV p l e R s m args below meth c D A G nL o Q σ cells slots lv (.int (x - y) :: rest) (pc + 1)) : fmV p l e R s m args below meth c D A G nL o Q σ cells slots lv (.int y :: .int x :: rest) pc := by
  obtain ⟨hx, hb, hml, hr, hown, hts, hK, hD, hA, hlk⟩ := F
  exact fun H locs ls hP hS hl => lv_isub hx hb hdg  (k H locs ls hP hS hl)
theorem fmV_imul (F : fmF p s m args meth c D A G own cc nL ret Ts) {x y : Int32} (hdg : decode cc pc = .ok (.imul, 1))  (k : fmV p l e R s m args below meth c D A G nL o Q σ cells slots lv (.int (x * y) :: rest) (pc + 1)) : fmV p l e R s m args below meth c D A G nL o Q σ cells slots lv (.int y :: .int x :: rest) pc := by
  obtain ⟨hx, hb, hml, hr, hown, hts, hK, hD, hA, hlk⟩ := F
  exact fun H locs ls hP hS hl => lv_imul hx hb hdg  (k H locs ls hP hS hl)
theorem fmV_ixor (F : fmF p s m args meth c D A G own cc nL ret Ts) {x y : Int32} (hdg : decode cc pc = .ok (.ixor, 1))  (k : fmV p l e R s m args below meth c D A G nL o Q σ cells slots lv (.int (x ^^^ y) :: rest) (pc + 1)) : fmV p l e R s m args below meth c D A G nL o Q σ cells slots lv (.int y :: .int x :: rest) pc := by
  obtain ⟨hx, hb, hml, hr, hown, hts, hK, hD, hA, hlk⟩ := F
  exact fun H locs ls hP hS hl => lv_ixor hx hb hdg  (k H locs ls hP hS hl)
theorem fmV_iand (F : fmF p s m args meth c D A G own cc nL ret Ts) {x y : Int32} (hdg : decode cc pc = .ok (.iand, 1))  (k : fmV p l e R s m args below meth c D A G nL o Q σ cells slots lv (.int (x &&& y) :: rest) (pc + 1)) : fmV p l e R s m args below meth c D A G nL o Q σ cells slots lv (.int y :: .int x :: rest) pc := by
  obtain ⟨hx, hb, hml, hr, hown, hts, hK, hD, hA, hlk⟩ := F
  exact fun H locs ls hP hS hl => lv_iand hx hb hdg  (k H locs ls hP hS hl)
theorem fmV_irem (F : fmF p s m args meth c D A G own cc nL ret Ts) {x y : Int32} (hdg : decode cc pc = .ok (.irem, 1)) (hne : ¬ y = 0) (k : fmV p l e R s m args below meth c D A G nL o Q σ cells slots lv (.int (x - x / y * y) :: rest) (pc + 1)) : fmV p l e R s m args below meth c D A G nL o Q σ cells slots lv (.int y :: .int x :: rest) pc := by
  obtain ⟨hx, hb, hml, hr, hown, hts, hK, hD, hA, hlk⟩ := F
  exact fun H locs ls hP hS hl => lv_irem hx hb hdg hne (k H locs ls hP hS hl)
theorem fmV_idiv (F : fmF p s m args meth c D A G own cc nL ret Ts) {x y : Int32} (hdg : decode cc pc = .ok (.idiv, 1)) (hne : ¬ y = 0) (k : fmV p l e R s m args below meth c D A G nL o Q σ cells slots lv (.int (x / y) :: rest) (pc + 1)) : fmV p l e R s m args below meth c D A G nL o Q σ cells slots lv (.int y :: .int x :: rest) pc := by
  obtain ⟨hx, hb, hml, hr, hown, hts, hK, hD, hA, hlk⟩ := F
  exact fun H locs ls hP hS hl => lv_idiv hx hb hdg hne (k H locs ls hP hS hl)
theorem fmV_ineg (F : fmF p s m args meth c D A G own cc nL ret Ts) {x : Int32} (hdg : decode cc pc = .ok (.ineg, 1))  (k : fmV p l e R s m args below meth c D A G nL o Q σ cells slots lv (.int (-x) :: rest) (pc + 1)) : fmV p l e R s m args below meth c D A G nL o Q σ cells slots lv (.int x :: rest) pc := by
  obtain ⟨hx, hb, hml, hr, hown, hts, hK, hD, hA, hlk⟩ := F
  exact fun H locs ls hP hS hl => lv_ineg hx hb hdg  (k H locs ls hP hS hl)
theorem fmV_ladd (F : fmF p s m args meth c D A G own cc nL ret Ts) {x y : Int64} (hdg : decode cc pc = .ok (.ladd, 1))  (k : fmV p l e R s m args below meth c D A G nL o Q σ cells slots lv (.long (x + y) :: rest) (pc + 1)) : fmV p l e R s m args below meth c D A G nL o Q σ cells slots lv (.long y :: .long x :: rest) pc := by
  obtain ⟨hx, hb, hml, hr, hown, hts, hK, hD, hA, hlk⟩ := F
  exact fun H locs ls hP hS hl => lv_ladd hx hb hdg  (k H locs ls hP hS hl)
theorem fmV_lmul (F : fmF p s m args meth c D A G own cc nL ret Ts) {x y : Int64} (hdg : decode cc pc = .ok (.lmul, 1))  (k : fmV p l e R s m args below meth c D A G nL o Q σ cells slots lv (.long (x * y) :: rest) (pc + 1)) : fmV p l e R s m args below meth c D A G nL o Q σ cells slots lv (.long y :: .long x :: rest) pc := by
  obtain ⟨hx, hb, hml, hr, hown, hts, hK, hD, hA, hlk⟩ := F
  exact fun H locs ls hP hS hl => lv_lmul hx hb hdg  (k H locs ls hP hS hl)
theorem fmV_lcmp (F : fmF p s m args meth c D A G own cc nL ret Ts) {x y : Int64} (hdg : decode cc pc = .ok (.lcmp, 1))  (k : fmV p l e R s m args below meth c D A G nL o Q σ cells slots lv (.int (lg_cmp x y) :: rest) (pc + 1)) : fmV p l e R s m args below meth c D A G nL o Q σ cells slots lv (.long y :: .long x :: rest) pc := by
  obtain ⟨hx, hb, hml, hr, hown, hts, hK, hD, hA, hlk⟩ := F
  exact fun H locs ls hP hS hl => W.lcmp hx hb hdg  (k H locs ls hP hS hl)
theorem fmV_i2l (F : fmF p s m args meth c D A G own cc nL ret Ts) {x : Int32} {v : Int64} (hdg : decode cc pc = .ok (.i2l, 1)) (hv : x.toInt64 = v) (k : fmV p l e R s m args below meth c D A G nL o Q σ cells slots lv (.long v :: rest) (pc + 1)) : fmV p l e R s m args below meth c D A G nL o Q σ cells slots lv (.int x :: rest) pc := by
  obtain ⟨hx, hb, hml, hr, hown, hts, hK, hD, hA, hlk⟩ := F
  exact fun H locs ls hP hS hl => lv_i2l hx hb hdg hv (k H locs ls hP hS hl)
theorem fmV_dup (F : fmF p s m args meth c D A G own cc nL ret Ts) {va : Value} (hdg : decode cc pc = .ok (.dup, 1)) (h1 : va.category = 1) (k : fmV p l e R s m args below meth c D A G nL o Q σ cells slots lv (va :: va :: rest) (pc + 1)) : fmV p l e R s m args below meth c D A G nL o Q σ cells slots lv (va :: rest) pc := by
  obtain ⟨hx, hb, hml, hr, hown, hts, hK, hD, hA, hlk⟩ := F
  exact fun H locs ls hP hS hl => lv_dup hx hb hdg h1 (k H locs ls hP hS hl)
theorem fmV_pop (F : fmF p s m args meth c D A G own cc nL ret Ts) {va : Value} (hdg : decode cc pc = .ok (.pop, 1)) (h1 : va.category = 1) (k : fmV p l e R s m args below meth c D A G nL o Q σ cells slots lv rest (pc + 1)) : fmV p l e R s m args below meth c D A G nL o Q σ cells slots lv (va :: rest) pc := by
  obtain ⟨hx, hb, hml, hr, hown, hts, hK, hD, hA, hlk⟩ := F
  exact fun H locs ls hP hS hl => lv_pop hx hb hdg h1 (k H locs ls hP hS hl)
theorem fmV_dup2 (F : fmF p s m args meth c D A G own cc nL ret Ts) {va vb : Value} (hdg : decode cc pc = .ok (.dup2, 1)) (h1 : va.category = 1) (h2 : vb.category = 1) (k : fmV p l e R s m args below meth c D A G nL o Q σ cells slots lv (va :: vb :: va :: vb :: rest) (pc + 1)) : fmV p l e R s m args below meth c D A G nL o Q σ cells slots lv (va :: vb :: rest) pc := by
  obtain ⟨hx, hb, hml, hr, hown, hts, hK, hD, hA, hlk⟩ := F
  exact fun H locs ls hP hS hl => lv_dup2_11 hx hb hdg h1 h2 (k H locs ls hP hS hl)
theorem fmV_null (F : fmF p s m args meth c D A G own cc nL ret Ts)  (hdg : decode cc pc = .ok (.aconst_null, 1))  (k : fmV p l e R s m args below meth c D A G nL o Q σ cells slots lv (.null :: rest) (pc + 1)) : fmV p l e R s m args below meth c D A G nL o Q σ cells slots lv rest pc := by
  obtain ⟨hx, hb, hml, hr, hown, hts, hK, hD, hA, hlk⟩ := F
  exact fun H locs ls hP hS hl => lv_null hx hb hdg  (k H locs ls hP hS hl)
theorem fmV_i2d (F : fmF p s m args meth c D A G own cc nL ret Ts) {x : Int32} (hdg : decode cc pc = .ok (.i2d, 1))  (k : fmV p l e R s m args below meth c D A G nL o Q σ cells slots lv (.double (FP.i2d x) :: rest) (pc + 1)) : fmV p l e R s m args below meth c D A G nL o Q σ cells slots lv (.int x :: rest) pc := by
  obtain ⟨hx, hb, hml, hr, hown, hts, hK, hD, hA, hlk⟩ := F
  exact fun H locs ls hP hS hl => lv_i2d hx hb hdg  (k H locs ls hP hS hl)
theorem fmV_dconst0 (F : fmF p s m args meth c D A G own cc nL ret Ts)  (hdg : decode cc pc = .ok (.dconst 0, 1))  (k : fmV p l e R s m args below meth c D A G nL o Q σ cells slots lv (.double FP.dconst0 :: rest) (pc + 1)) : fmV p l e R s m args below meth c D A G nL o Q σ cells slots lv rest pc := by
  obtain ⟨hx, hb, hml, hr, hown, hts, hK, hD, hA, hlk⟩ := F
  exact fun H locs ls hP hS hl => lv_dconst0 hx hb hdg  (k H locs ls hP hS hl)
theorem fmV_dcmp (F : fmF p s m args meth c D A G own cc nL ret Ts) {x y : UInt64} {op : CmpOp} (hdg : decode cc pc = .ok (.dcmp op, 1))  (k : fmV p l e R s m args below meth c D A G nL o Q σ cells slots lv (.int (Op.cmpValue (FP.dcmp x y) op) :: rest) (pc + 1)) : fmV p l e R s m args below meth c D A G nL o Q σ cells slots lv (.double y :: .double x :: rest) pc := by
  obtain ⟨hx, hb, hml, hr, hown, hts, hK, hD, hA, hlk⟩ := F
  exact fun H locs ls hP hS hl => lv_dcmp hx hb hdg  (k H locs ls hP hS hl)
theorem fmV_ddiv (F : fmF p s m args meth c D A G own cc nL ret Ts) {x y : UInt64} (hdg : decode cc pc = .ok (.ddiv, 1)) (hne : vf_n64 (FP.ddiv x y)) (k : fmV p l e R s m args below meth c D A G nL o Q σ cells slots lv (.double (FP.ddiv x y) :: rest) (pc + 1)) : fmV p l e R s m args below meth c D A G nL o Q σ cells slots lv (.double y :: .double x :: rest) pc := by
  obtain ⟨hx, hb, hml, hr, hown, hts, hK, hD, hA, hlk⟩ := F
  exact fun H locs ls hP hS hl => lv_ddiv hx hb hdg hne (k H locs ls hP hS hl)
theorem fmV_if_eq (F : fmF p s m args meth c D A G own cc nL ret Ts) {off : Int} {tgt : Nat} {x : Int32} (hdg : decode cc pc = .ok (.ifCond .eq off, 3)) (ht : (pc : Int) + off = (tgt : Int)) (kt : x = 0 → fmV p l e R s m args below meth c D A G nL o Q σ cells slots lv rest tgt) (kf : ¬ x = 0 → fmV p l e R s m args below meth c D A G nL o Q σ cells slots lv rest (pc + 3)) : fmV p l e R s m args below meth c D A G nL o Q σ cells slots lv (.int x :: rest) pc := by
  obtain ⟨hx, hb, hml, hr, hown, hts, hK, hD, hA, hlk⟩ := F
  exact fun H locs ls hP hS hl => lv_if_eq hx hb hdg ht (fun h => kt h H locs ls hP hS hl) (fun h => kf h H locs ls hP hS hl)
theorem fmV_icmp_eq (F : fmF p s m args meth c D A G own cc nL ret Ts) {off : Int} {tgt : Nat} {x y : Int32} (hdg : decode cc pc = .ok (.if_icmp .eq off, 3)) (ht : (pc : Int) + off = (tgt : Int)) (kt : x = y → fmV p l e R s m args below meth c D A G nL o Q σ cells slots lv rest tgt) (kf : ¬ x = y → fmV p l e R s m args below meth c D A G nL o Q σ cells slots lv rest (pc + 3)) : fmV p l e R s m args below meth c D A G nL o Q σ cells slots lv (.int y :: .int x :: rest) pc := by
  obtain ⟨hx, hb, hml, hr, hown, hts, hK, hD, hA, hlk⟩ := F
  exact fun H locs ls hP hS hl => lv_icmp_eq hx hb hdg ht (fun h => kt h H locs ls hP hS hl) (fun h => kf h H locs ls hP hS hl)
theorem fmV_if_ne (F : fmF p s m args meth c D A G own cc nL ret Ts) {off : Int} {tgt : Nat} {x : Int32} (hdg : decode cc pc = .ok (.ifCond .ne off, 3)) (ht : (pc : Int) + off = (tgt : Int)) (kt : x ≠ 0 → fmV p l e R s m args below meth c D A G nL o Q σ cells slots lv rest tgt) (kf : x = 0 → fmV p l e R s m args below meth c D A G nL o Q σ cells slots lv rest (pc + 3)) : fmV p l e R s m args below meth c D A G nL o Q σ cells slots lv (.int x :: rest) pc := by
  obtain ⟨hx, hb, hml, hr, hown, hts, hK, hD, hA, hlk⟩ := F
  exact fun H locs ls hP hS hl => lv_if_ne hx hb hdg ht (fun h => kt h H locs ls hP hS hl) (fun h => kf h H locs ls hP hS hl)
theorem fmV_icmp_ne (F : fmF p s m args meth c D A G own cc nL ret Ts) {off : Int} {tgt : Nat} {x y : Int32} (hdg : decode cc pc = .ok (.if_icmp .ne off, 3)) (ht : (pc : Int) + off = (tgt : Int)) (kt : x ≠ y → fmV p l e R s m args below meth c D A G nL o Q σ cells slots lv rest tgt) (kf : x = y → fmV p l e R s m args below meth c D A G nL o Q σ cells slots lv rest (pc + 3)) : fmV p l e R s m args below meth c D A G nL o Q σ cells slots lv (.int y :: .int x :: rest) pc := by
  obtain ⟨hx, hb, hml, hr, hown, hts, hK, hD, hA, hlk⟩ := F
  exact fun H locs ls hP hS hl => lv_icmp_ne hx hb hdg ht (fun h => kt h H locs ls hP hS hl) (fun h => kf h H locs ls hP hS hl)
theorem fmV_if_lt (F : fmF p s m args meth c D A G own cc nL ret Ts) {off : Int} {tgt : Nat} {x : Int32} (hdg : decode cc pc = .ok (.ifCond .lt off, 3)) (ht : (pc : Int) + off = (tgt : Int)) (kt : x < 0 → fmV p l e R s m args below meth c D A G nL o Q σ cells slots lv rest tgt) (kf : ¬ x < 0 → fmV p l e R s m args below meth c D A G nL o Q σ cells slots lv rest (pc + 3)) : fmV p l e R s m args below meth c D A G nL o Q σ cells slots lv (.int x :: rest) pc := by
  obtain ⟨hx, hb, hml, hr, hown, hts, hK, hD, hA, hlk⟩ := F
  exact fun H locs ls hP hS hl => lv_if_lt hx hb hdg ht (fun h => kt h H locs ls hP hS hl) (fun h => kf h H locs ls hP hS hl)
theorem fmV_icmp_lt (F : fmF p s m args meth c D A G own cc nL ret Ts) {off : Int} {tgt : Nat} {x y : Int32} (hdg : decode cc pc = .ok (.if_icmp .lt off, 3)) (ht : (pc : Int) + off = (tgt : Int)) (kt : x < y → fmV p l e R s m args below meth c D A G nL o Q σ cells slots lv rest tgt) (kf : ¬ x < y → fmV p l e R s m args below meth c D A G nL o Q σ cells slots lv rest (pc + 3)) : fmV p l e R s m args below meth c D A G nL o Q σ cells slots lv (.int y :: .int x :: rest) pc := by
  obtain ⟨hx, hb, hml, hr, hown, hts, hK, hD, hA, hlk⟩ := F
  exact fun H locs ls hP hS hl => lv_icmp_lt hx hb hdg ht (fun h => kt h H locs ls hP hS hl) (fun h => kf h H locs ls hP hS hl)
theorem fmV_if_ge (F : fmF p s m args meth c D A G own cc nL ret Ts) {off : Int} {tgt : Nat} {x : Int32} (hdg : decode cc pc = .ok (.ifCond .ge off, 3)) (ht : (pc : Int) + off = (tgt : Int)) (kt : 0 ≤ x → fmV p l e R s m args below meth c D A G nL o Q σ cells slots lv rest tgt) (kf : ¬ 0 ≤ x → fmV p l e R s m args below meth c D A G nL o Q σ cells slots lv rest (pc + 3)) : fmV p l e R s m args below meth c D A G nL o Q σ cells slots lv (.int x :: rest) pc := by
  obtain ⟨hx, hb, hml, hr, hown, hts, hK, hD, hA, hlk⟩ := F
  exact fun H locs ls hP hS hl => lv_if_ge hx hb hdg ht (fun h => kt h H locs ls hP hS hl) (fun h => kf h H locs ls hP hS hl)
theorem fmV_icmp_ge (F : fmF p s m args meth c D A G own cc nL ret Ts) {off : Int} {tgt : Nat} {x y : Int32} (hdg : decode cc pc = .ok (.if_icmp .ge off, 3)) (ht : (pc : Int) + off = (tgt : Int)) (kt : y ≤ x → fmV p l e R s m args below meth c D A G nL o Q σ cells slots lv rest tgt) (kf : ¬ y ≤ x → fmV p l e R s m args below meth c D A G nL o Q σ cells slots lv rest (pc + 3)) : fmV p l e R s m args below meth c D A G nL o Q σ cells slots lv (.int y :: .int x :: rest) pc := by
  obtain ⟨hx, hb, hml, hr, hown, hts, hK, hD, hA, hlk⟩ := F
  exact fun H locs ls hP hS hl => lv_icmp_ge hx hb hdg ht (fun h => kt h H locs ls hP hS hl) (fun h => kf h H locs ls hP hS hl)
theorem fmV_if_gt (F : fmF p s m args meth c D A G own cc nL ret Ts) {off : Int} {tgt : Nat} {x : Int32} (hdg : decode cc pc = .ok (.ifCond .gt off, 3)) (ht : (pc : Int) + off = (tgt : Int)) (kt : 0 < x → fmV p l e R s m args below meth c D A G nL o Q σ cells slots lv rest tgt) (kf : ¬ 0 < x → fmV p l e R s m args below meth c D A G nL o Q σ cells slots lv rest (pc + 3)) : fmV p l e R s m args below meth c D A G nL o Q σ cells slots lv (.int x :: rest) pc := by
  obtain ⟨hx, hb, hml, hr, hown, hts, hK, hD, hA, hlk⟩ := F
  exact fun H locs ls hP hS hl => lv_if_gt hx hb hdg ht (fun h => kt h H locs ls hP hS hl) (fun h => kf h H locs ls hP hS hl)
theorem fmV_icmp_gt (F : fmF p s m args meth c D A G own cc nL ret Ts) {off : Int} {tgt : Nat} {x y : Int32} (hdg : decode cc pc = .ok (.if_icmp .gt off, 3)) (ht : (pc : Int) + off = (tgt : Int)) (kt : y < x → fmV p l e R s m args below meth c D A G nL o Q σ cells slots lv rest tgt) (kf : ¬ y < x → fmV p l e R s m args below meth c D A G nL o Q σ cells slots lv rest (pc + 3)) : fmV p l e R s m args below meth c D A G nL o Q σ cells slots lv (.int y :: .int x :: rest) pc := by
  obtain ⟨hx, hb, hml, hr, hown, hts, hK, hD, hA, hlk⟩ := F
  exact fun H locs ls hP hS hl => lv_icmp_gt hx hb hdg ht (fun h => kt h H locs ls hP hS hl) (fun h => kf h H locs ls hP hS hl)
theorem fmV_if_le (F : fmF p s m args meth c D A G own cc nL ret Ts) {off : Int} {tgt : Nat} {x : Int32} (hdg : decode cc pc = .ok (.ifCond .le off, 3)) (ht : (pc : Int) + off = (tgt : Int)) (kt : x ≤ 0 → fmV p l e R s m args below meth c D A G nL o Q σ cells slots lv rest tgt) (kf : ¬ x ≤ 0 → fmV p l e R s m args below meth c D A G nL o Q σ cells slots lv rest (pc + 3)) : fmV p l e R s m args below meth c D A G nL o Q σ cells slots lv (.int x :: rest) pc := by
  obtain ⟨hx, hb, hml, hr, hown, hts, hK, hD, hA, hlk⟩ := F
  exact fun H locs ls hP hS hl => lv_if_le hx hb hdg ht (fun h => kt h H locs ls hP hS hl) (fun h => kf h H locs ls hP hS hl)
theorem fmV_icmp_le (F : fmF p s m args meth c D A G own cc nL ret Ts) {off : Int} {tgt : Nat} {x y : Int32} (hdg : decode cc pc = .ok (.if_icmp .le off, 3)) (ht : (pc : Int) + off = (tgt : Int)) (kt : x ≤ y → fmV p l e R s m args below meth c D A G nL o Q σ cells slots lv rest tgt) (kf : ¬ x ≤ y → fmV p l e R s m args below meth c D A G nL o Q σ cells slots lv rest (pc + 3)) : fmV p l e R s m args below meth c D A G nL o Q σ cells slots lv (.int y :: .int x :: rest) pc := by
  obtain ⟨hx, hb, hml, hr, hown, hts, hK, hD, hA, hlk⟩ := F
  exact fun H locs ls hP hS hl => lv_icmp_le hx hb hdg ht (fun h => kt h H locs ls hP hS hl) (fun h => kf h H locs ls hP hS hl)
theorem fmV_goto (F : fmF p s m args meth c D A G own cc nL ret Ts) {off : Int} {tgt : Nat} (hdg : decode cc pc = .ok (.goto off, 3)) (ht : (pc : Int) + off = (tgt : Int)) (k : fmV p l e R s m args below meth c D A G nL o Q σ cells slots lv st tgt) : fmV p l e R s m args below meth c D A G nL o Q σ cells slots lv st pc := by
  obtain ⟨hx, hb, hml, hr, hown, hts, hK, hD, hA, hlk⟩ := F
  exact fun H locs ls hP hS hl => lv_goto hx hb hdg ht (k H locs ls hP hS hl)
theorem fmV_ifnull (F : fmF p s m args meth c D A G own cc nL ret Ts) {off : Int} {x : Nat} (hdg : decode cc pc = .ok (.ifnull off, 3)) (k : fmV p l e R s m args below meth c D A G nL o Q σ cells slots lv rest (pc + 3)) : fmV p l e R s m args below meth c D A G nL o Q σ cells slots lv (.ref x :: rest) pc := by
  obtain ⟨hx, hb, hml, hr, hown, hts, hK, hD, hA, hlk⟩ := F
  exact fun H locs ls hP hS hl => lv_ifnull hx hb hdg (k H locs ls hP hS hl)
theorem fmV_ifnonnullN (F : fmF p s m args meth c D A G own cc nL ret Ts) {off : Int}  (hdg : decode cc pc = .ok (.ifnonnull off, 3)) (k : fmV p l e R s m args below meth c D A G nL o Q σ cells slots lv rest (pc + 3)) : fmV p l e R s m args below meth c D A G nL o Q σ cells slots lv (.null :: rest) pc := by
  obtain ⟨hx, hb, hml, hr, hown, hts, hK, hD, hA, hlk⟩ := F
  exact fun H locs ls hP hS hl => lv_ifnonnullN hx hb hdg (k H locs ls hP hS hl)
theorem fmV_ifnullN (F : fmF p s m args meth c D A G own cc nL ret Ts) {off : Int} {tgt : Nat}  (hdg : decode cc pc = .ok (.ifnull off, 3)) (ht : (pc : Int) + off = (tgt : Int)) (k : fmV p l e R s m args below meth c D A G nL o Q σ cells slots lv rest tgt) : fmV p l e R s m args below meth c D A G nL o Q σ cells slots lv (.null :: rest) pc := by
  obtain ⟨hx, hb, hml, hr, hown, hts, hK, hD, hA, hlk⟩ := F
  exact fun H locs ls hP hS hl => lv_ifnullN hx hb hdg ht (k H locs ls hP hS hl)
theorem fmV_ifnonnull (F : fmF p s m args meth c D A G own cc nL ret Ts) {off : Int} {tgt : Nat} {x : Nat} (hdg : decode cc pc = .ok (.ifnonnull off, 3)) (ht : (pc : Int) + off = (tgt : Int)) (k : fmV p l e R s m args below meth c D A G nL o Q σ cells slots lv rest tgt) : fmV p l e R s m args below meth c D A G nL o Q σ cells slots lv (.ref x :: rest) pc := by
  obtain ⟨hx, hb, hml, hr, hown, hts, hK, hD, hA, hlk⟩ := F
  exact fun H locs ls hP hS hl => lv_ifnonnull hx hb hdg ht (k H locs ls hP hS hl)
theorem fmV_ldc2 (F : fmF p s m args meth c D A G own cc nL ret Ts) {index : Nat} {v : Int64} (hdg : decode cc pc = .ok (.ldc2_w index, 3)) (hc : Jvm.Cond.constantLong own index v ∈ Ts) (k : fmV p l e R s m args below meth c D A G nL o Q σ cells slots lv (.long v :: rest) (pc + 3)) : fmV p l e R s m args below meth c D A G nL o Q σ cells slots lv rest pc := by
  obtain ⟨hx, hb, hml, hr, hown, hts, hK, hD, hA, hlk⟩ := F
  exact fun H locs ls hP hS hl => lv_ldc2 hx hb hown (hts _ hc) hdg (k H locs ls hP hS hl)
theorem fmV_tableIn (F : fmF p s m args meth c D A G own cc nL ret Ts) {dflt lo hi : Int} {offs : Array Int} {len : Nat} {x : Int32} {off : Int} {tgt : Nat} (hdg : decode cc pc = .ok (.tableswitch dflt lo hi offs, len)) (h1 : ¬ x.toInt < lo) (h2 : ¬ hi < x.toInt) (ho : offs[(x.toInt - lo).toNat]? = some off) (ht : (pc : Int) + off = (tgt : Int)) (k : fmV p l e R s m args below meth c D A G nL o Q σ cells slots lv rest tgt) : fmV p l e R s m args below meth c D A G nL o Q σ cells slots lv (.int x :: rest) pc := by
  obtain ⟨hx, hb, hml, hr, hown, hts, hK, hD, hA, hlk⟩ := F
  exact fun H locs ls hP hS hl => lv_tableIn hx hb hdg h1 h2 ho ht (k H locs ls hP hS hl)
theorem fmV_tableOut (F : fmF p s m args meth c D A G own cc nL ret Ts) {dflt lo hi : Int} {offs : Array Int} {len : Nat} {x : Int32} {tgt : Nat} (hdg : decode cc pc = .ok (.tableswitch dflt lo hi offs, len)) (h : x.toInt < lo ∨ hi < x.toInt) (ht : (pc : Int) + dflt = (tgt : Int)) (k : fmV p l e R s m args below meth c D A G nL o Q σ cells slots lv rest tgt) : fmV p l e R s m args below meth c D A G nL o Q σ cells slots lv (.int x :: rest) pc := by
  obtain ⟨hx, hb, hml, hr, hown, hts, hK, hD, hA, hlk⟩ := F
  exact fun H locs ls hP hS hl => lv_tableOut hx hb hdg h ht (k H locs ls hP hS hl)
theorem fmV_iald (F : fmF p s m args meth c D A G own cc nL ret Ts) {kd a b n i0 : Nat} (hid : (kd, a, b) ∈ fmIds) (hc : ∀ τ : fmS, fmC G τ o (kd, a, b) = .inl (G.2 0, n, .inl (τ kd a b))) {i : Int32} (hdg : decode cc pc = .ok (.iaload, 1)) (hin : vp_in i n) (hi : i.toNatClampNeg = i0) (k : fmV p l e R s m args below meth c D A G nL o Q σ cells slots lv (.int (σ kd a b i0) :: rest) (pc + 1)) : fmV p l e R s m args below meth c D A G nL o Q σ cells slots lv (.int i :: .ref (G.1 kd a b) :: rest) pc := by
  obtain ⟨hx, hb, hml, hr, hown, hts, hK, hD, hA, hlk⟩ := F
  intro H locs ls hP hS hl
  subst hi
  obtain ⟨q0, -, hq⟩ := fmW_get G σ o hid
  rw [hc] at hq
  exact va_iald hx hb hK hP q0 0 hq rfl hin hdg (k H locs ls hP hS hl)
theorem fmV_zald (F : fmF p s m args meth c D A G own cc nL ret Ts) {i0 : Nat} {i : Int32} (hdg : decode cc pc = .ok (.baload, 1)) (hin : vp_in i 14) (hi : i.toNatClampNeg = i0) (k : fmV p l e R s m args below meth c D A G nL o Q σ cells slots lv (.int (σ 22 0 0 i0) :: rest) (pc + 1)) : fmV p l e R s m args below meth c D A G nL o Q σ cells slots lv (.int i :: .ref (G.1 22 0 0) :: rest) pc := by
  obtain ⟨hx, hb, hml, hr, hown, hts, hK, hD, hA, hlk⟩ := F
  intro H locs ls hP hS hl
  subst hi
  obtain ⟨q0, -, hq⟩ := fmW_get G σ o (i := (22, 0, 0)) (fm_mem (a := 1) (b := 1) (by decide +kernel) (by decide) (by decide))
  exact va_zald hx hb hK hP q0 1 hq rfl hin hdg (k H locs ls hP hS hl)
theorem fmV_iast (F : fmF p s m args meth c D A G own cc nL ret Ts) {kd a b n i0 : Nat} (hid : (kd, a, b) ∈ fmIds) (hc : ∀ τ : fmS, fmC G τ o (kd, a, b) = .inl (G.2 0, n, .inl (τ kd a b))) {i x : Int32} (hk : fmO kd = kd) (hdg : decode cc pc = .ok (.iastore, 1)) (hin : vp_in i n) (hi : i.toNatClampNeg = i0) (k : fmV p l e R s m args below meth c D A G nL o Q (fmu σ kd a b (upd (σ kd a b) i0 x)) cells slots lv rest (pc + 1)) : fmV p l e R s m args below meth c D A G nL o Q σ cells slots lv (.int x :: .int i :: .ref (G.1 kd a b) :: rest) pc := by
  obtain ⟨hx, hb, hml, hr, hown, hts, hK, hD, hA, hlk⟩ := F
  intro H locs ls hP hS hl
  subst hi
  obtain ⟨q0, h0, hq⟩ := fmW_get G σ o hid
  have hq' := hq
  rw [hc] at hq'
  refine va_iast hx hb hK hP (hD σ o) hS q0 0 hq' rfl hin hdg (fun H1 locs1 hP1 hD1 hS1 => k H1 locs1 ls ?_ hS1 hl)
  have e := fmW_set (σ' := fmu σ kd a b (upd (σ kd a b) i.toNatClampNeg x)) (o' := o) (hD σ o) h0 rfl (fun j hj => fmC_off j (by rw [hk]; exact hj))
  rw [hc, fmu_self] at e
  exact e ▸ hP1
theorem fmV_zast (F : fmF p s m args meth c D A G own cc nL ret Ts) {i0 : Nat} {i x : Int32} (hdg : decode cc pc = .ok (.bastore, 1)) (hin : vp_in i 14) (hi : i.toNatClampNeg = i0) (k : fmV p l e R s m args below meth c D A G nL o Q (fmu σ 22 0 0 (upd (σ 22 0 0) i0 (vp_nar .boolean x))) cells slots lv rest (pc + 1)) : fmV p l e R s m args below meth c D A G nL o Q σ cells slots lv (.int x :: .int i :: .ref (G.1 22 0 0) :: rest) pc := by
  obtain ⟨hx, hb, hml, hr, hown, hts, hK, hD, hA, hlk⟩ := F
  intro H locs ls hP hS hl
  subst hi
  obtain ⟨q0, h0, hq⟩ := fmW_get G σ o (i := (22, 0, 0)) (fm_mem (a := 1) (b := 1) (by decide +kernel) (by decide) (by decide))
  refine va_zast hx hb hK hP (hD σ o) hS q0 1 hq rfl hin hdg (fun H1 locs1 hP1 hD1 hS1 => k H1 locs1 ls ?_ hS1 hl)
  have e := fmW_set (σ' := fmu σ 22 0 0 (upd (σ 22 0 0) i.toNatClampNeg (vp_nar .boolean x))) (o' := o) (hD σ o) h0 rfl (fun j hj => fmC_off j hj)
  rw [fmC_is_22, fmC_22, fmu_self] at e
  exact e ▸ hP1
theorem fmV_ald_rows (F : fmF p s m args meth c D A G own cc nL ret Ts) {a i0 : Nat} (ha : a < 2) {i : Int32} (hdg : decode cc pc = .ok (.aaload, 1)) (hin : vp_in i 4) (hi : i.toNatClampNeg = i0) (k : fmV p l e R s m args below meth c D A G nL o Q σ cells slots lv (.ref (G.1 7 a i0) :: rest) (pc + 1)) : fmV p l e R s m args below meth c D A G nL o Q σ cells slots lv (.int i :: .ref (G.1 5 a 0) :: rest) pc := by
  obtain ⟨hx, hb, hml, hr, hown, hts, hK, hD, hA, hlk⟩ := F
  intro H locs ls hP hS hl
  subst hi
  obtain ⟨q0, -, hq⟩ := fmW_get G σ o (i := (5, a, 0)) (fm_mem (a := 2) (b := 1) (by decide +kernel) ha (by decide))
  exact va_aldq hx hb hK hP q0 3 hq rfl hin hdg (k H locs ls hP hS hl)
theorem fmV_ald_canoes (F : fmF p s m args meth c D A G own cc nL ret Ts) {a i0 : Nat} (ha : a < 2) {i : Int32} (hdg : decode cc pc = .ok (.aaload, 1)) (hin : vp_in i 14) (hi : i.toNatClampNeg = i0) (k : fmV p l e R s m args below meth c D A G nL o Q σ cells slots lv (.ref (G.1 9 a i0) :: rest) (pc + 1)) : fmV p l e R s m args below meth c D A G nL o Q σ cells slots lv (.int i :: .ref (G.1 6 a 0) :: rest) pc := by
  obtain ⟨hx, hb, hml, hr, hown, hts, hK, hD, hA, hlk⟩ := F
  intro H locs ls hP hS hl
  subst hi
  obtain ⟨q0, -, hq⟩ := fmW_get G σ o (i := (6, a, 0)) (fm_mem (a := 2) (b := 1) (by decide +kernel) ha (by decide))
  exact va_aldq hx hb hK hP q0 4 hq rfl hin hdg (k H locs ls hP hS hl)
theorem fmV_alen (F : fmF p s m args meth c D A G own cc nL ret Ts) {kd a b n : Nat} (hid : (kd, a, b) ∈ fmIds) (hc : ∀ τ : fmS, fmC G τ o (kd, a, b) = .inl (G.2 0, n, .inl (τ kd a b))) {v : Int32} (hdg : decode cc pc = .ok (.arraylength, 1)) (hv : Int32.ofNat n = v) (k : fmV p l e R s m args below meth c D A G nL o Q σ cells slots lv (.int v :: rest) (pc + 1)) : fmV p l e R s m args below meth c D A G nL o Q σ cells slots lv (.ref (G.1 kd a b) :: rest) pc := by
  obtain ⟨hx, hb, hml, hr, hown, hts, hK, hD, hA, hlk⟩ := F
  intro H locs ls hP hS hl
  obtain ⟨q0, -, hq⟩ := fmW_get G σ o hid
  rw [hc] at hq
  exact va_alen hx hb hK hP q0 0 hq rfl hv hdg (k H locs ls hP hS hl)
theorem fmV_copyi (F : fmF p s m args meth c D A G own cc nL ret Ts) {kd a b n kd1 a1 b1 n1 index : Nat} (hid : (kd, a, b) ∈ fmIds) (hc : ∀ τ : fmS, fmC G τ o (kd, a, b) = .inl (G.2 0, n, .inl (τ kd a b))) (hid1 : (kd1, a1, b1) ∈ fmIds) (hc1 : ∀ τ : fmS, fmC G τ o (kd1, a1, b1) = .inl (G.2 0, n1, .inl (τ kd1 a1 b1))) (hk1 : fmO kd1 = kd1) (hdg : decode cc pc = .ok (.invokestatic index, 3)) (hw : Cond.methodLink own index arraycopyName ∈ Ts ∧ Cond.native arraycopyName ∈ Ts ∧ Cond.static arraycopyName ∈ Ts ∧ Cond.initialized "java/lang/System" ∈ Ts) {z : Int32} (hn : ¬ z < 0) (h4 : z.toNatClampNeg ≤ n) (h5 : z.toNatClampNeg ≤ n1) (hframes : 1 ≤ R.frames) (hlocals : (rest.map fun v => v.category).sum + (nativeFrameWords "java/lang/System" "arraycopy" 5 + 11) ≤ R.locals) (k : fmV p l e R s m args below meth c D A G nL o Q (fmu σ kd1 a1 b1 (va_cpy (σ kd a b) (σ kd1 a1 b1) 0 0 z.toNatClampNeg)) cells slots lv rest (pc + 3)) : fmV p l e R s m args below meth c D A G nL o Q σ cells slots lv (.int z :: .int 0 :: .ref (G.1 kd1 a1 b1) :: .int 0 :: .ref (G.1 kd a b) :: rest) pc := by
  obtain ⟨hx, hb, hml, hr, hown, hts, hK, hD, hA, hlk⟩ := F
  intro H locs ls hP hS hl
  obtain ⟨q0, h0, hq⟩ := fmW_get G σ o hid
  obtain ⟨q1, h1, hq1⟩ := fmW_get G σ o hid1
  rw [hc] at hq
  have hq1' := hq1
  rw [hc1] at hq1'
  refine va_copyi hx hb (hml.trans hl.1.symm) hown (hts _ hw.1) (hts _ hw.2.1) (hts _ hw.2.2.1) (hts _ hw.2.2.2) hK hP (hD σ o) hS q0 q1 0 0 hq hq1' rfl rfl rfl (by decide) (by decide) hn (by rw [show (0 : Int32).toNatClampNeg = 0 from rfl]; omega) (by rw [show (0 : Int32).toNatClampNeg = 0 from rfl]; omega) (fun i _ => rfl) hframes hlocals hdg (fun H1 locs1 hP1 hD1 hS1 => k H1 locs1 ls ?_ hS1 hl)
  have e := fmW_set (σ' := fmu σ kd1 a1 b1 (va_cpy (σ kd a b) (σ kd1 a1 b1) 0 0 z.toNatClampNeg)) (o' := o) (hD σ o) h1 rfl (fun j hj => fmC_off j (by rw [hk1]; exact hj))
  rw [hc1, fmu_self] at e
  exact e ▸ hP1
theorem fmV_get (F : fmF p s m args meth c D A G own cc nL ret Ts) {kd a b ci index : Nat} {C : String} {T : u_T} {N : Nat} {fs : List Value} (hid : (kd, a, b) ∈ fmIds) (hc : fmC G σ o (kd, a, b) = .inr (ci, fs)) (hcl : vwCl[ci]? = some (C, T, N)) (hin : ∀ w ∈ u_ws C T N, w ∈ Ts) (kf : Nat) (hkf : kf < N) {v : Value} (hv : fs[kf]? = some v) (hdg : decode cc pc = .ok (.getfield index, 3)) (hlink : Cond.fieldLink own index (T kf).1 (T kf).2.1 (T kf).2.2.1 ∈ Ts) (k : fmV p l e R s m args below meth c D A G nL o Q σ cells slots lv (v :: rest) (pc + 3)) : fmV p l e R s m args below meth c D A G nL o Q σ cells slots lv (.ref (G.1 kd a b) :: rest) pc := by
  obtain ⟨hx, hb, hml, hr, hown, hts, hK, hD, hA, hlk⟩ := F
  intro H locs ls hP hS hl
  obtain ⟨q0, -, hq⟩ := fmW_get G σ o hid
  rw [hc] at hq
  exact va_get hx hb hts hin hown hK hP q0 hq hcl kf hkf (hts _ hlink) (fun _ h9 => h9) hv hdg (k H locs ls hP hS hl)
theorem fmV_put (F : fmF p s m args meth c D A G own cc nL ret Ts) {kd a b ci index col : Nat} {C : String} {T : u_T} {N : Nat} {fs : List Value} {x : Int32} (hid : (kd, a, b) ∈ fmIds) (hc : fmC G σ o (kd, a, b) = .inr (ci, fs)) (hcl : vwCl[ci]? = some (C, T, N)) (hin : ∀ w ∈ u_ws C T N, w ∈ Ts) (ty0 : Nat → FieldType) (hty : ∀ k, k < N → parseFieldDescriptor (T k).2.2.1 = some (ty0 k)) (hnm : ∀ a, a < N → ∀ b, b < N → a ≠ b → (T a).2.1 ≠ (T b).2.1) (kf : Nat) (hkf : kf < N) (hl9 : kf < fs.length) (hfin : (T kf).2.2.2 = false) (hdt : ty0 kf = .int) (hco : fmO col = kd) (hnew : fmC G (fms σ col a b x) o (kd, a, b) = .inr (ci, fs.set kf (.int x)))
    (hdg : decode cc pc = .ok (.putfield index, 3)) (hlink : Cond.fieldLink own index (T kf).1 (T kf).2.1 (T kf).2.2.1 ∈ Ts) (k : fmV p l e R s m args below meth c D A G nL o Q (fms σ col a b x) cells slots lv rest (pc + 3)) : fmV p l e R s m args below meth c D A G nL o Q σ cells slots lv (.int x :: .ref (G.1 kd a b) :: rest) pc := by
  obtain ⟨hx, hb, hml, hr, hown, hts, hK, hD, hA, hlk⟩ := F
  intro H locs ls hP hS hl
  obtain ⟨q0, h0, hq⟩ := fmW_get G σ o hid
  rw [hc] at hq
  refine va_put hx hb hts hin ty0 hty hnm hown hK hP (hD σ o) hS q0 hq hcl kf hkf (hts _ hlink) (fun _ h9 => h9) hfin (ty := .int) (hdt ▸ hty kf hkf) rfl rfl hl9 hdg (fun H1 locs1 hP1 hD1 hS1 => k H1 locs1 ls ?_ hS1 hl)
  have e := fmW_set (σ' := fms σ col a b x) (o' := o) (hD σ o) h0 rfl (fun j hj => fmC_off j (by rw [hco]; exact hj))
  rw [hnew] at e
  exact e ▸ hP1
theorem fmg_0_water (F : fmF p s m args meth c D A G own cc nL ret Ts) {index : Nat}  (hin : ∀ w ∈ wsX40, w ∈ Ts) (hdg : decode cc pc = .ok (.getfield index, 3)) (hlink : Cond.fieldLink own index (TX4 0).1 (TX4 0).2.1 (TX4 0).2.2.1 ∈ Ts) (k : fmV p l e R s m args below meth c D A G nL o Q σ cells slots lv (.ref (G.1 1 0 0) :: rest) (pc + 3)) : fmV p l e R s m args below meth c D A G nL o Q σ cells slots lv (.ref (G.1 0 0 0) :: rest) pc :=
  fmV_get F (fm_mem (a := 1) (b := 1) (by decide +kernel) (by decide) (by decide)) (fmC_is_0 G σ o 0 0) rfl hin 0 (by decide) rfl hdg hlink k
theorem fmg_0_now (F : fmF p s m args meth c D A G own cc nL ret Ts) {index : Nat}  (hin : ∀ w ∈ wsX40, w ∈ Ts) (hdg : decode cc pc = .ok (.getfield index, 3)) (hlink : Cond.fieldLink own index (TX4 1).1 (TX4 1).2.1 (TX4 1).2.2.1 ∈ Ts) (k : fmV p l e R s m args below meth c D A G nL o Q σ cells slots lv (.ref (G.1 4 0 0) :: rest) (pc + 3)) : fmV p l e R s m args below meth c D A G nL o Q σ cells slots lv (.ref (G.1 0 0 0) :: rest) pc :=
  fmV_get F (fm_mem (a := 1) (b := 1) (by decide +kernel) (by decide) (by decide)) (fmC_is_0 G σ o 0 0) rfl hin 1 (by decide) rfl hdg hlink k
theorem fmg_0_trial (F : fmF p s m args meth c D A G own cc nL ret Ts) {index : Nat}  (hin : ∀ w ∈ wsX40, w ∈ Ts) (hdg : decode cc pc = .ok (.getfield index, 3)) (hlink : Cond.fieldLink own index (TX4 2).1 (TX4 2).2.1 (TX4 2).2.2.1 ∈ Ts) (k : fmV p l e R s m args below meth c D A G nL o Q σ cells slots lv (.ref (G.1 4 1 0) :: rest) (pc + 3)) : fmV p l e R s m args below meth c D A G nL o Q σ cells slots lv (.ref (G.1 0 0 0) :: rest) pc :=
  fmV_get F (fm_mem (a := 1) (b := 1) (by decide +kernel) (by decide) (by decide)) (fmC_is_0 G σ o 0 0) rfl hin 2 (by decide) rfl hdg hlink k
theorem fmg_1_tides (F : fmF p s m args meth c D A G own cc nL ret Ts) {index : Nat}  (hin : ∀ w ∈ wsX30, w ∈ Ts) (hdg : decode cc pc = .ok (.getfield index, 3)) (hlink : Cond.fieldLink own index (TX3 0).1 (TX3 0).2.1 (TX3 0).2.2.1 ∈ Ts) (k : fmV p l e R s m args below meth c D A G nL o Q σ cells slots lv (.ref (G.1 2 0 0) :: rest) (pc + 3)) : fmV p l e R s m args below meth c D A G nL o Q σ cells slots lv (.ref (G.1 1 0 0) :: rest) pc :=
  fmV_get F (fm_mem (a := 1) (b := 1) (by decide +kernel) (by decide) (by decide)) (fmC_is_1 G σ o 0 0) rfl hin 0 (by decide) rfl hdg hlink k
theorem fmg_1_wakes (F : fmF p s m args meth c D A G own cc nL ret Ts) {index : Nat}  (hin : ∀ w ∈ wsX30, w ∈ Ts) (hdg : decode cc pc = .ok (.getfield index, 3)) (hlink : Cond.fieldLink own index (TX3 1).1 (TX3 1).2.1 (TX3 1).2.2.1 ∈ Ts) (k : fmV p l e R s m args below meth c D A G nL o Q σ cells slots lv (.ref (G.1 3 0 0) :: rest) (pc + 3)) : fmV p l e R s m args below meth c D A G nL o Q σ cells slots lv (.ref (G.1 1 0 0) :: rest) pc :=
  fmV_get F (fm_mem (a := 1) (b := 1) (by decide +kernel) (by decide) (by decide)) (fmC_is_1 G σ o 0 0) rfl hin 1 (by decide) rfl hdg hlink k
theorem fmg_4_water (F : fmF p s m args meth c D A G own cc nL ret Ts) {a index : Nat} (ha : a < 2) (hin : ∀ w ∈ wsX10, w ∈ Ts) (hdg : decode cc pc = .ok (.getfield index, 3)) (hlink : Cond.fieldLink own index (TX1 0).1 (TX1 0).2.1 (TX1 0).2.2.1 ∈ Ts) (k : fmV p l e R s m args below meth c D A G nL o Q σ cells slots lv (.ref (G.1 1 0 0) :: rest) (pc + 3)) : fmV p l e R s m args below meth c D A G nL o Q σ cells slots lv (.ref (G.1 4 a 0) :: rest) pc :=
  fmV_get F (fm_mem (a := 2) (b := 1) (by decide +kernel) ha (by decide)) (fmC_is_4 G σ o a 0) rfl hin 0 (by decide) rfl hdg hlink k
theorem fmg_4_rows (F : fmF p s m args meth c D A G own cc nL ret Ts) {a index : Nat} (ha : a < 2) (hin : ∀ w ∈ wsX10, w ∈ Ts) (hdg : decode cc pc = .ok (.getfield index, 3)) (hlink : Cond.fieldLink own index (TX1 1).1 (TX1 1).2.1 (TX1 1).2.2.1 ∈ Ts) (k : fmV p l e R s m args below meth c D A G nL o Q σ cells slots lv (.ref (G.1 5 a 0) :: rest) (pc + 3)) : fmV p l e R s m args below meth c D A G nL o Q σ cells slots lv (.ref (G.1 4 a 0) :: rest) pc :=
  fmV_get F (fm_mem (a := 2) (b := 1) (by decide +kernel) ha (by decide)) (fmC_is_4 G σ o a 0) rfl hin 1 (by decide) rfl hdg hlink k
theorem fmg_4_canoes (F : fmF p s m args meth c D A G own cc nL ret Ts) {a index : Nat} (ha : a < 2) (hin : ∀ w ∈ wsX10, w ∈ Ts) (hdg : decode cc pc = .ok (.getfield index, 3)) (hlink : Cond.fieldLink own index (TX1 2).1 (TX1 2).2.1 (TX1 2).2.2.1 ∈ Ts) (k : fmV p l e R s m args below meth c D A G nL o Q σ cells slots lv (.ref (G.1 6 a 0) :: rest) (pc + 3)) : fmV p l e R s m args below meth c D A G nL o Q σ cells slots lv (.ref (G.1 4 a 0) :: rest) pc :=
  fmV_get F (fm_mem (a := 2) (b := 1) (by decide +kernel) ha (by decide)) (fmC_is_4 G σ o a 0) rfl hin 2 (by decide) rfl hdg hlink k
theorem fmg_4_rowCount (F : fmF p s m args meth c D A G own cc nL ret Ts) {a index : Nat} (ha : a < 2) (hin : ∀ w ∈ wsX10, w ∈ Ts) (hdg : decode cc pc = .ok (.getfield index, 3)) (hlink : Cond.fieldLink own index (TX1 3).1 (TX1 3).2.1 (TX1 3).2.2.1 ∈ Ts) (k : fmV p l e R s m args below meth c D A G nL o Q σ cells slots lv (.int (σ 40 a 0 0) :: rest) (pc + 3)) : fmV p l e R s m args below meth c D A G nL o Q σ cells slots lv (.ref (G.1 4 a 0) :: rest) pc :=
  fmV_get F (fm_mem (a := 2) (b := 1) (by decide +kernel) ha (by decide)) (fmC_is_4 G σ o a 0) rfl hin 3 (by decide) rfl hdg hlink k
theorem fmp_4_rowCount (F : fmF p s m args meth c D A G own cc nL ret Ts) {a index : Nat} {x : Int32} (ha : a < 2) (hin : ∀ w ∈ wsX10, w ∈ Ts) (hdg : decode cc pc = .ok (.putfield index, 3)) (hlink : Cond.fieldLink own index (TX1 3).1 (TX1 3).2.1 (TX1 3).2.2.1 ∈ Ts) (k : fmV p l e R s m args below meth c D A G nL o Q (fms σ 40 a 0 x) cells slots lv rest (pc + 3)) : fmV p l e R s m args below meth c D A G nL o Q σ cells slots lv (.int x :: .ref (G.1 4 a 0) :: rest) pc :=
  fmV_put F (fm_mem (a := 2) (b := 1) (by decide +kernel) ha (by decide)) (fmC_is_4 G σ o a 0) rfl hin tyX1 tyX1_ok nmX1 3 (by decide) (Nat.le_of_ble_eq_true rfl) rfl rfl rfl (fmP_4_3 G σ o a 0 x) hdg hlink k
theorem fmg_4_canoeCount (F : fmF p s m args meth c D A G own cc nL ret Ts) {a index : Nat} (ha : a < 2) (hin : ∀ w ∈ wsX10, w ∈ Ts) (hdg : decode cc pc = .ok (.getfield index, 3)) (hlink : Cond.fieldLink own index (TX1 4).1 (TX1 4).2.1 (TX1 4).2.2.1 ∈ Ts) (k : fmV p l e R s m args below meth c D A G nL o Q σ cells slots lv (.int (σ 41 a 0 0) :: rest) (pc + 3)) : fmV p l e R s m args below meth c D A G nL o Q σ cells slots lv (.ref (G.1 4 a 0) :: rest) pc :=
  fmV_get F (fm_mem (a := 2) (b := 1) (by decide +kernel) ha (by decide)) (fmC_is_4 G σ o a 0) rfl hin 4 (by decide) rfl hdg hlink k
theorem fmp_4_canoeCount (F : fmF p s m args meth c D A G own cc nL ret Ts) {a index : Nat} {x : Int32} (ha : a < 2) (hin : ∀ w ∈ wsX10, w ∈ Ts) (hdg : decode cc pc = .ok (.putfield index, 3)) (hlink : Cond.fieldLink own index (TX1 4).1 (TX1 4).2.1 (TX1 4).2.2.1 ∈ Ts) (k : fmV p l e R s m args below meth c D A G nL o Q (fms σ 41 a 0 x) cells slots lv rest (pc + 3)) : fmV p l e R s m args below meth c D A G nL o Q σ cells slots lv (.int x :: .ref (G.1 4 a 0) :: rest) pc :=
  fmV_put F (fm_mem (a := 2) (b := 1) (by decide +kernel) ha (by decide)) (fmC_is_4 G σ o a 0) rfl hin tyX1 tyX1_ok nmX1 4 (by decide) (Nat.le_of_ble_eq_true rfl) rfl rfl rfl (fmP_4_4 G σ o a 0 x) hdg hlink k
theorem fmg_4_step (F : fmF p s m args meth c D A G own cc nL ret Ts) {a index : Nat} (ha : a < 2) (hin : ∀ w ∈ wsX10, w ∈ Ts) (hdg : decode cc pc = .ok (.getfield index, 3)) (hlink : Cond.fieldLink own index (TX1 5).1 (TX1 5).2.1 (TX1 5).2.2.1 ∈ Ts) (k : fmV p l e R s m args below meth c D A G nL o Q σ cells slots lv (.int (σ 42 a 0 0) :: rest) (pc + 3)) : fmV p l e R s m args below meth c D A G nL o Q σ cells slots lv (.ref (G.1 4 a 0) :: rest) pc :=
  fmV_get F (fm_mem (a := 2) (b := 1) (by decide +kernel) ha (by decide)) (fmC_is_4 G σ o a 0) rfl hin 5 (by decide) rfl hdg hlink k
theorem fmp_4_step (F : fmF p s m args meth c D A G own cc nL ret Ts) {a index : Nat} {x : Int32} (ha : a < 2) (hin : ∀ w ∈ wsX10, w ∈ Ts) (hdg : decode cc pc = .ok (.putfield index, 3)) (hlink : Cond.fieldLink own index (TX1 5).1 (TX1 5).2.1 (TX1 5).2.2.1 ∈ Ts) (k : fmV p l e R s m args below meth c D A G nL o Q (fms σ 42 a 0 x) cells slots lv rest (pc + 3)) : fmV p l e R s m args below meth c D A G nL o Q σ cells slots lv (.int x :: .ref (G.1 4 a 0) :: rest) pc :=
  fmV_put F (fm_mem (a := 2) (b := 1) (by decide +kernel) ha (by decide)) (fmC_is_4 G σ o a 0) rfl hin tyX1 tyX1_ok nmX1 5 (by decide) (Nat.le_of_ble_eq_true rfl) rfl rfl rfl (fmP_4_5 G σ o a 0 x) hdg hlink k
theorem fmg_4_sold (F : fmF p s m args meth c D A G own cc nL ret Ts) {a index : Nat} (ha : a < 2) (hin : ∀ w ∈ wsX10, w ∈ Ts) (hdg : decode cc pc = .ok (.getfield index, 3)) (hlink : Cond.fieldLink own index (TX1 6).1 (TX1 6).2.1 (TX1 6).2.2.1 ∈ Ts) (k : fmV p l e R s m args below meth c D A G nL o Q σ cells slots lv (.int (σ 43 a 0 0) :: rest) (pc + 3)) : fmV p l e R s m args below meth c D A G nL o Q σ cells slots lv (.ref (G.1 4 a 0) :: rest) pc :=
  fmV_get F (fm_mem (a := 2) (b := 1) (by decide +kernel) ha (by decide)) (fmC_is_4 G σ o a 0) rfl hin 6 (by decide) rfl hdg hlink k
theorem fmp_4_sold (F : fmF p s m args meth c D A G own cc nL ret Ts) {a index : Nat} {x : Int32} (ha : a < 2) (hin : ∀ w ∈ wsX10, w ∈ Ts) (hdg : decode cc pc = .ok (.putfield index, 3)) (hlink : Cond.fieldLink own index (TX1 6).1 (TX1 6).2.1 (TX1 6).2.2.1 ∈ Ts) (k : fmV p l e R s m args below meth c D A G nL o Q (fms σ 43 a 0 x) cells slots lv rest (pc + 3)) : fmV p l e R s m args below meth c D A G nL o Q σ cells slots lv (.int x :: .ref (G.1 4 a 0) :: rest) pc :=
  fmV_put F (fm_mem (a := 2) (b := 1) (by decide +kernel) ha (by decide)) (fmC_is_4 G σ o a 0) rfl hin tyX1 tyX1_ok nmX1 6 (by decide) (Nat.le_of_ble_eq_true rfl) rfl rfl rfl (fmP_4_6 G σ o a 0 x) hdg hlink k
theorem fmg_4_paid (F : fmF p s m args meth c D A G own cc nL ret Ts) {a index : Nat} (ha : a < 2) (hin : ∀ w ∈ wsX10, w ∈ Ts) (hdg : decode cc pc = .ok (.getfield index, 3)) (hlink : Cond.fieldLink own index (TX1 7).1 (TX1 7).2.1 (TX1 7).2.2.1 ∈ Ts) (k : fmV p l e R s m args below meth c D A G nL o Q σ cells slots lv (.int (σ 44 a 0 0) :: rest) (pc + 3)) : fmV p l e R s m args below meth c D A G nL o Q σ cells slots lv (.ref (G.1 4 a 0) :: rest) pc :=
  fmV_get F (fm_mem (a := 2) (b := 1) (by decide +kernel) ha (by decide)) (fmC_is_4 G σ o a 0) rfl hin 7 (by decide) rfl hdg hlink k
theorem fmp_4_paid (F : fmF p s m args meth c D A G own cc nL ret Ts) {a index : Nat} {x : Int32} (ha : a < 2) (hin : ∀ w ∈ wsX10, w ∈ Ts) (hdg : decode cc pc = .ok (.putfield index, 3)) (hlink : Cond.fieldLink own index (TX1 7).1 (TX1 7).2.1 (TX1 7).2.2.1 ∈ Ts) (k : fmV p l e R s m args below meth c D A G nL o Q (fms σ 44 a 0 x) cells slots lv rest (pc + 3)) : fmV p l e R s m args below meth c D A G nL o Q σ cells slots lv (.int x :: .ref (G.1 4 a 0) :: rest) pc :=
  fmV_put F (fm_mem (a := 2) (b := 1) (by decide +kernel) ha (by decide)) (fmC_is_4 G σ o a 0) rfl hin tyX1 tyX1_ok nmX1 7 (by decide) (Nat.le_of_ble_eq_true rfl) rfl rfl rfl (fmP_4_7 G σ o a 0 x) hdg hlink k
theorem fmg_4_loosened (F : fmF p s m args meth c D A G own cc nL ret Ts) {a index : Nat} (ha : a < 2) (hin : ∀ w ∈ wsX10, w ∈ Ts) (hdg : decode cc pc = .ok (.getfield index, 3)) (hlink : Cond.fieldLink own index (TX1 8).1 (TX1 8).2.1 (TX1 8).2.2.1 ∈ Ts) (k : fmV p l e R s m args below meth c D A G nL o Q σ cells slots lv (.int (σ 45 a 0 0) :: rest) (pc + 3)) : fmV p l e R s m args below meth c D A G nL o Q σ cells slots lv (.ref (G.1 4 a 0) :: rest) pc :=
  fmV_get F (fm_mem (a := 2) (b := 1) (by decide +kernel) ha (by decide)) (fmC_is_4 G σ o a 0) rfl hin 8 (by decide) rfl hdg hlink k
theorem fmp_4_loosened (F : fmF p s m args meth c D A G own cc nL ret Ts) {a index : Nat} {x : Int32} (ha : a < 2) (hin : ∀ w ∈ wsX10, w ∈ Ts) (hdg : decode cc pc = .ok (.putfield index, 3)) (hlink : Cond.fieldLink own index (TX1 8).1 (TX1 8).2.1 (TX1 8).2.2.1 ∈ Ts) (k : fmV p l e R s m args below meth c D A G nL o Q (fms σ 45 a 0 x) cells slots lv rest (pc + 3)) : fmV p l e R s m args below meth c D A G nL o Q σ cells slots lv (.int x :: .ref (G.1 4 a 0) :: rest) pc :=
  fmV_put F (fm_mem (a := 2) (b := 1) (by decide +kernel) ha (by decide)) (fmC_is_4 G σ o a 0) rfl hin tyX1 tyX1_ok nmX1 8 (by decide) (Nat.le_of_ble_eq_true rfl) rfl rfl rfl (fmP_4_8 G σ o a 0 x) hdg hlink k
theorem fmg_4_drifted (F : fmF p s m args meth c D A G own cc nL ret Ts) {a index : Nat} (ha : a < 2) (hin : ∀ w ∈ wsX10, w ∈ Ts) (hdg : decode cc pc = .ok (.getfield index, 3)) (hlink : Cond.fieldLink own index (TX1 9).1 (TX1 9).2.1 (TX1 9).2.2.1 ∈ Ts) (k : fmV p l e R s m args below meth c D A G nL o Q σ cells slots lv (.int (σ 46 a 0 0) :: rest) (pc + 3)) : fmV p l e R s m args below meth c D A G nL o Q σ cells slots lv (.ref (G.1 4 a 0) :: rest) pc :=
  fmV_get F (fm_mem (a := 2) (b := 1) (by decide +kernel) ha (by decide)) (fmC_is_4 G σ o a 0) rfl hin 9 (by decide) rfl hdg hlink k
theorem fmp_4_drifted (F : fmF p s m args meth c D A G own cc nL ret Ts) {a index : Nat} {x : Int32} (ha : a < 2) (hin : ∀ w ∈ wsX10, w ∈ Ts) (hdg : decode cc pc = .ok (.putfield index, 3)) (hlink : Cond.fieldLink own index (TX1 9).1 (TX1 9).2.1 (TX1 9).2.2.1 ∈ Ts) (k : fmV p l e R s m args below meth c D A G nL o Q (fms σ 46 a 0 x) cells slots lv rest (pc + 3)) : fmV p l e R s m args below meth c D A G nL o Q σ cells slots lv (.int x :: .ref (G.1 4 a 0) :: rest) pc :=
  fmV_put F (fm_mem (a := 2) (b := 1) (by decide +kernel) ha (by decide)) (fmC_is_4 G σ o a 0) rfl hin tyX1 tyX1_ok nmX1 9 (by decide) (Nat.le_of_ble_eq_true rfl) rfl rfl rfl (fmP_4_9 G σ o a 0 x) hdg hlink k
theorem fmg_7_moored (F : fmF p s m args meth c D A G own cc nL ret Ts) {a b index : Nat} (ha : a < 2) (hb9 : b < 4) (hin : ∀ w ∈ wsX20, w ∈ Ts) (hdg : decode cc pc = .ok (.getfield index, 3)) (hlink : Cond.fieldLink own index (TX2 0).1 (TX2 0).2.1 (TX2 0).2.2.1 ∈ Ts) (k : fmV p l e R s m args below meth c D A G nL o Q σ cells slots lv (.ref (G.1 8 a b) :: rest) (pc + 3)) : fmV p l e R s m args below meth c D A G nL o Q σ cells slots lv (.ref (G.1 7 a b) :: rest) pc :=
  fmV_get F (fm_mem (a := 2) (b := 4) (by decide +kernel) ha hb9) (fmC_is_7 G σ o a b) rfl hin 0 (by decide) rfl hdg hlink k
theorem fmg_7_places (F : fmF p s m args meth c D A G own cc nL ret Ts) {a b index : Nat} (ha : a < 2) (hb9 : b < 4) (hin : ∀ w ∈ wsX20, w ∈ Ts) (hdg : decode cc pc = .ok (.getfield index, 3)) (hlink : Cond.fieldLink own index (TX2 1).1 (TX2 1).2.1 (TX2 1).2.2.1 ∈ Ts) (k : fmV p l e R s m args below meth c D A G nL o Q σ cells slots lv (.int (σ 47 a b 0) :: rest) (pc + 3)) : fmV p l e R s m args below meth c D A G nL o Q σ cells slots lv (.ref (G.1 7 a b) :: rest) pc :=
  fmV_get F (fm_mem (a := 2) (b := 4) (by decide +kernel) ha hb9) (fmC_is_7 G σ o a b) rfl hin 1 (by decide) rfl hdg hlink k
theorem fmp_7_places (F : fmF p s m args meth c D A G own cc nL ret Ts) {a b index : Nat} {x : Int32} (ha : a < 2) (hb9 : b < 4) (hin : ∀ w ∈ wsX20, w ∈ Ts) (hdg : decode cc pc = .ok (.putfield index, 3)) (hlink : Cond.fieldLink own index (TX2 1).1 (TX2 1).2.1 (TX2 1).2.2.1 ∈ Ts) (k : fmV p l e R s m args below meth c D A G nL o Q (fms σ 47 a b x) cells slots lv rest (pc + 3)) : fmV p l e R s m args below meth c D A G nL o Q σ cells slots lv (.int x :: .ref (G.1 7 a b) :: rest) pc :=
  fmV_put F (fm_mem (a := 2) (b := 4) (by decide +kernel) ha hb9) (fmC_is_7 G σ o a b) rfl hin tyX2 tyX2_ok nmX2 1 (by decide) (Nat.le_of_ble_eq_true rfl) rfl rfl rfl (fmP_7_1 G σ o a b x) hdg hlink k
theorem fmg_7_used (F : fmF p s m args meth c D A G own cc nL ret Ts) {a b index : Nat} (ha : a < 2) (hb9 : b < 4) (hin : ∀ w ∈ wsX20, w ∈ Ts) (hdg : decode cc pc = .ok (.getfield index, 3)) (hlink : Cond.fieldLink own index (TX2 2).1 (TX2 2).2.1 (TX2 2).2.2.1 ∈ Ts) (k : fmV p l e R s m args below meth c D A G nL o Q σ cells slots lv (.int (σ 48 a b 0) :: rest) (pc + 3)) : fmV p l e R s m args below meth c D A G nL o Q σ cells slots lv (.ref (G.1 7 a b) :: rest) pc :=
  fmV_get F (fm_mem (a := 2) (b := 4) (by decide +kernel) ha hb9) (fmC_is_7 G σ o a b) rfl hin 2 (by decide) rfl hdg hlink k
theorem fmp_7_used (F : fmF p s m args meth c D A G own cc nL ret Ts) {a b index : Nat} {x : Int32} (ha : a < 2) (hb9 : b < 4) (hin : ∀ w ∈ wsX20, w ∈ Ts) (hdg : decode cc pc = .ok (.putfield index, 3)) (hlink : Cond.fieldLink own index (TX2 2).1 (TX2 2).2.1 (TX2 2).2.2.1 ∈ Ts) (k : fmV p l e R s m args below meth c D A G nL o Q (fms σ 48 a b x) cells slots lv rest (pc + 3)) : fmV p l e R s m args below meth c D A G nL o Q σ cells slots lv (.int x :: .ref (G.1 7 a b) :: rest) pc :=
  fmV_put F (fm_mem (a := 2) (b := 4) (by decide +kernel) ha hb9) (fmC_is_7 G σ o a b) rfl hin tyX2 tyX2_ok nmX2 2 (by decide) (Nat.le_of_ble_eq_true rfl) rfl rfl rfl (fmP_7_2 G σ o a b x) hdg hlink k
theorem fmg_9_number (F : fmF p s m args meth c D A G own cc nL ret Ts) {a b index : Nat} (ha : a < 2) (hb9 : b < 14) (hin : ∀ w ∈ wsX00, w ∈ Ts) (hdg : decode cc pc = .ok (.getfield index, 3)) (hlink : Cond.fieldLink own index (TX0 0).1 (TX0 0).2.1 (TX0 0).2.2.1 ∈ Ts) (k : fmV p l e R s m args below meth c D A G nL o Q σ cells slots lv (.int (nI b) :: rest) (pc + 3)) : fmV p l e R s m args below meth c D A G nL o Q σ cells slots lv (.ref (G.1 9 a b) :: rest) pc :=
  fmV_get F (fm_mem (a := 2) (b := 14) (by decide +kernel) ha hb9) (fmC_is_9 G σ o a b) rfl hin 0 (by decide) rfl hdg hlink k
theorem fmg_9_has (F : fmF p s m args meth c D A G own cc nL ret Ts) {a b index : Nat} (ha : a < 2) (hb9 : b < 14) (hin : ∀ w ∈ wsX00, w ∈ Ts) (hdg : decode cc pc = .ok (.getfield index, 3)) (hlink : Cond.fieldLink own index (TX0 1).1 (TX0 1).2.1 (TX0 1).2.2.1 ∈ Ts) (k : fmV p l e R s m args below meth c D A G nL o Q σ cells slots lv (.ref (G.1 10 a b) :: rest) (pc + 3)) : fmV p l e R s m args below meth c D A G nL o Q σ cells slots lv (.ref (G.1 9 a b) :: rest) pc :=
  fmV_get F (fm_mem (a := 2) (b := 14) (by decide +kernel) ha hb9) (fmC_is_9 G σ o a b) rfl hin 1 (by decide) rfl hdg hlink k
theorem fmg_9_asks (F : fmF p s m args meth c D A G own cc nL ret Ts) {a b index : Nat} (ha : a < 2) (hb9 : b < 14) (hin : ∀ w ∈ wsX00, w ∈ Ts) (hdg : decode cc pc = .ok (.getfield index, 3)) (hlink : Cond.fieldLink own index (TX0 2).1 (TX0 2).2.1 (TX0 2).2.2.1 ∈ Ts) (k : fmV p l e R s m args below meth c D A G nL o Q σ cells slots lv (.ref (G.1 11 a b) :: rest) (pc + 3)) : fmV p l e R s m args below meth c D A G nL o Q σ cells slots lv (.ref (G.1 9 a b) :: rest) pc :=
  fmV_get F (fm_mem (a := 2) (b := 14) (by decide +kernel) ha hb9) (fmC_is_9 G σ o a b) rfl hin 2 (by decide) rfl hdg hlink k
theorem fmg_9_wants (F : fmF p s m args meth c D A G own cc nL ret Ts) {a b index : Nat} (ha : a < 2) (hb9 : b < 14) (hin : ∀ w ∈ wsX00, w ∈ Ts) (hdg : decode cc pc = .ok (.getfield index, 3)) (hlink : Cond.fieldLink own index (TX0 3).1 (TX0 3).2.1 (TX0 3).2.2.1 ∈ Ts) (k : fmV p l e R s m args below meth c D A G nL o Q σ cells slots lv (.ref (G.1 12 a b) :: rest) (pc + 3)) : fmV p l e R s m args below meth c D A G nL o Q σ cells slots lv (.ref (G.1 9 a b) :: rest) pc :=
  fmV_get F (fm_mem (a := 2) (b := 14) (by decide +kernel) ha hb9) (fmC_is_9 G σ o a b) rfl hin 3 (by decide) rfl hdg hlink k
theorem fmg_9_pays (F : fmF p s m args meth c D A G own cc nL ret Ts) {a b index : Nat} (ha : a < 2) (hb9 : b < 14) (hin : ∀ w ∈ wsX00, w ∈ Ts) (hdg : decode cc pc = .ok (.getfield index, 3)) (hlink : Cond.fieldLink own index (TX0 4).1 (TX0 4).2.1 (TX0 4).2.2.1 ∈ Ts) (k : fmV p l e R s m args below meth c D A G nL o Q σ cells slots lv (.ref (G.1 13 a b) :: rest) (pc + 3)) : fmV p l e R s m args below meth c D A G nL o Q σ cells slots lv (.ref (G.1 9 a b) :: rest) pc :=
  fmV_get F (fm_mem (a := 2) (b := 14) (by decide +kernel) ha hb9) (fmC_is_9 G σ o a b) rfl hin 4 (by decide) rfl hdg hlink k
theorem fmg_9_coins (F : fmF p s m args meth c D A G own cc nL ret Ts) {a b index : Nat} (ha : a < 2) (hb9 : b < 14) (hin : ∀ w ∈ wsX00, w ∈ Ts) (hdg : decode cc pc = .ok (.getfield index, 3)) (hlink : Cond.fieldLink own index (TX0 5).1 (TX0 5).2.1 (TX0 5).2.2.1 ∈ Ts) (k : fmV p l e R s m args below meth c D A G nL o Q σ cells slots lv (.int (σ 50 a b 0) :: rest) (pc + 3)) : fmV p l e R s m args below meth c D A G nL o Q σ cells slots lv (.ref (G.1 9 a b) :: rest) pc :=
  fmV_get F (fm_mem (a := 2) (b := 14) (by decide +kernel) ha hb9) (fmC_is_9 G σ o a b) rfl hin 5 (by decide) rfl hdg hlink k
theorem fmp_9_coins (F : fmF p s m args meth c D A G own cc nL ret Ts) {a b index : Nat} {x : Int32} (ha : a < 2) (hb9 : b < 14) (hin : ∀ w ∈ wsX00, w ∈ Ts) (hdg : decode cc pc = .ok (.putfield index, 3)) (hlink : Cond.fieldLink own index (TX0 5).1 (TX0 5).2.1 (TX0 5).2.2.1 ∈ Ts) (k : fmV p l e R s m args below meth c D A G nL o Q (fms σ 50 a b x) cells slots lv rest (pc + 3)) : fmV p l e R s m args below meth c D A G nL o Q σ cells slots lv (.int x :: .ref (G.1 9 a b) :: rest) pc :=
  fmV_put F (fm_mem (a := 2) (b := 14) (by decide +kernel) ha hb9) (fmC_is_9 G σ o a b) rfl hin tyX0 tyX0_ok nmX0 5 (by decide) (Nat.le_of_ble_eq_true rfl) rfl rfl rfl (fmP_9_5 G σ o a b x) hdg hlink k
theorem fmg_9_rope (F : fmF p s m args meth c D A G own cc nL ret Ts) {a b index : Nat} (ha : a < 2) (hb9 : b < 14) (hin : ∀ w ∈ wsX00, w ∈ Ts) (hdg : decode cc pc = .ok (.getfield index, 3)) (hlink : Cond.fieldLink own index (TX0 6).1 (TX0 6).2.1 (TX0 6).2.2.1 ∈ Ts) (k : fmV p l e R s m args below meth c D A G nL o Q σ cells slots lv (.int (σ 51 a b 0) :: rest) (pc + 3)) : fmV p l e R s m args below meth c D A G nL o Q σ cells slots lv (.ref (G.1 9 a b) :: rest) pc :=
  fmV_get F (fm_mem (a := 2) (b := 14) (by decide +kernel) ha hb9) (fmC_is_9 G σ o a b) rfl hin 6 (by decide) rfl hdg hlink k
theorem fmp_9_rope (F : fmF p s m args meth c D A G own cc nL ret Ts) {a b index : Nat} {x : Int32} (ha : a < 2) (hb9 : b < 14) (hin : ∀ w ∈ wsX00, w ∈ Ts) (hdg : decode cc pc = .ok (.putfield index, 3)) (hlink : Cond.fieldLink own index (TX0 6).1 (TX0 6).2.1 (TX0 6).2.2.1 ∈ Ts) (k : fmV p l e R s m args below meth c D A G nL o Q (fms σ 51 a b x) cells slots lv rest (pc + 3)) : fmV p l e R s m args below meth c D A G nL o Q σ cells slots lv (.int x :: .ref (G.1 9 a b) :: rest) pc :=
  fmV_put F (fm_mem (a := 2) (b := 14) (by decide +kernel) ha hb9) (fmC_is_9 G σ o a b) rfl hin tyX0 tyX0_ok nmX0 6 (by decide) (Nat.le_of_ble_eq_true rfl) rfl rfl rfl (fmP_9_6 G σ o a b x) hdg hlink k
theorem fmg_9_status (F : fmF p s m args meth c D A G own cc nL ret Ts) {a b index : Nat} (ha : a < 2) (hb9 : b < 14) (hin : ∀ w ∈ wsX00, w ∈ Ts) (hdg : decode cc pc = .ok (.getfield index, 3)) (hlink : Cond.fieldLink own index (TX0 7).1 (TX0 7).2.1 (TX0 7).2.2.1 ∈ Ts) (k : fmV p l e R s m args below meth c D A G nL o Q σ cells slots lv (.int (σ 52 a b 0) :: rest) (pc + 3)) : fmV p l e R s m args below meth c D A G nL o Q σ cells slots lv (.ref (G.1 9 a b) :: rest) pc :=
  fmV_get F (fm_mem (a := 2) (b := 14) (by decide +kernel) ha hb9) (fmC_is_9 G σ o a b) rfl hin 7 (by decide) rfl hdg hlink k
theorem fmp_9_status (F : fmF p s m args meth c D A G own cc nL ret Ts) {a b index : Nat} {x : Int32} (ha : a < 2) (hb9 : b < 14) (hin : ∀ w ∈ wsX00, w ∈ Ts) (hdg : decode cc pc = .ok (.putfield index, 3)) (hlink : Cond.fieldLink own index (TX0 7).1 (TX0 7).2.1 (TX0 7).2.2.1 ∈ Ts) (k : fmV p l e R s m args below meth c D A G nL o Q (fms σ 52 a b x) cells slots lv rest (pc + 3)) : fmV p l e R s m args below meth c D A G nL o Q σ cells slots lv (.int x :: .ref (G.1 9 a b) :: rest) pc :=
  fmV_put F (fm_mem (a := 2) (b := 14) (by decide +kernel) ha hb9) (fmC_is_9 G σ o a b) rfl hin tyX0 tyX0_ok nmX0 7 (by decide) (Nat.le_of_ble_eq_true rfl) rfl rfl rfl (fmP_9_7 G σ o a b x) hdg hlink k
theorem fmg_9_row (F : fmF p s m args meth c D A G own cc nL ret Ts) {a b index : Nat} (ha : a < 2) (hb9 : b < 14) (hin : ∀ w ∈ wsX00, w ∈ Ts) (hdg : decode cc pc = .ok (.getfield index, 3)) (hlink : Cond.fieldLink own index (TX0 8).1 (TX0 8).2.1 (TX0 8).2.2.1 ∈ Ts) (k : fmV p l e R s m args below meth c D A G nL o Q σ cells slots lv (.int (σ 53 a b 0) :: rest) (pc + 3)) : fmV p l e R s m args below meth c D A G nL o Q σ cells slots lv (.ref (G.1 9 a b) :: rest) pc :=
  fmV_get F (fm_mem (a := 2) (b := 14) (by decide +kernel) ha hb9) (fmC_is_9 G σ o a b) rfl hin 8 (by decide) rfl hdg hlink k
theorem fmp_9_row (F : fmF p s m args meth c D A G own cc nL ret Ts) {a b index : Nat} {x : Int32} (ha : a < 2) (hb9 : b < 14) (hin : ∀ w ∈ wsX00, w ∈ Ts) (hdg : decode cc pc = .ok (.putfield index, 3)) (hlink : Cond.fieldLink own index (TX0 8).1 (TX0 8).2.1 (TX0 8).2.2.1 ∈ Ts) (k : fmV p l e R s m args below meth c D A G nL o Q (fms σ 53 a b x) cells slots lv rest (pc + 3)) : fmV p l e R s m args below meth c D A G nL o Q σ cells slots lv (.int x :: .ref (G.1 9 a b) :: rest) pc :=
  fmV_put F (fm_mem (a := 2) (b := 14) (by decide +kernel) ha hb9) (fmC_is_9 G σ o a b) rfl hin tyX0 tyX0_ok nmX0 8 (by decide) (Nat.le_of_ble_eq_true rfl) rfl rfl rfl (fmP_9_8 G σ o a b x) hdg hlink k
theorem fmg_9_place (F : fmF p s m args meth c D A G own cc nL ret Ts) {a b index : Nat} (ha : a < 2) (hb9 : b < 14) (hin : ∀ w ∈ wsX00, w ∈ Ts) (hdg : decode cc pc = .ok (.getfield index, 3)) (hlink : Cond.fieldLink own index (TX0 9).1 (TX0 9).2.1 (TX0 9).2.2.1 ∈ Ts) (k : fmV p l e R s m args below meth c D A G nL o Q σ cells slots lv (.int (σ 54 a b 0) :: rest) (pc + 3)) : fmV p l e R s m args below meth c D A G nL o Q σ cells slots lv (.ref (G.1 9 a b) :: rest) pc :=
  fmV_get F (fm_mem (a := 2) (b := 14) (by decide +kernel) ha hb9) (fmC_is_9 G σ o a b) rfl hin 9 (by decide) rfl hdg hlink k
theorem fmp_9_place (F : fmF p s m args meth c D A G own cc nL ret Ts) {a b index : Nat} {x : Int32} (ha : a < 2) (hb9 : b < 14) (hin : ∀ w ∈ wsX00, w ∈ Ts) (hdg : decode cc pc = .ok (.putfield index, 3)) (hlink : Cond.fieldLink own index (TX0 9).1 (TX0 9).2.1 (TX0 9).2.2.1 ∈ Ts) (k : fmV p l e R s m args below meth c D A G nL o Q (fms σ 54 a b x) cells slots lv rest (pc + 3)) : fmV p l e R s m args below meth c D A G nL o Q σ cells slots lv (.int x :: .ref (G.1 9 a b) :: rest) pc :=
  fmV_put F (fm_mem (a := 2) (b := 14) (by decide +kernel) ha hb9) (fmC_is_9 G σ o a b) rfl hin tyX0 tyX0_ok nmX0 9 (by decide) (Nat.le_of_ble_eq_true rfl) rfl rfl rfl (fmP_9_9 G σ o a b x) hdg hlink k
theorem fmg_9_leaveStep (F : fmF p s m args meth c D A G own cc nL ret Ts) {a b index : Nat} (ha : a < 2) (hb9 : b < 14) (hin : ∀ w ∈ wsX00, w ∈ Ts) (hdg : decode cc pc = .ok (.getfield index, 3)) (hlink : Cond.fieldLink own index (TX0 10).1 (TX0 10).2.1 (TX0 10).2.2.1 ∈ Ts) (k : fmV p l e R s m args below meth c D A G nL o Q σ cells slots lv (.int (σ 55 a b 0) :: rest) (pc + 3)) : fmV p l e R s m args below meth c D A G nL o Q σ cells slots lv (.ref (G.1 9 a b) :: rest) pc :=
  fmV_get F (fm_mem (a := 2) (b := 14) (by decide +kernel) ha hb9) (fmC_is_9 G σ o a b) rfl hin 10 (by decide) rfl hdg hlink k
theorem fmp_9_leaveStep (F : fmF p s m args meth c D A G own cc nL ret Ts) {a b index : Nat} {x : Int32} (ha : a < 2) (hb9 : b < 14) (hin : ∀ w ∈ wsX00, w ∈ Ts) (hdg : decode cc pc = .ok (.putfield index, 3)) (hlink : Cond.fieldLink own index (TX0 10).1 (TX0 10).2.1 (TX0 10).2.2.1 ∈ Ts) (k : fmV p l e R s m args below meth c D A G nL o Q (fms σ 55 a b x) cells slots lv rest (pc + 3)) : fmV p l e R s m args below meth c D A G nL o Q σ cells slots lv (.int x :: .ref (G.1 9 a b) :: rest) pc :=
  fmV_put F (fm_mem (a := 2) (b := 14) (by decide +kernel) ha hb9) (fmC_is_9 G σ o a b) rfl hin tyX0 tyX0_ok nmX0 10 (by decide) (Nat.le_of_ble_eq_true rfl) rfl rfl rfl (fmP_9_10 G σ o a b x) hdg hlink k
theorem fmg_9_loosened (F : fmF p s m args meth c D A G own cc nL ret Ts) {a b index : Nat} (ha : a < 2) (hb9 : b < 14) (hin : ∀ w ∈ wsX00, w ∈ Ts) (hdg : decode cc pc = .ok (.getfield index, 3)) (hlink : Cond.fieldLink own index (TX0 11).1 (TX0 11).2.1 (TX0 11).2.2.1 ∈ Ts) (k : fmV p l e R s m args below meth c D A G nL o Q σ cells slots lv (.int (σ 56 a b 0) :: rest) (pc + 3)) : fmV p l e R s m args below meth c D A G nL o Q σ cells slots lv (.ref (G.1 9 a b) :: rest) pc :=
  fmV_get F (fm_mem (a := 2) (b := 14) (by decide +kernel) ha hb9) (fmC_is_9 G σ o a b) rfl hin 11 (by decide) rfl hdg hlink k
theorem fmp_9_loosened (F : fmF p s m args meth c D A G own cc nL ret Ts) {a b index : Nat} {x : Int32} (ha : a < 2) (hb9 : b < 14) (hin : ∀ w ∈ wsX00, w ∈ Ts) (hdg : decode cc pc = .ok (.putfield index, 3)) (hlink : Cond.fieldLink own index (TX0 11).1 (TX0 11).2.1 (TX0 11).2.2.1 ∈ Ts) (k : fmV p l e R s m args below meth c D A G nL o Q (fms σ 56 a b x) cells slots lv rest (pc + 3)) : fmV p l e R s m args below meth c D A G nL o Q σ cells slots lv (.int x :: .ref (G.1 9 a b) :: rest) pc :=
  fmV_put F (fm_mem (a := 2) (b := 14) (by decide +kernel) ha hb9) (fmC_is_9 G σ o a b) rfl hin tyX0 tyX0_ok nmX0 11 (by decide) (Nat.le_of_ble_eq_true rfl) rfl rfl rfl (fmP_9_11 G σ o a b x) hdg hlink k
theorem fmg_9_drifted (F : fmF p s m args meth c D A G own cc nL ret Ts) {a b index : Nat} (ha : a < 2) (hb9 : b < 14) (hin : ∀ w ∈ wsX00, w ∈ Ts) (hdg : decode cc pc = .ok (.getfield index, 3)) (hlink : Cond.fieldLink own index (TX0 12).1 (TX0 12).2.1 (TX0 12).2.2.1 ∈ Ts) (k : fmV p l e R s m args below meth c D A G nL o Q σ cells slots lv (.int (σ 57 a b 0) :: rest) (pc + 3)) : fmV p l e R s m args below meth c D A G nL o Q σ cells slots lv (.ref (G.1 9 a b) :: rest) pc :=
  fmV_get F (fm_mem (a := 2) (b := 14) (by decide +kernel) ha hb9) (fmC_is_9 G σ o a b) rfl hin 12 (by decide) rfl hdg hlink k
theorem fmp_9_drifted (F : fmF p s m args meth c D A G own cc nL ret Ts) {a b index : Nat} {x : Int32} (ha : a < 2) (hb9 : b < 14) (hin : ∀ w ∈ wsX00, w ∈ Ts) (hdg : decode cc pc = .ok (.putfield index, 3)) (hlink : Cond.fieldLink own index (TX0 12).1 (TX0 12).2.1 (TX0 12).2.2.1 ∈ Ts) (k : fmV p l e R s m args below meth c D A G nL o Q (fms σ 57 a b x) cells slots lv rest (pc + 3)) : fmV p l e R s m args below meth c D A G nL o Q σ cells slots lv (.int x :: .ref (G.1 9 a b) :: rest) pc :=
  fmV_put F (fm_mem (a := 2) (b := 14) (by decide +kernel) ha hb9) (fmC_is_9 G σ o a b) rfl hin tyX0 tyX0_ok nmX0 12 (by decide) (Nat.le_of_ble_eq_true rfl) rfl rfl rfl (fmP_9_12 G σ o a b x) hdg hlink k
theorem fmg_9_lastDriftStep (F : fmF p s m args meth c D A G own cc nL ret Ts) {a b index : Nat} (ha : a < 2) (hb9 : b < 14) (hin : ∀ w ∈ wsX00, w ∈ Ts) (hdg : decode cc pc = .ok (.getfield index, 3)) (hlink : Cond.fieldLink own index (TX0 13).1 (TX0 13).2.1 (TX0 13).2.2.1 ∈ Ts) (k : fmV p l e R s m args below meth c D A G nL o Q σ cells slots lv (.int (σ 58 a b 0) :: rest) (pc + 3)) : fmV p l e R s m args below meth c D A G nL o Q σ cells slots lv (.ref (G.1 9 a b) :: rest) pc :=
  fmV_get F (fm_mem (a := 2) (b := 14) (by decide +kernel) ha hb9) (fmC_is_9 G σ o a b) rfl hin 13 (by decide) rfl hdg hlink k
theorem fmp_9_lastDriftStep (F : fmF p s m args meth c D A G own cc nL ret Ts) {a b index : Nat} {x : Int32} (ha : a < 2) (hb9 : b < 14) (hin : ∀ w ∈ wsX00, w ∈ Ts) (hdg : decode cc pc = .ok (.putfield index, 3)) (hlink : Cond.fieldLink own index (TX0 13).1 (TX0 13).2.1 (TX0 13).2.2.1 ∈ Ts) (k : fmV p l e R s m args below meth c D A G nL o Q (fms σ 58 a b x) cells slots lv rest (pc + 3)) : fmV p l e R s m args below meth c D A G nL o Q σ cells slots lv (.int x :: .ref (G.1 9 a b) :: rest) pc :=
  fmV_put F (fm_mem (a := 2) (b := 14) (by decide +kernel) ha hb9) (fmC_is_9 G σ o a b) rfl hin tyX0 tyX0_ok nmX0 13 (by decide) (Nat.le_of_ble_eq_true rfl) rfl rfl rfl (fmP_9_13 G σ o a b x) hdg hlink k
theorem fmg_9_sold (F : fmF p s m args meth c D A G own cc nL ret Ts) {a b index : Nat} (ha : a < 2) (hb9 : b < 14) (hin : ∀ w ∈ wsX00, w ∈ Ts) (hdg : decode cc pc = .ok (.getfield index, 3)) (hlink : Cond.fieldLink own index (TX0 14).1 (TX0 14).2.1 (TX0 14).2.2.1 ∈ Ts) (k : fmV p l e R s m args below meth c D A G nL o Q σ cells slots lv (.int (σ 59 a b 0) :: rest) (pc + 3)) : fmV p l e R s m args below meth c D A G nL o Q σ cells slots lv (.ref (G.1 9 a b) :: rest) pc :=
  fmV_get F (fm_mem (a := 2) (b := 14) (by decide +kernel) ha hb9) (fmC_is_9 G σ o a b) rfl hin 14 (by decide) rfl hdg hlink k
theorem fmp_9_sold (F : fmF p s m args meth c D A G own cc nL ret Ts) {a b index : Nat} {x : Int32} (ha : a < 2) (hb9 : b < 14) (hin : ∀ w ∈ wsX00, w ∈ Ts) (hdg : decode cc pc = .ok (.putfield index, 3)) (hlink : Cond.fieldLink own index (TX0 14).1 (TX0 14).2.1 (TX0 14).2.2.1 ∈ Ts) (k : fmV p l e R s m args below meth c D A G nL o Q (fms σ 59 a b x) cells slots lv rest (pc + 3)) : fmV p l e R s m args below meth c D A G nL o Q σ cells slots lv (.int x :: .ref (G.1 9 a b) :: rest) pc :=
  fmV_put F (fm_mem (a := 2) (b := 14) (by decide +kernel) ha hb9) (fmC_is_9 G σ o a b) rfl hin tyX0 tyX0_ok nmX0 14 (by decide) (Nat.le_of_ble_eq_true rfl) rfl rfl rfl (fmP_9_14 G σ o a b x) hdg hlink k
theorem fmg_9_bought (F : fmF p s m args meth c D A G own cc nL ret Ts) {a b index : Nat} (ha : a < 2) (hb9 : b < 14) (hin : ∀ w ∈ wsX00, w ∈ Ts) (hdg : decode cc pc = .ok (.getfield index, 3)) (hlink : Cond.fieldLink own index (TX0 15).1 (TX0 15).2.1 (TX0 15).2.2.1 ∈ Ts) (k : fmV p l e R s m args below meth c D A G nL o Q σ cells slots lv (.int (σ 60 a b 0) :: rest) (pc + 3)) : fmV p l e R s m args below meth c D A G nL o Q σ cells slots lv (.ref (G.1 9 a b) :: rest) pc :=
  fmV_get F (fm_mem (a := 2) (b := 14) (by decide +kernel) ha hb9) (fmC_is_9 G σ o a b) rfl hin 15 (by decide) rfl hdg hlink k
theorem fmp_9_bought (F : fmF p s m args meth c D A G own cc nL ret Ts) {a b index : Nat} {x : Int32} (ha : a < 2) (hb9 : b < 14) (hin : ∀ w ∈ wsX00, w ∈ Ts) (hdg : decode cc pc = .ok (.putfield index, 3)) (hlink : Cond.fieldLink own index (TX0 15).1 (TX0 15).2.1 (TX0 15).2.2.1 ∈ Ts) (k : fmV p l e R s m args below meth c D A G nL o Q (fms σ 60 a b x) cells slots lv rest (pc + 3)) : fmV p l e R s m args below meth c D A G nL o Q σ cells slots lv (.int x :: .ref (G.1 9 a b) :: rest) pc :=
  fmV_put F (fm_mem (a := 2) (b := 14) (by decide +kernel) ha hb9) (fmC_is_9 G σ o a b) rfl hin tyX0 tyX0_ok nmX0 15 (by decide) (Nat.le_of_ble_eq_true rfl) rfl rfl rfl (fmP_9_15 G σ o a b x) hdg hlink k
theorem fmg_14_thrown (F : fmF p s m args meth c D A G own cc nL ret Ts) {index : Nat}  (hin : ∀ w ∈ wsX60, w ∈ Ts) (hdg : decode cc pc = .ok (.getfield index, 3)) (hlink : Cond.fieldLink own index (TX6 0).1 (TX6 0).2.1 (TX6 0).2.2.1 ∈ Ts) (k : fmV p l e R s m args below meth c D A G nL o Q σ cells slots lv (.int (σ 61 0 0 0) :: rest) (pc + 3)) : fmV p l e R s m args below meth c D A G nL o Q σ cells slots lv (.ref (G.1 14 0 0) :: rest) pc :=
  fmV_get F (fm_mem (a := 1) (b := 1) (by decide +kernel) (by decide) (by decide)) (fmC_is_14 G σ o 0 0) rfl hin 0 (by decide) rfl hdg hlink k
theorem fmp_14_thrown (F : fmF p s m args meth c D A G own cc nL ret Ts) {index : Nat} {x : Int32}  (hin : ∀ w ∈ wsX60, w ∈ Ts) (hdg : decode cc pc = .ok (.putfield index, 3)) (hlink : Cond.fieldLink own index (TX6 0).1 (TX6 0).2.1 (TX6 0).2.2.1 ∈ Ts) (k : fmV p l e R s m args below meth c D A G nL o Q (fms σ 61 0 0 x) cells slots lv rest (pc + 3)) : fmV p l e R s m args below meth c D A G nL o Q σ cells slots lv (.int x :: .ref (G.1 14 0 0) :: rest) pc :=
  fmV_put F (fm_mem (a := 1) (b := 1) (by decide +kernel) (by decide) (by decide)) (fmC_is_14 G σ o 0 0) rfl hin tyX6 tyX6_ok nmX6 0 (by decide) (Nat.le_of_ble_eq_true rfl) rfl rfl rfl (fmP_14_0 G σ o 0 0 x) hdg hlink k
theorem fmg_14_rows (F : fmF p s m args meth c D A G own cc nL ret Ts) {index : Nat}  (hin : ∀ w ∈ wsX60, w ∈ Ts) (hdg : decode cc pc = .ok (.getfield index, 3)) (hlink : Cond.fieldLink own index (TX6 1).1 (TX6 1).2.1 (TX6 1).2.2.1 ∈ Ts) (k : fmV p l e R s m args below meth c D A G nL o Q σ cells slots lv (.int (σ 62 0 0 0) :: rest) (pc + 3)) : fmV p l e R s m args below meth c D A G nL o Q σ cells slots lv (.ref (G.1 14 0 0) :: rest) pc :=
  fmV_get F (fm_mem (a := 1) (b := 1) (by decide +kernel) (by decide) (by decide)) (fmC_is_14 G σ o 0 0) rfl hin 1 (by decide) rfl hdg hlink k
theorem fmp_14_rows (F : fmF p s m args meth c D A G own cc nL ret Ts) {index : Nat} {x : Int32}  (hin : ∀ w ∈ wsX60, w ∈ Ts) (hdg : decode cc pc = .ok (.putfield index, 3)) (hlink : Cond.fieldLink own index (TX6 1).1 (TX6 1).2.1 (TX6 1).2.2.1 ∈ Ts) (k : fmV p l e R s m args below meth c D A G nL o Q (fms σ 62 0 0 x) cells slots lv rest (pc + 3)) : fmV p l e R s m args below meth c D A G nL o Q σ cells slots lv (.int x :: .ref (G.1 14 0 0) :: rest) pc :=
  fmV_put F (fm_mem (a := 1) (b := 1) (by decide +kernel) (by decide) (by decide)) (fmC_is_14 G σ o 0 0) rfl hin tyX6 tyX6_ok nmX6 1 (by decide) (Nat.le_of_ble_eq_true rfl) rfl rfl rfl (fmP_14_1 G σ o 0 0 x) hdg hlink k
theorem fmg_14_places (F : fmF p s m args meth c D A G own cc nL ret Ts) {index : Nat}  (hin : ∀ w ∈ wsX60, w ∈ Ts) (hdg : decode cc pc = .ok (.getfield index, 3)) (hlink : Cond.fieldLink own index (TX6 2).1 (TX6 2).2.1 (TX6 2).2.2.1 ∈ Ts) (k : fmV p l e R s m args below meth c D A G nL o Q σ cells slots lv (.ref (G.1 15 0 0) :: rest) (pc + 3)) : fmV p l e R s m args below meth c D A G nL o Q σ cells slots lv (.ref (G.1 14 0 0) :: rest) pc :=
  fmV_get F (fm_mem (a := 1) (b := 1) (by decide +kernel) (by decide) (by decide)) (fmC_is_14 G σ o 0 0) rfl hin 2 (by decide) rfl hdg hlink k
theorem fmg_14_tide (F : fmF p s m args meth c D A G own cc nL ret Ts) {index : Nat}  (hin : ∀ w ∈ wsX60, w ∈ Ts) (hdg : decode cc pc = .ok (.getfield index, 3)) (hlink : Cond.fieldLink own index (TX6 3).1 (TX6 3).2.1 (TX6 3).2.2.1 ∈ Ts) (k : fmV p l e R s m args below meth c D A G nL o Q σ cells slots lv (.ref (G.1 16 0 0) :: rest) (pc + 3)) : fmV p l e R s m args below meth c D A G nL o Q σ cells slots lv (.ref (G.1 14 0 0) :: rest) pc :=
  fmV_get F (fm_mem (a := 1) (b := 1) (by decide +kernel) (by decide) (by decide)) (fmC_is_14 G σ o 0 0) rfl hin 3 (by decide) rfl hdg hlink k
theorem fmg_14_wake (F : fmF p s m args meth c D A G own cc nL ret Ts) {index : Nat}  (hin : ∀ w ∈ wsX60, w ∈ Ts) (hdg : decode cc pc = .ok (.getfield index, 3)) (hlink : Cond.fieldLink own index (TX6 4).1 (TX6 4).2.1 (TX6 4).2.2.1 ∈ Ts) (k : fmV p l e R s m args below meth c D A G nL o Q σ cells slots lv (.ref (G.1 17 0 0) :: rest) (pc + 3)) : fmV p l e R s m args below meth c D A G nL o Q σ cells slots lv (.ref (G.1 14 0 0) :: rest) pc :=
  fmV_get F (fm_mem (a := 1) (b := 1) (by decide +kernel) (by decide) (by decide)) (fmC_is_14 G σ o 0 0) rfl hin 4 (by decide) rfl hdg hlink k
theorem fmg_14_canoes (F : fmF p s m args meth c D A G own cc nL ret Ts) {index : Nat}  (hin : ∀ w ∈ wsX60, w ∈ Ts) (hdg : decode cc pc = .ok (.getfield index, 3)) (hlink : Cond.fieldLink own index (TX6 5).1 (TX6 5).2.1 (TX6 5).2.2.1 ∈ Ts) (k : fmV p l e R s m args below meth c D A G nL o Q σ cells slots lv (.int (σ 63 0 0 0) :: rest) (pc + 3)) : fmV p l e R s m args below meth c D A G nL o Q σ cells slots lv (.ref (G.1 14 0 0) :: rest) pc :=
  fmV_get F (fm_mem (a := 1) (b := 1) (by decide +kernel) (by decide) (by decide)) (fmC_is_14 G σ o 0 0) rfl hin 5 (by decide) rfl hdg hlink k
theorem fmp_14_canoes (F : fmF p s m args meth c D A G own cc nL ret Ts) {index : Nat} {x : Int32}  (hin : ∀ w ∈ wsX60, w ∈ Ts) (hdg : decode cc pc = .ok (.putfield index, 3)) (hlink : Cond.fieldLink own index (TX6 5).1 (TX6 5).2.1 (TX6 5).2.2.1 ∈ Ts) (k : fmV p l e R s m args below meth c D A G nL o Q (fms σ 63 0 0 x) cells slots lv rest (pc + 3)) : fmV p l e R s m args below meth c D A G nL o Q σ cells slots lv (.int x :: .ref (G.1 14 0 0) :: rest) pc :=
  fmV_put F (fm_mem (a := 1) (b := 1) (by decide +kernel) (by decide) (by decide)) (fmC_is_14 G σ o 0 0) rfl hin tyX6 tyX6_ok nmX6 5 (by decide) (Nat.le_of_ble_eq_true rfl) rfl rfl rfl (fmP_14_5 G σ o 0 0 x) hdg hlink k
theorem fmg_14_rope (F : fmF p s m args meth c D A G own cc nL ret Ts) {index : Nat}  (hin : ∀ w ∈ wsX60, w ∈ Ts) (hdg : decode cc pc = .ok (.getfield index, 3)) (hlink : Cond.fieldLink own index (TX6 6).1 (TX6 6).2.1 (TX6 6).2.2.1 ∈ Ts) (k : fmV p l e R s m args below meth c D A G nL o Q σ cells slots lv (.ref (G.1 18 0 0) :: rest) (pc + 3)) : fmV p l e R s m args below meth c D A G nL o Q σ cells slots lv (.ref (G.1 14 0 0) :: rest) pc :=
  fmV_get F (fm_mem (a := 1) (b := 1) (by decide +kernel) (by decide) (by decide)) (fmC_is_14 G σ o 0 0) rfl hin 6 (by decide) rfl hdg hlink k
theorem fmg_14_price (F : fmF p s m args meth c D A G own cc nL ret Ts) {index : Nat}  (hin : ∀ w ∈ wsX60, w ∈ Ts) (hdg : decode cc pc = .ok (.getfield index, 3)) (hlink : Cond.fieldLink own index (TX6 7).1 (TX6 7).2.1 (TX6 7).2.2.1 ∈ Ts) (k : fmV p l e R s m args below meth c D A G nL o Q σ cells slots lv (.ref (G.1 19 0 0) :: rest) (pc + 3)) : fmV p l e R s m args below meth c D A G nL o Q σ cells slots lv (.ref (G.1 14 0 0) :: rest) pc :=
  fmV_get F (fm_mem (a := 1) (b := 1) (by decide +kernel) (by decide) (by decide)) (fmC_is_14 G σ o 0 0) rfl hin 7 (by decide) rfl hdg hlink k
theorem fmg_14_wants (F : fmF p s m args meth c D A G own cc nL ret Ts) {index : Nat}  (hin : ∀ w ∈ wsX60, w ∈ Ts) (hdg : decode cc pc = .ok (.getfield index, 3)) (hlink : Cond.fieldLink own index (TX6 8).1 (TX6 8).2.1 (TX6 8).2.2.1 ∈ Ts) (k : fmV p l e R s m args below meth c D A G nL o Q σ cells slots lv (.ref (G.1 20 0 0) :: rest) (pc + 3)) : fmV p l e R s m args below meth c D A G nL o Q σ cells slots lv (.ref (G.1 14 0 0) :: rest) pc :=
  fmV_get F (fm_mem (a := 1) (b := 1) (by decide +kernel) (by decide) (by decide)) (fmC_is_14 G σ o 0 0) rfl hin 8 (by decide) rfl hdg hlink k
theorem fmg_14_pays (F : fmF p s m args meth c D A G own cc nL ret Ts) {index : Nat}  (hin : ∀ w ∈ wsX60, w ∈ Ts) (hdg : decode cc pc = .ok (.getfield index, 3)) (hlink : Cond.fieldLink own index (TX6 9).1 (TX6 9).2.1 (TX6 9).2.2.1 ∈ Ts) (k : fmV p l e R s m args below meth c D A G nL o Q σ cells slots lv (.ref (G.1 21 0 0) :: rest) (pc + 3)) : fmV p l e R s m args below meth c D A G nL o Q σ cells slots lv (.ref (G.1 14 0 0) :: rest) pc :=
  fmV_get F (fm_mem (a := 1) (b := 1) (by decide +kernel) (by decide) (by decide)) (fmC_is_14 G σ o 0 0) rfl hin 9 (by decide) rfl hdg hlink k
theorem fmg_14_s (F : fmF p s m args meth c D A G own cc nL ret Ts) {index : Nat}  (hin : ∀ w ∈ wsX60, w ∈ Ts) (hdg : decode cc pc = .ok (.getfield index, 3)) (hlink : Cond.fieldLink own index (TX6 10).1 (TX6 10).2.1 (TX6 10).2.2.1 ∈ Ts) (k : fmV p l e R s m args below meth c D A G nL o Q σ cells slots lv (.ref (G.1 23 0 0) :: rest) (pc + 3)) : fmV p l e R s m args below meth c D A G nL o Q σ cells slots lv (.ref (G.1 14 0 0) :: rest) pc :=
  fmV_get F (fm_mem (a := 1) (b := 1) (by decide +kernel) (by decide) (by decide)) (fmC_is_14 G σ o 0 0) rfl hin 10 (by decide) rfl hdg hlink k
theorem fmg_14_ahead (F : fmF p s m args meth c D A G own cc nL ret Ts) {index : Nat}  (hin : ∀ w ∈ wsX60, w ∈ Ts) (hdg : decode cc pc = .ok (.getfield index, 3)) (hlink : Cond.fieldLink own index (TX6 11).1 (TX6 11).2.1 (TX6 11).2.2.1 ∈ Ts) (k : fmV p l e R s m args below meth c D A G nL o Q σ cells slots lv (.ref (G.1 23 1 0) :: rest) (pc + 3)) : fmV p l e R s m args below meth c D A G nL o Q σ cells slots lv (.ref (G.1 14 0 0) :: rest) pc :=
  fmV_get F (fm_mem (a := 1) (b := 1) (by decide +kernel) (by decide) (by decide)) (fmC_is_14 G σ o 0 0) rfl hin 11 (by decide) rfl hdg hlink k
theorem fmg_14_did (F : fmF p s m args meth c D A G own cc nL ret Ts) {index : Nat}  (hin : ∀ w ∈ wsX60, w ∈ Ts) (hdg : decode cc pc = .ok (.getfield index, 3)) (hlink : Cond.fieldLink own index (TX6 12).1 (TX6 12).2.1 (TX6 12).2.2.1 ∈ Ts) (k : fmV p l e R s m args below meth c D A G nL o Q σ cells slots lv (.ref (G.1 22 0 0) :: rest) (pc + 3)) : fmV p l e R s m args below meth c D A G nL o Q σ cells slots lv (.ref (G.1 14 0 0) :: rest) pc :=
  fmV_get F (fm_mem (a := 1) (b := 1) (by decide +kernel) (by decide) (by decide)) (fmC_is_14 G σ o 0 0) rfl hin 12 (by decide) rfl hdg hlink k
theorem fmg_23_step (F : fmF p s m args meth c D A G own cc nL ret Ts) {a index : Nat} (ha : a < 2) (hin : ∀ w ∈ wsX50, w ∈ Ts) (hdg : decode cc pc = .ok (.getfield index, 3)) (hlink : Cond.fieldLink own index (TX5 0).1 (TX5 0).2.1 (TX5 0).2.2.1 ∈ Ts) (k : fmV p l e R s m args below meth c D A G nL o Q σ cells slots lv (.int (σ 64 a 0 0) :: rest) (pc + 3)) : fmV p l e R s m args below meth c D A G nL o Q σ cells slots lv (.ref (G.1 23 a 0) :: rest) pc :=
  fmV_get F (fm_mem (a := 2) (b := 1) (by decide +kernel) ha (by decide)) (fmC_is_23 G σ o a 0) rfl hin 0 (by decide) rfl hdg hlink k
theorem fmp_23_step (F : fmF p s m args meth c D A G own cc nL ret Ts) {a index : Nat} {x : Int32} (ha : a < 2) (hin : ∀ w ∈ wsX50, w ∈ Ts) (hdg : decode cc pc = .ok (.putfield index, 3)) (hlink : Cond.fieldLink own index (TX5 0).1 (TX5 0).2.1 (TX5 0).2.2.1 ∈ Ts) (k : fmV p l e R s m args below meth c D A G nL o Q (fms σ 64 a 0 x) cells slots lv rest (pc + 3)) : fmV p l e R s m args below meth c D A G nL o Q σ cells slots lv (.int x :: .ref (G.1 23 a 0) :: rest) pc :=
  fmV_put F (fm_mem (a := 2) (b := 1) (by decide +kernel) ha (by decide)) (fmC_is_23 G σ o a 0) rfl hin tyX5 tyX5_ok nmX5 0 (by decide) (Nat.le_of_ble_eq_true rfl) rfl rfl rfl (fmP_23_0 G σ o a 0 x) hdg hlink k
theorem fmg_23_sum (F : fmF p s m args meth c D A G own cc nL ret Ts) {a index : Nat} (ha : a < 2) (hin : ∀ w ∈ wsX50, w ∈ Ts) (hdg : decode cc pc = .ok (.getfield index, 3)) (hlink : Cond.fieldLink own index (TX5 1).1 (TX5 1).2.1 (TX5 1).2.2.1 ∈ Ts) (k : fmV p l e R s m args below meth c D A G nL o Q σ cells slots lv (.int (σ 65 a 0 0) :: rest) (pc + 3)) : fmV p l e R s m args below meth c D A G nL o Q σ cells slots lv (.ref (G.1 23 a 0) :: rest) pc :=
  fmV_get F (fm_mem (a := 2) (b := 1) (by decide +kernel) ha (by decide)) (fmC_is_23 G σ o a 0) rfl hin 1 (by decide) rfl hdg hlink k
theorem fmp_23_sum (F : fmF p s m args meth c D A G own cc nL ret Ts) {a index : Nat} {x : Int32} (ha : a < 2) (hin : ∀ w ∈ wsX50, w ∈ Ts) (hdg : decode cc pc = .ok (.putfield index, 3)) (hlink : Cond.fieldLink own index (TX5 1).1 (TX5 1).2.1 (TX5 1).2.2.1 ∈ Ts) (k : fmV p l e R s m args below meth c D A G nL o Q (fms σ 65 a 0 x) cells slots lv rest (pc + 3)) : fmV p l e R s m args below meth c D A G nL o Q σ cells slots lv (.int x :: .ref (G.1 23 a 0) :: rest) pc :=
  fmV_put F (fm_mem (a := 2) (b := 1) (by decide +kernel) ha (by decide)) (fmC_is_23 G σ o a 0) rfl hin tyX5 tyX5_ok nmX5 1 (by decide) (Nat.le_of_ble_eq_true rfl) rfl rfl rfl (fmP_23_1 G σ o a 0 x) hdg hlink k
theorem fmg_23_coinsPaid (F : fmF p s m args meth c D A G own cc nL ret Ts) {a index : Nat} (ha : a < 2) (hin : ∀ w ∈ wsX50, w ∈ Ts) (hdg : decode cc pc = .ok (.getfield index, 3)) (hlink : Cond.fieldLink own index (TX5 2).1 (TX5 2).2.1 (TX5 2).2.2.1 ∈ Ts) (k : fmV p l e R s m args below meth c D A G nL o Q σ cells slots lv (.int (σ 66 a 0 0) :: rest) (pc + 3)) : fmV p l e R s m args below meth c D A G nL o Q σ cells slots lv (.ref (G.1 23 a 0) :: rest) pc :=
  fmV_get F (fm_mem (a := 2) (b := 1) (by decide +kernel) ha (by decide)) (fmC_is_23 G σ o a 0) rfl hin 2 (by decide) rfl hdg hlink k
theorem fmp_23_coinsPaid (F : fmF p s m args meth c D A G own cc nL ret Ts) {a index : Nat} {x : Int32} (ha : a < 2) (hin : ∀ w ∈ wsX50, w ∈ Ts) (hdg : decode cc pc = .ok (.putfield index, 3)) (hlink : Cond.fieldLink own index (TX5 2).1 (TX5 2).2.1 (TX5 2).2.2.1 ∈ Ts) (k : fmV p l e R s m args below meth c D A G nL o Q (fms σ 66 a 0 x) cells slots lv rest (pc + 3)) : fmV p l e R s m args below meth c D A G nL o Q σ cells slots lv (.int x :: .ref (G.1 23 a 0) :: rest) pc :=
  fmV_put F (fm_mem (a := 2) (b := 1) (by decide +kernel) ha (by decide)) (fmC_is_23 G σ o a 0) rfl hin tyX5 tyX5_ok nmX5 2 (by decide) (Nat.le_of_ble_eq_true rfl) rfl rfl rfl (fmP_23_2 G σ o a 0 x) hdg hlink k
theorem fmg_23_coins (F : fmF p s m args meth c D A G own cc nL ret Ts) {a index : Nat} (ha : a < 2) (hin : ∀ w ∈ wsX50, w ∈ Ts) (hdg : decode cc pc = .ok (.getfield index, 3)) (hlink : Cond.fieldLink own index (TX5 3).1 (TX5 3).2.1 (TX5 3).2.2.1 ∈ Ts) (k : fmV p l e R s m args below meth c D A G nL o Q σ cells slots lv (.ref (G.1 24 a 0) :: rest) (pc + 3)) : fmV p l e R s m args below meth c D A G nL o Q σ cells slots lv (.ref (G.1 23 a 0) :: rest) pc :=
  fmV_get F (fm_mem (a := 2) (b := 1) (by decide +kernel) ha (by decide)) (fmC_is_23 G σ o a 0) rfl hin 3 (by decide) rfl hdg hlink k
theorem fmg_23_has (F : fmF p s m args meth c D A G own cc nL ret Ts) {a index : Nat} (ha : a < 2) (hin : ∀ w ∈ wsX50, w ∈ Ts) (hdg : decode cc pc = .ok (.getfield index, 3)) (hlink : Cond.fieldLink own index (TX5 4).1 (TX5 4).2.1 (TX5 4).2.2.1 ∈ Ts) (k : fmV p l e R s m args below meth c D A G nL o Q σ cells slots lv (.ref (G.1 25 a 0) :: rest) (pc + 3)) : fmV p l e R s m args below meth c D A G nL o Q σ cells slots lv (.ref (G.1 23 a 0) :: rest) pc :=
  fmV_get F (fm_mem (a := 2) (b := 1) (by decide +kernel) ha (by decide)) (fmC_is_23 G σ o a 0) rfl hin 4 (by decide) rfl hdg hlink k
theorem fmg_23_is (F : fmF p s m args meth c D A G own cc nL ret Ts) {a index : Nat} (ha : a < 2) (hin : ∀ w ∈ wsX50, w ∈ Ts) (hdg : decode cc pc = .ok (.getfield index, 3)) (hlink : Cond.fieldLink own index (TX5 5).1 (TX5 5).2.1 (TX5 5).2.2.1 ∈ Ts) (k : fmV p l e R s m args below meth c D A G nL o Q σ cells slots lv (.ref (G.1 26 a 0) :: rest) (pc + 3)) : fmV p l e R s m args below meth c D A G nL o Q σ cells slots lv (.ref (G.1 23 a 0) :: rest) pc :=
  fmV_get F (fm_mem (a := 2) (b := 1) (by decide +kernel) ha (by decide)) (fmC_is_23 G σ o a 0) rfl hin 5 (by decide) rfl hdg hlink k
theorem fmg_23_row (F : fmF p s m args meth c D A G own cc nL ret Ts) {a index : Nat} (ha : a < 2) (hin : ∀ w ∈ wsX50, w ∈ Ts) (hdg : decode cc pc = .ok (.getfield index, 3)) (hlink : Cond.fieldLink own index (TX5 6).1 (TX5 6).2.1 (TX5 6).2.2.1 ∈ Ts) (k : fmV p l e R s m args below meth c D A G nL o Q σ cells slots lv (.ref (G.1 27 a 0) :: rest) (pc + 3)) : fmV p l e R s m args below meth c D A G nL o Q σ cells slots lv (.ref (G.1 23 a 0) :: rest) pc :=
  fmV_get F (fm_mem (a := 2) (b := 1) (by decide +kernel) ha (by decide)) (fmC_is_23 G σ o a 0) rfl hin 6 (by decide) rfl hdg hlink k
theorem fmg_23_place (F : fmF p s m args meth c D A G own cc nL ret Ts) {a index : Nat} (ha : a < 2) (hin : ∀ w ∈ wsX50, w ∈ Ts) (hdg : decode cc pc = .ok (.getfield index, 3)) (hlink : Cond.fieldLink own index (TX5 7).1 (TX5 7).2.1 (TX5 7).2.2.1 ∈ Ts) (k : fmV p l e R s m args below meth c D A G nL o Q σ cells slots lv (.ref (G.1 28 a 0) :: rest) (pc + 3)) : fmV p l e R s m args below meth c D A G nL o Q σ cells slots lv (.ref (G.1 23 a 0) :: rest) pc :=
  fmV_get F (fm_mem (a := 2) (b := 1) (by decide +kernel) ha (by decide)) (fmC_is_23 G σ o a 0) rfl hin 7 (by decide) rfl hdg hlink k
theorem fmg_23_leaves (F : fmF p s m args meth c D A G own cc nL ret Ts) {a index : Nat} (ha : a < 2) (hin : ∀ w ∈ wsX50, w ∈ Ts) (hdg : decode cc pc = .ok (.getfield index, 3)) (hlink : Cond.fieldLink own index (TX5 8).1 (TX5 8).2.1 (TX5 8).2.2.1 ∈ Ts) (k : fmV p l e R s m args below meth c D A G nL o Q σ cells slots lv (.ref (G.1 29 a 0) :: rest) (pc + 3)) : fmV p l e R s m args below meth c D A G nL o Q σ cells slots lv (.ref (G.1 23 a 0) :: rest) pc :=
  fmV_get F (fm_mem (a := 2) (b := 1) (by decide +kernel) ha (by decide)) (fmC_is_23 G σ o a 0) rfl hin 8 (by decide) rfl hdg hlink k
theorem fmg_23_loosened (F : fmF p s m args meth c D A G own cc nL ret Ts) {a index : Nat} (ha : a < 2) (hin : ∀ w ∈ wsX50, w ∈ Ts) (hdg : decode cc pc = .ok (.getfield index, 3)) (hlink : Cond.fieldLink own index (TX5 9).1 (TX5 9).2.1 (TX5 9).2.2.1 ∈ Ts) (k : fmV p l e R s m args below meth c D A G nL o Q σ cells slots lv (.ref (G.1 30 a 0) :: rest) (pc + 3)) : fmV p l e R s m args below meth c D A G nL o Q σ cells slots lv (.ref (G.1 23 a 0) :: rest) pc :=
  fmV_get F (fm_mem (a := 2) (b := 1) (by decide +kernel) ha (by decide)) (fmC_is_23 G σ o a 0) rfl hin 9 (by decide) rfl hdg hlink k
theorem fmg_23_drifted (F : fmF p s m args meth c D A G own cc nL ret Ts) {a index : Nat} (ha : a < 2) (hin : ∀ w ∈ wsX50, w ∈ Ts) (hdg : decode cc pc = .ok (.getfield index, 3)) (hlink : Cond.fieldLink own index (TX5 10).1 (TX5 10).2.1 (TX5 10).2.2.1 ∈ Ts) (k : fmV p l e R s m args below meth c D A G nL o Q σ cells slots lv (.ref (G.1 31 a 0) :: rest) (pc + 3)) : fmV p l e R s m args below meth c D A G nL o Q σ cells slots lv (.ref (G.1 23 a 0) :: rest) pc :=
  fmV_get F (fm_mem (a := 2) (b := 1) (by decide +kernel) ha (by decide)) (fmC_is_23 G σ o a 0) rfl hin 10 (by decide) rfl hdg hlink k
theorem fmg_23_sold (F : fmF p s m args meth c D A G own cc nL ret Ts) {a index : Nat} (ha : a < 2) (hin : ∀ w ∈ wsX50, w ∈ Ts) (hdg : decode cc pc = .ok (.getfield index, 3)) (hlink : Cond.fieldLink own index (TX5 11).1 (TX5 11).2.1 (TX5 11).2.2.1 ∈ Ts) (k : fmV p l e R s m args below meth c D A G nL o Q σ cells slots lv (.ref (G.1 32 a 0) :: rest) (pc + 3)) : fmV p l e R s m args below meth c D A G nL o Q σ cells slots lv (.ref (G.1 23 a 0) :: rest) pc :=
  fmV_get F (fm_mem (a := 2) (b := 1) (by decide +kernel) ha (by decide)) (fmC_is_23 G σ o a 0) rfl hin 11 (by decide) rfl hdg hlink k
theorem fmg_23_bought (F : fmF p s m args meth c D A G own cc nL ret Ts) {a index : Nat} (ha : a < 2) (hin : ∀ w ∈ wsX50, w ∈ Ts) (hdg : decode cc pc = .ok (.getfield index, 3)) (hlink : Cond.fieldLink own index (TX5 12).1 (TX5 12).2.1 (TX5 12).2.2.1 ∈ Ts) (k : fmV p l e R s m args below meth c D A G nL o Q σ cells slots lv (.ref (G.1 33 a 0) :: rest) (pc + 3)) : fmV p l e R s m args below meth c D A G nL o Q σ cells slots lv (.ref (G.1 23 a 0) :: rest) pc :=
  fmV_get F (fm_mem (a := 2) (b := 1) (by decide +kernel) ha (by decide)) (fmC_is_23 G σ o a 0) rfl hin 12 (by decide) rfl hdg hlink k
theorem fmg_23_this0 (F : fmF p s m args meth c D A G own cc nL ret Ts) {a index : Nat} (ha : a < 2) (hin : ∀ w ∈ wsX50, w ∈ Ts) (hdg : decode cc pc = .ok (.getfield index, 3)) (hlink : Cond.fieldLink own index (TX5 13).1 (TX5 13).2.1 (TX5 13).2.2.1 ∈ Ts) (k : fmV p l e R s m args below meth c D A G nL o Q σ cells slots lv (.ref (G.1 14 0 0) :: rest) (pc + 3)) : fmV p l e R s m args below meth c D A G nL o Q σ cells slots lv (.ref (G.1 23 a 0) :: rest) pc :=
  fmV_get F (fm_mem (a := 2) (b := 1) (by decide +kernel) ha (by decide)) (fmC_is_23 G σ o a 0) rfl hin 13 (by decide) rfl hdg hlink k
theorem fmal_2 (F : fmF p s m args meth c D A G own cc nL ret Ts) { i0 : Nat}  {i : Int32} (hdg : decode cc pc = .ok (.iaload, 1)) (hin : vp_in i 24) (hi : i.toNatClampNeg = i0) (k : fmV p l e R s m args below meth c D A G nL o Q σ cells slots lv (.int (σ 2 0 0 i0) :: rest) (pc + 1)) : fmV p l e R s m args below meth c D A G nL o Q σ cells slots lv (.int i :: .ref (G.1 2 0 0) :: rest) pc :=
  fmV_iald F (fm_mem (a := 1) (b := 1) (by decide +kernel) (by decide) (by decide)) (fun τ => rfl) hdg hin hi k
theorem fmas_2 (F : fmF p s m args meth c D A G own cc nL ret Ts) { i0 : Nat}  {i x : Int32} (hdg : decode cc pc = .ok (.iastore, 1)) (hin : vp_in i 24) (hi : i.toNatClampNeg = i0) (k : fmV p l e R s m args below meth c D A G nL o Q (fmu σ 2 0 0 (upd (σ 2 0 0) i0 x)) cells slots lv rest (pc + 1)) : fmV p l e R s m args below meth c D A G nL o Q σ cells slots lv (.int x :: .int i :: .ref (G.1 2 0 0) :: rest) pc :=
  fmV_iast F (fm_mem (a := 1) (b := 1) (by decide +kernel) (by decide) (by decide)) (fun τ => rfl) rfl hdg hin hi k
theorem fmal_3 (F : fmF p s m args meth c D A G own cc nL ret Ts) { i0 : Nat}  {i : Int32} (hdg : decode cc pc = .ok (.iaload, 1)) (hin : vp_in i 24) (hi : i.toNatClampNeg = i0) (k : fmV p l e R s m args below meth c D A G nL o Q σ cells slots lv (.int (σ 3 0 0 i0) :: rest) (pc + 1)) : fmV p l e R s m args below meth c D A G nL o Q σ cells slots lv (.int i :: .ref (G.1 3 0 0) :: rest) pc :=
  fmV_iald F (fm_mem (a := 1) (b := 1) (by decide +kernel) (by decide) (by decide)) (fun τ => rfl) hdg hin hi k
theorem fmas_3 (F : fmF p s m args meth c D A G own cc nL ret Ts) { i0 : Nat}  {i x : Int32} (hdg : decode cc pc = .ok (.iastore, 1)) (hin : vp_in i 24) (hi : i.toNatClampNeg = i0) (k : fmV p l e R s m args below meth c D A G nL o Q (fmu σ 3 0 0 (upd (σ 3 0 0) i0 x)) cells slots lv rest (pc + 1)) : fmV p l e R s m args below meth c D A G nL o Q σ cells slots lv (.int x :: .int i :: .ref (G.1 3 0 0) :: rest) pc :=
  fmV_iast F (fm_mem (a := 1) (b := 1) (by decide +kernel) (by decide) (by decide)) (fun τ => rfl) rfl hdg hin hi k
theorem fmal_8 (F : fmF p s m args meth c D A G own cc nL ret Ts) {a b i0 : Nat} (ha : a < 2) (hb9 : b < 4) {i : Int32} (hdg : decode cc pc = .ok (.iaload, 1)) (hin : vp_in i 6) (hi : i.toNatClampNeg = i0) (k : fmV p l e R s m args below meth c D A G nL o Q σ cells slots lv (.int (σ 8 a b i0) :: rest) (pc + 1)) : fmV p l e R s m args below meth c D A G nL o Q σ cells slots lv (.int i :: .ref (G.1 8 a b) :: rest) pc :=
  fmV_iald F (fm_mem (a := 2) (b := 4) (by decide +kernel) ha hb9) (fun τ => rfl) hdg hin hi k
theorem fmas_8 (F : fmF p s m args meth c D A G own cc nL ret Ts) {a b i0 : Nat} (ha : a < 2) (hb9 : b < 4) {i x : Int32} (hdg : decode cc pc = .ok (.iastore, 1)) (hin : vp_in i 6) (hi : i.toNatClampNeg = i0) (k : fmV p l e R s m args below meth c D A G nL o Q (fmu σ 8 a b (upd (σ 8 a b) i0 x)) cells slots lv rest (pc + 1)) : fmV p l e R s m args below meth c D A G nL o Q σ cells slots lv (.int x :: .int i :: .ref (G.1 8 a b) :: rest) pc :=
  fmV_iast F (fm_mem (a := 2) (b := 4) (by decide +kernel) ha hb9) (fun τ => rfl) rfl hdg hin hi k
theorem fmal_10 (F : fmF p s m args meth c D A G own cc nL ret Ts) {a b i0 : Nat} (ha : a < 2) (hb9 : b < 14) {i : Int32} (hdg : decode cc pc = .ok (.iaload, 1)) (hin : vp_in i 4) (hi : i.toNatClampNeg = i0) (k : fmV p l e R s m args below meth c D A G nL o Q σ cells slots lv (.int (σ 10 a b i0) :: rest) (pc + 1)) : fmV p l e R s m args below meth c D A G nL o Q σ cells slots lv (.int i :: .ref (G.1 10 a b) :: rest) pc :=
  fmV_iald F (fm_mem (a := 2) (b := 14) (by decide +kernel) ha hb9) (fun τ => rfl) hdg hin hi k
theorem fmas_10 (F : fmF p s m args meth c D A G own cc nL ret Ts) {a b i0 : Nat} (ha : a < 2) (hb9 : b < 14) {i x : Int32} (hdg : decode cc pc = .ok (.iastore, 1)) (hin : vp_in i 4) (hi : i.toNatClampNeg = i0) (k : fmV p l e R s m args below meth c D A G nL o Q (fmu σ 10 a b (upd (σ 10 a b) i0 x)) cells slots lv rest (pc + 1)) : fmV p l e R s m args below meth c D A G nL o Q σ cells slots lv (.int x :: .int i :: .ref (G.1 10 a b) :: rest) pc :=
  fmV_iast F (fm_mem (a := 2) (b := 14) (by decide +kernel) ha hb9) (fun τ => rfl) rfl hdg hin hi k
theorem fmal_11 (F : fmF p s m args meth c D A G own cc nL ret Ts) {a b i0 : Nat} (ha : a < 2) (hb9 : b < 14) {i : Int32} (hdg : decode cc pc = .ok (.iaload, 1)) (hin : vp_in i 4) (hi : i.toNatClampNeg = i0) (k : fmV p l e R s m args below meth c D A G nL o Q σ cells slots lv (.int (σ 11 a b i0) :: rest) (pc + 1)) : fmV p l e R s m args below meth c D A G nL o Q σ cells slots lv (.int i :: .ref (G.1 11 a b) :: rest) pc :=
  fmV_iald F (fm_mem (a := 2) (b := 14) (by decide +kernel) ha hb9) (fun τ => rfl) hdg hin hi k
theorem fmas_11 (F : fmF p s m args meth c D A G own cc nL ret Ts) {a b i0 : Nat} (ha : a < 2) (hb9 : b < 14) {i x : Int32} (hdg : decode cc pc = .ok (.iastore, 1)) (hin : vp_in i 4) (hi : i.toNatClampNeg = i0) (k : fmV p l e R s m args below meth c D A G nL o Q (fmu σ 11 a b (upd (σ 11 a b) i0 x)) cells slots lv rest (pc + 1)) : fmV p l e R s m args below meth c D A G nL o Q σ cells slots lv (.int x :: .int i :: .ref (G.1 11 a b) :: rest) pc :=
  fmV_iast F (fm_mem (a := 2) (b := 14) (by decide +kernel) ha hb9) (fun τ => rfl) rfl hdg hin hi k
theorem fmal_12 (F : fmF p s m args meth c D A G own cc nL ret Ts) {a b i0 : Nat} (ha : a < 2) (hb9 : b < 14) {i : Int32} (hdg : decode cc pc = .ok (.iaload, 1)) (hin : vp_in i 4) (hi : i.toNatClampNeg = i0) (k : fmV p l e R s m args below meth c D A G nL o Q σ cells slots lv (.int (σ 12 a b i0) :: rest) (pc + 1)) : fmV p l e R s m args below meth c D A G nL o Q σ cells slots lv (.int i :: .ref (G.1 12 a b) :: rest) pc :=
  fmV_iald F (fm_mem (a := 2) (b := 14) (by decide +kernel) ha hb9) (fun τ => rfl) hdg hin hi k
theorem fmas_12 (F : fmF p s m args meth c D A G own cc nL ret Ts) {a b i0 : Nat} (ha : a < 2) (hb9 : b < 14) {i x : Int32} (hdg : decode cc pc = .ok (.iastore, 1)) (hin : vp_in i 4) (hi : i.toNatClampNeg = i0) (k : fmV p l e R s m args below meth c D A G nL o Q (fmu σ 12 a b (upd (σ 12 a b) i0 x)) cells slots lv rest (pc + 1)) : fmV p l e R s m args below meth c D A G nL o Q σ cells slots lv (.int x :: .int i :: .ref (G.1 12 a b) :: rest) pc :=
  fmV_iast F (fm_mem (a := 2) (b := 14) (by decide +kernel) ha hb9) (fun τ => rfl) rfl hdg hin hi k
theorem fmal_13 (F : fmF p s m args meth c D A G own cc nL ret Ts) {a b i0 : Nat} (ha : a < 2) (hb9 : b < 14) {i : Int32} (hdg : decode cc pc = .ok (.iaload, 1)) (hin : vp_in i 4) (hi : i.toNatClampNeg = i0) (k : fmV p l e R s m args below meth c D A G nL o Q σ cells slots lv (.int (σ 13 a b i0) :: rest) (pc + 1)) : fmV p l e R s m args below meth c D A G nL o Q σ cells slots lv (.int i :: .ref (G.1 13 a b) :: rest) pc :=
  fmV_iald F (fm_mem (a := 2) (b := 14) (by decide +kernel) ha hb9) (fun τ => rfl) hdg hin hi k
theorem fmas_13 (F : fmF p s m args meth c D A G own cc nL ret Ts) {a b i0 : Nat} (ha : a < 2) (hb9 : b < 14) {i x : Int32} (hdg : decode cc pc = .ok (.iastore, 1)) (hin : vp_in i 4) (hi : i.toNatClampNeg = i0) (k : fmV p l e R s m args below meth c D A G nL o Q (fmu σ 13 a b (upd (σ 13 a b) i0 x)) cells slots lv rest (pc + 1)) : fmV p l e R s m args below meth c D A G nL o Q σ cells slots lv (.int x :: .int i :: .ref (G.1 13 a b) :: rest) pc :=
  fmV_iast F (fm_mem (a := 2) (b := 14) (by decide +kernel) ha hb9) (fun τ => rfl) rfl hdg hin hi k
theorem fmal_15 (F : fmF p s m args meth c D A G own cc nL ret Ts) { i0 : Nat}  {i : Int32} (hdg : decode cc pc = .ok (.iaload, 1)) (hin : vp_in i 4) (hi : i.toNatClampNeg = i0) (k : fmV p l e R s m args below meth c D A G nL o Q σ cells slots lv (.int (σ 15 0 0 i0) :: rest) (pc + 1)) : fmV p l e R s m args below meth c D A G nL o Q σ cells slots lv (.int i :: .ref (G.1 15 0 0) :: rest) pc :=
  fmV_iald F (fm_mem (a := 1) (b := 1) (by decide +kernel) (by decide) (by decide)) (fun τ => rfl) hdg hin hi k
theorem fmas_15 (F : fmF p s m args meth c D A G own cc nL ret Ts) { i0 : Nat}  {i x : Int32} (hdg : decode cc pc = .ok (.iastore, 1)) (hin : vp_in i 4) (hi : i.toNatClampNeg = i0) (k : fmV p l e R s m args below meth c D A G nL o Q (fmu σ 15 0 0 (upd (σ 15 0 0) i0 x)) cells slots lv rest (pc + 1)) : fmV p l e R s m args below meth c D A G nL o Q σ cells slots lv (.int x :: .int i :: .ref (G.1 15 0 0) :: rest) pc :=
  fmV_iast F (fm_mem (a := 1) (b := 1) (by decide +kernel) (by decide) (by decide)) (fun τ => rfl) rfl hdg hin hi k
theorem fmal_16 (F : fmF p s m args meth c D A G own cc nL ret Ts) { i0 : Nat}  {i : Int32} (hdg : decode cc pc = .ok (.iaload, 1)) (hin : vp_in i 24) (hi : i.toNatClampNeg = i0) (k : fmV p l e R s m args below meth c D A G nL o Q σ cells slots lv (.int (σ 16 0 0 i0) :: rest) (pc + 1)) : fmV p l e R s m args below meth c D A G nL o Q σ cells slots lv (.int i :: .ref (G.1 16 0 0) :: rest) pc :=
  fmV_iald F (fm_mem (a := 1) (b := 1) (by decide +kernel) (by decide) (by decide)) (fun τ => rfl) hdg hin hi k
theorem fmas_16 (F : fmF p s m args meth c D A G own cc nL ret Ts) { i0 : Nat}  {i x : Int32} (hdg : decode cc pc = .ok (.iastore, 1)) (hin : vp_in i 24) (hi : i.toNatClampNeg = i0) (k : fmV p l e R s m args below meth c D A G nL o Q (fmu σ 16 0 0 (upd (σ 16 0 0) i0 x)) cells slots lv rest (pc + 1)) : fmV p l e R s m args below meth c D A G nL o Q σ cells slots lv (.int x :: .int i :: .ref (G.1 16 0 0) :: rest) pc :=
  fmV_iast F (fm_mem (a := 1) (b := 1) (by decide +kernel) (by decide) (by decide)) (fun τ => rfl) rfl hdg hin hi k
theorem fmal_17 (F : fmF p s m args meth c D A G own cc nL ret Ts) { i0 : Nat}  {i : Int32} (hdg : decode cc pc = .ok (.iaload, 1)) (hin : vp_in i 24) (hi : i.toNatClampNeg = i0) (k : fmV p l e R s m args below meth c D A G nL o Q σ cells slots lv (.int (σ 17 0 0 i0) :: rest) (pc + 1)) : fmV p l e R s m args below meth c D A G nL o Q σ cells slots lv (.int i :: .ref (G.1 17 0 0) :: rest) pc :=
  fmV_iald F (fm_mem (a := 1) (b := 1) (by decide +kernel) (by decide) (by decide)) (fun τ => rfl) hdg hin hi k
theorem fmas_17 (F : fmF p s m args meth c D A G own cc nL ret Ts) { i0 : Nat}  {i x : Int32} (hdg : decode cc pc = .ok (.iastore, 1)) (hin : vp_in i 24) (hi : i.toNatClampNeg = i0) (k : fmV p l e R s m args below meth c D A G nL o Q (fmu σ 17 0 0 (upd (σ 17 0 0) i0 x)) cells slots lv rest (pc + 1)) : fmV p l e R s m args below meth c D A G nL o Q σ cells slots lv (.int x :: .int i :: .ref (G.1 17 0 0) :: rest) pc :=
  fmV_iast F (fm_mem (a := 1) (b := 1) (by decide +kernel) (by decide) (by decide)) (fun τ => rfl) rfl hdg hin hi k
theorem fmal_18 (F : fmF p s m args meth c D A G own cc nL ret Ts) { i0 : Nat}  {i : Int32} (hdg : decode cc pc = .ok (.iaload, 1)) (hin : vp_in i 14) (hi : i.toNatClampNeg = i0) (k : fmV p l e R s m args below meth c D A G nL o Q σ cells slots lv (.int (σ 18 0 0 i0) :: rest) (pc + 1)) : fmV p l e R s m args below meth c D A G nL o Q σ cells slots lv (.int i :: .ref (G.1 18 0 0) :: rest) pc :=
  fmV_iald F (fm_mem (a := 1) (b := 1) (by decide +kernel) (by decide) (by decide)) (fun τ => rfl) hdg hin hi k
theorem fmas_18 (F : fmF p s m args meth c D A G own cc nL ret Ts) { i0 : Nat}  {i x : Int32} (hdg : decode cc pc = .ok (.iastore, 1)) (hin : vp_in i 14) (hi : i.toNatClampNeg = i0) (k : fmV p l e R s m args below meth c D A G nL o Q (fmu σ 18 0 0 (upd (σ 18 0 0) i0 x)) cells slots lv rest (pc + 1)) : fmV p l e R s m args below meth c D A G nL o Q σ cells slots lv (.int x :: .int i :: .ref (G.1 18 0 0) :: rest) pc :=
  fmV_iast F (fm_mem (a := 1) (b := 1) (by decide +kernel) (by decide) (by decide)) (fun τ => rfl) rfl hdg hin hi k
theorem fmal_19 (F : fmF p s m args meth c D A G own cc nL ret Ts) { i0 : Nat}  {i : Int32} (hdg : decode cc pc = .ok (.iaload, 1)) (hin : vp_in i 56) (hi : i.toNatClampNeg = i0) (k : fmV p l e R s m args below meth c D A G nL o Q σ cells slots lv (.int (σ 19 0 0 i0) :: rest) (pc + 1)) : fmV p l e R s m args below meth c D A G nL o Q σ cells slots lv (.int i :: .ref (G.1 19 0 0) :: rest) pc :=
  fmV_iald F (fm_mem (a := 1) (b := 1) (by decide +kernel) (by decide) (by decide)) (fun τ => rfl) hdg hin hi k
theorem fmas_19 (F : fmF p s m args meth c D A G own cc nL ret Ts) { i0 : Nat}  {i x : Int32} (hdg : decode cc pc = .ok (.iastore, 1)) (hin : vp_in i 56) (hi : i.toNatClampNeg = i0) (k : fmV p l e R s m args below meth c D A G nL o Q (fmu σ 19 0 0 (upd (σ 19 0 0) i0 x)) cells slots lv rest (pc + 1)) : fmV p l e R s m args below meth c D A G nL o Q σ cells slots lv (.int x :: .int i :: .ref (G.1 19 0 0) :: rest) pc :=
  fmV_iast F (fm_mem (a := 1) (b := 1) (by decide +kernel) (by decide) (by decide)) (fun τ => rfl) rfl hdg hin hi k
theorem fmal_20 (F : fmF p s m args meth c D A G own cc nL ret Ts) { i0 : Nat}  {i : Int32} (hdg : decode cc pc = .ok (.iaload, 1)) (hin : vp_in i 56) (hi : i.toNatClampNeg = i0) (k : fmV p l e R s m args below meth c D A G nL o Q σ cells slots lv (.int (σ 20 0 0 i0) :: rest) (pc + 1)) : fmV p l e R s m args below meth c D A G nL o Q σ cells slots lv (.int i :: .ref (G.1 20 0 0) :: rest) pc :=
  fmV_iald F (fm_mem (a := 1) (b := 1) (by decide +kernel) (by decide) (by decide)) (fun τ => rfl) hdg hin hi k
theorem fmas_20 (F : fmF p s m args meth c D A G own cc nL ret Ts) { i0 : Nat}  {i x : Int32} (hdg : decode cc pc = .ok (.iastore, 1)) (hin : vp_in i 56) (hi : i.toNatClampNeg = i0) (k : fmV p l e R s m args below meth c D A G nL o Q (fmu σ 20 0 0 (upd (σ 20 0 0) i0 x)) cells slots lv rest (pc + 1)) : fmV p l e R s m args below meth c D A G nL o Q σ cells slots lv (.int x :: .int i :: .ref (G.1 20 0 0) :: rest) pc :=
  fmV_iast F (fm_mem (a := 1) (b := 1) (by decide +kernel) (by decide) (by decide)) (fun τ => rfl) rfl hdg hin hi k
theorem fmal_21 (F : fmF p s m args meth c D A G own cc nL ret Ts) { i0 : Nat}  {i : Int32} (hdg : decode cc pc = .ok (.iaload, 1)) (hin : vp_in i 56) (hi : i.toNatClampNeg = i0) (k : fmV p l e R s m args below meth c D A G nL o Q σ cells slots lv (.int (σ 21 0 0 i0) :: rest) (pc + 1)) : fmV p l e R s m args below meth c D A G nL o Q σ cells slots lv (.int i :: .ref (G.1 21 0 0) :: rest) pc :=
  fmV_iald F (fm_mem (a := 1) (b := 1) (by decide +kernel) (by decide) (by decide)) (fun τ => rfl) hdg hin hi k
theorem fmas_21 (F : fmF p s m args meth c D A G own cc nL ret Ts) { i0 : Nat}  {i x : Int32} (hdg : decode cc pc = .ok (.iastore, 1)) (hin : vp_in i 56) (hi : i.toNatClampNeg = i0) (k : fmV p l e R s m args below meth c D A G nL o Q (fmu σ 21 0 0 (upd (σ 21 0 0) i0 x)) cells slots lv rest (pc + 1)) : fmV p l e R s m args below meth c D A G nL o Q σ cells slots lv (.int x :: .int i :: .ref (G.1 21 0 0) :: rest) pc :=
  fmV_iast F (fm_mem (a := 1) (b := 1) (by decide +kernel) (by decide) (by decide)) (fun τ => rfl) rfl hdg hin hi k
theorem fmal_24 (F : fmF p s m args meth c D A G own cc nL ret Ts) {a i0 : Nat} (ha : a < 2) {i : Int32} (hdg : decode cc pc = .ok (.iaload, 1)) (hin : vp_in i 14) (hi : i.toNatClampNeg = i0) (k : fmV p l e R s m args below meth c D A G nL o Q σ cells slots lv (.int (σ 24 a 0 i0) :: rest) (pc + 1)) : fmV p l e R s m args below meth c D A G nL o Q σ cells slots lv (.int i :: .ref (G.1 24 a 0) :: rest) pc :=
  fmV_iald F (fm_mem (a := 2) (b := 1) (by decide +kernel) ha (by decide)) (fun τ => rfl) hdg hin hi k
theorem fmas_24 (F : fmF p s m args meth c D A G own cc nL ret Ts) {a i0 : Nat} (ha : a < 2) {i x : Int32} (hdg : decode cc pc = .ok (.iastore, 1)) (hin : vp_in i 14) (hi : i.toNatClampNeg = i0) (k : fmV p l e R s m args below meth c D A G nL o Q (fmu σ 24 a 0 (upd (σ 24 a 0) i0 x)) cells slots lv rest (pc + 1)) : fmV p l e R s m args below meth c D A G nL o Q σ cells slots lv (.int x :: .int i :: .ref (G.1 24 a 0) :: rest) pc :=
  fmV_iast F (fm_mem (a := 2) (b := 1) (by decide +kernel) ha (by decide)) (fun τ => rfl) rfl hdg hin hi k
theorem fmal_25 (F : fmF p s m args meth c D A G own cc nL ret Ts) {a i0 : Nat} (ha : a < 2) {i : Int32} (hdg : decode cc pc = .ok (.iaload, 1)) (hin : vp_in i 56) (hi : i.toNatClampNeg = i0) (k : fmV p l e R s m args below meth c D A G nL o Q σ cells slots lv (.int (σ 25 a 0 i0) :: rest) (pc + 1)) : fmV p l e R s m args below meth c D A G nL o Q σ cells slots lv (.int i :: .ref (G.1 25 a 0) :: rest) pc :=
  fmV_iald F (fm_mem (a := 2) (b := 1) (by decide +kernel) ha (by decide)) (fun τ => rfl) hdg hin hi k
theorem fmas_25 (F : fmF p s m args meth c D A G own cc nL ret Ts) {a i0 : Nat} (ha : a < 2) {i x : Int32} (hdg : decode cc pc = .ok (.iastore, 1)) (hin : vp_in i 56) (hi : i.toNatClampNeg = i0) (k : fmV p l e R s m args below meth c D A G nL o Q (fmu σ 25 a 0 (upd (σ 25 a 0) i0 x)) cells slots lv rest (pc + 1)) : fmV p l e R s m args below meth c D A G nL o Q σ cells slots lv (.int x :: .int i :: .ref (G.1 25 a 0) :: rest) pc :=
  fmV_iast F (fm_mem (a := 2) (b := 1) (by decide +kernel) ha (by decide)) (fun τ => rfl) rfl hdg hin hi k
theorem fmal_26 (F : fmF p s m args meth c D A G own cc nL ret Ts) {a i0 : Nat} (ha : a < 2) {i : Int32} (hdg : decode cc pc = .ok (.iaload, 1)) (hin : vp_in i 14) (hi : i.toNatClampNeg = i0) (k : fmV p l e R s m args below meth c D A G nL o Q σ cells slots lv (.int (σ 26 a 0 i0) :: rest) (pc + 1)) : fmV p l e R s m args below meth c D A G nL o Q σ cells slots lv (.int i :: .ref (G.1 26 a 0) :: rest) pc :=
  fmV_iald F (fm_mem (a := 2) (b := 1) (by decide +kernel) ha (by decide)) (fun τ => rfl) hdg hin hi k
theorem fmas_26 (F : fmF p s m args meth c D A G own cc nL ret Ts) {a i0 : Nat} (ha : a < 2) {i x : Int32} (hdg : decode cc pc = .ok (.iastore, 1)) (hin : vp_in i 14) (hi : i.toNatClampNeg = i0) (k : fmV p l e R s m args below meth c D A G nL o Q (fmu σ 26 a 0 (upd (σ 26 a 0) i0 x)) cells slots lv rest (pc + 1)) : fmV p l e R s m args below meth c D A G nL o Q σ cells slots lv (.int x :: .int i :: .ref (G.1 26 a 0) :: rest) pc :=
  fmV_iast F (fm_mem (a := 2) (b := 1) (by decide +kernel) ha (by decide)) (fun τ => rfl) rfl hdg hin hi k
theorem fmal_27 (F : fmF p s m args meth c D A G own cc nL ret Ts) {a i0 : Nat} (ha : a < 2) {i : Int32} (hdg : decode cc pc = .ok (.iaload, 1)) (hin : vp_in i 14) (hi : i.toNatClampNeg = i0) (k : fmV p l e R s m args below meth c D A G nL o Q σ cells slots lv (.int (σ 27 a 0 i0) :: rest) (pc + 1)) : fmV p l e R s m args below meth c D A G nL o Q σ cells slots lv (.int i :: .ref (G.1 27 a 0) :: rest) pc :=
  fmV_iald F (fm_mem (a := 2) (b := 1) (by decide +kernel) ha (by decide)) (fun τ => rfl) hdg hin hi k
theorem fmas_27 (F : fmF p s m args meth c D A G own cc nL ret Ts) {a i0 : Nat} (ha : a < 2) {i x : Int32} (hdg : decode cc pc = .ok (.iastore, 1)) (hin : vp_in i 14) (hi : i.toNatClampNeg = i0) (k : fmV p l e R s m args below meth c D A G nL o Q (fmu σ 27 a 0 (upd (σ 27 a 0) i0 x)) cells slots lv rest (pc + 1)) : fmV p l e R s m args below meth c D A G nL o Q σ cells slots lv (.int x :: .int i :: .ref (G.1 27 a 0) :: rest) pc :=
  fmV_iast F (fm_mem (a := 2) (b := 1) (by decide +kernel) ha (by decide)) (fun τ => rfl) rfl hdg hin hi k
theorem fmal_28 (F : fmF p s m args meth c D A G own cc nL ret Ts) {a i0 : Nat} (ha : a < 2) {i : Int32} (hdg : decode cc pc = .ok (.iaload, 1)) (hin : vp_in i 14) (hi : i.toNatClampNeg = i0) (k : fmV p l e R s m args below meth c D A G nL o Q σ cells slots lv (.int (σ 28 a 0 i0) :: rest) (pc + 1)) : fmV p l e R s m args below meth c D A G nL o Q σ cells slots lv (.int i :: .ref (G.1 28 a 0) :: rest) pc :=
  fmV_iald F (fm_mem (a := 2) (b := 1) (by decide +kernel) ha (by decide)) (fun τ => rfl) hdg hin hi k
theorem fmas_28 (F : fmF p s m args meth c D A G own cc nL ret Ts) {a i0 : Nat} (ha : a < 2) {i x : Int32} (hdg : decode cc pc = .ok (.iastore, 1)) (hin : vp_in i 14) (hi : i.toNatClampNeg = i0) (k : fmV p l e R s m args below meth c D A G nL o Q (fmu σ 28 a 0 (upd (σ 28 a 0) i0 x)) cells slots lv rest (pc + 1)) : fmV p l e R s m args below meth c D A G nL o Q σ cells slots lv (.int x :: .int i :: .ref (G.1 28 a 0) :: rest) pc :=
  fmV_iast F (fm_mem (a := 2) (b := 1) (by decide +kernel) ha (by decide)) (fun τ => rfl) rfl hdg hin hi k
theorem fmal_29 (F : fmF p s m args meth c D A G own cc nL ret Ts) {a i0 : Nat} (ha : a < 2) {i : Int32} (hdg : decode cc pc = .ok (.iaload, 1)) (hin : vp_in i 14) (hi : i.toNatClampNeg = i0) (k : fmV p l e R s m args below meth c D A G nL o Q σ cells slots lv (.int (σ 29 a 0 i0) :: rest) (pc + 1)) : fmV p l e R s m args below meth c D A G nL o Q σ cells slots lv (.int i :: .ref (G.1 29 a 0) :: rest) pc :=
  fmV_iald F (fm_mem (a := 2) (b := 1) (by decide +kernel) ha (by decide)) (fun τ => rfl) hdg hin hi k
theorem fmas_29 (F : fmF p s m args meth c D A G own cc nL ret Ts) {a i0 : Nat} (ha : a < 2) {i x : Int32} (hdg : decode cc pc = .ok (.iastore, 1)) (hin : vp_in i 14) (hi : i.toNatClampNeg = i0) (k : fmV p l e R s m args below meth c D A G nL o Q (fmu σ 29 a 0 (upd (σ 29 a 0) i0 x)) cells slots lv rest (pc + 1)) : fmV p l e R s m args below meth c D A G nL o Q σ cells slots lv (.int x :: .int i :: .ref (G.1 29 a 0) :: rest) pc :=
  fmV_iast F (fm_mem (a := 2) (b := 1) (by decide +kernel) ha (by decide)) (fun τ => rfl) rfl hdg hin hi k
theorem fmal_30 (F : fmF p s m args meth c D A G own cc nL ret Ts) {a i0 : Nat} (ha : a < 2) {i : Int32} (hdg : decode cc pc = .ok (.iaload, 1)) (hin : vp_in i 14) (hi : i.toNatClampNeg = i0) (k : fmV p l e R s m args below meth c D A G nL o Q σ cells slots lv (.int (σ 30 a 0 i0) :: rest) (pc + 1)) : fmV p l e R s m args below meth c D A G nL o Q σ cells slots lv (.int i :: .ref (G.1 30 a 0) :: rest) pc :=
  fmV_iald F (fm_mem (a := 2) (b := 1) (by decide +kernel) ha (by decide)) (fun τ => rfl) hdg hin hi k
theorem fmas_30 (F : fmF p s m args meth c D A G own cc nL ret Ts) {a i0 : Nat} (ha : a < 2) {i x : Int32} (hdg : decode cc pc = .ok (.iastore, 1)) (hin : vp_in i 14) (hi : i.toNatClampNeg = i0) (k : fmV p l e R s m args below meth c D A G nL o Q (fmu σ 30 a 0 (upd (σ 30 a 0) i0 x)) cells slots lv rest (pc + 1)) : fmV p l e R s m args below meth c D A G nL o Q σ cells slots lv (.int x :: .int i :: .ref (G.1 30 a 0) :: rest) pc :=
  fmV_iast F (fm_mem (a := 2) (b := 1) (by decide +kernel) ha (by decide)) (fun τ => rfl) rfl hdg hin hi k
theorem fmal_31 (F : fmF p s m args meth c D A G own cc nL ret Ts) {a i0 : Nat} (ha : a < 2) {i : Int32} (hdg : decode cc pc = .ok (.iaload, 1)) (hin : vp_in i 14) (hi : i.toNatClampNeg = i0) (k : fmV p l e R s m args below meth c D A G nL o Q σ cells slots lv (.int (σ 31 a 0 i0) :: rest) (pc + 1)) : fmV p l e R s m args below meth c D A G nL o Q σ cells slots lv (.int i :: .ref (G.1 31 a 0) :: rest) pc :=
  fmV_iald F (fm_mem (a := 2) (b := 1) (by decide +kernel) ha (by decide)) (fun τ => rfl) hdg hin hi k
theorem fmas_31 (F : fmF p s m args meth c D A G own cc nL ret Ts) {a i0 : Nat} (ha : a < 2) {i x : Int32} (hdg : decode cc pc = .ok (.iastore, 1)) (hin : vp_in i 14) (hi : i.toNatClampNeg = i0) (k : fmV p l e R s m args below meth c D A G nL o Q (fmu σ 31 a 0 (upd (σ 31 a 0) i0 x)) cells slots lv rest (pc + 1)) : fmV p l e R s m args below meth c D A G nL o Q σ cells slots lv (.int x :: .int i :: .ref (G.1 31 a 0) :: rest) pc :=
  fmV_iast F (fm_mem (a := 2) (b := 1) (by decide +kernel) ha (by decide)) (fun τ => rfl) rfl hdg hin hi k
theorem fmal_32 (F : fmF p s m args meth c D A G own cc nL ret Ts) {a i0 : Nat} (ha : a < 2) {i : Int32} (hdg : decode cc pc = .ok (.iaload, 1)) (hin : vp_in i 14) (hi : i.toNatClampNeg = i0) (k : fmV p l e R s m args below meth c D A G nL o Q σ cells slots lv (.int (σ 32 a 0 i0) :: rest) (pc + 1)) : fmV p l e R s m args below meth c D A G nL o Q σ cells slots lv (.int i :: .ref (G.1 32 a 0) :: rest) pc :=
  fmV_iald F (fm_mem (a := 2) (b := 1) (by decide +kernel) ha (by decide)) (fun τ => rfl) hdg hin hi k
theorem fmas_32 (F : fmF p s m args meth c D A G own cc nL ret Ts) {a i0 : Nat} (ha : a < 2) {i x : Int32} (hdg : decode cc pc = .ok (.iastore, 1)) (hin : vp_in i 14) (hi : i.toNatClampNeg = i0) (k : fmV p l e R s m args below meth c D A G nL o Q (fmu σ 32 a 0 (upd (σ 32 a 0) i0 x)) cells slots lv rest (pc + 1)) : fmV p l e R s m args below meth c D A G nL o Q σ cells slots lv (.int x :: .int i :: .ref (G.1 32 a 0) :: rest) pc :=
  fmV_iast F (fm_mem (a := 2) (b := 1) (by decide +kernel) ha (by decide)) (fun τ => rfl) rfl hdg hin hi k
theorem fmal_33 (F : fmF p s m args meth c D A G own cc nL ret Ts) {a i0 : Nat} (ha : a < 2) {i : Int32} (hdg : decode cc pc = .ok (.iaload, 1)) (hin : vp_in i 14) (hi : i.toNatClampNeg = i0) (k : fmV p l e R s m args below meth c D A G nL o Q σ cells slots lv (.int (σ 33 a 0 i0) :: rest) (pc + 1)) : fmV p l e R s m args below meth c D A G nL o Q σ cells slots lv (.int i :: .ref (G.1 33 a 0) :: rest) pc :=
  fmV_iald F (fm_mem (a := 2) (b := 1) (by decide +kernel) ha (by decide)) (fun τ => rfl) hdg hin hi k
theorem fmas_33 (F : fmF p s m args meth c D A G own cc nL ret Ts) {a i0 : Nat} (ha : a < 2) {i x : Int32} (hdg : decode cc pc = .ok (.iastore, 1)) (hin : vp_in i 14) (hi : i.toNatClampNeg = i0) (k : fmV p l e R s m args below meth c D A G nL o Q (fmu σ 33 a 0 (upd (σ 33 a 0) i0 x)) cells slots lv rest (pc + 1)) : fmV p l e R s m args below meth c D A G nL o Q σ cells slots lv (.int x :: .int i :: .ref (G.1 33 a 0) :: rest) pc :=
  fmV_iast F (fm_mem (a := 2) (b := 1) (by decide +kernel) ha (by decide)) (fun τ => rfl) rfl hdg hin hi k
end FMV
end
section
/-! CONTRACTS over the world (σ, o); calls; returns; throws -/
def fmPre (D : va_G) (A : Nat → Prop) (G : fmG) (σ : fmS) (o : Nat → Int64) (U : State) : Prop := va_P D vwCl (fmW G σ o) U.heap ∧ va_K D vwCl (fmT G) U ∧ (∀ σ o, va_D A (fmW G σ o)) ∧ (∀ q, U.heap.size ≤ q → A q)
/-- the throwables' statics, and the class's three texts -/
def fmX (A : Nat → Prop) (U : State) : Prop := vx_Zq Bundle.tN "UNASSIGNED_STACK" Bundle.steD A U U.heap ∧ vx_Zq Bundle.tN "SUPPRESSED_SENTINEL" Bundle.listD A U U.heap ∧ (∃ a, vk_R RX4 190 "there is no such number" a U) ∧ (∃ a, vk_R RX4 197 "the value is out of its range" a U) ∧ (∃ a, vk_R RX4 202 "this can not be done now" a U)
def fmPreX (D : va_G) (A : Nat → Prop) (G : fmG) (σ : fmS) (o : Nat → Int64) (U : State) : Prop := fmPre D A G σ o U ∧ fmX A U
abbrev fmB (D : va_G) (G : fmG) (o : Nat → Int64) : fmS → State → Prop := fun u t => va_P D vwCl (fmW G u o) t.heap
theorem fmPre_blind {D : va_G} {A : Nat → Prop} {G : fmG} {σ : fmS} {o : Nat → Int64} {as : List Value} : FrameBlind (va_Pc as (fmPre D A G σ o)) :=
  fun a U g mk q => ⟨q.1, q.2.1, va_K.moved (u := U) (U := U.calling g mk a) (Vm.Alike.refl U.vm) q.2.2.1, q.2.2.2.1, q.2.2.2.2⟩
theorem fmX_same {A : Nat → Prop} {u U : State} (hv : U.vm = u.vm) (hh : U.heap = u.heap) (h : fmX A u) : fmX A U := by
  have ha : u.vm.Alike U.vm := by rw [hv]; exact Vm.Alike.refl _
  obtain ⟨h1, h2, ⟨a1, h3⟩, ⟨a2, h4⟩, ⟨a3, h5⟩⟩ := h
  exact ⟨by rw [hh]; exact vx_Zq.moved ha h1, by rw [hh]; exact vx_Zq.moved ha h2, ⟨a1, vk_R.same hv h3⟩, ⟨a2, vk_R.same hv h4⟩, ⟨a3, vk_R.same hv h5⟩⟩
theorem fmX_go {A : Nat → Prop} {s U : State} {H : Heap} {locs : List Loc} (hW : s.WarmedH U.vm) (hU : U.heap = H) (hS : va_S A s.heap H locs) (h : fmX A s) : fmX A U := by
  obtain ⟨h1, h2, ⟨a1, h3⟩, ⟨a2, h4⟩, ⟨a3, h5⟩⟩ := h
  exact ⟨by rw [hU]; exact vx_Zq.moved hW.alike (h1.kept hS.2.1), by rw [hU]; exact vx_Zq.moved hW.alike (h2.kept hS.2.1), ⟨a1, vk_R.warm hW h3⟩, ⟨a2, vk_R.warm hW h4⟩, ⟨a3, vk_R.warm hW h5⟩⟩
theorem fmPreX_blind {D : va_G} {A : Nat → Prop} {G : fmG} {σ : fmS} {o : Nat → Int64} {as : List Value} : FrameBlind (va_Pc as (fmPreX D A G σ o)) :=
  fun a U g mk q => ⟨q.1, (fmPre_blind a U g mk ⟨q.1, q.2.1⟩).2, fmX_same rfl rfl q.2.2⟩

def fmMi (l : Launch) (D : va_G) (A : Nat → Prop) (G : fmG) (y : MethodName) (ws : List Cond) (rm : Room) (mc ms : Nat) (as : List Value) (σ : fmS) (o : Nat → Int64) (post : Int32 → fmS → Prop) : Prop := Met l y ws rm (va_Pc as (fmPre D A G σ o)) (va_Qi post (fmB D G o) A) mc ms A
def fmXi (l : Launch) (D : va_G) (A : Nat → Prop) (G : fmG) (y : MethodName) (ws : List Cond) (rm : Room) (mc ms : Nat) (as : List Value) (σ : fmS) (o : Nat → Int64) (post : Int32 → fmS → Prop) (px : String → fmS → Prop) : Prop := vx_Met l y ws rm (va_Pc as (fmPreX D A G σ o)) (va_Qi post (fmB D G o) A) (vx_X (fun _ : fmS => True) (fun E u t => px E u ∧ fmB D G o u t) A) mc ms A
def fmMl (l : Launch) (D : va_G) (A : Nat → Prop) (G : fmG) (y : MethodName) (ws : List Cond) (rm : Room) (mc ms : Nat) (as : List Value) (σ : fmS) (o : Nat → Int64) (post : Int64 → fmS → Prop) : Prop := Met l y ws rm (va_Pc as (fmPre D A G σ o)) (va_Ql post (fmB D G o) A) mc ms A
def fmXl (l : Launch) (D : va_G) (A : Nat → Prop) (G : fmG) (y : MethodName) (ws : List Cond) (rm : Room) (mc ms : Nat) (as : List Value) (σ : fmS) (o : Nat → Int64) (post : Int64 → fmS → Prop) (px : String → fmS → Prop) : Prop := vx_Met l y ws rm (va_Pc as (fmPreX D A G σ o)) (va_Ql post (fmB D G o) A) (vx_X (fun _ : fmS => True) (fun E u t => px E u ∧ fmB D G o u t) A) mc ms A
def fmMd (l : Launch) (D : va_G) (A : Nat → Prop) (G : fmG) (y : MethodName) (ws : List Cond) (rm : Room) (mc ms : Nat) (as : List Value) (σ : fmS) (o : Nat → Int64) (post : UInt64 → fmS → Prop) : Prop := Met l y ws rm (va_Pc as (fmPre D A G σ o)) (va_Qd post (fmB D G o) A) mc ms A
def fmXd (l : Launch) (D : va_G) (A : Nat → Prop) (G : fmG) (y : MethodName) (ws : List Cond) (rm : Room) (mc ms : Nat) (as : List Value) (σ : fmS) (o : Nat → Int64) (post : UInt64 → fmS → Prop) (px : String → fmS → Prop) : Prop := vx_Met l y ws rm (va_Pc as (fmPreX D A G σ o)) (va_Qd post (fmB D G o) A) (vx_X (fun _ : fmS => True) (fun E u t => px E u ∧ fmB D G o u t) A) mc ms A
def fmMv (l : Launch) (D : va_G) (A : Nat → Prop) (G : fmG) (y : MethodName) (ws : List Cond) (rm : Room) (mc ms : Nat) (as : List Value) (σ : fmS) (o : Nat → Int64) (post : fmS → Prop) : Prop := Met l y ws rm (va_Pc as (fmPre D A G σ o)) (va_Qv post (fmB D G o) A) mc ms A
def fmXv (l : Launch) (D : va_G) (A : Nat → Prop) (G : fmG) (y : MethodName) (ws : List Cond) (rm : Room) (mc ms : Nat) (as : List Value) (σ : fmS) (o : Nat → Int64) (post : fmS → Prop) (px : String → fmS → Prop) : Prop := vx_Met l y ws rm (va_Pc as (fmPreX D A G σ o)) (va_Qv post (fmB D G o) A) (vx_X (fun _ : fmS => True) (fun E u t => px E u ∧ fmB D G o u t) A) mc ms A
def fmMq (l : Launch) (D : va_G) (A : Nat → Prop) (G : fmG) (y : MethodName) (ws : List Cond) (rm : Room) (mc ms : Nat) (as : List Value) (σ : fmS) (o : Nat → Int64) (post : Option Nat → fmS → Prop) : Prop := Met l y ws rm (va_Pc as (fmPre D A G σ o)) (va_Qq post (fmB D G o) A) mc ms A

section FMC
variable {p : Program} {l : Launch} {e : Env} {R : Room} {s : State} {m : MethodId} {args : Array Value} {below : List Frame} {meth : Method} {c : Code} {D : va_G} {A : Nat → Prop} {G : fmG} {nL : Nat} {o : Nat → Int64} {Q : State → Prop} {σ : fmS} {cells slots : Nat} {lv : List (Nat × Value)} {st rest : List Value} {pc : Nat} {own : String} {cc : ByteArray} {ret : Option FieldType} {Ts : List Cond}
/-- the receiver's class -/
def fmRcv (s : State) (D : va_G) (G : fmG) (σ : fmS) (o : Nat → Int64) (b : Nat) (C : String) : Prop := ∀ H : Heap, va_P D vwCl (fmW G σ o) H → ∃ cell : Cell, H[b]? = some cell ∧ cell.vm.isStatics = false ∧ s.vm.findClass C = some cell.cls
theorem fmRcv_of (F : fmF p s m args meth c D A G own cc nL ret Ts) {kd a b ci : Nat} {r : vw_C} {fs : List Value} (hid : (kd, a, b) ∈ fmIds) (hc : fmC G σ o (kd, a, b) = .inr (ci, fs)) (hcl : vwCl[ci]? = some r) : fmRcv s D G σ o (G.1 kd a b) r.1 := by
  obtain ⟨hx, hb, hml, hr, hown, hts, hK, hD, hA, hlk⟩ := F
  intro H hP
  obtain ⟨q0, -, hq⟩ := fmW_get G σ o hid
  rw [hc] at hq
  exact va_recv hK hP hcl hq
theorem fmR_0 (F : fmF p s m args meth c D A G own cc nL ret Ts)  : fmRcv s D G σ o (G.1 0 0 0) RX4 := fmRcv_of F (fm_mem (a := 1) (b := 1) (by decide +kernel) (by decide) (by decide)) (fmC_is_0 G σ o 0 0) rfl
theorem fmR_1 (F : fmF p s m args meth c D A G own cc nL ret Ts)  : fmRcv s D G σ o (G.1 1 0 0) RX3 := fmRcv_of F (fm_mem (a := 1) (b := 1) (by decide +kernel) (by decide) (by decide)) (fmC_is_1 G σ o 0 0) rfl
theorem fmR_4 (F : fmF p s m args meth c D A G own cc nL ret Ts) {a : Nat}  (ha : a < 2) : fmRcv s D G σ o (G.1 4 a 0) RX1 := fmRcv_of F (fm_mem (a := 2) (b := 1) (by decide +kernel) ha (by decide)) (fmC_is_4 G σ o a 0) rfl
theorem fmR_7 (F : fmF p s m args meth c D A G own cc nL ret Ts) {a b : Nat}  (ha : a < 2) (hb9 : b < 4) : fmRcv s D G σ o (G.1 7 a b) RX2 := fmRcv_of F (fm_mem (a := 2) (b := 4) (by decide +kernel) ha hb9) (fmC_is_7 G σ o a b) rfl
theorem fmR_9 (F : fmF p s m args meth c D A G own cc nL ret Ts) {a b : Nat}  (ha : a < 2) (hb9 : b < 14) : fmRcv s D G σ o (G.1 9 a b) RX0 := fmRcv_of F (fm_mem (a := 2) (b := 14) (by decide +kernel) ha hb9) (fmC_is_9 G σ o a b) rfl
theorem fmR_14 (F : fmF p s m args meth c D A G own cc nL ret Ts)  : fmRcv s D G σ o (G.1 14 0 0) RX6 := fmRcv_of F (fm_mem (a := 1) (b := 1) (by decide +kernel) (by decide) (by decide)) (fmC_is_14 G σ o 0 0) rfl
theorem fmR_23 (F : fmF p s m args meth c D A G own cc nL ret Ts) {a : Nat}  (ha : a < 2) : fmRcv s D G σ o (G.1 23 a 0) RX5 := fmRcv_of F (fm_mem (a := 2) (b := 1) (by decide +kernel) ha (by decide)) (fmC_is_23 G σ o a 0) rfl
theorem fmPre_at (F : fmF p s m args meth c D A G own cc nL ret Ts) {H : Heap} {locs : List Loc} (hP : va_P D vwCl (fmW G σ o) H) (hS : va_S A s.heap H locs) {U : State} (hU : U.heap = H) (hW : s.WarmedH U.vm) : fmPre D A G σ o U := by
  obtain ⟨hx, hb, hml, hr, hown, hts, hK, hD, hA, hlk⟩ := F
  exact ⟨by rw [hU]; exact hP, va_K.moved hW.alike hK, hD, fun q hq => hA q (Nat.le_trans hS.1 (by rw [hU] at hq; exact hq))⟩
theorem fmV_cVi (F : fmF p s m args meth c D A G own cc nL ret Ts) {y : MethodName} {ws ws' : List Cond} {rm : Room} {mc ms n index maxL : Nat} {bytes : ByteArray} {ret9 : Option FieldType} {As : List Value} {b : Nat} {C : String} {post : Int32 → fmS → Prop} (hM : fmMi l D A G y ws rm mc ms (.ref b :: As) σ o post) (hG : GoodIn Ts (wsV own index C y ws)) (hw : ws = Cond.code y bytes maxL ret9 :: ws') (hrc : rm.cells = mc) (hrs : rm.slots = ms) (hd : y.cls = C ∧ y.cls ≠ "java/lang/invoke/MethodHandle" ∧ y.cls ≠ "java/lang/invoke/VarHandle" ∧ (parseMethodDescriptor y.desc).map (fun d => d.parameters.length) = some n) (hR : rm.frames + 1 ≤ R.frames ∧ 8 + (maxL + 11) + rm.locals ≤ R.locals) (hrec : fmRcv s D G σ o b C) (hst : st = As.reverse ++ .ref b :: rest) (hn : As.length = n) (hcat : (rest.map fun v => v.category).sum ≤ 8) (hdg : decode cc pc = .ok (.invokevirtual index, 3)) (hf : cells + mc ≤ R.cells ∧ slots + ms ≤ R.slots) (k : ∀ (r : Int32) (u : fmS), post r u → fmV p l e R s m args below meth c D A G nL o Q u (cells + mc) (slots + ms) lv (.int r :: rest) (pc + 3)) : fmV p l e R s m args below meth c D A G nL o Q σ cells slots lv st pc := by
  have F0 := F
  obtain ⟨hx, hb, hml, hr, hown, hts, hK, hD, hA, hlk⟩ := F
  intro H locs ls hP hS hl
  refine va_calli (va_runV (As := As) (rest := rest) ⟨hx, hb, hml, hown, hts⟩ hM (cwV n hts hG hw hrc hrs hd hR) ⟨fmPre_blind, hrec H hP, fun U hU hW => ⟨rfl, fmPre_at F0 hP hS hU hW⟩⟩ rfl hn hl.1 hst (lv_room hcat) hdg hf) hS (fun q _ h => h) (fun q h => h) (fun r u t H1 locs1 ht hvm hw hB hz1 hk1 hS1 => ?_)
  have hB : va_P D vwCl (fmW G u o) H1 := by have h9 : va_P D vwCl (fmW G u o) t.heap := hB; rw [ht] at h9; exact h9
  exact k r u hw H1 locs1 ls hB hS1 hl
theorem fmV_cVl (F : fmF p s m args meth c D A G own cc nL ret Ts) {y : MethodName} {ws ws' : List Cond} {rm : Room} {mc ms n index maxL : Nat} {bytes : ByteArray} {ret9 : Option FieldType} {As : List Value} {b : Nat} {C : String} {post : Int64 → fmS → Prop} (hM : fmMl l D A G y ws rm mc ms (.ref b :: As) σ o post) (hG : GoodIn Ts (wsV own index C y ws)) (hw : ws = Cond.code y bytes maxL ret9 :: ws') (hrc : rm.cells = mc) (hrs : rm.slots = ms) (hd : y.cls = C ∧ y.cls ≠ "java/lang/invoke/MethodHandle" ∧ y.cls ≠ "java/lang/invoke/VarHandle" ∧ (parseMethodDescriptor y.desc).map (fun d => d.parameters.length) = some n) (hR : rm.frames + 1 ≤ R.frames ∧ 8 + (maxL + 11) + rm.locals ≤ R.locals) (hrec : fmRcv s D G σ o b C) (hst : st = As.reverse ++ .ref b :: rest) (hn : As.length = n) (hcat : (rest.map fun v => v.category).sum ≤ 8) (hdg : decode cc pc = .ok (.invokevirtual index, 3)) (hf : cells + mc ≤ R.cells ∧ slots + ms ≤ R.slots) (k : ∀ (r : Int64) (u : fmS), post r u → fmV p l e R s m args below meth c D A G nL o Q u (cells + mc) (slots + ms) lv (.long r :: rest) (pc + 3)) : fmV p l e R s m args below meth c D A G nL o Q σ cells slots lv st pc := by
  have F0 := F
  obtain ⟨hx, hb, hml, hr, hown, hts, hK, hD, hA, hlk⟩ := F
  intro H locs ls hP hS hl
  refine va_calll (va_runV (As := As) (rest := rest) ⟨hx, hb, hml, hown, hts⟩ hM (cwV n hts hG hw hrc hrs hd hR) ⟨fmPre_blind, hrec H hP, fun U hU hW => ⟨rfl, fmPre_at F0 hP hS hU hW⟩⟩ rfl hn hl.1 hst (lv_room hcat) hdg hf) hS (fun q _ h => h) (fun q h => h) (fun r u t H1 locs1 ht hvm hw hB hz1 hk1 hS1 => ?_)
  have hB : va_P D vwCl (fmW G u o) H1 := by have h9 : va_P D vwCl (fmW G u o) t.heap := hB; rw [ht] at h9; exact h9
  exact k r u hw H1 locs1 ls hB hS1 hl
theorem fmV_cVd (F : fmF p s m args meth c D A G own cc nL ret Ts) {y : MethodName} {ws ws' : List Cond} {rm : Room} {mc ms n index maxL : Nat} {bytes : ByteArray} {ret9 : Option FieldType} {As : List Value} {b : Nat} {C : String} {post : UInt64 → fmS → Prop} (hM : fmMd l D A G y ws rm mc ms (.ref b :: As) σ o post) (hG : GoodIn Ts (wsV own index C y ws)) (hw : ws = Cond.code y bytes maxL ret9 :: ws') (hrc : rm.cells = mc) (hrs : rm.slots = ms) (hd : y.cls = C ∧ y.cls ≠ "java/lang/invoke/MethodHandle" ∧ y.cls ≠ "java/lang/invoke/VarHandle" ∧ (parseMethodDescriptor y.desc).map (fun d => d.parameters.length) = some n) (hR : rm.frames + 1 ≤ R.frames ∧ 8 + (maxL + 11) + rm.locals ≤ R.locals) (hrec : fmRcv s D G σ o b C) (hst : st = As.reverse ++ .ref b :: rest) (hn : As.length = n) (hcat : (rest.map fun v => v.category).sum ≤ 8) (hdg : decode cc pc = .ok (.invokevirtual index, 3)) (hf : cells + mc ≤ R.cells ∧ slots + ms ≤ R.slots) (k : ∀ (r : UInt64) (u : fmS), post r u → fmV p l e R s m args below meth c D A G nL o Q u (cells + mc) (slots + ms) lv (.double r :: rest) (pc + 3)) : fmV p l e R s m args below meth c D A G nL o Q σ cells slots lv st pc := by
  have F0 := F
  obtain ⟨hx, hb, hml, hr, hown, hts, hK, hD, hA, hlk⟩ := F
  intro H locs ls hP hS hl
  refine va_calld (va_runV (As := As) (rest := rest) ⟨hx, hb, hml, hown, hts⟩ hM (cwV n hts hG hw hrc hrs hd hR) ⟨fmPre_blind, hrec H hP, fun U hU hW => ⟨rfl, fmPre_at F0 hP hS hU hW⟩⟩ rfl hn hl.1 hst (lv_room hcat) hdg hf) hS (fun q _ h => h) (fun q h => h) (fun r u t H1 locs1 ht hvm hw hB hz1 hk1 hS1 => ?_)
  have hB : va_P D vwCl (fmW G u o) H1 := by have h9 : va_P D vwCl (fmW G u o) t.heap := hB; rw [ht] at h9; exact h9
  exact k r u hw H1 locs1 ls hB hS1 hl
theorem fmV_cVv (F : fmF p s m args meth c D A G own cc nL ret Ts) {y : MethodName} {ws ws' : List Cond} {rm : Room} {mc ms n index maxL : Nat} {bytes : ByteArray} {ret9 : Option FieldType} {As : List Value} {b : Nat} {C : String} {post : fmS → Prop} (hM : fmMv l D A G y ws rm mc ms (.ref b :: As) σ o post) (hG : GoodIn Ts (wsV own index C y ws)) (hw : ws = Cond.code y bytes maxL ret9 :: ws') (hrc : rm.cells = mc) (hrs : rm.slots = ms) (hd : y.cls = C ∧ y.cls ≠ "java/lang/invoke/MethodHandle" ∧ y.cls ≠ "java/lang/invoke/VarHandle" ∧ (parseMethodDescriptor y.desc).map (fun d => d.parameters.length) = some n) (hR : rm.frames + 1 ≤ R.frames ∧ 8 + (maxL + 11) + rm.locals ≤ R.locals) (hrec : fmRcv s D G σ o b C) (hst : st = As.reverse ++ .ref b :: rest) (hn : As.length = n) (hcat : (rest.map fun v => v.category).sum ≤ 8) (hdg : decode cc pc = .ok (.invokevirtual index, 3)) (hf : cells + mc ≤ R.cells ∧ slots + ms ≤ R.slots) (k : ∀ u : fmS, post u → fmV p l e R s m args below meth c D A G nL o Q u (cells + mc) (slots + ms) lv rest (pc + 3)) : fmV p l e R s m args below meth c D A G nL o Q σ cells slots lv st pc := by
  have F0 := F
  obtain ⟨hx, hb, hml, hr, hown, hts, hK, hD, hA, hlk⟩ := F
  intro H locs ls hP hS hl
  refine va_callv (va_runV (As := As) (rest := rest) ⟨hx, hb, hml, hown, hts⟩ hM (cwV n hts hG hw hrc hrs hd hR) ⟨fmPre_blind, hrec H hP, fun U hU hW => ⟨rfl, fmPre_at F0 hP hS hU hW⟩⟩ rfl hn hl.1 hst (lv_room hcat) hdg hf) hS (fun q _ h => h) (fun q h => h) (fun u t H1 locs1 ht hvm hw hB hz1 hk1 hS1 => ?_)
  have hB : va_P D vwCl (fmW G u o) H1 := by have h9 : va_P D vwCl (fmW G u o) t.heap := hB; rw [ht] at h9; exact h9
  exact k u hw H1 locs1 ls hB hS1 hl
theorem fmV_cSi (F : fmF p s m args meth c D A G own cc nL ret Ts) {y : MethodName} {ws ws' : List Cond} {rm : Room} {mc ms n index maxL : Nat} {bytes : ByteArray} {ret9 : Option FieldType} {As : List Value}  {post : Int32 → fmS → Prop} (hM : fmMi l D A G y ws rm mc ms As σ o post) (hG : GoodIn Ts (va_wsS own index y ws)) (hw : ws = Cond.code y bytes maxL ret9 :: ws') (hrc : rm.cells = mc) (hrs : rm.slots = ms) (hd : y.cls ≠ "java/lang/invoke/MethodHandle" ∧ y.cls ≠ "java/lang/invoke/VarHandle" ∧ (parseMethodDescriptor y.desc).map (fun d => d.parameters.length) = some n) (hR : rm.frames + 1 ≤ R.frames ∧ 8 + (maxL + 11) + rm.locals ≤ R.locals)  (hst : st = As.reverse ++ rest) (hn : As.length = n) (hcat : (rest.map fun v => v.category).sum ≤ 8) (hdg : decode cc pc = .ok (.invokestatic index, 3)) (hf : cells + mc ≤ R.cells ∧ slots + ms ≤ R.slots) (k : ∀ (r : Int32) (u : fmS), post r u → fmV p l e R s m args below meth c D A G nL o Q u (cells + mc) (slots + ms) lv (.int r :: rest) (pc + 3)) : fmV p l e R s m args below meth c D A G nL o Q σ cells slots lv st pc := by
  have F0 := F
  obtain ⟨hx, hb, hml, hr, hown, hts, hK, hD, hA, hlk⟩ := F
  intro H locs ls hP hS hl
  refine va_calli (va_runS (As := As) (rest := rest) ⟨hx, hb, hml, hown, hts⟩ hM (va_cwS n hts hG hw hrc hrs hd hR) ⟨fmPre_blind, fun U hU hW => ⟨rfl, fmPre_at F0 hP hS hU hW⟩⟩ rfl hn hl.1 hst (lv_room hcat) hdg hf) hS (fun q _ h => h) (fun q h => h) (fun r u t H1 locs1 ht hvm hw hB hz1 hk1 hS1 => ?_)
  have hB : va_P D vwCl (fmW G u o) H1 := by have h9 : va_P D vwCl (fmW G u o) t.heap := hB; rw [ht] at h9; exact h9
  exact k r u hw H1 locs1 ls hB hS1 hl
theorem fmV_cSl (F : fmF p s m args meth c D A G own cc nL ret Ts) {y : MethodName} {ws ws' : List Cond} {rm : Room} {mc ms n index maxL : Nat} {bytes : ByteArray} {ret9 : Option FieldType} {As : List Value}  {post : Int64 → fmS → Prop} (hM : fmMl l D A G y ws rm mc ms As σ o post) (hG : GoodIn Ts (va_wsS own index y ws)) (hw : ws = Cond.code y bytes maxL ret9 :: ws') (hrc : rm.cells = mc) (hrs : rm.slots = ms) (hd : y.cls ≠ "java/lang/invoke/MethodHandle" ∧ y.cls ≠ "java/lang/invoke/VarHandle" ∧ (parseMethodDescriptor y.desc).map (fun d => d.parameters.length) = some n) (hR : rm.frames + 1 ≤ R.frames ∧ 8 + (maxL + 11) + rm.locals ≤ R.locals)  (hst : st = As.reverse ++ rest) (hn : As.length = n) (hcat : (rest.map fun v => v.category).sum ≤ 8) (hdg : decode cc pc = .ok (.invokestatic index, 3)) (hf : cells + mc ≤ R.cells ∧ slots + ms ≤ R.slots) (k : ∀ (r : Int64) (u : fmS), post r u → fmV p l e R s m args below meth c D A G nL o Q u (cells + mc) (slots + ms) lv (.long r :: rest) (pc + 3)) : fmV p l e R s m args below meth c D A G nL o Q σ cells slots lv st pc := by
  have F0 := F
  obtain ⟨hx, hb, hml, hr, hown, hts, hK, hD, hA, hlk⟩ := F
  intro H locs ls hP hS hl
  refine va_calll (va_runS (As := As) (rest := rest) ⟨hx, hb, hml, hown, hts⟩ hM (va_cwS n hts hG hw hrc hrs hd hR) ⟨fmPre_blind, fun U hU hW => ⟨rfl, fmPre_at F0 hP hS hU hW⟩⟩ rfl hn hl.1 hst (lv_room hcat) hdg hf) hS (fun q _ h => h) (fun q h => h) (fun r u t H1 locs1 ht hvm hw hB hz1 hk1 hS1 => ?_)
  have hB : va_P D vwCl (fmW G u o) H1 := by have h9 : va_P D vwCl (fmW G u o) t.heap := hB; rw [ht] at h9; exact h9
  exact k r u hw H1 locs1 ls hB hS1 hl
theorem fmV_cSd (F : fmF p s m args meth c D A G own cc nL ret Ts) {y : MethodName} {ws ws' : List Cond} {rm : Room} {mc ms n index maxL : Nat} {bytes : ByteArray} {ret9 : Option FieldType} {As : List Value}  {post : UInt64 → fmS → Prop} (hM : fmMd l D A G y ws rm mc ms As σ o post) (hG : GoodIn Ts (va_wsS own index y ws)) (hw : ws = Cond.code y bytes maxL ret9 :: ws') (hrc : rm.cells = mc) (hrs : rm.slots = ms) (hd : y.cls ≠ "java/lang/invoke/MethodHandle" ∧ y.cls ≠ "java/lang/invoke/VarHandle" ∧ (parseMethodDescriptor y.desc).map (fun d => d.parameters.length) = some n) (hR : rm.frames + 1 ≤ R.frames ∧ 8 + (maxL + 11) + rm.locals ≤ R.locals)  (hst : st = As.reverse ++ rest) (hn : As.length = n) (hcat : (rest.map fun v => v.category).sum ≤ 8) (hdg : decode cc pc = .ok (.invokestatic index, 3)) (hf : cells + mc ≤ R.cells ∧ slots + ms ≤ R.slots) (k : ∀ (r : UInt64) (u : fmS), post r u → fmV p l e R s m args below meth c D A G nL o Q u (cells + mc) (slots + ms) lv (.double r :: rest) (pc + 3)) : fmV p l e R s m args below meth c D A G nL o Q σ cells slots lv st pc := by
  have F0 := F
  obtain ⟨hx, hb, hml, hr, hown, hts, hK, hD, hA, hlk⟩ := F
  intro H locs ls hP hS hl
  refine va_calld (va_runS (As := As) (rest := rest) ⟨hx, hb, hml, hown, hts⟩ hM (va_cwS n hts hG hw hrc hrs hd hR) ⟨fmPre_blind, fun U hU hW => ⟨rfl, fmPre_at F0 hP hS hU hW⟩⟩ rfl hn hl.1 hst (lv_room hcat) hdg hf) hS (fun q _ h => h) (fun q h => h) (fun r u t H1 locs1 ht hvm hw hB hz1 hk1 hS1 => ?_)
  have hB : va_P D vwCl (fmW G u o) H1 := by have h9 : va_P D vwCl (fmW G u o) t.heap := hB; rw [ht] at h9; exact h9
  exact k r u hw H1 locs1 ls hB hS1 hl
theorem fmV_cSv (F : fmF p s m args meth c D A G own cc nL ret Ts) {y : MethodName} {ws ws' : List Cond} {rm : Room} {mc ms n index maxL : Nat} {bytes : ByteArray} {ret9 : Option FieldType} {As : List Value}  {post : fmS → Prop} (hM : fmMv l D A G y ws rm mc ms As σ o post) (hG : GoodIn Ts (va_wsS own index y ws)) (hw : ws = Cond.code y bytes maxL ret9 :: ws') (hrc : rm.cells = mc) (hrs : rm.slots = ms) (hd : y.cls ≠ "java/lang/invoke/MethodHandle" ∧ y.cls ≠ "java/lang/invoke/VarHandle" ∧ (parseMethodDescriptor y.desc).map (fun d => d.parameters.length) = some n) (hR : rm.frames + 1 ≤ R.frames ∧ 8 + (maxL + 11) + rm.locals ≤ R.locals)  (hst : st = As.reverse ++ rest) (hn : As.length = n) (hcat : (rest.map fun v => v.category).sum ≤ 8) (hdg : decode cc pc = .ok (.invokestatic index, 3)) (hf : cells + mc ≤ R.cells ∧ slots + ms ≤ R.slots) (k : ∀ u : fmS, post u → fmV p l e R s m args below meth c D A G nL o Q u (cells + mc) (slots + ms) lv rest (pc + 3)) : fmV p l e R s m args below meth c D A G nL o Q σ cells slots lv st pc := by
  have F0 := F
  obtain ⟨hx, hb, hml, hr, hown, hts, hK, hD, hA, hlk⟩ := F
  intro H locs ls hP hS hl
  refine va_callv (va_runS (As := As) (rest := rest) ⟨hx, hb, hml, hown, hts⟩ hM (va_cwS n hts hG hw hrc hrs hd hR) ⟨fmPre_blind, fun U hU hW => ⟨rfl, fmPre_at F0 hP hS hU hW⟩⟩ rfl hn hl.1 hst (lv_room hcat) hdg hf) hS (fun q _ h => h) (fun q h => h) (fun u t H1 locs1 ht hvm hw hB hz1 hk1 hS1 => ?_)
  have hB : va_P D vwCl (fmW G u o) H1 := by have h9 : va_P D vwCl (fmW G u o) t.heap := hB; rw [ht] at h9; exact h9
  exact k u hw H1 locs1 ls hB hS1 hl
theorem fmV_cVq (F : fmF p s m args meth c D A G own cc nL ret Ts) {y : MethodName} {ws ws' : List Cond} {rm : Room} {mc ms n index maxL : Nat} {bytes : ByteArray} {ret9 : Option FieldType} {As : List Value} {b : Nat} {C : String} {post : Option Nat → fmS → Prop} (hM : fmMq l D A G y ws rm mc ms (.ref b :: As) σ o post) (hG : GoodIn Ts (wsV own index C y ws)) (hw : ws = Cond.code y bytes maxL ret9 :: ws') (hrc : rm.cells = mc) (hrs : rm.slots = ms) (hd : y.cls = C ∧ y.cls ≠ "java/lang/invoke/MethodHandle" ∧ y.cls ≠ "java/lang/invoke/VarHandle" ∧ (parseMethodDescriptor y.desc).map (fun d => d.parameters.length) = some n) (hR : rm.frames + 1 ≤ R.frames ∧ 8 + (maxL + 11) + rm.locals ≤ R.locals) (hrec : fmRcv s D G σ o b C) (hst : st = As.reverse ++ .ref b :: rest) (hn : As.length = n) (hcat : (rest.map fun v => v.category).sum ≤ 8) (hdg : decode cc pc = .ok (.invokevirtual index, 3)) (hf : cells + mc ≤ R.cells ∧ slots + ms ≤ R.slots) (k : ∀ (r : Option Nat) (u : fmS), post r u → fmV p l e R s m args below meth c D A G nL o Q u (cells + mc) (slots + ms) lv (va_rf r :: rest) (pc + 3)) : fmV p l e R s m args below meth c D A G nL o Q σ cells slots lv st pc := by
  have F0 := F
  obtain ⟨hx, hb, hml, hr, hown, hts, hK, hD, hA, hlk⟩ := F
  intro H locs ls hP hS hl
  refine va_callq (va_runV (As := As) (rest := rest) ⟨hx, hb, hml, hown, hts⟩ hM (cwV n hts hG hw hrc hrs hd hR) ⟨fmPre_blind, hrec H hP, fun U hU hW => ⟨rfl, fmPre_at F0 hP hS hU hW⟩⟩ rfl hn hl.1 hst (lv_room hcat) hdg hf) hS (fun q _ h => h) (fun q h => h) (fun r u t H1 locs1 ht hvm hw hB hz1 hk1 hS1 => ?_)
  have hB : va_P D vwCl (fmW G u o) H1 := by have h9 : va_P D vwCl (fmW G u o) t.heap := hB; rw [ht] at h9; exact h9
  exact k r u hw H1 locs1 ls hB hS1 hl
theorem fmV_xSi (F : fmF p s m args meth c D A G own cc nL ret Ts) (hX : fmX A s) {y : MethodName} {ws ws' : List Cond} {rm : Room} {mc ms n index maxL : Nat} {bytes : ByteArray} {ret9 : Option FieldType} {As : List Value}  {post : Int32 → fmS → Prop} {px : String → fmS → Prop} (hM : fmXi l D A G y ws rm mc ms As σ o post px) (hG : GoodIn Ts (va_wsS own index y ws)) (hw : ws = Cond.code y bytes maxL ret9 :: ws') (hrc : rm.cells = mc) (hrs : rm.slots = ms) (hd : y.cls ≠ "java/lang/invoke/MethodHandle" ∧ y.cls ≠ "java/lang/invoke/VarHandle" ∧ (parseMethodDescriptor y.desc).map (fun d => d.parameters.length) = some n) (hR : rm.frames + 1 ≤ R.frames ∧ 8 + (maxL + 11) + rm.locals ≤ R.locals)  (hst : st = As.reverse ++ rest) (hn : As.length = n) (hcat : (rest.map fun v => v.category).sum ≤ 8) (hdg : decode cc pc = .ok (.invokestatic index, 3)) (hf : cells + mc ≤ R.cells ∧ slots + ms ≤ R.slots) (kx : ∀ (E : String) (u : fmS), px E u → ∀ (ce : Cell) (q9 : Addr) (H1 : Heap) (locs1 : List Loc) (ls : Array Slot), va_P D vwCl (fmW G u o) H1 → va_S A s.heap H1 locs1 → lv_has ls nL lv → H1[q9]? = some ce → ce.vm = .none → s.vm.findClass E = some ce.cls → vx_W p l e R s m args below meth c H1 locs1 (cells + mc) (slots + ms) Q (F0 m pc ls rest) q9) (k : ∀ (r : Int32) (u : fmS), post r u → fmV p l e R s m args below meth c D A G nL o Q u (cells + mc) (slots + ms) lv (.int r :: rest) (pc + 3)) : fmV p l e R s m args below meth c D A G nL o Q σ cells slots lv st pc := by
  have F0 := F
  obtain ⟨hx, hb, hml, hr, hown, hts, hK, hD, hA, hlk⟩ := F
  intro H locs ls hP hS hl
  refine vx_calli (vx_runS (As := As) (rest := rest) ⟨hx, hb, hml, hown, hts⟩ hM (va_cwS n hts hG hw hrc hrs hd hR) ⟨fmPreX_blind, fun U hU hW => ⟨rfl, fmPre_at F0 hP hS hU hW, fmX_go hW hU hS hX⟩⟩ rfl hn hl.1 hst (lv_room hcat) hdg hf) hS (fun q _ h => h) (fun q h => h) (fun q _ h => h) (fun E ce q9 u t H1 locs1 ht hvm hu hBX hz1 hk1 hS1 hce hcv hcl => ?_) (fun r u t H1 locs1 ht hvm hw hB hz1 hk1 hS1 => ?_)
  · obtain ⟨hpx, hB⟩ := hBX
    have hB : va_P D vwCl (fmW G u o) H1 := by have h9 : va_P D vwCl (fmW G u o) t.heap := hB; rw [ht] at h9; exact h9
    exact kx E u hpx ce q9 H1 locs1 ls hB hS1 hl hce hcv hcl
  · have hB : va_P D vwCl (fmW G u o) H1 := by have h9 : va_P D vwCl (fmW G u o) t.heap := hB; rw [ht] at h9; exact h9
    exact k r u hw H1 locs1 ls hB hS1 hl
theorem fmV_xSl (F : fmF p s m args meth c D A G own cc nL ret Ts) (hX : fmX A s) {y : MethodName} {ws ws' : List Cond} {rm : Room} {mc ms n index maxL : Nat} {bytes : ByteArray} {ret9 : Option FieldType} {As : List Value}  {post : Int64 → fmS → Prop} {px : String → fmS → Prop} (hM : fmXl l D A G y ws rm mc ms As σ o post px) (hG : GoodIn Ts (va_wsS own index y ws)) (hw : ws = Cond.code y bytes maxL ret9 :: ws') (hrc : rm.cells = mc) (hrs : rm.slots = ms) (hd : y.cls ≠ "java/lang/invoke/MethodHandle" ∧ y.cls ≠ "java/lang/invoke/VarHandle" ∧ (parseMethodDescriptor y.desc).map (fun d => d.parameters.length) = some n) (hR : rm.frames + 1 ≤ R.frames ∧ 8 + (maxL + 11) + rm.locals ≤ R.locals)  (hst : st = As.reverse ++ rest) (hn : As.length = n) (hcat : (rest.map fun v => v.category).sum ≤ 8) (hdg : decode cc pc = .ok (.invokestatic index, 3)) (hf : cells + mc ≤ R.cells ∧ slots + ms ≤ R.slots) (kx : ∀ (E : String) (u : fmS), px E u → ∀ (ce : Cell) (q9 : Addr) (H1 : Heap) (locs1 : List Loc) (ls : Array Slot), va_P D vwCl (fmW G u o) H1 → va_S A s.heap H1 locs1 → lv_has ls nL lv → H1[q9]? = some ce → ce.vm = .none → s.vm.findClass E = some ce.cls → vx_W p l e R s m args below meth c H1 locs1 (cells + mc) (slots + ms) Q (F0 m pc ls rest) q9) (k : ∀ (r : Int64) (u : fmS), post r u → fmV p l e R s m args below meth c D A G nL o Q u (cells + mc) (slots + ms) lv (.long r :: rest) (pc + 3)) : fmV p l e R s m args below meth c D A G nL o Q σ cells slots lv st pc := by
  have F0 := F
  obtain ⟨hx, hb, hml, hr, hown, hts, hK, hD, hA, hlk⟩ := F
  intro H locs ls hP hS hl
  refine vx_calll (vx_runS (As := As) (rest := rest) ⟨hx, hb, hml, hown, hts⟩ hM (va_cwS n hts hG hw hrc hrs hd hR) ⟨fmPreX_blind, fun U hU hW => ⟨rfl, fmPre_at F0 hP hS hU hW, fmX_go hW hU hS hX⟩⟩ rfl hn hl.1 hst (lv_room hcat) hdg hf) hS (fun q _ h => h) (fun q h => h) (fun q _ h => h) (fun E ce q9 u t H1 locs1 ht hvm hu hBX hz1 hk1 hS1 hce hcv hcl => ?_) (fun r u t H1 locs1 ht hvm hw hB hz1 hk1 hS1 => ?_)
  · obtain ⟨hpx, hB⟩ := hBX
    have hB : va_P D vwCl (fmW G u o) H1 := by have h9 : va_P D vwCl (fmW G u o) t.heap := hB; rw [ht] at h9; exact h9
    exact kx E u hpx ce q9 H1 locs1 ls hB hS1 hl hce hcv hcl
  · have hB : va_P D vwCl (fmW G u o) H1 := by have h9 : va_P D vwCl (fmW G u o) t.heap := hB; rw [ht] at h9; exact h9
    exact k r u hw H1 locs1 ls hB hS1 hl
theorem fmV_xSd (F : fmF p s m args meth c D A G own cc nL ret Ts) (hX : fmX A s) {y : MethodName} {ws ws' : List Cond} {rm : Room} {mc ms n index maxL : Nat} {bytes : ByteArray} {ret9 : Option FieldType} {As : List Value}  {post : UInt64 → fmS → Prop} {px : String → fmS → Prop} (hM : fmXd l D A G y ws rm mc ms As σ o post px) (hG : GoodIn Ts (va_wsS own index y ws)) (hw : ws = Cond.code y bytes maxL ret9 :: ws') (hrc : rm.cells = mc) (hrs : rm.slots = ms) (hd : y.cls ≠ "java/lang/invoke/MethodHandle" ∧ y.cls ≠ "java/lang/invoke/VarHandle" ∧ (parseMethodDescriptor y.desc).map (fun d => d.parameters.length) = some n) (hR : rm.frames + 1 ≤ R.frames ∧ 8 + (maxL + 11) + rm.locals ≤ R.locals)  (hst : st = As.reverse ++ rest) (hn : As.length = n) (hcat : (rest.map fun v => v.category).sum ≤ 8) (hdg : decode cc pc = .ok (.invokestatic index, 3)) (hf : cells + mc ≤ R.cells ∧ slots + ms ≤ R.slots) (kx : ∀ (E : String) (u : fmS), px E u → ∀ (ce : Cell) (q9 : Addr) (H1 : Heap) (locs1 : List Loc) (ls : Array Slot), va_P D vwCl (fmW G u o) H1 → va_S A s.heap H1 locs1 → lv_has ls nL lv → H1[q9]? = some ce → ce.vm = .none → s.vm.findClass E = some ce.cls → vx_W p l e R s m args below meth c H1 locs1 (cells + mc) (slots + ms) Q (F0 m pc ls rest) q9) (k : ∀ (r : UInt64) (u : fmS), post r u → fmV p l e R s m args below meth c D A G nL o Q u (cells + mc) (slots + ms) lv (.double r :: rest) (pc + 3)) : fmV p l e R s m args below meth c D A G nL o Q σ cells slots lv st pc := by
  have F0 := F
  obtain ⟨hx, hb, hml, hr, hown, hts, hK, hD, hA, hlk⟩ := F
  intro H locs ls hP hS hl
  refine vx_calld (vx_runS (As := As) (rest := rest) ⟨hx, hb, hml, hown, hts⟩ hM (va_cwS n hts hG hw hrc hrs hd hR) ⟨fmPreX_blind, fun U hU hW => ⟨rfl, fmPre_at F0 hP hS hU hW, fmX_go hW hU hS hX⟩⟩ rfl hn hl.1 hst (lv_room hcat) hdg hf) hS (fun q _ h => h) (fun q h => h) (fun q _ h => h) (fun E ce q9 u t H1 locs1 ht hvm hu hBX hz1 hk1 hS1 hce hcv hcl => ?_) (fun r u t H1 locs1 ht hvm hw hB hz1 hk1 hS1 => ?_)
  · obtain ⟨hpx, hB⟩ := hBX
    have hB : va_P D vwCl (fmW G u o) H1 := by have h9 : va_P D vwCl (fmW G u o) t.heap := hB; rw [ht] at h9; exact h9
    exact kx E u hpx ce q9 H1 locs1 ls hB hS1 hl hce hcv hcl
  · have hB : va_P D vwCl (fmW G u o) H1 := by have h9 : va_P D vwCl (fmW G u o) t.heap := hB; rw [ht] at h9; exact h9
    exact k r u hw H1 locs1 ls hB hS1 hl
theorem fmV_xSv (F : fmF p s m args meth c D A G own cc nL ret Ts) (hX : fmX A s) {y : MethodName} {ws ws' : List Cond} {rm : Room} {mc ms n index maxL : Nat} {bytes : ByteArray} {ret9 : Option FieldType} {As : List Value}  {post : fmS → Prop} {px : String → fmS → Prop} (hM : fmXv l D A G y ws rm mc ms As σ o post px) (hG : GoodIn Ts (va_wsS own index y ws)) (hw : ws = Cond.code y bytes maxL ret9 :: ws') (hrc : rm.cells = mc) (hrs : rm.slots = ms) (hd : y.cls ≠ "java/lang/invoke/MethodHandle" ∧ y.cls ≠ "java/lang/invoke/VarHandle" ∧ (parseMethodDescriptor y.desc).map (fun d => d.parameters.length) = some n) (hR : rm.frames + 1 ≤ R.frames ∧ 8 + (maxL + 11) + rm.locals ≤ R.locals)  (hst : st = As.reverse ++ rest) (hn : As.length = n) (hcat : (rest.map fun v => v.category).sum ≤ 8) (hdg : decode cc pc = .ok (.invokestatic index, 3)) (hf : cells + mc ≤ R.cells ∧ slots + ms ≤ R.slots) (kx : ∀ (E : String) (u : fmS), px E u → ∀ (ce : Cell) (q9 : Addr) (H1 : Heap) (locs1 : List Loc) (ls : Array Slot), va_P D vwCl (fmW G u o) H1 → va_S A s.heap H1 locs1 → lv_has ls nL lv → H1[q9]? = some ce → ce.vm = .none → s.vm.findClass E = some ce.cls → vx_W p l e R s m args below meth c H1 locs1 (cells + mc) (slots + ms) Q (F0 m pc ls rest) q9) (k : ∀ u : fmS, post u → fmV p l e R s m args below meth c D A G nL o Q u (cells + mc) (slots + ms) lv rest (pc + 3)) : fmV p l e R s m args below meth c D A G nL o Q σ cells slots lv st pc := by
  have F0 := F
  obtain ⟨hx, hb, hml, hr, hown, hts, hK, hD, hA, hlk⟩ := F
  intro H locs ls hP hS hl
  refine vx_callv (vx_runS (As := As) (rest := rest) ⟨hx, hb, hml, hown, hts⟩ hM (va_cwS n hts hG hw hrc hrs hd hR) ⟨fmPreX_blind, fun U hU hW => ⟨rfl, fmPre_at F0 hP hS hU hW, fmX_go hW hU hS hX⟩⟩ rfl hn hl.1 hst (lv_room hcat) hdg hf) hS (fun q _ h => h) (fun q h => h) (fun q _ h => h) (fun E ce q9 u t H1 locs1 ht hvm hu hBX hz1 hk1 hS1 hce hcv hcl => ?_) (fun u t H1 locs1 ht hvm hw hB hz1 hk1 hS1 => ?_)
  · obtain ⟨hpx, hB⟩ := hBX
    have hB : va_P D vwCl (fmW G u o) H1 := by have h9 : va_P D vwCl (fmW G u o) t.heap := hB; rw [ht] at h9; exact h9
    exact kx E u hpx ce q9 H1 locs1 ls hB hS1 hl hce hcv hcl
  · have hB : va_P D vwCl (fmW G u o) H1 := by have h9 : va_P D vwCl (fmW G u o) t.heap := hB; rw [ht] at h9; exact h9
    exact k u hw H1 locs1 ls hB hS1 hl
theorem fmV_xVi (F : fmF p s m args meth c D A G own cc nL ret Ts) (hX : fmX A s) {y : MethodName} {ws ws' : List Cond} {rm : Room} {mc ms n index maxL : Nat} {bytes : ByteArray} {ret9 : Option FieldType} {As : List Value} {b : Nat} {C : String} {post : Int32 → fmS → Prop} {px : String → fmS → Prop} (hM : fmXi l D A G y ws rm mc ms (.ref b :: As) σ o post px) (hG : GoodIn Ts (wsV own index C y ws)) (hw : ws = Cond.code y bytes maxL ret9 :: ws') (hrc : rm.cells = mc) (hrs : rm.slots = ms) (hd : y.cls = C ∧ y.cls ≠ "java/lang/invoke/MethodHandle" ∧ y.cls ≠ "java/lang/invoke/VarHandle" ∧ (parseMethodDescriptor y.desc).map (fun d => d.parameters.length) = some n) (hR : rm.frames + 1 ≤ R.frames ∧ 8 + (maxL + 11) + rm.locals ≤ R.locals) (hrec : fmRcv s D G σ o b C) (hst : st = As.reverse ++ .ref b :: rest) (hn : As.length = n) (hcat : (rest.map fun v => v.category).sum ≤ 8) (hdg : decode cc pc = .ok (.invokevirtual index, 3)) (hf : cells + mc ≤ R.cells ∧ slots + ms ≤ R.slots) (kx : ∀ (E : String) (u : fmS), px E u → ∀ (ce : Cell) (q9 : Addr) (H1 : Heap) (locs1 : List Loc) (ls : Array Slot), va_P D vwCl (fmW G u o) H1 → va_S A s.heap H1 locs1 → lv_has ls nL lv → H1[q9]? = some ce → ce.vm = .none → s.vm.findClass E = some ce.cls → vx_W p l e R s m args below meth c H1 locs1 (cells + mc) (slots + ms) Q (F0 m pc ls rest) q9) (k : ∀ (r : Int32) (u : fmS), post r u → fmV p l e R s m args below meth c D A G nL o Q u (cells + mc) (slots + ms) lv (.int r :: rest) (pc + 3)) : fmV p l e R s m args below meth c D A G nL o Q σ cells slots lv st pc := by
  have F0 := F
  obtain ⟨hx, hb, hml, hr, hown, hts, hK, hD, hA, hlk⟩ := F
  intro H locs ls hP hS hl
  refine vx_calli (vx_runV (As := As) (rest := rest) ⟨hx, hb, hml, hown, hts⟩ hM (cwV n hts hG hw hrc hrs hd hR) ⟨fmPreX_blind, hrec H hP, fun U hU hW => ⟨rfl, fmPre_at F0 hP hS hU hW, fmX_go hW hU hS hX⟩⟩ rfl hn hl.1 hst (lv_room hcat) hdg hf) hS (fun q _ h => h) (fun q h => h) (fun q _ h => h) (fun E ce q9 u t H1 locs1 ht hvm hu hBX hz1 hk1 hS1 hce hcv hcl => ?_) (fun r u t H1 locs1 ht hvm hw hB hz1 hk1 hS1 => ?_)
  · obtain ⟨hpx, hB⟩ := hBX
    have hB : va_P D vwCl (fmW G u o) H1 := by have h9 : va_P D vwCl (fmW G u o) t.heap := hB; rw [ht] at h9; exact h9
    exact kx E u hpx ce q9 H1 locs1 ls hB hS1 hl hce hcv hcl
  · have hB : va_P D vwCl (fmW G u o) H1 := by have h9 : va_P D vwCl (fmW G u o) t.heap := hB; rw [ht] at h9; exact h9
    exact k r u hw H1 locs1 ls hB hS1 hl
theorem fmV_xVl (F : fmF p s m args meth c D A G own cc nL ret Ts) (hX : fmX A s) {y : MethodName} {ws ws' : List Cond} {rm : Room} {mc ms n index maxL : Nat} {bytes : ByteArray} {ret9 : Option FieldType} {As : List Value} {b : Nat} {C : String} {post : Int64 → fmS → Prop} {px : String → fmS → Prop} (hM : fmXl l D A G y ws rm mc ms (.ref b :: As) σ o post px) (hG : GoodIn Ts (wsV own index C y ws)) (hw : ws = Cond.code y bytes maxL ret9 :: ws') (hrc : rm.cells = mc) (hrs : rm.slots = ms) (hd : y.cls = C ∧ y.cls ≠ "java/lang/invoke/MethodHandle" ∧ y.cls ≠ "java/lang/invoke/VarHandle" ∧ (parseMethodDescriptor y.desc).map (fun d => d.parameters.length) = some n) (hR : rm.frames + 1 ≤ R.frames ∧ 8 + (maxL + 11) + rm.locals ≤ R.locals) (hrec : fmRcv s D G σ o b C) (hst : st = As.reverse ++ .ref b :: rest) (hn : As.length = n) (hcat : (rest.map fun v => v.category).sum ≤ 8) (hdg : decode cc pc = .ok (.invokevirtual index, 3)) (hf : cells + mc ≤ R.cells ∧ slots + ms ≤ R.slots) (kx : ∀ (E : String) (u : fmS), px E u → ∀ (ce : Cell) (q9 : Addr) (H1 : Heap) (locs1 : List Loc) (ls : Array Slot), va_P D vwCl (fmW G u o) H1 → va_S A s.heap H1 locs1 → lv_has ls nL lv → H1[q9]? = some ce → ce.vm = .none → s.vm.findClass E = some ce.cls → vx_W p l e R s m args below meth c H1 locs1 (cells + mc) (slots + ms) Q (F0 m pc ls rest) q9) (k : ∀ (r : Int64) (u : fmS), post r u → fmV p l e R s m args below meth c D A G nL o Q u (cells + mc) (slots + ms) lv (.long r :: rest) (pc + 3)) : fmV p l e R s m args below meth c D A G nL o Q σ cells slots lv st pc := by
  have F0 := F
  obtain ⟨hx, hb, hml, hr, hown, hts, hK, hD, hA, hlk⟩ := F
  intro H locs ls hP hS hl
  refine vx_calll (vx_runV (As := As) (rest := rest) ⟨hx, hb, hml, hown, hts⟩ hM (cwV n hts hG hw hrc hrs hd hR) ⟨fmPreX_blind, hrec H hP, fun U hU hW => ⟨rfl, fmPre_at F0 hP hS hU hW, fmX_go hW hU hS hX⟩⟩ rfl hn hl.1 hst (lv_room hcat) hdg hf) hS (fun q _ h => h) (fun q h => h) (fun q _ h => h) (fun E ce q9 u t H1 locs1 ht hvm hu hBX hz1 hk1 hS1 hce hcv hcl => ?_) (fun r u t H1 locs1 ht hvm hw hB hz1 hk1 hS1 => ?_)
  · obtain ⟨hpx, hB⟩ := hBX
    have hB : va_P D vwCl (fmW G u o) H1 := by have h9 : va_P D vwCl (fmW G u o) t.heap := hB; rw [ht] at h9; exact h9
    exact kx E u hpx ce q9 H1 locs1 ls hB hS1 hl hce hcv hcl
  · have hB : va_P D vwCl (fmW G u o) H1 := by have h9 : va_P D vwCl (fmW G u o) t.heap := hB; rw [ht] at h9; exact h9
    exact k r u hw H1 locs1 ls hB hS1 hl
theorem fmV_xVd (F : fmF p s m args meth c D A G own cc nL ret Ts) (hX : fmX A s) {y : MethodName} {ws ws' : List Cond} {rm : Room} {mc ms n index maxL : Nat} {bytes : ByteArray} {ret9 : Option FieldType} {As : List Value} {b : Nat} {C : String} {post : UInt64 → fmS → Prop} {px : String → fmS → Prop} (hM : fmXd l D A G y ws rm mc ms (.ref b :: As) σ o post px) (hG : GoodIn Ts (wsV own index C y ws)) (hw : ws = Cond.code y bytes maxL ret9 :: ws') (hrc : rm.cells = mc) (hrs : rm.slots = ms) (hd : y.cls = C ∧ y.cls ≠ "java/lang/invoke/MethodHandle" ∧ y.cls ≠ "java/lang/invoke/VarHandle" ∧ (parseMethodDescriptor y.desc).map (fun d => d.parameters.length) = some n) (hR : rm.frames + 1 ≤ R.frames ∧ 8 + (maxL + 11) + rm.locals ≤ R.locals) (hrec : fmRcv s D G σ o b C) (hst : st = As.reverse ++ .ref b :: rest) (hn : As.length = n) (hcat : (rest.map fun v => v.category).sum ≤ 8) (hdg : decode cc pc = .ok (.invokevirtual index, 3)) (hf : cells + mc ≤ R.cells ∧ slots + ms ≤ R.slots) (kx : ∀ (E : String) (u : fmS), px E u → ∀ (ce : Cell) (q9 : Addr) (H1 : Heap) (locs1 : List Loc) (ls : Array Slot), va_P D vwCl (fmW G u o) H1 → va_S A s.heap H1 locs1 → lv_has ls nL lv → H1[q9]? = some ce → ce.vm = .none → s.vm.findClass E = some ce.cls → vx_W p l e R s m args below meth c H1 locs1 (cells + mc) (slots + ms) Q (F0 m pc ls rest) q9) (k : ∀ (r : UInt64) (u : fmS), post r u → fmV p l e R s m args below meth c D A G nL o Q u (cells + mc) (slots + ms) lv (.double r :: rest) (pc + 3)) : fmV p l e R s m args below meth c D A G nL o Q σ cells slots lv st pc := by
  have F0 := F
  obtain ⟨hx, hb, hml, hr, hown, hts, hK, hD, hA, hlk⟩ := F
  intro H locs ls hP hS hl
  refine vx_calld (vx_runV (As := As) (rest := rest) ⟨hx, hb, hml, hown, hts⟩ hM (cwV n hts hG hw hrc hrs hd hR) ⟨fmPreX_blind, hrec H hP, fun U hU hW => ⟨rfl, fmPre_at F0 hP hS hU hW, fmX_go hW hU hS hX⟩⟩ rfl hn hl.1 hst (lv_room hcat) hdg hf) hS (fun q _ h => h) (fun q h => h) (fun q _ h => h) (fun E ce q9 u t H1 locs1 ht hvm hu hBX hz1 hk1 hS1 hce hcv hcl => ?_) (fun r u t H1 locs1 ht hvm hw hB hz1 hk1 hS1 => ?_)
  · obtain ⟨hpx, hB⟩ := hBX
    have hB : va_P D vwCl (fmW G u o) H1 := by have h9 : va_P D vwCl (fmW G u o) t.heap := hB; rw [ht] at h9; exact h9
    exact kx E u hpx ce q9 H1 locs1 ls hB hS1 hl hce hcv hcl
  · have hB : va_P D vwCl (fmW G u o) H1 := by have h9 : va_P D vwCl (fmW G u o) t.heap := hB; rw [ht] at h9; exact h9
    exact k r u hw H1 locs1 ls hB hS1 hl
theorem fmV_xVv (F : fmF p s m args meth c D A G own cc nL ret Ts) (hX : fmX A s) {y : MethodName} {ws ws' : List Cond} {rm : Room} {mc ms n index maxL : Nat} {bytes : ByteArray} {ret9 : Option FieldType} {As : List Value} {b : Nat} {C : String} {post : fmS → Prop} {px : String → fmS → Prop} (hM : fmXv l D A G y ws rm mc ms (.ref b :: As) σ o post px) (hG : GoodIn Ts (wsV own index C y ws)) (hw : ws = Cond.code y bytes maxL ret9 :: ws') (hrc : rm.cells = mc) (hrs : rm.slots = ms) (hd : y.cls = C ∧ y.cls ≠ "java/lang/invoke/MethodHandle" ∧ y.cls ≠ "java/lang/invoke/VarHandle" ∧ (parseMethodDescriptor y.desc).map (fun d => d.parameters.length) = some n) (hR : rm.frames + 1 ≤ R.frames ∧ 8 + (maxL + 11) + rm.locals ≤ R.locals) (hrec : fmRcv s D G σ o b C) (hst : st = As.reverse ++ .ref b :: rest) (hn : As.length = n) (hcat : (rest.map fun v => v.category).sum ≤ 8) (hdg : decode cc pc = .ok (.invokevirtual index, 3)) (hf : cells + mc ≤ R.cells ∧ slots + ms ≤ R.slots) (kx : ∀ (E : String) (u : fmS), px E u → ∀ (ce : Cell) (q9 : Addr) (H1 : Heap) (locs1 : List Loc) (ls : Array Slot), va_P D vwCl (fmW G u o) H1 → va_S A s.heap H1 locs1 → lv_has ls nL lv → H1[q9]? = some ce → ce.vm = .none → s.vm.findClass E = some ce.cls → vx_W p l e R s m args below meth c H1 locs1 (cells + mc) (slots + ms) Q (F0 m pc ls rest) q9) (k : ∀ u : fmS, post u → fmV p l e R s m args below meth c D A G nL o Q u (cells + mc) (slots + ms) lv rest (pc + 3)) : fmV p l e R s m args below meth c D A G nL o Q σ cells slots lv st pc := by
  have F0 := F
  obtain ⟨hx, hb, hml, hr, hown, hts, hK, hD, hA, hlk⟩ := F
  intro H locs ls hP hS hl
  refine vx_callv (vx_runV (As := As) (rest := rest) ⟨hx, hb, hml, hown, hts⟩ hM (cwV n hts hG hw hrc hrs hd hR) ⟨fmPreX_blind, hrec H hP, fun U hU hW => ⟨rfl, fmPre_at F0 hP hS hU hW, fmX_go hW hU hS hX⟩⟩ rfl hn hl.1 hst (lv_room hcat) hdg hf) hS (fun q _ h => h) (fun q h => h) (fun q _ h => h) (fun E ce q9 u t H1 locs1 ht hvm hu hBX hz1 hk1 hS1 hce hcv hcl => ?_) (fun u t H1 locs1 ht hvm hw hB hz1 hk1 hS1 => ?_)
  · obtain ⟨hpx, hB⟩ := hBX
    have hB : va_P D vwCl (fmW G u o) H1 := by have h9 : va_P D vwCl (fmW G u o) t.heap := hB; rw [ht] at h9; exact h9
    exact kx E u hpx ce q9 H1 locs1 ls hB hS1 hl hce hcv hcl
  · have hB : va_P D vwCl (fmW G u o) H1 := by have h9 : va_P D vwCl (fmW G u o) t.heap := hB; rw [ht] at h9; exact h9
    exact k u hw H1 locs1 ls hB hS1 hl
/-- what is thrown goes on to the caller -/
theorem fm_out (F : fmF p s m args meth c D A G own cc nL ret Ts) (hnt : ∀ x ∈ c.exceptionTable.toList, False) {Qc : Array Value → State → Outcome → State → Prop} {px : String → fmS → Prop} {E : String} {u : fmS} {ce : Cell} {q9 : Addr} {H1 : Heap} {locs1 : List Loc} {ls : Array Slot} {mc ms : Nat} (hpx : px E u) (hP : va_P D vwCl (fmW G u o) H1) (hS : va_S A s.heap H1 locs1) (hce : H1[q9]? = some ce) (hcv : ce.vm = .none) (hcl : s.vm.findClass E = some ce.cls) (h1 : cells ≤ mc) (h2 : slots ≤ ms) :
    vx_W p l e R s m args below meth c H1 locs1 cells slots (vx_MQ below Qc (vx_X (fun _ : fmS => True) (fun E u t => px E u ∧ fmB D G o u t) A) args s mc ms A) (F0 m pc ls rest) q9 := by
  obtain ⟨hx, hb, hml, hr, hown, hts, hK, hD, hA, hlk⟩ := F
  exact vx_out (fun x hx => (hnt x hx).elim) hlk hce hcv hcl (fun t ht _ => ⟨u, trivial, ⟨hpx, by show va_P D vwCl (fmW G u o) t.heap; rw [ht]; exact hP⟩, hS.F ht⟩) hS.2.2 h1 h2
theorem fmV_iret (F : fmF p s m args meth c D A G own cc nL ret Ts) {post : Int32 → fmS → Prop} {x : Int32} (hdg : decode cc pc = .ok (.ireturn, 1)) (hret : ret = some .int) (hp : post x σ) : fmV p l e R s m args below meth c D A G nL o (MQ below (va_Qi post (fmB D G o) A) args s cells slots A) σ cells slots lv [.int x] pc := by
  obtain ⟨hx, hb, hml, hr, hown, hts, hK, hD, hA, hlk⟩ := F
  subst hret
  exact fun H locs ls hP hS hl => W.iret hx hb hr (fun t ht hW => ⟨⟨x, σ, rfl, hp, by show va_P D vwCl (fmW G σ o) t.heap; rw [ht]; exact hP⟩, hS.F ht⟩) hS.2.2 hdg hlk
theorem fmV_lret (F : fmF p s m args meth c D A G own cc nL ret Ts) {post : Int64 → fmS → Prop} {x : Int64} (hdg : decode cc pc = .ok (.lreturn, 1)) (hret : ret = some .long) (hp : post x σ) : fmV p l e R s m args below meth c D A G nL o (MQ below (va_Ql post (fmB D G o) A) args s cells slots A) σ cells slots lv [.long x] pc := by
  obtain ⟨hx, hb, hml, hr, hown, hts, hK, hD, hA, hlk⟩ := F
  subst hret
  exact fun H locs ls hP hS hl => W.lret hx hb hr (fun t ht hW => ⟨⟨x, σ, rfl, hp, by show va_P D vwCl (fmW G σ o) t.heap; rw [ht]; exact hP⟩, hS.F ht⟩) hS.2.2 hdg hlk
theorem fmV_dret (F : fmF p s m args meth c D A G own cc nL ret Ts) {post : UInt64 → fmS → Prop} {x : UInt64} (hdg : decode cc pc = .ok (.dreturn, 1)) (hret : ret = some .double) (hp : post x σ) : fmV p l e R s m args below meth c D A G nL o (MQ below (va_Qd post (fmB D G o) A) args s cells slots A) σ cells slots lv [.double x] pc := by
  obtain ⟨hx, hb, hml, hr, hown, hts, hK, hD, hA, hlk⟩ := F
  subst hret
  exact fun H locs ls hP hS hl => W.dret hx hb hr (fun t ht hW => ⟨⟨x, σ, rfl, hp, by show va_P D vwCl (fmW G σ o) t.heap; rw [ht]; exact hP⟩, hS.F ht⟩) hS.2.2 hdg hlk
theorem fmV_zret (F : fmF p s m args meth c D A G own cc nL ret Ts) {post : Int32 → fmS → Prop} {x : Int32} (hdg : decode cc pc = .ok (.ireturn, 1)) (hret : ret = some .boolean) (hn : narrow .boolean (.int x) = .int x) (hp : post x σ) : fmV p l e R s m args below meth c D A G nL o (MQ below (va_Qi post (fmB D G o) A) args s cells slots A) σ cells slots lv [.int x] pc := by
  obtain ⟨hx, hb, hml, hr, hown, hts, hK, hD, hA, hlk⟩ := F
  subst hret
  exact fun H locs ls hP hS hl => W.zret hx hb hr hn (fun t ht hW => ⟨⟨x, σ, rfl, hp, by show va_P D vwCl (fmW G σ o) t.heap; rw [ht]; exact hP⟩, hS.F ht⟩) hS.2.2 hdg hlk
theorem fmV_vret (F : fmF p s m args meth c D A G own cc nL ret Ts) {post : fmS → Prop} (hdg : decode cc pc = .ok (.return_, 1)) (hret : ret = none) (hp : post σ) : fmV p l e R s m args below meth c D A G nL o (MQ below (va_Qv post (fmB D G o) A) args s cells slots A) σ cells slots lv [] pc := by
  obtain ⟨hx, hb, hml, hr, hown, hts, hK, hD, hA, hlk⟩ := F
  subst hret
  exact fun H locs ls hP hS hl => W.vret hx hb hr (fun t ht hW => ⟨⟨σ, rfl, hp, by show va_P D vwCl (fmW G σ o) t.heap; rw [ht]; exact hP⟩, hS.F ht⟩) hS.2.2 hdg hlk
theorem fmV_aret (F : fmF p s m args meth c D A G own cc nL ret Ts) {post : Option Nat → fmS → Prop} {x : Option Nat} {n9 : String} (hdg : decode cc pc = .ok (.areturn, 1)) (hret : ret = some (.object n9)) (hp : post x σ) : fmV p l e R s m args below meth c D A G nL o (MQ below (va_Qq post (fmB D G o) A) args s cells slots A) σ cells slots lv [va_rf x] pc := by
  obtain ⟨hx, hb, hml, hr, hown, hts, hK, hD, hA, hlk⟩ := F
  subst hret
  exact fun H locs ls hP hS hl => W.aret hx hb hr (Or.inl ⟨_, rfl⟩) (va_rf_or x) (fun t ht hW => ⟨⟨x, σ, rfl, hp, by show va_P D vwCl (fmW G σ o) t.heap; rw [ht]; exact hP⟩, hS.F ht⟩) hS.2.2 hdg hlk
theorem fmV_xr {Qc : Array Value → State → Outcome → State → Prop} {XC : String → State → State → Prop} {mc ms : Nat} (k : fmV p l e R s m args below meth c D A G nL o (MQ below Qc args s mc ms A) σ cells slots lv st pc) : fmV p l e R s m args below meth c D A G nL o (vx_MQ below Qc XC args s mc ms A) σ cells slots lv st pc :=
  fun H locs ls hP hS hl => vx_ret (k H locs ls hP hS hl)
theorem fmV_mmax (F : fmF p s m args meth c D A G own cc nL ret Ts) {index : Nat} {x y : Int32} (hw : Cond.methodLink own index Lib.Math.max.name ∈ Ts ∧ Cond.static Lib.Math.max.name ∈ Ts ∧ Cond.initialized "java/lang/Math" ∈ Ts ∧ Cond.code Lib.Math.max.name Lib.Math.max.code 2 (some .int) ∈ Ts) (hframes : 1 ≤ R.frames) (hlocals : (rest.map fun v => v.category).sum + 13 ≤ R.locals) (hce : cells ≤ R.cells) (hsl : slots ≤ R.slots) (hdg : decode cc pc = .ok (.invokestatic index, 3)) (k : fmV p l e R s m args below meth c D A G nL o Q σ cells slots lv (.int (if x < y then y else x) :: rest) (pc + 3)) : fmV p l e R s m args below meth c D A G nL o Q σ cells slots lv (.int y :: .int x :: rest) pc := by
  obtain ⟨hx, hb, hml, hr, hown, hts, hK, hD, hA, hlk⟩ := F
  exact fun H locs ls hP hS hl => va_mmax hx hb (hml.trans hl.1.symm) hown (hts _ hw.1) (hts _ hw.2.1) (hts _ hw.2.2.1) (hts _ hw.2.2.2) hframes hlocals hce hsl hdg (k H locs ls hP hS hl)
theorem fmV_mmin (F : fmF p s m args meth c D A G own cc nL ret Ts) {index : Nat} {x y : Int32} (hw : Cond.methodLink own index Lib.Math.min.name ∈ Ts ∧ Cond.static Lib.Math.min.name ∈ Ts ∧ Cond.initialized "java/lang/Math" ∈ Ts ∧ Cond.code Lib.Math.min.name Lib.Math.min.code 2 (some .int) ∈ Ts) (hframes : 1 ≤ R.frames) (hlocals : (rest.map fun v => v.category).sum + 13 ≤ R.locals) (hce : cells ≤ R.cells) (hsl : slots ≤ R.slots) (hdg : decode cc pc = .ok (.invokestatic index, 3)) (k : fmV p l e R s m args below meth c D A G nL o Q σ cells slots lv (.int (if y < x then y else x) :: rest) (pc + 3)) : fmV p l e R s m args below meth c D A G nL o Q σ cells slots lv (.int y :: .int x :: rest) pc := by
  obtain ⟨hx, hb, hml, hr, hown, hts, hK, hD, hA, hlk⟩ := F
  exact fun H locs ls hP hS hl => va_mmin hx hb (hml.trans hl.1.symm) hown (hts _ hw.1) (hts _ hw.2.1) (hts _ hw.2.2.1) (hts _ hw.2.2.2) hframes hlocals hce hsl hdg (k H locs ls hP hS hl)
theorem fmV_mabs (F : fmF p s m args meth c D A G own cc nL ret Ts) {index : Nat} {x : Int32} (hw : Cond.methodLink own index Lib.Math.abs.name ∈ Ts ∧ Cond.static Lib.Math.abs.name ∈ Ts ∧ Cond.initialized "java/lang/Math" ∈ Ts ∧ Cond.code Lib.Math.abs.name Lib.Math.abs.code 1 (some .int) ∈ Ts) (hframes : 1 ≤ R.frames) (hlocals : (rest.map fun v => v.category).sum + 13 ≤ R.locals) (hce : cells ≤ R.cells) (hsl : slots ≤ R.slots) (hdg : decode cc pc = .ok (.invokestatic index, 3)) (k : fmV p l e R s m args below meth c D A G nL o Q σ cells slots lv (.int (if 0 ≤ x then x else 0 - x) :: rest) (pc + 3)) : fmV p l e R s m args below meth c D A G nL o Q σ cells slots lv (.int x :: rest) pc := by
  obtain ⟨hx, hb, hml, hr, hown, hts, hK, hD, hA, hlk⟩ := F
  exact fun H locs ls hP hS hl => va_mabs hx hb (hml.trans hl.1.symm) hown (hts _ hw.1) (hts _ hw.2.1) (hts _ hw.2.2.1) (hts _ hw.2.2.2) hframes hlocals hce hsl hdg (k H locs ls hP hS hl)
end FMC
theorem fmMi_of {l : Launch} {D : va_G} {A : Nat → Prop} {G : fmG} {y : MethodName} {ws ws' : List Cond} {rm : Room} {mc ms : Nat} {as : List Value} {σ : fmS} {o : Nat → Int64} {post : Int32 → fmS → Prop} {cc : ByteArray} {maxL : Nat} {ret : Option FieldType} (hy : plainName y.cls = true) (hw : ws = Cond.code y cc maxL ret :: ws') (hlen : (lg_sl as).length ≤ maxL)
    (body : ∀ p e s m args below meth c, fmF p s m args meth c D A G y.cls cc maxL ret ws → fmV p l e rm s m args below meth c D A G maxL o (MQ below (va_Qi post (fmB D G o) A) args s mc ms A) σ 0 0 (lv_args 0 as) [] 0) : fmMi l D A G y ws rm mc ms as σ o post := by
  refine Met.ofW (cc := cc) (maxL := maxL) (ret := ret) hy hw ?_
  intro p e s m args below meth c s₁ B hml hv
  obtain ⟨rfl, hP, hK, hD, hA⟩ := hv
  have hts := atoms_spec (ws := ws) B.pre
  have hl := lv_entry as (n := maxL) hlen
  rw [lg_entry_eq]
  exact body p e s m _ below meth c ⟨B.exec, B.bytes, hml, B.returns, findClass_of_methodNamed B.named, hts, hK, hD, hA, B.notSynchronized⟩ s.heap [] _ hP va_S.rf hl
theorem fmXi_of {l : Launch} {D : va_G} {A : Nat → Prop} {G : fmG} {y : MethodName} {ws ws' : List Cond} {rm : Room} {mc ms : Nat} {as : List Value} {σ : fmS} {o : Nat → Int64} {post : Int32 → fmS → Prop} {px : String → fmS → Prop} {cc : ByteArray} {maxL : Nat} {ret : Option FieldType} (hy : plainName y.cls = true) (hw : ws = Cond.code y cc maxL ret :: ws') (hlen : (lg_sl as).length ≤ maxL)
    (body : ∀ p e s m args below meth c, fmF p s m args meth c D A G y.cls cc maxL ret ws → fmX A s → (∀ x ∈ c.exceptionTable.toList, False) → fmV p l e rm s m args below meth c D A G maxL o (vx_MQ below (va_Qi post (fmB D G o) A) (vx_X (fun _ : fmS => True) (fun E u t => px E u ∧ fmB D G o u t) A) args s mc ms A) σ 0 0 (lv_args 0 as) [] 0) : fmXi l D A G y ws rm mc ms as σ o post px := by
  refine vx_ofW (cc := cc) (maxL := maxL) (ret := ret) hy hw ?_
  intro p e s m args below meth c s₁ B hml hnt hv
  obtain ⟨rfl, ⟨hP, hK, hD, hA⟩, hX⟩ := hv
  have hts := atoms_spec (ws := ws) B.pre
  have hl := lv_entry as (n := maxL) hlen
  rw [lg_entry_eq]
  exact body p e s m _ below meth c ⟨B.exec, B.bytes, hml, B.returns, findClass_of_methodNamed B.named, hts, hK, hD, hA, B.notSynchronized⟩ hX hnt s.heap [] _ hP va_S.rf hl
theorem fmMl_of {l : Launch} {D : va_G} {A : Nat → Prop} {G : fmG} {y : MethodName} {ws ws' : List Cond} {rm : Room} {mc ms : Nat} {as : List Value} {σ : fmS} {o : Nat → Int64} {post : Int64 → fmS → Prop} {cc : ByteArray} {maxL : Nat} {ret : Option FieldType} (hy : plainName y.cls = true) (hw : ws = Cond.code y cc maxL ret :: ws') (hlen : (lg_sl as).length ≤ maxL)
    (body : ∀ p e s m args below meth c, fmF p s m args meth c D A G y.cls cc maxL ret ws → fmV p l e rm s m args below meth c D A G maxL o (MQ below (va_Ql post (fmB D G o) A) args s mc ms A) σ 0 0 (lv_args 0 as) [] 0) : fmMl l D A G y ws rm mc ms as σ o post := by
  refine Met.ofW (cc := cc) (maxL := maxL) (ret := ret) hy hw ?_
  intro p e s m args below meth c s₁ B hml hv
  obtain ⟨rfl, hP, hK, hD, hA⟩ := hv
  have hts := atoms_spec (ws := ws) B.pre
  have hl := lv_entry as (n := maxL) hlen
  rw [lg_entry_eq]
  exact body p e s m _ below meth c ⟨B.exec, B.bytes, hml, B.returns, findClass_of_methodNamed B.named, hts, hK, hD, hA, B.notSynchronized⟩ s.heap [] _ hP va_S.rf hl
theorem fmXl_of {l : Launch} {D : va_G} {A : Nat → Prop} {G : fmG} {y : MethodName} {ws ws' : List Cond} {rm : Room} {mc ms : Nat} {as : List Value} {σ : fmS} {o : Nat → Int64} {post : Int64 → fmS → Prop} {px : String → fmS → Prop} {cc : ByteArray} {maxL : Nat} {ret : Option FieldType} (hy : plainName y.cls = true) (hw : ws = Cond.code y cc maxL ret :: ws') (hlen : (lg_sl as).length ≤ maxL)
    (body : ∀ p e s m args below meth c, fmF p s m args meth c D A G y.cls cc maxL ret ws → fmX A s → (∀ x ∈ c.exceptionTable.toList, False) → fmV p l e rm s m args below meth c D A G maxL o (vx_MQ below (va_Ql post (fmB D G o) A) (vx_X (fun _ : fmS => True) (fun E u t => px E u ∧ fmB D G o u t) A) args s mc ms A) σ 0 0 (lv_args 0 as) [] 0) : fmXl l D A G y ws rm mc ms as σ o post px := by
  refine vx_ofW (cc := cc) (maxL := maxL) (ret := ret) hy hw ?_
  intro p e s m args below meth c s₁ B hml hnt hv
  obtain ⟨rfl, ⟨hP, hK, hD, hA⟩, hX⟩ := hv
  have hts := atoms_spec (ws := ws) B.pre
  have hl := lv_entry as (n := maxL) hlen
  rw [lg_entry_eq]
  exact body p e s m _ below meth c ⟨B.exec, B.bytes, hml, B.returns, findClass_of_methodNamed B.named, hts, hK, hD, hA, B.notSynchronized⟩ hX hnt s.heap [] _ hP va_S.rf hl
theorem fmMd_of {l : Launch} {D : va_G} {A : Nat → Prop} {G : fmG} {y : MethodName} {ws ws' : List Cond} {rm : Room} {mc ms : Nat} {as : List Value} {σ : fmS} {o : Nat → Int64} {post : UInt64 → fmS → Prop} {cc : ByteArray} {maxL : Nat} {ret : Option FieldType} (hy : plainName y.cls = true) (hw : ws = Cond.code y cc maxL ret :: ws') (hlen : (lg_sl as).length ≤ maxL)
    (body : ∀ p e s m args below meth c, fmF p s m args meth c D A G y.cls cc maxL ret ws → fmV p l e rm s m args below meth c D A G maxL o (MQ below (va_Qd post (fmB D G o) A) args s mc ms A) σ 0 0 (lv_args 0 as) [] 0) : fmMd l D A G y ws rm mc ms as σ o post := by
  refine Met.ofW (cc := cc) (maxL := maxL) (ret := ret) hy hw ?_
  intro p e s m args below meth c s₁ B hml hv
  obtain ⟨rfl, hP, hK, hD, hA⟩ := hv
  have hts := atoms_spec (ws := ws) B.pre
  have hl := lv_entry as (n := maxL) hlen
  rw [lg_entry_eq]
  exact body p e s m _ below meth c ⟨B.exec, B.bytes, hml, B.returns, findClass_of_methodNamed B.named, hts, hK, hD, hA, B.notSynchronized⟩ s.heap [] _ hP va_S.rf hl
theorem fmXd_of {l : Launch} {D : va_G} {A : Nat → Prop} {G : fmG} {y : MethodName} {ws ws' : List Cond} {rm : Room} {mc ms : Nat} {as : List Value} {σ : fmS} {o : Nat → Int64} {post : UInt64 → fmS → Prop} {px : String → fmS → Prop} {cc : ByteArray} {maxL : Nat} {ret : Option FieldType} (hy : plainName y.cls = true) (hw : ws = Cond.code y cc maxL ret :: ws') (hlen : (lg_sl as).length ≤ maxL)
    (body : ∀ p e s m args below meth c, fmF p s m args meth c D A G y.cls cc maxL ret ws → fmX A s → (∀ x ∈ c.exceptionTable.toList, False) → fmV p l e rm s m args below meth c D A G maxL o (vx_MQ below (va_Qd post (fmB D G o) A) (vx_X (fun _ : fmS => True) (fun E u t => px E u ∧ fmB D G o u t) A) args s mc ms A) σ 0 0 (lv_args 0 as) [] 0) : fmXd l D A G y ws rm mc ms as σ o post px := by
  refine vx_ofW (cc := cc) (maxL := maxL) (ret := ret) hy hw ?_
  intro p e s m args below meth c s₁ B hml hnt hv
  obtain ⟨rfl, ⟨hP, hK, hD, hA⟩, hX⟩ := hv
  have hts := atoms_spec (ws := ws) B.pre
  have hl := lv_entry as (n := maxL) hlen
  rw [lg_entry_eq]
  exact body p e s m _ below meth c ⟨B.exec, B.bytes, hml, B.returns, findClass_of_methodNamed B.named, hts, hK, hD, hA, B.notSynchronized⟩ hX hnt s.heap [] _ hP va_S.rf hl
theorem fmMv_of {l : Launch} {D : va_G} {A : Nat → Prop} {G : fmG} {y : MethodName} {ws ws' : List Cond} {rm : Room} {mc ms : Nat} {as : List Value} {σ : fmS} {o : Nat → Int64} {post : fmS → Prop} {cc : ByteArray} {maxL : Nat} {ret : Option FieldType} (hy : plainName y.cls = true) (hw : ws = Cond.code y cc maxL ret :: ws') (hlen : (lg_sl as).length ≤ maxL)
    (body : ∀ p e s m args below meth c, fmF p s m args meth c D A G y.cls cc maxL ret ws → fmV p l e rm s m args below meth c D A G maxL o (MQ below (va_Qv post (fmB D G o) A) args s mc ms A) σ 0 0 (lv_args 0 as) [] 0) : fmMv l D A G y ws rm mc ms as σ o post := by
  refine Met.ofW (cc := cc) (maxL := maxL) (ret := ret) hy hw ?_
  intro p e s m args below meth c s₁ B hml hv
  obtain ⟨rfl, hP, hK, hD, hA⟩ := hv
  have hts := atoms_spec (ws := ws) B.pre
  have hl := lv_entry as (n := maxL) hlen
  rw [lg_entry_eq]
  exact body p e s m _ below meth c ⟨B.exec, B.bytes, hml, B.returns, findClass_of_methodNamed B.named, hts, hK, hD, hA, B.notSynchronized⟩ s.heap [] _ hP va_S.rf hl
theorem fmXv_of {l : Launch} {D : va_G} {A : Nat → Prop} {G : fmG} {y : MethodName} {ws ws' : List Cond} {rm : Room} {mc ms : Nat} {as : List Value} {σ : fmS} {o : Nat → Int64} {post : fmS → Prop} {px : String → fmS → Prop} {cc : ByteArray} {maxL : Nat} {ret : Option FieldType} (hy : plainName y.cls = true) (hw : ws = Cond.code y cc maxL ret :: ws') (hlen : (lg_sl as).length ≤ maxL)
    (body : ∀ p e s m args below meth c, fmF p s m args meth c D A G y.cls cc maxL ret ws → fmX A s → (∀ x ∈ c.exceptionTable.toList, False) → fmV p l e rm s m args below meth c D A G maxL o (vx_MQ below (va_Qv post (fmB D G o) A) (vx_X (fun _ : fmS => True) (fun E u t => px E u ∧ fmB D G o u t) A) args s mc ms A) σ 0 0 (lv_args 0 as) [] 0) : fmXv l D A G y ws rm mc ms as σ o post px := by
  refine vx_ofW (cc := cc) (maxL := maxL) (ret := ret) hy hw ?_
  intro p e s m args below meth c s₁ B hml hnt hv
  obtain ⟨rfl, ⟨hP, hK, hD, hA⟩, hX⟩ := hv
  have hts := atoms_spec (ws := ws) B.pre
  have hl := lv_entry as (n := maxL) hlen
  rw [lg_entry_eq]
  exact body p e s m _ below meth c ⟨B.exec, B.bytes, hml, B.returns, findClass_of_methodNamed B.named, hts, hK, hD, hA, B.notSynchronized⟩ hX hnt s.heap [] _ hP va_S.rf hl
theorem fmMq_of {l : Launch} {D : va_G} {A : Nat → Prop} {G : fmG} {y : MethodName} {ws ws' : List Cond} {rm : Room} {mc ms : Nat} {as : List Value} {σ : fmS} {o : Nat → Int64} {post : Option Nat → fmS → Prop} {cc : ByteArray} {maxL : Nat} {ret : Option FieldType} (hy : plainName y.cls = true) (hw : ws = Cond.code y cc maxL ret :: ws') (hlen : (lg_sl as).length ≤ maxL)
    (body : ∀ p e s m args below meth c, fmF p s m args meth c D A G y.cls cc maxL ret ws → fmV p l e rm s m args below meth c D A G maxL o (MQ below (va_Qq post (fmB D G o) A) args s mc ms A) σ 0 0 (lv_args 0 as) [] 0) : fmMq l D A G y ws rm mc ms as σ o post := by
  refine Met.ofW (cc := cc) (maxL := maxL) (ret := ret) hy hw ?_
  intro p e s m args below meth c s₁ B hml hv
  obtain ⟨rfl, hP, hK, hD, hA⟩ := hv
  have hts := atoms_spec (ws := ws) B.pre
  have hl := lv_entry as (n := maxL) hlen
  rw [lg_entry_eq]
  exact body p e s m _ below meth c ⟨B.exec, B.bytes, hml, B.returns, findClass_of_methodNamed B.named, hts, hK, hD, hA, B.notSynchronized⟩ s.heap [] _ hP va_S.rf hl
/-- the room of a method at height h -/
abbrev fmRm (h mc ms : Nat) : Room := { frames := h, cells := mc, slots := ms, locals := 28 * h }
end
