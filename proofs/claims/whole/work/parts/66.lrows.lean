/-! THE LAW'S OWN ROWS -/
section LROWS
variable {p : Program} {l : Launch} {e : Env} {R : Room} {s : State} {m : MethodId} {args : Array Value} {below : List Frame} {meth : Method} {c : Code} {D : va_G} {A : Nat → Prop} {G : fmG} {nL : Nat} {o : Nat → Int64} {Q : State → Prop} {σ : fmS} {cells slots : Nat} {lv : List (Nat × Value)} {st rest : List Value} {pc : Nat} {own : String} {cc : ByteArray} {ret : Option FieldType} {Ts : List Cond}
theorem fmV_lSi (F : fmF p s m args meth c D A G own cc nL ret Ts) (hX : fmX A s) {y : MethodName} {ws ws' : List Cond} {rm : Room} {mc ms n index maxL : Nat} {bytes : ByteArray} {ret9 : Option FieldType} {hh : List (Nat × Nat × Nat × Nat)} {As : List Value} {post : Int32 → fmS × (Nat → Int64) → Prop} (hM : fmLi l D A G y ws rm mc ms As σ o post) (hG : GoodIn Ts (va_wsS own index y ws)) (hw : ws = Cond.codeWith y bytes maxL ret9 hh :: ws') (hrc : rm.cells = mc) (hrs : rm.slots = ms) (hd : y.cls ≠ "java/lang/invoke/MethodHandle" ∧ y.cls ≠ "java/lang/invoke/VarHandle" ∧ (parseMethodDescriptor y.desc).map (fun d => d.parameters.length) = some n) (hR : rm.frames + 1 ≤ R.frames ∧ 8 + (maxL + 11) + rm.locals ≤ R.locals) (hst : st = As.reverse ++ rest) (hn : As.length = n) (hcat : (rest.map fun v => v.category).sum ≤ 8) (hdg : decode cc pc = .ok (.invokestatic index, 3)) (hf : cells + mc ≤ R.cells ∧ slots + ms ≤ R.slots) (k : ∀ (r : Int32) (z : fmS × (Nat → Int64)), post r z → fmV p l e R s m args below meth c D A G nL z.2 Q z.1 (cells + mc) (slots + ms) lv (.int r :: rest) (pc + 3)) : fmV p l e R s m args below meth c D A G nL o Q σ cells slots lv st pc := by
  have F9 := F
  obtain ⟨hx, hb, hml, hr, hown, hts, hK, hD, hA, hlk⟩ := F
  intro H locs ls hP hS hl
  have hr9 := vx_runSX (p := p) (l := l) (e := e) (below := below) (meth := meth) (H := H) (locs := locs) (cells := cells) (slots := slots) (g := F0 m pc ls st) (As := As) (rest := rest) ⟨hx, hb, hml, hown, hts⟩ hM (vx_cwSW n hts hG hw hrc hrs hd hR) ⟨fmPreX_blind, fun U hU hW => ⟨rfl, fmPre_at F9 hP hS hU hW, fmX_go hW hU hS hX⟩⟩ rfl hn hl.1 hst (lv_room hcat) hdg hf
  intro T hT X
  rcases hr9 T hT X with ⟨v, st0, t, T', L, h0, X', hL, e1, e2, ⟨⟨r, u, hv, hp, hb9⟩, hF⟩, st⟩ | ⟨q, st0, t, T', L, E, ce, h0, X', hL, e1, e2, hq, -⟩
  · cases hv
    obtain ⟨k1, k2, k3⟩ := vx_keep h0 e1 hS (fun q _ h => h) (fun q h => h) hL hF
    obtain ⟨t2, a1, b1⟩ := k r u hp T'.heap (locs ++ L) ls (by rw [e1]; exact hb9) k3 hl T' rfl X'
    exact ⟨t2, st t2 a1, b1⟩
  · exact hq.elim
theorem fmV_sld (F : fmF p s m args meth c D A G own cc nL ret Ts) {b L : Nat} {xs : Nat → Int32} (hX : va_X b L xs s s.heap) (hbl : b < s.heap.size) (hbA : ¬ A b) {i : Int32} {i0 : Nat} (hdg : decode cc pc = .ok (.iaload, 1)) (hin : vp_in i L) (hi : i.toNatClampNeg = i0) (k : fmV p l e R s m args below meth c D A G nL o Q σ cells slots lv (.int (xs i0) :: rest) (pc + 1)) : fmV p l e R s m args below meth c D A G nL o Q σ cells slots lv (.int i :: .ref b :: rest) pc := by
  obtain ⟨hx, hb, hml, hr, hown, hts, hK, hD, hA, hlk⟩ := F
  subst hi
  exact fun H locs ls hP hS hl => va_sld hx hb hX hbl hbA hS hin hdg (k H locs ls hP hS hl)
theorem fmV_slen (F : fmF p s m args meth c D A G own cc nL ret Ts) {b L : Nat} {xs : Nat → Int32} (hX : va_X b L xs s s.heap) (hbl : b < s.heap.size) (hbA : ¬ A b) (hdg : decode cc pc = .ok (.arraylength, 1)) (k : fmV p l e R s m args below meth c D A G nL o Q σ cells slots lv (.int (nI L) :: rest) (pc + 1)) : fmV p l e R s m args below meth c D A G nL o Q σ cells slots lv (.ref b :: rest) pc := by
  obtain ⟨hx, hb, hml, hr, hown, hts, hK, hD, hA, hlk⟩ := F
  exact fun H locs ls hP hS hl => va_slen hx hb hX hbl hbA hS hdg (k H locs ls hP hS hl)
theorem fmV_lald (F : fmF p s m args meth c D A G own cc nL ret Ts) {i0 : Nat} {i : Int32} (hdg : decode cc pc = .ok (.laload, 1)) (hin : vp_in i 1) (hi : i.toNatClampNeg = i0) (k : fmV p l e R s m args below meth c D A G nL o Q σ cells slots lv (.long (o i0) :: rest) (pc + 1)) : fmV p l e R s m args below meth c D A G nL o Q σ cells slots lv (.int i :: .ref (G.1 34 0 0) :: rest) pc := by
  obtain ⟨hx, hb, hml, hr, hown, hts, hK, hD, hA, hlk⟩ := F
  intro H locs ls hP hS hl
  subst hi
  obtain ⟨q0, -, hq⟩ := fmW_get G σ o (i := (34, 0, 0)) (fm_mem (a := 1) (b := 1) (by decide +kernel) (by decide) (by decide))
  exact va_lald hx hb hK hP q0 2 hq rfl hin hdg (k H locs ls hP hS hl)
end LROWS
theorem fmV_lawret {p : Program} {l : Launch} {e : Env} {s : State} {m : MethodId} {below : List Frame} {meth : Method} {c : Code} {b : Nat} {D : va_G} {A : Nat → Prop} {G : fmG} {nL : Nat} {o : Nat → Int64} {σ : fmS} {cells slots : Nat} {lv : List (Nat × Value)} {pc : Nat} {own : String} {Ts : List Cond} (F : fmF p s m #[Value.ref b] meth c D A G own code nL ret Ts) (hAe : ∀ q, A q → s.heap.size ≤ q) (hdg : decode code pc = .ok (.ireturn, 1)) (h1 : cells ≤ 601024) (h2 : slots ≤ 7293034) : fmV p l e room_1 s m #[Value.ref b] below meth c D A G nL o (lw_Z below #[Value.ref b] s) σ cells slots lv [.int 1] pc := by
  obtain ⟨hx, hb, hml, hr, hown, hts, hK, hD, hA, hlk⟩ := F
  intro H locs ls hP hS hl
  refine va_forget (fun q hq => hAe _ (hS.2.2 q hq)) ?_
  refine W.widen (k := 601024) (n := 7293034) h1 h2 ?_
  exact lw_ret (d0 := s.drawn) (Drawn.sameBut.refl s.drawn lw_cs) hx hb hr hlk hdg
/-- a word's last five bits -/
theorem and31 (x : Int32) : ∃ w : Nat, w < 32 ∧ x &&& 31 = nI w := by
  refine ⟨(x &&& 31).toBitVec.toNat, ?_, ?_⟩
  · have h : (x &&& 31).toBitVec = x.toBitVec &&& 31#32 := rfl
    rw [h, BitVec.toNat_and]
    exact Nat.lt_of_le_of_lt Nat.and_le_right (by decide)
  · apply Int32.toBitVec_inj.1
    show _ = BitVec.ofNat 32 _
    rw [BitVec.ofNat_toNat, BitVec.setWidth_eq]
theorem cmp_eq (op : CmpOp) : Op.cmpValue (some .eq) op = 0 := by cases op <;> rfl
