/-! THE LAW'S WRAPPERS: out[0] = x.f(..), exceptions made numbers -/
abbrev fmB2 (D : va_G) (G : fmG) : fmS × (Nat → Int64) → State → Prop := fun u t => va_P D vwCl (fmW G u.1 u.2) t.heap
def fmLi (l : Launch) (D : va_G) (A : Nat → Prop) (G : fmG) (y : MethodName) (ws : List Cond) (rm : Room) (mc ms : Nat) (as : List Value) (σ : fmS) (o : Nat → Int64) (post : Int32 → fmS × (Nat → Int64) → Prop) : Prop := vx_Met l y ws rm (va_Pc as (fmPreX D A G σ o)) (va_Qi post (fmB2 D G) A) (fun _ _ _ => False) mc ms A
theorem fmLi_of {l : Launch} {D : va_G} {A : Nat → Prop} {G : fmG} {y : MethodName} {ws ws' : List Cond} {rm : Room} {mc ms : Nat} {as : List Value} {σ : fmS} {o : Nat → Int64} {post : Int32 → fmS × (Nat → Int64) → Prop} {cc : ByteArray} {maxL : Nat} {ret : Option FieldType} {hh : List (Nat × Nat × Nat × Nat)} (hy : plainName y.cls = true) (hw : ws = Cond.codeWith y cc maxL ret hh :: ws') (hlen : (lg_sl as).length ≤ maxL)
    (body : ∀ p e s m args below meth c, fmF p s m args meth c D A G y.cls cc maxL ret ws → fmX A s → c.exceptionTable.toList = tableOf hh → fmV p l e rm s m args below meth c D A G maxL o (vx_MQ below (va_Qi post (fmB2 D G) A) (fun _ _ _ => False) args s mc ms A) σ 0 0 (lv_args 0 as) [] 0) : fmLi l D A G y ws rm mc ms as σ o post := by
  refine vx_ofWH (cc := cc) (maxL := maxL) (ret := ret) hy hw ?_
  intro p e s m args below meth c s₁ B hml hv
  obtain ⟨rfl, ⟨hP, hK, hD, hA⟩, hX⟩ := hv
  have hts := atoms_spec (ws := ws) B.pre
  have htb := vx_table (x := y) B (hts _ (by rw [hw]; exact List.mem_cons_self))
  have hl := lv_entry as (n := maxL) hlen
  rw [lg_entry_eq]
  exact body p e s m _ below meth c ⟨B.exec, B.bytes, hml, B.returns, findClass_of_methodNamed B.named, hts, hK, hD, hA, B.notSynchronized⟩ hX htb s.heap [] _ hP va_S.rf hl
def fmCode : List (String × Int32) → String → Int32 → Prop
  | [], _, _ => False
  | (c, n) :: t, E, k => (E = c ∧ k = n) ∨ fmCode t E k
theorem fm_pass0 {P : ExceptionTableEntry → Prop} : ∀ z ∈ ([] : List ExceptionTableEntry), P z := fun _ h => by cases h
theorem fm_pass1 {P : ExceptionTableEntry → Prop} {z0 : ExceptionTableEntry} (h : P z0) : ∀ z ∈ [z0], P z := fun z hz => by
  rw [List.mem_singleton.mp hz]; exact h
theorem fm_pass2 {P : ExceptionTableEntry → Prop} {z0 z1 : ExceptionTableEntry} (h : P z0) (h1 : P z1) : ∀ z ∈ [z0, z1], P z := fun z hz => by
  rcases List.mem_cons.mp hz with e | hz
  · rw [e]; exact h
  · rw [List.mem_singleton.mp hz]; exact h1
theorem fmJd_34 (G : fmG) {j : fmI} (h : j ∈ fmJd G) : j.1 < 36 ∧ (j.1 = 34 → j = (34, 0, 0)) := by
  have h1 : ∀ j ∈ fmIds, j.1 < 36 ∧ (j.1 = 34 → j = (34, 0, 0)) := by decide +kernel
  unfold fmJd at h
  split at h
  · exact h1 j h
  · rcases List.mem_append.mp h with q | q
    · exact h1 j q
    · rw [List.mem_singleton.mp q]
      exact ⟨by decide, fun e => absurd e (by decide)⟩
theorem fmC_o {G : fmG} (σ : fmS) (o o' : Nat → Int64) {j : fmI} (h : j.1 < 36) (h2 : j.1 ≠ 34) : fmC G σ o' j = fmC G σ o j := by
  obtain ⟨kd, m, k⟩ := j
  dsimp only at h h2
  rcases (show kd = 0 ∨ kd = 1 ∨ kd = 2 ∨ kd = 3 ∨ kd = 4 ∨ kd = 5 ∨ kd = 6 ∨ kd = 7 ∨ kd = 8 ∨ kd = 9 ∨ kd = 10 ∨ kd = 11 ∨ kd = 12 ∨ kd = 13 ∨ kd = 14 ∨ kd = 15 ∨ kd = 16 ∨ kd = 17 ∨ kd = 18 ∨ kd = 19 ∨ kd = 20 ∨ kd = 21 ∨ kd = 22 ∨ kd = 23 ∨ kd = 24 ∨ kd = 25 ∨ kd = 26 ∨ kd = 27 ∨ kd = 28 ∨ kd = 29 ∨ kd = 30 ∨ kd = 31 ∨ kd = 32 ∨ kd = 33 ∨ kd = 35 by omega) with rfl | rfl | rfl | rfl | rfl | rfl | rfl | rfl | rfl | rfl | rfl | rfl | rfl | rfl | rfl | rfl | rfl | rfl | rfl | rfl | rfl | rfl | rfl | rfl | rfl | rfl | rfl | rfl | rfl | rfl | rfl | rfl | rfl | rfl | rfl <;> rfl
theorem fmW_seto {A : Nat → Prop} {G : fmG} {σ : fmS} {o o' : Nat → Int64} {q0 : Nat} {e : va_E} (hD : va_D A (fmW G σ o)) (h : (fmJd G)[q0]? = some (34, 0, 0)) (he : fmC G σ o' (34, 0, 0) = e) : (fmW G σ o).set q0 (fmAd G (34, 0, 0), e) = fmW G σ o' := by
  have hq : (fmW G σ o)[q0]? = some (fmAd G (34, 0, 0), fmC G σ o (34, 0, 0)) := by rw [fmW, List.getElem?_map, h]; rfl
  have hl := (List.getElem?_eq_some_iff.mp hq).1
  apply List.ext_getElem?
  intro j
  by_cases hj : j = q0
  · subst hj
    rw [List.getElem?_set_self hl, fmW, List.getElem?_map, h]
    show _ = some (fmAd G (34, 0, 0), fmC G σ o' (34, 0, 0))
    rw [he]
  · rw [List.getElem?_set_ne (Ne.symm hj), fmW, fmW, List.getElem?_map, List.getElem?_map]
    cases hb : (fmJd G)[j]? with
    | none => rfl
    | some b =>
      obtain ⟨g1, g2⟩ := fmJd_34 G (List.mem_of_getElem? hb)
      have hbi : b.1 ≠ 34 := by
        intro hbi
        have e1 := g2 hbi
        subst e1
        have h2 : (fmW G σ o)[j]? = some (fmAd G (34, 0, 0), fmC G σ o (34, 0, 0)) := by rw [fmW, List.getElem?_map, hb]; rfl
        exact hj (hD.1 j q0 _ _ h2 hq rfl)
      show some (fmAd G b, fmC G σ o b) = some (fmAd G b, fmC G σ o' b)
      rw [fmC_o σ o o' g1 hbi]
section FMWR
variable {p : Program} {l : Launch} {e : Env} {R : Room} {s : State} {m : MethodId} {args : Array Value} {below : List Frame} {meth : Method} {c : Code} {D : va_G} {A : Nat → Prop} {G : fmG} {nL : Nat} {o : Nat → Int64} {Q : State → Prop} {σ : fmS} {cells slots : Nat} {lv : List (Nat × Value)} {st rest : List Value} {pc : Nat} {own : String} {cc : ByteArray} {ret : Option FieldType} {Ts : List Cond}
theorem fmV_last (F : fmF p s m args meth c D A G own cc nL ret Ts) {i0 : Nat} {i : Int32} {x : Int64} (hdg : decode cc pc = .ok (.lastore, 1)) (hin : vp_in i 1) (hi : i.toNatClampNeg = i0) (k : fmV p l e R s m args below meth c D A G nL (vp_updL o i0 x) Q σ cells slots lv rest (pc + 1)) : fmV p l e R s m args below meth c D A G nL o Q σ cells slots lv (.long x :: .int i :: .ref (G.1 34 0 0) :: rest) pc := by
  obtain ⟨hx, hb, hml, hr, hown, hts, hK, hD, hA, hlk⟩ := F
  intro H locs ls hP hS hl
  subst hi
  obtain ⟨q0, h0, hq⟩ := fmW_get G σ o (i := (34, 0, 0)) (fm_mem (a := 1) (b := 1) (by decide +kernel) (by decide) (by decide))
  refine va_last hx hb hK hP (hD σ o) hS q0 2 hq rfl hin hdg (fun H1 locs1 hP1 hD1 hS1 => k H1 locs1 ls ?_ hS1 hl)
  have e := fmW_seto (o' := vp_updL o i.toNatClampNeg x) (hD σ o) h0 rfl
  rw [fmC_is_34, fmC_34] at e
  exact e ▸ hP1
theorem fmV_iret2 (F : fmF p s m args meth c D A G own cc nL ret Ts) {post : Int32 → fmS × (Nat → Int64) → Prop} {x : Int32} (hdg : decode cc pc = .ok (.ireturn, 1)) (hret : ret = some .int) (hp : post x (σ, o)) : fmV p l e R s m args below meth c D A G nL o (MQ below (va_Qi post (fmB2 D G) A) args s cells slots A) σ cells slots lv [.int x] pc := by
  obtain ⟨hx, hb, hml, hr, hown, hts, hK, hD, hA, hlk⟩ := F
  subst hret
  exact fun H locs ls hP hS hl => W.iret hx hb hr (fun t ht hW => ⟨⟨x, (σ, o), rfl, hp, by show va_P D vwCl (fmW G σ o) t.heap; rw [ht]; exact hP⟩, hS.F ht⟩) hS.2.2 hdg hlk
theorem fm_catch (F : fmF p s m args meth c D A G own cc nL ret Ts) {E name : String} {u : fmS} {ce : Cell} {q9 : Addr} {H1 : Heap} {locs1 : List Loc} {ls : Array Slot} (hP : va_P D vwCl (fmW G u o) H1) (hS : va_S A s.heap H1 locs1) (hl : lv_has ls nL lv) (hce : H1[q9]? = some ce) (hcv : ce.vm = .none) (hcl : s.vm.findClass E = some ce.cls)
    (pre : List ExceptionTableEntry) (x : ExceptionTableEntry) (suf : List ExceptionTableEntry) (hsplit : c.exceptionTable.toList = pre ++ x :: suf) (hpass : ∀ z ∈ pre, covers z pc = false ∨ (z.catchType ≠ 0 ∧ ∃ nm : String, (Cond.classLink own z.catchType nm).before args s = true ∧ va_Nc E nm s)) (hx : covers x pc = true) (h0 : x.catchType ≠ 0)
    (hlink : Cond.classLink own x.catchType name ∈ Ts) (hcast : va_Nw (.castable E name) s) (k : fmV p l e R s m args below meth c D A G nL o Q u cells slots lv [.ref q9] x.handlerPc) : vx_W p l e R s m args below meth c H1 locs1 cells slots Q (F0 m pc ls rest) q9 := by
  obtain ⟨-, -, -, -, hown, hts, -, -, -, -⟩ := F
  exact vx_catch hown pre x suf hsplit hpass hx h0 (hts _ hlink) (va_Nw.use rfl hcast) hce hcv hcl (k H1 locs1 ls hP hS hl)
end FMWR
