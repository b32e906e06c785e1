section FMTH
variable {p : Program} {l : Launch} {e : Env} {R : Room} {s : State} {m : MethodId} {args : Array Value} {below : List Frame} {meth : Method} {c : Code} {D : va_G} {A : Nat → Prop} {G : fmG} {nL : Nat} {o : Nat → Int64} {Q : State → Prop} {σ : fmS} {cells slots : Nat} {lv : List (Nat × Value)} {st rest : List Value} {pc : Nat} {own : String} {cc : ByteArray} {ret : Option FieldType} {Ts : List Cond}
/-- 'throw new E("text")', not caught here -/
theorem fmV_throw (F : fmF p s m args meth c D A G own cc nL ret Ts) (hX : fmX A s) (hnt : ∀ x ∈ c.exceptionTable.toList, False) (hl9 : l.stackTraces = false) {cls text : String} {ik is ic mc ms : Nat} {Qc : Array Value → State → Outcome → State → Prop} {px : String → fmS → Prop}
    (hcls : Bundle.fit cls = true) (hk : Cond.classLink own ik cls ∈ Ts) (hini : Cond.initialized cls ∈ Ts) (hstr : ∃ a, vk_R own is text a s)
    (hat : ∀ w ∈ (vx_atS own ic cls ["java/lang/RuntimeException", "java/lang/Exception"]).filter goodWord, w ∈ Ts) (hrest : ∀ w ∈ (vx_atS own ic cls ["java/lang/RuntimeException", "java/lang/Exception"]).filter (fun w => !goodWord w), w ∈ fmXB)
    (hgood : ∀ w ∈ Cond.classLink own ik cls :: Cond.initialized cls :: vx_atS own ic cls ["java/lang/RuntimeException", "java/lang/Exception"], vx_ot w = true)
    (d0 : decode cc pc = .ok (.new ik, 3)) (d3 : decode cc (pc + 3) = .ok (.dup, 1)) (d4 : decode cc (pc + 4) = .ok (.ldc is, 2)) (d6 : decode cc (pc + 6) = .ok (.invokespecial ic, 3)) (d9 : decode cc (pc + 9) = .ok (.athrow, 1))
    (hRf : 5 < R.frames) (hRl : (rest.map fun v => v.category).sum + 82 ≤ R.locals) (hRc : cells + 1 ≤ R.cells) (hRs : slots + 6 ≤ R.slots) (hmc : cells + 1 ≤ mc) (hms : slots + 6 ≤ ms) (hpx : px cls σ) :
    fmV p l e R s m args below meth c D A G nL o (vx_MQ below Qc (vx_X (fun _ : fmS => True) (fun E u t => px E u ∧ fmB D G o u t) A) args s mc ms A) σ cells slots lv rest pc := by
  obtain ⟨hx, hb, hml, hr, hown, hts, hK, hD, hA, hlk⟩ := F
  obtain ⟨sa, hsa⟩ := hstr
  intro H locs ls hP hS hl
  refine vx_throwS hx hb hl9 (names := ["java/lang/RuntimeException", "java/lang/Exception"]) hown hcls (by decide +kernel) (hts _ hk) (hts _ hini) hsa ?_ hgood hX.1 hX.2.1 hS (hl.1.trans hml.symm) d0 d3 d4 d6 d9 (fun x hx => (hnt x hx).elim) hRf hRl hRc hRs hlk (fun t hvm hz hq => ?_) hS.2.2 hmc hms
  · exact vx_hat (fun w hw => hts w (hat w hw)) hrest (fun w hw => va_Nw.use (fmXB_tab hw) (hX.2.2.2.2.2.1 w hw))
  · refine ⟨σ, trivial, ⟨hpx, ?_⟩, Nat.le_trans hS.1 hz, fun q h1 h2 => (hq q (Nat.lt_of_lt_of_le h1 hS.1)).trans (hS.2.1 q h1 h2)⟩
    show va_P D vwCl (fmW G σ o) t.heap
    exact hP.kept (fun k q hk => hq q.1 (hP k q hk).lt)
theorem fmV_ldc (F : fmF p s m args meth c D A G own cc nL ret Ts) {index : Nat} {v : Int32} (hdg : decode cc pc = .ok (.ldc index, 2)) (hconst : Jvm.Cond.constant own index v ∈ Ts) (k : fmV p l e R s m args below meth c D A G nL o Q σ cells slots lv (.int v :: rest) (pc + 2)) : fmV p l e R s m args below meth c D A G nL o Q σ cells slots lv rest pc := by
  obtain ⟨hx, hb, hml, hr, hown, hts, hK, hD, hA, hlk⟩ := F
  exact fun H locs ls hP hS hl => lv_ldc hx hb hown (hts _ hconst) hdg (k H locs ls hP hS hl)
theorem fmV_lookup (F : fmF p s m args meth c D A G own cc nL ret Ts) {dflt : Int} {ps : Array (Int × Int)} {len : Nat} {x : Int32} {off : Int} {tgt : Nat} (hdg : decode cc pc = .ok (.lookupswitch dflt ps, len)) (hp : (ps.toList.zip (ps.toList.drop 1)).all (fun (a, next) => a.1 < next.1) = true) (ho : Op.lookupswitch.offset ps.toList dflt x.toInt = off) (ht : (pc : Int) + off = (tgt : Int)) (k : fmV p l e R s m args below meth c D A G nL o Q σ cells slots lv rest tgt) : fmV p l e R s m args below meth c D A G nL o Q σ cells slots lv (.int x :: rest) pc := by
  obtain ⟨hx, hb, hml, hr, hown, hts, hK, hD, hA, hlk⟩ := F
  exact fun H locs ls hP hS hl => lv_lookup hx hb hdg hp ho ht (k H locs ls hP hS hl)
end FMTH
