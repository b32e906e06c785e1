/-! THE MEAN IS A NUMBER -/
theorem fq_exps : FP.Core.Fmt.exps FP.Core.b64 = 2048 := by decide +kernel
theorem fq_tails : FP.Core.Fmt.tails FP.Core.b64 = 4503599627370496 := by decide +kernel
theorem fq_qmin : FP.Core.Fmt.qmin FP.Core.b64 = -1074 := by decide +kernel
theorem fq_qmax : FP.Core.Fmt.qmax FP.Core.b64 = 971 := by decide +kernel
theorem fq_p : (2 : Nat) ^ FP.Core.b64.p = 9007199254740992 := by decide +kernel
theorem fq_asm (s : Bool) (e t : Nat) : FP.Core.assemble FP.Core.b64 s e t = (s.toNat * 2048 + e) * 4503599627370496 + t := by
  rw [FP.Core.assemble, fq_exps, fq_tails]
theorem fq_bool (s : Bool) : s.toNat ≤ 1 := by cases s <;> decide
def fq_num : FP.Core.Datum → Prop
  | .nan => False
  | .inf _ => True
  | .fin _ c q => c < 9007199254740992 ∧ q ≤ 971
theorem fq_enc : ∀ {d : FP.Core.Datum}, fq_num d → FP.Core.encode FP.Core.b64 d % 9223372036854775808 ≤ 9218868437227405312
  | .nan, h => h.elim
  | .inf s, _ => by
    have hs := fq_bool s
    rw [FP.Core.encode, fq_asm, fq_exps]
    omega
  | .fin s c q, h => by
    have hs := fq_bool s
    obtain ⟨h1, h2⟩ := h
    rw [FP.Core.encode, fq_tails, fq_qmin]
    split
    · rw [fq_asm]; omega
    · rw [fq_asm]; omega
theorem fq_bound {s : Bool} {c : Nat} {q : Int} (h : c < 9007199254740992) : fq_num (FP.Core.bound FP.Core.b64 s c q) := by
  rw [FP.Core.bound, fq_qmax]
  split
  next h1 => exact ⟨h, h1⟩
  · exact trivial
theorem fq_settle {s : Bool} {c : Nat} {q : Int} : fq_num (FP.Core.settle FP.Core.b64 s c q) := by
  rw [FP.Core.settle, fq_p, fq_tails]
  split
  next h => exact fq_bound h
  · exact fq_bound (by decide)
theorem fq_ratio {s : Bool} {n d : Nat} {e : Int} : fq_num (FP.Core.roundRatio FP.Core.b64 s n d e) := by
  rw [FP.Core.roundRatio]
  split
  · rw [fq_qmin]; exact ⟨by decide, by decide⟩
  · exact fq_settle
theorem fq_vf {N : Nat} (h : N % 9223372036854775808 ≤ 9218868437227405312) : vf_n64 (UInt64.ofNat N) := by
  unfold vf_n64
  rw [UInt64.le_iff_toNat_le, UInt64.toNat_and, UInt64.toNat_ofNat']
  have e1 : (0x7fffffffffffffff : UInt64).toNat = 2 ^ 63 - 1 := by decide +kernel
  have e2 : (0x7ff0000000000000 : UInt64).toNat = 9218868437227405312 := by decide +kernel
  rw [e1, e2, Nat.and_two_pow_sub_one_eq_mod]
  omega
theorem fq_of {r : UInt64} (h : vf_n64 r) : r.toNat % 9223372036854775808 ≤ 9218868437227405312 := by
  unfold vf_n64 at h
  rw [UInt64.le_iff_toNat_le, UInt64.toNat_and] at h
  have e1 : (0x7fffffffffffffff : UInt64).toNat = 2 ^ 63 - 1 := by decide +kernel
  have e2 : (0x7ff0000000000000 : UInt64).toNat = 9218868437227405312 := by decide +kernel
  rw [e1, e2, Nat.and_two_pow_sub_one_eq_mod] at h
  omega
theorem fq_lead {n : Nat} (h : n ≠ 0) : FP.Core.leading n 1 = (n.log2 : Int) := by
  have e : (Nat.log2 1) = 0 := by decide +kernel
  have h2 := Nat.log2_self_le h
  rw [FP.Core.leading, e]
  simp only [Int.ofNat_zero, Int.sub_zero, Int.toNat_natCast]
  rw [if_pos]
  have e3 : (-(n.log2 : Int)).toNat = 0 := by omega
  rw [e3]
  omega
theorem fq_dec {N e t : Nat} {s : Bool} (hN : N = (s.toNat * 2048 + e) * 4503599627370496 + t) (he : e < 2047) (ht : t < 4503599627370496) : ∃ s c q, FP.Core.decode FP.Core.b64 (N % 2 ^ 64) = .fin s c q ∧ (e ≠ 0 → c ≠ 0) := by
  have hs := fq_bool s
  have e1 : FP.Core.fieldE FP.Core.b64 (N % 2 ^ 64) = e := by
    rw [FP.Core.fieldE, fq_tails, fq_exps, hN]; omega
  rw [FP.Core.decode, e1, fq_exps, fq_tails, if_neg (by omega)]
  split
  next h => exact ⟨_, _, _, rfl, fun q => absurd h q⟩
  · exact ⟨_, _, _, rfl, fun _ => by omega⟩
theorem fq_i2d (v : Int32) : ∃ s c q, FP.Core.decode FP.Core.b64 (FP.i2d v).toNat = .fin s c q ∧ (v ≠ 0 → c ≠ 0) := by
  show ∃ s c q, FP.Core.decode FP.Core.b64 (UInt64.ofNat (FP.Core.fromInt FP.Core.b64 v.toInt)).toNat = .fin s c q ∧ (v ≠ 0 → c ≠ 0)
  rw [UInt64.toNat_ofNat', FP.Core.fromInt, FP.Core.ofInt, FP.Core.round]
  have hv1 := Int32.toInt_lt v
  have hv2 := Int32.le_toInt v
  generalize hs : decide (v.toInt < 0) = s
  have hn : v.toInt.natAbs ≤ 2147483648 := by omega
  have hz : v ≠ 0 → v.toInt.natAbs ≠ 0 := fun h q => h (Int32.toInt_inj.mp (by
    have : (0 : Int32).toInt = 0 := by decide
    omega))
  generalize v.toInt.natAbs = n at hn hz
  by_cases h0 : n = 0
  · have e : FP.Core.encode FP.Core.b64 (FP.Core.roundRatio FP.Core.b64 s n 1 0) = (s.toNat * 2048 + 0) * 4503599627370496 + 0 := by
      rw [FP.Core.roundRatio, if_pos h0, FP.Core.encode, fq_tails, if_pos (by decide), fq_asm]
    obtain ⟨s1, c1, q1, h1, -⟩ := fq_dec e (by decide) (by decide)
    exact ⟨s1, c1, q1, h1, fun q => absurd h0 (hz q)⟩
  · have hl : n.log2 < 32 := (Nat.log2_lt h0).mpr (by omega)
    have l1 := Nat.log2_self_le h0
    have l2 : n < 2 ^ (n.log2 + 1) := Nat.lt_log2_self
    have hq : FP.Core.quantum FP.Core.b64 n 1 0 = (n.log2 : Int) - 52 := by
      have e53 : (FP.Core.b64.p : Int) = 53 := by decide
      rw [FP.Core.quantum, fq_lead h0, fq_qmin, e53]
      omega
    have hc : FP.Core.nearest (FP.Core.unitsNum n 0 ((n.log2 : Int) - 52)) (FP.Core.unitsDen 1 0 ((n.log2 : Int) - 52)) = n * 2 ^ (52 - n.log2) := by
      have e1 : ((0 : Int) - ((n.log2 : Int) - 52)).toNat = 52 - n.log2 := by omega
      have e2 : ((n.log2 : Int) - 52 - 0).toNat = 0 := by omega
      rw [FP.Core.unitsNum, FP.Core.unitsDen, e1, e2, Nat.pow_zero, Nat.mul_one, FP.Core.nearest, Nat.mod_one, Nat.div_one, if_pos (by decide)]
    have hlo : 4503599627370496 ≤ n * 2 ^ (52 - n.log2) := by
      calc 4503599627370496 = 2 ^ n.log2 * 2 ^ (52 - n.log2) := by rw [← Nat.pow_add, show n.log2 + (52 - n.log2) = 52 by omega]
        _ ≤ n * 2 ^ (52 - n.log2) := Nat.mul_le_mul_right _ l1
    have hhi : n * 2 ^ (52 - n.log2) < 9007199254740992 := by
      calc n * 2 ^ (52 - n.log2) < 2 ^ (n.log2 + 1) * 2 ^ (52 - n.log2) := Nat.mul_lt_mul_of_pos_right l2 (Nat.two_pow_pos _)
        _ = 9007199254740992 := by rw [← Nat.pow_add, show n.log2 + 1 + (52 - n.log2) = 53 by omega]
    have e : FP.Core.encode FP.Core.b64 (FP.Core.roundRatio FP.Core.b64 s n 1 0) = (s.toNat * 2048 + (n.log2 + 1023)) * 4503599627370496 + (n * 2 ^ (52 - n.log2) - 4503599627370496) := by
      rw [FP.Core.roundRatio, if_neg h0, hq, FP.Core.roundAt, hc]
      generalize n * 2 ^ (52 - n.log2) = c at hlo hhi
      rw [FP.Core.settle, fq_p, if_pos hhi, FP.Core.bound, fq_qmax, if_pos (by omega), FP.Core.encode, fq_tails, if_neg (by omega), fq_qmin, fq_asm, show ((n.log2 : Int) - 52 - -1074).toNat + 1 = n.log2 + 1023 by omega]
    obtain ⟨s1, c1, q1, h1, h2⟩ := fq_dec e (by omega) (by omega)
    exact ⟨s1, c1, q1, h1, fun _ => h2 (by omega)⟩
theorem fq_mean {x y : Int32} (h : y ≠ 0) : vf_n64 (FP.ddiv (FP.i2d x) (FP.i2d y)) := by
  obtain ⟨s, c, q, e1, -⟩ := fq_i2d x
  obtain ⟨s2, c2, q2, e2, h2⟩ := fq_i2d y
  show vf_n64 (UInt64.ofNat (FP.Core.div FP.Core.b64 (FP.i2d x).toNat (FP.i2d y).toNat))
  rw [FP.Core.div, e1, e2, FP.Core.quotient, if_neg (h2 h)]
  exact fq_vf (fq_enc fq_ratio)
theorem fq_same {r : UInt64} (h : vf_n64 r) : FP.dcmp r r = some .eq := by
  have h1 := fq_of h
  show FP.Core.cmp FP.Core.b64 r.toNat r.toNat = some .eq
  rw [FP.Core.cmp]
  have hd : FP.Core.decode FP.Core.b64 r.toNat ≠ .nan := by
    rw [FP.Core.decode, FP.Core.fieldE, FP.Core.fieldT, fq_tails, fq_exps]
    split
    · split
      · exact fun q => nomatch q
      · omega
    · split
      · exact fun q => nomatch q
      · exact fun q => nomatch q
  generalize FP.Core.decode FP.Core.b64 r.toNat = d at hd
  have hc : ∀ i : Int, compare i i = Ordering.eq := fun i => by
    show compareOfLessAndEq i i = _
    unfold compareOfLessAndEq
    rw [if_neg (Int.lt_irrefl i), if_pos rfl]
  cases d with
  | nan => exact absurd rfl hd
  | inf s => rw [FP.Core.order, hc]
  | fin s c q => rw [FP.Core.order, hc]
