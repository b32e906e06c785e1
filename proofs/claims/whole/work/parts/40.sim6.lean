section SIM6
variable {a b rc cc r v p k t : Nat} {σ τ : fmS}
theorem fmNx_ext {σ σ' : fmS} {a rc r0 : Nat} (h : ∀ r, σ' 48 a r 0 = σ 48 a r 0 ∧ σ' 47 a r 0 = σ 47 a r 0) : ∀ d i, fmNx σ' a rc r0 d i = fmNx σ a rc r0 d i
  | 0, _ => rfl
  | d + 1, i => by rw [fmNx, fmNx, fmNx_ext h d (i + 1), (h _).1, (h _).2]
theorem gOff0_0 {x : Int32} : gOff0 (gOff0 τ b k 0) b k x = gOff0 τ b k x := by
  rw [gOff0, gOff0, fmu_self, fmu_fmu, gOff0]
  congr 1
  funext i
  by_cases e : i = k
  · rw [e, fm_upd_same, fm_upd_same]
  · rw [fm_upd_ne _ _ e, fm_upd_ne _ _ e, fm_upd_ne _ _ e]
theorem dr1_22 {i : Nat} : gDr1 τ b k 22 0 0 i = if i = k then 1 else τ 22 0 0 i := by
  rw [gDr1, fmu_c _ _ _ _ _ (by decide), fmu_c _ _ _ _ _ (by decide), fmu_self]
  by_cases e : i = k
  · rw [e, fm_upd_same, if_pos rfl]
  · rw [fm_upd_ne _ _ e, if_neg e]
theorem drE_58 {i : Nat} : fmDrE a t k σ 58 a i 0 = if i = k then nI t else σ 58 a i 0 := by
  rw [fmDrE]
  by_cases e : i = k
  · rw [e, fmu_self, if_pos rfl]
  · rw [fmu_ne _ _ _ _ _ (fun q => e q.2.2), fmu_c _ _ _ _ _ (by decide), fmu_c _ _ _ _ _ (by decide), if_neg e]
/-- the drift of a row's outermost canoe -/
theorem dr_all {w : Int32} (hg : fmGood a rc cc t σ) (hA : rAll a b rc cc σ τ) (hD : rD a cc t σ τ) (hr : r < rc) (hw : w = τ 17 0 0 (t % 24)) : rAll a b rc cc (fmDR a rc t w r σ) (gDrift τ b rc cc t r) ∧ rD a cc t (fmDR a rc t w r σ) (gDrift τ b rc cc t r) := by
  obtain ⟨⟨hrc, hcc, ht, h40, h41, h42⟩, hco⟩ := id hg
  obtain ⟨q, v, g1, g2, g3, g4, -⟩ := hco.1 r hr
  have hv : v ≤ 6 := by omega
  have hin := gIn_eq hco hrc hcc hA.1 hr g4 hv
  have cv : (σ 48 a r 0).toNatClampNeg = v := fm_cl g4 (by omega)
  unfold fmDR gDrift
  rw [cv]
  by_cases h0 : v = 0
  · rw [if_pos h0, if_pos (show gDrC τ b r cc = -1 by rw [gDrC, hin, if_pos (by rw [h0]; rfl)])]
    exact ⟨hA, hD⟩
  obtain ⟨k, c1, c2, c3, c4, c5⟩ := fmCoh_row hco hcc hr g4 hv (v - 1) (by omega)
  have ck : (σ 8 a r (v - 1)).toNatClampNeg = k := fm_cl c2 (by omega)
  have hC : gDrC τ b r cc = nI k := by
    rw [gDrC, hin, if_neg (nI_ne0 (by omega) (by omega)), show nI v - 1 = nI (v - 1) from pk_sub (b := 1) (by omega), gAt_eq hco hrc hcc hA.1 hr g4 hv, fmRAt, g4, if_pos ⟨nI_pos (by omega), nI_lt (by omega) (by omega)⟩, fm_cn (by omega), c2]
  rw [if_neg h0, ck, hC, if_neg (fm_nI_ne k (by omega)), fm_cn (by omega)]
  have hd := hD k c1
  have hrope := (hA.2.2.2.2.2.1 k c1).1
  by_cases hc : σ 51 a k 0 < w ∧ σ 58 a k 0 ≠ nI t
  · rw [if_pos hc, if_pos ⟨by rw [hd, if_neg hc.2], by rw [hrope, ← hw]; exact hc.1⟩]
    have hU := unf_all hco hrc hcc hA hr g4 hv (p := v - 1) (by omega) c1 c3 c4 c5 c2 (x := 0) (by decide)
    have hid : gOff τ b k cc = gOff0 τ b k 0 := by
      rw [gOff, gOff1_id (fun i hi q => by
        obtain ⟨j, k1, k2, -⟩ := (gOP_iff hco hrc hcc hA.1 hr g4 hv (p := v - 1) (by omega) c1 c3 c4 c5 c2 hi).mp q
        omega)]
    rw [hid, gOff0_0] at hU
    have hE := drE_all (t := t) hcc c1 hU
    have hco1 := fmCoh_unf (x := 0) hco hrc hcc c1 hr (p := v - 1) (by omega) hv g4 c4 c5 c2 (by decide)
    unfold fmDrift fmDr2 gDr2
    have h58 : ∀ i, fmUnf σ a k r (v - 1) v 0 58 a i 0 = σ 58 a i 0 := fun i => by rw [unf_c _ _ _ _ _ _ _ (by decide)]
    generalize fmUnf σ a k r (v - 1) v 0 = σ1 at hE hco1 h58 ⊢
    have hcoE : fmCoh a rc cc (fmDrE a t k σ1) := fmCoh_ext hco1 (fun r => drE_c (by decide) _ _) (fun r => by rw [drE_c (by decide)]) (fun r => by rw [drE_c (by decide)]) (fun r => by rw [drE_c (by decide)]) (fun r => by rw [drE_c (by decide)]) (fun r => by rw [drE_c (by decide)])
    have hn9 := nx_eq hcoE hrc hcc hE.1 hE.2.2.2.2.1 (show 0 < rc by omega) r (rc - 1) 1
    rw [fmNx_ext (σ := σ1) (fun r => ⟨by rw [drE_c (by decide)], by rw [drE_c (by decide)]⟩)] at hn9
    have hrD : ∀ σ' τ', (∀ i, σ' 58 a i 0 = fmDrE a t k σ1 58 a i 0) → (∀ i, τ' 22 0 0 i = gDr1 τ b k 22 0 0 i) → rD a cc t σ' τ' := fun σ' τ' e1 e2 i hi => by
      rw [e1, e2, dr1_22, drE_58]
      by_cases e : i = k
      · rw [if_pos e, if_pos e, if_pos rfl]
      · rw [if_neg e, if_neg e, h58 i]
        exact hD i hi
    rw [hn9]
    by_cases hn : fmNx σ1 a rc r (rc - 1) 1 = -1
    · rw [if_pos hn, if_pos hn]
      exact ⟨hE, hrD _ _ (fun _ => rfl) (fun _ => rfl)⟩
    · rw [if_neg hn, if_neg hn, drE_fast]
      rcases fmNx_or σ1 a rc r (show 0 < rc by omega) (rc - 1) 1 with e | ⟨r2, k1, k2, k3⟩
      · exact absurd e hn
      · obtain ⟨q2, v2, d1, d2, d3, d4, -⟩ := hco1.1 r2 k1
        rw [k2, fm_cn (by omega), fm_cl d4 (by omega)]
        exact ⟨fast_all hcoE hrc hcc hE k1 (by rw [drE_c (by decide)]; exact d4) (by omega) c1, hrD _ _ (fun i => by rw [fast_c _ _ _ _ _ (by decide)]) (fun i => by rw [gMoor_c (by decide)])⟩
  · rw [if_neg hc, if_neg (fun q => hc ⟨by rw [← hrope, hw]; exact q.2, fun e => by rw [hd, if_pos e] at q; exact absurd q.1 (by decide)⟩)]
    exact ⟨hA, hD⟩
end SIM6
