set_option maxHeartbeats 4000000 in
set_option maxRecDepth 100000 in
theorem c_L_addRow (l : Launch) (D : va_G) (A : Nat → Prop) (G : fmG) (σ : fmS) (o : Nat → Int64) (x : Int32) {post : Int32 → fmS → Prop} {px : String → fmS → Prop} (hM : fmXi l D A G yX4_addRow wsX4_addRow (fmRm 7 2 12) 2 12 [.ref (G.1 0 0 0), .int x] σ o post px) (hpx : ∀ E u, px E u → E = "java/lang/IllegalArgumentException" ∨ E = "java/lang/IllegalStateException") : fmLi l D A G yL_addRow wsL_addRow (fmRm 8 2 12) 2 12 [.ref (G.1 0 0 0), .int x, .ref (G.1 34 0 0)] σ o (fun k z => (k = 0 ∧ ∃ r, post r z.1 ∧ z.2 = vp_updL o 0 r.toInt64) ∨ ∃ E, px E z.1 ∧ z.2 = o ∧ fmCode [("java/lang/IllegalArgumentException", 1), ("java/lang/IllegalStateException", 2)] E k) := by
  refine fmLi_of (cc := cL_addRow) (maxL := 4) (ret := (some .int)) (hh := [(0, 9, 12, 13), (0, 9, 15, 15)]) (by decide +kernel) rfl (Nat.le_of_ble_eq_true rfl) ?_
  intro P_ E_ S_ M_ args_ below_ meth_ C_ F hX htb
  have hin_X4 : ∀ w ∈ wsX40, w ∈ wsL_addRow := (fun _ h => List.mem_cons_of_mem _ (List.mem_append_left _ (List.mem_append_left _ (List.mem_append_left _ (List.mem_append_left _ (List.mem_append_right _ h))))))
  have hin_X1 : ∀ w ∈ wsX10, w ∈ wsL_addRow := (fun _ h => List.mem_cons_of_mem _ (List.mem_append_left _ (List.mem_append_left _ (List.mem_append_left _ (List.mem_append_right _ h)))))
  have hin_X2 : ∀ w ∈ wsX20, w ∈ wsL_addRow := (fun _ h => List.mem_cons_of_mem _ (List.mem_append_left _ (List.mem_append_left _ (List.mem_append_right _ h))))
  refine fmV_aload_n (pc := 0) (i := 2) F dL_addRow_0 rfl rfl ?_
  refine fmV_iconst (pc := 1) (v := 0) F dL_addRow_1 rfl ?_
  refine fmV_aload_n (pc := 2) (i := 0) F dL_addRow_2 rfl rfl ?_
  refine fmV_iload_n (pc := 3) (i := 1) F dL_addRow_3 rfl rfl ?_
  refine fmV_xVi (n := 1) (pc := 4) F hX hM gL_addRow_X4_addRow rfl rfl rfl (by decide +kernel) ⟨Nat.le_of_ble_eq_true rfl, Nat.le_of_ble_eq_true rfl⟩ (fmR_0 F ) rfl rfl (Nat.le_of_ble_eq_true rfl) dL_addRow_4 ⟨Nat.le_of_ble_eq_true rfl, Nat.le_of_ble_eq_true rfl⟩ (fun E9 u9 hE9 ce9 q9 H9 locs9 ls9 hP9 hS9 hl8 hce9 hcv9 hcl9 => ?_) (fun r u hc => ?_)
  · have h9 := hpx E9 u9 hE9
    rcases h9 with rfl | rfl
    · refine fm_catch F hP9 hS9 hl8 hce9 hcv9 hcl9 [] ⟨0, 9, 12, 13⟩ [⟨0, 9, 15, 15⟩] (by rw [htb]; rfl) (fm_pass0) (by decide) (by decide) (name := "java/lang/IllegalArgumentException") (List.mem_of_getElem? (i := 1) rfl) (hX.2.2.2.2.2.1 _ (List.mem_of_getElem? (i := 1) rfl)) ?_
      refine fmV_astore_n (pc := 12) (i := 3) F dL_addRow_12 rfl (by decide) ?_
      refine fmV_iconst (pc := 13) (v := 1) F dL_addRow_13 rfl ?_
      refine fmV_widen (k := 2) (n := 12) (Nat.le_of_ble_eq_true rfl) (Nat.le_of_ble_eq_true rfl) ?_
      refine fmV_xr ?_
      exact fmV_iret2 (pc := 14) F dL_addRow_14 rfl (Or.inr ⟨_, hE9, rfl, Or.inl ⟨rfl, rfl⟩⟩)
    · refine fm_catch F hP9 hS9 hl8 hce9 hcv9 hcl9 [⟨0, 9, 12, 13⟩] ⟨0, 9, 15, 15⟩ [] (by rw [htb]; rfl) (fm_pass1 (Or.inr ⟨by decide, _, F.2.2.2.2.2.1 _ (List.mem_of_getElem? (i := 1) rfl), hX.2.2.2.2.2.2.2.2⟩)) (by decide) (by decide) (name := "java/lang/IllegalStateException") (List.mem_of_getElem? (i := 2) rfl) (hX.2.2.2.2.2.1 _ (List.mem_of_getElem? (i := 2) rfl)) ?_
      refine fmV_astore_n (pc := 15) (i := 3) F dL_addRow_15 rfl (by decide) ?_
      refine fmV_iconst (pc := 16) (v := 2) F dL_addRow_16 rfl ?_
      refine fmV_widen (k := 2) (n := 12) (Nat.le_of_ble_eq_true rfl) (Nat.le_of_ble_eq_true rfl) ?_
      refine fmV_xr ?_
      exact fmV_iret2 (pc := 17) F dL_addRow_17 rfl (Or.inr ⟨_, hE9, rfl, Or.inr (Or.inl ⟨rfl, rfl⟩)⟩)
  refine fmV_i2l (pc := 7) F dL_addRow_7 rfl ?_
  refine fmV_last (pc := 8) F dL_addRow_8 (vp_in_nI (show 0 < 1 by decide) (by decide)) (show (0 : Int32).toNatClampNeg = 0 by decide) ?_
  refine fmV_goto (pc := 9) (tgt := 18) F dL_addRow_9 (by decide) ?_
  refine fmV_iconst (pc := 18) (v := 0) F dL_addRow_18 rfl ?_
  refine fmV_widen (k := 2) (n := 12) (Nat.le_of_ble_eq_true rfl) (Nat.le_of_ble_eq_true rfl) ?_
  refine fmV_xr ?_
  exact fmV_iret2 (pc := 19) F dL_addRow_19 rfl (Or.inl ⟨rfl, r, hc, rfl⟩)

set_option maxHeartbeats 4000000 in
set_option maxRecDepth 100000 in
theorem c_L_setWater (l : Launch) (D : va_G) (A : Nat → Prop) (G : fmG) (σ : fmS) (o : Nat → Int64) (x y z : Int32) {post : Int32 → fmS → Prop} {px : String → fmS → Prop} (hM : fmXi l D A G yX4_setWater wsX4_setWater (fmRm 7 3 18) 3 18 [.ref (G.1 0 0 0), .int x, .int y, .int z] σ o post px) (hpx : ∀ E u, px E u → E = "java/lang/IndexOutOfBoundsException" ∨ E = "java/lang/IllegalArgumentException") : fmLi l D A G yL_setWater wsL_setWater (fmRm 8 3 18) 3 18 [.ref (G.1 0 0 0), .int x, .int y, .int z, .ref (G.1 34 0 0)] σ o (fun k z => (k = 0 ∧ ∃ r, post r z.1 ∧ z.2 = vp_updL o 0 r.toInt64) ∨ ∃ E, px E z.1 ∧ z.2 = o ∧ fmCode [("java/lang/IndexOutOfBoundsException", 1), ("java/lang/IllegalArgumentException", 2)] E k) := by
  refine fmLi_of (cc := cL_setWater) (maxL := 6) (ret := (some .int)) (hh := [(0, 12, 15, 21), (0, 12, 19, 13)]) (by decide +kernel) rfl (Nat.le_of_ble_eq_true rfl) ?_
  intro P_ E_ S_ M_ args_ below_ meth_ C_ F hX htb
  have hin_X4 : ∀ w ∈ wsX40, w ∈ wsL_setWater := (fun _ h => List.mem_cons_of_mem _ (List.mem_append_left _ (List.mem_append_left _ (List.mem_append_left _ (List.mem_append_right _ h)))))
  have hin_X3 : ∀ w ∈ wsX30, w ∈ wsL_setWater := (fun _ h => List.mem_cons_of_mem _ (List.mem_append_left _ (List.mem_append_left _ (List.mem_append_right _ h))))
  refine fmV_aload (pc := 0) (i := 4) F dL_setWater_0 rfl ?_
  refine fmV_iconst (pc := 2) (v := 0) F dL_setWater_2 rfl ?_
  refine fmV_aload_n (pc := 3) (i := 0) F dL_setWater_3 rfl rfl ?_
  refine fmV_iload_n (pc := 4) (i := 1) F dL_setWater_4 rfl rfl ?_
  refine fmV_iload_n (pc := 5) (i := 2) F dL_setWater_5 rfl rfl ?_
  refine fmV_iload_n (pc := 6) (i := 3) F dL_setWater_6 rfl rfl ?_
  refine fmV_xVi (n := 3) (pc := 7) F hX hM gL_setWater_X4_setWater rfl rfl rfl (by decide +kernel) ⟨Nat.le_of_ble_eq_true rfl, Nat.le_of_ble_eq_true rfl⟩ (fmR_0 F ) rfl rfl (Nat.le_of_ble_eq_true rfl) dL_setWater_7 ⟨Nat.le_of_ble_eq_true rfl, Nat.le_of_ble_eq_true rfl⟩ (fun E9 u9 hE9 ce9 q9 H9 locs9 ls9 hP9 hS9 hl8 hce9 hcv9 hcl9 => ?_) (fun r u hc => ?_)
  · have h9 := hpx E9 u9 hE9
    rcases h9 with rfl | rfl
    · refine fm_catch F hP9 hS9 hl8 hce9 hcv9 hcl9 [] ⟨0, 12, 15, 21⟩ [⟨0, 12, 19, 13⟩] (by rw [htb]; rfl) (fm_pass0) (by decide) (by decide) (name := "java/lang/IndexOutOfBoundsException") (List.mem_of_getElem? (i := 1) rfl) (hX.2.2.2.2.2.1 _ (List.mem_of_getElem? (i := 0) rfl)) ?_
      refine fmV_astore (pc := 15) (i := 5) F dL_setWater_15 (by decide) ?_
      refine fmV_iconst (pc := 17) (v := 1) F dL_setWater_17 rfl ?_
      refine fmV_widen (k := 3) (n := 18) (Nat.le_of_ble_eq_true rfl) (Nat.le_of_ble_eq_true rfl) ?_
      refine fmV_xr ?_
      exact fmV_iret2 (pc := 18) F dL_setWater_18 rfl (Or.inr ⟨_, hE9, rfl, Or.inl ⟨rfl, rfl⟩⟩)
    · refine fm_catch F hP9 hS9 hl8 hce9 hcv9 hcl9 [⟨0, 12, 15, 21⟩] ⟨0, 12, 19, 13⟩ [] (by rw [htb]; rfl) (fm_pass1 (Or.inr ⟨by decide, _, F.2.2.2.2.2.1 _ (List.mem_of_getElem? (i := 1) rfl), hX.2.2.2.2.2.2.1⟩)) (by decide) (by decide) (name := "java/lang/IllegalArgumentException") (List.mem_of_getElem? (i := 2) rfl) (hX.2.2.2.2.2.1 _ (List.mem_of_getElem? (i := 1) rfl)) ?_
      refine fmV_astore (pc := 19) (i := 5) F dL_setWater_19 (by decide) ?_
      refine fmV_iconst (pc := 21) (v := 2) F dL_setWater_21 rfl ?_
      refine fmV_widen (k := 3) (n := 18) (Nat.le_of_ble_eq_true rfl) (Nat.le_of_ble_eq_true rfl) ?_
      refine fmV_xr ?_
      exact fmV_iret2 (pc := 22) F dL_setWater_22 rfl (Or.inr ⟨_, hE9, rfl, Or.inr (Or.inl ⟨rfl, rfl⟩)⟩)
  refine fmV_i2l (pc := 10) F dL_setWater_10 rfl ?_
  refine fmV_last (pc := 11) F dL_setWater_11 (vp_in_nI (show 0 < 1 by decide) (by decide)) (show (0 : Int32).toNatClampNeg = 0 by decide) ?_
  refine fmV_goto (pc := 12) (tgt := 23) F dL_setWater_12 (by decide) ?_
  refine fmV_iconst (pc := 23) (v := 0) F dL_setWater_23 rfl ?_
  refine fmV_widen (k := 3) (n := 18) (Nat.le_of_ble_eq_true rfl) (Nat.le_of_ble_eq_true rfl) ?_
  refine fmV_xr ?_
  exact fmV_iret2 (pc := 24) F dL_setWater_24 rfl (Or.inl ⟨rfl, r, hc, rfl⟩)

set_option maxHeartbeats 4000000 in
set_option maxRecDepth 100000 in
theorem c_L_addCanoe (l : Launch) (D : va_G) (A : Nat → Prop) (G : fmG) (σ : fmS) (o : Nat → Int64) (x y : Int32) {post : Int32 → fmS → Prop} {px : String → fmS → Prop} (hM : fmXi l D A G yX4_addCanoe wsX4_addCanoe (fmRm 7 3 18) 3 18 [.ref (G.1 0 0 0), .int x, .int y] σ o post px) (hpx : ∀ E u, px E u → E = "java/lang/IllegalArgumentException" ∨ E = "java/lang/IllegalStateException") : fmLi l D A G yL_addCanoe wsL_addCanoe (fmRm 8 3 18) 3 18 [.ref (G.1 0 0 0), .int x, .int y, .ref (G.1 34 0 0)] σ o (fun k z => (k = 0 ∧ ∃ r, post r z.1 ∧ z.2 = vp_updL o 0 r.toInt64) ∨ ∃ E, px E z.1 ∧ z.2 = o ∧ fmCode [("java/lang/IllegalArgumentException", 1), ("java/lang/IllegalStateException", 2)] E k) := by
  refine fmLi_of (cc := cL_addCanoe) (maxL := 5) (ret := (some .int)) (hh := [(0, 10, 13, 13), (0, 10, 17, 15)]) (by decide +kernel) rfl (Nat.le_of_ble_eq_true rfl) ?_
  intro P_ E_ S_ M_ args_ below_ meth_ C_ F hX htb
  have hin_X4 : ∀ w ∈ wsX40, w ∈ wsL_addCanoe := (fun _ h => List.mem_cons_of_mem _ (List.mem_append_left _ (List.mem_append_left _ (List.mem_append_left _ (List.mem_append_left _ (List.mem_append_right _ h))))))
  have hin_X1 : ∀ w ∈ wsX10, w ∈ wsL_addCanoe := (fun _ h => List.mem_cons_of_mem _ (List.mem_append_left _ (List.mem_append_left _ (List.mem_append_left _ (List.mem_append_right _ h)))))
  have hin_X0 : ∀ w ∈ wsX00, w ∈ wsL_addCanoe := (fun _ h => List.mem_cons_of_mem _ (List.mem_append_left _ (List.mem_append_left _ (List.mem_append_right _ h))))
  refine fmV_aload_n (pc := 0) (i := 3) F dL_addCanoe_0 rfl rfl ?_
  refine fmV_iconst (pc := 1) (v := 0) F dL_addCanoe_1 rfl ?_
  refine fmV_aload_n (pc := 2) (i := 0) F dL_addCanoe_2 rfl rfl ?_
  refine fmV_iload_n (pc := 3) (i := 1) F dL_addCanoe_3 rfl rfl ?_
  refine fmV_iload_n (pc := 4) (i := 2) F dL_addCanoe_4 rfl rfl ?_
  refine fmV_xVi (n := 2) (pc := 5) F hX hM gL_addCanoe_X4_addCanoe rfl rfl rfl (by decide +kernel) ⟨Nat.le_of_ble_eq_true rfl, Nat.le_of_ble_eq_true rfl⟩ (fmR_0 F ) rfl rfl (Nat.le_of_ble_eq_true rfl) dL_addCanoe_5 ⟨Nat.le_of_ble_eq_true rfl, Nat.le_of_ble_eq_true rfl⟩ (fun E9 u9 hE9 ce9 q9 H9 locs9 ls9 hP9 hS9 hl8 hce9 hcv9 hcl9 => ?_) (fun r u hc => ?_)
  · have h9 := hpx E9 u9 hE9
    rcases h9 with rfl | rfl
    · refine fm_catch F hP9 hS9 hl8 hce9 hcv9 hcl9 [] ⟨0, 10, 13, 13⟩ [⟨0, 10, 17, 15⟩] (by rw [htb]; rfl) (fm_pass0) (by decide) (by decide) (name := "java/lang/IllegalArgumentException") (List.mem_of_getElem? (i := 1) rfl) (hX.2.2.2.2.2.1 _ (List.mem_of_getElem? (i := 1) rfl)) ?_
      refine fmV_astore (pc := 13) (i := 4) F dL_addCanoe_13 (by decide) ?_
      refine fmV_iconst (pc := 15) (v := 1) F dL_addCanoe_15 rfl ?_
      refine fmV_widen (k := 3) (n := 18) (Nat.le_of_ble_eq_true rfl) (Nat.le_of_ble_eq_true rfl) ?_
      refine fmV_xr ?_
      exact fmV_iret2 (pc := 16) F dL_addCanoe_16 rfl (Or.inr ⟨_, hE9, rfl, Or.inl ⟨rfl, rfl⟩⟩)
    · refine fm_catch F hP9 hS9 hl8 hce9 hcv9 hcl9 [⟨0, 10, 13, 13⟩] ⟨0, 10, 17, 15⟩ [] (by rw [htb]; rfl) (fm_pass1 (Or.inr ⟨by decide, _, F.2.2.2.2.2.1 _ (List.mem_of_getElem? (i := 1) rfl), hX.2.2.2.2.2.2.2.2⟩)) (by decide) (by decide) (name := "java/lang/IllegalStateException") (List.mem_of_getElem? (i := 2) rfl) (hX.2.2.2.2.2.1 _ (List.mem_of_getElem? (i := 2) rfl)) ?_
      refine fmV_astore (pc := 17) (i := 4) F dL_addCanoe_17 (by decide) ?_
      refine fmV_iconst (pc := 19) (v := 2) F dL_addCanoe_19 rfl ?_
      refine fmV_widen (k := 3) (n := 18) (Nat.le_of_ble_eq_true rfl) (Nat.le_of_ble_eq_true rfl) ?_
      refine fmV_xr ?_
      exact fmV_iret2 (pc := 20) F dL_addCanoe_20 rfl (Or.inr ⟨_, hE9, rfl, Or.inr (Or.inl ⟨rfl, rfl⟩)⟩)
  refine fmV_i2l (pc := 8) F dL_addCanoe_8 rfl ?_
  refine fmV_last (pc := 9) F dL_addCanoe_9 (vp_in_nI (show 0 < 1 by decide) (by decide)) (show (0 : Int32).toNatClampNeg = 0 by decide) ?_
  refine fmV_goto (pc := 10) (tgt := 21) F dL_addCanoe_10 (by decide) ?_
  refine fmV_iconst (pc := 21) (v := 0) F dL_addCanoe_21 rfl ?_
  refine fmV_widen (k := 3) (n := 18) (Nat.le_of_ble_eq_true rfl) (Nat.le_of_ble_eq_true rfl) ?_
  refine fmV_xr ?_
  exact fmV_iret2 (pc := 22) F dL_addCanoe_22 rfl (Or.inl ⟨rfl, r, hc, rfl⟩)

set_option maxHeartbeats 4000000 in
set_option maxRecDepth 100000 in
theorem c_L_load (l : Launch) (D : va_G) (A : Nat → Prop) (G : fmG) (σ : fmS) (o : Nat → Int64) (x y z : Int32) {post : Int32 → fmS → Prop} {px : String → fmS → Prop} (hM : fmXi l D A G yX4_load wsX4_load (fmRm 7 4 24) 4 24 [.ref (G.1 0 0 0), .int x, .int y, .int z] σ o post px) (hpx : ∀ E u, px E u → E = "java/lang/IndexOutOfBoundsException" ∨ E = "java/lang/IllegalArgumentException" ∨ E = "java/lang/IllegalStateException") : fmLi l D A G yL_load wsL_load (fmRm 8 4 24) 4 24 [.ref (G.1 0 0 0), .int x, .int y, .int z, .ref (G.1 34 0 0)] σ o (fun k z => (k = 0 ∧ ∃ r, post r z.1 ∧ z.2 = vp_updL o 0 r.toInt64) ∨ ∃ E, px E z.1 ∧ z.2 = o ∧ fmCode [("java/lang/IndexOutOfBoundsException", 1), ("java/lang/IllegalArgumentException", 2), ("java/lang/IllegalStateException", 3)] E k) := by
  refine fmLi_of (cc := cL_load) (maxL := 6) (ret := (some .int)) (hh := [(0, 12, 15, 21), (0, 12, 19, 13), (0, 12, 23, 15)]) (by decide +kernel) rfl (Nat.le_of_ble_eq_true rfl) ?_
  intro P_ E_ S_ M_ args_ below_ meth_ C_ F hX htb
  have hin_X4 : ∀ w ∈ wsX40, w ∈ wsL_load := (fun _ h => List.mem_cons_of_mem _ (List.mem_append_left _ (List.mem_append_left _ (List.mem_append_left _ (List.mem_append_left _ (List.mem_append_left _ (List.mem_append_right _ h)))))))
  have hin_X1 : ∀ w ∈ wsX10, w ∈ wsL_load := (fun _ h => List.mem_cons_of_mem _ (List.mem_append_left _ (List.mem_append_left _ (List.mem_append_left _ (List.mem_append_left _ (List.mem_append_right _ h))))))
  have hin_X0 : ∀ w ∈ wsX00, w ∈ wsL_load := (fun _ h => List.mem_cons_of_mem _ (List.mem_append_left _ (List.mem_append_left _ (List.mem_append_left _ (List.mem_append_right _ h)))))
  refine fmV_aload (pc := 0) (i := 4) F dL_load_0 rfl ?_
  refine fmV_iconst (pc := 2) (v := 0) F dL_load_2 rfl ?_
  refine fmV_aload_n (pc := 3) (i := 0) F dL_load_3 rfl rfl ?_
  refine fmV_iload_n (pc := 4) (i := 1) F dL_load_4 rfl rfl ?_
  refine fmV_iload_n (pc := 5) (i := 2) F dL_load_5 rfl rfl ?_
  refine fmV_iload_n (pc := 6) (i := 3) F dL_load_6 rfl rfl ?_
  refine fmV_xVi (n := 3) (pc := 7) F hX hM gL_load_X4_load rfl rfl rfl (by decide +kernel) ⟨Nat.le_of_ble_eq_true rfl, Nat.le_of_ble_eq_true rfl⟩ (fmR_0 F ) rfl rfl (Nat.le_of_ble_eq_true rfl) dL_load_7 ⟨Nat.le_of_ble_eq_true rfl, Nat.le_of_ble_eq_true rfl⟩ (fun E9 u9 hE9 ce9 q9 H9 locs9 ls9 hP9 hS9 hl8 hce9 hcv9 hcl9 => ?_) (fun r u hc => ?_)
  · have h9 := hpx E9 u9 hE9
    rcases h9 with rfl | rfl | rfl
    · refine fm_catch F hP9 hS9 hl8 hce9 hcv9 hcl9 [] ⟨0, 12, 15, 21⟩ [⟨0, 12, 19, 13⟩, ⟨0, 12, 23, 15⟩] (by rw [htb]; rfl) (fm_pass0) (by decide) (by decide) (name := "java/lang/IndexOutOfBoundsException") (List.mem_of_getElem? (i := 1) rfl) (hX.2.2.2.2.2.1 _ (List.mem_of_getElem? (i := 0) rfl)) ?_
      refine fmV_astore (pc := 15) (i := 5) F dL_load_15 (by decide) ?_
      refine fmV_iconst (pc := 17) (v := 1) F dL_load_17 rfl ?_
      refine fmV_widen (k := 4) (n := 24) (Nat.le_of_ble_eq_true rfl) (Nat.le_of_ble_eq_true rfl) ?_
      refine fmV_xr ?_
      exact fmV_iret2 (pc := 18) F dL_load_18 rfl (Or.inr ⟨_, hE9, rfl, Or.inl ⟨rfl, rfl⟩⟩)
    · refine fm_catch F hP9 hS9 hl8 hce9 hcv9 hcl9 [⟨0, 12, 15, 21⟩] ⟨0, 12, 19, 13⟩ [⟨0, 12, 23, 15⟩] (by rw [htb]; rfl) (fm_pass1 (Or.inr ⟨by decide, _, F.2.2.2.2.2.1 _ (List.mem_of_getElem? (i := 1) rfl), hX.2.2.2.2.2.2.1⟩)) (by decide) (by decide) (name := "java/lang/IllegalArgumentException") (List.mem_of_getElem? (i := 2) rfl) (hX.2.2.2.2.2.1 _ (List.mem_of_getElem? (i := 1) rfl)) ?_
      refine fmV_astore (pc := 19) (i := 5) F dL_load_19 (by decide) ?_
      refine fmV_iconst (pc := 21) (v := 2) F dL_load_21 rfl ?_
      refine fmV_widen (k := 4) (n := 24) (Nat.le_of_ble_eq_true rfl) (Nat.le_of_ble_eq_true rfl) ?_
      refine fmV_xr ?_
      exact fmV_iret2 (pc := 22) F dL_load_22 rfl (Or.inr ⟨_, hE9, rfl, Or.inr (Or.inl ⟨rfl, rfl⟩)⟩)
    · refine fm_catch F hP9 hS9 hl8 hce9 hcv9 hcl9 [⟨0, 12, 15, 21⟩, ⟨0, 12, 19, 13⟩] ⟨0, 12, 23, 15⟩ [] (by rw [htb]; rfl) (fm_pass2 (Or.inr ⟨by decide, _, F.2.2.2.2.2.1 _ (List.mem_of_getElem? (i := 1) rfl), hX.2.2.2.2.2.2.2.1⟩) (Or.inr ⟨by decide, _, F.2.2.2.2.2.1 _ (List.mem_of_getElem? (i := 2) rfl), hX.2.2.2.2.2.2.2.2⟩)) (by decide) (by decide) (name := "java/lang/IllegalStateException") (List.mem_of_getElem? (i := 3) rfl) (hX.2.2.2.2.2.1 _ (List.mem_of_getElem? (i := 2) rfl)) ?_
      refine fmV_astore (pc := 23) (i := 5) F dL_load_23 (by decide) ?_
      refine fmV_iconst (pc := 25) (v := 3) F dL_load_25 rfl ?_
      refine fmV_widen (k := 4) (n := 24) (Nat.le_of_ble_eq_true rfl) (Nat.le_of_ble_eq_true rfl) ?_
      refine fmV_xr ?_
      exact fmV_iret2 (pc := 26) F dL_load_26 rfl (Or.inr ⟨_, hE9, rfl, Or.inr (Or.inr (Or.inl ⟨rfl, rfl⟩))⟩)
  refine fmV_i2l (pc := 10) F dL_load_10 rfl ?_
  refine fmV_last (pc := 11) F dL_load_11 (vp_in_nI (show 0 < 1 by decide) (by decide)) (show (0 : Int32).toNatClampNeg = 0 by decide) ?_
  refine fmV_goto (pc := 12) (tgt := 27) F dL_load_12 (by decide) ?_
  refine fmV_iconst (pc := 27) (v := 0) F dL_load_27 rfl ?_
  refine fmV_widen (k := 4) (n := 24) (Nat.le_of_ble_eq_true rfl) (Nat.le_of_ble_eq_true rfl) ?_
  refine fmV_xr ?_
  exact fmV_iret2 (pc := 28) F dL_load_28 rfl (Or.inl ⟨rfl, r, hc, rfl⟩)

set_option maxHeartbeats 4000000 in
set_option maxRecDepth 100000 in
theorem c_L_offer (l : Launch) (D : va_G) (A : Nat → Prop) (G : fmG) (σ : fmS) (o : Nat → Int64) (x y z w v : Int32) {post : Int32 → fmS → Prop} {px : String → fmS → Prop} (hM : fmXi l D A G yX4_offer wsX4_offer (fmRm 7 5 30) 5 30 [.ref (G.1 0 0 0), .int x, .int y, .int z, .int w, .int v] σ o post px) (hpx : ∀ E u, px E u → E = "java/lang/IndexOutOfBoundsException" ∨ E = "java/lang/IllegalArgumentException") : fmLi l D A G yL_offer wsL_offer (fmRm 8 5 30) 5 30 [.ref (G.1 0 0 0), .int x, .int y, .int z, .int w, .int v, .ref (G.1 34 0 0)] σ o (fun k z => (k = 0 ∧ ∃ r, post r z.1 ∧ z.2 = vp_updL o 0 r.toInt64) ∨ ∃ E, px E z.1 ∧ z.2 = o ∧ fmCode [("java/lang/IndexOutOfBoundsException", 1), ("java/lang/IllegalArgumentException", 2)] E k) := by
  refine fmLi_of (cc := cL_offer) (maxL := 8) (ret := (some .int)) (hh := [(0, 16, 19, 21), (0, 16, 23, 13)]) (by decide +kernel) rfl (Nat.le_of_ble_eq_true rfl) ?_
  intro P_ E_ S_ M_ args_ below_ meth_ C_ F hX htb
  have hin_X4 : ∀ w ∈ wsX40, w ∈ wsL_offer := (fun _ h => List.mem_cons_of_mem _ (List.mem_append_left _ (List.mem_append_left _ (List.mem_append_left _ (List.mem_append_left _ (List.mem_append_right _ h))))))
  have hin_X1 : ∀ w ∈ wsX10, w ∈ wsL_offer := (fun _ h => List.mem_cons_of_mem _ (List.mem_append_left _ (List.mem_append_left _ (List.mem_append_left _ (List.mem_append_right _ h)))))
  have hin_X0 : ∀ w ∈ wsX00, w ∈ wsL_offer := (fun _ h => List.mem_cons_of_mem _ (List.mem_append_left _ (List.mem_append_left _ (List.mem_append_right _ h))))
  refine fmV_aload (pc := 0) (i := 6) F dL_offer_0 rfl ?_
  refine fmV_iconst (pc := 2) (v := 0) F dL_offer_2 rfl ?_
  refine fmV_aload_n (pc := 3) (i := 0) F dL_offer_3 rfl rfl ?_
  refine fmV_iload_n (pc := 4) (i := 1) F dL_offer_4 rfl rfl ?_
  refine fmV_iload_n (pc := 5) (i := 2) F dL_offer_5 rfl rfl ?_
  refine fmV_iload_n (pc := 6) (i := 3) F dL_offer_6 rfl rfl ?_
  refine fmV_iload (pc := 7) (i := 4) F dL_offer_7 rfl ?_
  refine fmV_iload (pc := 9) (i := 5) F dL_offer_9 rfl ?_
  refine fmV_xVi (n := 5) (pc := 11) F hX hM gL_offer_X4_offer rfl rfl rfl (by decide +kernel) ⟨Nat.le_of_ble_eq_true rfl, Nat.le_of_ble_eq_true rfl⟩ (fmR_0 F ) rfl rfl (Nat.le_of_ble_eq_true rfl) dL_offer_11 ⟨Nat.le_of_ble_eq_true rfl, Nat.le_of_ble_eq_true rfl⟩ (fun E9 u9 hE9 ce9 q9 H9 locs9 ls9 hP9 hS9 hl8 hce9 hcv9 hcl9 => ?_) (fun r u hc => ?_)
  · have h9 := hpx E9 u9 hE9
    rcases h9 with rfl | rfl
    · refine fm_catch F hP9 hS9 hl8 hce9 hcv9 hcl9 [] ⟨0, 16, 19, 21⟩ [⟨0, 16, 23, 13⟩] (by rw [htb]; rfl) (fm_pass0) (by decide) (by decide) (name := "java/lang/IndexOutOfBoundsException") (List.mem_of_getElem? (i := 1) rfl) (hX.2.2.2.2.2.1 _ (List.mem_of_getElem? (i := 0) rfl)) ?_
      refine fmV_astore (pc := 19) (i := 7) F dL_offer_19 (by decide) ?_
      refine fmV_iconst (pc := 21) (v := 1) F dL_offer_21 rfl ?_
      refine fmV_widen (k := 5) (n := 30) (Nat.le_of_ble_eq_true rfl) (Nat.le_of_ble_eq_true rfl) ?_
      refine fmV_xr ?_
      exact fmV_iret2 (pc := 22) F dL_offer_22 rfl (Or.inr ⟨_, hE9, rfl, Or.inl ⟨rfl, rfl⟩⟩)
    · refine fm_catch F hP9 hS9 hl8 hce9 hcv9 hcl9 [⟨0, 16, 19, 21⟩] ⟨0, 16, 23, 13⟩ [] (by rw [htb]; rfl) (fm_pass1 (Or.inr ⟨by decide, _, F.2.2.2.2.2.1 _ (List.mem_of_getElem? (i := 1) rfl), hX.2.2.2.2.2.2.1⟩)) (by decide) (by decide) (name := "java/lang/IllegalArgumentException") (List.mem_of_getElem? (i := 2) rfl) (hX.2.2.2.2.2.1 _ (List.mem_of_getElem? (i := 1) rfl)) ?_
      refine fmV_astore (pc := 23) (i := 7) F dL_offer_23 (by decide) ?_
      refine fmV_iconst (pc := 25) (v := 2) F dL_offer_25 rfl ?_
      refine fmV_widen (k := 5) (n := 30) (Nat.le_of_ble_eq_true rfl) (Nat.le_of_ble_eq_true rfl) ?_
      refine fmV_xr ?_
      exact fmV_iret2 (pc := 26) F dL_offer_26 rfl (Or.inr ⟨_, hE9, rfl, Or.inr (Or.inl ⟨rfl, rfl⟩)⟩)
  refine fmV_i2l (pc := 14) F dL_offer_14 rfl ?_
  refine fmV_last (pc := 15) F dL_offer_15 (vp_in_nI (show 0 < 1 by decide) (by decide)) (show (0 : Int32).toNatClampNeg = 0 by decide) ?_
  refine fmV_goto (pc := 16) (tgt := 27) F dL_offer_16 (by decide) ?_
  refine fmV_iconst (pc := 27) (v := 0) F dL_offer_27 rfl ?_
  refine fmV_widen (k := 5) (n := 30) (Nat.le_of_ble_eq_true rfl) (Nat.le_of_ble_eq_true rfl) ?_
  refine fmV_xr ?_
  exact fmV_iret2 (pc := 28) F dL_offer_28 rfl (Or.inl ⟨rfl, r, hc, rfl⟩)

set_option maxHeartbeats 4000000 in
set_option maxRecDepth 100000 in
theorem c_L_moor (l : Launch) (D : va_G) (A : Nat → Prop) (G : fmG) (σ : fmS) (o : Nat → Int64) (x y : Int32) {post : Int32 → fmS → Prop} {px : String → fmS → Prop} (hM : fmXi l D A G yX4_moor wsX4_moor (fmRm 7 3 18) 3 18 [.ref (G.1 0 0 0), .int x, .int y] σ o post px) (hpx : ∀ E u, px E u → E = "java/lang/IndexOutOfBoundsException" ∨ E = "java/lang/IllegalStateException") : fmLi l D A G yL_moor wsL_moor (fmRm 8 3 18) 3 18 [.ref (G.1 0 0 0), .int x, .int y, .ref (G.1 34 0 0)] σ o (fun k z => (k = 0 ∧ ∃ r, post r z.1 ∧ z.2 = vp_updL o 0 r.toInt64) ∨ ∃ E, px E z.1 ∧ z.2 = o ∧ fmCode [("java/lang/IndexOutOfBoundsException", 1), ("java/lang/IllegalStateException", 2)] E k) := by
  refine fmLi_of (cc := cL_moor) (maxL := 5) (ret := (some .int)) (hh := [(0, 10, 13, 21), (0, 10, 17, 15)]) (by decide +kernel) rfl (Nat.le_of_ble_eq_true rfl) ?_
  intro P_ E_ S_ M_ args_ below_ meth_ C_ F hX htb
  have hin_X4 : ∀ w ∈ wsX40, w ∈ wsL_moor := (fun _ h => List.mem_cons_of_mem _ (List.mem_append_left _ (List.mem_append_left _ (List.mem_append_left _ (List.mem_append_left _ (List.mem_append_left _ (List.mem_append_right _ h)))))))
  have hin_X1 : ∀ w ∈ wsX10, w ∈ wsL_moor := (fun _ h => List.mem_cons_of_mem _ (List.mem_append_left _ (List.mem_append_left _ (List.mem_append_left _ (List.mem_append_left _ (List.mem_append_right _ h))))))
  have hin_X0 : ∀ w ∈ wsX00, w ∈ wsL_moor := (fun _ h => List.mem_cons_of_mem _ (List.mem_append_left _ (List.mem_append_left _ (List.mem_append_left _ (List.mem_append_right _ h)))))
  have hin_X2 : ∀ w ∈ wsX20, w ∈ wsL_moor := (fun _ h => List.mem_cons_of_mem _ (List.mem_append_left _ (List.mem_append_left _ (List.mem_append_right _ h))))
  refine fmV_aload_n (pc := 0) (i := 3) F dL_moor_0 rfl rfl ?_
  refine fmV_iconst (pc := 1) (v := 0) F dL_moor_1 rfl ?_
  refine fmV_aload_n (pc := 2) (i := 0) F dL_moor_2 rfl rfl ?_
  refine fmV_iload_n (pc := 3) (i := 1) F dL_moor_3 rfl rfl ?_
  refine fmV_iload_n (pc := 4) (i := 2) F dL_moor_4 rfl rfl ?_
  refine fmV_xVi (n := 2) (pc := 5) F hX hM gL_moor_X4_moor rfl rfl rfl (by decide +kernel) ⟨Nat.le_of_ble_eq_true rfl, Nat.le_of_ble_eq_true rfl⟩ (fmR_0 F ) rfl rfl (Nat.le_of_ble_eq_true rfl) dL_moor_5 ⟨Nat.le_of_ble_eq_true rfl, Nat.le_of_ble_eq_true rfl⟩ (fun E9 u9 hE9 ce9 q9 H9 locs9 ls9 hP9 hS9 hl8 hce9 hcv9 hcl9 => ?_) (fun r u hc => ?_)
  · have h9 := hpx E9 u9 hE9
    rcases h9 with rfl | rfl
    · refine fm_catch F hP9 hS9 hl8 hce9 hcv9 hcl9 [] ⟨0, 10, 13, 21⟩ [⟨0, 10, 17, 15⟩] (by rw [htb]; rfl) (fm_pass0) (by decide) (by decide) (name := "java/lang/IndexOutOfBoundsException") (List.mem_of_getElem? (i := 1) rfl) (hX.2.2.2.2.2.1 _ (List.mem_of_getElem? (i := 0) rfl)) ?_
      refine fmV_astore (pc := 13) (i := 4) F dL_moor_13 (by decide) ?_
      refine fmV_iconst (pc := 15) (v := 1) F dL_moor_15 rfl ?_
      refine fmV_widen (k := 3) (n := 18) (Nat.le_of_ble_eq_true rfl) (Nat.le_of_ble_eq_true rfl) ?_
      refine fmV_xr ?_
      exact fmV_iret2 (pc := 16) F dL_moor_16 rfl (Or.inr ⟨_, hE9, rfl, Or.inl ⟨rfl, rfl⟩⟩)
    · refine fm_catch F hP9 hS9 hl8 hce9 hcv9 hcl9 [⟨0, 10, 13, 21⟩] ⟨0, 10, 17, 15⟩ [] (by rw [htb]; rfl) (fm_pass1 (Or.inr ⟨by decide, _, F.2.2.2.2.2.1 _ (List.mem_of_getElem? (i := 1) rfl), hX.2.2.2.2.2.2.2.1⟩)) (by decide) (by decide) (name := "java/lang/IllegalStateException") (List.mem_of_getElem? (i := 2) rfl) (hX.2.2.2.2.2.1 _ (List.mem_of_getElem? (i := 2) rfl)) ?_
      refine fmV_astore (pc := 17) (i := 4) F dL_moor_17 (by decide) ?_
      refine fmV_iconst (pc := 19) (v := 2) F dL_moor_19 rfl ?_
      refine fmV_widen (k := 3) (n := 18) (Nat.le_of_ble_eq_true rfl) (Nat.le_of_ble_eq_true rfl) ?_
      refine fmV_xr ?_
      exact fmV_iret2 (pc := 20) F dL_moor_20 rfl (Or.inr ⟨_, hE9, rfl, Or.inr (Or.inl ⟨rfl, rfl⟩)⟩)
  refine fmV_i2l (pc := 8) F dL_moor_8 rfl ?_
  refine fmV_last (pc := 9) F dL_moor_9 (vp_in_nI (show 0 < 1 by decide) (by decide)) (show (0 : Int32).toNatClampNeg = 0 by decide) ?_
  refine fmV_goto (pc := 10) (tgt := 21) F dL_moor_10 (by decide) ?_
  refine fmV_iconst (pc := 21) (v := 0) F dL_moor_21 rfl ?_
  refine fmV_widen (k := 3) (n := 18) (Nat.le_of_ble_eq_true rfl) (Nat.le_of_ble_eq_true rfl) ?_
  refine fmV_xr ?_
  exact fmV_iret2 (pc := 22) F dL_moor_22 rfl (Or.inl ⟨rfl, r, hc, rfl⟩)

set_option maxHeartbeats 4000000 in
set_option maxRecDepth 100000 in
theorem c_L_castOff (l : Launch) (D : va_G) (A : Nat → Prop) (G : fmG) (σ : fmS) (o : Nat → Int64) (x : Int32) {post : Int32 → fmS → Prop} {px : String → fmS → Prop} (hM : fmXi l D A G yX4_castOff wsX4_castOff (fmRm 7 2 12) 2 12 [.ref (G.1 0 0 0), .int x] σ o post px) (hpx : ∀ E u, px E u → E = "java/lang/IndexOutOfBoundsException" ∨ E = "java/lang/IllegalStateException") : fmLi l D A G yL_castOff wsL_castOff (fmRm 8 2 12) 2 12 [.ref (G.1 0 0 0), .int x, .ref (G.1 34 0 0)] σ o (fun k z => (k = 0 ∧ ∃ r, post r z.1 ∧ z.2 = vp_updL o 0 r.toInt64) ∨ ∃ E, px E z.1 ∧ z.2 = o ∧ fmCode [("java/lang/IndexOutOfBoundsException", 1), ("java/lang/IllegalStateException", 2)] E k) := by
  refine fmLi_of (cc := cL_castOff) (maxL := 4) (ret := (some .int)) (hh := [(0, 9, 12, 21), (0, 9, 15, 15)]) (by decide +kernel) rfl (Nat.le_of_ble_eq_true rfl) ?_
  intro P_ E_ S_ M_ args_ below_ meth_ C_ F hX htb
  have hin_X4 : ∀ w ∈ wsX40, w ∈ wsL_castOff := (fun _ h => List.mem_cons_of_mem _ (List.mem_append_left _ (List.mem_append_left _ (List.mem_append_left _ (List.mem_append_left _ (List.mem_append_left _ (List.mem_append_left _ (List.mem_append_right _ h))))))))
  have hin_X1 : ∀ w ∈ wsX10, w ∈ wsL_castOff := (fun _ h => List.mem_cons_of_mem _ (List.mem_append_left _ (List.mem_append_left _ (List.mem_append_left _ (List.mem_append_left _ (List.mem_append_left _ (List.mem_append_right _ h)))))))
  have hin_X0 : ∀ w ∈ wsX00, w ∈ wsL_castOff := (fun _ h => List.mem_cons_of_mem _ (List.mem_append_left _ (List.mem_append_left _ (List.mem_append_left _ (List.mem_append_left _ (List.mem_append_right _ h))))))
  have hin_X3 : ∀ w ∈ wsX30, w ∈ wsL_castOff := (fun _ h => List.mem_cons_of_mem _ (List.mem_append_left _ (List.mem_append_left _ (List.mem_append_left _ (List.mem_append_right _ h)))))
  have hin_X2 : ∀ w ∈ wsX20, w ∈ wsL_castOff := (fun _ h => List.mem_cons_of_mem _ (List.mem_append_left _ (List.mem_append_left _ (List.mem_append_right _ h))))
  refine fmV_aload_n (pc := 0) (i := 2) F dL_castOff_0 rfl rfl ?_
  refine fmV_iconst (pc := 1) (v := 0) F dL_castOff_1 rfl ?_
  refine fmV_aload_n (pc := 2) (i := 0) F dL_castOff_2 rfl rfl ?_
  refine fmV_iload_n (pc := 3) (i := 1) F dL_castOff_3 rfl rfl ?_
  refine fmV_xVi (n := 1) (pc := 4) F hX hM gL_castOff_X4_castOff rfl rfl rfl (by decide +kernel) ⟨Nat.le_of_ble_eq_true rfl, Nat.le_of_ble_eq_true rfl⟩ (fmR_0 F ) rfl rfl (Nat.le_of_ble_eq_true rfl) dL_castOff_4 ⟨Nat.le_of_ble_eq_true rfl, Nat.le_of_ble_eq_true rfl⟩ (fun E9 u9 hE9 ce9 q9 H9 locs9 ls9 hP9 hS9 hl8 hce9 hcv9 hcl9 => ?_) (fun r u hc => ?_)
  · have h9 := hpx E9 u9 hE9
    rcases h9 with rfl | rfl
    · refine fm_catch F hP9 hS9 hl8 hce9 hcv9 hcl9 [] ⟨0, 9, 12, 21⟩ [⟨0, 9, 15, 15⟩] (by rw [htb]; rfl) (fm_pass0) (by decide) (by decide) (name := "java/lang/IndexOutOfBoundsException") (List.mem_of_getElem? (i := 1) rfl) (hX.2.2.2.2.2.1 _ (List.mem_of_getElem? (i := 0) rfl)) ?_
      refine fmV_astore_n (pc := 12) (i := 3) F dL_castOff_12 rfl (by decide) ?_
      refine fmV_iconst (pc := 13) (v := 1) F dL_castOff_13 rfl ?_
      refine fmV_widen (k := 2) (n := 12) (Nat.le_of_ble_eq_true rfl) (Nat.le_of_ble_eq_true rfl) ?_
      refine fmV_xr ?_
      exact fmV_iret2 (pc := 14) F dL_castOff_14 rfl (Or.inr ⟨_, hE9, rfl, Or.inl ⟨rfl, rfl⟩⟩)
    · refine fm_catch F hP9 hS9 hl8 hce9 hcv9 hcl9 [⟨0, 9, 12, 21⟩] ⟨0, 9, 15, 15⟩ [] (by rw [htb]; rfl) (fm_pass1 (Or.inr ⟨by decide, _, F.2.2.2.2.2.1 _ (List.mem_of_getElem? (i := 1) rfl), hX.2.2.2.2.2.2.2.1⟩)) (by decide) (by decide) (name := "java/lang/IllegalStateException") (List.mem_of_getElem? (i := 2) rfl) (hX.2.2.2.2.2.1 _ (List.mem_of_getElem? (i := 2) rfl)) ?_
      refine fmV_astore_n (pc := 15) (i := 3) F dL_castOff_15 rfl (by decide) ?_
      refine fmV_iconst (pc := 16) (v := 2) F dL_castOff_16 rfl ?_
      refine fmV_widen (k := 2) (n := 12) (Nat.le_of_ble_eq_true rfl) (Nat.le_of_ble_eq_true rfl) ?_
      refine fmV_xr ?_
      exact fmV_iret2 (pc := 17) F dL_castOff_17 rfl (Or.inr ⟨_, hE9, rfl, Or.inr (Or.inl ⟨rfl, rfl⟩)⟩)
  refine fmV_i2l (pc := 7) F dL_castOff_7 rfl ?_
  refine fmV_last (pc := 8) F dL_castOff_8 (vp_in_nI (show 0 < 1 by decide) (by decide)) (show (0 : Int32).toNatClampNeg = 0 by decide) ?_
  refine fmV_goto (pc := 9) (tgt := 18) F dL_castOff_9 (by decide) ?_
  refine fmV_iconst (pc := 18) (v := 0) F dL_castOff_18 rfl ?_
  refine fmV_widen (k := 2) (n := 12) (Nat.le_of_ble_eq_true rfl) (Nat.le_of_ble_eq_true rfl) ?_
  refine fmV_xr ?_
  exact fmV_iret2 (pc := 19) F dL_castOff_19 rfl (Or.inl ⟨rfl, r, hc, rfl⟩)

set_option maxHeartbeats 4000000 in
set_option maxRecDepth 100000 in
theorem c_L_leaveIn (l : Launch) (D : va_G) (A : Nat → Prop) (G : fmG) (σ : fmS) (o : Nat → Int64) (x y : Int32) {post : Int32 → fmS → Prop} {px : String → fmS → Prop} (hM : fmXi l D A G yX4_leaveIn wsX4_leaveIn (fmRm 7 3 18) 3 18 [.ref (G.1 0 0 0), .int x, .int y] σ o post px) (hpx : ∀ E u, px E u → E = "java/lang/IndexOutOfBoundsException" ∨ E = "java/lang/IllegalArgumentException" ∨ E = "java/lang/IllegalStateException") : fmLi l D A G yL_leaveIn wsL_leaveIn (fmRm 8 3 18) 3 18 [.ref (G.1 0 0 0), .int x, .int y, .ref (G.1 34 0 0)] σ o (fun k z => (k = 0 ∧ ∃ r, post r z.1 ∧ z.2 = vp_updL o 0 r.toInt64) ∨ ∃ E, px E z.1 ∧ z.2 = o ∧ fmCode [("java/lang/IndexOutOfBoundsException", 1), ("java/lang/IllegalArgumentException", 2), ("java/lang/IllegalStateException", 3)] E k) := by
  refine fmLi_of (cc := cL_leaveIn) (maxL := 5) (ret := (some .int)) (hh := [(0, 10, 13, 21), (0, 10, 17, 13), (0, 10, 21, 15)]) (by decide +kernel) rfl (Nat.le_of_ble_eq_true rfl) ?_
  intro P_ E_ S_ M_ args_ below_ meth_ C_ F hX htb
  have hin_X4 : ∀ w ∈ wsX40, w ∈ wsL_leaveIn := (fun _ h => List.mem_cons_of_mem _ (List.mem_append_left _ (List.mem_append_left _ (List.mem_append_left _ (List.mem_append_left _ (List.mem_append_left _ (List.mem_append_right _ h)))))))
  have hin_X1 : ∀ w ∈ wsX10, w ∈ wsL_leaveIn := (fun _ h => List.mem_cons_of_mem _ (List.mem_append_left _ (List.mem_append_left _ (List.mem_append_left _ (List.mem_append_left _ (List.mem_append_right _ h))))))
  have hin_X0 : ∀ w ∈ wsX00, w ∈ wsL_leaveIn := (fun _ h => List.mem_cons_of_mem _ (List.mem_append_left _ (List.mem_append_left _ (List.mem_append_left _ (List.mem_append_right _ h)))))
  refine fmV_aload_n (pc := 0) (i := 3) F dL_leaveIn_0 rfl rfl ?_
  refine fmV_iconst (pc := 1) (v := 0) F dL_leaveIn_1 rfl ?_
  refine fmV_aload_n (pc := 2) (i := 0) F dL_leaveIn_2 rfl rfl ?_
  refine fmV_iload_n (pc := 3) (i := 1) F dL_leaveIn_3 rfl rfl ?_
  refine fmV_iload_n (pc := 4) (i := 2) F dL_leaveIn_4 rfl rfl ?_
  refine fmV_xVi (n := 2) (pc := 5) F hX hM gL_leaveIn_X4_leaveIn rfl rfl rfl (by decide +kernel) ⟨Nat.le_of_ble_eq_true rfl, Nat.le_of_ble_eq_true rfl⟩ (fmR_0 F ) rfl rfl (Nat.le_of_ble_eq_true rfl) dL_leaveIn_5 ⟨Nat.le_of_ble_eq_true rfl, Nat.le_of_ble_eq_true rfl⟩ (fun E9 u9 hE9 ce9 q9 H9 locs9 ls9 hP9 hS9 hl8 hce9 hcv9 hcl9 => ?_) (fun r u hc => ?_)
  · have h9 := hpx E9 u9 hE9
    rcases h9 with rfl | rfl | rfl
    · refine fm_catch F hP9 hS9 hl8 hce9 hcv9 hcl9 [] ⟨0, 10, 13, 21⟩ [⟨0, 10, 17, 13⟩, ⟨0, 10, 21, 15⟩] (by rw [htb]; rfl) (fm_pass0) (by decide) (by decide) (name := "java/lang/IndexOutOfBoundsException") (List.mem_of_getElem? (i := 1) rfl) (hX.2.2.2.2.2.1 _ (List.mem_of_getElem? (i := 0) rfl)) ?_
      refine fmV_astore (pc := 13) (i := 4) F dL_leaveIn_13 (by decide) ?_
      refine fmV_iconst (pc := 15) (v := 1) F dL_leaveIn_15 rfl ?_
      refine fmV_widen (k := 3) (n := 18) (Nat.le_of_ble_eq_true rfl) (Nat.le_of_ble_eq_true rfl) ?_
      refine fmV_xr ?_
      exact fmV_iret2 (pc := 16) F dL_leaveIn_16 rfl (Or.inr ⟨_, hE9, rfl, Or.inl ⟨rfl, rfl⟩⟩)
    · refine fm_catch F hP9 hS9 hl8 hce9 hcv9 hcl9 [⟨0, 10, 13, 21⟩] ⟨0, 10, 17, 13⟩ [⟨0, 10, 21, 15⟩] (by rw [htb]; rfl) (fm_pass1 (Or.inr ⟨by decide, _, F.2.2.2.2.2.1 _ (List.mem_of_getElem? (i := 1) rfl), hX.2.2.2.2.2.2.1⟩)) (by decide) (by decide) (name := "java/lang/IllegalArgumentException") (List.mem_of_getElem? (i := 2) rfl) (hX.2.2.2.2.2.1 _ (List.mem_of_getElem? (i := 1) rfl)) ?_
      refine fmV_astore (pc := 17) (i := 4) F dL_leaveIn_17 (by decide) ?_
      refine fmV_iconst (pc := 19) (v := 2) F dL_leaveIn_19 rfl ?_
      refine fmV_widen (k := 3) (n := 18) (Nat.le_of_ble_eq_true rfl) (Nat.le_of_ble_eq_true rfl) ?_
      refine fmV_xr ?_
      exact fmV_iret2 (pc := 20) F dL_leaveIn_20 rfl (Or.inr ⟨_, hE9, rfl, Or.inr (Or.inl ⟨rfl, rfl⟩)⟩)
    · refine fm_catch F hP9 hS9 hl8 hce9 hcv9 hcl9 [⟨0, 10, 13, 21⟩, ⟨0, 10, 17, 13⟩] ⟨0, 10, 21, 15⟩ [] (by rw [htb]; rfl) (fm_pass2 (Or.inr ⟨by decide, _, F.2.2.2.2.2.1 _ (List.mem_of_getElem? (i := 1) rfl), hX.2.2.2.2.2.2.2.1⟩) (Or.inr ⟨by decide, _, F.2.2.2.2.2.1 _ (List.mem_of_getElem? (i := 2) rfl), hX.2.2.2.2.2.2.2.2⟩)) (by decide) (by decide) (name := "java/lang/IllegalStateException") (List.mem_of_getElem? (i := 3) rfl) (hX.2.2.2.2.2.1 _ (List.mem_of_getElem? (i := 2) rfl)) ?_
      refine fmV_astore (pc := 21) (i := 4) F dL_leaveIn_21 (by decide) ?_
      refine fmV_iconst (pc := 23) (v := 3) F dL_leaveIn_23 rfl ?_
      refine fmV_widen (k := 3) (n := 18) (Nat.le_of_ble_eq_true rfl) (Nat.le_of_ble_eq_true rfl) ?_
      refine fmV_xr ?_
      exact fmV_iret2 (pc := 24) F dL_leaveIn_24 rfl (Or.inr ⟨_, hE9, rfl, Or.inr (Or.inr (Or.inl ⟨rfl, rfl⟩))⟩)
  refine fmV_i2l (pc := 8) F dL_leaveIn_8 rfl ?_
  refine fmV_last (pc := 9) F dL_leaveIn_9 (vp_in_nI (show 0 < 1 by decide) (by decide)) (show (0 : Int32).toNatClampNeg = 0 by decide) ?_
  refine fmV_goto (pc := 10) (tgt := 25) F dL_leaveIn_10 (by decide) ?_
  refine fmV_iconst (pc := 25) (v := 0) F dL_leaveIn_25 rfl ?_
  refine fmV_widen (k := 3) (n := 18) (Nat.le_of_ble_eq_true rfl) (Nat.le_of_ble_eq_true rfl) ?_
  refine fmV_xr ?_
  exact fmV_iret2 (pc := 26) F dL_leaveIn_26 rfl (Or.inl ⟨rfl, r, hc, rfl⟩)

set_option maxHeartbeats 4000000 in
set_option maxRecDepth 100000 in
theorem c_L_canoe (l : Launch) (D : va_G) (A : Nat → Prop) (G : fmG) (σ : fmS) (o : Nat → Int64) (x y : Int32) {post : Int32 → fmS → Prop} {px : String → fmS → Prop} (hM : fmXi l D A G yX4_canoe wsX4_canoe (fmRm 7 2 12) 2 12 [.ref (G.1 0 0 0), .int x, .int y] σ o post px) (hpx : ∀ E u, px E u → E = "java/lang/IndexOutOfBoundsException") : fmLi l D A G yL_canoe wsL_canoe (fmRm 8 2 12) 2 12 [.ref (G.1 0 0 0), .int x, .int y, .ref (G.1 34 0 0)] σ o (fun k z => (k = 0 ∧ ∃ r, post r z.1 ∧ z.2 = vp_updL o 0 r.toInt64) ∨ ∃ E, px E z.1 ∧ z.2 = o ∧ fmCode [("java/lang/IndexOutOfBoundsException", 1)] E k) := by
  refine fmLi_of (cc := cL_canoe) (maxL := 5) (ret := (some .int)) (hh := [(0, 10, 13, 21)]) (by decide +kernel) rfl (Nat.le_of_ble_eq_true rfl) ?_
  intro P_ E_ S_ M_ args_ below_ meth_ C_ F hX htb
  have hin_X4 : ∀ w ∈ wsX40, w ∈ wsL_canoe := (fun _ h => List.mem_cons_of_mem _ (List.mem_append_left _ (List.mem_append_left _ (List.mem_append_left _ (List.mem_append_right _ h)))))
  have hin_X1 : ∀ w ∈ wsX10, w ∈ wsL_canoe := (fun _ h => List.mem_cons_of_mem _ (List.mem_append_left _ (List.mem_append_left _ (List.mem_append_right _ h))))
  have hin_X0 : ∀ w ∈ wsX00, w ∈ wsL_canoe := (fun _ h => List.mem_cons_of_mem _ (List.mem_append_left _ (List.mem_append_right _ h)))
  refine fmV_aload_n (pc := 0) (i := 3) F dL_canoe_0 rfl rfl ?_
  refine fmV_iconst (pc := 1) (v := 0) F dL_canoe_1 rfl ?_
  refine fmV_aload_n (pc := 2) (i := 0) F dL_canoe_2 rfl rfl ?_
  refine fmV_iload_n (pc := 3) (i := 1) F dL_canoe_3 rfl rfl ?_
  refine fmV_iload_n (pc := 4) (i := 2) F dL_canoe_4 rfl rfl ?_
  refine fmV_xVi (n := 2) (pc := 5) F hX hM gL_canoe_X4_canoe rfl rfl rfl (by decide +kernel) ⟨Nat.le_of_ble_eq_true rfl, Nat.le_of_ble_eq_true rfl⟩ (fmR_0 F ) rfl rfl (Nat.le_of_ble_eq_true rfl) dL_canoe_5 ⟨Nat.le_of_ble_eq_true rfl, Nat.le_of_ble_eq_true rfl⟩ (fun E9 u9 hE9 ce9 q9 H9 locs9 ls9 hP9 hS9 hl8 hce9 hcv9 hcl9 => ?_) (fun r u hc => ?_)
  · have h9 := hpx E9 u9 hE9
    subst h9
    refine fm_catch F hP9 hS9 hl8 hce9 hcv9 hcl9 [] ⟨0, 10, 13, 21⟩ [] (by rw [htb]; rfl) (fm_pass0) (by decide) (by decide) (name := "java/lang/IndexOutOfBoundsException") (List.mem_of_getElem? (i := 1) rfl) (hX.2.2.2.2.2.1 _ (List.mem_of_getElem? (i := 0) rfl)) ?_
    refine fmV_astore (pc := 13) (i := 4) F dL_canoe_13 (by decide) ?_
    refine fmV_iconst (pc := 15) (v := 1) F dL_canoe_15 rfl ?_
    refine fmV_widen (k := 2) (n := 12) (Nat.le_of_ble_eq_true rfl) (Nat.le_of_ble_eq_true rfl) ?_
    refine fmV_xr ?_
    exact fmV_iret2 (pc := 16) F dL_canoe_16 rfl (Or.inr ⟨_, hE9, rfl, Or.inl ⟨rfl, rfl⟩⟩)
  refine fmV_i2l (pc := 8) F dL_canoe_8 rfl ?_
  refine fmV_last (pc := 9) F dL_canoe_9 (vp_in_nI (show 0 < 1 by decide) (by decide)) (show (0 : Int32).toNatClampNeg = 0 by decide) ?_
  refine fmV_goto (pc := 10) (tgt := 17) F dL_canoe_10 (by decide) ?_
  refine fmV_iconst (pc := 17) (v := 0) F dL_canoe_17 rfl ?_
  refine fmV_widen (k := 2) (n := 12) (Nat.le_of_ble_eq_true rfl) (Nat.le_of_ble_eq_true rfl) ?_
  refine fmV_xr ?_
  exact fmV_iret2 (pc := 18) F dL_canoe_18 rfl (Or.inl ⟨rfl, r, hc, rfl⟩)

set_option maxHeartbeats 4000000 in
set_option maxRecDepth 100000 in
theorem c_L_good (l : Launch) (D : va_G) (A : Nat → Prop) (G : fmG) (σ : fmS) (o : Nat → Int64) (x y z : Int32) {post : Int32 → fmS → Prop} {px : String → fmS → Prop} (hM : fmXi l D A G yX4_good wsX4_good (fmRm 7 3 18) 3 18 [.ref (G.1 0 0 0), .int x, .int y, .int z] σ o post px) (hpx : ∀ E u, px E u → E = "java/lang/IndexOutOfBoundsException") : fmLi l D A G yL_good wsL_good (fmRm 8 3 18) 3 18 [.ref (G.1 0 0 0), .int x, .int y, .int z, .ref (G.1 34 0 0)] σ o (fun k z => (k = 0 ∧ ∃ r, post r z.1 ∧ z.2 = vp_updL o 0 r.toInt64) ∨ ∃ E, px E z.1 ∧ z.2 = o ∧ fmCode [("java/lang/IndexOutOfBoundsException", 1)] E k) := by
  refine fmLi_of (cc := cL_good) (maxL := 6) (ret := (some .int)) (hh := [(0, 12, 15, 21)]) (by decide +kernel) rfl (Nat.le_of_ble_eq_true rfl) ?_
  intro P_ E_ S_ M_ args_ below_ meth_ C_ F hX htb
  have hin_X4 : ∀ w ∈ wsX40, w ∈ wsL_good := (fun _ h => List.mem_cons_of_mem _ (List.mem_append_left _ (List.mem_append_left _ (List.mem_append_left _ (List.mem_append_right _ h)))))
  have hin_X1 : ∀ w ∈ wsX10, w ∈ wsL_good := (fun _ h => List.mem_cons_of_mem _ (List.mem_append_left _ (List.mem_append_left _ (List.mem_append_right _ h))))
  have hin_X0 : ∀ w ∈ wsX00, w ∈ wsL_good := (fun _ h => List.mem_cons_of_mem _ (List.mem_append_left _ (List.mem_append_right _ h)))
  refine fmV_aload (pc := 0) (i := 4) F dL_good_0 rfl ?_
  refine fmV_iconst (pc := 2) (v := 0) F dL_good_2 rfl ?_
  refine fmV_aload_n (pc := 3) (i := 0) F dL_good_3 rfl rfl ?_
  refine fmV_iload_n (pc := 4) (i := 1) F dL_good_4 rfl rfl ?_
  refine fmV_iload_n (pc := 5) (i := 2) F dL_good_5 rfl rfl ?_
  refine fmV_iload_n (pc := 6) (i := 3) F dL_good_6 rfl rfl ?_
  refine fmV_xVi (n := 3) (pc := 7) F hX hM gL_good_X4_good rfl rfl rfl (by decide +kernel) ⟨Nat.le_of_ble_eq_true rfl, Nat.le_of_ble_eq_true rfl⟩ (fmR_0 F ) rfl rfl (Nat.le_of_ble_eq_true rfl) dL_good_7 ⟨Nat.le_of_ble_eq_true rfl, Nat.le_of_ble_eq_true rfl⟩ (fun E9 u9 hE9 ce9 q9 H9 locs9 ls9 hP9 hS9 hl8 hce9 hcv9 hcl9 => ?_) (fun r u hc => ?_)
  · have h9 := hpx E9 u9 hE9
    subst h9
    refine fm_catch F hP9 hS9 hl8 hce9 hcv9 hcl9 [] ⟨0, 12, 15, 21⟩ [] (by rw [htb]; rfl) (fm_pass0) (by decide) (by decide) (name := "java/lang/IndexOutOfBoundsException") (List.mem_of_getElem? (i := 1) rfl) (hX.2.2.2.2.2.1 _ (List.mem_of_getElem? (i := 0) rfl)) ?_
    refine fmV_astore (pc := 15) (i := 5) F dL_good_15 (by decide) ?_
    refine fmV_iconst (pc := 17) (v := 1) F dL_good_17 rfl ?_
    refine fmV_widen (k := 3) (n := 18) (Nat.le_of_ble_eq_true rfl) (Nat.le_of_ble_eq_true rfl) ?_
    refine fmV_xr ?_
    exact fmV_iret2 (pc := 18) F dL_good_18 rfl (Or.inr ⟨_, hE9, rfl, Or.inl ⟨rfl, rfl⟩⟩)
  refine fmV_i2l (pc := 10) F dL_good_10 rfl ?_
  refine fmV_last (pc := 11) F dL_good_11 (vp_in_nI (show 0 < 1 by decide) (by decide)) (show (0 : Int32).toNatClampNeg = 0 by decide) ?_
  refine fmV_goto (pc := 12) (tgt := 19) F dL_good_12 (by decide) ?_
  refine fmV_iconst (pc := 19) (v := 0) F dL_good_19 rfl ?_
  refine fmV_widen (k := 3) (n := 18) (Nat.le_of_ble_eq_true rfl) (Nat.le_of_ble_eq_true rfl) ?_
  refine fmV_xr ?_
  exact fmV_iret2 (pc := 20) F dL_good_20 rfl (Or.inl ⟨rfl, r, hc, rfl⟩)

set_option maxHeartbeats 4000000 in
set_option maxRecDepth 100000 in
theorem c_L_at (l : Launch) (D : va_G) (A : Nat → Prop) (G : fmG) (σ : fmS) (o : Nat → Int64) (x y : Int32) {post : Int32 → fmS → Prop} {px : String → fmS → Prop} (hM : fmXi l D A G yX4_at wsX4_at (fmRm 7 2 12) 2 12 [.ref (G.1 0 0 0), .int x, .int y] σ o post px) (hpx : ∀ E u, px E u → E = "java/lang/IndexOutOfBoundsException") : fmLi l D A G yL_at wsL_at (fmRm 8 2 12) 2 12 [.ref (G.1 0 0 0), .int x, .int y, .ref (G.1 34 0 0)] σ o (fun k z => (k = 0 ∧ ∃ r, post r z.1 ∧ z.2 = vp_updL o 0 r.toInt64) ∨ ∃ E, px E z.1 ∧ z.2 = o ∧ fmCode [("java/lang/IndexOutOfBoundsException", 1)] E k) := by
  refine fmLi_of (cc := cL_at) (maxL := 5) (ret := (some .int)) (hh := [(0, 10, 13, 21)]) (by decide +kernel) rfl (Nat.le_of_ble_eq_true rfl) ?_
  intro P_ E_ S_ M_ args_ below_ meth_ C_ F hX htb
  have hin_X4 : ∀ w ∈ wsX40, w ∈ wsL_at := (fun _ h => List.mem_cons_of_mem _ (List.mem_append_left _ (List.mem_append_left _ (List.mem_append_left _ (List.mem_append_right _ h)))))
  have hin_X1 : ∀ w ∈ wsX10, w ∈ wsL_at := (fun _ h => List.mem_cons_of_mem _ (List.mem_append_left _ (List.mem_append_left _ (List.mem_append_right _ h))))
  have hin_X2 : ∀ w ∈ wsX20, w ∈ wsL_at := (fun _ h => List.mem_cons_of_mem _ (List.mem_append_left _ (List.mem_append_right _ h)))
  refine fmV_aload_n (pc := 0) (i := 3) F dL_at_0 rfl rfl ?_
  refine fmV_iconst (pc := 1) (v := 0) F dL_at_1 rfl ?_
  refine fmV_aload_n (pc := 2) (i := 0) F dL_at_2 rfl rfl ?_
  refine fmV_iload_n (pc := 3) (i := 1) F dL_at_3 rfl rfl ?_
  refine fmV_iload_n (pc := 4) (i := 2) F dL_at_4 rfl rfl ?_
  refine fmV_xVi (n := 2) (pc := 5) F hX hM gL_at_X4_at rfl rfl rfl (by decide +kernel) ⟨Nat.le_of_ble_eq_true rfl, Nat.le_of_ble_eq_true rfl⟩ (fmR_0 F ) rfl rfl (Nat.le_of_ble_eq_true rfl) dL_at_5 ⟨Nat.le_of_ble_eq_true rfl, Nat.le_of_ble_eq_true rfl⟩ (fun E9 u9 hE9 ce9 q9 H9 locs9 ls9 hP9 hS9 hl8 hce9 hcv9 hcl9 => ?_) (fun r u hc => ?_)
  · have h9 := hpx E9 u9 hE9
    subst h9
    refine fm_catch F hP9 hS9 hl8 hce9 hcv9 hcl9 [] ⟨0, 10, 13, 21⟩ [] (by rw [htb]; rfl) (fm_pass0) (by decide) (by decide) (name := "java/lang/IndexOutOfBoundsException") (List.mem_of_getElem? (i := 1) rfl) (hX.2.2.2.2.2.1 _ (List.mem_of_getElem? (i := 0) rfl)) ?_
    refine fmV_astore (pc := 13) (i := 4) F dL_at_13 (by decide) ?_
    refine fmV_iconst (pc := 15) (v := 1) F dL_at_15 rfl ?_
    refine fmV_widen (k := 2) (n := 12) (Nat.le_of_ble_eq_true rfl) (Nat.le_of_ble_eq_true rfl) ?_
    refine fmV_xr ?_
    exact fmV_iret2 (pc := 16) F dL_at_16 rfl (Or.inr ⟨_, hE9, rfl, Or.inl ⟨rfl, rfl⟩⟩)
  refine fmV_i2l (pc := 8) F dL_at_8 rfl ?_
  refine fmV_last (pc := 9) F dL_at_9 (vp_in_nI (show 0 < 1 by decide) (by decide)) (show (0 : Int32).toNatClampNeg = 0 by decide) ?_
  refine fmV_goto (pc := 10) (tgt := 17) F dL_at_10 (by decide) ?_
  refine fmV_iconst (pc := 17) (v := 0) F dL_at_17 rfl ?_
  refine fmV_widen (k := 2) (n := 12) (Nat.le_of_ble_eq_true rfl) (Nat.le_of_ble_eq_true rfl) ?_
  refine fmV_xr ?_
  exact fmV_iret2 (pc := 18) F dL_at_18 rfl (Or.inl ⟨rfl, r, hc, rfl⟩)

set_option maxHeartbeats 4000000 in
set_option maxRecDepth 100000 in
theorem c_L_beside (l : Launch) (D : va_G) (A : Nat → Prop) (G : fmG) (σ : fmS) (o : Nat → Int64) (x y : Int32) {post : Int32 → fmS → Prop} {px : String → fmS → Prop} (hM : fmXi l D A G yX4_beside wsX4_beside (fmRm 7 2 12) 2 12 [.ref (G.1 0 0 0), .int x, .int y] σ o post px) (hpx : ∀ E u, px E u → E = "java/lang/IndexOutOfBoundsException") : fmLi l D A G yL_beside wsL_beside (fmRm 8 2 12) 2 12 [.ref (G.1 0 0 0), .int x, .int y, .ref (G.1 34 0 0)] σ o (fun k z => (k = 0 ∧ ∃ r, post r z.1 ∧ z.2 = vp_updL o 0 (if r = 0 then 0 else 1)) ∨ ∃ E, px E z.1 ∧ z.2 = o ∧ fmCode [("java/lang/IndexOutOfBoundsException", 1)] E k) := by
  refine fmLi_of (cc := cL_beside) (maxL := 5) (ret := (some .int)) (hh := [(0, 17, 20, 21)]) (by decide +kernel) rfl (Nat.le_of_ble_eq_true rfl) ?_
  intro P_ E_ S_ M_ args_ below_ meth_ C_ F hX htb
  have hin_X4 : ∀ w ∈ wsX40, w ∈ wsL_beside := (fun _ h => List.mem_cons_of_mem _ (List.mem_append_left _ (List.mem_append_left _ (List.mem_append_left _ (List.mem_append_right _ h)))))
  have hin_X1 : ∀ w ∈ wsX10, w ∈ wsL_beside := (fun _ h => List.mem_cons_of_mem _ (List.mem_append_left _ (List.mem_append_left _ (List.mem_append_right _ h))))
  have hin_X0 : ∀ w ∈ wsX00, w ∈ wsL_beside := (fun _ h => List.mem_cons_of_mem _ (List.mem_append_left _ (List.mem_append_right _ h)))
  refine fmV_aload_n (pc := 0) (i := 3) F dL_beside_0 rfl rfl ?_
  refine fmV_iconst (pc := 1) (v := 0) F dL_beside_1 rfl ?_
  refine fmV_aload_n (pc := 2) (i := 0) F dL_beside_2 rfl rfl ?_
  refine fmV_iload_n (pc := 3) (i := 1) F dL_beside_3 rfl rfl ?_
  refine fmV_iload_n (pc := 4) (i := 2) F dL_beside_4 rfl rfl ?_
  refine fmV_xVi (n := 2) (pc := 5) F hX hM gL_beside_X4_beside rfl rfl rfl (by decide +kernel) ⟨Nat.le_of_ble_eq_true rfl, Nat.le_of_ble_eq_true rfl⟩ (fmR_0 F ) rfl rfl (Nat.le_of_ble_eq_true rfl) dL_beside_5 ⟨Nat.le_of_ble_eq_true rfl, Nat.le_of_ble_eq_true rfl⟩ (fun E9 u9 hE9 ce9 q9 H9 locs9 ls9 hP9 hS9 hl8 hce9 hcv9 hcl9 => ?_) (fun r u hc => ?_)
  · have h9 := hpx E9 u9 hE9
    subst h9
    refine fm_catch F hP9 hS9 hl8 hce9 hcv9 hcl9 [] ⟨0, 17, 20, 21⟩ [] (by rw [htb]; rfl) (fm_pass0) (by decide) (by decide) (name := "java/lang/IndexOutOfBoundsException") (List.mem_of_getElem? (i := 1) rfl) (hX.2.2.2.2.2.1 _ (List.mem_of_getElem? (i := 0) rfl)) ?_
    refine fmV_astore (pc := 20) (i := 4) F dL_beside_20 (by decide) ?_
    refine fmV_iconst (pc := 22) (v := 1) F dL_beside_22 rfl ?_
    refine fmV_widen (k := 2) (n := 12) (Nat.le_of_ble_eq_true rfl) (Nat.le_of_ble_eq_true rfl) ?_
    refine fmV_xr ?_
    exact fmV_iret2 (pc := 23) F dL_beside_23 rfl (Or.inr ⟨_, hE9, rfl, Or.inl ⟨rfl, rfl⟩⟩)
  refine fmV_if_eq (pc := 8) (tgt := 15) F dL_beside_8 (by decide) (fun hb => ?_) (fun hb => ?_)
  · refine fmV_lconst (pc := 15) (v := 0) F dL_beside_15 rfl ?_
    refine fmV_last (pc := 16) F dL_beside_16 (vp_in_nI (show 0 < 1 by decide) (by decide)) (show (0 : Int32).toNatClampNeg = 0 by decide) ?_
    refine fmV_goto (pc := 17) (tgt := 24) F dL_beside_17 (by decide) ?_
    refine fmV_iconst (pc := 24) (v := 0) F dL_beside_24 rfl ?_
    refine fmV_widen (k := 2) (n := 12) (Nat.le_of_ble_eq_true rfl) (Nat.le_of_ble_eq_true rfl) ?_
    refine fmV_xr ?_
    exact fmV_iret2 (pc := 25) F dL_beside_25 rfl (Or.inl ⟨rfl, r, hc, (by rw [if_pos hb])⟩)
  · refine fmV_lconst (pc := 11) (v := 1) F dL_beside_11 rfl ?_
    refine fmV_goto (pc := 12) (tgt := 16) F dL_beside_12 (by decide) ?_
    refine fmV_last (pc := 16) F dL_beside_16 (vp_in_nI (show 0 < 1 by decide) (by decide)) (show (0 : Int32).toNatClampNeg = 0 by decide) ?_
    refine fmV_goto (pc := 17) (tgt := 24) F dL_beside_17 (by decide) ?_
    refine fmV_iconst (pc := 24) (v := 0) F dL_beside_24 rfl ?_
    refine fmV_widen (k := 2) (n := 12) (Nat.le_of_ble_eq_true rfl) (Nat.le_of_ble_eq_true rfl) ?_
    refine fmV_xr ?_
    exact fmV_iret2 (pc := 25) F dL_beside_25 rfl (Or.inl ⟨rfl, r, hc, (by rw [if_neg hb])⟩)

set_option maxHeartbeats 4000000 in
set_option maxRecDepth 100000 in
theorem c_L_pass (l : Launch) (D : va_G) (A : Nat → Prop) (G : fmG) (σ : fmS) (o : Nat → Int64) (x : Int32) {post : Int32 → fmS → Prop} {px : String → fmS → Prop} (hM : fmXi l D A G yX4_pass wsX4_pass (fmRm 7 1 6) 1 6 [.ref (G.1 0 0 0), .int x] σ o post px) (hpx : ∀ E u, px E u → E = "java/lang/IllegalArgumentException") : fmLi l D A G yL_pass wsL_pass (fmRm 8 1 6) 1 6 [.ref (G.1 0 0 0), .int x, .ref (G.1 34 0 0)] σ o (fun k z => (k = 0 ∧ ∃ r, post r z.1 ∧ z.2 = vp_updL o 0 r.toInt64) ∨ ∃ E, px E z.1 ∧ z.2 = o ∧ fmCode [("java/lang/IllegalArgumentException", 1)] E k) := by
  refine fmLi_of (cc := cL_pass) (maxL := 4) (ret := (some .int)) (hh := [(0, 9, 12, 13)]) (by decide +kernel) rfl (Nat.le_of_ble_eq_true rfl) ?_
  intro P_ E_ S_ M_ args_ below_ meth_ C_ F hX htb
  have hin_X4 : ∀ w ∈ wsX40, w ∈ wsL_pass := (fun _ h => List.mem_cons_of_mem _ (List.mem_append_left _ (List.mem_append_left _ (List.mem_append_left _ (List.mem_append_left _ (List.mem_append_left _ (List.mem_append_right _ h)))))))
  have hin_X1 : ∀ w ∈ wsX10, w ∈ wsL_pass := (fun _ h => List.mem_cons_of_mem _ (List.mem_append_left _ (List.mem_append_left _ (List.mem_append_left _ (List.mem_append_left _ (List.mem_append_right _ h))))))
  have hin_X2 : ∀ w ∈ wsX20, w ∈ wsL_pass := (fun _ h => List.mem_cons_of_mem _ (List.mem_append_left _ (List.mem_append_left _ (List.mem_append_left _ (List.mem_append_right _ h)))))
  have hin_X0 : ∀ w ∈ wsX00, w ∈ wsL_pass := (fun _ h => List.mem_cons_of_mem _ (List.mem_append_left _ (List.mem_append_left _ (List.mem_append_right _ h))))
  have hin_X3 : ∀ w ∈ wsX30, w ∈ wsL_pass := (fun _ h => List.mem_cons_of_mem _ (List.mem_append_left _ (List.mem_append_right _ h)))
  refine fmV_aload_n (pc := 0) (i := 2) F dL_pass_0 rfl rfl ?_
  refine fmV_iconst (pc := 1) (v := 0) F dL_pass_1 rfl ?_
  refine fmV_aload_n (pc := 2) (i := 0) F dL_pass_2 rfl rfl ?_
  refine fmV_iload_n (pc := 3) (i := 1) F dL_pass_3 rfl rfl ?_
  refine fmV_xVi (n := 1) (pc := 4) F hX hM gL_pass_X4_pass rfl rfl rfl (by decide +kernel) ⟨Nat.le_of_ble_eq_true rfl, Nat.le_of_ble_eq_true rfl⟩ (fmR_0 F ) rfl rfl (Nat.le_of_ble_eq_true rfl) dL_pass_4 ⟨Nat.le_of_ble_eq_true rfl, Nat.le_of_ble_eq_true rfl⟩ (fun E9 u9 hE9 ce9 q9 H9 locs9 ls9 hP9 hS9 hl8 hce9 hcv9 hcl9 => ?_) (fun r u hc => ?_)
  · have h9 := hpx E9 u9 hE9
    subst h9
    refine fm_catch F hP9 hS9 hl8 hce9 hcv9 hcl9 [] ⟨0, 9, 12, 13⟩ [] (by rw [htb]; rfl) (fm_pass0) (by decide) (by decide) (name := "java/lang/IllegalArgumentException") (List.mem_of_getElem? (i := 1) rfl) (hX.2.2.2.2.2.1 _ (List.mem_of_getElem? (i := 1) rfl)) ?_
    refine fmV_astore_n (pc := 12) (i := 3) F dL_pass_12 rfl (by decide) ?_
    refine fmV_iconst (pc := 13) (v := 1) F dL_pass_13 rfl ?_
    refine fmV_widen (k := 1) (n := 6) (Nat.le_of_ble_eq_true rfl) (Nat.le_of_ble_eq_true rfl) ?_
    refine fmV_xr ?_
    exact fmV_iret2 (pc := 14) F dL_pass_14 rfl (Or.inr ⟨_, hE9, rfl, Or.inl ⟨rfl, rfl⟩⟩)
  refine fmV_i2l (pc := 7) F dL_pass_7 rfl ?_
  refine fmV_last (pc := 8) F dL_pass_8 (vp_in_nI (show 0 < 1 by decide) (by decide)) (show (0 : Int32).toNatClampNeg = 0 by decide) ?_
  refine fmV_goto (pc := 9) (tgt := 15) F dL_pass_9 (by decide) ?_
  refine fmV_iconst (pc := 15) (v := 0) F dL_pass_15 rfl ?_
  refine fmV_widen (k := 1) (n := 6) (Nat.le_of_ble_eq_true rfl) (Nat.le_of_ble_eq_true rfl) ?_
  refine fmV_xr ?_
  exact fmV_iret2 (pc := 16) F dL_pass_16 rfl (Or.inl ⟨rfl, r, hc, rfl⟩)

set_option maxHeartbeats 4000000 in
set_option maxRecDepth 100000 in
theorem c_L_count (l : Launch) (D : va_G) (A : Nat → Prop) (G : fmG) (σ : fmS) (o : Nat → Int64) (x : Int32) {post : Int32 → fmS → Prop} {px : String → fmS → Prop} (hM : fmXi l D A G yX4_count wsX4_count (fmRm 7 1 6) 1 6 [.ref (G.1 0 0 0), .int x] σ o post px) (hpx : ∀ E u, px E u → E = "java/lang/IndexOutOfBoundsException") : fmLi l D A G yL_count wsL_count (fmRm 8 1 6) 1 6 [.ref (G.1 0 0 0), .int x, .ref (G.1 34 0 0)] σ o (fun k z => (k = 0 ∧ ∃ r, post r z.1 ∧ z.2 = vp_updL o 0 r.toInt64) ∨ ∃ E, px E z.1 ∧ z.2 = o ∧ fmCode [("java/lang/IndexOutOfBoundsException", 1)] E k) := by
  refine fmLi_of (cc := cL_count) (maxL := 4) (ret := (some .int)) (hh := [(0, 9, 12, 21)]) (by decide +kernel) rfl (Nat.le_of_ble_eq_true rfl) ?_
  intro P_ E_ S_ M_ args_ below_ meth_ C_ F hX htb
  have hin_X4 : ∀ w ∈ wsX40, w ∈ wsL_count := (fun _ h => List.mem_cons_of_mem _ (List.mem_append_left _ (List.mem_append_left _ (List.mem_append_left _ (List.mem_append_left _ (List.mem_append_right _ h))))))
  have hin_X1 : ∀ w ∈ wsX10, w ∈ wsL_count := (fun _ h => List.mem_cons_of_mem _ (List.mem_append_left _ (List.mem_append_left _ (List.mem_append_left _ (List.mem_append_right _ h)))))
  have hin_X0 : ∀ w ∈ wsX00, w ∈ wsL_count := (fun _ h => List.mem_cons_of_mem _ (List.mem_append_left _ (List.mem_append_left _ (List.mem_append_right _ h))))
  have hin_X3 : ∀ w ∈ wsX30, w ∈ wsL_count := (fun _ h => List.mem_cons_of_mem _ (List.mem_append_left _ (List.mem_append_right _ h)))
  refine fmV_aload_n (pc := 0) (i := 2) F dL_count_0 rfl rfl ?_
  refine fmV_iconst (pc := 1) (v := 0) F dL_count_1 rfl ?_
  refine fmV_aload_n (pc := 2) (i := 0) F dL_count_2 rfl rfl ?_
  refine fmV_iload_n (pc := 3) (i := 1) F dL_count_3 rfl rfl ?_
  refine fmV_xVi (n := 1) (pc := 4) F hX hM gL_count_X4_count rfl rfl rfl (by decide +kernel) ⟨Nat.le_of_ble_eq_true rfl, Nat.le_of_ble_eq_true rfl⟩ (fmR_0 F ) rfl rfl (Nat.le_of_ble_eq_true rfl) dL_count_4 ⟨Nat.le_of_ble_eq_true rfl, Nat.le_of_ble_eq_true rfl⟩ (fun E9 u9 hE9 ce9 q9 H9 locs9 ls9 hP9 hS9 hl8 hce9 hcv9 hcl9 => ?_) (fun r u hc => ?_)
  · have h9 := hpx E9 u9 hE9
    subst h9
    refine fm_catch F hP9 hS9 hl8 hce9 hcv9 hcl9 [] ⟨0, 9, 12, 21⟩ [] (by rw [htb]; rfl) (fm_pass0) (by decide) (by decide) (name := "java/lang/IndexOutOfBoundsException") (List.mem_of_getElem? (i := 1) rfl) (hX.2.2.2.2.2.1 _ (List.mem_of_getElem? (i := 0) rfl)) ?_
    refine fmV_astore_n (pc := 12) (i := 3) F dL_count_12 rfl (by decide) ?_
    refine fmV_iconst (pc := 13) (v := 1) F dL_count_13 rfl ?_
    refine fmV_widen (k := 1) (n := 6) (Nat.le_of_ble_eq_true rfl) (Nat.le_of_ble_eq_true rfl) ?_
    refine fmV_xr ?_
    exact fmV_iret2 (pc := 14) F dL_count_14 rfl (Or.inr ⟨_, hE9, rfl, Or.inl ⟨rfl, rfl⟩⟩)
  refine fmV_i2l (pc := 7) F dL_count_7 rfl ?_
  refine fmV_last (pc := 8) F dL_count_8 (vp_in_nI (show 0 < 1 by decide) (by decide)) (show (0 : Int32).toNatClampNeg = 0 by decide) ?_
  refine fmV_goto (pc := 9) (tgt := 15) F dL_count_9 (by decide) ?_
  refine fmV_iconst (pc := 15) (v := 0) F dL_count_15 rfl ?_
  refine fmV_widen (k := 1) (n := 6) (Nat.le_of_ble_eq_true rfl) (Nat.le_of_ble_eq_true rfl) ?_
  refine fmV_xr ?_
  exact fmV_iret2 (pc := 16) F dL_count_16 rfl (Or.inl ⟨rfl, r, hc, rfl⟩)

set_option maxHeartbeats 4000000 in
set_option maxRecDepth 100000 in
theorem c_L_foresee (l : Launch) (D : va_G) (A : Nat → Prop) (G : fmG) (σ : fmS) (o : Nat → Int64) (x y z : Int32) {post : Int32 → fmS → Prop} {px : String → fmS → Prop} (hM : fmXi l D A G yX4_foresee wsX4_foresee (fmRm 7 3 18) 3 18 [.ref (G.1 0 0 0), .int x, .int y, .int z] σ o post px) (hpx : ∀ E u, px E u → E = "java/lang/IndexOutOfBoundsException" ∨ E = "java/lang/IllegalArgumentException") : fmLi l D A G yL_foresee wsL_foresee (fmRm 8 3 18) 3 18 [.ref (G.1 0 0 0), .int x, .int y, .int z, .ref (G.1 34 0 0)] σ o (fun k z => (k = 0 ∧ ∃ r, post r z.1 ∧ z.2 = vp_updL o 0 r.toInt64) ∨ ∃ E, px E z.1 ∧ z.2 = o ∧ fmCode [("java/lang/IndexOutOfBoundsException", 1), ("java/lang/IllegalArgumentException", 2)] E k) := by
  refine fmLi_of (cc := cL_foresee) (maxL := 6) (ret := (some .int)) (hh := [(0, 12, 15, 21), (0, 12, 19, 13)]) (by decide +kernel) rfl (Nat.le_of_ble_eq_true rfl) ?_
  intro P_ E_ S_ M_ args_ below_ meth_ C_ F hX htb
  have hin_X4 : ∀ w ∈ wsX40, w ∈ wsL_foresee := (fun _ h => List.mem_cons_of_mem _ (List.mem_append_left _ (List.mem_append_left _ (List.mem_append_left _ (List.mem_append_left _ (List.mem_append_left _ (List.mem_append_left _ (List.mem_append_right _ h))))))))
  have hin_X1 : ∀ w ∈ wsX10, w ∈ wsL_foresee := (fun _ h => List.mem_cons_of_mem _ (List.mem_append_left _ (List.mem_append_left _ (List.mem_append_left _ (List.mem_append_left _ (List.mem_append_left _ (List.mem_append_right _ h)))))))
  have hin_X0 : ∀ w ∈ wsX00, w ∈ wsL_foresee := (fun _ h => List.mem_cons_of_mem _ (List.mem_append_left _ (List.mem_append_left _ (List.mem_append_left _ (List.mem_append_left _ (List.mem_append_right _ h))))))
  have hin_X2 : ∀ w ∈ wsX20, w ∈ wsL_foresee := (fun _ h => List.mem_cons_of_mem _ (List.mem_append_left _ (List.mem_append_left _ (List.mem_append_left _ (List.mem_append_right _ h)))))
  have hin_X3 : ∀ w ∈ wsX30, w ∈ wsL_foresee := (fun _ h => List.mem_cons_of_mem _ (List.mem_append_left _ (List.mem_append_left _ (List.mem_append_right _ h))))
  refine fmV_aload (pc := 0) (i := 4) F dL_foresee_0 rfl ?_
  refine fmV_iconst (pc := 2) (v := 0) F dL_foresee_2 rfl ?_
  refine fmV_aload_n (pc := 3) (i := 0) F dL_foresee_3 rfl rfl ?_
  refine fmV_iload_n (pc := 4) (i := 1) F dL_foresee_4 rfl rfl ?_
  refine fmV_iload_n (pc := 5) (i := 2) F dL_foresee_5 rfl rfl ?_
  refine fmV_iload_n (pc := 6) (i := 3) F dL_foresee_6 rfl rfl ?_
  refine fmV_xVi (n := 3) (pc := 7) F hX hM gL_foresee_X4_foresee rfl rfl rfl (by decide +kernel) ⟨Nat.le_of_ble_eq_true rfl, Nat.le_of_ble_eq_true rfl⟩ (fmR_0 F ) rfl rfl (Nat.le_of_ble_eq_true rfl) dL_foresee_7 ⟨Nat.le_of_ble_eq_true rfl, Nat.le_of_ble_eq_true rfl⟩ (fun E9 u9 hE9 ce9 q9 H9 locs9 ls9 hP9 hS9 hl8 hce9 hcv9 hcl9 => ?_) (fun r u hc => ?_)
  · have h9 := hpx E9 u9 hE9
    rcases h9 with rfl | rfl
    · refine fm_catch F hP9 hS9 hl8 hce9 hcv9 hcl9 [] ⟨0, 12, 15, 21⟩ [⟨0, 12, 19, 13⟩] (by rw [htb]; rfl) (fm_pass0) (by decide) (by decide) (name := "java/lang/IndexOutOfBoundsException") (List.mem_of_getElem? (i := 1) rfl) (hX.2.2.2.2.2.1 _ (List.mem_of_getElem? (i := 0) rfl)) ?_
      refine fmV_astore (pc := 15) (i := 5) F dL_foresee_15 (by decide) ?_
      refine fmV_iconst (pc := 17) (v := 1) F dL_foresee_17 rfl ?_
      refine fmV_widen (k := 3) (n := 18) (Nat.le_of_ble_eq_true rfl) (Nat.le_of_ble_eq_true rfl) ?_
      refine fmV_xr ?_
      exact fmV_iret2 (pc := 18) F dL_foresee_18 rfl (Or.inr ⟨_, hE9, rfl, Or.inl ⟨rfl, rfl⟩⟩)
    · refine fm_catch F hP9 hS9 hl8 hce9 hcv9 hcl9 [⟨0, 12, 15, 21⟩] ⟨0, 12, 19, 13⟩ [] (by rw [htb]; rfl) (fm_pass1 (Or.inr ⟨by decide, _, F.2.2.2.2.2.1 _ (List.mem_of_getElem? (i := 1) rfl), hX.2.2.2.2.2.2.1⟩)) (by decide) (by decide) (name := "java/lang/IllegalArgumentException") (List.mem_of_getElem? (i := 2) rfl) (hX.2.2.2.2.2.1 _ (List.mem_of_getElem? (i := 1) rfl)) ?_
      refine fmV_astore (pc := 19) (i := 5) F dL_foresee_19 (by decide) ?_
      refine fmV_iconst (pc := 21) (v := 2) F dL_foresee_21 rfl ?_
      refine fmV_widen (k := 3) (n := 18) (Nat.le_of_ble_eq_true rfl) (Nat.le_of_ble_eq_true rfl) ?_
      refine fmV_xr ?_
      exact fmV_iret2 (pc := 22) F dL_foresee_22 rfl (Or.inr ⟨_, hE9, rfl, Or.inr (Or.inl ⟨rfl, rfl⟩)⟩)
  refine fmV_i2l (pc := 10) F dL_foresee_10 rfl ?_
  refine fmV_last (pc := 11) F dL_foresee_11 (vp_in_nI (show 0 < 1 by decide) (by decide)) (show (0 : Int32).toNatClampNeg = 0 by decide) ?_
  refine fmV_goto (pc := 12) (tgt := 23) F dL_foresee_12 (by decide) ?_
  refine fmV_iconst (pc := 23) (v := 0) F dL_foresee_23 rfl ?_
  refine fmV_widen (k := 3) (n := 18) (Nat.le_of_ble_eq_true rfl) (Nat.le_of_ble_eq_true rfl) ?_
  refine fmV_xr ?_
  exact fmV_iret2 (pc := 24) F dL_foresee_24 rfl (Or.inl ⟨rfl, r, hc, rfl⟩)

set_option maxHeartbeats 4000000 in
set_option maxRecDepth 100000 in
theorem c_L_full (l : Launch) (D : va_G) (A : Nat → Prop) (G : fmG) (σ : fmS) (o : Nat → Int64) (x : Int32) {post : Int32 → fmS → Prop} {px : String → fmS → Prop} (hM : fmXi l D A G yX4_full wsX4_full (fmRm 7 1 6) 1 6 [.ref (G.1 0 0 0), .int x] σ o post px) (hpx : ∀ E u, px E u → E = "java/lang/IndexOutOfBoundsException") : fmLi l D A G yL_full wsL_full (fmRm 8 1 6) 1 6 [.ref (G.1 0 0 0), .int x, .ref (G.1 34 0 0)] σ o (fun k z => (k = 0 ∧ ∃ r, post r z.1 ∧ z.2 = vp_updL o 0 r.toInt64) ∨ ∃ E, px E z.1 ∧ z.2 = o ∧ fmCode [("java/lang/IndexOutOfBoundsException", 1)] E k) := by
  refine fmLi_of (cc := cL_full) (maxL := 4) (ret := (some .int)) (hh := [(0, 9, 12, 21)]) (by decide +kernel) rfl (Nat.le_of_ble_eq_true rfl) ?_
  intro P_ E_ S_ M_ args_ below_ meth_ C_ F hX htb
  have hin_X4 : ∀ w ∈ wsX40, w ∈ wsL_full := (fun _ h => List.mem_cons_of_mem _ (List.mem_append_left _ (List.mem_append_left _ (List.mem_append_left _ (List.mem_append_left _ (List.mem_append_left _ (List.mem_append_right _ h)))))))
  have hin_X1 : ∀ w ∈ wsX10, w ∈ wsL_full := (fun _ h => List.mem_cons_of_mem _ (List.mem_append_left _ (List.mem_append_left _ (List.mem_append_left _ (List.mem_append_left _ (List.mem_append_right _ h))))))
  have hin_X2 : ∀ w ∈ wsX20, w ∈ wsL_full := (fun _ h => List.mem_cons_of_mem _ (List.mem_append_left _ (List.mem_append_left _ (List.mem_append_left _ (List.mem_append_right _ h)))))
  have hin_X0 : ∀ w ∈ wsX00, w ∈ wsL_full := (fun _ h => List.mem_cons_of_mem _ (List.mem_append_left _ (List.mem_append_left _ (List.mem_append_right _ h))))
  have hin_X3 : ∀ w ∈ wsX30, w ∈ wsL_full := (fun _ h => List.mem_cons_of_mem _ (List.mem_append_left _ (List.mem_append_right _ h)))
  refine fmV_aload_n (pc := 0) (i := 2) F dL_full_0 rfl rfl ?_
  refine fmV_iconst (pc := 1) (v := 0) F dL_full_1 rfl ?_
  refine fmV_aload_n (pc := 2) (i := 0) F dL_full_2 rfl rfl ?_
  refine fmV_iload_n (pc := 3) (i := 1) F dL_full_3 rfl rfl ?_
  refine fmV_xVi (n := 1) (pc := 4) F hX hM gL_full_X4_full rfl rfl rfl (by decide +kernel) ⟨Nat.le_of_ble_eq_true rfl, Nat.le_of_ble_eq_true rfl⟩ (fmR_0 F ) rfl rfl (Nat.le_of_ble_eq_true rfl) dL_full_4 ⟨Nat.le_of_ble_eq_true rfl, Nat.le_of_ble_eq_true rfl⟩ (fun E9 u9 hE9 ce9 q9 H9 locs9 ls9 hP9 hS9 hl8 hce9 hcv9 hcl9 => ?_) (fun r u hc => ?_)
  · have h9 := hpx E9 u9 hE9
    subst h9
    refine fm_catch F hP9 hS9 hl8 hce9 hcv9 hcl9 [] ⟨0, 9, 12, 21⟩ [] (by rw [htb]; rfl) (fm_pass0) (by decide) (by decide) (name := "java/lang/IndexOutOfBoundsException") (List.mem_of_getElem? (i := 1) rfl) (hX.2.2.2.2.2.1 _ (List.mem_of_getElem? (i := 0) rfl)) ?_
    refine fmV_astore_n (pc := 12) (i := 3) F dL_full_12 rfl (by decide) ?_
    refine fmV_iconst (pc := 13) (v := 1) F dL_full_13 rfl ?_
    refine fmV_widen (k := 1) (n := 6) (Nat.le_of_ble_eq_true rfl) (Nat.le_of_ble_eq_true rfl) ?_
    refine fmV_xr ?_
    exact fmV_iret2 (pc := 14) F dL_full_14 rfl (Or.inr ⟨_, hE9, rfl, Or.inl ⟨rfl, rfl⟩⟩)
  refine fmV_i2l (pc := 7) F dL_full_7 rfl ?_
  refine fmV_last (pc := 8) F dL_full_8 (vp_in_nI (show 0 < 1 by decide) (by decide)) (show (0 : Int32).toNatClampNeg = 0 by decide) ?_
  refine fmV_goto (pc := 9) (tgt := 15) F dL_full_9 (by decide) ?_
  refine fmV_iconst (pc := 15) (v := 0) F dL_full_15 rfl ?_
  refine fmV_widen (k := 1) (n := 6) (Nat.le_of_ble_eq_true rfl) (Nat.le_of_ble_eq_true rfl) ?_
  refine fmV_xr ?_
  exact fmV_iret2 (pc := 16) F dL_full_16 rfl (Or.inl ⟨rfl, r, hc, rfl⟩)

set_option maxHeartbeats 4000000 in
set_option maxRecDepth 100000 in
theorem c_L_gone (l : Launch) (D : va_G) (A : Nat → Prop) (G : fmG) (σ : fmS) (o : Nat → Int64) (x : Int32) {post : Int32 → fmS → Prop} {px : String → fmS → Prop} (hM : fmXi l D A G yX4_gone wsX4_gone (fmRm 7 1 6) 1 6 [.ref (G.1 0 0 0), .int x] σ o post px) (hpx : ∀ E u, px E u → E = "java/lang/IndexOutOfBoundsException") : fmLi l D A G yL_gone wsL_gone (fmRm 8 1 6) 1 6 [.ref (G.1 0 0 0), .int x, .ref (G.1 34 0 0)] σ o (fun k z => (k = 0 ∧ ∃ r, post r z.1 ∧ z.2 = vp_updL o 0 r.toInt64) ∨ ∃ E, px E z.1 ∧ z.2 = o ∧ fmCode [("java/lang/IndexOutOfBoundsException", 1)] E k) := by
  refine fmLi_of (cc := cL_gone) (maxL := 4) (ret := (some .int)) (hh := [(0, 9, 12, 21)]) (by decide +kernel) rfl (Nat.le_of_ble_eq_true rfl) ?_
  intro P_ E_ S_ M_ args_ below_ meth_ C_ F hX htb
  have hin_X4 : ∀ w ∈ wsX40, w ∈ wsL_gone := (fun _ h => List.mem_cons_of_mem _ (List.mem_append_left _ (List.mem_append_left _ (List.mem_append_left _ (List.mem_append_left _ (List.mem_append_left _ (List.mem_append_right _ h)))))))
  have hin_X1 : ∀ w ∈ wsX10, w ∈ wsL_gone := (fun _ h => List.mem_cons_of_mem _ (List.mem_append_left _ (List.mem_append_left _ (List.mem_append_left _ (List.mem_append_left _ (List.mem_append_right _ h))))))
  have hin_X2 : ∀ w ∈ wsX20, w ∈ wsL_gone := (fun _ h => List.mem_cons_of_mem _ (List.mem_append_left _ (List.mem_append_left _ (List.mem_append_left _ (List.mem_append_right _ h)))))
  have hin_X0 : ∀ w ∈ wsX00, w ∈ wsL_gone := (fun _ h => List.mem_cons_of_mem _ (List.mem_append_left _ (List.mem_append_left _ (List.mem_append_right _ h))))
  have hin_X3 : ∀ w ∈ wsX30, w ∈ wsL_gone := (fun _ h => List.mem_cons_of_mem _ (List.mem_append_left _ (List.mem_append_right _ h)))
  refine fmV_aload_n (pc := 0) (i := 2) F dL_gone_0 rfl rfl ?_
  refine fmV_iconst (pc := 1) (v := 0) F dL_gone_1 rfl ?_
  refine fmV_aload_n (pc := 2) (i := 0) F dL_gone_2 rfl rfl ?_
  refine fmV_iload_n (pc := 3) (i := 1) F dL_gone_3 rfl rfl ?_
  refine fmV_xVi (n := 1) (pc := 4) F hX hM gL_gone_X4_gone rfl rfl rfl (by decide +kernel) ⟨Nat.le_of_ble_eq_true rfl, Nat.le_of_ble_eq_true rfl⟩ (fmR_0 F ) rfl rfl (Nat.le_of_ble_eq_true rfl) dL_gone_4 ⟨Nat.le_of_ble_eq_true rfl, Nat.le_of_ble_eq_true rfl⟩ (fun E9 u9 hE9 ce9 q9 H9 locs9 ls9 hP9 hS9 hl8 hce9 hcv9 hcl9 => ?_) (fun r u hc => ?_)
  · have h9 := hpx E9 u9 hE9
    subst h9
    refine fm_catch F hP9 hS9 hl8 hce9 hcv9 hcl9 [] ⟨0, 9, 12, 21⟩ [] (by rw [htb]; rfl) (fm_pass0) (by decide) (by decide) (name := "java/lang/IndexOutOfBoundsException") (List.mem_of_getElem? (i := 1) rfl) (hX.2.2.2.2.2.1 _ (List.mem_of_getElem? (i := 0) rfl)) ?_
    refine fmV_astore_n (pc := 12) (i := 3) F dL_gone_12 rfl (by decide) ?_
    refine fmV_iconst (pc := 13) (v := 1) F dL_gone_13 rfl ?_
    refine fmV_widen (k := 1) (n := 6) (Nat.le_of_ble_eq_true rfl) (Nat.le_of_ble_eq_true rfl) ?_
    refine fmV_xr ?_
    exact fmV_iret2 (pc := 14) F dL_gone_14 rfl (Or.inr ⟨_, hE9, rfl, Or.inl ⟨rfl, rfl⟩⟩)
  refine fmV_i2l (pc := 7) F dL_gone_7 rfl ?_
  refine fmV_last (pc := 8) F dL_gone_8 (vp_in_nI (show 0 < 1 by decide) (by decide)) (show (0 : Int32).toNatClampNeg = 0 by decide) ?_
  refine fmV_goto (pc := 9) (tgt := 15) F dL_gone_9 (by decide) ?_
  refine fmV_iconst (pc := 15) (v := 0) F dL_gone_15 rfl ?_
  refine fmV_widen (k := 1) (n := 6) (Nat.le_of_ble_eq_true rfl) (Nat.le_of_ble_eq_true rfl) ?_
  refine fmV_xr ?_
  exact fmV_iret2 (pc := 16) F dL_gone_16 rfl (Or.inl ⟨rfl, r, hc, rfl⟩)

set_option maxHeartbeats 4000000 in
set_option maxRecDepth 100000 in
theorem c_L_advise (l : Launch) (D : va_G) (A : Nat → Prop) (G : fmG) (σ : fmS) (o : Nat → Int64) (x y : Int32) {post : Int32 → fmS → Prop} {px : String → fmS → Prop} (hM : fmXi l D A G yX4_advise wsX4_advise (fmRm 7 3 18) 3 18 [.ref (G.1 0 0 0), .int x, .int y] σ o post px) (hpx : ∀ E u, px E u → E = "java/lang/IndexOutOfBoundsException" ∨ E = "java/lang/IllegalArgumentException" ∨ E = "java/lang/IllegalStateException") : fmLi l D A G yL_advise wsL_advise (fmRm 8 3 18) 3 18 [.ref (G.1 0 0 0), .int x, .int y, .ref (G.1 34 0 0)] σ o (fun k z => (k = 0 ∧ ∃ r, post r z.1 ∧ z.2 = vp_updL o 0 r.toInt64) ∨ ∃ E, px E z.1 ∧ z.2 = o ∧ fmCode [("java/lang/IndexOutOfBoundsException", 1), ("java/lang/IllegalArgumentException", 2), ("java/lang/IllegalStateException", 3)] E k) := by
  refine fmLi_of (cc := cL_advise) (maxL := 5) (ret := (some .int)) (hh := [(0, 10, 13, 21), (0, 10, 17, 13), (0, 10, 21, 15)]) (by decide +kernel) rfl (Nat.le_of_ble_eq_true rfl) ?_
  intro P_ E_ S_ M_ args_ below_ meth_ C_ F hX htb
  have hin_X4 : ∀ w ∈ wsX40, w ∈ wsL_advise := (fun _ h => List.mem_cons_of_mem _ (List.mem_append_left _ (List.mem_append_left _ (List.mem_append_left _ (List.mem_append_left _ (List.mem_append_left _ (List.mem_append_left _ (List.mem_append_left _ (List.mem_append_right _ h)))))))))
  have hin_X1 : ∀ w ∈ wsX10, w ∈ wsL_advise := (fun _ h => List.mem_cons_of_mem _ (List.mem_append_left _ (List.mem_append_left _ (List.mem_append_left _ (List.mem_append_left _ (List.mem_append_left _ (List.mem_append_left _ (List.mem_append_right _ h))))))))
  have hin_X0 : ∀ w ∈ wsX00, w ∈ wsL_advise := (fun _ h => List.mem_cons_of_mem _ (List.mem_append_left _ (List.mem_append_left _ (List.mem_append_left _ (List.mem_append_left _ (List.mem_append_left _ (List.mem_append_right _ h)))))))
  have hin_X2 : ∀ w ∈ wsX20, w ∈ wsL_advise := (fun _ h => List.mem_cons_of_mem _ (List.mem_append_left _ (List.mem_append_left _ (List.mem_append_left _ (List.mem_append_left _ (List.mem_append_right _ h))))))
  have hin_X3 : ∀ w ∈ wsX30, w ∈ wsL_advise := (fun _ h => List.mem_cons_of_mem _ (List.mem_append_left _ (List.mem_append_left _ (List.mem_append_left _ (List.mem_append_right _ h)))))
  refine fmV_aload_n (pc := 0) (i := 3) F dL_advise_0 rfl rfl ?_
  refine fmV_iconst (pc := 1) (v := 0) F dL_advise_1 rfl ?_
  refine fmV_aload_n (pc := 2) (i := 0) F dL_advise_2 rfl rfl ?_
  refine fmV_iload_n (pc := 3) (i := 1) F dL_advise_3 rfl rfl ?_
  refine fmV_iload_n (pc := 4) (i := 2) F dL_advise_4 rfl rfl ?_
  refine fmV_xVi (n := 2) (pc := 5) F hX hM gL_advise_X4_advise rfl rfl rfl (by decide +kernel) ⟨Nat.le_of_ble_eq_true rfl, Nat.le_of_ble_eq_true rfl⟩ (fmR_0 F ) rfl rfl (Nat.le_of_ble_eq_true rfl) dL_advise_5 ⟨Nat.le_of_ble_eq_true rfl, Nat.le_of_ble_eq_true rfl⟩ (fun E9 u9 hE9 ce9 q9 H9 locs9 ls9 hP9 hS9 hl8 hce9 hcv9 hcl9 => ?_) (fun r u hc => ?_)
  · have h9 := hpx E9 u9 hE9
    rcases h9 with rfl | rfl | rfl
    · refine fm_catch F hP9 hS9 hl8 hce9 hcv9 hcl9 [] ⟨0, 10, 13, 21⟩ [⟨0, 10, 17, 13⟩, ⟨0, 10, 21, 15⟩] (by rw [htb]; rfl) (fm_pass0) (by decide) (by decide) (name := "java/lang/IndexOutOfBoundsException") (List.mem_of_getElem? (i := 1) rfl) (hX.2.2.2.2.2.1 _ (List.mem_of_getElem? (i := 0) rfl)) ?_
      refine fmV_astore (pc := 13) (i := 4) F dL_advise_13 (by decide) ?_
      refine fmV_iconst (pc := 15) (v := 1) F dL_advise_15 rfl ?_
      refine fmV_widen (k := 3) (n := 18) (Nat.le_of_ble_eq_true rfl) (Nat.le_of_ble_eq_true rfl) ?_
      refine fmV_xr ?_
      exact fmV_iret2 (pc := 16) F dL_advise_16 rfl (Or.inr ⟨_, hE9, rfl, Or.inl ⟨rfl, rfl⟩⟩)
    · refine fm_catch F hP9 hS9 hl8 hce9 hcv9 hcl9 [⟨0, 10, 13, 21⟩] ⟨0, 10, 17, 13⟩ [⟨0, 10, 21, 15⟩] (by rw [htb]; rfl) (fm_pass1 (Or.inr ⟨by decide, _, F.2.2.2.2.2.1 _ (List.mem_of_getElem? (i := 1) rfl), hX.2.2.2.2.2.2.1⟩)) (by decide) (by decide) (name := "java/lang/IllegalArgumentException") (List.mem_of_getElem? (i := 2) rfl) (hX.2.2.2.2.2.1 _ (List.mem_of_getElem? (i := 1) rfl)) ?_
      refine fmV_astore (pc := 17) (i := 4) F dL_advise_17 (by decide) ?_
      refine fmV_iconst (pc := 19) (v := 2) F dL_advise_19 rfl ?_
      refine fmV_widen (k := 3) (n := 18) (Nat.le_of_ble_eq_true rfl) (Nat.le_of_ble_eq_true rfl) ?_
      refine fmV_xr ?_
      exact fmV_iret2 (pc := 20) F dL_advise_20 rfl (Or.inr ⟨_, hE9, rfl, Or.inr (Or.inl ⟨rfl, rfl⟩)⟩)
    · refine fm_catch F hP9 hS9 hl8 hce9 hcv9 hcl9 [⟨0, 10, 13, 21⟩, ⟨0, 10, 17, 13⟩] ⟨0, 10, 21, 15⟩ [] (by rw [htb]; rfl) (fm_pass2 (Or.inr ⟨by decide, _, F.2.2.2.2.2.1 _ (List.mem_of_getElem? (i := 1) rfl), hX.2.2.2.2.2.2.2.1⟩) (Or.inr ⟨by decide, _, F.2.2.2.2.2.1 _ (List.mem_of_getElem? (i := 2) rfl), hX.2.2.2.2.2.2.2.2⟩)) (by decide) (by decide) (name := "java/lang/IllegalStateException") (List.mem_of_getElem? (i := 3) rfl) (hX.2.2.2.2.2.1 _ (List.mem_of_getElem? (i := 2) rfl)) ?_
      refine fmV_astore (pc := 21) (i := 4) F dL_advise_21 (by decide) ?_
      refine fmV_iconst (pc := 23) (v := 3) F dL_advise_23 rfl ?_
      refine fmV_widen (k := 3) (n := 18) (Nat.le_of_ble_eq_true rfl) (Nat.le_of_ble_eq_true rfl) ?_
      refine fmV_xr ?_
      exact fmV_iret2 (pc := 24) F dL_advise_24 rfl (Or.inr ⟨_, hE9, rfl, Or.inr (Or.inr (Or.inl ⟨rfl, rfl⟩))⟩)
  refine fmV_i2l (pc := 8) F dL_advise_8 rfl ?_
  refine fmV_last (pc := 9) F dL_advise_9 (vp_in_nI (show 0 < 1 by decide) (by decide)) (show (0 : Int32).toNatClampNeg = 0 by decide) ?_
  refine fmV_goto (pc := 10) (tgt := 25) F dL_advise_10 (by decide) ?_
  refine fmV_iconst (pc := 25) (v := 0) F dL_advise_25 rfl ?_
  refine fmV_widen (k := 3) (n := 18) (Nat.le_of_ble_eq_true rfl) (Nat.le_of_ble_eq_true rfl) ?_
  refine fmV_xr ?_
  exact fmV_iret2 (pc := 26) F dL_advise_26 rfl (Or.inl ⟨rfl, r, hc, rfl⟩)

set_option maxHeartbeats 4000000 in
set_option maxRecDepth 100000 in
theorem c_L_price (l : Launch) (D : va_G) (A : Nat → Prop) (G : fmG) (σ : fmS) (o : Nat → Int64) (x y z : Int32) {post : Int32 → fmS → Prop} {px : String → fmS → Prop} (hM : fmXi l D A G yX4_price wsX4_price (fmRm 7 3 18) 3 18 [.ref (G.1 0 0 0), .int x, .int y, .int z] σ o post px) (hpx : ∀ E u, px E u → E = "java/lang/IndexOutOfBoundsException" ∨ E = "java/lang/IllegalArgumentException") : fmLi l D A G yL_price wsL_price (fmRm 8 3 18) 3 18 [.ref (G.1 0 0 0), .int x, .int y, .int z, .ref (G.1 34 0 0)] σ o (fun k z => (k = 0 ∧ ∃ r, post r z.1 ∧ z.2 = vp_updL o 0 r.toInt64) ∨ ∃ E, px E z.1 ∧ z.2 = o ∧ fmCode [("java/lang/IndexOutOfBoundsException", 1), ("java/lang/IllegalArgumentException", 2)] E k) := by
  refine fmLi_of (cc := cL_price) (maxL := 6) (ret := (some .int)) (hh := [(0, 12, 15, 21), (0, 12, 19, 13)]) (by decide +kernel) rfl (Nat.le_of_ble_eq_true rfl) ?_
  intro P_ E_ S_ M_ args_ below_ meth_ C_ F hX htb
  have hin_X4 : ∀ w ∈ wsX40, w ∈ wsL_price := (fun _ h => List.mem_cons_of_mem _ (List.mem_append_left _ (List.mem_append_left _ (List.mem_append_left _ (List.mem_append_left _ (List.mem_append_left _ (List.mem_append_left _ (List.mem_append_right _ h))))))))
  have hin_X1 : ∀ w ∈ wsX10, w ∈ wsL_price := (fun _ h => List.mem_cons_of_mem _ (List.mem_append_left _ (List.mem_append_left _ (List.mem_append_left _ (List.mem_append_left _ (List.mem_append_left _ (List.mem_append_right _ h)))))))
  have hin_X0 : ∀ w ∈ wsX00, w ∈ wsL_price := (fun _ h => List.mem_cons_of_mem _ (List.mem_append_left _ (List.mem_append_left _ (List.mem_append_left _ (List.mem_append_left _ (List.mem_append_right _ h))))))
  have hin_X2 : ∀ w ∈ wsX20, w ∈ wsL_price := (fun _ h => List.mem_cons_of_mem _ (List.mem_append_left _ (List.mem_append_left _ (List.mem_append_left _ (List.mem_append_right _ h)))))
  have hin_X3 : ∀ w ∈ wsX30, w ∈ wsL_price := (fun _ h => List.mem_cons_of_mem _ (List.mem_append_left _ (List.mem_append_left _ (List.mem_append_right _ h))))
  refine fmV_aload (pc := 0) (i := 4) F dL_price_0 rfl ?_
  refine fmV_iconst (pc := 2) (v := 0) F dL_price_2 rfl ?_
  refine fmV_aload_n (pc := 3) (i := 0) F dL_price_3 rfl rfl ?_
  refine fmV_iload_n (pc := 4) (i := 1) F dL_price_4 rfl rfl ?_
  refine fmV_iload_n (pc := 5) (i := 2) F dL_price_5 rfl rfl ?_
  refine fmV_iload_n (pc := 6) (i := 3) F dL_price_6 rfl rfl ?_
  refine fmV_xVi (n := 3) (pc := 7) F hX hM gL_price_X4_price rfl rfl rfl (by decide +kernel) ⟨Nat.le_of_ble_eq_true rfl, Nat.le_of_ble_eq_true rfl⟩ (fmR_0 F ) rfl rfl (Nat.le_of_ble_eq_true rfl) dL_price_7 ⟨Nat.le_of_ble_eq_true rfl, Nat.le_of_ble_eq_true rfl⟩ (fun E9 u9 hE9 ce9 q9 H9 locs9 ls9 hP9 hS9 hl8 hce9 hcv9 hcl9 => ?_) (fun r u hc => ?_)
  · have h9 := hpx E9 u9 hE9
    rcases h9 with rfl | rfl
    · refine fm_catch F hP9 hS9 hl8 hce9 hcv9 hcl9 [] ⟨0, 12, 15, 21⟩ [⟨0, 12, 19, 13⟩] (by rw [htb]; rfl) (fm_pass0) (by decide) (by decide) (name := "java/lang/IndexOutOfBoundsException") (List.mem_of_getElem? (i := 1) rfl) (hX.2.2.2.2.2.1 _ (List.mem_of_getElem? (i := 0) rfl)) ?_
      refine fmV_astore (pc := 15) (i := 5) F dL_price_15 (by decide) ?_
      refine fmV_iconst (pc := 17) (v := 1) F dL_price_17 rfl ?_
      refine fmV_widen (k := 3) (n := 18) (Nat.le_of_ble_eq_true rfl) (Nat.le_of_ble_eq_true rfl) ?_
      refine fmV_xr ?_
      exact fmV_iret2 (pc := 18) F dL_price_18 rfl (Or.inr ⟨_, hE9, rfl, Or.inl ⟨rfl, rfl⟩⟩)
    · refine fm_catch F hP9 hS9 hl8 hce9 hcv9 hcl9 [⟨0, 12, 15, 21⟩] ⟨0, 12, 19, 13⟩ [] (by rw [htb]; rfl) (fm_pass1 (Or.inr ⟨by decide, _, F.2.2.2.2.2.1 _ (List.mem_of_getElem? (i := 1) rfl), hX.2.2.2.2.2.2.1⟩)) (by decide) (by decide) (name := "java/lang/IllegalArgumentException") (List.mem_of_getElem? (i := 2) rfl) (hX.2.2.2.2.2.1 _ (List.mem_of_getElem? (i := 1) rfl)) ?_
      refine fmV_astore (pc := 19) (i := 5) F dL_price_19 (by decide) ?_
      refine fmV_iconst (pc := 21) (v := 2) F dL_price_21 rfl ?_
      refine fmV_widen (k := 3) (n := 18) (Nat.le_of_ble_eq_true rfl) (Nat.le_of_ble_eq_true rfl) ?_
      refine fmV_xr ?_
      exact fmV_iret2 (pc := 22) F dL_price_22 rfl (Or.inr ⟨_, hE9, rfl, Or.inr (Or.inl ⟨rfl, rfl⟩)⟩)
  refine fmV_i2l (pc := 10) F dL_price_10 rfl ?_
  refine fmV_last (pc := 11) F dL_price_11 (vp_in_nI (show 0 < 1 by decide) (by decide)) (show (0 : Int32).toNatClampNeg = 0 by decide) ?_
  refine fmV_goto (pc := 12) (tgt := 23) F dL_price_12 (by decide) ?_
  refine fmV_iconst (pc := 23) (v := 0) F dL_price_23 rfl ?_
  refine fmV_widen (k := 3) (n := 18) (Nat.le_of_ble_eq_true rfl) (Nat.le_of_ble_eq_true rfl) ?_
  refine fmV_xr ?_
  exact fmV_iret2 (pc := 24) F dL_price_24 rfl (Or.inl ⟨rfl, r, hc, rfl⟩)
