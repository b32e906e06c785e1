set_option maxHeartbeats 4000000 in
theorem op_besideI {rc cc t : Nat} {σ : fmS} {o : Nat → Int64} (I : rI rc cc t σ) (hts : t + 200 ≤ 200000) (x y : Int32) {k : Int32} {z9 : fmS × (Nat → Int64)} (h : (k = 0 ∧ ∃ r : Int32, (fun (r : Int32) u => fmNo [("java/lang/IndexOutOfBoundsException", x < 0 ∨ σ 41 0 0 0 ≤ x), ("java/lang/IndexOutOfBoundsException", y < 0 ∨ σ 41 0 0 0 ≤ y)] ∧ r = (if fmBes σ 0 x.toNatClampNeg y.toNatClampNeg then 1 else 0) ∧ u = σ) r z9.1 ∧ z9.2 = vp_updL o 0 (if r = 0 then 0 else 1)) ∨ ∃ E, (fun E u => u = σ ∧ fmFirst [("java/lang/IndexOutOfBoundsException", x < 0 ∨ σ 41 0 0 0 ≤ x), ("java/lang/IndexOutOfBoundsException", y < 0 ∨ σ 41 0 0 0 ≤ y)] E) E z9.1 ∧ z9.2 = o ∧ fmCode [("java/lang/IndexOutOfBoundsException", 1)] E k) : mK σ z9.1 ∧ ∀ (b9 : Int32) (u9 : fmS), (fun r u => gRes (gz z9.1) (r = (if gBes (gz z9.1) 0 x.toNatClampNeg y.toNatClampNeg then 1 else 0) ∧ u = (gz z9.1)) r u [(1, (x < 0 ∨ nI cc ≤ x) ∨ (y < 0 ∨ nI cc ≤ y))]) b9 u9 → rEnd (t + 200) k z9.2 (if b9 = 0 then 0 else 1) u9 := by
  refine op_beside (o := o) I hts x y (k := k) (z9 := z9) ?_
  rcases h with ⟨h1, r, ⟨h2, h3, h4⟩, h5⟩ | h
  · refine Or.inl ⟨h1, if fmBes σ 0 x.toNatClampNeg y.toNatClampNeg then 1 else 0, ⟨h2, rfl, h4⟩, ?_⟩
    rw [h5, h3]
    by_cases e : fmBes σ 0 x.toNatClampNeg y.toNatClampNeg
    · rw [if_pos e, if_pos e]; rfl
    · rw [if_neg e, if_neg e]; rfl
  · exact Or.inr h

set_option maxHeartbeats 4000000 in
set_option maxRecDepth 100000 in
theorem law_canoe {p : Program} {l : Launch} {e : Env} {s : State} {m : MethodId} {below : List Frame} {meth : Method} {c : Code} {b L : Nat} {xs : Nat → Int32} {D : va_G} {A : Nat → Prop} {G : fmG} (F : fmF p s m #[Value.ref b] meth c D A G RL code 9 ret wsL_law) (hX : fmX A s) (hl9 : l.stackTraces = false) (hG : G.1 36 0 0 = 0) (hXs : va_X b L xs s s.heap) (hbl : b < s.heap.size) (hbA : ¬ A b) (hL : L ≤ 3072) {j : Nat} (hj : 6 * j + 6 ≤ L) {rc cc t : Nat} {σ : fmS} {o : Nat → Int64} (I : rI rc cc t σ) (ht : t ≤ 200 * j) (next : ∀ (rc cc t : Nat) (σ : fmS) (o : Nat → Int64), rI rc cc t σ → t ≤ 200 * (j + 1) → fmV p l e room_1 s m #[Value.ref b] below meth c D A G 9 o (lw_Z below #[Value.ref b] s) σ (200 + 170 * (j + 1)) (1800 + 1850 * (j + 1)) [(0, .ref b), (1, .ref (G.1 0 0 0)), (2, .ref (G.1 14 0 0)), (3, .ref (G.1 34 0 0)), (4, .int (nI (6 * (j + 1))))] [] 23) : fmV p l e room_1 s m #[Value.ref b] below meth c D A G 9 o (lw_Z below #[Value.ref b] s) σ (200 + 170 * j) (1800 + 1850 * j) [(0, .ref b), (1, .ref (G.1 0 0 0)), (2, .ref (G.1 14 0 0)), (3, .ref (G.1 34 0 0)), (4, .int (nI (6 * j)))] [] 720 := by
  have hgz := I.1.1
  obtain ⟨⟨hrc, hcc, -, -, -, -⟩, -⟩ := id hgz
  refine fmV_aload_n (pc := 720) (i := 1) F dL_law_720 rfl rfl ?_
  refine fmV_aload_n (pc := 721) (i := 0) F dL_law_721 rfl rfl ?_
  refine fmV_iload (pc := 722) (i := 4) F dL_law_722 rfl ?_
  refine fmV_iconst (pc := 724) (v := 1) F dL_law_724 rfl ?_
  refine fmV_iadd (pc := 725) F dL_law_725 ?_
  refine fmV_sld (pc := 726) F hXs hbl hbA dL_law_726 (fm_in (nI_add (6 * j) 1) (by omega) (by omega)) (fm_cl (nI_add (6 * j) 1) (by omega)) ?_
  refine fmV_aload_n (pc := 727) (i := 0) F dL_law_727 rfl rfl ?_
  refine fmV_iload (pc := 728) (i := 4) F dL_law_728 rfl ?_
  refine fmV_iconst (pc := 730) (v := 2) F dL_law_730 rfl ?_
  refine fmV_iadd (pc := 731) F dL_law_731 ?_
  refine fmV_sld (pc := 732) F hXs hbl hbA dL_law_732 (fm_in (nI_add (6 * j) 2) (by omega) (by omega)) (fm_cl (nI_add (6 * j) 2) (by omega)) ?_
  refine fmV_aload_n (pc := 733) (i := 3) F dL_law_733 rfl rfl ?_
  refine fmV_lSi (n := 4) (pc := 734) F hX (c_L_canoe l D A G σ o (xs (6 * j + 1)) (xs (6 * j + 2)) (c_X4_canoe l D A G σ o hl9 hgz (xs (6 * j + 1)) (xs (6 * j + 2))) (fun E9 u9 h9 => by
      rcases fmFirst_in h9.2 with rfl | rfl | h9
      · exact rfl
      · exact rfl
      · exact h9.elim)) gL_law_L_canoe rfl rfl rfl (by decide +kernel) ⟨Nat.le_of_ble_eq_true rfl, Nat.le_of_ble_eq_true rfl⟩ rfl rfl (Nat.le_of_ble_eq_true rfl) dL_law_734 ⟨by show _ ≤ 601024; omega, by show _ ≤ 7293034; omega⟩ (fun k9 z9 hk9 => ?_)
  obtain ⟨hm9, hop⟩ := op_canoe I (by omega) (xs (6 * j + 1)) (xs (6 * j + 2)) hk9
  have g63 : z9.1 63 0 0 0 = nI cc := by rw [hm9 63 0 0 (by decide)]; exact I.2.1.2.1
  have g62 : z9.1 62 0 0 0 = nI rc := by rw [hm9 62 0 0 (by decide)]; exact I.2.1.1
  have g64 : z9.1 64 0 0 0 = nI t := by rw [hm9 64 0 0 (by decide)]; exact I.2.1.2.2
  refine fmV_istore (pc := 737) (i := 5) F dL_law_737 (by decide) ?_
  refine fmV_aload_n (pc := 739) (i := 2) F dL_law_739 rfl rfl ?_
  refine fmV_aload_n (pc := 740) (i := 0) F dL_law_740 rfl rfl ?_
  refine fmV_iload (pc := 741) (i := 4) F dL_law_741 rfl ?_
  refine fmV_iconst (pc := 743) (v := 1) F dL_law_743 rfl ?_
  refine fmV_iadd (pc := 744) F dL_law_744 ?_
  refine fmV_sld (pc := 745) F hXs hbl hbA dL_law_745 (fm_in (nI_add (6 * j) 1) (by omega) (by omega)) (fm_cl (nI_add (6 * j) 1) (by omega)) ?_
  refine fmV_aload_n (pc := 746) (i := 0) F dL_law_746 rfl rfl ?_
  refine fmV_iload (pc := 747) (i := 4) F dL_law_747 rfl ?_
  refine fmV_iconst (pc := 749) (v := 2) F dL_law_749 rfl ?_
  refine fmV_iadd (pc := 750) F dL_law_750 ?_
  refine fmV_sld (pc := 751) F hXs hbl hbA dL_law_751 (fm_in (nI_add (6 * j) 2) (by omega) (by omega)) (fm_cl (nI_add (6 * j) 2) (by omega)) ?_
  refine fmV_xVi (n := 2) (pc := 752) F hX (c_X6_canoe l D A G z9.1 z9.2 hcc g63 hrc g62 (by omega) g64 hG (xs (6 * j + 1)) (xs (6 * j + 2))) gL_law_X6_canoe rfl rfl rfl (by decide +kernel) ⟨Nat.le_of_ble_eq_true rfl, Nat.le_of_ble_eq_true rfl⟩ (fmR_14 F) rfl rfl (Nat.le_of_ble_eq_true rfl) dL_law_752 ⟨by show _ ≤ 601024; omega, by show _ ≤ 7293034; omega⟩ (fun _ _ h9 => False.elim h9) (fun b9 u9 hb9 => ?_)
  obtain ⟨⟨rc2, cc2, t2, ht2, I2⟩, h61, hout⟩ := hop b9 u9 hb9
  refine fmV_istore (pc := 755) (i := 6) F dL_law_755 (by decide) ?_
  refine fmV_aload_n (pc := 757) (i := 2) F dL_law_757 rfl rfl ?_
  refine fmV_xVi (n := 0) (pc := 758) F hX (c_X6_thrown l D A G u9 z9.2) gL_law_X6_thrown rfl rfl rfl (by decide +kernel) ⟨Nat.le_of_ble_eq_true rfl, Nat.le_of_ble_eq_true rfl⟩ (fmR_14 F) rfl rfl (Nat.le_of_ble_eq_true rfl) dL_law_758 ⟨by show _ ≤ 601024; omega, by show _ ≤ 7293034; omega⟩ (fun _ _ h9 => False.elim h9) (fun r8 u8 hc8 => ?_)
  obtain ⟨hr8, hu8⟩ := hc8
  have hr8 := hr8.symm
  have hu8 := hu8.symm
  subst hr8
  subst hu8
  refine fmV_iload (pc := 761) (i := 5) F dL_law_761 rfl ?_
  refine fmV_icmp_eq (pc := 763) (tgt := 768) F dL_law_763 (by decide) (fun h9 => ?_) (fun h9 => ?_)
  · refine fmV_iload (pc := 768) (i := 5) F dL_law_768 rfl ?_
    refine fmV_if_ne (pc := 770) (tgt := 785) F dL_law_770 (by decide) (fun h8 => ?_) (fun h8 => ?_)
    · refine fmV_goto (pc := 785) (tgt := 1518) F dL_law_785 (by decide) ?_
      refine fmV_iinc (pc := 1518) (i := 4) (v := nI (6 * (j + 1))) F dL_law_1518 rfl (nI_add (6 * j) 6) (by decide) ?_
      refine fmV_goto (pc := 1521) (tgt := 23) F dL_law_1521 (by decide) ?_
      refine fmV_widen (k := 200 + 170 * (j + 1)) (n := 1800 + 1850 * (j + 1)) (by omega) (by omega) ?_
      refine fmV_lv ?_ (next rc2 cc2 t2 _ z9.2 I2 (by omega))
      exact ⟨rfl, rfl, rfl, rfl, rfl, trivial⟩
    · refine fmV_aload_n (pc := 773) (i := 3) F dL_law_773 rfl rfl ?_
      refine fmV_iconst (pc := 774) (v := 0) F dL_law_774 rfl ?_
      refine fmV_lald (pc := 775) F dL_law_775 (vp_in_nI (show 0 < 1 by decide) (by decide)) (show (0 : Int32).toNatClampNeg = 0 by decide) ?_
      refine fmV_iload (pc := 776) (i := 6) F dL_law_776 rfl ?_
      have he9 := hout h8
      refine fmV_i2l (pc := 778) F dL_law_778 rfl ?_
      refine fmV_lcmp (pc := 779) F dL_law_779 ?_
      refine fmV_if_eq (pc := 780) (tgt := 785) F dL_law_780 (by decide) (fun h7 => ?_) (fun h7 => ?_)
      · refine fmV_goto (pc := 785) (tgt := 1518) F dL_law_785 (by decide) ?_
        refine fmV_iinc (pc := 1518) (i := 4) (v := nI (6 * (j + 1))) F dL_law_1518 rfl (nI_add (6 * j) 6) (by decide) ?_
        refine fmV_goto (pc := 1521) (tgt := 23) F dL_law_1521 (by decide) ?_
        refine fmV_widen (k := 200 + 170 * (j + 1)) (n := 1800 + 1850 * (j + 1)) (by omega) (by omega) ?_
        refine fmV_lv ?_ (next rc2 cc2 t2 _ z9.2 I2 (by omega))
        exact ⟨rfl, rfl, rfl, rfl, rfl, trivial⟩
      · exact absurd (by rw [he9]; exact lg_same _) h7
  · exact absurd h61 h9

set_option maxHeartbeats 4000000 in
set_option maxRecDepth 100000 in
theorem law_good {p : Program} {l : Launch} {e : Env} {s : State} {m : MethodId} {below : List Frame} {meth : Method} {c : Code} {b L : Nat} {xs : Nat → Int32} {D : va_G} {A : Nat → Prop} {G : fmG} (F : fmF p s m #[Value.ref b] meth c D A G RL code 9 ret wsL_law) (hX : fmX A s) (hl9 : l.stackTraces = false) (hG : G.1 36 0 0 = 0) (hXs : va_X b L xs s s.heap) (hbl : b < s.heap.size) (hbA : ¬ A b) (hL : L ≤ 3072) {j : Nat} (hj : 6 * j + 6 ≤ L) {rc cc t : Nat} {σ : fmS} {o : Nat → Int64} (I : rI rc cc t σ) (ht : t ≤ 200 * j) (next : ∀ (rc cc t : Nat) (σ : fmS) (o : Nat → Int64), rI rc cc t σ → t ≤ 200 * (j + 1) → fmV p l e room_1 s m #[Value.ref b] below meth c D A G 9 o (lw_Z below #[Value.ref b] s) σ (200 + 170 * (j + 1)) (1800 + 1850 * (j + 1)) [(0, .ref b), (1, .ref (G.1 0 0 0)), (2, .ref (G.1 14 0 0)), (3, .ref (G.1 34 0 0)), (4, .int (nI (6 * (j + 1))))] [] 23) : fmV p l e room_1 s m #[Value.ref b] below meth c D A G 9 o (lw_Z below #[Value.ref b] s) σ (200 + 170 * j) (1800 + 1850 * j) [(0, .ref b), (1, .ref (G.1 0 0 0)), (2, .ref (G.1 14 0 0)), (3, .ref (G.1 34 0 0)), (4, .int (nI (6 * j)))] [] 788 := by
  have hgz := I.1.1
  obtain ⟨⟨hrc, hcc, -, -, -, -⟩, -⟩ := id hgz
  refine fmV_aload_n (pc := 788) (i := 1) F dL_law_788 rfl rfl ?_
  refine fmV_aload_n (pc := 789) (i := 0) F dL_law_789 rfl rfl ?_
  refine fmV_iload (pc := 790) (i := 4) F dL_law_790 rfl ?_
  refine fmV_iconst (pc := 792) (v := 1) F dL_law_792 rfl ?_
  refine fmV_iadd (pc := 793) F dL_law_793 ?_
  refine fmV_sld (pc := 794) F hXs hbl hbA dL_law_794 (fm_in (nI_add (6 * j) 1) (by omega) (by omega)) (fm_cl (nI_add (6 * j) 1) (by omega)) ?_
  refine fmV_aload_n (pc := 795) (i := 0) F dL_law_795 rfl rfl ?_
  refine fmV_iload (pc := 796) (i := 4) F dL_law_796 rfl ?_
  refine fmV_iconst (pc := 798) (v := 2) F dL_law_798 rfl ?_
  refine fmV_iadd (pc := 799) F dL_law_799 ?_
  refine fmV_sld (pc := 800) F hXs hbl hbA dL_law_800 (fm_in (nI_add (6 * j) 2) (by omega) (by omega)) (fm_cl (nI_add (6 * j) 2) (by omega)) ?_
  refine fmV_aload_n (pc := 801) (i := 0) F dL_law_801 rfl rfl ?_
  refine fmV_iload (pc := 802) (i := 4) F dL_law_802 rfl ?_
  refine fmV_iconst (pc := 804) (v := 3) F dL_law_804 rfl ?_
  refine fmV_iadd (pc := 805) F dL_law_805 ?_
  refine fmV_sld (pc := 806) F hXs hbl hbA dL_law_806 (fm_in (nI_add (6 * j) 3) (by omega) (by omega)) (fm_cl (nI_add (6 * j) 3) (by omega)) ?_
  refine fmV_aload_n (pc := 807) (i := 3) F dL_law_807 rfl rfl ?_
  refine fmV_lSi (n := 5) (pc := 808) F hX (c_L_good l D A G σ o (xs (6 * j + 1)) (xs (6 * j + 2)) (xs (6 * j + 3)) (c_X4_good l D A G σ o hl9 hgz (xs (6 * j + 1)) (xs (6 * j + 2)) (xs (6 * j + 3))) (fun E9 u9 h9 => by
      rcases fmFirst_in h9.2 with rfl | rfl | rfl | h9
      · exact rfl
      · exact rfl
      · exact rfl
      · exact h9.elim)) gL_law_L_good rfl rfl rfl (by decide +kernel) ⟨Nat.le_of_ble_eq_true rfl, Nat.le_of_ble_eq_true rfl⟩ rfl rfl (Nat.le_of_ble_eq_true rfl) dL_law_808 ⟨by show _ ≤ 601024; omega, by show _ ≤ 7293034; omega⟩ (fun k9 z9 hk9 => ?_)
  obtain ⟨hm9, hop⟩ := op_good I (by omega) (xs (6 * j + 1)) (xs (6 * j + 2)) (xs (6 * j + 3)) hk9
  have g63 : z9.1 63 0 0 0 = nI cc := by rw [hm9 63 0 0 (by decide)]; exact I.2.1.2.1
  have g62 : z9.1 62 0 0 0 = nI rc := by rw [hm9 62 0 0 (by decide)]; exact I.2.1.1
  have g64 : z9.1 64 0 0 0 = nI t := by rw [hm9 64 0 0 (by decide)]; exact I.2.1.2.2
  refine fmV_istore (pc := 811) (i := 5) F dL_law_811 (by decide) ?_
  refine fmV_aload_n (pc := 813) (i := 2) F dL_law_813 rfl rfl ?_
  refine fmV_aload_n (pc := 814) (i := 0) F dL_law_814 rfl rfl ?_
  refine fmV_iload (pc := 815) (i := 4) F dL_law_815 rfl ?_
  refine fmV_iconst (pc := 817) (v := 1) F dL_law_817 rfl ?_
  refine fmV_iadd (pc := 818) F dL_law_818 ?_
  refine fmV_sld (pc := 819) F hXs hbl hbA dL_law_819 (fm_in (nI_add (6 * j) 1) (by omega) (by omega)) (fm_cl (nI_add (6 * j) 1) (by omega)) ?_
  refine fmV_aload_n (pc := 820) (i := 0) F dL_law_820 rfl rfl ?_
  refine fmV_iload (pc := 821) (i := 4) F dL_law_821 rfl ?_
  refine fmV_iconst (pc := 823) (v := 2) F dL_law_823 rfl ?_
  refine fmV_iadd (pc := 824) F dL_law_824 ?_
  refine fmV_sld (pc := 825) F hXs hbl hbA dL_law_825 (fm_in (nI_add (6 * j) 2) (by omega) (by omega)) (fm_cl (nI_add (6 * j) 2) (by omega)) ?_
  refine fmV_aload_n (pc := 826) (i := 0) F dL_law_826 rfl rfl ?_
  refine fmV_iload (pc := 827) (i := 4) F dL_law_827 rfl ?_
  refine fmV_iconst (pc := 829) (v := 3) F dL_law_829 rfl ?_
  refine fmV_iadd (pc := 830) F dL_law_830 ?_
  refine fmV_sld (pc := 831) F hXs hbl hbA dL_law_831 (fm_in (nI_add (6 * j) 3) (by omega) (by omega)) (fm_cl (nI_add (6 * j) 3) (by omega)) ?_
  refine fmV_xVi (n := 3) (pc := 832) F hX (c_X6_good l D A G z9.1 z9.2 hcc g63 hrc g62 (by omega) g64 (xs (6 * j + 1)) (xs (6 * j + 2)) (xs (6 * j + 3))) gL_law_X6_good rfl rfl rfl (by decide +kernel) ⟨Nat.le_of_ble_eq_true rfl, Nat.le_of_ble_eq_true rfl⟩ (fmR_14 F) rfl rfl (Nat.le_of_ble_eq_true rfl) dL_law_832 ⟨by show _ ≤ 601024; omega, by show _ ≤ 7293034; omega⟩ (fun _ _ h9 => False.elim h9) (fun b9 u9 hb9 => ?_)
  obtain ⟨⟨rc2, cc2, t2, ht2, I2⟩, h61, hout⟩ := hop b9 u9 hb9
  refine fmV_istore (pc := 835) (i := 6) F dL_law_835 (by decide) ?_
  refine fmV_aload_n (pc := 837) (i := 2) F dL_law_837 rfl rfl ?_
  refine fmV_xVi (n := 0) (pc := 838) F hX (c_X6_thrown l D A G u9 z9.2) gL_law_X6_thrown rfl rfl rfl (by decide +kernel) ⟨Nat.le_of_ble_eq_true rfl, Nat.le_of_ble_eq_true rfl⟩ (fmR_14 F) rfl rfl (Nat.le_of_ble_eq_true rfl) dL_law_838 ⟨by show _ ≤ 601024; omega, by show _ ≤ 7293034; omega⟩ (fun _ _ h9 => False.elim h9) (fun r8 u8 hc8 => ?_)
  obtain ⟨hr8, hu8⟩ := hc8
  have hr8 := hr8.symm
  have hu8 := hu8.symm
  subst hr8
  subst hu8
  refine fmV_iload (pc := 841) (i := 5) F dL_law_841 rfl ?_
  refine fmV_icmp_eq (pc := 843) (tgt := 848) F dL_law_843 (by decide) (fun h9 => ?_) (fun h9 => ?_)
  · refine fmV_iload (pc := 848) (i := 5) F dL_law_848 rfl ?_
    refine fmV_if_ne (pc := 850) (tgt := 865) F dL_law_850 (by decide) (fun h8 => ?_) (fun h8 => ?_)
    · refine fmV_goto (pc := 865) (tgt := 1518) F dL_law_865 (by decide) ?_
      refine fmV_iinc (pc := 1518) (i := 4) (v := nI (6 * (j + 1))) F dL_law_1518 rfl (nI_add (6 * j) 6) (by decide) ?_
      refine fmV_goto (pc := 1521) (tgt := 23) F dL_law_1521 (by decide) ?_
      refine fmV_widen (k := 200 + 170 * (j + 1)) (n := 1800 + 1850 * (j + 1)) (by omega) (by omega) ?_
      refine fmV_lv ?_ (next rc2 cc2 t2 _ z9.2 I2 (by omega))
      exact ⟨rfl, rfl, rfl, rfl, rfl, trivial⟩
    · refine fmV_aload_n (pc := 853) (i := 3) F dL_law_853 rfl rfl ?_
      refine fmV_iconst (pc := 854) (v := 0) F dL_law_854 rfl ?_
      refine fmV_lald (pc := 855) F dL_law_855 (vp_in_nI (show 0 < 1 by decide) (by decide)) (show (0 : Int32).toNatClampNeg = 0 by decide) ?_
      refine fmV_iload (pc := 856) (i := 6) F dL_law_856 rfl ?_
      have he9 := hout h8
      refine fmV_i2l (pc := 858) F dL_law_858 rfl ?_
      refine fmV_lcmp (pc := 859) F dL_law_859 ?_
      refine fmV_if_eq (pc := 860) (tgt := 865) F dL_law_860 (by decide) (fun h7 => ?_) (fun h7 => ?_)
      · refine fmV_goto (pc := 865) (tgt := 1518) F dL_law_865 (by decide) ?_
        refine fmV_iinc (pc := 1518) (i := 4) (v := nI (6 * (j + 1))) F dL_law_1518 rfl (nI_add (6 * j) 6) (by decide) ?_
        refine fmV_goto (pc := 1521) (tgt := 23) F dL_law_1521 (by decide) ?_
        refine fmV_widen (k := 200 + 170 * (j + 1)) (n := 1800 + 1850 * (j + 1)) (by omega) (by omega) ?_
        refine fmV_lv ?_ (next rc2 cc2 t2 _ z9.2 I2 (by omega))
        exact ⟨rfl, rfl, rfl, rfl, rfl, trivial⟩
      · exact absurd (by rw [he9]; exact lg_same _) h7
  · exact absurd h61 h9

set_option maxHeartbeats 4000000 in
set_option maxRecDepth 100000 in
theorem law_at {p : Program} {l : Launch} {e : Env} {s : State} {m : MethodId} {below : List Frame} {meth : Method} {c : Code} {b L : Nat} {xs : Nat → Int32} {D : va_G} {A : Nat → Prop} {G : fmG} (F : fmF p s m #[Value.ref b] meth c D A G RL code 9 ret wsL_law) (hX : fmX A s) (hl9 : l.stackTraces = false) (hG : G.1 36 0 0 = 0) (hXs : va_X b L xs s s.heap) (hbl : b < s.heap.size) (hbA : ¬ A b) (hL : L ≤ 3072) {j : Nat} (hj : 6 * j + 6 ≤ L) {rc cc t : Nat} {σ : fmS} {o : Nat → Int64} (I : rI rc cc t σ) (ht : t ≤ 200 * j) (next : ∀ (rc cc t : Nat) (σ : fmS) (o : Nat → Int64), rI rc cc t σ → t ≤ 200 * (j + 1) → fmV p l e room_1 s m #[Value.ref b] below meth c D A G 9 o (lw_Z below #[Value.ref b] s) σ (200 + 170 * (j + 1)) (1800 + 1850 * (j + 1)) [(0, .ref b), (1, .ref (G.1 0 0 0)), (2, .ref (G.1 14 0 0)), (3, .ref (G.1 34 0 0)), (4, .int (nI (6 * (j + 1))))] [] 23) : fmV p l e room_1 s m #[Value.ref b] below meth c D A G 9 o (lw_Z below #[Value.ref b] s) σ (200 + 170 * j) (1800 + 1850 * j) [(0, .ref b), (1, .ref (G.1 0 0 0)), (2, .ref (G.1 14 0 0)), (3, .ref (G.1 34 0 0)), (4, .int (nI (6 * j)))] [] 868 := by
  have hgz := I.1.1
  obtain ⟨⟨hrc, hcc, -, -, -, -⟩, -⟩ := id hgz
  refine fmV_aload_n (pc := 868) (i := 1) F dL_law_868 rfl rfl ?_
  refine fmV_aload_n (pc := 869) (i := 0) F dL_law_869 rfl rfl ?_
  refine fmV_iload (pc := 870) (i := 4) F dL_law_870 rfl ?_
  refine fmV_iconst (pc := 872) (v := 1) F dL_law_872 rfl ?_
  refine fmV_iadd (pc := 873) F dL_law_873 ?_
  refine fmV_sld (pc := 874) F hXs hbl hbA dL_law_874 (fm_in (nI_add (6 * j) 1) (by omega) (by omega)) (fm_cl (nI_add (6 * j) 1) (by omega)) ?_
  refine fmV_aload_n (pc := 875) (i := 0) F dL_law_875 rfl rfl ?_
  refine fmV_iload (pc := 876) (i := 4) F dL_law_876 rfl ?_
  refine fmV_iconst (pc := 878) (v := 2) F dL_law_878 rfl ?_
  refine fmV_iadd (pc := 879) F dL_law_879 ?_
  refine fmV_sld (pc := 880) F hXs hbl hbA dL_law_880 (fm_in (nI_add (6 * j) 2) (by omega) (by omega)) (fm_cl (nI_add (6 * j) 2) (by omega)) ?_
  refine fmV_aload_n (pc := 881) (i := 3) F dL_law_881 rfl rfl ?_
  refine fmV_lSi (n := 4) (pc := 882) F hX (c_L_at l D A G σ o (xs (6 * j + 1)) (xs (6 * j + 2)) (c_X4_at l D A G σ o hl9 hgz (xs (6 * j + 1)) (xs (6 * j + 2))) (fun E9 u9 h9 => by
      rcases fmFirst_in h9.2 with rfl | rfl | h9
      · exact rfl
      · exact rfl
      · exact h9.elim)) gL_law_L_at rfl rfl rfl (by decide +kernel) ⟨Nat.le_of_ble_eq_true rfl, Nat.le_of_ble_eq_true rfl⟩ rfl rfl (Nat.le_of_ble_eq_true rfl) dL_law_882 ⟨by show _ ≤ 601024; omega, by show _ ≤ 7293034; omega⟩ (fun k9 z9 hk9 => ?_)
  obtain ⟨hm9, hop⟩ := op_at I (by omega) (xs (6 * j + 1)) (xs (6 * j + 2)) hk9
  have g63 : z9.1 63 0 0 0 = nI cc := by rw [hm9 63 0 0 (by decide)]; exact I.2.1.2.1
  have g62 : z9.1 62 0 0 0 = nI rc := by rw [hm9 62 0 0 (by decide)]; exact I.2.1.1
  have g64 : z9.1 64 0 0 0 = nI t := by rw [hm9 64 0 0 (by decide)]; exact I.2.1.2.2
  refine fmV_istore (pc := 885) (i := 5) F dL_law_885 (by decide) ?_
  refine fmV_aload_n (pc := 887) (i := 2) F dL_law_887 rfl rfl ?_
  refine fmV_aload_n (pc := 888) (i := 0) F dL_law_888 rfl rfl ?_
  refine fmV_iload (pc := 889) (i := 4) F dL_law_889 rfl ?_
  refine fmV_iconst (pc := 891) (v := 1) F dL_law_891 rfl ?_
  refine fmV_iadd (pc := 892) F dL_law_892 ?_
  refine fmV_sld (pc := 893) F hXs hbl hbA dL_law_893 (fm_in (nI_add (6 * j) 1) (by omega) (by omega)) (fm_cl (nI_add (6 * j) 1) (by omega)) ?_
  refine fmV_aload_n (pc := 894) (i := 0) F dL_law_894 rfl rfl ?_
  refine fmV_iload (pc := 895) (i := 4) F dL_law_895 rfl ?_
  refine fmV_iconst (pc := 897) (v := 2) F dL_law_897 rfl ?_
  refine fmV_iadd (pc := 898) F dL_law_898 ?_
  refine fmV_sld (pc := 899) F hXs hbl hbA dL_law_899 (fm_in (nI_add (6 * j) 2) (by omega) (by omega)) (fm_cl (nI_add (6 * j) 2) (by omega)) ?_
  refine fmV_xVi (n := 2) (pc := 900) F hX (c_X6_at l D A G z9.1 z9.2 hcc g63 hrc g62 (by omega) g64 (xs (6 * j + 1)) (xs (6 * j + 2))) gL_law_X6_at rfl rfl rfl (by decide +kernel) ⟨Nat.le_of_ble_eq_true rfl, Nat.le_of_ble_eq_true rfl⟩ (fmR_14 F) rfl rfl (Nat.le_of_ble_eq_true rfl) dL_law_900 ⟨by show _ ≤ 601024; omega, by show _ ≤ 7293034; omega⟩ (fun _ _ h9 => False.elim h9) (fun b9 u9 hb9 => ?_)
  obtain ⟨⟨rc2, cc2, t2, ht2, I2⟩, h61, hout⟩ := hop b9 u9 hb9
  refine fmV_istore (pc := 903) (i := 6) F dL_law_903 (by decide) ?_
  refine fmV_aload_n (pc := 905) (i := 2) F dL_law_905 rfl rfl ?_
  refine fmV_xVi (n := 0) (pc := 906) F hX (c_X6_thrown l D A G u9 z9.2) gL_law_X6_thrown rfl rfl rfl (by decide +kernel) ⟨Nat.le_of_ble_eq_true rfl, Nat.le_of_ble_eq_true rfl⟩ (fmR_14 F) rfl rfl (Nat.le_of_ble_eq_true rfl) dL_law_906 ⟨by show _ ≤ 601024; omega, by show _ ≤ 7293034; omega⟩ (fun _ _ h9 => False.elim h9) (fun r8 u8 hc8 => ?_)
  obtain ⟨hr8, hu8⟩ := hc8
  have hr8 := hr8.symm
  have hu8 := hu8.symm
  subst hr8
  subst hu8
  refine fmV_iload (pc := 909) (i := 5) F dL_law_909 rfl ?_
  refine fmV_icmp_eq (pc := 911) (tgt := 916) F dL_law_911 (by decide) (fun h9 => ?_) (fun h9 => ?_)
  · refine fmV_iload (pc := 916) (i := 5) F dL_law_916 rfl ?_
    refine fmV_if_ne (pc := 918) (tgt := 933) F dL_law_918 (by decide) (fun h8 => ?_) (fun h8 => ?_)
    · refine fmV_goto (pc := 933) (tgt := 1518) F dL_law_933 (by decide) ?_
      refine fmV_iinc (pc := 1518) (i := 4) (v := nI (6 * (j + 1))) F dL_law_1518 rfl (nI_add (6 * j) 6) (by decide) ?_
      refine fmV_goto (pc := 1521) (tgt := 23) F dL_law_1521 (by decide) ?_
      refine fmV_widen (k := 200 + 170 * (j + 1)) (n := 1800 + 1850 * (j + 1)) (by omega) (by omega) ?_
      refine fmV_lv ?_ (next rc2 cc2 t2 _ z9.2 I2 (by omega))
      exact ⟨rfl, rfl, rfl, rfl, rfl, trivial⟩
    · refine fmV_aload_n (pc := 921) (i := 3) F dL_law_921 rfl rfl ?_
      refine fmV_iconst (pc := 922) (v := 0) F dL_law_922 rfl ?_
      refine fmV_lald (pc := 923) F dL_law_923 (vp_in_nI (show 0 < 1 by decide) (by decide)) (show (0 : Int32).toNatClampNeg = 0 by decide) ?_
      refine fmV_iload (pc := 924) (i := 6) F dL_law_924 rfl ?_
      have he9 := hout h8
      refine fmV_i2l (pc := 926) F dL_law_926 rfl ?_
      refine fmV_lcmp (pc := 927) F dL_law_927 ?_
      refine fmV_if_eq (pc := 928) (tgt := 933) F dL_law_928 (by decide) (fun h7 => ?_) (fun h7 => ?_)
      · refine fmV_goto (pc := 933) (tgt := 1518) F dL_law_933 (by decide) ?_
        refine fmV_iinc (pc := 1518) (i := 4) (v := nI (6 * (j + 1))) F dL_law_1518 rfl (nI_add (6 * j) 6) (by decide) ?_
        refine fmV_goto (pc := 1521) (tgt := 23) F dL_law_1521 (by decide) ?_
        refine fmV_widen (k := 200 + 170 * (j + 1)) (n := 1800 + 1850 * (j + 1)) (by omega) (by omega) ?_
        refine fmV_lv ?_ (next rc2 cc2 t2 _ z9.2 I2 (by omega))
        exact ⟨rfl, rfl, rfl, rfl, rfl, trivial⟩
      · exact absurd (by rw [he9]; exact lg_same _) h7
  · exact absurd h61 h9

set_option maxHeartbeats 4000000 in
set_option maxRecDepth 100000 in
theorem law_beside {p : Program} {l : Launch} {e : Env} {s : State} {m : MethodId} {below : List Frame} {meth : Method} {c : Code} {b L : Nat} {xs : Nat → Int32} {D : va_G} {A : Nat → Prop} {G : fmG} (F : fmF p s m #[Value.ref b] meth c D A G RL code 9 ret wsL_law) (hX : fmX A s) (hl9 : l.stackTraces = false) (hG : G.1 36 0 0 = 0) (hXs : va_X b L xs s s.heap) (hbl : b < s.heap.size) (hbA : ¬ A b) (hL : L ≤ 3072) {j : Nat} (hj : 6 * j + 6 ≤ L) {rc cc t : Nat} {σ : fmS} {o : Nat → Int64} (I : rI rc cc t σ) (ht : t ≤ 200 * j) (next : ∀ (rc cc t : Nat) (σ : fmS) (o : Nat → Int64), rI rc cc t σ → t ≤ 200 * (j + 1) → fmV p l e room_1 s m #[Value.ref b] below meth c D A G 9 o (lw_Z below #[Value.ref b] s) σ (200 + 170 * (j + 1)) (1800 + 1850 * (j + 1)) [(0, .ref b), (1, .ref (G.1 0 0 0)), (2, .ref (G.1 14 0 0)), (3, .ref (G.1 34 0 0)), (4, .int (nI (6 * (j + 1))))] [] 23) : fmV p l e room_1 s m #[Value.ref b] below meth c D A G 9 o (lw_Z below #[Value.ref b] s) σ (200 + 170 * j) (1800 + 1850 * j) [(0, .ref b), (1, .ref (G.1 0 0 0)), (2, .ref (G.1 14 0 0)), (3, .ref (G.1 34 0 0)), (4, .int (nI (6 * j)))] [] 936 := by
  have hgz := I.1.1
  obtain ⟨⟨hrc, hcc, -, -, -, -⟩, -⟩ := id hgz
  refine fmV_aload_n (pc := 936) (i := 1) F dL_law_936 rfl rfl ?_
  refine fmV_aload_n (pc := 937) (i := 0) F dL_law_937 rfl rfl ?_
  refine fmV_iload (pc := 938) (i := 4) F dL_law_938 rfl ?_
  refine fmV_iconst (pc := 940) (v := 1) F dL_law_940 rfl ?_
  refine fmV_iadd (pc := 941) F dL_law_941 ?_
  refine fmV_sld (pc := 942) F hXs hbl hbA dL_law_942 (fm_in (nI_add (6 * j) 1) (by omega) (by omega)) (fm_cl (nI_add (6 * j) 1) (by omega)) ?_
  refine fmV_aload_n (pc := 943) (i := 0) F dL_law_943 rfl rfl ?_
  refine fmV_iload (pc := 944) (i := 4) F dL_law_944 rfl ?_
  refine fmV_iconst (pc := 946) (v := 2) F dL_law_946 rfl ?_
  refine fmV_iadd (pc := 947) F dL_law_947 ?_
  refine fmV_sld (pc := 948) F hXs hbl hbA dL_law_948 (fm_in (nI_add (6 * j) 2) (by omega) (by omega)) (fm_cl (nI_add (6 * j) 2) (by omega)) ?_
  refine fmV_aload_n (pc := 949) (i := 3) F dL_law_949 rfl rfl ?_
  refine fmV_lSi (n := 4) (pc := 950) F hX (c_L_beside l D A G σ o (xs (6 * j + 1)) (xs (6 * j + 2)) (c_X4_beside l D A G σ o hl9 hgz (xs (6 * j + 1)) (xs (6 * j + 2))) (fun E9 u9 h9 => by
      rcases fmFirst_in h9.2 with rfl | rfl | h9
      · exact rfl
      · exact rfl
      · exact h9.elim)) gL_law_L_beside rfl rfl rfl (by decide +kernel) ⟨Nat.le_of_ble_eq_true rfl, Nat.le_of_ble_eq_true rfl⟩ rfl rfl (Nat.le_of_ble_eq_true rfl) dL_law_950 ⟨by show _ ≤ 601024; omega, by show _ ≤ 7293034; omega⟩ (fun k9 z9 hk9 => ?_)
  obtain ⟨hm9, hop⟩ := op_besideI I (by omega) (xs (6 * j + 1)) (xs (6 * j + 2)) hk9
  have g63 : z9.1 63 0 0 0 = nI cc := by rw [hm9 63 0 0 (by decide)]; exact I.2.1.2.1
  have g62 : z9.1 62 0 0 0 = nI rc := by rw [hm9 62 0 0 (by decide)]; exact I.2.1.1
  have g64 : z9.1 64 0 0 0 = nI t := by rw [hm9 64 0 0 (by decide)]; exact I.2.1.2.2
  refine fmV_istore (pc := 953) (i := 5) F dL_law_953 (by decide) ?_
  refine fmV_aload_n (pc := 955) (i := 2) F dL_law_955 rfl rfl ?_
  refine fmV_aload_n (pc := 956) (i := 0) F dL_law_956 rfl rfl ?_
  refine fmV_iload (pc := 957) (i := 4) F dL_law_957 rfl ?_
  refine fmV_iconst (pc := 959) (v := 1) F dL_law_959 rfl ?_
  refine fmV_iadd (pc := 960) F dL_law_960 ?_
  refine fmV_sld (pc := 961) F hXs hbl hbA dL_law_961 (fm_in (nI_add (6 * j) 1) (by omega) (by omega)) (fm_cl (nI_add (6 * j) 1) (by omega)) ?_
  refine fmV_aload_n (pc := 962) (i := 0) F dL_law_962 rfl rfl ?_
  refine fmV_iload (pc := 963) (i := 4) F dL_law_963 rfl ?_
  refine fmV_iconst (pc := 965) (v := 2) F dL_law_965 rfl ?_
  refine fmV_iadd (pc := 966) F dL_law_966 ?_
  refine fmV_sld (pc := 967) F hXs hbl hbA dL_law_967 (fm_in (nI_add (6 * j) 2) (by omega) (by omega)) (fm_cl (nI_add (6 * j) 2) (by omega)) ?_
  refine fmV_xVi (n := 2) (pc := 968) F hX (c_X6_beside l D A G z9.1 z9.2 hcc g63 hrc g62 (by omega) g64 (xs (6 * j + 1)) (xs (6 * j + 2))) gL_law_X6_beside rfl rfl rfl (by decide +kernel) ⟨Nat.le_of_ble_eq_true rfl, Nat.le_of_ble_eq_true rfl⟩ (fmR_14 F) rfl rfl (Nat.le_of_ble_eq_true rfl) dL_law_968 ⟨by show _ ≤ 601024; omega, by show _ ≤ 7293034; omega⟩ (fun _ _ h9 => False.elim h9) (fun b9 u9 hb9 => ?_)
  obtain ⟨⟨rc2, cc2, t2, ht2, I2⟩, h61, hout⟩ := hop b9 u9 hb9
  refine fmV_istore (pc := 971) (i := 6) F dL_law_971 (by decide) ?_
  refine fmV_aload_n (pc := 973) (i := 2) F dL_law_973 rfl rfl ?_
  refine fmV_xVi (n := 0) (pc := 974) F hX (c_X6_thrown l D A G u9 z9.2) gL_law_X6_thrown rfl rfl rfl (by decide +kernel) ⟨Nat.le_of_ble_eq_true rfl, Nat.le_of_ble_eq_true rfl⟩ (fmR_14 F) rfl rfl (Nat.le_of_ble_eq_true rfl) dL_law_974 ⟨by show _ ≤ 601024; omega, by show _ ≤ 7293034; omega⟩ (fun _ _ h9 => False.elim h9) (fun r8 u8 hc8 => ?_)
  obtain ⟨hr8, hu8⟩ := hc8
  have hr8 := hr8.symm
  have hu8 := hu8.symm
  subst hr8
  subst hu8
  refine fmV_iload (pc := 977) (i := 5) F dL_law_977 rfl ?_
  refine fmV_icmp_eq (pc := 979) (tgt := 984) F dL_law_979 (by decide) (fun h9 => ?_) (fun h9 => ?_)
  · refine fmV_iload (pc := 984) (i := 5) F dL_law_984 rfl ?_
    refine fmV_if_ne (pc := 986) (tgt := 1008) F dL_law_986 (by decide) (fun h8 => ?_) (fun h8 => ?_)
    · refine fmV_goto (pc := 1008) (tgt := 1518) F dL_law_1008 (by decide) ?_
      refine fmV_iinc (pc := 1518) (i := 4) (v := nI (6 * (j + 1))) F dL_law_1518 rfl (nI_add (6 * j) 6) (by decide) ?_
      refine fmV_goto (pc := 1521) (tgt := 23) F dL_law_1521 (by decide) ?_
      refine fmV_widen (k := 200 + 170 * (j + 1)) (n := 1800 + 1850 * (j + 1)) (by omega) (by omega) ?_
      refine fmV_lv ?_ (next rc2 cc2 t2 _ z9.2 I2 (by omega))
      exact ⟨rfl, rfl, rfl, rfl, rfl, trivial⟩
    · refine fmV_aload_n (pc := 989) (i := 3) F dL_law_989 rfl rfl ?_
      refine fmV_iconst (pc := 990) (v := 0) F dL_law_990 rfl ?_
      refine fmV_lald (pc := 991) F dL_law_991 (vp_in_nI (show 0 < 1 by decide) (by decide)) (show (0 : Int32).toNatClampNeg = 0 by decide) ?_
      refine fmV_iload (pc := 992) (i := 6) F dL_law_992 rfl ?_
      have he9 := hout h8
      refine fmV_if_eq (pc := 994) (tgt := 1001) F dL_law_994 (by decide) (fun h6 => ?_) (fun h6 => ?_)
      · refine fmV_lconst (pc := 1001) (v := 0) F dL_law_1001 rfl ?_
        refine fmV_lcmp (pc := 1002) F dL_law_1002 ?_
        refine fmV_if_eq (pc := 1003) (tgt := 1008) F dL_law_1003 (by decide) (fun h7 => ?_) (fun h7 => ?_)
        · refine fmV_goto (pc := 1008) (tgt := 1518) F dL_law_1008 (by decide) ?_
          refine fmV_iinc (pc := 1518) (i := 4) (v := nI (6 * (j + 1))) F dL_law_1518 rfl (nI_add (6 * j) 6) (by decide) ?_
          refine fmV_goto (pc := 1521) (tgt := 23) F dL_law_1521 (by decide) ?_
          refine fmV_widen (k := 200 + 170 * (j + 1)) (n := 1800 + 1850 * (j + 1)) (by omega) (by omega) ?_
          refine fmV_lv ?_ (next rc2 cc2 t2 _ z9.2 I2 (by omega))
          exact ⟨rfl, rfl, rfl, rfl, rfl, trivial⟩
        · exact absurd (by rw [he9, if_pos h6]; exact lg_same _) h7
      · refine fmV_lconst (pc := 997) (v := 1) F dL_law_997 rfl ?_
        refine fmV_goto (pc := 998) (tgt := 1002) F dL_law_998 (by decide) ?_
        refine fmV_lcmp (pc := 1002) F dL_law_1002 ?_
        refine fmV_if_eq (pc := 1003) (tgt := 1008) F dL_law_1003 (by decide) (fun h7 => ?_) (fun h7 => ?_)
        · refine fmV_goto (pc := 1008) (tgt := 1518) F dL_law_1008 (by decide) ?_
          refine fmV_iinc (pc := 1518) (i := 4) (v := nI (6 * (j + 1))) F dL_law_1518 rfl (nI_add (6 * j) 6) (by decide) ?_
          refine fmV_goto (pc := 1521) (tgt := 23) F dL_law_1521 (by decide) ?_
          refine fmV_widen (k := 200 + 170 * (j + 1)) (n := 1800 + 1850 * (j + 1)) (by omega) (by omega) ?_
          refine fmV_lv ?_ (next rc2 cc2 t2 _ z9.2 I2 (by omega))
          exact ⟨rfl, rfl, rfl, rfl, rfl, trivial⟩
        · exact absurd (by rw [he9, if_neg h6]; exact lg_same _) h7
  · exact absurd h61 h9

set_option maxHeartbeats 4000000 in
set_option maxRecDepth 100000 in
theorem law_pass {p : Program} {l : Launch} {e : Env} {s : State} {m : MethodId} {below : List Frame} {meth : Method} {c : Code} {b L : Nat} {xs : Nat → Int32} {D : va_G} {A : Nat → Prop} {G : fmG} (F : fmF p s m #[Value.ref b] meth c D A G RL code 9 ret wsL_law) (hX : fmX A s) (hl9 : l.stackTraces = false) (hG : G.1 36 0 0 = 0) (hXs : va_X b L xs s s.heap) (hbl : b < s.heap.size) (hbA : ¬ A b) (hL : L ≤ 3072) {j : Nat} (hj : 6 * j + 6 ≤ L) {rc cc t : Nat} {σ : fmS} {o : Nat → Int64} (I : rI rc cc t σ) (ht : t ≤ 200 * j) (next : ∀ (rc cc t : Nat) (σ : fmS) (o : Nat → Int64), rI rc cc t σ → t ≤ 200 * (j + 1) → fmV p l e room_1 s m #[Value.ref b] below meth c D A G 9 o (lw_Z below #[Value.ref b] s) σ (200 + 170 * (j + 1)) (1800 + 1850 * (j + 1)) [(0, .ref b), (1, .ref (G.1 0 0 0)), (2, .ref (G.1 14 0 0)), (3, .ref (G.1 34 0 0)), (4, .int (nI (6 * (j + 1))))] [] 23) : fmV p l e room_1 s m #[Value.ref b] below meth c D A G 9 o (lw_Z below #[Value.ref b] s) σ (200 + 170 * j) (1800 + 1850 * j) [(0, .ref b), (1, .ref (G.1 0 0 0)), (2, .ref (G.1 14 0 0)), (3, .ref (G.1 34 0 0)), (4, .int (nI (6 * j)))] [] 1011 := by
  have hgz := I.1.1
  obtain ⟨⟨hrc, hcc, -, -, -, -⟩, -⟩ := id hgz
  refine fmV_aload_n (pc := 1011) (i := 1) F dL_law_1011 rfl rfl ?_
  refine fmV_aload_n (pc := 1012) (i := 0) F dL_law_1012 rfl rfl ?_
  refine fmV_iload (pc := 1013) (i := 4) F dL_law_1013 rfl ?_
  refine fmV_iconst (pc := 1015) (v := 1) F dL_law_1015 rfl ?_
  refine fmV_iadd (pc := 1016) F dL_law_1016 ?_
  refine fmV_sld (pc := 1017) F hXs hbl hbA dL_law_1017 (fm_in (nI_add (6 * j) 1) (by omega) (by omega)) (fm_cl (nI_add (6 * j) 1) (by omega)) ?_
  refine fmV_aload_n (pc := 1018) (i := 3) F dL_law_1018 rfl rfl ?_
  refine fmV_lSi (n := 3) (pc := 1019) F hX (c_L_pass l D A G σ o (xs (6 * j + 1)) (c_X4_pass l D A G σ o hl9 hgz (by omega) (xs (6 * j + 1))) (fun E9 u9 h9 => by
      rcases fmFirst_in h9.2 with rfl | h9
      · exact rfl
      · exact h9.elim)) gL_law_L_pass rfl rfl rfl (by decide +kernel) ⟨Nat.le_of_ble_eq_true rfl, Nat.le_of_ble_eq_true rfl⟩ rfl rfl (Nat.le_of_ble_eq_true rfl) dL_law_1019 ⟨by show _ ≤ 601024; omega, by show _ ≤ 7293034; omega⟩ (fun k9 z9 hk9 => ?_)
  obtain ⟨hm9, hop⟩ := op_pass I (by omega) (xs (6 * j + 1)) hk9
  have g63 : z9.1 63 0 0 0 = nI cc := by rw [hm9 63 0 0 (by decide)]; exact I.2.1.2.1
  have g62 : z9.1 62 0 0 0 = nI rc := by rw [hm9 62 0 0 (by decide)]; exact I.2.1.1
  have g64 : z9.1 64 0 0 0 = nI t := by rw [hm9 64 0 0 (by decide)]; exact I.2.1.2.2
  refine fmV_istore (pc := 1022) (i := 5) F dL_law_1022 (by decide) ?_
  refine fmV_aload_n (pc := 1024) (i := 2) F dL_law_1024 rfl rfl ?_
  refine fmV_aload_n (pc := 1025) (i := 0) F dL_law_1025 rfl rfl ?_
  refine fmV_iload (pc := 1026) (i := 4) F dL_law_1026 rfl ?_
  refine fmV_iconst (pc := 1028) (v := 1) F dL_law_1028 rfl ?_
  refine fmV_iadd (pc := 1029) F dL_law_1029 ?_
  refine fmV_sld (pc := 1030) F hXs hbl hbA dL_law_1030 (fm_in (nI_add (6 * j) 1) (by omega) (by omega)) (fm_cl (nI_add (6 * j) 1) (by omega)) ?_
  refine fmV_xVi (n := 1) (pc := 1031) F hX (c_X6_pass_ l D A G z9.1 z9.2 hcc g63 hrc g62 (by omega) g64 (xs (6 * j + 1))) gL_law_X6_pass_ rfl rfl rfl (by decide +kernel) ⟨Nat.le_of_ble_eq_true rfl, Nat.le_of_ble_eq_true rfl⟩ (fmR_14 F) rfl rfl (Nat.le_of_ble_eq_true rfl) dL_law_1031 ⟨by show _ ≤ 601024; omega, by show _ ≤ 7293034; omega⟩ (fun _ _ h9 => False.elim h9) (fun b9 u9 hb9 => ?_)
  obtain ⟨⟨rc2, cc2, t2, ht2, I2⟩, h61, hout⟩ := hop b9 u9 hb9
  refine fmV_istore (pc := 1034) (i := 6) F dL_law_1034 (by decide) ?_
  refine fmV_aload_n (pc := 1036) (i := 2) F dL_law_1036 rfl rfl ?_
  refine fmV_xVi (n := 0) (pc := 1037) F hX (c_X6_thrown l D A G u9 z9.2) gL_law_X6_thrown rfl rfl rfl (by decide +kernel) ⟨Nat.le_of_ble_eq_true rfl, Nat.le_of_ble_eq_true rfl⟩ (fmR_14 F) rfl rfl (Nat.le_of_ble_eq_true rfl) dL_law_1037 ⟨by show _ ≤ 601024; omega, by show _ ≤ 7293034; omega⟩ (fun _ _ h9 => False.elim h9) (fun r8 u8 hc8 => ?_)
  obtain ⟨hr8, hu8⟩ := hc8
  have hr8 := hr8.symm
  have hu8 := hu8.symm
  subst hr8
  subst hu8
  refine fmV_iload (pc := 1040) (i := 5) F dL_law_1040 rfl ?_
  refine fmV_icmp_eq (pc := 1042) (tgt := 1047) F dL_law_1042 (by decide) (fun h9 => ?_) (fun h9 => ?_)
  · refine fmV_iload (pc := 1047) (i := 5) F dL_law_1047 rfl ?_
    refine fmV_if_ne (pc := 1049) (tgt := 1064) F dL_law_1049 (by decide) (fun h8 => ?_) (fun h8 => ?_)
    · refine fmV_goto (pc := 1064) (tgt := 1518) F dL_law_1064 (by decide) ?_
      refine fmV_iinc (pc := 1518) (i := 4) (v := nI (6 * (j + 1))) F dL_law_1518 rfl (nI_add (6 * j) 6) (by decide) ?_
      refine fmV_goto (pc := 1521) (tgt := 23) F dL_law_1521 (by decide) ?_
      refine fmV_widen (k := 200 + 170 * (j + 1)) (n := 1800 + 1850 * (j + 1)) (by omega) (by omega) ?_
      refine fmV_lv ?_ (next rc2 cc2 t2 _ z9.2 I2 (by omega))
      exact ⟨rfl, rfl, rfl, rfl, rfl, trivial⟩
    · refine fmV_aload_n (pc := 1052) (i := 3) F dL_law_1052 rfl rfl ?_
      refine fmV_iconst (pc := 1053) (v := 0) F dL_law_1053 rfl ?_
      refine fmV_lald (pc := 1054) F dL_law_1054 (vp_in_nI (show 0 < 1 by decide) (by decide)) (show (0 : Int32).toNatClampNeg = 0 by decide) ?_
      refine fmV_iload (pc := 1055) (i := 6) F dL_law_1055 rfl ?_
      have he9 := hout h8
      refine fmV_i2l (pc := 1057) F dL_law_1057 rfl ?_
      refine fmV_lcmp (pc := 1058) F dL_law_1058 ?_
      refine fmV_if_eq (pc := 1059) (tgt := 1064) F dL_law_1059 (by decide) (fun h7 => ?_) (fun h7 => ?_)
      · refine fmV_goto (pc := 1064) (tgt := 1518) F dL_law_1064 (by decide) ?_
        refine fmV_iinc (pc := 1518) (i := 4) (v := nI (6 * (j + 1))) F dL_law_1518 rfl (nI_add (6 * j) 6) (by decide) ?_
        refine fmV_goto (pc := 1521) (tgt := 23) F dL_law_1521 (by decide) ?_
        refine fmV_widen (k := 200 + 170 * (j + 1)) (n := 1800 + 1850 * (j + 1)) (by omega) (by omega) ?_
        refine fmV_lv ?_ (next rc2 cc2 t2 _ z9.2 I2 (by omega))
        exact ⟨rfl, rfl, rfl, rfl, rfl, trivial⟩
      · exact absurd (by rw [he9]; exact lg_same _) h7
  · exact absurd h61 h9

set_option maxHeartbeats 4000000 in
set_option maxRecDepth 100000 in
theorem law_count {p : Program} {l : Launch} {e : Env} {s : State} {m : MethodId} {below : List Frame} {meth : Method} {c : Code} {b L : Nat} {xs : Nat → Int32} {D : va_G} {A : Nat → Prop} {G : fmG} (F : fmF p s m #[Value.ref b] meth c D A G RL code 9 ret wsL_law) (hX : fmX A s) (hl9 : l.stackTraces = false) (hG : G.1 36 0 0 = 0) (hXs : va_X b L xs s s.heap) (hbl : b < s.heap.size) (hbA : ¬ A b) (hL : L ≤ 3072) {j : Nat} (hj : 6 * j + 6 ≤ L) {rc cc t : Nat} {σ : fmS} {o : Nat → Int64} (I : rI rc cc t σ) (ht : t ≤ 200 * j) (next : ∀ (rc cc t : Nat) (σ : fmS) (o : Nat → Int64), rI rc cc t σ → t ≤ 200 * (j + 1) → fmV p l e room_1 s m #[Value.ref b] below meth c D A G 9 o (lw_Z below #[Value.ref b] s) σ (200 + 170 * (j + 1)) (1800 + 1850 * (j + 1)) [(0, .ref b), (1, .ref (G.1 0 0 0)), (2, .ref (G.1 14 0 0)), (3, .ref (G.1 34 0 0)), (4, .int (nI (6 * (j + 1))))] [] 23) : fmV p l e room_1 s m #[Value.ref b] below meth c D A G 9 o (lw_Z below #[Value.ref b] s) σ (200 + 170 * j) (1800 + 1850 * j) [(0, .ref b), (1, .ref (G.1 0 0 0)), (2, .ref (G.1 14 0 0)), (3, .ref (G.1 34 0 0)), (4, .int (nI (6 * j)))] [] 1067 := by
  have hgz := I.1.1
  obtain ⟨⟨hrc, hcc, -, -, -, -⟩, -⟩ := id hgz
  refine fmV_aload_n (pc := 1067) (i := 1) F dL_law_1067 rfl rfl ?_
  refine fmV_aload_n (pc := 1068) (i := 0) F dL_law_1068 rfl rfl ?_
  refine fmV_iload (pc := 1069) (i := 4) F dL_law_1069 rfl ?_
  refine fmV_iconst (pc := 1071) (v := 1) F dL_law_1071 rfl ?_
  refine fmV_iadd (pc := 1072) F dL_law_1072 ?_
  refine fmV_sld (pc := 1073) F hXs hbl hbA dL_law_1073 (fm_in (nI_add (6 * j) 1) (by omega) (by omega)) (fm_cl (nI_add (6 * j) 1) (by omega)) ?_
  refine fmV_aload_n (pc := 1074) (i := 3) F dL_law_1074 rfl rfl ?_
  refine fmV_lSi (n := 3) (pc := 1075) F hX (c_L_count l D A G σ o (xs (6 * j + 1)) (c_X4_count l D A G σ o hl9 hgz (xs (6 * j + 1))) (fun E9 u9 h9 => by
      rcases fmFirst_in h9.2 with rfl | h9
      · exact rfl
      · exact h9.elim)) gL_law_L_count rfl rfl rfl (by decide +kernel) ⟨Nat.le_of_ble_eq_true rfl, Nat.le_of_ble_eq_true rfl⟩ rfl rfl (Nat.le_of_ble_eq_true rfl) dL_law_1075 ⟨by show _ ≤ 601024; omega, by show _ ≤ 7293034; omega⟩ (fun k9 z9 hk9 => ?_)
  obtain ⟨hm9, hop⟩ := op_count I (by omega) (xs (6 * j + 1)) hk9
  have g63 : z9.1 63 0 0 0 = nI cc := by rw [hm9 63 0 0 (by decide)]; exact I.2.1.2.1
  have g62 : z9.1 62 0 0 0 = nI rc := by rw [hm9 62 0 0 (by decide)]; exact I.2.1.1
  have g64 : z9.1 64 0 0 0 = nI t := by rw [hm9 64 0 0 (by decide)]; exact I.2.1.2.2
  refine fmV_istore (pc := 1078) (i := 5) F dL_law_1078 (by decide) ?_
  refine fmV_aload_n (pc := 1080) (i := 2) F dL_law_1080 rfl rfl ?_
  refine fmV_aload_n (pc := 1081) (i := 0) F dL_law_1081 rfl rfl ?_
  refine fmV_iload (pc := 1082) (i := 4) F dL_law_1082 rfl ?_
  refine fmV_iconst (pc := 1084) (v := 1) F dL_law_1084 rfl ?_
  refine fmV_iadd (pc := 1085) F dL_law_1085 ?_
  refine fmV_sld (pc := 1086) F hXs hbl hbA dL_law_1086 (fm_in (nI_add (6 * j) 1) (by omega) (by omega)) (fm_cl (nI_add (6 * j) 1) (by omega)) ?_
  refine fmV_xVi (n := 1) (pc := 1087) F hX (c_X6_count l D A G z9.1 z9.2 hcc g63 hrc g62 (by omega) g64 hG (xs (6 * j + 1))) gL_law_X6_count rfl rfl rfl (by decide +kernel) ⟨Nat.le_of_ble_eq_true rfl, Nat.le_of_ble_eq_true rfl⟩ (fmR_14 F) rfl rfl (Nat.le_of_ble_eq_true rfl) dL_law_1087 ⟨by show _ ≤ 601024; omega, by show _ ≤ 7293034; omega⟩ (fun _ _ h9 => False.elim h9) (fun b9 u9 hb9 => ?_)
  obtain ⟨⟨rc2, cc2, t2, ht2, I2⟩, h61, hout⟩ := hop b9 u9 hb9
  refine fmV_istore (pc := 1090) (i := 6) F dL_law_1090 (by decide) ?_
  refine fmV_aload_n (pc := 1092) (i := 2) F dL_law_1092 rfl rfl ?_
  refine fmV_xVi (n := 0) (pc := 1093) F hX (c_X6_thrown l D A G u9 z9.2) gL_law_X6_thrown rfl rfl rfl (by decide +kernel) ⟨Nat.le_of_ble_eq_true rfl, Nat.le_of_ble_eq_true rfl⟩ (fmR_14 F) rfl rfl (Nat.le_of_ble_eq_true rfl) dL_law_1093 ⟨by show _ ≤ 601024; omega, by show _ ≤ 7293034; omega⟩ (fun _ _ h9 => False.elim h9) (fun r8 u8 hc8 => ?_)
  obtain ⟨hr8, hu8⟩ := hc8
  have hr8 := hr8.symm
  have hu8 := hu8.symm
  subst hr8
  subst hu8
  refine fmV_iload (pc := 1096) (i := 5) F dL_law_1096 rfl ?_
  refine fmV_icmp_eq (pc := 1098) (tgt := 1103) F dL_law_1098 (by decide) (fun h9 => ?_) (fun h9 => ?_)
  · refine fmV_iload (pc := 1103) (i := 5) F dL_law_1103 rfl ?_
    refine fmV_if_ne (pc := 1105) (tgt := 1120) F dL_law_1105 (by decide) (fun h8 => ?_) (fun h8 => ?_)
    · refine fmV_goto (pc := 1120) (tgt := 1518) F dL_law_1120 (by decide) ?_
      refine fmV_iinc (pc := 1518) (i := 4) (v := nI (6 * (j + 1))) F dL_law_1518 rfl (nI_add (6 * j) 6) (by decide) ?_
      refine fmV_goto (pc := 1521) (tgt := 23) F dL_law_1521 (by decide) ?_
      refine fmV_widen (k := 200 + 170 * (j + 1)) (n := 1800 + 1850 * (j + 1)) (by omega) (by omega) ?_
      refine fmV_lv ?_ (next rc2 cc2 t2 _ z9.2 I2 (by omega))
      exact ⟨rfl, rfl, rfl, rfl, rfl, trivial⟩
    · refine fmV_aload_n (pc := 1108) (i := 3) F dL_law_1108 rfl rfl ?_
      refine fmV_iconst (pc := 1109) (v := 0) F dL_law_1109 rfl ?_
      refine fmV_lald (pc := 1110) F dL_law_1110 (vp_in_nI (show 0 < 1 by decide) (by decide)) (show (0 : Int32).toNatClampNeg = 0 by decide) ?_
      refine fmV_iload (pc := 1111) (i := 6) F dL_law_1111 rfl ?_
      have he9 := hout h8
      refine fmV_i2l (pc := 1113) F dL_law_1113 rfl ?_
      refine fmV_lcmp (pc := 1114) F dL_law_1114 ?_
      refine fmV_if_eq (pc := 1115) (tgt := 1120) F dL_law_1115 (by decide) (fun h7 => ?_) (fun h7 => ?_)
      · refine fmV_goto (pc := 1120) (tgt := 1518) F dL_law_1120 (by decide) ?_
        refine fmV_iinc (pc := 1518) (i := 4) (v := nI (6 * (j + 1))) F dL_law_1518 rfl (nI_add (6 * j) 6) (by decide) ?_
        refine fmV_goto (pc := 1521) (tgt := 23) F dL_law_1521 (by decide) ?_
        refine fmV_widen (k := 200 + 170 * (j + 1)) (n := 1800 + 1850 * (j + 1)) (by omega) (by omega) ?_
        refine fmV_lv ?_ (next rc2 cc2 t2 _ z9.2 I2 (by omega))
        exact ⟨rfl, rfl, rfl, rfl, rfl, trivial⟩
      · exact absurd (by rw [he9]; exact lg_same _) h7
  · exact absurd h61 h9
