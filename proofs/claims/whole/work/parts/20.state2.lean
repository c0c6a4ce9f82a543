section STA
variable {E : EE} {B : Nat} {M : MM} {k : Nat}
/-- a State whose biscuit q was taken over from elsewhere -/
theorem RS_setB {s : St} {q n p : Nat} {w : Nat → Nat} {M1 M2 : MM} (h : RS B M1 k s) (ho : okSt s) (hq : q < sCn s) (hn : n ≤ 12) (g1 : ∀ j, j < 3 → M2.1 (B + (k + 3 + 2 * q)) j = M1.1 (B + p) j) (g2 : ∀ j, j < 12 → M2.1 (B + (k + 3 + 2 * q + 1)) j = M1.1 (B + (p + 1)) j) (g3 : Sm B M1 M2 (k + 3 + 2 * q) (k + 3 + 2 * q + 2)) (hp : RB M1 (B + p) (B + (p + 1)) ((sBs s q).1, (sBs s q).2.1, n, w)) :
    RS B M2 k (setB s q n w, s.2) := by
  have hc := ho.2.2.1
  obtain ⟨h2, h3, h4⟩ := h
  refine ⟨fun j hj => ?_, fun i hi => ?_, ?_⟩
  · have hj : j < sCn s := hj
    show RB M2 _ _ (setB s q n w j)
    by_cases e : j = q
    · subst e
      unfold setB
      rw [upF_s]
      exact ⟨(g1 0 (by omega)).trans hp.1, (g1 1 (by omega)).trans hp.2.1, (g1 2 (by omega)).trans hp.2.2.1, fun i hi => (g2 i (by have hi : i < n := hi; omega)).trans (hp.2.2.2 i hi)⟩
    · unfold setB
      rw [upF_n e]
      exact (h2 j hj).sm g3 (by omega) (by omega)
  · rw [g3.i (by omega)]; exact h3 i hi
  · rw [g3.i (by omega)]; exact h4
theorem ct_X5_dipInTruth {s : St} {q d t kD : Nat} (hs : isS k) (hD : isD kD) (hap : k + 15 ≤ kD ∨ kD + 3 ≤ k) (h : RS B M k s) (ho : okSt s) (hq : q < sCn s) (hd : d ≤ 12) (ht : t ≤ 60) : Ct E B yX5_dipInTruth cX5_dipInTruth 5 (some .int) 4 [.ref (B + k), .int (nI q), .int (nI d), .int (nI t), .ref (B + kD)] M (Ri (fun r M2 => r = nI (dipD (sBs s q) (sHt s) d t).2.2.2.1 ∧ RS B M2 k (dipS s q d t) ∧ Sd B M M2 k kD)) := by
  have hc := ho.2.2.1
  have hht := ho.2.2.2.1
  have hte := ho.2.2.2.2.2
  have hob := ho.1 q hq
  have hdo := dipD_ok (h := sHt s) (d := d) (s := t) hob
  have p3 := hdo.2.2.2.1
  have p2 := hdo.2.2.1
  refine Ct.of2 (own := RX5) (lv := [(0, .ref (B + k)), (1, .int (nI q)), (2, .int (nI d)), (3, .int (nI t)), (4, .ref (B + kD))]) pn_X5 rfl (Nat.le_of_ble_eq_true rfl) rfl ?_
  refine g_aload_n dX5_dipInTruth_0 rfl rfl ?_
  refine g_iload_n dX5_dipInTruth_1 rfl rfl ?_
  refine g_callVp dX5_dipInTruth_2 mi_X5_hasBiscuit ml_X5_57 (ct_X5_hasBiscuitN hs h ho (by omega)) hs.1 rfl rfl rfl (Nat.le_of_ble_eq_true rfl) ⟨lt_r rfl, Nat.le_of_ble_eq_true rfl⟩ ?_
  refine g_if_neP (tgt := 10) dX5_dipInTruth_5 (by decide) (fun c_5 => ?_) (fun c_5 => absurd hq c_5)
  refine g_aload dX5_dipInTruth_10 rfl ?_
  refine g_aload_n dX5_dipInTruth_12 rfl rfl ?_
  refine g_getR dX5_dipInTruth_13 fl_X5_11 hs.1 rfl ?_
  refine g_iload_n dX5_dipInTruth_16 rfl rfl ?_
  refine g_aald dX5_dipInTruth_17 hs.2.1 rfl (isS_b (by omega)) ?_
  refine g_aload_n dX5_dipInTruth_18 rfl rfl ?_
  refine g_getI dX5_dipInTruth_19 fl_X5_21 hs.1 rfl (h.2.2.2.1) ?_
  refine g_callVv dX5_dipInTruth_22 mi_X2_begin ml_X5_92 (ct_X2_begin hD (hs.2.2.2 _ (by omega)) (by omega) (h.1 q hq) hob) hD.1 rfl rfl rfl (Nat.le_of_ble_eq_true rfl) ⟨lt_r rfl, Nat.le_of_ble_eq_true rfl⟩ (fun M22 h22 => ?_)
  refine g_aload dX5_dipInTruth_25 rfl ?_
  refine g_iload_n dX5_dipInTruth_27 rfl rfl ?_
  refine g_iload_n dX5_dipInTruth_28 rfl rfl ?_
  refine g_callVv dX5_dipInTruth_29 mi_X2_stay ml_X5_98 (ct_X2_stay hD h22.1 (new_ok hob) hht (by omega) (by omega)) hD.1 rfl rfl rfl (Nat.le_of_ble_eq_true rfl) ⟨lt_r rfl, Nat.le_of_ble_eq_true rfl⟩ (fun M29 h29 => ?_)
  have e1 : RS B M29 k s := (h.sm ho h22.2 (by omega)).sm ho h29.2 (by omega)
  rw [Nat.zero_add] at h29
  obtain ⟨⟨f1, f2, f3, f4, f5, f6, f7⟩, f8⟩ := h29
  have f1 : RB M29 (B + (kD + 1)) (B + (kD + 1 + 1)) ((sBs s q).1, (sBs s q).2.1, (dipD (sBs s q) (sHt s) d t).1, (dipD (sBs s q) (sHt s) d t).2.1) := f1
  have f6 : M29.1 (B + kD) 5 = nI (dipD (sBs s q) (sHt s) d t).2.2.2.1 := f6
  have f7 : M29.1 (B + kD) 6 = nI (dipD (sBs s q) (sHt s) d t).2.2.2.2.1 := f7
  refine g_aload_n dX5_dipInTruth_32 rfl rfl ?_
  refine g_getR dX5_dipInTruth_33 fl_X5_11 hs.1 rfl ?_
  refine g_iload_n dX5_dipInTruth_36 rfl rfl ?_
  refine g_aald dX5_dipInTruth_37 hs.2.1 rfl (isS_b (by omega)) ?_
  refine g_aload dX5_dipInTruth_38 rfl ?_
  refine g_getR dX5_dipInTruth_40 fl_X5_102 hD.1 rfl ?_
  refine g_callVv dX5_dipInTruth_43 mi_X1_become ml_X5_35 (ct_X1_become (hs.2.2.2 _ (by omega)) hD.2 (by omega)) (hs.2.2.2 _ (by omega)).1 rfl rfl rfl (Nat.le_of_ble_eq_true rfl) ⟨lt_r rfl, Nat.le_of_ble_eq_true rfl⟩ (fun M43 h43 => ?_)
  obtain ⟨⟨u1, u2⟩, u3⟩ := h43
  have e2 := RS_setB e1 ho hq hdo.1.2.2.1 u1 u2 u3 f1
  have e3 : M43.1 (B + kD) = M29.1 (B + kD) := u3.i (by omega)
  refine g_aload_n dX5_dipInTruth_46 rfl rfl ?_
  refine g_iconst dX5_dipInTruth_47 kI_0 ?_
  refine g_aload_n dX5_dipInTruth_48 rfl rfl ?_
  refine g_getI dX5_dipInTruth_49 fl_X5_28 hs.1 rfl (show M43.1 (B + k) 5 = nI (sTe s) from e2.2.2.2.2.2.1) ?_
  refine g_aload dX5_dipInTruth_52 rfl ?_
  refine g_getI dX5_dipInTruth_54 fl_X5_106 hD.1 rfl ((congrFun e3 6).trans f7) ?_
  refine g_isub dX5_dipInTruth_57 (rfl) ?_
  refine g_mmax dX5_dipInTruth_58 ml_X5_82 (max0_sub (by omega) (by omega)) ⟨lt_r rfl, Nat.le_of_ble_eq_true rfl⟩ ?_
  refine g_putI dX5_dipInTruth_61 fp_X5_28 hs.1 rfl ?_
  refine g_aload_n dX5_dipInTruth_64 rfl rfl ?_
  refine g_dup dX5_dipInTruth_65 rfl ?_
  refine g_getI dX5_dipInTruth_66 fl_X5_48 hs.1 rfl ((upI_k (by decide)).trans e2.2.2.2.2.2.2.1) ?_
  refine g_aload dX5_dipInTruth_69 rfl ?_
  refine g_getI dX5_dipInTruth_71 fl_X5_109 hD.1 rfl ((congrFun (upI_ap (by omega)) 5).trans ((congrFun e3 5).trans f6)) ?_
  refine g_iadd dX5_dipInTruth_74 rfl ?_
  refine g_putI dX5_dipInTruth_75 fp_X5_48 hs.1 rfl ?_
  have e4 : RS B (upI (upI M43 (B + k) 5 (nI (sTe s - (dipD (sBs s q) (sHt s) d t).2.2.2.2.1))) (B + k) 6 (sSl s + nI (dipD (sBs s q) (sHt s) d t).2.2.2.1)) k (setB s q (dipD (sBs s q) (sHt s) d t).1 (dipD (sBs s q) (sHt s) d t).2.1, sWo s, sCn s, sHt s, sLo s, sTe s - (dipD (sBs s q) (sHt s) d t).2.2.2.2.1, sSl s + nI (dipD (sBs s q) (sHt s) d t).2.2.2.1, sPl s, sSe s, sSd s) := by
    obtain ⟨g1, g2, g3, g4, g5, g6, g7, g8, g9, g10⟩ := e2
    refine ⟨fun j hj => ?_, fun i hi => ?_, ?_, ?_, ?_, ?_, ?_, ?_, ?_, ?_⟩
    · have hj : j < sCn s := hj
      exact (g1 j hj).sm (Sm.tr (Sm.pI (Nat.le_refl k) (Nat.lt_succ_self k)) (Sm.pI (Nat.le_refl k) (Nat.lt_succ_self k))) (by omega) (by omega)
    · rw [upI_ap (by omega), upI_ap (by omega)]; exact g2 i hi
    all_goals simp [upI_at]
    all_goals first | exact g3 | exact g4 | exact g5 | exact g6 | exact g7 | exact g8 | exact g9 | exact g10 | rfl
  refine g_aload_n dX5_dipInTruth_78 rfl rfl ?_
  refine g_iload_n dX5_dipInTruth_79 rfl rfl ?_
  refine g_callVv dX5_dipInTruth_80 mi_X5_pass ml_X5_112 (ct_X5_pass hs e4 ⟨ok_setB ho hdo.1.2.2.1 hdo.1.2.2.2, ho.2.1, ho.2.2.1, ho.2.2.2.1, ho.2.2.2.2.1, Nat.le_trans (Nat.sub_le _ _) hte⟩) hs.1 rfl rfl rfl (Nat.le_of_ble_eq_true rfl) ⟨lt_r rfl, Nat.le_of_ble_eq_true rfl⟩ (fun M80 h80 => ?_)
  refine g_aload dX5_dipInTruth_83 rfl ?_
  refine g_getI dX5_dipInTruth_85 fl_X5_109 hD.1 rfl ((congrFun (h80.2.i (by omega)) 5).trans ((congrFun (upI_ap (by omega)) 5).trans ((congrFun (upI_ap (by omega)) 5).trans ((congrFun e3 5).trans f6)))) ?_
  refine g_iret dX5_dipInTruth_88 ⟨_, rfl, ?_⟩
  exact ⟨rfl, h80.1, Sd.tr (Sd.tr (Sd.tr (Sd.tr (Sd.tr (Sd.d h22.2 (Nat.le_refl _) (Nat.le_refl _)) (Sd.d f8 (Nat.le_refl _) (Nat.le_refl _))) (Sd.s u3 (by omega) (by omega))) (Sd.s (Sm.pI (Nat.le_refl k) (Nat.lt_succ_self k)) (by omega) (by omega))) (Sd.s (Sm.pI (Nat.le_refl k) (Nat.lt_succ_self k)) (by omega) (by omega))) (Sd.s h80.2 (by omega) (by omega))⟩
theorem ct_X5_carryInTruth {s : St} {q t kD : Nat} (hs : isS k) (hD : isD kD) (hap : k + 15 ≤ kD ∨ kD + 3 ≤ k) (h : RS B M k s) (ho : okSt s) (hq : q < sCn s) (ht : t ≤ 60) : Ct E B yX5_carryInTruth cX5_carryInTruth 4 (some .int) 4 [.ref (B + k), .int (nI q), .int (nI t), .ref (B + kD)] M (Ri (fun r M2 => r = nI (dipD (sBs s q) (sHt s) 0 t).2.2.2.1 ∧ RS B M2 k (carS s q t) ∧ Sd B M M2 k kD)) := by
  have hc := ho.2.2.1
  have hht := ho.2.2.2.1
  have hob := ho.1 q hq
  have hdo := dipD_ok (h := sHt s) (d := 0) (s := t) hob
  refine Ct.of2 (own := RX5) (lv := [(0, .ref (B + k)), (1, .int (nI q)), (2, .int (nI t)), (3, .ref (B + kD))]) pn_X5 rfl (Nat.le_of_ble_eq_true rfl) rfl ?_
  refine g_aload_n dX5_carryInTruth_0 rfl rfl ?_
  refine g_iload_n dX5_carryInTruth_1 rfl rfl ?_
  refine g_callVp dX5_carryInTruth_2 mi_X5_hasBiscuit ml_X5_57 (ct_X5_hasBiscuitN hs h ho (by omega)) hs.1 rfl rfl rfl (Nat.le_of_ble_eq_true rfl) ⟨lt_r rfl, Nat.le_of_ble_eq_true rfl⟩ ?_
  refine g_if_neP (tgt := 10) dX5_carryInTruth_5 (by decide) (fun c_5 => ?_) (fun c_5 => absurd hq c_5)
  refine g_aload_n dX5_carryInTruth_10 rfl rfl ?_
  refine g_aload_n dX5_carryInTruth_11 rfl rfl ?_
  refine g_getR dX5_carryInTruth_12 fl_X5_11 hs.1 rfl ?_
  refine g_iload_n dX5_carryInTruth_15 rfl rfl ?_
  refine g_aald dX5_carryInTruth_16 hs.2.1 rfl (isS_b (by omega)) ?_
  refine g_aload_n dX5_carryInTruth_17 rfl rfl ?_
  refine g_getI dX5_carryInTruth_18 fl_X5_21 hs.1 rfl (h.2.2.2.1) ?_
  refine g_callVv dX5_carryInTruth_21 mi_X2_begin ml_X5_92 (ct_X2_begin hD (hs.2.2.2 _ (by omega)) (by omega) (h.1 q hq) hob) hD.1 rfl rfl rfl (Nat.le_of_ble_eq_true rfl) ⟨lt_r rfl, Nat.le_of_ble_eq_true rfl⟩ (fun M21 h21 => ?_)
  refine g_aload_n dX5_carryInTruth_24 rfl rfl ?_
  refine g_iconst dX5_carryInTruth_25 kI_0 ?_
  refine g_iload_n dX5_carryInTruth_26 rfl rfl ?_
  refine g_callVv dX5_carryInTruth_27 mi_X2_stay ml_X5_98 (ct_X2_stay hD h21.1 (new_ok hob) hht (by omega) (by omega)) hD.1 rfl rfl rfl (Nat.le_of_ble_eq_true rfl) ⟨lt_r rfl, Nat.le_of_ble_eq_true rfl⟩ (fun M27 h27 => ?_)
  have e1 : RS B M27 k s := (h.sm ho h21.2 (by omega)).sm ho h27.2 (by omega)
  rw [Nat.zero_add] at h27
  obtain ⟨⟨f1, f2, f3, f4, f5, f6, f7⟩, f8⟩ := h27
  have f1 : RB M27 (B + (kD + 1)) (B + (kD + 1 + 1)) ((sBs s q).1, (sBs s q).2.1, (dipD (sBs s q) (sHt s) 0 t).1, (dipD (sBs s q) (sHt s) 0 t).2.1) := f1
  have f6 : M27.1 (B + kD) 5 = nI (dipD (sBs s q) (sHt s) 0 t).2.2.2.1 := f6
  refine g_aload_n dX5_carryInTruth_30 rfl rfl ?_
  refine g_getR dX5_carryInTruth_31 fl_X5_11 hs.1 rfl ?_
  refine g_iload_n dX5_carryInTruth_34 rfl rfl ?_
  refine g_aald dX5_carryInTruth_35 hs.2.1 rfl (isS_b (by omega)) ?_
  refine g_aload_n dX5_carryInTruth_36 rfl rfl ?_
  refine g_getR dX5_carryInTruth_37 fl_X5_102 hD.1 rfl ?_
  refine g_callVv dX5_carryInTruth_40 mi_X1_become ml_X5_35 (ct_X1_become (hs.2.2.2 _ (by omega)) hD.2 (by omega)) (hs.2.2.2 _ (by omega)).1 rfl rfl rfl (Nat.le_of_ble_eq_true rfl) ⟨lt_r rfl, Nat.le_of_ble_eq_true rfl⟩ (fun M40 h40 => ?_)
  obtain ⟨⟨u1, u2⟩, u3⟩ := h40
  have e2 := RS_setB e1 ho hq hdo.1.2.2.1 u1 u2 u3 f1
  have e3 : M40.1 (B + kD) = M27.1 (B + kD) := u3.i (by omega)
  refine g_aload_n dX5_carryInTruth_43 rfl rfl ?_
  refine g_iload_n dX5_carryInTruth_44 rfl rfl ?_
  refine g_callVv dX5_carryInTruth_45 mi_X5_pass ml_X5_112 (ct_X5_pass hs e2 ⟨ok_setB ho hdo.1.2.2.1 hdo.1.2.2.2, ho.2⟩) hs.1 rfl rfl rfl (Nat.le_of_ble_eq_true rfl) ⟨lt_r rfl, Nat.le_of_ble_eq_true rfl⟩ (fun M45 h45 => ?_)
  refine g_aload_n dX5_carryInTruth_48 rfl rfl ?_
  refine g_getI dX5_carryInTruth_49 fl_X5_109 hD.1 rfl ((congrFun (h45.2.i (by omega)) 5).trans ((congrFun e3 5).trans f6)) ?_
  refine g_iret dX5_carryInTruth_52 ⟨_, rfl, ?_⟩
  exact ⟨rfl, h45.1, Sd.tr (Sd.tr (Sd.tr (Sd.d h21.2 (Nat.le_refl _) (Nat.le_refl _)) (Sd.d f8 (Nat.le_refl _) (Nat.le_refl _))) (Sd.s u3 (by omega) (by omega))) (Sd.s h45.2 (by omega) (by omega))⟩
theorem ct_X5_eat {s : St} {q : Nat} (hs : isS k) (h : RS B M k s) (ho : okSt s) (hq : q < sCn s) : Ct E B yX5_eat cX5_eat 3 (some .int) 2 [.ref (B + k), .int (nI q)] M (Ri (fun r M2 => r = nI (eatW s q) ∧ RS B M2 k (eatS s q) ∧ Sm B M M2 k (k + 15))) := by
  have hc := ho.2.2.1
  have hob := ho.1 q hq
  refine Ct.of2 (own := RX5) (lv := [(0, .ref (B + k)), (1, .int (nI q))]) pn_X5 rfl (Nat.le_of_ble_eq_true rfl) rfl ?_
  refine g_aload_n dX5_eat_0 rfl rfl ?_
  refine g_iload_n dX5_eat_1 rfl rfl ?_
  refine g_callVp dX5_eat_2 mi_X5_hasBiscuit ml_X5_57 (ct_X5_hasBiscuitN hs h ho (by omega)) hs.1 rfl rfl rfl (Nat.le_of_ble_eq_true rfl) ⟨lt_r rfl, Nat.le_of_ble_eq_true rfl⟩ ?_
  refine g_if_neP (tgt := 10) dX5_eat_5 (by decide) (fun c_5 => ?_) (fun c_5 => absurd hq c_5)
  refine g_aload_n dX5_eat_10 rfl rfl ?_
  refine g_aload_n dX5_eat_11 rfl rfl ?_
  refine g_getR dX5_eat_12 fl_X5_11 hs.1 rfl ?_
  refine g_iload_n dX5_eat_15 rfl rfl ?_
  refine g_aald dX5_eat_16 hs.2.1 rfl (isS_b (by omega)) ?_
  refine g_callVp dX5_eat_17 mi_X5_worthOfCells ml_X5_116 (ct_X5_worthOfCells hs (hs.2.2.2 _ (by omega)) h ho (h.1 q hq) hob) hs.1 rfl rfl rfl (Nat.le_of_ble_eq_true rfl) ⟨lt_r rfl, Nat.le_of_ble_eq_true rfl⟩ ?_
  refine g_istore_n dX5_eat_20 rfl (lt_r rfl) rfl ?_
  refine g_aload_n dX5_eat_21 rfl rfl ?_
  refine g_dup dX5_eat_22 rfl ?_
  refine g_getI dX5_eat_23 fl_X5_51 hs.1 rfl (h.2.2.2.2.2.2.2.1) ?_
  refine g_iload_n dX5_eat_26 rfl rfl ?_
  refine g_iadd dX5_eat_27 rfl ?_
  refine g_putI dX5_eat_28 fp_X5_51 hs.1 rfl ?_
  refine g_aload_n dX5_eat_31 rfl rfl ?_
  refine g_getR dX5_eat_32 fl_X5_11 hs.1 rfl ?_
  refine g_iload_n dX5_eat_35 rfl rfl ?_
  refine g_aald dX5_eat_36 hs.2.1 rfl (isS_b (by omega)) ?_
  refine g_iconst dX5_eat_37 kI_0 ?_
  refine g_putI dX5_eat_38 fp_X5_72 (hs.2.2.2 _ (by omega)).1 rfl ?_
  refine g_iload_n dX5_eat_41 rfl rfl ?_
  refine g_iret dX5_eat_42 ⟨_, rfl, ?_⟩
  obtain ⟨g1, g2, g3, g4, g5, g6, g7, g8, g9, g10⟩ := h
  refine ⟨rfl, ⟨fun j hj => ?_, fun i hi => ?_, ?_, ?_, ?_, ?_, ?_, ?_, ?_, ?_⟩, Sm.tr (Sm.pI (by omega) (by omega)) (Sm.pI (by omega) (by omega))⟩
  · have hj : j < sCn s := hj
    show RB _ _ _ (setB s q 0 (sBs s q).2.2.2 j)
    by_cases e : j = q
    · subst e
      unfold setB
      rw [upF_s]
      refine ⟨?_, ?_, upI_s, fun i hi => absurd hi (Nat.not_lt_zero i)⟩
      · rw [upI_k (by decide), upI_ap (by omega)]; exact (g1 j hj).1
      · rw [upI_k (by decide), upI_ap (by omega)]; exact (g1 j hj).2.1
    · unfold setB
      rw [upF_n e]
      exact ((g1 j hj).sm (Sm.pI (Nat.le_refl k) (Nat.lt_succ_self k)) (by omega) (by omega)).sm (Sm.pI (Nat.le_refl (k + 3 + 2 * q)) (Nat.lt_succ_self _)) (by omega) (by omega)
  · rw [upI_ap (by omega), upI_ap (by omega)]; exact g2 i hi
  all_goals rw [upI_ap (by omega)]
  all_goals simp only [upI_at]
  all_goals first | exact g3 | exact g4 | exact g5 | exact g6 | exact g7 | exact g8 | exact g9 | exact g10 | rfl
theorem ct_X5_draw {s : St} {n : Nat} (hs : isS k) (h : RS B M k s) (ho : okSt s) (hn : 0 < n) (hn2 : n < 2 ^ 31) : Ct E B yX5_draw cX5_draw 2 (some .int) 0 [.ref (B + k), .int (nI n)] M (Ri (fun r M2 => r = nI (drawN (sSd s) n) ∧ RS B M2 k (seedS s (nextI (sSd s))) ∧ Sm B M M2 k (k + 1))) := by
  refine Ct.of2 (own := RX5) (lv := [(0, .ref (B + k)), (1, .int (nI n))]) pn_X5 rfl (Nat.le_of_ble_eq_true rfl) rfl ?_
  refine g_aload_n dX5_draw_0 rfl rfl ?_
  refine g_aload_n dX5_draw_1 rfl rfl ?_
  refine g_getI dX5_draw_2 fl_X5_31 hs.1 rfl (h.2.2.2.2.2.2.2.2.2) ?_
  refine g_ldc dX5_draw_5 kw_X5_134 ?_
  refine g_imul dX5_draw_7 rfl ?_
  refine g_sipush dX5_draw_8 kS_12345 ?_
  refine g_iadd dX5_draw_11 (nextI_eq (sSd s)) ?_
  refine g_putI dX5_draw_12 fp_X5_31 hs.1 rfl ?_
  refine g_iload_n dX5_draw_15 rfl rfl ?_
  refine g_if_leN (tgt := 31) dX5_draw_16 (by decide) rfl (by omega) (fun c_16 => absurd c_16 (by omega)) (fun c_16 => ?_)
  refine g_aload_n dX5_draw_19 rfl rfl ?_
  refine g_getI dX5_draw_20 fl_X5_31 hs.1 rfl (upI_s) ?_
  refine g_bipush dX5_draw_23 kB_16 ?_
  refine g_iushr dX5_draw_25 ((rfl : _ = shI (nextI (sSd s)))) ?_
  refine g_iload_n dX5_draw_26 rfl rfl ?_
  refine g_irem dX5_draw_27 (nI_ne0 hn hn2) ((draw_ok (sd := sSd s) hn hn2).1) ?_
  refine g_goto (tgt := 32) dX5_draw_28 (by decide) ?_
  refine g_iret dX5_draw_32 ⟨_, rfl, ?_⟩
  obtain ⟨g1, g2, g3, g4, g5, g6, g7, g8, g9, g10⟩ := h
  have hc := ho.2.2.1
  refine ⟨rfl, ⟨fun j hj => ?_, fun i hi => ?_, ?_, ?_, ?_, ?_, ?_, ?_, ?_, ?_⟩, Sm.pI (by omega) (by omega)⟩
  · exact (g1 j hj).sm (Sm.pI (Nat.le_refl k) (Nat.lt_succ_self k)) (by omega) (by omega)
  · rw [upI_ap (by omega)]; exact g2 i hi
  all_goals simp only [upI_at]
  all_goals first | exact g3 | exact g4 | exact g5 | exact g6 | exact g7 | exact g8 | exact g9 | rfl
theorem okOfS {s : St} {x : Int32} {M1 : MM} (_ : RS B M1 k (seedS s x)) (ho : okSt s) : okSt (seedS s x) := ho
theorem okOfC {s : St} {q t : Nat} {M1 : MM} (_ : RS B M1 k (carS s q t)) (ho : okSt s) (hq : q < sCn s) : okSt (carS s q t) := ok_car ho hq
theorem okOfD {s : St} {q d t : Nat} {M1 : MM} (_ : RS B M1 k (dipS s q d t)) (ho : okSt s) (hq : q < sCn s) : okSt (dipS s q d t) := ok_dip ho hq
theorem draw6 (sd : Int32) : drawN sd 6 ≤ 60 := Nat.le_of_lt (Nat.lt_trans (draw_ok (sd := sd) (n := 6) (by decide) (by decide)).2 (by decide))
theorem ct_X5_takeTea {s : St} {kD : Nat} (hs : isS k) (hD : isD kD) (hap : k + 15 ≤ kD ∨ kD + 3 ≤ k) (h : RS B M k s) (ho : okSt s) (hz : 0 < sCn s) : Ct E B yX5_takeTea cX5_takeTea 5 (some .int) 5 [.ref (B + k), .ref (B + kD)] M (Ri (fun r M2 => r = nI (teaS s).1 ∧ RS B M2 k (teaS s).2 ∧ Sd B M M2 k kD)) := by
  have hc := ho.2.2.1
  have hq := (draw_ok (sd := sSd s) hz (by omega)).2
  have hob := ho.1 _ hq
  have hn := hob.2.2.1
  refine Ct.of2 (own := RX5) (lv := [(0, .ref (B + k)), (1, .ref (B + kD))]) pn_X5 rfl (Nat.le_of_ble_eq_true rfl) rfl ?_
  refine g_aload_n dX5_takeTea_0 rfl rfl ?_
  refine g_aload_n dX5_takeTea_1 rfl rfl ?_
  refine g_getI dX5_takeTea_2 fl_X5_45 hs.1 rfl (h.2.2.1) ?_
  refine g_callVi dX5_takeTea_5 mi_X5_draw ml_X5_120 (ct_X5_draw hs h ho hz (by omega)) hs.1 rfl rfl rfl (Nat.le_of_ble_eq_true rfl) ⟨lt_r rfl, Nat.le_of_ble_eq_true rfl⟩ (fun x5 M5 h5 => ?_)
  obtain ⟨rfl, a1, a2⟩ := h5
  have ho1 := ok_seed (sd := nextI (sSd s)) ho
  refine g_istore_n dX5_takeTea_8 rfl (lt_r rfl) rfl ?_
  refine g_aload_n dX5_takeTea_9 rfl rfl ?_
  refine g_iload_n dX5_takeTea_10 rfl rfl ?_
  refine g_callVp dX5_takeTea_11 mi_X5_hasBiscuit ml_X5_57 (ct_X5_hasBiscuitN hs a1 ho1 (by omega)) hs.1 rfl rfl rfl (Nat.le_of_ble_eq_true rfl) ⟨lt_r rfl, Nat.le_of_ble_eq_true rfl⟩ ?_
  refine g_if_eqP (tgt := 29) dX5_takeTea_14 (by decide) (fun c_14 => absurd hq c_14) (fun c_14 => ?_)
  refine g_aload_n dX5_takeTea_17 rfl rfl ?_
  refine g_getR dX5_takeTea_18 fl_X5_11 hs.1 rfl ?_
  refine g_iload_n dX5_takeTea_21 rfl rfl ?_
  refine g_aald dX5_takeTea_22 hs.2.1 rfl (isS_b (by omega)) ?_
  refine g_getI dX5_takeTea_23 fl_X5_72 (hs.2.2.2 _ (by omega)).1 rfl (show M5.1 (B + (k + 3 + 2 * drawN (sSd s) (sCn s))) 2 = nI (sBs s (drawN (sSd s) (sCn s))).2.2.1 from (a1.1 _ hq).2.2.1) ?_
  refine g_if_neN (tgt := 31) dX5_takeTea_26 (by decide) rfl (by omega) (fun c_26 => ?_) (fun c_26 => ?_)
  · refine g_aload_n dX5_takeTea_31 rfl rfl ?_
    refine g_aload_n dX5_takeTea_32 rfl rfl ?_
    refine g_getR dX5_takeTea_33 fl_X5_11 hs.1 rfl ?_
    refine g_iload_n dX5_takeTea_36 rfl rfl ?_
    refine g_aald dX5_takeTea_37 hs.2.1 rfl (isS_b (by omega)) ?_
    refine g_getI dX5_takeTea_38 fl_X5_72 (hs.2.2.2 _ (by omega)).1 rfl (show M5.1 (B + (k + 3 + 2 * drawN (sSd s) (sCn s))) 2 = nI (sBs s (drawN (sSd s) (sCn s))).2.2.1 from (a1.1 _ hq).2.2.1) ?_
    refine g_iconst dX5_takeTea_41 kI_1 ?_
    refine g_iadd dX5_takeTea_42 (nI_add _ _) ?_
    refine g_callVi dX5_takeTea_43 mi_X5_draw ml_X5_120 (ct_X5_draw (n := (sBs s (drawN (sSd s) (sCn s))).2.2.1 + 1) hs a1 ho1 (by omega) (by omega)) hs.1 rfl rfl rfl (Nat.le_of_ble_eq_true rfl) ⟨lt_r rfl, Nat.le_of_ble_eq_true rfl⟩ (fun x43 M43 h43 => ?_)
    obtain ⟨rfl, b1, b2⟩ := h43
    have ho2 := ok_seed (sd := nextI (sSd (seedS s (nextI (sSd s))))) ho1
    have hd := (draw_ok (sd := sSd (seedS s (nextI (sSd s)))) (n := (sBs s (drawN (sSd s) (sCn s))).2.2.1 + 1) (Nat.succ_pos _) (by omega)).2
    refine g_istore_n dX5_takeTea_46 rfl (lt_r rfl) rfl ?_
    refine g_aload_n dX5_takeTea_47 rfl rfl ?_
    refine g_bipush dX5_takeTea_48 kB_10 ?_
    refine g_callVi dX5_takeTea_50 mi_X5_draw ml_X5_120 (ct_X5_draw hs b1 ho2 (by decide) (by decide)) hs.1 rfl rfl rfl (Nat.le_of_ble_eq_true rfl) ⟨lt_r rfl, Nat.le_of_ble_eq_true rfl⟩ (fun x50 M50 h50 => ?_)
    obtain ⟨rfl, d1, d2⟩ := h50
    have ho3 := ok_seed (sd := nextI (sSd (seedS (seedS s (nextI (sSd s))) (nextI (sSd (seedS s (nextI (sSd s)))))))) ho2
    have ht := (draw_ok (sd := sSd (seedS (seedS s (nextI (sSd s))) (nextI (sSd (seedS s (nextI (sSd s))))))) (n := 10) (by decide) (by decide)).2
    refine g_istore dX5_takeTea_53 (lt_r rfl) rfl ?_
    refine g_aload_n dX5_takeTea_55 rfl rfl ?_
    refine g_iload_n dX5_takeTea_56 rfl rfl ?_
    refine g_iload_n dX5_takeTea_57 rfl rfl ?_
    refine g_iload dX5_takeTea_58 rfl ?_
    refine g_aload_n dX5_takeTea_60 rfl rfl ?_
    refine g_callVi dX5_takeTea_61 mi_X5_dipInTruth ml_X5_123 (ct_X5_dipInTruth hs hD hap d1 ho3 hq (by omega) (by omega)) hs.1 rfl rfl rfl (Nat.le_of_ble_eq_true rfl) ⟨lt_r rfl, Nat.le_of_ble_eq_true rfl⟩ (fun x61 M61 h61 => ?_)
    obtain ⟨rfl, j1, j2⟩ := h61
    have ho4 := okOfD j1 ho3 hq
    refine g_pop dX5_takeTea_64 rfl ?_
    refine g_aload_n dX5_takeTea_65 rfl rfl ?_
    refine g_iload_n dX5_takeTea_66 rfl rfl ?_
    refine g_aload_n dX5_takeTea_67 rfl rfl ?_
    refine g_bipush dX5_takeTea_68 kB_6 ?_
    refine g_callVi dX5_takeTea_70 mi_X5_draw ml_X5_120 (ct_X5_draw hs j1 ho4 (by decide) (by decide)) hs.1 rfl rfl rfl (Nat.le_of_ble_eq_true rfl) ⟨lt_r rfl, Nat.le_of_ble_eq_true rfl⟩ (fun x70 M70 h70 => ?_)
    obtain ⟨rfl, l1, l2⟩ := h70
    have ho5 := okOfS l1 ho4
    refine g_aload_n dX5_takeTea_73 rfl rfl ?_
    refine g_callVi dX5_takeTea_74 mi_X5_carryInTruth ml_X5_127 (ct_X5_carryInTruth hs hD hap l1 ho5 hq (draw6 _)) hs.1 rfl rfl rfl (Nat.le_of_ble_eq_true rfl) ⟨lt_r rfl, Nat.le_of_ble_eq_true rfl⟩ (fun x74 M74 h74 => ?_)
    obtain ⟨rfl, m1, m2⟩ := h74
    have ho6 := okOfC m1 ho5 hq
    refine g_pop dX5_takeTea_77 rfl ?_
    refine g_aload_n dX5_takeTea_78 rfl rfl ?_
    refine g_iload_n dX5_takeTea_79 rfl rfl ?_
    refine g_callVi dX5_takeTea_80 mi_X5_eat ml_X5_131 (ct_X5_eat hs m1 ho6 hq) hs.1 rfl rfl rfl (Nat.le_of_ble_eq_true rfl) ⟨lt_r rfl, Nat.le_of_ble_eq_true rfl⟩ (fun x80 M80 h80 => ?_)
    obtain ⟨rfl, n1, n2⟩ := h80
    refine g_iret dX5_takeTea_83 ⟨_, rfl, ?_⟩
    have e : teaS s = _ := if_neg (show ¬ (sBs s (drawN (sSd s) (sCn s))).2.2.1 = 0 by omega)
    rw [e]
    exact ⟨rfl, n1, Sd.tr (Sd.tr (Sd.tr (Sd.tr (Sd.tr (Sd.tr (Sd.s a2 (by omega) (by omega)) (Sd.s b2 (by omega) (by omega))) (Sd.s d2 (by omega) (by omega))) j2) (Sd.s l2 (by omega) (by omega))) m2) (Sd.s n2 (by omega) (by omega))⟩
  · refine g_iconst dX5_takeTea_29 kI_0 ?_
    refine g_iret dX5_takeTea_30 ⟨_, rfl, ?_⟩
    have e : teaS s = (0, seedS s (nextI (sSd s))) := if_pos c_26
    rw [e]
    exact ⟨rfl, a1, Sd.s a2 (by omega) (by omega)⟩
end STA
