/-! the class's Dunk -/
section DUN
variable {E : EE} {B : Nat} {M : MM} {k : Nat}
theorem ct_X2_isWhole {kd a h t : Nat} {D : Dk} (hd : isD k) (hR : RD B M k kd a h t D) (ho : okD kd a t D) : Ct E B yX2_isWhole cX2_isWhole 1 (some .boolean) 0 [.ref (B + k)] M (Rp (bp (D.2.2.2.1 = 0)) M) := by
  obtain ⟨r1, r2, r3, r4, r5, r6, r7⟩ := hR
  obtain ⟨o1, p1, p2, p3⟩ := ho
  refine Ct.of2 (own := RX2) (lv := [(0, .ref (B + k))]) pn_X2 rfl (Nat.le_of_ble_eq_true rfl) rfl ?_
  refine g_aload_n dX2_isWhole_0 rfl rfl ?_
  refine g_getI dX2_isWhole_1 fl_X2_35 hd.1 rfl (r6) ?_
  refine g_if_neN (tgt := 11) dX2_isWhole_4 (by decide) rfl (by omega) (fun c_4 => ?_) (fun c_4 => ?_)
  · refine g_iconst dX2_isWhole_11 kI_0 ?_
    refine g_zret dX2_isWhole_12 (by first | exact Or.inl rfl | exact Or.inr rfl | exact bp_01) ⟨_, rfl, ?_⟩
    first | exact ⟨bp_t c_4, rfl⟩ | exact ⟨bp_f (by omega), rfl⟩
  · refine g_iconst dX2_isWhole_7 kI_1 ?_
    refine g_goto (tgt := 12) dX2_isWhole_8 (by decide) ?_
    refine g_zret dX2_isWhole_12 (by first | exact Or.inl rfl | exact Or.inr rfl | exact bp_01) ⟨_, rfl, ?_⟩
    first | exact ⟨bp_t c_4, rfl⟩ | exact ⟨bp_f (by omega), rfl⟩
theorem ct_X2_enter {kd a h t d : Nat} {D : Dk} (hd : isD k) (hR : RD B M k kd a h t D) (ho : okD kd a t D) (hdd : d < 2 ^ 31) : Ct E B yX2_enter cX2_enter 2 none 1 [.ref (B + k), .int (nI d)] M (Rv (fun M2 => RD B M2 k kd a h t (entD d D) ∧ Sm B M M2 k (k + 3))) := by
  obtain ⟨r1, r2, r3, r4, r5, r6, r7⟩ := hR
  obtain ⟨⟨o1, o2, o3, o4⟩, p1, p2, p3⟩ := ho
  have o3 : D.1 ≤ 12 := o3
  refine Ct.of2 (own := RX2) (lv := [(0, .ref (B + k)), (1, .int (nI d))]) pn_X2 rfl (Nat.le_of_ble_eq_true rfl) rfl ?_
  refine g_aload_n dX2_enter_0 rfl rfl ?_
  refine g_iload_n dX2_enter_1 rfl rfl ?_
  refine g_aload_n dX2_enter_2 rfl rfl ?_
  refine g_getR dX2_enter_3 fl_X2_12 hd.1 rfl ?_
  refine g_getI dX2_enter_6 fl_X2_48 hd.2.1 rfl (r1.2.2.1) ?_
  refine g_mmin dX2_enter_9 ml_X2_51 (min_nI (by omega) (by show D.1 < _; omega)) ⟨lt_r rfl, Nat.le_of_ble_eq_true rfl⟩ ?_
  refine g_putI dX2_enter_12 fp_X2_26 hd.1 rfl ?_
  refine g_vret dX2_enter_15 ⟨rfl, ?_⟩
  refine ⟨⟨?_, ?_⟩, Sm.pI (by omega) (by omega)⟩
  · exact RB.sm r1 (Sm.pI (Nat.le_refl k) (Nat.lt_succ_self k)) (by omega) (by omega)
  · refine ⟨?_, ?_, ?_, ?_, ?_, ?_⟩ <;> rw [upI_at]
    · exact r2
    · rfl
    · exact r4
    · exact r5
    · exact r6
    · exact r7
theorem ct_X2_begin {k2 h : Nat} {b : Bi} (hd : isD k) (hb : isB k2) (hne : k + 3 ≤ k2 ∨ k2 + 2 ≤ k) (hR : RB M (B + k2) (B + (k2 + 1)) b) (ho : okB b) : Ct E B yX2_begin cX2_begin 3 none 2 [.ref (B + k), .ref (B + k2), .int (nI h)] M (Rv (fun M2 => RD B M2 k b.1 b.2.1 h 0 (newD b.2.2.1 b.2.2.2) ∧ Sm B M M2 k (k + 3))) := by
  obtain ⟨o1, o2, o3, o4⟩ := ho
  refine Ct.of2 (own := RX2) (lv := [(0, .ref (B + k)), (1, .ref (B + k2)), (2, .int (nI h))]) pn_X2 rfl (Nat.le_of_ble_eq_true rfl) rfl ?_
  refine g_aload_n dX2_begin_0 rfl rfl ?_
  refine g_getR dX2_begin_1 fl_X2_12 hd.1 rfl ?_
  refine g_aload_n dX2_begin_4 rfl rfl ?_
  refine g_callVv dX2_begin_5 mi_X1_become ml_X2_18 (ct_X1_become hd.2 hb (by omega)) hd.2.1 rfl rfl rfl (Nat.le_of_ble_eq_true rfl) ⟨lt_r rfl, Nat.le_of_ble_eq_true rfl⟩ (fun M5 h5 => ?_)
  refine g_aload_n dX2_begin_8 rfl rfl ?_
  refine g_iload_n dX2_begin_9 rfl rfl ?_
  refine g_putI dX2_begin_10 fp_X2_22 hd.1 rfl ?_
  refine g_aload_n dX2_begin_13 rfl rfl ?_
  refine g_iconst dX2_begin_14 kI_0 ?_
  refine g_putI dX2_begin_15 fp_X2_26 hd.1 rfl ?_
  refine g_aload_n dX2_begin_18 rfl rfl ?_
  refine g_iconst dX2_begin_19 kI_0 ?_
  refine g_putI dX2_begin_20 fp_X2_29 hd.1 rfl ?_
  refine g_aload_n dX2_begin_23 rfl rfl ?_
  refine g_iconst dX2_begin_24 kI_m1 ?_
  refine g_putI dX2_begin_25 fp_X2_32 hd.1 rfl ?_
  refine g_aload_n dX2_begin_28 rfl rfl ?_
  refine g_iconst dX2_begin_29 kI_0 ?_
  refine g_putI dX2_begin_30 fp_X2_35 hd.1 rfl ?_
  refine g_aload_n dX2_begin_33 rfl rfl ?_
  refine g_iconst dX2_begin_34 kI_0 ?_
  refine g_putI dX2_begin_35 fp_X2_38 hd.1 rfl ?_
  refine g_vret dX2_begin_38 ⟨rfl, ?_⟩
  obtain ⟨⟨g1, g2⟩, g3⟩ := h5
  refine ⟨⟨⟨?_, ?_, ?_, fun i hi => ?_⟩, ?_⟩, Sm.tr (g3.up (by omega) (by omega)) (Sm.tr (Sm.tr (Sm.tr (Sm.tr (Sm.tr (Sm.pI (by omega) (by omega)) (Sm.pI (by omega) (by omega))) (Sm.pI (by omega) (by omega))) (Sm.pI (by omega) (by omega))) (Sm.pI (by omega) (by omega))) (Sm.pI (by omega) (by omega)))⟩
  · iterate 6 rw [upI_ap (by omega)]
    rw [g1 0 (by omega)]; exact hR.1
  · iterate 6 rw [upI_ap (by omega)]
    rw [g1 1 (by omega)]; exact hR.2.1
  · iterate 6 rw [upI_ap (by omega)]
    rw [g1 2 (by omega)]; exact hR.2.2.1
  · have hi : i < b.2.2.1 := hi
    iterate 6 rw [upI_ap (by omega)]
    rw [g2 i (by omega)]; exact hR.2.2.2 i hi
  · refine ⟨?_, ?_, ?_, ?_, ?_, ?_⟩ <;> simp [upI_at, newD, brkI]
theorem ct_X2_beginDry {k2 h : Nat} {b : Bi} (hd : isD k) (hb : isB k2) (hne : k + 3 ≤ k2 ∨ k2 + 2 ≤ k) (hR : RB M (B + k2) (B + (k2 + 1)) b) (ho : okB b) : Ct E B yX2_beginDry cX2_beginDry 3 none 3 [.ref (B + k), .ref (B + k2), .int (nI h)] M (Rv (fun M2 => RD B M2 k b.1 b.2.1 h 0 (newD b.2.2.1 (fun _ => 0)) ∧ Sm B M M2 k (k + 3))) := by
  refine Ct.of2 (own := RX2) (lv := [(0, .ref (B + k)), (1, .ref (B + k2)), (2, .int (nI h))]) pn_X2 rfl (Nat.le_of_ble_eq_true rfl) rfl ?_
  refine g_aload_n dX2_beginDry_0 rfl rfl ?_
  refine g_aload_n dX2_beginDry_1 rfl rfl ?_
  refine g_iload_n dX2_beginDry_2 rfl rfl ?_
  refine g_callVv dX2_beginDry_3 mi_X2_begin ml_X2_41 (ct_X2_begin hd hb hne hR ho) hd.1 rfl rfl rfl (Nat.le_of_ble_eq_true rfl) ⟨lt_r rfl, Nat.le_of_ble_eq_true rfl⟩ (fun M3 h3 => ?_)
  refine g_aload_n dX2_beginDry_6 rfl rfl ?_
  refine g_getR dX2_beginDry_7 fl_X2_12 hd.1 rfl ?_
  refine g_callVv dX2_beginDry_10 mi_X1_dry ml_X2_45 (ct_X1_dry hd.2) hd.2.1 rfl rfl rfl (Nat.le_of_ble_eq_true rfl) ⟨lt_r rfl, Nat.le_of_ble_eq_true rfl⟩ (fun M10 h10 => ?_)
  refine g_vret dX2_beginDry_13 ⟨rfl, ?_⟩
  obtain ⟨g1, g2⟩ := h3
  obtain ⟨g3, g4⟩ := h10
  obtain ⟨⟨f1, f2, f3, f4⟩, f5⟩ := g1
  obtain ⟨o1, o2, o3, o4⟩ := ho
  refine ⟨⟨⟨?_, ?_, ?_, fun i hi => ?_⟩, ?_⟩, g2.tr (g4.up (by omega) (by omega))⟩
  · rw [g4.i (by omega)]; exact f1
  · rw [g4.i (by omega)]; exact f2
  · rw [g4.i (by omega)]; exact f3
  · have hi : i < b.2.2.1 := hi
    exact g3 i (by omega)
  · rw [g4.i (by omega)]; exact f5
theorem ct_X2_goOnFrom {k2 kd a h t : Nat} {D : Dk} (hd : isD k) (hd2 : isD k2) (hne : k + 3 ≤ k2 ∨ k2 + 3 ≤ k) (hR : RD B M k2 kd a h t D) (ho : okD kd a t D) : Ct E B yX2_goOnFrom cX2_goOnFrom 2 none 2 [.ref (B + k), .ref (B + k2)] M (Rv (fun M2 => RD B M2 k kd a h t D ∧ Sm B M M2 k (k + 3))) := by
  obtain ⟨r1, r2, r3, r4, r5, r6, r7⟩ := hR
  obtain ⟨⟨o1, o2, o3, o4⟩, p1, p2, p3⟩ := ho
  have o3 : D.1 ≤ 12 := o3
  refine Ct.of2 (own := RX2) (lv := [(0, .ref (B + k)), (1, .ref (B + k2))]) pn_X2 rfl (Nat.le_of_ble_eq_true rfl) rfl ?_
  refine g_aload_n dX2_goOnFrom_0 rfl rfl ?_
  refine g_getR dX2_goOnFrom_1 fl_X2_12 hd.1 rfl ?_
  refine g_aload_n dX2_goOnFrom_4 rfl rfl ?_
  refine g_getR dX2_goOnFrom_5 fl_X2_12 hd2.1 rfl ?_
  refine g_callVv dX2_goOnFrom_8 mi_X1_become ml_X2_18 (ct_X1_become hd.2 hd2.2 (by omega)) hd.2.1 rfl rfl rfl (Nat.le_of_ble_eq_true rfl) ⟨lt_r rfl, Nat.le_of_ble_eq_true rfl⟩ (fun M8 h8 => ?_)
  refine g_aload_n dX2_goOnFrom_11 rfl rfl ?_
  refine g_aload_n dX2_goOnFrom_12 rfl rfl ?_
  refine g_getI dX2_goOnFrom_13 fl_X2_22 hd2.1 rfl ((by rw [h8.2.i (by omega)]; exact r2 : _ = nI h)) ?_
  refine g_putI dX2_goOnFrom_16 fp_X2_22 hd.1 rfl ?_
  refine g_aload_n dX2_goOnFrom_19 rfl rfl ?_
  refine g_aload_n dX2_goOnFrom_20 rfl rfl ?_
  refine g_getI dX2_goOnFrom_21 fl_X2_26 hd2.1 rfl ((by rw [upI_ap (by omega), h8.2.i (by omega)]; exact r3 : _ = nI D.2.2.1)) ?_
  refine g_putI dX2_goOnFrom_24 fp_X2_26 hd.1 rfl ?_
  refine g_aload_n dX2_goOnFrom_27 rfl rfl ?_
  refine g_aload_n dX2_goOnFrom_28 rfl rfl ?_
  refine g_getI dX2_goOnFrom_29 fl_X2_29 hd2.1 rfl ((by rw [upI_ap (by omega), upI_ap (by omega), h8.2.i (by omega)]; exact r4 : _ = nI t)) ?_
  refine g_putI dX2_goOnFrom_32 fp_X2_29 hd.1 rfl ?_
  refine g_aload_n dX2_goOnFrom_35 rfl rfl ?_
  refine g_aload_n dX2_goOnFrom_36 rfl rfl ?_
  refine g_getI dX2_goOnFrom_37 fl_X2_32 hd2.1 rfl ((by rw [upI_ap (by omega), upI_ap (by omega), upI_ap (by omega), h8.2.i (by omega)]; exact r5 : _ = brkI D.2.2.2.2.2)) ?_
  refine g_putI dX2_goOnFrom_40 fp_X2_32 hd.1 rfl ?_
  refine g_aload_n dX2_goOnFrom_43 rfl rfl ?_
  refine g_aload_n dX2_goOnFrom_44 rfl rfl ?_
  refine g_getI dX2_goOnFrom_45 fl_X2_35 hd2.1 rfl ((by rw [upI_ap (by omega), upI_ap (by omega), upI_ap (by omega), upI_ap (by omega), h8.2.i (by omega)]; exact r6 : _ = nI D.2.2.2.1)) ?_
  refine g_putI dX2_goOnFrom_48 fp_X2_35 hd.1 rfl ?_
  refine g_aload_n dX2_goOnFrom_51 rfl rfl ?_
  refine g_aload_n dX2_goOnFrom_52 rfl rfl ?_
  refine g_getI dX2_goOnFrom_53 fl_X2_38 hd2.1 rfl ((by rw [upI_ap (by omega), upI_ap (by omega), upI_ap (by omega), upI_ap (by omega), upI_ap (by omega), h8.2.i (by omega)]; exact r7 : _ = nI D.2.2.2.2.1)) ?_
  refine g_putI dX2_goOnFrom_56 fp_X2_38 hd.1 rfl ?_
  refine g_vret dX2_goOnFrom_59 ⟨rfl, ?_⟩
  obtain ⟨⟨g1, g2⟩, g3⟩ := h8
  refine ⟨⟨⟨?_, ?_, ?_, fun i hi => ?_⟩, ?_⟩, Sm.tr (g3.up (by omega) (by omega)) (Sm.tr (Sm.tr (Sm.tr (Sm.tr (Sm.tr (Sm.pI (by omega) (by omega)) (Sm.pI (by omega) (by omega))) (Sm.pI (by omega) (by omega))) (Sm.pI (by omega) (by omega))) (Sm.pI (by omega) (by omega))) (Sm.pI (by omega) (by omega)))⟩
  · iterate 6 rw [upI_ap (by omega)]
    rw [g1 0 (by omega)]; exact r1.1
  · iterate 6 rw [upI_ap (by omega)]
    rw [g1 1 (by omega)]; exact r1.2.1
  · iterate 6 rw [upI_ap (by omega)]
    rw [g1 2 (by omega)]; exact r1.2.2.1
  · have hi : i < D.1 := hi
    iterate 6 rw [upI_ap (by omega)]
    rw [g2 i (by omega)]; exact r1.2.2.2 i hi
  · refine ⟨?_, ?_, ?_, ?_, ?_, ?_⟩ <;> simp [upI_at]
end DUN
