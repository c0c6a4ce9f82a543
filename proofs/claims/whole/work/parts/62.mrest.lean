/-! the model: back from the image; image, restore, status -/
theorem rst_len {y : Sys} {i q : Nat} (ho : okY y) (hq : q < 8) (z : (yH (rstY y i) q).1 = 1) : (yH (rstY y i) q).2.2.1 ≤ 160 := by
  have h1 := (ho.1 q hq).2.1
  have e : yH (rstY y i) q = if q < i then clrH (sCn (yI y)) (yH y q) else yH y q := rfl
  rw [e] at z ⊢
  by_cases c : q < i
  · rw [if_pos c] at z ⊢
    unfold clrH at z ⊢
    split at z
    · cases z
    · rename_i w
      rw [if_neg w]
      exact (h1 z).2
  · rw [if_neg c] at z ⊢
    exact (h1 z).2
section X7P
variable {E : EE} {B : Nat} {M : MM}
theorem ct_allB_95 {s : St} (h : RK B M 95 s) (ho : okSt s) : Ct E B yX7_all cX7_all 4 none 1 [.ref (B + 80), .ref (B + 95), .int (nI 1)] M (Rv (fun M2 => RN B M2 s ∧ Fk B M M2 [82, 83, 84, 85, 86] [0, 1, 2, 3, 4, 5, 6, 7])) := by
  have hcn := ho.2.2.1
  refine Ct.of2 (own := RX7) (lv := [(0, .ref (B + 80)), (1, .ref (B + 95)), (2, .int (nI 1))]) pn_X7 rfl (Nat.le_of_ble_eq_true rfl) rfl ?_
  refine g_aload_n dX7_all_0 rfl rfl ?_
  refine g_aload_n dX7_all_1 rfl rfl ?_
  refine g_getR dX7_all_2 fl_X7_29 rfl rfl ?_
  refine g_bipush dX7_all_5 kB_6 ?_
  refine g_aload_n dX7_all_7 rfl rfl ?_
  refine g_iconst dX7_all_8 kI_0 ?_
  refine g_iload_n dX7_all_9 rfl rfl ?_
  refine g_callVi dX7_all_10 mi_X7_carries ml_X7_154 (ct_carB (k1 := 82) (k2 := 95) (g := 6) rfl rfl (by decide) rfl (by decide) (by decide) (by decide)) rfl rfl rfl rfl (Nat.le_of_ble_eq_true rfl) ⟨lt_r rfl, Nat.le_of_ble_eq_true rfl⟩ (fun x10 M10 h10 => ?_)
  obtain ⟨rfl, a1, a2⟩ := h10
  refine g_istore_n dX7_all_13 rfl (lt_r rfl) rfl ?_
  refine g_aload_n dX7_all_14 rfl rfl ?_
  refine g_aload_n dX7_all_15 rfl rfl ?_
  refine g_getR dX7_all_16 fl_X7_32 rfl rfl ?_
  refine g_bipush dX7_all_19 kB_6 ?_
  refine g_aload_n dX7_all_21 rfl rfl ?_
  refine g_iload_n dX7_all_22 rfl rfl ?_
  refine g_iload_n dX7_all_23 rfl rfl ?_
  refine g_callVi dX7_all_24 mi_X7_carries ml_X7_154 (ct_carB (k1 := 83) (k2 := 95) (g := 12) rfl rfl (by decide) rfl (by decide) (by decide) (by decide)) rfl rfl rfl rfl (Nat.le_of_ble_eq_true rfl) ⟨lt_r rfl, Nat.le_of_ble_eq_true rfl⟩ (fun x24 M24 h24 => ?_)
  obtain ⟨rfl, b1, b2⟩ := h24
  refine g_istore_n dX7_all_27 rfl (lt_r rfl) rfl ?_
  refine g_aload_n dX7_all_28 rfl rfl ?_
  refine g_aload_n dX7_all_29 rfl rfl ?_
  refine g_getR dX7_all_30 fl_X7_35 rfl rfl ?_
  refine g_bipush dX7_all_33 kB_6 ?_
  refine g_aload_n dX7_all_35 rfl rfl ?_
  refine g_iload_n dX7_all_36 rfl rfl ?_
  refine g_iload_n dX7_all_37 rfl rfl ?_
  refine g_callVi dX7_all_38 mi_X7_carries ml_X7_154 (ct_carB (k1 := 84) (k2 := 95) (g := 18) rfl rfl (by decide) rfl (by decide) (by decide) (by decide)) rfl rfl rfl rfl (Nat.le_of_ble_eq_true rfl) ⟨lt_r rfl, Nat.le_of_ble_eq_true rfl⟩ (fun x38 M38 h38 => ?_)
  obtain ⟨rfl, c1, c2⟩ := h38
  refine g_istore_n dX7_all_41 rfl (lt_r rfl) rfl ?_
  refine g_aload_n dX7_all_42 rfl rfl ?_
  refine g_aload_n dX7_all_43 rfl rfl ?_
  refine g_getR dX7_all_44 fl_X7_38 rfl rfl ?_
  refine g_bipush dX7_all_47 kB_72 ?_
  refine g_aload_n dX7_all_49 rfl rfl ?_
  refine g_iload_n dX7_all_50 rfl rfl ?_
  refine g_iload_n dX7_all_51 rfl rfl ?_
  refine g_callVi dX7_all_52 mi_X7_carries ml_X7_154 (ct_carB (k1 := 85) (k2 := 95) (g := 90) rfl rfl (by decide) rfl (by decide) (by decide) (by decide)) rfl rfl rfl rfl (Nat.le_of_ble_eq_true rfl) ⟨lt_r rfl, Nat.le_of_ble_eq_true rfl⟩ (fun x52 M52 h52 => ?_)
  obtain ⟨rfl, d1, d2⟩ := h52
  refine g_istore_n dX7_all_55 rfl (lt_r rfl) rfl ?_
  refine g_aload_n dX7_all_56 rfl rfl ?_
  refine g_aload_n dX7_all_57 rfl rfl ?_
  refine g_getR dX7_all_58 fl_X7_41 rfl rfl ?_
  refine g_bipush dX7_all_61 kB_10 ?_
  refine g_aload_n dX7_all_63 rfl rfl ?_
  refine g_iload_n dX7_all_64 rfl rfl ?_
  refine g_iload_n dX7_all_65 rfl rfl ?_
  refine g_callVi dX7_all_66 mi_X7_carries ml_X7_154 (ct_carB (k1 := 86) (k2 := 95) (g := 100) rfl rfl (by decide) rfl (by decide) (by decide) (by decide)) rfl rfl rfl rfl (Nat.le_of_ble_eq_true rfl) ⟨lt_r rfl, Nat.le_of_ble_eq_true rfl⟩ (fun x66 M66 h66 => ?_)
  obtain ⟨rfl, e1, e2⟩ := h66
  refine g_istore_n dX7_all_69 rfl (lt_r rfl) rfl ?_
  refine g_iload_n dX7_all_70 rfl rfl ?_
  refine g_if_eqN (tgt := 149) dX7_all_71 (by decide) rfl (by omega) (fun c_71 => absurd c_71 (by omega)) (fun c_71 => ?_)
  have f1 : Fk B M M10 [82, 83, 84, 85, 86] [0, 1, 2, 3, 4, 5, 6, 7] := a2.up (by decide) (by decide)
  have f2 := f1.tr (b2.up (by decide) (by decide))
  have f3 := f2.tr (c2.up (by decide) (by decide))
  have f4 := f3.tr (d2.up (by decide) (by decide))
  have f5 := f4.tr (e2.up (by decide) (by decide))
  have eK : M66.1 (B + 95) = M.1 (B + 95) := f5.i (by decide) (by decide)
  obtain ⟨r1, r2, r3, r4, r5, r6, r7, r8, r9, r10⟩ := h
  refine g_aload_n dX7_all_74 rfl rfl ?_
  refine g_aload_n dX7_all_75 rfl rfl ?_
  refine g_iload_n dX7_all_76 rfl rfl ?_
  refine g_iald dX7_all_77 rfl rfl (by omega) ((congrFun eK _).trans r3) ?_
  refine g_putI dX7_all_78 fp_X7_90 rfl rfl ?_
  refine g_aload_n dX7_all_81 rfl rfl ?_
  refine g_aload_n dX7_all_82 rfl rfl ?_
  refine g_iload_n dX7_all_83 rfl rfl ?_
  refine g_iconst dX7_all_84 kI_1 ?_
  refine g_iadd dX7_all_85 (nI_add _ _) ?_
  refine g_iald dX7_all_86 rfl rfl (by omega) ((by (repeat rw [upI_ap (by decide)]); exact (congrFun eK _).trans r4 : _ = nI (sHt s))) ?_
  refine g_putI dX7_all_87 fp_X7_7 rfl rfl ?_
  refine g_aload_n dX7_all_90 rfl rfl ?_
  refine g_aload_n dX7_all_91 rfl rfl ?_
  refine g_iload_n dX7_all_92 rfl rfl ?_
  refine g_iconst dX7_all_93 kI_2 ?_
  refine g_iadd dX7_all_94 (nI_add _ _) ?_
  refine g_iald dX7_all_95 rfl rfl (by omega) ((by (repeat rw [upI_ap (by decide)]); exact (congrFun eK _).trans r5 : _ = nI (sLo s))) ?_
  refine g_putI dX7_all_96 fp_X7_13 rfl rfl ?_
  refine g_aload_n dX7_all_99 rfl rfl ?_
  refine g_aload_n dX7_all_100 rfl rfl ?_
  refine g_iload_n dX7_all_101 rfl rfl ?_
  refine g_iconst dX7_all_102 kI_3 ?_
  refine g_iadd dX7_all_103 (nI_add _ _) ?_
  refine g_iald dX7_all_104 rfl rfl (by omega) ((by (repeat rw [upI_ap (by decide)]); exact (congrFun eK _).trans r6 : _ = nI (sTe s))) ?_
  refine g_putI dX7_all_105 fp_X7_16 rfl rfl ?_
  refine g_aload_n dX7_all_108 rfl rfl ?_
  refine g_aload_n dX7_all_109 rfl rfl ?_
  refine g_iload_n dX7_all_110 rfl rfl ?_
  refine g_iconst dX7_all_111 kI_4 ?_
  refine g_iadd dX7_all_112 (nI_add _ _) ?_
  refine g_iald dX7_all_113 rfl rfl (by omega) ((by (repeat rw [upI_ap (by decide)]); exact (congrFun eK _).trans r7 : _ = sSl s)) ?_
  refine g_putI dX7_all_114 fp_X7_158 rfl rfl ?_
  refine g_aload_n dX7_all_117 rfl rfl ?_
  refine g_aload_n dX7_all_118 rfl rfl ?_
  refine g_iload_n dX7_all_119 rfl rfl ?_
  refine g_iconst dX7_all_120 kI_5 ?_
  refine g_iadd dX7_all_121 (nI_add _ _) ?_
  refine g_iald dX7_all_122 rfl rfl (by omega) ((by (repeat rw [upI_ap (by decide)]); exact (congrFun eK _).trans r8 : _ = sPl s)) ?_
  refine g_putI dX7_all_123 fp_X7_161 rfl rfl ?_
  refine g_aload_n dX7_all_126 rfl rfl ?_
  refine g_aload_n dX7_all_127 rfl rfl ?_
  refine g_iload_n dX7_all_128 rfl rfl ?_
  refine g_bipush dX7_all_129 kB_6 ?_
  refine g_iadd dX7_all_131 (nI_add _ _) ?_
  refine g_iald dX7_all_132 rfl rfl (by omega) ((by (repeat rw [upI_ap (by decide)]); exact (congrFun eK _).trans r9 : _ = sSe s)) ?_
  refine g_putI dX7_all_133 fp_X7_164 rfl rfl ?_
  refine g_aload_n dX7_all_136 rfl rfl ?_
  refine g_aload_n dX7_all_137 rfl rfl ?_
  refine g_iload_n dX7_all_138 rfl rfl ?_
  refine g_bipush dX7_all_139 kB_7 ?_
  refine g_iadd dX7_all_141 (nI_add _ _) ?_
  refine g_iald dX7_all_142 rfl rfl (by omega) ((by (repeat rw [upI_ap (by decide)]); exact (congrFun eK _).trans r10 : _ = sSd s)) ?_
  refine g_putI dX7_all_143 fp_X7_19 rfl rfl ?_
  refine g_goto (tgt := 221) dX7_all_146 (by decide) ?_
  refine g_vret dX7_all_221 ⟨rfl, ?_⟩
  have w2 : ∀ k, k ≠ 80 → ∀ v0 v1 v2 v3 v4 v5 v6 v7, (upI (upI (upI (upI (upI (upI (upI (upI M66 (B + 80) 0 v0) (B + 80) 1 v1) (B + 80) 2 v2) (B + 80) 3 v3) (B + 80) 4 v4) (B + 80) 5 v5) (B + 80) 6 v6) (B + 80) 7 v7).1 (B + k) = M66.1 (B + k) := fun k hk v0 v1 v2 v3 v4 v5 v6 v7 => by rw [upI_ap hk, upI_ap hk, upI_ap hk, upI_ap hk, upI_ap hk, upI_ap hk, upI_ap hk, upI_ap hk]
  refine ⟨⟨fun q hq => ?_, fun i hi => ?_, ?_, ?_, ?_, ?_, ?_, ?_, ?_, ?_⟩, ?_⟩
  · rw [w2 82 (by decide), w2 83 (by decide), w2 84 (by decide), w2 85 (by decide)]
    have h12 := (ho.1 q hq).2.2.1
    refine ⟨?_, ?_, ?_, fun i hi => ?_⟩
    · have := a1 q (by omega); rw [Nat.zero_add] at this; exact ((congrFun (e2.one (by decide) (by decide)) q).trans ((congrFun (d2.one (by decide) (by decide)) q).trans ((congrFun (c2.one (by decide) (by decide)) q).trans ((congrFun (b2.one (by decide) (by decide)) q).trans this)))).trans (r1 q hq).1
    · exact ((congrFun (e2.one (by decide) (by decide)) q).trans ((congrFun (d2.one (by decide) (by decide)) q).trans ((congrFun (c2.one (by decide) (by decide)) q).trans ((b1 q (by omega)).trans (congrFun (f1.i (by decide) (by decide)) _))))).trans (r1 q hq).2.1
    · exact ((congrFun (e2.one (by decide) (by decide)) q).trans ((congrFun (d2.one (by decide) (by decide)) q).trans ((c1 q (by omega)).trans (congrFun (f2.i (by decide) (by decide)) _)))).trans (r1 q hq).2.2.1
    · exact ((congrFun (e2.one (by decide) (by decide)) _).trans ((d1 (12 * q + i) (by omega)).trans (congrFun (f3.i (by decide) (by decide)) _))).trans ((r1 q hq).2.2.2 i hi)
  · rw [w2 86 (by decide)]; exact ((e1 i hi).trans (congrFun (f4.i (by decide) (by decide)) _)).trans (r2 i hi)
  all_goals first | exact f5.tr ((((((((Fk.pj (by decide)).tr (Fk.pj (by decide))).tr (Fk.pj (by decide))).tr (Fk.pj (by decide))).tr (Fk.pj (by decide))).tr (Fk.pj (by decide))).tr (Fk.pj (by decide))).tr (Fk.pj (by decide))) | simp [upI_at]
theorem ct_allB_96 {s : St} (h : RK B M 96 s) (ho : okSt s) : Ct E B yX7_all cX7_all 4 none 1 [.ref (B + 80), .ref (B + 96), .int (nI 1)] M (Rv (fun M2 => RN B M2 s ∧ Fk B M M2 [82, 83, 84, 85, 86] [0, 1, 2, 3, 4, 5, 6, 7])) := by
  have hcn := ho.2.2.1
  refine Ct.of2 (own := RX7) (lv := [(0, .ref (B + 80)), (1, .ref (B + 96)), (2, .int (nI 1))]) pn_X7 rfl (Nat.le_of_ble_eq_true rfl) rfl ?_
  refine g_aload_n dX7_all_0 rfl rfl ?_
  refine g_aload_n dX7_all_1 rfl rfl ?_
  refine g_getR dX7_all_2 fl_X7_29 rfl rfl ?_
  refine g_bipush dX7_all_5 kB_6 ?_
  refine g_aload_n dX7_all_7 rfl rfl ?_
  refine g_iconst dX7_all_8 kI_0 ?_
  refine g_iload_n dX7_all_9 rfl rfl ?_
  refine g_callVi dX7_all_10 mi_X7_carries ml_X7_154 (ct_carB (k1 := 82) (k2 := 96) (g := 6) rfl rfl (by decide) rfl (by decide) (by decide) (by decide)) rfl rfl rfl rfl (Nat.le_of_ble_eq_true rfl) ⟨lt_r rfl, Nat.le_of_ble_eq_true rfl⟩ (fun x10 M10 h10 => ?_)
  obtain ⟨rfl, a1, a2⟩ := h10
  refine g_istore_n dX7_all_13 rfl (lt_r rfl) rfl ?_
  refine g_aload_n dX7_all_14 rfl rfl ?_
  refine g_aload_n dX7_all_15 rfl rfl ?_
  refine g_getR dX7_all_16 fl_X7_32 rfl rfl ?_
  refine g_bipush dX7_all_19 kB_6 ?_
  refine g_aload_n dX7_all_21 rfl rfl ?_
  refine g_iload_n dX7_all_22 rfl rfl ?_
  refine g_iload_n dX7_all_23 rfl rfl ?_
  refine g_callVi dX7_all_24 mi_X7_carries ml_X7_154 (ct_carB (k1 := 83) (k2 := 96) (g := 12) rfl rfl (by decide) rfl (by decide) (by decide) (by decide)) rfl rfl rfl rfl (Nat.le_of_ble_eq_true rfl) ⟨lt_r rfl, Nat.le_of_ble_eq_true rfl⟩ (fun x24 M24 h24 => ?_)
  obtain ⟨rfl, b1, b2⟩ := h24
  refine g_istore_n dX7_all_27 rfl (lt_r rfl) rfl ?_
  refine g_aload_n dX7_all_28 rfl rfl ?_
  refine g_aload_n dX7_all_29 rfl rfl ?_
  refine g_getR dX7_all_30 fl_X7_35 rfl rfl ?_
  refine g_bipush dX7_all_33 kB_6 ?_
  refine g_aload_n dX7_all_35 rfl rfl ?_
  refine g_iload_n dX7_all_36 rfl rfl ?_
  refine g_iload_n dX7_all_37 rfl rfl ?_
  refine g_callVi dX7_all_38 mi_X7_carries ml_X7_154 (ct_carB (k1 := 84) (k2 := 96) (g := 18) rfl rfl (by decide) rfl (by decide) (by decide) (by decide)) rfl rfl rfl rfl (Nat.le_of_ble_eq_true rfl) ⟨lt_r rfl, Nat.le_of_ble_eq_true rfl⟩ (fun x38 M38 h38 => ?_)
  obtain ⟨rfl, c1, c2⟩ := h38
  refine g_istore_n dX7_all_41 rfl (lt_r rfl) rfl ?_
  refine g_aload_n dX7_all_42 rfl rfl ?_
  refine g_aload_n dX7_all_43 rfl rfl ?_
  refine g_getR dX7_all_44 fl_X7_38 rfl rfl ?_
  refine g_bipush dX7_all_47 kB_72 ?_
  refine g_aload_n dX7_all_49 rfl rfl ?_
  refine g_iload_n dX7_all_50 rfl rfl ?_
  refine g_iload_n dX7_all_51 rfl rfl ?_
  refine g_callVi dX7_all_52 mi_X7_carries ml_X7_154 (ct_carB (k1 := 85) (k2 := 96) (g := 90) rfl rfl (by decide) rfl (by decide) (by decide) (by decide)) rfl rfl rfl rfl (Nat.le_of_ble_eq_true rfl) ⟨lt_r rfl, Nat.le_of_ble_eq_true rfl⟩ (fun x52 M52 h52 => ?_)
  obtain ⟨rfl, d1, d2⟩ := h52
  refine g_istore_n dX7_all_55 rfl (lt_r rfl) rfl ?_
  refine g_aload_n dX7_all_56 rfl rfl ?_
  refine g_aload_n dX7_all_57 rfl rfl ?_
  refine g_getR dX7_all_58 fl_X7_41 rfl rfl ?_
  refine g_bipush dX7_all_61 kB_10 ?_
  refine g_aload_n dX7_all_63 rfl rfl ?_
  refine g_iload_n dX7_all_64 rfl rfl ?_
  refine g_iload_n dX7_all_65 rfl rfl ?_
  refine g_callVi dX7_all_66 mi_X7_carries ml_X7_154 (ct_carB (k1 := 86) (k2 := 96) (g := 100) rfl rfl (by decide) rfl (by decide) (by decide) (by decide)) rfl rfl rfl rfl (Nat.le_of_ble_eq_true rfl) ⟨lt_r rfl, Nat.le_of_ble_eq_true rfl⟩ (fun x66 M66 h66 => ?_)
  obtain ⟨rfl, e1, e2⟩ := h66
  refine g_istore_n dX7_all_69 rfl (lt_r rfl) rfl ?_
  refine g_iload_n dX7_all_70 rfl rfl ?_
  refine g_if_eqN (tgt := 149) dX7_all_71 (by decide) rfl (by omega) (fun c_71 => absurd c_71 (by omega)) (fun c_71 => ?_)
  have f1 : Fk B M M10 [82, 83, 84, 85, 86] [0, 1, 2, 3, 4, 5, 6, 7] := a2.up (by decide) (by decide)
  have f2 := f1.tr (b2.up (by decide) (by decide))
  have f3 := f2.tr (c2.up (by decide) (by decide))
  have f4 := f3.tr (d2.up (by decide) (by decide))
  have f5 := f4.tr (e2.up (by decide) (by decide))
  have eK : M66.1 (B + 96) = M.1 (B + 96) := f5.i (by decide) (by decide)
  obtain ⟨r1, r2, r3, r4, r5, r6, r7, r8, r9, r10⟩ := h
  refine g_aload_n dX7_all_74 rfl rfl ?_
  refine g_aload_n dX7_all_75 rfl rfl ?_
  refine g_iload_n dX7_all_76 rfl rfl ?_
  refine g_iald dX7_all_77 rfl rfl (by omega) ((congrFun eK _).trans r3) ?_
  refine g_putI dX7_all_78 fp_X7_90 rfl rfl ?_
  refine g_aload_n dX7_all_81 rfl rfl ?_
  refine g_aload_n dX7_all_82 rfl rfl ?_
  refine g_iload_n dX7_all_83 rfl rfl ?_
  refine g_iconst dX7_all_84 kI_1 ?_
  refine g_iadd dX7_all_85 (nI_add _ _) ?_
  refine g_iald dX7_all_86 rfl rfl (by omega) ((by (repeat rw [upI_ap (by decide)]); exact (congrFun eK _).trans r4 : _ = nI (sHt s))) ?_
  refine g_putI dX7_all_87 fp_X7_7 rfl rfl ?_
  refine g_aload_n dX7_all_90 rfl rfl ?_
  refine g_aload_n dX7_all_91 rfl rfl ?_
  refine g_iload_n dX7_all_92 rfl rfl ?_
  refine g_iconst dX7_all_93 kI_2 ?_
  refine g_iadd dX7_all_94 (nI_add _ _) ?_
  refine g_iald dX7_all_95 rfl rfl (by omega) ((by (repeat rw [upI_ap (by decide)]); exact (congrFun eK _).trans r5 : _ = nI (sLo s))) ?_
  refine g_putI dX7_all_96 fp_X7_13 rfl rfl ?_
  refine g_aload_n dX7_all_99 rfl rfl ?_
  refine g_aload_n dX7_all_100 rfl rfl ?_
  refine g_iload_n dX7_all_101 rfl rfl ?_
  refine g_iconst dX7_all_102 kI_3 ?_
  refine g_iadd dX7_all_103 (nI_add _ _) ?_
  refine g_iald dX7_all_104 rfl rfl (by omega) ((by (repeat rw [upI_ap (by decide)]); exact (congrFun eK _).trans r6 : _ = nI (sTe s))) ?_
  refine g_putI dX7_all_105 fp_X7_16 rfl rfl ?_
  refine g_aload_n dX7_all_108 rfl rfl ?_
  refine g_aload_n dX7_all_109 rfl rfl ?_
  refine g_iload_n dX7_all_110 rfl rfl ?_
  refine g_iconst dX7_all_111 kI_4 ?_
  refine g_iadd dX7_all_112 (nI_add _ _) ?_
  refine g_iald dX7_all_113 rfl rfl (by omega) ((by (repeat rw [upI_ap (by decide)]); exact (congrFun eK _).trans r7 : _ = sSl s)) ?_
  refine g_putI dX7_all_114 fp_X7_158 rfl rfl ?_
  refine g_aload_n dX7_all_117 rfl rfl ?_
  refine g_aload_n dX7_all_118 rfl rfl ?_
  refine g_iload_n dX7_all_119 rfl rfl ?_
  refine g_iconst dX7_all_120 kI_5 ?_
  refine g_iadd dX7_all_121 (nI_add _ _) ?_
  refine g_iald dX7_all_122 rfl rfl (by omega) ((by (repeat rw [upI_ap (by decide)]); exact (congrFun eK _).trans r8 : _ = sPl s)) ?_
  refine g_putI dX7_all_123 fp_X7_161 rfl rfl ?_
  refine g_aload_n dX7_all_126 rfl rfl ?_
  refine g_aload_n dX7_all_127 rfl rfl ?_
  refine g_iload_n dX7_all_128 rfl rfl ?_
  refine g_bipush dX7_all_129 kB_6 ?_
  refine g_iadd dX7_all_131 (nI_add _ _) ?_
  refine g_iald dX7_all_132 rfl rfl (by omega) ((by (repeat rw [upI_ap (by decide)]); exact (congrFun eK _).trans r9 : _ = sSe s)) ?_
  refine g_putI dX7_all_133 fp_X7_164 rfl rfl ?_
  refine g_aload_n dX7_all_136 rfl rfl ?_
  refine g_aload_n dX7_all_137 rfl rfl ?_
  refine g_iload_n dX7_all_138 rfl rfl ?_
  refine g_bipush dX7_all_139 kB_7 ?_
  refine g_iadd dX7_all_141 (nI_add _ _) ?_
  refine g_iald dX7_all_142 rfl rfl (by omega) ((by (repeat rw [upI_ap (by decide)]); exact (congrFun eK _).trans r10 : _ = sSd s)) ?_
  refine g_putI dX7_all_143 fp_X7_19 rfl rfl ?_
  refine g_goto (tgt := 221) dX7_all_146 (by decide) ?_
  refine g_vret dX7_all_221 ⟨rfl, ?_⟩
  have w2 : ∀ k, k ≠ 80 → ∀ v0 v1 v2 v3 v4 v5 v6 v7, (upI (upI (upI (upI (upI (upI (upI (upI M66 (B + 80) 0 v0) (B + 80) 1 v1) (B + 80) 2 v2) (B + 80) 3 v3) (B + 80) 4 v4) (B + 80) 5 v5) (B + 80) 6 v6) (B + 80) 7 v7).1 (B + k) = M66.1 (B + k) := fun k hk v0 v1 v2 v3 v4 v5 v6 v7 => by rw [upI_ap hk, upI_ap hk, upI_ap hk, upI_ap hk, upI_ap hk, upI_ap hk, upI_ap hk, upI_ap hk]
  refine ⟨⟨fun q hq => ?_, fun i hi => ?_, ?_, ?_, ?_, ?_, ?_, ?_, ?_, ?_⟩, ?_⟩
  · rw [w2 82 (by decide), w2 83 (by decide), w2 84 (by decide), w2 85 (by decide)]
    have h12 := (ho.1 q hq).2.2.1
    refine ⟨?_, ?_, ?_, fun i hi => ?_⟩
    · have := a1 q (by omega); rw [Nat.zero_add] at this; exact ((congrFun (e2.one (by decide) (by decide)) q).trans ((congrFun (d2.one (by decide) (by decide)) q).trans ((congrFun (c2.one (by decide) (by decide)) q).trans ((congrFun (b2.one (by decide) (by decide)) q).trans this)))).trans (r1 q hq).1
    · exact ((congrFun (e2.one (by decide) (by decide)) q).trans ((congrFun (d2.one (by decide) (by decide)) q).trans ((congrFun (c2.one (by decide) (by decide)) q).trans ((b1 q (by omega)).trans (congrFun (f1.i (by decide) (by decide)) _))))).trans (r1 q hq).2.1
    · exact ((congrFun (e2.one (by decide) (by decide)) q).trans ((congrFun (d2.one (by decide) (by decide)) q).trans ((c1 q (by omega)).trans (congrFun (f2.i (by decide) (by decide)) _)))).trans (r1 q hq).2.2.1
    · exact ((congrFun (e2.one (by decide) (by decide)) _).trans ((d1 (12 * q + i) (by omega)).trans (congrFun (f3.i (by decide) (by decide)) _))).trans ((r1 q hq).2.2.2 i hi)
  · rw [w2 86 (by decide)]; exact ((e1 i hi).trans (congrFun (f4.i (by decide) (by decide)) _)).trans (r2 i hi)
  all_goals first | exact f5.tr ((((((((Fk.pj (by decide)).tr (Fk.pj (by decide))).tr (Fk.pj (by decide))).tr (Fk.pj (by decide))).tr (Fk.pj (by decide))).tr (Fk.pj (by decide))).tr (Fk.pj (by decide))).tr (Fk.pj (by decide))) | simp [upI_at]
theorem mx_image {y : Sys} (h : RM B M y) (ho : okY y) : Ct E B yX7_image cX7_image 1 (some .int) 2 [.ref (B + 80)] M (QM B M (o_image y)) := by
  have hF0 : Fk B M (upI M (B + 80) 42 (nI 1)) [96] [42] := Fk.pj (by decide)
  refine Ct.of2 (own := RX7) (lv := [(0, .ref (B + 80))]) pn_X7 rfl (Nat.le_of_ble_eq_true rfl) rfl ?_
  refine g_aload_n dX7_image_0 rfl rfl ?_
  refine g_iconst dX7_image_1 kI_1 ?_
  refine g_putZ dX7_image_2 fp_X7_294 rfl rfl (Or.inr rfl) ?_
  refine g_aload_n dX7_image_5 rfl rfl ?_
  refine g_aload_n dX7_image_6 rfl rfl ?_
  refine g_getR dX7_image_7 fl_X7_72 rfl rfl ?_
  refine g_iconst dX7_image_10 kI_0 ?_
  refine g_callVv dX7_image_11 mi_X7_all ml_X7_170 (ct_allF_96 (h.2.1.fk hF0 (by decide) (by decide)) ho.2.1) rfl rfl rfl rfl (Nat.le_of_ble_eq_true rfl) ⟨lt_r rfl, Nat.le_of_ble_eq_true rfl⟩ (fun M11 h11 => ?_)
  obtain ⟨a1, a2⟩ := h11
  have hF := hF0.tr (a2.up (by decide) (by decide))
  refine g_aload_n dX7_image_14 rfl rfl ?_
  refine g_getI dX7_image_15 fl_X7_90 rfl rfl ((hF.j (by decide)).trans h.2.1.2.2.1) ?_
  refine g_iret dX7_image_18 ⟨_, rfl, ?_⟩
  obtain ⟨h1, h2, h3, h4, h5, h6, h7, h8⟩ := h
  exact ⟨rfl, ⟨fun q hq => (h1 q hq).fk hF (by decide), h2.fk hF (by decide) (by decide), fun _ => a1, (a2.j (by decide)).trans upI_s, (hF.j (by decide)).trans h5, fun j hj => by rw [hF.i (by decide) (by decide)]; exact h6 j hj, h7.fk hF (by decide) (by decide), fun j hj => by rw [hF.i (by decide) (by decide)]; exact h8 j hj⟩, hF.sm (by decide)⟩
theorem lp_mrestore {y : Sys} {M0 : MM} (ho : okY y) (hb : yB y = true) : ∀ (n i : Nat), n + i = 8 → ∀ M', RM B M' (rstY y i) → Sm B M0 M' 80 102 →
    G E B cX7_restore (RX7, 2, some .int, rmD 2, 0, 0, KM E B (QM B M0 (nI (sCn (yI y)), rstY y 8))) 25 [(0, .ref (B + 80)), (1, .int (nI i))] [] M' := by
  have hi := ho.2.2.1 hb
  have hcn := hi.2.2.1
  intro n
  induction n with
  | zero =>
    intro i h1 M' hR hS
    refine g_iload_n dX7_restore_25 rfl rfl ?_
    refine g_bipush dX7_restore_26 kB_8 ?_
    refine g_icmp_geN (tgt := 67) dX7_restore_28 (by decide) rfl rfl (by omega) (by omega) (fun c_28 => ?_) (fun c_28 => absurd c_28 (by omega))
    refine g_aload_n dX7_restore_67 rfl rfl ?_
    refine g_getI dX7_restore_68 fl_X7_90 rfl rfl (hR.2.1.2.2.1) ?_
    refine g_iret dX7_restore_71 ⟨_, rfl, ?_⟩
    have e : i = 8 := by omega
    subst e
    exact ⟨rfl, hR, hS⟩
  | succ n ih =>
    intro i h1 M' hR hS
    have hx := hR.1 i (by omega)
    have hy : yH (rstY y i) i = yH y i := if_neg (Nat.lt_irrefl i)
    rw [hy] at hx
    have hok := ho.1 i (by omega)
    have hc0 := ho.2.1.2.2.1
    have hsame : ¬ ((yH y i).1 = 2 ∧ ¬ (yH y i).2.1 < sCn (yI y)) → rstY y (i + 1) = rstY y i := fun z => rst_same (if_neg z)
    have hk2 := hok.1
    refine g_iload_n dX7_restore_25 rfl rfl ?_
    refine g_bipush dX7_restore_26 kB_8 ?_
    refine g_icmp_geN (tgt := 67) dX7_restore_28 (by decide) rfl rfl (by omega) (by omega) (fun c_28 => absurd c_28 (by omega)) (fun c_28 => ?_)
    refine g_aload_n dX7_restore_31 rfl rfl ?_
    refine g_getR dX7_restore_32 fl_X7_44 rfl rfl ?_
    refine g_iload_n dX7_restore_35 rfl rfl ?_
    refine g_iald dX7_restore_36 rfl rfl (by omega) (hx.1) ?_
    refine g_iconst dX7_restore_37 kI_2 ?_
    refine g_icmp_neN (tgt := 61) dX7_restore_38 (by decide) rfl rfl (by omega) (by omega) (fun c_38 => ?_) (fun c_38 => ?_)
    · refine g_iinc dX7_restore_61 rfl (inc_nI _) rfl ?_
      refine g_goto (tgt := 25) dX7_restore_64 (by decide) ?_
      first | (have c9 : sCn (yI y) ≤ (yH y i).2.1 := c_51; have hF : Fk B M' (upI M' (B + 87) i (nI 0)) [87, 88, 89, 90, 91, 92] [] := Fk.pi (by decide) (by decide); exact g_le (lvLe_c rfl (lvLe_c rfl lvLe_0)) (ih (i + 1) (by omega) _ (by rw [rst_set, show clrH (sCn (yI y)) (yH y i) = (0, 0, 0, fun _ => 0) from if_pos ⟨c_38, Nat.not_lt.mpr c9⟩]; exact RM.h' hR hF (fun q' _ hne => ⟨by rw [upI_k hne], by rw [upI_ap (by decide)], by rw [upI_ap (by decide)], by rw [upI_ap (by decide)], fun z _ => rfl⟩) (fun q' hq' z => rst_len ho hq' z) ⟨upI_s, fun z => absurd (show (0 : Nat) = 1 from z) (by decide), fun z => absurd (show (0 : Nat) = 2 from z) (by decide)⟩) (hS.tr (hF.sm (by decide))))) | (have c9 : (yH y i).2.1 < sCn (yI y) := c_51; exact g_le (lvLe_c rfl (lvLe_c rfl lvLe_0)) (ih (i + 1) (by omega) M' (by rw [hsame (fun z => z.2 c9)]; exact hR) hS)) | (have c9 : ¬ (yH y i).1 = 2 := c_38; exact g_le (lvLe_c rfl (lvLe_c rfl lvLe_0)) (ih (i + 1) (by omega) M' (by rw [hsame (fun z => c9 z.1)]; exact hR) hS))
    · refine g_aload_n dX7_restore_41 rfl rfl ?_
      refine g_getR dX7_restore_42 fl_X7_53 rfl rfl ?_
      refine g_iload_n dX7_restore_45 rfl rfl ?_
      have hb2 := hok.2.2 c_38
      refine g_iald dX7_restore_46 rfl rfl (by omega) (hx.2.2 c_38) ?_
      refine g_aload_n dX7_restore_47 rfl rfl ?_
      refine g_getI dX7_restore_48 fl_X7_90 rfl rfl (show M'.1 (B + 80) 0 = nI (sCn (yI y)) from hR.2.1.2.2.1) ?_
      refine g_icmp_ltN (tgt := 61) dX7_restore_51 (by decide) rfl rfl (by omega) (by omega) (fun c_51 => ?_) (fun c_51 => ?_)
      · refine g_iinc dX7_restore_61 rfl (inc_nI _) rfl ?_
        refine g_goto (tgt := 25) dX7_restore_64 (by decide) ?_
        first | (have c9 : sCn (yI y) ≤ (yH y i).2.1 := c_51; have hF : Fk B M' (upI M' (B + 87) i (nI 0)) [87, 88, 89, 90, 91, 92] [] := Fk.pi (by decide) (by decide); exact g_le (lvLe_c rfl (lvLe_c rfl lvLe_0)) (ih (i + 1) (by omega) _ (by rw [rst_set, show clrH (sCn (yI y)) (yH y i) = (0, 0, 0, fun _ => 0) from if_pos ⟨c_38, Nat.not_lt.mpr c9⟩]; exact RM.h' hR hF (fun q' _ hne => ⟨by rw [upI_k hne], by rw [upI_ap (by decide)], by rw [upI_ap (by decide)], by rw [upI_ap (by decide)], fun z _ => rfl⟩) (fun q' hq' z => rst_len ho hq' z) ⟨upI_s, fun z => absurd (show (0 : Nat) = 1 from z) (by decide), fun z => absurd (show (0 : Nat) = 2 from z) (by decide)⟩) (hS.tr (hF.sm (by decide))))) | (have c9 : (yH y i).2.1 < sCn (yI y) := c_51; exact g_le (lvLe_c rfl (lvLe_c rfl lvLe_0)) (ih (i + 1) (by omega) M' (by rw [hsame (fun z => z.2 c9)]; exact hR) hS)) | (have c9 : ¬ (yH y i).1 = 2 := c_38; exact g_le (lvLe_c rfl (lvLe_c rfl lvLe_0)) (ih (i + 1) (by omega) M' (by rw [hsame (fun z => c9 z.1)]; exact hR) hS))
      · refine g_aload_n dX7_restore_54 rfl rfl ?_
        refine g_getR dX7_restore_55 fl_X7_44 rfl rfl ?_
        refine g_iload_n dX7_restore_58 rfl rfl ?_
        refine g_iconst dX7_restore_59 kI_0 ?_
        refine g_iast dX7_restore_60 rfl rfl (by omega) ?_
        refine g_iinc dX7_restore_61 rfl (inc_nI _) rfl ?_
        refine g_goto (tgt := 25) dX7_restore_64 (by decide) ?_
        first | (have c9 : sCn (yI y) ≤ (yH y i).2.1 := c_51; have hF : Fk B M' (upI M' (B + 87) i (nI 0)) [87, 88, 89, 90, 91, 92] [] := Fk.pi (by decide) (by decide); exact g_le (lvLe_c rfl (lvLe_c rfl lvLe_0)) (ih (i + 1) (by omega) _ (by rw [rst_set, show clrH (sCn (yI y)) (yH y i) = (0, 0, 0, fun _ => 0) from if_pos ⟨c_38, Nat.not_lt.mpr c9⟩]; exact RM.h' hR hF (fun q' _ hne => ⟨by rw [upI_k hne], by rw [upI_ap (by decide)], by rw [upI_ap (by decide)], by rw [upI_ap (by decide)], fun z _ => rfl⟩) (fun q' hq' z => rst_len ho hq' z) ⟨upI_s, fun z => absurd (show (0 : Nat) = 1 from z) (by decide), fun z => absurd (show (0 : Nat) = 2 from z) (by decide)⟩) (hS.tr (hF.sm (by decide))))) | (have c9 : (yH y i).2.1 < sCn (yI y) := c_51; exact g_le (lvLe_c rfl (lvLe_c rfl lvLe_0)) (ih (i + 1) (by omega) M' (by rw [hsame (fun z => z.2 c9)]; exact hR) hS)) | (have c9 : ¬ (yH y i).1 = 2 := c_38; exact g_le (lvLe_c rfl (lvLe_c rfl lvLe_0)) (ih (i + 1) (by omega) M' (by rw [hsame (fun z => c9 z.1)]; exact hR) hS))
theorem mx_restore {y : Sys} (h : RM B M y) (ho : okY y) : Ct E B yX7_restore cX7_restore 2 (some .int) 2 [.ref (B + 80)] M (QM B M (o_restore y)) := by
  refine Ct.of2 (own := RX7) (lv := [(0, .ref (B + 80))]) pn_X7 rfl (Nat.le_of_ble_eq_true rfl) rfl ?_
  refine g_aload_n dX7_restore_0 rfl rfl ?_
  refine g_getI dX7_restore_1 fl_X7_294 rfl rfl (h.2.2.2.1) ?_
  refine g_if_ne (tgt := 14) dX7_restore_4 (by decide) (fun c_4 => ?_) (fun c_4 => ?_)
  · have hb : yB y = true := by
      by_cases z : yB y = true
      · exact z
      · rw [if_neg z] at c_4; exact absurd rfl c_4
    rw [show o_restore y = _ from if_pos hb]
    have hi := ho.2.2.1 hb
    have hcn := hi.2.2.1
    refine g_aload_n dX7_restore_14 rfl rfl ?_
    refine g_aload_n dX7_restore_15 rfl rfl ?_
    refine g_getR dX7_restore_16 fl_X7_72 rfl rfl ?_
    refine g_iconst dX7_restore_19 kI_1 ?_
    refine g_callVv dX7_restore_20 mi_X7_all ml_X7_170 (ct_allB_96 (h.2.2.1 hb) hi) rfl rfl rfl rfl (Nat.le_of_ble_eq_true rfl) ⟨lt_r rfl, Nat.le_of_ble_eq_true rfl⟩ (fun M20 h20 => ?_)
    refine g_iconst dX7_restore_23 kI_0 ?_
    refine g_istore_n dX7_restore_24 rfl (lt_r rfl) rfl ?_
    have g : RM B M20 (rstY y 0) := by
      rw [rst_0]
      exact h.n h20.2 (by decide) (by decide) h20.1
    exact g_le (lvLe_c rfl (lvLe_c rfl lvLe_0)) (lp_mrestore (y := y) (M0 := M) ho hb 8 0 rfl M20 g (h20.2.sm (by decide)))
  · refine g_aload_n dX7_restore_7 rfl rfl ?_
    refine g_bipush dX7_restore_8 kB_m6 ?_
    refine g_callVi dX7_restore_10 mi_X7_no ml_X7_100 (ct_no (w := 6) h (by decide) (by decide)) rfl rfl rfl rfl (Nat.le_of_ble_eq_true rfl) ⟨lt_r rfl, Nat.le_of_ble_eq_true rfl⟩ (fun x10 M10 h10 => ?_)
    refine g_iret dX7_restore_13 ⟨_, rfl, ?_⟩
    have hb : ¬ yB y = true := fun z => by rw [if_pos z] at c_4; exact absurd c_4 (by decide)
    exact QM.rf (if_neg hb) h10
theorem lp_mstat {y : Sys} {w : Int32} (h : RM B M y) (ho : okY y) : ∀ (n i : Nat), n + i = sCn (yN y) →
    G E B cX7_status (RX7, 4, some .int, rmD 1, 0, 0, KM E B (QM B M (nI (sumN (fun q => (sBs (yN y) q).2.2.1) (sCn (yN y))), y))) 87 [(0, .ref (B + 80)), (2, .int (nI (sumN (fun q => (sBs (yN y) q).2.2.1) i))), (3, .int (nI i))] [] M := by
  have hcn := ho.2.1.2.2.1
  intro n
  induction n with
  | zero =>
    intro i h1
    refine g_iload_n dX7_status_87 rfl rfl ?_
    refine g_aload_n dX7_status_88 rfl rfl ?_
    refine g_getI dX7_status_89 fl_X7_90 rfl rfl (h.2.1.2.2.1) ?_
    refine g_icmp_geN (tgt := 110) dX7_status_92 (by decide) rfl rfl (by omega) (by omega) (fun c_92 => ?_) (fun c_92 => absurd c_92 (by omega))
    refine g_iload_n dX7_status_110 rfl rfl ?_
    refine g_iret dX7_status_111 ⟨_, rfl, ?_⟩
    exact QM.p h (by rw [show i = sCn (yN y) by omega])
  | succ n ih =>
    intro i h1
    have ih2 := ih (i + 1) (by omega)
    rw [sumN_s] at ih2
    have h12 := (ho.2.1.1 i (by omega)).2.2.1
    refine g_iload_n dX7_status_87 rfl rfl ?_
    refine g_aload_n dX7_status_88 rfl rfl ?_
    refine g_getI dX7_status_89 fl_X7_90 rfl rfl (h.2.1.2.2.1) ?_
    refine g_icmp_geN (tgt := 110) dX7_status_92 (by decide) rfl rfl (by omega) (by omega) (fun c_92 => absurd c_92 (by omega)) (fun c_92 => ?_)
    refine g_iload_n dX7_status_95 rfl rfl ?_
    refine g_aload_n dX7_status_96 rfl rfl ?_
    refine g_getR dX7_status_97 fl_X7_35 rfl rfl ?_
    refine g_iload_n dX7_status_100 rfl rfl ?_
    refine g_iald dX7_status_101 rfl rfl (by omega) ((h.2.1.1 i (by omega)).2.2.1) ?_
    refine g_iadd dX7_status_102 (nI_add _ _) ?_
    refine g_istore_n dX7_status_103 rfl (lt_r rfl) rfl ?_
    refine g_iinc dX7_status_104 rfl (inc_nI _) rfl ?_
    refine g_goto (tgt := 87) dX7_status_107 (by decide) ?_
    exact g_le (lvLe_c rfl (lvLe_c rfl (lvLe_c rfl lvLe_0))) ih2
theorem mx_status {y : Sys} {w : Int32} (h : RM B M y) (ho : okY y) : Ct E B yX7_status cX7_status 4 (some .int) 1 [.ref (B + 80), .int w] M (QM B M (o_status y w)) := by
  obtain ⟨a1, a2, a3, a4, a5, a6, a7, a8, a9, a10⟩ := h.2.1
  refine Ct.of2 (own := RX7) (lv := [(0, .ref (B + 80)), (1, .int w)]) pn_X7 rfl (Nat.le_of_ble_eq_true rfl) rfl ?_
  refine g_iload_n dX7_status_0 rfl rfl ?_
  refine g_bipush dX7_status_1 kB_11 ?_
  refine g_icmp_lt (tgt := 22) dX7_status_3 (by decide) (fun c_3 => ?_) (fun c_3 => ?_)
  · refine g_iconst dX7_status_22 kI_0 ?_
    refine g_istore_n dX7_status_23 rfl (lt_r rfl) rfl ?_
    refine g_iload_n dX7_status_24 rfl rfl ?_
    refine g_tblC (off := 55) (tgt := 80) dX7_status_25 0 (by decide) (by decide) (by decide) (by decide) (fun c_25_0 => ?_) (fun c_25_0 => ?_)
    · refine g_aload_n dX7_status_80 rfl rfl ?_
      refine g_getI dX7_status_81 fl_X7_90 rfl rfl (a3) ?_
      refine g_iret dX7_status_84 ⟨_, rfl, ?_⟩
      refine QM.p h ?_
      unfold o_status statI
      rw [if_pos c_25_0]
    refine g_tblC (off := 60) (tgt := 85) dX7_status_25 1 (by decide) (by decide) (by decide) (by decide) (fun c_25_1 => ?_) (fun c_25_1 => ?_)
    · refine g_iconst dX7_status_85 kI_0 ?_
      refine g_istore_n dX7_status_86 rfl (lt_r rfl) rfl ?_
      rw [show o_status y w = (nI (sumN (fun q => (sBs (yN y) q).2.2.1) (sCn (yN y))), y) from (by unfold o_status statI; rw [if_neg (ne_toI (v := 0) (by decide) c_25_0), if_pos c_25_1])]
      exact g_le (lvLe_c rfl (lvLe_c rfl (lvLe_c rfl lvLe_0))) (lp_mstat (w := w) h ho (sCn (yN y)) 0 rfl)
    refine g_tblC (off := 87) (tgt := 112) dX7_status_25 2 (by decide) (by decide) (by decide) (by decide) (fun c_25_2 => ?_) (fun c_25_2 => ?_)
    · refine g_aload_n dX7_status_112 rfl rfl ?_
      refine g_getI dX7_status_113 fl_X7_7 rfl rfl (a4) ?_
      refine g_iret dX7_status_116 ⟨_, rfl, ?_⟩
      refine QM.p h ?_
      unfold o_status statI
      rw [if_neg (ne_toI (v := 0) (by decide) c_25_0), if_neg (ne_toI (v := 1) (by decide) c_25_1), if_pos c_25_2]
    refine g_tblC (off := 92) (tgt := 117) dX7_status_25 3 (by decide) (by decide) (by decide) (by decide) (fun c_25_3 => ?_) (fun c_25_3 => ?_)
    · refine g_aload_n dX7_status_117 rfl rfl ?_
      refine g_getI dX7_status_118 fl_X7_13 rfl rfl (a5) ?_
      refine g_iret dX7_status_121 ⟨_, rfl, ?_⟩
      refine QM.p h ?_
      unfold o_status statI
      rw [if_neg (ne_toI (v := 0) (by decide) c_25_0), if_neg (ne_toI (v := 1) (by decide) c_25_1), if_neg (ne_toI (v := 2) (by decide) c_25_2), if_pos c_25_3]
    refine g_tblC (off := 97) (tgt := 122) dX7_status_25 4 (by decide) (by decide) (by decide) (by decide) (fun c_25_4 => ?_) (fun c_25_4 => ?_)
    · refine g_aload_n dX7_status_122 rfl rfl ?_
      refine g_getI dX7_status_123 fl_X7_16 rfl rfl (a6) ?_
      refine g_iret dX7_status_126 ⟨_, rfl, ?_⟩
      refine QM.p h ?_
      unfold o_status statI
      rw [if_neg (ne_toI (v := 0) (by decide) c_25_0), if_neg (ne_toI (v := 1) (by decide) c_25_1), if_neg (ne_toI (v := 2) (by decide) c_25_2), if_neg (ne_toI (v := 3) (by decide) c_25_3), if_pos c_25_4]
    refine g_tblC (off := 102) (tgt := 127) dX7_status_25 5 (by decide) (by decide) (by decide) (by decide) (fun c_25_5 => ?_) (fun c_25_5 => ?_)
    · refine g_aload_n dX7_status_127 rfl rfl ?_
      refine g_getI dX7_status_128 fl_X7_158 rfl rfl (a7) ?_
      refine g_iret dX7_status_131 ⟨_, rfl, ?_⟩
      refine QM.p h ?_
      unfold o_status statI
      rw [if_neg (ne_toI (v := 0) (by decide) c_25_0), if_neg (ne_toI (v := 1) (by decide) c_25_1), if_neg (ne_toI (v := 2) (by decide) c_25_2), if_neg (ne_toI (v := 3) (by decide) c_25_3), if_neg (ne_toI (v := 4) (by decide) c_25_4), if_pos c_25_5]
    refine g_tblC (off := 107) (tgt := 132) dX7_status_25 6 (by decide) (by decide) (by decide) (by decide) (fun c_25_6 => ?_) (fun c_25_6 => ?_)
    · refine g_aload_n dX7_status_132 rfl rfl ?_
      refine g_getI dX7_status_133 fl_X7_161 rfl rfl (a8) ?_
      refine g_iret dX7_status_136 ⟨_, rfl, ?_⟩
      refine QM.p h ?_
      unfold o_status statI
      rw [if_neg (ne_toI (v := 0) (by decide) c_25_0), if_neg (ne_toI (v := 1) (by decide) c_25_1), if_neg (ne_toI (v := 2) (by decide) c_25_2), if_neg (ne_toI (v := 3) (by decide) c_25_3), if_neg (ne_toI (v := 4) (by decide) c_25_4), if_neg (ne_toI (v := 5) (by decide) c_25_5), if_pos c_25_6]
    refine g_tblC (off := 112) (tgt := 137) dX7_status_25 7 (by decide) (by decide) (by decide) (by decide) (fun c_25_7 => ?_) (fun c_25_7 => ?_)
    · refine g_aload_n dX7_status_137 rfl rfl ?_
      refine g_getI dX7_status_138 fl_X7_164 rfl rfl (a9) ?_
      refine g_iret dX7_status_141 ⟨_, rfl, ?_⟩
      refine QM.p h ?_
      unfold o_status statI
      rw [if_neg (ne_toI (v := 0) (by decide) c_25_0), if_neg (ne_toI (v := 1) (by decide) c_25_1), if_neg (ne_toI (v := 2) (by decide) c_25_2), if_neg (ne_toI (v := 3) (by decide) c_25_3), if_neg (ne_toI (v := 4) (by decide) c_25_4), if_neg (ne_toI (v := 5) (by decide) c_25_5), if_neg (ne_toI (v := 6) (by decide) c_25_6), if_pos c_25_7]
    refine g_tblC (off := 117) (tgt := 142) dX7_status_25 8 (by decide) (by decide) (by decide) (by decide) (fun c_25_8 => ?_) (fun c_25_8 => ?_)
    · refine g_aload_n dX7_status_142 rfl rfl ?_
      refine g_getI dX7_status_143 fl_X7_19 rfl rfl (a10) ?_
      refine g_iret dX7_status_146 ⟨_, rfl, ?_⟩
      refine QM.p h ?_
      unfold o_status statI
      rw [if_neg (ne_toI (v := 0) (by decide) c_25_0), if_neg (ne_toI (v := 1) (by decide) c_25_1), if_neg (ne_toI (v := 2) (by decide) c_25_2), if_neg (ne_toI (v := 3) (by decide) c_25_3), if_neg (ne_toI (v := 4) (by decide) c_25_4), if_neg (ne_toI (v := 5) (by decide) c_25_5), if_neg (ne_toI (v := 6) (by decide) c_25_6), if_neg (ne_toI (v := 7) (by decide) c_25_7), if_pos c_25_8]
    refine g_tblC (off := 122) (tgt := 147) dX7_status_25 9 (by decide) (by decide) (by decide) (by decide) (fun c_25_9 => ?_) (fun c_25_9 => ?_)
    · refine g_aload_n dX7_status_147 rfl rfl ?_
      refine g_getI dX7_status_148 fl_X7_279 rfl rfl (h.2.2.2.2.2.2.1.1) ?_
      refine g_iret dX7_status_151 ⟨_, rfl, ?_⟩
      refine QM.p h ?_
      unfold o_status statI
      rw [if_neg (ne_toI (v := 0) (by decide) c_25_0), if_neg (ne_toI (v := 1) (by decide) c_25_1), if_neg (ne_toI (v := 2) (by decide) c_25_2), if_neg (ne_toI (v := 3) (by decide) c_25_3), if_neg (ne_toI (v := 4) (by decide) c_25_4), if_neg (ne_toI (v := 5) (by decide) c_25_5), if_neg (ne_toI (v := 6) (by decide) c_25_6), if_neg (ne_toI (v := 7) (by decide) c_25_7), if_neg (ne_toI (v := 8) (by decide) c_25_8), if_pos c_25_9]
    refine g_tableOut (tgt := 152) dX7_status_25 (by skip; omega) (by decide) ?_
    refine g_iconst dX7_status_152 kI_m1 ?_
    refine g_iret dX7_status_153 ⟨_, rfl, ?_⟩
    refine QM.p h ?_
    unfold o_status statI
    rw [if_neg (ne_toI (v := 0) (by decide) c_25_0), if_neg (ne_toI (v := 1) (by decide) c_25_1), if_neg (ne_toI (v := 2) (by decide) c_25_2), if_neg (ne_toI (v := 3) (by decide) c_25_3), if_neg (ne_toI (v := 4) (by decide) c_25_4), if_neg (ne_toI (v := 5) (by decide) c_25_5), if_neg (ne_toI (v := 6) (by decide) c_25_6), if_neg (ne_toI (v := 7) (by decide) c_25_7), if_neg (ne_toI (v := 8) (by decide) c_25_8), if_neg (ne_toI (v := 9) (by decide) c_25_9), if_neg (fun z => by first | exact Int32.not_lt.mpr z.1 c_3 | exact Int32.not_lt.mpr z.2 c_9)]
  · refine g_iload_n dX7_status_6 rfl rfl ?_
    refine g_bipush dX7_status_7 kB_17 ?_
    refine g_icmp_gt (tgt := 22) dX7_status_9 (by decide) (fun c_9 => ?_) (fun c_9 => ?_)
    · refine g_iconst dX7_status_22 kI_0 ?_
      refine g_istore_n dX7_status_23 rfl (lt_r rfl) rfl ?_
      refine g_iload_n dX7_status_24 rfl rfl ?_
      refine g_tblC (off := 55) (tgt := 80) dX7_status_25 0 (by decide) (by decide) (by decide) (by decide) (fun c_25_0 => ?_) (fun c_25_0 => ?_)
      · refine g_aload_n dX7_status_80 rfl rfl ?_
        refine g_getI dX7_status_81 fl_X7_90 rfl rfl (a3) ?_
        refine g_iret dX7_status_84 ⟨_, rfl, ?_⟩
        refine QM.p h ?_
        unfold o_status statI
        rw [if_pos c_25_0]
      refine g_tblC (off := 60) (tgt := 85) dX7_status_25 1 (by decide) (by decide) (by decide) (by decide) (fun c_25_1 => ?_) (fun c_25_1 => ?_)
      · refine g_iconst dX7_status_85 kI_0 ?_
        refine g_istore_n dX7_status_86 rfl (lt_r rfl) rfl ?_
        rw [show o_status y w = (nI (sumN (fun q => (sBs (yN y) q).2.2.1) (sCn (yN y))), y) from (by unfold o_status statI; rw [if_neg (ne_toI (v := 0) (by decide) c_25_0), if_pos c_25_1])]
        exact g_le (lvLe_c rfl (lvLe_c rfl (lvLe_c rfl lvLe_0))) (lp_mstat (w := w) h ho (sCn (yN y)) 0 rfl)
      refine g_tblC (off := 87) (tgt := 112) dX7_status_25 2 (by decide) (by decide) (by decide) (by decide) (fun c_25_2 => ?_) (fun c_25_2 => ?_)
      · refine g_aload_n dX7_status_112 rfl rfl ?_
        refine g_getI dX7_status_113 fl_X7_7 rfl rfl (a4) ?_
        refine g_iret dX7_status_116 ⟨_, rfl, ?_⟩
        refine QM.p h ?_
        unfold o_status statI
        rw [if_neg (ne_toI (v := 0) (by decide) c_25_0), if_neg (ne_toI (v := 1) (by decide) c_25_1), if_pos c_25_2]
      refine g_tblC (off := 92) (tgt := 117) dX7_status_25 3 (by decide) (by decide) (by decide) (by decide) (fun c_25_3 => ?_) (fun c_25_3 => ?_)
      · refine g_aload_n dX7_status_117 rfl rfl ?_
        refine g_getI dX7_status_118 fl_X7_13 rfl rfl (a5) ?_
        refine g_iret dX7_status_121 ⟨_, rfl, ?_⟩
        refine QM.p h ?_
        unfold o_status statI
        rw [if_neg (ne_toI (v := 0) (by decide) c_25_0), if_neg (ne_toI (v := 1) (by decide) c_25_1), if_neg (ne_toI (v := 2) (by decide) c_25_2), if_pos c_25_3]
      refine g_tblC (off := 97) (tgt := 122) dX7_status_25 4 (by decide) (by decide) (by decide) (by decide) (fun c_25_4 => ?_) (fun c_25_4 => ?_)
      · refine g_aload_n dX7_status_122 rfl rfl ?_
        refine g_getI dX7_status_123 fl_X7_16 rfl rfl (a6) ?_
        refine g_iret dX7_status_126 ⟨_, rfl, ?_⟩
        refine QM.p h ?_
        unfold o_status statI
        rw [if_neg (ne_toI (v := 0) (by decide) c_25_0), if_neg (ne_toI (v := 1) (by decide) c_25_1), if_neg (ne_toI (v := 2) (by decide) c_25_2), if_neg (ne_toI (v := 3) (by decide) c_25_3), if_pos c_25_4]
      refine g_tblC (off := 102) (tgt := 127) dX7_status_25 5 (by decide) (by decide) (by decide) (by decide) (fun c_25_5 => ?_) (fun c_25_5 => ?_)
      · refine g_aload_n dX7_status_127 rfl rfl ?_
        refine g_getI dX7_status_128 fl_X7_158 rfl rfl (a7) ?_
        refine g_iret dX7_status_131 ⟨_, rfl, ?_⟩
        refine QM.p h ?_
        unfold o_status statI
        rw [if_neg (ne_toI (v := 0) (by decide) c_25_0), if_neg (ne_toI (v := 1) (by decide) c_25_1), if_neg (ne_toI (v := 2) (by decide) c_25_2), if_neg (ne_toI (v := 3) (by decide) c_25_3), if_neg (ne_toI (v := 4) (by decide) c_25_4), if_pos c_25_5]
      refine g_tblC (off := 107) (tgt := 132) dX7_status_25 6 (by decide) (by decide) (by decide) (by decide) (fun c_25_6 => ?_) (fun c_25_6 => ?_)
      · refine g_aload_n dX7_status_132 rfl rfl ?_
        refine g_getI dX7_status_133 fl_X7_161 rfl rfl (a8) ?_
        refine g_iret dX7_status_136 ⟨_, rfl, ?_⟩
        refine QM.p h ?_
        unfold o_status statI
        rw [if_neg (ne_toI (v := 0) (by decide) c_25_0), if_neg (ne_toI (v := 1) (by decide) c_25_1), if_neg (ne_toI (v := 2) (by decide) c_25_2), if_neg (ne_toI (v := 3) (by decide) c_25_3), if_neg (ne_toI (v := 4) (by decide) c_25_4), if_neg (ne_toI (v := 5) (by decide) c_25_5), if_pos c_25_6]
      refine g_tblC (off := 112) (tgt := 137) dX7_status_25 7 (by decide) (by decide) (by decide) (by decide) (fun c_25_7 => ?_) (fun c_25_7 => ?_)
      · refine g_aload_n dX7_status_137 rfl rfl ?_
        refine g_getI dX7_status_138 fl_X7_164 rfl rfl (a9) ?_
        refine g_iret dX7_status_141 ⟨_, rfl, ?_⟩
        refine QM.p h ?_
        unfold o_status statI
        rw [if_neg (ne_toI (v := 0) (by decide) c_25_0), if_neg (ne_toI (v := 1) (by decide) c_25_1), if_neg (ne_toI (v := 2) (by decide) c_25_2), if_neg (ne_toI (v := 3) (by decide) c_25_3), if_neg (ne_toI (v := 4) (by decide) c_25_4), if_neg (ne_toI (v := 5) (by decide) c_25_5), if_neg (ne_toI (v := 6) (by decide) c_25_6), if_pos c_25_7]
      refine g_tblC (off := 117) (tgt := 142) dX7_status_25 8 (by decide) (by decide) (by decide) (by decide) (fun c_25_8 => ?_) (fun c_25_8 => ?_)
      · refine g_aload_n dX7_status_142 rfl rfl ?_
        refine g_getI dX7_status_143 fl_X7_19 rfl rfl (a10) ?_
        refine g_iret dX7_status_146 ⟨_, rfl, ?_⟩
        refine QM.p h ?_
        unfold o_status statI
        rw [if_neg (ne_toI (v := 0) (by decide) c_25_0), if_neg (ne_toI (v := 1) (by decide) c_25_1), if_neg (ne_toI (v := 2) (by decide) c_25_2), if_neg (ne_toI (v := 3) (by decide) c_25_3), if_neg (ne_toI (v := 4) (by decide) c_25_4), if_neg (ne_toI (v := 5) (by decide) c_25_5), if_neg (ne_toI (v := 6) (by decide) c_25_6), if_neg (ne_toI (v := 7) (by decide) c_25_7), if_pos c_25_8]
      refine g_tblC (off := 122) (tgt := 147) dX7_status_25 9 (by decide) (by decide) (by decide) (by decide) (fun c_25_9 => ?_) (fun c_25_9 => ?_)
      · refine g_aload_n dX7_status_147 rfl rfl ?_
        refine g_getI dX7_status_148 fl_X7_279 rfl rfl (h.2.2.2.2.2.2.1.1) ?_
        refine g_iret dX7_status_151 ⟨_, rfl, ?_⟩
        refine QM.p h ?_
        unfold o_status statI
        rw [if_neg (ne_toI (v := 0) (by decide) c_25_0), if_neg (ne_toI (v := 1) (by decide) c_25_1), if_neg (ne_toI (v := 2) (by decide) c_25_2), if_neg (ne_toI (v := 3) (by decide) c_25_3), if_neg (ne_toI (v := 4) (by decide) c_25_4), if_neg (ne_toI (v := 5) (by decide) c_25_5), if_neg (ne_toI (v := 6) (by decide) c_25_6), if_neg (ne_toI (v := 7) (by decide) c_25_7), if_neg (ne_toI (v := 8) (by decide) c_25_8), if_pos c_25_9]
      refine g_tableOut (tgt := 152) dX7_status_25 (by skip; omega) (by decide) ?_
      refine g_iconst dX7_status_152 kI_m1 ?_
      refine g_iret dX7_status_153 ⟨_, rfl, ?_⟩
      refine QM.p h ?_
      unfold o_status statI
      rw [if_neg (ne_toI (v := 0) (by decide) c_25_0), if_neg (ne_toI (v := 1) (by decide) c_25_1), if_neg (ne_toI (v := 2) (by decide) c_25_2), if_neg (ne_toI (v := 3) (by decide) c_25_3), if_neg (ne_toI (v := 4) (by decide) c_25_4), if_neg (ne_toI (v := 5) (by decide) c_25_5), if_neg (ne_toI (v := 6) (by decide) c_25_6), if_neg (ne_toI (v := 7) (by decide) c_25_7), if_neg (ne_toI (v := 8) (by decide) c_25_8), if_neg (ne_toI (v := 9) (by decide) c_25_9), if_neg (fun z => by first | exact Int32.not_lt.mpr z.1 c_3 | exact Int32.not_lt.mpr z.2 c_9)]
    · have k1 : nI 11 ≤ w ∧ w ≤ nI 17 := ⟨Int32.not_lt.mp c_3, Int32.not_lt.mp c_9⟩
      obtain ⟨j, j1, j2, rfl, e1⟩ := btw_n (by decide) (by decide) k1
      refine g_aload_n dX7_status_12 rfl rfl ?_
      refine g_getR dX7_status_13 fl_X7_25 rfl rfl ?_
      refine g_iload_n dX7_status_16 rfl rfl ?_
      refine g_bipush dX7_status_17 kB_10 ?_
      refine g_isub dX7_status_19 (pk_sub (by omega)) ?_
      refine g_iald dX7_status_20 rfl rfl (by omega) (h.2.2.2.2.2.1 _ (by omega)) ?_
      refine g_iret dX7_status_21 ⟨_, rfl, ?_⟩
      refine QM.p h ?_
      unfold o_status statI
      have g0 : ∀ v : Nat, v < 10 → ¬ nI j = nI v := fun v hv z => by have := (nI_eq (by omega) (by omega)).mp z; omega
      rw [if_neg (g0 0 (by decide)), if_neg (g0 1 (by decide)), if_neg (g0 2 (by decide)), if_neg (g0 3 (by decide)), if_neg (g0 4 (by decide)), if_neg (g0 5 (by decide)), if_neg (g0 6 (by decide)), if_neg (g0 7 (by decide)), if_neg (g0 8 (by decide)), if_neg (g0 9 (by decide)), if_pos k1, pk_sub (by omega), tn_nI (by omega)]
end X7P
