def obp (s : St) (w i v n0 : Nat) : Int32 := @bp (okNum s w i v n0) (okNumD s w i v n0)
theorem obp_t {s : St} {w i v n0 : Nat} (h : okNum s w i v n0) : nI 1 = obp s w i v n0 := @bp_t _ (okNumD s w i v n0) h
theorem obp_f {s : St} {w i v n0 : Nat} (h : ¬ okNum s w i v n0) : nI 0 = obp s w i v n0 := @bp_f _ (okNumD s w i v n0) h
theorem obp_iff {P : Prop} [Decidable P] {s : St} {w i v n0 : Nat} (h : P ↔ okNum s w i v n0) : bp P = obp s w i v n0 := @bp_iff _ _ _ (okNumD s w i v n0) h
theorem obp_0 {s : St} {w i v n0 : Nat} : obp s w i v n0 = 0 ↔ ¬ okNum s w i v n0 := @bp_eq0 _ (okNumD s w i v n0)
section RDR
variable {E : EE} {B : Nat} {M : MM}
theorem ct_X3_mayBe_00 {s : St} {v n0 : Nat} (hS : RS B M 32 s) (ho : okSt s) (hv : v < 2 ^ 31) (hn : 0 = 1 → 0 = 1 → M.1 (B + 55) 0 = nI n0 ∧ n0 < sCn s) : Ct E B yX3_mayBe cX3_mayBe 4 (some .boolean) 2 [.ref (B + 53), .int (nI 0), .int (nI 0), .int (nI v)] M (Rp (obp s 0 0 v n0) M) := by
  have hc := ho.2.2.1
  refine Ct.of2 (own := RX3) (lv := [(0, .ref (B + 53)), (1, .int (nI 0)), (2, .int (nI 0)), (3, .int (nI v))]) pn_X3 rfl (Nat.le_of_ble_eq_true rfl) rfl ?_
  refine g_iload_n dX3_mayBe_0 rfl rfl ?_
  refine g_tableIn (off := 39) (tgt := 40) dX3_mayBe_1 (by decide) (by decide) (by decide) (by decide) ?_
  refine g_iload_n dX3_mayBe_40 rfl rfl ?_
  refine g_if_neN (tgt := 58) dX3_mayBe_41 (by decide) rfl (by omega) (fun c_41 => absurd c_41 (by omega)) (fun c_41 => ?_)
  refine g_iload_n dX3_mayBe_44 rfl rfl ?_
  refine g_bipush dX3_mayBe_45 kB_7 ?_
  refine g_icmp_geN (tgt := 54) dX3_mayBe_47 (by decide) rfl rfl (by omega) (by omega) (fun c_47 => ?_) (fun c_47 => ?_)
  · refine g_iconst dX3_mayBe_54 kI_0 ?_
    refine g_goto (tgt := 84) dX3_mayBe_55 (by decide) ?_
    refine g_zret dX3_mayBe_84 (by first | exact Or.inl rfl | exact Or.inr rfl | exact bp_01) ⟨_, rfl, ?_⟩
    first | exact ⟨obp_t (on_00.mpr (by omega)), rfl⟩ | exact ⟨obp_f (fun q => by have := on_00.mp q; omega), rfl⟩
  · refine g_iconst dX3_mayBe_50 kI_1 ?_
    refine g_goto (tgt := 84) dX3_mayBe_51 (by decide) ?_
    refine g_zret dX3_mayBe_84 (by first | exact Or.inl rfl | exact Or.inr rfl | exact bp_01) ⟨_, rfl, ?_⟩
    first | exact ⟨obp_t (on_00.mpr (by omega)), rfl⟩ | exact ⟨obp_f (fun q => by have := on_00.mp q; omega), rfl⟩
theorem ct_X3_mayBe_01 {s : St} {v n0 : Nat} (hS : RS B M 32 s) (ho : okSt s) (hv : v < 2 ^ 31) (hn : 0 = 1 → 1 = 1 → M.1 (B + 55) 0 = nI n0 ∧ n0 < sCn s) : Ct E B yX3_mayBe cX3_mayBe 4 (some .boolean) 2 [.ref (B + 53), .int (nI 0), .int (nI 1), .int (nI v)] M (Rp (obp s 0 1 v n0) M) := by
  have hc := ho.2.2.1
  refine Ct.of2 (own := RX3) (lv := [(0, .ref (B + 53)), (1, .int (nI 0)), (2, .int (nI 1)), (3, .int (nI v))]) pn_X3 rfl (Nat.le_of_ble_eq_true rfl) rfl ?_
  refine g_iload_n dX3_mayBe_0 rfl rfl ?_
  refine g_tableIn (off := 39) (tgt := 40) dX3_mayBe_1 (by decide) (by decide) (by decide) (by decide) ?_
  refine g_iload_n dX3_mayBe_40 rfl rfl ?_
  refine g_if_neN (tgt := 58) dX3_mayBe_41 (by decide) rfl (by omega) (fun c_41 => ?_) (fun c_41 => absurd c_41 (by omega))
  refine g_iload_n dX3_mayBe_58 rfl rfl ?_
  refine g_iconst dX3_mayBe_59 kI_1 ?_
  refine g_icmp_neN (tgt := 73) dX3_mayBe_60 (by decide) rfl rfl (by omega) (by omega) (fun c_60 => absurd c_60 (by omega)) (fun c_60 => ?_)
  refine g_iload_n dX3_mayBe_63 rfl rfl ?_
  refine g_iconst dX3_mayBe_64 kI_1 ?_
  refine g_bipush dX3_mayBe_65 kB_12 ?_
  refine g_callSNp dX3_mayBe_67 ms_X6_isWithin mn_X3_101 (ct_X6_isWithinN (by omega) (by omega) (by omega)) rfl rfl (Nat.le_of_ble_eq_true rfl) ⟨lt_r rfl, Nat.le_of_ble_eq_true rfl⟩ ?_
  refine g_goto (tgt := 84) dX3_mayBe_70 (by decide) ?_
  refine g_zret dX3_mayBe_84 (by first | exact Or.inl rfl | exact Or.inr rfl | exact bp_01) ⟨_, rfl, ?_⟩
  exact ⟨obp_iff on_01.symm, rfl⟩
theorem ct_X3_mayBe_02 {s : St} {v n0 : Nat} (hS : RS B M 32 s) (ho : okSt s) (hv : v < 2 ^ 31) (hn : 0 = 1 → 2 = 1 → M.1 (B + 55) 0 = nI n0 ∧ n0 < sCn s) : Ct E B yX3_mayBe cX3_mayBe 4 (some .boolean) 2 [.ref (B + 53), .int (nI 0), .int (nI 2), .int (nI v)] M (Rp (obp s 0 2 v n0) M) := by
  have hc := ho.2.2.1
  refine Ct.of2 (own := RX3) (lv := [(0, .ref (B + 53)), (1, .int (nI 0)), (2, .int (nI 2)), (3, .int (nI v))]) pn_X3 rfl (Nat.le_of_ble_eq_true rfl) rfl ?_
  refine g_iload_n dX3_mayBe_0 rfl rfl ?_
  refine g_tableIn (off := 39) (tgt := 40) dX3_mayBe_1 (by decide) (by decide) (by decide) (by decide) ?_
  refine g_iload_n dX3_mayBe_40 rfl rfl ?_
  refine g_if_neN (tgt := 58) dX3_mayBe_41 (by decide) rfl (by omega) (fun c_41 => ?_) (fun c_41 => absurd c_41 (by omega))
  refine g_iload_n dX3_mayBe_58 rfl rfl ?_
  refine g_iconst dX3_mayBe_59 kI_1 ?_
  refine g_icmp_neN (tgt := 73) dX3_mayBe_60 (by decide) rfl rfl (by omega) (by omega) (fun c_60 => ?_) (fun c_60 => absurd c_60 (by omega))
  refine g_iload_n dX3_mayBe_73 rfl rfl ?_
  refine g_bipush dX3_mayBe_74 kB_9 ?_
  refine g_icmp_gtN (tgt := 83) dX3_mayBe_76 (by decide) rfl rfl (by omega) (by omega) (fun c_76 => ?_) (fun c_76 => ?_)
  · refine g_iconst dX3_mayBe_83 kI_0 ?_
    refine g_zret dX3_mayBe_84 (by first | exact Or.inl rfl | exact Or.inr rfl | exact bp_01) ⟨_, rfl, ?_⟩
    first | exact ⟨obp_t (on_02.mpr (by omega)), rfl⟩ | exact ⟨obp_f (fun q => by have := on_02.mp q; omega), rfl⟩
  · refine g_iconst dX3_mayBe_79 kI_1 ?_
    refine g_goto (tgt := 84) dX3_mayBe_80 (by decide) ?_
    refine g_zret dX3_mayBe_84 (by first | exact Or.inl rfl | exact Or.inr rfl | exact bp_01) ⟨_, rfl, ?_⟩
    first | exact ⟨obp_t (on_02.mpr (by omega)), rfl⟩ | exact ⟨obp_f (fun q => by have := on_02.mp q; omega), rfl⟩
theorem ct_X3_mayBe_10 {s : St} {v n0 : Nat} (hS : RS B M 32 s) (ho : okSt s) (hv : v < 2 ^ 31) (hn : 1 = 1 → 0 = 1 → M.1 (B + 55) 0 = nI n0 ∧ n0 < sCn s) : Ct E B yX3_mayBe cX3_mayBe 4 (some .boolean) 2 [.ref (B + 53), .int (nI 1), .int (nI 0), .int (nI v)] M (Rp (obp s 1 0 v n0) M) := by
  have hc := ho.2.2.1
  refine Ct.of2 (own := RX3) (lv := [(0, .ref (B + 53)), (1, .int (nI 1)), (2, .int (nI 0)), (3, .int (nI v))]) pn_X3 rfl (Nat.le_of_ble_eq_true rfl) rfl ?_
  refine g_iload_n dX3_mayBe_0 rfl rfl ?_
  refine g_tableIn (off := 84) (tgt := 85) dX3_mayBe_1 (by decide) (by decide) (by decide) (by decide) ?_
  refine g_iload_n dX3_mayBe_85 rfl rfl ?_
  refine g_if_neN (tgt := 100) dX3_mayBe_86 (by decide) rfl (by omega) (fun c_86 => absurd c_86 (by omega)) (fun c_86 => ?_)
  refine g_aload_n dX3_mayBe_89 rfl rfl ?_
  refine g_getR dX3_mayBe_90 fl_X3_22 rfl rfl ?_
  refine g_iload_n dX3_mayBe_93 rfl rfl ?_
  refine g_callVp dX3_mayBe_94 mi_X5_hasBiscuit ml_X3_122 (ct_X5_hasBiscuitN isS_32 hS ho (by omega)) isS_32.1 rfl rfl rfl (Nat.le_of_ble_eq_true rfl) ⟨lt_r rfl, Nat.le_of_ble_eq_true rfl⟩ ?_
  refine g_goto (tgt := 133) dX3_mayBe_97 (by decide) ?_
  refine g_zret dX3_mayBe_133 (by first | exact Or.inl rfl | exact Or.inr rfl | exact bp_01) ⟨_, rfl, ?_⟩
  exact ⟨obp_iff on_10.symm, rfl⟩
theorem ct_X3_mayBe_11 {s : St} {v n0 : Nat} (hS : RS B M 32 s) (ho : okSt s) (hv : v < 2 ^ 31) (hn : 1 = 1 → 1 = 1 → M.1 (B + 55) 0 = nI n0 ∧ n0 < sCn s) : Ct E B yX3_mayBe cX3_mayBe 4 (some .boolean) 2 [.ref (B + 53), .int (nI 1), .int (nI 1), .int (nI v)] M (Rp (obp s 1 1 v n0) M) := by
  have hc := ho.2.2.1
  refine Ct.of2 (own := RX3) (lv := [(0, .ref (B + 53)), (1, .int (nI 1)), (2, .int (nI 1)), (3, .int (nI v))]) pn_X3 rfl (Nat.le_of_ble_eq_true rfl) rfl ?_
  refine g_iload_n dX3_mayBe_0 rfl rfl ?_
  refine g_tableIn (off := 84) (tgt := 85) dX3_mayBe_1 (by decide) (by decide) (by decide) (by decide) ?_
  refine g_iload_n dX3_mayBe_85 rfl rfl ?_
  refine g_if_neN (tgt := 100) dX3_mayBe_86 (by decide) rfl (by omega) (fun c_86 => ?_) (fun c_86 => absurd c_86 (by omega))
  refine g_iload_n dX3_mayBe_100 rfl rfl ?_
  refine g_iconst dX3_mayBe_101 kI_1 ?_
  refine g_icmp_neN (tgt := 122) dX3_mayBe_102 (by decide) rfl rfl (by omega) (by omega) (fun c_102 => absurd c_102 (by omega)) (fun c_102 => ?_)
  refine g_aload_n dX3_mayBe_105 rfl rfl ?_
  refine g_getR dX3_mayBe_106 fl_X3_22 rfl rfl ?_
  refine g_aload_n dX3_mayBe_109 rfl rfl ?_
  refine g_getR dX3_mayBe_110 fl_X3_15 rfl rfl ?_
  refine g_iconst dX3_mayBe_113 kI_0 ?_
  refine g_iald dX3_mayBe_114 rfl rfl (by omega) ((hn rfl rfl).1) ?_
  refine g_iload_n dX3_mayBe_115 rfl rfl ?_
  refine g_callVp dX3_mayBe_116 mi_X5_hasCellOf ml_X3_125 (ct_X5_hasCellOfN isS_32 hS ho (hn rfl rfl).2 (by omega)) isS_32.1 rfl rfl rfl (Nat.le_of_ble_eq_true rfl) ⟨lt_r rfl, Nat.le_of_ble_eq_true rfl⟩ ?_
  refine g_goto (tgt := 133) dX3_mayBe_119 (by decide) ?_
  refine g_zret dX3_mayBe_133 (by first | exact Or.inl rfl | exact Or.inr rfl | exact bp_01) ⟨_, rfl, ?_⟩
  exact ⟨obp_iff on_11.symm, rfl⟩
theorem ct_X3_mayBe_12 {s : St} {v n0 : Nat} (hS : RS B M 32 s) (ho : okSt s) (hv : v < 2 ^ 31) (hn : 1 = 1 → 2 = 1 → M.1 (B + 55) 0 = nI n0 ∧ n0 < sCn s) : Ct E B yX3_mayBe cX3_mayBe 4 (some .boolean) 2 [.ref (B + 53), .int (nI 1), .int (nI 2), .int (nI v)] M (Rp (obp s 1 2 v n0) M) := by
  have hc := ho.2.2.1
  refine Ct.of2 (own := RX3) (lv := [(0, .ref (B + 53)), (1, .int (nI 1)), (2, .int (nI 2)), (3, .int (nI v))]) pn_X3 rfl (Nat.le_of_ble_eq_true rfl) rfl ?_
  refine g_iload_n dX3_mayBe_0 rfl rfl ?_
  refine g_tableIn (off := 84) (tgt := 85) dX3_mayBe_1 (by decide) (by decide) (by decide) (by decide) ?_
  refine g_iload_n dX3_mayBe_85 rfl rfl ?_
  refine g_if_neN (tgt := 100) dX3_mayBe_86 (by decide) rfl (by omega) (fun c_86 => ?_) (fun c_86 => absurd c_86 (by omega))
  refine g_iload_n dX3_mayBe_100 rfl rfl ?_
  refine g_iconst dX3_mayBe_101 kI_1 ?_
  refine g_icmp_neN (tgt := 122) dX3_mayBe_102 (by decide) rfl rfl (by omega) (by omega) (fun c_102 => ?_) (fun c_102 => absurd c_102 (by omega))
  refine g_iload_n dX3_mayBe_122 rfl rfl ?_
  refine g_bipush dX3_mayBe_123 kB_99 ?_
  refine g_icmp_gtN (tgt := 132) dX3_mayBe_125 (by decide) rfl rfl (by omega) (by omega) (fun c_125 => ?_) (fun c_125 => ?_)
  · refine g_iconst dX3_mayBe_132 kI_0 ?_
    refine g_zret dX3_mayBe_133 (by first | exact Or.inl rfl | exact Or.inr rfl | exact bp_01) ⟨_, rfl, ?_⟩
    first | exact ⟨obp_t (on_12.mpr (by omega)), rfl⟩ | exact ⟨obp_f (fun q => by have := on_12.mp q; omega), rfl⟩
  · refine g_iconst dX3_mayBe_128 kI_1 ?_
    refine g_goto (tgt := 133) dX3_mayBe_129 (by decide) ?_
    refine g_zret dX3_mayBe_133 (by first | exact Or.inl rfl | exact Or.inr rfl | exact bp_01) ⟨_, rfl, ?_⟩
    first | exact ⟨obp_t (on_12.mpr (by omega)), rfl⟩ | exact ⟨obp_f (fun q => by have := on_12.mp q; omega), rfl⟩
theorem ct_X3_mayBe_20 {s : St} {v n0 : Nat} (hS : RS B M 32 s) (ho : okSt s) (hv : v < 2 ^ 31) (hn : 2 = 1 → 0 = 1 → M.1 (B + 55) 0 = nI n0 ∧ n0 < sCn s) : Ct E B yX3_mayBe cX3_mayBe 4 (some .boolean) 2 [.ref (B + 53), .int (nI 2), .int (nI 0), .int (nI v)] M (Rp (obp s 2 0 v n0) M) := by
  have hc := ho.2.2.1
  refine Ct.of2 (own := RX3) (lv := [(0, .ref (B + 53)), (1, .int (nI 2)), (2, .int (nI 0)), (3, .int (nI v))]) pn_X3 rfl (Nat.le_of_ble_eq_true rfl) rfl ?_
  refine g_iload_n dX3_mayBe_0 rfl rfl ?_
  refine g_tableIn (off := 133) (tgt := 134) dX3_mayBe_1 (by decide) (by decide) (by decide) (by decide) ?_
  refine g_iload_n dX3_mayBe_134 rfl rfl ?_
  refine g_bipush dX3_mayBe_135 kB_99 ?_
  refine g_icmp_gtN (tgt := 144) dX3_mayBe_137 (by decide) rfl rfl (by omega) (by omega) (fun c_137 => ?_) (fun c_137 => ?_)
  · refine g_iconst dX3_mayBe_144 kI_0 ?_
    refine g_zret dX3_mayBe_145 (by first | exact Or.inl rfl | exact Or.inr rfl | exact bp_01) ⟨_, rfl, ?_⟩
    first | exact ⟨obp_t (on_20.mpr (by omega)), rfl⟩ | exact ⟨obp_f (fun q => by have := on_20.mp q; omega), rfl⟩
  · refine g_iconst dX3_mayBe_140 kI_1 ?_
    refine g_goto (tgt := 145) dX3_mayBe_141 (by decide) ?_
    refine g_zret dX3_mayBe_145 (by first | exact Or.inl rfl | exact Or.inr rfl | exact bp_01) ⟨_, rfl, ?_⟩
    first | exact ⟨obp_t (on_20.mpr (by omega)), rfl⟩ | exact ⟨obp_f (fun q => by have := on_20.mp q; omega), rfl⟩
theorem ct_X3_mayBe_30 {s : St} {v n0 : Nat} (hS : RS B M 32 s) (ho : okSt s) (hv : v < 2 ^ 31) (hn : 3 = 1 → 0 = 1 → M.1 (B + 55) 0 = nI n0 ∧ n0 < sCn s) : Ct E B yX3_mayBe cX3_mayBe 4 (some .boolean) 2 [.ref (B + 53), .int (nI 3), .int (nI 0), .int (nI v)] M (Rp (obp s 3 0 v n0) M) := by
  have hc := ho.2.2.1
  refine Ct.of2 (own := RX3) (lv := [(0, .ref (B + 53)), (1, .int (nI 3)), (2, .int (nI 0)), (3, .int (nI v))]) pn_X3 rfl (Nat.le_of_ble_eq_true rfl) rfl ?_
  refine g_iload_n dX3_mayBe_0 rfl rfl ?_
  refine g_tableIn (off := 145) (tgt := 146) dX3_mayBe_1 (by decide) (by decide) (by decide) (by decide) ?_
  refine g_iload_n dX3_mayBe_146 rfl rfl ?_
  refine g_iconst dX3_mayBe_147 kI_1 ?_
  refine g_bipush dX3_mayBe_148 kB_99 ?_
  refine g_callSNp dX3_mayBe_150 ms_X6_isWithin mn_X3_101 (ct_X6_isWithinN (by omega) (by omega) (by omega)) rfl rfl (Nat.le_of_ble_eq_true rfl) ⟨lt_r rfl, Nat.le_of_ble_eq_true rfl⟩ ?_
  refine g_zret dX3_mayBe_153 (by first | exact Or.inl rfl | exact Or.inr rfl | exact bp_01) ⟨_, rfl, ?_⟩
  exact ⟨obp_iff on_30.symm, rfl⟩
theorem ct_X3_mayBe_40 {s : St} {v n0 : Nat} (hS : RS B M 32 s) (ho : okSt s) (hv : v < 2 ^ 31) (hn : 4 = 1 → 0 = 1 → M.1 (B + 55) 0 = nI n0 ∧ n0 < sCn s) : Ct E B yX3_mayBe cX3_mayBe 4 (some .boolean) 2 [.ref (B + 53), .int (nI 4), .int (nI 0), .int (nI v)] M (Rp (obp s 4 0 v n0) M) := by
  have hc := ho.2.2.1
  refine Ct.of2 (own := RX3) (lv := [(0, .ref (B + 53)), (1, .int (nI 4)), (2, .int (nI 0)), (3, .int (nI v))]) pn_X3 rfl (Nat.le_of_ble_eq_true rfl) rfl ?_
  refine g_iload_n dX3_mayBe_0 rfl rfl ?_
  refine g_tableIn (off := 153) (tgt := 154) dX3_mayBe_1 (by decide) (by decide) (by decide) (by decide) ?_
  refine g_iload_n dX3_mayBe_154 rfl rfl ?_
  refine g_sipush dX3_mayBe_155 kS_9999 ?_
  refine g_icmp_gtN (tgt := 165) dX3_mayBe_158 (by decide) rfl rfl (by omega) (by omega) (fun c_158 => ?_) (fun c_158 => ?_)
  · refine g_iconst dX3_mayBe_165 kI_0 ?_
    refine g_zret dX3_mayBe_166 (by first | exact Or.inl rfl | exact Or.inr rfl | exact bp_01) ⟨_, rfl, ?_⟩
    first | exact ⟨obp_t (on_40.mpr (by omega)), rfl⟩ | exact ⟨obp_f (fun q => by have := on_40.mp q; omega), rfl⟩
  · refine g_iconst dX3_mayBe_161 kI_1 ?_
    refine g_goto (tgt := 166) dX3_mayBe_162 (by decide) ?_
    refine g_zret dX3_mayBe_166 (by first | exact Or.inl rfl | exact Or.inr rfl | exact bp_01) ⟨_, rfl, ?_⟩
    first | exact ⟨obp_t (on_40.mpr (by omega)), rfl⟩ | exact ⟨obp_f (fun q => by have := on_40.mp q; omega), rfl⟩
theorem ct_X3_mayBe_50 {s : St} {v n0 : Nat} (hS : RS B M 32 s) (ho : okSt s) (hv : v < 2 ^ 31) (hn : 5 = 1 → 0 = 1 → M.1 (B + 55) 0 = nI n0 ∧ n0 < sCn s) : Ct E B yX3_mayBe cX3_mayBe 4 (some .boolean) 2 [.ref (B + 53), .int (nI 5), .int (nI 0), .int (nI v)] M (Rp (obp s 5 0 v n0) M) := by
  have hc := ho.2.2.1
  refine Ct.of2 (own := RX3) (lv := [(0, .ref (B + 53)), (1, .int (nI 5)), (2, .int (nI 0)), (3, .int (nI v))]) pn_X3 rfl (Nat.le_of_ble_eq_true rfl) rfl ?_
  refine g_iload_n dX3_mayBe_0 rfl rfl ?_
  refine g_tableIn (off := 166) (tgt := 167) dX3_mayBe_1 (by decide) (by decide) (by decide) (by decide) ?_
  refine g_iload_n dX3_mayBe_167 rfl rfl ?_
  refine g_if_neN (tgt := 185) dX3_mayBe_168 (by decide) rfl (by omega) (fun c_168 => absurd c_168 (by omega)) (fun c_168 => ?_)
  refine g_iload_n dX3_mayBe_171 rfl rfl ?_
  refine g_bipush dX3_mayBe_172 kB_10 ?_
  refine g_icmp_geN (tgt := 181) dX3_mayBe_174 (by decide) rfl rfl (by omega) (by omega) (fun c_174 => ?_) (fun c_174 => ?_)
  · refine g_iconst dX3_mayBe_181 kI_0 ?_
    refine g_goto (tgt := 196) dX3_mayBe_182 (by decide) ?_
    refine g_zret dX3_mayBe_196 (by first | exact Or.inl rfl | exact Or.inr rfl | exact bp_01) ⟨_, rfl, ?_⟩
    first | exact ⟨obp_t (on_50.mpr (by omega)), rfl⟩ | exact ⟨obp_f (fun q => by have := on_50.mp q; omega), rfl⟩
  · refine g_iconst dX3_mayBe_177 kI_1 ?_
    refine g_goto (tgt := 196) dX3_mayBe_178 (by decide) ?_
    refine g_zret dX3_mayBe_196 (by first | exact Or.inl rfl | exact Or.inr rfl | exact bp_01) ⟨_, rfl, ?_⟩
    first | exact ⟨obp_t (on_50.mpr (by omega)), rfl⟩ | exact ⟨obp_f (fun q => by have := on_50.mp q; omega), rfl⟩
theorem ct_X3_mayBe_51 {s : St} {v n0 : Nat} (hS : RS B M 32 s) (ho : okSt s) (hv : v < 2 ^ 31) (hn : 5 = 1 → 1 = 1 → M.1 (B + 55) 0 = nI n0 ∧ n0 < sCn s) : Ct E B yX3_mayBe cX3_mayBe 4 (some .boolean) 2 [.ref (B + 53), .int (nI 5), .int (nI 1), .int (nI v)] M (Rp (obp s 5 1 v n0) M) := by
  have hc := ho.2.2.1
  refine Ct.of2 (own := RX3) (lv := [(0, .ref (B + 53)), (1, .int (nI 5)), (2, .int (nI 1)), (3, .int (nI v))]) pn_X3 rfl (Nat.le_of_ble_eq_true rfl) rfl ?_
  refine g_iload_n dX3_mayBe_0 rfl rfl ?_
  refine g_tableIn (off := 166) (tgt := 167) dX3_mayBe_1 (by decide) (by decide) (by decide) (by decide) ?_
  refine g_iload_n dX3_mayBe_167 rfl rfl ?_
  refine g_if_neN (tgt := 185) dX3_mayBe_168 (by decide) rfl (by omega) (fun c_168 => ?_) (fun c_168 => absurd c_168 (by omega))
  refine g_iload_n dX3_mayBe_185 rfl rfl ?_
  refine g_bipush dX3_mayBe_186 kB_99 ?_
  refine g_icmp_gtN (tgt := 195) dX3_mayBe_188 (by decide) rfl rfl (by omega) (by omega) (fun c_188 => ?_) (fun c_188 => ?_)
  · refine g_iconst dX3_mayBe_195 kI_0 ?_
    refine g_zret dX3_mayBe_196 (by first | exact Or.inl rfl | exact Or.inr rfl | exact bp_01) ⟨_, rfl, ?_⟩
    first | exact ⟨obp_t (on_51.mpr (by omega)), rfl⟩ | exact ⟨obp_f (fun q => by have := on_51.mp q; omega), rfl⟩
  · refine g_iconst dX3_mayBe_191 kI_1 ?_
    refine g_goto (tgt := 196) dX3_mayBe_192 (by decide) ?_
    refine g_zret dX3_mayBe_196 (by first | exact Or.inl rfl | exact Or.inr rfl | exact bp_01) ⟨_, rfl, ?_⟩
    first | exact ⟨obp_t (on_51.mpr (by omega)), rfl⟩ | exact ⟨obp_f (fun q => by have := on_51.mp q; omega), rfl⟩
theorem ct_X3_mayBe_60 {s : St} {v n0 : Nat} (hS : RS B M 32 s) (ho : okSt s) (hv : v < 2 ^ 31) (hn : 6 = 1 → 0 = 1 → M.1 (B + 55) 0 = nI n0 ∧ n0 < sCn s) : Ct E B yX3_mayBe cX3_mayBe 4 (some .boolean) 2 [.ref (B + 53), .int (nI 6), .int (nI 0), .int (nI v)] M (Rp (obp s 6 0 v n0) M) := by
  have hc := ho.2.2.1
  refine Ct.of2 (own := RX3) (lv := [(0, .ref (B + 53)), (1, .int (nI 6)), (2, .int (nI 0)), (3, .int (nI v))]) pn_X3 rfl (Nat.le_of_ble_eq_true rfl) rfl ?_
  refine g_iload_n dX3_mayBe_0 rfl rfl ?_
  refine g_tableOut (tgt := 197) dX3_mayBe_1 (by decide) (by decide) ?_
  refine g_iload_n dX3_mayBe_197 rfl rfl ?_
  refine g_if_neN (tgt := 235) dX3_mayBe_198 (by decide) rfl (by omega) (fun c_198 => absurd c_198 (by omega)) (fun c_198 => ?_)
  refine g_aload_n dX3_mayBe_201 rfl rfl ?_
  refine g_getR dX3_mayBe_202 fl_X3_22 rfl rfl ?_
  refine g_iload_n dX3_mayBe_205 rfl rfl ?_
  refine g_callVp dX3_mayBe_206 mi_X5_hasBiscuit ml_X3_122 (ct_X5_hasBiscuitN isS_32 hS ho (by omega)) isS_32.1 rfl rfl rfl (Nat.le_of_ble_eq_true rfl) ⟨lt_r rfl, Nat.le_of_ble_eq_true rfl⟩ ?_
  refine g_if_eqP (tgt := 231) dX3_mayBe_209 (by decide) (fun c_209 => ?_) (fun c_209 => ?_)
  · refine g_iconst dX3_mayBe_231 kI_0 ?_
    refine g_goto (tgt := 265) dX3_mayBe_232 (by decide) ?_
    refine g_zret dX3_mayBe_265 (by first | exact Or.inl rfl | exact Or.inr rfl | exact bp_01) ⟨_, rfl, ?_⟩
    first | exact ⟨obp_t (on_60.mpr ⟨c_209, c_224⟩), rfl⟩ | exact ⟨obp_f (fun q => c_209 (on_60.mp q).1), rfl⟩ | exact ⟨obp_f (fun q => by have := (on_60.mp q).2; omega), rfl⟩
  · refine g_aload_n dX3_mayBe_212 rfl rfl ?_
    refine g_getR dX3_mayBe_213 fl_X3_22 rfl rfl ?_
    refine g_getR dX3_mayBe_216 fl_X3_128 isS_32.1 rfl ?_
    refine g_iload_n dX3_mayBe_219 rfl rfl ?_
    refine g_aald dX3_mayBe_220 isS_32.2.1 rfl (isS_b (by omega)) ?_
    refine g_getI dX3_mayBe_221 fl_X3_132 (isS_32.2.2.2 _ (by omega)).1 rfl ((hS.1 v c_209).2.2.1) ?_
    have hz := (ho.1 v c_209).2.2.1
    refine g_if_leN (tgt := 231) dX3_mayBe_224 (by decide) rfl (by omega) (fun c_224 => ?_) (fun c_224 => ?_)
    · refine g_iconst dX3_mayBe_231 kI_0 ?_
      refine g_goto (tgt := 265) dX3_mayBe_232 (by decide) ?_
      refine g_zret dX3_mayBe_265 (by first | exact Or.inl rfl | exact Or.inr rfl | exact bp_01) ⟨_, rfl, ?_⟩
      first | exact ⟨obp_t (on_60.mpr ⟨c_209, c_224⟩), rfl⟩ | exact ⟨obp_f (fun q => c_209 (on_60.mp q).1), rfl⟩ | exact ⟨obp_f (fun q => by have := (on_60.mp q).2; omega), rfl⟩
    · refine g_iconst dX3_mayBe_227 kI_1 ?_
      refine g_goto (tgt := 265) dX3_mayBe_228 (by decide) ?_
      refine g_zret dX3_mayBe_265 (by first | exact Or.inl rfl | exact Or.inr rfl | exact bp_01) ⟨_, rfl, ?_⟩
      first | exact ⟨obp_t (on_60.mpr ⟨c_209, c_224⟩), rfl⟩ | exact ⟨obp_f (fun q => c_209 (on_60.mp q).1), rfl⟩ | exact ⟨obp_f (fun q => by have := (on_60.mp q).2; omega), rfl⟩
theorem ct_X3_mayBe_61 {s : St} {v n0 : Nat} (hS : RS B M 32 s) (ho : okSt s) (hv : v < 2 ^ 31) (hn : 6 = 1 → 1 = 1 → M.1 (B + 55) 0 = nI n0 ∧ n0 < sCn s) : Ct E B yX3_mayBe cX3_mayBe 4 (some .boolean) 2 [.ref (B + 53), .int (nI 6), .int (nI 1), .int (nI v)] M (Rp (obp s 6 1 v n0) M) := by
  have hc := ho.2.2.1
  refine Ct.of2 (own := RX3) (lv := [(0, .ref (B + 53)), (1, .int (nI 6)), (2, .int (nI 1)), (3, .int (nI v))]) pn_X3 rfl (Nat.le_of_ble_eq_true rfl) rfl ?_
  refine g_iload_n dX3_mayBe_0 rfl rfl ?_
  refine g_tableOut (tgt := 197) dX3_mayBe_1 (by decide) (by decide) ?_
  refine g_iload_n dX3_mayBe_197 rfl rfl ?_
  refine g_if_neN (tgt := 235) dX3_mayBe_198 (by decide) rfl (by omega) (fun c_198 => ?_) (fun c_198 => absurd c_198 (by omega))
  refine g_iload_n dX3_mayBe_235 rfl rfl ?_
  refine g_iconst dX3_mayBe_236 kI_1 ?_
  refine g_icmp_neN (tgt := 254) dX3_mayBe_237 (by decide) rfl rfl (by omega) (by omega) (fun c_237 => absurd c_237 (by omega)) (fun c_237 => ?_)
  refine g_iload_n dX3_mayBe_240 rfl rfl ?_
  refine g_bipush dX3_mayBe_241 kB_12 ?_
  refine g_icmp_gtN (tgt := 250) dX3_mayBe_243 (by decide) rfl rfl (by omega) (by omega) (fun c_243 => ?_) (fun c_243 => ?_)
  · refine g_iconst dX3_mayBe_250 kI_0 ?_
    refine g_goto (tgt := 265) dX3_mayBe_251 (by decide) ?_
    refine g_zret dX3_mayBe_265 (by first | exact Or.inl rfl | exact Or.inr rfl | exact bp_01) ⟨_, rfl, ?_⟩
    first | exact ⟨obp_t (on_61.mpr (by omega)), rfl⟩ | exact ⟨obp_f (fun q => by have := on_61.mp q; omega), rfl⟩
  · refine g_iconst dX3_mayBe_246 kI_1 ?_
    refine g_goto (tgt := 265) dX3_mayBe_247 (by decide) ?_
    refine g_zret dX3_mayBe_265 (by first | exact Or.inl rfl | exact Or.inr rfl | exact bp_01) ⟨_, rfl, ?_⟩
    first | exact ⟨obp_t (on_61.mpr (by omega)), rfl⟩ | exact ⟨obp_f (fun q => by have := on_61.mp q; omega), rfl⟩
theorem ct_X3_mayBe_62 {s : St} {v n0 : Nat} (hS : RS B M 32 s) (ho : okSt s) (hv : v < 2 ^ 31) (hn : 6 = 1 → 2 = 1 → M.1 (B + 55) 0 = nI n0 ∧ n0 < sCn s) : Ct E B yX3_mayBe cX3_mayBe 4 (some .boolean) 2 [.ref (B + 53), .int (nI 6), .int (nI 2), .int (nI v)] M (Rp (obp s 6 2 v n0) M) := by
  have hc := ho.2.2.1
  refine Ct.of2 (own := RX3) (lv := [(0, .ref (B + 53)), (1, .int (nI 6)), (2, .int (nI 2)), (3, .int (nI v))]) pn_X3 rfl (Nat.le_of_ble_eq_true rfl) rfl ?_
  refine g_iload_n dX3_mayBe_0 rfl rfl ?_
  refine g_tableOut (tgt := 197) dX3_mayBe_1 (by decide) (by decide) ?_
  refine g_iload_n dX3_mayBe_197 rfl rfl ?_
  refine g_if_neN (tgt := 235) dX3_mayBe_198 (by decide) rfl (by omega) (fun c_198 => ?_) (fun c_198 => absurd c_198 (by omega))
  refine g_iload_n dX3_mayBe_235 rfl rfl ?_
  refine g_iconst dX3_mayBe_236 kI_1 ?_
  refine g_icmp_neN (tgt := 254) dX3_mayBe_237 (by decide) rfl rfl (by omega) (by omega) (fun c_237 => ?_) (fun c_237 => absurd c_237 (by omega))
  refine g_iload_n dX3_mayBe_254 rfl rfl ?_
  refine g_bipush dX3_mayBe_255 kB_60 ?_
  refine g_icmp_gtN (tgt := 264) dX3_mayBe_257 (by decide) rfl rfl (by omega) (by omega) (fun c_257 => ?_) (fun c_257 => ?_)
  · refine g_iconst dX3_mayBe_264 kI_0 ?_
    refine g_zret dX3_mayBe_265 (by first | exact Or.inl rfl | exact Or.inr rfl | exact bp_01) ⟨_, rfl, ?_⟩
    first | exact ⟨obp_t (on_62.mpr (by omega)), rfl⟩ | exact ⟨obp_f (fun q => by have := on_62.mp q; omega), rfl⟩
  · refine g_iconst dX3_mayBe_260 kI_1 ?_
    refine g_goto (tgt := 265) dX3_mayBe_261 (by decide) ?_
    refine g_zret dX3_mayBe_265 (by first | exact Or.inl rfl | exact Or.inr rfl | exact bp_01) ⟨_, rfl, ?_⟩
    first | exact ⟨obp_t (on_62.mpr (by omega)), rfl⟩ | exact ⟨obp_f (fun q => by have := on_62.mp q; omega), rfl⟩
theorem ct_X3_mayBe {s : St} {w i v n0 : Nat} (hS : RS B M 32 s) (ho : okSt s) (hw : w < 7) (hi : i < nOf w) (hv : v < 2 ^ 31) (hn : w = 1 → i = 1 → M.1 (B + 55) 0 = nI n0 ∧ n0 < sCn s) : Ct E B yX3_mayBe cX3_mayBe 4 (some .boolean) 2 [.ref (B + 53), .int (nI w), .int (nI i), .int (nI v)] M (Rp (obp s w i v n0) M) := by
  match w, hw with
  | 0, _ =>
    have hi : i < 3 := hi
    match i, hi with
    | 0, _ => exact ct_X3_mayBe_00 hS ho hv hn
    | 1, _ => exact ct_X3_mayBe_01 hS ho hv hn
    | 2, _ => exact ct_X3_mayBe_02 hS ho hv hn
  | 1, _ =>
    have hi : i < 3 := hi
    match i, hi with
    | 0, _ => exact ct_X3_mayBe_10 hS ho hv hn
    | 1, _ => exact ct_X3_mayBe_11 hS ho hv hn
    | 2, _ => exact ct_X3_mayBe_12 hS ho hv hn
  | 2, _ =>
    have hi : i < 1 := hi
    match i, hi with
    | 0, _ => exact ct_X3_mayBe_20 hS ho hv hn
  | 3, _ =>
    have hi : i < 1 := hi
    match i, hi with
    | 0, _ => exact ct_X3_mayBe_30 hS ho hv hn
  | 4, _ =>
    have hi : i < 1 := hi
    match i, hi with
    | 0, _ => exact ct_X3_mayBe_40 hS ho hv hn
  | 5, _ =>
    have hi : i < 2 := hi
    match i, hi with
    | 0, _ => exact ct_X3_mayBe_50 hS ho hv hn
    | 1, _ => exact ct_X3_mayBe_51 hS ho hv hn
  | 6, _ =>
    have hi : i < 3 := hi
    match i, hi with
    | 0, _ => exact ct_X3_mayBe_60 hS ho hv hn
    | 1, _ => exact ct_X3_mayBe_61 hS ho hv hn
    | 2, _ => exact ct_X3_mayBe_62 hS ho hv hn
/-- what readNumber comes to -/
def QN (B : Nat) (M : MM) (T : Tx) (s : St) (p w i : Nat) (ns : Nat → Nat) (q : Nat × Nat) : Int32 → MM → Prop := fun r M2 =>
  ((q.2 ≠ p ∧ okNum s w i q.1 (ns 0) ∧ r = nI 1 ∧ RR B M2 T q.2 ∧ (∀ j, j < i + 1 → M2.1 (B + 55) j = nI (upF ns i q.1 j)) ∧ M2.1 (B + 53) 6 = M.1 (B + 53) 6) ∨ (¬ (q.2 ≠ p ∧ okNum s w i q.1 (ns 0)) ∧ r = nI 0 ∧ M2.1 (B + 53) 6 = nI p)) ∧ Sm B M M2 53 56
theorem tl_X3_readNumber {T : Tx} {s : St} {p w i d v : Nat} {ns : Nat → Nat} (hT : T.1 ≤ 160) (hp : p < 10000) (hS : RS B M 32 s) (ho : okSt s) (hw : w < 7) (hi : i < nOf w) (hN : ∀ j, j < i → M.1 (B + 55) j = nI (ns j)) (hok : ∀ j, j < i → okNum s w j (ns j) (ns 0)) (hd : d ≤ 4) (hv : v < 10000) {M' : MM} (h : RR B M' T (p + d)) (hM : Sm B M M' 53 54) (hf : M'.1 (B + 53) 6 = M.1 (B + 53) 6) :
    G E B cX3_readNumber (RX3, 6, some .boolean, rmD 3, 0, 0, KM E B (Ri (QN B M T s p w i ns (v, p + d)))) 70 [(0, .ref (B + 53)), (1, .int (nI w)), (2, .int (nI i)), (3, .int (nI p)), (4, .int (nI v)), (5, .int (nI d))] [] M' := by
  have hi3 : i < 3 := by
    unfold nOf at hi
    repeat' split at hi
    all_goals omega
  have hS' : RS B (upI M' (B + 55) i (nI v)) 32 s := (hS.sm ho hM (by omega)).sm ho (Sm.pI (Nat.le_refl 55) (Nat.lt_succ_self 55)) (by omega)
  have hf' : (upI M' (B + 55) i (nI v)).1 (B + 53) 6 = M.1 (B + 53) 6 := by rw [upI_ap (by omega)]; exact hf
  have hN' : ∀ j, j < i + 1 → (upI M' (B + 55) i (nI v)).1 (B + 55) j = nI (upF ns i v j) := by
    intro j hj
    rw [upI_at]
    unfold upF
    split
    · rfl
    · rw [hM.i (by omega)]; exact hN j (by omega)
  have hn0 : w = 1 → i = 1 → (upI M' (B + 55) i (nI v)).1 (B + 55) 0 = nI (ns 0) ∧ ns 0 < sCn s := by
    intro e1 e2
    subst e1; subst e2
    refine ⟨?_, on_10.mp (hok 0 (by omega))⟩
    rw [hN' 0 (by omega), upF_n (by decide)]
  refine g_aload_n dX3_readNumber_70 rfl rfl ?_
  refine g_getR dX3_readNumber_71 fl_X3_15 rfl rfl ?_
  refine g_iload_n dX3_readNumber_74 rfl rfl ?_
  refine g_iload dX3_readNumber_75 rfl ?_
  refine g_iast dX3_readNumber_77 rfl rfl (by omega) ?_
  refine g_iload dX3_readNumber_78 rfl ?_
  refine g_if_eqN (tgt := 94) dX3_readNumber_80 (by decide) rfl (by omega) (fun c_80 => ?_) (fun c_80 => ?_)
  · refine g_aload_n dX3_readNumber_94 rfl rfl ?_
    refine g_iload_n dX3_readNumber_95 rfl rfl ?_
    refine g_putI dX3_readNumber_96 fp_X3_18 rfl rfl ?_
    refine g_iconst dX3_readNumber_99 kI_0 ?_
    refine g_zret dX3_readNumber_100 (by first | exact Or.inl rfl | exact Or.inr rfl | exact bp_01) ⟨_, rfl, ?_⟩
    refine ⟨Or.inr ⟨?_, rfl, upI_s⟩, Sm.tr (hM.up (by omega) (by omega)) (Sm.tr (Sm.pI (by omega) (by omega)) (Sm.pI (by omega) (by omega)))⟩
    first | (intro q; exact q.1 (by show p + d = p; omega)) | (intro q; exact (obp_0.mp c_91) q.2)
  · refine g_aload_n dX3_readNumber_83 rfl rfl ?_
    refine g_iload_n dX3_readNumber_84 rfl rfl ?_
    refine g_iload_n dX3_readNumber_85 rfl rfl ?_
    refine g_iload dX3_readNumber_86 rfl ?_
    refine g_callVp dX3_readNumber_88 mi_X3_mayBe ml_X3_105 (ct_X3_mayBe hS' ho hw hi (by omega) hn0) rfl rfl rfl rfl (Nat.le_of_ble_eq_true rfl) ⟨lt_r rfl, Nat.le_of_ble_eq_true rfl⟩ ?_
    refine g_if_ne (tgt := 101) dX3_readNumber_91 (by decide) (fun c_91 => ?_) (fun c_91 => ?_)
    · refine g_iconst dX3_readNumber_101 kI_1 ?_
      refine g_zret dX3_readNumber_102 (by first | exact Or.inl rfl | exact Or.inr rfl | exact bp_01) ⟨_, rfl, ?_⟩
      refine ⟨Or.inl ⟨by show p + d ≠ p; omega, Classical.byContradiction (fun z => c_91 (obp_0.mpr z)), rfl, h.sm (Sm.pI (Nat.le_refl 55) (Nat.lt_succ_self 55)) (by omega), hN', hf'⟩, Sm.tr (hM.up (by omega) (by omega)) (Sm.pI (by omega) (by omega))⟩
    · refine g_aload_n dX3_readNumber_94 rfl rfl ?_
      refine g_iload_n dX3_readNumber_95 rfl rfl ?_
      refine g_putI dX3_readNumber_96 fp_X3_18 rfl rfl ?_
      refine g_iconst dX3_readNumber_99 kI_0 ?_
      refine g_zret dX3_readNumber_100 (by first | exact Or.inl rfl | exact Or.inr rfl | exact bp_01) ⟨_, rfl, ?_⟩
      refine ⟨Or.inr ⟨?_, rfl, upI_s⟩, Sm.tr (hM.up (by omega) (by omega)) (Sm.tr (Sm.pI (by omega) (by omega)) (Sm.pI (by omega) (by omega)))⟩
      first | (intro q; exact q.1 (by show p + d = p; omega)) | (intro q; exact (obp_0.mp c_91) q.2)
theorem lp_X3_readNumber {T : Tx} {s : St} {p w i : Nat} {ns : Nat → Nat} {R : Nat × Nat} (hT : T.1 ≤ 160) (hp : p < 10000) (hS : RS B M 32 s) (ho : okSt s) (hw : w < 7) (hi : i < nOf w) (hN : ∀ j, j < i → M.1 (B + 55) j = nI (ns j)) (hok : ∀ j, j < i → okNum s w j (ns j) (ns 0)) (hR : R.1 < 10000) : ∀ (f d v : Nat), f + d = 4 → numF T f (p + d) v = R → ∀ M', RR B M' T (p + d) → Sm B M M' 53 54 → M'.1 (B + 53) 6 = M.1 (B + 53) 6 →
    G E B cX3_readNumber (RX3, 6, some .boolean, rmD 3, 0, 0, KM E B (Ri (QN B M T s p w i ns R))) 11 [(0, .ref (B + 53)), (1, .int (nI w)), (2, .int (nI i)), (3, .int (nI p)), (4, .int (nI v)), (5, .int (nI d))] [] M' := by
  intro f
  induction f with
  | zero =>
    intro d v h1 h2 M' h hM hf
    subst h2
    refine g_iload dX3_readNumber_11 rfl ?_
    refine g_iconst dX3_readNumber_13 kI_4 ?_
    refine g_icmp_geN (tgt := 70) dX3_readNumber_14 (by decide) rfl rfl (by omega) (by omega) (fun c_14 => ?_) (fun c_14 => absurd c_14 (by omega))
    exact tl_X3_readNumber hT hp hS ho hw hi hN hok (by omega) hR h hM hf
  | succ f ih =>
    intro d v h1 h2 M' h hM hf
    have e : numF T (f + 1) (p + d) v = if nI 48 ≤ ltr T (p + d) ∧ ltr T (p + d) ≤ nI 57 then numF T f (p + d + 1) (v * 10 + digN T (p + d)) else (v, p + d) := rfl
    refine g_iload dX3_readNumber_11 rfl ?_
    refine g_iconst dX3_readNumber_13 kI_4 ?_
    refine g_icmp_geN (tgt := 70) dX3_readNumber_14 (by decide) rfl rfl (by omega) (by omega) (fun c_14 => absurd c_14 (by omega)) (fun c_14 => ?_)
    refine g_aload_n dX3_readNumber_17 rfl rfl ?_
    refine g_aload_n dX3_readNumber_18 rfl rfl ?_
    refine g_getI dX3_readNumber_19 fl_X3_40 rfl rfl (h.2.2) ?_
    refine g_callVp dX3_readNumber_22 mi_X3_letter ml_X3_65 (ct_X3_letter h hT (by omega)) rfl rfl rfl rfl (Nat.le_of_ble_eq_true rfl) ⟨lt_r rfl, Nat.le_of_ble_eq_true rfl⟩ ?_
    refine g_bipush dX3_readNumber_25 kB_48 ?_
    refine g_bipush dX3_readNumber_27 kB_57 ?_
    refine g_callSNp dX3_readNumber_29 ms_X6_isWithin mn_X3_101 (ct_X6_isWithin) rfl rfl (Nat.le_of_ble_eq_true rfl) ⟨lt_r rfl, Nat.le_of_ble_eq_true rfl⟩ ?_
    refine g_if_eqP (tgt := 70) dX3_readNumber_32 (by decide) (fun c_32 => ?_) (fun c_32 => ?_)
    · rw [e, if_neg c_32] at h2
      subst h2
      exact tl_X3_readNumber hT hp hS ho hw hi hN hok (by omega) hR h hM hf
    · refine g_iload dX3_readNumber_35 rfl ?_
      refine g_bipush dX3_readNumber_37 kB_10 ?_
      refine g_imul dX3_readNumber_39 (pk_mul _ _) ?_
      refine g_aload_n dX3_readNumber_40 rfl rfl ?_
      refine g_aload_n dX3_readNumber_41 rfl rfl ?_
      refine g_getI dX3_readNumber_42 fl_X3_40 rfl rfl (h.2.2) ?_
      refine g_callVp dX3_readNumber_45 mi_X3_letter ml_X3_65 (ct_X3_letter h hT (by omega)) rfl rfl rfl rfl (Nat.le_of_ble_eq_true rfl) ⟨lt_r rfl, Nat.le_of_ble_eq_true rfl⟩ ?_
      refine g_iadd dX3_readNumber_48 (rfl) ?_
      refine g_bipush dX3_readNumber_49 kB_48 ?_
      refine g_isub dX3_readNumber_51 ((show nI (v * 10) + ltr T (p + d) - nI 48 = nI (v * 10 + digN T (p + d)) by rw [(dig_nI c_32).1, nI_add, pk_sub (by omega)]; congr 1; omega)) ?_
      refine g_istore dX3_readNumber_52 (lt_r rfl) rfl ?_
      refine g_iinc dX3_readNumber_54 rfl (inc_nI _) rfl ?_
      refine g_aload_n dX3_readNumber_57 rfl rfl ?_
      refine g_dup dX3_readNumber_58 rfl ?_
      refine g_getI dX3_readNumber_59 fl_X3_40 rfl rfl (h.2.2) ?_
      refine g_iconst dX3_readNumber_62 kI_1 ?_
      refine g_iadd dX3_readNumber_63 (nI_add _ _) ?_
      refine g_putI dX3_readNumber_64 fp_X3_40 rfl rfl ?_
      rw [e, if_pos c_32] at h2
      exact g_goto (tgt := 11) dX3_readNumber_67 (by decide) (g_le (lvLe_c rfl (lvLe_c rfl (lvLe_c rfl (lvLe_c rfl (lvLe_c rfl (lvLe_c rfl lvLe_0)))))) (ih (d + 1) _ (by omega) h2 _ ⟨by rw [upI_k (by decide)]; exact h.1, fun j hj => by rw [upI_ap (by omega)]; exact h.2.1 j hj, upI_s⟩ (hM.tr (Sm.pI (by omega) (by omega))) (by rw [upI_k (by decide)]; exact hf)))
theorem ct_X3_readNumber {T : Tx} {s : St} {p w i : Nat} {ns : Nat → Nat} (h : RR B M T p) (hT : T.1 ≤ 160) (hp : p < 10000) (hS : RS B M 32 s) (ho : okSt s) (hw : w < 7) (hi : i < nOf w) (hN : ∀ j, j < i → M.1 (B + 55) j = nI (ns j)) (hok : ∀ j, j < i → okNum s w j (ns j) (ns 0)) : Ct E B yX3_readNumber cX3_readNumber 6 (some .boolean) 3 [.ref (B + 53), .int (nI w), .int (nI i)] M (Ri (QN B M T s p w i ns (numF T 4 p 0))) := by
  have hb := (numF_ok (T := T) 4 p 0 1 (by decide)).2.2
  refine Ct.of2 (own := RX3) (lv := [(0, .ref (B + 53)), (1, .int (nI w)), (2, .int (nI i))]) pn_X3 rfl (Nat.le_of_ble_eq_true rfl) rfl ?_
  refine g_aload_n dX3_readNumber_0 rfl rfl ?_
  refine g_getI dX3_readNumber_1 fl_X3_40 rfl rfl (h.2.2) ?_
  refine g_istore_n dX3_readNumber_4 rfl (lt_r rfl) rfl ?_
  refine g_iconst dX3_readNumber_5 kI_0 ?_
  refine g_istore dX3_readNumber_6 (lt_r rfl) rfl ?_
  refine g_iconst dX3_readNumber_8 kI_0 ?_
  refine g_istore dX3_readNumber_9 (lt_r rfl) rfl ?_
  exact g_le (lvLe_c rfl (lvLe_c rfl (lvLe_c rfl (lvLe_c rfl (lvLe_c rfl (lvLe_c rfl lvLe_0)))))) (lp_X3_readNumber hT hp hS ho hw hi hN hok (by omega) 4 0 0 rfl rfl M h Sm.rf rfl)
end RDR
