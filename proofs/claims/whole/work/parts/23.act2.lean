section ACT
variable {E : EE} {B : Nat} {M : MM}
abbrev OwC (E : EE) (B w f o : Nat) : Prop := ∀ M : MM, Ct E B yX0_ownerOf cX0_ownerOf 4 (some .int) 1 [.int (nI w), .int (nI f)] M (Rp (nI o) M)
abbrev RnC (E : EE) (B d w f kd m a : Nat) (R : Int32 → Int32) (T2 : Tr → Tr) (u : Nat) : Prop := ∀ (M : MM) (T : Tr) (x : Int32) (dp : Nat), T.1 + u < 1000 → dp < 20 → RA B M kd m a T → Ct E B yX0_run cX0_run 9 (some .int) d [.ref (B + 56), .int (nI w), .int (nI f), .int x, .int (nI dp)] M (Ri (fun r M2 => r = R x ∧ RA B M2 kd m a (T2 T) ∧ Sm B M M2 56 58))
theorem rnS0_2 {w f kd m a : Nat}  (ho : OwC E B 0 f 0) (hdp : True) : ∀ (M : MM) (T : Tr) (x : Int32) (dp : Nat), T.1 + 1 < 1000 → dp < 22 → RA B M kd m a T → Ct E B yX0_run cX0_run 9 (some .int) 2 [.ref (B + 56), .int (nI 0), .int (nI f), .int x, .int (nI dp)] M (Ri (fun r M2 => r = x + nI m ∧ RA B M2 kd m a (tb T 10) ∧ Sm B M M2 56 58)) := by
  intro M T x dp hu hdq hA
  refine Ct.of2 (own := RX0) (lv := [(0, .ref (B + 56)), (1, .int (nI 0)), (2, .int (nI f)), (3, .int x), (4, .int (nI dp))]) pn_X0 rfl (Nat.le_of_ble_eq_true rfl) rfl ?_
  refine g_iload_n dX0_run_0 rfl rfl ?_
  refine g_iload_n dX0_run_1 rfl rfl ?_
  refine g_callSp dX0_run_2 ms_X0_ownerOf ml_X0_15 (ho M) rfl rfl (Nat.le_of_ble_eq_true rfl) ⟨lt_r rfl, Nat.le_of_ble_eq_true rfl⟩ ?_
  refine g_istore dX0_run_5 (lt_r rfl) rfl ?_
  refine g_iload dX0_run_7 rfl ?_
  refine g_iconst dX0_run_9 kI_m1 ?_
  refine g_icmp_eq (tgt := 20) dX0_run_10 (by decide) (fun c_10 => absurd c_10 (nI_nm1 (by omega))) (fun c_10 => ?_)
  refine g_iload dX0_run_13 rfl ?_
  refine g_bipush dX0_run_15 kB_40 ?_
  refine g_icmp_leN (tgt := 22) dX0_run_17 (by decide) rfl rfl (by omega) (by omega) (fun c_17 => ?_) (fun c_17 => absurd c_17 (by omega))
  refine g_getBo dX0_run_22 fw_X0_19 ?_
  refine g_iload dX0_run_25 rfl ?_
  refine g_iconst dX0_run_27 kI_3 ?_
  refine g_imul dX0_run_28 (pk_mul _ _) ?_
  refine g_iload_n dX0_run_29 rfl rfl ?_
  refine g_iadd dX0_run_30 (nI_add _ _) ?_
  refine g_ialdBo dX0_run_31 rfl (by omega) ((by decide : fBo (0 * 3 + 0) = nI 10)) ?_
  refine g_istore dX0_run_32 (lt_r rfl) rfl ?_
  refine g_aload_n dX0_run_34 rfl rfl ?_
  refine g_iload dX0_run_35 rfl ?_
  refine g_callVv dX0_run_37 mi_X0_begins ml_X0_22 (ct_X0_begins hA (by omega)) rfl rfl rfl rfl (Nat.le_of_ble_eq_true rfl) ⟨lt_r rfl, Nat.le_of_ble_eq_true rfl⟩ (fun M37 h37 => ?_)
  obtain ⟨hA1, hS1⟩ := h37
  refine g_getAb dX0_run_40 fn_X0_26 ?_
  refine g_iload dX0_run_43 rfl ?_
  refine g_ialdAb dX0_run_45 rfl (by omega) ((by decide : fAb 0 = -1)) ?_
  refine g_istore dX0_run_46 (lt_r rfl) rfl ?_
  refine g_iload dX0_run_48 rfl ?_
  refine g_iconst dX0_run_50 kI_1 ?_
  refine g_iadd dX0_run_51 (nI_add _ _) ?_
  refine g_istore dX0_run_52 (lt_r rfl) rfl ?_
  refine g_iload dX0_run_54 rfl ?_
  refine g_lookup (off := 100) (tgt := 156) dX0_run_56 (by decide) (by decide) (by decide) ?_
  refine g_iload_n dX0_run_156 rfl rfl ?_
  refine g_aload_n dX0_run_157 rfl rfl ?_
  refine g_getI dX0_run_158 fl_X0_29 rfl rfl (hA1.1.2.1) ?_
  refine g_iadd dX0_run_161 rfl ?_
  refine g_iret dX0_run_162 ⟨_, rfl, ?_⟩
  exact ⟨rfl, hA1, hS1⟩
theorem rnS0_3 {w f kd m a : Nat}  (ho : OwC E B 0 f 0) (hdp : True) : ∀ (M : MM) (T : Tr) (x : Int32) (dp : Nat), T.1 + 1 < 1000 → dp < 22 → RA B M kd m a T → Ct E B yX0_run cX0_run 9 (some .int) 3 [.ref (B + 56), .int (nI 0), .int (nI f), .int x, .int (nI dp)] M (Ri (fun r M2 => r = x + nI m ∧ RA B M2 kd m a (tb T 10) ∧ Sm B M M2 56 58)) := by
  intro M T x dp hu hdq hA
  refine Ct.of2 (own := RX0) (lv := [(0, .ref (B + 56)), (1, .int (nI 0)), (2, .int (nI f)), (3, .int x), (4, .int (nI dp))]) pn_X0 rfl (Nat.le_of_ble_eq_true rfl) rfl ?_
  refine g_iload_n dX0_run_0 rfl rfl ?_
  refine g_iload_n dX0_run_1 rfl rfl ?_
  refine g_callSp dX0_run_2 ms_X0_ownerOf ml_X0_15 (ho M) rfl rfl (Nat.le_of_ble_eq_true rfl) ⟨lt_r rfl, Nat.le_of_ble_eq_true rfl⟩ ?_
  refine g_istore dX0_run_5 (lt_r rfl) rfl ?_
  refine g_iload dX0_run_7 rfl ?_
  refine g_iconst dX0_run_9 kI_m1 ?_
  refine g_icmp_eq (tgt := 20) dX0_run_10 (by decide) (fun c_10 => absurd c_10 (nI_nm1 (by omega))) (fun c_10 => ?_)
  refine g_iload dX0_run_13 rfl ?_
  refine g_bipush dX0_run_15 kB_40 ?_
  refine g_icmp_leN (tgt := 22) dX0_run_17 (by decide) rfl rfl (by omega) (by omega) (fun c_17 => ?_) (fun c_17 => absurd c_17 (by omega))
  refine g_getBo dX0_run_22 fw_X0_19 ?_
  refine g_iload dX0_run_25 rfl ?_
  refine g_iconst dX0_run_27 kI_3 ?_
  refine g_imul dX0_run_28 (pk_mul _ _) ?_
  refine g_iload_n dX0_run_29 rfl rfl ?_
  refine g_iadd dX0_run_30 (nI_add _ _) ?_
  refine g_ialdBo dX0_run_31 rfl (by omega) ((by decide : fBo (0 * 3 + 0) = nI 10)) ?_
  refine g_istore dX0_run_32 (lt_r rfl) rfl ?_
  refine g_aload_n dX0_run_34 rfl rfl ?_
  refine g_iload dX0_run_35 rfl ?_
  refine g_callVv dX0_run_37 mi_X0_begins ml_X0_22 (ct_X0_begins hA (by omega)) rfl rfl rfl rfl (Nat.le_of_ble_eq_true rfl) ⟨lt_r rfl, Nat.le_of_ble_eq_true rfl⟩ (fun M37 h37 => ?_)
  obtain ⟨hA1, hS1⟩ := h37
  refine g_getAb dX0_run_40 fn_X0_26 ?_
  refine g_iload dX0_run_43 rfl ?_
  refine g_ialdAb dX0_run_45 rfl (by omega) ((by decide : fAb 0 = -1)) ?_
  refine g_istore dX0_run_46 (lt_r rfl) rfl ?_
  refine g_iload dX0_run_48 rfl ?_
  refine g_iconst dX0_run_50 kI_1 ?_
  refine g_iadd dX0_run_51 (nI_add _ _) ?_
  refine g_istore dX0_run_52 (lt_r rfl) rfl ?_
  refine g_iload dX0_run_54 rfl ?_
  refine g_lookup (off := 100) (tgt := 156) dX0_run_56 (by decide) (by decide) (by decide) ?_
  refine g_iload_n dX0_run_156 rfl rfl ?_
  refine g_aload_n dX0_run_157 rfl rfl ?_
  refine g_getI dX0_run_158 fl_X0_29 rfl rfl (hA1.1.2.1) ?_
  refine g_iadd dX0_run_161 rfl ?_
  refine g_iret dX0_run_162 ⟨_, rfl, ?_⟩
  exact ⟨rfl, hA1, hS1⟩
theorem rnS0_4 {w f kd m a : Nat}  (ho : OwC E B 0 f 0) (hdp : True) : ∀ (M : MM) (T : Tr) (x : Int32) (dp : Nat), T.1 + 1 < 1000 → dp < 22 → RA B M kd m a T → Ct E B yX0_run cX0_run 9 (some .int) 4 [.ref (B + 56), .int (nI 0), .int (nI f), .int x, .int (nI dp)] M (Ri (fun r M2 => r = x + nI m ∧ RA B M2 kd m a (tb T 10) ∧ Sm B M M2 56 58)) := by
  intro M T x dp hu hdq hA
  refine Ct.of2 (own := RX0) (lv := [(0, .ref (B + 56)), (1, .int (nI 0)), (2, .int (nI f)), (3, .int x), (4, .int (nI dp))]) pn_X0 rfl (Nat.le_of_ble_eq_true rfl) rfl ?_
  refine g_iload_n dX0_run_0 rfl rfl ?_
  refine g_iload_n dX0_run_1 rfl rfl ?_
  refine g_callSp dX0_run_2 ms_X0_ownerOf ml_X0_15 (ho M) rfl rfl (Nat.le_of_ble_eq_true rfl) ⟨lt_r rfl, Nat.le_of_ble_eq_true rfl⟩ ?_
  refine g_istore dX0_run_5 (lt_r rfl) rfl ?_
  refine g_iload dX0_run_7 rfl ?_
  refine g_iconst dX0_run_9 kI_m1 ?_
  refine g_icmp_eq (tgt := 20) dX0_run_10 (by decide) (fun c_10 => absurd c_10 (nI_nm1 (by omega))) (fun c_10 => ?_)
  refine g_iload dX0_run_13 rfl ?_
  refine g_bipush dX0_run_15 kB_40 ?_
  refine g_icmp_leN (tgt := 22) dX0_run_17 (by decide) rfl rfl (by omega) (by omega) (fun c_17 => ?_) (fun c_17 => absurd c_17 (by omega))
  refine g_getBo dX0_run_22 fw_X0_19 ?_
  refine g_iload dX0_run_25 rfl ?_
  refine g_iconst dX0_run_27 kI_3 ?_
  refine g_imul dX0_run_28 (pk_mul _ _) ?_
  refine g_iload_n dX0_run_29 rfl rfl ?_
  refine g_iadd dX0_run_30 (nI_add _ _) ?_
  refine g_ialdBo dX0_run_31 rfl (by omega) ((by decide : fBo (0 * 3 + 0) = nI 10)) ?_
  refine g_istore dX0_run_32 (lt_r rfl) rfl ?_
  refine g_aload_n dX0_run_34 rfl rfl ?_
  refine g_iload dX0_run_35 rfl ?_
  refine g_callVv dX0_run_37 mi_X0_begins ml_X0_22 (ct_X0_begins hA (by omega)) rfl rfl rfl rfl (Nat.le_of_ble_eq_true rfl) ⟨lt_r rfl, Nat.le_of_ble_eq_true rfl⟩ (fun M37 h37 => ?_)
  obtain ⟨hA1, hS1⟩ := h37
  refine g_getAb dX0_run_40 fn_X0_26 ?_
  refine g_iload dX0_run_43 rfl ?_
  refine g_ialdAb dX0_run_45 rfl (by omega) ((by decide : fAb 0 = -1)) ?_
  refine g_istore dX0_run_46 (lt_r rfl) rfl ?_
  refine g_iload dX0_run_48 rfl ?_
  refine g_iconst dX0_run_50 kI_1 ?_
  refine g_iadd dX0_run_51 (nI_add _ _) ?_
  refine g_istore dX0_run_52 (lt_r rfl) rfl ?_
  refine g_iload dX0_run_54 rfl ?_
  refine g_lookup (off := 100) (tgt := 156) dX0_run_56 (by decide) (by decide) (by decide) ?_
  refine g_iload_n dX0_run_156 rfl rfl ?_
  refine g_aload_n dX0_run_157 rfl rfl ?_
  refine g_getI dX0_run_158 fl_X0_29 rfl rfl (hA1.1.2.1) ?_
  refine g_iadd dX0_run_161 rfl ?_
  refine g_iret dX0_run_162 ⟨_, rfl, ?_⟩
  exact ⟨rfl, hA1, hS1⟩
theorem rnS1_4 {w f kd m a : Nat}  (ho : OwC E B 0 f 1) (hdp : True) : ∀ (M : MM) (T : Tr) (x : Int32) (dp : Nat), T.1 + 2 < 1000 → dp < 21 → RA B M kd m a T → Ct E B yX0_run cX0_run 9 (some .int) 4 [.ref (B + 56), .int (nI 0), .int (nI f), .int x, .int (nI dp)] M (Ri (fun r M2 => r = x + nI m + nI a ∧ RA B M2 kd m a (tb (tb T 20) 10) ∧ Sm B M M2 56 58)) := by
  intro M T x dp hu hdq hA
  refine Ct.of2 (own := RX0) (lv := [(0, .ref (B + 56)), (1, .int (nI 0)), (2, .int (nI f)), (3, .int x), (4, .int (nI dp))]) pn_X0 rfl (Nat.le_of_ble_eq_true rfl) rfl ?_
  refine g_iload_n dX0_run_0 rfl rfl ?_
  refine g_iload_n dX0_run_1 rfl rfl ?_
  refine g_callSp dX0_run_2 ms_X0_ownerOf ml_X0_15 (ho M) rfl rfl (Nat.le_of_ble_eq_true rfl) ⟨lt_r rfl, Nat.le_of_ble_eq_true rfl⟩ ?_
  refine g_istore dX0_run_5 (lt_r rfl) rfl ?_
  refine g_iload dX0_run_7 rfl ?_
  refine g_iconst dX0_run_9 kI_m1 ?_
  refine g_icmp_eq (tgt := 20) dX0_run_10 (by decide) (fun c_10 => absurd c_10 (nI_nm1 (by omega))) (fun c_10 => ?_)
  refine g_iload dX0_run_13 rfl ?_
  refine g_bipush dX0_run_15 kB_40 ?_
  refine g_icmp_leN (tgt := 22) dX0_run_17 (by decide) rfl rfl (by omega) (by omega) (fun c_17 => ?_) (fun c_17 => absurd c_17 (by omega))
  refine g_getBo dX0_run_22 fw_X0_19 ?_
  refine g_iload dX0_run_25 rfl ?_
  refine g_iconst dX0_run_27 kI_3 ?_
  refine g_imul dX0_run_28 (pk_mul _ _) ?_
  refine g_iload_n dX0_run_29 rfl rfl ?_
  refine g_iadd dX0_run_30 (nI_add _ _) ?_
  refine g_ialdBo dX0_run_31 rfl (by omega) ((by decide : fBo (1 * 3 + 0) = nI 20)) ?_
  refine g_istore dX0_run_32 (lt_r rfl) rfl ?_
  refine g_aload_n dX0_run_34 rfl rfl ?_
  refine g_iload dX0_run_35 rfl ?_
  refine g_callVv dX0_run_37 mi_X0_begins ml_X0_22 (ct_X0_begins hA (by omega)) rfl rfl rfl rfl (Nat.le_of_ble_eq_true rfl) ⟨lt_r rfl, Nat.le_of_ble_eq_true rfl⟩ (fun M37 h37 => ?_)
  obtain ⟨hA1, hS1⟩ := h37
  refine g_getAb dX0_run_40 fn_X0_26 ?_
  refine g_iload dX0_run_43 rfl ?_
  refine g_ialdAb dX0_run_45 rfl (by omega) ((by decide : fAb 1 = nI 0)) ?_
  refine g_istore dX0_run_46 (lt_r rfl) rfl ?_
  refine g_iload dX0_run_48 rfl ?_
  refine g_iconst dX0_run_50 kI_1 ?_
  refine g_iadd dX0_run_51 (nI_add _ _) ?_
  refine g_istore dX0_run_52 (lt_r rfl) rfl ?_
  refine g_iload dX0_run_54 rfl ?_
  refine g_lookup (off := 153) (tgt := 209) dX0_run_56 (by decide) (by decide) (by decide) ?_
  refine g_aload_n dX0_run_209 rfl rfl ?_
  refine g_iconst dX0_run_210 kI_0 ?_
  refine g_iload dX0_run_211 rfl ?_
  refine g_iload_n dX0_run_213 rfl rfl ?_
  refine g_iload dX0_run_214 rfl ?_
  refine g_callSi dX0_run_216 ms_X0_run ml_X0_36 (rnS0_2 (w := 0) (fun _ => ct_own_0_0) trivial _ (tb T 20) _ _ (by show T.1 + 1 + 1 < 1000; omega) (by omega) hA1) rfl rfl (Nat.le_of_ble_eq_true rfl) ⟨lt_r rfl, Nat.le_of_ble_eq_true rfl⟩ (fun x216 M216 h216 => ?_)
  obtain ⟨rfl, hA216, hS216⟩ := h216
  refine g_aload_n dX0_run_219 rfl rfl ?_
  refine g_getI dX0_run_220 fl_X0_40 rfl rfl (hA216.1.2.2) ?_
  refine g_iadd dX0_run_223 rfl ?_
  refine g_iret dX0_run_224 ⟨_, rfl, ?_⟩
  exact ⟨rfl, hA216, hS1.tr hS216⟩
theorem rnS4_3 {w f kd m a : Nat}  (ho : OwC E B 0 f 4) (hdp : True) : ∀ (M : MM) (T : Tr) (x : Int32) (dp : Nat), T.1 + 2 < 1000 → dp < 21 → RA B M kd m a T → Ct E B yX0_run cX0_run 9 (some .int) 3 [.ref (B + 56), .int (nI 0), .int (nI f), .int x, .int (nI dp)] M (Ri (fun r M2 => r = x + nI m - nI m ∧ RA B M2 kd m a (tb (tb T 51) 10) ∧ Sm B M M2 56 58)) := by
  intro M T x dp hu hdq hA
  refine Ct.of2 (own := RX0) (lv := [(0, .ref (B + 56)), (1, .int (nI 0)), (2, .int (nI f)), (3, .int x), (4, .int (nI dp))]) pn_X0 rfl (Nat.le_of_ble_eq_true rfl) rfl ?_
  refine g_iload_n dX0_run_0 rfl rfl ?_
  refine g_iload_n dX0_run_1 rfl rfl ?_
  refine g_callSp dX0_run_2 ms_X0_ownerOf ml_X0_15 (ho M) rfl rfl (Nat.le_of_ble_eq_true rfl) ⟨lt_r rfl, Nat.le_of_ble_eq_true rfl⟩ ?_
  refine g_istore dX0_run_5 (lt_r rfl) rfl ?_
  refine g_iload dX0_run_7 rfl ?_
  refine g_iconst dX0_run_9 kI_m1 ?_
  refine g_icmp_eq (tgt := 20) dX0_run_10 (by decide) (fun c_10 => absurd c_10 (nI_nm1 (by omega))) (fun c_10 => ?_)
  refine g_iload dX0_run_13 rfl ?_
  refine g_bipush dX0_run_15 kB_40 ?_
  refine g_icmp_leN (tgt := 22) dX0_run_17 (by decide) rfl rfl (by omega) (by omega) (fun c_17 => ?_) (fun c_17 => absurd c_17 (by omega))
  refine g_getBo dX0_run_22 fw_X0_19 ?_
  refine g_iload dX0_run_25 rfl ?_
  refine g_iconst dX0_run_27 kI_3 ?_
  refine g_imul dX0_run_28 (pk_mul _ _) ?_
  refine g_iload_n dX0_run_29 rfl rfl ?_
  refine g_iadd dX0_run_30 (nI_add _ _) ?_
  refine g_ialdBo dX0_run_31 rfl (by omega) ((by decide : fBo (4 * 3 + 0) = nI 51)) ?_
  refine g_istore dX0_run_32 (lt_r rfl) rfl ?_
  refine g_aload_n dX0_run_34 rfl rfl ?_
  refine g_iload dX0_run_35 rfl ?_
  refine g_callVv dX0_run_37 mi_X0_begins ml_X0_22 (ct_X0_begins hA (by omega)) rfl rfl rfl rfl (Nat.le_of_ble_eq_true rfl) ⟨lt_r rfl, Nat.le_of_ble_eq_true rfl⟩ (fun M37 h37 => ?_)
  obtain ⟨hA1, hS1⟩ := h37
  refine g_getAb dX0_run_40 fn_X0_26 ?_
  refine g_iload dX0_run_43 rfl ?_
  refine g_ialdAb dX0_run_45 rfl (by omega) ((by decide : fAb 4 = nI 0)) ?_
  refine g_istore dX0_run_46 (lt_r rfl) rfl ?_
  refine g_iload dX0_run_48 rfl ?_
  refine g_iconst dX0_run_50 kI_1 ?_
  refine g_iadd dX0_run_51 (nI_add _ _) ?_
  refine g_istore dX0_run_52 (lt_r rfl) rfl ?_
  refine g_iload dX0_run_54 rfl ?_
  refine g_lookup (off := 207) (tgt := 263) dX0_run_56 (by decide) (by decide) (by decide) ?_
  refine g_aload_n dX0_run_263 rfl rfl ?_
  refine g_iconst dX0_run_264 kI_0 ?_
  refine g_iload dX0_run_265 rfl ?_
  refine g_iload_n dX0_run_267 rfl rfl ?_
  refine g_iload dX0_run_268 rfl ?_
  refine g_callSi dX0_run_270 ms_X0_run ml_X0_36 (rnS0_2 (w := 0) (fun _ => ct_own_0_0) trivial _ (tb T 51) _ _ (by show T.1 + 1 + 1 < 1000; omega) (by omega) hA1) rfl rfl (Nat.le_of_ble_eq_true rfl) ⟨lt_r rfl, Nat.le_of_ble_eq_true rfl⟩ (fun x270 M270 h270 => ?_)
  obtain ⟨rfl, hA270, hS270⟩ := h270
  refine g_aload_n dX0_run_273 rfl rfl ?_
  refine g_getI dX0_run_274 fl_X0_29 rfl rfl (hA270.1.2.1) ?_
  refine g_isub dX0_run_277 rfl ?_
  refine g_iret dX0_run_278 ⟨_, rfl, ?_⟩
  exact ⟨rfl, hA270, hS1.tr hS270⟩
theorem rnS4_4 {w f kd m a : Nat}  (ho : OwC E B 0 f 4) (hdp : True) : ∀ (M : MM) (T : Tr) (x : Int32) (dp : Nat), T.1 + 2 < 1000 → dp < 21 → RA B M kd m a T → Ct E B yX0_run cX0_run 9 (some .int) 4 [.ref (B + 56), .int (nI 0), .int (nI f), .int x, .int (nI dp)] M (Ri (fun r M2 => r = x + nI m - nI m ∧ RA B M2 kd m a (tb (tb T 51) 10) ∧ Sm B M M2 56 58)) := by
  intro M T x dp hu hdq hA
  refine Ct.of2 (own := RX0) (lv := [(0, .ref (B + 56)), (1, .int (nI 0)), (2, .int (nI f)), (3, .int x), (4, .int (nI dp))]) pn_X0 rfl (Nat.le_of_ble_eq_true rfl) rfl ?_
  refine g_iload_n dX0_run_0 rfl rfl ?_
  refine g_iload_n dX0_run_1 rfl rfl ?_
  refine g_callSp dX0_run_2 ms_X0_ownerOf ml_X0_15 (ho M) rfl rfl (Nat.le_of_ble_eq_true rfl) ⟨lt_r rfl, Nat.le_of_ble_eq_true rfl⟩ ?_
  refine g_istore dX0_run_5 (lt_r rfl) rfl ?_
  refine g_iload dX0_run_7 rfl ?_
  refine g_iconst dX0_run_9 kI_m1 ?_
  refine g_icmp_eq (tgt := 20) dX0_run_10 (by decide) (fun c_10 => absurd c_10 (nI_nm1 (by omega))) (fun c_10 => ?_)
  refine g_iload dX0_run_13 rfl ?_
  refine g_bipush dX0_run_15 kB_40 ?_
  refine g_icmp_leN (tgt := 22) dX0_run_17 (by decide) rfl rfl (by omega) (by omega) (fun c_17 => ?_) (fun c_17 => absurd c_17 (by omega))
  refine g_getBo dX0_run_22 fw_X0_19 ?_
  refine g_iload dX0_run_25 rfl ?_
  refine g_iconst dX0_run_27 kI_3 ?_
  refine g_imul dX0_run_28 (pk_mul _ _) ?_
  refine g_iload_n dX0_run_29 rfl rfl ?_
  refine g_iadd dX0_run_30 (nI_add _ _) ?_
  refine g_ialdBo dX0_run_31 rfl (by omega) ((by decide : fBo (4 * 3 + 0) = nI 51)) ?_
  refine g_istore dX0_run_32 (lt_r rfl) rfl ?_
  refine g_aload_n dX0_run_34 rfl rfl ?_
  refine g_iload dX0_run_35 rfl ?_
  refine g_callVv dX0_run_37 mi_X0_begins ml_X0_22 (ct_X0_begins hA (by omega)) rfl rfl rfl rfl (Nat.le_of_ble_eq_true rfl) ⟨lt_r rfl, Nat.le_of_ble_eq_true rfl⟩ (fun M37 h37 => ?_)
  obtain ⟨hA1, hS1⟩ := h37
  refine g_getAb dX0_run_40 fn_X0_26 ?_
  refine g_iload dX0_run_43 rfl ?_
  refine g_ialdAb dX0_run_45 rfl (by omega) ((by decide : fAb 4 = nI 0)) ?_
  refine g_istore dX0_run_46 (lt_r rfl) rfl ?_
  refine g_iload dX0_run_48 rfl ?_
  refine g_iconst dX0_run_50 kI_1 ?_
  refine g_iadd dX0_run_51 (nI_add _ _) ?_
  refine g_istore dX0_run_52 (lt_r rfl) rfl ?_
  refine g_iload dX0_run_54 rfl ?_
  refine g_lookup (off := 207) (tgt := 263) dX0_run_56 (by decide) (by decide) (by decide) ?_
  refine g_aload_n dX0_run_263 rfl rfl ?_
  refine g_iconst dX0_run_264 kI_0 ?_
  refine g_iload dX0_run_265 rfl ?_
  refine g_iload_n dX0_run_267 rfl rfl ?_
  refine g_iload dX0_run_268 rfl ?_
  refine g_callSi dX0_run_270 ms_X0_run ml_X0_36 (rnS0_2 (w := 0) (fun _ => ct_own_0_0) trivial _ (tb T 51) _ _ (by show T.1 + 1 + 1 < 1000; omega) (by omega) hA1) rfl rfl (Nat.le_of_ble_eq_true rfl) ⟨lt_r rfl, Nat.le_of_ble_eq_true rfl⟩ (fun x270 M270 h270 => ?_)
  obtain ⟨rfl, hA270, hS270⟩ := h270
  refine g_aload_n dX0_run_273 rfl rfl ?_
  refine g_getI dX0_run_274 fl_X0_29 rfl rfl (hA270.1.2.1) ?_
  refine g_isub dX0_run_277 rfl ?_
  refine g_iret dX0_run_278 ⟨_, rfl, ?_⟩
  exact ⟨rfl, hA270, hS1.tr hS270⟩
theorem rnS6_4 {w f kd m a : Nat}  (ho : OwC E B 0 f 6) (hdp : True) : ∀ (M : MM) (T : Tr) (x : Int32) (dp : Nat), T.1 + 3 < 1000 → dp < 20 → RA B M kd m a T → Ct E B yX0_run cX0_run 9 (some .int) 4 [.ref (B + 56), .int (nI 0), .int (nI f), .int x, .int (nI dp)] M (Ri (fun r M2 => r = (x + nI m - nI m) * nI 2 ∧ RA B M2 kd m a (tb (tb (tb T 70) 51) 10) ∧ Sm B M M2 56 58)) := by
  intro M T x dp hu hdq hA
  refine Ct.of2 (own := RX0) (lv := [(0, .ref (B + 56)), (1, .int (nI 0)), (2, .int (nI f)), (3, .int x), (4, .int (nI dp))]) pn_X0 rfl (Nat.le_of_ble_eq_true rfl) rfl ?_
  refine g_iload_n dX0_run_0 rfl rfl ?_
  refine g_iload_n dX0_run_1 rfl rfl ?_
  refine g_callSp dX0_run_2 ms_X0_ownerOf ml_X0_15 (ho M) rfl rfl (Nat.le_of_ble_eq_true rfl) ⟨lt_r rfl, Nat.le_of_ble_eq_true rfl⟩ ?_
  refine g_istore dX0_run_5 (lt_r rfl) rfl ?_
  refine g_iload dX0_run_7 rfl ?_
  refine g_iconst dX0_run_9 kI_m1 ?_
  refine g_icmp_eq (tgt := 20) dX0_run_10 (by decide) (fun c_10 => absurd c_10 (nI_nm1 (by omega))) (fun c_10 => ?_)
  refine g_iload dX0_run_13 rfl ?_
  refine g_bipush dX0_run_15 kB_40 ?_
  refine g_icmp_leN (tgt := 22) dX0_run_17 (by decide) rfl rfl (by omega) (by omega) (fun c_17 => ?_) (fun c_17 => absurd c_17 (by omega))
  refine g_getBo dX0_run_22 fw_X0_19 ?_
  refine g_iload dX0_run_25 rfl ?_
  refine g_iconst dX0_run_27 kI_3 ?_
  refine g_imul dX0_run_28 (pk_mul _ _) ?_
  refine g_iload_n dX0_run_29 rfl rfl ?_
  refine g_iadd dX0_run_30 (nI_add _ _) ?_
  refine g_ialdBo dX0_run_31 rfl (by omega) ((by decide : fBo (6 * 3 + 0) = nI 70)) ?_
  refine g_istore dX0_run_32 (lt_r rfl) rfl ?_
  refine g_aload_n dX0_run_34 rfl rfl ?_
  refine g_iload dX0_run_35 rfl ?_
  refine g_callVv dX0_run_37 mi_X0_begins ml_X0_22 (ct_X0_begins hA (by omega)) rfl rfl rfl rfl (Nat.le_of_ble_eq_true rfl) ⟨lt_r rfl, Nat.le_of_ble_eq_true rfl⟩ (fun M37 h37 => ?_)
  obtain ⟨hA1, hS1⟩ := h37
  refine g_getAb dX0_run_40 fn_X0_26 ?_
  refine g_iload dX0_run_43 rfl ?_
  refine g_ialdAb dX0_run_45 rfl (by omega) ((by decide : fAb 6 = nI 4)) ?_
  refine g_istore dX0_run_46 (lt_r rfl) rfl ?_
  refine g_iload dX0_run_48 rfl ?_
  refine g_iconst dX0_run_50 kI_1 ?_
  refine g_iadd dX0_run_51 (nI_add _ _) ?_
  refine g_istore dX0_run_52 (lt_r rfl) rfl ?_
  refine g_iload dX0_run_54 rfl ?_
  refine g_lookup (off := 236) (tgt := 292) dX0_run_56 (by decide) (by decide) (by decide) ?_
  refine g_aload_n dX0_run_292 rfl rfl ?_
  refine g_iconst dX0_run_293 kI_0 ?_
  refine g_iload dX0_run_294 rfl ?_
  refine g_iload_n dX0_run_296 rfl rfl ?_
  refine g_iload dX0_run_297 rfl ?_
  refine g_callSi dX0_run_299 ms_X0_run ml_X0_36 (rnS4_3 (w := 0) (fun _ => ct_own_0_4) trivial _ (tb T 70) _ _ (by show T.1 + 1 + 2 < 1000; omega) (by omega) hA1) rfl rfl (Nat.le_of_ble_eq_true rfl) ⟨lt_r rfl, Nat.le_of_ble_eq_true rfl⟩ (fun x299 M299 h299 => ?_)
  obtain ⟨rfl, hA299, hS299⟩ := h299
  refine g_iconst dX0_run_302 kI_2 ?_
  refine g_imul dX0_run_303 rfl ?_
  refine g_iret dX0_run_304 ⟨_, rfl, ?_⟩
  exact ⟨rfl, hA299, hS1.tr hS299⟩
theorem ct_runS {kd m a : Nat} (hk : kd ≤ 6) {f : Nat} (hf : f ≤ 6) : ∀ (M : MM) (T : Tr) (x : Int32) (dp : Nat), T.1 + 3 < 1000 → dp < 20 → RA B M kd m a T → Ct E B yX0_run cX0_run 9 (some .int) 4 [.ref (B + 56), .int (nI 0), .int (nI f), .int x, .int (nI dp)] M (Ri (fun r M2 => r = sR m a f x ∧ RA B M2 kd m a (sT f T) ∧ Sm B M M2 56 58)) := by
  intro M T x dp hu hdq hA
  rcases (show f = 0 ∨ f = 1 ∨ f = 2 ∨ f = 3 ∨ f = 4 ∨ f = 5 ∨ f = 6 by omega) with rfl | rfl | rfl | rfl | rfl | rfl | rfl
  · exact rnS0_4 (w := 0) (fun _ => ct_own_0_0) trivial M T x dp (by omega) (by omega) hA
  · exact rnS1_4 (w := 0) (fun _ => ct_own_0_1) trivial M T x dp (by omega) (by omega) hA
  · exact rnS0_4 (w := 0) (fun _ => ct_own_0_2) trivial M T x dp (by omega) (by omega) hA
  · exact rnS1_4 (w := 0) (fun _ => ct_own_0_3) trivial M T x dp (by omega) (by omega) hA
  · exact rnS4_4 (w := 0) (fun _ => ct_own_0_4) trivial M T x dp (by omega) (by omega) hA
  · exact rnS0_4 (w := 0) (fun _ => ct_own_0_5) trivial M T x dp (by omega) (by omega) hA
  · exact rnS6_4 (w := 0) (fun _ => ct_own_0_6) trivial M T x dp (by omega) (by omega) hA
theorem rnC0_5 {w f kd m a : Nat} (hk : kd ≤ 6) (ho : OwC E B 1 f 0) (hdp : True) : ∀ (M : MM) (T : Tr) (x : Int32) (dp : Nat), T.1 + 4 < 1000 → dp < 19 → RA B M kd m a T → Ct E B yX0_run cX0_run 9 (some .int) 5 [.ref (B + 56), .int (nI 1), .int (nI f), .int x, .int (nI dp)] M (Ri (fun r M2 => r = sR m a kd x * nI 2 ∧ RA B M2 kd m a (sT kd (tb T 11)) ∧ Sm B M M2 56 58)) := by
  intro M T x dp hu hdq hA
  refine Ct.of2 (own := RX0) (lv := [(0, .ref (B + 56)), (1, .int (nI 1)), (2, .int (nI f)), (3, .int x), (4, .int (nI dp))]) pn_X0 rfl (Nat.le_of_ble_eq_true rfl) rfl ?_
  refine g_iload_n dX0_run_0 rfl rfl ?_
  refine g_iload_n dX0_run_1 rfl rfl ?_
  refine g_callSp dX0_run_2 ms_X0_ownerOf ml_X0_15 (ho M) rfl rfl (Nat.le_of_ble_eq_true rfl) ⟨lt_r rfl, Nat.le_of_ble_eq_true rfl⟩ ?_
  refine g_istore dX0_run_5 (lt_r rfl) rfl ?_
  refine g_iload dX0_run_7 rfl ?_
  refine g_iconst dX0_run_9 kI_m1 ?_
  refine g_icmp_eq (tgt := 20) dX0_run_10 (by decide) (fun c_10 => absurd c_10 (nI_nm1 (by omega))) (fun c_10 => ?_)
  refine g_iload dX0_run_13 rfl ?_
  refine g_bipush dX0_run_15 kB_40 ?_
  refine g_icmp_leN (tgt := 22) dX0_run_17 (by decide) rfl rfl (by omega) (by omega) (fun c_17 => ?_) (fun c_17 => absurd c_17 (by omega))
  refine g_getBo dX0_run_22 fw_X0_19 ?_
  refine g_iload dX0_run_25 rfl ?_
  refine g_iconst dX0_run_27 kI_3 ?_
  refine g_imul dX0_run_28 (pk_mul _ _) ?_
  refine g_iload_n dX0_run_29 rfl rfl ?_
  refine g_iadd dX0_run_30 (nI_add _ _) ?_
  refine g_ialdBo dX0_run_31 rfl (by omega) ((by decide : fBo (0 * 3 + 1) = nI 11)) ?_
  refine g_istore dX0_run_32 (lt_r rfl) rfl ?_
  refine g_aload_n dX0_run_34 rfl rfl ?_
  refine g_iload dX0_run_35 rfl ?_
  refine g_callVv dX0_run_37 mi_X0_begins ml_X0_22 (ct_X0_begins hA (by omega)) rfl rfl rfl rfl (Nat.le_of_ble_eq_true rfl) ⟨lt_r rfl, Nat.le_of_ble_eq_true rfl⟩ (fun M37 h37 => ?_)
  obtain ⟨hA1, hS1⟩ := h37
  refine g_getAb dX0_run_40 fn_X0_26 ?_
  refine g_iload dX0_run_43 rfl ?_
  refine g_ialdAb dX0_run_45 rfl (by omega) ((by decide : fAb 0 = -1)) ?_
  refine g_istore dX0_run_46 (lt_r rfl) rfl ?_
  refine g_iload dX0_run_48 rfl ?_
  refine g_iconst dX0_run_50 kI_1 ?_
  refine g_iadd dX0_run_51 (nI_add _ _) ?_
  refine g_istore dX0_run_52 (lt_r rfl) rfl ?_
  refine g_iload dX0_run_54 rfl ?_
  refine g_lookup (off := 107) (tgt := 163) dX0_run_56 (by decide) (by decide) (by decide) ?_
  refine g_aload_n dX0_run_163 rfl rfl ?_
  refine g_iconst dX0_run_164 kI_0 ?_
  refine g_aload_n dX0_run_165 rfl rfl ?_
  refine g_getI dX0_run_166 fl_X0_33 rfl rfl (hA1.1.1) ?_
  refine g_iload_n dX0_run_169 rfl rfl ?_
  refine g_iload dX0_run_170 rfl ?_
  refine g_callSi dX0_run_172 ms_X0_run ml_X0_36 (ct_runS hk hk _ (tb T 11) _ _ (by show T.1 + 1 + 3 < 1000; omega) (by omega) hA1) rfl rfl (Nat.le_of_ble_eq_true rfl) ⟨lt_r rfl, Nat.le_of_ble_eq_true rfl⟩ (fun x172 M172 h172 => ?_)
  obtain ⟨rfl, hA172, hS172⟩ := h172
  refine g_iconst dX0_run_175 kI_2 ?_
  refine g_imul dX0_run_176 rfl ?_
  refine g_iret dX0_run_177 ⟨_, rfl, ?_⟩
  exact ⟨rfl, hA172, hS1.tr hS172⟩
theorem rnC0_6 {w f kd m a : Nat} (hk : kd ≤ 6) (ho : OwC E B 1 f 0) (hdp : True) : ∀ (M : MM) (T : Tr) (x : Int32) (dp : Nat), T.1 + 4 < 1000 → dp < 19 → RA B M kd m a T → Ct E B yX0_run cX0_run 9 (some .int) 6 [.ref (B + 56), .int (nI 1), .int (nI f), .int x, .int (nI dp)] M (Ri (fun r M2 => r = sR m a kd x * nI 2 ∧ RA B M2 kd m a (sT kd (tb T 11)) ∧ Sm B M M2 56 58)) := by
  intro M T x dp hu hdq hA
  refine Ct.of2 (own := RX0) (lv := [(0, .ref (B + 56)), (1, .int (nI 1)), (2, .int (nI f)), (3, .int x), (4, .int (nI dp))]) pn_X0 rfl (Nat.le_of_ble_eq_true rfl) rfl ?_
  refine g_iload_n dX0_run_0 rfl rfl ?_
  refine g_iload_n dX0_run_1 rfl rfl ?_
  refine g_callSp dX0_run_2 ms_X0_ownerOf ml_X0_15 (ho M) rfl rfl (Nat.le_of_ble_eq_true rfl) ⟨lt_r rfl, Nat.le_of_ble_eq_true rfl⟩ ?_
  refine g_istore dX0_run_5 (lt_r rfl) rfl ?_
  refine g_iload dX0_run_7 rfl ?_
  refine g_iconst dX0_run_9 kI_m1 ?_
  refine g_icmp_eq (tgt := 20) dX0_run_10 (by decide) (fun c_10 => absurd c_10 (nI_nm1 (by omega))) (fun c_10 => ?_)
  refine g_iload dX0_run_13 rfl ?_
  refine g_bipush dX0_run_15 kB_40 ?_
  refine g_icmp_leN (tgt := 22) dX0_run_17 (by decide) rfl rfl (by omega) (by omega) (fun c_17 => ?_) (fun c_17 => absurd c_17 (by omega))
  refine g_getBo dX0_run_22 fw_X0_19 ?_
  refine g_iload dX0_run_25 rfl ?_
  refine g_iconst dX0_run_27 kI_3 ?_
  refine g_imul dX0_run_28 (pk_mul _ _) ?_
  refine g_iload_n dX0_run_29 rfl rfl ?_
  refine g_iadd dX0_run_30 (nI_add _ _) ?_
  refine g_ialdBo dX0_run_31 rfl (by omega) ((by decide : fBo (0 * 3 + 1) = nI 11)) ?_
  refine g_istore dX0_run_32 (lt_r rfl) rfl ?_
  refine g_aload_n dX0_run_34 rfl rfl ?_
  refine g_iload dX0_run_35 rfl ?_
  refine g_callVv dX0_run_37 mi_X0_begins ml_X0_22 (ct_X0_begins hA (by omega)) rfl rfl rfl rfl (Nat.le_of_ble_eq_true rfl) ⟨lt_r rfl, Nat.le_of_ble_eq_true rfl⟩ (fun M37 h37 => ?_)
  obtain ⟨hA1, hS1⟩ := h37
  refine g_getAb dX0_run_40 fn_X0_26 ?_
  refine g_iload dX0_run_43 rfl ?_
  refine g_ialdAb dX0_run_45 rfl (by omega) ((by decide : fAb 0 = -1)) ?_
  refine g_istore dX0_run_46 (lt_r rfl) rfl ?_
  refine g_iload dX0_run_48 rfl ?_
  refine g_iconst dX0_run_50 kI_1 ?_
  refine g_iadd dX0_run_51 (nI_add _ _) ?_
  refine g_istore dX0_run_52 (lt_r rfl) rfl ?_
  refine g_iload dX0_run_54 rfl ?_
  refine g_lookup (off := 107) (tgt := 163) dX0_run_56 (by decide) (by decide) (by decide) ?_
  refine g_aload_n dX0_run_163 rfl rfl ?_
  refine g_iconst dX0_run_164 kI_0 ?_
  refine g_aload_n dX0_run_165 rfl rfl ?_
  refine g_getI dX0_run_166 fl_X0_33 rfl rfl (hA1.1.1) ?_
  refine g_iload_n dX0_run_169 rfl rfl ?_
  refine g_iload dX0_run_170 rfl ?_
  refine g_callSi dX0_run_172 ms_X0_run ml_X0_36 (ct_runS hk hk _ (tb T 11) _ _ (by show T.1 + 1 + 3 < 1000; omega) (by omega) hA1) rfl rfl (Nat.le_of_ble_eq_true rfl) ⟨lt_r rfl, Nat.le_of_ble_eq_true rfl⟩ (fun x172 M172 h172 => ?_)
  obtain ⟨rfl, hA172, hS172⟩ := h172
  refine g_iconst dX0_run_175 kI_2 ?_
  refine g_imul dX0_run_176 rfl ?_
  refine g_iret dX0_run_177 ⟨_, rfl, ?_⟩
  exact ⟨rfl, hA172, hS1.tr hS172⟩
theorem rnC2_6 {w f kd m a : Nat} (hk : kd ≤ 6) (ho : OwC E B 1 f 2) (hdp : True) : ∀ (M : MM) (T : Tr) (x : Int32) (dp : Nat), T.1 + 5 < 1000 → dp < 18 → RA B M kd m a T → Ct E B yX0_run cX0_run 9 (some .int) 6 [.ref (B + 56), .int (nI 1), .int (nI f), .int x, .int (nI dp)] M (Ri (fun r M2 => r = sR m a kd x * nI 2 * nI 3 ∧ RA B M2 kd m a (sT kd (tb (tb T 30) 11)) ∧ Sm B M M2 56 58)) := by
  intro M T x dp hu hdq hA
  refine Ct.of2 (own := RX0) (lv := [(0, .ref (B + 56)), (1, .int (nI 1)), (2, .int (nI f)), (3, .int x), (4, .int (nI dp))]) pn_X0 rfl (Nat.le_of_ble_eq_true rfl) rfl ?_
  refine g_iload_n dX0_run_0 rfl rfl ?_
  refine g_iload_n dX0_run_1 rfl rfl ?_
  refine g_callSp dX0_run_2 ms_X0_ownerOf ml_X0_15 (ho M) rfl rfl (Nat.le_of_ble_eq_true rfl) ⟨lt_r rfl, Nat.le_of_ble_eq_true rfl⟩ ?_
  refine g_istore dX0_run_5 (lt_r rfl) rfl ?_
  refine g_iload dX0_run_7 rfl ?_
  refine g_iconst dX0_run_9 kI_m1 ?_
  refine g_icmp_eq (tgt := 20) dX0_run_10 (by decide) (fun c_10 => absurd c_10 (nI_nm1 (by omega))) (fun c_10 => ?_)
  refine g_iload dX0_run_13 rfl ?_
  refine g_bipush dX0_run_15 kB_40 ?_
  refine g_icmp_leN (tgt := 22) dX0_run_17 (by decide) rfl rfl (by omega) (by omega) (fun c_17 => ?_) (fun c_17 => absurd c_17 (by omega))
  refine g_getBo dX0_run_22 fw_X0_19 ?_
  refine g_iload dX0_run_25 rfl ?_
  refine g_iconst dX0_run_27 kI_3 ?_
  refine g_imul dX0_run_28 (pk_mul _ _) ?_
  refine g_iload_n dX0_run_29 rfl rfl ?_
  refine g_iadd dX0_run_30 (nI_add _ _) ?_
  refine g_ialdBo dX0_run_31 rfl (by omega) ((by decide : fBo (2 * 3 + 1) = nI 30)) ?_
  refine g_istore dX0_run_32 (lt_r rfl) rfl ?_
  refine g_aload_n dX0_run_34 rfl rfl ?_
  refine g_iload dX0_run_35 rfl ?_
  refine g_callVv dX0_run_37 mi_X0_begins ml_X0_22 (ct_X0_begins hA (by omega)) rfl rfl rfl rfl (Nat.le_of_ble_eq_true rfl) ⟨lt_r rfl, Nat.le_of_ble_eq_true rfl⟩ (fun M37 h37 => ?_)
  obtain ⟨hA1, hS1⟩ := h37
  refine g_getAb dX0_run_40 fn_X0_26 ?_
  refine g_iload dX0_run_43 rfl ?_
  refine g_ialdAb dX0_run_45 rfl (by omega) ((by decide : fAb 2 = nI 0)) ?_
  refine g_istore dX0_run_46 (lt_r rfl) rfl ?_
  refine g_iload dX0_run_48 rfl ?_
  refine g_iconst dX0_run_50 kI_1 ?_
  refine g_iadd dX0_run_51 (nI_add _ _) ?_
  refine g_istore dX0_run_52 (lt_r rfl) rfl ?_
  refine g_iload dX0_run_54 rfl ?_
  refine g_lookup (off := 169) (tgt := 225) dX0_run_56 (by decide) (by decide) (by decide) ?_
  refine g_aload_n dX0_run_225 rfl rfl ?_
  refine g_iconst dX0_run_226 kI_1 ?_
  refine g_iload dX0_run_227 rfl ?_
  refine g_iload_n dX0_run_229 rfl rfl ?_
  refine g_iload dX0_run_230 rfl ?_
  refine g_callSi dX0_run_232 ms_X0_run ml_X0_36 (rnC0_5 (w := 0) hk (fun _ => ct_own_1_0) trivial _ (tb T 30) _ _ (by show T.1 + 1 + 4 < 1000; omega) (by omega) hA1) rfl rfl (Nat.le_of_ble_eq_true rfl) ⟨lt_r rfl, Nat.le_of_ble_eq_true rfl⟩ (fun x232 M232 h232 => ?_)
  obtain ⟨rfl, hA232, hS232⟩ := h232
  refine g_iconst dX0_run_235 kI_3 ?_
  refine g_imul dX0_run_236 rfl ?_
  refine g_iret dX0_run_237 ⟨_, rfl, ?_⟩
  exact ⟨rfl, hA232, hS1.tr hS232⟩
theorem rnC3_6 {w f kd m a : Nat} (hk : kd ≤ 6) (ho : OwC E B 1 f 3) (hdp : True) : ∀ (M : MM) (T : Tr) (x : Int32) (dp : Nat), T.1 + 5 < 1000 → dp < 18 → RA B M kd m a T → Ct E B yX0_run cX0_run 9 (some .int) 6 [.ref (B + 56), .int (nI 1), .int (nI f), .int x, .int (nI dp)] M (Ri (fun r M2 => r = sR m a kd (x + nI 1) * nI 2 ∧ RA B M2 kd m a (sT kd (tb (tb T 40) 11)) ∧ Sm B M M2 56 58)) := by
  intro M T x dp hu hdq hA
  refine Ct.of2 (own := RX0) (lv := [(0, .ref (B + 56)), (1, .int (nI 1)), (2, .int (nI f)), (3, .int x), (4, .int (nI dp))]) pn_X0 rfl (Nat.le_of_ble_eq_true rfl) rfl ?_
  refine g_iload_n dX0_run_0 rfl rfl ?_
  refine g_iload_n dX0_run_1 rfl rfl ?_
  refine g_callSp dX0_run_2 ms_X0_ownerOf ml_X0_15 (ho M) rfl rfl (Nat.le_of_ble_eq_true rfl) ⟨lt_r rfl, Nat.le_of_ble_eq_true rfl⟩ ?_
  refine g_istore dX0_run_5 (lt_r rfl) rfl ?_
  refine g_iload dX0_run_7 rfl ?_
  refine g_iconst dX0_run_9 kI_m1 ?_
  refine g_icmp_eq (tgt := 20) dX0_run_10 (by decide) (fun c_10 => absurd c_10 (nI_nm1 (by omega))) (fun c_10 => ?_)
  refine g_iload dX0_run_13 rfl ?_
  refine g_bipush dX0_run_15 kB_40 ?_
  refine g_icmp_leN (tgt := 22) dX0_run_17 (by decide) rfl rfl (by omega) (by omega) (fun c_17 => ?_) (fun c_17 => absurd c_17 (by omega))
  refine g_getBo dX0_run_22 fw_X0_19 ?_
  refine g_iload dX0_run_25 rfl ?_
  refine g_iconst dX0_run_27 kI_3 ?_
  refine g_imul dX0_run_28 (pk_mul _ _) ?_
  refine g_iload_n dX0_run_29 rfl rfl ?_
  refine g_iadd dX0_run_30 (nI_add _ _) ?_
  refine g_ialdBo dX0_run_31 rfl (by omega) ((by decide : fBo (3 * 3 + 1) = nI 40)) ?_
  refine g_istore dX0_run_32 (lt_r rfl) rfl ?_
  refine g_aload_n dX0_run_34 rfl rfl ?_
  refine g_iload dX0_run_35 rfl ?_
  refine g_callVv dX0_run_37 mi_X0_begins ml_X0_22 (ct_X0_begins hA (by omega)) rfl rfl rfl rfl (Nat.le_of_ble_eq_true rfl) ⟨lt_r rfl, Nat.le_of_ble_eq_true rfl⟩ (fun M37 h37 => ?_)
  obtain ⟨hA1, hS1⟩ := h37
  refine g_getAb dX0_run_40 fn_X0_26 ?_
  refine g_iload dX0_run_43 rfl ?_
  refine g_ialdAb dX0_run_45 rfl (by omega) ((by decide : fAb 3 = nI 1)) ?_
  refine g_istore dX0_run_46 (lt_r rfl) rfl ?_
  refine g_iload dX0_run_48 rfl ?_
  refine g_iconst dX0_run_50 kI_1 ?_
  refine g_iadd dX0_run_51 (nI_add _ _) ?_
  refine g_istore dX0_run_52 (lt_r rfl) rfl ?_
  refine g_iload dX0_run_54 rfl ?_
  refine g_lookup (off := 182) (tgt := 238) dX0_run_56 (by decide) (by decide) (by decide) ?_
  refine g_aload_n dX0_run_238 rfl rfl ?_
  refine g_iconst dX0_run_239 kI_1 ?_
  refine g_iload dX0_run_240 rfl ?_
  refine g_iload_n dX0_run_242 rfl rfl ?_
  refine g_iconst dX0_run_243 kI_1 ?_
  refine g_iadd dX0_run_244 rfl ?_
  refine g_iload dX0_run_245 rfl ?_
  refine g_callSi dX0_run_247 ms_X0_run ml_X0_36 (rnC0_5 (w := 0) hk (fun _ => ct_own_1_1) trivial _ (tb T 40) _ _ (by show T.1 + 1 + 4 < 1000; omega) (by omega) hA1) rfl rfl (Nat.le_of_ble_eq_true rfl) ⟨lt_r rfl, Nat.le_of_ble_eq_true rfl⟩ (fun x247 M247 h247 => ?_)
  obtain ⟨rfl, hA247, hS247⟩ := h247
  refine g_iret dX0_run_250 ⟨_, rfl, ?_⟩
  exact ⟨rfl, hA247, hS1.tr hS247⟩
theorem rnC6_6 {w f kd m a : Nat} (hk : kd ≤ 6) (ho : OwC E B 1 f 6) (hdp : True) : ∀ (M : MM) (T : Tr) (x : Int32) (dp : Nat), T.1 + 5 < 1000 → dp < 18 → RA B M kd m a T → Ct E B yX0_run cX0_run 9 (some .int) 6 [.ref (B + 56), .int (nI 1), .int (nI f), .int x, .int (nI dp)] M (Ri (fun r M2 => r = sR m a kd (x - nI a) * nI 2 ∧ RA B M2 kd m a (sT kd (tb (tb T 71) 11)) ∧ Sm B M M2 56 58)) := by
  intro M T x dp hu hdq hA
  refine Ct.of2 (own := RX0) (lv := [(0, .ref (B + 56)), (1, .int (nI 1)), (2, .int (nI f)), (3, .int x), (4, .int (nI dp))]) pn_X0 rfl (Nat.le_of_ble_eq_true rfl) rfl ?_
  refine g_iload_n dX0_run_0 rfl rfl ?_
  refine g_iload_n dX0_run_1 rfl rfl ?_
  refine g_callSp dX0_run_2 ms_X0_ownerOf ml_X0_15 (ho M) rfl rfl (Nat.le_of_ble_eq_true rfl) ⟨lt_r rfl, Nat.le_of_ble_eq_true rfl⟩ ?_
  refine g_istore dX0_run_5 (lt_r rfl) rfl ?_
  refine g_iload dX0_run_7 rfl ?_
  refine g_iconst dX0_run_9 kI_m1 ?_
  refine g_icmp_eq (tgt := 20) dX0_run_10 (by decide) (fun c_10 => absurd c_10 (nI_nm1 (by omega))) (fun c_10 => ?_)
  refine g_iload dX0_run_13 rfl ?_
  refine g_bipush dX0_run_15 kB_40 ?_
  refine g_icmp_leN (tgt := 22) dX0_run_17 (by decide) rfl rfl (by omega) (by omega) (fun c_17 => ?_) (fun c_17 => absurd c_17 (by omega))
  refine g_getBo dX0_run_22 fw_X0_19 ?_
  refine g_iload dX0_run_25 rfl ?_
  refine g_iconst dX0_run_27 kI_3 ?_
  refine g_imul dX0_run_28 (pk_mul _ _) ?_
  refine g_iload_n dX0_run_29 rfl rfl ?_
  refine g_iadd dX0_run_30 (nI_add _ _) ?_
  refine g_ialdBo dX0_run_31 rfl (by omega) ((by decide : fBo (6 * 3 + 1) = nI 71)) ?_
  refine g_istore dX0_run_32 (lt_r rfl) rfl ?_
  refine g_aload_n dX0_run_34 rfl rfl ?_
  refine g_iload dX0_run_35 rfl ?_
  refine g_callVv dX0_run_37 mi_X0_begins ml_X0_22 (ct_X0_begins hA (by omega)) rfl rfl rfl rfl (Nat.le_of_ble_eq_true rfl) ⟨lt_r rfl, Nat.le_of_ble_eq_true rfl⟩ (fun M37 h37 => ?_)
  obtain ⟨hA1, hS1⟩ := h37
  refine g_getAb dX0_run_40 fn_X0_26 ?_
  refine g_iload dX0_run_43 rfl ?_
  refine g_ialdAb dX0_run_45 rfl (by omega) ((by decide : fAb 6 = nI 4)) ?_
  refine g_istore dX0_run_46 (lt_r rfl) rfl ?_
  refine g_iload dX0_run_48 rfl ?_
  refine g_iconst dX0_run_50 kI_1 ?_
  refine g_iadd dX0_run_51 (nI_add _ _) ?_
  refine g_istore dX0_run_52 (lt_r rfl) rfl ?_
  refine g_iload dX0_run_54 rfl ?_
  refine g_lookup (off := 249) (tgt := 305) dX0_run_56 (by decide) (by decide) (by decide) ?_
  refine g_aload_n dX0_run_305 rfl rfl ?_
  refine g_iconst dX0_run_306 kI_1 ?_
  refine g_iload dX0_run_307 rfl ?_
  refine g_iload_n dX0_run_309 rfl rfl ?_
  refine g_aload_n dX0_run_310 rfl rfl ?_
  refine g_getI dX0_run_311 fl_X0_40 rfl rfl (hA1.1.2.2) ?_
  refine g_isub dX0_run_314 rfl ?_
  refine g_iload dX0_run_315 rfl ?_
  refine g_callSi dX0_run_317 ms_X0_run ml_X0_36 (rnC0_5 (w := 0) hk (fun _ => ct_own_1_4) trivial _ (tb T 71) _ _ (by show T.1 + 1 + 4 < 1000; omega) (by omega) hA1) rfl rfl (Nat.le_of_ble_eq_true rfl) ⟨lt_r rfl, Nat.le_of_ble_eq_true rfl⟩ (fun x317 M317 h317 => ?_)
  obtain ⟨rfl, hA317, hS317⟩ := h317
  refine g_iret dX0_run_320 ⟨_, rfl, ?_⟩
  exact ⟨rfl, hA317, hS1.tr hS317⟩
theorem ct_runC {kd m a : Nat} (hk : kd ≤ 6) {f : Nat} (hf : f ≤ 6) : ∀ (M : MM) (T : Tr) (x : Int32) (dp : Nat), T.1 + 5 < 1000 → dp < 18 → RA B M kd m a T → Ct E B yX0_run cX0_run 9 (some .int) 6 [.ref (B + 56), .int (nI 1), .int (nI f), .int x, .int (nI dp)] M (Ri (fun r M2 => r = cR kd m a f x ∧ RA B M2 kd m a (cT kd f T) ∧ Sm B M M2 56 58)) := by
  intro M T x dp hu hdq hA
  rcases (show f = 0 ∨ f = 1 ∨ f = 2 ∨ f = 3 ∨ f = 4 ∨ f = 5 ∨ f = 6 by omega) with rfl | rfl | rfl | rfl | rfl | rfl | rfl
  · exact rnC0_6 (w := 0) hk (fun _ => ct_own_1_0) trivial M T x dp (by omega) (by omega) hA
  · exact rnC0_6 (w := 0) hk (fun _ => ct_own_1_1) trivial M T x dp (by omega) (by omega) hA
  · exact rnC2_6 (w := 0) hk (fun _ => ct_own_1_2) trivial M T x dp (by omega) (by omega) hA
  · exact rnC3_6 (w := 0) hk (fun _ => ct_own_1_3) trivial M T x dp (by omega) (by omega) hA
  · exact rnC0_6 (w := 0) hk (fun _ => ct_own_1_4) trivial M T x dp (by omega) (by omega) hA
  · exact rnC2_6 (w := 0) hk (fun _ => ct_own_1_5) trivial M T x dp (by omega) (by omega) hA
  · exact rnC6_6 (w := 0) hk (fun _ => ct_own_1_6) trivial M T x dp (by omega) (by omega) hA
theorem rnK0_7 {w f kd m a : Nat} (hk : kd ≤ 6) (ho : OwC E B 2 f 0) (hdp : True) : ∀ (M : MM) (T : Tr) (x : Int32) (dp : Nat), T.1 + 10 < 1000 → dp < 17 → RA B M kd m a T → Ct E B yX0_run cX0_run 9 (some .int) 7 [.ref (B + 56), .int (nI 2), .int (nI f), .int x, .int (nI dp)] M (Ri (fun r M2 => r = cR kd m a kd x ^^^ sR m a kd (x - nI a) ∧ RA B M2 kd m a (sT kd (cT kd kd (tb T 12))) ∧ Sm B M M2 56 58)) := by
  intro M T x dp hu hdq hA
  refine Ct.of2 (own := RX0) (lv := [(0, .ref (B + 56)), (1, .int (nI 2)), (2, .int (nI f)), (3, .int x), (4, .int (nI dp))]) pn_X0 rfl (Nat.le_of_ble_eq_true rfl) rfl ?_
  refine g_iload_n dX0_run_0 rfl rfl ?_
  refine g_iload_n dX0_run_1 rfl rfl ?_
  refine g_callSp dX0_run_2 ms_X0_ownerOf ml_X0_15 (ho M) rfl rfl (Nat.le_of_ble_eq_true rfl) ⟨lt_r rfl, Nat.le_of_ble_eq_true rfl⟩ ?_
  refine g_istore dX0_run_5 (lt_r rfl) rfl ?_
  refine g_iload dX0_run_7 rfl ?_
  refine g_iconst dX0_run_9 kI_m1 ?_
  refine g_icmp_eq (tgt := 20) dX0_run_10 (by decide) (fun c_10 => absurd c_10 (nI_nm1 (by omega))) (fun c_10 => ?_)
  refine g_iload dX0_run_13 rfl ?_
  refine g_bipush dX0_run_15 kB_40 ?_
  refine g_icmp_leN (tgt := 22) dX0_run_17 (by decide) rfl rfl (by omega) (by omega) (fun c_17 => ?_) (fun c_17 => absurd c_17 (by omega))
  refine g_getBo dX0_run_22 fw_X0_19 ?_
  refine g_iload dX0_run_25 rfl ?_
  refine g_iconst dX0_run_27 kI_3 ?_
  refine g_imul dX0_run_28 (pk_mul _ _) ?_
  refine g_iload_n dX0_run_29 rfl rfl ?_
  refine g_iadd dX0_run_30 (nI_add _ _) ?_
  refine g_ialdBo dX0_run_31 rfl (by omega) ((by decide : fBo (0 * 3 + 2) = nI 12)) ?_
  refine g_istore dX0_run_32 (lt_r rfl) rfl ?_
  refine g_aload_n dX0_run_34 rfl rfl ?_
  refine g_iload dX0_run_35 rfl ?_
  refine g_callVv dX0_run_37 mi_X0_begins ml_X0_22 (ct_X0_begins hA (by omega)) rfl rfl rfl rfl (Nat.le_of_ble_eq_true rfl) ⟨lt_r rfl, Nat.le_of_ble_eq_true rfl⟩ (fun M37 h37 => ?_)
  obtain ⟨hA1, hS1⟩ := h37
  refine g_getAb dX0_run_40 fn_X0_26 ?_
  refine g_iload dX0_run_43 rfl ?_
  refine g_ialdAb dX0_run_45 rfl (by omega) ((by decide : fAb 0 = -1)) ?_
  refine g_istore dX0_run_46 (lt_r rfl) rfl ?_
  refine g_iload dX0_run_48 rfl ?_
  refine g_iconst dX0_run_50 kI_1 ?_
  refine g_iadd dX0_run_51 (nI_add _ _) ?_
  refine g_istore dX0_run_52 (lt_r rfl) rfl ?_
  refine g_iload dX0_run_54 rfl ?_
  refine g_lookup (off := 122) (tgt := 178) dX0_run_56 (by decide) (by decide) (by decide) ?_
  refine g_aload_n dX0_run_178 rfl rfl ?_
  refine g_iconst dX0_run_179 kI_1 ?_
  refine g_aload_n dX0_run_180 rfl rfl ?_
  refine g_getI dX0_run_181 fl_X0_33 rfl rfl (hA1.1.1) ?_
  refine g_iload_n dX0_run_184 rfl rfl ?_
  refine g_iload dX0_run_185 rfl ?_
  refine g_callSi dX0_run_187 ms_X0_run ml_X0_36 (ct_runC hk hk _ (tb T 12) _ _ (by show T.1 + 1 + 5 < 1000; omega) (by omega) hA1) rfl rfl (Nat.le_of_ble_eq_true rfl) ⟨lt_r rfl, Nat.le_of_ble_eq_true rfl⟩ (fun x187 M187 h187 => ?_)
  obtain ⟨rfl, hA187, hS187⟩ := h187
  refine g_aload_n dX0_run_190 rfl rfl ?_
  refine g_iconst dX0_run_191 kI_0 ?_
  refine g_aload_n dX0_run_192 rfl rfl ?_
  refine g_getI dX0_run_193 fl_X0_33 rfl rfl (hA187.1.1) ?_
  refine g_iload_n dX0_run_196 rfl rfl ?_
  refine g_aload_n dX0_run_197 rfl rfl ?_
  refine g_getI dX0_run_198 fl_X0_40 rfl rfl (hA187.1.2.2) ?_
  refine g_isub dX0_run_201 rfl ?_
  refine g_iload dX0_run_202 rfl ?_
  refine g_callSi dX0_run_204 ms_X0_run ml_X0_36 (ct_runS hk hk _ (cT kd kd (tb T 12)) _ _ (by have := cT_n kd kd (tb T 12); have e : (tb T 12).1 = T.1 + 1 := rfl; omega) (by omega) hA187) rfl rfl (Nat.le_of_ble_eq_true rfl) ⟨lt_r rfl, Nat.le_of_ble_eq_true rfl⟩ (fun x204 M204 h204 => ?_)
  obtain ⟨rfl, hA204, hS204⟩ := h204
  refine g_ixor dX0_run_207 rfl ?_
  refine g_iret dX0_run_208 ⟨_, rfl, ?_⟩
  exact ⟨rfl, hA204, (hS1.tr hS187).tr hS204⟩
theorem rnK0_8 {w f kd m a : Nat} (hk : kd ≤ 6) (ho : OwC E B 2 f 0) (hdp : True) : ∀ (M : MM) (T : Tr) (x : Int32) (dp : Nat), T.1 + 10 < 1000 → dp < 17 → RA B M kd m a T → Ct E B yX0_run cX0_run 9 (some .int) 8 [.ref (B + 56), .int (nI 2), .int (nI f), .int x, .int (nI dp)] M (Ri (fun r M2 => r = cR kd m a kd x ^^^ sR m a kd (x - nI a) ∧ RA B M2 kd m a (sT kd (cT kd kd (tb T 12))) ∧ Sm B M M2 56 58)) := by
  intro M T x dp hu hdq hA
  refine Ct.of2 (own := RX0) (lv := [(0, .ref (B + 56)), (1, .int (nI 2)), (2, .int (nI f)), (3, .int x), (4, .int (nI dp))]) pn_X0 rfl (Nat.le_of_ble_eq_true rfl) rfl ?_
  refine g_iload_n dX0_run_0 rfl rfl ?_
  refine g_iload_n dX0_run_1 rfl rfl ?_
  refine g_callSp dX0_run_2 ms_X0_ownerOf ml_X0_15 (ho M) rfl rfl (Nat.le_of_ble_eq_true rfl) ⟨lt_r rfl, Nat.le_of_ble_eq_true rfl⟩ ?_
  refine g_istore dX0_run_5 (lt_r rfl) rfl ?_
  refine g_iload dX0_run_7 rfl ?_
  refine g_iconst dX0_run_9 kI_m1 ?_
  refine g_icmp_eq (tgt := 20) dX0_run_10 (by decide) (fun c_10 => absurd c_10 (nI_nm1 (by omega))) (fun c_10 => ?_)
  refine g_iload dX0_run_13 rfl ?_
  refine g_bipush dX0_run_15 kB_40 ?_
  refine g_icmp_leN (tgt := 22) dX0_run_17 (by decide) rfl rfl (by omega) (by omega) (fun c_17 => ?_) (fun c_17 => absurd c_17 (by omega))
  refine g_getBo dX0_run_22 fw_X0_19 ?_
  refine g_iload dX0_run_25 rfl ?_
  refine g_iconst dX0_run_27 kI_3 ?_
  refine g_imul dX0_run_28 (pk_mul _ _) ?_
  refine g_iload_n dX0_run_29 rfl rfl ?_
  refine g_iadd dX0_run_30 (nI_add _ _) ?_
  refine g_ialdBo dX0_run_31 rfl (by omega) ((by decide : fBo (0 * 3 + 2) = nI 12)) ?_
  refine g_istore dX0_run_32 (lt_r rfl) rfl ?_
  refine g_aload_n dX0_run_34 rfl rfl ?_
  refine g_iload dX0_run_35 rfl ?_
  refine g_callVv dX0_run_37 mi_X0_begins ml_X0_22 (ct_X0_begins hA (by omega)) rfl rfl rfl rfl (Nat.le_of_ble_eq_true rfl) ⟨lt_r rfl, Nat.le_of_ble_eq_true rfl⟩ (fun M37 h37 => ?_)
  obtain ⟨hA1, hS1⟩ := h37
  refine g_getAb dX0_run_40 fn_X0_26 ?_
  refine g_iload dX0_run_43 rfl ?_
  refine g_ialdAb dX0_run_45 rfl (by omega) ((by decide : fAb 0 = -1)) ?_
  refine g_istore dX0_run_46 (lt_r rfl) rfl ?_
  refine g_iload dX0_run_48 rfl ?_
  refine g_iconst dX0_run_50 kI_1 ?_
  refine g_iadd dX0_run_51 (nI_add _ _) ?_
  refine g_istore dX0_run_52 (lt_r rfl) rfl ?_
  refine g_iload dX0_run_54 rfl ?_
  refine g_lookup (off := 122) (tgt := 178) dX0_run_56 (by decide) (by decide) (by decide) ?_
  refine g_aload_n dX0_run_178 rfl rfl ?_
  refine g_iconst dX0_run_179 kI_1 ?_
  refine g_aload_n dX0_run_180 rfl rfl ?_
  refine g_getI dX0_run_181 fl_X0_33 rfl rfl (hA1.1.1) ?_
  refine g_iload_n dX0_run_184 rfl rfl ?_
  refine g_iload dX0_run_185 rfl ?_
  refine g_callSi dX0_run_187 ms_X0_run ml_X0_36 (ct_runC hk hk _ (tb T 12) _ _ (by show T.1 + 1 + 5 < 1000; omega) (by omega) hA1) rfl rfl (Nat.le_of_ble_eq_true rfl) ⟨lt_r rfl, Nat.le_of_ble_eq_true rfl⟩ (fun x187 M187 h187 => ?_)
  obtain ⟨rfl, hA187, hS187⟩ := h187
  refine g_aload_n dX0_run_190 rfl rfl ?_
  refine g_iconst dX0_run_191 kI_0 ?_
  refine g_aload_n dX0_run_192 rfl rfl ?_
  refine g_getI dX0_run_193 fl_X0_33 rfl rfl (hA187.1.1) ?_
  refine g_iload_n dX0_run_196 rfl rfl ?_
  refine g_aload_n dX0_run_197 rfl rfl ?_
  refine g_getI dX0_run_198 fl_X0_40 rfl rfl (hA187.1.2.2) ?_
  refine g_isub dX0_run_201 rfl ?_
  refine g_iload dX0_run_202 rfl ?_
  refine g_callSi dX0_run_204 ms_X0_run ml_X0_36 (ct_runS hk hk _ (cT kd kd (tb T 12)) _ _ (by have := cT_n kd kd (tb T 12); have e : (tb T 12).1 = T.1 + 1 := rfl; omega) (by omega) hA187) rfl rfl (Nat.le_of_ble_eq_true rfl) ⟨lt_r rfl, Nat.le_of_ble_eq_true rfl⟩ (fun x204 M204 h204 => ?_)
  obtain ⟨rfl, hA204, hS204⟩ := h204
  refine g_ixor dX0_run_207 rfl ?_
  refine g_iret dX0_run_208 ⟨_, rfl, ?_⟩
  exact ⟨rfl, hA204, (hS1.tr hS187).tr hS204⟩
theorem rnK4_8 {w f kd m a : Nat} (hk : kd ≤ 6) (ho : OwC E B 2 f 4) (hdp : True) : ∀ (M : MM) (T : Tr) (x : Int32) (dp : Nat), T.1 + 11 < 1000 → dp < 16 → RA B M kd m a T → Ct E B yX0_run cX0_run 9 (some .int) 8 [.ref (B + 56), .int (nI 2), .int (nI f), .int x, .int (nI dp)] M (Ri (fun r M2 => r = -(cR kd m a kd x ^^^ sR m a kd (x - nI a)) ∧ RA B M2 kd m a (sT kd (cT kd kd (tb (tb T 50) 12))) ∧ Sm B M M2 56 58)) := by
  intro M T x dp hu hdq hA
  refine Ct.of2 (own := RX0) (lv := [(0, .ref (B + 56)), (1, .int (nI 2)), (2, .int (nI f)), (3, .int x), (4, .int (nI dp))]) pn_X0 rfl (Nat.le_of_ble_eq_true rfl) rfl ?_
  refine g_iload_n dX0_run_0 rfl rfl ?_
  refine g_iload_n dX0_run_1 rfl rfl ?_
  refine g_callSp dX0_run_2 ms_X0_ownerOf ml_X0_15 (ho M) rfl rfl (Nat.le_of_ble_eq_true rfl) ⟨lt_r rfl, Nat.le_of_ble_eq_true rfl⟩ ?_
  refine g_istore dX0_run_5 (lt_r rfl) rfl ?_
  refine g_iload dX0_run_7 rfl ?_
  refine g_iconst dX0_run_9 kI_m1 ?_
  refine g_icmp_eq (tgt := 20) dX0_run_10 (by decide) (fun c_10 => absurd c_10 (nI_nm1 (by omega))) (fun c_10 => ?_)
  refine g_iload dX0_run_13 rfl ?_
  refine g_bipush dX0_run_15 kB_40 ?_
  refine g_icmp_leN (tgt := 22) dX0_run_17 (by decide) rfl rfl (by omega) (by omega) (fun c_17 => ?_) (fun c_17 => absurd c_17 (by omega))
  refine g_getBo dX0_run_22 fw_X0_19 ?_
  refine g_iload dX0_run_25 rfl ?_
  refine g_iconst dX0_run_27 kI_3 ?_
  refine g_imul dX0_run_28 (pk_mul _ _) ?_
  refine g_iload_n dX0_run_29 rfl rfl ?_
  refine g_iadd dX0_run_30 (nI_add _ _) ?_
  refine g_ialdBo dX0_run_31 rfl (by omega) ((by decide : fBo (4 * 3 + 2) = nI 50)) ?_
  refine g_istore dX0_run_32 (lt_r rfl) rfl ?_
  refine g_aload_n dX0_run_34 rfl rfl ?_
  refine g_iload dX0_run_35 rfl ?_
  refine g_callVv dX0_run_37 mi_X0_begins ml_X0_22 (ct_X0_begins hA (by omega)) rfl rfl rfl rfl (Nat.le_of_ble_eq_true rfl) ⟨lt_r rfl, Nat.le_of_ble_eq_true rfl⟩ (fun M37 h37 => ?_)
  obtain ⟨hA1, hS1⟩ := h37
  refine g_getAb dX0_run_40 fn_X0_26 ?_
  refine g_iload dX0_run_43 rfl ?_
  refine g_ialdAb dX0_run_45 rfl (by omega) ((by decide : fAb 4 = nI 0)) ?_
  refine g_istore dX0_run_46 (lt_r rfl) rfl ?_
  refine g_iload dX0_run_48 rfl ?_
  refine g_iconst dX0_run_50 kI_1 ?_
  refine g_iadd dX0_run_51 (nI_add _ _) ?_
  refine g_istore dX0_run_52 (lt_r rfl) rfl ?_
  refine g_iload dX0_run_54 rfl ?_
  refine g_lookup (off := 195) (tgt := 251) dX0_run_56 (by decide) (by decide) (by decide) ?_
  refine g_aload_n dX0_run_251 rfl rfl ?_
  refine g_iconst dX0_run_252 kI_2 ?_
  refine g_iload dX0_run_253 rfl ?_
  refine g_iload_n dX0_run_255 rfl rfl ?_
  refine g_iload dX0_run_256 rfl ?_
  refine g_callSi dX0_run_258 ms_X0_run ml_X0_36 (rnK0_7 (w := 0) hk (fun _ => ct_own_2_0) trivial _ (tb T 50) _ _ (by show T.1 + 1 + 10 < 1000; omega) (by omega) hA1) rfl rfl (Nat.le_of_ble_eq_true rfl) ⟨lt_r rfl, Nat.le_of_ble_eq_true rfl⟩ (fun x258 M258 h258 => ?_)
  obtain ⟨rfl, hA258, hS258⟩ := h258
  refine g_ineg dX0_run_261 rfl ?_
  refine g_iret dX0_run_262 ⟨_, rfl, ?_⟩
  exact ⟨rfl, hA258, hS1.tr hS258⟩
theorem rnK5_8 {w f kd m a : Nat} (hk : kd ≤ 6) (ho : OwC E B 2 f 5) (hdp : True) : ∀ (M : MM) (T : Tr) (x : Int32) (dp : Nat), T.1 + 11 < 1000 → dp < 16 → RA B M kd m a T → Ct E B yX0_run cX0_run 9 (some .int) 8 [.ref (B + 56), .int (nI 2), .int (nI f), .int x, .int (nI dp)] M (Ri (fun r M2 => r = cR kd m a kd x ^^^ sR m a kd (x - nI a) ^^^ nI 5 ∧ RA B M2 kd m a (sT kd (cT kd kd (tb (tb T 60) 12))) ∧ Sm B M M2 56 58)) := by
  intro M T x dp hu hdq hA
  refine Ct.of2 (own := RX0) (lv := [(0, .ref (B + 56)), (1, .int (nI 2)), (2, .int (nI f)), (3, .int x), (4, .int (nI dp))]) pn_X0 rfl (Nat.le_of_ble_eq_true rfl) rfl ?_
  refine g_iload_n dX0_run_0 rfl rfl ?_
  refine g_iload_n dX0_run_1 rfl rfl ?_
  refine g_callSp dX0_run_2 ms_X0_ownerOf ml_X0_15 (ho M) rfl rfl (Nat.le_of_ble_eq_true rfl) ⟨lt_r rfl, Nat.le_of_ble_eq_true rfl⟩ ?_
  refine g_istore dX0_run_5 (lt_r rfl) rfl ?_
  refine g_iload dX0_run_7 rfl ?_
  refine g_iconst dX0_run_9 kI_m1 ?_
  refine g_icmp_eq (tgt := 20) dX0_run_10 (by decide) (fun c_10 => absurd c_10 (nI_nm1 (by omega))) (fun c_10 => ?_)
  refine g_iload dX0_run_13 rfl ?_
  refine g_bipush dX0_run_15 kB_40 ?_
  refine g_icmp_leN (tgt := 22) dX0_run_17 (by decide) rfl rfl (by omega) (by omega) (fun c_17 => ?_) (fun c_17 => absurd c_17 (by omega))
  refine g_getBo dX0_run_22 fw_X0_19 ?_
  refine g_iload dX0_run_25 rfl ?_
  refine g_iconst dX0_run_27 kI_3 ?_
  refine g_imul dX0_run_28 (pk_mul _ _) ?_
  refine g_iload_n dX0_run_29 rfl rfl ?_
  refine g_iadd dX0_run_30 (nI_add _ _) ?_
  refine g_ialdBo dX0_run_31 rfl (by omega) ((by decide : fBo (5 * 3 + 2) = nI 60)) ?_
  refine g_istore dX0_run_32 (lt_r rfl) rfl ?_
  refine g_aload_n dX0_run_34 rfl rfl ?_
  refine g_iload dX0_run_35 rfl ?_
  refine g_callVv dX0_run_37 mi_X0_begins ml_X0_22 (ct_X0_begins hA (by omega)) rfl rfl rfl rfl (Nat.le_of_ble_eq_true rfl) ⟨lt_r rfl, Nat.le_of_ble_eq_true rfl⟩ (fun M37 h37 => ?_)
  obtain ⟨hA1, hS1⟩ := h37
  refine g_getAb dX0_run_40 fn_X0_26 ?_
  refine g_iload dX0_run_43 rfl ?_
  refine g_ialdAb dX0_run_45 rfl (by omega) ((by decide : fAb 5 = nI 2)) ?_
  refine g_istore dX0_run_46 (lt_r rfl) rfl ?_
  refine g_iload dX0_run_48 rfl ?_
  refine g_iconst dX0_run_50 kI_1 ?_
  refine g_iadd dX0_run_51 (nI_add _ _) ?_
  refine g_istore dX0_run_52 (lt_r rfl) rfl ?_
  refine g_iload dX0_run_54 rfl ?_
  refine g_lookup (off := 223) (tgt := 279) dX0_run_56 (by decide) (by decide) (by decide) ?_
  refine g_aload_n dX0_run_279 rfl rfl ?_
  refine g_iconst dX0_run_280 kI_2 ?_
  refine g_iload dX0_run_281 rfl ?_
  refine g_iload_n dX0_run_283 rfl rfl ?_
  refine g_iload dX0_run_284 rfl ?_
  refine g_callSi dX0_run_286 ms_X0_run ml_X0_36 (rnK0_7 (w := 0) hk (fun _ => ct_own_2_2) trivial _ (tb T 60) _ _ (by show T.1 + 1 + 10 < 1000; omega) (by omega) hA1) rfl rfl (Nat.le_of_ble_eq_true rfl) ⟨lt_r rfl, Nat.le_of_ble_eq_true rfl⟩ (fun x286 M286 h286 => ?_)
  obtain ⟨rfl, hA286, hS286⟩ := h286
  refine g_iconst dX0_run_289 kI_5 ?_
  refine g_ixor dX0_run_290 rfl ?_
  refine g_iret dX0_run_291 ⟨_, rfl, ?_⟩
  exact ⟨rfl, hA286, hS1.tr hS286⟩
theorem ct_runK {kd m a : Nat} (hk : kd ≤ 6) {f : Nat} (hf : f ≤ 6) : ∀ (M : MM) (T : Tr) (x : Int32) (dp : Nat), T.1 + 11 < 1000 → dp < 16 → RA B M kd m a T → Ct E B yX0_run cX0_run 9 (some .int) 8 [.ref (B + 56), .int (nI 2), .int (nI f), .int x, .int (nI dp)] M (Ri (fun r M2 => r = kR kd m a f x ∧ RA B M2 kd m a (kT kd f T) ∧ Sm B M M2 56 58)) := by
  intro M T x dp hu hdq hA
  rcases (show f = 0 ∨ f = 1 ∨ f = 2 ∨ f = 3 ∨ f = 4 ∨ f = 5 ∨ f = 6 by omega) with rfl | rfl | rfl | rfl | rfl | rfl | rfl
  · exact rnK0_8 (w := 0) hk (fun _ => ct_own_2_0) trivial M T x dp (by omega) (by omega) hA
  · exact rnK0_8 (w := 0) hk (fun _ => ct_own_2_1) trivial M T x dp (by omega) (by omega) hA
  · exact rnK0_8 (w := 0) hk (fun _ => ct_own_2_2) trivial M T x dp (by omega) (by omega) hA
  · exact rnK0_8 (w := 0) hk (fun _ => ct_own_2_3) trivial M T x dp (by omega) (by omega) hA
  · exact rnK4_8 (w := 0) hk (fun _ => ct_own_2_4) trivial M T x dp (by omega) (by omega) hA
  · exact rnK5_8 (w := 0) hk (fun _ => ct_own_2_5) trivial M T x dp (by omega) (by omega) hA
  · exact rnK4_8 (w := 0) hk (fun _ => ct_own_2_6) trivial M T x dp (by omega) (by omega) hA
end ACT
