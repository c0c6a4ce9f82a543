/-! the calls of the class, first part, the last -/
theorem RS.wet {B k q j v : Nat} {M : MM} {s : St} (h : RS B M k s) (ho : okSt s) (hq : q < sCn s) : RS B (upI M (B + (k + 3 + 2 * q + 1)) j (nI v)) k (wetS s q j v) := by
  obtain ⟨a1, a2, a3⟩ := h
  have hc := ho.2.2.1
  refine ⟨fun q2 hq2 => ?_, fun i hi => by rw [upI_ap (by omega)]; exact a2 i hi, by rw [upI_ap (by omega)]; exact a3⟩
  show RB _ _ _ (upF (sBs s) q ((sBs s q).1, (sBs s q).2.1, (sBs s q).2.2.1, upF (sBs s q).2.2.2 j v) q2)
  by_cases e : q2 = q
  · subst e
    rw [upF_s]
    have h9 := a1 q2 hq2
    refine ⟨by rw [upI_ap (by omega)]; exact h9.1, by rw [upI_ap (by omega)]; exact h9.2.1, by rw [upI_ap (by omega)]; exact h9.2.2.1, fun i hi => ?_⟩
    show _ = nI (upF (sBs s q2).2.2.2 j v i)
    by_cases e3 : i = j
    · subst e3; rw [upI_s, upF_s]
    · rw [upI_k e3, upF_n e3]; exact h9.2.2.2 i hi
  · rw [upF_n e]
    have hq2 : q2 < sCn s := hq2
    exact (a1 q2 hq2).sm (Sm.pI (Nat.le_refl _) (Nat.lt_succ_self _)) (by omega) (by omega)
theorem ok_wet {s : St} {q j v : Nat} (ho : okSt s) (hq : q < sCn s) (hv : v ≤ 99) : okSt (wetS s q j v) := by
  refine ⟨ok_setB ho (ho.1 q hq).2.2.1 (fun i => ?_), ho.2⟩
  unfold upF
  split
  · exact hv
  · exact (ho.1 q hq).2.2.2 i
theorem RS.h3 {B k v : Nat} {M : MM} {s : St} (h : RS B M k s) (ho : okSt s) : RS B (upI M (B + k) 3 (nI v)) k (sBs s, sWo s, sCn s, v, s.2.2.2.2) := by
  obtain ⟨a1, a2, a3, a4, a5, a6, a7, a8, a9, a10⟩ := h
  exact ⟨fun q hq => (a1 q hq).sm (Sm.pI (Nat.le_refl k) (Nat.lt_succ_self k)) (by omega) (by omega), fun i hi => by rw [upI_ap (by omega)]; exact a2 i hi, by rw [upI_k (by decide)]; exact a3, upI_s, by rw [upI_k (by decide)]; exact a5, by rw [upI_k (by decide)]; exact a6, by rw [upI_k (by decide)]; exact a7, by rw [upI_k (by decide)]; exact a8, by rw [upI_k (by decide)]; exact a9, by rw [upI_k (by decide)]; exact a10⟩
theorem RS.h4 {B k v : Nat} {M : MM} {s : St} (h : RS B M k s) (ho : okSt s) : RS B (upI M (B + k) 4 (nI v)) k (sBs s, sWo s, sCn s, sHt s, v, s.2.2.2.2.2) := by
  obtain ⟨a1, a2, a3, a4, a5, a6, a7, a8, a9, a10⟩ := h
  exact ⟨fun q hq => (a1 q hq).sm (Sm.pI (Nat.le_refl k) (Nat.lt_succ_self k)) (by omega) (by omega), fun i hi => by rw [upI_ap (by omega)]; exact a2 i hi, by rw [upI_k (by decide)]; exact a3, by rw [upI_k (by decide)]; exact a4, upI_s, by rw [upI_k (by decide)]; exact a6, by rw [upI_k (by decide)]; exact a7, by rw [upI_k (by decide)]; exact a8, by rw [upI_k (by decide)]; exact a9, by rw [upI_k (by decide)]; exact a10⟩
theorem RS.h5 {B k v : Nat} {M : MM} {s : St} (h : RS B M k s) (ho : okSt s) : RS B (upI M (B + k) 5 (nI v)) k (sBs s, sWo s, sCn s, sHt s, sLo s, v, s.2.2.2.2.2.2) := by
  obtain ⟨a1, a2, a3, a4, a5, a6, a7, a8, a9, a10⟩ := h
  exact ⟨fun q hq => (a1 q hq).sm (Sm.pI (Nat.le_refl k) (Nat.lt_succ_self k)) (by omega) (by omega), fun i hi => by rw [upI_ap (by omega)]; exact a2 i hi, by rw [upI_k (by decide)]; exact a3, by rw [upI_k (by decide)]; exact a4, by rw [upI_k (by decide)]; exact a5, upI_s, by rw [upI_k (by decide)]; exact a7, by rw [upI_k (by decide)]; exact a8, by rw [upI_k (by decide)]; exact a9, by rw [upI_k (by decide)]; exact a10⟩
theorem RS.wo {B k j v : Nat} {M : MM} {s : St} (h : RS B M k s) (ho : okSt s) : RS B (upI M (B + (k + 2)) j (nI v)) k (sBs s, upF (sWo s) j v, s.2.2) := by
  obtain ⟨a1, a2, a3⟩ := h
  refine ⟨fun q hq => (a1 q hq).sm (Sm.pI (Nat.le_refl _) (Nat.lt_succ_self _)) (by omega) (by omega), fun i hi => ?_, by rw [upI_ap (by omega)]; exact a3⟩
  show _ = nI (upF (sWo s) j v i)
  by_cases e3 : i = j
  · subst e3; rw [upI_s, upF_s]
  · rw [upI_k e3, upF_n e3]; exact a2 i hi
theorem ok_wo {s : St} {j v : Nat} (ho : okSt s) (hv : v ≤ 99) : okSt (sBs s, upF (sWo s) j v, s.2.2) := by
  refine ⟨ho.1, fun i => ?_, ho.2.2⟩
  show upF (sWo s) j v i ≤ 99
  unfold upF
  split
  · exact hv
  · exact ho.2.1 i
theorem tell_cn {s : St} {w : Nat} {ns : Nat → Nat} : sCn s ≤ sCn (tellS s w ns) := by
  unfold tellS
  repeat' split
  · exact Nat.le_succ _
  all_goals exact Nat.le_refl _
theorem item_cn {T : Tx} {s : St} {p : Nat} : sCn s ≤ sCn (itemF T s p).2.2 := by
  unfold itemF
  dsimp only
  repeat' split
  · exact Nat.le_refl _
  · exact Nat.le_refl _
  · exact tell_cn
  · exact Nat.le_refl _
theorem read_cn {T : Tx} : ∀ (n it p : Nat) (s : St), sCn s ≤ sCn (readF T n it p s).2.2.2
  | 0, _, _, _ => Nat.le_refl _
  | n + 1, it, p, s => by
    have h1 := item_cn (T := T) (s := s) (p := p)
    rw [readF_s]
    split
    · split
      · split
        · exact Nat.le_trans h1 (read_cn n _ _ _)
        · exact h1
      · exact h1
    · exact Nat.le_refl _
section X6D
variable {E : EE} {B : Nat} {M : MM}
theorem cx_biscuitOf {y : Sys} {b w : Int32} (h : RY B M y) (ho : okY y) : Ct E B yX6_biscuitOf cX6_biscuitOf 4 (some .int) 2 [.ref (B + 0), .int b, .int w] M (QY B M (o_biscuitOf y b w)) := by
  have hc := ho.2.1.2.2.1
  refine Ct.of2 (own := RX6) (lv := [(0, .ref (B + 0)), (1, .int b), (2, .int w)]) pn_X6 rfl (Nat.le_of_ble_eq_true rfl) rfl ?_
  refine g_aload_n dX6_biscuitOf_0 rfl rfl ?_
  refine g_getR dX6_biscuitOf_1 fl_X6_18 rfl rfl ?_
  refine g_iload_n dX6_biscuitOf_4 rfl rfl ?_
  refine g_callVp dX6_biscuitOf_5 mi_X5_hasBiscuit ml_X6_123 (ct_hasB h) isS_2.1 rfl rfl rfl (Nat.le_of_ble_eq_true rfl) ⟨lt_r rfl, Nat.le_of_ble_eq_true rfl⟩ ?_
  refine g_if_neP (tgt := 17) dX6_biscuitOf_8 (by decide) (fun c_8 => ?_) (fun c_8 => ?_)
  · have e9 : o_biscuitOf y b w = _ := if_neg (fun z => z c_8)
    rw [e9]
    obtain ⟨q, hq, rfl, e1⟩ := in_b hc c_8
    rw [e1]
    have hR := h.2.1.1 q hq
    have hB := ho.2.1.1 q hq
    have hB3 := hB.2.2.1
    refine g_aload_n dX6_biscuitOf_17 rfl rfl ?_
    refine g_getR dX6_biscuitOf_18 fl_X6_18 rfl rfl ?_
    refine g_getR dX6_biscuitOf_21 fl_X6_141 isS_2.1 rfl ?_
    refine g_iload_n dX6_biscuitOf_24 rfl rfl ?_
    refine g_aald dX6_biscuitOf_25 isS_2.2.1 rfl (isS_b (by omega)) ?_
    refine g_astore_n dX6_biscuitOf_26 rfl (lt_r rfl) rfl ?_
    refine g_iload_n dX6_biscuitOf_27 rfl rfl ?_
    refine g_tblC (off := 32) (tgt := 60) dX6_biscuitOf_28 0 (by decide) (by decide) (by decide) (by decide) (fun c_28_0 => ?_) (fun c_28_0 => ?_)
    · refine g_aload_n dX6_biscuitOf_60 rfl rfl ?_
      refine g_getI dX6_biscuitOf_61 fl_X6_159 (isS_2.2.2.2 _ (by omega)).1 rfl (hR.1) ?_
      refine g_iret dX6_biscuitOf_64 ⟨_, rfl, ?_⟩
      exact QY.p h ho (if_pos c_28_0)
    refine g_tblC (off := 37) (tgt := 65) dX6_biscuitOf_28 1 (by decide) (by decide) (by decide) (by decide) (fun c_28_1 => ?_) (fun c_28_1 => ?_)
    · refine g_aload_n dX6_biscuitOf_65 rfl rfl ?_
      refine g_getI dX6_biscuitOf_66 fl_X6_162 (isS_2.2.2.2 _ (by omega)).1 rfl (hR.2.2.1) ?_
      refine g_iret dX6_biscuitOf_69 ⟨_, rfl, ?_⟩
      exact QY.p h ho (by rw [if_neg (ne_toI (v := 0) (by decide) c_28_0), if_pos c_28_1])
    refine g_tblC (off := 42) (tgt := 70) dX6_biscuitOf_28 2 (by decide) (by decide) (by decide) (by decide) (fun c_28_2 => ?_) (fun c_28_2 => ?_)
    · refine g_aload_n dX6_biscuitOf_70 rfl rfl ?_
      refine g_getI dX6_biscuitOf_71 fl_X6_165 (isS_2.2.2.2 _ (by omega)).1 rfl (hR.2.1) ?_
      refine g_iret dX6_biscuitOf_74 ⟨_, rfl, ?_⟩
      exact QY.p h ho (by rw [if_neg (ne_toI (v := 0) (by decide) c_28_0), if_neg (ne_toI (v := 1) (by decide) c_28_1), if_pos c_28_2])
    refine g_tblC (off := 47) (tgt := 75) dX6_biscuitOf_28 3 (by decide) (by decide) (by decide) (by decide) (fun c_28_3 => ?_) (fun c_28_3 => ?_)
    · refine g_aload_n dX6_biscuitOf_75 rfl rfl ?_
      refine g_callVp dX6_biscuitOf_76 mi_X1_wetOfAll ml_X6_168 (ct_X1_wetOfAll (isS_2.2.2.2 _ (by omega)) hR hB) (isS_2.2.2.2 _ (by omega)).1 rfl rfl rfl (Nat.le_of_ble_eq_true rfl) ⟨lt_r rfl, Nat.le_of_ble_eq_true rfl⟩ ?_
      refine g_iret dX6_biscuitOf_79 ⟨_, rfl, ?_⟩
      exact QY.p h ho (by rw [if_neg (ne_toI (v := 0) (by decide) c_28_0), if_neg (ne_toI (v := 1) (by decide) c_28_1), if_neg (ne_toI (v := 2) (by decide) c_28_2), if_pos c_28_3])
    refine g_tableOut (tgt := 80) dX6_biscuitOf_28 (by skip; omega) (by decide) ?_
    rw [if_neg (ne_toI (v := 0) (by decide) c_28_0), if_neg (ne_toI (v := 1) (by decide) c_28_1), if_neg (ne_toI (v := 2) (by decide) c_28_2), if_neg (ne_toI (v := 3) (by decide) c_28_3)]
    refine g_iload_n dX6_biscuitOf_80 rfl rfl ?_
    refine g_bipush dX6_biscuitOf_81 kB_10 ?_
    refine g_icmp_lt (tgt := 97) dX6_biscuitOf_83 (by decide) (fun c_83 => ?_) (fun c_83 => ?_)
    · try rw [hR.2.2.1] at c_94
      refine g_aload_n dX6_biscuitOf_97 rfl rfl ?_
      refine g_iconst dX6_biscuitOf_98 kI_5 ?_
      refine g_callVi dX6_biscuitOf_99 mi_X6_refused ml_X6_83 (ct_X6_refused h ho (by decide) (by decide)) rfl rfl rfl rfl (Nat.le_of_ble_eq_true rfl) ⟨lt_r rfl, Nat.le_of_ble_eq_true rfl⟩ (fun x99 M99 h99 => ?_)
      refine g_iret dX6_biscuitOf_102 ⟨_, rfl, ?_⟩
      first | exact QY.rf ho (if_pos c_83) h99 | exact QY.rf ho (by rw [if_neg c_83, if_pos c_94]) h99
    · refine g_aload_n dX6_biscuitOf_86 rfl rfl ?_
      refine g_iload_n dX6_biscuitOf_87 rfl rfl ?_
      refine g_bipush dX6_biscuitOf_88 kB_10 ?_
      refine g_isub dX6_biscuitOf_90 rfl ?_
      refine g_callVp dX6_biscuitOf_91 mi_X1_hasCell ml_X6_171 (ct_X1_hasCell (isS_2.2.2.2 _ (by omega))) (isS_2.2.2.2 _ (by omega)).1 rfl rfl rfl (Nat.le_of_ble_eq_true rfl) ⟨lt_r rfl, Nat.le_of_ble_eq_true rfl⟩ ?_
      refine g_if_neP (tgt := 103) dX6_biscuitOf_94 (by decide) (fun c_94 => ?_) (fun c_94 => ?_)
      · rw [hR.2.2.1] at c_94
        obtain ⟨j, hj, e3⟩ := in_nI (by omega) c_94
        refine g_aload_n dX6_biscuitOf_103 rfl rfl ?_
        refine g_getR dX6_biscuitOf_104 fl_X6_174 (isS_2.2.2.2 _ (by omega)).1 rfl ?_
        refine g_iload_n dX6_biscuitOf_107 rfl rfl ?_
        refine g_bipush dX6_biscuitOf_108 kB_10 ?_
        refine g_isub dX6_biscuitOf_110 rfl ?_
        refine g_iald dX6_biscuitOf_111 (isS_2.2.2.2 _ (by omega)).2 e3 (by omega) (hR.2.2.2 j hj) ?_
        refine g_iret dX6_biscuitOf_112 ⟨_, rfl, ?_⟩
        exact QY.p h ho (by rw [if_neg c_83, if_neg (fun z => z c_94), e3, tn_nI (by omega)])
      · try rw [hR.2.2.1] at c_94
        refine g_aload_n dX6_biscuitOf_97 rfl rfl ?_
        refine g_iconst dX6_biscuitOf_98 kI_5 ?_
        refine g_callVi dX6_biscuitOf_99 mi_X6_refused ml_X6_83 (ct_X6_refused h ho (by decide) (by decide)) rfl rfl rfl rfl (Nat.le_of_ble_eq_true rfl) ⟨lt_r rfl, Nat.le_of_ble_eq_true rfl⟩ (fun x99 M99 h99 => ?_)
        refine g_iret dX6_biscuitOf_102 ⟨_, rfl, ?_⟩
        first | exact QY.rf ho (if_pos c_83) h99 | exact QY.rf ho (by rw [if_neg c_83, if_pos c_94]) h99
  · refine g_aload_n dX6_biscuitOf_11 rfl rfl ?_
    refine g_iconst dX6_biscuitOf_12 kI_5 ?_
    refine g_callVi dX6_biscuitOf_13 mi_X6_refused ml_X6_83 (ct_X6_refused h ho (by decide) (by decide)) rfl rfl rfl rfl (Nat.le_of_ble_eq_true rfl) ⟨lt_r rfl, Nat.le_of_ble_eq_true rfl⟩ (fun x13 M13 h13 => ?_)
    refine g_iret dX6_biscuitOf_16 ⟨_, rfl, ?_⟩
    exact QY.rf ho (if_pos c_8) h13
theorem cx_wet {y : Sys} {b c v : Int32} (h : RY B M y) (ho : okY y) : Ct E B yX6_wet cX6_wet 5 (some .int) 2 [.ref (B + 0), .int b, .int c, .int v] M (QY B M (o_wet y b c v)) := by
  have hcn := ho.2.1.2.2.1
  refine Ct.of2 (own := RX6) (lv := [(0, .ref (B + 0)), (1, .int b), (2, .int c), (3, .int v)]) pn_X6 rfl (Nat.le_of_ble_eq_true rfl) rfl ?_
  refine g_aload_n dX6_wet_0 rfl rfl ?_
  refine g_getR dX6_wet_1 fl_X6_18 rfl rfl ?_
  refine g_iload_n dX6_wet_4 rfl rfl ?_
  refine g_iload_n dX6_wet_5 rfl rfl ?_
  refine g_callVp dX6_wet_6 mi_X5_hasCellOf ml_X6_177 (ct_hasC h ho) isS_2.1 rfl rfl rfl (Nat.le_of_ble_eq_true rfl) ⟨lt_r rfl, Nat.le_of_ble_eq_true rfl⟩ ?_
  refine g_if_neP (tgt := 18) dX6_wet_9 (by decide) (fun c_9 => ?_) (fun c_9 => ?_)
  · refine g_iload_n dX6_wet_18 rfl rfl ?_
    refine g_iconst dX6_wet_19 kI_0 ?_
    refine g_bipush dX6_wet_20 kB_99 ?_
    refine g_callSp dX6_wet_22 ms_X6_isWithin ml_X6_87 (ct_X6_isWithin) rfl rfl (Nat.le_of_ble_eq_true rfl) ⟨lt_r rfl, Nat.le_of_ble_eq_true rfl⟩ ?_
    refine g_if_neP (tgt := 35) dX6_wet_25 (by decide) (fun c_25 => ?_) (fun c_25 => ?_)
    · have e9 : o_wet y b c v = _ := (if_neg (fun z => z c_9)).trans (if_neg (fun z => z c_25))
      rw [e9]
      obtain ⟨q, hq, rfl, e1⟩ := in_b hcn c_9.1
      rw [e1] at c_9 ⊢
      have hR := h.2.1.1 q hq
      have hB := ho.2.1.1 q hq
      have hB3 := hB.2.2.1
      obtain ⟨j, hj, rfl⟩ := in_nI (by omega) c_9.2
      obtain ⟨v', -, hv, rfl, e3⟩ := btw_n (by decide) (by decide) c_25
      rw [e3, tn_nI (show j < 2 ^ 31 by omega)]
      refine g_aload_n dX6_wet_35 rfl rfl ?_
      refine g_getR dX6_wet_36 fl_X6_18 rfl rfl ?_
      refine g_getR dX6_wet_39 fl_X6_141 isS_2.1 rfl ?_
      refine g_iload_n dX6_wet_42 rfl rfl ?_
      refine g_aald dX6_wet_43 isS_2.2.1 rfl (isS_b (by omega)) ?_
      refine g_getR dX6_wet_44 fl_X6_174 (isS_2.2.2.2 _ (by omega)).1 rfl ?_
      refine g_iload_n dX6_wet_47 rfl rfl ?_
      refine g_iald dX6_wet_48 (isS_2.2.2.2 _ (by omega)).2 rfl (by omega) (hR.2.2.2 j hj) ?_
      refine g_istore dX6_wet_49 (lt_r rfl) rfl ?_
      refine g_aload_n dX6_wet_51 rfl rfl ?_
      refine g_getR dX6_wet_52 fl_X6_18 rfl rfl ?_
      refine g_getR dX6_wet_55 fl_X6_141 isS_2.1 rfl ?_
      refine g_iload_n dX6_wet_58 rfl rfl ?_
      refine g_aald dX6_wet_59 isS_2.2.1 rfl (isS_b (by omega)) ?_
      refine g_getR dX6_wet_60 fl_X6_174 (isS_2.2.2.2 _ (by omega)).1 rfl ?_
      refine g_iload_n dX6_wet_63 rfl rfl ?_
      refine g_iload_n dX6_wet_64 rfl rfl ?_
      refine g_iast dX6_wet_65 (isS_2.2.2.2 _ (by omega)).2 rfl (by omega) ?_
      refine g_iload dX6_wet_66 rfl ?_
      refine g_iret dX6_wet_68 ⟨_, rfl, ?_⟩
      have hS : Sm B M (upI M (B + (2 + 3 + 2 * q + 1)) j (nI v')) 2 17 := Sm.pI (by omega) (by omega)
      exact ⟨rfl, h.n ho hS (RS.wet h.2.1 ho.2.1 hq), ok_setN ho (ok_wet ho.2.1 hq hv) (Nat.le_refl _), hS.up (by omega) (by omega)⟩
    · refine g_aload_n dX6_wet_28 rfl rfl ?_
      refine g_bipush dX6_wet_29 kB_6 ?_
      refine g_callVi dX6_wet_31 mi_X6_refused ml_X6_83 (ct_X6_refused h ho (by decide) (by decide)) rfl rfl rfl rfl (Nat.le_of_ble_eq_true rfl) ⟨lt_r rfl, Nat.le_of_ble_eq_true rfl⟩ (fun x31 M31 h31 => ?_)
      refine g_iret dX6_wet_34 ⟨_, rfl, ?_⟩
      exact QY.rf ho (by unfold o_wet; rw [if_neg (fun z => z c_9), if_pos c_25]) h31
  · refine g_aload_n dX6_wet_12 rfl rfl ?_
    refine g_iconst dX6_wet_13 kI_1 ?_
    refine g_callVi dX6_wet_14 mi_X6_refused ml_X6_83 (ct_X6_refused h ho (by decide) (by decide)) rfl rfl rfl rfl (Nat.le_of_ble_eq_true rfl) ⟨lt_r rfl, Nat.le_of_ble_eq_true rfl⟩ (fun x14 M14 h14 => ?_)
    refine g_iret dX6_wet_17 ⟨_, rfl, ?_⟩
    exact QY.rf ho (if_pos c_9) h14
theorem cx_ask {y : Sys} {w v : Int32} (h : RY B M y) (ho : okY y) : Ct E B yX6_ask cX6_ask 4 (some .int) 2 [.ref (B + 0), .int w, .int v] M (QY B M (o_ask y w v)) := by
  refine Ct.of2 (own := RX6) (lv := [(0, .ref (B + 0)), (1, .int w), (2, .int v)]) pn_X6 rfl (Nat.le_of_ble_eq_true rfl) rfl ?_
  refine g_iload_n dX6_ask_0 rfl rfl ?_
  refine g_if_ne (tgt := 33) dX6_ask_1 (by decide) (fun c_1 => ?_) (fun c_1 => ?_)
  · refine g_iload_n dX6_ask_33 rfl rfl ?_
    refine g_iconst dX6_ask_34 kI_1 ?_
    refine g_icmp_ne (tgt := 67) dX6_ask_35 (by decide) (fun c_35 => ?_) (fun c_35 => ?_)
    · refine g_iload_n dX6_ask_67 rfl rfl ?_
      refine g_iconst dX6_ask_68 kI_2 ?_
      refine g_icmp_ne (tgt := 102) dX6_ask_69 (by decide) (fun c_69 => ?_) (fun c_69 => ?_)
      · refine g_aload_n dX6_ask_102 rfl rfl ?_
        refine g_bipush dX6_ask_103 kB_6 ?_
        refine g_callVi dX6_ask_105 mi_X6_refused ml_X6_83 (ct_X6_refused h ho (by decide) (by decide)) rfl rfl rfl rfl (Nat.le_of_ble_eq_true rfl) ⟨lt_r rfl, Nat.le_of_ble_eq_true rfl⟩ (fun x105 M105 h105 => ?_)
        refine g_iret dX6_ask_108 ⟨_, rfl, ?_⟩
        exact QY.rf ho (by unfold o_ask; rw [if_neg (fun z => by first | exact c_1 z.1 | exact c_11 z.2), if_neg (fun z => by first | exact c_35 z.1 | exact c_45 z.2), if_neg (fun z => by first | exact c_69 z.1 | exact c_80 z.2)]) h105
      · refine g_iload_n dX6_ask_72 rfl rfl ?_
        refine g_iconst dX6_ask_73 kI_0 ?_
        refine g_sipush dX6_ask_74 kS_9999 ?_
        refine g_callSp dX6_ask_77 ms_X6_isWithin ml_X6_87 (ct_X6_isWithin) rfl rfl (Nat.le_of_ble_eq_true rfl) ⟨lt_r rfl, Nat.le_of_ble_eq_true rfl⟩ ?_
        refine g_if_eqP (tgt := 102) dX6_ask_80 (by decide) (fun c_80 => ?_) (fun c_80 => ?_)
        · refine g_aload_n dX6_ask_102 rfl rfl ?_
          refine g_bipush dX6_ask_103 kB_6 ?_
          refine g_callVi dX6_ask_105 mi_X6_refused ml_X6_83 (ct_X6_refused h ho (by decide) (by decide)) rfl rfl rfl rfl (Nat.le_of_ble_eq_true rfl) ⟨lt_r rfl, Nat.le_of_ble_eq_true rfl⟩ (fun x105 M105 h105 => ?_)
          refine g_iret dX6_ask_108 ⟨_, rfl, ?_⟩
          exact QY.rf ho (by unfold o_ask; rw [if_neg (fun z => by first | exact c_1 z.1 | exact c_11 z.2), if_neg (fun z => by first | exact c_35 z.1 | exact c_45 z.2), if_neg (fun z => by first | exact c_69 z.1 | exact c_80 z.2)]) h105
        · have e9 : o_ask y w v = _ := (if_neg (fun z => by first | exact c_1 z.1 | exact c_11 z.2)).trans ((if_neg (fun z => by first | exact c_35 z.1 | exact c_45 z.2)).trans (if_pos ⟨c_69, c_80⟩))
          rw [e9]
          obtain ⟨v', h1, hv, rfl, e2⟩ := btw_n (by decide) (by decide) c_80
          rw [e2]
          refine g_aload_n dX6_ask_83 rfl rfl ?_
          refine g_getR dX6_ask_84 fl_X6_18 rfl rfl ?_
          refine g_getI dX6_ask_87 fl_X6_187 isS_2.1 rfl (h.2.1.2.2.2.2.2.1) ?_
          refine g_istore_n dX6_ask_90 rfl (lt_r rfl) rfl ?_
          refine g_aload_n dX6_ask_91 rfl rfl ?_
          refine g_getR dX6_ask_92 fl_X6_18 rfl rfl ?_
          refine g_iload_n dX6_ask_95 rfl rfl ?_
          refine g_putI dX6_ask_96 fp_X6_187 isS_2.1 rfl ?_
          refine g_goto (tgt := 109) dX6_ask_99 (by decide) ?_
          refine g_iload_n dX6_ask_109 rfl rfl ?_
          refine g_iret dX6_ask_110 ⟨_, rfl, ?_⟩
          first | exact ⟨rfl, h.n ho (Sm.pI (by omega) (by omega)) (RS.h3 h.2.1 ho.2.1), ok_setN ho ⟨ho.2.1.1, ho.2.1.2.1, ho.2.1.2.2.1, (show v' < 2 ^ 31 by omega), ho.2.1.2.2.2.2⟩ (Nat.le_refl _), Sm.pI (by omega) (by omega)⟩ | exact ⟨rfl, h.n ho (Sm.pI (by omega) (by omega)) (RS.h4 h.2.1 ho.2.1), ok_setN ho ⟨ho.2.1.1, ho.2.1.2.1, ho.2.1.2.2.1, ho.2.1.2.2.2.1, ⟨h1, hv⟩, ho.2.1.2.2.2.2.2⟩ (Nat.le_refl _), Sm.pI (by omega) (by omega)⟩ | exact ⟨rfl, h.n ho (Sm.pI (by omega) (by omega)) (RS.h5 h.2.1 ho.2.1), ok_setN ho ⟨ho.2.1.1, ho.2.1.2.1, ho.2.1.2.2.1, ho.2.1.2.2.2.1, ho.2.1.2.2.2.2.1, hv⟩ (Nat.le_refl _), Sm.pI (by omega) (by omega)⟩
    · refine g_iload_n dX6_ask_38 rfl rfl ?_
      refine g_iconst dX6_ask_39 kI_1 ?_
      refine g_bipush dX6_ask_40 kB_99 ?_
      refine g_callSp dX6_ask_42 ms_X6_isWithin ml_X6_87 (ct_X6_isWithin) rfl rfl (Nat.le_of_ble_eq_true rfl) ⟨lt_r rfl, Nat.le_of_ble_eq_true rfl⟩ ?_
      refine g_if_eqP (tgt := 67) dX6_ask_45 (by decide) (fun c_45 => ?_) (fun c_45 => ?_)
      · refine g_iload_n dX6_ask_67 rfl rfl ?_
        refine g_iconst dX6_ask_68 kI_2 ?_
        refine g_icmp_ne (tgt := 102) dX6_ask_69 (by decide) (fun c_69 => ?_) (fun c_69 => ?_)
        · refine g_aload_n dX6_ask_102 rfl rfl ?_
          refine g_bipush dX6_ask_103 kB_6 ?_
          refine g_callVi dX6_ask_105 mi_X6_refused ml_X6_83 (ct_X6_refused h ho (by decide) (by decide)) rfl rfl rfl rfl (Nat.le_of_ble_eq_true rfl) ⟨lt_r rfl, Nat.le_of_ble_eq_true rfl⟩ (fun x105 M105 h105 => ?_)
          refine g_iret dX6_ask_108 ⟨_, rfl, ?_⟩
          exact QY.rf ho (by unfold o_ask; rw [if_neg (fun z => by first | exact c_1 z.1 | exact c_11 z.2), if_neg (fun z => by first | exact c_35 z.1 | exact c_45 z.2), if_neg (fun z => by first | exact c_69 z.1 | exact c_80 z.2)]) h105
        · refine g_iload_n dX6_ask_72 rfl rfl ?_
          refine g_iconst dX6_ask_73 kI_0 ?_
          refine g_sipush dX6_ask_74 kS_9999 ?_
          refine g_callSp dX6_ask_77 ms_X6_isWithin ml_X6_87 (ct_X6_isWithin) rfl rfl (Nat.le_of_ble_eq_true rfl) ⟨lt_r rfl, Nat.le_of_ble_eq_true rfl⟩ ?_
          refine g_if_eqP (tgt := 102) dX6_ask_80 (by decide) (fun c_80 => ?_) (fun c_80 => ?_)
          · refine g_aload_n dX6_ask_102 rfl rfl ?_
            refine g_bipush dX6_ask_103 kB_6 ?_
            refine g_callVi dX6_ask_105 mi_X6_refused ml_X6_83 (ct_X6_refused h ho (by decide) (by decide)) rfl rfl rfl rfl (Nat.le_of_ble_eq_true rfl) ⟨lt_r rfl, Nat.le_of_ble_eq_true rfl⟩ (fun x105 M105 h105 => ?_)
            refine g_iret dX6_ask_108 ⟨_, rfl, ?_⟩
            exact QY.rf ho (by unfold o_ask; rw [if_neg (fun z => by first | exact c_1 z.1 | exact c_11 z.2), if_neg (fun z => by first | exact c_35 z.1 | exact c_45 z.2), if_neg (fun z => by first | exact c_69 z.1 | exact c_80 z.2)]) h105
          · have e9 : o_ask y w v = _ := (if_neg (fun z => by first | exact c_1 z.1 | exact c_11 z.2)).trans ((if_neg (fun z => by first | exact c_35 z.1 | exact c_45 z.2)).trans (if_pos ⟨c_69, c_80⟩))
            rw [e9]
            obtain ⟨v', h1, hv, rfl, e2⟩ := btw_n (by decide) (by decide) c_80
            rw [e2]
            refine g_aload_n dX6_ask_83 rfl rfl ?_
            refine g_getR dX6_ask_84 fl_X6_18 rfl rfl ?_
            refine g_getI dX6_ask_87 fl_X6_187 isS_2.1 rfl (h.2.1.2.2.2.2.2.1) ?_
            refine g_istore_n dX6_ask_90 rfl (lt_r rfl) rfl ?_
            refine g_aload_n dX6_ask_91 rfl rfl ?_
            refine g_getR dX6_ask_92 fl_X6_18 rfl rfl ?_
            refine g_iload_n dX6_ask_95 rfl rfl ?_
            refine g_putI dX6_ask_96 fp_X6_187 isS_2.1 rfl ?_
            refine g_goto (tgt := 109) dX6_ask_99 (by decide) ?_
            refine g_iload_n dX6_ask_109 rfl rfl ?_
            refine g_iret dX6_ask_110 ⟨_, rfl, ?_⟩
            first | exact ⟨rfl, h.n ho (Sm.pI (by omega) (by omega)) (RS.h3 h.2.1 ho.2.1), ok_setN ho ⟨ho.2.1.1, ho.2.1.2.1, ho.2.1.2.2.1, (show v' < 2 ^ 31 by omega), ho.2.1.2.2.2.2⟩ (Nat.le_refl _), Sm.pI (by omega) (by omega)⟩ | exact ⟨rfl, h.n ho (Sm.pI (by omega) (by omega)) (RS.h4 h.2.1 ho.2.1), ok_setN ho ⟨ho.2.1.1, ho.2.1.2.1, ho.2.1.2.2.1, ho.2.1.2.2.2.1, ⟨h1, hv⟩, ho.2.1.2.2.2.2.2⟩ (Nat.le_refl _), Sm.pI (by omega) (by omega)⟩ | exact ⟨rfl, h.n ho (Sm.pI (by omega) (by omega)) (RS.h5 h.2.1 ho.2.1), ok_setN ho ⟨ho.2.1.1, ho.2.1.2.1, ho.2.1.2.2.1, ho.2.1.2.2.2.1, ho.2.1.2.2.2.2.1, hv⟩ (Nat.le_refl _), Sm.pI (by omega) (by omega)⟩
      · have e9 : o_ask y w v = _ := (if_neg (fun z => by first | exact c_1 z.1 | exact c_11 z.2)).trans (if_pos ⟨c_35, c_45⟩)
        rw [e9]
        obtain ⟨v', h1, hv, rfl, e2⟩ := btw_n (by decide) (by decide) c_45
        rw [e2]
        refine g_aload_n dX6_ask_48 rfl rfl ?_
        refine g_getR dX6_ask_49 fl_X6_18 rfl rfl ?_
        refine g_getI dX6_ask_52 fl_X6_184 isS_2.1 rfl (h.2.1.2.2.2.2.1) ?_
        refine g_istore_n dX6_ask_55 rfl (lt_r rfl) rfl ?_
        refine g_aload_n dX6_ask_56 rfl rfl ?_
        refine g_getR dX6_ask_57 fl_X6_18 rfl rfl ?_
        refine g_iload_n dX6_ask_60 rfl rfl ?_
        refine g_putI dX6_ask_61 fp_X6_184 isS_2.1 rfl ?_
        refine g_goto (tgt := 109) dX6_ask_64 (by decide) ?_
        refine g_iload_n dX6_ask_109 rfl rfl ?_
        refine g_iret dX6_ask_110 ⟨_, rfl, ?_⟩
        first | exact ⟨rfl, h.n ho (Sm.pI (by omega) (by omega)) (RS.h3 h.2.1 ho.2.1), ok_setN ho ⟨ho.2.1.1, ho.2.1.2.1, ho.2.1.2.2.1, (show v' < 2 ^ 31 by omega), ho.2.1.2.2.2.2⟩ (Nat.le_refl _), Sm.pI (by omega) (by omega)⟩ | exact ⟨rfl, h.n ho (Sm.pI (by omega) (by omega)) (RS.h4 h.2.1 ho.2.1), ok_setN ho ⟨ho.2.1.1, ho.2.1.2.1, ho.2.1.2.2.1, ho.2.1.2.2.2.1, ⟨h1, hv⟩, ho.2.1.2.2.2.2.2⟩ (Nat.le_refl _), Sm.pI (by omega) (by omega)⟩ | exact ⟨rfl, h.n ho (Sm.pI (by omega) (by omega)) (RS.h5 h.2.1 ho.2.1), ok_setN ho ⟨ho.2.1.1, ho.2.1.2.1, ho.2.1.2.2.1, ho.2.1.2.2.2.1, ho.2.1.2.2.2.2.1, hv⟩ (Nat.le_refl _), Sm.pI (by omega) (by omega)⟩
  · refine g_iload_n dX6_ask_4 rfl rfl ?_
    refine g_iconst dX6_ask_5 kI_0 ?_
    refine g_bipush dX6_ask_6 kB_99 ?_
    refine g_callSp dX6_ask_8 ms_X6_isWithin ml_X6_87 (ct_X6_isWithin) rfl rfl (Nat.le_of_ble_eq_true rfl) ⟨lt_r rfl, Nat.le_of_ble_eq_true rfl⟩ ?_
    refine g_if_eqP (tgt := 33) dX6_ask_11 (by decide) (fun c_11 => ?_) (fun c_11 => ?_)
    · refine g_iload_n dX6_ask_33 rfl rfl ?_
      refine g_iconst dX6_ask_34 kI_1 ?_
      refine g_icmp_ne (tgt := 67) dX6_ask_35 (by decide) (fun c_35 => ?_) (fun c_35 => ?_)
      · refine g_iload_n dX6_ask_67 rfl rfl ?_
        refine g_iconst dX6_ask_68 kI_2 ?_
        refine g_icmp_ne (tgt := 102) dX6_ask_69 (by decide) (fun c_69 => ?_) (fun c_69 => ?_)
        · refine g_aload_n dX6_ask_102 rfl rfl ?_
          refine g_bipush dX6_ask_103 kB_6 ?_
          refine g_callVi dX6_ask_105 mi_X6_refused ml_X6_83 (ct_X6_refused h ho (by decide) (by decide)) rfl rfl rfl rfl (Nat.le_of_ble_eq_true rfl) ⟨lt_r rfl, Nat.le_of_ble_eq_true rfl⟩ (fun x105 M105 h105 => ?_)
          refine g_iret dX6_ask_108 ⟨_, rfl, ?_⟩
          exact QY.rf ho (by unfold o_ask; rw [if_neg (fun z => by first | exact c_1 z.1 | exact c_11 z.2), if_neg (fun z => by first | exact c_35 z.1 | exact c_45 z.2), if_neg (fun z => by first | exact c_69 z.1 | exact c_80 z.2)]) h105
        · refine g_iload_n dX6_ask_72 rfl rfl ?_
          refine g_iconst dX6_ask_73 kI_0 ?_
          refine g_sipush dX6_ask_74 kS_9999 ?_
          refine g_callSp dX6_ask_77 ms_X6_isWithin ml_X6_87 (ct_X6_isWithin) rfl rfl (Nat.le_of_ble_eq_true rfl) ⟨lt_r rfl, Nat.le_of_ble_eq_true rfl⟩ ?_
          refine g_if_eqP (tgt := 102) dX6_ask_80 (by decide) (fun c_80 => ?_) (fun c_80 => ?_)
          · refine g_aload_n dX6_ask_102 rfl rfl ?_
            refine g_bipush dX6_ask_103 kB_6 ?_
            refine g_callVi dX6_ask_105 mi_X6_refused ml_X6_83 (ct_X6_refused h ho (by decide) (by decide)) rfl rfl rfl rfl (Nat.le_of_ble_eq_true rfl) ⟨lt_r rfl, Nat.le_of_ble_eq_true rfl⟩ (fun x105 M105 h105 => ?_)
            refine g_iret dX6_ask_108 ⟨_, rfl, ?_⟩
            exact QY.rf ho (by unfold o_ask; rw [if_neg (fun z => by first | exact c_1 z.1 | exact c_11 z.2), if_neg (fun z => by first | exact c_35 z.1 | exact c_45 z.2), if_neg (fun z => by first | exact c_69 z.1 | exact c_80 z.2)]) h105
          · have e9 : o_ask y w v = _ := (if_neg (fun z => by first | exact c_1 z.1 | exact c_11 z.2)).trans ((if_neg (fun z => by first | exact c_35 z.1 | exact c_45 z.2)).trans (if_pos ⟨c_69, c_80⟩))
            rw [e9]
            obtain ⟨v', h1, hv, rfl, e2⟩ := btw_n (by decide) (by decide) c_80
            rw [e2]
            refine g_aload_n dX6_ask_83 rfl rfl ?_
            refine g_getR dX6_ask_84 fl_X6_18 rfl rfl ?_
            refine g_getI dX6_ask_87 fl_X6_187 isS_2.1 rfl (h.2.1.2.2.2.2.2.1) ?_
            refine g_istore_n dX6_ask_90 rfl (lt_r rfl) rfl ?_
            refine g_aload_n dX6_ask_91 rfl rfl ?_
            refine g_getR dX6_ask_92 fl_X6_18 rfl rfl ?_
            refine g_iload_n dX6_ask_95 rfl rfl ?_
            refine g_putI dX6_ask_96 fp_X6_187 isS_2.1 rfl ?_
            refine g_goto (tgt := 109) dX6_ask_99 (by decide) ?_
            refine g_iload_n dX6_ask_109 rfl rfl ?_
            refine g_iret dX6_ask_110 ⟨_, rfl, ?_⟩
            first | exact ⟨rfl, h.n ho (Sm.pI (by omega) (by omega)) (RS.h3 h.2.1 ho.2.1), ok_setN ho ⟨ho.2.1.1, ho.2.1.2.1, ho.2.1.2.2.1, (show v' < 2 ^ 31 by omega), ho.2.1.2.2.2.2⟩ (Nat.le_refl _), Sm.pI (by omega) (by omega)⟩ | exact ⟨rfl, h.n ho (Sm.pI (by omega) (by omega)) (RS.h4 h.2.1 ho.2.1), ok_setN ho ⟨ho.2.1.1, ho.2.1.2.1, ho.2.1.2.2.1, ho.2.1.2.2.2.1, ⟨h1, hv⟩, ho.2.1.2.2.2.2.2⟩ (Nat.le_refl _), Sm.pI (by omega) (by omega)⟩ | exact ⟨rfl, h.n ho (Sm.pI (by omega) (by omega)) (RS.h5 h.2.1 ho.2.1), ok_setN ho ⟨ho.2.1.1, ho.2.1.2.1, ho.2.1.2.2.1, ho.2.1.2.2.2.1, ho.2.1.2.2.2.2.1, hv⟩ (Nat.le_refl _), Sm.pI (by omega) (by omega)⟩
      · refine g_iload_n dX6_ask_38 rfl rfl ?_
        refine g_iconst dX6_ask_39 kI_1 ?_
        refine g_bipush dX6_ask_40 kB_99 ?_
        refine g_callSp dX6_ask_42 ms_X6_isWithin ml_X6_87 (ct_X6_isWithin) rfl rfl (Nat.le_of_ble_eq_true rfl) ⟨lt_r rfl, Nat.le_of_ble_eq_true rfl⟩ ?_
        refine g_if_eqP (tgt := 67) dX6_ask_45 (by decide) (fun c_45 => ?_) (fun c_45 => ?_)
        · refine g_iload_n dX6_ask_67 rfl rfl ?_
          refine g_iconst dX6_ask_68 kI_2 ?_
          refine g_icmp_ne (tgt := 102) dX6_ask_69 (by decide) (fun c_69 => ?_) (fun c_69 => ?_)
          · refine g_aload_n dX6_ask_102 rfl rfl ?_
            refine g_bipush dX6_ask_103 kB_6 ?_
            refine g_callVi dX6_ask_105 mi_X6_refused ml_X6_83 (ct_X6_refused h ho (by decide) (by decide)) rfl rfl rfl rfl (Nat.le_of_ble_eq_true rfl) ⟨lt_r rfl, Nat.le_of_ble_eq_true rfl⟩ (fun x105 M105 h105 => ?_)
            refine g_iret dX6_ask_108 ⟨_, rfl, ?_⟩
            exact QY.rf ho (by unfold o_ask; rw [if_neg (fun z => by first | exact c_1 z.1 | exact c_11 z.2), if_neg (fun z => by first | exact c_35 z.1 | exact c_45 z.2), if_neg (fun z => by first | exact c_69 z.1 | exact c_80 z.2)]) h105
          · refine g_iload_n dX6_ask_72 rfl rfl ?_
            refine g_iconst dX6_ask_73 kI_0 ?_
            refine g_sipush dX6_ask_74 kS_9999 ?_
            refine g_callSp dX6_ask_77 ms_X6_isWithin ml_X6_87 (ct_X6_isWithin) rfl rfl (Nat.le_of_ble_eq_true rfl) ⟨lt_r rfl, Nat.le_of_ble_eq_true rfl⟩ ?_
            refine g_if_eqP (tgt := 102) dX6_ask_80 (by decide) (fun c_80 => ?_) (fun c_80 => ?_)
            · refine g_aload_n dX6_ask_102 rfl rfl ?_
              refine g_bipush dX6_ask_103 kB_6 ?_
              refine g_callVi dX6_ask_105 mi_X6_refused ml_X6_83 (ct_X6_refused h ho (by decide) (by decide)) rfl rfl rfl rfl (Nat.le_of_ble_eq_true rfl) ⟨lt_r rfl, Nat.le_of_ble_eq_true rfl⟩ (fun x105 M105 h105 => ?_)
              refine g_iret dX6_ask_108 ⟨_, rfl, ?_⟩
              exact QY.rf ho (by unfold o_ask; rw [if_neg (fun z => by first | exact c_1 z.1 | exact c_11 z.2), if_neg (fun z => by first | exact c_35 z.1 | exact c_45 z.2), if_neg (fun z => by first | exact c_69 z.1 | exact c_80 z.2)]) h105
            · have e9 : o_ask y w v = _ := (if_neg (fun z => by first | exact c_1 z.1 | exact c_11 z.2)).trans ((if_neg (fun z => by first | exact c_35 z.1 | exact c_45 z.2)).trans (if_pos ⟨c_69, c_80⟩))
              rw [e9]
              obtain ⟨v', h1, hv, rfl, e2⟩ := btw_n (by decide) (by decide) c_80
              rw [e2]
              refine g_aload_n dX6_ask_83 rfl rfl ?_
              refine g_getR dX6_ask_84 fl_X6_18 rfl rfl ?_
              refine g_getI dX6_ask_87 fl_X6_187 isS_2.1 rfl (h.2.1.2.2.2.2.2.1) ?_
              refine g_istore_n dX6_ask_90 rfl (lt_r rfl) rfl ?_
              refine g_aload_n dX6_ask_91 rfl rfl ?_
              refine g_getR dX6_ask_92 fl_X6_18 rfl rfl ?_
              refine g_iload_n dX6_ask_95 rfl rfl ?_
              refine g_putI dX6_ask_96 fp_X6_187 isS_2.1 rfl ?_
              refine g_goto (tgt := 109) dX6_ask_99 (by decide) ?_
              refine g_iload_n dX6_ask_109 rfl rfl ?_
              refine g_iret dX6_ask_110 ⟨_, rfl, ?_⟩
              first | exact ⟨rfl, h.n ho (Sm.pI (by omega) (by omega)) (RS.h3 h.2.1 ho.2.1), ok_setN ho ⟨ho.2.1.1, ho.2.1.2.1, ho.2.1.2.2.1, (show v' < 2 ^ 31 by omega), ho.2.1.2.2.2.2⟩ (Nat.le_refl _), Sm.pI (by omega) (by omega)⟩ | exact ⟨rfl, h.n ho (Sm.pI (by omega) (by omega)) (RS.h4 h.2.1 ho.2.1), ok_setN ho ⟨ho.2.1.1, ho.2.1.2.1, ho.2.1.2.2.1, ho.2.1.2.2.2.1, ⟨h1, hv⟩, ho.2.1.2.2.2.2.2⟩ (Nat.le_refl _), Sm.pI (by omega) (by omega)⟩ | exact ⟨rfl, h.n ho (Sm.pI (by omega) (by omega)) (RS.h5 h.2.1 ho.2.1), ok_setN ho ⟨ho.2.1.1, ho.2.1.2.1, ho.2.1.2.2.1, ho.2.1.2.2.2.1, ho.2.1.2.2.2.2.1, hv⟩ (Nat.le_refl _), Sm.pI (by omega) (by omega)⟩
        · have e9 : o_ask y w v = _ := (if_neg (fun z => by first | exact c_1 z.1 | exact c_11 z.2)).trans (if_pos ⟨c_35, c_45⟩)
          rw [e9]
          obtain ⟨v', h1, hv, rfl, e2⟩ := btw_n (by decide) (by decide) c_45
          rw [e2]
          refine g_aload_n dX6_ask_48 rfl rfl ?_
          refine g_getR dX6_ask_49 fl_X6_18 rfl rfl ?_
          refine g_getI dX6_ask_52 fl_X6_184 isS_2.1 rfl (h.2.1.2.2.2.2.1) ?_
          refine g_istore_n dX6_ask_55 rfl (lt_r rfl) rfl ?_
          refine g_aload_n dX6_ask_56 rfl rfl ?_
          refine g_getR dX6_ask_57 fl_X6_18 rfl rfl ?_
          refine g_iload_n dX6_ask_60 rfl rfl ?_
          refine g_putI dX6_ask_61 fp_X6_184 isS_2.1 rfl ?_
          refine g_goto (tgt := 109) dX6_ask_64 (by decide) ?_
          refine g_iload_n dX6_ask_109 rfl rfl ?_
          refine g_iret dX6_ask_110 ⟨_, rfl, ?_⟩
          first | exact ⟨rfl, h.n ho (Sm.pI (by omega) (by omega)) (RS.h3 h.2.1 ho.2.1), ok_setN ho ⟨ho.2.1.1, ho.2.1.2.1, ho.2.1.2.2.1, (show v' < 2 ^ 31 by omega), ho.2.1.2.2.2.2⟩ (Nat.le_refl _), Sm.pI (by omega) (by omega)⟩ | exact ⟨rfl, h.n ho (Sm.pI (by omega) (by omega)) (RS.h4 h.2.1 ho.2.1), ok_setN ho ⟨ho.2.1.1, ho.2.1.2.1, ho.2.1.2.2.1, ho.2.1.2.2.2.1, ⟨h1, hv⟩, ho.2.1.2.2.2.2.2⟩ (Nat.le_refl _), Sm.pI (by omega) (by omega)⟩ | exact ⟨rfl, h.n ho (Sm.pI (by omega) (by omega)) (RS.h5 h.2.1 ho.2.1), ok_setN ho ⟨ho.2.1.1, ho.2.1.2.1, ho.2.1.2.2.1, ho.2.1.2.2.2.1, ho.2.1.2.2.2.2.1, hv⟩ (Nat.le_refl _), Sm.pI (by omega) (by omega)⟩
    · have e9 : o_ask y w v = _ := if_pos ⟨c_1, c_11⟩
      rw [e9]
      obtain ⟨v', h1, hv, rfl, e2⟩ := btw_n (by decide) (by decide) c_11
      rw [e2]
      refine g_aload_n dX6_ask_14 rfl rfl ?_
      refine g_getR dX6_ask_15 fl_X6_18 rfl rfl ?_
      refine g_getI dX6_ask_18 fl_X6_181 isS_2.1 rfl (h.2.1.2.2.2.1) ?_
      refine g_istore_n dX6_ask_21 rfl (lt_r rfl) rfl ?_
      refine g_aload_n dX6_ask_22 rfl rfl ?_
      refine g_getR dX6_ask_23 fl_X6_18 rfl rfl ?_
      refine g_iload_n dX6_ask_26 rfl rfl ?_
      refine g_putI dX6_ask_27 fp_X6_181 isS_2.1 rfl ?_
      refine g_goto (tgt := 109) dX6_ask_30 (by decide) ?_
      refine g_iload_n dX6_ask_109 rfl rfl ?_
      refine g_iret dX6_ask_110 ⟨_, rfl, ?_⟩
      first | exact ⟨rfl, h.n ho (Sm.pI (by omega) (by omega)) (RS.h3 h.2.1 ho.2.1), ok_setN ho ⟨ho.2.1.1, ho.2.1.2.1, ho.2.1.2.2.1, (show v' < 2 ^ 31 by omega), ho.2.1.2.2.2.2⟩ (Nat.le_refl _), Sm.pI (by omega) (by omega)⟩ | exact ⟨rfl, h.n ho (Sm.pI (by omega) (by omega)) (RS.h4 h.2.1 ho.2.1), ok_setN ho ⟨ho.2.1.1, ho.2.1.2.1, ho.2.1.2.2.1, ho.2.1.2.2.2.1, ⟨h1, hv⟩, ho.2.1.2.2.2.2.2⟩ (Nat.le_refl _), Sm.pI (by omega) (by omega)⟩ | exact ⟨rfl, h.n ho (Sm.pI (by omega) (by omega)) (RS.h5 h.2.1 ho.2.1), ok_setN ho ⟨ho.2.1.1, ho.2.1.2.1, ho.2.1.2.2.1, ho.2.1.2.2.2.1, ho.2.1.2.2.2.2.1, hv⟩ (Nat.le_refl _), Sm.pI (by omega) (by omega)⟩
theorem cx_worthOf {y : Sys} {w v : Int32} (h : RY B M y) (ho : okY y) : Ct E B yX6_worthOf cX6_worthOf 4 (some .int) 2 [.ref (B + 0), .int w, .int v] M (QY B M (o_worthOf y w v)) := by
  refine Ct.of2 (own := RX6) (lv := [(0, .ref (B + 0)), (1, .int w), (2, .int v)]) pn_X6 rfl (Nat.le_of_ble_eq_true rfl) rfl ?_
  refine g_iload_n dX6_worthOf_0 rfl rfl ?_
  refine g_iconst dX6_worthOf_1 kI_0 ?_
  refine g_bipush dX6_worthOf_2 kB_9 ?_
  refine g_callSp dX6_worthOf_4 ms_X6_isWithin ml_X6_87 (ct_X6_isWithin) rfl rfl (Nat.le_of_ble_eq_true rfl) ⟨lt_r rfl, Nat.le_of_ble_eq_true rfl⟩ ?_
  refine g_if_eqP (tgt := 20) dX6_worthOf_7 (by decide) (fun c_7 => ?_) (fun c_7 => ?_)
  · refine g_aload_n dX6_worthOf_20 rfl rfl ?_
    refine g_bipush dX6_worthOf_21 kB_6 ?_
    refine g_callVi dX6_worthOf_23 mi_X6_refused ml_X6_83 (ct_X6_refused h ho (by decide) (by decide)) rfl rfl rfl rfl (Nat.le_of_ble_eq_true rfl) ⟨lt_r rfl, Nat.le_of_ble_eq_true rfl⟩ (fun x23 M23 h23 => ?_)
    refine g_iret dX6_worthOf_26 ⟨_, rfl, ?_⟩
    exact QY.rf ho (if_pos (fun z => by first | exact c_7 z.1 | exact c_17 z.2)) h23
  · refine g_iload_n dX6_worthOf_10 rfl rfl ?_
    refine g_iconst dX6_worthOf_11 kI_0 ?_
    refine g_bipush dX6_worthOf_12 kB_99 ?_
    refine g_callSp dX6_worthOf_14 ms_X6_isWithin ml_X6_87 (ct_X6_isWithin) rfl rfl (Nat.le_of_ble_eq_true rfl) ⟨lt_r rfl, Nat.le_of_ble_eq_true rfl⟩ ?_
    refine g_if_neP (tgt := 27) dX6_worthOf_17 (by decide) (fun c_17 => ?_) (fun c_17 => ?_)
    · have e9 : o_worthOf y w v = _ := if_neg (fun z => z ⟨c_7, c_17⟩)
      rw [e9]
      obtain ⟨j, -, hj, rfl, e1⟩ := btw_n (by decide) (by decide) c_7
      obtain ⟨v', -, hv, rfl, e2⟩ := btw_n (by decide) (by decide) c_17
      rw [e1, e2]
      refine g_aload_n dX6_worthOf_27 rfl rfl ?_
      refine g_getR dX6_worthOf_28 fl_X6_18 rfl rfl ?_
      refine g_getR dX6_worthOf_31 fl_X6_190 isS_2.1 rfl ?_
      refine g_iload_n dX6_worthOf_34 rfl rfl ?_
      refine g_iald dX6_worthOf_35 isS_2.2.2.1 rfl (by omega) (h.2.1.2.1 j (by omega)) ?_
      refine g_istore_n dX6_worthOf_36 rfl (lt_r rfl) rfl ?_
      refine g_aload_n dX6_worthOf_37 rfl rfl ?_
      refine g_getR dX6_worthOf_38 fl_X6_18 rfl rfl ?_
      refine g_getR dX6_worthOf_41 fl_X6_190 isS_2.1 rfl ?_
      refine g_iload_n dX6_worthOf_44 rfl rfl ?_
      refine g_iload_n dX6_worthOf_45 rfl rfl ?_
      refine g_iast dX6_worthOf_46 isS_2.2.2.1 rfl (by omega) ?_
      refine g_iload_n dX6_worthOf_47 rfl rfl ?_
      refine g_iret dX6_worthOf_48 ⟨_, rfl, ?_⟩
      exact ⟨rfl, h.n ho (Sm.pI (by omega) (by omega)) (RS.wo h.2.1 ho.2.1), ok_setN ho (ok_wo ho.2.1 hv) (Nat.le_refl _), Sm.pI (by omega) (by omega)⟩
    · refine g_aload_n dX6_worthOf_20 rfl rfl ?_
      refine g_bipush dX6_worthOf_21 kB_6 ?_
      refine g_callVi dX6_worthOf_23 mi_X6_refused ml_X6_83 (ct_X6_refused h ho (by decide) (by decide)) rfl rfl rfl rfl (Nat.le_of_ble_eq_true rfl) ⟨lt_r rfl, Nat.le_of_ble_eq_true rfl⟩ (fun x23 M23 h23 => ?_)
      refine g_iret dX6_worthOf_26 ⟨_, rfl, ?_⟩
      exact QY.rf ho (if_pos (fun z => by first | exact c_7 z.1 | exact c_17 z.2)) h23
theorem cx_soak {y : Sys} {b c : Int32} (h : RY B M y) (ho : okY y) : Ct E B yX6_soak cX6_soak 3 (some .int) 2 [.ref (B + 0), .int b, .int c] M (QY B M (o_soak y b c)) := by
  have hcn := ho.2.1.2.2.1
  refine Ct.of2 (own := RX6) (lv := [(0, .ref (B + 0)), (1, .int b), (2, .int c)]) pn_X6 rfl (Nat.le_of_ble_eq_true rfl) rfl ?_
  refine g_aload_n dX6_soak_0 rfl rfl ?_
  refine g_getR dX6_soak_1 fl_X6_18 rfl rfl ?_
  refine g_iload_n dX6_soak_4 rfl rfl ?_
  refine g_iload_n dX6_soak_5 rfl rfl ?_
  refine g_callVp dX6_soak_6 mi_X5_hasCellOf ml_X6_177 (ct_hasC h ho) isS_2.1 rfl rfl rfl (Nat.le_of_ble_eq_true rfl) ⟨lt_r rfl, Nat.le_of_ble_eq_true rfl⟩ ?_
  refine g_if_neP (tgt := 18) dX6_soak_9 (by decide) (fun c_9 => ?_) (fun c_9 => ?_)
  · have e9 : o_soak y b c = _ := if_neg (fun z => z c_9)
    rw [e9]
    obtain ⟨q, hq, rfl, e1⟩ := in_b hcn c_9.1
    rw [e1] at c_9 ⊢
    have hR := h.2.1.1 q hq
    have hB := ho.2.1.1 q hq
    have hB3 := hB.2.2.1
    obtain ⟨j, hj, rfl⟩ := in_nI (by omega) c_9.2
    rw [tn_nI (show j < 2 ^ 31 by omega)]
    refine g_aload_n dX6_soak_18 rfl rfl ?_
    refine g_getR dX6_soak_19 fl_X6_18 rfl rfl ?_
    refine g_getR dX6_soak_22 fl_X6_141 isS_2.1 rfl ?_
    refine g_iload_n dX6_soak_25 rfl rfl ?_
    refine g_aald dX6_soak_26 isS_2.2.1 rfl (isS_b (by omega)) ?_
    refine g_iload_n dX6_soak_27 rfl rfl ?_
    refine g_aload_n dX6_soak_28 rfl rfl ?_
    refine g_getR dX6_soak_29 fl_X6_18 rfl rfl ?_
    refine g_getI dX6_soak_32 fl_X6_181 isS_2.1 rfl (h.2.1.2.2.2.1) ?_
    refine g_callVp dX6_soak_35 mi_X1_soakOf ml_X6_204 (ct_X1_soakOf (isS_2.2.2.2 _ (by omega)) hR hB (by omega) ho.2.1.2.2.2.1) (isS_2.2.2.2 _ (by omega)).1 rfl rfl rfl (Nat.le_of_ble_eq_true rfl) ⟨lt_r rfl, Nat.le_of_ble_eq_true rfl⟩ ?_
    refine g_iret dX6_soak_38 ⟨_, rfl, ?_⟩
    exact QY.p h ho rfl
  · refine g_aload_n dX6_soak_12 rfl rfl ?_
    refine g_iconst dX6_soak_13 kI_1 ?_
    refine g_callVi dX6_soak_14 mi_X6_refused ml_X6_83 (ct_X6_refused h ho (by decide) (by decide)) rfl rfl rfl rfl (Nat.le_of_ble_eq_true rfl) ⟨lt_r rfl, Nat.le_of_ble_eq_true rfl⟩ (fun x14 M14 h14 => ?_)
    refine g_iret dX6_soak_17 ⟨_, rfl, ?_⟩
    exact QY.rf ho (if_pos c_9) h14
theorem cx_cellOf {y : Sys} {b c w : Int32} (h : RY B M y) (ho : okY y) : Ct E B yX6_cellOf cX6_cellOf 4 (some .int) 2 [.ref (B + 0), .int b, .int c, .int w] M (QY B M (o_cellOf y b c w)) := by
  have hcn := ho.2.1.2.2.1
  refine Ct.of2 (own := RX6) (lv := [(0, .ref (B + 0)), (1, .int b), (2, .int c), (3, .int w)]) pn_X6 rfl (Nat.le_of_ble_eq_true rfl) rfl ?_
  refine g_aload_n dX6_cellOf_0 rfl rfl ?_
  refine g_getR dX6_cellOf_1 fl_X6_18 rfl rfl ?_
  refine g_iload_n dX6_cellOf_4 rfl rfl ?_
  refine g_iload_n dX6_cellOf_5 rfl rfl ?_
  refine g_callVp dX6_cellOf_6 mi_X5_hasCellOf ml_X6_177 (ct_hasC h ho) isS_2.1 rfl rfl rfl (Nat.le_of_ble_eq_true rfl) ⟨lt_r rfl, Nat.le_of_ble_eq_true rfl⟩ ?_
  refine g_if_neP (tgt := 22) dX6_cellOf_9 (by decide) (fun c_9 => ?_) (fun c_9 => ?_)
  · have e9 : o_cellOf y b c w = _ := if_neg (fun z => z c_9)
    rw [e9]
    obtain ⟨q, hq, rfl, e1⟩ := in_b hcn c_9.1
    rw [e1] at c_9 ⊢
    have hR := h.2.1.1 q hq
    have hB := ho.2.1.1 q hq
    have hB3 := hB.2.2.1
    obtain ⟨j, hj, rfl⟩ := in_nI (by omega) c_9.2
    rw [tn_nI (show j < 2 ^ 31 by omega)]
    refine g_iload_n dX6_cellOf_22 rfl rfl ?_
    refine g_if_ne (tgt := 40) dX6_cellOf_23 (by decide) (fun c_23 => ?_) (fun c_23 => ?_)
    · refine g_iload_n dX6_cellOf_40 rfl rfl ?_
      refine g_iconst dX6_cellOf_41 kI_1 ?_
      refine g_icmp_ne (tgt := 59) dX6_cellOf_42 (by decide) (fun c_42 => ?_) (fun c_42 => ?_)
      · refine g_aload_n dX6_cellOf_59 rfl rfl ?_
        refine g_iconst dX6_cellOf_60 kI_5 ?_
        refine g_callVi dX6_cellOf_61 mi_X6_refused ml_X6_83 (ct_X6_refused h ho (by decide) (by decide)) rfl rfl rfl rfl (Nat.le_of_ble_eq_true rfl) ⟨lt_r rfl, Nat.le_of_ble_eq_true rfl⟩ (fun x61 M61 h61 => ?_)
        refine g_sipush dX6_cellOf_64 kS_1000 ?_
        refine g_isub dX6_cellOf_67 rfl ?_
        refine g_iret dX6_cellOf_68 ⟨_, rfl, ?_⟩
        exact QY.rl ho (by rw [if_neg c_23, if_neg c_42]) h61
      · refine g_aload_n dX6_cellOf_45 rfl rfl ?_
        refine g_getR dX6_cellOf_46 fl_X6_18 rfl rfl ?_
        refine g_getR dX6_cellOf_49 fl_X6_141 isS_2.1 rfl ?_
        refine g_iload_n dX6_cellOf_52 rfl rfl ?_
        refine g_aald dX6_cellOf_53 isS_2.2.1 rfl (isS_b (by omega)) ?_
        refine g_iload_n dX6_cellOf_54 rfl rfl ?_
        refine g_callVp dX6_cellOf_55 mi_X1_hangsOn ml_X6_211 (ct_X1_hangsOn (isS_2.2.2.2 _ (by omega)) hR hB hj) (isS_2.2.2.2 _ (by omega)).1 rfl rfl rfl (Nat.le_of_ble_eq_true rfl) ⟨lt_r rfl, Nat.le_of_ble_eq_true rfl⟩ ?_
        refine g_iret dX6_cellOf_58 ⟨_, rfl, ?_⟩
        exact QY.p h ho (by rw [if_neg c_23, if_pos c_42])
    · refine g_aload_n dX6_cellOf_26 rfl rfl ?_
      refine g_getR dX6_cellOf_27 fl_X6_18 rfl rfl ?_
      refine g_getR dX6_cellOf_30 fl_X6_141 isS_2.1 rfl ?_
      refine g_iload_n dX6_cellOf_33 rfl rfl ?_
      refine g_aald dX6_cellOf_34 isS_2.2.1 rfl (isS_b (by omega)) ?_
      refine g_iload_n dX6_cellOf_35 rfl rfl ?_
      refine g_callVp dX6_cellOf_36 mi_X1_holdsAt ml_X6_208 (ct_X1_holdsAt (isS_2.2.2.2 _ (by omega)) hR hB hj) (isS_2.2.2.2 _ (by omega)).1 rfl rfl rfl (Nat.le_of_ble_eq_true rfl) ⟨lt_r rfl, Nat.le_of_ble_eq_true rfl⟩ ?_
      refine g_iret dX6_cellOf_39 ⟨_, rfl, ?_⟩
      exact QY.p h ho (if_pos c_23)
  · refine g_aload_n dX6_cellOf_12 rfl rfl ?_
    refine g_iconst dX6_cellOf_13 kI_1 ?_
    refine g_callVi dX6_cellOf_14 mi_X6_refused ml_X6_83 (ct_X6_refused h ho (by decide) (by decide)) rfl rfl rfl rfl (Nat.le_of_ble_eq_true rfl) ⟨lt_r rfl, Nat.le_of_ble_eq_true rfl⟩ (fun x14 M14 h14 => ?_)
    refine g_sipush dX6_cellOf_17 kS_1000 ?_
    refine g_isub dX6_cellOf_20 rfl ?_
    refine g_iret dX6_cellOf_21 ⟨_, rfl, ?_⟩
    exact QY.rl ho (if_pos c_9) h14
theorem cx_breaks {y : Sys} {b : Int32} (h : RY B M y) (ho : okY y) : Ct E B yX6_breaks cX6_breaks 2 (some .int) 2 [.ref (B + 0), .int b] M (QY B M (o_breaks y b)) := by
  have hcn := ho.2.1.2.2.1
  refine Ct.of2 (own := RX6) (lv := [(0, .ref (B + 0)), (1, .int b)]) pn_X6 rfl (Nat.le_of_ble_eq_true rfl) rfl ?_
  refine g_aload_n dX6_breaks_0 rfl rfl ?_
  refine g_getR dX6_breaks_1 fl_X6_18 rfl rfl ?_
  refine g_iload_n dX6_breaks_4 rfl rfl ?_
  refine g_callVp dX6_breaks_5 mi_X5_hasBiscuit ml_X6_123 (ct_hasB h) isS_2.1 rfl rfl rfl (Nat.le_of_ble_eq_true rfl) ⟨lt_r rfl, Nat.le_of_ble_eq_true rfl⟩ ?_
  refine g_if_neP (tgt := 20) dX6_breaks_8 (by decide) (fun c_8 => ?_) (fun c_8 => ?_)
  · have e9 : o_breaks y b = _ := if_neg (fun z => z c_8)
    rw [e9]
    obtain ⟨q, hq, rfl, e1⟩ := in_b hcn c_8
    rw [e1]
    refine g_aload_n dX6_breaks_20 rfl rfl ?_
    refine g_getR dX6_breaks_21 fl_X6_18 rfl rfl ?_
    refine g_getR dX6_breaks_24 fl_X6_141 isS_2.1 rfl ?_
    refine g_iload_n dX6_breaks_27 rfl rfl ?_
    refine g_aald dX6_breaks_28 isS_2.2.1 rfl (isS_b (by omega)) ?_
    refine g_callVp dX6_breaks_29 mi_X1_breakingCell ml_X6_214 (ct_X1_breakingCell (isS_2.2.2.2 _ (by omega)) (h.2.1.1 q hq) (ho.2.1.1 q hq)) (isS_2.2.2.2 _ (by omega)).1 rfl rfl rfl (Nat.le_of_ble_eq_true rfl) ⟨lt_r rfl, Nat.le_of_ble_eq_true rfl⟩ ?_
    refine g_iret dX6_breaks_32 ⟨_, rfl, ?_⟩
    exact QY.p h ho rfl
  · refine g_aload_n dX6_breaks_11 rfl rfl ?_
    refine g_iconst dX6_breaks_12 kI_1 ?_
    refine g_callVi dX6_breaks_13 mi_X6_refused ml_X6_83 (ct_X6_refused h ho (by decide) (by decide)) rfl rfl rfl rfl (Nat.le_of_ble_eq_true rfl) ⟨lt_r rfl, Nat.le_of_ble_eq_true rfl⟩ (fun x13 M13 h13 => ?_)
    refine g_bipush dX6_breaks_16 kB_10 ?_
    refine g_isub dX6_breaks_18 rfl ?_
    refine g_iret dX6_breaks_19 ⟨_, rfl, ?_⟩
    exact QY.rl ho (if_pos c_8) h13
theorem cx_table {y : Sys} {s : Int32} (h : RY B M y) (ho : okY y) : Ct E B yX6_table cX6_table 4 (some .int) 6 [.ref (B + 0), .int s] M (QY B M (o_table y s)) := by
  have hw := whyRow_le (y := y) (s := s)
  refine Ct.of2 (own := RX6) (lv := [(0, .ref (B + 0)), (1, .int s)]) pn_X6 rfl (Nat.le_of_ble_eq_true rfl) rfl ?_
  refine g_aload_n dX6_table_0 rfl rfl ?_
  refine g_iload_n dX6_table_1 rfl rfl ?_
  refine g_callVp dX6_table_2 mi_X6_whyNoRow ml_X6_95 (ct_X6_whyNoRow h ho) rfl rfl rfl rfl (Nat.le_of_ble_eq_true rfl) ⟨lt_r rfl, Nat.le_of_ble_eq_true rfl⟩ ?_
  refine g_istore_n dX6_table_5 rfl (lt_r rfl) rfl ?_
  refine g_iload_n dX6_table_6 rfl rfl ?_
  refine g_if_eqN (tgt := 16) dX6_table_7 (by decide) rfl (by omega) (fun c_7 => ?_) (fun c_7 => ?_)
  · have e9 : o_table y s = _ := if_neg (fun z => z c_7)
    rw [e9]
    obtain ⟨d1, d2⟩ := whyRow_0 c_7
    obtain ⟨q, hq, rfl, e1⟩ := in_sh d1
    rw [e1] at d2 ⊢
    refine g_aload_n dX6_table_16 rfl rfl ?_
    refine g_getR dX6_table_17 fl_X6_25 rfl rfl ?_
    refine g_aload_n dX6_table_20 rfl rfl ?_
    refine g_getR dX6_table_21 fl_X6_18 rfl rfl ?_
    refine g_callVv dX6_table_24 mi_X5_takeOver ml_X6_193 (ct_X5_takeOver isS_32 isS_2 (by omega) h.2.1 ho.2.1) isS_32.1 rfl rfl rfl (Nat.le_of_ble_eq_true rfl) ⟨lt_r rfl, Nat.le_of_ble_eq_true rfl⟩ (fun M24 h24 => ?_)
    obtain ⟨t1, t2⟩ := h24
    have hy1 := h.sc ho (Sc.s t2 (by omega))
    refine g_aload_n dX6_table_27 rfl rfl ?_
    refine g_getR dX6_table_28 fl_X6_43 rfl rfl ?_
    refine g_aload_n dX6_table_31 rfl rfl ?_
    refine g_getR dX6_table_32 fl_X6_11 rfl rfl ?_
    refine g_iload_n dX6_table_35 rfl rfl ?_
    refine g_aald dX6_table_36 rfl rfl (isH_s (by omega)) ?_
    refine g_callVi dX6_table_37 mi_X3_read ml_X6_197 (ct_X3_read (isH_n (by omega)) (hy1.1 q hq) (ho.1 q hq) d2 (by omega) t1 ho.2.1) rfl rfl rfl rfl (Nat.le_of_ble_eq_true rfl) ⟨lt_r rfl, Nat.le_of_ble_eq_true rfl⟩ (fun x37 M37 h37 => ?_)
    obtain ⟨f1, f2, f3⟩ := h37
    have hy2 := hy1.sc ho (Sc.s f3 (by omega))
    obtain ⟨g1, g2, g3⟩ := hy2.f (x := M37.1 (B + 53) 6) ho
    have hb := read_le (T := txOf (yH y q)) 160 0 0 (yN y)
    have hk := read_ok (T := txOf (yH y q)) 160 0 0 (yN y) ho.2.1
    refine g_istore_n dX6_table_40 rfl (lt_r rfl) rfl ?_
    refine g_aload_n dX6_table_41 rfl rfl ?_
    refine g_aload_n dX6_table_42 rfl rfl ?_
    refine g_getR dX6_table_43 fl_X6_43 rfl rfl ?_
    refine g_getI dX6_table_46 fl_X6_201 rfl rfl rfl ?_
    refine g_putI dX6_table_49 fp_X6_74 rfl rfl ?_
    refine g_aload_n dX6_table_52 rfl rfl ?_
    refine g_getI dX6_table_53 fl_X6_74 rfl rfl (upI_s) ?_
    refine g_iconst dX6_table_56 kI_m1 ?_
    refine g_icmp_eq (tgt := 67) dX6_table_57 (by decide) (fun c_57 => ?_) (fun c_57 => ?_)
    · have ht : (readF (txOf (yH y q)) 160 0 0 (yN y)).1 = true := by
        cases hf : (readF (txOf (yH y q)) 160 0 0 (yN y)).1
        · exact absurd (show nI (readF (txOf (yH y q)) 160 0 0 (yN y)).2.1 = -1 by rw [← f2 hf]; exact c_57) (nI_nm1 (by omega))
        · rfl
      obtain ⟨f4, f5, f6⟩ := f1 ht
      have e5 : setF y (M37.1 (B + 53) 6) = setF y (-1) := by rw [f5]
      refine g_aload_n dX6_table_67 rfl rfl ?_
      refine g_getR dX6_table_68 fl_X6_18 rfl rfl ?_
      refine g_aload_n dX6_table_71 rfl rfl ?_
      refine g_getR dX6_table_72 fl_X6_25 rfl rfl ?_
      refine g_callVv dX6_table_75 mi_X5_takeOver ml_X6_193 (ct_X5_takeOver isS_2 isS_32 (by omega) (f6.sm hk g3 (by omega)) hk) isS_2.1 rfl rfl rfl (Nat.le_of_ble_eq_true rfl) ⟨lt_r rfl, Nat.le_of_ble_eq_true rfl⟩ (fun M75 h75 => ?_)
      refine g_iload_n dX6_table_78 rfl rfl ?_
      refine g_iret dX6_table_79 ⟨_, rfl, ?_⟩
      rw [if_pos ht]
      show _ = _ ∧ RY B M75 (setN (setF y (-1)) _) ∧ okY (setN (setF y (-1)) _) ∧ _
      rw [← e5]
      exact ⟨f4, g1.n g2 h75.2 h75.1, ok_setN g2 hk (read_cn 160 0 0 (yN y)), Sm.tr (Sm.tr (Sm.tr (t2.up (by omega) (by omega)) (f3.up (by omega) (by omega))) (g3.up (by omega) (by omega))) (h75.2.up (by omega) (by omega))⟩
    · refine g_aload_n dX6_table_60 rfl rfl ?_
      refine g_bipush dX6_table_61 kB_6 ?_
      refine g_callVi dX6_table_63 mi_X6_refused ml_X6_83 (ct_X6_refused g1 g2 (by decide) (by decide)) rfl rfl rfl rfl (Nat.le_of_ble_eq_true rfl) ⟨lt_r rfl, Nat.le_of_ble_eq_true rfl⟩ (fun x63 M63 h63 => ?_)
      refine g_iret dX6_table_66 ⟨_, rfl, ?_⟩
      have hf : (readF (txOf (yH y q)) 160 0 0 (yN y)).1 = false := by
        cases hf : (readF (txOf (yH y q)) 160 0 0 (yN y)).1
        · rfl
        · exact absurd (f1 hf).2.1 c_57
      have e5 : setF y (M37.1 (B + 53) 6) = setF y (nI (readF (txOf (yH y q)) 160 0 0 (yN y)).2.1) := by rw [f2 hf]
      rw [if_neg (by rw [hf]; decide), ← e5]
      exact ⟨h63.1, h63.2.1, ho, Sm.tr (Sm.tr (Sm.tr (t2.up (by omega) (by omega)) (f3.up (by omega) (by omega))) (g3.up (by omega) (by omega))) (h63.2.2.up (by omega) (by omega))⟩
  · refine g_aload_n dX6_table_10 rfl rfl ?_
    refine g_iload_n dX6_table_11 rfl rfl ?_
    refine g_callVi dX6_table_12 mi_X6_refused ml_X6_83 (ct_X6_refused h ho (by omega) (by omega)) rfl rfl rfl rfl (Nat.le_of_ble_eq_true rfl) ⟨lt_r rfl, Nat.le_of_ble_eq_true rfl⟩ (fun x12 M12 h12 => ?_)
    refine g_iret dX6_table_15 ⟨_, rfl, ?_⟩
    exact QY.rf ho (if_pos (by omega)) h12
end X6D
