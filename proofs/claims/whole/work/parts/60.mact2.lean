/-! the model: act -/
section X7N
variable {E : EE} {B : Nat} {M : MM}
theorem ct_soak_a {s : St} {q f : Nat} {x : Int32} {T : Tr} (h : RN B M s) (ho : okSt s) (hq : q < sCn s) (hf : f = (sBs s q).1) (hc : f = 0 ∨ f = 2 ∨ f = 5) (hT : RTm B M T) (hn : T.1 < 900) : Ct E B yX7_soaking cX7_soaking 5 (some .int) 1 [.ref (B + 80), .int (nI q), .int x] M (Ri (fun r M2 => r = sR q (sBs s q).2.1 f x ∧ RTm B M2 (sT f T) ∧ Fk B M M2 [101] [41])) := by
  have hcn := ho.2.2.1
  refine Ct.of2 (own := RX7) (lv := [(0, .ref (B + 80)), (1, .int (nI q)), (2, .int x)]) pn_X7 rfl (Nat.le_of_ble_eq_true rfl) rfl ?_
  refine g_aload_n dX7_soaking_0 rfl rfl ?_
  refine g_getR dX7_soaking_1 fl_X7_29 rfl rfl ?_
  refine g_iload_n dX7_soaking_4 rfl rfl ?_
  refine g_iald dX7_soaking_5 rfl rfl (by omega) ((by rw [hf]; exact (h.1 q hq).1 : _ = nI f)) ?_
  refine g_istore_n dX7_soaking_6 rfl (lt_r rfl) rfl ?_
  refine g_iload_n dX7_soaking_7 rfl rfl ?_
  refine g_bipush dX7_soaking_8 kB_6 ?_
  refine g_icmp_neN (tgt := 19) dX7_soaking_10 (by decide) rfl rfl (by omega) (by omega) (fun c_10 => ?_) (fun c_10 => absurd c_10 (by omega))
  refine g_iload_n dX7_soaking_19 rfl rfl ?_
  refine g_iconst dX7_soaking_20 kI_4 ?_
  refine g_icmp_eqN (tgt := 30) dX7_soaking_21 (by decide) rfl rfl (by omega) (by omega) (fun c_21 => absurd c_21 (by omega)) (fun c_21 => ?_)
  refine g_iload_n dX7_soaking_24 rfl rfl ?_
  refine g_bipush dX7_soaking_25 kB_6 ?_
  refine g_icmp_neN (tgt := 36) dX7_soaking_27 (by decide) rfl rfl (by omega) (by omega) (fun c_27 => ?_) (fun c_27 => absurd c_27 (by omega))
  refine g_iload_n dX7_soaking_36 rfl rfl ?_
  refine g_iconst dX7_soaking_37 kI_1 ?_
  refine g_icmp_eqN (tgt := 46) dX7_soaking_38 (by decide) rfl rfl (by omega) (by omega) (fun c_38 => absurd c_38 (by omega)) (fun c_38 => ?_)
  refine g_iload_n dX7_soaking_41 rfl rfl ?_
  refine g_iconst dX7_soaking_42 kI_3 ?_
  refine g_icmp_neN (tgt := 52) dX7_soaking_43 (by decide) rfl rfl (by omega) (by omega) (fun c_43 => ?_) (fun c_43 => absurd c_43 (by omega))
  refine g_aload_n dX7_soaking_52 rfl rfl ?_
  refine g_bipush dX7_soaking_53 kB_10 ?_
  refine g_callVv dX7_soaking_55 mi_X7_body ml_X7_282 (ct_body (T := T) (b := 10) hT (by omega)) rfl rfl rfl rfl (Nat.le_of_ble_eq_true rfl) ⟨lt_r rfl, Nat.le_of_ble_eq_true rfl⟩ (fun M55 h55 => ?_)
  refine g_iload_n dX7_soaking_58 rfl rfl ?_
  refine g_iload_n dX7_soaking_59 rfl rfl ?_
  refine g_iadd dX7_soaking_60 rfl ?_
  refine g_istore dX7_soaking_61 (lt_r rfl) rfl ?_
  refine g_iload_n dX7_soaking_63 rfl rfl ?_
  refine g_iconst dX7_soaking_64 kI_1 ?_
  refine g_icmp_eqN (tgt := 73) dX7_soaking_65 (by decide) rfl rfl (by omega) (by omega) (fun c_65 => absurd c_65 (by omega)) (fun c_65 => ?_)
  refine g_iload_n dX7_soaking_68 rfl rfl ?_
  refine g_iconst dX7_soaking_69 kI_3 ?_
  refine g_icmp_neN (tgt := 84) dX7_soaking_70 (by decide) rfl rfl (by omega) (by omega) (fun c_70 => ?_) (fun c_70 => absurd c_70 (by omega))
  refine g_iload_n dX7_soaking_84 rfl rfl ?_
  refine g_iconst dX7_soaking_85 kI_4 ?_
  refine g_icmp_eqN (tgt := 95) dX7_soaking_86 (by decide) rfl rfl (by omega) (by omega) (fun c_86 => absurd c_86 (by omega)) (fun c_86 => ?_)
  refine g_iload_n dX7_soaking_89 rfl rfl ?_
  refine g_bipush dX7_soaking_90 kB_6 ?_
  refine g_icmp_neN (tgt := 101) dX7_soaking_92 (by decide) rfl rfl (by omega) (by omega) (fun c_92 => ?_) (fun c_92 => absurd c_92 (by omega))
  refine g_iload_n dX7_soaking_101 rfl rfl ?_
  refine g_bipush dX7_soaking_102 kB_6 ?_
  refine g_icmp_neN (tgt := 114) dX7_soaking_104 (by decide) rfl rfl (by omega) (by omega) (fun c_104 => ?_) (fun c_104 => absurd c_104 (by omega))
  refine g_iload dX7_soaking_114 rfl ?_
  refine g_iret dX7_soaking_116 ⟨_, rfl, ?_⟩
  refine ⟨?_, ?_, h55.2⟩
  · unfold sR
    rw [if_neg (by omega), if_neg (by omega), if_neg (by omega)]
  · unfold sT
    rw [if_neg (by omega), if_neg (by omega), if_neg (by omega)]
    exact h55.1
theorem ct_soak_b {s : St} {q f : Nat} {x : Int32} {T : Tr} (h : RN B M s) (ho : okSt s) (hq : q < sCn s) (hf : f = (sBs s q).1) (hc : f = 1 ∨ f = 3) (hT : RTm B M T) (hn : T.1 < 900) : Ct E B yX7_soaking cX7_soaking 5 (some .int) 1 [.ref (B + 80), .int (nI q), .int x] M (Ri (fun r M2 => r = sR q (sBs s q).2.1 f x ∧ RTm B M2 (sT f T) ∧ Fk B M M2 [101] [41])) := by
  have hcn := ho.2.2.1
  refine Ct.of2 (own := RX7) (lv := [(0, .ref (B + 80)), (1, .int (nI q)), (2, .int x)]) pn_X7 rfl (Nat.le_of_ble_eq_true rfl) rfl ?_
  refine g_aload_n dX7_soaking_0 rfl rfl ?_
  refine g_getR dX7_soaking_1 fl_X7_29 rfl rfl ?_
  refine g_iload_n dX7_soaking_4 rfl rfl ?_
  refine g_iald dX7_soaking_5 rfl rfl (by omega) ((by rw [hf]; exact (h.1 q hq).1 : _ = nI f)) ?_
  refine g_istore_n dX7_soaking_6 rfl (lt_r rfl) rfl ?_
  refine g_iload_n dX7_soaking_7 rfl rfl ?_
  refine g_bipush dX7_soaking_8 kB_6 ?_
  refine g_icmp_neN (tgt := 19) dX7_soaking_10 (by decide) rfl rfl (by omega) (by omega) (fun c_10 => ?_) (fun c_10 => absurd c_10 (by omega))
  refine g_iload_n dX7_soaking_19 rfl rfl ?_
  refine g_iconst dX7_soaking_20 kI_4 ?_
  refine g_icmp_eqN (tgt := 30) dX7_soaking_21 (by decide) rfl rfl (by omega) (by omega) (fun c_21 => absurd c_21 (by omega)) (fun c_21 => ?_)
  refine g_iload_n dX7_soaking_24 rfl rfl ?_
  refine g_bipush dX7_soaking_25 kB_6 ?_
  refine g_icmp_neN (tgt := 36) dX7_soaking_27 (by decide) rfl rfl (by omega) (by omega) (fun c_27 => ?_) (fun c_27 => absurd c_27 (by omega))
  refine g_iload_n dX7_soaking_36 rfl rfl ?_
  refine g_iconst dX7_soaking_37 kI_1 ?_
  refine g_icmp_eqN (tgt := 46) dX7_soaking_38 (by decide) rfl rfl (by omega) (by omega) (fun c_38 => ?_) (fun c_38 => ?_)
  · refine g_aload_n dX7_soaking_46 rfl rfl ?_
    refine g_bipush dX7_soaking_47 kB_20 ?_
    refine g_callVv dX7_soaking_49 mi_X7_body ml_X7_282 (ct_body (T := T) (b := 20) hT (by omega)) rfl rfl rfl rfl (Nat.le_of_ble_eq_true rfl) ⟨lt_r rfl, Nat.le_of_ble_eq_true rfl⟩ (fun M49 h49 => ?_)
    refine g_aload_n dX7_soaking_52 rfl rfl ?_
    refine g_bipush dX7_soaking_53 kB_10 ?_
    refine g_callVv dX7_soaking_55 mi_X7_body ml_X7_282 (ct_body (T := (tb T 20)) (b := 10) h49.1 (by show T.1 + 1 < 1000; omega)) rfl rfl rfl rfl (Nat.le_of_ble_eq_true rfl) ⟨lt_r rfl, Nat.le_of_ble_eq_true rfl⟩ (fun M55 h55 => ?_)
    refine g_iload_n dX7_soaking_58 rfl rfl ?_
    refine g_iload_n dX7_soaking_59 rfl rfl ?_
    refine g_iadd dX7_soaking_60 rfl ?_
    refine g_istore dX7_soaking_61 (lt_r rfl) rfl ?_
    refine g_iload_n dX7_soaking_63 rfl rfl ?_
    refine g_iconst dX7_soaking_64 kI_1 ?_
    refine g_icmp_eqN (tgt := 73) dX7_soaking_65 (by decide) rfl rfl (by omega) (by omega) (fun c_65 => ?_) (fun c_65 => ?_)
    · refine g_iload dX7_soaking_73 rfl ?_
      refine g_aload_n dX7_soaking_75 rfl rfl ?_
      refine g_getR dX7_soaking_76 fl_X7_32 rfl rfl ?_
      refine g_iload_n dX7_soaking_79 rfl rfl ?_
      refine g_iald dX7_soaking_80 rfl rfl (by omega) ((congrFun ((h49.2.tr h55.2).i (by decide) (by decide)) _).trans (h.1 q hq).2.1) ?_
      refine g_iadd dX7_soaking_81 rfl ?_
      refine g_istore dX7_soaking_82 (lt_r rfl) rfl ?_
      refine g_iload_n dX7_soaking_84 rfl rfl ?_
      refine g_iconst dX7_soaking_85 kI_4 ?_
      refine g_icmp_eqN (tgt := 95) dX7_soaking_86 (by decide) rfl rfl (by omega) (by omega) (fun c_86 => absurd c_86 (by omega)) (fun c_86 => ?_)
      refine g_iload_n dX7_soaking_89 rfl rfl ?_
      refine g_bipush dX7_soaking_90 kB_6 ?_
      refine g_icmp_neN (tgt := 101) dX7_soaking_92 (by decide) rfl rfl (by omega) (by omega) (fun c_92 => ?_) (fun c_92 => absurd c_92 (by omega))
      refine g_iload_n dX7_soaking_101 rfl rfl ?_
      refine g_bipush dX7_soaking_102 kB_6 ?_
      refine g_icmp_neN (tgt := 114) dX7_soaking_104 (by decide) rfl rfl (by omega) (by omega) (fun c_104 => ?_) (fun c_104 => absurd c_104 (by omega))
      refine g_iload dX7_soaking_114 rfl ?_
      refine g_iret dX7_soaking_116 ⟨_, rfl, ?_⟩
      refine ⟨?_, ?_, (h49.2.tr h55.2)⟩
      · unfold sR
        rw [if_pos (by omega)]
      · unfold sT
        rw [if_pos (by omega)]
        exact h55.1
    · refine g_iload_n dX7_soaking_68 rfl rfl ?_
      refine g_iconst dX7_soaking_69 kI_3 ?_
      refine g_icmp_neN (tgt := 84) dX7_soaking_70 (by decide) rfl rfl (by omega) (by omega) (fun c_70 => absurd c_70 (by omega)) (fun c_70 => ?_)
      refine g_iload dX7_soaking_73 rfl ?_
      refine g_aload_n dX7_soaking_75 rfl rfl ?_
      refine g_getR dX7_soaking_76 fl_X7_32 rfl rfl ?_
      refine g_iload_n dX7_soaking_79 rfl rfl ?_
      refine g_iald dX7_soaking_80 rfl rfl (by omega) ((congrFun ((h49.2.tr h55.2).i (by decide) (by decide)) _).trans (h.1 q hq).2.1) ?_
      refine g_iadd dX7_soaking_81 rfl ?_
      refine g_istore dX7_soaking_82 (lt_r rfl) rfl ?_
      refine g_iload_n dX7_soaking_84 rfl rfl ?_
      refine g_iconst dX7_soaking_85 kI_4 ?_
      refine g_icmp_eqN (tgt := 95) dX7_soaking_86 (by decide) rfl rfl (by omega) (by omega) (fun c_86 => absurd c_86 (by omega)) (fun c_86 => ?_)
      refine g_iload_n dX7_soaking_89 rfl rfl ?_
      refine g_bipush dX7_soaking_90 kB_6 ?_
      refine g_icmp_neN (tgt := 101) dX7_soaking_92 (by decide) rfl rfl (by omega) (by omega) (fun c_92 => ?_) (fun c_92 => absurd c_92 (by omega))
      refine g_iload_n dX7_soaking_101 rfl rfl ?_
      refine g_bipush dX7_soaking_102 kB_6 ?_
      refine g_icmp_neN (tgt := 114) dX7_soaking_104 (by decide) rfl rfl (by omega) (by omega) (fun c_104 => ?_) (fun c_104 => absurd c_104 (by omega))
      refine g_iload dX7_soaking_114 rfl ?_
      refine g_iret dX7_soaking_116 ⟨_, rfl, ?_⟩
      refine ⟨?_, ?_, (h49.2.tr h55.2)⟩
      · unfold sR
        rw [if_pos (by omega)]
      · unfold sT
        rw [if_pos (by omega)]
        exact h55.1
  · refine g_iload_n dX7_soaking_41 rfl rfl ?_
    refine g_iconst dX7_soaking_42 kI_3 ?_
    refine g_icmp_neN (tgt := 52) dX7_soaking_43 (by decide) rfl rfl (by omega) (by omega) (fun c_43 => absurd c_43 (by omega)) (fun c_43 => ?_)
    refine g_aload_n dX7_soaking_46 rfl rfl ?_
    refine g_bipush dX7_soaking_47 kB_20 ?_
    refine g_callVv dX7_soaking_49 mi_X7_body ml_X7_282 (ct_body (T := T) (b := 20) hT (by omega)) rfl rfl rfl rfl (Nat.le_of_ble_eq_true rfl) ⟨lt_r rfl, Nat.le_of_ble_eq_true rfl⟩ (fun M49 h49 => ?_)
    refine g_aload_n dX7_soaking_52 rfl rfl ?_
    refine g_bipush dX7_soaking_53 kB_10 ?_
    refine g_callVv dX7_soaking_55 mi_X7_body ml_X7_282 (ct_body (T := (tb T 20)) (b := 10) h49.1 (by show T.1 + 1 < 1000; omega)) rfl rfl rfl rfl (Nat.le_of_ble_eq_true rfl) ⟨lt_r rfl, Nat.le_of_ble_eq_true rfl⟩ (fun M55 h55 => ?_)
    refine g_iload_n dX7_soaking_58 rfl rfl ?_
    refine g_iload_n dX7_soaking_59 rfl rfl ?_
    refine g_iadd dX7_soaking_60 rfl ?_
    refine g_istore dX7_soaking_61 (lt_r rfl) rfl ?_
    refine g_iload_n dX7_soaking_63 rfl rfl ?_
    refine g_iconst dX7_soaking_64 kI_1 ?_
    refine g_icmp_eqN (tgt := 73) dX7_soaking_65 (by decide) rfl rfl (by omega) (by omega) (fun c_65 => ?_) (fun c_65 => ?_)
    · refine g_iload dX7_soaking_73 rfl ?_
      refine g_aload_n dX7_soaking_75 rfl rfl ?_
      refine g_getR dX7_soaking_76 fl_X7_32 rfl rfl ?_
      refine g_iload_n dX7_soaking_79 rfl rfl ?_
      refine g_iald dX7_soaking_80 rfl rfl (by omega) ((congrFun ((h49.2.tr h55.2).i (by decide) (by decide)) _).trans (h.1 q hq).2.1) ?_
      refine g_iadd dX7_soaking_81 rfl ?_
      refine g_istore dX7_soaking_82 (lt_r rfl) rfl ?_
      refine g_iload_n dX7_soaking_84 rfl rfl ?_
      refine g_iconst dX7_soaking_85 kI_4 ?_
      refine g_icmp_eqN (tgt := 95) dX7_soaking_86 (by decide) rfl rfl (by omega) (by omega) (fun c_86 => absurd c_86 (by omega)) (fun c_86 => ?_)
      refine g_iload_n dX7_soaking_89 rfl rfl ?_
      refine g_bipush dX7_soaking_90 kB_6 ?_
      refine g_icmp_neN (tgt := 101) dX7_soaking_92 (by decide) rfl rfl (by omega) (by omega) (fun c_92 => ?_) (fun c_92 => absurd c_92 (by omega))
      refine g_iload_n dX7_soaking_101 rfl rfl ?_
      refine g_bipush dX7_soaking_102 kB_6 ?_
      refine g_icmp_neN (tgt := 114) dX7_soaking_104 (by decide) rfl rfl (by omega) (by omega) (fun c_104 => ?_) (fun c_104 => absurd c_104 (by omega))
      refine g_iload dX7_soaking_114 rfl ?_
      refine g_iret dX7_soaking_116 ⟨_, rfl, ?_⟩
      refine ⟨?_, ?_, (h49.2.tr h55.2)⟩
      · unfold sR
        rw [if_pos (by omega)]
      · unfold sT
        rw [if_pos (by omega)]
        exact h55.1
    · refine g_iload_n dX7_soaking_68 rfl rfl ?_
      refine g_iconst dX7_soaking_69 kI_3 ?_
      refine g_icmp_neN (tgt := 84) dX7_soaking_70 (by decide) rfl rfl (by omega) (by omega) (fun c_70 => absurd c_70 (by omega)) (fun c_70 => ?_)
      refine g_iload dX7_soaking_73 rfl ?_
      refine g_aload_n dX7_soaking_75 rfl rfl ?_
      refine g_getR dX7_soaking_76 fl_X7_32 rfl rfl ?_
      refine g_iload_n dX7_soaking_79 rfl rfl ?_
      refine g_iald dX7_soaking_80 rfl rfl (by omega) ((congrFun ((h49.2.tr h55.2).i (by decide) (by decide)) _).trans (h.1 q hq).2.1) ?_
      refine g_iadd dX7_soaking_81 rfl ?_
      refine g_istore dX7_soaking_82 (lt_r rfl) rfl ?_
      refine g_iload_n dX7_soaking_84 rfl rfl ?_
      refine g_iconst dX7_soaking_85 kI_4 ?_
      refine g_icmp_eqN (tgt := 95) dX7_soaking_86 (by decide) rfl rfl (by omega) (by omega) (fun c_86 => absurd c_86 (by omega)) (fun c_86 => ?_)
      refine g_iload_n dX7_soaking_89 rfl rfl ?_
      refine g_bipush dX7_soaking_90 kB_6 ?_
      refine g_icmp_neN (tgt := 101) dX7_soaking_92 (by decide) rfl rfl (by omega) (by omega) (fun c_92 => ?_) (fun c_92 => absurd c_92 (by omega))
      refine g_iload_n dX7_soaking_101 rfl rfl ?_
      refine g_bipush dX7_soaking_102 kB_6 ?_
      refine g_icmp_neN (tgt := 114) dX7_soaking_104 (by decide) rfl rfl (by omega) (by omega) (fun c_104 => ?_) (fun c_104 => absurd c_104 (by omega))
      refine g_iload dX7_soaking_114 rfl ?_
      refine g_iret dX7_soaking_116 ⟨_, rfl, ?_⟩
      refine ⟨?_, ?_, (h49.2.tr h55.2)⟩
      · unfold sR
        rw [if_pos (by omega)]
      · unfold sT
        rw [if_pos (by omega)]
        exact h55.1
theorem ct_soak_c {s : St} {q f : Nat} {x : Int32} {T : Tr} (h : RN B M s) (ho : okSt s) (hq : q < sCn s) (hf : f = (sBs s q).1) (hc : f = 4) (hT : RTm B M T) (hn : T.1 < 900) : Ct E B yX7_soaking cX7_soaking 5 (some .int) 1 [.ref (B + 80), .int (nI q), .int x] M (Ri (fun r M2 => r = sR q (sBs s q).2.1 f x ∧ RTm B M2 (sT f T) ∧ Fk B M M2 [101] [41])) := by
  have hcn := ho.2.2.1
  refine Ct.of2 (own := RX7) (lv := [(0, .ref (B + 80)), (1, .int (nI q)), (2, .int x)]) pn_X7 rfl (Nat.le_of_ble_eq_true rfl) rfl ?_
  refine g_aload_n dX7_soaking_0 rfl rfl ?_
  refine g_getR dX7_soaking_1 fl_X7_29 rfl rfl ?_
  refine g_iload_n dX7_soaking_4 rfl rfl ?_
  refine g_iald dX7_soaking_5 rfl rfl (by omega) ((by rw [hf]; exact (h.1 q hq).1 : _ = nI f)) ?_
  refine g_istore_n dX7_soaking_6 rfl (lt_r rfl) rfl ?_
  refine g_iload_n dX7_soaking_7 rfl rfl ?_
  refine g_bipush dX7_soaking_8 kB_6 ?_
  refine g_icmp_neN (tgt := 19) dX7_soaking_10 (by decide) rfl rfl (by omega) (by omega) (fun c_10 => ?_) (fun c_10 => absurd c_10 (by omega))
  refine g_iload_n dX7_soaking_19 rfl rfl ?_
  refine g_iconst dX7_soaking_20 kI_4 ?_
  refine g_icmp_eqN (tgt := 30) dX7_soaking_21 (by decide) rfl rfl (by omega) (by omega) (fun c_21 => ?_) (fun c_21 => absurd c_21 (by omega))
  refine g_aload_n dX7_soaking_30 rfl rfl ?_
  refine g_bipush dX7_soaking_31 kB_51 ?_
  refine g_callVv dX7_soaking_33 mi_X7_body ml_X7_282 (ct_body (T := T) (b := 51) hT (by omega)) rfl rfl rfl rfl (Nat.le_of_ble_eq_true rfl) ⟨lt_r rfl, Nat.le_of_ble_eq_true rfl⟩ (fun M33 h33 => ?_)
  refine g_iload_n dX7_soaking_36 rfl rfl ?_
  refine g_iconst dX7_soaking_37 kI_1 ?_
  refine g_icmp_eqN (tgt := 46) dX7_soaking_38 (by decide) rfl rfl (by omega) (by omega) (fun c_38 => absurd c_38 (by omega)) (fun c_38 => ?_)
  refine g_iload_n dX7_soaking_41 rfl rfl ?_
  refine g_iconst dX7_soaking_42 kI_3 ?_
  refine g_icmp_neN (tgt := 52) dX7_soaking_43 (by decide) rfl rfl (by omega) (by omega) (fun c_43 => ?_) (fun c_43 => absurd c_43 (by omega))
  refine g_aload_n dX7_soaking_52 rfl rfl ?_
  refine g_bipush dX7_soaking_53 kB_10 ?_
  refine g_callVv dX7_soaking_55 mi_X7_body ml_X7_282 (ct_body (T := (tb T 51)) (b := 10) h33.1 (by show T.1 + 1 < 1000; omega)) rfl rfl rfl rfl (Nat.le_of_ble_eq_true rfl) ⟨lt_r rfl, Nat.le_of_ble_eq_true rfl⟩ (fun M55 h55 => ?_)
  refine g_iload_n dX7_soaking_58 rfl rfl ?_
  refine g_iload_n dX7_soaking_59 rfl rfl ?_
  refine g_iadd dX7_soaking_60 rfl ?_
  refine g_istore dX7_soaking_61 (lt_r rfl) rfl ?_
  refine g_iload_n dX7_soaking_63 rfl rfl ?_
  refine g_iconst dX7_soaking_64 kI_1 ?_
  refine g_icmp_eqN (tgt := 73) dX7_soaking_65 (by decide) rfl rfl (by omega) (by omega) (fun c_65 => absurd c_65 (by omega)) (fun c_65 => ?_)
  refine g_iload_n dX7_soaking_68 rfl rfl ?_
  refine g_iconst dX7_soaking_69 kI_3 ?_
  refine g_icmp_neN (tgt := 84) dX7_soaking_70 (by decide) rfl rfl (by omega) (by omega) (fun c_70 => ?_) (fun c_70 => absurd c_70 (by omega))
  refine g_iload_n dX7_soaking_84 rfl rfl ?_
  refine g_iconst dX7_soaking_85 kI_4 ?_
  refine g_icmp_eqN (tgt := 95) dX7_soaking_86 (by decide) rfl rfl (by omega) (by omega) (fun c_86 => ?_) (fun c_86 => absurd c_86 (by omega))
  refine g_iload dX7_soaking_95 rfl ?_
  refine g_iload_n dX7_soaking_97 rfl rfl ?_
  refine g_isub dX7_soaking_98 rfl ?_
  refine g_istore dX7_soaking_99 (lt_r rfl) rfl ?_
  refine g_iload_n dX7_soaking_101 rfl rfl ?_
  refine g_bipush dX7_soaking_102 kB_6 ?_
  refine g_icmp_neN (tgt := 114) dX7_soaking_104 (by decide) rfl rfl (by omega) (by omega) (fun c_104 => ?_) (fun c_104 => absurd c_104 (by omega))
  refine g_iload dX7_soaking_114 rfl ?_
  refine g_iret dX7_soaking_116 ⟨_, rfl, ?_⟩
  refine ⟨?_, ?_, (h33.2.tr h55.2)⟩
  · unfold sR
    rw [if_neg (by omega), if_pos (by omega)]
  · unfold sT
    rw [if_neg (by omega), if_pos (by omega)]
    exact h55.1
theorem ct_soak_d {s : St} {q f : Nat} {x : Int32} {T : Tr} (h : RN B M s) (ho : okSt s) (hq : q < sCn s) (hf : f = (sBs s q).1) (hc : f = 6) (hT : RTm B M T) (hn : T.1 < 900) : Ct E B yX7_soaking cX7_soaking 5 (some .int) 1 [.ref (B + 80), .int (nI q), .int x] M (Ri (fun r M2 => r = sR q (sBs s q).2.1 f x ∧ RTm B M2 (sT f T) ∧ Fk B M M2 [101] [41])) := by
  have hcn := ho.2.2.1
  refine Ct.of2 (own := RX7) (lv := [(0, .ref (B + 80)), (1, .int (nI q)), (2, .int x)]) pn_X7 rfl (Nat.le_of_ble_eq_true rfl) rfl ?_
  refine g_aload_n dX7_soaking_0 rfl rfl ?_
  refine g_getR dX7_soaking_1 fl_X7_29 rfl rfl ?_
  refine g_iload_n dX7_soaking_4 rfl rfl ?_
  refine g_iald dX7_soaking_5 rfl rfl (by omega) ((by rw [hf]; exact (h.1 q hq).1 : _ = nI f)) ?_
  refine g_istore_n dX7_soaking_6 rfl (lt_r rfl) rfl ?_
  refine g_iload_n dX7_soaking_7 rfl rfl ?_
  refine g_bipush dX7_soaking_8 kB_6 ?_
  refine g_icmp_neN (tgt := 19) dX7_soaking_10 (by decide) rfl rfl (by omega) (by omega) (fun c_10 => absurd c_10 (by omega)) (fun c_10 => ?_)
  refine g_aload_n dX7_soaking_13 rfl rfl ?_
  refine g_bipush dX7_soaking_14 kB_70 ?_
  refine g_callVv dX7_soaking_16 mi_X7_body ml_X7_282 (ct_body (T := T) (b := 70) hT (by omega)) rfl rfl rfl rfl (Nat.le_of_ble_eq_true rfl) ⟨lt_r rfl, Nat.le_of_ble_eq_true rfl⟩ (fun M16 h16 => ?_)
  refine g_iload_n dX7_soaking_19 rfl rfl ?_
  refine g_iconst dX7_soaking_20 kI_4 ?_
  refine g_icmp_eqN (tgt := 30) dX7_soaking_21 (by decide) rfl rfl (by omega) (by omega) (fun c_21 => absurd c_21 (by omega)) (fun c_21 => ?_)
  refine g_iload_n dX7_soaking_24 rfl rfl ?_
  refine g_bipush dX7_soaking_25 kB_6 ?_
  refine g_icmp_neN (tgt := 36) dX7_soaking_27 (by decide) rfl rfl (by omega) (by omega) (fun c_27 => absurd c_27 (by omega)) (fun c_27 => ?_)
  refine g_aload_n dX7_soaking_30 rfl rfl ?_
  refine g_bipush dX7_soaking_31 kB_51 ?_
  refine g_callVv dX7_soaking_33 mi_X7_body ml_X7_282 (ct_body (T := (tb T 70)) (b := 51) h16.1 (by show T.1 + 1 < 1000; omega)) rfl rfl rfl rfl (Nat.le_of_ble_eq_true rfl) ⟨lt_r rfl, Nat.le_of_ble_eq_true rfl⟩ (fun M33 h33 => ?_)
  refine g_iload_n dX7_soaking_36 rfl rfl ?_
  refine g_iconst dX7_soaking_37 kI_1 ?_
  refine g_icmp_eqN (tgt := 46) dX7_soaking_38 (by decide) rfl rfl (by omega) (by omega) (fun c_38 => absurd c_38 (by omega)) (fun c_38 => ?_)
  refine g_iload_n dX7_soaking_41 rfl rfl ?_
  refine g_iconst dX7_soaking_42 kI_3 ?_
  refine g_icmp_neN (tgt := 52) dX7_soaking_43 (by decide) rfl rfl (by omega) (by omega) (fun c_43 => ?_) (fun c_43 => absurd c_43 (by omega))
  refine g_aload_n dX7_soaking_52 rfl rfl ?_
  refine g_bipush dX7_soaking_53 kB_10 ?_
  refine g_callVv dX7_soaking_55 mi_X7_body ml_X7_282 (ct_body (T := (tb (tb T 70) 51)) (b := 10) h33.1 (by show T.1 + 1 + 1 < 1000; omega)) rfl rfl rfl rfl (Nat.le_of_ble_eq_true rfl) ⟨lt_r rfl, Nat.le_of_ble_eq_true rfl⟩ (fun M55 h55 => ?_)
  refine g_iload_n dX7_soaking_58 rfl rfl ?_
  refine g_iload_n dX7_soaking_59 rfl rfl ?_
  refine g_iadd dX7_soaking_60 rfl ?_
  refine g_istore dX7_soaking_61 (lt_r rfl) rfl ?_
  refine g_iload_n dX7_soaking_63 rfl rfl ?_
  refine g_iconst dX7_soaking_64 kI_1 ?_
  refine g_icmp_eqN (tgt := 73) dX7_soaking_65 (by decide) rfl rfl (by omega) (by omega) (fun c_65 => absurd c_65 (by omega)) (fun c_65 => ?_)
  refine g_iload_n dX7_soaking_68 rfl rfl ?_
  refine g_iconst dX7_soaking_69 kI_3 ?_
  refine g_icmp_neN (tgt := 84) dX7_soaking_70 (by decide) rfl rfl (by omega) (by omega) (fun c_70 => ?_) (fun c_70 => absurd c_70 (by omega))
  refine g_iload_n dX7_soaking_84 rfl rfl ?_
  refine g_iconst dX7_soaking_85 kI_4 ?_
  refine g_icmp_eqN (tgt := 95) dX7_soaking_86 (by decide) rfl rfl (by omega) (by omega) (fun c_86 => absurd c_86 (by omega)) (fun c_86 => ?_)
  refine g_iload_n dX7_soaking_89 rfl rfl ?_
  refine g_bipush dX7_soaking_90 kB_6 ?_
  refine g_icmp_neN (tgt := 101) dX7_soaking_92 (by decide) rfl rfl (by omega) (by omega) (fun c_92 => absurd c_92 (by omega)) (fun c_92 => ?_)
  refine g_iload dX7_soaking_95 rfl ?_
  refine g_iload_n dX7_soaking_97 rfl rfl ?_
  refine g_isub dX7_soaking_98 rfl ?_
  refine g_istore dX7_soaking_99 (lt_r rfl) rfl ?_
  refine g_iload_n dX7_soaking_101 rfl rfl ?_
  refine g_bipush dX7_soaking_102 kB_6 ?_
  refine g_icmp_neN (tgt := 114) dX7_soaking_104 (by decide) rfl rfl (by omega) (by omega) (fun c_104 => absurd c_104 (by omega)) (fun c_104 => ?_)
  refine g_iload dX7_soaking_107 rfl ?_
  refine g_iconst dX7_soaking_109 kI_2 ?_
  refine g_imul dX7_soaking_110 rfl ?_
  refine g_goto (tgt := 116) dX7_soaking_111 (by decide) ?_
  refine g_iret dX7_soaking_116 ⟨_, rfl, ?_⟩
  refine ⟨?_, ?_, ((h16.2.tr h33.2).tr h55.2)⟩
  · unfold sR
    rw [if_neg (by omega), if_neg (by omega), if_pos (by omega)]
  · unfold sT
    rw [if_neg (by omega), if_neg (by omega), if_pos (by omega)]
    exact h55.1
theorem ct_soaking {s : St} {q : Nat} {x : Int32} {T : Tr} (h : RN B M s) (ho : okSt s) (hq : q < sCn s) (hT : RTm B M T) (hn : T.1 < 900) : Ct E B yX7_soaking cX7_soaking 5 (some .int) 1 [.ref (B + 80), .int (nI q), .int x] M (Ri (fun r M2 => r = sR q (sBs s q).2.1 (sBs s q).1 x ∧ RTm B M2 (sT (sBs s q).1 T) ∧ Fk B M M2 [101] [41])) := by
  have o1 := (ho.1 q hq).1
  rcases (show ((sBs s q).1 = 0 ∨ (sBs s q).1 = 2 ∨ (sBs s q).1 = 5) ∨ ((sBs s q).1 = 1 ∨ (sBs s q).1 = 3) ∨ (sBs s q).1 = 4 ∨ (sBs s q).1 = 6 by omega) with c | c | c | c
  · exact ct_soak_a h ho hq rfl c hT hn
  · exact ct_soak_b h ho hq rfl c hT hn
  · exact ct_soak_c h ho hq rfl c hT hn
  · exact ct_soak_d h ho hq rfl c hT hn
theorem ct_creep_a {s : St} {q f : Nat} {x : Int32} {T : Tr} (h : RN B M s) (ho : okSt s) (hq : q < sCn s) (hf : f = (sBs s q).1) (hc : f = 0 ∨ f = 1 ∨ f = 4) (hT : RTm B M T) (hn : T.1 < 800) : Ct E B yX7_creeping cX7_creeping 7 (some .int) 2 [.ref (B + 80), .int (nI q), .int x] M (Ri (fun r M2 => r = cR (sBs s q).1 q (sBs s q).2.1 f x ∧ RTm B M2 (cT (sBs s q).1 f T) ∧ Fk B M M2 [101] [41])) := by
  have hcn := ho.2.2.1
  refine Ct.of2 (own := RX7) (lv := [(0, .ref (B + 80)), (1, .int (nI q)), (2, .int x)]) pn_X7 rfl (Nat.le_of_ble_eq_true rfl) rfl ?_
  refine g_aload_n dX7_creeping_0 rfl rfl ?_
  refine g_getR dX7_creeping_1 fl_X7_29 rfl rfl ?_
  refine g_iload_n dX7_creeping_4 rfl rfl ?_
  refine g_iald dX7_creeping_5 rfl rfl (by omega) ((by rw [hf]; exact (h.1 q hq).1 : _ = nI f)) ?_
  refine g_istore_n dX7_creeping_6 rfl (lt_r rfl) rfl ?_
  refine g_iload_n dX7_creeping_7 rfl rfl ?_
  refine g_istore dX7_creeping_8 (lt_r rfl) rfl ?_
  refine g_iload_n dX7_creeping_10 rfl rfl ?_
  refine g_bipush dX7_creeping_11 kB_6 ?_
  refine g_icmp_neN (tgt := 32) dX7_creeping_13 (by decide) rfl rfl (by omega) (by omega) (fun c_13 => ?_) (fun c_13 => absurd c_13 (by omega))
  refine g_iload_n dX7_creeping_32 rfl rfl ?_
  refine g_iconst dX7_creeping_33 kI_3 ?_
  refine g_icmp_neN (tgt := 48) dX7_creeping_34 (by decide) rfl rfl (by omega) (by omega) (fun c_34 => ?_) (fun c_34 => absurd c_34 (by omega))
  refine g_iload_n dX7_creeping_48 rfl rfl ?_
  refine g_iconst dX7_creeping_49 kI_2 ?_
  refine g_icmp_eqN (tgt := 58) dX7_creeping_50 (by decide) rfl rfl (by omega) (by omega) (fun c_50 => absurd c_50 (by omega)) (fun c_50 => ?_)
  refine g_iload_n dX7_creeping_53 rfl rfl ?_
  refine g_iconst dX7_creeping_54 kI_5 ?_
  refine g_icmp_neN (tgt := 62) dX7_creeping_55 (by decide) rfl rfl (by omega) (by omega) (fun c_55 => ?_) (fun c_55 => absurd c_55 (by omega))
  refine g_iconst dX7_creeping_62 kI_0 ?_
  refine g_istore dX7_creeping_63 (lt_r rfl) rfl ?_
  refine g_iload dX7_creeping_65 rfl ?_
  refine g_if_eqN (tgt := 76) dX7_creeping_67 (by decide) rfl (by omega) (fun c_67 => ?_) (fun c_67 => absurd c_67 (by omega))
  refine g_aload_n dX7_creeping_76 rfl rfl ?_
  refine g_bipush dX7_creeping_77 kB_11 ?_
  refine g_callVv dX7_creeping_79 mi_X7_body ml_X7_282 (ct_body (T := T) (b := 11) hT (by omega)) rfl rfl rfl rfl (Nat.le_of_ble_eq_true rfl) ⟨lt_r rfl, Nat.le_of_ble_eq_true rfl⟩ (fun M79 h79 => ?_)
  refine g_aload_n dX7_creeping_82 rfl rfl ?_
  refine g_iload_n dX7_creeping_83 rfl rfl ?_
  refine g_iload dX7_creeping_84 rfl ?_
  refine g_callVi dX7_creeping_86 mi_X7_soaking ml_X7_285 (ct_soaking (T := (tb T 11)) (h.fk h79.2 (by decide) (by decide)) ho hq h79.1 (by show T.1 + 1 < 900; omega)) rfl rfl rfl rfl (Nat.le_of_ble_eq_true rfl) ⟨lt_r rfl, Nat.le_of_ble_eq_true rfl⟩ (fun x86 M86 h86 => ?_)
  obtain ⟨rfl, g1, g2⟩ := h86
  refine g_iconst dX7_creeping_89 kI_2 ?_
  refine g_imul dX7_creeping_90 rfl ?_
  refine g_istore dX7_creeping_91 (lt_r rfl) rfl ?_
  refine g_iload dX7_creeping_93 rfl ?_
  refine g_if_eqN (tgt := 105) dX7_creeping_95 (by decide) rfl (by omega) (fun c_95 => ?_) (fun c_95 => absurd c_95 (by omega))
  refine g_iload dX7_creeping_105 rfl ?_
  refine g_iret dX7_creeping_107 ⟨_, rfl, ?_⟩
  refine ⟨?_, ?_, h79.2.tr g2⟩
  · unfold cR
    rw [if_neg (by omega), if_neg (by omega), if_neg (by omega)]
    all_goals first | rfl | (rw [hf])
  · unfold cT
    rw [if_neg (by omega), if_neg (by omega), if_neg (by omega)]
    exact g1
theorem ct_creep_b {s : St} {q f : Nat} {x : Int32} {T : Tr} (h : RN B M s) (ho : okSt s) (hq : q < sCn s) (hf : f = (sBs s q).1) (hc : f = 2 ∨ f = 5) (hT : RTm B M T) (hn : T.1 < 800) : Ct E B yX7_creeping cX7_creeping 7 (some .int) 2 [.ref (B + 80), .int (nI q), .int x] M (Ri (fun r M2 => r = cR (sBs s q).1 q (sBs s q).2.1 f x ∧ RTm B M2 (cT (sBs s q).1 f T) ∧ Fk B M M2 [101] [41])) := by
  have hcn := ho.2.2.1
  refine Ct.of2 (own := RX7) (lv := [(0, .ref (B + 80)), (1, .int (nI q)), (2, .int x)]) pn_X7 rfl (Nat.le_of_ble_eq_true rfl) rfl ?_
  refine g_aload_n dX7_creeping_0 rfl rfl ?_
  refine g_getR dX7_creeping_1 fl_X7_29 rfl rfl ?_
  refine g_iload_n dX7_creeping_4 rfl rfl ?_
  refine g_iald dX7_creeping_5 rfl rfl (by omega) ((by rw [hf]; exact (h.1 q hq).1 : _ = nI f)) ?_
  refine g_istore_n dX7_creeping_6 rfl (lt_r rfl) rfl ?_
  refine g_iload_n dX7_creeping_7 rfl rfl ?_
  refine g_istore dX7_creeping_8 (lt_r rfl) rfl ?_
  refine g_iload_n dX7_creeping_10 rfl rfl ?_
  refine g_bipush dX7_creeping_11 kB_6 ?_
  refine g_icmp_neN (tgt := 32) dX7_creeping_13 (by decide) rfl rfl (by omega) (by omega) (fun c_13 => ?_) (fun c_13 => absurd c_13 (by omega))
  refine g_iload_n dX7_creeping_32 rfl rfl ?_
  refine g_iconst dX7_creeping_33 kI_3 ?_
  refine g_icmp_neN (tgt := 48) dX7_creeping_34 (by decide) rfl rfl (by omega) (by omega) (fun c_34 => ?_) (fun c_34 => absurd c_34 (by omega))
  refine g_iload_n dX7_creeping_48 rfl rfl ?_
  refine g_iconst dX7_creeping_49 kI_2 ?_
  refine g_icmp_eqN (tgt := 58) dX7_creeping_50 (by decide) rfl rfl (by omega) (by omega) (fun c_50 => ?_) (fun c_50 => ?_)
  · refine g_iconst dX7_creeping_58 kI_1 ?_
    refine g_goto (tgt := 63) dX7_creeping_59 (by decide) ?_
    refine g_istore dX7_creeping_63 (lt_r rfl) rfl ?_
    refine g_iload dX7_creeping_65 rfl ?_
    refine g_if_eqN (tgt := 76) dX7_creeping_67 (by decide) rfl (by omega) (fun c_67 => absurd c_67 (by omega)) (fun c_67 => ?_)
    refine g_aload_n dX7_creeping_70 rfl rfl ?_
    refine g_bipush dX7_creeping_71 kB_30 ?_
    refine g_callVv dX7_creeping_73 mi_X7_body ml_X7_282 (ct_body (T := T) (b := 30) hT (by omega)) rfl rfl rfl rfl (Nat.le_of_ble_eq_true rfl) ⟨lt_r rfl, Nat.le_of_ble_eq_true rfl⟩ (fun M73 h73 => ?_)
    refine g_aload_n dX7_creeping_76 rfl rfl ?_
    refine g_bipush dX7_creeping_77 kB_11 ?_
    refine g_callVv dX7_creeping_79 mi_X7_body ml_X7_282 (ct_body (T := (tb T 30)) (b := 11) h73.1 (by show T.1 + 1 < 1000; omega)) rfl rfl rfl rfl (Nat.le_of_ble_eq_true rfl) ⟨lt_r rfl, Nat.le_of_ble_eq_true rfl⟩ (fun M79 h79 => ?_)
    refine g_aload_n dX7_creeping_82 rfl rfl ?_
    refine g_iload_n dX7_creeping_83 rfl rfl ?_
    refine g_iload dX7_creeping_84 rfl ?_
    refine g_callVi dX7_creeping_86 mi_X7_soaking ml_X7_285 (ct_soaking (T := (tb (tb T 30) 11)) (h.fk (h73.2.tr h79.2) (by decide) (by decide)) ho hq h79.1 (by show T.1 + 1 + 1 < 900; omega)) rfl rfl rfl rfl (Nat.le_of_ble_eq_true rfl) ⟨lt_r rfl, Nat.le_of_ble_eq_true rfl⟩ (fun x86 M86 h86 => ?_)
    obtain ⟨rfl, g1, g2⟩ := h86
    refine g_iconst dX7_creeping_89 kI_2 ?_
    refine g_imul dX7_creeping_90 rfl ?_
    refine g_istore dX7_creeping_91 (lt_r rfl) rfl ?_
    refine g_iload dX7_creeping_93 rfl ?_
    refine g_if_eqN (tgt := 105) dX7_creeping_95 (by decide) rfl (by omega) (fun c_95 => absurd c_95 (by omega)) (fun c_95 => ?_)
    refine g_iload dX7_creeping_98 rfl ?_
    refine g_iconst dX7_creeping_100 kI_3 ?_
    refine g_imul dX7_creeping_101 rfl ?_
    refine g_goto (tgt := 107) dX7_creeping_102 (by decide) ?_
    refine g_iret dX7_creeping_107 ⟨_, rfl, ?_⟩
    refine ⟨?_, ?_, (h73.2.tr h79.2).tr g2⟩
    · unfold cR
      rw [if_pos (by omega)]
      all_goals first | rfl | (rw [hf])
    · unfold cT
      rw [if_pos (by omega)]
      exact g1
  · refine g_iload_n dX7_creeping_53 rfl rfl ?_
    refine g_iconst dX7_creeping_54 kI_5 ?_
    refine g_icmp_neN (tgt := 62) dX7_creeping_55 (by decide) rfl rfl (by omega) (by omega) (fun c_55 => absurd c_55 (by omega)) (fun c_55 => ?_)
    refine g_iconst dX7_creeping_58 kI_1 ?_
    refine g_goto (tgt := 63) dX7_creeping_59 (by decide) ?_
    refine g_istore dX7_creeping_63 (lt_r rfl) rfl ?_
    refine g_iload dX7_creeping_65 rfl ?_
    refine g_if_eqN (tgt := 76) dX7_creeping_67 (by decide) rfl (by omega) (fun c_67 => absurd c_67 (by omega)) (fun c_67 => ?_)
    refine g_aload_n dX7_creeping_70 rfl rfl ?_
    refine g_bipush dX7_creeping_71 kB_30 ?_
    refine g_callVv dX7_creeping_73 mi_X7_body ml_X7_282 (ct_body (T := T) (b := 30) hT (by omega)) rfl rfl rfl rfl (Nat.le_of_ble_eq_true rfl) ⟨lt_r rfl, Nat.le_of_ble_eq_true rfl⟩ (fun M73 h73 => ?_)
    refine g_aload_n dX7_creeping_76 rfl rfl ?_
    refine g_bipush dX7_creeping_77 kB_11 ?_
    refine g_callVv dX7_creeping_79 mi_X7_body ml_X7_282 (ct_body (T := (tb T 30)) (b := 11) h73.1 (by show T.1 + 1 < 1000; omega)) rfl rfl rfl rfl (Nat.le_of_ble_eq_true rfl) ⟨lt_r rfl, Nat.le_of_ble_eq_true rfl⟩ (fun M79 h79 => ?_)
    refine g_aload_n dX7_creeping_82 rfl rfl ?_
    refine g_iload_n dX7_creeping_83 rfl rfl ?_
    refine g_iload dX7_creeping_84 rfl ?_
    refine g_callVi dX7_creeping_86 mi_X7_soaking ml_X7_285 (ct_soaking (T := (tb (tb T 30) 11)) (h.fk (h73.2.tr h79.2) (by decide) (by decide)) ho hq h79.1 (by show T.1 + 1 + 1 < 900; omega)) rfl rfl rfl rfl (Nat.le_of_ble_eq_true rfl) ⟨lt_r rfl, Nat.le_of_ble_eq_true rfl⟩ (fun x86 M86 h86 => ?_)
    obtain ⟨rfl, g1, g2⟩ := h86
    refine g_iconst dX7_creeping_89 kI_2 ?_
    refine g_imul dX7_creeping_90 rfl ?_
    refine g_istore dX7_creeping_91 (lt_r rfl) rfl ?_
    refine g_iload dX7_creeping_93 rfl ?_
    refine g_if_eqN (tgt := 105) dX7_creeping_95 (by decide) rfl (by omega) (fun c_95 => absurd c_95 (by omega)) (fun c_95 => ?_)
    refine g_iload dX7_creeping_98 rfl ?_
    refine g_iconst dX7_creeping_100 kI_3 ?_
    refine g_imul dX7_creeping_101 rfl ?_
    refine g_goto (tgt := 107) dX7_creeping_102 (by decide) ?_
    refine g_iret dX7_creeping_107 ⟨_, rfl, ?_⟩
    refine ⟨?_, ?_, (h73.2.tr h79.2).tr g2⟩
    · unfold cR
      rw [if_pos (by omega)]
      all_goals first | rfl | (rw [hf])
    · unfold cT
      rw [if_pos (by omega)]
      exact g1
theorem ct_creep_c {s : St} {q f : Nat} {x : Int32} {T : Tr} (h : RN B M s) (ho : okSt s) (hq : q < sCn s) (hf : f = (sBs s q).1) (hc : f = 3) (hT : RTm B M T) (hn : T.1 < 800) : Ct E B yX7_creeping cX7_creeping 7 (some .int) 2 [.ref (B + 80), .int (nI q), .int x] M (Ri (fun r M2 => r = cR (sBs s q).1 q (sBs s q).2.1 f x ∧ RTm B M2 (cT (sBs s q).1 f T) ∧ Fk B M M2 [101] [41])) := by
  have hcn := ho.2.2.1
  refine Ct.of2 (own := RX7) (lv := [(0, .ref (B + 80)), (1, .int (nI q)), (2, .int x)]) pn_X7 rfl (Nat.le_of_ble_eq_true rfl) rfl ?_
  refine g_aload_n dX7_creeping_0 rfl rfl ?_
  refine g_getR dX7_creeping_1 fl_X7_29 rfl rfl ?_
  refine g_iload_n dX7_creeping_4 rfl rfl ?_
  refine g_iald dX7_creeping_5 rfl rfl (by omega) ((by rw [hf]; exact (h.1 q hq).1 : _ = nI f)) ?_
  refine g_istore_n dX7_creeping_6 rfl (lt_r rfl) rfl ?_
  refine g_iload_n dX7_creeping_7 rfl rfl ?_
  refine g_istore dX7_creeping_8 (lt_r rfl) rfl ?_
  refine g_iload_n dX7_creeping_10 rfl rfl ?_
  refine g_bipush dX7_creeping_11 kB_6 ?_
  refine g_icmp_neN (tgt := 32) dX7_creeping_13 (by decide) rfl rfl (by omega) (by omega) (fun c_13 => ?_) (fun c_13 => absurd c_13 (by omega))
  refine g_iload_n dX7_creeping_32 rfl rfl ?_
  refine g_iconst dX7_creeping_33 kI_3 ?_
  refine g_icmp_neN (tgt := 48) dX7_creeping_34 (by decide) rfl rfl (by omega) (by omega) (fun c_34 => absurd c_34 (by omega)) (fun c_34 => ?_)
  refine g_aload_n dX7_creeping_37 rfl rfl ?_
  refine g_bipush dX7_creeping_38 kB_40 ?_
  refine g_callVv dX7_creeping_40 mi_X7_body ml_X7_282 (ct_body (T := T) (b := 40) hT (by omega)) rfl rfl rfl rfl (Nat.le_of_ble_eq_true rfl) ⟨lt_r rfl, Nat.le_of_ble_eq_true rfl⟩ (fun M40 h40 => ?_)
  refine g_iload_n dX7_creeping_43 rfl rfl ?_
  refine g_iconst dX7_creeping_44 kI_1 ?_
  refine g_iadd dX7_creeping_45 rfl ?_
  refine g_istore dX7_creeping_46 (lt_r rfl) rfl ?_
  refine g_iload_n dX7_creeping_48 rfl rfl ?_
  refine g_iconst dX7_creeping_49 kI_2 ?_
  refine g_icmp_eqN (tgt := 58) dX7_creeping_50 (by decide) rfl rfl (by omega) (by omega) (fun c_50 => absurd c_50 (by omega)) (fun c_50 => ?_)
  refine g_iload_n dX7_creeping_53 rfl rfl ?_
  refine g_iconst dX7_creeping_54 kI_5 ?_
  refine g_icmp_neN (tgt := 62) dX7_creeping_55 (by decide) rfl rfl (by omega) (by omega) (fun c_55 => ?_) (fun c_55 => absurd c_55 (by omega))
  refine g_iconst dX7_creeping_62 kI_0 ?_
  refine g_istore dX7_creeping_63 (lt_r rfl) rfl ?_
  refine g_iload dX7_creeping_65 rfl ?_
  refine g_if_eqN (tgt := 76) dX7_creeping_67 (by decide) rfl (by omega) (fun c_67 => ?_) (fun c_67 => absurd c_67 (by omega))
  refine g_aload_n dX7_creeping_76 rfl rfl ?_
  refine g_bipush dX7_creeping_77 kB_11 ?_
  refine g_callVv dX7_creeping_79 mi_X7_body ml_X7_282 (ct_body (T := (tb T 40)) (b := 11) h40.1 (by show T.1 + 1 < 1000; omega)) rfl rfl rfl rfl (Nat.le_of_ble_eq_true rfl) ⟨lt_r rfl, Nat.le_of_ble_eq_true rfl⟩ (fun M79 h79 => ?_)
  refine g_aload_n dX7_creeping_82 rfl rfl ?_
  refine g_iload_n dX7_creeping_83 rfl rfl ?_
  refine g_iload dX7_creeping_84 rfl ?_
  refine g_callVi dX7_creeping_86 mi_X7_soaking ml_X7_285 (ct_soaking (T := (tb (tb T 40) 11)) (h.fk (h40.2.tr h79.2) (by decide) (by decide)) ho hq h79.1 (by show T.1 + 1 + 1 < 900; omega)) rfl rfl rfl rfl (Nat.le_of_ble_eq_true rfl) ⟨lt_r rfl, Nat.le_of_ble_eq_true rfl⟩ (fun x86 M86 h86 => ?_)
  obtain ⟨rfl, g1, g2⟩ := h86
  refine g_iconst dX7_creeping_89 kI_2 ?_
  refine g_imul dX7_creeping_90 rfl ?_
  refine g_istore dX7_creeping_91 (lt_r rfl) rfl ?_
  refine g_iload dX7_creeping_93 rfl ?_
  refine g_if_eqN (tgt := 105) dX7_creeping_95 (by decide) rfl (by omega) (fun c_95 => ?_) (fun c_95 => absurd c_95 (by omega))
  refine g_iload dX7_creeping_105 rfl ?_
  refine g_iret dX7_creeping_107 ⟨_, rfl, ?_⟩
  refine ⟨?_, ?_, (h40.2.tr h79.2).tr g2⟩
  · unfold cR
    rw [if_neg (by omega), if_pos (by omega)]
    all_goals first | rfl | (rw [hf])
  · unfold cT
    rw [if_neg (by omega), if_pos (by omega)]
    exact g1
theorem ct_creep_d {s : St} {q f : Nat} {x : Int32} {T : Tr} (h : RN B M s) (ho : okSt s) (hq : q < sCn s) (hf : f = (sBs s q).1) (hc : f = 6) (hT : RTm B M T) (hn : T.1 < 800) : Ct E B yX7_creeping cX7_creeping 7 (some .int) 2 [.ref (B + 80), .int (nI q), .int x] M (Ri (fun r M2 => r = cR (sBs s q).1 q (sBs s q).2.1 f x ∧ RTm B M2 (cT (sBs s q).1 f T) ∧ Fk B M M2 [101] [41])) := by
  have hcn := ho.2.2.1
  refine Ct.of2 (own := RX7) (lv := [(0, .ref (B + 80)), (1, .int (nI q)), (2, .int x)]) pn_X7 rfl (Nat.le_of_ble_eq_true rfl) rfl ?_
  refine g_aload_n dX7_creeping_0 rfl rfl ?_
  refine g_getR dX7_creeping_1 fl_X7_29 rfl rfl ?_
  refine g_iload_n dX7_creeping_4 rfl rfl ?_
  refine g_iald dX7_creeping_5 rfl rfl (by omega) ((by rw [hf]; exact (h.1 q hq).1 : _ = nI f)) ?_
  refine g_istore_n dX7_creeping_6 rfl (lt_r rfl) rfl ?_
  refine g_iload_n dX7_creeping_7 rfl rfl ?_
  refine g_istore dX7_creeping_8 (lt_r rfl) rfl ?_
  refine g_iload_n dX7_creeping_10 rfl rfl ?_
  refine g_bipush dX7_creeping_11 kB_6 ?_
  refine g_icmp_neN (tgt := 32) dX7_creeping_13 (by decide) rfl rfl (by omega) (by omega) (fun c_13 => absurd c_13 (by omega)) (fun c_13 => ?_)
  refine g_aload_n dX7_creeping_16 rfl rfl ?_
  refine g_bipush dX7_creeping_17 kB_71 ?_
  refine g_callVv dX7_creeping_19 mi_X7_body ml_X7_282 (ct_body (T := T) (b := 71) hT (by omega)) rfl rfl rfl rfl (Nat.le_of_ble_eq_true rfl) ⟨lt_r rfl, Nat.le_of_ble_eq_true rfl⟩ (fun M19 h19 => ?_)
  refine g_iload_n dX7_creeping_22 rfl rfl ?_
  refine g_aload_n dX7_creeping_23 rfl rfl ?_
  refine g_getR dX7_creeping_24 fl_X7_32 rfl rfl ?_
  refine g_iload_n dX7_creeping_27 rfl rfl ?_
  refine g_iald dX7_creeping_28 rfl rfl (by omega) ((congrFun (h19.2.i (by decide) (by decide)) _).trans (h.1 q hq).2.1) ?_
  refine g_isub dX7_creeping_29 rfl ?_
  refine g_istore dX7_creeping_30 (lt_r rfl) rfl ?_
  refine g_iload_n dX7_creeping_32 rfl rfl ?_
  refine g_iconst dX7_creeping_33 kI_3 ?_
  refine g_icmp_neN (tgt := 48) dX7_creeping_34 (by decide) rfl rfl (by omega) (by omega) (fun c_34 => ?_) (fun c_34 => absurd c_34 (by omega))
  refine g_iload_n dX7_creeping_48 rfl rfl ?_
  refine g_iconst dX7_creeping_49 kI_2 ?_
  refine g_icmp_eqN (tgt := 58) dX7_creeping_50 (by decide) rfl rfl (by omega) (by omega) (fun c_50 => absurd c_50 (by omega)) (fun c_50 => ?_)
  refine g_iload_n dX7_creeping_53 rfl rfl ?_
  refine g_iconst dX7_creeping_54 kI_5 ?_
  refine g_icmp_neN (tgt := 62) dX7_creeping_55 (by decide) rfl rfl (by omega) (by omega) (fun c_55 => ?_) (fun c_55 => absurd c_55 (by omega))
  refine g_iconst dX7_creeping_62 kI_0 ?_
  refine g_istore dX7_creeping_63 (lt_r rfl) rfl ?_
  refine g_iload dX7_creeping_65 rfl ?_
  refine g_if_eqN (tgt := 76) dX7_creeping_67 (by decide) rfl (by omega) (fun c_67 => ?_) (fun c_67 => absurd c_67 (by omega))
  refine g_aload_n dX7_creeping_76 rfl rfl ?_
  refine g_bipush dX7_creeping_77 kB_11 ?_
  refine g_callVv dX7_creeping_79 mi_X7_body ml_X7_282 (ct_body (T := (tb T 71)) (b := 11) h19.1 (by show T.1 + 1 < 1000; omega)) rfl rfl rfl rfl (Nat.le_of_ble_eq_true rfl) ⟨lt_r rfl, Nat.le_of_ble_eq_true rfl⟩ (fun M79 h79 => ?_)
  refine g_aload_n dX7_creeping_82 rfl rfl ?_
  refine g_iload_n dX7_creeping_83 rfl rfl ?_
  refine g_iload dX7_creeping_84 rfl ?_
  refine g_callVi dX7_creeping_86 mi_X7_soaking ml_X7_285 (ct_soaking (T := (tb (tb T 71) 11)) (h.fk (h19.2.tr h79.2) (by decide) (by decide)) ho hq h79.1 (by show T.1 + 1 + 1 < 900; omega)) rfl rfl rfl rfl (Nat.le_of_ble_eq_true rfl) ⟨lt_r rfl, Nat.le_of_ble_eq_true rfl⟩ (fun x86 M86 h86 => ?_)
  obtain ⟨rfl, g1, g2⟩ := h86
  refine g_iconst dX7_creeping_89 kI_2 ?_
  refine g_imul dX7_creeping_90 rfl ?_
  refine g_istore dX7_creeping_91 (lt_r rfl) rfl ?_
  refine g_iload dX7_creeping_93 rfl ?_
  refine g_if_eqN (tgt := 105) dX7_creeping_95 (by decide) rfl (by omega) (fun c_95 => ?_) (fun c_95 => absurd c_95 (by omega))
  refine g_iload dX7_creeping_105 rfl ?_
  refine g_iret dX7_creeping_107 ⟨_, rfl, ?_⟩
  refine ⟨?_, ?_, (h19.2.tr h79.2).tr g2⟩
  · unfold cR
    rw [if_neg (by omega), if_neg (by omega), if_pos (by omega)]
    all_goals first | rfl | (rw [hf])
  · unfold cT
    rw [if_neg (by omega), if_neg (by omega), if_pos (by omega)]
    exact g1
theorem ct_creeping {s : St} {q : Nat} {x : Int32} {T : Tr} (h : RN B M s) (ho : okSt s) (hq : q < sCn s) (hT : RTm B M T) (hn : T.1 < 800) : Ct E B yX7_creeping cX7_creeping 7 (some .int) 2 [.ref (B + 80), .int (nI q), .int x] M (Ri (fun r M2 => r = cR (sBs s q).1 q (sBs s q).2.1 (sBs s q).1 x ∧ RTm B M2 (cT (sBs s q).1 (sBs s q).1 T) ∧ Fk B M M2 [101] [41])) := by
  have o1 := (ho.1 q hq).1
  rcases (show ((sBs s q).1 = 0 ∨ (sBs s q).1 = 1 ∨ (sBs s q).1 = 4) ∨ ((sBs s q).1 = 2 ∨ (sBs s q).1 = 5) ∨ (sBs s q).1 = 3 ∨ (sBs s q).1 = 6 by omega) with c | c | c | c
  · exact ct_creep_a h ho hq rfl c hT hn
  · exact ct_creep_b h ho hq rfl c hT hn
  · exact ct_creep_c h ho hq rfl c hT hn
  · exact ct_creep_d h ho hq rfl c hT hn
theorem ct_break_a {s : St} {q f : Nat} {x : Int32} {T : Tr} (h : RN B M s) (ho : okSt s) (hq : q < sCn s) (hf : f = (sBs s q).1) (hc : f = 0 ∨ f = 1 ∨ f = 2 ∨ f = 3) (hT : RTm B M T) (hn : T.1 < 700) : Ct E B yX7_breaking cX7_breaking 5 (some .int) 3 [.ref (B + 80), .int (nI q), .int x] M (Ri (fun r M2 => r = kR (sBs s q).1 q (sBs s q).2.1 f x ∧ RTm B M2 (kT (sBs s q).1 f T) ∧ Fk B M M2 [101] [41])) := by
  have hcn := ho.2.2.1
  refine Ct.of2 (own := RX7) (lv := [(0, .ref (B + 80)), (1, .int (nI q)), (2, .int x)]) pn_X7 rfl (Nat.le_of_ble_eq_true rfl) rfl ?_
  refine g_aload_n dX7_breaking_0 rfl rfl ?_
  refine g_getR dX7_breaking_1 fl_X7_29 rfl rfl ?_
  refine g_iload_n dX7_breaking_4 rfl rfl ?_
  refine g_iald dX7_breaking_5 rfl rfl (by omega) ((by rw [hf]; exact (h.1 q hq).1 : _ = nI f)) ?_
  refine g_istore_n dX7_breaking_6 rfl (lt_r rfl) rfl ?_
  refine g_iload_n dX7_breaking_7 rfl rfl ?_
  refine g_iconst dX7_breaking_8 kI_4 ?_
  refine g_icmp_eqN (tgt := 18) dX7_breaking_9 (by decide) rfl rfl (by omega) (by omega) (fun c_9 => absurd c_9 (by omega)) (fun c_9 => ?_)
  refine g_iload_n dX7_breaking_12 rfl rfl ?_
  refine g_bipush dX7_breaking_13 kB_6 ?_
  refine g_icmp_neN (tgt := 24) dX7_breaking_15 (by decide) rfl rfl (by omega) (by omega) (fun c_15 => ?_) (fun c_15 => absurd c_15 (by omega))
  refine g_iload_n dX7_breaking_24 rfl rfl ?_
  refine g_iconst dX7_breaking_25 kI_5 ?_
  refine g_icmp_neN (tgt := 35) dX7_breaking_26 (by decide) rfl rfl (by omega) (by omega) (fun c_26 => ?_) (fun c_26 => absurd c_26 (by omega))
  refine g_aload_n dX7_breaking_35 rfl rfl ?_
  refine g_bipush dX7_breaking_36 kB_12 ?_
  refine g_callVv dX7_breaking_38 mi_X7_body ml_X7_282 (ct_body (T := T) (b := 12) hT (by omega)) rfl rfl rfl rfl (Nat.le_of_ble_eq_true rfl) ⟨lt_r rfl, Nat.le_of_ble_eq_true rfl⟩ (fun M38 h38 => ?_)
  refine g_aload_n dX7_breaking_41 rfl rfl ?_
  refine g_iload_n dX7_breaking_42 rfl rfl ?_
  refine g_iload_n dX7_breaking_43 rfl rfl ?_
  refine g_callVi dX7_breaking_44 mi_X7_creeping ml_X7_288 (ct_creeping (T := (tb T 12)) (h.fk h38.2 (by decide) (by decide)) ho hq h38.1 (by show T.1 + 1 < 800; omega)) rfl rfl rfl rfl (Nat.le_of_ble_eq_true rfl) ⟨lt_r rfl, Nat.le_of_ble_eq_true rfl⟩ (fun x44 M44 h44 => ?_)
  obtain ⟨rfl, g1, g2⟩ := h44
  have hF := h38.2.tr g2
  have hcn9 := cT_n (sBs s q).1 (sBs s q).1 (tb T 12)
  have hcn8 : ((tb T 12)).1 = T.1 + 1 := rfl
  refine g_istore dX7_breaking_47 (lt_r rfl) rfl ?_
  refine g_iload dX7_breaking_49 rfl ?_
  refine g_aload_n dX7_breaking_51 rfl rfl ?_
  refine g_iload_n dX7_breaking_52 rfl rfl ?_
  refine g_iload_n dX7_breaking_53 rfl rfl ?_
  refine g_aload_n dX7_breaking_54 rfl rfl ?_
  refine g_getR dX7_breaking_55 fl_X7_32 rfl rfl ?_
  refine g_iload_n dX7_breaking_58 rfl rfl ?_
  refine g_iald dX7_breaking_59 rfl rfl (by omega) ((congrFun (hF.i (by decide) (by decide)) _).trans (h.1 q hq).2.1) ?_
  refine g_isub dX7_breaking_60 rfl ?_
  refine g_callVi dX7_breaking_61 mi_X7_soaking ml_X7_285 (ct_soaking (h.fk hF (by decide) (by decide)) ho hq g1 (by omega)) rfl rfl rfl rfl (Nat.le_of_ble_eq_true rfl) ⟨lt_r rfl, Nat.le_of_ble_eq_true rfl⟩ (fun x61 M61 h61 => ?_)
  obtain ⟨rfl, g3, g4⟩ := h61
  refine g_ixor dX7_breaking_64 rfl ?_
  refine g_istore dX7_breaking_65 (lt_r rfl) rfl ?_
  refine g_iload_n dX7_breaking_67 rfl rfl ?_
  refine g_iconst dX7_breaking_68 kI_4 ?_
  refine g_icmp_eqN (tgt := 78) dX7_breaking_69 (by decide) rfl rfl (by omega) (by omega) (fun c_69 => absurd c_69 (by omega)) (fun c_69 => ?_)
  refine g_iload_n dX7_breaking_72 rfl rfl ?_
  refine g_bipush dX7_breaking_73 kB_6 ?_
  refine g_icmp_neN (tgt := 84) dX7_breaking_75 (by decide) rfl rfl (by omega) (by omega) (fun c_75 => ?_) (fun c_75 => absurd c_75 (by omega))
  refine g_iload_n dX7_breaking_84 rfl rfl ?_
  refine g_iconst dX7_breaking_85 kI_5 ?_
  refine g_icmp_neN (tgt := 96) dX7_breaking_86 (by decide) rfl rfl (by omega) (by omega) (fun c_86 => ?_) (fun c_86 => absurd c_86 (by omega))
  refine g_iload dX7_breaking_96 rfl ?_
  refine g_iret dX7_breaking_98 ⟨_, rfl, ?_⟩
  refine ⟨?_, ?_, hF.tr g4⟩
  · unfold kR
    rw [if_neg (by omega), if_neg (by omega)]
    all_goals first | rfl | (rw [hf])
  · unfold kT
    rw [if_neg (by omega), if_neg (by omega)]
    exact g3
theorem ct_break_b {s : St} {q f : Nat} {x : Int32} {T : Tr} (h : RN B M s) (ho : okSt s) (hq : q < sCn s) (hf : f = (sBs s q).1) (hc : f = 4 ∨ f = 6) (hT : RTm B M T) (hn : T.1 < 700) : Ct E B yX7_breaking cX7_breaking 5 (some .int) 3 [.ref (B + 80), .int (nI q), .int x] M (Ri (fun r M2 => r = kR (sBs s q).1 q (sBs s q).2.1 f x ∧ RTm B M2 (kT (sBs s q).1 f T) ∧ Fk B M M2 [101] [41])) := by
  have hcn := ho.2.2.1
  refine Ct.of2 (own := RX7) (lv := [(0, .ref (B + 80)), (1, .int (nI q)), (2, .int x)]) pn_X7 rfl (Nat.le_of_ble_eq_true rfl) rfl ?_
  refine g_aload_n dX7_breaking_0 rfl rfl ?_
  refine g_getR dX7_breaking_1 fl_X7_29 rfl rfl ?_
  refine g_iload_n dX7_breaking_4 rfl rfl ?_
  refine g_iald dX7_breaking_5 rfl rfl (by omega) ((by rw [hf]; exact (h.1 q hq).1 : _ = nI f)) ?_
  refine g_istore_n dX7_breaking_6 rfl (lt_r rfl) rfl ?_
  refine g_iload_n dX7_breaking_7 rfl rfl ?_
  refine g_iconst dX7_breaking_8 kI_4 ?_
  refine g_icmp_eqN (tgt := 18) dX7_breaking_9 (by decide) rfl rfl (by omega) (by omega) (fun c_9 => ?_) (fun c_9 => ?_)
  · refine g_aload_n dX7_breaking_18 rfl rfl ?_
    refine g_bipush dX7_breaking_19 kB_50 ?_
    refine g_callVv dX7_breaking_21 mi_X7_body ml_X7_282 (ct_body (T := T) (b := 50) hT (by omega)) rfl rfl rfl rfl (Nat.le_of_ble_eq_true rfl) ⟨lt_r rfl, Nat.le_of_ble_eq_true rfl⟩ (fun M21 h21 => ?_)
    refine g_iload_n dX7_breaking_24 rfl rfl ?_
    refine g_iconst dX7_breaking_25 kI_5 ?_
    refine g_icmp_neN (tgt := 35) dX7_breaking_26 (by decide) rfl rfl (by omega) (by omega) (fun c_26 => ?_) (fun c_26 => absurd c_26 (by omega))
    refine g_aload_n dX7_breaking_35 rfl rfl ?_
    refine g_bipush dX7_breaking_36 kB_12 ?_
    refine g_callVv dX7_breaking_38 mi_X7_body ml_X7_282 (ct_body (T := (tb T 50)) (b := 12) h21.1 (by show T.1 + 1 < 1000; omega)) rfl rfl rfl rfl (Nat.le_of_ble_eq_true rfl) ⟨lt_r rfl, Nat.le_of_ble_eq_true rfl⟩ (fun M38 h38 => ?_)
    refine g_aload_n dX7_breaking_41 rfl rfl ?_
    refine g_iload_n dX7_breaking_42 rfl rfl ?_
    refine g_iload_n dX7_breaking_43 rfl rfl ?_
    refine g_callVi dX7_breaking_44 mi_X7_creeping ml_X7_288 (ct_creeping (T := (tb (tb T 50) 12)) (h.fk (h21.2.tr h38.2) (by decide) (by decide)) ho hq h38.1 (by show T.1 + 1 + 1 < 800; omega)) rfl rfl rfl rfl (Nat.le_of_ble_eq_true rfl) ⟨lt_r rfl, Nat.le_of_ble_eq_true rfl⟩ (fun x44 M44 h44 => ?_)
    obtain ⟨rfl, g1, g2⟩ := h44
    have hF := (h21.2.tr h38.2).tr g2
    have hcn9 := cT_n (sBs s q).1 (sBs s q).1 (tb (tb T 50) 12)
    have hcn8 : ((tb (tb T 50) 12)).1 = T.1 + 1 + 1 := rfl
    refine g_istore dX7_breaking_47 (lt_r rfl) rfl ?_
    refine g_iload dX7_breaking_49 rfl ?_
    refine g_aload_n dX7_breaking_51 rfl rfl ?_
    refine g_iload_n dX7_breaking_52 rfl rfl ?_
    refine g_iload_n dX7_breaking_53 rfl rfl ?_
    refine g_aload_n dX7_breaking_54 rfl rfl ?_
    refine g_getR dX7_breaking_55 fl_X7_32 rfl rfl ?_
    refine g_iload_n dX7_breaking_58 rfl rfl ?_
    refine g_iald dX7_breaking_59 rfl rfl (by omega) ((congrFun (hF.i (by decide) (by decide)) _).trans (h.1 q hq).2.1) ?_
    refine g_isub dX7_breaking_60 rfl ?_
    refine g_callVi dX7_breaking_61 mi_X7_soaking ml_X7_285 (ct_soaking (h.fk hF (by decide) (by decide)) ho hq g1 (by omega)) rfl rfl rfl rfl (Nat.le_of_ble_eq_true rfl) ⟨lt_r rfl, Nat.le_of_ble_eq_true rfl⟩ (fun x61 M61 h61 => ?_)
    obtain ⟨rfl, g3, g4⟩ := h61
    refine g_ixor dX7_breaking_64 rfl ?_
    refine g_istore dX7_breaking_65 (lt_r rfl) rfl ?_
    refine g_iload_n dX7_breaking_67 rfl rfl ?_
    refine g_iconst dX7_breaking_68 kI_4 ?_
    refine g_icmp_eqN (tgt := 78) dX7_breaking_69 (by decide) rfl rfl (by omega) (by omega) (fun c_69 => ?_) (fun c_69 => ?_)
    · refine g_iload dX7_breaking_78 rfl ?_
      refine g_ineg dX7_breaking_80 rfl ?_
      refine g_goto (tgt := 98) dX7_breaking_81 (by decide) ?_
      refine g_iret dX7_breaking_98 ⟨_, rfl, ?_⟩
      refine ⟨?_, ?_, hF.tr g4⟩
      · unfold kR
        rw [if_pos (by omega)]
        all_goals first | rfl | (rw [hf])
      · unfold kT
        rw [if_pos (by omega)]
        exact g3
    · refine g_iload_n dX7_breaking_72 rfl rfl ?_
      refine g_bipush dX7_breaking_73 kB_6 ?_
      refine g_icmp_neN (tgt := 84) dX7_breaking_75 (by decide) rfl rfl (by omega) (by omega) (fun c_75 => absurd c_75 (by omega)) (fun c_75 => ?_)
      refine g_iload dX7_breaking_78 rfl ?_
      refine g_ineg dX7_breaking_80 rfl ?_
      refine g_goto (tgt := 98) dX7_breaking_81 (by decide) ?_
      refine g_iret dX7_breaking_98 ⟨_, rfl, ?_⟩
      refine ⟨?_, ?_, hF.tr g4⟩
      · unfold kR
        rw [if_pos (by omega)]
        all_goals first | rfl | (rw [hf])
      · unfold kT
        rw [if_pos (by omega)]
        exact g3
  · refine g_iload_n dX7_breaking_12 rfl rfl ?_
    refine g_bipush dX7_breaking_13 kB_6 ?_
    refine g_icmp_neN (tgt := 24) dX7_breaking_15 (by decide) rfl rfl (by omega) (by omega) (fun c_15 => absurd c_15 (by omega)) (fun c_15 => ?_)
    refine g_aload_n dX7_breaking_18 rfl rfl ?_
    refine g_bipush dX7_breaking_19 kB_50 ?_
    refine g_callVv dX7_breaking_21 mi_X7_body ml_X7_282 (ct_body (T := T) (b := 50) hT (by omega)) rfl rfl rfl rfl (Nat.le_of_ble_eq_true rfl) ⟨lt_r rfl, Nat.le_of_ble_eq_true rfl⟩ (fun M21 h21 => ?_)
    refine g_iload_n dX7_breaking_24 rfl rfl ?_
    refine g_iconst dX7_breaking_25 kI_5 ?_
    refine g_icmp_neN (tgt := 35) dX7_breaking_26 (by decide) rfl rfl (by omega) (by omega) (fun c_26 => ?_) (fun c_26 => absurd c_26 (by omega))
    refine g_aload_n dX7_breaking_35 rfl rfl ?_
    refine g_bipush dX7_breaking_36 kB_12 ?_
    refine g_callVv dX7_breaking_38 mi_X7_body ml_X7_282 (ct_body (T := (tb T 50)) (b := 12) h21.1 (by show T.1 + 1 < 1000; omega)) rfl rfl rfl rfl (Nat.le_of_ble_eq_true rfl) ⟨lt_r rfl, Nat.le_of_ble_eq_true rfl⟩ (fun M38 h38 => ?_)
    refine g_aload_n dX7_breaking_41 rfl rfl ?_
    refine g_iload_n dX7_breaking_42 rfl rfl ?_
    refine g_iload_n dX7_breaking_43 rfl rfl ?_
    refine g_callVi dX7_breaking_44 mi_X7_creeping ml_X7_288 (ct_creeping (T := (tb (tb T 50) 12)) (h.fk (h21.2.tr h38.2) (by decide) (by decide)) ho hq h38.1 (by show T.1 + 1 + 1 < 800; omega)) rfl rfl rfl rfl (Nat.le_of_ble_eq_true rfl) ⟨lt_r rfl, Nat.le_of_ble_eq_true rfl⟩ (fun x44 M44 h44 => ?_)
    obtain ⟨rfl, g1, g2⟩ := h44
    have hF := (h21.2.tr h38.2).tr g2
    have hcn9 := cT_n (sBs s q).1 (sBs s q).1 (tb (tb T 50) 12)
    have hcn8 : ((tb (tb T 50) 12)).1 = T.1 + 1 + 1 := rfl
    refine g_istore dX7_breaking_47 (lt_r rfl) rfl ?_
    refine g_iload dX7_breaking_49 rfl ?_
    refine g_aload_n dX7_breaking_51 rfl rfl ?_
    refine g_iload_n dX7_breaking_52 rfl rfl ?_
    refine g_iload_n dX7_breaking_53 rfl rfl ?_
    refine g_aload_n dX7_breaking_54 rfl rfl ?_
    refine g_getR dX7_breaking_55 fl_X7_32 rfl rfl ?_
    refine g_iload_n dX7_breaking_58 rfl rfl ?_
    refine g_iald dX7_breaking_59 rfl rfl (by omega) ((congrFun (hF.i (by decide) (by decide)) _).trans (h.1 q hq).2.1) ?_
    refine g_isub dX7_breaking_60 rfl ?_
    refine g_callVi dX7_breaking_61 mi_X7_soaking ml_X7_285 (ct_soaking (h.fk hF (by decide) (by decide)) ho hq g1 (by omega)) rfl rfl rfl rfl (Nat.le_of_ble_eq_true rfl) ⟨lt_r rfl, Nat.le_of_ble_eq_true rfl⟩ (fun x61 M61 h61 => ?_)
    obtain ⟨rfl, g3, g4⟩ := h61
    refine g_ixor dX7_breaking_64 rfl ?_
    refine g_istore dX7_breaking_65 (lt_r rfl) rfl ?_
    refine g_iload_n dX7_breaking_67 rfl rfl ?_
    refine g_iconst dX7_breaking_68 kI_4 ?_
    refine g_icmp_eqN (tgt := 78) dX7_breaking_69 (by decide) rfl rfl (by omega) (by omega) (fun c_69 => ?_) (fun c_69 => ?_)
    · refine g_iload dX7_breaking_78 rfl ?_
      refine g_ineg dX7_breaking_80 rfl ?_
      refine g_goto (tgt := 98) dX7_breaking_81 (by decide) ?_
      refine g_iret dX7_breaking_98 ⟨_, rfl, ?_⟩
      refine ⟨?_, ?_, hF.tr g4⟩
      · unfold kR
        rw [if_pos (by omega)]
        all_goals first | rfl | (rw [hf])
      · unfold kT
        rw [if_pos (by omega)]
        exact g3
    · refine g_iload_n dX7_breaking_72 rfl rfl ?_
      refine g_bipush dX7_breaking_73 kB_6 ?_
      refine g_icmp_neN (tgt := 84) dX7_breaking_75 (by decide) rfl rfl (by omega) (by omega) (fun c_75 => absurd c_75 (by omega)) (fun c_75 => ?_)
      refine g_iload dX7_breaking_78 rfl ?_
      refine g_ineg dX7_breaking_80 rfl ?_
      refine g_goto (tgt := 98) dX7_breaking_81 (by decide) ?_
      refine g_iret dX7_breaking_98 ⟨_, rfl, ?_⟩
      refine ⟨?_, ?_, hF.tr g4⟩
      · unfold kR
        rw [if_pos (by omega)]
        all_goals first | rfl | (rw [hf])
      · unfold kT
        rw [if_pos (by omega)]
        exact g3
theorem ct_break_c {s : St} {q f : Nat} {x : Int32} {T : Tr} (h : RN B M s) (ho : okSt s) (hq : q < sCn s) (hf : f = (sBs s q).1) (hc : f = 5) (hT : RTm B M T) (hn : T.1 < 700) : Ct E B yX7_breaking cX7_breaking 5 (some .int) 3 [.ref (B + 80), .int (nI q), .int x] M (Ri (fun r M2 => r = kR (sBs s q).1 q (sBs s q).2.1 f x ∧ RTm B M2 (kT (sBs s q).1 f T) ∧ Fk B M M2 [101] [41])) := by
  have hcn := ho.2.2.1
  refine Ct.of2 (own := RX7) (lv := [(0, .ref (B + 80)), (1, .int (nI q)), (2, .int x)]) pn_X7 rfl (Nat.le_of_ble_eq_true rfl) rfl ?_
  refine g_aload_n dX7_breaking_0 rfl rfl ?_
  refine g_getR dX7_breaking_1 fl_X7_29 rfl rfl ?_
  refine g_iload_n dX7_breaking_4 rfl rfl ?_
  refine g_iald dX7_breaking_5 rfl rfl (by omega) ((by rw [hf]; exact (h.1 q hq).1 : _ = nI f)) ?_
  refine g_istore_n dX7_breaking_6 rfl (lt_r rfl) rfl ?_
  refine g_iload_n dX7_breaking_7 rfl rfl ?_
  refine g_iconst dX7_breaking_8 kI_4 ?_
  refine g_icmp_eqN (tgt := 18) dX7_breaking_9 (by decide) rfl rfl (by omega) (by omega) (fun c_9 => absurd c_9 (by omega)) (fun c_9 => ?_)
  refine g_iload_n dX7_breaking_12 rfl rfl ?_
  refine g_bipush dX7_breaking_13 kB_6 ?_
  refine g_icmp_neN (tgt := 24) dX7_breaking_15 (by decide) rfl rfl (by omega) (by omega) (fun c_15 => ?_) (fun c_15 => absurd c_15 (by omega))
  refine g_iload_n dX7_breaking_24 rfl rfl ?_
  refine g_iconst dX7_breaking_25 kI_5 ?_
  refine g_icmp_neN (tgt := 35) dX7_breaking_26 (by decide) rfl rfl (by omega) (by omega) (fun c_26 => absurd c_26 (by omega)) (fun c_26 => ?_)
  refine g_aload_n dX7_breaking_29 rfl rfl ?_
  refine g_bipush dX7_breaking_30 kB_60 ?_
  refine g_callVv dX7_breaking_32 mi_X7_body ml_X7_282 (ct_body (T := T) (b := 60) hT (by omega)) rfl rfl rfl rfl (Nat.le_of_ble_eq_true rfl) ⟨lt_r rfl, Nat.le_of_ble_eq_true rfl⟩ (fun M32 h32 => ?_)
  refine g_aload_n dX7_breaking_35 rfl rfl ?_
  refine g_bipush dX7_breaking_36 kB_12 ?_
  refine g_callVv dX7_breaking_38 mi_X7_body ml_X7_282 (ct_body (T := (tb T 60)) (b := 12) h32.1 (by show T.1 + 1 < 1000; omega)) rfl rfl rfl rfl (Nat.le_of_ble_eq_true rfl) ⟨lt_r rfl, Nat.le_of_ble_eq_true rfl⟩ (fun M38 h38 => ?_)
  refine g_aload_n dX7_breaking_41 rfl rfl ?_
  refine g_iload_n dX7_breaking_42 rfl rfl ?_
  refine g_iload_n dX7_breaking_43 rfl rfl ?_
  refine g_callVi dX7_breaking_44 mi_X7_creeping ml_X7_288 (ct_creeping (T := (tb (tb T 60) 12)) (h.fk (h32.2.tr h38.2) (by decide) (by decide)) ho hq h38.1 (by show T.1 + 1 + 1 < 800; omega)) rfl rfl rfl rfl (Nat.le_of_ble_eq_true rfl) ⟨lt_r rfl, Nat.le_of_ble_eq_true rfl⟩ (fun x44 M44 h44 => ?_)
  obtain ⟨rfl, g1, g2⟩ := h44
  have hF := (h32.2.tr h38.2).tr g2
  have hcn9 := cT_n (sBs s q).1 (sBs s q).1 (tb (tb T 60) 12)
  have hcn8 : ((tb (tb T 60) 12)).1 = T.1 + 1 + 1 := rfl
  refine g_istore dX7_breaking_47 (lt_r rfl) rfl ?_
  refine g_iload dX7_breaking_49 rfl ?_
  refine g_aload_n dX7_breaking_51 rfl rfl ?_
  refine g_iload_n dX7_breaking_52 rfl rfl ?_
  refine g_iload_n dX7_breaking_53 rfl rfl ?_
  refine g_aload_n dX7_breaking_54 rfl rfl ?_
  refine g_getR dX7_breaking_55 fl_X7_32 rfl rfl ?_
  refine g_iload_n dX7_breaking_58 rfl rfl ?_
  refine g_iald dX7_breaking_59 rfl rfl (by omega) ((congrFun (hF.i (by decide) (by decide)) _).trans (h.1 q hq).2.1) ?_
  refine g_isub dX7_breaking_60 rfl ?_
  refine g_callVi dX7_breaking_61 mi_X7_soaking ml_X7_285 (ct_soaking (h.fk hF (by decide) (by decide)) ho hq g1 (by omega)) rfl rfl rfl rfl (Nat.le_of_ble_eq_true rfl) ⟨lt_r rfl, Nat.le_of_ble_eq_true rfl⟩ (fun x61 M61 h61 => ?_)
  obtain ⟨rfl, g3, g4⟩ := h61
  refine g_ixor dX7_breaking_64 rfl ?_
  refine g_istore dX7_breaking_65 (lt_r rfl) rfl ?_
  refine g_iload_n dX7_breaking_67 rfl rfl ?_
  refine g_iconst dX7_breaking_68 kI_4 ?_
  refine g_icmp_eqN (tgt := 78) dX7_breaking_69 (by decide) rfl rfl (by omega) (by omega) (fun c_69 => absurd c_69 (by omega)) (fun c_69 => ?_)
  refine g_iload_n dX7_breaking_72 rfl rfl ?_
  refine g_bipush dX7_breaking_73 kB_6 ?_
  refine g_icmp_neN (tgt := 84) dX7_breaking_75 (by decide) rfl rfl (by omega) (by omega) (fun c_75 => ?_) (fun c_75 => absurd c_75 (by omega))
  refine g_iload_n dX7_breaking_84 rfl rfl ?_
  refine g_iconst dX7_breaking_85 kI_5 ?_
  refine g_icmp_neN (tgt := 96) dX7_breaking_86 (by decide) rfl rfl (by omega) (by omega) (fun c_86 => absurd c_86 (by omega)) (fun c_86 => ?_)
  refine g_iload dX7_breaking_89 rfl ?_
  refine g_iconst dX7_breaking_91 kI_5 ?_
  refine g_ixor dX7_breaking_92 rfl ?_
  refine g_goto (tgt := 98) dX7_breaking_93 (by decide) ?_
  refine g_iret dX7_breaking_98 ⟨_, rfl, ?_⟩
  refine ⟨?_, ?_, hF.tr g4⟩
  · unfold kR
    rw [if_neg (by omega), if_pos (by omega)]
    all_goals first | rfl | (rw [hf])
  · unfold kT
    rw [if_neg (by omega), if_pos (by omega)]
    exact g3
theorem ct_breaking {s : St} {q : Nat} {x : Int32} {T : Tr} (h : RN B M s) (ho : okSt s) (hq : q < sCn s) (hT : RTm B M T) (hn : T.1 < 700) : Ct E B yX7_breaking cX7_breaking 5 (some .int) 3 [.ref (B + 80), .int (nI q), .int x] M (Ri (fun r M2 => r = kR (sBs s q).1 q (sBs s q).2.1 (sBs s q).1 x ∧ RTm B M2 (kT (sBs s q).1 (sBs s q).1 T) ∧ Fk B M M2 [101] [41])) := by
  have o1 := (ho.1 q hq).1
  rcases (show ((sBs s q).1 = 0 ∨ (sBs s q).1 = 1 ∨ (sBs s q).1 = 2 ∨ (sBs s q).1 = 3) ∨ ((sBs s q).1 = 4 ∨ (sBs s q).1 = 6) ∨ (sBs s q).1 = 5 by omega) with c | c | c
  · exact ct_break_a h ho hq rfl c hT hn
  · exact ct_break_b h ho hq rfl c hT hn
  · exact ct_break_c h ho hq rfl c hT hn
theorem mx_act {y : Sys} {b g x : Int32} (h : RM B M y) (ho : okY y) : Ct E B yX7_act cX7_act 4 (some .int) 4 [.ref (B + 80), .int b, .int g, .int x] M (QM B M (o_act y b g x)) := by
  have hcn := ho.2.1.2.2.1
  have hF0 : Fk B M (upI M (B + 80) 41 (nI 0)) [101] [41] := Fk.pj (by decide)
  have hT0 : RTm B (upI M (B + 80) 41 (nI 0)) (0, (yT y).2) := ⟨upI_s, fun i hi => absurd hi (Nat.not_lt_zero i)⟩
  have h1 : RM B (upI M (B + 80) 41 (nI 0)) (setT y (0, (yT y).2)) := h.tr hF0 hT0
  have hR := h.2.1.fk hF0 (by decide) (by decide)
  refine Ct.of2 (own := RX7) (lv := [(0, .ref (B + 80)), (1, .int b), (2, .int g), (3, .int x)]) pn_X7 rfl (Nat.le_of_ble_eq_true rfl) rfl ?_
  refine g_aload_n dX7_act_0 rfl rfl ?_
  refine g_iconst dX7_act_1 kI_0 ?_
  refine g_putI dX7_act_2 fp_X7_279 rfl rfl ?_
  refine g_aload_n dX7_act_5 rfl rfl ?_
  refine g_iload_n dX7_act_6 rfl rfl ?_
  refine g_callVp dX7_act_7 mi_X7_isBiscuit ml_X7_93 (ct_X7_isBiscuit hR) rfl rfl rfl rfl (Nat.le_of_ble_eq_true rfl) ⟨lt_r rfl, Nat.le_of_ble_eq_true rfl⟩ ?_
  refine g_if_eqP (tgt := 22) dX7_act_10 (by decide) (fun c_10 => ?_) (fun c_10 => ?_)
  · refine g_iconst dX7_act_22 kI_0 ?_
    refine g_iret dX7_act_23 ⟨_, rfl, ?_⟩
    have e9 : o_act y b g x = (nI 0, setT y (0, (yT y).2)) := if_neg (fun z => by first | exact c_10 z.1 | exact Int32.not_lt.mpr z.2.1 c_14 | exact c_19 z.2.2)
    rw [e9]
    exact ⟨rfl, h1, hF0.sm (by decide)⟩
  · refine g_iload_n dX7_act_13 rfl rfl ?_
    refine g_if_lt (tgt := 22) dX7_act_14 (by decide) (fun c_14 => ?_) (fun c_14 => ?_)
    · refine g_iconst dX7_act_22 kI_0 ?_
      refine g_iret dX7_act_23 ⟨_, rfl, ?_⟩
      have e9 : o_act y b g x = (nI 0, setT y (0, (yT y).2)) := if_neg (fun z => by first | exact c_10 z.1 | exact Int32.not_lt.mpr z.2.1 c_14 | exact c_19 z.2.2)
      rw [e9]
      exact ⟨rfl, h1, hF0.sm (by decide)⟩
    · refine g_iload_n dX7_act_17 rfl rfl ?_
      refine g_iconst dX7_act_18 kI_2 ?_
      refine g_icmp_le (tgt := 24) dX7_act_19 (by decide) (fun c_19 => ?_) (fun c_19 => ?_)
      · have c_9 : inB' y b ∧ (nI 0 ≤ g ∧ g ≤ nI 2) := ⟨c_10, Int32.not_lt.mp c_14, c_19⟩
        have e9 : o_act y b g x = _ := if_pos c_9
        rw [e9]
        obtain ⟨q, hq, rfl, f1⟩ := in_b hcn c_10
        obtain ⟨g', -, hg, rfl, f2⟩ := btw_n (by decide) (by decide) c_9.2
        rw [f1, f2]
        refine g_iload_n dX7_act_24 rfl rfl ?_
        refine g_if_neN (tgt := 37) dX7_act_25 (by decide) rfl (by omega) (fun c_25 => ?_) (fun c_25 => ?_)
        · refine g_iload_n dX7_act_37 rfl rfl ?_
          refine g_iconst dX7_act_38 kI_1 ?_
          refine g_icmp_neN (tgt := 51) dX7_act_39 (by decide) rfl rfl (by omega) (by omega) (fun c_39 => ?_) (fun c_39 => ?_)
          · refine g_aload_n dX7_act_51 rfl rfl ?_
            refine g_iload_n dX7_act_52 rfl rfl ?_
            refine g_iload_n dX7_act_53 rfl rfl ?_
            refine g_callVi dX7_act_54 mi_X7_breaking ml_X7_291 (ct_breaking hR ho.2.1 hq hT0 (by show 0 < 700; decide)) rfl rfl rfl rfl (Nat.le_of_ble_eq_true rfl) ⟨lt_r rfl, Nat.le_of_ble_eq_true rfl⟩ (fun x54 M54 h54 => ?_)
            refine g_iret dX7_act_57 ⟨_, rfl, ?_⟩
            first | (have c9 : g' = 0 := c_25; subst c9; exact ⟨h31.1, h.tr (hF0.tr h31.2.2) h31.2.1, (hF0.tr h31.2.2).sm (by decide)⟩) | (have c9 : g' = 1 := c_39; subst c9; exact ⟨h45.1, h.tr (hF0.tr h45.2.2) h45.2.1, (hF0.tr h45.2.2).sm (by decide)⟩) | (have c9 : g' = 2 := (by omega); subst c9; exact ⟨h54.1, h.tr (hF0.tr h54.2.2) h54.2.1, (hF0.tr h54.2.2).sm (by decide)⟩)
          · refine g_aload_n dX7_act_42 rfl rfl ?_
            refine g_iload_n dX7_act_43 rfl rfl ?_
            refine g_iload_n dX7_act_44 rfl rfl ?_
            refine g_callVi dX7_act_45 mi_X7_creeping ml_X7_288 (ct_creeping hR ho.2.1 hq hT0 (by show 0 < 800; decide)) rfl rfl rfl rfl (Nat.le_of_ble_eq_true rfl) ⟨lt_r rfl, Nat.le_of_ble_eq_true rfl⟩ (fun x45 M45 h45 => ?_)
            refine g_goto (tgt := 57) dX7_act_48 (by decide) ?_
            refine g_iret dX7_act_57 ⟨_, rfl, ?_⟩
            first | (have c9 : g' = 0 := c_25; subst c9; exact ⟨h31.1, h.tr (hF0.tr h31.2.2) h31.2.1, (hF0.tr h31.2.2).sm (by decide)⟩) | (have c9 : g' = 1 := c_39; subst c9; exact ⟨h45.1, h.tr (hF0.tr h45.2.2) h45.2.1, (hF0.tr h45.2.2).sm (by decide)⟩) | (have c9 : g' = 2 := (by omega); subst c9; exact ⟨h54.1, h.tr (hF0.tr h54.2.2) h54.2.1, (hF0.tr h54.2.2).sm (by decide)⟩)
        · refine g_aload_n dX7_act_28 rfl rfl ?_
          refine g_iload_n dX7_act_29 rfl rfl ?_
          refine g_iload_n dX7_act_30 rfl rfl ?_
          refine g_callVi dX7_act_31 mi_X7_soaking ml_X7_285 (ct_soaking hR ho.2.1 hq hT0 (by show 0 < 900; decide)) rfl rfl rfl rfl (Nat.le_of_ble_eq_true rfl) ⟨lt_r rfl, Nat.le_of_ble_eq_true rfl⟩ (fun x31 M31 h31 => ?_)
          refine g_goto (tgt := 57) dX7_act_34 (by decide) ?_
          refine g_iret dX7_act_57 ⟨_, rfl, ?_⟩
          first | (have c9 : g' = 0 := c_25; subst c9; exact ⟨h31.1, h.tr (hF0.tr h31.2.2) h31.2.1, (hF0.tr h31.2.2).sm (by decide)⟩) | (have c9 : g' = 1 := c_39; subst c9; exact ⟨h45.1, h.tr (hF0.tr h45.2.2) h45.2.1, (hF0.tr h45.2.2).sm (by decide)⟩) | (have c9 : g' = 2 := (by omega); subst c9; exact ⟨h54.1, h.tr (hF0.tr h54.2.2) h54.2.1, (hF0.tr h54.2.2).sm (by decide)⟩)
      · refine g_iconst dX7_act_22 kI_0 ?_
        refine g_iret dX7_act_23 ⟨_, rfl, ?_⟩
        have e9 : o_act y b g x = (nI 0, setT y (0, (yT y).2)) := if_neg (fun z => by first | exact c_10 z.1 | exact Int32.not_lt.mpr z.2.1 c_14 | exact c_19 z.2.2)
        rw [e9]
        exact ⟨rfl, h1, hF0.sm (by decide)⟩
end X7N
