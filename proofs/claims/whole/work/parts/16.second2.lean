section DUN
variable {E : EE} {B : Nat} {M : MM} {k : Nat}
theorem IS_step {kd a h t c : Nat} {D : Dk} {M' M2 : MM} {x x' : Int32} (ho : okD kd a t D) (hc : c < D.1) (hI : IS B M M' k kd a h D (c + 1) x)
    (h1 : ∀ j, M2.1 (B + (k + 1 + 1)) j = if j = c then nI (secW kd a D.1 D.2.2.1 h D.2.1 c) else M'.1 (B + (k + 1 + 1)) j)
    (h2 : ∀ j, M2.1 (B + k) j = if j = 6 then nI (D.2.2.2.2.1 + (sumN (tookF kd a D.1 D.2.2.1 h D.2.1) D.1 - sumN (tookF kd a D.1 D.2.2.1 h D.2.1) c)) else M'.1 (B + k) j)
    (h3 : M2.1 (B + (k + 1)) = M'.1 (B + (k + 1))) (h4 : Sm B M' M2 k (k + 3)) (h5 : (x' = x ∧ secW kd a D.1 D.2.2.1 h D.2.1 c = D.2.1 c) ∨ x' = nI 1) : IS B M M2 k kd a h D c x' := by
  obtain ⟨i1, i2, i3, i4, i5, i6, i7⟩ := hI
  refine ⟨i1.tr h4, h3.trans i2, fun j hj => by rw [h2, if_neg hj]; exact i3 j hj, by rw [h2, if_pos rfl], fun i hi => ?_, ?_, fun z => ?_⟩
  · rw [h1]
    by_cases e : i = c
    · rw [if_pos e, if_pos (by omega), e]
    · rw [if_neg e, i5 i hi]
      by_cases e2 : c ≤ i
      · rw [if_pos e2, if_pos (by omega)]
      · rw [if_neg e2, if_neg (by omega)]
  · rcases h5 with ⟨rfl, -⟩ | h5
    · exact i6
    · exact Or.inr h5
  · rcases h5 with ⟨rfl, h5⟩ | h5
    · intro i hi hn
      by_cases e : i = c
      · rw [e]; exact h5
      · exact i7 z i (by omega) hn
    · rw [h5] at z
      exact absurd z (by decide)
theorem lp_X2_second {kd a h t : Nat} {D : Dk} (hd : isD k) (hR : RD B M k kd a h t D) (ho : okD kd a t D) (ht : t < 1000) (hh : h < 2 ^ 31) : ∀ (m : Nat), m ≤ D.1 → ∀ (M' : MM) (x : Int32), IS B M M' k kd a h D m x →
    G E B cX2_second (RX2, 7, some .boolean, rmD 2, 0, 0, KM E B (QS B M k kd a h t D)) 12 [(0, .ref (B + k)), (1, .int x), (2, .int (pI m))] [] M' := by
  intro m
  induction m with
  | zero =>
    intro hm M' x hI
    refine g_iload_n dX2_second_12 rfl rfl ?_
    refine g_if_lt (tgt := 125) dX2_second_13 (by decide) (fun c_13 => ?_) (fun c_13 => absurd (by decide) c_13)
    exact g_le (lvLe_c rfl (lvLe_c rfl (lvLe_c rfl lvLe_0))) (tl_X2_second hd hR ho ht hI)
  | succ c ih =>
    intro hm M' x hI
    have hI' := hI
    have ho' := ho
    obtain ⟨r1, r2, r3, r4, r5, r6, r7⟩ := hR
    obtain ⟨⟨o1, o2, o3, o4⟩, p1, p2, p3, p4, p5⟩ := ho
    have o3 : D.1 ≤ 12 := o3
    have o4 : ∀ i, D.2.1 i ≤ 99 := o4
    obtain ⟨i1, i2, i3, i4, i5, i6, i7⟩ := hI
    have q1 := sumN_le (fun i => tookF_le (kd := kd) (a := a) (n := D.1) (dp := D.2.2.1) (h := h) o4 i) D.1
    have q2 : sumN (tookF kd a D.1 D.2.2.1 h D.2.1) c + tookF kd a D.1 D.2.2.1 h D.2.1 c ≤ sumN (tookF kd a D.1 D.2.2.1 h D.2.1) D.1 := sumN_mono (m := c + 1) hm
    have q3 : sumN (tookF kd a D.1 D.2.2.1 h D.2.1) (c + 1) = sumN (tookF kd a D.1 D.2.2.1 h D.2.1) c + tookF kd a D.1 D.2.2.1 h D.2.1 c := rfl
    have q4 := soakN_le (kd := kd) (n := D.1) (c := c) (h := h) (show a ≤ 9 from o2) hh
    have q5 := o4 c
    have q6 := secW_le (kd := kd) (a := a) (n := D.1) (dp := D.2.2.1) (h := h) o4 c
    have q7 := secW_ge (kd := kd) (a := a) (n := D.1) (dp := D.2.2.1) (h := h) o4 c
    have q8 := creepN_le (kd := kd) o4 c
    have hob : okB (kd, a, D.1, fun i => if c + 1 ≤ i then secW kd a D.1 D.2.2.1 h D.2.1 i else D.2.1 i) := ⟨o1, o2, o3, fun i => by
      show (if c + 1 ≤ i then secW kd a D.1 D.2.2.1 h D.2.1 i else D.2.1 i) ≤ 99
      split
      · exact secW_le o4 i
      · exact o4 i⟩
    have hRb : RB M' (B + (k + 1)) (B + (k + 1 + 1)) (kd, a, D.1, fun i => if c + 1 ≤ i then secW kd a D.1 D.2.2.1 h D.2.1 i else D.2.1 i) := ⟨by rw [i2]; exact r1.1, by rw [i2]; exact r1.2.1, by rw [i2]; exact r1.2.2.1, i5⟩
    have w1 : M'.1 (B + (k + 1 + 1)) c = nI (D.2.1 c) := by rw [i5 c hm, if_neg (by omega)]
    have w2 : creepN kd (fun i => if c + 1 ≤ i then secW kd a D.1 D.2.2.1 h D.2.1 i else D.2.1 i) c = creepN kd D.2.1 c := by
      unfold creepN
      dsimp only
      rw [if_neg (show ¬ c + 1 ≤ c by omega), if_neg (show ¬ c + 1 ≤ c - 1 by omega)]
    rw [pI_s]
    by_cases hdp : c < D.2.2.1
    · have w3 : min 99 (D.2.1 c + soakN kd a D.1 c h) = secW kd a D.1 D.2.2.1 h D.2.1 c := by unfold secW; rw [if_pos hdp]
      have w4 : tookF kd a D.1 D.2.2.1 h D.2.1 c = secW kd a D.1 D.2.2.1 h D.2.1 c - D.2.1 c := by unfold tookF; rw [if_pos hdp]
      refine g_iload_n dX2_second_12 rfl rfl ?_
      refine g_if_ltN (tgt := 125) dX2_second_13 (by decide) rfl (by omega) ?_
      refine g_aload_n dX2_second_16 rfl rfl ?_
      refine g_getR dX2_second_17 fl_X2_12 hd.1 rfl ?_
      refine g_getR dX2_second_20 fl_X2_65 hd.2.1 rfl ?_
      refine g_iload_n dX2_second_23 rfl rfl ?_
      refine g_iald dX2_second_24 hd.2.2 rfl (by omega) (w1) ?_
      refine g_istore_n dX2_second_25 rfl (lt_r rfl) rfl ?_
      refine g_iload_n dX2_second_26 rfl rfl ?_
      refine g_aload_n dX2_second_27 rfl rfl ?_
      refine g_getI dX2_second_28 fl_X2_26 hd.1 rfl ((i3 2 (by decide)).trans r3) ?_
      refine g_icmp_geN (tgt := 38) dX2_second_31 (by decide) rfl rfl (by omega) (by omega) (fun c_31 => absurd hdp (by omega)) (fun c_31 => ?_)
      refine g_iconst dX2_second_34 kI_1 ?_
      refine g_goto (tgt := 39) dX2_second_35 (by decide) ?_
      refine g_istore dX2_second_39 (lt_r rfl) rfl ?_
      refine g_iload dX2_second_41 rfl ?_
      refine g_if_eqN (tgt := 61) dX2_second_43 (by decide) rfl (by omega) (fun c_43 => absurd c_43 (by omega)) (fun c_43 => ?_)
      refine g_aload_n dX2_second_46 rfl rfl ?_
      refine g_getR dX2_second_47 fl_X2_12 hd.1 rfl ?_
      refine g_iload_n dX2_second_50 rfl rfl ?_
      refine g_aload_n dX2_second_51 rfl rfl ?_
      refine g_getI dX2_second_52 fl_X2_22 hd.1 rfl ((i3 1 (by decide)).trans r2) ?_
      refine g_callVp dX2_second_55 mi_X1_soakOf ml_X2_69 (ct_X1_soakOf hd.2 hRb hob (by omega) hh) hd.2.1 rfl rfl rfl (Nat.le_of_ble_eq_true rfl) ⟨lt_r rfl, Nat.le_of_ble_eq_true rfl⟩ ?_
      refine g_goto (tgt := 69) dX2_second_58 (by decide) ?_
      dsimp only
      refine g_istore dX2_second_69 (lt_r rfl) rfl ?_
      refine g_bipush dX2_second_71 kB_99 ?_
      refine g_iload_n dX2_second_73 rfl rfl ?_
      refine g_iload dX2_second_74 rfl ?_
      refine g_iadd dX2_second_76 (nI_add _ _) ?_
      refine g_mmin dX2_second_77 ml_X2_51 ((min_nI (by omega) (by omega)).trans (congrArg nI w3)) ⟨lt_r rfl, Nat.le_of_ble_eq_true rfl⟩ ?_
      refine g_istore dX2_second_80 (lt_r rfl) rfl ?_
      refine g_iload dX2_second_82 rfl ?_
      refine g_if_eqN (tgt := 100) dX2_second_84 (by decide) rfl (by omega) (fun c_84 => absurd c_84 (by omega)) (fun c_84 => ?_)
      refine g_aload_n dX2_second_87 rfl rfl ?_
      refine g_dup dX2_second_88 rfl ?_
      refine g_getI dX2_second_89 fl_X2_38 hd.1 rfl (i4) ?_
      refine g_iload dX2_second_92 rfl ?_
      refine g_iload_n dX2_second_94 rfl rfl ?_
      first | refine g_isub dX2_second_95 (pk_sub (by omega)) ?_ | refine g_isub dX2_second_95 rfl ?_
      refine g_iadd dX2_second_96 (nI_add _ _) ?_
      refine g_putI dX2_second_97 fp_X2_38 hd.1 rfl ?_
      refine g_iload dX2_second_100 rfl ?_
      refine g_iload_n dX2_second_102 rfl rfl ?_
      refine g_icmp_eqN (tgt := 108) dX2_second_103 (by decide) rfl rfl (by omega) (by omega) (fun c_103 => ?_) (fun c_103 => ?_)
      · refine g_aload_n dX2_second_108 rfl rfl ?_
        refine g_getR dX2_second_109 fl_X2_12 hd.1 rfl ?_
        refine g_getR dX2_second_112 fl_X2_65 hd.2.1 rfl ?_
        refine g_iload_n dX2_second_115 rfl rfl ?_
        refine g_iload dX2_second_116 rfl ?_
        refine g_iast dX2_second_118 hd.2.2 rfl (by omega) ?_
        refine g_iinc (v := pI c) dX2_second_119 rfl ?_ rfl ?_
        · cases c with
          | zero => rfl
          | succ c => exact dec_nI (by omega)
        refine g_goto (tgt := 12) dX2_second_122 (by decide) (g_le (lvLe_c rfl (lvLe_c rfl (lvLe_c rfl lvLe_0))) (ih (by omega) _ _ (IS_step ho' hm hI' (fun j => ?_) (fun j => ?_) ?_ (Sm.tr (Sm.pI (by omega) (by omega)) (Sm.pI (by omega) (by omega))) ?_)))
        · rw [upI_at, upI_ap (by omega)]
        · rw [upI_ap (by omega), upI_at]
          split
          · congr 1; omega
          · rfl
        · rw [upI_ap (by omega), upI_ap (by omega)]
        · first | exact Or.inl ⟨rfl, c_103⟩ | exact Or.inr rfl
      · refine g_iconst dX2_second_106 kI_1 ?_
        refine g_istore_n dX2_second_107 rfl (lt_r rfl) rfl ?_
        refine g_aload_n dX2_second_108 rfl rfl ?_
        refine g_getR dX2_second_109 fl_X2_12 hd.1 rfl ?_
        refine g_getR dX2_second_112 fl_X2_65 hd.2.1 rfl ?_
        refine g_iload_n dX2_second_115 rfl rfl ?_
        refine g_iload dX2_second_116 rfl ?_
        refine g_iast dX2_second_118 hd.2.2 rfl (by omega) ?_
        refine g_iinc (v := pI c) dX2_second_119 rfl ?_ rfl ?_
        · cases c with
          | zero => rfl
          | succ c => exact dec_nI (by omega)
        refine g_goto (tgt := 12) dX2_second_122 (by decide) (g_le (lvLe_c rfl (lvLe_c rfl (lvLe_c rfl lvLe_0))) (ih (by omega) _ _ (IS_step ho' hm hI' (fun j => ?_) (fun j => ?_) ?_ (Sm.tr (Sm.pI (by omega) (by omega)) (Sm.pI (by omega) (by omega))) ?_)))
        · rw [upI_at, upI_ap (by omega)]
        · rw [upI_ap (by omega), upI_at]
          split
          · congr 1; omega
          · rfl
        · rw [upI_ap (by omega), upI_ap (by omega)]
        · first | exact Or.inl ⟨rfl, c_103⟩ | exact Or.inr rfl
    · have w3 : min 99 (D.2.1 c + creepN kd D.2.1 c) = secW kd a D.1 D.2.2.1 h D.2.1 c := by unfold secW; rw [if_neg hdp, if_pos (show c < D.1 from hm)]; omega
      have w4 : tookF kd a D.1 D.2.2.1 h D.2.1 c = 0 := by unfold tookF; rw [if_neg hdp]
      refine g_iload_n dX2_second_12 rfl rfl ?_
      refine g_if_ltN (tgt := 125) dX2_second_13 (by decide) rfl (by omega) ?_
      refine g_aload_n dX2_second_16 rfl rfl ?_
      refine g_getR dX2_second_17 fl_X2_12 hd.1 rfl ?_
      refine g_getR dX2_second_20 fl_X2_65 hd.2.1 rfl ?_
      refine g_iload_n dX2_second_23 rfl rfl ?_
      refine g_iald dX2_second_24 hd.2.2 rfl (by omega) (w1) ?_
      refine g_istore_n dX2_second_25 rfl (lt_r rfl) rfl ?_
      refine g_iload_n dX2_second_26 rfl rfl ?_
      refine g_aload_n dX2_second_27 rfl rfl ?_
      refine g_getI dX2_second_28 fl_X2_26 hd.1 rfl ((i3 2 (by decide)).trans r3) ?_
      refine g_icmp_geN (tgt := 38) dX2_second_31 (by decide) rfl rfl (by omega) (by omega) (fun c_31 => ?_) (fun c_31 => absurd hdp (by omega))
      refine g_iconst dX2_second_38 kI_0 ?_
      refine g_istore dX2_second_39 (lt_r rfl) rfl ?_
      refine g_iload dX2_second_41 rfl ?_
      refine g_if_eqN (tgt := 61) dX2_second_43 (by decide) rfl (by omega) (fun c_43 => ?_) (fun c_43 => absurd c_43 (by omega))
      refine g_aload_n dX2_second_61 rfl rfl ?_
      refine g_getR dX2_second_62 fl_X2_12 hd.1 rfl ?_
      refine g_iload_n dX2_second_65 rfl rfl ?_
      refine g_callVp dX2_second_66 mi_X1_creepInto ml_X2_72 (ct_X1_creepInto hd.2 hRb hob hm) hd.2.1 rfl rfl rfl (Nat.le_of_ble_eq_true rfl) ⟨lt_r rfl, Nat.le_of_ble_eq_true rfl⟩ ?_
      dsimp only
      rw [w2]
      refine g_istore dX2_second_69 (lt_r rfl) rfl ?_
      refine g_bipush dX2_second_71 kB_99 ?_
      refine g_iload_n dX2_second_73 rfl rfl ?_
      refine g_iload dX2_second_74 rfl ?_
      refine g_iadd dX2_second_76 (nI_add _ _) ?_
      refine g_mmin dX2_second_77 ml_X2_51 ((min_nI (by omega) (by omega)).trans (congrArg nI w3)) ⟨lt_r rfl, Nat.le_of_ble_eq_true rfl⟩ ?_
      refine g_istore dX2_second_80 (lt_r rfl) rfl ?_
      refine g_iload dX2_second_82 rfl ?_
      refine g_if_eqN (tgt := 100) dX2_second_84 (by decide) rfl (by omega) (fun c_84 => ?_) (fun c_84 => absurd c_84 (by omega))
      refine g_iload dX2_second_100 rfl ?_
      refine g_iload_n dX2_second_102 rfl rfl ?_
      refine g_icmp_eqN (tgt := 108) dX2_second_103 (by decide) rfl rfl (by omega) (by omega) (fun c_103 => ?_) (fun c_103 => ?_)
      · refine g_aload_n dX2_second_108 rfl rfl ?_
        refine g_getR dX2_second_109 fl_X2_12 hd.1 rfl ?_
        refine g_getR dX2_second_112 fl_X2_65 hd.2.1 rfl ?_
        refine g_iload_n dX2_second_115 rfl rfl ?_
        refine g_iload dX2_second_116 rfl ?_
        refine g_iast dX2_second_118 hd.2.2 rfl (by omega) ?_
        refine g_iinc (v := pI c) dX2_second_119 rfl ?_ rfl ?_
        · cases c with
          | zero => rfl
          | succ c => exact dec_nI (by omega)
        refine g_goto (tgt := 12) dX2_second_122 (by decide) (g_le (lvLe_c rfl (lvLe_c rfl (lvLe_c rfl lvLe_0))) (ih (by omega) _ _ (IS_step ho' hm hI' (fun j => ?_) (fun j => ?_) ?_ (Sm.pI (by omega) (by omega)) ?_)))
        · rw [upI_at]
        · rw [upI_ap (by omega)]
          split
          · rename_i e
            rw [e, i4, q3, w4]
            rfl
          · rfl
        · rw [upI_ap (by omega)]
        · first | exact Or.inl ⟨rfl, c_103⟩ | exact Or.inr rfl
      · refine g_iconst dX2_second_106 kI_1 ?_
        refine g_istore_n dX2_second_107 rfl (lt_r rfl) rfl ?_
        refine g_aload_n dX2_second_108 rfl rfl ?_
        refine g_getR dX2_second_109 fl_X2_12 hd.1 rfl ?_
        refine g_getR dX2_second_112 fl_X2_65 hd.2.1 rfl ?_
        refine g_iload_n dX2_second_115 rfl rfl ?_
        refine g_iload dX2_second_116 rfl ?_
        refine g_iast dX2_second_118 hd.2.2 rfl (by omega) ?_
        refine g_iinc (v := pI c) dX2_second_119 rfl ?_ rfl ?_
        · cases c with
          | zero => rfl
          | succ c => exact dec_nI (by omega)
        refine g_goto (tgt := 12) dX2_second_122 (by decide) (g_le (lvLe_c rfl (lvLe_c rfl (lvLe_c rfl lvLe_0))) (ih (by omega) _ _ (IS_step ho' hm hI' (fun j => ?_) (fun j => ?_) ?_ (Sm.pI (by omega) (by omega)) ?_)))
        · rw [upI_at]
        · rw [upI_ap (by omega)]
          split
          · rename_i e
            rw [e, i4, q3, w4]
            rfl
          · rfl
        · rw [upI_ap (by omega)]
        · first | exact Or.inl ⟨rfl, c_103⟩ | exact Or.inr rfl
theorem ct_X2_second {kd a h t : Nat} {D : Dk} (hd : isD k) (hR : RD B M k kd a h t D) (ho : okD kd a t D) (ht : t < 1000) (hh : h < 2 ^ 31) : Ct E B yX2_second cX2_second 7 (some .boolean) 2 [.ref (B + k)] M (QS B M k kd a h t D) := by
  have o3 : D.1 ≤ 12 := ho.1.2.2.1
  refine Ct.of2 (own := RX2) (lv := [(0, .ref (B + k))]) pn_X2 rfl (Nat.le_of_ble_eq_true rfl) rfl ?_
  refine g_iconst dX2_second_0 kI_0 ?_
  refine g_istore_n dX2_second_1 rfl (lt_r rfl) rfl ?_
  refine g_aload_n dX2_second_2 rfl rfl ?_
  refine g_getR dX2_second_3 fl_X2_12 hd.1 rfl ?_
  refine g_getI dX2_second_6 fl_X2_48 hd.2.1 rfl (hR.1.2.2.1) ?_
  refine g_iconst dX2_second_9 kI_1 ?_
  refine g_isub dX2_second_10 ((show nI D.1 - nI 1 = pI D.1 by cases hz : D.1 with | zero => rfl | succ c => exact pk_sub (by omega))) ?_
  refine g_istore_n dX2_second_11 rfl (lt_r rfl) rfl ?_
  refine g_le (lvLe_c rfl (lvLe_c rfl (lvLe_c rfl lvLe_0))) (lp_X2_second hd hR ho ht hh D.1 (Nat.le_refl _) M (nI 0) ⟨Sm.rf, rfl, fun _ _ => rfl, ?_, fun i hi => ?_, Or.inl rfl, fun _ i h1 h2 => absurd h1 (by omega)⟩)
  · rw [Nat.sub_self]; exact hR.2.2.2.2.2.2
  · rw [if_neg (by omega)]; exact hR.1.2.2.2 i hi
end DUN
