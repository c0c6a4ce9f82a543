/-! best: dips of every depth -/
theorem bstR_lt {W : Nat → Nat → Nat} {j : Nat} (hW : ∀ s, W j s ≤ 1188) : ∀ (n s : Nat) (st : Nat × Nat), st.1 < 10000 → (bstR W j n s st).1 < 10000
  | 0, _, _, h => h
  | n + 1, s, st, h => by
    rw [bstR_s]
    refine bstR_lt hW n (s + 1) _ ?_
    unfold bstS
    split
    · have := hW s
      show W j s + 1 < 10000
      omega
    · exact h
section X6L
variable {E : EE} {B : Nat} {M : MM} {k : Nat}
theorem lp_bestJ {y : Sys} {b : Bi} {c : Nat} {M0 : MM} {R : Nat × Nat} (hb : isB k) (hk : 53 ≤ k) (hY : RY B M0 y) (ho : okY y) (hB : RB M0 (B + k) (B + (k + 1)) b) (hob : okB b) (hc : c ≤ 60) :
    ∀ (n j : Nat) (st : Nat × Nat), n + j = b.2.2.1 + 1 → bstJ (wBest y b c) n j st = R → st.1 < 10000 → ∀ M', Sm B M0 M' 47 53 →
    G E B cX6_bestDip (RX6, 9, some .int, rmD 5, 0, 0, KM E B (Ri (fun r M2 => r = nI R.2 ∧ Sm B M0 M2 47 53))) 8 [(0, .ref (B + 0)), (1, .ref (B + k)), (2, .int (nI c)), (3, .int (bI st.1)), (4, .int (nI st.2)), (5, .int (nI j))] [] M' := by
  have h12 : b.2.2.1 ≤ 12 := hob.2.2.1
  have hh := ho.2.1.2.2.2.1
  intro n
  induction n with
  | zero =>
    intro j st h1 hR hst M' hS
    have hB' := RB.sm (k := k) (k' := k + 1) hB hS (by omega) (by omega)
    refine g_iload dX6_bestDip_8 rfl ?_
    refine g_aload_n dX6_bestDip_10 rfl rfl ?_
    refine g_getI dX6_bestDip_11 fl_X6_162 hb.1 rfl (hB'.2.2.1) ?_
    refine g_icmp_gtN (tgt := 135) dX6_bestDip_14 (by decide) rfl rfl (by omega) (by omega) (fun c_14 => ?_) (fun c_14 => absurd c_14 (by omega))
    refine g_iload dX6_bestDip_135 rfl ?_
    refine g_iret dX6_bestDip_137 ⟨_, rfl, ?_⟩
    exact ⟨by rw [← hR]; rfl, hS⟩
  | succ n ih =>
    intro j st h1 hR hst M' hS
    have hB' := RB.sm (k := k) (k' := k + 1) hB hS (by omega) (by omega)
    have hY' := hY.sc ho (Sc.s hS (by omega))
    have hend : ∀ M2, Sm B M0 M2 47 53 → G E B cX6_bestDip (RX6, 9, some .int, rmD 5, 0, 0, KM E B (Ri (fun r M2 => r = nI R.2 ∧ Sm B M0 M2 47 53))) 129 [(0, .ref (B + 0)), (1, .ref (B + k)), (2, .int (nI c)), (3, .int (bI (bstR (wBest y b c) j 31 0 st).1)), (4, .int (nI (bstR (wBest y b c) j 31 0 st).2)), (5, .int (nI j))] [] M2 := by
      intro M2 hS2
      refine g_iinc dX6_bestDip_129 rfl (inc_nI _) rfl ?_
      refine g_goto (tgt := 8) dX6_bestDip_132 (by decide) ?_
      exact g_le (lvLe_c rfl (lvLe_c rfl (lvLe_c rfl (lvLe_c rfl (lvLe_c rfl (lvLe_c rfl lvLe_0)))))) (ih (j + 1) (bstR (wBest y b c) j 31 0 st) (by omega) (bstJ_s.symm.trans hR) (bstR_lt (fun s => wBest_le ho hob) 31 0 st hst) M2 hS2)
    refine g_iload dX6_bestDip_8 rfl ?_
    refine g_aload_n dX6_bestDip_10 rfl rfl ?_
    refine g_getI dX6_bestDip_11 fl_X6_162 hb.1 rfl (hB'.2.2.1) ?_
    refine g_icmp_gtN (tgt := 135) dX6_bestDip_14 (by decide) rfl rfl (by omega) (by omega) (fun c_14 => absurd c_14 (by omega)) (fun c_14 => ?_)
    refine g_aload_n dX6_bestDip_17 rfl rfl ?_
    refine g_getR dX6_bestDip_18 fl_X6_31 rfl rfl ?_
    refine g_aload_n dX6_bestDip_21 rfl rfl ?_
    refine g_aload_n dX6_bestDip_22 rfl rfl ?_
    refine g_getR dX6_bestDip_23 fl_X6_18 rfl rfl ?_
    refine g_getI dX6_bestDip_26 fl_X6_181 isS_2.1 rfl (hY'.2.1.2.2.2.1) ?_
    refine g_callVv dX6_bestDip_29 mi_X2_begin ml_X6_233 (ct_X2_begin isD_47 hb (by omega) hB' hob) isD_47.1 rfl rfl rfl (Nat.le_of_ble_eq_true rfl) ⟨lt_r rfl, Nat.le_of_ble_eq_true rfl⟩ (fun M29 h29 => ?_)
    refine g_aload_n dX6_bestDip_32 rfl rfl ?_
    refine g_getR dX6_bestDip_33 fl_X6_31 rfl rfl ?_
    refine g_iload dX6_bestDip_36 rfl ?_
    refine g_callVv dX6_bestDip_38 mi_X2_enter ml_X6_237 (ct_X2_enter isD_47 h29.1 (new_ok hob) (by omega)) isD_47.1 rfl rfl rfl (Nat.le_of_ble_eq_true rfl) ⟨lt_r rfl, Nat.le_of_ble_eq_true rfl⟩ (fun M38 h38 => ?_)
    refine g_iconst dX6_bestDip_41 kI_1 ?_
    refine g_istore dX6_bestDip_42 (lt_r rfl) rfl ?_
    refine g_iconst dX6_bestDip_44 kI_0 ?_
    refine g_istore dX6_bestDip_45 (lt_r rfl) rfl ?_
    have g0 : RD B M38 47 b.1 b.2.1 (sHt (yN y)) (0 + 0) (dipD b (sHt (yN y)) j 0) := h38.1
    exact g_le (lvLe_c rfl (lvLe_c rfl (lvLe_c rfl (lvLe_c rfl (lvLe_c rfl (lvLe_c rfl (lvLe_c rfl (lvLe_c rfl lvLe_0)))))))) (lp_bestR hY ho hob hc (by omega) hend 31 0 st (nI 1) rfl rfl hst (Or.inr rfl) (fun z => absurd z (by decide)) M38 g0 (Sm.tr (Sm.tr hS (h29.2.up (by omega) (by omega))) (h38.2.up (by omega) (by omega))))
theorem ct_bestDip {y : Sys} {b : Bi} {c : Nat} (hb : isB k) (hk : 53 ≤ k) (hY : RY B M y) (ho : okY y) (hB : RB M (B + k) (B + (k + 1)) b) (hob : okB b) (hc : c ≤ 60) : Ct E B yX6_bestDip cX6_bestDip 9 (some .int) 5 [.ref (B + 0), .ref (B + k), .int (nI c)] M (Ri (fun r M2 => r = nI (bstJ (wBest y b c) (b.2.2.1 + 1) 0 (0, 0)).2 ∧ Sm B M M2 47 53)) := by
  refine Ct.of2 (own := RX6) (lv := [(0, .ref (B + 0)), (1, .ref (B + k)), (2, .int (nI c))]) pn_X6 rfl (Nat.le_of_ble_eq_true rfl) rfl ?_
  refine g_iconst dX6_bestDip_0 kI_m1 ?_
  refine g_istore_n dX6_bestDip_1 rfl (lt_r rfl) rfl ?_
  refine g_iconst dX6_bestDip_2 kI_0 ?_
  refine g_istore dX6_bestDip_3 (lt_r rfl) rfl ?_
  refine g_iconst dX6_bestDip_5 kI_0 ?_
  refine g_istore dX6_bestDip_6 (lt_r rfl) rfl ?_
  exact g_le (lvLe_c rfl (lvLe_c rfl (lvLe_c rfl (lvLe_c rfl (lvLe_c rfl (lvLe_c rfl lvLe_0)))))) (lp_bestJ (R := bstJ (wBest y b c) (b.2.2.1 + 1) 0 (0, 0)) hb hk hY ho hB hob hc (b.2.2.1 + 1) 0 (0, 0) rfl rfl (by decide) M Sm.rf)
theorem cx_best {y : Sys} {b c w : Int32} (h : RY B M y) (ho : okY y) : Ct E B yX6_best cX6_best 4 (some .int) 6 [.ref (B + 0), .int b, .int c, .int w] M (QY B M (o_best y b c w)) := by
  have hcn := ho.2.1.2.2.1
  refine Ct.of2 (own := RX6) (lv := [(0, .ref (B + 0)), (1, .int b), (2, .int c), (3, .int w)]) pn_X6 rfl (Nat.le_of_ble_eq_true rfl) rfl ?_
  refine g_aload_n dX6_best_0 rfl rfl ?_
  refine g_getR dX6_best_1 fl_X6_18 rfl rfl ?_
  refine g_iload_n dX6_best_4 rfl rfl ?_
  refine g_callVp dX6_best_5 mi_X5_hasBiscuit ml_X6_123 (ct_hasB h) isS_2.1 rfl rfl rfl (Nat.le_of_ble_eq_true rfl) ⟨lt_r rfl, Nat.le_of_ble_eq_true rfl⟩ ?_
  refine g_if_neP (tgt := 17) dX6_best_8 (by decide) (fun c_8 => ?_) (fun c_8 => ?_)
  · refine g_iload_n dX6_best_17 rfl rfl ?_
    refine g_iconst dX6_best_18 kI_0 ?_
    refine g_iconst dX6_best_19 kI_1 ?_
    refine g_callSp dX6_best_20 ms_X6_isWithin ml_X6_87 (ct_X6_isWithin) rfl rfl (Nat.le_of_ble_eq_true rfl) ⟨lt_r rfl, Nat.le_of_ble_eq_true rfl⟩ ?_
    refine g_if_neP (tgt := 32) dX6_best_23 (by decide) (fun c_23 => ?_) (fun c_23 => ?_)
    · refine g_iload_n dX6_best_32 rfl rfl ?_
      refine g_iconst dX6_best_33 kI_0 ?_
      refine g_bipush dX6_best_34 kB_60 ?_
      refine g_callSp dX6_best_36 ms_X6_isWithin ml_X6_87 (ct_X6_isWithin) rfl rfl (Nat.le_of_ble_eq_true rfl) ⟨lt_r rfl, Nat.le_of_ble_eq_true rfl⟩ ?_
      refine g_if_neP (tgt := 49) dX6_best_39 (by decide) (fun c_39 => ?_) (fun c_39 => ?_)
      · have e9 : o_best y b c w = _ := (if_neg (fun z => z c_8)).trans ((if_neg (fun z => z c_23)).trans (if_neg (fun z => z c_39)))
        rw [e9]
        obtain ⟨q, hq, rfl, f1⟩ := in_b hcn c_8
        obtain ⟨c', -, hc, rfl, f2⟩ := btw_n (by decide) (by decide) c_39
        rw [f1, f2]
        have hR := h.2.1.1 q hq
        have hob := ho.2.1.1 q hq
        have hb12 := hob.2.2.1
        refine g_aload_n dX6_best_49 rfl rfl ?_
        refine g_getR dX6_best_50 fl_X6_57 rfl rfl ?_
        refine g_aload_n dX6_best_53 rfl rfl ?_
        refine g_getR dX6_best_54 fl_X6_18 rfl rfl ?_
        refine g_getR dX6_best_57 fl_X6_141 isS_2.1 rfl ?_
        refine g_iload_n dX6_best_60 rfl rfl ?_
        refine g_aald dX6_best_61 isS_2.2.1 rfl (isS_b (by omega)) ?_
        refine g_callVv dX6_best_62 mi_X1_become ml_X6_257 (ct_X1_become isB_58 (isS_2.2.2.2 _ (by omega)) (by omega)) isB_58.1 rfl rfl rfl (Nat.le_of_ble_eq_true rfl) ⟨lt_r rfl, Nat.le_of_ble_eq_true rfl⟩ (fun M62 h62 => ?_)
        obtain ⟨⟨a1, a2⟩, a3⟩ := h62
        have hB : RB M62 (B + 58) (B + (58 + 1)) (sBs (yN y) q) := ⟨by rw [a1 0 (by decide)]; exact hR.1, by rw [a1 1 (by decide)]; exact hR.2.1, by rw [a1 2 (by decide)]; exact hR.2.2.1, fun i hi => by rw [a2 i (by omega)]; exact hR.2.2.2 i hi⟩
        have hy := h.sc ho (Sc.s a3 (by omega))
        refine g_iload_n dX6_best_65 rfl rfl ?_
        refine g_iconst dX6_best_66 kI_1 ?_
        refine g_icmp_ne (tgt := 77) dX6_best_67 (by decide) (fun c_67 => ?_) (fun c_67 => ?_)
        · have hok : okB (turnB (sBs (yN y) q)) := ⟨hob.1, hob.2.1, hob.2.2.1, fun i => by show turnW _ _ i ≤ 99; unfold turnW; split <;> exact hob.2.2.2 _⟩
          refine g_aload_n dX6_best_77 rfl rfl ?_
          refine g_aload_n dX6_best_78 rfl rfl ?_
          refine g_getR dX6_best_79 fl_X6_57 rfl rfl ?_
          refine g_iload_n dX6_best_82 rfl rfl ?_
          refine g_callVi dX6_best_83 mi_X6_bestDip ml_X6_264 (ct_bestDip (b := if w = nI 1 then turnB (sBs (yN y) q) else sBs (yN y) q) isB_58 (by omega) (by first | exact h.sc ho (Sc.s (Sm.tr a3 (h74.2.up (by omega) (by omega))) (by omega)) | exact hy) ho (by first | (rw [if_pos c_67]; exact h74.1) | (rw [if_neg c_67]; exact hB)) (by first | (rw [if_pos c_67]; exact hok) | (rw [if_neg c_67]; exact hob)) hc) rfl rfl rfl rfl (Nat.le_of_ble_eq_true rfl) ⟨lt_r rfl, Nat.le_of_ble_eq_true rfl⟩ (fun x83 M83 h83 => ?_)
          refine g_iret dX6_best_86 ⟨_, rfl, ?_⟩
          have e5 : (if w = nI 1 then turnB (sBs (yN y) q) else sBs (yN y) q).2.2.1 = (sBs (yN y) q).2.2.1 := by split <;> rfl
          rw [e5] at h83
          first | exact QY.s h ho (Sc.tr (Sc.s (Sm.tr a3 (h74.2.up (by omega) (by omega))) (by omega)) (Sc.s h83.2 (by omega))) (by rw [h83.1]) | exact QY.s h ho (Sc.tr (Sc.s a3 (by omega)) (Sc.s h83.2 (by omega))) (by rw [h83.1])
        · refine g_aload_n dX6_best_70 rfl rfl ?_
          refine g_getR dX6_best_71 fl_X6_57 rfl rfl ?_
          refine g_callVv dX6_best_74 mi_X1_turnAbout ml_X6_261 (ct_X1_turnAbout isB_58 hB hob) isB_58.1 rfl rfl rfl (Nat.le_of_ble_eq_true rfl) ⟨lt_r rfl, Nat.le_of_ble_eq_true rfl⟩ (fun M74 h74 => ?_)
          have hok : okB (turnB (sBs (yN y) q)) := ⟨hob.1, hob.2.1, hob.2.2.1, fun i => by show turnW _ _ i ≤ 99; unfold turnW; split <;> exact hob.2.2.2 _⟩
          refine g_aload_n dX6_best_77 rfl rfl ?_
          refine g_aload_n dX6_best_78 rfl rfl ?_
          refine g_getR dX6_best_79 fl_X6_57 rfl rfl ?_
          refine g_iload_n dX6_best_82 rfl rfl ?_
          refine g_callVi dX6_best_83 mi_X6_bestDip ml_X6_264 (ct_bestDip (b := if w = nI 1 then turnB (sBs (yN y) q) else sBs (yN y) q) isB_58 (by omega) (by first | exact h.sc ho (Sc.s (Sm.tr a3 (h74.2.up (by omega) (by omega))) (by omega)) | exact hy) ho (by first | (rw [if_pos c_67]; exact h74.1) | (rw [if_neg c_67]; exact hB)) (by first | (rw [if_pos c_67]; exact hok) | (rw [if_neg c_67]; exact hob)) hc) rfl rfl rfl rfl (Nat.le_of_ble_eq_true rfl) ⟨lt_r rfl, Nat.le_of_ble_eq_true rfl⟩ (fun x83 M83 h83 => ?_)
          refine g_iret dX6_best_86 ⟨_, rfl, ?_⟩
          have e5 : (if w = nI 1 then turnB (sBs (yN y) q) else sBs (yN y) q).2.2.1 = (sBs (yN y) q).2.2.1 := by split <;> rfl
          rw [e5] at h83
          first | exact QY.s h ho (Sc.tr (Sc.s (Sm.tr a3 (h74.2.up (by omega) (by omega))) (by omega)) (Sc.s h83.2 (by omega))) (by rw [h83.1]) | exact QY.s h ho (Sc.tr (Sc.s a3 (by omega)) (Sc.s h83.2 (by omega))) (by rw [h83.1])
      · refine g_aload_n dX6_best_42 rfl rfl ?_
        refine g_bipush dX6_best_43 kB_6 ?_
        refine g_callVi dX6_best_45 mi_X6_refused ml_X6_83 (ct_X6_refused h ho (by decide) (by decide)) rfl rfl rfl rfl (Nat.le_of_ble_eq_true rfl) ⟨lt_r rfl, Nat.le_of_ble_eq_true rfl⟩ (fun x45 M45 h45 => ?_)
        refine g_iret dX6_best_48 ⟨_, rfl, ?_⟩
        exact QY.rf ho (by unfold o_best; rw [if_neg (fun z => z c_8), if_neg (fun z => z c_23), if_pos c_39]) h45
    · refine g_aload_n dX6_best_26 rfl rfl ?_
      refine g_iconst dX6_best_27 kI_5 ?_
      refine g_callVi dX6_best_28 mi_X6_refused ml_X6_83 (ct_X6_refused h ho (by decide) (by decide)) rfl rfl rfl rfl (Nat.le_of_ble_eq_true rfl) ⟨lt_r rfl, Nat.le_of_ble_eq_true rfl⟩ (fun x28 M28 h28 => ?_)
      refine g_iret dX6_best_31 ⟨_, rfl, ?_⟩
      exact QY.rf ho (by unfold o_best; rw [if_neg (fun z => z c_8), if_pos c_23]) h28
  · refine g_aload_n dX6_best_11 rfl rfl ?_
    refine g_iconst dX6_best_12 kI_1 ?_
    refine g_callVi dX6_best_13 mi_X6_refused ml_X6_83 (ct_X6_refused h ho (by decide) (by decide)) rfl rfl rfl rfl (Nat.le_of_ble_eq_true rfl) ⟨lt_r rfl, Nat.le_of_ble_eq_true rfl⟩ (fun x13 M13 h13 => ?_)
    refine g_iret dX6_best_16 ⟨_, rfl, ?_⟩
    exact QY.rf ho (if_pos c_8) h13
end X6L
