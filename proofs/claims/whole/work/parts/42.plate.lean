/-! plate: the worths of all places -/
def platW (y : Sys) (d s c p q : Nat) : Nat := wrY y (dunkD (sBs (yN y) q) (heatN (sHt (yN y)) (sLo (yN y)) (sSe (yN y)) (nI (p * (s + c)))) d s c)
/-- the table, filled for places before p, and at p for biscuits before q -/
def PT (B : Nat) (M : MM) (W : Nat → Nat → Nat) (n p q : Nat) : Prop := ∀ p' q', p' < n → q' < n → (p' < p ∨ (p' = p ∧ q' < q)) → M.1 (B + 61) (q' * 5 + p') = nI (W p' q')
theorem PT.sm {B : Nat} {M M' : MM} {W : Nat → Nat → Nat} {n p q lo hi : Nat} (h : PT B M W n p q) (hS : Sm B M M' lo hi) (h1 : 61 < lo ∨ hi ≤ 61) : PT B M' W n p q := by
  unfold PT
  rw [hS.i (by omega)]
  exact h
theorem PT.put {B : Nat} {M : MM} {W : Nat → Nat → Nat} {n p q : Nat} (hn : n ≤ 5) (h : PT B M W n p q) (hp : p < n) : PT B (upI M (B + 61) (q * 5 + p) (nI (W p q))) W n p (q + 1) := by
  intro p' q' h1 h2 h3
  by_cases e : p' = p ∧ q' = q
  · rw [e.1, e.2, upI_s]
  · rw [upI_k (by omega)]
    exact h p' q' h1 h2 (by omega)
section X6M
variable {E : EE} {B : Nat} {M : MM} {k : Nat}
theorem lp_fillQ {y : Sys} {d s c p : Nat} {M0 : MM} {F : Option Value → MM → Prop} (hY : RY B M0 y) (ho : okY y) (h5 : sCn (yN y) ≤ 5) (hd : d ≤ 12) (hs : s ≤ 60) (hc : c ≤ 60) (hp : p < sCn (yN y))
    (hend : ∀ M', PT B M' (platW y d s c) (sCn (yN y)) p (sCn (yN y)) → Sc B M0 M' → G E B cX6_fillPlateWorths (RX6, 7, none, rmD 5, 0, 0, KM E B F) 114 [(0, .ref (B + 0)), (1, .int (nI d)), (2, .int (nI s)), (3, .int (nI c)), (4, .int (nI p))] [] M') :
    ∀ (n q : Nat), n + q = sCn (yN y) → ∀ M', PT B M' (platW y d s c) (sCn (yN y)) p q → Sc B M0 M' →
    G E B cX6_fillPlateWorths (RX6, 7, none, rmD 5, 0, 0, KM E B F) 33 [(0, .ref (B + 0)), (1, .int (nI d)), (2, .int (nI s)), (3, .int (nI c)), (4, .int (nI p)), (5, .int (nI (heatN (sHt (yN y)) (sLo (yN y)) (sSe (yN y)) (nI (p * (s + c)))))), (6, .int (nI q))] [] M' := by
  have hh := (heatN_ok (ht := sHt (yN y)) (lo := sLo (yN y)) (se := sSe (yN y)) (more := nI (p * (s + c)))).2
  intro n
  induction n with
  | zero =>
    intro q h1 M' hT hS
    have hY' := hY.sc ho hS
    refine g_iload dX6_fillPlateWorths_33 rfl ?_
    refine g_aload_n dX6_fillPlateWorths_35 rfl rfl ?_
    refine g_getR dX6_fillPlateWorths_36 fl_X6_18 rfl rfl ?_
    refine g_getI dX6_fillPlateWorths_39 fl_X6_270 isS_2.1 rfl (hY'.2.1.2.2.1) ?_
    refine g_icmp_geN (tgt := 114) dX6_fillPlateWorths_42 (by decide) rfl rfl (by omega) (by omega) (fun c_42 => ?_) (fun c_42 => absurd c_42 (by omega))
    have e : q = sCn (yN y) := by omega
    rw [e] at hT
    exact g_le (lvLe_c rfl (lvLe_c rfl (lvLe_c rfl (lvLe_c rfl (lvLe_c rfl lvLe_0))))) (hend M' hT hS)
  | succ n ih =>
    intro q h1 M' hT hS
    have hY' := hY.sc ho hS
    have hq : q < sCn (yN y) := by omega
    have hob := ho.2.1.1 q hq
    refine g_iload dX6_fillPlateWorths_33 rfl ?_
    refine g_aload_n dX6_fillPlateWorths_35 rfl rfl ?_
    refine g_getR dX6_fillPlateWorths_36 fl_X6_18 rfl rfl ?_
    refine g_getI dX6_fillPlateWorths_39 fl_X6_270 isS_2.1 rfl (hY'.2.1.2.2.1) ?_
    refine g_icmp_geN (tgt := 114) dX6_fillPlateWorths_42 (by decide) rfl rfl (by omega) (by omega) (fun c_42 => absurd c_42 (by omega)) (fun c_42 => ?_)
    refine g_aload_n dX6_fillPlateWorths_45 rfl rfl ?_
    refine g_getR dX6_fillPlateWorths_46 fl_X6_31 rfl rfl ?_
    refine g_aload_n dX6_fillPlateWorths_49 rfl rfl ?_
    refine g_getR dX6_fillPlateWorths_50 fl_X6_18 rfl rfl ?_
    refine g_getR dX6_fillPlateWorths_53 fl_X6_141 isS_2.1 rfl ?_
    refine g_iload dX6_fillPlateWorths_56 rfl ?_
    refine g_aald dX6_fillPlateWorths_58 isS_2.2.1 rfl (isS_b (by omega)) ?_
    refine g_iload dX6_fillPlateWorths_59 rfl ?_
    refine g_callVv dX6_fillPlateWorths_61 mi_X2_begin ml_X6_233 (ct_X2_begin isD_47 (isS_2.2.2.2 _ (by omega)) (by omega) (hY'.2.1.1 q hq) hob) isD_47.1 rfl rfl rfl (Nat.le_of_ble_eq_true rfl) ⟨lt_r rfl, Nat.le_of_ble_eq_true rfl⟩ (fun M61 h61 => ?_)
    refine g_aload_n dX6_fillPlateWorths_64 rfl rfl ?_
    refine g_getR dX6_fillPlateWorths_65 fl_X6_31 rfl rfl ?_
    refine g_iload_n dX6_fillPlateWorths_68 rfl rfl ?_
    refine g_iload_n dX6_fillPlateWorths_69 rfl rfl ?_
    refine g_callVv dX6_fillPlateWorths_70 mi_X2_stay ml_X6_247 (ct_X2_stay isD_47 h61.1 (new_ok hob) hh (by omega) (by omega)) isD_47.1 rfl rfl rfl (Nat.le_of_ble_eq_true rfl) ⟨lt_r rfl, Nat.le_of_ble_eq_true rfl⟩ (fun M70 h70 => ?_)
    refine g_aload_n dX6_fillPlateWorths_73 rfl rfl ?_
    refine g_getR dX6_fillPlateWorths_74 fl_X6_31 rfl rfl ?_
    refine g_iconst dX6_fillPlateWorths_77 kI_0 ?_
    refine g_iload_n dX6_fillPlateWorths_78 rfl rfl ?_
    refine g_callVv dX6_fillPlateWorths_79 mi_X2_stay ml_X6_247 (ct_X2_stay isD_47 (d := 0) h70.1 (dipD_ok hob) hh (by decide) (by omega)) isD_47.1 rfl rfl rfl (Nat.le_of_ble_eq_true rfl) ⟨lt_r rfl, Nat.le_of_ble_eq_true rfl⟩ (fun M79 h79 => ?_)
    have g4 := Sm.tr (Sm.tr h61.2 h70.2) h79.2
    have hS4 := hS.tr (Sc.s g4 (by omega))
    have hY4 := hY.sc ho hS4
    refine g_aload_n dX6_fillPlateWorths_82 rfl rfl ?_
    refine g_getR dX6_fillPlateWorths_83 fl_X6_65 rfl rfl ?_
    refine g_iload dX6_fillPlateWorths_86 rfl ?_
    refine g_iconst dX6_fillPlateWorths_88 kI_5 ?_
    refine g_imul dX6_fillPlateWorths_89 (pk_mul _ _) ?_
    refine g_iload dX6_fillPlateWorths_90 rfl ?_
    refine g_iadd dX6_fillPlateWorths_92 (nI_add _ _) ?_
    refine g_aload_n dX6_fillPlateWorths_93 rfl rfl ?_
    refine g_getR dX6_fillPlateWorths_94 fl_X6_18 rfl rfl ?_
    refine g_aload_n dX6_fillPlateWorths_97 rfl rfl ?_
    refine g_getR dX6_fillPlateWorths_98 fl_X6_31 rfl rfl ?_
    refine g_getR dX6_fillPlateWorths_101 fl_X6_225 isD_47.1 rfl ?_
    refine g_callVp dX6_fillPlateWorths_104 mi_X5_worthOfCells ml_X6_253 (ct_X5_worthOfCells isS_2 isD_47.2 hY4.2.1 ho.2.1 h79.1.1 (dunk_ok hob).1) isS_2.1 rfl rfl rfl (Nat.le_of_ble_eq_true rfl) ⟨lt_r rfl, Nat.le_of_ble_eq_true rfl⟩ ?_
    refine g_iast dX6_fillPlateWorths_107 rfl rfl (by omega) ?_
    refine g_iinc dX6_fillPlateWorths_108 rfl (inc_nI _) rfl ?_
    refine g_goto (tgt := 33) dX6_fillPlateWorths_111 (by decide) ?_
    exact g_le (lvLe_c rfl (lvLe_c rfl (lvLe_c rfl (lvLe_c rfl (lvLe_c rfl (lvLe_c rfl (lvLe_c rfl lvLe_0))))))) (ih (q + 1) (by omega) _ (PT.put h5 (hT.sm g4 (by omega)) hp) (hS4.tr (Sc.s (lo := 61) (hi := 62) (Sm.pI (by omega) (by omega)) (by omega))))
theorem lp_fillP {y : Sys} {d s c : Nat} {M0 : MM} (hY : RY B M0 y) (ho : okY y) (h5 : sCn (yN y) ≤ 5) (hd : d ≤ 12) (hs : s ≤ 60) (hc : c ≤ 60) : ∀ (n p : Nat), n + p = sCn (yN y) → ∀ M', PT B M' (platW y d s c) (sCn (yN y)) p 0 → Sc B M0 M' →
    G E B cX6_fillPlateWorths (RX6, 7, none, rmD 5, 0, 0, KM E B (Rv (fun M2 => PT B M2 (platW y d s c) (sCn (yN y)) (sCn (yN y)) 0 ∧ Sc B M0 M2))) 3 [(0, .ref (B + 0)), (1, .int (nI d)), (2, .int (nI s)), (3, .int (nI c)), (4, .int (nI p))] [] M' := by
  intro n
  induction n with
  | zero =>
    intro p h1 M' hT hS
    have hY' := hY.sc ho hS
    refine g_iload dX6_fillPlateWorths_3 rfl ?_
    refine g_aload_n dX6_fillPlateWorths_5 rfl rfl ?_
    refine g_getR dX6_fillPlateWorths_6 fl_X6_18 rfl rfl ?_
    refine g_getI dX6_fillPlateWorths_9 fl_X6_270 isS_2.1 rfl (hY'.2.1.2.2.1) ?_
    refine g_icmp_geN (tgt := 120) dX6_fillPlateWorths_12 (by decide) rfl rfl (by omega) (by omega) (fun c_12 => ?_) (fun c_12 => absurd c_12 (by omega))
    refine g_vret dX6_fillPlateWorths_120 ⟨rfl, ?_⟩
    have e : p = sCn (yN y) := by omega
    rw [e] at hT
    exact ⟨hT, hS⟩
  | succ n ih =>
    intro p h1 M' hT hS
    have hY' := hY.sc ho hS
    have hp : p < sCn (yN y) := by omega
    have hend : ∀ M', PT B M' (platW y d s c) (sCn (yN y)) p (sCn (yN y)) → Sc B M0 M' → G E B cX6_fillPlateWorths (RX6, 7, none, rmD 5, 0, 0, KM E B (Rv (fun M2 => PT B M2 (platW y d s c) (sCn (yN y)) (sCn (yN y)) 0 ∧ Sc B M0 M2))) 114 [(0, .ref (B + 0)), (1, .int (nI d)), (2, .int (nI s)), (3, .int (nI c)), (4, .int (nI p))] [] M' := by
      intro M2 hT2 hS2
      refine g_iinc dX6_fillPlateWorths_114 rfl (inc_nI _) rfl ?_
      refine g_goto (tgt := 3) dX6_fillPlateWorths_117 (by decide) ?_
      exact g_le (lvLe_c rfl (lvLe_c rfl (lvLe_c rfl (lvLe_c rfl (lvLe_c rfl lvLe_0))))) (ih (p + 1) (by omega) M2 (fun p' q' a1 a2 a3 => hT2 p' q' a1 a2 (by omega)) hS2)
    refine g_iload dX6_fillPlateWorths_3 rfl ?_
    refine g_aload_n dX6_fillPlateWorths_5 rfl rfl ?_
    refine g_getR dX6_fillPlateWorths_6 fl_X6_18 rfl rfl ?_
    refine g_getI dX6_fillPlateWorths_9 fl_X6_270 isS_2.1 rfl (hY'.2.1.2.2.1) ?_
    refine g_icmp_geN (tgt := 120) dX6_fillPlateWorths_12 (by decide) rfl rfl (by omega) (by omega) (fun c_12 => absurd c_12 (by omega)) (fun c_12 => ?_)
    refine g_aload_n dX6_fillPlateWorths_15 rfl rfl ?_
    refine g_getR dX6_fillPlateWorths_16 fl_X6_18 rfl rfl ?_
    refine g_iload dX6_fillPlateWorths_19 rfl ?_
    refine g_iload_n dX6_fillPlateWorths_21 rfl rfl ?_
    refine g_iload_n dX6_fillPlateWorths_22 rfl rfl ?_
    refine g_iadd dX6_fillPlateWorths_23 (nI_add _ _) ?_
    refine g_imul dX6_fillPlateWorths_24 (pk_mul _ _) ?_
    refine g_callVp dX6_fillPlateWorths_25 mi_X5_heatAfter ml_X6_359 (ct_X5_heatAfter isS_2 hY'.2.1 ho.2.1) isS_2.1 rfl rfl rfl (Nat.le_of_ble_eq_true rfl) ⟨lt_r rfl, Nat.le_of_ble_eq_true rfl⟩ ?_
    refine g_istore dX6_fillPlateWorths_28 (lt_r rfl) rfl ?_
    refine g_iconst dX6_fillPlateWorths_30 kI_0 ?_
    refine g_istore dX6_fillPlateWorths_31 (lt_r rfl) rfl ?_
    exact g_le (lvLe_c rfl (lvLe_c rfl (lvLe_c rfl (lvLe_c rfl (lvLe_c rfl (lvLe_c rfl (lvLe_c rfl lvLe_0))))))) (lp_fillQ hY ho h5 hd hs hc hp hend (sCn (yN y)) 0 rfl M' hT hS)
theorem ct_fill {y : Sys} {d s c : Nat} (hY : RY B M y) (ho : okY y) (h5 : sCn (yN y) ≤ 5) (hd : d ≤ 12) (hs : s ≤ 60) (hc : c ≤ 60) : Ct E B yX6_fillPlateWorths cX6_fillPlateWorths 7 none 5 [.ref (B + 0), .int (nI d), .int (nI s), .int (nI c)] M (Rv (fun M2 => PT B M2 (platW y d s c) (sCn (yN y)) (sCn (yN y)) 0 ∧ Sc B M M2)) := by
  refine Ct.of2 (own := RX6) (lv := [(0, .ref (B + 0)), (1, .int (nI d)), (2, .int (nI s)), (3, .int (nI c))]) pn_X6 rfl (Nat.le_of_ble_eq_true rfl) rfl ?_
  refine g_iconst dX6_fillPlateWorths_0 kI_0 ?_
  refine g_istore dX6_fillPlateWorths_1 (lt_r rfl) rfl ?_
  exact g_le (lvLe_c rfl (lvLe_c rfl (lvLe_c rfl (lvLe_c rfl (lvLe_c rfl lvLe_0))))) (lp_fillP hY ho h5 hd hs hc (sCn (yN y)) 0 rfl M (fun p' q' a1 a2 a3 => by omega) Sc.rf)
end X6M
