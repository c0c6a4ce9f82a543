/-! rule, fetch, back, heats -/
def ruleS (x n h : Nat) : Nat := min 60 (x - h / n)
def o_rule (y : Sys) (x n d c : Int32) : Int32 × Sys :=
  if ¬ ((nI 0 ≤ x ∧ x ≤ nI 99) ∧ (nI 1 ≤ n ∧ n ≤ nI 99) ∧ dOk d (nI 0) c) then rz y 6 else (nI (sumN (fun q => wrY y (dunkD (sBs (yN y) q) (sHt (yN y)) (tn d) (ruleS (tn x) (tn n) (sHt (yN y))) (tn c))) (sCn (yN y))), y)
def bit1 (q : Nat) : Int32 := nI 1 <<< (nI q &&& 31)
def fetF (P : Nat → Bool) : Nat → Int32
  | 0 => nI 0
  | n + 1 => if P n = true then fetF P n ||| bit1 n else fetF P n
def fetP (y : Sys) (d s : Nat) (q : Nat) : Bool := decide (d ≤ (sBs (yN y) q).2.2.1 ∧ (dunkD (sBs (yN y) q) (sHt (yN y)) d s 0).2.2.2.1 = 0)
def o_fetch (y : Sys) (d s : Int32) : Int32 × Sys := if ¬ ((nI 1 ≤ d ∧ d ≤ nI 12) ∧ nI 0 ≤ s ∧ s ≤ nI 60) then rz y 6 else (fetF (fetP y (tn d) (tn s)) (sCn (yN y)), y)
theorem sumN_s {f : Nat → Nat} {n : Nat} : sumN f (n + 1) = sumN f n + f n := rfl
theorem rule_s {x n h : Nat} (hx : x ≤ 99) (hn : 1 ≤ n) (hh : h < 2 ^ 31) : (if nI 0 < (if nI x - nI (h / n) < nI 60 then nI x - nI (h / n) else nI 60) then (if nI x - nI (h / n) < nI 60 then nI x - nI (h / n) else nI 60) else nI 0) = nI (ruleS x n h) := by
  have hd : h / n ≤ h := Nat.div_le_self _ _
  unfold ruleS
  generalize h / n = k at hd ⊢
  by_cases c : k ≤ x
  · rw [pk_sub c]
    by_cases c2 : x - k < 60
    · rw [if_pos ((nI_ltI (by omega) (by decide)).mpr c2), Nat.min_eq_right (show x - k ≤ 60 by omega)]
      by_cases c3 : 0 < x - k
      · rw [if_pos ((nI_ltI (by decide) (by omega)).mpr c3)]
      · rw [if_neg (fun z => c3 ((nI_ltI (by decide) (by omega)).mp z)), show x - k = 0 by omega]
    · rw [if_neg (fun z => c2 ((nI_ltI (by omega) (by decide)).mp z)), Nat.min_eq_left (show 60 ≤ x - k by omega), if_pos (by decide)]
  · have h3 := sub_lt0 (a := x) (b := k) (by omega) (by omega)
    have e60 : nI x - nI k < nI 60 := by
      rw [Int32.lt_iff_toInt_lt] at h3 ⊢
      have e1 : (0 : Int32).toInt = 0 := rfl
      have e2 : (nI 60).toInt = 60 := rfl
      omega
    rw [if_pos e60, if_neg (fun z : nI 0 < _ => by
      rw [Int32.lt_iff_toInt_lt] at h3 z
      have e1 : (0 : Int32).toInt = 0 := rfl
      have e2 : (nI 0).toInt = 0 := rfl
      omega), show x - k = 0 by omega]
    rfl
section X6I
variable {E : EE} {B : Nat} {M : MM}
theorem lp_rule {y : Sys} {M0 : MM} {x d c : Nat} (hY : RY B M0 y) (ho : okY y) (hd : d ≤ 12) (hx : x ≤ 60) (hc : c ≤ 60) : ∀ (n i : Nat), n + i = sCn (yN y) → ∀ M', Sm B M0 M' 47 50 →
    G E B cX6_rule (RX6, 8, some .int, rmD 5, 0, 0, KM E B (QY B M0 (nI (sumN (fun q => wrY y (dunkD (sBs (yN y) q) (sHt (yN y)) d x c)) (sCn (yN y))), y))) 65 [(0, .ref (B + 0)), (3, .int (nI d)), (4, .int (nI c)), (5, .int (nI x)), (6, .int (nI (sumN (fun q => wrY y (dunkD (sBs (yN y) q) (sHt (yN y)) d x c)) i))), (7, .int (nI i))] [] M' := by
  have hcn := ho.2.1.2.2.1
  intro n
  induction n with
  | zero =>
    intro i h1 M' hS
    have hY' := hY.sc ho (Sc.s hS (by omega))
    refine g_iload dX6_rule_65 rfl ?_
    refine g_aload_n dX6_rule_67 rfl rfl ?_
    refine g_getR dX6_rule_68 fl_X6_18 rfl rfl ?_
    refine g_getI dX6_rule_71 fl_X6_270 isS_2.1 rfl (hY'.2.1.2.2.1) ?_
    refine g_icmp_geN (tgt := 121) dX6_rule_74 (by decide) rfl rfl (by omega) (by omega) (fun c_74 => ?_) (fun c_74 => absurd c_74 (by omega))
    refine g_iload dX6_rule_121 rfl ?_
    refine g_iret dX6_rule_123 ⟨_, rfl, ?_⟩
    have e : i = sCn (yN y) := by omega
    subst e
    exact QY.s hY ho (Sc.s hS (by omega)) rfl
  | succ n ih =>
    intro i h1 M' hS
    have hY' := hY.sc ho (Sc.s hS (by omega))
    have hi : i < sCn (yN y) := by omega
    refine g_iload dX6_rule_65 rfl ?_
    refine g_aload_n dX6_rule_67 rfl rfl ?_
    refine g_getR dX6_rule_68 fl_X6_18 rfl rfl ?_
    refine g_getI dX6_rule_71 fl_X6_270 isS_2.1 rfl (hY'.2.1.2.2.1) ?_
    refine g_icmp_geN (tgt := 121) dX6_rule_74 (by decide) rfl rfl (by omega) (by omega) (fun c_74 => absurd c_74 (by omega)) (fun c_74 => ?_)
    refine g_aload_n dX6_rule_77 rfl rfl ?_
    refine g_aload_n dX6_rule_78 rfl rfl ?_
    refine g_getR dX6_rule_79 fl_X6_18 rfl rfl ?_
    refine g_getR dX6_rule_82 fl_X6_141 isS_2.1 rfl ?_
    refine g_iload dX6_rule_85 rfl ?_
    refine g_aald dX6_rule_87 isS_2.2.1 rfl (isS_b (by omega)) ?_
    refine g_iload_n dX6_rule_88 rfl rfl ?_
    refine g_iload dX6_rule_89 rfl ?_
    refine g_iload dX6_rule_91 rfl ?_
    refine g_callVv dX6_rule_93 mi_X6_dunkAndCarry ml_X6_221 (cx_dunk hY' ho (isS_2.2.2.2 _ (by omega)) (by omega) (hY'.2.1.1 i hi) (ho.2.1.1 i hi) hd hx hc) rfl rfl rfl rfl (Nat.le_of_ble_eq_true rfl) ⟨lt_r rfl, Nat.le_of_ble_eq_true rfl⟩ (fun M93 h93 => ?_)
    have hY2 := hY'.sc ho (Sc.s h93.2 (by omega))
    refine g_iload dX6_rule_96 rfl ?_
    refine g_aload_n dX6_rule_98 rfl rfl ?_
    refine g_getR dX6_rule_99 fl_X6_18 rfl rfl ?_
    refine g_aload_n dX6_rule_102 rfl rfl ?_
    refine g_getR dX6_rule_103 fl_X6_31 rfl rfl ?_
    refine g_getR dX6_rule_106 fl_X6_225 isD_47.1 rfl ?_
    refine g_callVp dX6_rule_109 mi_X5_worthOfCells ml_X6_253 (ct_X5_worthOfCells isS_2 isD_47.2 hY2.2.1 ho.2.1 h93.1.1 (dunk_ok (ho.2.1.1 i hi)).1) isS_2.1 rfl rfl rfl (Nat.le_of_ble_eq_true rfl) ⟨lt_r rfl, Nat.le_of_ble_eq_true rfl⟩ ?_
    refine g_iadd dX6_rule_112 (nI_add _ _) ?_
    refine g_istore dX6_rule_113 (lt_r rfl) rfl ?_
    refine g_iinc dX6_rule_115 rfl (inc_nI _) rfl ?_
    refine g_goto (tgt := 65) dX6_rule_118 (by decide) ?_
    have ih2 := ih (i + 1) (by omega) M93 (hS.tr h93.2)
    rw [sumN_s] at ih2
    exact g_le (lvLe_c rfl (lvLe_c rfl (lvLe_c rfl (lvLe_c rfl (lvLe_c rfl (lvLe_c rfl lvLe_0)))))) ih2
theorem cx_rule {y : Sys} {x n d c : Int32} (h : RY B M y) (ho : okY y) : Ct E B yX6_rule cX6_rule 8 (some .int) 5 [.ref (B + 0), .int x, .int n, .int d, .int c] M (QY B M (o_rule y x n d c)) := by
  have hcn := ho.2.1.2.2.1
  have hh := ho.2.1.2.2.2.1
  refine Ct.of2 (own := RX6) (lv := [(0, .ref (B + 0)), (1, .int x), (2, .int n), (3, .int d), (4, .int c)]) pn_X6 rfl (Nat.le_of_ble_eq_true rfl) rfl ?_
  refine g_iload_n dX6_rule_0 rfl rfl ?_
  refine g_iconst dX6_rule_1 kI_0 ?_
  refine g_bipush dX6_rule_2 kB_99 ?_
  refine g_callSp dX6_rule_4 ms_X6_isWithin ml_X6_87 (ct_X6_isWithin) rfl rfl (Nat.le_of_ble_eq_true rfl) ⟨lt_r rfl, Nat.le_of_ble_eq_true rfl⟩ ?_
  refine g_if_eqP (tgt := 30) dX6_rule_7 (by decide) (fun c_7 => ?_) (fun c_7 => ?_)
  · refine g_aload_n dX6_rule_30 rfl rfl ?_
    refine g_bipush dX6_rule_31 kB_6 ?_
    refine g_callVi dX6_rule_33 mi_X6_refused ml_X6_83 (ct_X6_refused h ho (by decide) (by decide)) rfl rfl rfl rfl (Nat.le_of_ble_eq_true rfl) ⟨lt_r rfl, Nat.le_of_ble_eq_true rfl⟩ (fun x33 M33 h33 => ?_)
    refine g_iret dX6_rule_36 ⟨_, rfl, ?_⟩
    exact QY.rf ho (if_pos (fun z => by first | exact c_7 z.1 | exact c_17 z.2.1 | exact c_27 z.2.2)) h33
  · refine g_iload_n dX6_rule_10 rfl rfl ?_
    refine g_iconst dX6_rule_11 kI_1 ?_
    refine g_bipush dX6_rule_12 kB_99 ?_
    refine g_callSp dX6_rule_14 ms_X6_isWithin ml_X6_87 (ct_X6_isWithin) rfl rfl (Nat.le_of_ble_eq_true rfl) ⟨lt_r rfl, Nat.le_of_ble_eq_true rfl⟩ ?_
    refine g_if_eqP (tgt := 30) dX6_rule_17 (by decide) (fun c_17 => ?_) (fun c_17 => ?_)
    · refine g_aload_n dX6_rule_30 rfl rfl ?_
      refine g_bipush dX6_rule_31 kB_6 ?_
      refine g_callVi dX6_rule_33 mi_X6_refused ml_X6_83 (ct_X6_refused h ho (by decide) (by decide)) rfl rfl rfl rfl (Nat.le_of_ble_eq_true rfl) ⟨lt_r rfl, Nat.le_of_ble_eq_true rfl⟩ (fun x33 M33 h33 => ?_)
      refine g_iret dX6_rule_36 ⟨_, rfl, ?_⟩
      exact QY.rf ho (if_pos (fun z => by first | exact c_7 z.1 | exact c_17 z.2.1 | exact c_27 z.2.2)) h33
    · refine g_iload_n dX6_rule_20 rfl rfl ?_
      refine g_iconst dX6_rule_21 kI_0 ?_
      refine g_iload dX6_rule_22 rfl ?_
      refine g_callSp dX6_rule_24 ms_X6_mayBeDunk ml_X6_227 (ct_X6_mayBeDunk) rfl rfl (Nat.le_of_ble_eq_true rfl) ⟨lt_r rfl, Nat.le_of_ble_eq_true rfl⟩ ?_
      refine g_if_neP (tgt := 37) dX6_rule_27 (by decide) (fun c_27 => ?_) (fun c_27 => ?_)
      · have e9 : o_rule y x n d c = _ := if_neg (fun z => z ⟨c_7, c_17, c_27⟩)
        rw [e9]
        obtain ⟨z2, -, z4⟩ := c_27
        obtain ⟨x', -, hx, rfl, f1⟩ := btw_n (by decide) (by decide) c_7
        obtain ⟨n', hn1, hn, rfl, f2⟩ := btw_n (by decide) (by decide) c_17
        obtain ⟨d', -, hd, rfl, f3⟩ := btw_n (by decide) (by decide) z2
        obtain ⟨c', -, hc, rfl, f4⟩ := btw_n (by decide) (by decide) z4
        rw [f1, f2, f3, f4]
        refine g_iconst dX6_rule_37 kI_0 ?_
        refine g_bipush dX6_rule_38 kB_60 ?_
        refine g_iload_n dX6_rule_40 rfl rfl ?_
        refine g_aload_n dX6_rule_41 rfl rfl ?_
        refine g_getR dX6_rule_42 fl_X6_18 rfl rfl ?_
        refine g_getI dX6_rule_45 fl_X6_181 isS_2.1 rfl (h.2.1.2.2.2.1) ?_
        refine g_iload_n dX6_rule_48 rfl rfl ?_
        refine g_idiv dX6_rule_49 (nI_ne0 (by omega) (by omega)) (pk_div (by omega) (by omega) (by omega)) ?_
        refine g_isub dX6_rule_50 (rfl) ?_
        refine g_mmin dX6_rule_51 ml_X6_280 rfl ⟨lt_r rfl, Nat.le_of_ble_eq_true rfl⟩ ?_
        refine g_mmax dX6_rule_54 ml_X6_285 (rule_s hx hn1 hh) ⟨lt_r rfl, Nat.le_of_ble_eq_true rfl⟩ ?_
        refine g_istore dX6_rule_57 (lt_r rfl) rfl ?_
        refine g_iconst dX6_rule_59 kI_0 ?_
        refine g_istore dX6_rule_60 (lt_r rfl) rfl ?_
        refine g_iconst dX6_rule_62 kI_0 ?_
        refine g_istore dX6_rule_63 (lt_r rfl) rfl ?_
        exact g_le (lvLe_c rfl (lvLe_c rfl (lvLe_c rfl (lvLe_c rfl (lvLe_c rfl (lvLe_c rfl lvLe_0)))))) (lp_rule h ho hd (Nat.min_le_left _ _) hc (sCn (yN y)) 0 rfl M Sm.rf)
      · refine g_aload_n dX6_rule_30 rfl rfl ?_
        refine g_bipush dX6_rule_31 kB_6 ?_
        refine g_callVi dX6_rule_33 mi_X6_refused ml_X6_83 (ct_X6_refused h ho (by decide) (by decide)) rfl rfl rfl rfl (Nat.le_of_ble_eq_true rfl) ⟨lt_r rfl, Nat.le_of_ble_eq_true rfl⟩ (fun x33 M33 h33 => ?_)
        refine g_iret dX6_rule_36 ⟨_, rfl, ?_⟩
        exact QY.rf ho (if_pos (fun z => by first | exact c_7 z.1 | exact c_17 z.2.1 | exact c_27 z.2.2)) h33
theorem lp_fetch {y : Sys} {M0 : MM} {d s : Nat} (hY : RY B M0 y) (ho : okY y) (hd0 : 1 ≤ d) (hd : d ≤ 12) (hs : s ≤ 60) : ∀ (n i : Nat), n + i = sCn (yN y) → ∀ M', Sm B M0 M' 47 50 →
    G E B cX6_fetch (RX6, 5, some .int, rmD 5, 0, 0, KM E B (QY B M0 (fetF (fetP y d s) (sCn (yN y)), y))) 32 [(0, .ref (B + 0)), (1, .int (nI d)), (2, .int (nI s)), (3, .int (fetF (fetP y d s) i)), (4, .int (nI i))] [] M' := by
  have hcn := ho.2.1.2.2.1
  intro n
  induction n with
  | zero =>
    intro i h1 M' hS
    have hY' := hY.sc ho (Sc.s hS (by omega))
    refine g_iload dX6_fetch_32 rfl ?_
    refine g_aload_n dX6_fetch_34 rfl rfl ?_
    refine g_getR dX6_fetch_35 fl_X6_18 rfl rfl ?_
    refine g_getI dX6_fetch_38 fl_X6_270 isS_2.1 rfl (hY'.2.1.2.2.1) ?_
    refine g_icmp_geN (tgt := 101) dX6_fetch_41 (by decide) rfl rfl (by omega) (by omega) (fun c_41 => ?_) (fun c_41 => absurd c_41 (by omega))
    refine g_iload_n dX6_fetch_101 rfl rfl ?_
    refine g_iret dX6_fetch_102 ⟨_, rfl, ?_⟩
    have e : i = sCn (yN y) := by omega
    subst e
    exact QY.s hY ho (Sc.s hS (by omega)) rfl
  | succ n ih =>
    intro i h1 M' hS
    have hY' := hY.sc ho (Sc.s hS (by omega))
    have hi : i < sCn (yN y) := by omega
    have h12 := (ho.2.1.1 i hi).2.2.1
    have e1 : fetF (fetP y d s) (i + 1) = if fetP y d s i = true then fetF (fetP y d s) i ||| bit1 i else fetF (fetP y d s) i := rfl
    refine g_iload dX6_fetch_32 rfl ?_
    refine g_aload_n dX6_fetch_34 rfl rfl ?_
    refine g_getR dX6_fetch_35 fl_X6_18 rfl rfl ?_
    refine g_getI dX6_fetch_38 fl_X6_270 isS_2.1 rfl (hY'.2.1.2.2.1) ?_
    refine g_icmp_geN (tgt := 101) dX6_fetch_41 (by decide) rfl rfl (by omega) (by omega) (fun c_41 => absurd c_41 (by omega)) (fun c_41 => ?_)
    refine g_aload_n dX6_fetch_44 rfl rfl ?_
    refine g_getR dX6_fetch_45 fl_X6_18 rfl rfl ?_
    refine g_getR dX6_fetch_48 fl_X6_141 isS_2.1 rfl ?_
    refine g_iload dX6_fetch_51 rfl ?_
    refine g_aald dX6_fetch_53 isS_2.2.1 rfl (isS_b (by omega)) ?_
    refine g_getI dX6_fetch_54 fl_X6_162 (isS_2.2.2.2 _ (by omega)).1 rfl ((hY'.2.1.1 i hi).2.2.1) ?_
    refine g_iload_n dX6_fetch_57 rfl rfl ?_
    refine g_icmp_ltN (tgt := 95) dX6_fetch_58 (by decide) rfl rfl (by omega) (by omega) (fun c_58 => ?_) (fun c_58 => ?_)
    · refine g_iinc dX6_fetch_95 rfl (inc_nI _) rfl ?_
      refine g_goto (tgt := 32) dX6_fetch_98 (by decide) ?_
      first | (have ih2 := ih (i + 1) (by omega) M75 (hS.tr h75.2); rw [e1, if_pos (show fetP y d s i = true from decide_eq_true ⟨c_58, c_85⟩)] at ih2; exact g_le (lvLe_c rfl (lvLe_c rfl (lvLe_c rfl (lvLe_c rfl (lvLe_c rfl lvLe_0))))) ih2) | (have ih2 := ih (i + 1) (by omega) M75 (hS.tr h75.2); rw [e1, if_neg (show ¬ fetP y d s i = true from fun z => c_85 (of_decide_eq_true z).2)] at ih2; exact g_le (lvLe_c rfl (lvLe_c rfl (lvLe_c rfl (lvLe_c rfl (lvLe_c rfl lvLe_0))))) ih2) | (have ih2 := ih (i + 1) (by omega) M' hS; rw [e1, if_neg (show ¬ fetP y d s i = true from fun z => absurd (of_decide_eq_true z).1 (Nat.not_le.mpr c_58))] at ih2; exact g_le (lvLe_c rfl (lvLe_c rfl (lvLe_c rfl (lvLe_c rfl (lvLe_c rfl lvLe_0))))) ih2)
    · refine g_aload_n dX6_fetch_61 rfl rfl ?_
      refine g_aload_n dX6_fetch_62 rfl rfl ?_
      refine g_getR dX6_fetch_63 fl_X6_18 rfl rfl ?_
      refine g_getR dX6_fetch_66 fl_X6_141 isS_2.1 rfl ?_
      refine g_iload dX6_fetch_69 rfl ?_
      refine g_aald dX6_fetch_71 isS_2.2.1 rfl (isS_b (by omega)) ?_
      refine g_iload_n dX6_fetch_72 rfl rfl ?_
      refine g_iload_n dX6_fetch_73 rfl rfl ?_
      refine g_iconst dX6_fetch_74 kI_0 ?_
      refine g_callVv dX6_fetch_75 mi_X6_dunkAndCarry ml_X6_221 (cx_dunk (c := 0) hY' ho (isS_2.2.2.2 _ (by omega)) (by omega) (hY'.2.1.1 i hi) (ho.2.1.1 i hi) hd hs (by decide)) rfl rfl rfl rfl (Nat.le_of_ble_eq_true rfl) ⟨lt_r rfl, Nat.le_of_ble_eq_true rfl⟩ (fun M75 h75 => ?_)
      refine g_aload_n dX6_fetch_78 rfl rfl ?_
      refine g_getR dX6_fetch_79 fl_X6_31 rfl rfl ?_
      refine g_callVp dX6_fetch_82 mi_X2_isWhole ml_X6_250 (ct_X2_isWhole isD_47 h75.1 (dunk_ok (ho.2.1.1 i hi))) isD_47.1 rfl rfl rfl (Nat.le_of_ble_eq_true rfl) ⟨lt_r rfl, Nat.le_of_ble_eq_true rfl⟩ ?_
      refine g_if_eqP (tgt := 95) dX6_fetch_85 (by decide) (fun c_85 => ?_) (fun c_85 => ?_)
      · refine g_iinc dX6_fetch_95 rfl (inc_nI _) rfl ?_
        refine g_goto (tgt := 32) dX6_fetch_98 (by decide) ?_
        first | (have ih2 := ih (i + 1) (by omega) M75 (hS.tr h75.2); rw [e1, if_pos (show fetP y d s i = true from decide_eq_true ⟨c_58, c_85⟩)] at ih2; exact g_le (lvLe_c rfl (lvLe_c rfl (lvLe_c rfl (lvLe_c rfl (lvLe_c rfl lvLe_0))))) ih2) | (have ih2 := ih (i + 1) (by omega) M75 (hS.tr h75.2); rw [e1, if_neg (show ¬ fetP y d s i = true from fun z => c_85 (of_decide_eq_true z).2)] at ih2; exact g_le (lvLe_c rfl (lvLe_c rfl (lvLe_c rfl (lvLe_c rfl (lvLe_c rfl lvLe_0))))) ih2) | (have ih2 := ih (i + 1) (by omega) M' hS; rw [e1, if_neg (show ¬ fetP y d s i = true from fun z => absurd (of_decide_eq_true z).1 (Nat.not_le.mpr c_58))] at ih2; exact g_le (lvLe_c rfl (lvLe_c rfl (lvLe_c rfl (lvLe_c rfl (lvLe_c rfl lvLe_0))))) ih2)
      · refine g_iload_n dX6_fetch_88 rfl rfl ?_
        refine g_iconst dX6_fetch_89 kI_1 ?_
        refine g_iload dX6_fetch_90 rfl ?_
        refine g_ishl dX6_fetch_92 rfl ?_
        refine g_ior dX6_fetch_93 rfl ?_
        refine g_istore_n dX6_fetch_94 rfl (lt_r rfl) rfl ?_
        refine g_iinc dX6_fetch_95 rfl (inc_nI _) rfl ?_
        refine g_goto (tgt := 32) dX6_fetch_98 (by decide) ?_
        first | (have ih2 := ih (i + 1) (by omega) M75 (hS.tr h75.2); rw [e1, if_pos (show fetP y d s i = true from decide_eq_true ⟨c_58, c_85⟩)] at ih2; exact g_le (lvLe_c rfl (lvLe_c rfl (lvLe_c rfl (lvLe_c rfl (lvLe_c rfl lvLe_0))))) ih2) | (have ih2 := ih (i + 1) (by omega) M75 (hS.tr h75.2); rw [e1, if_neg (show ¬ fetP y d s i = true from fun z => c_85 (of_decide_eq_true z).2)] at ih2; exact g_le (lvLe_c rfl (lvLe_c rfl (lvLe_c rfl (lvLe_c rfl (lvLe_c rfl lvLe_0))))) ih2) | (have ih2 := ih (i + 1) (by omega) M' hS; rw [e1, if_neg (show ¬ fetP y d s i = true from fun z => absurd (of_decide_eq_true z).1 (Nat.not_le.mpr c_58))] at ih2; exact g_le (lvLe_c rfl (lvLe_c rfl (lvLe_c rfl (lvLe_c rfl (lvLe_c rfl lvLe_0))))) ih2)
theorem cx_fetch {y : Sys} {d s : Int32} (h : RY B M y) (ho : okY y) : Ct E B yX6_fetch cX6_fetch 5 (some .int) 5 [.ref (B + 0), .int d, .int s] M (QY B M (o_fetch y d s)) := by
  refine Ct.of2 (own := RX6) (lv := [(0, .ref (B + 0)), (1, .int d), (2, .int s)]) pn_X6 rfl (Nat.le_of_ble_eq_true rfl) rfl ?_
  refine g_iload_n dX6_fetch_0 rfl rfl ?_
  refine g_iconst dX6_fetch_1 kI_1 ?_
  refine g_bipush dX6_fetch_2 kB_12 ?_
  refine g_callSp dX6_fetch_4 ms_X6_isWithin ml_X6_87 (ct_X6_isWithin) rfl rfl (Nat.le_of_ble_eq_true rfl) ⟨lt_r rfl, Nat.le_of_ble_eq_true rfl⟩ ?_
  refine g_if_eqP (tgt := 20) dX6_fetch_7 (by decide) (fun c_7 => ?_) (fun c_7 => ?_)
  · refine g_aload_n dX6_fetch_20 rfl rfl ?_
    refine g_bipush dX6_fetch_21 kB_6 ?_
    refine g_callVi dX6_fetch_23 mi_X6_refused ml_X6_83 (ct_X6_refused h ho (by decide) (by decide)) rfl rfl rfl rfl (Nat.le_of_ble_eq_true rfl) ⟨lt_r rfl, Nat.le_of_ble_eq_true rfl⟩ (fun x23 M23 h23 => ?_)
    refine g_iret dX6_fetch_26 ⟨_, rfl, ?_⟩
    exact QY.rf ho (if_pos (fun z => by first | exact c_7 z.1 | exact c_17 z.2)) h23
  · refine g_iload_n dX6_fetch_10 rfl rfl ?_
    refine g_iconst dX6_fetch_11 kI_0 ?_
    refine g_bipush dX6_fetch_12 kB_60 ?_
    refine g_callSp dX6_fetch_14 ms_X6_isWithin ml_X6_87 (ct_X6_isWithin) rfl rfl (Nat.le_of_ble_eq_true rfl) ⟨lt_r rfl, Nat.le_of_ble_eq_true rfl⟩ ?_
    refine g_if_neP (tgt := 27) dX6_fetch_17 (by decide) (fun c_17 => ?_) (fun c_17 => ?_)
    · have e9 : o_fetch y d s = _ := if_neg (fun z => z ⟨c_7, c_17⟩)
      rw [e9]
      obtain ⟨d', hd0, hd, rfl, f1⟩ := btw_n (by decide) (by decide) c_7
      obtain ⟨s', -, hs, rfl, f2⟩ := btw_n (by decide) (by decide) c_17
      rw [f1, f2]
      refine g_iconst dX6_fetch_27 kI_0 ?_
      refine g_istore_n dX6_fetch_28 rfl (lt_r rfl) rfl ?_
      refine g_iconst dX6_fetch_29 kI_0 ?_
      refine g_istore dX6_fetch_30 (lt_r rfl) rfl ?_
      exact g_le (lvLe_c rfl (lvLe_c rfl (lvLe_c rfl (lvLe_c rfl (lvLe_c rfl lvLe_0))))) (lp_fetch h ho hd0 hd hs (sCn (yN y)) 0 rfl M Sm.rf)
    · refine g_aload_n dX6_fetch_20 rfl rfl ?_
      refine g_bipush dX6_fetch_21 kB_6 ?_
      refine g_callVi dX6_fetch_23 mi_X6_refused ml_X6_83 (ct_X6_refused h ho (by decide) (by decide)) rfl rfl rfl rfl (Nat.le_of_ble_eq_true rfl) ⟨lt_r rfl, Nat.le_of_ble_eq_true rfl⟩ (fun x23 M23 h23 => ?_)
      refine g_iret dX6_fetch_26 ⟨_, rfl, ?_⟩
      exact QY.rf ho (if_pos (fun z => by first | exact c_7 z.1 | exact c_17 z.2)) h23
end X6I
