/-! the model reads: numbers, what may be -/
theorem numF_s {T : Tx} {n p v : Nat} : numF T (n + 1) p v = if nI 48 ≤ ltr T p ∧ ltr T p ≤ nI 57 then numF T n (p + 1) (v * 10 + digN T p) else (v, p) := rfl
theorem numF_0 {T : Tx} {p v n : Nat} : (numF T (n + 1) p v).2 = p ↔ ¬ (nI 48 ≤ ltr T p ∧ ltr T p ≤ nI 57) := by
  rw [numF_s]
  constructor
  · intro h z
    rw [if_pos z] at h
    have := (numF_ok (T := T) n (p + 1) (v * 10 + digN T p) (v * 10 + digN T p + 1) (Nat.lt_succ_self _)).1
    omega
  · intro z
    rw [if_neg z]
section X7R
variable {E : EE} {B : Nat} {M : MM}
theorem ct_isDigit {T : Tx} {q p : Nat} (h : RXm B M q T) (hq : q < 8) (hT : T.1 ≤ 160) (hp : p < 10000) (hat : M.1 (B + 80) 24 = nI p) : Ct E B yX7_isDigit cX7_isDigit 1 (some .boolean) 0 [.ref (B + 80)] M (Rp (bp (nI 48 ≤ ltr T p ∧ ltr T p ≤ nI 57)) M) := by
  refine Ct.of2 (own := RX7) (lv := [(0, .ref (B + 80))]) pn_X7 rfl (Nat.le_of_ble_eq_true rfl) rfl ?_
  refine g_aload_n dX7_isDigit_0 rfl rfl ?_
  refine g_getI dX7_isDigit_1 fl_X7_119 rfl rfl (hat) ?_
  refine g_aload_n dX7_isDigit_4 rfl rfl ?_
  refine g_getI dX7_isDigit_5 fl_X7_122 rfl rfl (h.2.1) ?_
  refine g_icmp_geN (tgt := 55) dX7_isDigit_8 (by decide) rfl rfl (by omega) (by omega) (fun c_8 => ?_) (fun c_8 => ?_)
  · refine g_iconst dX7_isDigit_55 kI_0 ?_
    refine g_zret dX7_isDigit_56 (by first | exact Or.inl rfl | exact Or.inr rfl | exact bp_01) ⟨_, rfl, ?_⟩
    first | (have c9 : T.1 ≤ p := c_8; exact ⟨bp_f (fun z => by rw [ltr_ge c9] at z; exact absurd z.1 (by decide)), rfl⟩) | (have c9 : ltr T p < nI 48 := c_28; exact ⟨bp_f (fun z => Int32.not_lt.mpr z.1 c9), rfl⟩) | (have c9 : nI 57 < ltr T p := c_48; exact ⟨bp_f (fun z => Int32.not_lt.mpr z.2 c9), rfl⟩) | exact ⟨bp_t ⟨Int32.not_lt.mp c_28, Int32.not_lt.mp c_48⟩, rfl⟩
  · refine g_aload_n dX7_isDigit_11 rfl rfl ?_
    refine g_getR dX7_isDigit_12 fl_X7_56 rfl rfl ?_
    refine g_aload_n dX7_isDigit_15 rfl rfl ?_
    refine g_getI dX7_isDigit_16 fl_X7_125 rfl rfl (h.1) ?_
    refine g_aload_n dX7_isDigit_19 rfl rfl ?_
    refine g_getI dX7_isDigit_20 fl_X7_119 rfl rfl (hat) ?_
    refine g_iadd dX7_isDigit_23 (nI_add _ _) ?_
    refine g_lald dX7_isDigit_24 rfl rfl (by omega) rfl ?_
    refine g_l2i dX7_isDigit_25 ((h.2.2.1 p (by omega)).trans (ltr_lt (by omega)).symm) ?_
    refine g_bipush dX7_isDigit_26 kB_48 ?_
    refine g_icmp_lt (tgt := 55) dX7_isDigit_28 (by decide) (fun c_28 => ?_) (fun c_28 => ?_)
    · refine g_iconst dX7_isDigit_55 kI_0 ?_
      refine g_zret dX7_isDigit_56 (by first | exact Or.inl rfl | exact Or.inr rfl | exact bp_01) ⟨_, rfl, ?_⟩
      first | (have c9 : T.1 ≤ p := c_8; exact ⟨bp_f (fun z => by rw [ltr_ge c9] at z; exact absurd z.1 (by decide)), rfl⟩) | (have c9 : ltr T p < nI 48 := c_28; exact ⟨bp_f (fun z => Int32.not_lt.mpr z.1 c9), rfl⟩) | (have c9 : nI 57 < ltr T p := c_48; exact ⟨bp_f (fun z => Int32.not_lt.mpr z.2 c9), rfl⟩) | exact ⟨bp_t ⟨Int32.not_lt.mp c_28, Int32.not_lt.mp c_48⟩, rfl⟩
    · refine g_aload_n dX7_isDigit_31 rfl rfl ?_
      refine g_getR dX7_isDigit_32 fl_X7_56 rfl rfl ?_
      refine g_aload_n dX7_isDigit_35 rfl rfl ?_
      refine g_getI dX7_isDigit_36 fl_X7_125 rfl rfl (h.1) ?_
      refine g_aload_n dX7_isDigit_39 rfl rfl ?_
      refine g_getI dX7_isDigit_40 fl_X7_119 rfl rfl (hat) ?_
      refine g_iadd dX7_isDigit_43 (nI_add _ _) ?_
      refine g_lald dX7_isDigit_44 rfl rfl (by omega) rfl ?_
      refine g_l2i dX7_isDigit_45 ((h.2.2.1 p (by omega)).trans (ltr_lt (by omega)).symm) ?_
      refine g_bipush dX7_isDigit_46 kB_57 ?_
      refine g_icmp_gt (tgt := 55) dX7_isDigit_48 (by decide) (fun c_48 => ?_) (fun c_48 => ?_)
      · refine g_iconst dX7_isDigit_55 kI_0 ?_
        refine g_zret dX7_isDigit_56 (by first | exact Or.inl rfl | exact Or.inr rfl | exact bp_01) ⟨_, rfl, ?_⟩
        first | (have c9 : T.1 ≤ p := c_8; exact ⟨bp_f (fun z => by rw [ltr_ge c9] at z; exact absurd z.1 (by decide)), rfl⟩) | (have c9 : ltr T p < nI 48 := c_28; exact ⟨bp_f (fun z => Int32.not_lt.mpr z.1 c9), rfl⟩) | (have c9 : nI 57 < ltr T p := c_48; exact ⟨bp_f (fun z => Int32.not_lt.mpr z.2 c9), rfl⟩) | exact ⟨bp_t ⟨Int32.not_lt.mp c_28, Int32.not_lt.mp c_48⟩, rfl⟩
      · refine g_iconst dX7_isDigit_51 kI_1 ?_
        refine g_goto (tgt := 56) dX7_isDigit_52 (by decide) ?_
        refine g_zret dX7_isDigit_56 (by first | exact Or.inl rfl | exact Or.inr rfl | exact bp_01) ⟨_, rfl, ?_⟩
        first | (have c9 : T.1 ≤ p := c_8; exact ⟨bp_f (fun z => by rw [ltr_ge c9] at z; exact absurd z.1 (by decide)), rfl⟩) | (have c9 : ltr T p < nI 48 := c_28; exact ⟨bp_f (fun z => Int32.not_lt.mpr z.1 c9), rfl⟩) | (have c9 : nI 57 < ltr T p := c_48; exact ⟨bp_f (fun z => Int32.not_lt.mpr z.2 c9), rfl⟩) | exact ⟨bp_t ⟨Int32.not_lt.mp c_28, Int32.not_lt.mp c_48⟩, rfl⟩
theorem lp_number {T : Tx} {q : Nat} {M0 : MM} (hq : q < 8) (hT : T.1 ≤ 160) (h0 : RXm B M0 q T) : ∀ (n i p v : Nat) (R : Nat × Nat), n + i = 4 → p < 9000 + i → numF T n p v = R → ∀ M', Fk B M0 M' [] [24, 26, 27] → M'.1 (B + 80) 24 = nI p → M'.1 (B + 80) 26 = nI v →
    G E B cX7_number (RX7, 2, some .boolean, rmD 1, 0, 0, KM E B (Ri (fun r M2 => r = nI 1 ∧ M2.1 (B + 80) 24 = nI R.2 ∧ M2.1 (B + 80) 26 = nI R.1 ∧ Fk B M0 M2 [] [24, 26, 27]))) 23 [(0, .ref (B + 80)), (1, .int (nI i))] [] M' := by
  intro n
  induction n with
  | zero =>
    intro i p v R h1 hp hR M' hF h24 h26
    refine g_iload_n dX7_number_23 rfl rfl ?_
    refine g_iconst dX7_number_24 kI_4 ?_
    refine g_icmp_geN (tgt := 81) dX7_number_25 (by decide) rfl rfl (by omega) (by omega) (fun c_25 => ?_) (fun c_25 => absurd c_25 (by omega))
    refine g_iconst dX7_number_81 kI_1 ?_
    refine g_zret dX7_number_82 (by first | exact Or.inl rfl | exact Or.inr rfl | exact bp_01) ⟨_, rfl, ?_⟩
    subst hR
    exact ⟨rfl, h24, h26, hF⟩
  | succ n ih =>
    intro i p v R h1 hp hR M' hF h24 h26
    have h := h0.fk hF (by decide) (by decide)
    rw [numF_s] at hR
    refine g_iload_n dX7_number_23 rfl rfl ?_
    refine g_iconst dX7_number_24 kI_4 ?_
    refine g_icmp_geN (tgt := 81) dX7_number_25 (by decide) rfl rfl (by omega) (by omega) (fun c_25 => absurd c_25 (by omega)) (fun c_25 => ?_)
    refine g_aload_n dX7_number_28 rfl rfl ?_
    refine g_callVp dX7_number_29 mi_X7_isDigit ml_X7_131 (ct_isDigit h hq hT (by omega) h24) rfl rfl rfl rfl (Nat.le_of_ble_eq_true rfl) ⟨lt_r rfl, Nat.le_of_ble_eq_true rfl⟩ ?_
    refine g_if_eqP (tgt := 81) dX7_number_32 (by decide) (fun c_32 => ?_) (fun c_32 => ?_)
    · refine g_iconst dX7_number_81 kI_1 ?_
      refine g_zret dX7_number_82 (by first | exact Or.inl rfl | exact Or.inr rfl | exact bp_01) ⟨_, rfl, ?_⟩
      rw [if_neg c_32] at hR
      subst hR
      exact ⟨rfl, h24, h26, hF⟩
    · have hd := dig_nI c_32
      have hlt : p < T.1 := Nat.not_le.mp (fun z => by have := c_32.1; rw [ltr_ge z] at this; exact absurd this (by decide))
      refine g_aload_n dX7_number_35 rfl rfl ?_
      refine g_bipush dX7_number_36 kB_10 ?_
      refine g_aload_n dX7_number_38 rfl rfl ?_
      refine g_getI dX7_number_39 fl_X7_128 rfl rfl (h26) ?_
      refine g_imul dX7_number_42 (pk_mul _ _) ?_
      refine g_aload_n dX7_number_43 rfl rfl ?_
      refine g_getR dX7_number_44 fl_X7_56 rfl rfl ?_
      refine g_aload_n dX7_number_47 rfl rfl ?_
      refine g_getI dX7_number_48 fl_X7_125 rfl rfl (h.1) ?_
      refine g_aload_n dX7_number_51 rfl rfl ?_
      refine g_getI dX7_number_52 fl_X7_119 rfl rfl (h24) ?_
      refine g_iadd dX7_number_55 (nI_add _ _) ?_
      refine g_lald dX7_number_56 rfl rfl (by omega) rfl ?_
      refine g_l2i dX7_number_57 ((h.2.2.1 p hlt).trans ((ltr_lt hlt).symm.trans hd.1)) ?_
      refine g_iadd dX7_number_58 (nI_add _ _) ?_
      refine g_bipush dX7_number_59 kB_48 ?_
      refine g_isub dX7_number_61 (pk_sub (by omega)) ?_
      refine g_putI dX7_number_62 fp_X7_128 rfl rfl ?_
      refine g_aload_n dX7_number_65 rfl rfl ?_
      refine g_dup dX7_number_66 rfl ?_
      refine g_getI dX7_number_67 fl_X7_119 rfl rfl ((upI_k (by decide)).trans h24) ?_
      refine g_iconst dX7_number_70 kI_1 ?_
      refine g_iadd dX7_number_71 (nI_add _ _) ?_
      refine g_putI dX7_number_72 fp_X7_119 rfl rfl ?_
      refine g_iinc dX7_number_75 rfl (inc_nI _) rfl ?_
      refine g_goto (tgt := 23) dX7_number_78 (by decide) ?_
      rw [if_pos c_32] at hR
      exact g_le (lvLe_c rfl (lvLe_c rfl lvLe_0)) (ih (i + 1) (p + 1) (v * 10 + digN T p) R (by omega) (by omega) hR _ ((hF.tr (Fk.pj (by decide))).tr (Fk.pj (by decide))) upI_s (by rw [upI_k (by decide), upI_s]; exact congrArg nI (by omega)))
theorem ct_number {T : Tx} {q p : Nat} (h : RXm B M q T) (hq : q < 8) (hT : T.1 ≤ 160) (hp : p < 9000) (hat : M.1 (B + 80) 24 = nI p) : Ct E B yX7_number cX7_number 2 (some .boolean) 1 [.ref (B + 80)] M (Ri (fun r M2 => (((numF T 4 p 0).2 = p → r = nI 0 ∧ M2.1 (B + 80) 27 = nI p) ∧ ((numF T 4 p 0).2 ≠ p → r = nI 1 ∧ M2.1 (B + 80) 24 = nI (numF T 4 p 0).2 ∧ M2.1 (B + 80) 26 = nI (numF T 4 p 0).1)) ∧ Fk B M M2 [] [24, 26, 27])) := by
  have hF0 : Fk B M (upI M (B + 80) 26 (nI 0)) [] [24, 26, 27] := Fk.pj (by decide)
  have h2 := h.fk hF0 (by decide) (by decide)
  have hat2 : (upI M (B + 80) 26 (nI 0)).1 (B + 80) 24 = nI p := (upI_k (by decide)).trans hat
  have h9 := numF_0 (T := T) (p := p) (v := 0) (n := 3)
  by_cases hz : nI 48 ≤ ltr T p ∧ ltr T p ≤ nI 57
  · refine Ct.weaken (F := Ri (fun r M2 => r = nI 1 ∧ M2.1 (B + 80) 24 = nI (numF T 4 p 0).2 ∧ M2.1 (B + 80) 26 = nI (numF T 4 p 0).1 ∧ Fk B M M2 [] [24, 26, 27])) ?_ (fun r M' hr => by
      obtain ⟨x, a1, a2, a3, a4, a5⟩ := hr
      exact ⟨x, a1, ⟨fun z => absurd hz (h9.mp z), fun _ => ⟨a2, a3, a4⟩⟩, a5⟩)
    refine Ct.of2 (own := RX7) (lv := [(0, .ref (B + 80))]) pn_X7 rfl (Nat.le_of_ble_eq_true rfl) rfl ?_
    refine g_aload_n dX7_number_0 rfl rfl ?_
    refine g_iconst dX7_number_1 kI_0 ?_
    refine g_putI dX7_number_2 fp_X7_128 rfl rfl ?_
    refine g_aload_n dX7_number_5 rfl rfl ?_
    refine g_callVp dX7_number_6 mi_X7_isDigit ml_X7_131 (ct_isDigit h2 hq hT (by omega) hat2) rfl rfl rfl rfl (Nat.le_of_ble_eq_true rfl) ⟨lt_r rfl, Nat.le_of_ble_eq_true rfl⟩ ?_
    refine g_if_neP (tgt := 21) dX7_number_9 (by decide) (fun c_9 => ?_) (fun c_9 => absurd hz c_9)
    refine g_iconst dX7_number_21 kI_0 ?_
    refine g_istore_n dX7_number_22 rfl (lt_r rfl) rfl ?_
    exact g_le (lvLe_c rfl (lvLe_c rfl lvLe_0)) (lp_number hq hT h 4 0 p 0 (numF T 4 p 0) rfl (by omega) rfl _ hF0 hat2 upI_s)
  · skip
    refine Ct.of2 (own := RX7) (lv := [(0, .ref (B + 80))]) pn_X7 rfl (Nat.le_of_ble_eq_true rfl) rfl ?_
    refine g_aload_n dX7_number_0 rfl rfl ?_
    refine g_iconst dX7_number_1 kI_0 ?_
    refine g_putI dX7_number_2 fp_X7_128 rfl rfl ?_
    refine g_aload_n dX7_number_5 rfl rfl ?_
    refine g_callVp dX7_number_6 mi_X7_isDigit ml_X7_131 (ct_isDigit h2 hq hT (by omega) hat2) rfl rfl rfl rfl (Nat.le_of_ble_eq_true rfl) ⟨lt_r rfl, Nat.le_of_ble_eq_true rfl⟩ ?_
    refine g_if_neP (tgt := 21) dX7_number_9 (by decide) (fun c_9 => absurd c_9 hz) (fun c_9 => ?_)
    refine g_aload_n dX7_number_12 rfl rfl ?_
    refine g_aload_n dX7_number_13 rfl rfl ?_
    refine g_getI dX7_number_14 fl_X7_119 rfl rfl (hat2) ?_
    refine g_callVi dX7_number_17 mi_X7_wrong ml_X7_135 (ct_wrong) rfl rfl rfl rfl (Nat.le_of_ble_eq_true rfl) ⟨lt_r rfl, Nat.le_of_ble_eq_true rfl⟩ (fun x17 M17 h17 => ?_)
    obtain ⟨rfl, rfl⟩ := h17
    refine g_zret dX7_number_20 (by first | exact Or.inl rfl | exact Or.inr rfl | exact bp_01) ⟨_, rfl, ?_⟩
    exact ⟨⟨fun _ => ⟨rfl, upI_s⟩, fun z => absurd (h9.mpr hz) z⟩, hF0.tr (Fk.pj (by decide))⟩
theorem ct_isSo {s : St} {w i v n0 : Nat} (h : RN B M s) (ho : okSt s) (hw : w < 7) (hi : i < nOf w) (hv : v < 10000) (h26 : M.1 (B + 80) 26 = nI v) (h0 : i ≠ 0 → M.1 (B + 94) 0 = nI n0) (h1 : i ≠ 0 → w = 1 → n0 < sCn s) : Ct E B yX7_isSo cX7_isSo 3 (some .boolean) 0 [.ref (B + 80), .int (nI w), .int (nI i)] M (Rp (@bp (okNum s w i v n0) (okNumD s w i v n0)) M) := by
  have hcn := ho.2.2.1
  have ek := nI_toInt (n := w) (by omega)
  have hin : i < 3 := by unfold nOf at hi; (repeat' split at hi) <;> omega
  have hi0 : ∀ n, nOf w = n → i < n := fun n e => e ▸ hi
  refine Ct.of2 (own := RX7) (lv := [(0, .ref (B + 80)), (1, .int (nI w)), (2, .int (nI i))]) pn_X7 rfl (Nat.le_of_ble_eq_true rfl) rfl ?_
  refine g_iload_n dX7_isSo_0 rfl rfl ?_
  refine g_tblC (off := 39) (tgt := 40) dX7_isSo_1 0 (by decide) (by decide) (by decide) (by decide) (fun c_1_0 => ?_) (fun c_1_0 => ?_)
  · have e9 : w = 0 := (nI_eq (by omega) (by decide)).mp c_1_0
    refine g_iload_n dX7_isSo_40 rfl rfl ?_
    refine g_if_neN (tgt := 61) dX7_isSo_41 (by decide) rfl (by omega) (fun c_41 => ?_) (fun c_41 => ?_)
    · refine g_iload_n dX7_isSo_61 rfl rfl ?_
      refine g_iconst dX7_isSo_62 kI_1 ?_
      refine g_icmp_neN (tgt := 91) dX7_isSo_63 (by decide) rfl rfl (by omega) (by omega) (fun c_63 => ?_) (fun c_63 => ?_)
      · refine g_aload_n dX7_isSo_91 rfl rfl ?_
        refine g_getI dX7_isSo_92 fl_X7_128 rfl rfl (h26) ?_
        refine g_bipush dX7_isSo_95 kB_9 ?_
        refine g_icmp_gtN (tgt := 104) dX7_isSo_97 (by decide) rfl rfl (by omega) (by omega) (fun c_97 => ?_) (fun c_97 => ?_)
        · refine g_iconst dX7_isSo_104 kI_0 ?_
          refine g_zret dX7_isSo_105 (by first | exact Or.inl rfl | exact Or.inr rfl | exact bp_01) ⟨_, rfl, ?_⟩
          first | exact ⟨@bp_t _ (okNumD s w i v n0) (by unfold okNum; omega), rfl⟩ | exact ⟨@bp_f _ (okNumD s w i v n0) (by unfold okNum; omega), rfl⟩
        · refine g_iconst dX7_isSo_100 kI_1 ?_
          refine g_goto (tgt := 105) dX7_isSo_101 (by decide) ?_
          refine g_zret dX7_isSo_105 (by first | exact Or.inl rfl | exact Or.inr rfl | exact bp_01) ⟨_, rfl, ?_⟩
          first | exact ⟨@bp_t _ (okNumD s w i v n0) (by unfold okNum; omega), rfl⟩ | exact ⟨@bp_f _ (okNumD s w i v n0) (by unfold okNum; omega), rfl⟩
      · refine g_aload_n dX7_isSo_66 rfl rfl ?_
        refine g_getI dX7_isSo_67 fl_X7_128 rfl rfl (h26) ?_
        refine g_iconst dX7_isSo_70 kI_1 ?_
        refine g_icmp_ltN (tgt := 87) dX7_isSo_71 (by decide) rfl rfl (by omega) (by omega) (fun c_71 => ?_) (fun c_71 => ?_)
        · refine g_iconst dX7_isSo_87 kI_0 ?_
          refine g_goto (tgt := 105) dX7_isSo_88 (by decide) ?_
          refine g_zret dX7_isSo_105 (by first | exact Or.inl rfl | exact Or.inr rfl | exact bp_01) ⟨_, rfl, ?_⟩
          first | exact ⟨@bp_t _ (okNumD s w i v n0) (by unfold okNum; omega), rfl⟩ | exact ⟨@bp_f _ (okNumD s w i v n0) (by unfold okNum; omega), rfl⟩
        · refine g_aload_n dX7_isSo_74 rfl rfl ?_
          refine g_getI dX7_isSo_75 fl_X7_128 rfl rfl (h26) ?_
          refine g_bipush dX7_isSo_78 kB_12 ?_
          refine g_icmp_gtN (tgt := 87) dX7_isSo_80 (by decide) rfl rfl (by omega) (by omega) (fun c_80 => ?_) (fun c_80 => ?_)
          · refine g_iconst dX7_isSo_87 kI_0 ?_
            refine g_goto (tgt := 105) dX7_isSo_88 (by decide) ?_
            refine g_zret dX7_isSo_105 (by first | exact Or.inl rfl | exact Or.inr rfl | exact bp_01) ⟨_, rfl, ?_⟩
            first | exact ⟨@bp_t _ (okNumD s w i v n0) (by unfold okNum; omega), rfl⟩ | exact ⟨@bp_f _ (okNumD s w i v n0) (by unfold okNum; omega), rfl⟩
          · refine g_iconst dX7_isSo_83 kI_1 ?_
            refine g_goto (tgt := 105) dX7_isSo_84 (by decide) ?_
            refine g_zret dX7_isSo_105 (by first | exact Or.inl rfl | exact Or.inr rfl | exact bp_01) ⟨_, rfl, ?_⟩
            first | exact ⟨@bp_t _ (okNumD s w i v n0) (by unfold okNum; omega), rfl⟩ | exact ⟨@bp_f _ (okNumD s w i v n0) (by unfold okNum; omega), rfl⟩
    · refine g_aload_n dX7_isSo_44 rfl rfl ?_
      refine g_getI dX7_isSo_45 fl_X7_128 rfl rfl (h26) ?_
      refine g_bipush dX7_isSo_48 kB_6 ?_
      refine g_icmp_gtN (tgt := 57) dX7_isSo_50 (by decide) rfl rfl (by omega) (by omega) (fun c_50 => ?_) (fun c_50 => ?_)
      · refine g_iconst dX7_isSo_57 kI_0 ?_
        refine g_goto (tgt := 105) dX7_isSo_58 (by decide) ?_
        refine g_zret dX7_isSo_105 (by first | exact Or.inl rfl | exact Or.inr rfl | exact bp_01) ⟨_, rfl, ?_⟩
        first | exact ⟨@bp_t _ (okNumD s w i v n0) (by unfold okNum; omega), rfl⟩ | exact ⟨@bp_f _ (okNumD s w i v n0) (by unfold okNum; omega), rfl⟩
      · refine g_iconst dX7_isSo_53 kI_1 ?_
        refine g_goto (tgt := 105) dX7_isSo_54 (by decide) ?_
        refine g_zret dX7_isSo_105 (by first | exact Or.inl rfl | exact Or.inr rfl | exact bp_01) ⟨_, rfl, ?_⟩
        first | exact ⟨@bp_t _ (okNumD s w i v n0) (by unfold okNum; omega), rfl⟩ | exact ⟨@bp_f _ (okNumD s w i v n0) (by unfold okNum; omega), rfl⟩
  refine g_tblC (off := 105) (tgt := 106) dX7_isSo_1 1 (by decide) (by decide) (by decide) (by decide) (fun c_1_1 => ?_) (fun c_1_1 => ?_)
  · have e9 : w = 1 := (nI_eq (by omega) (by decide)).mp c_1_1
    refine g_iload_n dX7_isSo_106 rfl rfl ?_
    refine g_if_neN (tgt := 129) dX7_isSo_107 (by decide) rfl (by omega) (fun c_107 => ?_) (fun c_107 => ?_)
    · refine g_iload_n dX7_isSo_129 rfl rfl ?_
      refine g_iconst dX7_isSo_130 kI_1 ?_
      refine g_icmp_neN (tgt := 160) dX7_isSo_131 (by decide) rfl rfl (by omega) (by omega) (fun c_131 => ?_) (fun c_131 => ?_)
      · refine g_aload_n dX7_isSo_160 rfl rfl ?_
        refine g_getI dX7_isSo_161 fl_X7_128 rfl rfl (h26) ?_
        refine g_bipush dX7_isSo_164 kB_99 ?_
        refine g_icmp_gtN (tgt := 173) dX7_isSo_166 (by decide) rfl rfl (by omega) (by omega) (fun c_166 => ?_) (fun c_166 => ?_)
        · refine g_iconst dX7_isSo_173 kI_0 ?_
          refine g_zret dX7_isSo_174 (by first | exact Or.inl rfl | exact Or.inr rfl | exact bp_01) ⟨_, rfl, ?_⟩
          first | exact ⟨@bp_t _ (okNumD s w i v n0) (by unfold okNum; omega), rfl⟩ | exact ⟨@bp_f _ (okNumD s w i v n0) (by unfold okNum; omega), rfl⟩
        · refine g_iconst dX7_isSo_169 kI_1 ?_
          refine g_goto (tgt := 174) dX7_isSo_170 (by decide) ?_
          refine g_zret dX7_isSo_174 (by first | exact Or.inl rfl | exact Or.inr rfl | exact bp_01) ⟨_, rfl, ?_⟩
          first | exact ⟨@bp_t _ (okNumD s w i v n0) (by unfold okNum; omega), rfl⟩ | exact ⟨@bp_f _ (okNumD s w i v n0) (by unfold okNum; omega), rfl⟩
      · have hn0 := h1 (by omega) e9
        have h12 := (ho.1 n0 hn0).2.2.1
        refine g_aload_n dX7_isSo_134 rfl rfl ?_
        refine g_getI dX7_isSo_135 fl_X7_128 rfl rfl (h26) ?_
        refine g_aload_n dX7_isSo_138 rfl rfl ?_
        refine g_getR dX7_isSo_139 fl_X7_35 rfl rfl ?_
        refine g_aload_n dX7_isSo_142 rfl rfl ?_
        refine g_getR dX7_isSo_143 fl_X7_66 rfl rfl ?_
        refine g_iconst dX7_isSo_146 kI_0 ?_
        refine g_iald dX7_isSo_147 rfl rfl (by omega) (h0 (by omega)) ?_
        refine g_iald dX7_isSo_148 rfl rfl (by omega) ((h.1 n0 hn0).2.2.1) ?_
        refine g_icmp_geN (tgt := 156) dX7_isSo_149 (by decide) rfl rfl (by omega) (by omega) (fun c_149 => ?_) (fun c_149 => ?_)
        · refine g_iconst dX7_isSo_156 kI_0 ?_
          refine g_goto (tgt := 174) dX7_isSo_157 (by decide) ?_
          refine g_zret dX7_isSo_174 (by first | exact Or.inl rfl | exact Or.inr rfl | exact bp_01) ⟨_, rfl, ?_⟩
          first | exact ⟨@bp_t _ (okNumD s w i v n0) (by unfold okNum; omega), rfl⟩ | exact ⟨@bp_f _ (okNumD s w i v n0) (by unfold okNum; omega), rfl⟩
        · refine g_iconst dX7_isSo_152 kI_1 ?_
          refine g_goto (tgt := 174) dX7_isSo_153 (by decide) ?_
          refine g_zret dX7_isSo_174 (by first | exact Or.inl rfl | exact Or.inr rfl | exact bp_01) ⟨_, rfl, ?_⟩
          first | exact ⟨@bp_t _ (okNumD s w i v n0) (by unfold okNum; omega), rfl⟩ | exact ⟨@bp_f _ (okNumD s w i v n0) (by unfold okNum; omega), rfl⟩
    · refine g_aload_n dX7_isSo_110 rfl rfl ?_
      refine g_getI dX7_isSo_111 fl_X7_128 rfl rfl (h26) ?_
      refine g_aload_n dX7_isSo_114 rfl rfl ?_
      refine g_getI dX7_isSo_115 fl_X7_90 rfl rfl (h.2.2.1) ?_
      refine g_icmp_geN (tgt := 125) dX7_isSo_118 (by decide) rfl rfl (by omega) (by omega) (fun c_118 => ?_) (fun c_118 => ?_)
      · refine g_iconst dX7_isSo_125 kI_0 ?_
        refine g_goto (tgt := 174) dX7_isSo_126 (by decide) ?_
        refine g_zret dX7_isSo_174 (by first | exact Or.inl rfl | exact Or.inr rfl | exact bp_01) ⟨_, rfl, ?_⟩
        first | exact ⟨@bp_t _ (okNumD s w i v n0) (by unfold okNum; omega), rfl⟩ | exact ⟨@bp_f _ (okNumD s w i v n0) (by unfold okNum; omega), rfl⟩
      · refine g_iconst dX7_isSo_121 kI_1 ?_
        refine g_goto (tgt := 174) dX7_isSo_122 (by decide) ?_
        refine g_zret dX7_isSo_174 (by first | exact Or.inl rfl | exact Or.inr rfl | exact bp_01) ⟨_, rfl, ?_⟩
        first | exact ⟨@bp_t _ (okNumD s w i v n0) (by unfold okNum; omega), rfl⟩ | exact ⟨@bp_f _ (okNumD s w i v n0) (by unfold okNum; omega), rfl⟩
  refine g_tblC (off := 174) (tgt := 175) dX7_isSo_1 2 (by decide) (by decide) (by decide) (by decide) (fun c_1_2 => ?_) (fun c_1_2 => ?_)
  · have e9 : w = 2 := (nI_eq (by omega) (by decide)).mp c_1_2
    have hi9 := hi0 1 (by rw [e9]; rfl)
    refine g_aload_n dX7_isSo_175 rfl rfl ?_
    refine g_getI dX7_isSo_176 fl_X7_128 rfl rfl (h26) ?_
    refine g_bipush dX7_isSo_179 kB_99 ?_
    refine g_icmp_gtN (tgt := 188) dX7_isSo_181 (by decide) rfl rfl (by omega) (by omega) (fun c_181 => ?_) (fun c_181 => ?_)
    · refine g_iconst dX7_isSo_188 kI_0 ?_
      refine g_zret dX7_isSo_189 (by first | exact Or.inl rfl | exact Or.inr rfl | exact bp_01) ⟨_, rfl, ?_⟩
      first | exact ⟨@bp_t _ (okNumD s w i v n0) (by unfold okNum; omega), rfl⟩ | exact ⟨@bp_f _ (okNumD s w i v n0) (by unfold okNum; omega), rfl⟩
    · refine g_iconst dX7_isSo_184 kI_1 ?_
      refine g_goto (tgt := 189) dX7_isSo_185 (by decide) ?_
      refine g_zret dX7_isSo_189 (by first | exact Or.inl rfl | exact Or.inr rfl | exact bp_01) ⟨_, rfl, ?_⟩
      first | exact ⟨@bp_t _ (okNumD s w i v n0) (by unfold okNum; omega), rfl⟩ | exact ⟨@bp_f _ (okNumD s w i v n0) (by unfold okNum; omega), rfl⟩
  refine g_tblC (off := 189) (tgt := 190) dX7_isSo_1 3 (by decide) (by decide) (by decide) (by decide) (fun c_1_3 => ?_) (fun c_1_3 => ?_)
  · have e9 : w = 3 := (nI_eq (by omega) (by decide)).mp c_1_3
    have hi9 := hi0 1 (by rw [e9]; rfl)
    refine g_aload_n dX7_isSo_190 rfl rfl ?_
    refine g_getI dX7_isSo_191 fl_X7_128 rfl rfl (h26) ?_
    refine g_iconst dX7_isSo_194 kI_1 ?_
    refine g_icmp_ltN (tgt := 211) dX7_isSo_195 (by decide) rfl rfl (by omega) (by omega) (fun c_195 => ?_) (fun c_195 => ?_)
    · refine g_iconst dX7_isSo_211 kI_0 ?_
      refine g_zret dX7_isSo_212 (by first | exact Or.inl rfl | exact Or.inr rfl | exact bp_01) ⟨_, rfl, ?_⟩
      first | exact ⟨@bp_t _ (okNumD s w i v n0) (by unfold okNum; omega), rfl⟩ | exact ⟨@bp_f _ (okNumD s w i v n0) (by unfold okNum; omega), rfl⟩
    · refine g_aload_n dX7_isSo_198 rfl rfl ?_
      refine g_getI dX7_isSo_199 fl_X7_128 rfl rfl (h26) ?_
      refine g_bipush dX7_isSo_202 kB_99 ?_
      refine g_icmp_gtN (tgt := 211) dX7_isSo_204 (by decide) rfl rfl (by omega) (by omega) (fun c_204 => ?_) (fun c_204 => ?_)
      · refine g_iconst dX7_isSo_211 kI_0 ?_
        refine g_zret dX7_isSo_212 (by first | exact Or.inl rfl | exact Or.inr rfl | exact bp_01) ⟨_, rfl, ?_⟩
        first | exact ⟨@bp_t _ (okNumD s w i v n0) (by unfold okNum; omega), rfl⟩ | exact ⟨@bp_f _ (okNumD s w i v n0) (by unfold okNum; omega), rfl⟩
      · refine g_iconst dX7_isSo_207 kI_1 ?_
        refine g_goto (tgt := 212) dX7_isSo_208 (by decide) ?_
        refine g_zret dX7_isSo_212 (by first | exact Or.inl rfl | exact Or.inr rfl | exact bp_01) ⟨_, rfl, ?_⟩
        first | exact ⟨@bp_t _ (okNumD s w i v n0) (by unfold okNum; omega), rfl⟩ | exact ⟨@bp_f _ (okNumD s w i v n0) (by unfold okNum; omega), rfl⟩
  refine g_tblC (off := 212) (tgt := 213) dX7_isSo_1 4 (by decide) (by decide) (by decide) (by decide) (fun c_1_4 => ?_) (fun c_1_4 => ?_)
  · have e9 : w = 4 := (nI_eq (by omega) (by decide)).mp c_1_4
    have hi9 := hi0 1 (by rw [e9]; rfl)
    refine g_iconst dX7_isSo_213 kI_1 ?_
    refine g_zret dX7_isSo_214 (by first | exact Or.inl rfl | exact Or.inr rfl | exact bp_01) ⟨_, rfl, ?_⟩
    exact ⟨@bp_t _ (okNumD s w i v n0) (by unfold okNum; omega), rfl⟩
  refine g_tblC (off := 214) (tgt := 215) dX7_isSo_1 5 (by decide) (by decide) (by decide) (by decide) (fun c_1_5 => ?_) (fun c_1_5 => ?_)
  · have e9 : w = 5 := (nI_eq (by omega) (by decide)).mp c_1_5
    have hi9 := hi0 2 (by rw [e9]; rfl)
    refine g_aload_n dX7_isSo_215 rfl rfl ?_
    refine g_getI dX7_isSo_216 fl_X7_128 rfl rfl (h26) ?_
    refine g_iload_n dX7_isSo_219 rfl rfl ?_
    refine g_if_neN (tgt := 228) dX7_isSo_220 (by decide) rfl (by omega) (fun c_220 => ?_) (fun c_220 => ?_)
    · refine g_bipush dX7_isSo_228 kB_99 ?_
      refine g_icmp_gtN (tgt := 237) dX7_isSo_230 (by decide) rfl rfl (by omega) (by omega) (fun c_230 => ?_) (fun c_230 => ?_)
      · refine g_iconst dX7_isSo_237 kI_0 ?_
        refine g_zret dX7_isSo_238 (by first | exact Or.inl rfl | exact Or.inr rfl | exact bp_01) ⟨_, rfl, ?_⟩
        first | exact ⟨@bp_t _ (okNumD s w i v n0) (by unfold okNum; omega), rfl⟩ | exact ⟨@bp_f _ (okNumD s w i v n0) (by unfold okNum; omega), rfl⟩
      · refine g_iconst dX7_isSo_233 kI_1 ?_
        refine g_goto (tgt := 238) dX7_isSo_234 (by decide) ?_
        refine g_zret dX7_isSo_238 (by first | exact Or.inl rfl | exact Or.inr rfl | exact bp_01) ⟨_, rfl, ?_⟩
        first | exact ⟨@bp_t _ (okNumD s w i v n0) (by unfold okNum; omega), rfl⟩ | exact ⟨@bp_f _ (okNumD s w i v n0) (by unfold okNum; omega), rfl⟩
    · refine g_bipush dX7_isSo_223 kB_9 ?_
      refine g_goto (tgt := 230) dX7_isSo_225 (by decide) ?_
      refine g_icmp_gtN (tgt := 237) dX7_isSo_230 (by decide) rfl rfl (by omega) (by omega) (fun c_230 => ?_) (fun c_230 => ?_)
      · refine g_iconst dX7_isSo_237 kI_0 ?_
        refine g_zret dX7_isSo_238 (by first | exact Or.inl rfl | exact Or.inr rfl | exact bp_01) ⟨_, rfl, ?_⟩
        first | exact ⟨@bp_t _ (okNumD s w i v n0) (by unfold okNum; omega), rfl⟩ | exact ⟨@bp_f _ (okNumD s w i v n0) (by unfold okNum; omega), rfl⟩
      · refine g_iconst dX7_isSo_233 kI_1 ?_
        refine g_goto (tgt := 238) dX7_isSo_234 (by decide) ?_
        refine g_zret dX7_isSo_238 (by first | exact Or.inl rfl | exact Or.inr rfl | exact bp_01) ⟨_, rfl, ?_⟩
        first | exact ⟨@bp_t _ (okNumD s w i v n0) (by unfold okNum; omega), rfl⟩ | exact ⟨@bp_f _ (okNumD s w i v n0) (by unfold okNum; omega), rfl⟩
  refine g_tableOut (tgt := 239) dX7_isSo_1 (by skip; omega) (by decide) ?_
  have e9 : w = 6 := by omega
  refine g_iload_n dX7_isSo_239 rfl rfl ?_
  refine g_if_neN (tgt := 274) dX7_isSo_240 (by decide) rfl (by omega) (fun c_240 => ?_) (fun c_240 => ?_)
  · refine g_aload_n dX7_isSo_274 rfl rfl ?_
    refine g_getI dX7_isSo_275 fl_X7_128 rfl rfl (h26) ?_
    refine g_iload_n dX7_isSo_278 rfl rfl ?_
    refine g_iconst dX7_isSo_279 kI_1 ?_
    refine g_icmp_neN (tgt := 288) dX7_isSo_280 (by decide) rfl rfl (by omega) (by omega) (fun c_280 => ?_) (fun c_280 => ?_)
    · refine g_bipush dX7_isSo_288 kB_60 ?_
      refine g_icmp_gtN (tgt := 297) dX7_isSo_290 (by decide) rfl rfl (by omega) (by omega) (fun c_290 => ?_) (fun c_290 => ?_)
      · refine g_iconst dX7_isSo_297 kI_0 ?_
        refine g_zret dX7_isSo_298 (by first | exact Or.inl rfl | exact Or.inr rfl | exact bp_01) ⟨_, rfl, ?_⟩
        first | exact ⟨@bp_t _ (okNumD s w i v n0) (by unfold okNum; omega), rfl⟩ | exact ⟨@bp_f _ (okNumD s w i v n0) (by unfold okNum; omega), rfl⟩
      · refine g_iconst dX7_isSo_293 kI_1 ?_
        refine g_goto (tgt := 298) dX7_isSo_294 (by decide) ?_
        refine g_zret dX7_isSo_298 (by first | exact Or.inl rfl | exact Or.inr rfl | exact bp_01) ⟨_, rfl, ?_⟩
        first | exact ⟨@bp_t _ (okNumD s w i v n0) (by unfold okNum; omega), rfl⟩ | exact ⟨@bp_f _ (okNumD s w i v n0) (by unfold okNum; omega), rfl⟩
    · refine g_bipush dX7_isSo_283 kB_12 ?_
      refine g_goto (tgt := 290) dX7_isSo_285 (by decide) ?_
      refine g_icmp_gtN (tgt := 297) dX7_isSo_290 (by decide) rfl rfl (by omega) (by omega) (fun c_290 => ?_) (fun c_290 => ?_)
      · refine g_iconst dX7_isSo_297 kI_0 ?_
        refine g_zret dX7_isSo_298 (by first | exact Or.inl rfl | exact Or.inr rfl | exact bp_01) ⟨_, rfl, ?_⟩
        first | exact ⟨@bp_t _ (okNumD s w i v n0) (by unfold okNum; omega), rfl⟩ | exact ⟨@bp_f _ (okNumD s w i v n0) (by unfold okNum; omega), rfl⟩
      · refine g_iconst dX7_isSo_293 kI_1 ?_
        refine g_goto (tgt := 298) dX7_isSo_294 (by decide) ?_
        refine g_zret dX7_isSo_298 (by first | exact Or.inl rfl | exact Or.inr rfl | exact bp_01) ⟨_, rfl, ?_⟩
        first | exact ⟨@bp_t _ (okNumD s w i v n0) (by unfold okNum; omega), rfl⟩ | exact ⟨@bp_f _ (okNumD s w i v n0) (by unfold okNum; omega), rfl⟩
  · refine g_aload_n dX7_isSo_243 rfl rfl ?_
    refine g_getI dX7_isSo_244 fl_X7_128 rfl rfl (h26) ?_
    refine g_aload_n dX7_isSo_247 rfl rfl ?_
    refine g_getI dX7_isSo_248 fl_X7_90 rfl rfl (h.2.2.1) ?_
    refine g_icmp_geN (tgt := 270) dX7_isSo_251 (by decide) rfl rfl (by omega) (by omega) (fun c_251 => ?_) (fun c_251 => ?_)
    · refine g_iconst dX7_isSo_270 kI_0 ?_
      refine g_goto (tgt := 298) dX7_isSo_271 (by decide) ?_
      refine g_zret dX7_isSo_298 (by first | exact Or.inl rfl | exact Or.inr rfl | exact bp_01) ⟨_, rfl, ?_⟩
      first | exact ⟨@bp_t _ (okNumD s w i v n0) (by unfold okNum; omega), rfl⟩ | exact ⟨@bp_f _ (okNumD s w i v n0) (by unfold okNum; omega), rfl⟩
    · have h12 := (ho.1 v (by omega)).2.2.1
      refine g_aload_n dX7_isSo_254 rfl rfl ?_
      refine g_getR dX7_isSo_255 fl_X7_35 rfl rfl ?_
      refine g_aload_n dX7_isSo_258 rfl rfl ?_
      refine g_getI dX7_isSo_259 fl_X7_128 rfl rfl (h26) ?_
      refine g_iald dX7_isSo_262 rfl rfl (by omega) ((h.1 v (by omega)).2.2.1) ?_
      refine g_if_leN (tgt := 270) dX7_isSo_263 (by decide) rfl (by omega) (fun c_263 => ?_) (fun c_263 => ?_)
      · refine g_iconst dX7_isSo_270 kI_0 ?_
        refine g_goto (tgt := 298) dX7_isSo_271 (by decide) ?_
        refine g_zret dX7_isSo_298 (by first | exact Or.inl rfl | exact Or.inr rfl | exact bp_01) ⟨_, rfl, ?_⟩
        first | exact ⟨@bp_t _ (okNumD s w i v n0) (by unfold okNum; omega), rfl⟩ | exact ⟨@bp_f _ (okNumD s w i v n0) (by unfold okNum; omega), rfl⟩
      · refine g_iconst dX7_isSo_266 kI_1 ?_
        refine g_goto (tgt := 298) dX7_isSo_267 (by decide) ?_
        refine g_zret dX7_isSo_298 (by first | exact Or.inl rfl | exact Or.inr rfl | exact bp_01) ⟨_, rfl, ?_⟩
        first | exact ⟨@bp_t _ (okNumD s w i v n0) (by unfold okNum; omega), rfl⟩ | exact ⟨@bp_f _ (okNumD s w i v n0) (by unfold okNum; omega), rfl⟩
end X7R
