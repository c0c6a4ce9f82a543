/-! the class's Reader -/
def RR (B : Nat) (M : MM) (T : Tx) (p : Nat) : Prop := M.1 (B + 53) 4 = nI T.1 ∧ (∀ i, i < T.1 → M.1 (B + 54) i = T.2 i) ∧ M.1 (B + 53) 5 = nI p
theorem RR.sm {B : Nat} {M M' : MM} {lo hi p : Nat} {T : Tx} (h : RR B M T p) (hS : Sm B M M' lo hi) (h1 : 55 ≤ lo ∨ hi ≤ 53) : RR B M' T p := by
  unfold RR
  rw [hS.i (by omega), hS.i (by omega)]
  exact h
theorem max_nI {a b : Nat} (ha : a < 2 ^ 31) (hb : b < 2 ^ 31) : (if nI a < nI b then nI b else nI a) = nI (max a b) := by
  by_cases h : a < b
  · rw [if_pos ((nI_ltI ha hb).mpr h), Nat.max_eq_right (by omega)]
  · rw [if_neg (fun q => h ((nI_ltI ha hb).mp q)), Nat.max_eq_left (by omega)]
section RDR
variable {E : EE} {B : Nat} {M : MM}
theorem ct_X3_letter {T : Tx} {p q : Nat} (h : RR B M T p) (hT : T.1 ≤ 160) (hq : q < 2 ^ 31) : Ct E B yX3_letter cX3_letter 2 (some .int) 0 [.ref (B + 53), .int (nI q)] M (Rp (ltr T q) M) := by
  refine Ct.of2 (own := RX3) (lv := [(0, .ref (B + 53)), (1, .int (nI q))]) pn_X3 rfl (Nat.le_of_ble_eq_true rfl) rfl ?_
  refine g_iload_n dX3_letter_0 rfl rfl ?_
  refine g_if_ltN (tgt := 28) dX3_letter_1 (by decide) rfl (by omega) ?_
  refine g_iload_n dX3_letter_4 rfl rfl ?_
  refine g_aload_n dX3_letter_5 rfl rfl ?_
  refine g_getI dX3_letter_6 fl_X3_39 rfl rfl (h.1) ?_
  refine g_icmp_geN (tgt := 28) dX3_letter_9 (by decide) rfl rfl (by omega) (by omega) (fun c_9 => ?_) (fun c_9 => ?_)
  · refine g_iconst dX3_letter_28 kI_m1 ?_
    refine g_iret dX3_letter_29 ⟨_, rfl, ?_⟩
    refine ⟨?_, rfl⟩
    unfold ltr
    first | rw [if_pos c_9] | rw [if_neg (by omega)]
  · refine g_iload_n dX3_letter_12 rfl rfl ?_
    refine g_sipush dX3_letter_13 kS_160 ?_
    refine g_icmp_geN (tgt := 28) dX3_letter_16 (by decide) rfl rfl (by omega) (by omega) (fun c_16 => absurd c_16 (by omega)) (fun c_16 => ?_)
    refine g_aload_n dX3_letter_19 rfl rfl ?_
    refine g_getR dX3_letter_20 fl_X3_9 rfl rfl ?_
    refine g_iload_n dX3_letter_23 rfl rfl ?_
    refine g_iald dX3_letter_24 rfl rfl (by omega) (h.2.1 q c_9) ?_
    refine g_goto (tgt := 29) dX3_letter_25 (by decide) ?_
    refine g_iret dX3_letter_29 ⟨_, rfl, ?_⟩
    refine ⟨?_, rfl⟩
    unfold ltr
    first | rw [if_pos c_9] | rw [if_neg (by omega)]
theorem ct_X3_takes {T : Tx} {p c : Nat} (h : RR B M T p) (hT : T.1 ≤ 160) (hp : p < 10000) : Ct E B yX3_takes cX3_takes 2 (some .boolean) 1 [.ref (B + 53), .int (nI c)] M (Ri (fun r M2 => ((ltr T p = nI c ∧ r = nI 1 ∧ RR B M2 T (p + 1) ∧ M2.1 (B + 53) 6 = M.1 (B + 53) 6) ∨ (¬ ltr T p = nI c ∧ r = nI 0 ∧ RR B M2 T p ∧ M2.1 (B + 53) 6 = nI p)) ∧ Sm B M M2 53 54)) := by
  refine Ct.of2 (own := RX3) (lv := [(0, .ref (B + 53)), (1, .int (nI c))]) pn_X3 rfl (Nat.le_of_ble_eq_true rfl) rfl ?_
  refine g_aload_n dX3_takes_0 rfl rfl ?_
  refine g_aload_n dX3_takes_1 rfl rfl ?_
  refine g_getI dX3_takes_2 fl_X3_40 rfl rfl (h.2.2) ?_
  refine g_callVp dX3_takes_5 mi_X3_letter ml_X3_65 (ct_X3_letter h hT (by omega)) rfl rfl rfl rfl (Nat.le_of_ble_eq_true rfl) ⟨lt_r rfl, Nat.le_of_ble_eq_true rfl⟩ ?_
  refine g_iload_n dX3_takes_8 rfl rfl ?_
  refine g_icmp_eq (tgt := 22) dX3_takes_9 (by decide) (fun c_9 => ?_) (fun c_9 => ?_)
  · refine g_aload_n dX3_takes_22 rfl rfl ?_
    refine g_dup dX3_takes_23 rfl ?_
    refine g_getI dX3_takes_24 fl_X3_40 rfl rfl (h.2.2) ?_
    refine g_iconst dX3_takes_27 kI_1 ?_
    refine g_iadd dX3_takes_28 (nI_add _ _) ?_
    refine g_putI dX3_takes_29 fp_X3_40 rfl rfl ?_
    refine g_iconst dX3_takes_32 kI_1 ?_
    refine g_zret dX3_takes_33 (by first | exact Or.inl rfl | exact Or.inr rfl | exact bp_01) ⟨_, rfl, ?_⟩
    refine ⟨Or.inl ⟨c_9, rfl, ⟨?_, fun i hi => ?_, upI_s⟩, upI_k (by decide)⟩, Sm.pI (by omega) (by omega)⟩
    · rw [upI_k (by decide)]; exact h.1
    · rw [upI_ap (by omega)]; exact h.2.1 i hi
  · refine g_aload_n dX3_takes_12 rfl rfl ?_
    refine g_aload_n dX3_takes_13 rfl rfl ?_
    refine g_getI dX3_takes_14 fl_X3_40 rfl rfl (h.2.2) ?_
    refine g_putI dX3_takes_17 fp_X3_18 rfl rfl ?_
    refine g_iconst dX3_takes_20 kI_0 ?_
    refine g_zret dX3_takes_21 (by first | exact Or.inl rfl | exact Or.inr rfl | exact bp_01) ⟨_, rfl, ?_⟩
    refine ⟨Or.inr ⟨c_9, rfl, ⟨?_, fun i hi => ?_, ?_⟩, upI_s⟩, Sm.pI (by omega) (by omega)⟩
    · rw [upI_k (by decide)]; exact h.1
    · rw [upI_ap (by omega)]; exact h.2.1 i hi
    · rw [upI_k (by decide)]; exact h.2.2
theorem ct_X3_standsWhole {T : Tx} {s : St} {p w n : Nat} (h : RR B M T p) (hS : RS B M 32 s) (ho : okSt s) (hw : w < 7) : Ct E B yX3_standsWhole cX3_standsWhole 3 (some .int) 1 [.ref (B + 53), .int (nI w), .int (nI n)] M (Ri (fun r M2 => ((w = 0 ∧ ¬ sCn s < 6 ∧ r = -1 ∧ M2.1 (B + 53) 6 = nI p) ∨ (¬ (w = 0 ∧ ¬ sCn s < 6) ∧ r = nI w ∧ RR B M2 T (p + n) ∧ M2.1 (B + 53) 6 = M.1 (B + 53) 6)) ∧ Sm B M M2 53 54)) := by
  refine Ct.of2 (own := RX3) (lv := [(0, .ref (B + 53)), (1, .int (nI w)), (2, .int (nI n))]) pn_X3 rfl (Nat.le_of_ble_eq_true rfl) rfl ?_
  refine g_iload_n dX3_standsWhole_0 rfl rfl ?_
  refine g_if_neN (tgt := 24) dX3_standsWhole_1 (by decide) rfl (by omega) (fun c_1 => ?_) (fun c_1 => ?_)
  · refine g_aload_n dX3_standsWhole_24 rfl rfl ?_
    refine g_dup dX3_standsWhole_25 rfl ?_
    refine g_getI dX3_standsWhole_26 fl_X3_40 rfl rfl (h.2.2) ?_
    refine g_iload_n dX3_standsWhole_29 rfl rfl ?_
    refine g_iadd dX3_standsWhole_30 (nI_add _ _) ?_
    refine g_putI dX3_standsWhole_31 fp_X3_40 rfl rfl ?_
    refine g_iload_n dX3_standsWhole_34 rfl rfl ?_
    refine g_iret dX3_standsWhole_35 ⟨_, rfl, ?_⟩
    refine ⟨Or.inr ⟨by omega, rfl, ⟨?_, fun i hi => ?_, upI_s⟩, upI_k (by decide)⟩, Sm.pI (by omega) (by omega)⟩
    · rw [upI_k (by decide)]; exact h.1
    · rw [upI_ap (by omega)]; exact h.2.1 i hi
  · refine g_aload_n dX3_standsWhole_4 rfl rfl ?_
    refine g_getR dX3_standsWhole_5 fl_X3_22 rfl rfl ?_
    refine g_callVp dX3_standsWhole_8 mi_X5_hasRoom ml_X3_90 (ct_X5_hasRoom isS_32 hS ho) isS_32.1 rfl rfl rfl (Nat.le_of_ble_eq_true rfl) ⟨lt_r rfl, Nat.le_of_ble_eq_true rfl⟩ ?_
    refine g_if_neP (tgt := 24) dX3_standsWhole_11 (by decide) (fun c_11 => ?_) (fun c_11 => ?_)
    · refine g_aload_n dX3_standsWhole_24 rfl rfl ?_
      refine g_dup dX3_standsWhole_25 rfl ?_
      refine g_getI dX3_standsWhole_26 fl_X3_40 rfl rfl (h.2.2) ?_
      refine g_iload_n dX3_standsWhole_29 rfl rfl ?_
      refine g_iadd dX3_standsWhole_30 (nI_add _ _) ?_
      refine g_putI dX3_standsWhole_31 fp_X3_40 rfl rfl ?_
      refine g_iload_n dX3_standsWhole_34 rfl rfl ?_
      refine g_iret dX3_standsWhole_35 ⟨_, rfl, ?_⟩
      refine ⟨Or.inr ⟨by omega, rfl, ⟨?_, fun i hi => ?_, upI_s⟩, upI_k (by decide)⟩, Sm.pI (by omega) (by omega)⟩
      · rw [upI_k (by decide)]; exact h.1
      · rw [upI_ap (by omega)]; exact h.2.1 i hi
    · refine g_aload_n dX3_standsWhole_14 rfl rfl ?_
      refine g_aload_n dX3_standsWhole_15 rfl rfl ?_
      refine g_getI dX3_standsWhole_16 fl_X3_40 rfl rfl (h.2.2) ?_
      refine g_putI dX3_standsWhole_19 fp_X3_18 rfl rfl ?_
      refine g_iconst dX3_standsWhole_22 kI_m1 ?_
      refine g_iret dX3_standsWhole_23 ⟨_, rfl, ?_⟩
      exact ⟨Or.inl ⟨c_1, c_11, rfl, upI_s⟩, Sm.pI (by omega) (by omega)⟩
/-- what readWord comes to -/
def QW (B : Nat) (M : MM) (T : Tx) (s : St) (p : Nat) (R : Nat × Nat) : Int32 → MM → Prop := fun r M2 =>
  ((R.1 = 7 ∧ r = -1 ∧ M2.1 (B + 53) 6 = nI (p + R.2)) ∨ (R.1 < 7 ∧ R.1 = 0 ∧ ¬ sCn s < 6 ∧ r = -1 ∧ M2.1 (B + 53) 6 = nI p) ∨ (R.1 < 7 ∧ ¬ (R.1 = 0 ∧ ¬ sCn s < 6) ∧ r = nI R.1 ∧ RR B M2 T (p + sL R.1) ∧ M2.1 (B + 53) 6 = M.1 (B + 53) 6)) ∧ Sm B M M2 53 54
theorem lp_X3_readWord {T : Tx} {s : St} {p : Nat} {R : Nat × Nat} (h : RR B M T p) (hT : T.1 ≤ 160) (hp : p < 10000) (hS : RS B M 32 s) (ho : okSt s) : ∀ (n w far : Nat), n + w = 7 → far ≤ 8 → wordF T p n w far = R →
    G E B cX3_readWord (RX3, 5, some .int, rmD 4, 0, 0, KM E B (Ri (QW B M T s p R))) 4 [(0, .ref (B + 53)), (1, .int (nI far)), (2, .int (nI w))] [] M := by
  intro n
  induction n with
  | zero =>
    intro w far h1 h2 h3
    refine g_iload_n dX3_readWord_4 rfl rfl ?_
    refine g_bipush dX3_readWord_5 kB_7 ?_
    refine g_icmp_geN (tgt := 83) dX3_readWord_7 (by decide) rfl rfl (by omega) (by omega) (fun c_7 => ?_) (fun c_7 => absurd c_7 (by omega))
    refine g_aload_n dX3_readWord_83 rfl rfl ?_
    refine g_aload_n dX3_readWord_84 rfl rfl ?_
    refine g_getI dX3_readWord_85 fl_X3_40 rfl rfl (h.2.2) ?_
    refine g_iload_n dX3_readWord_88 rfl rfl ?_
    refine g_iadd dX3_readWord_89 (nI_add _ _) ?_
    refine g_putI dX3_readWord_90 fp_X3_18 rfl rfl ?_
    refine g_iconst dX3_readWord_93 kI_m1 ?_
    refine g_iret dX3_readWord_94 ⟨_, rfl, ?_⟩
    subst h3
    exact ⟨Or.inl ⟨rfl, rfl, upI_s⟩, Sm.pI (by omega) (by omega)⟩
  | succ n ih =>
    intro w far h1 h2 h3
    have hw7 : w < 7 := by omega
    have h8 := (s_all w hw7).1
    have e3 : wordF T p (n + 1) w far = if prefN T p w 8 0 = sL w then (w, 0) else wordF T p n (w + 1) (max far (prefN T p w 8 0)) := rfl
    have hm := (prefN_le (T := T) (p := p) (w := w) 8 0 (Nat.zero_le _)).2
    -- behind the letters
    have tail : G E B cX3_readWord (RX3, 5, some .int, rmD 4, 0, 0, KM E B (Ri (QW B M T s p R))) 53 [(0, .ref (B + 53)), (1, .int (nI far)), (2, .int (nI w)), (3, .ref (E.2.2.2.2.1 w)), (4, .int (nI (prefN T p w 8 0)))] [] M := by
      refine g_iload dX3_readWord_53 rfl ?_
      refine g_aload_n dX3_readWord_55 rfl rfl ?_
      refine g_callStr dX3_readWord_56 mi_J0_length_8abf5 ml_X3_73 (ct_length hw7) hw7 rfl rfl rfl (Nat.le_of_ble_eq_true rfl) ⟨lt_r rfl, Nat.le_of_ble_eq_true rfl⟩ ?_
      refine g_icmp_neN (tgt := 70) dX3_readWord_59 (by decide) rfl rfl (by omega) (by omega) (fun c_59 => ?_) (fun c_59 => ?_)
      · refine g_iload_n dX3_readWord_70 rfl rfl ?_
        refine g_iload dX3_readWord_71 rfl ?_
        refine g_mmax dX3_readWord_73 ml_X3_85 ((show (if nI far < nI (prefN T p w 8 0) then nI (prefN T p w 8 0) else nI far) = nI (max far (prefN T p w 8 0)) from max_nI (by omega) (by omega))) ⟨lt_r rfl, Nat.le_of_ble_eq_true rfl⟩ ?_
        refine g_istore_n dX3_readWord_76 rfl (lt_r rfl) rfl ?_
        refine g_iinc dX3_readWord_77 rfl (inc_nI _) rfl ?_
        rw [e3, if_neg c_59] at h3
        exact g_goto (tgt := 4) dX3_readWord_80 (by decide) (g_le (lvLe_c rfl (lvLe_c rfl (lvLe_c rfl lvLe_0))) (ih (w + 1) _ (by omega) (by omega) h3))
      · refine g_aload_n dX3_readWord_62 rfl rfl ?_
        refine g_iload_n dX3_readWord_63 rfl rfl ?_
        refine g_iload dX3_readWord_64 rfl ?_
        refine g_callVi dX3_readWord_66 mi_X3_standsWhole ml_X3_81 (ct_X3_standsWhole h hS ho hw7) rfl rfl rfl rfl (Nat.le_of_ble_eq_true rfl) ⟨lt_r rfl, Nat.le_of_ble_eq_true rfl⟩ (fun x66 M66 h66 => ?_)
        refine g_iret dX3_readWord_69 ⟨_, rfl, ?_⟩
        rw [e3, if_pos c_59] at h3
        subst h3
        obtain ⟨h66, g66⟩ := h66
        refine ⟨?_, g66⟩
        rcases h66 with ⟨a1, a2, a3, a4⟩ | ⟨a1, a2, a3, a4⟩
        · exact Or.inr (Or.inl ⟨hw7, a1, a2, a3, a4⟩)
        · exact Or.inr (Or.inr ⟨hw7, a1, a2, by rw [← c_59]; exact a3, a4⟩)
    have loop : ∀ (f k : Nat), f + k = 8 → k ≤ sL w → prefN T p w f k = prefN T p w 8 0 → G E B cX3_readWord (RX3, 5, some .int, rmD 4, 0, 0, KM E B (Ri (QW B M T s p R))) 18 [(0, .ref (B + 53)), (1, .int (nI far)), (2, .int (nI w)), (3, .ref (E.2.2.2.2.1 w)), (4, .int (nI k))] [] M := by
      intro f
      induction f with
      | zero =>
        intro k g1 g2 g3
        omega
      | succ f ihf =>
        intro k g1 g2 g3
        have e4 : prefN T p w (f + 1) k = if k < sL w ∧ ltr T (p + k) = sC w k then prefN T p w f (k + 1) else k := rfl
        refine g_iload dX3_readWord_18 rfl ?_
        refine g_aload_n dX3_readWord_20 rfl rfl ?_
        refine g_callStr dX3_readWord_21 mi_J0_length_8abf5 ml_X3_73 (ct_length hw7) hw7 rfl rfl rfl (Nat.le_of_ble_eq_true rfl) ⟨lt_r rfl, Nat.le_of_ble_eq_true rfl⟩ ?_
        refine g_icmp_geN (tgt := 53) dX3_readWord_24 (by decide) rfl rfl (by omega) (by omega) (fun c_24 => ?_) (fun c_24 => ?_)
        · rw [e4, if_neg (by omega)] at g3
          rw [← g3] at tail
          exact tail
        · refine g_aload_n dX3_readWord_27 rfl rfl ?_
          refine g_aload_n dX3_readWord_28 rfl rfl ?_
          refine g_getI dX3_readWord_29 fl_X3_40 rfl rfl (h.2.2) ?_
          refine g_iload dX3_readWord_32 rfl ?_
          refine g_iadd dX3_readWord_34 (nI_add _ _) ?_
          refine g_callVp dX3_readWord_35 mi_X3_letter ml_X3_65 (ct_X3_letter h hT (by omega)) rfl rfl rfl rfl (Nat.le_of_ble_eq_true rfl) ⟨lt_r rfl, Nat.le_of_ble_eq_true rfl⟩ ?_
          refine g_aload_n dX3_readWord_38 rfl rfl ?_
          refine g_iload dX3_readWord_39 rfl ?_
          refine g_callStr dX3_readWord_41 mi_J0_charAt_5068e ml_X3_77 (ct_charAt hw7 c_24) hw7 rfl rfl rfl (Nat.le_of_ble_eq_true rfl) ⟨lt_r rfl, Nat.le_of_ble_eq_true rfl⟩ ?_
          refine g_icmp_ne (tgt := 53) dX3_readWord_44 (by decide) (fun c_44 => ?_) (fun c_44 => ?_)
          · rw [e4, if_neg (fun q => c_44 q.2)] at g3
            rw [← g3] at tail
            exact tail
          · refine g_iinc dX3_readWord_47 rfl (inc_nI _) rfl ?_
            rw [e4, if_pos ⟨c_24, c_44⟩] at g3
            exact g_goto (tgt := 18) dX3_readWord_50 (by decide) (g_le (lvLe_c rfl (lvLe_c rfl (lvLe_c rfl (lvLe_c rfl (lvLe_c rfl lvLe_0))))) (ihf (k + 1) (by omega) (by omega) g3))
    refine g_iload_n dX3_readWord_4 rfl rfl ?_
    refine g_bipush dX3_readWord_5 kB_7 ?_
    refine g_icmp_geN (tgt := 83) dX3_readWord_7 (by decide) rfl rfl (by omega) (by omega) (fun c_7 => absurd c_7 (by omega)) (fun c_7 => ?_)
    refine g_iload_n dX3_readWord_10 rfl rfl ?_
    refine g_callSr dX3_readWord_11 ms_X3_lettersOf ml_X3_69 (ct_X3_lettersOf hw7) rfl rfl (Nat.le_of_ble_eq_true rfl) ⟨lt_r rfl, Nat.le_of_ble_eq_true rfl⟩ ?_
    refine g_astore_n dX3_readWord_14 rfl (lt_r rfl) rfl ?_
    refine g_iconst dX3_readWord_15 kI_0 ?_
    refine g_istore dX3_readWord_16 (lt_r rfl) rfl ?_
    exact g_le (lvLe_c rfl (lvLe_c rfl (lvLe_c rfl (lvLe_c rfl (lvLe_c rfl lvLe_0))))) (loop 8 0 rfl (Nat.zero_le _) rfl)
theorem ct_X3_readWord {T : Tx} {s : St} {p : Nat} (h : RR B M T p) (hT : T.1 ≤ 160) (hp : p < 10000) (hS : RS B M 32 s) (ho : okSt s) : Ct E B yX3_readWord cX3_readWord 5 (some .int) 4 [.ref (B + 53)] M (Ri (QW B M T s p (wordF T p 7 0 0))) := by
  refine Ct.of2 (own := RX3) (lv := [(0, .ref (B + 53))]) pn_X3 rfl (Nat.le_of_ble_eq_true rfl) rfl ?_
  refine g_iconst dX3_readWord_0 kI_0 ?_
  refine g_istore_n dX3_readWord_1 rfl (lt_r rfl) rfl ?_
  refine g_iconst dX3_readWord_2 kI_0 ?_
  refine g_istore_n dX3_readWord_3 rfl (lt_r rfl) rfl ?_
  exact g_le (lvLe_c rfl (lvLe_c rfl (lvLe_c rfl lvLe_0))) (lp_X3_readWord h hT hp hS ho 7 0 0 rfl (by decide) rfl)
theorem ct_X3_numbersOf {w : Nat} (hw : w < 7) : Ct E B yX3_numbersOf cX3_numbersOf 1 (some .int) 0 [.int (nI w)] M (Rp (nI (nOf w)) M) := by
  match w, hw with
  | 0, _ =>
    refine Ct.of2 (own := RX3) (lv := [(0, .int (nI 0))]) pn_X3 rfl (Nat.le_of_ble_eq_true rfl) rfl ?_
    refine g_iload_n dX3_numbersOf_0 rfl rfl ?_
    refine g_tableIn (off := 43) (tgt := 44) dX3_numbersOf_1 (by decide) (by decide) (by decide) (by decide) ?_
    refine g_iconst dX3_numbersOf_44 kI_3 ?_
    refine g_iret dX3_numbersOf_45 ⟨_, rfl, ?_⟩
    exact ⟨rfl, rfl⟩
  | 1, _ =>
    refine Ct.of2 (own := RX3) (lv := [(0, .int (nI 1))]) pn_X3 rfl (Nat.le_of_ble_eq_true rfl) rfl ?_
    refine g_iload_n dX3_numbersOf_0 rfl rfl ?_
    refine g_tableIn (off := 43) (tgt := 44) dX3_numbersOf_1 (by decide) (by decide) (by decide) (by decide) ?_
    refine g_iconst dX3_numbersOf_44 kI_3 ?_
    refine g_iret dX3_numbersOf_45 ⟨_, rfl, ?_⟩
    exact ⟨rfl, rfl⟩
  | 2, _ =>
    refine Ct.of2 (own := RX3) (lv := [(0, .int (nI 2))]) pn_X3 rfl (Nat.le_of_ble_eq_true rfl) rfl ?_
    refine g_iload_n dX3_numbersOf_0 rfl rfl ?_
    refine g_tableIn (off := 47) (tgt := 48) dX3_numbersOf_1 (by decide) (by decide) (by decide) (by decide) ?_
    refine g_iconst dX3_numbersOf_48 kI_1 ?_
    refine g_iret dX3_numbersOf_49 ⟨_, rfl, ?_⟩
    exact ⟨rfl, rfl⟩
  | 3, _ =>
    refine Ct.of2 (own := RX3) (lv := [(0, .int (nI 3))]) pn_X3 rfl (Nat.le_of_ble_eq_true rfl) rfl ?_
    refine g_iload_n dX3_numbersOf_0 rfl rfl ?_
    refine g_tableIn (off := 47) (tgt := 48) dX3_numbersOf_1 (by decide) (by decide) (by decide) (by decide) ?_
    refine g_iconst dX3_numbersOf_48 kI_1 ?_
    refine g_iret dX3_numbersOf_49 ⟨_, rfl, ?_⟩
    exact ⟨rfl, rfl⟩
  | 4, _ =>
    refine Ct.of2 (own := RX3) (lv := [(0, .int (nI 4))]) pn_X3 rfl (Nat.le_of_ble_eq_true rfl) rfl ?_
    refine g_iload_n dX3_numbersOf_0 rfl rfl ?_
    refine g_tableIn (off := 47) (tgt := 48) dX3_numbersOf_1 (by decide) (by decide) (by decide) (by decide) ?_
    refine g_iconst dX3_numbersOf_48 kI_1 ?_
    refine g_iret dX3_numbersOf_49 ⟨_, rfl, ?_⟩
    exact ⟨rfl, rfl⟩
  | 5, _ =>
    refine Ct.of2 (own := RX3) (lv := [(0, .int (nI 5))]) pn_X3 rfl (Nat.le_of_ble_eq_true rfl) rfl ?_
    refine g_iload_n dX3_numbersOf_0 rfl rfl ?_
    refine g_tableIn (off := 45) (tgt := 46) dX3_numbersOf_1 (by decide) (by decide) (by decide) (by decide) ?_
    refine g_iconst dX3_numbersOf_46 kI_2 ?_
    refine g_iret dX3_numbersOf_47 ⟨_, rfl, ?_⟩
    exact ⟨rfl, rfl⟩
  | 6, _ =>
    refine Ct.of2 (own := RX3) (lv := [(0, .int (nI 6))]) pn_X3 rfl (Nat.le_of_ble_eq_true rfl) rfl ?_
    refine g_iload_n dX3_numbersOf_0 rfl rfl ?_
    refine g_tableIn (off := 43) (tgt := 44) dX3_numbersOf_1 (by decide) (by decide) (by decide) (by decide) ?_
    refine g_iconst dX3_numbersOf_44 kI_3 ?_
    refine g_iret dX3_numbersOf_45 ⟨_, rfl, ?_⟩
    exact ⟨rfl, rfl⟩
end RDR
