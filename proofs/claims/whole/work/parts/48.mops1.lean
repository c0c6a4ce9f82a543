/-! the model's calls, first part: shelves -/
theorem RWq.same {B q : Nat} {M M' : MM} {x : Sh} (h : RWq B M q x) (e1 : M'.1 (B + 87) q = M.1 (B + 87) q) (e2 : M'.1 (B + 88) q = M.1 (B + 88) q) (e3 : M'.1 (B + 89) q = M.1 (B + 89) q) (e4 : M'.1 (B + 90) q = M.1 (B + 90) q) (e5 : ∀ i, M'.2 (B + 91) i = M.2 (B + 91) i) : RWq B M' q x := by
  unfold RWq
  rw [e1, e2, e3, e4]
  exact ⟨h.1, fun z => ⟨(h.2.1 z).1, (h.2.1 z).2.1, fun i hi => (e5 _).trans ((h.2.1 z).2.2 i hi)⟩, h.2.2⟩
theorem RM.sh {B q k m : Nat} {M : MM} {y : Sys} {b : Int32} (h : RM B M y) (ho : okY y) (hq : q < 8) (hk : k = 0 ∨ (k = 2 ∧ b = nI m)) : RM B (upI (upI M (B + 87) q (nI k)) (B + 90) q b) (setH y q (k, m, 0, fun _ => 0)) ∧ Sm B M (upI (upI M (B + 87) q (nI k)) (B + 90) q b) 80 102 := by
  have hF1 : Fk B M (upI (upI M (B + 87) q (nI k)) (B + 90) q b) [87, 88, 89, 90, 91, 92] [] := Fk.tr (Fk.pi (by decide) (by decide)) (Fk.pi (by decide) (by decide))
  refine ⟨h.h ho hq hF1 (fun q' hq' hne => ⟨?_, ?_, ?_, ?_, fun i hi => rfl⟩) ⟨?_, fun z => ?_, fun z => ?_⟩, hF1.sm (by decide)⟩
  · rw [upI_ap (by decide), upI_k hne]
  · rw [upI_ap (by decide), upI_ap (by decide)]
  · rw [upI_ap (by decide), upI_ap (by decide)]
  · rw [upI_k hne, upI_ap (by decide)]
  · rw [upI_ap (by decide), upI_s]
  · have z : k = 1 := z
    omega
  · have z : k = 2 := z
    rw [upI_s]
    rcases hk with hk | hk
    · omega
    · exact hk.2
section X7B
variable {E : EE} {B : Nat} {M : MM}
theorem lp_row {q : Nat} {F : Option Value → MM → Prop} {M1 : MM} (hq : q < 8)
    (hend : ∀ M', Fk B M1 M' [91] [] → (∀ j, j < 160 → M'.2 (B + 91) (160 * q + j) = 0) → (∀ q', q' ≠ q → ∀ j, j < 160 → M'.2 (B + 91) (160 * q' + j) = M1.2 (B + 91) (160 * q' + j)) → F (some (.int (nI 1))) M') :
    ∀ (n i : Nat), n + i = 160 → ∀ M', Fk B M1 M' [91] [] → (∀ j, j < i → M'.2 (B + 91) (160 * q + j) = 0) → (∀ q', q' ≠ q → ∀ j, j < 160 → M'.2 (B + 91) (160 * q' + j) = M1.2 (B + 91) (160 * q' + j)) →
    G E B cX7_row (RX7, 5, some .int, rmD 1, 0, 0, KM E B F) 79 [(0, .ref (B + 80)), (1, .int (nI q)), (4, .int (nI i))] [] M' := by
  intro n
  induction n with
  | zero =>
    intro i h1 M' hF h2 h3
    refine g_iload dX7_row_79 rfl ?_
    refine g_sipush dX7_row_81 kS_160 ?_
    refine g_icmp_geN (tgt := 107) dX7_row_84 (by decide) rfl rfl (by omega) (by omega) (fun c_84 => ?_) (fun c_84 => absurd c_84 (by omega))
    refine g_iconst dX7_row_107 kI_1 ?_
    exact g_iret dX7_row_108 (hend M' hF (fun j hj => h2 j (by omega)) h3)
  | succ n ih =>
    intro i h1 M' hF h2 h3
    refine g_iload dX7_row_79 rfl ?_
    refine g_sipush dX7_row_81 kS_160 ?_
    refine g_icmp_geN (tgt := 107) dX7_row_84 (by decide) rfl rfl (by omega) (by omega) (fun c_84 => absurd c_84 (by omega)) (fun c_84 => ?_)
    refine g_aload_n dX7_row_87 rfl rfl ?_
    refine g_getR dX7_row_88 fl_X7_56 rfl rfl ?_
    refine g_sipush dX7_row_91 kS_160 ?_
    refine g_iload_n dX7_row_94 rfl rfl ?_
    refine g_imul dX7_row_95 (pk_mul _ _) ?_
    refine g_iload dX7_row_96 rfl ?_
    refine g_iadd dX7_row_98 (nI_add _ _) ?_
    refine g_lconst (v := 0) dX7_row_99 (by decide) ?_
    refine g_last dX7_row_100 rfl rfl (by omega) ?_
    refine g_iinc dX7_row_101 rfl (inc_nI _) rfl ?_
    refine g_goto (tgt := 79) dX7_row_104 (by decide) ?_
    exact g_le (lvLe_c rfl (lvLe_c rfl (lvLe_c rfl lvLe_0))) (ih (i + 1) (by omega) _ (hF.tr (Fk.pl (by decide))) (fun j hj => by
      by_cases e : j = i
      · subst e; exact upL_s
      · rw [upL_k (by omega)]; exact h2 j (by omega)) (fun q' hq' j hj => by rw [upL_k (by omega)]; exact h3 q' hq' j hj))
theorem mx_row {y : Sys} {s so n : Int32} (h : RM B M y) (ho : okY y) : Ct E B yX7_row cX7_row 5 (some .int) 1 [.ref (B + 80), .int s, .int so, .int n] M (QM B M (o_row y s so n)) := by
  refine Ct.of2 (own := RX7) (lv := [(0, .ref (B + 80)), (1, .int s), (2, .int so), (3, .int n)]) pn_X7 rfl (Nat.le_of_ble_eq_true rfl) rfl ?_
  refine g_aload_n dX7_row_0 rfl rfl ?_
  refine g_iload_n dX7_row_1 rfl rfl ?_
  refine g_callVp dX7_row_2 mi_X7_isShelf ml_X7_97 (ct_X7_isShelf) rfl rfl rfl rfl (Nat.le_of_ble_eq_true rfl) ⟨lt_r rfl, Nat.le_of_ble_eq_true rfl⟩ ?_
  refine g_if_neP (tgt := 14) dX7_row_5 (by decide) (fun c_5 => ?_) (fun c_5 => ?_)
  · refine g_iload_n dX7_row_14 rfl rfl ?_
    refine g_if_ge (tgt := 25) dX7_row_15 (by decide) (fun c_15 => ?_) (fun c_15 => ?_)
    · refine g_iload_n dX7_row_25 rfl rfl ?_
      refine g_if_lt (tgt := 34) dX7_row_26 (by decide) (fun c_26 => ?_) (fun c_26 => ?_)
      · refine g_aload_n dX7_row_34 rfl rfl ?_
        refine g_bipush dX7_row_35 kB_m6 ?_
        refine g_callVi dX7_row_37 mi_X7_no ml_X7_100 (ct_no (w := 6) h (by decide) (by decide)) rfl rfl rfl rfl (Nat.le_of_ble_eq_true rfl) ⟨lt_r rfl, Nat.le_of_ble_eq_true rfl⟩ (fun x37 M37 h37 => ?_)
        refine g_iret dX7_row_40 ⟨_, rfl, ?_⟩
        first | exact QM.rf (by unfold o_row; rw [if_neg (fun z => z c_5), if_neg (fun z => z c_15), if_pos (fun z => Int32.not_lt.mpr z.1 c_26)]) h37 | exact QM.rf (by unfold o_row; rw [if_neg (fun z => z c_5), if_neg (fun z => z c_15), if_pos (fun z => c_31 z.2)]) h37
      · refine g_iload_n dX7_row_29 rfl rfl ?_
        refine g_iconst dX7_row_30 kI_3 ?_
        refine g_icmp_le (tgt := 41) dX7_row_31 (by decide) (fun c_31 => ?_) (fun c_31 => ?_)
        · refine g_iload_n dX7_row_41 rfl rfl ?_
          refine g_sipush dX7_row_42 kS_160 ?_
          refine g_icmp_le (tgt := 55) dX7_row_45 (by decide) (fun c_45 => ?_) (fun c_45 => ?_)
          · have e9 : o_row y s so n = (nI 1, setH y (tn s) (1, tn so, tn n, fun _ => 0)) := by unfold o_row; rw [if_neg (fun z => z c_5), if_neg (fun z => z c_15), if_neg (fun z => z ⟨Int32.not_lt.mp c_26, c_31⟩), if_neg (fun z => z c_45)]
            rw [e9]
            obtain ⟨q, hq, rfl, e1⟩ := in_sh c_5
            obtain ⟨so', -, hso, rfl, e2⟩ := btw_n (lo := 0) (by decide) (by decide) (show nI 0 ≤ so ∧ so ≤ nI 3 from ⟨Int32.not_lt.mp c_26, c_31⟩)
            obtain ⟨n', -, hn, rfl, e3⟩ := btw_n (lo := 0) (by decide) (by decide) (show nI 0 ≤ n ∧ n ≤ nI 160 from ⟨c_15, c_45⟩)
            rw [e1, e2, e3]
            refine g_aload_n dX7_row_55 rfl rfl ?_
            refine g_getR dX7_row_56 fl_X7_44 rfl rfl ?_
            refine g_iload_n dX7_row_59 rfl rfl ?_
            refine g_iconst dX7_row_60 kI_1 ?_
            refine g_iast dX7_row_61 rfl rfl (by omega) ?_
            refine g_aload_n dX7_row_62 rfl rfl ?_
            refine g_getR dX7_row_63 fl_X7_47 rfl rfl ?_
            refine g_iload_n dX7_row_66 rfl rfl ?_
            refine g_iload_n dX7_row_67 rfl rfl ?_
            refine g_iast dX7_row_68 rfl rfl (by omega) ?_
            refine g_aload_n dX7_row_69 rfl rfl ?_
            refine g_getR dX7_row_70 fl_X7_50 rfl rfl ?_
            refine g_iload_n dX7_row_73 rfl rfl ?_
            refine g_iload_n dX7_row_74 rfl rfl ?_
            refine g_iast dX7_row_75 rfl rfl (by omega) ?_
            refine g_iconst dX7_row_76 kI_0 ?_
            refine g_istore dX7_row_77 (lt_r rfl) rfl ?_
            have hF0 : Fk B M (upI (upI (upI M (B + 87) q (nI 1)) (B + 88) q (nI so')) (B + 89) q (nI n')) [87, 88, 89, 90, 91, 92] [] := Fk.tr (Fk.tr (Fk.pi (by decide) (by decide)) (Fk.pi (by decide) (by decide))) (Fk.pi (by decide) (by decide))
            refine g_le (lvLe_c rfl (lvLe_c rfl (lvLe_c rfl lvLe_0))) (lp_row hq (fun M' a1 a2 a3 => ⟨_, rfl, rfl, ?_⟩) 160 0 rfl _ Fk.rf (fun j hj => absurd hj (Nat.not_lt_zero j)) (fun q' _ j _ => rfl))
            have hF1 := hF0.tr (a1.up (by decide) (by decide))
            refine ⟨h.h ho hq hF1 (fun q' hq' hne => ⟨?_, ?_, ?_, ?_, fun i hi => a3 q' hne i hi⟩) ⟨?_, fun _ => ⟨?_, ?_, fun i hi => a2 i (by have hi : i < n' := hi; omega)⟩, fun z => absurd (show (1 : Nat) = 2 from z) (by decide)⟩, hF1.sm (by decide)⟩
            · rw [a1.i (by decide) (by decide), upI_ap (by decide), upI_ap (by decide), upI_k hne]
            · rw [a1.i (by decide) (by decide), upI_ap (by decide), upI_k hne, upI_ap (by decide)]
            · rw [a1.i (by decide) (by decide), upI_k hne, upI_ap (by decide), upI_ap (by decide)]
            · rw [a1.i (by decide) (by decide), upI_ap (by decide), upI_ap (by decide), upI_ap (by decide)]
            · rw [a1.i (by decide) (by decide), upI_ap (by decide), upI_ap (by decide), upI_s]
            · rw [a1.i (by decide) (by decide), upI_ap (by decide), upI_s]
            · rw [a1.i (by decide) (by decide), upI_s]
          · refine g_aload_n dX7_row_48 rfl rfl ?_
            refine g_bipush dX7_row_49 kB_m7 ?_
            refine g_callVi dX7_row_51 mi_X7_no ml_X7_100 (ct_no (w := 7) h (by decide) (by decide)) rfl rfl rfl rfl (Nat.le_of_ble_eq_true rfl) ⟨lt_r rfl, Nat.le_of_ble_eq_true rfl⟩ (fun x51 M51 h51 => ?_)
            refine g_iret dX7_row_54 ⟨_, rfl, ?_⟩
            exact QM.rf (by unfold o_row; rw [if_neg (fun z => z c_5), if_neg (fun z => z c_15), if_neg (fun z => z ⟨Int32.not_lt.mp c_26, c_31⟩), if_pos c_45]) h51
        · refine g_aload_n dX7_row_34 rfl rfl ?_
          refine g_bipush dX7_row_35 kB_m6 ?_
          refine g_callVi dX7_row_37 mi_X7_no ml_X7_100 (ct_no (w := 6) h (by decide) (by decide)) rfl rfl rfl rfl (Nat.le_of_ble_eq_true rfl) ⟨lt_r rfl, Nat.le_of_ble_eq_true rfl⟩ (fun x37 M37 h37 => ?_)
          refine g_iret dX7_row_40 ⟨_, rfl, ?_⟩
          first | exact QM.rf (by unfold o_row; rw [if_neg (fun z => z c_5), if_neg (fun z => z c_15), if_pos (fun z => Int32.not_lt.mpr z.1 c_26)]) h37 | exact QM.rf (by unfold o_row; rw [if_neg (fun z => z c_5), if_neg (fun z => z c_15), if_pos (fun z => c_31 z.2)]) h37
    · refine g_aload_n dX7_row_18 rfl rfl ?_
      refine g_bipush dX7_row_19 kB_m4 ?_
      refine g_callVi dX7_row_21 mi_X7_no ml_X7_100 (ct_no (w := 4) h (by decide) (by decide)) rfl rfl rfl rfl (Nat.le_of_ble_eq_true rfl) ⟨lt_r rfl, Nat.le_of_ble_eq_true rfl⟩ (fun x21 M21 h21 => ?_)
      refine g_iret dX7_row_24 ⟨_, rfl, ?_⟩
      exact QM.rf (by unfold o_row; rw [if_neg (fun z => z c_5), if_pos c_15]) h21
  · refine g_aload_n dX7_row_8 rfl rfl ?_
    refine g_iconst dX7_row_9 kI_m1 ?_
    refine g_callVi dX7_row_10 mi_X7_no ml_X7_100 (ct_no (w := 1) h (by decide) (by decide)) rfl rfl rfl rfl (Nat.le_of_ble_eq_true rfl) ⟨lt_r rfl, Nat.le_of_ble_eq_true rfl⟩ (fun x10 M10 h10 => ?_)
    refine g_iret dX7_row_13 ⟨_, rfl, ?_⟩
    exact QM.rf (if_pos c_5) h10
theorem mx_set {y : Sys} {s i : Int32} {v : Int64} (h : RM B M y) (ho : okY y) : Ct E B yX7_set cX7_set 5 (some .int) 1 [.ref (B + 80), .int s, .int i, .long v] M (QM B M (o_set y s i v)) := by
  refine Ct.of2 (own := RX7) (lv := [(0, .ref (B + 80)), (1, .int s), (2, .int i), (3, .long v)]) pn_X7 rfl (Nat.le_of_ble_eq_true rfl) rfl ?_
  refine g_aload_n dX7_set_0 rfl rfl ?_
  refine g_iload_n dX7_set_1 rfl rfl ?_
  refine g_callVp dX7_set_2 mi_X7_isShelf ml_X7_97 (ct_X7_isShelf) rfl rfl rfl rfl (Nat.le_of_ble_eq_true rfl) ⟨lt_r rfl, Nat.le_of_ble_eq_true rfl⟩ ?_
  refine g_if_neP (tgt := 14) dX7_set_5 (by decide) (fun c_5 => ?_) (fun c_5 => ?_)
  · obtain ⟨q, hq, rfl, e1⟩ := in_sh c_5
    have h2 := (ho.1 q hq).1
    have eW : whyRow y (nI q) = if (yH y q).1 = 1 then 0 else if (yH y q).1 = 0 then 3 else 2 := by unfold whyRow; rw [if_neg (fun z => z c_5), e1]
    refine g_aload_n dX7_set_14 rfl rfl ?_
    refine g_getR dX7_set_15 fl_X7_44 rfl rfl ?_
    refine g_iload_n dX7_set_18 rfl rfl ?_
    refine g_iald dX7_set_19 rfl rfl (by omega) ((h.1 q hq).1) ?_
    refine g_iconst dX7_set_20 kI_2 ?_
    refine g_icmp_neN (tgt := 31) dX7_set_21 (by decide) rfl rfl (by omega) (by omega) (fun c_21 => ?_) (fun c_21 => ?_)
    · refine g_aload_n dX7_set_31 rfl rfl ?_
      refine g_getR dX7_set_32 fl_X7_44 rfl rfl ?_
      refine g_iload_n dX7_set_35 rfl rfl ?_
      refine g_iald dX7_set_36 rfl rfl (by omega) ((h.1 q hq).1) ?_
      refine g_if_neN (tgt := 47) dX7_set_37 (by decide) rfl (by omega) (fun c_37 => ?_) (fun c_37 => ?_)
      · have d2 : (yH y q).1 = 1 := by omega
        obtain ⟨b1, b2, b3⟩ := (h.1 q hq).2.1 d2
        obtain ⟨b4, b5⟩ := (ho.1 q hq).2.1 d2
        rw [if_pos d2] at eW
        have e9 : o_set y (nI q) i v = if ¬ (0 ≤ i ∧ i < nI (yH y q).2.2.1) then rz y 5 else (nI 1, setH y q (1, (yH y q).2.1, (yH y q).2.2.1, upF (yH y q).2.2.2 (tn i) (lowI (yH y q).2.1 v))) := by unfold o_set; rw [eW, if_neg (by decide), e1]
        rw [e9]
        refine g_iload_n dX7_set_47 rfl rfl ?_
        refine g_if_lt (tgt := 61) dX7_set_48 (by decide) (fun c_48 => ?_) (fun c_48 => ?_)
        · refine g_aload_n dX7_set_61 rfl rfl ?_
          refine g_bipush dX7_set_62 kB_m5 ?_
          refine g_callVi dX7_set_64 mi_X7_no ml_X7_100 (ct_no (w := 5) h (by decide) (by decide)) rfl rfl rfl rfl (Nat.le_of_ble_eq_true rfl) ⟨lt_r rfl, Nat.le_of_ble_eq_true rfl⟩ (fun x64 M64 h64 => ?_)
          refine g_iret dX7_set_67 ⟨_, rfl, ?_⟩
          first | exact QM.rf (if_pos (fun z => Int32.not_lt.mpr z.1 c_48)) h64 | exact QM.rf (if_pos (fun z => c_58 z.2)) h64
        · refine g_iload_n dX7_set_51 rfl rfl ?_
          refine g_aload_n dX7_set_52 rfl rfl ?_
          refine g_getR dX7_set_53 fl_X7_50 rfl rfl ?_
          refine g_iload_n dX7_set_56 rfl rfl ?_
          refine g_iald dX7_set_57 rfl rfl (by omega) (b2) ?_
          refine g_icmp_lt (tgt := 68) dX7_set_58 (by decide) (fun c_58 => ?_) (fun c_58 => ?_)
          · rw [if_neg (fun z => z ⟨Int32.not_lt.mp c_48, c_58⟩)]
            obtain ⟨j, hj, rfl⟩ := in_nI (by omega) ⟨Int32.not_lt.mp c_48, c_58⟩
            rw [tn_nI (show j < 2 ^ 31 by omega)]
            refine g_aload_n dX7_set_68 rfl rfl ?_
            refine g_getR dX7_set_69 fl_X7_56 rfl rfl ?_
            refine g_sipush dX7_set_72 kS_160 ?_
            refine g_iload_n dX7_set_75 rfl rfl ?_
            refine g_imul dX7_set_76 (pk_mul _ _) ?_
            refine g_iload_n dX7_set_77 rfl rfl ?_
            refine g_iadd dX7_set_78 (nI_add _ _) ?_
            refine g_aload_n dX7_set_79 rfl rfl ?_
            refine g_getR dX7_set_80 fl_X7_47 rfl rfl ?_
            refine g_iload_n dX7_set_83 rfl rfl ?_
            refine g_iald dX7_set_84 rfl rfl (by omega) (b1) ?_
            refine g_if_neN (tgt := 95) dX7_set_85 (by decide) rfl (by omega) (fun c_85 => ?_) (fun c_85 => ?_)
            · refine g_aload_n dX7_set_95 rfl rfl ?_
              refine g_getR dX7_set_96 fl_X7_47 rfl rfl ?_
              refine g_iload_n dX7_set_99 rfl rfl ?_
              refine g_iald dX7_set_100 rfl rfl (by omega) (b1) ?_
              refine g_iconst dX7_set_101 kI_1 ?_
              refine g_icmp_neN (tgt := 112) dX7_set_102 (by decide) rfl rfl (by omega) (by omega) (fun c_102 => ?_) (fun c_102 => ?_)
              · refine g_aload_n dX7_set_112 rfl rfl ?_
                refine g_getR dX7_set_113 fl_X7_47 rfl rfl ?_
                refine g_iload_n dX7_set_116 rfl rfl ?_
                refine g_iald dX7_set_117 rfl rfl (by omega) (b1) ?_
                refine g_iconst dX7_set_118 kI_2 ?_
                refine g_icmp_neN (tgt := 128) dX7_set_119 (by decide) rfl rfl (by omega) (by omega) (fun c_119 => ?_) (fun c_119 => ?_)
                · refine g_lload_n dX7_set_128 rfl rfl ?_
                  refine g_last dX7_set_129 rfl rfl (by omega) ?_
                  refine g_iconst dX7_set_130 kI_1 ?_
                  refine g_iret dX7_set_131 ⟨_, rfl, ?_⟩
                  have hF1 : Fk B M (upL M (B + 91) (160 * q + j) (lowI (yH y q).2.1 v)) [87, 88, 89, 90, 91, 92] [] := Fk.pl (by decide)
                  have e8 : ∀ x, lowI (yH y q).2.1 v = x → RM B (upL M (B + 91) (160 * q + j) x) (setH y q (1, (yH y q).2.1, (yH y q).2.2.1, upF (yH y q).2.2.2 j (lowI (yH y q).2.1 v))) ∧ Sm B M (upL M (B + 91) (160 * q + j) x) 80 102 := by
                    rintro x rfl
                    refine ⟨h.h ho hq hF1 (fun q' hq' hne => ⟨rfl, rfl, rfl, rfl, fun i hi => upL_k (by omega)⟩) ⟨(h.1 q hq).1.trans (by rw [d2]), fun _ => ⟨b1, b2, fun i hi => ?_⟩, fun z => absurd (show (1 : Nat) = 2 from z) (by decide)⟩, hF1.sm (by decide)⟩
                    have hi : i < (yH y q).2.2.1 := hi
                    show _ = upF (yH y q).2.2.2 j (lowI (yH y q).2.1 v) i
                    by_cases e : i = j
                    · subst e; rw [upL_s, upF_s]
                    · rw [upL_k (by omega), upF_n e]; exact b3 i hi
                  exact ⟨rfl, e8 _ (by unfold lowI; first | rw [if_pos (by omega)] | rw [if_neg (by omega), if_pos (by omega)] | rw [if_neg (by omega), if_neg (by omega), if_pos (by omega)] | rw [if_neg (by omega), if_neg (by omega), if_neg (by omega)])⟩
                · refine g_lload_n dX7_set_122 rfl rfl ?_
                  refine g_l2i dX7_set_123 rfl ?_
                  refine g_i2l dX7_set_124 rfl ?_
                  refine g_goto (tgt := 129) dX7_set_125 (by decide) ?_
                  refine g_last dX7_set_129 rfl rfl (by omega) ?_
                  refine g_iconst dX7_set_130 kI_1 ?_
                  refine g_iret dX7_set_131 ⟨_, rfl, ?_⟩
                  have hF1 : Fk B M (upL M (B + 91) (160 * q + j) (lowI (yH y q).2.1 v)) [87, 88, 89, 90, 91, 92] [] := Fk.pl (by decide)
                  have e8 : ∀ x, lowI (yH y q).2.1 v = x → RM B (upL M (B + 91) (160 * q + j) x) (setH y q (1, (yH y q).2.1, (yH y q).2.2.1, upF (yH y q).2.2.2 j (lowI (yH y q).2.1 v))) ∧ Sm B M (upL M (B + 91) (160 * q + j) x) 80 102 := by
                    rintro x rfl
                    refine ⟨h.h ho hq hF1 (fun q' hq' hne => ⟨rfl, rfl, rfl, rfl, fun i hi => upL_k (by omega)⟩) ⟨(h.1 q hq).1.trans (by rw [d2]), fun _ => ⟨b1, b2, fun i hi => ?_⟩, fun z => absurd (show (1 : Nat) = 2 from z) (by decide)⟩, hF1.sm (by decide)⟩
                    have hi : i < (yH y q).2.2.1 := hi
                    show _ = upF (yH y q).2.2.2 j (lowI (yH y q).2.1 v) i
                    by_cases e : i = j
                    · subst e; rw [upL_s, upF_s]
                    · rw [upL_k (by omega), upF_n e]; exact b3 i hi
                  exact ⟨rfl, e8 _ (by unfold lowI; first | rw [if_pos (by omega)] | rw [if_neg (by omega), if_pos (by omega)] | rw [if_neg (by omega), if_neg (by omega), if_pos (by omega)] | rw [if_neg (by omega), if_neg (by omega), if_neg (by omega)])⟩
              · refine g_lload_n dX7_set_105 rfl rfl ?_
                refine g_l2i dX7_set_106 rfl ?_
                refine g_i2s dX7_set_107 rfl ?_
                refine g_i2l dX7_set_108 rfl ?_
                refine g_goto (tgt := 129) dX7_set_109 (by decide) ?_
                refine g_last dX7_set_129 rfl rfl (by omega) ?_
                refine g_iconst dX7_set_130 kI_1 ?_
                refine g_iret dX7_set_131 ⟨_, rfl, ?_⟩
                have hF1 : Fk B M (upL M (B + 91) (160 * q + j) (lowI (yH y q).2.1 v)) [87, 88, 89, 90, 91, 92] [] := Fk.pl (by decide)
                have e8 : ∀ x, lowI (yH y q).2.1 v = x → RM B (upL M (B + 91) (160 * q + j) x) (setH y q (1, (yH y q).2.1, (yH y q).2.2.1, upF (yH y q).2.2.2 j (lowI (yH y q).2.1 v))) ∧ Sm B M (upL M (B + 91) (160 * q + j) x) 80 102 := by
                  rintro x rfl
                  refine ⟨h.h ho hq hF1 (fun q' hq' hne => ⟨rfl, rfl, rfl, rfl, fun i hi => upL_k (by omega)⟩) ⟨(h.1 q hq).1.trans (by rw [d2]), fun _ => ⟨b1, b2, fun i hi => ?_⟩, fun z => absurd (show (1 : Nat) = 2 from z) (by decide)⟩, hF1.sm (by decide)⟩
                  have hi : i < (yH y q).2.2.1 := hi
                  show _ = upF (yH y q).2.2.2 j (lowI (yH y q).2.1 v) i
                  by_cases e : i = j
                  · subst e; rw [upL_s, upF_s]
                  · rw [upL_k (by omega), upF_n e]; exact b3 i hi
                exact ⟨rfl, e8 _ (by unfold lowI; first | rw [if_pos (by omega)] | rw [if_neg (by omega), if_pos (by omega)] | rw [if_neg (by omega), if_neg (by omega), if_pos (by omega)] | rw [if_neg (by omega), if_neg (by omega), if_neg (by omega)])⟩
            · refine g_lload_n dX7_set_88 rfl rfl ?_
              refine g_l2i dX7_set_89 rfl ?_
              refine g_i2b dX7_set_90 rfl ?_
              refine g_i2l dX7_set_91 rfl ?_
              refine g_goto (tgt := 129) dX7_set_92 (by decide) ?_
              refine g_last dX7_set_129 rfl rfl (by omega) ?_
              refine g_iconst dX7_set_130 kI_1 ?_
              refine g_iret dX7_set_131 ⟨_, rfl, ?_⟩
              have hF1 : Fk B M (upL M (B + 91) (160 * q + j) (lowI (yH y q).2.1 v)) [87, 88, 89, 90, 91, 92] [] := Fk.pl (by decide)
              have e8 : ∀ x, lowI (yH y q).2.1 v = x → RM B (upL M (B + 91) (160 * q + j) x) (setH y q (1, (yH y q).2.1, (yH y q).2.2.1, upF (yH y q).2.2.2 j (lowI (yH y q).2.1 v))) ∧ Sm B M (upL M (B + 91) (160 * q + j) x) 80 102 := by
                rintro x rfl
                refine ⟨h.h ho hq hF1 (fun q' hq' hne => ⟨rfl, rfl, rfl, rfl, fun i hi => upL_k (by omega)⟩) ⟨(h.1 q hq).1.trans (by rw [d2]), fun _ => ⟨b1, b2, fun i hi => ?_⟩, fun z => absurd (show (1 : Nat) = 2 from z) (by decide)⟩, hF1.sm (by decide)⟩
                have hi : i < (yH y q).2.2.1 := hi
                show _ = upF (yH y q).2.2.2 j (lowI (yH y q).2.1 v) i
                by_cases e : i = j
                · subst e; rw [upL_s, upF_s]
                · rw [upL_k (by omega), upF_n e]; exact b3 i hi
              exact ⟨rfl, e8 _ (by unfold lowI; first | rw [if_pos (by omega)] | rw [if_neg (by omega), if_pos (by omega)] | rw [if_neg (by omega), if_neg (by omega), if_pos (by omega)] | rw [if_neg (by omega), if_neg (by omega), if_neg (by omega)])⟩
          · refine g_aload_n dX7_set_61 rfl rfl ?_
            refine g_bipush dX7_set_62 kB_m5 ?_
            refine g_callVi dX7_set_64 mi_X7_no ml_X7_100 (ct_no (w := 5) h (by decide) (by decide)) rfl rfl rfl rfl (Nat.le_of_ble_eq_true rfl) ⟨lt_r rfl, Nat.le_of_ble_eq_true rfl⟩ (fun x64 M64 h64 => ?_)
            refine g_iret dX7_set_67 ⟨_, rfl, ?_⟩
            first | exact QM.rf (if_pos (fun z => Int32.not_lt.mpr z.1 c_48)) h64 | exact QM.rf (if_pos (fun z => c_58 z.2)) h64
      · refine g_aload_n dX7_set_40 rfl rfl ?_
        refine g_bipush dX7_set_41 kB_m3 ?_
        refine g_callVi dX7_set_43 mi_X7_no ml_X7_100 (ct_no (w := 3) h (by decide) (by decide)) rfl rfl rfl rfl (Nat.le_of_ble_eq_true rfl) ⟨lt_r rfl, Nat.le_of_ble_eq_true rfl⟩ (fun x43 M43 h43 => ?_)
        refine g_iret dX7_set_46 ⟨_, rfl, ?_⟩
        exact QM.rf (by rw [if_neg (by omega), if_pos (by omega)] at eW; unfold o_set; rw [eW, if_pos (by decide)]) h43
    · refine g_aload_n dX7_set_24 rfl rfl ?_
      refine g_bipush dX7_set_25 kB_m2 ?_
      refine g_callVi dX7_set_27 mi_X7_no ml_X7_100 (ct_no (w := 2) h (by decide) (by decide)) rfl rfl rfl rfl (Nat.le_of_ble_eq_true rfl) ⟨lt_r rfl, Nat.le_of_ble_eq_true rfl⟩ (fun x27 M27 h27 => ?_)
      refine g_iret dX7_set_30 ⟨_, rfl, ?_⟩
      exact QM.rf (by rw [if_neg (by omega), if_neg (by omega)] at eW; unfold o_set; rw [eW, if_pos (by decide)]) h27
  · refine g_aload_n dX7_set_8 rfl rfl ?_
    refine g_iconst dX7_set_9 kI_m1 ?_
    refine g_callVi dX7_set_10 mi_X7_no ml_X7_100 (ct_no (w := 1) h (by decide) (by decide)) rfl rfl rfl rfl (Nat.le_of_ble_eq_true rfl) ⟨lt_r rfl, Nat.le_of_ble_eq_true rfl⟩ (fun x10 M10 h10 => ?_)
    refine g_iret dX7_set_13 ⟨_, rfl, ?_⟩
    exact QM.rf (by have e : whyRow y s = 1 := if_pos c_5; unfold o_set; rw [e, if_pos (by decide)]) h10
theorem mx_element {y : Sys} {s i : Int32} (h : RM B M y) (ho : okY y) : Ct E B yX7_element cX7_element 3 (some .long) 1 [.ref (B + 80), .int s, .int i] M (Rl (fun r M2 => r = (o_element y s i).1 ∧ M2 = M)) := by
  refine Ct.of2 (own := RX7) (lv := [(0, .ref (B + 80)), (1, .int s), (2, .int i)]) pn_X7 rfl (Nat.le_of_ble_eq_true rfl) rfl ?_
  refine g_aload_n dX7_element_0 rfl rfl ?_
  refine g_iload_n dX7_element_1 rfl rfl ?_
  refine g_callVp dX7_element_2 mi_X7_isShelf ml_X7_97 (ct_X7_isShelf) rfl rfl rfl rfl (Nat.le_of_ble_eq_true rfl) ⟨lt_r rfl, Nat.le_of_ble_eq_true rfl⟩ ?_
  refine g_if_eqP (tgt := 47) dX7_element_5 (by decide) (fun c_5 => ?_) (fun c_5 => ?_)
  · refine g_lconst (v := 0) dX7_element_47 (by decide) ?_
    refine g_lret dX7_element_48 ⟨_, rfl, ?_⟩
    refine ⟨?_, rfl⟩
    unfold o_element
    first | rw [if_neg c_5] | (rw [if_pos c_5, e1]; unfold elI; first | rw [if_pos ⟨c_15, Int32.not_lt.mp c_19, Int32.not_le.mp c_29⟩, nI_clamp (by omega)] | rw [if_neg (fun z => c_15 z.1)] | rw [if_neg (fun z => Int32.not_lt.mpr z.2.1 c_19)] | rw [if_neg (fun z => Int32.not_le.mpr z.2.2 c_29)])
  · obtain ⟨q, hq, rfl, e1⟩ := in_sh c_5
    have h2 := (ho.1 q hq).1
    refine g_aload_n dX7_element_8 rfl rfl ?_
    refine g_getR dX7_element_9 fl_X7_44 rfl rfl ?_
    refine g_iload_n dX7_element_12 rfl rfl ?_
    refine g_iald dX7_element_13 rfl rfl (by omega) ((h.1 q hq).1) ?_
    refine g_iconst dX7_element_14 kI_1 ?_
    refine g_icmp_neN (tgt := 47) dX7_element_15 (by decide) rfl rfl (by omega) (by omega) (fun c_15 => ?_) (fun c_15 => ?_)
    · refine g_lconst (v := 0) dX7_element_47 (by decide) ?_
      refine g_lret dX7_element_48 ⟨_, rfl, ?_⟩
      refine ⟨?_, rfl⟩
      unfold o_element
      first | rw [if_neg c_5] | (rw [if_pos c_5, e1]; unfold elI; first | rw [if_pos ⟨c_15, Int32.not_lt.mp c_19, Int32.not_le.mp c_29⟩, nI_clamp (by omega)] | rw [if_neg (fun z => c_15 z.1)] | rw [if_neg (fun z => Int32.not_lt.mpr z.2.1 c_19)] | rw [if_neg (fun z => Int32.not_le.mpr z.2.2 c_29)])
    · refine g_iload_n dX7_element_18 rfl rfl ?_
      refine g_if_lt (tgt := 47) dX7_element_19 (by decide) (fun c_19 => ?_) (fun c_19 => ?_)
      · refine g_lconst (v := 0) dX7_element_47 (by decide) ?_
        refine g_lret dX7_element_48 ⟨_, rfl, ?_⟩
        refine ⟨?_, rfl⟩
        unfold o_element
        first | rw [if_neg c_5] | (rw [if_pos c_5, e1]; unfold elI; first | rw [if_pos ⟨c_15, Int32.not_lt.mp c_19, Int32.not_le.mp c_29⟩, nI_clamp (by omega)] | rw [if_neg (fun z => c_15 z.1)] | rw [if_neg (fun z => Int32.not_lt.mpr z.2.1 c_19)] | rw [if_neg (fun z => Int32.not_le.mpr z.2.2 c_29)])
      · refine g_iload_n dX7_element_22 rfl rfl ?_
        refine g_aload_n dX7_element_23 rfl rfl ?_
        refine g_getR dX7_element_24 fl_X7_50 rfl rfl ?_
        refine g_iload_n dX7_element_27 rfl rfl ?_
        refine g_iald dX7_element_28 rfl rfl (by omega) ((((h.1 q hq).2.1 c_15).2.1)) ?_
        refine g_icmp_ge (tgt := 47) dX7_element_29 (by decide) (fun c_29 => ?_) (fun c_29 => ?_)
        · refine g_lconst (v := 0) dX7_element_47 (by decide) ?_
          refine g_lret dX7_element_48 ⟨_, rfl, ?_⟩
          refine ⟨?_, rfl⟩
          unfold o_element
          first | rw [if_neg c_5] | (rw [if_pos c_5, e1]; unfold elI; first | rw [if_pos ⟨c_15, Int32.not_lt.mp c_19, Int32.not_le.mp c_29⟩, nI_clamp (by omega)] | rw [if_neg (fun z => c_15 z.1)] | rw [if_neg (fun z => Int32.not_lt.mpr z.2.1 c_19)] | rw [if_neg (fun z => Int32.not_le.mpr z.2.2 c_29)])
        · obtain ⟨b1, b2, b3⟩ := (h.1 q hq).2.1 c_15
          obtain ⟨b4, b5⟩ := (ho.1 q hq).2.1 c_15
          obtain ⟨j, hj, rfl⟩ := in_nI (by omega) ⟨Int32.not_lt.mp c_19, Int32.not_le.mp c_29⟩
          refine g_aload_n dX7_element_32 rfl rfl ?_
          refine g_getR dX7_element_33 fl_X7_56 rfl rfl ?_
          refine g_sipush dX7_element_36 kS_160 ?_
          refine g_iload_n dX7_element_39 rfl rfl ?_
          refine g_imul dX7_element_40 (pk_mul _ _) ?_
          refine g_iload_n dX7_element_41 rfl rfl ?_
          refine g_iadd dX7_element_42 (nI_add _ _) ?_
          refine g_lald dX7_element_43 rfl rfl (by omega) (b3 j hj) ?_
          refine g_goto (tgt := 48) dX7_element_44 (by decide) ?_
          refine g_lret dX7_element_48 ⟨_, rfl, ?_⟩
          refine ⟨?_, rfl⟩
          unfold o_element
          first | rw [if_neg c_5] | (rw [if_pos c_5, e1]; unfold elI; first | rw [if_pos ⟨c_15, Int32.not_lt.mp c_19, Int32.not_le.mp c_29⟩, nI_clamp (by omega)] | rw [if_neg (fun z => c_15 z.1)] | rw [if_neg (fun z => Int32.not_lt.mpr z.2.1 c_19)] | rw [if_neg (fun z => Int32.not_le.mpr z.2.2 c_29)])
theorem mx_show {y : Sys} {s b : Int32} (h : RM B M y) (ho : okY y) : Ct E B yX7_show cX7_show 3 (some .int) 1 [.ref (B + 80), .int s, .int b] M (QM B M (o_show y s b)) := by
  have hcn := ho.2.1.2.2.1
  refine Ct.of2 (own := RX7) (lv := [(0, .ref (B + 80)), (1, .int s), (2, .int b)]) pn_X7 rfl (Nat.le_of_ble_eq_true rfl) rfl ?_
  refine g_aload_n dX7_show_0 rfl rfl ?_
  refine g_iload_n dX7_show_1 rfl rfl ?_
  refine g_callVp dX7_show_2 mi_X7_isShelf ml_X7_97 (ct_X7_isShelf) rfl rfl rfl rfl (Nat.le_of_ble_eq_true rfl) ⟨lt_r rfl, Nat.le_of_ble_eq_true rfl⟩ ?_
  refine g_if_eqP (tgt := 21) dX7_show_5 (by decide) (fun c_5 => ?_) (fun c_5 => ?_)
  · refine g_aload_n dX7_show_21 rfl rfl ?_
    refine g_iconst dX7_show_22 kI_m1 ?_
    refine g_callVi dX7_show_23 mi_X7_no ml_X7_100 (ct_no (w := 1) h (by decide) (by decide)) rfl rfl rfl rfl (Nat.le_of_ble_eq_true rfl) ⟨lt_r rfl, Nat.le_of_ble_eq_true rfl⟩ (fun x23 M23 h23 => ?_)
    refine g_iret dX7_show_26 ⟨_, rfl, ?_⟩
    first | exact QM.rf (if_pos c_5) h23 | exact QM.rf (by unfold o_show; rw [if_neg (fun z => z c_5), if_neg c_10, if_pos c_18]) h23
  · refine g_iload_n dX7_show_8 rfl rfl ?_
    refine g_iconst dX7_show_9 kI_m1 ?_
    refine g_icmp_eq (tgt := 27) dX7_show_10 (by decide) (fun c_10 => ?_) (fun c_10 => ?_)
    · obtain ⟨q, hq, rfl, e1⟩ := in_sh c_5
      refine g_aload_n dX7_show_27 rfl rfl ?_
      refine g_getR dX7_show_28 fl_X7_44 rfl rfl ?_
      refine g_iload_n dX7_show_31 rfl rfl ?_
      refine g_iload_n dX7_show_32 rfl rfl ?_
      refine g_iconst dX7_show_33 kI_m1 ?_
      refine g_icmp_ne (tgt := 41) dX7_show_34 (by decide) (fun c_34 => ?_) (fun c_34 => ?_)
      · refine g_iconst dX7_show_41 kI_2 ?_
        refine g_iast dX7_show_42 rfl rfl (by omega) ?_
        refine g_aload_n dX7_show_43 rfl rfl ?_
        refine g_getR dX7_show_44 fl_X7_53 rfl rfl ?_
        refine g_iload_n dX7_show_47 rfl rfl ?_
        refine g_iload_n dX7_show_48 rfl rfl ?_
        refine g_iast dX7_show_49 rfl rfl (by omega) ?_
        refine g_iload_n dX7_show_50 rfl rfl ?_
        refine g_iconst dX7_show_51 kI_m1 ?_
        refine g_icmp_ne (tgt := 59) dX7_show_52 (by decide) (fun c_52 => ?_) (fun c_52 => ?_)
        · refine g_iconst dX7_show_59 kI_1 ?_
          refine g_iret dX7_show_60 ⟨_, rfl, ?_⟩
          first | exact absurd c_10 c_34 | exact absurd c_34 c_10 | exact absurd c_34 c_52 | exact absurd c_52 c_34 | (rw [show o_show y (nI q) b = (nI 0, setH y q (0, 0, 0, fun _ => 0)) from (by unfold o_show; rw [if_neg (fun z => z c_5), if_pos c_10, e1])]; exact ⟨rfl, RM.sh h ho hq (Or.inl rfl)⟩) | (obtain ⟨b', hb, rfl, e2⟩ := in_b hcn c_18; rw [show o_show y (nI q) (nI b') = (nI 1, setH y q (2, b', 0, fun _ => 0)) from (by unfold o_show; rw [if_neg (fun z => z c_5), if_neg c_10, if_neg (fun z => z c_18), e1, e2])]; exact ⟨rfl, RM.sh h ho hq (Or.inr ⟨rfl, rfl⟩)⟩)
        · refine g_iconst dX7_show_55 kI_0 ?_
          refine g_goto (tgt := 60) dX7_show_56 (by decide) ?_
          refine g_iret dX7_show_60 ⟨_, rfl, ?_⟩
          first | exact absurd c_10 c_34 | exact absurd c_34 c_10 | exact absurd c_34 c_52 | exact absurd c_52 c_34 | (rw [show o_show y (nI q) b = (nI 0, setH y q (0, 0, 0, fun _ => 0)) from (by unfold o_show; rw [if_neg (fun z => z c_5), if_pos c_10, e1])]; exact ⟨rfl, RM.sh h ho hq (Or.inl rfl)⟩) | (obtain ⟨b', hb, rfl, e2⟩ := in_b hcn c_18; rw [show o_show y (nI q) (nI b') = (nI 1, setH y q (2, b', 0, fun _ => 0)) from (by unfold o_show; rw [if_neg (fun z => z c_5), if_neg c_10, if_neg (fun z => z c_18), e1, e2])]; exact ⟨rfl, RM.sh h ho hq (Or.inr ⟨rfl, rfl⟩)⟩)
      · refine g_iconst dX7_show_37 kI_0 ?_
        refine g_goto (tgt := 42) dX7_show_38 (by decide) ?_
        refine g_iast dX7_show_42 rfl rfl (by omega) ?_
        refine g_aload_n dX7_show_43 rfl rfl ?_
        refine g_getR dX7_show_44 fl_X7_53 rfl rfl ?_
        refine g_iload_n dX7_show_47 rfl rfl ?_
        refine g_iload_n dX7_show_48 rfl rfl ?_
        refine g_iast dX7_show_49 rfl rfl (by omega) ?_
        refine g_iload_n dX7_show_50 rfl rfl ?_
        refine g_iconst dX7_show_51 kI_m1 ?_
        refine g_icmp_ne (tgt := 59) dX7_show_52 (by decide) (fun c_52 => ?_) (fun c_52 => ?_)
        · refine g_iconst dX7_show_59 kI_1 ?_
          refine g_iret dX7_show_60 ⟨_, rfl, ?_⟩
          first | exact absurd c_10 c_34 | exact absurd c_34 c_10 | exact absurd c_34 c_52 | exact absurd c_52 c_34 | (rw [show o_show y (nI q) b = (nI 0, setH y q (0, 0, 0, fun _ => 0)) from (by unfold o_show; rw [if_neg (fun z => z c_5), if_pos c_10, e1])]; exact ⟨rfl, RM.sh h ho hq (Or.inl rfl)⟩) | (obtain ⟨b', hb, rfl, e2⟩ := in_b hcn c_18; rw [show o_show y (nI q) (nI b') = (nI 1, setH y q (2, b', 0, fun _ => 0)) from (by unfold o_show; rw [if_neg (fun z => z c_5), if_neg c_10, if_neg (fun z => z c_18), e1, e2])]; exact ⟨rfl, RM.sh h ho hq (Or.inr ⟨rfl, rfl⟩)⟩)
        · refine g_iconst dX7_show_55 kI_0 ?_
          refine g_goto (tgt := 60) dX7_show_56 (by decide) ?_
          refine g_iret dX7_show_60 ⟨_, rfl, ?_⟩
          first | exact absurd c_10 c_34 | exact absurd c_34 c_10 | exact absurd c_34 c_52 | exact absurd c_52 c_34 | (rw [show o_show y (nI q) b = (nI 0, setH y q (0, 0, 0, fun _ => 0)) from (by unfold o_show; rw [if_neg (fun z => z c_5), if_pos c_10, e1])]; exact ⟨rfl, RM.sh h ho hq (Or.inl rfl)⟩) | (obtain ⟨b', hb, rfl, e2⟩ := in_b hcn c_18; rw [show o_show y (nI q) (nI b') = (nI 1, setH y q (2, b', 0, fun _ => 0)) from (by unfold o_show; rw [if_neg (fun z => z c_5), if_neg c_10, if_neg (fun z => z c_18), e1, e2])]; exact ⟨rfl, RM.sh h ho hq (Or.inr ⟨rfl, rfl⟩)⟩)
    · refine g_aload_n dX7_show_13 rfl rfl ?_
      refine g_iload_n dX7_show_14 rfl rfl ?_
      refine g_callVp dX7_show_15 mi_X7_isBiscuit ml_X7_93 (ct_X7_isBiscuit h.2.1) rfl rfl rfl rfl (Nat.le_of_ble_eq_true rfl) ⟨lt_r rfl, Nat.le_of_ble_eq_true rfl⟩ ?_
      refine g_if_neP (tgt := 27) dX7_show_18 (by decide) (fun c_18 => ?_) (fun c_18 => ?_)
      · obtain ⟨q, hq, rfl, e1⟩ := in_sh c_5
        refine g_aload_n dX7_show_27 rfl rfl ?_
        refine g_getR dX7_show_28 fl_X7_44 rfl rfl ?_
        refine g_iload_n dX7_show_31 rfl rfl ?_
        refine g_iload_n dX7_show_32 rfl rfl ?_
        refine g_iconst dX7_show_33 kI_m1 ?_
        refine g_icmp_ne (tgt := 41) dX7_show_34 (by decide) (fun c_34 => ?_) (fun c_34 => ?_)
        · refine g_iconst dX7_show_41 kI_2 ?_
          refine g_iast dX7_show_42 rfl rfl (by omega) ?_
          refine g_aload_n dX7_show_43 rfl rfl ?_
          refine g_getR dX7_show_44 fl_X7_53 rfl rfl ?_
          refine g_iload_n dX7_show_47 rfl rfl ?_
          refine g_iload_n dX7_show_48 rfl rfl ?_
          refine g_iast dX7_show_49 rfl rfl (by omega) ?_
          refine g_iload_n dX7_show_50 rfl rfl ?_
          refine g_iconst dX7_show_51 kI_m1 ?_
          refine g_icmp_ne (tgt := 59) dX7_show_52 (by decide) (fun c_52 => ?_) (fun c_52 => ?_)
          · refine g_iconst dX7_show_59 kI_1 ?_
            refine g_iret dX7_show_60 ⟨_, rfl, ?_⟩
            first | exact absurd c_10 c_34 | exact absurd c_34 c_10 | exact absurd c_34 c_52 | exact absurd c_52 c_34 | (rw [show o_show y (nI q) b = (nI 0, setH y q (0, 0, 0, fun _ => 0)) from (by unfold o_show; rw [if_neg (fun z => z c_5), if_pos c_10, e1])]; exact ⟨rfl, RM.sh h ho hq (Or.inl rfl)⟩) | (obtain ⟨b', hb, rfl, e2⟩ := in_b hcn c_18; rw [show o_show y (nI q) (nI b') = (nI 1, setH y q (2, b', 0, fun _ => 0)) from (by unfold o_show; rw [if_neg (fun z => z c_5), if_neg c_10, if_neg (fun z => z c_18), e1, e2])]; exact ⟨rfl, RM.sh h ho hq (Or.inr ⟨rfl, rfl⟩)⟩)
          · refine g_iconst dX7_show_55 kI_0 ?_
            refine g_goto (tgt := 60) dX7_show_56 (by decide) ?_
            refine g_iret dX7_show_60 ⟨_, rfl, ?_⟩
            first | exact absurd c_10 c_34 | exact absurd c_34 c_10 | exact absurd c_34 c_52 | exact absurd c_52 c_34 | (rw [show o_show y (nI q) b = (nI 0, setH y q (0, 0, 0, fun _ => 0)) from (by unfold o_show; rw [if_neg (fun z => z c_5), if_pos c_10, e1])]; exact ⟨rfl, RM.sh h ho hq (Or.inl rfl)⟩) | (obtain ⟨b', hb, rfl, e2⟩ := in_b hcn c_18; rw [show o_show y (nI q) (nI b') = (nI 1, setH y q (2, b', 0, fun _ => 0)) from (by unfold o_show; rw [if_neg (fun z => z c_5), if_neg c_10, if_neg (fun z => z c_18), e1, e2])]; exact ⟨rfl, RM.sh h ho hq (Or.inr ⟨rfl, rfl⟩)⟩)
        · refine g_iconst dX7_show_37 kI_0 ?_
          refine g_goto (tgt := 42) dX7_show_38 (by decide) ?_
          refine g_iast dX7_show_42 rfl rfl (by omega) ?_
          refine g_aload_n dX7_show_43 rfl rfl ?_
          refine g_getR dX7_show_44 fl_X7_53 rfl rfl ?_
          refine g_iload_n dX7_show_47 rfl rfl ?_
          refine g_iload_n dX7_show_48 rfl rfl ?_
          refine g_iast dX7_show_49 rfl rfl (by omega) ?_
          refine g_iload_n dX7_show_50 rfl rfl ?_
          refine g_iconst dX7_show_51 kI_m1 ?_
          refine g_icmp_ne (tgt := 59) dX7_show_52 (by decide) (fun c_52 => ?_) (fun c_52 => ?_)
          · refine g_iconst dX7_show_59 kI_1 ?_
            refine g_iret dX7_show_60 ⟨_, rfl, ?_⟩
            first | exact absurd c_10 c_34 | exact absurd c_34 c_10 | exact absurd c_34 c_52 | exact absurd c_52 c_34 | (rw [show o_show y (nI q) b = (nI 0, setH y q (0, 0, 0, fun _ => 0)) from (by unfold o_show; rw [if_neg (fun z => z c_5), if_pos c_10, e1])]; exact ⟨rfl, RM.sh h ho hq (Or.inl rfl)⟩) | (obtain ⟨b', hb, rfl, e2⟩ := in_b hcn c_18; rw [show o_show y (nI q) (nI b') = (nI 1, setH y q (2, b', 0, fun _ => 0)) from (by unfold o_show; rw [if_neg (fun z => z c_5), if_neg c_10, if_neg (fun z => z c_18), e1, e2])]; exact ⟨rfl, RM.sh h ho hq (Or.inr ⟨rfl, rfl⟩)⟩)
          · refine g_iconst dX7_show_55 kI_0 ?_
            refine g_goto (tgt := 60) dX7_show_56 (by decide) ?_
            refine g_iret dX7_show_60 ⟨_, rfl, ?_⟩
            first | exact absurd c_10 c_34 | exact absurd c_34 c_10 | exact absurd c_34 c_52 | exact absurd c_52 c_34 | (rw [show o_show y (nI q) b = (nI 0, setH y q (0, 0, 0, fun _ => 0)) from (by unfold o_show; rw [if_neg (fun z => z c_5), if_pos c_10, e1])]; exact ⟨rfl, RM.sh h ho hq (Or.inl rfl)⟩) | (obtain ⟨b', hb, rfl, e2⟩ := in_b hcn c_18; rw [show o_show y (nI q) (nI b') = (nI 1, setH y q (2, b', 0, fun _ => 0)) from (by unfold o_show; rw [if_neg (fun z => z c_5), if_neg c_10, if_neg (fun z => z c_18), e1, e2])]; exact ⟨rfl, RM.sh h ho hq (Or.inr ⟨rfl, rfl⟩)⟩)
      · refine g_aload_n dX7_show_21 rfl rfl ?_
        refine g_iconst dX7_show_22 kI_m1 ?_
        refine g_callVi dX7_show_23 mi_X7_no ml_X7_100 (ct_no (w := 1) h (by decide) (by decide)) rfl rfl rfl rfl (Nat.le_of_ble_eq_true rfl) ⟨lt_r rfl, Nat.le_of_ble_eq_true rfl⟩ (fun x23 M23 h23 => ?_)
        refine g_iret dX7_show_26 ⟨_, rfl, ?_⟩
        first | exact QM.rf (if_pos c_5) h23 | exact QM.rf (by unfold o_show; rw [if_neg (fun z => z c_5), if_neg c_10, if_pos c_18]) h23
theorem mx_holds {y : Sys} {s : Int32} (h : RM B M y) (ho : okY y) : Ct E B yX7_holds cX7_holds 2 (some .int) 1 [.ref (B + 80), .int s] M (QM B M (o_holds y s)) := by
  refine Ct.of2 (own := RX7) (lv := [(0, .ref (B + 80)), (1, .int s)]) pn_X7 rfl (Nat.le_of_ble_eq_true rfl) rfl ?_
  refine g_aload_n dX7_holds_0 rfl rfl ?_
  refine g_iload_n dX7_holds_1 rfl rfl ?_
  refine g_callVp dX7_holds_2 mi_X7_isShelf ml_X7_97 (ct_X7_isShelf) rfl rfl rfl rfl (Nat.le_of_ble_eq_true rfl) ⟨lt_r rfl, Nat.le_of_ble_eq_true rfl⟩ ?_
  refine g_if_eqP (tgt := 17) dX7_holds_5 (by decide) (fun c_5 => ?_) (fun c_5 => ?_)
  · refine g_iconst dX7_holds_17 kI_m1 ?_
    refine g_iret dX7_holds_18 ⟨_, rfl, ?_⟩
    refine QM.p h ?_
    unfold o_holds
    first | rw [if_neg c_5] | (rw [if_pos c_5, e1]; unfold tellI; rw [if_neg (by omega), if_neg (by omega)])
  · obtain ⟨q, hq, rfl, e1⟩ := in_sh c_5
    have h2 := (ho.1 q hq).1
    refine g_aload_n dX7_holds_8 rfl rfl ?_
    refine g_getR dX7_holds_9 fl_X7_44 rfl rfl ?_
    refine g_iload_n dX7_holds_12 rfl rfl ?_
    refine g_iald dX7_holds_13 rfl rfl (by omega) ((h.1 q hq).1) ?_
    refine g_if_neN (tgt := 19) dX7_holds_14 (by decide) rfl (by omega) (fun c_14 => ?_) (fun c_14 => ?_)
    · refine g_aload_n dX7_holds_19 rfl rfl ?_
      refine g_getR dX7_holds_20 fl_X7_44 rfl rfl ?_
      refine g_iload_n dX7_holds_23 rfl rfl ?_
      refine g_iald dX7_holds_24 rfl rfl (by omega) ((h.1 q hq).1) ?_
      refine g_iconst dX7_holds_25 kI_1 ?_
      refine g_icmp_neN (tgt := 41) dX7_holds_26 (by decide) rfl rfl (by omega) (by omega) (fun c_26 => ?_) (fun c_26 => ?_)
      · refine g_aload_n dX7_holds_41 rfl rfl ?_
        refine g_getR dX7_holds_42 fl_X7_53 rfl rfl ?_
        refine g_iload_n dX7_holds_45 rfl rfl ?_
        refine g_iald dX7_holds_46 rfl rfl (by omega) ((h.1 q hq).2.2 (by omega)) ?_
        refine g_iret dX7_holds_47 ⟨_, rfl, ?_⟩
        refine QM.p h ?_
        unfold o_holds
        rw [if_pos c_5, e1]
        unfold tellI
        first | rw [if_pos (by omega)] | rw [if_neg (by omega), if_pos (by omega)]
      · refine g_bipush dX7_holds_29 kB_100 ?_
        refine g_aload_n dX7_holds_31 rfl rfl ?_
        refine g_getR dX7_holds_32 fl_X7_47 rfl rfl ?_
        refine g_iload_n dX7_holds_35 rfl rfl ?_
        refine g_iald dX7_holds_36 rfl rfl (by omega) (((h.1 q hq).2.1 c_26).1) ?_
        refine g_iadd dX7_holds_37 (nI_add _ _) ?_
        refine g_goto (tgt := 47) dX7_holds_38 (by decide) ?_
        refine g_iret dX7_holds_47 ⟨_, rfl, ?_⟩
        refine QM.p h ?_
        unfold o_holds
        rw [if_pos c_5, e1]
        unfold tellI
        first | rw [if_pos (by omega)] | rw [if_neg (by omega), if_pos (by omega)]
    · refine g_iconst dX7_holds_17 kI_m1 ?_
      refine g_iret dX7_holds_18 ⟨_, rfl, ?_⟩
      refine QM.p h ?_
      unfold o_holds
      first | rw [if_neg c_5] | (rw [if_pos c_5, e1]; unfold tellI; rw [if_neg (by omega), if_neg (by omega)])
theorem ct_X7_soakOf {s : St} {q n c h : Nat} (hR : RN B M s) (ho : okSt s) (hq : q < sCn s) (hn : n ≤ 12) (hc : c < 2 ^ 31) (hh : h < 2 ^ 31) : Ct E B yX7_soakOf cX7_soakOf 7 (some .int) 0 [.ref (B + 80), .int (nI q), .int (nI c), .int (nI n), .int (nI h)] M (Rp (nI (soakN (sBs s q).1 (sBs s q).2.1 n c h)) M) := by
  have hcn := ho.2.2.1
  obtain ⟨o1, o2, o3, o4⟩ := ho.1 q hq
  refine Ct.of2 (own := RX7) (lv := [(0, .ref (B + 80)), (1, .int (nI q)), (2, .int (nI c)), (3, .int (nI n)), (4, .int (nI h))]) pn_X7 rfl (Nat.le_of_ble_eq_true rfl) rfl ?_
  refine g_iconst dX7_soakOf_0 kI_1 ?_
  refine g_aload_n dX7_soakOf_1 rfl rfl ?_
  refine g_getR dX7_soakOf_2 fl_X7_32 rfl rfl ?_
  refine g_iload_n dX7_soakOf_5 rfl rfl ?_
  refine g_iald dX7_soakOf_6 rfl rfl (by omega) ((hR.1 q hq).2.1) ?_
  refine g_iadd dX7_soakOf_7 (nI_add _ _) ?_
  refine g_iload dX7_soakOf_8 rfl ?_
  refine g_bipush dX7_soakOf_10 kB_10 ?_
  refine g_idiv dX7_soakOf_12 (nI_ne0 (by omega) (by omega)) (pk_div (by omega) (by omega) (by omega)) ?_
  refine g_iadd dX7_soakOf_13 (nI_add _ _) ?_
  refine g_istore dX7_soakOf_14 (lt_r rfl) rfl ?_
  refine g_aload_n dX7_soakOf_16 rfl rfl ?_
  refine g_getR dX7_soakOf_17 fl_X7_29 rfl rfl ?_
  refine g_iload_n dX7_soakOf_20 rfl rfl ?_
  refine g_iald dX7_soakOf_21 rfl rfl (by omega) ((hR.1 q hq).1) ?_
  refine g_istore dX7_soakOf_22 (lt_r rfl) rfl ?_
  refine g_iload dX7_soakOf_24 rfl ?_
  refine g_iconst dX7_soakOf_26 kI_1 ?_
  refine g_icmp_eqN (tgt := 36) dX7_soakOf_27 (by decide) rfl rfl (by omega) (by omega) (fun c_27 => ?_) (fun c_27 => ?_)
  · refine g_iload dX7_soakOf_36 rfl ?_
    refine g_iconst dX7_soakOf_38 kI_2 ?_
    refine g_idiv dX7_soakOf_39 (nI_ne0 (by omega) (by omega)) (pk_div (by omega) (by omega) (by omega)) ?_
    refine g_iret dX7_soakOf_40 ⟨_, rfl, ?_⟩
    refine ⟨congrArg nI ?_, rfl⟩
    unfold soakN
    repeat' split
    all_goals omega
  · refine g_iload dX7_soakOf_30 rfl ?_
    refine g_iconst dX7_soakOf_32 kI_3 ?_
    refine g_icmp_neN (tgt := 41) dX7_soakOf_33 (by decide) rfl rfl (by omega) (by omega) (fun c_33 => ?_) (fun c_33 => ?_)
    · refine g_iload dX7_soakOf_41 rfl ?_
      refine g_iconst dX7_soakOf_43 kI_4 ?_
      refine g_icmp_eqN (tgt := 73) dX7_soakOf_44 (by decide) rfl rfl (by omega) (by omega) (fun c_44 => ?_) (fun c_44 => ?_)
      · refine g_iconst dX7_soakOf_73 kI_2 ?_
        refine g_iload dX7_soakOf_74 rfl ?_
        refine g_imul dX7_soakOf_76 (pk_mul _ _) ?_
        refine g_iret dX7_soakOf_77 ⟨_, rfl, ?_⟩
        refine ⟨congrArg nI ?_, rfl⟩
        unfold soakN
        repeat' split
        all_goals omega
      · refine g_iload dX7_soakOf_47 rfl ?_
        refine g_bipush dX7_soakOf_49 kB_6 ?_
        refine g_icmp_eqN (tgt := 73) dX7_soakOf_51 (by decide) rfl rfl (by omega) (by omega) (fun c_51 => ?_) (fun c_51 => ?_)
        · refine g_iconst dX7_soakOf_73 kI_2 ?_
          refine g_iload dX7_soakOf_74 rfl ?_
          refine g_imul dX7_soakOf_76 (pk_mul _ _) ?_
          refine g_iret dX7_soakOf_77 ⟨_, rfl, ?_⟩
          refine ⟨congrArg nI ?_, rfl⟩
          unfold soakN
          repeat' split
          all_goals omega
        · refine g_iload dX7_soakOf_54 rfl ?_
          refine g_iconst dX7_soakOf_56 kI_2 ?_
          refine g_icmp_eqN (tgt := 66) dX7_soakOf_57 (by decide) rfl rfl (by omega) (by omega) (fun c_57 => ?_) (fun c_57 => ?_)
          · refine g_iload_n dX7_soakOf_66 rfl rfl ?_
            refine g_iload_n dX7_soakOf_67 rfl rfl ?_
            refine g_iconst dX7_soakOf_68 kI_2 ?_
            refine g_idiv dX7_soakOf_69 (nI_ne0 (by omega) (by omega)) (pk_div (by omega) (by omega) (by omega)) ?_
            refine g_icmp_neN (tgt := 78) dX7_soakOf_70 (by decide) rfl rfl (by omega) (by omega) (fun c_70 => ?_) (fun c_70 => ?_)
            · refine g_iload dX7_soakOf_78 rfl ?_
              refine g_iret dX7_soakOf_80 ⟨_, rfl, ?_⟩
              refine ⟨congrArg nI ?_, rfl⟩
              unfold soakN
              repeat' split
              all_goals omega
            · refine g_iconst dX7_soakOf_73 kI_2 ?_
              refine g_iload dX7_soakOf_74 rfl ?_
              refine g_imul dX7_soakOf_76 (pk_mul _ _) ?_
              refine g_iret dX7_soakOf_77 ⟨_, rfl, ?_⟩
              refine ⟨congrArg nI ?_, rfl⟩
              unfold soakN
              repeat' split
              all_goals omega
          · refine g_iload dX7_soakOf_60 rfl ?_
            refine g_iconst dX7_soakOf_62 kI_5 ?_
            refine g_icmp_neN (tgt := 78) dX7_soakOf_63 (by decide) rfl rfl (by omega) (by omega) (fun c_63 => ?_) (fun c_63 => ?_)
            · refine g_iload dX7_soakOf_78 rfl ?_
              refine g_iret dX7_soakOf_80 ⟨_, rfl, ?_⟩
              refine ⟨congrArg nI ?_, rfl⟩
              unfold soakN
              repeat' split
              all_goals omega
            · refine g_iload_n dX7_soakOf_66 rfl rfl ?_
              refine g_iload_n dX7_soakOf_67 rfl rfl ?_
              refine g_iconst dX7_soakOf_68 kI_2 ?_
              refine g_idiv dX7_soakOf_69 (nI_ne0 (by omega) (by omega)) (pk_div (by omega) (by omega) (by omega)) ?_
              refine g_icmp_neN (tgt := 78) dX7_soakOf_70 (by decide) rfl rfl (by omega) (by omega) (fun c_70 => ?_) (fun c_70 => ?_)
              · refine g_iload dX7_soakOf_78 rfl ?_
                refine g_iret dX7_soakOf_80 ⟨_, rfl, ?_⟩
                refine ⟨congrArg nI ?_, rfl⟩
                unfold soakN
                repeat' split
                all_goals omega
              · refine g_iconst dX7_soakOf_73 kI_2 ?_
                refine g_iload dX7_soakOf_74 rfl ?_
                refine g_imul dX7_soakOf_76 (pk_mul _ _) ?_
                refine g_iret dX7_soakOf_77 ⟨_, rfl, ?_⟩
                refine ⟨congrArg nI ?_, rfl⟩
                unfold soakN
                repeat' split
                all_goals omega
    · refine g_iload dX7_soakOf_36 rfl ?_
      refine g_iconst dX7_soakOf_38 kI_2 ?_
      refine g_idiv dX7_soakOf_39 (nI_ne0 (by omega) (by omega)) (pk_div (by omega) (by omega) (by omega)) ?_
      refine g_iret dX7_soakOf_40 ⟨_, rfl, ?_⟩
      refine ⟨congrArg nI ?_, rfl⟩
      unfold soakN
      repeat' split
      all_goals omega
end X7B
