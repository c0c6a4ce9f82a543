/-! the model's second -/
theorem secW_tea {kd a n dp h i m : Nat} {w : Nat → Nat} (h1 : i < dp) (hm : m = if 99 < w i + soakN kd a n i h then 99 - w i else soakN kd a n i h) (hw : w i ≤ 99) : w i + m = secW kd a n dp h w i ∧ tookF kd a n dp h w i = m := by
  have e : secW kd a n dp h w i = min 99 (w i + soakN kd a n i h) := if_pos h1
  have e2 : tookF kd a n dp h w i = secW kd a n dp h w i - w i := if_pos h1
  rw [e2, e, hm]
  split <;> omega
theorem secW_out {kd a n dp h i m : Nat} {w : Nat → Nat} (h1 : ¬ i < dp) (h2 : i < n) (hm : m = creepN kd w i) : w i + m = secW kd a n dp h w i ∧ tookF kd a n dp h w i = 0 := by
  have e : secW kd a n dp h w i = w i + creepN kd w i := (if_neg h1).trans (if_pos h2)
  have e2 : tookF kd a n dp h w i = 0 := if_neg h1
  rw [e2, e, hm]
  exact ⟨rfl, rfl⟩
section X7D
variable {E : EE} {B : Nat} {M : MM}
theorem tl_goes1 {s : St} {q h n dp i : Nat} {w : Nat → Nat} {t0 : Int32} {T : Nat} {F : Option Value → MM → Prop} (hR : RN B M s) (ho : okSt s) (hq : q < sCn s) (hh : h < 2 ^ 31) (hn : n ≤ 12) (h32 : M.1 (B + 80) 32 = nI n) (h33 : M.1 (B + 80) 33 = nI dp) (h34 : M.1 (B + 80) 34 = t0 + nI T) (hdp : dp ≤ n) (hw : ∀ j, j < n → M.1 (B + 97) j = nI (w j)) (hw2 : ∀ j, w j ≤ 99) (hi : i < n)
    (hend : ∀ M', Fk B M M' [98] [34] → M'.1 (B + 98) i = nI (secW (sBs s q).1 (sBs s q).2.1 n dp h w i) → (∀ j, j ≠ i → M'.1 (B + 98) j = M.1 (B + 98) j) → M'.1 (B + 80) 34 = t0 + nI (T + tookF (sBs s q).1 (sBs s q).2.1 n dp h w i) → G E B cX7_goesBy (RX7, 5, none, rmD 2, 0, 0, KM E B F) 2 [(0, .ref (B + 80)), (1, .int (nI q)), (2, .int (nI h)), (3, .int (nI (i + 1)))] [] M') :
    G E B cX7_goesBy (RX7, 5, none, rmD 2, 0, 0, KM E B F) 10 [(0, .ref (B + 80)), (1, .int (nI q)), (2, .int (nI h)), (3, .int (nI i))] [] M := by
  have hcn := ho.2.2.1
  obtain ⟨o1, o2, o3, o4⟩ := ho.1 q hq
  have w1 := hw2 i
  have w2 := hw2 (i - 1)
  have hsk := soakN_le (kd := (sBs s q).1) (a := (sBs s q).2.1) (n := n) (c := i) (h := h) o2 hh
  have fin : ∀ m, i < dp → (m = if 99 < w i + soakN (sBs s q).1 (sBs s q).2.1 n i h then 99 - w i else soakN (sBs s q).1 (sBs s q).2.1 n i h) → G E B cX7_goesBy (RX7, 5, none, rmD 2, 0, 0, KM E B F) 2 [(0, .ref (B + 80)), (1, .int (nI q)), (2, .int (nI h)), (3, .int (nI (i + 1)))] [] (upI (upI M (B + 80) 34 (t0 + nI T + nI m)) (B + 98) i (nI (w i + m))) := by
    intro m g1 g2
    obtain ⟨a1, a2⟩ := secW_tea (kd := (sBs s q).1) (a := (sBs s q).2.1) (n := n) (h := h) g1 g2 w1
    refine hend _ (Fk.tr (Fk.pj (by decide)) (Fk.pi (by decide) (by decide))) (by rw [upI_s, a1]) (fun j hj => by rw [upI_k hj, upI_ap (by decide)]) ?_
    rw [upI_ap (by decide), upI_s, a2, Int32.add_assoc, nI_add]
  have fin2 : ∀ m, ¬ i < dp → m = creepN (sBs s q).1 w i → G E B cX7_goesBy (RX7, 5, none, rmD 2, 0, 0, KM E B F) 2 [(0, .ref (B + 80)), (1, .int (nI q)), (2, .int (nI h)), (3, .int (nI (i + 1)))] [] (upI M (B + 98) i (nI (w i + m))) := by
    intro m g1 g2
    obtain ⟨a1, a2⟩ := secW_out (a := (sBs s q).2.1) (h := h) g1 hi g2
    refine hend _ (Fk.pi (by decide) (by decide)) (by rw [upI_s, a1]) (fun j hj => by rw [upI_k hj]) ?_
    rw [upI_ap (by decide), h34, a2]
    rfl
  by_cases hc : i < dp
  · refine g_iload_n dX7_goesBy_10 rfl rfl ?_
    refine g_aload_n dX7_goesBy_11 rfl rfl ?_
    refine g_getI dX7_goesBy_12 fl_X7_196 rfl rfl (h33) ?_
    refine g_icmp_geN (tgt := 75) dX7_goesBy_15 (by decide) rfl rfl (by omega) (by omega) (fun c_15 => absurd c_15 (by omega)) (fun c_15 => ?_)
    refine g_aload_n dX7_goesBy_18 rfl rfl ?_
    refine g_iload_n dX7_goesBy_19 rfl rfl ?_
    refine g_iload_n dX7_goesBy_20 rfl rfl ?_
    refine g_aload_n dX7_goesBy_21 rfl rfl ?_
    refine g_getI dX7_goesBy_22 fl_X7_177 rfl rfl (h32) ?_
    refine g_iload_n dX7_goesBy_25 rfl rfl ?_
    refine g_callVp dX7_goesBy_26 mi_X7_soakOf ml_X7_104 (ct_X7_soakOf hR ho hq hn (by omega) hh) rfl rfl rfl rfl (Nat.le_of_ble_eq_true rfl) ⟨lt_r rfl, Nat.le_of_ble_eq_true rfl⟩ ?_
    refine g_istore dX7_goesBy_29 (lt_r rfl) rfl ?_
    refine g_aload_n dX7_goesBy_31 rfl rfl ?_
    refine g_getR dX7_goesBy_32 fl_X7_75 rfl rfl ?_
    refine g_iload_n dX7_goesBy_35 rfl rfl ?_
    refine g_iald dX7_goesBy_36 rfl rfl (by omega) (hw i hi) ?_
    refine g_iload dX7_goesBy_37 rfl ?_
    refine g_iadd dX7_goesBy_39 (nI_add _ _) ?_
    refine g_bipush dX7_goesBy_40 kB_99 ?_
    refine g_icmp_leN (tgt := 57) dX7_goesBy_42 (by decide) rfl rfl (by omega) (by omega) (fun c_42 => ?_) (fun c_42 => ?_)
    · refine g_iload dX7_goesBy_57 rfl ?_
      refine g_istore dX7_goesBy_59 (lt_r rfl) rfl ?_
      refine g_aload_n dX7_goesBy_61 rfl rfl ?_
      refine g_dup dX7_goesBy_62 rfl ?_
      refine g_getI dX7_goesBy_63 fl_X7_180 rfl rfl (h34) ?_
      refine g_iload dX7_goesBy_66 rfl ?_
      refine g_iadd dX7_goesBy_68 rfl ?_
      refine g_putI dX7_goesBy_69 fp_X7_180 rfl rfl ?_
      refine g_goto (tgt := 170) dX7_goesBy_72 (by decide) ?_
      refine g_aload_n dX7_goesBy_170 rfl rfl ?_
      refine g_getR dX7_goesBy_171 fl_X7_78 rfl rfl ?_
      refine g_iload_n dX7_goesBy_174 rfl rfl ?_
      refine g_aload_n dX7_goesBy_175 rfl rfl ?_
      refine g_getR dX7_goesBy_176 fl_X7_75 rfl rfl ?_
      refine g_iload_n dX7_goesBy_179 rfl rfl ?_
      refine g_iald dX7_goesBy_180 rfl rfl (by omega) ((by rw [upI_ap (by decide)]; exact hw i hi : _ = nI (w i))) ?_
      refine g_iload dX7_goesBy_181 rfl ?_
      refine g_iadd dX7_goesBy_183 (nI_add _ _) ?_
      refine g_iast dX7_goesBy_184 rfl rfl (by omega) ?_
      refine g_iinc dX7_goesBy_185 rfl (inc_nI _) rfl ?_
      refine g_goto (tgt := 2) dX7_goesBy_188 (by decide) ?_
      exact g_le (lvLe_c rfl (lvLe_c rfl (lvLe_c rfl (lvLe_c rfl lvLe_0)))) (fin _ hc (by first | rw [if_pos (by omega)] | rw [if_neg (by omega)]))
    · refine g_bipush dX7_goesBy_45 kB_99 ?_
      refine g_aload_n dX7_goesBy_47 rfl rfl ?_
      refine g_getR dX7_goesBy_48 fl_X7_75 rfl rfl ?_
      refine g_iload_n dX7_goesBy_51 rfl rfl ?_
      refine g_iald dX7_goesBy_52 rfl rfl (by omega) (hw i hi) ?_
      first | refine g_isub dX7_goesBy_53 (pk_sub (by omega)) ?_ | refine g_isub dX7_goesBy_53 rfl ?_
      refine g_goto (tgt := 59) dX7_goesBy_54 (by decide) ?_
      refine g_istore dX7_goesBy_59 (lt_r rfl) rfl ?_
      refine g_aload_n dX7_goesBy_61 rfl rfl ?_
      refine g_dup dX7_goesBy_62 rfl ?_
      refine g_getI dX7_goesBy_63 fl_X7_180 rfl rfl (h34) ?_
      refine g_iload dX7_goesBy_66 rfl ?_
      refine g_iadd dX7_goesBy_68 rfl ?_
      refine g_putI dX7_goesBy_69 fp_X7_180 rfl rfl ?_
      refine g_goto (tgt := 170) dX7_goesBy_72 (by decide) ?_
      refine g_aload_n dX7_goesBy_170 rfl rfl ?_
      refine g_getR dX7_goesBy_171 fl_X7_78 rfl rfl ?_
      refine g_iload_n dX7_goesBy_174 rfl rfl ?_
      refine g_aload_n dX7_goesBy_175 rfl rfl ?_
      refine g_getR dX7_goesBy_176 fl_X7_75 rfl rfl ?_
      refine g_iload_n dX7_goesBy_179 rfl rfl ?_
      refine g_iald dX7_goesBy_180 rfl rfl (by omega) ((by rw [upI_ap (by decide)]; exact hw i hi : _ = nI (w i))) ?_
      refine g_iload dX7_goesBy_181 rfl ?_
      refine g_iadd dX7_goesBy_183 (nI_add _ _) ?_
      refine g_iast dX7_goesBy_184 rfl rfl (by omega) ?_
      refine g_iinc dX7_goesBy_185 rfl (inc_nI _) rfl ?_
      refine g_goto (tgt := 2) dX7_goesBy_188 (by decide) ?_
      exact g_le (lvLe_c rfl (lvLe_c rfl (lvLe_c rfl (lvLe_c rfl lvLe_0)))) (fin _ hc (by first | rw [if_pos (by omega)] | rw [if_neg (by omega)]))
  · refine g_iload_n dX7_goesBy_10 rfl rfl ?_
    refine g_aload_n dX7_goesBy_11 rfl rfl ?_
    refine g_getI dX7_goesBy_12 fl_X7_196 rfl rfl (h33) ?_
    refine g_icmp_geN (tgt := 75) dX7_goesBy_15 (by decide) rfl rfl (by omega) (by omega) (fun c_15 => ?_) (fun c_15 => absurd c_15 (by omega))
    refine g_iload_n dX7_goesBy_75 rfl rfl ?_
    refine g_if_eqN (tgt := 96) dX7_goesBy_76 (by decide) rfl (by omega) (fun c_76 => ?_) (fun c_76 => ?_)
    · refine g_iconst dX7_goesBy_96 kI_0 ?_
      refine g_goto (tgt := 115) dX7_goesBy_97 (by decide) ?_
      refine g_istore dX7_goesBy_115 (lt_r rfl) rfl ?_
      refine g_aload_n dX7_goesBy_117 rfl rfl ?_
      refine g_getR dX7_goesBy_118 fl_X7_29 rfl rfl ?_
      refine g_iload_n dX7_goesBy_121 rfl rfl ?_
      refine g_iald dX7_goesBy_122 rfl rfl (by omega) ((hR.1 q hq).1) ?_
      refine g_iconst dX7_goesBy_123 kI_3 ?_
      refine g_icmp_neN (tgt := 134) dX7_goesBy_124 (by decide) rfl rfl (by omega) (by omega) (fun c_124 => ?_) (fun c_124 => ?_)
      · refine g_iload dX7_goesBy_134 rfl ?_
        refine g_iconst dX7_goesBy_136 kI_4 ?_
        refine g_idiv dX7_goesBy_137 (nI_ne0 (by omega) (by omega)) (pk_div (by omega) (by omega) (by omega)) ?_
        refine g_istore dX7_goesBy_138 (lt_r rfl) rfl ?_
        refine g_aload_n dX7_goesBy_140 rfl rfl ?_
        refine g_getR dX7_goesBy_141 fl_X7_75 rfl rfl ?_
        refine g_iload_n dX7_goesBy_144 rfl rfl ?_
        refine g_iald dX7_goesBy_145 rfl rfl (by omega) (hw i hi) ?_
        refine g_iload dX7_goesBy_146 rfl ?_
        refine g_iadd dX7_goesBy_148 (nI_add _ _) ?_
        refine g_bipush dX7_goesBy_149 kB_99 ?_
        refine g_icmp_leN (tgt := 166) dX7_goesBy_151 (by decide) rfl rfl (by omega) (by omega) (fun c_151 => ?_) (fun c_151 => absurd c_151 (by omega))
        refine g_iload dX7_goesBy_166 rfl ?_
        refine g_istore dX7_goesBy_168 (lt_r rfl) rfl ?_
        refine g_aload_n dX7_goesBy_170 rfl rfl ?_
        refine g_getR dX7_goesBy_171 fl_X7_78 rfl rfl ?_
        refine g_iload_n dX7_goesBy_174 rfl rfl ?_
        refine g_aload_n dX7_goesBy_175 rfl rfl ?_
        refine g_getR dX7_goesBy_176 fl_X7_75 rfl rfl ?_
        refine g_iload_n dX7_goesBy_179 rfl rfl ?_
        refine g_iald dX7_goesBy_180 rfl rfl (by omega) (hw i hi) ?_
        refine g_iload dX7_goesBy_181 rfl ?_
        refine g_iadd dX7_goesBy_183 (nI_add _ _) ?_
        refine g_iast dX7_goesBy_184 rfl rfl (by omega) ?_
        refine g_iinc dX7_goesBy_185 rfl (inc_nI _) rfl ?_
        refine g_goto (tgt := 2) dX7_goesBy_188 (by decide) ?_
        exact g_le (lvLe_c rfl (lvLe_c rfl (lvLe_c rfl (lvLe_c rfl lvLe_0)))) (fin2 _ hc (by unfold creepN; repeat' split; all_goals omega))
      · refine g_iload dX7_goesBy_127 rfl ?_
        refine g_iconst dX7_goesBy_129 kI_2 ?_
        refine g_idiv dX7_goesBy_130 (nI_ne0 (by omega) (by omega)) (pk_div (by omega) (by omega) (by omega)) ?_
        refine g_goto (tgt := 138) dX7_goesBy_131 (by decide) ?_
        refine g_istore dX7_goesBy_138 (lt_r rfl) rfl ?_
        refine g_aload_n dX7_goesBy_140 rfl rfl ?_
        refine g_getR dX7_goesBy_141 fl_X7_75 rfl rfl ?_
        refine g_iload_n dX7_goesBy_144 rfl rfl ?_
        refine g_iald dX7_goesBy_145 rfl rfl (by omega) (hw i hi) ?_
        refine g_iload dX7_goesBy_146 rfl ?_
        refine g_iadd dX7_goesBy_148 (nI_add _ _) ?_
        refine g_bipush dX7_goesBy_149 kB_99 ?_
        refine g_icmp_leN (tgt := 166) dX7_goesBy_151 (by decide) rfl rfl (by omega) (by omega) (fun c_151 => ?_) (fun c_151 => absurd c_151 (by omega))
        refine g_iload dX7_goesBy_166 rfl ?_
        refine g_istore dX7_goesBy_168 (lt_r rfl) rfl ?_
        refine g_aload_n dX7_goesBy_170 rfl rfl ?_
        refine g_getR dX7_goesBy_171 fl_X7_78 rfl rfl ?_
        refine g_iload_n dX7_goesBy_174 rfl rfl ?_
        refine g_aload_n dX7_goesBy_175 rfl rfl ?_
        refine g_getR dX7_goesBy_176 fl_X7_75 rfl rfl ?_
        refine g_iload_n dX7_goesBy_179 rfl rfl ?_
        refine g_iald dX7_goesBy_180 rfl rfl (by omega) (hw i hi) ?_
        refine g_iload dX7_goesBy_181 rfl ?_
        refine g_iadd dX7_goesBy_183 (nI_add _ _) ?_
        refine g_iast dX7_goesBy_184 rfl rfl (by omega) ?_
        refine g_iinc dX7_goesBy_185 rfl (inc_nI _) rfl ?_
        refine g_goto (tgt := 2) dX7_goesBy_188 (by decide) ?_
        exact g_le (lvLe_c rfl (lvLe_c rfl (lvLe_c rfl (lvLe_c rfl lvLe_0)))) (fin2 _ hc (by unfold creepN; repeat' split; all_goals omega))
    · refine g_aload_n dX7_goesBy_79 rfl rfl ?_
      refine g_getR dX7_goesBy_80 fl_X7_75 rfl rfl ?_
      refine g_iload_n dX7_goesBy_83 rfl rfl ?_
      refine g_iconst dX7_goesBy_84 kI_1 ?_
      first | refine g_isub dX7_goesBy_85 (pk_sub (by omega)) ?_ | refine g_isub dX7_goesBy_85 rfl ?_
      refine g_iald dX7_goesBy_86 rfl rfl (by omega) (hw (i - 1) (by omega)) ?_
      refine g_aload_n dX7_goesBy_87 rfl rfl ?_
      refine g_getR dX7_goesBy_88 fl_X7_75 rfl rfl ?_
      refine g_iload_n dX7_goesBy_91 rfl rfl ?_
      refine g_iald dX7_goesBy_92 rfl rfl (by omega) (hw i hi) ?_
      refine g_icmp_gtN (tgt := 100) dX7_goesBy_93 (by decide) rfl rfl (by omega) (by omega) (fun c_93 => ?_) (fun c_93 => ?_)
      · refine g_aload_n dX7_goesBy_100 rfl rfl ?_
        refine g_getR dX7_goesBy_101 fl_X7_75 rfl rfl ?_
        refine g_iload_n dX7_goesBy_104 rfl rfl ?_
        refine g_iconst dX7_goesBy_105 kI_1 ?_
        first | refine g_isub dX7_goesBy_106 (pk_sub (by omega)) ?_ | refine g_isub dX7_goesBy_106 rfl ?_
        refine g_iald dX7_goesBy_107 rfl rfl (by omega) (hw (i - 1) (by omega)) ?_
        refine g_aload_n dX7_goesBy_108 rfl rfl ?_
        refine g_getR dX7_goesBy_109 fl_X7_75 rfl rfl ?_
        refine g_iload_n dX7_goesBy_112 rfl rfl ?_
        refine g_iald dX7_goesBy_113 rfl rfl (by omega) (hw i hi) ?_
        first | refine g_isub dX7_goesBy_114 (pk_sub (by omega)) ?_ | refine g_isub dX7_goesBy_114 rfl ?_
        refine g_istore dX7_goesBy_115 (lt_r rfl) rfl ?_
        refine g_aload_n dX7_goesBy_117 rfl rfl ?_
        refine g_getR dX7_goesBy_118 fl_X7_29 rfl rfl ?_
        refine g_iload_n dX7_goesBy_121 rfl rfl ?_
        refine g_iald dX7_goesBy_122 rfl rfl (by omega) ((hR.1 q hq).1) ?_
        refine g_iconst dX7_goesBy_123 kI_3 ?_
        refine g_icmp_neN (tgt := 134) dX7_goesBy_124 (by decide) rfl rfl (by omega) (by omega) (fun c_124 => ?_) (fun c_124 => ?_)
        · refine g_iload dX7_goesBy_134 rfl ?_
          refine g_iconst dX7_goesBy_136 kI_4 ?_
          refine g_idiv dX7_goesBy_137 (nI_ne0 (by omega) (by omega)) (pk_div (by omega) (by omega) (by omega)) ?_
          refine g_istore dX7_goesBy_138 (lt_r rfl) rfl ?_
          refine g_aload_n dX7_goesBy_140 rfl rfl ?_
          refine g_getR dX7_goesBy_141 fl_X7_75 rfl rfl ?_
          refine g_iload_n dX7_goesBy_144 rfl rfl ?_
          refine g_iald dX7_goesBy_145 rfl rfl (by omega) (hw i hi) ?_
          refine g_iload dX7_goesBy_146 rfl ?_
          refine g_iadd dX7_goesBy_148 (nI_add _ _) ?_
          refine g_bipush dX7_goesBy_149 kB_99 ?_
          refine g_icmp_leN (tgt := 166) dX7_goesBy_151 (by decide) rfl rfl (by omega) (by omega) (fun c_151 => ?_) (fun c_151 => absurd c_151 (by omega))
          refine g_iload dX7_goesBy_166 rfl ?_
          refine g_istore dX7_goesBy_168 (lt_r rfl) rfl ?_
          refine g_aload_n dX7_goesBy_170 rfl rfl ?_
          refine g_getR dX7_goesBy_171 fl_X7_78 rfl rfl ?_
          refine g_iload_n dX7_goesBy_174 rfl rfl ?_
          refine g_aload_n dX7_goesBy_175 rfl rfl ?_
          refine g_getR dX7_goesBy_176 fl_X7_75 rfl rfl ?_
          refine g_iload_n dX7_goesBy_179 rfl rfl ?_
          refine g_iald dX7_goesBy_180 rfl rfl (by omega) (hw i hi) ?_
          refine g_iload dX7_goesBy_181 rfl ?_
          refine g_iadd dX7_goesBy_183 (nI_add _ _) ?_
          refine g_iast dX7_goesBy_184 rfl rfl (by omega) ?_
          refine g_iinc dX7_goesBy_185 rfl (inc_nI _) rfl ?_
          refine g_goto (tgt := 2) dX7_goesBy_188 (by decide) ?_
          exact g_le (lvLe_c rfl (lvLe_c rfl (lvLe_c rfl (lvLe_c rfl lvLe_0)))) (fin2 _ hc (by unfold creepN; repeat' split; all_goals omega))
        · refine g_iload dX7_goesBy_127 rfl ?_
          refine g_iconst dX7_goesBy_129 kI_2 ?_
          refine g_idiv dX7_goesBy_130 (nI_ne0 (by omega) (by omega)) (pk_div (by omega) (by omega) (by omega)) ?_
          refine g_goto (tgt := 138) dX7_goesBy_131 (by decide) ?_
          refine g_istore dX7_goesBy_138 (lt_r rfl) rfl ?_
          refine g_aload_n dX7_goesBy_140 rfl rfl ?_
          refine g_getR dX7_goesBy_141 fl_X7_75 rfl rfl ?_
          refine g_iload_n dX7_goesBy_144 rfl rfl ?_
          refine g_iald dX7_goesBy_145 rfl rfl (by omega) (hw i hi) ?_
          refine g_iload dX7_goesBy_146 rfl ?_
          refine g_iadd dX7_goesBy_148 (nI_add _ _) ?_
          refine g_bipush dX7_goesBy_149 kB_99 ?_
          refine g_icmp_leN (tgt := 166) dX7_goesBy_151 (by decide) rfl rfl (by omega) (by omega) (fun c_151 => ?_) (fun c_151 => absurd c_151 (by omega))
          refine g_iload dX7_goesBy_166 rfl ?_
          refine g_istore dX7_goesBy_168 (lt_r rfl) rfl ?_
          refine g_aload_n dX7_goesBy_170 rfl rfl ?_
          refine g_getR dX7_goesBy_171 fl_X7_78 rfl rfl ?_
          refine g_iload_n dX7_goesBy_174 rfl rfl ?_
          refine g_aload_n dX7_goesBy_175 rfl rfl ?_
          refine g_getR dX7_goesBy_176 fl_X7_75 rfl rfl ?_
          refine g_iload_n dX7_goesBy_179 rfl rfl ?_
          refine g_iald dX7_goesBy_180 rfl rfl (by omega) (hw i hi) ?_
          refine g_iload dX7_goesBy_181 rfl ?_
          refine g_iadd dX7_goesBy_183 (nI_add _ _) ?_
          refine g_iast dX7_goesBy_184 rfl rfl (by omega) ?_
          refine g_iinc dX7_goesBy_185 rfl (inc_nI _) rfl ?_
          refine g_goto (tgt := 2) dX7_goesBy_188 (by decide) ?_
          exact g_le (lvLe_c rfl (lvLe_c rfl (lvLe_c rfl (lvLe_c rfl lvLe_0)))) (fin2 _ hc (by unfold creepN; repeat' split; all_goals omega))
      · refine g_iconst dX7_goesBy_96 kI_0 ?_
        refine g_goto (tgt := 115) dX7_goesBy_97 (by decide) ?_
        refine g_istore dX7_goesBy_115 (lt_r rfl) rfl ?_
        refine g_aload_n dX7_goesBy_117 rfl rfl ?_
        refine g_getR dX7_goesBy_118 fl_X7_29 rfl rfl ?_
        refine g_iload_n dX7_goesBy_121 rfl rfl ?_
        refine g_iald dX7_goesBy_122 rfl rfl (by omega) ((hR.1 q hq).1) ?_
        refine g_iconst dX7_goesBy_123 kI_3 ?_
        refine g_icmp_neN (tgt := 134) dX7_goesBy_124 (by decide) rfl rfl (by omega) (by omega) (fun c_124 => ?_) (fun c_124 => ?_)
        · refine g_iload dX7_goesBy_134 rfl ?_
          refine g_iconst dX7_goesBy_136 kI_4 ?_
          refine g_idiv dX7_goesBy_137 (nI_ne0 (by omega) (by omega)) (pk_div (by omega) (by omega) (by omega)) ?_
          refine g_istore dX7_goesBy_138 (lt_r rfl) rfl ?_
          refine g_aload_n dX7_goesBy_140 rfl rfl ?_
          refine g_getR dX7_goesBy_141 fl_X7_75 rfl rfl ?_
          refine g_iload_n dX7_goesBy_144 rfl rfl ?_
          refine g_iald dX7_goesBy_145 rfl rfl (by omega) (hw i hi) ?_
          refine g_iload dX7_goesBy_146 rfl ?_
          refine g_iadd dX7_goesBy_148 (nI_add _ _) ?_
          refine g_bipush dX7_goesBy_149 kB_99 ?_
          refine g_icmp_leN (tgt := 166) dX7_goesBy_151 (by decide) rfl rfl (by omega) (by omega) (fun c_151 => ?_) (fun c_151 => absurd c_151 (by omega))
          refine g_iload dX7_goesBy_166 rfl ?_
          refine g_istore dX7_goesBy_168 (lt_r rfl) rfl ?_
          refine g_aload_n dX7_goesBy_170 rfl rfl ?_
          refine g_getR dX7_goesBy_171 fl_X7_78 rfl rfl ?_
          refine g_iload_n dX7_goesBy_174 rfl rfl ?_
          refine g_aload_n dX7_goesBy_175 rfl rfl ?_
          refine g_getR dX7_goesBy_176 fl_X7_75 rfl rfl ?_
          refine g_iload_n dX7_goesBy_179 rfl rfl ?_
          refine g_iald dX7_goesBy_180 rfl rfl (by omega) (hw i hi) ?_
          refine g_iload dX7_goesBy_181 rfl ?_
          refine g_iadd dX7_goesBy_183 (nI_add _ _) ?_
          refine g_iast dX7_goesBy_184 rfl rfl (by omega) ?_
          refine g_iinc dX7_goesBy_185 rfl (inc_nI _) rfl ?_
          refine g_goto (tgt := 2) dX7_goesBy_188 (by decide) ?_
          exact g_le (lvLe_c rfl (lvLe_c rfl (lvLe_c rfl (lvLe_c rfl lvLe_0)))) (fin2 _ hc (by unfold creepN; repeat' split; all_goals omega))
        · refine g_iload dX7_goesBy_127 rfl ?_
          refine g_iconst dX7_goesBy_129 kI_2 ?_
          refine g_idiv dX7_goesBy_130 (nI_ne0 (by omega) (by omega)) (pk_div (by omega) (by omega) (by omega)) ?_
          refine g_goto (tgt := 138) dX7_goesBy_131 (by decide) ?_
          refine g_istore dX7_goesBy_138 (lt_r rfl) rfl ?_
          refine g_aload_n dX7_goesBy_140 rfl rfl ?_
          refine g_getR dX7_goesBy_141 fl_X7_75 rfl rfl ?_
          refine g_iload_n dX7_goesBy_144 rfl rfl ?_
          refine g_iald dX7_goesBy_145 rfl rfl (by omega) (hw i hi) ?_
          refine g_iload dX7_goesBy_146 rfl ?_
          refine g_iadd dX7_goesBy_148 (nI_add _ _) ?_
          refine g_bipush dX7_goesBy_149 kB_99 ?_
          refine g_icmp_leN (tgt := 166) dX7_goesBy_151 (by decide) rfl rfl (by omega) (by omega) (fun c_151 => ?_) (fun c_151 => absurd c_151 (by omega))
          refine g_iload dX7_goesBy_166 rfl ?_
          refine g_istore dX7_goesBy_168 (lt_r rfl) rfl ?_
          refine g_aload_n dX7_goesBy_170 rfl rfl ?_
          refine g_getR dX7_goesBy_171 fl_X7_78 rfl rfl ?_
          refine g_iload_n dX7_goesBy_174 rfl rfl ?_
          refine g_aload_n dX7_goesBy_175 rfl rfl ?_
          refine g_getR dX7_goesBy_176 fl_X7_75 rfl rfl ?_
          refine g_iload_n dX7_goesBy_179 rfl rfl ?_
          refine g_iald dX7_goesBy_180 rfl rfl (by omega) (hw i hi) ?_
          refine g_iload dX7_goesBy_181 rfl ?_
          refine g_iadd dX7_goesBy_183 (nI_add _ _) ?_
          refine g_iast dX7_goesBy_184 rfl rfl (by omega) ?_
          refine g_iinc dX7_goesBy_185 rfl (inc_nI _) rfl ?_
          refine g_goto (tgt := 2) dX7_goesBy_188 (by decide) ?_
          exact g_le (lvLe_c rfl (lvLe_c rfl (lvLe_c rfl (lvLe_c rfl lvLe_0)))) (fin2 _ hc (by unfold creepN; repeat' split; all_goals omega))
theorem lp_goes1 {s : St} {q h n dp T : Nat} {w : Nat → Nat} {t0 : Int32} {F : Option Value → MM → Prop} {M1 : MM} (hR : RN B M1 s) (ho : okSt s) (hq : q < sCn s) (hh : h < 2 ^ 31) (hn : n ≤ 12) (h32 : M1.1 (B + 80) 32 = nI n) (h33 : M1.1 (B + 80) 33 = nI dp) (hdp : dp ≤ n) (hw : ∀ j, j < n → M1.1 (B + 97) j = nI (w j)) (hw2 : ∀ j, w j ≤ 99)
    (hend : ∀ M', Fk B M1 M' [98] [34] → (∀ j, j < n → M'.1 (B + 98) j = nI (secW (sBs s q).1 (sBs s q).2.1 n dp h w j)) → M'.1 (B + 80) 34 = t0 + nI (T + sumN (tookF (sBs s q).1 (sBs s q).2.1 n dp h w) n) → G E B cX7_goesBy (RX7, 5, none, rmD 2, 0, 0, KM E B F) 191 [(0, .ref (B + 80)), (1, .int (nI q))] [] M') :
    ∀ (m i : Nat), m + i = n → ∀ M', Fk B M1 M' [98] [34] → (∀ j, j < i → M'.1 (B + 98) j = nI (secW (sBs s q).1 (sBs s q).2.1 n dp h w j)) → M'.1 (B + 80) 34 = t0 + nI (T + sumN (tookF (sBs s q).1 (sBs s q).2.1 n dp h w) i) →
    G E B cX7_goesBy (RX7, 5, none, rmD 2, 0, 0, KM E B F) 2 [(0, .ref (B + 80)), (1, .int (nI q)), (2, .int (nI h)), (3, .int (nI i))] [] M' := by
  intro m
  induction m with
  | zero =>
    intro i h1 M' hF hI hT
    refine g_iload_n dX7_goesBy_2 rfl rfl ?_
    refine g_aload_n dX7_goesBy_3 rfl rfl ?_
    refine g_getI dX7_goesBy_4 fl_X7_177 rfl rfl ((hF.j (by decide)).trans h32) ?_
    refine g_icmp_geN (tgt := 191) dX7_goesBy_7 (by decide) rfl rfl (by omega) (by omega) (fun c_7 => ?_) (fun c_7 => absurd c_7 (by omega))
    exact g_le (lvLe_c rfl (lvLe_c rfl lvLe_0)) (hend M' hF (fun j hj => hI j (by omega)) (by rw [hT, show i = n by omega]))
  | succ m ih =>
    intro i h1 M' hF hI hT
    refine g_iload_n dX7_goesBy_2 rfl rfl ?_
    refine g_aload_n dX7_goesBy_3 rfl rfl ?_
    refine g_getI dX7_goesBy_4 fl_X7_177 rfl rfl ((hF.j (by decide)).trans h32) ?_
    refine g_icmp_geN (tgt := 191) dX7_goesBy_7 (by decide) rfl rfl (by omega) (by omega) (fun c_7 => absurd c_7 (by omega)) (fun c_7 => ?_)
    exact tl_goes1 (hR.fk hF (by decide) (by decide)) ho hq hh hn ((hF.j (by decide)).trans h32) ((hF.j (by decide)).trans h33) hT hdp (fun j hj => (congrFun (hF.i (by decide) (by decide)) j).trans (hw j hj)) hw2 (by omega) (fun M2 a1 a2 a3 a4 => ih (i + 1) (by omega) M2 (hF.tr a1) (fun j hj => by
      by_cases e : j = i
      · subst e; exact a2
      · exact (a3 j e).trans (hI j (by omega))) (by rw [a4, sumN_s, Nat.add_assoc]))
theorem lp_goes2 {q n : Nat} {w : Nat → Nat} {F : Option Value → MM → Prop} {M1 : MM} (hn : n ≤ 12) (h32 : M1.1 (B + 80) 32 = nI n) (hw : ∀ j, j < n → M1.1 (B + 98) j = nI (w j))
    (hend : ∀ M', Fk B M1 M' [97] [] → (∀ j, j < n → M'.1 (B + 97) j = nI (w j)) → G E B cX7_goesBy (RX7, 5, none, rmD 2, 0, 0, KM E B F) 219 [(0, .ref (B + 80)), (1, .int (nI q))] [] M') :
    ∀ (m i : Nat), m + i = n → ∀ M', Fk B M1 M' [97] [] → (∀ j, j < i → M'.1 (B + 97) j = nI (w j)) →
    G E B cX7_goesBy (RX7, 5, none, rmD 2, 0, 0, KM E B F) 193 [(0, .ref (B + 80)), (1, .int (nI q)), (3, .int (nI i))] [] M' := by
  intro m
  induction m with
  | zero =>
    intro i h1 M' hF hI
    refine g_iload_n dX7_goesBy_193 rfl rfl ?_
    refine g_aload_n dX7_goesBy_194 rfl rfl ?_
    refine g_getI dX7_goesBy_195 fl_X7_177 rfl rfl ((hF.j (by decide)).trans h32) ?_
    refine g_icmp_geN (tgt := 219) dX7_goesBy_198 (by decide) rfl rfl (by omega) (by omega) (fun c_198 => ?_) (fun c_198 => absurd c_198 (by omega))
    exact g_le (lvLe_c rfl (lvLe_c rfl lvLe_0)) (hend M' hF (fun j hj => hI j (by omega)))
  | succ m ih =>
    intro i h1 M' hF hI
    refine g_iload_n dX7_goesBy_193 rfl rfl ?_
    refine g_aload_n dX7_goesBy_194 rfl rfl ?_
    refine g_getI dX7_goesBy_195 fl_X7_177 rfl rfl ((hF.j (by decide)).trans h32) ?_
    refine g_icmp_geN (tgt := 219) dX7_goesBy_198 (by decide) rfl rfl (by omega) (by omega) (fun c_198 => absurd c_198 (by omega)) (fun c_198 => ?_)
    refine g_aload_n dX7_goesBy_201 rfl rfl ?_
    refine g_getR dX7_goesBy_202 fl_X7_75 rfl rfl ?_
    refine g_iload_n dX7_goesBy_205 rfl rfl ?_
    refine g_aload_n dX7_goesBy_206 rfl rfl ?_
    refine g_getR dX7_goesBy_207 fl_X7_78 rfl rfl ?_
    refine g_iload_n dX7_goesBy_210 rfl rfl ?_
    refine g_iald dX7_goesBy_211 rfl rfl (by omega) ((congrFun (hF.i (by decide) (by decide)) _).trans (hw i (by omega))) ?_
    refine g_iast dX7_goesBy_212 rfl rfl (by omega) ?_
    refine g_iinc dX7_goesBy_213 rfl (inc_nI _) rfl ?_
    refine g_goto (tgt := 193) dX7_goesBy_216 (by decide) ?_
    exact g_le (lvLe_c rfl (lvLe_c rfl (lvLe_c rfl lvLe_0))) (ih (i + 1) (by omega) _ (hF.tr (Fk.pi (by decide) (by decide))) (fun j hj => by
      by_cases e : j = i
      · subst e; exact upI_s
      · rw [upI_k e]; exact hI j (by omega)))
theorem lp_goes3 {q n r : Nat} {w : Nat → Nat} {F : Option Value → MM → Prop} {M1 : MM} (hn : n + r ≤ 12) (h32 : M1.1 (B + 80) 32 = nI n) (hw : ∀ j, j < n + r → M1.1 (B + 97) j = nI (w j))
    (hend : ∀ M', Fk B M1 M' [97] [] → (∀ j, j < n → M'.1 (B + 97) j = nI (w (j + r))) → G E B cX7_goesBy (RX7, 5, none, rmD 2, 0, 0, KM E B F) 275 [(0, .ref (B + 80)), (3, .int (nI r))] [] M') :
    ∀ (m i : Nat), m + i = n → ∀ M', Fk B M1 M' [97] [] → (∀ j, j < n + r → M'.1 (B + 97) j = nI (if j < i then w (j + r) else w j)) →
    G E B cX7_goesBy (RX7, 5, none, rmD 2, 0, 0, KM E B F) 244 [(0, .ref (B + 80)), (1, .int (nI q)), (3, .int (nI r)), (4, .int (nI i))] [] M' := by
  intro m
  induction m with
  | zero =>
    intro i h1 M' hF hI
    refine g_iload dX7_goesBy_244 rfl ?_
    refine g_aload_n dX7_goesBy_246 rfl rfl ?_
    refine g_getI dX7_goesBy_247 fl_X7_177 rfl rfl ((hF.j (by decide)).trans h32) ?_
    refine g_icmp_geN (tgt := 275) dX7_goesBy_250 (by decide) rfl rfl (by omega) (by omega) (fun c_250 => ?_) (fun c_250 => absurd c_250 (by omega))
    exact g_le (lvLe_c rfl (lvLe_c rfl lvLe_0)) (hend M' hF (fun j hj => by rw [hI j (by omega), if_pos (by omega)]))
  | succ m ih =>
    intro i h1 M' hF hI
    refine g_iload dX7_goesBy_244 rfl ?_
    refine g_aload_n dX7_goesBy_246 rfl rfl ?_
    refine g_getI dX7_goesBy_247 fl_X7_177 rfl rfl ((hF.j (by decide)).trans h32) ?_
    refine g_icmp_geN (tgt := 275) dX7_goesBy_250 (by decide) rfl rfl (by omega) (by omega) (fun c_250 => absurd c_250 (by omega)) (fun c_250 => ?_)
    refine g_aload_n dX7_goesBy_253 rfl rfl ?_
    refine g_getR dX7_goesBy_254 fl_X7_75 rfl rfl ?_
    refine g_iload dX7_goesBy_257 rfl ?_
    refine g_aload_n dX7_goesBy_259 rfl rfl ?_
    refine g_getR dX7_goesBy_260 fl_X7_75 rfl rfl ?_
    refine g_iload dX7_goesBy_263 rfl ?_
    refine g_iload_n dX7_goesBy_265 rfl rfl ?_
    refine g_iadd dX7_goesBy_266 (nI_add _ _) ?_
    refine g_iald dX7_goesBy_267 rfl rfl (by omega) ((hI (i + r) (by omega)).trans (by rw [if_neg (by omega)])) ?_
    refine g_iast dX7_goesBy_268 rfl rfl (by omega) ?_
    refine g_iinc dX7_goesBy_269 rfl (inc_nI _) rfl ?_
    refine g_goto (tgt := 244) dX7_goesBy_272 (by decide) ?_
    exact g_le (lvLe_c rfl (lvLe_c rfl (lvLe_c rfl (lvLe_c rfl lvLe_0)))) (ih (i + 1) (by omega) _ (hF.tr (Fk.pi (by decide) (by decide))) (fun j hj => by
      by_cases e : j = i
      · subst e; rw [upI_s, if_pos (by omega)]
      · rw [upI_k e, hI j hj]
        by_cases e2 : j < i
        · rw [if_pos e2, if_pos (by omega)]
        · rw [if_neg e2, if_neg (by omega)]))
theorem tl_goes4 {n r dp g T : Nat} {w : Nat → Nat} {t0 : Int32} {M0 : MM} {D' : Dk} (hr : r ≤ 12) (hdp : dp ≤ 12) (f32 : M.1 (B + 80) 32 = nI (n - r)) (f33 : M.1 (B + 80) 33 = nI dp) (f34 : M.1 (B + 80) 34 = t0 + nI T) (f35 : M.1 (B + 80) 35 = nI g) (a2 : ∀ j, j < n - r → M.1 (B + 97) j = nI (w (j + r))) (fF : Fk B M0 M dA [32, 33, 34, 35])
    (d1 : D'.1 = n - r) (d2 : D'.2.1 = fun i => w (i + r)) (d3 : D'.2.2.1 = dp - r) (d4 : D'.2.2.2.1 = g + r) (d5 : D'.2.2.2.2.1 = T) :
    G E B cX7_goesBy (RX7, 5, none, rmD 2, 0, 0, KM E B (Rv (fun M2 => RDc B M2 t0 D' ∧ M2.1 (B + 80) 33 = nI D'.2.2.1 ∧ Fk B M0 M2 dA [32, 33, 34, 35]))) 275 [(0, .ref (B + 80)), (3, .int (nI r))] [] M := by
  refine g_aload_n dX7_goesBy_275 rfl rfl ?_
  refine g_aload_n dX7_goesBy_276 rfl rfl ?_
  refine g_getI dX7_goesBy_277 fl_X7_196 rfl rfl (f33) ?_
  refine g_iload_n dX7_goesBy_280 rfl rfl ?_
  refine g_icmp_leN (tgt := 293) dX7_goesBy_281 (by decide) rfl rfl (by omega) (by omega) (fun c_281 => ?_) (fun c_281 => ?_)
  · refine g_iconst dX7_goesBy_293 kI_0 ?_
    refine g_putI dX7_goesBy_294 fp_X7_196 rfl rfl ?_
    refine g_aload_n dX7_goesBy_297 rfl rfl ?_
    refine g_dup dX7_goesBy_298 rfl ?_
    refine g_getI dX7_goesBy_299 fl_X7_183 rfl rfl ((upI_k (by decide)).trans f35) ?_
    refine g_iload_n dX7_goesBy_302 rfl rfl ?_
    refine g_iadd dX7_goesBy_303 (nI_add _ _) ?_
    refine g_putI dX7_goesBy_304 fp_X7_183 rfl rfl ?_
    refine g_vret dX7_goesBy_307 ⟨rfl, ?_⟩
    refine ⟨⟨?_, fun i hi => ?_, ?_, ?_⟩, ?_, (fF.tr (Fk.pj (by decide))).tr (Fk.pj (by decide))⟩
    · rw [upI_k (by decide), upI_k (by decide), d1]; exact f32
    · rw [upI_ap (by decide), upI_ap (by decide), d2]; exact a2 i (by rw [d1] at hi; exact hi)
    · rw [upI_k (by decide), upI_k (by decide), d5]; exact f34
    · rw [upI_s, d4]
    · rw [upI_k (by decide), upI_s, d3]; try rw [show dp - r = 0 by omega]
  · refine g_aload_n dX7_goesBy_284 rfl rfl ?_
    refine g_getI dX7_goesBy_285 fl_X7_196 rfl rfl (f33) ?_
    refine g_iload_n dX7_goesBy_288 rfl rfl ?_
    first | refine g_isub dX7_goesBy_289 (pk_sub (by omega)) ?_ | refine g_isub dX7_goesBy_289 rfl ?_
    refine g_goto (tgt := 294) dX7_goesBy_290 (by decide) ?_
    refine g_putI dX7_goesBy_294 fp_X7_196 rfl rfl ?_
    refine g_aload_n dX7_goesBy_297 rfl rfl ?_
    refine g_dup dX7_goesBy_298 rfl ?_
    refine g_getI dX7_goesBy_299 fl_X7_183 rfl rfl ((upI_k (by decide)).trans f35) ?_
    refine g_iload_n dX7_goesBy_302 rfl rfl ?_
    refine g_iadd dX7_goesBy_303 (nI_add _ _) ?_
    refine g_putI dX7_goesBy_304 fp_X7_183 rfl rfl ?_
    refine g_vret dX7_goesBy_307 ⟨rfl, ?_⟩
    refine ⟨⟨?_, fun i hi => ?_, ?_, ?_⟩, ?_, (fF.tr (Fk.pj (by decide))).tr (Fk.pj (by decide))⟩
    · rw [upI_k (by decide), upI_k (by decide), d1]; exact f32
    · rw [upI_ap (by decide), upI_ap (by decide), d2]; exact a2 i (by rw [d1] at hi; exact hi)
    · rw [upI_k (by decide), upI_k (by decide), d5]; exact f34
    · rw [upI_s, d4]
    · rw [upI_k (by decide), upI_s, d3]; try rw [show dp - r = 0 by omega]
/-- behind the wetting: whether it breaks -/
theorem tl_goes {s : St} {q n dp g T : Nat} {w : Nat → Nat} {t0 : Int32} {M0 : MM} {D' : Dk} (hR : RN B M s) (ho : okSt s) (hq : q < sCn s) (hn : n ≤ 12) (hdp : dp ≤ n) (hg : g + n ≤ 12) (h32 : M.1 (B + 80) 32 = nI n) (h33 : M.1 (B + 80) 33 = nI dp) (h34 : M.1 (B + 80) 34 = t0 + nI T) (h35 : M.1 (B + 80) 35 = nI g) (hw : ∀ j, j < n → M.1 (B + 97) j = nI (w j)) (hw2 : ∀ j, w j ≤ 99) (hF : Fk B M0 M dA [32, 33, 34, 35])
    (hD0 : brkN (sBs s q).1 (sBs s q).2.1 n w = 0 → D'.1 = n ∧ D'.2.1 = w ∧ D'.2.2.1 = dp ∧ D'.2.2.2.1 = g ∧ D'.2.2.2.2.1 = T)
    (hD1 : ¬ brkN (sBs s q).1 (sBs s q).2.1 n w = 0 → D'.1 = n - brkN (sBs s q).1 (sBs s q).2.1 n w ∧ D'.2.1 = (fun i => w (i + brkN (sBs s q).1 (sBs s q).2.1 n w)) ∧ D'.2.2.1 = dp - brkN (sBs s q).1 (sBs s q).2.1 n w ∧ D'.2.2.2.1 = g + brkN (sBs s q).1 (sBs s q).2.1 n w ∧ D'.2.2.2.2.1 = T) :
    G E B cX7_goesBy (RX7, 5, none, rmD 2, 0, 0, KM E B (Rv (fun M2 => RDc B M2 t0 D' ∧ M2.1 (B + 80) 33 = nI D'.2.2.1 ∧ Fk B M0 M2 dA [32, 33, 34, 35]))) 219 [(0, .ref (B + 80)), (1, .int (nI q))] [] M := by
  have hrk := brkN_ok (kd := (sBs s q).1) (a := (sBs s q).2.1) (n := n) (w := w)
  refine g_aload_n dX7_goesBy_219 rfl rfl ?_
  refine g_iload_n dX7_goesBy_220 rfl rfl ?_
  refine g_callVp dX7_goesBy_221 mi_X7_breakOf ml_X7_199 (ct_breakOf hR ho hq hn h32 hw hw2) rfl rfl rfl rfl (Nat.le_of_ble_eq_true rfl) ⟨lt_r rfl, Nat.le_of_ble_eq_true rfl⟩ ?_
  refine g_istore_n dX7_goesBy_224 rfl (lt_r rfl) rfl ?_
  refine g_iload_n dX7_goesBy_225 rfl rfl ?_
  refine g_iconst dX7_goesBy_226 kI_m1 ?_
  refine g_icmp_ne (tgt := 231) dX7_goesBy_227 (by decide) (fun c_227 => ?_) (fun c_227 => ?_)
  · have hz : ¬ brkN (sBs s q).1 (sBs s q).2.1 n w = 0 := fun z => c_227 (by unfold brkI; rw [if_pos z])
    obtain ⟨k1, k2⟩ := hrk hz
    obtain ⟨d1, d2, d3, d4, d5⟩ := hD1 hz
    have e3 : brkI (brkN (sBs s q).1 (sBs s q).2.1 n w) = nI (brkN (sBs s q).1 (sBs s q).2.1 n w) := if_neg hz
    rw [e3]
    generalize brkN (sBs s q).1 (sBs s q).2.1 n w = r at k1 k2 d1 d2 d3 d4 d5 ⊢
    refine g_aload_n dX7_goesBy_231 rfl rfl ?_
    refine g_dup dX7_goesBy_232 rfl ?_
    refine g_getI dX7_goesBy_233 fl_X7_177 rfl rfl (h32) ?_
    refine g_iload_n dX7_goesBy_236 rfl rfl ?_
    first | refine g_isub dX7_goesBy_237 (pk_sub (by omega)) ?_ | refine g_isub dX7_goesBy_237 rfl ?_
    refine g_putI dX7_goesBy_238 fp_X7_177 rfl rfl ?_
    refine g_iconst dX7_goesBy_241 kI_0 ?_
    refine g_istore dX7_goesBy_242 (lt_r rfl) rfl ?_
    have hF0 : Fk B M (upI M (B + 80) 32 (nI (n - r))) [] [32] := Fk.pj (by decide)
    refine g_le (lvLe_c rfl (lvLe_c rfl (lvLe_c rfl (lvLe_c rfl lvLe_0)))) (lp_goes3 (q := q) (n := n - r) (r := r) (w := w) (by omega) upI_s (fun j hj => by rw [upI_ap (by decide)]; exact hw j (by omega)) (fun M' a1 a2 => ?_) (n - r) 0 rfl _ Fk.rf (fun j hj => by rw [upI_ap (by decide), if_neg (Nat.not_lt_zero j)]; exact hw j (by omega)))
    have f32 : M'.1 (B + 80) 32 = nI (n - r) := (a1.j (by decide)).trans upI_s
    have f33 : M'.1 (B + 80) 33 = nI dp := ((a1.j (by decide)).trans (hF0.j (by decide))).trans h33
    have f34 : M'.1 (B + 80) 34 = t0 + nI T := ((a1.j (by decide)).trans (hF0.j (by decide))).trans h34
    have f35 : M'.1 (B + 80) 35 = nI g := ((a1.j (by decide)).trans (hF0.j (by decide))).trans h35
    have fF : Fk B M0 M' dA [32, 33, 34, 35] := (hF.tr (hF0.up (by decide) (by decide))).tr (a1.up (by decide) (by decide))
    exact tl_goes4 (by omega) (by omega) f32 f33 f34 f35 a2 fF d1 d2 d3 d4 d5
  · refine g_vret dX7_goesBy_230 ⟨rfl, ?_⟩
    have hz : brkN (sBs s q).1 (sBs s q).2.1 n w = 0 := Classical.byContradiction (fun z => by
      obtain ⟨k1, k2⟩ := hrk z
      unfold brkI at c_227
      rw [if_neg z] at c_227
      exact nI_nm1 (by omega) c_227)
    obtain ⟨d1, d2, d3, d4, d5⟩ := hD0 hz
    exact ⟨⟨by rw [d1]; exact h32, fun i hi => by rw [d2]; exact hw i (by rw [d1] at hi; exact hi), by rw [d5]; exact h34, by rw [d4]; exact h35⟩, by rw [d3]; exact h33, hF⟩
/-- a second of the model is a second -/
theorem ct_goesBy {s : St} {q h t : Nat} {t0 : Int32} {D : Dk} (hR : RN B M s) (ho : okSt s) (hq : q < sCn s) (hh : h < 2 ^ 31) (hD : RDc B M t0 D) (h33 : M.1 (B + 80) 33 = nI D.2.2.1) (hk : okD (sBs s q).1 (sBs s q).2.1 t D) :
    Ct E B yX7_goesBy cX7_goesBy 5 none 2 [.ref (B + 80), .int (nI q), .int (nI h)] M (Rv (fun M2 => RDc B M2 t0 (sec (sBs s q).1 (sBs s q).2.1 h (t + 1) D) ∧ M2.1 (B + 80) 33 = nI (sec (sBs s q).1 (sBs s q).2.1 h (t + 1) D).2.2.1 ∧ Fk B M M2 dA [32, 33, 34, 35])) := by
  obtain ⟨h32, hw, h34, h35⟩ := hD
  obtain ⟨⟨k1, k2, k3, k4⟩, k5, k6, k7⟩ := hk
  have k3 : D.1 ≤ 12 := k3
  have k4 : ∀ i, D.2.1 i ≤ 99 := k4
  refine Ct.of2 (own := RX7) (lv := [(0, .ref (B + 80)), (1, .int (nI q)), (2, .int (nI h))]) pn_X7 rfl (Nat.le_of_ble_eq_true rfl) rfl ?_
  refine g_iconst dX7_goesBy_0 kI_0 ?_
  refine g_istore_n dX7_goesBy_1 rfl (lt_r rfl) rfl ?_
  refine g_le (lvLe_c rfl (lvLe_c rfl (lvLe_c rfl (lvLe_c rfl lvLe_0)))) (lp_goes1 (T := D.2.2.2.2.1) hR ho hq hh k3 h32 h33 k5 hw k4 (fun M1 a1 a2 a3 => ?_) D.1 0 rfl M Fk.rf (fun j hj => absurd hj (Nat.not_lt_zero j)) h34)
  refine g_iconst dX7_goesBy_191 kI_0 ?_
  refine g_istore_n dX7_goesBy_192 rfl (lt_r rfl) rfl ?_
  refine g_le (lvLe_c rfl (lvLe_c rfl (lvLe_c rfl lvLe_0))) (lp_goes2 (q := q) (w := secW (sBs s q).1 (sBs s q).2.1 D.1 D.2.2.1 h D.2.1) k3 ((a1.j (by decide)).trans h32) a2 (fun M2 b1 b2 => ?_) D.1 0 rfl M1 Fk.rf (fun j hj => absurd hj (Nat.not_lt_zero j)))
  have hF : Fk B M M2 dA [32, 33, 34, 35] := (a1.up (by decide) (by decide)).tr (b1.up (by decide) (by decide))
  refine tl_goes (hR.fk hF (by decide) (by decide)) ho hq k3 k5 k6 ((b1.j (by decide)).trans ((a1.j (by decide)).trans h32)) ((b1.j (by decide)).trans ((a1.j (by decide)).trans h33)) ((b1.j (by decide)).trans a3) ((b1.j (by decide)).trans ((a1.j (by decide)).trans h35)) b2 (secW_le k4) hF (fun hz => ?_) (fun hz => ?_)
  · unfold sec
    dsimp only
    rw [if_pos hz]
    exact ⟨rfl, rfl, rfl, rfl, rfl⟩
  · unfold sec
    dsimp only
    rw [if_neg hz]
    exact ⟨rfl, rfl, rfl, rfl, rfl⟩
end X7D
