/-! the model's calls, fourth part: copy; longest, far, rule, fetch -/
theorem sub1_bI {i : Nat} (hi : i < 2 ^ 31) : nI i - nI 1 = bI i := by
  by_cases h : i = 0
  · subst h; decide
  · unfold bI
    rw [if_neg h, pk_sub (by omega)]
theorem rule_s2 {x n h : Nat} (hx : x ≤ 99) (hn : 1 ≤ n) (hh : h < 2 ^ 31) : (if ¬ 0 ≤ nI x - nI (h / n) then nI 0 else if nI x - nI (h / n) ≤ nI 60 then nI x - nI (h / n) else nI 60) = nI (ruleS x n h) := by
  rw [← rule_s hx hn hh]
  generalize nI x - nI (h / n) = X
  by_cases c : 0 ≤ X
  · rw [if_neg (fun z => z c)]
    by_cases c2 : X < nI 60
    · rw [if_pos (Int32.le_of_lt c2), if_pos c2, max_t c]
    · by_cases c3 : X ≤ nI 60
      · have e : X = nI 60 := Int32.le_antisymm c3 (Int32.not_lt.mp c2)
        rw [e]; decide
      · rw [if_neg c3, if_neg c2]; decide
  · rw [if_pos c]
    have c2 : X < nI 60 := by
      have a1 := Int32.not_le.mp c
      rw [Int32.lt_iff_toInt_lt] at a1 ⊢
      have e1 : (0 : Int32).toInt = 0 := rfl
      have e2 : (nI 60).toInt = 60 := rfl
      omega
    rw [if_pos c2, max_f c]
section X7H
variable {E : EE} {B : Nat} {M : MM}
theorem lp_copy1 {p i n : Nat} {x2 x4 : Int32} {F : Option Value → MM → Prop} {M1 : MM} (hp : p < 8) (hn : i + n ≤ 160)
    (hend : ∀ M', Fk B M1 M' [92] [] → (∀ j, j < n → M'.2 (B + 92) j = M1.2 (B + 91) (160 * p + i + j)) → G E B cX7_copy (RX7, 7, some .int, rmD 1, 0, 0, KM E B F) 205 [(0, .ref (B + 80)), (2, .int x2), (4, .int x4), (5, .int (nI n)), (6, .int (nI 0))] [] M') :
    ∀ (m k : Nat), m + k = n → ∀ M', Fk B M1 M' [92] [] → (∀ j, j < k → M'.2 (B + 92) j = M1.2 (B + 91) (160 * p + i + j)) →
    G E B cX7_copy (RX7, 7, some .int, rmD 1, 0, 0, KM E B F) 167 [(0, .ref (B + 80)), (1, .int (nI p)), (2, .int x2), (3, .int (nI i)), (4, .int x4), (5, .int (nI n)), (6, .int (nI k))] [] M' := by
  intro m
  induction m with
  | zero =>
    intro k h1 M' hF hI
    refine g_iload dX7_copy_167 rfl ?_
    refine g_iload dX7_copy_169 rfl ?_
    refine g_icmp_geN (tgt := 202) dX7_copy_171 (by decide) rfl rfl (by omega) (by omega) (fun c_171 => ?_) (fun c_171 => absurd c_171 (by omega))
    refine g_iconst dX7_copy_202 kI_0 ?_
    refine g_istore dX7_copy_203 (lt_r rfl) rfl ?_
    exact g_le (lvLe_c rfl (lvLe_c rfl (lvLe_c rfl (lvLe_c rfl (lvLe_c rfl lvLe_0))))) (hend M' hF (fun j hj => hI j (by omega)))
  | succ m ih =>
    intro k h1 M' hF hI
    refine g_iload dX7_copy_167 rfl ?_
    refine g_iload dX7_copy_169 rfl ?_
    refine g_icmp_geN (tgt := 202) dX7_copy_171 (by decide) rfl rfl (by omega) (by omega) (fun c_171 => absurd c_171 (by omega)) (fun c_171 => ?_)
    refine g_aload_n dX7_copy_174 rfl rfl ?_
    refine g_getR dX7_copy_175 fl_X7_60 rfl rfl ?_
    refine g_iload dX7_copy_178 rfl ?_
    refine g_aload_n dX7_copy_180 rfl rfl ?_
    refine g_getR dX7_copy_181 fl_X7_56 rfl rfl ?_
    refine g_sipush dX7_copy_184 kS_160 ?_
    refine g_iload_n dX7_copy_187 rfl rfl ?_
    refine g_imul dX7_copy_188 (pk_mul _ _) ?_
    refine g_iload_n dX7_copy_189 rfl rfl ?_
    refine g_iadd dX7_copy_190 (nI_add _ _) ?_
    refine g_iload dX7_copy_191 rfl ?_
    refine g_iadd dX7_copy_193 (nI_add _ _) ?_
    refine g_lald dX7_copy_194 rfl rfl (by omega) (congrFun (hF.l (by decide) (by decide)) _) ?_
    refine g_last dX7_copy_195 rfl rfl (by omega) ?_
    refine g_iinc dX7_copy_196 rfl (inc_nI _) rfl ?_
    refine g_goto (tgt := 167) dX7_copy_199 (by decide) ?_
    exact g_le (lvLe_c rfl (lvLe_c rfl (lvLe_c rfl (lvLe_c rfl (lvLe_c rfl (lvLe_c rfl (lvLe_c rfl lvLe_0))))))) (ih (k + 1) (by omega) _ (hF.tr (Fk.pl (by decide))) (fun j hj => by
      by_cases e : j = k
      · subst e; exact upL_s
      · rw [upL_k e]; exact hI j (by omega)))
theorem lp_copy2 {q i n : Nat} {F : Option Value → MM → Prop} {M1 : MM} (hp : q < 8) (hn : i + n ≤ 160)
    (hend : ∀ M', Fk B M1 M' [91] [] → (∀ z, M'.2 (B + 91) z = if 160 * q + i ≤ z ∧ z < 160 * q + i + n then M1.2 (B + 92) (z - (160 * q + i)) else M1.2 (B + 91) z) → F (some (.int (nI 1))) M') :
    ∀ (m k : Nat), m + k = n → ∀ M', Fk B M1 M' [91] [] → (∀ z, M'.2 (B + 91) z = if 160 * q + i ≤ z ∧ z < 160 * q + i + k then M1.2 (B + 92) (z - (160 * q + i)) else M1.2 (B + 91) z) →
    G E B cX7_copy (RX7, 7, some .int, rmD 1, 0, 0, KM E B F) 205 [(0, .ref (B + 80)), (2, .int (nI q)), (4, .int (nI i)), (5, .int (nI n)), (6, .int (nI k))] [] M' := by
  intro m
  induction m with
  | zero =>
    intro k h1 M' hF hI
    refine g_iload dX7_copy_205 rfl ?_
    refine g_iload dX7_copy_207 rfl ?_
    refine g_icmp_geN (tgt := 241) dX7_copy_209 (by decide) rfl rfl (by omega) (by omega) (fun c_209 => ?_) (fun c_209 => absurd c_209 (by omega))
    refine g_iconst dX7_copy_241 kI_1 ?_
    have e : k = n := by omega
    subst e
    exact g_iret dX7_copy_242 (hend M' hF hI)
  | succ m ih =>
    intro k h1 M' hF hI
    refine g_iload dX7_copy_205 rfl ?_
    refine g_iload dX7_copy_207 rfl ?_
    refine g_icmp_geN (tgt := 241) dX7_copy_209 (by decide) rfl rfl (by omega) (by omega) (fun c_209 => absurd c_209 (by omega)) (fun c_209 => ?_)
    refine g_aload_n dX7_copy_212 rfl rfl ?_
    refine g_getR dX7_copy_213 fl_X7_56 rfl rfl ?_
    refine g_sipush dX7_copy_216 kS_160 ?_
    refine g_iload_n dX7_copy_219 rfl rfl ?_
    refine g_imul dX7_copy_220 (pk_mul _ _) ?_
    refine g_iload dX7_copy_221 rfl ?_
    refine g_iadd dX7_copy_223 (nI_add _ _) ?_
    refine g_iload dX7_copy_224 rfl ?_
    refine g_iadd dX7_copy_226 (nI_add _ _) ?_
    refine g_aload_n dX7_copy_227 rfl rfl ?_
    refine g_getR dX7_copy_228 fl_X7_60 rfl rfl ?_
    refine g_iload dX7_copy_231 rfl ?_
    refine g_lald dX7_copy_233 rfl rfl (by omega) (congrFun (hF.l (by decide) (by decide)) _) ?_
    refine g_last dX7_copy_234 rfl rfl (by omega) ?_
    refine g_iinc dX7_copy_235 rfl (inc_nI _) rfl ?_
    refine g_goto (tgt := 205) dX7_copy_238 (by decide) ?_
    exact g_le (lvLe_c rfl (lvLe_c rfl (lvLe_c rfl (lvLe_c rfl (lvLe_c rfl lvLe_0))))) (ih (k + 1) (by omega) _ (hF.tr (Fk.pl (by decide))) (fun z => by
      by_cases e : z = 160 * q + i + k
      · subst e; rw [upL_s, if_pos (by omega), show 160 * q + i + k - (160 * q + i) = k by omega]
      · rw [upL_k e, hI z]
        by_cases e2 : 160 * q + i ≤ z ∧ z < 160 * q + i + k
        · rw [if_pos e2, if_pos (by omega)]
        · rw [if_neg e2, if_neg (by omega)]))
theorem tl_mcopy {y : Sys} {p' q' : Nat} {i j n : Int32} (h : RM B M y) (ho : okY y) (hp' : p' < 8) (hq' : q' < 8) (n1 : ¬ (yH y p').1 = 2) (n2 : ¬ (yH y q').1 = 2) (n3 : (yH y p').1 = 1 → (yH y q').1 = 1 → (yH y p').2.1 = (yH y q').2.1) :
    G E B cX7_copy (RX7, 7, some .int, rmD 1, 0, 0, KM E B (QM B M (o_copy y (nI p') (nI q') i j n))) 84 [(0, .ref (B + 80)), (1, .int (nI p')), (2, .int (nI q')), (3, .int i), (4, .int j), (5, .int n)] [] M := by
  have hw : ∀ w, whyCopy y (nI p') (nI q') i j n = w → ¬ w = 0 → o_copy y (nI p') (nI q') i j n = rz y w := fun w e z => by unfold o_copy; rw [e, if_pos z]
  have c_5 : 0 ≤ nI p' ∧ nI p' < nI 8 := ⟨Int32.not_lt.mp (nI_pos (by omega)), (nI_ltI (by omega) (by decide)).mpr hp'⟩
  have c_13 : 0 ≤ nI q' ∧ nI q' < nI 8 := ⟨Int32.not_lt.mp (nI_pos (by omega)), (nI_ltI (by omega) (by decide)).mpr hq'⟩
  have e1 : tn (nI p') = p' := tn_nI (by omega)
  have e2 : tn (nI q') = q' := tn_nI (by omega)
  have hp2 := (ho.1 p' hp').1
  have hq2 := (ho.1 q' hq').1
  have eP : whyRow y (nI p') = if (yH y p').1 = 1 then 0 else if (yH y p').1 = 0 then 3 else 2 := by unfold whyRow; rw [if_neg (fun z => z c_5), e1]
  have eQ : whyRow y (nI q') = if (yH y q').1 = 1 then 0 else if (yH y q').1 = 0 then 3 else 2 := by unfold whyRow; rw [if_neg (fun z => z c_13), e2]
  unfold whyCopy at hw
  rw [eP, eQ, e1, e2] at hw
  refine g_aload_n dX7_copy_84 rfl rfl ?_
  refine g_getR dX7_copy_85 fl_X7_44 rfl rfl ?_
  refine g_iload_n dX7_copy_88 rfl rfl ?_
  refine g_iald dX7_copy_89 rfl rfl (by omega) ((h.1 p' hp').1) ?_
  refine g_if_eqN (tgt := 102) dX7_copy_90 (by decide) rfl (by omega) (fun c_90 => ?_) (fun c_90 => ?_)
  · refine g_aload_n dX7_copy_102 rfl rfl ?_
    refine g_bipush dX7_copy_103 kB_m3 ?_
    refine g_callVi dX7_copy_105 mi_X7_no ml_X7_100 (ct_no (w := 3) h (by decide) (by decide)) rfl rfl rfl rfl (Nat.le_of_ble_eq_true rfl) ⟨lt_r rfl, Nat.le_of_ble_eq_true rfl⟩ (fun x105 M105 h105 => ?_)
    refine g_iret dX7_copy_108 ⟨_, rfl, ?_⟩
    refine QM.rf (hw 3 ?_ (by decide)) h105
    clear hw h105
    repeat' split
    all_goals first | omega | rfl
  · refine g_aload_n dX7_copy_93 rfl rfl ?_
    refine g_getR dX7_copy_94 fl_X7_44 rfl rfl ?_
    refine g_iload_n dX7_copy_97 rfl rfl ?_
    refine g_iald dX7_copy_98 rfl rfl (by omega) ((h.1 q' hq').1) ?_
    refine g_if_neN (tgt := 109) dX7_copy_99 (by decide) rfl (by omega) (fun c_99 => ?_) (fun c_99 => ?_)
    · have d1 : (yH y p').1 = 1 := by omega
      have d2 : (yH y q').1 = 1 := by omega
      have d3 := n3 d1 d2
      clear eP eQ
      rw [if_pos d1, if_pos d2, if_neg (by decide), if_neg (by decide), if_neg (by decide), if_neg (fun z => z d3)] at hw
      obtain ⟨b5, b6, b7⟩ := (h.1 p' hp').2.1 d1
      obtain ⟨b8, b9, b10⟩ := (h.1 q' hq').2.1 d2
      have l1 := ((ho.1 p' hp').2.1 d1).2
      have l2 := ((ho.1 q' hq').2.1 d2).2
      refine g_iload dX7_copy_109 rfl ?_
      refine g_if_ge (tgt := 121) dX7_copy_111 (by decide) (fun c_111 => ?_) (fun c_111 => ?_)
      · refine g_iload_n dX7_copy_121 rfl rfl ?_
        refine g_if_lt (tgt := 157) dX7_copy_122 (by decide) (fun c_122 => ?_) (fun c_122 => ?_)
        · refine g_aload_n dX7_copy_157 rfl rfl ?_
          refine g_bipush dX7_copy_158 kB_m5 ?_
          refine g_callVi dX7_copy_160 mi_X7_no ml_X7_100 (ct_no (w := 5) h (by decide) (by decide)) rfl rfl rfl rfl (Nat.le_of_ble_eq_true rfl) ⟨lt_r rfl, Nat.le_of_ble_eq_true rfl⟩ (fun x160 M160 h160 => ?_)
          refine g_iret dX7_copy_163 ⟨_, rfl, ?_⟩
          refine QM.rf (hw 5 ((if_neg (fun z => z c_111)).trans (if_pos ?_)) (by decide)) h160
          first | exact Or.inl c_122 | exact Or.inr (Or.inl c_127) | exact Or.inr (Or.inr (Or.inl c_140)) | exact Or.inr (Or.inr (Or.inr (Int32.not_le.mp c_154)))
        · refine g_iload dX7_copy_125 rfl ?_
          refine g_if_lt (tgt := 157) dX7_copy_127 (by decide) (fun c_127 => ?_) (fun c_127 => ?_)
          · refine g_aload_n dX7_copy_157 rfl rfl ?_
            refine g_bipush dX7_copy_158 kB_m5 ?_
            refine g_callVi dX7_copy_160 mi_X7_no ml_X7_100 (ct_no (w := 5) h (by decide) (by decide)) rfl rfl rfl rfl (Nat.le_of_ble_eq_true rfl) ⟨lt_r rfl, Nat.le_of_ble_eq_true rfl⟩ (fun x160 M160 h160 => ?_)
            refine g_iret dX7_copy_163 ⟨_, rfl, ?_⟩
            refine QM.rf (hw 5 ((if_neg (fun z => z c_111)).trans (if_pos ?_)) (by decide)) h160
            first | exact Or.inl c_122 | exact Or.inr (Or.inl c_127) | exact Or.inr (Or.inr (Or.inl c_140)) | exact Or.inr (Or.inr (Or.inr (Int32.not_le.mp c_154)))
          · refine g_iload_n dX7_copy_130 rfl rfl ?_
            refine g_aload_n dX7_copy_131 rfl rfl ?_
            refine g_getR dX7_copy_132 fl_X7_50 rfl rfl ?_
            refine g_iload_n dX7_copy_135 rfl rfl ?_
            refine g_iald dX7_copy_136 rfl rfl (by omega) (b6) ?_
            refine g_iload dX7_copy_137 rfl ?_
            refine g_isub dX7_copy_139 rfl ?_
            refine g_icmp_gt (tgt := 157) dX7_copy_140 (by decide) (fun c_140 => ?_) (fun c_140 => ?_)
            · refine g_aload_n dX7_copy_157 rfl rfl ?_
              refine g_bipush dX7_copy_158 kB_m5 ?_
              refine g_callVi dX7_copy_160 mi_X7_no ml_X7_100 (ct_no (w := 5) h (by decide) (by decide)) rfl rfl rfl rfl (Nat.le_of_ble_eq_true rfl) ⟨lt_r rfl, Nat.le_of_ble_eq_true rfl⟩ (fun x160 M160 h160 => ?_)
              refine g_iret dX7_copy_163 ⟨_, rfl, ?_⟩
              refine QM.rf (hw 5 ((if_neg (fun z => z c_111)).trans (if_pos ?_)) (by decide)) h160
              first | exact Or.inl c_122 | exact Or.inr (Or.inl c_127) | exact Or.inr (Or.inr (Or.inl c_140)) | exact Or.inr (Or.inr (Or.inr (Int32.not_le.mp c_154)))
            · refine g_iload dX7_copy_143 rfl ?_
              refine g_aload_n dX7_copy_145 rfl rfl ?_
              refine g_getR dX7_copy_146 fl_X7_50 rfl rfl ?_
              refine g_iload_n dX7_copy_149 rfl rfl ?_
              refine g_iald dX7_copy_150 rfl rfl (by omega) (b9) ?_
              refine g_iload dX7_copy_151 rfl ?_
              refine g_isub dX7_copy_153 rfl ?_
              refine g_icmp_le (tgt := 164) dX7_copy_154 (by decide) (fun c_154 => ?_) (fun c_154 => ?_)
              · obtain ⟨i', n', rfl, rfl, g1⟩ := cpy_bd l1 c_111 c_122 c_140
                obtain ⟨j', n2, rfl, f2, g2⟩ := cpy_bd l2 c_111 c_127 (fun z => Int32.not_le.mpr z c_154)
                have f3 : n2 = n' := by
                  have f4 := congrArg Int32.toInt f2
                  rw [nI_toInt (by omega), nI_toInt (by omega)] at f4
                  omega
                subst f3
                have hw0 : o_copy y (nI p') (nI q') (nI i') (nI j') (nI n2) = (nI 1, setH y q' (1, (yH y q').2.1, (yH y q').2.2.1, va_cpy (yH y p').2.2.2 (yH y q').2.2.2 i' j' n2)) := by
                  have hz : whyCopy y (nI p') (nI q') (nI i') (nI j') (nI n2) = 0 := by
                    have eP : whyRow y (nI p') = 0 := by unfold whyRow; rw [if_neg (fun z => z c_5), e1, if_pos d1]
                    have eQ : whyRow y (nI q') = 0 := by unfold whyRow; rw [if_neg (fun z => z c_13), e2, if_pos d2]
                    unfold whyCopy
                    rw [eP, eQ, e1, e2, if_neg (by decide), if_neg (by decide), if_neg (by decide), if_neg (fun z => z d3), if_neg (fun z => z c_111), if_neg (fun z => z.elim c_122 (fun z => z.elim c_127 (fun z => z.elim c_140 (fun z => Int32.not_lt.mpr c_154 z))))]
                  unfold o_copy
                  rw [if_neg (fun z => z hz), e1, e2, tn_nI (show i' < 2 ^ 31 by omega), tn_nI (show j' < 2 ^ 31 by omega), tn_nI (show n2 < 2 ^ 31 by omega)]
                rw [hw0]
                refine g_iconst dX7_copy_164 kI_0 ?_
                refine g_istore dX7_copy_165 (lt_r rfl) rfl ?_
                refine g_le (lvLe_c rfl (lvLe_c rfl (lvLe_c rfl (lvLe_c rfl (lvLe_c rfl (lvLe_c rfl (lvLe_c rfl lvLe_0))))))) (lp_copy1 hp' (by omega) (fun M1 a1 a2 => lp_copy2 hq' (by omega) (fun M2 b1 b2 => ⟨_, rfl, rfl, ?_⟩) n2 0 (by omega) M1 Fk.rf (fun z => by rw [if_neg (by omega)])) n2 0 (by omega) M Fk.rf (fun j hj => absurd hj (Nat.not_lt_zero j)))
                have hF1 : Fk B M M2 [87, 88, 89, 90, 91, 92] [] := (a1.up (by decide) (by decide)).tr (b1.up (by decide) (by decide))
                have e91 : M1.2 (B + 91) = M.2 (B + 91) := a1.l (by decide) (by decide)
                have eI : ∀ k, k ∈ [87, 88, 89, 90] → M2.1 (B + k) = M.1 (B + k) := fun k hk => (b1.i (by revert k; decide) (by revert k; decide)).trans (a1.i (by revert k; decide) (by revert k; decide))
                refine ⟨h.h ho hq' hF1 (fun q2 hq3 hne => ⟨congrFun (eI 87 (by decide)) _, congrFun (eI 88 (by decide)) _, congrFun (eI 89 (by decide)) _, congrFun (eI 90 (by decide)) _, fun z hz => ?_⟩) ⟨?_, fun _ => ⟨?_, ?_, fun z hz => ?_⟩, fun z => absurd (show (1 : Nat) = 2 from z) (by decide)⟩, hF1.sm (by decide)⟩
                · rw [b2, if_neg (by omega), e91]
                · rw [eI 87 (by decide), (h.1 q' hq').1, d2]
                · rw [eI 88 (by decide)]; exact b8
                · rw [eI 89 (by decide)]; exact b9
                · have hz : z < (yH y q').2.2.1 := hz
                  rw [b2]
                  show _ = va_cpy (yH y p').2.2.2 (yH y q').2.2.2 i' j' n2 z
                  unfold va_cpy
                  by_cases e : j' ≤ z ∧ z < j' + n2
                  · rw [if_pos e, if_pos (by omega), show 160 * q' + z - (160 * q' + j') = z - j' by omega, a2 _ (by omega), Nat.add_assoc]
                    exact b7 _ (by omega)
                  · rw [if_neg e, if_neg (by omega), e91]
                    exact b10 z hz
              · refine g_aload_n dX7_copy_157 rfl rfl ?_
                refine g_bipush dX7_copy_158 kB_m5 ?_
                refine g_callVi dX7_copy_160 mi_X7_no ml_X7_100 (ct_no (w := 5) h (by decide) (by decide)) rfl rfl rfl rfl (Nat.le_of_ble_eq_true rfl) ⟨lt_r rfl, Nat.le_of_ble_eq_true rfl⟩ (fun x160 M160 h160 => ?_)
                refine g_iret dX7_copy_163 ⟨_, rfl, ?_⟩
                refine QM.rf (hw 5 ((if_neg (fun z => z c_111)).trans (if_pos ?_)) (by decide)) h160
                first | exact Or.inl c_122 | exact Or.inr (Or.inl c_127) | exact Or.inr (Or.inr (Or.inl c_140)) | exact Or.inr (Or.inr (Or.inr (Int32.not_le.mp c_154)))
      · refine g_aload_n dX7_copy_114 rfl rfl ?_
        refine g_bipush dX7_copy_115 kB_m4 ?_
        refine g_callVi dX7_copy_117 mi_X7_no ml_X7_100 (ct_no (w := 4) h (by decide) (by decide)) rfl rfl rfl rfl (Nat.le_of_ble_eq_true rfl) ⟨lt_r rfl, Nat.le_of_ble_eq_true rfl⟩ (fun x117 M117 h117 => ?_)
        refine g_iret dX7_copy_120 ⟨_, rfl, ?_⟩
        exact QM.rf (hw 4 (if_pos c_111) (by decide)) h117
    · refine g_aload_n dX7_copy_102 rfl rfl ?_
      refine g_bipush dX7_copy_103 kB_m3 ?_
      refine g_callVi dX7_copy_105 mi_X7_no ml_X7_100 (ct_no (w := 3) h (by decide) (by decide)) rfl rfl rfl rfl (Nat.le_of_ble_eq_true rfl) ⟨lt_r rfl, Nat.le_of_ble_eq_true rfl⟩ (fun x105 M105 h105 => ?_)
      refine g_iret dX7_copy_108 ⟨_, rfl, ?_⟩
      refine QM.rf (hw 3 ?_ (by decide)) h105
      clear hw h105
      repeat' split
      all_goals first | omega | rfl
theorem mx_copy {y : Sys} {p q i j n : Int32} (h : RM B M y) (ho : okY y) : Ct E B yX7_copy cX7_copy 7 (some .int) 1 [.ref (B + 80), .int p, .int q, .int i, .int j, .int n] M (QM B M (o_copy y p q i j n)) := by
  have hw : ∀ w, whyCopy y p q i j n = w → ¬ w = 0 → o_copy y p q i j n = rz y w := fun w e z => by unfold o_copy; rw [e, if_pos z]
  refine Ct.of2 (own := RX7) (lv := [(0, .ref (B + 80)), (1, .int p), (2, .int q), (3, .int i), (4, .int j), (5, .int n)]) pn_X7 rfl (Nat.le_of_ble_eq_true rfl) rfl ?_
  refine g_aload_n dX7_copy_0 rfl rfl ?_
  refine g_iload_n dX7_copy_1 rfl rfl ?_
  refine g_callVp dX7_copy_2 mi_X7_isShelf ml_X7_97 (ct_X7_isShelf) rfl rfl rfl rfl (Nat.le_of_ble_eq_true rfl) ⟨lt_r rfl, Nat.le_of_ble_eq_true rfl⟩ ?_
  refine g_if_eqP (tgt := 16) dX7_copy_5 (by decide) (fun c_5 => ?_) (fun c_5 => ?_)
  · refine g_aload_n dX7_copy_16 rfl rfl ?_
    refine g_iconst dX7_copy_17 kI_m1 ?_
    refine g_callVi dX7_copy_18 mi_X7_no ml_X7_100 (ct_no (w := 1) h (by decide) (by decide)) rfl rfl rfl rfl (Nat.le_of_ble_eq_true rfl) ⟨lt_r rfl, Nat.le_of_ble_eq_true rfl⟩ (fun x18 M18 h18 => ?_)
    refine g_iret dX7_copy_21 ⟨_, rfl, ?_⟩
    first | exact QM.rf (hw 1 (if_pos (Or.inl (if_pos c_5))) (by decide)) h18 | exact QM.rf (hw 1 (if_pos (Or.inr (if_pos c_13))) (by decide)) h18
  · refine g_aload_n dX7_copy_8 rfl rfl ?_
    refine g_iload_n dX7_copy_9 rfl rfl ?_
    refine g_callVp dX7_copy_10 mi_X7_isShelf ml_X7_97 (ct_X7_isShelf) rfl rfl rfl rfl (Nat.le_of_ble_eq_true rfl) ⟨lt_r rfl, Nat.le_of_ble_eq_true rfl⟩ ?_
    refine g_if_neP (tgt := 22) dX7_copy_13 (by decide) (fun c_13 => ?_) (fun c_13 => ?_)
    · obtain ⟨p', hp', rfl, e1⟩ := in_sh c_5
      obtain ⟨q', hq', rfl, e2⟩ := in_sh c_13
      have hp2 := (ho.1 p' hp').1
      have hq2 := (ho.1 q' hq').1
      have eP : whyRow y (nI p') = if (yH y p').1 = 1 then 0 else if (yH y p').1 = 0 then 3 else 2 := by unfold whyRow; rw [if_neg (fun z => z c_5), e1]
      have eQ : whyRow y (nI q') = if (yH y q').1 = 1 then 0 else if (yH y q').1 = 0 then 3 else 2 := by unfold whyRow; rw [if_neg (fun z => z c_13), e2]
      unfold whyCopy at hw
      rw [eP, eQ, e1, e2] at hw
      refine g_aload_n dX7_copy_22 rfl rfl ?_
      refine g_getR dX7_copy_23 fl_X7_44 rfl rfl ?_
      refine g_iload_n dX7_copy_26 rfl rfl ?_
      refine g_iald dX7_copy_27 rfl rfl (by omega) ((h.1 p' hp').1) ?_
      refine g_iconst dX7_copy_28 kI_2 ?_
      refine g_icmp_eqN (tgt := 77) dX7_copy_29 (by decide) rfl rfl (by omega) (by omega) (fun c_29 => ?_) (fun c_29 => ?_)
      · refine g_aload_n dX7_copy_77 rfl rfl ?_
        refine g_bipush dX7_copy_78 kB_m2 ?_
        refine g_callVi dX7_copy_80 mi_X7_no ml_X7_100 (ct_no (w := 2) h (by decide) (by decide)) rfl rfl rfl rfl (Nat.le_of_ble_eq_true rfl) ⟨lt_r rfl, Nat.le_of_ble_eq_true rfl⟩ (fun x80 M80 h80 => ?_)
        refine g_iret dX7_copy_83 ⟨_, rfl, ?_⟩
        refine QM.rf (hw 2 ?_ (by decide)) h80
        clear hw h80
        repeat' split
        all_goals first | omega | rfl
      · refine g_aload_n dX7_copy_32 rfl rfl ?_
        refine g_getR dX7_copy_33 fl_X7_44 rfl rfl ?_
        refine g_iload_n dX7_copy_36 rfl rfl ?_
        refine g_iald dX7_copy_37 rfl rfl (by omega) ((h.1 q' hq').1) ?_
        refine g_iconst dX7_copy_38 kI_2 ?_
        refine g_icmp_eqN (tgt := 77) dX7_copy_39 (by decide) rfl rfl (by omega) (by omega) (fun c_39 => ?_) (fun c_39 => ?_)
        · refine g_aload_n dX7_copy_77 rfl rfl ?_
          refine g_bipush dX7_copy_78 kB_m2 ?_
          refine g_callVi dX7_copy_80 mi_X7_no ml_X7_100 (ct_no (w := 2) h (by decide) (by decide)) rfl rfl rfl rfl (Nat.le_of_ble_eq_true rfl) ⟨lt_r rfl, Nat.le_of_ble_eq_true rfl⟩ (fun x80 M80 h80 => ?_)
          refine g_iret dX7_copy_83 ⟨_, rfl, ?_⟩
          refine QM.rf (hw 2 ?_ (by decide)) h80
          clear hw h80
          repeat' split
          all_goals first | omega | rfl
        · refine g_aload_n dX7_copy_42 rfl rfl ?_
          refine g_getR dX7_copy_43 fl_X7_44 rfl rfl ?_
          refine g_iload_n dX7_copy_46 rfl rfl ?_
          refine g_iald dX7_copy_47 rfl rfl (by omega) ((h.1 p' hp').1) ?_
          refine g_iconst dX7_copy_48 kI_1 ?_
          refine g_icmp_neN (tgt := 84) dX7_copy_49 (by decide) rfl rfl (by omega) (by omega) (fun c_49 => ?_) (fun c_49 => ?_)
          · exact tl_mcopy h ho hp' hq' (by omega) (by omega) (by omega)
          · refine g_aload_n dX7_copy_52 rfl rfl ?_
            refine g_getR dX7_copy_53 fl_X7_44 rfl rfl ?_
            refine g_iload_n dX7_copy_56 rfl rfl ?_
            refine g_iald dX7_copy_57 rfl rfl (by omega) ((h.1 q' hq').1) ?_
            refine g_iconst dX7_copy_58 kI_1 ?_
            refine g_icmp_neN (tgt := 84) dX7_copy_59 (by decide) rfl rfl (by omega) (by omega) (fun c_59 => ?_) (fun c_59 => ?_)
            · exact tl_mcopy h ho hp' hq' (by omega) (by omega) (by omega)
            · have b3 := ((ho.1 p' hp').2.1 (by omega)).1
              have b4 := ((ho.1 q' hq').2.1 (by omega)).1
              refine g_aload_n dX7_copy_62 rfl rfl ?_
              refine g_getR dX7_copy_63 fl_X7_47 rfl rfl ?_
              refine g_iload_n dX7_copy_66 rfl rfl ?_
              refine g_iald dX7_copy_67 rfl rfl (by omega) (((h.1 p' hp').2.1 (by omega)).1) ?_
              refine g_aload_n dX7_copy_68 rfl rfl ?_
              refine g_getR dX7_copy_69 fl_X7_47 rfl rfl ?_
              refine g_iload_n dX7_copy_72 rfl rfl ?_
              refine g_iald dX7_copy_73 rfl rfl (by omega) (((h.1 q' hq').2.1 (by omega)).1) ?_
              refine g_icmp_eqN (tgt := 84) dX7_copy_74 (by decide) rfl rfl (by omega) (by omega) (fun c_74 => ?_) (fun c_74 => ?_)
              · exact tl_mcopy h ho hp' hq' (by omega) (by omega) (by omega)
              · refine g_aload_n dX7_copy_77 rfl rfl ?_
                refine g_bipush dX7_copy_78 kB_m2 ?_
                refine g_callVi dX7_copy_80 mi_X7_no ml_X7_100 (ct_no (w := 2) h (by decide) (by decide)) rfl rfl rfl rfl (Nat.le_of_ble_eq_true rfl) ⟨lt_r rfl, Nat.le_of_ble_eq_true rfl⟩ (fun x80 M80 h80 => ?_)
                refine g_iret dX7_copy_83 ⟨_, rfl, ?_⟩
                refine QM.rf (hw 2 ?_ (by decide)) h80
                clear hw h80
                repeat' split
                all_goals first | omega | rfl
    · refine g_aload_n dX7_copy_16 rfl rfl ?_
      refine g_iconst dX7_copy_17 kI_m1 ?_
      refine g_callVi dX7_copy_18 mi_X7_no ml_X7_100 (ct_no (w := 1) h (by decide) (by decide)) rfl rfl rfl rfl (Nat.le_of_ble_eq_true rfl) ⟨lt_r rfl, Nat.le_of_ble_eq_true rfl⟩ (fun x18 M18 h18 => ?_)
      refine g_iret dX7_copy_21 ⟨_, rfl, ?_⟩
      first | exact QM.rf (hw 1 (if_pos (Or.inl (if_pos c_5))) (by decide)) h18 | exact QM.rf (hw 1 (if_pos (Or.inr (if_pos c_13))) (by decide)) h18
end X7H
