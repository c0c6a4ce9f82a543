/-! the model's calls, second part -/
section X7F
variable {E : EE} {B : Nat} {M : MM}
theorem tl_msays {y : Sys} {j kd : Nat} (h : RM B M y) (ho : okY y) (hk : kd ≤ 6) (hj : j < sCn (yN y)) :
    G E B cX7_says (RX7, 6, some .int, rmD 1, 0, 0, KM E B (QM B M (if @decide _ (ofND (sBs (yN y) j).1 kd) = true then (saysI y (sBs (yN y) j) kd, y) else rz y 2))) 113 [(0, .ref (B + 80)), (2, .int (nI kd)), (3, .int (nI j)), (4, .int (nI (sBs (yN y) j).1)), (5, .int (bp ((kd = 1 ∧ (sBs (yN y) j).1 = 3) ∨ (kd = 2 ∧ (sBs (yN y) j).1 = 5) ∨ (kd = 4 ∧ (sBs (yN y) j).1 = 6))))] [] M := by
  have hcn := ho.2.1.2.2.1
  have hh := ho.2.1.2.2.2.1
  obtain ⟨o1, o2, o3, o4⟩ := ho.2.1.1 j hj
  have eT : ofN (sBs (yN y) j).1 kd → (if @decide _ (ofND (sBs (yN y) j).1 kd) = true then (saysI y (sBs (yN y) j) kd, y) else rz y 2) = (saysI y (sBs (yN y) j) kd, y) := fun z => if_pos (@decide_eq_true _ (ofND _ _) z)
  have eF : ¬ ofN (sBs (yN y) j).1 kd → (if @decide _ (ofND (sBs (yN y) j).1 kd) = true then (saysI y (sBs (yN y) j) kd, y) else rz y 2) = rz y 2 := fun z => if_neg (fun z2 => z (@of_decide_eq_true _ (ofND _ _) z2))
  have ek := nI_toInt (n := kd) (by omega)
  generalize hX : (if @decide _ (ofND (sBs (yN y) j).1 kd) = true then (saysI y (sBs (yN y) j) kd, y) else rz y 2) = X at eT eF ⊢
  clear hX
  have fin : ∀ v, ofN (sBs (yN y) j).1 kd → v = saysI y (sBs (yN y) j) kd → v = X.1 ∧ RM B M X.2 ∧ Sm B M M 80 102 := fun v z e => by
    subst e
    exact QM.p h (eT z)
  refine g_iload_n dX7_says_113 rfl rfl ?_
  refine g_if_eqN (tgt := 135) dX7_says_114 (by decide) rfl (by omega) (fun c_114 => ?_) (fun c_114 => ?_)
  · have hof : ofN (sBs (yN y) j).1 kd := by unfold ofN; omega
    refine g_iload_n dX7_says_135 rfl rfl ?_
    refine g_tblC (off := 44) (tgt := 180) dX7_says_136 0 (by decide) (by decide) (by decide) (by decide) (fun c_136_0 => ?_) (fun c_136_0 => ?_)
    · refine g_aload_n dX7_says_180 rfl rfl ?_
      refine g_getR dX7_says_181 fl_X7_35 rfl rfl ?_
      refine g_iload_n dX7_says_184 rfl rfl ?_
      refine g_iald dX7_says_185 rfl rfl (by omega) ((h.2.1.1 j hj).2.2.1) ?_
      refine g_iret dX7_says_186 ⟨_, rfl, ?_⟩
      have e9 := (nI_eq (by omega) (by decide)).mp c_136_0
      subst e9
      exact fin _ hof rfl
    refine g_tblC (off := 71) (tgt := 207) dX7_says_136 1 (by decide) (by decide) (by decide) (by decide) (fun c_136_1 => ?_) (fun c_136_1 => ?_)
    · refine g_aload_n dX7_says_207 rfl rfl ?_
      refine g_iload_n dX7_says_208 rfl rfl ?_
      refine g_iconst dX7_says_209 kI_0 ?_
      refine g_aload_n dX7_says_210 rfl rfl ?_
      refine g_getR dX7_says_211 fl_X7_35 rfl rfl ?_
      refine g_iload_n dX7_says_214 rfl rfl ?_
      refine g_iald dX7_says_215 rfl rfl (by omega) ((h.2.1.1 j hj).2.2.1) ?_
      refine g_aload_n dX7_says_216 rfl rfl ?_
      refine g_getI dX7_says_217 fl_X7_7 rfl rfl (h.2.1.2.2.2.1) ?_
      refine g_callVp dX7_says_220 mi_X7_soakOf ml_X7_104 (ct_X7_soakOf h.2.1 ho.2.1 hj (by omega) (by decide) hh) rfl rfl rfl rfl (Nat.le_of_ble_eq_true rfl) ⟨lt_r rfl, Nat.le_of_ble_eq_true rfl⟩ ?_
      refine g_iret dX7_says_223 ⟨_, rfl, ?_⟩
      refine fin _ hof ?_
      unfold saysI
      first | (have e9 := (nI_eq (by omega) (by decide)).mp c_136_1; subst e9; rfl) | (have e9 := (nI_eq (by omega) (by decide)).mp c_136_2; subst e9; rfl) | (have e9 := (nI_eq (by omega) (by decide)).mp c_136_4; subst e9; rfl) | (exfalso; omega)
    refine g_tblC (off := 71) (tgt := 207) dX7_says_136 2 (by decide) (by decide) (by decide) (by decide) (fun c_136_2 => ?_) (fun c_136_2 => ?_)
    · refine g_aload_n dX7_says_207 rfl rfl ?_
      refine g_iload_n dX7_says_208 rfl rfl ?_
      refine g_iconst dX7_says_209 kI_0 ?_
      refine g_aload_n dX7_says_210 rfl rfl ?_
      refine g_getR dX7_says_211 fl_X7_35 rfl rfl ?_
      refine g_iload_n dX7_says_214 rfl rfl ?_
      refine g_iald dX7_says_215 rfl rfl (by omega) ((h.2.1.1 j hj).2.2.1) ?_
      refine g_aload_n dX7_says_216 rfl rfl ?_
      refine g_getI dX7_says_217 fl_X7_7 rfl rfl (h.2.1.2.2.2.1) ?_
      refine g_callVp dX7_says_220 mi_X7_soakOf ml_X7_104 (ct_X7_soakOf h.2.1 ho.2.1 hj (by omega) (by decide) hh) rfl rfl rfl rfl (Nat.le_of_ble_eq_true rfl) ⟨lt_r rfl, Nat.le_of_ble_eq_true rfl⟩ ?_
      refine g_iret dX7_says_223 ⟨_, rfl, ?_⟩
      refine fin _ hof ?_
      unfold saysI
      first | (have e9 := (nI_eq (by omega) (by decide)).mp c_136_1; subst e9; rfl) | (have e9 := (nI_eq (by omega) (by decide)).mp c_136_2; subst e9; rfl) | (have e9 := (nI_eq (by omega) (by decide)).mp c_136_4; subst e9; rfl) | (exfalso; omega)
    refine g_tblC (off := 51) (tgt := 187) dX7_says_136 3 (by decide) (by decide) (by decide) (by decide) (fun c_136_3 => ?_) (fun c_136_3 => ?_)
    · refine g_aload_n dX7_says_187 rfl rfl ?_
      refine g_getR dX7_says_188 fl_X7_32 rfl rfl ?_
      refine g_iload_n dX7_says_191 rfl rfl ?_
      refine g_iald dX7_says_192 rfl rfl (by omega) ((h.2.1.1 j hj).2.1) ?_
      refine g_iret dX7_says_193 ⟨_, rfl, ?_⟩
      have e9 := (nI_eq (by omega) (by decide)).mp c_136_3
      subst e9
      exact fin _ hof rfl
    refine g_tblC (off := 71) (tgt := 207) dX7_says_136 4 (by decide) (by decide) (by decide) (by decide) (fun c_136_4 => ?_) (fun c_136_4 => ?_)
    · refine g_aload_n dX7_says_207 rfl rfl ?_
      refine g_iload_n dX7_says_208 rfl rfl ?_
      refine g_iconst dX7_says_209 kI_0 ?_
      refine g_aload_n dX7_says_210 rfl rfl ?_
      refine g_getR dX7_says_211 fl_X7_35 rfl rfl ?_
      refine g_iload_n dX7_says_214 rfl rfl ?_
      refine g_iald dX7_says_215 rfl rfl (by omega) ((h.2.1.1 j hj).2.2.1) ?_
      refine g_aload_n dX7_says_216 rfl rfl ?_
      refine g_getI dX7_says_217 fl_X7_7 rfl rfl (h.2.1.2.2.2.1) ?_
      refine g_callVp dX7_says_220 mi_X7_soakOf ml_X7_104 (ct_X7_soakOf h.2.1 ho.2.1 hj (by omega) (by decide) hh) rfl rfl rfl rfl (Nat.le_of_ble_eq_true rfl) ⟨lt_r rfl, Nat.le_of_ble_eq_true rfl⟩ ?_
      refine g_iret dX7_says_223 ⟨_, rfl, ?_⟩
      refine fin _ hof ?_
      unfold saysI
      first | (have e9 := (nI_eq (by omega) (by decide)).mp c_136_1; subst e9; rfl) | (have e9 := (nI_eq (by omega) (by decide)).mp c_136_2; subst e9; rfl) | (have e9 := (nI_eq (by omega) (by decide)).mp c_136_4; subst e9; rfl) | (exfalso; omega)
    refine g_tblC (off := 58) (tgt := 194) dX7_says_136 5 (by decide) (by decide) (by decide) (by decide) (fun c_136_5 => ?_) (fun c_136_5 => ?_)
    · refine g_bipush dX7_says_194 kB_100 ?_
      refine g_iret dX7_says_196 ⟨_, rfl, ?_⟩
      have e9 := (nI_eq (by omega) (by decide)).mp c_136_5
      subst e9
      refine fin _ hof ?_
      have e8 : (sBs (yN y) j).1 = 5 := by unfold ofN at hof; omega
      show _ = holdI (sBs (yN y) j).1 (sBs (yN y) j).2.1 0
      unfold holdI extN
      rw [e8, if_pos rfl, pk_sub (by decide)]
    refine g_tblC (off := 61) (tgt := 197) dX7_says_136 6 (by decide) (by decide) (by decide) (by decide) (fun c_136_6 => ?_) (fun c_136_6 => ?_)
    · refine g_bipush dX7_says_197 kB_50 ?_
      refine g_aload_n dX7_says_199 rfl rfl ?_
      refine g_getR dX7_says_200 fl_X7_32 rfl rfl ?_
      refine g_iload_n dX7_says_203 rfl rfl ?_
      refine g_iald dX7_says_204 rfl rfl (by omega) ((h.2.1.1 j hj).2.1) ?_
      refine g_iadd dX7_says_205 (nI_add _ _) ?_
      refine g_iret dX7_says_206 ⟨_, rfl, ?_⟩
      have e9 := (nI_eq (by omega) (by decide)).mp c_136_6
      subst e9
      refine fin _ hof ?_
      have e8 : (sBs (yN y) j).1 = 6 := by unfold ofN at hof; omega
      show _ = holdI (sBs (yN y) j).1 (sBs (yN y) j).2.1 10
      unfold holdI extN
      rw [e8, if_neg (by decide), if_pos rfl, pk_sub (by omega)]
      exact congrArg nI (by omega)
    refine g_tableOut (tgt := 207) dX7_says_136 (by skip; omega) (by decide) ?_
    refine g_aload_n dX7_says_207 rfl rfl ?_
    refine g_iload_n dX7_says_208 rfl rfl ?_
    refine g_iconst dX7_says_209 kI_0 ?_
    refine g_aload_n dX7_says_210 rfl rfl ?_
    refine g_getR dX7_says_211 fl_X7_35 rfl rfl ?_
    refine g_iload_n dX7_says_214 rfl rfl ?_
    refine g_iald dX7_says_215 rfl rfl (by omega) ((h.2.1.1 j hj).2.2.1) ?_
    refine g_aload_n dX7_says_216 rfl rfl ?_
    refine g_getI dX7_says_217 fl_X7_7 rfl rfl (h.2.1.2.2.2.1) ?_
    refine g_callVp dX7_says_220 mi_X7_soakOf ml_X7_104 (ct_X7_soakOf h.2.1 ho.2.1 hj (by omega) (by decide) hh) rfl rfl rfl rfl (Nat.le_of_ble_eq_true rfl) ⟨lt_r rfl, Nat.le_of_ble_eq_true rfl⟩ ?_
    refine g_iret dX7_says_223 ⟨_, rfl, ?_⟩
    refine fin _ hof ?_
    unfold saysI
    first | (have e9 := (nI_eq (by omega) (by decide)).mp c_136_1; subst e9; rfl) | (have e9 := (nI_eq (by omega) (by decide)).mp c_136_2; subst e9; rfl) | (have e9 := (nI_eq (by omega) (by decide)).mp c_136_4; subst e9; rfl) | (exfalso; omega)
  · refine g_iload_n dX7_says_117 rfl rfl ?_
    refine g_iload dX7_says_118 rfl ?_
    refine g_icmp_eqN (tgt := 135) dX7_says_120 (by decide) rfl rfl (by omega) (by omega) (fun c_120 => ?_) (fun c_120 => ?_)
    · have hof : ofN (sBs (yN y) j).1 kd := by unfold ofN; omega
      refine g_iload_n dX7_says_135 rfl rfl ?_
      refine g_tblC (off := 44) (tgt := 180) dX7_says_136 0 (by decide) (by decide) (by decide) (by decide) (fun c_136_0 => ?_) (fun c_136_0 => ?_)
      · refine g_aload_n dX7_says_180 rfl rfl ?_
        refine g_getR dX7_says_181 fl_X7_35 rfl rfl ?_
        refine g_iload_n dX7_says_184 rfl rfl ?_
        refine g_iald dX7_says_185 rfl rfl (by omega) ((h.2.1.1 j hj).2.2.1) ?_
        refine g_iret dX7_says_186 ⟨_, rfl, ?_⟩
        have e9 := (nI_eq (by omega) (by decide)).mp c_136_0
        subst e9
        exact fin _ hof rfl
      refine g_tblC (off := 71) (tgt := 207) dX7_says_136 1 (by decide) (by decide) (by decide) (by decide) (fun c_136_1 => ?_) (fun c_136_1 => ?_)
      · refine g_aload_n dX7_says_207 rfl rfl ?_
        refine g_iload_n dX7_says_208 rfl rfl ?_
        refine g_iconst dX7_says_209 kI_0 ?_
        refine g_aload_n dX7_says_210 rfl rfl ?_
        refine g_getR dX7_says_211 fl_X7_35 rfl rfl ?_
        refine g_iload_n dX7_says_214 rfl rfl ?_
        refine g_iald dX7_says_215 rfl rfl (by omega) ((h.2.1.1 j hj).2.2.1) ?_
        refine g_aload_n dX7_says_216 rfl rfl ?_
        refine g_getI dX7_says_217 fl_X7_7 rfl rfl (h.2.1.2.2.2.1) ?_
        refine g_callVp dX7_says_220 mi_X7_soakOf ml_X7_104 (ct_X7_soakOf h.2.1 ho.2.1 hj (by omega) (by decide) hh) rfl rfl rfl rfl (Nat.le_of_ble_eq_true rfl) ⟨lt_r rfl, Nat.le_of_ble_eq_true rfl⟩ ?_
        refine g_iret dX7_says_223 ⟨_, rfl, ?_⟩
        refine fin _ hof ?_
        unfold saysI
        first | (have e9 := (nI_eq (by omega) (by decide)).mp c_136_1; subst e9; rfl) | (have e9 := (nI_eq (by omega) (by decide)).mp c_136_2; subst e9; rfl) | (have e9 := (nI_eq (by omega) (by decide)).mp c_136_4; subst e9; rfl) | (exfalso; omega)
      refine g_tblC (off := 71) (tgt := 207) dX7_says_136 2 (by decide) (by decide) (by decide) (by decide) (fun c_136_2 => ?_) (fun c_136_2 => ?_)
      · refine g_aload_n dX7_says_207 rfl rfl ?_
        refine g_iload_n dX7_says_208 rfl rfl ?_
        refine g_iconst dX7_says_209 kI_0 ?_
        refine g_aload_n dX7_says_210 rfl rfl ?_
        refine g_getR dX7_says_211 fl_X7_35 rfl rfl ?_
        refine g_iload_n dX7_says_214 rfl rfl ?_
        refine g_iald dX7_says_215 rfl rfl (by omega) ((h.2.1.1 j hj).2.2.1) ?_
        refine g_aload_n dX7_says_216 rfl rfl ?_
        refine g_getI dX7_says_217 fl_X7_7 rfl rfl (h.2.1.2.2.2.1) ?_
        refine g_callVp dX7_says_220 mi_X7_soakOf ml_X7_104 (ct_X7_soakOf h.2.1 ho.2.1 hj (by omega) (by decide) hh) rfl rfl rfl rfl (Nat.le_of_ble_eq_true rfl) ⟨lt_r rfl, Nat.le_of_ble_eq_true rfl⟩ ?_
        refine g_iret dX7_says_223 ⟨_, rfl, ?_⟩
        refine fin _ hof ?_
        unfold saysI
        first | (have e9 := (nI_eq (by omega) (by decide)).mp c_136_1; subst e9; rfl) | (have e9 := (nI_eq (by omega) (by decide)).mp c_136_2; subst e9; rfl) | (have e9 := (nI_eq (by omega) (by decide)).mp c_136_4; subst e9; rfl) | (exfalso; omega)
      refine g_tblC (off := 51) (tgt := 187) dX7_says_136 3 (by decide) (by decide) (by decide) (by decide) (fun c_136_3 => ?_) (fun c_136_3 => ?_)
      · refine g_aload_n dX7_says_187 rfl rfl ?_
        refine g_getR dX7_says_188 fl_X7_32 rfl rfl ?_
        refine g_iload_n dX7_says_191 rfl rfl ?_
        refine g_iald dX7_says_192 rfl rfl (by omega) ((h.2.1.1 j hj).2.1) ?_
        refine g_iret dX7_says_193 ⟨_, rfl, ?_⟩
        have e9 := (nI_eq (by omega) (by decide)).mp c_136_3
        subst e9
        exact fin _ hof rfl
      refine g_tblC (off := 71) (tgt := 207) dX7_says_136 4 (by decide) (by decide) (by decide) (by decide) (fun c_136_4 => ?_) (fun c_136_4 => ?_)
      · refine g_aload_n dX7_says_207 rfl rfl ?_
        refine g_iload_n dX7_says_208 rfl rfl ?_
        refine g_iconst dX7_says_209 kI_0 ?_
        refine g_aload_n dX7_says_210 rfl rfl ?_
        refine g_getR dX7_says_211 fl_X7_35 rfl rfl ?_
        refine g_iload_n dX7_says_214 rfl rfl ?_
        refine g_iald dX7_says_215 rfl rfl (by omega) ((h.2.1.1 j hj).2.2.1) ?_
        refine g_aload_n dX7_says_216 rfl rfl ?_
        refine g_getI dX7_says_217 fl_X7_7 rfl rfl (h.2.1.2.2.2.1) ?_
        refine g_callVp dX7_says_220 mi_X7_soakOf ml_X7_104 (ct_X7_soakOf h.2.1 ho.2.1 hj (by omega) (by decide) hh) rfl rfl rfl rfl (Nat.le_of_ble_eq_true rfl) ⟨lt_r rfl, Nat.le_of_ble_eq_true rfl⟩ ?_
        refine g_iret dX7_says_223 ⟨_, rfl, ?_⟩
        refine fin _ hof ?_
        unfold saysI
        first | (have e9 := (nI_eq (by omega) (by decide)).mp c_136_1; subst e9; rfl) | (have e9 := (nI_eq (by omega) (by decide)).mp c_136_2; subst e9; rfl) | (have e9 := (nI_eq (by omega) (by decide)).mp c_136_4; subst e9; rfl) | (exfalso; omega)
      refine g_tblC (off := 58) (tgt := 194) dX7_says_136 5 (by decide) (by decide) (by decide) (by decide) (fun c_136_5 => ?_) (fun c_136_5 => ?_)
      · refine g_bipush dX7_says_194 kB_100 ?_
        refine g_iret dX7_says_196 ⟨_, rfl, ?_⟩
        have e9 := (nI_eq (by omega) (by decide)).mp c_136_5
        subst e9
        refine fin _ hof ?_
        have e8 : (sBs (yN y) j).1 = 5 := by unfold ofN at hof; omega
        show _ = holdI (sBs (yN y) j).1 (sBs (yN y) j).2.1 0
        unfold holdI extN
        rw [e8, if_pos rfl, pk_sub (by decide)]
      refine g_tblC (off := 61) (tgt := 197) dX7_says_136 6 (by decide) (by decide) (by decide) (by decide) (fun c_136_6 => ?_) (fun c_136_6 => ?_)
      · refine g_bipush dX7_says_197 kB_50 ?_
        refine g_aload_n dX7_says_199 rfl rfl ?_
        refine g_getR dX7_says_200 fl_X7_32 rfl rfl ?_
        refine g_iload_n dX7_says_203 rfl rfl ?_
        refine g_iald dX7_says_204 rfl rfl (by omega) ((h.2.1.1 j hj).2.1) ?_
        refine g_iadd dX7_says_205 (nI_add _ _) ?_
        refine g_iret dX7_says_206 ⟨_, rfl, ?_⟩
        have e9 := (nI_eq (by omega) (by decide)).mp c_136_6
        subst e9
        refine fin _ hof ?_
        have e8 : (sBs (yN y) j).1 = 6 := by unfold ofN at hof; omega
        show _ = holdI (sBs (yN y) j).1 (sBs (yN y) j).2.1 10
        unfold holdI extN
        rw [e8, if_neg (by decide), if_pos rfl, pk_sub (by omega)]
        exact congrArg nI (by omega)
      refine g_tableOut (tgt := 207) dX7_says_136 (by skip; omega) (by decide) ?_
      refine g_aload_n dX7_says_207 rfl rfl ?_
      refine g_iload_n dX7_says_208 rfl rfl ?_
      refine g_iconst dX7_says_209 kI_0 ?_
      refine g_aload_n dX7_says_210 rfl rfl ?_
      refine g_getR dX7_says_211 fl_X7_35 rfl rfl ?_
      refine g_iload_n dX7_says_214 rfl rfl ?_
      refine g_iald dX7_says_215 rfl rfl (by omega) ((h.2.1.1 j hj).2.2.1) ?_
      refine g_aload_n dX7_says_216 rfl rfl ?_
      refine g_getI dX7_says_217 fl_X7_7 rfl rfl (h.2.1.2.2.2.1) ?_
      refine g_callVp dX7_says_220 mi_X7_soakOf ml_X7_104 (ct_X7_soakOf h.2.1 ho.2.1 hj (by omega) (by decide) hh) rfl rfl rfl rfl (Nat.le_of_ble_eq_true rfl) ⟨lt_r rfl, Nat.le_of_ble_eq_true rfl⟩ ?_
      refine g_iret dX7_says_223 ⟨_, rfl, ?_⟩
      refine fin _ hof ?_
      unfold saysI
      first | (have e9 := (nI_eq (by omega) (by decide)).mp c_136_1; subst e9; rfl) | (have e9 := (nI_eq (by omega) (by decide)).mp c_136_2; subst e9; rfl) | (have e9 := (nI_eq (by omega) (by decide)).mp c_136_4; subst e9; rfl) | (exfalso; omega)
    · refine g_iload dX7_says_123 rfl ?_
      refine g_if_neP (tgt := 135) dX7_says_125 (by decide) (fun c_125 => ?_) (fun c_125 => ?_)
      · have hof : ofN (sBs (yN y) j).1 kd := by unfold ofN; omega
        refine g_iload_n dX7_says_135 rfl rfl ?_
        refine g_tblC (off := 44) (tgt := 180) dX7_says_136 0 (by decide) (by decide) (by decide) (by decide) (fun c_136_0 => ?_) (fun c_136_0 => ?_)
        · refine g_aload_n dX7_says_180 rfl rfl ?_
          refine g_getR dX7_says_181 fl_X7_35 rfl rfl ?_
          refine g_iload_n dX7_says_184 rfl rfl ?_
          refine g_iald dX7_says_185 rfl rfl (by omega) ((h.2.1.1 j hj).2.2.1) ?_
          refine g_iret dX7_says_186 ⟨_, rfl, ?_⟩
          have e9 := (nI_eq (by omega) (by decide)).mp c_136_0
          subst e9
          exact fin _ hof rfl
        refine g_tblC (off := 71) (tgt := 207) dX7_says_136 1 (by decide) (by decide) (by decide) (by decide) (fun c_136_1 => ?_) (fun c_136_1 => ?_)
        · refine g_aload_n dX7_says_207 rfl rfl ?_
          refine g_iload_n dX7_says_208 rfl rfl ?_
          refine g_iconst dX7_says_209 kI_0 ?_
          refine g_aload_n dX7_says_210 rfl rfl ?_
          refine g_getR dX7_says_211 fl_X7_35 rfl rfl ?_
          refine g_iload_n dX7_says_214 rfl rfl ?_
          refine g_iald dX7_says_215 rfl rfl (by omega) ((h.2.1.1 j hj).2.2.1) ?_
          refine g_aload_n dX7_says_216 rfl rfl ?_
          refine g_getI dX7_says_217 fl_X7_7 rfl rfl (h.2.1.2.2.2.1) ?_
          refine g_callVp dX7_says_220 mi_X7_soakOf ml_X7_104 (ct_X7_soakOf h.2.1 ho.2.1 hj (by omega) (by decide) hh) rfl rfl rfl rfl (Nat.le_of_ble_eq_true rfl) ⟨lt_r rfl, Nat.le_of_ble_eq_true rfl⟩ ?_
          refine g_iret dX7_says_223 ⟨_, rfl, ?_⟩
          refine fin _ hof ?_
          unfold saysI
          first | (have e9 := (nI_eq (by omega) (by decide)).mp c_136_1; subst e9; rfl) | (have e9 := (nI_eq (by omega) (by decide)).mp c_136_2; subst e9; rfl) | (have e9 := (nI_eq (by omega) (by decide)).mp c_136_4; subst e9; rfl) | (exfalso; omega)
        refine g_tblC (off := 71) (tgt := 207) dX7_says_136 2 (by decide) (by decide) (by decide) (by decide) (fun c_136_2 => ?_) (fun c_136_2 => ?_)
        · refine g_aload_n dX7_says_207 rfl rfl ?_
          refine g_iload_n dX7_says_208 rfl rfl ?_
          refine g_iconst dX7_says_209 kI_0 ?_
          refine g_aload_n dX7_says_210 rfl rfl ?_
          refine g_getR dX7_says_211 fl_X7_35 rfl rfl ?_
          refine g_iload_n dX7_says_214 rfl rfl ?_
          refine g_iald dX7_says_215 rfl rfl (by omega) ((h.2.1.1 j hj).2.2.1) ?_
          refine g_aload_n dX7_says_216 rfl rfl ?_
          refine g_getI dX7_says_217 fl_X7_7 rfl rfl (h.2.1.2.2.2.1) ?_
          refine g_callVp dX7_says_220 mi_X7_soakOf ml_X7_104 (ct_X7_soakOf h.2.1 ho.2.1 hj (by omega) (by decide) hh) rfl rfl rfl rfl (Nat.le_of_ble_eq_true rfl) ⟨lt_r rfl, Nat.le_of_ble_eq_true rfl⟩ ?_
          refine g_iret dX7_says_223 ⟨_, rfl, ?_⟩
          refine fin _ hof ?_
          unfold saysI
          first | (have e9 := (nI_eq (by omega) (by decide)).mp c_136_1; subst e9; rfl) | (have e9 := (nI_eq (by omega) (by decide)).mp c_136_2; subst e9; rfl) | (have e9 := (nI_eq (by omega) (by decide)).mp c_136_4; subst e9; rfl) | (exfalso; omega)
        refine g_tblC (off := 51) (tgt := 187) dX7_says_136 3 (by decide) (by decide) (by decide) (by decide) (fun c_136_3 => ?_) (fun c_136_3 => ?_)
        · refine g_aload_n dX7_says_187 rfl rfl ?_
          refine g_getR dX7_says_188 fl_X7_32 rfl rfl ?_
          refine g_iload_n dX7_says_191 rfl rfl ?_
          refine g_iald dX7_says_192 rfl rfl (by omega) ((h.2.1.1 j hj).2.1) ?_
          refine g_iret dX7_says_193 ⟨_, rfl, ?_⟩
          have e9 := (nI_eq (by omega) (by decide)).mp c_136_3
          subst e9
          exact fin _ hof rfl
        refine g_tblC (off := 71) (tgt := 207) dX7_says_136 4 (by decide) (by decide) (by decide) (by decide) (fun c_136_4 => ?_) (fun c_136_4 => ?_)
        · refine g_aload_n dX7_says_207 rfl rfl ?_
          refine g_iload_n dX7_says_208 rfl rfl ?_
          refine g_iconst dX7_says_209 kI_0 ?_
          refine g_aload_n dX7_says_210 rfl rfl ?_
          refine g_getR dX7_says_211 fl_X7_35 rfl rfl ?_
          refine g_iload_n dX7_says_214 rfl rfl ?_
          refine g_iald dX7_says_215 rfl rfl (by omega) ((h.2.1.1 j hj).2.2.1) ?_
          refine g_aload_n dX7_says_216 rfl rfl ?_
          refine g_getI dX7_says_217 fl_X7_7 rfl rfl (h.2.1.2.2.2.1) ?_
          refine g_callVp dX7_says_220 mi_X7_soakOf ml_X7_104 (ct_X7_soakOf h.2.1 ho.2.1 hj (by omega) (by decide) hh) rfl rfl rfl rfl (Nat.le_of_ble_eq_true rfl) ⟨lt_r rfl, Nat.le_of_ble_eq_true rfl⟩ ?_
          refine g_iret dX7_says_223 ⟨_, rfl, ?_⟩
          refine fin _ hof ?_
          unfold saysI
          first | (have e9 := (nI_eq (by omega) (by decide)).mp c_136_1; subst e9; rfl) | (have e9 := (nI_eq (by omega) (by decide)).mp c_136_2; subst e9; rfl) | (have e9 := (nI_eq (by omega) (by decide)).mp c_136_4; subst e9; rfl) | (exfalso; omega)
        refine g_tblC (off := 58) (tgt := 194) dX7_says_136 5 (by decide) (by decide) (by decide) (by decide) (fun c_136_5 => ?_) (fun c_136_5 => ?_)
        · refine g_bipush dX7_says_194 kB_100 ?_
          refine g_iret dX7_says_196 ⟨_, rfl, ?_⟩
          have e9 := (nI_eq (by omega) (by decide)).mp c_136_5
          subst e9
          refine fin _ hof ?_
          have e8 : (sBs (yN y) j).1 = 5 := by unfold ofN at hof; omega
          show _ = holdI (sBs (yN y) j).1 (sBs (yN y) j).2.1 0
          unfold holdI extN
          rw [e8, if_pos rfl, pk_sub (by decide)]
        refine g_tblC (off := 61) (tgt := 197) dX7_says_136 6 (by decide) (by decide) (by decide) (by decide) (fun c_136_6 => ?_) (fun c_136_6 => ?_)
        · refine g_bipush dX7_says_197 kB_50 ?_
          refine g_aload_n dX7_says_199 rfl rfl ?_
          refine g_getR dX7_says_200 fl_X7_32 rfl rfl ?_
          refine g_iload_n dX7_says_203 rfl rfl ?_
          refine g_iald dX7_says_204 rfl rfl (by omega) ((h.2.1.1 j hj).2.1) ?_
          refine g_iadd dX7_says_205 (nI_add _ _) ?_
          refine g_iret dX7_says_206 ⟨_, rfl, ?_⟩
          have e9 := (nI_eq (by omega) (by decide)).mp c_136_6
          subst e9
          refine fin _ hof ?_
          have e8 : (sBs (yN y) j).1 = 6 := by unfold ofN at hof; omega
          show _ = holdI (sBs (yN y) j).1 (sBs (yN y) j).2.1 10
          unfold holdI extN
          rw [e8, if_neg (by decide), if_pos rfl, pk_sub (by omega)]
          exact congrArg nI (by omega)
        refine g_tableOut (tgt := 207) dX7_says_136 (by skip; omega) (by decide) ?_
        refine g_aload_n dX7_says_207 rfl rfl ?_
        refine g_iload_n dX7_says_208 rfl rfl ?_
        refine g_iconst dX7_says_209 kI_0 ?_
        refine g_aload_n dX7_says_210 rfl rfl ?_
        refine g_getR dX7_says_211 fl_X7_35 rfl rfl ?_
        refine g_iload_n dX7_says_214 rfl rfl ?_
        refine g_iald dX7_says_215 rfl rfl (by omega) ((h.2.1.1 j hj).2.2.1) ?_
        refine g_aload_n dX7_says_216 rfl rfl ?_
        refine g_getI dX7_says_217 fl_X7_7 rfl rfl (h.2.1.2.2.2.1) ?_
        refine g_callVp dX7_says_220 mi_X7_soakOf ml_X7_104 (ct_X7_soakOf h.2.1 ho.2.1 hj (by omega) (by decide) hh) rfl rfl rfl rfl (Nat.le_of_ble_eq_true rfl) ⟨lt_r rfl, Nat.le_of_ble_eq_true rfl⟩ ?_
        refine g_iret dX7_says_223 ⟨_, rfl, ?_⟩
        refine fin _ hof ?_
        unfold saysI
        first | (have e9 := (nI_eq (by omega) (by decide)).mp c_136_1; subst e9; rfl) | (have e9 := (nI_eq (by omega) (by decide)).mp c_136_2; subst e9; rfl) | (have e9 := (nI_eq (by omega) (by decide)).mp c_136_4; subst e9; rfl) | (exfalso; omega)
      · refine g_aload_n dX7_says_128 rfl rfl ?_
        refine g_bipush dX7_says_129 kB_m2 ?_
        refine g_callVi dX7_says_131 mi_X7_no ml_X7_100 (ct_no (w := 2) h (by decide) (by decide)) rfl rfl rfl rfl (Nat.le_of_ble_eq_true rfl) ⟨lt_r rfl, Nat.le_of_ble_eq_true rfl⟩ (fun x131 M131 h131 => ?_)
        refine g_iret dX7_says_134 ⟨_, rfl, ?_⟩
        exact QM.rf (eF (by unfold ofN; omega)) h131
theorem mx_says {y : Sys} {s kd : Int32} (h : RM B M y) (ho : okY y) : Ct E B yX7_says cX7_says 6 (some .int) 1 [.ref (B + 80), .int s, .int kd] M (QM B M (o_says y s kd)) := by
  have hcn := ho.2.1.2.2.1
  refine Ct.of2 (own := RX7) (lv := [(0, .ref (B + 80)), (1, .int s), (2, .int kd)]) pn_X7 rfl (Nat.le_of_ble_eq_true rfl) rfl ?_
  refine g_aload_n dX7_says_0 rfl rfl ?_
  refine g_iload_n dX7_says_1 rfl rfl ?_
  refine g_callVp dX7_says_2 mi_X7_isShelf ml_X7_97 (ct_X7_isShelf) rfl rfl rfl rfl (Nat.le_of_ble_eq_true rfl) ⟨lt_r rfl, Nat.le_of_ble_eq_true rfl⟩ ?_
  refine g_if_eqP (tgt := 18) dX7_says_5 (by decide) (fun c_5 => ?_) (fun c_5 => ?_)
  · refine g_aload_n dX7_says_18 rfl rfl ?_
    refine g_iconst dX7_says_19 kI_m1 ?_
    refine g_callVi dX7_says_20 mi_X7_no ml_X7_100 (ct_no (w := 1) h (by decide) (by decide)) rfl rfl rfl rfl (Nat.le_of_ble_eq_true rfl) ⟨lt_r rfl, Nat.le_of_ble_eq_true rfl⟩ (fun x20 M20 h20 => ?_)
    refine g_iret dX7_says_23 ⟨_, rfl, ?_⟩
    first | exact QM.rf (if_pos c_5) h20 | exact QM.rf (by unfold o_says; rw [if_neg (fun z => z c_5), if_pos (fun z => Int32.not_lt.mpr z.1 c_9)]) h20 | exact QM.rf (by unfold o_says; rw [if_neg (fun z => z c_5), if_pos (fun z => c_15 z.2)]) h20
  · refine g_iload_n dX7_says_8 rfl rfl ?_
    refine g_if_lt (tgt := 18) dX7_says_9 (by decide) (fun c_9 => ?_) (fun c_9 => ?_)
    · refine g_aload_n dX7_says_18 rfl rfl ?_
      refine g_iconst dX7_says_19 kI_m1 ?_
      refine g_callVi dX7_says_20 mi_X7_no ml_X7_100 (ct_no (w := 1) h (by decide) (by decide)) rfl rfl rfl rfl (Nat.le_of_ble_eq_true rfl) ⟨lt_r rfl, Nat.le_of_ble_eq_true rfl⟩ (fun x20 M20 h20 => ?_)
      refine g_iret dX7_says_23 ⟨_, rfl, ?_⟩
      first | exact QM.rf (if_pos c_5) h20 | exact QM.rf (by unfold o_says; rw [if_neg (fun z => z c_5), if_pos (fun z => Int32.not_lt.mpr z.1 c_9)]) h20 | exact QM.rf (by unfold o_says; rw [if_neg (fun z => z c_5), if_pos (fun z => c_15 z.2)]) h20
    · refine g_iload_n dX7_says_12 rfl rfl ?_
      refine g_bipush dX7_says_13 kB_6 ?_
      refine g_icmp_le (tgt := 24) dX7_says_15 (by decide) (fun c_15 => ?_) (fun c_15 => ?_)
      · have hkk : nI 0 ≤ kd ∧ kd ≤ nI 6 := ⟨Int32.not_lt.mp c_9, c_15⟩
        obtain ⟨q, hq, rfl, e1⟩ := in_sh c_5
        obtain ⟨kd', -, hkd, rfl, e2⟩ := btw_n (by decide) (by decide) hkk
        have h2 := (ho.1 q hq).1
        refine g_aload_n dX7_says_24 rfl rfl ?_
        refine g_getR dX7_says_25 fl_X7_44 rfl rfl ?_
        refine g_iload_n dX7_says_28 rfl rfl ?_
        refine g_iald dX7_says_29 rfl rfl (by omega) ((h.1 q hq).1) ?_
        refine g_iconst dX7_says_30 kI_1 ?_
        refine g_icmp_neN (tgt := 41) dX7_says_31 (by decide) rfl rfl (by omega) (by omega) (fun c_31 => ?_) (fun c_31 => ?_)
        · refine g_aload_n dX7_says_41 rfl rfl ?_
          refine g_getR dX7_says_42 fl_X7_44 rfl rfl ?_
          refine g_iload_n dX7_says_45 rfl rfl ?_
          refine g_iald dX7_says_46 rfl rfl (by omega) ((h.1 q hq).1) ?_
          refine g_if_neN (tgt := 57) dX7_says_47 (by decide) rfl (by omega) (fun c_47 => ?_) (fun c_47 => ?_)
          · have z2 : (yH y q).1 = 2 := by omega
            have hb := (ho.1 q hq).2.2 z2
            have o1 := (ho.2.1.1 _ hb).1
            have e9 : o_says y (nI q) (nI kd') = _ := (if_neg (fun z => z c_5)).trans ((if_neg (fun z => z hkk)).trans ((if_neg (by rw [e1]; omega)).trans (if_neg (by rw [e1]; omega))))
            rw [e9, e1, e2]
            refine g_aload_n dX7_says_57 rfl rfl ?_
            refine g_getR dX7_says_58 fl_X7_53 rfl rfl ?_
            refine g_iload_n dX7_says_61 rfl rfl ?_
            refine g_iald dX7_says_62 rfl rfl (by omega) ((h.1 q hq).2.2 z2) ?_
            refine g_istore_n dX7_says_63 rfl (lt_r rfl) rfl ?_
            refine g_aload_n dX7_says_64 rfl rfl ?_
            refine g_getR dX7_says_65 fl_X7_29 rfl rfl ?_
            refine g_iload_n dX7_says_68 rfl rfl ?_
            refine g_iald dX7_says_69 rfl rfl (by omega) ((h.2.1.1 _ hb).1) ?_
            refine g_istore dX7_says_70 (lt_r rfl) rfl ?_
            refine g_iload_n dX7_says_72 rfl rfl ?_
            refine g_iconst dX7_says_73 kI_1 ?_
            refine g_icmp_neN (tgt := 83) dX7_says_74 (by decide) rfl rfl (by omega) (by omega) (fun c_74 => ?_) (fun c_74 => ?_)
            · refine g_iload_n dX7_says_83 rfl rfl ?_
              refine g_iconst dX7_says_84 kI_2 ?_
              refine g_icmp_neN (tgt := 94) dX7_says_85 (by decide) rfl rfl (by omega) (by omega) (fun c_85 => ?_) (fun c_85 => ?_)
              · refine g_iload_n dX7_says_94 rfl rfl ?_
                refine g_iconst dX7_says_95 kI_4 ?_
                refine g_icmp_neN (tgt := 110) dX7_says_96 (by decide) rfl rfl (by omega) (by omega) (fun c_96 => ?_) (fun c_96 => ?_)
                · refine g_iconst dX7_says_110 kI_0 ?_
                  refine g_istore dX7_says_111 (lt_r rfl) rfl ?_
                  first | exact g_le (lvLe_c rfl (lvLe_c rfl (lvLe_c rfl (lvLe_c rfl (lvLe_c (by exact congrArg (fun z => some (Value.int z)) (bp_t (by omega))) lvLe_0))))) (tl_msays h ho hkd hb) | exact g_le (lvLe_c rfl (lvLe_c rfl (lvLe_c rfl (lvLe_c rfl (lvLe_c (by exact congrArg (fun z => some (Value.int z)) (bp_f (by omega))) lvLe_0))))) (tl_msays h ho hkd hb)
                · refine g_iload dX7_says_99 rfl ?_
                  refine g_bipush dX7_says_101 kB_6 ?_
                  refine g_icmp_neN (tgt := 110) dX7_says_103 (by decide) rfl rfl (by omega) (by omega) (fun c_103 => ?_) (fun c_103 => ?_)
                  · refine g_iconst dX7_says_110 kI_0 ?_
                    refine g_istore dX7_says_111 (lt_r rfl) rfl ?_
                    first | exact g_le (lvLe_c rfl (lvLe_c rfl (lvLe_c rfl (lvLe_c rfl (lvLe_c (by exact congrArg (fun z => some (Value.int z)) (bp_t (by omega))) lvLe_0))))) (tl_msays h ho hkd hb) | exact g_le (lvLe_c rfl (lvLe_c rfl (lvLe_c rfl (lvLe_c rfl (lvLe_c (by exact congrArg (fun z => some (Value.int z)) (bp_f (by omega))) lvLe_0))))) (tl_msays h ho hkd hb)
                  · refine g_iconst dX7_says_106 kI_1 ?_
                    refine g_goto (tgt := 111) dX7_says_107 (by decide) ?_
                    refine g_istore dX7_says_111 (lt_r rfl) rfl ?_
                    first | exact g_le (lvLe_c rfl (lvLe_c rfl (lvLe_c rfl (lvLe_c rfl (lvLe_c (by exact congrArg (fun z => some (Value.int z)) (bp_t (by omega))) lvLe_0))))) (tl_msays h ho hkd hb) | exact g_le (lvLe_c rfl (lvLe_c rfl (lvLe_c rfl (lvLe_c rfl (lvLe_c (by exact congrArg (fun z => some (Value.int z)) (bp_f (by omega))) lvLe_0))))) (tl_msays h ho hkd hb)
              · refine g_iload dX7_says_88 rfl ?_
                refine g_iconst dX7_says_90 kI_5 ?_
                refine g_icmp_eqN (tgt := 106) dX7_says_91 (by decide) rfl rfl (by omega) (by omega) (fun c_91 => ?_) (fun c_91 => ?_)
                · refine g_iconst dX7_says_106 kI_1 ?_
                  refine g_goto (tgt := 111) dX7_says_107 (by decide) ?_
                  refine g_istore dX7_says_111 (lt_r rfl) rfl ?_
                  first | exact g_le (lvLe_c rfl (lvLe_c rfl (lvLe_c rfl (lvLe_c rfl (lvLe_c (by exact congrArg (fun z => some (Value.int z)) (bp_t (by omega))) lvLe_0))))) (tl_msays h ho hkd hb) | exact g_le (lvLe_c rfl (lvLe_c rfl (lvLe_c rfl (lvLe_c rfl (lvLe_c (by exact congrArg (fun z => some (Value.int z)) (bp_f (by omega))) lvLe_0))))) (tl_msays h ho hkd hb)
                · refine g_iload_n dX7_says_94 rfl rfl ?_
                  refine g_iconst dX7_says_95 kI_4 ?_
                  refine g_icmp_neN (tgt := 110) dX7_says_96 (by decide) rfl rfl (by omega) (by omega) (fun c_96 => ?_) (fun c_96 => ?_)
                  · refine g_iconst dX7_says_110 kI_0 ?_
                    refine g_istore dX7_says_111 (lt_r rfl) rfl ?_
                    first | exact g_le (lvLe_c rfl (lvLe_c rfl (lvLe_c rfl (lvLe_c rfl (lvLe_c (by exact congrArg (fun z => some (Value.int z)) (bp_t (by omega))) lvLe_0))))) (tl_msays h ho hkd hb) | exact g_le (lvLe_c rfl (lvLe_c rfl (lvLe_c rfl (lvLe_c rfl (lvLe_c (by exact congrArg (fun z => some (Value.int z)) (bp_f (by omega))) lvLe_0))))) (tl_msays h ho hkd hb)
                  · refine g_iload dX7_says_99 rfl ?_
                    refine g_bipush dX7_says_101 kB_6 ?_
                    refine g_icmp_neN (tgt := 110) dX7_says_103 (by decide) rfl rfl (by omega) (by omega) (fun c_103 => ?_) (fun c_103 => ?_)
                    · refine g_iconst dX7_says_110 kI_0 ?_
                      refine g_istore dX7_says_111 (lt_r rfl) rfl ?_
                      first | exact g_le (lvLe_c rfl (lvLe_c rfl (lvLe_c rfl (lvLe_c rfl (lvLe_c (by exact congrArg (fun z => some (Value.int z)) (bp_t (by omega))) lvLe_0))))) (tl_msays h ho hkd hb) | exact g_le (lvLe_c rfl (lvLe_c rfl (lvLe_c rfl (lvLe_c rfl (lvLe_c (by exact congrArg (fun z => some (Value.int z)) (bp_f (by omega))) lvLe_0))))) (tl_msays h ho hkd hb)
                    · refine g_iconst dX7_says_106 kI_1 ?_
                      refine g_goto (tgt := 111) dX7_says_107 (by decide) ?_
                      refine g_istore dX7_says_111 (lt_r rfl) rfl ?_
                      first | exact g_le (lvLe_c rfl (lvLe_c rfl (lvLe_c rfl (lvLe_c rfl (lvLe_c (by exact congrArg (fun z => some (Value.int z)) (bp_t (by omega))) lvLe_0))))) (tl_msays h ho hkd hb) | exact g_le (lvLe_c rfl (lvLe_c rfl (lvLe_c rfl (lvLe_c rfl (lvLe_c (by exact congrArg (fun z => some (Value.int z)) (bp_f (by omega))) lvLe_0))))) (tl_msays h ho hkd hb)
            · refine g_iload dX7_says_77 rfl ?_
              refine g_iconst dX7_says_79 kI_3 ?_
              refine g_icmp_eqN (tgt := 106) dX7_says_80 (by decide) rfl rfl (by omega) (by omega) (fun c_80 => ?_) (fun c_80 => ?_)
              · refine g_iconst dX7_says_106 kI_1 ?_
                refine g_goto (tgt := 111) dX7_says_107 (by decide) ?_
                refine g_istore dX7_says_111 (lt_r rfl) rfl ?_
                first | exact g_le (lvLe_c rfl (lvLe_c rfl (lvLe_c rfl (lvLe_c rfl (lvLe_c (by exact congrArg (fun z => some (Value.int z)) (bp_t (by omega))) lvLe_0))))) (tl_msays h ho hkd hb) | exact g_le (lvLe_c rfl (lvLe_c rfl (lvLe_c rfl (lvLe_c rfl (lvLe_c (by exact congrArg (fun z => some (Value.int z)) (bp_f (by omega))) lvLe_0))))) (tl_msays h ho hkd hb)
              · refine g_iload_n dX7_says_83 rfl rfl ?_
                refine g_iconst dX7_says_84 kI_2 ?_
                refine g_icmp_neN (tgt := 94) dX7_says_85 (by decide) rfl rfl (by omega) (by omega) (fun c_85 => ?_) (fun c_85 => ?_)
                · refine g_iload_n dX7_says_94 rfl rfl ?_
                  refine g_iconst dX7_says_95 kI_4 ?_
                  refine g_icmp_neN (tgt := 110) dX7_says_96 (by decide) rfl rfl (by omega) (by omega) (fun c_96 => ?_) (fun c_96 => ?_)
                  · refine g_iconst dX7_says_110 kI_0 ?_
                    refine g_istore dX7_says_111 (lt_r rfl) rfl ?_
                    first | exact g_le (lvLe_c rfl (lvLe_c rfl (lvLe_c rfl (lvLe_c rfl (lvLe_c (by exact congrArg (fun z => some (Value.int z)) (bp_t (by omega))) lvLe_0))))) (tl_msays h ho hkd hb) | exact g_le (lvLe_c rfl (lvLe_c rfl (lvLe_c rfl (lvLe_c rfl (lvLe_c (by exact congrArg (fun z => some (Value.int z)) (bp_f (by omega))) lvLe_0))))) (tl_msays h ho hkd hb)
                  · refine g_iload dX7_says_99 rfl ?_
                    refine g_bipush dX7_says_101 kB_6 ?_
                    refine g_icmp_neN (tgt := 110) dX7_says_103 (by decide) rfl rfl (by omega) (by omega) (fun c_103 => ?_) (fun c_103 => ?_)
                    · refine g_iconst dX7_says_110 kI_0 ?_
                      refine g_istore dX7_says_111 (lt_r rfl) rfl ?_
                      first | exact g_le (lvLe_c rfl (lvLe_c rfl (lvLe_c rfl (lvLe_c rfl (lvLe_c (by exact congrArg (fun z => some (Value.int z)) (bp_t (by omega))) lvLe_0))))) (tl_msays h ho hkd hb) | exact g_le (lvLe_c rfl (lvLe_c rfl (lvLe_c rfl (lvLe_c rfl (lvLe_c (by exact congrArg (fun z => some (Value.int z)) (bp_f (by omega))) lvLe_0))))) (tl_msays h ho hkd hb)
                    · refine g_iconst dX7_says_106 kI_1 ?_
                      refine g_goto (tgt := 111) dX7_says_107 (by decide) ?_
                      refine g_istore dX7_says_111 (lt_r rfl) rfl ?_
                      first | exact g_le (lvLe_c rfl (lvLe_c rfl (lvLe_c rfl (lvLe_c rfl (lvLe_c (by exact congrArg (fun z => some (Value.int z)) (bp_t (by omega))) lvLe_0))))) (tl_msays h ho hkd hb) | exact g_le (lvLe_c rfl (lvLe_c rfl (lvLe_c rfl (lvLe_c rfl (lvLe_c (by exact congrArg (fun z => some (Value.int z)) (bp_f (by omega))) lvLe_0))))) (tl_msays h ho hkd hb)
                · refine g_iload dX7_says_88 rfl ?_
                  refine g_iconst dX7_says_90 kI_5 ?_
                  refine g_icmp_eqN (tgt := 106) dX7_says_91 (by decide) rfl rfl (by omega) (by omega) (fun c_91 => ?_) (fun c_91 => ?_)
                  · refine g_iconst dX7_says_106 kI_1 ?_
                    refine g_goto (tgt := 111) dX7_says_107 (by decide) ?_
                    refine g_istore dX7_says_111 (lt_r rfl) rfl ?_
                    first | exact g_le (lvLe_c rfl (lvLe_c rfl (lvLe_c rfl (lvLe_c rfl (lvLe_c (by exact congrArg (fun z => some (Value.int z)) (bp_t (by omega))) lvLe_0))))) (tl_msays h ho hkd hb) | exact g_le (lvLe_c rfl (lvLe_c rfl (lvLe_c rfl (lvLe_c rfl (lvLe_c (by exact congrArg (fun z => some (Value.int z)) (bp_f (by omega))) lvLe_0))))) (tl_msays h ho hkd hb)
                  · refine g_iload_n dX7_says_94 rfl rfl ?_
                    refine g_iconst dX7_says_95 kI_4 ?_
                    refine g_icmp_neN (tgt := 110) dX7_says_96 (by decide) rfl rfl (by omega) (by omega) (fun c_96 => ?_) (fun c_96 => ?_)
                    · refine g_iconst dX7_says_110 kI_0 ?_
                      refine g_istore dX7_says_111 (lt_r rfl) rfl ?_
                      first | exact g_le (lvLe_c rfl (lvLe_c rfl (lvLe_c rfl (lvLe_c rfl (lvLe_c (by exact congrArg (fun z => some (Value.int z)) (bp_t (by omega))) lvLe_0))))) (tl_msays h ho hkd hb) | exact g_le (lvLe_c rfl (lvLe_c rfl (lvLe_c rfl (lvLe_c rfl (lvLe_c (by exact congrArg (fun z => some (Value.int z)) (bp_f (by omega))) lvLe_0))))) (tl_msays h ho hkd hb)
                    · refine g_iload dX7_says_99 rfl ?_
                      refine g_bipush dX7_says_101 kB_6 ?_
                      refine g_icmp_neN (tgt := 110) dX7_says_103 (by decide) rfl rfl (by omega) (by omega) (fun c_103 => ?_) (fun c_103 => ?_)
                      · refine g_iconst dX7_says_110 kI_0 ?_
                        refine g_istore dX7_says_111 (lt_r rfl) rfl ?_
                        first | exact g_le (lvLe_c rfl (lvLe_c rfl (lvLe_c rfl (lvLe_c rfl (lvLe_c (by exact congrArg (fun z => some (Value.int z)) (bp_t (by omega))) lvLe_0))))) (tl_msays h ho hkd hb) | exact g_le (lvLe_c rfl (lvLe_c rfl (lvLe_c rfl (lvLe_c rfl (lvLe_c (by exact congrArg (fun z => some (Value.int z)) (bp_f (by omega))) lvLe_0))))) (tl_msays h ho hkd hb)
                      · refine g_iconst dX7_says_106 kI_1 ?_
                        refine g_goto (tgt := 111) dX7_says_107 (by decide) ?_
                        refine g_istore dX7_says_111 (lt_r rfl) rfl ?_
                        first | exact g_le (lvLe_c rfl (lvLe_c rfl (lvLe_c rfl (lvLe_c rfl (lvLe_c (by exact congrArg (fun z => some (Value.int z)) (bp_t (by omega))) lvLe_0))))) (tl_msays h ho hkd hb) | exact g_le (lvLe_c rfl (lvLe_c rfl (lvLe_c rfl (lvLe_c rfl (lvLe_c (by exact congrArg (fun z => some (Value.int z)) (bp_f (by omega))) lvLe_0))))) (tl_msays h ho hkd hb)
          · refine g_aload_n dX7_says_50 rfl rfl ?_
            refine g_bipush dX7_says_51 kB_m3 ?_
            refine g_callVi dX7_says_53 mi_X7_no ml_X7_100 (ct_no (w := 3) h (by decide) (by decide)) rfl rfl rfl rfl (Nat.le_of_ble_eq_true rfl) ⟨lt_r rfl, Nat.le_of_ble_eq_true rfl⟩ (fun x53 M53 h53 => ?_)
            refine g_iret dX7_says_56 ⟨_, rfl, ?_⟩
            exact QM.rf (by unfold o_says; rw [if_neg (fun z => z c_5), if_neg (fun z => z hkk), e1, if_neg (by omega), if_pos (by omega)]) h53
        · refine g_aload_n dX7_says_34 rfl rfl ?_
          refine g_bipush dX7_says_35 kB_m2 ?_
          refine g_callVi dX7_says_37 mi_X7_no ml_X7_100 (ct_no (w := 2) h (by decide) (by decide)) rfl rfl rfl rfl (Nat.le_of_ble_eq_true rfl) ⟨lt_r rfl, Nat.le_of_ble_eq_true rfl⟩ (fun x37 M37 h37 => ?_)
          refine g_iret dX7_says_40 ⟨_, rfl, ?_⟩
          exact QM.rf (by unfold o_says; rw [if_neg (fun z => z c_5), if_neg (fun z => z hkk), e1, if_pos (by omega)]) h37
      · refine g_aload_n dX7_says_18 rfl rfl ?_
        refine g_iconst dX7_says_19 kI_m1 ?_
        refine g_callVi dX7_says_20 mi_X7_no ml_X7_100 (ct_no (w := 1) h (by decide) (by decide)) rfl rfl rfl rfl (Nat.le_of_ble_eq_true rfl) ⟨lt_r rfl, Nat.le_of_ble_eq_true rfl⟩ (fun x20 M20 h20 => ?_)
        refine g_iret dX7_says_23 ⟨_, rfl, ?_⟩
        first | exact QM.rf (if_pos c_5) h20 | exact QM.rf (by unfold o_says; rw [if_neg (fun z => z c_5), if_pos (fun z => Int32.not_lt.mpr z.1 c_9)]) h20 | exact QM.rf (by unfold o_says; rw [if_neg (fun z => z c_5), if_pos (fun z => c_15 z.2)]) h20
theorem mx_soak {y : Sys} {b c : Int32} (h : RM B M y) (ho : okY y) : Ct E B yX7_soak cX7_soak 3 (some .int) 2 [.ref (B + 80), .int b, .int c] M (QM B M (o_soak y b c)) := by
  have hcn := ho.2.1.2.2.1
  refine Ct.of2 (own := RX7) (lv := [(0, .ref (B + 80)), (1, .int b), (2, .int c)]) pn_X7 rfl (Nat.le_of_ble_eq_true rfl) rfl ?_
  refine g_aload_n dX7_soak_0 rfl rfl ?_
  refine g_iload_n dX7_soak_1 rfl rfl ?_
  refine g_iload_n dX7_soak_2 rfl rfl ?_
  refine g_callVp dX7_soak_3 mi_X7_isCell ml_X7_112 (ct_X7_isCell h.2.1 ho.2.1) rfl rfl rfl rfl (Nat.le_of_ble_eq_true rfl) ⟨lt_r rfl, Nat.le_of_ble_eq_true rfl⟩ ?_
  refine g_if_eqP (tgt := 28) dX7_soak_6 (by decide) (fun c_6 => ?_) (fun c_6 => ?_)
  · refine g_aload_n dX7_soak_28 rfl rfl ?_
    refine g_iconst dX7_soak_29 kI_m1 ?_
    refine g_callVi dX7_soak_30 mi_X7_no ml_X7_100 (ct_no (w := 1) h (by decide) (by decide)) rfl rfl rfl rfl (Nat.le_of_ble_eq_true rfl) ⟨lt_r rfl, Nat.le_of_ble_eq_true rfl⟩ (fun x30 M30 h30 => ?_)
    refine g_iret dX7_soak_33 ⟨_, rfl, ?_⟩
    first | exact QM.rf (if_pos c_6) h30 | exact QM.p h rfl
  · have e9 : o_soak y b c = _ := if_neg (fun z => z c_6)
    rw [e9]
    obtain ⟨q, hq, rfl, e1⟩ := in_b hcn c_6.1
    rw [e1] at c_6 ⊢
    have hB3 := (ho.2.1.1 q hq).2.2.1
    obtain ⟨j, hj, rfl⟩ := in_nI (by omega) c_6.2
    rw [tn_nI (show j < 2 ^ 31 by omega)]
    refine g_aload_n dX7_soak_9 rfl rfl ?_
    refine g_iload_n dX7_soak_10 rfl rfl ?_
    refine g_iload_n dX7_soak_11 rfl rfl ?_
    refine g_aload_n dX7_soak_12 rfl rfl ?_
    refine g_getR dX7_soak_13 fl_X7_35 rfl rfl ?_
    refine g_iload_n dX7_soak_16 rfl rfl ?_
    refine g_iald dX7_soak_17 rfl rfl (by omega) ((h.2.1.1 q hq).2.2.1) ?_
    refine g_aload_n dX7_soak_18 rfl rfl ?_
    refine g_getI dX7_soak_19 fl_X7_7 rfl rfl (h.2.1.2.2.2.1) ?_
    refine g_callVp dX7_soak_22 mi_X7_soakOf ml_X7_104 (ct_X7_soakOf h.2.1 ho.2.1 hq hB3 (by omega) ho.2.1.2.2.2.1) rfl rfl rfl rfl (Nat.le_of_ble_eq_true rfl) ⟨lt_r rfl, Nat.le_of_ble_eq_true rfl⟩ ?_
    refine g_goto (tgt := 33) dX7_soak_25 (by decide) ?_
    refine g_iret dX7_soak_33 ⟨_, rfl, ?_⟩
    first | exact QM.rf (if_pos c_6) h30 | exact QM.p h rfl
theorem mx_cellOf {y : Sys} {b c w : Int32} (h : RM B M y) (ho : okY y) : Ct E B yX7_cellOf cX7_cellOf 4 (some .int) 2 [.ref (B + 80), .int b, .int c, .int w] M (QM B M (o_cellOf y b c w)) := by
  have hcn := ho.2.1.2.2.1
  refine Ct.of2 (own := RX7) (lv := [(0, .ref (B + 80)), (1, .int b), (2, .int c), (3, .int w)]) pn_X7 rfl (Nat.le_of_ble_eq_true rfl) rfl ?_
  refine g_aload_n dX7_cellOf_0 rfl rfl ?_
  refine g_iload_n dX7_cellOf_1 rfl rfl ?_
  refine g_iload_n dX7_cellOf_2 rfl rfl ?_
  refine g_callVp dX7_cellOf_3 mi_X7_isCell ml_X7_112 (ct_X7_isCell h.2.1 ho.2.1) rfl rfl rfl rfl (Nat.le_of_ble_eq_true rfl) ⟨lt_r rfl, Nat.le_of_ble_eq_true rfl⟩ ?_
  refine g_if_neP (tgt := 15) dX7_cellOf_6 (by decide) (fun c_6 => ?_) (fun c_6 => ?_)
  · have e9 : o_cellOf y b c w = _ := if_neg (fun z => z c_6)
    rw [e9]
    obtain ⟨q, hq, rfl, e1⟩ := in_b hcn c_6.1
    rw [e1] at c_6 ⊢
    have hob := ho.2.1.1 q hq
    have hB3 := hob.2.2.1
    obtain ⟨j, hj, rfl⟩ := in_nI (by omega) c_6.2
    rw [tn_nI (show j < 2 ^ 31 by omega)]
    refine g_iload_n dX7_cellOf_15 rfl rfl ?_
    refine g_if_lt (tgt := 24) dX7_cellOf_16 (by decide) (fun c_16 => ?_) (fun c_16 => ?_)
    · refine g_aload_n dX7_cellOf_24 rfl rfl ?_
      refine g_bipush dX7_cellOf_25 kB_m5 ?_
      refine g_callVi dX7_cellOf_27 mi_X7_noFar ml_X7_214 (ct_noFar (w := 5) h (by decide) (by decide)) rfl rfl rfl rfl (Nat.le_of_ble_eq_true rfl) ⟨lt_r rfl, Nat.le_of_ble_eq_true rfl⟩ (fun x27 M27 h27 => ?_)
      refine g_iret dX7_cellOf_30 ⟨_, rfl, ?_⟩
      first | exact QM.rl (by rw [if_neg (fun z => by rw [z] at c_16; exact absurd c_16 (by decide)), if_neg (fun z => by rw [z] at c_16; exact absurd c_16 (by decide))]) h27 | exact QM.rl (by rw [if_neg (fun z => c_21 (by rw [z]; decide)), if_neg (fun z => c_21 (by rw [z]; decide))]) h27
    · refine g_iload_n dX7_cellOf_19 rfl rfl ?_
      refine g_iconst dX7_cellOf_20 kI_1 ?_
      refine g_icmp_le (tgt := 31) dX7_cellOf_21 (by decide) (fun c_21 => ?_) (fun c_21 => ?_)
      · refine g_aload_n dX7_cellOf_31 rfl rfl ?_
        refine g_iload_n dX7_cellOf_32 rfl rfl ?_
        refine g_callVv dX7_cellOf_33 mi_X7_lays ml_X7_206 (ct_lays h.2.1 ho.2.1 hq) rfl rfl rfl rfl (Nat.le_of_ble_eq_true rfl) ⟨lt_r rfl, Nat.le_of_ble_eq_true rfl⟩ (fun M33 h33 => ?_)
        obtain ⟨a1, a2, a3⟩ := h33
        have a4 : ∀ i, i < (sBs (yN y) q).2.2.1 → M33.1 (B + 97) i = nI ((sBs (yN y) q).2.2.2 i) := a1.2.1
        refine g_iload_n dX7_cellOf_36 rfl rfl ?_
        refine g_if_ne (tgt := 49) dX7_cellOf_37 (by decide) (fun c_37 => ?_) (fun c_37 => ?_)
        · refine g_aload_n dX7_cellOf_49 rfl rfl ?_
          refine g_iload_n dX7_cellOf_50 rfl rfl ?_
          refine g_callVp dX7_cellOf_51 mi_X7_hangsOf ml_X7_189 (ct_hangsOf (n := (sBs (yN y) q).2.2.1) (by omega) hB3 a4 hob.2.2.2) rfl rfl rfl rfl (Nat.le_of_ble_eq_true rfl) ⟨lt_r rfl, Nat.le_of_ble_eq_true rfl⟩ ?_
          refine g_iret dX7_cellOf_54 ⟨_, rfl, ?_⟩
          first | exact QM.s h a3.d (if_pos c_37) | exact QM.s h a3.d (by rw [if_neg c_37, if_pos (by obtain ⟨k, k1, k2, rfl, k4⟩ := btw_n (lo := 0) (hi := 1) (by decide) (by decide) ⟨Int32.not_lt.mp c_16, c_21⟩; rcases (show k = 0 ∨ k = 1 by omega) with rfl | rfl <;> first | rfl | exact absurd rfl c_37)])
        · refine g_aload_n dX7_cellOf_40 rfl rfl ?_
          refine g_iload_n dX7_cellOf_41 rfl rfl ?_
          refine g_iload_n dX7_cellOf_42 rfl rfl ?_
          refine g_callVp dX7_cellOf_43 mi_X7_holdsOf ml_X7_192 (ct_holdsOf (h.2.1.fk a3 (by decide) (by decide)) ho.2.1 hq (by omega) (a4 j hj)) rfl rfl rfl rfl (Nat.le_of_ble_eq_true rfl) ⟨lt_r rfl, Nat.le_of_ble_eq_true rfl⟩ ?_
          refine g_goto (tgt := 54) dX7_cellOf_46 (by decide) ?_
          refine g_iret dX7_cellOf_54 ⟨_, rfl, ?_⟩
          first | exact QM.s h a3.d (if_pos c_37) | exact QM.s h a3.d (by rw [if_neg c_37, if_pos (by obtain ⟨k, k1, k2, rfl, k4⟩ := btw_n (lo := 0) (hi := 1) (by decide) (by decide) ⟨Int32.not_lt.mp c_16, c_21⟩; rcases (show k = 0 ∨ k = 1 by omega) with rfl | rfl <;> first | rfl | exact absurd rfl c_37)])
      · refine g_aload_n dX7_cellOf_24 rfl rfl ?_
        refine g_bipush dX7_cellOf_25 kB_m5 ?_
        refine g_callVi dX7_cellOf_27 mi_X7_noFar ml_X7_214 (ct_noFar (w := 5) h (by decide) (by decide)) rfl rfl rfl rfl (Nat.le_of_ble_eq_true rfl) ⟨lt_r rfl, Nat.le_of_ble_eq_true rfl⟩ (fun x27 M27 h27 => ?_)
        refine g_iret dX7_cellOf_30 ⟨_, rfl, ?_⟩
        first | exact QM.rl (by rw [if_neg (fun z => by rw [z] at c_16; exact absurd c_16 (by decide)), if_neg (fun z => by rw [z] at c_16; exact absurd c_16 (by decide))]) h27 | exact QM.rl (by rw [if_neg (fun z => c_21 (by rw [z]; decide)), if_neg (fun z => c_21 (by rw [z]; decide))]) h27
  · refine g_aload_n dX7_cellOf_9 rfl rfl ?_
    refine g_iconst dX7_cellOf_10 kI_m1 ?_
    refine g_callVi dX7_cellOf_11 mi_X7_noFar ml_X7_214 (ct_noFar (w := 1) h (by decide) (by decide)) rfl rfl rfl rfl (Nat.le_of_ble_eq_true rfl) ⟨lt_r rfl, Nat.le_of_ble_eq_true rfl⟩ (fun x11 M11 h11 => ?_)
    refine g_iret dX7_cellOf_14 ⟨_, rfl, ?_⟩
    exact QM.rl (if_pos c_6) h11
theorem mx_breaks {y : Sys} {b : Int32} (h : RM B M y) (ho : okY y) : Ct E B yX7_breaks cX7_breaks 2 (some .int) 2 [.ref (B + 80), .int b] M (QM B M (o_breaks y b)) := by
  have hcn := ho.2.1.2.2.1
  refine Ct.of2 (own := RX7) (lv := [(0, .ref (B + 80)), (1, .int b)]) pn_X7 rfl (Nat.le_of_ble_eq_true rfl) rfl ?_
  refine g_aload_n dX7_breaks_0 rfl rfl ?_
  refine g_iload_n dX7_breaks_1 rfl rfl ?_
  refine g_callVp dX7_breaks_2 mi_X7_isBiscuit ml_X7_93 (ct_X7_isBiscuit h.2.1) rfl rfl rfl rfl (Nat.le_of_ble_eq_true rfl) ⟨lt_r rfl, Nat.le_of_ble_eq_true rfl⟩ ?_
  refine g_if_neP (tgt := 14) dX7_breaks_5 (by decide) (fun c_5 => ?_) (fun c_5 => ?_)
  · have e9 : o_breaks y b = _ := if_neg (fun z => z c_5)
    rw [e9]
    obtain ⟨q, hq, rfl, e1⟩ := in_b hcn c_5
    rw [e1]
    have hob := ho.2.1.1 q hq
    refine g_aload_n dX7_breaks_14 rfl rfl ?_
    refine g_iload_n dX7_breaks_15 rfl rfl ?_
    refine g_callVv dX7_breaks_16 mi_X7_lays ml_X7_206 (ct_lays h.2.1 ho.2.1 hq) rfl rfl rfl rfl (Nat.le_of_ble_eq_true rfl) ⟨lt_r rfl, Nat.le_of_ble_eq_true rfl⟩ (fun M16 h16 => ?_)
    obtain ⟨a1, a2, a3⟩ := h16
    refine g_aload_n dX7_breaks_19 rfl rfl ?_
    refine g_iload_n dX7_breaks_20 rfl rfl ?_
    refine g_callVp dX7_breaks_21 mi_X7_breakOf ml_X7_199 (ct_breakOf (h.2.1.fk a3 (by decide) (by decide)) ho.2.1 hq hob.2.2.1 a1.1 a1.2.1 hob.2.2.2) rfl rfl rfl rfl (Nat.le_of_ble_eq_true rfl) ⟨lt_r rfl, Nat.le_of_ble_eq_true rfl⟩ ?_
    refine g_iret dX7_breaks_24 ⟨_, rfl, ?_⟩
    exact QM.s h a3.d rfl
  · refine g_aload_n dX7_breaks_8 rfl rfl ?_
    refine g_iconst dX7_breaks_9 kI_m1 ?_
    refine g_callVi dX7_breaks_10 mi_X7_noTen ml_X7_217 (ct_noTen (w := 1) h (by decide) (by decide)) rfl rfl rfl rfl (Nat.le_of_ble_eq_true rfl) ⟨lt_r rfl, Nat.le_of_ble_eq_true rfl⟩ (fun x10 M10 h10 => ?_)
    refine g_iret dX7_breaks_13 ⟨_, rfl, ?_⟩
    exact QM.rl (if_pos c_5) h10
theorem mx_left {y : Sys} {b d s c : Int32} (h : RM B M y) (ho : okY y) : Ct E B yX7_left cX7_left 5 (some .int) 5 [.ref (B + 80), .int b, .int d, .int s, .int c] M (QM B M (o_left y b d s c)) := by
  have hcn := ho.2.1.2.2.1
  refine Ct.of2 (own := RX7) (lv := [(0, .ref (B + 80)), (1, .int b), (2, .int d), (3, .int s), (4, .int c)]) pn_X7 rfl (Nat.le_of_ble_eq_true rfl) rfl ?_
  refine g_aload_n dX7_left_0 rfl rfl ?_
  refine g_iload_n dX7_left_1 rfl rfl ?_
  refine g_callVp dX7_left_2 mi_X7_isBiscuit ml_X7_93 (ct_X7_isBiscuit h.2.1) rfl rfl rfl rfl (Nat.le_of_ble_eq_true rfl) ⟨lt_r rfl, Nat.le_of_ble_eq_true rfl⟩ ?_
  refine g_if_neP (tgt := 14) dX7_left_5 (by decide) (fun c_5 => ?_) (fun c_5 => ?_)
  · refine g_aload_n dX7_left_14 rfl rfl ?_
    refine g_iload_n dX7_left_15 rfl rfl ?_
    refine g_iload_n dX7_left_16 rfl rfl ?_
    refine g_iload dX7_left_17 rfl ?_
    refine g_callVp dX7_left_19 mi_X7_may ml_X7_226 (ct_X7_may) rfl rfl rfl rfl (Nat.le_of_ble_eq_true rfl) ⟨lt_r rfl, Nat.le_of_ble_eq_true rfl⟩ ?_
    refine g_if_neP (tgt := 32) dX7_left_22 (by decide) (fun c_22 => ?_) (fun c_22 => ?_)
    · have e : whyDunk y b d s c = 0 := (if_neg (fun z => z c_5)).trans (if_pos c_22)
      rw [show o_left y b d s c = _ from if_neg (fun z => z e)]
      obtain ⟨z2, z3, z4⟩ := c_22
      unfold dunkY
      obtain ⟨q, hq, rfl, f1⟩ := in_b hcn c_5
      obtain ⟨d', -, hd, rfl, f2⟩ := btw_n (by decide) (by decide) z2
      obtain ⟨s', -, hs, rfl, f3⟩ := btw_n (by decide) (by decide) z3
      obtain ⟨c', -, hc, rfl, f4⟩ := btw_n (by decide) (by decide) z4
      rw [f1, f2, f3, f4]
      refine g_aload_n dX7_left_32 rfl rfl ?_
      refine g_iload_n dX7_left_33 rfl rfl ?_
      refine g_iload_n dX7_left_34 rfl rfl ?_
      refine g_iload_n dX7_left_35 rfl rfl ?_
      refine g_iload dX7_left_36 rfl ?_
      refine g_aload_n dX7_left_38 rfl rfl ?_
      refine g_getI dX7_left_39 fl_X7_7 rfl rfl (h.2.1.2.2.2.1) ?_
      refine g_callVv dX7_left_42 mi_X7_tries ml_X7_230 (ct_tries h.2.1 ho.2.1 hq ho.2.1.2.2.2.1 hd hs hc) rfl rfl rfl rfl (Nat.le_of_ble_eq_true rfl) ⟨lt_r rfl, Nat.le_of_ble_eq_true rfl⟩ (fun M42 h42 => ?_)
      refine g_aload_n dX7_left_45 rfl rfl ?_
      refine g_getI dX7_left_46 fl_X7_177 rfl rfl (h42.1.1) ?_
      refine g_iret dX7_left_49 ⟨_, rfl, ?_⟩
      exact QM.s h h42.2.2.d rfl
    · refine g_aload_n dX7_left_25 rfl rfl ?_
      refine g_bipush dX7_left_26 kB_m6 ?_
      refine g_callVi dX7_left_28 mi_X7_no ml_X7_100 (ct_no (w := 6) h (by decide) (by decide)) rfl rfl rfl rfl (Nat.le_of_ble_eq_true rfl) ⟨lt_r rfl, Nat.le_of_ble_eq_true rfl⟩ (fun x28 M28 h28 => ?_)
      refine g_iret dX7_left_31 ⟨_, rfl, ?_⟩
      exact QM.rf (by have e : whyDunk y b d s c = 6 := (if_neg (fun z => z c_5)).trans (if_neg c_22); unfold o_left; rw [e, if_pos (by decide)]) h28
  · refine g_aload_n dX7_left_8 rfl rfl ?_
    refine g_iconst dX7_left_9 kI_m1 ?_
    refine g_callVi dX7_left_10 mi_X7_no ml_X7_100 (ct_no (w := 1) h (by decide) (by decide)) rfl rfl rfl rfl (Nat.le_of_ble_eq_true rfl) ⟨lt_r rfl, Nat.le_of_ble_eq_true rfl⟩ (fun x10 M10 h10 => ?_)
    refine g_iret dX7_left_13 ⟨_, rfl, ?_⟩
    exact QM.rf (by have e : whyDunk y b d s c = 1 := if_pos c_5; unfold o_left; rw [e, if_pos (by decide)]) h10
theorem mx_when {y : Sys} {b d s c : Int32} (h : RM B M y) (ho : okY y) : Ct E B yX7_when cX7_when 5 (some .int) 5 [.ref (B + 80), .int b, .int d, .int s, .int c] M (QM B M (o_when y b d s c)) := by
  have hcn := ho.2.1.2.2.1
  refine Ct.of2 (own := RX7) (lv := [(0, .ref (B + 80)), (1, .int b), (2, .int d), (3, .int s), (4, .int c)]) pn_X7 rfl (Nat.le_of_ble_eq_true rfl) rfl ?_
  refine g_aload_n dX7_when_0 rfl rfl ?_
  refine g_iload_n dX7_when_1 rfl rfl ?_
  refine g_callVp dX7_when_2 mi_X7_isBiscuit ml_X7_93 (ct_X7_isBiscuit h.2.1) rfl rfl rfl rfl (Nat.le_of_ble_eq_true rfl) ⟨lt_r rfl, Nat.le_of_ble_eq_true rfl⟩ ?_
  refine g_if_neP (tgt := 14) dX7_when_5 (by decide) (fun c_5 => ?_) (fun c_5 => ?_)
  · refine g_aload_n dX7_when_14 rfl rfl ?_
    refine g_iload_n dX7_when_15 rfl rfl ?_
    refine g_iload_n dX7_when_16 rfl rfl ?_
    refine g_iload dX7_when_17 rfl ?_
    refine g_callVp dX7_when_19 mi_X7_may ml_X7_226 (ct_X7_may) rfl rfl rfl rfl (Nat.le_of_ble_eq_true rfl) ⟨lt_r rfl, Nat.le_of_ble_eq_true rfl⟩ ?_
    refine g_if_neP (tgt := 32) dX7_when_22 (by decide) (fun c_22 => ?_) (fun c_22 => ?_)
    · have e : whyDunk y b d s c = 0 := (if_neg (fun z => z c_5)).trans (if_pos c_22)
      rw [show o_when y b d s c = _ from if_neg (fun z => z e)]
      obtain ⟨z2, z3, z4⟩ := c_22
      unfold dunkY
      obtain ⟨q, hq, rfl, f1⟩ := in_b hcn c_5
      obtain ⟨d', -, hd, rfl, f2⟩ := btw_n (by decide) (by decide) z2
      obtain ⟨s', -, hs, rfl, f3⟩ := btw_n (by decide) (by decide) z3
      obtain ⟨c', -, hc, rfl, f4⟩ := btw_n (by decide) (by decide) z4
      rw [f1, f2, f3, f4]
      refine g_aload_n dX7_when_32 rfl rfl ?_
      refine g_iload_n dX7_when_33 rfl rfl ?_
      refine g_iload_n dX7_when_34 rfl rfl ?_
      refine g_iload_n dX7_when_35 rfl rfl ?_
      refine g_iload dX7_when_36 rfl ?_
      refine g_aload_n dX7_when_38 rfl rfl ?_
      refine g_getI dX7_when_39 fl_X7_7 rfl rfl (h.2.1.2.2.2.1) ?_
      refine g_callVv dX7_when_42 mi_X7_tries ml_X7_230 (ct_tries h.2.1 ho.2.1 hq ho.2.1.2.2.2.1 hd hs hc) rfl rfl rfl rfl (Nat.le_of_ble_eq_true rfl) ⟨lt_r rfl, Nat.le_of_ble_eq_true rfl⟩ (fun M42 h42 => ?_)
      refine g_aload_n dX7_when_45 rfl rfl ?_
      refine g_getI dX7_when_46 fl_X7_186 rfl rfl (h42.2.1) ?_
      refine g_iret dX7_when_49 ⟨_, rfl, ?_⟩
      exact QM.s h h42.2.2.d rfl
    · refine g_aload_n dX7_when_25 rfl rfl ?_
      refine g_bipush dX7_when_26 kB_m6 ?_
      refine g_callVi dX7_when_28 mi_X7_noTen ml_X7_217 (ct_noTen (w := 6) h (by decide) (by decide)) rfl rfl rfl rfl (Nat.le_of_ble_eq_true rfl) ⟨lt_r rfl, Nat.le_of_ble_eq_true rfl⟩ (fun x28 M28 h28 => ?_)
      refine g_iret dX7_when_31 ⟨_, rfl, ?_⟩
      exact QM.rl (by have e : whyDunk y b d s c = 6 := (if_neg (fun z => z c_5)).trans (if_neg c_22); unfold o_when; rw [e, if_pos (by decide)]) h28
  · refine g_aload_n dX7_when_8 rfl rfl ?_
    refine g_iconst dX7_when_9 kI_m1 ?_
    refine g_callVi dX7_when_10 mi_X7_noTen ml_X7_217 (ct_noTen (w := 1) h (by decide) (by decide)) rfl rfl rfl rfl (Nat.le_of_ble_eq_true rfl) ⟨lt_r rfl, Nat.le_of_ble_eq_true rfl⟩ (fun x10 M10 h10 => ?_)
    refine g_iret dX7_when_13 ⟨_, rfl, ?_⟩
    exact QM.rl (by have e : whyDunk y b d s c = 1 := if_pos c_5; unfold o_when; rw [e, if_pos (by decide)]) h10
theorem mx_worth {y : Sys} {b d s c : Int32} (h : RM B M y) (ho : okY y) : Ct E B yX7_worth cX7_worth 5 (some .int) 5 [.ref (B + 80), .int b, .int d, .int s, .int c] M (QM B M (o_worth y b d s c)) := by
  have hcn := ho.2.1.2.2.1
  refine Ct.of2 (own := RX7) (lv := [(0, .ref (B + 80)), (1, .int b), (2, .int d), (3, .int s), (4, .int c)]) pn_X7 rfl (Nat.le_of_ble_eq_true rfl) rfl ?_
  refine g_aload_n dX7_worth_0 rfl rfl ?_
  refine g_iload_n dX7_worth_1 rfl rfl ?_
  refine g_callVp dX7_worth_2 mi_X7_isBiscuit ml_X7_93 (ct_X7_isBiscuit h.2.1) rfl rfl rfl rfl (Nat.le_of_ble_eq_true rfl) ⟨lt_r rfl, Nat.le_of_ble_eq_true rfl⟩ ?_
  refine g_if_neP (tgt := 14) dX7_worth_5 (by decide) (fun c_5 => ?_) (fun c_5 => ?_)
  · refine g_aload_n dX7_worth_14 rfl rfl ?_
    refine g_iload_n dX7_worth_15 rfl rfl ?_
    refine g_iload_n dX7_worth_16 rfl rfl ?_
    refine g_iload dX7_worth_17 rfl ?_
    refine g_callVp dX7_worth_19 mi_X7_may ml_X7_226 (ct_X7_may) rfl rfl rfl rfl (Nat.le_of_ble_eq_true rfl) ⟨lt_r rfl, Nat.le_of_ble_eq_true rfl⟩ ?_
    refine g_if_neP (tgt := 32) dX7_worth_22 (by decide) (fun c_22 => ?_) (fun c_22 => ?_)
    · have e : whyDunk y b d s c = 0 := (if_neg (fun z => z c_5)).trans (if_pos c_22)
      rw [show o_worth y b d s c = _ from if_neg (fun z => z e)]
      obtain ⟨z2, z3, z4⟩ := c_22
      unfold dunkY
      obtain ⟨q, hq, rfl, f1⟩ := in_b hcn c_5
      obtain ⟨d', -, hd, rfl, f2⟩ := btw_n (by decide) (by decide) z2
      obtain ⟨s', -, hs, rfl, f3⟩ := btw_n (by decide) (by decide) z3
      obtain ⟨c', -, hc, rfl, f4⟩ := btw_n (by decide) (by decide) z4
      rw [f1, f2, f3, f4]
      have hok := dunk_ok (h := sHt (yN y)) (d := d') (s := s') (c := c') (ho.2.1.1 q hq)
      refine g_aload_n dX7_worth_32 rfl rfl ?_
      refine g_iload_n dX7_worth_33 rfl rfl ?_
      refine g_iload_n dX7_worth_34 rfl rfl ?_
      refine g_iload_n dX7_worth_35 rfl rfl ?_
      refine g_iload dX7_worth_36 rfl ?_
      refine g_aload_n dX7_worth_38 rfl rfl ?_
      refine g_getI dX7_worth_39 fl_X7_7 rfl rfl (h.2.1.2.2.2.1) ?_
      refine g_callVv dX7_worth_42 mi_X7_tries ml_X7_230 (ct_tries h.2.1 ho.2.1 hq ho.2.1.2.2.2.1 hd hs hc) rfl rfl rfl rfl (Nat.le_of_ble_eq_true rfl) ⟨lt_r rfl, Nat.le_of_ble_eq_true rfl⟩ (fun M42 h42 => ?_)
      refine g_aload_n dX7_worth_45 rfl rfl ?_
      refine g_callVp dX7_worth_46 mi_X7_worthNow ml_X7_237 (ct_worthNow (h.2.1.fk h42.2.2 (by decide) (by decide)) ho.2.1 hok.1.2.2.1 h42.1.1 h42.1.2.1 hok.1.2.2.2) rfl rfl rfl rfl (Nat.le_of_ble_eq_true rfl) ⟨lt_r rfl, Nat.le_of_ble_eq_true rfl⟩ ?_
      refine g_iret dX7_worth_49 ⟨_, rfl, ?_⟩
      exact QM.s h h42.2.2.d rfl
    · refine g_aload_n dX7_worth_25 rfl rfl ?_
      refine g_bipush dX7_worth_26 kB_m6 ?_
      refine g_callVi dX7_worth_28 mi_X7_no ml_X7_100 (ct_no (w := 6) h (by decide) (by decide)) rfl rfl rfl rfl (Nat.le_of_ble_eq_true rfl) ⟨lt_r rfl, Nat.le_of_ble_eq_true rfl⟩ (fun x28 M28 h28 => ?_)
      refine g_iret dX7_worth_31 ⟨_, rfl, ?_⟩
      exact QM.rf (by have e : whyDunk y b d s c = 6 := (if_neg (fun z => z c_5)).trans (if_neg c_22); unfold o_worth; rw [e, if_pos (by decide)]) h28
  · refine g_aload_n dX7_worth_8 rfl rfl ?_
    refine g_iconst dX7_worth_9 kI_m1 ?_
    refine g_callVi dX7_worth_10 mi_X7_no ml_X7_100 (ct_no (w := 1) h (by decide) (by decide)) rfl rfl rfl rfl (Nat.le_of_ble_eq_true rfl) ⟨lt_r rfl, Nat.le_of_ble_eq_true rfl⟩ (fun x10 M10 h10 => ?_)
    refine g_iret dX7_worth_13 ⟨_, rfl, ?_⟩
    exact QM.rf (by have e : whyDunk y b d s c = 1 := if_pos c_5; unfold o_worth; rw [e, if_pos (by decide)]) h10
theorem mx_goes {y : Sys} {b d s : Int32} (h : RM B M y) (ho : okY y) : Ct E B yX7_goes cX7_goes 4 (some .int) 5 [.ref (B + 80), .int b, .int d, .int s] M (QM B M (o_goes y b d s)) := by
  have hcn := ho.2.1.2.2.1
  refine Ct.of2 (own := RX7) (lv := [(0, .ref (B + 80)), (1, .int b), (2, .int d), (3, .int s)]) pn_X7 rfl (Nat.le_of_ble_eq_true rfl) rfl ?_
  refine g_aload_n dX7_goes_0 rfl rfl ?_
  refine g_iload_n dX7_goes_1 rfl rfl ?_
  refine g_callVp dX7_goes_2 mi_X7_isBiscuit ml_X7_93 (ct_X7_isBiscuit h.2.1) rfl rfl rfl rfl (Nat.le_of_ble_eq_true rfl) ⟨lt_r rfl, Nat.le_of_ble_eq_true rfl⟩ ?_
  refine g_if_neP (tgt := 14) dX7_goes_5 (by decide) (fun c_5 => ?_) (fun c_5 => ?_)
  · refine g_aload_n dX7_goes_14 rfl rfl ?_
    refine g_iload_n dX7_goes_15 rfl rfl ?_
    refine g_iload_n dX7_goes_16 rfl rfl ?_
    refine g_iconst dX7_goes_17 kI_0 ?_
    refine g_callVp dX7_goes_18 mi_X7_may ml_X7_226 (ct_X7_may) rfl rfl rfl rfl (Nat.le_of_ble_eq_true rfl) ⟨lt_r rfl, Nat.le_of_ble_eq_true rfl⟩ ?_
    refine g_if_neP (tgt := 31) dX7_goes_21 (by decide) (fun c_21 => ?_) (fun c_21 => ?_)
    · have e : whyDunk y b d s (nI 0) = 0 := (if_neg (fun z => z c_5)).trans (if_pos c_21)
      rw [show o_goes y b d s = _ from if_neg (fun z => z e)]
      obtain ⟨z2, z3, z4⟩ := c_21
      unfold dunkY
      obtain ⟨q, hq, rfl, f1⟩ := in_b hcn c_5
      obtain ⟨d', -, hd, rfl, f2⟩ := btw_n (by decide) (by decide) z2
      obtain ⟨s', -, hs, rfl, f3⟩ := btw_n (by decide) (by decide) z3
      rw [f1, f2, f3, tn_nI (show 0 < 2 ^ 31 by decide)]
      refine g_aload_n dX7_goes_31 rfl rfl ?_
      refine g_iload_n dX7_goes_32 rfl rfl ?_
      refine g_iload_n dX7_goes_33 rfl rfl ?_
      refine g_iload_n dX7_goes_34 rfl rfl ?_
      refine g_iconst dX7_goes_35 kI_0 ?_
      refine g_aload_n dX7_goes_36 rfl rfl ?_
      refine g_getI dX7_goes_37 fl_X7_7 rfl rfl (h.2.1.2.2.2.1) ?_
      refine g_callVv dX7_goes_40 mi_X7_tries ml_X7_230 (ct_tries (c := 0) h.2.1 ho.2.1 hq ho.2.1.2.2.2.1 hd hs (by decide)) rfl rfl rfl rfl (Nat.le_of_ble_eq_true rfl) ⟨lt_r rfl, Nat.le_of_ble_eq_true rfl⟩ (fun M40 h40 => ?_)
      refine g_aload_n dX7_goes_43 rfl rfl ?_
      refine g_getI dX7_goes_44 fl_X7_180 rfl rfl (h40.1.2.2.1.trans (nI_add 0 _)) ?_
      refine g_iret dX7_goes_47 ⟨_, rfl, ?_⟩
      exact QM.s h h40.2.2.d (by rw [Nat.zero_add])
    · refine g_aload_n dX7_goes_24 rfl rfl ?_
      refine g_bipush dX7_goes_25 kB_m6 ?_
      refine g_callVi dX7_goes_27 mi_X7_no ml_X7_100 (ct_no (w := 6) h (by decide) (by decide)) rfl rfl rfl rfl (Nat.le_of_ble_eq_true rfl) ⟨lt_r rfl, Nat.le_of_ble_eq_true rfl⟩ (fun x27 M27 h27 => ?_)
      refine g_iret dX7_goes_30 ⟨_, rfl, ?_⟩
      exact QM.rf (by have e : whyDunk y b d s (nI 0) = 6 := (if_neg (fun z => z c_5)).trans (if_neg c_21); unfold o_goes; rw [e, if_pos (by decide)]) h27
  · refine g_aload_n dX7_goes_8 rfl rfl ?_
    refine g_iconst dX7_goes_9 kI_m1 ?_
    refine g_callVi dX7_goes_10 mi_X7_no ml_X7_100 (ct_no (w := 1) h (by decide) (by decide)) rfl rfl rfl rfl (Nat.le_of_ble_eq_true rfl) ⟨lt_r rfl, Nat.le_of_ble_eq_true rfl⟩ (fun x10 M10 h10 => ?_)
    refine g_iret dX7_goes_13 ⟨_, rfl, ?_⟩
    exact QM.rf (by have e : whyDunk y b d s (nI 0) = 1 := if_pos c_5; unfold o_goes; rw [e, if_pos (by decide)]) h10
theorem mx_wetness {y : Sys} {b d s c l : Int32} (h : RM B M y) (ho : okY y) : Ct E B yX7_wetness cX7_wetness 6 (some .int) 5 [.ref (B + 80), .int b, .int d, .int s, .int c, .int l] M (QM B M (o_wetness y b d s c l)) := by
  have hcn := ho.2.1.2.2.1
  refine Ct.of2 (own := RX7) (lv := [(0, .ref (B + 80)), (1, .int b), (2, .int d), (3, .int s), (4, .int c), (5, .int l)]) pn_X7 rfl (Nat.le_of_ble_eq_true rfl) rfl ?_
  refine g_aload_n dX7_wetness_0 rfl rfl ?_
  refine g_iload_n dX7_wetness_1 rfl rfl ?_
  refine g_callVp dX7_wetness_2 mi_X7_isBiscuit ml_X7_93 (ct_X7_isBiscuit h.2.1) rfl rfl rfl rfl (Nat.le_of_ble_eq_true rfl) ⟨lt_r rfl, Nat.le_of_ble_eq_true rfl⟩ ?_
  refine g_if_neP (tgt := 14) dX7_wetness_5 (by decide) (fun c_5 => ?_) (fun c_5 => ?_)
  · refine g_iload dX7_wetness_14 rfl ?_
    refine g_if_ge (tgt := 26) dX7_wetness_16 (by decide) (fun c_16 => ?_) (fun c_16 => ?_)
    · refine g_aload_n dX7_wetness_26 rfl rfl ?_
      refine g_iload_n dX7_wetness_27 rfl rfl ?_
      refine g_iload_n dX7_wetness_28 rfl rfl ?_
      refine g_iload dX7_wetness_29 rfl ?_
      refine g_callVp dX7_wetness_31 mi_X7_may ml_X7_226 (ct_X7_may) rfl rfl rfl rfl (Nat.le_of_ble_eq_true rfl) ⟨lt_r rfl, Nat.le_of_ble_eq_true rfl⟩ ?_
      refine g_if_neP (tgt := 44) dX7_wetness_34 (by decide) (fun c_34 => ?_) (fun c_34 => ?_)
      · have e9 : o_wetness y b d s c l = _ := (if_neg (fun z => z c_5)).trans ((if_neg (Int32.not_lt.mpr c_16)).trans (if_neg (fun z => z c_34)))
        rw [e9]
        obtain ⟨z2, z3, z4⟩ := c_34
        unfold dunkY
        obtain ⟨q, hq, rfl, f1⟩ := in_b hcn c_5
        obtain ⟨d', -, hd, rfl, f2⟩ := btw_n (by decide) (by decide) z2
        obtain ⟨s', -, hs, rfl, f3⟩ := btw_n (by decide) (by decide) z3
        obtain ⟨c', -, hc, rfl, f4⟩ := btw_n (by decide) (by decide) z4
        rw [f1, f2, f3, f4]
        have hok := dunk_ok (h := sHt (yN y)) (d := d') (s := s') (c := c') (ho.2.1.1 q hq)
        have hlen : (dunkD (sBs (yN y) q) (sHt (yN y)) d' s' c').1 ≤ 12 := hok.1.2.2.1
        refine g_aload_n dX7_wetness_44 rfl rfl ?_
        refine g_iload_n dX7_wetness_45 rfl rfl ?_
        refine g_iload_n dX7_wetness_46 rfl rfl ?_
        refine g_iload_n dX7_wetness_47 rfl rfl ?_
        refine g_iload dX7_wetness_48 rfl ?_
        refine g_aload_n dX7_wetness_50 rfl rfl ?_
        refine g_getI dX7_wetness_51 fl_X7_7 rfl rfl (h.2.1.2.2.2.1) ?_
        refine g_callVv dX7_wetness_54 mi_X7_tries ml_X7_230 (ct_tries h.2.1 ho.2.1 hq ho.2.1.2.2.2.1 hd hs hc) rfl rfl rfl rfl (Nat.le_of_ble_eq_true rfl) ⟨lt_r rfl, Nat.le_of_ble_eq_true rfl⟩ (fun M54 h54 => ?_)
        have hy := h.mc h54.2.2.d
        refine g_iload dX7_wetness_57 rfl ?_
        refine g_aload_n dX7_wetness_59 rfl rfl ?_
        refine g_getI dX7_wetness_60 fl_X7_177 rfl rfl (h54.1.1) ?_
        refine g_icmp_ge (tgt := 76) dX7_wetness_63 (by decide) (fun c_63 => ?_) (fun c_63 => ?_)
        · refine g_aload_n dX7_wetness_76 rfl rfl ?_
          refine g_bipush dX7_wetness_77 kB_m5 ?_
          refine g_callVi dX7_wetness_79 mi_X7_no ml_X7_100 (ct_no (w := 5) hy (by decide) (by decide)) rfl rfl rfl rfl (Nat.le_of_ble_eq_true rfl) ⟨lt_r rfl, Nat.le_of_ble_eq_true rfl⟩ (fun x79 M79 h79 => ?_)
          refine g_iret dX7_wetness_82 ⟨_, rfl, ?_⟩
          first | (obtain ⟨a1, a2, a3⟩ := h79; rw [if_pos (Int32.not_lt.mpr c_63)]; exact ⟨a1, a2, (h54.2.2.sm (by decide)).tr (a3.sm (by decide))⟩) | (rw [if_neg (fun z => z c_63), tn_nI (by omega)]; exact QM.s h h54.2.2.d rfl)
        · have c_63 := Int32.not_le.mp c_63
          obtain ⟨j, hj, rfl⟩ := in_nI (by omega) ⟨c_16, c_63⟩
          refine g_aload_n dX7_wetness_66 rfl rfl ?_
          refine g_getR dX7_wetness_67 fl_X7_75 rfl rfl ?_
          refine g_iload dX7_wetness_70 rfl ?_
          refine g_iald dX7_wetness_72 rfl rfl (by omega) (h54.1.2.1 j hj) ?_
          refine g_goto (tgt := 82) dX7_wetness_73 (by decide) ?_
          refine g_iret dX7_wetness_82 ⟨_, rfl, ?_⟩
          first | (obtain ⟨a1, a2, a3⟩ := h79; rw [if_pos (Int32.not_lt.mpr c_63)]; exact ⟨a1, a2, (h54.2.2.sm (by decide)).tr (a3.sm (by decide))⟩) | (rw [if_neg (fun z => z c_63), tn_nI (by omega)]; exact QM.s h h54.2.2.d rfl)
      · refine g_aload_n dX7_wetness_37 rfl rfl ?_
        refine g_bipush dX7_wetness_38 kB_m6 ?_
        refine g_callVi dX7_wetness_40 mi_X7_no ml_X7_100 (ct_no (w := 6) h (by decide) (by decide)) rfl rfl rfl rfl (Nat.le_of_ble_eq_true rfl) ⟨lt_r rfl, Nat.le_of_ble_eq_true rfl⟩ (fun x40 M40 h40 => ?_)
        refine g_iret dX7_wetness_43 ⟨_, rfl, ?_⟩
        exact QM.rf (by unfold o_wetness; rw [if_neg (fun z => z c_5), if_neg (Int32.not_lt.mpr c_16), if_pos c_34]) h40
    · refine g_aload_n dX7_wetness_19 rfl rfl ?_
      refine g_bipush dX7_wetness_20 kB_m5 ?_
      refine g_callVi dX7_wetness_22 mi_X7_no ml_X7_100 (ct_no (w := 5) h (by decide) (by decide)) rfl rfl rfl rfl (Nat.le_of_ble_eq_true rfl) ⟨lt_r rfl, Nat.le_of_ble_eq_true rfl⟩ (fun x22 M22 h22 => ?_)
      refine g_iret dX7_wetness_25 ⟨_, rfl, ?_⟩
      exact QM.rf (by unfold o_wetness; rw [if_neg (fun z => z c_5), if_pos (Int32.not_le.mp c_16)]) h22
  · refine g_aload_n dX7_wetness_8 rfl rfl ?_
    refine g_iconst dX7_wetness_9 kI_m1 ?_
    refine g_callVi dX7_wetness_10 mi_X7_no ml_X7_100 (ct_no (w := 1) h (by decide) (by decide)) rfl rfl rfl rfl (Nat.le_of_ble_eq_true rfl) ⟨lt_r rfl, Nat.le_of_ble_eq_true rfl⟩ (fun x10 M10 h10 => ?_)
    refine g_iret dX7_wetness_13 ⟨_, rfl, ?_⟩
    exact QM.rf (if_pos c_5) h10
theorem mx_twice {y : Sys} {b d s d2 s2 : Int32} (h : RM B M y) (ho : okY y) : Ct E B yX7_twice cX7_twice 6 (some .int) 4 [.ref (B + 80), .int b, .int d, .int s, .int d2, .int s2] M (QM B M (o_twice y b d s d2 s2)) := by
  have hcn := ho.2.1.2.2.1
  have hh := ho.2.1.2.2.2.1
  refine Ct.of2 (own := RX7) (lv := [(0, .ref (B + 80)), (1, .int b), (2, .int d), (3, .int s), (4, .int d2), (5, .int s2)]) pn_X7 rfl (Nat.le_of_ble_eq_true rfl) rfl ?_
  refine g_aload_n dX7_twice_0 rfl rfl ?_
  refine g_iload_n dX7_twice_1 rfl rfl ?_
  refine g_callVp dX7_twice_2 mi_X7_isBiscuit ml_X7_93 (ct_X7_isBiscuit h.2.1) rfl rfl rfl rfl (Nat.le_of_ble_eq_true rfl) ⟨lt_r rfl, Nat.le_of_ble_eq_true rfl⟩ ?_
  refine g_if_neP (tgt := 14) dX7_twice_5 (by decide) (fun c_5 => ?_) (fun c_5 => ?_)
  · refine g_aload_n dX7_twice_14 rfl rfl ?_
    refine g_iload_n dX7_twice_15 rfl rfl ?_
    refine g_iload_n dX7_twice_16 rfl rfl ?_
    refine g_iconst dX7_twice_17 kI_0 ?_
    refine g_callVp dX7_twice_18 mi_X7_may ml_X7_226 (ct_X7_may) rfl rfl rfl rfl (Nat.le_of_ble_eq_true rfl) ⟨lt_r rfl, Nat.le_of_ble_eq_true rfl⟩ ?_
    refine g_if_eqP (tgt := 36) dX7_twice_21 (by decide) (fun c_21 => ?_) (fun c_21 => ?_)
    · refine g_aload_n dX7_twice_36 rfl rfl ?_
      refine g_bipush dX7_twice_37 kB_m6 ?_
      refine g_callVi dX7_twice_39 mi_X7_no ml_X7_100 (ct_no (w := 6) h (by decide) (by decide)) rfl rfl rfl rfl (Nat.le_of_ble_eq_true rfl) ⟨lt_r rfl, Nat.le_of_ble_eq_true rfl⟩ (fun x39 M39 h39 => ?_)
      refine g_iret dX7_twice_42 ⟨_, rfl, ?_⟩
      exact QM.rf (by unfold o_twice; rw [if_neg (fun z => z c_5), if_pos (fun z => by first | exact c_21 z.1 | exact c_33 z.2)]) h39
    · refine g_aload_n dX7_twice_24 rfl rfl ?_
      refine g_iload dX7_twice_25 rfl ?_
      refine g_iload dX7_twice_27 rfl ?_
      refine g_iconst dX7_twice_29 kI_0 ?_
      refine g_callVp dX7_twice_30 mi_X7_may ml_X7_226 (ct_X7_may) rfl rfl rfl rfl (Nat.le_of_ble_eq_true rfl) ⟨lt_r rfl, Nat.le_of_ble_eq_true rfl⟩ ?_
      refine g_if_neP (tgt := 43) dX7_twice_33 (by decide) (fun c_33 => ?_) (fun c_33 => ?_)
      · have e9 : o_twice y b d s d2 s2 = _ := (if_neg (fun z => z c_5)).trans (if_neg (fun z => z ⟨c_21, c_33⟩))
        rw [e9]
        obtain ⟨z2, z3, -⟩ := c_21
        obtain ⟨z4, z5, -⟩ := c_33
        obtain ⟨q, hq, rfl, f1⟩ := in_b hcn c_5
        obtain ⟨d', -, hd, rfl, f2⟩ := btw_n (by decide) (by decide) z2
        obtain ⟨s', -, hs, rfl, f3⟩ := btw_n (by decide) (by decide) z3
        obtain ⟨d3, -, hd3, rfl, f4⟩ := btw_n (by decide) (by decide) z4
        obtain ⟨s3, -, hs3, rfl, f5⟩ := btw_n (by decide) (by decide) z5
        rw [f1, f2, f3, f4, f5]
        have hob := ho.2.1.1 q hq
        refine g_aload_n dX7_twice_43 rfl rfl ?_
        refine g_iload_n dX7_twice_44 rfl rfl ?_
        refine g_callVv dX7_twice_45 mi_X7_lays ml_X7_206 (ct_lays h.2.1 ho.2.1 hq) rfl rfl rfl rfl (Nat.le_of_ble_eq_true rfl) ⟨lt_r rfl, Nat.le_of_ble_eq_true rfl⟩ (fun M45 h45 => ?_)
        obtain ⟨a1, a2, a3⟩ := h45
        have hR1 := h.2.1.fk a3 (by decide) (by decide)
        refine g_aload_n dX7_twice_48 rfl rfl ?_
        refine g_iload_n dX7_twice_49 rfl rfl ?_
        refine g_iload_n dX7_twice_50 rfl rfl ?_
        refine g_iload_n dX7_twice_51 rfl rfl ?_
        refine g_aload_n dX7_twice_52 rfl rfl ?_
        refine g_getI dX7_twice_53 fl_X7_7 rfl rfl (hR1.2.2.2.1) ?_
        refine g_iconst dX7_twice_56 kI_0 ?_
        refine g_callVv dX7_twice_57 mi_X7_dunks ml_X7_210 (ct_dunks (t := 0) (f := true) rfl hR1 ho.2.1 hq hh a1 (fun _ => a2) (new_ok hob) hd hs (by decide)) rfl rfl rfl rfl (Nat.le_of_ble_eq_true rfl) ⟨lt_r rfl, Nat.le_of_ble_eq_true rfl⟩ (fun M57 h57 => ?_)
        obtain ⟨b1, b2, b3⟩ := h57
        have hok1 := dipD_ok (h := sHt (yN y)) (d := d') (s := s') hob
        refine g_aload_n dX7_twice_60 rfl rfl ?_
        refine g_callVv dX7_twice_61 mi_X7_turnsRow ml_X7_240 (ct_turnsRow hok1.1.2.2.1 b1.1 b1.2.1) rfl rfl rfl rfl (Nat.le_of_ble_eq_true rfl) ⟨lt_r rfl, Nat.le_of_ble_eq_true rfl⟩ (fun M61 h61 => ?_)
        obtain ⟨t1, t2⟩ := h61
        have b4 := b1.turn t1 t2
        have hF2 := (a3.tr b3).tr (t2.up (by decide) (by decide))
        have hR2 := h.2.1.fk hF2 (by decide) (by decide)
        refine g_aload_n dX7_twice_64 rfl rfl ?_
        refine g_iload_n dX7_twice_65 rfl rfl ?_
        refine g_iload dX7_twice_66 rfl ?_
        refine g_iload dX7_twice_68 rfl ?_
        refine g_aload_n dX7_twice_70 rfl rfl ?_
        refine g_getI dX7_twice_71 fl_X7_7 rfl rfl (hR2.2.2.2.1) ?_
        refine g_iload_n dX7_twice_74 rfl rfl ?_
        refine g_callVv dX7_twice_75 mi_X7_dunks ml_X7_210 (ct_dunks (t := 0 + s') (f := false) (by rw [Nat.zero_add]) hR2 ho.2.1 hq hh b4 (fun z => by cases z) (turn_ok hok1) hd3 hs3 (by omega)) rfl rfl rfl rfl (Nat.le_of_ble_eq_true rfl) ⟨lt_r rfl, Nat.le_of_ble_eq_true rfl⟩ (fun M75 h75 => ?_)
        obtain ⟨c1, c2, c3⟩ := h75
        have hF3 := hF2.tr c3
        have hok2 := run_ok (h := sHt (yN y)) (ent_ok (d := d3) (turn_ok hok1)) s3
        refine g_aload_n dX7_twice_78 rfl rfl ?_
        refine g_callVp dX7_twice_79 mi_X7_worthNow ml_X7_237 (ct_worthNow (h.2.1.fk hF3 (by decide) (by decide)) ho.2.1 hok2.1.2.2.1 c1.1 c1.2.1 hok2.1.2.2.2) rfl rfl rfl rfl (Nat.le_of_ble_eq_true rfl) ⟨lt_r rfl, Nat.le_of_ble_eq_true rfl⟩ ?_
        refine g_iret dX7_twice_82 ⟨_, rfl, ?_⟩
        exact QM.s h hF3.d rfl
      · refine g_aload_n dX7_twice_36 rfl rfl ?_
        refine g_bipush dX7_twice_37 kB_m6 ?_
        refine g_callVi dX7_twice_39 mi_X7_no ml_X7_100 (ct_no (w := 6) h (by decide) (by decide)) rfl rfl rfl rfl (Nat.le_of_ble_eq_true rfl) ⟨lt_r rfl, Nat.le_of_ble_eq_true rfl⟩ (fun x39 M39 h39 => ?_)
        refine g_iret dX7_twice_42 ⟨_, rfl, ?_⟩
        exact QM.rf (by unfold o_twice; rw [if_neg (fun z => z c_5), if_pos (fun z => by first | exact c_21 z.1 | exact c_33 z.2)]) h39
  · refine g_aload_n dX7_twice_8 rfl rfl ?_
    refine g_iconst dX7_twice_9 kI_m1 ?_
    refine g_callVi dX7_twice_10 mi_X7_no ml_X7_100 (ct_no (w := 1) h (by decide) (by decide)) rfl rfl rfl rfl (Nat.le_of_ble_eq_true rfl) ⟨lt_r rfl, Nat.le_of_ble_eq_true rfl⟩ (fun x10 M10 h10 => ?_)
    refine g_iret dX7_twice_13 ⟨_, rfl, ?_⟩
    exact QM.rf (if_pos c_5) h10
end X7F
