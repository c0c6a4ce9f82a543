/-! the class's Biscuit -/
section BIS
variable {E : EE} {B : Nat} {M : MM} {k : Nat}
set_option maxRecDepth 10000 in
theorem ct_X1_hasCell {cell : Int32} (hb : isB k) : Ct E B yX1_hasCell cX1_hasCell 2 (some .boolean) 0 [.ref (B + k), .int cell] M (Rp (bp (0 ≤ cell ∧ cell < M.1 (B + k) 2)) M) := by
  refine Ct.of2 (own := RX1) (lv := [(0, .ref (B + k)), (1, .int cell)]) pn_X1 rfl (Nat.le_of_ble_eq_true rfl) rfl ?_
  refine g_iload_n dX1_hasCell_0 rfl rfl ?_
  refine g_if_lt (tgt := 16) dX1_hasCell_1 (by decide) (fun c_1 => ?_) (fun c_1 => ?_)
  · refine g_iconst dX1_hasCell_16 kI_0 ?_
    refine g_zret dX1_hasCell_17 (by first | exact Or.inl rfl | exact Or.inr rfl | exact bp_01) ⟨_, rfl, ?_⟩
    first | exact ⟨bp_t ⟨Int32.not_lt.mp c_1, Int32.not_le.mp c_9⟩, rfl⟩ | exact ⟨bp_f (fun q => Int32.not_lt.mpr q.1 c_1), rfl⟩ | exact ⟨bp_f (fun q => Int32.not_le.mpr q.2 c_9), rfl⟩
  · refine g_iload_n dX1_hasCell_4 rfl rfl ?_
    refine g_aload_n dX1_hasCell_5 rfl rfl ?_
    refine g_getI dX1_hasCell_6 fl_X1_22 hb.1 rfl rfl ?_
    refine g_icmp_ge (tgt := 16) dX1_hasCell_9 (by decide) (fun c_9 => ?_) (fun c_9 => ?_)
    · refine g_iconst dX1_hasCell_16 kI_0 ?_
      refine g_zret dX1_hasCell_17 (by first | exact Or.inl rfl | exact Or.inr rfl | exact bp_01) ⟨_, rfl, ?_⟩
      first | exact ⟨bp_t ⟨Int32.not_lt.mp c_1, Int32.not_le.mp c_9⟩, rfl⟩ | exact ⟨bp_f (fun q => Int32.not_lt.mpr q.1 c_1), rfl⟩ | exact ⟨bp_f (fun q => Int32.not_le.mpr q.2 c_9), rfl⟩
    · refine g_iconst dX1_hasCell_12 kI_1 ?_
      refine g_goto (tgt := 17) dX1_hasCell_13 (by decide) ?_
      refine g_zret dX1_hasCell_17 (by first | exact Or.inl rfl | exact Or.inr rfl | exact bp_01) ⟨_, rfl, ?_⟩
      first | exact ⟨bp_t ⟨Int32.not_lt.mp c_1, Int32.not_le.mp c_9⟩, rfl⟩ | exact ⟨bp_f (fun q => Int32.not_lt.mpr q.1 c_1), rfl⟩ | exact ⟨bp_f (fun q => Int32.not_le.mpr q.2 c_9), rfl⟩
theorem ct_X1_hasCellN {b : Bi} {c : Nat} (hb : isB k) (h : RB M (B + k) (B + (k + 1)) b) (hc : c < 2 ^ 31) (hn : b.2.2.1 < 2 ^ 31) : Ct E B yX1_hasCell cX1_hasCell 2 (some .boolean) 0 [.ref (B + k), .int (nI c)] M (Rp (bp (c < b.2.2.1)) M) := by
  refine (ct_X1_hasCell hb).weaken (fun r M' hr => ?_)
  obtain ⟨x, h1, h2, h3⟩ := hr
  refine ⟨x, h1, h2.trans (bp_iff ?_), h3⟩
  rw [h.2.2.1, nI_ltI hc hn]
  exact ⟨fun q => q.2, fun q => ⟨nI_pos' hc, q⟩⟩
set_option maxRecDepth 10000 in
theorem ct_X1_soakOf {b : Bi} {c h : Nat} (hb : isB k) (hR : RB M (B + k) (B + (k + 1)) b) (ho : okB b) (hc : c < 2 ^ 31) (hh : h < 2 ^ 31) : Ct E B yX1_soakOf cX1_soakOf 4 (some .int) 0 [.ref (B + k), .int (nI c), .int (nI h)] M (Rp (nI (soakN b.1 b.2.1 b.2.2.1 c h)) M) := by
  obtain ⟨o1, o2, o3, o4⟩ := ho
  refine Ct.of2 (own := RX1) (lv := [(0, .ref (B + k)), (1, .int (nI c)), (2, .int (nI h))]) pn_X1 rfl (Nat.le_of_ble_eq_true rfl) rfl ?_
  refine g_iconst dX1_soakOf_0 kI_1 ?_
  refine g_aload_n dX1_soakOf_1 rfl rfl ?_
  refine g_getI dX1_soakOf_2 fl_X1_19 hb.1 rfl (hR.2.1) ?_
  refine g_iadd dX1_soakOf_5 (nI_add _ _) ?_
  refine g_iload_n dX1_soakOf_6 rfl rfl ?_
  refine g_bipush dX1_soakOf_7 kB_10 ?_
  refine g_idiv dX1_soakOf_9 (nI_ne0 (by omega) (by omega)) (pk_div (by omega) (by omega) (by omega)) ?_
  refine g_iadd dX1_soakOf_10 (nI_add _ _) ?_
  refine g_istore_n dX1_soakOf_11 rfl (lt_r rfl) rfl ?_
  refine g_aload_n dX1_soakOf_12 rfl rfl ?_
  refine g_getI dX1_soakOf_13 fl_X1_15 hb.1 rfl (hR.1) ?_
  refine g_tblC (off := 40) (tgt := 56) dX1_soakOf_16 1 (by decide) (by decide) (by decide) (by decide) (fun c_16_1 => ?_) (fun c_16_1 => ?_)
  · refine g_iload_n dX1_soakOf_56 rfl rfl ?_
    refine g_iconst dX1_soakOf_57 kI_2 ?_
    refine g_idiv dX1_soakOf_58 (nI_ne0 (by omega) (by omega)) (pk_div (by omega) (by omega) (by omega)) ?_
    refine g_iret dX1_soakOf_59 ⟨_, rfl, ?_⟩
    refine ⟨?_, rfl⟩
    unfold soakN
    first | (have e1 : b.1 = 1 := (nI_eq (by omega) (by omega)).mp c_16_1; simp [e1]; done) | (have e1 : b.1 = 2 := (nI_eq (by omega) (by omega)).mp c_16_2; simp [e1, c_67]; done) | (have e1 : b.1 = 3 := (nI_eq (by omega) (by omega)).mp c_16_3; simp [e1]; done) | (have e1 : b.1 = 4 := (nI_eq (by omega) (by omega)).mp c_16_4; simp [e1]; done) | (have e1 : b.1 = 5 := (nI_eq (by omega) (by omega)).mp c_16_5; simp [e1, c_67]; done) | (have e1 : b.1 = 6 := (nI_eq (by omega) (by omega)).mp c_16_6; simp [e1]; done) | (have k1 := nI_toInt (n := b.1) (by omega); rw [if_neg (by omega), if_neg (by omega), if_neg (by omega)])
  refine g_tblC (off := 44) (tgt := 60) dX1_soakOf_16 2 (by decide) (by decide) (by decide) (by decide) (fun c_16_2 => ?_) (fun c_16_2 => ?_)
  · refine g_iload_n dX1_soakOf_60 rfl rfl ?_
    refine g_aload_n dX1_soakOf_61 rfl rfl ?_
    refine g_getI dX1_soakOf_62 fl_X1_22 hb.1 rfl (hR.2.2.1) ?_
    refine g_iconst dX1_soakOf_65 kI_2 ?_
    refine g_idiv dX1_soakOf_66 (nI_ne0 (by omega) (by omega)) (pk_div (by omega) (by omega) (by omega)) ?_
    refine g_icmp_neN (tgt := 76) dX1_soakOf_67 (by decide) rfl rfl (by omega) (by omega) (fun c_67 => ?_) (fun c_67 => ?_)
    · refine g_iload_n dX1_soakOf_76 rfl rfl ?_
      refine g_iret dX1_soakOf_77 ⟨_, rfl, ?_⟩
      refine ⟨?_, rfl⟩
      unfold soakN
      first | (have e1 : b.1 = 1 := (nI_eq (by omega) (by omega)).mp c_16_1; simp [e1]; done) | (have e1 : b.1 = 2 := (nI_eq (by omega) (by omega)).mp c_16_2; simp [e1, c_67]; done) | (have e1 : b.1 = 3 := (nI_eq (by omega) (by omega)).mp c_16_3; simp [e1]; done) | (have e1 : b.1 = 4 := (nI_eq (by omega) (by omega)).mp c_16_4; simp [e1]; done) | (have e1 : b.1 = 5 := (nI_eq (by omega) (by omega)).mp c_16_5; simp [e1, c_67]; done) | (have e1 : b.1 = 6 := (nI_eq (by omega) (by omega)).mp c_16_6; simp [e1]; done) | (have k1 := nI_toInt (n := b.1) (by omega); rw [if_neg (by omega), if_neg (by omega), if_neg (by omega)])
    · refine g_iload_n dX1_soakOf_70 rfl rfl ?_
      refine g_iconst dX1_soakOf_71 kI_2 ?_
      refine g_imul dX1_soakOf_72 (pk_mul _ _) ?_
      refine g_goto (tgt := 77) dX1_soakOf_73 (by decide) ?_
      refine g_iret dX1_soakOf_77 ⟨_, rfl, ?_⟩
      refine ⟨?_, rfl⟩
      unfold soakN
      first | (have e1 : b.1 = 1 := (nI_eq (by omega) (by omega)).mp c_16_1; simp [e1]; done) | (have e1 : b.1 = 2 := (nI_eq (by omega) (by omega)).mp c_16_2; simp [e1, c_67]; done) | (have e1 : b.1 = 3 := (nI_eq (by omega) (by omega)).mp c_16_3; simp [e1]; done) | (have e1 : b.1 = 4 := (nI_eq (by omega) (by omega)).mp c_16_4; simp [e1]; done) | (have e1 : b.1 = 5 := (nI_eq (by omega) (by omega)).mp c_16_5; simp [e1, c_67]; done) | (have e1 : b.1 = 6 := (nI_eq (by omega) (by omega)).mp c_16_6; simp [e1]; done) | (have k1 := nI_toInt (n := b.1) (by omega); rw [if_neg (by omega), if_neg (by omega), if_neg (by omega)])
  refine g_tblC (off := 40) (tgt := 56) dX1_soakOf_16 3 (by decide) (by decide) (by decide) (by decide) (fun c_16_3 => ?_) (fun c_16_3 => ?_)
  · refine g_iload_n dX1_soakOf_56 rfl rfl ?_
    refine g_iconst dX1_soakOf_57 kI_2 ?_
    refine g_idiv dX1_soakOf_58 (nI_ne0 (by omega) (by omega)) (pk_div (by omega) (by omega) (by omega)) ?_
    refine g_iret dX1_soakOf_59 ⟨_, rfl, ?_⟩
    refine ⟨?_, rfl⟩
    unfold soakN
    first | (have e1 : b.1 = 1 := (nI_eq (by omega) (by omega)).mp c_16_1; simp [e1]; done) | (have e1 : b.1 = 2 := (nI_eq (by omega) (by omega)).mp c_16_2; simp [e1, c_67]; done) | (have e1 : b.1 = 3 := (nI_eq (by omega) (by omega)).mp c_16_3; simp [e1]; done) | (have e1 : b.1 = 4 := (nI_eq (by omega) (by omega)).mp c_16_4; simp [e1]; done) | (have e1 : b.1 = 5 := (nI_eq (by omega) (by omega)).mp c_16_5; simp [e1, c_67]; done) | (have e1 : b.1 = 6 := (nI_eq (by omega) (by omega)).mp c_16_6; simp [e1]; done) | (have k1 := nI_toInt (n := b.1) (by omega); rw [if_neg (by omega), if_neg (by omega), if_neg (by omega)])
  refine g_tblC (off := 62) (tgt := 78) dX1_soakOf_16 4 (by decide) (by decide) (by decide) (by decide) (fun c_16_4 => ?_) (fun c_16_4 => ?_)
  · refine g_iload_n dX1_soakOf_78 rfl rfl ?_
    refine g_iconst dX1_soakOf_79 kI_2 ?_
    refine g_imul dX1_soakOf_80 (pk_mul _ _) ?_
    refine g_iret dX1_soakOf_81 ⟨_, rfl, ?_⟩
    refine ⟨?_, rfl⟩
    unfold soakN
    first | (have e1 : b.1 = 1 := (nI_eq (by omega) (by omega)).mp c_16_1; simp [e1]; done) | (have e1 : b.1 = 2 := (nI_eq (by omega) (by omega)).mp c_16_2; simp [e1, c_67]; done) | (have e1 : b.1 = 3 := (nI_eq (by omega) (by omega)).mp c_16_3; simp [e1]; done) | (have e1 : b.1 = 4 := (nI_eq (by omega) (by omega)).mp c_16_4; simp [e1]; done) | (have e1 : b.1 = 5 := (nI_eq (by omega) (by omega)).mp c_16_5; simp [e1, c_67]; done) | (have e1 : b.1 = 6 := (nI_eq (by omega) (by omega)).mp c_16_6; simp [e1]; done) | (have k1 := nI_toInt (n := b.1) (by omega); rw [if_neg (by omega), if_neg (by omega), if_neg (by omega)])
  refine g_tblC (off := 44) (tgt := 60) dX1_soakOf_16 5 (by decide) (by decide) (by decide) (by decide) (fun c_16_5 => ?_) (fun c_16_5 => ?_)
  · refine g_iload_n dX1_soakOf_60 rfl rfl ?_
    refine g_aload_n dX1_soakOf_61 rfl rfl ?_
    refine g_getI dX1_soakOf_62 fl_X1_22 hb.1 rfl (hR.2.2.1) ?_
    refine g_iconst dX1_soakOf_65 kI_2 ?_
    refine g_idiv dX1_soakOf_66 (nI_ne0 (by omega) (by omega)) (pk_div (by omega) (by omega) (by omega)) ?_
    refine g_icmp_neN (tgt := 76) dX1_soakOf_67 (by decide) rfl rfl (by omega) (by omega) (fun c_67 => ?_) (fun c_67 => ?_)
    · refine g_iload_n dX1_soakOf_76 rfl rfl ?_
      refine g_iret dX1_soakOf_77 ⟨_, rfl, ?_⟩
      refine ⟨?_, rfl⟩
      unfold soakN
      first | (have e1 : b.1 = 1 := (nI_eq (by omega) (by omega)).mp c_16_1; simp [e1]; done) | (have e1 : b.1 = 2 := (nI_eq (by omega) (by omega)).mp c_16_2; simp [e1, c_67]; done) | (have e1 : b.1 = 3 := (nI_eq (by omega) (by omega)).mp c_16_3; simp [e1]; done) | (have e1 : b.1 = 4 := (nI_eq (by omega) (by omega)).mp c_16_4; simp [e1]; done) | (have e1 : b.1 = 5 := (nI_eq (by omega) (by omega)).mp c_16_5; simp [e1, c_67]; done) | (have e1 : b.1 = 6 := (nI_eq (by omega) (by omega)).mp c_16_6; simp [e1]; done) | (have k1 := nI_toInt (n := b.1) (by omega); rw [if_neg (by omega), if_neg (by omega), if_neg (by omega)])
    · refine g_iload_n dX1_soakOf_70 rfl rfl ?_
      refine g_iconst dX1_soakOf_71 kI_2 ?_
      refine g_imul dX1_soakOf_72 (pk_mul _ _) ?_
      refine g_goto (tgt := 77) dX1_soakOf_73 (by decide) ?_
      refine g_iret dX1_soakOf_77 ⟨_, rfl, ?_⟩
      refine ⟨?_, rfl⟩
      unfold soakN
      first | (have e1 : b.1 = 1 := (nI_eq (by omega) (by omega)).mp c_16_1; simp [e1]; done) | (have e1 : b.1 = 2 := (nI_eq (by omega) (by omega)).mp c_16_2; simp [e1, c_67]; done) | (have e1 : b.1 = 3 := (nI_eq (by omega) (by omega)).mp c_16_3; simp [e1]; done) | (have e1 : b.1 = 4 := (nI_eq (by omega) (by omega)).mp c_16_4; simp [e1]; done) | (have e1 : b.1 = 5 := (nI_eq (by omega) (by omega)).mp c_16_5; simp [e1, c_67]; done) | (have e1 : b.1 = 6 := (nI_eq (by omega) (by omega)).mp c_16_6; simp [e1]; done) | (have k1 := nI_toInt (n := b.1) (by omega); rw [if_neg (by omega), if_neg (by omega), if_neg (by omega)])
  refine g_tblC (off := 62) (tgt := 78) dX1_soakOf_16 6 (by decide) (by decide) (by decide) (by decide) (fun c_16_6 => ?_) (fun c_16_6 => ?_)
  · refine g_iload_n dX1_soakOf_78 rfl rfl ?_
    refine g_iconst dX1_soakOf_79 kI_2 ?_
    refine g_imul dX1_soakOf_80 (pk_mul _ _) ?_
    refine g_iret dX1_soakOf_81 ⟨_, rfl, ?_⟩
    refine ⟨?_, rfl⟩
    unfold soakN
    first | (have e1 : b.1 = 1 := (nI_eq (by omega) (by omega)).mp c_16_1; simp [e1]; done) | (have e1 : b.1 = 2 := (nI_eq (by omega) (by omega)).mp c_16_2; simp [e1, c_67]; done) | (have e1 : b.1 = 3 := (nI_eq (by omega) (by omega)).mp c_16_3; simp [e1]; done) | (have e1 : b.1 = 4 := (nI_eq (by omega) (by omega)).mp c_16_4; simp [e1]; done) | (have e1 : b.1 = 5 := (nI_eq (by omega) (by omega)).mp c_16_5; simp [e1, c_67]; done) | (have e1 : b.1 = 6 := (nI_eq (by omega) (by omega)).mp c_16_6; simp [e1]; done) | (have k1 := nI_toInt (n := b.1) (by omega); rw [if_neg (by omega), if_neg (by omega), if_neg (by omega)])
  refine g_tableOut (tgt := 82) dX1_soakOf_16 (by have k1 := nI_toInt (n := b.1) (by omega); omega) (by decide) ?_
  refine g_iload_n dX1_soakOf_82 rfl rfl ?_
  refine g_iret dX1_soakOf_83 ⟨_, rfl, ?_⟩
  refine ⟨?_, rfl⟩
  unfold soakN
  first | (have e1 : b.1 = 1 := (nI_eq (by omega) (by omega)).mp c_16_1; simp [e1]; done) | (have e1 : b.1 = 2 := (nI_eq (by omega) (by omega)).mp c_16_2; simp [e1, c_67]; done) | (have e1 : b.1 = 3 := (nI_eq (by omega) (by omega)).mp c_16_3; simp [e1]; done) | (have e1 : b.1 = 4 := (nI_eq (by omega) (by omega)).mp c_16_4; simp [e1]; done) | (have e1 : b.1 = 5 := (nI_eq (by omega) (by omega)).mp c_16_5; simp [e1, c_67]; done) | (have e1 : b.1 = 6 := (nI_eq (by omega) (by omega)).mp c_16_6; simp [e1]; done) | (have k1 := nI_toInt (n := b.1) (by omega); rw [if_neg (by omega), if_neg (by omega), if_neg (by omega)])
set_option maxRecDepth 10000 in
theorem ct_X1_creepInto {b : Bi} {c : Nat} (hb : isB k) (hR : RB M (B + k) (B + (k + 1)) b) (ho : okB b) (hc : c < b.2.2.1) : Ct E B yX1_creepInto cX1_creepInto 3 (some .int) 0 [.ref (B + k), .int (nI c)] M (Rp (nI (creepN b.1 b.2.2.2 c)) M) := by
  obtain ⟨o1, o2, o3, o4⟩ := ho
  have w1 := o4 c
  have w2 := o4 (c - 1)
  refine Ct.of2 (own := RX1) (lv := [(0, .ref (B + k)), (1, .int (nI c))]) pn_X1 rfl (Nat.le_of_ble_eq_true rfl) rfl ?_
  refine g_iload_n dX1_creepInto_0 rfl rfl ?_
  refine g_iconst dX1_creepInto_1 kI_1 ?_
  refine g_icmp_ltN (tgt := 13) dX1_creepInto_2 (by decide) rfl rfl (by omega) (by omega) (fun c_2 => ?_) (fun c_2 => ?_)
  · refine g_iconst dX1_creepInto_13 kI_0 ?_
    refine g_iret dX1_creepInto_14 ⟨_, rfl, ?_⟩
    refine ⟨?_, rfl⟩
    have e0 : c = 0 := by omega
    subst e0
    rfl
  · refine g_iload_n dX1_creepInto_5 rfl rfl ?_
    refine g_aload_n dX1_creepInto_6 rfl rfl ?_
    refine g_getI dX1_creepInto_7 fl_X1_22 hb.1 rfl (hR.2.2.1) ?_
    refine g_icmp_ltN (tgt := 15) dX1_creepInto_10 (by decide) rfl rfl (by omega) (by omega) (fun c_10 => ?_) (fun c_10 => ?_)
    · refine g_aload_n dX1_creepInto_15 rfl rfl ?_
      refine g_getR dX1_creepInto_16 fl_X1_9 hb.1 rfl ?_
      refine g_iload_n dX1_creepInto_19 rfl rfl ?_
      refine g_iconst dX1_creepInto_20 kI_1 ?_
      first | refine g_isub dX1_creepInto_21 (pk_sub (by omega)) ?_ | refine g_isub dX1_creepInto_21 rfl ?_
      refine g_iald dX1_creepInto_22 hb.2 rfl (by omega) (hR.2.2.2 _ (by omega)) ?_
      refine g_aload_n dX1_creepInto_23 rfl rfl ?_
      refine g_getR dX1_creepInto_24 fl_X1_9 hb.1 rfl ?_
      refine g_iload_n dX1_creepInto_27 rfl rfl ?_
      refine g_iald dX1_creepInto_28 hb.2 rfl (by omega) (hR.2.2.2 _ hc) ?_
      refine g_isub dX1_creepInto_29 (rfl) ?_
      refine g_istore_n dX1_creepInto_30 rfl (lt_r rfl) rfl ?_
      refine g_iload_n dX1_creepInto_31 rfl rfl ?_
      refine g_if_gt (tgt := 37) dX1_creepInto_32 (by decide) (fun c_32 => ?_) (fun c_32 => ?_)
      · have c_32 := (sub_pos (by omega) (by omega)).mp c_32
        rw [pk_sub (by omega)]
        refine g_aload_n dX1_creepInto_37 rfl rfl ?_
        refine g_getI dX1_creepInto_38 fl_X1_15 hb.1 rfl (hR.1) ?_
        refine g_iconst dX1_creepInto_41 kI_3 ?_
        refine g_icmp_neN (tgt := 51) dX1_creepInto_42 (by decide) rfl rfl (by omega) (by omega) (fun c_42 => ?_) (fun c_42 => ?_)
        · refine g_iload_n dX1_creepInto_51 rfl rfl ?_
          refine g_iconst dX1_creepInto_52 kI_4 ?_
          refine g_idiv dX1_creepInto_53 (nI_ne0 (by omega) (by omega)) (pk_div (by omega) (by omega) (by omega)) ?_
          refine g_iret dX1_creepInto_54 ⟨_, rfl, ?_⟩
          refine ⟨?_, rfl⟩
          unfold creepN
          first | rw [if_neg (by omega), if_pos c_42] | rw [if_neg (by omega), if_neg c_42]
        · refine g_iload_n dX1_creepInto_45 rfl rfl ?_
          refine g_iconst dX1_creepInto_46 kI_2 ?_
          refine g_idiv dX1_creepInto_47 (nI_ne0 (by omega) (by omega)) (pk_div (by omega) (by omega) (by omega)) ?_
          refine g_goto (tgt := 54) dX1_creepInto_48 (by decide) ?_
          refine g_iret dX1_creepInto_54 ⟨_, rfl, ?_⟩
          refine ⟨?_, rfl⟩
          unfold creepN
          first | rw [if_neg (by omega), if_pos c_42] | rw [if_neg (by omega), if_neg c_42]
      · refine g_iconst dX1_creepInto_35 kI_0 ?_
        refine g_iret dX1_creepInto_36 ⟨_, rfl, ?_⟩
        have c_32 := Nat.not_lt.mp (fun q => c_32 ((sub_pos (by omega) (by omega)).mpr q))
        refine ⟨?_, rfl⟩
        unfold creepN
        have e0 : b.2.2.2 (c - 1) - b.2.2.2 c = 0 := by omega
        rw [e0, if_neg (by omega)]
        split <;> rfl
    · refine g_iconst dX1_creepInto_13 kI_0 ?_
      refine g_iret dX1_creepInto_14 ⟨_, rfl, ?_⟩
      refine ⟨?_, rfl⟩
      have e0 : c = 0 := by omega
      subst e0
      rfl
set_option maxRecDepth 10000 in
theorem ct_X1_holdsSoWet {b : Bi} {w : Nat} (hb : isB k) (hR : RB M (B + k) (B + (k + 1)) b) (ho : okB b) : Ct E B yX1_holdsSoWet cX1_holdsSoWet 3 (some .int) 0 [.ref (B + k), .int (nI w)] M (Rp (holdI b.1 b.2.1 w) M) := by
  obtain ⟨o1, o2, o3, o4⟩ := ho
  refine Ct.of2 (own := RX1) (lv := [(0, .ref (B + k)), (1, .int (nI w))]) pn_X1 rfl (Nat.le_of_ble_eq_true rfl) rfl ?_
  refine g_bipush dX1_holdsSoWet_0 kB_60 ?_
  refine g_istore_n dX1_holdsSoWet_2 rfl (lt_r rfl) rfl ?_
  refine g_aload_n dX1_holdsSoWet_3 rfl rfl ?_
  refine g_getI dX1_holdsSoWet_4 fl_X1_15 hb.1 rfl (hR.1) ?_
  refine g_iconst dX1_holdsSoWet_7 kI_5 ?_
  refine g_icmp_neN (tgt := 17) dX1_holdsSoWet_8 (by decide) rfl rfl (by omega) (by omega) (fun c_8 => ?_) (fun c_8 => ?_)
  · refine g_aload_n dX1_holdsSoWet_17 rfl rfl ?_
    refine g_getI dX1_holdsSoWet_18 fl_X1_15 hb.1 rfl (hR.1) ?_
    refine g_bipush dX1_holdsSoWet_21 kB_6 ?_
    refine g_icmp_neN (tgt := 33) dX1_holdsSoWet_23 (by decide) rfl rfl (by omega) (by omega) (fun c_23 => ?_) (fun c_23 => ?_)
    · refine g_iload_n dX1_holdsSoWet_33 rfl rfl ?_
      refine g_iload_n dX1_holdsSoWet_34 rfl rfl ?_
      refine g_isub dX1_holdsSoWet_35 (rfl) ?_
      refine g_iret dX1_holdsSoWet_36 ⟨_, rfl, ?_⟩
      refine ⟨?_, rfl⟩
      unfold holdI extN
      first | rw [if_pos c_8] | rw [if_neg c_8, if_pos c_23] | rw [if_neg c_8, if_neg c_23]
    · refine g_iload_n dX1_holdsSoWet_26 rfl rfl ?_
      refine g_aload_n dX1_holdsSoWet_27 rfl rfl ?_
      refine g_getI dX1_holdsSoWet_28 fl_X1_19 hb.1 rfl (hR.2.1) ?_
      refine g_iadd dX1_holdsSoWet_31 (nI_add _ _) ?_
      refine g_istore_n dX1_holdsSoWet_32 rfl (lt_r rfl) rfl ?_
      refine g_iload_n dX1_holdsSoWet_33 rfl rfl ?_
      refine g_iload_n dX1_holdsSoWet_34 rfl rfl ?_
      refine g_isub dX1_holdsSoWet_35 (rfl) ?_
      refine g_iret dX1_holdsSoWet_36 ⟨_, rfl, ?_⟩
      refine ⟨?_, rfl⟩
      unfold holdI extN
      first | rw [if_pos c_8] | rw [if_neg c_8, if_pos c_23] | rw [if_neg c_8, if_neg c_23]
  · refine g_iinc (v := nI (60 + 40)) dX1_holdsSoWet_11 rfl (nI_add 60 40) rfl ?_
    refine g_goto (tgt := 33) dX1_holdsSoWet_14 (by decide) ?_
    refine g_iload_n dX1_holdsSoWet_33 rfl rfl ?_
    refine g_iload_n dX1_holdsSoWet_34 rfl rfl ?_
    refine g_isub dX1_holdsSoWet_35 (rfl) ?_
    refine g_iret dX1_holdsSoWet_36 ⟨_, rfl, ?_⟩
    refine ⟨?_, rfl⟩
    unfold holdI extN
    first | rw [if_pos c_8] | rw [if_neg c_8, if_pos c_23] | rw [if_neg c_8, if_neg c_23]
/-- breaks: the loop -/
theorem lp_X1_breakingCell {b : Bi} (hb : isB k) (hR : RB M (B + k) (B + (k + 1)) b) (ho : okB b) : ∀ (f c : Nat), b.2.2.1 ≤ f + (c + 1) → c + 1 ≤ 13 →
    G E B cX1_breakingCell (RX1, 3, some .int, rmD 1, 0, 0, KM E B (Rp (brkI (brkF (extN b.1 b.2.1) b.2.2.2 b.2.2.1 f (c + 1))) M)) 4 [(0, .ref (B + k)), (1, .int (nI (hangN b.2.2.2 c))), (2, .int (nI (c + 1)))] [] M := by
  have ho' := ho
  obtain ⟨o1, o2, o3, o4⟩ := ho
  intro f
  induction f with
  | zero =>
    intro c h1 h2
    refine g_iload_n dX1_breakingCell_4 rfl rfl ?_
    refine g_aload_n dX1_breakingCell_5 rfl rfl ?_
    refine g_getI dX1_breakingCell_6 fl_X1_22 hb.1 rfl (hR.2.2.1) ?_
    refine g_icmp_geN (tgt := 50) dX1_breakingCell_9 (by decide) rfl rfl (by omega) (by omega) (fun c_9 => ?_) (fun c_9 => absurd c_9 (by omega))
    refine g_iconst dX1_breakingCell_50 kI_m1 ?_
    refine g_iret dX1_breakingCell_51 ⟨_, rfl, ?_⟩
    exact ⟨rfl, rfl⟩
  | succ f ih =>
    intro c h1 h2
    have w1 := hangN_le o4 c
    have w2 := hangN_le o4 (c + 1)
    have w3 := o4 (c + 1)
    have w5 := o4 c
    have w4 : extN b.1 b.2.1 ≤ 40 := by unfold extN; repeat' split
                                        all_goals omega
    refine g_iload_n dX1_breakingCell_4 rfl rfl ?_
    refine g_aload_n dX1_breakingCell_5 rfl rfl ?_
    refine g_getI dX1_breakingCell_6 fl_X1_22 hb.1 rfl (hR.2.2.1) ?_
    refine g_icmp_geN (tgt := 50) dX1_breakingCell_9 (by decide) rfl rfl (by omega) (by omega) (fun c_9 => ?_) (fun c_9 => ?_)
    · refine g_iconst dX1_breakingCell_50 kI_m1 ?_
      refine g_iret dX1_breakingCell_51 ⟨_, rfl, ?_⟩
      refine ⟨?_, rfl⟩
      have e1 : brkF (extN b.1 b.2.1) b.2.2.2 b.2.2.1 (f + 1) (c + 1) = 0 := by
        show (if c + 1 < b.2.2.1 then _ else _) = _
        rw [if_neg (by omega)]
      rw [e1]
      rfl
    · refine g_iload_n dX1_breakingCell_12 rfl rfl ?_
      refine g_iconst dX1_breakingCell_13 kI_1 ?_
      refine g_aload_n dX1_breakingCell_14 rfl rfl ?_
      refine g_getR dX1_breakingCell_15 fl_X1_9 hb.1 rfl ?_
      refine g_iload_n dX1_breakingCell_18 rfl rfl ?_
      refine g_iconst dX1_breakingCell_19 kI_1 ?_
      refine g_isub dX1_breakingCell_20 ((show nI (c + 1) - nI 1 = nI c from pk_sub (by omega))) ?_
      refine g_iald dX1_breakingCell_21 hb.2 rfl (by omega) (hR.2.2.2 c (by omega)) ?_
      refine g_bipush dX1_breakingCell_22 kB_20 ?_
      refine g_idiv dX1_breakingCell_24 (nI_ne0 (by omega) (by omega)) (pk_div (by omega) (by omega) (by omega)) ?_
      refine g_iadd dX1_breakingCell_25 (nI_add _ _) ?_
      refine g_iadd dX1_breakingCell_26 (nI_add _ _) ?_
      refine g_istore_n dX1_breakingCell_27 rfl (lt_r rfl) rfl ?_
      refine g_iload_n dX1_breakingCell_28 rfl rfl ?_
      refine g_aload_n dX1_breakingCell_29 rfl rfl ?_
      refine g_aload_n dX1_breakingCell_30 rfl rfl ?_
      refine g_getR dX1_breakingCell_31 fl_X1_9 hb.1 rfl ?_
      refine g_iload_n dX1_breakingCell_34 rfl rfl ?_
      refine g_iald dX1_breakingCell_35 hb.2 rfl (by omega) (hR.2.2.2 (c + 1) (by omega)) ?_
      refine g_callVp dX1_breakingCell_36 mi_X1_holdsSoWet ml_X1_41 (ct_X1_holdsSoWet hb hR ho') hb.1 rfl rfl rfl (Nat.le_of_ble_eq_true rfl) ⟨lt_r rfl, Nat.le_of_ble_eq_true rfl⟩ ?_
      refine g_icmp_le (tgt := 44) dX1_breakingCell_39 (by decide) (fun c_39 => ?_) (fun c_39 => ?_)
      · refine g_iinc dX1_breakingCell_44 rfl (inc_nI _) rfl ?_
        refine g_goto (tgt := 4) dX1_breakingCell_47 (by decide) ?_
        have c_39 := (le_subI (by omega) (by omega) (by omega)).mp c_39
        have e1 : brkF (extN b.1 b.2.1) b.2.2.2 b.2.2.1 (f + 1) (c + 1) = brkF (extN b.1 b.2.1) b.2.2.2 b.2.2.1 f (c + 1 + 1) := by
          show (if c + 1 < b.2.2.1 then _ else _) = _
          rw [if_pos c_9, if_neg (by show ¬ _ < hangN b.2.2.2 c + (1 + b.2.2.2 c / 20) + _; omega)]
        rw [e1]
        exact g_le (lvLe_c rfl (lvLe_c rfl (lvLe_c rfl lvLe_0))) (ih (c + 1) (by omega) (by omega))
      · refine g_iload_n dX1_breakingCell_42 rfl rfl ?_
        refine g_iret dX1_breakingCell_43 ⟨_, rfl, ?_⟩
        refine ⟨?_, rfl⟩
        have c_39 := Nat.not_le.mp (fun q => c_39 ((le_subI (by omega) (by omega) (by omega)).mpr q))
        have e1 : brkF (extN b.1 b.2.1) b.2.2.2 b.2.2.1 (f + 1) (c + 1) = c + 1 := by
          show (if c + 1 < b.2.2.1 then _ else _) = _
          rw [if_pos c_9, if_pos (by show _ < hangN b.2.2.2 c + (1 + b.2.2.2 c / 20) + _; omega)]
        rw [e1]
        unfold brkI
        rw [if_neg (by omega)]
set_option maxRecDepth 10000 in
theorem ct_X1_breakingCell {b : Bi} (hb : isB k) (hR : RB M (B + k) (B + (k + 1)) b) (ho : okB b) : Ct E B yX1_breakingCell cX1_breakingCell 3 (some .int) 1 [.ref (B + k)] M (Rp (brkI (brkN b.1 b.2.1 b.2.2.1 b.2.2.2)) M) := by
  refine Ct.of2 (own := RX1) (lv := [(0, .ref (B + k))]) pn_X1 rfl (Nat.le_of_ble_eq_true rfl) rfl ?_
  refine g_iconst dX1_breakingCell_0 kI_0 ?_
  refine g_istore_n dX1_breakingCell_1 rfl (lt_r rfl) rfl ?_
  refine g_iconst dX1_breakingCell_2 kI_1 ?_
  refine g_istore_n dX1_breakingCell_3 rfl (lt_r rfl) rfl ?_
  exact g_le (lvLe_c rfl (lvLe_c rfl (lvLe_c rfl lvLe_0))) (lp_X1_breakingCell hb hR ho b.2.2.1 0 (by omega) (by omega))
end BIS
