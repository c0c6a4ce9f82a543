theorem brkI_m1 {r : Nat} (h : r < 2 ^ 31) : brkI r = -1 ↔ r = 0 := by
  unfold brkI
  by_cases z : r = 0
  · rw [if_pos z]; exact ⟨fun _ => z, fun _ => rfl⟩
  · rw [if_neg z]; exact ⟨fun q => absurd q (nI_nm1 h), fun q => absurd q z⟩
theorem brkI_n {r : Nat} (h : r ≠ 0) : brkI r = nI r := if_neg h
theorem sec_eq0 {kd a h t : Nat} {D : Dk} (hr : brkN kd a D.1 (secW kd a D.1 D.2.2.1 h D.2.1) = 0) : sec kd a h t D = (D.1, secW kd a D.1 D.2.2.1 h D.2.1, D.2.2.1, D.2.2.2.1, D.2.2.2.2.1 + sumN (tookF kd a D.1 D.2.2.1 h D.2.1) D.1, D.2.2.2.2.2) := by
  unfold sec
  dsimp only
  rw [if_pos hr]
theorem sec_eq1 {kd a h t : Nat} {D : Dk} (hr : brkN kd a D.1 (secW kd a D.1 D.2.2.1 h D.2.1) ≠ 0) : sec kd a h t D = (D.1 - brkN kd a D.1 (secW kd a D.1 D.2.2.1 h D.2.1), (fun i => secW kd a D.1 D.2.2.1 h D.2.1 (i + brkN kd a D.1 (secW kd a D.1 D.2.2.1 h D.2.1))), D.2.2.1 - brkN kd a D.1 (secW kd a D.1 D.2.2.1 h D.2.1), D.2.2.2.1 + brkN kd a D.1 (secW kd a D.1 D.2.2.1 h D.2.1), D.2.2.2.2.1 + sumN (tookF kd a D.1 D.2.2.1 h D.2.1) D.1, if D.2.2.2.2.2 = 0 then t else D.2.2.2.2.2) := by
  unfold sec
  dsimp only
  rw [if_neg hr]
/-- what stands in memory while a second runs down the cells: m are left to do -/
def IS (B : Nat) (M M' : MM) (k kd a h : Nat) (D : Dk) (m : Nat) (x : Int32) : Prop :=
  Sm B M M' k (k + 3) ∧ M'.1 (B + (k + 1)) = M.1 (B + (k + 1)) ∧ (∀ j, j ≠ 6 → M'.1 (B + k) j = M.1 (B + k) j) ∧
  M'.1 (B + k) 6 = nI (D.2.2.2.2.1 + (sumN (tookF kd a D.1 D.2.2.1 h D.2.1) D.1 - sumN (tookF kd a D.1 D.2.2.1 h D.2.1) m)) ∧
  (∀ i, i < D.1 → M'.1 (B + (k + 1 + 1)) i = nI (if m ≤ i then secW kd a D.1 D.2.2.1 h D.2.1 i else D.2.1 i)) ∧
  (x = nI 0 ∨ x = nI 1) ∧ (x = nI 0 → ∀ i, m ≤ i → i < D.1 → secW kd a D.1 D.2.2.1 h D.2.1 i = D.2.1 i)
def QS (B : Nat) (M : MM) (k kd a h t : Nat) (D : Dk) : Option Value → MM → Prop := Ri (fun r M2 => (RD B M2 k kd a h (t + 1) (sec kd a h (t + 1) D) ∧ Sm B M M2 k (k + 3)) ∧ (r = nI 0 ∨ r = nI 1) ∧ (r = nI 0 → ∀ t', sec kd a h t' D = D))
section DUN
variable {E : EE} {B : Nat} {M : MM} {k : Nat}
theorem tl_X2_second {kd a h t : Nat} {D : Dk} (hd : isD k) (hR : RD B M k kd a h t D) (ho : okD kd a t D) (ht : t < 1000) {M' : MM} {x : Int32} (hI : IS B M M' k kd a h D 0 x) :
    G E B cX2_second (RX2, 7, some .boolean, rmD 2, 0, 0, KM E B (QS B M k kd a h t D)) 125 [(0, .ref (B + k)), (1, .int x), (2, .int (-1))] [] M' := by
  obtain ⟨r1, r2, r3, r4, r5, r6, r7⟩ := hR
  have ho' := ho
  obtain ⟨⟨o1, o2, o3, o4⟩, p1, p2, p3, p4, p5⟩ := ho
  have o3 : D.1 ≤ 12 := o3
  have o4 : ∀ i, D.2.1 i ≤ 99 := o4
  obtain ⟨i1, i2, i3, i4, i5, i6, i7⟩ := hI
  have q1 := sumN_le (fun i => tookF_le (kd := kd) (a := a) (n := D.1) (dp := D.2.2.1) (h := h) o4 i) D.1
  have hob : okB (kd, a, D.1, secW kd a D.1 D.2.2.1 h D.2.1) := ⟨o1, o2, o3, secW_le o4⟩
  have hRb : RB (upI M' (B + k) 3 (nI (t + 1))) (B + (k + 1)) (B + (k + 1 + 1)) (kd, a, D.1, secW kd a D.1 D.2.2.1 h D.2.1) := by
    refine ⟨?_, ?_, ?_, fun i hi => ?_⟩
    · rw [upI_ap (by omega), i2]; exact r1.1
    · rw [upI_ap (by omega), i2]; exact r1.2.1
    · rw [upI_ap (by omega), i2]; exact r1.2.2.1
    · have hi : i < D.1 := hi
      rw [upI_ap (by omega), i5 i hi, if_pos (Nat.zero_le _)]
  have hlt : brkN kd a D.1 (secW kd a D.1 D.2.2.1 h D.2.1) < 2 ^ 31 := by
    rcases Nat.eq_zero_or_pos (brkN kd a D.1 (secW kd a D.1 D.2.2.1 h D.2.1)) with z | z
    · rw [z]; decide
    · have := brkN_ok (Nat.pos_iff_ne_zero.mp z); omega
  have s1 : ∀ j, j ≠ 6 → j ≠ 3 → (upI M' (B + k) 3 (nI (t + 1))).1 (B + k) j = M.1 (B + k) j := fun j a1 a2 => by rw [upI_k a2]; exact i3 j a1
  refine g_aload_n dX2_second_125 rfl rfl ?_
  refine g_dup dX2_second_126 rfl ?_
  refine g_getI dX2_second_127 fl_X2_29 hd.1 rfl ((i3 3 (by decide)).trans r4) ?_
  refine g_iconst dX2_second_130 kI_1 ?_
  refine g_iadd dX2_second_131 (nI_add _ _) ?_
  refine g_putI dX2_second_132 fp_X2_29 hd.1 rfl ?_
  refine g_aload_n dX2_second_135 rfl rfl ?_
  refine g_getR dX2_second_136 fl_X2_12 hd.1 rfl ?_
  refine g_callVp dX2_second_139 mi_X1_breakingCell ml_X2_76 (ct_X1_breakingCell hd.2 hRb hob) hd.2.1 rfl rfl rfl (Nat.le_of_ble_eq_true rfl) ⟨lt_r rfl, Nat.le_of_ble_eq_true rfl⟩ ?_
  refine g_istore_n dX2_second_142 rfl (lt_r rfl) rfl ?_
  refine g_iload_n dX2_second_143 rfl rfl ?_
  refine g_iconst dX2_second_144 kI_m1 ?_
  refine g_icmp_ne (tgt := 150) dX2_second_145 (by decide) (fun c_145 => ?_) (fun c_145 => ?_)
  · have hr : brkN kd a D.1 (secW kd a D.1 D.2.2.1 h D.2.1) ≠ 0 := fun z => c_145 ((brkI_m1 hlt).mpr z)
    obtain ⟨u1, u2⟩ := brkN_ok hr
    rw [brkI_n hr]
    refine g_aload_n dX2_second_150 rfl rfl ?_
    refine g_getR dX2_second_151 fl_X2_12 hd.1 rfl ?_
    refine g_iload_n dX2_second_154 rfl rfl ?_
    refine g_callVv dX2_second_155 mi_X1_loseBelow ml_X2_80 (ct_X1_loseBelow hd.2 hRb hob u2) hd.2.1 rfl rfl rfl (Nat.le_of_ble_eq_true rfl) ⟨lt_r rfl, Nat.le_of_ble_eq_true rfl⟩ (fun M155 h155 => ?_)
    have s2 : ∀ j, M155.1 (B + k) j = (upI M' (B + k) 3 (nI (t + 1))).1 (B + k) j := fun j => congrFun (h155.2.i (by omega)) j
    refine g_aload_n dX2_second_158 rfl rfl ?_
    refine g_iconst dX2_second_159 kI_0 ?_
    refine g_aload_n dX2_second_160 rfl rfl ?_
    refine g_getI dX2_second_161 fl_X2_26 hd.1 rfl ((s2 2).trans ((s1 2 (by decide) (by decide)).trans r3)) ?_
    refine g_iload_n dX2_second_164 rfl rfl ?_
    refine g_isub dX2_second_165 (rfl) ?_
    refine g_mmax dX2_second_166 ml_X2_83 (max0_sub (by omega) (by omega)) ⟨lt_r rfl, Nat.le_of_ble_eq_true rfl⟩ ?_
    refine g_putI dX2_second_169 fp_X2_26 hd.1 rfl ?_
    refine g_aload_n dX2_second_172 rfl rfl ?_
    refine g_dup dX2_second_173 rfl ?_
    refine g_getI dX2_second_174 fl_X2_35 hd.1 rfl ((upI_k (by decide)).trans ((s2 5).trans ((s1 5 (by decide) (by decide)).trans r6))) ?_
    refine g_iload_n dX2_second_177 rfl rfl ?_
    refine g_iadd dX2_second_178 (nI_add _ _) ?_
    refine g_putI dX2_second_179 fp_X2_35 hd.1 rfl ?_
    refine g_aload_n dX2_second_182 rfl rfl ?_
    refine g_getI dX2_second_183 fl_X2_32 hd.1 rfl ((upI_k (by decide)).trans ((upI_k (by decide)).trans ((s2 4).trans ((s1 4 (by decide) (by decide)).trans r5)))) ?_
    refine g_iconst dX2_second_186 kI_m1 ?_
    refine g_icmp_ne (tgt := 198) dX2_second_187 (by decide) (fun c_187 => ?_) (fun c_187 => ?_)
    · refine g_iconst dX2_second_198 kI_1 ?_
      refine g_zret dX2_second_199 (by first | exact Or.inl rfl | exact Or.inr rfl | exact bp_01) ⟨_, rfl, ?_⟩
      obtain ⟨⟨g1, g2, g3, g4⟩, g5⟩ := h155
      refine ⟨⟨?_, ?_⟩, Or.inr rfl, fun z => absurd z (by decide)⟩
      · rw [sec_eq1 hr]
        refine ⟨⟨?_, ?_, ?_, fun i hi => ?_⟩, ?_, ?_, ?_, ?_, ?_, ?_⟩
        · repeat rw [upI_ap (by omega)]
          exact g1
        · repeat rw [upI_ap (by omega)]
          exact g2
        · repeat rw [upI_ap (by omega)]
          exact g3
        · repeat rw [upI_ap (by omega)]
          exact g4 i hi
        · simp only [upI_at]; exact (s2 1).trans ((s1 1 (by decide) (by decide)).trans r2)
        · simp only [upI_at]; rfl
        · simp only [upI_at]; exact (s2 3).trans upI_s
        · first | (have fb0 := (brkI_m1 (by omega)).mp c_187; simp only [upI_at, fb0]; rfl) | (have fb0 := fun z => c_187 ((brkI_m1 (by omega)).mpr z); rw [if_neg fb0]; simp only [upI_at]; exact (s2 4).trans ((s1 4 (by decide) (by decide)).trans r5))
        · simp only [upI_at]; rfl
        · simp only [upI_at]; exact (s2 6).trans ((upI_k (by decide)).trans (i4.trans rfl))
      · first | exact Sm.tr (Sm.tr (Sm.tr (Sm.tr (Sm.tr i1 (Sm.pI (by omega) (by omega))) (g5.up (by omega) (by omega))) (Sm.pI (by omega) (by omega))) (Sm.pI (by omega) (by omega))) (Sm.pI (by omega) (by omega)) | exact Sm.tr (Sm.tr (Sm.tr (Sm.tr i1 (Sm.pI (by omega) (by omega))) (g5.up (by omega) (by omega))) (Sm.pI (by omega) (by omega))) (Sm.pI (by omega) (by omega))
    · refine g_aload_n dX2_second_190 rfl rfl ?_
      refine g_aload_n dX2_second_191 rfl rfl ?_
      refine g_getI dX2_second_192 fl_X2_29 hd.1 rfl ((upI_k (by decide)).trans ((upI_k (by decide)).trans ((s2 3).trans upI_s))) ?_
      refine g_putI dX2_second_195 fp_X2_32 hd.1 rfl ?_
      refine g_iconst dX2_second_198 kI_1 ?_
      refine g_zret dX2_second_199 (by first | exact Or.inl rfl | exact Or.inr rfl | exact bp_01) ⟨_, rfl, ?_⟩
      obtain ⟨⟨g1, g2, g3, g4⟩, g5⟩ := h155
      refine ⟨⟨?_, ?_⟩, Or.inr rfl, fun z => absurd z (by decide)⟩
      · rw [sec_eq1 hr]
        refine ⟨⟨?_, ?_, ?_, fun i hi => ?_⟩, ?_, ?_, ?_, ?_, ?_, ?_⟩
        · repeat rw [upI_ap (by omega)]
          exact g1
        · repeat rw [upI_ap (by omega)]
          exact g2
        · repeat rw [upI_ap (by omega)]
          exact g3
        · repeat rw [upI_ap (by omega)]
          exact g4 i hi
        · simp only [upI_at]; exact (s2 1).trans ((s1 1 (by decide) (by decide)).trans r2)
        · simp only [upI_at]; rfl
        · simp only [upI_at]; exact (s2 3).trans upI_s
        · first | (have fb0 := (brkI_m1 (by omega)).mp c_187; simp only [upI_at, fb0]; rfl) | (have fb0 := fun z => c_187 ((brkI_m1 (by omega)).mpr z); rw [if_neg fb0]; simp only [upI_at]; exact (s2 4).trans ((s1 4 (by decide) (by decide)).trans r5))
        · simp only [upI_at]; rfl
        · simp only [upI_at]; exact (s2 6).trans ((upI_k (by decide)).trans (i4.trans rfl))
      · first | exact Sm.tr (Sm.tr (Sm.tr (Sm.tr (Sm.tr i1 (Sm.pI (by omega) (by omega))) (g5.up (by omega) (by omega))) (Sm.pI (by omega) (by omega))) (Sm.pI (by omega) (by omega))) (Sm.pI (by omega) (by omega)) | exact Sm.tr (Sm.tr (Sm.tr (Sm.tr i1 (Sm.pI (by omega) (by omega))) (g5.up (by omega) (by omega))) (Sm.pI (by omega) (by omega))) (Sm.pI (by omega) (by omega))
  · have hr := (brkI_m1 hlt).mp c_145
    refine g_iload_n dX2_second_148 rfl rfl ?_
    refine g_zret dX2_second_149 i6 ⟨_, rfl, ?_⟩
    refine ⟨⟨?_, Sm.tr i1 (Sm.pI (by omega) (by omega))⟩, i6, fun z => sec_fix (sec_same (t := 0) (fun i hi => i7 z i (Nat.zero_le _) hi) p1 hr)⟩
    rw [sec_eq0 hr]
    refine ⟨hRb, ?_, ?_, ?_, ?_, ?_, ?_⟩
    · rw [s1 1 (by decide) (by decide)]; exact r2
    · rw [s1 2 (by decide) (by decide)]; exact r3
    · exact upI_s
    · rw [s1 4 (by decide) (by decide)]; exact r5
    · rw [s1 5 (by decide) (by decide)]; exact r6
    · rw [upI_k (by decide), i4]; rfl
end DUN
