/-- memory outside a State and a Dunk is the same -/
def Sd (B : Nat) (M M' : MM) (k kD : Nat) : Prop := ∀ q, (q < k ∨ k + 15 ≤ q) → (q < kD ∨ kD + 3 ≤ q) → M'.1 (B + q) = M.1 (B + q) ∧ M'.2 (B + q) = M.2 (B + q)
theorem Sd.rf {B : Nat} {M : MM} {k kD : Nat} : Sd B M M k kD := fun _ _ _ => ⟨rfl, rfl⟩
theorem Sd.tr {B : Nat} {M M1 M2 : MM} {k kD : Nat} (h1 : Sd B M M1 k kD) (h2 : Sd B M1 M2 k kD) : Sd B M M2 k kD := fun q a b => ⟨(h2 q a b).1.trans (h1 q a b).1, (h2 q a b).2.trans (h1 q a b).2⟩
theorem Sd.s {B : Nat} {M M' : MM} {k kD lo hi : Nat} (h : Sm B M M' lo hi) (h1 : k ≤ lo) (h2 : hi ≤ k + 15) : Sd B M M' k kD := fun q a _ => h q (by omega)
theorem Sd.d {B : Nat} {M M' : MM} {k kD lo hi : Nat} (h : Sm B M M' lo hi) (h1 : kD ≤ lo) (h2 : hi ≤ kD + 3) : Sd B M M' k kD := fun q _ b => h q (by omega)
section STA
variable {E : EE} {B : Nat} {M : MM} {k : Nat}
theorem ct_X6_isWithin {v lo hi : Int32} : Ct E B yX6_isWithin cX6_isWithin 3 (some .boolean) 0 [.int v, .int lo, .int hi] M (Rp (bp (lo ≤ v ∧ v ≤ hi)) M) := by
  refine Ct.of2 (own := RX6) (lv := [(0, .int v), (1, .int lo), (2, .int hi)]) pn_X6 rfl (Nat.le_of_ble_eq_true rfl) rfl ?_
  refine g_iload_n dX6_isWithin_0 rfl rfl ?_
  refine g_iload_n dX6_isWithin_1 rfl rfl ?_
  refine g_icmp_lt (tgt := 14) dX6_isWithin_2 (by decide) (fun c_2 => ?_) (fun c_2 => ?_)
  · refine g_iconst dX6_isWithin_14 kI_0 ?_
    refine g_zret dX6_isWithin_15 (by first | exact Or.inl rfl | exact Or.inr rfl | exact bp_01) ⟨_, rfl, ?_⟩
    first | exact ⟨bp_t ⟨Int32.not_lt.mp c_2, Int32.not_lt.mp c_7⟩, rfl⟩ | exact ⟨bp_f (fun q => Int32.not_lt.mpr q.1 c_2), rfl⟩ | exact ⟨bp_f (fun q => Int32.not_lt.mpr q.2 c_7), rfl⟩
  · refine g_iload_n dX6_isWithin_5 rfl rfl ?_
    refine g_iload_n dX6_isWithin_6 rfl rfl ?_
    refine g_icmp_gt (tgt := 14) dX6_isWithin_7 (by decide) (fun c_7 => ?_) (fun c_7 => ?_)
    · refine g_iconst dX6_isWithin_14 kI_0 ?_
      refine g_zret dX6_isWithin_15 (by first | exact Or.inl rfl | exact Or.inr rfl | exact bp_01) ⟨_, rfl, ?_⟩
      first | exact ⟨bp_t ⟨Int32.not_lt.mp c_2, Int32.not_lt.mp c_7⟩, rfl⟩ | exact ⟨bp_f (fun q => Int32.not_lt.mpr q.1 c_2), rfl⟩ | exact ⟨bp_f (fun q => Int32.not_lt.mpr q.2 c_7), rfl⟩
    · refine g_iconst dX6_isWithin_10 kI_1 ?_
      refine g_goto (tgt := 15) dX6_isWithin_11 (by decide) ?_
      refine g_zret dX6_isWithin_15 (by first | exact Or.inl rfl | exact Or.inr rfl | exact bp_01) ⟨_, rfl, ?_⟩
      first | exact ⟨bp_t ⟨Int32.not_lt.mp c_2, Int32.not_lt.mp c_7⟩, rfl⟩ | exact ⟨bp_f (fun q => Int32.not_lt.mpr q.1 c_2), rfl⟩ | exact ⟨bp_f (fun q => Int32.not_lt.mpr q.2 c_7), rfl⟩
theorem ct_X6_isWithinN {v lo hi : Nat} (h1 : v < 2 ^ 31) (h2 : lo < 2 ^ 31) (h3 : hi < 2 ^ 31) : Ct E B yX6_isWithin cX6_isWithin 3 (some .boolean) 0 [.int (nI v), .int (nI lo), .int (nI hi)] M (Rp (bp (lo ≤ v ∧ v ≤ hi)) M) := by
  refine ct_X6_isWithin.weaken (fun r M' hr => ?_)
  obtain ⟨x, g1, g2, g3⟩ := hr
  refine ⟨x, g1, g2.trans (bp_iff ?_), g3⟩
  rw [nI_leI h2 h1, nI_leI h1 h3]
theorem ct_X5_hasBiscuit {b : Int32} (hs : isS k) : Ct E B yX5_hasBiscuit cX5_hasBiscuit 2 (some .boolean) 0 [.ref (B + k), .int b] M (Rp (bp (0 ≤ b ∧ b < M.1 (B + k) 2)) M) := by
  refine Ct.of2 (own := RX5) (lv := [(0, .ref (B + k)), (1, .int b)]) pn_X5 rfl (Nat.le_of_ble_eq_true rfl) rfl ?_
  refine g_iload_n dX5_hasBiscuit_0 rfl rfl ?_
  refine g_if_lt (tgt := 16) dX5_hasBiscuit_1 (by decide) (fun c_1 => ?_) (fun c_1 => ?_)
  · refine g_iconst dX5_hasBiscuit_16 kI_0 ?_
    refine g_zret dX5_hasBiscuit_17 (by first | exact Or.inl rfl | exact Or.inr rfl | exact bp_01) ⟨_, rfl, ?_⟩
    first | exact ⟨bp_t ⟨Int32.not_lt.mp c_1, Int32.not_le.mp c_9⟩, rfl⟩ | exact ⟨bp_f (fun q => Int32.not_lt.mpr q.1 c_1), rfl⟩ | exact ⟨bp_f (fun q => Int32.not_le.mpr q.2 c_9), rfl⟩
  · refine g_iload_n dX5_hasBiscuit_4 rfl rfl ?_
    refine g_aload_n dX5_hasBiscuit_5 rfl rfl ?_
    refine g_getI dX5_hasBiscuit_6 fl_X5_45 hs.1 rfl rfl ?_
    refine g_icmp_ge (tgt := 16) dX5_hasBiscuit_9 (by decide) (fun c_9 => ?_) (fun c_9 => ?_)
    · refine g_iconst dX5_hasBiscuit_16 kI_0 ?_
      refine g_zret dX5_hasBiscuit_17 (by first | exact Or.inl rfl | exact Or.inr rfl | exact bp_01) ⟨_, rfl, ?_⟩
      first | exact ⟨bp_t ⟨Int32.not_lt.mp c_1, Int32.not_le.mp c_9⟩, rfl⟩ | exact ⟨bp_f (fun q => Int32.not_lt.mpr q.1 c_1), rfl⟩ | exact ⟨bp_f (fun q => Int32.not_le.mpr q.2 c_9), rfl⟩
    · refine g_iconst dX5_hasBiscuit_12 kI_1 ?_
      refine g_goto (tgt := 17) dX5_hasBiscuit_13 (by decide) ?_
      refine g_zret dX5_hasBiscuit_17 (by first | exact Or.inl rfl | exact Or.inr rfl | exact bp_01) ⟨_, rfl, ?_⟩
      first | exact ⟨bp_t ⟨Int32.not_lt.mp c_1, Int32.not_le.mp c_9⟩, rfl⟩ | exact ⟨bp_f (fun q => Int32.not_lt.mpr q.1 c_1), rfl⟩ | exact ⟨bp_f (fun q => Int32.not_le.mpr q.2 c_9), rfl⟩
theorem ct_X5_hasBiscuitN {s : St} {q : Nat} (hs : isS k) (h : RS B M k s) (ho : okSt s) (hq : q < 2 ^ 31) : Ct E B yX5_hasBiscuit cX5_hasBiscuit 2 (some .boolean) 0 [.ref (B + k), .int (nI q)] M (Rp (bp (q < sCn s)) M) := by
  refine (ct_X5_hasBiscuit hs).weaken (fun r M' hr => ?_)
  obtain ⟨x, h1, h2, h3⟩ := hr
  have hc := ho.2.2.1
  refine ⟨x, h1, h2.trans (bp_iff ?_), h3⟩
  rw [h.2.2.1, nI_ltI hq (by omega)]
  exact ⟨fun q => q.2, fun z => ⟨nI_pos' hq, z⟩⟩
theorem ct_X5_hasBiscuitI {s : St} {b : Int32} (hs : isS k) (h : RS B M k s) : Ct E B yX5_hasBiscuit cX5_hasBiscuit 2 (some .boolean) 0 [.ref (B + k), .int b] M (Rp (bp (0 ≤ b ∧ b < nI (sCn s))) M) := by
  refine (ct_X5_hasBiscuit hs).weaken (fun r M' hr => ?_)
  obtain ⟨x, h1, h2, h3⟩ := hr
  refine ⟨x, h1, ?_, h3⟩
  rw [h2, h.2.2.1]
theorem ct_X5_hasCellOf {s : St} {b c : Int32} (hs : isS k) (h : RS B M k s) (ho : okSt s) : Ct E B yX5_hasCellOf cX5_hasCellOf 3 (some .boolean) 1 [.ref (B + k), .int b, .int c] M (Rp (bp ((0 ≤ b ∧ b < nI (sCn s)) ∧ 0 ≤ c ∧ c < nI (sBs s b.toNatClampNeg).2.2.1)) M) := by
  have hc := ho.2.2.1
  refine Ct.of2 (own := RX5) (lv := [(0, .ref (B + k)), (1, .int b), (2, .int c)]) pn_X5 rfl (Nat.le_of_ble_eq_true rfl) rfl ?_
  refine g_aload_n dX5_hasCellOf_0 rfl rfl ?_
  refine g_iload_n dX5_hasCellOf_1 rfl rfl ?_
  refine g_callVp dX5_hasCellOf_2 mi_X5_hasBiscuit ml_X5_57 (ct_X5_hasBiscuitI hs h) hs.1 rfl rfl rfl (Nat.le_of_ble_eq_true rfl) ⟨lt_r rfl, Nat.le_of_ble_eq_true rfl⟩ ?_
  refine g_if_eqP (tgt := 25) dX5_hasCellOf_5 (by decide) (fun c_5 => ?_) (fun c_5 => ?_)
  · refine g_iconst dX5_hasCellOf_25 kI_0 ?_
    refine g_zret dX5_hasCellOf_26 (by first | exact Or.inl rfl | exact Or.inr rfl | exact bp_01) ⟨_, rfl, ?_⟩
    first | exact ⟨bp_f (fun q => c_5 q.1), rfl⟩ | (rw [(h.1 q hq).2.2.1] at c_18; first | exact ⟨bp_t ⟨c_5, by rw [e]; exact c_18⟩, rfl⟩ | exact ⟨bp_f (fun z => c_18 (by have := z.2; rwa [e] at this)), rfl⟩)
  · obtain ⟨q, hq, rfl⟩ := in_nI (by omega) c_5
    have e : (nI q).toNatClampNeg = q := nI_clamp (by omega)
    refine g_aload_n dX5_hasCellOf_8 rfl rfl ?_
    refine g_getR dX5_hasCellOf_9 fl_X5_11 hs.1 rfl ?_
    refine g_iload_n dX5_hasCellOf_12 rfl rfl ?_
    refine g_aald dX5_hasCellOf_13 hs.2.1 rfl (isS_b (by omega)) ?_
    refine g_iload_n dX5_hasCellOf_14 rfl rfl ?_
    refine g_callVp dX5_hasCellOf_15 mi_X1_hasCell ml_X5_61 (ct_X1_hasCell (hs.2.2.2 _ (by omega))) (hs.2.2.2 _ (by omega)).1 rfl rfl rfl (Nat.le_of_ble_eq_true rfl) ⟨lt_r rfl, Nat.le_of_ble_eq_true rfl⟩ ?_
    refine g_if_eqP (tgt := 25) dX5_hasCellOf_18 (by decide) (fun c_18 => ?_) (fun c_18 => ?_)
    · refine g_iconst dX5_hasCellOf_25 kI_0 ?_
      refine g_zret dX5_hasCellOf_26 (by first | exact Or.inl rfl | exact Or.inr rfl | exact bp_01) ⟨_, rfl, ?_⟩
      first | exact ⟨bp_f (fun q => c_5 q.1), rfl⟩ | (rw [(h.1 q hq).2.2.1] at c_18; first | exact ⟨bp_t ⟨c_5, by rw [e]; exact c_18⟩, rfl⟩ | exact ⟨bp_f (fun z => c_18 (by have := z.2; rwa [e] at this)), rfl⟩)
    · refine g_iconst dX5_hasCellOf_21 kI_1 ?_
      refine g_goto (tgt := 26) dX5_hasCellOf_22 (by decide) ?_
      refine g_zret dX5_hasCellOf_26 (by first | exact Or.inl rfl | exact Or.inr rfl | exact bp_01) ⟨_, rfl, ?_⟩
      first | exact ⟨bp_f (fun q => c_5 q.1), rfl⟩ | (rw [(h.1 q hq).2.2.1] at c_18; first | exact ⟨bp_t ⟨c_5, by rw [e]; exact c_18⟩, rfl⟩ | exact ⟨bp_f (fun z => c_18 (by have := z.2; rwa [e] at this)), rfl⟩)
theorem ct_X5_hasCellOfN {s : St} {q c : Nat} (hs : isS k) (h : RS B M k s) (ho : okSt s) (hq : q < sCn s) (hc : c < 2 ^ 31) : Ct E B yX5_hasCellOf cX5_hasCellOf 3 (some .boolean) 1 [.ref (B + k), .int (nI q), .int (nI c)] M (Rp (bp (c < (sBs s q).2.2.1)) M) := by
  refine (ct_X5_hasCellOf hs h ho).weaken (fun r M' hr => ?_)
  obtain ⟨x, h1, h2, h3⟩ := hr
  have h4 := ho.2.2.1
  have h5 := (ho.1 q hq).2.2.1
  have e : (nI q).toNatClampNeg = q := nI_clamp (by omega)
  refine ⟨x, h1, h2.trans (bp_iff ?_), h3⟩
  rw [e, nI_ltI (by omega) (by omega), nI_ltI hc (by omega)]
  exact ⟨fun z => z.2.2, fun z => ⟨⟨nI_pos' (by omega), hq⟩, nI_pos' hc, z⟩⟩
theorem ct_X5_hasRoom {s : St} (hs : isS k) (h : RS B M k s) (ho : okSt s) : Ct E B yX5_hasRoom cX5_hasRoom 1 (some .boolean) 0 [.ref (B + k)] M (Rp (bp (sCn s < 6)) M) := by
  have hc := ho.2.2.1
  refine Ct.of2 (own := RX5) (lv := [(0, .ref (B + k))]) pn_X5 rfl (Nat.le_of_ble_eq_true rfl) rfl ?_
  refine g_aload_n dX5_hasRoom_0 rfl rfl ?_
  refine g_getI dX5_hasRoom_1 fl_X5_45 hs.1 rfl (h.2.2.1) ?_
  refine g_bipush dX5_hasRoom_4 kB_6 ?_
  refine g_icmp_geN (tgt := 13) dX5_hasRoom_6 (by decide) rfl rfl (by omega) (by omega) (fun c_6 => ?_) (fun c_6 => ?_)
  · refine g_iconst dX5_hasRoom_13 kI_0 ?_
    refine g_zret dX5_hasRoom_14 (by first | exact Or.inl rfl | exact Or.inr rfl | exact bp_01) ⟨_, rfl, ?_⟩
    first | exact ⟨bp_t c_6, rfl⟩ | exact ⟨bp_f (by omega), rfl⟩
  · refine g_iconst dX5_hasRoom_9 kI_1 ?_
    refine g_goto (tgt := 14) dX5_hasRoom_10 (by decide) ?_
    refine g_zret dX5_hasRoom_14 (by first | exact Or.inl rfl | exact Or.inr rfl | exact bp_01) ⟨_, rfl, ?_⟩
    first | exact ⟨bp_t c_6, rfl⟩ | exact ⟨bp_f (by omega), rfl⟩
theorem ct_X5_addBiscuit {s : St} {kd n a : Nat} (hs : isS k) (h : RS B M k s) (ho : okSt s) (hr : sCn s < 6) (hn : n ≤ 12) : Ct E B yX5_addBiscuit cX5_addBiscuit 4 (some .int) 2 [.ref (B + k), .int (nI kd), .int (nI n), .int (nI a)] M (Ri (fun r M2 => r = nI (sCn s) ∧ RS B M2 k (addS s kd n a) ∧ Sm B M M2 k (k + 15))) := by
  obtain ⟨g1, g2, g3, g4, g5, g6, g7, g8, g9, g10⟩ := h
  refine Ct.of2 (own := RX5) (lv := [(0, .ref (B + k)), (1, .int (nI kd)), (2, .int (nI n)), (3, .int (nI a))]) pn_X5 rfl (Nat.le_of_ble_eq_true rfl) rfl ?_
  refine g_aload_n dX5_addBiscuit_0 rfl rfl ?_
  refine g_callVp dX5_addBiscuit_1 mi_X5_hasRoom ml_X5_64 (ct_X5_hasRoom hs ⟨g1, g2, g3, g4, g5, g6, g7, g8, g9, g10⟩ ho) hs.1 rfl rfl rfl (Nat.le_of_ble_eq_true rfl) ⟨lt_r rfl, Nat.le_of_ble_eq_true rfl⟩ ?_
  refine g_if_neP (tgt := 9) dX5_addBiscuit_4 (by decide) (fun c_4 => ?_) (fun c_4 => absurd hr c_4)
  refine g_aload_n dX5_addBiscuit_9 rfl rfl ?_
  refine g_getR dX5_addBiscuit_10 fl_X5_11 hs.1 rfl ?_
  refine g_aload_n dX5_addBiscuit_13 rfl rfl ?_
  refine g_getI dX5_addBiscuit_14 fl_X5_45 hs.1 rfl (g3) ?_
  refine g_aald dX5_addBiscuit_17 hs.2.1 rfl (isS_b (by omega)) ?_
  refine g_iload_n dX5_addBiscuit_18 rfl rfl ?_
  refine g_iload_n dX5_addBiscuit_19 rfl rfl ?_
  refine g_iload_n dX5_addBiscuit_20 rfl rfl ?_
  refine g_callVv dX5_addBiscuit_21 mi_X1_becomeNew ml_X5_68 (ct_X1_becomeNew (hs.2.2.2 _ (by omega))) (hs.2.2.2 _ (by omega)).1 rfl rfl rfl (Nat.le_of_ble_eq_true rfl) ⟨lt_r rfl, Nat.le_of_ble_eq_true rfl⟩ (fun M21 h21 => ?_)
  obtain ⟨⟨f1, f2, f3, f4⟩, f5⟩ := h21
  have e0 : M21.1 (B + k) = M.1 (B + k) := f5.i (by omega)
  refine g_aload_n dX5_addBiscuit_24 rfl rfl ?_
  refine g_dup dX5_addBiscuit_25 rfl ?_
  refine g_getI dX5_addBiscuit_26 fl_X5_45 hs.1 rfl ((congrFun e0 2).trans g3) ?_
  refine g_iconst dX5_addBiscuit_29 kI_1 ?_
  refine g_iadd dX5_addBiscuit_30 (nI_add _ _) ?_
  refine g_putI dX5_addBiscuit_31 fp_X5_45 hs.1 rfl ?_
  refine g_aload_n dX5_addBiscuit_34 rfl rfl ?_
  refine g_getI dX5_addBiscuit_35 fl_X5_45 hs.1 rfl ((upI_s)) ?_
  refine g_iconst dX5_addBiscuit_38 kI_1 ?_
  refine g_isub dX5_addBiscuit_39 ((show nI (sCn s + 1) - nI 1 = nI (sCn s) from pk_sub (by omega))) ?_
  refine g_iret dX5_addBiscuit_40 ⟨_, rfl, ?_⟩
  refine ⟨rfl, ⟨fun q hq => ?_, fun i hi => ?_, ?_, ?_, ?_, ?_, ?_, ?_, ?_, ?_⟩, Sm.tr (f5.up (by omega) (by omega)) (Sm.pI (by omega) (by omega))⟩
  · have hq : q < sCn s + 1 := hq
    refine RB.sm (M := M21) ?_ (Sm.pI (Nat.le_refl k) (Nat.lt_succ_self k)) (by omega) (by omega)
    by_cases e : q = sCn s
    · subst e
      show RB M21 _ _ (upF (sBs s) (sCn s) (kd, a, n, fun _ => 0) (sCn s))
      rw [upF_s]
      exact ⟨f1, f2, f3, fun i hi => f4 i (by have hi : i < n := hi; omega)⟩
    · show RB M21 _ _ (upF (sBs s) (sCn s) (kd, a, n, fun _ => 0) q)
      rw [upF_n e]
      exact (g1 q (by omega)).sm f5 (by omega) (by omega)
  · rw [upI_ap (by omega), f5.i (by omega)]; exact g2 i hi
  · exact upI_s
  · rw [upI_k (by decide), e0]; exact g4
  · rw [upI_k (by decide), e0]; exact g5
  · rw [upI_k (by decide), e0]; exact g6
  · rw [upI_k (by decide), e0]; exact g7
  · rw [upI_k (by decide), e0]; exact g8
  · rw [upI_k (by decide), e0]; exact g9
  · rw [upI_k (by decide), e0]; exact g10
theorem lp_X5_cellsOfAll {s : St} (hs : isS k) (h : RS B M k s) (ho : okSt s) : ∀ (n i : Nat), i + n = sCn s →
    G E B cX5_cellsOfAll (RX5, 3, some .int, rmD 0, 0, 0, KM E B (Rp (nI (sumN (fun q => (sBs s q).2.2.1) (sCn s))) M)) 4 [(0, .ref (B + k)), (1, .int (nI (sumN (fun q => (sBs s q).2.2.1) i))), (2, .int (nI i))] [] M := by
  have hc := ho.2.2.1
  intro n
  induction n with
  | zero =>
    intro i h1
    refine g_iload_n dX5_cellsOfAll_4 rfl rfl ?_
    refine g_aload_n dX5_cellsOfAll_5 rfl rfl ?_
    refine g_getI dX5_cellsOfAll_6 fl_X5_45 hs.1 rfl (h.2.2.1) ?_
    refine g_icmp_geN (tgt := 30) dX5_cellsOfAll_9 (by decide) rfl rfl (by omega) (by omega) (fun c_9 => ?_) (fun c_9 => absurd c_9 (by omega))
    refine g_iload_n dX5_cellsOfAll_30 rfl rfl ?_
    refine g_iret dX5_cellsOfAll_31 ⟨_, rfl, ?_⟩
    exact ⟨by rw [← h1]; rfl, rfl⟩
  | succ n ih =>
    intro i h1
    refine g_iload_n dX5_cellsOfAll_4 rfl rfl ?_
    refine g_aload_n dX5_cellsOfAll_5 rfl rfl ?_
    refine g_getI dX5_cellsOfAll_6 fl_X5_45 hs.1 rfl (h.2.2.1) ?_
    refine g_icmp_geN (tgt := 30) dX5_cellsOfAll_9 (by decide) rfl rfl (by omega) (by omega) (fun c_9 => absurd c_9 (by omega)) (fun c_9 => ?_)
    refine g_iload_n dX5_cellsOfAll_12 rfl rfl ?_
    refine g_aload_n dX5_cellsOfAll_13 rfl rfl ?_
    refine g_getR dX5_cellsOfAll_14 fl_X5_11 hs.1 rfl ?_
    refine g_iload_n dX5_cellsOfAll_17 rfl rfl ?_
    refine g_aald dX5_cellsOfAll_18 hs.2.1 rfl (isS_b (by omega)) ?_
    refine g_getI dX5_cellsOfAll_19 fl_X5_72 (hs.2.2.2 _ (by omega)).1 rfl ((h.1 i (by omega)).2.2.1) ?_
    refine g_iadd dX5_cellsOfAll_22 (nI_add _ _) ?_
    refine g_istore_n dX5_cellsOfAll_23 rfl (lt_r rfl) rfl ?_
    refine g_iinc dX5_cellsOfAll_24 rfl (inc_nI _) rfl ?_
    exact g_goto (tgt := 4) dX5_cellsOfAll_27 (by decide) (g_le (lvLe_c rfl (lvLe_c rfl (lvLe_c rfl lvLe_0))) (ih (i + 1) (by omega)))
theorem ct_X5_cellsOfAll {s : St} (hs : isS k) (h : RS B M k s) (ho : okSt s) : Ct E B yX5_cellsOfAll cX5_cellsOfAll 3 (some .int) 0 [.ref (B + k)] M (Rp (nI (sumN (fun q => (sBs s q).2.2.1) (sCn s))) M) := by
  refine Ct.of2 (own := RX5) (lv := [(0, .ref (B + k))]) pn_X5 rfl (Nat.le_of_ble_eq_true rfl) rfl ?_
  refine g_iconst dX5_cellsOfAll_0 kI_0 ?_
  refine g_istore_n dX5_cellsOfAll_1 rfl (lt_r rfl) rfl ?_
  refine g_iconst dX5_cellsOfAll_2 kI_0 ?_
  refine g_istore_n dX5_cellsOfAll_3 rfl (lt_r rfl) rfl ?_
  exact g_le (lvLe_c rfl (lvLe_c rfl (lvLe_c rfl lvLe_0))) (lp_X5_cellsOfAll hs h ho (sCn s) 0 (by omega))
theorem lp_X5_worthOfCells {s : St} {k2 : Nat} {b : Bi} (hs : isS k) (h : RS B M k s) (ho : okSt s) (hb : isB k2) (hR : RB M (B + k2) (B + (k2 + 1)) b) (hob : okB b) : ∀ (n i : Nat), i + n = b.2.2.1 →
    G E B cX5_worthOfCells (RX5, 5, some .int, rmD 1, 0, 0, KM E B (Rp (nI (worthN (sWo s) b.2.2.1 b.2.2.2)) M)) 4 [(0, .ref (B + k)), (1, .ref (B + k2)), (2, .int (nI (worthN (sWo s) i b.2.2.2))), (3, .int (nI i))] [] M := by
  obtain ⟨o1, o2, o3, o4⟩ := hob
  intro n
  induction n with
  | zero =>
    intro i h1
    refine g_iload_n dX5_worthOfCells_4 rfl rfl ?_
    refine g_aload_n dX5_worthOfCells_5 rfl rfl ?_
    refine g_getI dX5_worthOfCells_6 fl_X5_72 hb.1 rfl (hR.2.2.1) ?_
    refine g_icmp_geN (tgt := 50) dX5_worthOfCells_9 (by decide) rfl rfl (by omega) (by omega) (fun c_9 => ?_) (fun c_9 => absurd c_9 (by omega))
    refine g_iload_n dX5_worthOfCells_50 rfl rfl ?_
    refine g_iret dX5_worthOfCells_51 ⟨_, rfl, ?_⟩
    exact ⟨by rw [← h1]; rfl, rfl⟩
  | succ n ih =>
    intro i h1
    have w5 := o4 i
    refine g_iload_n dX5_worthOfCells_4 rfl rfl ?_
    refine g_aload_n dX5_worthOfCells_5 rfl rfl ?_
    refine g_getI dX5_worthOfCells_6 fl_X5_72 hb.1 rfl (hR.2.2.1) ?_
    refine g_icmp_geN (tgt := 50) dX5_worthOfCells_9 (by decide) rfl rfl (by omega) (by omega) (fun c_9 => absurd c_9 (by omega)) (fun c_9 => ?_)
    refine g_aload_n dX5_worthOfCells_12 rfl rfl ?_
    refine g_getR dX5_worthOfCells_13 fl_X5_75 hb.1 rfl ?_
    refine g_iload_n dX5_worthOfCells_16 rfl rfl ?_
    refine g_iald dX5_worthOfCells_17 hb.2 rfl (by omega) (hR.2.2.2 i (by omega)) ?_
    refine g_bipush dX5_worthOfCells_18 kB_10 ?_
    refine g_idiv dX5_worthOfCells_20 (nI_ne0 (by omega) (by omega)) (pk_div (by omega) (by omega) (by omega)) ?_
    refine g_istore dX5_worthOfCells_21 (lt_r rfl) rfl ?_
    refine g_iload dX5_worthOfCells_23 rfl ?_
    refine g_iconst dX5_worthOfCells_25 kI_0 ?_
    refine g_bipush dX5_worthOfCells_26 kB_9 ?_
    refine g_callSNp dX5_worthOfCells_28 ms_X6_isWithin mn_X5_78 (ct_X6_isWithinN (by omega) (by omega) (by omega)) rfl rfl (Nat.le_of_ble_eq_true rfl) ⟨lt_r rfl, Nat.le_of_ble_eq_true rfl⟩ ?_
    refine g_if_eqP (tgt := 44) dX5_worthOfCells_31 (by decide) (fun c_31 => absurd ⟨Nat.zero_le _, by omega⟩ c_31) (fun c_31 => ?_)
    refine g_iload_n dX5_worthOfCells_34 rfl rfl ?_
    refine g_aload_n dX5_worthOfCells_35 rfl rfl ?_
    refine g_getR dX5_worthOfCells_36 fl_X5_17 hs.1 rfl ?_
    refine g_iload dX5_worthOfCells_39 rfl ?_
    refine g_iald dX5_worthOfCells_41 hs.2.2.1 rfl (by omega) (h.2.1 (b.2.2.2 i / 10) (by omega)) ?_
    refine g_iadd dX5_worthOfCells_42 (nI_add _ _) ?_
    refine g_istore_n dX5_worthOfCells_43 rfl (lt_r rfl) rfl ?_
    refine g_iinc dX5_worthOfCells_44 rfl (inc_nI _) rfl ?_
    exact g_goto (tgt := 4) dX5_worthOfCells_47 (by decide) (g_le (lvLe_c rfl (lvLe_c rfl (lvLe_c rfl (lvLe_c rfl lvLe_0)))) (ih (i + 1) (by omega)))
theorem ct_X5_worthOfCells {s : St} {k2 : Nat} {b : Bi} (hs : isS k) (hb : isB k2) (h : RS B M k s) (ho : okSt s) (hR : RB M (B + k2) (B + (k2 + 1)) b) (hob : okB b) : Ct E B yX5_worthOfCells cX5_worthOfCells 5 (some .int) 1 [.ref (B + k), .ref (B + k2)] M (Rp (nI (worthN (sWo s) b.2.2.1 b.2.2.2)) M) := by
  refine Ct.of2 (own := RX5) (lv := [(0, .ref (B + k)), (1, .ref (B + k2))]) pn_X5 rfl (Nat.le_of_ble_eq_true rfl) rfl ?_
  refine g_iconst dX5_worthOfCells_0 kI_0 ?_
  refine g_istore_n dX5_worthOfCells_1 rfl (lt_r rfl) rfl ?_
  refine g_iconst dX5_worthOfCells_2 kI_0 ?_
  refine g_istore_n dX5_worthOfCells_3 rfl (lt_r rfl) rfl ?_
  exact g_le (lvLe_c rfl (lvLe_c rfl (lvLe_c rfl (lvLe_c rfl lvLe_0)))) (lp_X5_worthOfCells hs h ho hb hR hob b.2.2.1 0 (by omega))
theorem ct_X5_heatAfter {s : St} {more : Int32} (hs : isS k) (h : RS B M k s) (ho : okSt s) : Ct E B yX5_heatAfter cX5_heatAfter 3 (some .int) 1 [.ref (B + k), .int more] M (Rp (nI (heatN (sHt s) (sLo s) (sSe s) more)) M) := by
  obtain ⟨g1, g2, g3, g4, g5, g6, g7, g8, g9, g10⟩ := h
  obtain ⟨o1, o2, o3, o4, o5, o6⟩ := ho
  refine Ct.of2 (own := RX5) (lv := [(0, .ref (B + k)), (1, .int more)]) pn_X5 rfl (Nat.le_of_ble_eq_true rfl) rfl ?_
  refine g_aload_n dX5_heatAfter_0 rfl rfl ?_
  refine g_getI dX5_heatAfter_1 fl_X5_25 hs.1 rfl (g5) ?_
  refine g_if_leN (tgt := 31) dX5_heatAfter_4 (by decide) rfl (by omega) (fun c_4 => absurd c_4 (by omega)) (fun c_4 => ?_)
  refine g_aload_n dX5_heatAfter_7 rfl rfl ?_
  refine g_getI dX5_heatAfter_8 fl_X5_54 hs.1 rfl (g9) ?_
  refine g_iload_n dX5_heatAfter_11 rfl rfl ?_
  refine g_iadd dX5_heatAfter_12 rfl ?_
  refine g_aload_n dX5_heatAfter_13 rfl rfl ?_
  refine g_getI dX5_heatAfter_14 fl_X5_25 hs.1 rfl (g5) ?_
  refine g_idiv dX5_heatAfter_17 (nI_ne0 (by omega) (by omega)) rfl ?_
  refine g_aload_n dX5_heatAfter_18 rfl rfl ?_
  refine g_getI dX5_heatAfter_19 fl_X5_54 hs.1 rfl (g9) ?_
  refine g_aload_n dX5_heatAfter_22 rfl rfl ?_
  refine g_getI dX5_heatAfter_23 fl_X5_25 hs.1 rfl (g5) ?_
  refine g_idiv dX5_heatAfter_26 (nI_ne0 (by omega) (by omega)) rfl ?_
  refine g_isub dX5_heatAfter_27 rfl ?_
  refine g_goto (tgt := 32) dX5_heatAfter_28 (by decide) ?_
  refine g_istore_n dX5_heatAfter_32 rfl (lt_r rfl) rfl ?_
  refine g_iconst dX5_heatAfter_33 kI_0 ?_
  refine g_aload_n dX5_heatAfter_34 rfl rfl ?_
  refine g_getI dX5_heatAfter_35 fl_X5_21 hs.1 rfl (g4) ?_
  refine g_iload_n dX5_heatAfter_38 rfl rfl ?_
  refine g_isub dX5_heatAfter_39 rfl ?_
  refine g_mmax dX5_heatAfter_40 ml_X5_82 ((heatN_ok (ht := sHt s) (lo := sLo s) (se := sSe s) (more := more)).1) ⟨lt_r rfl, Nat.le_of_ble_eq_true rfl⟩ ?_
  refine g_iret dX5_heatAfter_43 ⟨_, rfl, ?_⟩
  exact ⟨rfl, rfl⟩
theorem RS_pass {s : St} {more : Int32} (ho : okSt s) (h : RS B M k s) : RS B (upI (upI M (B + k) 3 (nI (heatN (sHt s) (sLo s) (sSe s) more))) (B + k) 8 (sSe s + more)) k (passS s more) := by
  obtain ⟨g1, g2, g3, g4, g5, g6, g7, g8, g9, g10⟩ := h
  have hc := ho.2.2.1
  refine ⟨fun q hq => ?_, fun i hi => ?_, ?_, ?_, ?_, ?_, ?_, ?_, ?_, ?_⟩
  · exact (g1 q hq).sm (Sm.tr (Sm.pI (Nat.le_refl k) (Nat.lt_succ_self k)) (Sm.pI (Nat.le_refl k) (Nat.lt_succ_self k))) (by omega) (by omega)
  · rw [upI_ap (by omega), upI_ap (by omega)]; exact g2 i hi
  all_goals simp [upI_at]
  all_goals first | exact g3 | exact g4 | exact g5 | exact g6 | exact g7 | exact g8 | exact g9 | exact g10 | rfl
theorem ct_X5_pass {s : St} {more : Int32} (hs : isS k) (h : RS B M k s) (ho : okSt s) : Ct E B yX5_pass cX5_pass 2 none 2 [.ref (B + k), .int more] M (Rv (fun M2 => RS B M2 k (passS s more) ∧ Sm B M M2 k (k + 15))) := by
  refine Ct.of2 (own := RX5) (lv := [(0, .ref (B + k)), (1, .int more)]) pn_X5 rfl (Nat.le_of_ble_eq_true rfl) rfl ?_
  refine g_aload_n dX5_pass_0 rfl rfl ?_
  refine g_aload_n dX5_pass_1 rfl rfl ?_
  refine g_iload_n dX5_pass_2 rfl rfl ?_
  refine g_callVp dX5_pass_3 mi_X5_heatAfter ml_X5_88 (ct_X5_heatAfter hs h ho) hs.1 rfl rfl rfl (Nat.le_of_ble_eq_true rfl) ⟨lt_r rfl, Nat.le_of_ble_eq_true rfl⟩ ?_
  refine g_putI dX5_pass_6 fp_X5_21 hs.1 rfl ?_
  refine g_aload_n dX5_pass_9 rfl rfl ?_
  refine g_dup dX5_pass_10 rfl ?_
  refine g_getI dX5_pass_11 fl_X5_54 hs.1 rfl ((upI_k (by decide)).trans h.2.2.2.2.2.2.2.2.1) ?_
  refine g_iload_n dX5_pass_14 rfl rfl ?_
  refine g_iadd dX5_pass_15 rfl ?_
  refine g_putI dX5_pass_16 fp_X5_54 hs.1 rfl ?_
  refine g_vret dX5_pass_19 ⟨rfl, ?_⟩
  exact ⟨RS_pass ho h, Sm.tr (Sm.pI (by omega) (by omega)) (Sm.pI (by omega) (by omega))⟩
end STA
