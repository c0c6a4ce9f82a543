theorem upI_at {M : MM} {a k j : Nat} {x : Int32} : (upI M a k x).1 a j = if j = k then x else M.1 a j := by
  by_cases h : j = k
  · subst h; rw [upI_s, if_pos rfl]
  · rw [upI_k h, if_neg h]
theorem upI_ap {B : Nat} {M : MM} {k j q : Nat} {x : Int32} (h : q ≠ k) : (upI M (B + k) j x).1 (B + q) = M.1 (B + q) := upI_n (by omega)
theorem upR_ap {B : Nat} {M : MM} {k q : Nat} {f : Nat → Int32} (h : q ≠ k) : (upR M (B + k) f).1 (B + q) = M.1 (B + q) := upR_n (by omega)
section BIS
variable {E : EE} {B : Nat} {M : MM} {k : Nat}
/-- dry: the loop -/
theorem lp_X1_dry (hb : isB k) : ∀ (n i : Nat) (M' : MM), i + n = 12 → (∀ j, j < i → M'.1 (B + (k + 1)) j = nI 0) → Sm B M M' (k + 1) (k + 2) →
    G E B cX1_dry (RX1, 2, none, rmD 0, 0, 0, KM E B (Rv (fun M2 => (∀ j, j < 12 → M2.1 (B + (k + 1)) j = nI 0) ∧ Sm B M M2 (k + 1) (k + 2)))) 2 [(0, .ref (B + k)), (1, .int (nI i))] [] M' := by
  intro n
  induction n with
  | zero =>
    intro i M' h1 h2 h3
    refine g_iload_n dX1_dry_2 rfl rfl ?_
    refine g_bipush dX1_dry_3 kB_12 ?_
    refine g_icmp_geN (tgt := 21) dX1_dry_5 (by decide) rfl rfl (by omega) (by omega) (fun c_5 => ?_) (fun c_5 => absurd c_5 (by omega))
    refine g_vret dX1_dry_21 ⟨rfl, ?_⟩
    exact ⟨fun j hj => h2 j (by omega), h3⟩
  | succ n ih =>
    intro i M' h1 h2 h3
    refine g_iload_n dX1_dry_2 rfl rfl ?_
    refine g_bipush dX1_dry_3 kB_12 ?_
    refine g_icmp_geN (tgt := 21) dX1_dry_5 (by decide) rfl rfl (by omega) (by omega) (fun c_5 => absurd c_5 (by omega)) (fun c_5 => ?_)
    refine g_aload_n dX1_dry_8 rfl rfl ?_
    refine g_getR dX1_dry_9 fl_X1_9 hb.1 rfl ?_
    refine g_iload_n dX1_dry_12 rfl rfl ?_
    refine g_iconst dX1_dry_13 kI_0 ?_
    refine g_iast dX1_dry_14 hb.2 rfl (by omega) ?_
    refine g_iinc dX1_dry_15 rfl (inc_nI _) rfl ?_
    refine g_goto (tgt := 2) dX1_dry_18 (by decide) (g_le (lvLe_c rfl (lvLe_c rfl lvLe_0)) (ih (i + 1) _ (by omega) (fun j hj => ?_) (h3.tr (Sm.pI (by omega) (by omega)))))
    rw [upI_at]
    split
    · rfl
    · exact h2 j (by omega)
theorem ct_X1_dry (hb : isB k) : Ct E B yX1_dry cX1_dry 2 none 0 [.ref (B + k)] M (Rv (fun M2 => (∀ j, j < 12 → M2.1 (B + (k + 1)) j = nI 0) ∧ Sm B M M2 (k + 1) (k + 2))) := by
  refine Ct.of2 (own := RX1) (lv := [(0, .ref (B + k))]) pn_X1 rfl (Nat.le_of_ble_eq_true rfl) rfl ?_
  refine g_iconst dX1_dry_0 kI_0 ?_
  refine g_istore_n dX1_dry_1 rfl (lt_r rfl) rfl ?_
  exact g_le (lvLe_c rfl (lvLe_c rfl lvLe_0)) (lp_X1_dry hb 12 0 M rfl (fun j hj => absurd hj (by omega)) Sm.rf)
theorem ct_X1_becomeNew {kd n a : Int32} (hb : isB k) : Ct E B yX1_becomeNew cX1_becomeNew 4 none 1 [.ref (B + k), .int kd, .int n, .int a] M (Rv (fun M2 => (M2.1 (B + k) 0 = kd ∧ M2.1 (B + k) 1 = a ∧ M2.1 (B + k) 2 = n ∧ ∀ j, j < 12 → M2.1 (B + (k + 1)) j = nI 0) ∧ Sm B M M2 k (k + 2))) := by
  refine Ct.of2 (own := RX1) (lv := [(0, .ref (B + k)), (1, .int kd), (2, .int n), (3, .int a)]) pn_X1 rfl (Nat.le_of_ble_eq_true rfl) rfl ?_
  refine g_aload_n dX1_becomeNew_0 rfl rfl ?_
  refine g_iload_n dX1_becomeNew_1 rfl rfl ?_
  refine g_putI dX1_becomeNew_2 fp_X1_15 hb.1 rfl ?_
  refine g_aload_n dX1_becomeNew_5 rfl rfl ?_
  refine g_iload_n dX1_becomeNew_6 rfl rfl ?_
  refine g_putI dX1_becomeNew_7 fp_X1_19 hb.1 rfl ?_
  refine g_aload_n dX1_becomeNew_10 rfl rfl ?_
  refine g_iload_n dX1_becomeNew_11 rfl rfl ?_
  refine g_putI dX1_becomeNew_12 fp_X1_22 hb.1 rfl ?_
  refine g_aload_n dX1_becomeNew_15 rfl rfl ?_
  refine g_callVv dX1_becomeNew_16 mi_X1_dry ml_X1_31 (ct_X1_dry hb) hb.1 rfl rfl rfl (Nat.le_of_ble_eq_true rfl) ⟨lt_r rfl, Nat.le_of_ble_eq_true rfl⟩ (fun M16 h16 => ?_)
  refine g_vret dX1_becomeNew_19 ⟨rfl, ?_⟩
  obtain ⟨h1, h2⟩ := h16
  refine ⟨⟨?_, ?_, ?_, h1⟩, Sm.tr (Sm.tr (Sm.tr (Sm.pI (by omega) (by omega)) (Sm.pI (by omega) (by omega))) (Sm.pI (by omega) (by omega))) (h2.up (by omega) (by omega))⟩ <;> rw [h2.i (by omega)] <;> simp [upI_at]
theorem ct_X1_become {k2 : Nat} (hb : isB k) (hb2 : isB k2) (hne : k + 2 ≤ k2 ∨ k2 + 2 ≤ k) : Ct E B yX1_become cX1_become 2 none 1 [.ref (B + k), .ref (B + k2)] M (Rv (fun M2 => ((∀ j, j < 3 → M2.1 (B + k) j = M.1 (B + k2) j) ∧ ∀ j, j < 12 → M2.1 (B + (k + 1)) j = M.1 (B + (k2 + 1)) j) ∧ Sm B M M2 k (k + 2))) := by
  refine Ct.of2 (own := RX1) (lv := [(0, .ref (B + k)), (1, .ref (B + k2))]) pn_X1 rfl (Nat.le_of_ble_eq_true rfl) rfl ?_
  refine g_aload_n dX1_become_0 rfl rfl ?_
  refine g_aload_n dX1_become_1 rfl rfl ?_
  refine g_getI dX1_become_2 fl_X1_15 hb2.1 rfl rfl ?_
  refine g_putI dX1_become_5 fp_X1_15 hb.1 rfl ?_
  refine g_aload_n dX1_become_8 rfl rfl ?_
  refine g_aload_n dX1_become_9 rfl rfl ?_
  refine g_getI dX1_become_10 fl_X1_19 hb2.1 rfl ((by rw [upI_ap (by omega)] : _ = M.1 (B + k2) 1)) ?_
  refine g_putI dX1_become_13 fp_X1_19 hb.1 rfl ?_
  refine g_aload_n dX1_become_16 rfl rfl ?_
  refine g_aload_n dX1_become_17 rfl rfl ?_
  refine g_getI dX1_become_18 fl_X1_22 hb2.1 rfl ((by rw [upI_ap (by omega), upI_ap (by omega)] : _ = M.1 (B + k2) 2)) ?_
  refine g_putI dX1_become_21 fp_X1_22 hb.1 rfl ?_
  refine g_aload_n dX1_become_24 rfl rfl ?_
  refine g_getR dX1_become_25 fl_X1_9 hb2.1 rfl ?_
  refine g_iconst dX1_become_28 kI_0 ?_
  refine g_aload_n dX1_become_29 rfl rfl ?_
  refine g_getR dX1_become_30 fl_X1_9 hb.1 rfl ?_
  refine g_iconst dX1_become_33 kI_0 ?_
  refine g_bipush dX1_become_34 kB_12 ?_
  refine g_cpyI dX1_become_36 ml_X1_25 hb2.2 hb.2 rfl rfl rfl (by omega) (by omega) ⟨lt_r rfl, Nat.le_of_ble_eq_true rfl⟩ ?_
  refine g_vret dX1_become_39 ⟨rfl, ?_⟩
  refine ⟨⟨fun j hj => ?_, fun j hj => ?_⟩, Sm.tr (Sm.tr (Sm.tr (Sm.pI (by omega) (by omega)) (Sm.pI (by omega) (by omega))) (Sm.pI (by omega) (by omega))) (Sm.pR (by omega) (by omega))⟩
  · rw [upR_ap (by omega)]
    match j, hj with
    | 0, _ => simp [upI_at]
    | 1, _ => simp [upI_at]
    | 2, _ => simp [upI_at]
  · rw [upR_s, va_cpy, if_pos ⟨by omega, by omega⟩, upI_ap (by omega), upI_ap (by omega), upI_ap (by omega)]
    rw [show 0 + (j - 0) = j by omega]
/-- wetOfAll: the loop -/
theorem lp_X1_wetOfAll {b : Bi} (hb : isB k) (hR : RB M (B + k) (B + (k + 1)) b) (ho : okB b) : ∀ (n i : Nat), i + n = b.2.2.1 →
    G E B cX1_wetOfAll (RX1, 3, some .int, rmD 0, 0, 0, KM E B (Rp (nI (sumN b.2.2.2 b.2.2.1)) M)) 4 [(0, .ref (B + k)), (1, .int (nI (sumN b.2.2.2 i))), (2, .int (nI i))] [] M := by
  obtain ⟨o1, o2, o3, o4⟩ := ho
  intro n
  induction n with
  | zero =>
    intro i h1
    refine g_iload_n dX1_wetOfAll_4 rfl rfl ?_
    refine g_aload_n dX1_wetOfAll_5 rfl rfl ?_
    refine g_getI dX1_wetOfAll_6 fl_X1_22 hb.1 rfl (hR.2.2.1) ?_
    refine g_icmp_geN (tgt := 27) dX1_wetOfAll_9 (by decide) rfl rfl (by omega) (by omega) (fun c_9 => ?_) (fun c_9 => absurd c_9 (by omega))
    refine g_iload_n dX1_wetOfAll_27 rfl rfl ?_
    refine g_iret dX1_wetOfAll_28 ⟨_, rfl, ?_⟩
    exact ⟨by rw [← h1]; rfl, rfl⟩
  | succ n ih =>
    intro i h1
    refine g_iload_n dX1_wetOfAll_4 rfl rfl ?_
    refine g_aload_n dX1_wetOfAll_5 rfl rfl ?_
    refine g_getI dX1_wetOfAll_6 fl_X1_22 hb.1 rfl (hR.2.2.1) ?_
    refine g_icmp_geN (tgt := 27) dX1_wetOfAll_9 (by decide) rfl rfl (by omega) (by omega) (fun c_9 => absurd c_9 (by omega)) (fun c_9 => ?_)
    refine g_iload_n dX1_wetOfAll_12 rfl rfl ?_
    refine g_aload_n dX1_wetOfAll_13 rfl rfl ?_
    refine g_getR dX1_wetOfAll_14 fl_X1_9 hb.1 rfl ?_
    refine g_iload_n dX1_wetOfAll_17 rfl rfl ?_
    refine g_iald dX1_wetOfAll_18 hb.2 rfl (by omega) (hR.2.2.2 i (by omega)) ?_
    refine g_iadd dX1_wetOfAll_19 (nI_add _ _) ?_
    refine g_istore_n dX1_wetOfAll_20 rfl (lt_r rfl) rfl ?_
    refine g_iinc dX1_wetOfAll_21 rfl (inc_nI _) rfl ?_
    refine g_goto (tgt := 4) dX1_wetOfAll_24 (by decide) (g_le (lvLe_c rfl (lvLe_c rfl (lvLe_c rfl lvLe_0))) (ih (i + 1) (by omega)))
theorem ct_X1_wetOfAll {b : Bi} (hb : isB k) (hR : RB M (B + k) (B + (k + 1)) b) (ho : okB b) : Ct E B yX1_wetOfAll cX1_wetOfAll 3 (some .int) 0 [.ref (B + k)] M (Rp (nI (sumN b.2.2.2 b.2.2.1)) M) := by
  refine Ct.of2 (own := RX1) (lv := [(0, .ref (B + k))]) pn_X1 rfl (Nat.le_of_ble_eq_true rfl) rfl ?_
  refine g_iconst dX1_wetOfAll_0 kI_0 ?_
  refine g_istore_n dX1_wetOfAll_1 rfl (lt_r rfl) rfl ?_
  refine g_iconst dX1_wetOfAll_2 kI_0 ?_
  refine g_istore_n dX1_wetOfAll_3 rfl (lt_r rfl) rfl ?_
  exact g_le (lvLe_c rfl (lvLe_c rfl (lvLe_c rfl lvLe_0))) (lp_X1_wetOfAll hb hR ho b.2.2.1 0 (by omega))
/-- hangsOn: the loop -/
theorem lp_X1_hangsOn {b : Bi} {c : Nat} (hb : isB k) (hR : RB M (B + k) (B + (k + 1)) b) (ho : okB b) (hc : c < b.2.2.1) : ∀ (n i : Nat), i + n = c →
    G E B cX1_hangsOn (RX1, 4, some .int, rmD 0, 0, 0, KM E B (Rp (nI (hangN b.2.2.2 c)) M)) 4 [(0, .ref (B + k)), (1, .int (nI c)), (2, .int (nI (hangN b.2.2.2 i))), (3, .int (nI i))] [] M := by
  obtain ⟨o1, o2, o3, o4⟩ := ho
  intro n
  induction n with
  | zero =>
    intro i h1
    refine g_iload_n dX1_hangsOn_4 rfl rfl ?_
    refine g_iload_n dX1_hangsOn_5 rfl rfl ?_
    refine g_icmp_geN (tgt := 37) dX1_hangsOn_6 (by decide) rfl rfl (by omega) (by omega) (fun c_6 => ?_) (fun c_6 => absurd c_6 (by omega))
    refine g_iload_n dX1_hangsOn_37 rfl rfl ?_
    refine g_iret dX1_hangsOn_38 ⟨_, rfl, ?_⟩
    exact ⟨by rw [← h1]; rfl, rfl⟩
  | succ n ih =>
    intro i h1
    have w5 := o4 i
    refine g_iload_n dX1_hangsOn_4 rfl rfl ?_
    refine g_iload_n dX1_hangsOn_5 rfl rfl ?_
    refine g_icmp_geN (tgt := 37) dX1_hangsOn_6 (by decide) rfl rfl (by omega) (by omega) (fun c_6 => absurd c_6 (by omega)) (fun c_6 => ?_)
    refine g_iload_n dX1_hangsOn_9 rfl rfl ?_
    refine g_aload_n dX1_hangsOn_10 rfl rfl ?_
    refine g_getI dX1_hangsOn_11 fl_X1_22 hb.1 rfl (hR.2.2.1) ?_
    refine g_icmp_geN (tgt := 37) dX1_hangsOn_14 (by decide) rfl rfl (by omega) (by omega) (fun c_14 => absurd c_14 (by omega)) (fun c_14 => ?_)
    refine g_iload_n dX1_hangsOn_17 rfl rfl ?_
    refine g_iconst dX1_hangsOn_18 kI_1 ?_
    refine g_aload_n dX1_hangsOn_19 rfl rfl ?_
    refine g_getR dX1_hangsOn_20 fl_X1_9 hb.1 rfl ?_
    refine g_iload_n dX1_hangsOn_23 rfl rfl ?_
    refine g_iald dX1_hangsOn_24 hb.2 rfl (by omega) (hR.2.2.2 i (by omega)) ?_
    refine g_bipush dX1_hangsOn_25 kB_20 ?_
    refine g_idiv dX1_hangsOn_27 (nI_ne0 (by omega) (by omega)) (pk_div (by omega) (by omega) (by omega)) ?_
    refine g_iadd dX1_hangsOn_28 (nI_add _ _) ?_
    refine g_iadd dX1_hangsOn_29 (nI_add _ _) ?_
    refine g_istore_n dX1_hangsOn_30 rfl (lt_r rfl) rfl ?_
    refine g_iinc dX1_hangsOn_31 rfl (inc_nI _) rfl ?_
    refine g_goto (tgt := 4) dX1_hangsOn_34 (by decide) (g_le (lvLe_c rfl (lvLe_c rfl (lvLe_c rfl (lvLe_c rfl lvLe_0)))) (ih (i + 1) (by omega)))
theorem ct_X1_hangsOn {b : Bi} {c : Nat} (hb : isB k) (hR : RB M (B + k) (B + (k + 1)) b) (ho : okB b) (hc : c < b.2.2.1) : Ct E B yX1_hangsOn cX1_hangsOn 4 (some .int) 0 [.ref (B + k), .int (nI c)] M (Rp (nI (hangN b.2.2.2 c)) M) := by
  refine Ct.of2 (own := RX1) (lv := [(0, .ref (B + k)), (1, .int (nI c))]) pn_X1 rfl (Nat.le_of_ble_eq_true rfl) rfl ?_
  refine g_iconst dX1_hangsOn_0 kI_0 ?_
  refine g_istore_n dX1_hangsOn_1 rfl (lt_r rfl) rfl ?_
  refine g_iconst dX1_hangsOn_2 kI_0 ?_
  refine g_istore_n dX1_hangsOn_3 rfl (lt_r rfl) rfl ?_
  exact g_le (lvLe_c rfl (lvLe_c rfl (lvLe_c rfl (lvLe_c rfl lvLe_0)))) (lp_X1_hangsOn hb hR ho hc c 0 (by omega))
theorem ct_X1_holdsAt {b : Bi} {c : Nat} (hb : isB k) (hR : RB M (B + k) (B + (k + 1)) b) (ho : okB b) (hc : c < b.2.2.1) : Ct E B yX1_holdsAt cX1_holdsAt 2 (some .int) 1 [.ref (B + k), .int (nI c)] M (Rp (holdI b.1 b.2.1 (b.2.2.2 c)) M) := by
  have ho' := ho
  obtain ⟨o1, o2, o3, o4⟩ := ho
  refine Ct.of2 (own := RX1) (lv := [(0, .ref (B + k)), (1, .int (nI c))]) pn_X1 rfl (Nat.le_of_ble_eq_true rfl) rfl ?_
  refine g_aload_n dX1_holdsAt_0 rfl rfl ?_
  refine g_iload_n dX1_holdsAt_1 rfl rfl ?_
  refine g_callVp dX1_holdsAt_2 mi_X1_hasCell ml_X1_37 (ct_X1_hasCellN hb hR (by omega) (by omega)) hb.1 rfl rfl rfl (Nat.le_of_ble_eq_true rfl) ⟨lt_r rfl, Nat.le_of_ble_eq_true rfl⟩ ?_
  refine g_if_eqP (tgt := 21) dX1_holdsAt_5 (by decide) (fun c_5 => absurd hc c_5) (fun c_5 => ?_)
  refine g_aload_n dX1_holdsAt_8 rfl rfl ?_
  refine g_aload_n dX1_holdsAt_9 rfl rfl ?_
  refine g_getR dX1_holdsAt_10 fl_X1_9 hb.1 rfl ?_
  refine g_iload_n dX1_holdsAt_13 rfl rfl ?_
  refine g_iald dX1_holdsAt_14 hb.2 rfl (by omega) (hR.2.2.2 c hc) ?_
  refine g_callVp dX1_holdsAt_15 mi_X1_holdsSoWet ml_X1_41 (ct_X1_holdsSoWet hb hR ho') hb.1 rfl rfl rfl (Nat.le_of_ble_eq_true rfl) ⟨lt_r rfl, Nat.le_of_ble_eq_true rfl⟩ ?_
  refine g_goto (tgt := 22) dX1_holdsAt_18 (by decide) ?_
  refine g_iret dX1_holdsAt_22 ⟨_, rfl, ?_⟩
  exact ⟨rfl, rfl⟩
theorem ct_X1_loseBelow {b : Bi} {c : Nat} (hb : isB k) (hR : RB M (B + k) (B + (k + 1)) b) (ho : okB b) (hc : c < b.2.2.1) : Ct E B yX1_loseBelow cX1_loseBelow 2 none 1 [.ref (B + k), .int (nI c)] M (Rv (fun M2 => RB M2 (B + k) (B + (k + 1)) (b.1, b.2.1, b.2.2.1 - c, fun i => b.2.2.2 (i + c)) ∧ Sm B M M2 k (k + 2))) := by
  obtain ⟨o1, o2, o3, o4⟩ := ho
  refine Ct.of2 (own := RX1) (lv := [(0, .ref (B + k)), (1, .int (nI c))]) pn_X1 rfl (Nat.le_of_ble_eq_true rfl) rfl ?_
  refine g_aload_n dX1_loseBelow_0 rfl rfl ?_
  refine g_iload_n dX1_loseBelow_1 rfl rfl ?_
  refine g_callVp dX1_loseBelow_2 mi_X1_hasCell ml_X1_37 (ct_X1_hasCellN hb hR (by omega) (by omega)) hb.1 rfl rfl rfl (Nat.le_of_ble_eq_true rfl) ⟨lt_r rfl, Nat.le_of_ble_eq_true rfl⟩ ?_
  refine g_if_neP (tgt := 9) dX1_loseBelow_5 (by decide) (fun c_5 => ?_) (fun c_5 => absurd hc c_5)
  refine g_aload_n dX1_loseBelow_9 rfl rfl ?_
  refine g_dup dX1_loseBelow_10 rfl ?_
  refine g_getI dX1_loseBelow_11 fl_X1_22 hb.1 rfl (hR.2.2.1) ?_
  refine g_iload_n dX1_loseBelow_14 rfl rfl ?_
  first | refine g_isub dX1_loseBelow_15 (pk_sub (by omega)) ?_ | refine g_isub dX1_loseBelow_15 rfl ?_
  refine g_putI dX1_loseBelow_16 fp_X1_22 hb.1 rfl ?_
  refine g_aload_n dX1_loseBelow_19 rfl rfl ?_
  refine g_getR dX1_loseBelow_20 fl_X1_9 hb.1 rfl ?_
  refine g_iload_n dX1_loseBelow_23 rfl rfl ?_
  refine g_aload_n dX1_loseBelow_24 rfl rfl ?_
  refine g_getR dX1_loseBelow_25 fl_X1_9 hb.1 rfl ?_
  refine g_iconst dX1_loseBelow_28 kI_0 ?_
  refine g_aload_n dX1_loseBelow_29 rfl rfl ?_
  refine g_getI dX1_loseBelow_30 fl_X1_22 hb.1 rfl ((by rw [upI_s] : _ = nI (b.2.2.1 - c))) ?_
  refine g_cpyI dX1_loseBelow_33 ml_X1_25 hb.2 hb.2 rfl rfl rfl (by omega) (by omega) ⟨lt_r rfl, Nat.le_of_ble_eq_true rfl⟩ ?_
  refine g_vret dX1_loseBelow_36 ⟨rfl, ?_⟩
  refine ⟨⟨?_, ?_, ?_, fun i hi => ?_⟩, Sm.tr (Sm.pI (by omega) (by omega)) (Sm.pR (by omega) (by omega))⟩
  · rw [upR_ap (by omega), upI_k (by omega)]; exact hR.1
  · rw [upR_ap (by omega), upI_k (by omega)]; exact hR.2.1
  · rw [upR_ap (by omega), upI_s]
  · rw [upR_s, va_cpy, if_pos ⟨by omega, by show i < 0 + (b.2.2.1 - c); have : i < b.2.2.1 - c := hi; omega⟩, upI_ap (by omega)]
    show M.1 (B + (k + 1)) (c + (i - 0)) = nI (b.2.2.2 (i + c))
    have hi : i < b.2.2.1 - c := hi
    rw [show c + (i - 0) = i + c by omega]
    exact hR.2.2.2 _ (by omega)
/-- turnAbout: the loop -/
theorem lp_X1_turnAbout {b : Bi} (hb : isB k) (hR : RB M (B + k) (B + (k + 1)) b) (ho : okB b) : ∀ (n i : Nat) (M' : MM), i + n = b.2.2.1 / 2 → (∀ j, j < b.2.2.1 → M'.1 (B + (k + 1)) j = nI (if j < i ∨ b.2.2.1 - 1 - j < i then b.2.2.2 (b.2.2.1 - 1 - j) else b.2.2.2 j)) → Sm B M M' (k + 1) (k + 2) →
    G E B cX1_turnAbout (RX1, 4, none, rmD 0, 0, 0, KM E B (Rv (fun M2 => RB M2 (B + k) (B + (k + 1)) (b.1, b.2.1, b.2.2.1, turnW b.2.2.1 b.2.2.2) ∧ Sm B M M2 (k + 1) (k + 2)))) 2 [(0, .ref (B + k)), (1, .int (nI i))] [] M' := by
  obtain ⟨o1, o2, o3, o4⟩ := ho
  intro n
  induction n with
  | zero =>
    intro i M' h1 h2 h3
    have f2 : M'.1 (B + k) = M.1 (B + k) := h3.i (by omega)
    refine g_iload_n dX1_turnAbout_2 rfl rfl ?_
    refine g_aload_n dX1_turnAbout_3 rfl rfl ?_
    refine g_getI dX1_turnAbout_4 fl_X1_22 hb.1 rfl ((congrFun f2 2).trans hR.2.2.1) ?_
    refine g_iconst dX1_turnAbout_7 kI_2 ?_
    refine g_idiv dX1_turnAbout_8 (nI_ne0 (by omega) (by omega)) (pk_div (by omega) (by omega) (by omega)) ?_
    refine g_icmp_geN (tgt := 53) dX1_turnAbout_9 (by decide) rfl rfl (by omega) (by omega) (fun c_9 => ?_) (fun c_9 => absurd c_9 (by omega))
    refine g_vret dX1_turnAbout_53 ⟨rfl, ?_⟩
    refine ⟨⟨by rw [f2]; exact hR.1, by rw [f2]; exact hR.2.1, by rw [f2]; exact hR.2.2.1, fun j hj => ?_⟩, h3⟩
    have hj : j < b.2.2.1 := hj
    rw [h2 j hj]
    show _ = nI (turnW b.2.2.1 b.2.2.2 j)
    unfold turnW
    rw [if_pos hj]
    split
    · rfl
    · rw [show b.2.2.1 - 1 - j = j by omega]
  | succ n ih =>
    intro i M' h1 h2 h3
    have f2 : M'.1 (B + k) = M.1 (B + k) := h3.i (by omega)
    refine g_iload_n dX1_turnAbout_2 rfl rfl ?_
    refine g_aload_n dX1_turnAbout_3 rfl rfl ?_
    refine g_getI dX1_turnAbout_4 fl_X1_22 hb.1 rfl ((congrFun f2 2).trans hR.2.2.1) ?_
    refine g_iconst dX1_turnAbout_7 kI_2 ?_
    refine g_idiv dX1_turnAbout_8 (nI_ne0 (by omega) (by omega)) (pk_div (by omega) (by omega) (by omega)) ?_
    refine g_icmp_geN (tgt := 53) dX1_turnAbout_9 (by decide) rfl rfl (by omega) (by omega) (fun c_9 => absurd c_9 (by omega)) (fun c_9 => ?_)
    refine g_aload_n dX1_turnAbout_12 rfl rfl ?_
    refine g_getI dX1_turnAbout_13 fl_X1_22 hb.1 rfl ((congrFun f2 2).trans hR.2.2.1) ?_
    refine g_iconst dX1_turnAbout_16 kI_1 ?_
    first | refine g_isub dX1_turnAbout_17 (pk_sub (by omega)) ?_ | refine g_isub dX1_turnAbout_17 rfl ?_
    refine g_iload_n dX1_turnAbout_18 rfl rfl ?_
    first | refine g_isub dX1_turnAbout_19 (pk_sub (by omega)) ?_ | refine g_isub dX1_turnAbout_19 rfl ?_
    refine g_istore_n dX1_turnAbout_20 rfl (lt_r rfl) rfl ?_
    refine g_aload_n dX1_turnAbout_21 rfl rfl ?_
    refine g_getR dX1_turnAbout_22 fl_X1_9 hb.1 rfl ?_
    refine g_iload_n dX1_turnAbout_25 rfl rfl ?_
    refine g_iald dX1_turnAbout_26 hb.2 rfl (by omega) (h2 i (by omega)) ?_
    refine g_istore_n dX1_turnAbout_27 rfl (lt_r rfl) rfl ?_
    refine g_aload_n dX1_turnAbout_28 rfl rfl ?_
    refine g_getR dX1_turnAbout_29 fl_X1_9 hb.1 rfl ?_
    refine g_iload_n dX1_turnAbout_32 rfl rfl ?_
    refine g_aload_n dX1_turnAbout_33 rfl rfl ?_
    refine g_getR dX1_turnAbout_34 fl_X1_9 hb.1 rfl ?_
    refine g_iload_n dX1_turnAbout_37 rfl rfl ?_
    refine g_iald dX1_turnAbout_38 hb.2 rfl (by omega) (h2 (b.2.2.1 - 1 - i) (by omega)) ?_
    refine g_iast dX1_turnAbout_39 hb.2 rfl (by omega) ?_
    refine g_aload_n dX1_turnAbout_40 rfl rfl ?_
    refine g_getR dX1_turnAbout_41 fl_X1_9 hb.1 rfl ?_
    refine g_iload_n dX1_turnAbout_44 rfl rfl ?_
    refine g_iload_n dX1_turnAbout_45 rfl rfl ?_
    refine g_iast dX1_turnAbout_46 hb.2 rfl (by omega) ?_
    refine g_iinc dX1_turnAbout_47 rfl (inc_nI _) rfl ?_
    refine g_goto (tgt := 2) dX1_turnAbout_50 (by decide) (g_le (lvLe_c rfl (lvLe_c rfl lvLe_0)) (ih (i + 1) _ (by omega) (fun j hj => ?_) (h3.tr (Sm.tr (Sm.pI (by omega) (by omega)) (Sm.pI (by omega) (by omega))))))
    rw [upI_at, upI_at, h2 j hj]
    by_cases e1 : j = b.2.2.1 - 1 - i
    · rw [if_pos e1, if_neg (by omega), if_pos (by omega), show b.2.2.1 - 1 - j = i by omega]
    · rw [if_neg e1]
      by_cases e2 : j = i
      · rw [if_pos e2, if_neg (by omega), if_pos (by omega), e2]
      · rw [if_neg e2]
        by_cases e3 : j < i ∨ b.2.2.1 - 1 - j < i
        · rw [if_pos e3, if_pos (by omega)]
        · rw [if_neg e3, if_neg (by omega)]
theorem ct_X1_turnAbout {b : Bi} (hb : isB k) (hR : RB M (B + k) (B + (k + 1)) b) (ho : okB b) : Ct E B yX1_turnAbout cX1_turnAbout 4 none 0 [.ref (B + k)] M (Rv (fun M2 => RB M2 (B + k) (B + (k + 1)) (b.1, b.2.1, b.2.2.1, turnW b.2.2.1 b.2.2.2) ∧ Sm B M M2 (k + 1) (k + 2))) := by
  refine Ct.of2 (own := RX1) (lv := [(0, .ref (B + k))]) pn_X1 rfl (Nat.le_of_ble_eq_true rfl) rfl ?_
  refine g_iconst dX1_turnAbout_0 kI_0 ?_
  refine g_istore_n dX1_turnAbout_1 rfl (lt_r rfl) rfl ?_
  exact g_le (lvLe_c rfl (lvLe_c rfl lvLe_0)) (lp_X1_turnAbout hb hR ho (b.2.2.1 / 2) 0 M (by omega) (fun j hj => by rw [if_neg (by omega)]; exact hR.2.2.2 j hj) Sm.rf)
/-- isOf: the walk up -/
theorem lp_X1_isOf0 {g s : Nat} (hb : isB k) (hg : g ≤ 6) (hs : s ≤ 3) : G E B cX1_isOf (RX1, 4, some .boolean, rmD 0, 0, 0, KM E B (Ri (fun r M' => (∃ P : Prop, ∃ _ : Decidable P, r = bp P ∧ (P ↔ ofN 0 g)) ∧ M' = M))) 7 [(0, .ref (B + k)), (1, .int (nI g)), (2, .int (nI 0)), (3, .int (nI s))] [] M := by
  refine g_iload_n dX1_isOf_7 rfl rfl ?_
  refine g_bipush dX1_isOf_8 kB_7 ?_
  refine g_icmp_geN (tgt := 42) dX1_isOf_10 (by decide) rfl rfl (by omega) (by omega) (fun c_10 => absurd c_10 (by omega)) (fun c_10 => ?_)
  refine g_iload_n dX1_isOf_13 rfl rfl ?_
  refine g_if_ltN (tgt := 42) dX1_isOf_14 (by decide) rfl (by omega) ?_
  refine g_iload_n dX1_isOf_17 rfl rfl ?_
  refine g_bipush dX1_isOf_18 kB_7 ?_
  refine g_icmp_geN (tgt := 42) dX1_isOf_20 (by decide) rfl rfl (by omega) (by omega) (fun c_20 => absurd c_20 (by omega)) (fun c_20 => ?_)
  refine g_iload_n dX1_isOf_23 rfl rfl ?_
  refine g_iload_n dX1_isOf_24 rfl rfl ?_
  refine g_icmp_neN (tgt := 30) dX1_isOf_25 (by decide) rfl rfl (by omega) (by omega) (fun c_25 => ?_) (fun c_25 => ?_)
  · refine g_getAb dX1_isOf_30 fn_X1_34 ?_
    refine g_iload_n dX1_isOf_33 rfl rfl ?_
    refine g_ialdAb dX1_isOf_34 rfl (by omega) (rfl) ?_
    refine g_istore_n dX1_isOf_35 rfl (lt_r rfl) rfl ?_
    refine g_iinc dX1_isOf_36 rfl (inc_nI _) rfl ?_
    refine g_goto (tgt := 7) dX1_isOf_39 (by decide) ?_
    refine g_iload_n dX1_isOf_7 rfl rfl ?_
    refine g_bipush dX1_isOf_8 kB_7 ?_
    refine g_icmp_geN (tgt := 42) dX1_isOf_10 (by decide) rfl rfl (by omega) (by omega) (fun c_10 => absurd c_10 (by omega)) (fun _ => ?_)
    refine g_iload_n dX1_isOf_13 rfl rfl ?_
    refine g_if_lt (tgt := 42) dX1_isOf_14 (by decide) (fun _ => ?_) (fun c => absurd (by decide) c)
    refine g_iconst dX1_isOf_42 kI_0 ?_
    refine g_zret dX1_isOf_43 (Or.inl rfl) ⟨_, rfl, ?_⟩
    exact ⟨⟨False, inferInstance, rfl, ⟨fun q => q.elim, fun q => by unfold ofN at q; omega⟩⟩, rfl⟩
  · refine g_iconst dX1_isOf_28 kI_1 ?_
    refine g_zret dX1_isOf_29 (by first | exact Or.inl rfl | exact Or.inr rfl | exact bp_01) ⟨_, rfl, ?_⟩
    exact ⟨⟨True, inferInstance, rfl, ⟨fun _ => Or.inl (by omega), fun _ => trivial⟩⟩, rfl⟩
theorem lp_X1_isOf1 {g s : Nat} (hb : isB k) (hg : g ≤ 6) (hs : s ≤ 2) : G E B cX1_isOf (RX1, 4, some .boolean, rmD 0, 0, 0, KM E B (Ri (fun r M' => (∃ P : Prop, ∃ _ : Decidable P, r = bp P ∧ (P ↔ ofN 1 g)) ∧ M' = M))) 7 [(0, .ref (B + k)), (1, .int (nI g)), (2, .int (nI 1)), (3, .int (nI s))] [] M := by
  refine g_iload_n dX1_isOf_7 rfl rfl ?_
  refine g_bipush dX1_isOf_8 kB_7 ?_
  refine g_icmp_geN (tgt := 42) dX1_isOf_10 (by decide) rfl rfl (by omega) (by omega) (fun c_10 => absurd c_10 (by omega)) (fun c_10 => ?_)
  refine g_iload_n dX1_isOf_13 rfl rfl ?_
  refine g_if_ltN (tgt := 42) dX1_isOf_14 (by decide) rfl (by omega) ?_
  refine g_iload_n dX1_isOf_17 rfl rfl ?_
  refine g_bipush dX1_isOf_18 kB_7 ?_
  refine g_icmp_geN (tgt := 42) dX1_isOf_20 (by decide) rfl rfl (by omega) (by omega) (fun c_20 => absurd c_20 (by omega)) (fun c_20 => ?_)
  refine g_iload_n dX1_isOf_23 rfl rfl ?_
  refine g_iload_n dX1_isOf_24 rfl rfl ?_
  refine g_icmp_neN (tgt := 30) dX1_isOf_25 (by decide) rfl rfl (by omega) (by omega) (fun c_25 => ?_) (fun c_25 => ?_)
  · refine g_getAb dX1_isOf_30 fn_X1_34 ?_
    refine g_iload_n dX1_isOf_33 rfl rfl ?_
    refine g_ialdAb dX1_isOf_34 rfl (by omega) ((rfl : fAb 1 = nI 0)) ?_
    refine g_istore_n dX1_isOf_35 rfl (lt_r rfl) rfl ?_
    refine g_iinc dX1_isOf_36 rfl (inc_nI _) rfl ?_
    refine g_goto (tgt := 7) dX1_isOf_39 (by decide) ?_
    have e1 : ofN 1 g ↔ ofN 0 g := by unfold ofN; omega
    simp only [e1]
    exact g_le (lvLe_c rfl (lvLe_c rfl (lvLe_c rfl (lvLe_c rfl lvLe_0)))) (lp_X1_isOf0 hb hg (by omega))
  · refine g_iconst dX1_isOf_28 kI_1 ?_
    refine g_zret dX1_isOf_29 (by first | exact Or.inl rfl | exact Or.inr rfl | exact bp_01) ⟨_, rfl, ?_⟩
    exact ⟨⟨True, inferInstance, rfl, ⟨fun _ => by unfold ofN; omega, fun _ => trivial⟩⟩, rfl⟩
theorem lp_X1_isOf2 {g s : Nat} (hb : isB k) (hg : g ≤ 6) (hs : s ≤ 2) : G E B cX1_isOf (RX1, 4, some .boolean, rmD 0, 0, 0, KM E B (Ri (fun r M' => (∃ P : Prop, ∃ _ : Decidable P, r = bp P ∧ (P ↔ ofN 2 g)) ∧ M' = M))) 7 [(0, .ref (B + k)), (1, .int (nI g)), (2, .int (nI 2)), (3, .int (nI s))] [] M := by
  refine g_iload_n dX1_isOf_7 rfl rfl ?_
  refine g_bipush dX1_isOf_8 kB_7 ?_
  refine g_icmp_geN (tgt := 42) dX1_isOf_10 (by decide) rfl rfl (by omega) (by omega) (fun c_10 => absurd c_10 (by omega)) (fun c_10 => ?_)
  refine g_iload_n dX1_isOf_13 rfl rfl ?_
  refine g_if_ltN (tgt := 42) dX1_isOf_14 (by decide) rfl (by omega) ?_
  refine g_iload_n dX1_isOf_17 rfl rfl ?_
  refine g_bipush dX1_isOf_18 kB_7 ?_
  refine g_icmp_geN (tgt := 42) dX1_isOf_20 (by decide) rfl rfl (by omega) (by omega) (fun c_20 => absurd c_20 (by omega)) (fun c_20 => ?_)
  refine g_iload_n dX1_isOf_23 rfl rfl ?_
  refine g_iload_n dX1_isOf_24 rfl rfl ?_
  refine g_icmp_neN (tgt := 30) dX1_isOf_25 (by decide) rfl rfl (by omega) (by omega) (fun c_25 => ?_) (fun c_25 => ?_)
  · refine g_getAb dX1_isOf_30 fn_X1_34 ?_
    refine g_iload_n dX1_isOf_33 rfl rfl ?_
    refine g_ialdAb dX1_isOf_34 rfl (by omega) ((rfl : fAb 2 = nI 0)) ?_
    refine g_istore_n dX1_isOf_35 rfl (lt_r rfl) rfl ?_
    refine g_iinc dX1_isOf_36 rfl (inc_nI _) rfl ?_
    refine g_goto (tgt := 7) dX1_isOf_39 (by decide) ?_
    have e1 : ofN 2 g ↔ ofN 0 g := by unfold ofN; omega
    simp only [e1]
    exact g_le (lvLe_c rfl (lvLe_c rfl (lvLe_c rfl (lvLe_c rfl lvLe_0)))) (lp_X1_isOf0 hb hg (by omega))
  · refine g_iconst dX1_isOf_28 kI_1 ?_
    refine g_zret dX1_isOf_29 (by first | exact Or.inl rfl | exact Or.inr rfl | exact bp_01) ⟨_, rfl, ?_⟩
    exact ⟨⟨True, inferInstance, rfl, ⟨fun _ => by unfold ofN; omega, fun _ => trivial⟩⟩, rfl⟩
theorem lp_X1_isOf4 {g s : Nat} (hb : isB k) (hg : g ≤ 6) (hs : s ≤ 2) : G E B cX1_isOf (RX1, 4, some .boolean, rmD 0, 0, 0, KM E B (Ri (fun r M' => (∃ P : Prop, ∃ _ : Decidable P, r = bp P ∧ (P ↔ ofN 4 g)) ∧ M' = M))) 7 [(0, .ref (B + k)), (1, .int (nI g)), (2, .int (nI 4)), (3, .int (nI s))] [] M := by
  refine g_iload_n dX1_isOf_7 rfl rfl ?_
  refine g_bipush dX1_isOf_8 kB_7 ?_
  refine g_icmp_geN (tgt := 42) dX1_isOf_10 (by decide) rfl rfl (by omega) (by omega) (fun c_10 => absurd c_10 (by omega)) (fun c_10 => ?_)
  refine g_iload_n dX1_isOf_13 rfl rfl ?_
  refine g_if_ltN (tgt := 42) dX1_isOf_14 (by decide) rfl (by omega) ?_
  refine g_iload_n dX1_isOf_17 rfl rfl ?_
  refine g_bipush dX1_isOf_18 kB_7 ?_
  refine g_icmp_geN (tgt := 42) dX1_isOf_20 (by decide) rfl rfl (by omega) (by omega) (fun c_20 => absurd c_20 (by omega)) (fun c_20 => ?_)
  refine g_iload_n dX1_isOf_23 rfl rfl ?_
  refine g_iload_n dX1_isOf_24 rfl rfl ?_
  refine g_icmp_neN (tgt := 30) dX1_isOf_25 (by decide) rfl rfl (by omega) (by omega) (fun c_25 => ?_) (fun c_25 => ?_)
  · refine g_getAb dX1_isOf_30 fn_X1_34 ?_
    refine g_iload_n dX1_isOf_33 rfl rfl ?_
    refine g_ialdAb dX1_isOf_34 rfl (by omega) ((rfl : fAb 4 = nI 0)) ?_
    refine g_istore_n dX1_isOf_35 rfl (lt_r rfl) rfl ?_
    refine g_iinc dX1_isOf_36 rfl (inc_nI _) rfl ?_
    refine g_goto (tgt := 7) dX1_isOf_39 (by decide) ?_
    have e1 : ofN 4 g ↔ ofN 0 g := by unfold ofN; omega
    simp only [e1]
    exact g_le (lvLe_c rfl (lvLe_c rfl (lvLe_c rfl (lvLe_c rfl lvLe_0)))) (lp_X1_isOf0 hb hg (by omega))
  · refine g_iconst dX1_isOf_28 kI_1 ?_
    refine g_zret dX1_isOf_29 (by first | exact Or.inl rfl | exact Or.inr rfl | exact bp_01) ⟨_, rfl, ?_⟩
    exact ⟨⟨True, inferInstance, rfl, ⟨fun _ => by unfold ofN; omega, fun _ => trivial⟩⟩, rfl⟩
theorem lp_X1_isOf3 {g s : Nat} (hb : isB k) (hg : g ≤ 6) (hs : s ≤ 1) : G E B cX1_isOf (RX1, 4, some .boolean, rmD 0, 0, 0, KM E B (Ri (fun r M' => (∃ P : Prop, ∃ _ : Decidable P, r = bp P ∧ (P ↔ ofN 3 g)) ∧ M' = M))) 7 [(0, .ref (B + k)), (1, .int (nI g)), (2, .int (nI 3)), (3, .int (nI s))] [] M := by
  refine g_iload_n dX1_isOf_7 rfl rfl ?_
  refine g_bipush dX1_isOf_8 kB_7 ?_
  refine g_icmp_geN (tgt := 42) dX1_isOf_10 (by decide) rfl rfl (by omega) (by omega) (fun c_10 => absurd c_10 (by omega)) (fun c_10 => ?_)
  refine g_iload_n dX1_isOf_13 rfl rfl ?_
  refine g_if_ltN (tgt := 42) dX1_isOf_14 (by decide) rfl (by omega) ?_
  refine g_iload_n dX1_isOf_17 rfl rfl ?_
  refine g_bipush dX1_isOf_18 kB_7 ?_
  refine g_icmp_geN (tgt := 42) dX1_isOf_20 (by decide) rfl rfl (by omega) (by omega) (fun c_20 => absurd c_20 (by omega)) (fun c_20 => ?_)
  refine g_iload_n dX1_isOf_23 rfl rfl ?_
  refine g_iload_n dX1_isOf_24 rfl rfl ?_
  refine g_icmp_neN (tgt := 30) dX1_isOf_25 (by decide) rfl rfl (by omega) (by omega) (fun c_25 => ?_) (fun c_25 => ?_)
  · refine g_getAb dX1_isOf_30 fn_X1_34 ?_
    refine g_iload_n dX1_isOf_33 rfl rfl ?_
    refine g_ialdAb dX1_isOf_34 rfl (by omega) ((rfl : fAb 3 = nI 1)) ?_
    refine g_istore_n dX1_isOf_35 rfl (lt_r rfl) rfl ?_
    refine g_iinc dX1_isOf_36 rfl (inc_nI _) rfl ?_
    refine g_goto (tgt := 7) dX1_isOf_39 (by decide) ?_
    have e1 : ofN 3 g ↔ ofN 1 g := by unfold ofN; omega
    simp only [e1]
    exact g_le (lvLe_c rfl (lvLe_c rfl (lvLe_c rfl (lvLe_c rfl lvLe_0)))) (lp_X1_isOf1 hb hg (by omega))
  · refine g_iconst dX1_isOf_28 kI_1 ?_
    refine g_zret dX1_isOf_29 (by first | exact Or.inl rfl | exact Or.inr rfl | exact bp_01) ⟨_, rfl, ?_⟩
    exact ⟨⟨True, inferInstance, rfl, ⟨fun _ => by unfold ofN; omega, fun _ => trivial⟩⟩, rfl⟩
theorem lp_X1_isOf5 {g s : Nat} (hb : isB k) (hg : g ≤ 6) (hs : s ≤ 1) : G E B cX1_isOf (RX1, 4, some .boolean, rmD 0, 0, 0, KM E B (Ri (fun r M' => (∃ P : Prop, ∃ _ : Decidable P, r = bp P ∧ (P ↔ ofN 5 g)) ∧ M' = M))) 7 [(0, .ref (B + k)), (1, .int (nI g)), (2, .int (nI 5)), (3, .int (nI s))] [] M := by
  refine g_iload_n dX1_isOf_7 rfl rfl ?_
  refine g_bipush dX1_isOf_8 kB_7 ?_
  refine g_icmp_geN (tgt := 42) dX1_isOf_10 (by decide) rfl rfl (by omega) (by omega) (fun c_10 => absurd c_10 (by omega)) (fun c_10 => ?_)
  refine g_iload_n dX1_isOf_13 rfl rfl ?_
  refine g_if_ltN (tgt := 42) dX1_isOf_14 (by decide) rfl (by omega) ?_
  refine g_iload_n dX1_isOf_17 rfl rfl ?_
  refine g_bipush dX1_isOf_18 kB_7 ?_
  refine g_icmp_geN (tgt := 42) dX1_isOf_20 (by decide) rfl rfl (by omega) (by omega) (fun c_20 => absurd c_20 (by omega)) (fun c_20 => ?_)
  refine g_iload_n dX1_isOf_23 rfl rfl ?_
  refine g_iload_n dX1_isOf_24 rfl rfl ?_
  refine g_icmp_neN (tgt := 30) dX1_isOf_25 (by decide) rfl rfl (by omega) (by omega) (fun c_25 => ?_) (fun c_25 => ?_)
  · refine g_getAb dX1_isOf_30 fn_X1_34 ?_
    refine g_iload_n dX1_isOf_33 rfl rfl ?_
    refine g_ialdAb dX1_isOf_34 rfl (by omega) ((rfl : fAb 5 = nI 2)) ?_
    refine g_istore_n dX1_isOf_35 rfl (lt_r rfl) rfl ?_
    refine g_iinc dX1_isOf_36 rfl (inc_nI _) rfl ?_
    refine g_goto (tgt := 7) dX1_isOf_39 (by decide) ?_
    have e1 : ofN 5 g ↔ ofN 2 g := by unfold ofN; omega
    simp only [e1]
    exact g_le (lvLe_c rfl (lvLe_c rfl (lvLe_c rfl (lvLe_c rfl lvLe_0)))) (lp_X1_isOf2 hb hg (by omega))
  · refine g_iconst dX1_isOf_28 kI_1 ?_
    refine g_zret dX1_isOf_29 (by first | exact Or.inl rfl | exact Or.inr rfl | exact bp_01) ⟨_, rfl, ?_⟩
    exact ⟨⟨True, inferInstance, rfl, ⟨fun _ => by unfold ofN; omega, fun _ => trivial⟩⟩, rfl⟩
theorem lp_X1_isOf6 {g s : Nat} (hb : isB k) (hg : g ≤ 6) (hs : s ≤ 1) : G E B cX1_isOf (RX1, 4, some .boolean, rmD 0, 0, 0, KM E B (Ri (fun r M' => (∃ P : Prop, ∃ _ : Decidable P, r = bp P ∧ (P ↔ ofN 6 g)) ∧ M' = M))) 7 [(0, .ref (B + k)), (1, .int (nI g)), (2, .int (nI 6)), (3, .int (nI s))] [] M := by
  refine g_iload_n dX1_isOf_7 rfl rfl ?_
  refine g_bipush dX1_isOf_8 kB_7 ?_
  refine g_icmp_geN (tgt := 42) dX1_isOf_10 (by decide) rfl rfl (by omega) (by omega) (fun c_10 => absurd c_10 (by omega)) (fun c_10 => ?_)
  refine g_iload_n dX1_isOf_13 rfl rfl ?_
  refine g_if_ltN (tgt := 42) dX1_isOf_14 (by decide) rfl (by omega) ?_
  refine g_iload_n dX1_isOf_17 rfl rfl ?_
  refine g_bipush dX1_isOf_18 kB_7 ?_
  refine g_icmp_geN (tgt := 42) dX1_isOf_20 (by decide) rfl rfl (by omega) (by omega) (fun c_20 => absurd c_20 (by omega)) (fun c_20 => ?_)
  refine g_iload_n dX1_isOf_23 rfl rfl ?_
  refine g_iload_n dX1_isOf_24 rfl rfl ?_
  refine g_icmp_neN (tgt := 30) dX1_isOf_25 (by decide) rfl rfl (by omega) (by omega) (fun c_25 => ?_) (fun c_25 => ?_)
  · refine g_getAb dX1_isOf_30 fn_X1_34 ?_
    refine g_iload_n dX1_isOf_33 rfl rfl ?_
    refine g_ialdAb dX1_isOf_34 rfl (by omega) ((rfl : fAb 6 = nI 4)) ?_
    refine g_istore_n dX1_isOf_35 rfl (lt_r rfl) rfl ?_
    refine g_iinc dX1_isOf_36 rfl (inc_nI _) rfl ?_
    refine g_goto (tgt := 7) dX1_isOf_39 (by decide) ?_
    have e1 : ofN 6 g ↔ ofN 4 g := by unfold ofN; omega
    simp only [e1]
    exact g_le (lvLe_c rfl (lvLe_c rfl (lvLe_c rfl (lvLe_c rfl lvLe_0)))) (lp_X1_isOf4 hb hg (by omega))
  · refine g_iconst dX1_isOf_28 kI_1 ?_
    refine g_zret dX1_isOf_29 (by first | exact Or.inl rfl | exact Or.inr rfl | exact bp_01) ⟨_, rfl, ?_⟩
    exact ⟨⟨True, inferInstance, rfl, ⟨fun _ => by unfold ofN; omega, fun _ => trivial⟩⟩, rfl⟩
theorem ct_X1_isOf {b : Bi} {g : Nat} (hb : isB k) (hR : RB M (B + k) (B + (k + 1)) b) (ho : okB b) (hg : g ≤ 6) : Ct E B yX1_isOf cX1_isOf 4 (some .boolean) 0 [.ref (B + k), .int (nI g)] M (Ri (fun r M' => (∃ P : Prop, ∃ _ : Decidable P, r = bp P ∧ (P ↔ ofN b.1 g)) ∧ M' = M)) := by
  obtain ⟨o1, o2, o3, o4⟩ := ho
  refine Ct.of2 (own := RX1) (lv := [(0, .ref (B + k)), (1, .int (nI g))]) pn_X1 rfl (Nat.le_of_ble_eq_true rfl) rfl ?_
  refine g_aload_n dX1_isOf_0 rfl rfl ?_
  refine g_getI dX1_isOf_1 fl_X1_15 hb.1 rfl (hR.1) ?_
  refine g_istore_n dX1_isOf_4 rfl (lt_r rfl) rfl ?_
  refine g_iconst dX1_isOf_5 kI_0 ?_
  refine g_istore_n dX1_isOf_6 rfl (lt_r rfl) rfl ?_
  refine g_le (lv' := [(0, .ref (B + k)), (1, .int (nI g)), (2, .int (nI b.1)), (3, .int (nI 0))]) (lvLe_c rfl (lvLe_c rfl (lvLe_c rfl (lvLe_c rfl lvLe_0)))) ?_
  generalize b.1 = z at o1 ⊢
  rcases (show z = 0 ∨ z = 1 ∨ z = 2 ∨ z = 3 ∨ z = 4 ∨ z = 5 ∨ z = 6 by omega) with rfl | rfl | rfl | rfl | rfl | rfl | rfl
  · exact lp_X1_isOf0 hb hg (by omega)
  · exact lp_X1_isOf1 hb hg (by omega)
  · exact lp_X1_isOf2 hb hg (by omega)
  · exact lp_X1_isOf3 hb hg (by omega)
  · exact lp_X1_isOf4 hb hg (by omega)
  · exact lp_X1_isOf5 hb hg (by omega)
  · exact lp_X1_isOf6 hb hg (by omega)
end BIS
