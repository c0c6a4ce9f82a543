/-! plate: the orders -/
def PO (B : Nat) (M : MM) (f : Nat → Nat) (n : Nat) : Prop := ∀ i, i < n → M.1 (B + 62) i = nI (f i)
def swp (f : Nat → Nat) (a b : Nat) : Nat → Nat := fun i => if i = b then f a else if i = a then f b else f i
/-- one more than the last place that is less than the next; 0: none -/
def pivF (f : Nat → Nat) : Nat → Nat
  | 0 => 0
  | r + 1 => if f r ≤ f (r + 1) then r + 1 else pivF f r
theorem pivF_le {f : Nat → Nat} : ∀ r, pivF f r ≤ r
  | 0 => Nat.le_refl _
  | r + 1 => by
    have e : pivF f (r + 1) = if f r ≤ f (r + 1) then r + 1 else pivF f r := rfl
    rw [e]
    split
    · exact Nat.le_refl _
    · exact Nat.le_succ_of_le (pivF_le r)
theorem dec_bI {r : Nat} : nI r + Int32.ofInt (-1) = bI r := by
  by_cases h : r = 0
  · subst h; decide
  · unfold bI
    rw [if_neg h]
    exact dec_nI (by omega)
section X6N
variable {E : EE} {B : Nat} {M : MM} {k : Nat}
theorem ct_swap {f : Nat → Nat} {n a b : Nat} (hP : PO B M f n) (hn : n ≤ 5) (ha : a < n) (hb : b < n) : Ct E B yX6_swapInOrder cX6_swapInOrder 4 none 0 [.ref (B + 0), .int (nI a), .int (nI b)] M (Rv (fun M2 => PO B M2 (swp f a b) n ∧ Sm B M M2 62 63)) := by
  refine Ct.of2 (own := RX6) (lv := [(0, .ref (B + 0)), (1, .int (nI a)), (2, .int (nI b))]) pn_X6 rfl (Nat.le_of_ble_eq_true rfl) rfl ?_
  refine g_aload_n dX6_swapInOrder_0 rfl rfl ?_
  refine g_getR dX6_swapInOrder_1 fl_X6_68 rfl rfl ?_
  refine g_iload_n dX6_swapInOrder_4 rfl rfl ?_
  refine g_iald dX6_swapInOrder_5 rfl rfl (by omega) (hP a ha) ?_
  refine g_istore_n dX6_swapInOrder_6 rfl (lt_r rfl) rfl ?_
  refine g_aload_n dX6_swapInOrder_7 rfl rfl ?_
  refine g_getR dX6_swapInOrder_8 fl_X6_68 rfl rfl ?_
  refine g_iload_n dX6_swapInOrder_11 rfl rfl ?_
  refine g_aload_n dX6_swapInOrder_12 rfl rfl ?_
  refine g_getR dX6_swapInOrder_13 fl_X6_68 rfl rfl ?_
  refine g_iload_n dX6_swapInOrder_16 rfl rfl ?_
  refine g_iald dX6_swapInOrder_17 rfl rfl (by omega) (hP b hb) ?_
  refine g_iast dX6_swapInOrder_18 rfl rfl (by omega) ?_
  refine g_aload_n dX6_swapInOrder_19 rfl rfl ?_
  refine g_getR dX6_swapInOrder_20 fl_X6_68 rfl rfl ?_
  refine g_iload_n dX6_swapInOrder_23 rfl rfl ?_
  refine g_iload_n dX6_swapInOrder_24 rfl rfl ?_
  refine g_iast dX6_swapInOrder_25 rfl rfl (by omega) ?_
  refine g_vret dX6_swapInOrder_26 ⟨rfl, ?_⟩
  refine ⟨fun i hi => ?_, Sm.tr (Sm.pI (by omega) (by omega)) (Sm.pI (by omega) (by omega))⟩
  unfold swp
  by_cases e1 : i = b
  · subst e1; rw [upI_s, if_pos rfl]
  · rw [upI_k e1, if_neg e1]
    by_cases e2 : i = a
    · subst e2; rw [upI_s, if_pos rfl]
    · rw [upI_k e2, if_neg e2]; exact hP i hi
theorem lp_piv {f : Nat → Nat} {n : Nat} {F : Option Value → MM → Prop} (hP : PO B M f n) (hn : n ≤ 5) (hf : ∀ i, i < n → f i < 5)
    : ∀ r, r < n → (G E B cX6_toNextOrder (RX6, 6, some .boolean, rmD 2, 0, 0, KM E B F) 31 [(0, .ref (B + 0)), (1, .int (nI n)), (2, .int (bI (pivF f r)))] [] M) →
    G E B cX6_toNextOrder (RX6, 6, some .boolean, rmD 2, 0, 0, KM E B F) 4 [(0, .ref (B + 0)), (1, .int (nI n)), (2, .int (bI r))] [] M := by
  intro r
  induction r with
  | zero =>
    intro _ hend
    refine g_iload_n dX6_toNextOrder_4 rfl rfl ?_
    refine g_if_lt (tgt := 31) dX6_toNextOrder_5 (by decide) (fun c_5 => ?_) (fun c_5 => absurd (show bI 0 < 0 by decide) c_5)
    exact g_le (lvLe_c rfl (lvLe_c rfl (lvLe_c rfl lvLe_0))) hend
  | succ r ih =>
    intro hr hend
    have e : bI (r + 1) = nI r := if_neg (Nat.succ_ne_zero r)
    have f1 := hf r (by omega)
    have f2 := hf (r + 1) hr
    rw [e]
    refine g_iload_n dX6_toNextOrder_4 rfl rfl ?_
    refine g_if_ltN (tgt := 31) dX6_toNextOrder_5 (by decide) rfl (by omega) ?_
    refine g_aload_n dX6_toNextOrder_8 rfl rfl ?_
    refine g_getR dX6_toNextOrder_9 fl_X6_68 rfl rfl ?_
    refine g_iload_n dX6_toNextOrder_12 rfl rfl ?_
    refine g_iald dX6_toNextOrder_13 rfl rfl (by omega) (hP r (by omega)) ?_
    refine g_aload_n dX6_toNextOrder_14 rfl rfl ?_
    refine g_getR dX6_toNextOrder_15 fl_X6_68 rfl rfl ?_
    refine g_iload_n dX6_toNextOrder_18 rfl rfl ?_
    refine g_iconst dX6_toNextOrder_19 kI_1 ?_
    refine g_iadd dX6_toNextOrder_20 (nI_add _ _) ?_
    refine g_iald dX6_toNextOrder_21 rfl rfl (by omega) (hP (r + 1) hr) ?_
    refine g_icmp_leN (tgt := 31) dX6_toNextOrder_22 (by decide) rfl rfl (by omega) (by omega) (fun c_22 => ?_) (fun c_22 => ?_)
    · rw [show pivF f (r + 1) = r + 1 from if_pos c_22, e] at hend
      exact g_le (lvLe_c rfl (lvLe_c rfl (lvLe_c rfl lvLe_0))) hend
    · refine g_iinc dX6_toNextOrder_25 rfl dec_bI rfl ?_
      refine g_goto (tgt := 4) dX6_toNextOrder_28 (by decide) ?_
      rw [show pivF f (r + 1) = pivF f r from if_neg (by omega)] at hend
      exact g_le (lvLe_c rfl (lvLe_c rfl (lvLe_c rfl lvLe_0))) (ih (by omega) hend)
end X6N
