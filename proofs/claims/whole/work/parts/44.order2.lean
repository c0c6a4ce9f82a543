/-! plate: the next order -/
def lastF (f : Nat → Nat) (i : Nat) : Nat → Nat
  | 0 => 0
  | j + 1 => if i < j ∧ f (j + 1) < f i then lastF f i j else j + 1
def revF : Nat → (Nat → Nat) → Nat → Nat → (Nat → Nat)
  | 0, f, _, _ => f
  | m + 1, f, lo, hi => if lo < hi then revF m (swp f lo hi) (lo + 1) (hi - 1) else f
def nextF (n : Nat) (f : Nat → Nat) : Bool × (Nat → Nat) :=
  if n = 0 then (false, f) else if pivF f (n - 1) = 0 then (false, f) else (true, revF n (swp f (pivF f (n - 1) - 1) (lastF f (pivF f (n - 1) - 1) (n - 1))) (pivF f (n - 1)) (n - 1))
theorem lastF_le {f : Nat → Nat} {i : Nat} : ∀ j, lastF f i j ≤ j
  | 0 => Nat.le_refl _
  | j + 1 => by
    have e : lastF f i (j + 1) = if i < j ∧ f (j + 1) < f i then lastF f i j else j + 1 := rfl
    rw [e]
    split
    · exact Nat.le_succ_of_le (lastF_le j)
    · exact Nat.le_refl _
theorem swp_lt {f : Nat → Nat} {n a b : Nat} (hf : ∀ i, i < n → f i < 5) (ha : a < n) (hb : b < n) : ∀ i, i < n → swp f a b i < 5 := by
  intro i hi
  unfold swp
  split
  · exact hf a ha
  · split
    · exact hf b hb
    · exact hf i hi
section X6O
variable {E : EE} {B : Nat} {M : MM} {k : Nat}
theorem lp_last {f : Nat → Nat} {n i : Nat} {F : Option Value → MM → Prop} (hP : PO B M f n) (hn : n ≤ 5) (hf : ∀ i, i < n → f i < 5) (hi : i < n)
    : ∀ j, j < n → i + 1 ≤ j → (G E B cX6_toNextOrder (RX6, 6, some .boolean, rmD 2, 0, 0, KM E B F) 69 [(0, .ref (B + 0)), (1, .int (nI n)), (2, .int (nI i)), (3, .int (nI (lastF f i j)))] [] M) →
    G E B cX6_toNextOrder (RX6, 6, some .boolean, rmD 2, 0, 0, KM E B F) 41 [(0, .ref (B + 0)), (1, .int (nI n)), (2, .int (nI i)), (3, .int (nI j))] [] M := by
  intro j
  induction j with
  | zero => intro _ h; omega
  | succ j ih =>
    intro hj h1 hend
    have f1 := hf i hi
    have f2 := hf (j + 1) hj
    refine g_iload_n dX6_toNextOrder_41 rfl rfl ?_
    refine g_iload_n dX6_toNextOrder_42 rfl rfl ?_
    refine g_iconst dX6_toNextOrder_43 kI_1 ?_
    refine g_iadd dX6_toNextOrder_44 (nI_add _ _) ?_
    refine g_icmp_leN (tgt := 69) dX6_toNextOrder_45 (by decide) rfl rfl (by omega) (by omega) (fun c_45 => ?_) (fun c_45 => ?_)
    · rw [show lastF f i (j + 1) = j + 1 from if_neg (by omega)] at hend
      exact g_le (lvLe_c rfl (lvLe_c rfl (lvLe_c rfl (lvLe_c rfl lvLe_0)))) hend
    · refine g_aload_n dX6_toNextOrder_48 rfl rfl ?_
      refine g_getR dX6_toNextOrder_49 fl_X6_68 rfl rfl ?_
      refine g_iload_n dX6_toNextOrder_52 rfl rfl ?_
      refine g_iald dX6_toNextOrder_53 rfl rfl (by omega) (hP (j + 1) hj) ?_
      refine g_aload_n dX6_toNextOrder_54 rfl rfl ?_
      refine g_getR dX6_toNextOrder_55 fl_X6_68 rfl rfl ?_
      refine g_iload_n dX6_toNextOrder_58 rfl rfl ?_
      refine g_iald dX6_toNextOrder_59 rfl rfl (by omega) (hP i hi) ?_
      refine g_icmp_geN (tgt := 69) dX6_toNextOrder_60 (by decide) rfl rfl (by omega) (by omega) (fun c_60 => ?_) (fun c_60 => ?_)
      · rw [show lastF f i (j + 1) = j + 1 from if_neg (by omega)] at hend
        exact g_le (lvLe_c rfl (lvLe_c rfl (lvLe_c rfl (lvLe_c rfl lvLe_0)))) hend
      · refine g_iinc dX6_toNextOrder_63 rfl (dec_nI (by omega)) rfl ?_
        refine g_goto (tgt := 41) dX6_toNextOrder_66 (by decide) ?_
        rw [show lastF f i (j + 1) = lastF f i j from if_pos (by omega)] at hend
        exact g_le (lvLe_c rfl (lvLe_c rfl (lvLe_c rfl (lvLe_c rfl lvLe_0)))) (ih (by omega) (by omega) hend)
theorem lp_rev {n : Nat} {M0 : MM} {R : Nat → Nat} (hn : n ≤ 5) : ∀ (m lo hi : Nat) (f : Nat → Nat), hi < n → lo ≤ n → hi ≤ m + lo → revF m f lo hi = R → (∀ i, i < n → f i < 5) → ∀ M', PO B M' f n → Sm B M0 M' 62 63 →
    G E B cX6_toNextOrder (RX6, 6, some .boolean, rmD 2, 0, 0, KM E B (Ri (fun r M2 => r = nI 1 ∧ PO B M2 R n ∧ Sm B M0 M2 62 63))) 85 [(0, .ref (B + 0)), (1, .int (nI n)), (4, .int (nI lo)), (5, .int (nI hi))] [] M' := by
  intro m
  induction m with
  | zero =>
    intro lo hi f h1 hlo h2 hR hf M' hP hS
    refine g_iload dX6_toNextOrder_85 rfl ?_
    refine g_iload dX6_toNextOrder_87 rfl ?_
    refine g_icmp_geN (tgt := 109) dX6_toNextOrder_89 (by decide) rfl rfl (by omega) (by omega) (fun c_89 => ?_) (fun c_89 => absurd c_89 (by omega))
    refine g_iconst dX6_toNextOrder_109 kI_1 ?_
    refine g_zret dX6_toNextOrder_110 (by first | exact Or.inl rfl | exact Or.inr rfl | exact bp_01) ⟨_, rfl, ?_⟩
    exact ⟨rfl, by rw [← hR]; exact hP, hS⟩
  | succ m ih =>
    intro lo hi f h1 hlo h2 hR hf M' hP hS
    have e : revF (m + 1) f lo hi = if lo < hi then revF m (swp f lo hi) (lo + 1) (hi - 1) else f := rfl
    refine g_iload dX6_toNextOrder_85 rfl ?_
    refine g_iload dX6_toNextOrder_87 rfl ?_
    refine g_icmp_geN (tgt := 109) dX6_toNextOrder_89 (by decide) rfl rfl (by omega) (by omega) (fun c_89 => ?_) (fun c_89 => ?_)
    · refine g_iconst dX6_toNextOrder_109 kI_1 ?_
      refine g_zret dX6_toNextOrder_110 (by first | exact Or.inl rfl | exact Or.inr rfl | exact bp_01) ⟨_, rfl, ?_⟩
      rw [e, if_neg (by omega)] at hR
      exact ⟨rfl, by rw [← hR]; exact hP, hS⟩
    · refine g_aload_n dX6_toNextOrder_92 rfl rfl ?_
      refine g_iload dX6_toNextOrder_93 rfl ?_
      refine g_iload dX6_toNextOrder_95 rfl ?_
      refine g_callVv dX6_toNextOrder_97 mi_X6_swapInOrder ml_X6_365 (ct_swap hP hn (show lo < n by omega) h1) rfl rfl rfl rfl (Nat.le_of_ble_eq_true rfl) ⟨lt_r rfl, Nat.le_of_ble_eq_true rfl⟩ (fun M97 h97 => ?_)
      refine g_iinc dX6_toNextOrder_100 rfl (inc_nI _) rfl ?_
      refine g_iinc dX6_toNextOrder_103 rfl (dec_nI (by omega)) rfl ?_
      refine g_goto (tgt := 85) dX6_toNextOrder_106 (by decide) ?_
      rw [e, if_pos c_89] at hR
      exact g_le (lvLe_c rfl (lvLe_c rfl (lvLe_c rfl (lvLe_c rfl lvLe_0)))) (ih (lo + 1) (hi - 1) (swp f lo hi) (by omega) (by omega) (by omega) hR (swp_lt hf (by omega) h1) M97 h97.1 (Sm.tr hS h97.2))
theorem tl_swap {f : Nat → Nat} {n i j : Nat} (hP : PO B M f n) (hn : n ≤ 5) (hf : ∀ i, i < n → f i < 5) (hi : i < n) (hj : j < n) (h0 : ¬ n = 0) :
    G E B cX6_toNextOrder (RX6, 6, some .boolean, rmD 2, 0, 0, KM E B (Ri (fun r M2 => r = (if ((true, revF n (swp f i j) (i + 1) (n - 1)) : Bool × (Nat → Nat)).1 = true then nI 1 else nI 0) ∧ PO B M2 ((true, revF n (swp f i j) (i + 1) (n - 1)) : Bool × (Nat → Nat)).2 n ∧ Sm B M M2 62 63))) 69 [(0, .ref (B + 0)), (1, .int (nI n)), (2, .int (nI i)), (3, .int (nI j))] [] M := by
  refine g_aload_n dX6_toNextOrder_69 rfl rfl ?_
  refine g_iload_n dX6_toNextOrder_70 rfl rfl ?_
  refine g_iload_n dX6_toNextOrder_71 rfl rfl ?_
  refine g_callVv dX6_toNextOrder_72 mi_X6_swapInOrder ml_X6_365 (ct_swap hP hn hi hj) rfl rfl rfl rfl (Nat.le_of_ble_eq_true rfl) ⟨lt_r rfl, Nat.le_of_ble_eq_true rfl⟩ (fun M72 h72 => ?_)
  refine g_iload_n dX6_toNextOrder_75 rfl rfl ?_
  refine g_iconst dX6_toNextOrder_76 kI_1 ?_
  refine g_iadd dX6_toNextOrder_77 (nI_add _ _) ?_
  refine g_istore dX6_toNextOrder_78 (lt_r rfl) rfl ?_
  refine g_iload_n dX6_toNextOrder_80 rfl rfl ?_
  refine g_iconst dX6_toNextOrder_81 kI_1 ?_
  first | refine g_isub dX6_toNextOrder_82 (pk_sub (by omega)) ?_ | refine g_isub dX6_toNextOrder_82 rfl ?_
  refine g_istore dX6_toNextOrder_83 (lt_r rfl) rfl ?_
  exact g_le (lvLe_c rfl (lvLe_c rfl (lvLe_c rfl (lvLe_c rfl lvLe_0)))) (lp_rev (M0 := M) (R := revF n (swp f i j) (i + 1) (n - 1)) hn n (i + 1) (n - 1) (swp f i j) (by omega) (by omega) (by omega) rfl (swp_lt hf hi hj) M72 h72.1 h72.2)
theorem tl_none {f : Nat → Nat} {n : Nat} (hP : PO B M f n) (h0 : ¬ n = 0) (hz : pivF f (n - 1) = 0) :
    G E B cX6_toNextOrder (RX6, 6, some .boolean, rmD 2, 0, 0, KM E B (Ri (fun r M2 => r = (if (nextF n f).1 = true then nI 1 else nI 0) ∧ PO B M2 (nextF n f).2 n ∧ Sm B M M2 62 63))) 31 [(0, .ref (B + 0)), (1, .int (nI n)), (2, .int (bI 0))] [] M := by
  have e : nextF n f = (false, f) := (if_neg h0).trans (if_pos hz)
  rw [e]
  refine g_iload_n dX6_toNextOrder_31 rfl rfl ?_
  refine g_if_ge (tgt := 37) dX6_toNextOrder_32 (by decide) (fun c_32 => absurd c_32 (by decide)) (fun c_32 => ?_)
  refine g_iconst dX6_toNextOrder_35 kI_0 ?_
  refine g_zret dX6_toNextOrder_36 (by first | exact Or.inl rfl | exact Or.inr rfl | exact bp_01) ⟨_, rfl, ?_⟩
  exact ⟨rfl, hP, Sm.rf⟩
theorem tl_some {f : Nat → Nat} {n : Nat} (hP : PO B M f n) (hn : n ≤ 5) (hf : ∀ i, i < n → f i < 5) (h0 : ¬ n = 0) (hz : ¬ pivF f (n - 1) = 0) :
    G E B cX6_toNextOrder (RX6, 6, some .boolean, rmD 2, 0, 0, KM E B (Ri (fun r M2 => r = (if (nextF n f).1 = true then nI 1 else nI 0) ∧ PO B M2 (nextF n f).2 n ∧ Sm B M M2 62 63))) 31 [(0, .ref (B + 0)), (1, .int (nI n)), (2, .int (bI (pivF f (n - 1))))] [] M := by
  have hp := pivF_le (f := f) (n - 1)
  have e : nextF n f = (true, revF n (swp f (pivF f (n - 1) - 1) (lastF f (pivF f (n - 1) - 1) (n - 1))) (pivF f (n - 1)) (n - 1)) := (if_neg h0).trans (if_neg hz)
  rw [e]
  obtain ⟨i, hi⟩ : ∃ i, pivF f (n - 1) = i + 1 := ⟨pivF f (n - 1) - 1, by omega⟩
  rw [hi, show bI (i + 1) = nI i from if_neg (Nat.succ_ne_zero i), show i + 1 - 1 = i by omega]
  have hl := lastF_le (f := f) (i := i) (n - 1)
  refine g_iload_n dX6_toNextOrder_31 rfl rfl ?_
  refine g_if_geN (tgt := 37) dX6_toNextOrder_32 (by decide) rfl (by omega) ?_
  refine g_iload_n dX6_toNextOrder_37 rfl rfl ?_
  refine g_iconst dX6_toNextOrder_38 kI_1 ?_
  first | refine g_isub dX6_toNextOrder_39 (pk_sub (by omega)) ?_ | refine g_isub dX6_toNextOrder_39 rfl ?_
  refine g_istore_n dX6_toNextOrder_40 rfl (lt_r rfl) rfl ?_
  refine g_le (lvLe_c rfl (lvLe_c rfl (lvLe_c rfl (lvLe_c rfl lvLe_0)))) (lp_last hP hn hf (by omega) (n - 1) (by omega) (by omega) ?_)
  exact tl_swap hP hn hf (by omega) (by omega) h0
theorem ct_next {f : Nat → Nat} {n : Nat} (hP : PO B M f n) (hn : n ≤ 5) (hf : ∀ i, i < n → f i < 5) : Ct E B yX6_toNextOrder cX6_toNextOrder 6 (some .boolean) 2 [.ref (B + 0), .int (nI n)] M (Ri (fun r M2 => r = (if (nextF n f).1 = true then nI 1 else nI 0) ∧ PO B M2 (nextF n f).2 n ∧ Sm B M M2 62 63)) := by
  refine Ct.of2 (own := RX6) (lv := [(0, .ref (B + 0)), (1, .int (nI n))]) pn_X6 rfl (Nat.le_of_ble_eq_true rfl) rfl ?_
  by_cases h0 : n = 0
  · subst h0
    refine g_iload_n dX6_toNextOrder_0 rfl rfl ?_
    refine g_iconst dX6_toNextOrder_1 kI_2 ?_
    refine g_isub dX6_toNextOrder_2 ((by decide : nI 0 - nI 2 = (-2 : Int32))) ?_
    refine g_istore_n dX6_toNextOrder_3 rfl (lt_r rfl) rfl ?_
    refine g_iload_n dX6_toNextOrder_4 rfl rfl ?_
    refine g_if_lt (tgt := 31) dX6_toNextOrder_5 (by decide) (fun c_5 => ?_) (fun c_5 => absurd (show (-2 : Int32) < 0 by decide) c_5)
    refine g_iload_n dX6_toNextOrder_31 rfl rfl ?_
    refine g_if_ge (tgt := 37) dX6_toNextOrder_32 (by decide) (fun c_32 => absurd c_32 (by decide)) (fun c_32 => ?_)
    refine g_iconst dX6_toNextOrder_35 kI_0 ?_
    refine g_zret dX6_toNextOrder_36 (by first | exact Or.inl rfl | exact Or.inr rfl | exact bp_01) ⟨_, rfl, ?_⟩
    exact ⟨rfl, hP, Sm.rf⟩
  · have e2 : nI n - nI 2 = bI (n - 1) := by
      by_cases h1 : n = 1
      · subst h1; decide
      · unfold bI
        rw [if_neg (by omega), pk_sub (by omega)]
        rfl
    have hp := pivF_le (f := f) (n - 1)
    refine g_iload_n dX6_toNextOrder_0 rfl rfl ?_
    refine g_iconst dX6_toNextOrder_1 kI_2 ?_
    refine g_isub dX6_toNextOrder_2 (e2) ?_
    refine g_istore_n dX6_toNextOrder_3 rfl (lt_r rfl) rfl ?_
    refine g_le (lvLe_c rfl (lvLe_c rfl (lvLe_c rfl lvLe_0))) (lp_piv hP hn hf (n - 1) (by omega) ?_)
    by_cases hz : pivF f (n - 1) = 0
    · rw [hz]
      exact tl_none hP h0 hz
    · exact tl_some hP hn hf h0 hz
end X6O
