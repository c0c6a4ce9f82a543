/-! plate: the best order -/
theorem sumN_lt {f : Nat → Nat} {c : Nat} : ∀ {n : Nat}, (∀ i, i < n → f i ≤ c) → sumN f n ≤ c * n
  | 0, _ => Nat.zero_le _
  | n + 1, h => by
    have h1 := sumN_lt (n := n) (fun i hi => h i (by omega))
    have h2 := h n (Nat.lt_succ_self n)
    rw [sumN_s, Nat.mul_succ]
    omega
def sumO (W : Nat → Nat → Nat) (n : Nat) (f : Nat → Nat) : Nat := sumN (fun i => W i (f i)) n
def ordS (W : Nat → Nat → Nat) (n : Nat) (f : Nat → Nat) (st : Nat × (Nat → Nat)) : Nat × (Nat → Nat) := if st.1 < sumO W n f + 1 then (sumO W n f + 1, f) else st
def ordR (W : Nat → Nat → Nat) (n : Nat) : Nat → (Nat → Nat) → Nat × (Nat → Nat) → Nat × (Nat → Nat)
  | 0, _, st => st
  | m + 1, f, st => if (nextF n f).1 = true then ordR W n m (nextF n f).2 (ordS W n f st) else ordS W n f st
theorem ordR_t {W : Nat → Nat → Nat} {n m : Nat} {f : Nat → Nat} {st : Nat × (Nat → Nat)} (h : (nextF n f).1 = true) : ordR W n (m + 1) f st = ordR W n m (nextF n f).2 (ordS W n f st) := if_pos h
theorem ordR_n {W : Nat → Nat → Nat} {n m : Nat} {f : Nat → Nat} {st : Nat × (Nat → Nat)} (h : ¬ (nextF n f).1 = true) : ordR W n (m + 1) f st = ordS W n f st := if_neg h
theorem swp_ltc {f : Nat → Nat} {n a b c : Nat} (hf : ∀ i, i < n → f i < c) (ha : a < n) (hb : b < n) : ∀ i, i < n → swp f a b i < c := by
  intro i hi
  unfold swp
  split
  · exact hf a ha
  · split
    · exact hf b hb
    · exact hf i hi
theorem rev_ltc {n c : Nat} : ∀ (m lo hi : Nat) (f : Nat → Nat), hi < n → (∀ i, i < n → f i < c) → ∀ i, i < n → revF m f lo hi i < c
  | 0, _, _, _, _, hf => hf
  | m + 1, lo, hi, f, h, hf => by
    have e : revF (m + 1) f lo hi = if lo < hi then revF m (swp f lo hi) (lo + 1) (hi - 1) else f := rfl
    rw [e]
    split
    · exact rev_ltc m (lo + 1) (hi - 1) _ (by omega) (swp_ltc hf (by omega) h)
    · exact hf
theorem next_ltc {n c : Nat} {f : Nat → Nat} (hf : ∀ i, i < n → f i < c) : ∀ i, i < n → (nextF n f).2 i < c := by
  have hp := pivF_le (f := f) (n - 1)
  have hl := lastF_le (f := f) (i := pivF f (n - 1) - 1) (n - 1)
  unfold nextF
  split
  · exact hf
  · split
    · exact hf
    · exact rev_ltc n _ _ _ (by omega) (swp_ltc hf (by omega) (by omega))
/-- the best order in memory -/
def PB (B : Nat) (M : MM) (g : Nat → Nat) (n : Nat) : Prop := ∀ i, i < n → M.1 (B + 63) i = nI (g i)
def KB (B : Nat) (M0 : MM) (n : Nat) (R : Nat × (Nat → Nat)) : Option Value → MM → Prop := Ri (fun r M2 => r = bI R.1 ∧ (¬ R.1 = 0 → PB B M2 R.2 n) ∧ Sm B M0 M2 62 64)
section X6P
variable {E : EE} {B : Nat} {M : MM} {k : Nat}
theorem tl_ord {n t : Nat} {M0 : MM} {R : Nat × (Nat → Nat)} (ht : t ≤ 120) (hR : ¬ R.1 = 0 → PB B M R.2 n) (hS : Sm B M0 M 62 64) :
    G E B cX6_findBestOrder (RX6, 7, some .int, rmD 4, 0, 0, KM E B (KB B M0 n R)) 35 [(0, .ref (B + 0)), (1, .int (nI n)), (2, .int (bI R.1)), (3, .int (nI 0)), (4, .int (nI t))] [] M := by
  refine g_iload dX6_findBestOrder_35 rfl ?_
  refine g_bipush dX6_findBestOrder_37 kB_120 ?_
  refine g_icmp_geN (tgt := 121) dX6_findBestOrder_39 (by decide) rfl rfl (by omega) (by omega) (fun c_39 => ?_) (fun c_39 => ?_)
  · refine g_iload_n dX6_findBestOrder_121 rfl rfl ?_
    refine g_iret dX6_findBestOrder_122 ⟨_, rfl, ?_⟩
    exact ⟨rfl, hR, hS⟩
  · refine g_iload_n dX6_findBestOrder_42 rfl rfl ?_
    refine g_if_eqN (tgt := 121) dX6_findBestOrder_43 (by decide) rfl (by omega) (fun c_43 => ?_) (fun c_43 => absurd c_43 (by decide))
    refine g_iload_n dX6_findBestOrder_121 rfl rfl ?_
    refine g_iret dX6_findBestOrder_122 ⟨_, rfl, ?_⟩
    exact ⟨rfl, hR, hS⟩
theorem lp_sum {n t : Nat} {x : Int32} {W : Nat → Nat → Nat} {f : Nat → Nat} {F : Option Value → MM → Prop} (hn : n ≤ 5) (hT : PT B M W n n 0) (hP : PO B M f n) (hf : ∀ i, i < n → f i < n)
    (hend : G E B cX6_findBestOrder (RX6, 7, some .int, rmD 4, 0, 0, KM E B F) 86 [(0, .ref (B + 0)), (1, .int (nI n)), (2, .int x), (4, .int (nI t)), (5, .int (nI (sumO W n f)))] [] M) :
    ∀ (m i : Nat), m + i = n → G E B cX6_findBestOrder (RX6, 7, some .int, rmD 4, 0, 0, KM E B F) 52 [(0, .ref (B + 0)), (1, .int (nI n)), (2, .int x), (4, .int (nI t)), (5, .int (nI (sumN (fun i => W i (f i)) i))), (6, .int (nI i))] [] M := by
  intro m
  induction m with
  | zero =>
    intro i h1
    refine g_iload dX6_findBestOrder_52 rfl ?_
    refine g_iload_n dX6_findBestOrder_54 rfl rfl ?_
    refine g_icmp_geN (tgt := 86) dX6_findBestOrder_55 (by decide) rfl rfl (by omega) (by omega) (fun c_55 => ?_) (fun c_55 => absurd c_55 (by omega))
    have e : i = n := by omega
    subst e
    exact g_le (lvLe_c rfl (lvLe_c rfl (lvLe_c rfl (lvLe_c rfl (lvLe_c rfl lvLe_0))))) hend
  | succ m ih =>
    intro i h1
    have h2 := hf i (by omega)
    have ih2 := ih (i + 1) (by omega)
    rw [sumN_s] at ih2
    refine g_iload dX6_findBestOrder_52 rfl ?_
    refine g_iload_n dX6_findBestOrder_54 rfl rfl ?_
    refine g_icmp_geN (tgt := 86) dX6_findBestOrder_55 (by decide) rfl rfl (by omega) (by omega) (fun c_55 => absurd c_55 (by omega)) (fun c_55 => ?_)
    refine g_iload dX6_findBestOrder_58 rfl ?_
    refine g_aload_n dX6_findBestOrder_60 rfl rfl ?_
    refine g_getR dX6_findBestOrder_61 fl_X6_65 rfl rfl ?_
    refine g_aload_n dX6_findBestOrder_64 rfl rfl ?_
    refine g_getR dX6_findBestOrder_65 fl_X6_68 rfl rfl ?_
    refine g_iload dX6_findBestOrder_68 rfl ?_
    refine g_iald dX6_findBestOrder_70 rfl rfl (by omega) (hP i (by omega)) ?_
    refine g_iconst dX6_findBestOrder_71 kI_5 ?_
    refine g_imul dX6_findBestOrder_72 (pk_mul _ _) ?_
    refine g_iload dX6_findBestOrder_73 rfl ?_
    refine g_iadd dX6_findBestOrder_75 (nI_add _ _) ?_
    refine g_iald dX6_findBestOrder_76 rfl rfl (by omega) (hT i (f i) (by omega) h2 (by omega)) ?_
    refine g_iadd dX6_findBestOrder_77 (nI_add _ _) ?_
    refine g_istore dX6_findBestOrder_78 (lt_r rfl) rfl ?_
    refine g_iinc dX6_findBestOrder_80 rfl (inc_nI _) rfl ?_
    refine g_goto (tgt := 52) dX6_findBestOrder_83 (by decide) ?_
    exact g_le (lvLe_c rfl (lvLe_c rfl (lvLe_c rfl (lvLe_c rfl (lvLe_c rfl (lvLe_c rfl lvLe_0)))))) ih2
theorem tl_86 {n t : Nat} {M0 : MM} {W : Nat → Nat → Nat} {f : Nat → Nat} {st : Nat × (Nat → Nat)} {F : Option Value → MM → Prop} (hn : n ≤ 5) (ht : t < 120) (hs : sumO W n f < 2 ^ 31) (hf : ∀ i, i < n → f i < n) (hst : st.1 < 10000) (hP : PO B M f n) (hB : ¬ st.1 = 0 → PB B M st.2 n) (hS : Sm B M0 M 62 64)
    (hcont : ∀ M2, PO B M2 (nextF n f).2 n → (¬ (ordS W n f st).1 = 0 → PB B M2 (ordS W n f st).2 n) → Sm B M0 M2 62 64 → G E B cX6_findBestOrder (RX6, 7, some .int, rmD 4, 0, 0, KM E B F) 35 [(0, .ref (B + 0)), (1, .int (nI n)), (2, .int (bI (ordS W n f st).1)), (3, .int (if (nextF n f).1 = true then nI 1 else nI 0)), (4, .int (nI (t + 1)))] [] M2) :
    G E B cX6_findBestOrder (RX6, 7, some .int, rmD 4, 0, 0, KM E B F) 86 [(0, .ref (B + 0)), (1, .int (nI n)), (2, .int (bI st.1)), (4, .int (nI t)), (5, .int (nI (sumO W n f)))] [] M := by
  have hf5 : ∀ i, i < n → f i < 5 := fun i hi => by have := hf i hi; omega
  refine g_iload dX6_findBestOrder_86 rfl ?_
  refine g_iload_n dX6_findBestOrder_88 rfl rfl ?_
  refine g_icmp_le (tgt := 109) dX6_findBestOrder_89 (by decide) (fun c_89 => ?_) (fun c_89 => ?_)
  · refine g_aload_n dX6_findBestOrder_109 rfl rfl ?_
    refine g_iload_n dX6_findBestOrder_110 rfl rfl ?_
    refine g_callVi dX6_findBestOrder_111 mi_X6_toNextOrder ml_X6_362 (ct_next (f := f) (by first | exact hP | (intro i hi; rw [upR_ap (by omega)]; exact hP i hi)) hn hf5) rfl rfl rfl rfl (Nat.le_of_ble_eq_true rfl) ⟨lt_r rfl, Nat.le_of_ble_eq_true rfl⟩ (fun x111 M111 h111 => ?_)
    obtain ⟨rfl, g2, g3⟩ := h111
    refine g_istore_n dX6_findBestOrder_114 rfl (lt_r rfl) rfl ?_
    refine g_iinc dX6_findBestOrder_115 rfl (inc_nI _) rfl ?_
    refine g_goto (tgt := 35) dX6_findBestOrder_118 (by decide) ?_
    first | (have e : ordS W n f st = st := if_neg (fun z => (bI_lt (b := st.1) (w := sumO W n f) (by omega) hs).mpr z c_89); rw [e] at hcont; exact g_le (lvLe_c rfl (lvLe_c rfl (lvLe_c rfl (lvLe_c rfl (lvLe_c rfl lvLe_0))))) (hcont M111 g2 (fun z i hi => by rw [g3.i (by omega)]; exact hB z i hi) (Sm.tr hS (g3.up (by omega) (by omega))))) | (have e : ordS W n f st = (sumO W n f + 1, f) := if_pos ((bI_lt (b := st.1) (w := sumO W n f) (by omega) hs).mp c_89); rw [e, show bI (sumO W n f + 1, f).1 = nI (sumO W n f) from if_neg (Nat.succ_ne_zero _)] at hcont; exact g_le (lvLe_c rfl (lvLe_c rfl (lvLe_c rfl (lvLe_c rfl (lvLe_c rfl lvLe_0))))) (hcont M111 g2 (fun z i hi => by rw [g3.i (by omega), upR_s, va_cpy, if_pos ⟨by omega, by omega⟩, show 0 + (i - 0) = i by omega]; exact hP i hi) (Sm.tr (Sm.tr hS (Sm.pR (by omega) (by omega))) (g3.up (by omega) (by omega)))))
  · refine g_iload dX6_findBestOrder_92 rfl ?_
    refine g_istore_n dX6_findBestOrder_94 rfl (lt_r rfl) rfl ?_
    refine g_aload_n dX6_findBestOrder_95 rfl rfl ?_
    refine g_getR dX6_findBestOrder_96 fl_X6_68 rfl rfl ?_
    refine g_iconst dX6_findBestOrder_99 kI_0 ?_
    refine g_aload_n dX6_findBestOrder_100 rfl rfl ?_
    refine g_getR dX6_findBestOrder_101 fl_X6_71 rfl rfl ?_
    refine g_iconst dX6_findBestOrder_104 kI_0 ?_
    refine g_iload_n dX6_findBestOrder_105 rfl rfl ?_
    refine g_cpyI dX6_findBestOrder_106 ml_X6_113 rfl rfl rfl rfl rfl (by omega) (by omega) ⟨lt_r rfl, Nat.le_of_ble_eq_true rfl⟩ ?_
    refine g_aload_n dX6_findBestOrder_109 rfl rfl ?_
    refine g_iload_n dX6_findBestOrder_110 rfl rfl ?_
    refine g_callVi dX6_findBestOrder_111 mi_X6_toNextOrder ml_X6_362 (ct_next (f := f) (by first | exact hP | (intro i hi; rw [upR_ap (by omega)]; exact hP i hi)) hn hf5) rfl rfl rfl rfl (Nat.le_of_ble_eq_true rfl) ⟨lt_r rfl, Nat.le_of_ble_eq_true rfl⟩ (fun x111 M111 h111 => ?_)
    obtain ⟨rfl, g2, g3⟩ := h111
    refine g_istore_n dX6_findBestOrder_114 rfl (lt_r rfl) rfl ?_
    refine g_iinc dX6_findBestOrder_115 rfl (inc_nI _) rfl ?_
    refine g_goto (tgt := 35) dX6_findBestOrder_118 (by decide) ?_
    first | (have e : ordS W n f st = st := if_neg (fun z => (bI_lt (b := st.1) (w := sumO W n f) (by omega) hs).mpr z c_89); rw [e] at hcont; exact g_le (lvLe_c rfl (lvLe_c rfl (lvLe_c rfl (lvLe_c rfl (lvLe_c rfl lvLe_0))))) (hcont M111 g2 (fun z i hi => by rw [g3.i (by omega)]; exact hB z i hi) (Sm.tr hS (g3.up (by omega) (by omega))))) | (have e : ordS W n f st = (sumO W n f + 1, f) := if_pos ((bI_lt (b := st.1) (w := sumO W n f) (by omega) hs).mp c_89); rw [e, show bI (sumO W n f + 1, f).1 = nI (sumO W n f) from if_neg (Nat.succ_ne_zero _)] at hcont; exact g_le (lvLe_c rfl (lvLe_c rfl (lvLe_c rfl (lvLe_c rfl (lvLe_c rfl lvLe_0))))) (hcont M111 g2 (fun z i hi => by rw [g3.i (by omega), upR_s, va_cpy, if_pos ⟨by omega, by omega⟩, show 0 + (i - 0) = i by omega]; exact hP i hi) (Sm.tr (Sm.tr hS (Sm.pR (by omega) (by omega))) (g3.up (by omega) (by omega)))))
theorem lp_ord {n : Nat} {M0 : MM} {W : Nat → Nat → Nat} {R : Nat × (Nat → Nat)} (hn : n ≤ 5) (hW : ∀ p q, p < n → q < n → W p q ≤ 1188) (hT : PT B M0 W n n 0) : ∀ (m t : Nat) (f : Nat → Nat) (st : Nat × (Nat → Nat)), m + t = 120 → ordR W n m f st = R → (∀ i, i < n → f i < n) → st.1 < 10000 → ∀ M', PO B M' f n → (¬ st.1 = 0 → PB B M' st.2 n) → Sm B M0 M' 62 64 →
    G E B cX6_findBestOrder (RX6, 7, some .int, rmD 4, 0, 0, KM E B (KB B M0 n R)) 35 [(0, .ref (B + 0)), (1, .int (nI n)), (2, .int (bI st.1)), (3, .int (nI 1)), (4, .int (nI t))] [] M' := by
  intro m
  induction m with
  | zero =>
    intro t f st h1 hR hf hst M' hP hB hS
    have hR : st = R := hR
    subst hR
    refine g_iload dX6_findBestOrder_35 rfl ?_
    refine g_bipush dX6_findBestOrder_37 kB_120 ?_
    refine g_icmp_geN (tgt := 121) dX6_findBestOrder_39 (by decide) rfl rfl (by omega) (by omega) (fun c_39 => ?_) (fun c_39 => absurd c_39 (by omega))
    refine g_iload_n dX6_findBestOrder_121 rfl rfl ?_
    refine g_iret dX6_findBestOrder_122 ⟨_, rfl, ?_⟩
    exact ⟨rfl, hB, hS⟩
  | succ m ih =>
    intro t f st h1 hR hf hst M' hP hB hS
    have hs1 : sumO W n f ≤ 1188 * n := sumN_lt (fun i hi => hW i (f i) hi (hf i hi))
    refine g_iload dX6_findBestOrder_35 rfl ?_
    refine g_bipush dX6_findBestOrder_37 kB_120 ?_
    refine g_icmp_geN (tgt := 121) dX6_findBestOrder_39 (by decide) rfl rfl (by omega) (by omega) (fun c_39 => absurd c_39 (by omega)) (fun c_39 => ?_)
    refine g_iload_n dX6_findBestOrder_42 rfl rfl ?_
    refine g_if_eqN (tgt := 121) dX6_findBestOrder_43 (by decide) rfl (by omega) (fun c_43 => absurd c_43 (by decide)) (fun c_43 => ?_)
    refine g_iconst dX6_findBestOrder_46 kI_0 ?_
    refine g_istore dX6_findBestOrder_47 (lt_r rfl) rfl ?_
    refine g_iconst dX6_findBestOrder_49 kI_0 ?_
    refine g_istore dX6_findBestOrder_50 (lt_r rfl) rfl ?_
    refine g_le (lvLe_c rfl (lvLe_c rfl (lvLe_c rfl (lvLe_c rfl (lvLe_c rfl (lvLe_c rfl lvLe_0)))))) (lp_sum (W := W) (f := f) (x := bI st.1) (t := t) hn (hT.sm hS (by omega)) hP hf ?_ n 0 rfl)
    refine tl_86 (M0 := M0) hn (by omega) (by omega) hf hst hP hB hS (fun M2 q1 q2 q3 => ?_)
    have hs9 : (ordS W n f st).1 < 10000 := by
      unfold ordS
      split
      · show sumO W n f + 1 < 10000; omega
      · exact hst
    by_cases hz : (nextF n f).1 = true
    · rw [if_pos hz]
      exact ih (t + 1) _ _ (by omega) ((ordR_t hz).symm.trans hR) (next_ltc hf) hs9 M2 q1 q2 q3
    · rw [if_neg hz]
      rw [ordR_n hz] at hR
      rw [hR] at q2 ⊢
      exact tl_ord (by omega) q2 q3
end X6P
