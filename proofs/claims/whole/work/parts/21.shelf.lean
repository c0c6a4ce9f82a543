section STA
variable {E : EE} {B : Nat} {M : MM} {k : Nat}
theorem lp_X5_takeOver {k2 : Nat} {F : Option Value → MM → Prop} (hs : isS k) (hs2 : isS k2) (hap : k + 15 ≤ k2 ∨ k2 + 15 ≤ k)
    (hend : ∀ M', (∀ q, q < 6 → (∀ j, j < 3 → M'.1 (B + (k + 3 + 2 * q)) j = M.1 (B + (k2 + 3 + 2 * q)) j) ∧ ∀ j, j < 12 → M'.1 (B + (k + 3 + 2 * q + 1)) j = M.1 (B + (k2 + 3 + 2 * q + 1)) j) → Sm B M M' (k + 3) (k + 15) → G E B cX5_takeOver (RX5, 3, none, rmD 2, 0, 0, KM E B F) 29 [(0, .ref (B + k)), (1, .ref (B + k2))] [] M') : ∀ (n i : Nat), i + n = 6 → ∀ M', (∀ q, q < i → (∀ j, j < 3 → M'.1 (B + (k + 3 + 2 * q)) j = M.1 (B + (k2 + 3 + 2 * q)) j) ∧ ∀ j, j < 12 → M'.1 (B + (k + 3 + 2 * q + 1)) j = M.1 (B + (k2 + 3 + 2 * q + 1)) j) → Sm B M M' (k + 3) (k + 15) →
    G E B cX5_takeOver (RX5, 3, none, rmD 2, 0, 0, KM E B F) 2 [(0, .ref (B + k)), (1, .ref (B + k2)), (2, .int (nI i))] [] M' := by
  intro n
  induction n with
  | zero =>
    intro i h1 M' h2 h3
    refine g_iload_n dX5_takeOver_2 rfl rfl ?_
    refine g_bipush dX5_takeOver_3 kB_6 ?_
    refine g_icmp_geN (tgt := 29) dX5_takeOver_5 (by decide) rfl rfl (by omega) (by omega) (fun c_5 => ?_) (fun c_5 => absurd c_5 (by omega))
    exact g_le (lvLe_c rfl (lvLe_c rfl lvLe_0)) (hend M' (fun q hq => h2 q (by omega)) h3)
  | succ n ih =>
    intro i h1 M' h2 h3
    refine g_iload_n dX5_takeOver_2 rfl rfl ?_
    refine g_bipush dX5_takeOver_3 kB_6 ?_
    refine g_icmp_geN (tgt := 29) dX5_takeOver_5 (by decide) rfl rfl (by omega) (by omega) (fun c_5 => absurd c_5 (by omega)) (fun c_5 => ?_)
    refine g_aload_n dX5_takeOver_8 rfl rfl ?_
    refine g_getR dX5_takeOver_9 fl_X5_11 hs.1 rfl ?_
    refine g_iload_n dX5_takeOver_12 rfl rfl ?_
    refine g_aald dX5_takeOver_13 hs.2.1 rfl (isS_b (by omega)) ?_
    refine g_aload_n dX5_takeOver_14 rfl rfl ?_
    refine g_getR dX5_takeOver_15 fl_X5_11 hs2.1 rfl ?_
    refine g_iload_n dX5_takeOver_18 rfl rfl ?_
    refine g_aald dX5_takeOver_19 hs2.2.1 rfl (isS_b (by omega)) ?_
    refine g_callVv dX5_takeOver_20 mi_X1_become ml_X5_35 (ct_X1_become (hs.2.2.2 _ (by omega)) (hs2.2.2.2 _ (by omega)) (by omega)) (hs.2.2.2 _ (by omega)).1 rfl rfl rfl (Nat.le_of_ble_eq_true rfl) ⟨lt_r rfl, Nat.le_of_ble_eq_true rfl⟩ (fun M20 h20 => ?_)
    refine g_iinc dX5_takeOver_23 rfl (inc_nI _) rfl ?_
    obtain ⟨⟨u1, u2⟩, u3⟩ := h20
    exact g_goto (tgt := 2) dX5_takeOver_26 (by decide) (g_le (lvLe_c rfl (lvLe_c rfl (lvLe_c rfl lvLe_0))) (ih (i + 1) (by omega) M20 (fun q hq => by
      by_cases e : q = i
      · subst e
        exact ⟨fun j hj => (u1 j hj).trans (congrFun (h3.i (by omega)) j), fun j hj => (u2 j hj).trans (congrFun (h3.i (by omega)) j)⟩
      · exact ⟨fun j hj => (congrFun (u3.i (by omega)) j).trans ((h2 q (by omega)).1 j hj), fun j hj => (congrFun (u3.i (by omega)) j).trans ((h2 q (by omega)).2 j hj)⟩) (h3.tr (u3.up (by omega) (by omega)))))
theorem ct_X5_takeOver {s : St} {k2 : Nat} (hs : isS k) (hs2 : isS k2) (hap : k + 15 ≤ k2 ∨ k2 + 15 ≤ k) (h : RS B M k2 s) (ho : okSt s) : Ct E B yX5_takeOver cX5_takeOver 3 none 2 [.ref (B + k), .ref (B + k2)] M (Rv (fun M2 => RS B M2 k s ∧ Sm B M M2 k (k + 15))) := by
  have hc := ho.2.2.1
  refine Ct.of2 (own := RX5) (lv := [(0, .ref (B + k)), (1, .ref (B + k2))]) pn_X5 rfl (Nat.le_of_ble_eq_true rfl) rfl ?_
  refine g_iconst dX5_takeOver_0 kI_0 ?_
  refine g_istore_n dX5_takeOver_1 rfl (lt_r rfl) rfl ?_
  refine g_le (lvLe_c rfl (lvLe_c rfl (lvLe_c rfl lvLe_0))) (lp_X5_takeOver hs hs2 hap (fun M' a1 a2 => ?_) 6 0 (by omega) M (fun q hq => absurd hq (Nat.not_lt_zero q)) Sm.rf)
  obtain ⟨g1, g2, g3, g4, g5, g6, g7, g8, g9, g10⟩ := h
  refine g_aload_n dX5_takeOver_29 rfl rfl ?_
  refine g_getR dX5_takeOver_30 fl_X5_17 hs2.1 rfl ?_
  refine g_iconst dX5_takeOver_33 kI_0 ?_
  refine g_aload_n dX5_takeOver_34 rfl rfl ?_
  refine g_getR dX5_takeOver_35 fl_X5_17 hs.1 rfl ?_
  refine g_iconst dX5_takeOver_38 kI_0 ?_
  refine g_bipush dX5_takeOver_39 kB_10 ?_
  refine g_cpyI dX5_takeOver_41 ml_X5_39 hs2.2.2.1 hs.2.2.1 rfl rfl rfl (by omega) (by omega) ⟨lt_r rfl, Nat.le_of_ble_eq_true rfl⟩ ?_
  refine g_aload_n dX5_takeOver_44 rfl rfl ?_
  refine g_aload_n dX5_takeOver_45 rfl rfl ?_
  refine g_getI dX5_takeOver_46 fl_X5_45 hs2.1 rfl ((by rw [upR_ap (by omega), a2.i (by omega)]; exact g3 : _ = nI (sCn s))) ?_
  refine g_putI dX5_takeOver_49 fp_X5_45 hs.1 rfl ?_
  refine g_aload_n dX5_takeOver_52 rfl rfl ?_
  refine g_aload_n dX5_takeOver_53 rfl rfl ?_
  refine g_getI dX5_takeOver_54 fl_X5_21 hs2.1 rfl ((by rw [upI_ap (by omega), upR_ap (by omega), a2.i (by omega)]; exact g4 : _ = nI (sHt s))) ?_
  refine g_putI dX5_takeOver_57 fp_X5_21 hs.1 rfl ?_
  refine g_aload_n dX5_takeOver_60 rfl rfl ?_
  refine g_aload_n dX5_takeOver_61 rfl rfl ?_
  refine g_getI dX5_takeOver_62 fl_X5_25 hs2.1 rfl ((by rw [upI_ap (by omega), upI_ap (by omega), upR_ap (by omega), a2.i (by omega)]; exact g5 : _ = nI (sLo s))) ?_
  refine g_putI dX5_takeOver_65 fp_X5_25 hs.1 rfl ?_
  refine g_aload_n dX5_takeOver_68 rfl rfl ?_
  refine g_aload_n dX5_takeOver_69 rfl rfl ?_
  refine g_getI dX5_takeOver_70 fl_X5_28 hs2.1 rfl ((by rw [upI_ap (by omega), upI_ap (by omega), upI_ap (by omega), upR_ap (by omega), a2.i (by omega)]; exact g6 : _ = nI (sTe s))) ?_
  refine g_putI dX5_takeOver_73 fp_X5_28 hs.1 rfl ?_
  refine g_aload_n dX5_takeOver_76 rfl rfl ?_
  refine g_aload_n dX5_takeOver_77 rfl rfl ?_
  refine g_getI dX5_takeOver_78 fl_X5_48 hs2.1 rfl ((by rw [upI_ap (by omega), upI_ap (by omega), upI_ap (by omega), upI_ap (by omega), upR_ap (by omega), a2.i (by omega)]; exact g7 : _ = sSl s)) ?_
  refine g_putI dX5_takeOver_81 fp_X5_48 hs.1 rfl ?_
  refine g_aload_n dX5_takeOver_84 rfl rfl ?_
  refine g_aload_n dX5_takeOver_85 rfl rfl ?_
  refine g_getI dX5_takeOver_86 fl_X5_51 hs2.1 rfl ((by rw [upI_ap (by omega), upI_ap (by omega), upI_ap (by omega), upI_ap (by omega), upI_ap (by omega), upR_ap (by omega), a2.i (by omega)]; exact g8 : _ = sPl s)) ?_
  refine g_putI dX5_takeOver_89 fp_X5_51 hs.1 rfl ?_
  refine g_aload_n dX5_takeOver_92 rfl rfl ?_
  refine g_aload_n dX5_takeOver_93 rfl rfl ?_
  refine g_getI dX5_takeOver_94 fl_X5_54 hs2.1 rfl ((by rw [upI_ap (by omega), upI_ap (by omega), upI_ap (by omega), upI_ap (by omega), upI_ap (by omega), upI_ap (by omega), upR_ap (by omega), a2.i (by omega)]; exact g9 : _ = sSe s)) ?_
  refine g_putI dX5_takeOver_97 fp_X5_54 hs.1 rfl ?_
  refine g_aload_n dX5_takeOver_100 rfl rfl ?_
  refine g_aload_n dX5_takeOver_101 rfl rfl ?_
  refine g_getI dX5_takeOver_102 fl_X5_31 hs2.1 rfl ((by rw [upI_ap (by omega), upI_ap (by omega), upI_ap (by omega), upI_ap (by omega), upI_ap (by omega), upI_ap (by omega), upI_ap (by omega), upR_ap (by omega), a2.i (by omega)]; exact g10 : _ = sSd s)) ?_
  refine g_putI dX5_takeOver_105 fp_X5_31 hs.1 rfl ?_
  refine g_vret dX5_takeOver_108 ⟨rfl, ?_⟩
  refine ⟨⟨fun q hq => ?_, fun i hi => ?_, ?_, ?_, ?_, ?_, ?_, ?_, ?_, ?_⟩, ?_⟩
  · obtain ⟨b1, b2⟩ := a1 q (by omega)
    have h9 := g1 q hq
    have h8 := (ho.1 q hq).2.2.1
    refine ⟨?_, ?_, ?_, fun i hi => ?_⟩
    · iterate 8 rw [upI_ap (by omega)]
      rw [upR_ap (by omega), b1 0 (by omega)]; exact h9.1
    · iterate 8 rw [upI_ap (by omega)]
      rw [upR_ap (by omega), b1 1 (by omega)]; exact h9.2.1
    · iterate 8 rw [upI_ap (by omega)]
      rw [upR_ap (by omega), b1 2 (by omega)]; exact h9.2.2.1
    · iterate 8 rw [upI_ap (by omega)]
      rw [upR_ap (by omega), b2 i (by omega)]; exact h9.2.2.2 i hi
  · iterate 8 rw [upI_ap (by omega)]
    rw [upR_s, va_cpy, if_pos ⟨by omega, by omega⟩, a2.i (by omega), show 0 + (i - 0) = i by omega]; exact g2 i hi
  · simp [upI_at]
  · simp [upI_at]
  · simp [upI_at]
  · simp [upI_at]
  · simp [upI_at]
  · simp [upI_at]
  · simp [upI_at]
  · simp [upI_at]
  · refine Sm.tr (a2.up (by omega) (by omega)) ?_
    iterate 8 refine Sm.tr ?_ (Sm.pI (by omega) (by omega))
    exact Sm.pR (by omega) (by omega)
end STA
/-! a shelf: 0 nothing, 1 a row (sort, how many, elements), 2 a biscuit's number -/
abbrev Sh : Type := Nat × Nat × Nat × (Nat → Int64)
def okH (cn : Nat) (x : Sh) : Prop := x.1 ≤ 2 ∧ (x.1 = 1 → x.2.1 ≤ 3 ∧ x.2.2.1 ≤ 160) ∧ (x.1 = 2 → x.2.1 < cn)
def RH (B : Nat) (M : MM) (k : Nat) (x : Sh) : Prop :=
  M.1 (B + k) 1 = (if x.1 = 1 then nI x.2.1 else -1) ∧ M.1 (B + k) 2 = (if x.1 = 1 then nI x.2.2.1 else nI 0) ∧ M.1 (B + k) 3 = (if x.1 = 2 then nI x.2.1 else -1) ∧ (x.1 = 1 → ∀ i, i < x.2.2.1 → M.2 (B + (k + 1)) i = x.2.2.2 i)
theorem RH.sm {B : Nat} {M M' : MM} {lo hi k : Nat} {x : Sh} (h : RH B M k x) (hS : Sm B M M' lo hi) (h1 : k + 2 ≤ lo ∨ hi ≤ k) : RH B M' k x := by
  unfold RH
  rw [hS.i (by omega), hS.l (by omega)]
  exact h
def lowI (so : Nat) (v : Int64) : Int64 := if so = 0 then v.toInt32.toInt8.toInt32.toInt64 else if so = 1 then v.toInt32.toInt16.toInt32.toInt64 else if so = 2 then v.toInt32.toInt64 else v
def elI (x : Sh) (i : Int32) : Int64 := if x.1 = 1 ∧ 0 ≤ i ∧ i < nI x.2.2.1 then x.2.2.2 i.toNatClampNeg else 0
def tellI (x : Sh) : Int32 := if x.1 = 1 then nI (100 + x.2.1) else if x.1 = 2 then nI x.2.1 else -1
section SHE
variable {E : EE} {B : Nat} {M : MM} {k : Nat}
theorem lp_X4_takeRow (hh : isH k) {F : Option Value → MM → Prop} (hend : ∀ M', (∀ j, j < 160 → M'.2 (B + (k + 1)) j = 0) → (∀ q, q ≠ k + 1 → M'.2 (B + q) = M.2 (B + q)) → M'.1 = M.1 → F none M') : ∀ (n i : Nat), i + n = 160 → ∀ M', (∀ j, j < i → M'.2 (B + (k + 1)) j = 0) → (∀ q, q ≠ k + 1 → M'.2 (B + q) = M.2 (B + q)) → M'.1 = M.1 →
    G E B cX4_takeRow (RX4, 4, none, rmD 0, 0, 0, KM E B F) 17 [(0, .ref (B + k)), (3, .int (nI i))] [] M' := by
  intro n
  induction n with
  | zero =>
    intro i h1 M' h2 h3 h4
    refine g_iload_n dX4_takeRow_17 rfl rfl ?_
    refine g_sipush dX4_takeRow_18 kS_160 ?_
    refine g_icmp_geN (tgt := 37) dX4_takeRow_21 (by decide) rfl rfl (by omega) (by omega) (fun c_21 => ?_) (fun c_21 => absurd c_21 (by omega))
    refine g_vret dX4_takeRow_37 (hend M' (fun j hj => h2 j (by omega)) h3 h4)
  | succ n ih =>
    intro i h1 M' h2 h3 h4
    refine g_iload_n dX4_takeRow_17 rfl rfl ?_
    refine g_sipush dX4_takeRow_18 kS_160 ?_
    refine g_icmp_geN (tgt := 37) dX4_takeRow_21 (by decide) rfl rfl (by omega) (by omega) (fun c_21 => absurd c_21 (by omega)) (fun c_21 => ?_)
    refine g_aload_n dX4_takeRow_24 rfl rfl ?_
    refine g_getR dX4_takeRow_25 fl_X4_9 hh.1 rfl ?_
    refine g_iload_n dX4_takeRow_28 rfl rfl ?_
    refine g_lconst (v := 0) dX4_takeRow_29 (by decide) ?_
    refine g_last dX4_takeRow_30 hh.2 rfl (by omega) ?_
    refine g_iinc dX4_takeRow_31 rfl (inc_nI _) rfl ?_
    refine g_goto (tgt := 17) dX4_takeRow_34 (by decide) (g_le (lvLe_c rfl (lvLe_c rfl lvLe_0)) (ih (i + 1) (by omega) _ (fun j hj => ?_) (fun q hq => ?_) ?_))
    · by_cases e : j = i
      · subst e; exact upL_s
      · rw [upL_k e]; exact h2 j (by omega)
    · rw [upL_n (by omega)]; exact h3 q hq
    · exact h4
theorem ct_X4_takeRow {so n : Nat} (hh : isH k) : Ct E B yX4_takeRow cX4_takeRow 4 none 0 [.ref (B + k), .int (nI so), .int (nI n)] M (Rv (fun M2 => (n ≤ 160 → RH B M2 k (1, so, n, fun _ => 0)) ∧ Sm B M M2 k (k + 2))) := by
  refine Ct.of2 (own := RX4) (lv := [(0, .ref (B + k)), (1, .int (nI so)), (2, .int (nI n))]) pn_X4 rfl (Nat.le_of_ble_eq_true rfl) rfl ?_
  refine g_aload_n dX4_takeRow_0 rfl rfl ?_
  refine g_iconst dX4_takeRow_1 kI_m1 ?_
  refine g_putI dX4_takeRow_2 fp_X4_19 hh.1 rfl ?_
  refine g_aload_n dX4_takeRow_5 rfl rfl ?_
  refine g_iload_n dX4_takeRow_6 rfl rfl ?_
  refine g_putI dX4_takeRow_7 fp_X4_15 hh.1 rfl ?_
  refine g_aload_n dX4_takeRow_10 rfl rfl ?_
  refine g_iload_n dX4_takeRow_11 rfl rfl ?_
  refine g_putI dX4_takeRow_12 fp_X4_22 hh.1 rfl ?_
  refine g_iconst dX4_takeRow_15 kI_0 ?_
  refine g_istore_n dX4_takeRow_16 rfl (lt_r rfl) rfl ?_
  refine g_le (lvLe_c rfl (lvLe_c rfl lvLe_0)) (lp_X4_takeRow hh (fun M' a1 a2 a3 => ⟨rfl, ?_⟩) 160 0 (by omega) _ (fun j hj => absurd hj (Nat.not_lt_zero j)) (fun q hq => rfl) rfl)
  refine ⟨fun hn => ⟨?_, ?_, ?_, fun _ i hi => a1 i (by have hi : i < n := hi; omega)⟩, fun q hq => ⟨?_, ?_⟩⟩
  · rw [a3]; simp [upI_at]
  · rw [a3]; simp [upI_at]
  · rw [a3]; simp [upI_at]
  · rw [a3, upI_ap (by omega), upI_ap (by omega), upI_ap (by omega)]
  · exact a2 q (by omega)
theorem ct_X4_takeBiscuit {x : Int32} (hh : isH k) : Ct E B yX4_takeBiscuit cX4_takeBiscuit 2 none 0 [.ref (B + k), .int x] M (Rv (fun M2 => (M2.1 (B + k) 1 = -1 ∧ M2.1 (B + k) 2 = nI 0 ∧ M2.1 (B + k) 3 = x) ∧ Sm B M M2 k (k + 2))) := by
  refine Ct.of2 (own := RX4) (lv := [(0, .ref (B + k)), (1, .int x)]) pn_X4 rfl (Nat.le_of_ble_eq_true rfl) rfl ?_
  refine g_aload_n dX4_takeBiscuit_0 rfl rfl ?_
  refine g_iload_n dX4_takeBiscuit_1 rfl rfl ?_
  refine g_putI dX4_takeBiscuit_2 fp_X4_19 hh.1 rfl ?_
  refine g_aload_n dX4_takeBiscuit_5 rfl rfl ?_
  refine g_iconst dX4_takeBiscuit_6 kI_m1 ?_
  refine g_putI dX4_takeBiscuit_7 fp_X4_15 hh.1 rfl ?_
  refine g_aload_n dX4_takeBiscuit_10 rfl rfl ?_
  refine g_iconst dX4_takeBiscuit_11 kI_0 ?_
  refine g_putI dX4_takeBiscuit_12 fp_X4_22 hh.1 rfl ?_
  refine g_vret dX4_takeBiscuit_15 ⟨rfl, ?_⟩
  exact ⟨by simp [upI_at], Sm.tr (Sm.tr (Sm.pI (by omega) (by omega)) (Sm.pI (by omega) (by omega))) (Sm.pI (by omega) (by omega))⟩
theorem ct_X4_holdsRow {x : Sh} {cn : Nat} (hh : isH k) (h : RH B M k x) (ho : okH cn x) : Ct E B yX4_holdsRow cX4_holdsRow 1 (some .boolean) 0 [.ref (B + k)] M (Rp (bp (x.1 = 1)) M) := by
  refine Ct.of2 (own := RX4) (lv := [(0, .ref (B + k))]) pn_X4 rfl (Nat.le_of_ble_eq_true rfl) rfl ?_
  refine g_aload_n dX4_holdsRow_0 rfl rfl ?_
  refine g_getI dX4_holdsRow_1 fl_X4_15 hh.1 rfl (h.1) ?_
  refine g_iconst dX4_holdsRow_4 kI_m1 ?_
  refine g_icmp_eq (tgt := 12) dX4_holdsRow_5 (by decide) (fun c_5 => ?_) (fun c_5 => ?_)
  · refine g_iconst dX4_holdsRow_12 kI_0 ?_
    refine g_zret dX4_holdsRow_13 (by first | exact Or.inl rfl | exact Or.inr rfl | exact bp_01) ⟨_, rfl, ?_⟩
    refine ⟨?_, rfl⟩
    first | exact bp_t (Classical.byContradiction (fun z => c_5 (if_neg z))) | (refine bp_f (fun z => ?_); rw [if_pos z] at c_5; exact nI_nm1 (by have := ho.2.1 z; omega) c_5)
  · refine g_iconst dX4_holdsRow_8 kI_1 ?_
    refine g_goto (tgt := 13) dX4_holdsRow_9 (by decide) ?_
    refine g_zret dX4_holdsRow_13 (by first | exact Or.inl rfl | exact Or.inr rfl | exact bp_01) ⟨_, rfl, ?_⟩
    refine ⟨?_, rfl⟩
    first | exact bp_t (Classical.byContradiction (fun z => c_5 (if_neg z))) | (refine bp_f (fun z => ?_); rw [if_pos z] at c_5; exact nI_nm1 (by have := ho.2.1 z; omega) c_5)
theorem ct_X4_tellsWhatItHolds {x : Sh} {cn : Nat} (hh : isH k) (h : RH B M k x) (ho : okH cn x) : Ct E B yX4_tellsWhatItHolds cX4_tellsWhatItHolds 1 (some .int) 1 [.ref (B + k)] M (Rp (tellI x) M) := by
  refine Ct.of2 (own := RX4) (lv := [(0, .ref (B + k))]) pn_X4 rfl (Nat.le_of_ble_eq_true rfl) rfl ?_
  refine g_aload_n dX4_tellsWhatItHolds_0 rfl rfl ?_
  refine g_callVp dX4_tellsWhatItHolds_1 mi_X4_holdsRow ml_X4_25 (ct_X4_holdsRow hh h ho) hh.1 rfl rfl rfl (Nat.le_of_ble_eq_true rfl) ⟨lt_r rfl, Nat.le_of_ble_eq_true rfl⟩ ?_
  refine g_if_eqP (tgt := 17) dX4_tellsWhatItHolds_4 (by decide) (fun c_4 => ?_) (fun c_4 => ?_)
  · refine g_aload_n dX4_tellsWhatItHolds_17 rfl rfl ?_
    refine g_getI dX4_tellsWhatItHolds_18 fl_X4_19 hh.1 rfl (h.2.2.1) ?_
    refine g_iret dX4_tellsWhatItHolds_21 ⟨_, rfl, ?_⟩
    refine ⟨?_, rfl⟩
    unfold tellI
    first | rw [if_pos c_4] | rw [if_neg c_4]
  · refine g_bipush dX4_tellsWhatItHolds_7 kB_100 ?_
    refine g_aload_n dX4_tellsWhatItHolds_9 rfl rfl ?_
    refine g_getI dX4_tellsWhatItHolds_10 fl_X4_15 hh.1 rfl (h.1.trans (if_pos c_4)) ?_
    refine g_iadd dX4_tellsWhatItHolds_13 (nI_add _ _) ?_
    refine g_goto (tgt := 21) dX4_tellsWhatItHolds_14 (by decide) ?_
    refine g_iret dX4_tellsWhatItHolds_21 ⟨_, rfl, ?_⟩
    refine ⟨?_, rfl⟩
    unfold tellI
    first | rw [if_pos c_4] | rw [if_neg c_4]
theorem ct_X4_hasElement {i : Int32} (hh : isH k) : Ct E B yX4_hasElement cX4_hasElement 2 (some .boolean) 0 [.ref (B + k), .int i] M (Rp (bp (0 ≤ i ∧ i < M.1 (B + k) 2)) M) := by
  refine Ct.of2 (own := RX4) (lv := [(0, .ref (B + k)), (1, .int i)]) pn_X4 rfl (Nat.le_of_ble_eq_true rfl) rfl ?_
  refine g_iload_n dX4_hasElement_0 rfl rfl ?_
  refine g_if_lt (tgt := 16) dX4_hasElement_1 (by decide) (fun c_1 => ?_) (fun c_1 => ?_)
  · refine g_iconst dX4_hasElement_16 kI_0 ?_
    refine g_zret dX4_hasElement_17 (by first | exact Or.inl rfl | exact Or.inr rfl | exact bp_01) ⟨_, rfl, ?_⟩
    first | exact ⟨bp_t ⟨Int32.not_lt.mp c_1, Int32.not_le.mp c_9⟩, rfl⟩ | exact ⟨bp_f (fun q => Int32.not_lt.mpr q.1 c_1), rfl⟩ | exact ⟨bp_f (fun q => Int32.not_le.mpr q.2 c_9), rfl⟩
  · refine g_iload_n dX4_hasElement_4 rfl rfl ?_
    refine g_aload_n dX4_hasElement_5 rfl rfl ?_
    refine g_getI dX4_hasElement_6 fl_X4_22 hh.1 rfl rfl ?_
    refine g_icmp_ge (tgt := 16) dX4_hasElement_9 (by decide) (fun c_9 => ?_) (fun c_9 => ?_)
    · refine g_iconst dX4_hasElement_16 kI_0 ?_
      refine g_zret dX4_hasElement_17 (by first | exact Or.inl rfl | exact Or.inr rfl | exact bp_01) ⟨_, rfl, ?_⟩
      first | exact ⟨bp_t ⟨Int32.not_lt.mp c_1, Int32.not_le.mp c_9⟩, rfl⟩ | exact ⟨bp_f (fun q => Int32.not_lt.mpr q.1 c_1), rfl⟩ | exact ⟨bp_f (fun q => Int32.not_le.mpr q.2 c_9), rfl⟩
    · refine g_iconst dX4_hasElement_12 kI_1 ?_
      refine g_goto (tgt := 17) dX4_hasElement_13 (by decide) ?_
      refine g_zret dX4_hasElement_17 (by first | exact Or.inl rfl | exact Or.inr rfl | exact bp_01) ⟨_, rfl, ?_⟩
      first | exact ⟨bp_t ⟨Int32.not_lt.mp c_1, Int32.not_le.mp c_9⟩, rfl⟩ | exact ⟨bp_f (fun q => Int32.not_lt.mpr q.1 c_1), rfl⟩ | exact ⟨bp_f (fun q => Int32.not_le.mpr q.2 c_9), rfl⟩
theorem el_row {x : Sh} {cn : Nat} {i : Int32} (h : RH B M k x) (ho : okH cn x) (hi : 0 ≤ i ∧ i < M.1 (B + k) 2) : x.1 = 1 ∧ ∃ j, j < x.2.2.1 ∧ i = nI j := by
  rw [h.2.1] at hi
  by_cases z : x.1 = 1
  · rw [if_pos z] at hi
    exact ⟨z, in_nI (by have := ho.2.1 z; omega) hi⟩
  · rw [if_neg z] at hi
    exact absurd hi.2 (Int32.not_lt.mpr hi.1)
theorem ct_X4_elementAt {x : Sh} {cn : Nat} {i : Int32} (hh : isH k) (h : RH B M k x) (ho : okH cn x) : Ct E B yX4_elementAt cX4_elementAt 2 (some .long) 1 [.ref (B + k), .int i] M (Rl (fun r M' => r = elI x i ∧ M' = M)) := by
  refine Ct.of2 (own := RX4) (lv := [(0, .ref (B + k)), (1, .int i)]) pn_X4 rfl (Nat.le_of_ble_eq_true rfl) rfl ?_
  refine g_aload_n dX4_elementAt_0 rfl rfl ?_
  refine g_iload_n dX4_elementAt_1 rfl rfl ?_
  refine g_callVp dX4_elementAt_2 mi_X4_hasElement ml_X4_29 (ct_X4_hasElement hh) hh.1 rfl rfl rfl (Nat.le_of_ble_eq_true rfl) ⟨lt_r rfl, Nat.le_of_ble_eq_true rfl⟩ ?_
  refine g_if_eqP (tgt := 17) dX4_elementAt_5 (by decide) (fun c_5 => ?_) (fun c_5 => ?_)
  · refine g_lconst (v := 0) dX4_elementAt_17 (by decide) ?_
    refine g_lret dX4_elementAt_18 ⟨_, rfl, ?_⟩
    refine ⟨?_, rfl⟩
    unfold elI
    first | (rw [if_pos ⟨z, nI_pos' (by have := ho.2.1 z; omega), (nI_ltI (by have := ho.2.1 z; omega) (by have := ho.2.1 z; omega)).mpr hj⟩, nI_clamp (by have := ho.2.1 z; omega)]) | (rw [if_neg (fun q => c_5 ⟨q.2.1, by rw [h.2.1, if_pos q.1]; exact q.2.2⟩)])
  · obtain ⟨z, j, hj, rfl⟩ := el_row h ho c_5
    refine g_aload_n dX4_elementAt_8 rfl rfl ?_
    refine g_getR dX4_elementAt_9 fl_X4_9 hh.1 rfl ?_
    refine g_iload_n dX4_elementAt_12 rfl rfl ?_
    refine g_lald dX4_elementAt_13 hh.2 rfl (by have := ho.2.1 z; omega) (h.2.2.2 z j hj) ?_
    refine g_goto (tgt := 18) dX4_elementAt_14 (by decide) ?_
    refine g_lret dX4_elementAt_18 ⟨_, rfl, ?_⟩
    refine ⟨?_, rfl⟩
    unfold elI
    first | (rw [if_pos ⟨z, nI_pos' (by have := ho.2.1 z; omega), (nI_ltI (by have := ho.2.1 z; omega) (by have := ho.2.1 z; omega)).mpr hj⟩, nI_clamp (by have := ho.2.1 z; omega)]) | (rw [if_neg (fun q => c_5 ⟨q.2.1, by rw [h.2.1, if_pos q.1]; exact q.2.2⟩)])
theorem ct_X4_lowestBits {x : Sh} {cn : Nat} {v : Int64} (hh : isH k) (h : RH B M k x) (ho : okH cn x) (hr : x.1 = 1) : Ct E B yX4_lowestBits cX4_lowestBits 3 (some .long) 0 [.ref (B + k), .long v] M (Rl (fun r M' => r = lowI x.2.1 v ∧ M' = M)) := by
  have hs := ho.2.1 hr
  refine Ct.of2 (own := RX4) (lv := [(0, .ref (B + k)), (1, .long v)]) pn_X4 rfl (Nat.le_of_ble_eq_true rfl) rfl ?_
  refine g_aload_n dX4_lowestBits_0 rfl rfl ?_
  refine g_getI dX4_lowestBits_1 fl_X4_15 hh.1 rfl (h.1.trans (if_pos hr)) ?_
  refine g_tblC (off := 28) (tgt := 32) dX4_lowestBits_4 0 (by decide) (by decide) (by decide) (by decide) (fun c_4_0 => ?_) (fun c_4_0 => ?_)
  · refine g_lload_n dX4_lowestBits_32 rfl rfl ?_
    refine g_l2i dX4_lowestBits_33 rfl ?_
    refine g_i2b dX4_lowestBits_34 rfl ?_
    refine g_i2l dX4_lowestBits_35 rfl ?_
    refine g_lret dX4_lowestBits_36 ⟨_, rfl, ?_⟩
    refine ⟨?_, rfl⟩
    unfold lowI
    first | (have e1 : x.2.1 = 0 := (nI_eq (by omega) (by omega)).mp c_4_0; simp [e1]; done) | (have e1 : x.2.1 = 1 := (nI_eq (by omega) (by omega)).mp c_4_1; simp [e1]; done) | (have e1 : x.2.1 = 2 := (nI_eq (by omega) (by omega)).mp c_4_2; simp [e1]; done) | (have k1 := nI_toInt (n := x.2.1) (by omega); rw [if_neg (by omega), if_neg (by omega), if_neg (by omega)])
  refine g_tblC (off := 33) (tgt := 37) dX4_lowestBits_4 1 (by decide) (by decide) (by decide) (by decide) (fun c_4_1 => ?_) (fun c_4_1 => ?_)
  · refine g_lload_n dX4_lowestBits_37 rfl rfl ?_
    refine g_l2i dX4_lowestBits_38 rfl ?_
    refine g_i2s dX4_lowestBits_39 rfl ?_
    refine g_i2l dX4_lowestBits_40 rfl ?_
    refine g_lret dX4_lowestBits_41 ⟨_, rfl, ?_⟩
    refine ⟨?_, rfl⟩
    unfold lowI
    first | (have e1 : x.2.1 = 0 := (nI_eq (by omega) (by omega)).mp c_4_0; simp [e1]; done) | (have e1 : x.2.1 = 1 := (nI_eq (by omega) (by omega)).mp c_4_1; simp [e1]; done) | (have e1 : x.2.1 = 2 := (nI_eq (by omega) (by omega)).mp c_4_2; simp [e1]; done) | (have k1 := nI_toInt (n := x.2.1) (by omega); rw [if_neg (by omega), if_neg (by omega), if_neg (by omega)])
  refine g_tblC (off := 38) (tgt := 42) dX4_lowestBits_4 2 (by decide) (by decide) (by decide) (by decide) (fun c_4_2 => ?_) (fun c_4_2 => ?_)
  · refine g_lload_n dX4_lowestBits_42 rfl rfl ?_
    refine g_l2i dX4_lowestBits_43 rfl ?_
    refine g_i2l dX4_lowestBits_44 rfl ?_
    refine g_lret dX4_lowestBits_45 ⟨_, rfl, ?_⟩
    refine ⟨?_, rfl⟩
    unfold lowI
    first | (have e1 : x.2.1 = 0 := (nI_eq (by omega) (by omega)).mp c_4_0; simp [e1]; done) | (have e1 : x.2.1 = 1 := (nI_eq (by omega) (by omega)).mp c_4_1; simp [e1]; done) | (have e1 : x.2.1 = 2 := (nI_eq (by omega) (by omega)).mp c_4_2; simp [e1]; done) | (have k1 := nI_toInt (n := x.2.1) (by omega); rw [if_neg (by omega), if_neg (by omega), if_neg (by omega)])
  refine g_tableOut (tgt := 46) dX4_lowestBits_4 (by have k1 := nI_toInt (n := x.2.1) (by omega); omega) (by decide) ?_
  refine g_lload_n dX4_lowestBits_46 rfl rfl ?_
  refine g_lret dX4_lowestBits_47 ⟨_, rfl, ?_⟩
  refine ⟨?_, rfl⟩
  unfold lowI
  first | (have e1 : x.2.1 = 0 := (nI_eq (by omega) (by omega)).mp c_4_0; simp [e1]; done) | (have e1 : x.2.1 = 1 := (nI_eq (by omega) (by omega)).mp c_4_1; simp [e1]; done) | (have e1 : x.2.1 = 2 := (nI_eq (by omega) (by omega)).mp c_4_2; simp [e1]; done) | (have k1 := nI_toInt (n := x.2.1) (by omega); rw [if_neg (by omega), if_neg (by omega), if_neg (by omega)])
theorem ct_X4_put {x : Sh} {cn j : Nat} {v : Int64} (hh : isH k) (h : RH B M k x) (ho : okH cn x) (hr : x.1 = 1) (hj : j < x.2.2.1) : Ct E B yX4_put cX4_put 4 none 1 [.ref (B + k), .int (nI j), .long v] M (Rv (fun M2 => RH B M2 k (1, x.2.1, x.2.2.1, upF x.2.2.2 j (lowI x.2.1 v)) ∧ Sm B M M2 k (k + 2))) := by
  have hs := ho.2.1 hr
  refine Ct.of2 (own := RX4) (lv := [(0, .ref (B + k)), (1, .int (nI j)), (2, .long v)]) pn_X4 rfl (Nat.le_of_ble_eq_true rfl) rfl ?_
  refine g_aload_n dX4_put_0 rfl rfl ?_
  refine g_iload_n dX4_put_1 rfl rfl ?_
  refine g_callVp dX4_put_2 mi_X4_hasElement ml_X4_29 (ct_X4_hasElement hh) hh.1 rfl rfl rfl (Nat.le_of_ble_eq_true rfl) ⟨lt_r rfl, Nat.le_of_ble_eq_true rfl⟩ ?_
  refine g_if_eqP (tgt := 19) dX4_put_5 (by decide) (fun c_5 => absurd (show 0 ≤ nI j ∧ nI j < M.1 (B + k) 2 from ⟨nI_pos' (by omega), by rw [h.2.1, if_pos hr]; exact nI_lt hj (by omega)⟩) c_5) (fun c_5 => ?_)
  refine g_aload_n dX4_put_8 rfl rfl ?_
  refine g_getR dX4_put_9 fl_X4_9 hh.1 rfl ?_
  refine g_iload_n dX4_put_12 rfl rfl ?_
  refine g_aload_n dX4_put_13 rfl rfl ?_
  refine g_lload_n dX4_put_14 rfl rfl ?_
  refine g_callVl dX4_put_15 mi_X4_lowestBits ml_X4_33 (ct_X4_lowestBits hh h ho hr) hh.1 rfl rfl rfl (Nat.le_of_ble_eq_true rfl) ⟨lt_r rfl, Nat.le_of_ble_eq_true rfl⟩ (fun x15 M15 h15 => ?_)
  obtain ⟨rfl, rfl⟩ := h15
  refine g_last dX4_put_18 hh.2 rfl (by omega) ?_
  refine g_vret dX4_put_19 ⟨rfl, ?_⟩
  refine ⟨⟨h.1.trans (if_pos hr), h.2.1.trans (if_pos hr), h.2.2.1.trans (if_neg (by omega)), fun _ i hi => ?_⟩, Sm.pL (by omega) (by omega)⟩
  by_cases e : i = j
  · subst e
    show _ = upF x.2.2.2 i _ i
    rw [upL_s, upF_s]
  · show _ = upF x.2.2.2 j _ i
    rw [upL_k e, upF_n e]; exact h.2.2.2 hr i hi
end SHE
