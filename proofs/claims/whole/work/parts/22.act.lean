/-! the class's Act: bodies that ran, how many and which -/
theorem fw_X0_19 : Cond.fieldLink RX0 19 "DunkedBiscuits$Act" "BODIES" "[I" ∈ tbG := tg_in 879 (by decide +kernel) rfl
abbrev Tr : Type := Nat × (Nat → Int32)
def tb (T : Tr) (b : Nat) : Tr := (T.1 + 1, if T.1 < 20 then upF T.2 T.1 (nI b) else T.2)
def RT (B : Nat) (M : MM) (T : Tr) : Prop := M.1 (B + 56) 4 = nI T.1 ∧ ∀ i, i < T.1 → i < 20 → M.1 (B + 57) i = T.2 i
def RA (B : Nat) (M : MM) (kd m a : Nat) (T : Tr) : Prop := (M.1 (B + 56) 1 = nI kd ∧ M.1 (B + 56) 2 = nI m ∧ M.1 (B + 56) 3 = nI a) ∧ RT B M T
theorem tb_at {T : Tr} {b i : Nat} (hi : i < T.1 + 1) (h2 : i < 20) : (tb T b).2 i = if i = T.1 then nI b else T.2 i := by
  show (if T.1 < 20 then upF T.2 T.1 (nI b) else T.2) i = _
  by_cases h : T.1 < 20
  · rw [if_pos h]; rfl
  · rw [if_neg h, if_neg (by omega)]
theorem RT.sm {B : Nat} {M M' : MM} {lo hi : Nat} {T : Tr} (h : RT B M T) (hS : Sm B M M' lo hi) (h1 : 58 ≤ lo ∨ hi ≤ 56) : RT B M' T := by
  unfold RT
  rw [hS.i (by omega), hS.i (by omega)]
  exact h
def sR (m a f : Nat) (x : Int32) : Int32 := if f = 1 ∨ f = 3 then x + nI m + nI a else if f = 4 then x + nI m - nI m else if f = 6 then (x + nI m - nI m) * nI 2 else x + nI m
def sT (f : Nat) (T : Tr) : Tr := if f = 1 ∨ f = 3 then tb (tb T 20) 10 else if f = 4 then tb (tb T 51) 10 else if f = 6 then tb (tb (tb T 70) 51) 10 else tb T 10
def cR (kd m a f : Nat) (x : Int32) : Int32 := if f = 2 ∨ f = 5 then sR m a kd x * nI 2 * nI 3 else if f = 3 then sR m a kd (x + nI 1) * nI 2 else if f = 6 then sR m a kd (x - nI a) * nI 2 else sR m a kd x * nI 2
def cT (kd f : Nat) (T : Tr) : Tr := if f = 2 ∨ f = 5 then sT kd (tb (tb T 30) 11) else if f = 3 then sT kd (tb (tb T 40) 11) else if f = 6 then sT kd (tb (tb T 71) 11) else sT kd (tb T 11)
def kR (kd m a f : Nat) (x : Int32) : Int32 := if f = 4 ∨ f = 6 then -(cR kd m a kd x ^^^ sR m a kd (x - nI a)) else if f = 5 then cR kd m a kd x ^^^ sR m a kd (x - nI a) ^^^ nI 5 else cR kd m a kd x ^^^ sR m a kd (x - nI a)
def kT (kd f : Nat) (T : Tr) : Tr := if f = 4 ∨ f = 6 then sT kd (cT kd kd (tb (tb T 50) 12)) else if f = 5 then sT kd (cT kd kd (tb (tb T 60) 12)) else sT kd (cT kd kd (tb T 12))
theorem sT_n (f : Nat) (T : Tr) : T.1 ≤ (sT f T).1 ∧ (sT f T).1 ≤ T.1 + 3 := by
  unfold sT
  repeat' split
  all_goals (simp only [tb]; omega)
theorem cT_n (kd f : Nat) (T : Tr) : T.1 ≤ (cT kd f T).1 ∧ (cT kd f T).1 ≤ T.1 + 5 := by
  unfold cT
  repeat' split
  all_goals (first | (have := sT_n kd (tb (tb T 30) 11); simp only [tb] at this ⊢; omega) | (have := sT_n kd (tb (tb T 40) 11); simp only [tb] at this ⊢; omega) | (have := sT_n kd (tb (tb T 71) 11); simp only [tb] at this ⊢; omega) | (have := sT_n kd (tb T 11); simp only [tb] at this ⊢; omega))
section ACT
variable {E : EE} {B : Nat} {M : MM}
theorem ct_X0_begins {kd m a b : Nat} {T : Tr} (h : RA B M kd m a T) (hT : T.1 < 1000) : Ct E B yX0_begins cX0_begins 2 none 0 [.ref (B + 56), .int (nI b)] M (Rv (fun M2 => RA B M2 kd m a (tb T b) ∧ Sm B M M2 56 58)) := by
  obtain ⟨⟨h1, h2, h3⟩, h4, h5⟩ := h
  refine Ct.of2 (own := RX0) (lv := [(0, .ref (B + 56)), (1, .int (nI b))]) pn_X0 rfl (Nat.le_of_ble_eq_true rfl) rfl ?_
  refine g_aload_n dX0_begins_0 rfl rfl ?_
  refine g_getI dX0_begins_1 fl_X0_47 rfl rfl (h4) ?_
  refine g_bipush dX0_begins_4 kB_20 ?_
  refine g_icmp_geN (tgt := 19) dX0_begins_6 (by decide) rfl rfl (by omega) (by omega) (fun c_6 => ?_) (fun c_6 => ?_)
  · refine g_aload_n dX0_begins_19 rfl rfl ?_
    refine g_dup dX0_begins_20 rfl ?_
    refine g_getI dX0_begins_21 fl_X0_47 rfl rfl ((by first | exact h4 | exact (congrFun (upI_ap (by omega)) 4).trans h4 : _ = nI T.1)) ?_
    refine g_iconst dX0_begins_24 kI_1 ?_
    refine g_iadd dX0_begins_25 (nI_add _ _) ?_
    refine g_putI dX0_begins_26 fp_X0_47 rfl rfl ?_
    refine g_vret dX0_begins_29 ⟨rfl, ?_⟩
    refine ⟨⟨⟨?_, ?_, ?_⟩, upI_s, fun i hi hi2 => ?_⟩, ?_⟩
    · rw [upI_k (by decide)]; first | exact h1 | (rw [upI_ap (by omega)]; exact h1)
    · rw [upI_k (by decide)]; first | exact h2 | (rw [upI_ap (by omega)]; exact h2)
    · rw [upI_k (by decide)]; first | exact h3 | (rw [upI_ap (by omega)]; exact h3)
    · have hi : i < T.1 + 1 := hi
      rw [upI_ap (by omega), tb_at hi hi2]
      first | (rw [upI_at]; split <;> first | rfl | exact h5 i (by omega) hi2) | (rw [if_neg (by omega)]; exact h5 i (by omega) hi2)
    · first | exact Sm.tr (Sm.pI (by omega) (by omega)) (Sm.pI (by omega) (by omega)) | exact Sm.pI (by omega) (by omega)
  · refine g_aload_n dX0_begins_9 rfl rfl ?_
    refine g_getR dX0_begins_10 fl_X0_9 rfl rfl ?_
    refine g_aload_n dX0_begins_13 rfl rfl ?_
    refine g_getI dX0_begins_14 fl_X0_47 rfl rfl (h4) ?_
    refine g_iload_n dX0_begins_17 rfl rfl ?_
    refine g_iast dX0_begins_18 rfl rfl (by omega) ?_
    refine g_aload_n dX0_begins_19 rfl rfl ?_
    refine g_dup dX0_begins_20 rfl ?_
    refine g_getI dX0_begins_21 fl_X0_47 rfl rfl ((by first | exact h4 | exact (congrFun (upI_ap (by omega)) 4).trans h4 : _ = nI T.1)) ?_
    refine g_iconst dX0_begins_24 kI_1 ?_
    refine g_iadd dX0_begins_25 (nI_add _ _) ?_
    refine g_putI dX0_begins_26 fp_X0_47 rfl rfl ?_
    refine g_vret dX0_begins_29 ⟨rfl, ?_⟩
    refine ⟨⟨⟨?_, ?_, ?_⟩, upI_s, fun i hi hi2 => ?_⟩, ?_⟩
    · rw [upI_k (by decide)]; first | exact h1 | (rw [upI_ap (by omega)]; exact h1)
    · rw [upI_k (by decide)]; first | exact h2 | (rw [upI_ap (by omega)]; exact h2)
    · rw [upI_k (by decide)]; first | exact h3 | (rw [upI_ap (by omega)]; exact h3)
    · have hi : i < T.1 + 1 := hi
      rw [upI_ap (by omega), tb_at hi hi2]
      first | (rw [upI_at]; split <;> first | rfl | exact h5 i (by omega) hi2) | (rw [if_neg (by omega)]; exact h5 i (by omega) hi2)
    · first | exact Sm.tr (Sm.pI (by omega) (by omega)) (Sm.pI (by omega) (by omega)) | exact Sm.pI (by omega) (by omega)
theorem lp_own_0_0 {s : Nat} (hs : s ≤ 3) : G E B cX0_ownerOf (RX0, 4, some .int, rmD 1, 0, 0, KM E B (Rp (nI 0) M)) 4 [(0, .int (nI 0)), (2, .int (nI 0)), (3, .int (nI s))] [] M := by
  refine g_iload_n dX0_ownerOf_4 rfl rfl ?_
  refine g_bipush dX0_ownerOf_5 kB_7 ?_
  refine g_icmp_geN (tgt := 55) dX0_ownerOf_7 (by decide) rfl rfl (by omega) (by omega) (fun c_7 => absurd c_7 (by omega)) (fun c_7 => ?_)
  refine g_iload_n dX0_ownerOf_10 rfl rfl ?_
  refine g_iconst dX0_ownerOf_11 kI_0 ?_
  refine g_bipush dX0_ownerOf_12 kB_6 ?_
  refine g_callSNp dX0_ownerOf_14 ms_X6_isWithin mn_X0_43 (ct_X6_isWithinN (by omega) (by omega) (by omega)) rfl rfl (Nat.le_of_ble_eq_true rfl) ⟨lt_r rfl, Nat.le_of_ble_eq_true rfl⟩ ?_
  refine g_if_eqP (tgt := 55) dX0_ownerOf_17 (by decide) (fun c_17 => absurd (by omega) c_17) (fun c_17 => ?_)
  refine g_iload_n dX0_ownerOf_20 rfl rfl ?_
  refine g_iconst dX0_ownerOf_21 kI_0 ?_
  refine g_iconst dX0_ownerOf_22 kI_2 ?_
  refine g_callSNp dX0_ownerOf_23 ms_X6_isWithin mn_X0_43 (ct_X6_isWithinN (by omega) (by omega) (by omega)) rfl rfl (Nat.le_of_ble_eq_true rfl) ⟨lt_r rfl, Nat.le_of_ble_eq_true rfl⟩ ?_
  refine g_if_eqP (tgt := 55) dX0_ownerOf_26 (by decide) (fun c_26 => absurd (by omega) c_26) (fun c_26 => ?_)
  refine g_getBo dX0_ownerOf_29 fw_X0_19 ?_
  refine g_iload_n dX0_ownerOf_32 rfl rfl ?_
  refine g_iconst dX0_ownerOf_33 kI_3 ?_
  refine g_imul dX0_ownerOf_34 (pk_mul _ _) ?_
  refine g_iload_n dX0_ownerOf_35 rfl rfl ?_
  refine g_iadd dX0_ownerOf_36 (nI_add _ _) ?_
  refine g_ialdBo dX0_ownerOf_37 rfl (by omega) ((by decide : fBo (0 * 3 + 0) = nI 10)) ?_
  refine g_if_eqN (tgt := 43) dX0_ownerOf_38 (by decide) rfl (by omega) (fun c_38 => absurd c_38 (by omega)) (fun c_38 => ?_)
  refine g_iload_n dX0_ownerOf_41 rfl rfl ?_
  refine g_iret dX0_ownerOf_42 ⟨_, rfl, ?_⟩
  exact ⟨rfl, rfl⟩
theorem ct_own_0_0 : Ct E B yX0_ownerOf cX0_ownerOf 4 (some .int) 1 [.int (nI 0), .int (nI 0)] M (Rp (nI 0) M) := by
  refine Ct.of2 (own := RX0) (lv := [(0, .int (nI 0)), (1, .int (nI 0))]) pn_X0 rfl (Nat.le_of_ble_eq_true rfl) rfl ?_
  refine g_iload_n dX0_ownerOf_0 rfl rfl ?_
  refine g_istore_n dX0_ownerOf_1 rfl (lt_r rfl) rfl ?_
  refine g_iconst dX0_ownerOf_2 kI_0 ?_
  refine g_istore_n dX0_ownerOf_3 rfl (lt_r rfl) rfl ?_
  exact g_le (lvLe_c rfl (lvLe_c rfl (lvLe_c rfl lvLe_0))) (lp_own_0_0 (by omega))
theorem lp_own_0_1 {s : Nat} (hs : s ≤ 2) : G E B cX0_ownerOf (RX0, 4, some .int, rmD 1, 0, 0, KM E B (Rp (nI 1) M)) 4 [(0, .int (nI 0)), (2, .int (nI 1)), (3, .int (nI s))] [] M := by
  refine g_iload_n dX0_ownerOf_4 rfl rfl ?_
  refine g_bipush dX0_ownerOf_5 kB_7 ?_
  refine g_icmp_geN (tgt := 55) dX0_ownerOf_7 (by decide) rfl rfl (by omega) (by omega) (fun c_7 => absurd c_7 (by omega)) (fun c_7 => ?_)
  refine g_iload_n dX0_ownerOf_10 rfl rfl ?_
  refine g_iconst dX0_ownerOf_11 kI_0 ?_
  refine g_bipush dX0_ownerOf_12 kB_6 ?_
  refine g_callSNp dX0_ownerOf_14 ms_X6_isWithin mn_X0_43 (ct_X6_isWithinN (by omega) (by omega) (by omega)) rfl rfl (Nat.le_of_ble_eq_true rfl) ⟨lt_r rfl, Nat.le_of_ble_eq_true rfl⟩ ?_
  refine g_if_eqP (tgt := 55) dX0_ownerOf_17 (by decide) (fun c_17 => absurd (by omega) c_17) (fun c_17 => ?_)
  refine g_iload_n dX0_ownerOf_20 rfl rfl ?_
  refine g_iconst dX0_ownerOf_21 kI_0 ?_
  refine g_iconst dX0_ownerOf_22 kI_2 ?_
  refine g_callSNp dX0_ownerOf_23 ms_X6_isWithin mn_X0_43 (ct_X6_isWithinN (by omega) (by omega) (by omega)) rfl rfl (Nat.le_of_ble_eq_true rfl) ⟨lt_r rfl, Nat.le_of_ble_eq_true rfl⟩ ?_
  refine g_if_eqP (tgt := 55) dX0_ownerOf_26 (by decide) (fun c_26 => absurd (by omega) c_26) (fun c_26 => ?_)
  refine g_getBo dX0_ownerOf_29 fw_X0_19 ?_
  refine g_iload_n dX0_ownerOf_32 rfl rfl ?_
  refine g_iconst dX0_ownerOf_33 kI_3 ?_
  refine g_imul dX0_ownerOf_34 (pk_mul _ _) ?_
  refine g_iload_n dX0_ownerOf_35 rfl rfl ?_
  refine g_iadd dX0_ownerOf_36 (nI_add _ _) ?_
  refine g_ialdBo dX0_ownerOf_37 rfl (by omega) ((by decide : fBo (1 * 3 + 0) = nI 20)) ?_
  refine g_if_eqN (tgt := 43) dX0_ownerOf_38 (by decide) rfl (by omega) (fun c_38 => absurd c_38 (by omega)) (fun c_38 => ?_)
  refine g_iload_n dX0_ownerOf_41 rfl rfl ?_
  refine g_iret dX0_ownerOf_42 ⟨_, rfl, ?_⟩
  exact ⟨rfl, rfl⟩
theorem ct_own_0_1 : Ct E B yX0_ownerOf cX0_ownerOf 4 (some .int) 1 [.int (nI 0), .int (nI 1)] M (Rp (nI 1) M) := by
  refine Ct.of2 (own := RX0) (lv := [(0, .int (nI 0)), (1, .int (nI 1))]) pn_X0 rfl (Nat.le_of_ble_eq_true rfl) rfl ?_
  refine g_iload_n dX0_ownerOf_0 rfl rfl ?_
  refine g_istore_n dX0_ownerOf_1 rfl (lt_r rfl) rfl ?_
  refine g_iconst dX0_ownerOf_2 kI_0 ?_
  refine g_istore_n dX0_ownerOf_3 rfl (lt_r rfl) rfl ?_
  exact g_le (lvLe_c rfl (lvLe_c rfl (lvLe_c rfl lvLe_0))) (lp_own_0_1 (by omega))
theorem lp_own_0_2 {s : Nat} (hs : s ≤ 2) : G E B cX0_ownerOf (RX0, 4, some .int, rmD 1, 0, 0, KM E B (Rp (nI 0) M)) 4 [(0, .int (nI 0)), (2, .int (nI 2)), (3, .int (nI s))] [] M := by
  refine g_iload_n dX0_ownerOf_4 rfl rfl ?_
  refine g_bipush dX0_ownerOf_5 kB_7 ?_
  refine g_icmp_geN (tgt := 55) dX0_ownerOf_7 (by decide) rfl rfl (by omega) (by omega) (fun c_7 => absurd c_7 (by omega)) (fun c_7 => ?_)
  refine g_iload_n dX0_ownerOf_10 rfl rfl ?_
  refine g_iconst dX0_ownerOf_11 kI_0 ?_
  refine g_bipush dX0_ownerOf_12 kB_6 ?_
  refine g_callSNp dX0_ownerOf_14 ms_X6_isWithin mn_X0_43 (ct_X6_isWithinN (by omega) (by omega) (by omega)) rfl rfl (Nat.le_of_ble_eq_true rfl) ⟨lt_r rfl, Nat.le_of_ble_eq_true rfl⟩ ?_
  refine g_if_eqP (tgt := 55) dX0_ownerOf_17 (by decide) (fun c_17 => absurd (by omega) c_17) (fun c_17 => ?_)
  refine g_iload_n dX0_ownerOf_20 rfl rfl ?_
  refine g_iconst dX0_ownerOf_21 kI_0 ?_
  refine g_iconst dX0_ownerOf_22 kI_2 ?_
  refine g_callSNp dX0_ownerOf_23 ms_X6_isWithin mn_X0_43 (ct_X6_isWithinN (by omega) (by omega) (by omega)) rfl rfl (Nat.le_of_ble_eq_true rfl) ⟨lt_r rfl, Nat.le_of_ble_eq_true rfl⟩ ?_
  refine g_if_eqP (tgt := 55) dX0_ownerOf_26 (by decide) (fun c_26 => absurd (by omega) c_26) (fun c_26 => ?_)
  refine g_getBo dX0_ownerOf_29 fw_X0_19 ?_
  refine g_iload_n dX0_ownerOf_32 rfl rfl ?_
  refine g_iconst dX0_ownerOf_33 kI_3 ?_
  refine g_imul dX0_ownerOf_34 (pk_mul _ _) ?_
  refine g_iload_n dX0_ownerOf_35 rfl rfl ?_
  refine g_iadd dX0_ownerOf_36 (nI_add _ _) ?_
  refine g_ialdBo dX0_ownerOf_37 rfl (by omega) ((by decide : fBo (2 * 3 + 0) = nI 0)) ?_
  refine g_if_eqN (tgt := 43) dX0_ownerOf_38 (by decide) rfl (by omega) (fun c_38 => ?_) (fun c_38 => absurd c_38 (by omega))
  refine g_getAb dX0_ownerOf_43 fn_X0_26 ?_
  refine g_iload_n dX0_ownerOf_46 rfl rfl ?_
  refine g_ialdAb dX0_ownerOf_47 rfl (by omega) ((by decide : fAb 2 = nI 0)) ?_
  refine g_istore_n dX0_ownerOf_48 rfl (lt_r rfl) rfl ?_
  refine g_iinc dX0_ownerOf_49 rfl (inc_nI _) rfl ?_
  exact g_goto (tgt := 4) dX0_ownerOf_52 (by decide) (g_le (lvLe_c rfl (lvLe_c rfl (lvLe_c rfl lvLe_0))) (lp_own_0_0 (by omega)))
theorem ct_own_0_2 : Ct E B yX0_ownerOf cX0_ownerOf 4 (some .int) 1 [.int (nI 0), .int (nI 2)] M (Rp (nI 0) M) := by
  refine Ct.of2 (own := RX0) (lv := [(0, .int (nI 0)), (1, .int (nI 2))]) pn_X0 rfl (Nat.le_of_ble_eq_true rfl) rfl ?_
  refine g_iload_n dX0_ownerOf_0 rfl rfl ?_
  refine g_istore_n dX0_ownerOf_1 rfl (lt_r rfl) rfl ?_
  refine g_iconst dX0_ownerOf_2 kI_0 ?_
  refine g_istore_n dX0_ownerOf_3 rfl (lt_r rfl) rfl ?_
  exact g_le (lvLe_c rfl (lvLe_c rfl (lvLe_c rfl lvLe_0))) (lp_own_0_2 (by omega))
theorem lp_own_0_3 {s : Nat} (hs : s ≤ 1) : G E B cX0_ownerOf (RX0, 4, some .int, rmD 1, 0, 0, KM E B (Rp (nI 1) M)) 4 [(0, .int (nI 0)), (2, .int (nI 3)), (3, .int (nI s))] [] M := by
  refine g_iload_n dX0_ownerOf_4 rfl rfl ?_
  refine g_bipush dX0_ownerOf_5 kB_7 ?_
  refine g_icmp_geN (tgt := 55) dX0_ownerOf_7 (by decide) rfl rfl (by omega) (by omega) (fun c_7 => absurd c_7 (by omega)) (fun c_7 => ?_)
  refine g_iload_n dX0_ownerOf_10 rfl rfl ?_
  refine g_iconst dX0_ownerOf_11 kI_0 ?_
  refine g_bipush dX0_ownerOf_12 kB_6 ?_
  refine g_callSNp dX0_ownerOf_14 ms_X6_isWithin mn_X0_43 (ct_X6_isWithinN (by omega) (by omega) (by omega)) rfl rfl (Nat.le_of_ble_eq_true rfl) ⟨lt_r rfl, Nat.le_of_ble_eq_true rfl⟩ ?_
  refine g_if_eqP (tgt := 55) dX0_ownerOf_17 (by decide) (fun c_17 => absurd (by omega) c_17) (fun c_17 => ?_)
  refine g_iload_n dX0_ownerOf_20 rfl rfl ?_
  refine g_iconst dX0_ownerOf_21 kI_0 ?_
  refine g_iconst dX0_ownerOf_22 kI_2 ?_
  refine g_callSNp dX0_ownerOf_23 ms_X6_isWithin mn_X0_43 (ct_X6_isWithinN (by omega) (by omega) (by omega)) rfl rfl (Nat.le_of_ble_eq_true rfl) ⟨lt_r rfl, Nat.le_of_ble_eq_true rfl⟩ ?_
  refine g_if_eqP (tgt := 55) dX0_ownerOf_26 (by decide) (fun c_26 => absurd (by omega) c_26) (fun c_26 => ?_)
  refine g_getBo dX0_ownerOf_29 fw_X0_19 ?_
  refine g_iload_n dX0_ownerOf_32 rfl rfl ?_
  refine g_iconst dX0_ownerOf_33 kI_3 ?_
  refine g_imul dX0_ownerOf_34 (pk_mul _ _) ?_
  refine g_iload_n dX0_ownerOf_35 rfl rfl ?_
  refine g_iadd dX0_ownerOf_36 (nI_add _ _) ?_
  refine g_ialdBo dX0_ownerOf_37 rfl (by omega) ((by decide : fBo (3 * 3 + 0) = nI 0)) ?_
  refine g_if_eqN (tgt := 43) dX0_ownerOf_38 (by decide) rfl (by omega) (fun c_38 => ?_) (fun c_38 => absurd c_38 (by omega))
  refine g_getAb dX0_ownerOf_43 fn_X0_26 ?_
  refine g_iload_n dX0_ownerOf_46 rfl rfl ?_
  refine g_ialdAb dX0_ownerOf_47 rfl (by omega) ((by decide : fAb 3 = nI 1)) ?_
  refine g_istore_n dX0_ownerOf_48 rfl (lt_r rfl) rfl ?_
  refine g_iinc dX0_ownerOf_49 rfl (inc_nI _) rfl ?_
  exact g_goto (tgt := 4) dX0_ownerOf_52 (by decide) (g_le (lvLe_c rfl (lvLe_c rfl (lvLe_c rfl lvLe_0))) (lp_own_0_1 (by omega)))
theorem ct_own_0_3 : Ct E B yX0_ownerOf cX0_ownerOf 4 (some .int) 1 [.int (nI 0), .int (nI 3)] M (Rp (nI 1) M) := by
  refine Ct.of2 (own := RX0) (lv := [(0, .int (nI 0)), (1, .int (nI 3))]) pn_X0 rfl (Nat.le_of_ble_eq_true rfl) rfl ?_
  refine g_iload_n dX0_ownerOf_0 rfl rfl ?_
  refine g_istore_n dX0_ownerOf_1 rfl (lt_r rfl) rfl ?_
  refine g_iconst dX0_ownerOf_2 kI_0 ?_
  refine g_istore_n dX0_ownerOf_3 rfl (lt_r rfl) rfl ?_
  exact g_le (lvLe_c rfl (lvLe_c rfl (lvLe_c rfl lvLe_0))) (lp_own_0_3 (by omega))
theorem lp_own_0_4 {s : Nat} (hs : s ≤ 2) : G E B cX0_ownerOf (RX0, 4, some .int, rmD 1, 0, 0, KM E B (Rp (nI 4) M)) 4 [(0, .int (nI 0)), (2, .int (nI 4)), (3, .int (nI s))] [] M := by
  refine g_iload_n dX0_ownerOf_4 rfl rfl ?_
  refine g_bipush dX0_ownerOf_5 kB_7 ?_
  refine g_icmp_geN (tgt := 55) dX0_ownerOf_7 (by decide) rfl rfl (by omega) (by omega) (fun c_7 => absurd c_7 (by omega)) (fun c_7 => ?_)
  refine g_iload_n dX0_ownerOf_10 rfl rfl ?_
  refine g_iconst dX0_ownerOf_11 kI_0 ?_
  refine g_bipush dX0_ownerOf_12 kB_6 ?_
  refine g_callSNp dX0_ownerOf_14 ms_X6_isWithin mn_X0_43 (ct_X6_isWithinN (by omega) (by omega) (by omega)) rfl rfl (Nat.le_of_ble_eq_true rfl) ⟨lt_r rfl, Nat.le_of_ble_eq_true rfl⟩ ?_
  refine g_if_eqP (tgt := 55) dX0_ownerOf_17 (by decide) (fun c_17 => absurd (by omega) c_17) (fun c_17 => ?_)
  refine g_iload_n dX0_ownerOf_20 rfl rfl ?_
  refine g_iconst dX0_ownerOf_21 kI_0 ?_
  refine g_iconst dX0_ownerOf_22 kI_2 ?_
  refine g_callSNp dX0_ownerOf_23 ms_X6_isWithin mn_X0_43 (ct_X6_isWithinN (by omega) (by omega) (by omega)) rfl rfl (Nat.le_of_ble_eq_true rfl) ⟨lt_r rfl, Nat.le_of_ble_eq_true rfl⟩ ?_
  refine g_if_eqP (tgt := 55) dX0_ownerOf_26 (by decide) (fun c_26 => absurd (by omega) c_26) (fun c_26 => ?_)
  refine g_getBo dX0_ownerOf_29 fw_X0_19 ?_
  refine g_iload_n dX0_ownerOf_32 rfl rfl ?_
  refine g_iconst dX0_ownerOf_33 kI_3 ?_
  refine g_imul dX0_ownerOf_34 (pk_mul _ _) ?_
  refine g_iload_n dX0_ownerOf_35 rfl rfl ?_
  refine g_iadd dX0_ownerOf_36 (nI_add _ _) ?_
  refine g_ialdBo dX0_ownerOf_37 rfl (by omega) ((by decide : fBo (4 * 3 + 0) = nI 51)) ?_
  refine g_if_eqN (tgt := 43) dX0_ownerOf_38 (by decide) rfl (by omega) (fun c_38 => absurd c_38 (by omega)) (fun c_38 => ?_)
  refine g_iload_n dX0_ownerOf_41 rfl rfl ?_
  refine g_iret dX0_ownerOf_42 ⟨_, rfl, ?_⟩
  exact ⟨rfl, rfl⟩
theorem ct_own_0_4 : Ct E B yX0_ownerOf cX0_ownerOf 4 (some .int) 1 [.int (nI 0), .int (nI 4)] M (Rp (nI 4) M) := by
  refine Ct.of2 (own := RX0) (lv := [(0, .int (nI 0)), (1, .int (nI 4))]) pn_X0 rfl (Nat.le_of_ble_eq_true rfl) rfl ?_
  refine g_iload_n dX0_ownerOf_0 rfl rfl ?_
  refine g_istore_n dX0_ownerOf_1 rfl (lt_r rfl) rfl ?_
  refine g_iconst dX0_ownerOf_2 kI_0 ?_
  refine g_istore_n dX0_ownerOf_3 rfl (lt_r rfl) rfl ?_
  exact g_le (lvLe_c rfl (lvLe_c rfl (lvLe_c rfl lvLe_0))) (lp_own_0_4 (by omega))
theorem lp_own_0_5 {s : Nat} (hs : s ≤ 1) : G E B cX0_ownerOf (RX0, 4, some .int, rmD 1, 0, 0, KM E B (Rp (nI 0) M)) 4 [(0, .int (nI 0)), (2, .int (nI 5)), (3, .int (nI s))] [] M := by
  refine g_iload_n dX0_ownerOf_4 rfl rfl ?_
  refine g_bipush dX0_ownerOf_5 kB_7 ?_
  refine g_icmp_geN (tgt := 55) dX0_ownerOf_7 (by decide) rfl rfl (by omega) (by omega) (fun c_7 => absurd c_7 (by omega)) (fun c_7 => ?_)
  refine g_iload_n dX0_ownerOf_10 rfl rfl ?_
  refine g_iconst dX0_ownerOf_11 kI_0 ?_
  refine g_bipush dX0_ownerOf_12 kB_6 ?_
  refine g_callSNp dX0_ownerOf_14 ms_X6_isWithin mn_X0_43 (ct_X6_isWithinN (by omega) (by omega) (by omega)) rfl rfl (Nat.le_of_ble_eq_true rfl) ⟨lt_r rfl, Nat.le_of_ble_eq_true rfl⟩ ?_
  refine g_if_eqP (tgt := 55) dX0_ownerOf_17 (by decide) (fun c_17 => absurd (by omega) c_17) (fun c_17 => ?_)
  refine g_iload_n dX0_ownerOf_20 rfl rfl ?_
  refine g_iconst dX0_ownerOf_21 kI_0 ?_
  refine g_iconst dX0_ownerOf_22 kI_2 ?_
  refine g_callSNp dX0_ownerOf_23 ms_X6_isWithin mn_X0_43 (ct_X6_isWithinN (by omega) (by omega) (by omega)) rfl rfl (Nat.le_of_ble_eq_true rfl) ⟨lt_r rfl, Nat.le_of_ble_eq_true rfl⟩ ?_
  refine g_if_eqP (tgt := 55) dX0_ownerOf_26 (by decide) (fun c_26 => absurd (by omega) c_26) (fun c_26 => ?_)
  refine g_getBo dX0_ownerOf_29 fw_X0_19 ?_
  refine g_iload_n dX0_ownerOf_32 rfl rfl ?_
  refine g_iconst dX0_ownerOf_33 kI_3 ?_
  refine g_imul dX0_ownerOf_34 (pk_mul _ _) ?_
  refine g_iload_n dX0_ownerOf_35 rfl rfl ?_
  refine g_iadd dX0_ownerOf_36 (nI_add _ _) ?_
  refine g_ialdBo dX0_ownerOf_37 rfl (by omega) ((by decide : fBo (5 * 3 + 0) = nI 0)) ?_
  refine g_if_eqN (tgt := 43) dX0_ownerOf_38 (by decide) rfl (by omega) (fun c_38 => ?_) (fun c_38 => absurd c_38 (by omega))
  refine g_getAb dX0_ownerOf_43 fn_X0_26 ?_
  refine g_iload_n dX0_ownerOf_46 rfl rfl ?_
  refine g_ialdAb dX0_ownerOf_47 rfl (by omega) ((by decide : fAb 5 = nI 2)) ?_
  refine g_istore_n dX0_ownerOf_48 rfl (lt_r rfl) rfl ?_
  refine g_iinc dX0_ownerOf_49 rfl (inc_nI _) rfl ?_
  exact g_goto (tgt := 4) dX0_ownerOf_52 (by decide) (g_le (lvLe_c rfl (lvLe_c rfl (lvLe_c rfl lvLe_0))) (lp_own_0_2 (by omega)))
theorem ct_own_0_5 : Ct E B yX0_ownerOf cX0_ownerOf 4 (some .int) 1 [.int (nI 0), .int (nI 5)] M (Rp (nI 0) M) := by
  refine Ct.of2 (own := RX0) (lv := [(0, .int (nI 0)), (1, .int (nI 5))]) pn_X0 rfl (Nat.le_of_ble_eq_true rfl) rfl ?_
  refine g_iload_n dX0_ownerOf_0 rfl rfl ?_
  refine g_istore_n dX0_ownerOf_1 rfl (lt_r rfl) rfl ?_
  refine g_iconst dX0_ownerOf_2 kI_0 ?_
  refine g_istore_n dX0_ownerOf_3 rfl (lt_r rfl) rfl ?_
  exact g_le (lvLe_c rfl (lvLe_c rfl (lvLe_c rfl lvLe_0))) (lp_own_0_5 (by omega))
theorem lp_own_0_6 {s : Nat} (hs : s ≤ 1) : G E B cX0_ownerOf (RX0, 4, some .int, rmD 1, 0, 0, KM E B (Rp (nI 6) M)) 4 [(0, .int (nI 0)), (2, .int (nI 6)), (3, .int (nI s))] [] M := by
  refine g_iload_n dX0_ownerOf_4 rfl rfl ?_
  refine g_bipush dX0_ownerOf_5 kB_7 ?_
  refine g_icmp_geN (tgt := 55) dX0_ownerOf_7 (by decide) rfl rfl (by omega) (by omega) (fun c_7 => absurd c_7 (by omega)) (fun c_7 => ?_)
  refine g_iload_n dX0_ownerOf_10 rfl rfl ?_
  refine g_iconst dX0_ownerOf_11 kI_0 ?_
  refine g_bipush dX0_ownerOf_12 kB_6 ?_
  refine g_callSNp dX0_ownerOf_14 ms_X6_isWithin mn_X0_43 (ct_X6_isWithinN (by omega) (by omega) (by omega)) rfl rfl (Nat.le_of_ble_eq_true rfl) ⟨lt_r rfl, Nat.le_of_ble_eq_true rfl⟩ ?_
  refine g_if_eqP (tgt := 55) dX0_ownerOf_17 (by decide) (fun c_17 => absurd (by omega) c_17) (fun c_17 => ?_)
  refine g_iload_n dX0_ownerOf_20 rfl rfl ?_
  refine g_iconst dX0_ownerOf_21 kI_0 ?_
  refine g_iconst dX0_ownerOf_22 kI_2 ?_
  refine g_callSNp dX0_ownerOf_23 ms_X6_isWithin mn_X0_43 (ct_X6_isWithinN (by omega) (by omega) (by omega)) rfl rfl (Nat.le_of_ble_eq_true rfl) ⟨lt_r rfl, Nat.le_of_ble_eq_true rfl⟩ ?_
  refine g_if_eqP (tgt := 55) dX0_ownerOf_26 (by decide) (fun c_26 => absurd (by omega) c_26) (fun c_26 => ?_)
  refine g_getBo dX0_ownerOf_29 fw_X0_19 ?_
  refine g_iload_n dX0_ownerOf_32 rfl rfl ?_
  refine g_iconst dX0_ownerOf_33 kI_3 ?_
  refine g_imul dX0_ownerOf_34 (pk_mul _ _) ?_
  refine g_iload_n dX0_ownerOf_35 rfl rfl ?_
  refine g_iadd dX0_ownerOf_36 (nI_add _ _) ?_
  refine g_ialdBo dX0_ownerOf_37 rfl (by omega) ((by decide : fBo (6 * 3 + 0) = nI 70)) ?_
  refine g_if_eqN (tgt := 43) dX0_ownerOf_38 (by decide) rfl (by omega) (fun c_38 => absurd c_38 (by omega)) (fun c_38 => ?_)
  refine g_iload_n dX0_ownerOf_41 rfl rfl ?_
  refine g_iret dX0_ownerOf_42 ⟨_, rfl, ?_⟩
  exact ⟨rfl, rfl⟩
theorem ct_own_0_6 : Ct E B yX0_ownerOf cX0_ownerOf 4 (some .int) 1 [.int (nI 0), .int (nI 6)] M (Rp (nI 6) M) := by
  refine Ct.of2 (own := RX0) (lv := [(0, .int (nI 0)), (1, .int (nI 6))]) pn_X0 rfl (Nat.le_of_ble_eq_true rfl) rfl ?_
  refine g_iload_n dX0_ownerOf_0 rfl rfl ?_
  refine g_istore_n dX0_ownerOf_1 rfl (lt_r rfl) rfl ?_
  refine g_iconst dX0_ownerOf_2 kI_0 ?_
  refine g_istore_n dX0_ownerOf_3 rfl (lt_r rfl) rfl ?_
  exact g_le (lvLe_c rfl (lvLe_c rfl (lvLe_c rfl lvLe_0))) (lp_own_0_6 (by omega))
theorem lp_own_1_0 {s : Nat} (hs : s ≤ 3) : G E B cX0_ownerOf (RX0, 4, some .int, rmD 1, 0, 0, KM E B (Rp (nI 0) M)) 4 [(0, .int (nI 1)), (2, .int (nI 0)), (3, .int (nI s))] [] M := by
  refine g_iload_n dX0_ownerOf_4 rfl rfl ?_
  refine g_bipush dX0_ownerOf_5 kB_7 ?_
  refine g_icmp_geN (tgt := 55) dX0_ownerOf_7 (by decide) rfl rfl (by omega) (by omega) (fun c_7 => absurd c_7 (by omega)) (fun c_7 => ?_)
  refine g_iload_n dX0_ownerOf_10 rfl rfl ?_
  refine g_iconst dX0_ownerOf_11 kI_0 ?_
  refine g_bipush dX0_ownerOf_12 kB_6 ?_
  refine g_callSNp dX0_ownerOf_14 ms_X6_isWithin mn_X0_43 (ct_X6_isWithinN (by omega) (by omega) (by omega)) rfl rfl (Nat.le_of_ble_eq_true rfl) ⟨lt_r rfl, Nat.le_of_ble_eq_true rfl⟩ ?_
  refine g_if_eqP (tgt := 55) dX0_ownerOf_17 (by decide) (fun c_17 => absurd (by omega) c_17) (fun c_17 => ?_)
  refine g_iload_n dX0_ownerOf_20 rfl rfl ?_
  refine g_iconst dX0_ownerOf_21 kI_0 ?_
  refine g_iconst dX0_ownerOf_22 kI_2 ?_
  refine g_callSNp dX0_ownerOf_23 ms_X6_isWithin mn_X0_43 (ct_X6_isWithinN (by omega) (by omega) (by omega)) rfl rfl (Nat.le_of_ble_eq_true rfl) ⟨lt_r rfl, Nat.le_of_ble_eq_true rfl⟩ ?_
  refine g_if_eqP (tgt := 55) dX0_ownerOf_26 (by decide) (fun c_26 => absurd (by omega) c_26) (fun c_26 => ?_)
  refine g_getBo dX0_ownerOf_29 fw_X0_19 ?_
  refine g_iload_n dX0_ownerOf_32 rfl rfl ?_
  refine g_iconst dX0_ownerOf_33 kI_3 ?_
  refine g_imul dX0_ownerOf_34 (pk_mul _ _) ?_
  refine g_iload_n dX0_ownerOf_35 rfl rfl ?_
  refine g_iadd dX0_ownerOf_36 (nI_add _ _) ?_
  refine g_ialdBo dX0_ownerOf_37 rfl (by omega) ((by decide : fBo (0 * 3 + 1) = nI 11)) ?_
  refine g_if_eqN (tgt := 43) dX0_ownerOf_38 (by decide) rfl (by omega) (fun c_38 => absurd c_38 (by omega)) (fun c_38 => ?_)
  refine g_iload_n dX0_ownerOf_41 rfl rfl ?_
  refine g_iret dX0_ownerOf_42 ⟨_, rfl, ?_⟩
  exact ⟨rfl, rfl⟩
theorem ct_own_1_0 : Ct E B yX0_ownerOf cX0_ownerOf 4 (some .int) 1 [.int (nI 1), .int (nI 0)] M (Rp (nI 0) M) := by
  refine Ct.of2 (own := RX0) (lv := [(0, .int (nI 1)), (1, .int (nI 0))]) pn_X0 rfl (Nat.le_of_ble_eq_true rfl) rfl ?_
  refine g_iload_n dX0_ownerOf_0 rfl rfl ?_
  refine g_istore_n dX0_ownerOf_1 rfl (lt_r rfl) rfl ?_
  refine g_iconst dX0_ownerOf_2 kI_0 ?_
  refine g_istore_n dX0_ownerOf_3 rfl (lt_r rfl) rfl ?_
  exact g_le (lvLe_c rfl (lvLe_c rfl (lvLe_c rfl lvLe_0))) (lp_own_1_0 (by omega))
theorem lp_own_1_1 {s : Nat} (hs : s ≤ 2) : G E B cX0_ownerOf (RX0, 4, some .int, rmD 1, 0, 0, KM E B (Rp (nI 0) M)) 4 [(0, .int (nI 1)), (2, .int (nI 1)), (3, .int (nI s))] [] M := by
  refine g_iload_n dX0_ownerOf_4 rfl rfl ?_
  refine g_bipush dX0_ownerOf_5 kB_7 ?_
  refine g_icmp_geN (tgt := 55) dX0_ownerOf_7 (by decide) rfl rfl (by omega) (by omega) (fun c_7 => absurd c_7 (by omega)) (fun c_7 => ?_)
  refine g_iload_n dX0_ownerOf_10 rfl rfl ?_
  refine g_iconst dX0_ownerOf_11 kI_0 ?_
  refine g_bipush dX0_ownerOf_12 kB_6 ?_
  refine g_callSNp dX0_ownerOf_14 ms_X6_isWithin mn_X0_43 (ct_X6_isWithinN (by omega) (by omega) (by omega)) rfl rfl (Nat.le_of_ble_eq_true rfl) ⟨lt_r rfl, Nat.le_of_ble_eq_true rfl⟩ ?_
  refine g_if_eqP (tgt := 55) dX0_ownerOf_17 (by decide) (fun c_17 => absurd (by omega) c_17) (fun c_17 => ?_)
  refine g_iload_n dX0_ownerOf_20 rfl rfl ?_
  refine g_iconst dX0_ownerOf_21 kI_0 ?_
  refine g_iconst dX0_ownerOf_22 kI_2 ?_
  refine g_callSNp dX0_ownerOf_23 ms_X6_isWithin mn_X0_43 (ct_X6_isWithinN (by omega) (by omega) (by omega)) rfl rfl (Nat.le_of_ble_eq_true rfl) ⟨lt_r rfl, Nat.le_of_ble_eq_true rfl⟩ ?_
  refine g_if_eqP (tgt := 55) dX0_ownerOf_26 (by decide) (fun c_26 => absurd (by omega) c_26) (fun c_26 => ?_)
  refine g_getBo dX0_ownerOf_29 fw_X0_19 ?_
  refine g_iload_n dX0_ownerOf_32 rfl rfl ?_
  refine g_iconst dX0_ownerOf_33 kI_3 ?_
  refine g_imul dX0_ownerOf_34 (pk_mul _ _) ?_
  refine g_iload_n dX0_ownerOf_35 rfl rfl ?_
  refine g_iadd dX0_ownerOf_36 (nI_add _ _) ?_
  refine g_ialdBo dX0_ownerOf_37 rfl (by omega) ((by decide : fBo (1 * 3 + 1) = nI 0)) ?_
  refine g_if_eqN (tgt := 43) dX0_ownerOf_38 (by decide) rfl (by omega) (fun c_38 => ?_) (fun c_38 => absurd c_38 (by omega))
  refine g_getAb dX0_ownerOf_43 fn_X0_26 ?_
  refine g_iload_n dX0_ownerOf_46 rfl rfl ?_
  refine g_ialdAb dX0_ownerOf_47 rfl (by omega) ((by decide : fAb 1 = nI 0)) ?_
  refine g_istore_n dX0_ownerOf_48 rfl (lt_r rfl) rfl ?_
  refine g_iinc dX0_ownerOf_49 rfl (inc_nI _) rfl ?_
  exact g_goto (tgt := 4) dX0_ownerOf_52 (by decide) (g_le (lvLe_c rfl (lvLe_c rfl (lvLe_c rfl lvLe_0))) (lp_own_1_0 (by omega)))
theorem ct_own_1_1 : Ct E B yX0_ownerOf cX0_ownerOf 4 (some .int) 1 [.int (nI 1), .int (nI 1)] M (Rp (nI 0) M) := by
  refine Ct.of2 (own := RX0) (lv := [(0, .int (nI 1)), (1, .int (nI 1))]) pn_X0 rfl (Nat.le_of_ble_eq_true rfl) rfl ?_
  refine g_iload_n dX0_ownerOf_0 rfl rfl ?_
  refine g_istore_n dX0_ownerOf_1 rfl (lt_r rfl) rfl ?_
  refine g_iconst dX0_ownerOf_2 kI_0 ?_
  refine g_istore_n dX0_ownerOf_3 rfl (lt_r rfl) rfl ?_
  exact g_le (lvLe_c rfl (lvLe_c rfl (lvLe_c rfl lvLe_0))) (lp_own_1_1 (by omega))
theorem lp_own_1_2 {s : Nat} (hs : s ≤ 2) : G E B cX0_ownerOf (RX0, 4, some .int, rmD 1, 0, 0, KM E B (Rp (nI 2) M)) 4 [(0, .int (nI 1)), (2, .int (nI 2)), (3, .int (nI s))] [] M := by
  refine g_iload_n dX0_ownerOf_4 rfl rfl ?_
  refine g_bipush dX0_ownerOf_5 kB_7 ?_
  refine g_icmp_geN (tgt := 55) dX0_ownerOf_7 (by decide) rfl rfl (by omega) (by omega) (fun c_7 => absurd c_7 (by omega)) (fun c_7 => ?_)
  refine g_iload_n dX0_ownerOf_10 rfl rfl ?_
  refine g_iconst dX0_ownerOf_11 kI_0 ?_
  refine g_bipush dX0_ownerOf_12 kB_6 ?_
  refine g_callSNp dX0_ownerOf_14 ms_X6_isWithin mn_X0_43 (ct_X6_isWithinN (by omega) (by omega) (by omega)) rfl rfl (Nat.le_of_ble_eq_true rfl) ⟨lt_r rfl, Nat.le_of_ble_eq_true rfl⟩ ?_
  refine g_if_eqP (tgt := 55) dX0_ownerOf_17 (by decide) (fun c_17 => absurd (by omega) c_17) (fun c_17 => ?_)
  refine g_iload_n dX0_ownerOf_20 rfl rfl ?_
  refine g_iconst dX0_ownerOf_21 kI_0 ?_
  refine g_iconst dX0_ownerOf_22 kI_2 ?_
  refine g_callSNp dX0_ownerOf_23 ms_X6_isWithin mn_X0_43 (ct_X6_isWithinN (by omega) (by omega) (by omega)) rfl rfl (Nat.le_of_ble_eq_true rfl) ⟨lt_r rfl, Nat.le_of_ble_eq_true rfl⟩ ?_
  refine g_if_eqP (tgt := 55) dX0_ownerOf_26 (by decide) (fun c_26 => absurd (by omega) c_26) (fun c_26 => ?_)
  refine g_getBo dX0_ownerOf_29 fw_X0_19 ?_
  refine g_iload_n dX0_ownerOf_32 rfl rfl ?_
  refine g_iconst dX0_ownerOf_33 kI_3 ?_
  refine g_imul dX0_ownerOf_34 (pk_mul _ _) ?_
  refine g_iload_n dX0_ownerOf_35 rfl rfl ?_
  refine g_iadd dX0_ownerOf_36 (nI_add _ _) ?_
  refine g_ialdBo dX0_ownerOf_37 rfl (by omega) ((by decide : fBo (2 * 3 + 1) = nI 30)) ?_
  refine g_if_eqN (tgt := 43) dX0_ownerOf_38 (by decide) rfl (by omega) (fun c_38 => absurd c_38 (by omega)) (fun c_38 => ?_)
  refine g_iload_n dX0_ownerOf_41 rfl rfl ?_
  refine g_iret dX0_ownerOf_42 ⟨_, rfl, ?_⟩
  exact ⟨rfl, rfl⟩
theorem ct_own_1_2 : Ct E B yX0_ownerOf cX0_ownerOf 4 (some .int) 1 [.int (nI 1), .int (nI 2)] M (Rp (nI 2) M) := by
  refine Ct.of2 (own := RX0) (lv := [(0, .int (nI 1)), (1, .int (nI 2))]) pn_X0 rfl (Nat.le_of_ble_eq_true rfl) rfl ?_
  refine g_iload_n dX0_ownerOf_0 rfl rfl ?_
  refine g_istore_n dX0_ownerOf_1 rfl (lt_r rfl) rfl ?_
  refine g_iconst dX0_ownerOf_2 kI_0 ?_
  refine g_istore_n dX0_ownerOf_3 rfl (lt_r rfl) rfl ?_
  exact g_le (lvLe_c rfl (lvLe_c rfl (lvLe_c rfl lvLe_0))) (lp_own_1_2 (by omega))
theorem lp_own_1_3 {s : Nat} (hs : s ≤ 1) : G E B cX0_ownerOf (RX0, 4, some .int, rmD 1, 0, 0, KM E B (Rp (nI 3) M)) 4 [(0, .int (nI 1)), (2, .int (nI 3)), (3, .int (nI s))] [] M := by
  refine g_iload_n dX0_ownerOf_4 rfl rfl ?_
  refine g_bipush dX0_ownerOf_5 kB_7 ?_
  refine g_icmp_geN (tgt := 55) dX0_ownerOf_7 (by decide) rfl rfl (by omega) (by omega) (fun c_7 => absurd c_7 (by omega)) (fun c_7 => ?_)
  refine g_iload_n dX0_ownerOf_10 rfl rfl ?_
  refine g_iconst dX0_ownerOf_11 kI_0 ?_
  refine g_bipush dX0_ownerOf_12 kB_6 ?_
  refine g_callSNp dX0_ownerOf_14 ms_X6_isWithin mn_X0_43 (ct_X6_isWithinN (by omega) (by omega) (by omega)) rfl rfl (Nat.le_of_ble_eq_true rfl) ⟨lt_r rfl, Nat.le_of_ble_eq_true rfl⟩ ?_
  refine g_if_eqP (tgt := 55) dX0_ownerOf_17 (by decide) (fun c_17 => absurd (by omega) c_17) (fun c_17 => ?_)
  refine g_iload_n dX0_ownerOf_20 rfl rfl ?_
  refine g_iconst dX0_ownerOf_21 kI_0 ?_
  refine g_iconst dX0_ownerOf_22 kI_2 ?_
  refine g_callSNp dX0_ownerOf_23 ms_X6_isWithin mn_X0_43 (ct_X6_isWithinN (by omega) (by omega) (by omega)) rfl rfl (Nat.le_of_ble_eq_true rfl) ⟨lt_r rfl, Nat.le_of_ble_eq_true rfl⟩ ?_
  refine g_if_eqP (tgt := 55) dX0_ownerOf_26 (by decide) (fun c_26 => absurd (by omega) c_26) (fun c_26 => ?_)
  refine g_getBo dX0_ownerOf_29 fw_X0_19 ?_
  refine g_iload_n dX0_ownerOf_32 rfl rfl ?_
  refine g_iconst dX0_ownerOf_33 kI_3 ?_
  refine g_imul dX0_ownerOf_34 (pk_mul _ _) ?_
  refine g_iload_n dX0_ownerOf_35 rfl rfl ?_
  refine g_iadd dX0_ownerOf_36 (nI_add _ _) ?_
  refine g_ialdBo dX0_ownerOf_37 rfl (by omega) ((by decide : fBo (3 * 3 + 1) = nI 40)) ?_
  refine g_if_eqN (tgt := 43) dX0_ownerOf_38 (by decide) rfl (by omega) (fun c_38 => absurd c_38 (by omega)) (fun c_38 => ?_)
  refine g_iload_n dX0_ownerOf_41 rfl rfl ?_
  refine g_iret dX0_ownerOf_42 ⟨_, rfl, ?_⟩
  exact ⟨rfl, rfl⟩
theorem ct_own_1_3 : Ct E B yX0_ownerOf cX0_ownerOf 4 (some .int) 1 [.int (nI 1), .int (nI 3)] M (Rp (nI 3) M) := by
  refine Ct.of2 (own := RX0) (lv := [(0, .int (nI 1)), (1, .int (nI 3))]) pn_X0 rfl (Nat.le_of_ble_eq_true rfl) rfl ?_
  refine g_iload_n dX0_ownerOf_0 rfl rfl ?_
  refine g_istore_n dX0_ownerOf_1 rfl (lt_r rfl) rfl ?_
  refine g_iconst dX0_ownerOf_2 kI_0 ?_
  refine g_istore_n dX0_ownerOf_3 rfl (lt_r rfl) rfl ?_
  exact g_le (lvLe_c rfl (lvLe_c rfl (lvLe_c rfl lvLe_0))) (lp_own_1_3 (by omega))
theorem lp_own_1_4 {s : Nat} (hs : s ≤ 2) : G E B cX0_ownerOf (RX0, 4, some .int, rmD 1, 0, 0, KM E B (Rp (nI 0) M)) 4 [(0, .int (nI 1)), (2, .int (nI 4)), (3, .int (nI s))] [] M := by
  refine g_iload_n dX0_ownerOf_4 rfl rfl ?_
  refine g_bipush dX0_ownerOf_5 kB_7 ?_
  refine g_icmp_geN (tgt := 55) dX0_ownerOf_7 (by decide) rfl rfl (by omega) (by omega) (fun c_7 => absurd c_7 (by omega)) (fun c_7 => ?_)
  refine g_iload_n dX0_ownerOf_10 rfl rfl ?_
  refine g_iconst dX0_ownerOf_11 kI_0 ?_
  refine g_bipush dX0_ownerOf_12 kB_6 ?_
  refine g_callSNp dX0_ownerOf_14 ms_X6_isWithin mn_X0_43 (ct_X6_isWithinN (by omega) (by omega) (by omega)) rfl rfl (Nat.le_of_ble_eq_true rfl) ⟨lt_r rfl, Nat.le_of_ble_eq_true rfl⟩ ?_
  refine g_if_eqP (tgt := 55) dX0_ownerOf_17 (by decide) (fun c_17 => absurd (by omega) c_17) (fun c_17 => ?_)
  refine g_iload_n dX0_ownerOf_20 rfl rfl ?_
  refine g_iconst dX0_ownerOf_21 kI_0 ?_
  refine g_iconst dX0_ownerOf_22 kI_2 ?_
  refine g_callSNp dX0_ownerOf_23 ms_X6_isWithin mn_X0_43 (ct_X6_isWithinN (by omega) (by omega) (by omega)) rfl rfl (Nat.le_of_ble_eq_true rfl) ⟨lt_r rfl, Nat.le_of_ble_eq_true rfl⟩ ?_
  refine g_if_eqP (tgt := 55) dX0_ownerOf_26 (by decide) (fun c_26 => absurd (by omega) c_26) (fun c_26 => ?_)
  refine g_getBo dX0_ownerOf_29 fw_X0_19 ?_
  refine g_iload_n dX0_ownerOf_32 rfl rfl ?_
  refine g_iconst dX0_ownerOf_33 kI_3 ?_
  refine g_imul dX0_ownerOf_34 (pk_mul _ _) ?_
  refine g_iload_n dX0_ownerOf_35 rfl rfl ?_
  refine g_iadd dX0_ownerOf_36 (nI_add _ _) ?_
  refine g_ialdBo dX0_ownerOf_37 rfl (by omega) ((by decide : fBo (4 * 3 + 1) = nI 0)) ?_
  refine g_if_eqN (tgt := 43) dX0_ownerOf_38 (by decide) rfl (by omega) (fun c_38 => ?_) (fun c_38 => absurd c_38 (by omega))
  refine g_getAb dX0_ownerOf_43 fn_X0_26 ?_
  refine g_iload_n dX0_ownerOf_46 rfl rfl ?_
  refine g_ialdAb dX0_ownerOf_47 rfl (by omega) ((by decide : fAb 4 = nI 0)) ?_
  refine g_istore_n dX0_ownerOf_48 rfl (lt_r rfl) rfl ?_
  refine g_iinc dX0_ownerOf_49 rfl (inc_nI _) rfl ?_
  exact g_goto (tgt := 4) dX0_ownerOf_52 (by decide) (g_le (lvLe_c rfl (lvLe_c rfl (lvLe_c rfl lvLe_0))) (lp_own_1_0 (by omega)))
theorem ct_own_1_4 : Ct E B yX0_ownerOf cX0_ownerOf 4 (some .int) 1 [.int (nI 1), .int (nI 4)] M (Rp (nI 0) M) := by
  refine Ct.of2 (own := RX0) (lv := [(0, .int (nI 1)), (1, .int (nI 4))]) pn_X0 rfl (Nat.le_of_ble_eq_true rfl) rfl ?_
  refine g_iload_n dX0_ownerOf_0 rfl rfl ?_
  refine g_istore_n dX0_ownerOf_1 rfl (lt_r rfl) rfl ?_
  refine g_iconst dX0_ownerOf_2 kI_0 ?_
  refine g_istore_n dX0_ownerOf_3 rfl (lt_r rfl) rfl ?_
  exact g_le (lvLe_c rfl (lvLe_c rfl (lvLe_c rfl lvLe_0))) (lp_own_1_4 (by omega))
theorem lp_own_1_5 {s : Nat} (hs : s ≤ 1) : G E B cX0_ownerOf (RX0, 4, some .int, rmD 1, 0, 0, KM E B (Rp (nI 2) M)) 4 [(0, .int (nI 1)), (2, .int (nI 5)), (3, .int (nI s))] [] M := by
  refine g_iload_n dX0_ownerOf_4 rfl rfl ?_
  refine g_bipush dX0_ownerOf_5 kB_7 ?_
  refine g_icmp_geN (tgt := 55) dX0_ownerOf_7 (by decide) rfl rfl (by omega) (by omega) (fun c_7 => absurd c_7 (by omega)) (fun c_7 => ?_)
  refine g_iload_n dX0_ownerOf_10 rfl rfl ?_
  refine g_iconst dX0_ownerOf_11 kI_0 ?_
  refine g_bipush dX0_ownerOf_12 kB_6 ?_
  refine g_callSNp dX0_ownerOf_14 ms_X6_isWithin mn_X0_43 (ct_X6_isWithinN (by omega) (by omega) (by omega)) rfl rfl (Nat.le_of_ble_eq_true rfl) ⟨lt_r rfl, Nat.le_of_ble_eq_true rfl⟩ ?_
  refine g_if_eqP (tgt := 55) dX0_ownerOf_17 (by decide) (fun c_17 => absurd (by omega) c_17) (fun c_17 => ?_)
  refine g_iload_n dX0_ownerOf_20 rfl rfl ?_
  refine g_iconst dX0_ownerOf_21 kI_0 ?_
  refine g_iconst dX0_ownerOf_22 kI_2 ?_
  refine g_callSNp dX0_ownerOf_23 ms_X6_isWithin mn_X0_43 (ct_X6_isWithinN (by omega) (by omega) (by omega)) rfl rfl (Nat.le_of_ble_eq_true rfl) ⟨lt_r rfl, Nat.le_of_ble_eq_true rfl⟩ ?_
  refine g_if_eqP (tgt := 55) dX0_ownerOf_26 (by decide) (fun c_26 => absurd (by omega) c_26) (fun c_26 => ?_)
  refine g_getBo dX0_ownerOf_29 fw_X0_19 ?_
  refine g_iload_n dX0_ownerOf_32 rfl rfl ?_
  refine g_iconst dX0_ownerOf_33 kI_3 ?_
  refine g_imul dX0_ownerOf_34 (pk_mul _ _) ?_
  refine g_iload_n dX0_ownerOf_35 rfl rfl ?_
  refine g_iadd dX0_ownerOf_36 (nI_add _ _) ?_
  refine g_ialdBo dX0_ownerOf_37 rfl (by omega) ((by decide : fBo (5 * 3 + 1) = nI 0)) ?_
  refine g_if_eqN (tgt := 43) dX0_ownerOf_38 (by decide) rfl (by omega) (fun c_38 => ?_) (fun c_38 => absurd c_38 (by omega))
  refine g_getAb dX0_ownerOf_43 fn_X0_26 ?_
  refine g_iload_n dX0_ownerOf_46 rfl rfl ?_
  refine g_ialdAb dX0_ownerOf_47 rfl (by omega) ((by decide : fAb 5 = nI 2)) ?_
  refine g_istore_n dX0_ownerOf_48 rfl (lt_r rfl) rfl ?_
  refine g_iinc dX0_ownerOf_49 rfl (inc_nI _) rfl ?_
  exact g_goto (tgt := 4) dX0_ownerOf_52 (by decide) (g_le (lvLe_c rfl (lvLe_c rfl (lvLe_c rfl lvLe_0))) (lp_own_1_2 (by omega)))
theorem ct_own_1_5 : Ct E B yX0_ownerOf cX0_ownerOf 4 (some .int) 1 [.int (nI 1), .int (nI 5)] M (Rp (nI 2) M) := by
  refine Ct.of2 (own := RX0) (lv := [(0, .int (nI 1)), (1, .int (nI 5))]) pn_X0 rfl (Nat.le_of_ble_eq_true rfl) rfl ?_
  refine g_iload_n dX0_ownerOf_0 rfl rfl ?_
  refine g_istore_n dX0_ownerOf_1 rfl (lt_r rfl) rfl ?_
  refine g_iconst dX0_ownerOf_2 kI_0 ?_
  refine g_istore_n dX0_ownerOf_3 rfl (lt_r rfl) rfl ?_
  exact g_le (lvLe_c rfl (lvLe_c rfl (lvLe_c rfl lvLe_0))) (lp_own_1_5 (by omega))
theorem lp_own_1_6 {s : Nat} (hs : s ≤ 1) : G E B cX0_ownerOf (RX0, 4, some .int, rmD 1, 0, 0, KM E B (Rp (nI 6) M)) 4 [(0, .int (nI 1)), (2, .int (nI 6)), (3, .int (nI s))] [] M := by
  refine g_iload_n dX0_ownerOf_4 rfl rfl ?_
  refine g_bipush dX0_ownerOf_5 kB_7 ?_
  refine g_icmp_geN (tgt := 55) dX0_ownerOf_7 (by decide) rfl rfl (by omega) (by omega) (fun c_7 => absurd c_7 (by omega)) (fun c_7 => ?_)
  refine g_iload_n dX0_ownerOf_10 rfl rfl ?_
  refine g_iconst dX0_ownerOf_11 kI_0 ?_
  refine g_bipush dX0_ownerOf_12 kB_6 ?_
  refine g_callSNp dX0_ownerOf_14 ms_X6_isWithin mn_X0_43 (ct_X6_isWithinN (by omega) (by omega) (by omega)) rfl rfl (Nat.le_of_ble_eq_true rfl) ⟨lt_r rfl, Nat.le_of_ble_eq_true rfl⟩ ?_
  refine g_if_eqP (tgt := 55) dX0_ownerOf_17 (by decide) (fun c_17 => absurd (by omega) c_17) (fun c_17 => ?_)
  refine g_iload_n dX0_ownerOf_20 rfl rfl ?_
  refine g_iconst dX0_ownerOf_21 kI_0 ?_
  refine g_iconst dX0_ownerOf_22 kI_2 ?_
  refine g_callSNp dX0_ownerOf_23 ms_X6_isWithin mn_X0_43 (ct_X6_isWithinN (by omega) (by omega) (by omega)) rfl rfl (Nat.le_of_ble_eq_true rfl) ⟨lt_r rfl, Nat.le_of_ble_eq_true rfl⟩ ?_
  refine g_if_eqP (tgt := 55) dX0_ownerOf_26 (by decide) (fun c_26 => absurd (by omega) c_26) (fun c_26 => ?_)
  refine g_getBo dX0_ownerOf_29 fw_X0_19 ?_
  refine g_iload_n dX0_ownerOf_32 rfl rfl ?_
  refine g_iconst dX0_ownerOf_33 kI_3 ?_
  refine g_imul dX0_ownerOf_34 (pk_mul _ _) ?_
  refine g_iload_n dX0_ownerOf_35 rfl rfl ?_
  refine g_iadd dX0_ownerOf_36 (nI_add _ _) ?_
  refine g_ialdBo dX0_ownerOf_37 rfl (by omega) ((by decide : fBo (6 * 3 + 1) = nI 71)) ?_
  refine g_if_eqN (tgt := 43) dX0_ownerOf_38 (by decide) rfl (by omega) (fun c_38 => absurd c_38 (by omega)) (fun c_38 => ?_)
  refine g_iload_n dX0_ownerOf_41 rfl rfl ?_
  refine g_iret dX0_ownerOf_42 ⟨_, rfl, ?_⟩
  exact ⟨rfl, rfl⟩
theorem ct_own_1_6 : Ct E B yX0_ownerOf cX0_ownerOf 4 (some .int) 1 [.int (nI 1), .int (nI 6)] M (Rp (nI 6) M) := by
  refine Ct.of2 (own := RX0) (lv := [(0, .int (nI 1)), (1, .int (nI 6))]) pn_X0 rfl (Nat.le_of_ble_eq_true rfl) rfl ?_
  refine g_iload_n dX0_ownerOf_0 rfl rfl ?_
  refine g_istore_n dX0_ownerOf_1 rfl (lt_r rfl) rfl ?_
  refine g_iconst dX0_ownerOf_2 kI_0 ?_
  refine g_istore_n dX0_ownerOf_3 rfl (lt_r rfl) rfl ?_
  exact g_le (lvLe_c rfl (lvLe_c rfl (lvLe_c rfl lvLe_0))) (lp_own_1_6 (by omega))
theorem lp_own_2_0 {s : Nat} (hs : s ≤ 3) : G E B cX0_ownerOf (RX0, 4, some .int, rmD 1, 0, 0, KM E B (Rp (nI 0) M)) 4 [(0, .int (nI 2)), (2, .int (nI 0)), (3, .int (nI s))] [] M := by
  refine g_iload_n dX0_ownerOf_4 rfl rfl ?_
  refine g_bipush dX0_ownerOf_5 kB_7 ?_
  refine g_icmp_geN (tgt := 55) dX0_ownerOf_7 (by decide) rfl rfl (by omega) (by omega) (fun c_7 => absurd c_7 (by omega)) (fun c_7 => ?_)
  refine g_iload_n dX0_ownerOf_10 rfl rfl ?_
  refine g_iconst dX0_ownerOf_11 kI_0 ?_
  refine g_bipush dX0_ownerOf_12 kB_6 ?_
  refine g_callSNp dX0_ownerOf_14 ms_X6_isWithin mn_X0_43 (ct_X6_isWithinN (by omega) (by omega) (by omega)) rfl rfl (Nat.le_of_ble_eq_true rfl) ⟨lt_r rfl, Nat.le_of_ble_eq_true rfl⟩ ?_
  refine g_if_eqP (tgt := 55) dX0_ownerOf_17 (by decide) (fun c_17 => absurd (by omega) c_17) (fun c_17 => ?_)
  refine g_iload_n dX0_ownerOf_20 rfl rfl ?_
  refine g_iconst dX0_ownerOf_21 kI_0 ?_
  refine g_iconst dX0_ownerOf_22 kI_2 ?_
  refine g_callSNp dX0_ownerOf_23 ms_X6_isWithin mn_X0_43 (ct_X6_isWithinN (by omega) (by omega) (by omega)) rfl rfl (Nat.le_of_ble_eq_true rfl) ⟨lt_r rfl, Nat.le_of_ble_eq_true rfl⟩ ?_
  refine g_if_eqP (tgt := 55) dX0_ownerOf_26 (by decide) (fun c_26 => absurd (by omega) c_26) (fun c_26 => ?_)
  refine g_getBo dX0_ownerOf_29 fw_X0_19 ?_
  refine g_iload_n dX0_ownerOf_32 rfl rfl ?_
  refine g_iconst dX0_ownerOf_33 kI_3 ?_
  refine g_imul dX0_ownerOf_34 (pk_mul _ _) ?_
  refine g_iload_n dX0_ownerOf_35 rfl rfl ?_
  refine g_iadd dX0_ownerOf_36 (nI_add _ _) ?_
  refine g_ialdBo dX0_ownerOf_37 rfl (by omega) ((by decide : fBo (0 * 3 + 2) = nI 12)) ?_
  refine g_if_eqN (tgt := 43) dX0_ownerOf_38 (by decide) rfl (by omega) (fun c_38 => absurd c_38 (by omega)) (fun c_38 => ?_)
  refine g_iload_n dX0_ownerOf_41 rfl rfl ?_
  refine g_iret dX0_ownerOf_42 ⟨_, rfl, ?_⟩
  exact ⟨rfl, rfl⟩
theorem ct_own_2_0 : Ct E B yX0_ownerOf cX0_ownerOf 4 (some .int) 1 [.int (nI 2), .int (nI 0)] M (Rp (nI 0) M) := by
  refine Ct.of2 (own := RX0) (lv := [(0, .int (nI 2)), (1, .int (nI 0))]) pn_X0 rfl (Nat.le_of_ble_eq_true rfl) rfl ?_
  refine g_iload_n dX0_ownerOf_0 rfl rfl ?_
  refine g_istore_n dX0_ownerOf_1 rfl (lt_r rfl) rfl ?_
  refine g_iconst dX0_ownerOf_2 kI_0 ?_
  refine g_istore_n dX0_ownerOf_3 rfl (lt_r rfl) rfl ?_
  exact g_le (lvLe_c rfl (lvLe_c rfl (lvLe_c rfl lvLe_0))) (lp_own_2_0 (by omega))
theorem lp_own_2_1 {s : Nat} (hs : s ≤ 2) : G E B cX0_ownerOf (RX0, 4, some .int, rmD 1, 0, 0, KM E B (Rp (nI 0) M)) 4 [(0, .int (nI 2)), (2, .int (nI 1)), (3, .int (nI s))] [] M := by
  refine g_iload_n dX0_ownerOf_4 rfl rfl ?_
  refine g_bipush dX0_ownerOf_5 kB_7 ?_
  refine g_icmp_geN (tgt := 55) dX0_ownerOf_7 (by decide) rfl rfl (by omega) (by omega) (fun c_7 => absurd c_7 (by omega)) (fun c_7 => ?_)
  refine g_iload_n dX0_ownerOf_10 rfl rfl ?_
  refine g_iconst dX0_ownerOf_11 kI_0 ?_
  refine g_bipush dX0_ownerOf_12 kB_6 ?_
  refine g_callSNp dX0_ownerOf_14 ms_X6_isWithin mn_X0_43 (ct_X6_isWithinN (by omega) (by omega) (by omega)) rfl rfl (Nat.le_of_ble_eq_true rfl) ⟨lt_r rfl, Nat.le_of_ble_eq_true rfl⟩ ?_
  refine g_if_eqP (tgt := 55) dX0_ownerOf_17 (by decide) (fun c_17 => absurd (by omega) c_17) (fun c_17 => ?_)
  refine g_iload_n dX0_ownerOf_20 rfl rfl ?_
  refine g_iconst dX0_ownerOf_21 kI_0 ?_
  refine g_iconst dX0_ownerOf_22 kI_2 ?_
  refine g_callSNp dX0_ownerOf_23 ms_X6_isWithin mn_X0_43 (ct_X6_isWithinN (by omega) (by omega) (by omega)) rfl rfl (Nat.le_of_ble_eq_true rfl) ⟨lt_r rfl, Nat.le_of_ble_eq_true rfl⟩ ?_
  refine g_if_eqP (tgt := 55) dX0_ownerOf_26 (by decide) (fun c_26 => absurd (by omega) c_26) (fun c_26 => ?_)
  refine g_getBo dX0_ownerOf_29 fw_X0_19 ?_
  refine g_iload_n dX0_ownerOf_32 rfl rfl ?_
  refine g_iconst dX0_ownerOf_33 kI_3 ?_
  refine g_imul dX0_ownerOf_34 (pk_mul _ _) ?_
  refine g_iload_n dX0_ownerOf_35 rfl rfl ?_
  refine g_iadd dX0_ownerOf_36 (nI_add _ _) ?_
  refine g_ialdBo dX0_ownerOf_37 rfl (by omega) ((by decide : fBo (1 * 3 + 2) = nI 0)) ?_
  refine g_if_eqN (tgt := 43) dX0_ownerOf_38 (by decide) rfl (by omega) (fun c_38 => ?_) (fun c_38 => absurd c_38 (by omega))
  refine g_getAb dX0_ownerOf_43 fn_X0_26 ?_
  refine g_iload_n dX0_ownerOf_46 rfl rfl ?_
  refine g_ialdAb dX0_ownerOf_47 rfl (by omega) ((by decide : fAb 1 = nI 0)) ?_
  refine g_istore_n dX0_ownerOf_48 rfl (lt_r rfl) rfl ?_
  refine g_iinc dX0_ownerOf_49 rfl (inc_nI _) rfl ?_
  exact g_goto (tgt := 4) dX0_ownerOf_52 (by decide) (g_le (lvLe_c rfl (lvLe_c rfl (lvLe_c rfl lvLe_0))) (lp_own_2_0 (by omega)))
theorem ct_own_2_1 : Ct E B yX0_ownerOf cX0_ownerOf 4 (some .int) 1 [.int (nI 2), .int (nI 1)] M (Rp (nI 0) M) := by
  refine Ct.of2 (own := RX0) (lv := [(0, .int (nI 2)), (1, .int (nI 1))]) pn_X0 rfl (Nat.le_of_ble_eq_true rfl) rfl ?_
  refine g_iload_n dX0_ownerOf_0 rfl rfl ?_
  refine g_istore_n dX0_ownerOf_1 rfl (lt_r rfl) rfl ?_
  refine g_iconst dX0_ownerOf_2 kI_0 ?_
  refine g_istore_n dX0_ownerOf_3 rfl (lt_r rfl) rfl ?_
  exact g_le (lvLe_c rfl (lvLe_c rfl (lvLe_c rfl lvLe_0))) (lp_own_2_1 (by omega))
theorem lp_own_2_2 {s : Nat} (hs : s ≤ 2) : G E B cX0_ownerOf (RX0, 4, some .int, rmD 1, 0, 0, KM E B (Rp (nI 0) M)) 4 [(0, .int (nI 2)), (2, .int (nI 2)), (3, .int (nI s))] [] M := by
  refine g_iload_n dX0_ownerOf_4 rfl rfl ?_
  refine g_bipush dX0_ownerOf_5 kB_7 ?_
  refine g_icmp_geN (tgt := 55) dX0_ownerOf_7 (by decide) rfl rfl (by omega) (by omega) (fun c_7 => absurd c_7 (by omega)) (fun c_7 => ?_)
  refine g_iload_n dX0_ownerOf_10 rfl rfl ?_
  refine g_iconst dX0_ownerOf_11 kI_0 ?_
  refine g_bipush dX0_ownerOf_12 kB_6 ?_
  refine g_callSNp dX0_ownerOf_14 ms_X6_isWithin mn_X0_43 (ct_X6_isWithinN (by omega) (by omega) (by omega)) rfl rfl (Nat.le_of_ble_eq_true rfl) ⟨lt_r rfl, Nat.le_of_ble_eq_true rfl⟩ ?_
  refine g_if_eqP (tgt := 55) dX0_ownerOf_17 (by decide) (fun c_17 => absurd (by omega) c_17) (fun c_17 => ?_)
  refine g_iload_n dX0_ownerOf_20 rfl rfl ?_
  refine g_iconst dX0_ownerOf_21 kI_0 ?_
  refine g_iconst dX0_ownerOf_22 kI_2 ?_
  refine g_callSNp dX0_ownerOf_23 ms_X6_isWithin mn_X0_43 (ct_X6_isWithinN (by omega) (by omega) (by omega)) rfl rfl (Nat.le_of_ble_eq_true rfl) ⟨lt_r rfl, Nat.le_of_ble_eq_true rfl⟩ ?_
  refine g_if_eqP (tgt := 55) dX0_ownerOf_26 (by decide) (fun c_26 => absurd (by omega) c_26) (fun c_26 => ?_)
  refine g_getBo dX0_ownerOf_29 fw_X0_19 ?_
  refine g_iload_n dX0_ownerOf_32 rfl rfl ?_
  refine g_iconst dX0_ownerOf_33 kI_3 ?_
  refine g_imul dX0_ownerOf_34 (pk_mul _ _) ?_
  refine g_iload_n dX0_ownerOf_35 rfl rfl ?_
  refine g_iadd dX0_ownerOf_36 (nI_add _ _) ?_
  refine g_ialdBo dX0_ownerOf_37 rfl (by omega) ((by decide : fBo (2 * 3 + 2) = nI 0)) ?_
  refine g_if_eqN (tgt := 43) dX0_ownerOf_38 (by decide) rfl (by omega) (fun c_38 => ?_) (fun c_38 => absurd c_38 (by omega))
  refine g_getAb dX0_ownerOf_43 fn_X0_26 ?_
  refine g_iload_n dX0_ownerOf_46 rfl rfl ?_
  refine g_ialdAb dX0_ownerOf_47 rfl (by omega) ((by decide : fAb 2 = nI 0)) ?_
  refine g_istore_n dX0_ownerOf_48 rfl (lt_r rfl) rfl ?_
  refine g_iinc dX0_ownerOf_49 rfl (inc_nI _) rfl ?_
  exact g_goto (tgt := 4) dX0_ownerOf_52 (by decide) (g_le (lvLe_c rfl (lvLe_c rfl (lvLe_c rfl lvLe_0))) (lp_own_2_0 (by omega)))
theorem ct_own_2_2 : Ct E B yX0_ownerOf cX0_ownerOf 4 (some .int) 1 [.int (nI 2), .int (nI 2)] M (Rp (nI 0) M) := by
  refine Ct.of2 (own := RX0) (lv := [(0, .int (nI 2)), (1, .int (nI 2))]) pn_X0 rfl (Nat.le_of_ble_eq_true rfl) rfl ?_
  refine g_iload_n dX0_ownerOf_0 rfl rfl ?_
  refine g_istore_n dX0_ownerOf_1 rfl (lt_r rfl) rfl ?_
  refine g_iconst dX0_ownerOf_2 kI_0 ?_
  refine g_istore_n dX0_ownerOf_3 rfl (lt_r rfl) rfl ?_
  exact g_le (lvLe_c rfl (lvLe_c rfl (lvLe_c rfl lvLe_0))) (lp_own_2_2 (by omega))
theorem lp_own_2_3 {s : Nat} (hs : s ≤ 1) : G E B cX0_ownerOf (RX0, 4, some .int, rmD 1, 0, 0, KM E B (Rp (nI 0) M)) 4 [(0, .int (nI 2)), (2, .int (nI 3)), (3, .int (nI s))] [] M := by
  refine g_iload_n dX0_ownerOf_4 rfl rfl ?_
  refine g_bipush dX0_ownerOf_5 kB_7 ?_
  refine g_icmp_geN (tgt := 55) dX0_ownerOf_7 (by decide) rfl rfl (by omega) (by omega) (fun c_7 => absurd c_7 (by omega)) (fun c_7 => ?_)
  refine g_iload_n dX0_ownerOf_10 rfl rfl ?_
  refine g_iconst dX0_ownerOf_11 kI_0 ?_
  refine g_bipush dX0_ownerOf_12 kB_6 ?_
  refine g_callSNp dX0_ownerOf_14 ms_X6_isWithin mn_X0_43 (ct_X6_isWithinN (by omega) (by omega) (by omega)) rfl rfl (Nat.le_of_ble_eq_true rfl) ⟨lt_r rfl, Nat.le_of_ble_eq_true rfl⟩ ?_
  refine g_if_eqP (tgt := 55) dX0_ownerOf_17 (by decide) (fun c_17 => absurd (by omega) c_17) (fun c_17 => ?_)
  refine g_iload_n dX0_ownerOf_20 rfl rfl ?_
  refine g_iconst dX0_ownerOf_21 kI_0 ?_
  refine g_iconst dX0_ownerOf_22 kI_2 ?_
  refine g_callSNp dX0_ownerOf_23 ms_X6_isWithin mn_X0_43 (ct_X6_isWithinN (by omega) (by omega) (by omega)) rfl rfl (Nat.le_of_ble_eq_true rfl) ⟨lt_r rfl, Nat.le_of_ble_eq_true rfl⟩ ?_
  refine g_if_eqP (tgt := 55) dX0_ownerOf_26 (by decide) (fun c_26 => absurd (by omega) c_26) (fun c_26 => ?_)
  refine g_getBo dX0_ownerOf_29 fw_X0_19 ?_
  refine g_iload_n dX0_ownerOf_32 rfl rfl ?_
  refine g_iconst dX0_ownerOf_33 kI_3 ?_
  refine g_imul dX0_ownerOf_34 (pk_mul _ _) ?_
  refine g_iload_n dX0_ownerOf_35 rfl rfl ?_
  refine g_iadd dX0_ownerOf_36 (nI_add _ _) ?_
  refine g_ialdBo dX0_ownerOf_37 rfl (by omega) ((by decide : fBo (3 * 3 + 2) = nI 0)) ?_
  refine g_if_eqN (tgt := 43) dX0_ownerOf_38 (by decide) rfl (by omega) (fun c_38 => ?_) (fun c_38 => absurd c_38 (by omega))
  refine g_getAb dX0_ownerOf_43 fn_X0_26 ?_
  refine g_iload_n dX0_ownerOf_46 rfl rfl ?_
  refine g_ialdAb dX0_ownerOf_47 rfl (by omega) ((by decide : fAb 3 = nI 1)) ?_
  refine g_istore_n dX0_ownerOf_48 rfl (lt_r rfl) rfl ?_
  refine g_iinc dX0_ownerOf_49 rfl (inc_nI _) rfl ?_
  exact g_goto (tgt := 4) dX0_ownerOf_52 (by decide) (g_le (lvLe_c rfl (lvLe_c rfl (lvLe_c rfl lvLe_0))) (lp_own_2_1 (by omega)))
theorem ct_own_2_3 : Ct E B yX0_ownerOf cX0_ownerOf 4 (some .int) 1 [.int (nI 2), .int (nI 3)] M (Rp (nI 0) M) := by
  refine Ct.of2 (own := RX0) (lv := [(0, .int (nI 2)), (1, .int (nI 3))]) pn_X0 rfl (Nat.le_of_ble_eq_true rfl) rfl ?_
  refine g_iload_n dX0_ownerOf_0 rfl rfl ?_
  refine g_istore_n dX0_ownerOf_1 rfl (lt_r rfl) rfl ?_
  refine g_iconst dX0_ownerOf_2 kI_0 ?_
  refine g_istore_n dX0_ownerOf_3 rfl (lt_r rfl) rfl ?_
  exact g_le (lvLe_c rfl (lvLe_c rfl (lvLe_c rfl lvLe_0))) (lp_own_2_3 (by omega))
theorem lp_own_2_4 {s : Nat} (hs : s ≤ 2) : G E B cX0_ownerOf (RX0, 4, some .int, rmD 1, 0, 0, KM E B (Rp (nI 4) M)) 4 [(0, .int (nI 2)), (2, .int (nI 4)), (3, .int (nI s))] [] M := by
  refine g_iload_n dX0_ownerOf_4 rfl rfl ?_
  refine g_bipush dX0_ownerOf_5 kB_7 ?_
  refine g_icmp_geN (tgt := 55) dX0_ownerOf_7 (by decide) rfl rfl (by omega) (by omega) (fun c_7 => absurd c_7 (by omega)) (fun c_7 => ?_)
  refine g_iload_n dX0_ownerOf_10 rfl rfl ?_
  refine g_iconst dX0_ownerOf_11 kI_0 ?_
  refine g_bipush dX0_ownerOf_12 kB_6 ?_
  refine g_callSNp dX0_ownerOf_14 ms_X6_isWithin mn_X0_43 (ct_X6_isWithinN (by omega) (by omega) (by omega)) rfl rfl (Nat.le_of_ble_eq_true rfl) ⟨lt_r rfl, Nat.le_of_ble_eq_true rfl⟩ ?_
  refine g_if_eqP (tgt := 55) dX0_ownerOf_17 (by decide) (fun c_17 => absurd (by omega) c_17) (fun c_17 => ?_)
  refine g_iload_n dX0_ownerOf_20 rfl rfl ?_
  refine g_iconst dX0_ownerOf_21 kI_0 ?_
  refine g_iconst dX0_ownerOf_22 kI_2 ?_
  refine g_callSNp dX0_ownerOf_23 ms_X6_isWithin mn_X0_43 (ct_X6_isWithinN (by omega) (by omega) (by omega)) rfl rfl (Nat.le_of_ble_eq_true rfl) ⟨lt_r rfl, Nat.le_of_ble_eq_true rfl⟩ ?_
  refine g_if_eqP (tgt := 55) dX0_ownerOf_26 (by decide) (fun c_26 => absurd (by omega) c_26) (fun c_26 => ?_)
  refine g_getBo dX0_ownerOf_29 fw_X0_19 ?_
  refine g_iload_n dX0_ownerOf_32 rfl rfl ?_
  refine g_iconst dX0_ownerOf_33 kI_3 ?_
  refine g_imul dX0_ownerOf_34 (pk_mul _ _) ?_
  refine g_iload_n dX0_ownerOf_35 rfl rfl ?_
  refine g_iadd dX0_ownerOf_36 (nI_add _ _) ?_
  refine g_ialdBo dX0_ownerOf_37 rfl (by omega) ((by decide : fBo (4 * 3 + 2) = nI 50)) ?_
  refine g_if_eqN (tgt := 43) dX0_ownerOf_38 (by decide) rfl (by omega) (fun c_38 => absurd c_38 (by omega)) (fun c_38 => ?_)
  refine g_iload_n dX0_ownerOf_41 rfl rfl ?_
  refine g_iret dX0_ownerOf_42 ⟨_, rfl, ?_⟩
  exact ⟨rfl, rfl⟩
theorem ct_own_2_4 : Ct E B yX0_ownerOf cX0_ownerOf 4 (some .int) 1 [.int (nI 2), .int (nI 4)] M (Rp (nI 4) M) := by
  refine Ct.of2 (own := RX0) (lv := [(0, .int (nI 2)), (1, .int (nI 4))]) pn_X0 rfl (Nat.le_of_ble_eq_true rfl) rfl ?_
  refine g_iload_n dX0_ownerOf_0 rfl rfl ?_
  refine g_istore_n dX0_ownerOf_1 rfl (lt_r rfl) rfl ?_
  refine g_iconst dX0_ownerOf_2 kI_0 ?_
  refine g_istore_n dX0_ownerOf_3 rfl (lt_r rfl) rfl ?_
  exact g_le (lvLe_c rfl (lvLe_c rfl (lvLe_c rfl lvLe_0))) (lp_own_2_4 (by omega))
theorem lp_own_2_5 {s : Nat} (hs : s ≤ 1) : G E B cX0_ownerOf (RX0, 4, some .int, rmD 1, 0, 0, KM E B (Rp (nI 5) M)) 4 [(0, .int (nI 2)), (2, .int (nI 5)), (3, .int (nI s))] [] M := by
  refine g_iload_n dX0_ownerOf_4 rfl rfl ?_
  refine g_bipush dX0_ownerOf_5 kB_7 ?_
  refine g_icmp_geN (tgt := 55) dX0_ownerOf_7 (by decide) rfl rfl (by omega) (by omega) (fun c_7 => absurd c_7 (by omega)) (fun c_7 => ?_)
  refine g_iload_n dX0_ownerOf_10 rfl rfl ?_
  refine g_iconst dX0_ownerOf_11 kI_0 ?_
  refine g_bipush dX0_ownerOf_12 kB_6 ?_
  refine g_callSNp dX0_ownerOf_14 ms_X6_isWithin mn_X0_43 (ct_X6_isWithinN (by omega) (by omega) (by omega)) rfl rfl (Nat.le_of_ble_eq_true rfl) ⟨lt_r rfl, Nat.le_of_ble_eq_true rfl⟩ ?_
  refine g_if_eqP (tgt := 55) dX0_ownerOf_17 (by decide) (fun c_17 => absurd (by omega) c_17) (fun c_17 => ?_)
  refine g_iload_n dX0_ownerOf_20 rfl rfl ?_
  refine g_iconst dX0_ownerOf_21 kI_0 ?_
  refine g_iconst dX0_ownerOf_22 kI_2 ?_
  refine g_callSNp dX0_ownerOf_23 ms_X6_isWithin mn_X0_43 (ct_X6_isWithinN (by omega) (by omega) (by omega)) rfl rfl (Nat.le_of_ble_eq_true rfl) ⟨lt_r rfl, Nat.le_of_ble_eq_true rfl⟩ ?_
  refine g_if_eqP (tgt := 55) dX0_ownerOf_26 (by decide) (fun c_26 => absurd (by omega) c_26) (fun c_26 => ?_)
  refine g_getBo dX0_ownerOf_29 fw_X0_19 ?_
  refine g_iload_n dX0_ownerOf_32 rfl rfl ?_
  refine g_iconst dX0_ownerOf_33 kI_3 ?_
  refine g_imul dX0_ownerOf_34 (pk_mul _ _) ?_
  refine g_iload_n dX0_ownerOf_35 rfl rfl ?_
  refine g_iadd dX0_ownerOf_36 (nI_add _ _) ?_
  refine g_ialdBo dX0_ownerOf_37 rfl (by omega) ((by decide : fBo (5 * 3 + 2) = nI 60)) ?_
  refine g_if_eqN (tgt := 43) dX0_ownerOf_38 (by decide) rfl (by omega) (fun c_38 => absurd c_38 (by omega)) (fun c_38 => ?_)
  refine g_iload_n dX0_ownerOf_41 rfl rfl ?_
  refine g_iret dX0_ownerOf_42 ⟨_, rfl, ?_⟩
  exact ⟨rfl, rfl⟩
theorem ct_own_2_5 : Ct E B yX0_ownerOf cX0_ownerOf 4 (some .int) 1 [.int (nI 2), .int (nI 5)] M (Rp (nI 5) M) := by
  refine Ct.of2 (own := RX0) (lv := [(0, .int (nI 2)), (1, .int (nI 5))]) pn_X0 rfl (Nat.le_of_ble_eq_true rfl) rfl ?_
  refine g_iload_n dX0_ownerOf_0 rfl rfl ?_
  refine g_istore_n dX0_ownerOf_1 rfl (lt_r rfl) rfl ?_
  refine g_iconst dX0_ownerOf_2 kI_0 ?_
  refine g_istore_n dX0_ownerOf_3 rfl (lt_r rfl) rfl ?_
  exact g_le (lvLe_c rfl (lvLe_c rfl (lvLe_c rfl lvLe_0))) (lp_own_2_5 (by omega))
theorem lp_own_2_6 {s : Nat} (hs : s ≤ 1) : G E B cX0_ownerOf (RX0, 4, some .int, rmD 1, 0, 0, KM E B (Rp (nI 4) M)) 4 [(0, .int (nI 2)), (2, .int (nI 6)), (3, .int (nI s))] [] M := by
  refine g_iload_n dX0_ownerOf_4 rfl rfl ?_
  refine g_bipush dX0_ownerOf_5 kB_7 ?_
  refine g_icmp_geN (tgt := 55) dX0_ownerOf_7 (by decide) rfl rfl (by omega) (by omega) (fun c_7 => absurd c_7 (by omega)) (fun c_7 => ?_)
  refine g_iload_n dX0_ownerOf_10 rfl rfl ?_
  refine g_iconst dX0_ownerOf_11 kI_0 ?_
  refine g_bipush dX0_ownerOf_12 kB_6 ?_
  refine g_callSNp dX0_ownerOf_14 ms_X6_isWithin mn_X0_43 (ct_X6_isWithinN (by omega) (by omega) (by omega)) rfl rfl (Nat.le_of_ble_eq_true rfl) ⟨lt_r rfl, Nat.le_of_ble_eq_true rfl⟩ ?_
  refine g_if_eqP (tgt := 55) dX0_ownerOf_17 (by decide) (fun c_17 => absurd (by omega) c_17) (fun c_17 => ?_)
  refine g_iload_n dX0_ownerOf_20 rfl rfl ?_
  refine g_iconst dX0_ownerOf_21 kI_0 ?_
  refine g_iconst dX0_ownerOf_22 kI_2 ?_
  refine g_callSNp dX0_ownerOf_23 ms_X6_isWithin mn_X0_43 (ct_X6_isWithinN (by omega) (by omega) (by omega)) rfl rfl (Nat.le_of_ble_eq_true rfl) ⟨lt_r rfl, Nat.le_of_ble_eq_true rfl⟩ ?_
  refine g_if_eqP (tgt := 55) dX0_ownerOf_26 (by decide) (fun c_26 => absurd (by omega) c_26) (fun c_26 => ?_)
  refine g_getBo dX0_ownerOf_29 fw_X0_19 ?_
  refine g_iload_n dX0_ownerOf_32 rfl rfl ?_
  refine g_iconst dX0_ownerOf_33 kI_3 ?_
  refine g_imul dX0_ownerOf_34 (pk_mul _ _) ?_
  refine g_iload_n dX0_ownerOf_35 rfl rfl ?_
  refine g_iadd dX0_ownerOf_36 (nI_add _ _) ?_
  refine g_ialdBo dX0_ownerOf_37 rfl (by omega) ((by decide : fBo (6 * 3 + 2) = nI 0)) ?_
  refine g_if_eqN (tgt := 43) dX0_ownerOf_38 (by decide) rfl (by omega) (fun c_38 => ?_) (fun c_38 => absurd c_38 (by omega))
  refine g_getAb dX0_ownerOf_43 fn_X0_26 ?_
  refine g_iload_n dX0_ownerOf_46 rfl rfl ?_
  refine g_ialdAb dX0_ownerOf_47 rfl (by omega) ((by decide : fAb 6 = nI 4)) ?_
  refine g_istore_n dX0_ownerOf_48 rfl (lt_r rfl) rfl ?_
  refine g_iinc dX0_ownerOf_49 rfl (inc_nI _) rfl ?_
  exact g_goto (tgt := 4) dX0_ownerOf_52 (by decide) (g_le (lvLe_c rfl (lvLe_c rfl (lvLe_c rfl lvLe_0))) (lp_own_2_4 (by omega)))
theorem ct_own_2_6 : Ct E B yX0_ownerOf cX0_ownerOf 4 (some .int) 1 [.int (nI 2), .int (nI 6)] M (Rp (nI 4) M) := by
  refine Ct.of2 (own := RX0) (lv := [(0, .int (nI 2)), (1, .int (nI 6))]) pn_X0 rfl (Nat.le_of_ble_eq_true rfl) rfl ?_
  refine g_iload_n dX0_ownerOf_0 rfl rfl ?_
  refine g_istore_n dX0_ownerOf_1 rfl (lt_r rfl) rfl ?_
  refine g_iconst dX0_ownerOf_2 kI_0 ?_
  refine g_istore_n dX0_ownerOf_3 rfl (lt_r rfl) rfl ?_
  exact g_le (lvLe_c rfl (lvLe_c rfl (lvLe_c rfl lvLe_0))) (lp_own_2_6 (by omega))
end ACT
