/-! plate: the call -/
def platR (y : Sys) (d s c : Nat) : Nat × (Nat → Nat) := ordR (platW y d s c) (sCn (yN y)) 120 (fun i => i) (0, fun i => i)
def o_plate (y : Sys) (d s c w : Int32) : Int32 × Sys :=
  if ¬ w = -1 ∧ ¬ inB' y w then rz y 5 else if ¬ (dOk d s c ∧ sCn (yN y) ≤ 5) then rz y 6 else
  (if w = -1 then bI (platR y (tn d) (tn s) (tn c)).1 else nI ((platR y (tn d) (tn s) (tn c)).2 (tn w)), y)
theorem ordS_pos {W : Nat → Nat → Nat} {n : Nat} {f : Nat → Nat} {st : Nat × (Nat → Nat)} : ¬ (ordS W n f st).1 = 0 := by
  unfold ordS
  split
  · exact Nat.succ_ne_zero _
  · show ¬ st.1 = 0; omega
theorem ordR_pos {W : Nat → Nat → Nat} {n : Nat} : ∀ (m : Nat) (f : Nat → Nat) (st : Nat × (Nat → Nat)), (m = 0 → ¬ st.1 = 0) → ¬ (ordR W n m f st).1 = 0
  | 0, _, _, h => h rfl
  | m + 1, f, st, _ => by
    by_cases hz : (nextF n f).1 = true
    · rw [ordR_t hz]; exact ordR_pos m _ _ (fun _ => ordS_pos)
    · rw [ordR_n hz]; exact ordS_pos
section X6Q
variable {E : EE} {B : Nat} {M : MM} {k : Nat}
theorem lp_id {n : Nat} {M0 : MM} {W : Nat → Nat → Nat} (hn : n ≤ 5) (hW : ∀ p q, p < n → q < n → W p q ≤ 1188) (hT : PT B M0 W n n 0) : ∀ (m i : Nat), m + i = n → ∀ M', (∀ j, j < i → M'.1 (B + 62) j = nI j) → Sm B M0 M' 62 64 →
    G E B cX6_findBestOrder (RX6, 7, some .int, rmD 4, 0, 0, KM E B (KB B M0 n (ordR W n 120 (fun i => i) (0, fun i => i)))) 10 [(0, .ref (B + 0)), (1, .int (nI n)), (2, .int (nI i))] [] M' := by
  intro m
  induction m with
  | zero =>
    intro i h1 M' hI hS
    refine g_iload_n dX6_findBestOrder_10 rfl rfl ?_
    refine g_iload_n dX6_findBestOrder_11 rfl rfl ?_
    refine g_icmp_geN (tgt := 28) dX6_findBestOrder_12 (by decide) rfl rfl (by omega) (by omega) (fun c_12 => ?_) (fun c_12 => absurd c_12 (by omega))
    refine g_iconst dX6_findBestOrder_28 kI_m1 ?_
    refine g_istore_n dX6_findBestOrder_29 rfl (lt_r rfl) rfl ?_
    refine g_iconst dX6_findBestOrder_30 kI_1 ?_
    refine g_istore_n dX6_findBestOrder_31 rfl (lt_r rfl) rfl ?_
    refine g_iconst dX6_findBestOrder_32 kI_0 ?_
    refine g_istore dX6_findBestOrder_33 (lt_r rfl) rfl ?_
    exact g_le (lvLe_c rfl (lvLe_c rfl (lvLe_c rfl (lvLe_c rfl (lvLe_c rfl lvLe_0))))) (lp_ord (R := ordR W n 120 (fun i => i) (0, fun i => i)) hn hW hT 120 0 (fun i => i) (0, fun i => i) rfl rfl (fun i hi => hi) (by decide) M' (fun j hj => hI j (by omega)) (fun z => absurd rfl z) hS)
  | succ m ih =>
    intro i h1 M' hI hS
    refine g_iload_n dX6_findBestOrder_10 rfl rfl ?_
    refine g_iload_n dX6_findBestOrder_11 rfl rfl ?_
    refine g_icmp_geN (tgt := 28) dX6_findBestOrder_12 (by decide) rfl rfl (by omega) (by omega) (fun c_12 => absurd c_12 (by omega)) (fun c_12 => ?_)
    refine g_aload_n dX6_findBestOrder_15 rfl rfl ?_
    refine g_getR dX6_findBestOrder_16 fl_X6_68 rfl rfl ?_
    refine g_iload_n dX6_findBestOrder_19 rfl rfl ?_
    refine g_iload_n dX6_findBestOrder_20 rfl rfl ?_
    refine g_iast dX6_findBestOrder_21 rfl rfl (by omega) ?_
    refine g_iinc dX6_findBestOrder_22 rfl (inc_nI _) rfl ?_
    refine g_goto (tgt := 10) dX6_findBestOrder_25 (by decide) ?_
    exact g_le (lvLe_c rfl (lvLe_c rfl (lvLe_c rfl lvLe_0))) (ih (i + 1) (by omega) _ (fun j hj => by
      by_cases e : j = i
      · subst e; exact upI_s
      · rw [upI_k e]; exact hI j (by omega)) (Sm.tr hS (Sm.pI (by omega) (by omega))))
theorem ct_bestOrd {y : Sys} {W : Nat → Nat → Nat} (hY : RY B M y) (hn : sCn (yN y) ≤ 5) (hW : ∀ p q, p < sCn (yN y) → q < sCn (yN y) → W p q ≤ 1188) (hT : PT B M W (sCn (yN y)) (sCn (yN y)) 0) : Ct E B yX6_findBestOrder cX6_findBestOrder 7 (some .int) 4 [.ref (B + 0)] M (KB B M (sCn (yN y)) (ordR W (sCn (yN y)) 120 (fun i => i) (0, fun i => i))) := by
  refine Ct.of2 (own := RX6) (lv := [(0, .ref (B + 0))]) pn_X6 rfl (Nat.le_of_ble_eq_true rfl) rfl ?_
  refine g_aload_n dX6_findBestOrder_0 rfl rfl ?_
  refine g_getR dX6_findBestOrder_1 fl_X6_18 rfl rfl ?_
  refine g_getI dX6_findBestOrder_4 fl_X6_270 isS_2.1 rfl (hY.2.1.2.2.1) ?_
  refine g_istore_n dX6_findBestOrder_7 rfl (lt_r rfl) rfl ?_
  refine g_iconst dX6_findBestOrder_8 kI_0 ?_
  refine g_istore_n dX6_findBestOrder_9 rfl (lt_r rfl) rfl ?_
  exact g_le (lvLe_c rfl (lvLe_c rfl (lvLe_c rfl lvLe_0))) (lp_id hn hW hT (sCn (yN y)) 0 rfl M (fun j hj => absurd hj (Nat.not_lt_zero j)) Sm.rf)
theorem cx_plate {y : Sys} {d s c w : Int32} (h : RY B M y) (ho : okY y) : Ct E B yX6_plate cX6_plate 6 (some .int) 6 [.ref (B + 0), .int d, .int s, .int c, .int w] M (QY B M (o_plate y d s c w)) := by
  have hcn := ho.2.1.2.2.1
  refine Ct.of2 (own := RX6) (lv := [(0, .ref (B + 0)), (1, .int d), (2, .int s), (3, .int c), (4, .int w)]) pn_X6 rfl (Nat.le_of_ble_eq_true rfl) rfl ?_
  refine g_iload dX6_plate_0 rfl ?_
  refine g_iconst dX6_plate_2 kI_m1 ?_
  refine g_icmp_eq (tgt := 24) dX6_plate_3 (by decide) (fun c_3 => ?_) (fun c_3 => ?_)
  · refine g_iload_n dX6_plate_24 rfl rfl ?_
    refine g_iload_n dX6_plate_25 rfl rfl ?_
    refine g_iload_n dX6_plate_26 rfl rfl ?_
    refine g_callSp dX6_plate_27 ms_X6_mayBeDunk ml_X6_227 (ct_X6_mayBeDunk) rfl rfl (Nat.le_of_ble_eq_true rfl) ⟨lt_r rfl, Nat.le_of_ble_eq_true rfl⟩ ?_
    refine g_if_eqP (tgt := 44) dX6_plate_30 (by decide) (fun c_30 => ?_) (fun c_30 => ?_)
    · refine g_aload_n dX6_plate_44 rfl rfl ?_
      refine g_bipush dX6_plate_45 kB_6 ?_
      refine g_callVi dX6_plate_47 mi_X6_refused ml_X6_83 (ct_X6_refused h ho (by decide) (by decide)) rfl rfl rfl rfl (Nat.le_of_ble_eq_true rfl) ⟨lt_r rfl, Nat.le_of_ble_eq_true rfl⟩ (fun x47 M47 h47 => ?_)
      refine g_iret dX6_plate_50 ⟨_, rfl, ?_⟩
      exact QY.rf ho (by unfold o_plate; rw [if_neg (fun z => by first | exact z.1 c_3 | exact z.2 c_15), if_pos (fun z => by first | exact c_30 z.1 | (have := z.2; omega))]) h47
    · refine g_aload_n dX6_plate_33 rfl rfl ?_
      refine g_getR dX6_plate_34 fl_X6_18 rfl rfl ?_
      refine g_getI dX6_plate_37 fl_X6_270 isS_2.1 rfl (h.2.1.2.2.1) ?_
      refine g_iconst dX6_plate_40 kI_5 ?_
      refine g_icmp_leN (tgt := 51) dX6_plate_41 (by decide) rfl rfl (by omega) (by omega) (fun c_41 => ?_) (fun c_41 => ?_)
      · have e9 : o_plate y d s c w = _ := (if_neg (fun z => by first | exact z.1 c_3 | exact z.2 c_15)).trans (if_neg (fun z => z ⟨c_30, c_41⟩))
        rw [e9]
        obtain ⟨z2, z3, z4⟩ := c_30
        obtain ⟨d', -, hd, rfl, f2⟩ := btw_n (by decide) (by decide) z2
        obtain ⟨s', -, hs, rfl, f3⟩ := btw_n (by decide) (by decide) z3
        obtain ⟨c', -, hc, rfl, f4⟩ := btw_n (by decide) (by decide) z4
        rw [f2, f3, f4]
        refine g_aload_n dX6_plate_51 rfl rfl ?_
        refine g_iload_n dX6_plate_52 rfl rfl ?_
        refine g_iload_n dX6_plate_53 rfl rfl ?_
        refine g_iload_n dX6_plate_54 rfl rfl ?_
        refine g_callVv dX6_plate_55 mi_X6_fillPlateWorths ml_X6_273 (ct_fill h ho c_41 hd hs hc) rfl rfl rfl rfl (Nat.le_of_ble_eq_true rfl) ⟨lt_r rfl, Nat.le_of_ble_eq_true rfl⟩ (fun M55 h55 => ?_)
        obtain ⟨q1, q2⟩ := h55
        have hY2 := h.sc ho q2
        refine g_aload_n dX6_plate_58 rfl rfl ?_
        refine g_callVi dX6_plate_59 mi_X6_findBestOrder ml_X6_277 (ct_bestOrd (W := platW y d' s' c') hY2 c_41 (fun p q hp hq => wr_le ho (dunk_ok (ho.2.1.1 q hq)).1.2.2.1) q1) rfl rfl rfl rfl (Nat.le_of_ble_eq_true rfl) ⟨lt_r rfl, Nat.le_of_ble_eq_true rfl⟩ (fun x59 M59 h59 => ?_)
        obtain ⟨r1, r2, r3⟩ := h59
        have hpos : ¬ (platR y d' s' c').1 = 0 := ordR_pos 120 _ _ (fun z => by cases z)
        have hSc := q2.tr (Sc.s r3 (by omega))
        refine g_istore dX6_plate_62 (lt_r rfl) rfl ?_
        refine g_iload dX6_plate_64 rfl ?_
        refine g_iconst dX6_plate_66 kI_m1 ?_
        refine g_icmp_ne (tgt := 75) dX6_plate_67 (by decide) (fun c_67 => ?_) (fun c_67 => ?_)
        · obtain ⟨q, hq, rfl, f5⟩ := in_b hcn (show 0 ≤ w ∧ w < nI (sCn (yN y)) from by first | exact c_15 | exact absurd c_3 c_67)
          refine g_aload_n dX6_plate_75 rfl rfl ?_
          refine g_getR dX6_plate_76 fl_X6_71 rfl rfl ?_
          refine g_iload dX6_plate_79 rfl ?_
          refine g_iald dX6_plate_81 rfl rfl (by omega) (r2 hpos q hq) ?_
          refine g_iret dX6_plate_82 ⟨_, rfl, ?_⟩
          first | exact QY.s h ho hSc (by rw [if_neg c_67, f5]; rfl) | exact QY.s h ho hSc (by rw [if_pos c_67, r1]; rfl)
        · refine g_iload dX6_plate_70 rfl ?_
          refine g_goto (tgt := 82) dX6_plate_72 (by decide) ?_
          refine g_iret dX6_plate_82 ⟨_, rfl, ?_⟩
          first | exact QY.s h ho hSc (by rw [if_neg c_67, f5]; rfl) | exact QY.s h ho hSc (by rw [if_pos c_67, r1]; rfl)
      · refine g_aload_n dX6_plate_44 rfl rfl ?_
        refine g_bipush dX6_plate_45 kB_6 ?_
        refine g_callVi dX6_plate_47 mi_X6_refused ml_X6_83 (ct_X6_refused h ho (by decide) (by decide)) rfl rfl rfl rfl (Nat.le_of_ble_eq_true rfl) ⟨lt_r rfl, Nat.le_of_ble_eq_true rfl⟩ (fun x47 M47 h47 => ?_)
        refine g_iret dX6_plate_50 ⟨_, rfl, ?_⟩
        exact QY.rf ho (by unfold o_plate; rw [if_neg (fun z => by first | exact z.1 c_3 | exact z.2 c_15), if_pos (fun z => by first | exact c_30 z.1 | (have := z.2; omega))]) h47
  · refine g_aload_n dX6_plate_6 rfl rfl ?_
    refine g_getR dX6_plate_7 fl_X6_18 rfl rfl ?_
    refine g_iload dX6_plate_10 rfl ?_
    refine g_callVp dX6_plate_12 mi_X5_hasBiscuit ml_X6_123 (ct_hasB h) isS_2.1 rfl rfl rfl (Nat.le_of_ble_eq_true rfl) ⟨lt_r rfl, Nat.le_of_ble_eq_true rfl⟩ ?_
    refine g_if_neP (tgt := 24) dX6_plate_15 (by decide) (fun c_15 => ?_) (fun c_15 => ?_)
    · refine g_iload_n dX6_plate_24 rfl rfl ?_
      refine g_iload_n dX6_plate_25 rfl rfl ?_
      refine g_iload_n dX6_plate_26 rfl rfl ?_
      refine g_callSp dX6_plate_27 ms_X6_mayBeDunk ml_X6_227 (ct_X6_mayBeDunk) rfl rfl (Nat.le_of_ble_eq_true rfl) ⟨lt_r rfl, Nat.le_of_ble_eq_true rfl⟩ ?_
      refine g_if_eqP (tgt := 44) dX6_plate_30 (by decide) (fun c_30 => ?_) (fun c_30 => ?_)
      · refine g_aload_n dX6_plate_44 rfl rfl ?_
        refine g_bipush dX6_plate_45 kB_6 ?_
        refine g_callVi dX6_plate_47 mi_X6_refused ml_X6_83 (ct_X6_refused h ho (by decide) (by decide)) rfl rfl rfl rfl (Nat.le_of_ble_eq_true rfl) ⟨lt_r rfl, Nat.le_of_ble_eq_true rfl⟩ (fun x47 M47 h47 => ?_)
        refine g_iret dX6_plate_50 ⟨_, rfl, ?_⟩
        exact QY.rf ho (by unfold o_plate; rw [if_neg (fun z => by first | exact z.1 c_3 | exact z.2 c_15), if_pos (fun z => by first | exact c_30 z.1 | (have := z.2; omega))]) h47
      · refine g_aload_n dX6_plate_33 rfl rfl ?_
        refine g_getR dX6_plate_34 fl_X6_18 rfl rfl ?_
        refine g_getI dX6_plate_37 fl_X6_270 isS_2.1 rfl (h.2.1.2.2.1) ?_
        refine g_iconst dX6_plate_40 kI_5 ?_
        refine g_icmp_leN (tgt := 51) dX6_plate_41 (by decide) rfl rfl (by omega) (by omega) (fun c_41 => ?_) (fun c_41 => ?_)
        · have e9 : o_plate y d s c w = _ := (if_neg (fun z => by first | exact z.1 c_3 | exact z.2 c_15)).trans (if_neg (fun z => z ⟨c_30, c_41⟩))
          rw [e9]
          obtain ⟨z2, z3, z4⟩ := c_30
          obtain ⟨d', -, hd, rfl, f2⟩ := btw_n (by decide) (by decide) z2
          obtain ⟨s', -, hs, rfl, f3⟩ := btw_n (by decide) (by decide) z3
          obtain ⟨c', -, hc, rfl, f4⟩ := btw_n (by decide) (by decide) z4
          rw [f2, f3, f4]
          refine g_aload_n dX6_plate_51 rfl rfl ?_
          refine g_iload_n dX6_plate_52 rfl rfl ?_
          refine g_iload_n dX6_plate_53 rfl rfl ?_
          refine g_iload_n dX6_plate_54 rfl rfl ?_
          refine g_callVv dX6_plate_55 mi_X6_fillPlateWorths ml_X6_273 (ct_fill h ho c_41 hd hs hc) rfl rfl rfl rfl (Nat.le_of_ble_eq_true rfl) ⟨lt_r rfl, Nat.le_of_ble_eq_true rfl⟩ (fun M55 h55 => ?_)
          obtain ⟨q1, q2⟩ := h55
          have hY2 := h.sc ho q2
          refine g_aload_n dX6_plate_58 rfl rfl ?_
          refine g_callVi dX6_plate_59 mi_X6_findBestOrder ml_X6_277 (ct_bestOrd (W := platW y d' s' c') hY2 c_41 (fun p q hp hq => wr_le ho (dunk_ok (ho.2.1.1 q hq)).1.2.2.1) q1) rfl rfl rfl rfl (Nat.le_of_ble_eq_true rfl) ⟨lt_r rfl, Nat.le_of_ble_eq_true rfl⟩ (fun x59 M59 h59 => ?_)
          obtain ⟨r1, r2, r3⟩ := h59
          have hpos : ¬ (platR y d' s' c').1 = 0 := ordR_pos 120 _ _ (fun z => by cases z)
          have hSc := q2.tr (Sc.s r3 (by omega))
          refine g_istore dX6_plate_62 (lt_r rfl) rfl ?_
          refine g_iload dX6_plate_64 rfl ?_
          refine g_iconst dX6_plate_66 kI_m1 ?_
          refine g_icmp_ne (tgt := 75) dX6_plate_67 (by decide) (fun c_67 => ?_) (fun c_67 => ?_)
          · obtain ⟨q, hq, rfl, f5⟩ := in_b hcn (show 0 ≤ w ∧ w < nI (sCn (yN y)) from by first | exact c_15 | exact absurd c_3 c_67)
            refine g_aload_n dX6_plate_75 rfl rfl ?_
            refine g_getR dX6_plate_76 fl_X6_71 rfl rfl ?_
            refine g_iload dX6_plate_79 rfl ?_
            refine g_iald dX6_plate_81 rfl rfl (by omega) (r2 hpos q hq) ?_
            refine g_iret dX6_plate_82 ⟨_, rfl, ?_⟩
            first | exact QY.s h ho hSc (by rw [if_neg c_67, f5]; rfl) | exact QY.s h ho hSc (by rw [if_pos c_67, r1]; rfl)
          · refine g_iload dX6_plate_70 rfl ?_
            refine g_goto (tgt := 82) dX6_plate_72 (by decide) ?_
            refine g_iret dX6_plate_82 ⟨_, rfl, ?_⟩
            first | exact QY.s h ho hSc (by rw [if_neg c_67, f5]; rfl) | exact QY.s h ho hSc (by rw [if_pos c_67, r1]; rfl)
        · refine g_aload_n dX6_plate_44 rfl rfl ?_
          refine g_bipush dX6_plate_45 kB_6 ?_
          refine g_callVi dX6_plate_47 mi_X6_refused ml_X6_83 (ct_X6_refused h ho (by decide) (by decide)) rfl rfl rfl rfl (Nat.le_of_ble_eq_true rfl) ⟨lt_r rfl, Nat.le_of_ble_eq_true rfl⟩ (fun x47 M47 h47 => ?_)
          refine g_iret dX6_plate_50 ⟨_, rfl, ?_⟩
          exact QY.rf ho (by unfold o_plate; rw [if_neg (fun z => by first | exact z.1 c_3 | exact z.2 c_15), if_pos (fun z => by first | exact c_30 z.1 | (have := z.2; omega))]) h47
    · refine g_aload_n dX6_plate_18 rfl rfl ?_
      refine g_iconst dX6_plate_19 kI_5 ?_
      refine g_callVi dX6_plate_20 mi_X6_refused ml_X6_83 (ct_X6_refused h ho (by decide) (by decide)) rfl rfl rfl rfl (Nat.le_of_ble_eq_true rfl) ⟨lt_r rfl, Nat.le_of_ble_eq_true rfl⟩ (fun x20 M20 h20 => ?_)
      refine g_iret dX6_plate_23 ⟨_, rfl, ?_⟩
      exact QY.rf ho (if_pos ⟨c_3, c_15⟩) h20
end X6Q
