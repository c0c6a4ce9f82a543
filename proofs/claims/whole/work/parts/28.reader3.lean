section RDR
variable {E : EE} {B : Nat} {M : MM}
theorem ct_X3_readNumbers_m1 : Ct E B yX3_readNumbers cX3_readNumbers 4 (some .boolean) 4 [.ref (B + 53), .int (-1)] M (Rp (nI 0) M) := by
  refine Ct.of2 (own := RX3) (lv := [(0, .ref (B + 53)), (1, .int (-1))]) pn_X3 rfl (Nat.le_of_ble_eq_true rfl) rfl ?_
  refine g_iload_n dX3_readNumbers_0 rfl rfl ?_
  refine g_iconst dX3_readNumbers_1 kI_m1 ?_
  refine g_icmp_ne (tgt := 7) dX3_readNumbers_2 (by decide) (fun c_2 => absurd rfl c_2) (fun c_2 => ?_)
  refine g_iconst dX3_readNumbers_5 kI_0 ?_
  refine g_zret dX3_readNumbers_6 (by first | exact Or.inl rfl | exact Or.inr rfl | exact bp_01) ⟨_, rfl, ?_⟩
  exact ⟨rfl, rfl⟩
def QNs (B : Nat) (M : MM) (T : Tx) (w : Nat) (R : Bool × Nat × (Nat → Nat)) : Int32 → MM → Prop := fun r M2 =>
  ((R.1 = true ∧ r = nI 1 ∧ RR B M2 T R.2.1 ∧ (∀ j, j < nOf w → M2.1 (B + 55) j = nI (R.2.2 j)) ∧ M2.1 (B + 53) 6 = M.1 (B + 53) 6) ∨ (R.1 = false ∧ r = nI 0 ∧ M2.1 (B + 53) 6 = nI R.2.1)) ∧ Sm B M M2 53 56
theorem numsF_s {T : Tx} {s : St} {w n i p : Nat} {ns : Nat → Nat} : numsF T s w (n + 1) i p ns = if ltr T p = nI 32 then (if (numF T 4 (p + 1) 0).2 ≠ p + 1 ∧ @decide _ (okNumD s w i (numF T 4 (p + 1) 0).1 (ns 0)) = true then numsF T s w n (i + 1) (numF T 4 (p + 1) 0).2 (upF ns i (numF T 4 (p + 1) 0).1) else (false, p + 1, ns)) else (false, p, ns) := rfl
theorem lp_X3_readNumbers {T : Tx} {s : St} {w : Nat} {R : Bool × Nat × (Nat → Nat)} (hT : T.1 ≤ 160) (hS : RS B M 32 s) (ho : okSt s) (hw : w < 7) : ∀ (n i p : Nat) (ns : Nat → Nat), n + i = nOf w → p < 5000 + 10 * i → (∀ j, j < i → okNum s w j (ns j) (ns 0)) → numsF T s w n i p ns = R → ∀ M', RR B M' T p → Sm B M M' 53 56 → M'.1 (B + 53) 6 = M.1 (B + 53) 6 → (∀ j, j < i → M'.1 (B + 55) j = nI (ns j)) →
    G E B cX3_readNumbers (RX3, 4, some .boolean, rmD 4, 0, 0, KM E B (Ri (QNs B M T w R))) 14 [(0, .ref (B + 53)), (1, .int (nI w)), (2, .int (nI (nOf w))), (3, .int (nI i))] [] M' := by
  have hn3 : nOf w ≤ 3 := by
    unfold nOf
    repeat' split
    all_goals omega
  intro n
  induction n with
  | zero =>
    intro i p ns h1 hp hok h2 M' h hM hf hN
    subst h2
    refine g_iload_n dX3_readNumbers_14 rfl rfl ?_
    refine g_iload_n dX3_readNumbers_15 rfl rfl ?_
    refine g_icmp_geN (tgt := 50) dX3_readNumbers_16 (by decide) rfl rfl (by omega) (by omega) (fun c_16 => ?_) (fun c_16 => absurd c_16 (by omega))
    refine g_iconst dX3_readNumbers_50 kI_1 ?_
    refine g_zret dX3_readNumbers_51 (by first | exact Or.inl rfl | exact Or.inr rfl | exact bp_01) ⟨_, rfl, ?_⟩
    exact ⟨Or.inl ⟨rfl, rfl, h, fun j hj => hN j (by omega), hf⟩, hM⟩
  | succ n ih =>
    intro i p ns h1 hp hok h2 M' h hM hf hN
    have hS' : RS B M' 32 s := hS.sm ho hM (by omega)
    refine g_iload_n dX3_readNumbers_14 rfl rfl ?_
    refine g_iload_n dX3_readNumbers_15 rfl rfl ?_
    refine g_icmp_geN (tgt := 50) dX3_readNumbers_16 (by decide) rfl rfl (by omega) (by omega) (fun c_16 => absurd c_16 (by omega)) (fun c_16 => ?_)
    refine g_iload_n dX3_readNumbers_19 rfl rfl ?_
    refine g_iconst dX3_readNumbers_20 kI_3 ?_
    refine g_icmp_geN (tgt := 50) dX3_readNumbers_21 (by decide) rfl rfl (by omega) (by omega) (fun c_21 => absurd c_21 (by omega)) (fun c_21 => ?_)
    refine g_aload_n dX3_readNumbers_24 rfl rfl ?_
    refine g_bipush dX3_readNumbers_25 kB_32 ?_
    refine g_callVi dX3_readNumbers_27 mi_X3_takes ml_X3_61 (ct_X3_takes h hT (by omega)) rfl rfl rfl rfl (Nat.le_of_ble_eq_true rfl) ⟨lt_r rfl, Nat.le_of_ble_eq_true rfl⟩ (fun x27 M27 h27 => ?_)
    refine g_if_eq (tgt := 42) dX3_readNumbers_30 (by decide) (fun c_30 => ?_) (fun c_30 => ?_)
    · refine g_iconst dX3_readNumbers_42 kI_0 ?_
      refine g_zret dX3_readNumbers_43 (by first | exact Or.inl rfl | exact Or.inr rfl | exact bp_01) ⟨_, rfl, ?_⟩
      first | (obtain ⟨a1, a2, a3, a4⟩ := h27.1.resolve_left (fun z => absurd (z.2.1.symm.trans c_30) (by decide)); rw [numsF_s, if_neg a1] at h2; subst h2; exact ⟨Or.inr ⟨rfl, rfl, a4⟩, hM.tr (h27.2.up (by omega) (by omega))⟩) | (obtain ⟨b1, b2, b3⟩ := h36.1.resolve_left (fun z => absurd (z.2.2.1.symm.trans c_39) (by decide)); rw [numsF_s, if_pos a1, if_neg (fun q => b1 ⟨q.1, @of_decide_eq_true _ (okNumD _ _ _ _ _) q.2⟩)] at h2; subst h2; exact ⟨Or.inr ⟨rfl, rfl, b3⟩, (hM.tr (h27.2.up (by omega) (by omega))).tr h36.2⟩)
    · obtain ⟨a1, a2, a3, a4⟩ := h27.1.resolve_right (fun z => c_30 z.2.1)
      refine g_aload_n dX3_readNumbers_33 rfl rfl ?_
      refine g_iload_n dX3_readNumbers_34 rfl rfl ?_
      refine g_iload_n dX3_readNumbers_35 rfl rfl ?_
      refine g_callVi dX3_readNumbers_36 mi_X3_readNumber ml_X3_97 (ct_X3_readNumber a3 hT (by omega) (hS'.sm ho h27.2 (by omega)) ho hw (by omega) (fun j hj => by rw [h27.2.i (by omega)]; exact hN j hj) hok) rfl rfl rfl rfl (Nat.le_of_ble_eq_true rfl) ⟨lt_r rfl, Nat.le_of_ble_eq_true rfl⟩ (fun x36 M36 h36 => ?_)
      refine g_if_ne (tgt := 44) dX3_readNumbers_39 (by decide) (fun c_39 => ?_) (fun c_39 => ?_)
      · obtain ⟨b1, b2, b3, b4, b5, b6⟩ := h36.1.resolve_right (fun z => c_39 z.2.1)
        rw [numsF_s, if_pos a1, if_pos ⟨b1, @decide_eq_true _ (okNumD _ _ _ _ _) b2⟩] at h2
        refine g_iinc dX3_readNumbers_44 rfl (inc_nI _) rfl ?_
        have hq := numF_ok (T := T) 4 (p + 1) 0 1 (by decide)
        refine g_goto (tgt := 14) dX3_readNumbers_47 (by decide) (g_le (lvLe_c rfl (lvLe_c rfl (lvLe_c rfl (lvLe_c rfl lvLe_0)))) (ih (i + 1) (numF T 4 (p + 1) 0).2 (upF ns i (numF T 4 (p + 1) 0).1) (by omega) (by omega) (fun j hj => ?_) h2 M36 b4 ((hM.tr (h27.2.up (by omega) (by omega))).tr h36.2) (b6.trans (a4.trans hf)) b5))
        by_cases e1 : j = i
        · subst e1
          rw [upF_s]
          by_cases e2 : j = 0
          · subst e2; exact okNum_0 b2
          · rw [upF_n (fun z => e2 z.symm)]; exact b2
        · rw [upF_n e1]
          by_cases e2 : i = 0
          · omega
          · rw [upF_n (fun z => e2 z.symm)]; exact hok j (by omega)
      · refine g_iconst dX3_readNumbers_42 kI_0 ?_
        refine g_zret dX3_readNumbers_43 (by first | exact Or.inl rfl | exact Or.inr rfl | exact bp_01) ⟨_, rfl, ?_⟩
        first | (obtain ⟨a1, a2, a3, a4⟩ := h27.1.resolve_left (fun z => absurd (z.2.1.symm.trans c_30) (by decide)); rw [numsF_s, if_neg a1] at h2; subst h2; exact ⟨Or.inr ⟨rfl, rfl, a4⟩, hM.tr (h27.2.up (by omega) (by omega))⟩) | (obtain ⟨b1, b2, b3⟩ := h36.1.resolve_left (fun z => absurd (z.2.2.1.symm.trans c_39) (by decide)); rw [numsF_s, if_pos a1, if_neg (fun q => b1 ⟨q.1, @of_decide_eq_true _ (okNumD _ _ _ _ _) q.2⟩)] at h2; subst h2; exact ⟨Or.inr ⟨rfl, rfl, b3⟩, (hM.tr (h27.2.up (by omega) (by omega))).tr h36.2⟩)
theorem ct_X3_readNumbers {T : Tx} {s : St} {w p : Nat} (h : RR B M T p) (hT : T.1 ≤ 160) (hp : p < 5000) (hS : RS B M 32 s) (ho : okSt s) (hw : w < 7) : Ct E B yX3_readNumbers cX3_readNumbers 4 (some .boolean) 4 [.ref (B + 53), .int (nI w)] M (Ri (QNs B M T w (numsF T s w (nOf w) 0 p (fun _ => 0)))) := by
  refine Ct.of2 (own := RX3) (lv := [(0, .ref (B + 53)), (1, .int (nI w))]) pn_X3 rfl (Nat.le_of_ble_eq_true rfl) rfl ?_
  refine g_iload_n dX3_readNumbers_0 rfl rfl ?_
  refine g_iconst dX3_readNumbers_1 kI_m1 ?_
  refine g_icmp_ne (tgt := 7) dX3_readNumbers_2 (by decide) (fun c_2 => ?_) (fun c_2 => absurd c_2 (nI_nm1 (by omega)))
  refine g_iload_n dX3_readNumbers_7 rfl rfl ?_
  refine g_callSp dX3_readNumbers_8 ms_X3_numbersOf ml_X3_94 (ct_X3_numbersOf hw) rfl rfl (Nat.le_of_ble_eq_true rfl) ⟨lt_r rfl, Nat.le_of_ble_eq_true rfl⟩ ?_
  refine g_istore_n dX3_readNumbers_11 rfl (lt_r rfl) rfl ?_
  refine g_iconst dX3_readNumbers_12 kI_0 ?_
  refine g_istore_n dX3_readNumbers_13 rfl (lt_r rfl) rfl ?_
  exact g_le (lvLe_c rfl (lvLe_c rfl (lvLe_c rfl (lvLe_c rfl lvLe_0)))) (lp_X3_readNumbers hT hS ho hw (nOf w) 0 p _ rfl (by omega) (fun j hj => absurd hj (Nat.not_lt_zero j)) rfl M h Sm.rf rfl (fun j hj => absurd hj (Nat.not_lt_zero j)))
theorem ct_X3_tell_0 {s : St} {ns : Nat → Nat} (hS : RS B M 32 s) (ho : okSt s) (hr : ¬ (0 = 0 ∧ ¬ sCn s < 6)) (hk : ∀ j, j < nOf 0 → okNum s 0 j (ns j) (ns 0)) (hN : ∀ j, j < nOf 0 → M.1 (B + 55) j = nI (ns j)) : Ct E B yX3_tell cX3_tell 2 none 3 [.ref (B + 53), .int (nI 0)] M (Rv (fun M2 => RS B M2 32 (tellS s 0 ns) ∧ Sm B M M2 32 47)) := by
  have hr : sCn s < 6 := by omega
  refine Ct.of2 (own := RX3) (lv := [(0, .ref (B + 53)), (1, .int (nI 0))]) pn_X3 rfl (Nat.le_of_ble_eq_true rfl) rfl ?_
  refine g_iload_n dX3_tell_0 rfl rfl ?_
  refine g_tableIn (off := 35) (tgt := 36) dX3_tell_1 (by decide) (by decide) (by decide) (by decide) ?_
  refine g_aload_n dX3_tell_36 rfl rfl ?_
  refine g_getR dX3_tell_37 fl_X3_22 rfl rfl ?_
  refine g_aload_n dX3_tell_40 rfl rfl ?_
  refine g_getR dX3_tell_41 fl_X3_15 rfl rfl ?_
  refine g_iconst dX3_tell_44 kI_0 ?_
  refine g_iald dX3_tell_45 rfl rfl (by omega) (hN 0 (by decide)) ?_
  refine g_aload_n dX3_tell_46 rfl rfl ?_
  refine g_getR dX3_tell_47 fl_X3_15 rfl rfl ?_
  refine g_iconst dX3_tell_50 kI_1 ?_
  refine g_iald dX3_tell_51 rfl rfl (by omega) (hN 1 (by decide)) ?_
  refine g_aload_n dX3_tell_52 rfl rfl ?_
  refine g_getR dX3_tell_53 fl_X3_15 rfl rfl ?_
  refine g_iconst dX3_tell_56 kI_2 ?_
  refine g_iald dX3_tell_57 rfl rfl (by omega) (hN 2 (by decide)) ?_
  refine g_callVi dX3_tell_58 mi_X5_addBiscuit ml_X3_137 (ct_X5_addBiscuit isS_32 hS ho hr (on_01.mp (hk 1 (by decide))).2) isS_32.1 rfl rfl rfl (Nat.le_of_ble_eq_true rfl) ⟨lt_r rfl, Nat.le_of_ble_eq_true rfl⟩ (fun x58 M58 h58 => ?_)
  refine g_pop dX3_tell_61 rfl ?_
  refine g_goto (tgt := 203) dX3_tell_62 (by decide) ?_
  refine g_vret dX3_tell_203 ⟨rfl, ?_⟩
  exact ⟨h58.2.1, h58.2.2⟩
theorem ct_X3_tell_1 {s : St} {ns : Nat → Nat} (hS : RS B M 32 s) (ho : okSt s) (hr : ¬ (1 = 0 ∧ ¬ sCn s < 6)) (hk : ∀ j, j < nOf 1 → okNum s 1 j (ns j) (ns 0)) (hN : ∀ j, j < nOf 1 → M.1 (B + 55) j = nI (ns j)) : Ct E B yX3_tell cX3_tell 2 none 3 [.ref (B + 53), .int (nI 1)] M (Rv (fun M2 => RS B M2 32 (tellS s 1 ns) ∧ Sm B M M2 32 47)) := by
  have q0 := on_10.mp (hk 0 (by decide))
  have q1 := on_11.mp (hk 1 (by decide))
  have hc := ho.2.2.1
  have hb := (ho.1 _ q0).2.2.1
  refine Ct.of2 (own := RX3) (lv := [(0, .ref (B + 53)), (1, .int (nI 1))]) pn_X3 rfl (Nat.le_of_ble_eq_true rfl) rfl ?_
  refine g_iload_n dX3_tell_0 rfl rfl ?_
  refine g_tableIn (off := 64) (tgt := 65) dX3_tell_1 (by decide) (by decide) (by decide) (by decide) ?_
  refine g_aload_n dX3_tell_65 rfl rfl ?_
  refine g_getR dX3_tell_66 fl_X3_22 rfl rfl ?_
  refine g_aload_n dX3_tell_69 rfl rfl ?_
  refine g_getR dX3_tell_70 fl_X3_15 rfl rfl ?_
  refine g_iconst dX3_tell_73 kI_0 ?_
  refine g_iald dX3_tell_74 rfl rfl (by omega) (hN 0 (by decide)) ?_
  refine g_aload_n dX3_tell_75 rfl rfl ?_
  refine g_getR dX3_tell_76 fl_X3_15 rfl rfl ?_
  refine g_iconst dX3_tell_79 kI_1 ?_
  refine g_iald dX3_tell_80 rfl rfl (by omega) (hN 1 (by decide)) ?_
  refine g_callVp dX3_tell_81 mi_X5_hasCellOf ml_X3_125 (ct_X5_hasCellOfN isS_32 hS ho q0 (by omega)) isS_32.1 rfl rfl rfl (Nat.le_of_ble_eq_true rfl) ⟨lt_r rfl, Nat.le_of_ble_eq_true rfl⟩ ?_
  refine g_if_eqP (tgt := 203) dX3_tell_84 (by decide) (fun c_84 => absurd q1 c_84) (fun c_84 => ?_)
  refine g_aload_n dX3_tell_87 rfl rfl ?_
  refine g_getR dX3_tell_88 fl_X3_22 rfl rfl ?_
  refine g_getR dX3_tell_91 fl_X3_128 isS_32.1 rfl ?_
  refine g_aload_n dX3_tell_94 rfl rfl ?_
  refine g_getR dX3_tell_95 fl_X3_15 rfl rfl ?_
  refine g_iconst dX3_tell_98 kI_0 ?_
  refine g_iald dX3_tell_99 rfl rfl (by omega) (hN 0 (by decide)) ?_
  refine g_aald dX3_tell_100 isS_32.2.1 rfl (isS_b (by omega)) ?_
  refine g_getR dX3_tell_101 fl_X3_141 (isS_32.2.2.2 _ (by omega)).1 rfl ?_
  refine g_aload_n dX3_tell_104 rfl rfl ?_
  refine g_getR dX3_tell_105 fl_X3_15 rfl rfl ?_
  refine g_iconst dX3_tell_108 kI_1 ?_
  refine g_iald dX3_tell_109 rfl rfl (by omega) (hN 1 (by decide)) ?_
  refine g_aload_n dX3_tell_110 rfl rfl ?_
  refine g_getR dX3_tell_111 fl_X3_15 rfl rfl ?_
  refine g_iconst dX3_tell_114 kI_2 ?_
  refine g_iald dX3_tell_115 rfl rfl (by omega) (hN 2 (by decide)) ?_
  refine g_iast dX3_tell_116 (isS_32.2.2.2 _ (by omega)).2 rfl (by omega) ?_
  refine g_goto (tgt := 203) dX3_tell_117 (by decide) ?_
  refine g_vret dX3_tell_203 ⟨rfl, ?_⟩
  refine ⟨⟨fun q hq => ?_, fun i hi => ?_, ?_⟩, Sm.pI (by omega) (by omega)⟩
  · have hq : q < sCn s := hq
    show RB _ _ _ (setB s (ns 0) (sBs s (ns 0)).2.2.1 (upF (sBs s (ns 0)).2.2.2 (ns 1) (ns 2)) q)
    unfold setB
    by_cases e : q = ns 0
    · subst e
      rw [upF_s]
      have g := hS.1 (ns 0) q0
      refine ⟨?_, ?_, ?_, fun i hi => ?_⟩
      · rw [upI_ap (by omega)]; exact g.1
      · rw [upI_ap (by omega)]; exact g.2.1
      · rw [upI_ap (by omega)]; exact g.2.2.1
      · have hi : i < (sBs s (ns 0)).2.2.1 := hi
        show _ = nI (upF (sBs s (ns 0)).2.2.2 (ns 1) (ns 2) i)
        rw [upI_at]
        unfold upF
        split
        · rfl
        · exact g.2.2.2 i hi
    · rw [upF_n e]
      exact (hS.1 q hq).sm (Sm.pI (Nat.le_refl (32 + 3 + 2 * ns 0 + 1)) (Nat.lt_succ_self _)) (by omega) (by omega)
  · rw [upI_ap (by omega)]; exact hS.2.1 i hi
  · rw [upI_ap (by omega)]; exact hS.2.2
theorem ct_X3_tell_2 {s : St} {ns : Nat → Nat} (hS : RS B M 32 s) (ho : okSt s) (hr : ¬ (2 = 0 ∧ ¬ sCn s < 6)) (hk : ∀ j, j < nOf 2 → okNum s 2 j (ns j) (ns 0)) (hN : ∀ j, j < nOf 2 → M.1 (B + 55) j = nI (ns j)) : Ct E B yX3_tell cX3_tell 2 none 3 [.ref (B + 53), .int (nI 2)] M (Rv (fun M2 => RS B M2 32 (tellS s 2 ns) ∧ Sm B M M2 32 47)) := by
  have hc := ho.2.2.1
  refine Ct.of2 (own := RX3) (lv := [(0, .ref (B + 53)), (1, .int (nI 2))]) pn_X3 rfl (Nat.le_of_ble_eq_true rfl) rfl ?_
  refine g_iload_n dX3_tell_0 rfl rfl ?_
  refine g_tableIn (off := 119) (tgt := 120) dX3_tell_1 (by decide) (by decide) (by decide) (by decide) ?_
  refine g_aload_n dX3_tell_120 rfl rfl ?_
  refine g_getR dX3_tell_121 fl_X3_22 rfl rfl ?_
  refine g_aload_n dX3_tell_124 rfl rfl ?_
  refine g_getR dX3_tell_125 fl_X3_15 rfl rfl ?_
  refine g_iconst dX3_tell_128 kI_0 ?_
  refine g_iald dX3_tell_129 rfl rfl (by omega) (hN 0 (by decide)) ?_
  refine g_putI dX3_tell_130 fp_X3_144 isS_32.1 rfl ?_
  refine g_goto (tgt := 203) dX3_tell_133 (by decide) ?_
  refine g_vret dX3_tell_203 ⟨rfl, ?_⟩
  obtain ⟨g1, g2, g3, g4, g5, g6, g7, g8, g9, g10⟩ := hS
  refine ⟨⟨fun q hq => ?_, fun i hi => ?_, ?_, ?_, ?_, ?_, ?_, ?_, ?_, ?_⟩, Sm.pI (by omega) (by omega)⟩
  · have hq : q < sCn s := hq
    exact (g1 q hq).sm (Sm.pI (Nat.le_refl 32) (Nat.lt_succ_self _)) (by omega) (by omega)
  · rw [upI_ap (by omega)]; exact g2 i hi
  all_goals simp only [upI_at]
  all_goals first | exact g3 | exact g4 | exact g5 | exact g6 | exact g7 | exact g8 | exact g9 | exact g10 | rfl
theorem ct_X3_tell_3 {s : St} {ns : Nat → Nat} (hS : RS B M 32 s) (ho : okSt s) (hr : ¬ (3 = 0 ∧ ¬ sCn s < 6)) (hk : ∀ j, j < nOf 3 → okNum s 3 j (ns j) (ns 0)) (hN : ∀ j, j < nOf 3 → M.1 (B + 55) j = nI (ns j)) : Ct E B yX3_tell cX3_tell 2 none 3 [.ref (B + 53), .int (nI 3)] M (Rv (fun M2 => RS B M2 32 (tellS s 3 ns) ∧ Sm B M M2 32 47)) := by
  have hc := ho.2.2.1
  refine Ct.of2 (own := RX3) (lv := [(0, .ref (B + 53)), (1, .int (nI 3))]) pn_X3 rfl (Nat.le_of_ble_eq_true rfl) rfl ?_
  refine g_iload_n dX3_tell_0 rfl rfl ?_
  refine g_tableIn (off := 135) (tgt := 136) dX3_tell_1 (by decide) (by decide) (by decide) (by decide) ?_
  refine g_aload_n dX3_tell_136 rfl rfl ?_
  refine g_getR dX3_tell_137 fl_X3_22 rfl rfl ?_
  refine g_aload_n dX3_tell_140 rfl rfl ?_
  refine g_getR dX3_tell_141 fl_X3_15 rfl rfl ?_
  refine g_iconst dX3_tell_144 kI_0 ?_
  refine g_iald dX3_tell_145 rfl rfl (by omega) (hN 0 (by decide)) ?_
  refine g_putI dX3_tell_146 fp_X3_146 isS_32.1 rfl ?_
  refine g_goto (tgt := 203) dX3_tell_149 (by decide) ?_
  refine g_vret dX3_tell_203 ⟨rfl, ?_⟩
  obtain ⟨g1, g2, g3, g4, g5, g6, g7, g8, g9, g10⟩ := hS
  refine ⟨⟨fun q hq => ?_, fun i hi => ?_, ?_, ?_, ?_, ?_, ?_, ?_, ?_, ?_⟩, Sm.pI (by omega) (by omega)⟩
  · have hq : q < sCn s := hq
    exact (g1 q hq).sm (Sm.pI (Nat.le_refl 32) (Nat.lt_succ_self _)) (by omega) (by omega)
  · rw [upI_ap (by omega)]; exact g2 i hi
  all_goals simp only [upI_at]
  all_goals first | exact g3 | exact g4 | exact g5 | exact g6 | exact g7 | exact g8 | exact g9 | exact g10 | rfl
theorem ct_X3_tell_4 {s : St} {ns : Nat → Nat} (hS : RS B M 32 s) (ho : okSt s) (hr : ¬ (4 = 0 ∧ ¬ sCn s < 6)) (hk : ∀ j, j < nOf 4 → okNum s 4 j (ns j) (ns 0)) (hN : ∀ j, j < nOf 4 → M.1 (B + 55) j = nI (ns j)) : Ct E B yX3_tell cX3_tell 2 none 3 [.ref (B + 53), .int (nI 4)] M (Rv (fun M2 => RS B M2 32 (tellS s 4 ns) ∧ Sm B M M2 32 47)) := by
  have hc := ho.2.2.1
  refine Ct.of2 (own := RX3) (lv := [(0, .ref (B + 53)), (1, .int (nI 4))]) pn_X3 rfl (Nat.le_of_ble_eq_true rfl) rfl ?_
  refine g_iload_n dX3_tell_0 rfl rfl ?_
  refine g_tableIn (off := 151) (tgt := 152) dX3_tell_1 (by decide) (by decide) (by decide) (by decide) ?_
  refine g_aload_n dX3_tell_152 rfl rfl ?_
  refine g_getR dX3_tell_153 fl_X3_22 rfl rfl ?_
  refine g_aload_n dX3_tell_156 rfl rfl ?_
  refine g_getR dX3_tell_157 fl_X3_15 rfl rfl ?_
  refine g_iconst dX3_tell_160 kI_0 ?_
  refine g_iald dX3_tell_161 rfl rfl (by omega) (hN 0 (by decide)) ?_
  refine g_putI dX3_tell_162 fp_X3_148 isS_32.1 rfl ?_
  refine g_goto (tgt := 203) dX3_tell_165 (by decide) ?_
  refine g_vret dX3_tell_203 ⟨rfl, ?_⟩
  obtain ⟨g1, g2, g3, g4, g5, g6, g7, g8, g9, g10⟩ := hS
  refine ⟨⟨fun q hq => ?_, fun i hi => ?_, ?_, ?_, ?_, ?_, ?_, ?_, ?_, ?_⟩, Sm.pI (by omega) (by omega)⟩
  · have hq : q < sCn s := hq
    exact (g1 q hq).sm (Sm.pI (Nat.le_refl 32) (Nat.lt_succ_self _)) (by omega) (by omega)
  · rw [upI_ap (by omega)]; exact g2 i hi
  all_goals simp only [upI_at]
  all_goals first | exact g3 | exact g4 | exact g5 | exact g6 | exact g7 | exact g8 | exact g9 | exact g10 | rfl
theorem ct_X3_tell_5 {s : St} {ns : Nat → Nat} (hS : RS B M 32 s) (ho : okSt s) (hr : ¬ (5 = 0 ∧ ¬ sCn s < 6)) (hk : ∀ j, j < nOf 5 → okNum s 5 j (ns j) (ns 0)) (hN : ∀ j, j < nOf 5 → M.1 (B + 55) j = nI (ns j)) : Ct E B yX3_tell cX3_tell 2 none 3 [.ref (B + 53), .int (nI 5)] M (Rv (fun M2 => RS B M2 32 (tellS s 5 ns) ∧ Sm B M M2 32 47)) := by
  have q0 := on_50.mp (hk 0 (by decide))
  have hc := ho.2.2.1
  refine Ct.of2 (own := RX3) (lv := [(0, .ref (B + 53)), (1, .int (nI 5))]) pn_X3 rfl (Nat.le_of_ble_eq_true rfl) rfl ?_
  refine g_iload_n dX3_tell_0 rfl rfl ?_
  refine g_tableOut (tgt := 168) dX3_tell_1 (by decide) (by decide) ?_
  refine g_aload_n dX3_tell_168 rfl rfl ?_
  refine g_getR dX3_tell_169 fl_X3_15 rfl rfl ?_
  refine g_iconst dX3_tell_172 kI_0 ?_
  refine g_iald dX3_tell_173 rfl rfl (by omega) (hN 0 (by decide)) ?_
  refine g_iconst dX3_tell_174 kI_0 ?_
  refine g_bipush dX3_tell_175 kB_9 ?_
  refine g_callSNp dX3_tell_177 ms_X6_isWithin mn_X3_101 (ct_X6_isWithinN (by omega) (by omega) (by omega)) rfl rfl (Nat.le_of_ble_eq_true rfl) ⟨lt_r rfl, Nat.le_of_ble_eq_true rfl⟩ ?_
  refine g_if_eqP (tgt := 203) dX3_tell_180 (by decide) (fun c_180 => absurd ⟨Nat.zero_le _, by omega⟩ c_180) (fun c_180 => ?_)
  refine g_aload_n dX3_tell_183 rfl rfl ?_
  refine g_getR dX3_tell_184 fl_X3_22 rfl rfl ?_
  refine g_getR dX3_tell_187 fl_X3_150 isS_32.1 rfl ?_
  refine g_aload_n dX3_tell_190 rfl rfl ?_
  refine g_getR dX3_tell_191 fl_X3_15 rfl rfl ?_
  refine g_iconst dX3_tell_194 kI_0 ?_
  refine g_iald dX3_tell_195 rfl rfl (by omega) (hN 0 (by decide)) ?_
  refine g_aload_n dX3_tell_196 rfl rfl ?_
  refine g_getR dX3_tell_197 fl_X3_15 rfl rfl ?_
  refine g_iconst dX3_tell_200 kI_1 ?_
  refine g_iald dX3_tell_201 rfl rfl (by omega) (hN 1 (by decide)) ?_
  refine g_iast dX3_tell_202 isS_32.2.2.1 rfl (by omega) ?_
  refine g_vret dX3_tell_203 ⟨rfl, ?_⟩
  refine ⟨⟨fun q hq => ?_, fun i hi => ?_, ?_⟩, Sm.pI (by omega) (by omega)⟩
  · have hq : q < sCn s := hq
    exact (hS.1 q hq).sm (Sm.pI (Nat.le_refl (32 + 2)) (Nat.lt_succ_self _)) (by omega) (by omega)
  · show _ = nI (upF (sWo s) (ns 0) (ns 1) i)
    rw [upI_at]
    unfold upF
    split
    · rfl
    · exact hS.2.1 i hi
  · rw [upI_ap (by omega)]; exact hS.2.2
theorem ct_X3_tell {s : St} {w : Nat} {ns : Nat → Nat} (hS : RS B M 32 s) (ho : okSt s) (hw : w < 6) (hr : ¬ (w = 0 ∧ ¬ sCn s < 6)) (hk : ∀ j, j < nOf w → okNum s w j (ns j) (ns 0)) (hN : ∀ j, j < nOf w → M.1 (B + 55) j = nI (ns j)) : Ct E B yX3_tell cX3_tell 2 none 3 [.ref (B + 53), .int (nI w)] M (Rv (fun M2 => RS B M2 32 (tellS s w ns) ∧ Sm B M M2 32 47)) := by
  match w, hw with
  | 0, _ => exact ct_X3_tell_0 hS ho hr hk hN
  | 1, _ => exact ct_X3_tell_1 hS ho hr hk hN
  | 2, _ => exact ct_X3_tell_2 hS ho hr hk hN
  | 3, _ => exact ct_X3_tell_3 hS ho hr hk hN
  | 4, _ => exact ct_X3_tell_4 hS ho hr hk hN
  | 5, _ => exact ct_X3_tell_5 hS ho hr hk hN
end RDR
