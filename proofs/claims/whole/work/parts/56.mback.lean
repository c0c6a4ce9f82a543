/-! the model's calls: back, heats -/
def QML (B : Nat) (M : MM) (o : Int64 × Sys) : Option Value → MM → Prop := Rl (fun r M2 => r = o.1 ∧ RM B M2 o.2 ∧ Sm B M M2 80 102)
theorem el_nI {x : Sh} {i : Nat} (h : x.1 = 1) (hi : i < x.2.2.1) (hl : x.2.2.1 ≤ 160) : elI x (nI i) = x.2.2.2 i := by
  unfold elI
  rw [if_pos ⟨h, Int32.not_lt.mp (nI_pos (by omega)), (nI_ltI (by omega) (by omega)).mpr hi⟩, nI_clamp (by omega)]
/-- cells left never grow -/
theorem gone_run {kd a h t : Nat} {D : Dk} : ∀ n, (runD kd a h t D n).1 ≤ D.1
  | 0 => Nat.le_refl _
  | n + 1 => by
    have h1 := gone_run (kd := kd) (a := a) (h := h) (t := t) (D := D) n
    show (sec kd a h _ (runD kd a h t D n)).1 ≤ _
    generalize runD kd a h t D n = X at h1 ⊢
    unfold sec
    dsimp only
    split
    · exact h1
    · show X.1 - _ ≤ _; omega
theorem whyBack_1 {y : Sys} {b s : Int32} (h : whyRow y s = 1) : whyBack y b s = 1 := by
  unfold whyBack
  by_cases z : inB' y b
  · rw [if_neg (fun q => q z), if_pos (by omega), h]
  · rw [if_pos z]
section X7J
variable {E : EE} {B : Nat} {M : MM}
theorem tl_bars {y : Sys} {b s : Int32} (h : RM B M y) (ho : okY y) (hb : inB' y b) (z0 : whyRow y s = 0) :
    G E B cX7_bars (RX7, 4, some .int, rmD 2, 0, 0, KM E B (Rp (-(nI (whyBack y b s))) M)) 34 [(0, .ref (B + 80)), (1, .int b), (2, .int s)] [] M := by
  have hcn := ho.2.1.2.2.1
  have e9 : whyBack y b s = _ := (if_neg (fun z => z hb)).trans (if_neg (fun z => z z0))
  rw [e9]
  obtain ⟨d1, d2⟩ := whyRow_0 z0
  obtain ⟨p, hp, rfl, e1⟩ := in_sh d1
  obtain ⟨q, hq, rfl, f1⟩ := in_b hcn hb
  rw [e1] at d2
  rw [e1, f1]
  have b1 := (ho.1 p hp).2.1 d2
  have b2 := (ho.2.1.1 q hq).2.2.1
  refine g_aload_n dX7_bars_34 rfl rfl ?_
  refine g_getR dX7_bars_35 fl_X7_35 rfl rfl ?_
  refine g_iload_n dX7_bars_38 rfl rfl ?_
  refine g_iald dX7_bars_39 rfl rfl (by omega) ((h.2.1.1 q hq).2.2.1) ?_
  refine g_aload_n dX7_bars_40 rfl rfl ?_
  refine g_getR dX7_bars_41 fl_X7_50 rfl rfl ?_
  refine g_iload_n dX7_bars_44 rfl rfl ?_
  refine g_iald dX7_bars_45 rfl rfl (by omega) (((h.1 p hp).2.1 d2).2.1) ?_
  refine g_icmp_leN (tgt := 54) dX7_bars_46 (by decide) rfl rfl (by omega) (by omega) (fun c_46 => ?_) (fun c_46 => ?_)
  · refine g_iconst dX7_bars_54 kI_0 ?_
    refine g_iret dX7_bars_55 ⟨_, rfl, ?_⟩
    refine ⟨?_, rfl⟩
    first | (rw [if_pos (by omega)]; decide) | (rw [if_neg (by omega)]; decide)
  · refine g_bipush dX7_bars_49 kB_m5 ?_
    refine g_goto (tgt := 55) dX7_bars_51 (by decide) ?_
    refine g_iret dX7_bars_55 ⟨_, rfl, ?_⟩
    refine ⟨?_, rfl⟩
    first | (rw [if_pos (by omega)]; decide) | (rw [if_neg (by omega)]; decide)
theorem ct_bars {y : Sys} {b s : Int32} (h : RM B M y) (ho : okY y) : Ct E B yX7_bars cX7_bars 4 (some .int) 2 [.ref (B + 80), .int b, .int s] M (Rp (-(nI (whyBack y b s))) M) := by
  have hcn := ho.2.1.2.2.1
  have hw := whyRow_le (y := y) (s := s)
  refine Ct.of2 (own := RX7) (lv := [(0, .ref (B + 80)), (1, .int b), (2, .int s)]) pn_X7 rfl (Nat.le_of_ble_eq_true rfl) rfl ?_
  refine g_aload_n dX7_bars_0 rfl rfl ?_
  refine g_iload_n dX7_bars_1 rfl rfl ?_
  refine g_callVp dX7_bars_2 mi_X7_isShelf ml_X7_97 (ct_X7_isShelf) rfl rfl rfl rfl (Nat.le_of_ble_eq_true rfl) ⟨lt_r rfl, Nat.le_of_ble_eq_true rfl⟩ ?_
  refine g_if_eqP (tgt := 20) dX7_bars_5 (by decide) (fun c_5 => ?_) (fun c_5 => ?_)
  · refine g_aload_n dX7_bars_20 rfl rfl ?_
    refine g_iload_n dX7_bars_21 rfl rfl ?_
    refine g_callVp dX7_bars_22 mi_X7_wanted ml_X7_167 (ct_X7_wanted h ho) rfl rfl rfl rfl (Nat.le_of_ble_eq_true rfl) ⟨lt_r rfl, Nat.le_of_ble_eq_true rfl⟩ ?_
    refine g_istore_n dX7_bars_25 rfl (lt_r rfl) rfl ?_
    refine g_iload_n dX7_bars_26 rfl rfl ?_
    refine g_if_eq (tgt := 34) dX7_bars_27 (by decide) (fun c_27 => ?_) (fun c_27 => ?_)
    · first | exact absurd (show (-1 : Int32) = 0 from c_27) (by decide) | (have z0 : whyRow y s = 0 := (neg_nI0 (by omega)).mp c_27; first | exact absurd (show whyRow y s = 1 from if_pos c_5) (by omega) | exact g_le (lvLe_c rfl (lvLe_c rfl (lvLe_c rfl lvLe_0))) (tl_bars h ho c_13 z0))
    · refine g_iload_n dX7_bars_30 rfl rfl ?_
      refine g_goto (tgt := 55) dX7_bars_31 (by decide) ?_
      refine g_iret dX7_bars_55 ⟨_, rfl, ?_⟩
      refine ⟨?_, rfl⟩
      first | (have c8 : ¬ inB' y b := c_13; rw [show whyBack y b s = 1 from if_pos c8]; decide) | (have z0 : ¬ whyRow y s = 0 := fun z => c_27 ((neg_nI0 (by omega)).mpr z); first | (have c9 : ¬ (0 ≤ s ∧ s < nI 8) := c_5; have z1 : whyRow y s = 1 := if_pos c9; rw [whyBack_1 z1, z1]) | (have c8 : inB' y b := c_13; rw [show whyBack y b s = whyRow y s from (if_neg (fun z => z c8)).trans (if_pos z0)]))
  · refine g_aload_n dX7_bars_8 rfl rfl ?_
    refine g_iload_n dX7_bars_9 rfl rfl ?_
    refine g_callVp dX7_bars_10 mi_X7_isBiscuit ml_X7_93 (ct_X7_isBiscuit h.2.1) rfl rfl rfl rfl (Nat.le_of_ble_eq_true rfl) ⟨lt_r rfl, Nat.le_of_ble_eq_true rfl⟩ ?_
    refine g_if_neP (tgt := 20) dX7_bars_13 (by decide) (fun c_13 => ?_) (fun c_13 => ?_)
    · refine g_aload_n dX7_bars_20 rfl rfl ?_
      refine g_iload_n dX7_bars_21 rfl rfl ?_
      refine g_callVp dX7_bars_22 mi_X7_wanted ml_X7_167 (ct_X7_wanted h ho) rfl rfl rfl rfl (Nat.le_of_ble_eq_true rfl) ⟨lt_r rfl, Nat.le_of_ble_eq_true rfl⟩ ?_
      refine g_istore_n dX7_bars_25 rfl (lt_r rfl) rfl ?_
      refine g_iload_n dX7_bars_26 rfl rfl ?_
      refine g_if_eq (tgt := 34) dX7_bars_27 (by decide) (fun c_27 => ?_) (fun c_27 => ?_)
      · first | exact absurd (show (-1 : Int32) = 0 from c_27) (by decide) | (have z0 : whyRow y s = 0 := (neg_nI0 (by omega)).mp c_27; first | exact absurd (show whyRow y s = 1 from if_pos c_5) (by omega) | exact g_le (lvLe_c rfl (lvLe_c rfl (lvLe_c rfl lvLe_0))) (tl_bars h ho c_13 z0))
      · refine g_iload_n dX7_bars_30 rfl rfl ?_
        refine g_goto (tgt := 55) dX7_bars_31 (by decide) ?_
        refine g_iret dX7_bars_55 ⟨_, rfl, ?_⟩
        refine ⟨?_, rfl⟩
        first | (have c8 : ¬ inB' y b := c_13; rw [show whyBack y b s = 1 from if_pos c8]; decide) | (have z0 : ¬ whyRow y s = 0 := fun z => c_27 ((neg_nI0 (by omega)).mpr z); first | (have c9 : ¬ (0 ≤ s ∧ s < nI 8) := c_5; have z1 : whyRow y s = 1 := if_pos c9; rw [whyBack_1 z1, z1]) | (have c8 : inB' y b := c_13; rw [show whyBack y b s = whyRow y s from (if_neg (fun z => z c8)).trans (if_pos z0)]))
    · refine g_iconst dX7_bars_16 kI_m1 ?_
      refine g_goto (tgt := 25) dX7_bars_17 (by decide) ?_
      refine g_istore_n dX7_bars_25 rfl (lt_r rfl) rfl ?_
      refine g_iload_n dX7_bars_26 rfl rfl ?_
      refine g_if_eq (tgt := 34) dX7_bars_27 (by decide) (fun c_27 => ?_) (fun c_27 => ?_)
      · first | exact absurd (show (-1 : Int32) = 0 from c_27) (by decide) | (have z0 : whyRow y s = 0 := (neg_nI0 (by omega)).mp c_27; first | exact absurd (show whyRow y s = 1 from if_pos c_5) (by omega) | exact g_le (lvLe_c rfl (lvLe_c rfl (lvLe_c rfl lvLe_0))) (tl_bars h ho c_13 z0))
      · refine g_iload_n dX7_bars_30 rfl rfl ?_
        refine g_goto (tgt := 55) dX7_bars_31 (by decide) ?_
        refine g_iret dX7_bars_55 ⟨_, rfl, ?_⟩
        refine ⟨?_, rfl⟩
        first | (have c8 : ¬ inB' y b := c_13; rw [show whyBack y b s = 1 from if_pos c8]; decide) | (have z0 : ¬ whyRow y s = 0 := fun z => c_27 ((neg_nI0 (by omega)).mpr z); first | (have c9 : ¬ (0 ≤ s ∧ s < nI 8) := c_5; have z1 : whyRow y s = 1 := if_pos c9; rw [whyBack_1 z1, z1]) | (have c8 : inB' y b := c_13; rw [show whyBack y b s = whyRow y s from (if_neg (fun z => z c8)).trans (if_pos z0)]))
theorem lp_isBack1 {q n : Nat} {x1 x2 x3 x4 x5 : Int32} {F : Option Value → MM → Prop} {M1 : MM} (hn : n ≤ 12) (h32 : M1.1 (B + 80) 32 = nI n)
    (hend : ∀ M', Fk B M1 M' [97] [] → (∀ j, j < n → M'.1 (B + 97) j = nI 0) → G E B cX7_isBack (RX7, 7, some .boolean, rmD 4, 0, 0, KM E B F) 36 [(0, .ref (B + 80)), (1, .int x1), (2, .int x2), (3, .int x3), (4, .int x4), (5, .int x5)] [] M') :
    ∀ (m i : Nat), m + i = n → ∀ M', Fk B M1 M' [97] [] → (∀ j, j < i → M'.1 (B + 97) j = nI 0) →
    G E B cX7_isBack (RX7, 7, some .boolean, rmD 4, 0, 0, KM E B F) 13 [(0, .ref (B + 80)), (1, .int x1), (2, .int x2), (3, .int x3), (4, .int x4), (5, .int x5), (6, .int (nI i))] [] M' := by
  intro m
  induction m with
  | zero =>
    intro i h1 M' hF hI
    refine g_iload dX7_isBack_13 rfl ?_
    refine g_aload_n dX7_isBack_15 rfl rfl ?_
    refine g_getI dX7_isBack_16 fl_X7_177 rfl rfl ((hF.j (by decide)).trans h32) ?_
    refine g_icmp_geN (tgt := 36) dX7_isBack_19 (by decide) rfl rfl (by omega) (by omega) (fun c_19 => ?_) (fun c_19 => absurd c_19 (by omega))
    exact g_le (lvLe_c rfl (lvLe_c rfl (lvLe_c rfl (lvLe_c rfl (lvLe_c rfl (lvLe_c rfl lvLe_0)))))) (hend M' hF (fun j hj => hI j (by omega)))
  | succ m ih =>
    intro i h1 M' hF hI
    refine g_iload dX7_isBack_13 rfl ?_
    refine g_aload_n dX7_isBack_15 rfl rfl ?_
    refine g_getI dX7_isBack_16 fl_X7_177 rfl rfl ((hF.j (by decide)).trans h32) ?_
    refine g_icmp_geN (tgt := 36) dX7_isBack_19 (by decide) rfl rfl (by omega) (by omega) (fun c_19 => absurd c_19 (by omega)) (fun c_19 => ?_)
    refine g_aload_n dX7_isBack_22 rfl rfl ?_
    refine g_getR dX7_isBack_23 fl_X7_75 rfl rfl ?_
    refine g_iload dX7_isBack_26 rfl ?_
    refine g_iconst dX7_isBack_28 kI_0 ?_
    refine g_iast dX7_isBack_29 rfl rfl (by omega) ?_
    refine g_iinc dX7_isBack_30 rfl (inc_nI _) rfl ?_
    refine g_goto (tgt := 13) dX7_isBack_33 (by decide) ?_
    exact g_le (lvLe_c rfl (lvLe_c rfl (lvLe_c rfl (lvLe_c rfl (lvLe_c rfl (lvLe_c rfl (lvLe_c rfl lvLe_0))))))) (ih (i + 1) (by omega) _ (hF.tr (Fk.pi (by decide) (by decide))) (fun j hj => by
      by_cases e : j = i
      · subst e; exact upI_s
      · rw [upI_k e]; exact hI j (by omega)))
theorem lp_isBack2 {x : Sh} {q n : Nat} {w : Nat → Nat} {P : Prop} [Decidable P] {M0 : MM} (hq : q < 8) (hn : n ≤ 12) (hx : RWq B M q x) (h1 : x.1 = 1) (hl : n ≤ x.2.2.1) (hl2 : x.2.2.1 ≤ 160) (h32 : M.1 (B + 80) 32 = nI n) (hw : ∀ i, i < n → M.1 (B + 97) i = nI (w i)) (hP : P ↔ asW x w n = true) (hF : Fk B M0 M dA dJ) : ∀ (m i : Nat), m + i = n → (∀ j, j < i → (elI x (nI j)).toInt32 = nI (w j)) →
    G E B cX7_isBack (RX7, 7, some .boolean, rmD 4, 0, 0, KM E B (Ri (fun r M2 => r = bp P ∧ Fk B M0 M2 dA dJ))) 64 [(0, .ref (B + 80)), (2, .int (nI q)), (6, .int (nI i))] [] M := by
  intro m
  induction m with
  | zero =>
    intro i h2 hI
    refine g_iload dX7_isBack_64 rfl ?_
    refine g_aload_n dX7_isBack_66 rfl rfl ?_
    refine g_getI dX7_isBack_67 fl_X7_177 rfl rfl (h32) ?_
    refine g_icmp_geN (tgt := 105) dX7_isBack_70 (by decide) rfl rfl (by omega) (by omega) (fun c_70 => ?_) (fun c_70 => absurd c_70 (by omega))
    refine g_iconst dX7_isBack_105 kI_1 ?_
    refine g_zret dX7_isBack_106 (by first | exact Or.inl rfl | exact Or.inr rfl | exact bp_01) ⟨_, rfl, ?_⟩
    exact ⟨bp_t (hP.mpr ((asW_iff n).mpr (fun j hj => hI j (by omega)))), hF⟩
  | succ m ih =>
    intro i h2 hI
    have he := el_nI (i := i) h1 (by omega) hl2
    refine g_iload dX7_isBack_64 rfl ?_
    refine g_aload_n dX7_isBack_66 rfl rfl ?_
    refine g_getI dX7_isBack_67 fl_X7_177 rfl rfl (h32) ?_
    refine g_icmp_geN (tgt := 105) dX7_isBack_70 (by decide) rfl rfl (by omega) (by omega) (fun c_70 => absurd c_70 (by omega)) (fun c_70 => ?_)
    refine g_aload_n dX7_isBack_73 rfl rfl ?_
    refine g_getR dX7_isBack_74 fl_X7_56 rfl rfl ?_
    refine g_sipush dX7_isBack_77 kS_160 ?_
    refine g_iload_n dX7_isBack_80 rfl rfl ?_
    refine g_imul dX7_isBack_81 (pk_mul _ _) ?_
    refine g_iload dX7_isBack_82 rfl ?_
    refine g_iadd dX7_isBack_84 (nI_add _ _) ?_
    refine g_lald dX7_isBack_85 rfl rfl (by omega) (((hx.2.1 h1).2.2 i (by omega)).trans he.symm) ?_
    refine g_l2i dX7_isBack_86 rfl ?_
    refine g_aload_n dX7_isBack_87 rfl rfl ?_
    refine g_getR dX7_isBack_88 fl_X7_75 rfl rfl ?_
    refine g_iload dX7_isBack_91 rfl ?_
    refine g_iald dX7_isBack_93 rfl rfl (by omega) (hw i (by omega)) ?_
    refine g_icmp_eq (tgt := 99) dX7_isBack_94 (by decide) (fun c_94 => ?_) (fun c_94 => ?_)
    · refine g_iinc dX7_isBack_99 rfl (inc_nI _) rfl ?_
      refine g_goto (tgt := 64) dX7_isBack_102 (by decide) ?_
      exact g_le (lvLe_c rfl (lvLe_c rfl (lvLe_c rfl lvLe_0))) (ih (i + 1) (by omega) (fun j hj => by
        by_cases e : j = i
        · subst e; exact c_94
        · exact hI j (by omega)))
    · refine g_iconst dX7_isBack_97 kI_0 ?_
      refine g_zret dX7_isBack_98 (by first | exact Or.inl rfl | exact Or.inr rfl | exact bp_01) ⟨_, rfl, ?_⟩
      exact ⟨bp_f (fun z => c_94 ((asW_iff n).mp (hP.mp z) i (by omega))), hF⟩
theorem ct_isBack {y : Sys} {b q d t hot : Nat} {M0 : MM} (h : RM B M0 y) (ho : okY y) (hF0 : Fk B M0 M dA dJ) (hb : b < sCn (yN y)) (hq : q < 8) (h1 : (yH y q).1 = 1) (hl : (sBs (yN y) b).2.2.1 ≤ (yH y q).2.2.1) (hd : d ≤ 12) (ht : t ≤ 60) (hh : hot < 2 ^ 31) :
    Ct E B yX7_isBack cX7_isBack 7 (some .boolean) 4 [.ref (B + 80), .int (nI b), .int (nI q), .int (nI d), .int (nI t), .int (nI hot)] M (Ri (fun r M2 => r = bp (backP (sBs (yN y) b) (yH y q) hot d t = true) ∧ Fk B M0 M2 dA dJ)) := by
  have hcn := ho.2.1.2.2.1
  have hob := ho.2.1.1 b hb
  have h12 := hob.2.2.1
  have hR := h.2.1.fk hF0 (by decide) (by decide)
  have hl2 := ((ho.1 q hq).2.1 h1).2
  refine Ct.of2 (own := RX7) (lv := [(0, .ref (B + 80)), (1, .int (nI b)), (2, .int (nI q)), (3, .int (nI d)), (4, .int (nI t)), (5, .int (nI hot))]) pn_X7 rfl (Nat.le_of_ble_eq_true rfl) rfl ?_
  refine g_aload_n dX7_isBack_0 rfl rfl ?_
  refine g_aload_n dX7_isBack_1 rfl rfl ?_
  refine g_getR dX7_isBack_2 fl_X7_35 rfl rfl ?_
  refine g_iload_n dX7_isBack_5 rfl rfl ?_
  refine g_iald dX7_isBack_6 rfl rfl (by omega) ((hR.1 b hb).2.2.1) ?_
  refine g_putI dX7_isBack_7 fp_X7_177 rfl rfl ?_
  refine g_iconst dX7_isBack_10 kI_0 ?_
  refine g_istore dX7_isBack_11 (lt_r rfl) rfl ?_
  refine g_le (lvLe_c rfl (lvLe_c rfl (lvLe_c rfl (lvLe_c rfl (lvLe_c rfl (lvLe_c rfl (lvLe_c rfl lvLe_0))))))) (lp_isBack1 (q := q) h12 upI_s (fun M1 a1 a2 => ?_) (sBs (yN y) b).2.2.1 0 rfl _ Fk.rf (fun j hj => absurd hj (Nat.not_lt_zero j)))
  have hF1 : Fk B M0 (upI M1 (B + 80) 35 (nI 0)) dA dJ := ((hF0.tr (Fk.pj (by decide))).tr (a1.up (by decide) (by decide))).tr (Fk.pj (by decide))
  have hD : RDc B (upI M1 (B + 80) 35 (nI 0)) (M1.1 (B + 80) 34) (newD (dryB (sBs (yN y) b)).2.2.1 (dryB (sBs (yN y) b)).2.2.2) := ⟨by rw [upI_k (by decide), a1.j (by decide), upI_s]; rfl, fun i hi => by rw [upI_ap (by decide)]; exact a2 i hi, by rw [upI_k (by decide)]; exact (Int32.add_zero _).symm, upI_s⟩
  have hk : okD (sBs (yN y) b).1 (sBs (yN y) b).2.1 (0 + t) (dipD (dryB (sBs (yN y) b)) hot d t) := dipD_ok (ok_dry hob)
  have hg : (dipD (dryB (sBs (yN y) b)) hot d t).2.2.2.1 ≤ 12 := by have := hk.2.2.1; omega
  have hn2 : (dipD (dryB (sBs (yN y) b)) hot d t).1 ≤ 12 := hk.1.2.2.1
  refine g_aload_n dX7_isBack_36 rfl rfl ?_
  refine g_iconst dX7_isBack_37 kI_0 ?_
  refine g_putI dX7_isBack_38 fp_X7_183 rfl rfl ?_
  refine g_aload_n dX7_isBack_41 rfl rfl ?_
  refine g_iload_n dX7_isBack_42 rfl rfl ?_
  refine g_iload_n dX7_isBack_43 rfl rfl ?_
  refine g_iload dX7_isBack_44 rfl ?_
  refine g_iload dX7_isBack_46 rfl ?_
  refine g_iconst dX7_isBack_48 kI_0 ?_
  refine g_callVv dX7_isBack_49 mi_X7_dunks ml_X7_210 (ct_dunks (t := 0) (f := false) rfl (h.2.1.fk hF1 (by decide) (by decide)) ho.2.1 hb hh hD (fun z => by cases z) (new_ok (ok_dry hob)) hd ht (by decide)) rfl rfl rfl rfl (Nat.le_of_ble_eq_true rfl) ⟨lt_r rfl, Nat.le_of_ble_eq_true rfl⟩ (fun M49 h49 => ?_)
  obtain ⟨g1, -, g3⟩ := h49
  have g4 : RDc B M49 (M1.1 (B + 80) 34) (dipD (dryB (sBs (yN y) b)) hot d t) := g1
  refine g_aload_n dX7_isBack_52 rfl rfl ?_
  refine g_getI dX7_isBack_53 fl_X7_183 rfl rfl (g4.2.2.2) ?_
  refine g_if_leN (tgt := 61) dX7_isBack_56 (by decide) rfl (by omega) (fun c_56 => ?_) (fun c_56 => ?_)
  · refine g_iconst dX7_isBack_61 kI_0 ?_
    refine g_istore dX7_isBack_62 (lt_r rfl) rfl ?_
    exact g_le (lvLe_c rfl (lvLe_c rfl (lvLe_c rfl lvLe_0))) (lp_isBack2 (P := backP (sBs (yN y) b) (yH y q) hot d t = true) (x := yH y q) hq hn2 (((h.1 q hq).fk hF1 (by decide)).fk g3 (by decide)) h1 (Nat.le_trans (by have := hk.2.2.1; have e0 : (dipD (dryB (sBs (yN y) b)) hot d t).2.2.2.1 = 0 := c_56; have := gone_run (D := entD d (newD (sBs (yN y) b).2.2.1 (fun _ => 0))) (kd := (sBs (yN y) b).1) (a := (sBs (yN y) b).2.1) (h := hot) (t := 0) t; exact this) hl) hl2 g4.1 g4.2.1 (by unfold backP; rw [Bool.and_eq_true]; exact ⟨fun z => z.2, fun z => ⟨decide_eq_true c_56, z⟩⟩) (hF1.tr g3) (dipD (dryB (sBs (yN y) b)) hot d t).1 0 rfl (fun j hj => absurd hj (Nat.not_lt_zero j)))
  · refine g_iconst dX7_isBack_59 kI_0 ?_
    refine g_zret dX7_isBack_60 (by first | exact Or.inl rfl | exact Or.inr rfl | exact bp_01) ⟨_, rfl, ?_⟩
    exact ⟨bp_f (fun z => by unfold backP at z; rw [Bool.and_eq_true] at z; have := of_decide_eq_true z.1; omega), hF1.tr g3⟩
theorem lp_mback {y : Sys} {b q d : Nat} {M0 : MM} (h : RM B M0 y) (ho : okY y) (hb : b < sCn (yN y)) (hq : q < 8) (h1 : (yH y q).1 = 1) (hl : (sBs (yN y) b).2.2.1 ≤ (yH y q).2.2.1) (hd : d ≤ 12) : ∀ (n i : Nat), n + i = 61 → ∀ M', Fk B M0 M' dA dJ →
    G E B cX7_back (RX7, 8, some .long, rmD 5, 0, 0, KM E B (QML B M0 (backF (fun i => backP (sBs (yN y) b) (yH y q) (sHt (yN y)) d i) 61, y))) 44 [(0, .ref (B + 80)), (1, .int (nI b)), (2, .int (nI q)), (3, .int (nI d)), (5, .long (backF (fun i => backP (sBs (yN y) b) (yH y q) (sHt (yN y)) d i) i)), (7, .int (nI i))] [] M' := by
  have hcn := ho.2.1.2.2.1
  intro n
  induction n with
  | zero =>
    intro i h2 M' hF
    refine g_iload dX7_back_44 rfl ?_
    refine g_bipush dX7_back_46 kB_60 ?_
    refine g_icmp_gtN (tgt := 82) dX7_back_48 (by decide) rfl rfl (by omega) (by omega) (fun c_48 => ?_) (fun c_48 => absurd c_48 (by omega))
    refine g_lload dX7_back_82 rfl ?_
    refine g_lret dX7_back_84 ⟨_, rfl, ?_⟩
    have e : i = 61 := by omega
    exact ⟨by rw [e], h.mc hF.d, hF.sm (by decide)⟩
  | succ n ih =>
    intro i h2 M' hF
    refine g_iload dX7_back_44 rfl ?_
    refine g_bipush dX7_back_46 kB_60 ?_
    refine g_icmp_gtN (tgt := 82) dX7_back_48 (by decide) rfl rfl (by omega) (by omega) (fun c_48 => absurd c_48 (by omega)) (fun c_48 => ?_)
    refine g_aload_n dX7_back_51 rfl rfl ?_
    refine g_iload_n dX7_back_52 rfl rfl ?_
    refine g_iload_n dX7_back_53 rfl rfl ?_
    refine g_iload_n dX7_back_54 rfl rfl ?_
    refine g_iload dX7_back_55 rfl ?_
    refine g_aload_n dX7_back_57 rfl rfl ?_
    refine g_getI dX7_back_58 fl_X7_7 rfl rfl ((hF.j (by decide)).trans h.2.1.2.2.2.1) ?_
    refine g_callVi dX7_back_61 mi_X7_isBack ml_X7_256 (ct_isBack h ho hF hb hq h1 hl hd (by omega) ho.2.1.2.2.2.1) rfl rfl rfl rfl (Nat.le_of_ble_eq_true rfl) ⟨lt_r rfl, Nat.le_of_ble_eq_true rfl⟩ (fun x61 M61 h61 => ?_)
    obtain ⟨rfl, g2⟩ := h61
    refine g_if_eq (tgt := 76) dX7_back_64 (by decide) (fun c_64 => ?_) (fun c_64 => ?_)
    · refine g_iinc dX7_back_76 rfl (inc_nI _) rfl ?_
      refine g_goto (tgt := 44) dX7_back_79 (by decide) ?_
      have ih2 := ih (i + 1) (by omega) M61 g2
      first | (rw [backF_n (P := fun i => backP (sBs (yN y) b) (yH y q) (sHt (yN y)) d i) (bp_eq0.mp c_64)] at ih2; exact g_le (lvLe_c rfl (lvLe_c rfl (lvLe_c rfl (lvLe_c rfl (lvLe_c rfl (lvLe_c rfl lvLe_0)))))) ih2) | (rw [backF_t (P := fun i => backP (sBs (yN y) b) (yH y q) (sHt (yN y)) d i) (Classical.not_not.mp (fun z => c_64 (bp_eq0.mpr z)))] at ih2; exact g_le (lvLe_c rfl (lvLe_c rfl (lvLe_c rfl (lvLe_c rfl (lvLe_c rfl (lvLe_c rfl lvLe_0)))))) ih2)
    · refine g_lload dX7_back_67 rfl ?_
      refine g_lconst (v := 1) dX7_back_69 (by decide) ?_
      refine g_iload dX7_back_70 rfl ?_
      refine g_lshl dX7_back_72 rfl ?_
      refine g_lor dX7_back_73 rfl ?_
      refine g_lstore dX7_back_74 (lt_r rfl) rfl ?_
      refine g_iinc dX7_back_76 rfl (inc_nI _) rfl ?_
      refine g_goto (tgt := 44) dX7_back_79 (by decide) ?_
      have ih2 := ih (i + 1) (by omega) M61 g2
      first | (rw [backF_n (P := fun i => backP (sBs (yN y) b) (yH y q) (sHt (yN y)) d i) (bp_eq0.mp c_64)] at ih2; exact g_le (lvLe_c rfl (lvLe_c rfl (lvLe_c rfl (lvLe_c rfl (lvLe_c rfl (lvLe_c rfl lvLe_0)))))) ih2) | (rw [backF_t (P := fun i => backP (sBs (yN y) b) (yH y q) (sHt (yN y)) d i) (Classical.not_not.mp (fun z => c_64 (bp_eq0.mpr z)))] at ih2; exact g_le (lvLe_c rfl (lvLe_c rfl (lvLe_c rfl (lvLe_c rfl (lvLe_c rfl (lvLe_c rfl lvLe_0)))))) ih2)
theorem QML.rf {M2 : MM} {y : Sys} {o : Int64 × Sys} {r : Int32} {w : Nat} (e : o = ((-(nI w)).toInt64, rfz y w)) (h : r = -(nI w) ∧ RM B M2 (rfz y w) ∧ Fk B M M2 [81] []) : r.toInt64 = o.1 ∧ RM B M2 o.2 ∧ Sm B M M2 80 102 := by
  subst e
  exact ⟨congrArg Int32.toInt64 h.1, h.2.1, h.2.2.sm (by decide)⟩
theorem mx_back {y : Sys} {b s d : Int32} (h : RM B M y) (ho : okY y) : Ct E B yX7_back cX7_back 8 (some .long) 5 [.ref (B + 80), .int b, .int s, .int d] M (QML B M (o_back y b s d)) := by
  have hw := whyBack_le (y := y) (b := b) (s := s)
  have hcn := ho.2.1.2.2.1
  refine Ct.of2 (own := RX7) (lv := [(0, .ref (B + 80)), (1, .int b), (2, .int s), (3, .int d)]) pn_X7 rfl (Nat.le_of_ble_eq_true rfl) rfl ?_
  refine g_aload_n dX7_back_0 rfl rfl ?_
  refine g_iload_n dX7_back_1 rfl rfl ?_
  refine g_iload_n dX7_back_2 rfl rfl ?_
  refine g_callVp dX7_back_3 mi_X7_bars ml_X7_253 (ct_bars h ho) rfl rfl rfl rfl (Nat.le_of_ble_eq_true rfl) ⟨lt_r rfl, Nat.le_of_ble_eq_true rfl⟩ ?_
  refine g_istore dX7_back_6 (lt_r rfl) rfl ?_
  refine g_iload dX7_back_8 rfl ?_
  refine g_if_ne (tgt := 25) dX7_back_10 (by decide) (fun c_10 => ?_) (fun c_10 => ?_)
  · refine g_iload dX7_back_25 rfl ?_
    refine g_if_eq (tgt := 38) dX7_back_27 (by decide) (fun c_27 => ?_) (fun c_27 => ?_)
    · have z0 : whyBack y b s = 0 := by first | exact (neg_nI0 (by omega)).mp c_10 | exact absurd c_27 c_10
      have z3 : nI 0 ≤ d ∧ d ≤ nI 12 := by first | exact c_18 | exact absurd (show (-6 : Int32) = 0 from c_27) (by decide) | exact absurd c_27 c_10
      have hB : whyB2 y b s d = 0 := (if_neg (fun z => z z0)).trans (if_pos z3)
      have e9 : o_back y b s d = _ := if_neg (fun z => z hB)
      rw [e9]
      obtain ⟨y1, y2, y3⟩ := whyBack_0 z0
      obtain ⟨d1, d2⟩ := whyRow_0 y2
      obtain ⟨p, hp, rfl, e1⟩ := in_sh d1
      obtain ⟨q, hq, rfl, f1⟩ := in_b hcn y1
      obtain ⟨d', -, hd, rfl, f2⟩ := btw_n (by decide) (by decide) z3
      rw [e1] at d2 y3
      rw [f1] at y3
      rw [e1, f1, f2]
      refine g_lconst (v := 0) dX7_back_38 (by decide) ?_
      refine g_lstore dX7_back_39 (lt_r rfl) rfl ?_
      refine g_iconst dX7_back_41 kI_0 ?_
      refine g_istore dX7_back_42 (lt_r rfl) rfl ?_
      exact g_le (lvLe_c rfl (lvLe_c rfl (lvLe_c rfl (lvLe_c rfl (lvLe_c rfl (lvLe_c rfl lvLe_0)))))) (lp_mback h ho hq hp d2 y3 hd 61 0 rfl M Fk.rf)
    · refine g_aload_n dX7_back_30 rfl rfl ?_
      refine g_iload dX7_back_31 rfl ?_
      refine g_callVi dX7_back_33 mi_X7_no ml_X7_100 (ct_no (w := whyB2 y b s d) h (by first | (have z0 : ¬ whyBack y b s = 0 := fun z => c_10 ((neg_nI0 (by omega)).mpr z); rw [show whyB2 y b s d = whyBack y b s from if_pos z0]) | (have z0 : whyBack y b s = 0 := (neg_nI0 (by omega)).mp c_10; first | (rw [show whyB2 y b s d = 6 from (if_neg (fun z => z z0)).trans (if_neg c_18)]; decide) | exact absurd ((neg_nI0 (by omega)).mpr z0) c_27)) (by unfold whyB2; (repeat' split) <;> omega)) rfl rfl rfl rfl (Nat.le_of_ble_eq_true rfl) ⟨lt_r rfl, Nat.le_of_ble_eq_true rfl⟩ (fun x33 M33 h33 => ?_)
      refine g_i2l dX7_back_36 rfl ?_
      refine g_lret dX7_back_37 ⟨_, rfl, ?_⟩
      exact QML.rf (by have hB : ¬ whyB2 y b s d = 0 := (by first | (have z0 : ¬ whyBack y b s = 0 := fun z => c_10 ((neg_nI0 (by omega)).mpr z); rw [show whyB2 y b s d = whyBack y b s from if_pos z0]; exact z0) | (have z0 : whyBack y b s = 0 := (neg_nI0 (by omega)).mp c_10; first | (rw [show whyB2 y b s d = 6 from (if_neg (fun z => z z0)).trans (if_neg c_18)]; decide) | exact absurd ((neg_nI0 (by omega)).mpr z0) c_27)); unfold o_back; rw [if_pos hB]) h33
  · refine g_aload_n dX7_back_13 rfl rfl ?_
    refine g_iload_n dX7_back_14 rfl rfl ?_
    refine g_callVp dX7_back_15 mi_X7_isDeep ml_X7_220 (ct_X7_isDeep) rfl rfl rfl rfl (Nat.le_of_ble_eq_true rfl) ⟨lt_r rfl, Nat.le_of_ble_eq_true rfl⟩ ?_
    refine g_if_neP (tgt := 25) dX7_back_18 (by decide) (fun c_18 => ?_) (fun c_18 => ?_)
    · refine g_iload dX7_back_25 rfl ?_
      refine g_if_eq (tgt := 38) dX7_back_27 (by decide) (fun c_27 => ?_) (fun c_27 => ?_)
      · have z0 : whyBack y b s = 0 := by first | exact (neg_nI0 (by omega)).mp c_10 | exact absurd c_27 c_10
        have z3 : nI 0 ≤ d ∧ d ≤ nI 12 := by first | exact c_18 | exact absurd (show (-6 : Int32) = 0 from c_27) (by decide) | exact absurd c_27 c_10
        have hB : whyB2 y b s d = 0 := (if_neg (fun z => z z0)).trans (if_pos z3)
        have e9 : o_back y b s d = _ := if_neg (fun z => z hB)
        rw [e9]
        obtain ⟨y1, y2, y3⟩ := whyBack_0 z0
        obtain ⟨d1, d2⟩ := whyRow_0 y2
        obtain ⟨p, hp, rfl, e1⟩ := in_sh d1
        obtain ⟨q, hq, rfl, f1⟩ := in_b hcn y1
        obtain ⟨d', -, hd, rfl, f2⟩ := btw_n (by decide) (by decide) z3
        rw [e1] at d2 y3
        rw [f1] at y3
        rw [e1, f1, f2]
        refine g_lconst (v := 0) dX7_back_38 (by decide) ?_
        refine g_lstore dX7_back_39 (lt_r rfl) rfl ?_
        refine g_iconst dX7_back_41 kI_0 ?_
        refine g_istore dX7_back_42 (lt_r rfl) rfl ?_
        exact g_le (lvLe_c rfl (lvLe_c rfl (lvLe_c rfl (lvLe_c rfl (lvLe_c rfl (lvLe_c rfl lvLe_0)))))) (lp_mback h ho hq hp d2 y3 hd 61 0 rfl M Fk.rf)
      · refine g_aload_n dX7_back_30 rfl rfl ?_
        refine g_iload dX7_back_31 rfl ?_
        refine g_callVi dX7_back_33 mi_X7_no ml_X7_100 (ct_no (w := whyB2 y b s d) h (by first | (have z0 : ¬ whyBack y b s = 0 := fun z => c_10 ((neg_nI0 (by omega)).mpr z); rw [show whyB2 y b s d = whyBack y b s from if_pos z0]) | (have z0 : whyBack y b s = 0 := (neg_nI0 (by omega)).mp c_10; first | (rw [show whyB2 y b s d = 6 from (if_neg (fun z => z z0)).trans (if_neg c_18)]; decide) | exact absurd ((neg_nI0 (by omega)).mpr z0) c_27)) (by unfold whyB2; (repeat' split) <;> omega)) rfl rfl rfl rfl (Nat.le_of_ble_eq_true rfl) ⟨lt_r rfl, Nat.le_of_ble_eq_true rfl⟩ (fun x33 M33 h33 => ?_)
        refine g_i2l dX7_back_36 rfl ?_
        refine g_lret dX7_back_37 ⟨_, rfl, ?_⟩
        exact QML.rf (by have hB : ¬ whyB2 y b s d = 0 := (by first | (have z0 : ¬ whyBack y b s = 0 := fun z => c_10 ((neg_nI0 (by omega)).mpr z); rw [show whyB2 y b s d = whyBack y b s from if_pos z0]; exact z0) | (have z0 : whyBack y b s = 0 := (neg_nI0 (by omega)).mp c_10; first | (rw [show whyB2 y b s d = 6 from (if_neg (fun z => z z0)).trans (if_neg c_18)]; decide) | exact absurd ((neg_nI0 (by omega)).mpr z0) c_27)); unfold o_back; rw [if_pos hB]) h33
    · refine g_bipush dX7_back_21 kB_m6 ?_
      refine g_istore dX7_back_23 (lt_r rfl) rfl ?_
      refine g_iload dX7_back_25 rfl ?_
      refine g_if_eq (tgt := 38) dX7_back_27 (by decide) (fun c_27 => ?_) (fun c_27 => ?_)
      · have z0 : whyBack y b s = 0 := by first | exact (neg_nI0 (by omega)).mp c_10 | exact absurd c_27 c_10
        have z3 : nI 0 ≤ d ∧ d ≤ nI 12 := by first | exact c_18 | exact absurd (show (-6 : Int32) = 0 from c_27) (by decide) | exact absurd c_27 c_10
        have hB : whyB2 y b s d = 0 := (if_neg (fun z => z z0)).trans (if_pos z3)
        have e9 : o_back y b s d = _ := if_neg (fun z => z hB)
        rw [e9]
        obtain ⟨y1, y2, y3⟩ := whyBack_0 z0
        obtain ⟨d1, d2⟩ := whyRow_0 y2
        obtain ⟨p, hp, rfl, e1⟩ := in_sh d1
        obtain ⟨q, hq, rfl, f1⟩ := in_b hcn y1
        obtain ⟨d', -, hd, rfl, f2⟩ := btw_n (by decide) (by decide) z3
        rw [e1] at d2 y3
        rw [f1] at y3
        rw [e1, f1, f2]
        refine g_lconst (v := 0) dX7_back_38 (by decide) ?_
        refine g_lstore dX7_back_39 (lt_r rfl) rfl ?_
        refine g_iconst dX7_back_41 kI_0 ?_
        refine g_istore dX7_back_42 (lt_r rfl) rfl ?_
        exact g_le (lvLe_c rfl (lvLe_c rfl (lvLe_c rfl (lvLe_c rfl (lvLe_c rfl (lvLe_c rfl lvLe_0)))))) (lp_mback h ho hq hp d2 y3 hd 61 0 rfl M Fk.rf)
      · refine g_aload_n dX7_back_30 rfl rfl ?_
        refine g_iload dX7_back_31 rfl ?_
        refine g_callVi dX7_back_33 mi_X7_no ml_X7_100 (ct_no (w := whyB2 y b s d) h (by first | (have z0 : ¬ whyBack y b s = 0 := fun z => c_10 ((neg_nI0 (by omega)).mpr z); rw [show whyB2 y b s d = whyBack y b s from if_pos z0]) | (have z0 : whyBack y b s = 0 := (neg_nI0 (by omega)).mp c_10; first | (rw [show whyB2 y b s d = 6 from (if_neg (fun z => z z0)).trans (if_neg c_18)]; decide) | exact absurd ((neg_nI0 (by omega)).mpr z0) c_27)) (by unfold whyB2; (repeat' split) <;> omega)) rfl rfl rfl rfl (Nat.le_of_ble_eq_true rfl) ⟨lt_r rfl, Nat.le_of_ble_eq_true rfl⟩ (fun x33 M33 h33 => ?_)
        refine g_i2l dX7_back_36 rfl ?_
        refine g_lret dX7_back_37 ⟨_, rfl, ?_⟩
        exact QML.rf (by have hB : ¬ whyB2 y b s d = 0 := (by first | (have z0 : ¬ whyBack y b s = 0 := fun z => c_10 ((neg_nI0 (by omega)).mpr z); rw [show whyB2 y b s d = whyBack y b s from if_pos z0]; exact z0) | (have z0 : whyBack y b s = 0 := (neg_nI0 (by omega)).mp c_10; first | (rw [show whyB2 y b s d = 6 from (if_neg (fun z => z z0)).trans (if_neg c_18)]; decide) | exact absurd ((neg_nI0 (by omega)).mpr z0) c_27)); unfold o_back; rw [if_pos hB]) h33
theorem lp_mheats {y : Sys} {b q d t : Nat} {R : Int32} {M0 : MM} (h : RM B M0 y) (ho : okY y) (hb : b < sCn (yN y)) (hq : q < 8) (h1 : (yH y q).1 = 1) (hl : (sBs (yN y) b).2.2.1 ≤ (yH y q).2.2.1) (hd : d ≤ 12) (ht : t ≤ 60) : ∀ (n i : Nat), n + i = 100 → h1F (fun h => backP (sBs (yN y) b) (yH y q) h d t) n i = R → ∀ M', Fk B M0 M' dA dJ →
    G E B cX7_heats (RX7, 7, some .int, rmD 5, 0, 0, KM E B (QM B M0 (R, y))) 43 [(0, .ref (B + 80)), (1, .int (nI b)), (2, .int (nI q)), (3, .int (nI d)), (4, .int (nI t)), (6, .int (nI i))] [] M' := by
  have hcn := ho.2.1.2.2.1
  intro n
  induction n with
  | zero =>
    intro i h2 hR M' hF
    refine g_iload dX7_heats_43 rfl ?_
    refine g_bipush dX7_heats_45 kB_99 ?_
    refine g_icmp_gtN (tgt := 73) dX7_heats_47 (by decide) rfl rfl (by omega) (by omega) (fun c_47 => ?_) (fun c_47 => absurd c_47 (by omega))
    refine g_iconst dX7_heats_73 kI_m1 ?_
    refine g_iret dX7_heats_74 ⟨_, rfl, ?_⟩
    exact QM.s h hF.d (by rw [← hR]; rfl)
  | succ n ih =>
    intro i h2 hR M' hF
    refine g_iload dX7_heats_43 rfl ?_
    refine g_bipush dX7_heats_45 kB_99 ?_
    refine g_icmp_gtN (tgt := 73) dX7_heats_47 (by decide) rfl rfl (by omega) (by omega) (fun c_47 => absurd c_47 (by omega)) (fun c_47 => ?_)
    refine g_aload_n dX7_heats_50 rfl rfl ?_
    refine g_iload_n dX7_heats_51 rfl rfl ?_
    refine g_iload_n dX7_heats_52 rfl rfl ?_
    refine g_iload_n dX7_heats_53 rfl rfl ?_
    refine g_iload dX7_heats_54 rfl ?_
    refine g_iload dX7_heats_56 rfl ?_
    refine g_callVi dX7_heats_58 mi_X7_isBack ml_X7_256 (ct_isBack h ho hF hb hq h1 hl hd ht (by omega)) rfl rfl rfl rfl (Nat.le_of_ble_eq_true rfl) ⟨lt_r rfl, Nat.le_of_ble_eq_true rfl⟩ (fun x58 M58 h58 => ?_)
    obtain ⟨rfl, g2⟩ := h58
    refine g_if_eq (tgt := 67) dX7_heats_61 (by decide) (fun c_61 => ?_) (fun c_61 => ?_)
    · refine g_iinc dX7_heats_67 rfl (inc_nI _) rfl ?_
      refine g_goto (tgt := 43) dX7_heats_70 (by decide) ?_
      exact g_le (lvLe_c rfl (lvLe_c rfl (lvLe_c rfl (lvLe_c rfl (lvLe_c rfl (lvLe_c rfl lvLe_0)))))) (ih (i + 1) (by omega) ((h1F_n (P := fun h => backP (sBs (yN y) b) (yH y q) h d t) (bp_eq0.mp c_61)).symm.trans hR) M58 g2)
    · refine g_iload dX7_heats_64 rfl ?_
      refine g_iret dX7_heats_66 ⟨_, rfl, ?_⟩
      exact QM.s h g2.d (by rw [← hR, h1F_t (P := fun h => backP (sBs (yN y) b) (yH y q) h d t) (Classical.not_not.mp (fun z => c_61 (bp_eq0.mpr z)))])
theorem mx_heats {y : Sys} {b s d t : Int32} (h : RM B M y) (ho : okY y) : Ct E B yX7_heats cX7_heats 7 (some .int) 5 [.ref (B + 80), .int b, .int s, .int d, .int t] M (QM B M (o_heats y b s d t)) := by
  have hw := whyBack_le (y := y) (b := b) (s := s)
  have hcn := ho.2.1.2.2.1
  refine Ct.of2 (own := RX7) (lv := [(0, .ref (B + 80)), (1, .int b), (2, .int s), (3, .int d), (4, .int t)]) pn_X7 rfl (Nat.le_of_ble_eq_true rfl) rfl ?_
  refine g_aload_n dX7_heats_0 rfl rfl ?_
  refine g_iload_n dX7_heats_1 rfl rfl ?_
  refine g_iload_n dX7_heats_2 rfl rfl ?_
  refine g_callVp dX7_heats_3 mi_X7_bars ml_X7_253 (ct_bars h ho) rfl rfl rfl rfl (Nat.le_of_ble_eq_true rfl) ⟨lt_r rfl, Nat.le_of_ble_eq_true rfl⟩ ?_
  refine g_istore dX7_heats_6 (lt_r rfl) rfl ?_
  refine g_iload dX7_heats_8 rfl ?_
  refine g_if_ne (tgt := 28) dX7_heats_10 (by decide) (fun c_10 => ?_) (fun c_10 => ?_)
  · refine g_iload dX7_heats_28 rfl ?_
    refine g_if_eq (tgt := 40) dX7_heats_30 (by decide) (fun c_30 => ?_) (fun c_30 => ?_)
    · have z0 : whyBack y b s = 0 := by first | exact (neg_nI0 (by omega)).mp c_10 | exact absurd c_30 c_10
      have z3 : dOk d t (nI 0) := by first | exact c_21 | exact absurd (show (-6 : Int32) = 0 from c_30) (by decide) | exact absurd c_30 c_10
      have hB : whyB3 y b s d t = 0 := (if_neg (fun z => z z0)).trans (if_pos z3)
      have e9 : o_heats y b s d t = _ := if_neg (fun z => z hB)
      rw [e9]
      obtain ⟨y1, y2, y3⟩ := whyBack_0 z0
      obtain ⟨d1, d2⟩ := whyRow_0 y2
      obtain ⟨z4, z5, -⟩ := z3
      obtain ⟨p, hp, rfl, e1⟩ := in_sh d1
      obtain ⟨q, hq, rfl, f1⟩ := in_b hcn y1
      obtain ⟨d', -, hd, rfl, f2⟩ := btw_n (by decide) (by decide) z4
      obtain ⟨t', -, ht, rfl, f3⟩ := btw_n (by decide) (by decide) z5
      rw [e1] at d2 y3
      rw [f1] at y3
      rw [e1, f1, f2, f3]
      refine g_iconst dX7_heats_40 kI_0 ?_
      refine g_istore dX7_heats_41 (lt_r rfl) rfl ?_
      exact g_le (lvLe_c rfl (lvLe_c rfl (lvLe_c rfl (lvLe_c rfl (lvLe_c rfl (lvLe_c rfl lvLe_0)))))) (lp_mheats (b := q) (q := p) (d := d') (t := t') (R := heatF (fun h => backP (sBs (yN y) q) (yH y p) h d' t') 10 0) h ho hq hp d2 y3 hd ht 100 0 rfl (h1F_heat (P := fun h => backP (sBs (yN y) q) (yH y p) h d' t') (fun h h' e => backP_h e) 10 0) M Fk.rf)
    · refine g_aload_n dX7_heats_33 rfl rfl ?_
      refine g_iload dX7_heats_34 rfl ?_
      refine g_callVi dX7_heats_36 mi_X7_noTen ml_X7_217 (ct_noTen (w := whyB3 y b s d t) h (by first | (have z0 : ¬ whyBack y b s = 0 := fun z => c_10 ((neg_nI0 (by omega)).mpr z); rw [show whyB3 y b s d t = whyBack y b s from if_pos z0]) | (have z0 : whyBack y b s = 0 := (neg_nI0 (by omega)).mp c_10; first | (rw [show whyB3 y b s d t = 6 from (if_neg (fun z => z z0)).trans (if_neg c_21)]; decide) | exact absurd ((neg_nI0 (by omega)).mpr z0) c_30)) (by unfold whyB3; (repeat' split) <;> omega)) rfl rfl rfl rfl (Nat.le_of_ble_eq_true rfl) ⟨lt_r rfl, Nat.le_of_ble_eq_true rfl⟩ (fun x36 M36 h36 => ?_)
      refine g_iret dX7_heats_39 ⟨_, rfl, ?_⟩
      exact QM.rl (by have hB : ¬ whyB3 y b s d t = 0 := (by first | (have z0 : ¬ whyBack y b s = 0 := fun z => c_10 ((neg_nI0 (by omega)).mpr z); rw [show whyB3 y b s d t = whyBack y b s from if_pos z0]; exact z0) | (have z0 : whyBack y b s = 0 := (neg_nI0 (by omega)).mp c_10; first | (rw [show whyB3 y b s d t = 6 from (if_neg (fun z => z z0)).trans (if_neg c_21)]; decide) | exact absurd ((neg_nI0 (by omega)).mpr z0) c_30)); unfold o_heats; rw [if_pos hB]) h36
  · refine g_aload_n dX7_heats_13 rfl rfl ?_
    refine g_iload_n dX7_heats_14 rfl rfl ?_
    refine g_iload dX7_heats_15 rfl ?_
    refine g_iconst dX7_heats_17 kI_0 ?_
    refine g_callVp dX7_heats_18 mi_X7_may ml_X7_226 (ct_X7_may) rfl rfl rfl rfl (Nat.le_of_ble_eq_true rfl) ⟨lt_r rfl, Nat.le_of_ble_eq_true rfl⟩ ?_
    refine g_if_neP (tgt := 28) dX7_heats_21 (by decide) (fun c_21 => ?_) (fun c_21 => ?_)
    · refine g_iload dX7_heats_28 rfl ?_
      refine g_if_eq (tgt := 40) dX7_heats_30 (by decide) (fun c_30 => ?_) (fun c_30 => ?_)
      · have z0 : whyBack y b s = 0 := by first | exact (neg_nI0 (by omega)).mp c_10 | exact absurd c_30 c_10
        have z3 : dOk d t (nI 0) := by first | exact c_21 | exact absurd (show (-6 : Int32) = 0 from c_30) (by decide) | exact absurd c_30 c_10
        have hB : whyB3 y b s d t = 0 := (if_neg (fun z => z z0)).trans (if_pos z3)
        have e9 : o_heats y b s d t = _ := if_neg (fun z => z hB)
        rw [e9]
        obtain ⟨y1, y2, y3⟩ := whyBack_0 z0
        obtain ⟨d1, d2⟩ := whyRow_0 y2
        obtain ⟨z4, z5, -⟩ := z3
        obtain ⟨p, hp, rfl, e1⟩ := in_sh d1
        obtain ⟨q, hq, rfl, f1⟩ := in_b hcn y1
        obtain ⟨d', -, hd, rfl, f2⟩ := btw_n (by decide) (by decide) z4
        obtain ⟨t', -, ht, rfl, f3⟩ := btw_n (by decide) (by decide) z5
        rw [e1] at d2 y3
        rw [f1] at y3
        rw [e1, f1, f2, f3]
        refine g_iconst dX7_heats_40 kI_0 ?_
        refine g_istore dX7_heats_41 (lt_r rfl) rfl ?_
        exact g_le (lvLe_c rfl (lvLe_c rfl (lvLe_c rfl (lvLe_c rfl (lvLe_c rfl (lvLe_c rfl lvLe_0)))))) (lp_mheats (b := q) (q := p) (d := d') (t := t') (R := heatF (fun h => backP (sBs (yN y) q) (yH y p) h d' t') 10 0) h ho hq hp d2 y3 hd ht 100 0 rfl (h1F_heat (P := fun h => backP (sBs (yN y) q) (yH y p) h d' t') (fun h h' e => backP_h e) 10 0) M Fk.rf)
      · refine g_aload_n dX7_heats_33 rfl rfl ?_
        refine g_iload dX7_heats_34 rfl ?_
        refine g_callVi dX7_heats_36 mi_X7_noTen ml_X7_217 (ct_noTen (w := whyB3 y b s d t) h (by first | (have z0 : ¬ whyBack y b s = 0 := fun z => c_10 ((neg_nI0 (by omega)).mpr z); rw [show whyB3 y b s d t = whyBack y b s from if_pos z0]) | (have z0 : whyBack y b s = 0 := (neg_nI0 (by omega)).mp c_10; first | (rw [show whyB3 y b s d t = 6 from (if_neg (fun z => z z0)).trans (if_neg c_21)]; decide) | exact absurd ((neg_nI0 (by omega)).mpr z0) c_30)) (by unfold whyB3; (repeat' split) <;> omega)) rfl rfl rfl rfl (Nat.le_of_ble_eq_true rfl) ⟨lt_r rfl, Nat.le_of_ble_eq_true rfl⟩ (fun x36 M36 h36 => ?_)
        refine g_iret dX7_heats_39 ⟨_, rfl, ?_⟩
        exact QM.rl (by have hB : ¬ whyB3 y b s d t = 0 := (by first | (have z0 : ¬ whyBack y b s = 0 := fun z => c_10 ((neg_nI0 (by omega)).mpr z); rw [show whyB3 y b s d t = whyBack y b s from if_pos z0]; exact z0) | (have z0 : whyBack y b s = 0 := (neg_nI0 (by omega)).mp c_10; first | (rw [show whyB3 y b s d t = 6 from (if_neg (fun z => z z0)).trans (if_neg c_21)]; decide) | exact absurd ((neg_nI0 (by omega)).mpr z0) c_30)); unfold o_heats; rw [if_pos hB]) h36
    · refine g_bipush dX7_heats_24 kB_m6 ?_
      refine g_istore dX7_heats_26 (lt_r rfl) rfl ?_
      refine g_iload dX7_heats_28 rfl ?_
      refine g_if_eq (tgt := 40) dX7_heats_30 (by decide) (fun c_30 => ?_) (fun c_30 => ?_)
      · have z0 : whyBack y b s = 0 := by first | exact (neg_nI0 (by omega)).mp c_10 | exact absurd c_30 c_10
        have z3 : dOk d t (nI 0) := by first | exact c_21 | exact absurd (show (-6 : Int32) = 0 from c_30) (by decide) | exact absurd c_30 c_10
        have hB : whyB3 y b s d t = 0 := (if_neg (fun z => z z0)).trans (if_pos z3)
        have e9 : o_heats y b s d t = _ := if_neg (fun z => z hB)
        rw [e9]
        obtain ⟨y1, y2, y3⟩ := whyBack_0 z0
        obtain ⟨d1, d2⟩ := whyRow_0 y2
        obtain ⟨z4, z5, -⟩ := z3
        obtain ⟨p, hp, rfl, e1⟩ := in_sh d1
        obtain ⟨q, hq, rfl, f1⟩ := in_b hcn y1
        obtain ⟨d', -, hd, rfl, f2⟩ := btw_n (by decide) (by decide) z4
        obtain ⟨t', -, ht, rfl, f3⟩ := btw_n (by decide) (by decide) z5
        rw [e1] at d2 y3
        rw [f1] at y3
        rw [e1, f1, f2, f3]
        refine g_iconst dX7_heats_40 kI_0 ?_
        refine g_istore dX7_heats_41 (lt_r rfl) rfl ?_
        exact g_le (lvLe_c rfl (lvLe_c rfl (lvLe_c rfl (lvLe_c rfl (lvLe_c rfl (lvLe_c rfl lvLe_0)))))) (lp_mheats (b := q) (q := p) (d := d') (t := t') (R := heatF (fun h => backP (sBs (yN y) q) (yH y p) h d' t') 10 0) h ho hq hp d2 y3 hd ht 100 0 rfl (h1F_heat (P := fun h => backP (sBs (yN y) q) (yH y p) h d' t') (fun h h' e => backP_h e) 10 0) M Fk.rf)
      · refine g_aload_n dX7_heats_33 rfl rfl ?_
        refine g_iload dX7_heats_34 rfl ?_
        refine g_callVi dX7_heats_36 mi_X7_noTen ml_X7_217 (ct_noTen (w := whyB3 y b s d t) h (by first | (have z0 : ¬ whyBack y b s = 0 := fun z => c_10 ((neg_nI0 (by omega)).mpr z); rw [show whyB3 y b s d t = whyBack y b s from if_pos z0]) | (have z0 : whyBack y b s = 0 := (neg_nI0 (by omega)).mp c_10; first | (rw [show whyB3 y b s d t = 6 from (if_neg (fun z => z z0)).trans (if_neg c_21)]; decide) | exact absurd ((neg_nI0 (by omega)).mpr z0) c_30)) (by unfold whyB3; (repeat' split) <;> omega)) rfl rfl rfl rfl (Nat.le_of_ble_eq_true rfl) ⟨lt_r rfl, Nat.le_of_ble_eq_true rfl⟩ (fun x36 M36 h36 => ?_)
        refine g_iret dX7_heats_39 ⟨_, rfl, ?_⟩
        exact QM.rl (by have hB : ¬ whyB3 y b s d t = 0 := (by first | (have z0 : ¬ whyBack y b s = 0 := fun z => c_10 ((neg_nI0 (by omega)).mpr z); rw [show whyB3 y b s d t = whyBack y b s from if_pos z0]; exact z0) | (have z0 : whyBack y b s = 0 := (neg_nI0 (by omega)).mp c_10; first | (rw [show whyB3 y b s d t = 6 from (if_neg (fun z => z z0)).trans (if_neg c_21)]; decide) | exact absurd ((neg_nI0 (by omega)).mpr z0) c_30)); unfold o_heats; rw [if_pos hB]) h36
end X7J
