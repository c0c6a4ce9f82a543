/-! longest, far: second by second -/
theorem longF_t {g : Nat → Nat} {n i : Nat} (h : g i = 0) : longF g (n + 1) i = longF g n (i + 1) := if_pos h
theorem longF_n {g : Nat → Nat} {n i : Nat} (h : ¬ g i = 0) : longF g (n + 1) i = nI i - nI 1 := if_neg h
theorem ent_0 {D : Dk} (h : D.2.2.1 = 0) : entD 0 D = D := by
  obtain ⟨a, b, c, d⟩ := D
  have h : c = 0 := h
  subst h
  show (a, b, min 0 a, d) = (a, b, 0, d)
  rw [Nat.zero_min]
theorem sec_d0 {kd a h t : Nat} {D : Dk} (hz : D.2.2.1 = 0) : (sec kd a h t D).2.2.1 = 0 := by
  unfold sec
  dsimp only
  split
  · exact hz
  · show D.2.2.1 - _ = 0; omega
theorem run_d0 {kd a h t : Nat} {D : Dk} : ∀ n, (runD kd a h t (entD 0 D) n).2.2.1 = 0
  | 0 => Nat.zero_min _
  | n + 1 => sec_d0 (run_d0 n)
theorem ent_run {kd a h t n : Nat} {D : Dk} : entD 0 (runD kd a h t (entD 0 D) n) = runD kd a h t (entD 0 D) n := ent_0 (run_d0 n)
section X6F
variable {E : EE} {B : Nat} {M : MM}
theorem tl_longest {y : Sys} {b : Bi} {h d i c : Nat} {R : Int32} {M0 : MM} (hb : okB b) (hh : h < 2 ^ 31) (hc : c ≤ 60) (hi : i ≤ 60) (hY : RY B M0 y) (ho : okY y) (hS : Sm B M0 M 47 53) (hR : RD B M 47 b.1 b.2.1 h (0 + i) (dipD b h d i))
    (h0 : ¬ (dunkD b h d i c).2.2.2.1 = 0 → R = nI i - nI 1)
    (h1 : (dunkD b h d i c).2.2.2.1 = 0 → ∀ M', Sm B M M' 50 53 → G E B cX6_longest (RX6, 6, some .int, rmD 5, 0, 0, KM E B (QY B M0 (R, y))) 59 [(0, .ref (B + 0)), (3, .int (nI c)), (5, .int (nI (i + 1)))] [] M') :
    G E B cX6_longest (RX6, 6, some .int, rmD 5, 0, 0, KM E B (QY B M0 (R, y))) 79 [(0, .ref (B + 0)), (3, .int (nI c)), (5, .int (nI i))] [] M := by
  refine g_aload_n dX6_longest_79 rfl rfl ?_
  refine g_getR dX6_longest_80 fl_X6_35 rfl rfl ?_
  refine g_aload_n dX6_longest_83 rfl rfl ?_
  refine g_getR dX6_longest_84 fl_X6_31 rfl rfl ?_
  refine g_callVv dX6_longest_87 mi_X2_goOnFrom ml_X6_243 (ct_X2_goOnFrom isD_50 isD_47 (by omega) hR (dipD_ok hb)) isD_50.1 rfl rfl rfl (Nat.le_of_ble_eq_true rfl) ⟨lt_r rfl, Nat.le_of_ble_eq_true rfl⟩ (fun M87 h87 => ?_)
  refine g_aload_n dX6_longest_90 rfl rfl ?_
  refine g_getR dX6_longest_91 fl_X6_35 rfl rfl ?_
  refine g_iconst dX6_longest_94 kI_0 ?_
  refine g_iload_n dX6_longest_95 rfl rfl ?_
  refine g_callVv dX6_longest_96 mi_X2_stay ml_X6_247 (ct_X2_stay isD_50 (d := 0) h87.1 (dipD_ok hb) hh (by decide) (by omega)) isD_50.1 rfl rfl rfl (Nat.le_of_ble_eq_true rfl) ⟨lt_r rfl, Nat.le_of_ble_eq_true rfl⟩ (fun M96 h96 => ?_)
  refine g_aload_n dX6_longest_99 rfl rfl ?_
  refine g_getR dX6_longest_100 fl_X6_35 rfl rfl ?_
  refine g_callVp dX6_longest_103 mi_X2_isWhole ml_X6_250 (ct_X2_isWhole isD_50 h96.1 (dunk_ok hb)) isD_50.1 rfl rfl rfl (Nat.le_of_ble_eq_true rfl) ⟨lt_r rfl, Nat.le_of_ble_eq_true rfl⟩ ?_
  refine g_if_neP (tgt := 114) dX6_longest_106 (by decide) (fun c_106 => ?_) (fun c_106 => ?_)
  · refine g_iinc dX6_longest_114 rfl (inc_nI _) rfl ?_
    refine g_goto (tgt := 59) dX6_longest_117 (by decide) ?_
    exact g_le (lvLe_c rfl (lvLe_c rfl (lvLe_c rfl lvLe_0))) (h1 c_106 _ (Sm.tr h87.2 h96.2))
  · refine g_iload dX6_longest_109 rfl ?_
    refine g_iconst dX6_longest_111 kI_1 ?_
    refine g_isub dX6_longest_112 (rfl) ?_
    refine g_iret dX6_longest_113 ⟨_, rfl, ?_⟩
    exact QY.s hY ho (Sc.s (Sm.tr hS ((Sm.tr h87.2 h96.2).up (by omega) (by omega))) (by omega)) (by rw [h0 c_106])
theorem lp_longest {y : Sys} {b : Bi} {h d c : Nat} {R : Int32} {M0 : MM} (hY : RY B M0 y) (ho : okY y) (hb : okB b) (hh : h < 2 ^ 31) (hc : c ≤ 60) : ∀ (n i : Nat), n + i = 61 → longF (fun i => (dunkD b h d i c).2.2.2.1) n i = R → ∀ M', RD B M' 47 b.1 b.2.1 h (0 + (i - 1)) (dipD b h d (i - 1)) → Sm B M0 M' 47 53 →
    G E B cX6_longest (RX6, 6, some .int, rmD 5, 0, 0, KM E B (QY B M0 (R, y))) 59 [(0, .ref (B + 0)), (3, .int (nI c)), (5, .int (nI i))] [] M' := by
  intro n
  induction n with
  | zero =>
    intro i h1 hR M' hD hS
    refine g_iload dX6_longest_59 rfl ?_
    refine g_bipush dX6_longest_61 kB_60 ?_
    refine g_icmp_gtN (tgt := 120) dX6_longest_63 (by decide) rfl rfl (by omega) (by omega) (fun c_63 => ?_) (fun c_63 => absurd c_63 (by omega))
    refine g_bipush dX6_longest_120 kB_60 ?_
    refine g_iret dX6_longest_122 ⟨_, rfl, ?_⟩
    exact QY.s hY ho (Sc.s hS (by omega)) (by rw [← hR]; rfl)
  | succ n ih =>
    intro i h1 hR M' hD hS
    refine g_iload dX6_longest_59 rfl ?_
    refine g_bipush dX6_longest_61 kB_60 ?_
    refine g_icmp_gtN (tgt := 120) dX6_longest_63 (by decide) rfl rfl (by omega) (by omega) (fun c_63 => absurd c_63 (by omega)) (fun c_63 => ?_)
    refine g_iload dX6_longest_66 rfl ?_
    refine g_if_leN (tgt := 79) dX6_longest_68 (by decide) rfl (by omega) (fun c_68 => ?_) (fun c_68 => ?_)
    · first | (have c_68 : i = 0 := c_68; subst c_68; exact tl_longest hb hh hc (by omega) hY ho hS hD (fun z => hR.symm.trans (longF_n z)) (fun z M2 hS2 => ih (0 + 1) (by omega) ((longF_t z).symm.trans hR) M2 (RD.sm (k := 47) hD hS2 (by omega)) (Sm.tr hS (hS2.up (by omega) (by omega))))) | (obtain ⟨⟨g1, g2⟩, -, -⟩ := h75; exact tl_longest hb hh hc (by omega) hY ho (Sm.tr hS (g2.up (by omega) (by omega))) g1 (fun z => hR.symm.trans (longF_n z)) (fun z M2 hS2 => ih (j + 1 + 1) (by omega) ((longF_t z).symm.trans hR) M2 (g1.sm hS2 (by omega)) (Sm.tr (Sm.tr hS (g2.up (by omega) (by omega))) (hS2.up (by omega) (by omega)))))
    · obtain ⟨j, rfl⟩ : ∃ j, i = j + 1 := ⟨i - 1, by omega⟩
      have hD : RD B M' 47 b.1 b.2.1 h (0 + j) (dipD b h d j) := hD
      refine g_aload_n dX6_longest_71 rfl rfl ?_
      refine g_getR dX6_longest_72 fl_X6_31 rfl rfl ?_
      refine g_callVi dX6_longest_75 mi_X2_second ml_X6_240 (ct_X2_second isD_47 hD (dipD_ok hb) (by omega) hh) isD_47.1 rfl rfl rfl (Nat.le_of_ble_eq_true rfl) ⟨lt_r rfl, Nat.le_of_ble_eq_true rfl⟩ (fun x75 M75 h75 => ?_)
      refine g_pop dX6_longest_78 rfl ?_
      first | (have c_68 : i = 0 := c_68; subst c_68; exact tl_longest hb hh hc (by omega) hY ho hS hD (fun z => hR.symm.trans (longF_n z)) (fun z M2 hS2 => ih (0 + 1) (by omega) ((longF_t z).symm.trans hR) M2 (RD.sm (k := 47) hD hS2 (by omega)) (Sm.tr hS (hS2.up (by omega) (by omega))))) | (obtain ⟨⟨g1, g2⟩, -, -⟩ := h75; exact tl_longest hb hh hc (by omega) hY ho (Sm.tr hS (g2.up (by omega) (by omega))) g1 (fun z => hR.symm.trans (longF_n z)) (fun z M2 hS2 => ih (j + 1 + 1) (by omega) ((longF_t z).symm.trans hR) M2 (g1.sm hS2 (by omega)) (Sm.tr (Sm.tr hS (g2.up (by omega) (by omega))) (hS2.up (by omega) (by omega)))))
theorem cx_longest {y : Sys} {b d c : Int32} (h : RY B M y) (ho : okY y) : Ct E B yX6_longest cX6_longest 6 (some .int) 5 [.ref (B + 0), .int b, .int d, .int c] M (QY B M (o_longest y b d c)) := by
  have hw := whyDunk_le (y := y) (b := b) (d := d) (s := nI 0) (c := c)
  have hcn := ho.2.1.2.2.1
  have hh := ho.2.1.2.2.2.1
  refine Ct.of2 (own := RX6) (lv := [(0, .ref (B + 0)), (1, .int b), (2, .int d), (3, .int c)]) pn_X6 rfl (Nat.le_of_ble_eq_true rfl) rfl ?_
  refine g_aload_n dX6_longest_0 rfl rfl ?_
  refine g_iload_n dX6_longest_1 rfl rfl ?_
  refine g_iload_n dX6_longest_2 rfl rfl ?_
  refine g_iconst dX6_longest_3 kI_0 ?_
  refine g_iload_n dX6_longest_4 rfl rfl ?_
  refine g_callVp dX6_longest_5 mi_X6_whyNoDunk ml_X6_217 (cx_whyDunk h ho) rfl rfl rfl rfl (Nat.le_of_ble_eq_true rfl) ⟨lt_r rfl, Nat.le_of_ble_eq_true rfl⟩ ?_
  refine g_istore dX6_longest_8 (lt_r rfl) rfl ?_
  refine g_iload dX6_longest_10 rfl ?_
  refine g_if_eqN (tgt := 25) dX6_longest_12 (by decide) rfl (by omega) (fun c_12 => ?_) (fun c_12 => ?_)
  · have e9 : o_longest y b d c = _ := if_neg (fun z => z c_12)
    rw [e9]
    obtain ⟨z1, z2, z3, z4⟩ := whyDunk_0 c_12
    obtain ⟨q, hq, rfl, f1⟩ := in_b hcn z1
    obtain ⟨d', -, hd, rfl, f2⟩ := btw_n (by decide) (by decide) z2
    obtain ⟨c', -, hc, rfl, f4⟩ := btw_n (by decide) (by decide) z4
    rw [f1, f2, f4]
    have hob := ho.2.1.1 q hq
    refine g_aload_n dX6_longest_25 rfl rfl ?_
    refine g_getR dX6_longest_26 fl_X6_31 rfl rfl ?_
    refine g_aload_n dX6_longest_29 rfl rfl ?_
    refine g_getR dX6_longest_30 fl_X6_18 rfl rfl ?_
    refine g_getR dX6_longest_33 fl_X6_141 isS_2.1 rfl ?_
    refine g_iload_n dX6_longest_36 rfl rfl ?_
    refine g_aald dX6_longest_37 isS_2.2.1 rfl (isS_b (by omega)) ?_
    refine g_aload_n dX6_longest_38 rfl rfl ?_
    refine g_getR dX6_longest_39 fl_X6_18 rfl rfl ?_
    refine g_getI dX6_longest_42 fl_X6_181 isS_2.1 rfl (h.2.1.2.2.2.1) ?_
    refine g_callVv dX6_longest_45 mi_X2_begin ml_X6_233 (ct_X2_begin isD_47 (isS_2.2.2.2 _ (by omega)) (by omega) (h.2.1.1 q hq) hob) isD_47.1 rfl rfl rfl (Nat.le_of_ble_eq_true rfl) ⟨lt_r rfl, Nat.le_of_ble_eq_true rfl⟩ (fun M45 h45 => ?_)
    refine g_aload_n dX6_longest_48 rfl rfl ?_
    refine g_getR dX6_longest_49 fl_X6_31 rfl rfl ?_
    refine g_iload_n dX6_longest_52 rfl rfl ?_
    refine g_callVv dX6_longest_53 mi_X2_enter ml_X6_237 (ct_X2_enter isD_47 h45.1 (new_ok hob) (by omega)) isD_47.1 rfl rfl rfl (Nat.le_of_ble_eq_true rfl) ⟨lt_r rfl, Nat.le_of_ble_eq_true rfl⟩ (fun M53 h53 => ?_)
    refine g_iconst dX6_longest_56 kI_0 ?_
    refine g_istore dX6_longest_57 (lt_r rfl) rfl ?_
    have g0 : RD B M53 47 (sBs (yN y) q).1 (sBs (yN y) q).2.1 (sHt (yN y)) (0 + (0 - 1)) (dipD (sBs (yN y) q) (sHt (yN y)) d' (0 - 1)) := h53.1
    exact g_le (lvLe_c rfl (lvLe_c rfl (lvLe_c rfl lvLe_0))) (lp_longest (b := sBs (yN y) q) (h := sHt (yN y)) (d := d') (c := c') (R := longF (fun i => (dunkD (sBs (yN y) q) (sHt (yN y)) d' i c').2.2.2.1) 61 0) h ho hob hh hc 61 0 rfl rfl M53 g0 (Sm.tr (h45.2.up (by omega) (by omega)) (h53.2.up (by omega) (by omega))))
  · refine g_aload_n dX6_longest_15 rfl rfl ?_
    refine g_iload dX6_longest_16 rfl ?_
    refine g_callVi dX6_longest_18 mi_X6_refused ml_X6_83 (ct_X6_refused h ho (by omega) (by omega)) rfl rfl rfl rfl (Nat.le_of_ble_eq_true rfl) ⟨lt_r rfl, Nat.le_of_ble_eq_true rfl⟩ (fun x18 M18 h18 => ?_)
    refine g_bipush dX6_longest_21 kB_10 ?_
    refine g_isub dX6_longest_23 rfl ?_
    refine g_iret dX6_longest_24 ⟨_, rfl, ?_⟩
    exact QY.rl ho (if_pos (by omega)) h18
theorem tl_far {y : Sys} {b : Bi} {h d s i t : Nat} {R : Int32} {M0 : MM} {D : Dk} (hi : i ≤ 60) (hR : RD B M 47 b.1 b.2.1 h t D) (hD : okD b.1 b.2.1 t D) (hg : D.2.2.2.1 = (dunkD b h d s i).2.2.2.1) (hY : RY B M0 y) (ho : okY y) (hS : Sm B M0 M 47 53)
    (h0 : ¬ (dunkD b h d s i).2.2.2.1 = 0 → R = nI i - nI 1)
    (h1 : (dunkD b h d s i).2.2.2.1 = 0 → G E B cX6_far (RX6, 6, some .int, rmD 5, 0, 0, KM E B (QY B M0 (R, y))) 60 [(0, .ref (B + 0)), (5, .int (nI (i + 1)))] [] M) :
    G E B cX6_far (RX6, 6, some .int, rmD 5, 0, 0, KM E B (QY B M0 (R, y))) 81 [(0, .ref (B + 0)), (5, .int (nI i))] [] M := by
  refine g_aload_n dX6_far_81 rfl rfl ?_
  refine g_getR dX6_far_82 fl_X6_31 rfl rfl ?_
  refine g_callVp dX6_far_85 mi_X2_isWhole ml_X6_250 (ct_X2_isWhole isD_47 hR hD) isD_47.1 rfl rfl rfl (Nat.le_of_ble_eq_true rfl) ⟨lt_r rfl, Nat.le_of_ble_eq_true rfl⟩ ?_
  refine g_if_neP (tgt := 96) dX6_far_88 (by decide) (fun c_88 => ?_) (fun c_88 => ?_)
  · refine g_iinc dX6_far_96 rfl (inc_nI _) rfl ?_
    refine g_goto (tgt := 60) dX6_far_99 (by decide) ?_
    exact g_le (lvLe_c rfl (lvLe_c rfl lvLe_0)) (h1 (by rw [← hg]; exact c_88))
  · refine g_iload dX6_far_91 rfl ?_
    refine g_iconst dX6_far_93 kI_1 ?_
    refine g_isub dX6_far_94 (rfl) ?_
    refine g_iret dX6_far_95 ⟨_, rfl, ?_⟩
    exact QY.s hY ho (Sc.s hS (by omega)) (by rw [h0 (by rw [← hg]; exact c_88)])
theorem lp_far {y : Sys} {b : Bi} {h d s : Nat} {R : Int32} {M0 : MM} (hY : RY B M0 y) (ho : okY y) (hb : okB b) (hh : h < 2 ^ 31) (hs : s ≤ 60) : ∀ (n i : Nat), n + i = 61 → longF (fun i => (dunkD b h d s i).2.2.2.1) n i = R → ∀ (M' : MM) (D : Dk), RD B M' 47 b.1 b.2.1 h (0 + s + (i - 1)) D → okD b.1 b.2.1 (0 + s + (i - 1)) D → entD 0 D = dunkD b h d s (i - 1) → Sm B M0 M' 47 53 →
    G E B cX6_far (RX6, 6, some .int, rmD 5, 0, 0, KM E B (QY B M0 (R, y))) 60 [(0, .ref (B + 0)), (5, .int (nI i))] [] M' := by
  intro n
  induction n with
  | zero =>
    intro i h1 hR M' D hD hk he hS
    refine g_iload dX6_far_60 rfl ?_
    refine g_bipush dX6_far_62 kB_60 ?_
    refine g_icmp_gtN (tgt := 102) dX6_far_64 (by decide) rfl rfl (by omega) (by omega) (fun c_64 => ?_) (fun c_64 => absurd c_64 (by omega))
    refine g_bipush dX6_far_102 kB_60 ?_
    refine g_iret dX6_far_104 ⟨_, rfl, ?_⟩
    exact QY.s hY ho (Sc.s hS (by omega)) (by rw [← hR]; rfl)
  | succ n ih =>
    intro i h1 hR M' D hD hk he hS
    refine g_iload dX6_far_60 rfl ?_
    refine g_bipush dX6_far_62 kB_60 ?_
    refine g_icmp_gtN (tgt := 102) dX6_far_64 (by decide) rfl rfl (by omega) (by omega) (fun c_64 => absurd c_64 (by omega)) (fun c_64 => ?_)
    refine g_iload dX6_far_67 rfl ?_
    refine g_if_leN (tgt := 81) dX6_far_69 (by decide) rfl (by omega) (fun c_69 => ?_) (fun c_69 => ?_)
    · first | (obtain ⟨g1, g2⟩ := h78; rw [he] at g1; have g3 : RD B M78 47 b.1 b.2.1 h (0 + s + (j + 1)) (dunkD b h d s (j + 1)) := g1; exact tl_far (by omega) g3 (dunk_ok hb) rfl hY ho (Sm.tr hS (g2.up (by omega) (by omega))) (fun z => hR.symm.trans (longF_n z)) (fun z => ih (j + 1 + 1) (by omega) ((longF_t z).symm.trans hR) M78 _ g3 (dunk_ok hb) ent_run (Sm.tr hS (g2.up (by omega) (by omega))))) | (have c_69 : i = 0 := c_69; subst c_69; have hg : D.2.2.2.1 = (dunkD b h d s 0).2.2.2.1 := (by have := congrArg (fun z : Dk => z.2.2.2.1) he; exact this); exact tl_far (by omega) hD hk hg hY ho hS (fun z => hR.symm.trans (longF_n z)) (fun z => ih (0 + 1) (by omega) ((longF_t z).symm.trans hR) M' D hD hk he hS))
    · obtain ⟨j, rfl⟩ : ∃ j, i = j + 1 := ⟨i - 1, by omega⟩
      have hD : RD B M' 47 b.1 b.2.1 h (0 + s + j) D := hD
      have hk : okD b.1 b.2.1 (0 + s + j) D := hk
      have he : entD 0 D = dunkD b h d s j := he
      refine g_aload_n dX6_far_72 rfl rfl ?_
      refine g_getR dX6_far_73 fl_X6_31 rfl rfl ?_
      refine g_iconst dX6_far_76 kI_0 ?_
      refine g_iconst dX6_far_77 kI_1 ?_
      refine g_callVv dX6_far_78 mi_X2_stay ml_X6_247 (ct_X2_stay isD_47 (d := 0) (s := 1) hD hk hh (by decide) (by omega)) isD_47.1 rfl rfl rfl (Nat.le_of_ble_eq_true rfl) ⟨lt_r rfl, Nat.le_of_ble_eq_true rfl⟩ (fun M78 h78 => ?_)
      first | (obtain ⟨g1, g2⟩ := h78; rw [he] at g1; have g3 : RD B M78 47 b.1 b.2.1 h (0 + s + (j + 1)) (dunkD b h d s (j + 1)) := g1; exact tl_far (by omega) g3 (dunk_ok hb) rfl hY ho (Sm.tr hS (g2.up (by omega) (by omega))) (fun z => hR.symm.trans (longF_n z)) (fun z => ih (j + 1 + 1) (by omega) ((longF_t z).symm.trans hR) M78 _ g3 (dunk_ok hb) ent_run (Sm.tr hS (g2.up (by omega) (by omega))))) | (have c_69 : i = 0 := c_69; subst c_69; have hg : D.2.2.2.1 = (dunkD b h d s 0).2.2.2.1 := (by have := congrArg (fun z : Dk => z.2.2.2.1) he; exact this); exact tl_far (by omega) hD hk hg hY ho hS (fun z => hR.symm.trans (longF_n z)) (fun z => ih (0 + 1) (by omega) ((longF_t z).symm.trans hR) M' D hD hk he hS))
theorem cx_far {y : Sys} {b d s : Int32} (h : RY B M y) (ho : okY y) : Ct E B yX6_far cX6_far 6 (some .int) 5 [.ref (B + 0), .int b, .int d, .int s] M (QY B M (o_far y b d s)) := by
  have hw := whyDunk_le (y := y) (b := b) (d := d) (s := s) (c := nI 0)
  have hcn := ho.2.1.2.2.1
  have hh := ho.2.1.2.2.2.1
  refine Ct.of2 (own := RX6) (lv := [(0, .ref (B + 0)), (1, .int b), (2, .int d), (3, .int s)]) pn_X6 rfl (Nat.le_of_ble_eq_true rfl) rfl ?_
  refine g_aload_n dX6_far_0 rfl rfl ?_
  refine g_iload_n dX6_far_1 rfl rfl ?_
  refine g_iload_n dX6_far_2 rfl rfl ?_
  refine g_iload_n dX6_far_3 rfl rfl ?_
  refine g_iconst dX6_far_4 kI_0 ?_
  refine g_callVp dX6_far_5 mi_X6_whyNoDunk ml_X6_217 (cx_whyDunk h ho) rfl rfl rfl rfl (Nat.le_of_ble_eq_true rfl) ⟨lt_r rfl, Nat.le_of_ble_eq_true rfl⟩ ?_
  refine g_istore dX6_far_8 (lt_r rfl) rfl ?_
  refine g_iload dX6_far_10 rfl ?_
  refine g_if_eqN (tgt := 25) dX6_far_12 (by decide) rfl (by omega) (fun c_12 => ?_) (fun c_12 => ?_)
  · have e9 : o_far y b d s = _ := if_neg (fun z => z c_12)
    rw [e9]
    obtain ⟨z1, z2, z3, z4⟩ := whyDunk_0 c_12
    obtain ⟨q, hq, rfl, f1⟩ := in_b hcn z1
    obtain ⟨d', -, hd, rfl, f2⟩ := btw_n (by decide) (by decide) z2
    obtain ⟨s', -, hs, rfl, f4⟩ := btw_n (by decide) (by decide) z3
    rw [f1, f2, f4]
    have hob := ho.2.1.1 q hq
    refine g_aload_n dX6_far_25 rfl rfl ?_
    refine g_getR dX6_far_26 fl_X6_31 rfl rfl ?_
    refine g_aload_n dX6_far_29 rfl rfl ?_
    refine g_getR dX6_far_30 fl_X6_18 rfl rfl ?_
    refine g_getR dX6_far_33 fl_X6_141 isS_2.1 rfl ?_
    refine g_iload_n dX6_far_36 rfl rfl ?_
    refine g_aald dX6_far_37 isS_2.2.1 rfl (isS_b (by omega)) ?_
    refine g_aload_n dX6_far_38 rfl rfl ?_
    refine g_getR dX6_far_39 fl_X6_18 rfl rfl ?_
    refine g_getI dX6_far_42 fl_X6_181 isS_2.1 rfl (h.2.1.2.2.2.1) ?_
    refine g_callVv dX6_far_45 mi_X2_begin ml_X6_233 (ct_X2_begin isD_47 (isS_2.2.2.2 _ (by omega)) (by omega) (h.2.1.1 q hq) hob) isD_47.1 rfl rfl rfl (Nat.le_of_ble_eq_true rfl) ⟨lt_r rfl, Nat.le_of_ble_eq_true rfl⟩ (fun M45 h45 => ?_)
    refine g_aload_n dX6_far_48 rfl rfl ?_
    refine g_getR dX6_far_49 fl_X6_31 rfl rfl ?_
    refine g_iload_n dX6_far_52 rfl rfl ?_
    refine g_iload_n dX6_far_53 rfl rfl ?_
    refine g_callVv dX6_far_54 mi_X2_stay ml_X6_247 (ct_X2_stay isD_47 h45.1 (new_ok hob) hh (by omega) (by omega)) isD_47.1 rfl rfl rfl (Nat.le_of_ble_eq_true rfl) ⟨lt_r rfl, Nat.le_of_ble_eq_true rfl⟩ (fun M54 h54 => ?_)
    refine g_iconst dX6_far_57 kI_0 ?_
    refine g_istore dX6_far_58 (lt_r rfl) rfl ?_
    exact g_le (lvLe_c rfl (lvLe_c rfl lvLe_0)) (lp_far (b := sBs (yN y) q) (h := sHt (yN y)) (d := d') (s := s') (R := longF (fun i => (dunkD (sBs (yN y) q) (sHt (yN y)) d' s' i).2.2.2.1) 61 0) h ho hob hh hs 61 0 rfl rfl M54 (dipD (sBs (yN y) q) (sHt (yN y)) d' s') h54.1 (dipD_ok hob) rfl (Sm.tr (h45.2.up (by omega) (by omega)) (h54.2.up (by omega) (by omega))))
  · refine g_aload_n dX6_far_15 rfl rfl ?_
    refine g_iload dX6_far_16 rfl ?_
    refine g_callVi dX6_far_18 mi_X6_refused ml_X6_83 (ct_X6_refused h ho (by omega) (by omega)) rfl rfl rfl rfl (Nat.le_of_ble_eq_true rfl) ⟨lt_r rfl, Nat.le_of_ble_eq_true rfl⟩ (fun x18 M18 h18 => ?_)
    refine g_bipush dX6_far_21 kB_10 ?_
    refine g_isub dX6_far_23 rfl ?_
    refine g_iret dX6_far_24 ⟨_, rfl, ?_⟩
    exact QY.rl ho (if_pos (by omega)) h18
end X6F
