/-! the model's calls, fifth part: longest, far, rule, fetch, back, heats -/
theorem neg_nI0 {w : Nat} (h : w < 2 ^ 31) : -(nI w) = 0 ↔ w = 0 := by
  constructor
  · intro z
    have e : nI w = 0 := by rw [← Int32.neg_neg (a := nI w), z]; decide
    exact (nI_eq h (by decide)).mp e
  · intro z; subst z; decide
theorem soak_h {kd a n c h h' : Nat} (e : h / 10 = h' / 10) : soakN kd a n c h = soakN kd a n c h' := by
  unfold soakN
  rw [e]
theorem secW_h {kd a n dp h h' : Nat} {w : Nat → Nat} (e : h / 10 = h' / 10) : secW kd a n dp h w = secW kd a n dp h' w := by
  funext i
  unfold secW
  rw [soak_h e]
theorem tookF_h {kd a n dp h h' : Nat} {w : Nat → Nat} (e : h / 10 = h' / 10) : tookF kd a n dp h w = tookF kd a n dp h' w := by
  funext i
  unfold tookF
  rw [secW_h e]
theorem run_h {kd a h h' t : Nat} {D : Dk} (e : h / 10 = h' / 10) : ∀ n, runD kd a h t D n = runD kd a h' t D n
  | 0 => rfl
  | n + 1 => by
    show sec kd a h _ (runD kd a h t D n) = sec kd a h' _ (runD kd a h' t D n)
    rw [run_h e n]
    unfold sec
    rw [secW_h e, tookF_h e]
theorem backP_h {b : Bi} {x : Sh} {h h' d i : Nat} (e : h / 10 = h' / 10) : backP b x h d i = backP b x h' d i := by
  unfold backP dipD
  rw [run_h e]
def h1F (P : Nat → Bool) : Nat → Nat → Int32
  | 0, _ => -1
  | n + 1, h => if P h = true then nI h else h1F P n (h + 1)
theorem h1F_t {P : Nat → Bool} {n h : Nat} (c : P h = true) : h1F P (n + 1) h = nI h := if_pos c
theorem h1F_n {P : Nat → Bool} {n h : Nat} (c : ¬ P h = true) : h1F P (n + 1) h = h1F P n (h + 1) := if_neg c
theorem h1F_skip {P : Nat → Bool} {h : Nat} : ∀ (k m j : Nat), (∀ i, j ≤ i → i < j + k → ¬ P (h + i) = true) → h1F P (k + m) (h + j) = h1F P m (h + j + k)
  | 0, m, j, _ => by rw [Nat.zero_add]; rfl
  | k + 1, m, j, hp => by
    rw [show k + 1 + m = k + m + 1 by omega, h1F_n (hp j (Nat.le_refl _) (by omega)), show h + j + 1 = h + (j + 1) by omega, h1F_skip k m (j + 1) (fun i a b => hp i (by omega) (by omega))]
    rw [show h + (j + 1) + k = h + j + (k + 1) by omega]
theorem h1F_heat {P : Nat → Bool} (hP : ∀ h h', h / 10 = h' / 10 → P h = P h') : ∀ (n k : Nat), h1F P (10 * n) (10 * k) = heatF P n (10 * k)
  | 0, _ => rfl
  | n + 1, k => by
    by_cases c : P (10 * k) = true
    · rw [heatF_t c, show 10 * (n + 1) = 10 * n + 9 + 1 by omega, h1F_t c]
    · rw [heatF_n c]
      have := h1F_skip (P := P) (h := 10 * k) 10 (10 * n) 0 (fun i _ b => by rw [hP (10 * k + i) (10 * k) (by omega)]; exact c)
      rw [show 10 + 10 * n = 10 * (n + 1) by omega, show 10 * k + 0 = 10 * k by omega] at this
      rw [this, show 10 * k + 10 = 10 * (k + 1) by omega]
      exact h1F_heat hP n (k + 1)
section X7I
variable {E : EE} {B : Nat} {M : MM}
theorem lp_mlongest {y : Sys} {q d c : Nat} {R : Int32} {M0 : MM} (h : RM B M0 y) (ho : okY y) (hq : q < sCn (yN y)) (hd : d ≤ 12) (hc : c ≤ 60) : ∀ (n i : Nat), n + i = 61 → longF (fun i => (dunkD (sBs (yN y) q) (sHt (yN y)) d i c).2.2.2.1) n i = R → ∀ M', Fk B M0 M' dA dJ →
    G E B cX7_longest (RX7, 6, some .int, rmD 6, 0, 0, KM E B (QM B M0 (R, y))) 43 [(0, .ref (B + 80)), (1, .int (nI q)), (2, .int (nI d)), (3, .int (nI c)), (4, .int (bI i)), (5, .int (nI i))] [] M' := by
  have hcn := ho.2.1.2.2.1
  intro n
  induction n with
  | zero =>
    intro i h1 hR M' hF
    refine g_iload dX7_longest_43 rfl ?_
    refine g_bipush dX7_longest_45 kB_60 ?_
    refine g_icmp_gtN (tgt := 72) dX7_longest_47 (by decide) rfl rfl (by omega) (by omega) (fun c_47 => ?_) (fun c_47 => absurd c_47 (by omega))
    refine g_iload dX7_longest_72 rfl ?_
    refine g_iret dX7_longest_74 ⟨_, rfl, ?_⟩
    exact QM.s h hF.d (by rw [← hR, show i = 61 by omega]; rfl)
  | succ n ih =>
    intro i h1 hR M' hF
    have e : bI (i + 1) = nI i := if_neg (Nat.succ_ne_zero i)
    refine g_iload dX7_longest_43 rfl ?_
    refine g_bipush dX7_longest_45 kB_60 ?_
    refine g_icmp_gtN (tgt := 72) dX7_longest_47 (by decide) rfl rfl (by omega) (by omega) (fun c_47 => absurd c_47 (by omega)) (fun c_47 => ?_)
    refine g_aload_n dX7_longest_50 rfl rfl ?_
    refine g_iload_n dX7_longest_51 rfl rfl ?_
    refine g_iload_n dX7_longest_52 rfl rfl ?_
    refine g_iload dX7_longest_53 rfl ?_
    refine g_iload_n dX7_longest_55 rfl rfl ?_
    refine g_callVi dX7_longest_56 mi_X7_isWhole ml_X7_233 (ct_X7_isWhole (h.2.1.fk hF (by decide) (by decide)) ho.2.1 hq hd (by omega) hc) rfl rfl rfl rfl (Nat.le_of_ble_eq_true rfl) ⟨lt_r rfl, Nat.le_of_ble_eq_true rfl⟩ (fun x56 M56 h56 => ?_)
    obtain ⟨rfl, g2⟩ := h56
    refine g_if_eq (tgt := 72) dX7_longest_59 (by decide) (fun c_59 => ?_) (fun c_59 => ?_)
    · refine g_iload dX7_longest_72 rfl ?_
      refine g_iret dX7_longest_74 ⟨_, rfl, ?_⟩
      exact QM.s h (hF.tr g2).d (by rw [← hR, longF_n (bp_eq0.mp c_59), sub1_bI (by omega)])
    · refine g_iload dX7_longest_62 rfl ?_
      refine g_istore dX7_longest_64 (lt_r rfl) rfl ?_
      refine g_iinc dX7_longest_66 rfl (inc_nI _) rfl ?_
      refine g_goto (tgt := 43) dX7_longest_69 (by decide) ?_
      have ih2 := ih (i + 1) (by omega) ((longF_t (Classical.not_not.mp (fun z => c_59 (bp_eq0.mpr z)))).symm.trans hR) M56 (hF.tr g2)
      rw [e] at ih2
      exact g_le (lvLe_c rfl (lvLe_c rfl (lvLe_c rfl (lvLe_c rfl (lvLe_c rfl (lvLe_c rfl lvLe_0)))))) ih2
theorem mx_longest {y : Sys} {b d c : Int32} (h : RM B M y) (ho : okY y) : Ct E B yX7_longest cX7_longest 6 (some .int) 6 [.ref (B + 80), .int b, .int d, .int c] M (QM B M (o_longest y b d c)) := by
  have hcn := ho.2.1.2.2.1
  refine Ct.of2 (own := RX7) (lv := [(0, .ref (B + 80)), (1, .int b), (2, .int d), (3, .int c)]) pn_X7 rfl (Nat.le_of_ble_eq_true rfl) rfl ?_
  refine g_aload_n dX7_longest_0 rfl rfl ?_
  refine g_iload_n dX7_longest_1 rfl rfl ?_
  refine g_callVp dX7_longest_2 mi_X7_isBiscuit ml_X7_93 (ct_X7_isBiscuit h.2.1) rfl rfl rfl rfl (Nat.le_of_ble_eq_true rfl) ⟨lt_r rfl, Nat.le_of_ble_eq_true rfl⟩ ?_
  refine g_if_neP (tgt := 14) dX7_longest_5 (by decide) (fun c_5 => ?_) (fun c_5 => ?_)
  · refine g_aload_n dX7_longest_14 rfl rfl ?_
    refine g_iload_n dX7_longest_15 rfl rfl ?_
    refine g_callVp dX7_longest_16 mi_X7_isDeep ml_X7_220 (ct_X7_isDeep) rfl rfl rfl rfl (Nat.le_of_ble_eq_true rfl) ⟨lt_r rfl, Nat.le_of_ble_eq_true rfl⟩ ?_
    refine g_if_eqP (tgt := 30) dX7_longest_19 (by decide) (fun c_19 => ?_) (fun c_19 => ?_)
    · refine g_aload_n dX7_longest_30 rfl rfl ?_
      refine g_bipush dX7_longest_31 kB_m6 ?_
      refine g_callVi dX7_longest_33 mi_X7_noTen ml_X7_217 (ct_noTen (w := 6) h (by decide) (by decide)) rfl rfl rfl rfl (Nat.le_of_ble_eq_true rfl) ⟨lt_r rfl, Nat.le_of_ble_eq_true rfl⟩ (fun x33 M33 h33 => ?_)
      refine g_iret dX7_longest_36 ⟨_, rfl, ?_⟩
      exact QM.rl (by have e : whyDunk y b d (nI 0) c = 6 := (if_neg (fun z => z c_5)).trans (if_neg (fun z => by first | exact c_19 z.1 | exact c_27 z.2.2)); unfold o_longest; rw [e, if_pos (by decide)]) h33
    · refine g_aload_n dX7_longest_22 rfl rfl ?_
      refine g_iload_n dX7_longest_23 rfl rfl ?_
      refine g_callVp dX7_longest_24 mi_X7_isLong ml_X7_223 (ct_X7_isLong) rfl rfl rfl rfl (Nat.le_of_ble_eq_true rfl) ⟨lt_r rfl, Nat.le_of_ble_eq_true rfl⟩ ?_
      refine g_if_neP (tgt := 37) dX7_longest_27 (by decide) (fun c_27 => ?_) (fun c_27 => ?_)
      · have e : whyDunk y b d (nI 0) c = 0 := (if_neg (fun z => z c_5)).trans (if_pos ⟨c_19, ⟨by decide, by decide⟩, c_27⟩)
        rw [show o_longest y b d c = _ from if_neg (fun z => z e)]
        obtain ⟨q, hq, rfl, f1⟩ := in_b hcn c_5
        obtain ⟨d', -, hd, rfl, f2⟩ := btw_n (by decide) (by decide) c_19
        obtain ⟨c', -, hc, rfl, f4⟩ := btw_n (by decide) (by decide) c_27
        rw [f1, f2, f4]
        refine g_iconst dX7_longest_37 kI_m1 ?_
        refine g_istore dX7_longest_38 (lt_r rfl) rfl ?_
        refine g_iconst dX7_longest_40 kI_0 ?_
        refine g_istore dX7_longest_41 (lt_r rfl) rfl ?_
        exact g_le (lvLe_c rfl (lvLe_c rfl (lvLe_c rfl (lvLe_c rfl (lvLe_c rfl (lvLe_c rfl lvLe_0)))))) (lp_mlongest (q := q) (d := d') (c := c') (R := longF (fun i => (dunkD (sBs (yN y) q) (sHt (yN y)) d' i c').2.2.2.1) 61 0) h ho hq hd hc 61 0 rfl rfl M Fk.rf)
      · refine g_aload_n dX7_longest_30 rfl rfl ?_
        refine g_bipush dX7_longest_31 kB_m6 ?_
        refine g_callVi dX7_longest_33 mi_X7_noTen ml_X7_217 (ct_noTen (w := 6) h (by decide) (by decide)) rfl rfl rfl rfl (Nat.le_of_ble_eq_true rfl) ⟨lt_r rfl, Nat.le_of_ble_eq_true rfl⟩ (fun x33 M33 h33 => ?_)
        refine g_iret dX7_longest_36 ⟨_, rfl, ?_⟩
        exact QM.rl (by have e : whyDunk y b d (nI 0) c = 6 := (if_neg (fun z => z c_5)).trans (if_neg (fun z => by first | exact c_19 z.1 | exact c_27 z.2.2)); unfold o_longest; rw [e, if_pos (by decide)]) h33
  · refine g_aload_n dX7_longest_8 rfl rfl ?_
    refine g_iconst dX7_longest_9 kI_m1 ?_
    refine g_callVi dX7_longest_10 mi_X7_noTen ml_X7_217 (ct_noTen (w := 1) h (by decide) (by decide)) rfl rfl rfl rfl (Nat.le_of_ble_eq_true rfl) ⟨lt_r rfl, Nat.le_of_ble_eq_true rfl⟩ (fun x10 M10 h10 => ?_)
    refine g_iret dX7_longest_13 ⟨_, rfl, ?_⟩
    exact QM.rl (by have e : whyDunk y b d (nI 0) c = 1 := if_pos c_5; unfold o_longest; rw [e, if_pos (by decide)]) h10
theorem lp_mfar {y : Sys} {q d s : Nat} {R : Int32} {M0 : MM} (h : RM B M0 y) (ho : okY y) (hq : q < sCn (yN y)) (hd : d ≤ 12) (hs : s ≤ 60) : ∀ (n i : Nat), n + i = 61 → longF (fun i => (dunkD (sBs (yN y) q) (sHt (yN y)) d s i).2.2.2.1) n i = R → ∀ M', Fk B M0 M' dA dJ →
    G E B cX7_far (RX7, 6, some .int, rmD 6, 0, 0, KM E B (QM B M0 (R, y))) 43 [(0, .ref (B + 80)), (1, .int (nI q)), (2, .int (nI d)), (3, .int (nI s)), (4, .int (bI i)), (5, .int (nI i))] [] M' := by
  have hcn := ho.2.1.2.2.1
  intro n
  induction n with
  | zero =>
    intro i h1 hR M' hF
    refine g_iload dX7_far_43 rfl ?_
    refine g_bipush dX7_far_45 kB_60 ?_
    refine g_icmp_gtN (tgt := 72) dX7_far_47 (by decide) rfl rfl (by omega) (by omega) (fun c_47 => ?_) (fun c_47 => absurd c_47 (by omega))
    refine g_iload dX7_far_72 rfl ?_
    refine g_iret dX7_far_74 ⟨_, rfl, ?_⟩
    exact QM.s h hF.d (by rw [← hR, show i = 61 by omega]; rfl)
  | succ n ih =>
    intro i h1 hR M' hF
    have e : bI (i + 1) = nI i := if_neg (Nat.succ_ne_zero i)
    refine g_iload dX7_far_43 rfl ?_
    refine g_bipush dX7_far_45 kB_60 ?_
    refine g_icmp_gtN (tgt := 72) dX7_far_47 (by decide) rfl rfl (by omega) (by omega) (fun c_47 => absurd c_47 (by omega)) (fun c_47 => ?_)
    refine g_aload_n dX7_far_50 rfl rfl ?_
    refine g_iload_n dX7_far_51 rfl rfl ?_
    refine g_iload_n dX7_far_52 rfl rfl ?_
    refine g_iload_n dX7_far_53 rfl rfl ?_
    refine g_iload dX7_far_54 rfl ?_
    refine g_callVi dX7_far_56 mi_X7_isWhole ml_X7_233 (ct_X7_isWhole (h.2.1.fk hF (by decide) (by decide)) ho.2.1 hq hd hs (by omega)) rfl rfl rfl rfl (Nat.le_of_ble_eq_true rfl) ⟨lt_r rfl, Nat.le_of_ble_eq_true rfl⟩ (fun x56 M56 h56 => ?_)
    obtain ⟨rfl, g2⟩ := h56
    refine g_if_eq (tgt := 72) dX7_far_59 (by decide) (fun c_59 => ?_) (fun c_59 => ?_)
    · refine g_iload dX7_far_72 rfl ?_
      refine g_iret dX7_far_74 ⟨_, rfl, ?_⟩
      exact QM.s h (hF.tr g2).d (by rw [← hR, longF_n (bp_eq0.mp c_59), sub1_bI (by omega)])
    · refine g_iload dX7_far_62 rfl ?_
      refine g_istore dX7_far_64 (lt_r rfl) rfl ?_
      refine g_iinc dX7_far_66 rfl (inc_nI _) rfl ?_
      refine g_goto (tgt := 43) dX7_far_69 (by decide) ?_
      have ih2 := ih (i + 1) (by omega) ((longF_t (Classical.not_not.mp (fun z => c_59 (bp_eq0.mpr z)))).symm.trans hR) M56 (hF.tr g2)
      rw [e] at ih2
      exact g_le (lvLe_c rfl (lvLe_c rfl (lvLe_c rfl (lvLe_c rfl (lvLe_c rfl (lvLe_c rfl lvLe_0)))))) ih2
theorem mx_far {y : Sys} {b d s : Int32} (h : RM B M y) (ho : okY y) : Ct E B yX7_far cX7_far 6 (some .int) 6 [.ref (B + 80), .int b, .int d, .int s] M (QM B M (o_far y b d s)) := by
  have hcn := ho.2.1.2.2.1
  refine Ct.of2 (own := RX7) (lv := [(0, .ref (B + 80)), (1, .int b), (2, .int d), (3, .int s)]) pn_X7 rfl (Nat.le_of_ble_eq_true rfl) rfl ?_
  refine g_aload_n dX7_far_0 rfl rfl ?_
  refine g_iload_n dX7_far_1 rfl rfl ?_
  refine g_callVp dX7_far_2 mi_X7_isBiscuit ml_X7_93 (ct_X7_isBiscuit h.2.1) rfl rfl rfl rfl (Nat.le_of_ble_eq_true rfl) ⟨lt_r rfl, Nat.le_of_ble_eq_true rfl⟩ ?_
  refine g_if_neP (tgt := 14) dX7_far_5 (by decide) (fun c_5 => ?_) (fun c_5 => ?_)
  · refine g_aload_n dX7_far_14 rfl rfl ?_
    refine g_iload_n dX7_far_15 rfl rfl ?_
    refine g_callVp dX7_far_16 mi_X7_isDeep ml_X7_220 (ct_X7_isDeep) rfl rfl rfl rfl (Nat.le_of_ble_eq_true rfl) ⟨lt_r rfl, Nat.le_of_ble_eq_true rfl⟩ ?_
    refine g_if_eqP (tgt := 30) dX7_far_19 (by decide) (fun c_19 => ?_) (fun c_19 => ?_)
    · refine g_aload_n dX7_far_30 rfl rfl ?_
      refine g_bipush dX7_far_31 kB_m6 ?_
      refine g_callVi dX7_far_33 mi_X7_noTen ml_X7_217 (ct_noTen (w := 6) h (by decide) (by decide)) rfl rfl rfl rfl (Nat.le_of_ble_eq_true rfl) ⟨lt_r rfl, Nat.le_of_ble_eq_true rfl⟩ (fun x33 M33 h33 => ?_)
      refine g_iret dX7_far_36 ⟨_, rfl, ?_⟩
      exact QM.rl (by have e : whyDunk y b d s (nI 0) = 6 := (if_neg (fun z => z c_5)).trans (if_neg (fun z => by first | exact c_19 z.1 | exact c_27 z.2.1)); unfold o_far; rw [e, if_pos (by decide)]) h33
    · refine g_aload_n dX7_far_22 rfl rfl ?_
      refine g_iload_n dX7_far_23 rfl rfl ?_
      refine g_callVp dX7_far_24 mi_X7_isLong ml_X7_223 (ct_X7_isLong) rfl rfl rfl rfl (Nat.le_of_ble_eq_true rfl) ⟨lt_r rfl, Nat.le_of_ble_eq_true rfl⟩ ?_
      refine g_if_neP (tgt := 37) dX7_far_27 (by decide) (fun c_27 => ?_) (fun c_27 => ?_)
      · have e : whyDunk y b d s (nI 0) = 0 := (if_neg (fun z => z c_5)).trans (if_pos ⟨c_19, c_27, by decide, by decide⟩)
        rw [show o_far y b d s = _ from if_neg (fun z => z e)]
        obtain ⟨q, hq, rfl, f1⟩ := in_b hcn c_5
        obtain ⟨d', -, hd, rfl, f2⟩ := btw_n (by decide) (by decide) c_19
        obtain ⟨s', -, hs, rfl, f4⟩ := btw_n (by decide) (by decide) c_27
        rw [f1, f2, f4]
        refine g_iconst dX7_far_37 kI_m1 ?_
        refine g_istore dX7_far_38 (lt_r rfl) rfl ?_
        refine g_iconst dX7_far_40 kI_0 ?_
        refine g_istore dX7_far_41 (lt_r rfl) rfl ?_
        exact g_le (lvLe_c rfl (lvLe_c rfl (lvLe_c rfl (lvLe_c rfl (lvLe_c rfl (lvLe_c rfl lvLe_0)))))) (lp_mfar (q := q) (d := d') (s := s') (R := longF (fun i => (dunkD (sBs (yN y) q) (sHt (yN y)) d' s' i).2.2.2.1) 61 0) h ho hq hd hs 61 0 rfl rfl M Fk.rf)
      · refine g_aload_n dX7_far_30 rfl rfl ?_
        refine g_bipush dX7_far_31 kB_m6 ?_
        refine g_callVi dX7_far_33 mi_X7_noTen ml_X7_217 (ct_noTen (w := 6) h (by decide) (by decide)) rfl rfl rfl rfl (Nat.le_of_ble_eq_true rfl) ⟨lt_r rfl, Nat.le_of_ble_eq_true rfl⟩ (fun x33 M33 h33 => ?_)
        refine g_iret dX7_far_36 ⟨_, rfl, ?_⟩
        exact QM.rl (by have e : whyDunk y b d s (nI 0) = 6 := (if_neg (fun z => z c_5)).trans (if_neg (fun z => by first | exact c_19 z.1 | exact c_27 z.2.1)); unfold o_far; rw [e, if_pos (by decide)]) h33
  · refine g_aload_n dX7_far_8 rfl rfl ?_
    refine g_iconst dX7_far_9 kI_m1 ?_
    refine g_callVi dX7_far_10 mi_X7_noTen ml_X7_217 (ct_noTen (w := 1) h (by decide) (by decide)) rfl rfl rfl rfl (Nat.le_of_ble_eq_true rfl) ⟨lt_r rfl, Nat.le_of_ble_eq_true rfl⟩ (fun x10 M10 h10 => ?_)
    refine g_iret dX7_far_13 ⟨_, rfl, ?_⟩
    exact QM.rl (by have e : whyDunk y b d s (nI 0) = 1 := if_pos c_5; unfold o_far; rw [e, if_pos (by decide)]) h10
theorem lp_mrule {y : Sys} {M0 : MM} {x d c : Nat} (h : RM B M0 y) (ho : okY y) (hd : d ≤ 12) (hx : x ≤ 60) (hc : c ≤ 60) : ∀ (n i : Nat), n + i = sCn (yN y) → ∀ M', Fk B M0 M' dA dJ →
    G E B cX7_rule (RX7, 8, some .int, rmD 5, 0, 0, KM E B (QM B M0 (nI (sumN (fun q => wrY y (dunkD (sBs (yN y) q) (sHt (yN y)) d x c)) (sCn (yN y))), y))) 80 [(0, .ref (B + 80)), (3, .int (nI d)), (4, .int (nI c)), (5, .int (nI x)), (6, .int (nI (sumN (fun q => wrY y (dunkD (sBs (yN y) q) (sHt (yN y)) d x c)) i))), (7, .int (nI i))] [] M' := by
  have hcn := ho.2.1.2.2.1
  intro n
  induction n with
  | zero =>
    intro i h1 M' hF
    refine g_iload dX7_rule_80 rfl ?_
    refine g_aload_n dX7_rule_82 rfl rfl ?_
    refine g_getI dX7_rule_83 fl_X7_90 rfl rfl ((hF.j (by decide)).trans h.2.1.2.2.1) ?_
    refine g_icmp_geN (tgt := 119) dX7_rule_86 (by decide) rfl rfl (by omega) (by omega) (fun c_86 => ?_) (fun c_86 => absurd c_86 (by omega))
    refine g_iload dX7_rule_119 rfl ?_
    refine g_iret dX7_rule_121 ⟨_, rfl, ?_⟩
    have e : i = sCn (yN y) := by omega
    subst e
    exact QM.s h hF.d rfl
  | succ n ih =>
    intro i h1 M' hF
    have hi : i < sCn (yN y) := by omega
    have hok := dunk_ok (h := sHt (yN y)) (d := d) (s := x) (c := c) (ho.2.1.1 i hi)
    refine g_iload dX7_rule_80 rfl ?_
    refine g_aload_n dX7_rule_82 rfl rfl ?_
    refine g_getI dX7_rule_83 fl_X7_90 rfl rfl ((hF.j (by decide)).trans h.2.1.2.2.1) ?_
    refine g_icmp_geN (tgt := 119) dX7_rule_86 (by decide) rfl rfl (by omega) (by omega) (fun c_86 => absurd c_86 (by omega)) (fun c_86 => ?_)
    refine g_aload_n dX7_rule_89 rfl rfl ?_
    refine g_iload dX7_rule_90 rfl ?_
    refine g_iload_n dX7_rule_92 rfl rfl ?_
    refine g_iload dX7_rule_93 rfl ?_
    refine g_iload dX7_rule_95 rfl ?_
    refine g_aload_n dX7_rule_97 rfl rfl ?_
    refine g_getI dX7_rule_98 fl_X7_7 rfl rfl ((hF.j (by decide)).trans h.2.1.2.2.2.1) ?_
    refine g_callVv dX7_rule_101 mi_X7_tries ml_X7_230 (ct_tries (h.2.1.fk hF (by decide) (by decide)) ho.2.1 hi ho.2.1.2.2.2.1 hd hx hc) rfl rfl rfl rfl (Nat.le_of_ble_eq_true rfl) ⟨lt_r rfl, Nat.le_of_ble_eq_true rfl⟩ (fun M101 h101 => ?_)
    refine g_iload dX7_rule_104 rfl ?_
    refine g_aload_n dX7_rule_106 rfl rfl ?_
    refine g_callVp dX7_rule_107 mi_X7_worthNow ml_X7_237 (ct_worthNow (h.2.1.fk (hF.tr h101.2.2) (by decide) (by decide)) ho.2.1 hok.1.2.2.1 h101.1.1 h101.1.2.1 hok.1.2.2.2) rfl rfl rfl rfl (Nat.le_of_ble_eq_true rfl) ⟨lt_r rfl, Nat.le_of_ble_eq_true rfl⟩ ?_
    refine g_iadd dX7_rule_110 (nI_add _ _) ?_
    refine g_istore dX7_rule_111 (lt_r rfl) rfl ?_
    refine g_iinc dX7_rule_113 rfl (inc_nI _) rfl ?_
    refine g_goto (tgt := 80) dX7_rule_116 (by decide) ?_
    have ih2 := ih (i + 1) (by omega) M101 (hF.tr h101.2.2)
    rw [sumN_s] at ih2
    exact g_le (lvLe_c rfl (lvLe_c rfl (lvLe_c rfl (lvLe_c rfl (lvLe_c rfl (lvLe_c rfl lvLe_0)))))) ih2
theorem mx_rule {y : Sys} {x n d c : Int32} (h : RM B M y) (ho : okY y) : Ct E B yX7_rule cX7_rule 8 (some .int) 5 [.ref (B + 80), .int x, .int n, .int d, .int c] M (QM B M (o_rule y x n d c)) := by
  have hcn := ho.2.1.2.2.1
  have hh := ho.2.1.2.2.2.1
  refine Ct.of2 (own := RX7) (lv := [(0, .ref (B + 80)), (1, .int x), (2, .int n), (3, .int d), (4, .int c)]) pn_X7 rfl (Nat.le_of_ble_eq_true rfl) rfl ?_
  refine g_iload_n dX7_rule_0 rfl rfl ?_
  refine g_if_lt (tgt := 32) dX7_rule_1 (by decide) (fun c_1 => ?_) (fun c_1 => ?_)
  · refine g_aload_n dX7_rule_32 rfl rfl ?_
    refine g_bipush dX7_rule_33 kB_m6 ?_
    refine g_callVi dX7_rule_35 mi_X7_no ml_X7_100 (ct_no (w := 6) h (by decide) (by decide)) rfl rfl rfl rfl (Nat.le_of_ble_eq_true rfl) ⟨lt_r rfl, Nat.le_of_ble_eq_true rfl⟩ (fun x35 M35 h35 => ?_)
    refine g_iret dX7_rule_38 ⟨_, rfl, ?_⟩
    first | exact QM.rf (if_pos (fun z => Int32.not_lt.mpr z.1.1 c_1)) h35 | exact QM.rf (if_pos (fun z => Int32.not_lt.mpr z.1.2 c_7)) h35 | exact QM.rf (if_pos (fun z => Int32.not_lt.mpr z.2.1.1 c_12)) h35 | exact QM.rf (if_pos (fun z => Int32.not_lt.mpr z.2.1.2 c_18)) h35 | exact QM.rf (if_pos (fun z => c_29 z.2.2)) h35
  · refine g_iload_n dX7_rule_4 rfl rfl ?_
    refine g_bipush dX7_rule_5 kB_99 ?_
    refine g_icmp_gt (tgt := 32) dX7_rule_7 (by decide) (fun c_7 => ?_) (fun c_7 => ?_)
    · refine g_aload_n dX7_rule_32 rfl rfl ?_
      refine g_bipush dX7_rule_33 kB_m6 ?_
      refine g_callVi dX7_rule_35 mi_X7_no ml_X7_100 (ct_no (w := 6) h (by decide) (by decide)) rfl rfl rfl rfl (Nat.le_of_ble_eq_true rfl) ⟨lt_r rfl, Nat.le_of_ble_eq_true rfl⟩ (fun x35 M35 h35 => ?_)
      refine g_iret dX7_rule_38 ⟨_, rfl, ?_⟩
      first | exact QM.rf (if_pos (fun z => Int32.not_lt.mpr z.1.1 c_1)) h35 | exact QM.rf (if_pos (fun z => Int32.not_lt.mpr z.1.2 c_7)) h35 | exact QM.rf (if_pos (fun z => Int32.not_lt.mpr z.2.1.1 c_12)) h35 | exact QM.rf (if_pos (fun z => Int32.not_lt.mpr z.2.1.2 c_18)) h35 | exact QM.rf (if_pos (fun z => c_29 z.2.2)) h35
    · refine g_iload_n dX7_rule_10 rfl rfl ?_
      refine g_iconst dX7_rule_11 kI_1 ?_
      refine g_icmp_lt (tgt := 32) dX7_rule_12 (by decide) (fun c_12 => ?_) (fun c_12 => ?_)
      · refine g_aload_n dX7_rule_32 rfl rfl ?_
        refine g_bipush dX7_rule_33 kB_m6 ?_
        refine g_callVi dX7_rule_35 mi_X7_no ml_X7_100 (ct_no (w := 6) h (by decide) (by decide)) rfl rfl rfl rfl (Nat.le_of_ble_eq_true rfl) ⟨lt_r rfl, Nat.le_of_ble_eq_true rfl⟩ (fun x35 M35 h35 => ?_)
        refine g_iret dX7_rule_38 ⟨_, rfl, ?_⟩
        first | exact QM.rf (if_pos (fun z => Int32.not_lt.mpr z.1.1 c_1)) h35 | exact QM.rf (if_pos (fun z => Int32.not_lt.mpr z.1.2 c_7)) h35 | exact QM.rf (if_pos (fun z => Int32.not_lt.mpr z.2.1.1 c_12)) h35 | exact QM.rf (if_pos (fun z => Int32.not_lt.mpr z.2.1.2 c_18)) h35 | exact QM.rf (if_pos (fun z => c_29 z.2.2)) h35
      · refine g_iload_n dX7_rule_15 rfl rfl ?_
        refine g_bipush dX7_rule_16 kB_99 ?_
        refine g_icmp_gt (tgt := 32) dX7_rule_18 (by decide) (fun c_18 => ?_) (fun c_18 => ?_)
        · refine g_aload_n dX7_rule_32 rfl rfl ?_
          refine g_bipush dX7_rule_33 kB_m6 ?_
          refine g_callVi dX7_rule_35 mi_X7_no ml_X7_100 (ct_no (w := 6) h (by decide) (by decide)) rfl rfl rfl rfl (Nat.le_of_ble_eq_true rfl) ⟨lt_r rfl, Nat.le_of_ble_eq_true rfl⟩ (fun x35 M35 h35 => ?_)
          refine g_iret dX7_rule_38 ⟨_, rfl, ?_⟩
          first | exact QM.rf (if_pos (fun z => Int32.not_lt.mpr z.1.1 c_1)) h35 | exact QM.rf (if_pos (fun z => Int32.not_lt.mpr z.1.2 c_7)) h35 | exact QM.rf (if_pos (fun z => Int32.not_lt.mpr z.2.1.1 c_12)) h35 | exact QM.rf (if_pos (fun z => Int32.not_lt.mpr z.2.1.2 c_18)) h35 | exact QM.rf (if_pos (fun z => c_29 z.2.2)) h35
        · refine g_aload_n dX7_rule_21 rfl rfl ?_
          refine g_iload_n dX7_rule_22 rfl rfl ?_
          refine g_iconst dX7_rule_23 kI_0 ?_
          refine g_iload dX7_rule_24 rfl ?_
          refine g_callVp dX7_rule_26 mi_X7_may ml_X7_226 (ct_X7_may) rfl rfl rfl rfl (Nat.le_of_ble_eq_true rfl) ⟨lt_r rfl, Nat.le_of_ble_eq_true rfl⟩ ?_
          refine g_if_neP (tgt := 39) dX7_rule_29 (by decide) (fun c_29 => ?_) (fun c_29 => ?_)
          · have k1 : nI 0 ≤ x ∧ x ≤ nI 99 := ⟨Int32.not_lt.mp c_1, Int32.not_lt.mp c_7⟩
            have k2 : nI 1 ≤ n ∧ n ≤ nI 99 := ⟨Int32.not_lt.mp c_12, Int32.not_lt.mp c_18⟩
            have e9 : o_rule y x n d c = _ := if_neg (fun z => z ⟨k1, k2, c_29⟩)
            rw [e9]
            obtain ⟨z2, -, z4⟩ := c_29
            obtain ⟨x', -, hx, rfl, f1⟩ := btw_n (by decide) (by decide) k1
            obtain ⟨n', hn1, hn, rfl, f2⟩ := btw_n (by decide) (by decide) k2
            obtain ⟨d', -, hd, rfl, f3⟩ := btw_n (by decide) (by decide) z2
            obtain ⟨c', -, hc, rfl, f4⟩ := btw_n (by decide) (by decide) z4
            rw [f1, f2, f3, f4]
            have e5 := rule_s2 hx hn1 hh
            refine g_iload_n dX7_rule_39 rfl rfl ?_
            refine g_aload_n dX7_rule_40 rfl rfl ?_
            refine g_getI dX7_rule_41 fl_X7_7 rfl rfl (h.2.1.2.2.2.1) ?_
            refine g_iload_n dX7_rule_44 rfl rfl ?_
            refine g_idiv dX7_rule_45 (nI_ne0 (by omega) (by omega)) (pk_div (by omega) (by omega) (by omega)) ?_
            refine g_isub dX7_rule_46 (rfl) ?_
            refine g_istore dX7_rule_47 (lt_r rfl) rfl ?_
            refine g_iconst dX7_rule_49 kI_0 ?_
            refine g_istore dX7_rule_50 (lt_r rfl) rfl ?_
            refine g_iload dX7_rule_52 rfl ?_
            refine g_if_ge (tgt := 61) dX7_rule_54 (by decide) (fun c_54 => ?_) (fun c_54 => ?_)
            · refine g_iload dX7_rule_61 rfl ?_
              refine g_bipush dX7_rule_63 kB_60 ?_
              refine g_icmp_le (tgt := 73) dX7_rule_65 (by decide) (fun c_65 => ?_) (fun c_65 => ?_)
              · refine g_iload dX7_rule_73 rfl ?_
                refine g_istore dX7_rule_75 (lt_r rfl) rfl ?_
                refine g_iconst dX7_rule_77 kI_0 ?_
                refine g_istore dX7_rule_78 (lt_r rfl) rfl ?_
                first | rw [if_pos c_54] at e5 | rw [if_neg (fun z => z c_54), if_pos c_65] at e5 | rw [if_neg (fun z => z c_54), if_neg c_65] at e5
                exact g_le (lvLe_c rfl (lvLe_c rfl (lvLe_c rfl (lvLe_c (by exact congrArg (fun z => some (Value.int z)) e5) (lvLe_c rfl (lvLe_c rfl lvLe_0)))))) (lp_mrule h ho hd (Nat.min_le_left _ _) hc (sCn (yN y)) 0 rfl M Fk.rf)
              · refine g_bipush dX7_rule_68 kB_60 ?_
                refine g_goto (tgt := 75) dX7_rule_70 (by decide) ?_
                refine g_istore dX7_rule_75 (lt_r rfl) rfl ?_
                refine g_iconst dX7_rule_77 kI_0 ?_
                refine g_istore dX7_rule_78 (lt_r rfl) rfl ?_
                first | rw [if_pos c_54] at e5 | rw [if_neg (fun z => z c_54), if_pos c_65] at e5 | rw [if_neg (fun z => z c_54), if_neg c_65] at e5
                exact g_le (lvLe_c rfl (lvLe_c rfl (lvLe_c rfl (lvLe_c (by exact congrArg (fun z => some (Value.int z)) e5) (lvLe_c rfl (lvLe_c rfl lvLe_0)))))) (lp_mrule h ho hd (Nat.min_le_left _ _) hc (sCn (yN y)) 0 rfl M Fk.rf)
            · refine g_iconst dX7_rule_57 kI_0 ?_
              refine g_goto (tgt := 75) dX7_rule_58 (by decide) ?_
              refine g_istore dX7_rule_75 (lt_r rfl) rfl ?_
              refine g_iconst dX7_rule_77 kI_0 ?_
              refine g_istore dX7_rule_78 (lt_r rfl) rfl ?_
              first | rw [if_pos c_54] at e5 | rw [if_neg (fun z => z c_54), if_pos c_65] at e5 | rw [if_neg (fun z => z c_54), if_neg c_65] at e5
              exact g_le (lvLe_c rfl (lvLe_c rfl (lvLe_c rfl (lvLe_c (by exact congrArg (fun z => some (Value.int z)) e5) (lvLe_c rfl (lvLe_c rfl lvLe_0)))))) (lp_mrule h ho hd (Nat.min_le_left _ _) hc (sCn (yN y)) 0 rfl M Fk.rf)
          · refine g_aload_n dX7_rule_32 rfl rfl ?_
            refine g_bipush dX7_rule_33 kB_m6 ?_
            refine g_callVi dX7_rule_35 mi_X7_no ml_X7_100 (ct_no (w := 6) h (by decide) (by decide)) rfl rfl rfl rfl (Nat.le_of_ble_eq_true rfl) ⟨lt_r rfl, Nat.le_of_ble_eq_true rfl⟩ (fun x35 M35 h35 => ?_)
            refine g_iret dX7_rule_38 ⟨_, rfl, ?_⟩
            first | exact QM.rf (if_pos (fun z => Int32.not_lt.mpr z.1.1 c_1)) h35 | exact QM.rf (if_pos (fun z => Int32.not_lt.mpr z.1.2 c_7)) h35 | exact QM.rf (if_pos (fun z => Int32.not_lt.mpr z.2.1.1 c_12)) h35 | exact QM.rf (if_pos (fun z => Int32.not_lt.mpr z.2.1.2 c_18)) h35 | exact QM.rf (if_pos (fun z => c_29 z.2.2)) h35
theorem lp_mfetch {y : Sys} {M0 : MM} {d s : Nat} (h : RM B M0 y) (ho : okY y) (hd0 : 1 ≤ d) (hd : d ≤ 12) (hs : s ≤ 60) : ∀ (n i : Nat), n + i = sCn (yN y) → ∀ M', Fk B M0 M' dA dJ →
    G E B cX7_fetch (RX7, 5, some .int, rmD 6, 0, 0, KM E B (QM B M0 (fetF (fetP y d s) (sCn (yN y)), y))) 31 [(0, .ref (B + 80)), (1, .int (nI d)), (2, .int (nI s)), (3, .int (fetF (fetP y d s) i)), (4, .int (nI i))] [] M' := by
  have hcn := ho.2.1.2.2.1
  intro n
  induction n with
  | zero =>
    intro i h1 M' hF
    refine g_iload dX7_fetch_31 rfl ?_
    refine g_aload_n dX7_fetch_33 rfl rfl ?_
    refine g_getI dX7_fetch_34 fl_X7_90 rfl rfl ((hF.j (by decide)).trans h.2.1.2.2.1) ?_
    refine g_icmp_geN (tgt := 76) dX7_fetch_37 (by decide) rfl rfl (by omega) (by omega) (fun c_37 => ?_) (fun c_37 => absurd c_37 (by omega))
    refine g_iload_n dX7_fetch_76 rfl rfl ?_
    refine g_iret dX7_fetch_77 ⟨_, rfl, ?_⟩
    have e : i = sCn (yN y) := by omega
    subst e
    exact QM.s h hF.d rfl
  | succ n ih =>
    intro i h1 M' hF
    have hi : i < sCn (yN y) := by omega
    have h12 := (ho.2.1.1 i hi).2.2.1
    have e1 : fetF (fetP y d s) (i + 1) = if fetP y d s i = true then fetF (fetP y d s) i ||| bit1 i else fetF (fetP y d s) i := rfl
    refine g_iload dX7_fetch_31 rfl ?_
    refine g_aload_n dX7_fetch_33 rfl rfl ?_
    refine g_getI dX7_fetch_34 fl_X7_90 rfl rfl ((hF.j (by decide)).trans h.2.1.2.2.1) ?_
    refine g_icmp_geN (tgt := 76) dX7_fetch_37 (by decide) rfl rfl (by omega) (by omega) (fun c_37 => absurd c_37 (by omega)) (fun c_37 => ?_)
    refine g_aload_n dX7_fetch_40 rfl rfl ?_
    refine g_getR dX7_fetch_41 fl_X7_35 rfl rfl ?_
    refine g_iload dX7_fetch_44 rfl ?_
    refine g_iald dX7_fetch_46 rfl rfl (by omega) ((congrFun (hF.i (by decide) (by decide)) _).trans (h.2.1.1 i hi).2.2.1) ?_
    refine g_iload_n dX7_fetch_47 rfl rfl ?_
    refine g_icmp_ltN (tgt := 70) dX7_fetch_48 (by decide) rfl rfl (by omega) (by omega) (fun c_48 => ?_) (fun c_48 => ?_)
    · refine g_iinc dX7_fetch_70 rfl (inc_nI _) rfl ?_
      refine g_goto (tgt := 31) dX7_fetch_73 (by decide) ?_
      first | (have c9 := bp_eq0.mp c_60; have ih2 := ih (i + 1) (by omega) M57 (hF.tr g2); rw [e1, if_neg (show ¬ fetP y d s i = true from fun z => c9 (of_decide_eq_true z).2)] at ih2; exact g_le (lvLe_c rfl (lvLe_c rfl (lvLe_c rfl (lvLe_c rfl (lvLe_c rfl lvLe_0))))) ih2) | (have c9 := Classical.not_not.mp (fun z => c_60 (bp_eq0.mpr z)); have ih2 := ih (i + 1) (by omega) M57 (hF.tr g2); rw [e1, if_pos (show fetP y d s i = true from decide_eq_true ⟨c_48, c9⟩)] at ih2; exact g_le (lvLe_c rfl (lvLe_c rfl (lvLe_c rfl (lvLe_c rfl (lvLe_c rfl lvLe_0))))) ih2) | (have ih2 := ih (i + 1) (by omega) M' hF; rw [e1, if_neg (show ¬ fetP y d s i = true from fun z => absurd (of_decide_eq_true z).1 (Nat.not_le.mpr c_48))] at ih2; exact g_le (lvLe_c rfl (lvLe_c rfl (lvLe_c rfl (lvLe_c rfl (lvLe_c rfl lvLe_0))))) ih2)
    · refine g_aload_n dX7_fetch_51 rfl rfl ?_
      refine g_iload dX7_fetch_52 rfl ?_
      refine g_iload_n dX7_fetch_54 rfl rfl ?_
      refine g_iload_n dX7_fetch_55 rfl rfl ?_
      refine g_iconst dX7_fetch_56 kI_0 ?_
      refine g_callVi dX7_fetch_57 mi_X7_isWhole ml_X7_233 (ct_X7_isWhole (c := 0) (h.2.1.fk hF (by decide) (by decide)) ho.2.1 hi hd hs (by decide)) rfl rfl rfl rfl (Nat.le_of_ble_eq_true rfl) ⟨lt_r rfl, Nat.le_of_ble_eq_true rfl⟩ (fun x57 M57 h57 => ?_)
      obtain ⟨rfl, g2⟩ := h57
      refine g_if_eq (tgt := 70) dX7_fetch_60 (by decide) (fun c_60 => ?_) (fun c_60 => ?_)
      · refine g_iinc dX7_fetch_70 rfl (inc_nI _) rfl ?_
        refine g_goto (tgt := 31) dX7_fetch_73 (by decide) ?_
        first | (have c9 := bp_eq0.mp c_60; have ih2 := ih (i + 1) (by omega) M57 (hF.tr g2); rw [e1, if_neg (show ¬ fetP y d s i = true from fun z => c9 (of_decide_eq_true z).2)] at ih2; exact g_le (lvLe_c rfl (lvLe_c rfl (lvLe_c rfl (lvLe_c rfl (lvLe_c rfl lvLe_0))))) ih2) | (have c9 := Classical.not_not.mp (fun z => c_60 (bp_eq0.mpr z)); have ih2 := ih (i + 1) (by omega) M57 (hF.tr g2); rw [e1, if_pos (show fetP y d s i = true from decide_eq_true ⟨c_48, c9⟩)] at ih2; exact g_le (lvLe_c rfl (lvLe_c rfl (lvLe_c rfl (lvLe_c rfl (lvLe_c rfl lvLe_0))))) ih2) | (have ih2 := ih (i + 1) (by omega) M' hF; rw [e1, if_neg (show ¬ fetP y d s i = true from fun z => absurd (of_decide_eq_true z).1 (Nat.not_le.mpr c_48))] at ih2; exact g_le (lvLe_c rfl (lvLe_c rfl (lvLe_c rfl (lvLe_c rfl (lvLe_c rfl lvLe_0))))) ih2)
      · refine g_iload_n dX7_fetch_63 rfl rfl ?_
        refine g_iconst dX7_fetch_64 kI_1 ?_
        refine g_iload dX7_fetch_65 rfl ?_
        refine g_ishl dX7_fetch_67 rfl ?_
        refine g_ior dX7_fetch_68 rfl ?_
        refine g_istore_n dX7_fetch_69 rfl (lt_r rfl) rfl ?_
        refine g_iinc dX7_fetch_70 rfl (inc_nI _) rfl ?_
        refine g_goto (tgt := 31) dX7_fetch_73 (by decide) ?_
        first | (have c9 := bp_eq0.mp c_60; have ih2 := ih (i + 1) (by omega) M57 (hF.tr g2); rw [e1, if_neg (show ¬ fetP y d s i = true from fun z => c9 (of_decide_eq_true z).2)] at ih2; exact g_le (lvLe_c rfl (lvLe_c rfl (lvLe_c rfl (lvLe_c rfl (lvLe_c rfl lvLe_0))))) ih2) | (have c9 := Classical.not_not.mp (fun z => c_60 (bp_eq0.mpr z)); have ih2 := ih (i + 1) (by omega) M57 (hF.tr g2); rw [e1, if_pos (show fetP y d s i = true from decide_eq_true ⟨c_48, c9⟩)] at ih2; exact g_le (lvLe_c rfl (lvLe_c rfl (lvLe_c rfl (lvLe_c rfl (lvLe_c rfl lvLe_0))))) ih2) | (have ih2 := ih (i + 1) (by omega) M' hF; rw [e1, if_neg (show ¬ fetP y d s i = true from fun z => absurd (of_decide_eq_true z).1 (Nat.not_le.mpr c_48))] at ih2; exact g_le (lvLe_c rfl (lvLe_c rfl (lvLe_c rfl (lvLe_c rfl (lvLe_c rfl lvLe_0))))) ih2)
theorem mx_fetch {y : Sys} {d s : Int32} (h : RM B M y) (ho : okY y) : Ct E B yX7_fetch cX7_fetch 5 (some .int) 6 [.ref (B + 80), .int d, .int s] M (QM B M (o_fetch y d s)) := by
  refine Ct.of2 (own := RX7) (lv := [(0, .ref (B + 80)), (1, .int d), (2, .int s)]) pn_X7 rfl (Nat.le_of_ble_eq_true rfl) rfl ?_
  refine g_iload_n dX7_fetch_0 rfl rfl ?_
  refine g_iconst dX7_fetch_1 kI_1 ?_
  refine g_icmp_lt (tgt := 19) dX7_fetch_2 (by decide) (fun c_2 => ?_) (fun c_2 => ?_)
  · refine g_aload_n dX7_fetch_19 rfl rfl ?_
    refine g_bipush dX7_fetch_20 kB_m6 ?_
    refine g_callVi dX7_fetch_22 mi_X7_no ml_X7_100 (ct_no (w := 6) h (by decide) (by decide)) rfl rfl rfl rfl (Nat.le_of_ble_eq_true rfl) ⟨lt_r rfl, Nat.le_of_ble_eq_true rfl⟩ (fun x22 M22 h22 => ?_)
    refine g_iret dX7_fetch_25 ⟨_, rfl, ?_⟩
    first | exact QM.rf (if_pos (fun z => Int32.not_lt.mpr z.1.1 c_2)) h22 | exact QM.rf (if_pos (fun z => Int32.not_lt.mpr z.1.2 c_8)) h22 | exact QM.rf (if_pos (fun z => c_16 z.2)) h22
  · refine g_iload_n dX7_fetch_5 rfl rfl ?_
    refine g_bipush dX7_fetch_6 kB_12 ?_
    refine g_icmp_gt (tgt := 19) dX7_fetch_8 (by decide) (fun c_8 => ?_) (fun c_8 => ?_)
    · refine g_aload_n dX7_fetch_19 rfl rfl ?_
      refine g_bipush dX7_fetch_20 kB_m6 ?_
      refine g_callVi dX7_fetch_22 mi_X7_no ml_X7_100 (ct_no (w := 6) h (by decide) (by decide)) rfl rfl rfl rfl (Nat.le_of_ble_eq_true rfl) ⟨lt_r rfl, Nat.le_of_ble_eq_true rfl⟩ (fun x22 M22 h22 => ?_)
      refine g_iret dX7_fetch_25 ⟨_, rfl, ?_⟩
      first | exact QM.rf (if_pos (fun z => Int32.not_lt.mpr z.1.1 c_2)) h22 | exact QM.rf (if_pos (fun z => Int32.not_lt.mpr z.1.2 c_8)) h22 | exact QM.rf (if_pos (fun z => c_16 z.2)) h22
    · refine g_aload_n dX7_fetch_11 rfl rfl ?_
      refine g_iload_n dX7_fetch_12 rfl rfl ?_
      refine g_callVp dX7_fetch_13 mi_X7_isLong ml_X7_223 (ct_X7_isLong) rfl rfl rfl rfl (Nat.le_of_ble_eq_true rfl) ⟨lt_r rfl, Nat.le_of_ble_eq_true rfl⟩ ?_
      refine g_if_neP (tgt := 26) dX7_fetch_16 (by decide) (fun c_16 => ?_) (fun c_16 => ?_)
      · have k1 : nI 1 ≤ d ∧ d ≤ nI 12 := ⟨Int32.not_lt.mp c_2, Int32.not_lt.mp c_8⟩
        have e9 : o_fetch y d s = _ := if_neg (fun z => z ⟨k1, c_16⟩)
        rw [e9]
        obtain ⟨d', hd0, hd, rfl, f1⟩ := btw_n (by decide) (by decide) k1
        obtain ⟨s', -, hs, rfl, f2⟩ := btw_n (by decide) (by decide) c_16
        rw [f1, f2]
        refine g_iconst dX7_fetch_26 kI_0 ?_
        refine g_istore_n dX7_fetch_27 rfl (lt_r rfl) rfl ?_
        refine g_iconst dX7_fetch_28 kI_0 ?_
        refine g_istore dX7_fetch_29 (lt_r rfl) rfl ?_
        exact g_le (lvLe_c rfl (lvLe_c rfl (lvLe_c rfl (lvLe_c rfl (lvLe_c rfl lvLe_0))))) (lp_mfetch h ho hd0 hd hs (sCn (yN y)) 0 rfl M Fk.rf)
      · refine g_aload_n dX7_fetch_19 rfl rfl ?_
        refine g_bipush dX7_fetch_20 kB_m6 ?_
        refine g_callVi dX7_fetch_22 mi_X7_no ml_X7_100 (ct_no (w := 6) h (by decide) (by decide)) rfl rfl rfl rfl (Nat.le_of_ble_eq_true rfl) ⟨lt_r rfl, Nat.le_of_ble_eq_true rfl⟩ (fun x22 M22 h22 => ?_)
        refine g_iret dX7_fetch_25 ⟨_, rfl, ?_⟩
        first | exact QM.rf (if_pos (fun z => Int32.not_lt.mpr z.1.1 c_2)) h22 | exact QM.rf (if_pos (fun z => Int32.not_lt.mpr z.1.2 c_8)) h22 | exact QM.rf (if_pos (fun z => c_16 z.2)) h22
end X7I
