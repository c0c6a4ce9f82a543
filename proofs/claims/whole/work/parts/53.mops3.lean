/-! the model's calls, third part: the table by hand, copies -/
theorem RN.h1 {B v : Nat} {M : MM} {s : St} (h : RN B M s) : RN B (upI M (B + 80) 1 (nI v)) (sBs s, sWo s, sCn s, v, s.2.2.2.2) := by
  obtain ⟨a1, a2, a3, a4, a5, a6, a7, a8, a9, a10⟩ := h
  exact ⟨fun q hq => by rw [upI_ap (by decide), upI_ap (by decide), upI_ap (by decide), upI_ap (by decide)]; exact a1 q hq, fun i hi => by rw [upI_ap (by decide)]; exact a2 i hi, by rw [upI_k (by decide)]; exact a3, upI_s, by rw [upI_k (by decide)]; exact a5, by rw [upI_k (by decide)]; exact a6, by rw [upI_k (by decide)]; exact a7, by rw [upI_k (by decide)]; exact a8, by rw [upI_k (by decide)]; exact a9, by rw [upI_k (by decide)]; exact a10⟩
theorem RN.h2 {B v : Nat} {M : MM} {s : St} (h : RN B M s) : RN B (upI M (B + 80) 2 (nI v)) (sBs s, sWo s, sCn s, sHt s, v, s.2.2.2.2.2) := by
  obtain ⟨a1, a2, a3, a4, a5, a6, a7, a8, a9, a10⟩ := h
  exact ⟨fun q hq => by rw [upI_ap (by decide), upI_ap (by decide), upI_ap (by decide), upI_ap (by decide)]; exact a1 q hq, fun i hi => by rw [upI_ap (by decide)]; exact a2 i hi, by rw [upI_k (by decide)]; exact a3, by rw [upI_k (by decide)]; exact a4, upI_s, by rw [upI_k (by decide)]; exact a6, by rw [upI_k (by decide)]; exact a7, by rw [upI_k (by decide)]; exact a8, by rw [upI_k (by decide)]; exact a9, by rw [upI_k (by decide)]; exact a10⟩
theorem RN.h3 {B v : Nat} {M : MM} {s : St} (h : RN B M s) : RN B (upI M (B + 80) 3 (nI v)) (sBs s, sWo s, sCn s, sHt s, sLo s, v, s.2.2.2.2.2.2) := by
  obtain ⟨a1, a2, a3, a4, a5, a6, a7, a8, a9, a10⟩ := h
  exact ⟨fun q hq => by rw [upI_ap (by decide), upI_ap (by decide), upI_ap (by decide), upI_ap (by decide)]; exact a1 q hq, fun i hi => by rw [upI_ap (by decide)]; exact a2 i hi, by rw [upI_k (by decide)]; exact a3, by rw [upI_k (by decide)]; exact a4, by rw [upI_k (by decide)]; exact a5, upI_s, by rw [upI_k (by decide)]; exact a7, by rw [upI_k (by decide)]; exact a8, by rw [upI_k (by decide)]; exact a9, by rw [upI_k (by decide)]; exact a10⟩
theorem RN.h7 {B : Nat} {M : MM} {s : St} {v : Int32} (h : RN B M s) : RN B (upI M (B + 80) 7 v) (seedS s v) := by
  obtain ⟨a1, a2, a3, a4, a5, a6, a7, a8, a9, a10⟩ := h
  exact ⟨fun q hq => by rw [upI_ap (by decide), upI_ap (by decide), upI_ap (by decide), upI_ap (by decide)]; exact a1 q hq, fun i hi => by rw [upI_ap (by decide)]; exact a2 i hi, by rw [upI_k (by decide)]; exact a3, by rw [upI_k (by decide)]; exact a4, by rw [upI_k (by decide)]; exact a5, by rw [upI_k (by decide)]; exact a6, by rw [upI_k (by decide)]; exact a7, by rw [upI_k (by decide)]; exact a8, by rw [upI_k (by decide)]; exact a9, upI_s⟩
theorem RN.wo {B j v : Nat} {M : MM} {s : St} (h : RN B M s) : RN B (upI M (B + 86) j (nI v)) (sBs s, upF (sWo s) j v, s.2.2) := by
  obtain ⟨a1, a2, a3⟩ := h
  refine ⟨fun q hq => by rw [upI_ap (by decide), upI_ap (by decide), upI_ap (by decide), upI_ap (by decide)]; exact a1 q hq, fun i hi => ?_, by rw [upI_ap (by decide)]; exact a3⟩
  show _ = nI (upF (sWo s) j v i)
  by_cases e3 : i = j
  · subst e3; rw [upI_s, upF_s]
  · rw [upI_k e3, upF_n e3]; exact a2 i hi
theorem RN.wet {B q j v : Nat} {M : MM} {s : St} (h : RN B M s) (ho : okSt s) (hq : q < sCn s) (hj : j < (sBs s q).2.2.1) : RN B (upI M (B + 85) (12 * q + j) (nI v)) (wetS s q j v) := by
  obtain ⟨a1, a2, a3⟩ := h
  have hj12 := (ho.1 q hq).2.2.1
  refine ⟨fun q2 hq2 => ?_, fun i hi => by rw [upI_ap (by decide)]; exact a2 i hi, by rw [upI_ap (by decide)]; exact a3⟩
  have hq2 : q2 < sCn s := hq2
  have h12 := (ho.1 q2 hq2).2.2.1
  have h9 := a1 q2 hq2
  rw [upI_ap (by decide), upI_ap (by decide), upI_ap (by decide)]
  show _ = nI (upF (sBs s) q ((sBs s q).1, (sBs s q).2.1, (sBs s q).2.2.1, upF (sBs s q).2.2.2 j v) q2).1 ∧ _ = nI (upF (sBs s) q ((sBs s q).1, (sBs s q).2.1, (sBs s q).2.2.1, upF (sBs s q).2.2.2 j v) q2).2.1 ∧ _ = nI (upF (sBs s) q ((sBs s q).1, (sBs s q).2.1, (sBs s q).2.2.1, upF (sBs s q).2.2.2 j v) q2).2.2.1 ∧ ∀ i, i < (upF (sBs s) q ((sBs s q).1, (sBs s q).2.1, (sBs s q).2.2.1, upF (sBs s q).2.2.2 j v) q2).2.2.1 → _ = nI ((upF (sBs s) q ((sBs s q).1, (sBs s q).2.1, (sBs s q).2.2.1, upF (sBs s q).2.2.2 j v) q2).2.2.2 i)
  by_cases e : q2 = q
  · subst e
    rw [upF_s]
    refine ⟨h9.1, h9.2.1, h9.2.2.1, fun i hi => ?_⟩
    show _ = nI (upF (sBs s q2).2.2.2 j v i)
    by_cases e3 : i = j
    · subst e3; rw [upI_s, upF_s]
    · rw [upI_k (by omega), upF_n e3]; exact h9.2.2.2 i hi
  · rw [upF_n e]
    exact ⟨h9.1, h9.2.1, h9.2.2.1, fun i hi => by rw [upI_k (by omega)]; exact h9.2.2.2 i hi⟩
section X7G
variable {E : EE} {B : Nat} {M : MM}
theorem lp_adds {q : Nat} {F : Option Value → MM → Prop} {M1 : MM} (hq : q < 6) (h0 : M1.1 (B + 80) 0 = nI q)
    (hend : ∀ M', Fk B M1 M' [85] [] → (∀ j, j < 12 → M'.1 (B + 85) (12 * q + j) = nI 0) → (∀ z, z < 12 * q → M'.1 (B + 85) z = M1.1 (B + 85) z) → G E B cX7_adds (RX7, 5, some .int, rmD 0, 0, 0, KM E B F) 62 [(0, .ref (B + 80))] [] M') :
    ∀ (n i : Nat), n + i = 12 → ∀ M', Fk B M1 M' [85] [] → (∀ j, j < i → M'.1 (B + 85) (12 * q + j) = nI 0) → (∀ z, z < 12 * q → M'.1 (B + 85) z = M1.1 (B + 85) z) →
    G E B cX7_adds (RX7, 5, some .int, rmD 0, 0, 0, KM E B F) 33 [(0, .ref (B + 80)), (4, .int (nI i))] [] M' := by
  intro n
  induction n with
  | zero =>
    intro i h1 M' hF hI hz
    refine g_iload dX7_adds_33 rfl ?_
    refine g_bipush dX7_adds_35 kB_12 ?_
    refine g_icmp_geN (tgt := 62) dX7_adds_37 (by decide) rfl rfl (by omega) (by omega) (fun c_37 => ?_) (fun c_37 => absurd c_37 (by omega))
    exact g_le (lvLe_c rfl lvLe_0) (hend M' hF (fun j hj => hI j (by omega)) hz)
  | succ n ih =>
    intro i h1 M' hF hI hz
    refine g_iload dX7_adds_33 rfl ?_
    refine g_bipush dX7_adds_35 kB_12 ?_
    refine g_icmp_geN (tgt := 62) dX7_adds_37 (by decide) rfl rfl (by omega) (by omega) (fun c_37 => absurd c_37 (by omega)) (fun c_37 => ?_)
    refine g_aload_n dX7_adds_40 rfl rfl ?_
    refine g_getR dX7_adds_41 fl_X7_38 rfl rfl ?_
    refine g_bipush dX7_adds_44 kB_12 ?_
    refine g_aload_n dX7_adds_46 rfl rfl ?_
    refine g_getI dX7_adds_47 fl_X7_90 rfl rfl ((hF.j (by decide)).trans h0) ?_
    refine g_imul dX7_adds_50 (pk_mul _ _) ?_
    refine g_iload dX7_adds_51 rfl ?_
    refine g_iadd dX7_adds_53 (nI_add _ _) ?_
    refine g_iconst dX7_adds_54 kI_0 ?_
    refine g_iast dX7_adds_55 rfl rfl (by omega) ?_
    refine g_iinc dX7_adds_56 rfl (inc_nI _) rfl ?_
    refine g_goto (tgt := 33) dX7_adds_59 (by decide) ?_
    exact g_le (lvLe_c rfl (lvLe_c rfl lvLe_0)) (ih (i + 1) (by omega) _ (hF.tr (Fk.pi (by decide) (by decide))) (fun j hj => by
      by_cases e : j = i
      · subst e; exact upI_s
      · rw [upI_k (by omega)]; exact hI j (by omega)) (fun z h9 => by rw [upI_k (by omega)]; exact hz z h9))
theorem ct_adds {s : St} {kd n a : Nat} (h : RN B M s) (ho : okSt s) (hr : sCn s < 6) (hn : n ≤ 12) : Ct E B yX7_adds cX7_adds 5 (some .int) 0 [.ref (B + 80), .int (nI kd), .int (nI n), .int (nI a)] M (Ri (fun r M2 => r = nI (sCn s) ∧ RN B M2 (addS s kd n a) ∧ Fk B M M2 [82, 83, 84, 85] [0])) := by
  refine Ct.of2 (own := RX7) (lv := [(0, .ref (B + 80)), (1, .int (nI kd)), (2, .int (nI n)), (3, .int (nI a))]) pn_X7 rfl (Nat.le_of_ble_eq_true rfl) rfl ?_
  refine g_aload_n dX7_adds_0 rfl rfl ?_
  refine g_getR dX7_adds_1 fl_X7_29 rfl rfl ?_
  refine g_aload_n dX7_adds_4 rfl rfl ?_
  refine g_getI dX7_adds_5 fl_X7_90 rfl rfl (h.2.2.1) ?_
  refine g_iload_n dX7_adds_8 rfl rfl ?_
  refine g_iast dX7_adds_9 rfl rfl (by omega) ?_
  refine g_aload_n dX7_adds_10 rfl rfl ?_
  refine g_getR dX7_adds_11 fl_X7_35 rfl rfl ?_
  refine g_aload_n dX7_adds_14 rfl rfl ?_
  refine g_getI dX7_adds_15 fl_X7_90 rfl rfl ((by rw [upI_ap (by decide)]; exact h.2.2.1 : _ = nI (sCn s))) ?_
  refine g_iload_n dX7_adds_18 rfl rfl ?_
  refine g_iast dX7_adds_19 rfl rfl (by omega) ?_
  refine g_aload_n dX7_adds_20 rfl rfl ?_
  refine g_getR dX7_adds_21 fl_X7_32 rfl rfl ?_
  refine g_aload_n dX7_adds_24 rfl rfl ?_
  refine g_getI dX7_adds_25 fl_X7_90 rfl rfl ((by rw [upI_ap (by decide), upI_ap (by decide)]; exact h.2.2.1 : _ = nI (sCn s))) ?_
  refine g_iload_n dX7_adds_28 rfl rfl ?_
  refine g_iast dX7_adds_29 rfl rfl (by omega) ?_
  refine g_iconst dX7_adds_30 kI_0 ?_
  refine g_istore dX7_adds_31 (lt_r rfl) rfl ?_
  have hF0 : Fk B M (upI (upI (upI M (B + 82) (sCn s) (nI kd)) (B + 84) (sCn s) (nI n)) (B + 83) (sCn s) (nI a)) [82, 83, 84, 85] [0] := Fk.tr (Fk.tr (Fk.pi (by decide) (by decide)) (Fk.pi (by decide) (by decide))) (Fk.pi (by decide) (by decide))
  refine g_le (lvLe_c rfl (lvLe_c rfl lvLe_0)) (lp_adds hr (by rw [upI_ap (by decide), upI_ap (by decide), upI_ap (by decide)]; exact h.2.2.1) (fun M' a1 a2 a3 => ?_) 12 0 rfl _ Fk.rf (fun j hj => absurd hj (Nat.not_lt_zero j)) (fun z _ => rfl))
  have f0 : M'.1 (B + 80) 0 = nI (sCn s) := by rw [a1.j (by decide), upI_ap (by decide), upI_ap (by decide), upI_ap (by decide)]; exact h.2.2.1
  refine g_aload_n dX7_adds_62 rfl rfl ?_
  refine g_dup dX7_adds_63 rfl ?_
  refine g_getI dX7_adds_64 fl_X7_90 rfl rfl (f0) ?_
  refine g_dup_x1 dX7_adds_67 rfl rfl ?_
  refine g_iconst dX7_adds_68 kI_1 ?_
  refine g_iadd dX7_adds_69 (nI_add _ _) ?_
  refine g_putI dX7_adds_70 fp_X7_90 rfl rfl ?_
  refine g_iret dX7_adds_73 ⟨_, rfl, ?_⟩
  have hF1 := (hF0.tr (a1.up (by decide) (by decide))).tr (Fk.pj (x := nI (sCn s + 1)) (j := 0) (by decide))
  refine ⟨rfl, ?_, hF1⟩
  obtain ⟨b1, b2, b3, b4, b5, b6, b7, b8, b9, b10⟩ := h
  refine ⟨fun q hq => ?_, fun i hi => by rw [hF1.i (by decide) (by decide)]; exact b2 i hi, upI_s, by rw [hF1.j (by decide)]; exact b4, by rw [hF1.j (by decide)]; exact b5, by rw [hF1.j (by decide)]; exact b6, by rw [hF1.j (by decide)]; exact b7, by rw [hF1.j (by decide)]; exact b8, by rw [hF1.j (by decide)]; exact b9, by rw [hF1.j (by decide)]; exact b10⟩
  have hq : q < sCn s + 1 := hq
  rw [upI_ap (by decide), upI_ap (by decide), upI_ap (by decide), upI_ap (by decide), a1.i (q := 82) (by decide) (by decide), a1.i (q := 83) (by decide) (by decide), a1.i (q := 84) (by decide) (by decide)]
  by_cases e : q = sCn s
  · subst e
    have eb : sBs (addS s kd n a) (sCn s) = (kd, a, n, fun _ => 0) := upF_s
    rw [eb]
    refine ⟨?_, ?_, ?_, fun i hi => a2 i (by have hi : i < n := hi; omega)⟩
    · rw [upI_ap (by decide), upI_ap (by decide), upI_s]
    · rw [upI_s]
    · rw [upI_ap (by decide), upI_s]
  · have eb : sBs (addS s kd n a) q = sBs s q := upF_n e
    have h9 := b1 q (by omega)
    have h12 := (ho.1 q (by omega)).2.2.1
    rw [eb]
    refine ⟨?_, ?_, ?_, fun i hi => ?_⟩
    · rw [upI_ap (by decide), upI_ap (by decide), upI_k e]; exact h9.1
    · rw [upI_k e, upI_ap (by decide), upI_ap (by decide)]; exact h9.2.1
    · rw [upI_ap (by decide), upI_k e, upI_ap (by decide)]; exact h9.2.2.1
    · rw [a3 _ (by omega), upI_ap (by decide), upI_ap (by decide), upI_ap (by decide)]; exact h9.2.2.2 i hi
theorem mx_biscuit {y : Sys} {kd n a : Int32} (h : RM B M y) (ho : okY y) : Ct E B yX7_biscuit cX7_biscuit 4 (some .int) 1 [.ref (B + 80), .int kd, .int n, .int a] M (QM B M (o_biscuit y kd n a)) := by
  have hcn := ho.2.1.2.2.1
  refine Ct.of2 (own := RX7) (lv := [(0, .ref (B + 80)), (1, .int kd), (2, .int n), (3, .int a)]) pn_X7 rfl (Nat.le_of_ble_eq_true rfl) rfl ?_
  refine g_iload_n dX7_biscuit_0 rfl rfl ?_
  refine g_if_lt (tgt := 10) dX7_biscuit_1 (by decide) (fun c_1 => ?_) (fun c_1 => ?_)
  · refine g_aload_n dX7_biscuit_10 rfl rfl ?_
    refine g_iconst dX7_biscuit_11 kI_m1 ?_
    refine g_callVi dX7_biscuit_12 mi_X7_no ml_X7_100 (ct_no (w := 1) h (by decide) (by decide)) rfl rfl rfl rfl (Nat.le_of_ble_eq_true rfl) ⟨lt_r rfl, Nat.le_of_ble_eq_true rfl⟩ (fun x12 M12 h12 => ?_)
    refine g_iret dX7_biscuit_15 ⟨_, rfl, ?_⟩
    first | exact QM.rf (if_pos (fun z => Int32.not_lt.mpr z.1 c_1)) h12 | exact QM.rf (if_pos (fun z => c_7 z.2)) h12
  · refine g_iload_n dX7_biscuit_4 rfl rfl ?_
    refine g_bipush dX7_biscuit_5 kB_6 ?_
    refine g_icmp_le (tgt := 16) dX7_biscuit_7 (by decide) (fun c_7 => ?_) (fun c_7 => ?_)
    · refine g_iload_n dX7_biscuit_16 rfl rfl ?_
      refine g_iconst dX7_biscuit_17 kI_1 ?_
      refine g_icmp_lt (tgt := 37) dX7_biscuit_18 (by decide) (fun c_18 => ?_) (fun c_18 => ?_)
      · refine g_aload_n dX7_biscuit_37 rfl rfl ?_
        refine g_bipush dX7_biscuit_38 kB_m6 ?_
        refine g_callVi dX7_biscuit_40 mi_X7_no ml_X7_100 (ct_no (w := 6) h (by decide) (by decide)) rfl rfl rfl rfl (Nat.le_of_ble_eq_true rfl) ⟨lt_r rfl, Nat.le_of_ble_eq_true rfl⟩ (fun x40 M40 h40 => ?_)
        refine g_iret dX7_biscuit_43 ⟨_, rfl, ?_⟩
        first | exact QM.rf (by unfold o_biscuit; rw [if_neg (fun z => z ⟨Int32.not_lt.mp c_1, c_7⟩), if_pos (fun z => Int32.not_lt.mpr z.1.1 c_18)]) h40 | exact QM.rf (by unfold o_biscuit; rw [if_neg (fun z => z ⟨Int32.not_lt.mp c_1, c_7⟩), if_pos (fun z => Int32.not_lt.mpr z.1.2 c_24)]) h40 | exact QM.rf (by unfold o_biscuit; rw [if_neg (fun z => z ⟨Int32.not_lt.mp c_1, c_7⟩), if_pos (fun z => Int32.not_lt.mpr z.2.1 c_28)]) h40 | exact QM.rf (by unfold o_biscuit; rw [if_neg (fun z => z ⟨Int32.not_lt.mp c_1, c_7⟩), if_pos (fun z => c_34 z.2.2)]) h40
      · refine g_iload_n dX7_biscuit_21 rfl rfl ?_
        refine g_bipush dX7_biscuit_22 kB_12 ?_
        refine g_icmp_gt (tgt := 37) dX7_biscuit_24 (by decide) (fun c_24 => ?_) (fun c_24 => ?_)
        · refine g_aload_n dX7_biscuit_37 rfl rfl ?_
          refine g_bipush dX7_biscuit_38 kB_m6 ?_
          refine g_callVi dX7_biscuit_40 mi_X7_no ml_X7_100 (ct_no (w := 6) h (by decide) (by decide)) rfl rfl rfl rfl (Nat.le_of_ble_eq_true rfl) ⟨lt_r rfl, Nat.le_of_ble_eq_true rfl⟩ (fun x40 M40 h40 => ?_)
          refine g_iret dX7_biscuit_43 ⟨_, rfl, ?_⟩
          first | exact QM.rf (by unfold o_biscuit; rw [if_neg (fun z => z ⟨Int32.not_lt.mp c_1, c_7⟩), if_pos (fun z => Int32.not_lt.mpr z.1.1 c_18)]) h40 | exact QM.rf (by unfold o_biscuit; rw [if_neg (fun z => z ⟨Int32.not_lt.mp c_1, c_7⟩), if_pos (fun z => Int32.not_lt.mpr z.1.2 c_24)]) h40 | exact QM.rf (by unfold o_biscuit; rw [if_neg (fun z => z ⟨Int32.not_lt.mp c_1, c_7⟩), if_pos (fun z => Int32.not_lt.mpr z.2.1 c_28)]) h40 | exact QM.rf (by unfold o_biscuit; rw [if_neg (fun z => z ⟨Int32.not_lt.mp c_1, c_7⟩), if_pos (fun z => c_34 z.2.2)]) h40
        · refine g_iload_n dX7_biscuit_27 rfl rfl ?_
          refine g_if_lt (tgt := 37) dX7_biscuit_28 (by decide) (fun c_28 => ?_) (fun c_28 => ?_)
          · refine g_aload_n dX7_biscuit_37 rfl rfl ?_
            refine g_bipush dX7_biscuit_38 kB_m6 ?_
            refine g_callVi dX7_biscuit_40 mi_X7_no ml_X7_100 (ct_no (w := 6) h (by decide) (by decide)) rfl rfl rfl rfl (Nat.le_of_ble_eq_true rfl) ⟨lt_r rfl, Nat.le_of_ble_eq_true rfl⟩ (fun x40 M40 h40 => ?_)
            refine g_iret dX7_biscuit_43 ⟨_, rfl, ?_⟩
            first | exact QM.rf (by unfold o_biscuit; rw [if_neg (fun z => z ⟨Int32.not_lt.mp c_1, c_7⟩), if_pos (fun z => Int32.not_lt.mpr z.1.1 c_18)]) h40 | exact QM.rf (by unfold o_biscuit; rw [if_neg (fun z => z ⟨Int32.not_lt.mp c_1, c_7⟩), if_pos (fun z => Int32.not_lt.mpr z.1.2 c_24)]) h40 | exact QM.rf (by unfold o_biscuit; rw [if_neg (fun z => z ⟨Int32.not_lt.mp c_1, c_7⟩), if_pos (fun z => Int32.not_lt.mpr z.2.1 c_28)]) h40 | exact QM.rf (by unfold o_biscuit; rw [if_neg (fun z => z ⟨Int32.not_lt.mp c_1, c_7⟩), if_pos (fun z => c_34 z.2.2)]) h40
          · refine g_iload_n dX7_biscuit_31 rfl rfl ?_
            refine g_bipush dX7_biscuit_32 kB_9 ?_
            refine g_icmp_le (tgt := 44) dX7_biscuit_34 (by decide) (fun c_34 => ?_) (fun c_34 => ?_)
            · have k1 : nI 0 ≤ kd ∧ kd ≤ nI 6 := ⟨Int32.not_lt.mp c_1, c_7⟩
              have k2 : (nI 1 ≤ n ∧ n ≤ nI 12) ∧ nI 0 ≤ a ∧ a ≤ nI 9 := ⟨⟨Int32.not_lt.mp c_18, Int32.not_lt.mp c_24⟩, Int32.not_lt.mp c_28, c_34⟩
              have e9 : o_biscuit y kd n a = _ := (if_neg (fun z => z k1)).trans (if_neg (fun z => z k2))
              rw [e9]
              obtain ⟨kd', -, b1, rfl, e1⟩ := btw_n (by decide) (by decide) k1
              obtain ⟨n', -, b2, rfl, e2⟩ := btw_n (by decide) (by decide) k2.1
              obtain ⟨a', -, b3, rfl, e3⟩ := btw_n (by decide) (by decide) k2.2
              rw [e1, e2, e3]
              refine g_aload_n dX7_biscuit_44 rfl rfl ?_
              refine g_getI dX7_biscuit_45 fl_X7_90 rfl rfl (h.2.1.2.2.1) ?_
              refine g_bipush dX7_biscuit_48 kB_6 ?_
              refine g_icmp_neN (tgt := 62) dX7_biscuit_50 (by decide) rfl rfl (by omega) (by omega) (fun c_50 => ?_) (fun c_50 => ?_)
              · refine g_aload_n dX7_biscuit_62 rfl rfl ?_
                refine g_iload_n dX7_biscuit_63 rfl rfl ?_
                refine g_iload_n dX7_biscuit_64 rfl rfl ?_
                refine g_iload_n dX7_biscuit_65 rfl rfl ?_
                refine g_callVi dX7_biscuit_66 mi_X7_adds ml_X7_108 (ct_adds h.2.1 ho.2.1 (by omega) b2) rfl rfl rfl rfl (Nat.le_of_ble_eq_true rfl) ⟨lt_r rfl, Nat.le_of_ble_eq_true rfl⟩ (fun x66 M66 h66 => ?_)
                refine g_iret dX7_biscuit_69 ⟨_, rfl, ?_⟩
                first | exact QM.rf (if_pos (by omega)) h56 | (rw [if_neg (by omega)]; exact ⟨h66.1, h.n h66.2.2 (by decide) (by decide) h66.2.1, h66.2.2.sm (by decide)⟩)
              · refine g_aload_n dX7_biscuit_53 rfl rfl ?_
                refine g_bipush dX7_biscuit_54 kB_m7 ?_
                refine g_callVi dX7_biscuit_56 mi_X7_no ml_X7_100 (ct_no (w := 7) h (by decide) (by decide)) rfl rfl rfl rfl (Nat.le_of_ble_eq_true rfl) ⟨lt_r rfl, Nat.le_of_ble_eq_true rfl⟩ (fun x56 M56 h56 => ?_)
                refine g_goto (tgt := 69) dX7_biscuit_59 (by decide) ?_
                refine g_iret dX7_biscuit_69 ⟨_, rfl, ?_⟩
                first | exact QM.rf (if_pos (by omega)) h56 | (rw [if_neg (by omega)]; exact ⟨h66.1, h.n h66.2.2 (by decide) (by decide) h66.2.1, h66.2.2.sm (by decide)⟩)
            · refine g_aload_n dX7_biscuit_37 rfl rfl ?_
              refine g_bipush dX7_biscuit_38 kB_m6 ?_
              refine g_callVi dX7_biscuit_40 mi_X7_no ml_X7_100 (ct_no (w := 6) h (by decide) (by decide)) rfl rfl rfl rfl (Nat.le_of_ble_eq_true rfl) ⟨lt_r rfl, Nat.le_of_ble_eq_true rfl⟩ (fun x40 M40 h40 => ?_)
              refine g_iret dX7_biscuit_43 ⟨_, rfl, ?_⟩
              first | exact QM.rf (by unfold o_biscuit; rw [if_neg (fun z => z ⟨Int32.not_lt.mp c_1, c_7⟩), if_pos (fun z => Int32.not_lt.mpr z.1.1 c_18)]) h40 | exact QM.rf (by unfold o_biscuit; rw [if_neg (fun z => z ⟨Int32.not_lt.mp c_1, c_7⟩), if_pos (fun z => Int32.not_lt.mpr z.1.2 c_24)]) h40 | exact QM.rf (by unfold o_biscuit; rw [if_neg (fun z => z ⟨Int32.not_lt.mp c_1, c_7⟩), if_pos (fun z => Int32.not_lt.mpr z.2.1 c_28)]) h40 | exact QM.rf (by unfold o_biscuit; rw [if_neg (fun z => z ⟨Int32.not_lt.mp c_1, c_7⟩), if_pos (fun z => c_34 z.2.2)]) h40
    · refine g_aload_n dX7_biscuit_10 rfl rfl ?_
      refine g_iconst dX7_biscuit_11 kI_m1 ?_
      refine g_callVi dX7_biscuit_12 mi_X7_no ml_X7_100 (ct_no (w := 1) h (by decide) (by decide)) rfl rfl rfl rfl (Nat.le_of_ble_eq_true rfl) ⟨lt_r rfl, Nat.le_of_ble_eq_true rfl⟩ (fun x12 M12 h12 => ?_)
      refine g_iret dX7_biscuit_15 ⟨_, rfl, ?_⟩
      first | exact QM.rf (if_pos (fun z => Int32.not_lt.mpr z.1 c_1)) h12 | exact QM.rf (if_pos (fun z => c_7 z.2)) h12
theorem lp_wetSum {y : Sys} {q : Nat} {w : Int32} (h : RM B M y) (ho : okY y) (hq : q < sCn (yN y)) : ∀ (n i : Nat), n + i = (sBs (yN y) q).2.2.1 →
    G E B cX7_biscuitOf (RX7, 5, some .int, rmD 2, 0, 0, KM E B (QM B M (nI (sumN (sBs (yN y) q).2.2.2 (sBs (yN y) q).2.2.1), y))) 104 [(0, .ref (B + 80)), (1, .int (nI q)), (3, .int (nI (sumN (sBs (yN y) q).2.2.2 i))), (4, .int (nI i))] [] M := by
  have hcn := ho.2.1.2.2.1
  have h12 := (ho.2.1.1 q hq).2.2.1
  intro n
  induction n with
  | zero =>
    intro i h1
    refine g_iload dX7_biscuitOf_104 rfl ?_
    refine g_aload_n dX7_biscuitOf_106 rfl rfl ?_
    refine g_getR dX7_biscuitOf_107 fl_X7_35 rfl rfl ?_
    refine g_iload_n dX7_biscuitOf_110 rfl rfl ?_
    refine g_iald dX7_biscuitOf_111 rfl rfl (by omega) ((h.2.1.1 q hq).2.2.1) ?_
    refine g_icmp_geN (tgt := 136) dX7_biscuitOf_112 (by decide) rfl rfl (by omega) (by omega) (fun c_112 => ?_) (fun c_112 => absurd c_112 (by omega))
    refine g_iload_n dX7_biscuitOf_136 rfl rfl ?_
    refine g_iret dX7_biscuitOf_137 ⟨_, rfl, ?_⟩
    exact QM.p h (by rw [show i = (sBs (yN y) q).2.2.1 by omega])
  | succ n ih =>
    intro i h1
    have ih2 := ih (i + 1) (by omega)
    rw [sumN_s] at ih2
    refine g_iload dX7_biscuitOf_104 rfl ?_
    refine g_aload_n dX7_biscuitOf_106 rfl rfl ?_
    refine g_getR dX7_biscuitOf_107 fl_X7_35 rfl rfl ?_
    refine g_iload_n dX7_biscuitOf_110 rfl rfl ?_
    refine g_iald dX7_biscuitOf_111 rfl rfl (by omega) ((h.2.1.1 q hq).2.2.1) ?_
    refine g_icmp_geN (tgt := 136) dX7_biscuitOf_112 (by decide) rfl rfl (by omega) (by omega) (fun c_112 => absurd c_112 (by omega)) (fun c_112 => ?_)
    refine g_iload_n dX7_biscuitOf_115 rfl rfl ?_
    refine g_aload_n dX7_biscuitOf_116 rfl rfl ?_
    refine g_getR dX7_biscuitOf_117 fl_X7_38 rfl rfl ?_
    refine g_bipush dX7_biscuitOf_120 kB_12 ?_
    refine g_iload_n dX7_biscuitOf_122 rfl rfl ?_
    refine g_imul dX7_biscuitOf_123 (pk_mul _ _) ?_
    refine g_iload dX7_biscuitOf_124 rfl ?_
    refine g_iadd dX7_biscuitOf_126 (nI_add _ _) ?_
    refine g_iald dX7_biscuitOf_127 rfl rfl (by omega) ((h.2.1.1 q hq).2.2.2 i (by omega)) ?_
    refine g_iadd dX7_biscuitOf_128 (nI_add _ _) ?_
    refine g_istore_n dX7_biscuitOf_129 rfl (lt_r rfl) rfl ?_
    refine g_iinc dX7_biscuitOf_130 rfl (inc_nI _) rfl ?_
    refine g_goto (tgt := 104) dX7_biscuitOf_133 (by decide) ?_
    exact g_le (lvLe_c rfl (lvLe_c rfl (lvLe_c rfl (lvLe_c rfl lvLe_0)))) ih2
theorem tn_sub {w : Int32} {j : Nat} (h : w - nI 10 = nI j) : w = nI (10 + j) := by
  have e : w - nI 10 + nI 10 = nI j + nI 10 := by rw [h]
  rw [Int32.sub_add_cancel, nI_add] at e
  rw [e, Nat.add_comm]
theorem mx_biscuitOf {y : Sys} {b w : Int32} (h : RM B M y) (ho : okY y) : Ct E B yX7_biscuitOf cX7_biscuitOf 5 (some .int) 2 [.ref (B + 80), .int b, .int w] M (QM B M (o_biscuitOf y b w)) := by
  have hcn := ho.2.1.2.2.1
  refine Ct.of2 (own := RX7) (lv := [(0, .ref (B + 80)), (1, .int b), (2, .int w)]) pn_X7 rfl (Nat.le_of_ble_eq_true rfl) rfl ?_
  refine g_aload_n dX7_biscuitOf_0 rfl rfl ?_
  refine g_iload_n dX7_biscuitOf_1 rfl rfl ?_
  refine g_callVp dX7_biscuitOf_2 mi_X7_isBiscuit ml_X7_93 (ct_X7_isBiscuit h.2.1) rfl rfl rfl rfl (Nat.le_of_ble_eq_true rfl) ⟨lt_r rfl, Nat.le_of_ble_eq_true rfl⟩ ?_
  refine g_if_neP (tgt := 15) dX7_biscuitOf_5 (by decide) (fun c_5 => ?_) (fun c_5 => ?_)
  · have e9 : o_biscuitOf y b w = _ := if_neg (fun z => z c_5)
    rw [e9]
    obtain ⟨q, hq, rfl, e1⟩ := in_b hcn c_5
    rw [e1]
    have hB3 := (ho.2.1.1 q hq).2.2.1
    refine g_iload_n dX7_biscuitOf_15 rfl rfl ?_
    refine g_bipush dX7_biscuitOf_16 kB_10 ?_
    refine g_icmp_lt (tgt := 48) dX7_biscuitOf_18 (by decide) (fun c_18 => ?_) (fun c_18 => ?_)
    · refine g_iconst dX7_biscuitOf_48 kI_0 ?_
      refine g_istore_n dX7_biscuitOf_49 rfl (lt_r rfl) rfl ?_
      refine g_iload_n dX7_biscuitOf_50 rfl rfl ?_
      refine g_tblC (off := 29) (tgt := 80) dX7_biscuitOf_51 0 (by decide) (by decide) (by decide) (by decide) (fun c_51_0 => ?_) (fun c_51_0 => ?_)
      · refine g_aload_n dX7_biscuitOf_80 rfl rfl ?_
        refine g_getR dX7_biscuitOf_81 fl_X7_29 rfl rfl ?_
        refine g_iload_n dX7_biscuitOf_84 rfl rfl ?_
        refine g_iald dX7_biscuitOf_85 rfl rfl (by omega) ((h.2.1.1 q hq).1) ?_
        refine g_iret dX7_biscuitOf_86 ⟨_, rfl, ?_⟩
        exact QM.p h (if_pos c_51_0)
      refine g_tblC (off := 36) (tgt := 87) dX7_biscuitOf_51 1 (by decide) (by decide) (by decide) (by decide) (fun c_51_1 => ?_) (fun c_51_1 => ?_)
      · refine g_aload_n dX7_biscuitOf_87 rfl rfl ?_
        refine g_getR dX7_biscuitOf_88 fl_X7_35 rfl rfl ?_
        refine g_iload_n dX7_biscuitOf_91 rfl rfl ?_
        refine g_iald dX7_biscuitOf_92 rfl rfl (by omega) ((h.2.1.1 q hq).2.2.1) ?_
        refine g_iret dX7_biscuitOf_93 ⟨_, rfl, ?_⟩
        exact QM.p h (by rw [if_neg (ne_toI (v := 0) (by decide) c_51_0), if_pos c_51_1])
      refine g_tblC (off := 43) (tgt := 94) dX7_biscuitOf_51 2 (by decide) (by decide) (by decide) (by decide) (fun c_51_2 => ?_) (fun c_51_2 => ?_)
      · refine g_aload_n dX7_biscuitOf_94 rfl rfl ?_
        refine g_getR dX7_biscuitOf_95 fl_X7_32 rfl rfl ?_
        refine g_iload_n dX7_biscuitOf_98 rfl rfl ?_
        refine g_iald dX7_biscuitOf_99 rfl rfl (by omega) ((h.2.1.1 q hq).2.1) ?_
        refine g_iret dX7_biscuitOf_100 ⟨_, rfl, ?_⟩
        exact QM.p h (by rw [if_neg (ne_toI (v := 0) (by decide) c_51_0), if_neg (ne_toI (v := 1) (by decide) c_51_1), if_pos c_51_2])
      refine g_tblC (off := 50) (tgt := 101) dX7_biscuitOf_51 3 (by decide) (by decide) (by decide) (by decide) (fun c_51_3 => ?_) (fun c_51_3 => ?_)
      · refine g_iconst dX7_biscuitOf_101 kI_0 ?_
        refine g_istore dX7_biscuitOf_102 (lt_r rfl) rfl ?_
        rw [if_neg (ne_toI (v := 0) (by decide) c_51_0), if_neg (ne_toI (v := 1) (by decide) c_51_1), if_neg (ne_toI (v := 2) (by decide) c_51_2), if_pos c_51_3]
        exact g_le (lvLe_c rfl (lvLe_c rfl (lvLe_c rfl (lvLe_c rfl lvLe_0)))) (lp_wetSum (w := w) h ho hq (sBs (yN y) q).2.2.1 0 rfl)
      refine g_tableOut (tgt := 138) dX7_biscuitOf_51 (by skip; omega) (by decide) ?_
      rw [if_neg (ne_toI (v := 0) (by decide) c_51_0), if_neg (ne_toI (v := 1) (by decide) c_51_1), if_neg (ne_toI (v := 2) (by decide) c_51_2), if_neg (ne_toI (v := 3) (by decide) c_51_3)]
      refine g_aload_n dX7_biscuitOf_138 rfl rfl ?_
      refine g_bipush dX7_biscuitOf_139 kB_m5 ?_
      refine g_callVi dX7_biscuitOf_141 mi_X7_no ml_X7_100 (ct_no (w := 5) h (by decide) (by decide)) rfl rfl rfl rfl (Nat.le_of_ble_eq_true rfl) ⟨lt_r rfl, Nat.le_of_ble_eq_true rfl⟩ (fun x141 M141 h141 => ?_)
      refine g_iret dX7_biscuitOf_144 ⟨_, rfl, ?_⟩
      first | exact QM.rf (if_pos c_18) h141 | exact QM.rf (by rw [if_neg c_18, if_pos (fun z => c_30 ⟨c_5, by rw [e1]; exact z⟩)]) h141
    · refine g_aload_n dX7_biscuitOf_21 rfl rfl ?_
      refine g_iload_n dX7_biscuitOf_22 rfl rfl ?_
      refine g_iload_n dX7_biscuitOf_23 rfl rfl ?_
      refine g_bipush dX7_biscuitOf_24 kB_10 ?_
      refine g_isub dX7_biscuitOf_26 rfl ?_
      refine g_callVp dX7_biscuitOf_27 mi_X7_isCell ml_X7_112 (ct_X7_isCell h.2.1 ho.2.1) rfl rfl rfl rfl (Nat.le_of_ble_eq_true rfl) ⟨lt_r rfl, Nat.le_of_ble_eq_true rfl⟩ ?_
      refine g_if_eqP (tgt := 48) dX7_biscuitOf_30 (by decide) (fun c_30 => ?_) (fun c_30 => ?_)
      · refine g_iconst dX7_biscuitOf_48 kI_0 ?_
        refine g_istore_n dX7_biscuitOf_49 rfl (lt_r rfl) rfl ?_
        refine g_iload_n dX7_biscuitOf_50 rfl rfl ?_
        refine g_tblC (off := 29) (tgt := 80) dX7_biscuitOf_51 0 (by decide) (by decide) (by decide) (by decide) (fun c_51_0 => ?_) (fun c_51_0 => ?_)
        · refine g_aload_n dX7_biscuitOf_80 rfl rfl ?_
          refine g_getR dX7_biscuitOf_81 fl_X7_29 rfl rfl ?_
          refine g_iload_n dX7_biscuitOf_84 rfl rfl ?_
          refine g_iald dX7_biscuitOf_85 rfl rfl (by omega) ((h.2.1.1 q hq).1) ?_
          refine g_iret dX7_biscuitOf_86 ⟨_, rfl, ?_⟩
          exact QM.p h (if_pos c_51_0)
        refine g_tblC (off := 36) (tgt := 87) dX7_biscuitOf_51 1 (by decide) (by decide) (by decide) (by decide) (fun c_51_1 => ?_) (fun c_51_1 => ?_)
        · refine g_aload_n dX7_biscuitOf_87 rfl rfl ?_
          refine g_getR dX7_biscuitOf_88 fl_X7_35 rfl rfl ?_
          refine g_iload_n dX7_biscuitOf_91 rfl rfl ?_
          refine g_iald dX7_biscuitOf_92 rfl rfl (by omega) ((h.2.1.1 q hq).2.2.1) ?_
          refine g_iret dX7_biscuitOf_93 ⟨_, rfl, ?_⟩
          exact QM.p h (by rw [if_neg (ne_toI (v := 0) (by decide) c_51_0), if_pos c_51_1])
        refine g_tblC (off := 43) (tgt := 94) dX7_biscuitOf_51 2 (by decide) (by decide) (by decide) (by decide) (fun c_51_2 => ?_) (fun c_51_2 => ?_)
        · refine g_aload_n dX7_biscuitOf_94 rfl rfl ?_
          refine g_getR dX7_biscuitOf_95 fl_X7_32 rfl rfl ?_
          refine g_iload_n dX7_biscuitOf_98 rfl rfl ?_
          refine g_iald dX7_biscuitOf_99 rfl rfl (by omega) ((h.2.1.1 q hq).2.1) ?_
          refine g_iret dX7_biscuitOf_100 ⟨_, rfl, ?_⟩
          exact QM.p h (by rw [if_neg (ne_toI (v := 0) (by decide) c_51_0), if_neg (ne_toI (v := 1) (by decide) c_51_1), if_pos c_51_2])
        refine g_tblC (off := 50) (tgt := 101) dX7_biscuitOf_51 3 (by decide) (by decide) (by decide) (by decide) (fun c_51_3 => ?_) (fun c_51_3 => ?_)
        · refine g_iconst dX7_biscuitOf_101 kI_0 ?_
          refine g_istore dX7_biscuitOf_102 (lt_r rfl) rfl ?_
          rw [if_neg (ne_toI (v := 0) (by decide) c_51_0), if_neg (ne_toI (v := 1) (by decide) c_51_1), if_neg (ne_toI (v := 2) (by decide) c_51_2), if_pos c_51_3]
          exact g_le (lvLe_c rfl (lvLe_c rfl (lvLe_c rfl (lvLe_c rfl lvLe_0)))) (lp_wetSum (w := w) h ho hq (sBs (yN y) q).2.2.1 0 rfl)
        refine g_tableOut (tgt := 138) dX7_biscuitOf_51 (by skip; omega) (by decide) ?_
        rw [if_neg (ne_toI (v := 0) (by decide) c_51_0), if_neg (ne_toI (v := 1) (by decide) c_51_1), if_neg (ne_toI (v := 2) (by decide) c_51_2), if_neg (ne_toI (v := 3) (by decide) c_51_3)]
        refine g_aload_n dX7_biscuitOf_138 rfl rfl ?_
        refine g_bipush dX7_biscuitOf_139 kB_m5 ?_
        refine g_callVi dX7_biscuitOf_141 mi_X7_no ml_X7_100 (ct_no (w := 5) h (by decide) (by decide)) rfl rfl rfl rfl (Nat.le_of_ble_eq_true rfl) ⟨lt_r rfl, Nat.le_of_ble_eq_true rfl⟩ (fun x141 M141 h141 => ?_)
        refine g_iret dX7_biscuitOf_144 ⟨_, rfl, ?_⟩
        first | exact QM.rf (if_pos c_18) h141 | exact QM.rf (by rw [if_neg c_18, if_pos (fun z => c_30 ⟨c_5, by rw [e1]; exact z⟩)]) h141
      · obtain ⟨c1, c2⟩ := c_30
        rw [e1] at c2
        obtain ⟨j, hj, e3⟩ := in_nI (by omega) c2
        have e4 := tn_sub e3
        subst e4
        have g0 : ∀ v : Nat, v < 10 → ¬ nI (10 + j) = nI v := fun v hv z => by have := (nI_eq (by omega) (by omega)).mp z; omega
        refine g_aload_n dX7_biscuitOf_33 rfl rfl ?_
        refine g_getR dX7_biscuitOf_34 fl_X7_38 rfl rfl ?_
        refine g_bipush dX7_biscuitOf_37 kB_12 ?_
        refine g_iload_n dX7_biscuitOf_39 rfl rfl ?_
        refine g_imul dX7_biscuitOf_40 (pk_mul _ _) ?_
        refine g_iload_n dX7_biscuitOf_41 rfl rfl ?_
        refine g_iadd dX7_biscuitOf_42 (nI_add _ _) ?_
        refine g_bipush dX7_biscuitOf_43 kB_10 ?_
        refine g_isub dX7_biscuitOf_45 (show _ = nI (12 * q + j) from (by rw [pk_sub (by omega)]; exact congrArg nI (by omega))) ?_
        refine g_iald dX7_biscuitOf_46 rfl rfl (by omega) ((h.2.1.1 q hq).2.2.2 j hj) ?_
        refine g_iret dX7_biscuitOf_47 ⟨_, rfl, ?_⟩
        exact QM.p h (by rw [if_neg (g0 0 (by decide)), if_neg (g0 1 (by decide)), if_neg (g0 2 (by decide)), if_neg (g0 3 (by decide)), if_neg (fun z => by have := (nI_ltI (by omega) (by decide)).mp z; omega), if_neg (fun z => z (by rw [e3]; exact ⟨Int32.not_lt.mp (nI_pos (by omega)), (nI_ltI (by omega) (by omega)).mpr hj⟩)), e3, tn_nI (by omega)])
  · refine g_aload_n dX7_biscuitOf_8 rfl rfl ?_
    refine g_bipush dX7_biscuitOf_9 kB_m5 ?_
    refine g_callVi dX7_biscuitOf_11 mi_X7_no ml_X7_100 (ct_no (w := 5) h (by decide) (by decide)) rfl rfl rfl rfl (Nat.le_of_ble_eq_true rfl) ⟨lt_r rfl, Nat.le_of_ble_eq_true rfl⟩ (fun x11 M11 h11 => ?_)
    refine g_iret dX7_biscuitOf_14 ⟨_, rfl, ?_⟩
    exact QM.rf (if_pos c_5) h11
theorem mx_wet {y : Sys} {b c v : Int32} (h : RM B M y) (ho : okY y) : Ct E B yX7_wet cX7_wet 5 (some .int) 2 [.ref (B + 80), .int b, .int c, .int v] M (QM B M (o_wet y b c v)) := by
  have hcn := ho.2.1.2.2.1
  refine Ct.of2 (own := RX7) (lv := [(0, .ref (B + 80)), (1, .int b), (2, .int c), (3, .int v)]) pn_X7 rfl (Nat.le_of_ble_eq_true rfl) rfl ?_
  refine g_aload_n dX7_wet_0 rfl rfl ?_
  refine g_iload_n dX7_wet_1 rfl rfl ?_
  refine g_iload_n dX7_wet_2 rfl rfl ?_
  refine g_callVp dX7_wet_3 mi_X7_isCell ml_X7_112 (ct_X7_isCell h.2.1 ho.2.1) rfl rfl rfl rfl (Nat.le_of_ble_eq_true rfl) ⟨lt_r rfl, Nat.le_of_ble_eq_true rfl⟩ ?_
  refine g_if_neP (tgt := 15) dX7_wet_6 (by decide) (fun c_6 => ?_) (fun c_6 => ?_)
  · refine g_iload_n dX7_wet_15 rfl rfl ?_
    refine g_if_lt (tgt := 25) dX7_wet_16 (by decide) (fun c_16 => ?_) (fun c_16 => ?_)
    · refine g_aload_n dX7_wet_25 rfl rfl ?_
      refine g_bipush dX7_wet_26 kB_m6 ?_
      refine g_callVi dX7_wet_28 mi_X7_no ml_X7_100 (ct_no (w := 6) h (by decide) (by decide)) rfl rfl rfl rfl (Nat.le_of_ble_eq_true rfl) ⟨lt_r rfl, Nat.le_of_ble_eq_true rfl⟩ (fun x28 M28 h28 => ?_)
      refine g_iret dX7_wet_31 ⟨_, rfl, ?_⟩
      first | exact QM.rf (by unfold o_wet; rw [if_neg (fun z => z c_6), if_pos (fun z => Int32.not_lt.mpr z.1 c_16)]) h28 | exact QM.rf (by unfold o_wet; rw [if_neg (fun z => z c_6), if_pos (fun z => c_22 z.2)]) h28
    · refine g_iload_n dX7_wet_19 rfl rfl ?_
      refine g_bipush dX7_wet_20 kB_99 ?_
      refine g_icmp_le (tgt := 32) dX7_wet_22 (by decide) (fun c_22 => ?_) (fun c_22 => ?_)
      · have k1 : nI 0 ≤ v ∧ v ≤ nI 99 := ⟨Int32.not_lt.mp c_16, c_22⟩
        have e9 : o_wet y b c v = _ := (if_neg (fun z => z c_6)).trans (if_neg (fun z => z k1))
        rw [e9]
        obtain ⟨q, hq, rfl, e1⟩ := in_b hcn c_6.1
        rw [e1] at c_6 ⊢
        have hB3 := (ho.2.1.1 q hq).2.2.1
        obtain ⟨j, hj, rfl⟩ := in_nI (by omega) c_6.2
        obtain ⟨v', -, hv, rfl, e3⟩ := btw_n (by decide) (by decide) k1
        rw [e3, tn_nI (show j < 2 ^ 31 by omega)]
        refine g_aload_n dX7_wet_32 rfl rfl ?_
        refine g_getR dX7_wet_33 fl_X7_38 rfl rfl ?_
        refine g_bipush dX7_wet_36 kB_12 ?_
        refine g_iload_n dX7_wet_38 rfl rfl ?_
        refine g_imul dX7_wet_39 (pk_mul _ _) ?_
        refine g_iload_n dX7_wet_40 rfl rfl ?_
        refine g_iadd dX7_wet_41 (nI_add _ _) ?_
        refine g_iald dX7_wet_42 rfl rfl (by omega) ((h.2.1.1 q hq).2.2.2 j hj) ?_
        refine g_istore dX7_wet_43 (lt_r rfl) rfl ?_
        refine g_aload_n dX7_wet_45 rfl rfl ?_
        refine g_getR dX7_wet_46 fl_X7_38 rfl rfl ?_
        refine g_bipush dX7_wet_49 kB_12 ?_
        refine g_iload_n dX7_wet_51 rfl rfl ?_
        refine g_imul dX7_wet_52 (pk_mul _ _) ?_
        refine g_iload_n dX7_wet_53 rfl rfl ?_
        refine g_iadd dX7_wet_54 (nI_add _ _) ?_
        refine g_iload_n dX7_wet_55 rfl rfl ?_
        refine g_iast dX7_wet_56 rfl rfl (by omega) ?_
        refine g_iload dX7_wet_57 rfl ?_
        refine g_iret dX7_wet_59 ⟨_, rfl, ?_⟩
        have hF : Fk B M (upI M (B + 85) (12 * q + j) (nI v')) [85] [] := Fk.pi (by decide) (by decide)
        exact ⟨rfl, h.n hF (by decide) (by decide) (h.2.1.wet ho.2.1 hq hj), hF.sm (by decide)⟩
      · refine g_aload_n dX7_wet_25 rfl rfl ?_
        refine g_bipush dX7_wet_26 kB_m6 ?_
        refine g_callVi dX7_wet_28 mi_X7_no ml_X7_100 (ct_no (w := 6) h (by decide) (by decide)) rfl rfl rfl rfl (Nat.le_of_ble_eq_true rfl) ⟨lt_r rfl, Nat.le_of_ble_eq_true rfl⟩ (fun x28 M28 h28 => ?_)
        refine g_iret dX7_wet_31 ⟨_, rfl, ?_⟩
        first | exact QM.rf (by unfold o_wet; rw [if_neg (fun z => z c_6), if_pos (fun z => Int32.not_lt.mpr z.1 c_16)]) h28 | exact QM.rf (by unfold o_wet; rw [if_neg (fun z => z c_6), if_pos (fun z => c_22 z.2)]) h28
  · refine g_aload_n dX7_wet_9 rfl rfl ?_
    refine g_iconst dX7_wet_10 kI_m1 ?_
    refine g_callVi dX7_wet_11 mi_X7_no ml_X7_100 (ct_no (w := 1) h (by decide) (by decide)) rfl rfl rfl rfl (Nat.le_of_ble_eq_true rfl) ⟨lt_r rfl, Nat.le_of_ble_eq_true rfl⟩ (fun x11 M11 h11 => ?_)
    refine g_iret dX7_wet_14 ⟨_, rfl, ?_⟩
    exact QM.rf (if_pos c_6) h11
theorem mx_ask {y : Sys} {w v : Int32} (h : RM B M y) (ho : okY y) : Ct E B yX7_ask cX7_ask 4 (some .int) 1 [.ref (B + 80), .int w, .int v] M (QM B M (o_ask y w v)) := by
  refine Ct.of2 (own := RX7) (lv := [(0, .ref (B + 80)), (1, .int w), (2, .int v)]) pn_X7 rfl (Nat.le_of_ble_eq_true rfl) rfl ?_
  refine g_iload_n dX7_ask_0 rfl rfl ?_
  refine g_if_ne (tgt := 27) dX7_ask_1 (by decide) (fun c_1 => ?_) (fun c_1 => ?_)
  · refine g_iload_n dX7_ask_27 rfl rfl ?_
    refine g_iconst dX7_ask_28 kI_1 ?_
    refine g_icmp_ne (tgt := 56) dX7_ask_29 (by decide) (fun c_29 => ?_) (fun c_29 => ?_)
    · refine g_iload_n dX7_ask_56 rfl rfl ?_
      refine g_iconst dX7_ask_57 kI_2 ?_
      refine g_icmp_ne (tgt := 85) dX7_ask_58 (by decide) (fun c_58 => ?_) (fun c_58 => ?_)
      · refine g_aload_n dX7_ask_85 rfl rfl ?_
        refine g_bipush dX7_ask_86 kB_m6 ?_
        refine g_callVi dX7_ask_88 mi_X7_no ml_X7_100 (ct_no (w := 6) h (by decide) (by decide)) rfl rfl rfl rfl (Nat.le_of_ble_eq_true rfl) ⟨lt_r rfl, Nat.le_of_ble_eq_true rfl⟩ (fun x88 M88 h88 => ?_)
        refine g_iret dX7_ask_91 ⟨_, rfl, ?_⟩
        exact QM.rf (by unfold o_ask; rw [if_neg (fun z => by first | exact c_1 z.1 | exact Int32.not_lt.mpr z.2.1 c_5 | exact Int32.not_lt.mpr z.2.2 c_11), if_neg (fun z => by first | exact c_29 z.1 | exact Int32.not_lt.mpr z.2.1 c_34 | exact Int32.not_lt.mpr z.2.2 c_40), if_neg (fun z => by first | exact c_58 z.1 | exact Int32.not_lt.mpr z.2.1 c_62 | exact Int32.not_lt.mpr z.2.2 c_69)]) h88
      · refine g_iload_n dX7_ask_61 rfl rfl ?_
        refine g_if_lt (tgt := 85) dX7_ask_62 (by decide) (fun c_62 => ?_) (fun c_62 => ?_)
        · refine g_aload_n dX7_ask_85 rfl rfl ?_
          refine g_bipush dX7_ask_86 kB_m6 ?_
          refine g_callVi dX7_ask_88 mi_X7_no ml_X7_100 (ct_no (w := 6) h (by decide) (by decide)) rfl rfl rfl rfl (Nat.le_of_ble_eq_true rfl) ⟨lt_r rfl, Nat.le_of_ble_eq_true rfl⟩ (fun x88 M88 h88 => ?_)
          refine g_iret dX7_ask_91 ⟨_, rfl, ?_⟩
          exact QM.rf (by unfold o_ask; rw [if_neg (fun z => by first | exact c_1 z.1 | exact Int32.not_lt.mpr z.2.1 c_5 | exact Int32.not_lt.mpr z.2.2 c_11), if_neg (fun z => by first | exact c_29 z.1 | exact Int32.not_lt.mpr z.2.1 c_34 | exact Int32.not_lt.mpr z.2.2 c_40), if_neg (fun z => by first | exact c_58 z.1 | exact Int32.not_lt.mpr z.2.1 c_62 | exact Int32.not_lt.mpr z.2.2 c_69)]) h88
        · refine g_iload_n dX7_ask_65 rfl rfl ?_
          refine g_sipush dX7_ask_66 kS_9999 ?_
          refine g_icmp_gt (tgt := 85) dX7_ask_69 (by decide) (fun c_69 => ?_) (fun c_69 => ?_)
          · refine g_aload_n dX7_ask_85 rfl rfl ?_
            refine g_bipush dX7_ask_86 kB_m6 ?_
            refine g_callVi dX7_ask_88 mi_X7_no ml_X7_100 (ct_no (w := 6) h (by decide) (by decide)) rfl rfl rfl rfl (Nat.le_of_ble_eq_true rfl) ⟨lt_r rfl, Nat.le_of_ble_eq_true rfl⟩ (fun x88 M88 h88 => ?_)
            refine g_iret dX7_ask_91 ⟨_, rfl, ?_⟩
            exact QM.rf (by unfold o_ask; rw [if_neg (fun z => by first | exact c_1 z.1 | exact Int32.not_lt.mpr z.2.1 c_5 | exact Int32.not_lt.mpr z.2.2 c_11), if_neg (fun z => by first | exact c_29 z.1 | exact Int32.not_lt.mpr z.2.1 c_34 | exact Int32.not_lt.mpr z.2.2 c_40), if_neg (fun z => by first | exact c_58 z.1 | exact Int32.not_lt.mpr z.2.1 c_62 | exact Int32.not_lt.mpr z.2.2 c_69)]) h88
          · have k0 : nI 0 ≤ v ∧ v ≤ nI 9999 := ⟨Int32.not_lt.mp c_62, Int32.not_lt.mp c_69⟩
            have k1 : w = nI 2 := c_58
            have e9 : o_ask y w v = _ := (if_neg (show ¬ (w = 0 ∧ nI 0 ≤ v ∧ v ≤ nI 99) from fun z => by rw [k1] at z; exact absurd z.1 (by decide))).trans ((if_neg (show ¬ (w = nI 1 ∧ nI 1 ≤ v ∧ v ≤ nI 99) from fun z => by rw [k1] at z; exact absurd z.1 (by decide))).trans (if_pos ⟨k1, k0⟩))
            rw [e9]
            obtain ⟨v', h1, hv, rfl, e2⟩ := btw_n (by decide) (by decide) k0
            rw [e2]
            refine g_aload_n dX7_ask_72 rfl rfl ?_
            refine g_getI dX7_ask_73 fl_X7_16 rfl rfl (h.2.1.2.2.2.2.2.1) ?_
            refine g_istore_n dX7_ask_76 rfl (lt_r rfl) rfl ?_
            refine g_aload_n dX7_ask_77 rfl rfl ?_
            refine g_iload_n dX7_ask_78 rfl rfl ?_
            refine g_putI dX7_ask_79 fp_X7_16 rfl rfl ?_
            refine g_goto (tgt := 92) dX7_ask_82 (by decide) ?_
            refine g_iload_n dX7_ask_92 rfl rfl ?_
            refine g_iret dX7_ask_93 ⟨_, rfl, ?_⟩
            first | exact ⟨rfl, h.n (Fk.pj (by decide) : Fk B M _ [] [1]) (by decide) (by decide) h.2.1.h1, Sm.pI (by omega) (by omega)⟩ | exact ⟨rfl, h.n (Fk.pj (by decide) : Fk B M _ [] [2]) (by decide) (by decide) h.2.1.h2, Sm.pI (by omega) (by omega)⟩ | exact ⟨rfl, h.n (Fk.pj (by decide) : Fk B M _ [] [3]) (by decide) (by decide) h.2.1.h3, Sm.pI (by omega) (by omega)⟩
    · refine g_iload_n dX7_ask_32 rfl rfl ?_
      refine g_iconst dX7_ask_33 kI_1 ?_
      refine g_icmp_lt (tgt := 56) dX7_ask_34 (by decide) (fun c_34 => ?_) (fun c_34 => ?_)
      · refine g_iload_n dX7_ask_56 rfl rfl ?_
        refine g_iconst dX7_ask_57 kI_2 ?_
        refine g_icmp_ne (tgt := 85) dX7_ask_58 (by decide) (fun c_58 => ?_) (fun c_58 => ?_)
        · refine g_aload_n dX7_ask_85 rfl rfl ?_
          refine g_bipush dX7_ask_86 kB_m6 ?_
          refine g_callVi dX7_ask_88 mi_X7_no ml_X7_100 (ct_no (w := 6) h (by decide) (by decide)) rfl rfl rfl rfl (Nat.le_of_ble_eq_true rfl) ⟨lt_r rfl, Nat.le_of_ble_eq_true rfl⟩ (fun x88 M88 h88 => ?_)
          refine g_iret dX7_ask_91 ⟨_, rfl, ?_⟩
          exact QM.rf (by unfold o_ask; rw [if_neg (fun z => by first | exact c_1 z.1 | exact Int32.not_lt.mpr z.2.1 c_5 | exact Int32.not_lt.mpr z.2.2 c_11), if_neg (fun z => by first | exact c_29 z.1 | exact Int32.not_lt.mpr z.2.1 c_34 | exact Int32.not_lt.mpr z.2.2 c_40), if_neg (fun z => by first | exact c_58 z.1 | exact Int32.not_lt.mpr z.2.1 c_62 | exact Int32.not_lt.mpr z.2.2 c_69)]) h88
        · refine g_iload_n dX7_ask_61 rfl rfl ?_
          refine g_if_lt (tgt := 85) dX7_ask_62 (by decide) (fun c_62 => ?_) (fun c_62 => ?_)
          · refine g_aload_n dX7_ask_85 rfl rfl ?_
            refine g_bipush dX7_ask_86 kB_m6 ?_
            refine g_callVi dX7_ask_88 mi_X7_no ml_X7_100 (ct_no (w := 6) h (by decide) (by decide)) rfl rfl rfl rfl (Nat.le_of_ble_eq_true rfl) ⟨lt_r rfl, Nat.le_of_ble_eq_true rfl⟩ (fun x88 M88 h88 => ?_)
            refine g_iret dX7_ask_91 ⟨_, rfl, ?_⟩
            exact QM.rf (by unfold o_ask; rw [if_neg (fun z => by first | exact c_1 z.1 | exact Int32.not_lt.mpr z.2.1 c_5 | exact Int32.not_lt.mpr z.2.2 c_11), if_neg (fun z => by first | exact c_29 z.1 | exact Int32.not_lt.mpr z.2.1 c_34 | exact Int32.not_lt.mpr z.2.2 c_40), if_neg (fun z => by first | exact c_58 z.1 | exact Int32.not_lt.mpr z.2.1 c_62 | exact Int32.not_lt.mpr z.2.2 c_69)]) h88
          · refine g_iload_n dX7_ask_65 rfl rfl ?_
            refine g_sipush dX7_ask_66 kS_9999 ?_
            refine g_icmp_gt (tgt := 85) dX7_ask_69 (by decide) (fun c_69 => ?_) (fun c_69 => ?_)
            · refine g_aload_n dX7_ask_85 rfl rfl ?_
              refine g_bipush dX7_ask_86 kB_m6 ?_
              refine g_callVi dX7_ask_88 mi_X7_no ml_X7_100 (ct_no (w := 6) h (by decide) (by decide)) rfl rfl rfl rfl (Nat.le_of_ble_eq_true rfl) ⟨lt_r rfl, Nat.le_of_ble_eq_true rfl⟩ (fun x88 M88 h88 => ?_)
              refine g_iret dX7_ask_91 ⟨_, rfl, ?_⟩
              exact QM.rf (by unfold o_ask; rw [if_neg (fun z => by first | exact c_1 z.1 | exact Int32.not_lt.mpr z.2.1 c_5 | exact Int32.not_lt.mpr z.2.2 c_11), if_neg (fun z => by first | exact c_29 z.1 | exact Int32.not_lt.mpr z.2.1 c_34 | exact Int32.not_lt.mpr z.2.2 c_40), if_neg (fun z => by first | exact c_58 z.1 | exact Int32.not_lt.mpr z.2.1 c_62 | exact Int32.not_lt.mpr z.2.2 c_69)]) h88
            · have k0 : nI 0 ≤ v ∧ v ≤ nI 9999 := ⟨Int32.not_lt.mp c_62, Int32.not_lt.mp c_69⟩
              have k1 : w = nI 2 := c_58
              have e9 : o_ask y w v = _ := (if_neg (show ¬ (w = 0 ∧ nI 0 ≤ v ∧ v ≤ nI 99) from fun z => by rw [k1] at z; exact absurd z.1 (by decide))).trans ((if_neg (show ¬ (w = nI 1 ∧ nI 1 ≤ v ∧ v ≤ nI 99) from fun z => by rw [k1] at z; exact absurd z.1 (by decide))).trans (if_pos ⟨k1, k0⟩))
              rw [e9]
              obtain ⟨v', h1, hv, rfl, e2⟩ := btw_n (by decide) (by decide) k0
              rw [e2]
              refine g_aload_n dX7_ask_72 rfl rfl ?_
              refine g_getI dX7_ask_73 fl_X7_16 rfl rfl (h.2.1.2.2.2.2.2.1) ?_
              refine g_istore_n dX7_ask_76 rfl (lt_r rfl) rfl ?_
              refine g_aload_n dX7_ask_77 rfl rfl ?_
              refine g_iload_n dX7_ask_78 rfl rfl ?_
              refine g_putI dX7_ask_79 fp_X7_16 rfl rfl ?_
              refine g_goto (tgt := 92) dX7_ask_82 (by decide) ?_
              refine g_iload_n dX7_ask_92 rfl rfl ?_
              refine g_iret dX7_ask_93 ⟨_, rfl, ?_⟩
              first | exact ⟨rfl, h.n (Fk.pj (by decide) : Fk B M _ [] [1]) (by decide) (by decide) h.2.1.h1, Sm.pI (by omega) (by omega)⟩ | exact ⟨rfl, h.n (Fk.pj (by decide) : Fk B M _ [] [2]) (by decide) (by decide) h.2.1.h2, Sm.pI (by omega) (by omega)⟩ | exact ⟨rfl, h.n (Fk.pj (by decide) : Fk B M _ [] [3]) (by decide) (by decide) h.2.1.h3, Sm.pI (by omega) (by omega)⟩
      · refine g_iload_n dX7_ask_37 rfl rfl ?_
        refine g_bipush dX7_ask_38 kB_99 ?_
        refine g_icmp_gt (tgt := 56) dX7_ask_40 (by decide) (fun c_40 => ?_) (fun c_40 => ?_)
        · refine g_iload_n dX7_ask_56 rfl rfl ?_
          refine g_iconst dX7_ask_57 kI_2 ?_
          refine g_icmp_ne (tgt := 85) dX7_ask_58 (by decide) (fun c_58 => ?_) (fun c_58 => ?_)
          · refine g_aload_n dX7_ask_85 rfl rfl ?_
            refine g_bipush dX7_ask_86 kB_m6 ?_
            refine g_callVi dX7_ask_88 mi_X7_no ml_X7_100 (ct_no (w := 6) h (by decide) (by decide)) rfl rfl rfl rfl (Nat.le_of_ble_eq_true rfl) ⟨lt_r rfl, Nat.le_of_ble_eq_true rfl⟩ (fun x88 M88 h88 => ?_)
            refine g_iret dX7_ask_91 ⟨_, rfl, ?_⟩
            exact QM.rf (by unfold o_ask; rw [if_neg (fun z => by first | exact c_1 z.1 | exact Int32.not_lt.mpr z.2.1 c_5 | exact Int32.not_lt.mpr z.2.2 c_11), if_neg (fun z => by first | exact c_29 z.1 | exact Int32.not_lt.mpr z.2.1 c_34 | exact Int32.not_lt.mpr z.2.2 c_40), if_neg (fun z => by first | exact c_58 z.1 | exact Int32.not_lt.mpr z.2.1 c_62 | exact Int32.not_lt.mpr z.2.2 c_69)]) h88
          · refine g_iload_n dX7_ask_61 rfl rfl ?_
            refine g_if_lt (tgt := 85) dX7_ask_62 (by decide) (fun c_62 => ?_) (fun c_62 => ?_)
            · refine g_aload_n dX7_ask_85 rfl rfl ?_
              refine g_bipush dX7_ask_86 kB_m6 ?_
              refine g_callVi dX7_ask_88 mi_X7_no ml_X7_100 (ct_no (w := 6) h (by decide) (by decide)) rfl rfl rfl rfl (Nat.le_of_ble_eq_true rfl) ⟨lt_r rfl, Nat.le_of_ble_eq_true rfl⟩ (fun x88 M88 h88 => ?_)
              refine g_iret dX7_ask_91 ⟨_, rfl, ?_⟩
              exact QM.rf (by unfold o_ask; rw [if_neg (fun z => by first | exact c_1 z.1 | exact Int32.not_lt.mpr z.2.1 c_5 | exact Int32.not_lt.mpr z.2.2 c_11), if_neg (fun z => by first | exact c_29 z.1 | exact Int32.not_lt.mpr z.2.1 c_34 | exact Int32.not_lt.mpr z.2.2 c_40), if_neg (fun z => by first | exact c_58 z.1 | exact Int32.not_lt.mpr z.2.1 c_62 | exact Int32.not_lt.mpr z.2.2 c_69)]) h88
            · refine g_iload_n dX7_ask_65 rfl rfl ?_
              refine g_sipush dX7_ask_66 kS_9999 ?_
              refine g_icmp_gt (tgt := 85) dX7_ask_69 (by decide) (fun c_69 => ?_) (fun c_69 => ?_)
              · refine g_aload_n dX7_ask_85 rfl rfl ?_
                refine g_bipush dX7_ask_86 kB_m6 ?_
                refine g_callVi dX7_ask_88 mi_X7_no ml_X7_100 (ct_no (w := 6) h (by decide) (by decide)) rfl rfl rfl rfl (Nat.le_of_ble_eq_true rfl) ⟨lt_r rfl, Nat.le_of_ble_eq_true rfl⟩ (fun x88 M88 h88 => ?_)
                refine g_iret dX7_ask_91 ⟨_, rfl, ?_⟩
                exact QM.rf (by unfold o_ask; rw [if_neg (fun z => by first | exact c_1 z.1 | exact Int32.not_lt.mpr z.2.1 c_5 | exact Int32.not_lt.mpr z.2.2 c_11), if_neg (fun z => by first | exact c_29 z.1 | exact Int32.not_lt.mpr z.2.1 c_34 | exact Int32.not_lt.mpr z.2.2 c_40), if_neg (fun z => by first | exact c_58 z.1 | exact Int32.not_lt.mpr z.2.1 c_62 | exact Int32.not_lt.mpr z.2.2 c_69)]) h88
              · have k0 : nI 0 ≤ v ∧ v ≤ nI 9999 := ⟨Int32.not_lt.mp c_62, Int32.not_lt.mp c_69⟩
                have k1 : w = nI 2 := c_58
                have e9 : o_ask y w v = _ := (if_neg (show ¬ (w = 0 ∧ nI 0 ≤ v ∧ v ≤ nI 99) from fun z => by rw [k1] at z; exact absurd z.1 (by decide))).trans ((if_neg (show ¬ (w = nI 1 ∧ nI 1 ≤ v ∧ v ≤ nI 99) from fun z => by rw [k1] at z; exact absurd z.1 (by decide))).trans (if_pos ⟨k1, k0⟩))
                rw [e9]
                obtain ⟨v', h1, hv, rfl, e2⟩ := btw_n (by decide) (by decide) k0
                rw [e2]
                refine g_aload_n dX7_ask_72 rfl rfl ?_
                refine g_getI dX7_ask_73 fl_X7_16 rfl rfl (h.2.1.2.2.2.2.2.1) ?_
                refine g_istore_n dX7_ask_76 rfl (lt_r rfl) rfl ?_
                refine g_aload_n dX7_ask_77 rfl rfl ?_
                refine g_iload_n dX7_ask_78 rfl rfl ?_
                refine g_putI dX7_ask_79 fp_X7_16 rfl rfl ?_
                refine g_goto (tgt := 92) dX7_ask_82 (by decide) ?_
                refine g_iload_n dX7_ask_92 rfl rfl ?_
                refine g_iret dX7_ask_93 ⟨_, rfl, ?_⟩
                first | exact ⟨rfl, h.n (Fk.pj (by decide) : Fk B M _ [] [1]) (by decide) (by decide) h.2.1.h1, Sm.pI (by omega) (by omega)⟩ | exact ⟨rfl, h.n (Fk.pj (by decide) : Fk B M _ [] [2]) (by decide) (by decide) h.2.1.h2, Sm.pI (by omega) (by omega)⟩ | exact ⟨rfl, h.n (Fk.pj (by decide) : Fk B M _ [] [3]) (by decide) (by decide) h.2.1.h3, Sm.pI (by omega) (by omega)⟩
        · have k0 : nI 1 ≤ v ∧ v ≤ nI 99 := ⟨Int32.not_lt.mp c_34, Int32.not_lt.mp c_40⟩
          have k1 : w = nI 1 := c_29
          have e9 : o_ask y w v = _ := (if_neg (show ¬ (w = 0 ∧ nI 0 ≤ v ∧ v ≤ nI 99) from fun z => by rw [k1] at z; exact absurd z.1 (by decide))).trans (if_pos ⟨k1, k0⟩)
          rw [e9]
          obtain ⟨v', h1, hv, rfl, e2⟩ := btw_n (by decide) (by decide) k0
          rw [e2]
          refine g_aload_n dX7_ask_43 rfl rfl ?_
          refine g_getI dX7_ask_44 fl_X7_13 rfl rfl (h.2.1.2.2.2.2.1) ?_
          refine g_istore_n dX7_ask_47 rfl (lt_r rfl) rfl ?_
          refine g_aload_n dX7_ask_48 rfl rfl ?_
          refine g_iload_n dX7_ask_49 rfl rfl ?_
          refine g_putI dX7_ask_50 fp_X7_13 rfl rfl ?_
          refine g_goto (tgt := 92) dX7_ask_53 (by decide) ?_
          refine g_iload_n dX7_ask_92 rfl rfl ?_
          refine g_iret dX7_ask_93 ⟨_, rfl, ?_⟩
          first | exact ⟨rfl, h.n (Fk.pj (by decide) : Fk B M _ [] [1]) (by decide) (by decide) h.2.1.h1, Sm.pI (by omega) (by omega)⟩ | exact ⟨rfl, h.n (Fk.pj (by decide) : Fk B M _ [] [2]) (by decide) (by decide) h.2.1.h2, Sm.pI (by omega) (by omega)⟩ | exact ⟨rfl, h.n (Fk.pj (by decide) : Fk B M _ [] [3]) (by decide) (by decide) h.2.1.h3, Sm.pI (by omega) (by omega)⟩
  · refine g_iload_n dX7_ask_4 rfl rfl ?_
    refine g_if_lt (tgt := 27) dX7_ask_5 (by decide) (fun c_5 => ?_) (fun c_5 => ?_)
    · refine g_iload_n dX7_ask_27 rfl rfl ?_
      refine g_iconst dX7_ask_28 kI_1 ?_
      refine g_icmp_ne (tgt := 56) dX7_ask_29 (by decide) (fun c_29 => ?_) (fun c_29 => ?_)
      · refine g_iload_n dX7_ask_56 rfl rfl ?_
        refine g_iconst dX7_ask_57 kI_2 ?_
        refine g_icmp_ne (tgt := 85) dX7_ask_58 (by decide) (fun c_58 => ?_) (fun c_58 => ?_)
        · refine g_aload_n dX7_ask_85 rfl rfl ?_
          refine g_bipush dX7_ask_86 kB_m6 ?_
          refine g_callVi dX7_ask_88 mi_X7_no ml_X7_100 (ct_no (w := 6) h (by decide) (by decide)) rfl rfl rfl rfl (Nat.le_of_ble_eq_true rfl) ⟨lt_r rfl, Nat.le_of_ble_eq_true rfl⟩ (fun x88 M88 h88 => ?_)
          refine g_iret dX7_ask_91 ⟨_, rfl, ?_⟩
          exact QM.rf (by unfold o_ask; rw [if_neg (fun z => by first | exact c_1 z.1 | exact Int32.not_lt.mpr z.2.1 c_5 | exact Int32.not_lt.mpr z.2.2 c_11), if_neg (fun z => by first | exact c_29 z.1 | exact Int32.not_lt.mpr z.2.1 c_34 | exact Int32.not_lt.mpr z.2.2 c_40), if_neg (fun z => by first | exact c_58 z.1 | exact Int32.not_lt.mpr z.2.1 c_62 | exact Int32.not_lt.mpr z.2.2 c_69)]) h88
        · refine g_iload_n dX7_ask_61 rfl rfl ?_
          refine g_if_lt (tgt := 85) dX7_ask_62 (by decide) (fun c_62 => ?_) (fun c_62 => ?_)
          · refine g_aload_n dX7_ask_85 rfl rfl ?_
            refine g_bipush dX7_ask_86 kB_m6 ?_
            refine g_callVi dX7_ask_88 mi_X7_no ml_X7_100 (ct_no (w := 6) h (by decide) (by decide)) rfl rfl rfl rfl (Nat.le_of_ble_eq_true rfl) ⟨lt_r rfl, Nat.le_of_ble_eq_true rfl⟩ (fun x88 M88 h88 => ?_)
            refine g_iret dX7_ask_91 ⟨_, rfl, ?_⟩
            exact QM.rf (by unfold o_ask; rw [if_neg (fun z => by first | exact c_1 z.1 | exact Int32.not_lt.mpr z.2.1 c_5 | exact Int32.not_lt.mpr z.2.2 c_11), if_neg (fun z => by first | exact c_29 z.1 | exact Int32.not_lt.mpr z.2.1 c_34 | exact Int32.not_lt.mpr z.2.2 c_40), if_neg (fun z => by first | exact c_58 z.1 | exact Int32.not_lt.mpr z.2.1 c_62 | exact Int32.not_lt.mpr z.2.2 c_69)]) h88
          · refine g_iload_n dX7_ask_65 rfl rfl ?_
            refine g_sipush dX7_ask_66 kS_9999 ?_
            refine g_icmp_gt (tgt := 85) dX7_ask_69 (by decide) (fun c_69 => ?_) (fun c_69 => ?_)
            · refine g_aload_n dX7_ask_85 rfl rfl ?_
              refine g_bipush dX7_ask_86 kB_m6 ?_
              refine g_callVi dX7_ask_88 mi_X7_no ml_X7_100 (ct_no (w := 6) h (by decide) (by decide)) rfl rfl rfl rfl (Nat.le_of_ble_eq_true rfl) ⟨lt_r rfl, Nat.le_of_ble_eq_true rfl⟩ (fun x88 M88 h88 => ?_)
              refine g_iret dX7_ask_91 ⟨_, rfl, ?_⟩
              exact QM.rf (by unfold o_ask; rw [if_neg (fun z => by first | exact c_1 z.1 | exact Int32.not_lt.mpr z.2.1 c_5 | exact Int32.not_lt.mpr z.2.2 c_11), if_neg (fun z => by first | exact c_29 z.1 | exact Int32.not_lt.mpr z.2.1 c_34 | exact Int32.not_lt.mpr z.2.2 c_40), if_neg (fun z => by first | exact c_58 z.1 | exact Int32.not_lt.mpr z.2.1 c_62 | exact Int32.not_lt.mpr z.2.2 c_69)]) h88
            · have k0 : nI 0 ≤ v ∧ v ≤ nI 9999 := ⟨Int32.not_lt.mp c_62, Int32.not_lt.mp c_69⟩
              have k1 : w = nI 2 := c_58
              have e9 : o_ask y w v = _ := (if_neg (show ¬ (w = 0 ∧ nI 0 ≤ v ∧ v ≤ nI 99) from fun z => by rw [k1] at z; exact absurd z.1 (by decide))).trans ((if_neg (show ¬ (w = nI 1 ∧ nI 1 ≤ v ∧ v ≤ nI 99) from fun z => by rw [k1] at z; exact absurd z.1 (by decide))).trans (if_pos ⟨k1, k0⟩))
              rw [e9]
              obtain ⟨v', h1, hv, rfl, e2⟩ := btw_n (by decide) (by decide) k0
              rw [e2]
              refine g_aload_n dX7_ask_72 rfl rfl ?_
              refine g_getI dX7_ask_73 fl_X7_16 rfl rfl (h.2.1.2.2.2.2.2.1) ?_
              refine g_istore_n dX7_ask_76 rfl (lt_r rfl) rfl ?_
              refine g_aload_n dX7_ask_77 rfl rfl ?_
              refine g_iload_n dX7_ask_78 rfl rfl ?_
              refine g_putI dX7_ask_79 fp_X7_16 rfl rfl ?_
              refine g_goto (tgt := 92) dX7_ask_82 (by decide) ?_
              refine g_iload_n dX7_ask_92 rfl rfl ?_
              refine g_iret dX7_ask_93 ⟨_, rfl, ?_⟩
              first | exact ⟨rfl, h.n (Fk.pj (by decide) : Fk B M _ [] [1]) (by decide) (by decide) h.2.1.h1, Sm.pI (by omega) (by omega)⟩ | exact ⟨rfl, h.n (Fk.pj (by decide) : Fk B M _ [] [2]) (by decide) (by decide) h.2.1.h2, Sm.pI (by omega) (by omega)⟩ | exact ⟨rfl, h.n (Fk.pj (by decide) : Fk B M _ [] [3]) (by decide) (by decide) h.2.1.h3, Sm.pI (by omega) (by omega)⟩
      · refine g_iload_n dX7_ask_32 rfl rfl ?_
        refine g_iconst dX7_ask_33 kI_1 ?_
        refine g_icmp_lt (tgt := 56) dX7_ask_34 (by decide) (fun c_34 => ?_) (fun c_34 => ?_)
        · refine g_iload_n dX7_ask_56 rfl rfl ?_
          refine g_iconst dX7_ask_57 kI_2 ?_
          refine g_icmp_ne (tgt := 85) dX7_ask_58 (by decide) (fun c_58 => ?_) (fun c_58 => ?_)
          · refine g_aload_n dX7_ask_85 rfl rfl ?_
            refine g_bipush dX7_ask_86 kB_m6 ?_
            refine g_callVi dX7_ask_88 mi_X7_no ml_X7_100 (ct_no (w := 6) h (by decide) (by decide)) rfl rfl rfl rfl (Nat.le_of_ble_eq_true rfl) ⟨lt_r rfl, Nat.le_of_ble_eq_true rfl⟩ (fun x88 M88 h88 => ?_)
            refine g_iret dX7_ask_91 ⟨_, rfl, ?_⟩
            exact QM.rf (by unfold o_ask; rw [if_neg (fun z => by first | exact c_1 z.1 | exact Int32.not_lt.mpr z.2.1 c_5 | exact Int32.not_lt.mpr z.2.2 c_11), if_neg (fun z => by first | exact c_29 z.1 | exact Int32.not_lt.mpr z.2.1 c_34 | exact Int32.not_lt.mpr z.2.2 c_40), if_neg (fun z => by first | exact c_58 z.1 | exact Int32.not_lt.mpr z.2.1 c_62 | exact Int32.not_lt.mpr z.2.2 c_69)]) h88
          · refine g_iload_n dX7_ask_61 rfl rfl ?_
            refine g_if_lt (tgt := 85) dX7_ask_62 (by decide) (fun c_62 => ?_) (fun c_62 => ?_)
            · refine g_aload_n dX7_ask_85 rfl rfl ?_
              refine g_bipush dX7_ask_86 kB_m6 ?_
              refine g_callVi dX7_ask_88 mi_X7_no ml_X7_100 (ct_no (w := 6) h (by decide) (by decide)) rfl rfl rfl rfl (Nat.le_of_ble_eq_true rfl) ⟨lt_r rfl, Nat.le_of_ble_eq_true rfl⟩ (fun x88 M88 h88 => ?_)
              refine g_iret dX7_ask_91 ⟨_, rfl, ?_⟩
              exact QM.rf (by unfold o_ask; rw [if_neg (fun z => by first | exact c_1 z.1 | exact Int32.not_lt.mpr z.2.1 c_5 | exact Int32.not_lt.mpr z.2.2 c_11), if_neg (fun z => by first | exact c_29 z.1 | exact Int32.not_lt.mpr z.2.1 c_34 | exact Int32.not_lt.mpr z.2.2 c_40), if_neg (fun z => by first | exact c_58 z.1 | exact Int32.not_lt.mpr z.2.1 c_62 | exact Int32.not_lt.mpr z.2.2 c_69)]) h88
            · refine g_iload_n dX7_ask_65 rfl rfl ?_
              refine g_sipush dX7_ask_66 kS_9999 ?_
              refine g_icmp_gt (tgt := 85) dX7_ask_69 (by decide) (fun c_69 => ?_) (fun c_69 => ?_)
              · refine g_aload_n dX7_ask_85 rfl rfl ?_
                refine g_bipush dX7_ask_86 kB_m6 ?_
                refine g_callVi dX7_ask_88 mi_X7_no ml_X7_100 (ct_no (w := 6) h (by decide) (by decide)) rfl rfl rfl rfl (Nat.le_of_ble_eq_true rfl) ⟨lt_r rfl, Nat.le_of_ble_eq_true rfl⟩ (fun x88 M88 h88 => ?_)
                refine g_iret dX7_ask_91 ⟨_, rfl, ?_⟩
                exact QM.rf (by unfold o_ask; rw [if_neg (fun z => by first | exact c_1 z.1 | exact Int32.not_lt.mpr z.2.1 c_5 | exact Int32.not_lt.mpr z.2.2 c_11), if_neg (fun z => by first | exact c_29 z.1 | exact Int32.not_lt.mpr z.2.1 c_34 | exact Int32.not_lt.mpr z.2.2 c_40), if_neg (fun z => by first | exact c_58 z.1 | exact Int32.not_lt.mpr z.2.1 c_62 | exact Int32.not_lt.mpr z.2.2 c_69)]) h88
              · have k0 : nI 0 ≤ v ∧ v ≤ nI 9999 := ⟨Int32.not_lt.mp c_62, Int32.not_lt.mp c_69⟩
                have k1 : w = nI 2 := c_58
                have e9 : o_ask y w v = _ := (if_neg (show ¬ (w = 0 ∧ nI 0 ≤ v ∧ v ≤ nI 99) from fun z => by rw [k1] at z; exact absurd z.1 (by decide))).trans ((if_neg (show ¬ (w = nI 1 ∧ nI 1 ≤ v ∧ v ≤ nI 99) from fun z => by rw [k1] at z; exact absurd z.1 (by decide))).trans (if_pos ⟨k1, k0⟩))
                rw [e9]
                obtain ⟨v', h1, hv, rfl, e2⟩ := btw_n (by decide) (by decide) k0
                rw [e2]
                refine g_aload_n dX7_ask_72 rfl rfl ?_
                refine g_getI dX7_ask_73 fl_X7_16 rfl rfl (h.2.1.2.2.2.2.2.1) ?_
                refine g_istore_n dX7_ask_76 rfl (lt_r rfl) rfl ?_
                refine g_aload_n dX7_ask_77 rfl rfl ?_
                refine g_iload_n dX7_ask_78 rfl rfl ?_
                refine g_putI dX7_ask_79 fp_X7_16 rfl rfl ?_
                refine g_goto (tgt := 92) dX7_ask_82 (by decide) ?_
                refine g_iload_n dX7_ask_92 rfl rfl ?_
                refine g_iret dX7_ask_93 ⟨_, rfl, ?_⟩
                first | exact ⟨rfl, h.n (Fk.pj (by decide) : Fk B M _ [] [1]) (by decide) (by decide) h.2.1.h1, Sm.pI (by omega) (by omega)⟩ | exact ⟨rfl, h.n (Fk.pj (by decide) : Fk B M _ [] [2]) (by decide) (by decide) h.2.1.h2, Sm.pI (by omega) (by omega)⟩ | exact ⟨rfl, h.n (Fk.pj (by decide) : Fk B M _ [] [3]) (by decide) (by decide) h.2.1.h3, Sm.pI (by omega) (by omega)⟩
        · refine g_iload_n dX7_ask_37 rfl rfl ?_
          refine g_bipush dX7_ask_38 kB_99 ?_
          refine g_icmp_gt (tgt := 56) dX7_ask_40 (by decide) (fun c_40 => ?_) (fun c_40 => ?_)
          · refine g_iload_n dX7_ask_56 rfl rfl ?_
            refine g_iconst dX7_ask_57 kI_2 ?_
            refine g_icmp_ne (tgt := 85) dX7_ask_58 (by decide) (fun c_58 => ?_) (fun c_58 => ?_)
            · refine g_aload_n dX7_ask_85 rfl rfl ?_
              refine g_bipush dX7_ask_86 kB_m6 ?_
              refine g_callVi dX7_ask_88 mi_X7_no ml_X7_100 (ct_no (w := 6) h (by decide) (by decide)) rfl rfl rfl rfl (Nat.le_of_ble_eq_true rfl) ⟨lt_r rfl, Nat.le_of_ble_eq_true rfl⟩ (fun x88 M88 h88 => ?_)
              refine g_iret dX7_ask_91 ⟨_, rfl, ?_⟩
              exact QM.rf (by unfold o_ask; rw [if_neg (fun z => by first | exact c_1 z.1 | exact Int32.not_lt.mpr z.2.1 c_5 | exact Int32.not_lt.mpr z.2.2 c_11), if_neg (fun z => by first | exact c_29 z.1 | exact Int32.not_lt.mpr z.2.1 c_34 | exact Int32.not_lt.mpr z.2.2 c_40), if_neg (fun z => by first | exact c_58 z.1 | exact Int32.not_lt.mpr z.2.1 c_62 | exact Int32.not_lt.mpr z.2.2 c_69)]) h88
            · refine g_iload_n dX7_ask_61 rfl rfl ?_
              refine g_if_lt (tgt := 85) dX7_ask_62 (by decide) (fun c_62 => ?_) (fun c_62 => ?_)
              · refine g_aload_n dX7_ask_85 rfl rfl ?_
                refine g_bipush dX7_ask_86 kB_m6 ?_
                refine g_callVi dX7_ask_88 mi_X7_no ml_X7_100 (ct_no (w := 6) h (by decide) (by decide)) rfl rfl rfl rfl (Nat.le_of_ble_eq_true rfl) ⟨lt_r rfl, Nat.le_of_ble_eq_true rfl⟩ (fun x88 M88 h88 => ?_)
                refine g_iret dX7_ask_91 ⟨_, rfl, ?_⟩
                exact QM.rf (by unfold o_ask; rw [if_neg (fun z => by first | exact c_1 z.1 | exact Int32.not_lt.mpr z.2.1 c_5 | exact Int32.not_lt.mpr z.2.2 c_11), if_neg (fun z => by first | exact c_29 z.1 | exact Int32.not_lt.mpr z.2.1 c_34 | exact Int32.not_lt.mpr z.2.2 c_40), if_neg (fun z => by first | exact c_58 z.1 | exact Int32.not_lt.mpr z.2.1 c_62 | exact Int32.not_lt.mpr z.2.2 c_69)]) h88
              · refine g_iload_n dX7_ask_65 rfl rfl ?_
                refine g_sipush dX7_ask_66 kS_9999 ?_
                refine g_icmp_gt (tgt := 85) dX7_ask_69 (by decide) (fun c_69 => ?_) (fun c_69 => ?_)
                · refine g_aload_n dX7_ask_85 rfl rfl ?_
                  refine g_bipush dX7_ask_86 kB_m6 ?_
                  refine g_callVi dX7_ask_88 mi_X7_no ml_X7_100 (ct_no (w := 6) h (by decide) (by decide)) rfl rfl rfl rfl (Nat.le_of_ble_eq_true rfl) ⟨lt_r rfl, Nat.le_of_ble_eq_true rfl⟩ (fun x88 M88 h88 => ?_)
                  refine g_iret dX7_ask_91 ⟨_, rfl, ?_⟩
                  exact QM.rf (by unfold o_ask; rw [if_neg (fun z => by first | exact c_1 z.1 | exact Int32.not_lt.mpr z.2.1 c_5 | exact Int32.not_lt.mpr z.2.2 c_11), if_neg (fun z => by first | exact c_29 z.1 | exact Int32.not_lt.mpr z.2.1 c_34 | exact Int32.not_lt.mpr z.2.2 c_40), if_neg (fun z => by first | exact c_58 z.1 | exact Int32.not_lt.mpr z.2.1 c_62 | exact Int32.not_lt.mpr z.2.2 c_69)]) h88
                · have k0 : nI 0 ≤ v ∧ v ≤ nI 9999 := ⟨Int32.not_lt.mp c_62, Int32.not_lt.mp c_69⟩
                  have k1 : w = nI 2 := c_58
                  have e9 : o_ask y w v = _ := (if_neg (show ¬ (w = 0 ∧ nI 0 ≤ v ∧ v ≤ nI 99) from fun z => by rw [k1] at z; exact absurd z.1 (by decide))).trans ((if_neg (show ¬ (w = nI 1 ∧ nI 1 ≤ v ∧ v ≤ nI 99) from fun z => by rw [k1] at z; exact absurd z.1 (by decide))).trans (if_pos ⟨k1, k0⟩))
                  rw [e9]
                  obtain ⟨v', h1, hv, rfl, e2⟩ := btw_n (by decide) (by decide) k0
                  rw [e2]
                  refine g_aload_n dX7_ask_72 rfl rfl ?_
                  refine g_getI dX7_ask_73 fl_X7_16 rfl rfl (h.2.1.2.2.2.2.2.1) ?_
                  refine g_istore_n dX7_ask_76 rfl (lt_r rfl) rfl ?_
                  refine g_aload_n dX7_ask_77 rfl rfl ?_
                  refine g_iload_n dX7_ask_78 rfl rfl ?_
                  refine g_putI dX7_ask_79 fp_X7_16 rfl rfl ?_
                  refine g_goto (tgt := 92) dX7_ask_82 (by decide) ?_
                  refine g_iload_n dX7_ask_92 rfl rfl ?_
                  refine g_iret dX7_ask_93 ⟨_, rfl, ?_⟩
                  first | exact ⟨rfl, h.n (Fk.pj (by decide) : Fk B M _ [] [1]) (by decide) (by decide) h.2.1.h1, Sm.pI (by omega) (by omega)⟩ | exact ⟨rfl, h.n (Fk.pj (by decide) : Fk B M _ [] [2]) (by decide) (by decide) h.2.1.h2, Sm.pI (by omega) (by omega)⟩ | exact ⟨rfl, h.n (Fk.pj (by decide) : Fk B M _ [] [3]) (by decide) (by decide) h.2.1.h3, Sm.pI (by omega) (by omega)⟩
          · have k0 : nI 1 ≤ v ∧ v ≤ nI 99 := ⟨Int32.not_lt.mp c_34, Int32.not_lt.mp c_40⟩
            have k1 : w = nI 1 := c_29
            have e9 : o_ask y w v = _ := (if_neg (show ¬ (w = 0 ∧ nI 0 ≤ v ∧ v ≤ nI 99) from fun z => by rw [k1] at z; exact absurd z.1 (by decide))).trans (if_pos ⟨k1, k0⟩)
            rw [e9]
            obtain ⟨v', h1, hv, rfl, e2⟩ := btw_n (by decide) (by decide) k0
            rw [e2]
            refine g_aload_n dX7_ask_43 rfl rfl ?_
            refine g_getI dX7_ask_44 fl_X7_13 rfl rfl (h.2.1.2.2.2.2.1) ?_
            refine g_istore_n dX7_ask_47 rfl (lt_r rfl) rfl ?_
            refine g_aload_n dX7_ask_48 rfl rfl ?_
            refine g_iload_n dX7_ask_49 rfl rfl ?_
            refine g_putI dX7_ask_50 fp_X7_13 rfl rfl ?_
            refine g_goto (tgt := 92) dX7_ask_53 (by decide) ?_
            refine g_iload_n dX7_ask_92 rfl rfl ?_
            refine g_iret dX7_ask_93 ⟨_, rfl, ?_⟩
            first | exact ⟨rfl, h.n (Fk.pj (by decide) : Fk B M _ [] [1]) (by decide) (by decide) h.2.1.h1, Sm.pI (by omega) (by omega)⟩ | exact ⟨rfl, h.n (Fk.pj (by decide) : Fk B M _ [] [2]) (by decide) (by decide) h.2.1.h2, Sm.pI (by omega) (by omega)⟩ | exact ⟨rfl, h.n (Fk.pj (by decide) : Fk B M _ [] [3]) (by decide) (by decide) h.2.1.h3, Sm.pI (by omega) (by omega)⟩
    · refine g_iload_n dX7_ask_8 rfl rfl ?_
      refine g_bipush dX7_ask_9 kB_99 ?_
      refine g_icmp_gt (tgt := 27) dX7_ask_11 (by decide) (fun c_11 => ?_) (fun c_11 => ?_)
      · refine g_iload_n dX7_ask_27 rfl rfl ?_
        refine g_iconst dX7_ask_28 kI_1 ?_
        refine g_icmp_ne (tgt := 56) dX7_ask_29 (by decide) (fun c_29 => ?_) (fun c_29 => ?_)
        · refine g_iload_n dX7_ask_56 rfl rfl ?_
          refine g_iconst dX7_ask_57 kI_2 ?_
          refine g_icmp_ne (tgt := 85) dX7_ask_58 (by decide) (fun c_58 => ?_) (fun c_58 => ?_)
          · refine g_aload_n dX7_ask_85 rfl rfl ?_
            refine g_bipush dX7_ask_86 kB_m6 ?_
            refine g_callVi dX7_ask_88 mi_X7_no ml_X7_100 (ct_no (w := 6) h (by decide) (by decide)) rfl rfl rfl rfl (Nat.le_of_ble_eq_true rfl) ⟨lt_r rfl, Nat.le_of_ble_eq_true rfl⟩ (fun x88 M88 h88 => ?_)
            refine g_iret dX7_ask_91 ⟨_, rfl, ?_⟩
            exact QM.rf (by unfold o_ask; rw [if_neg (fun z => by first | exact c_1 z.1 | exact Int32.not_lt.mpr z.2.1 c_5 | exact Int32.not_lt.mpr z.2.2 c_11), if_neg (fun z => by first | exact c_29 z.1 | exact Int32.not_lt.mpr z.2.1 c_34 | exact Int32.not_lt.mpr z.2.2 c_40), if_neg (fun z => by first | exact c_58 z.1 | exact Int32.not_lt.mpr z.2.1 c_62 | exact Int32.not_lt.mpr z.2.2 c_69)]) h88
          · refine g_iload_n dX7_ask_61 rfl rfl ?_
            refine g_if_lt (tgt := 85) dX7_ask_62 (by decide) (fun c_62 => ?_) (fun c_62 => ?_)
            · refine g_aload_n dX7_ask_85 rfl rfl ?_
              refine g_bipush dX7_ask_86 kB_m6 ?_
              refine g_callVi dX7_ask_88 mi_X7_no ml_X7_100 (ct_no (w := 6) h (by decide) (by decide)) rfl rfl rfl rfl (Nat.le_of_ble_eq_true rfl) ⟨lt_r rfl, Nat.le_of_ble_eq_true rfl⟩ (fun x88 M88 h88 => ?_)
              refine g_iret dX7_ask_91 ⟨_, rfl, ?_⟩
              exact QM.rf (by unfold o_ask; rw [if_neg (fun z => by first | exact c_1 z.1 | exact Int32.not_lt.mpr z.2.1 c_5 | exact Int32.not_lt.mpr z.2.2 c_11), if_neg (fun z => by first | exact c_29 z.1 | exact Int32.not_lt.mpr z.2.1 c_34 | exact Int32.not_lt.mpr z.2.2 c_40), if_neg (fun z => by first | exact c_58 z.1 | exact Int32.not_lt.mpr z.2.1 c_62 | exact Int32.not_lt.mpr z.2.2 c_69)]) h88
            · refine g_iload_n dX7_ask_65 rfl rfl ?_
              refine g_sipush dX7_ask_66 kS_9999 ?_
              refine g_icmp_gt (tgt := 85) dX7_ask_69 (by decide) (fun c_69 => ?_) (fun c_69 => ?_)
              · refine g_aload_n dX7_ask_85 rfl rfl ?_
                refine g_bipush dX7_ask_86 kB_m6 ?_
                refine g_callVi dX7_ask_88 mi_X7_no ml_X7_100 (ct_no (w := 6) h (by decide) (by decide)) rfl rfl rfl rfl (Nat.le_of_ble_eq_true rfl) ⟨lt_r rfl, Nat.le_of_ble_eq_true rfl⟩ (fun x88 M88 h88 => ?_)
                refine g_iret dX7_ask_91 ⟨_, rfl, ?_⟩
                exact QM.rf (by unfold o_ask; rw [if_neg (fun z => by first | exact c_1 z.1 | exact Int32.not_lt.mpr z.2.1 c_5 | exact Int32.not_lt.mpr z.2.2 c_11), if_neg (fun z => by first | exact c_29 z.1 | exact Int32.not_lt.mpr z.2.1 c_34 | exact Int32.not_lt.mpr z.2.2 c_40), if_neg (fun z => by first | exact c_58 z.1 | exact Int32.not_lt.mpr z.2.1 c_62 | exact Int32.not_lt.mpr z.2.2 c_69)]) h88
              · have k0 : nI 0 ≤ v ∧ v ≤ nI 9999 := ⟨Int32.not_lt.mp c_62, Int32.not_lt.mp c_69⟩
                have k1 : w = nI 2 := c_58
                have e9 : o_ask y w v = _ := (if_neg (show ¬ (w = 0 ∧ nI 0 ≤ v ∧ v ≤ nI 99) from fun z => by rw [k1] at z; exact absurd z.1 (by decide))).trans ((if_neg (show ¬ (w = nI 1 ∧ nI 1 ≤ v ∧ v ≤ nI 99) from fun z => by rw [k1] at z; exact absurd z.1 (by decide))).trans (if_pos ⟨k1, k0⟩))
                rw [e9]
                obtain ⟨v', h1, hv, rfl, e2⟩ := btw_n (by decide) (by decide) k0
                rw [e2]
                refine g_aload_n dX7_ask_72 rfl rfl ?_
                refine g_getI dX7_ask_73 fl_X7_16 rfl rfl (h.2.1.2.2.2.2.2.1) ?_
                refine g_istore_n dX7_ask_76 rfl (lt_r rfl) rfl ?_
                refine g_aload_n dX7_ask_77 rfl rfl ?_
                refine g_iload_n dX7_ask_78 rfl rfl ?_
                refine g_putI dX7_ask_79 fp_X7_16 rfl rfl ?_
                refine g_goto (tgt := 92) dX7_ask_82 (by decide) ?_
                refine g_iload_n dX7_ask_92 rfl rfl ?_
                refine g_iret dX7_ask_93 ⟨_, rfl, ?_⟩
                first | exact ⟨rfl, h.n (Fk.pj (by decide) : Fk B M _ [] [1]) (by decide) (by decide) h.2.1.h1, Sm.pI (by omega) (by omega)⟩ | exact ⟨rfl, h.n (Fk.pj (by decide) : Fk B M _ [] [2]) (by decide) (by decide) h.2.1.h2, Sm.pI (by omega) (by omega)⟩ | exact ⟨rfl, h.n (Fk.pj (by decide) : Fk B M _ [] [3]) (by decide) (by decide) h.2.1.h3, Sm.pI (by omega) (by omega)⟩
        · refine g_iload_n dX7_ask_32 rfl rfl ?_
          refine g_iconst dX7_ask_33 kI_1 ?_
          refine g_icmp_lt (tgt := 56) dX7_ask_34 (by decide) (fun c_34 => ?_) (fun c_34 => ?_)
          · refine g_iload_n dX7_ask_56 rfl rfl ?_
            refine g_iconst dX7_ask_57 kI_2 ?_
            refine g_icmp_ne (tgt := 85) dX7_ask_58 (by decide) (fun c_58 => ?_) (fun c_58 => ?_)
            · refine g_aload_n dX7_ask_85 rfl rfl ?_
              refine g_bipush dX7_ask_86 kB_m6 ?_
              refine g_callVi dX7_ask_88 mi_X7_no ml_X7_100 (ct_no (w := 6) h (by decide) (by decide)) rfl rfl rfl rfl (Nat.le_of_ble_eq_true rfl) ⟨lt_r rfl, Nat.le_of_ble_eq_true rfl⟩ (fun x88 M88 h88 => ?_)
              refine g_iret dX7_ask_91 ⟨_, rfl, ?_⟩
              exact QM.rf (by unfold o_ask; rw [if_neg (fun z => by first | exact c_1 z.1 | exact Int32.not_lt.mpr z.2.1 c_5 | exact Int32.not_lt.mpr z.2.2 c_11), if_neg (fun z => by first | exact c_29 z.1 | exact Int32.not_lt.mpr z.2.1 c_34 | exact Int32.not_lt.mpr z.2.2 c_40), if_neg (fun z => by first | exact c_58 z.1 | exact Int32.not_lt.mpr z.2.1 c_62 | exact Int32.not_lt.mpr z.2.2 c_69)]) h88
            · refine g_iload_n dX7_ask_61 rfl rfl ?_
              refine g_if_lt (tgt := 85) dX7_ask_62 (by decide) (fun c_62 => ?_) (fun c_62 => ?_)
              · refine g_aload_n dX7_ask_85 rfl rfl ?_
                refine g_bipush dX7_ask_86 kB_m6 ?_
                refine g_callVi dX7_ask_88 mi_X7_no ml_X7_100 (ct_no (w := 6) h (by decide) (by decide)) rfl rfl rfl rfl (Nat.le_of_ble_eq_true rfl) ⟨lt_r rfl, Nat.le_of_ble_eq_true rfl⟩ (fun x88 M88 h88 => ?_)
                refine g_iret dX7_ask_91 ⟨_, rfl, ?_⟩
                exact QM.rf (by unfold o_ask; rw [if_neg (fun z => by first | exact c_1 z.1 | exact Int32.not_lt.mpr z.2.1 c_5 | exact Int32.not_lt.mpr z.2.2 c_11), if_neg (fun z => by first | exact c_29 z.1 | exact Int32.not_lt.mpr z.2.1 c_34 | exact Int32.not_lt.mpr z.2.2 c_40), if_neg (fun z => by first | exact c_58 z.1 | exact Int32.not_lt.mpr z.2.1 c_62 | exact Int32.not_lt.mpr z.2.2 c_69)]) h88
              · refine g_iload_n dX7_ask_65 rfl rfl ?_
                refine g_sipush dX7_ask_66 kS_9999 ?_
                refine g_icmp_gt (tgt := 85) dX7_ask_69 (by decide) (fun c_69 => ?_) (fun c_69 => ?_)
                · refine g_aload_n dX7_ask_85 rfl rfl ?_
                  refine g_bipush dX7_ask_86 kB_m6 ?_
                  refine g_callVi dX7_ask_88 mi_X7_no ml_X7_100 (ct_no (w := 6) h (by decide) (by decide)) rfl rfl rfl rfl (Nat.le_of_ble_eq_true rfl) ⟨lt_r rfl, Nat.le_of_ble_eq_true rfl⟩ (fun x88 M88 h88 => ?_)
                  refine g_iret dX7_ask_91 ⟨_, rfl, ?_⟩
                  exact QM.rf (by unfold o_ask; rw [if_neg (fun z => by first | exact c_1 z.1 | exact Int32.not_lt.mpr z.2.1 c_5 | exact Int32.not_lt.mpr z.2.2 c_11), if_neg (fun z => by first | exact c_29 z.1 | exact Int32.not_lt.mpr z.2.1 c_34 | exact Int32.not_lt.mpr z.2.2 c_40), if_neg (fun z => by first | exact c_58 z.1 | exact Int32.not_lt.mpr z.2.1 c_62 | exact Int32.not_lt.mpr z.2.2 c_69)]) h88
                · have k0 : nI 0 ≤ v ∧ v ≤ nI 9999 := ⟨Int32.not_lt.mp c_62, Int32.not_lt.mp c_69⟩
                  have k1 : w = nI 2 := c_58
                  have e9 : o_ask y w v = _ := (if_neg (show ¬ (w = 0 ∧ nI 0 ≤ v ∧ v ≤ nI 99) from fun z => by rw [k1] at z; exact absurd z.1 (by decide))).trans ((if_neg (show ¬ (w = nI 1 ∧ nI 1 ≤ v ∧ v ≤ nI 99) from fun z => by rw [k1] at z; exact absurd z.1 (by decide))).trans (if_pos ⟨k1, k0⟩))
                  rw [e9]
                  obtain ⟨v', h1, hv, rfl, e2⟩ := btw_n (by decide) (by decide) k0
                  rw [e2]
                  refine g_aload_n dX7_ask_72 rfl rfl ?_
                  refine g_getI dX7_ask_73 fl_X7_16 rfl rfl (h.2.1.2.2.2.2.2.1) ?_
                  refine g_istore_n dX7_ask_76 rfl (lt_r rfl) rfl ?_
                  refine g_aload_n dX7_ask_77 rfl rfl ?_
                  refine g_iload_n dX7_ask_78 rfl rfl ?_
                  refine g_putI dX7_ask_79 fp_X7_16 rfl rfl ?_
                  refine g_goto (tgt := 92) dX7_ask_82 (by decide) ?_
                  refine g_iload_n dX7_ask_92 rfl rfl ?_
                  refine g_iret dX7_ask_93 ⟨_, rfl, ?_⟩
                  first | exact ⟨rfl, h.n (Fk.pj (by decide) : Fk B M _ [] [1]) (by decide) (by decide) h.2.1.h1, Sm.pI (by omega) (by omega)⟩ | exact ⟨rfl, h.n (Fk.pj (by decide) : Fk B M _ [] [2]) (by decide) (by decide) h.2.1.h2, Sm.pI (by omega) (by omega)⟩ | exact ⟨rfl, h.n (Fk.pj (by decide) : Fk B M _ [] [3]) (by decide) (by decide) h.2.1.h3, Sm.pI (by omega) (by omega)⟩
          · refine g_iload_n dX7_ask_37 rfl rfl ?_
            refine g_bipush dX7_ask_38 kB_99 ?_
            refine g_icmp_gt (tgt := 56) dX7_ask_40 (by decide) (fun c_40 => ?_) (fun c_40 => ?_)
            · refine g_iload_n dX7_ask_56 rfl rfl ?_
              refine g_iconst dX7_ask_57 kI_2 ?_
              refine g_icmp_ne (tgt := 85) dX7_ask_58 (by decide) (fun c_58 => ?_) (fun c_58 => ?_)
              · refine g_aload_n dX7_ask_85 rfl rfl ?_
                refine g_bipush dX7_ask_86 kB_m6 ?_
                refine g_callVi dX7_ask_88 mi_X7_no ml_X7_100 (ct_no (w := 6) h (by decide) (by decide)) rfl rfl rfl rfl (Nat.le_of_ble_eq_true rfl) ⟨lt_r rfl, Nat.le_of_ble_eq_true rfl⟩ (fun x88 M88 h88 => ?_)
                refine g_iret dX7_ask_91 ⟨_, rfl, ?_⟩
                exact QM.rf (by unfold o_ask; rw [if_neg (fun z => by first | exact c_1 z.1 | exact Int32.not_lt.mpr z.2.1 c_5 | exact Int32.not_lt.mpr z.2.2 c_11), if_neg (fun z => by first | exact c_29 z.1 | exact Int32.not_lt.mpr z.2.1 c_34 | exact Int32.not_lt.mpr z.2.2 c_40), if_neg (fun z => by first | exact c_58 z.1 | exact Int32.not_lt.mpr z.2.1 c_62 | exact Int32.not_lt.mpr z.2.2 c_69)]) h88
              · refine g_iload_n dX7_ask_61 rfl rfl ?_
                refine g_if_lt (tgt := 85) dX7_ask_62 (by decide) (fun c_62 => ?_) (fun c_62 => ?_)
                · refine g_aload_n dX7_ask_85 rfl rfl ?_
                  refine g_bipush dX7_ask_86 kB_m6 ?_
                  refine g_callVi dX7_ask_88 mi_X7_no ml_X7_100 (ct_no (w := 6) h (by decide) (by decide)) rfl rfl rfl rfl (Nat.le_of_ble_eq_true rfl) ⟨lt_r rfl, Nat.le_of_ble_eq_true rfl⟩ (fun x88 M88 h88 => ?_)
                  refine g_iret dX7_ask_91 ⟨_, rfl, ?_⟩
                  exact QM.rf (by unfold o_ask; rw [if_neg (fun z => by first | exact c_1 z.1 | exact Int32.not_lt.mpr z.2.1 c_5 | exact Int32.not_lt.mpr z.2.2 c_11), if_neg (fun z => by first | exact c_29 z.1 | exact Int32.not_lt.mpr z.2.1 c_34 | exact Int32.not_lt.mpr z.2.2 c_40), if_neg (fun z => by first | exact c_58 z.1 | exact Int32.not_lt.mpr z.2.1 c_62 | exact Int32.not_lt.mpr z.2.2 c_69)]) h88
                · refine g_iload_n dX7_ask_65 rfl rfl ?_
                  refine g_sipush dX7_ask_66 kS_9999 ?_
                  refine g_icmp_gt (tgt := 85) dX7_ask_69 (by decide) (fun c_69 => ?_) (fun c_69 => ?_)
                  · refine g_aload_n dX7_ask_85 rfl rfl ?_
                    refine g_bipush dX7_ask_86 kB_m6 ?_
                    refine g_callVi dX7_ask_88 mi_X7_no ml_X7_100 (ct_no (w := 6) h (by decide) (by decide)) rfl rfl rfl rfl (Nat.le_of_ble_eq_true rfl) ⟨lt_r rfl, Nat.le_of_ble_eq_true rfl⟩ (fun x88 M88 h88 => ?_)
                    refine g_iret dX7_ask_91 ⟨_, rfl, ?_⟩
                    exact QM.rf (by unfold o_ask; rw [if_neg (fun z => by first | exact c_1 z.1 | exact Int32.not_lt.mpr z.2.1 c_5 | exact Int32.not_lt.mpr z.2.2 c_11), if_neg (fun z => by first | exact c_29 z.1 | exact Int32.not_lt.mpr z.2.1 c_34 | exact Int32.not_lt.mpr z.2.2 c_40), if_neg (fun z => by first | exact c_58 z.1 | exact Int32.not_lt.mpr z.2.1 c_62 | exact Int32.not_lt.mpr z.2.2 c_69)]) h88
                  · have k0 : nI 0 ≤ v ∧ v ≤ nI 9999 := ⟨Int32.not_lt.mp c_62, Int32.not_lt.mp c_69⟩
                    have k1 : w = nI 2 := c_58
                    have e9 : o_ask y w v = _ := (if_neg (show ¬ (w = 0 ∧ nI 0 ≤ v ∧ v ≤ nI 99) from fun z => by rw [k1] at z; exact absurd z.1 (by decide))).trans ((if_neg (show ¬ (w = nI 1 ∧ nI 1 ≤ v ∧ v ≤ nI 99) from fun z => by rw [k1] at z; exact absurd z.1 (by decide))).trans (if_pos ⟨k1, k0⟩))
                    rw [e9]
                    obtain ⟨v', h1, hv, rfl, e2⟩ := btw_n (by decide) (by decide) k0
                    rw [e2]
                    refine g_aload_n dX7_ask_72 rfl rfl ?_
                    refine g_getI dX7_ask_73 fl_X7_16 rfl rfl (h.2.1.2.2.2.2.2.1) ?_
                    refine g_istore_n dX7_ask_76 rfl (lt_r rfl) rfl ?_
                    refine g_aload_n dX7_ask_77 rfl rfl ?_
                    refine g_iload_n dX7_ask_78 rfl rfl ?_
                    refine g_putI dX7_ask_79 fp_X7_16 rfl rfl ?_
                    refine g_goto (tgt := 92) dX7_ask_82 (by decide) ?_
                    refine g_iload_n dX7_ask_92 rfl rfl ?_
                    refine g_iret dX7_ask_93 ⟨_, rfl, ?_⟩
                    first | exact ⟨rfl, h.n (Fk.pj (by decide) : Fk B M _ [] [1]) (by decide) (by decide) h.2.1.h1, Sm.pI (by omega) (by omega)⟩ | exact ⟨rfl, h.n (Fk.pj (by decide) : Fk B M _ [] [2]) (by decide) (by decide) h.2.1.h2, Sm.pI (by omega) (by omega)⟩ | exact ⟨rfl, h.n (Fk.pj (by decide) : Fk B M _ [] [3]) (by decide) (by decide) h.2.1.h3, Sm.pI (by omega) (by omega)⟩
            · have k0 : nI 1 ≤ v ∧ v ≤ nI 99 := ⟨Int32.not_lt.mp c_34, Int32.not_lt.mp c_40⟩
              have k1 : w = nI 1 := c_29
              have e9 : o_ask y w v = _ := (if_neg (show ¬ (w = 0 ∧ nI 0 ≤ v ∧ v ≤ nI 99) from fun z => by rw [k1] at z; exact absurd z.1 (by decide))).trans (if_pos ⟨k1, k0⟩)
              rw [e9]
              obtain ⟨v', h1, hv, rfl, e2⟩ := btw_n (by decide) (by decide) k0
              rw [e2]
              refine g_aload_n dX7_ask_43 rfl rfl ?_
              refine g_getI dX7_ask_44 fl_X7_13 rfl rfl (h.2.1.2.2.2.2.1) ?_
              refine g_istore_n dX7_ask_47 rfl (lt_r rfl) rfl ?_
              refine g_aload_n dX7_ask_48 rfl rfl ?_
              refine g_iload_n dX7_ask_49 rfl rfl ?_
              refine g_putI dX7_ask_50 fp_X7_13 rfl rfl ?_
              refine g_goto (tgt := 92) dX7_ask_53 (by decide) ?_
              refine g_iload_n dX7_ask_92 rfl rfl ?_
              refine g_iret dX7_ask_93 ⟨_, rfl, ?_⟩
              first | exact ⟨rfl, h.n (Fk.pj (by decide) : Fk B M _ [] [1]) (by decide) (by decide) h.2.1.h1, Sm.pI (by omega) (by omega)⟩ | exact ⟨rfl, h.n (Fk.pj (by decide) : Fk B M _ [] [2]) (by decide) (by decide) h.2.1.h2, Sm.pI (by omega) (by omega)⟩ | exact ⟨rfl, h.n (Fk.pj (by decide) : Fk B M _ [] [3]) (by decide) (by decide) h.2.1.h3, Sm.pI (by omega) (by omega)⟩
      · have k0 : nI 0 ≤ v ∧ v ≤ nI 99 := ⟨Int32.not_lt.mp c_5, Int32.not_lt.mp c_11⟩
        have e9 : o_ask y w v = _ := if_pos ⟨c_1, k0⟩
        rw [e9]
        obtain ⟨v', h1, hv, rfl, e2⟩ := btw_n (by decide) (by decide) k0
        rw [e2]
        refine g_aload_n dX7_ask_14 rfl rfl ?_
        refine g_getI dX7_ask_15 fl_X7_7 rfl rfl (h.2.1.2.2.2.1) ?_
        refine g_istore_n dX7_ask_18 rfl (lt_r rfl) rfl ?_
        refine g_aload_n dX7_ask_19 rfl rfl ?_
        refine g_iload_n dX7_ask_20 rfl rfl ?_
        refine g_putI dX7_ask_21 fp_X7_7 rfl rfl ?_
        refine g_goto (tgt := 92) dX7_ask_24 (by decide) ?_
        refine g_iload_n dX7_ask_92 rfl rfl ?_
        refine g_iret dX7_ask_93 ⟨_, rfl, ?_⟩
        first | exact ⟨rfl, h.n (Fk.pj (by decide) : Fk B M _ [] [1]) (by decide) (by decide) h.2.1.h1, Sm.pI (by omega) (by omega)⟩ | exact ⟨rfl, h.n (Fk.pj (by decide) : Fk B M _ [] [2]) (by decide) (by decide) h.2.1.h2, Sm.pI (by omega) (by omega)⟩ | exact ⟨rfl, h.n (Fk.pj (by decide) : Fk B M _ [] [3]) (by decide) (by decide) h.2.1.h3, Sm.pI (by omega) (by omega)⟩
theorem mx_worthOf {y : Sys} {w v : Int32} (h : RM B M y) (ho : okY y) : Ct E B yX7_worthOf cX7_worthOf 4 (some .int) 1 [.ref (B + 80), .int w, .int v] M (QM B M (o_worthOf y w v)) := by
  refine Ct.of2 (own := RX7) (lv := [(0, .ref (B + 80)), (1, .int w), (2, .int v)]) pn_X7 rfl (Nat.le_of_ble_eq_true rfl) rfl ?_
  refine g_iload_n dX7_worthOf_0 rfl rfl ?_
  refine g_if_lt (tgt := 20) dX7_worthOf_1 (by decide) (fun c_1 => ?_) (fun c_1 => ?_)
  · refine g_aload_n dX7_worthOf_20 rfl rfl ?_
    refine g_bipush dX7_worthOf_21 kB_m6 ?_
    refine g_callVi dX7_worthOf_23 mi_X7_no ml_X7_100 (ct_no (w := 6) h (by decide) (by decide)) rfl rfl rfl rfl (Nat.le_of_ble_eq_true rfl) ⟨lt_r rfl, Nat.le_of_ble_eq_true rfl⟩ (fun x23 M23 h23 => ?_)
    refine g_iret dX7_worthOf_26 ⟨_, rfl, ?_⟩
    first | exact QM.rf (if_pos (fun z => Int32.not_lt.mpr z.1.1 c_1)) h23 | exact QM.rf (if_pos (fun z => Int32.not_lt.mpr z.1.2 c_7)) h23 | exact QM.rf (if_pos (fun z => Int32.not_lt.mpr z.2.1 c_11)) h23 | exact QM.rf (if_pos (fun z => c_17 z.2.2)) h23
  · refine g_iload_n dX7_worthOf_4 rfl rfl ?_
    refine g_bipush dX7_worthOf_5 kB_9 ?_
    refine g_icmp_gt (tgt := 20) dX7_worthOf_7 (by decide) (fun c_7 => ?_) (fun c_7 => ?_)
    · refine g_aload_n dX7_worthOf_20 rfl rfl ?_
      refine g_bipush dX7_worthOf_21 kB_m6 ?_
      refine g_callVi dX7_worthOf_23 mi_X7_no ml_X7_100 (ct_no (w := 6) h (by decide) (by decide)) rfl rfl rfl rfl (Nat.le_of_ble_eq_true rfl) ⟨lt_r rfl, Nat.le_of_ble_eq_true rfl⟩ (fun x23 M23 h23 => ?_)
      refine g_iret dX7_worthOf_26 ⟨_, rfl, ?_⟩
      first | exact QM.rf (if_pos (fun z => Int32.not_lt.mpr z.1.1 c_1)) h23 | exact QM.rf (if_pos (fun z => Int32.not_lt.mpr z.1.2 c_7)) h23 | exact QM.rf (if_pos (fun z => Int32.not_lt.mpr z.2.1 c_11)) h23 | exact QM.rf (if_pos (fun z => c_17 z.2.2)) h23
    · refine g_iload_n dX7_worthOf_10 rfl rfl ?_
      refine g_if_lt (tgt := 20) dX7_worthOf_11 (by decide) (fun c_11 => ?_) (fun c_11 => ?_)
      · refine g_aload_n dX7_worthOf_20 rfl rfl ?_
        refine g_bipush dX7_worthOf_21 kB_m6 ?_
        refine g_callVi dX7_worthOf_23 mi_X7_no ml_X7_100 (ct_no (w := 6) h (by decide) (by decide)) rfl rfl rfl rfl (Nat.le_of_ble_eq_true rfl) ⟨lt_r rfl, Nat.le_of_ble_eq_true rfl⟩ (fun x23 M23 h23 => ?_)
        refine g_iret dX7_worthOf_26 ⟨_, rfl, ?_⟩
        first | exact QM.rf (if_pos (fun z => Int32.not_lt.mpr z.1.1 c_1)) h23 | exact QM.rf (if_pos (fun z => Int32.not_lt.mpr z.1.2 c_7)) h23 | exact QM.rf (if_pos (fun z => Int32.not_lt.mpr z.2.1 c_11)) h23 | exact QM.rf (if_pos (fun z => c_17 z.2.2)) h23
      · refine g_iload_n dX7_worthOf_14 rfl rfl ?_
        refine g_bipush dX7_worthOf_15 kB_99 ?_
        refine g_icmp_le (tgt := 27) dX7_worthOf_17 (by decide) (fun c_17 => ?_) (fun c_17 => ?_)
        · have k1 : (nI 0 ≤ w ∧ w ≤ nI 9) ∧ nI 0 ≤ v ∧ v ≤ nI 99 := ⟨⟨Int32.not_lt.mp c_1, Int32.not_lt.mp c_7⟩, Int32.not_lt.mp c_11, c_17⟩
          have e9 : o_worthOf y w v = _ := if_neg (fun z => z k1)
          rw [e9]
          obtain ⟨j, -, hj, rfl, e1⟩ := btw_n (by decide) (by decide) k1.1
          obtain ⟨v', -, hv, rfl, e2⟩ := btw_n (by decide) (by decide) k1.2
          rw [e1, e2]
          refine g_aload_n dX7_worthOf_27 rfl rfl ?_
          refine g_getR dX7_worthOf_28 fl_X7_41 rfl rfl ?_
          refine g_iload_n dX7_worthOf_31 rfl rfl ?_
          refine g_iald dX7_worthOf_32 rfl rfl (by omega) (h.2.1.2.1 j (by omega)) ?_
          refine g_istore_n dX7_worthOf_33 rfl (lt_r rfl) rfl ?_
          refine g_aload_n dX7_worthOf_34 rfl rfl ?_
          refine g_getR dX7_worthOf_35 fl_X7_41 rfl rfl ?_
          refine g_iload_n dX7_worthOf_38 rfl rfl ?_
          refine g_iload_n dX7_worthOf_39 rfl rfl ?_
          refine g_iast dX7_worthOf_40 rfl rfl (by omega) ?_
          refine g_iload_n dX7_worthOf_41 rfl rfl ?_
          refine g_iret dX7_worthOf_42 ⟨_, rfl, ?_⟩
          exact ⟨rfl, h.n (Fk.pi (by decide) (by decide) : Fk B M _ [86] []) (by decide) (by decide) h.2.1.wo, Sm.pI (by omega) (by omega)⟩
        · refine g_aload_n dX7_worthOf_20 rfl rfl ?_
          refine g_bipush dX7_worthOf_21 kB_m6 ?_
          refine g_callVi dX7_worthOf_23 mi_X7_no ml_X7_100 (ct_no (w := 6) h (by decide) (by decide)) rfl rfl rfl rfl (Nat.le_of_ble_eq_true rfl) ⟨lt_r rfl, Nat.le_of_ble_eq_true rfl⟩ (fun x23 M23 h23 => ?_)
          refine g_iret dX7_worthOf_26 ⟨_, rfl, ?_⟩
          first | exact QM.rf (if_pos (fun z => Int32.not_lt.mpr z.1.1 c_1)) h23 | exact QM.rf (if_pos (fun z => Int32.not_lt.mpr z.1.2 c_7)) h23 | exact QM.rf (if_pos (fun z => Int32.not_lt.mpr z.2.1 c_11)) h23 | exact QM.rf (if_pos (fun z => c_17 z.2.2)) h23
theorem mx_fault {y : Sys} (h : RM B M y) : Ct E B yX7_fault cX7_fault 1 (some .int) 0 [.ref (B + 80)] M (QM B M (o_fault y)) := by
  refine Ct.of2 (own := RX7) (lv := [(0, .ref (B + 80))]) pn_X7 rfl (Nat.le_of_ble_eq_true rfl) rfl ?_
  refine g_aload_n dX7_fault_0 rfl rfl ?_
  refine g_getI dX7_fault_1 fl_X7_22 rfl rfl (h.2.2.2.2.1) ?_
  refine g_iret dX7_fault_4 ⟨_, rfl, ?_⟩
  exact QM.p h rfl
theorem mx_seed {y : Sys} {v : Int32} (h : RM B M y) : Ct E B yX7_seed cX7_seed 3 (some .int) 0 [.ref (B + 80), .int v] M (QM B M (o_seed y v)) := by
  refine Ct.of2 (own := RX7) (lv := [(0, .ref (B + 80)), (1, .int v)]) pn_X7 rfl (Nat.le_of_ble_eq_true rfl) rfl ?_
  refine g_aload_n dX7_seed_0 rfl rfl ?_
  refine g_getI dX7_seed_1 fl_X7_19 rfl rfl (h.2.1.2.2.2.2.2.2.2.2.2) ?_
  refine g_istore_n dX7_seed_4 rfl (lt_r rfl) rfl ?_
  refine g_aload_n dX7_seed_5 rfl rfl ?_
  refine g_iload_n dX7_seed_6 rfl rfl ?_
  refine g_putI dX7_seed_7 fp_X7_19 rfl rfl ?_
  refine g_iload_n dX7_seed_10 rfl rfl ?_
  refine g_iret dX7_seed_11 ⟨_, rfl, ?_⟩
  exact ⟨rfl, h.n (Fk.pj (by decide) : Fk B M _ [] [7]) (by decide) (by decide) h.2.1.h7, Sm.pI (by omega) (by omega)⟩
end X7G
