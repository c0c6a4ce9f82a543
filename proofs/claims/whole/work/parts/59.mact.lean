/-! the model: turn, teas, act, trace -/
theorem okS' {B : Nat} {M : MM} {s : St} {x : Int32} (_ : RN B M (seedS s x)) (ho : okSt s) : okSt (seedS s x) := ho
theorem okD' {B : Nat} {M : MM} {s : St} {q d t : Nat} (_ : RN B M (dipS s q d t)) (ho : okSt s) (hq : q < sCn s) : okSt (dipS s q d t) := ok_dip ho hq
theorem okC' {B : Nat} {M : MM} {s : St} {q t : Nat} (_ : RN B M (carS s q t)) (ho : okSt s) (hq : q < sCn s) : okSt (carS s q t) := ok_car ho hq
theorem RN.row {B q : Nat} {w : Nat → Nat} {M M2 : MM} {s : St} (h : RN B M s) (ho : okSt s) (hq : q < sCn s) (hF : Fk B M M2 [85] []) (h1 : ∀ j, j < (sBs s q).2.2.1 → M2.1 (B + 85) (12 * q + j) = nI (w j)) (h2 : ∀ z, (z < 12 * q ∨ 12 * q + 12 ≤ z) → M2.1 (B + 85) z = M.1 (B + 85) z) : RN B M2 (setB s q (sBs s q).2.2.1 w, s.2) := by
  obtain ⟨b1, b2, b3, b4, b5, b6, b7, b8, b9, b10⟩ := h
  refine ⟨fun q2 hq2 => ?_, fun i hi => by rw [hF.i (by decide) (by decide)]; exact b2 i hi, by rw [hF.j (by decide)]; exact b3, by rw [hF.j (by decide)]; exact b4, by rw [hF.j (by decide)]; exact b5, by rw [hF.j (by decide)]; exact b6, by rw [hF.j (by decide)]; exact b7, by rw [hF.j (by decide)]; exact b8, by rw [hF.j (by decide)]; exact b9, by rw [hF.j (by decide)]; exact b10⟩
  have hq2 : q2 < sCn s := hq2
  rw [hF.i (q := 82) (by decide) (by decide), hF.i (q := 83) (by decide) (by decide), hF.i (q := 84) (by decide) (by decide)]
  have h9 := b1 q2 hq2
  have h12 := (ho.1 q2 hq2).2.2.1
  by_cases e : q2 = q
  · subst e
    have eb : sBs ((setB s q2 (sBs s q2).2.2.1 w, s.2) : St) q2 = ((sBs s q2).1, (sBs s q2).2.1, (sBs s q2).2.2.1, w) := upF_s
    rw [eb]
    exact ⟨h9.1, h9.2.1, h9.2.2.1, h1⟩
  · have eb : sBs ((setB s q (sBs s q).2.2.1 w, s.2) : St) q2 = sBs s q2 := upF_n e
    rw [eb]
    refine ⟨h9.1, h9.2.1, h9.2.2.1, fun i hi => ?_⟩
    rw [h2 _ (by omega)]
    exact h9.2.2.2 i hi
theorem RM.tr {B : Nat} {M M' : MM} {y : Sys} {T : Tr} (h : RM B M y) (hF : Fk B M M' [101] [41]) (hT : RTm B M' T) : RM B M' (setT y T) := by
  obtain ⟨h1, h2, h3, h4, h5, h6, h7, h8⟩ := h
  exact ⟨fun q hq => (h1 q hq).fk hF (by decide), h2.fk hF (by decide) (by decide), fun hb => (h3 hb).eq (hF.i (by decide) (by decide)), (hF.j (by decide)).trans h4, (hF.j (by decide)).trans h5, fun j hj => by rw [hF.i (by decide) (by decide)]; exact h6 j hj, hT, fun j hj => by rw [hF.i (by decide) (by decide)]; exact h8 j hj⟩
section X7M
variable {E : EE} {B : Nat} {M : MM}
theorem lp_turns {q n : Nat} {w : Nat → Nat} {M1 : MM} (hq : q < 6) (hn : n ≤ 12) : ∀ (m i : Nat), m + i = n / 2 → 1 ≤ n → ∀ M', Fk B M1 M' [85] [] → (∀ j, j < n → M'.1 (B + 85) (12 * q + j) = nI (if j < i ∨ n - 1 - j < i then w (n - 1 - j) else w j)) → (∀ z, (z < 12 * q ∨ 12 * q + 12 ≤ z) → M'.1 (B + 85) z = M1.1 (B + 85) z) →
    G E B cX7_turns (RX7, 5, none, rmD 0, 0, 0, KM E B (Rv (fun M2 => (∀ j, j < n → M2.1 (B + 85) (12 * q + j) = nI (turnW n w j)) ∧ (∀ z, (z < 12 * q ∨ 12 * q + 12 ≤ z) → M2.1 (B + 85) z = M1.1 (B + 85) z) ∧ Fk B M1 M2 [85] []))) 11 [(0, .ref (B + 80)), (1, .int (nI q)), (2, .int (nI i)), (3, .int (nI (n - 1 - i)))] [] M' := by
  intro m
  induction m with
  | zero =>
    intro i h1 h2 M' hF hI hz
    refine g_iload_n dX7_turns_11 rfl rfl ?_
    refine g_iload_n dX7_turns_12 rfl rfl ?_
    refine g_icmp_geN (tgt := 73) dX7_turns_13 (by decide) rfl rfl (by omega) (by omega) (fun c_13 => ?_) (fun c_13 => absurd c_13 (by omega))
    refine g_vret dX7_turns_73 ⟨rfl, ?_⟩
    refine ⟨fun j hj => ?_, hz, hF⟩
    rw [hI j hj]
    unfold turnW
    rw [if_pos hj]
    split
    · rfl
    · rw [show n - 1 - j = j by omega]
  | succ m ih =>
    intro i h1 h2 M' hF hI hz
    refine g_iload_n dX7_turns_11 rfl rfl ?_
    refine g_iload_n dX7_turns_12 rfl rfl ?_
    refine g_icmp_geN (tgt := 73) dX7_turns_13 (by decide) rfl rfl (by omega) (by omega) (fun c_13 => absurd c_13 (by omega)) (fun c_13 => ?_)
    refine g_aload_n dX7_turns_16 rfl rfl ?_
    refine g_getR dX7_turns_17 fl_X7_38 rfl rfl ?_
    refine g_bipush dX7_turns_20 kB_12 ?_
    refine g_iload_n dX7_turns_22 rfl rfl ?_
    refine g_imul dX7_turns_23 (pk_mul _ _) ?_
    refine g_iload_n dX7_turns_24 rfl rfl ?_
    refine g_iadd dX7_turns_25 (nI_add _ _) ?_
    refine g_iald dX7_turns_26 rfl rfl (by omega) (hI i (by omega)) ?_
    refine g_istore dX7_turns_27 (lt_r rfl) rfl ?_
    refine g_aload_n dX7_turns_29 rfl rfl ?_
    refine g_getR dX7_turns_30 fl_X7_38 rfl rfl ?_
    refine g_bipush dX7_turns_33 kB_12 ?_
    refine g_iload_n dX7_turns_35 rfl rfl ?_
    refine g_imul dX7_turns_36 (pk_mul _ _) ?_
    refine g_iload_n dX7_turns_37 rfl rfl ?_
    refine g_iadd dX7_turns_38 (nI_add _ _) ?_
    refine g_aload_n dX7_turns_39 rfl rfl ?_
    refine g_getR dX7_turns_40 fl_X7_38 rfl rfl ?_
    refine g_bipush dX7_turns_43 kB_12 ?_
    refine g_iload_n dX7_turns_45 rfl rfl ?_
    refine g_imul dX7_turns_46 (pk_mul _ _) ?_
    refine g_iload_n dX7_turns_47 rfl rfl ?_
    refine g_iadd dX7_turns_48 (nI_add _ _) ?_
    refine g_iald dX7_turns_49 rfl rfl (by omega) (hI (n - 1 - i) (by omega)) ?_
    refine g_iast dX7_turns_50 rfl rfl (by omega) ?_
    refine g_aload_n dX7_turns_51 rfl rfl ?_
    refine g_getR dX7_turns_52 fl_X7_38 rfl rfl ?_
    refine g_bipush dX7_turns_55 kB_12 ?_
    refine g_iload_n dX7_turns_57 rfl rfl ?_
    refine g_imul dX7_turns_58 (pk_mul _ _) ?_
    refine g_iload_n dX7_turns_59 rfl rfl ?_
    refine g_iadd dX7_turns_60 (nI_add _ _) ?_
    refine g_iload dX7_turns_61 rfl ?_
    refine g_iast dX7_turns_63 rfl rfl (by omega) ?_
    refine g_iinc dX7_turns_64 rfl (inc_nI _) rfl ?_
    refine g_iinc dX7_turns_67 rfl (dec_nI (by omega)) rfl ?_
    refine g_goto (tgt := 11) dX7_turns_70 (by decide) ?_
    exact g_le (lvLe_c rfl (lvLe_c rfl (lvLe_c rfl (lvLe_c (by show some (Value.int (nI (n - 1 - i - 1))) = _; rw [show n - 1 - i - 1 = n - 1 - (i + 1) by omega]) lvLe_0)))) (ih (i + 1) (by omega) h2 _ ((hF.tr (Fk.pi (by decide) (by decide))).tr (Fk.pi (by decide) (by decide))) (fun j hj => by
      rw [upI_at, upI_at, hI j hj]
      by_cases e1 : j = n - 1 - i
      · rw [if_pos (by omega), if_neg (by omega), if_pos (by omega), show n - 1 - j = i by omega]
      · rw [if_neg (by omega)]
        by_cases e2 : j = i
        · rw [if_pos (by omega), if_neg (by omega), if_pos (by omega), e2]
        · rw [if_neg (by omega)]
          by_cases e3 : j < i ∨ n - 1 - j < i
          · rw [if_pos e3, if_pos (by omega)]
          · rw [if_neg e3, if_neg (by omega)]) (fun z h9 => by rw [upI_k (by omega), upI_k (by omega)]; exact hz z h9))
theorem ct_turns {s : St} {q : Nat} (h : RN B M s) (ho : okSt s) (hq : q < sCn s) : Ct E B yX7_turns cX7_turns 5 none 0 [.ref (B + 80), .int (nI q)] M (Rv (fun M2 => RN B M2 (turnS s q) ∧ Fk B M M2 [85] [])) := by
  have hcn := ho.2.2.1
  have h12 := (ho.1 q hq).2.2.1
  have hW : ∀ M2 : MM, (∀ j, j < (sBs s q).2.2.1 → M2.1 (B + 85) (12 * q + j) = nI (turnW (sBs s q).2.2.1 (sBs s q).2.2.2 j)) ∧ (∀ z, (z < 12 * q ∨ 12 * q + 12 ≤ z) → M2.1 (B + 85) z = M.1 (B + 85) z) ∧ Fk B M M2 [85] [] → RN B M2 (turnS s q) ∧ Fk B M M2 [85] [] := fun M2 z => ⟨h.row ho hq z.2.2 z.1 z.2.1, z.2.2⟩
  refine Ct.weaken (F := Rv (fun M2 => (∀ j, j < (sBs s q).2.2.1 → M2.1 (B + 85) (12 * q + j) = nI (turnW (sBs s q).2.2.1 (sBs s q).2.2.2 j)) ∧ (∀ z, (z < 12 * q ∨ 12 * q + 12 ≤ z) → M2.1 (B + 85) z = M.1 (B + 85) z) ∧ Fk B M M2 [85] [])) ?_ (fun r M' hr => ⟨hr.1, hW M' hr.2⟩)
  refine Ct.of2 (own := RX7) (lv := [(0, .ref (B + 80)), (1, .int (nI q))]) pn_X7 rfl (Nat.le_of_ble_eq_true rfl) rfl ?_
  by_cases h0 : (sBs s q).2.2.1 = 0
  · refine g_iconst dX7_turns_0 kI_0 ?_
    refine g_istore_n dX7_turns_1 rfl (lt_r rfl) rfl ?_
    refine g_aload_n dX7_turns_2 rfl rfl ?_
    refine g_getR dX7_turns_3 fl_X7_35 rfl rfl ?_
    refine g_iload_n dX7_turns_6 rfl rfl ?_
    refine g_iald dX7_turns_7 rfl rfl (by omega) ((h.1 q hq).2.2.1) ?_
    refine g_iconst dX7_turns_8 kI_1 ?_
    refine g_isub dX7_turns_9 ((by rw [h0]; decide : _ = (-1 : Int32))) ?_
    refine g_istore_n dX7_turns_10 rfl (lt_r rfl) rfl ?_
    refine g_iload_n dX7_turns_11 rfl rfl ?_
    refine g_iload_n dX7_turns_12 rfl rfl ?_
    refine g_icmp_ge (tgt := 73) dX7_turns_13 (by decide) (fun c_13 => ?_) (fun c_13 => absurd (show (-1 : Int32) ≤ nI 0 by decide) c_13)
    refine g_vret dX7_turns_73 ⟨rfl, ?_⟩
    exact ⟨fun j hj => by omega, fun z _ => rfl, Fk.rf⟩
  · refine g_iconst dX7_turns_0 kI_0 ?_
    refine g_istore_n dX7_turns_1 rfl (lt_r rfl) rfl ?_
    refine g_aload_n dX7_turns_2 rfl rfl ?_
    refine g_getR dX7_turns_3 fl_X7_35 rfl rfl ?_
    refine g_iload_n dX7_turns_6 rfl rfl ?_
    refine g_iald dX7_turns_7 rfl rfl (by omega) ((h.1 q hq).2.2.1) ?_
    refine g_iconst dX7_turns_8 kI_1 ?_
    refine g_isub dX7_turns_9 (pk_sub (by omega)) ?_
    refine g_istore_n dX7_turns_10 rfl (lt_r rfl) rfl ?_
    exact g_le (lvLe_c rfl (lvLe_c rfl (lvLe_c rfl (lvLe_c rfl lvLe_0)))) (lp_turns (by omega) h12 ((sBs s q).2.2.1 / 2) 0 rfl (by omega) M Fk.rf (fun j hj => by rw [if_neg (by omega)]; exact (h.1 q hq).2.2.2 j hj) (fun z _ => rfl))
theorem mx_turn {y : Sys} {b : Int32} (h : RM B M y) (ho : okY y) : Ct E B yX7_turn cX7_turn 2 (some .int) 1 [.ref (B + 80), .int b] M (QM B M (o_turn y b)) := by
  have hcn := ho.2.1.2.2.1
  refine Ct.of2 (own := RX7) (lv := [(0, .ref (B + 80)), (1, .int b)]) pn_X7 rfl (Nat.le_of_ble_eq_true rfl) rfl ?_
  refine g_aload_n dX7_turn_0 rfl rfl ?_
  refine g_iload_n dX7_turn_1 rfl rfl ?_
  refine g_callVp dX7_turn_2 mi_X7_isBiscuit ml_X7_93 (ct_X7_isBiscuit h.2.1) rfl rfl rfl rfl (Nat.le_of_ble_eq_true rfl) ⟨lt_r rfl, Nat.le_of_ble_eq_true rfl⟩ ?_
  refine g_if_neP (tgt := 14) dX7_turn_5 (by decide) (fun c_5 => ?_) (fun c_5 => ?_)
  · have e9 : o_turn y b = _ := if_neg (fun z => z c_5)
    rw [e9]
    obtain ⟨q, hq, rfl, f1⟩ := in_b hcn c_5
    rw [f1]
    refine g_aload_n dX7_turn_14 rfl rfl ?_
    refine g_iload_n dX7_turn_15 rfl rfl ?_
    refine g_callVv dX7_turn_16 mi_X7_turns ml_X7_269 (ct_turns h.2.1 ho.2.1 hq) rfl rfl rfl rfl (Nat.le_of_ble_eq_true rfl) ⟨lt_r rfl, Nat.le_of_ble_eq_true rfl⟩ (fun M16 h16 => ?_)
    refine g_aload_n dX7_turn_19 rfl rfl ?_
    refine g_getR dX7_turn_20 fl_X7_35 rfl rfl ?_
    refine g_iload_n dX7_turn_23 rfl rfl ?_
    refine g_iald dX7_turn_24 rfl rfl (by omega) ((congrFun (h16.2.i (by decide) (by decide)) _).trans (h.2.1.1 q hq).2.2.1) ?_
    refine g_iret dX7_turn_25 ⟨_, rfl, ?_⟩
    exact ⟨rfl, h.n h16.2 (by decide) (by decide) h16.1, h16.2.sm (by decide)⟩
  · refine g_aload_n dX7_turn_8 rfl rfl ?_
    refine g_iconst dX7_turn_9 kI_m1 ?_
    refine g_callVi dX7_turn_10 mi_X7_no ml_X7_100 (ct_no (w := 1) h (by decide) (by decide)) rfl rfl rfl rfl (Nat.le_of_ble_eq_true rfl) ⟨lt_r rfl, Nat.le_of_ble_eq_true rfl⟩ (fun x10 M10 h10 => ?_)
    refine g_iret dX7_turn_13 ⟨_, rfl, ?_⟩
    exact QM.rf (if_pos c_5) h10
theorem tl_mtea {s : St} {n i : Nat} {x2 : Int32} {M0 : MM} {F : Option Value → MM → Prop} (h : RN B M s) (ho : okSt s) (hz : 0 < sCn s) (hF : Fk B M0 M tA tJ)
    (hend : ∀ M2, RN B M2 (teaS s).2 → Fk B M0 M2 tA tJ → G E B cX7_teas (RX7, 6, some .int, rmD 6, 0, 0, KM E B F) 117 [(0, .ref (B + 80)), (1, .int (nI n)), (2, .int x2), (3, .int (nI i))] [] M2) :
    G E B cX7_teas (RX7, 6, some .int, rmD 6, 0, 0, KM E B F) 44 [(0, .ref (B + 80)), (1, .int (nI n)), (2, .int x2), (3, .int (nI i))] [] M := by
  have hc := ho.2.2.1
  have hq := (draw_ok (sd := sSd s) hz (by omega)).2
  have hob := ho.1 _ hq
  have hn := hob.2.2.1
  refine g_aload_n dX7_teas_44 rfl rfl ?_
  refine g_aload_n dX7_teas_45 rfl rfl ?_
  refine g_getI dX7_teas_46 fl_X7_90 rfl rfl (h.2.2.1) ?_
  refine g_callVi dX7_teas_49 mi_X7_draw ml_X7_276 (ct_mdraw h hz (by omega)) rfl rfl rfl rfl (Nat.le_of_ble_eq_true rfl) ⟨lt_r rfl, Nat.le_of_ble_eq_true rfl⟩ (fun x49 M49 h49 => ?_)
  obtain ⟨rfl, a1, a2⟩ := h49
  have ho1 := okS' a1 ho
  have hF1 := hF.tr a2
  refine g_istore dX7_teas_52 (lt_r rfl) rfl ?_
  refine g_aload_n dX7_teas_54 rfl rfl ?_
  refine g_getR dX7_teas_55 fl_X7_35 rfl rfl ?_
  refine g_iload dX7_teas_58 rfl ?_
  refine g_iald dX7_teas_60 rfl rfl (by omega) (show M49.1 (B + 84) (drawN (sSd s) (sCn s)) = nI (sBs s (drawN (sSd s) (sCn s))).2.2.1 from (a1.1 _ hq).2.2.1) ?_
  refine g_if_neN (tgt := 67) dX7_teas_61 (by decide) rfl (by omega) (fun c_61 => ?_) (fun c_61 => ?_)
  · refine g_aload_n dX7_teas_67 rfl rfl ?_
    refine g_aload_n dX7_teas_68 rfl rfl ?_
    refine g_getR dX7_teas_69 fl_X7_35 rfl rfl ?_
    refine g_iload dX7_teas_72 rfl ?_
    refine g_iald dX7_teas_74 rfl rfl (by omega) (show M49.1 (B + 84) (drawN (sSd s) (sCn s)) = nI (sBs s (drawN (sSd s) (sCn s))).2.2.1 from (a1.1 _ hq).2.2.1) ?_
    refine g_iconst dX7_teas_75 kI_1 ?_
    refine g_iadd dX7_teas_76 (nI_add _ _) ?_
    refine g_callVi dX7_teas_77 mi_X7_draw ml_X7_276 (ct_mdraw (n := (sBs s (drawN (sSd s) (sCn s))).2.2.1 + 1) a1 (by omega) (by omega)) rfl rfl rfl rfl (Nat.le_of_ble_eq_true rfl) ⟨lt_r rfl, Nat.le_of_ble_eq_true rfl⟩ (fun x77 M77 h77 => ?_)
    obtain ⟨rfl, b1, b2⟩ := h77
    have ho2 := okS' b1 ho1
    have hF2 := hF1.tr b2
    have hd := (draw_ok (sd := sSd (seedS s (nextI (sSd s)))) (n := (sBs s (drawN (sSd s) (sCn s))).2.2.1 + 1) (Nat.succ_pos _) (by omega)).2
    refine g_istore dX7_teas_80 (lt_r rfl) rfl ?_
    refine g_aload_n dX7_teas_82 rfl rfl ?_
    refine g_iload dX7_teas_83 rfl ?_
    refine g_iload dX7_teas_85 rfl ?_
    refine g_aload_n dX7_teas_87 rfl rfl ?_
    refine g_bipush dX7_teas_88 kB_10 ?_
    refine g_callVi dX7_teas_90 mi_X7_draw ml_X7_276 (ct_mdraw b1 (by decide) (by decide)) rfl rfl rfl rfl (Nat.le_of_ble_eq_true rfl) ⟨lt_r rfl, Nat.le_of_ble_eq_true rfl⟩ (fun x90 M90 h90 => ?_)
    obtain ⟨rfl, d1, d2⟩ := h90
    have ho3 := okS' d1 ho2
    have hF3 := hF2.tr d2
    have ht := (draw_ok (sd := sSd (seedS (seedS s (nextI (sSd s))) (nextI (sSd (seedS s (nextI (sSd s))))))) (n := 10) (by decide) (by decide)).2
    refine g_callVi dX7_teas_93 mi_X7_dips ml_X7_151 (ct_mdips d1 ho3 hq (by omega) (by omega)) rfl rfl rfl rfl (Nat.le_of_ble_eq_true rfl) ⟨lt_r rfl, Nat.le_of_ble_eq_true rfl⟩ (fun x93 M93 h93 => ?_)
    obtain ⟨rfl, j1, j2⟩ := h93
    have ho4 := okD' j1 ho3 hq
    have hF4 := hF3.tr j2
    refine g_pop dX7_teas_96 rfl ?_
    refine g_aload_n dX7_teas_97 rfl rfl ?_
    refine g_iload dX7_teas_98 rfl ?_
    refine g_aload_n dX7_teas_100 rfl rfl ?_
    refine g_bipush dX7_teas_101 kB_6 ?_
    refine g_callVi dX7_teas_103 mi_X7_draw ml_X7_276 (ct_mdraw j1 (by decide) (by decide)) rfl rfl rfl rfl (Nat.le_of_ble_eq_true rfl) ⟨lt_r rfl, Nat.le_of_ble_eq_true rfl⟩ (fun x103 M103 h103 => ?_)
    obtain ⟨rfl, l1, l2⟩ := h103
    have ho5 := okS' l1 ho4
    have hF5 := hF4.tr l2
    refine g_callVi dX7_teas_106 mi_X7_carriesOff ml_X7_266 (ct_carriesOff l1 ho5 hq (draw6 _)) rfl rfl rfl rfl (Nat.le_of_ble_eq_true rfl) ⟨lt_r rfl, Nat.le_of_ble_eq_true rfl⟩ (fun x106 M106 h106 => ?_)
    obtain ⟨rfl, m1, m2⟩ := h106
    have ho6 := okC' m1 ho5 hq
    have hF6 := hF5.tr m2
    refine g_pop dX7_teas_109 rfl ?_
    refine g_aload_n dX7_teas_110 rfl rfl ?_
    refine g_iload dX7_teas_111 rfl ?_
    refine g_callVi dX7_teas_113 mi_X7_eaten ml_X7_272 (ct_eaten m1 ho6 hq) rfl rfl rfl rfl (Nat.le_of_ble_eq_true rfl) ⟨lt_r rfl, Nat.le_of_ble_eq_true rfl⟩ (fun x113 M113 h113 => ?_)
    obtain ⟨rfl, n1, n2⟩ := h113
    refine g_pop dX7_teas_116 rfl ?_
    first | (have c9 : (sBs s (drawN (sSd s) (sCn s))).2.2.1 = 0 := c_61; have e : teaS s = (0, seedS s (nextI (sSd s))) := if_pos c9; rw [e] at hend; exact g_le (lvLe_c rfl (lvLe_c rfl (lvLe_c rfl (lvLe_c rfl lvLe_0)))) (hend M49 a1 hF1)) | (have e : teaS s = _ := if_neg (show ¬ (sBs s (drawN (sSd s) (sCn s))).2.2.1 = 0 by omega); rw [e] at hend; exact g_le (lvLe_c rfl (lvLe_c rfl (lvLe_c rfl (lvLe_c rfl lvLe_0)))) (hend M113 n1 (hF6.tr n2)))
  · refine g_goto (tgt := 117) dX7_teas_64 (by decide) ?_
    first | (have c9 : (sBs s (drawN (sSd s) (sCn s))).2.2.1 = 0 := c_61; have e : teaS s = (0, seedS s (nextI (sSd s))) := if_pos c9; rw [e] at hend; exact g_le (lvLe_c rfl (lvLe_c rfl (lvLe_c rfl (lvLe_c rfl lvLe_0)))) (hend M49 a1 hF1)) | (have e : teaS s = _ := if_neg (show ¬ (sBs s (drawN (sSd s) (sCn s))).2.2.1 = 0 by omega); rw [e] at hend; exact g_le (lvLe_c rfl (lvLe_c rfl (lvLe_c rfl (lvLe_c rfl lvLe_0)))) (hend M113 n1 (hF6.tr n2)))
theorem lp_mteas {y : Sys} {n : Nat} {M0 : MM} (h : RM B M0 y) (ho : okY y) (hz : 0 < sCn (yN y)) (hn : n ≤ 20) : ∀ (m i : Nat), m + i = n → ∀ M', RN B M' (teasF (yN y) i).2 → Fk B M0 M' tA tJ →
    G E B cX7_teas (RX7, 6, some .int, rmD 6, 0, 0, KM E B (QM B M0 (nI (teasF (yN y) n).1, setN y (teasF (yN y) n).2))) 39 [(0, .ref (B + 80)), (1, .int (nI n)), (2, .int (sPl (yN y))), (3, .int (nI i))] [] M' := by
  intro m
  induction m with
  | zero =>
    intro i h1 M' hR hF
    refine g_iload_n dX7_teas_39 rfl rfl ?_
    refine g_iload_n dX7_teas_40 rfl rfl ?_
    refine g_icmp_geN (tgt := 123) dX7_teas_41 (by decide) rfl rfl (by omega) (by omega) (fun c_41 => ?_) (fun c_41 => absurd c_41 (by omega))
    refine g_aload_n dX7_teas_123 rfl rfl ?_
    refine g_getI dX7_teas_124 fl_X7_161 rfl rfl (hR.2.2.2.2.2.2.2.1) ?_
    refine g_iload_n dX7_teas_127 rfl rfl ?_
    refine g_isub dX7_teas_128 rfl ?_
    refine g_iret dX7_teas_129 ⟨_, rfl, ?_⟩
    have e : i = n := by omega
    subst e
    exact ⟨by show sPl (teasF (yN y) i).2 - sPl (yN y) = nI (teasF (yN y) i).1; rw [pl_teas, Int32.add_comm, Int32.add_sub_cancel], h.t hF hR⟩
  | succ m ih =>
    intro i h1 M' hR hF
    obtain ⟨k1, k2⟩ := ok_teas ho.2.1 hz i
    refine g_iload_n dX7_teas_39 rfl rfl ?_
    refine g_iload_n dX7_teas_40 rfl rfl ?_
    refine g_icmp_geN (tgt := 123) dX7_teas_41 (by decide) rfl rfl (by omega) (by omega) (fun c_41 => absurd c_41 (by omega)) (fun c_41 => ?_)
    refine g_le (lvLe_c rfl (lvLe_c rfl (lvLe_c rfl (lvLe_c rfl lvLe_0)))) (tl_mtea hR k1 (by omega) hF (fun M2 a1 a2 => ?_))
    refine g_iinc dX7_teas_117 rfl (inc_nI _) rfl ?_
    refine g_goto (tgt := 39) dX7_teas_120 (by decide) ?_
    exact g_le (lvLe_c rfl (lvLe_c rfl (lvLe_c rfl (lvLe_c rfl lvLe_0)))) (ih (i + 1) (by omega) M2 a1 a2)
theorem mx_teas {y : Sys} {n : Int32} (h : RM B M y) (ho : okY y) : Ct E B yX7_teas cX7_teas 6 (some .int) 6 [.ref (B + 80), .int n] M (QM B M (o_teas y n)) := by
  have hcn := ho.2.1.2.2.1
  refine Ct.of2 (own := RX7) (lv := [(0, .ref (B + 80)), (1, .int n)]) pn_X7 rfl (Nat.le_of_ble_eq_true rfl) rfl ?_
  refine g_aload_n dX7_teas_0 rfl rfl ?_
  refine g_getI dX7_teas_1 fl_X7_90 rfl rfl (h.2.1.2.2.1) ?_
  refine g_if_neN (tgt := 14) dX7_teas_4 (by decide) rfl (by omega) (fun c_4 => ?_) (fun c_4 => ?_)
  · refine g_iload_n dX7_teas_14 rfl rfl ?_
    refine g_iconst dX7_teas_15 kI_1 ?_
    refine g_icmp_lt (tgt := 25) dX7_teas_16 (by decide) (fun c_16 => ?_) (fun c_16 => ?_)
    · refine g_aload_n dX7_teas_25 rfl rfl ?_
      refine g_bipush dX7_teas_26 kB_m6 ?_
      refine g_callVi dX7_teas_28 mi_X7_no ml_X7_100 (ct_no (w := 6) h (by decide) (by decide)) rfl rfl rfl rfl (Nat.le_of_ble_eq_true rfl) ⟨lt_r rfl, Nat.le_of_ble_eq_true rfl⟩ (fun x28 M28 h28 => ?_)
      refine g_iret dX7_teas_31 ⟨_, rfl, ?_⟩
      first | exact QM.rf (by unfold o_teas; rw [if_neg (by omega), if_pos (fun z => Int32.not_lt.mpr z.1 c_16)]) h28 | exact QM.rf (by unfold o_teas; rw [if_neg (by omega), if_pos (fun z => c_22 z.2)]) h28
    · refine g_iload_n dX7_teas_19 rfl rfl ?_
      refine g_bipush dX7_teas_20 kB_20 ?_
      refine g_icmp_le (tgt := 32) dX7_teas_22 (by decide) (fun c_22 => ?_) (fun c_22 => ?_)
      · have k1 : nI 1 ≤ n ∧ n ≤ nI 20 := ⟨Int32.not_lt.mp c_16, c_22⟩
        have e9 : o_teas y n = _ := (if_neg (show ¬ sCn (yN y) = 0 by omega)).trans (if_neg (fun z => z k1))
        rw [e9]
        obtain ⟨m, -, hm, rfl, f1⟩ := btw_n (by decide) (by decide) k1
        rw [f1]
        refine g_aload_n dX7_teas_32 rfl rfl ?_
        refine g_getI dX7_teas_33 fl_X7_161 rfl rfl (h.2.1.2.2.2.2.2.2.2.1) ?_
        refine g_istore_n dX7_teas_36 rfl (lt_r rfl) rfl ?_
        refine g_iconst dX7_teas_37 kI_0 ?_
        refine g_istore_n dX7_teas_38 rfl (lt_r rfl) rfl ?_
        exact g_le (lvLe_c rfl (lvLe_c rfl (lvLe_c rfl (lvLe_c rfl lvLe_0)))) (lp_mteas h ho (by omega) hm m 0 rfl M h.2.1 Fk.rf)
      · refine g_aload_n dX7_teas_25 rfl rfl ?_
        refine g_bipush dX7_teas_26 kB_m6 ?_
        refine g_callVi dX7_teas_28 mi_X7_no ml_X7_100 (ct_no (w := 6) h (by decide) (by decide)) rfl rfl rfl rfl (Nat.le_of_ble_eq_true rfl) ⟨lt_r rfl, Nat.le_of_ble_eq_true rfl⟩ (fun x28 M28 h28 => ?_)
        refine g_iret dX7_teas_31 ⟨_, rfl, ?_⟩
        first | exact QM.rf (by unfold o_teas; rw [if_neg (by omega), if_pos (fun z => Int32.not_lt.mpr z.1 c_16)]) h28 | exact QM.rf (by unfold o_teas; rw [if_neg (by omega), if_pos (fun z => c_22 z.2)]) h28
  · refine g_aload_n dX7_teas_7 rfl rfl ?_
    refine g_bipush dX7_teas_8 kB_m5 ?_
    refine g_callVi dX7_teas_10 mi_X7_no ml_X7_100 (ct_no (w := 5) h (by decide) (by decide)) rfl rfl rfl rfl (Nat.le_of_ble_eq_true rfl) ⟨lt_r rfl, Nat.le_of_ble_eq_true rfl⟩ (fun x10 M10 h10 => ?_)
    refine g_iret dX7_teas_13 ⟨_, rfl, ?_⟩
    exact QM.rf (if_pos (by omega)) h10
theorem ct_body {T : Tr} {b : Nat} (h : RTm B M T) (hT : T.1 < 1000) : Ct E B yX7_body cX7_body 2 none 0 [.ref (B + 80), .int (nI b)] M (Rv (fun M2 => RTm B M2 (tb T b) ∧ Fk B M M2 [101] [41])) := by
  obtain ⟨h4, h5⟩ := h
  refine Ct.of2 (own := RX7) (lv := [(0, .ref (B + 80)), (1, .int (nI b))]) pn_X7 rfl (Nat.le_of_ble_eq_true rfl) rfl ?_
  refine g_aload_n dX7_body_0 rfl rfl ?_
  refine g_getI dX7_body_1 fl_X7_279 rfl rfl (h4) ?_
  refine g_bipush dX7_body_4 kB_20 ?_
  refine g_icmp_geN (tgt := 19) dX7_body_6 (by decide) rfl rfl (by omega) (by omega) (fun c_6 => ?_) (fun c_6 => ?_)
  · refine g_aload_n dX7_body_19 rfl rfl ?_
    refine g_dup dX7_body_20 rfl ?_
    refine g_getI dX7_body_21 fl_X7_279 rfl rfl ((by first | exact h4 | exact (congrFun (upI_ap (by decide)) 41).trans h4 : _ = nI T.1)) ?_
    refine g_iconst dX7_body_24 kI_1 ?_
    refine g_iadd dX7_body_25 (nI_add _ _) ?_
    refine g_putI dX7_body_26 fp_X7_279 rfl rfl ?_
    refine g_vret dX7_body_29 ⟨rfl, ?_⟩
    refine ⟨⟨upI_s, fun i hi hi2 => ?_⟩, ?_⟩
    · have hi : i < T.1 + 1 := hi
      rw [upI_ap (by decide), tb_at hi hi2]
      first | (rw [upI_at]; split <;> first | rfl | exact h5 i (by omega) hi2) | (rw [if_neg (by omega)]; exact h5 i (by omega) hi2)
    · first | exact Fk.tr (Fk.pi (by decide) (by decide)) (Fk.pj (by decide)) | exact Fk.pj (by decide)
  · refine g_aload_n dX7_body_9 rfl rfl ?_
    refine g_getR dX7_body_10 fl_X7_87 rfl rfl ?_
    refine g_aload_n dX7_body_13 rfl rfl ?_
    refine g_getI dX7_body_14 fl_X7_279 rfl rfl (h4) ?_
    refine g_iload_n dX7_body_17 rfl rfl ?_
    refine g_iast dX7_body_18 rfl rfl (by omega) ?_
    refine g_aload_n dX7_body_19 rfl rfl ?_
    refine g_dup dX7_body_20 rfl ?_
    refine g_getI dX7_body_21 fl_X7_279 rfl rfl ((by first | exact h4 | exact (congrFun (upI_ap (by decide)) 41).trans h4 : _ = nI T.1)) ?_
    refine g_iconst dX7_body_24 kI_1 ?_
    refine g_iadd dX7_body_25 (nI_add _ _) ?_
    refine g_putI dX7_body_26 fp_X7_279 rfl rfl ?_
    refine g_vret dX7_body_29 ⟨rfl, ?_⟩
    refine ⟨⟨upI_s, fun i hi hi2 => ?_⟩, ?_⟩
    · have hi : i < T.1 + 1 := hi
      rw [upI_ap (by decide), tb_at hi hi2]
      first | (rw [upI_at]; split <;> first | rfl | exact h5 i (by omega) hi2) | (rw [if_neg (by omega)]; exact h5 i (by omega) hi2)
    · first | exact Fk.tr (Fk.pi (by decide) (by decide)) (Fk.pj (by decide)) | exact Fk.pj (by decide)
theorem mx_trace {y : Sys} {i : Int32} (h : RM B M y) (ho : okY y) : Ct E B yX7_trace cX7_trace 2 (some .int) 1 [.ref (B + 80), .int i] M (QM B M (o_trace y i)) := by
  have hT := ho.2.2.2
  refine Ct.of2 (own := RX7) (lv := [(0, .ref (B + 80)), (1, .int i)]) pn_X7 rfl (Nat.le_of_ble_eq_true rfl) rfl ?_
  refine g_iload_n dX7_trace_0 rfl rfl ?_
  refine g_if_lt (tgt := 27) dX7_trace_1 (by decide) (fun c_1 => ?_) (fun c_1 => ?_)
  · refine g_iconst dX7_trace_27 kI_m1 ?_
    refine g_iret dX7_trace_28 ⟨_, rfl, ?_⟩
    refine QM.p h ?_
    unfold o_trace
    first | (have c9 : i < 0 := c_1; rw [if_neg (fun z => Int32.not_lt.mpr z.1 c9)]) | (have c9 : nI (yT y).1 ≤ i := c_15; rw [if_neg (fun z => Int32.not_lt.mpr c9 z.2)]) | (have c9 : nI 20 ≤ i := c_7; rw [if_neg (fun z => by have a1 := Int32.lt_iff_toInt_lt.mp z.2; have a2 := Int32.le_iff_toInt_le.mp c9; rw [nI_toInt (by omega)] at a1; have e2 : (nI 20).toInt = 20 := rfl; omega)]) | rw [if_pos ⟨Int32.not_lt.mp c_1, Int32.not_le.mp c_15⟩, tn_nI (by omega)]
  · refine g_iload_n dX7_trace_4 rfl rfl ?_
    refine g_bipush dX7_trace_5 kB_20 ?_
    refine g_icmp_ge (tgt := 27) dX7_trace_7 (by decide) (fun c_7 => ?_) (fun c_7 => ?_)
    · refine g_iconst dX7_trace_27 kI_m1 ?_
      refine g_iret dX7_trace_28 ⟨_, rfl, ?_⟩
      refine QM.p h ?_
      unfold o_trace
      first | (have c9 : i < 0 := c_1; rw [if_neg (fun z => Int32.not_lt.mpr z.1 c9)]) | (have c9 : nI (yT y).1 ≤ i := c_15; rw [if_neg (fun z => Int32.not_lt.mpr c9 z.2)]) | (have c9 : nI 20 ≤ i := c_7; rw [if_neg (fun z => by have a1 := Int32.lt_iff_toInt_lt.mp z.2; have a2 := Int32.le_iff_toInt_le.mp c9; rw [nI_toInt (by omega)] at a1; have e2 : (nI 20).toInt = 20 := rfl; omega)]) | rw [if_pos ⟨Int32.not_lt.mp c_1, Int32.not_le.mp c_15⟩, tn_nI (by omega)]
    · refine g_iload_n dX7_trace_10 rfl rfl ?_
      refine g_aload_n dX7_trace_11 rfl rfl ?_
      refine g_getI dX7_trace_12 fl_X7_279 rfl rfl (h.2.2.2.2.2.2.1.1) ?_
      refine g_icmp_ge (tgt := 27) dX7_trace_15 (by decide) (fun c_15 => ?_) (fun c_15 => ?_)
      · refine g_iconst dX7_trace_27 kI_m1 ?_
        refine g_iret dX7_trace_28 ⟨_, rfl, ?_⟩
        refine QM.p h ?_
        unfold o_trace
        first | (have c9 : i < 0 := c_1; rw [if_neg (fun z => Int32.not_lt.mpr z.1 c9)]) | (have c9 : nI (yT y).1 ≤ i := c_15; rw [if_neg (fun z => Int32.not_lt.mpr c9 z.2)]) | (have c9 : nI 20 ≤ i := c_7; rw [if_neg (fun z => by have a1 := Int32.lt_iff_toInt_lt.mp z.2; have a2 := Int32.le_iff_toInt_le.mp c9; rw [nI_toInt (by omega)] at a1; have e2 : (nI 20).toInt = 20 := rfl; omega)]) | rw [if_pos ⟨Int32.not_lt.mp c_1, Int32.not_le.mp c_15⟩, tn_nI (by omega)]
      · obtain ⟨j, hj, rfl⟩ := in_nI (show (yT y).1 < 2 ^ 31 by omega) ⟨Int32.not_lt.mp c_1, Int32.not_le.mp c_15⟩
        refine g_aload_n dX7_trace_18 rfl rfl ?_
        refine g_getR dX7_trace_19 fl_X7_87 rfl rfl ?_
        refine g_iload_n dX7_trace_22 rfl rfl ?_
        refine g_iald dX7_trace_23 rfl rfl (by omega) (h.2.2.2.2.2.2.1.2 j hj (by omega)) ?_
        refine g_goto (tgt := 28) dX7_trace_24 (by decide) ?_
        refine g_iret dX7_trace_28 ⟨_, rfl, ?_⟩
        refine QM.p h ?_
        unfold o_trace
        first | (have c9 : i < 0 := c_1; rw [if_neg (fun z => Int32.not_lt.mpr z.1 c9)]) | (have c9 : nI (yT y).1 ≤ i := c_15; rw [if_neg (fun z => Int32.not_lt.mpr c9 z.2)]) | (have c9 : nI 20 ≤ i := c_7; rw [if_neg (fun z => by have a1 := Int32.lt_iff_toInt_lt.mp z.2; have a2 := Int32.le_iff_toInt_le.mp c9; rw [nI_toInt (by omega)] at a1; have e2 : (nI 20).toInt = 20 := rfl; omega)]) | rw [if_pos ⟨Int32.not_lt.mp c_1, Int32.not_le.mp c_15⟩, tn_nI (by omega)]
end X7M
