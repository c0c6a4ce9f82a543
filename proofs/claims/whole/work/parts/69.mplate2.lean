/-! the model: plate, the call -/
theorem nonneg_1 {w : Int32} (h : ¬ w < -1) : w = -1 ∨ 0 ≤ w := by
  by_cases c : 0 ≤ w
  · exact Or.inr c
  · refine Or.inl (Int32.toInt_inj.mp ?_)
    have h1 : ¬ w.toInt < (-1 : Int32).toInt := fun z => h (Int32.lt_iff_toInt_lt.mpr z)
    have h2 : ¬ (0 : Int32).toInt ≤ w.toInt := fun z => c (Int32.le_iff_toInt_le.mpr z)
    have e1 : (-1 : Int32).toInt = -1 := by decide
    have e0 : (0 : Int32).toInt = 0 := rfl
    rw [e1] at h1 ⊢
    rw [e0] at h2
    omega
theorem neg_in {w : Int32} (h : w < -1) (h2 : 0 ≤ w) : False := by
  rw [Int32.lt_iff_toInt_lt] at h
  rw [Int32.le_iff_toInt_le] at h2
  have e1 : (-1 : Int32).toInt = -1 := by decide
  have e0 : (0 : Int32).toInt = 0 := rfl
  omega
section X7V
variable {E : EE} {B : Nat} {M : MM}
theorem tl_mplate {y : Sys} {d s c : Nat} {w : Int32} {M0 : MM} {st : Nat × List Nat} (h : RM B M0 y) (ho : okY y) (hn5 : sCn (yN y) ≤ 5) (hw : w = -1 ∨ inB' y w) (hst : st = (recL (sCn (yN y)) (sCn (yN y)) []).foldl (stpL (platW y d s c) (sCn (yN y))) (0, [])) (hQ : QP B M0 (sCn (yN y)) 0 [] st M) :
    G E B cX7_plate (RX7, 5, some .int, rmD 11, 0, 0, KM E B (QM B M0 (if w = -1 then bI (platR y d s c).1 else nI ((platR y d s c).2 (tn w)), y))) 62 [(0, .ref (B + 80)), (4, .int w)] [] M := by
  have hpos : ¬ (platR y d s c).1 = 0 := ordR_pos 120 _ _ (fun z => by cases z)
  have hp := plat_eq (W := platW y d s c) (n := sCn (yN y)) (by omega)
  rw [← hst] at hp
  obtain ⟨p1, p2⟩ := hp
  have p1 : (platR y d s c).1 = st.1 := p1
  have p2 := p2 hpos
  obtain ⟨⟨q1, q2⟩, q3, q4, q5⟩ := hQ
  have hz : ¬ st.1 = 0 := by rw [← p1]; exact hpos
  refine g_iload dX7_plate_62 rfl ?_
  refine g_iconst dX7_plate_64 kI_m1 ?_
  refine g_icmp_ne (tgt := 75) dX7_plate_65 (by decide) (fun c_65 => ?_) (fun c_65 => ?_)
  · obtain ⟨j, hj, rfl, e1⟩ := in_b ho.2.1.2.2.1 (show 0 ≤ w ∧ w < nI (sCn (yN y)) from by first | exact hw.resolve_left c_65 | exact absurd c_65 c_65)
    refine g_aload_n dX7_plate_75 rfl rfl ?_
    refine g_getR dX7_plate_76 fl_X7_84 rfl rfl ?_
    refine g_iload dX7_plate_79 rfl ?_
    refine g_iald dX7_plate_81 rfl rfl (by omega) (q2 hz j hj) ?_
    refine g_iret dX7_plate_82 ⟨_, rfl, ?_⟩
    first | (have c9 : w = -1 := c_65; exact QM.s h (q5.up (by decide) (by decide)) (by rw [if_pos c9, p1])) | exact QM.s h (q5.up (by decide) (by decide)) (by rw [if_neg c_65, e1]; exact congrArg (fun z => (nI z, y)) (p2 j hj))
  · refine g_aload_n dX7_plate_68 rfl rfl ?_
    refine g_getI dX7_plate_69 fl_X7_243 rfl rfl (q1) ?_
    refine g_goto (tgt := 82) dX7_plate_72 (by decide) ?_
    refine g_iret dX7_plate_82 ⟨_, rfl, ?_⟩
    first | (have c9 : w = -1 := c_65; exact QM.s h (q5.up (by decide) (by decide)) (by rw [if_pos c9, p1])) | exact QM.s h (q5.up (by decide) (by decide)) (by rw [if_neg c_65, e1]; exact congrArg (fun z => (nI z, y)) (p2 j hj))
theorem tl_mplate_0 {y : Sys} {d s c : Nat} {w : Int32} {M0 : MM} (h : RM B M0 y) (ho : okY y) (hn : sCn (yN y) = 0) (hd : d ≤ 12) (hs : s ≤ 60) (hc : c ≤ 60) (hw : w = -1 ∨ inB' y w) (hF : Fk B M0 M plA plJ) (h39 : M.1 (B + 80) 39 = bI 0) :
    G E B cX7_plate (RX7, 5, some .int, rmD 11, 0, 0, KM E B (QM B M0 (if w = -1 then bI (platR y d s c).1 else nI ((platR y d s c).2 (tn w)), y))) 52 [(0, .ref (B + 80)), (1, .int (nI d)), (2, .int (nI s)), (3, .int (nI c)), (4, .int w)] [] M := by
  refine g_aload_n dX7_plate_52 rfl rfl ?_
  refine g_iconst dX7_plate_53 kI_0 ?_
  refine g_iconst dX7_plate_54 kI_0 ?_
  refine g_iconst dX7_plate_55 kI_0 ?_
  refine g_iload_n dX7_plate_56 rfl rfl ?_
  refine g_iload_n dX7_plate_57 rfl rfl ?_
  refine g_iload_n dX7_plate_58 rfl rfl ?_
  refine g_callVv dX7_plate_59 mi_X7_plates ml_X7_249 (ct_plates_0 (W := platW y d s c) (n := sCn (yN y)) (k := 0) (t := 0) (sm := 0) (pre := []) (st := (0, [])) (M0 := M0) h ho rfl (by omega) rfl hd hs hc (by omega) rfl rfl ⟨by decide, by decide⟩ rfl (by decide) ⟨⟨h39, fun z => absurd rfl z⟩, by decide, fun i hi => absurd hi (Nat.not_lt_zero i), hF⟩) rfl rfl rfl rfl (Nat.le_of_ble_eq_true rfl) ⟨lt_r rfl, Nat.le_of_ble_eq_true rfl⟩ (fun M59 h59 => ?_)
  exact g_le (lvLe_c rfl (lvLe_c rfl lvLe_0)) (tl_mplate (st := (recL (sCn (yN y)) 0 []).foldl (stpL (platW y d s c) (sCn (yN y))) (0, [])) h ho (by omega) hw (by rw [hn]) h59)
theorem tl_mplate_1 {y : Sys} {d s c : Nat} {w : Int32} {M0 : MM} (h : RM B M0 y) (ho : okY y) (hn : sCn (yN y) = 1) (hd : d ≤ 12) (hs : s ≤ 60) (hc : c ≤ 60) (hw : w = -1 ∨ inB' y w) (hF : Fk B M0 M plA plJ) (h39 : M.1 (B + 80) 39 = bI 0) :
    G E B cX7_plate (RX7, 5, some .int, rmD 11, 0, 0, KM E B (QM B M0 (if w = -1 then bI (platR y d s c).1 else nI ((platR y d s c).2 (tn w)), y))) 52 [(0, .ref (B + 80)), (1, .int (nI d)), (2, .int (nI s)), (3, .int (nI c)), (4, .int w)] [] M := by
  refine g_aload_n dX7_plate_52 rfl rfl ?_
  refine g_iconst dX7_plate_53 kI_0 ?_
  refine g_iconst dX7_plate_54 kI_0 ?_
  refine g_iconst dX7_plate_55 kI_0 ?_
  refine g_iload_n dX7_plate_56 rfl rfl ?_
  refine g_iload_n dX7_plate_57 rfl rfl ?_
  refine g_iload_n dX7_plate_58 rfl rfl ?_
  refine g_callVv dX7_plate_59 mi_X7_plates ml_X7_249 (ct_plates_1 (W := platW y d s c) (n := sCn (yN y)) (k := 0) (t := 0) (sm := 0) (pre := []) (st := (0, [])) (M0 := M0) h ho rfl (by omega) rfl hd hs hc (by omega) rfl rfl ⟨by decide, by decide⟩ rfl (by decide) ⟨⟨h39, fun z => absurd rfl z⟩, by decide, fun i hi => absurd hi (Nat.not_lt_zero i), hF⟩) rfl rfl rfl rfl (Nat.le_of_ble_eq_true rfl) ⟨lt_r rfl, Nat.le_of_ble_eq_true rfl⟩ (fun M59 h59 => ?_)
  exact g_le (lvLe_c rfl (lvLe_c rfl lvLe_0)) (tl_mplate (st := (recL (sCn (yN y)) 1 []).foldl (stpL (platW y d s c) (sCn (yN y))) (0, [])) h ho (by omega) hw (by rw [hn]) h59)
theorem tl_mplate_2 {y : Sys} {d s c : Nat} {w : Int32} {M0 : MM} (h : RM B M0 y) (ho : okY y) (hn : sCn (yN y) = 2) (hd : d ≤ 12) (hs : s ≤ 60) (hc : c ≤ 60) (hw : w = -1 ∨ inB' y w) (hF : Fk B M0 M plA plJ) (h39 : M.1 (B + 80) 39 = bI 0) :
    G E B cX7_plate (RX7, 5, some .int, rmD 11, 0, 0, KM E B (QM B M0 (if w = -1 then bI (platR y d s c).1 else nI ((platR y d s c).2 (tn w)), y))) 52 [(0, .ref (B + 80)), (1, .int (nI d)), (2, .int (nI s)), (3, .int (nI c)), (4, .int w)] [] M := by
  refine g_aload_n dX7_plate_52 rfl rfl ?_
  refine g_iconst dX7_plate_53 kI_0 ?_
  refine g_iconst dX7_plate_54 kI_0 ?_
  refine g_iconst dX7_plate_55 kI_0 ?_
  refine g_iload_n dX7_plate_56 rfl rfl ?_
  refine g_iload_n dX7_plate_57 rfl rfl ?_
  refine g_iload_n dX7_plate_58 rfl rfl ?_
  refine g_callVv dX7_plate_59 mi_X7_plates ml_X7_249 (ct_plates_2 (W := platW y d s c) (n := sCn (yN y)) (k := 0) (t := 0) (sm := 0) (pre := []) (st := (0, [])) (M0 := M0) h ho rfl (by omega) rfl hd hs hc (by omega) rfl rfl ⟨by decide, by decide⟩ rfl (by decide) ⟨⟨h39, fun z => absurd rfl z⟩, by decide, fun i hi => absurd hi (Nat.not_lt_zero i), hF⟩) rfl rfl rfl rfl (Nat.le_of_ble_eq_true rfl) ⟨lt_r rfl, Nat.le_of_ble_eq_true rfl⟩ (fun M59 h59 => ?_)
  exact g_le (lvLe_c rfl (lvLe_c rfl lvLe_0)) (tl_mplate (st := (recL (sCn (yN y)) 2 []).foldl (stpL (platW y d s c) (sCn (yN y))) (0, [])) h ho (by omega) hw (by rw [hn]) h59)
theorem tl_mplate_3 {y : Sys} {d s c : Nat} {w : Int32} {M0 : MM} (h : RM B M0 y) (ho : okY y) (hn : sCn (yN y) = 3) (hd : d ≤ 12) (hs : s ≤ 60) (hc : c ≤ 60) (hw : w = -1 ∨ inB' y w) (hF : Fk B M0 M plA plJ) (h39 : M.1 (B + 80) 39 = bI 0) :
    G E B cX7_plate (RX7, 5, some .int, rmD 11, 0, 0, KM E B (QM B M0 (if w = -1 then bI (platR y d s c).1 else nI ((platR y d s c).2 (tn w)), y))) 52 [(0, .ref (B + 80)), (1, .int (nI d)), (2, .int (nI s)), (3, .int (nI c)), (4, .int w)] [] M := by
  refine g_aload_n dX7_plate_52 rfl rfl ?_
  refine g_iconst dX7_plate_53 kI_0 ?_
  refine g_iconst dX7_plate_54 kI_0 ?_
  refine g_iconst dX7_plate_55 kI_0 ?_
  refine g_iload_n dX7_plate_56 rfl rfl ?_
  refine g_iload_n dX7_plate_57 rfl rfl ?_
  refine g_iload_n dX7_plate_58 rfl rfl ?_
  refine g_callVv dX7_plate_59 mi_X7_plates ml_X7_249 (ct_plates_3 (W := platW y d s c) (n := sCn (yN y)) (k := 0) (t := 0) (sm := 0) (pre := []) (st := (0, [])) (M0 := M0) h ho rfl (by omega) rfl hd hs hc (by omega) rfl rfl ⟨by decide, by decide⟩ rfl (by decide) ⟨⟨h39, fun z => absurd rfl z⟩, by decide, fun i hi => absurd hi (Nat.not_lt_zero i), hF⟩) rfl rfl rfl rfl (Nat.le_of_ble_eq_true rfl) ⟨lt_r rfl, Nat.le_of_ble_eq_true rfl⟩ (fun M59 h59 => ?_)
  exact g_le (lvLe_c rfl (lvLe_c rfl lvLe_0)) (tl_mplate (st := (recL (sCn (yN y)) 3 []).foldl (stpL (platW y d s c) (sCn (yN y))) (0, [])) h ho (by omega) hw (by rw [hn]) h59)
theorem tl_mplate_4 {y : Sys} {d s c : Nat} {w : Int32} {M0 : MM} (h : RM B M0 y) (ho : okY y) (hn : sCn (yN y) = 4) (hd : d ≤ 12) (hs : s ≤ 60) (hc : c ≤ 60) (hw : w = -1 ∨ inB' y w) (hF : Fk B M0 M plA plJ) (h39 : M.1 (B + 80) 39 = bI 0) :
    G E B cX7_plate (RX7, 5, some .int, rmD 11, 0, 0, KM E B (QM B M0 (if w = -1 then bI (platR y d s c).1 else nI ((platR y d s c).2 (tn w)), y))) 52 [(0, .ref (B + 80)), (1, .int (nI d)), (2, .int (nI s)), (3, .int (nI c)), (4, .int w)] [] M := by
  refine g_aload_n dX7_plate_52 rfl rfl ?_
  refine g_iconst dX7_plate_53 kI_0 ?_
  refine g_iconst dX7_plate_54 kI_0 ?_
  refine g_iconst dX7_plate_55 kI_0 ?_
  refine g_iload_n dX7_plate_56 rfl rfl ?_
  refine g_iload_n dX7_plate_57 rfl rfl ?_
  refine g_iload_n dX7_plate_58 rfl rfl ?_
  refine g_callVv dX7_plate_59 mi_X7_plates ml_X7_249 (ct_plates_4 (W := platW y d s c) (n := sCn (yN y)) (k := 0) (t := 0) (sm := 0) (pre := []) (st := (0, [])) (M0 := M0) h ho rfl (by omega) rfl hd hs hc (by omega) rfl rfl ⟨by decide, by decide⟩ rfl (by decide) ⟨⟨h39, fun z => absurd rfl z⟩, by decide, fun i hi => absurd hi (Nat.not_lt_zero i), hF⟩) rfl rfl rfl rfl (Nat.le_of_ble_eq_true rfl) ⟨lt_r rfl, Nat.le_of_ble_eq_true rfl⟩ (fun M59 h59 => ?_)
  exact g_le (lvLe_c rfl (lvLe_c rfl lvLe_0)) (tl_mplate (st := (recL (sCn (yN y)) 4 []).foldl (stpL (platW y d s c) (sCn (yN y))) (0, [])) h ho (by omega) hw (by rw [hn]) h59)
theorem tl_mplate_5 {y : Sys} {d s c : Nat} {w : Int32} {M0 : MM} (h : RM B M0 y) (ho : okY y) (hn : sCn (yN y) = 5) (hd : d ≤ 12) (hs : s ≤ 60) (hc : c ≤ 60) (hw : w = -1 ∨ inB' y w) (hF : Fk B M0 M plA plJ) (h39 : M.1 (B + 80) 39 = bI 0) :
    G E B cX7_plate (RX7, 5, some .int, rmD 11, 0, 0, KM E B (QM B M0 (if w = -1 then bI (platR y d s c).1 else nI ((platR y d s c).2 (tn w)), y))) 52 [(0, .ref (B + 80)), (1, .int (nI d)), (2, .int (nI s)), (3, .int (nI c)), (4, .int w)] [] M := by
  refine g_aload_n dX7_plate_52 rfl rfl ?_
  refine g_iconst dX7_plate_53 kI_0 ?_
  refine g_iconst dX7_plate_54 kI_0 ?_
  refine g_iconst dX7_plate_55 kI_0 ?_
  refine g_iload_n dX7_plate_56 rfl rfl ?_
  refine g_iload_n dX7_plate_57 rfl rfl ?_
  refine g_iload_n dX7_plate_58 rfl rfl ?_
  refine g_callVv dX7_plate_59 mi_X7_plates ml_X7_249 (ct_plates_5 (W := platW y d s c) (n := sCn (yN y)) (k := 0) (t := 0) (sm := 0) (pre := []) (st := (0, [])) (M0 := M0) h ho rfl (by omega) rfl hd hs hc (by omega) rfl rfl ⟨by decide, by decide⟩ rfl (by decide) ⟨⟨h39, fun z => absurd rfl z⟩, by decide, fun i hi => absurd hi (Nat.not_lt_zero i), hF⟩) rfl rfl rfl rfl (Nat.le_of_ble_eq_true rfl) ⟨lt_r rfl, Nat.le_of_ble_eq_true rfl⟩ (fun M59 h59 => ?_)
  exact g_le (lvLe_c rfl (lvLe_c rfl lvLe_0)) (tl_mplate (st := (recL (sCn (yN y)) 5 []).foldl (stpL (platW y d s c) (sCn (yN y))) (0, [])) h ho (by omega) hw (by rw [hn]) h59)
theorem mx_plate {y : Sys} {d s c w : Int32} (h : RM B M y) (ho : okY y) : Ct E B yX7_plate cX7_plate 5 (some .int) 11 [.ref (B + 80), .int d, .int s, .int c, .int w] M (QM B M (o_plate y d s c w)) := by
  have hcn := ho.2.1.2.2.1
  refine Ct.of2 (own := RX7) (lv := [(0, .ref (B + 80)), (1, .int d), (2, .int s), (3, .int c), (4, .int w)]) pn_X7 rfl (Nat.le_of_ble_eq_true rfl) rfl ?_
  refine g_iload dX7_plate_0 rfl ?_
  refine g_iconst dX7_plate_2 kI_m1 ?_
  refine g_icmp_lt (tgt := 15) dX7_plate_3 (by decide) (fun c_3 => ?_) (fun c_3 => ?_)
  · refine g_aload_n dX7_plate_15 rfl rfl ?_
    refine g_bipush dX7_plate_16 kB_m5 ?_
    refine g_callVi dX7_plate_18 mi_X7_no ml_X7_100 (ct_no (w := 5) h (by decide) (by decide)) rfl rfl rfl rfl (Nat.le_of_ble_eq_true rfl) ⟨lt_r rfl, Nat.le_of_ble_eq_true rfl⟩ (fun x18 M18 h18 => ?_)
    refine g_iret dX7_plate_21 ⟨_, rfl, ?_⟩
    first | (have c9 : w < -1 := c_3; exact QM.rf (if_pos ⟨fun z => by rw [z] at c9; exact absurd c9 (by decide), fun z => neg_in c9 z.1⟩) h18) | (have c9 : ¬ w < nI (sCn (yN y)) := c_12; exact QM.rf (if_pos ⟨fun z => c9 (by rw [z]; exact neg1_lt (by omega)), fun z => c9 z.2⟩) h18)
  · refine g_iload dX7_plate_6 rfl ?_
    refine g_aload_n dX7_plate_8 rfl rfl ?_
    refine g_getI dX7_plate_9 fl_X7_90 rfl rfl (h.2.1.2.2.1) ?_
    refine g_icmp_lt (tgt := 22) dX7_plate_12 (by decide) (fun c_12 => ?_) (fun c_12 => ?_)
    · have k1 : w = -1 ∨ inB' y w := (nonneg_1 c_3).imp id (fun z => ⟨z, c_12⟩)
      have k2 : ¬ (¬ w = -1 ∧ ¬ inB' y w) := fun z => k1.elim z.1 z.2
      refine g_aload_n dX7_plate_22 rfl rfl ?_
      refine g_iload_n dX7_plate_23 rfl rfl ?_
      refine g_iload_n dX7_plate_24 rfl rfl ?_
      refine g_iload_n dX7_plate_25 rfl rfl ?_
      refine g_callVp dX7_plate_26 mi_X7_may ml_X7_226 (ct_X7_may) rfl rfl rfl rfl (Nat.le_of_ble_eq_true rfl) ⟨lt_r rfl, Nat.le_of_ble_eq_true rfl⟩ ?_
      refine g_if_eqP (tgt := 40) dX7_plate_29 (by decide) (fun c_29 => ?_) (fun c_29 => ?_)
      · refine g_aload_n dX7_plate_40 rfl rfl ?_
        refine g_bipush dX7_plate_41 kB_m6 ?_
        refine g_callVi dX7_plate_43 mi_X7_no ml_X7_100 (ct_no (w := 6) h (by decide) (by decide)) rfl rfl rfl rfl (Nat.le_of_ble_eq_true rfl) ⟨lt_r rfl, Nat.le_of_ble_eq_true rfl⟩ (fun x43 M43 h43 => ?_)
        refine g_iret dX7_plate_46 ⟨_, rfl, ?_⟩
        first | (have c9 : ¬ dOk d s c := c_29; exact QM.rf (by unfold o_plate; rw [if_neg k2, if_pos (fun z => c9 z.1)]) h43) | exact QM.rf (by unfold o_plate; rw [if_neg k2, if_pos (fun z => by have := z.2; omega)]) h43
      · refine g_aload_n dX7_plate_32 rfl rfl ?_
        refine g_getI dX7_plate_33 fl_X7_90 rfl rfl (h.2.1.2.2.1) ?_
        refine g_iconst dX7_plate_36 kI_5 ?_
        refine g_icmp_leN (tgt := 47) dX7_plate_37 (by decide) rfl rfl (by omega) (by omega) (fun c_37 => ?_) (fun c_37 => ?_)
        · have e9 : o_plate y d s c w = _ := (if_neg k2).trans (if_neg (fun z => z ⟨c_29, c_37⟩))
          rw [e9]
          obtain ⟨z2, z3, z4⟩ := c_29
          obtain ⟨d', -, hd, rfl, f2⟩ := btw_n (by decide) (by decide) z2
          obtain ⟨s', -, hs, rfl, f3⟩ := btw_n (by decide) (by decide) z3
          obtain ⟨c', -, hc, rfl, f4⟩ := btw_n (by decide) (by decide) z4
          rw [f2, f3, f4]
          refine g_aload_n dX7_plate_47 rfl rfl ?_
          refine g_iconst dX7_plate_48 kI_m1 ?_
          refine g_putI dX7_plate_49 fp_X7_243 rfl rfl ?_
          refine g_le (lv' := [(0, .ref (B + 80)), (1, .int (nI d')), (2, .int (nI s')), (3, .int (nI c')), (4, .int w)]) (lvLe_c rfl (lvLe_c rfl (lvLe_c rfl (lvLe_c rfl (lvLe_c rfl lvLe_0))))) ?_
          rcases (show sCn (yN y) = 0 ∨ sCn (yN y) = 1 ∨ sCn (yN y) = 2 ∨ sCn (yN y) = 3 ∨ sCn (yN y) = 4 ∨ sCn (yN y) = 5 by omega) with e | e | e | e | e | e
          · exact tl_mplate_0 h ho e hd hs hc k1 (Fk.pj (by decide)) (by rw [upI_s]; rfl)
          · exact tl_mplate_1 h ho e hd hs hc k1 (Fk.pj (by decide)) (by rw [upI_s]; rfl)
          · exact tl_mplate_2 h ho e hd hs hc k1 (Fk.pj (by decide)) (by rw [upI_s]; rfl)
          · exact tl_mplate_3 h ho e hd hs hc k1 (Fk.pj (by decide)) (by rw [upI_s]; rfl)
          · exact tl_mplate_4 h ho e hd hs hc k1 (Fk.pj (by decide)) (by rw [upI_s]; rfl)
          · exact tl_mplate_5 h ho e hd hs hc k1 (Fk.pj (by decide)) (by rw [upI_s]; rfl)
        · refine g_aload_n dX7_plate_40 rfl rfl ?_
          refine g_bipush dX7_plate_41 kB_m6 ?_
          refine g_callVi dX7_plate_43 mi_X7_no ml_X7_100 (ct_no (w := 6) h (by decide) (by decide)) rfl rfl rfl rfl (Nat.le_of_ble_eq_true rfl) ⟨lt_r rfl, Nat.le_of_ble_eq_true rfl⟩ (fun x43 M43 h43 => ?_)
          refine g_iret dX7_plate_46 ⟨_, rfl, ?_⟩
          first | (have c9 : ¬ dOk d s c := c_29; exact QM.rf (by unfold o_plate; rw [if_neg k2, if_pos (fun z => c9 z.1)]) h43) | exact QM.rf (by unfold o_plate; rw [if_neg k2, if_pos (fun z => by have := z.2; omega)]) h43
    · refine g_aload_n dX7_plate_15 rfl rfl ?_
      refine g_bipush dX7_plate_16 kB_m5 ?_
      refine g_callVi dX7_plate_18 mi_X7_no ml_X7_100 (ct_no (w := 5) h (by decide) (by decide)) rfl rfl rfl rfl (Nat.le_of_ble_eq_true rfl) ⟨lt_r rfl, Nat.le_of_ble_eq_true rfl⟩ (fun x18 M18 h18 => ?_)
      refine g_iret dX7_plate_21 ⟨_, rfl, ?_⟩
      first | (have c9 : w < -1 := c_3; exact QM.rf (if_pos ⟨fun z => by rw [z] at c9; exact absurd c9 (by decide), fun z => neg_in c9 z.1⟩) h18) | (have c9 : ¬ w < nI (sCn (yN y)) := c_12; exact QM.rf (if_pos ⟨fun z => c9 (by rw [z]; exact neg1_lt (by omega)), fun z => c9 z.2⟩) h18)
end X7V
