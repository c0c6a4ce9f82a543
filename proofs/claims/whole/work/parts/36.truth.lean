/-! the calls in truth: dip, carry, turn, eats, teas, seed -/
def whyTruth (y : Sys) (b d s c : Int32) : Nat := if ¬ inB' y b then 1 else if 0 < (sBs (yN y) (tn b)).2.2.1 ∧ dOk d s c then 0 else 6
def o_dip (y : Sys) (b d s : Int32) : Int32 × Sys := if ¬ whyTruth y b d s (nI 0) = 0 then rz y (whyTruth y b d s (nI 0)) else (nI (dipD (sBs (yN y) (tn b)) (sHt (yN y)) (tn d) (tn s)).2.2.2.1, setN y (dipS (yN y) (tn b) (tn d) (tn s)))
def o_carry (y : Sys) (b c : Int32) : Int32 × Sys := if ¬ whyTruth y b (nI 0) (nI 0) c = 0 then rz y (whyTruth y b (nI 0) (nI 0) c) else (nI (dipD (sBs (yN y) (tn b)) (sHt (yN y)) 0 (tn c)).2.2.2.1, setN y (carS (yN y) (tn b) (tn c)))
def o_eats (y : Sys) (b : Int32) : Int32 × Sys := if ¬ whyTruth y b (nI 0) (nI 0) (nI 0) = 0 then rz y (whyTruth y b (nI 0) (nI 0) (nI 0)) else (nI (eatW (yN y) (tn b)), setN y (eatS (yN y) (tn b)))
def turnS (s : St) (q : Nat) : St := (setB s q (sBs s q).2.2.1 (turnW (sBs s q).2.2.1 (sBs s q).2.2.2), s.2)
def o_turn (y : Sys) (b : Int32) : Int32 × Sys := if ¬ inB' y b then rz y 1 else (nI (sBs (yN y) (tn b)).2.2.1, setN y (turnS (yN y) (tn b)))
noncomputable def teasF (s : St) : Nat → Nat × St
  | 0 => (0, s)
  | n + 1 => ((teasF s n).1 + (teaS (teasF s n).2).1, (teaS (teasF s n).2).2)
noncomputable def o_teas (y : Sys) (n : Int32) : Int32 × Sys :=
  if sCn (yN y) = 0 then rz y 5 else if ¬ (nI 1 ≤ n ∧ n ≤ nI 20) then rz y 6 else (nI (teasF (yN y) (tn n)).1, setN y (teasF (yN y) (tn n)).2)
def o_seed (y : Sys) (v : Int32) : Int32 × Sys := (sSd (yN y), setN y (seedS (yN y) v))
theorem whyTruth_le {y : Sys} {b d s c : Int32} : whyTruth y b d s c ≤ 6 := by
  unfold whyTruth
  repeat' split
  all_goals omega
theorem whyTruth_0 {y : Sys} {b d s c : Int32} (h : whyTruth y b d s c = 0) : inB' y b ∧ 0 < (sBs (yN y) (tn b)).2.2.1 ∧ dOk d s c := by
  unfold whyTruth at h
  split at h
  · cases h
  · split at h
    · rename_i a b; exact ⟨Classical.not_not.mp a, b⟩
    · cases h
theorem ok_tea2 {s : St} {q d t c : Nat} {x2 x3 : Int32} (ho : okSt s) (hq : q < sCn s) : okSt (eatS (carS (seedS (dipS (seedS s x2) q d t) x3) q c) q) ∧ sCn (eatS (carS (seedS (dipS (seedS s x2) q d t) x3) q c) q) = sCn s := by
  have h1 : okSt (dipS (seedS s x2) q d t) := ok_dip (ok_seed ho) hq
  have c1 : sCn (dipS (seedS s x2) q d t) = sCn s := rfl
  generalize dipS (seedS s x2) q d t = s1 at h1 c1 ⊢
  have h2 : okSt (carS (seedS s1 x3) q c) := ok_car (ok_seed h1) (by show q < sCn s1; omega)
  have c2 : sCn (carS (seedS s1 x3) q c) = sCn s1 := rfl
  generalize carS (seedS s1 x3) q c = s2 at h2 c2 ⊢
  exact ⟨ok_eat h2 (by omega), by show sCn s2 = sCn s; omega⟩
theorem ok_tea {s : St} (ho : okSt s) (hz : 0 < sCn s) : okSt (teaS s).2 ∧ sCn (teaS s).2 = sCn s := by
  have hq := (draw_ok (sd := sSd s) hz (by have := ho.2.2.1; omega)).2
  unfold teaS
  dsimp only
  split
  · exact ⟨ho, rfl⟩
  · exact ok_tea2 (ok_seed (ok_seed ho)) hq
theorem ok_teas {s : St} (ho : okSt s) (hz : 0 < sCn s) : ∀ n, okSt (teasF s n).2 ∧ sCn (teasF s n).2 = sCn s
  | 0 => ⟨ho, rfl⟩
  | n + 1 => by
    obtain ⟨a1, a2⟩ := ok_teas ho hz n
    obtain ⟨b1, b2⟩ := ok_tea a1 (by omega)
    exact ⟨b1, b2.trans a2⟩
theorem Sd.x {B : Nat} {M M2 : MM} (hS : Sd B M M2 2 47) : Sm B M M2 0 80 := fun q hq => hS q (by omega) (by omega)
/-- what is now has changed, and the Dunk -/
theorem RY.d {B : Nat} {M M' : MM} {y : Sys} {s : St} (h : RY B M y) (ho : okY y) (hS : Sd B M M' 2 47) (hs : RS B M' 2 s) : RY B M' (setN y s) := by
  obtain ⟨h1, h2, h3, h4, h5, h6, h7⟩ := h
  refine ⟨fun q hq => ?_, hs, fun hb => ?_, ?_, ?_, fun j hj => ?_, ?_⟩
  · have := h1 q hq
    unfold RH at this ⊢
    rw [(hS (64 + 2 * q) (by omega) (by omega)).1, (hS (64 + 2 * q + 1) (by omega) (by omega)).2]
    exact this
  · obtain ⟨a1, a2, a3⟩ := h3 hb
    have hc := (ho.2.2.1 hb).2.2.1
    refine ⟨fun q hq => ?_, ?_, ?_⟩
    · have := a1 q hq
      have hq : q < sCn (yI y) := hq
      unfold RB at this ⊢
      rw [(hS (17 + 3 + 2 * q) (by omega) (by omega)).1, (hS (17 + 3 + 2 * q + 1) (by omega) (by omega)).1]
      exact this
    · rw [(hS (17 + 2) (by omega) (by omega)).1]; exact a2
    · rw [(hS 17 (by omega) (by omega)).1]; exact a3
  · rw [(hS 0 (by omega) (by omega)).1]; exact h4
  · rw [(hS 0 (by omega) (by omega)).1]; exact h5
  · rw [(hS 60 (by omega) (by omega)).1]; exact h6 j hj
  · unfold RT at h7 ⊢
    rw [(hS 56 (by omega) (by omega)).1, (hS 57 (by omega) (by omega)).1]
    exact h7
theorem RS.turn {B k q : Nat} {M M2 : MM} {s : St} (h : RS B M k s) (ho : okSt s) (hq : q < sCn s) (h1 : RB M2 (B + (k + 3 + 2 * q)) (B + (k + 3 + 2 * q + 1)) ((sBs s q).1, (sBs s q).2.1, (sBs s q).2.2.1, turnW (sBs s q).2.2.1 (sBs s q).2.2.2)) (hS : Sm B M M2 (k + 3 + 2 * q + 1) (k + 3 + 2 * q + 2)) : RS B M2 k (turnS s q) := by
  obtain ⟨a1, a2, a3⟩ := h
  have hc := ho.2.2.1
  refine ⟨fun q2 hq2 => ?_, fun i hi => by rw [hS.i (by omega)]; exact a2 i hi, by rw [hS.i (by omega)]; exact a3⟩
  show RB _ _ _ (upF (sBs s) q ((sBs s q).1, (sBs s q).2.1, (sBs s q).2.2.1, turnW (sBs s q).2.2.1 (sBs s q).2.2.2) q2)
  by_cases e : q2 = q
  · subst e; rw [upF_s]; exact h1
  · rw [upF_n e]
    have hq2 : q2 < sCn s := hq2
    exact (a1 q2 hq2).sm hS (by omega) (by omega)
theorem ok_turnS {s : St} {q : Nat} (ho : okSt s) (hq : q < sCn s) : okSt (turnS s q) := by
  refine ⟨ok_setB ho (ho.1 q hq).2.2.1 (fun i => ?_), ho.2⟩
  unfold turnW
  split
  · exact (ho.1 q hq).2.2.2 _
  · exact (ho.1 q hq).2.2.2 _
section X6G
variable {E : EE} {B : Nat} {M : MM}
theorem cx_whyTruth {y : Sys} {b d s c : Int32} (h : RY B M y) (ho : okY y) : Ct E B yX6_whyNotInTruth cX6_whyNotInTruth 5 (some .int) 2 [.ref (B + 0), .int b, .int d, .int s, .int c] M (Rp (nI (whyTruth y b d s c)) M) := by
  have hcn := ho.2.1.2.2.1
  refine Ct.of2 (own := RX6) (lv := [(0, .ref (B + 0)), (1, .int b), (2, .int d), (3, .int s), (4, .int c)]) pn_X6 rfl (Nat.le_of_ble_eq_true rfl) rfl ?_
  refine g_aload_n dX6_whyNotInTruth_0 rfl rfl ?_
  refine g_getR dX6_whyNotInTruth_1 fl_X6_18 rfl rfl ?_
  refine g_iload_n dX6_whyNotInTruth_4 rfl rfl ?_
  refine g_callVp dX6_whyNotInTruth_5 mi_X5_hasBiscuit ml_X6_123 (ct_hasB h) isS_2.1 rfl rfl rfl (Nat.le_of_ble_eq_true rfl) ⟨lt_r rfl, Nat.le_of_ble_eq_true rfl⟩ ?_
  refine g_if_neP (tgt := 13) dX6_whyNotInTruth_8 (by decide) (fun c_8 => ?_) (fun c_8 => ?_)
  · obtain ⟨q, hq, rfl, f1⟩ := in_b hcn c_8
    have hcc := (ho.2.1.1 q hq).2.2.1
    refine g_aload_n dX6_whyNotInTruth_13 rfl rfl ?_
    refine g_getR dX6_whyNotInTruth_14 fl_X6_18 rfl rfl ?_
    refine g_getR dX6_whyNotInTruth_17 fl_X6_141 isS_2.1 rfl ?_
    refine g_iload_n dX6_whyNotInTruth_20 rfl rfl ?_
    refine g_aald dX6_whyNotInTruth_21 isS_2.2.1 rfl (isS_b (by omega)) ?_
    refine g_getI dX6_whyNotInTruth_22 fl_X6_162 (isS_2.2.2.2 _ (by omega)).1 rfl ((h.2.1.1 q hq).2.2.1) ?_
    refine g_if_leN (tgt := 42) dX6_whyNotInTruth_25 (by decide) rfl (by omega) (fun c_25 => ?_) (fun c_25 => ?_)
    · refine g_bipush dX6_whyNotInTruth_42 kB_6 ?_
      refine g_iret dX6_whyNotInTruth_44 ⟨_, rfl, ?_⟩
      refine ⟨?_, rfl⟩
      unfold whyTruth
      rw [if_neg (fun z => z c_8), f1]
      first | rw [if_neg (show ¬ (0 < (sBs (yN y) q).2.2.1 ∧ dOk d s c) from fun z => c_35 z.2)] | rw [if_pos (show 0 < (sBs (yN y) q).2.2.1 ∧ dOk d s c from ⟨c_25, c_35⟩)] | rw [if_neg (show ¬ (0 < (sBs (yN y) q).2.2.1 ∧ dOk d s c) from fun z => by omega)]
    · refine g_iload_n dX6_whyNotInTruth_28 rfl rfl ?_
      refine g_iload_n dX6_whyNotInTruth_29 rfl rfl ?_
      refine g_iload dX6_whyNotInTruth_30 rfl ?_
      refine g_callSp dX6_whyNotInTruth_32 ms_X6_mayBeDunk ml_X6_227 (ct_X6_mayBeDunk) rfl rfl (Nat.le_of_ble_eq_true rfl) ⟨lt_r rfl, Nat.le_of_ble_eq_true rfl⟩ ?_
      refine g_if_eqP (tgt := 42) dX6_whyNotInTruth_35 (by decide) (fun c_35 => ?_) (fun c_35 => ?_)
      · refine g_bipush dX6_whyNotInTruth_42 kB_6 ?_
        refine g_iret dX6_whyNotInTruth_44 ⟨_, rfl, ?_⟩
        refine ⟨?_, rfl⟩
        unfold whyTruth
        rw [if_neg (fun z => z c_8), f1]
        first | rw [if_neg (show ¬ (0 < (sBs (yN y) q).2.2.1 ∧ dOk d s c) from fun z => c_35 z.2)] | rw [if_pos (show 0 < (sBs (yN y) q).2.2.1 ∧ dOk d s c from ⟨c_25, c_35⟩)] | rw [if_neg (show ¬ (0 < (sBs (yN y) q).2.2.1 ∧ dOk d s c) from fun z => by omega)]
      · refine g_iconst dX6_whyNotInTruth_38 kI_0 ?_
        refine g_goto (tgt := 44) dX6_whyNotInTruth_39 (by decide) ?_
        refine g_iret dX6_whyNotInTruth_44 ⟨_, rfl, ?_⟩
        refine ⟨?_, rfl⟩
        unfold whyTruth
        rw [if_neg (fun z => z c_8), f1]
        first | rw [if_neg (show ¬ (0 < (sBs (yN y) q).2.2.1 ∧ dOk d s c) from fun z => c_35 z.2)] | rw [if_pos (show 0 < (sBs (yN y) q).2.2.1 ∧ dOk d s c from ⟨c_25, c_35⟩)] | rw [if_neg (show ¬ (0 < (sBs (yN y) q).2.2.1 ∧ dOk d s c) from fun z => by omega)]
  · refine g_iconst dX6_whyNotInTruth_11 kI_1 ?_
    refine g_iret dX6_whyNotInTruth_12 ⟨_, rfl, ?_⟩
    exact ⟨by unfold whyTruth; rw [if_pos c_8], rfl⟩
theorem cx_dip {y : Sys} {b d s : Int32} (h : RY B M y) (ho : okY y) : Ct E B yX6_dip cX6_dip 5 (some .int) 6 [.ref (B + 0), .int b, .int d, .int s] M (QY B M (o_dip y b d s)) := by
  have hw := whyTruth_le (y := y) (b := b) (d := d) (s := s) (c := nI 0)
  have hcn := ho.2.1.2.2.1
  refine Ct.of2 (own := RX6) (lv := [(0, .ref (B + 0)), (1, .int b), (2, .int d), (3, .int s)]) pn_X6 rfl (Nat.le_of_ble_eq_true rfl) rfl ?_
  refine g_aload_n dX6_dip_0 rfl rfl ?_
  refine g_iload_n dX6_dip_1 rfl rfl ?_
  refine g_iload_n dX6_dip_2 rfl rfl ?_
  refine g_iload_n dX6_dip_3 rfl rfl ?_
  refine g_iconst dX6_dip_4 kI_0 ?_
  refine g_callVp dX6_dip_5 mi_X6_whyNotInTruth ml_X6_298 (cx_whyTruth h ho) rfl rfl rfl rfl (Nat.le_of_ble_eq_true rfl) ⟨lt_r rfl, Nat.le_of_ble_eq_true rfl⟩ ?_
  refine g_istore dX6_dip_8 (lt_r rfl) rfl ?_
  refine g_iload dX6_dip_10 rfl ?_
  refine g_if_eqN (tgt := 22) dX6_dip_12 (by decide) rfl (by omega) (fun c_12 => ?_) (fun c_12 => ?_)
  · have e9 : o_dip y b d s = _ := if_neg (fun z => z c_12)
    rw [e9]
    obtain ⟨z1, z5, z2, z3, z4⟩ := whyTruth_0 c_12
    obtain ⟨q, hq, rfl, f1⟩ := in_b hcn z1
    obtain ⟨d', -, hd, rfl, f2⟩ := btw_n (by decide) (by decide) z2
    obtain ⟨s', -, hs, rfl, f3⟩ := btw_n (by decide) (by decide) z3
    rw [f1, f2, f3]
    refine g_aload_n dX6_dip_22 rfl rfl ?_
    refine g_getR dX6_dip_23 fl_X6_18 rfl rfl ?_
    refine g_iload_n dX6_dip_26 rfl rfl ?_
    refine g_iload_n dX6_dip_27 rfl rfl ?_
    refine g_iload_n dX6_dip_28 rfl rfl ?_
    refine g_aload_n dX6_dip_29 rfl rfl ?_
    refine g_getR dX6_dip_30 fl_X6_31 rfl rfl ?_
    refine g_callVi dX6_dip_33 mi_X5_dipInTruth ml_X6_301 (ct_X5_dipInTruth isS_2 isD_47 (by omega) h.2.1 ho.2.1 hq hd hs) isS_2.1 rfl rfl rfl (Nat.le_of_ble_eq_true rfl) ⟨lt_r rfl, Nat.le_of_ble_eq_true rfl⟩ (fun x33 M33 h33 => ?_)
    refine g_iret dX6_dip_36 ⟨_, rfl, ?_⟩
    exact ⟨h33.1, h.d ho h33.2.2 h33.2.1, ok_setN ho (ok_dip ho.2.1 hq) (Nat.le_refl _), h33.2.2.x⟩
  · refine g_aload_n dX6_dip_15 rfl rfl ?_
    refine g_iload dX6_dip_16 rfl ?_
    refine g_callVi dX6_dip_18 mi_X6_refused ml_X6_83 (ct_X6_refused h ho (by omega) (by omega)) rfl rfl rfl rfl (Nat.le_of_ble_eq_true rfl) ⟨lt_r rfl, Nat.le_of_ble_eq_true rfl⟩ (fun x18 M18 h18 => ?_)
    refine g_iret dX6_dip_21 ⟨_, rfl, ?_⟩
    exact QY.rf ho (if_pos (by omega)) h18
theorem cx_carry {y : Sys} {b c : Int32} (h : RY B M y) (ho : okY y) : Ct E B yX6_carry cX6_carry 4 (some .int) 6 [.ref (B + 0), .int b, .int c] M (QY B M (o_carry y b c)) := by
  have hw := whyTruth_le (y := y) (b := b) (d := nI 0) (s := nI 0) (c := c)
  have hcn := ho.2.1.2.2.1
  refine Ct.of2 (own := RX6) (lv := [(0, .ref (B + 0)), (1, .int b), (2, .int c)]) pn_X6 rfl (Nat.le_of_ble_eq_true rfl) rfl ?_
  refine g_aload_n dX6_carry_0 rfl rfl ?_
  refine g_iload_n dX6_carry_1 rfl rfl ?_
  refine g_iconst dX6_carry_2 kI_0 ?_
  refine g_iconst dX6_carry_3 kI_0 ?_
  refine g_iload_n dX6_carry_4 rfl rfl ?_
  refine g_callVp dX6_carry_5 mi_X6_whyNotInTruth ml_X6_298 (cx_whyTruth h ho) rfl rfl rfl rfl (Nat.le_of_ble_eq_true rfl) ⟨lt_r rfl, Nat.le_of_ble_eq_true rfl⟩ ?_
  refine g_istore_n dX6_carry_8 rfl (lt_r rfl) rfl ?_
  refine g_iload_n dX6_carry_9 rfl rfl ?_
  refine g_if_eqN (tgt := 19) dX6_carry_10 (by decide) rfl (by omega) (fun c_10 => ?_) (fun c_10 => ?_)
  · have e9 : o_carry y b c = _ := if_neg (fun z => z c_10)
    rw [e9]
    obtain ⟨z1, z5, z2, z3, z4⟩ := whyTruth_0 c_10
    obtain ⟨q, hq, rfl, f1⟩ := in_b hcn z1
    obtain ⟨c', -, hc, rfl, f2⟩ := btw_n (by decide) (by decide) z4
    rw [f1, f2]
    refine g_aload_n dX6_carry_19 rfl rfl ?_
    refine g_getR dX6_carry_20 fl_X6_18 rfl rfl ?_
    refine g_iload_n dX6_carry_23 rfl rfl ?_
    refine g_iload_n dX6_carry_24 rfl rfl ?_
    refine g_aload_n dX6_carry_25 rfl rfl ?_
    refine g_getR dX6_carry_26 fl_X6_31 rfl rfl ?_
    refine g_callVi dX6_carry_29 mi_X5_carryInTruth ml_X6_305 (ct_X5_carryInTruth isS_2 isD_47 (by omega) h.2.1 ho.2.1 hq hc) isS_2.1 rfl rfl rfl (Nat.le_of_ble_eq_true rfl) ⟨lt_r rfl, Nat.le_of_ble_eq_true rfl⟩ (fun x29 M29 h29 => ?_)
    refine g_iret dX6_carry_32 ⟨_, rfl, ?_⟩
    exact ⟨h29.1, h.d ho h29.2.2 h29.2.1, ok_setN ho (ok_car ho.2.1 hq) (Nat.le_refl _), h29.2.2.x⟩
  · refine g_aload_n dX6_carry_13 rfl rfl ?_
    refine g_iload_n dX6_carry_14 rfl rfl ?_
    refine g_callVi dX6_carry_15 mi_X6_refused ml_X6_83 (ct_X6_refused h ho (by omega) (by omega)) rfl rfl rfl rfl (Nat.le_of_ble_eq_true rfl) ⟨lt_r rfl, Nat.le_of_ble_eq_true rfl⟩ (fun x15 M15 h15 => ?_)
    refine g_iret dX6_carry_18 ⟨_, rfl, ?_⟩
    exact QY.rf ho (if_pos (by omega)) h15
theorem cx_eats {y : Sys} {b : Int32} (h : RY B M y) (ho : okY y) : Ct E B yX6_eats cX6_eats 3 (some .int) 6 [.ref (B + 0), .int b] M (QY B M (o_eats y b)) := by
  have hw := whyTruth_le (y := y) (b := b) (d := nI 0) (s := nI 0) (c := nI 0)
  have hcn := ho.2.1.2.2.1
  refine Ct.of2 (own := RX6) (lv := [(0, .ref (B + 0)), (1, .int b)]) pn_X6 rfl (Nat.le_of_ble_eq_true rfl) rfl ?_
  refine g_aload_n dX6_eats_0 rfl rfl ?_
  refine g_iload_n dX6_eats_1 rfl rfl ?_
  refine g_iconst dX6_eats_2 kI_0 ?_
  refine g_iconst dX6_eats_3 kI_0 ?_
  refine g_iconst dX6_eats_4 kI_0 ?_
  refine g_callVp dX6_eats_5 mi_X6_whyNotInTruth ml_X6_298 (cx_whyTruth h ho) rfl rfl rfl rfl (Nat.le_of_ble_eq_true rfl) ⟨lt_r rfl, Nat.le_of_ble_eq_true rfl⟩ ?_
  refine g_istore_n dX6_eats_8 rfl (lt_r rfl) rfl ?_
  refine g_iload_n dX6_eats_9 rfl rfl ?_
  refine g_if_eqN (tgt := 19) dX6_eats_10 (by decide) rfl (by omega) (fun c_10 => ?_) (fun c_10 => ?_)
  · have e9 : o_eats y b = _ := if_neg (fun z => z c_10)
    rw [e9]
    obtain ⟨z1, z5, z2, z3, z4⟩ := whyTruth_0 c_10
    obtain ⟨q, hq, rfl, f1⟩ := in_b hcn z1
    rw [f1]
    refine g_aload_n dX6_eats_19 rfl rfl ?_
    refine g_getR dX6_eats_20 fl_X6_18 rfl rfl ?_
    refine g_iload_n dX6_eats_23 rfl rfl ?_
    refine g_callVi dX6_eats_24 mi_X5_eat ml_X6_309 (ct_X5_eat isS_2 h.2.1 ho.2.1 hq) isS_2.1 rfl rfl rfl (Nat.le_of_ble_eq_true rfl) ⟨lt_r rfl, Nat.le_of_ble_eq_true rfl⟩ (fun x24 M24 h24 => ?_)
    refine g_iret dX6_eats_27 ⟨_, rfl, ?_⟩
    exact ⟨h24.1, h.n ho h24.2.2 h24.2.1, ok_setN ho (ok_eat ho.2.1 hq) (Nat.le_refl _), h24.2.2.up (by omega) (by omega)⟩
  · refine g_aload_n dX6_eats_13 rfl rfl ?_
    refine g_iload_n dX6_eats_14 rfl rfl ?_
    refine g_callVi dX6_eats_15 mi_X6_refused ml_X6_83 (ct_X6_refused h ho (by omega) (by omega)) rfl rfl rfl rfl (Nat.le_of_ble_eq_true rfl) ⟨lt_r rfl, Nat.le_of_ble_eq_true rfl⟩ (fun x15 M15 h15 => ?_)
    refine g_iret dX6_eats_18 ⟨_, rfl, ?_⟩
    exact QY.rf ho (if_pos (by omega)) h15
theorem cx_turn {y : Sys} {b : Int32} (h : RY B M y) (ho : okY y) : Ct E B yX6_turn cX6_turn 2 (some .int) 6 [.ref (B + 0), .int b] M (QY B M (o_turn y b)) := by
  have hcn := ho.2.1.2.2.1
  refine Ct.of2 (own := RX6) (lv := [(0, .ref (B + 0)), (1, .int b)]) pn_X6 rfl (Nat.le_of_ble_eq_true rfl) rfl ?_
  refine g_aload_n dX6_turn_0 rfl rfl ?_
  refine g_getR dX6_turn_1 fl_X6_18 rfl rfl ?_
  refine g_iload_n dX6_turn_4 rfl rfl ?_
  refine g_callVp dX6_turn_5 mi_X5_hasBiscuit ml_X6_123 (ct_hasB h) isS_2.1 rfl rfl rfl (Nat.le_of_ble_eq_true rfl) ⟨lt_r rfl, Nat.le_of_ble_eq_true rfl⟩ ?_
  refine g_if_neP (tgt := 17) dX6_turn_8 (by decide) (fun c_8 => ?_) (fun c_8 => ?_)
  · have e9 : o_turn y b = _ := if_neg (fun z => z c_8)
    rw [e9]
    obtain ⟨q, hq, rfl, f1⟩ := in_b hcn c_8
    rw [f1]
    refine g_aload_n dX6_turn_17 rfl rfl ?_
    refine g_getR dX6_turn_18 fl_X6_18 rfl rfl ?_
    refine g_getR dX6_turn_21 fl_X6_141 isS_2.1 rfl ?_
    refine g_iload_n dX6_turn_24 rfl rfl ?_
    refine g_aald dX6_turn_25 isS_2.2.1 rfl (isS_b (by omega)) ?_
    refine g_callVv dX6_turn_26 mi_X1_turnAbout ml_X6_261 (ct_X1_turnAbout (isS_2.2.2.2 _ (by omega)) (h.2.1.1 q hq) (ho.2.1.1 q hq)) (isS_2.2.2.2 _ (by omega)).1 rfl rfl rfl (Nat.le_of_ble_eq_true rfl) ⟨lt_r rfl, Nat.le_of_ble_eq_true rfl⟩ (fun M26 h26 => ?_)
    refine g_aload_n dX6_turn_29 rfl rfl ?_
    refine g_getR dX6_turn_30 fl_X6_18 rfl rfl ?_
    refine g_getR dX6_turn_33 fl_X6_141 isS_2.1 rfl ?_
    refine g_iload_n dX6_turn_36 rfl rfl ?_
    refine g_aald dX6_turn_37 isS_2.2.1 rfl (isS_b (by omega)) ?_
    refine g_getI dX6_turn_38 fl_X6_162 (isS_2.2.2.2 _ (by omega)).1 rfl (h26.1.2.2.1) ?_
    refine g_iret dX6_turn_41 ⟨_, rfl, ?_⟩
    exact ⟨rfl, h.n ho (h26.2.up (by omega) (by omega)) (RS.turn h.2.1 ho.2.1 hq h26.1 h26.2), ok_setN ho (ok_turnS ho.2.1 hq) (Nat.le_refl _), h26.2.up (by omega) (by omega)⟩
  · refine g_aload_n dX6_turn_11 rfl rfl ?_
    refine g_iconst dX6_turn_12 kI_1 ?_
    refine g_callVi dX6_turn_13 mi_X6_refused ml_X6_83 (ct_X6_refused h ho (by decide) (by decide)) rfl rfl rfl rfl (Nat.le_of_ble_eq_true rfl) ⟨lt_r rfl, Nat.le_of_ble_eq_true rfl⟩ (fun x13 M13 h13 => ?_)
    refine g_iret dX6_turn_16 ⟨_, rfl, ?_⟩
    exact QY.rf ho (if_pos c_8) h13
theorem lp_teas {y : Sys} {m : Nat} {M0 : MM} (h : RY B M0 y) (ho : okY y) (hz : 0 < sCn (yN y)) (hm : m ≤ 20) : ∀ (n i : Nat), n + i = m → ∀ M', RS B M' 2 (teasF (yN y) i).2 → Sd B M0 M' 2 47 →
    G E B cX6_teas (RX6, 4, some .int, rmD 6, 0, 0, KM E B (QY B M0 (nI (teasF (yN y) m).1, setN y (teasF (yN y) m).2))) 37 [(0, .ref (B + 0)), (1, .int (nI m)), (2, .int (nI (teasF (yN y) i).1)), (3, .int (nI i))] [] M' := by
  intro n
  induction n with
  | zero =>
    intro i h1 M' hR hS
    refine g_iload_n dX6_teas_37 rfl rfl ?_
    refine g_iload_n dX6_teas_38 rfl rfl ?_
    refine g_icmp_geN (tgt := 62) dX6_teas_39 (by decide) rfl rfl (by omega) (by omega) (fun c_39 => ?_) (fun c_39 => absurd c_39 (by omega))
    refine g_iload_n dX6_teas_62 rfl rfl ?_
    refine g_iret dX6_teas_63 ⟨_, rfl, ?_⟩
    have e : i = m := by omega
    subst e
    exact ⟨rfl, h.d ho hS hR, ok_setN ho (ok_teas ho.2.1 hz i).1 (Nat.le_of_eq (ok_teas ho.2.1 hz i).2.symm), hS.x⟩
  | succ n ih =>
    intro i h1 M' hR hS
    obtain ⟨k1, k2⟩ := ok_teas ho.2.1 hz i
    refine g_iload_n dX6_teas_37 rfl rfl ?_
    refine g_iload_n dX6_teas_38 rfl rfl ?_
    refine g_icmp_geN (tgt := 62) dX6_teas_39 (by decide) rfl rfl (by omega) (by omega) (fun c_39 => absurd c_39 (by omega)) (fun c_39 => ?_)
    refine g_iload_n dX6_teas_42 rfl rfl ?_
    refine g_aload_n dX6_teas_43 rfl rfl ?_
    refine g_getR dX6_teas_44 fl_X6_18 rfl rfl ?_
    refine g_aload_n dX6_teas_47 rfl rfl ?_
    refine g_getR dX6_teas_48 fl_X6_31 rfl rfl ?_
    refine g_callVi dX6_teas_51 mi_X5_takeTea ml_X6_312 (ct_X5_takeTea isS_2 isD_47 (by omega) hR k1 (by omega)) isS_2.1 rfl rfl rfl (Nat.le_of_ble_eq_true rfl) ⟨lt_r rfl, Nat.le_of_ble_eq_true rfl⟩ (fun x51 M51 h51 => ?_)
    obtain ⟨rfl, a1, a2⟩ := h51
    refine g_iadd dX6_teas_54 (nI_add _ _) ?_
    refine g_istore_n dX6_teas_55 rfl (lt_r rfl) rfl ?_
    refine g_iinc dX6_teas_56 rfl (inc_nI _) rfl ?_
    refine g_goto (tgt := 37) dX6_teas_59 (by decide) ?_
    exact g_le (lvLe_c rfl (lvLe_c rfl (lvLe_c rfl (lvLe_c rfl lvLe_0)))) (ih (i + 1) (by omega) M51 a1 (hS.tr a2))
theorem cx_teas {y : Sys} {n : Int32} (h : RY B M y) (ho : okY y) : Ct E B yX6_teas cX6_teas 4 (some .int) 6 [.ref (B + 0), .int n] M (QY B M (o_teas y n)) := by
  have hcn := ho.2.1.2.2.1
  refine Ct.of2 (own := RX6) (lv := [(0, .ref (B + 0)), (1, .int n)]) pn_X6 rfl (Nat.le_of_ble_eq_true rfl) rfl ?_
  refine g_aload_n dX6_teas_0 rfl rfl ?_
  refine g_getR dX6_teas_1 fl_X6_18 rfl rfl ?_
  refine g_getI dX6_teas_4 fl_X6_270 isS_2.1 rfl (h.2.1.2.2.1) ?_
  refine g_if_neN (tgt := 16) dX6_teas_7 (by decide) rfl (by omega) (fun c_7 => ?_) (fun c_7 => ?_)
  · refine g_iload_n dX6_teas_16 rfl rfl ?_
    refine g_iconst dX6_teas_17 kI_1 ?_
    refine g_bipush dX6_teas_18 kB_20 ?_
    refine g_callSp dX6_teas_20 ms_X6_isWithin ml_X6_87 (ct_X6_isWithin) rfl rfl (Nat.le_of_ble_eq_true rfl) ⟨lt_r rfl, Nat.le_of_ble_eq_true rfl⟩ ?_
    refine g_if_neP (tgt := 33) dX6_teas_23 (by decide) (fun c_23 => ?_) (fun c_23 => ?_)
    · have e9 : o_teas y n = _ := (if_neg (show ¬ sCn (yN y) = 0 by omega)).trans (if_neg (fun z => z c_23))
      rw [e9]
      obtain ⟨m, -, hm, rfl, f1⟩ := btw_n (by decide) (by decide) c_23
      rw [f1]
      refine g_iconst dX6_teas_33 kI_0 ?_
      refine g_istore_n dX6_teas_34 rfl (lt_r rfl) rfl ?_
      refine g_iconst dX6_teas_35 kI_0 ?_
      refine g_istore_n dX6_teas_36 rfl (lt_r rfl) rfl ?_
      exact g_le (lvLe_c rfl (lvLe_c rfl (lvLe_c rfl (lvLe_c rfl lvLe_0)))) (lp_teas h ho (by omega) hm m 0 rfl M h.2.1 Sd.rf)
    · refine g_aload_n dX6_teas_26 rfl rfl ?_
      refine g_bipush dX6_teas_27 kB_6 ?_
      refine g_callVi dX6_teas_29 mi_X6_refused ml_X6_83 (ct_X6_refused h ho (by decide) (by decide)) rfl rfl rfl rfl (Nat.le_of_ble_eq_true rfl) ⟨lt_r rfl, Nat.le_of_ble_eq_true rfl⟩ (fun x29 M29 h29 => ?_)
      refine g_iret dX6_teas_32 ⟨_, rfl, ?_⟩
      exact QY.rf ho (by unfold o_teas; rw [if_neg (by omega), if_pos c_23]) h29
  · refine g_aload_n dX6_teas_10 rfl rfl ?_
    refine g_iconst dX6_teas_11 kI_5 ?_
    refine g_callVi dX6_teas_12 mi_X6_refused ml_X6_83 (ct_X6_refused h ho (by decide) (by decide)) rfl rfl rfl rfl (Nat.le_of_ble_eq_true rfl) ⟨lt_r rfl, Nat.le_of_ble_eq_true rfl⟩ (fun x12 M12 h12 => ?_)
    refine g_iret dX6_teas_15 ⟨_, rfl, ?_⟩
    exact QY.rf ho (if_pos (by omega)) h12
theorem cx_seed {y : Sys} {v : Int32} (h : RY B M y) (ho : okY y) : Ct E B yX6_seed cX6_seed 3 (some .int) 6 [.ref (B + 0), .int v] M (QY B M (o_seed y v)) := by
  refine Ct.of2 (own := RX6) (lv := [(0, .ref (B + 0)), (1, .int v)]) pn_X6 rfl (Nat.le_of_ble_eq_true rfl) rfl ?_
  refine g_aload_n dX6_seed_0 rfl rfl ?_
  refine g_getR dX6_seed_1 fl_X6_18 rfl rfl ?_
  refine g_getI dX6_seed_4 fl_X6_316 isS_2.1 rfl (h.2.1.2.2.2.2.2.2.2.2.2) ?_
  refine g_istore_n dX6_seed_7 rfl (lt_r rfl) rfl ?_
  refine g_aload_n dX6_seed_8 rfl rfl ?_
  refine g_getR dX6_seed_9 fl_X6_18 rfl rfl ?_
  refine g_iload_n dX6_seed_12 rfl rfl ?_
  refine g_putI dX6_seed_13 fp_X6_316 isS_2.1 rfl ?_
  refine g_iload_n dX6_seed_16 rfl rfl ?_
  refine g_iret dX6_seed_17 ⟨_, rfl, ?_⟩
  have hS : Sm B M (upI M (B + 2) 9 v) 2 17 := Sm.pI (by omega) (by omega)
  obtain ⟨a1, a2, a3, a4, a5, a6, a7, a8, a9, a10⟩ := h.2.1
  exact ⟨rfl, h.n ho hS ⟨fun q hq => (a1 q hq).sm (Sm.pI (Nat.le_refl 2) (Nat.lt_succ_self 2)) (by omega) (by omega), fun i hi => by rw [upI_ap (by omega)]; exact a2 i hi, by rw [upI_k (by decide)]; exact a3, by rw [upI_k (by decide)]; exact a4, by rw [upI_k (by decide)]; exact a5, by rw [upI_k (by decide)]; exact a6, by rw [upI_k (by decide)]; exact a7, by rw [upI_k (by decide)]; exact a8, by rw [upI_k (by decide)]; exact a9, upI_s⟩, ok_setN ho (ok_seed ho.2.1) (Nat.le_refl _), hS.up (by omega) (by omega)⟩
end X6G
