/-! the calls that dunk: what they answer -/
def dunkD (b : Bi) (h d s c : Nat) : Dk := runD b.1 b.2.1 h (0 + s) (entD 0 (dipD b h d s)) c
theorem dunk_ok {b : Bi} {h d s c : Nat} (ho : okB b) : okD b.1 b.2.1 (0 + s + c) (dunkD b h d s c) := run_ok (ent_ok (dipD_ok ho)) c
abbrev inB' (y : Sys) (b : Int32) : Prop := 0 ≤ b ∧ b < nI (sCn (yN y))
abbrev dOk (d s c : Int32) : Prop := (nI 0 ≤ d ∧ d ≤ nI 12) ∧ (nI 0 ≤ s ∧ s ≤ nI 60) ∧ (nI 0 ≤ c ∧ c ≤ nI 60)
def whyDunk (y : Sys) (b d s c : Int32) : Nat := if ¬ inB' y b then 1 else if dOk d s c then 0 else 6
def bOf (y : Sys) (b : Int32) : Bi := sBs (yN y) (tn b)
def dunkY (y : Sys) (b d s c : Int32) : Dk := dunkD (sBs (yN y) (tn b)) (sHt (yN y)) (tn d) (tn s) (tn c)
def wrY (y : Sys) (D : Dk) : Nat := worthN (sWo (yN y)) D.1 D.2.1
def o_left (y : Sys) (b d s c : Int32) : Int32 × Sys := if ¬ whyDunk y b d s c = 0 then rz y (whyDunk y b d s c) else (nI (dunkY y b d s c).1, y)
def o_wetness (y : Sys) (b d s c l : Int32) : Int32 × Sys :=
  if ¬ inB' y b then rz y 1 else if l < 0 then rz y 5 else if ¬ dOk d s c then rz y 6 else if ¬ l < nI (dunkY y b d s c).1 then rz y 5 else (nI ((dunkY y b d s c).2.1 (tn l)), y)
def o_when (y : Sys) (b d s c : Int32) : Int32 × Sys := if ¬ whyDunk y b d s c = 0 then rzl y (whyDunk y b d s c) 10 else (brkI (dunkY y b d s c).2.2.2.2.2, y)
/-- the last of 0, 1, .. before the first at which something is gone -/
def longF (g : Nat → Nat) : Nat → Nat → Int32
  | 0, _ => nI 60
  | n + 1, i => if g i = 0 then longF g n (i + 1) else nI i - nI 1
def o_longest (y : Sys) (b d c : Int32) : Int32 × Sys :=
  if ¬ whyDunk y b d (nI 0) c = 0 then rzl y (whyDunk y b d (nI 0) c) 10 else (longF (fun i => (dunkD (sBs (yN y) (tn b)) (sHt (yN y)) (tn d) i (tn c)).2.2.2.1) 61 0, y)
def o_far (y : Sys) (b d s : Int32) : Int32 × Sys :=
  if ¬ whyDunk y b d s (nI 0) = 0 then rzl y (whyDunk y b d s (nI 0)) 10 else (longF (fun i => (dunkD (sBs (yN y) (tn b)) (sHt (yN y)) (tn d) (tn s) i).2.2.2.1) 61 0, y)
def o_worth (y : Sys) (b d s c : Int32) : Int32 × Sys := if ¬ whyDunk y b d s c = 0 then rz y (whyDunk y b d s c) else (nI (wrY y (dunkY y b d s c)), y)
def o_goes (y : Sys) (b d s : Int32) : Int32 × Sys := if ¬ whyDunk y b d s (nI 0) = 0 then rz y (whyDunk y b d s (nI 0)) else (nI (dunkY y b d s (nI 0)).2.2.2.2.1, y)
def turnD (D : Dk) : Dk := (D.1, turnW D.1 D.2.1, D.2.2)
def twiceD (b : Bi) (h d s d2 s2 : Nat) : Dk := runD b.1 b.2.1 h (0 + s) (entD d2 (turnD (dipD b h d s))) s2
def o_twice (y : Sys) (b d s d2 s2 : Int32) : Int32 × Sys :=
  if ¬ inB' y b then rz y 1 else if ¬ (dOk d s (nI 0) ∧ dOk d2 s2 (nI 0)) then rz y 6 else (nI (wrY y (twiceD (sBs (yN y) (tn b)) (sHt (yN y)) (tn d) (tn s) (tn d2) (tn s2))), y)
theorem whyDunk_le {y : Sys} {b d s c : Int32} : whyDunk y b d s c ≤ 6 := by
  unfold whyDunk
  repeat' split
  all_goals omega
theorem whyDunk_0 {y : Sys} {b d s c : Int32} (h : whyDunk y b d s c = 0) : inB' y b ∧ dOk d s c := by
  unfold whyDunk at h
  split at h
  · cases h
  · split at h
    · rename_i a b; exact ⟨Classical.not_not.mp a, b⟩
    · cases h
theorem turn_ok {kd a t : Nat} {D : Dk} (ho : okD kd a t D) : okD kd a t (turnD D) := by
  obtain ⟨⟨o1, o2, o3, o4⟩, p⟩ := ho
  refine ⟨⟨o1, o2, o3, fun i => ?_⟩, p⟩
  show turnW D.1 D.2.1 i ≤ 99
  unfold turnW
  split
  · exact o4 _
  · exact o4 _
theorem QY.s {B : Nat} {M M2 : MM} {y : Sys} {o : Int32 × Sys} {r : Int32} (h : RY B M y) (ho : okY y) (hS : Sc B M M2) (e : o = (r, y)) : r = o.1 ∧ RY B M2 o.2 ∧ okY o.2 ∧ Sm B M M2 0 80 := by
  subst e
  exact ⟨rfl, h.sc ho hS, ho, hS.x⟩
theorem turn_RD {B k kd a h t : Nat} {M M2 : MM} {D : Dk} (hR : RD B M k kd a h t D) (h1 : RB M2 (B + (k + 1)) (B + (k + 1 + 1)) (kd, a, D.1, turnW D.1 D.2.1)) (h2 : Sm B M M2 (k + 1 + 1) (k + 1 + 2)) : RD B M2 k kd a h t (turnD D) := by
  refine ⟨h1, ?_⟩
  rw [h2.i (by omega)]
  exact hR.2
section X6E
variable {E : EE} {B : Nat} {M : MM}
theorem cx_whyDunk {y : Sys} {b d s c : Int32} (h : RY B M y) (ho : okY y) : Ct E B yX6_whyNoDunk cX6_whyNoDunk 5 (some .int) 2 [.ref (B + 0), .int b, .int d, .int s, .int c] M (Rp (nI (whyDunk y b d s c)) M) := by
  refine Ct.of2 (own := RX6) (lv := [(0, .ref (B + 0)), (1, .int b), (2, .int d), (3, .int s), (4, .int c)]) pn_X6 rfl (Nat.le_of_ble_eq_true rfl) rfl ?_
  refine g_aload_n dX6_whyNoDunk_0 rfl rfl ?_
  refine g_getR dX6_whyNoDunk_1 fl_X6_18 rfl rfl ?_
  refine g_iload_n dX6_whyNoDunk_4 rfl rfl ?_
  refine g_callVp dX6_whyNoDunk_5 mi_X5_hasBiscuit ml_X6_123 (ct_hasB h) isS_2.1 rfl rfl rfl (Nat.le_of_ble_eq_true rfl) ⟨lt_r rfl, Nat.le_of_ble_eq_true rfl⟩ ?_
  refine g_if_neP (tgt := 13) dX6_whyNoDunk_8 (by decide) (fun c_8 => ?_) (fun c_8 => ?_)
  · refine g_iload_n dX6_whyNoDunk_13 rfl rfl ?_
    refine g_iload_n dX6_whyNoDunk_14 rfl rfl ?_
    refine g_iload dX6_whyNoDunk_15 rfl ?_
    refine g_callSp dX6_whyNoDunk_17 ms_X6_mayBeDunk ml_X6_227 (ct_X6_mayBeDunk) rfl rfl (Nat.le_of_ble_eq_true rfl) ⟨lt_r rfl, Nat.le_of_ble_eq_true rfl⟩ ?_
    refine g_if_eqP (tgt := 27) dX6_whyNoDunk_20 (by decide) (fun c_20 => ?_) (fun c_20 => ?_)
    · refine g_bipush dX6_whyNoDunk_27 kB_6 ?_
      refine g_iret dX6_whyNoDunk_29 ⟨_, rfl, ?_⟩
      refine ⟨?_, rfl⟩
      unfold whyDunk
      first | rw [if_neg (fun z => z c_8), if_pos c_20] | rw [if_neg (fun z => z c_8), if_neg c_20]
    · refine g_iconst dX6_whyNoDunk_23 kI_0 ?_
      refine g_goto (tgt := 29) dX6_whyNoDunk_24 (by decide) ?_
      refine g_iret dX6_whyNoDunk_29 ⟨_, rfl, ?_⟩
      refine ⟨?_, rfl⟩
      unfold whyDunk
      first | rw [if_neg (fun z => z c_8), if_pos c_20] | rw [if_neg (fun z => z c_8), if_neg c_20]
  · refine g_iconst dX6_whyNoDunk_11 kI_1 ?_
    refine g_iret dX6_whyNoDunk_12 ⟨_, rfl, ?_⟩
    exact ⟨by unfold whyDunk; rw [if_pos c_8], rfl⟩
theorem cx_dunk {y : Sys} {k2 d s c : Nat} {b : Bi} (h : RY B M y) (ho : okY y) (hb : isB k2) (hne : 50 ≤ k2 ∨ k2 + 2 ≤ 47) (hR : RB M (B + k2) (B + (k2 + 1)) b) (hob : okB b) (hd : d ≤ 12) (hs : s ≤ 60) (hc : c ≤ 60) : Ct E B yX6_dunkAndCarry cX6_dunkAndCarry 5 none 4 [.ref (B + 0), .ref (B + k2), .int (nI d), .int (nI s), .int (nI c)] M (Rv (fun M2 => RD B M2 47 b.1 b.2.1 (sHt (yN y)) (0 + s + c) (dunkD b (sHt (yN y)) d s c) ∧ Sm B M M2 47 50)) := by
  have hh := ho.2.1.2.2.2.1
  refine Ct.of2 (own := RX6) (lv := [(0, .ref (B + 0)), (1, .ref (B + k2)), (2, .int (nI d)), (3, .int (nI s)), (4, .int (nI c))]) pn_X6 rfl (Nat.le_of_ble_eq_true rfl) rfl ?_
  refine g_aload_n dX6_dunkAndCarry_0 rfl rfl ?_
  refine g_getR dX6_dunkAndCarry_1 fl_X6_31 rfl rfl ?_
  refine g_aload_n dX6_dunkAndCarry_4 rfl rfl ?_
  refine g_aload_n dX6_dunkAndCarry_5 rfl rfl ?_
  refine g_getR dX6_dunkAndCarry_6 fl_X6_18 rfl rfl ?_
  refine g_getI dX6_dunkAndCarry_9 fl_X6_181 isS_2.1 rfl (h.2.1.2.2.2.1) ?_
  refine g_callVv dX6_dunkAndCarry_12 mi_X2_begin ml_X6_233 (ct_X2_begin isD_47 hb (by omega) hR hob) isD_47.1 rfl rfl rfl (Nat.le_of_ble_eq_true rfl) ⟨lt_r rfl, Nat.le_of_ble_eq_true rfl⟩ (fun M12 h12 => ?_)
  refine g_aload_n dX6_dunkAndCarry_15 rfl rfl ?_
  refine g_getR dX6_dunkAndCarry_16 fl_X6_31 rfl rfl ?_
  refine g_iload_n dX6_dunkAndCarry_19 rfl rfl ?_
  refine g_iload_n dX6_dunkAndCarry_20 rfl rfl ?_
  refine g_callVv dX6_dunkAndCarry_21 mi_X2_stay ml_X6_247 (ct_X2_stay isD_47 h12.1 (new_ok hob) hh (by omega) (by omega)) isD_47.1 rfl rfl rfl (Nat.le_of_ble_eq_true rfl) ⟨lt_r rfl, Nat.le_of_ble_eq_true rfl⟩ (fun M21 h21 => ?_)
  refine g_aload_n dX6_dunkAndCarry_24 rfl rfl ?_
  refine g_getR dX6_dunkAndCarry_25 fl_X6_31 rfl rfl ?_
  refine g_iconst dX6_dunkAndCarry_28 kI_0 ?_
  refine g_iload dX6_dunkAndCarry_29 rfl ?_
  refine g_callVv dX6_dunkAndCarry_31 mi_X2_stay ml_X6_247 (ct_X2_stay isD_47 (d := 0) h21.1 (dipD_ok hob) hh (by decide) (by omega)) isD_47.1 rfl rfl rfl (Nat.le_of_ble_eq_true rfl) ⟨lt_r rfl, Nat.le_of_ble_eq_true rfl⟩ (fun M31 h31 => ?_)
  refine g_vret dX6_dunkAndCarry_34 ⟨rfl, ?_⟩
  exact ⟨h31.1, Sm.tr (Sm.tr h12.2 h21.2) h31.2⟩
theorem cx_left {y : Sys} {b d s c : Int32} (h : RY B M y) (ho : okY y) : Ct E B yX6_left cX6_left 6 (some .int) 5 [.ref (B + 0), .int b, .int d, .int s, .int c] M (QY B M (o_left y b d s c)) := by
  have hw := whyDunk_le (y := y) (b := b) (d := d) (s := s) (c := c)
  have hcn := ho.2.1.2.2.1
  refine Ct.of2 (own := RX6) (lv := [(0, .ref (B + 0)), (1, .int b), (2, .int d), (3, .int s), (4, .int c)]) pn_X6 rfl (Nat.le_of_ble_eq_true rfl) rfl ?_
  refine g_aload_n dX6_left_0 rfl rfl ?_
  refine g_iload_n dX6_left_1 rfl rfl ?_
  refine g_iload_n dX6_left_2 rfl rfl ?_
  refine g_iload_n dX6_left_3 rfl rfl ?_
  refine g_iload dX6_left_4 rfl ?_
  refine g_callVp dX6_left_6 mi_X6_whyNoDunk ml_X6_217 (cx_whyDunk h ho) rfl rfl rfl rfl (Nat.le_of_ble_eq_true rfl) ⟨lt_r rfl, Nat.le_of_ble_eq_true rfl⟩ ?_
  refine g_istore dX6_left_9 (lt_r rfl) rfl ?_
  refine g_iload dX6_left_11 rfl ?_
  refine g_if_eqN (tgt := 23) dX6_left_13 (by decide) rfl (by omega) (fun c_13 => ?_) (fun c_13 => ?_)
  · have e9 : o_left y b d s c = _ := if_neg (fun z => z c_13)
    rw [e9]
    obtain ⟨z1, z2, z3, z4⟩ := whyDunk_0 c_13
    unfold dunkY
    obtain ⟨q, hq, rfl, f1⟩ := in_b hcn z1
    obtain ⟨d', -, hd, rfl, f2⟩ := btw_n (by decide) (by decide) z2
    obtain ⟨s', -, hs, rfl, f3⟩ := btw_n (by decide) (by decide) z3
    obtain ⟨c', -, hc, rfl, f4⟩ := btw_n (by decide) (by decide) z4
    rw [f1, f2, f3, f4]
    refine g_aload_n dX6_left_23 rfl rfl ?_
    refine g_aload_n dX6_left_24 rfl rfl ?_
    refine g_getR dX6_left_25 fl_X6_18 rfl rfl ?_
    refine g_getR dX6_left_28 fl_X6_141 isS_2.1 rfl ?_
    refine g_iload_n dX6_left_31 rfl rfl ?_
    refine g_aald dX6_left_32 isS_2.2.1 rfl (isS_b (by omega)) ?_
    refine g_iload_n dX6_left_33 rfl rfl ?_
    refine g_iload_n dX6_left_34 rfl rfl ?_
    refine g_iload dX6_left_35 rfl ?_
    refine g_callVv dX6_left_37 mi_X6_dunkAndCarry ml_X6_221 (cx_dunk h ho (isS_2.2.2.2 _ (by omega)) (by omega) (h.2.1.1 q hq) (ho.2.1.1 q hq) hd hs hc) rfl rfl rfl rfl (Nat.le_of_ble_eq_true rfl) ⟨lt_r rfl, Nat.le_of_ble_eq_true rfl⟩ (fun M37 h37 => ?_)
    refine g_aload_n dX6_left_40 rfl rfl ?_
    refine g_getR dX6_left_41 fl_X6_31 rfl rfl ?_
    refine g_getR dX6_left_44 fl_X6_225 isD_47.1 rfl ?_
    refine g_getI dX6_left_47 fl_X6_162 isD_47.2.1 rfl (h37.1.1.2.2.1) ?_
    refine g_iret dX6_left_50 ⟨_, rfl, ?_⟩
    exact QY.s h ho (Sc.s h37.2 (by omega)) rfl
  · refine g_aload_n dX6_left_16 rfl rfl ?_
    refine g_iload dX6_left_17 rfl ?_
    refine g_callVi dX6_left_19 mi_X6_refused ml_X6_83 (ct_X6_refused h ho (by omega) (by omega)) rfl rfl rfl rfl (Nat.le_of_ble_eq_true rfl) ⟨lt_r rfl, Nat.le_of_ble_eq_true rfl⟩ (fun x19 M19 h19 => ?_)
    refine g_iret dX6_left_22 ⟨_, rfl, ?_⟩
    exact QY.rf ho (if_pos (by omega)) h19
theorem cx_when {y : Sys} {b d s c : Int32} (h : RY B M y) (ho : okY y) : Ct E B yX6_when cX6_when 6 (some .int) 5 [.ref (B + 0), .int b, .int d, .int s, .int c] M (QY B M (o_when y b d s c)) := by
  have hw := whyDunk_le (y := y) (b := b) (d := d) (s := s) (c := c)
  have hcn := ho.2.1.2.2.1
  refine Ct.of2 (own := RX6) (lv := [(0, .ref (B + 0)), (1, .int b), (2, .int d), (3, .int s), (4, .int c)]) pn_X6 rfl (Nat.le_of_ble_eq_true rfl) rfl ?_
  refine g_aload_n dX6_when_0 rfl rfl ?_
  refine g_iload_n dX6_when_1 rfl rfl ?_
  refine g_iload_n dX6_when_2 rfl rfl ?_
  refine g_iload_n dX6_when_3 rfl rfl ?_
  refine g_iload dX6_when_4 rfl ?_
  refine g_callVp dX6_when_6 mi_X6_whyNoDunk ml_X6_217 (cx_whyDunk h ho) rfl rfl rfl rfl (Nat.le_of_ble_eq_true rfl) ⟨lt_r rfl, Nat.le_of_ble_eq_true rfl⟩ ?_
  refine g_istore dX6_when_9 (lt_r rfl) rfl ?_
  refine g_iload dX6_when_11 rfl ?_
  refine g_if_eqN (tgt := 26) dX6_when_13 (by decide) rfl (by omega) (fun c_13 => ?_) (fun c_13 => ?_)
  · have e9 : o_when y b d s c = _ := if_neg (fun z => z c_13)
    rw [e9]
    obtain ⟨z1, z2, z3, z4⟩ := whyDunk_0 c_13
    unfold dunkY
    obtain ⟨q, hq, rfl, f1⟩ := in_b hcn z1
    obtain ⟨d', -, hd, rfl, f2⟩ := btw_n (by decide) (by decide) z2
    obtain ⟨s', -, hs, rfl, f3⟩ := btw_n (by decide) (by decide) z3
    obtain ⟨c', -, hc, rfl, f4⟩ := btw_n (by decide) (by decide) z4
    rw [f1, f2, f3, f4]
    refine g_aload_n dX6_when_26 rfl rfl ?_
    refine g_aload_n dX6_when_27 rfl rfl ?_
    refine g_getR dX6_when_28 fl_X6_18 rfl rfl ?_
    refine g_getR dX6_when_31 fl_X6_141 isS_2.1 rfl ?_
    refine g_iload_n dX6_when_34 rfl rfl ?_
    refine g_aald dX6_when_35 isS_2.2.1 rfl (isS_b (by omega)) ?_
    refine g_iload_n dX6_when_36 rfl rfl ?_
    refine g_iload_n dX6_when_37 rfl rfl ?_
    refine g_iload dX6_when_38 rfl ?_
    refine g_callVv dX6_when_40 mi_X6_dunkAndCarry ml_X6_221 (cx_dunk h ho (isS_2.2.2.2 _ (by omega)) (by omega) (h.2.1.1 q hq) (ho.2.1.1 q hq) hd hs hc) rfl rfl rfl rfl (Nat.le_of_ble_eq_true rfl) ⟨lt_r rfl, Nat.le_of_ble_eq_true rfl⟩ (fun M40 h40 => ?_)
    refine g_aload_n dX6_when_43 rfl rfl ?_
    refine g_getR dX6_when_44 fl_X6_31 rfl rfl ?_
    refine g_getI dX6_when_47 fl_X6_230 isD_47.1 rfl (h40.1.2.2.2.2.1) ?_
    refine g_iret dX6_when_50 ⟨_, rfl, ?_⟩
    exact QY.s h ho (Sc.s h40.2 (by omega)) rfl
  · refine g_aload_n dX6_when_16 rfl rfl ?_
    refine g_iload dX6_when_17 rfl ?_
    refine g_callVi dX6_when_19 mi_X6_refused ml_X6_83 (ct_X6_refused h ho (by omega) (by omega)) rfl rfl rfl rfl (Nat.le_of_ble_eq_true rfl) ⟨lt_r rfl, Nat.le_of_ble_eq_true rfl⟩ (fun x19 M19 h19 => ?_)
    refine g_bipush dX6_when_22 kB_10 ?_
    refine g_isub dX6_when_24 rfl ?_
    refine g_iret dX6_when_25 ⟨_, rfl, ?_⟩
    exact QY.rl ho (if_pos (by omega)) h19
theorem cx_goes {y : Sys} {b d s : Int32} (h : RY B M y) (ho : okY y) : Ct E B yX6_goes cX6_goes 5 (some .int) 5 [.ref (B + 0), .int b, .int d, .int s] M (QY B M (o_goes y b d s)) := by
  have hw := whyDunk_le (y := y) (b := b) (d := d) (s := s) (c := nI 0)
  have hcn := ho.2.1.2.2.1
  refine Ct.of2 (own := RX6) (lv := [(0, .ref (B + 0)), (1, .int b), (2, .int d), (3, .int s)]) pn_X6 rfl (Nat.le_of_ble_eq_true rfl) rfl ?_
  refine g_aload_n dX6_goes_0 rfl rfl ?_
  refine g_iload_n dX6_goes_1 rfl rfl ?_
  refine g_iload_n dX6_goes_2 rfl rfl ?_
  refine g_iload_n dX6_goes_3 rfl rfl ?_
  refine g_iconst dX6_goes_4 kI_0 ?_
  refine g_callVp dX6_goes_5 mi_X6_whyNoDunk ml_X6_217 (cx_whyDunk h ho) rfl rfl rfl rfl (Nat.le_of_ble_eq_true rfl) ⟨lt_r rfl, Nat.le_of_ble_eq_true rfl⟩ ?_
  refine g_istore dX6_goes_8 (lt_r rfl) rfl ?_
  refine g_iload dX6_goes_10 rfl ?_
  refine g_if_eqN (tgt := 22) dX6_goes_12 (by decide) rfl (by omega) (fun c_12 => ?_) (fun c_12 => ?_)
  · have e9 : o_goes y b d s = _ := if_neg (fun z => z c_12)
    rw [e9]
    obtain ⟨z1, z2, z3, z4⟩ := whyDunk_0 c_12
    unfold dunkY
    obtain ⟨q, hq, rfl, f1⟩ := in_b hcn z1
    obtain ⟨d', -, hd, rfl, f2⟩ := btw_n (by decide) (by decide) z2
    obtain ⟨s', -, hs, rfl, f3⟩ := btw_n (by decide) (by decide) z3
    rw [f1, f2, f3, tn_nI (show 0 < 2 ^ 31 by decide)]
    refine g_aload_n dX6_goes_22 rfl rfl ?_
    refine g_aload_n dX6_goes_23 rfl rfl ?_
    refine g_getR dX6_goes_24 fl_X6_18 rfl rfl ?_
    refine g_getR dX6_goes_27 fl_X6_141 isS_2.1 rfl ?_
    refine g_iload_n dX6_goes_30 rfl rfl ?_
    refine g_aald dX6_goes_31 isS_2.2.1 rfl (isS_b (by omega)) ?_
    refine g_iload_n dX6_goes_32 rfl rfl ?_
    refine g_iload_n dX6_goes_33 rfl rfl ?_
    refine g_iconst dX6_goes_34 kI_0 ?_
    refine g_callVv dX6_goes_35 mi_X6_dunkAndCarry ml_X6_221 (cx_dunk (c := 0) h ho (isS_2.2.2.2 _ (by omega)) (by omega) (h.2.1.1 q hq) (ho.2.1.1 q hq) hd hs (by decide)) rfl rfl rfl rfl (Nat.le_of_ble_eq_true rfl) ⟨lt_r rfl, Nat.le_of_ble_eq_true rfl⟩ (fun M35 h35 => ?_)
    refine g_aload_n dX6_goes_38 rfl rfl ?_
    refine g_getR dX6_goes_39 fl_X6_31 rfl rfl ?_
    refine g_getI dX6_goes_42 fl_X6_267 isD_47.1 rfl (h35.1.2.2.2.2.2.2) ?_
    refine g_iret dX6_goes_45 ⟨_, rfl, ?_⟩
    exact QY.s h ho (Sc.s h35.2 (by omega)) rfl
  · refine g_aload_n dX6_goes_15 rfl rfl ?_
    refine g_iload dX6_goes_16 rfl ?_
    refine g_callVi dX6_goes_18 mi_X6_refused ml_X6_83 (ct_X6_refused h ho (by omega) (by omega)) rfl rfl rfl rfl (Nat.le_of_ble_eq_true rfl) ⟨lt_r rfl, Nat.le_of_ble_eq_true rfl⟩ (fun x18 M18 h18 => ?_)
    refine g_iret dX6_goes_21 ⟨_, rfl, ?_⟩
    exact QY.rf ho (if_pos (by omega)) h18
theorem cx_worth {y : Sys} {b d s c : Int32} (h : RY B M y) (ho : okY y) : Ct E B yX6_worth cX6_worth 6 (some .int) 5 [.ref (B + 0), .int b, .int d, .int s, .int c] M (QY B M (o_worth y b d s c)) := by
  have hw := whyDunk_le (y := y) (b := b) (d := d) (s := s) (c := c)
  have hcn := ho.2.1.2.2.1
  refine Ct.of2 (own := RX6) (lv := [(0, .ref (B + 0)), (1, .int b), (2, .int d), (3, .int s), (4, .int c)]) pn_X6 rfl (Nat.le_of_ble_eq_true rfl) rfl ?_
  refine g_aload_n dX6_worth_0 rfl rfl ?_
  refine g_iload_n dX6_worth_1 rfl rfl ?_
  refine g_iload_n dX6_worth_2 rfl rfl ?_
  refine g_iload_n dX6_worth_3 rfl rfl ?_
  refine g_iload dX6_worth_4 rfl ?_
  refine g_callVp dX6_worth_6 mi_X6_whyNoDunk ml_X6_217 (cx_whyDunk h ho) rfl rfl rfl rfl (Nat.le_of_ble_eq_true rfl) ⟨lt_r rfl, Nat.le_of_ble_eq_true rfl⟩ ?_
  refine g_istore dX6_worth_9 (lt_r rfl) rfl ?_
  refine g_iload dX6_worth_11 rfl ?_
  refine g_if_eqN (tgt := 23) dX6_worth_13 (by decide) rfl (by omega) (fun c_13 => ?_) (fun c_13 => ?_)
  · have e9 : o_worth y b d s c = _ := if_neg (fun z => z c_13)
    rw [e9]
    obtain ⟨z1, z2, z3, z4⟩ := whyDunk_0 c_13
    unfold dunkY
    obtain ⟨q, hq, rfl, f1⟩ := in_b hcn z1
    obtain ⟨d', -, hd, rfl, f2⟩ := btw_n (by decide) (by decide) z2
    obtain ⟨s', -, hs, rfl, f3⟩ := btw_n (by decide) (by decide) z3
    obtain ⟨c', -, hc, rfl, f4⟩ := btw_n (by decide) (by decide) z4
    rw [f1, f2, f3, f4]
    refine g_aload_n dX6_worth_23 rfl rfl ?_
    refine g_aload_n dX6_worth_24 rfl rfl ?_
    refine g_getR dX6_worth_25 fl_X6_18 rfl rfl ?_
    refine g_getR dX6_worth_28 fl_X6_141 isS_2.1 rfl ?_
    refine g_iload_n dX6_worth_31 rfl rfl ?_
    refine g_aald dX6_worth_32 isS_2.2.1 rfl (isS_b (by omega)) ?_
    refine g_iload_n dX6_worth_33 rfl rfl ?_
    refine g_iload_n dX6_worth_34 rfl rfl ?_
    refine g_iload dX6_worth_35 rfl ?_
    refine g_callVv dX6_worth_37 mi_X6_dunkAndCarry ml_X6_221 (cx_dunk h ho (isS_2.2.2.2 _ (by omega)) (by omega) (h.2.1.1 q hq) (ho.2.1.1 q hq) hd hs hc) rfl rfl rfl rfl (Nat.le_of_ble_eq_true rfl) ⟨lt_r rfl, Nat.le_of_ble_eq_true rfl⟩ (fun M37 h37 => ?_)
    have hy := h.sc ho (Sc.s h37.2 (by omega))
    refine g_aload_n dX6_worth_40 rfl rfl ?_
    refine g_getR dX6_worth_41 fl_X6_18 rfl rfl ?_
    refine g_aload_n dX6_worth_44 rfl rfl ?_
    refine g_getR dX6_worth_45 fl_X6_31 rfl rfl ?_
    refine g_getR dX6_worth_48 fl_X6_225 isD_47.1 rfl ?_
    refine g_callVp dX6_worth_51 mi_X5_worthOfCells ml_X6_253 (ct_X5_worthOfCells isS_2 isD_47.2 hy.2.1 ho.2.1 h37.1.1 (dunk_ok (ho.2.1.1 q hq)).1) isS_2.1 rfl rfl rfl (Nat.le_of_ble_eq_true rfl) ⟨lt_r rfl, Nat.le_of_ble_eq_true rfl⟩ ?_
    refine g_iret dX6_worth_54 ⟨_, rfl, ?_⟩
    exact QY.s h ho (Sc.s h37.2 (by omega)) rfl
  · refine g_aload_n dX6_worth_16 rfl rfl ?_
    refine g_iload dX6_worth_17 rfl ?_
    refine g_callVi dX6_worth_19 mi_X6_refused ml_X6_83 (ct_X6_refused h ho (by omega) (by omega)) rfl rfl rfl rfl (Nat.le_of_ble_eq_true rfl) ⟨lt_r rfl, Nat.le_of_ble_eq_true rfl⟩ (fun x19 M19 h19 => ?_)
    refine g_iret dX6_worth_22 ⟨_, rfl, ?_⟩
    exact QY.rf ho (if_pos (by omega)) h19
theorem cx_wetness {y : Sys} {b d s c l : Int32} (h : RY B M y) (ho : okY y) : Ct E B yX6_wetness cX6_wetness 6 (some .int) 5 [.ref (B + 0), .int b, .int d, .int s, .int c, .int l] M (QY B M (o_wetness y b d s c l)) := by
  have hcn := ho.2.1.2.2.1
  refine Ct.of2 (own := RX6) (lv := [(0, .ref (B + 0)), (1, .int b), (2, .int d), (3, .int s), (4, .int c), (5, .int l)]) pn_X6 rfl (Nat.le_of_ble_eq_true rfl) rfl ?_
  refine g_aload_n dX6_wetness_0 rfl rfl ?_
  refine g_getR dX6_wetness_1 fl_X6_18 rfl rfl ?_
  refine g_iload_n dX6_wetness_4 rfl rfl ?_
  refine g_callVp dX6_wetness_5 mi_X5_hasBiscuit ml_X6_123 (ct_hasB h) isS_2.1 rfl rfl rfl (Nat.le_of_ble_eq_true rfl) ⟨lt_r rfl, Nat.le_of_ble_eq_true rfl⟩ ?_
  refine g_if_neP (tgt := 17) dX6_wetness_8 (by decide) (fun c_8 => ?_) (fun c_8 => ?_)
  · refine g_iload dX6_wetness_17 rfl ?_
    refine g_if_ge (tgt := 28) dX6_wetness_19 (by decide) (fun c_19 => ?_) (fun c_19 => ?_)
    · refine g_iload_n dX6_wetness_28 rfl rfl ?_
      refine g_iload_n dX6_wetness_29 rfl rfl ?_
      refine g_iload dX6_wetness_30 rfl ?_
      refine g_callSp dX6_wetness_32 ms_X6_mayBeDunk ml_X6_227 (ct_X6_mayBeDunk) rfl rfl (Nat.le_of_ble_eq_true rfl) ⟨lt_r rfl, Nat.le_of_ble_eq_true rfl⟩ ?_
      refine g_if_neP (tgt := 45) dX6_wetness_35 (by decide) (fun c_35 => ?_) (fun c_35 => ?_)
      · have e9 : o_wetness y b d s c l = _ := (if_neg (fun z => z c_8)).trans ((if_neg (Int32.not_lt.mpr c_19)).trans (if_neg (fun z => z c_35)))
        rw [e9]
        obtain ⟨z2, z3, z4⟩ := c_35
        unfold dunkY
        obtain ⟨q, hq, rfl, f1⟩ := in_b hcn c_8
        obtain ⟨d', -, hd, rfl, f2⟩ := btw_n (by decide) (by decide) z2
        obtain ⟨s', -, hs, rfl, f3⟩ := btw_n (by decide) (by decide) z3
        obtain ⟨c', -, hc, rfl, f4⟩ := btw_n (by decide) (by decide) z4
        rw [f1, f2, f3, f4]
        refine g_aload_n dX6_wetness_45 rfl rfl ?_
        refine g_aload_n dX6_wetness_46 rfl rfl ?_
        refine g_getR dX6_wetness_47 fl_X6_18 rfl rfl ?_
        refine g_getR dX6_wetness_50 fl_X6_141 isS_2.1 rfl ?_
        refine g_iload_n dX6_wetness_53 rfl rfl ?_
        refine g_aald dX6_wetness_54 isS_2.2.1 rfl (isS_b (by omega)) ?_
        refine g_iload_n dX6_wetness_55 rfl rfl ?_
        refine g_iload_n dX6_wetness_56 rfl rfl ?_
        refine g_iload dX6_wetness_57 rfl ?_
        refine g_callVv dX6_wetness_59 mi_X6_dunkAndCarry ml_X6_221 (cx_dunk h ho (isS_2.2.2.2 _ (by omega)) (by omega) (h.2.1.1 q hq) (ho.2.1.1 q hq) hd hs hc) rfl rfl rfl rfl (Nat.le_of_ble_eq_true rfl) ⟨lt_r rfl, Nat.le_of_ble_eq_true rfl⟩ (fun M59 h59 => ?_)
        have hy := h.sc ho (Sc.s h59.2 (by omega))
        have hok := dunk_ok (h := sHt (yN y)) (d := d') (s := s') (c := c') (ho.2.1.1 q hq)
        have hok3 := hok.1.2.2.1
        have hlen : (dunkD (sBs (yN y) q) (sHt (yN y)) d' s' c').1 ≤ 12 := hok3
        refine g_aload_n dX6_wetness_62 rfl rfl ?_
        refine g_getR dX6_wetness_63 fl_X6_31 rfl rfl ?_
        refine g_getR dX6_wetness_66 fl_X6_225 isD_47.1 rfl ?_
        refine g_iload dX6_wetness_69 rfl ?_
        refine g_callVp dX6_wetness_71 mi_X1_hasCell ml_X6_171 (ct_X1_hasCell isD_47.2) isD_47.2.1 rfl rfl rfl (Nat.le_of_ble_eq_true rfl) ⟨lt_r rfl, Nat.le_of_ble_eq_true rfl⟩ ?_
        rw [h59.1.1.2.2.1]
        refine g_if_neP (tgt := 83) dX6_wetness_74 (by decide) (fun c_74 => ?_) (fun c_74 => ?_)
        · obtain ⟨j, hj, rfl⟩ := in_nI (by show (dunkD (sBs (yN y) q) (sHt (yN y)) d' s' c').1 < _; omega) c_74
          have hj : j < (dunkD (sBs (yN y) q) (sHt (yN y)) d' s' c').1 := hj
          refine g_aload_n dX6_wetness_83 rfl rfl ?_
          refine g_getR dX6_wetness_84 fl_X6_31 rfl rfl ?_
          refine g_getR dX6_wetness_87 fl_X6_225 isD_47.1 rfl ?_
          refine g_getR dX6_wetness_90 fl_X6_174 isD_47.2.1 rfl ?_
          refine g_iload dX6_wetness_93 rfl ?_
          refine g_iald dX6_wetness_95 isD_47.2.2 rfl (by omega) (h59.1.1.2.2.2 j hj) ?_
          refine g_iret dX6_wetness_96 ⟨_, rfl, ?_⟩
          rw [if_neg (fun z => z c_74.2), tn_nI (by omega)]
          exact QY.s h ho (Sc.s h59.2 (by omega)) rfl
        · refine g_aload_n dX6_wetness_77 rfl rfl ?_
          refine g_iconst dX6_wetness_78 kI_5 ?_
          refine g_callVi dX6_wetness_79 mi_X6_refused ml_X6_83 (ct_X6_refused hy ho (by decide) (by decide)) rfl rfl rfl rfl (Nat.le_of_ble_eq_true rfl) ⟨lt_r rfl, Nat.le_of_ble_eq_true rfl⟩ (fun x79 M79 h79 => ?_)
          refine g_iret dX6_wetness_82 ⟨_, rfl, ?_⟩
          obtain ⟨a1, a2, a3⟩ := h79
          rw [if_pos (fun z => c_74 ⟨c_19, z⟩)]
          exact ⟨a1, a2, ho, Sm.tr (h59.2.up (by omega) (by omega)) (a3.up (by omega) (by omega))⟩
      · refine g_aload_n dX6_wetness_38 rfl rfl ?_
        refine g_bipush dX6_wetness_39 kB_6 ?_
        refine g_callVi dX6_wetness_41 mi_X6_refused ml_X6_83 (ct_X6_refused h ho (by decide) (by decide)) rfl rfl rfl rfl (Nat.le_of_ble_eq_true rfl) ⟨lt_r rfl, Nat.le_of_ble_eq_true rfl⟩ (fun x41 M41 h41 => ?_)
        refine g_iret dX6_wetness_44 ⟨_, rfl, ?_⟩
        exact QY.rf ho (by unfold o_wetness; rw [if_neg (fun z => z c_8), if_neg (Int32.not_lt.mpr c_19), if_pos c_35]) h41
    · refine g_aload_n dX6_wetness_22 rfl rfl ?_
      refine g_iconst dX6_wetness_23 kI_5 ?_
      refine g_callVi dX6_wetness_24 mi_X6_refused ml_X6_83 (ct_X6_refused h ho (by decide) (by decide)) rfl rfl rfl rfl (Nat.le_of_ble_eq_true rfl) ⟨lt_r rfl, Nat.le_of_ble_eq_true rfl⟩ (fun x24 M24 h24 => ?_)
      refine g_iret dX6_wetness_27 ⟨_, rfl, ?_⟩
      exact QY.rf ho (by unfold o_wetness; rw [if_neg (fun z => z c_8), if_pos (Int32.not_le.mp c_19)]) h24
  · refine g_aload_n dX6_wetness_11 rfl rfl ?_
    refine g_iconst dX6_wetness_12 kI_1 ?_
    refine g_callVi dX6_wetness_13 mi_X6_refused ml_X6_83 (ct_X6_refused h ho (by decide) (by decide)) rfl rfl rfl rfl (Nat.le_of_ble_eq_true rfl) ⟨lt_r rfl, Nat.le_of_ble_eq_true rfl⟩ (fun x13 M13 h13 => ?_)
    refine g_iret dX6_wetness_16 ⟨_, rfl, ?_⟩
    exact QY.rf ho (if_pos c_8) h13
theorem cx_twice {y : Sys} {b d s d2 s2 : Int32} (h : RY B M y) (ho : okY y) : Ct E B yX6_twice cX6_twice 6 (some .int) 5 [.ref (B + 0), .int b, .int d, .int s, .int d2, .int s2] M (QY B M (o_twice y b d s d2 s2)) := by
  have hcn := ho.2.1.2.2.1
  have hh := ho.2.1.2.2.2.1
  refine Ct.of2 (own := RX6) (lv := [(0, .ref (B + 0)), (1, .int b), (2, .int d), (3, .int s), (4, .int d2), (5, .int s2)]) pn_X6 rfl (Nat.le_of_ble_eq_true rfl) rfl ?_
  refine g_aload_n dX6_twice_0 rfl rfl ?_
  refine g_getR dX6_twice_1 fl_X6_18 rfl rfl ?_
  refine g_iload_n dX6_twice_4 rfl rfl ?_
  refine g_callVp dX6_twice_5 mi_X5_hasBiscuit ml_X6_123 (ct_hasB h) isS_2.1 rfl rfl rfl (Nat.le_of_ble_eq_true rfl) ⟨lt_r rfl, Nat.le_of_ble_eq_true rfl⟩ ?_
  refine g_if_neP (tgt := 17) dX6_twice_8 (by decide) (fun c_8 => ?_) (fun c_8 => ?_)
  · refine g_iload_n dX6_twice_17 rfl rfl ?_
    refine g_iload_n dX6_twice_18 rfl rfl ?_
    refine g_iconst dX6_twice_19 kI_0 ?_
    refine g_callSp dX6_twice_20 ms_X6_mayBeDunk ml_X6_227 (ct_X6_mayBeDunk) rfl rfl (Nat.le_of_ble_eq_true rfl) ⟨lt_r rfl, Nat.le_of_ble_eq_true rfl⟩ ?_
    refine g_if_eqP (tgt := 37) dX6_twice_23 (by decide) (fun c_23 => ?_) (fun c_23 => ?_)
    · refine g_aload_n dX6_twice_37 rfl rfl ?_
      refine g_bipush dX6_twice_38 kB_6 ?_
      refine g_callVi dX6_twice_40 mi_X6_refused ml_X6_83 (ct_X6_refused h ho (by decide) (by decide)) rfl rfl rfl rfl (Nat.le_of_ble_eq_true rfl) ⟨lt_r rfl, Nat.le_of_ble_eq_true rfl⟩ (fun x40 M40 h40 => ?_)
      refine g_iret dX6_twice_43 ⟨_, rfl, ?_⟩
      exact QY.rf ho (by unfold o_twice; rw [if_neg (fun z => z c_8), if_pos (fun z => by first | exact c_23 z.1 | exact c_34 z.2)]) h40
    · refine g_iload dX6_twice_26 rfl ?_
      refine g_iload dX6_twice_28 rfl ?_
      refine g_iconst dX6_twice_30 kI_0 ?_
      refine g_callSp dX6_twice_31 ms_X6_mayBeDunk ml_X6_227 (ct_X6_mayBeDunk) rfl rfl (Nat.le_of_ble_eq_true rfl) ⟨lt_r rfl, Nat.le_of_ble_eq_true rfl⟩ ?_
      refine g_if_neP (tgt := 44) dX6_twice_34 (by decide) (fun c_34 => ?_) (fun c_34 => ?_)
      · have e9 : o_twice y b d s d2 s2 = _ := (if_neg (fun z => z c_8)).trans (if_neg (fun z => z ⟨c_23, c_34⟩))
        rw [e9]
        obtain ⟨z2, z3, -⟩ := c_23
        obtain ⟨z4, z5, -⟩ := c_34
        obtain ⟨q, hq, rfl, f1⟩ := in_b hcn c_8
        obtain ⟨d', -, hd, rfl, f2⟩ := btw_n (by decide) (by decide) z2
        obtain ⟨s', -, hs, rfl, f3⟩ := btw_n (by decide) (by decide) z3
        obtain ⟨d3, -, hd3, rfl, f4⟩ := btw_n (by decide) (by decide) z4
        obtain ⟨s3, -, hs3, rfl, f5⟩ := btw_n (by decide) (by decide) z5
        rw [f1, f2, f3, f4, f5]
        have hob := ho.2.1.1 q hq
        refine g_aload_n dX6_twice_44 rfl rfl ?_
        refine g_getR dX6_twice_45 fl_X6_31 rfl rfl ?_
        refine g_aload_n dX6_twice_48 rfl rfl ?_
        refine g_getR dX6_twice_49 fl_X6_18 rfl rfl ?_
        refine g_getR dX6_twice_52 fl_X6_141 isS_2.1 rfl ?_
        refine g_iload_n dX6_twice_55 rfl rfl ?_
        refine g_aald dX6_twice_56 isS_2.2.1 rfl (isS_b (by omega)) ?_
        refine g_aload_n dX6_twice_57 rfl rfl ?_
        refine g_getR dX6_twice_58 fl_X6_18 rfl rfl ?_
        refine g_getI dX6_twice_61 fl_X6_181 isS_2.1 rfl (h.2.1.2.2.2.1) ?_
        refine g_callVv dX6_twice_64 mi_X2_begin ml_X6_233 (ct_X2_begin isD_47 (isS_2.2.2.2 _ (by omega)) (by omega) (h.2.1.1 q hq) hob) isD_47.1 rfl rfl rfl (Nat.le_of_ble_eq_true rfl) ⟨lt_r rfl, Nat.le_of_ble_eq_true rfl⟩ (fun M64 h64 => ?_)
        refine g_aload_n dX6_twice_67 rfl rfl ?_
        refine g_getR dX6_twice_68 fl_X6_31 rfl rfl ?_
        refine g_iload_n dX6_twice_71 rfl rfl ?_
        refine g_iload_n dX6_twice_72 rfl rfl ?_
        refine g_callVv dX6_twice_73 mi_X2_stay ml_X6_247 (ct_X2_stay isD_47 h64.1 (new_ok hob) hh (by omega) (by omega)) isD_47.1 rfl rfl rfl (Nat.le_of_ble_eq_true rfl) ⟨lt_r rfl, Nat.le_of_ble_eq_true rfl⟩ (fun M73 h73 => ?_)
        refine g_aload_n dX6_twice_76 rfl rfl ?_
        refine g_getR dX6_twice_77 fl_X6_31 rfl rfl ?_
        refine g_getR dX6_twice_80 fl_X6_225 isD_47.1 rfl ?_
        refine g_callVv dX6_twice_83 mi_X1_turnAbout ml_X6_261 (ct_X1_turnAbout isD_47.2 h73.1.1 (run_ok (ent_ok (new_ok hob)) s').1) isD_47.2.1 rfl rfl rfl (Nat.le_of_ble_eq_true rfl) ⟨lt_r rfl, Nat.le_of_ble_eq_true rfl⟩ (fun M83 h83 => ?_)
        refine g_aload_n dX6_twice_86 rfl rfl ?_
        refine g_getR dX6_twice_87 fl_X6_31 rfl rfl ?_
        refine g_iload dX6_twice_90 rfl ?_
        refine g_iload dX6_twice_92 rfl ?_
        refine g_callVv dX6_twice_94 mi_X2_stay ml_X6_247 (ct_X2_stay isD_47 (turn_RD h73.1 h83.1 h83.2) (turn_ok (run_ok (ent_ok (new_ok hob)) s')) hh (by omega) (by omega)) isD_47.1 rfl rfl rfl (Nat.le_of_ble_eq_true rfl) ⟨lt_r rfl, Nat.le_of_ble_eq_true rfl⟩ (fun M94 h94 => ?_)
        have hS : Sm B M M94 47 50 := Sm.tr (Sm.tr (Sm.tr h64.2 h73.2) (h83.2.up (by omega) (by omega))) h94.2
        have hy := h.sc ho (Sc.s hS (by omega))
        refine g_aload_n dX6_twice_97 rfl rfl ?_
        refine g_getR dX6_twice_98 fl_X6_18 rfl rfl ?_
        refine g_aload_n dX6_twice_101 rfl rfl ?_
        refine g_getR dX6_twice_102 fl_X6_31 rfl rfl ?_
        refine g_getR dX6_twice_105 fl_X6_225 isD_47.1 rfl ?_
        refine g_callVp dX6_twice_108 mi_X5_worthOfCells ml_X6_253 (ct_X5_worthOfCells isS_2 isD_47.2 hy.2.1 ho.2.1 h94.1.1 (run_ok (ent_ok (turn_ok (run_ok (ent_ok (new_ok hob)) s'))) s3).1) isS_2.1 rfl rfl rfl (Nat.le_of_ble_eq_true rfl) ⟨lt_r rfl, Nat.le_of_ble_eq_true rfl⟩ ?_
        refine g_iret dX6_twice_111 ⟨_, rfl, ?_⟩
        exact QY.s h ho (Sc.s hS (by omega)) rfl
      · refine g_aload_n dX6_twice_37 rfl rfl ?_
        refine g_bipush dX6_twice_38 kB_6 ?_
        refine g_callVi dX6_twice_40 mi_X6_refused ml_X6_83 (ct_X6_refused h ho (by decide) (by decide)) rfl rfl rfl rfl (Nat.le_of_ble_eq_true rfl) ⟨lt_r rfl, Nat.le_of_ble_eq_true rfl⟩ (fun x40 M40 h40 => ?_)
        refine g_iret dX6_twice_43 ⟨_, rfl, ?_⟩
        exact QY.rf ho (by unfold o_twice; rw [if_neg (fun z => z c_8), if_pos (fun z => by first | exact c_23 z.1 | exact c_34 z.2)]) h40
  · refine g_aload_n dX6_twice_11 rfl rfl ?_
    refine g_iconst dX6_twice_12 kI_1 ?_
    refine g_callVi dX6_twice_13 mi_X6_refused ml_X6_83 (ct_X6_refused h ho (by decide) (by decide)) rfl rfl rfl rfl (Nat.le_of_ble_eq_true rfl) ⟨lt_r rfl, Nat.le_of_ble_eq_true rfl⟩ (fun x13 M13 h13 => ?_)
    refine g_iret dX6_twice_16 ⟨_, rfl, ?_⟩
    exact QY.rf ho (if_pos c_8) h13
end X6E
