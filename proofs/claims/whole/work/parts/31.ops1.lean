/-! the calls, first part: what each answers and leaves -/
def o_row (y : Sys) (s so n : Int32) : Int32 × Sys :=
  if ¬ (0 ≤ s ∧ s < nI 8) then rz y 1 else if ¬ 0 ≤ n then rz y 4 else if ¬ (nI 0 ≤ so ∧ so ≤ nI 3) then rz y 6 else if ¬ n ≤ nI 160 then rz y 7 else (nI 1, setH y (tn s) (1, tn so, tn n, fun _ => 0))
def o_set (y : Sys) (s i : Int32) (v : Int64) : Int32 × Sys :=
  if ¬ whyRow y s = 0 then rz y (whyRow y s) else if ¬ (0 ≤ i ∧ i < nI (yH y (tn s)).2.2.1) then rz y 5 else (nI 1, setH y (tn s) (1, (yH y (tn s)).2.1, (yH y (tn s)).2.2.1, upF (yH y (tn s)).2.2.2 (tn i) (lowI (yH y (tn s)).2.1 v)))
def whyCopy (y : Sys) (p q i j n : Int32) : Nat :=
  if whyRow y p = 1 ∨ whyRow y q = 1 then 1 else if whyRow y p = 2 ∨ whyRow y q = 2 then 2 else if whyRow y p = 3 ∨ whyRow y q = 3 then 3 else
  if ¬ (yH y (tn p)).2.1 = (yH y (tn q)).2.1 then 2 else if ¬ 0 ≤ n then 4 else if i < 0 ∨ j < 0 ∨ nI (yH y (tn p)).2.2.1 - n < i ∨ nI (yH y (tn q)).2.2.1 - n < j then 5 else 0
def o_copy (y : Sys) (p q i j n : Int32) : Int32 × Sys :=
  if ¬ whyCopy y p q i j n = 0 then rz y (whyCopy y p q i j n) else (nI 1, setH y (tn q) (1, (yH y (tn q)).2.1, (yH y (tn q)).2.2.1, va_cpy (yH y (tn p)).2.2.2 (yH y (tn q)).2.2.2 (tn i) (tn j) (tn n)))
def o_element (y : Sys) (s i : Int32) : Int64 × Sys := (if 0 ≤ s ∧ s < nI 8 then elI (yH y (tn s)) i else 0, y)
def o_show (y : Sys) (s b : Int32) : Int32 × Sys :=
  if ¬ (0 ≤ s ∧ s < nI 8) then rz y 1 else if b = -1 then (nI 0, setH y (tn s) (0, 0, 0, fun _ => 0)) else if ¬ (0 ≤ b ∧ b < nI (sCn (yN y))) then rz y 1 else (nI 1, setH y (tn s) (2, tn b, 0, fun _ => 0))
def o_holds (y : Sys) (s : Int32) : Int32 × Sys := (if 0 ≤ s ∧ s < nI 8 then tellI (yH y (tn s)) else -1, y)
def saysI (y : Sys) (b : Bi) (kd : Nat) : Int32 :=
  if kd = 3 then nI b.2.1 else if kd = 5 then holdI b.1 b.2.1 0 else if kd = 6 then holdI b.1 b.2.1 10 else if kd = 0 then nI b.2.2.1 else nI (soakN b.1 b.2.1 b.2.2.1 0 (sHt (yN y)))
def ofND (kd g : Nat) : Decidable (ofN kd g) := by unfold ofN; exact inferInstance
def o_says (y : Sys) (s kd : Int32) : Int32 × Sys :=
  if ¬ (0 ≤ s ∧ s < nI 8) then rz y 1 else if ¬ (nI 0 ≤ kd ∧ kd ≤ nI 6) then rz y 1 else if (yH y (tn s)).1 = 1 then rz y 2 else if (yH y (tn s)).1 = 0 then rz y 3 else
  if @decide _ (ofND (sBs (yN y) (yH y (tn s)).2.1).1 (tn kd)) = true then (saysI y (sBs (yN y) (yH y (tn s)).2.1) (tn kd), y) else rz y 2
def o_biscuit (y : Sys) (kd n a : Int32) : Int32 × Sys :=
  if ¬ (nI 0 ≤ kd ∧ kd ≤ nI 6) then rz y 1 else if ¬ ((nI 1 ≤ n ∧ n ≤ nI 12) ∧ nI 0 ≤ a ∧ a ≤ nI 9) then rz y 6 else if ¬ sCn (yN y) < 6 then rz y 7 else (nI (sCn (yN y)), setN y (addS (yN y) (tn kd) (tn n) (tn a)))
def o_biscuitOf (y : Sys) (b w : Int32) : Int32 × Sys :=
  if ¬ (0 ≤ b ∧ b < nI (sCn (yN y))) then rz y 5 else
  if w = nI 0 then (nI (sBs (yN y) (tn b)).1, y) else if w = nI 1 then (nI (sBs (yN y) (tn b)).2.2.1, y) else if w = nI 2 then (nI (sBs (yN y) (tn b)).2.1, y) else if w = nI 3 then (nI (sumN (sBs (yN y) (tn b)).2.2.2 (sBs (yN y) (tn b)).2.2.1), y) else
  if w < nI 10 then rz y 5 else if ¬ (0 ≤ w - nI 10 ∧ w - nI 10 < nI (sBs (yN y) (tn b)).2.2.1) then rz y 5 else (nI ((sBs (yN y) (tn b)).2.2.2 (tn (w - nI 10))), y)
def cellOk (y : Sys) (b c : Int32) : Prop := (0 ≤ b ∧ b < nI (sCn (yN y))) ∧ 0 ≤ c ∧ c < nI (sBs (yN y) (tn b)).2.2.1
def wetS (s : St) (q c v : Nat) : St := (setB s q (sBs s q).2.2.1 (upF (sBs s q).2.2.2 c v), s.2)
def o_wet (y : Sys) (b c v : Int32) : Int32 × Sys :=
  if ¬ ((0 ≤ b ∧ b < nI (sCn (yN y))) ∧ 0 ≤ c ∧ c < nI (sBs (yN y) (tn b)).2.2.1) then rz y 1 else if ¬ (nI 0 ≤ v ∧ v ≤ nI 99) then rz y 6 else (nI ((sBs (yN y) (tn b)).2.2.2 (tn c)), setN y (wetS (yN y) (tn b) (tn c) (tn v)))
def o_ask (y : Sys) (w v : Int32) : Int32 × Sys :=
  if w = 0 ∧ nI 0 ≤ v ∧ v ≤ nI 99 then (nI (sHt (yN y)), setN y (sBs (yN y), sWo (yN y), sCn (yN y), tn v, (yN y).2.2.2.2))
  else if w = nI 1 ∧ nI 1 ≤ v ∧ v ≤ nI 99 then (nI (sLo (yN y)), setN y (sBs (yN y), sWo (yN y), sCn (yN y), sHt (yN y), tn v, (yN y).2.2.2.2.2))
  else if w = nI 2 ∧ nI 0 ≤ v ∧ v ≤ nI 9999 then (nI (sTe (yN y)), setN y (sBs (yN y), sWo (yN y), sCn (yN y), sHt (yN y), sLo (yN y), tn v, (yN y).2.2.2.2.2.2))
  else rz y 6
def o_worthOf (y : Sys) (w v : Int32) : Int32 × Sys :=
  if ¬ ((nI 0 ≤ w ∧ w ≤ nI 9) ∧ nI 0 ≤ v ∧ v ≤ nI 99) then rz y 6 else (nI (sWo (yN y) (tn w)), setN y (sBs (yN y), upF (sWo (yN y)) (tn w) (tn v), (yN y).2.2))
def setF (y : Sys) (f : Int32) : Sys := (yH y, yN y, yI y, yB y, f, y.2.2.2.2.2)
def o_table (y : Sys) (s : Int32) : Int32 × Sys :=
  if ¬ whyRow y s = 0 then rz y (whyRow y s) else
  if (readF (txOf (yH y (tn s))) 160 0 0 (yN y)).1 = true then (nI (readF (txOf (yH y (tn s))) 160 0 0 (yN y)).2.2.1, setN (setF y (-1)) (readF (txOf (yH y (tn s))) 160 0 0 (yN y)).2.2.2)
  else rz (setF y (nI (readF (txOf (yH y (tn s))) 160 0 0 (yN y)).2.1)) 6
def o_fault (y : Sys) : Int32 × Sys := (yF y, y)
def o_soak (y : Sys) (b c : Int32) : Int32 × Sys :=
  if ¬ ((0 ≤ b ∧ b < nI (sCn (yN y))) ∧ 0 ≤ c ∧ c < nI (sBs (yN y) (tn b)).2.2.1) then rz y 1 else (nI (soakN (sBs (yN y) (tn b)).1 (sBs (yN y) (tn b)).2.1 (sBs (yN y) (tn b)).2.2.1 (tn c) (sHt (yN y))), y)
/-- refused, and so much less -/
def rzl (y : Sys) (w k : Nat) : Int32 × Sys := (-(nI w) - nI k, rfz y w)
def o_cellOf (y : Sys) (b c w : Int32) : Int32 × Sys :=
  if ¬ ((0 ≤ b ∧ b < nI (sCn (yN y))) ∧ 0 ≤ c ∧ c < nI (sBs (yN y) (tn b)).2.2.1) then rzl y 1 1000 else
  if w = 0 then (holdI (sBs (yN y) (tn b)).1 (sBs (yN y) (tn b)).2.1 ((sBs (yN y) (tn b)).2.2.2 (tn c)), y) else if w = nI 1 then (nI (hangN (sBs (yN y) (tn b)).2.2.2 (tn c)), y) else rzl y 5 1000
def o_breaks (y : Sys) (b : Int32) : Int32 × Sys :=
  if ¬ (0 ≤ b ∧ b < nI (sCn (yN y))) then rzl y 1 10 else (brkI (brkN (sBs (yN y) (tn b)).1 (sBs (yN y) (tn b)).2.1 (sBs (yN y) (tn b)).2.2.1 (sBs (yN y) (tn b)).2.2.2), y)
/-- what a call of the class comes to -/
def QY (B : Nat) (M : MM) (o : Int32 × Sys) : Option Value → MM → Prop := Ri (fun r M2 => r = o.1 ∧ RY B M2 o.2 ∧ okY o.2 ∧ Sm B M M2 0 80)
theorem QY.rf {B : Nat} {M M2 : MM} {y : Sys} {o : Int32 × Sys} {r : Int32} {w : Nat} (ho : okY y) (e : o = rz y w) (h : r = -(nI w) ∧ RY B M2 (rfz y w) ∧ Sm B M M2 60 61) : r = o.1 ∧ RY B M2 o.2 ∧ okY o.2 ∧ Sm B M M2 0 80 := by
  subst e
  exact ⟨h.1, h.2.1, ho, h.2.2.up (by omega) (by omega)⟩
theorem QY.rl {B : Nat} {M M2 : MM} {y : Sys} {o : Int32 × Sys} {r : Int32} {w k : Nat} (ho : okY y) (e : o = rzl y w k) (h : r = -(nI w) ∧ RY B M2 (rfz y w) ∧ Sm B M M2 60 61) : r - nI k = o.1 ∧ RY B M2 o.2 ∧ okY o.2 ∧ Sm B M M2 0 80 := by
  subst e
  exact ⟨by rw [h.1]; rfl, h.2.1, ho, h.2.2.up (by omega) (by omega)⟩
/-- nothing is changed -/
theorem QY.p {B : Nat} {M : MM} {y : Sys} {o : Int32 × Sys} {r : Int32} (h : RY B M y) (ho : okY y) (e : o = (r, y)) : r = o.1 ∧ RY B M o.2 ∧ okY o.2 ∧ Sm B M M 0 80 := by
  subst e
  exact ⟨rfl, h, ho, Sm.rf⟩
theorem whyRow_le {y : Sys} {s : Int32} : whyRow y s ≤ 3 := by
  unfold whyRow
  repeat' split
  all_goals omega
theorem whyRow_0 {y : Sys} {s : Int32} (h : whyRow y s = 0) : (0 ≤ s ∧ s < nI 8) ∧ (yH y (tn s)).1 = 1 := by
  unfold whyRow at h
  by_cases a : 0 ≤ s ∧ s < nI 8
  · rw [if_neg (fun z => z a)] at h
    by_cases b : (yH y (tn s)).1 = 1
    · exact ⟨a, b⟩
    · rw [if_neg b] at h
      split at h <;> cases h
  · rw [if_pos a] at h; cases h
theorem whyCopy_le {y : Sys} {p q i j n : Int32} : whyCopy y p q i j n ≤ 5 := by
  unfold whyCopy
  repeat' split
  all_goals omega
theorem ne_toI {x : Int32} {v : Nat} (hv : v < 2 ^ 31) (h : ¬ x.toInt = v) : ¬ x = nI v := fun z => h (by rw [z, nI_toInt hv])
section X6B
variable {E : EE} {B : Nat} {M : MM}
theorem cx_row {y : Sys} {s so n : Int32} (h : RY B M y) (ho : okY y) : Ct E B yX6_row cX6_row 4 (some .int) 1 [.ref (B + 0), .int s, .int so, .int n] M (QY B M (o_row y s so n)) := by
  refine Ct.of2 (own := RX6) (lv := [(0, .ref (B + 0)), (1, .int s), (2, .int so), (3, .int n)]) pn_X6 rfl (Nat.le_of_ble_eq_true rfl) rfl ?_
  refine g_iload_n dX6_row_0 rfl rfl ?_
  refine g_callSp dX6_row_1 ms_X6_isShelf ml_X6_79 (ct_X6_isShelf) rfl rfl (Nat.le_of_ble_eq_true rfl) ⟨lt_r rfl, Nat.le_of_ble_eq_true rfl⟩ ?_
  refine g_if_neP (tgt := 13) dX6_row_4 (by decide) (fun c_4 => ?_) (fun c_4 => ?_)
  · refine g_iload_n dX6_row_13 rfl rfl ?_
    refine g_if_ge (tgt := 23) dX6_row_14 (by decide) (fun c_14 => ?_) (fun c_14 => ?_)
    · refine g_iload_n dX6_row_23 rfl rfl ?_
      refine g_iconst dX6_row_24 kI_0 ?_
      refine g_iconst dX6_row_25 kI_3 ?_
      refine g_callSp dX6_row_26 ms_X6_isWithin ml_X6_87 (ct_X6_isWithin) rfl rfl (Nat.le_of_ble_eq_true rfl) ⟨lt_r rfl, Nat.le_of_ble_eq_true rfl⟩ ?_
      refine g_if_neP (tgt := 39) dX6_row_29 (by decide) (fun c_29 => ?_) (fun c_29 => ?_)
      · refine g_iload_n dX6_row_39 rfl rfl ?_
        refine g_sipush dX6_row_40 kS_160 ?_
        refine g_icmp_le (tgt := 53) dX6_row_43 (by decide) (fun c_43 => ?_) (fun c_43 => ?_)
        · have e9 : o_row y s so n = (nI 1, setH y (tn s) (1, tn so, tn n, fun _ => 0)) := by unfold o_row; rw [if_neg (fun z => z c_4), if_neg (fun z => z c_14), if_neg (fun z => z c_29), if_neg (fun z => z c_43)]
          obtain ⟨q, hq, rfl, e1⟩ := in_sh c_4
          obtain ⟨so', -, hso, rfl, e2⟩ := btw_n (by decide) (by decide) c_29
          obtain ⟨n', -, hn, rfl, e3⟩ := btw_n (lo := 0) (by decide) (by decide) (show nI 0 ≤ n ∧ n ≤ nI 160 from ⟨c_14, c_43⟩)
          refine g_aload_n dX6_row_53 rfl rfl ?_
          refine g_getR dX6_row_54 fl_X6_11 rfl rfl ?_
          refine g_iload_n dX6_row_57 rfl rfl ?_
          refine g_aald dX6_row_58 rfl rfl (isH_s (by omega)) ?_
          refine g_iload_n dX6_row_59 rfl rfl ?_
          refine g_iload_n dX6_row_60 rfl rfl ?_
          refine g_callVv dX6_row_61 mi_X4_takeRow ml_X6_91 (ct_X4_takeRow (isH_n (by omega))) (isH_n (by omega)).1 rfl rfl rfl (Nat.le_of_ble_eq_true rfl) ⟨lt_r rfl, Nat.le_of_ble_eq_true rfl⟩ (fun M61 h61 => ?_)
          refine g_iconst dX6_row_64 kI_1 ?_
          refine g_iret dX6_row_65 ⟨_, rfl, ?_⟩
          rw [e9, e1, e2, e3]
          exact ⟨rfl, h.h ho hq h61.2 (h61.1 hn), ok_setH ho ⟨by show 1 ≤ 2; omega, fun _ => ⟨hso, hn⟩, fun z => absurd z (by show ¬ 1 = 2; omega)⟩, h61.2.up (by omega) (by omega)⟩
        · refine g_aload_n dX6_row_46 rfl rfl ?_
          refine g_bipush dX6_row_47 kB_7 ?_
          refine g_callVi dX6_row_49 mi_X6_refused ml_X6_83 (ct_X6_refused h ho (by decide) (by decide)) rfl rfl rfl rfl (Nat.le_of_ble_eq_true rfl) ⟨lt_r rfl, Nat.le_of_ble_eq_true rfl⟩ (fun x49 M49 h49 => ?_)
          refine g_iret dX6_row_52 ⟨_, rfl, ?_⟩
          exact QY.rf ho (by unfold o_row; rw [if_neg (fun z => z c_4), if_neg (fun z => z c_14), if_neg (fun z => z c_29), if_pos c_43]) h49
      · refine g_aload_n dX6_row_32 rfl rfl ?_
        refine g_bipush dX6_row_33 kB_6 ?_
        refine g_callVi dX6_row_35 mi_X6_refused ml_X6_83 (ct_X6_refused h ho (by decide) (by decide)) rfl rfl rfl rfl (Nat.le_of_ble_eq_true rfl) ⟨lt_r rfl, Nat.le_of_ble_eq_true rfl⟩ (fun x35 M35 h35 => ?_)
        refine g_iret dX6_row_38 ⟨_, rfl, ?_⟩
        exact QY.rf ho (by unfold o_row; rw [if_neg (fun z => z c_4), if_neg (fun z => z c_14), if_pos c_29]) h35
    · refine g_aload_n dX6_row_17 rfl rfl ?_
      refine g_iconst dX6_row_18 kI_4 ?_
      refine g_callVi dX6_row_19 mi_X6_refused ml_X6_83 (ct_X6_refused h ho (by decide) (by decide)) rfl rfl rfl rfl (Nat.le_of_ble_eq_true rfl) ⟨lt_r rfl, Nat.le_of_ble_eq_true rfl⟩ (fun x19 M19 h19 => ?_)
      refine g_iret dX6_row_22 ⟨_, rfl, ?_⟩
      exact QY.rf ho (by unfold o_row; rw [if_neg (fun z => z c_4), if_pos c_14]) h19
  · refine g_aload_n dX6_row_7 rfl rfl ?_
    refine g_iconst dX6_row_8 kI_1 ?_
    refine g_callVi dX6_row_9 mi_X6_refused ml_X6_83 (ct_X6_refused h ho (by decide) (by decide)) rfl rfl rfl rfl (Nat.le_of_ble_eq_true rfl) ⟨lt_r rfl, Nat.le_of_ble_eq_true rfl⟩ (fun x9 M9 h9 => ?_)
    refine g_iret dX6_row_12 ⟨_, rfl, ?_⟩
    exact QY.rf ho (if_pos c_4) h9
theorem cx_set {y : Sys} {s i : Int32} {v : Int64} (h : RY B M y) (ho : okY y) : Ct E B yX6_set cX6_set 6 (some .int) 2 [.ref (B + 0), .int s, .int i, .long v] M (QY B M (o_set y s i v)) := by
  have hw := whyRow_le (y := y) (s := s)
  refine Ct.of2 (own := RX6) (lv := [(0, .ref (B + 0)), (1, .int s), (2, .int i), (3, .long v)]) pn_X6 rfl (Nat.le_of_ble_eq_true rfl) rfl ?_
  refine g_aload_n dX6_set_0 rfl rfl ?_
  refine g_iload_n dX6_set_1 rfl rfl ?_
  refine g_callVp dX6_set_2 mi_X6_whyNoRow ml_X6_95 (ct_X6_whyNoRow h ho) rfl rfl rfl rfl (Nat.le_of_ble_eq_true rfl) ⟨lt_r rfl, Nat.le_of_ble_eq_true rfl⟩ ?_
  refine g_istore dX6_set_5 (lt_r rfl) rfl ?_
  refine g_iload dX6_set_7 rfl ?_
  refine g_if_eqN (tgt := 19) dX6_set_9 (by decide) rfl (by omega) (fun c_9 => ?_) (fun c_9 => ?_)
  · obtain ⟨d1, d2⟩ := whyRow_0 c_9
    obtain ⟨q, hq, rfl, e1⟩ := in_sh d1
    rw [e1] at d2
    refine g_aload_n dX6_set_19 rfl rfl ?_
    refine g_getR dX6_set_20 fl_X6_11 rfl rfl ?_
    refine g_iload_n dX6_set_23 rfl rfl ?_
    refine g_aald dX6_set_24 rfl rfl (isH_s (by omega)) ?_
    refine g_iload_n dX6_set_25 rfl rfl ?_
    refine g_callVp dX6_set_26 mi_X4_hasElement ml_X6_98 (ct_X4_hasElement (isH_n (by omega))) (isH_n (by omega)).1 rfl rfl rfl (Nat.le_of_ble_eq_true rfl) ⟨lt_r rfl, Nat.le_of_ble_eq_true rfl⟩ ?_
    refine g_if_neP (tgt := 38) dX6_set_29 (by decide) (fun c_29 => ?_) (fun c_29 => ?_)
    · rw [(h.1 q hq).2.1, if_pos d2] at c_29
      have hlen := (ho.1 q hq).2.1 d2
      obtain ⟨j, hj, rfl⟩ := in_nI (by omega) c_29
      have e2 : tn (nI j) = j := nI_clamp (by omega)
      refine g_aload_n dX6_set_38 rfl rfl ?_
      refine g_getR dX6_set_39 fl_X6_11 rfl rfl ?_
      refine g_iload_n dX6_set_42 rfl rfl ?_
      refine g_aald dX6_set_43 rfl rfl (isH_s (by omega)) ?_
      refine g_iload_n dX6_set_44 rfl rfl ?_
      refine g_lload_n dX6_set_45 rfl rfl ?_
      refine g_callVv dX6_set_46 mi_X4_put ml_X6_101 (ct_X4_put (isH_n (by omega)) (h.1 q hq) (ho.1 q hq) d2 hj) (isH_n (by omega)).1 rfl rfl rfl (Nat.le_of_ble_eq_true rfl) ⟨lt_r rfl, Nat.le_of_ble_eq_true rfl⟩ (fun M46 h46 => ?_)
      refine g_iconst dX6_set_49 kI_1 ?_
      refine g_iret dX6_set_50 ⟨_, rfl, ?_⟩
      have e9 : o_set y (nI q) (nI j) v = (nI 1, setH y q (1, (yH y q).2.1, (yH y q).2.2.1, upF (yH y q).2.2.2 j (lowI (yH y q).2.1 v))) := by unfold o_set; rw [if_neg (fun z => z c_9), e1, if_neg (fun z => z c_29), e2]
      rw [e9]
      exact ⟨rfl, h.h ho hq h46.2 h46.1, ok_setH ho ⟨by show 1 ≤ 2; omega, fun _ => hlen, fun z => absurd z (by show ¬ 1 = 2; omega)⟩, h46.2.up (by omega) (by omega)⟩
    · refine g_aload_n dX6_set_32 rfl rfl ?_
      refine g_iconst dX6_set_33 kI_5 ?_
      refine g_callVi dX6_set_34 mi_X6_refused ml_X6_83 (ct_X6_refused h ho (by decide) (by decide)) rfl rfl rfl rfl (Nat.le_of_ble_eq_true rfl) ⟨lt_r rfl, Nat.le_of_ble_eq_true rfl⟩ (fun x34 M34 h34 => ?_)
      refine g_iret dX6_set_37 ⟨_, rfl, ?_⟩
      refine QY.rf ho ?_ h34
      unfold o_set
      rw [if_neg (fun z => z c_9), if_pos (by rw [e1]; intro z; apply c_29; rw [(h.1 q hq).2.1, if_pos d2]; exact z)]
  · refine g_aload_n dX6_set_12 rfl rfl ?_
    refine g_iload dX6_set_13 rfl ?_
    refine g_callVi dX6_set_15 mi_X6_refused ml_X6_83 (ct_X6_refused h ho (by omega) (by omega)) rfl rfl rfl rfl (Nat.le_of_ble_eq_true rfl) ⟨lt_r rfl, Nat.le_of_ble_eq_true rfl⟩ (fun x15 M15 h15 => ?_)
    refine g_iret dX6_set_18 ⟨_, rfl, ?_⟩
    exact QY.rf ho (if_pos (by omega)) h15
theorem cx_element {y : Sys} {s i : Int32} (h : RY B M y) (ho : okY y) : Ct E B yX6_element cX6_element 3 (some .long) 2 [.ref (B + 0), .int s, .int i] M (Rl (fun r M2 => r = (o_element y s i).1 ∧ M2 = M)) := by
  refine Ct.of2 (own := RX6) (lv := [(0, .ref (B + 0)), (1, .int s), (2, .int i)]) pn_X6 rfl (Nat.le_of_ble_eq_true rfl) rfl ?_
  refine g_iload_n dX6_element_0 rfl rfl ?_
  refine g_callSp dX6_element_1 ms_X6_isShelf ml_X6_79 (ct_X6_isShelf) rfl rfl (Nat.le_of_ble_eq_true rfl) ⟨lt_r rfl, Nat.le_of_ble_eq_true rfl⟩ ?_
  refine g_if_eqP (tgt := 20) dX6_element_4 (by decide) (fun c_4 => ?_) (fun c_4 => ?_)
  · refine g_lconst (v := 0) dX6_element_20 (by decide) ?_
    refine g_lret dX6_element_21 ⟨_, rfl, ?_⟩
    refine ⟨?_, rfl⟩
    unfold o_element
    first | rw [if_pos c_4, e1] | rw [if_neg c_4]
  · obtain ⟨q, hq, rfl, e1⟩ := in_sh c_4
    refine g_aload_n dX6_element_7 rfl rfl ?_
    refine g_getR dX6_element_8 fl_X6_11 rfl rfl ?_
    refine g_iload_n dX6_element_11 rfl rfl ?_
    refine g_aald dX6_element_12 rfl rfl (isH_s (by omega)) ?_
    refine g_iload_n dX6_element_13 rfl rfl ?_
    refine g_callVl dX6_element_14 mi_X4_elementAt ml_X6_119 (ct_X4_elementAt (isH_n (by omega)) (h.1 q hq) (ho.1 q hq)) (isH_n (by omega)).1 rfl rfl rfl (Nat.le_of_ble_eq_true rfl) ⟨lt_r rfl, Nat.le_of_ble_eq_true rfl⟩ (fun x14 M14 h14 => ?_)
    obtain ⟨rfl, rfl⟩ := h14
    refine g_goto (tgt := 21) dX6_element_17 (by decide) ?_
    refine g_lret dX6_element_21 ⟨_, rfl, ?_⟩
    refine ⟨?_, rfl⟩
    unfold o_element
    first | rw [if_pos c_4, e1] | rw [if_neg c_4]
theorem cx_holds {y : Sys} {s : Int32} (h : RY B M y) (ho : okY y) : Ct E B yX6_holds cX6_holds 2 (some .int) 2 [.ref (B + 0), .int s] M (QY B M (o_holds y s)) := by
  refine Ct.of2 (own := RX6) (lv := [(0, .ref (B + 0)), (1, .int s)]) pn_X6 rfl (Nat.le_of_ble_eq_true rfl) rfl ?_
  refine g_iload_n dX6_holds_0 rfl rfl ?_
  refine g_callSp dX6_holds_1 ms_X6_isShelf ml_X6_79 (ct_X6_isShelf) rfl rfl (Nat.le_of_ble_eq_true rfl) ⟨lt_r rfl, Nat.le_of_ble_eq_true rfl⟩ ?_
  refine g_if_eqP (tgt := 19) dX6_holds_4 (by decide) (fun c_4 => ?_) (fun c_4 => ?_)
  · refine g_iconst dX6_holds_19 kI_m1 ?_
    refine g_iret dX6_holds_20 ⟨_, rfl, ?_⟩
    refine QY.p h ho ?_
    unfold o_holds
    first | rw [if_pos c_4, e1] | rw [if_neg c_4]
  · obtain ⟨q, hq, rfl, e1⟩ := in_sh c_4
    refine g_aload_n dX6_holds_7 rfl rfl ?_
    refine g_getR dX6_holds_8 fl_X6_11 rfl rfl ?_
    refine g_iload_n dX6_holds_11 rfl rfl ?_
    refine g_aald dX6_holds_12 rfl rfl (isH_s (by omega)) ?_
    refine g_callVp dX6_holds_13 mi_X4_tellsWhatItHolds ml_X6_130 (ct_X4_tellsWhatItHolds (isH_n (by omega)) (h.1 q hq) (ho.1 q hq)) (isH_n (by omega)).1 rfl rfl rfl (Nat.le_of_ble_eq_true rfl) ⟨lt_r rfl, Nat.le_of_ble_eq_true rfl⟩ ?_
    refine g_goto (tgt := 20) dX6_holds_16 (by decide) ?_
    refine g_iret dX6_holds_20 ⟨_, rfl, ?_⟩
    refine QY.p h ho ?_
    unfold o_holds
    first | rw [if_pos c_4, e1] | rw [if_neg c_4]
theorem cx_show {y : Sys} {s b : Int32} (h : RY B M y) (ho : okY y) : Ct E B yX6_show cX6_show 3 (some .int) 2 [.ref (B + 0), .int s, .int b] M (QY B M (o_show y s b)) := by
  refine Ct.of2 (own := RX6) (lv := [(0, .ref (B + 0)), (1, .int s), (2, .int b)]) pn_X6 rfl (Nat.le_of_ble_eq_true rfl) rfl ?_
  refine g_iload_n dX6_show_0 rfl rfl ?_
  refine g_callSp dX6_show_1 ms_X6_isShelf ml_X6_79 (ct_X6_isShelf) rfl rfl (Nat.le_of_ble_eq_true rfl) ⟨lt_r rfl, Nat.le_of_ble_eq_true rfl⟩ ?_
  refine g_if_eqP (tgt := 23) dX6_show_4 (by decide) (fun c_4 => ?_) (fun c_4 => ?_)
  · refine g_aload_n dX6_show_23 rfl rfl ?_
    refine g_iconst dX6_show_24 kI_1 ?_
    refine g_callVi dX6_show_25 mi_X6_refused ml_X6_83 (ct_X6_refused h ho (by decide) (by decide)) rfl rfl rfl rfl (Nat.le_of_ble_eq_true rfl) ⟨lt_r rfl, Nat.le_of_ble_eq_true rfl⟩ (fun x25 M25 h25 => ?_)
    refine g_iret dX6_show_28 ⟨_, rfl, ?_⟩
    first | exact QY.rf ho (if_pos c_4) h25 | exact QY.rf ho (by unfold o_show; rw [if_neg (fun z => z c_4), if_neg c_9, if_pos c_20]) h25
  · refine g_iload_n dX6_show_7 rfl rfl ?_
    refine g_iconst dX6_show_8 kI_m1 ?_
    refine g_icmp_eq (tgt := 29) dX6_show_9 (by decide) (fun c_9 => ?_) (fun c_9 => ?_)
    · obtain ⟨q, hq, rfl, e1⟩ := in_sh c_4
      refine g_aload_n dX6_show_29 rfl rfl ?_
      refine g_getR dX6_show_30 fl_X6_11 rfl rfl ?_
      refine g_iload_n dX6_show_33 rfl rfl ?_
      refine g_aald dX6_show_34 rfl rfl (isH_s (by omega)) ?_
      refine g_iload_n dX6_show_35 rfl rfl ?_
      refine g_callVv dX6_show_36 mi_X4_takeBiscuit ml_X6_126 (ct_X4_takeBiscuit (isH_n (by omega))) (isH_n (by omega)).1 rfl rfl rfl (Nat.le_of_ble_eq_true rfl) ⟨lt_r rfl, Nat.le_of_ble_eq_true rfl⟩ (fun M36 h36 => ?_)
      refine g_iload_n dX6_show_39 rfl rfl ?_
      refine g_iconst dX6_show_40 kI_m1 ?_
      refine g_icmp_ne (tgt := 48) dX6_show_41 (by decide) (fun c_41 => ?_) (fun c_41 => ?_)
      · refine g_iconst dX6_show_48 kI_1 ?_
        refine g_iret dX6_show_49 ⟨_, rfl, ?_⟩
        first | (have c_41 : b = -1 := c_41; have e9 : o_show y (nI q) b = (nI 0, setH y q (0, 0, 0, fun _ => 0)) := (by unfold o_show; rw [if_neg (fun z => z c_4), if_pos c_41, e1]); rw [e9]; obtain ⟨⟨a1, a2, a3⟩, a4⟩ := h36; exact ⟨rfl, h.h ho hq a4 ⟨a1, a2, a3.trans c_41, fun z => absurd z (by show ¬ 0 = 1; omega)⟩, ok_setH ho ⟨by show 0 ≤ 2; omega, fun z => absurd z (by show ¬ 0 = 1; omega), fun z => absurd z (by show ¬ 0 = 2; omega)⟩, a4.up (by omega) (by omega)⟩) | (have c_41 : ¬ b = -1 := c_41; obtain ⟨b', hb, rfl, e2⟩ := in_b ho.2.1.2.2.1 c_20; have e9 : o_show y (nI q) (nI b') = (nI 1, setH y q (2, b', 0, fun _ => 0)) := (by unfold o_show; rw [if_neg (fun z => z c_4), if_neg c_41, if_neg (fun z => z c_20), e1, e2]); rw [e9]; obtain ⟨⟨a1, a2, a3⟩, a4⟩ := h36; exact ⟨rfl, h.h ho hq a4 ⟨a1, a2, a3, fun z => absurd z (by show ¬ 2 = 1; omega)⟩, ok_setH ho ⟨by show 2 ≤ 2; omega, fun z => absurd z (by show ¬ 2 = 1; omega), fun _ => hb⟩, a4.up (by omega) (by omega)⟩) | exact absurd c_9 c_41
      · refine g_iconst dX6_show_44 kI_0 ?_
        refine g_goto (tgt := 49) dX6_show_45 (by decide) ?_
        refine g_iret dX6_show_49 ⟨_, rfl, ?_⟩
        first | (have c_41 : b = -1 := c_41; have e9 : o_show y (nI q) b = (nI 0, setH y q (0, 0, 0, fun _ => 0)) := (by unfold o_show; rw [if_neg (fun z => z c_4), if_pos c_41, e1]); rw [e9]; obtain ⟨⟨a1, a2, a3⟩, a4⟩ := h36; exact ⟨rfl, h.h ho hq a4 ⟨a1, a2, a3.trans c_41, fun z => absurd z (by show ¬ 0 = 1; omega)⟩, ok_setH ho ⟨by show 0 ≤ 2; omega, fun z => absurd z (by show ¬ 0 = 1; omega), fun z => absurd z (by show ¬ 0 = 2; omega)⟩, a4.up (by omega) (by omega)⟩) | (have c_41 : ¬ b = -1 := c_41; obtain ⟨b', hb, rfl, e2⟩ := in_b ho.2.1.2.2.1 c_20; have e9 : o_show y (nI q) (nI b') = (nI 1, setH y q (2, b', 0, fun _ => 0)) := (by unfold o_show; rw [if_neg (fun z => z c_4), if_neg c_41, if_neg (fun z => z c_20), e1, e2]); rw [e9]; obtain ⟨⟨a1, a2, a3⟩, a4⟩ := h36; exact ⟨rfl, h.h ho hq a4 ⟨a1, a2, a3, fun z => absurd z (by show ¬ 2 = 1; omega)⟩, ok_setH ho ⟨by show 2 ≤ 2; omega, fun z => absurd z (by show ¬ 2 = 1; omega), fun _ => hb⟩, a4.up (by omega) (by omega)⟩) | exact absurd c_9 c_41
    · refine g_aload_n dX6_show_12 rfl rfl ?_
      refine g_getR dX6_show_13 fl_X6_18 rfl rfl ?_
      refine g_iload_n dX6_show_16 rfl rfl ?_
      refine g_callVp dX6_show_17 mi_X5_hasBiscuit ml_X6_123 (ct_hasB h) isS_2.1 rfl rfl rfl (Nat.le_of_ble_eq_true rfl) ⟨lt_r rfl, Nat.le_of_ble_eq_true rfl⟩ ?_
      refine g_if_neP (tgt := 29) dX6_show_20 (by decide) (fun c_20 => ?_) (fun c_20 => ?_)
      · obtain ⟨q, hq, rfl, e1⟩ := in_sh c_4
        refine g_aload_n dX6_show_29 rfl rfl ?_
        refine g_getR dX6_show_30 fl_X6_11 rfl rfl ?_
        refine g_iload_n dX6_show_33 rfl rfl ?_
        refine g_aald dX6_show_34 rfl rfl (isH_s (by omega)) ?_
        refine g_iload_n dX6_show_35 rfl rfl ?_
        refine g_callVv dX6_show_36 mi_X4_takeBiscuit ml_X6_126 (ct_X4_takeBiscuit (isH_n (by omega))) (isH_n (by omega)).1 rfl rfl rfl (Nat.le_of_ble_eq_true rfl) ⟨lt_r rfl, Nat.le_of_ble_eq_true rfl⟩ (fun M36 h36 => ?_)
        refine g_iload_n dX6_show_39 rfl rfl ?_
        refine g_iconst dX6_show_40 kI_m1 ?_
        refine g_icmp_ne (tgt := 48) dX6_show_41 (by decide) (fun c_41 => ?_) (fun c_41 => ?_)
        · refine g_iconst dX6_show_48 kI_1 ?_
          refine g_iret dX6_show_49 ⟨_, rfl, ?_⟩
          first | (have c_41 : b = -1 := c_41; have e9 : o_show y (nI q) b = (nI 0, setH y q (0, 0, 0, fun _ => 0)) := (by unfold o_show; rw [if_neg (fun z => z c_4), if_pos c_41, e1]); rw [e9]; obtain ⟨⟨a1, a2, a3⟩, a4⟩ := h36; exact ⟨rfl, h.h ho hq a4 ⟨a1, a2, a3.trans c_41, fun z => absurd z (by show ¬ 0 = 1; omega)⟩, ok_setH ho ⟨by show 0 ≤ 2; omega, fun z => absurd z (by show ¬ 0 = 1; omega), fun z => absurd z (by show ¬ 0 = 2; omega)⟩, a4.up (by omega) (by omega)⟩) | (have c_41 : ¬ b = -1 := c_41; obtain ⟨b', hb, rfl, e2⟩ := in_b ho.2.1.2.2.1 c_20; have e9 : o_show y (nI q) (nI b') = (nI 1, setH y q (2, b', 0, fun _ => 0)) := (by unfold o_show; rw [if_neg (fun z => z c_4), if_neg c_41, if_neg (fun z => z c_20), e1, e2]); rw [e9]; obtain ⟨⟨a1, a2, a3⟩, a4⟩ := h36; exact ⟨rfl, h.h ho hq a4 ⟨a1, a2, a3, fun z => absurd z (by show ¬ 2 = 1; omega)⟩, ok_setH ho ⟨by show 2 ≤ 2; omega, fun z => absurd z (by show ¬ 2 = 1; omega), fun _ => hb⟩, a4.up (by omega) (by omega)⟩) | exact absurd c_9 c_41
        · refine g_iconst dX6_show_44 kI_0 ?_
          refine g_goto (tgt := 49) dX6_show_45 (by decide) ?_
          refine g_iret dX6_show_49 ⟨_, rfl, ?_⟩
          first | (have c_41 : b = -1 := c_41; have e9 : o_show y (nI q) b = (nI 0, setH y q (0, 0, 0, fun _ => 0)) := (by unfold o_show; rw [if_neg (fun z => z c_4), if_pos c_41, e1]); rw [e9]; obtain ⟨⟨a1, a2, a3⟩, a4⟩ := h36; exact ⟨rfl, h.h ho hq a4 ⟨a1, a2, a3.trans c_41, fun z => absurd z (by show ¬ 0 = 1; omega)⟩, ok_setH ho ⟨by show 0 ≤ 2; omega, fun z => absurd z (by show ¬ 0 = 1; omega), fun z => absurd z (by show ¬ 0 = 2; omega)⟩, a4.up (by omega) (by omega)⟩) | (have c_41 : ¬ b = -1 := c_41; obtain ⟨b', hb, rfl, e2⟩ := in_b ho.2.1.2.2.1 c_20; have e9 : o_show y (nI q) (nI b') = (nI 1, setH y q (2, b', 0, fun _ => 0)) := (by unfold o_show; rw [if_neg (fun z => z c_4), if_neg c_41, if_neg (fun z => z c_20), e1, e2]); rw [e9]; obtain ⟨⟨a1, a2, a3⟩, a4⟩ := h36; exact ⟨rfl, h.h ho hq a4 ⟨a1, a2, a3, fun z => absurd z (by show ¬ 2 = 1; omega)⟩, ok_setH ho ⟨by show 2 ≤ 2; omega, fun z => absurd z (by show ¬ 2 = 1; omega), fun _ => hb⟩, a4.up (by omega) (by omega)⟩) | exact absurd c_9 c_41
      · refine g_aload_n dX6_show_23 rfl rfl ?_
        refine g_iconst dX6_show_24 kI_1 ?_
        refine g_callVi dX6_show_25 mi_X6_refused ml_X6_83 (ct_X6_refused h ho (by decide) (by decide)) rfl rfl rfl rfl (Nat.le_of_ble_eq_true rfl) ⟨lt_r rfl, Nat.le_of_ble_eq_true rfl⟩ (fun x25 M25 h25 => ?_)
        refine g_iret dX6_show_28 ⟨_, rfl, ?_⟩
        first | exact QY.rf ho (if_pos c_4) h25 | exact QY.rf ho (by unfold o_show; rw [if_neg (fun z => z c_4), if_neg c_9, if_pos c_20]) h25
theorem cx_fault {y : Sys} (h : RY B M y) (ho : okY y) : Ct E B yX6_fault cX6_fault 1 (some .int) 0 [.ref (B + 0)] M (QY B M (o_fault y)) := by
  refine Ct.of2 (own := RX6) (lv := [(0, .ref (B + 0))]) pn_X6 rfl (Nat.le_of_ble_eq_true rfl) rfl ?_
  refine g_aload_n dX6_fault_0 rfl rfl ?_
  refine g_getI dX6_fault_1 fl_X6_74 rfl rfl (h.2.2.2.2.1) ?_
  refine g_iret dX6_fault_4 ⟨_, rfl, ?_⟩
  exact QY.p h ho rfl
theorem cx_biscuit {y : Sys} {kd n a : Int32} (h : RY B M y) (ho : okY y) : Ct E B yX6_biscuit cX6_biscuit 4 (some .int) 3 [.ref (B + 0), .int kd, .int n, .int a] M (QY B M (o_biscuit y kd n a)) := by
  refine Ct.of2 (own := RX6) (lv := [(0, .ref (B + 0)), (1, .int kd), (2, .int n), (3, .int a)]) pn_X6 rfl (Nat.le_of_ble_eq_true rfl) rfl ?_
  refine g_iload_n dX6_biscuit_0 rfl rfl ?_
  refine g_iconst dX6_biscuit_1 kI_0 ?_
  refine g_bipush dX6_biscuit_2 kB_6 ?_
  refine g_callSp dX6_biscuit_4 ms_X6_isWithin ml_X6_87 (ct_X6_isWithin) rfl rfl (Nat.le_of_ble_eq_true rfl) ⟨lt_r rfl, Nat.le_of_ble_eq_true rfl⟩ ?_
  refine g_if_neP (tgt := 16) dX6_biscuit_7 (by decide) (fun c_7 => ?_) (fun c_7 => ?_)
  · refine g_iload_n dX6_biscuit_16 rfl rfl ?_
    refine g_iconst dX6_biscuit_17 kI_1 ?_
    refine g_bipush dX6_biscuit_18 kB_12 ?_
    refine g_callSp dX6_biscuit_20 ms_X6_isWithin ml_X6_87 (ct_X6_isWithin) rfl rfl (Nat.le_of_ble_eq_true rfl) ⟨lt_r rfl, Nat.le_of_ble_eq_true rfl⟩ ?_
    refine g_if_eqP (tgt := 36) dX6_biscuit_23 (by decide) (fun c_23 => ?_) (fun c_23 => ?_)
    · refine g_aload_n dX6_biscuit_36 rfl rfl ?_
      refine g_bipush dX6_biscuit_37 kB_6 ?_
      refine g_callVi dX6_biscuit_39 mi_X6_refused ml_X6_83 (ct_X6_refused h ho (by decide) (by decide)) rfl rfl rfl rfl (Nat.le_of_ble_eq_true rfl) ⟨lt_r rfl, Nat.le_of_ble_eq_true rfl⟩ (fun x39 M39 h39 => ?_)
      refine g_iret dX6_biscuit_42 ⟨_, rfl, ?_⟩
      first | exact QY.rf ho (by unfold o_biscuit; rw [if_neg (fun z => z c_7), if_pos (fun z => c_23 z.1)]) h39 | exact QY.rf ho (by unfold o_biscuit; rw [if_neg (fun z => z c_7), if_pos (fun z => c_33 z.2)]) h39
    · refine g_iload_n dX6_biscuit_26 rfl rfl ?_
      refine g_iconst dX6_biscuit_27 kI_0 ?_
      refine g_bipush dX6_biscuit_28 kB_9 ?_
      refine g_callSp dX6_biscuit_30 ms_X6_isWithin ml_X6_87 (ct_X6_isWithin) rfl rfl (Nat.le_of_ble_eq_true rfl) ⟨lt_r rfl, Nat.le_of_ble_eq_true rfl⟩ ?_
      refine g_if_neP (tgt := 43) dX6_biscuit_33 (by decide) (fun c_33 => ?_) (fun c_33 => ?_)
      · refine g_aload_n dX6_biscuit_43 rfl rfl ?_
        refine g_getR dX6_biscuit_44 fl_X6_18 rfl rfl ?_
        refine g_callVp dX6_biscuit_47 mi_X5_hasRoom ml_X6_152 (ct_X5_hasRoom isS_2 h.2.1 ho.2.1) isS_2.1 rfl rfl rfl (Nat.le_of_ble_eq_true rfl) ⟨lt_r rfl, Nat.le_of_ble_eq_true rfl⟩ ?_
        refine g_if_neP (tgt := 60) dX6_biscuit_50 (by decide) (fun c_50 => ?_) (fun c_50 => ?_)
        · have e9 : o_biscuit y kd n a = (nI (sCn (yN y)), setN y (addS (yN y) (tn kd) (tn n) (tn a))) := by unfold o_biscuit; rw [if_neg (fun z => z c_7), if_neg (fun z => z ⟨c_23, c_33⟩), if_neg (fun z => z c_50)]
          obtain ⟨kd', -, k1, rfl, e1⟩ := btw_n (by decide) (by decide) c_7
          obtain ⟨n', k2, k3, rfl, e2⟩ := btw_n (by decide) (by decide) c_23
          obtain ⟨a', -, k4, rfl, e3⟩ := btw_n (by decide) (by decide) c_33
          refine g_aload_n dX6_biscuit_60 rfl rfl ?_
          refine g_getR dX6_biscuit_61 fl_X6_18 rfl rfl ?_
          refine g_iload_n dX6_biscuit_64 rfl rfl ?_
          refine g_iload_n dX6_biscuit_65 rfl rfl ?_
          refine g_iload_n dX6_biscuit_66 rfl rfl ?_
          refine g_callVi dX6_biscuit_67 mi_X5_addBiscuit ml_X6_155 (ct_X5_addBiscuit isS_2 h.2.1 ho.2.1 c_50 k3) isS_2.1 rfl rfl rfl (Nat.le_of_ble_eq_true rfl) ⟨lt_r rfl, Nat.le_of_ble_eq_true rfl⟩ (fun x67 M67 h67 => ?_)
          refine g_iret dX6_biscuit_70 ⟨_, rfl, ?_⟩
          rw [e9, e1, e2, e3]
          exact ⟨h67.1, h.n ho h67.2.2 h67.2.1, ok_setN ho (ok_add ho.2.1 k1 k3 k4 c_50) (Nat.le_succ _), h67.2.2.up (by omega) (by omega)⟩
        · refine g_aload_n dX6_biscuit_53 rfl rfl ?_
          refine g_bipush dX6_biscuit_54 kB_7 ?_
          refine g_callVi dX6_biscuit_56 mi_X6_refused ml_X6_83 (ct_X6_refused h ho (by decide) (by decide)) rfl rfl rfl rfl (Nat.le_of_ble_eq_true rfl) ⟨lt_r rfl, Nat.le_of_ble_eq_true rfl⟩ (fun x56 M56 h56 => ?_)
          refine g_iret dX6_biscuit_59 ⟨_, rfl, ?_⟩
          exact QY.rf ho (by unfold o_biscuit; rw [if_neg (fun z => z c_7), if_neg (fun z => z ⟨c_23, c_33⟩), if_pos c_50]) h56
      · refine g_aload_n dX6_biscuit_36 rfl rfl ?_
        refine g_bipush dX6_biscuit_37 kB_6 ?_
        refine g_callVi dX6_biscuit_39 mi_X6_refused ml_X6_83 (ct_X6_refused h ho (by decide) (by decide)) rfl rfl rfl rfl (Nat.le_of_ble_eq_true rfl) ⟨lt_r rfl, Nat.le_of_ble_eq_true rfl⟩ (fun x39 M39 h39 => ?_)
        refine g_iret dX6_biscuit_42 ⟨_, rfl, ?_⟩
        first | exact QY.rf ho (by unfold o_biscuit; rw [if_neg (fun z => z c_7), if_pos (fun z => c_23 z.1)]) h39 | exact QY.rf ho (by unfold o_biscuit; rw [if_neg (fun z => z c_7), if_pos (fun z => c_33 z.2)]) h39
  · refine g_aload_n dX6_biscuit_10 rfl rfl ?_
    refine g_iconst dX6_biscuit_11 kI_1 ?_
    refine g_callVi dX6_biscuit_12 mi_X6_refused ml_X6_83 (ct_X6_refused h ho (by decide) (by decide)) rfl rfl rfl rfl (Nat.le_of_ble_eq_true rfl) ⟨lt_r rfl, Nat.le_of_ble_eq_true rfl⟩ (fun x12 M12 h12 => ?_)
    refine g_iret dX6_biscuit_15 ⟨_, rfl, ?_⟩
    exact QY.rf ho (if_pos c_7) h12
end X6B
