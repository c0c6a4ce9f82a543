/-! act, trace, image, restore, status -/
def setT (y : Sys) (T : Tr) : Sys := (yH y, yN y, yI y, yB y, yF y, yR y, T)
def actR (g m kd a : Nat) (x : Int32) : Int32 := if g = 0 then sR m a kd x else if g = 1 then cR kd m a kd x else kR kd m a kd x
def actT (g kd : Nat) (T : Tr) : Tr := if g = 0 then sT kd T else if g = 1 then cT kd kd T else kT kd kd T
def o_act (y : Sys) (b g x : Int32) : Int32 × Sys :=
  if inB' y b ∧ (nI 0 ≤ g ∧ g ≤ nI 2) then (actR (tn g) (tn b) (sBs (yN y) (tn b)).1 (sBs (yN y) (tn b)).2.1 x, setT y (actT (tn g) (sBs (yN y) (tn b)).1 (0, (yT y).2))) else (nI 0, setT y (0, (yT y).2))
def o_trace (y : Sys) (i : Int32) : Int32 × Sys := (if 0 ≤ i ∧ i < nI (yT y).1 then (yT y).2 (tn i) else -1, y)
def imgY (y : Sys) : Sys := (yH y, yN y, yN y, true, y.2.2.2.2)
def o_image (y : Sys) : Int32 × Sys := (nI (sCn (yN y)), imgY y)
def clrH (cn : Nat) (x : Sh) : Sh := if x.1 = 2 ∧ ¬ x.2.1 < cn then (0, 0, 0, fun _ => 0) else x
def rstY (y : Sys) (i : Nat) : Sys := (fun q => if q < i then clrH (sCn (yI y)) (yH y q) else yH y q, yI y, y.2.2)
def o_restore (y : Sys) : Int32 × Sys := if yB y = true then (nI (sCn (yI y)), rstY y 8) else rz y 6
def statI (y : Sys) (w : Int32) : Int32 :=
  if w = nI 0 then nI (sCn (yN y)) else if w = nI 1 then nI (sumN (fun q => (sBs (yN y) q).2.2.1) (sCn (yN y))) else if w = nI 2 then nI (sHt (yN y)) else if w = nI 3 then nI (sLo (yN y)) else if w = nI 4 then nI (sTe (yN y))
  else if w = nI 5 then sSl (yN y) else if w = nI 6 then sPl (yN y) else if w = nI 7 then sSe (yN y) else if w = nI 8 then sSd (yN y) else if w = nI 9 then nI (yT y).1
  else if nI 11 ≤ w ∧ w ≤ nI 17 then yR y (tn (w - nI 10)) else -1
def o_status (y : Sys) (w : Int32) : Int32 × Sys := (statI y w, y)
theorem kT_n (kd f : Nat) (T : Tr) : (kT kd f T).1 ≤ T.1 + 11 := by
  have a (U : Tr) := cT_n kd kd U
  have b (U : Tr) := sT_n kd U
  unfold kT
  repeat' split
  all_goals (first | (have := a (tb (tb T 50) 12); have := b (cT kd kd (tb (tb T 50) 12)); simp only [tb] at *; omega) | (have := a (tb (tb T 60) 12); have := b (cT kd kd (tb (tb T 60) 12)); simp only [tb] at *; omega) | (have := a (tb T 12); have := b (cT kd kd (tb T 12)); simp only [tb] at *; omega))
theorem actT_n {g kd : Nat} {f : Nat → Int32} : (actT g kd (0, f)).1 ≤ 20 := by
  unfold actT
  split
  · have := sT_n kd (0, f); omega
  · split
    · have := cT_n kd kd (0, f); omega
    · have := kT_n kd kd (0, f); omega
theorem RY.t {B : Nat} {M M' : MM} {y : Sys} {T : Tr} (h : RY B M y) (ho : okY y) (hS : Sm B M M' 56 58) (hT : RT B M' T) : RY B M' (setT y T) := by
  obtain ⟨h1, h2, h3, h4, h5, h6, h7⟩ := h
  exact ⟨fun q hq => (h1 q hq).sm hS (by omega), h2.sm ho.2.1 hS (by omega), fun hb => (h3 hb).sm (ho.2.2.1 hb) hS (by omega), by rw [hS.i (by omega)]; exact h4, by rw [hS.i (by omega)]; exact h5, fun j hj => by rw [hS.i (by omega)]; exact h6 j hj, hT⟩
theorem ok_setT {y : Sys} {T : Tr} (ho : okY y) (hT : T.1 ≤ 20) : okY (setT y T) := ⟨ho.1, ho.2.1, ho.2.2.1, hT⟩
theorem RY.h' {B : Nat} {M M' : MM} {y : Sys} {q : Nat} {x : Sh} (h : RY B M y) (ho : okSt (yN y)) (ho2 : yB y = true → okSt (yI y)) (hS : Sm B M M' (64 + 2 * q) (64 + 2 * q + 2)) (hx : RH B M' (64 + 2 * q) x) : RY B M' (setH y q x) := by
  obtain ⟨h1, h2, h3, h4, h5, h6, h7⟩ := h
  refine ⟨fun j hj => ?_, h2.sm ho hS (by omega), fun hb => (h3 hb).sm (ho2 hb) hS (by omega), by rw [hS.i (by omega)]; exact h4, by rw [hS.i (by omega)]; exact h5, fun j hj => by rw [hS.i (by omega)]; exact h6 j hj, h7.sm hS (by omega)⟩
  show RH B M' (64 + 2 * j) (upF (yH y) q x j)
  by_cases e : j = q
  · subst e; rw [upF_s]; exact hx
  · rw [upF_n e]; exact (h1 j hj).sm hS (by omega)
theorem ok_rst {y : Sys} (ho : okY y) (hb : yB y = true) : okY (rstY y 8) := by
  have hi := ho.2.2.1 hb
  refine ⟨fun q hq => ?_, hi, fun _ => hi, ho.2.2.2⟩
  show okH (sCn (yI y)) (if q < 8 then clrH (sCn (yI y)) (yH y q) else yH y q)
  rw [if_pos hq]
  have h1 := ho.1 q hq
  unfold clrH
  split
  · exact ⟨Nat.zero_le _, fun z => absurd (show (0 : Nat) = 1 from z) (by decide), fun z => absurd (show (0 : Nat) = 2 from z) (by decide)⟩
  · rename_i z
    exact ⟨h1.1, h1.2.1, fun e => Classical.not_not.mp (fun w => z ⟨e, w⟩)⟩
theorem neg1_lt {n : Nat} (h : n < 2 ^ 31) : (-1 : Int32) < nI n := by
  rw [Int32.lt_iff_toInt_lt, nI_toInt h]
  have e : (-1 : Int32).toInt = -1 := by decide
  omega
theorem rst_set {y : Sys} {i : Nat} : rstY y (i + 1) = setH (rstY y i) i (clrH (sCn (yI y)) (yH y i)) := by
  unfold rstY setH
  refine congrArg (fun f => (f, yI y, y.2.2)) (funext fun q => ?_)
  show (if q < i + 1 then clrH (sCn (yI y)) (yH y q) else yH y q) = if q = i then clrH (sCn (yI y)) (yH y i) else if q < i then clrH (sCn (yI y)) (yH y q) else yH y q
  by_cases e1 : q = i
  · subst e1; rw [if_pos (Nat.lt_succ_self q), if_pos rfl]
  · rw [if_neg e1]
    by_cases e2 : q < i
    · rw [if_pos e2, if_pos (by omega)]
    · rw [if_neg e2, if_neg (by omega)]
theorem rst_0 {y : Sys} : rstY y 0 = setN y (yI y) := by
  unfold rstY setN
  refine congrArg (fun f => (f, yI y, y.2.2)) (funext fun q => ?_)
  exact if_neg (Nat.not_lt_zero q)
theorem rst_same {y : Sys} {i : Nat} (h : clrH (sCn (yI y)) (yH y i) = yH y i) : rstY y (i + 1) = rstY y i := by
  unfold rstY
  refine congrArg (fun f => (f, yI y, y.2.2)) (funext fun q => ?_)
  by_cases e2 : q < i
  · rw [if_pos e2, if_pos (by omega)]
  · rw [if_neg e2]
    by_cases e1 : q = i
    · subst e1; rw [if_pos (Nat.lt_succ_self q)]; exact h
    · rw [if_neg (by omega)]
theorem clr_y {cn c : Nat} {x : Sh} (ho : okH cn x) (hc : cn < 2 ^ 31) (hc2 : c < 2 ^ 31) (h : ¬ (if x.1 = 2 then nI x.2.1 else -1) < nI c) : clrH c x = (0, 0, 0, fun _ => 0) := by
  unfold clrH
  by_cases e3 : x.1 = 2
  · rw [if_pos e3] at h
    have := ho.2.2 e3
    rw [if_pos ⟨e3, fun z => h ((nI_ltI (by omega) hc2).mpr z)⟩]
  · rw [if_neg e3] at h
    exact absurd (neg1_lt hc2) h
theorem clr_n {cn c : Nat} {x : Sh} (ho : okH cn x) (hc : cn < 2 ^ 31) (hc2 : c < 2 ^ 31) (h : (if x.1 = 2 then nI x.2.1 else -1) < nI c) : clrH c x = x := by
  unfold clrH
  by_cases e3 : x.1 = 2
  · rw [if_pos e3] at h
    have := ho.2.2 e3
    rw [if_neg (fun z => z.2 ((nI_ltI (by omega) hc2).mp h))]
  · rw [if_neg (fun z => e3 z.1)]
section X6H
variable {E : EE} {B : Nat} {M : MM}
theorem tl_act {y : Sys} {q g kd a : Nat} {x : Int32} {M0 : MM} (hg : g ≤ 2) (hk : kd ≤ 6) (hY : RY B M0 y) (ho : okY y) (hA : RA B M kd q a (0, (yT y).2)) (hS : Sm B M0 M 56 58) :
    G E B cX6_act (RX6, 4, some .int, rmD 9, 0, 0, KM E B (QY B M0 (actR g q kd a x, setT y (actT g kd (0, (yT y).2))))) 76 [(0, .ref (B + 0)), (2, .int (nI g)), (3, .int x)] [] M := by
  match g, hg with
  | 0, _ =>
    refine g_aload_n dX6_act_76 rfl rfl ?_
    refine g_getR dX6_act_77 fl_X6_50 rfl rfl ?_
    refine g_iload_n dX6_act_80 rfl rfl ?_
    refine g_aload_n dX6_act_81 rfl rfl ?_
    refine g_getR dX6_act_82 fl_X6_50 rfl rfl ?_
    refine g_getI dX6_act_85 fl_X6_322 rfl rfl (hA.1.1) ?_
    refine g_iload_n dX6_act_88 rfl rfl ?_
    refine g_iconst dX6_act_89 kI_0 ?_
    refine g_callSNi dX6_act_90 ms_X0_run mn_X6_327 (ct_runS hk hk _ _ _ 0 (by show 0 + 3 < 1000; omega) (by decide) hA) rfl rfl (Nat.le_of_ble_eq_true rfl) ⟨lt_r rfl, Nat.le_of_ble_eq_true rfl⟩ (fun x90 M90 h90 => ?_)
    refine g_iret dX6_act_93 ⟨_, rfl, ?_⟩
    exact ⟨h90.1, hY.t ho (hS.tr h90.2.2) h90.2.1.2, ok_setT ho actT_n, (hS.tr h90.2.2).up (by omega) (by omega)⟩
  | 1, _ =>
    refine g_aload_n dX6_act_76 rfl rfl ?_
    refine g_getR dX6_act_77 fl_X6_50 rfl rfl ?_
    refine g_iload_n dX6_act_80 rfl rfl ?_
    refine g_aload_n dX6_act_81 rfl rfl ?_
    refine g_getR dX6_act_82 fl_X6_50 rfl rfl ?_
    refine g_getI dX6_act_85 fl_X6_322 rfl rfl (hA.1.1) ?_
    refine g_iload_n dX6_act_88 rfl rfl ?_
    refine g_iconst dX6_act_89 kI_0 ?_
    refine g_callSNi dX6_act_90 ms_X0_run mn_X6_327 (ct_runC hk hk _ _ _ 0 (by show 0 + 5 < 1000; omega) (by decide) hA) rfl rfl (Nat.le_of_ble_eq_true rfl) ⟨lt_r rfl, Nat.le_of_ble_eq_true rfl⟩ (fun x90 M90 h90 => ?_)
    refine g_iret dX6_act_93 ⟨_, rfl, ?_⟩
    exact ⟨h90.1, hY.t ho (hS.tr h90.2.2) h90.2.1.2, ok_setT ho actT_n, (hS.tr h90.2.2).up (by omega) (by omega)⟩
  | 2, _ =>
    refine g_aload_n dX6_act_76 rfl rfl ?_
    refine g_getR dX6_act_77 fl_X6_50 rfl rfl ?_
    refine g_iload_n dX6_act_80 rfl rfl ?_
    refine g_aload_n dX6_act_81 rfl rfl ?_
    refine g_getR dX6_act_82 fl_X6_50 rfl rfl ?_
    refine g_getI dX6_act_85 fl_X6_322 rfl rfl (hA.1.1) ?_
    refine g_iload_n dX6_act_88 rfl rfl ?_
    refine g_iconst dX6_act_89 kI_0 ?_
    refine g_callSNi dX6_act_90 ms_X0_run mn_X6_327 (ct_runK hk hk _ _ _ 0 (by show 0 + 11 < 1000; omega) (by decide) hA) rfl rfl (Nat.le_of_ble_eq_true rfl) ⟨lt_r rfl, Nat.le_of_ble_eq_true rfl⟩ (fun x90 M90 h90 => ?_)
    refine g_iret dX6_act_93 ⟨_, rfl, ?_⟩
    exact ⟨h90.1, hY.t ho (hS.tr h90.2.2) h90.2.1.2, ok_setT ho actT_n, (hS.tr h90.2.2).up (by omega) (by omega)⟩
theorem cx_act {y : Sys} {b g x : Int32} (h : RY B M y) (ho : okY y) : Ct E B yX6_act cX6_act 4 (some .int) 9 [.ref (B + 0), .int b, .int g, .int x] M (QY B M (o_act y b g x)) := by
  have hcn := ho.2.1.2.2.1
  have hS0 : Sm B M (upI M (B + 56) 4 (nI 0)) 56 58 := Sm.pI (by omega) (by omega)
  have h1 : RY B (upI M (B + 56) 4 (nI 0)) (setT y (0, (yT y).2)) := h.t ho hS0 ⟨upI_s, fun i hi => absurd hi (Nat.not_lt_zero i)⟩
  refine Ct.of2 (own := RX6) (lv := [(0, .ref (B + 0)), (1, .int b), (2, .int g), (3, .int x)]) pn_X6 rfl (Nat.le_of_ble_eq_true rfl) rfl ?_
  refine g_aload_n dX6_act_0 rfl rfl ?_
  refine g_getR dX6_act_1 fl_X6_50 rfl rfl ?_
  refine g_iconst dX6_act_4 kI_0 ?_
  refine g_putI dX6_act_5 fp_X6_319 rfl rfl ?_
  refine g_aload_n dX6_act_8 rfl rfl ?_
  refine g_getR dX6_act_9 fl_X6_18 rfl rfl ?_
  refine g_iload_n dX6_act_12 rfl rfl ?_
  refine g_callVp dX6_act_13 mi_X5_hasBiscuit ml_X6_123 (ct_hasB h1) isS_2.1 rfl rfl rfl (Nat.le_of_ble_eq_true rfl) ⟨lt_r rfl, Nat.le_of_ble_eq_true rfl⟩ ?_
  refine g_if_eqP (tgt := 28) dX6_act_16 (by decide) (fun c_16 => ?_) (fun c_16 => ?_)
  · refine g_iconst dX6_act_28 kI_0 ?_
    refine g_iret dX6_act_29 ⟨_, rfl, ?_⟩
    have e9 : o_act y b g x = (nI 0, setT y (0, (yT y).2)) := if_neg (fun z => by first | exact c_16 z.1 | exact c_25 z.2)
    rw [e9]
    exact ⟨rfl, h1, ok_setT ho (Nat.zero_le _), hS0.up (by omega) (by omega)⟩
  · refine g_iload_n dX6_act_19 rfl rfl ?_
    refine g_iconst dX6_act_20 kI_0 ?_
    refine g_iconst dX6_act_21 kI_2 ?_
    refine g_callSp dX6_act_22 ms_X6_isWithin ml_X6_87 (ct_X6_isWithin) rfl rfl (Nat.le_of_ble_eq_true rfl) ⟨lt_r rfl, Nat.le_of_ble_eq_true rfl⟩ ?_
    refine g_if_neP (tgt := 30) dX6_act_25 (by decide) (fun c_25 => ?_) (fun c_25 => ?_)
    · have c_16 : 0 ≤ b ∧ b < nI (sCn (yN y)) := c_16
      have e9 : o_act y b g x = _ := if_pos ⟨c_16, c_25⟩
      rw [e9]
      obtain ⟨q, hq, rfl, f1⟩ := in_b hcn c_16
      obtain ⟨g', -, hg, rfl, f2⟩ := btw_n (by decide) (by decide) c_25
      rw [f1, f2]
      have hR := h1.2.1.1 q hq
      refine g_aload_n dX6_act_30 rfl rfl ?_
      refine g_getR dX6_act_31 fl_X6_50 rfl rfl ?_
      refine g_aload_n dX6_act_34 rfl rfl ?_
      refine g_getR dX6_act_35 fl_X6_18 rfl rfl ?_
      refine g_getR dX6_act_38 fl_X6_141 isS_2.1 rfl ?_
      refine g_iload_n dX6_act_41 rfl rfl ?_
      refine g_aald dX6_act_42 isS_2.2.1 rfl (isS_b (by omega)) ?_
      refine g_getI dX6_act_43 fl_X6_159 (isS_2.2.2.2 _ (by omega)).1 rfl (hR.1) ?_
      refine g_putI dX6_act_46 fp_X6_322 rfl rfl ?_
      refine g_aload_n dX6_act_49 rfl rfl ?_
      refine g_getR dX6_act_50 fl_X6_50 rfl rfl ?_
      refine g_iload_n dX6_act_53 rfl rfl ?_
      refine g_putI dX6_act_54 fp_X6_323 rfl rfl ?_
      refine g_aload_n dX6_act_57 rfl rfl ?_
      refine g_getR dX6_act_58 fl_X6_50 rfl rfl ?_
      refine g_aload_n dX6_act_61 rfl rfl ?_
      refine g_getR dX6_act_62 fl_X6_18 rfl rfl ?_
      refine g_getR dX6_act_65 fl_X6_141 isS_2.1 rfl ?_
      refine g_iload_n dX6_act_68 rfl rfl ?_
      refine g_aald dX6_act_69 isS_2.2.1 rfl (isS_b (by omega)) ?_
      refine g_getI dX6_act_70 fl_X6_165 (isS_2.2.2.2 _ (by omega)).1 rfl (show _ = nI (sBs (yN y) q).2.1 from (by rw [upI_ap (by omega), upI_ap (by omega)]; exact hR.2.1)) ?_
      refine g_putI dX6_act_73 fp_X6_326 rfl rfl ?_
      exact g_le (lvLe_c rfl (lvLe_c rfl (lvLe_c rfl lvLe_0))) (tl_act hg (ho.2.1.1 q hq).1 h ho ⟨⟨by rw [upI_k (by decide), upI_k (by decide), upI_s]; rfl, by rw [upI_k (by decide), upI_s], upI_s⟩, by rw [upI_k (by decide), upI_k (by decide), upI_k (by decide), upI_s], fun i hi => absurd hi (Nat.not_lt_zero i)⟩ (Sm.tr (Sm.tr (Sm.tr hS0 (Sm.pI (by omega) (by omega))) (Sm.pI (by omega) (by omega))) (Sm.pI (by omega) (by omega))))
    · refine g_iconst dX6_act_28 kI_0 ?_
      refine g_iret dX6_act_29 ⟨_, rfl, ?_⟩
      have e9 : o_act y b g x = (nI 0, setT y (0, (yT y).2)) := if_neg (fun z => by first | exact c_16 z.1 | exact c_25 z.2)
      rw [e9]
      exact ⟨rfl, h1, ok_setT ho (Nat.zero_le _), hS0.up (by omega) (by omega)⟩
theorem cx_trace {y : Sys} {i : Int32} (h : RY B M y) (ho : okY y) : Ct E B yX6_trace cX6_trace 2 (some .int) 1 [.ref (B + 0), .int i] M (QY B M (o_trace y i)) := by
  have hT := ho.2.2.2
  refine Ct.of2 (own := RX6) (lv := [(0, .ref (B + 0)), (1, .int i)]) pn_X6 rfl (Nat.le_of_ble_eq_true rfl) rfl ?_
  refine g_iload_n dX6_trace_0 rfl rfl ?_
  refine g_if_lt (tgt := 33) dX6_trace_1 (by decide) (fun c_1 => ?_) (fun c_1 => ?_)
  · refine g_iconst dX6_trace_33 kI_m1 ?_
    refine g_iret dX6_trace_34 ⟨_, rfl, ?_⟩
    refine QY.p h ho ?_
    unfold o_trace
    first | rw [if_neg (fun z => Int32.not_lt.mpr z.1 c_1)] | rw [if_neg (fun z => Int32.not_lt.mpr c_12 z.2)] | rw [if_pos ⟨Int32.not_lt.mp c_1, Int32.not_le.mp c_12⟩, tn_nI (by omega)]
  · refine g_iload_n dX6_trace_4 rfl rfl ?_
    refine g_aload_n dX6_trace_5 rfl rfl ?_
    refine g_getR dX6_trace_6 fl_X6_50 rfl rfl ?_
    refine g_getI dX6_trace_9 fl_X6_319 rfl rfl (h.2.2.2.2.2.2.1) ?_
    refine g_icmp_ge (tgt := 33) dX6_trace_12 (by decide) (fun c_12 => ?_) (fun c_12 => ?_)
    · refine g_iconst dX6_trace_33 kI_m1 ?_
      refine g_iret dX6_trace_34 ⟨_, rfl, ?_⟩
      refine QY.p h ho ?_
      unfold o_trace
      first | rw [if_neg (fun z => Int32.not_lt.mpr z.1 c_1)] | rw [if_neg (fun z => Int32.not_lt.mpr c_12 z.2)] | rw [if_pos ⟨Int32.not_lt.mp c_1, Int32.not_le.mp c_12⟩, tn_nI (by omega)]
    · obtain ⟨j, hj, rfl⟩ := in_nI (show (yT y).1 < 2 ^ 31 by omega) ⟨Int32.not_lt.mp c_1, Int32.not_le.mp c_12⟩
      refine g_iload_n dX6_trace_15 rfl rfl ?_
      refine g_bipush dX6_trace_16 kB_20 ?_
      refine g_icmp_ge (tgt := 33) dX6_trace_18 (by decide) (fun c_18 => absurd ((nI_leI (by decide) (by omega)).mp c_18) (by omega)) (fun c_18 => ?_)
      refine g_aload_n dX6_trace_21 rfl rfl ?_
      refine g_getR dX6_trace_22 fl_X6_50 rfl rfl ?_
      refine g_getR dX6_trace_25 fl_X6_331 rfl rfl ?_
      refine g_iload_n dX6_trace_28 rfl rfl ?_
      refine g_iald dX6_trace_29 rfl rfl (by omega) (h.2.2.2.2.2.2.2 j hj (by omega)) ?_
      refine g_goto (tgt := 34) dX6_trace_30 (by decide) ?_
      refine g_iret dX6_trace_34 ⟨_, rfl, ?_⟩
      refine QY.p h ho ?_
      unfold o_trace
      first | rw [if_neg (fun z => Int32.not_lt.mpr z.1 c_1)] | rw [if_neg (fun z => Int32.not_lt.mpr c_12 z.2)] | rw [if_pos ⟨Int32.not_lt.mp c_1, Int32.not_le.mp c_12⟩, tn_nI (by omega)]
theorem cx_image {y : Sys} (h : RY B M y) (ho : okY y) : Ct E B yX6_image cX6_image 1 (some .int) 4 [.ref (B + 0)] M (QY B M (o_image y)) := by
  refine Ct.of2 (own := RX6) (lv := [(0, .ref (B + 0))]) pn_X6 rfl (Nat.le_of_ble_eq_true rfl) rfl ?_
  refine g_aload_n dX6_image_0 rfl rfl ?_
  refine g_getR dX6_image_1 fl_X6_22 rfl rfl ?_
  refine g_aload_n dX6_image_4 rfl rfl ?_
  refine g_getR dX6_image_5 fl_X6_18 rfl rfl ?_
  refine g_callVv dX6_image_8 mi_X5_takeOver ml_X6_193 (ct_X5_takeOver isS_17 isS_2 (by omega) h.2.1 ho.2.1) isS_17.1 rfl rfl rfl (Nat.le_of_ble_eq_true rfl) ⟨lt_r rfl, Nat.le_of_ble_eq_true rfl⟩ (fun M8 h8 => ?_)
  refine g_aload_n dX6_image_11 rfl rfl ?_
  refine g_iconst dX6_image_12 kI_1 ?_
  refine g_putZ dX6_image_13 fp_X6_334 rfl rfl (Or.inr rfl) ?_
  refine g_aload_n dX6_image_16 rfl rfl ?_
  refine g_getR dX6_image_17 fl_X6_18 rfl rfl ?_
  refine g_getI dX6_image_20 fl_X6_270 isS_2.1 rfl (show _ = nI (sCn (yN y)) from (by rw [upI_ap (by omega), h8.2.i (by omega)]; exact h.2.1.2.2.1)) ?_
  refine g_iret dX6_image_23 ⟨_, rfl, ?_⟩
  obtain ⟨g1, g2, g3, g4, g5, g6, g7⟩ := h
  obtain ⟨a1, a2⟩ := h8
  have hS : Sm B M8 (upI M8 (B + 0) 13 (nI 1)) 0 1 := Sm.pI (by omega) (by omega)
  exact ⟨rfl, ⟨fun q hq => ((g1 q hq).sm a2 (by omega)).sm hS (by omega), (g2.sm ho.2.1 a2 (by omega)).sm ho.2.1 hS (by omega), fun _ => a1.sm ho.2.1 hS (by omega), upI_s, by rw [upI_k (by decide), a2.i (by omega)]; exact g5, fun j hj => by rw [hS.i (by omega), a2.i (by omega)]; exact g6 j hj, (g7.sm a2 (by omega)).sm hS (by omega)⟩, ⟨ho.1, ho.2.1, fun _ => ho.2.1, ho.2.2.2⟩, Sm.tr (a2.up (by omega) (by omega)) (hS.up (by omega) (by omega))⟩
theorem lp_restore {y : Sys} {M0 : MM} (ho : okY y) (hb : yB y = true) : ∀ (n i : Nat), n + i = 8 → ∀ M', RY B M' (rstY y i) → Sm B M0 M' 0 80 →
    G E B cX6_restore (RX6, 2, some .int, rmD 4, 0, 0, KM E B (QY B M0 (nI (sCn (yI y)), rstY y 8))) 27 [(0, .ref (B + 0)), (1, .int (nI i))] [] M' := by
  have hi := ho.2.2.1 hb
  have hcn := hi.2.2.1
  intro n
  induction n with
  | zero =>
    intro i h1 M' hR hS
    refine g_iload_n dX6_restore_27 rfl rfl ?_
    refine g_bipush dX6_restore_28 kB_8 ?_
    refine g_icmp_geN (tgt := 68) dX6_restore_30 (by decide) rfl rfl (by omega) (by omega) (fun c_30 => ?_) (fun c_30 => absurd c_30 (by omega))
    refine g_aload_n dX6_restore_68 rfl rfl ?_
    refine g_getR dX6_restore_69 fl_X6_18 rfl rfl ?_
    refine g_getI dX6_restore_72 fl_X6_270 isS_2.1 rfl (hR.2.1.2.2.1) ?_
    refine g_iret dX6_restore_75 ⟨_, rfl, ?_⟩
    have e : i = 8 := by omega
    subst e
    exact ⟨rfl, hR, ok_rst ho hb, hS⟩
  | succ n ih =>
    intro i h1 M' hR hS
    have hx := hR.1 i (by omega)
    have hy : yH (rstY y i) i = yH y i := if_neg (Nat.lt_irrefl i)
    rw [hy] at hx
    have hok := ho.1 i (by omega)
    have hc0 := ho.2.1.2.2.1
    refine g_iload_n dX6_restore_27 rfl rfl ?_
    refine g_bipush dX6_restore_28 kB_8 ?_
    refine g_icmp_geN (tgt := 68) dX6_restore_30 (by decide) rfl rfl (by omega) (by omega) (fun c_30 => absurd c_30 (by omega)) (fun c_30 => ?_)
    refine g_aload_n dX6_restore_33 rfl rfl ?_
    refine g_getR dX6_restore_34 fl_X6_11 rfl rfl ?_
    refine g_iload_n dX6_restore_37 rfl rfl ?_
    refine g_aald dX6_restore_38 rfl rfl (isH_s (by omega)) ?_
    refine g_getI dX6_restore_39 fl_X6_138 (isH_n (by omega)).1 rfl (hx.2.2.1) ?_
    refine g_aload_n dX6_restore_42 rfl rfl ?_
    refine g_getR dX6_restore_43 fl_X6_18 rfl rfl ?_
    refine g_getI dX6_restore_46 fl_X6_270 isS_2.1 rfl (hR.2.1.2.2.1) ?_
    refine g_icmp_lt (tgt := 62) dX6_restore_49 (by decide) (fun c_49 => ?_) (fun c_49 => ?_)
    · refine g_iinc dX6_restore_62 rfl (inc_nI _) rfl ?_
      refine g_goto (tgt := 27) dX6_restore_65 (by decide) ?_
      first | (obtain ⟨⟨b1, b2, b3⟩, b4⟩ := h59; exact g_le (lvLe_c rfl (lvLe_c rfl lvLe_0)) (ih (i + 1) (by omega) M59 (by rw [rst_set]; exact RY.h' (y := rstY y i) hR hi (fun _ => hi) b4 (by rw [clr_y (cn := sCn (yN y)) (c := sCn (yI y)) hok (by omega) (by omega) c_49]; exact ⟨b1, b2, b3, fun z => absurd (show (0 : Nat) = 1 from z) (by decide)⟩)) (hS.tr (b4.up (by omega) (by omega))))) | exact g_le (lvLe_c rfl (lvLe_c rfl lvLe_0)) (ih (i + 1) (by omega) M' (by rw [rst_same (clr_n (cn := sCn (yN y)) (c := sCn (yI y)) hok (by omega) (by omega) c_49)]; exact hR) hS)
    · refine g_aload_n dX6_restore_52 rfl rfl ?_
      refine g_getR dX6_restore_53 fl_X6_11 rfl rfl ?_
      refine g_iload_n dX6_restore_56 rfl rfl ?_
      refine g_aald dX6_restore_57 rfl rfl (isH_s (by omega)) ?_
      refine g_iconst dX6_restore_58 kI_m1 ?_
      refine g_callVv dX6_restore_59 mi_X4_takeBiscuit ml_X6_126 (ct_X4_takeBiscuit (isH_n (by omega))) (isH_n (by omega)).1 rfl rfl rfl (Nat.le_of_ble_eq_true rfl) ⟨lt_r rfl, Nat.le_of_ble_eq_true rfl⟩ (fun M59 h59 => ?_)
      refine g_iinc dX6_restore_62 rfl (inc_nI _) rfl ?_
      refine g_goto (tgt := 27) dX6_restore_65 (by decide) ?_
      first | (obtain ⟨⟨b1, b2, b3⟩, b4⟩ := h59; exact g_le (lvLe_c rfl (lvLe_c rfl lvLe_0)) (ih (i + 1) (by omega) M59 (by rw [rst_set]; exact RY.h' (y := rstY y i) hR hi (fun _ => hi) b4 (by rw [clr_y (cn := sCn (yN y)) (c := sCn (yI y)) hok (by omega) (by omega) c_49]; exact ⟨b1, b2, b3, fun z => absurd (show (0 : Nat) = 1 from z) (by decide)⟩)) (hS.tr (b4.up (by omega) (by omega))))) | exact g_le (lvLe_c rfl (lvLe_c rfl lvLe_0)) (ih (i + 1) (by omega) M' (by rw [rst_same (clr_n (cn := sCn (yN y)) (c := sCn (yI y)) hok (by omega) (by omega) c_49)]; exact hR) hS)
theorem cx_restore {y : Sys} (h : RY B M y) (ho : okY y) : Ct E B yX6_restore cX6_restore 2 (some .int) 4 [.ref (B + 0)] M (QY B M (o_restore y)) := by
  refine Ct.of2 (own := RX6) (lv := [(0, .ref (B + 0))]) pn_X6 rfl (Nat.le_of_ble_eq_true rfl) rfl ?_
  refine g_aload_n dX6_restore_0 rfl rfl ?_
  refine g_getI dX6_restore_1 fl_X6_334 rfl rfl (h.2.2.2.1) ?_
  refine g_if_ne (tgt := 14) dX6_restore_4 (by decide) (fun c_4 => ?_) (fun c_4 => ?_)
  · have hb : yB y = true := by
      by_cases z : yB y = true
      · exact z
      · rw [if_neg z] at c_4; exact absurd rfl c_4
    rw [show o_restore y = _ from if_pos hb]
    have hi := ho.2.2.1 hb
    have hcn := hi.2.2.1
    refine g_aload_n dX6_restore_14 rfl rfl ?_
    refine g_getR dX6_restore_15 fl_X6_18 rfl rfl ?_
    refine g_aload_n dX6_restore_18 rfl rfl ?_
    refine g_getR dX6_restore_19 fl_X6_22 rfl rfl ?_
    refine g_callVv dX6_restore_22 mi_X5_takeOver ml_X6_193 (ct_X5_takeOver isS_2 isS_17 (by omega) (h.2.2.1 hb) hi) isS_2.1 rfl rfl rfl (Nat.le_of_ble_eq_true rfl) ⟨lt_r rfl, Nat.le_of_ble_eq_true rfl⟩ (fun M22 h22 => ?_)
    refine g_iconst dX6_restore_25 kI_0 ?_
    refine g_istore_n dX6_restore_26 rfl (lt_r rfl) rfl ?_
    have g : RY B M22 (rstY y 0) := by
      rw [rst_0]
      exact h.n ho h22.2 h22.1
    exact g_le (lvLe_c rfl (lvLe_c rfl lvLe_0)) (lp_restore (y := y) (M0 := M) ho hb 8 0 rfl M22 g (h22.2.up (by omega) (by omega)))
  · refine g_aload_n dX6_restore_7 rfl rfl ?_
    refine g_bipush dX6_restore_8 kB_6 ?_
    refine g_callVi dX6_restore_10 mi_X6_refused ml_X6_83 (ct_X6_refused h ho (by decide) (by decide)) rfl rfl rfl rfl (Nat.le_of_ble_eq_true rfl) ⟨lt_r rfl, Nat.le_of_ble_eq_true rfl⟩ (fun x10 M10 h10 => ?_)
    refine g_iret dX6_restore_13 ⟨_, rfl, ?_⟩
    have hb : ¬ yB y = true := fun z => by rw [if_pos z] at c_4; exact absurd c_4 (by decide)
    exact QY.rf ho (if_neg hb) h10
theorem cx_status {y : Sys} {w : Int32} (h : RY B M y) (ho : okY y) : Ct E B yX6_status cX6_status 2 (some .int) 4 [.ref (B + 0), .int w] M (QY B M (o_status y w)) := by
  obtain ⟨a1, a2, a3, a4, a5, a6, a7, a8, a9, a10⟩ := h.2.1
  refine Ct.of2 (own := RX6) (lv := [(0, .ref (B + 0)), (1, .int w)]) pn_X6 rfl (Nat.le_of_ble_eq_true rfl) rfl ?_
  refine g_iload_n dX6_status_0 rfl rfl ?_
  refine g_tblC (off := 55) (tgt := 56) dX6_status_1 0 (by decide) (by decide) (by decide) (by decide) (fun c_1_0 => ?_) (fun c_1_0 => ?_)
  · refine g_aload_n dX6_status_56 rfl rfl ?_
    refine g_getR dX6_status_57 fl_X6_18 rfl rfl ?_
    refine g_getI dX6_status_60 fl_X6_270 isS_2.1 rfl (a3) ?_
    refine g_iret dX6_status_63 ⟨_, rfl, ?_⟩
    refine QY.p h ho ?_
    unfold o_status statI
    rw [if_pos c_1_0]
  refine g_tblC (off := 63) (tgt := 64) dX6_status_1 1 (by decide) (by decide) (by decide) (by decide) (fun c_1_1 => ?_) (fun c_1_1 => ?_)
  · refine g_aload_n dX6_status_64 rfl rfl ?_
    refine g_getR dX6_status_65 fl_X6_18 rfl rfl ?_
    refine g_callVp dX6_status_68 mi_X5_cellsOfAll ml_X6_338 (ct_X5_cellsOfAll isS_2 h.2.1 ho.2.1) isS_2.1 rfl rfl rfl (Nat.le_of_ble_eq_true rfl) ⟨lt_r rfl, Nat.le_of_ble_eq_true rfl⟩ ?_
    refine g_iret dX6_status_71 ⟨_, rfl, ?_⟩
    refine QY.p h ho ?_
    unfold o_status statI
    rw [if_neg (ne_toI (v := 0) (by decide) c_1_0), if_pos c_1_1]
  refine g_tblC (off := 71) (tgt := 72) dX6_status_1 2 (by decide) (by decide) (by decide) (by decide) (fun c_1_2 => ?_) (fun c_1_2 => ?_)
  · refine g_aload_n dX6_status_72 rfl rfl ?_
    refine g_getR dX6_status_73 fl_X6_18 rfl rfl ?_
    refine g_getI dX6_status_76 fl_X6_181 isS_2.1 rfl (a4) ?_
    refine g_iret dX6_status_79 ⟨_, rfl, ?_⟩
    refine QY.p h ho ?_
    unfold o_status statI
    rw [if_neg (ne_toI (v := 0) (by decide) c_1_0), if_neg (ne_toI (v := 1) (by decide) c_1_1), if_pos c_1_2]
  refine g_tblC (off := 79) (tgt := 80) dX6_status_1 3 (by decide) (by decide) (by decide) (by decide) (fun c_1_3 => ?_) (fun c_1_3 => ?_)
  · refine g_aload_n dX6_status_80 rfl rfl ?_
    refine g_getR dX6_status_81 fl_X6_18 rfl rfl ?_
    refine g_getI dX6_status_84 fl_X6_184 isS_2.1 rfl (a5) ?_
    refine g_iret dX6_status_87 ⟨_, rfl, ?_⟩
    refine QY.p h ho ?_
    unfold o_status statI
    rw [if_neg (ne_toI (v := 0) (by decide) c_1_0), if_neg (ne_toI (v := 1) (by decide) c_1_1), if_neg (ne_toI (v := 2) (by decide) c_1_2), if_pos c_1_3]
  refine g_tblC (off := 87) (tgt := 88) dX6_status_1 4 (by decide) (by decide) (by decide) (by decide) (fun c_1_4 => ?_) (fun c_1_4 => ?_)
  · refine g_aload_n dX6_status_88 rfl rfl ?_
    refine g_getR dX6_status_89 fl_X6_18 rfl rfl ?_
    refine g_getI dX6_status_92 fl_X6_187 isS_2.1 rfl (a6) ?_
    refine g_iret dX6_status_95 ⟨_, rfl, ?_⟩
    refine QY.p h ho ?_
    unfold o_status statI
    rw [if_neg (ne_toI (v := 0) (by decide) c_1_0), if_neg (ne_toI (v := 1) (by decide) c_1_1), if_neg (ne_toI (v := 2) (by decide) c_1_2), if_neg (ne_toI (v := 3) (by decide) c_1_3), if_pos c_1_4]
  refine g_tblC (off := 95) (tgt := 96) dX6_status_1 5 (by decide) (by decide) (by decide) (by decide) (fun c_1_5 => ?_) (fun c_1_5 => ?_)
  · refine g_aload_n dX6_status_96 rfl rfl ?_
    refine g_getR dX6_status_97 fl_X6_18 rfl rfl ?_
    refine g_getI dX6_status_100 fl_X6_341 isS_2.1 rfl (a7) ?_
    refine g_iret dX6_status_103 ⟨_, rfl, ?_⟩
    refine QY.p h ho ?_
    unfold o_status statI
    rw [if_neg (ne_toI (v := 0) (by decide) c_1_0), if_neg (ne_toI (v := 1) (by decide) c_1_1), if_neg (ne_toI (v := 2) (by decide) c_1_2), if_neg (ne_toI (v := 3) (by decide) c_1_3), if_neg (ne_toI (v := 4) (by decide) c_1_4), if_pos c_1_5]
  refine g_tblC (off := 103) (tgt := 104) dX6_status_1 6 (by decide) (by decide) (by decide) (by decide) (fun c_1_6 => ?_) (fun c_1_6 => ?_)
  · refine g_aload_n dX6_status_104 rfl rfl ?_
    refine g_getR dX6_status_105 fl_X6_18 rfl rfl ?_
    refine g_getI dX6_status_108 fl_X6_344 isS_2.1 rfl (a8) ?_
    refine g_iret dX6_status_111 ⟨_, rfl, ?_⟩
    refine QY.p h ho ?_
    unfold o_status statI
    rw [if_neg (ne_toI (v := 0) (by decide) c_1_0), if_neg (ne_toI (v := 1) (by decide) c_1_1), if_neg (ne_toI (v := 2) (by decide) c_1_2), if_neg (ne_toI (v := 3) (by decide) c_1_3), if_neg (ne_toI (v := 4) (by decide) c_1_4), if_neg (ne_toI (v := 5) (by decide) c_1_5), if_pos c_1_6]
  refine g_tblC (off := 111) (tgt := 112) dX6_status_1 7 (by decide) (by decide) (by decide) (by decide) (fun c_1_7 => ?_) (fun c_1_7 => ?_)
  · refine g_aload_n dX6_status_112 rfl rfl ?_
    refine g_getR dX6_status_113 fl_X6_18 rfl rfl ?_
    refine g_getI dX6_status_116 fl_X6_347 isS_2.1 rfl (a9) ?_
    refine g_iret dX6_status_119 ⟨_, rfl, ?_⟩
    refine QY.p h ho ?_
    unfold o_status statI
    rw [if_neg (ne_toI (v := 0) (by decide) c_1_0), if_neg (ne_toI (v := 1) (by decide) c_1_1), if_neg (ne_toI (v := 2) (by decide) c_1_2), if_neg (ne_toI (v := 3) (by decide) c_1_3), if_neg (ne_toI (v := 4) (by decide) c_1_4), if_neg (ne_toI (v := 5) (by decide) c_1_5), if_neg (ne_toI (v := 6) (by decide) c_1_6), if_pos c_1_7]
  refine g_tblC (off := 119) (tgt := 120) dX6_status_1 8 (by decide) (by decide) (by decide) (by decide) (fun c_1_8 => ?_) (fun c_1_8 => ?_)
  · refine g_aload_n dX6_status_120 rfl rfl ?_
    refine g_getR dX6_status_121 fl_X6_18 rfl rfl ?_
    refine g_getI dX6_status_124 fl_X6_316 isS_2.1 rfl (a10) ?_
    refine g_iret dX6_status_127 ⟨_, rfl, ?_⟩
    refine QY.p h ho ?_
    unfold o_status statI
    rw [if_neg (ne_toI (v := 0) (by decide) c_1_0), if_neg (ne_toI (v := 1) (by decide) c_1_1), if_neg (ne_toI (v := 2) (by decide) c_1_2), if_neg (ne_toI (v := 3) (by decide) c_1_3), if_neg (ne_toI (v := 4) (by decide) c_1_4), if_neg (ne_toI (v := 5) (by decide) c_1_5), if_neg (ne_toI (v := 6) (by decide) c_1_6), if_neg (ne_toI (v := 7) (by decide) c_1_7), if_pos c_1_8]
  refine g_tblC (off := 127) (tgt := 128) dX6_status_1 9 (by decide) (by decide) (by decide) (by decide) (fun c_1_9 => ?_) (fun c_1_9 => ?_)
  · refine g_aload_n dX6_status_128 rfl rfl ?_
    refine g_getR dX6_status_129 fl_X6_50 rfl rfl ?_
    refine g_getI dX6_status_132 fl_X6_319 rfl rfl (h.2.2.2.2.2.2.1) ?_
    refine g_iret dX6_status_135 ⟨_, rfl, ?_⟩
    refine QY.p h ho ?_
    unfold o_status statI
    rw [if_neg (ne_toI (v := 0) (by decide) c_1_0), if_neg (ne_toI (v := 1) (by decide) c_1_1), if_neg (ne_toI (v := 2) (by decide) c_1_2), if_neg (ne_toI (v := 3) (by decide) c_1_3), if_neg (ne_toI (v := 4) (by decide) c_1_4), if_neg (ne_toI (v := 5) (by decide) c_1_5), if_neg (ne_toI (v := 6) (by decide) c_1_6), if_neg (ne_toI (v := 7) (by decide) c_1_7), if_neg (ne_toI (v := 8) (by decide) c_1_8), if_pos c_1_9]
  refine g_tableOut (tgt := 136) dX6_status_1 (by skip; omega) (by decide) ?_
  refine g_iload_n dX6_status_136 rfl rfl ?_
  refine g_bipush dX6_status_137 kB_11 ?_
  refine g_bipush dX6_status_139 kB_17 ?_
  refine g_callSp dX6_status_141 ms_X6_isWithin ml_X6_87 (ct_X6_isWithin) rfl rfl (Nat.le_of_ble_eq_true rfl) ⟨lt_r rfl, Nat.le_of_ble_eq_true rfl⟩ ?_
  refine g_if_eqP (tgt := 159) dX6_status_144 (by decide) (fun c_144 => ?_) (fun c_144 => ?_)
  · refine g_iconst dX6_status_159 kI_m1 ?_
    refine g_iret dX6_status_160 ⟨_, rfl, ?_⟩
    refine QY.p h ho ?_
    unfold o_status statI
    rw [if_neg (ne_toI (v := 0) (by decide) c_1_0), if_neg (ne_toI (v := 1) (by decide) c_1_1), if_neg (ne_toI (v := 2) (by decide) c_1_2), if_neg (ne_toI (v := 3) (by decide) c_1_3), if_neg (ne_toI (v := 4) (by decide) c_1_4), if_neg (ne_toI (v := 5) (by decide) c_1_5), if_neg (ne_toI (v := 6) (by decide) c_1_6), if_neg (ne_toI (v := 7) (by decide) c_1_7), if_neg (ne_toI (v := 8) (by decide) c_1_8), if_neg (ne_toI (v := 9) (by decide) c_1_9)]
    first | rw [if_neg c_144] | rw [if_pos c_144, pk_sub (by omega), tn_nI (by omega)]
  · obtain ⟨j, j1, j2, rfl, e1⟩ := btw_n (by decide) (by decide) c_144
    refine g_aload_n dX6_status_147 rfl rfl ?_
    refine g_getR dX6_status_148 fl_X6_61 rfl rfl ?_
    refine g_iload_n dX6_status_151 rfl rfl ?_
    refine g_bipush dX6_status_152 kB_10 ?_
    refine g_isub dX6_status_154 (pk_sub (by omega)) ?_
    refine g_iald dX6_status_155 rfl rfl (by omega) (h.2.2.2.2.2.1 _ (by omega)) ?_
    refine g_goto (tgt := 160) dX6_status_156 (by decide) ?_
    refine g_iret dX6_status_160 ⟨_, rfl, ?_⟩
    refine QY.p h ho ?_
    unfold o_status statI
    rw [if_neg (ne_toI (v := 0) (by decide) c_1_0), if_neg (ne_toI (v := 1) (by decide) c_1_1), if_neg (ne_toI (v := 2) (by decide) c_1_2), if_neg (ne_toI (v := 3) (by decide) c_1_3), if_neg (ne_toI (v := 4) (by decide) c_1_4), if_neg (ne_toI (v := 5) (by decide) c_1_5), if_neg (ne_toI (v := 6) (by decide) c_1_6), if_neg (ne_toI (v := 7) (by decide) c_1_7), if_neg (ne_toI (v := 8) (by decide) c_1_8), if_neg (ne_toI (v := 9) (by decide) c_1_9)]
    first | rw [if_neg c_144] | rw [if_pos c_144, pk_sub (by omega), tn_nI (by omega)]
end X6H
