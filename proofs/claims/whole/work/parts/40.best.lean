/-! heats; best -/
theorem run_t {kd a h t t' : Nat} {D : Dk} : ∀ n, (runD kd a h t D n).1 = (runD kd a h t' D n).1 ∧ (runD kd a h t D n).2.1 = (runD kd a h t' D n).2.1 ∧ (runD kd a h t D n).2.2.1 = (runD kd a h t' D n).2.2.1
  | 0 => ⟨rfl, rfl, rfl⟩
  | n + 1 => by
    obtain ⟨a1, a2, a3⟩ := run_t (kd := kd) (a := a) (h := h) (t := t) (t' := t') (D := D) n
    have e1 : runD kd a h t D (n + 1) = sec kd a h (t + n + 1) (runD kd a h t D n) := rfl
    have e2 : runD kd a h t' D (n + 1) = sec kd a h (t' + n + 1) (runD kd a h t' D n) := rfl
    rw [e1, e2]
    generalize runD kd a h t D n = X at a1 a2 a3 ⊢
    generalize runD kd a h t' D n = Y at a1 a2 a3 ⊢
    unfold sec
    dsimp only
    rw [a1, a2, a3]
    split
    · exact ⟨rfl, rfl, rfl⟩
    · exact ⟨rfl, rfl, rfl⟩
def bI (b : Nat) : Int32 := if b = 0 then -1 else nI (b - 1)
theorem bI_lt {b w : Nat} (hb : b < 2 ^ 31) (hw : w < 2 ^ 31) : ¬ nI w ≤ bI b ↔ b < w + 1 := by
  unfold bI
  by_cases h : b = 0
  · rw [if_pos h]
    constructor
    · intro _; omega
    · intro _ z
      exact Int32.not_lt.mpr z (neg1_lt hw)
  · rw [if_neg h, nI_leI hw (by omega)]
    omega
def bstS (W : Nat → Nat → Nat) (j s : Nat) (st : Nat × Nat) : Nat × Nat := if st.1 < W j s + 1 then (W j s + 1, 100 * j + s) else st
def bstR (W : Nat → Nat → Nat) (j : Nat) : Nat → Nat → Nat × Nat → Nat × Nat
  | 0, _, st => st
  | n + 1, s, st => bstR W j n (s + 1) (bstS W j s st)
def bstJ (W : Nat → Nat → Nat) : Nat → Nat → Nat × Nat → Nat × Nat
  | 0, _, st => st
  | n + 1, j, st => bstJ W n (j + 1) (bstR W j 31 0 st)
theorem bstR_s {W : Nat → Nat → Nat} {j n s : Nat} {st : Nat × Nat} : bstR W j (n + 1) s st = bstR W j n (s + 1) (bstS W j s st) := rfl
theorem bstJ_s {W : Nat → Nat → Nat} {j n : Nat} {st : Nat × Nat} : bstJ W (n + 1) j st = bstJ W n (j + 1) (bstR W j 31 0 st) := rfl
theorem bstR_fix {W : Nat → Nat → Nat} {j : Nat} {st : Nat × Nat} : ∀ (n s : Nat), (∀ s', s ≤ s' → W j s' + 1 ≤ st.1) → bstR W j n s st = st
  | 0, _, _ => rfl
  | n + 1, s, h => by
    rw [bstR_s, show bstS W j s st = st from if_neg (by have := h s (Nat.le_refl s); omega)]
    exact bstR_fix n (s + 1) (fun s' hs' => h s' (by omega))
theorem bstS_ge {W : Nat → Nat → Nat} {j s : Nat} {st : Nat × Nat} : W j s + 1 ≤ (bstS W j s st).1 := by
  unfold bstS
  split
  · exact Nat.le_refl _
  · show _ ≤ st.1; omega
def wBest (y : Sys) (b : Bi) (c j s : Nat) : Nat := wrY y (dunkD b (sHt (yN y)) j s c)
def turnB (b : Bi) : Bi := (b.1, b.2.1, b.2.2.1, turnW b.2.2.1 b.2.2.2)
def o_best (y : Sys) (b c w : Int32) : Int32 × Sys :=
  if ¬ inB' y b then rz y 1 else if ¬ (nI 0 ≤ w ∧ w ≤ nI 1) then rz y 5 else if ¬ (nI 0 ≤ c ∧ c ≤ nI 60) then rz y 6 else
  (nI (bstJ (wBest y (if w = nI 1 then turnB (sBs (yN y) (tn b)) else sBs (yN y) (tn b)) (tn c)) ((sBs (yN y) (tn b)).2.2.1 + 1) 0 (0, 0)).2, y)
theorem wr_le {y : Sys} {D : Dk} (ho : okY y) (h : D.1 ≤ 12) : wrY y D ≤ 1188 := by
  have := worthN_le (g := sWo (yN y)) ho.2.1.2.1 D.1 D.2.1
  unfold wrY
  omega
theorem wBest_le {y : Sys} {b : Bi} {c j s : Nat} (ho : okY y) (hb : okB b) : wBest y b c j s ≤ 1188 := wr_le ho (dunk_ok hb).1.2.2.1
theorem wBest_fix {y : Sys} {b : Bi} {c j s : Nat} (hf : ∀ t', sec b.1 b.2.1 (sHt (yN y)) t' (dipD b (sHt (yN y)) j s) = dipD b (sHt (yN y)) j s) (k : Nat) : wBest y b c j (s + k) = wBest y b c j s := by
  have e : dipD b (sHt (yN y)) j (s + k) = dipD b (sHt (yN y)) j s := run_fix hf k
  unfold wBest dunkD
  rw [e]
  obtain ⟨a1, a2, -⟩ := run_t (kd := b.1) (a := b.2.1) (h := sHt (yN y)) (t := 0 + (s + k)) (t' := 0 + s) (D := entD 0 (dipD b (sHt (yN y)) j s)) c
  unfold wrY
  rw [a1, a2]
section X6K
variable {E : EE} {B : Nat} {M : MM} {k : Nat}
theorem cx_heats {y : Sys} {b s d t : Int32} (h : RY B M y) (ho : okY y) : Ct E B yX6_heats cX6_heats 7 (some .int) 5 [.ref (B + 0), .int b, .int s, .int d, .int t] M (QY B M (o_heats y b s d t)) := by
  have hw := whyBack_le (y := y) (b := b) (s := s)
  have hcn := ho.2.1.2.2.1
  refine Ct.of2 (own := RX6) (lv := [(0, .ref (B + 0)), (1, .int b), (2, .int s), (3, .int d), (4, .int t)]) pn_X6 rfl (Nat.le_of_ble_eq_true rfl) rfl ?_
  refine g_aload_n dX6_heats_0 rfl rfl ?_
  refine g_iload_n dX6_heats_1 rfl rfl ?_
  refine g_iload_n dX6_heats_2 rfl rfl ?_
  refine g_callVp dX6_heats_3 mi_X6_whyNotBack ml_X6_288 (cx_whyBack h ho) rfl rfl rfl rfl (Nat.le_of_ble_eq_true rfl) ⟨lt_r rfl, Nat.le_of_ble_eq_true rfl⟩ ?_
  refine g_istore dX6_heats_6 (lt_r rfl) rfl ?_
  refine g_iload dX6_heats_8 rfl ?_
  refine g_if_neN (tgt := 27) dX6_heats_10 (by decide) rfl (by omega) (fun c_10 => ?_) (fun c_10 => ?_)
  · refine g_iload dX6_heats_27 rfl ?_
    refine g_if_eqN (tgt := 42) dX6_heats_29 (by decide) rfl (by omega) (fun c_29 => ?_) (fun c_29 => ?_)
    · have z0 : whyBack y b s = 0 := by omega
      have z3 : dOk d t (nI 0) := by first | exact c_20 | (exfalso; omega)
      have hB : whyB3 y b s d t = 0 := (if_neg (by omega)).trans (if_pos z3)
      have e9 : o_heats y b s d t = _ := if_neg (fun z => z hB)
      rw [e9]
      obtain ⟨y1, y2, y3⟩ := whyBack_0 z0
      obtain ⟨d1, d2⟩ := whyRow_0 y2
      obtain ⟨z4, z5, -⟩ := z3
      obtain ⟨p, hp, rfl, e1⟩ := in_sh d1
      obtain ⟨q, hq, rfl, f1⟩ := in_b hcn y1
      obtain ⟨d', -, hd, rfl, f2⟩ := btw_n (by decide) (by decide) z4
      obtain ⟨t', -, ht, rfl, f3⟩ := btw_n (by decide) (by decide) z5
      rw [e1, f1, f2, f3]
      refine g_iconst dX6_heats_42 kI_0 ?_
      refine g_istore dX6_heats_43 (lt_r rfl) rfl ?_
      exact g_le (lvLe_c rfl (lvLe_c rfl (lvLe_c rfl (lvLe_c rfl (lvLe_c rfl (lvLe_c rfl lvLe_0)))))) (lp_heats (b := sBs (yN y) q) (x := yH y p) (d := d') (t := t') (R := heatF (fun h => backP (sBs (yN y) q) (yH y p) h d' t') 10 0) h ho rfl hq hd ht hp (h.1 p hp) (ho.1 p hp) 10 0 rfl rfl M Sm.rf)
    · refine g_aload_n dX6_heats_32 rfl rfl ?_
      refine g_iload dX6_heats_33 rfl ?_
      refine g_callVi dX6_heats_35 mi_X6_refused ml_X6_83 (ct_X6_refused h ho (by omega) (by omega)) rfl rfl rfl rfl (Nat.le_of_ble_eq_true rfl) ⟨lt_r rfl, Nat.le_of_ble_eq_true rfl⟩ (fun x35 M35 h35 => ?_)
      refine g_bipush dX6_heats_38 kB_10 ?_
      refine g_isub dX6_heats_40 rfl ?_
      refine g_iret dX6_heats_41 ⟨_, rfl, ?_⟩
      first | exact QY.rl ho (by have hB : whyB3 y b s d t = 6 := (if_neg (by omega)).trans (if_neg c_20); unfold o_heats; rw [hB, if_pos (by decide)]) h35 | exact QY.rl ho (by have hB : whyB3 y b s d t = whyBack y b s := if_pos (by omega); unfold o_heats; rw [hB, if_pos (by omega)]) h35
  · refine g_iload_n dX6_heats_13 rfl rfl ?_
    refine g_iload dX6_heats_14 rfl ?_
    refine g_iconst dX6_heats_16 kI_0 ?_
    refine g_callSp dX6_heats_17 ms_X6_mayBeDunk ml_X6_227 (ct_X6_mayBeDunk) rfl rfl (Nat.le_of_ble_eq_true rfl) ⟨lt_r rfl, Nat.le_of_ble_eq_true rfl⟩ ?_
    refine g_if_neP (tgt := 27) dX6_heats_20 (by decide) (fun c_20 => ?_) (fun c_20 => ?_)
    · refine g_iload dX6_heats_27 rfl ?_
      refine g_if_eqN (tgt := 42) dX6_heats_29 (by decide) rfl (by omega) (fun c_29 => ?_) (fun c_29 => ?_)
      · have z0 : whyBack y b s = 0 := by omega
        have z3 : dOk d t (nI 0) := by first | exact c_20 | (exfalso; omega)
        have hB : whyB3 y b s d t = 0 := (if_neg (by omega)).trans (if_pos z3)
        have e9 : o_heats y b s d t = _ := if_neg (fun z => z hB)
        rw [e9]
        obtain ⟨y1, y2, y3⟩ := whyBack_0 z0
        obtain ⟨d1, d2⟩ := whyRow_0 y2
        obtain ⟨z4, z5, -⟩ := z3
        obtain ⟨p, hp, rfl, e1⟩ := in_sh d1
        obtain ⟨q, hq, rfl, f1⟩ := in_b hcn y1
        obtain ⟨d', -, hd, rfl, f2⟩ := btw_n (by decide) (by decide) z4
        obtain ⟨t', -, ht, rfl, f3⟩ := btw_n (by decide) (by decide) z5
        rw [e1, f1, f2, f3]
        refine g_iconst dX6_heats_42 kI_0 ?_
        refine g_istore dX6_heats_43 (lt_r rfl) rfl ?_
        exact g_le (lvLe_c rfl (lvLe_c rfl (lvLe_c rfl (lvLe_c rfl (lvLe_c rfl (lvLe_c rfl lvLe_0)))))) (lp_heats (b := sBs (yN y) q) (x := yH y p) (d := d') (t := t') (R := heatF (fun h => backP (sBs (yN y) q) (yH y p) h d' t') 10 0) h ho rfl hq hd ht hp (h.1 p hp) (ho.1 p hp) 10 0 rfl rfl M Sm.rf)
      · refine g_aload_n dX6_heats_32 rfl rfl ?_
        refine g_iload dX6_heats_33 rfl ?_
        refine g_callVi dX6_heats_35 mi_X6_refused ml_X6_83 (ct_X6_refused h ho (by omega) (by omega)) rfl rfl rfl rfl (Nat.le_of_ble_eq_true rfl) ⟨lt_r rfl, Nat.le_of_ble_eq_true rfl⟩ (fun x35 M35 h35 => ?_)
        refine g_bipush dX6_heats_38 kB_10 ?_
        refine g_isub dX6_heats_40 rfl ?_
        refine g_iret dX6_heats_41 ⟨_, rfl, ?_⟩
        first | exact QY.rl ho (by have hB : whyB3 y b s d t = 6 := (if_neg (by omega)).trans (if_neg c_20); unfold o_heats; rw [hB, if_pos (by decide)]) h35 | exact QY.rl ho (by have hB : whyB3 y b s d t = whyBack y b s := if_pos (by omega); unfold o_heats; rw [hB, if_pos (by omega)]) h35
    · refine g_bipush dX6_heats_23 kB_6 ?_
      refine g_istore dX6_heats_25 (lt_r rfl) rfl ?_
      refine g_iload dX6_heats_27 rfl ?_
      refine g_if_eqN (tgt := 42) dX6_heats_29 (by decide) rfl (by omega) (fun c_29 => ?_) (fun c_29 => ?_)
      · have z0 : whyBack y b s = 0 := by omega
        have z3 : dOk d t (nI 0) := by first | exact c_20 | (exfalso; omega)
        have hB : whyB3 y b s d t = 0 := (if_neg (by omega)).trans (if_pos z3)
        have e9 : o_heats y b s d t = _ := if_neg (fun z => z hB)
        rw [e9]
        obtain ⟨y1, y2, y3⟩ := whyBack_0 z0
        obtain ⟨d1, d2⟩ := whyRow_0 y2
        obtain ⟨z4, z5, -⟩ := z3
        obtain ⟨p, hp, rfl, e1⟩ := in_sh d1
        obtain ⟨q, hq, rfl, f1⟩ := in_b hcn y1
        obtain ⟨d', -, hd, rfl, f2⟩ := btw_n (by decide) (by decide) z4
        obtain ⟨t', -, ht, rfl, f3⟩ := btw_n (by decide) (by decide) z5
        rw [e1, f1, f2, f3]
        refine g_iconst dX6_heats_42 kI_0 ?_
        refine g_istore dX6_heats_43 (lt_r rfl) rfl ?_
        exact g_le (lvLe_c rfl (lvLe_c rfl (lvLe_c rfl (lvLe_c rfl (lvLe_c rfl (lvLe_c rfl lvLe_0)))))) (lp_heats (b := sBs (yN y) q) (x := yH y p) (d := d') (t := t') (R := heatF (fun h => backP (sBs (yN y) q) (yH y p) h d' t') 10 0) h ho rfl hq hd ht hp (h.1 p hp) (ho.1 p hp) 10 0 rfl rfl M Sm.rf)
      · refine g_aload_n dX6_heats_32 rfl rfl ?_
        refine g_iload dX6_heats_33 rfl ?_
        refine g_callVi dX6_heats_35 mi_X6_refused ml_X6_83 (ct_X6_refused h ho (by omega) (by omega)) rfl rfl rfl rfl (Nat.le_of_ble_eq_true rfl) ⟨lt_r rfl, Nat.le_of_ble_eq_true rfl⟩ (fun x35 M35 h35 => ?_)
        refine g_bipush dX6_heats_38 kB_10 ?_
        refine g_isub dX6_heats_40 rfl ?_
        refine g_iret dX6_heats_41 ⟨_, rfl, ?_⟩
        first | exact QY.rl ho (by have hB : whyB3 y b s d t = 6 := (if_neg (by omega)).trans (if_neg c_20); unfold o_heats; rw [hB, if_pos (by decide)]) h35 | exact QY.rl ho (by have hB : whyB3 y b s d t = whyBack y b s := if_pos (by omega); unfold o_heats; rw [hB, if_pos (by omega)]) h35
theorem lp_bestR {y : Sys} {b : Bi} {c j : Nat} {M0 : MM} {st0 : Nat × Nat} {F : Option Value → MM → Prop} (hY : RY B M0 y) (ho : okY y) (hob : okB b) (hc : c ≤ 60) (hj : j ≤ 12)
    (hend : ∀ M', Sm B M0 M' 47 53 → G E B cX6_bestDip (RX6, 9, some .int, rmD 5, 0, 0, KM E B F) 129 [(0, .ref (B + 0)), (1, .ref (B + k)), (2, .int (nI c)), (3, .int (bI (bstR (wBest y b c) j 31 0 st0).1)), (4, .int (nI (bstR (wBest y b c) j 31 0 st0).2)), (5, .int (nI j))] [] M') :
    ∀ (n s : Nat) (st : Nat × Nat) (x : Int32), n + s = 31 → bstR (wBest y b c) j n s st = bstR (wBest y b c) j 31 0 st0 → st.1 < 10000 → (x = nI 0 ∨ x = nI 1) → (x = nI 0 → ∀ s', s ≤ s' → wBest y b c j s' + 1 ≤ st.1) → ∀ M', RD B M' 47 b.1 b.2.1 (sHt (yN y)) (0 + s) (dipD b (sHt (yN y)) j s) → Sm B M0 M' 47 53 →
    G E B cX6_bestDip (RX6, 9, some .int, rmD 5, 0, 0, KM E B F) 47 [(0, .ref (B + 0)), (1, .ref (B + k)), (2, .int (nI c)), (3, .int (bI st.1)), (4, .int (nI st.2)), (5, .int (nI j)), (6, .int x), (7, .int (nI s))] [] M' := by
  have hh := ho.2.1.2.2.2.1
  intro n
  induction n with
  | zero =>
    intro s st x h1 hR hst hx hf M' hD hS
    refine g_iload dX6_bestDip_47 rfl ?_
    refine g_bipush dX6_bestDip_49 kB_30 ?_
    refine g_icmp_gtN (tgt := 129) dX6_bestDip_51 (by decide) rfl rfl (by omega) (by omega) (fun c_51 => ?_) (fun c_51 => absurd c_51 (by omega))
    have h9 := hend M' hS
    rw [← hR] at h9
    exact g_le (lvLe_c rfl (lvLe_c rfl (lvLe_c rfl (lvLe_c rfl (lvLe_c rfl (lvLe_c rfl lvLe_0)))))) h9
  | succ n ih =>
    intro s st x h1 hR hst hx hf M' hD hS
    have hw := wBest_le (c := c) (j := j) (s := s) ho hob
    refine g_iload dX6_bestDip_47 rfl ?_
    refine g_bipush dX6_bestDip_49 kB_30 ?_
    refine g_icmp_gtN (tgt := 129) dX6_bestDip_51 (by decide) rfl rfl (by omega) (by omega) (fun c_51 => absurd c_51 (by omega)) (fun c_51 => ?_)
    refine g_iload dX6_bestDip_54 rfl ?_
    refine g_if_eq (tgt := 129) dX6_bestDip_56 (by decide) (fun c_56 => ?_) (fun c_56 => ?_)
    · have h9 := hend M' hS
      rw [← hR, bstR_fix _ _ (hf c_56)] at h9
      exact g_le (lvLe_c rfl (lvLe_c rfl (lvLe_c rfl (lvLe_c rfl (lvLe_c rfl (lvLe_c rfl lvLe_0)))))) h9
    · refine g_aload_n dX6_bestDip_59 rfl rfl ?_
      refine g_getR dX6_bestDip_60 fl_X6_35 rfl rfl ?_
      refine g_aload_n dX6_bestDip_63 rfl rfl ?_
      refine g_getR dX6_bestDip_64 fl_X6_31 rfl rfl ?_
      refine g_callVv dX6_bestDip_67 mi_X2_goOnFrom ml_X6_243 (ct_X2_goOnFrom isD_50 isD_47 (by omega) hD (dipD_ok hob)) isD_50.1 rfl rfl rfl (Nat.le_of_ble_eq_true rfl) ⟨lt_r rfl, Nat.le_of_ble_eq_true rfl⟩ (fun M67 h67 => ?_)
      refine g_aload_n dX6_bestDip_70 rfl rfl ?_
      refine g_getR dX6_bestDip_71 fl_X6_35 rfl rfl ?_
      refine g_iconst dX6_bestDip_74 kI_0 ?_
      refine g_iload_n dX6_bestDip_75 rfl rfl ?_
      refine g_callVv dX6_bestDip_76 mi_X2_stay ml_X6_247 (ct_X2_stay isD_50 (d := 0) h67.1 (dipD_ok hob) hh (by decide) (by omega)) isD_50.1 rfl rfl rfl (Nat.le_of_ble_eq_true rfl) ⟨lt_r rfl, Nat.le_of_ble_eq_true rfl⟩ (fun M76 h76 => ?_)
      have g4 := Sm.tr h67.2 h76.2
      have hS4 : Sm B M0 M76 47 53 := Sm.tr hS (g4.up (by omega) (by omega))
      have hY4 := hY.sc ho (Sc.s hS4 (by omega))
      refine g_aload_n dX6_bestDip_79 rfl rfl ?_
      refine g_getR dX6_bestDip_80 fl_X6_18 rfl rfl ?_
      refine g_aload_n dX6_bestDip_83 rfl rfl ?_
      refine g_getR dX6_bestDip_84 fl_X6_35 rfl rfl ?_
      refine g_getR dX6_bestDip_87 fl_X6_225 isD_50.1 rfl ?_
      refine g_callVp dX6_bestDip_90 mi_X5_worthOfCells ml_X6_253 (ct_X5_worthOfCells isS_2 isD_50.2 hY4.2.1 ho.2.1 h76.1.1 (dunk_ok hob).1) isS_2.1 rfl rfl rfl (Nat.le_of_ble_eq_true rfl) ⟨lt_r rfl, Nat.le_of_ble_eq_true rfl⟩ ?_
      refine g_istore dX6_bestDip_93 (lt_r rfl) rfl ?_
      refine g_iload dX6_bestDip_95 rfl ?_
      refine g_iload_n dX6_bestDip_97 rfl rfl ?_
      refine g_icmp_le (tgt := 114) dX6_bestDip_98 (by decide) (fun c_98 => ?_) (fun c_98 => ?_)
      · refine g_aload_n dX6_bestDip_114 rfl rfl ?_
        refine g_getR dX6_bestDip_115 fl_X6_31 rfl rfl ?_
        refine g_callVi dX6_bestDip_118 mi_X2_second ml_X6_240 (ct_X2_second isD_47 (hD.sm g4 (by omega)) (dipD_ok hob) (by omega) hh) isD_47.1 rfl rfl rfl (Nat.le_of_ble_eq_true rfl) ⟨lt_r rfl, Nat.le_of_ble_eq_true rfl⟩ (fun x118 M118 h118 => ?_)
        refine g_istore dX6_bestDip_121 (lt_r rfl) rfl ?_
        refine g_iinc dX6_bestDip_123 rfl (inc_nI _) rfl ?_
        refine g_goto (tgt := 47) dX6_bestDip_126 (by decide) ?_
        obtain ⟨⟨g1, g2⟩, g3, g5⟩ := h118
        have hb9 : (bstS (wBest y b c) j s st).1 < 10000 := by
          unfold bstS
          split
          · show wBest y b c j s + 1 < 10000; omega
          · exact hst
        have ih2 := ih (s + 1) (bstS (wBest y b c) j s st) x118 (by omega) (bstR_s.symm.trans hR) hb9 g3 (fun z s' hs' => by
          obtain ⟨k', rfl⟩ : ∃ k', s' = s + k' := ⟨s' - s, by omega⟩
          rw [wBest_fix (g5 z) k']
          exact bstS_ge) M118 g1 (Sm.tr hS4 (g2.up (by omega) (by omega)))
        first | (rw [show bstS (wBest y b c) j s st = st from if_neg (fun z => (bI_lt (b := st.1) (w := wBest y b c j s) (by omega) (by omega)).mpr z c_98)] at ih2; exact g_le (lvLe_c rfl (lvLe_c rfl (lvLe_c rfl (lvLe_c rfl (lvLe_c rfl (lvLe_c rfl (lvLe_c rfl (lvLe_c rfl lvLe_0)))))))) ih2) | (rw [show bstS (wBest y b c) j s st = (wBest y b c j s + 1, 100 * j + s) from if_pos ((bI_lt (b := st.1) (w := wBest y b c j s) (by omega) (by omega)).mp c_98), show bI (wBest y b c j s + 1, 100 * j + s).1 = nI (wBest y b c j s) from if_neg (Nat.succ_ne_zero _)] at ih2; exact g_le (lvLe_c rfl (lvLe_c rfl (lvLe_c rfl (lvLe_c rfl (lvLe_c rfl (lvLe_c rfl (lvLe_c rfl (lvLe_c rfl lvLe_0)))))))) ih2)
      · refine g_iload dX6_bestDip_101 rfl ?_
        refine g_istore_n dX6_bestDip_103 rfl (lt_r rfl) rfl ?_
        refine g_bipush dX6_bestDip_104 kB_100 ?_
        refine g_iload dX6_bestDip_106 rfl ?_
        refine g_imul dX6_bestDip_108 (pk_mul _ _) ?_
        refine g_iload dX6_bestDip_109 rfl ?_
        refine g_iadd dX6_bestDip_111 (nI_add _ _) ?_
        refine g_istore dX6_bestDip_112 (lt_r rfl) rfl ?_
        refine g_aload_n dX6_bestDip_114 rfl rfl ?_
        refine g_getR dX6_bestDip_115 fl_X6_31 rfl rfl ?_
        refine g_callVi dX6_bestDip_118 mi_X2_second ml_X6_240 (ct_X2_second isD_47 (hD.sm g4 (by omega)) (dipD_ok hob) (by omega) hh) isD_47.1 rfl rfl rfl (Nat.le_of_ble_eq_true rfl) ⟨lt_r rfl, Nat.le_of_ble_eq_true rfl⟩ (fun x118 M118 h118 => ?_)
        refine g_istore dX6_bestDip_121 (lt_r rfl) rfl ?_
        refine g_iinc dX6_bestDip_123 rfl (inc_nI _) rfl ?_
        refine g_goto (tgt := 47) dX6_bestDip_126 (by decide) ?_
        obtain ⟨⟨g1, g2⟩, g3, g5⟩ := h118
        have hb9 : (bstS (wBest y b c) j s st).1 < 10000 := by
          unfold bstS
          split
          · show wBest y b c j s + 1 < 10000; omega
          · exact hst
        have ih2 := ih (s + 1) (bstS (wBest y b c) j s st) x118 (by omega) (bstR_s.symm.trans hR) hb9 g3 (fun z s' hs' => by
          obtain ⟨k', rfl⟩ : ∃ k', s' = s + k' := ⟨s' - s, by omega⟩
          rw [wBest_fix (g5 z) k']
          exact bstS_ge) M118 g1 (Sm.tr hS4 (g2.up (by omega) (by omega)))
        first | (rw [show bstS (wBest y b c) j s st = st from if_neg (fun z => (bI_lt (b := st.1) (w := wBest y b c j s) (by omega) (by omega)).mpr z c_98)] at ih2; exact g_le (lvLe_c rfl (lvLe_c rfl (lvLe_c rfl (lvLe_c rfl (lvLe_c rfl (lvLe_c rfl (lvLe_c rfl (lvLe_c rfl lvLe_0)))))))) ih2) | (rw [show bstS (wBest y b c) j s st = (wBest y b c j s + 1, 100 * j + s) from if_pos ((bI_lt (b := st.1) (w := wBest y b c j s) (by omega) (by omega)).mp c_98), show bI (wBest y b c j s + 1, 100 * j + s).1 = nI (wBest y b c j s) from if_neg (Nat.succ_ne_zero _)] at ih2; exact g_le (lvLe_c rfl (lvLe_c rfl (lvLe_c rfl (lvLe_c rfl (lvLe_c rfl (lvLe_c rfl (lvLe_c rfl (lvLe_c rfl lvLe_0)))))))) ih2)
end X6K
