/-! back, heats -/
def asW (x : Sh) (w : Nat → Nat) : Nat → Bool
  | 0 => true
  | n + 1 => asW x w n && decide ((elI x (nI n)).toInt32 = nI (w n))
theorem asW_iff {x : Sh} {w : Nat → Nat} : ∀ n, asW x w n = true ↔ ∀ i, i < n → (elI x (nI i)).toInt32 = nI (w i)
  | 0 => ⟨fun _ i hi => absurd hi (Nat.not_lt_zero i), fun _ => rfl⟩
  | n + 1 => by
    have e : asW x w (n + 1) = (asW x w n && decide ((elI x (nI n)).toInt32 = nI (w n))) := rfl
    rw [e, Bool.and_eq_true, asW_iff n, decide_eq_true_iff]
    constructor
    · intro h i hi
      by_cases c : i = n
      · subst c; exact h.2
      · exact h.1 i (by omega)
    · intro h
      exact ⟨fun i hi => h i (by omega), h n (Nat.lt_succ_self n)⟩
def dryB (b : Bi) : Bi := (b.1, b.2.1, b.2.2.1, fun _ => 0)
theorem ok_dry {b : Bi} (h : okB b) : okB (dryB b) := ⟨h.1, h.2.1, h.2.2.1, fun _ => Nat.zero_le _⟩
def backP (b : Bi) (x : Sh) (h d i : Nat) : Bool := decide ((dipD (dryB b) h d i).2.2.2.1 = 0) && asW x (dipD (dryB b) h d i).2.1 (dipD (dryB b) h d i).1
def bit64 (i : Nat) : Int64 := 1 <<< ((nI i).toInt64 &&& 63)
def backF (P : Nat → Bool) : Nat → Int64
  | 0 => 0
  | n + 1 => if P n = true then backF P n ||| bit64 n else backF P n
theorem backF_t {P : Nat → Bool} {n : Nat} (h : P n = true) : backF P (n + 1) = backF P n ||| bit64 n := if_pos h
theorem backF_n {P : Nat → Bool} {n : Nat} (h : ¬ P n = true) : backF P (n + 1) = backF P n := if_neg h
def whyBack (y : Sys) (b s : Int32) : Nat := if ¬ inB' y b then 1 else if ¬ whyRow y s = 0 then whyRow y s else if (yH y (tn s)).2.2.1 < (sBs (yN y) (tn b)).2.2.1 then 5 else 0
def whyB2 (y : Sys) (b s d : Int32) : Nat := if ¬ whyBack y b s = 0 then whyBack y b s else if nI 0 ≤ d ∧ d ≤ nI 12 then 0 else 6
def o_back (y : Sys) (b s d : Int32) : Int64 × Sys :=
  if ¬ whyB2 y b s d = 0 then ((-(nI (whyB2 y b s d))).toInt64, rfz y (whyB2 y b s d)) else (backF (fun i => backP (sBs (yN y) (tn b)) (yH y (tn s)) (sHt (yN y)) (tn d) i) 61, y)
def heatF (P : Nat → Bool) : Nat → Nat → Int32
  | 0, _ => -1
  | n + 1, h => if P h = true then nI h else heatF P n (h + 10)
theorem heatF_t {P : Nat → Bool} {n h : Nat} (c : P h = true) : heatF P (n + 1) h = nI h := if_pos c
theorem heatF_n {P : Nat → Bool} {n h : Nat} (c : ¬ P h = true) : heatF P (n + 1) h = heatF P n (h + 10) := if_neg c
def whyB3 (y : Sys) (b s d t : Int32) : Nat := if ¬ whyBack y b s = 0 then whyBack y b s else if dOk d t (nI 0) then 0 else 6
def o_heats (y : Sys) (b s d t : Int32) : Int32 × Sys :=
  if ¬ whyB3 y b s d t = 0 then rzl y (whyB3 y b s d t) 10 else (heatF (fun h => backP (sBs (yN y) (tn b)) (yH y (tn s)) h (tn d) (tn t)) 10 0, y)
def QL (B : Nat) (M : MM) (o : Int64 × Sys) : Option Value → MM → Prop := Rl (fun r M2 => r = o.1 ∧ RY B M2 o.2 ∧ okY o.2 ∧ Sm B M M2 0 80)
theorem whyBack_le {y : Sys} {b s : Int32} : whyBack y b s ≤ 6 := by
  have := whyRow_le (y := y) (s := s)
  unfold whyBack
  repeat' split
  all_goals omega
theorem whyBack_0 {y : Sys} {b s : Int32} (h : whyBack y b s = 0) : inB' y b ∧ whyRow y s = 0 ∧ (sBs (yN y) (tn b)).2.2.1 ≤ (yH y (tn s)).2.2.1 := by
  unfold whyBack at h
  split at h
  · cases h
  · split at h
    · rename_i a b; exact absurd h b
    · split at h
      · cases h
      · rename_i a b c; exact ⟨Classical.not_not.mp a, Classical.not_not.mp b, Nat.not_lt.mp c⟩
section X6J
variable {E : EE} {B : Nat} {M : MM} {k : Nat}
theorem lp_asW {b : Bi} {x : Sh} {kh cn : Nat} (hb : isB k) (hh : isH kh) (hR : RB M (B + k) (B + (k + 1)) b) (ho : okB b) (hx : RH B M kh x) (hox : okH cn x) : ∀ (n i : Nat), n + i = b.2.2.1 → (∀ j, j < i → (elI x (nI j)).toInt32 = nI (b.2.2.2 j)) →
    G E B cX6_isAsWetAs (RX6, 3, some .boolean, rmD 2, 0, 0, KM E B (Rp (bp (asW x b.2.2.2 b.2.2.1 = true)) M)) 2 [(0, .ref (B + k)), (1, .ref (B + kh)), (2, .int (nI i))] [] M := by
  have h12 := ho.2.2.1
  intro n
  induction n with
  | zero =>
    intro i h1 hI
    refine g_iload_n dX6_isAsWetAs_2 rfl rfl ?_
    refine g_aload_n dX6_isAsWetAs_3 rfl rfl ?_
    refine g_getI dX6_isAsWetAs_4 fl_X6_162 hb.1 rfl (hR.2.2.1) ?_
    refine g_icmp_geN (tgt := 33) dX6_isAsWetAs_7 (by decide) rfl rfl (by omega) (by omega) (fun c_7 => ?_) (fun c_7 => absurd c_7 (by omega))
    refine g_iconst dX6_isAsWetAs_33 kI_1 ?_
    refine g_zret dX6_isAsWetAs_34 (by first | exact Or.inl rfl | exact Or.inr rfl | exact bp_01) ⟨_, rfl, ?_⟩
    exact ⟨bp_t ((asW_iff _).mpr (fun j hj => hI j (by omega))), rfl⟩
  | succ n ih =>
    intro i h1 hI
    refine g_iload_n dX6_isAsWetAs_2 rfl rfl ?_
    refine g_aload_n dX6_isAsWetAs_3 rfl rfl ?_
    refine g_getI dX6_isAsWetAs_4 fl_X6_162 hb.1 rfl (hR.2.2.1) ?_
    refine g_icmp_geN (tgt := 33) dX6_isAsWetAs_7 (by decide) rfl rfl (by omega) (by omega) (fun c_7 => absurd c_7 (by omega)) (fun c_7 => ?_)
    refine g_aload_n dX6_isAsWetAs_10 rfl rfl ?_
    refine g_iload_n dX6_isAsWetAs_11 rfl rfl ?_
    refine g_callVl dX6_isAsWetAs_12 mi_X4_elementAt ml_X6_119 (ct_X4_elementAt hh hx hox) hh.1 rfl rfl rfl (Nat.le_of_ble_eq_true rfl) ⟨lt_r rfl, Nat.le_of_ble_eq_true rfl⟩ (fun x12 M12 h12 => ?_)
    obtain ⟨rfl, rfl⟩ := h12
    refine g_l2i dX6_isAsWetAs_15 rfl ?_
    refine g_aload_n dX6_isAsWetAs_16 rfl rfl ?_
    refine g_getR dX6_isAsWetAs_17 fl_X6_174 hb.1 rfl ?_
    refine g_iload_n dX6_isAsWetAs_20 rfl rfl ?_
    refine g_iald dX6_isAsWetAs_21 hb.2 rfl (by omega) (hR.2.2.2 i (by omega)) ?_
    refine g_icmp_eq (tgt := 27) dX6_isAsWetAs_22 (by decide) (fun c_22 => ?_) (fun c_22 => ?_)
    · refine g_iinc dX6_isAsWetAs_27 rfl (inc_nI _) rfl ?_
      refine g_goto (tgt := 2) dX6_isAsWetAs_30 (by decide) ?_
      exact g_le (lvLe_c rfl (lvLe_c rfl (lvLe_c rfl lvLe_0))) (ih (i + 1) (by omega) (fun j hj => by
        by_cases e : j = i
        · subst e; exact c_22
        · exact hI j (by omega)))
    · refine g_iconst dX6_isAsWetAs_25 kI_0 ?_
      refine g_zret dX6_isAsWetAs_26 (by first | exact Or.inl rfl | exact Or.inr rfl | exact bp_01) ⟨_, rfl, ?_⟩
      exact ⟨bp_f (fun z => c_22 ((asW_iff _).mp z i (by omega))), rfl⟩
theorem ct_asW {b : Bi} {x : Sh} {kh cn : Nat} (hb : isB k) (hh : isH kh) (hR : RB M (B + k) (B + (k + 1)) b) (ho : okB b) (hx : RH B M kh x) (hox : okH cn x) : Ct E B yX6_isAsWetAs cX6_isAsWetAs 3 (some .boolean) 2 [.ref (B + k), .ref (B + kh)] M (Rp (bp (asW x b.2.2.2 b.2.2.1 = true)) M) := by
  refine Ct.of2 (own := RX6) (lv := [(0, .ref (B + k)), (1, .ref (B + kh))]) pn_X6 rfl (Nat.le_of_ble_eq_true rfl) rfl ?_
  refine g_iconst dX6_isAsWetAs_0 kI_0 ?_
  refine g_istore_n dX6_isAsWetAs_1 rfl (lt_r rfl) rfl ?_
  exact g_le (lvLe_c rfl (lvLe_c rfl (lvLe_c rfl lvLe_0))) (lp_asW hb hh hR ho hx hox b.2.2.1 0 rfl (fun j hj => absurd hj (Nat.not_lt_zero j)))
theorem cx_whyBack {y : Sys} {b s : Int32} (h : RY B M y) (ho : okY y) : Ct E B yX6_whyNotBack cX6_whyNotBack 4 (some .int) 2 [.ref (B + 0), .int b, .int s] M (Rp (nI (whyBack y b s)) M) := by
  have hcn := ho.2.1.2.2.1
  have hw := whyRow_le (y := y) (s := s)
  refine Ct.of2 (own := RX6) (lv := [(0, .ref (B + 0)), (1, .int b), (2, .int s)]) pn_X6 rfl (Nat.le_of_ble_eq_true rfl) rfl ?_
  refine g_aload_n dX6_whyNotBack_0 rfl rfl ?_
  refine g_getR dX6_whyNotBack_1 fl_X6_18 rfl rfl ?_
  refine g_iload_n dX6_whyNotBack_4 rfl rfl ?_
  refine g_callVp dX6_whyNotBack_5 mi_X5_hasBiscuit ml_X6_123 (ct_hasB h) isS_2.1 rfl rfl rfl (Nat.le_of_ble_eq_true rfl) ⟨lt_r rfl, Nat.le_of_ble_eq_true rfl⟩ ?_
  refine g_if_neP (tgt := 13) dX6_whyNotBack_8 (by decide) (fun c_8 => ?_) (fun c_8 => ?_)
  · refine g_aload_n dX6_whyNotBack_13 rfl rfl ?_
    refine g_iload_n dX6_whyNotBack_14 rfl rfl ?_
    refine g_callVp dX6_whyNotBack_15 mi_X6_whyNoRow ml_X6_95 (ct_X6_whyNoRow h ho) rfl rfl rfl rfl (Nat.le_of_ble_eq_true rfl) ⟨lt_r rfl, Nat.le_of_ble_eq_true rfl⟩ ?_
    refine g_istore_n dX6_whyNotBack_18 rfl (lt_r rfl) rfl ?_
    refine g_iload_n dX6_whyNotBack_19 rfl rfl ?_
    refine g_if_eqN (tgt := 25) dX6_whyNotBack_20 (by decide) rfl (by omega) (fun c_20 => ?_) (fun c_20 => ?_)
    · obtain ⟨d1, d2⟩ := whyRow_0 c_20
      obtain ⟨p, hp, rfl, e1⟩ := in_sh d1
      rw [e1] at d2
      obtain ⟨q, hq, rfl, f1⟩ := in_b hcn c_8
      have b1 := (ho.1 p hp).2.1 d2
      have b2 := (ho.2.1.1 q hq).2.2.1
      refine g_aload_n dX6_whyNotBack_25 rfl rfl ?_
      refine g_getR dX6_whyNotBack_26 fl_X6_11 rfl rfl ?_
      refine g_iload_n dX6_whyNotBack_29 rfl rfl ?_
      refine g_aald dX6_whyNotBack_30 rfl rfl (isH_s (by omega)) ?_
      refine g_getI dX6_whyNotBack_31 fl_X6_353 (isH_n (by omega)).1 rfl (show _ = nI (yH y p).2.2.1 from (by rw [(h.1 p hp).2.1, if_pos d2])) ?_
      refine g_aload_n dX6_whyNotBack_34 rfl rfl ?_
      refine g_getR dX6_whyNotBack_35 fl_X6_18 rfl rfl ?_
      refine g_getR dX6_whyNotBack_38 fl_X6_141 isS_2.1 rfl ?_
      refine g_iload_n dX6_whyNotBack_41 rfl rfl ?_
      refine g_aald dX6_whyNotBack_42 isS_2.2.1 rfl (isS_b (by omega)) ?_
      refine g_getI dX6_whyNotBack_43 fl_X6_162 (isS_2.2.2.2 _ (by omega)).1 rfl ((h.2.1.1 q hq).2.2.1) ?_
      refine g_icmp_geN (tgt := 53) dX6_whyNotBack_46 (by decide) rfl rfl (by omega) (by omega) (fun c_46 => ?_) (fun c_46 => ?_)
      · refine g_iconst dX6_whyNotBack_53 kI_0 ?_
        refine g_iret dX6_whyNotBack_54 ⟨_, rfl, ?_⟩
        refine ⟨?_, rfl⟩
        unfold whyBack
        rw [if_neg (fun z => z c_8), if_neg (fun z => z c_20), e1, f1]
        first | rw [if_pos (show (yH y p).2.2.1 < (sBs (yN y) q).2.2.1 by omega)] | rw [if_neg (show ¬ (yH y p).2.2.1 < (sBs (yN y) q).2.2.1 by omega)]
      · refine g_iconst dX6_whyNotBack_49 kI_5 ?_
        refine g_goto (tgt := 54) dX6_whyNotBack_50 (by decide) ?_
        refine g_iret dX6_whyNotBack_54 ⟨_, rfl, ?_⟩
        refine ⟨?_, rfl⟩
        unfold whyBack
        rw [if_neg (fun z => z c_8), if_neg (fun z => z c_20), e1, f1]
        first | rw [if_pos (show (yH y p).2.2.1 < (sBs (yN y) q).2.2.1 by omega)] | rw [if_neg (show ¬ (yH y p).2.2.1 < (sBs (yN y) q).2.2.1 by omega)]
    · refine g_iload_n dX6_whyNotBack_23 rfl rfl ?_
      refine g_iret dX6_whyNotBack_24 ⟨_, rfl, ?_⟩
      exact ⟨by unfold whyBack; rw [if_neg (fun z => z c_8), if_pos (show ¬ whyRow y s = 0 by omega)], rfl⟩
  · refine g_iconst dX6_whyNotBack_11 kI_1 ?_
    refine g_iret dX6_whyNotBack_12 ⟨_, rfl, ?_⟩
    exact ⟨by unfold whyBack; rw [if_pos c_8], rfl⟩
theorem tl_back {y : Sys} {b : Bi} {x : Sh} {h d i q cn : Nat} {M0 : MM} (hb : okB b) (hi : i ≤ 60) (hq : q < 8) (hx : RH B M (64 + 2 * q) x) (hox : okH cn x) (hR : RD B M 47 b.1 b.2.1 h (0 + i) (dipD (dryB b) h d i))
    (h1 : G E B cX6_back (RX6, 8, some .long, rmD 5, 0, 0, KM E B (QL B M0 (backF (fun i => backP b x h d i) 61, y))) 77 [(0, .ref (B + 0)), (2, .int (nI q)), (5, .long (backF (fun i => backP b x h d i) (i + 1))), (7, .int (nI (i + 1)))] [] M) :
    G E B cX6_back (RX6, 8, some .long, rmD 5, 0, 0, KM E B (QL B M0 (backF (fun i => backP b x h d i) 61, y))) 97 [(0, .ref (B + 0)), (2, .int (nI q)), (5, .long (backF (fun i => backP b x h d i) i)), (7, .int (nI i))] [] M := by
  have hk : okD b.1 b.2.1 (0 + i) (dipD (dryB b) h d i) := dipD_ok (ok_dry hb)
  refine g_aload_n dX6_back_97 rfl rfl ?_
  refine g_getR dX6_back_98 fl_X6_31 rfl rfl ?_
  refine g_callVp dX6_back_101 mi_X2_isWhole ml_X6_250 (ct_X2_isWhole isD_47 hR hk) isD_47.1 rfl rfl rfl (Nat.le_of_ble_eq_true rfl) ⟨lt_r rfl, Nat.le_of_ble_eq_true rfl⟩ ?_
  refine g_if_eqP (tgt := 135) dX6_back_104 (by decide) (fun c_104 => ?_) (fun c_104 => ?_)
  · refine g_iinc dX6_back_135 rfl (inc_nI _) rfl ?_
    refine g_goto (tgt := 77) dX6_back_138 (by decide) ?_
    first | (rw [backF_t (show backP b x h d i = true from by unfold backP; rw [Bool.and_eq_true]; exact ⟨decide_eq_true c_104, c_123⟩)] at h1; exact g_le (lvLe_c rfl (lvLe_c rfl (lvLe_c rfl (lvLe_c rfl lvLe_0)))) h1) | (rw [backF_n (show ¬ backP b x h d i = true from fun z => by unfold backP at z; rw [Bool.and_eq_true] at z; first | exact c_123 z.2 | exact c_104 (of_decide_eq_true z.1))] at h1; exact g_le (lvLe_c rfl (lvLe_c rfl (lvLe_c rfl (lvLe_c rfl lvLe_0)))) h1)
  · refine g_aload_n dX6_back_107 rfl rfl ?_
    refine g_getR dX6_back_108 fl_X6_31 rfl rfl ?_
    refine g_getR dX6_back_111 fl_X6_225 isD_47.1 rfl ?_
    refine g_aload_n dX6_back_114 rfl rfl ?_
    refine g_getR dX6_back_115 fl_X6_11 rfl rfl ?_
    refine g_iload_n dX6_back_118 rfl rfl ?_
    refine g_aald dX6_back_119 rfl rfl (isH_s (by omega)) ?_
    refine g_callSp dX6_back_120 ms_X6_isAsWetAs ml_X6_294 (ct_asW isD_47.2 (isH_n (by omega)) hR.1 hk.1 hx hox) rfl rfl (Nat.le_of_ble_eq_true rfl) ⟨lt_r rfl, Nat.le_of_ble_eq_true rfl⟩ ?_
    refine g_if_eqP (tgt := 135) dX6_back_123 (by decide) (fun c_123 => ?_) (fun c_123 => ?_)
    · refine g_iinc dX6_back_135 rfl (inc_nI _) rfl ?_
      refine g_goto (tgt := 77) dX6_back_138 (by decide) ?_
      first | (rw [backF_t (show backP b x h d i = true from by unfold backP; rw [Bool.and_eq_true]; exact ⟨decide_eq_true c_104, c_123⟩)] at h1; exact g_le (lvLe_c rfl (lvLe_c rfl (lvLe_c rfl (lvLe_c rfl lvLe_0)))) h1) | (rw [backF_n (show ¬ backP b x h d i = true from fun z => by unfold backP at z; rw [Bool.and_eq_true] at z; first | exact c_123 z.2 | exact c_104 (of_decide_eq_true z.1))] at h1; exact g_le (lvLe_c rfl (lvLe_c rfl (lvLe_c rfl (lvLe_c rfl lvLe_0)))) h1)
    · refine g_lload dX6_back_126 rfl ?_
      refine g_lconst (v := 1) dX6_back_128 (by decide) ?_
      refine g_iload dX6_back_129 rfl ?_
      refine g_lshl dX6_back_131 rfl ?_
      refine g_lor dX6_back_132 rfl ?_
      refine g_lstore dX6_back_133 (lt_r rfl) rfl ?_
      refine g_iinc dX6_back_135 rfl (inc_nI _) rfl ?_
      refine g_goto (tgt := 77) dX6_back_138 (by decide) ?_
      first | (rw [backF_t (show backP b x h d i = true from by unfold backP; rw [Bool.and_eq_true]; exact ⟨decide_eq_true c_104, c_123⟩)] at h1; exact g_le (lvLe_c rfl (lvLe_c rfl (lvLe_c rfl (lvLe_c rfl lvLe_0)))) h1) | (rw [backF_n (show ¬ backP b x h d i = true from fun z => by unfold backP at z; rw [Bool.and_eq_true] at z; first | exact c_123 z.2 | exact c_104 (of_decide_eq_true z.1))] at h1; exact g_le (lvLe_c rfl (lvLe_c rfl (lvLe_c rfl (lvLe_c rfl lvLe_0)))) h1)
theorem lp_back {y : Sys} {b : Bi} {x : Sh} {h d q cn : Nat} {M0 : MM} (hY : RY B M0 y) (ho : okY y) (hb : okB b) (hh : h < 2 ^ 31) (hq : q < 8) (hx : RH B M0 (64 + 2 * q) x) (hox : okH cn x) : ∀ (n i : Nat), n + i = 61 → ∀ M', RD B M' 47 b.1 b.2.1 h (0 + (i - 1)) (dipD (dryB b) h d (i - 1)) → Sm B M0 M' 47 53 →
    G E B cX6_back (RX6, 8, some .long, rmD 5, 0, 0, KM E B (QL B M0 (backF (fun i => backP b x h d i) 61, y))) 77 [(0, .ref (B + 0)), (2, .int (nI q)), (5, .long (backF (fun i => backP b x h d i) i)), (7, .int (nI i))] [] M' := by
  intro n
  induction n with
  | zero =>
    intro i h1 M' hD hS
    refine g_iload dX6_back_77 rfl ?_
    refine g_bipush dX6_back_79 kB_60 ?_
    refine g_icmp_gtN (tgt := 141) dX6_back_81 (by decide) rfl rfl (by omega) (by omega) (fun c_81 => ?_) (fun c_81 => absurd c_81 (by omega))
    refine g_lload dX6_back_141 rfl ?_
    refine g_lret dX6_back_143 ⟨_, rfl, ?_⟩
    have e : i = 61 := by omega
    exact ⟨by rw [e], hY.sc ho (Sc.s hS (by omega)), ho, hS.up (by omega) (by omega)⟩
  | succ n ih =>
    intro i h1 M' hD hS
    refine g_iload dX6_back_77 rfl ?_
    refine g_bipush dX6_back_79 kB_60 ?_
    refine g_icmp_gtN (tgt := 141) dX6_back_81 (by decide) rfl rfl (by omega) (by omega) (fun c_81 => absurd c_81 (by omega)) (fun c_81 => ?_)
    refine g_iload dX6_back_84 rfl ?_
    refine g_if_leN (tgt := 97) dX6_back_86 (by decide) rfl (by omega) (fun c_86 => ?_) (fun c_86 => ?_)
    · first | (have c_86 : i = 0 := c_86; subst c_86; exact g_le (lvLe_c rfl (lvLe_c rfl (lvLe_c rfl (lvLe_c rfl lvLe_0)))) (tl_back hb (by omega) hq (hx.sm hS (by omega)) hox hD (ih (0 + 1) (by omega) M' hD hS))) | (obtain ⟨⟨g1, g2⟩, -, -⟩ := h93; have g3 : RD B M93 47 b.1 b.2.1 h (0 + (j + 1)) (dipD (dryB b) h d (j + 1)) := g1; have g4 := Sm.tr hS (g2.up (by omega) (by omega)); exact g_le (lvLe_c rfl (lvLe_c rfl (lvLe_c rfl (lvLe_c rfl lvLe_0)))) (tl_back hb (by omega) hq (hx.sm g4 (by omega)) hox g3 (ih (j + 1 + 1) (by omega) M93 g3 g4)))
    · obtain ⟨j, rfl⟩ : ∃ j, i = j + 1 := ⟨i - 1, by omega⟩
      have hD : RD B M' 47 b.1 b.2.1 h (0 + j) (dipD (dryB b) h d j) := hD
      refine g_aload_n dX6_back_89 rfl rfl ?_
      refine g_getR dX6_back_90 fl_X6_31 rfl rfl ?_
      refine g_callVi dX6_back_93 mi_X2_second ml_X6_240 (ct_X2_second isD_47 hD (dipD_ok (ok_dry hb)) (by omega) hh) isD_47.1 rfl rfl rfl (Nat.le_of_ble_eq_true rfl) ⟨lt_r rfl, Nat.le_of_ble_eq_true rfl⟩ (fun x93 M93 h93 => ?_)
      refine g_pop dX6_back_96 rfl ?_
      first | (have c_86 : i = 0 := c_86; subst c_86; exact g_le (lvLe_c rfl (lvLe_c rfl (lvLe_c rfl (lvLe_c rfl lvLe_0)))) (tl_back hb (by omega) hq (hx.sm hS (by omega)) hox hD (ih (0 + 1) (by omega) M' hD hS))) | (obtain ⟨⟨g1, g2⟩, -, -⟩ := h93; have g3 : RD B M93 47 b.1 b.2.1 h (0 + (j + 1)) (dipD (dryB b) h d (j + 1)) := g1; have g4 := Sm.tr hS (g2.up (by omega) (by omega)); exact g_le (lvLe_c rfl (lvLe_c rfl (lvLe_c rfl (lvLe_c rfl lvLe_0)))) (tl_back hb (by omega) hq (hx.sm g4 (by omega)) hox g3 (ih (j + 1 + 1) (by omega) M93 g3 g4)))
theorem QL.rf {M M2 : MM} {y : Sys} {o : Int64 × Sys} {r : Int32} {w : Nat} (ho : okY y) (e : o = ((-(nI w)).toInt64, rfz y w)) (h : r = -(nI w) ∧ RY B M2 (rfz y w) ∧ Sm B M M2 60 61) : r.toInt64 = o.1 ∧ RY B M2 o.2 ∧ okY o.2 ∧ Sm B M M2 0 80 := by
  subst e
  exact ⟨congrArg Int32.toInt64 h.1, h.2.1, ho, h.2.2.up (by omega) (by omega)⟩
theorem cx_back {y : Sys} {b s d : Int32} (h : RY B M y) (ho : okY y) : Ct E B yX6_back cX6_back 8 (some .long) 5 [.ref (B + 0), .int b, .int s, .int d] M (QL B M (o_back y b s d)) := by
  have hw := whyBack_le (y := y) (b := b) (s := s)
  have hcn := ho.2.1.2.2.1
  have hh := ho.2.1.2.2.2.1
  refine Ct.of2 (own := RX6) (lv := [(0, .ref (B + 0)), (1, .int b), (2, .int s), (3, .int d)]) pn_X6 rfl (Nat.le_of_ble_eq_true rfl) rfl ?_
  refine g_aload_n dX6_back_0 rfl rfl ?_
  refine g_iload_n dX6_back_1 rfl rfl ?_
  refine g_iload_n dX6_back_2 rfl rfl ?_
  refine g_callVp dX6_back_3 mi_X6_whyNotBack ml_X6_288 (cx_whyBack h ho) rfl rfl rfl rfl (Nat.le_of_ble_eq_true rfl) ⟨lt_r rfl, Nat.le_of_ble_eq_true rfl⟩ ?_
  refine g_istore dX6_back_6 (lt_r rfl) rfl ?_
  refine g_iload dX6_back_8 rfl ?_
  refine g_if_neN (tgt := 27) dX6_back_10 (by decide) rfl (by omega) (fun c_10 => ?_) (fun c_10 => ?_)
  · refine g_iload dX6_back_27 rfl ?_
    refine g_if_eqN (tgt := 40) dX6_back_29 (by decide) rfl (by omega) (fun c_29 => ?_) (fun c_29 => ?_)
    · have z0 : whyBack y b s = 0 := by omega
      have z3 : nI 0 ≤ d ∧ d ≤ nI 12 := by first | exact c_20 | (exfalso; omega)
      have hB : whyB2 y b s d = 0 := (if_neg (by omega)).trans (if_pos z3)
      have e9 : o_back y b s d = _ := if_neg (fun z => z hB)
      rw [e9]
      obtain ⟨y1, y2, y3⟩ := whyBack_0 z0
      obtain ⟨d1, d2⟩ := whyRow_0 y2
      obtain ⟨p, hp, rfl, e1⟩ := in_sh d1
      obtain ⟨q, hq, rfl, f1⟩ := in_b hcn y1
      obtain ⟨d', -, hd, rfl, f2⟩ := btw_n (by decide) (by decide) z3
      rw [e1, f1, f2]
      have hob := ho.2.1.1 q hq
      refine g_aload_n dX6_back_40 rfl rfl ?_
      refine g_getR dX6_back_41 fl_X6_31 rfl rfl ?_
      refine g_aload_n dX6_back_44 rfl rfl ?_
      refine g_getR dX6_back_45 fl_X6_18 rfl rfl ?_
      refine g_getR dX6_back_48 fl_X6_141 isS_2.1 rfl ?_
      refine g_iload_n dX6_back_51 rfl rfl ?_
      refine g_aald dX6_back_52 isS_2.2.1 rfl (isS_b (by omega)) ?_
      refine g_aload_n dX6_back_53 rfl rfl ?_
      refine g_getR dX6_back_54 fl_X6_18 rfl rfl ?_
      refine g_getI dX6_back_57 fl_X6_181 isS_2.1 rfl (h.2.1.2.2.2.1) ?_
      refine g_callVv dX6_back_60 mi_X2_beginDry ml_X6_291 (ct_X2_beginDry isD_47 (isS_2.2.2.2 _ (by omega)) (by omega) (h.2.1.1 q hq) hob) isD_47.1 rfl rfl rfl (Nat.le_of_ble_eq_true rfl) ⟨lt_r rfl, Nat.le_of_ble_eq_true rfl⟩ (fun M60 h60 => ?_)
      refine g_aload_n dX6_back_63 rfl rfl ?_
      refine g_getR dX6_back_64 fl_X6_31 rfl rfl ?_
      refine g_iload_n dX6_back_67 rfl rfl ?_
      refine g_callVv dX6_back_68 mi_X2_enter ml_X6_237 (ct_X2_enter isD_47 h60.1 (new_ok (ok_dry hob)) (by omega)) isD_47.1 rfl rfl rfl (Nat.le_of_ble_eq_true rfl) ⟨lt_r rfl, Nat.le_of_ble_eq_true rfl⟩ (fun M68 h68 => ?_)
      refine g_lconst (v := 0) dX6_back_71 (by decide) ?_
      refine g_lstore dX6_back_72 (lt_r rfl) rfl ?_
      refine g_iconst dX6_back_74 kI_0 ?_
      refine g_istore dX6_back_75 (lt_r rfl) rfl ?_
      have g0 : RD B M68 47 (sBs (yN y) q).1 (sBs (yN y) q).2.1 (sHt (yN y)) (0 + (0 - 1)) (dipD (dryB (sBs (yN y) q)) (sHt (yN y)) d' (0 - 1)) := h68.1
      exact g_le (lvLe_c rfl (lvLe_c rfl (lvLe_c rfl (lvLe_c rfl lvLe_0)))) (lp_back (b := sBs (yN y) q) (x := yH y p) (h := sHt (yN y)) (d := d') h ho hob hh hp (h.1 p hp) (ho.1 p hp) 61 0 rfl M68 g0 (Sm.tr (h60.2.up (by omega) (by omega)) (h68.2.up (by omega) (by omega))))
    · refine g_aload_n dX6_back_32 rfl rfl ?_
      refine g_iload dX6_back_33 rfl ?_
      refine g_callVi dX6_back_35 mi_X6_refused ml_X6_83 (ct_X6_refused h ho (by omega) (by omega)) rfl rfl rfl rfl (Nat.le_of_ble_eq_true rfl) ⟨lt_r rfl, Nat.le_of_ble_eq_true rfl⟩ (fun x35 M35 h35 => ?_)
      refine g_i2l dX6_back_38 rfl ?_
      refine g_lret dX6_back_39 ⟨_, rfl, ?_⟩
      first | exact QL.rf ho (by have hB : whyB2 y b s d = 6 := (if_neg (by omega)).trans (if_neg c_20); unfold o_back; rw [hB, if_pos (by decide)]) h35 | exact QL.rf ho (by have hB : whyB2 y b s d = whyBack y b s := if_pos (by omega); unfold o_back; rw [hB, if_pos (by omega)]) h35
  · refine g_iload_n dX6_back_13 rfl rfl ?_
    refine g_iconst dX6_back_14 kI_0 ?_
    refine g_bipush dX6_back_15 kB_12 ?_
    refine g_callSp dX6_back_17 ms_X6_isWithin ml_X6_87 (ct_X6_isWithin) rfl rfl (Nat.le_of_ble_eq_true rfl) ⟨lt_r rfl, Nat.le_of_ble_eq_true rfl⟩ ?_
    refine g_if_neP (tgt := 27) dX6_back_20 (by decide) (fun c_20 => ?_) (fun c_20 => ?_)
    · refine g_iload dX6_back_27 rfl ?_
      refine g_if_eqN (tgt := 40) dX6_back_29 (by decide) rfl (by omega) (fun c_29 => ?_) (fun c_29 => ?_)
      · have z0 : whyBack y b s = 0 := by omega
        have z3 : nI 0 ≤ d ∧ d ≤ nI 12 := by first | exact c_20 | (exfalso; omega)
        have hB : whyB2 y b s d = 0 := (if_neg (by omega)).trans (if_pos z3)
        have e9 : o_back y b s d = _ := if_neg (fun z => z hB)
        rw [e9]
        obtain ⟨y1, y2, y3⟩ := whyBack_0 z0
        obtain ⟨d1, d2⟩ := whyRow_0 y2
        obtain ⟨p, hp, rfl, e1⟩ := in_sh d1
        obtain ⟨q, hq, rfl, f1⟩ := in_b hcn y1
        obtain ⟨d', -, hd, rfl, f2⟩ := btw_n (by decide) (by decide) z3
        rw [e1, f1, f2]
        have hob := ho.2.1.1 q hq
        refine g_aload_n dX6_back_40 rfl rfl ?_
        refine g_getR dX6_back_41 fl_X6_31 rfl rfl ?_
        refine g_aload_n dX6_back_44 rfl rfl ?_
        refine g_getR dX6_back_45 fl_X6_18 rfl rfl ?_
        refine g_getR dX6_back_48 fl_X6_141 isS_2.1 rfl ?_
        refine g_iload_n dX6_back_51 rfl rfl ?_
        refine g_aald dX6_back_52 isS_2.2.1 rfl (isS_b (by omega)) ?_
        refine g_aload_n dX6_back_53 rfl rfl ?_
        refine g_getR dX6_back_54 fl_X6_18 rfl rfl ?_
        refine g_getI dX6_back_57 fl_X6_181 isS_2.1 rfl (h.2.1.2.2.2.1) ?_
        refine g_callVv dX6_back_60 mi_X2_beginDry ml_X6_291 (ct_X2_beginDry isD_47 (isS_2.2.2.2 _ (by omega)) (by omega) (h.2.1.1 q hq) hob) isD_47.1 rfl rfl rfl (Nat.le_of_ble_eq_true rfl) ⟨lt_r rfl, Nat.le_of_ble_eq_true rfl⟩ (fun M60 h60 => ?_)
        refine g_aload_n dX6_back_63 rfl rfl ?_
        refine g_getR dX6_back_64 fl_X6_31 rfl rfl ?_
        refine g_iload_n dX6_back_67 rfl rfl ?_
        refine g_callVv dX6_back_68 mi_X2_enter ml_X6_237 (ct_X2_enter isD_47 h60.1 (new_ok (ok_dry hob)) (by omega)) isD_47.1 rfl rfl rfl (Nat.le_of_ble_eq_true rfl) ⟨lt_r rfl, Nat.le_of_ble_eq_true rfl⟩ (fun M68 h68 => ?_)
        refine g_lconst (v := 0) dX6_back_71 (by decide) ?_
        refine g_lstore dX6_back_72 (lt_r rfl) rfl ?_
        refine g_iconst dX6_back_74 kI_0 ?_
        refine g_istore dX6_back_75 (lt_r rfl) rfl ?_
        have g0 : RD B M68 47 (sBs (yN y) q).1 (sBs (yN y) q).2.1 (sHt (yN y)) (0 + (0 - 1)) (dipD (dryB (sBs (yN y) q)) (sHt (yN y)) d' (0 - 1)) := h68.1
        exact g_le (lvLe_c rfl (lvLe_c rfl (lvLe_c rfl (lvLe_c rfl lvLe_0)))) (lp_back (b := sBs (yN y) q) (x := yH y p) (h := sHt (yN y)) (d := d') h ho hob hh hp (h.1 p hp) (ho.1 p hp) 61 0 rfl M68 g0 (Sm.tr (h60.2.up (by omega) (by omega)) (h68.2.up (by omega) (by omega))))
      · refine g_aload_n dX6_back_32 rfl rfl ?_
        refine g_iload dX6_back_33 rfl ?_
        refine g_callVi dX6_back_35 mi_X6_refused ml_X6_83 (ct_X6_refused h ho (by omega) (by omega)) rfl rfl rfl rfl (Nat.le_of_ble_eq_true rfl) ⟨lt_r rfl, Nat.le_of_ble_eq_true rfl⟩ (fun x35 M35 h35 => ?_)
        refine g_i2l dX6_back_38 rfl ?_
        refine g_lret dX6_back_39 ⟨_, rfl, ?_⟩
        first | exact QL.rf ho (by have hB : whyB2 y b s d = 6 := (if_neg (by omega)).trans (if_neg c_20); unfold o_back; rw [hB, if_pos (by decide)]) h35 | exact QL.rf ho (by have hB : whyB2 y b s d = whyBack y b s := if_pos (by omega); unfold o_back; rw [hB, if_pos (by omega)]) h35
    · refine g_bipush dX6_back_23 kB_6 ?_
      refine g_istore dX6_back_25 (lt_r rfl) rfl ?_
      refine g_iload dX6_back_27 rfl ?_
      refine g_if_eqN (tgt := 40) dX6_back_29 (by decide) rfl (by omega) (fun c_29 => ?_) (fun c_29 => ?_)
      · have z0 : whyBack y b s = 0 := by omega
        have z3 : nI 0 ≤ d ∧ d ≤ nI 12 := by first | exact c_20 | (exfalso; omega)
        have hB : whyB2 y b s d = 0 := (if_neg (by omega)).trans (if_pos z3)
        have e9 : o_back y b s d = _ := if_neg (fun z => z hB)
        rw [e9]
        obtain ⟨y1, y2, y3⟩ := whyBack_0 z0
        obtain ⟨d1, d2⟩ := whyRow_0 y2
        obtain ⟨p, hp, rfl, e1⟩ := in_sh d1
        obtain ⟨q, hq, rfl, f1⟩ := in_b hcn y1
        obtain ⟨d', -, hd, rfl, f2⟩ := btw_n (by decide) (by decide) z3
        rw [e1, f1, f2]
        have hob := ho.2.1.1 q hq
        refine g_aload_n dX6_back_40 rfl rfl ?_
        refine g_getR dX6_back_41 fl_X6_31 rfl rfl ?_
        refine g_aload_n dX6_back_44 rfl rfl ?_
        refine g_getR dX6_back_45 fl_X6_18 rfl rfl ?_
        refine g_getR dX6_back_48 fl_X6_141 isS_2.1 rfl ?_
        refine g_iload_n dX6_back_51 rfl rfl ?_
        refine g_aald dX6_back_52 isS_2.2.1 rfl (isS_b (by omega)) ?_
        refine g_aload_n dX6_back_53 rfl rfl ?_
        refine g_getR dX6_back_54 fl_X6_18 rfl rfl ?_
        refine g_getI dX6_back_57 fl_X6_181 isS_2.1 rfl (h.2.1.2.2.2.1) ?_
        refine g_callVv dX6_back_60 mi_X2_beginDry ml_X6_291 (ct_X2_beginDry isD_47 (isS_2.2.2.2 _ (by omega)) (by omega) (h.2.1.1 q hq) hob) isD_47.1 rfl rfl rfl (Nat.le_of_ble_eq_true rfl) ⟨lt_r rfl, Nat.le_of_ble_eq_true rfl⟩ (fun M60 h60 => ?_)
        refine g_aload_n dX6_back_63 rfl rfl ?_
        refine g_getR dX6_back_64 fl_X6_31 rfl rfl ?_
        refine g_iload_n dX6_back_67 rfl rfl ?_
        refine g_callVv dX6_back_68 mi_X2_enter ml_X6_237 (ct_X2_enter isD_47 h60.1 (new_ok (ok_dry hob)) (by omega)) isD_47.1 rfl rfl rfl (Nat.le_of_ble_eq_true rfl) ⟨lt_r rfl, Nat.le_of_ble_eq_true rfl⟩ (fun M68 h68 => ?_)
        refine g_lconst (v := 0) dX6_back_71 (by decide) ?_
        refine g_lstore dX6_back_72 (lt_r rfl) rfl ?_
        refine g_iconst dX6_back_74 kI_0 ?_
        refine g_istore dX6_back_75 (lt_r rfl) rfl ?_
        have g0 : RD B M68 47 (sBs (yN y) q).1 (sBs (yN y) q).2.1 (sHt (yN y)) (0 + (0 - 1)) (dipD (dryB (sBs (yN y) q)) (sHt (yN y)) d' (0 - 1)) := h68.1
        exact g_le (lvLe_c rfl (lvLe_c rfl (lvLe_c rfl (lvLe_c rfl lvLe_0)))) (lp_back (b := sBs (yN y) q) (x := yH y p) (h := sHt (yN y)) (d := d') h ho hob hh hp (h.1 p hp) (ho.1 p hp) 61 0 rfl M68 g0 (Sm.tr (h60.2.up (by omega) (by omega)) (h68.2.up (by omega) (by omega))))
      · refine g_aload_n dX6_back_32 rfl rfl ?_
        refine g_iload dX6_back_33 rfl ?_
        refine g_callVi dX6_back_35 mi_X6_refused ml_X6_83 (ct_X6_refused h ho (by omega) (by omega)) rfl rfl rfl rfl (Nat.le_of_ble_eq_true rfl) ⟨lt_r rfl, Nat.le_of_ble_eq_true rfl⟩ (fun x35 M35 h35 => ?_)
        refine g_i2l dX6_back_38 rfl ?_
        refine g_lret dX6_back_39 ⟨_, rfl, ?_⟩
        first | exact QL.rf ho (by have hB : whyB2 y b s d = 6 := (if_neg (by omega)).trans (if_neg c_20); unfold o_back; rw [hB, if_pos (by decide)]) h35 | exact QL.rf ho (by have hB : whyB2 y b s d = whyBack y b s := if_pos (by omega); unfold o_back; rw [hB, if_pos (by omega)]) h35
theorem lp_heats {y : Sys} {b : Bi} {x : Sh} {d t q kq cn : Nat} {R : Int32} {M0 : MM} (hY : RY B M0 y) (ho : okY y) (hb : b = sBs (yN y) kq) (hkq : kq < sCn (yN y)) (hd : d ≤ 12) (ht : t ≤ 60) (hq : q < 8) (hx : RH B M0 (64 + 2 * q) x) (hox : okH cn x) : ∀ (n h : Nat), 10 * n + h = 100 → heatF (fun h => backP b x h d t) n h = R → ∀ M', Sm B M0 M' 47 50 →
    G E B cX6_heats (RX6, 7, some .int, rmD 5, 0, 0, KM E B (QY B M0 (R, y))) 45 [(0, .ref (B + 0)), (1, .int (nI kq)), (2, .int (nI q)), (3, .int (nI d)), (4, .int (nI t)), (6, .int (nI h))] [] M' := by
  have hcn := ho.2.1.2.2.1
  have hob := ho.2.1.1 kq hkq
  rw [← hb] at hob
  intro n
  induction n with
  | zero =>
    intro h h1 hR M' hS
    refine g_iload dX6_heats_45 rfl ?_
    refine g_bipush dX6_heats_47 kB_99 ?_
    refine g_icmp_gtN (tgt := 118) dX6_heats_49 (by decide) rfl rfl (by omega) (by omega) (fun c_49 => ?_) (fun c_49 => absurd c_49 (by omega))
    refine g_iconst dX6_heats_118 kI_m1 ?_
    refine g_iret dX6_heats_119 ⟨_, rfl, ?_⟩
    exact QY.s hY ho (Sc.s hS (by omega)) (by rw [← hR]; rfl)
  | succ n ih =>
    intro h h1 hR M' hS
    have hY' := hY.sc ho (Sc.s hS (by omega))
    have hbR := hY'.2.1.1 kq hkq
    rw [← hb] at hbR
    refine g_iload dX6_heats_45 rfl ?_
    refine g_bipush dX6_heats_47 kB_99 ?_
    refine g_icmp_gtN (tgt := 118) dX6_heats_49 (by decide) rfl rfl (by omega) (by omega) (fun c_49 => absurd c_49 (by omega)) (fun c_49 => ?_)
    refine g_aload_n dX6_heats_52 rfl rfl ?_
    refine g_getR dX6_heats_53 fl_X6_31 rfl rfl ?_
    refine g_aload_n dX6_heats_56 rfl rfl ?_
    refine g_getR dX6_heats_57 fl_X6_18 rfl rfl ?_
    refine g_getR dX6_heats_60 fl_X6_141 isS_2.1 rfl ?_
    refine g_iload_n dX6_heats_63 rfl rfl ?_
    refine g_aald dX6_heats_64 isS_2.2.1 rfl (isS_b (by omega)) ?_
    refine g_iload dX6_heats_65 rfl ?_
    refine g_callVv dX6_heats_67 mi_X2_beginDry ml_X6_291 (ct_X2_beginDry isD_47 (isS_2.2.2.2 _ (by omega)) (by omega) hbR hob) isD_47.1 rfl rfl rfl (Nat.le_of_ble_eq_true rfl) ⟨lt_r rfl, Nat.le_of_ble_eq_true rfl⟩ (fun M67 h67 => ?_)
    refine g_aload_n dX6_heats_70 rfl rfl ?_
    refine g_getR dX6_heats_71 fl_X6_31 rfl rfl ?_
    refine g_iload_n dX6_heats_74 rfl rfl ?_
    refine g_iload dX6_heats_75 rfl ?_
    refine g_callVv dX6_heats_77 mi_X2_stay ml_X6_247 (ct_X2_stay isD_47 h67.1 (new_ok (ok_dry hob)) (by omega) (by omega) (by omega)) isD_47.1 rfl rfl rfl (Nat.le_of_ble_eq_true rfl) ⟨lt_r rfl, Nat.le_of_ble_eq_true rfl⟩ (fun M77 h77 => ?_)
    have hk : okD b.1 b.2.1 (0 + t) (dipD (dryB b) h d t) := dipD_ok (ok_dry hob)
    have g3 : RD B M77 47 b.1 b.2.1 h (0 + t) (dipD (dryB b) h d t) := h77.1
    have g4 := Sm.tr hS (Sm.tr h67.2 h77.2)
    refine g_aload_n dX6_heats_80 rfl rfl ?_
    refine g_getR dX6_heats_81 fl_X6_31 rfl rfl ?_
    refine g_callVp dX6_heats_84 mi_X2_isWhole ml_X6_250 (ct_X2_isWhole isD_47 g3 hk) isD_47.1 rfl rfl rfl (Nat.le_of_ble_eq_true rfl) ⟨lt_r rfl, Nat.le_of_ble_eq_true rfl⟩ ?_
    refine g_if_eqP (tgt := 112) dX6_heats_87 (by decide) (fun c_87 => ?_) (fun c_87 => ?_)
    · refine g_iinc dX6_heats_112 rfl rfl rfl ?_
      refine g_goto (tgt := 45) dX6_heats_115 (by decide) ?_
      exact g_le (lvLe_c rfl (lvLe_c rfl (lvLe_c rfl (lvLe_c rfl (lvLe_c rfl (lvLe_c (by rw [← nI_add]; rfl) lvLe_0)))))) (ih (h + 10) (by omega) ((heatF_n (P := fun h => backP b x h d t) (n := n) (h := h) (show ¬ backP b x h d t = true from fun z => by unfold backP at z; rw [Bool.and_eq_true] at z; first | exact c_106 z.2 | exact c_87 (of_decide_eq_true z.1))).symm.trans hR) M77 g4)
    · refine g_aload_n dX6_heats_90 rfl rfl ?_
      refine g_getR dX6_heats_91 fl_X6_31 rfl rfl ?_
      refine g_getR dX6_heats_94 fl_X6_225 isD_47.1 rfl ?_
      refine g_aload_n dX6_heats_97 rfl rfl ?_
      refine g_getR dX6_heats_98 fl_X6_11 rfl rfl ?_
      refine g_iload_n dX6_heats_101 rfl rfl ?_
      refine g_aald dX6_heats_102 rfl rfl (isH_s (by omega)) ?_
      refine g_callSp dX6_heats_103 ms_X6_isAsWetAs ml_X6_294 (ct_asW isD_47.2 (isH_n (by omega)) g3.1 hk.1 (hx.sm g4 (by omega)) hox) rfl rfl (Nat.le_of_ble_eq_true rfl) ⟨lt_r rfl, Nat.le_of_ble_eq_true rfl⟩ ?_
      refine g_if_eqP (tgt := 112) dX6_heats_106 (by decide) (fun c_106 => ?_) (fun c_106 => ?_)
      · refine g_iinc dX6_heats_112 rfl rfl rfl ?_
        refine g_goto (tgt := 45) dX6_heats_115 (by decide) ?_
        exact g_le (lvLe_c rfl (lvLe_c rfl (lvLe_c rfl (lvLe_c rfl (lvLe_c rfl (lvLe_c (by rw [← nI_add]; rfl) lvLe_0)))))) (ih (h + 10) (by omega) ((heatF_n (P := fun h => backP b x h d t) (n := n) (h := h) (show ¬ backP b x h d t = true from fun z => by unfold backP at z; rw [Bool.and_eq_true] at z; first | exact c_106 z.2 | exact c_87 (of_decide_eq_true z.1))).symm.trans hR) M77 g4)
      · refine g_iload dX6_heats_109 rfl ?_
        refine g_iret dX6_heats_111 ⟨_, rfl, ?_⟩
        exact QY.s hY ho (Sc.s g4 (by omega)) (by rw [← hR, heatF_t (P := fun h => backP b x h d t) (n := n) (h := h) (show backP b x h d t = true from by unfold backP; rw [Bool.and_eq_true]; exact ⟨decide_eq_true c_87, c_106⟩)])
end X6J
