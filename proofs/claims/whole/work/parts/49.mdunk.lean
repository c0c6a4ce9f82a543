/-! the model's dips -/
/-- a way through dips, but for how deep, and for the first break -/
def RDc (B : Nat) (M : MM) (t0 : Int32) (D : Dk) : Prop :=
  M.1 (B + 80) 32 = nI D.1 ∧ (∀ i, i < D.1 → M.1 (B + 97) i = nI (D.2.1 i)) ∧ M.1 (B + 80) 34 = t0 + nI D.2.2.2.2.1 ∧ M.1 (B + 80) 35 = nI D.2.2.2.1
theorem RDc.fk {B : Nat} {M M' : MM} {A J : List Nat} {t0 : Int32} {D : Dk} (h : RDc B M t0 D) (hF : Fk B M M' A J) (ha : 97 ∉ A) (hj : ∀ x ∈ [32, 34, 35], x ∉ J) : RDc B M' t0 D := by
  unfold RDc
  rw [hF.i ha (by decide), hF.j (hj 32 (by decide)), hF.j (hj 34 (by decide)), hF.j (hj 35 (by decide))]
  exact h
abbrev dA : List Nat := [97, 98]
abbrev dJ : List Nat := [32, 33, 34, 35, 36]
theorem Fk.d {B : Nat} {M M' : MM} (h : Fk B M M' dA dJ) : Fk B M M' mA mJ := h.up (by decide) (by decide)
theorem sub_add_I {a b c : Int32} : a - b + c = a + c - b := by
  rw [Int32.sub_eq_add_neg, Int32.sub_eq_add_neg, Int32.add_assoc, Int32.add_comm (-b) c, ← Int32.add_assoc]
theorem max_t {X : Int32} (h : 0 ≤ X) : (if nI 0 < X then X else nI 0) = X := by
  by_cases c : nI 0 < X
  · exact if_pos c
  · rw [if_neg c]
    exact (Int32.le_antisymm (Int32.not_lt.mp c) h).symm
theorem max_f {X : Int32} (h : ¬ 0 ≤ X) : (if nI 0 < X then X else nI 0) = nI 0 := if_neg (fun z : nI 0 < X => h (Int32.le_of_lt z))
theorem gone_le {kd a h t : Nat} {D : Dk} : D.2.2.2.1 ≤ (sec kd a h t D).2.2.2.1 := by
  unfold sec
  dsimp only
  split
  · exact Nat.le_refl _
  · exact Nat.le_add_right _ _
theorem fb_0 {kd a h t t1 : Nat} {D : Dk} (ho : okD kd a t D) (ho2 : okD kd a t1 (sec kd a h t1 D)) (hg : (sec kd a h t1 D).2.2.2.1 = 0) : (sec kd a h t1 D).2.2.2.2.2 = D.2.2.2.2.2 := by
  have h1 := ho2.2.2.2.2.2.mp hg
  have h2 := gone_le (kd := kd) (a := a) (h := h) (t := t1) (D := D)
  have h3 := ho.2.2.2.2.2.mp (by omega)
  omega
theorem fb_1 {kd a h t t1 : Nat} {D : Dk} (ho : okD kd a t D) (hg : ¬ D.2.2.2.2.2 = 0) : (sec kd a h t1 D).2.2.2.2.2 = D.2.2.2.2.2 := by
  unfold sec
  dsimp only
  by_cases z : brkN kd a D.1 (secW kd a D.1 D.2.2.1 h D.2.1) = 0
  · rw [if_pos z]
  · rw [if_neg z]
    exact if_neg hg
theorem fb_2 {kd a h t t1 : Nat} {D : Dk} (ho : okD kd a t D) (hg : ¬ (sec kd a h t1 D).2.2.2.1 = 0) (hf : D.2.2.2.2.2 = 0) : (sec kd a h t1 D).2.2.2.2.2 = t1 := by
  have h3 := ho.2.2.2.2.2.mpr hf
  unfold sec at hg ⊢
  dsimp only at hg ⊢
  by_cases z : brkN kd a D.1 (secW kd a D.1 D.2.2.1 h D.2.1) = 0
  · rw [if_pos z] at hg
    exact absurd h3 hg
  · rw [if_neg z]
    exact if_pos hf
section X7C
variable {E : EE} {B : Nat} {M : MM}
theorem lp_lays {s : St} {q : Nat} {M1 : MM} {F : Option Value → MM → Prop} (hR : RN B M1 s) (ho : okSt s) (hq : q < sCn s) (h32 : M1.1 (B + 80) 32 = nI (sBs s q).2.2.1)
    (hend : ∀ M', Fk B M1 M' [97] [] → (∀ j, j < (sBs s q).2.2.1 → M'.1 (B + 97) j = nI ((sBs s q).2.2.2 j)) → G E B cX7_lays (RX7, 3, none, rmD 0, 0, 0, KM E B F) 43 [(0, .ref (B + 80))] [] M') :
    ∀ (n i : Nat), n + i = (sBs s q).2.2.1 → ∀ M', Fk B M1 M' [97] [] → (∀ j, j < i → M'.1 (B + 97) j = nI ((sBs s q).2.2.2 j)) →
    G E B cX7_lays (RX7, 3, none, rmD 0, 0, 0, KM E B F) 12 [(0, .ref (B + 80)), (1, .int (nI q)), (2, .int (nI i))] [] M' := by
  have hcn := ho.2.2.1
  obtain ⟨o1, o2, o3, o4⟩ := ho.1 q hq
  intro n
  induction n with
  | zero =>
    intro i h1 M' hF hI
    refine g_iload_n dX7_lays_12 rfl rfl ?_
    refine g_aload_n dX7_lays_13 rfl rfl ?_
    refine g_getI dX7_lays_14 fl_X7_177 rfl rfl ((hF.j (by decide)).trans h32) ?_
    refine g_icmp_geN (tgt := 43) dX7_lays_17 (by decide) rfl rfl (by omega) (by omega) (fun c_17 => ?_) (fun c_17 => absurd c_17 (by omega))
    exact g_le (lvLe_c rfl lvLe_0) (hend M' hF (fun j hj => hI j (by omega)))
  | succ n ih =>
    intro i h1 M' hF hI
    refine g_iload_n dX7_lays_12 rfl rfl ?_
    refine g_aload_n dX7_lays_13 rfl rfl ?_
    refine g_getI dX7_lays_14 fl_X7_177 rfl rfl ((hF.j (by decide)).trans h32) ?_
    refine g_icmp_geN (tgt := 43) dX7_lays_17 (by decide) rfl rfl (by omega) (by omega) (fun c_17 => absurd c_17 (by omega)) (fun c_17 => ?_)
    refine g_aload_n dX7_lays_20 rfl rfl ?_
    refine g_getR dX7_lays_21 fl_X7_75 rfl rfl ?_
    refine g_iload_n dX7_lays_24 rfl rfl ?_
    refine g_aload_n dX7_lays_25 rfl rfl ?_
    refine g_getR dX7_lays_26 fl_X7_38 rfl rfl ?_
    refine g_bipush dX7_lays_29 kB_12 ?_
    refine g_iload_n dX7_lays_31 rfl rfl ?_
    refine g_imul dX7_lays_32 (pk_mul _ _) ?_
    refine g_iload_n dX7_lays_33 rfl rfl ?_
    refine g_iadd dX7_lays_34 (nI_add _ _) ?_
    refine g_iald dX7_lays_35 rfl rfl (by omega) ((congrFun (hF.i (by decide) (by decide)) _).trans ((hR.1 q hq).2.2.2 i (by omega))) ?_
    refine g_iast dX7_lays_36 rfl rfl (by omega) ?_
    refine g_iinc dX7_lays_37 rfl (inc_nI _) rfl ?_
    refine g_goto (tgt := 12) dX7_lays_40 (by decide) ?_
    exact g_le (lvLe_c rfl (lvLe_c rfl (lvLe_c rfl lvLe_0))) (ih (i + 1) (by omega) _ (hF.tr (Fk.pi (by decide) (by decide))) (fun j hj => by
      by_cases e : j = i
      · subst e; exact upI_s
      · rw [upI_k e]; exact hI j (by omega)))
theorem ct_lays {s : St} {q : Nat} (hR : RN B M s) (ho : okSt s) (hq : q < sCn s) : Ct E B yX7_lays cX7_lays 3 none 0 [.ref (B + 80), .int (nI q)] M (Rv (fun M2 => RDc B M2 (nI 0) (newD (sBs s q).2.2.1 (sBs s q).2.2.2) ∧ M2.1 (B + 80) 36 = brkI 0 ∧ Fk B M M2 dA dJ)) := by
  have hcn := ho.2.2.1
  refine Ct.of2 (own := RX7) (lv := [(0, .ref (B + 80)), (1, .int (nI q))]) pn_X7 rfl (Nat.le_of_ble_eq_true rfl) rfl ?_
  refine g_aload_n dX7_lays_0 rfl rfl ?_
  refine g_aload_n dX7_lays_1 rfl rfl ?_
  refine g_getR dX7_lays_2 fl_X7_35 rfl rfl ?_
  refine g_iload_n dX7_lays_5 rfl rfl ?_
  refine g_iald dX7_lays_6 rfl rfl (by omega) ((hR.1 q hq).2.2.1) ?_
  refine g_putI dX7_lays_7 fp_X7_177 rfl rfl ?_
  refine g_iconst dX7_lays_10 kI_0 ?_
  refine g_istore_n dX7_lays_11 rfl (lt_r rfl) rfl ?_
  have hF0 : Fk B M (upI M (B + 80) 32 (nI (sBs s q).2.2.1)) dA dJ := Fk.pj (by decide)
  refine g_le (lvLe_c rfl (lvLe_c rfl (lvLe_c rfl lvLe_0))) (lp_lays (hR.fk hF0 (by decide) (by decide)) ho hq upI_s (fun M' a1 a2 => ?_) (sBs s q).2.2.1 0 rfl _ Fk.rf (fun j hj => absurd hj (Nat.not_lt_zero j)))
  refine g_aload_n dX7_lays_43 rfl rfl ?_
  refine g_iconst dX7_lays_44 kI_0 ?_
  refine g_putI dX7_lays_45 fp_X7_180 rfl rfl ?_
  refine g_aload_n dX7_lays_48 rfl rfl ?_
  refine g_iconst dX7_lays_49 kI_0 ?_
  refine g_putI dX7_lays_50 fp_X7_183 rfl rfl ?_
  refine g_aload_n dX7_lays_53 rfl rfl ?_
  refine g_iconst dX7_lays_54 kI_m1 ?_
  refine g_putI dX7_lays_55 fp_X7_186 rfl rfl ?_
  refine g_vret dX7_lays_58 ⟨rfl, ?_⟩
  refine ⟨⟨?_, fun i hi => ?_, ?_, ?_⟩, ?_, ?_⟩
  · rw [upI_k (by decide), upI_k (by decide), upI_k (by decide), a1.j (by decide), upI_s]; rfl
  · rw [upI_ap (by decide), upI_ap (by decide), upI_ap (by decide)]; exact a2 i hi
  · rw [upI_k (by decide), upI_k (by decide), upI_s]; rfl
  · rw [upI_k (by decide), upI_s]; rfl
  · rw [upI_s]; rfl
  · exact Fk.tr (Fk.tr (Fk.tr (hF0.tr (a1.up (by decide) (by decide))) (Fk.pj (by decide))) (Fk.pj (by decide))) (Fk.pj (by decide))
theorem ct_holdsOf {s : St} {q c w : Nat} (hR : RN B M s) (ho : okSt s) (hq : q < sCn s) (hc : c < 12) (hw : M.1 (B + 97) c = nI w) : Ct E B yX7_holdsOf cX7_holdsOf 4 (some .int) 0 [.ref (B + 80), .int (nI q), .int (nI c)] M (Rp (holdI (sBs s q).1 (sBs s q).2.1 w) M) := by
  have hcn := ho.2.2.1
  obtain ⟨o1, o2, o3, o4⟩ := ho.1 q hq
  refine Ct.of2 (own := RX7) (lv := [(0, .ref (B + 80)), (1, .int (nI q)), (2, .int (nI c))]) pn_X7 rfl (Nat.le_of_ble_eq_true rfl) rfl ?_
  refine g_bipush dX7_holdsOf_0 kB_60 ?_
  refine g_aload_n dX7_holdsOf_2 rfl rfl ?_
  refine g_getR dX7_holdsOf_3 fl_X7_75 rfl rfl ?_
  refine g_iload_n dX7_holdsOf_6 rfl rfl ?_
  refine g_iald dX7_holdsOf_7 rfl rfl (by omega) (hw) ?_
  refine g_isub dX7_holdsOf_8 rfl ?_
  refine g_istore_n dX7_holdsOf_9 rfl (lt_r rfl) rfl ?_
  refine g_aload_n dX7_holdsOf_10 rfl rfl ?_
  refine g_getR dX7_holdsOf_11 fl_X7_29 rfl rfl ?_
  refine g_iload_n dX7_holdsOf_14 rfl rfl ?_
  refine g_iald dX7_holdsOf_15 rfl rfl (by omega) ((hR.1 q hq).1) ?_
  refine g_iconst dX7_holdsOf_16 kI_5 ?_
  refine g_icmp_neN (tgt := 27) dX7_holdsOf_17 (by decide) rfl rfl (by omega) (by omega) (fun c_17 => ?_) (fun c_17 => ?_)
  · refine g_aload_n dX7_holdsOf_27 rfl rfl ?_
    refine g_getR dX7_holdsOf_28 fl_X7_29 rfl rfl ?_
    refine g_iload_n dX7_holdsOf_31 rfl rfl ?_
    refine g_iald dX7_holdsOf_32 rfl rfl (by omega) ((hR.1 q hq).1) ?_
    refine g_bipush dX7_holdsOf_33 kB_6 ?_
    refine g_icmp_neN (tgt := 49) dX7_holdsOf_35 (by decide) rfl rfl (by omega) (by omega) (fun c_35 => ?_) (fun c_35 => ?_)
    · refine g_iload_n dX7_holdsOf_49 rfl rfl ?_
      refine g_iret dX7_holdsOf_50 ⟨_, rfl, ?_⟩
      refine ⟨?_, rfl⟩
      unfold holdI extN
      first | rw [if_pos c_17, sub_add_I, nI_add] | rw [if_neg c_17, if_pos c_35, sub_add_I, nI_add] | rw [if_neg c_17, if_neg c_35]
    · refine g_iload_n dX7_holdsOf_38 rfl rfl ?_
      refine g_aload_n dX7_holdsOf_39 rfl rfl ?_
      refine g_getR dX7_holdsOf_40 fl_X7_32 rfl rfl ?_
      refine g_iload_n dX7_holdsOf_43 rfl rfl ?_
      refine g_iald dX7_holdsOf_44 rfl rfl (by omega) ((hR.1 q hq).2.1) ?_
      refine g_iadd dX7_holdsOf_45 rfl ?_
      refine g_goto (tgt := 50) dX7_holdsOf_46 (by decide) ?_
      refine g_iret dX7_holdsOf_50 ⟨_, rfl, ?_⟩
      refine ⟨?_, rfl⟩
      unfold holdI extN
      first | rw [if_pos c_17, sub_add_I, nI_add] | rw [if_neg c_17, if_pos c_35, sub_add_I, nI_add] | rw [if_neg c_17, if_neg c_35]
  · refine g_iload_n dX7_holdsOf_20 rfl rfl ?_
    refine g_bipush dX7_holdsOf_21 kB_40 ?_
    refine g_iadd dX7_holdsOf_23 rfl ?_
    refine g_goto (tgt := 50) dX7_holdsOf_24 (by decide) ?_
    refine g_iret dX7_holdsOf_50 ⟨_, rfl, ?_⟩
    refine ⟨?_, rfl⟩
    unfold holdI extN
    first | rw [if_pos c_17, sub_add_I, nI_add] | rw [if_neg c_17, if_pos c_35, sub_add_I, nI_add] | rw [if_neg c_17, if_neg c_35]
theorem lp_hangsOf {w : Nat → Nat} {n c : Nat} (hc : c ≤ n) (hn : n ≤ 12) (hw : ∀ i, i < n → M.1 (B + 97) i = nI (w i)) (hw2 : ∀ i, w i ≤ 99) : ∀ (m i : Nat), m + i = c →
    G E B cX7_hangsOf (RX7, 4, some .int, rmD 0, 0, 0, KM E B (Rp (nI (hangN w c)) M)) 4 [(0, .ref (B + 80)), (1, .int (nI c)), (2, .int (nI (hangN w i))), (3, .int (nI i))] [] M := by
  intro m
  induction m with
  | zero =>
    intro i h1
    refine g_iload_n dX7_hangsOf_4 rfl rfl ?_
    refine g_iload_n dX7_hangsOf_5 rfl rfl ?_
    refine g_icmp_geN (tgt := 29) dX7_hangsOf_6 (by decide) rfl rfl (by omega) (by omega) (fun c_6 => ?_) (fun c_6 => absurd c_6 (by omega))
    refine g_iload_n dX7_hangsOf_29 rfl rfl ?_
    refine g_iret dX7_hangsOf_30 ⟨_, rfl, ?_⟩
    exact ⟨by rw [show i = c by omega], rfl⟩
  | succ m ih =>
    intro i h1
    have w5 := hw2 i
    refine g_iload_n dX7_hangsOf_4 rfl rfl ?_
    refine g_iload_n dX7_hangsOf_5 rfl rfl ?_
    refine g_icmp_geN (tgt := 29) dX7_hangsOf_6 (by decide) rfl rfl (by omega) (by omega) (fun c_6 => absurd c_6 (by omega)) (fun c_6 => ?_)
    refine g_iload_n dX7_hangsOf_9 rfl rfl ?_
    refine g_iconst dX7_hangsOf_10 kI_1 ?_
    refine g_aload_n dX7_hangsOf_11 rfl rfl ?_
    refine g_getR dX7_hangsOf_12 fl_X7_75 rfl rfl ?_
    refine g_iload_n dX7_hangsOf_15 rfl rfl ?_
    refine g_iald dX7_hangsOf_16 rfl rfl (by omega) (hw i (by omega)) ?_
    refine g_bipush dX7_hangsOf_17 kB_20 ?_
    refine g_idiv dX7_hangsOf_19 (nI_ne0 (by omega) (by omega)) (pk_div (by omega) (by omega) (by omega)) ?_
    refine g_iadd dX7_hangsOf_20 (nI_add _ _) ?_
    refine g_iadd dX7_hangsOf_21 (nI_add _ _) ?_
    refine g_istore_n dX7_hangsOf_22 rfl (lt_r rfl) rfl ?_
    refine g_iinc dX7_hangsOf_23 rfl (inc_nI _) rfl ?_
    refine g_goto (tgt := 4) dX7_hangsOf_26 (by decide) ?_
    exact g_le (lvLe_c rfl (lvLe_c rfl (lvLe_c rfl (lvLe_c rfl lvLe_0)))) (ih (i + 1) (by omega))
theorem ct_hangsOf {w : Nat → Nat} {n c : Nat} (hc : c ≤ n) (hn : n ≤ 12) (hw : ∀ i, i < n → M.1 (B + 97) i = nI (w i)) (hw2 : ∀ i, w i ≤ 99) : Ct E B yX7_hangsOf cX7_hangsOf 4 (some .int) 0 [.ref (B + 80), .int (nI c)] M (Rp (nI (hangN w c)) M) := by
  refine Ct.of2 (own := RX7) (lv := [(0, .ref (B + 80)), (1, .int (nI c))]) pn_X7 rfl (Nat.le_of_ble_eq_true rfl) rfl ?_
  refine g_iconst dX7_hangsOf_0 kI_0 ?_
  refine g_istore_n dX7_hangsOf_1 rfl (lt_r rfl) rfl ?_
  refine g_iconst dX7_hangsOf_2 kI_0 ?_
  refine g_istore_n dX7_hangsOf_3 rfl (lt_r rfl) rfl ?_
  exact g_le (lvLe_c rfl (lvLe_c rfl (lvLe_c rfl (lvLe_c rfl lvLe_0)))) (lp_hangsOf hc hn hw hw2 c 0 rfl)
theorem lp_breakOf {s : St} {q n : Nat} {w : Nat → Nat} (hR : RN B M s) (ho : okSt s) (hq : q < sCn s) (hn : n ≤ 12) (h32 : M.1 (B + 80) 32 = nI n) (hw : ∀ i, i < n → M.1 (B + 97) i = nI (w i)) (hw2 : ∀ i, w i ≤ 99) : ∀ (f c : Nat), n ≤ f + c → 1 ≤ c → c ≤ 13 →
    G E B cX7_breakOf (RX7, 3, some .int, rmD 1, 0, 0, KM E B (Rp (brkI (brkF (extN (sBs s q).1 (sBs s q).2.1) w n f c)) M)) 2 [(0, .ref (B + 80)), (1, .int (nI q)), (2, .int (nI c))] [] M := by
  have hcn := ho.2.2.1
  obtain ⟨o1, o2, o3, o4⟩ := ho.1 q hq
  intro f
  induction f with
  | zero =>
    intro c h1 h2 h3
    refine g_iload_n dX7_breakOf_2 rfl rfl ?_
    refine g_aload_n dX7_breakOf_3 rfl rfl ?_
    refine g_getI dX7_breakOf_4 fl_X7_177 rfl rfl (h32) ?_
    refine g_icmp_geN (tgt := 32) dX7_breakOf_7 (by decide) rfl rfl (by omega) (by omega) (fun c_7 => ?_) (fun c_7 => absurd c_7 (by omega))
    refine g_iconst dX7_breakOf_32 kI_m1 ?_
    refine g_iret dX7_breakOf_33 ⟨_, rfl, ?_⟩
    exact ⟨rfl, rfl⟩
  | succ f ih =>
    intro c h1 h2 h3
    have w1 := hangN_le hw2 c
    have w3 := hw2 c
    have w4 : extN (sBs s q).1 (sBs s q).2.1 ≤ 40 := by unfold extN; repeat' split
                                                        all_goals omega
    have e1 : brkF (extN (sBs s q).1 (sBs s q).2.1) w n (f + 1) c = if c < n then (if 60 + extN (sBs s q).1 (sBs s q).2.1 < hangN w c + w c then c else brkF (extN (sBs s q).1 (sBs s q).2.1) w n f (c + 1)) else 0 := rfl
    refine g_iload_n dX7_breakOf_2 rfl rfl ?_
    refine g_aload_n dX7_breakOf_3 rfl rfl ?_
    refine g_getI dX7_breakOf_4 fl_X7_177 rfl rfl (h32) ?_
    refine g_icmp_geN (tgt := 32) dX7_breakOf_7 (by decide) rfl rfl (by omega) (by omega) (fun c_7 => ?_) (fun c_7 => ?_)
    · refine g_iconst dX7_breakOf_32 kI_m1 ?_
      refine g_iret dX7_breakOf_33 ⟨_, rfl, ?_⟩
      refine ⟨?_, rfl⟩
      rw [e1, if_neg (by omega)]
      rfl
    · refine g_aload_n dX7_breakOf_10 rfl rfl ?_
      refine g_iload_n dX7_breakOf_11 rfl rfl ?_
      refine g_callVp dX7_breakOf_12 mi_X7_hangsOf ml_X7_189 (ct_hangsOf (n := n) (by omega) hn hw hw2) rfl rfl rfl rfl (Nat.le_of_ble_eq_true rfl) ⟨lt_r rfl, Nat.le_of_ble_eq_true rfl⟩ ?_
      refine g_aload_n dX7_breakOf_15 rfl rfl ?_
      refine g_iload_n dX7_breakOf_16 rfl rfl ?_
      refine g_iload_n dX7_breakOf_17 rfl rfl ?_
      refine g_callVp dX7_breakOf_18 mi_X7_holdsOf ml_X7_192 (ct_holdsOf hR ho hq (by omega) (hw c (by omega))) rfl rfl rfl rfl (Nat.le_of_ble_eq_true rfl) ⟨lt_r rfl, Nat.le_of_ble_eq_true rfl⟩ ?_
      refine g_icmp_le (tgt := 26) dX7_breakOf_21 (by decide) (fun c_21 => ?_) (fun c_21 => ?_)
      · refine g_iinc dX7_breakOf_26 rfl (inc_nI _) rfl ?_
        refine g_goto (tgt := 2) dX7_breakOf_29 (by decide) ?_
        have c_21 := (le_subI (by omega) (by omega) (by omega)).mp c_21
        rw [e1, if_pos c_7, if_neg (by omega)]
        exact g_le (lvLe_c rfl (lvLe_c rfl (lvLe_c rfl lvLe_0))) (ih (c + 1) (by omega) (by omega) (by omega))
      · refine g_iload_n dX7_breakOf_24 rfl rfl ?_
        refine g_iret dX7_breakOf_25 ⟨_, rfl, ?_⟩
        refine ⟨?_, rfl⟩
        have c_21 := Nat.not_le.mp (fun q => c_21 ((le_subI (by omega) (by omega) (by omega)).mpr q))
        rw [e1, if_pos c_7, if_pos (by omega)]
        unfold brkI
        rw [if_neg (by omega)]
theorem ct_breakOf {s : St} {q n : Nat} {w : Nat → Nat} (hR : RN B M s) (ho : okSt s) (hq : q < sCn s) (hn : n ≤ 12) (h32 : M.1 (B + 80) 32 = nI n) (hw : ∀ i, i < n → M.1 (B + 97) i = nI (w i)) (hw2 : ∀ i, w i ≤ 99) : Ct E B yX7_breakOf cX7_breakOf 3 (some .int) 1 [.ref (B + 80), .int (nI q)] M (Rp (brkI (brkN (sBs s q).1 (sBs s q).2.1 n w)) M) := by
  refine Ct.of2 (own := RX7) (lv := [(0, .ref (B + 80)), (1, .int (nI q))]) pn_X7 rfl (Nat.le_of_ble_eq_true rfl) rfl ?_
  refine g_iconst dX7_breakOf_0 kI_1 ?_
  refine g_istore_n dX7_breakOf_1 rfl (lt_r rfl) rfl ?_
  exact g_le (lvLe_c rfl (lvLe_c rfl (lvLe_c rfl lvLe_0))) (lp_breakOf hR ho hq hn h32 hw hw2 n 1 (by omega) (by omega) (by omega))
theorem lp_worthNow {s : St} {n : Nat} {w : Nat → Nat} (hR : RN B M s) (ho : okSt s) (hn : n ≤ 12) (h32 : M.1 (B + 80) 32 = nI n) (hw : ∀ i, i < n → M.1 (B + 97) i = nI (w i)) (hw2 : ∀ i, w i ≤ 99) : ∀ (m i : Nat), m + i = n →
    G E B cX7_worthNow (RX7, 3, some .int, rmD 0, 0, 0, KM E B (Rp (nI (worthN (sWo s) n w)) M)) 4 [(0, .ref (B + 80)), (1, .int (nI (sumN (fun i => sWo s (w i / 10)) i))), (2, .int (nI i))] [] M := by
  intro m
  induction m with
  | zero =>
    intro i h1
    refine g_iload_n dX7_worthNow_4 rfl rfl ?_
    refine g_aload_n dX7_worthNow_5 rfl rfl ?_
    refine g_getI dX7_worthNow_6 fl_X7_177 rfl rfl (h32) ?_
    refine g_icmp_geN (tgt := 35) dX7_worthNow_9 (by decide) rfl rfl (by omega) (by omega) (fun c_9 => ?_) (fun c_9 => absurd c_9 (by omega))
    refine g_iload_n dX7_worthNow_35 rfl rfl ?_
    refine g_iret dX7_worthNow_36 ⟨_, rfl, ?_⟩
    exact ⟨by rw [show i = n by omega]; rfl, rfl⟩
  | succ m ih =>
    intro i h1
    have w5 := hw2 i
    have ih2 := ih (i + 1) (by omega)
    rw [sumN_s] at ih2
    refine g_iload_n dX7_worthNow_4 rfl rfl ?_
    refine g_aload_n dX7_worthNow_5 rfl rfl ?_
    refine g_getI dX7_worthNow_6 fl_X7_177 rfl rfl (h32) ?_
    refine g_icmp_geN (tgt := 35) dX7_worthNow_9 (by decide) rfl rfl (by omega) (by omega) (fun c_9 => absurd c_9 (by omega)) (fun c_9 => ?_)
    refine g_iload_n dX7_worthNow_12 rfl rfl ?_
    refine g_aload_n dX7_worthNow_13 rfl rfl ?_
    refine g_getR dX7_worthNow_14 fl_X7_41 rfl rfl ?_
    refine g_aload_n dX7_worthNow_17 rfl rfl ?_
    refine g_getR dX7_worthNow_18 fl_X7_75 rfl rfl ?_
    refine g_iload_n dX7_worthNow_21 rfl rfl ?_
    refine g_iald dX7_worthNow_22 rfl rfl (by omega) (hw i (by omega)) ?_
    refine g_bipush dX7_worthNow_23 kB_10 ?_
    refine g_idiv dX7_worthNow_25 (nI_ne0 (by omega) (by omega)) (pk_div (by omega) (by omega) (by omega)) ?_
    refine g_iald dX7_worthNow_26 rfl rfl (by omega) (hR.2.1 _ (by omega)) ?_
    refine g_iadd dX7_worthNow_27 (nI_add _ _) ?_
    refine g_istore_n dX7_worthNow_28 rfl (lt_r rfl) rfl ?_
    refine g_iinc dX7_worthNow_29 rfl (inc_nI _) rfl ?_
    refine g_goto (tgt := 4) dX7_worthNow_32 (by decide) ?_
    exact g_le (lvLe_c rfl (lvLe_c rfl (lvLe_c rfl lvLe_0))) ih2
theorem ct_worthNow {s : St} {n : Nat} {w : Nat → Nat} (hR : RN B M s) (ho : okSt s) (hn : n ≤ 12) (h32 : M.1 (B + 80) 32 = nI n) (hw : ∀ i, i < n → M.1 (B + 97) i = nI (w i)) (hw2 : ∀ i, w i ≤ 99) : Ct E B yX7_worthNow cX7_worthNow 3 (some .int) 0 [.ref (B + 80)] M (Rp (nI (worthN (sWo s) n w)) M) := by
  refine Ct.of2 (own := RX7) (lv := [(0, .ref (B + 80))]) pn_X7 rfl (Nat.le_of_ble_eq_true rfl) rfl ?_
  refine g_iconst dX7_worthNow_0 kI_0 ?_
  refine g_istore_n dX7_worthNow_1 rfl (lt_r rfl) rfl ?_
  refine g_iconst dX7_worthNow_2 kI_0 ?_
  refine g_istore_n dX7_worthNow_3 rfl (lt_r rfl) rfl ?_
  exact g_le (lvLe_c rfl (lvLe_c rfl (lvLe_c rfl lvLe_0))) (lp_worthNow hR ho hn h32 hw hw2 n 0 rfl)
theorem ct_X7_heatBehind {s : St} {more : Int32} (hR : RN B M s) (ho : okSt s) : Ct E B yX7_heatBehind cX7_heatBehind 3 (some .int) 0 [.ref (B + 80), .int more] M (Rp (nI (heatN (sHt s) (sLo s) (sSe s) more)) M) := by
  have hlo := ho.2.2.2.2.1
  refine Ct.of2 (own := RX7) (lv := [(0, .ref (B + 80)), (1, .int more)]) pn_X7 rfl (Nat.le_of_ble_eq_true rfl) rfl ?_
  refine g_aload_n dX7_heatBehind_0 rfl rfl ?_
  refine g_getI dX7_heatBehind_1 fl_X7_7 rfl rfl (hR.2.2.2.1) ?_
  refine g_aload_n dX7_heatBehind_4 rfl rfl ?_
  refine g_getI dX7_heatBehind_5 fl_X7_164 rfl rfl (hR.2.2.2.2.2.2.2.2.1) ?_
  refine g_iload_n dX7_heatBehind_8 rfl rfl ?_
  refine g_iadd dX7_heatBehind_9 rfl ?_
  refine g_aload_n dX7_heatBehind_10 rfl rfl ?_
  refine g_getI dX7_heatBehind_11 fl_X7_13 rfl rfl (hR.2.2.2.2.1) ?_
  refine g_idiv dX7_heatBehind_14 (nI_ne0 (by omega) (by omega)) rfl ?_
  refine g_aload_n dX7_heatBehind_15 rfl rfl ?_
  refine g_getI dX7_heatBehind_16 fl_X7_164 rfl rfl (hR.2.2.2.2.2.2.2.2.1) ?_
  refine g_aload_n dX7_heatBehind_19 rfl rfl ?_
  refine g_getI dX7_heatBehind_20 fl_X7_13 rfl rfl (hR.2.2.2.2.1) ?_
  refine g_idiv dX7_heatBehind_23 (nI_ne0 (by omega) (by omega)) rfl ?_
  refine g_isub dX7_heatBehind_24 rfl ?_
  refine g_isub dX7_heatBehind_25 rfl ?_
  refine g_istore_n dX7_heatBehind_26 rfl (lt_r rfl) rfl ?_
  refine g_iload_n dX7_heatBehind_27 rfl rfl ?_
  refine g_if_ge (tgt := 35) dX7_heatBehind_28 (by decide) (fun c_28 => ?_) (fun c_28 => ?_)
  · refine g_iload_n dX7_heatBehind_35 rfl rfl ?_
    refine g_iret dX7_heatBehind_36 ⟨_, rfl, ?_⟩
    refine ⟨?_, rfl⟩
    rw [← heatN_ok.1]
    unfold heatI
    first | exact (max_t c_28).symm | exact (max_f c_28).symm
  · refine g_iconst dX7_heatBehind_31 kI_0 ?_
    refine g_goto (tgt := 36) dX7_heatBehind_32 (by decide) ?_
    refine g_iret dX7_heatBehind_36 ⟨_, rfl, ?_⟩
    refine ⟨?_, rfl⟩
    rw [← heatN_ok.1]
    unfold heatI
    first | exact (max_t c_28).symm | exact (max_f c_28).symm
end X7C
