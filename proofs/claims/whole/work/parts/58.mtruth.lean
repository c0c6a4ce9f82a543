/-! the model's calls in truth -/
abbrev tA : List Nat := [84, 85, 97, 98]
abbrev tJ : List Nat := [1, 3, 4, 5, 6, 7, 32, 33, 34, 35, 36]
theorem pl_tea2 {s : St} {q d t c : Nat} {x2 x3 : Int32} : sPl (eatS (carS (seedS (dipS (seedS s x2) q d t) x3) q c) q) = sPl s + nI (eatW (carS (seedS (dipS (seedS s x2) q d t) x3) q c) q) := by
  have c1 : sPl (dipS (seedS s x2) q d t) = sPl s := rfl
  generalize dipS (seedS s x2) q d t = s1 at c1 ⊢
  have c2 : sPl (carS (seedS s1 x3) q c) = sPl s1 := rfl
  generalize carS (seedS s1 x3) q c = s2 at c2 ⊢
  show sPl s2 + nI (eatW s2 q) = _
  rw [c2, c1]
theorem pl_tea {s : St} : sPl (teaS s).2 = sPl s + nI (teaS s).1 := by
  unfold teaS
  dsimp only
  split
  · exact (Int32.add_zero _).symm
  · exact pl_tea2
theorem pl_teas {s : St} : ∀ n, sPl (teasF s n).2 = sPl s + nI (teasF s n).1
  | 0 => (Int32.add_zero _).symm
  | n + 1 => by
    have h1 := pl_teas (s := s) n
    have e1 : (teasF s (n + 1)).2 = (teaS (teasF s n).2).2 := rfl
    have e2 : (teasF s (n + 1)).1 = (teasF s n).1 + (teaS (teasF s n).2).1 := rfl
    rw [e1, e2, pl_tea, h1, Int32.add_assoc, nI_add]
section X7L
variable {E : EE} {B : Nat} {M : MM}
theorem lp_stays {q n : Nat} {w : Nat → Nat} {F : Option Value → MM → Prop} {M1 : MM} (hq : q < 6) (hn : n ≤ 12) (h32 : M1.1 (B + 80) 32 = nI n) (hw : ∀ j, j < n → M1.1 (B + 97) j = nI (w j))
    (hend : ∀ M', Fk B M1 M' [85] [] → (∀ j, j < n → M'.1 (B + 85) (12 * q + j) = nI (w j)) → (∀ z, (z < 12 * q ∨ 12 * q + 12 ≤ z) → M'.1 (B + 85) z = M1.1 (B + 85) z) → F none M') :
    ∀ (m i : Nat), m + i = n → ∀ M', Fk B M1 M' [85] [] → (∀ j, j < i → M'.1 (B + 85) (12 * q + j) = nI (w j)) → (∀ z, (z < 12 * q ∨ 12 * q + 12 ≤ z) → M'.1 (B + 85) z = M1.1 (B + 85) z) →
    G E B cX7_stays (RX7, 3, none, rmD 0, 0, 0, KM E B F) 12 [(0, .ref (B + 80)), (1, .int (nI q)), (2, .int (nI i))] [] M' := by
  intro m
  induction m with
  | zero =>
    intro i h1 M' hF hI hz
    refine g_iload_n dX7_stays_12 rfl rfl ?_
    refine g_aload_n dX7_stays_13 rfl rfl ?_
    refine g_getI dX7_stays_14 fl_X7_177 rfl rfl ((hF.j (by decide)).trans h32) ?_
    refine g_icmp_geN (tgt := 43) dX7_stays_17 (by decide) rfl rfl (by omega) (by omega) (fun c_17 => ?_) (fun c_17 => absurd c_17 (by omega))
    exact g_vret dX7_stays_43 (hend M' hF (fun j hj => hI j (by omega)) hz)
  | succ m ih =>
    intro i h1 M' hF hI hz
    refine g_iload_n dX7_stays_12 rfl rfl ?_
    refine g_aload_n dX7_stays_13 rfl rfl ?_
    refine g_getI dX7_stays_14 fl_X7_177 rfl rfl ((hF.j (by decide)).trans h32) ?_
    refine g_icmp_geN (tgt := 43) dX7_stays_17 (by decide) rfl rfl (by omega) (by omega) (fun c_17 => absurd c_17 (by omega)) (fun c_17 => ?_)
    refine g_aload_n dX7_stays_20 rfl rfl ?_
    refine g_getR dX7_stays_21 fl_X7_38 rfl rfl ?_
    refine g_bipush dX7_stays_24 kB_12 ?_
    refine g_iload_n dX7_stays_26 rfl rfl ?_
    refine g_imul dX7_stays_27 (pk_mul _ _) ?_
    refine g_iload_n dX7_stays_28 rfl rfl ?_
    refine g_iadd dX7_stays_29 (nI_add _ _) ?_
    refine g_aload_n dX7_stays_30 rfl rfl ?_
    refine g_getR dX7_stays_31 fl_X7_75 rfl rfl ?_
    refine g_iload_n dX7_stays_34 rfl rfl ?_
    refine g_iald dX7_stays_35 rfl rfl (by omega) ((congrFun (hF.i (by decide) (by decide)) _).trans (hw i (by omega))) ?_
    refine g_iast dX7_stays_36 rfl rfl (by omega) ?_
    refine g_iinc dX7_stays_37 rfl (inc_nI _) rfl ?_
    refine g_goto (tgt := 12) dX7_stays_40 (by decide) ?_
    exact g_le (lvLe_c rfl (lvLe_c rfl (lvLe_c rfl lvLe_0))) (ih (i + 1) (by omega) _ (hF.tr (Fk.pi (by decide) (by decide))) (fun j hj => by
      by_cases e : j = i
      · subst e; exact upI_s
      · rw [upI_k (by omega)]; exact hI j (by omega)) (fun z h9 => by rw [upI_k (by omega)]; exact hz z h9))
theorem ct_stays {s : St} {q : Nat} {t0 : Int32} {D : Dk} (h : RN B M s) (ho : okSt s) (hq : q < sCn s) (hD : RDc B M t0 D) (hn : D.1 ≤ 12) : Ct E B yX7_stays cX7_stays 3 none 0 [.ref (B + 80), .int (nI q)] M (Rv (fun M2 => RN B M2 (setB s q D.1 D.2.1, s.2) ∧ Fk B M M2 [84, 85] [])) := by
  have hcn := ho.2.2.1
  refine Ct.of2 (own := RX7) (lv := [(0, .ref (B + 80)), (1, .int (nI q))]) pn_X7 rfl (Nat.le_of_ble_eq_true rfl) rfl ?_
  refine g_aload_n dX7_stays_0 rfl rfl ?_
  refine g_getR dX7_stays_1 fl_X7_35 rfl rfl ?_
  refine g_iload_n dX7_stays_4 rfl rfl ?_
  refine g_aload_n dX7_stays_5 rfl rfl ?_
  refine g_getI dX7_stays_6 fl_X7_177 rfl rfl (hD.1) ?_
  refine g_iast dX7_stays_9 rfl rfl (by omega) ?_
  refine g_iconst dX7_stays_10 kI_0 ?_
  refine g_istore_n dX7_stays_11 rfl (lt_r rfl) rfl ?_
  have hF0 : Fk B M (upI M (B + 84) q (nI D.1)) [84, 85] [] := Fk.pi (by decide) (by decide)
  refine g_le (lvLe_c rfl (lvLe_c rfl (lvLe_c rfl lvLe_0))) (lp_stays (w := D.2.1) (by omega) hn (by rw [upI_ap (by decide)]; exact hD.1) (fun j hj => by rw [upI_ap (by decide)]; exact hD.2.1 j hj) (fun M' a1 a2 a3 => ⟨rfl, ?_⟩) D.1 0 rfl _ Fk.rf (fun j hj => absurd hj (Nat.not_lt_zero j)) (fun z _ => rfl))
  have hF1 := hF0.tr (a1.up (by decide) (by decide))
  refine ⟨?_, hF1⟩
  obtain ⟨b1, b2, b3, b4, b5, b6, b7, b8, b9, b10⟩ := h
  refine ⟨fun q2 hq2 => ?_, fun i hi => by rw [hF1.i (by decide) (by decide)]; exact b2 i hi, by rw [hF1.j (by decide)]; exact b3, by rw [hF1.j (by decide)]; exact b4, by rw [hF1.j (by decide)]; exact b5, by rw [hF1.j (by decide)]; exact b6, by rw [hF1.j (by decide)]; exact b7, by rw [hF1.j (by decide)]; exact b8, by rw [hF1.j (by decide)]; exact b9, by rw [hF1.j (by decide)]; exact b10⟩
  have hq2 : q2 < sCn s := hq2
  rw [hF1.i (q := 82) (by decide) (by decide), hF1.i (q := 83) (by decide) (by decide), a1.i (q := 84) (by decide) (by decide)]
  have h9 := b1 q2 hq2
  have h12 := (ho.1 q2 hq2).2.2.1
  by_cases e : q2 = q
  · subst e
    have eb : sBs ((setB s q2 D.1 D.2.1, s.2) : St) q2 = ((sBs s q2).1, (sBs s q2).2.1, D.1, D.2.1) := upF_s
    rw [eb]
    exact ⟨h9.1, h9.2.1, upI_s, fun i hi => a2 i hi⟩
  · have eb : sBs ((setB s q D.1 D.2.1, s.2) : St) q2 = sBs s q2 := upF_n e
    rw [eb]
    refine ⟨h9.1, h9.2.1, by rw [upI_k e]; exact h9.2.2.1, fun i hi => ?_⟩
    rw [a3 _ (by omega), upI_ap (by decide)]
    exact h9.2.2.2 i hi
theorem ct_X7_passes {s : St} {more : Int32} (h : RN B M s) (ho : okSt s) : Ct E B yX7_passes cX7_passes 2 none 1 [.ref (B + 80), .int more] M (Rv (fun M2 => RN B M2 (passS s more) ∧ Fk B M M2 [] [1, 6])) := by
  refine Ct.of2 (own := RX7) (lv := [(0, .ref (B + 80)), (1, .int more)]) pn_X7 rfl (Nat.le_of_ble_eq_true rfl) rfl ?_
  refine g_aload_n dX7_passes_0 rfl rfl ?_
  refine g_aload_n dX7_passes_1 rfl rfl ?_
  refine g_iload_n dX7_passes_2 rfl rfl ?_
  refine g_callVp dX7_passes_3 mi_X7_heatBehind ml_X7_246 (ct_X7_heatBehind h ho) rfl rfl rfl rfl (Nat.le_of_ble_eq_true rfl) ⟨lt_r rfl, Nat.le_of_ble_eq_true rfl⟩ ?_
  refine g_putI dX7_passes_6 fp_X7_7 rfl rfl ?_
  refine g_aload_n dX7_passes_9 rfl rfl ?_
  refine g_dup dX7_passes_10 rfl ?_
  refine g_getI dX7_passes_11 fl_X7_164 rfl rfl ((upI_k (by decide)).trans h.2.2.2.2.2.2.2.2.1) ?_
  refine g_iload_n dX7_passes_14 rfl rfl ?_
  refine g_iadd dX7_passes_15 rfl ?_
  refine g_putI dX7_passes_16 fp_X7_164 rfl rfl ?_
  refine g_vret dX7_passes_19 ⟨rfl, ?_⟩
  obtain ⟨b1, b2, b3, b4, b5, b6, b7, b8, b9, b10⟩ := h
  refine ⟨⟨fun q hq => ?_, fun i hi => ?_, ?_, ?_, ?_, ?_, ?_, ?_, ?_, ?_⟩, Fk.tr (Fk.pj (by decide)) (Fk.pj (by decide))⟩
  · rw [upI_ap (by decide), upI_ap (by decide), upI_ap (by decide), upI_ap (by decide), upI_ap (by decide), upI_ap (by decide), upI_ap (by decide), upI_ap (by decide)]; exact b1 q hq
  · rw [upI_ap (by decide), upI_ap (by decide)]; exact b2 i hi
  all_goals simp only [upI_at]
  all_goals first | exact b3 | exact b5 | exact b6 | exact b7 | exact b8 | exact b10 | rfl
theorem ct_mdips {s : St} {q d t : Nat} (h : RN B M s) (ho : okSt s) (hq : q < sCn s) (hd : d ≤ 12) (ht : t ≤ 60) : Ct E B yX7_dips cX7_dips 4 (some .int) 5 [.ref (B + 80), .int (nI q), .int (nI d), .int (nI t)] M (Ri (fun r M2 => r = nI (dipD (sBs s q) (sHt s) d t).2.2.2.1 ∧ RN B M2 (dipS s q d t) ∧ Fk B M M2 tA tJ)) := by
  have hob := ho.1 q hq
  have hok := dipD_ok (h := sHt s) (d := d) (s := t) hob
  have hte := ho.2.2.2.2.2
  have htk : (dipD (sBs s q) (sHt s) d t).2.2.2.2.1 < 2 ^ 31 := by have := hok.2.2.2.1; omega
  refine Ct.of2 (own := RX7) (lv := [(0, .ref (B + 80)), (1, .int (nI q)), (2, .int (nI d)), (3, .int (nI t))]) pn_X7 rfl (Nat.le_of_ble_eq_true rfl) rfl ?_
  refine g_aload_n dX7_dips_0 rfl rfl ?_
  refine g_iload_n dX7_dips_1 rfl rfl ?_
  refine g_iload_n dX7_dips_2 rfl rfl ?_
  refine g_iload_n dX7_dips_3 rfl rfl ?_
  refine g_iconst dX7_dips_4 kI_0 ?_
  refine g_aload_n dX7_dips_5 rfl rfl ?_
  refine g_getI dX7_dips_6 fl_X7_7 rfl rfl (h.2.2.2.1) ?_
  refine g_callVv dX7_dips_9 mi_X7_tries ml_X7_230 (ct_tries (c := 0) h ho hq ho.2.2.2.1 hd ht (by decide)) rfl rfl rfl rfl (Nat.le_of_ble_eq_true rfl) ⟨lt_r rfl, Nat.le_of_ble_eq_true rfl⟩ (fun M9 h9 => ?_)
  obtain ⟨g1, g2, g3⟩ := h9
  have g1 : RDc B M9 (nI 0) (dipD (sBs s q) (sHt s) d t) := g1
  refine g_aload_n dX7_dips_12 rfl rfl ?_
  refine g_iload_n dX7_dips_13 rfl rfl ?_
  refine g_callVv dX7_dips_14 mi_X7_stays ml_X7_260 (ct_stays (h.fk g3 (by decide) (by decide)) ho hq g1 hok.1.2.2.1) rfl rfl rfl rfl (Nat.le_of_ble_eq_true rfl) ⟨lt_r rfl, Nat.le_of_ble_eq_true rfl⟩ (fun M14 h14 => ?_)
  obtain ⟨j1, j2⟩ := h14
  have g5 := g1.fk j2 (by decide) (by decide)
  have e34 : M14.1 (B + 80) 34 = nI (dipD (sBs s q) (sHt s) d t).2.2.2.2.1 := g5.2.2.1.trans (by rw [nI_add, Nat.zero_add])
  refine g_aload_n dX7_dips_17 rfl rfl ?_
  refine g_aload_n dX7_dips_18 rfl rfl ?_
  refine g_getI dX7_dips_19 fl_X7_16 rfl rfl ((show M14.1 (B + 80) 3 = nI (sTe s) from j1.2.2.2.2.2.1)) ?_
  refine g_aload_n dX7_dips_22 rfl rfl ?_
  refine g_getI dX7_dips_23 fl_X7_180 rfl rfl (e34) ?_
  refine g_icmp_leN (tgt := 41) dX7_dips_26 (by decide) rfl rfl (by omega) (by omega) (fun c_26 => ?_) (fun c_26 => ?_)
  · refine g_iconst dX7_dips_41 kI_0 ?_
    refine g_putI dX7_dips_42 fp_X7_16 rfl rfl ?_
    refine g_aload_n dX7_dips_45 rfl rfl ?_
    refine g_dup dX7_dips_46 rfl ?_
    refine g_getI dX7_dips_47 fl_X7_158 rfl rfl ((upI_k (by decide)).trans j1.2.2.2.2.2.2.1) ?_
    refine g_aload_n dX7_dips_50 rfl rfl ?_
    refine g_getI dX7_dips_51 fl_X7_183 rfl rfl ((upI_k (by decide)).trans g5.2.2.2) ?_
    refine g_iadd dX7_dips_54 rfl ?_
    refine g_putI dX7_dips_55 fp_X7_158 rfl rfl ?_
    have ho2 : okSt (setB s q (dipD (sBs s q) (sHt s) d t).1 (dipD (sBs s q) (sHt s) d t).2.1, sWo s, sCn s, sHt s, sLo s, sTe s - (dipD (sBs s q) (sHt s) d t).2.2.2.2.1, sSl s + nI (dipD (sBs s q) (sHt s) d t).2.2.2.1, sPl s, sSe s, sSd s) := ⟨ok_setB ho hok.1.2.2.1 hok.1.2.2.2, ho.2.1, ho.2.2.1, ho.2.2.2.1, ho.2.2.2.2.1, Nat.le_trans (Nat.sub_le _ _) hte⟩
    have hx : ∀ v, v = sTe s - (dipD (sBs s q) (sHt s) d t).2.2.2.2.1 → RN B (upI (upI M14 (B + 80) 3 (nI v)) (B + 80) 4 (sSl s + nI (dipD (sBs s q) (sHt s) d t).2.2.2.1)) (setB s q (dipD (sBs s q) (sHt s) d t).1 (dipD (sBs s q) (sHt s) d t).2.1, sWo s, sCn s, sHt s, sLo s, sTe s - (dipD (sBs s q) (sHt s) d t).2.2.2.2.1, sSl s + nI (dipD (sBs s q) (sHt s) d t).2.2.2.1, sPl s, sSe s, sSd s) := by
      rintro v rfl
      obtain ⟨b1, b2, b3, b4, b5, b6, b7, b8, b9, b10⟩ := j1
      refine ⟨fun q hq => ?_, fun i hi => ?_, ?_, ?_, ?_, ?_, ?_, ?_, ?_, ?_⟩
      · rw [upI_ap (by decide), upI_ap (by decide), upI_ap (by decide), upI_ap (by decide), upI_ap (by decide), upI_ap (by decide), upI_ap (by decide), upI_ap (by decide)]; exact b1 q hq
      · rw [upI_ap (by decide), upI_ap (by decide)]; exact b2 i hi
      all_goals simp only [upI_at]
      all_goals first | exact b3 | exact b4 | exact b5 | exact b8 | exact b9 | exact b10 | rfl
    refine g_aload_n dX7_dips_58 rfl rfl ?_
    refine g_iload_n dX7_dips_59 rfl rfl ?_
    refine g_callVv dX7_dips_60 mi_X7_passes ml_X7_263 (ct_X7_passes (hx _ (by omega)) ho2) rfl rfl rfl rfl (Nat.le_of_ble_eq_true rfl) ⟨lt_r rfl, Nat.le_of_ble_eq_true rfl⟩ (fun M60 h60 => ?_)
    refine g_aload_n dX7_dips_63 rfl rfl ?_
    refine g_getI dX7_dips_64 fl_X7_183 rfl rfl (h60.2.j (by decide)) ?_
    refine g_iret dX7_dips_67 ⟨_, rfl, ?_⟩
    refine ⟨?_, h60.1, (((g3.up (by decide) (by decide)).tr (j2.up (by decide) (by decide))).tr (Fk.tr (Fk.pj (by decide)) (Fk.pj (by decide)))).tr (h60.2.up (by decide) (by decide))⟩
    rw [upI_k (by decide), upI_k (by decide)]
    exact g5.2.2.2
  · refine g_aload_n dX7_dips_29 rfl rfl ?_
    refine g_getI dX7_dips_30 fl_X7_16 rfl rfl ((show M14.1 (B + 80) 3 = nI (sTe s) from j1.2.2.2.2.2.1)) ?_
    refine g_aload_n dX7_dips_33 rfl rfl ?_
    refine g_getI dX7_dips_34 fl_X7_180 rfl rfl (e34) ?_
    first | refine g_isub dX7_dips_37 (pk_sub (by omega)) ?_ | refine g_isub dX7_dips_37 rfl ?_
    refine g_goto (tgt := 42) dX7_dips_38 (by decide) ?_
    refine g_putI dX7_dips_42 fp_X7_16 rfl rfl ?_
    refine g_aload_n dX7_dips_45 rfl rfl ?_
    refine g_dup dX7_dips_46 rfl ?_
    refine g_getI dX7_dips_47 fl_X7_158 rfl rfl ((upI_k (by decide)).trans j1.2.2.2.2.2.2.1) ?_
    refine g_aload_n dX7_dips_50 rfl rfl ?_
    refine g_getI dX7_dips_51 fl_X7_183 rfl rfl ((upI_k (by decide)).trans g5.2.2.2) ?_
    refine g_iadd dX7_dips_54 rfl ?_
    refine g_putI dX7_dips_55 fp_X7_158 rfl rfl ?_
    have ho2 : okSt (setB s q (dipD (sBs s q) (sHt s) d t).1 (dipD (sBs s q) (sHt s) d t).2.1, sWo s, sCn s, sHt s, sLo s, sTe s - (dipD (sBs s q) (sHt s) d t).2.2.2.2.1, sSl s + nI (dipD (sBs s q) (sHt s) d t).2.2.2.1, sPl s, sSe s, sSd s) := ⟨ok_setB ho hok.1.2.2.1 hok.1.2.2.2, ho.2.1, ho.2.2.1, ho.2.2.2.1, ho.2.2.2.2.1, Nat.le_trans (Nat.sub_le _ _) hte⟩
    have hx : ∀ v, v = sTe s - (dipD (sBs s q) (sHt s) d t).2.2.2.2.1 → RN B (upI (upI M14 (B + 80) 3 (nI v)) (B + 80) 4 (sSl s + nI (dipD (sBs s q) (sHt s) d t).2.2.2.1)) (setB s q (dipD (sBs s q) (sHt s) d t).1 (dipD (sBs s q) (sHt s) d t).2.1, sWo s, sCn s, sHt s, sLo s, sTe s - (dipD (sBs s q) (sHt s) d t).2.2.2.2.1, sSl s + nI (dipD (sBs s q) (sHt s) d t).2.2.2.1, sPl s, sSe s, sSd s) := by
      rintro v rfl
      obtain ⟨b1, b2, b3, b4, b5, b6, b7, b8, b9, b10⟩ := j1
      refine ⟨fun q hq => ?_, fun i hi => ?_, ?_, ?_, ?_, ?_, ?_, ?_, ?_, ?_⟩
      · rw [upI_ap (by decide), upI_ap (by decide), upI_ap (by decide), upI_ap (by decide), upI_ap (by decide), upI_ap (by decide), upI_ap (by decide), upI_ap (by decide)]; exact b1 q hq
      · rw [upI_ap (by decide), upI_ap (by decide)]; exact b2 i hi
      all_goals simp only [upI_at]
      all_goals first | exact b3 | exact b4 | exact b5 | exact b8 | exact b9 | exact b10 | rfl
    refine g_aload_n dX7_dips_58 rfl rfl ?_
    refine g_iload_n dX7_dips_59 rfl rfl ?_
    refine g_callVv dX7_dips_60 mi_X7_passes ml_X7_263 (ct_X7_passes (hx _ (by omega)) ho2) rfl rfl rfl rfl (Nat.le_of_ble_eq_true rfl) ⟨lt_r rfl, Nat.le_of_ble_eq_true rfl⟩ (fun M60 h60 => ?_)
    refine g_aload_n dX7_dips_63 rfl rfl ?_
    refine g_getI dX7_dips_64 fl_X7_183 rfl rfl (h60.2.j (by decide)) ?_
    refine g_iret dX7_dips_67 ⟨_, rfl, ?_⟩
    refine ⟨?_, h60.1, (((g3.up (by decide) (by decide)).tr (j2.up (by decide) (by decide))).tr (Fk.tr (Fk.pj (by decide)) (Fk.pj (by decide)))).tr (h60.2.up (by decide) (by decide))⟩
    rw [upI_k (by decide), upI_k (by decide)]
    exact g5.2.2.2
theorem ct_carriesOff {s : St} {q t : Nat} (h : RN B M s) (ho : okSt s) (hq : q < sCn s) (ht : t ≤ 60) : Ct E B yX7_carriesOff cX7_carriesOff 3 (some .int) 5 [.ref (B + 80), .int (nI q), .int (nI t)] M (Ri (fun r M2 => r = nI (dipD (sBs s q) (sHt s) 0 t).2.2.2.1 ∧ RN B M2 (carS s q t) ∧ Fk B M M2 tA tJ)) := by
  have hob := ho.1 q hq
  have hok := dipD_ok (h := sHt s) (d := 0) (s := t) hob
  refine Ct.of2 (own := RX7) (lv := [(0, .ref (B + 80)), (1, .int (nI q)), (2, .int (nI t))]) pn_X7 rfl (Nat.le_of_ble_eq_true rfl) rfl ?_
  refine g_aload_n dX7_carriesOff_0 rfl rfl ?_
  refine g_iload_n dX7_carriesOff_1 rfl rfl ?_
  refine g_iconst dX7_carriesOff_2 kI_0 ?_
  refine g_iconst dX7_carriesOff_3 kI_0 ?_
  refine g_iload_n dX7_carriesOff_4 rfl rfl ?_
  refine g_aload_n dX7_carriesOff_5 rfl rfl ?_
  refine g_getI dX7_carriesOff_6 fl_X7_7 rfl rfl (h.2.2.2.1) ?_
  refine g_callVv dX7_carriesOff_9 mi_X7_tries ml_X7_230 (ct_tries (d := 0) (n := 0) h ho hq ho.2.2.2.1 (by decide) (by decide) ht) rfl rfl rfl rfl (Nat.le_of_ble_eq_true rfl) ⟨lt_r rfl, Nat.le_of_ble_eq_true rfl⟩ (fun M9 h9 => ?_)
  obtain ⟨g1, g2, g3⟩ := h9
  have g1 : RDc B M9 (nI 0) (dipD (sBs s q) (sHt s) 0 t) := g1
  refine g_aload_n dX7_carriesOff_12 rfl rfl ?_
  refine g_iload_n dX7_carriesOff_13 rfl rfl ?_
  refine g_callVv dX7_carriesOff_14 mi_X7_stays ml_X7_260 (ct_stays (h.fk g3 (by decide) (by decide)) ho hq g1 hok.1.2.2.1) rfl rfl rfl rfl (Nat.le_of_ble_eq_true rfl) ⟨lt_r rfl, Nat.le_of_ble_eq_true rfl⟩ (fun M14 h14 => ?_)
  obtain ⟨j1, j2⟩ := h14
  have g5 := g1.fk j2 (by decide) (by decide)
  have ho2 : okSt (setB s q (dipD (sBs s q) (sHt s) 0 t).1 (dipD (sBs s q) (sHt s) 0 t).2.1, s.2) := ⟨ok_setB ho hok.1.2.2.1 hok.1.2.2.2, ho.2⟩
  refine g_aload_n dX7_carriesOff_17 rfl rfl ?_
  refine g_iload_n dX7_carriesOff_18 rfl rfl ?_
  refine g_callVv dX7_carriesOff_19 mi_X7_passes ml_X7_263 (ct_X7_passes j1 ho2) rfl rfl rfl rfl (Nat.le_of_ble_eq_true rfl) ⟨lt_r rfl, Nat.le_of_ble_eq_true rfl⟩ (fun M19 h19 => ?_)
  refine g_aload_n dX7_carriesOff_22 rfl rfl ?_
  refine g_getI dX7_carriesOff_23 fl_X7_183 rfl rfl ((h19.2.j (by decide)).trans g5.2.2.2) ?_
  refine g_iret dX7_carriesOff_26 ⟨_, rfl, ?_⟩
  exact ⟨rfl, h19.1, ((g3.up (by decide) (by decide)).tr (j2.up (by decide) (by decide))).tr (h19.2.up (by decide) (by decide))⟩
theorem ct_eaten {s : St} {q : Nat} (h : RN B M s) (ho : okSt s) (hq : q < sCn s) : Ct E B yX7_eaten cX7_eaten 3 (some .int) 1 [.ref (B + 80), .int (nI q)] M (Ri (fun r M2 => r = nI (eatW s q) ∧ RN B M2 (eatS s q) ∧ Fk B M M2 tA tJ)) := by
  have hob := ho.1 q hq
  have hcn := ho.2.2.1
  refine Ct.of2 (own := RX7) (lv := [(0, .ref (B + 80)), (1, .int (nI q))]) pn_X7 rfl (Nat.le_of_ble_eq_true rfl) rfl ?_
  refine g_aload_n dX7_eaten_0 rfl rfl ?_
  refine g_iload_n dX7_eaten_1 rfl rfl ?_
  refine g_callVv dX7_eaten_2 mi_X7_lays ml_X7_206 (ct_lays h ho hq) rfl rfl rfl rfl (Nat.le_of_ble_eq_true rfl) ⟨lt_r rfl, Nat.le_of_ble_eq_true rfl⟩ (fun M2 h2 => ?_)
  obtain ⟨a1, a2, a3⟩ := h2
  have hR := h.fk a3 (by decide) (by decide)
  refine g_aload_n dX7_eaten_5 rfl rfl ?_
  refine g_callVp dX7_eaten_6 mi_X7_worthNow ml_X7_237 (ct_worthNow (n := (sBs s q).2.2.1) (w := (sBs s q).2.2.2) hR ho hob.2.2.1 a1.1 a1.2.1 hob.2.2.2) rfl rfl rfl rfl (Nat.le_of_ble_eq_true rfl) ⟨lt_r rfl, Nat.le_of_ble_eq_true rfl⟩ ?_
  refine g_istore_n dX7_eaten_9 rfl (lt_r rfl) rfl ?_
  refine g_aload_n dX7_eaten_10 rfl rfl ?_
  refine g_dup dX7_eaten_11 rfl ?_
  refine g_getI dX7_eaten_12 fl_X7_161 rfl rfl (hR.2.2.2.2.2.2.2.1) ?_
  refine g_iload_n dX7_eaten_15 rfl rfl ?_
  refine g_iadd dX7_eaten_16 rfl ?_
  refine g_putI dX7_eaten_17 fp_X7_161 rfl rfl ?_
  refine g_aload_n dX7_eaten_20 rfl rfl ?_
  refine g_getR dX7_eaten_21 fl_X7_35 rfl rfl ?_
  refine g_iload_n dX7_eaten_24 rfl rfl ?_
  refine g_iconst dX7_eaten_25 kI_0 ?_
  refine g_iast dX7_eaten_26 rfl rfl (by omega) ?_
  refine g_iload_n dX7_eaten_27 rfl rfl ?_
  refine g_iret dX7_eaten_28 ⟨_, rfl, ?_⟩
  have hF1 : Fk B M2 (upI (upI M2 (B + 80) 5 (sPl s + nI (worthN (sWo s) (sBs s q).2.2.1 (sBs s q).2.2.2))) (B + 84) q (nI 0)) tA tJ := Fk.tr (Fk.pj (by decide)) (Fk.pi (by decide) (by decide))
  refine ⟨rfl, ?_, (a3.up (by decide) (by decide)).tr hF1⟩
  obtain ⟨b1, b2, b3, b4, b5, b6, b7, b8, b9, b10⟩ := hR
  refine ⟨fun q2 hq2 => ?_, fun i hi => ?_, ?_, ?_, ?_, ?_, ?_, ?_, ?_, ?_⟩
  · have hq2 : q2 < sCn s := hq2
    have h9 := b1 q2 hq2
    have k1 : ∀ k, k ≠ 84 → k ≠ 80 → (upI (upI M2 (B + 80) 5 (sPl s + nI (worthN (sWo s) (sBs s q).2.2.1 (sBs s q).2.2.2))) (B + 84) q (nI 0)).1 (B + k) = M2.1 (B + k) := fun k c1 c2 => by rw [upI_ap c1, upI_ap c2]
    rw [k1 82 (by decide) (by decide), k1 83 (by decide) (by decide), k1 85 (by decide) (by decide)]
    by_cases e : q2 = q
    · subst e
      have eb : sBs (eatS s q2) q2 = ((sBs s q2).1, (sBs s q2).2.1, 0, (sBs s q2).2.2.2) := upF_s
      rw [eb]
      exact ⟨h9.1, h9.2.1, upI_s, fun i hi => absurd hi (Nat.not_lt_zero i)⟩
    · have eb : sBs (eatS s q) q2 = sBs s q2 := upF_n e
      rw [eb]
      exact ⟨h9.1, h9.2.1, by rw [upI_k e, upI_ap (by decide)]; exact h9.2.2.1, h9.2.2.2⟩
  · rw [upI_ap (by decide), upI_ap (by decide)]; exact b2 i hi
  · rw [upI_ap (by decide), upI_k (by decide)]; exact b3
  · rw [upI_ap (by decide), upI_k (by decide)]; exact b4
  · rw [upI_ap (by decide), upI_k (by decide)]; exact b5
  · rw [upI_ap (by decide), upI_k (by decide)]; exact b6
  · rw [upI_ap (by decide), upI_k (by decide)]; exact b7
  · rw [upI_ap (by decide), upI_s]; rfl
  · rw [upI_ap (by decide), upI_k (by decide)]; exact b9
  · rw [upI_ap (by decide), upI_k (by decide)]; exact b10
theorem ct_mdraw {s : St} {n : Nat} (h : RN B M s) (hn : 0 < n) (hn2 : n < 2 ^ 31) : Ct E B yX7_draw cX7_draw 2 (some .int) 0 [.ref (B + 80), .int (nI n)] M (Ri (fun r M2 => r = nI (drawN (sSd s) n) ∧ RN B M2 (seedS s (nextI (sSd s))) ∧ Fk B M M2 tA tJ)) := by
  refine Ct.of2 (own := RX7) (lv := [(0, .ref (B + 80)), (1, .int (nI n))]) pn_X7 rfl (Nat.le_of_ble_eq_true rfl) rfl ?_
  refine g_aload_n dX7_draw_0 rfl rfl ?_
  refine g_aload_n dX7_draw_1 rfl rfl ?_
  refine g_getI dX7_draw_2 fl_X7_19 rfl rfl (h.2.2.2.2.2.2.2.2.2) ?_
  refine g_ldcw dX7_draw_5 kw_X7_275 ?_
  refine g_imul dX7_draw_8 rfl ?_
  refine g_sipush dX7_draw_9 kS_12345 ?_
  refine g_iadd dX7_draw_12 (nextI_eq (sSd s)) ?_
  refine g_putI dX7_draw_13 fp_X7_19 rfl rfl ?_
  refine g_aload_n dX7_draw_16 rfl rfl ?_
  refine g_getI dX7_draw_17 fl_X7_19 rfl rfl (upI_s) ?_
  refine g_bipush dX7_draw_20 kB_16 ?_
  refine g_iushr dX7_draw_22 ((rfl : _ = shI (nextI (sSd s)))) ?_
  refine g_iload_n dX7_draw_23 rfl rfl ?_
  refine g_irem dX7_draw_24 (nI_ne0 hn hn2) ((draw_ok (sd := sSd s) hn hn2).1) ?_
  refine g_iret dX7_draw_25 ⟨_, rfl, ?_⟩
  exact ⟨rfl, h.h7, Fk.pj (by decide)⟩
theorem RM.t {M2 : MM} {y : Sys} {s : St} (h : RM B M y) (hF : Fk B M M2 tA tJ) (hs : RN B M2 s) : RM B M2 (setN y s) ∧ Sm B M M2 80 102 := ⟨h.n hF (by decide) (by decide) hs, hF.sm (by decide)⟩
theorem mx_dip {y : Sys} {b d s : Int32} (h : RM B M y) (ho : okY y) : Ct E B yX7_dip cX7_dip 4 (some .int) 6 [.ref (B + 80), .int b, .int d, .int s] M (QM B M (o_dip y b d s)) := by
  have hcn := ho.2.1.2.2.1
  have hW : ∀ w, whyTruth y b d s (nI 0) = w → ¬ w = 0 → o_dip y b d s = rz y w := fun w e z => by unfold o_dip; rw [e, if_pos z]
  refine Ct.of2 (own := RX7) (lv := [(0, .ref (B + 80)), (1, .int b), (2, .int d), (3, .int s)]) pn_X7 rfl (Nat.le_of_ble_eq_true rfl) rfl ?_
  refine g_aload_n dX7_dip_0 rfl rfl ?_
  refine g_iload_n dX7_dip_1 rfl rfl ?_
  refine g_callVp dX7_dip_2 mi_X7_isBiscuit ml_X7_93 (ct_X7_isBiscuit h.2.1) rfl rfl rfl rfl (Nat.le_of_ble_eq_true rfl) ⟨lt_r rfl, Nat.le_of_ble_eq_true rfl⟩ ?_
  refine g_if_neP (tgt := 14) dX7_dip_5 (by decide) (fun c_5 => ?_) (fun c_5 => ?_)
  · refine g_aload_n dX7_dip_14 rfl rfl ?_
    refine g_iload_n dX7_dip_15 rfl rfl ?_
    refine g_iload_n dX7_dip_16 rfl rfl ?_
    refine g_iconst dX7_dip_17 kI_0 ?_
    refine g_callVp dX7_dip_18 mi_X7_may ml_X7_226 (ct_X7_may) rfl rfl rfl rfl (Nat.le_of_ble_eq_true rfl) ⟨lt_r rfl, Nat.le_of_ble_eq_true rfl⟩ ?_
    refine g_if_eqP (tgt := 43) dX7_dip_21 (by decide) (fun c_21 => ?_) (fun c_21 => ?_)
    · refine g_aload_n dX7_dip_43 rfl rfl ?_
      refine g_bipush dX7_dip_44 kB_m6 ?_
      refine g_callVi dX7_dip_46 mi_X7_no ml_X7_100 (ct_no (w := 6) h (by decide) (by decide)) rfl rfl rfl rfl (Nat.le_of_ble_eq_true rfl) ⟨lt_r rfl, Nat.le_of_ble_eq_true rfl⟩ (fun x46 M46 h46 => ?_)
      refine g_iret dX7_dip_49 ⟨_, rfl, ?_⟩
      first | exact ⟨h37.1, h.t h37.2.2 h37.2.1⟩ | (have c9 : ¬ dOk d s (nI 0) := c_21; exact QM.rf (hW 6 ((if_neg (fun z => z c_5)).trans (if_neg (fun z => c9 z.2))) (by decide)) h46) | exact QM.rf (hW 6 ((if_neg (fun z => z c_5)).trans (if_neg (fun z => by have z1 := z.1; rw [f1] at z1; omega))) (by decide)) h46
    · obtain ⟨q, hq, rfl, f1⟩ := in_b hcn c_5
      have h12 := (ho.2.1.1 q hq).2.2.1
      refine g_aload_n dX7_dip_24 rfl rfl ?_
      refine g_getR dX7_dip_25 fl_X7_35 rfl rfl ?_
      refine g_iload_n dX7_dip_28 rfl rfl ?_
      refine g_iald dX7_dip_29 rfl rfl (by omega) ((h.2.1.1 q hq).2.2.1) ?_
      refine g_if_leN (tgt := 43) dX7_dip_30 (by decide) rfl (by omega) (fun c_30 => ?_) (fun c_30 => ?_)
      · refine g_aload_n dX7_dip_43 rfl rfl ?_
        refine g_bipush dX7_dip_44 kB_m6 ?_
        refine g_callVi dX7_dip_46 mi_X7_no ml_X7_100 (ct_no (w := 6) h (by decide) (by decide)) rfl rfl rfl rfl (Nat.le_of_ble_eq_true rfl) ⟨lt_r rfl, Nat.le_of_ble_eq_true rfl⟩ (fun x46 M46 h46 => ?_)
        refine g_iret dX7_dip_49 ⟨_, rfl, ?_⟩
        first | exact ⟨h37.1, h.t h37.2.2 h37.2.1⟩ | (have c9 : ¬ dOk d s (nI 0) := c_21; exact QM.rf (hW 6 ((if_neg (fun z => z c_5)).trans (if_neg (fun z => c9 z.2))) (by decide)) h46) | exact QM.rf (hW 6 ((if_neg (fun z => z c_5)).trans (if_neg (fun z => by have z1 := z.1; rw [f1] at z1; omega))) (by decide)) h46
      · have e9 : o_dip y (nI q) d s = _ := if_neg (fun z => z ((if_neg (fun z => z c_5)).trans (if_pos ⟨by rw [f1]; exact c_30, c_21⟩)))
        rw [e9]
        obtain ⟨z2, z3, z4⟩ := c_21
        obtain ⟨d', -, hd, rfl, f2⟩ := btw_n (by decide) (by decide) z2
        obtain ⟨s', -, hs, rfl, f3⟩ := btw_n (by decide) (by decide) z3
        rw [f1, f2, f3]
        refine g_aload_n dX7_dip_33 rfl rfl ?_
        refine g_iload_n dX7_dip_34 rfl rfl ?_
        refine g_iload_n dX7_dip_35 rfl rfl ?_
        refine g_iload_n dX7_dip_36 rfl rfl ?_
        refine g_callVi dX7_dip_37 mi_X7_dips ml_X7_151 (ct_mdips h.2.1 ho.2.1 hq hd hs) rfl rfl rfl rfl (Nat.le_of_ble_eq_true rfl) ⟨lt_r rfl, Nat.le_of_ble_eq_true rfl⟩ (fun x37 M37 h37 => ?_)
        refine g_goto (tgt := 49) dX7_dip_40 (by decide) ?_
        refine g_iret dX7_dip_49 ⟨_, rfl, ?_⟩
        first | exact ⟨h37.1, h.t h37.2.2 h37.2.1⟩ | (have c9 : ¬ dOk d s (nI 0) := c_21; exact QM.rf (hW 6 ((if_neg (fun z => z c_5)).trans (if_neg (fun z => c9 z.2))) (by decide)) h46) | exact QM.rf (hW 6 ((if_neg (fun z => z c_5)).trans (if_neg (fun z => by have z1 := z.1; rw [f1] at z1; omega))) (by decide)) h46
  · refine g_aload_n dX7_dip_8 rfl rfl ?_
    refine g_iconst dX7_dip_9 kI_m1 ?_
    refine g_callVi dX7_dip_10 mi_X7_no ml_X7_100 (ct_no (w := 1) h (by decide) (by decide)) rfl rfl rfl rfl (Nat.le_of_ble_eq_true rfl) ⟨lt_r rfl, Nat.le_of_ble_eq_true rfl⟩ (fun x10 M10 h10 => ?_)
    refine g_iret dX7_dip_13 ⟨_, rfl, ?_⟩
    exact QM.rf (hW 1 (if_pos c_5) (by decide)) h10
theorem mx_carry {y : Sys} {b c : Int32} (h : RM B M y) (ho : okY y) : Ct E B yX7_carry cX7_carry 3 (some .int) 6 [.ref (B + 80), .int b, .int c] M (QM B M (o_carry y b c)) := by
  have hcn := ho.2.1.2.2.1
  have hW : ∀ w, whyTruth y b (nI 0) (nI 0) c = w → ¬ w = 0 → o_carry y b c = rz y w := fun w e z => by unfold o_carry; rw [e, if_pos z]
  have hd0 : (nI 0 ≤ nI 0 ∧ nI 0 ≤ nI 12) ∧ (nI 0 ≤ nI 0 ∧ nI 0 ≤ nI 60) := by decide
  refine Ct.of2 (own := RX7) (lv := [(0, .ref (B + 80)), (1, .int b), (2, .int c)]) pn_X7 rfl (Nat.le_of_ble_eq_true rfl) rfl ?_
  refine g_aload_n dX7_carry_0 rfl rfl ?_
  refine g_iload_n dX7_carry_1 rfl rfl ?_
  refine g_callVp dX7_carry_2 mi_X7_isBiscuit ml_X7_93 (ct_X7_isBiscuit h.2.1) rfl rfl rfl rfl (Nat.le_of_ble_eq_true rfl) ⟨lt_r rfl, Nat.le_of_ble_eq_true rfl⟩ ?_
  refine g_if_neP (tgt := 14) dX7_carry_5 (by decide) (fun c_5 => ?_) (fun c_5 => ?_)
  · refine g_aload_n dX7_carry_14 rfl rfl ?_
    refine g_iload_n dX7_carry_15 rfl rfl ?_
    refine g_callVp dX7_carry_16 mi_X7_isLong ml_X7_223 (ct_X7_isLong) rfl rfl rfl rfl (Nat.le_of_ble_eq_true rfl) ⟨lt_r rfl, Nat.le_of_ble_eq_true rfl⟩ ?_
    refine g_if_eqP (tgt := 40) dX7_carry_19 (by decide) (fun c_19 => ?_) (fun c_19 => ?_)
    · refine g_aload_n dX7_carry_40 rfl rfl ?_
      refine g_bipush dX7_carry_41 kB_m6 ?_
      refine g_callVi dX7_carry_43 mi_X7_no ml_X7_100 (ct_no (w := 6) h (by decide) (by decide)) rfl rfl rfl rfl (Nat.le_of_ble_eq_true rfl) ⟨lt_r rfl, Nat.le_of_ble_eq_true rfl⟩ (fun x43 M43 h43 => ?_)
      refine g_iret dX7_carry_46 ⟨_, rfl, ?_⟩
      first | exact ⟨h34.1, h.t h34.2.2 h34.2.1⟩ | (have c9 : ¬ (nI 0 ≤ c ∧ c ≤ nI 60) := c_19; exact QM.rf (hW 6 ((if_neg (fun z => z c_5)).trans (if_neg (fun z => c9 z.2.2.2))) (by decide)) h43) | exact QM.rf (hW 6 ((if_neg (fun z => z c_5)).trans (if_neg (fun z => by have z1 := z.1; rw [f1] at z1; omega))) (by decide)) h43
    · obtain ⟨q, hq, rfl, f1⟩ := in_b hcn c_5
      have h12 := (ho.2.1.1 q hq).2.2.1
      refine g_aload_n dX7_carry_22 rfl rfl ?_
      refine g_getR dX7_carry_23 fl_X7_35 rfl rfl ?_
      refine g_iload_n dX7_carry_26 rfl rfl ?_
      refine g_iald dX7_carry_27 rfl rfl (by omega) ((h.2.1.1 q hq).2.2.1) ?_
      refine g_if_leN (tgt := 40) dX7_carry_28 (by decide) rfl (by omega) (fun c_28 => ?_) (fun c_28 => ?_)
      · refine g_aload_n dX7_carry_40 rfl rfl ?_
        refine g_bipush dX7_carry_41 kB_m6 ?_
        refine g_callVi dX7_carry_43 mi_X7_no ml_X7_100 (ct_no (w := 6) h (by decide) (by decide)) rfl rfl rfl rfl (Nat.le_of_ble_eq_true rfl) ⟨lt_r rfl, Nat.le_of_ble_eq_true rfl⟩ (fun x43 M43 h43 => ?_)
        refine g_iret dX7_carry_46 ⟨_, rfl, ?_⟩
        first | exact ⟨h34.1, h.t h34.2.2 h34.2.1⟩ | (have c9 : ¬ (nI 0 ≤ c ∧ c ≤ nI 60) := c_19; exact QM.rf (hW 6 ((if_neg (fun z => z c_5)).trans (if_neg (fun z => c9 z.2.2.2))) (by decide)) h43) | exact QM.rf (hW 6 ((if_neg (fun z => z c_5)).trans (if_neg (fun z => by have z1 := z.1; rw [f1] at z1; omega))) (by decide)) h43
      · have e9 : o_carry y (nI q) c = _ := if_neg (fun z => z ((if_neg (fun z => z c_5)).trans (if_pos ⟨by rw [f1]; exact c_28, hd0.1, hd0.2, c_19⟩)))
        rw [e9]
        obtain ⟨c', -, hc, rfl, f2⟩ := btw_n (by decide) (by decide) c_19
        rw [f1, f2]
        refine g_aload_n dX7_carry_31 rfl rfl ?_
        refine g_iload_n dX7_carry_32 rfl rfl ?_
        refine g_iload_n dX7_carry_33 rfl rfl ?_
        refine g_callVi dX7_carry_34 mi_X7_carriesOff ml_X7_266 (ct_carriesOff h.2.1 ho.2.1 hq hc) rfl rfl rfl rfl (Nat.le_of_ble_eq_true rfl) ⟨lt_r rfl, Nat.le_of_ble_eq_true rfl⟩ (fun x34 M34 h34 => ?_)
        refine g_goto (tgt := 46) dX7_carry_37 (by decide) ?_
        refine g_iret dX7_carry_46 ⟨_, rfl, ?_⟩
        first | exact ⟨h34.1, h.t h34.2.2 h34.2.1⟩ | (have c9 : ¬ (nI 0 ≤ c ∧ c ≤ nI 60) := c_19; exact QM.rf (hW 6 ((if_neg (fun z => z c_5)).trans (if_neg (fun z => c9 z.2.2.2))) (by decide)) h43) | exact QM.rf (hW 6 ((if_neg (fun z => z c_5)).trans (if_neg (fun z => by have z1 := z.1; rw [f1] at z1; omega))) (by decide)) h43
  · refine g_aload_n dX7_carry_8 rfl rfl ?_
    refine g_iconst dX7_carry_9 kI_m1 ?_
    refine g_callVi dX7_carry_10 mi_X7_no ml_X7_100 (ct_no (w := 1) h (by decide) (by decide)) rfl rfl rfl rfl (Nat.le_of_ble_eq_true rfl) ⟨lt_r rfl, Nat.le_of_ble_eq_true rfl⟩ (fun x10 M10 h10 => ?_)
    refine g_iret dX7_carry_13 ⟨_, rfl, ?_⟩
    exact QM.rf (hW 1 (if_pos c_5) (by decide)) h10
theorem mx_eats {y : Sys} {b : Int32} (h : RM B M y) (ho : okY y) : Ct E B yX7_eats cX7_eats 2 (some .int) 6 [.ref (B + 80), .int b] M (QM B M (o_eats y b)) := by
  have hcn := ho.2.1.2.2.1
  have hW : ∀ w, whyTruth y b (nI 0) (nI 0) (nI 0) = w → ¬ w = 0 → o_eats y b = rz y w := fun w e z => by unfold o_eats; rw [e, if_pos z]
  have hd0 : dOk (nI 0) (nI 0) (nI 0) := by decide
  refine Ct.of2 (own := RX7) (lv := [(0, .ref (B + 80)), (1, .int b)]) pn_X7 rfl (Nat.le_of_ble_eq_true rfl) rfl ?_
  refine g_aload_n dX7_eats_0 rfl rfl ?_
  refine g_iload_n dX7_eats_1 rfl rfl ?_
  refine g_callVp dX7_eats_2 mi_X7_isBiscuit ml_X7_93 (ct_X7_isBiscuit h.2.1) rfl rfl rfl rfl (Nat.le_of_ble_eq_true rfl) ⟨lt_r rfl, Nat.le_of_ble_eq_true rfl⟩ ?_
  refine g_if_neP (tgt := 14) dX7_eats_5 (by decide) (fun c_5 => ?_) (fun c_5 => ?_)
  · obtain ⟨q, hq, rfl, f1⟩ := in_b hcn c_5
    have h12 := (ho.2.1.1 q hq).2.2.1
    refine g_aload_n dX7_eats_14 rfl rfl ?_
    refine g_getR dX7_eats_15 fl_X7_35 rfl rfl ?_
    refine g_iload_n dX7_eats_18 rfl rfl ?_
    refine g_iald dX7_eats_19 rfl rfl (by omega) ((h.2.1.1 q hq).2.2.1) ?_
    refine g_if_leN (tgt := 31) dX7_eats_20 (by decide) rfl (by omega) (fun c_20 => ?_) (fun c_20 => ?_)
    · refine g_aload_n dX7_eats_31 rfl rfl ?_
      refine g_bipush dX7_eats_32 kB_m6 ?_
      refine g_callVi dX7_eats_34 mi_X7_no ml_X7_100 (ct_no (w := 6) h (by decide) (by decide)) rfl rfl rfl rfl (Nat.le_of_ble_eq_true rfl) ⟨lt_r rfl, Nat.le_of_ble_eq_true rfl⟩ (fun x34 M34 h34 => ?_)
      refine g_iret dX7_eats_37 ⟨_, rfl, ?_⟩
      first | (have e9 : o_eats y (nI q) = _ := if_neg (fun z => z ((if_neg (fun z => z c_5)).trans (if_pos ⟨by rw [f1]; exact c_20, hd0⟩))); rw [e9, f1]; exact ⟨h25.1, h.t h25.2.2 h25.2.1⟩) | exact QM.rf (hW 6 ((if_neg (fun z => z c_5)).trans (if_neg (fun z => by have z1 := z.1; rw [f1] at z1; omega))) (by decide)) h34
    · refine g_aload_n dX7_eats_23 rfl rfl ?_
      refine g_iload_n dX7_eats_24 rfl rfl ?_
      refine g_callVi dX7_eats_25 mi_X7_eaten ml_X7_272 (ct_eaten h.2.1 ho.2.1 hq) rfl rfl rfl rfl (Nat.le_of_ble_eq_true rfl) ⟨lt_r rfl, Nat.le_of_ble_eq_true rfl⟩ (fun x25 M25 h25 => ?_)
      refine g_goto (tgt := 37) dX7_eats_28 (by decide) ?_
      refine g_iret dX7_eats_37 ⟨_, rfl, ?_⟩
      first | (have e9 : o_eats y (nI q) = _ := if_neg (fun z => z ((if_neg (fun z => z c_5)).trans (if_pos ⟨by rw [f1]; exact c_20, hd0⟩))); rw [e9, f1]; exact ⟨h25.1, h.t h25.2.2 h25.2.1⟩) | exact QM.rf (hW 6 ((if_neg (fun z => z c_5)).trans (if_neg (fun z => by have z1 := z.1; rw [f1] at z1; omega))) (by decide)) h34
  · refine g_aload_n dX7_eats_8 rfl rfl ?_
    refine g_iconst dX7_eats_9 kI_m1 ?_
    refine g_callVi dX7_eats_10 mi_X7_no ml_X7_100 (ct_no (w := 1) h (by decide) (by decide)) rfl rfl rfl rfl (Nat.le_of_ble_eq_true rfl) ⟨lt_r rfl, Nat.le_of_ble_eq_true rfl⟩ (fun x10 M10 h10 => ?_)
    refine g_iret dX7_eats_13 ⟨_, rfl, ?_⟩
    exact QM.rf (hW 1 (if_pos c_5) (by decide)) h10
end X7L
