/-! the model's dips and carries -/
section X7E
variable {E : EE} {B : Nat} {M : MM}
theorem lp_dunks {s : St} {q h t n : Nat} {t0 : Int32} {f : Bool} {D0 : Dk} {M0 : MM} (hR : RN B M0 s) (ho : okSt s) (hq : q < sCn s) (hh : h < 2 ^ 31) (hk : okD (sBs s q).1 (sBs s q).2.1 t D0) (hn : n ≤ 60) (ht : t ≤ 1000) : ∀ (m i : Nat), m + i = n → ∀ M', RDc B M' t0 (runD (sBs s q).1 (sBs s q).2.1 h t D0 i) → M'.1 (B + 80) 33 = nI (runD (sBs s q).1 (sBs s q).2.1 h t D0 i).2.2.1 → (f = true → M'.1 (B + 80) 36 = brkI (runD (sBs s q).1 (sBs s q).2.1 h t D0 i).2.2.2.2.2) → Fk B M0 M' dA dJ →
    G E B cX7_dunks (RX7, 7, none, rmD 3, 0, 0, KM E B (Rv (fun M2 => RDc B M2 t0 (runD (sBs s q).1 (sBs s q).2.1 h t D0 n) ∧ (f = true → M2.1 (B + 80) 36 = brkI (runD (sBs s q).1 (sBs s q).2.1 h t D0 n).2.2.2.2.2) ∧ Fk B M0 M2 dA dJ))) 23 [(0, .ref (B + 80)), (1, .int (nI q)), (3, .int (nI n)), (4, .int (nI h)), (5, .int (nI t)), (6, .int (nI (i + 1)))] [] M' := by
  have hcn := ho.2.2.1
  intro m
  induction m with
  | zero =>
    intro i h1 M' hD h33 h36 hF
    refine g_iload dX7_dunks_23 rfl ?_
    refine g_iload_n dX7_dunks_25 rfl rfl ?_
    refine g_icmp_gtN (tgt := 66) dX7_dunks_26 (by decide) rfl rfl (by omega) (by omega) (fun c_26 => ?_) (fun c_26 => absurd c_26 (by omega))
    refine g_vret dX7_dunks_66 ⟨rfl, ?_⟩
    rw [show i = n by omega] at hD h36
    exact ⟨hD, h36, hF⟩
  | succ m ih =>
    intro i h1 M' hD h33 h36 hF
    have hki := run_ok (h := h) hk i
    have hks := sec_ok (h := h) hki
    have eS : runD (sBs s q).1 (sBs s q).2.1 h t D0 (i + 1) = sec (sBs s q).1 (sBs s q).2.1 h (t + i + 1) (runD (sBs s q).1 (sBs s q).2.1 h t D0 i) := rfl
    have ih2 := ih (i + 1) (by omega)
    rw [eS] at ih2
    have hg12 : (sec (sBs s q).1 (sBs s q).2.1 h (t + i + 1) (runD (sBs s q).1 (sBs s q).2.1 h t D0 i)).2.2.2.1 ≤ 12 := by have := hks.2.2.1; omega
    have hfb : (runD (sBs s q).1 (sBs s q).2.1 h t D0 i).2.2.2.2.2 < 2 ^ 31 := by have := hki.2.2.2.2.1; omega
    refine g_iload dX7_dunks_23 rfl ?_
    refine g_iload_n dX7_dunks_25 rfl rfl ?_
    refine g_icmp_gtN (tgt := 66) dX7_dunks_26 (by decide) rfl rfl (by omega) (by omega) (fun c_26 => absurd c_26 (by omega)) (fun c_26 => ?_)
    refine g_aload_n dX7_dunks_29 rfl rfl ?_
    refine g_iload_n dX7_dunks_30 rfl rfl ?_
    refine g_iload dX7_dunks_31 rfl ?_
    refine g_callVv dX7_dunks_33 mi_X7_goesBy ml_X7_202 (ct_goesBy (t := t + i) (hR.fk hF (by decide) (by decide)) ho hq hh hD h33 hki) rfl rfl rfl rfl (Nat.le_of_ble_eq_true rfl) ⟨lt_r rfl, Nat.le_of_ble_eq_true rfl⟩ (fun M33 h33 => ?_)
    obtain ⟨g1, g2, g3⟩ := h33
    have hF2 := hF.tr (g3.up (by decide) (by decide))
    have e36 : M33.1 (B + 80) 36 = M'.1 (B + 80) 36 := g3.j (by decide)
    refine g_aload_n dX7_dunks_36 rfl rfl ?_
    refine g_getI dX7_dunks_37 fl_X7_183 rfl rfl (g1.2.2.2) ?_
    refine g_if_leN (tgt := 60) dX7_dunks_40 (by decide) rfl (by omega) (fun c_40 => ?_) (fun c_40 => ?_)
    · refine g_iinc dX7_dunks_60 rfl (inc_nI _) rfl ?_
      refine g_goto (tgt := 23) dX7_dunks_63 (by decide) ?_
      first | (have hz : (sec (sBs s q).1 (sBs s q).2.1 h (t + i + 1) (runD (sBs s q).1 (sBs s q).2.1 h t D0 i)).2.2.2.1 = 0 := by omega); exact g_le (lvLe_c rfl (lvLe_c rfl (lvLe_c rfl (lvLe_c rfl (lvLe_c rfl (lvLe_c rfl lvLe_0)))))) (ih2 M33 g1 g2 (fun z => by rw [e36, fb_0 hki hks hz]; exact h36 z) hF2) | (have hz : ¬ (sec (sBs s q).1 (sBs s q).2.1 h (t + i + 1) (runD (sBs s q).1 (sBs s q).2.1 h t D0 i)).2.2.2.1 = 0 := by omega); first | (have c9 : ¬ M'.1 (B + 80) 36 = -1 := c_48; exact g_le (lvLe_c rfl (lvLe_c rfl (lvLe_c rfl (lvLe_c rfl (lvLe_c rfl (lvLe_c rfl lvLe_0)))))) (ih2 M33 g1 g2 (fun z => by have z2 := h36 z; rw [e36, fb_1 hki (fun z3 => c9 (by rw [z2, z3]; rfl))]; exact z2) hF2)) | exact g_le (lvLe_c rfl (lvLe_c rfl (lvLe_c rfl (lvLe_c rfl (lvLe_c rfl (lvLe_c rfl lvLe_0)))))) (ih2 _ (g1.fk (Fk.pj (by decide) : Fk B M33 _ [] [36]) (by decide) (by decide)) (by rw [upI_k (by decide)]; exact g2) (fun z => by have z2 := h36 z; rw [upI_s, fb_2 hki hz (Classical.byContradiction (fun z3 => by rw [show M'.1 (B + 80) 36 = -1 from c_48] at z2; unfold brkI at z2; rw [if_neg z3] at z2; exact nI_nm1 hfb z2.symm))]; rfl) (hF2.tr (Fk.pj (by decide))))
    · refine g_aload_n dX7_dunks_43 rfl rfl ?_
      refine g_getI dX7_dunks_44 fl_X7_186 rfl rfl (e36) ?_
      refine g_iconst dX7_dunks_47 kI_m1 ?_
      refine g_icmp_ne (tgt := 60) dX7_dunks_48 (by decide) (fun c_48 => ?_) (fun c_48 => ?_)
      · refine g_iinc dX7_dunks_60 rfl (inc_nI _) rfl ?_
        refine g_goto (tgt := 23) dX7_dunks_63 (by decide) ?_
        first | (have hz : (sec (sBs s q).1 (sBs s q).2.1 h (t + i + 1) (runD (sBs s q).1 (sBs s q).2.1 h t D0 i)).2.2.2.1 = 0 := by omega); exact g_le (lvLe_c rfl (lvLe_c rfl (lvLe_c rfl (lvLe_c rfl (lvLe_c rfl (lvLe_c rfl lvLe_0)))))) (ih2 M33 g1 g2 (fun z => by rw [e36, fb_0 hki hks hz]; exact h36 z) hF2) | (have hz : ¬ (sec (sBs s q).1 (sBs s q).2.1 h (t + i + 1) (runD (sBs s q).1 (sBs s q).2.1 h t D0 i)).2.2.2.1 = 0 := by omega); first | (have c9 : ¬ M'.1 (B + 80) 36 = -1 := c_48; exact g_le (lvLe_c rfl (lvLe_c rfl (lvLe_c rfl (lvLe_c rfl (lvLe_c rfl (lvLe_c rfl lvLe_0)))))) (ih2 M33 g1 g2 (fun z => by have z2 := h36 z; rw [e36, fb_1 hki (fun z3 => c9 (by rw [z2, z3]; rfl))]; exact z2) hF2)) | exact g_le (lvLe_c rfl (lvLe_c rfl (lvLe_c rfl (lvLe_c rfl (lvLe_c rfl (lvLe_c rfl lvLe_0)))))) (ih2 _ (g1.fk (Fk.pj (by decide) : Fk B M33 _ [] [36]) (by decide) (by decide)) (by rw [upI_k (by decide)]; exact g2) (fun z => by have z2 := h36 z; rw [upI_s, fb_2 hki hz (Classical.byContradiction (fun z3 => by rw [show M'.1 (B + 80) 36 = -1 from c_48] at z2; unfold brkI at z2; rw [if_neg z3] at z2; exact nI_nm1 hfb z2.symm))]; rfl) (hF2.tr (Fk.pj (by decide))))
      · refine g_aload_n dX7_dunks_51 rfl rfl ?_
        refine g_iload dX7_dunks_52 rfl ?_
        refine g_iload dX7_dunks_54 rfl ?_
        refine g_iadd dX7_dunks_56 (nI_add _ _) ?_
        refine g_putI dX7_dunks_57 fp_X7_186 rfl rfl ?_
        refine g_iinc dX7_dunks_60 rfl (inc_nI _) rfl ?_
        refine g_goto (tgt := 23) dX7_dunks_63 (by decide) ?_
        first | (have hz : (sec (sBs s q).1 (sBs s q).2.1 h (t + i + 1) (runD (sBs s q).1 (sBs s q).2.1 h t D0 i)).2.2.2.1 = 0 := by omega); exact g_le (lvLe_c rfl (lvLe_c rfl (lvLe_c rfl (lvLe_c rfl (lvLe_c rfl (lvLe_c rfl lvLe_0)))))) (ih2 M33 g1 g2 (fun z => by rw [e36, fb_0 hki hks hz]; exact h36 z) hF2) | (have hz : ¬ (sec (sBs s q).1 (sBs s q).2.1 h (t + i + 1) (runD (sBs s q).1 (sBs s q).2.1 h t D0 i)).2.2.2.1 = 0 := by omega); first | (have c9 : ¬ M'.1 (B + 80) 36 = -1 := c_48; exact g_le (lvLe_c rfl (lvLe_c rfl (lvLe_c rfl (lvLe_c rfl (lvLe_c rfl (lvLe_c rfl lvLe_0)))))) (ih2 M33 g1 g2 (fun z => by have z2 := h36 z; rw [e36, fb_1 hki (fun z3 => c9 (by rw [z2, z3]; rfl))]; exact z2) hF2)) | exact g_le (lvLe_c rfl (lvLe_c rfl (lvLe_c rfl (lvLe_c rfl (lvLe_c rfl (lvLe_c rfl lvLe_0)))))) (ih2 _ (g1.fk (Fk.pj (by decide) : Fk B M33 _ [] [36]) (by decide) (by decide)) (by rw [upI_k (by decide)]; exact g2) (fun z => by have z2 := h36 z; rw [upI_s, fb_2 hki hz (Classical.byContradiction (fun z3 => by rw [show M'.1 (B + 80) 36 = -1 from c_48] at z2; unfold brkI at z2; rw [if_neg z3] at z2; exact nI_nm1 hfb z2.symm))]; rfl) (hF2.tr (Fk.pj (by decide))))
theorem ct_dunks {s : St} {q d n h t : Nat} {x t0 : Int32} {f : Bool} {D : Dk} (hx : x = nI t) (hR : RN B M s) (ho : okSt s) (hq : q < sCn s) (hh : h < 2 ^ 31) (hD : RDc B M t0 D) (h36 : f = true → M.1 (B + 80) 36 = brkI D.2.2.2.2.2) (hk : okD (sBs s q).1 (sBs s q).2.1 t D) (hd : d ≤ 12) (hn : n ≤ 60) (ht : t ≤ 1000) :
    Ct E B yX7_dunks cX7_dunks 7 none 3 [.ref (B + 80), .int (nI q), .int (nI d), .int (nI n), .int (nI h), .int x] M (Rv (fun M2 => RDc B M2 t0 (runD (sBs s q).1 (sBs s q).2.1 h t (entD d D) n) ∧ (f = true → M2.1 (B + 80) 36 = brkI (runD (sBs s q).1 (sBs s q).2.1 h t (entD d D) n).2.2.2.2.2) ∧ Fk B M M2 dA dJ)) := by
  subst hx
  have hcn := ho.2.2.1
  have k3 : D.1 ≤ 12 := hk.1.2.2.1
  refine Ct.of2 (own := RX7) (lv := [(0, .ref (B + 80)), (1, .int (nI q)), (2, .int (nI d)), (3, .int (nI n)), (4, .int (nI h)), (5, .int (nI t))]) pn_X7 rfl (Nat.le_of_ble_eq_true rfl) rfl ?_
  refine g_aload_n dX7_dunks_0 rfl rfl ?_
  refine g_iload_n dX7_dunks_1 rfl rfl ?_
  refine g_aload_n dX7_dunks_2 rfl rfl ?_
  refine g_getI dX7_dunks_3 fl_X7_177 rfl rfl (hD.1) ?_
  refine g_icmp_geN (tgt := 13) dX7_dunks_6 (by decide) rfl rfl (by omega) (by omega) (fun c_6 => ?_) (fun c_6 => ?_)
  · refine g_aload_n dX7_dunks_13 rfl rfl ?_
    refine g_getI dX7_dunks_14 fl_X7_177 rfl rfl (hD.1) ?_
    refine g_putI dX7_dunks_17 fp_X7_196 rfl rfl ?_
    refine g_iconst dX7_dunks_20 kI_1 ?_
    refine g_istore dX7_dunks_21 (lt_r rfl) rfl ?_
    have e33 : (min d D.1 : Nat) = (entD d D).2.2.1 := rfl
    first | exact g_le (lvLe_c rfl (lvLe_c rfl (lvLe_c rfl (lvLe_c rfl (lvLe_c rfl (lvLe_c rfl lvLe_0)))))) (lp_dunks (D0 := entD d D) hR ho hq hh (ent_ok hk) hn ht n 0 rfl _ (RDc.fk hD (Fk.pj (by decide) : Fk B M _ [] [33]) (by decide) (by decide)) (by rw [upI_s]; exact congrArg nI (by show _ = min d D.1; omega)) (fun z => by rw [upI_k (by decide)]; exact h36 z) (Fk.pj (by decide)))
  · refine g_iload_n dX7_dunks_9 rfl rfl ?_
    refine g_goto (tgt := 17) dX7_dunks_10 (by decide) ?_
    refine g_putI dX7_dunks_17 fp_X7_196 rfl rfl ?_
    refine g_iconst dX7_dunks_20 kI_1 ?_
    refine g_istore dX7_dunks_21 (lt_r rfl) rfl ?_
    have e33 : (min d D.1 : Nat) = (entD d D).2.2.1 := rfl
    first | exact g_le (lvLe_c rfl (lvLe_c rfl (lvLe_c rfl (lvLe_c rfl (lvLe_c rfl (lvLe_c rfl lvLe_0)))))) (lp_dunks (D0 := entD d D) hR ho hq hh (ent_ok hk) hn ht n 0 rfl _ (RDc.fk hD (Fk.pj (by decide) : Fk B M _ [] [33]) (by decide) (by decide)) (by rw [upI_s]; exact congrArg nI (by show _ = min d D.1; omega)) (fun z => by rw [upI_k (by decide)]; exact h36 z) (Fk.pj (by decide)))
theorem ct_tries {s : St} {q d n c h : Nat} (hR : RN B M s) (ho : okSt s) (hq : q < sCn s) (hh : h < 2 ^ 31) (hd : d ≤ 12) (hn : n ≤ 60) (hc : c ≤ 60) :
    Ct E B yX7_tries cX7_tries 6 none 4 [.ref (B + 80), .int (nI q), .int (nI d), .int (nI n), .int (nI c), .int (nI h)] M (Rv (fun M2 => RDc B M2 (nI 0) (dunkD (sBs s q) h d n c) ∧ M2.1 (B + 80) 36 = brkI (dunkD (sBs s q) h d n c).2.2.2.2.2 ∧ Fk B M M2 dA dJ)) := by
  have hob := ho.1 q hq
  refine Ct.of2 (own := RX7) (lv := [(0, .ref (B + 80)), (1, .int (nI q)), (2, .int (nI d)), (3, .int (nI n)), (4, .int (nI c)), (5, .int (nI h))]) pn_X7 rfl (Nat.le_of_ble_eq_true rfl) rfl ?_
  refine g_aload_n dX7_tries_0 rfl rfl ?_
  refine g_iload_n dX7_tries_1 rfl rfl ?_
  refine g_callVv dX7_tries_2 mi_X7_lays ml_X7_206 (ct_lays hR ho hq) rfl rfl rfl rfl (Nat.le_of_ble_eq_true rfl) ⟨lt_r rfl, Nat.le_of_ble_eq_true rfl⟩ (fun M2 h2 => ?_)
  obtain ⟨a1, a2, a3⟩ := h2
  refine g_aload_n dX7_tries_5 rfl rfl ?_
  refine g_iload_n dX7_tries_6 rfl rfl ?_
  refine g_iload_n dX7_tries_7 rfl rfl ?_
  refine g_iload_n dX7_tries_8 rfl rfl ?_
  refine g_iload dX7_tries_9 rfl ?_
  refine g_iconst dX7_tries_11 kI_0 ?_
  refine g_callVv dX7_tries_12 mi_X7_dunks ml_X7_210 (ct_dunks (t := 0) (f := true) rfl (hR.fk a3 (by decide) (by decide)) ho hq hh a1 (fun _ => a2) (new_ok hob) hd hn (by decide)) rfl rfl rfl rfl (Nat.le_of_ble_eq_true rfl) ⟨lt_r rfl, Nat.le_of_ble_eq_true rfl⟩ (fun M12 h12 => ?_)
  obtain ⟨b1, b2, b3⟩ := h12
  have hF := a3.tr b3
  refine g_aload_n dX7_tries_15 rfl rfl ?_
  refine g_iload_n dX7_tries_16 rfl rfl ?_
  refine g_iconst dX7_tries_17 kI_0 ?_
  refine g_iload dX7_tries_18 rfl ?_
  refine g_iload dX7_tries_20 rfl ?_
  refine g_iload_n dX7_tries_22 rfl rfl ?_
  refine g_callVv dX7_tries_23 mi_X7_dunks ml_X7_210 (ct_dunks (d := 0) (t := 0 + n) (f := true) (by rw [Nat.zero_add]) (hR.fk hF (by decide) (by decide)) ho hq hh b1 b2 (dipD_ok (h := h) (d := d) (s := n) hob) (by decide) hc (by omega)) rfl rfl rfl rfl (Nat.le_of_ble_eq_true rfl) ⟨lt_r rfl, Nat.le_of_ble_eq_true rfl⟩ (fun M23 h23 => ?_)
  refine g_vret dX7_tries_26 ⟨rfl, ?_⟩
  obtain ⟨c1, c2, c3⟩ := h23
  exact ⟨c1, c2 rfl, hF.tr c3⟩
theorem ct_X7_isWhole {s : St} {q d n c : Nat} (hR : RN B M s) (ho : okSt s) (hq : q < sCn s) (hd : d ≤ 12) (hn : n ≤ 60) (hc : c ≤ 60) :
    Ct E B yX7_isWhole cX7_isWhole 5 (some .boolean) 5 [.ref (B + 80), .int (nI q), .int (nI d), .int (nI n), .int (nI c)] M (Ri (fun r M2 => r = bp ((dunkD (sBs s q) (sHt s) d n c).2.2.2.1 = 0) ∧ Fk B M M2 dA dJ)) := by
  have hh := ho.2.2.2.1
  have hk := dunk_ok (h := sHt s) (d := d) (s := n) (c := c) (ho.1 q hq)
  have hg : (dunkD (sBs s q) (sHt s) d n c).2.2.2.1 ≤ 12 := by have := hk.2.2.1; omega
  refine Ct.of2 (own := RX7) (lv := [(0, .ref (B + 80)), (1, .int (nI q)), (2, .int (nI d)), (3, .int (nI n)), (4, .int (nI c))]) pn_X7 rfl (Nat.le_of_ble_eq_true rfl) rfl ?_
  refine g_aload_n dX7_isWhole_0 rfl rfl ?_
  refine g_iload_n dX7_isWhole_1 rfl rfl ?_
  refine g_iload_n dX7_isWhole_2 rfl rfl ?_
  refine g_iload_n dX7_isWhole_3 rfl rfl ?_
  refine g_iload dX7_isWhole_4 rfl ?_
  refine g_aload_n dX7_isWhole_6 rfl rfl ?_
  refine g_getI dX7_isWhole_7 fl_X7_7 rfl rfl (hR.2.2.2.1) ?_
  refine g_callVv dX7_isWhole_10 mi_X7_tries ml_X7_230 (ct_tries hR ho hq hh hd hn hc) rfl rfl rfl rfl (Nat.le_of_ble_eq_true rfl) ⟨lt_r rfl, Nat.le_of_ble_eq_true rfl⟩ (fun M10 h10 => ?_)
  refine g_aload_n dX7_isWhole_13 rfl rfl ?_
  refine g_getI dX7_isWhole_14 fl_X7_183 rfl rfl (h10.1.2.2.2) ?_
  refine g_if_neN (tgt := 24) dX7_isWhole_17 (by decide) rfl (by omega) (fun c_17 => ?_) (fun c_17 => ?_)
  · refine g_iconst dX7_isWhole_24 kI_0 ?_
    refine g_zret dX7_isWhole_25 (by first | exact Or.inl rfl | exact Or.inr rfl | exact bp_01) ⟨_, rfl, ?_⟩
    first | exact ⟨bp_t (by omega), h10.2.2⟩ | exact ⟨bp_f (by omega), h10.2.2⟩
  · refine g_iconst dX7_isWhole_20 kI_1 ?_
    refine g_goto (tgt := 25) dX7_isWhole_21 (by decide) ?_
    refine g_zret dX7_isWhole_25 (by first | exact Or.inl rfl | exact Or.inr rfl | exact bp_01) ⟨_, rfl, ?_⟩
    first | exact ⟨bp_t (by omega), h10.2.2⟩ | exact ⟨bp_f (by omega), h10.2.2⟩
theorem lp_turnsRow {n : Nat} {w : Nat → Nat} {M1 : MM} (hn : n ≤ 12) : ∀ (m i : Nat), m + i = n / 2 → 1 ≤ n → ∀ M', Fk B M1 M' [97] [] → (∀ j, j < n → M'.1 (B + 97) j = nI (if j < i ∨ n - 1 - j < i then w (n - 1 - j) else w j)) →
    G E B cX7_turnsRow (RX7, 4, none, rmD 0, 0, 0, KM E B (Rv (fun M2 => (∀ j, j < n → M2.1 (B + 97) j = nI (turnW n w j)) ∧ Fk B M1 M2 [97] []))) 9 [(0, .ref (B + 80)), (1, .int (nI i)), (2, .int (nI (n - 1 - i)))] [] M' := by
  intro m
  induction m with
  | zero =>
    intro i h1 h2 M' hF hI
    refine g_iload_n dX7_turnsRow_9 rfl rfl ?_
    refine g_iload_n dX7_turnsRow_10 rfl rfl ?_
    refine g_icmp_geN (tgt := 49) dX7_turnsRow_11 (by decide) rfl rfl (by omega) (by omega) (fun c_11 => ?_) (fun c_11 => absurd c_11 (by omega))
    refine g_vret dX7_turnsRow_49 ⟨rfl, ?_⟩
    refine ⟨fun j hj => ?_, hF⟩
    rw [hI j hj]
    unfold turnW
    rw [if_pos hj]
    split
    · rfl
    · rw [show n - 1 - j = j by omega]
  | succ m ih =>
    intro i h1 h2 M' hF hI
    refine g_iload_n dX7_turnsRow_9 rfl rfl ?_
    refine g_iload_n dX7_turnsRow_10 rfl rfl ?_
    refine g_icmp_geN (tgt := 49) dX7_turnsRow_11 (by decide) rfl rfl (by omega) (by omega) (fun c_11 => absurd c_11 (by omega)) (fun c_11 => ?_)
    refine g_aload_n dX7_turnsRow_14 rfl rfl ?_
    refine g_getR dX7_turnsRow_15 fl_X7_75 rfl rfl ?_
    refine g_iload_n dX7_turnsRow_18 rfl rfl ?_
    refine g_iald dX7_turnsRow_19 rfl rfl (by omega) (hI i (by omega)) ?_
    refine g_istore_n dX7_turnsRow_20 rfl (lt_r rfl) rfl ?_
    refine g_aload_n dX7_turnsRow_21 rfl rfl ?_
    refine g_getR dX7_turnsRow_22 fl_X7_75 rfl rfl ?_
    refine g_iload_n dX7_turnsRow_25 rfl rfl ?_
    refine g_aload_n dX7_turnsRow_26 rfl rfl ?_
    refine g_getR dX7_turnsRow_27 fl_X7_75 rfl rfl ?_
    refine g_iload_n dX7_turnsRow_30 rfl rfl ?_
    refine g_iald dX7_turnsRow_31 rfl rfl (by omega) (hI (n - 1 - i) (by omega)) ?_
    refine g_iast dX7_turnsRow_32 rfl rfl (by omega) ?_
    refine g_aload_n dX7_turnsRow_33 rfl rfl ?_
    refine g_getR dX7_turnsRow_34 fl_X7_75 rfl rfl ?_
    refine g_iload_n dX7_turnsRow_37 rfl rfl ?_
    refine g_iload_n dX7_turnsRow_38 rfl rfl ?_
    refine g_iast dX7_turnsRow_39 rfl rfl (by omega) ?_
    refine g_iinc dX7_turnsRow_40 rfl (inc_nI _) rfl ?_
    refine g_iinc dX7_turnsRow_43 rfl (dec_nI (by omega)) rfl ?_
    refine g_goto (tgt := 9) dX7_turnsRow_46 (by decide) ?_
    exact g_le (lvLe_c rfl (lvLe_c rfl (lvLe_c (by show some (Value.int (nI (n - 1 - i - 1))) = _; rw [show n - 1 - i - 1 = n - 1 - (i + 1) by omega]) lvLe_0))) (ih (i + 1) (by omega) h2 _ ((hF.tr (Fk.pi (by decide) (by decide))).tr (Fk.pi (by decide) (by decide))) (fun j hj => by
      rw [upI_at, upI_at, hI j hj]
      by_cases e1 : j = n - 1 - i
      · rw [if_pos e1, if_neg (by omega), if_pos (by omega), show n - 1 - j = i by omega]
      · rw [if_neg e1]
        by_cases e2 : j = i
        · rw [if_pos e2, if_neg (by omega), if_pos (by omega), e2]
        · rw [if_neg e2]
          by_cases e3 : j < i ∨ n - 1 - j < i
          · rw [if_pos e3, if_pos (by omega)]
          · rw [if_neg e3, if_neg (by omega)]))
theorem ct_turnsRow {n : Nat} {w : Nat → Nat} (hn : n ≤ 12) (h32 : M.1 (B + 80) 32 = nI n) (hw : ∀ j, j < n → M.1 (B + 97) j = nI (w j)) : Ct E B yX7_turnsRow cX7_turnsRow 4 none 0 [.ref (B + 80)] M (Rv (fun M2 => (∀ j, j < n → M2.1 (B + 97) j = nI (turnW n w j)) ∧ Fk B M M2 [97] [])) := by
  refine Ct.of2 (own := RX7) (lv := [(0, .ref (B + 80))]) pn_X7 rfl (Nat.le_of_ble_eq_true rfl) rfl ?_
  by_cases h0 : n = 0
  · subst h0
    refine g_iconst dX7_turnsRow_0 kI_0 ?_
    refine g_istore_n dX7_turnsRow_1 rfl (lt_r rfl) rfl ?_
    refine g_aload_n dX7_turnsRow_2 rfl rfl ?_
    refine g_getI dX7_turnsRow_3 fl_X7_177 rfl rfl (h32) ?_
    refine g_iconst dX7_turnsRow_6 kI_1 ?_
    refine g_isub dX7_turnsRow_7 ((by decide : nI 0 - nI 1 = (-1 : Int32))) ?_
    refine g_istore_n dX7_turnsRow_8 rfl (lt_r rfl) rfl ?_
    refine g_iload_n dX7_turnsRow_9 rfl rfl ?_
    refine g_iload_n dX7_turnsRow_10 rfl rfl ?_
    refine g_icmp_ge (tgt := 49) dX7_turnsRow_11 (by decide) (fun c_11 => ?_) (fun c_11 => absurd (show (-1 : Int32) ≤ nI 0 by decide) c_11)
    refine g_vret dX7_turnsRow_49 ⟨rfl, ?_⟩
    exact ⟨fun j hj => absurd hj (Nat.not_lt_zero j), Fk.rf⟩
  · refine g_iconst dX7_turnsRow_0 kI_0 ?_
    refine g_istore_n dX7_turnsRow_1 rfl (lt_r rfl) rfl ?_
    refine g_aload_n dX7_turnsRow_2 rfl rfl ?_
    refine g_getI dX7_turnsRow_3 fl_X7_177 rfl rfl (h32) ?_
    refine g_iconst dX7_turnsRow_6 kI_1 ?_
    refine g_isub dX7_turnsRow_7 (pk_sub (by omega)) ?_
    refine g_istore_n dX7_turnsRow_8 rfl (lt_r rfl) rfl ?_
    exact g_le (lvLe_c rfl (lvLe_c rfl (lvLe_c rfl lvLe_0))) (lp_turnsRow hn (n / 2) 0 rfl (by omega) M Fk.rf (fun j hj => by rw [if_neg (by omega)]; exact hw j hj))
theorem RDc.turn {M2 : MM} {t0 : Int32} {D : Dk} (h : RDc B M t0 D) (h2 : ∀ j, j < D.1 → M2.1 (B + 97) j = nI (turnW D.1 D.2.1 j)) (hF : Fk B M M2 [97] []) : RDc B M2 t0 (turnD D) := ⟨(hF.j (by decide)).trans h.1, h2, (hF.j (by decide)).trans h.2.2.1, (hF.j (by decide)).trans h.2.2.2⟩
end X7E
