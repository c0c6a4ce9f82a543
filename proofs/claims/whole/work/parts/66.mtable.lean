/-! the model: table -/
abbrev tbA : List Nat := [82, 83, 84, 85, 86, 94, 95, 97, 98]
abbrev tbJ : List Nat := [0, 1, 2, 3, 4, 5, 6, 7, 8, 23, 24, 25, 26, 27, 32, 33, 34, 35, 36]
theorem RM.tb {B : Nat} {M M' : MM} {y : Sys} {s : St} {f : Int32} (h : RM B M y) (hF : Fk B M M' tbA tbJ) (hs : RN B M' s) (h8' : M'.1 (B + 80) 8 = f) : RM B M' (setN (setF y f) s) := by
  obtain ⟨h1, h2, h3, h4, h5, h6, h7, h8⟩ := h
  exact ⟨fun q hq => (h1 q hq).fk hF (by decide), hs, fun hb => (h3 hb).eq (hF.i (by decide) (by decide)), (hF.j (by decide)).trans h4, h8', fun j hj => by rw [hF.i (by decide) (by decide)]; exact h6 j hj, h7.fk hF (by decide) (by decide), fun j hj => by rw [hF.i (by decide) (by decide)]; exact h8 j hj⟩
def resT (y : Sys) (R : Bool × Nat × Nat × St) : Int32 × Sys := if R.1 = true then (nI R.2.2.1, setN (setF y (-1)) R.2.2.2) else rz (setF y (nI R.2.1)) 6
theorem resT_t {y : Sys} {R : Bool × Nat × Nat × St} (h : R.1 = true) : resT y R = (nI R.2.2.1, setN (setF y (-1)) R.2.2.2) := if_pos h
theorem resT_f {y : Sys} {R : Bool × Nat × Nat × St} (h : R.1 = false) : resT y R = rz (setF y (nI R.2.1)) 6 := if_neg (by rw [h]; decide)
section X7T
variable {E : EE} {B : Nat} {M : MM}
theorem tl_mt140 {y : Sys} {p : Nat} {R : Bool × Nat × Nat × St} {M0 : MM} (h : RM B M0 y) (ho : okY y) (hF : Fk B M0 M tbA tbJ) (hK : RK B M 95 (yN y)) (h27 : M.1 (B + 80) 27 = nI p) (hR : R.1 = false) (hp : R.2.1 = p) :
    G E B cX7_table (RX7, 5, some .int, rmD 7, 0, 0, KM E B (QM B M0 (resT y R))) 140 [(0, .ref (B + 80))] [] M := by
  rw [resT_f hR, hp]
  refine g_aload_n dX7_table_140 rfl rfl ?_
  refine g_aload_n dX7_table_141 rfl rfl ?_
  refine g_getR dX7_table_142 fl_X7_69 rfl rfl ?_
  refine g_iconst dX7_table_145 kI_1 ?_
  refine g_callVv dX7_table_146 mi_X7_all ml_X7_170 (ct_allB_95 hK ho.2.1) rfl rfl rfl rfl (Nat.le_of_ble_eq_true rfl) ⟨lt_r rfl, Nat.le_of_ble_eq_true rfl⟩ (fun M146 h146 => ?_)
  obtain ⟨a1, a2⟩ := h146
  have hF2 := hF.tr (a2.up (by decide) (by decide))
  refine g_aload_n dX7_table_149 rfl rfl ?_
  refine g_aload_n dX7_table_150 rfl rfl ?_
  refine g_getI dX7_table_151 fl_X7_116 rfl rfl ((a2.j (by decide)).trans h27) ?_
  refine g_putI dX7_table_154 fp_X7_22 rfl rfl ?_
  have hF3 : Fk B M0 (upI M146 (B + 80) 8 (nI p)) tbA tbJ := hF2.tr (Fk.pj (by decide))
  have hM : RM B (upI M146 (B + 80) 8 (nI p)) (setF y (nI p)) := h.tb (s := yN y) hF3 (a1.fk (Fk.pj (by decide) : Fk B M146 _ [] [8]) (by decide) (by decide)) upI_s
  refine g_aload_n dX7_table_157 rfl rfl ?_
  refine g_bipush dX7_table_158 kB_m6 ?_
  refine g_callVi dX7_table_160 mi_X7_no ml_X7_100 (ct_no (w := 6) hM (by decide) (by decide)) rfl rfl rfl rfl (Nat.le_of_ble_eq_true rfl) ⟨lt_r rfl, Nat.le_of_ble_eq_true rfl⟩ (fun x160 M160 h160 => ?_)
  refine g_iret dX7_table_163 ⟨_, rfl, ?_⟩
  exact ⟨h160.1, h160.2.1, (hF3.sm (by decide)).tr (h160.2.2.sm (by decide))⟩
theorem tl_mt62f {y : Sys} {p n : Nat} {R : Bool × Nat × Nat × St} {M0 : MM} (h : RM B M0 y) (ho : okY y) (hF : Fk B M0 M tbA tbJ) (hK : RK B M 95 (yN y)) (h27 : M.1 (B + 80) 27 = nI p) (hR : R.1 = false) (hp : R.2.1 = p) :
    G E B cX7_table (RX7, 5, some .int, rmD 7, 0, 0, KM E B (QM B M0 (resT y R))) 62 [(0, .ref (B + 80)), (3, .int (nI n)), (4, .int (nI 0))] [] M := by
  refine g_iload dX7_table_62 rfl ?_
  refine g_if_eqN (tgt := 133) dX7_table_64 (by decide) rfl (by omega) (fun c_64 => ?_) (fun c_64 => absurd c_64 (by omega))
  refine g_iload dX7_table_133 rfl ?_
  refine g_if_eqN (tgt := 140) dX7_table_135 (by decide) rfl (by omega) (fun c_135 => ?_) (fun c_135 => absurd c_135 (by omega))
  exact g_le (lvLe_c rfl lvLe_0) (tl_mt140 h ho hF hK h27 hR hp)
theorem lp_mtable {y : Sys} {T : Tx} {q : Nat} {R : Bool × Nat × Nat × St} {M0 : MM} (h : RM B M0 y) (ho : okY y) (hq : q < 8) (hT : T.1 ≤ 160) : ∀ (m it p : Nat) (s : St), 318 ≤ p + 2 * m → p ≤ 160 → okSt s → readF T (m + 1) it p s = R → ∀ (M1 M' : MM) (x4 : Int32), QIm B M1 (itemF T s p) x4 M' → RXm B M1 q T → Fk B M0 M1 tbA tbJ → RK B M1 95 (yN y) → M1.1 (B + 80) 8 = -1 →
    G E B cX7_table (RX7, 5, some .int, rmD 7, 0, 0, KM E B (QM B M0 (resT y R))) 62 [(0, .ref (B + 80)), (3, .int (nI (it + 1))), (4, .int x4)] [] M' := by
  intro m
  induction m with
  | zero =>
    intro it p s h1 h2
    omega
  | succ m ih =>
    intro it p s h1 h2 hs hR M1 M' x4 hQ hX hF hK h8
    obtain ⟨q1, q2, q3⟩ := hQ
    have hF2 : Fk B M0 M' tbA tbJ := hF.tr (q3.up (by decide) (by decide))
    have hK2 : RK B M' 95 (yN y) := hK.eq (q3.i (by decide) (by decide))
    have hX2 : RXm B M' q T := hX.fk q3 (by decide) (by decide)
    have h82 : M'.1 (B + 80) 8 = -1 := (q3.j (by decide)).trans h8
    have hio := item_ok (T := T) (p := p) hs
    rw [readF_s] at hR
    cases hI : (itemF T s p).1 with
    | false =>
      rw [if_neg (by rw [hI]; decide)] at hR
      obtain ⟨a1, a2⟩ := q2 hI
      subst a1
      subst hR
      exact tl_mt62f h ho hF2 hK2 a2 rfl rfl
    | true =>
      rw [if_pos hI] at hR
      obtain ⟨a1, a2, a3⟩ := q1 hI
      subst a1
      obtain ⟨o1, o2⟩ := hio
      have o2 := o2 hI
      generalize (itemF T s p).2.1 = p2 at hR a2 o2
      generalize (itemF T s p).2.2 = s2 at hR a3 o1
      refine g_iload dX7_table_62 rfl ?_
      refine g_if_eqN (tgt := 133) dX7_table_64 (by decide) rfl (by omega) (fun c_64 => absurd c_64 (by omega)) (fun c_64 => ?_)
      refine g_aload_n dX7_table_67 rfl rfl ?_
      refine g_getI dX7_table_68 fl_X7_119 rfl rfl (a2) ?_
      refine g_aload_n dX7_table_71 rfl rfl ?_
      refine g_getI dX7_table_72 fl_X7_122 rfl rfl (hX2.2.1) ?_
      refine g_icmp_geN (tgt := 133) dX7_table_75 (by decide) rfl rfl (by omega) (by omega) (fun c_75 => ?_) (fun c_75 => ?_)
      · refine g_iload dX7_table_133 rfl ?_
        refine g_if_eqN (tgt := 140) dX7_table_135 (by decide) rfl (by omega) (fun c_135 => absurd c_135 (by omega)) (fun c_135 => ?_)
        refine g_iload_n dX7_table_138 rfl rfl ?_
        refine g_iret dX7_table_139 ⟨_, rfl, ?_⟩
        have c9 : T.1 ≤ p2 := c_75
        rw [if_neg (by omega)] at hR
        subst hR
        rw [resT_t rfl]
        exact ⟨rfl, h.tb hF2 a3 h82, hF2.sm (by decide)⟩
      · refine g_aload_n dX7_table_78 rfl rfl ?_
        refine g_getR dX7_table_79 fl_X7_56 rfl rfl ?_
        refine g_aload_n dX7_table_82 rfl rfl ?_
        refine g_getI dX7_table_83 fl_X7_125 rfl rfl (hX2.1) ?_
        refine g_aload_n dX7_table_86 rfl rfl ?_
        refine g_getI dX7_table_87 fl_X7_119 rfl rfl (a2) ?_
        refine g_iadd dX7_table_90 (nI_add _ _) ?_
        refine g_lald dX7_table_91 rfl rfl (by omega) rfl ?_
        refine g_l2i dX7_table_92 (hX2.2.2.1 p2 (by omega)) ?_
        refine g_bipush dX7_table_93 kB_59 ?_
        refine g_icmp_eq (tgt := 111) dX7_table_95 (by decide) (fun c_95 => ?_) (fun c_95 => ?_)
        · refine g_aload_n dX7_table_111 rfl rfl ?_
          refine g_dup dX7_table_112 rfl ?_
          refine g_getI dX7_table_113 fl_X7_119 rfl rfl (a2) ?_
          refine g_iconst dX7_table_116 kI_1 ?_
          refine g_iadd dX7_table_117 (nI_add _ _) ?_
          refine g_putI dX7_table_118 fp_X7_119 rfl rfl ?_
          refine g_iinc dX7_table_121 rfl (inc_nI _) rfl ?_
          refine g_aload_n dX7_table_124 rfl rfl ?_
          refine g_callVi dX7_table_125 mi_X7_item ml_X7_174 (mx_item (T := T) (s := s2) (p := p2 + 1) (hX2.fk (Fk.pj (by decide) : Fk B M' (upI M' (B + 80) 24 (nI (p2 + 1))) [] [24]) (by decide) (by decide)) hq hT (by omega) (a3.fk (Fk.pj (by decide) : Fk B M' (upI M' (B + 80) 24 (nI (p2 + 1))) [] [24]) (by decide) (by decide)) o1 upI_s) rfl rfl rfl rfl (Nat.le_of_ble_eq_true rfl) ⟨lt_r rfl, Nat.le_of_ble_eq_true rfl⟩ (fun x125 M125 h125 => ?_)
          refine g_istore dX7_table_128 (lt_r rfl) rfl ?_
          refine g_goto (tgt := 62) dX7_table_130 (by decide) ?_
          first | (have c9 : ¬ T.2 p2 = nI 59 := c_95; rw [if_pos c_75, if_neg (fun z => c9 (by rw [← ltr_lt (T := T) (p := p2) c_75]; exact z))] at hR; subst hR; exact g_le (lvLe_c rfl (lvLe_c rfl (lvLe_c rfl lvLe_0))) (tl_mt62f h ho (hF2.tr (Fk.pj (by decide))) (hK2.eq (by rw [upI_ap (by decide)])) upI_s rfl rfl)) | (have c9 : T.2 p2 = nI 59 := c_95; rw [if_pos c_75, if_pos (by rw [ltr_lt c_75]; exact c9)] at hR; exact g_le (lvLe_c rfl (lvLe_c rfl (lvLe_c rfl lvLe_0))) (ih (it + 1) (p2 + 1) s2 (by omega) (by omega) o1 hR _ M125 x125 h125 (hX2.fk (Fk.pj (by decide) : Fk B M' (upI M' (B + 80) 24 (nI (p2 + 1))) [] [24]) (by decide) (by decide)) (hF2.tr (Fk.pj (by decide))) (hK2.eq (by rw [upI_ap (by decide)])) (by rw [upI_k (by decide)]; exact h82)))
        · refine g_aload_n dX7_table_98 rfl rfl ?_
          refine g_aload_n dX7_table_99 rfl rfl ?_
          refine g_getI dX7_table_100 fl_X7_119 rfl rfl (a2) ?_
          refine g_callVi dX7_table_103 mi_X7_wrong ml_X7_135 (ct_wrong) rfl rfl rfl rfl (Nat.le_of_ble_eq_true rfl) ⟨lt_r rfl, Nat.le_of_ble_eq_true rfl⟩ (fun x103 M103 h103 => ?_)
          obtain ⟨rfl, rfl⟩ := h103
          refine g_istore dX7_table_106 (lt_r rfl) rfl ?_
          refine g_goto (tgt := 62) dX7_table_108 (by decide) ?_
          first | (have c9 : ¬ T.2 p2 = nI 59 := c_95; rw [if_pos c_75, if_neg (fun z => c9 (by rw [← ltr_lt (T := T) (p := p2) c_75]; exact z))] at hR; subst hR; exact g_le (lvLe_c rfl (lvLe_c rfl (lvLe_c rfl lvLe_0))) (tl_mt62f h ho (hF2.tr (Fk.pj (by decide))) (hK2.eq (by rw [upI_ap (by decide)])) upI_s rfl rfl)) | (have c9 : T.2 p2 = nI 59 := c_95; rw [if_pos c_75, if_pos (by rw [ltr_lt c_75]; exact c9)] at hR; exact g_le (lvLe_c rfl (lvLe_c rfl (lvLe_c rfl lvLe_0))) (ih (it + 1) (p2 + 1) s2 (by omega) (by omega) o1 hR _ M125 x125 h125 (hX2.fk (Fk.pj (by decide) : Fk B M' (upI M' (B + 80) 24 (nI (p2 + 1))) [] [24]) (by decide) (by decide)) (hF2.tr (Fk.pj (by decide))) (hK2.eq (by rw [upI_ap (by decide)])) (by rw [upI_k (by decide)]; exact h82)))
theorem mx_table {y : Sys} {s : Int32} (h : RM B M y) (ho : okY y) : Ct E B yX7_table cX7_table 5 (some .int) 7 [.ref (B + 80), .int s] M (QM B M (o_table y s)) := by
  have hw := whyRow_le (y := y) (s := s)
  refine Ct.of2 (own := RX7) (lv := [(0, .ref (B + 80)), (1, .int s)]) pn_X7 rfl (Nat.le_of_ble_eq_true rfl) rfl ?_
  refine g_aload_n dX7_table_0 rfl rfl ?_
  refine g_iload_n dX7_table_1 rfl rfl ?_
  refine g_callVp dX7_table_2 mi_X7_wanted ml_X7_167 (ct_X7_wanted h ho) rfl rfl rfl rfl (Nat.le_of_ble_eq_true rfl) ⟨lt_r rfl, Nat.le_of_ble_eq_true rfl⟩ ?_
  refine g_istore_n dX7_table_5 rfl (lt_r rfl) rfl ?_
  refine g_iload_n dX7_table_6 rfl rfl ?_
  refine g_if_eq (tgt := 16) dX7_table_7 (by decide) (fun c_7 => ?_) (fun c_7 => ?_)
  · have z0 : whyRow y s = 0 := (neg_nI0 (by omega)).mp c_7
    have e9 : o_table y s = resT y (readF (txOf (yH y (tn s))) 160 0 0 (yN y)) := if_neg (fun z => z z0)
    rw [e9]
    obtain ⟨d1, d2⟩ := whyRow_0 z0
    obtain ⟨q, hq, rfl, e1⟩ := in_sh d1
    rw [e1] at d2 ⊢
    obtain ⟨b1, b2, b3⟩ := (h.1 q hq).2.1 d2
    have hl := ((ho.1 q hq).2.1 d2).2
    refine g_aload_n dX7_table_16 rfl rfl ?_
    refine g_aload_n dX7_table_17 rfl rfl ?_
    refine g_getR dX7_table_18 fl_X7_69 rfl rfl ?_
    refine g_iconst dX7_table_21 kI_0 ?_
    refine g_callVv dX7_table_22 mi_X7_all ml_X7_170 (ct_allF_95 h.2.1 ho.2.1) rfl rfl rfl rfl (Nat.le_of_ble_eq_true rfl) ⟨lt_r rfl, Nat.le_of_ble_eq_true rfl⟩ (fun M22 h22 => ?_)
    obtain ⟨a1, a2⟩ := h22
    have hF1 : Fk B M M22 tbA tbJ := a2.up (by decide) (by decide)
    refine g_aload_n dX7_table_25 rfl rfl ?_
    refine g_sipush dX7_table_26 kS_160 ?_
    refine g_iload_n dX7_table_29 rfl rfl ?_
    refine g_imul dX7_table_30 (pk_mul _ _) ?_
    refine g_putI dX7_table_31 fp_X7_125 rfl rfl ?_
    refine g_aload_n dX7_table_34 rfl rfl ?_
    refine g_iconst dX7_table_35 kI_0 ?_
    refine g_putI dX7_table_36 fp_X7_119 rfl rfl ?_
    refine g_aload_n dX7_table_39 rfl rfl ?_
    refine g_aload_n dX7_table_40 rfl rfl ?_
    refine g_getR dX7_table_41 fl_X7_50 rfl rfl ?_
    refine g_iload_n dX7_table_44 rfl rfl ?_
    refine g_iald dX7_table_45 rfl rfl (by omega) ((by rw [upI_ap (by decide), upI_ap (by decide), a2.i (by decide) (by decide)]; exact b2 : _ = nI (yH y q).2.2.1)) ?_
    refine g_putI dX7_table_46 fp_X7_122 rfl rfl ?_
    refine g_aload_n dX7_table_49 rfl rfl ?_
    refine g_iconst dX7_table_50 kI_m1 ?_
    refine g_putI dX7_table_51 fp_X7_22 rfl rfl ?_
    refine g_iconst dX7_table_54 kI_1 ?_
    refine g_istore_n dX7_table_55 rfl (lt_r rfl) rfl ?_
    have hF2 : Fk B M22 (upI (upI (upI (upI M22 (B + 80) 23 (nI (160 * q))) (B + 80) 24 (nI 0)) (B + 80) 25 (nI (yH y q).2.2.1)) (B + 80) 8 (-1)) tbA tbJ := (((Fk.pj (by decide)).tr (Fk.pj (by decide))).tr (Fk.pj (by decide))).tr (Fk.pj (by decide))
    have hF3 := hF1.tr hF2
    have hXX : RXm B (upI (upI (upI (upI M22 (B + 80) 23 (nI (160 * q))) (B + 80) 24 (nI 0)) (B + 80) 25 (nI (yH y q).2.2.1)) (B + 80) 8 (-1)) q (txOf (yH y q)) := ⟨by rw [upI_k (by decide), upI_k (by decide), upI_k (by decide), upI_s], by rw [upI_k (by decide), upI_s]; rfl, fun i hi => by rw [hF3.l (by decide) (by decide), b3 i hi]; rfl, fun j hj => by rw [hF3.i (by decide) (by decide)]; exact h.2.2.2.2.2.2.2 j hj⟩
    have hNN : RN B (upI (upI (upI (upI M22 (B + 80) 23 (nI (160 * q))) (B + 80) 24 (nI 0)) (B + 80) 25 (nI (yH y q).2.2.1)) (B + 80) 8 (-1)) (yN y) := (h.2.1.fk a2 (by decide) (by decide)).fk (((((Fk.pj (by decide)).tr (Fk.pj (by decide))).tr (Fk.pj (by decide))).tr (Fk.pj (by decide))) : Fk B M22 _ [] [8, 23, 24, 25]) (by decide) (by decide)
    refine g_aload_n dX7_table_56 rfl rfl ?_
    refine g_callVi dX7_table_57 mi_X7_item ml_X7_174 (mx_item (T := txOf (yH y q)) (p := 0) hXX hq hl (by decide) hNN ho.2.1 (by rw [upI_k (by decide), upI_k (by decide), upI_s])) rfl rfl rfl rfl (Nat.le_of_ble_eq_true rfl) ⟨lt_r rfl, Nat.le_of_ble_eq_true rfl⟩ (fun x57 M57 h57 => ?_)
    refine g_istore dX7_table_60 (lt_r rfl) rfl ?_
    exact g_le (lvLe_c rfl (lvLe_c rfl (lvLe_c rfl lvLe_0))) (lp_mtable (R := readF (txOf (yH y q)) 160 0 0 (yN y)) h ho hq hl 159 0 0 (yN y) (by decide) (by decide) ho.2.1 rfl _ M57 x57 h57 hXX hF3 (a1.eq (by rw [upI_ap (by decide), upI_ap (by decide), upI_ap (by decide), upI_ap (by decide)])) upI_s)
  · refine g_aload_n dX7_table_10 rfl rfl ?_
    refine g_iload_n dX7_table_11 rfl rfl ?_
    refine g_callVi dX7_table_12 mi_X7_no ml_X7_100 (ct_no (w := whyRow y s) h rfl (by omega)) rfl rfl rfl rfl (Nat.le_of_ble_eq_true rfl) ⟨lt_r rfl, Nat.le_of_ble_eq_true rfl⟩ (fun x12 M12 h12 => ?_)
    refine g_iret dX7_table_15 ⟨_, rfl, ?_⟩
    exact QM.rf (if_pos (fun z => c_7 ((neg_nI0 (by omega)).mpr z))) h12
end X7T
