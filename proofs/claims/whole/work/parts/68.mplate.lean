/-! the model: plate -/
abbrev plA : List Nat := [97, 98, 99, 100]
abbrev plJ : List Nat := [32, 33, 34, 35, 36, 39]
def QP (B : Nat) (M0 : MM) (n k : Nat) (pre : List Nat) (st : Nat × List Nat) : MM → Prop := fun M2 => (M2.1 (B + 80) 39 = bI st.1 ∧ (¬ st.1 = 0 → ∀ i, i < n → M2.1 (B + 100) i = nI (lf st.2 i))) ∧ st.1 < 10000 ∧ (∀ i, i < k → M2.1 (B + 99) i = nI (lf pre i)) ∧ Fk B M0 M2 plA plJ
theorem lf_lt {pre : List Nat} {b i : Nat} (h : i < pre.length) : lf (pre ++ [b]) i = lf pre i := by
  unfold lf
  simp only [List.getD_eq_getElem?_getD]
  rw [List.getElem?_append_left h]
theorem lf_at {pre : List Nat} {b : Nat} : lf (pre ++ [b]) pre.length = b := by
  unfold lf
  simp [List.getD_eq_getElem?_getD]
theorem sum_app {W : Nat → Nat → Nat} {pre : List Nat} {b k : Nat} (hk : pre.length = k) : sumN (fun i => W i (lf (pre ++ [b]) i)) (k + 1) = sumN (fun i => W i (lf pre i)) k + W k b := by
  rw [sumN_s]
  subst hk
  rw [lf_at, sumN_cong (g := fun i => W i (lf pre i)) (fun i hi => by rw [lf_lt hi])]
section X7U
variable {E : EE} {B : Nat} {M : MM}
theorem lp_copyO {n k : Nat} {pre : List Nat} {M0 M1 : MM} {sm : Nat} (hn : n ≤ 5) (h0 : M1.1 (B + 80) 0 = nI n) (hO : ∀ i, i < n → M1.1 (B + 99) i = nI (lf pre i)) (h39 : M1.1 (B + 80) 39 = nI sm) (hs : sm + 1 < 10000) (hF : Fk B M0 M1 plA plJ) (hk : k = n) : ∀ (m i : Nat), m + i = n → ∀ M', Fk B M1 M' [100] [] → (∀ j, j < i → M'.1 (B + 100) j = nI (lf pre j)) →
    G E B cX7_plates (RX7, 9, none, rmD 5, 0, 0, KM E B (Rv (QP B M0 n k pre (sm + 1, pre)))) 25 [(0, .ref (B + 80)), (7, .int (nI i))] [] M' := by
  intro m
  induction m with
  | zero =>
    intro i h1 M' hG hI
    refine g_iload dX7_plates_25 rfl ?_
    refine g_aload_n dX7_plates_27 rfl rfl ?_
    refine g_getI dX7_plates_28 fl_X7_90 rfl rfl ((hG.j (by decide)).trans h0) ?_
    refine g_icmp_geN (tgt := 54) dX7_plates_31 (by decide) rfl rfl (by omega) (by omega) (fun c_31 => ?_) (fun c_31 => absurd c_31 (by omega))
    refine g_vret dX7_plates_54 ⟨rfl, ?_⟩
    exact ⟨⟨(hG.j (by decide)).trans (h39.trans (if_neg (Nat.succ_ne_zero _)).symm), fun _ j hj => hI j (by omega)⟩, hs, fun j hj => (congrFun (hG.i (by decide) (by decide)) j).trans (hO j (by omega)), hF.tr (hG.up (by decide) (by decide))⟩
  | succ m ih =>
    intro i h1 M' hG hI
    refine g_iload dX7_plates_25 rfl ?_
    refine g_aload_n dX7_plates_27 rfl rfl ?_
    refine g_getI dX7_plates_28 fl_X7_90 rfl rfl ((hG.j (by decide)).trans h0) ?_
    refine g_icmp_geN (tgt := 54) dX7_plates_31 (by decide) rfl rfl (by omega) (by omega) (fun c_31 => absurd c_31 (by omega)) (fun c_31 => ?_)
    refine g_aload_n dX7_plates_34 rfl rfl ?_
    refine g_getR dX7_plates_35 fl_X7_84 rfl rfl ?_
    refine g_iload dX7_plates_38 rfl ?_
    refine g_aload_n dX7_plates_40 rfl rfl ?_
    refine g_getR dX7_plates_41 fl_X7_81 rfl rfl ?_
    refine g_iload dX7_plates_44 rfl ?_
    refine g_iald dX7_plates_46 rfl rfl (by omega) ((congrFun (hG.i (by decide) (by decide)) i).trans (hO i (by omega))) ?_
    refine g_iast dX7_plates_47 rfl rfl (by omega) ?_
    refine g_iinc dX7_plates_48 rfl (inc_nI _) rfl ?_
    refine g_goto (tgt := 25) dX7_plates_51 (by decide) ?_
    exact g_le (lvLe_c rfl (lvLe_c rfl lvLe_0)) (ih (i + 1) (by omega) _ (hG.tr (Fk.pi (by decide) (by decide))) (fun j hj => by
      by_cases e : j = i
      · subst e; exact upI_s
      · rw [upI_k e]; exact hI j (by omega)))
theorem ct_plates_0 {y : Sys} {W : Nat → Nat → Nat} {n d s c k t sm : Nat} {x2 : Int32} {pre : List Nat} {st : Nat × List Nat} {M0 : MM} (h : RM B M0 y) (ho : okY y) (hn : n = sCn (yN y)) (hn5 : n ≤ 5) (hW : W = platW y d s c) (hd : d ≤ 12) (hs : s ≤ 60) (hc : c ≤ 60) (hk : k + 0 = n) (hlen : pre.length = k) (hx : x2 = nI t) (hm : msk pre t) (hsm : sm = sumN (fun i => W i (lf pre i)) k) (hsb : sm ≤ 1188 * k) (hQ : QP B M0 n k pre st M) :
    Ct E B yX7_plates cX7_plates 9 none 5 [.ref (B + 80), .int (nI k), .int x2, .int (nI sm), .int (nI d), .int (nI s), .int (nI c)] M (Rv (QP B M0 n k pre ((recL n 0 pre).foldl (stpL W n) st))) := by
  obtain ⟨⟨q1, q2⟩, q3, q4, q5⟩ := hQ
  have h0 : M.1 (B + 80) 0 = nI n := by rw [hn]; exact (q5.j (by decide)).trans h.2.1.2.2.1
  have ek : k = n := hk
  have e9 : (recL n 0 pre).foldl (stpL W n) st = if st.1 < sm + 1 then (sm + 1, pre) else st := by
    rw [hsm, ek]; rfl
  rw [e9]
  refine Ct.of2 (own := RX7) (lv := [(0, .ref (B + 80)), (1, .int (nI k)), (2, .int x2), (3, .int (nI sm)), (4, .int (nI d)), (5, .int (nI s)), (6, .int (nI c))]) pn_X7 rfl (Nat.le_of_ble_eq_true rfl) rfl ?_
  refine g_iload_n dX7_plates_0 rfl rfl ?_
  refine g_aload_n dX7_plates_1 rfl rfl ?_
  refine g_getI dX7_plates_2 fl_X7_90 rfl rfl (h0) ?_
  refine g_icmp_neN (tgt := 55) dX7_plates_5 (by decide) rfl rfl (by omega) (by omega) (fun c_5 => absurd ek c_5) (fun c_5 => ?_)
  refine g_iload_n dX7_plates_8 rfl rfl ?_
  refine g_aload_n dX7_plates_9 rfl rfl ?_
  refine g_getI dX7_plates_10 fl_X7_243 rfl rfl (q1) ?_
  refine g_icmp_gt (tgt := 17) dX7_plates_13 (by decide) (fun c_13 => ?_) (fun c_13 => ?_)
  · refine g_aload_n dX7_plates_17 rfl rfl ?_
    refine g_iload_n dX7_plates_18 rfl rfl ?_
    refine g_putI dX7_plates_19 fp_X7_243 rfl rfl ?_
    refine g_iconst dX7_plates_22 kI_0 ?_
    refine g_istore dX7_plates_23 (lt_r rfl) rfl ?_
    have c9 : bI st.1 < nI sm := c_13
    rw [if_pos ((bI_lt (b := st.1) (w := sm) (by omega) (by omega)).mp (Int32.not_le.mpr c9))]
    exact g_le (lvLe_c rfl (lvLe_c rfl lvLe_0)) (lp_copyO (M1 := upI M (B + 80) 39 (nI sm)) hn5 (by rw [upI_k (by decide)]; exact h0) (fun i hi => by rw [upI_ap (by decide)]; exact q4 i (by omega)) upI_s (by omega) (q5.tr (Fk.pj (by decide))) ek n 0 rfl _ Fk.rf (fun j hj => absurd hj (Nat.not_lt_zero j)))
  · refine g_vret dX7_plates_16 ⟨rfl, ?_⟩
    have c9 : ¬ bI st.1 < nI sm := c_13
    rw [if_neg (fun z => (bI_lt (b := st.1) (w := sm) (by omega) (by omega)).mpr z (Int32.not_lt.mp c9))]
    exact ⟨⟨q1, q2⟩, q3, q4, q5⟩
theorem lp_plates_1 {y : Sys} {W : Nat → Nat → Nat} {n d s c k t sm : Nat} {pre : List Nat} {st : Nat × List Nat} {M0 : MM} (h : RM B M0 y) (ho : okY y) (hn : n = sCn (yN y)) (hn5 : n ≤ 5) (hW : W = platW y d s c) (hd : d ≤ 12) (hs : s ≤ 60) (hc : c ≤ 60) (hk : k + 1 = n) (hlen : pre.length = k) (hm : msk pre t) (hsm : sm = sumN (fun i => W i (lf pre i)) k) (hsb : sm ≤ 1188 * k) : ∀ (j b : Nat), j + b = n → ∀ M', QP B M0 n k pre ((catL (fun b => if b ∈ pre then [] else recL n 0 (pre ++ [b])) b).foldl (stpL W n) st) M' →
    G E B cX7_plates (RX7, 9, none, rmD 6, 0, 0, KM E B (Rv (QP B M0 n k pre ((recL n 1 pre).foldl (stpL W n) st)))) 71 [(0, .ref (B + 80)), (1, .int (nI k)), (2, .int (nI t)), (3, .int (nI sm)), (4, .int (nI d)), (5, .int (nI s)), (6, .int (nI c)), (7, .int (nI (heatN (sHt (yN y)) (sLo (yN y)) (sSe (yN y)) (nI (k * (s + c)))))), (8, .int (nI b))] [] M' := by
  have hh := (heatN_ok (ht := sHt (yN y)) (lo := sLo (yN y)) (se := sSe (yN y)) (more := nI (k * (s + c)))).2
  intro j
  induction j with
  | zero =>
    intro b h1 M' hQ
    have h0 : M'.1 (B + 80) 0 = nI n := by rw [hn]; exact (hQ.2.2.2.j (by decide)).trans h.2.1.2.2.1
    refine g_iload dX7_plates_71 rfl ?_
    refine g_aload_n dX7_plates_73 rfl rfl ?_
    refine g_getI dX7_plates_74 fl_X7_90 rfl rfl (h0) ?_
    refine g_icmp_geN (tgt := 146) dX7_plates_77 (by decide) rfl rfl (by omega) (by omega) (fun c_77 => ?_) (fun c_77 => absurd c_77 (by omega))
    refine g_vret dX7_plates_146 ⟨rfl, ?_⟩
    rw [show recL n 1 pre = catL (fun b => if b ∈ pre then [] else recL n 0 (pre ++ [b])) n from rfl]
    rw [show b = n by omega] at hQ
    exact hQ
  | succ j ih =>
    intro b h1 M' hQ
    have ih2 := ih (b + 1) (by omega)
    have hb : b < sCn (yN y) := by omega
    rw [show catL (fun b => if b ∈ pre then [] else recL n 0 (pre ++ [b])) (b + 1) = catL (fun b => if b ∈ pre then [] else recL n 0 (pre ++ [b])) b ++ (if b ∈ pre then [] else recL n 0 (pre ++ [b])) from rfl, List.foldl_append] at ih2
    generalize (catL (fun b => if b ∈ pre then [] else recL n 0 (pre ++ [b])) b).foldl (stpL W n) st = sb at hQ ih2
    obtain ⟨⟨q1, q2⟩, q3, q4, q5⟩ := hQ
    have h0 : M'.1 (B + 80) 0 = nI n := by rw [hn]; exact (q5.j (by decide)).trans h.2.1.2.2.1
    have hbt := bit_t t hm.1 b (by omega)
    have hok := dunk_ok (h := heatN (sHt (yN y)) (sLo (yN y)) (sSe (yN y)) (nI (k * (s + c)))) (d := d) (s := s) (c := c) (ho.2.1.1 b hb)
    have hF1 : Fk B M' (upI M' (B + 99) k (nI b)) plA plJ := Fk.pi (by decide) (by decide)
    have hw9 : worthN (sWo (yN y)) (dunkD (sBs (yN y) b) (heatN (sHt (yN y)) (sLo (yN y)) (sSe (yN y)) (nI (k * (s + c)))) d s c).1 (dunkD (sBs (yN y) b) (heatN (sHt (yN y)) (sLo (yN y)) (sSe (yN y)) (nI (k * (s + c)))) d s c).2.1 = W k b := by rw [hW]; rfl
    have hw8 : W k b ≤ 1188 := by rw [hW]; exact wr_le ho hok.1.2.2.1
    have hsa := sum_app (W := W) (b := b) hlen
    by_cases hin : b ∈ pre
    · rw [if_pos hin] at ih2
      refine g_iload dX7_plates_71 rfl ?_
      refine g_aload_n dX7_plates_73 rfl rfl ?_
      refine g_getI dX7_plates_74 fl_X7_90 rfl rfl (h0) ?_
      refine g_icmp_geN (tgt := 146) dX7_plates_77 (by decide) rfl rfl (by omega) (by omega) (fun c_77 => absurd c_77 (by omega)) (fun c_77 => ?_)
      refine g_iload_n dX7_plates_80 rfl rfl ?_
      refine g_iload dX7_plates_81 rfl ?_
      refine g_ishr dX7_plates_83 rfl ?_
      refine g_iconst dX7_plates_84 kI_1 ?_
      refine g_iand dX7_plates_85 rfl ?_
      refine g_iconst dX7_plates_86 kI_1 ?_
      refine g_icmp_ne (tgt := 93) dX7_plates_87 (by decide) (fun c_87 => absurd (hbt.trans (congrArg nI ((hm.2 b (by omega)).mpr hin))) c_87) (fun c_87 => ?_)
      refine g_goto (tgt := 140) dX7_plates_90 (by decide) ?_
      refine g_iinc dX7_plates_140 rfl (inc_nI _) rfl ?_
      refine g_goto (tgt := 71) dX7_plates_143 (by decide) ?_
      exact g_le (lvLe_c rfl (lvLe_c rfl (lvLe_c rfl (lvLe_c rfl (lvLe_c rfl (lvLe_c rfl (lvLe_c rfl (lvLe_c rfl (lvLe_c rfl lvLe_0))))))))) (ih2 M' ⟨⟨q1, q2⟩, q3, q4, q5⟩)
    · rw [if_neg hin] at ih2
      obtain ⟨g1, g2⟩ := msk_add hm (show b < 5 by omega) hin
      refine g_iload dX7_plates_71 rfl ?_
      refine g_aload_n dX7_plates_73 rfl rfl ?_
      refine g_getI dX7_plates_74 fl_X7_90 rfl rfl (h0) ?_
      refine g_icmp_geN (tgt := 146) dX7_plates_77 (by decide) rfl rfl (by omega) (by omega) (fun c_77 => absurd c_77 (by omega)) (fun c_77 => ?_)
      refine g_iload_n dX7_plates_80 rfl rfl ?_
      refine g_iload dX7_plates_81 rfl ?_
      refine g_ishr dX7_plates_83 rfl ?_
      refine g_iconst dX7_plates_84 kI_1 ?_
      refine g_iand dX7_plates_85 rfl ?_
      refine g_iconst dX7_plates_86 kI_1 ?_
      refine g_icmp_ne (tgt := 93) dX7_plates_87 (by decide) (fun c_87 => ?_) (fun c_87 => absurd (show t / 2 ^ b % 2 = 1 from (nI_eq (by omega) (by decide)).mp (hbt.symm.trans c_87)) (fun z => hin ((hm.2 b (by omega)).mp z)))
      refine g_aload_n dX7_plates_93 rfl rfl ?_
      refine g_getR dX7_plates_94 fl_X7_81 rfl rfl ?_
      refine g_iload_n dX7_plates_97 rfl rfl ?_
      refine g_iload dX7_plates_98 rfl ?_
      refine g_iast dX7_plates_100 rfl rfl (by omega) ?_
      refine g_aload_n dX7_plates_101 rfl rfl ?_
      refine g_iload dX7_plates_102 rfl ?_
      refine g_iload dX7_plates_104 rfl ?_
      refine g_iload dX7_plates_106 rfl ?_
      refine g_iload dX7_plates_108 rfl ?_
      refine g_iload dX7_plates_110 rfl ?_
      refine g_callVv dX7_plates_112 mi_X7_tries ml_X7_230 (ct_tries (h.2.1.fk (q5.tr hF1) (by decide) (by decide)) ho.2.1 hb hh hd hs hc) rfl rfl rfl rfl (Nat.le_of_ble_eq_true rfl) ⟨lt_r rfl, Nat.le_of_ble_eq_true rfl⟩ (fun M112 h112 => ?_)
      obtain ⟨r1, r2, r3⟩ := h112
      have hF2 : Fk B M0 M112 plA plJ := (q5.tr hF1).tr (r3.up (by decide) (by decide))
      refine g_aload_n dX7_plates_115 rfl rfl ?_
      refine g_iload_n dX7_plates_116 rfl rfl ?_
      refine g_iconst dX7_plates_117 kI_1 ?_
      refine g_iadd dX7_plates_118 (nI_add _ _) ?_
      refine g_iload_n dX7_plates_119 rfl rfl ?_
      refine g_iconst dX7_plates_120 kI_1 ?_
      refine g_iload dX7_plates_121 rfl ?_
      refine g_ishl dX7_plates_123 rfl ?_
      refine g_ior dX7_plates_124 rfl ?_
      refine g_iload_n dX7_plates_125 rfl rfl ?_
      refine g_aload_n dX7_plates_126 rfl rfl ?_
      refine g_callVp dX7_plates_127 mi_X7_worthNow ml_X7_237 (ct_worthNow (h.2.1.fk hF2 (by decide) (by decide)) ho.2.1 hok.1.2.2.1 r1.1 r1.2.1 hok.1.2.2.2) rfl rfl rfl rfl (Nat.le_of_ble_eq_true rfl) ⟨lt_r rfl, Nat.le_of_ble_eq_true rfl⟩ ?_
      rw [hw9]
      refine g_iadd dX7_plates_130 (nI_add _ _) ?_
      refine g_iload dX7_plates_131 rfl ?_
      refine g_iload dX7_plates_133 rfl ?_
      refine g_iload dX7_plates_135 rfl ?_
      refine g_callVv dX7_plates_137 mi_X7_plates ml_X7_249 (ct_plates_0 (k := k + 1) (pre := pre ++ [b]) (st := sb) (M0 := M0) h ho hn hn5 hW hd hs hc (by omega) (by rw [List.length_append, hlen]; rfl) g1 g2 (by rw [hsa, hsm]) (by omega) ⟨⟨by rw [r3.j (by decide), upI_ap (by decide)]; exact q1, fun z i hi => by rw [r3.i (by decide) (by decide), upI_ap (by decide)]; exact q2 z i hi⟩, q3, fun i hi => by
        rw [r3.i (by decide) (by decide)]
        by_cases e : i = k
        · rw [e, upI_s, ← hlen, lf_at]
        · rw [upI_k e, lf_lt (by omega)]; exact q4 i (by omega), hF2⟩) rfl rfl rfl rfl (Nat.le_of_ble_eq_true rfl) ⟨lt_r rfl, Nat.le_of_ble_eq_true rfl⟩ (fun M137 h137 => ?_)
      refine g_iinc dX7_plates_140 rfl (inc_nI _) rfl ?_
      refine g_goto (tgt := 71) dX7_plates_143 (by decide) ?_
      obtain ⟨⟨u1, u2⟩, u3, u4, u5⟩ := h137
      exact g_le (lvLe_c rfl (lvLe_c rfl (lvLe_c rfl (lvLe_c rfl (lvLe_c rfl (lvLe_c rfl (lvLe_c rfl (lvLe_c rfl (lvLe_c rfl lvLe_0))))))))) (ih2 M137 ⟨⟨u1, u2⟩, u3, fun i hi => by rw [u4 i (by omega), lf_lt (by omega)], u5⟩)
theorem ct_plates_1 {y : Sys} {W : Nat → Nat → Nat} {n d s c k t sm : Nat} {x2 : Int32} {pre : List Nat} {st : Nat × List Nat} {M0 : MM} (h : RM B M0 y) (ho : okY y) (hn : n = sCn (yN y)) (hn5 : n ≤ 5) (hW : W = platW y d s c) (hd : d ≤ 12) (hs : s ≤ 60) (hc : c ≤ 60) (hk : k + 1 = n) (hlen : pre.length = k) (hx : x2 = nI t) (hm : msk pre t) (hsm : sm = sumN (fun i => W i (lf pre i)) k) (hsb : sm ≤ 1188 * k) (hQ : QP B M0 n k pre st M) :
    Ct E B yX7_plates cX7_plates 9 none 6 [.ref (B + 80), .int (nI k), .int x2, .int (nI sm), .int (nI d), .int (nI s), .int (nI c)] M (Rv (QP B M0 n k pre ((recL n 1 pre).foldl (stpL W n) st))) := by
  subst hx
  have h0 : M.1 (B + 80) 0 = nI n := by rw [hn]; exact (hQ.2.2.2.j (by decide)).trans h.2.1.2.2.1
  refine Ct.of2 (own := RX7) (lv := [(0, .ref (B + 80)), (1, .int (nI k)), (2, .int (nI t)), (3, .int (nI sm)), (4, .int (nI d)), (5, .int (nI s)), (6, .int (nI c))]) pn_X7 rfl (Nat.le_of_ble_eq_true rfl) rfl ?_
  refine g_iload_n dX7_plates_0 rfl rfl ?_
  refine g_aload_n dX7_plates_1 rfl rfl ?_
  refine g_getI dX7_plates_2 fl_X7_90 rfl rfl (h0) ?_
  refine g_icmp_neN (tgt := 55) dX7_plates_5 (by decide) rfl rfl (by omega) (by omega) (fun c_5 => ?_) (fun c_5 => absurd c_5 (by omega))
  refine g_aload_n dX7_plates_55 rfl rfl ?_
  refine g_iload_n dX7_plates_56 rfl rfl ?_
  refine g_iload dX7_plates_57 rfl ?_
  refine g_iload dX7_plates_59 rfl ?_
  refine g_iadd dX7_plates_61 (nI_add _ _) ?_
  refine g_imul dX7_plates_62 (pk_mul _ _) ?_
  refine g_callVp dX7_plates_63 mi_X7_heatBehind ml_X7_246 (ct_X7_heatBehind (h.2.1.fk hQ.2.2.2 (by decide) (by decide)) ho.2.1) rfl rfl rfl rfl (Nat.le_of_ble_eq_true rfl) ⟨lt_r rfl, Nat.le_of_ble_eq_true rfl⟩ ?_
  refine g_istore dX7_plates_66 (lt_r rfl) rfl ?_
  refine g_iconst dX7_plates_68 kI_0 ?_
  refine g_istore dX7_plates_69 (lt_r rfl) rfl ?_
  exact g_le (lvLe_c rfl (lvLe_c rfl (lvLe_c rfl (lvLe_c rfl (lvLe_c rfl (lvLe_c rfl (lvLe_c rfl (lvLe_c rfl (lvLe_c rfl lvLe_0))))))))) (lp_plates_1 h ho hn hn5 hW hd hs hc hk hlen hm hsm hsb n 0 rfl M hQ)
theorem lp_plates_2 {y : Sys} {W : Nat → Nat → Nat} {n d s c k t sm : Nat} {pre : List Nat} {st : Nat × List Nat} {M0 : MM} (h : RM B M0 y) (ho : okY y) (hn : n = sCn (yN y)) (hn5 : n ≤ 5) (hW : W = platW y d s c) (hd : d ≤ 12) (hs : s ≤ 60) (hc : c ≤ 60) (hk : k + 2 = n) (hlen : pre.length = k) (hm : msk pre t) (hsm : sm = sumN (fun i => W i (lf pre i)) k) (hsb : sm ≤ 1188 * k) : ∀ (j b : Nat), j + b = n → ∀ M', QP B M0 n k pre ((catL (fun b => if b ∈ pre then [] else recL n 1 (pre ++ [b])) b).foldl (stpL W n) st) M' →
    G E B cX7_plates (RX7, 9, none, rmD 7, 0, 0, KM E B (Rv (QP B M0 n k pre ((recL n 2 pre).foldl (stpL W n) st)))) 71 [(0, .ref (B + 80)), (1, .int (nI k)), (2, .int (nI t)), (3, .int (nI sm)), (4, .int (nI d)), (5, .int (nI s)), (6, .int (nI c)), (7, .int (nI (heatN (sHt (yN y)) (sLo (yN y)) (sSe (yN y)) (nI (k * (s + c)))))), (8, .int (nI b))] [] M' := by
  have hh := (heatN_ok (ht := sHt (yN y)) (lo := sLo (yN y)) (se := sSe (yN y)) (more := nI (k * (s + c)))).2
  intro j
  induction j with
  | zero =>
    intro b h1 M' hQ
    have h0 : M'.1 (B + 80) 0 = nI n := by rw [hn]; exact (hQ.2.2.2.j (by decide)).trans h.2.1.2.2.1
    refine g_iload dX7_plates_71 rfl ?_
    refine g_aload_n dX7_plates_73 rfl rfl ?_
    refine g_getI dX7_plates_74 fl_X7_90 rfl rfl (h0) ?_
    refine g_icmp_geN (tgt := 146) dX7_plates_77 (by decide) rfl rfl (by omega) (by omega) (fun c_77 => ?_) (fun c_77 => absurd c_77 (by omega))
    refine g_vret dX7_plates_146 ⟨rfl, ?_⟩
    rw [show recL n 2 pre = catL (fun b => if b ∈ pre then [] else recL n 1 (pre ++ [b])) n from rfl]
    rw [show b = n by omega] at hQ
    exact hQ
  | succ j ih =>
    intro b h1 M' hQ
    have ih2 := ih (b + 1) (by omega)
    have hb : b < sCn (yN y) := by omega
    rw [show catL (fun b => if b ∈ pre then [] else recL n 1 (pre ++ [b])) (b + 1) = catL (fun b => if b ∈ pre then [] else recL n 1 (pre ++ [b])) b ++ (if b ∈ pre then [] else recL n 1 (pre ++ [b])) from rfl, List.foldl_append] at ih2
    generalize (catL (fun b => if b ∈ pre then [] else recL n 1 (pre ++ [b])) b).foldl (stpL W n) st = sb at hQ ih2
    obtain ⟨⟨q1, q2⟩, q3, q4, q5⟩ := hQ
    have h0 : M'.1 (B + 80) 0 = nI n := by rw [hn]; exact (q5.j (by decide)).trans h.2.1.2.2.1
    have hbt := bit_t t hm.1 b (by omega)
    have hok := dunk_ok (h := heatN (sHt (yN y)) (sLo (yN y)) (sSe (yN y)) (nI (k * (s + c)))) (d := d) (s := s) (c := c) (ho.2.1.1 b hb)
    have hF1 : Fk B M' (upI M' (B + 99) k (nI b)) plA plJ := Fk.pi (by decide) (by decide)
    have hw9 : worthN (sWo (yN y)) (dunkD (sBs (yN y) b) (heatN (sHt (yN y)) (sLo (yN y)) (sSe (yN y)) (nI (k * (s + c)))) d s c).1 (dunkD (sBs (yN y) b) (heatN (sHt (yN y)) (sLo (yN y)) (sSe (yN y)) (nI (k * (s + c)))) d s c).2.1 = W k b := by rw [hW]; rfl
    have hw8 : W k b ≤ 1188 := by rw [hW]; exact wr_le ho hok.1.2.2.1
    have hsa := sum_app (W := W) (b := b) hlen
    by_cases hin : b ∈ pre
    · rw [if_pos hin] at ih2
      refine g_iload dX7_plates_71 rfl ?_
      refine g_aload_n dX7_plates_73 rfl rfl ?_
      refine g_getI dX7_plates_74 fl_X7_90 rfl rfl (h0) ?_
      refine g_icmp_geN (tgt := 146) dX7_plates_77 (by decide) rfl rfl (by omega) (by omega) (fun c_77 => absurd c_77 (by omega)) (fun c_77 => ?_)
      refine g_iload_n dX7_plates_80 rfl rfl ?_
      refine g_iload dX7_plates_81 rfl ?_
      refine g_ishr dX7_plates_83 rfl ?_
      refine g_iconst dX7_plates_84 kI_1 ?_
      refine g_iand dX7_plates_85 rfl ?_
      refine g_iconst dX7_plates_86 kI_1 ?_
      refine g_icmp_ne (tgt := 93) dX7_plates_87 (by decide) (fun c_87 => absurd (hbt.trans (congrArg nI ((hm.2 b (by omega)).mpr hin))) c_87) (fun c_87 => ?_)
      refine g_goto (tgt := 140) dX7_plates_90 (by decide) ?_
      refine g_iinc dX7_plates_140 rfl (inc_nI _) rfl ?_
      refine g_goto (tgt := 71) dX7_plates_143 (by decide) ?_
      exact g_le (lvLe_c rfl (lvLe_c rfl (lvLe_c rfl (lvLe_c rfl (lvLe_c rfl (lvLe_c rfl (lvLe_c rfl (lvLe_c rfl (lvLe_c rfl lvLe_0))))))))) (ih2 M' ⟨⟨q1, q2⟩, q3, q4, q5⟩)
    · rw [if_neg hin] at ih2
      obtain ⟨g1, g2⟩ := msk_add hm (show b < 5 by omega) hin
      refine g_iload dX7_plates_71 rfl ?_
      refine g_aload_n dX7_plates_73 rfl rfl ?_
      refine g_getI dX7_plates_74 fl_X7_90 rfl rfl (h0) ?_
      refine g_icmp_geN (tgt := 146) dX7_plates_77 (by decide) rfl rfl (by omega) (by omega) (fun c_77 => absurd c_77 (by omega)) (fun c_77 => ?_)
      refine g_iload_n dX7_plates_80 rfl rfl ?_
      refine g_iload dX7_plates_81 rfl ?_
      refine g_ishr dX7_plates_83 rfl ?_
      refine g_iconst dX7_plates_84 kI_1 ?_
      refine g_iand dX7_plates_85 rfl ?_
      refine g_iconst dX7_plates_86 kI_1 ?_
      refine g_icmp_ne (tgt := 93) dX7_plates_87 (by decide) (fun c_87 => ?_) (fun c_87 => absurd (show t / 2 ^ b % 2 = 1 from (nI_eq (by omega) (by decide)).mp (hbt.symm.trans c_87)) (fun z => hin ((hm.2 b (by omega)).mp z)))
      refine g_aload_n dX7_plates_93 rfl rfl ?_
      refine g_getR dX7_plates_94 fl_X7_81 rfl rfl ?_
      refine g_iload_n dX7_plates_97 rfl rfl ?_
      refine g_iload dX7_plates_98 rfl ?_
      refine g_iast dX7_plates_100 rfl rfl (by omega) ?_
      refine g_aload_n dX7_plates_101 rfl rfl ?_
      refine g_iload dX7_plates_102 rfl ?_
      refine g_iload dX7_plates_104 rfl ?_
      refine g_iload dX7_plates_106 rfl ?_
      refine g_iload dX7_plates_108 rfl ?_
      refine g_iload dX7_plates_110 rfl ?_
      refine g_callVv dX7_plates_112 mi_X7_tries ml_X7_230 (ct_tries (h.2.1.fk (q5.tr hF1) (by decide) (by decide)) ho.2.1 hb hh hd hs hc) rfl rfl rfl rfl (Nat.le_of_ble_eq_true rfl) ⟨lt_r rfl, Nat.le_of_ble_eq_true rfl⟩ (fun M112 h112 => ?_)
      obtain ⟨r1, r2, r3⟩ := h112
      have hF2 : Fk B M0 M112 plA plJ := (q5.tr hF1).tr (r3.up (by decide) (by decide))
      refine g_aload_n dX7_plates_115 rfl rfl ?_
      refine g_iload_n dX7_plates_116 rfl rfl ?_
      refine g_iconst dX7_plates_117 kI_1 ?_
      refine g_iadd dX7_plates_118 (nI_add _ _) ?_
      refine g_iload_n dX7_plates_119 rfl rfl ?_
      refine g_iconst dX7_plates_120 kI_1 ?_
      refine g_iload dX7_plates_121 rfl ?_
      refine g_ishl dX7_plates_123 rfl ?_
      refine g_ior dX7_plates_124 rfl ?_
      refine g_iload_n dX7_plates_125 rfl rfl ?_
      refine g_aload_n dX7_plates_126 rfl rfl ?_
      refine g_callVp dX7_plates_127 mi_X7_worthNow ml_X7_237 (ct_worthNow (h.2.1.fk hF2 (by decide) (by decide)) ho.2.1 hok.1.2.2.1 r1.1 r1.2.1 hok.1.2.2.2) rfl rfl rfl rfl (Nat.le_of_ble_eq_true rfl) ⟨lt_r rfl, Nat.le_of_ble_eq_true rfl⟩ ?_
      rw [hw9]
      refine g_iadd dX7_plates_130 (nI_add _ _) ?_
      refine g_iload dX7_plates_131 rfl ?_
      refine g_iload dX7_plates_133 rfl ?_
      refine g_iload dX7_plates_135 rfl ?_
      refine g_callVv dX7_plates_137 mi_X7_plates ml_X7_249 (ct_plates_1 (k := k + 1) (pre := pre ++ [b]) (st := sb) (M0 := M0) h ho hn hn5 hW hd hs hc (by omega) (by rw [List.length_append, hlen]; rfl) g1 g2 (by rw [hsa, hsm]) (by omega) ⟨⟨by rw [r3.j (by decide), upI_ap (by decide)]; exact q1, fun z i hi => by rw [r3.i (by decide) (by decide), upI_ap (by decide)]; exact q2 z i hi⟩, q3, fun i hi => by
        rw [r3.i (by decide) (by decide)]
        by_cases e : i = k
        · rw [e, upI_s, ← hlen, lf_at]
        · rw [upI_k e, lf_lt (by omega)]; exact q4 i (by omega), hF2⟩) rfl rfl rfl rfl (Nat.le_of_ble_eq_true rfl) ⟨lt_r rfl, Nat.le_of_ble_eq_true rfl⟩ (fun M137 h137 => ?_)
      refine g_iinc dX7_plates_140 rfl (inc_nI _) rfl ?_
      refine g_goto (tgt := 71) dX7_plates_143 (by decide) ?_
      obtain ⟨⟨u1, u2⟩, u3, u4, u5⟩ := h137
      exact g_le (lvLe_c rfl (lvLe_c rfl (lvLe_c rfl (lvLe_c rfl (lvLe_c rfl (lvLe_c rfl (lvLe_c rfl (lvLe_c rfl (lvLe_c rfl lvLe_0))))))))) (ih2 M137 ⟨⟨u1, u2⟩, u3, fun i hi => by rw [u4 i (by omega), lf_lt (by omega)], u5⟩)
theorem ct_plates_2 {y : Sys} {W : Nat → Nat → Nat} {n d s c k t sm : Nat} {x2 : Int32} {pre : List Nat} {st : Nat × List Nat} {M0 : MM} (h : RM B M0 y) (ho : okY y) (hn : n = sCn (yN y)) (hn5 : n ≤ 5) (hW : W = platW y d s c) (hd : d ≤ 12) (hs : s ≤ 60) (hc : c ≤ 60) (hk : k + 2 = n) (hlen : pre.length = k) (hx : x2 = nI t) (hm : msk pre t) (hsm : sm = sumN (fun i => W i (lf pre i)) k) (hsb : sm ≤ 1188 * k) (hQ : QP B M0 n k pre st M) :
    Ct E B yX7_plates cX7_plates 9 none 7 [.ref (B + 80), .int (nI k), .int x2, .int (nI sm), .int (nI d), .int (nI s), .int (nI c)] M (Rv (QP B M0 n k pre ((recL n 2 pre).foldl (stpL W n) st))) := by
  subst hx
  have h0 : M.1 (B + 80) 0 = nI n := by rw [hn]; exact (hQ.2.2.2.j (by decide)).trans h.2.1.2.2.1
  refine Ct.of2 (own := RX7) (lv := [(0, .ref (B + 80)), (1, .int (nI k)), (2, .int (nI t)), (3, .int (nI sm)), (4, .int (nI d)), (5, .int (nI s)), (6, .int (nI c))]) pn_X7 rfl (Nat.le_of_ble_eq_true rfl) rfl ?_
  refine g_iload_n dX7_plates_0 rfl rfl ?_
  refine g_aload_n dX7_plates_1 rfl rfl ?_
  refine g_getI dX7_plates_2 fl_X7_90 rfl rfl (h0) ?_
  refine g_icmp_neN (tgt := 55) dX7_plates_5 (by decide) rfl rfl (by omega) (by omega) (fun c_5 => ?_) (fun c_5 => absurd c_5 (by omega))
  refine g_aload_n dX7_plates_55 rfl rfl ?_
  refine g_iload_n dX7_plates_56 rfl rfl ?_
  refine g_iload dX7_plates_57 rfl ?_
  refine g_iload dX7_plates_59 rfl ?_
  refine g_iadd dX7_plates_61 (nI_add _ _) ?_
  refine g_imul dX7_plates_62 (pk_mul _ _) ?_
  refine g_callVp dX7_plates_63 mi_X7_heatBehind ml_X7_246 (ct_X7_heatBehind (h.2.1.fk hQ.2.2.2 (by decide) (by decide)) ho.2.1) rfl rfl rfl rfl (Nat.le_of_ble_eq_true rfl) ⟨lt_r rfl, Nat.le_of_ble_eq_true rfl⟩ ?_
  refine g_istore dX7_plates_66 (lt_r rfl) rfl ?_
  refine g_iconst dX7_plates_68 kI_0 ?_
  refine g_istore dX7_plates_69 (lt_r rfl) rfl ?_
  exact g_le (lvLe_c rfl (lvLe_c rfl (lvLe_c rfl (lvLe_c rfl (lvLe_c rfl (lvLe_c rfl (lvLe_c rfl (lvLe_c rfl (lvLe_c rfl lvLe_0))))))))) (lp_plates_2 h ho hn hn5 hW hd hs hc hk hlen hm hsm hsb n 0 rfl M hQ)
theorem lp_plates_3 {y : Sys} {W : Nat → Nat → Nat} {n d s c k t sm : Nat} {pre : List Nat} {st : Nat × List Nat} {M0 : MM} (h : RM B M0 y) (ho : okY y) (hn : n = sCn (yN y)) (hn5 : n ≤ 5) (hW : W = platW y d s c) (hd : d ≤ 12) (hs : s ≤ 60) (hc : c ≤ 60) (hk : k + 3 = n) (hlen : pre.length = k) (hm : msk pre t) (hsm : sm = sumN (fun i => W i (lf pre i)) k) (hsb : sm ≤ 1188 * k) : ∀ (j b : Nat), j + b = n → ∀ M', QP B M0 n k pre ((catL (fun b => if b ∈ pre then [] else recL n 2 (pre ++ [b])) b).foldl (stpL W n) st) M' →
    G E B cX7_plates (RX7, 9, none, rmD 8, 0, 0, KM E B (Rv (QP B M0 n k pre ((recL n 3 pre).foldl (stpL W n) st)))) 71 [(0, .ref (B + 80)), (1, .int (nI k)), (2, .int (nI t)), (3, .int (nI sm)), (4, .int (nI d)), (5, .int (nI s)), (6, .int (nI c)), (7, .int (nI (heatN (sHt (yN y)) (sLo (yN y)) (sSe (yN y)) (nI (k * (s + c)))))), (8, .int (nI b))] [] M' := by
  have hh := (heatN_ok (ht := sHt (yN y)) (lo := sLo (yN y)) (se := sSe (yN y)) (more := nI (k * (s + c)))).2
  intro j
  induction j with
  | zero =>
    intro b h1 M' hQ
    have h0 : M'.1 (B + 80) 0 = nI n := by rw [hn]; exact (hQ.2.2.2.j (by decide)).trans h.2.1.2.2.1
    refine g_iload dX7_plates_71 rfl ?_
    refine g_aload_n dX7_plates_73 rfl rfl ?_
    refine g_getI dX7_plates_74 fl_X7_90 rfl rfl (h0) ?_
    refine g_icmp_geN (tgt := 146) dX7_plates_77 (by decide) rfl rfl (by omega) (by omega) (fun c_77 => ?_) (fun c_77 => absurd c_77 (by omega))
    refine g_vret dX7_plates_146 ⟨rfl, ?_⟩
    rw [show recL n 3 pre = catL (fun b => if b ∈ pre then [] else recL n 2 (pre ++ [b])) n from rfl]
    rw [show b = n by omega] at hQ
    exact hQ
  | succ j ih =>
    intro b h1 M' hQ
    have ih2 := ih (b + 1) (by omega)
    have hb : b < sCn (yN y) := by omega
    rw [show catL (fun b => if b ∈ pre then [] else recL n 2 (pre ++ [b])) (b + 1) = catL (fun b => if b ∈ pre then [] else recL n 2 (pre ++ [b])) b ++ (if b ∈ pre then [] else recL n 2 (pre ++ [b])) from rfl, List.foldl_append] at ih2
    generalize (catL (fun b => if b ∈ pre then [] else recL n 2 (pre ++ [b])) b).foldl (stpL W n) st = sb at hQ ih2
    obtain ⟨⟨q1, q2⟩, q3, q4, q5⟩ := hQ
    have h0 : M'.1 (B + 80) 0 = nI n := by rw [hn]; exact (q5.j (by decide)).trans h.2.1.2.2.1
    have hbt := bit_t t hm.1 b (by omega)
    have hok := dunk_ok (h := heatN (sHt (yN y)) (sLo (yN y)) (sSe (yN y)) (nI (k * (s + c)))) (d := d) (s := s) (c := c) (ho.2.1.1 b hb)
    have hF1 : Fk B M' (upI M' (B + 99) k (nI b)) plA plJ := Fk.pi (by decide) (by decide)
    have hw9 : worthN (sWo (yN y)) (dunkD (sBs (yN y) b) (heatN (sHt (yN y)) (sLo (yN y)) (sSe (yN y)) (nI (k * (s + c)))) d s c).1 (dunkD (sBs (yN y) b) (heatN (sHt (yN y)) (sLo (yN y)) (sSe (yN y)) (nI (k * (s + c)))) d s c).2.1 = W k b := by rw [hW]; rfl
    have hw8 : W k b ≤ 1188 := by rw [hW]; exact wr_le ho hok.1.2.2.1
    have hsa := sum_app (W := W) (b := b) hlen
    by_cases hin : b ∈ pre
    · rw [if_pos hin] at ih2
      refine g_iload dX7_plates_71 rfl ?_
      refine g_aload_n dX7_plates_73 rfl rfl ?_
      refine g_getI dX7_plates_74 fl_X7_90 rfl rfl (h0) ?_
      refine g_icmp_geN (tgt := 146) dX7_plates_77 (by decide) rfl rfl (by omega) (by omega) (fun c_77 => absurd c_77 (by omega)) (fun c_77 => ?_)
      refine g_iload_n dX7_plates_80 rfl rfl ?_
      refine g_iload dX7_plates_81 rfl ?_
      refine g_ishr dX7_plates_83 rfl ?_
      refine g_iconst dX7_plates_84 kI_1 ?_
      refine g_iand dX7_plates_85 rfl ?_
      refine g_iconst dX7_plates_86 kI_1 ?_
      refine g_icmp_ne (tgt := 93) dX7_plates_87 (by decide) (fun c_87 => absurd (hbt.trans (congrArg nI ((hm.2 b (by omega)).mpr hin))) c_87) (fun c_87 => ?_)
      refine g_goto (tgt := 140) dX7_plates_90 (by decide) ?_
      refine g_iinc dX7_plates_140 rfl (inc_nI _) rfl ?_
      refine g_goto (tgt := 71) dX7_plates_143 (by decide) ?_
      exact g_le (lvLe_c rfl (lvLe_c rfl (lvLe_c rfl (lvLe_c rfl (lvLe_c rfl (lvLe_c rfl (lvLe_c rfl (lvLe_c rfl (lvLe_c rfl lvLe_0))))))))) (ih2 M' ⟨⟨q1, q2⟩, q3, q4, q5⟩)
    · rw [if_neg hin] at ih2
      obtain ⟨g1, g2⟩ := msk_add hm (show b < 5 by omega) hin
      refine g_iload dX7_plates_71 rfl ?_
      refine g_aload_n dX7_plates_73 rfl rfl ?_
      refine g_getI dX7_plates_74 fl_X7_90 rfl rfl (h0) ?_
      refine g_icmp_geN (tgt := 146) dX7_plates_77 (by decide) rfl rfl (by omega) (by omega) (fun c_77 => absurd c_77 (by omega)) (fun c_77 => ?_)
      refine g_iload_n dX7_plates_80 rfl rfl ?_
      refine g_iload dX7_plates_81 rfl ?_
      refine g_ishr dX7_plates_83 rfl ?_
      refine g_iconst dX7_plates_84 kI_1 ?_
      refine g_iand dX7_plates_85 rfl ?_
      refine g_iconst dX7_plates_86 kI_1 ?_
      refine g_icmp_ne (tgt := 93) dX7_plates_87 (by decide) (fun c_87 => ?_) (fun c_87 => absurd (show t / 2 ^ b % 2 = 1 from (nI_eq (by omega) (by decide)).mp (hbt.symm.trans c_87)) (fun z => hin ((hm.2 b (by omega)).mp z)))
      refine g_aload_n dX7_plates_93 rfl rfl ?_
      refine g_getR dX7_plates_94 fl_X7_81 rfl rfl ?_
      refine g_iload_n dX7_plates_97 rfl rfl ?_
      refine g_iload dX7_plates_98 rfl ?_
      refine g_iast dX7_plates_100 rfl rfl (by omega) ?_
      refine g_aload_n dX7_plates_101 rfl rfl ?_
      refine g_iload dX7_plates_102 rfl ?_
      refine g_iload dX7_plates_104 rfl ?_
      refine g_iload dX7_plates_106 rfl ?_
      refine g_iload dX7_plates_108 rfl ?_
      refine g_iload dX7_plates_110 rfl ?_
      refine g_callVv dX7_plates_112 mi_X7_tries ml_X7_230 (ct_tries (h.2.1.fk (q5.tr hF1) (by decide) (by decide)) ho.2.1 hb hh hd hs hc) rfl rfl rfl rfl (Nat.le_of_ble_eq_true rfl) ⟨lt_r rfl, Nat.le_of_ble_eq_true rfl⟩ (fun M112 h112 => ?_)
      obtain ⟨r1, r2, r3⟩ := h112
      have hF2 : Fk B M0 M112 plA plJ := (q5.tr hF1).tr (r3.up (by decide) (by decide))
      refine g_aload_n dX7_plates_115 rfl rfl ?_
      refine g_iload_n dX7_plates_116 rfl rfl ?_
      refine g_iconst dX7_plates_117 kI_1 ?_
      refine g_iadd dX7_plates_118 (nI_add _ _) ?_
      refine g_iload_n dX7_plates_119 rfl rfl ?_
      refine g_iconst dX7_plates_120 kI_1 ?_
      refine g_iload dX7_plates_121 rfl ?_
      refine g_ishl dX7_plates_123 rfl ?_
      refine g_ior dX7_plates_124 rfl ?_
      refine g_iload_n dX7_plates_125 rfl rfl ?_
      refine g_aload_n dX7_plates_126 rfl rfl ?_
      refine g_callVp dX7_plates_127 mi_X7_worthNow ml_X7_237 (ct_worthNow (h.2.1.fk hF2 (by decide) (by decide)) ho.2.1 hok.1.2.2.1 r1.1 r1.2.1 hok.1.2.2.2) rfl rfl rfl rfl (Nat.le_of_ble_eq_true rfl) ⟨lt_r rfl, Nat.le_of_ble_eq_true rfl⟩ ?_
      rw [hw9]
      refine g_iadd dX7_plates_130 (nI_add _ _) ?_
      refine g_iload dX7_plates_131 rfl ?_
      refine g_iload dX7_plates_133 rfl ?_
      refine g_iload dX7_plates_135 rfl ?_
      refine g_callVv dX7_plates_137 mi_X7_plates ml_X7_249 (ct_plates_2 (k := k + 1) (pre := pre ++ [b]) (st := sb) (M0 := M0) h ho hn hn5 hW hd hs hc (by omega) (by rw [List.length_append, hlen]; rfl) g1 g2 (by rw [hsa, hsm]) (by omega) ⟨⟨by rw [r3.j (by decide), upI_ap (by decide)]; exact q1, fun z i hi => by rw [r3.i (by decide) (by decide), upI_ap (by decide)]; exact q2 z i hi⟩, q3, fun i hi => by
        rw [r3.i (by decide) (by decide)]
        by_cases e : i = k
        · rw [e, upI_s, ← hlen, lf_at]
        · rw [upI_k e, lf_lt (by omega)]; exact q4 i (by omega), hF2⟩) rfl rfl rfl rfl (Nat.le_of_ble_eq_true rfl) ⟨lt_r rfl, Nat.le_of_ble_eq_true rfl⟩ (fun M137 h137 => ?_)
      refine g_iinc dX7_plates_140 rfl (inc_nI _) rfl ?_
      refine g_goto (tgt := 71) dX7_plates_143 (by decide) ?_
      obtain ⟨⟨u1, u2⟩, u3, u4, u5⟩ := h137
      exact g_le (lvLe_c rfl (lvLe_c rfl (lvLe_c rfl (lvLe_c rfl (lvLe_c rfl (lvLe_c rfl (lvLe_c rfl (lvLe_c rfl (lvLe_c rfl lvLe_0))))))))) (ih2 M137 ⟨⟨u1, u2⟩, u3, fun i hi => by rw [u4 i (by omega), lf_lt (by omega)], u5⟩)
theorem ct_plates_3 {y : Sys} {W : Nat → Nat → Nat} {n d s c k t sm : Nat} {x2 : Int32} {pre : List Nat} {st : Nat × List Nat} {M0 : MM} (h : RM B M0 y) (ho : okY y) (hn : n = sCn (yN y)) (hn5 : n ≤ 5) (hW : W = platW y d s c) (hd : d ≤ 12) (hs : s ≤ 60) (hc : c ≤ 60) (hk : k + 3 = n) (hlen : pre.length = k) (hx : x2 = nI t) (hm : msk pre t) (hsm : sm = sumN (fun i => W i (lf pre i)) k) (hsb : sm ≤ 1188 * k) (hQ : QP B M0 n k pre st M) :
    Ct E B yX7_plates cX7_plates 9 none 8 [.ref (B + 80), .int (nI k), .int x2, .int (nI sm), .int (nI d), .int (nI s), .int (nI c)] M (Rv (QP B M0 n k pre ((recL n 3 pre).foldl (stpL W n) st))) := by
  subst hx
  have h0 : M.1 (B + 80) 0 = nI n := by rw [hn]; exact (hQ.2.2.2.j (by decide)).trans h.2.1.2.2.1
  refine Ct.of2 (own := RX7) (lv := [(0, .ref (B + 80)), (1, .int (nI k)), (2, .int (nI t)), (3, .int (nI sm)), (4, .int (nI d)), (5, .int (nI s)), (6, .int (nI c))]) pn_X7 rfl (Nat.le_of_ble_eq_true rfl) rfl ?_
  refine g_iload_n dX7_plates_0 rfl rfl ?_
  refine g_aload_n dX7_plates_1 rfl rfl ?_
  refine g_getI dX7_plates_2 fl_X7_90 rfl rfl (h0) ?_
  refine g_icmp_neN (tgt := 55) dX7_plates_5 (by decide) rfl rfl (by omega) (by omega) (fun c_5 => ?_) (fun c_5 => absurd c_5 (by omega))
  refine g_aload_n dX7_plates_55 rfl rfl ?_
  refine g_iload_n dX7_plates_56 rfl rfl ?_
  refine g_iload dX7_plates_57 rfl ?_
  refine g_iload dX7_plates_59 rfl ?_
  refine g_iadd dX7_plates_61 (nI_add _ _) ?_
  refine g_imul dX7_plates_62 (pk_mul _ _) ?_
  refine g_callVp dX7_plates_63 mi_X7_heatBehind ml_X7_246 (ct_X7_heatBehind (h.2.1.fk hQ.2.2.2 (by decide) (by decide)) ho.2.1) rfl rfl rfl rfl (Nat.le_of_ble_eq_true rfl) ⟨lt_r rfl, Nat.le_of_ble_eq_true rfl⟩ ?_
  refine g_istore dX7_plates_66 (lt_r rfl) rfl ?_
  refine g_iconst dX7_plates_68 kI_0 ?_
  refine g_istore dX7_plates_69 (lt_r rfl) rfl ?_
  exact g_le (lvLe_c rfl (lvLe_c rfl (lvLe_c rfl (lvLe_c rfl (lvLe_c rfl (lvLe_c rfl (lvLe_c rfl (lvLe_c rfl (lvLe_c rfl lvLe_0))))))))) (lp_plates_3 h ho hn hn5 hW hd hs hc hk hlen hm hsm hsb n 0 rfl M hQ)
theorem lp_plates_4 {y : Sys} {W : Nat → Nat → Nat} {n d s c k t sm : Nat} {pre : List Nat} {st : Nat × List Nat} {M0 : MM} (h : RM B M0 y) (ho : okY y) (hn : n = sCn (yN y)) (hn5 : n ≤ 5) (hW : W = platW y d s c) (hd : d ≤ 12) (hs : s ≤ 60) (hc : c ≤ 60) (hk : k + 4 = n) (hlen : pre.length = k) (hm : msk pre t) (hsm : sm = sumN (fun i => W i (lf pre i)) k) (hsb : sm ≤ 1188 * k) : ∀ (j b : Nat), j + b = n → ∀ M', QP B M0 n k pre ((catL (fun b => if b ∈ pre then [] else recL n 3 (pre ++ [b])) b).foldl (stpL W n) st) M' →
    G E B cX7_plates (RX7, 9, none, rmD 9, 0, 0, KM E B (Rv (QP B M0 n k pre ((recL n 4 pre).foldl (stpL W n) st)))) 71 [(0, .ref (B + 80)), (1, .int (nI k)), (2, .int (nI t)), (3, .int (nI sm)), (4, .int (nI d)), (5, .int (nI s)), (6, .int (nI c)), (7, .int (nI (heatN (sHt (yN y)) (sLo (yN y)) (sSe (yN y)) (nI (k * (s + c)))))), (8, .int (nI b))] [] M' := by
  have hh := (heatN_ok (ht := sHt (yN y)) (lo := sLo (yN y)) (se := sSe (yN y)) (more := nI (k * (s + c)))).2
  intro j
  induction j with
  | zero =>
    intro b h1 M' hQ
    have h0 : M'.1 (B + 80) 0 = nI n := by rw [hn]; exact (hQ.2.2.2.j (by decide)).trans h.2.1.2.2.1
    refine g_iload dX7_plates_71 rfl ?_
    refine g_aload_n dX7_plates_73 rfl rfl ?_
    refine g_getI dX7_plates_74 fl_X7_90 rfl rfl (h0) ?_
    refine g_icmp_geN (tgt := 146) dX7_plates_77 (by decide) rfl rfl (by omega) (by omega) (fun c_77 => ?_) (fun c_77 => absurd c_77 (by omega))
    refine g_vret dX7_plates_146 ⟨rfl, ?_⟩
    rw [show recL n 4 pre = catL (fun b => if b ∈ pre then [] else recL n 3 (pre ++ [b])) n from rfl]
    rw [show b = n by omega] at hQ
    exact hQ
  | succ j ih =>
    intro b h1 M' hQ
    have ih2 := ih (b + 1) (by omega)
    have hb : b < sCn (yN y) := by omega
    rw [show catL (fun b => if b ∈ pre then [] else recL n 3 (pre ++ [b])) (b + 1) = catL (fun b => if b ∈ pre then [] else recL n 3 (pre ++ [b])) b ++ (if b ∈ pre then [] else recL n 3 (pre ++ [b])) from rfl, List.foldl_append] at ih2
    generalize (catL (fun b => if b ∈ pre then [] else recL n 3 (pre ++ [b])) b).foldl (stpL W n) st = sb at hQ ih2
    obtain ⟨⟨q1, q2⟩, q3, q4, q5⟩ := hQ
    have h0 : M'.1 (B + 80) 0 = nI n := by rw [hn]; exact (q5.j (by decide)).trans h.2.1.2.2.1
    have hbt := bit_t t hm.1 b (by omega)
    have hok := dunk_ok (h := heatN (sHt (yN y)) (sLo (yN y)) (sSe (yN y)) (nI (k * (s + c)))) (d := d) (s := s) (c := c) (ho.2.1.1 b hb)
    have hF1 : Fk B M' (upI M' (B + 99) k (nI b)) plA plJ := Fk.pi (by decide) (by decide)
    have hw9 : worthN (sWo (yN y)) (dunkD (sBs (yN y) b) (heatN (sHt (yN y)) (sLo (yN y)) (sSe (yN y)) (nI (k * (s + c)))) d s c).1 (dunkD (sBs (yN y) b) (heatN (sHt (yN y)) (sLo (yN y)) (sSe (yN y)) (nI (k * (s + c)))) d s c).2.1 = W k b := by rw [hW]; rfl
    have hw8 : W k b ≤ 1188 := by rw [hW]; exact wr_le ho hok.1.2.2.1
    have hsa := sum_app (W := W) (b := b) hlen
    by_cases hin : b ∈ pre
    · rw [if_pos hin] at ih2
      refine g_iload dX7_plates_71 rfl ?_
      refine g_aload_n dX7_plates_73 rfl rfl ?_
      refine g_getI dX7_plates_74 fl_X7_90 rfl rfl (h0) ?_
      refine g_icmp_geN (tgt := 146) dX7_plates_77 (by decide) rfl rfl (by omega) (by omega) (fun c_77 => absurd c_77 (by omega)) (fun c_77 => ?_)
      refine g_iload_n dX7_plates_80 rfl rfl ?_
      refine g_iload dX7_plates_81 rfl ?_
      refine g_ishr dX7_plates_83 rfl ?_
      refine g_iconst dX7_plates_84 kI_1 ?_
      refine g_iand dX7_plates_85 rfl ?_
      refine g_iconst dX7_plates_86 kI_1 ?_
      refine g_icmp_ne (tgt := 93) dX7_plates_87 (by decide) (fun c_87 => absurd (hbt.trans (congrArg nI ((hm.2 b (by omega)).mpr hin))) c_87) (fun c_87 => ?_)
      refine g_goto (tgt := 140) dX7_plates_90 (by decide) ?_
      refine g_iinc dX7_plates_140 rfl (inc_nI _) rfl ?_
      refine g_goto (tgt := 71) dX7_plates_143 (by decide) ?_
      exact g_le (lvLe_c rfl (lvLe_c rfl (lvLe_c rfl (lvLe_c rfl (lvLe_c rfl (lvLe_c rfl (lvLe_c rfl (lvLe_c rfl (lvLe_c rfl lvLe_0))))))))) (ih2 M' ⟨⟨q1, q2⟩, q3, q4, q5⟩)
    · rw [if_neg hin] at ih2
      obtain ⟨g1, g2⟩ := msk_add hm (show b < 5 by omega) hin
      refine g_iload dX7_plates_71 rfl ?_
      refine g_aload_n dX7_plates_73 rfl rfl ?_
      refine g_getI dX7_plates_74 fl_X7_90 rfl rfl (h0) ?_
      refine g_icmp_geN (tgt := 146) dX7_plates_77 (by decide) rfl rfl (by omega) (by omega) (fun c_77 => absurd c_77 (by omega)) (fun c_77 => ?_)
      refine g_iload_n dX7_plates_80 rfl rfl ?_
      refine g_iload dX7_plates_81 rfl ?_
      refine g_ishr dX7_plates_83 rfl ?_
      refine g_iconst dX7_plates_84 kI_1 ?_
      refine g_iand dX7_plates_85 rfl ?_
      refine g_iconst dX7_plates_86 kI_1 ?_
      refine g_icmp_ne (tgt := 93) dX7_plates_87 (by decide) (fun c_87 => ?_) (fun c_87 => absurd (show t / 2 ^ b % 2 = 1 from (nI_eq (by omega) (by decide)).mp (hbt.symm.trans c_87)) (fun z => hin ((hm.2 b (by omega)).mp z)))
      refine g_aload_n dX7_plates_93 rfl rfl ?_
      refine g_getR dX7_plates_94 fl_X7_81 rfl rfl ?_
      refine g_iload_n dX7_plates_97 rfl rfl ?_
      refine g_iload dX7_plates_98 rfl ?_
      refine g_iast dX7_plates_100 rfl rfl (by omega) ?_
      refine g_aload_n dX7_plates_101 rfl rfl ?_
      refine g_iload dX7_plates_102 rfl ?_
      refine g_iload dX7_plates_104 rfl ?_
      refine g_iload dX7_plates_106 rfl ?_
      refine g_iload dX7_plates_108 rfl ?_
      refine g_iload dX7_plates_110 rfl ?_
      refine g_callVv dX7_plates_112 mi_X7_tries ml_X7_230 (ct_tries (h.2.1.fk (q5.tr hF1) (by decide) (by decide)) ho.2.1 hb hh hd hs hc) rfl rfl rfl rfl (Nat.le_of_ble_eq_true rfl) ⟨lt_r rfl, Nat.le_of_ble_eq_true rfl⟩ (fun M112 h112 => ?_)
      obtain ⟨r1, r2, r3⟩ := h112
      have hF2 : Fk B M0 M112 plA plJ := (q5.tr hF1).tr (r3.up (by decide) (by decide))
      refine g_aload_n dX7_plates_115 rfl rfl ?_
      refine g_iload_n dX7_plates_116 rfl rfl ?_
      refine g_iconst dX7_plates_117 kI_1 ?_
      refine g_iadd dX7_plates_118 (nI_add _ _) ?_
      refine g_iload_n dX7_plates_119 rfl rfl ?_
      refine g_iconst dX7_plates_120 kI_1 ?_
      refine g_iload dX7_plates_121 rfl ?_
      refine g_ishl dX7_plates_123 rfl ?_
      refine g_ior dX7_plates_124 rfl ?_
      refine g_iload_n dX7_plates_125 rfl rfl ?_
      refine g_aload_n dX7_plates_126 rfl rfl ?_
      refine g_callVp dX7_plates_127 mi_X7_worthNow ml_X7_237 (ct_worthNow (h.2.1.fk hF2 (by decide) (by decide)) ho.2.1 hok.1.2.2.1 r1.1 r1.2.1 hok.1.2.2.2) rfl rfl rfl rfl (Nat.le_of_ble_eq_true rfl) ⟨lt_r rfl, Nat.le_of_ble_eq_true rfl⟩ ?_
      rw [hw9]
      refine g_iadd dX7_plates_130 (nI_add _ _) ?_
      refine g_iload dX7_plates_131 rfl ?_
      refine g_iload dX7_plates_133 rfl ?_
      refine g_iload dX7_plates_135 rfl ?_
      refine g_callVv dX7_plates_137 mi_X7_plates ml_X7_249 (ct_plates_3 (k := k + 1) (pre := pre ++ [b]) (st := sb) (M0 := M0) h ho hn hn5 hW hd hs hc (by omega) (by rw [List.length_append, hlen]; rfl) g1 g2 (by rw [hsa, hsm]) (by omega) ⟨⟨by rw [r3.j (by decide), upI_ap (by decide)]; exact q1, fun z i hi => by rw [r3.i (by decide) (by decide), upI_ap (by decide)]; exact q2 z i hi⟩, q3, fun i hi => by
        rw [r3.i (by decide) (by decide)]
        by_cases e : i = k
        · rw [e, upI_s, ← hlen, lf_at]
        · rw [upI_k e, lf_lt (by omega)]; exact q4 i (by omega), hF2⟩) rfl rfl rfl rfl (Nat.le_of_ble_eq_true rfl) ⟨lt_r rfl, Nat.le_of_ble_eq_true rfl⟩ (fun M137 h137 => ?_)
      refine g_iinc dX7_plates_140 rfl (inc_nI _) rfl ?_
      refine g_goto (tgt := 71) dX7_plates_143 (by decide) ?_
      obtain ⟨⟨u1, u2⟩, u3, u4, u5⟩ := h137
      exact g_le (lvLe_c rfl (lvLe_c rfl (lvLe_c rfl (lvLe_c rfl (lvLe_c rfl (lvLe_c rfl (lvLe_c rfl (lvLe_c rfl (lvLe_c rfl lvLe_0))))))))) (ih2 M137 ⟨⟨u1, u2⟩, u3, fun i hi => by rw [u4 i (by omega), lf_lt (by omega)], u5⟩)
theorem ct_plates_4 {y : Sys} {W : Nat → Nat → Nat} {n d s c k t sm : Nat} {x2 : Int32} {pre : List Nat} {st : Nat × List Nat} {M0 : MM} (h : RM B M0 y) (ho : okY y) (hn : n = sCn (yN y)) (hn5 : n ≤ 5) (hW : W = platW y d s c) (hd : d ≤ 12) (hs : s ≤ 60) (hc : c ≤ 60) (hk : k + 4 = n) (hlen : pre.length = k) (hx : x2 = nI t) (hm : msk pre t) (hsm : sm = sumN (fun i => W i (lf pre i)) k) (hsb : sm ≤ 1188 * k) (hQ : QP B M0 n k pre st M) :
    Ct E B yX7_plates cX7_plates 9 none 9 [.ref (B + 80), .int (nI k), .int x2, .int (nI sm), .int (nI d), .int (nI s), .int (nI c)] M (Rv (QP B M0 n k pre ((recL n 4 pre).foldl (stpL W n) st))) := by
  subst hx
  have h0 : M.1 (B + 80) 0 = nI n := by rw [hn]; exact (hQ.2.2.2.j (by decide)).trans h.2.1.2.2.1
  refine Ct.of2 (own := RX7) (lv := [(0, .ref (B + 80)), (1, .int (nI k)), (2, .int (nI t)), (3, .int (nI sm)), (4, .int (nI d)), (5, .int (nI s)), (6, .int (nI c))]) pn_X7 rfl (Nat.le_of_ble_eq_true rfl) rfl ?_
  refine g_iload_n dX7_plates_0 rfl rfl ?_
  refine g_aload_n dX7_plates_1 rfl rfl ?_
  refine g_getI dX7_plates_2 fl_X7_90 rfl rfl (h0) ?_
  refine g_icmp_neN (tgt := 55) dX7_plates_5 (by decide) rfl rfl (by omega) (by omega) (fun c_5 => ?_) (fun c_5 => absurd c_5 (by omega))
  refine g_aload_n dX7_plates_55 rfl rfl ?_
  refine g_iload_n dX7_plates_56 rfl rfl ?_
  refine g_iload dX7_plates_57 rfl ?_
  refine g_iload dX7_plates_59 rfl ?_
  refine g_iadd dX7_plates_61 (nI_add _ _) ?_
  refine g_imul dX7_plates_62 (pk_mul _ _) ?_
  refine g_callVp dX7_plates_63 mi_X7_heatBehind ml_X7_246 (ct_X7_heatBehind (h.2.1.fk hQ.2.2.2 (by decide) (by decide)) ho.2.1) rfl rfl rfl rfl (Nat.le_of_ble_eq_true rfl) ⟨lt_r rfl, Nat.le_of_ble_eq_true rfl⟩ ?_
  refine g_istore dX7_plates_66 (lt_r rfl) rfl ?_
  refine g_iconst dX7_plates_68 kI_0 ?_
  refine g_istore dX7_plates_69 (lt_r rfl) rfl ?_
  exact g_le (lvLe_c rfl (lvLe_c rfl (lvLe_c rfl (lvLe_c rfl (lvLe_c rfl (lvLe_c rfl (lvLe_c rfl (lvLe_c rfl (lvLe_c rfl lvLe_0))))))))) (lp_plates_4 h ho hn hn5 hW hd hs hc hk hlen hm hsm hsb n 0 rfl M hQ)
theorem lp_plates_5 {y : Sys} {W : Nat → Nat → Nat} {n d s c k t sm : Nat} {pre : List Nat} {st : Nat × List Nat} {M0 : MM} (h : RM B M0 y) (ho : okY y) (hn : n = sCn (yN y)) (hn5 : n ≤ 5) (hW : W = platW y d s c) (hd : d ≤ 12) (hs : s ≤ 60) (hc : c ≤ 60) (hk : k + 5 = n) (hlen : pre.length = k) (hm : msk pre t) (hsm : sm = sumN (fun i => W i (lf pre i)) k) (hsb : sm ≤ 1188 * k) : ∀ (j b : Nat), j + b = n → ∀ M', QP B M0 n k pre ((catL (fun b => if b ∈ pre then [] else recL n 4 (pre ++ [b])) b).foldl (stpL W n) st) M' →
    G E B cX7_plates (RX7, 9, none, rmD 10, 0, 0, KM E B (Rv (QP B M0 n k pre ((recL n 5 pre).foldl (stpL W n) st)))) 71 [(0, .ref (B + 80)), (1, .int (nI k)), (2, .int (nI t)), (3, .int (nI sm)), (4, .int (nI d)), (5, .int (nI s)), (6, .int (nI c)), (7, .int (nI (heatN (sHt (yN y)) (sLo (yN y)) (sSe (yN y)) (nI (k * (s + c)))))), (8, .int (nI b))] [] M' := by
  have hh := (heatN_ok (ht := sHt (yN y)) (lo := sLo (yN y)) (se := sSe (yN y)) (more := nI (k * (s + c)))).2
  intro j
  induction j with
  | zero =>
    intro b h1 M' hQ
    have h0 : M'.1 (B + 80) 0 = nI n := by rw [hn]; exact (hQ.2.2.2.j (by decide)).trans h.2.1.2.2.1
    refine g_iload dX7_plates_71 rfl ?_
    refine g_aload_n dX7_plates_73 rfl rfl ?_
    refine g_getI dX7_plates_74 fl_X7_90 rfl rfl (h0) ?_
    refine g_icmp_geN (tgt := 146) dX7_plates_77 (by decide) rfl rfl (by omega) (by omega) (fun c_77 => ?_) (fun c_77 => absurd c_77 (by omega))
    refine g_vret dX7_plates_146 ⟨rfl, ?_⟩
    rw [show recL n 5 pre = catL (fun b => if b ∈ pre then [] else recL n 4 (pre ++ [b])) n from rfl]
    rw [show b = n by omega] at hQ
    exact hQ
  | succ j ih =>
    intro b h1 M' hQ
    have ih2 := ih (b + 1) (by omega)
    have hb : b < sCn (yN y) := by omega
    rw [show catL (fun b => if b ∈ pre then [] else recL n 4 (pre ++ [b])) (b + 1) = catL (fun b => if b ∈ pre then [] else recL n 4 (pre ++ [b])) b ++ (if b ∈ pre then [] else recL n 4 (pre ++ [b])) from rfl, List.foldl_append] at ih2
    generalize (catL (fun b => if b ∈ pre then [] else recL n 4 (pre ++ [b])) b).foldl (stpL W n) st = sb at hQ ih2
    obtain ⟨⟨q1, q2⟩, q3, q4, q5⟩ := hQ
    have h0 : M'.1 (B + 80) 0 = nI n := by rw [hn]; exact (q5.j (by decide)).trans h.2.1.2.2.1
    have hbt := bit_t t hm.1 b (by omega)
    have hok := dunk_ok (h := heatN (sHt (yN y)) (sLo (yN y)) (sSe (yN y)) (nI (k * (s + c)))) (d := d) (s := s) (c := c) (ho.2.1.1 b hb)
    have hF1 : Fk B M' (upI M' (B + 99) k (nI b)) plA plJ := Fk.pi (by decide) (by decide)
    have hw9 : worthN (sWo (yN y)) (dunkD (sBs (yN y) b) (heatN (sHt (yN y)) (sLo (yN y)) (sSe (yN y)) (nI (k * (s + c)))) d s c).1 (dunkD (sBs (yN y) b) (heatN (sHt (yN y)) (sLo (yN y)) (sSe (yN y)) (nI (k * (s + c)))) d s c).2.1 = W k b := by rw [hW]; rfl
    have hw8 : W k b ≤ 1188 := by rw [hW]; exact wr_le ho hok.1.2.2.1
    have hsa := sum_app (W := W) (b := b) hlen
    by_cases hin : b ∈ pre
    · rw [if_pos hin] at ih2
      refine g_iload dX7_plates_71 rfl ?_
      refine g_aload_n dX7_plates_73 rfl rfl ?_
      refine g_getI dX7_plates_74 fl_X7_90 rfl rfl (h0) ?_
      refine g_icmp_geN (tgt := 146) dX7_plates_77 (by decide) rfl rfl (by omega) (by omega) (fun c_77 => absurd c_77 (by omega)) (fun c_77 => ?_)
      refine g_iload_n dX7_plates_80 rfl rfl ?_
      refine g_iload dX7_plates_81 rfl ?_
      refine g_ishr dX7_plates_83 rfl ?_
      refine g_iconst dX7_plates_84 kI_1 ?_
      refine g_iand dX7_plates_85 rfl ?_
      refine g_iconst dX7_plates_86 kI_1 ?_
      refine g_icmp_ne (tgt := 93) dX7_plates_87 (by decide) (fun c_87 => absurd (hbt.trans (congrArg nI ((hm.2 b (by omega)).mpr hin))) c_87) (fun c_87 => ?_)
      refine g_goto (tgt := 140) dX7_plates_90 (by decide) ?_
      refine g_iinc dX7_plates_140 rfl (inc_nI _) rfl ?_
      refine g_goto (tgt := 71) dX7_plates_143 (by decide) ?_
      exact g_le (lvLe_c rfl (lvLe_c rfl (lvLe_c rfl (lvLe_c rfl (lvLe_c rfl (lvLe_c rfl (lvLe_c rfl (lvLe_c rfl (lvLe_c rfl lvLe_0))))))))) (ih2 M' ⟨⟨q1, q2⟩, q3, q4, q5⟩)
    · rw [if_neg hin] at ih2
      obtain ⟨g1, g2⟩ := msk_add hm (show b < 5 by omega) hin
      refine g_iload dX7_plates_71 rfl ?_
      refine g_aload_n dX7_plates_73 rfl rfl ?_
      refine g_getI dX7_plates_74 fl_X7_90 rfl rfl (h0) ?_
      refine g_icmp_geN (tgt := 146) dX7_plates_77 (by decide) rfl rfl (by omega) (by omega) (fun c_77 => absurd c_77 (by omega)) (fun c_77 => ?_)
      refine g_iload_n dX7_plates_80 rfl rfl ?_
      refine g_iload dX7_plates_81 rfl ?_
      refine g_ishr dX7_plates_83 rfl ?_
      refine g_iconst dX7_plates_84 kI_1 ?_
      refine g_iand dX7_plates_85 rfl ?_
      refine g_iconst dX7_plates_86 kI_1 ?_
      refine g_icmp_ne (tgt := 93) dX7_plates_87 (by decide) (fun c_87 => ?_) (fun c_87 => absurd (show t / 2 ^ b % 2 = 1 from (nI_eq (by omega) (by decide)).mp (hbt.symm.trans c_87)) (fun z => hin ((hm.2 b (by omega)).mp z)))
      refine g_aload_n dX7_plates_93 rfl rfl ?_
      refine g_getR dX7_plates_94 fl_X7_81 rfl rfl ?_
      refine g_iload_n dX7_plates_97 rfl rfl ?_
      refine g_iload dX7_plates_98 rfl ?_
      refine g_iast dX7_plates_100 rfl rfl (by omega) ?_
      refine g_aload_n dX7_plates_101 rfl rfl ?_
      refine g_iload dX7_plates_102 rfl ?_
      refine g_iload dX7_plates_104 rfl ?_
      refine g_iload dX7_plates_106 rfl ?_
      refine g_iload dX7_plates_108 rfl ?_
      refine g_iload dX7_plates_110 rfl ?_
      refine g_callVv dX7_plates_112 mi_X7_tries ml_X7_230 (ct_tries (h.2.1.fk (q5.tr hF1) (by decide) (by decide)) ho.2.1 hb hh hd hs hc) rfl rfl rfl rfl (Nat.le_of_ble_eq_true rfl) ⟨lt_r rfl, Nat.le_of_ble_eq_true rfl⟩ (fun M112 h112 => ?_)
      obtain ⟨r1, r2, r3⟩ := h112
      have hF2 : Fk B M0 M112 plA plJ := (q5.tr hF1).tr (r3.up (by decide) (by decide))
      refine g_aload_n dX7_plates_115 rfl rfl ?_
      refine g_iload_n dX7_plates_116 rfl rfl ?_
      refine g_iconst dX7_plates_117 kI_1 ?_
      refine g_iadd dX7_plates_118 (nI_add _ _) ?_
      refine g_iload_n dX7_plates_119 rfl rfl ?_
      refine g_iconst dX7_plates_120 kI_1 ?_
      refine g_iload dX7_plates_121 rfl ?_
      refine g_ishl dX7_plates_123 rfl ?_
      refine g_ior dX7_plates_124 rfl ?_
      refine g_iload_n dX7_plates_125 rfl rfl ?_
      refine g_aload_n dX7_plates_126 rfl rfl ?_
      refine g_callVp dX7_plates_127 mi_X7_worthNow ml_X7_237 (ct_worthNow (h.2.1.fk hF2 (by decide) (by decide)) ho.2.1 hok.1.2.2.1 r1.1 r1.2.1 hok.1.2.2.2) rfl rfl rfl rfl (Nat.le_of_ble_eq_true rfl) ⟨lt_r rfl, Nat.le_of_ble_eq_true rfl⟩ ?_
      rw [hw9]
      refine g_iadd dX7_plates_130 (nI_add _ _) ?_
      refine g_iload dX7_plates_131 rfl ?_
      refine g_iload dX7_plates_133 rfl ?_
      refine g_iload dX7_plates_135 rfl ?_
      refine g_callVv dX7_plates_137 mi_X7_plates ml_X7_249 (ct_plates_4 (k := k + 1) (pre := pre ++ [b]) (st := sb) (M0 := M0) h ho hn hn5 hW hd hs hc (by omega) (by rw [List.length_append, hlen]; rfl) g1 g2 (by rw [hsa, hsm]) (by omega) ⟨⟨by rw [r3.j (by decide), upI_ap (by decide)]; exact q1, fun z i hi => by rw [r3.i (by decide) (by decide), upI_ap (by decide)]; exact q2 z i hi⟩, q3, fun i hi => by
        rw [r3.i (by decide) (by decide)]
        by_cases e : i = k
        · rw [e, upI_s, ← hlen, lf_at]
        · rw [upI_k e, lf_lt (by omega)]; exact q4 i (by omega), hF2⟩) rfl rfl rfl rfl (Nat.le_of_ble_eq_true rfl) ⟨lt_r rfl, Nat.le_of_ble_eq_true rfl⟩ (fun M137 h137 => ?_)
      refine g_iinc dX7_plates_140 rfl (inc_nI _) rfl ?_
      refine g_goto (tgt := 71) dX7_plates_143 (by decide) ?_
      obtain ⟨⟨u1, u2⟩, u3, u4, u5⟩ := h137
      exact g_le (lvLe_c rfl (lvLe_c rfl (lvLe_c rfl (lvLe_c rfl (lvLe_c rfl (lvLe_c rfl (lvLe_c rfl (lvLe_c rfl (lvLe_c rfl lvLe_0))))))))) (ih2 M137 ⟨⟨u1, u2⟩, u3, fun i hi => by rw [u4 i (by omega), lf_lt (by omega)], u5⟩)
theorem ct_plates_5 {y : Sys} {W : Nat → Nat → Nat} {n d s c k t sm : Nat} {x2 : Int32} {pre : List Nat} {st : Nat × List Nat} {M0 : MM} (h : RM B M0 y) (ho : okY y) (hn : n = sCn (yN y)) (hn5 : n ≤ 5) (hW : W = platW y d s c) (hd : d ≤ 12) (hs : s ≤ 60) (hc : c ≤ 60) (hk : k + 5 = n) (hlen : pre.length = k) (hx : x2 = nI t) (hm : msk pre t) (hsm : sm = sumN (fun i => W i (lf pre i)) k) (hsb : sm ≤ 1188 * k) (hQ : QP B M0 n k pre st M) :
    Ct E B yX7_plates cX7_plates 9 none 10 [.ref (B + 80), .int (nI k), .int x2, .int (nI sm), .int (nI d), .int (nI s), .int (nI c)] M (Rv (QP B M0 n k pre ((recL n 5 pre).foldl (stpL W n) st))) := by
  subst hx
  have h0 : M.1 (B + 80) 0 = nI n := by rw [hn]; exact (hQ.2.2.2.j (by decide)).trans h.2.1.2.2.1
  refine Ct.of2 (own := RX7) (lv := [(0, .ref (B + 80)), (1, .int (nI k)), (2, .int (nI t)), (3, .int (nI sm)), (4, .int (nI d)), (5, .int (nI s)), (6, .int (nI c))]) pn_X7 rfl (Nat.le_of_ble_eq_true rfl) rfl ?_
  refine g_iload_n dX7_plates_0 rfl rfl ?_
  refine g_aload_n dX7_plates_1 rfl rfl ?_
  refine g_getI dX7_plates_2 fl_X7_90 rfl rfl (h0) ?_
  refine g_icmp_neN (tgt := 55) dX7_plates_5 (by decide) rfl rfl (by omega) (by omega) (fun c_5 => ?_) (fun c_5 => absurd c_5 (by omega))
  refine g_aload_n dX7_plates_55 rfl rfl ?_
  refine g_iload_n dX7_plates_56 rfl rfl ?_
  refine g_iload dX7_plates_57 rfl ?_
  refine g_iload dX7_plates_59 rfl ?_
  refine g_iadd dX7_plates_61 (nI_add _ _) ?_
  refine g_imul dX7_plates_62 (pk_mul _ _) ?_
  refine g_callVp dX7_plates_63 mi_X7_heatBehind ml_X7_246 (ct_X7_heatBehind (h.2.1.fk hQ.2.2.2 (by decide) (by decide)) ho.2.1) rfl rfl rfl rfl (Nat.le_of_ble_eq_true rfl) ⟨lt_r rfl, Nat.le_of_ble_eq_true rfl⟩ ?_
  refine g_istore dX7_plates_66 (lt_r rfl) rfl ?_
  refine g_iconst dX7_plates_68 kI_0 ?_
  refine g_istore dX7_plates_69 (lt_r rfl) rfl ?_
  exact g_le (lvLe_c rfl (lvLe_c rfl (lvLe_c rfl (lvLe_c rfl (lvLe_c rfl (lvLe_c rfl (lvLe_c rfl (lvLe_c rfl (lvLe_c rfl lvLe_0))))))))) (lp_plates_5 h ho hn hn5 hW hd hs hc hk hlen hm hsm hsb n 0 rfl M hQ)
end X7U
