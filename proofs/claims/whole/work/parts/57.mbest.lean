/-! the model: best -/
theorem g_ldcw {E : EE} {B : Nat} {code : ByteArray} {fk : FK} {pc : Nat} {lv : List (Nat × Value)} {st : List Value} {M : MM} {index : Nat} {v : Int32} (hd : decode code pc = .ok (.ldc_w index, 3)) (hw : Cond.constant fk.1 index v ∈ tbG) (k : G E B code fk (pc + 3) lv (.int v :: st) M) : G E B code fk pc lv st M := by
  intro p l e s m args below meth c H locs ls hB hR hS hL
  exact lv_ldcw hB.1 hB.2.1 hB.2.2.2.2.2.1 (hB.2.2.2.2.2.2.1.1 _ hw _) hd (k p l e s m args below meth c H locs ls hB hR hS hL)
section X7K
variable {E : EE} {B : Nat} {M : MM}
theorem tl_best89 {y : Sys} {q c j s : Nat} {w : Int32} {wv : Nat → Nat} {st : Nat × Nat} {M0 : MM} {F : Option Value → MM → Prop} (h : RM B M0 y) (ho : okY y) (hq : q < sCn (yN y)) (hc : c ≤ 60) (hj : j ≤ 12) (hs : s ≤ 30) (hst : st.1 < 10000) (hob : okB ((sBs (yN y) q).1, (sBs (yN y) q).2.1, (sBs (yN y) q).2.2.1, wv)) (hF : Fk B M0 M dA dJ) (hD : RDc B M (nI 0) (newD (sBs (yN y) q).2.2.1 wv))
    (hend : ∀ M2, Fk B M0 M2 dA dJ → G E B cX7_best (RX7, 9, some .int, rmD 6, 0, 0, KM E B F) 68 [(0, .ref (B + 80)), (1, .int (nI q)), (2, .int (nI c)), (3, .int w), (4, .int (nI (bstS (wBest y ((sBs (yN y) q).1, (sBs (yN y) q).2.1, (sBs (yN y) q).2.2.1, wv) c) j s st).2)), (5, .int (bI (bstS (wBest y ((sBs (yN y) q).1, (sBs (yN y) q).2.1, (sBs (yN y) q).2.2.1, wv) c) j s st).1)), (6, .int (nI j)), (7, .int (nI (s + 1)))] [] M2) :
    G E B cX7_best (RX7, 9, some .int, rmD 6, 0, 0, KM E B F) 89 [(0, .ref (B + 80)), (1, .int (nI q)), (2, .int (nI c)), (3, .int w), (4, .int (nI st.2)), (5, .int (bI st.1)), (6, .int (nI j)), (7, .int (nI s))] [] M := by
  have hh := ho.2.1.2.2.2.1
  have hw := wBest_le (c := c) (j := j) (s := s) ho hob
  have hok := dunk_ok (h := sHt (yN y)) (d := j) (s := s) (c := c) hob
  generalize eb : ((sBs (yN y) q).1, (sBs (yN y) q).2.1, (sBs (yN y) q).2.2.1, wv) = b' at hob hend hw hok
  have hD' : RDc B M (nI 0) (newD b'.2.2.1 b'.2.2.2) := by rw [← eb]; exact hD
  have k1 : (sBs (yN y) q).1 = b'.1 := by rw [← eb]
  have k2 : (sBs (yN y) q).2.1 = b'.2.1 := by rw [← eb]
  refine g_aload_n dX7_best_89 rfl rfl ?_
  refine g_iload_n dX7_best_90 rfl rfl ?_
  refine g_iload dX7_best_91 rfl ?_
  refine g_iload dX7_best_93 rfl ?_
  refine g_aload_n dX7_best_95 rfl rfl ?_
  refine g_getI dX7_best_96 fl_X7_7 rfl rfl ((hF.j (by decide)).trans h.2.1.2.2.2.1) ?_
  refine g_iconst dX7_best_99 kI_0 ?_
  refine g_callVv dX7_best_100 mi_X7_dunks ml_X7_210 (ct_dunks (t := 0) (f := false) rfl (h.2.1.fk hF (by decide) (by decide)) ho.2.1 hq hh hD' (fun z => by cases z) (by rw [k1, k2]; exact new_ok hob) hj (by omega) (by decide)) rfl rfl rfl rfl (Nat.le_of_ble_eq_true rfl) ⟨lt_r rfl, Nat.le_of_ble_eq_true rfl⟩ (fun M100 h100 => ?_)
  obtain ⟨g1, -, g3⟩ := h100
  have hF2 := hF.tr g3
  rw [k1, k2] at g1
  have g1 : RDc B M100 (nI 0) (dipD b' (sHt (yN y)) j s) := g1
  refine g_aload_n dX7_best_103 rfl rfl ?_
  refine g_iload_n dX7_best_104 rfl rfl ?_
  refine g_iconst dX7_best_105 kI_0 ?_
  refine g_iload_n dX7_best_106 rfl rfl ?_
  refine g_aload_n dX7_best_107 rfl rfl ?_
  refine g_getI dX7_best_108 fl_X7_7 rfl rfl ((hF2.j (by decide)).trans h.2.1.2.2.2.1) ?_
  refine g_iload dX7_best_111 rfl ?_
  refine g_callVv dX7_best_113 mi_X7_dunks ml_X7_210 (ct_dunks (d := 0) (t := 0 + s) (f := false) (by rw [Nat.zero_add]) (h.2.1.fk hF2 (by decide) (by decide)) ho.2.1 hq hh g1 (fun z => by cases z) (by rw [k1, k2]; exact dipD_ok hob) (by decide) hc (by omega)) rfl rfl rfl rfl (Nat.le_of_ble_eq_true rfl) ⟨lt_r rfl, Nat.le_of_ble_eq_true rfl⟩ (fun M113 h113 => ?_)
  obtain ⟨j1, -, j3⟩ := h113
  have hF3 := hF2.tr j3
  rw [k1, k2] at j1
  have j1 : RDc B M113 (nI 0) (dunkD b' (sHt (yN y)) j s c) := j1
  refine g_aload_n dX7_best_116 rfl rfl ?_
  refine g_callVp dX7_best_117 mi_X7_worthNow ml_X7_237 (ct_worthNow (h.2.1.fk hF3 (by decide) (by decide)) ho.2.1 hok.1.2.2.1 j1.1 j1.2.1 hok.1.2.2.2) rfl rfl rfl rfl (Nat.le_of_ble_eq_true rfl) ⟨lt_r rfl, Nat.le_of_ble_eq_true rfl⟩ ?_
  show G E B _ _ _ _ [.int (nI (wBest y b' c j s))] _
  refine g_istore dX7_best_120 (lt_r rfl) rfl ?_
  refine g_iload dX7_best_122 rfl ?_
  refine g_iload dX7_best_124 rfl ?_
  refine g_icmp_gt (tgt := 132) dX7_best_126 (by decide) (fun c_126 => ?_) (fun c_126 => ?_)
  · refine g_bipush dX7_best_132 kB_100 ?_
    refine g_iload dX7_best_134 rfl ?_
    refine g_imul dX7_best_136 (pk_mul _ _) ?_
    refine g_iload dX7_best_137 rfl ?_
    refine g_iadd dX7_best_139 (nI_add _ _) ?_
    refine g_istore dX7_best_140 (lt_r rfl) rfl ?_
    refine g_iload dX7_best_142 rfl ?_
    refine g_istore dX7_best_144 (lt_r rfl) rfl ?_
    refine g_iinc dX7_best_146 rfl (inc_nI _) rfl ?_
    refine g_goto (tgt := 68) dX7_best_149 (by decide) ?_
    have h9 := hend M113 hF3
    first | (have c9 : bI st.1 < nI (wBest y b' c j s) := c_126; rw [show bstS (wBest y b' c) j s st = (wBest y b' c j s + 1, 100 * j + s) from if_pos ((bI_lt (b := st.1) (w := wBest y b' c j s) (by omega) (by omega)).mp (Int32.not_le.mpr c9)), show bI (wBest y b' c j s + 1, 100 * j + s).1 = nI (wBest y b' c j s) from if_neg (Nat.succ_ne_zero _)] at h9; exact g_le (lvLe_c rfl (lvLe_c rfl (lvLe_c rfl (lvLe_c rfl (lvLe_c rfl (lvLe_c rfl (lvLe_c rfl (lvLe_c rfl lvLe_0)))))))) h9) | (have c9 : ¬ bI st.1 < nI (wBest y b' c j s) := c_126; rw [show bstS (wBest y b' c) j s st = st from if_neg (fun z => (bI_lt (b := st.1) (w := wBest y b' c j s) (by omega) (by omega)).mpr z (Int32.not_lt.mp c9))] at h9; exact g_le (lvLe_c rfl (lvLe_c rfl (lvLe_c rfl (lvLe_c rfl (lvLe_c rfl (lvLe_c rfl (lvLe_c rfl (lvLe_c rfl lvLe_0)))))))) h9)
  · refine g_goto (tgt := 146) dX7_best_129 (by decide) ?_
    refine g_iinc dX7_best_146 rfl (inc_nI _) rfl ?_
    refine g_goto (tgt := 68) dX7_best_149 (by decide) ?_
    have h9 := hend M113 hF3
    first | (have c9 : bI st.1 < nI (wBest y b' c j s) := c_126; rw [show bstS (wBest y b' c) j s st = (wBest y b' c j s + 1, 100 * j + s) from if_pos ((bI_lt (b := st.1) (w := wBest y b' c j s) (by omega) (by omega)).mp (Int32.not_le.mpr c9)), show bI (wBest y b' c j s + 1, 100 * j + s).1 = nI (wBest y b' c j s) from if_neg (Nat.succ_ne_zero _)] at h9; exact g_le (lvLe_c rfl (lvLe_c rfl (lvLe_c rfl (lvLe_c rfl (lvLe_c rfl (lvLe_c rfl (lvLe_c rfl (lvLe_c rfl lvLe_0)))))))) h9) | (have c9 : ¬ bI st.1 < nI (wBest y b' c j s) := c_126; rw [show bstS (wBest y b' c) j s st = st from if_neg (fun z => (bI_lt (b := st.1) (w := wBest y b' c j s) (by omega) (by omega)).mpr z (Int32.not_lt.mp c9))] at h9; exact g_le (lvLe_c rfl (lvLe_c rfl (lvLe_c rfl (lvLe_c rfl (lvLe_c rfl (lvLe_c rfl (lvLe_c rfl (lvLe_c rfl lvLe_0)))))))) h9)
theorem lp_mbestR {y : Sys} {q c j : Nat} {w : Int32} {b' : Bi} {st0 : Nat × Nat} {M0 : MM} {F : Option Value → MM → Prop} (h : RM B M0 y) (ho : okY y) (hq : q < sCn (yN y)) (hc : c ≤ 60) (hj : j ≤ 12) (hb : b' = if w = nI 1 then turnB (sBs (yN y) q) else sBs (yN y) q)
    (hend : ∀ M2, Fk B M0 M2 dA dJ → G E B cX7_best (RX7, 9, some .int, rmD 6, 0, 0, KM E B F) 152 [(0, .ref (B + 80)), (1, .int (nI q)), (2, .int (nI c)), (3, .int w), (4, .int (nI (bstR (wBest y b' c) j 31 0 st0).2)), (5, .int (bI (bstR (wBest y b' c) j 31 0 st0).1)), (6, .int (nI j))] [] M2) :
    ∀ (n s : Nat) (st : Nat × Nat), n + s = 31 → bstR (wBest y b' c) j n s st = bstR (wBest y b' c) j 31 0 st0 → st.1 < 10000 → ∀ M', Fk B M0 M' dA dJ →
    G E B cX7_best (RX7, 9, some .int, rmD 6, 0, 0, KM E B F) 68 [(0, .ref (B + 80)), (1, .int (nI q)), (2, .int (nI c)), (3, .int w), (4, .int (nI st.2)), (5, .int (bI st.1)), (6, .int (nI j)), (7, .int (nI s))] [] M' := by
  have hob := ho.2.1.1 q hq
  have h12 := hob.2.2.1
  have hok : okB b' := by
    rw [hb]
    split
    · exact ⟨hob.1, hob.2.1, hob.2.2.1, fun i => by show turnW _ _ i ≤ 99; unfold turnW; split <;> exact hob.2.2.2 _⟩
    · exact hob
  intro n
  induction n with
  | zero =>
    intro s st h1 hR hst M' hF
    refine g_iload dX7_best_68 rfl ?_
    refine g_bipush dX7_best_70 kB_30 ?_
    refine g_icmp_gtN (tgt := 152) dX7_best_72 (by decide) rfl rfl (by omega) (by omega) (fun c_72 => ?_) (fun c_72 => absurd c_72 (by omega))
    have h9 := hend M' hF
    rw [← hR] at h9
    exact g_le (lvLe_c rfl (lvLe_c rfl (lvLe_c rfl (lvLe_c rfl (lvLe_c rfl (lvLe_c rfl (lvLe_c rfl lvLe_0))))))) h9
  | succ n ih =>
    intro s st h1 hR hst M' hF
    have hw := wBest_le (c := c) (j := j) (s := s) ho hok
    have hb9 : (bstS (wBest y b' c) j s st).1 < 10000 := by
      unfold bstS
      split
      · show wBest y b' c j s + 1 < 10000; omega
      · exact hst
    have ih2 := ih (s + 1) (bstS (wBest y b' c) j s st) (by omega) (bstR_s.symm.trans hR) hb9
    refine g_iload dX7_best_68 rfl ?_
    refine g_bipush dX7_best_70 kB_30 ?_
    refine g_icmp_gtN (tgt := 152) dX7_best_72 (by decide) rfl rfl (by omega) (by omega) (fun c_72 => absurd c_72 (by omega)) (fun c_72 => ?_)
    refine g_aload_n dX7_best_75 rfl rfl ?_
    refine g_iload_n dX7_best_76 rfl rfl ?_
    refine g_callVv dX7_best_77 mi_X7_lays ml_X7_206 (ct_lays (h.2.1.fk hF (by decide) (by decide)) ho.2.1 hq) rfl rfl rfl rfl (Nat.le_of_ble_eq_true rfl) ⟨lt_r rfl, Nat.le_of_ble_eq_true rfl⟩ (fun M77 h77 => ?_)
    obtain ⟨a1, a2, a3⟩ := h77
    have hF2 := hF.tr a3
    refine g_iload_n dX7_best_80 rfl rfl ?_
    refine g_iconst dX7_best_81 kI_1 ?_
    refine g_icmp_ne (tgt := 89) dX7_best_82 (by decide) (fun c_82 => ?_) (fun c_82 => ?_)
    · first | (have c9 : w = nI 1 := c_82; obtain ⟨t1, t2⟩ := h86; rw [if_pos c9] at hb; subst hb; exact g_le (lvLe_c rfl (lvLe_c rfl (lvLe_c rfl (lvLe_c rfl (lvLe_c rfl (lvLe_c rfl (lvLe_c rfl (lvLe_c rfl lvLe_0)))))))) (tl_best89 (wv := turnW (sBs (yN y) q).2.2.1 (sBs (yN y) q).2.2.2) h ho hq hc hj (by omega) hst hok (hF2.tr (t2.up (by decide) (by decide))) (a1.turn t1 t2) ih2)) | (have c9 : ¬ w = nI 1 := c_82; rw [if_neg c9] at hb; subst hb; exact g_le (lvLe_c rfl (lvLe_c rfl (lvLe_c rfl (lvLe_c rfl (lvLe_c rfl (lvLe_c rfl (lvLe_c rfl (lvLe_c rfl lvLe_0)))))))) (tl_best89 (wv := (sBs (yN y) q).2.2.2) h ho hq hc hj (by omega) hst hok hF2 a1 ih2))
    · refine g_aload_n dX7_best_85 rfl rfl ?_
      refine g_callVv dX7_best_86 mi_X7_turnsRow ml_X7_240 (ct_turnsRow h12 a1.1 a1.2.1) rfl rfl rfl rfl (Nat.le_of_ble_eq_true rfl) ⟨lt_r rfl, Nat.le_of_ble_eq_true rfl⟩ (fun M86 h86 => ?_)
      first | (have c9 : w = nI 1 := c_82; obtain ⟨t1, t2⟩ := h86; rw [if_pos c9] at hb; subst hb; exact g_le (lvLe_c rfl (lvLe_c rfl (lvLe_c rfl (lvLe_c rfl (lvLe_c rfl (lvLe_c rfl (lvLe_c rfl (lvLe_c rfl lvLe_0)))))))) (tl_best89 (wv := turnW (sBs (yN y) q).2.2.1 (sBs (yN y) q).2.2.2) h ho hq hc hj (by omega) hst hok (hF2.tr (t2.up (by decide) (by decide))) (a1.turn t1 t2) ih2)) | (have c9 : ¬ w = nI 1 := c_82; rw [if_neg c9] at hb; subst hb; exact g_le (lvLe_c rfl (lvLe_c rfl (lvLe_c rfl (lvLe_c rfl (lvLe_c rfl (lvLe_c rfl (lvLe_c rfl (lvLe_c rfl lvLe_0)))))))) (tl_best89 (wv := (sBs (yN y) q).2.2.2) h ho hq hc hj (by omega) hst hok hF2 a1 ih2))
theorem lp_mbestJ {y : Sys} {q c : Nat} {w : Int32} {b' : Bi} {M0 : MM} {R : Nat × Nat} (h : RM B M0 y) (ho : okY y) (hq : q < sCn (yN y)) (hc : c ≤ 60) (hb : b' = if w = nI 1 then turnB (sBs (yN y) q) else sBs (yN y) q) (hok : okB b') :
    ∀ (n j : Nat) (st : Nat × Nat), n + j = (sBs (yN y) q).2.2.1 + 1 → bstJ (wBest y b' c) n j st = R → st.1 < 10000 → ∀ M', Fk B M0 M' dA dJ →
    G E B cX7_best (RX7, 9, some .int, rmD 6, 0, 0, KM E B (QM B M0 (nI R.2, y))) 54 [(0, .ref (B + 80)), (1, .int (nI q)), (2, .int (nI c)), (3, .int w), (4, .int (nI st.2)), (5, .int (bI st.1)), (6, .int (nI j))] [] M' := by
  have hcn := ho.2.1.2.2.1
  have h12 := (ho.2.1.1 q hq).2.2.1
  intro n
  induction n with
  | zero =>
    intro j st h1 hR hst M' hF
    refine g_iload dX7_best_54 rfl ?_
    refine g_aload_n dX7_best_56 rfl rfl ?_
    refine g_getR dX7_best_57 fl_X7_35 rfl rfl ?_
    refine g_iload_n dX7_best_60 rfl rfl ?_
    refine g_iald dX7_best_61 rfl rfl (by omega) ((congrFun (hF.i (by decide) (by decide)) _).trans (h.2.1.1 q hq).2.2.1) ?_
    refine g_icmp_gtN (tgt := 158) dX7_best_62 (by decide) rfl rfl (by omega) (by omega) (fun c_62 => ?_) (fun c_62 => absurd c_62 (by omega))
    refine g_iload dX7_best_158 rfl ?_
    refine g_iret dX7_best_160 ⟨_, rfl, ?_⟩
    exact QM.s h hF.d (by rw [← hR]; rfl)
  | succ n ih =>
    intro j st h1 hR hst M' hF
    have hend : ∀ M2, Fk B M0 M2 dA dJ → G E B cX7_best (RX7, 9, some .int, rmD 6, 0, 0, KM E B (QM B M0 (nI R.2, y))) 152 [(0, .ref (B + 80)), (1, .int (nI q)), (2, .int (nI c)), (3, .int w), (4, .int (nI (bstR (wBest y b' c) j 31 0 st).2)), (5, .int (bI (bstR (wBest y b' c) j 31 0 st).1)), (6, .int (nI j))] [] M2 := by
      intro M2 hF2
      refine g_iinc dX7_best_152 rfl (inc_nI _) rfl ?_
      refine g_goto (tgt := 54) dX7_best_155 (by decide) ?_
      exact g_le (lvLe_c rfl (lvLe_c rfl (lvLe_c rfl (lvLe_c rfl (lvLe_c rfl (lvLe_c rfl (lvLe_c rfl lvLe_0))))))) (ih (j + 1) (bstR (wBest y b' c) j 31 0 st) (by omega) (bstJ_s.symm.trans hR) (bstR_lt (fun s => wBest_le ho hok) 31 0 st hst) M2 hF2)
    refine g_iload dX7_best_54 rfl ?_
    refine g_aload_n dX7_best_56 rfl rfl ?_
    refine g_getR dX7_best_57 fl_X7_35 rfl rfl ?_
    refine g_iload_n dX7_best_60 rfl rfl ?_
    refine g_iald dX7_best_61 rfl rfl (by omega) ((congrFun (hF.i (by decide) (by decide)) _).trans (h.2.1.1 q hq).2.2.1) ?_
    refine g_icmp_gtN (tgt := 158) dX7_best_62 (by decide) rfl rfl (by omega) (by omega) (fun c_62 => absurd c_62 (by omega)) (fun c_62 => ?_)
    refine g_iconst dX7_best_65 kI_0 ?_
    refine g_istore dX7_best_66 (lt_r rfl) rfl ?_
    exact g_le (lvLe_c rfl (lvLe_c rfl (lvLe_c rfl (lvLe_c rfl (lvLe_c rfl (lvLe_c rfl (lvLe_c rfl (lvLe_c rfl lvLe_0)))))))) (lp_mbestR h ho hq hc (by omega) hb hend 31 0 st rfl rfl hst M' hF)
theorem mx_best {y : Sys} {b c w : Int32} (h : RM B M y) (ho : okY y) : Ct E B yX7_best cX7_best 9 (some .int) 6 [.ref (B + 80), .int b, .int c, .int w] M (QM B M (o_best y b c w)) := by
  have hcn := ho.2.1.2.2.1
  refine Ct.of2 (own := RX7) (lv := [(0, .ref (B + 80)), (1, .int b), (2, .int c), (3, .int w)]) pn_X7 rfl (Nat.le_of_ble_eq_true rfl) rfl ?_
  refine g_aload_n dX7_best_0 rfl rfl ?_
  refine g_iload_n dX7_best_1 rfl rfl ?_
  refine g_callVp dX7_best_2 mi_X7_isBiscuit ml_X7_93 (ct_X7_isBiscuit h.2.1) rfl rfl rfl rfl (Nat.le_of_ble_eq_true rfl) ⟨lt_r rfl, Nat.le_of_ble_eq_true rfl⟩ ?_
  refine g_if_neP (tgt := 14) dX7_best_5 (by decide) (fun c_5 => ?_) (fun c_5 => ?_)
  · refine g_iload_n dX7_best_14 rfl rfl ?_
    refine g_if_lt (tgt := 23) dX7_best_15 (by decide) (fun c_15 => ?_) (fun c_15 => ?_)
    · refine g_aload_n dX7_best_23 rfl rfl ?_
      refine g_bipush dX7_best_24 kB_m5 ?_
      refine g_callVi dX7_best_26 mi_X7_no ml_X7_100 (ct_no (w := 5) h (by decide) (by decide)) rfl rfl rfl rfl (Nat.le_of_ble_eq_true rfl) ⟨lt_r rfl, Nat.le_of_ble_eq_true rfl⟩ (fun x26 M26 h26 => ?_)
      refine g_iret dX7_best_29 ⟨_, rfl, ?_⟩
      first | exact QM.rf (by unfold o_best; rw [if_neg (fun z => z c_5), if_pos (fun z => Int32.not_lt.mpr z.1 c_15)]) h26 | exact QM.rf (by unfold o_best; rw [if_neg (fun z => z c_5), if_pos (fun z => c_20 z.2)]) h26
    · refine g_iload_n dX7_best_18 rfl rfl ?_
      refine g_iconst dX7_best_19 kI_1 ?_
      refine g_icmp_le (tgt := 30) dX7_best_20 (by decide) (fun c_20 => ?_) (fun c_20 => ?_)
      · refine g_aload_n dX7_best_30 rfl rfl ?_
        refine g_iload_n dX7_best_31 rfl rfl ?_
        refine g_callVp dX7_best_32 mi_X7_isLong ml_X7_223 (ct_X7_isLong) rfl rfl rfl rfl (Nat.le_of_ble_eq_true rfl) ⟨lt_r rfl, Nat.le_of_ble_eq_true rfl⟩ ?_
        refine g_if_neP (tgt := 45) dX7_best_35 (by decide) (fun c_35 => ?_) (fun c_35 => ?_)
        · have e9 : o_best y b c w = _ := (if_neg (fun z => z c_5)).trans ((if_neg (fun z => z ⟨Int32.not_lt.mp c_15, c_20⟩)).trans (if_neg (fun z => z c_35)))
          rw [e9]
          obtain ⟨q, hq, rfl, f1⟩ := in_b hcn c_5
          obtain ⟨c', -, hc, rfl, f2⟩ := btw_n (by decide) (by decide) c_35
          rw [f1, f2]
          have hob := ho.2.1.1 q hq
          refine g_iconst dX7_best_45 kI_0 ?_
          refine g_istore dX7_best_46 (lt_r rfl) rfl ?_
          refine g_iconst dX7_best_48 kI_m1 ?_
          refine g_istore dX7_best_49 (lt_r rfl) rfl ?_
          refine g_iconst dX7_best_51 kI_0 ?_
          refine g_istore dX7_best_52 (lt_r rfl) rfl ?_
          exact g_le (lvLe_c rfl (lvLe_c rfl (lvLe_c rfl (lvLe_c rfl (lvLe_c rfl (lvLe_c rfl (lvLe_c rfl lvLe_0))))))) (lp_mbestJ (b' := if w = nI 1 then turnB (sBs (yN y) q) else sBs (yN y) q) (R := bstJ (wBest y (if w = nI 1 then turnB (sBs (yN y) q) else sBs (yN y) q) c') ((sBs (yN y) q).2.2.1 + 1) 0 (0, 0)) h ho hq hc rfl (by split <;> first | exact ⟨hob.1, hob.2.1, hob.2.2.1, fun i => by show turnW _ _ i ≤ 99; unfold turnW; split <;> exact hob.2.2.2 _⟩ | exact hob) ((sBs (yN y) q).2.2.1 + 1) 0 (0, 0) rfl rfl (by decide) M Fk.rf)
        · refine g_aload_n dX7_best_38 rfl rfl ?_
          refine g_bipush dX7_best_39 kB_m6 ?_
          refine g_callVi dX7_best_41 mi_X7_no ml_X7_100 (ct_no (w := 6) h (by decide) (by decide)) rfl rfl rfl rfl (Nat.le_of_ble_eq_true rfl) ⟨lt_r rfl, Nat.le_of_ble_eq_true rfl⟩ (fun x41 M41 h41 => ?_)
          refine g_iret dX7_best_44 ⟨_, rfl, ?_⟩
          exact QM.rf (by unfold o_best; rw [if_neg (fun z => z c_5), if_neg (fun z => z ⟨Int32.not_lt.mp c_15, c_20⟩), if_pos c_35]) h41
      · refine g_aload_n dX7_best_23 rfl rfl ?_
        refine g_bipush dX7_best_24 kB_m5 ?_
        refine g_callVi dX7_best_26 mi_X7_no ml_X7_100 (ct_no (w := 5) h (by decide) (by decide)) rfl rfl rfl rfl (Nat.le_of_ble_eq_true rfl) ⟨lt_r rfl, Nat.le_of_ble_eq_true rfl⟩ (fun x26 M26 h26 => ?_)
        refine g_iret dX7_best_29 ⟨_, rfl, ?_⟩
        first | exact QM.rf (by unfold o_best; rw [if_neg (fun z => z c_5), if_pos (fun z => Int32.not_lt.mpr z.1 c_15)]) h26 | exact QM.rf (by unfold o_best; rw [if_neg (fun z => z c_5), if_pos (fun z => c_20 z.2)]) h26
  · refine g_aload_n dX7_best_8 rfl rfl ?_
    refine g_iconst dX7_best_9 kI_m1 ?_
    refine g_callVi dX7_best_10 mi_X7_no ml_X7_100 (ct_no (w := 1) h (by decide) (by decide)) rfl rfl rfl rfl (Nat.le_of_ble_eq_true rfl) ⟨lt_r rfl, Nat.le_of_ble_eq_true rfl⟩ (fun x10 M10 h10 => ?_)
    refine g_iret dX7_best_13 ⟨_, rfl, ?_⟩
    exact QM.rf (if_pos c_5) h10
end X7K
