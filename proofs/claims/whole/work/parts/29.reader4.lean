section RDR
variable {E : EE} {B : Nat} {M : MM}
def txOf (x : Sh) : Tx := (x.2.2.1, fun i => (x.2.2.2 i).toInt32)
/-- what read comes to -/
def QR (B : Nat) (M : MM) (R : Bool × Nat × Nat × St) : Option Value → MM → Prop := Ri (fun r M2 =>
  (R.1 = true → r = nI R.2.2.1 ∧ M2.1 (B + 53) 6 = -1 ∧ RS B M2 32 R.2.2.2) ∧ (R.1 = false → M2.1 (B + 53) 6 = nI R.2.1) ∧ Sm B M M2 32 56)
theorem readF_s {T : Tx} {n it p : Nat} {s : St} : readF T (n + 1) it p s = if (itemF T s p).1 = true then (if (itemF T s p).2.1 < T.1 then (if ltr T (itemF T s p).2.1 = nI 59 then readF T n (it + 1) ((itemF T s p).2.1 + 1) (itemF T s p).2.2 else (false, (itemF T s p).2.1, it + 1, (itemF T s p).2.2)) else (true, 0, it + 1, (itemF T s p).2.2)) else (false, (itemF T s p).2.1, it, s) := rfl
theorem item_7 {T : Tx} {s : St} {p : Nat} (h : (wordF T p 7 0 0).1 = 7) : itemF T s p = (false, p + (wordF T p 7 0 0).2, s) := if_pos h
theorem item_0 {T : Tx} {s : St} {p : Nat} (h : (wordF T p 7 0 0).1 < 7) (h2 : (wordF T p 7 0 0).1 = 0 ∧ ¬ sCn s < 6) : itemF T s p = (false, p, s) := by
  unfold itemF
  dsimp only
  rw [if_neg (by omega), if_pos h2]
theorem item_n {T : Tx} {s : St} {p w : Nat} (hw : (wordF T p 7 0 0).1 = w) (h : w < 7) (h2 : ¬ (w = 0 ∧ ¬ sCn s < 6)) : itemF T s p = if (numsF T s w (nOf w) 0 (p + sL w) (fun _ => 0)).1 = true then (true, (numsF T s w (nOf w) 0 (p + sL w) (fun _ => 0)).2.1, tellS s w (numsF T s w (nOf w) 0 (p + sL w) (fun _ => 0)).2.2) else (false, (numsF T s w (nOf w) 0 (p + sL w) (fun _ => 0)).2.1, s) := by
  subst hw
  unfold itemF
  dsimp only
  rw [if_neg (by omega), if_neg h2]
/-- the text is taken over: the loop -/
theorem lp_X3_text {k cn : Nat} {x : Sh} {F : Option Value → MM → Prop} (hh : isH k) (hx : RH B M k x) (hox : okH cn x) (hk : 56 ≤ k) (hend : ∀ M', (∀ j, j < 160 → M'.1 (B + 54) j = (elI x (nI j)).toInt32) → Sm B M M' 54 55 → G E B cX3_read (RX3, 6, some .int, rmD 5, 0, 0, KM E B F) 27 [(0, .ref (B + 53)), (1, .ref (B + k))] [] M') : ∀ (n i : Nat), n + i = 160 → ∀ M', (∀ j, j < i → M'.1 (B + 54) j = (elI x (nI j)).toInt32) → Sm B M M' 54 55 →
    G E B cX3_read (RX3, 6, some .int, rmD 5, 0, 0, KM E B F) 2 [(0, .ref (B + 53)), (1, .ref (B + k)), (2, .int (nI i))] [] M' := by
  intro n
  induction n with
  | zero =>
    intro i h1 M' h2 h3
    refine g_iload_n dX3_read_2 rfl rfl ?_
    refine g_sipush dX3_read_3 kS_160 ?_
    refine g_icmp_geN (tgt := 27) dX3_read_6 (by decide) rfl rfl (by omega) (by omega) (fun c_6 => ?_) (fun c_6 => absurd c_6 (by omega))
    exact g_le (lvLe_c rfl (lvLe_c rfl lvLe_0)) (hend M' (fun j hj => h2 j (by omega)) h3)
  | succ n ih =>
    intro i h1 M' h2 h3
    refine g_iload_n dX3_read_2 rfl rfl ?_
    refine g_sipush dX3_read_3 kS_160 ?_
    refine g_icmp_geN (tgt := 27) dX3_read_6 (by decide) rfl rfl (by omega) (by omega) (fun c_6 => absurd c_6 (by omega)) (fun c_6 => ?_)
    refine g_aload_n dX3_read_9 rfl rfl ?_
    refine g_getR dX3_read_10 fl_X3_9 rfl rfl ?_
    refine g_iload_n dX3_read_13 rfl rfl ?_
    refine g_aload_n dX3_read_14 rfl rfl ?_
    refine g_iload_n dX3_read_15 rfl rfl ?_
    refine g_callVl dX3_read_16 mi_X4_elementAt ml_X3_30 (ct_X4_elementAt hh (hx.sm h3 (by omega)) hox) hh.1 rfl rfl rfl (Nat.le_of_ble_eq_true rfl) ⟨lt_r rfl, Nat.le_of_ble_eq_true rfl⟩ (fun x16 M16 h16 => ?_)
    obtain ⟨rfl, rfl⟩ := h16
    refine g_l2i dX3_read_19 rfl ?_
    refine g_iast dX3_read_20 rfl rfl (by omega) ?_
    refine g_iinc dX3_read_21 rfl (inc_nI _) rfl ?_
    refine g_goto (tgt := 2) dX3_read_24 (by decide) (g_le (lvLe_c rfl (lvLe_c rfl (lvLe_c rfl lvLe_0))) (ih (i + 1) (by omega) _ (fun j hj => ?_) (h3.tr (Sm.pI (by omega) (by omega)))))
    rw [upI_at]
    split
    · rename_i e; rw [e]
    · exact h2 j (by omega)
/-- with no more to come the loop ends -/
theorem tl_X3_read {it i : Nat} {F : Option Value → MM → Prop} (h1 : i ≤ 160) (hF : F (some (.int (nI it))) M) : G E B cX3_read (RX3, 6, some .int, rmD 5, 0, 0, KM E B F) 52 [(0, .ref (B + 53)), (2, .int (nI it)), (3, .int (nI 0)), (4, .int (nI i))] [] M := by
  refine g_iload dX3_read_52 rfl ?_
  refine g_sipush dX3_read_54 kS_160 ?_
  refine g_icmp_geN (tgt := 162) dX3_read_57 (by decide) rfl rfl (by omega) (by omega) (fun c_57 => ?_) (fun c_57 => ?_)
  · refine g_iload_n dX3_read_162 rfl rfl ?_
    exact g_iret dX3_read_163 hF
  · refine g_iload_n dX3_read_60 rfl rfl ?_
    refine g_if_eqN (tgt := 162) dX3_read_61 (by decide) rfl (by omega) (fun c_61 => ?_) (fun c_61 => absurd c_61 (by omega))
    refine g_iload_n dX3_read_162 rfl rfl ?_
    exact g_iret dX3_read_163 hF
theorem lp_X3_read {T : Tx} {R : Bool × Nat × Nat × St} (hT : T.1 ≤ 160) : ∀ (n i p : Nat) (s : St), n + i = 160 → p < 30 * i + 1 → okSt s → readF T n i p s = R → ∀ M', RR B M' T p → RS B M' 32 s → Sm B M M' 32 56 → M'.1 (B + 53) 6 = -1 →
    G E B cX3_read (RX3, 6, some .int, rmD 5, 0, 0, KM E B (QR B M R)) 52 [(0, .ref (B + 53)), (2, .int (nI i)), (3, .int (nI 1)), (4, .int (nI i))] [] M' := by
  intro n
  induction n with
  | zero =>
    intro i p s h1 hp ho h2 M' h hS hM hf
    subst h2
    refine g_iload dX3_read_52 rfl ?_
    refine g_sipush dX3_read_54 kS_160 ?_
    refine g_icmp_geN (tgt := 162) dX3_read_57 (by decide) rfl rfl (by omega) (by omega) (fun c_57 => ?_) (fun c_57 => absurd c_57 (by omega))
    refine g_iload_n dX3_read_162 rfl rfl ?_
    refine g_iret dX3_read_163 ⟨_, rfl, ?_⟩
    exact ⟨fun _ => ⟨rfl, hf, hS⟩, (fun z => by cases z), hM⟩
  | succ n ih =>
    intro i p s h1 hp ho h2 M' h hS hM hf
    rw [readF_s] at h2
    have hwl := wordF_le (T := T) (p := p) 7 0 0 rfl (by decide)
    -- no word, or no room for it
    have fail : ∀ M2, (itemF T s p).1 = false → M2.1 (B + 53) 6 = nI (itemF T s p).2.1 → Sm B M M2 32 56 → G E B cX3_read (RX3, 6, some .int, rmD 5, 0, 0, KM E B (QR B M R)) 68 [(0, .ref (B + 53)), (2, .int (nI i)), (4, .int (nI i))] [.int (-1)] M2 := by
      intro M2 e1 e2 e3
      rw [e1] at h2
      refine g_istore dX3_read_68 (lt_r rfl) rfl ?_
      refine g_aload_n dX3_read_70 rfl rfl ?_
      refine g_iload dX3_read_71 rfl ?_
      refine g_callVp dX3_read_73 mi_X3_readNumbers ml_X3_47 (ct_X3_readNumbers_m1) rfl rfl rfl rfl (Nat.le_of_ble_eq_true rfl) ⟨lt_r rfl, Nat.le_of_ble_eq_true rfl⟩ ?_
      refine g_if_ne (tgt := 81) dX3_read_76 (by decide) (fun c_76 => absurd rfl c_76) (fun c_76 => ?_)
      refine g_iload_n dX3_read_79 rfl rfl ?_
      refine g_iret dX3_read_80 ⟨_, rfl, ?_⟩
      rw [if_neg (by decide)] at h2
      subst h2
      exact ⟨(fun z => by cases z), fun _ => e2, e3⟩
    -- behind an item
    have next : ∀ M2 s2 q, itemF T s p = (true, q, s2) → q < 30 * (i + 1) → okSt s2 → RR B M2 T q → RS B M2 32 s2 → Sm B M M2 32 56 → M2.1 (B + 53) 6 = -1 → G E B cX3_read (RX3, 6, some .int, rmD 5, 0, 0, KM E B (QR B M R)) 127 [(0, .ref (B + 53)), (2, .int (nI i)), (4, .int (nI i))] [] M2 := by
      intro M2 s2 q e1 hq ho2 r1 r2 r3 r4
      rw [e1] at h2
      rw [if_pos rfl] at h2
      refine g_iinc dX3_read_127 rfl (inc_nI _) rfl ?_
      refine g_aload_n dX3_read_130 rfl rfl ?_
      refine g_getI dX3_read_131 fl_X3_40 rfl rfl (r1.2.2) ?_
      refine g_aload_n dX3_read_134 rfl rfl ?_
      refine g_getI dX3_read_135 fl_X3_39 rfl rfl (r1.1) ?_
      refine g_icmp_geN (tgt := 154) dX3_read_138 (by decide) rfl rfl (by omega) (by omega) (fun c_138 => ?_) (fun c_138 => ?_)
      · skip
        refine g_iconst dX3_read_154 kI_0 ?_
        refine g_istore_n dX3_read_155 rfl (lt_r rfl) rfl ?_
        refine g_iinc dX3_read_156 rfl (inc_nI _) rfl ?_
        refine g_goto (tgt := 52) dX3_read_159 (by decide) ?_
        first | (rw [if_neg (show ¬ q < T.1 by omega)] at h2; subst h2; exact g_le (lvLe_c rfl (lvLe_c rfl (lvLe_c rfl (lvLe_c rfl lvLe_0)))) (tl_X3_read (by omega) ⟨_, rfl, fun _ => ⟨rfl, r4, r2⟩, (fun z => by cases z), r3⟩)) | (rw [if_pos c_138, if_pos a1] at h2; exact g_le (lvLe_c rfl (lvLe_c rfl (lvLe_c rfl (lvLe_c rfl lvLe_0)))) (ih (i + 1) (q + 1) s2 (by omega) (by omega) ho2 h2 M144 a3 (r2.sm ho2 h144.2 (by omega)) (r3.tr (h144.2.up (by omega) (by omega))) (a4.trans r4))) | (obtain ⟨b1, b2, b3, b4⟩ := h144.1.resolve_left (fun z => absurd (z.2.1.symm.trans c_147) (by decide)); rw [if_pos c_138, if_neg b1] at h2; subst h2; exact g_le (lvLe_c rfl (lvLe_c rfl (lvLe_c rfl (lvLe_c rfl lvLe_0)))) (tl_X3_read (by omega) ⟨_, rfl, fun z => (by cases z), fun _ => b4, r3.tr (h144.2.up (by omega) (by omega))⟩))
      · refine g_aload_n dX3_read_141 rfl rfl ?_
        refine g_bipush dX3_read_142 kB_59 ?_
        refine g_callVi dX3_read_144 mi_X3_takes ml_X3_61 (ct_X3_takes r1 hT (by omega)) rfl rfl rfl rfl (Nat.le_of_ble_eq_true rfl) ⟨lt_r rfl, Nat.le_of_ble_eq_true rfl⟩ (fun x144 M144 h144 => ?_)
        refine g_if_eq (tgt := 154) dX3_read_147 (by decide) (fun c_147 => ?_) (fun c_147 => ?_)
        · skip
          refine g_iconst dX3_read_154 kI_0 ?_
          refine g_istore_n dX3_read_155 rfl (lt_r rfl) rfl ?_
          refine g_iinc dX3_read_156 rfl (inc_nI _) rfl ?_
          refine g_goto (tgt := 52) dX3_read_159 (by decide) ?_
          first | (rw [if_neg (show ¬ q < T.1 by omega)] at h2; subst h2; exact g_le (lvLe_c rfl (lvLe_c rfl (lvLe_c rfl (lvLe_c rfl lvLe_0)))) (tl_X3_read (by omega) ⟨_, rfl, fun _ => ⟨rfl, r4, r2⟩, (fun z => by cases z), r3⟩)) | (rw [if_pos c_138, if_pos a1] at h2; exact g_le (lvLe_c rfl (lvLe_c rfl (lvLe_c rfl (lvLe_c rfl lvLe_0)))) (ih (i + 1) (q + 1) s2 (by omega) (by omega) ho2 h2 M144 a3 (r2.sm ho2 h144.2 (by omega)) (r3.tr (h144.2.up (by omega) (by omega))) (a4.trans r4))) | (obtain ⟨b1, b2, b3, b4⟩ := h144.1.resolve_left (fun z => absurd (z.2.1.symm.trans c_147) (by decide)); rw [if_pos c_138, if_neg b1] at h2; subst h2; exact g_le (lvLe_c rfl (lvLe_c rfl (lvLe_c rfl (lvLe_c rfl lvLe_0)))) (tl_X3_read (by omega) ⟨_, rfl, fun z => (by cases z), fun _ => b4, r3.tr (h144.2.up (by omega) (by omega))⟩))
        · obtain ⟨a1, a2, a3, a4⟩ := h144.1.resolve_right (fun z => c_147 z.2.1)
          refine g_iconst dX3_read_150 kI_1 ?_
          refine g_goto (tgt := 155) dX3_read_151 (by decide) ?_
          refine g_istore_n dX3_read_155 rfl (lt_r rfl) rfl ?_
          refine g_iinc dX3_read_156 rfl (inc_nI _) rfl ?_
          refine g_goto (tgt := 52) dX3_read_159 (by decide) ?_
          first | (rw [if_neg (show ¬ q < T.1 by omega)] at h2; subst h2; exact g_le (lvLe_c rfl (lvLe_c rfl (lvLe_c rfl (lvLe_c rfl lvLe_0)))) (tl_X3_read (by omega) ⟨_, rfl, fun _ => ⟨rfl, r4, r2⟩, (fun z => by cases z), r3⟩)) | (rw [if_pos c_138, if_pos a1] at h2; exact g_le (lvLe_c rfl (lvLe_c rfl (lvLe_c rfl (lvLe_c rfl lvLe_0)))) (ih (i + 1) (q + 1) s2 (by omega) (by omega) ho2 h2 M144 a3 (r2.sm ho2 h144.2 (by omega)) (r3.tr (h144.2.up (by omega) (by omega))) (a4.trans r4))) | (obtain ⟨b1, b2, b3, b4⟩ := h144.1.resolve_left (fun z => absurd (z.2.1.symm.trans c_147) (by decide)); rw [if_pos c_138, if_neg b1] at h2; subst h2; exact g_le (lvLe_c rfl (lvLe_c rfl (lvLe_c rfl (lvLe_c rfl lvLe_0)))) (tl_X3_read (by omega) ⟨_, rfl, fun z => (by cases z), fun _ => b4, r3.tr (h144.2.up (by omega) (by omega))⟩))
    -- a word
    have word : ∀ M2 w, (wordF T p 7 0 0).1 = w → w < 7 → ¬ (w = 0 ∧ ¬ sCn s < 6) → RR B M2 T (p + sL w) → RS B M2 32 s → Sm B M M2 32 56 → M2.1 (B + 53) 6 = -1 → G E B cX3_read (RX3, 6, some .int, rmD 5, 0, 0, KM E B (QR B M R)) 68 [(0, .ref (B + 53)), (2, .int (nI i)), (4, .int (nI i))] [.int (nI w)] M2 := by
      intro M2 w e0 e1 e2 r1 r2 r3 r4
      have h8 := (s_all w e1).1
      have hit := item_n (s := s) e0 e1 e2
      have hok := numsF_ok (T := T) (s := s) (w := w) (nOf w) 0 (p + sL w) (fun _ => 0) (fun j hj => absurd hj (Nat.not_lt_zero j))
      rw [Nat.zero_add] at hok
      have hn3 : nOf w ≤ 3 := by
        unfold nOf
        repeat' split
        all_goals omega
      refine g_istore dX3_read_68 (lt_r rfl) rfl ?_
      refine g_aload_n dX3_read_70 rfl rfl ?_
      refine g_iload dX3_read_71 rfl ?_
      refine g_callVi dX3_read_73 mi_X3_readNumbers ml_X3_47 (ct_X3_readNumbers r1 hT (by omega) r2 ho e1) rfl rfl rfl rfl (Nat.le_of_ble_eq_true rfl) ⟨lt_r rfl, Nat.le_of_ble_eq_true rfl⟩ (fun x73 M73 h73 => ?_)
      refine g_if_ne (tgt := 81) dX3_read_76 (by decide) (fun c_76 => ?_) (fun c_76 => ?_)
      · obtain ⟨b1, b2, b3, b4, b5⟩ := h73.1.resolve_right (fun z => c_76 z.2.1)
        rw [if_pos b1] at hit
        obtain ⟨k1, k2, k3⟩ := hok b1
        have hS2 : RS B M73 32 s := r2.sm ho h73.2 (by omega)
        have ho2 := ok_tell ho e1 e2 k1
        refine g_iload dX3_read_81 rfl ?_
        refine g_bipush dX3_read_83 kB_6 ?_
        refine g_icmp_neN (tgt := 121) dX3_read_85 (by decide) rfl rfl (by omega) (by omega) (fun c_85 => ?_) (fun c_85 => ?_)
        · refine g_aload_n dX3_read_121 rfl rfl ?_
          refine g_iload dX3_read_122 rfl ?_
          refine g_callVv dX3_read_124 mi_X3_tell ml_X3_57 (ct_X3_tell hS2 ho (by omega) e2 k1 b4) rfl rfl rfl rfl (Nat.le_of_ble_eq_true rfl) ⟨lt_r rfl, Nat.le_of_ble_eq_true rfl⟩ (fun M124 h124 => ?_)
          first | exact g_le (lvLe_c rfl (lvLe_c rfl (lvLe_c rfl lvLe_0))) (next M124 _ _ hit (by omega) ho2 (b3.sm h124.2 (by omega)) h124.1 ((r3.tr (h73.2.up (by omega) (by omega))).tr (h124.2.up (by omega) (by omega))) (by rw [h124.2.i (by omega)]; exact b5.trans r4)) | exact g_le (lvLe_c rfl (lvLe_c rfl (lvLe_c rfl lvLe_0))) (next M114 _ _ hit (by omega) ho2 ⟨by rw [(d3 53 (by omega) (by omega)).1]; exact b3.1, by rw [(d3 54 (by omega) (by omega)).1]; exact b3.2.1, by rw [(d3 53 (by omega) (by omega)).1]; exact b3.2.2⟩ d2 ((r3.tr (h73.2.up (by omega) (by omega))).tr (fun q hq => d3 q (by omega) (by omega))) (by rw [(d3 53 (by omega) (by omega)).1]; exact b5.trans r4))
        · refine g_aload_n dX3_read_88 rfl rfl ?_
          refine g_getR dX3_read_89 fl_X3_22 rfl rfl ?_
          refine g_aload_n dX3_read_92 rfl rfl ?_
          refine g_getR dX3_read_93 fl_X3_15 rfl rfl ?_
          refine g_iconst dX3_read_96 kI_0 ?_
          subst c_85
          refine g_iald dX3_read_97 rfl rfl (by omega) (b4 0 (by decide)) ?_
          refine g_aload_n dX3_read_98 rfl rfl ?_
          refine g_getR dX3_read_99 fl_X3_15 rfl rfl ?_
          refine g_iconst dX3_read_102 kI_1 ?_
          refine g_iald dX3_read_103 rfl rfl (by omega) (b4 1 (by decide)) ?_
          refine g_aload_n dX3_read_104 rfl rfl ?_
          refine g_getR dX3_read_105 fl_X3_15 rfl rfl ?_
          refine g_iconst dX3_read_108 kI_2 ?_
          refine g_iald dX3_read_109 rfl rfl (by omega) (b4 2 (by decide)) ?_
          refine g_aload_n dX3_read_110 rfl rfl ?_
          refine g_getR dX3_read_111 fl_X3_26 rfl rfl ?_
          refine g_callVi dX3_read_114 mi_X5_dipInTruth ml_X3_51 (ct_X5_dipInTruth isS_32 isD_47 (by omega) hS2 ho (on_60.mp (k1 0 (by decide))).1 (on_61.mp (k1 1 (by decide))) (on_62.mp (k1 2 (by decide)))) isS_32.1 rfl rfl rfl (Nat.le_of_ble_eq_true rfl) ⟨lt_r rfl, Nat.le_of_ble_eq_true rfl⟩ (fun x114 M114 h114 => ?_)
          obtain ⟨-, d2, d3⟩ := h114
          refine g_pop dX3_read_117 rfl ?_
          refine g_goto (tgt := 127) dX3_read_118 (by decide) ?_
          first | exact g_le (lvLe_c rfl (lvLe_c rfl (lvLe_c rfl lvLe_0))) (next M124 _ _ hit (by omega) ho2 (b3.sm h124.2 (by omega)) h124.1 ((r3.tr (h73.2.up (by omega) (by omega))).tr (h124.2.up (by omega) (by omega))) (by rw [h124.2.i (by omega)]; exact b5.trans r4)) | exact g_le (lvLe_c rfl (lvLe_c rfl (lvLe_c rfl lvLe_0))) (next M114 _ _ hit (by omega) ho2 ⟨by rw [(d3 53 (by omega) (by omega)).1]; exact b3.1, by rw [(d3 54 (by omega) (by omega)).1]; exact b3.2.1, by rw [(d3 53 (by omega) (by omega)).1]; exact b3.2.2⟩ d2 ((r3.tr (h73.2.up (by omega) (by omega))).tr (fun q hq => d3 q (by omega) (by omega))) (by rw [(d3 53 (by omega) (by omega)).1]; exact b5.trans r4))
      · refine g_iload_n dX3_read_79 rfl rfl ?_
        refine g_iret dX3_read_80 ⟨_, rfl, ?_⟩
        obtain ⟨b1, b2, b3⟩ := h73.1.resolve_left (fun z => absurd (z.2.1.symm.trans c_76) (by decide))
        rw [if_neg (by rw [b1]; decide)] at hit
        rw [hit, if_neg (fun z : false = true => by cases z)] at h2
        subst h2
        exact ⟨(fun z => by cases z), fun _ => b3, r3.tr (h73.2.up (by omega) (by omega))⟩
    refine g_iload dX3_read_52 rfl ?_
    refine g_sipush dX3_read_54 kS_160 ?_
    refine g_icmp_geN (tgt := 162) dX3_read_57 (by decide) rfl rfl (by omega) (by omega) (fun c_57 => absurd c_57 (by omega)) (fun c_57 => ?_)
    refine g_iload_n dX3_read_60 rfl rfl ?_
    refine g_if_eqN (tgt := 162) dX3_read_61 (by decide) rfl (by omega) (fun c_61 => absurd c_61 (by omega)) (fun c_61 => ?_)
    refine g_aload_n dX3_read_64 rfl rfl ?_
    refine g_callVi dX3_read_65 mi_X3_readWord ml_X3_43 (ct_X3_readWord h hT (by omega) hS ho) rfl rfl rfl rfl (Nat.le_of_ble_eq_true rfl) ⟨lt_r rfl, Nat.le_of_ble_eq_true rfl⟩ (fun x65 M65 h65 => ?_)
    refine g_le (lv' := [(0, .ref (B + 53)), (2, .int (nI i)), (4, .int (nI i))]) (lvLe_c rfl (lvLe_c rfl (lvLe_c rfl lvLe_0))) ?_
    obtain ⟨h65, g65⟩ := h65
    have hS2 := hS.sm ho g65 (by omega)
    have hM2 := hM.tr (g65.up (by omega) (by omega))
    rcases h65 with ⟨a1, rfl, a3⟩ | ⟨a1, a2, a3, rfl, a5⟩ | ⟨a1, a2, rfl, a4, a5⟩
    · exact fail M65 (by rw [item_7 a1]) (by rw [item_7 a1]; exact a3) hM2
    · exact fail M65 (by rw [item_0 a1 ⟨a2, a3⟩]) (by rw [item_0 a1 ⟨a2, a3⟩]; exact a5) hM2
    · exact word M65 _ rfl a1 a2 a4 hS2 hM2 (a5.trans hf)
theorem el_lt {x : Sh} {cn j : Nat} (hr : x.1 = 1) (ho : okH cn x) (hj : j < x.2.2.1) : elI x (nI j) = x.2.2.2 j := by
  have := ho.2.1 hr
  unfold elI
  rw [if_pos ⟨hr, nI_pos' (by omega), nI_lt hj (by omega)⟩, nI_clamp (by omega)]
theorem ct_X3_read {k cn : Nat} {x : Sh} {s : St} (hh : isH k) (hx : RH B M k x) (hox : okH cn x) (hr : x.1 = 1) (hk : 56 ≤ k) (hS : RS B M 32 s) (ho : okSt s) : Ct E B yX3_read cX3_read 6 (some .int) 5 [.ref (B + 53), .ref (B + k)] M (QR B M (readF (txOf x) 160 0 0 s)) := by
  have hlen := hox.2.1 hr
  refine Ct.of2 (own := RX3) (lv := [(0, .ref (B + 53)), (1, .ref (B + k))]) pn_X3 rfl (Nat.le_of_ble_eq_true rfl) rfl ?_
  refine g_iconst dX3_read_0 kI_0 ?_
  refine g_istore_n dX3_read_1 rfl (lt_r rfl) rfl ?_
  refine g_le (lvLe_c rfl (lvLe_c rfl (lvLe_c rfl lvLe_0))) (lp_X3_text hh hx hox hk (fun M' a1 a2 => ?_) 160 0 rfl M (fun j hj => absurd hj (Nat.not_lt_zero j)) Sm.rf)
  refine g_aload_n dX3_read_27 rfl rfl ?_
  refine g_aload_n dX3_read_28 rfl rfl ?_
  refine g_getI dX3_read_29 fl_X3_36 hh.1 rfl (((congrFun (a2.i (by omega)) 2).trans (hx.2.1.trans (if_pos hr)))) ?_
  refine g_putI dX3_read_32 fp_X3_39 rfl rfl ?_
  refine g_aload_n dX3_read_35 rfl rfl ?_
  refine g_iconst dX3_read_36 kI_0 ?_
  refine g_putI dX3_read_37 fp_X3_40 rfl rfl ?_
  refine g_aload_n dX3_read_40 rfl rfl ?_
  refine g_iconst dX3_read_41 kI_m1 ?_
  refine g_putI dX3_read_42 fp_X3_18 rfl rfl ?_
  refine g_iconst dX3_read_45 kI_0 ?_
  refine g_istore_n dX3_read_46 rfl (lt_r rfl) rfl ?_
  refine g_iconst dX3_read_47 kI_1 ?_
  refine g_istore_n dX3_read_48 rfl (lt_r rfl) rfl ?_
  refine g_iconst dX3_read_49 kI_0 ?_
  refine g_istore dX3_read_50 (lt_r rfl) rfl ?_
  refine g_le (lvLe_c rfl (lvLe_c rfl (lvLe_c rfl (lvLe_c rfl lvLe_0)))) (lp_X3_read (T := txOf x) hlen.2 160 0 0 s rfl (by decide) ho rfl _ ⟨?_, fun i hi => ?_, ?_⟩ ?_ ?_ ?_)
  · simp [upI_at]; rfl
  · have hi : i < x.2.2.1 := hi
    rw [upI_ap (by omega), upI_ap (by omega), upI_ap (by omega), a1 i (by omega), el_lt hr hox hi]; rfl
  · simp [upI_at]
  · exact (((hS.sm ho a2 (by omega)).sm ho (Sm.pI (Nat.le_refl 53) (Nat.lt_succ_self _)) (by omega)).sm ho (Sm.pI (Nat.le_refl 53) (Nat.lt_succ_self _)) (by omega)).sm ho (Sm.pI (Nat.le_refl 53) (Nat.lt_succ_self _)) (by omega)
  · exact ((a2.up (by omega) (by omega)).tr (Sm.pI (by omega) (by omega))).tr (Sm.tr (Sm.pI (by omega) (by omega)) (Sm.pI (by omega) (by omega)))
  · simp [upI_at]
end RDR
