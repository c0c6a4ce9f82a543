/-! the model reads: words -/
def woL : List Nat := [0, 9, 14, 20, 26, 31, 38, 43]
def wo (w : Nat) : Nat := woL.getD w 43
theorem wo_all : ∀ w, w < 7 → wo (w + 1) = wo w + sL w + 2 ∧ wo w + sL w + 2 ≤ 43 ∧ 1 ≤ sL w ∧ sL w ≤ 7 ∧ wdF (wo w + sL w) = 32 ∧ wdF (wo w + sL w + 1) = 0 ∧ ∀ k, k < sL w → sC w k = nI (wdF (wo w + k)) ∧ 33 ≤ wdF (wo w + k) ∧ wdF (wo w + k) < 128 := by decide +kernel
/-- no other word begins so -/
theorem wo_first' : ∀ w, w < 7 → ∀ w', w' < 7 → (w = w' ∨ ¬ sC w 0 = sC w' 0 ∨ (2 ≤ sL w ∧ 2 ≤ sL w' ∧ ¬ sC w 1 = sC w' 1)) := by decide +kernel
theorem wo_first (w : Nat) (hw : w < 7) (w' : Nat) (hw' : w' < 7) (hne : w ≠ w') (h : sC w 0 = sC w' 0) : 2 ≤ sL w ∧ 2 ≤ sL w' ∧ ¬ sC w 1 = sC w' 1 := by
  rcases wo_first' w hw w' hw' with c | c | c
  · exact absurd c hne
  · exact absurd h c
  · exact c
def prefM (T : Tx) (p w : Nat) : Nat → Nat → Nat
  | 0, k => k
  | f + 1, k => if k < sL w + 1 ∧ ltr T (p + k) = nI (wdF (wo w + k)) then prefM T p w f (k + 1) else k
theorem prefM_s {T : Tx} {p w f k : Nat} : prefM T p w (f + 1) k = if k < sL w + 1 ∧ ltr T (p + k) = nI (wdF (wo w + k)) then prefM T p w f (k + 1) else k := rfl
theorem prefN_s {T : Tx} {p w f k : Nat} : prefN T p w (f + 1) k = if k < sL w ∧ ltr T (p + k) = sC w k then prefN T p w f (k + 1) else k := rfl
theorem prefM_le {T : Tx} {p w : Nat} : ∀ (f k : Nat), k ≤ sL w + 1 → prefM T p w f k ≤ sL w + 1
  | 0, k, h => h
  | f + 1, k, h => by
    rw [prefM_s]
    split
    · rename_i q
      exact prefM_le f (k + 1) (by omega)
    · exact h
theorem prefM_eq {T : Tx} {p w : Nat} (hw : w < 7) : ∀ (f k : Nat), k ≤ sL w → sL w ≤ f + k → prefM T p w (f + 1) k = if prefN T p w f k = sL w then (if ltr T (p + sL w) = nI 32 then sL w + 1 else sL w) else prefN T p w f k
  | 0, k, h1, h2 => by
    have e : k = sL w := by omega
    obtain ⟨-, -, -, -, w5, -, -⟩ := wo_all w hw
    subst e
    have e2 : prefN T p w 0 (sL w) = sL w := rfl
    rw [prefM_s, e2, if_pos rfl, w5]
    by_cases c : ltr T (p + sL w) = nI 32
    · rw [if_pos c, if_pos ⟨by omega, c⟩]; rfl
    · rw [if_neg c, if_neg (fun z => c z.2)]
  | f + 1, k, h1, h2 => by
    obtain ⟨-, -, -, -, w5, -, w7⟩ := wo_all w hw
    by_cases e : k = sL w
    · subst e
      have eN : prefN T p w (f + 1) (sL w) = sL w := if_neg (fun z => Nat.lt_irrefl _ z.1)
      rw [eN, if_pos rfl, prefM_s, w5]
      by_cases c : ltr T (p + sL w) = nI 32
      · rw [if_pos c, if_pos ⟨by omega, c⟩, prefM_s, if_neg (by omega)]
      · rw [if_neg c, if_neg (fun z => c z.2)]
    · have hk : k < sL w := by omega
      by_cases c : ltr T (p + k) = sC w k
      · have eN : prefN T p w (f + 1) k = prefN T p w f (k + 1) := if_pos ⟨hk, c⟩
        have eM : prefM T p w (f + 1 + 1) k = prefM T p w (f + 1) (k + 1) := if_pos ⟨by omega, by rw [c]; exact (w7 k hk).1⟩
        rw [eN, eM]
        exact prefM_eq hw f (k + 1) (by omega) (by omega)
      · have eN : prefN T p w (f + 1) k = k := if_neg (fun z => c z.2)
        have eM : prefM T p w (f + 1 + 1) k = k := if_neg (fun z => c (by rw [z.2]; exact (w7 k hk).1.symm))
        rw [eN, eM, if_neg e]
theorem prefN_1 {T : Tx} {p w : Nat} : ∀ (f k : Nat), (∀ j, k ≤ j → j < prefN T p w f k → ltr T (p + j) = sC w j)
  | 0, k, j, h1, h2 => by
    have h2 : j < k := h2
    omega
  | f + 1, k, j, h1, h2 => by
    rw [prefN_s] at h2
    split at h2
    · rename_i q
      by_cases e : j = k
      · subst e; exact q.2
      · exact prefN_1 f (k + 1) j (by omega) h2
    · omega
theorem pref_two {T : Tx} {p w w' : Nat} (hw : w < 7) (hw' : w' < 7) (hne : w ≠ w') (h : prefN T p w 8 0 = sL w) : prefN T p w' 8 0 ≤ 1 := by
  obtain ⟨-, -, l1, -⟩ := wo_all w hw
  obtain ⟨-, -, l2, -⟩ := wo_all w' hw'
  have a := prefN_1 (T := T) (p := p) (w := w) 8 0
  have b := prefN_1 (T := T) (p := p) (w := w') 8 0
  by_cases c : prefN T p w' 8 0 ≤ 1
  · exact c
  · exfalso
    have e0 := (a 0 (Nat.le_refl _) (by omega)).symm.trans (b 0 (Nat.le_refl _) (by omega))
    obtain ⟨g1, g2, g3⟩ := wo_first w hw w' hw' hne e0
    exact g3 ((a 1 (by omega) (by omega)).symm.trans (b 1 (by omega) (by omega)))
def wordM (T : Tx) (p : Nat) : Nat → Nat → Nat → Nat × Nat
  | 0, _, far => (7, far)
  | n + 1, w, far => if prefM T p w 9 0 = sL w + 1 then (w, sL w + 1) else wordM T p n (w + 1) (max far (prefM T p w 9 0))
theorem wordM_s {T : Tx} {p n w far : Nat} : wordM T p (n + 1) w far = if prefM T p w 9 0 = sL w + 1 then (w, sL w + 1) else wordM T p n (w + 1) (max far (prefM T p w 9 0)) := rfl
theorem wordF_s {T : Tx} {p n w far : Nat} : wordF T p (n + 1) w far = if prefN T p w 8 0 = sL w then (w, 0) else wordF T p n (w + 1) (max far (prefN T p w 8 0)) := rfl
def wordR (T : Tx) (p : Nat) : Nat × Nat := if (wordF T p 7 0 0).1 = 7 then (7, (wordF T p 7 0 0).2) else if ltr T (p + sL (wordF T p 7 0 0).1) = nI 32 then ((wordF T p 7 0 0).1, sL (wordF T p 7 0 0).1 + 1) else (7, sL (wordF T p 7 0 0).1)
theorem wordF_7 {T : Tx} {p : Nat} : ∀ (n w far : Nat), n + w = 7 → (wordF T p n w far).1 = 7 → wordM T p n w far = (7, (wordF T p n w far).2)
  | 0, w, far, _, _ => rfl
  | n + 1, w, far, h, h7 => by
    have hw := (wo_all w (by omega)).2.2.2.1
    rw [wordF_s] at h7 ⊢
    by_cases c : prefN T p w 8 0 = sL w
    · rw [if_pos c] at h7
      have : w = 7 := h7
      omega
    · rw [if_neg c] at h7 ⊢
      have e := prefM_eq (T := T) (p := p) (w := w) (by omega) 8 0 (Nat.zero_le _) (by omega)
      rw [if_neg c] at e
      have l := (prefN_le (T := T) (p := p) (w := w) 8 0 (Nat.zero_le _)).2
      rw [wordM_s, e, if_neg (by omega)]
      exact wordF_7 n (w + 1) _ (by omega) h7
theorem wordF_hit {T : Tx} {p : Nat} : ∀ (n w far : Nat), n + w = 7 → (wordF T p n w far).1 ≠ 7 → (wordF T p n w far).1 < 7 ∧ w ≤ (wordF T p n w far).1 ∧ prefN T p (wordF T p n w far).1 8 0 = sL (wordF T p n w far).1
  | 0, w, far, _, h => absurd rfl h
  | n + 1, w, far, h, h7 => by
    rw [wordF_s] at h7 ⊢
    by_cases c : prefN T p w 8 0 = sL w
    · rw [if_pos c]; exact ⟨by show w < 7; omega, Nat.le_refl w, c⟩
    · rw [if_neg c] at h7 ⊢
      obtain ⟨a1, a2, a3⟩ := wordF_hit n (w + 1) _ (by omega) h7
      exact ⟨a1, by omega, a3⟩
theorem wordM_b {T : Tx} {p w0 : Nat} (hw0 : w0 < 7) (h0 : prefN T p w0 8 0 = sL w0) : ∀ (n w far : Nat), n + w = 7 → (w ≤ w0 → far ≤ 1) → (w0 < w → far = sL w0 ∧ ¬ ltr T (p + sL w0) = nI 32) → wordM T p n w far = if ltr T (p + sL w0) = nI 32 then (w0, sL w0 + 1) else (7, sL w0)
  | 0, w, far, h, h1, h2 => by
    obtain ⟨a1, a2⟩ := h2 (by omega)
    rw [if_neg a2, a1]; rfl
  | n + 1, w, far, h, h1, h2 => by
    have hl := wo_all w (by omega)
    have hl0 := (wo_all w0 hw0).2.2.1
    have e := prefM_eq (T := T) (p := p) (w := w) (by omega) 8 0 (Nat.zero_le _) (by omega)
    rw [wordM_s]
    by_cases c : w = w0
    · subst c
      rw [if_pos h0] at e
      rw [e]
      by_cases d : ltr T (p + sL w) = nI 32
      · rw [if_pos d, if_pos rfl, if_pos d]
      · have := h1 (Nat.le_refl _)
        rw [if_neg d, if_neg (by omega), wordM_b hw0 h0 n (w + 1) _ (by omega) (fun z => by omega) (fun _ => ⟨by omega, d⟩), if_neg d]
    · have h9 := pref_two hw0 (show w < 7 by omega) (Ne.symm c) h0
      have hne : ¬ prefN T p w 8 0 = sL w := fun z => by
        have := pref_two (show w < 7 by omega) hw0 c z
        rw [h0] at this
        have g := prefN_1 (T := T) (p := p) (w := w) 8 0
        have g0 := prefN_1 (T := T) (p := p) (w := w0) 8 0
        have g3 := (g 0 (Nat.le_refl _) (by omega)).symm.trans (g0 0 (Nat.le_refl _) (by omega))
        have g4 := wo_first w (by omega) w0 hw0 c g3
        omega
      rw [if_neg hne] at e
      rw [e, if_neg (by omega)]
      refine wordM_b hw0 h0 n (w + 1) _ (by omega) (fun z => ?_) (fun z => ?_)
      · have := h1 (by omega); omega
      · obtain ⟨b1, b2⟩ := h2 (by omega)
        exact ⟨by omega, b2⟩
theorem wordM_R {T : Tx} {p : Nat} : wordM T p 7 0 0 = wordR T p := by
  unfold wordR
  by_cases c : (wordF T p 7 0 0).1 = 7
  · rw [if_pos c]; exact wordF_7 7 0 0 rfl c
  · rw [if_neg c]
    obtain ⟨a1, a2, a3⟩ := wordF_hit 7 0 0 rfl c
    exact wordM_b a1 a3 7 0 0 rfl (fun _ => by omega) (fun z => by omega)
/-- the reader of the model: the text of shelf q -/
def RXm (B : Nat) (M : MM) (q : Nat) (T : Tx) : Prop := M.1 (B + 80) 23 = nI (160 * q) ∧ M.1 (B + 80) 25 = nI T.1 ∧ (∀ i, i < T.1 → (M.2 (B + 91) (160 * q + i)).toInt32 = T.2 i) ∧ ∀ j, j < 43 → M.1 (B + 93) j = nI (wdF j)
theorem RXm.fk {B q : Nat} {M M' : MM} {A J : List Nat} {T : Tx} (h : RXm B M q T) (hF : Fk B M M' A J) (ha : ∀ x ∈ [91, 93], x ∉ A) (hj : ∀ x ∈ [23, 25], x ∉ J) : RXm B M' q T := by
  unfold RXm
  rw [hF.l (ha 91 (by decide)) (by decide), hF.i (ha 93 (by decide)) (by decide), hF.j (hj 23 (by decide)), hF.j (hj 25 (by decide))]
  exact h
theorem ltr_lt {T : Tx} {p : Nat} (h : p < T.1) : ltr T p = T.2 p := if_pos h
theorem ltr_ge {T : Tx} {p : Nat} (h : T.1 ≤ p) : ltr T p = -1 := if_neg (Nat.not_lt.mpr h)
section X7Q
variable {E : EE} {B : Nat} {M : MM}
theorem ct_wrong {x : Int32} : Ct E B yX7_wrong cX7_wrong 2 (some .boolean) 0 [.ref (B + 80), .int x] M (Ri (fun r M2 => r = nI 0 ∧ M2 = upI M (B + 80) 27 x)) := by
  refine Ct.of2 (own := RX7) (lv := [(0, .ref (B + 80)), (1, .int x)]) pn_X7 rfl (Nat.le_of_ble_eq_true rfl) rfl ?_
  refine g_aload_n dX7_wrong_0 rfl rfl ?_
  refine g_iload_n dX7_wrong_1 rfl rfl ?_
  refine g_putI dX7_wrong_2 fp_X7_116 rfl rfl ?_
  refine g_iconst dX7_wrong_5 kI_0 ?_
  refine g_zret dX7_wrong_6 (by first | exact Or.inl rfl | exact Or.inr rfl | exact bp_01) ⟨_, rfl, ?_⟩
  exact ⟨rfl, rfl⟩
theorem lp_isWord {T : Tx} {q p : Nat} (h : RXm B M q T) (hq : q < 8) (hT : T.1 ≤ 160) (hp : p < 10000) : ∀ (f k : Nat), k ≤ 7 → 7 ≤ f + k → 
    G E B cX7_isWordAt (RX7, 4, some .boolean, rmD 0, 0, 0, KM E B (Rp (bp (prefN T p 0 f k = 7)) M)) 37 [(0, .ref (B + 80)), (2, .int (nI k)), (3, .int (nI (p + k)))] [] M := by
  have e7 : sL 0 = 7 := rfl
  obtain ⟨-, -, -, -, w5, w6, w7⟩ := wo_all 0 (by decide)
  have e0 : ∀ k, wo 0 + k = k := fun k => Nat.zero_add k
  intro f
  induction f with
  | zero =>
    intro k h1 h2
    have e : k = 7 := by omega
    subst e
    have v1 : wdF 7 = 32 := rfl
    refine g_aload_n dX7_isWordAt_37 rfl rfl ?_
    refine g_getR dX7_isWordAt_38 fl_X7_63 rfl rfl ?_
    refine g_iload_n dX7_isWordAt_41 rfl rfl ?_
    refine g_iald dX7_isWordAt_42 rfl rfl (by omega) (h.2.2.2 7 (by decide)) ?_
    refine g_bipush dX7_isWordAt_43 kB_32 ?_
    refine g_icmp_leN (tgt := 86) dX7_isWordAt_45 (by decide) rfl rfl (by omega) (by omega) (fun c_45 => ?_) (fun c_45 => absurd c_45 (by omega))
    refine g_aload_n dX7_isWordAt_86 rfl rfl ?_
    refine g_getR dX7_isWordAt_87 fl_X7_63 rfl rfl ?_
    refine g_iload_n dX7_isWordAt_90 rfl rfl ?_
    refine g_iald dX7_isWordAt_91 rfl rfl (by omega) (h.2.2.2 7 (by decide)) ?_
    refine g_bipush dX7_isWordAt_92 kB_32 ?_
    refine g_icmp_gtN (tgt := 101) dX7_isWordAt_94 (by decide) rfl rfl (by omega) (by omega) (fun c_94 => absurd c_94 (by omega)) (fun c_94 => ?_)
    refine g_iconst dX7_isWordAt_97 kI_1 ?_
    refine g_goto (tgt := 102) dX7_isWordAt_98 (by decide) ?_
    refine g_zret dX7_isWordAt_102 (by first | exact Or.inl rfl | exact Or.inr rfl | exact bp_01) ⟨_, rfl, ?_⟩
    exact ⟨bp_t rfl, rfl⟩
  | succ f ih =>
    intro k h1 h2
    by_cases e : k = 7
    · subst e
      have v1 : wdF 7 = 32 := rfl
      refine g_aload_n dX7_isWordAt_37 rfl rfl ?_
      refine g_getR dX7_isWordAt_38 fl_X7_63 rfl rfl ?_
      refine g_iload_n dX7_isWordAt_41 rfl rfl ?_
      refine g_iald dX7_isWordAt_42 rfl rfl (by omega) (h.2.2.2 7 (by decide)) ?_
      refine g_bipush dX7_isWordAt_43 kB_32 ?_
      refine g_icmp_leN (tgt := 86) dX7_isWordAt_45 (by decide) rfl rfl (by omega) (by omega) (fun c_45 => ?_) (fun c_45 => absurd c_45 (by omega))
      refine g_aload_n dX7_isWordAt_86 rfl rfl ?_
      refine g_getR dX7_isWordAt_87 fl_X7_63 rfl rfl ?_
      refine g_iload_n dX7_isWordAt_90 rfl rfl ?_
      refine g_iald dX7_isWordAt_91 rfl rfl (by omega) (h.2.2.2 7 (by decide)) ?_
      refine g_bipush dX7_isWordAt_92 kB_32 ?_
      refine g_icmp_gtN (tgt := 101) dX7_isWordAt_94 (by decide) rfl rfl (by omega) (by omega) (fun c_94 => absurd c_94 (by omega)) (fun c_94 => ?_)
      refine g_iconst dX7_isWordAt_97 kI_1 ?_
      refine g_goto (tgt := 102) dX7_isWordAt_98 (by decide) ?_
      refine g_zret dX7_isWordAt_102 (by first | exact Or.inl rfl | exact Or.inr rfl | exact bp_01) ⟨_, rfl, ?_⟩
      exact ⟨bp_t (by rw [prefN_s, if_neg (by omega)]), rfl⟩
    · have g := w7 k (by omega)
      rw [e0 k] at g
      obtain ⟨g1, g2, g3⟩ := g
      have no : ¬ ltr T (p + k) = sC 0 k → ¬ prefN T p 0 (f + 1) k = 7 := fun z y => by rw [prefN_s, if_neg (fun x => z x.2)] at y; exact e y
      refine g_aload_n dX7_isWordAt_37 rfl rfl ?_
      refine g_getR dX7_isWordAt_38 fl_X7_63 rfl rfl ?_
      refine g_iload_n dX7_isWordAt_41 rfl rfl ?_
      refine g_iald dX7_isWordAt_42 rfl rfl (by omega) (h.2.2.2 k (by omega)) ?_
      refine g_bipush dX7_isWordAt_43 kB_32 ?_
      refine g_icmp_leN (tgt := 86) dX7_isWordAt_45 (by decide) rfl rfl (by omega) (by omega) (fun c_45 => absurd c_45 (by omega)) (fun c_45 => ?_)
      refine g_iload_n dX7_isWordAt_48 rfl rfl ?_
      refine g_aload_n dX7_isWordAt_49 rfl rfl ?_
      refine g_getI dX7_isWordAt_50 fl_X7_122 rfl rfl (h.2.1) ?_
      refine g_icmp_geN (tgt := 86) dX7_isWordAt_53 (by decide) rfl rfl (by omega) (by omega) (fun c_53 => ?_) (fun c_53 => ?_)
      · refine g_aload_n dX7_isWordAt_86 rfl rfl ?_
        refine g_getR dX7_isWordAt_87 fl_X7_63 rfl rfl ?_
        refine g_iload_n dX7_isWordAt_90 rfl rfl ?_
        refine g_iald dX7_isWordAt_91 rfl rfl (by omega) (h.2.2.2 k (by omega)) ?_
        refine g_bipush dX7_isWordAt_92 kB_32 ?_
        refine g_icmp_gtN (tgt := 101) dX7_isWordAt_94 (by decide) rfl rfl (by omega) (by omega) (fun c_94 => ?_) (fun c_94 => absurd c_94 (by omega))
        refine g_iconst dX7_isWordAt_101 kI_0 ?_
        refine g_zret dX7_isWordAt_102 (by first | exact Or.inl rfl | exact Or.inr rfl | exact bp_01) ⟨_, rfl, ?_⟩
        first | (have c9 : T.1 ≤ p + k := c_53; exact ⟨bp_f (no (fun z => by rw [ltr_ge c9, g1] at z; exact nI_nm1 (by omega) z.symm)), rfl⟩) | (have c9 : ¬ T.2 (p + k) = nI (wdF k) := c_74; exact ⟨bp_f (no (fun z => c9 (by rw [← ltr_lt (T := T) (p := p + k) (by omega), z]; exact g1))), rfl⟩)
      · refine g_aload_n dX7_isWordAt_56 rfl rfl ?_
        refine g_getR dX7_isWordAt_57 fl_X7_56 rfl rfl ?_
        refine g_aload_n dX7_isWordAt_60 rfl rfl ?_
        refine g_getI dX7_isWordAt_61 fl_X7_125 rfl rfl (h.1) ?_
        refine g_iload_n dX7_isWordAt_64 rfl rfl ?_
        refine g_iadd dX7_isWordAt_65 (nI_add _ _) ?_
        refine g_lald dX7_isWordAt_66 rfl rfl (by omega) rfl ?_
        refine g_l2i dX7_isWordAt_67 (h.2.2.1 (p + k) (by omega)) ?_
        refine g_aload_n dX7_isWordAt_68 rfl rfl ?_
        refine g_getR dX7_isWordAt_69 fl_X7_63 rfl rfl ?_
        refine g_iload_n dX7_isWordAt_72 rfl rfl ?_
        refine g_iald dX7_isWordAt_73 rfl rfl (by omega) (h.2.2.2 k (by omega)) ?_
        refine g_icmp_ne (tgt := 86) dX7_isWordAt_74 (by decide) (fun c_74 => ?_) (fun c_74 => ?_)
        · refine g_aload_n dX7_isWordAt_86 rfl rfl ?_
          refine g_getR dX7_isWordAt_87 fl_X7_63 rfl rfl ?_
          refine g_iload_n dX7_isWordAt_90 rfl rfl ?_
          refine g_iald dX7_isWordAt_91 rfl rfl (by omega) (h.2.2.2 k (by omega)) ?_
          refine g_bipush dX7_isWordAt_92 kB_32 ?_
          refine g_icmp_gtN (tgt := 101) dX7_isWordAt_94 (by decide) rfl rfl (by omega) (by omega) (fun c_94 => ?_) (fun c_94 => absurd c_94 (by omega))
          refine g_iconst dX7_isWordAt_101 kI_0 ?_
          refine g_zret dX7_isWordAt_102 (by first | exact Or.inl rfl | exact Or.inr rfl | exact bp_01) ⟨_, rfl, ?_⟩
          first | (have c9 : T.1 ≤ p + k := c_53; exact ⟨bp_f (no (fun z => by rw [ltr_ge c9, g1] at z; exact nI_nm1 (by omega) z.symm)), rfl⟩) | (have c9 : ¬ T.2 (p + k) = nI (wdF k) := c_74; exact ⟨bp_f (no (fun z => c9 (by rw [← ltr_lt (T := T) (p := p + k) (by omega), z]; exact g1))), rfl⟩)
        · refine g_iinc dX7_isWordAt_77 rfl (inc_nI _) rfl ?_
          refine g_iinc dX7_isWordAt_80 rfl (inc_nI _) rfl ?_
          refine g_goto (tgt := 37) dX7_isWordAt_83 (by decide) ?_
          have c9 : T.2 (p + k) = nI (wdF k) := c_74
          have e8 : prefN T p 0 (f + 1) k = prefN T p 0 f (k + 1) := if_pos ⟨by omega, by rw [ltr_lt (by omega), c9, g1]⟩
          rw [e8]
          exact g_le (lvLe_c rfl (lvLe_c rfl (lvLe_c rfl lvLe_0))) (ih (k + 1) (by omega) (by omega))
theorem ct_isWordAt {T : Tx} {q p : Nat} (h : RXm B M q T) (hq : q < 8) (hT : T.1 ≤ 160) (hp : p < 10000) (hat : M.1 (B + 80) 24 = nI p) : Ct E B yX7_isWordAt cX7_isWordAt 4 (some .boolean) 0 [.ref (B + 80), .int (nI 0)] M (Rp (bp (prefN T p 0 8 0 = 7)) M) := by
  refine Ct.of2 (own := RX7) (lv := [(0, .ref (B + 80)), (1, .int (nI 0))]) pn_X7 rfl (Nat.le_of_ble_eq_true rfl) rfl ?_
  refine g_iconst dX7_isWordAt_0 kI_0 ?_
  refine g_istore_n dX7_isWordAt_1 rfl (lt_r rfl) rfl ?_
  refine g_iconst dX7_isWordAt_2 kI_0 ?_
  refine g_istore_n dX7_isWordAt_3 rfl (lt_r rfl) rfl ?_
  refine g_iload_n dX7_isWordAt_4 rfl rfl ?_
  refine g_iload_n dX7_isWordAt_5 rfl rfl ?_
  refine g_icmp_geN (tgt := 32) dX7_isWordAt_6 (by decide) rfl rfl (by omega) (by omega) (fun c_6 => ?_) (fun c_6 => absurd c_6 (by omega))
  refine g_aload_n dX7_isWordAt_32 rfl rfl ?_
  refine g_getI dX7_isWordAt_33 fl_X7_119 rfl rfl (hat) ?_
  refine g_istore_n dX7_isWordAt_36 rfl (lt_r rfl) rfl ?_
  exact g_le (lvLe_c rfl (lvLe_c rfl (lvLe_c rfl lvLe_0))) (lp_isWord h hq hT hp 8 0 (by decide) (by decide))
theorem lp_match {T : Tx} {q p w x2 : Nat} {F : Option Value → MM → Prop} (h : RXm B M q T) (hq : q < 8) (hT : T.1 ≤ 160) (hp : p < 10000) (hw : w < 7) : ∀ (f k : Nat), k ≤ sL w + 1 → sL w + 1 ≤ f + k → 
    (G E B cX7_word (RX7, 6, some .int, rmD 0, 0, 0, KM E B F) 75 [(0, .ref (B + 80)), (1, .int (nI (wo w))), (2, .int (nI x2)), (3, .int (nI w)), (4, .int (nI (p + prefM T p w f k))), (5, .int (nI (wo w + prefM T p w f k)))] [] M) →
    G E B cX7_word (RX7, 6, some .int, rmD 0, 0, 0, KM E B F) 24 [(0, .ref (B + 80)), (1, .int (nI (wo w))), (2, .int (nI x2)), (3, .int (nI w)), (4, .int (nI (p + k))), (5, .int (nI (wo w + k)))] [] M := by
  obtain ⟨w1, w2, w3, w4, w5, w6, w7⟩ := wo_all w hw
  intro f
  induction f with
  | zero =>
    intro k h1 h2 hend
    have e : k = sL w + 1 := by omega
    have v1 : wdF (wo w + k) = 0 := by rw [e]; exact w6
    refine g_aload_n dX7_word_24 rfl rfl ?_
    refine g_getR dX7_word_25 fl_X7_63 rfl rfl ?_
    refine g_iload dX7_word_28 rfl ?_
    refine g_iald dX7_word_30 rfl rfl (by omega) (h.2.2.2 (wo w + k) (by omega)) ?_
    refine g_if_eqN (tgt := 75) dX7_word_31 (by decide) rfl (by omega) (fun c_31 => ?_) (fun c_31 => absurd c_31 (by omega))
    exact g_le (lvLe_c rfl (lvLe_c rfl (lvLe_c rfl (lvLe_c rfl (lvLe_c rfl (lvLe_c rfl lvLe_0)))))) hend
  | succ f ih =>
    intro k h1 h2 hend
    by_cases e : k = sL w + 1
    · have v1 : wdF (wo w + k) = 0 := by rw [e]; exact w6
      rw [prefM_s, if_neg (by omega)] at hend
      refine g_aload_n dX7_word_24 rfl rfl ?_
      refine g_getR dX7_word_25 fl_X7_63 rfl rfl ?_
      refine g_iload dX7_word_28 rfl ?_
      refine g_iald dX7_word_30 rfl rfl (by omega) (h.2.2.2 (wo w + k) (by omega)) ?_
      refine g_if_eqN (tgt := 75) dX7_word_31 (by decide) rfl (by omega) (fun c_31 => ?_) (fun c_31 => absurd c_31 (by omega))
      exact g_le (lvLe_c rfl (lvLe_c rfl (lvLe_c rfl (lvLe_c rfl (lvLe_c rfl (lvLe_c rfl lvLe_0)))))) hend
    · have v1 : 32 ≤ wdF (wo w + k) ∧ wdF (wo w + k) < 128 := by
        by_cases e2 : k = sL w
        · rw [e2, w5]; decide
        · have := w7 k (by omega); omega
      rw [prefM_s] at hend
      refine g_aload_n dX7_word_24 rfl rfl ?_
      refine g_getR dX7_word_25 fl_X7_63 rfl rfl ?_
      refine g_iload dX7_word_28 rfl ?_
      refine g_iald dX7_word_30 rfl rfl (by omega) (h.2.2.2 (wo w + k) (by omega)) ?_
      refine g_if_eqN (tgt := 75) dX7_word_31 (by decide) rfl (by omega) (fun c_31 => absurd c_31 (by omega)) (fun c_31 => ?_)
      refine g_iload dX7_word_34 rfl ?_
      refine g_aload_n dX7_word_36 rfl rfl ?_
      refine g_getI dX7_word_37 fl_X7_122 rfl rfl (h.2.1) ?_
      refine g_icmp_geN (tgt := 75) dX7_word_40 (by decide) rfl rfl (by omega) (by omega) (fun c_40 => ?_) (fun c_40 => ?_)
      · first | (have c9 : T.1 ≤ p + k := c_40; rw [if_neg (fun z => by rw [ltr_ge c9] at z; exact nI_nm1 (by omega) z.2.symm)] at hend; exact g_le (lvLe_c rfl (lvLe_c rfl (lvLe_c rfl (lvLe_c rfl (lvLe_c rfl (lvLe_c rfl lvLe_0)))))) hend) | (have c9 : ¬ T.2 (p + k) = nI (wdF (wo w + k)) := c_63; rw [if_neg (fun z => c9 (by rw [← ltr_lt (T := T) (p := p + k) (by omega)]; exact z.2))] at hend; exact g_le (lvLe_c rfl (lvLe_c rfl (lvLe_c rfl (lvLe_c rfl (lvLe_c rfl (lvLe_c rfl lvLe_0)))))) hend)
      · refine g_aload_n dX7_word_43 rfl rfl ?_
        refine g_getR dX7_word_44 fl_X7_56 rfl rfl ?_
        refine g_aload_n dX7_word_47 rfl rfl ?_
        refine g_getI dX7_word_48 fl_X7_125 rfl rfl (h.1) ?_
        refine g_iload dX7_word_51 rfl ?_
        refine g_iadd dX7_word_53 (nI_add _ _) ?_
        refine g_lald dX7_word_54 rfl rfl (by omega) rfl ?_
        refine g_l2i dX7_word_55 (h.2.2.1 (p + k) (by omega)) ?_
        refine g_aload_n dX7_word_56 rfl rfl ?_
        refine g_getR dX7_word_57 fl_X7_63 rfl rfl ?_
        refine g_iload dX7_word_60 rfl ?_
        refine g_iald dX7_word_62 rfl rfl (by omega) (h.2.2.2 (wo w + k) (by omega)) ?_
        refine g_icmp_ne (tgt := 75) dX7_word_63 (by decide) (fun c_63 => ?_) (fun c_63 => ?_)
        · first | (have c9 : T.1 ≤ p + k := c_40; rw [if_neg (fun z => by rw [ltr_ge c9] at z; exact nI_nm1 (by omega) z.2.symm)] at hend; exact g_le (lvLe_c rfl (lvLe_c rfl (lvLe_c rfl (lvLe_c rfl (lvLe_c rfl (lvLe_c rfl lvLe_0)))))) hend) | (have c9 : ¬ T.2 (p + k) = nI (wdF (wo w + k)) := c_63; rw [if_neg (fun z => c9 (by rw [← ltr_lt (T := T) (p := p + k) (by omega)]; exact z.2))] at hend; exact g_le (lvLe_c rfl (lvLe_c rfl (lvLe_c rfl (lvLe_c rfl (lvLe_c rfl (lvLe_c rfl lvLe_0)))))) hend)
        · refine g_iinc dX7_word_66 rfl (inc_nI _) rfl ?_
          refine g_iinc dX7_word_69 rfl (inc_nI _) rfl ?_
          refine g_goto (tgt := 24) dX7_word_72 (by decide) ?_
          have c9 : T.2 (p + k) = nI (wdF (wo w + k)) := c_63
          rw [if_pos ⟨by omega, by rw [ltr_lt (by omega)]; exact c9⟩] at hend
          exact g_le (lvLe_c rfl (lvLe_c rfl (lvLe_c rfl (lvLe_c rfl (lvLe_c rfl (lvLe_c rfl lvLe_0)))))) (ih (k + 1) (by omega) (by omega) hend)
theorem lp_skip {w x2 : Nat} {F : Option Value → MM → Prop} (hW : ∀ j, j < 43 → M.1 (B + 93) j = nI (wdF j)) (hw : w < 7)
    (hend : G E B cX7_word (RX7, 6, some .int, rmD 0, 0, 0, KM E B F) 9 [(0, .ref (B + 80)), (1, .int (nI (wo (w + 1)))), (2, .int (nI x2)), (3, .int (nI (w + 1)))] [] M) : ∀ (f k : Nat), f + k = sL w + 1 →
    G E B cX7_word (RX7, 6, some .int, rmD 0, 0, 0, KM E B F) 106 [(0, .ref (B + 80)), (1, .int (nI (wo w + k))), (2, .int (nI x2)), (3, .int (nI w))] [] M := by
  obtain ⟨w1, w2, w3, w4, w5, w6, w7⟩ := wo_all w hw
  intro f
  induction f with
  | zero =>
    intro k h1
    have e : k = sL w + 1 := by omega
    have v1 : wdF (wo w + k) = 0 := by rw [e]; exact w6
    refine g_aload_n dX7_word_106 rfl rfl ?_
    refine g_getR dX7_word_107 fl_X7_63 rfl rfl ?_
    refine g_iload_n dX7_word_110 rfl rfl ?_
    refine g_iald dX7_word_111 rfl rfl (by omega) (hW (wo w + k) (by omega)) ?_
    refine g_if_eqN (tgt := 121) dX7_word_112 (by decide) rfl (by omega) (fun c_112 => ?_) (fun c_112 => absurd c_112 (by omega))
    refine g_iinc dX7_word_121 rfl (inc_nI _) rfl ?_
    refine g_iinc dX7_word_124 rfl (inc_nI _) rfl ?_
    refine g_goto (tgt := 9) dX7_word_127 (by decide) ?_
    rw [w1, show wo w + sL w + 2 = wo w + k + 1 by omega] at hend
    exact g_le (lvLe_c rfl (lvLe_c rfl (lvLe_c rfl (lvLe_c rfl lvLe_0)))) hend
  | succ f ih =>
    intro k h1
    have v1 : 32 ≤ wdF (wo w + k) ∧ wdF (wo w + k) < 128 := by
      by_cases e2 : k = sL w
      · rw [e2, w5]; decide
      · have := w7 k (by omega); omega
    refine g_aload_n dX7_word_106 rfl rfl ?_
    refine g_getR dX7_word_107 fl_X7_63 rfl rfl ?_
    refine g_iload_n dX7_word_110 rfl rfl ?_
    refine g_iald dX7_word_111 rfl rfl (by omega) (hW (wo w + k) (by omega)) ?_
    refine g_if_eqN (tgt := 121) dX7_word_112 (by decide) rfl (by omega) (fun c_112 => absurd c_112 (by omega)) (fun c_112 => ?_)
    refine g_iinc dX7_word_115 rfl (inc_nI _) rfl ?_
    refine g_goto (tgt := 106) dX7_word_118 (by decide) ?_
    exact g_le (lvLe_c rfl (lvLe_c rfl (lvLe_c rfl (lvLe_c rfl lvLe_0)))) (ih (k + 1) (by omega))
/-- what word() comes to -/
def QWm (B : Nat) (M : MM) (p : Nat) (R : Nat × Nat) : Int32 → MM → Prop := fun r M2 => (R.1 = 7 → r = -1 ∧ M2.1 (B + 80) 27 = nI (p + R.2) ∧ M2.1 (B + 80) 24 = nI p) ∧ (R.1 ≠ 7 → r = nI R.1 ∧ M2.1 (B + 80) 24 = nI (p + R.2)) ∧ Fk B M M2 [] [24, 27]
theorem lp_word {T : Tx} {q p : Nat} {R : Nat × Nat} (h : RXm B M q T) (hq : q < 8) (hT : T.1 ≤ 160) (hp : p < 10000) (hat : M.1 (B + 80) 24 = nI p) : ∀ (n w far : Nat), n + w = 7 → far ≤ 9 → wordM T p n w far = R →
    G E B cX7_word (RX7, 6, some .int, rmD 0, 0, 0, KM E B (Ri (QWm B M p R))) 9 [(0, .ref (B + 80)), (1, .int (nI (wo w))), (2, .int (nI (p + far))), (3, .int (nI w))] [] M := by
  intro n
  induction n with
  | zero =>
    intro w far h1 h2 h3
    refine g_iload_n dX7_word_9 rfl rfl ?_
    refine g_bipush dX7_word_10 kB_7 ?_
    refine g_icmp_geN (tgt := 130) dX7_word_12 (by decide) rfl rfl (by omega) (by omega) (fun c_12 => ?_) (fun c_12 => absurd c_12 (by omega))
    refine g_aload_n dX7_word_130 rfl rfl ?_
    refine g_iload_n dX7_word_131 rfl rfl ?_
    refine g_putI dX7_word_132 fp_X7_116 rfl rfl ?_
    refine g_iconst dX7_word_135 kI_m1 ?_
    refine g_iret dX7_word_136 ⟨_, rfl, ?_⟩
    subst h3
    exact ⟨fun _ => ⟨rfl, upI_s, by rw [upI_k (by decide)]; exact hat⟩, fun z => absurd rfl z, Fk.pj (by decide)⟩
  | succ n ih =>
    intro w far h1 h2 h3
    obtain ⟨w1, w2, w3, w4, w5, w6, w7⟩ := wo_all w (by omega)
    have hle := prefM_le (T := T) (p := p) (w := w) 9 0 (Nat.zero_le _)
    have hpos := h.2.2.2 (wo w + prefM T p w 9 0) (by omega)
    have v1 : ¬ prefM T p w 9 0 = sL w + 1 → 32 ≤ wdF (wo w + prefM T p w 9 0) ∧ wdF (wo w + prefM T p w 9 0) < 128 := fun z => by
      by_cases e2 : prefM T p w 9 0 = sL w
      · rw [e2, w5]; decide
      · have := w7 (prefM T p w 9 0) (by omega); omega
    rw [wordM_s] at h3
    refine g_iload_n dX7_word_9 rfl rfl ?_
    refine g_bipush dX7_word_10 kB_7 ?_
    refine g_icmp_geN (tgt := 130) dX7_word_12 (by decide) rfl rfl (by omega) (by omega) (fun c_12 => absurd c_12 (by omega)) (fun c_12 => ?_)
    refine g_aload_n dX7_word_15 rfl rfl ?_
    refine g_getI dX7_word_16 fl_X7_119 rfl rfl (hat) ?_
    refine g_istore dX7_word_19 (lt_r rfl) rfl ?_
    refine g_iload_n dX7_word_21 rfl rfl ?_
    refine g_istore dX7_word_22 (lt_r rfl) rfl ?_
    refine g_le (lvLe_c rfl (lvLe_c rfl (lvLe_c rfl (lvLe_c rfl (lvLe_c rfl (lvLe_c rfl lvLe_0)))))) (lp_match h hq hT hp (by omega) 9 0 (by omega) (by omega) ?_)
    generalize prefM T p w 9 0 = k at hle hpos v1 h3 ⊢
    by_cases c : k = sL w + 1
    · have v0 : wdF (wo w + k) = 0 := by rw [c]; exact w6
      rw [if_pos c] at h3
      refine g_aload_n dX7_word_75 rfl rfl ?_
      refine g_getR dX7_word_76 fl_X7_63 rfl rfl ?_
      refine g_iload dX7_word_79 rfl ?_
      refine g_iald dX7_word_81 rfl rfl (by omega) (hpos) ?_
      refine g_if_neN (tgt := 93) dX7_word_82 (by decide) rfl (by omega) (fun c_82 => absurd c_82 (by omega)) (fun c_82 => ?_)
      refine g_aload_n dX7_word_85 rfl rfl ?_
      refine g_iload dX7_word_86 rfl ?_
      refine g_putI dX7_word_88 fp_X7_119 rfl rfl ?_
      refine g_iload_n dX7_word_91 rfl rfl ?_
      refine g_iret dX7_word_92 ⟨_, rfl, ?_⟩
      subst h3
      exact ⟨fun z => by have z : w = 7 := z; omega, fun _ => ⟨rfl, by rw [upI_s, c]⟩, Fk.pj (by decide)⟩
    · have v0 := v1 c
      rw [if_neg c] at h3
      refine g_aload_n dX7_word_75 rfl rfl ?_
      refine g_getR dX7_word_76 fl_X7_63 rfl rfl ?_
      refine g_iload dX7_word_79 rfl ?_
      refine g_iald dX7_word_81 rfl rfl (by omega) (hpos) ?_
      refine g_if_neN (tgt := 93) dX7_word_82 (by decide) rfl (by omega) (fun c_82 => ?_) (fun c_82 => absurd c_82 (by omega))
      refine g_iload dX7_word_93 rfl ?_
      refine g_iload_n dX7_word_95 rfl rfl ?_
      refine g_icmp_leN (tgt := 104) dX7_word_96 (by decide) rfl rfl (by omega) (by omega) (fun c_96 => ?_) (fun c_96 => ?_)
      · refine g_iload_n dX7_word_104 rfl rfl ?_
        refine g_istore_n dX7_word_105 rfl (lt_r rfl) rfl ?_
        have e9 : ∀ x, x = p + max far k → G E B cX7_word (RX7, 6, some .int, rmD 0, 0, 0, KM E B (Ri (QWm B M p R))) 106 [(0, .ref (B + 80)), (1, .int (nI (wo w))), (2, .int (nI x)), (3, .int (nI w))] [] M := by
          rintro x rfl
          exact lp_skip h.2.2.2 (by omega) (ih (w + 1) (max far k) (by omega) (by omega) h3) (sL w + 1) 0 rfl
        exact g_le (lvLe_c rfl (lvLe_c rfl (lvLe_c rfl (lvLe_c rfl lvLe_0)))) (e9 _ (by omega))
      · refine g_iload dX7_word_99 rfl ?_
        refine g_goto (tgt := 105) dX7_word_101 (by decide) ?_
        refine g_istore_n dX7_word_105 rfl (lt_r rfl) rfl ?_
        have e9 : ∀ x, x = p + max far k → G E B cX7_word (RX7, 6, some .int, rmD 0, 0, 0, KM E B (Ri (QWm B M p R))) 106 [(0, .ref (B + 80)), (1, .int (nI (wo w))), (2, .int (nI x)), (3, .int (nI w))] [] M := by
          rintro x rfl
          exact lp_skip h.2.2.2 (by omega) (ih (w + 1) (max far k) (by omega) (by omega) h3) (sL w + 1) 0 rfl
        exact g_le (lvLe_c rfl (lvLe_c rfl (lvLe_c rfl (lvLe_c rfl lvLe_0)))) (e9 _ (by omega))
theorem ct_word {T : Tx} {q p : Nat} (h : RXm B M q T) (hq : q < 8) (hT : T.1 ≤ 160) (hp : p < 10000) (hat : M.1 (B + 80) 24 = nI p) : Ct E B yX7_word cX7_word 6 (some .int) 0 [.ref (B + 80)] M (Ri (QWm B M p (wordR T p))) := by
  refine Ct.of2 (own := RX7) (lv := [(0, .ref (B + 80))]) pn_X7 rfl (Nat.le_of_ble_eq_true rfl) rfl ?_
  refine g_iconst dX7_word_0 kI_0 ?_
  refine g_istore_n dX7_word_1 rfl (lt_r rfl) rfl ?_
  refine g_aload_n dX7_word_2 rfl rfl ?_
  refine g_getI dX7_word_3 fl_X7_119 rfl rfl (hat) ?_
  refine g_istore_n dX7_word_6 rfl (lt_r rfl) rfl ?_
  refine g_iconst dX7_word_7 kI_0 ?_
  refine g_istore_n dX7_word_8 rfl (lt_r rfl) rfl ?_
  exact g_le (lvLe_c rfl (lvLe_c rfl (lvLe_c rfl (lvLe_c rfl lvLe_0)))) (lp_word (R := wordR T p) h hq hT hp hat 7 0 0 rfl (by decide) wordM_R)
end X7Q
