/-! the model: image, restore, status -/
theorem RM.h' {B q : Nat} {M M' : MM} {y : Sys} {x : Sh} (h : RM B M y) (hF : Fk B M M' [87, 88, 89, 90, 91, 92] []) (he : ∀ q', q' < 8 → q' ≠ q → Eqq B M M' q') (hl : ∀ q', q' < 8 → (yH y q').1 = 1 → (yH y q').2.2.1 ≤ 160) (hx : RWq B M' q x) : RM B M' (setH y q x) := by
  obtain ⟨h1, h2, h3, h4, h5, h6, h7, h8⟩ := h
  refine ⟨fun j hj => ?_, h2.fk hF (by decide) (by decide), fun hb => (h3 hb).eq (hF.i (by decide) (by decide)), (hF.j (by decide)).trans h4, (hF.j (by decide)).trans h5, fun j hj => by rw [hF.i (by decide) (by decide)]; exact h6 j hj, h7.fk hF (by decide) (by decide), fun j hj => by rw [hF.i (by decide) (by decide)]; exact h8 j hj⟩
  show RWq B M' j (upF (yH y) q x j)
  by_cases e : j = q
  · subst e; rw [upF_s]; exact hx
  · rw [upF_n e]
    obtain ⟨a1, a2, a3⟩ := h1 j hj
    obtain ⟨e1, e2, e3, e4, e5⟩ := he j hj e
    refine ⟨e1.trans a1, fun z => ?_, fun z => e4.trans (a3 z)⟩
    obtain ⟨b1, b2, b3⟩ := a2 z
    have := hl j hj z
    exact ⟨e2.trans b1, e3.trans b2, fun i hi => (e5 i (by omega)).trans (b3 i hi)⟩
/-- row k2 at f, f + 1, .. has row k1 of M -/
def Cpd (B : Nat) (M M' : MM) (k1 k2 f n : Nat) : Prop := (∀ j, j < n → M'.1 (B + k2) (f + j) = M.1 (B + k1) j) ∧ ∀ z, (z < f ∨ f + n ≤ z) → M'.1 (B + k2) z = M.1 (B + k2) z
def Cpb (B : Nat) (M M' : MM) (k1 k2 f n : Nat) : Prop := ∀ j, j < n → M'.1 (B + k1) j = M.1 (B + k2) (f + j)
theorem Fk.one {B k : Nat} {M M' : MM} (h : Fk B M M' [k] []) {q : Nat} (h1 : q ≠ k) (h2 : q ≠ 80) : M'.1 (B + q) = M.1 (B + q) := h.i (fun z => h1 (List.mem_singleton.mp z)) h2
section X7O
variable {E : EE} {B : Nat} {M : MM}
theorem lp_carF {k1 k2 n1 n f g : Nat} {M1 : MM} (p1 : plan[k1]? = some (.inr (.inl (n1, false)))) (p2 : plan[k2]? = some (.inr (.inl (120, false)))) (hn : n ≤ n1) (h120 : n ≤ 120) (hg : f + n = g) (hf : g ≤ 120) (hne : k1 ≠ k2) (h80 : k1 ≠ 80 ∧ k2 ≠ 80) : ∀ (m i : Nat), m + i = n → ∀ M', Fk B M1 M' [k2] [] → Cpd B M1 M' k1 k2 f i →
    G E B cX7_carries (RX7, 7, some .int, rmD 0, 0, 0, KM E B (Ri (fun r M2 => r = nI g ∧ Cpd B M1 M2 k1 k2 f n ∧ Fk B M1 M2 [k2] []))) 3 [(0, .ref (B + 80)), (1, .ref (B + k1)), (2, .int (nI n)), (3, .ref (B + k2)), (4, .int (nI f)), (5, .int (nI 0)), (6, .int (nI i))] [] M' := by
  intro m
  induction m with
  | zero =>
    intro i h1 M' hF hI
    refine g_iload dX7_carries_3 rfl ?_
    refine g_iload_n dX7_carries_5 rfl rfl ?_
    refine g_icmp_geN (tgt := 45) dX7_carries_6 (by decide) rfl rfl (by omega) (by omega) (fun c_6 => ?_) (fun c_6 => absurd c_6 (by omega))
    refine g_iload dX7_carries_45 rfl ?_
    refine g_iload_n dX7_carries_47 rfl rfl ?_
    refine g_iadd dX7_carries_48 (nI_add _ _) ?_
    refine g_iret dX7_carries_49 ⟨_, rfl, ?_⟩
    have e : i = n := by omega
    subst e
    exact ⟨by rw [hg], hI, hF⟩
  | succ m ih =>
    intro i h1 M' hF hI
    refine g_iload dX7_carries_3 rfl ?_
    refine g_iload_n dX7_carries_5 rfl rfl ?_
    refine g_icmp_geN (tgt := 45) dX7_carries_6 (by decide) rfl rfl (by omega) (by omega) (fun c_6 => absurd c_6 (by omega)) (fun c_6 => ?_)
    refine g_iload dX7_carries_9 rfl ?_
    refine g_if_eqN (tgt := 28) dX7_carries_11 (by decide) rfl (by omega) (fun c_11 => ?_) (fun c_11 => absurd c_11 (by omega))
    refine g_aload_n dX7_carries_28 rfl rfl ?_
    refine g_iload dX7_carries_29 rfl ?_
    refine g_iload dX7_carries_31 rfl ?_
    refine g_iadd dX7_carries_33 (nI_add _ _) ?_
    refine g_aload_n dX7_carries_34 rfl rfl ?_
    refine g_iload dX7_carries_35 rfl ?_
    refine g_iald dX7_carries_37 p1 rfl (by omega) (congrFun (hF.one hne h80.1) _) ?_
    refine g_iast dX7_carries_38 p2 rfl (by omega) ?_
    refine g_iinc dX7_carries_39 rfl (inc_nI _) rfl ?_
    refine g_goto (tgt := 3) dX7_carries_42 (by decide) ?_
    exact g_le (lvLe_c rfl (lvLe_c rfl (lvLe_c rfl (lvLe_c rfl (lvLe_c rfl (lvLe_c rfl (lvLe_c rfl lvLe_0))))))) (ih (i + 1) (by omega) _ (hF.tr (Fk.pi (List.mem_singleton.mpr rfl) h80.2)) ⟨fun j hj => by
      by_cases e : j = i
      · subst e; exact upI_s
      · rw [upI_k (by omega)]; exact hI.1 j (by omega), fun z hz => by rw [upI_k (by omega)]; exact hI.2 z (by omega)⟩)
theorem ct_carF {k1 k2 n1 n f g : Nat} (p1 : plan[k1]? = some (.inr (.inl (n1, false)))) (p2 : plan[k2]? = some (.inr (.inl (120, false)))) (hn : n ≤ n1) (hg : f + n = g) (hf : g ≤ 120) (hne : k1 ≠ k2) (h80 : k1 ≠ 80 ∧ k2 ≠ 80) : Ct E B yX7_carries cX7_carries 7 (some .int) 0 [.ref (B + 80), .ref (B + k1), .int (nI n), .ref (B + k2), .int (nI f), .int (nI 0)] M (Ri (fun r M2 => r = nI g ∧ Cpd B M M2 k1 k2 f n ∧ Fk B M M2 [k2] [])) := by
  refine Ct.of2 (own := RX7) (lv := [(0, .ref (B + 80)), (1, .ref (B + k1)), (2, .int (nI n)), (3, .ref (B + k2)), (4, .int (nI f)), (5, .int (nI 0))]) pn_X7 rfl (Nat.le_of_ble_eq_true rfl) rfl ?_
  refine g_iconst dX7_carries_0 kI_0 ?_
  refine g_istore dX7_carries_1 (lt_r rfl) rfl ?_
  exact g_le (lvLe_c rfl (lvLe_c rfl (lvLe_c rfl (lvLe_c rfl (lvLe_c rfl (lvLe_c rfl (lvLe_c rfl lvLe_0))))))) (lp_carF p1 p2 hn (by omega) hg hf hne h80 n 0 rfl M Fk.rf ⟨fun j hj => absurd hj (Nat.not_lt_zero j), fun z _ => rfl⟩)
theorem lp_carB {k1 k2 n1 n f g : Nat} {M1 : MM} (p1 : plan[k1]? = some (.inr (.inl (n1, false)))) (p2 : plan[k2]? = some (.inr (.inl (120, false)))) (hn : n ≤ n1) (h120 : n ≤ 120) (hg : f + n = g) (hf : g ≤ 120) (hne : k1 ≠ k2) (h80 : k1 ≠ 80 ∧ k2 ≠ 80) : ∀ (m i : Nat), m + i = n → ∀ M', Fk B M1 M' [k1] [] → Cpb B M1 M' k1 k2 f i →
    G E B cX7_carries (RX7, 7, some .int, rmD 0, 0, 0, KM E B (Ri (fun r M2 => r = nI g ∧ Cpb B M1 M2 k1 k2 f n ∧ Fk B M1 M2 [k1] []))) 3 [(0, .ref (B + 80)), (1, .ref (B + k1)), (2, .int (nI n)), (3, .ref (B + k2)), (4, .int (nI f)), (5, .int (nI 1)), (6, .int (nI i))] [] M' := by
  intro m
  induction m with
  | zero =>
    intro i h1 M' hF hI
    refine g_iload dX7_carries_3 rfl ?_
    refine g_iload_n dX7_carries_5 rfl rfl ?_
    refine g_icmp_geN (tgt := 45) dX7_carries_6 (by decide) rfl rfl (by omega) (by omega) (fun c_6 => ?_) (fun c_6 => absurd c_6 (by omega))
    refine g_iload dX7_carries_45 rfl ?_
    refine g_iload_n dX7_carries_47 rfl rfl ?_
    refine g_iadd dX7_carries_48 (nI_add _ _) ?_
    refine g_iret dX7_carries_49 ⟨_, rfl, ?_⟩
    have e : i = n := by omega
    subst e
    exact ⟨by rw [hg], hI, hF⟩
  | succ m ih =>
    intro i h1 M' hF hI
    refine g_iload dX7_carries_3 rfl ?_
    refine g_iload_n dX7_carries_5 rfl rfl ?_
    refine g_icmp_geN (tgt := 45) dX7_carries_6 (by decide) rfl rfl (by omega) (by omega) (fun c_6 => absurd c_6 (by omega)) (fun c_6 => ?_)
    refine g_iload dX7_carries_9 rfl ?_
    refine g_if_eqN (tgt := 28) dX7_carries_11 (by decide) rfl (by omega) (fun c_11 => absurd c_11 (by omega)) (fun c_11 => ?_)
    refine g_aload_n dX7_carries_14 rfl rfl ?_
    refine g_iload dX7_carries_15 rfl ?_
    refine g_aload_n dX7_carries_17 rfl rfl ?_
    refine g_iload dX7_carries_18 rfl ?_
    refine g_iload dX7_carries_20 rfl ?_
    refine g_iadd dX7_carries_22 (nI_add _ _) ?_
    refine g_iald dX7_carries_23 p2 rfl (by omega) (congrFun (hF.one (Ne.symm hne) h80.2) _) ?_
    refine g_iast dX7_carries_24 p1 rfl (by omega) ?_
    refine g_goto (tgt := 39) dX7_carries_25 (by decide) ?_
    refine g_iinc dX7_carries_39 rfl (inc_nI _) rfl ?_
    refine g_goto (tgt := 3) dX7_carries_42 (by decide) ?_
    exact g_le (lvLe_c rfl (lvLe_c rfl (lvLe_c rfl (lvLe_c rfl (lvLe_c rfl (lvLe_c rfl (lvLe_c rfl lvLe_0))))))) (ih (i + 1) (by omega) _ (hF.tr (Fk.pi (List.mem_singleton.mpr rfl) h80.1)) (fun j hj => by
      by_cases e : j = i
      · subst e; exact upI_s
      · rw [upI_k (by omega)]; exact hI j (by omega)))
theorem ct_carB {k1 k2 n1 n f g : Nat} (p1 : plan[k1]? = some (.inr (.inl (n1, false)))) (p2 : plan[k2]? = some (.inr (.inl (120, false)))) (hn : n ≤ n1) (hg : f + n = g) (hf : g ≤ 120) (hne : k1 ≠ k2) (h80 : k1 ≠ 80 ∧ k2 ≠ 80) : Ct E B yX7_carries cX7_carries 7 (some .int) 0 [.ref (B + 80), .ref (B + k1), .int (nI n), .ref (B + k2), .int (nI f), .int (nI 1)] M (Ri (fun r M2 => r = nI g ∧ Cpb B M M2 k1 k2 f n ∧ Fk B M M2 [k1] [])) := by
  refine Ct.of2 (own := RX7) (lv := [(0, .ref (B + 80)), (1, .ref (B + k1)), (2, .int (nI n)), (3, .ref (B + k2)), (4, .int (nI f)), (5, .int (nI 1))]) pn_X7 rfl (Nat.le_of_ble_eq_true rfl) rfl ?_
  refine g_iconst dX7_carries_0 kI_0 ?_
  refine g_istore dX7_carries_1 (lt_r rfl) rfl ?_
  exact g_le (lvLe_c rfl (lvLe_c rfl (lvLe_c rfl (lvLe_c rfl (lvLe_c rfl (lvLe_c rfl (lvLe_c rfl lvLe_0))))))) (lp_carB p1 p2 hn (by omega) hg hf hne h80 n 0 rfl M Fk.rf (fun j hj => absurd hj (Nat.not_lt_zero j)))
theorem ct_allF_95 {s : St} (h : RN B M s) (ho : okSt s) : Ct E B yX7_all cX7_all 4 none 1 [.ref (B + 80), .ref (B + 95), .int (nI 0)] M (Rv (fun M2 => RK B M2 95 s ∧ Fk B M M2 [95] [])) := by
  have hcn := ho.2.2.1
  refine Ct.of2 (own := RX7) (lv := [(0, .ref (B + 80)), (1, .ref (B + 95)), (2, .int (nI 0))]) pn_X7 rfl (Nat.le_of_ble_eq_true rfl) rfl ?_
  refine g_aload_n dX7_all_0 rfl rfl ?_
  refine g_aload_n dX7_all_1 rfl rfl ?_
  refine g_getR dX7_all_2 fl_X7_29 rfl rfl ?_
  refine g_bipush dX7_all_5 kB_6 ?_
  refine g_aload_n dX7_all_7 rfl rfl ?_
  refine g_iconst dX7_all_8 kI_0 ?_
  refine g_iload_n dX7_all_9 rfl rfl ?_
  refine g_callVi dX7_all_10 mi_X7_carries ml_X7_154 (ct_carF (k1 := 82) (k2 := 95) (g := 6) rfl rfl (by decide) rfl (by decide) (by decide) (by decide)) rfl rfl rfl rfl (Nat.le_of_ble_eq_true rfl) ⟨lt_r rfl, Nat.le_of_ble_eq_true rfl⟩ (fun x10 M10 h10 => ?_)
  obtain ⟨rfl, a1, a2⟩ := h10
  refine g_istore_n dX7_all_13 rfl (lt_r rfl) rfl ?_
  refine g_aload_n dX7_all_14 rfl rfl ?_
  refine g_aload_n dX7_all_15 rfl rfl ?_
  refine g_getR dX7_all_16 fl_X7_32 rfl rfl ?_
  refine g_bipush dX7_all_19 kB_6 ?_
  refine g_aload_n dX7_all_21 rfl rfl ?_
  refine g_iload_n dX7_all_22 rfl rfl ?_
  refine g_iload_n dX7_all_23 rfl rfl ?_
  refine g_callVi dX7_all_24 mi_X7_carries ml_X7_154 (ct_carF (k1 := 83) (k2 := 95) (g := 12) rfl rfl (by decide) rfl (by decide) (by decide) (by decide)) rfl rfl rfl rfl (Nat.le_of_ble_eq_true rfl) ⟨lt_r rfl, Nat.le_of_ble_eq_true rfl⟩ (fun x24 M24 h24 => ?_)
  obtain ⟨rfl, b1, b2⟩ := h24
  refine g_istore_n dX7_all_27 rfl (lt_r rfl) rfl ?_
  refine g_aload_n dX7_all_28 rfl rfl ?_
  refine g_aload_n dX7_all_29 rfl rfl ?_
  refine g_getR dX7_all_30 fl_X7_35 rfl rfl ?_
  refine g_bipush dX7_all_33 kB_6 ?_
  refine g_aload_n dX7_all_35 rfl rfl ?_
  refine g_iload_n dX7_all_36 rfl rfl ?_
  refine g_iload_n dX7_all_37 rfl rfl ?_
  refine g_callVi dX7_all_38 mi_X7_carries ml_X7_154 (ct_carF (k1 := 84) (k2 := 95) (g := 18) rfl rfl (by decide) rfl (by decide) (by decide) (by decide)) rfl rfl rfl rfl (Nat.le_of_ble_eq_true rfl) ⟨lt_r rfl, Nat.le_of_ble_eq_true rfl⟩ (fun x38 M38 h38 => ?_)
  obtain ⟨rfl, c1, c2⟩ := h38
  refine g_istore_n dX7_all_41 rfl (lt_r rfl) rfl ?_
  refine g_aload_n dX7_all_42 rfl rfl ?_
  refine g_aload_n dX7_all_43 rfl rfl ?_
  refine g_getR dX7_all_44 fl_X7_38 rfl rfl ?_
  refine g_bipush dX7_all_47 kB_72 ?_
  refine g_aload_n dX7_all_49 rfl rfl ?_
  refine g_iload_n dX7_all_50 rfl rfl ?_
  refine g_iload_n dX7_all_51 rfl rfl ?_
  refine g_callVi dX7_all_52 mi_X7_carries ml_X7_154 (ct_carF (k1 := 85) (k2 := 95) (g := 90) rfl rfl (by decide) rfl (by decide) (by decide) (by decide)) rfl rfl rfl rfl (Nat.le_of_ble_eq_true rfl) ⟨lt_r rfl, Nat.le_of_ble_eq_true rfl⟩ (fun x52 M52 h52 => ?_)
  obtain ⟨rfl, d1, d2⟩ := h52
  refine g_istore_n dX7_all_55 rfl (lt_r rfl) rfl ?_
  refine g_aload_n dX7_all_56 rfl rfl ?_
  refine g_aload_n dX7_all_57 rfl rfl ?_
  refine g_getR dX7_all_58 fl_X7_41 rfl rfl ?_
  refine g_bipush dX7_all_61 kB_10 ?_
  refine g_aload_n dX7_all_63 rfl rfl ?_
  refine g_iload_n dX7_all_64 rfl rfl ?_
  refine g_iload_n dX7_all_65 rfl rfl ?_
  refine g_callVi dX7_all_66 mi_X7_carries ml_X7_154 (ct_carF (k1 := 86) (k2 := 95) (g := 100) rfl rfl (by decide) rfl (by decide) (by decide) (by decide)) rfl rfl rfl rfl (Nat.le_of_ble_eq_true rfl) ⟨lt_r rfl, Nat.le_of_ble_eq_true rfl⟩ (fun x66 M66 h66 => ?_)
  obtain ⟨rfl, e1, e2⟩ := h66
  refine g_istore_n dX7_all_69 rfl (lt_r rfl) rfl ?_
  refine g_iload_n dX7_all_70 rfl rfl ?_
  refine g_if_eqN (tgt := 149) dX7_all_71 (by decide) rfl (by omega) (fun c_71 => ?_) (fun c_71 => absurd c_71 (by omega))
  have k0 : ∀ j, M66.1 (B + 80) j = M.1 (B + 80) j := fun j => (e2.j List.not_mem_nil).trans ((d2.j List.not_mem_nil).trans ((c2.j List.not_mem_nil).trans ((b2.j List.not_mem_nil).trans (a2.j List.not_mem_nil))))
  have kF : Fk B M M66 [95] [] := (((a2.tr b2).tr c2).tr d2).tr e2
  obtain ⟨r1, r2, r3, r4, r5, r6, r7, r8, r9, r10⟩ := h
  refine g_aload_n dX7_all_149 rfl rfl ?_
  refine g_iload_n dX7_all_150 rfl rfl ?_
  refine g_aload_n dX7_all_151 rfl rfl ?_
  refine g_getI dX7_all_152 fl_X7_90 rfl rfl ((k0 0).trans r3) ?_
  refine g_iast dX7_all_155 rfl rfl (by omega) ?_
  refine g_aload_n dX7_all_156 rfl rfl ?_
  refine g_iload_n dX7_all_157 rfl rfl ?_
  refine g_iconst dX7_all_158 kI_1 ?_
  refine g_iadd dX7_all_159 (nI_add _ _) ?_
  refine g_aload_n dX7_all_160 rfl rfl ?_
  refine g_getI dX7_all_161 fl_X7_7 rfl rfl ((by (repeat rw [upI_ap (by decide)]); exact (k0 1).trans r4 : _ = nI (sHt s))) ?_
  refine g_iast dX7_all_164 rfl rfl (by omega) ?_
  refine g_aload_n dX7_all_165 rfl rfl ?_
  refine g_iload_n dX7_all_166 rfl rfl ?_
  refine g_iconst dX7_all_167 kI_2 ?_
  refine g_iadd dX7_all_168 (nI_add _ _) ?_
  refine g_aload_n dX7_all_169 rfl rfl ?_
  refine g_getI dX7_all_170 fl_X7_13 rfl rfl ((by (repeat rw [upI_ap (by decide)]); exact (k0 2).trans r5 : _ = nI (sLo s))) ?_
  refine g_iast dX7_all_173 rfl rfl (by omega) ?_
  refine g_aload_n dX7_all_174 rfl rfl ?_
  refine g_iload_n dX7_all_175 rfl rfl ?_
  refine g_iconst dX7_all_176 kI_3 ?_
  refine g_iadd dX7_all_177 (nI_add _ _) ?_
  refine g_aload_n dX7_all_178 rfl rfl ?_
  refine g_getI dX7_all_179 fl_X7_16 rfl rfl ((by (repeat rw [upI_ap (by decide)]); exact (k0 3).trans r6 : _ = nI (sTe s))) ?_
  refine g_iast dX7_all_182 rfl rfl (by omega) ?_
  refine g_aload_n dX7_all_183 rfl rfl ?_
  refine g_iload_n dX7_all_184 rfl rfl ?_
  refine g_iconst dX7_all_185 kI_4 ?_
  refine g_iadd dX7_all_186 (nI_add _ _) ?_
  refine g_aload_n dX7_all_187 rfl rfl ?_
  refine g_getI dX7_all_188 fl_X7_158 rfl rfl ((by (repeat rw [upI_ap (by decide)]); exact (k0 4).trans r7 : _ = sSl s)) ?_
  refine g_iast dX7_all_191 rfl rfl (by omega) ?_
  refine g_aload_n dX7_all_192 rfl rfl ?_
  refine g_iload_n dX7_all_193 rfl rfl ?_
  refine g_iconst dX7_all_194 kI_5 ?_
  refine g_iadd dX7_all_195 (nI_add _ _) ?_
  refine g_aload_n dX7_all_196 rfl rfl ?_
  refine g_getI dX7_all_197 fl_X7_161 rfl rfl ((by (repeat rw [upI_ap (by decide)]); exact (k0 5).trans r8 : _ = sPl s)) ?_
  refine g_iast dX7_all_200 rfl rfl (by omega) ?_
  refine g_aload_n dX7_all_201 rfl rfl ?_
  refine g_iload_n dX7_all_202 rfl rfl ?_
  refine g_bipush dX7_all_203 kB_6 ?_
  refine g_iadd dX7_all_205 (nI_add _ _) ?_
  refine g_aload_n dX7_all_206 rfl rfl ?_
  refine g_getI dX7_all_207 fl_X7_164 rfl rfl ((by (repeat rw [upI_ap (by decide)]); exact (k0 6).trans r9 : _ = sSe s)) ?_
  refine g_iast dX7_all_210 rfl rfl (by omega) ?_
  refine g_aload_n dX7_all_211 rfl rfl ?_
  refine g_iload_n dX7_all_212 rfl rfl ?_
  refine g_bipush dX7_all_213 kB_7 ?_
  refine g_iadd dX7_all_215 (nI_add _ _) ?_
  refine g_aload_n dX7_all_216 rfl rfl ?_
  refine g_getI dX7_all_217 fl_X7_19 rfl rfl ((by (repeat rw [upI_ap (by decide)]); exact (k0 7).trans r10 : _ = sSd s)) ?_
  refine g_iast dX7_all_220 rfl rfl (by omega) ?_
  refine g_vret dX7_all_221 ⟨rfl, ?_⟩
  have w2 : ∀ z, z < 100 → ∀ v0 v1 v2 v3 v4 v5 v6 v7, (upI (upI (upI (upI (upI (upI (upI (upI M66 (B + 95) 100 v0) (B + 95) (100 + 1) v1) (B + 95) (100 + 2) v2) (B + 95) (100 + 3) v3) (B + 95) (100 + 4) v4) (B + 95) (100 + 5) v5) (B + 95) (100 + 6) v6) (B + 95) (100 + 7) v7).1 (B + 95) z = M66.1 (B + 95) z := fun z hz v0 v1 v2 v3 v4 v5 v6 v7 => by rw [upI_k (by omega), upI_k (by omega), upI_k (by omega), upI_k (by omega), upI_k (by omega), upI_k (by omega), upI_k (by omega), upI_k (by omega)]
  refine ⟨⟨fun q hq => ⟨?_, ?_, ?_, fun i hi => ?_⟩, fun i hi => ?_, ?_, ?_, ?_, ?_, ?_, ?_, ?_, ?_⟩, ?_⟩
  · rw [w2 q (by omega)]; have := a1.1 q (by omega); rw [Nat.zero_add] at this; exact ((e1.2 q (by omega)).trans ((d1.2 q (by omega)).trans ((c1.2 q (by omega)).trans ((b1.2 q (by omega)).trans this)))).trans (r1 q hq).1
  · rw [w2 (6 + q) (by omega)]; exact ((e1.2 (6 + q) (by omega)).trans ((d1.2 (6 + q) (by omega)).trans ((c1.2 (6 + q) (by omega)).trans ((b1.1 q (by omega)).trans (congrFun (a2.i (by decide) (by decide)) _))))).trans (r1 q hq).2.1
  · rw [w2 (12 + q) (by omega)]; exact ((e1.2 (12 + q) (by omega)).trans ((d1.2 (12 + q) (by omega)).trans ((c1.1 q (by omega)).trans (congrFun ((a2.tr b2).i (by decide) (by decide)) _)))).trans (r1 q hq).2.2.1
  · have h12 := (ho.1 q hq).2.2.1; rw [w2 (18 + (12 * q + i)) (by omega)]; exact ((e1.2 (18 + (12 * q + i)) (by omega)).trans ((d1.1 (12 * q + i) (by omega)).trans (congrFun (((a2.tr b2).tr c2).i (by decide) (by decide)) _))).trans ((r1 q hq).2.2.2 i hi)
  · rw [w2 (90 + i) (by omega)]; exact ((e1.1 i hi).trans (congrFun ((((a2.tr b2).tr c2).tr d2).i (by decide) (by decide)) _)).trans (r2 i hi)
  all_goals first | exact kF.tr ((((((((Fk.pi (by decide) (by decide)).tr (Fk.pi (by decide) (by decide))).tr (Fk.pi (by decide) (by decide))).tr (Fk.pi (by decide) (by decide))).tr (Fk.pi (by decide) (by decide))).tr (Fk.pi (by decide) (by decide))).tr (Fk.pi (by decide) (by decide))).tr (Fk.pi (by decide) (by decide))) | simp [upI_at]
theorem ct_allF_96 {s : St} (h : RN B M s) (ho : okSt s) : Ct E B yX7_all cX7_all 4 none 1 [.ref (B + 80), .ref (B + 96), .int (nI 0)] M (Rv (fun M2 => RK B M2 96 s ∧ Fk B M M2 [96] [])) := by
  have hcn := ho.2.2.1
  refine Ct.of2 (own := RX7) (lv := [(0, .ref (B + 80)), (1, .ref (B + 96)), (2, .int (nI 0))]) pn_X7 rfl (Nat.le_of_ble_eq_true rfl) rfl ?_
  refine g_aload_n dX7_all_0 rfl rfl ?_
  refine g_aload_n dX7_all_1 rfl rfl ?_
  refine g_getR dX7_all_2 fl_X7_29 rfl rfl ?_
  refine g_bipush dX7_all_5 kB_6 ?_
  refine g_aload_n dX7_all_7 rfl rfl ?_
  refine g_iconst dX7_all_8 kI_0 ?_
  refine g_iload_n dX7_all_9 rfl rfl ?_
  refine g_callVi dX7_all_10 mi_X7_carries ml_X7_154 (ct_carF (k1 := 82) (k2 := 96) (g := 6) rfl rfl (by decide) rfl (by decide) (by decide) (by decide)) rfl rfl rfl rfl (Nat.le_of_ble_eq_true rfl) ⟨lt_r rfl, Nat.le_of_ble_eq_true rfl⟩ (fun x10 M10 h10 => ?_)
  obtain ⟨rfl, a1, a2⟩ := h10
  refine g_istore_n dX7_all_13 rfl (lt_r rfl) rfl ?_
  refine g_aload_n dX7_all_14 rfl rfl ?_
  refine g_aload_n dX7_all_15 rfl rfl ?_
  refine g_getR dX7_all_16 fl_X7_32 rfl rfl ?_
  refine g_bipush dX7_all_19 kB_6 ?_
  refine g_aload_n dX7_all_21 rfl rfl ?_
  refine g_iload_n dX7_all_22 rfl rfl ?_
  refine g_iload_n dX7_all_23 rfl rfl ?_
  refine g_callVi dX7_all_24 mi_X7_carries ml_X7_154 (ct_carF (k1 := 83) (k2 := 96) (g := 12) rfl rfl (by decide) rfl (by decide) (by decide) (by decide)) rfl rfl rfl rfl (Nat.le_of_ble_eq_true rfl) ⟨lt_r rfl, Nat.le_of_ble_eq_true rfl⟩ (fun x24 M24 h24 => ?_)
  obtain ⟨rfl, b1, b2⟩ := h24
  refine g_istore_n dX7_all_27 rfl (lt_r rfl) rfl ?_
  refine g_aload_n dX7_all_28 rfl rfl ?_
  refine g_aload_n dX7_all_29 rfl rfl ?_
  refine g_getR dX7_all_30 fl_X7_35 rfl rfl ?_
  refine g_bipush dX7_all_33 kB_6 ?_
  refine g_aload_n dX7_all_35 rfl rfl ?_
  refine g_iload_n dX7_all_36 rfl rfl ?_
  refine g_iload_n dX7_all_37 rfl rfl ?_
  refine g_callVi dX7_all_38 mi_X7_carries ml_X7_154 (ct_carF (k1 := 84) (k2 := 96) (g := 18) rfl rfl (by decide) rfl (by decide) (by decide) (by decide)) rfl rfl rfl rfl (Nat.le_of_ble_eq_true rfl) ⟨lt_r rfl, Nat.le_of_ble_eq_true rfl⟩ (fun x38 M38 h38 => ?_)
  obtain ⟨rfl, c1, c2⟩ := h38
  refine g_istore_n dX7_all_41 rfl (lt_r rfl) rfl ?_
  refine g_aload_n dX7_all_42 rfl rfl ?_
  refine g_aload_n dX7_all_43 rfl rfl ?_
  refine g_getR dX7_all_44 fl_X7_38 rfl rfl ?_
  refine g_bipush dX7_all_47 kB_72 ?_
  refine g_aload_n dX7_all_49 rfl rfl ?_
  refine g_iload_n dX7_all_50 rfl rfl ?_
  refine g_iload_n dX7_all_51 rfl rfl ?_
  refine g_callVi dX7_all_52 mi_X7_carries ml_X7_154 (ct_carF (k1 := 85) (k2 := 96) (g := 90) rfl rfl (by decide) rfl (by decide) (by decide) (by decide)) rfl rfl rfl rfl (Nat.le_of_ble_eq_true rfl) ⟨lt_r rfl, Nat.le_of_ble_eq_true rfl⟩ (fun x52 M52 h52 => ?_)
  obtain ⟨rfl, d1, d2⟩ := h52
  refine g_istore_n dX7_all_55 rfl (lt_r rfl) rfl ?_
  refine g_aload_n dX7_all_56 rfl rfl ?_
  refine g_aload_n dX7_all_57 rfl rfl ?_
  refine g_getR dX7_all_58 fl_X7_41 rfl rfl ?_
  refine g_bipush dX7_all_61 kB_10 ?_
  refine g_aload_n dX7_all_63 rfl rfl ?_
  refine g_iload_n dX7_all_64 rfl rfl ?_
  refine g_iload_n dX7_all_65 rfl rfl ?_
  refine g_callVi dX7_all_66 mi_X7_carries ml_X7_154 (ct_carF (k1 := 86) (k2 := 96) (g := 100) rfl rfl (by decide) rfl (by decide) (by decide) (by decide)) rfl rfl rfl rfl (Nat.le_of_ble_eq_true rfl) ⟨lt_r rfl, Nat.le_of_ble_eq_true rfl⟩ (fun x66 M66 h66 => ?_)
  obtain ⟨rfl, e1, e2⟩ := h66
  refine g_istore_n dX7_all_69 rfl (lt_r rfl) rfl ?_
  refine g_iload_n dX7_all_70 rfl rfl ?_
  refine g_if_eqN (tgt := 149) dX7_all_71 (by decide) rfl (by omega) (fun c_71 => ?_) (fun c_71 => absurd c_71 (by omega))
  have k0 : ∀ j, M66.1 (B + 80) j = M.1 (B + 80) j := fun j => (e2.j List.not_mem_nil).trans ((d2.j List.not_mem_nil).trans ((c2.j List.not_mem_nil).trans ((b2.j List.not_mem_nil).trans (a2.j List.not_mem_nil))))
  have kF : Fk B M M66 [96] [] := (((a2.tr b2).tr c2).tr d2).tr e2
  obtain ⟨r1, r2, r3, r4, r5, r6, r7, r8, r9, r10⟩ := h
  refine g_aload_n dX7_all_149 rfl rfl ?_
  refine g_iload_n dX7_all_150 rfl rfl ?_
  refine g_aload_n dX7_all_151 rfl rfl ?_
  refine g_getI dX7_all_152 fl_X7_90 rfl rfl ((k0 0).trans r3) ?_
  refine g_iast dX7_all_155 rfl rfl (by omega) ?_
  refine g_aload_n dX7_all_156 rfl rfl ?_
  refine g_iload_n dX7_all_157 rfl rfl ?_
  refine g_iconst dX7_all_158 kI_1 ?_
  refine g_iadd dX7_all_159 (nI_add _ _) ?_
  refine g_aload_n dX7_all_160 rfl rfl ?_
  refine g_getI dX7_all_161 fl_X7_7 rfl rfl ((by (repeat rw [upI_ap (by decide)]); exact (k0 1).trans r4 : _ = nI (sHt s))) ?_
  refine g_iast dX7_all_164 rfl rfl (by omega) ?_
  refine g_aload_n dX7_all_165 rfl rfl ?_
  refine g_iload_n dX7_all_166 rfl rfl ?_
  refine g_iconst dX7_all_167 kI_2 ?_
  refine g_iadd dX7_all_168 (nI_add _ _) ?_
  refine g_aload_n dX7_all_169 rfl rfl ?_
  refine g_getI dX7_all_170 fl_X7_13 rfl rfl ((by (repeat rw [upI_ap (by decide)]); exact (k0 2).trans r5 : _ = nI (sLo s))) ?_
  refine g_iast dX7_all_173 rfl rfl (by omega) ?_
  refine g_aload_n dX7_all_174 rfl rfl ?_
  refine g_iload_n dX7_all_175 rfl rfl ?_
  refine g_iconst dX7_all_176 kI_3 ?_
  refine g_iadd dX7_all_177 (nI_add _ _) ?_
  refine g_aload_n dX7_all_178 rfl rfl ?_
  refine g_getI dX7_all_179 fl_X7_16 rfl rfl ((by (repeat rw [upI_ap (by decide)]); exact (k0 3).trans r6 : _ = nI (sTe s))) ?_
  refine g_iast dX7_all_182 rfl rfl (by omega) ?_
  refine g_aload_n dX7_all_183 rfl rfl ?_
  refine g_iload_n dX7_all_184 rfl rfl ?_
  refine g_iconst dX7_all_185 kI_4 ?_
  refine g_iadd dX7_all_186 (nI_add _ _) ?_
  refine g_aload_n dX7_all_187 rfl rfl ?_
  refine g_getI dX7_all_188 fl_X7_158 rfl rfl ((by (repeat rw [upI_ap (by decide)]); exact (k0 4).trans r7 : _ = sSl s)) ?_
  refine g_iast dX7_all_191 rfl rfl (by omega) ?_
  refine g_aload_n dX7_all_192 rfl rfl ?_
  refine g_iload_n dX7_all_193 rfl rfl ?_
  refine g_iconst dX7_all_194 kI_5 ?_
  refine g_iadd dX7_all_195 (nI_add _ _) ?_
  refine g_aload_n dX7_all_196 rfl rfl ?_
  refine g_getI dX7_all_197 fl_X7_161 rfl rfl ((by (repeat rw [upI_ap (by decide)]); exact (k0 5).trans r8 : _ = sPl s)) ?_
  refine g_iast dX7_all_200 rfl rfl (by omega) ?_
  refine g_aload_n dX7_all_201 rfl rfl ?_
  refine g_iload_n dX7_all_202 rfl rfl ?_
  refine g_bipush dX7_all_203 kB_6 ?_
  refine g_iadd dX7_all_205 (nI_add _ _) ?_
  refine g_aload_n dX7_all_206 rfl rfl ?_
  refine g_getI dX7_all_207 fl_X7_164 rfl rfl ((by (repeat rw [upI_ap (by decide)]); exact (k0 6).trans r9 : _ = sSe s)) ?_
  refine g_iast dX7_all_210 rfl rfl (by omega) ?_
  refine g_aload_n dX7_all_211 rfl rfl ?_
  refine g_iload_n dX7_all_212 rfl rfl ?_
  refine g_bipush dX7_all_213 kB_7 ?_
  refine g_iadd dX7_all_215 (nI_add _ _) ?_
  refine g_aload_n dX7_all_216 rfl rfl ?_
  refine g_getI dX7_all_217 fl_X7_19 rfl rfl ((by (repeat rw [upI_ap (by decide)]); exact (k0 7).trans r10 : _ = sSd s)) ?_
  refine g_iast dX7_all_220 rfl rfl (by omega) ?_
  refine g_vret dX7_all_221 ⟨rfl, ?_⟩
  have w2 : ∀ z, z < 100 → ∀ v0 v1 v2 v3 v4 v5 v6 v7, (upI (upI (upI (upI (upI (upI (upI (upI M66 (B + 96) 100 v0) (B + 96) (100 + 1) v1) (B + 96) (100 + 2) v2) (B + 96) (100 + 3) v3) (B + 96) (100 + 4) v4) (B + 96) (100 + 5) v5) (B + 96) (100 + 6) v6) (B + 96) (100 + 7) v7).1 (B + 96) z = M66.1 (B + 96) z := fun z hz v0 v1 v2 v3 v4 v5 v6 v7 => by rw [upI_k (by omega), upI_k (by omega), upI_k (by omega), upI_k (by omega), upI_k (by omega), upI_k (by omega), upI_k (by omega), upI_k (by omega)]
  refine ⟨⟨fun q hq => ⟨?_, ?_, ?_, fun i hi => ?_⟩, fun i hi => ?_, ?_, ?_, ?_, ?_, ?_, ?_, ?_, ?_⟩, ?_⟩
  · rw [w2 q (by omega)]; have := a1.1 q (by omega); rw [Nat.zero_add] at this; exact ((e1.2 q (by omega)).trans ((d1.2 q (by omega)).trans ((c1.2 q (by omega)).trans ((b1.2 q (by omega)).trans this)))).trans (r1 q hq).1
  · rw [w2 (6 + q) (by omega)]; exact ((e1.2 (6 + q) (by omega)).trans ((d1.2 (6 + q) (by omega)).trans ((c1.2 (6 + q) (by omega)).trans ((b1.1 q (by omega)).trans (congrFun (a2.i (by decide) (by decide)) _))))).trans (r1 q hq).2.1
  · rw [w2 (12 + q) (by omega)]; exact ((e1.2 (12 + q) (by omega)).trans ((d1.2 (12 + q) (by omega)).trans ((c1.1 q (by omega)).trans (congrFun ((a2.tr b2).i (by decide) (by decide)) _)))).trans (r1 q hq).2.2.1
  · have h12 := (ho.1 q hq).2.2.1; rw [w2 (18 + (12 * q + i)) (by omega)]; exact ((e1.2 (18 + (12 * q + i)) (by omega)).trans ((d1.1 (12 * q + i) (by omega)).trans (congrFun (((a2.tr b2).tr c2).i (by decide) (by decide)) _))).trans ((r1 q hq).2.2.2 i hi)
  · rw [w2 (90 + i) (by omega)]; exact ((e1.1 i hi).trans (congrFun ((((a2.tr b2).tr c2).tr d2).i (by decide) (by decide)) _)).trans (r2 i hi)
  all_goals first | exact kF.tr ((((((((Fk.pi (by decide) (by decide)).tr (Fk.pi (by decide) (by decide))).tr (Fk.pi (by decide) (by decide))).tr (Fk.pi (by decide) (by decide))).tr (Fk.pi (by decide) (by decide))).tr (Fk.pi (by decide) (by decide))).tr (Fk.pi (by decide) (by decide))).tr (Fk.pi (by decide) (by decide))) | simp [upI_at]
end X7O
