/-! the whole: shelves, what is now, the image, whether there is one, the fault, refusals, the trace -/
abbrev Sys : Type := (Nat → Sh) × St × St × Bool × Int32 × (Nat → Int32) × Tr
abbrev yH (y : Sys) : Nat → Sh := y.1
abbrev yN (y : Sys) : St := y.2.1
abbrev yI (y : Sys) : St := y.2.2.1
abbrev yB (y : Sys) : Bool := y.2.2.2.1
abbrev yF (y : Sys) : Int32 := y.2.2.2.2.1
abbrev yR (y : Sys) : Nat → Int32 := y.2.2.2.2.2.1
abbrev yT (y : Sys) : Tr := y.2.2.2.2.2.2
def okY (y : Sys) : Prop := (∀ q, q < 8 → okH (sCn (yN y)) (yH y q)) ∧ okSt (yN y) ∧ (yB y = true → okSt (yI y)) ∧ (yT y).1 ≤ 20
abbrev tn (x : Int32) : Nat := x.toNatClampNeg
def rfz (y : Sys) (w : Nat) : Sys := (yH y, yN y, yI y, yB y, yF y, upF (yR y) w (yR y w + nI 1), yT y)
def rz (y : Sys) (w : Nat) : Int32 × Sys := (-(nI w), rfz y w)
def setH (y : Sys) (q : Nat) (x : Sh) : Sys := (upF (yH y) q x, y.2)
def setN (y : Sys) (s : St) : Sys := (yH y, s, y.2.2)
def inSh (s : Int32) : Prop := 0 ≤ s ∧ s < nI 8
def inB (y : Sys) (b : Int32) : Prop := 0 ≤ b ∧ b < nI (sCn (yN y))
def btw (v : Int32) (lo hi : Nat) : Prop := nI lo ≤ v ∧ v ≤ nI hi
def whyRow (y : Sys) (s : Int32) : Nat := if ¬ (0 ≤ s ∧ s < nI 8) then 1 else if (yH y (tn s)).1 = 1 then 0 else if (yH y (tn s)).1 = 0 then 3 else 2
theorem in_sh {s : Int32} (h : 0 ≤ s ∧ s < nI 8) : ∃ j, j < 8 ∧ s = nI j ∧ tn s = j := by
  obtain ⟨j, hj, rfl⟩ := in_nI (by decide) h
  exact ⟨j, hj, rfl, nI_clamp (by omega)⟩
theorem in_b {n : Nat} {b : Int32} (hn : n ≤ 6) (h : 0 ≤ b ∧ b < nI n) : ∃ j, j < n ∧ b = nI j ∧ tn b = j := by
  obtain ⟨j, hj, rfl⟩ := in_nI (by omega) h
  exact ⟨j, hj, rfl, nI_clamp (by omega)⟩
theorem btw_n {v : Int32} {lo hi : Nat} (h1 : hi < 2 ^ 31) (h2 : lo < 2 ^ 31) (h : nI lo ≤ v ∧ v ≤ nI hi) : ∃ j, lo ≤ j ∧ j ≤ hi ∧ v = nI j ∧ tn v = j := by
  have h0 : ¬ v < 0 := fun q => by
    have a1 := Int32.le_iff_toInt_le.mp h.1
    have a2 := Int32.lt_iff_toInt_lt.mp q
    rw [nI_toInt h2] at a1
    have e : (0 : Int32).toInt = 0 := rfl
    omega
  obtain ⟨j, hj, rfl⟩ := nI_of h0
  exact ⟨j, (nI_leI h2 hj).mp h.1, (nI_leI hj h1).mp h.2, rfl, nI_clamp hj⟩
/-- the class in memory -/
def RY (B : Nat) (M : MM) (y : Sys) : Prop :=
  (∀ q, q < 8 → RH B M (64 + 2 * q) (yH y q)) ∧ RS B M 2 (yN y) ∧ (yB y = true → RS B M 17 (yI y)) ∧ M.1 (B + 0) 13 = (if yB y = true then nI 1 else nI 0) ∧ M.1 (B + 0) 14 = yF y ∧ (∀ j, j < 8 → M.1 (B + 60) j = yR y j) ∧ RT B M (yT y)
/-- all that is scratch may have changed -/
def Sc (B : Nat) (M M' : MM) : Prop := ∀ q, (q < 32 ∨ (56 ≤ q ∧ q < 58) ∨ q = 60 ∨ 64 ≤ q) → M'.1 (B + q) = M.1 (B + q) ∧ M'.2 (B + q) = M.2 (B + q)
theorem Sc.rf {B : Nat} {M : MM} : Sc B M M := fun _ _ => ⟨rfl, rfl⟩
theorem Sc.tr {B : Nat} {M M1 M2 : MM} (h1 : Sc B M M1) (h2 : Sc B M1 M2) : Sc B M M2 := fun q hq => ⟨(h2 q hq).1.trans (h1 q hq).1, (h2 q hq).2.trans (h1 q hq).2⟩
theorem Sc.s {B : Nat} {M M' : MM} {lo hi : Nat} (h : Sm B M M' lo hi) (hh : (32 ≤ lo ∧ hi ≤ 56) ∨ (58 ≤ lo ∧ hi ≤ 60) ∨ (61 ≤ lo ∧ hi ≤ 64)) : Sc B M M' := fun q hq => h q (by omega)
theorem Sc.x {B : Nat} {M M' : MM} (h : Sc B M M') : Sm B M M' 0 80 := fun q hq => h q (by omega)
theorem RY.sc {B : Nat} {M M' : MM} {y : Sys} (h : RY B M y) (ho : okY y) (hS : Sc B M M') : RY B M' y := by
  obtain ⟨h1, h2, h3, h4, h5, h6, h7⟩ := h
  have lo : Sm B M M' 32 64 ∨ True := Or.inr trivial
  refine ⟨fun q hq => ?_, ?_, fun hb => ?_, ?_, ?_, fun j hj => ?_, ?_⟩
  · have := h1 q hq
    unfold RH at this ⊢
    rw [(hS (64 + 2 * q) (by omega)).1, (hS (64 + 2 * q + 1) (by omega)).2]
    exact this
  · obtain ⟨a1, a2, a3⟩ := h2
    have hc := ho.2.1.2.2.1
    refine ⟨fun q hq => ?_, ?_, ?_⟩
    · have := a1 q hq
      unfold RB at this ⊢
      rw [(hS (2 + 3 + 2 * q) (by omega)).1, (hS (2 + 3 + 2 * q + 1) (by omega)).1]
      exact this
    · rw [(hS (2 + 2) (by omega)).1]; exact a2
    · rw [(hS 2 (by omega)).1]; exact a3
  · obtain ⟨a1, a2, a3⟩ := h3 hb
    have hc := (ho.2.2.1 hb).2.2.1
    refine ⟨fun q hq => ?_, ?_, ?_⟩
    · have := a1 q hq
      unfold RB at this ⊢
      rw [(hS (17 + 3 + 2 * q) (by omega)).1, (hS (17 + 3 + 2 * q + 1) (by omega)).1]
      exact this
    · rw [(hS (17 + 2) (by omega)).1]; exact a2
    · rw [(hS 17 (by omega)).1]; exact a3
  · rw [(hS 0 (by omega)).1]; exact h4
  · rw [(hS 0 (by omega)).1]; exact h5
  · rw [(hS 60 (by omega)).1]; exact h6 j hj
  · unfold RT at h7 ⊢
    rw [(hS 56 (by omega)).1, (hS 57 (by omega)).1]
    exact h7
/-- one part has changed -/
theorem RY.n {B : Nat} {M M' : MM} {y : Sys} {s : St} (h : RY B M y) (ho : okY y) (hS : Sm B M M' 2 17) (hs : RS B M' 2 s) : RY B M' (setN y s) := by
  obtain ⟨h1, h2, h3, h4, h5, h6, h7⟩ := h
  exact ⟨fun q hq => (h1 q hq).sm hS (by omega), hs, fun hb => (h3 hb).sm (ho.2.2.1 hb) hS (by omega), by rw [hS.i (by omega)]; exact h4, by rw [hS.i (by omega)]; exact h5, fun j hj => by rw [hS.i (by omega)]; exact h6 j hj, h7.sm hS (by omega)⟩
theorem RY.h {B : Nat} {M M' : MM} {y : Sys} {q : Nat} {x : Sh} (h : RY B M y) (ho : okY y) (hq : q < 8) (hS : Sm B M M' (64 + 2 * q) (64 + 2 * q + 2)) (hx : RH B M' (64 + 2 * q) x) : RY B M' (setH y q x) := by
  obtain ⟨h1, h2, h3, h4, h5, h6, h7⟩ := h
  refine ⟨fun j hj => ?_, h2.sm ho.2.1 hS (by omega), fun hb => (h3 hb).sm (ho.2.2.1 hb) hS (by omega), by rw [hS.i (by omega)]; exact h4, by rw [hS.i (by omega)]; exact h5, fun j hj => by rw [hS.i (by omega)]; exact h6 j hj, h7.sm hS (by omega)⟩
  show RH B M' (64 + 2 * j) (upF (yH y) q x j)
  by_cases e : j = q
  · subst e; rw [upF_s]; exact hx
  · rw [upF_n e]; exact (h1 j hj).sm hS (by omega)
theorem ok_setH {y : Sys} {q : Nat} {x : Sh} (ho : okY y) (hx : okH (sCn (yN y)) x) : okY (setH y q x) := by
  refine ⟨fun j hj => ?_, ho.2⟩
  show okH (sCn (yN y)) (upF (yH y) q x j)
  unfold upF
  split
  · exact hx
  · exact ho.1 j hj
theorem ok_setN {y : Sys} {s : St} (ho : okY y) (hs : okSt s) (hc : sCn (yN y) ≤ sCn s) : okY (setN y s) := by
  refine ⟨fun j hj => ?_, hs, ho.2.2⟩
  have := ho.1 j hj
  exact ⟨this.1, this.2.1, fun z => Nat.lt_of_lt_of_le (this.2.2 z) hc⟩
theorem ok_rfz {y : Sys} {w : Nat} (ho : okY y) : okY (rfz y w) := ho
section X6A
variable {E : EE} {B : Nat} {M : MM}
theorem ct_X6_refused {y : Sys} {w : Nat} (h : RY B M y) (ho : okY y) (h1 : 1 ≤ w) (h2 : w ≤ 7) : Ct E B yX6_refused cX6_refused 2 (some .int) 0 [.ref (B + 0), .int (nI w)] M (Ri (fun r M2 => r = -(nI w) ∧ RY B M2 (rfz y w) ∧ Sm B M M2 60 61)) := by
  refine Ct.of2 (own := RX6) (lv := [(0, .ref (B + 0)), (1, .int (nI w))]) pn_X6 rfl (Nat.le_of_ble_eq_true rfl) rfl ?_
  refine g_iload_n dX6_refused_0 rfl rfl ?_
  refine g_if_leN (tgt := 23) dX6_refused_1 (by decide) rfl (by omega) (fun c_1 => absurd c_1 (by omega)) (fun c_1 => ?_)
  refine g_iload_n dX6_refused_4 rfl rfl ?_
  refine g_aload_n dX6_refused_5 rfl rfl ?_
  refine g_getR dX6_refused_6 fl_X6_61 rfl rfl ?_
  refine g_alen dX6_refused_9 rfl rfl ?_
  refine g_icmp_geN (tgt := 23) dX6_refused_10 (by decide) rfl rfl (by omega) (by omega) (fun c_10 => absurd c_10 (by omega)) (fun c_10 => ?_)
  refine g_aload_n dX6_refused_13 rfl rfl ?_
  refine g_getR dX6_refused_14 fl_X6_61 rfl rfl ?_
  refine g_iload_n dX6_refused_17 rfl rfl ?_
  refine g_dup2 dX6_refused_18 rfl rfl ?_
  refine g_iald dX6_refused_19 rfl rfl (by omega) (h.2.2.2.2.2.1 w (by omega)) ?_
  refine g_iconst dX6_refused_20 kI_1 ?_
  refine g_iadd dX6_refused_21 rfl ?_
  refine g_iast dX6_refused_22 rfl rfl (by omega) ?_
  refine g_iload_n dX6_refused_23 rfl rfl ?_
  refine g_ineg dX6_refused_24 rfl ?_
  refine g_iret dX6_refused_25 ⟨_, rfl, ?_⟩
  obtain ⟨g1, g2, g3, g4, g5, g6, g7⟩ := h
  have hS : Sm B M (upI M (B + 60) w (yR y w + nI 1)) 60 61 := Sm.pI (by omega) (by omega)
  refine ⟨rfl, ⟨fun q hq => (g1 q hq).sm hS (by omega), g2.sm ho.2.1 hS (by omega), fun hb => (g3 hb).sm (ho.2.2.1 hb) hS (by omega), by rw [hS.i (by omega)]; exact g4, by rw [hS.i (by omega)]; exact g5, fun j hj => ?_, g7.sm hS (by omega)⟩, hS⟩
  show _ = upF (yR y) w (yR y w + nI 1) j
  rw [upI_at]
  unfold upF
  split
  · rfl
  · exact g6 j hj
theorem ct_X6_isShelf {s : Int32} : Ct E B yX6_isShelf cX6_isShelf 1 (some .boolean) 0 [.int s] M (Rp (bp (0 ≤ s ∧ s < nI 8)) M) := by
  refine Ct.of2 (own := RX6) (lv := [(0, .int s)]) pn_X6 rfl (Nat.le_of_ble_eq_true rfl) rfl ?_
  refine g_iload_n dX6_isShelf_0 rfl rfl ?_
  refine g_if_lt (tgt := 14) dX6_isShelf_1 (by decide) (fun c_1 => ?_) (fun c_1 => ?_)
  · refine g_iconst dX6_isShelf_14 kI_0 ?_
    refine g_zret dX6_isShelf_15 (by first | exact Or.inl rfl | exact Or.inr rfl | exact bp_01) ⟨_, rfl, ?_⟩
    first | exact ⟨bp_t ⟨Int32.not_lt.mp c_1, Int32.not_le.mp c_7⟩, rfl⟩ | exact ⟨bp_f (fun q => Int32.not_lt.mpr q.1 c_1), rfl⟩ | exact ⟨bp_f (fun q => Int32.not_le.mpr q.2 c_7), rfl⟩
  · refine g_iload_n dX6_isShelf_4 rfl rfl ?_
    refine g_bipush dX6_isShelf_5 kB_8 ?_
    refine g_icmp_ge (tgt := 14) dX6_isShelf_7 (by decide) (fun c_7 => ?_) (fun c_7 => ?_)
    · refine g_iconst dX6_isShelf_14 kI_0 ?_
      refine g_zret dX6_isShelf_15 (by first | exact Or.inl rfl | exact Or.inr rfl | exact bp_01) ⟨_, rfl, ?_⟩
      first | exact ⟨bp_t ⟨Int32.not_lt.mp c_1, Int32.not_le.mp c_7⟩, rfl⟩ | exact ⟨bp_f (fun q => Int32.not_lt.mpr q.1 c_1), rfl⟩ | exact ⟨bp_f (fun q => Int32.not_le.mpr q.2 c_7), rfl⟩
    · refine g_iconst dX6_isShelf_10 kI_1 ?_
      refine g_goto (tgt := 15) dX6_isShelf_11 (by decide) ?_
      refine g_zret dX6_isShelf_15 (by first | exact Or.inl rfl | exact Or.inr rfl | exact bp_01) ⟨_, rfl, ?_⟩
      first | exact ⟨bp_t ⟨Int32.not_lt.mp c_1, Int32.not_le.mp c_7⟩, rfl⟩ | exact ⟨bp_f (fun q => Int32.not_lt.mpr q.1 c_1), rfl⟩ | exact ⟨bp_f (fun q => Int32.not_le.mpr q.2 c_7), rfl⟩
theorem ct_hasB {y : Sys} {b : Int32} (h : RY B M y) : Ct E B yX5_hasBiscuit cX5_hasBiscuit 2 (some .boolean) 0 [.ref (B + 2), .int b] M (Rp (bp (0 ≤ b ∧ b < nI (sCn (yN y)))) M) := by
  refine (ct_X5_hasBiscuit isS_2).weaken (fun r M' hr => ?_)
  obtain ⟨x, h1, h2, h3⟩ := hr
  refine ⟨x, h1, ?_, h3⟩
  rw [h2, h.2.1.2.2.1]
theorem ct_hasC {y : Sys} {b c : Int32} (h : RY B M y) (ho : okY y) : Ct E B yX5_hasCellOf cX5_hasCellOf 3 (some .boolean) 1 [.ref (B + 2), .int b, .int c] M (Rp (bp ((0 ≤ b ∧ b < nI (sCn (yN y))) ∧ 0 ≤ c ∧ c < nI (sBs (yN y) (tn b)).2.2.1)) M) := ct_X5_hasCellOf isS_2 h.2.1 ho.2.1
theorem ct_X6_mayBeDunk {d s c : Int32} : Ct E B yX6_mayBeDunk cX6_mayBeDunk 3 (some .boolean) 1 [.int d, .int s, .int c] M (Rp (bp ((nI 0 ≤ d ∧ d ≤ nI 12) ∧ (nI 0 ≤ s ∧ s ≤ nI 60) ∧ (nI 0 ≤ c ∧ c ≤ nI 60))) M) := by
  refine Ct.of2 (own := RX6) (lv := [(0, .int d), (1, .int s), (2, .int c)]) pn_X6 rfl (Nat.le_of_ble_eq_true rfl) rfl ?_
  refine g_iload_n dX6_mayBeDunk_0 rfl rfl ?_
  refine g_iconst dX6_mayBeDunk_1 kI_0 ?_
  refine g_bipush dX6_mayBeDunk_2 kB_12 ?_
  refine g_callSp dX6_mayBeDunk_4 ms_X6_isWithin ml_X6_87 (ct_X6_isWithin) rfl rfl (Nat.le_of_ble_eq_true rfl) ⟨lt_r rfl, Nat.le_of_ble_eq_true rfl⟩ ?_
  refine g_if_eqP (tgt := 34) dX6_mayBeDunk_7 (by decide) (fun c_7 => ?_) (fun c_7 => ?_)
  · refine g_iconst dX6_mayBeDunk_34 kI_0 ?_
    refine g_zret dX6_mayBeDunk_35 (by first | exact Or.inl rfl | exact Or.inr rfl | exact bp_01) ⟨_, rfl, ?_⟩
    first | exact ⟨bp_t ⟨c_7, c_17, c_27⟩, rfl⟩ | exact ⟨bp_f (fun q => c_7 q.1), rfl⟩ | exact ⟨bp_f (fun q => c_17 q.2.1), rfl⟩ | exact ⟨bp_f (fun q => c_27 q.2.2), rfl⟩
  · refine g_iload_n dX6_mayBeDunk_10 rfl rfl ?_
    refine g_iconst dX6_mayBeDunk_11 kI_0 ?_
    refine g_bipush dX6_mayBeDunk_12 kB_60 ?_
    refine g_callSp dX6_mayBeDunk_14 ms_X6_isWithin ml_X6_87 (ct_X6_isWithin) rfl rfl (Nat.le_of_ble_eq_true rfl) ⟨lt_r rfl, Nat.le_of_ble_eq_true rfl⟩ ?_
    refine g_if_eqP (tgt := 34) dX6_mayBeDunk_17 (by decide) (fun c_17 => ?_) (fun c_17 => ?_)
    · refine g_iconst dX6_mayBeDunk_34 kI_0 ?_
      refine g_zret dX6_mayBeDunk_35 (by first | exact Or.inl rfl | exact Or.inr rfl | exact bp_01) ⟨_, rfl, ?_⟩
      first | exact ⟨bp_t ⟨c_7, c_17, c_27⟩, rfl⟩ | exact ⟨bp_f (fun q => c_7 q.1), rfl⟩ | exact ⟨bp_f (fun q => c_17 q.2.1), rfl⟩ | exact ⟨bp_f (fun q => c_27 q.2.2), rfl⟩
    · refine g_iload_n dX6_mayBeDunk_20 rfl rfl ?_
      refine g_iconst dX6_mayBeDunk_21 kI_0 ?_
      refine g_bipush dX6_mayBeDunk_22 kB_60 ?_
      refine g_callSp dX6_mayBeDunk_24 ms_X6_isWithin ml_X6_87 (ct_X6_isWithin) rfl rfl (Nat.le_of_ble_eq_true rfl) ⟨lt_r rfl, Nat.le_of_ble_eq_true rfl⟩ ?_
      refine g_if_eqP (tgt := 34) dX6_mayBeDunk_27 (by decide) (fun c_27 => ?_) (fun c_27 => ?_)
      · refine g_iconst dX6_mayBeDunk_34 kI_0 ?_
        refine g_zret dX6_mayBeDunk_35 (by first | exact Or.inl rfl | exact Or.inr rfl | exact bp_01) ⟨_, rfl, ?_⟩
        first | exact ⟨bp_t ⟨c_7, c_17, c_27⟩, rfl⟩ | exact ⟨bp_f (fun q => c_7 q.1), rfl⟩ | exact ⟨bp_f (fun q => c_17 q.2.1), rfl⟩ | exact ⟨bp_f (fun q => c_27 q.2.2), rfl⟩
      · refine g_iconst dX6_mayBeDunk_30 kI_1 ?_
        refine g_goto (tgt := 35) dX6_mayBeDunk_31 (by decide) ?_
        refine g_zret dX6_mayBeDunk_35 (by first | exact Or.inl rfl | exact Or.inr rfl | exact bp_01) ⟨_, rfl, ?_⟩
        first | exact ⟨bp_t ⟨c_7, c_17, c_27⟩, rfl⟩ | exact ⟨bp_f (fun q => c_7 q.1), rfl⟩ | exact ⟨bp_f (fun q => c_17 q.2.1), rfl⟩ | exact ⟨bp_f (fun q => c_27 q.2.2), rfl⟩
theorem ct_X6_whyNoRow {y : Sys} {s : Int32} (h : RY B M y) (ho : okY y) : Ct E B yX6_whyNoRow cX6_whyNoRow 2 (some .int) 1 [.ref (B + 0), .int s] M (Rp (nI (whyRow y s)) M) := by
  refine Ct.of2 (own := RX6) (lv := [(0, .ref (B + 0)), (1, .int s)]) pn_X6 rfl (Nat.le_of_ble_eq_true rfl) rfl ?_
  refine g_iload_n dX6_whyNoRow_0 rfl rfl ?_
  refine g_callSp dX6_whyNoRow_1 ms_X6_isShelf ml_X6_79 (ct_X6_isShelf) rfl rfl (Nat.le_of_ble_eq_true rfl) ⟨lt_r rfl, Nat.le_of_ble_eq_true rfl⟩ ?_
  refine g_if_neP (tgt := 9) dX6_whyNoRow_4 (by decide) (fun c_4 => ?_) (fun c_4 => ?_)
  · obtain ⟨q, hq, rfl, e⟩ := in_sh c_4
    refine g_aload_n dX6_whyNoRow_9 rfl rfl ?_
    refine g_getR dX6_whyNoRow_10 fl_X6_11 rfl rfl ?_
    refine g_iload_n dX6_whyNoRow_13 rfl rfl ?_
    refine g_aald dX6_whyNoRow_14 rfl rfl (isH_s (by omega)) ?_
    refine g_callVp dX6_whyNoRow_15 mi_X4_holdsRow ml_X6_134 (ct_X4_holdsRow (isH_n (by omega)) (h.1 q hq) (ho.1 q hq)) (isH_n (by omega)).1 rfl rfl rfl (Nat.le_of_ble_eq_true rfl) ⟨lt_r rfl, Nat.le_of_ble_eq_true rfl⟩ ?_
    refine g_if_eqP (tgt := 23) dX6_whyNoRow_18 (by decide) (fun c_18 => ?_) (fun c_18 => ?_)
    · refine g_aload_n dX6_whyNoRow_23 rfl rfl ?_
      refine g_getR dX6_whyNoRow_24 fl_X6_11 rfl rfl ?_
      refine g_iload_n dX6_whyNoRow_27 rfl rfl ?_
      refine g_aald dX6_whyNoRow_28 rfl rfl (isH_s (by omega)) ?_
      refine g_getI dX6_whyNoRow_29 fl_X6_138 (isH_n (by omega)).1 rfl ((h.1 q hq).2.2.1) ?_
      refine g_iconst dX6_whyNoRow_32 kI_m1 ?_
      refine g_icmp_ne (tgt := 40) dX6_whyNoRow_33 (by decide) (fun c_33 => ?_) (fun c_33 => ?_)
      · have z2 : (yH y q).1 = 2 := by
          by_cases z : (yH y q).1 = 2
          · exact z
          · rw [if_neg z] at c_33
            exact absurd rfl c_33
        refine g_iconst dX6_whyNoRow_40 kI_2 ?_
        refine g_iret dX6_whyNoRow_41 ⟨_, rfl, ?_⟩
        refine ⟨?_, rfl⟩
        unfold whyRow
        rw [e, if_neg (fun z => z c_4), if_neg c_18]
        first | rw [if_pos z2] | rw [if_neg (by omega)]
      · have z2 : (yH y q).1 = 0 := by
          have h0 := (ho.1 q hq).1
          by_cases z : (yH y q).1 = 2
          · rw [if_pos z] at c_33
            have := (ho.1 q hq).2.2 z
            have hcn := ho.2.1.2.2.1
            exact absurd c_33 (nI_nm1 (by omega))
          · omega
        refine g_iconst dX6_whyNoRow_36 kI_3 ?_
        refine g_goto (tgt := 41) dX6_whyNoRow_37 (by decide) ?_
        refine g_iret dX6_whyNoRow_41 ⟨_, rfl, ?_⟩
        refine ⟨?_, rfl⟩
        unfold whyRow
        rw [e, if_neg (fun z => z c_4), if_neg c_18]
        first | rw [if_pos z2] | rw [if_neg (by omega)]
    · refine g_iconst dX6_whyNoRow_21 kI_0 ?_
      refine g_iret dX6_whyNoRow_22 ⟨_, rfl, ?_⟩
      refine ⟨?_, rfl⟩
      unfold whyRow
      rw [e, if_neg (fun z => z c_4), if_pos c_18]
  · refine g_iconst dX6_whyNoRow_7 kI_1 ?_
    refine g_iret dX6_whyNoRow_8 ⟨_, rfl, ?_⟩
    refine ⟨?_, rfl⟩
    unfold whyRow
    rw [if_pos c_4]
end X6A
