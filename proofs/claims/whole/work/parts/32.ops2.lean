/-! the calls of the class, first part, the rest -/
theorem nums_le {T : Tx} {s : St} {w : Nat} : ∀ (n i p : Nat) (ns : Nat → Nat), (numsF T s w n i p ns).2.1 ≤ p + 5 * n
  | 0, _, _, _ => Nat.le_refl _
  | n + 1, i, p, ns => by
    have e : numsF T s w (n + 1) i p ns = if ltr T p = nI 32 then (if (numF T 4 (p + 1) 0).2 ≠ p + 1 ∧ @decide _ (okNumD s w i (numF T 4 (p + 1) 0).1 (ns 0)) = true then numsF T s w n (i + 1) (numF T 4 (p + 1) 0).2 (upF ns i (numF T 4 (p + 1) 0).1) else (false, p + 1, ns)) else (false, p, ns) := rfl
    rw [e]
    have h3 := numF_ok (T := T) 4 (p + 1) 0 1 (by decide)
    split
    · split
      · have := nums_le (T := T) (s := s) (w := w) n (i + 1) (numF T 4 (p + 1) 0).2 (upF ns i (numF T 4 (p + 1) 0).1)
        omega
      · show p + 1 ≤ _; omega
    · show p ≤ _; omega
theorem item_le {T : Tx} {s : St} {p : Nat} : (itemF T s p).2.1 ≤ p + 23 := by
  have hw := wordF_le (T := T) (p := p) 7 0 0 rfl (by decide)
  unfold itemF
  dsimp only
  split
  · show p + _ ≤ _; omega
  · rename_i h1
    split
    · show p ≤ _; omega
    · have h8 := (s_all (wordF T p 7 0 0).1 (by omega)).1
      have h9 : nOf (wordF T p 7 0 0).1 ≤ 3 := by
        unfold nOf
        repeat' split
        all_goals omega
      have := nums_le (T := T) (s := s) (w := (wordF T p 7 0 0).1) (nOf (wordF T p 7 0 0).1) 0 (p + sL (wordF T p 7 0 0).1) (fun _ => 0)
      split
      · show (numsF _ _ _ _ _ _ _).2.1 ≤ _; omega
      · show (numsF _ _ _ _ _ _ _).2.1 ≤ _; omega
theorem read_le {T : Tx} : ∀ (n it p : Nat) (s : St), (readF T n it p s).2.1 ≤ p + 24 * n
  | 0, _, _, _ => Nat.zero_le _
  | n + 1, it, p, s => by
    have h1 := item_le (T := T) (s := s) (p := p)
    rw [readF_s]
    split
    · split
      · split
        · have := read_le (T := T) n (it + 1) ((itemF T s p).2.1 + 1) (itemF T s p).2.2
          omega
        · show (itemF T s p).2.1 ≤ _; omega
      · exact Nat.zero_le _
    · show (itemF T s p).2.1 ≤ _; omega
theorem tn_nI {j : Nat} (h : j < 2 ^ 31) : tn (nI j) = j := nI_clamp h
theorem sub_lt0 {a b : Nat} (h : a < b) (hb : b < 2 ^ 31) : nI a - nI b < 0 := by
  have e : (nI a - nI b).toInt = (a : Int) - b := by
    rw [Int32.toInt_sub, nI_toInt (by omega), nI_toInt hb, Int.bmod_def]
    split <;> omega
  rw [Int32.lt_iff_toInt_lt, e]
  have e1 : (0 : Int32).toInt = 0 := rfl
  omega
theorem cpy_bd {len : Nat} {i n : Int32} (hl : len ≤ 160) (h0 : 0 ≤ n) (h1 : ¬ i < 0) (h2 : ¬ nI len - n < i) : ∃ i' n', i = nI i' ∧ n = nI n' ∧ i' + n' ≤ len := by
  obtain ⟨n', hn, rfl⟩ := nI_of (Int32.not_lt.mpr h0)
  obtain ⟨i', hi, rfl⟩ := nI_of h1
  refine ⟨i', n', rfl, rfl, ?_⟩
  by_cases c : n' ≤ len
  · rw [pk_sub (by omega)] at h2
    have := Nat.not_lt.mp (fun z => h2 ((nI_ltI (by omega) hi).mpr z))
    omega
  · exfalso
    apply h2
    have h3 := sub_lt0 (a := len) (b := n') (by omega) hn
    have h4 := Int32.not_lt.mp (nI_pos hi)
    rw [Int32.lt_iff_toInt_lt] at *
    rw [Int32.le_iff_toInt_le] at h4
    omega
theorem whyCopy_0 {y : Sys} {p q i j n : Int32} (h : whyCopy y p q i j n = 0) : whyRow y p = 0 ∧ whyRow y q = 0 ∧ (yH y (tn p)).2.1 = (yH y (tn q)).2.1 ∧ 0 ≤ n ∧ ¬ (i < 0 ∨ j < 0 ∨ nI (yH y (tn p)).2.2.1 - n < i ∨ nI (yH y (tn q)).2.2.1 - n < j) := by
  have a := whyRow_le (y := y) (s := p)
  have b := whyRow_le (y := y) (s := q)
  unfold whyCopy at h
  split at h
  · cases h
  · split at h
    · cases h
    · split at h
      · cases h
      · split at h
        · cases h
        · split at h
          · cases h
          · split at h
            · cases h
            · rename_i n1 n2 n3 n4 n5 n6
              exact ⟨by omega, by omega, Classical.not_not.mp n4, Classical.not_not.mp n5, n6⟩
/-- the fault alone has changed -/
theorem RY.f {B : Nat} {M : MM} {y : Sys} {x : Int32} (h : RY B M y) (ho : okY y) : RY B (upI M (B + 0) 14 x) (setF y x) ∧ okY (setF y x) ∧ Sm B M (upI M (B + 0) 14 x) 0 1 := by
  obtain ⟨g1, g2, g3, g4, g5, g6, g7⟩ := h
  have hS : Sm B M (upI M (B + 0) 14 x) 0 1 := Sm.pI (by omega) (by omega)
  exact ⟨⟨fun q hq => (g1 q hq).sm hS (by omega), g2.sm ho.2.1 hS (by omega), fun hb => (g3 hb).sm (ho.2.2.1 hb) hS (by omega), by rw [upI_k (by decide)]; exact g4, upI_s, fun j hj => by rw [hS.i (by omega)]; exact g6 j hj, g7.sm hS (by omega)⟩, ho, hS⟩
theorem sh_2 {y : Sys} {q : Nat} (ho : okY y) (hq : q < 8) (h1 : ¬ (yH y q).1 = 1) : (0 ≤ (if (yH y q).1 = 2 then nI (yH y q).2.1 else -1) ∧ (if (yH y q).1 = 2 then nI (yH y q).2.1 else -1) < nI (sCn (yN y))) ↔ (yH y q).1 = 2 := by
  have hc := ho.2.1.2.2.1
  constructor
  · intro z
    by_cases w : (yH y q).1 = 2
    · exact w
    · rw [if_neg w] at z
      exact absurd z.1 (by decide)
  · intro w
    have h2 := (ho.1 q hq).2.2 w
    rw [if_pos w]
    exact ⟨Int32.not_lt.mp (nI_pos (by omega)), (nI_ltI (by omega) (by omega)).mpr h2⟩
section X6C
variable {E : EE} {B : Nat} {M : MM}
theorem cx_whyCopy {y : Sys} {p q i j n : Int32} (h : RY B M y) (ho : okY y) : Ct E B yX6_whyNoCopy cX6_whyNoCopy 10 (some .int) 2 [.ref (B + 0), .int p, .int q, .int i, .int j, .int n] M (Rp (nI (whyCopy y p q i j n)) M) := by
  have hp := whyRow_le (y := y) (s := p)
  have hq := whyRow_le (y := y) (s := q)
  refine Ct.of2 (own := RX6) (lv := [(0, .ref (B + 0)), (1, .int p), (2, .int q), (3, .int i), (4, .int j), (5, .int n)]) pn_X6 rfl (Nat.le_of_ble_eq_true rfl) rfl ?_
  refine g_aload_n dX6_whyNoCopy_0 rfl rfl ?_
  refine g_iload_n dX6_whyNoCopy_1 rfl rfl ?_
  refine g_callVp dX6_whyNoCopy_2 mi_X6_whyNoRow ml_X6_95 (ct_X6_whyNoRow h ho) rfl rfl rfl rfl (Nat.le_of_ble_eq_true rfl) ⟨lt_r rfl, Nat.le_of_ble_eq_true rfl⟩ ?_
  refine g_istore dX6_whyNoCopy_5 (lt_r rfl) rfl ?_
  refine g_aload_n dX6_whyNoCopy_7 rfl rfl ?_
  refine g_iload_n dX6_whyNoCopy_8 rfl rfl ?_
  refine g_callVp dX6_whyNoCopy_9 mi_X6_whyNoRow ml_X6_95 (ct_X6_whyNoRow h ho) rfl rfl rfl rfl (Nat.le_of_ble_eq_true rfl) ⟨lt_r rfl, Nat.le_of_ble_eq_true rfl⟩ ?_
  refine g_istore dX6_whyNoCopy_12 (lt_r rfl) rfl ?_
  refine g_iload dX6_whyNoCopy_14 rfl ?_
  refine g_iconst dX6_whyNoCopy_16 kI_1 ?_
  refine g_icmp_eqN (tgt := 26) dX6_whyNoCopy_17 (by decide) rfl rfl (by omega) (by omega) (fun c_17 => ?_) (fun c_17 => ?_)
  · refine g_iconst dX6_whyNoCopy_26 kI_1 ?_
    refine g_iret dX6_whyNoCopy_27 ⟨_, rfl, ?_⟩
    refine ⟨?_, rfl⟩
    unfold whyCopy
    rw [if_pos (by omega)]
  · refine g_iload dX6_whyNoCopy_20 rfl ?_
    refine g_iconst dX6_whyNoCopy_22 kI_1 ?_
    refine g_icmp_neN (tgt := 28) dX6_whyNoCopy_23 (by decide) rfl rfl (by omega) (by omega) (fun c_23 => ?_) (fun c_23 => ?_)
    · refine g_iload dX6_whyNoCopy_28 rfl ?_
      refine g_iconst dX6_whyNoCopy_30 kI_2 ?_
      refine g_icmp_eqN (tgt := 40) dX6_whyNoCopy_31 (by decide) rfl rfl (by omega) (by omega) (fun c_31 => ?_) (fun c_31 => ?_)
      · refine g_iconst dX6_whyNoCopy_40 kI_2 ?_
        refine g_iret dX6_whyNoCopy_41 ⟨_, rfl, ?_⟩
        refine ⟨?_, rfl⟩
        unfold whyCopy
        rw [if_neg (by omega), if_pos (by omega)]
      · refine g_iload dX6_whyNoCopy_34 rfl ?_
        refine g_iconst dX6_whyNoCopy_36 kI_2 ?_
        refine g_icmp_neN (tgt := 42) dX6_whyNoCopy_37 (by decide) rfl rfl (by omega) (by omega) (fun c_37 => ?_) (fun c_37 => ?_)
        · refine g_iload dX6_whyNoCopy_42 rfl ?_
          refine g_iconst dX6_whyNoCopy_44 kI_3 ?_
          refine g_icmp_eqN (tgt := 54) dX6_whyNoCopy_45 (by decide) rfl rfl (by omega) (by omega) (fun c_45 => ?_) (fun c_45 => ?_)
          · refine g_iconst dX6_whyNoCopy_54 kI_3 ?_
            refine g_iret dX6_whyNoCopy_55 ⟨_, rfl, ?_⟩
            refine ⟨?_, rfl⟩
            unfold whyCopy
            rw [if_neg (by omega), if_neg (by omega), if_pos (by omega)]
          · refine g_iload dX6_whyNoCopy_48 rfl ?_
            refine g_iconst dX6_whyNoCopy_50 kI_3 ?_
            refine g_icmp_neN (tgt := 56) dX6_whyNoCopy_51 (by decide) rfl rfl (by omega) (by omega) (fun c_51 => ?_) (fun c_51 => ?_)
            · obtain ⟨d1, d2⟩ := whyRow_0 (y := y) (s := p) (by omega)
              obtain ⟨d3, d4⟩ := whyRow_0 (y := y) (s := q) (by omega)
              obtain ⟨p', hp', rfl, e1⟩ := in_sh d1
              obtain ⟨q', hq', rfl, e2⟩ := in_sh d3
              rw [e1] at d2
              rw [e2] at d4
              have b1 := (ho.1 p' hp').2.1 d2
              have b2 := (ho.1 q' hq').2.1 d4
              refine g_aload_n dX6_whyNoCopy_56 rfl rfl ?_
              refine g_getR dX6_whyNoCopy_57 fl_X6_11 rfl rfl ?_
              refine g_iload_n dX6_whyNoCopy_60 rfl rfl ?_
              refine g_aald dX6_whyNoCopy_61 rfl rfl (isH_s (by omega)) ?_
              refine g_astore dX6_whyNoCopy_62 (lt_r rfl) rfl ?_
              refine g_aload_n dX6_whyNoCopy_64 rfl rfl ?_
              refine g_getR dX6_whyNoCopy_65 fl_X6_11 rfl rfl ?_
              refine g_iload_n dX6_whyNoCopy_68 rfl rfl ?_
              refine g_aald dX6_whyNoCopy_69 rfl rfl (isH_s (by omega)) ?_
              refine g_astore dX6_whyNoCopy_70 (lt_r rfl) rfl ?_
              refine g_aload dX6_whyNoCopy_72 rfl ?_
              refine g_getI dX6_whyNoCopy_74 fl_X6_350 (isH_n (by omega)).1 rfl (show _ = nI (yH y p').2.1 from (by rw [(h.1 p' hp').1, if_pos d2])) ?_
              refine g_aload dX6_whyNoCopy_77 rfl ?_
              refine g_getI dX6_whyNoCopy_79 fl_X6_350 (isH_n (by omega)).1 rfl (show _ = nI (yH y q').2.1 from (by rw [(h.1 q' hq').1, if_pos d4])) ?_
              refine g_icmp_eqN (tgt := 87) dX6_whyNoCopy_82 (by decide) rfl rfl (by omega) (by omega) (fun c_82 => ?_) (fun c_82 => ?_)
              · refine g_iload dX6_whyNoCopy_87 rfl ?_
                refine g_if_ge (tgt := 94) dX6_whyNoCopy_89 (by decide) (fun c_89 => ?_) (fun c_89 => ?_)
                · refine g_iload_n dX6_whyNoCopy_94 rfl rfl ?_
                  refine g_if_lt (tgt := 128) dX6_whyNoCopy_95 (by decide) (fun c_95 => ?_) (fun c_95 => ?_)
                  · refine g_iconst dX6_whyNoCopy_128 kI_5 ?_
                    refine g_goto (tgt := 133) dX6_whyNoCopy_129 (by decide) ?_
                    refine g_iret dX6_whyNoCopy_133 ⟨_, rfl, ?_⟩
                    refine ⟨?_, rfl⟩
                    unfold whyCopy
                    rw [if_neg (by omega), if_neg (by omega), if_neg (by omega), e1, e2, if_neg (fun z => z c_82), if_neg (fun z => z c_89)]
                    first | rw [if_pos (Or.inl c_95)] | rw [if_pos (Or.inr (Or.inl c_100))] | rw [if_pos (Or.inr (Or.inr (Or.inl c_112)))] | rw [if_pos (Or.inr (Or.inr (Or.inr (Int32.not_le.mp c_125))))] | rw [if_neg (fun z => z.elim c_95 (fun z => z.elim c_100 (fun z => z.elim c_112 (fun z => Int32.not_lt.mpr c_125 z))))]
                  · refine g_iload dX6_whyNoCopy_98 rfl ?_
                    refine g_if_lt (tgt := 128) dX6_whyNoCopy_100 (by decide) (fun c_100 => ?_) (fun c_100 => ?_)
                    · refine g_iconst dX6_whyNoCopy_128 kI_5 ?_
                      refine g_goto (tgt := 133) dX6_whyNoCopy_129 (by decide) ?_
                      refine g_iret dX6_whyNoCopy_133 ⟨_, rfl, ?_⟩
                      refine ⟨?_, rfl⟩
                      unfold whyCopy
                      rw [if_neg (by omega), if_neg (by omega), if_neg (by omega), e1, e2, if_neg (fun z => z c_82), if_neg (fun z => z c_89)]
                      first | rw [if_pos (Or.inl c_95)] | rw [if_pos (Or.inr (Or.inl c_100))] | rw [if_pos (Or.inr (Or.inr (Or.inl c_112)))] | rw [if_pos (Or.inr (Or.inr (Or.inr (Int32.not_le.mp c_125))))] | rw [if_neg (fun z => z.elim c_95 (fun z => z.elim c_100 (fun z => z.elim c_112 (fun z => Int32.not_lt.mpr c_125 z))))]
                    · refine g_iload_n dX6_whyNoCopy_103 rfl rfl ?_
                      refine g_aload dX6_whyNoCopy_104 rfl ?_
                      refine g_getI dX6_whyNoCopy_106 fl_X6_353 (isH_n (by omega)).1 rfl (show _ = nI (yH y p').2.2.1 from (by rw [(h.1 p' hp').2.1, if_pos d2])) ?_
                      refine g_iload dX6_whyNoCopy_109 rfl ?_
                      refine g_isub dX6_whyNoCopy_111 rfl ?_
                      refine g_icmp_gt (tgt := 128) dX6_whyNoCopy_112 (by decide) (fun c_112 => ?_) (fun c_112 => ?_)
                      · refine g_iconst dX6_whyNoCopy_128 kI_5 ?_
                        refine g_goto (tgt := 133) dX6_whyNoCopy_129 (by decide) ?_
                        refine g_iret dX6_whyNoCopy_133 ⟨_, rfl, ?_⟩
                        refine ⟨?_, rfl⟩
                        unfold whyCopy
                        rw [if_neg (by omega), if_neg (by omega), if_neg (by omega), e1, e2, if_neg (fun z => z c_82), if_neg (fun z => z c_89)]
                        first | rw [if_pos (Or.inl c_95)] | rw [if_pos (Or.inr (Or.inl c_100))] | rw [if_pos (Or.inr (Or.inr (Or.inl c_112)))] | rw [if_pos (Or.inr (Or.inr (Or.inr (Int32.not_le.mp c_125))))] | rw [if_neg (fun z => z.elim c_95 (fun z => z.elim c_100 (fun z => z.elim c_112 (fun z => Int32.not_lt.mpr c_125 z))))]
                      · refine g_iload dX6_whyNoCopy_115 rfl ?_
                        refine g_aload dX6_whyNoCopy_117 rfl ?_
                        refine g_getI dX6_whyNoCopy_119 fl_X6_353 (isH_n (by omega)).1 rfl (show _ = nI (yH y q').2.2.1 from (by rw [(h.1 q' hq').2.1, if_pos d4])) ?_
                        refine g_iload dX6_whyNoCopy_122 rfl ?_
                        refine g_isub dX6_whyNoCopy_124 rfl ?_
                        refine g_icmp_le (tgt := 132) dX6_whyNoCopy_125 (by decide) (fun c_125 => ?_) (fun c_125 => ?_)
                        · refine g_iconst dX6_whyNoCopy_132 kI_0 ?_
                          refine g_iret dX6_whyNoCopy_133 ⟨_, rfl, ?_⟩
                          refine ⟨?_, rfl⟩
                          unfold whyCopy
                          rw [if_neg (by omega), if_neg (by omega), if_neg (by omega), e1, e2, if_neg (fun z => z c_82), if_neg (fun z => z c_89)]
                          first | rw [if_pos (Or.inl c_95)] | rw [if_pos (Or.inr (Or.inl c_100))] | rw [if_pos (Or.inr (Or.inr (Or.inl c_112)))] | rw [if_pos (Or.inr (Or.inr (Or.inr (Int32.not_le.mp c_125))))] | rw [if_neg (fun z => z.elim c_95 (fun z => z.elim c_100 (fun z => z.elim c_112 (fun z => Int32.not_lt.mpr c_125 z))))]
                        · refine g_iconst dX6_whyNoCopy_128 kI_5 ?_
                          refine g_goto (tgt := 133) dX6_whyNoCopy_129 (by decide) ?_
                          refine g_iret dX6_whyNoCopy_133 ⟨_, rfl, ?_⟩
                          refine ⟨?_, rfl⟩
                          unfold whyCopy
                          rw [if_neg (by omega), if_neg (by omega), if_neg (by omega), e1, e2, if_neg (fun z => z c_82), if_neg (fun z => z c_89)]
                          first | rw [if_pos (Or.inl c_95)] | rw [if_pos (Or.inr (Or.inl c_100))] | rw [if_pos (Or.inr (Or.inr (Or.inl c_112)))] | rw [if_pos (Or.inr (Or.inr (Or.inr (Int32.not_le.mp c_125))))] | rw [if_neg (fun z => z.elim c_95 (fun z => z.elim c_100 (fun z => z.elim c_112 (fun z => Int32.not_lt.mpr c_125 z))))]
                · refine g_iconst dX6_whyNoCopy_92 kI_4 ?_
                  refine g_iret dX6_whyNoCopy_93 ⟨_, rfl, ?_⟩
                  refine ⟨?_, rfl⟩
                  unfold whyCopy
                  rw [if_neg (by omega), if_neg (by omega), if_neg (by omega), e1, e2, if_neg (fun z => z c_82), if_pos c_89]
              · refine g_iconst dX6_whyNoCopy_85 kI_2 ?_
                refine g_iret dX6_whyNoCopy_86 ⟨_, rfl, ?_⟩
                refine ⟨?_, rfl⟩
                unfold whyCopy
                rw [if_neg (by omega), if_neg (by omega), if_neg (by omega), e1, e2, if_pos c_82]
            · refine g_iconst dX6_whyNoCopy_54 kI_3 ?_
              refine g_iret dX6_whyNoCopy_55 ⟨_, rfl, ?_⟩
              refine ⟨?_, rfl⟩
              unfold whyCopy
              rw [if_neg (by omega), if_neg (by omega), if_pos (by omega)]
        · refine g_iconst dX6_whyNoCopy_40 kI_2 ?_
          refine g_iret dX6_whyNoCopy_41 ⟨_, rfl, ?_⟩
          refine ⟨?_, rfl⟩
          unfold whyCopy
          rw [if_neg (by omega), if_pos (by omega)]
    · refine g_iconst dX6_whyNoCopy_26 kI_1 ?_
      refine g_iret dX6_whyNoCopy_27 ⟨_, rfl, ?_⟩
      refine ⟨?_, rfl⟩
      unfold whyCopy
      rw [if_pos (by omega)]
theorem cx_copy {y : Sys} {p q i j n : Int32} (h : RY B M y) (ho : okY y) : Ct E B yX6_copy cX6_copy 7 (some .int) 3 [.ref (B + 0), .int p, .int q, .int i, .int j, .int n] M (QY B M (o_copy y p q i j n)) := by
  have hw := whyCopy_le (y := y) (p := p) (q := q) (i := i) (j := j) (n := n)
  refine Ct.of2 (own := RX6) (lv := [(0, .ref (B + 0)), (1, .int p), (2, .int q), (3, .int i), (4, .int j), (5, .int n)]) pn_X6 rfl (Nat.le_of_ble_eq_true rfl) rfl ?_
  refine g_aload_n dX6_copy_0 rfl rfl ?_
  refine g_iload_n dX6_copy_1 rfl rfl ?_
  refine g_iload_n dX6_copy_2 rfl rfl ?_
  refine g_iload_n dX6_copy_3 rfl rfl ?_
  refine g_iload dX6_copy_4 rfl ?_
  refine g_iload dX6_copy_6 rfl ?_
  refine g_callVp dX6_copy_8 mi_X6_whyNoCopy ml_X6_105 (cx_whyCopy h ho) rfl rfl rfl rfl (Nat.le_of_ble_eq_true rfl) ⟨lt_r rfl, Nat.le_of_ble_eq_true rfl⟩ ?_
  refine g_istore dX6_copy_11 (lt_r rfl) rfl ?_
  refine g_iload dX6_copy_13 rfl ?_
  refine g_if_eqN (tgt := 25) dX6_copy_15 (by decide) rfl (by omega) (fun c_15 => ?_) (fun c_15 => ?_)
  · obtain ⟨w1, w2, w3, w4, w5⟩ := whyCopy_0 c_15
    have e9 : o_copy y p q i j n = _ := if_neg (fun z => z c_15)
    rw [e9]
    obtain ⟨d1, d2⟩ := whyRow_0 (y := y) (s := p) (by omega)
    obtain ⟨d3, d4⟩ := whyRow_0 (y := y) (s := q) (by omega)
    obtain ⟨p', hp', rfl, e1⟩ := in_sh d1
    obtain ⟨q', hq', rfl, e2⟩ := in_sh d3
    rw [e1] at d2 w3 w5
    rw [e2] at d4 w3 w5
    have b1 := (ho.1 p' hp').2.1 d2
    have b2 := (ho.1 q' hq').2.1 d4
    obtain ⟨i', n', rfl, rfl, g1⟩ := cpy_bd b1.2 w4 (fun z => w5 (Or.inl z)) (fun z => w5 (Or.inr (Or.inr (Or.inl z))))
    obtain ⟨j', n2, rfl, f2, g2⟩ := cpy_bd b2.2 w4 (fun z => w5 (Or.inr (Or.inl z))) (fun z => w5 (Or.inr (Or.inr (Or.inr z))))
    have f3 : n2 = n' := by
      have f4 := congrArg Int32.toInt f2
      rw [nI_toInt (by omega), nI_toInt (by omega)] at f4
      omega
    subst f3
    refine g_aload_n dX6_copy_25 rfl rfl ?_
    refine g_getR dX6_copy_26 fl_X6_11 rfl rfl ?_
    refine g_iload_n dX6_copy_29 rfl rfl ?_
    refine g_aald dX6_copy_30 rfl rfl (isH_s (by omega)) ?_
    refine g_getR dX6_copy_31 fl_X6_109 (isH_n (by omega)).1 rfl ?_
    refine g_iload_n dX6_copy_34 rfl rfl ?_
    refine g_aload_n dX6_copy_35 rfl rfl ?_
    refine g_getR dX6_copy_36 fl_X6_11 rfl rfl ?_
    refine g_iload_n dX6_copy_39 rfl rfl ?_
    refine g_aald dX6_copy_40 rfl rfl (isH_s (by omega)) ?_
    refine g_getR dX6_copy_41 fl_X6_109 (isH_n (by omega)).1 rfl ?_
    refine g_iload dX6_copy_44 rfl ?_
    refine g_iload dX6_copy_46 rfl ?_
    refine g_cpyL dX6_copy_48 ml_X6_113 (isH_n (by omega)).2 (isH_n (by omega)).2 rfl rfl rfl (by omega) (by omega) ⟨lt_r rfl, Nat.le_of_ble_eq_true rfl⟩ ?_
    refine g_iconst dX6_copy_51 kI_1 ?_
    refine g_iret dX6_copy_52 ⟨_, rfl, ?_⟩
    have hS : Sm B M (upRL M (B + (64 + 2 * q' + 1)) (va_cpy (M.2 (B + (64 + 2 * p' + 1))) (M.2 (B + (64 + 2 * q' + 1))) i' j' n2)) (64 + 2 * q') (64 + 2 * q' + 2) := Sm.pRL (by omega) (by omega)
    rw [e1, e2, tn_nI (show i' < 2 ^ 31 by omega), tn_nI (show j' < 2 ^ 31 by omega), tn_nI (show n2 < 2 ^ 31 by omega)]
    obtain ⟨r1, r2, r3, r4⟩ := h.1 q' hq'
    refine ⟨rfl, h.h ho hq' hS ⟨by rw [if_pos d4] at r1; exact r1, by rw [if_pos d4] at r2; exact r2, by rw [if_neg (by omega)] at r3; exact r3, fun _ i hi => ?_⟩, ok_setH ho ⟨by show 1 ≤ 2; omega, fun _ => b2, fun z => absurd z (by show ¬ 1 = 2; omega)⟩, hS.up (by omega) (by omega)⟩
    have hi : i < (yH y q').2.2.1 := hi
    rw [upRL_s]
    show _ = va_cpy (yH y p').2.2.2 (yH y q').2.2.2 i' j' n2 i
    unfold va_cpy
    split
    · exact (h.1 p' hp').2.2.2 d2 _ (by omega)
    · exact r4 d4 i hi
  · refine g_aload_n dX6_copy_18 rfl rfl ?_
    refine g_iload dX6_copy_19 rfl ?_
    refine g_callVi dX6_copy_21 mi_X6_refused ml_X6_83 (ct_X6_refused h ho (by omega) (by omega)) rfl rfl rfl rfl (Nat.le_of_ble_eq_true rfl) ⟨lt_r rfl, Nat.le_of_ble_eq_true rfl⟩ (fun x21 M21 h21 => ?_)
    refine g_iret dX6_copy_24 ⟨_, rfl, ?_⟩
    exact QY.rf ho (if_pos (by omega)) h21
theorem cx_saysAs {y : Sys} {kd q : Nat} (h : RY B M y) (ho : okY y) (hk : kd ≤ 6) (hq : q < sCn (yN y)) : Ct E B yX6_saysAs cX6_saysAs 3 (some .int) 1 [.ref (B + 0), .ref (B + (2 + 3 + 2 * q)), .int (nI kd)] M (Rp (saysI y (sBs (yN y) q) kd) M) := by
  have hc := ho.2.1.2.2.1
  have hbq : isB (2 + 3 + 2 * q) := isS_2.2.2.2 q (by omega)
  have hR := h.2.1.1 q hq
  have hB := ho.2.1.1 q hq
  have ek := nI_toInt (n := kd) (by omega)
  refine Ct.of2 (own := RX6) (lv := [(0, .ref (B + 0)), (1, .ref (B + (2 + 3 + 2 * q))), (2, .int (nI kd))]) pn_X6 rfl (Nat.le_of_ble_eq_true rfl) rfl ?_
  refine g_iload_n dX6_saysAs_0 rfl rfl ?_
  refine g_tblC (off := 39) (tgt := 40) dX6_saysAs_1 1 (by decide) (by decide) (by decide) (by decide) (fun c_1_1 => ?_) (fun c_1_1 => ?_)
  · refine g_aload_n dX6_saysAs_40 rfl rfl ?_
    refine g_iconst dX6_saysAs_41 kI_0 ?_
    refine g_aload_n dX6_saysAs_42 rfl rfl ?_
    refine g_getR dX6_saysAs_43 fl_X6_18 rfl rfl ?_
    refine g_getI dX6_saysAs_46 fl_X6_181 isS_2.1 rfl (h.2.1.2.2.2.1) ?_
    refine g_callVp dX6_saysAs_49 mi_X1_soakOf ml_X6_204 (ct_X1_soakOf hbq hR hB (by decide) ho.2.1.2.2.2.1) hbq.1 rfl rfl rfl (Nat.le_of_ble_eq_true rfl) ⟨lt_r rfl, Nat.le_of_ble_eq_true rfl⟩ ?_
    refine g_iret dX6_saysAs_52 ⟨_, rfl, ?_⟩
    refine ⟨?_, rfl⟩
    first | (have e9 := (nI_eq (by omega) (by decide)).mp c_1_1; subst e9; rfl) | (have e9 := (nI_eq (by omega) (by decide)).mp c_1_2; subst e9; rfl) | (have e9 := (nI_eq (by omega) (by decide)).mp c_1_4; subst e9; rfl)
  refine g_tblC (off := 39) (tgt := 40) dX6_saysAs_1 2 (by decide) (by decide) (by decide) (by decide) (fun c_1_2 => ?_) (fun c_1_2 => ?_)
  · refine g_aload_n dX6_saysAs_40 rfl rfl ?_
    refine g_iconst dX6_saysAs_41 kI_0 ?_
    refine g_aload_n dX6_saysAs_42 rfl rfl ?_
    refine g_getR dX6_saysAs_43 fl_X6_18 rfl rfl ?_
    refine g_getI dX6_saysAs_46 fl_X6_181 isS_2.1 rfl (h.2.1.2.2.2.1) ?_
    refine g_callVp dX6_saysAs_49 mi_X1_soakOf ml_X6_204 (ct_X1_soakOf hbq hR hB (by decide) ho.2.1.2.2.2.1) hbq.1 rfl rfl rfl (Nat.le_of_ble_eq_true rfl) ⟨lt_r rfl, Nat.le_of_ble_eq_true rfl⟩ ?_
    refine g_iret dX6_saysAs_52 ⟨_, rfl, ?_⟩
    refine ⟨?_, rfl⟩
    first | (have e9 := (nI_eq (by omega) (by decide)).mp c_1_1; subst e9; rfl) | (have e9 := (nI_eq (by omega) (by decide)).mp c_1_2; subst e9; rfl) | (have e9 := (nI_eq (by omega) (by decide)).mp c_1_4; subst e9; rfl)
  refine g_tblC (off := 52) (tgt := 53) dX6_saysAs_1 3 (by decide) (by decide) (by decide) (by decide) (fun c_1_3 => ?_) (fun c_1_3 => ?_)
  · refine g_aload_n dX6_saysAs_53 rfl rfl ?_
    refine g_getI dX6_saysAs_54 fl_X6_165 hbq.1 rfl (hR.2.1) ?_
    refine g_iret dX6_saysAs_57 ⟨_, rfl, ?_⟩
    refine ⟨?_, rfl⟩
    have e9 := (nI_eq (by omega) (by decide)).mp c_1_3
    subst e9
    rfl
  refine g_tblC (off := 39) (tgt := 40) dX6_saysAs_1 4 (by decide) (by decide) (by decide) (by decide) (fun c_1_4 => ?_) (fun c_1_4 => ?_)
  · refine g_aload_n dX6_saysAs_40 rfl rfl ?_
    refine g_iconst dX6_saysAs_41 kI_0 ?_
    refine g_aload_n dX6_saysAs_42 rfl rfl ?_
    refine g_getR dX6_saysAs_43 fl_X6_18 rfl rfl ?_
    refine g_getI dX6_saysAs_46 fl_X6_181 isS_2.1 rfl (h.2.1.2.2.2.1) ?_
    refine g_callVp dX6_saysAs_49 mi_X1_soakOf ml_X6_204 (ct_X1_soakOf hbq hR hB (by decide) ho.2.1.2.2.2.1) hbq.1 rfl rfl rfl (Nat.le_of_ble_eq_true rfl) ⟨lt_r rfl, Nat.le_of_ble_eq_true rfl⟩ ?_
    refine g_iret dX6_saysAs_52 ⟨_, rfl, ?_⟩
    refine ⟨?_, rfl⟩
    first | (have e9 := (nI_eq (by omega) (by decide)).mp c_1_1; subst e9; rfl) | (have e9 := (nI_eq (by omega) (by decide)).mp c_1_2; subst e9; rfl) | (have e9 := (nI_eq (by omega) (by decide)).mp c_1_4; subst e9; rfl)
  refine g_tblC (off := 57) (tgt := 58) dX6_saysAs_1 5 (by decide) (by decide) (by decide) (by decide) (fun c_1_5 => ?_) (fun c_1_5 => ?_)
  · refine g_aload_n dX6_saysAs_58 rfl rfl ?_
    refine g_iconst dX6_saysAs_59 kI_0 ?_
    refine g_callVp dX6_saysAs_60 mi_X1_holdsSoWet ml_X6_356 (ct_X1_holdsSoWet hbq (w := 0) hR hB) hbq.1 rfl rfl rfl (Nat.le_of_ble_eq_true rfl) ⟨lt_r rfl, Nat.le_of_ble_eq_true rfl⟩ ?_
    refine g_iret dX6_saysAs_63 ⟨_, rfl, ?_⟩
    refine ⟨?_, rfl⟩
    have e9 := (nI_eq (by omega) (by decide)).mp c_1_5
    subst e9
    rfl
  refine g_tblC (off := 63) (tgt := 64) dX6_saysAs_1 6 (by decide) (by decide) (by decide) (by decide) (fun c_1_6 => ?_) (fun c_1_6 => ?_)
  · refine g_aload_n dX6_saysAs_64 rfl rfl ?_
    refine g_bipush dX6_saysAs_65 kB_10 ?_
    refine g_callVp dX6_saysAs_67 mi_X1_holdsSoWet ml_X6_356 (ct_X1_holdsSoWet hbq (w := 10) hR hB) hbq.1 rfl rfl rfl (Nat.le_of_ble_eq_true rfl) ⟨lt_r rfl, Nat.le_of_ble_eq_true rfl⟩ ?_
    refine g_iret dX6_saysAs_70 ⟨_, rfl, ?_⟩
    refine ⟨?_, rfl⟩
    have e9 := (nI_eq (by omega) (by decide)).mp c_1_6
    subst e9
    rfl
  refine g_tableOut (tgt := 71) dX6_saysAs_1 (by skip; omega) (by decide) ?_
  refine g_aload_n dX6_saysAs_71 rfl rfl ?_
  refine g_getI dX6_saysAs_72 fl_X6_162 hbq.1 rfl (hR.2.2.1) ?_
  refine g_iret dX6_saysAs_75 ⟨_, rfl, ?_⟩
  refine ⟨?_, rfl⟩
  have e9 : kd = 0 := by omega
  subst e9
  rfl
theorem cx_says {y : Sys} {s kd : Int32} (h : RY B M y) (ho : okY y) : Ct E B yX6_says cX6_says 5 (some .int) 5 [.ref (B + 0), .int s, .int kd] M (QY B M (o_says y s kd)) := by
  have hc := ho.2.1.2.2.1
  refine Ct.of2 (own := RX6) (lv := [(0, .ref (B + 0)), (1, .int s), (2, .int kd)]) pn_X6 rfl (Nat.le_of_ble_eq_true rfl) rfl ?_
  refine g_iload_n dX6_says_0 rfl rfl ?_
  refine g_callSp dX6_says_1 ms_X6_isShelf ml_X6_79 (ct_X6_isShelf) rfl rfl (Nat.le_of_ble_eq_true rfl) ⟨lt_r rfl, Nat.le_of_ble_eq_true rfl⟩ ?_
  refine g_if_eqP (tgt := 17) dX6_says_4 (by decide) (fun c_4 => ?_) (fun c_4 => ?_)
  · refine g_aload_n dX6_says_17 rfl rfl ?_
    refine g_iconst dX6_says_18 kI_1 ?_
    refine g_callVi dX6_says_19 mi_X6_refused ml_X6_83 (ct_X6_refused h ho (by decide) (by decide)) rfl rfl rfl rfl (Nat.le_of_ble_eq_true rfl) ⟨lt_r rfl, Nat.le_of_ble_eq_true rfl⟩ (fun x19 M19 h19 => ?_)
    refine g_iret dX6_says_22 ⟨_, rfl, ?_⟩
    first | exact QY.rf ho (if_pos c_4) h19 | exact QY.rf ho (by unfold o_says; rw [if_neg (fun z => z c_4), if_pos c_14]) h19
  · refine g_iload_n dX6_says_7 rfl rfl ?_
    refine g_iconst dX6_says_8 kI_0 ?_
    refine g_bipush dX6_says_9 kB_6 ?_
    refine g_callSp dX6_says_11 ms_X6_isWithin ml_X6_87 (ct_X6_isWithin) rfl rfl (Nat.le_of_ble_eq_true rfl) ⟨lt_r rfl, Nat.le_of_ble_eq_true rfl⟩ ?_
    refine g_if_neP (tgt := 23) dX6_says_14 (by decide) (fun c_14 => ?_) (fun c_14 => ?_)
    · obtain ⟨q, hq, rfl, e1⟩ := in_sh c_4
      obtain ⟨kd', -, hkd, rfl, e2⟩ := btw_n (by decide) (by decide) c_14
      refine g_aload_n dX6_says_23 rfl rfl ?_
      refine g_getR dX6_says_24 fl_X6_11 rfl rfl ?_
      refine g_iload_n dX6_says_27 rfl rfl ?_
      refine g_aald dX6_says_28 rfl rfl (isH_s (by omega)) ?_
      refine g_astore_n dX6_says_29 rfl (lt_r rfl) rfl ?_
      refine g_aload_n dX6_says_30 rfl rfl ?_
      refine g_callVp dX6_says_31 mi_X4_holdsRow ml_X6_134 (ct_X4_holdsRow (isH_n (by omega)) (h.1 q hq) (ho.1 q hq)) (isH_n (by omega)).1 rfl rfl rfl (Nat.le_of_ble_eq_true rfl) ⟨lt_r rfl, Nat.le_of_ble_eq_true rfl⟩ ?_
      refine g_if_eqP (tgt := 43) dX6_says_34 (by decide) (fun c_34 => ?_) (fun c_34 => ?_)
      · refine g_aload_n dX6_says_43 rfl rfl ?_
        refine g_getR dX6_says_44 fl_X6_18 rfl rfl ?_
        refine g_aload_n dX6_says_47 rfl rfl ?_
        refine g_getI dX6_says_48 fl_X6_138 (isH_n (by omega)).1 rfl ((h.1 q hq).2.2.1) ?_
        refine g_callVp dX6_says_51 mi_X5_hasBiscuit ml_X6_123 (ct_hasB h) isS_2.1 rfl rfl rfl (Nat.le_of_ble_eq_true rfl) ⟨lt_r rfl, Nat.le_of_ble_eq_true rfl⟩ ?_
        refine g_if_neP (tgt := 63) dX6_says_54 (by decide) (fun c_54 => ?_) (fun c_54 => ?_)
        · have z2 := (sh_2 ho hq c_34).mp c_54
          have hb := (ho.1 q hq).2.2 z2
          refine g_aload_n dX6_says_63 rfl rfl ?_
          refine g_getR dX6_says_64 fl_X6_18 rfl rfl ?_
          refine g_getR dX6_says_67 fl_X6_141 isS_2.1 rfl ?_
          refine g_aload_n dX6_says_70 rfl rfl ?_
          refine g_getI dX6_says_71 fl_X6_138 (isH_n (by omega)).1 rfl (show _ = nI (yH y q).2.1 from (by rw [(h.1 q hq).2.2.1, if_pos z2])) ?_
          refine g_aald dX6_says_74 isS_2.2.1 rfl (isS_b (by omega)) ?_
          refine g_astore dX6_says_75 (lt_r rfl) rfl ?_
          refine g_aload dX6_says_77 rfl ?_
          refine g_iload_n dX6_says_79 rfl rfl ?_
          refine g_callVi dX6_says_80 mi_X1_isOf ml_X6_145 (ct_X1_isOf (isS_2.2.2.2 _ (by omega)) (h.2.1.1 _ hb) (ho.2.1.1 _ hb) hkd) (isS_2.2.2.2 _ (by omega)).1 rfl rfl rfl (Nat.le_of_ble_eq_true rfl) ⟨lt_r rfl, Nat.le_of_ble_eq_true rfl⟩ (fun x80 M80 h80 => ?_)
          obtain ⟨⟨P, hPd, rfl, hP⟩, rfl⟩ := h80
          refine g_if_ne (tgt := 92) dX6_says_83 (by decide) (fun c_83 => ?_) (fun c_83 => ?_)
          · refine g_aload_n dX6_says_92 rfl rfl ?_
            refine g_aload dX6_says_93 rfl ?_
            refine g_iload_n dX6_says_95 rfl rfl ?_
            refine g_callVp dX6_says_96 mi_X6_saysAs ml_X6_148 (cx_saysAs h ho hkd hb) rfl rfl rfl rfl (Nat.le_of_ble_eq_true rfl) ⟨lt_r rfl, Nat.le_of_ble_eq_true rfl⟩ ?_
            refine g_iret dX6_says_99 ⟨_, rfl, ?_⟩
            refine QY.p h ho ?_
            unfold o_says
            rw [if_neg (fun z => z c_4), if_neg (fun z => z c_14), e1, if_neg c_34, if_neg (by omega), e2, if_pos (@decide_eq_true _ (ofND _ _) (hP.mp (Classical.not_not.mp (fun z => c_83 (bp_eq0.mpr z)))))]
          · refine g_aload_n dX6_says_86 rfl rfl ?_
            refine g_iconst dX6_says_87 kI_2 ?_
            refine g_callVi dX6_says_88 mi_X6_refused ml_X6_83 (ct_X6_refused h ho (by decide) (by decide)) rfl rfl rfl rfl (Nat.le_of_ble_eq_true rfl) ⟨lt_r rfl, Nat.le_of_ble_eq_true rfl⟩ (fun x88 M88 h88 => ?_)
            refine g_iret dX6_says_91 ⟨_, rfl, ?_⟩
            exact QY.rf ho (by unfold o_says; rw [if_neg (fun z => z c_4), if_neg (fun z => z c_14), e1, if_neg c_34, if_neg (by omega), e2, if_neg (fun z => bp_eq0.mp c_83 (hP.mpr (@of_decide_eq_true _ (ofND _ _) z)))]) h88
        · refine g_aload_n dX6_says_57 rfl rfl ?_
          refine g_iconst dX6_says_58 kI_3 ?_
          refine g_callVi dX6_says_59 mi_X6_refused ml_X6_83 (ct_X6_refused h ho (by decide) (by decide)) rfl rfl rfl rfl (Nat.le_of_ble_eq_true rfl) ⟨lt_r rfl, Nat.le_of_ble_eq_true rfl⟩ (fun x59 M59 h59 => ?_)
          refine g_iret dX6_says_62 ⟨_, rfl, ?_⟩
          have z0 : (yH y q).1 = 0 := by
            have := (ho.1 q hq).1
            have : ¬ (yH y q).1 = 2 := fun z => c_54 ((sh_2 ho hq c_34).mpr z)
            omega
          exact QY.rf ho (by unfold o_says; rw [if_neg (fun z => z c_4), if_neg (fun z => z c_14), e1, if_neg c_34, if_pos z0]) h59
      · refine g_aload_n dX6_says_37 rfl rfl ?_
        refine g_iconst dX6_says_38 kI_2 ?_
        refine g_callVi dX6_says_39 mi_X6_refused ml_X6_83 (ct_X6_refused h ho (by decide) (by decide)) rfl rfl rfl rfl (Nat.le_of_ble_eq_true rfl) ⟨lt_r rfl, Nat.le_of_ble_eq_true rfl⟩ (fun x39 M39 h39 => ?_)
        refine g_iret dX6_says_42 ⟨_, rfl, ?_⟩
        exact QY.rf ho (by unfold o_says; rw [if_neg (fun z => z c_4), if_neg (fun z => z c_14), e1, if_pos c_34]) h39
    · refine g_aload_n dX6_says_17 rfl rfl ?_
      refine g_iconst dX6_says_18 kI_1 ?_
      refine g_callVi dX6_says_19 mi_X6_refused ml_X6_83 (ct_X6_refused h ho (by decide) (by decide)) rfl rfl rfl rfl (Nat.le_of_ble_eq_true rfl) ⟨lt_r rfl, Nat.le_of_ble_eq_true rfl⟩ (fun x19 M19 h19 => ?_)
      refine g_iret dX6_says_22 ⟨_, rfl, ?_⟩
      first | exact QY.rf ho (if_pos c_4) h19 | exact QY.rf ho (by unfold o_says; rw [if_neg (fun z => z c_4), if_pos c_14]) h19
end X6C
