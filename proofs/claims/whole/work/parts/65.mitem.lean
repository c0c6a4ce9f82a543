/-! the model reads: items -/
abbrev iA : List Nat := [82, 83, 84, 85, 86, 94, 97, 98]
abbrev iJ : List Nat := [0, 1, 2, 3, 4, 5, 6, 7, 24, 26, 27, 32, 33, 34, 35, 36]
def QIm (B : Nat) (M : MM) (R : Bool × Nat × St) : Int32 → MM → Prop := fun r M2 => (R.1 = true → r = nI 1 ∧ M2.1 (B + 80) 24 = nI R.2.1 ∧ RN B M2 R.2.2) ∧ (R.1 = false → r = nI 0 ∧ M2.1 (B + 80) 27 = nI R.2.1) ∧ Fk B M M2 iA iJ
def resI (s : St) (w : Nat) (m : Bool × Nat × (Nat → Nat)) : Bool × Nat × St := if m.1 = true then (true, m.2.1, tellS s w m.2.2) else (false, m.2.1, s)
theorem nOf_le {w : Nat} : 1 ≤ nOf w ∧ nOf w ≤ 3 := by
  unfold nOf
  (repeat' split) <;> omega
theorem item_bad {T : Tx} {s : St} {p : Nat} (h : (wordR T p).1 = 7) (h0 : ¬ ((wordF T p 7 0 0).1 = 0 ∧ ¬ sCn s < 6)) : itemF T s p = (false, p + (wordR T p).2, s) := by
  unfold itemF
  unfold wordR at h ⊢
  dsimp only
  by_cases c : (wordF T p 7 0 0).1 = 7
  · rw [if_pos c, if_pos c]
  · rw [if_neg c] at h ⊢
    rw [if_neg c, if_neg h0]
    by_cases d : ltr T (p + sL (wordF T p 7 0 0).1) = nI 32
    · rw [if_pos d] at h
      exact absurd h c
    · obtain ⟨n, hn⟩ : ∃ n, nOf (wordF T p 7 0 0).1 = n + 1 := ⟨nOf (wordF T p 7 0 0).1 - 1, by have := (nOf_le (w := (wordF T p 7 0 0).1)).1; omega⟩
      rw [if_neg d, hn, numsF_s, if_neg d]
      rfl
theorem item_good {T : Tx} {s : St} {p : Nat} (h : ¬ (wordR T p).1 = 7) (h0 : ¬ ((wordF T p 7 0 0).1 = 0 ∧ ¬ sCn s < 6)) : (wordR T p).1 < 7 ∧ ltr T (p + sL (wordR T p).1) = nI 32 ∧ (wordR T p).2 = sL (wordR T p).1 + 1 ∧ (wordR T p).1 = (wordF T p 7 0 0).1 ∧ itemF T s p = resI s (wordR T p).1 (numsF T s (wordR T p).1 (nOf (wordR T p).1) 0 (p + sL (wordR T p).1) (fun _ => 0)) := by
  unfold itemF
  unfold wordR at h ⊢
  dsimp only
  by_cases c : (wordF T p 7 0 0).1 = 7
  · rw [if_pos c] at h
    exact absurd rfl h
  · rw [if_neg c] at h ⊢
    rw [if_neg c, if_neg h0]
    by_cases d : ltr T (p + sL (wordF T p 7 0 0).1) = nI 32
    · rw [if_pos d]
      exact ⟨(wordF_hit 7 0 0 rfl c).1, d, rfl, rfl, rfl⟩
    · rw [if_neg d] at h
      exact absurd rfl h
section X7S
variable {E : EE} {B : Nat} {M : MM}
theorem tl_tell {s : St} {w p : Nat} {ns : Nat → Nat} {M0 : MM} (hR : RN B M s) (ho : okSt s) (hw : w < 7) (h24 : M.1 (B + 80) 24 = nI p) (hr : ¬ (w = 0 ∧ ¬ sCn s < 6)) (hok : ∀ j, j < nOf w → okNum s w j (ns j) (ns 0)) (hT : ∀ j, j < nOf w → M.1 (B + 94) j = nI (ns j)) (hF : Fk B M0 M iA iJ) :
    G E B cX7_item (RX7, 5, some .boolean, rmD 6, 0, 0, KM E B (Ri (QIm B M0 (true, p, tellS s w ns)))) 172 [(0, .ref (B + 80)), (1, .int (nI w))] [] M := by
  have hcn := ho.2.2.1
  have fin : ∀ M2, M2.1 (B + 80) 24 = nI p → RN B M2 (tellS s w ns) → Fk B M M2 iA iJ → QIm B M0 (true, p, tellS s w ns) (nI 1) M2 := fun M2 a1 a2 a3 => ⟨fun _ => ⟨rfl, a1, a2⟩, fun z => (by cases z), hF.tr a3⟩
  rcases (show w = 0 ∨ w = 1 ∨ w = 2 ∨ w = 3 ∨ w = 4 ∨ w = 5 ∨ w = 6 by omega) with rfl | rfl | rfl | rfl | rfl | rfl | rfl
  · skip
    refine g_iload_n dX7_item_172 rfl rfl ?_
    refine g_tblC (off := 39) (tgt := 212) dX7_item_173 0 (by decide) (by decide) (by decide) (by decide) (fun c_173_0 => ?_) (fun c_173_0 => ?_)
    · refine g_aload_n dX7_item_212 rfl rfl ?_
      refine g_aload_n dX7_item_213 rfl rfl ?_
      refine g_getR dX7_item_214 fl_X7_66 rfl rfl ?_
      refine g_iconst dX7_item_217 kI_0 ?_
      refine g_iald dX7_item_218 rfl rfl (by omega) (hT 0 (by decide)) ?_
      refine g_aload_n dX7_item_219 rfl rfl ?_
      refine g_getR dX7_item_220 fl_X7_66 rfl rfl ?_
      refine g_iconst dX7_item_223 kI_1 ?_
      refine g_iald dX7_item_224 rfl rfl (by omega) (hT 1 (by decide)) ?_
      refine g_aload_n dX7_item_225 rfl rfl ?_
      refine g_getR dX7_item_226 fl_X7_66 rfl rfl ?_
      refine g_iconst dX7_item_229 kI_2 ?_
      refine g_iald dX7_item_230 rfl rfl (by omega) (hT 2 (by decide)) ?_
      refine g_callVi dX7_item_231 mi_X7_adds ml_X7_108 (ct_adds hR ho (by omega) (on_01.mp (hok 1 (by decide))).2) rfl rfl rfl rfl (Nat.le_of_ble_eq_true rfl) ⟨lt_r rfl, Nat.le_of_ble_eq_true rfl⟩ (fun x231 M231 h231 => ?_)
      refine g_pop dX7_item_234 rfl ?_
      refine g_goto (tgt := 350) dX7_item_235 (by decide) ?_
      refine g_iconst dX7_item_350 kI_1 ?_
      refine g_zret dX7_item_351 (by first | exact Or.inl rfl | exact Or.inr rfl | exact bp_01) ⟨_, rfl, ?_⟩
      first | exact fin _ ((h231.2.2.j (by decide)).trans h24) h231.2.1 (h231.2.2.up (by decide) (by decide)) | exact absurd c_173_1 (by decide) | exact absurd c_173_2 (by decide) | exact absurd c_173_3 (by decide) | exact absurd c_173_4 (by decide) | exact absurd c_173_5 (by decide) | exact absurd (by decide) c_173_0
    refine g_tblC (off := 65) (tgt := 238) dX7_item_173 1 (by decide) (by decide) (by decide) (by decide) (fun c_173_1 => ?_) (fun c_173_1 => ?_)
    · exact absurd c_173_1 (by decide)
    refine g_tblC (off := 95) (tgt := 268) dX7_item_173 2 (by decide) (by decide) (by decide) (by decide) (fun c_173_2 => ?_) (fun c_173_2 => ?_)
    · exact absurd c_173_2 (by decide)
    refine g_tblC (off := 108) (tgt := 281) dX7_item_173 3 (by decide) (by decide) (by decide) (by decide) (fun c_173_3 => ?_) (fun c_173_3 => ?_)
    · exact absurd c_173_3 (by decide)
    refine g_tblC (off := 121) (tgt := 294) dX7_item_173 4 (by decide) (by decide) (by decide) (by decide) (fun c_173_4 => ?_) (fun c_173_4 => ?_)
    · exact absurd c_173_4 (by decide)
    refine g_tblC (off := 134) (tgt := 307) dX7_item_173 5 (by decide) (by decide) (by decide) (by decide) (fun c_173_5 => ?_) (fun c_173_5 => ?_)
    · exact absurd c_173_5 (by decide)
    refine g_tableOut (tgt := 327) dX7_item_173 (by skip; omega) (by decide) ?_
    exact absurd (by decide) c_173_0
  · skip
    have k0 := on_10.mp (hok 0 (by decide))
    have k1 := on_11.mp (hok 1 (by decide))
    have h12 := (ho.1 _ k0).2.2.1
    refine g_iload_n dX7_item_172 rfl rfl ?_
    refine g_tblC (off := 39) (tgt := 212) dX7_item_173 0 (by decide) (by decide) (by decide) (by decide) (fun c_173_0 => ?_) (fun c_173_0 => ?_)
    · exact absurd c_173_0 (by decide)
    refine g_tblC (off := 65) (tgt := 238) dX7_item_173 1 (by decide) (by decide) (by decide) (by decide) (fun c_173_1 => ?_) (fun c_173_1 => ?_)
    · refine g_aload_n dX7_item_238 rfl rfl ?_
      refine g_getR dX7_item_239 fl_X7_38 rfl rfl ?_
      refine g_bipush dX7_item_242 kB_12 ?_
      refine g_aload_n dX7_item_244 rfl rfl ?_
      refine g_getR dX7_item_245 fl_X7_66 rfl rfl ?_
      refine g_iconst dX7_item_248 kI_0 ?_
      refine g_iald dX7_item_249 rfl rfl (by omega) (hT 0 (by decide)) ?_
      refine g_imul dX7_item_250 (pk_mul _ _) ?_
      refine g_aload_n dX7_item_251 rfl rfl ?_
      refine g_getR dX7_item_252 fl_X7_66 rfl rfl ?_
      refine g_iconst dX7_item_255 kI_1 ?_
      refine g_iald dX7_item_256 rfl rfl (by omega) (hT 1 (by decide)) ?_
      refine g_iadd dX7_item_257 (nI_add _ _) ?_
      refine g_aload_n dX7_item_258 rfl rfl ?_
      refine g_getR dX7_item_259 fl_X7_66 rfl rfl ?_
      refine g_iconst dX7_item_262 kI_2 ?_
      refine g_iald dX7_item_263 rfl rfl (by omega) (hT 2 (by decide)) ?_
      refine g_iast dX7_item_264 rfl rfl (by omega) ?_
      refine g_goto (tgt := 350) dX7_item_265 (by decide) ?_
      refine g_iconst dX7_item_350 kI_1 ?_
      refine g_zret dX7_item_351 (by first | exact Or.inl rfl | exact Or.inr rfl | exact bp_01) ⟨_, rfl, ?_⟩
      exact fin _ ((Fk.pi (by decide) (by decide) : Fk B M _ [85] []).j (by decide) |>.trans h24) (hR.wet ho k0 k1) (Fk.pi (by decide) (by decide))
    refine g_tblC (off := 95) (tgt := 268) dX7_item_173 2 (by decide) (by decide) (by decide) (by decide) (fun c_173_2 => ?_) (fun c_173_2 => ?_)
    · exact absurd c_173_2 (by decide)
    refine g_tblC (off := 108) (tgt := 281) dX7_item_173 3 (by decide) (by decide) (by decide) (by decide) (fun c_173_3 => ?_) (fun c_173_3 => ?_)
    · exact absurd c_173_3 (by decide)
    refine g_tblC (off := 121) (tgt := 294) dX7_item_173 4 (by decide) (by decide) (by decide) (by decide) (fun c_173_4 => ?_) (fun c_173_4 => ?_)
    · exact absurd c_173_4 (by decide)
    refine g_tblC (off := 134) (tgt := 307) dX7_item_173 5 (by decide) (by decide) (by decide) (by decide) (fun c_173_5 => ?_) (fun c_173_5 => ?_)
    · exact absurd c_173_5 (by decide)
    refine g_tableOut (tgt := 327) dX7_item_173 (by skip; omega) (by decide) ?_
    exact absurd (by decide) c_173_1
  · skip
    refine g_iload_n dX7_item_172 rfl rfl ?_
    refine g_tblC (off := 39) (tgt := 212) dX7_item_173 0 (by decide) (by decide) (by decide) (by decide) (fun c_173_0 => ?_) (fun c_173_0 => ?_)
    · exact absurd c_173_0 (by decide)
    refine g_tblC (off := 65) (tgt := 238) dX7_item_173 1 (by decide) (by decide) (by decide) (by decide) (fun c_173_1 => ?_) (fun c_173_1 => ?_)
    · exact absurd c_173_1 (by decide)
    refine g_tblC (off := 95) (tgt := 268) dX7_item_173 2 (by decide) (by decide) (by decide) (by decide) (fun c_173_2 => ?_) (fun c_173_2 => ?_)
    · refine g_aload_n dX7_item_268 rfl rfl ?_
      refine g_aload_n dX7_item_269 rfl rfl ?_
      refine g_getR dX7_item_270 fl_X7_66 rfl rfl ?_
      refine g_iconst dX7_item_273 kI_0 ?_
      refine g_iald dX7_item_274 rfl rfl (by omega) (hT 0 (by decide)) ?_
      refine g_putI dX7_item_275 fp_X7_7 rfl rfl ?_
      refine g_goto (tgt := 350) dX7_item_278 (by decide) ?_
      refine g_iconst dX7_item_350 kI_1 ?_
      refine g_zret dX7_item_351 (by first | exact Or.inl rfl | exact Or.inr rfl | exact bp_01) ⟨_, rfl, ?_⟩
      exact fin _ ((upI_k (by decide)).trans h24) hR.h1 (Fk.pj (by decide))
    refine g_tblC (off := 108) (tgt := 281) dX7_item_173 3 (by decide) (by decide) (by decide) (by decide) (fun c_173_3 => ?_) (fun c_173_3 => ?_)
    · exact absurd c_173_3 (by decide)
    refine g_tblC (off := 121) (tgt := 294) dX7_item_173 4 (by decide) (by decide) (by decide) (by decide) (fun c_173_4 => ?_) (fun c_173_4 => ?_)
    · exact absurd c_173_4 (by decide)
    refine g_tblC (off := 134) (tgt := 307) dX7_item_173 5 (by decide) (by decide) (by decide) (by decide) (fun c_173_5 => ?_) (fun c_173_5 => ?_)
    · exact absurd c_173_5 (by decide)
    refine g_tableOut (tgt := 327) dX7_item_173 (by skip; omega) (by decide) ?_
    exact absurd (by decide) c_173_2
  · skip
    refine g_iload_n dX7_item_172 rfl rfl ?_
    refine g_tblC (off := 39) (tgt := 212) dX7_item_173 0 (by decide) (by decide) (by decide) (by decide) (fun c_173_0 => ?_) (fun c_173_0 => ?_)
    · exact absurd c_173_0 (by decide)
    refine g_tblC (off := 65) (tgt := 238) dX7_item_173 1 (by decide) (by decide) (by decide) (by decide) (fun c_173_1 => ?_) (fun c_173_1 => ?_)
    · exact absurd c_173_1 (by decide)
    refine g_tblC (off := 95) (tgt := 268) dX7_item_173 2 (by decide) (by decide) (by decide) (by decide) (fun c_173_2 => ?_) (fun c_173_2 => ?_)
    · exact absurd c_173_2 (by decide)
    refine g_tblC (off := 108) (tgt := 281) dX7_item_173 3 (by decide) (by decide) (by decide) (by decide) (fun c_173_3 => ?_) (fun c_173_3 => ?_)
    · refine g_aload_n dX7_item_281 rfl rfl ?_
      refine g_aload_n dX7_item_282 rfl rfl ?_
      refine g_getR dX7_item_283 fl_X7_66 rfl rfl ?_
      refine g_iconst dX7_item_286 kI_0 ?_
      refine g_iald dX7_item_287 rfl rfl (by omega) (hT 0 (by decide)) ?_
      refine g_putI dX7_item_288 fp_X7_13 rfl rfl ?_
      refine g_goto (tgt := 350) dX7_item_291 (by decide) ?_
      refine g_iconst dX7_item_350 kI_1 ?_
      refine g_zret dX7_item_351 (by first | exact Or.inl rfl | exact Or.inr rfl | exact bp_01) ⟨_, rfl, ?_⟩
      exact fin _ ((upI_k (by decide)).trans h24) hR.h2 (Fk.pj (by decide))
    refine g_tblC (off := 121) (tgt := 294) dX7_item_173 4 (by decide) (by decide) (by decide) (by decide) (fun c_173_4 => ?_) (fun c_173_4 => ?_)
    · exact absurd c_173_4 (by decide)
    refine g_tblC (off := 134) (tgt := 307) dX7_item_173 5 (by decide) (by decide) (by decide) (by decide) (fun c_173_5 => ?_) (fun c_173_5 => ?_)
    · exact absurd c_173_5 (by decide)
    refine g_tableOut (tgt := 327) dX7_item_173 (by skip; omega) (by decide) ?_
    exact absurd (by decide) c_173_3
  · skip
    refine g_iload_n dX7_item_172 rfl rfl ?_
    refine g_tblC (off := 39) (tgt := 212) dX7_item_173 0 (by decide) (by decide) (by decide) (by decide) (fun c_173_0 => ?_) (fun c_173_0 => ?_)
    · exact absurd c_173_0 (by decide)
    refine g_tblC (off := 65) (tgt := 238) dX7_item_173 1 (by decide) (by decide) (by decide) (by decide) (fun c_173_1 => ?_) (fun c_173_1 => ?_)
    · exact absurd c_173_1 (by decide)
    refine g_tblC (off := 95) (tgt := 268) dX7_item_173 2 (by decide) (by decide) (by decide) (by decide) (fun c_173_2 => ?_) (fun c_173_2 => ?_)
    · exact absurd c_173_2 (by decide)
    refine g_tblC (off := 108) (tgt := 281) dX7_item_173 3 (by decide) (by decide) (by decide) (by decide) (fun c_173_3 => ?_) (fun c_173_3 => ?_)
    · exact absurd c_173_3 (by decide)
    refine g_tblC (off := 121) (tgt := 294) dX7_item_173 4 (by decide) (by decide) (by decide) (by decide) (fun c_173_4 => ?_) (fun c_173_4 => ?_)
    · refine g_aload_n dX7_item_294 rfl rfl ?_
      refine g_aload_n dX7_item_295 rfl rfl ?_
      refine g_getR dX7_item_296 fl_X7_66 rfl rfl ?_
      refine g_iconst dX7_item_299 kI_0 ?_
      refine g_iald dX7_item_300 rfl rfl (by omega) (hT 0 (by decide)) ?_
      refine g_putI dX7_item_301 fp_X7_16 rfl rfl ?_
      refine g_goto (tgt := 350) dX7_item_304 (by decide) ?_
      refine g_iconst dX7_item_350 kI_1 ?_
      refine g_zret dX7_item_351 (by first | exact Or.inl rfl | exact Or.inr rfl | exact bp_01) ⟨_, rfl, ?_⟩
      exact fin _ ((upI_k (by decide)).trans h24) hR.h3 (Fk.pj (by decide))
    refine g_tblC (off := 134) (tgt := 307) dX7_item_173 5 (by decide) (by decide) (by decide) (by decide) (fun c_173_5 => ?_) (fun c_173_5 => ?_)
    · exact absurd c_173_5 (by decide)
    refine g_tableOut (tgt := 327) dX7_item_173 (by skip; omega) (by decide) ?_
    exact absurd (by decide) c_173_4
  · skip
    have k0 := on_50.mp (hok 0 (by decide))
    refine g_iload_n dX7_item_172 rfl rfl ?_
    refine g_tblC (off := 39) (tgt := 212) dX7_item_173 0 (by decide) (by decide) (by decide) (by decide) (fun c_173_0 => ?_) (fun c_173_0 => ?_)
    · exact absurd c_173_0 (by decide)
    refine g_tblC (off := 65) (tgt := 238) dX7_item_173 1 (by decide) (by decide) (by decide) (by decide) (fun c_173_1 => ?_) (fun c_173_1 => ?_)
    · exact absurd c_173_1 (by decide)
    refine g_tblC (off := 95) (tgt := 268) dX7_item_173 2 (by decide) (by decide) (by decide) (by decide) (fun c_173_2 => ?_) (fun c_173_2 => ?_)
    · exact absurd c_173_2 (by decide)
    refine g_tblC (off := 108) (tgt := 281) dX7_item_173 3 (by decide) (by decide) (by decide) (by decide) (fun c_173_3 => ?_) (fun c_173_3 => ?_)
    · exact absurd c_173_3 (by decide)
    refine g_tblC (off := 121) (tgt := 294) dX7_item_173 4 (by decide) (by decide) (by decide) (by decide) (fun c_173_4 => ?_) (fun c_173_4 => ?_)
    · exact absurd c_173_4 (by decide)
    refine g_tblC (off := 134) (tgt := 307) dX7_item_173 5 (by decide) (by decide) (by decide) (by decide) (fun c_173_5 => ?_) (fun c_173_5 => ?_)
    · refine g_aload_n dX7_item_307 rfl rfl ?_
      refine g_getR dX7_item_308 fl_X7_41 rfl rfl ?_
      refine g_aload_n dX7_item_311 rfl rfl ?_
      refine g_getR dX7_item_312 fl_X7_66 rfl rfl ?_
      refine g_iconst dX7_item_315 kI_0 ?_
      refine g_iald dX7_item_316 rfl rfl (by omega) (hT 0 (by decide)) ?_
      refine g_aload_n dX7_item_317 rfl rfl ?_
      refine g_getR dX7_item_318 fl_X7_66 rfl rfl ?_
      refine g_iconst dX7_item_321 kI_1 ?_
      refine g_iald dX7_item_322 rfl rfl (by omega) (hT 1 (by decide)) ?_
      refine g_iast dX7_item_323 rfl rfl (by omega) ?_
      refine g_goto (tgt := 350) dX7_item_324 (by decide) ?_
      refine g_iconst dX7_item_350 kI_1 ?_
      refine g_zret dX7_item_351 (by first | exact Or.inl rfl | exact Or.inr rfl | exact bp_01) ⟨_, rfl, ?_⟩
      exact fin _ ((Fk.pi (by decide) (by decide) : Fk B M _ [86] []).j (by decide) |>.trans h24) hR.wo (Fk.pi (by decide) (by decide))
    refine g_tableOut (tgt := 327) dX7_item_173 (by skip; omega) (by decide) ?_
    exact absurd (by decide) c_173_5
  · skip
    have k0 := on_60.mp (hok 0 (by decide))
    have k1 := on_61.mp (hok 1 (by decide))
    have k2 := on_62.mp (hok 2 (by decide))
    refine g_iload_n dX7_item_172 rfl rfl ?_
    refine g_tblC (off := 39) (tgt := 212) dX7_item_173 0 (by decide) (by decide) (by decide) (by decide) (fun c_173_0 => ?_) (fun c_173_0 => ?_)
    · exact absurd c_173_0 (by decide)
    refine g_tblC (off := 65) (tgt := 238) dX7_item_173 1 (by decide) (by decide) (by decide) (by decide) (fun c_173_1 => ?_) (fun c_173_1 => ?_)
    · exact absurd c_173_1 (by decide)
    refine g_tblC (off := 95) (tgt := 268) dX7_item_173 2 (by decide) (by decide) (by decide) (by decide) (fun c_173_2 => ?_) (fun c_173_2 => ?_)
    · exact absurd c_173_2 (by decide)
    refine g_tblC (off := 108) (tgt := 281) dX7_item_173 3 (by decide) (by decide) (by decide) (by decide) (fun c_173_3 => ?_) (fun c_173_3 => ?_)
    · exact absurd c_173_3 (by decide)
    refine g_tblC (off := 121) (tgt := 294) dX7_item_173 4 (by decide) (by decide) (by decide) (by decide) (fun c_173_4 => ?_) (fun c_173_4 => ?_)
    · exact absurd c_173_4 (by decide)
    refine g_tblC (off := 134) (tgt := 307) dX7_item_173 5 (by decide) (by decide) (by decide) (by decide) (fun c_173_5 => ?_) (fun c_173_5 => ?_)
    · exact absurd c_173_5 (by decide)
    refine g_tableOut (tgt := 327) dX7_item_173 (by skip; omega) (by decide) ?_
    refine g_aload_n dX7_item_327 rfl rfl ?_
    refine g_aload_n dX7_item_328 rfl rfl ?_
    refine g_getR dX7_item_329 fl_X7_66 rfl rfl ?_
    refine g_iconst dX7_item_332 kI_0 ?_
    refine g_iald dX7_item_333 rfl rfl (by omega) (hT 0 (by decide)) ?_
    refine g_aload_n dX7_item_334 rfl rfl ?_
    refine g_getR dX7_item_335 fl_X7_66 rfl rfl ?_
    refine g_iconst dX7_item_338 kI_1 ?_
    refine g_iald dX7_item_339 rfl rfl (by omega) (hT 1 (by decide)) ?_
    refine g_aload_n dX7_item_340 rfl rfl ?_
    refine g_getR dX7_item_341 fl_X7_66 rfl rfl ?_
    refine g_iconst dX7_item_344 kI_2 ?_
    refine g_iald dX7_item_345 rfl rfl (by omega) (hT 2 (by decide)) ?_
    refine g_callVi dX7_item_346 mi_X7_dips ml_X7_151 (ct_mdips hR ho k0.1 k1 k2) rfl rfl rfl rfl (Nat.le_of_ble_eq_true rfl) ⟨lt_r rfl, Nat.le_of_ble_eq_true rfl⟩ (fun x346 M346 h346 => ?_)
    refine g_pop dX7_item_349 rfl ?_
    refine g_iconst dX7_item_350 kI_1 ?_
    refine g_zret dX7_item_351 (by first | exact Or.inl rfl | exact Or.inr rfl | exact bp_01) ⟨_, rfl, ?_⟩
    exact fin _ ((h346.2.2.j (by decide)).trans h24) h346.2.1 (h346.2.2.up (by decide) (by decide))
theorem tl_num {T : Tx} {s : St} {q w i p : Nat} {ns : Nat → Nat} {F : Option Value → MM → Prop} (hX : RXm B M q T) (hq : q < 8) (hT : T.1 ≤ 160) (hp : p + 1 < 9000) (hR : RN B M s) (ho : okSt s) (hw : w < 7) (hi : i < nOf w) (h24 : M.1 (B + 80) 24 = nI (p + 1)) (htl : ∀ j, j < i → M.1 (B + 94) j = nI (ns j)) (hn : ∀ j, j < i → okNum s w j (ns j) (ns 0))
    (hbad : ∀ M2, Fk B M M2 [94] [24, 26, 27] → M2.1 (B + 80) 27 = nI (p + 1) → ((numF T 4 (p + 1) 0).2 = p + 1 ∨ ¬ okNum s w i (numF T 4 (p + 1) 0).1 (ns 0)) → F (some (.int (nI 0))) M2)
    (hend : (numF T 4 (p + 1) 0).2 ≠ p + 1 → okNum s w i (numF T 4 (p + 1) 0).1 (ns 0) → ∀ M2, Fk B M M2 [94] [24, 26, 27] → M2.1 (B + 80) 24 = nI (numF T 4 (p + 1) 0).2 → (∀ j, j < i + 1 → M2.1 (B + 94) j = nI (upF ns i (numF T 4 (p + 1) 0).1 j)) → G E B cX7_item (RX7, 5, some .boolean, rmD 6, 0, 0, KM E B F) 66 [(0, .ref (B + 80)), (1, .int (nI w)), (2, .int (nI (nOf w))), (3, .int (nI (i + 1)))] [] M2) :
    G E B cX7_item (RX7, 5, some .boolean, rmD 6, 0, 0, KM E B F) 125 [(0, .ref (B + 80)), (1, .int (nI w)), (2, .int (nI (nOf w))), (3, .int (nI i))] [] M := by
  have hn3 := (nOf_le (w := w)).2
  have hv := (numF_ok (T := T) 4 (p + 1) 0 1 (by decide)).2.2
  by_cases hz : (numF T 4 (p + 1) 0).2 = p + 1
  · refine g_aload_n dX7_item_125 rfl rfl ?_
    refine g_getI dX7_item_126 fl_X7_119 rfl rfl (h24) ?_
    refine g_istore dX7_item_129 (lt_r rfl) rfl ?_
    refine g_aload_n dX7_item_131 rfl rfl ?_
    refine g_callVi dX7_item_132 mi_X7_number ml_X7_145 (ct_number hX hq hT hp h24) rfl rfl rfl rfl (Nat.le_of_ble_eq_true rfl) ⟨lt_r rfl, Nat.le_of_ble_eq_true rfl⟩ (fun x132 M132 h132 => ?_)
    obtain ⟨⟨a1, -⟩, a3⟩ := h132
    obtain ⟨rfl, a4⟩ := a1 hz
    refine g_if_neN (tgt := 140) dX7_item_135 (by decide) rfl (by omega) (fun c_135 => absurd c_135 (by omega)) (fun c_135 => ?_)
    refine g_iconst dX7_item_138 kI_0 ?_
    exact g_zret dX7_item_139 (Or.inl rfl) (hbad _ (a3.up (by decide) (by decide)) a4 (Or.inl hz))
  · letI dI : Decidable (okNum s w i (numF T 4 (p + 1) 0).1 (ns 0)) := okNumD s w i (numF T 4 (p + 1) 0).1 (ns 0)
    refine g_aload_n dX7_item_125 rfl rfl ?_
    refine g_getI dX7_item_126 fl_X7_119 rfl rfl (h24) ?_
    refine g_istore dX7_item_129 (lt_r rfl) rfl ?_
    refine g_aload_n dX7_item_131 rfl rfl ?_
    refine g_callVi dX7_item_132 mi_X7_number ml_X7_145 (ct_number hX hq hT hp h24) rfl rfl rfl rfl (Nat.le_of_ble_eq_true rfl) ⟨lt_r rfl, Nat.le_of_ble_eq_true rfl⟩ (fun x132 M132 h132 => ?_)
    obtain ⟨⟨-, a2⟩, a3⟩ := h132
    obtain ⟨rfl, a4, a5⟩ := a2 hz
    have a6 : Fk B M M132 [94] [24, 26, 27] := a3.up (by decide) (by decide)
    refine g_if_neN (tgt := 140) dX7_item_135 (by decide) rfl (by omega) (fun c_135 => ?_) (fun c_135 => absurd c_135 (by omega))
    refine g_aload_n dX7_item_140 rfl rfl ?_
    refine g_iload_n dX7_item_141 rfl rfl ?_
    refine g_iload_n dX7_item_142 rfl rfl ?_
    refine g_callVp dX7_item_143 mi_X7_isSo ml_X7_148 (ct_isSo (n0 := ns 0) (hR.fk a3 (by decide) (by decide)) ho hw hi (by omega) a5 (fun z => (congrFun (a3.i (by decide) (by decide)) 0).trans (htl 0 (by omega))) (fun z e => by subst e; exact on_10.mp (hn 0 (by omega)))) rfl rfl rfl rfl (Nat.le_of_ble_eq_true rfl) ⟨lt_r rfl, Nat.le_of_ble_eq_true rfl⟩ ?_
    refine g_if_neP (tgt := 156) dX7_item_146 (by decide) (fun c_146 => ?_) (fun c_146 => ?_)
    · refine g_aload_n dX7_item_156 rfl rfl ?_
      refine g_getR dX7_item_157 fl_X7_66 rfl rfl ?_
      refine g_iload_n dX7_item_160 rfl rfl ?_
      refine g_aload_n dX7_item_161 rfl rfl ?_
      refine g_getI dX7_item_162 fl_X7_128 rfl rfl (a5) ?_
      refine g_iast dX7_item_165 rfl rfl (by omega) ?_
      refine g_iinc dX7_item_166 rfl (inc_nI _) rfl ?_
      refine g_goto (tgt := 66) dX7_item_169 (by decide) ?_
      exact g_le (lvLe_c rfl (lvLe_c rfl (lvLe_c rfl (lvLe_c rfl lvLe_0)))) (hend hz c_146 _ (a6.tr (Fk.pi (by decide) (by decide))) (by rw [upI_ap (by decide)]; exact a4) (fun j hj => by
        by_cases e : j = i
        · subst e; rw [upI_s, upF_s]
        · rw [upI_k e, upF_n e]; exact (congrFun (a3.i (by decide) (by decide)) j).trans (htl j (by omega))))
    · refine g_aload_n dX7_item_149 rfl rfl ?_
      refine g_iload dX7_item_150 rfl ?_
      refine g_callVi dX7_item_152 mi_X7_wrong ml_X7_135 (ct_wrong) rfl rfl rfl rfl (Nat.le_of_ble_eq_true rfl) ⟨lt_r rfl, Nat.le_of_ble_eq_true rfl⟩ (fun x152 M152 h152 => ?_)
      obtain ⟨rfl, rfl⟩ := h152
      exact g_zret dX7_item_155 (Or.inl rfl) (hbad _ (a6.tr (Fk.pj (by decide))) upI_s (Or.inr c_146))
theorem lp_num {T : Tx} {s : St} {q w : Nat} {M0 : MM} {R : Bool × Nat × St} (hX0 : RXm B M0 q T) (hq : q < 8) (hT : T.1 ≤ 160) (hR0 : RN B M0 s) (ho : okSt s) (hw : w < 7) (hr : ¬ (w = 0 ∧ ¬ sCn s < 6)) : ∀ (k i p : Nat) (ns : Nat → Nat), k + 1 + i = nOf w → p + 1 < 8000 + 10 * i → resI s w (numsF T s w (k + 1) i p ns) = R → ltr T p = nI 32 → (∀ j, j < i → okNum s w j (ns j) (ns 0)) → ∀ M', Fk B M0 M' [94] [24, 26, 27] → M'.1 (B + 80) 24 = nI (p + 1) → (∀ j, j < i → M'.1 (B + 94) j = nI (ns j)) →
    G E B cX7_item (RX7, 5, some .boolean, rmD 6, 0, 0, KM E B (Ri (QIm B M0 R))) 125 [(0, .ref (B + 80)), (1, .int (nI w)), (2, .int (nI (nOf w))), (3, .int (nI i))] [] M' := by
  have hn3 := (nOf_le (w := w)).2
  intro k
  induction k with
  | zero =>
    intro i p ns h1 hp hR hl hn M' hF h24 htl
    rw [numsF_s, if_pos hl] at hR
    have hv := (numF_ok (T := T) 4 (p + 1) 0 1 (by decide))
    refine tl_num (hX0.fk hF (by decide) (by decide)) hq hT (by omega) (hR0.fk hF (by decide) (by decide)) ho hw (by omega) h24 htl hn (fun M2 a1 a2 a3 => ?_) (fun b1 b2 M2 a1 a2 a3 => ?_)
    · rw [if_neg (fun z => by rcases a3 with a3 | a3; exact z.1 a3; exact a3 (@of_decide_eq_true _ (okNumD _ _ _ _ _) z.2)), show resI s w (false, p + 1, ns) = (false, p + 1, s) from rfl] at hR
      subst hR
      exact ⟨_, rfl, ⟨fun z => (by cases z), fun _ => ⟨rfl, a2⟩, (hF.tr a1).up (by decide) (by decide)⟩⟩
    · rw [if_pos ⟨b1, @decide_eq_true _ (okNumD _ _ _ _ _) b2⟩] at hR
      subst hR
      have hn2 : ∀ j, j < i + 1 → okNum s w j (upF ns i (numF T 4 (p + 1) 0).1 j) (upF ns i (numF T 4 (p + 1) 0).1 0) := fun j hj => by
        by_cases e1 : j = i
        · subst e1
          rw [upF_s]
          by_cases e2 : j = 0
          · subst e2; exact okNum_0 b2
          · rw [upF_n (fun z => e2 z.symm)]; exact b2
        · rw [upF_n e1]
          by_cases e2 : i = 0
          · omega
          · rw [upF_n (fun z => e2 z.symm)]; exact hn j (by omega)
      have hFF := hF.tr a1
      refine g_iload_n dX7_item_66 rfl rfl ?_
      refine g_iload_n dX7_item_67 rfl rfl ?_
      refine g_icmp_geN (tgt := 172) dX7_item_68 (by decide) rfl rfl (by omega) (by omega) (fun c_68 => ?_) (fun c_68 => absurd c_68 (by omega))
      exact g_le (lvLe_c rfl (lvLe_c rfl lvLe_0)) (tl_tell (hR0.fk hFF (by decide) (by decide)) ho hw a2 hr (fun j hj => hn2 j (by omega)) (fun j hj => a3 j (by omega)) (hFF.up (by decide) (by decide)))
  | succ k ih =>
    intro i p ns h1 hp hR hl hn M' hF h24 htl
    rw [numsF_s, if_pos hl] at hR
    have hv := (numF_ok (T := T) 4 (p + 1) 0 1 (by decide))
    refine tl_num (hX0.fk hF (by decide) (by decide)) hq hT (by omega) (hR0.fk hF (by decide) (by decide)) ho hw (by omega) h24 htl hn (fun M2 a1 a2 a3 => ?_) (fun b1 b2 M2 a1 a2 a3 => ?_)
    · rw [if_neg (fun z => by rcases a3 with a3 | a3; exact z.1 a3; exact a3 (@of_decide_eq_true _ (okNumD _ _ _ _ _) z.2)), show resI s w (false, p + 1, ns) = (false, p + 1, s) from rfl] at hR
      subst hR
      exact ⟨_, rfl, ⟨fun z => (by cases z), fun _ => ⟨rfl, a2⟩, (hF.tr a1).up (by decide) (by decide)⟩⟩
    · rw [if_pos ⟨b1, @decide_eq_true _ (okNumD _ _ _ _ _) b2⟩] at hR
      have hn2 : ∀ j, j < i + 1 → okNum s w j (upF ns i (numF T 4 (p + 1) 0).1 j) (upF ns i (numF T 4 (p + 1) 0).1 0) := fun j hj => by
        by_cases e1 : j = i
        · subst e1
          rw [upF_s]
          by_cases e2 : j = 0
          · subst e2; exact okNum_0 b2
          · rw [upF_n (fun z => e2 z.symm)]; exact b2
        · rw [upF_n e1]
          by_cases e2 : i = 0
          · omega
          · rw [upF_n (fun z => e2 z.symm)]; exact hn j (by omega)
      have hFF := hF.tr a1
      have hX := hX0.fk hFF (by decide) (by decide)
      generalize upF ns i (numF T 4 (p + 1) 0).1 = ns2 at hn2 a3 hR
      generalize (numF T 4 (p + 1) 0).2 = p2 at hv a2 hR b1
      have hst : ¬ ltr T p2 = nI 32 → R = (false, p2, s) := fun z => by
        rw [← hR, numsF_s, if_neg z]; rfl
      refine g_iload_n dX7_item_66 rfl rfl ?_
      refine g_iload_n dX7_item_67 rfl rfl ?_
      refine g_icmp_geN (tgt := 172) dX7_item_68 (by decide) rfl rfl (by omega) (by omega) (fun c_68 => absurd c_68 (by omega)) (fun c_68 => ?_)
      refine g_iload_n dX7_item_71 rfl rfl ?_
      refine g_if_leN (tgt := 125) dX7_item_72 (by decide) rfl (by omega) (fun c_72 => absurd c_72 (by omega)) (fun c_72 => ?_)
      refine g_aload_n dX7_item_75 rfl rfl ?_
      refine g_getI dX7_item_76 fl_X7_119 rfl rfl (a2) ?_
      refine g_aload_n dX7_item_79 rfl rfl ?_
      refine g_getI dX7_item_80 fl_X7_122 rfl rfl (hX.2.1) ?_
      refine g_icmp_geN (tgt := 106) dX7_item_83 (by decide) rfl rfl (by omega) (by omega) (fun c_83 => ?_) (fun c_83 => ?_)
      · refine g_aload_n dX7_item_106 rfl rfl ?_
        refine g_aload_n dX7_item_107 rfl rfl ?_
        refine g_getI dX7_item_108 fl_X7_119 rfl rfl (a2) ?_
        refine g_callVi dX7_item_111 mi_X7_wrong ml_X7_135 (ct_wrong) rfl rfl rfl rfl (Nat.le_of_ble_eq_true rfl) ⟨lt_r rfl, Nat.le_of_ble_eq_true rfl⟩ (fun x111 M111 h111 => ?_)
        obtain ⟨rfl, rfl⟩ := h111
        first | (have c9 : T.1 ≤ p2 := c_83; rw [hst (fun z => by rw [ltr_ge c9] at z; exact absurd z (by decide))]; exact g_zret dX7_item_114 (Or.inl rfl) ⟨_, rfl, ⟨fun z => (by cases z), fun _ => ⟨rfl, upI_s⟩, (hFF.up (by decide) (by decide)).tr (Fk.pj (by decide))⟩⟩) | (have c9 : ¬ T.2 p2 = nI 32 := c_103; rw [hst (fun z => c9 (by rw [← ltr_lt (T := T) (p := p2) (by omega)]; exact z))]; exact g_zret dX7_item_114 (Or.inl rfl) ⟨_, rfl, ⟨fun z => (by cases z), fun _ => ⟨rfl, upI_s⟩, (hFF.up (by decide) (by decide)).tr (Fk.pj (by decide))⟩⟩)
      · refine g_aload_n dX7_item_86 rfl rfl ?_
        refine g_getR dX7_item_87 fl_X7_56 rfl rfl ?_
        refine g_aload_n dX7_item_90 rfl rfl ?_
        refine g_getI dX7_item_91 fl_X7_125 rfl rfl (hX.1) ?_
        refine g_aload_n dX7_item_94 rfl rfl ?_
        refine g_getI dX7_item_95 fl_X7_119 rfl rfl (a2) ?_
        refine g_iadd dX7_item_98 (nI_add _ _) ?_
        refine g_lald dX7_item_99 rfl rfl (by omega) rfl ?_
        refine g_l2i dX7_item_100 (hX.2.2.1 p2 (by omega)) ?_
        refine g_bipush dX7_item_101 kB_32 ?_
        refine g_icmp_eq (tgt := 115) dX7_item_103 (by decide) (fun c_103 => ?_) (fun c_103 => ?_)
        · refine g_aload_n dX7_item_115 rfl rfl ?_
          refine g_dup dX7_item_116 rfl ?_
          refine g_getI dX7_item_117 fl_X7_119 rfl rfl (a2) ?_
          refine g_iconst dX7_item_120 kI_1 ?_
          refine g_iadd dX7_item_121 (nI_add _ _) ?_
          refine g_putI dX7_item_122 fp_X7_119 rfl rfl ?_
          have c9 : T.2 p2 = nI 32 := c_103
          exact g_le (lvLe_c rfl (lvLe_c rfl (lvLe_c rfl (lvLe_c rfl lvLe_0)))) (ih (i + 1) p2 ns2 (by omega) (by omega) hR (by rw [ltr_lt (by omega)]; exact c9) hn2 _ (hFF.tr (Fk.pj (by decide))) upI_s (fun j hj => by rw [upI_ap (by decide)]; exact a3 j hj))
        · refine g_aload_n dX7_item_106 rfl rfl ?_
          refine g_aload_n dX7_item_107 rfl rfl ?_
          refine g_getI dX7_item_108 fl_X7_119 rfl rfl (a2) ?_
          refine g_callVi dX7_item_111 mi_X7_wrong ml_X7_135 (ct_wrong) rfl rfl rfl rfl (Nat.le_of_ble_eq_true rfl) ⟨lt_r rfl, Nat.le_of_ble_eq_true rfl⟩ (fun x111 M111 h111 => ?_)
          obtain ⟨rfl, rfl⟩ := h111
          first | (have c9 : T.1 ≤ p2 := c_83; rw [hst (fun z => by rw [ltr_ge c9] at z; exact absurd z (by decide))]; exact g_zret dX7_item_114 (Or.inl rfl) ⟨_, rfl, ⟨fun z => (by cases z), fun _ => ⟨rfl, upI_s⟩, (hFF.up (by decide) (by decide)).tr (Fk.pj (by decide))⟩⟩) | (have c9 : ¬ T.2 p2 = nI 32 := c_103; rw [hst (fun z => c9 (by rw [← ltr_lt (T := T) (p := p2) (by omega)]; exact z))]; exact g_zret dX7_item_114 (Or.inl rfl) ⟨_, rfl, ⟨fun z => (by cases z), fun _ => ⟨rfl, upI_s⟩, (hFF.up (by decide) (by decide)).tr (Fk.pj (by decide))⟩⟩)
theorem tl_item66 {T : Tx} {s : St} {q p w n : Nat} {M1 : MM} (hX : RXm B M1 q T) (hq : q < 8) (hT : T.1 ≤ 160) (hp : p < 7000) (hR : RN B M1 s) (ho : okSt s) (hw : w < 7) (hr : ¬ (w = 0 ∧ ¬ sCn s < 6)) (hn : nOf w = n + 1) (hl : ltr T (p + sL w) = nI 32) (hF : Fk B M1 M [] [24, 27]) (h24 : M.1 (B + 80) 24 = nI (p + (sL w + 1))) :
    G E B cX7_item (RX7, 5, some .boolean, rmD 6, 0, 0, KM E B (Ri (QIm B M1 (resI s w (numsF T s w (nOf w) 0 (p + sL w) (fun _ => 0)))))) 66 [(0, .ref (B + 80)), (1, .int (nI w)), (2, .int (nI (nOf w))), (3, .int (nI 0))] [] M := by
  have hn3 := (nOf_le (w := w)).2
  have hsl := (wo_all _ hw).2.2.2.1
  refine g_iload_n dX7_item_66 rfl rfl ?_
  refine g_iload_n dX7_item_67 rfl rfl ?_
  refine g_icmp_geN (tgt := 172) dX7_item_68 (by decide) rfl rfl (by omega) (by omega) (fun c_68 => absurd c_68 (by omega)) (fun c_68 => ?_)
  refine g_iload_n dX7_item_71 rfl rfl ?_
  refine g_if_leN (tgt := 125) dX7_item_72 (by decide) rfl (by omega) (fun c_72 => ?_) (fun c_72 => absurd c_72 (by omega))
  exact g_le (lvLe_c rfl (lvLe_c rfl (lvLe_c rfl (lvLe_c rfl lvLe_0)))) (lp_num (R := resI s w (numsF T s w (nOf w) 0 (p + sL w) (fun _ => 0))) hX hq hT hR ho hw hr n 0 (p + sL w) (fun _ => 0) (by omega) (by omega) (by rw [hn]) hl (fun j hj => absurd hj (Nat.not_lt_zero j)) M (hF.up (by decide) (by decide)) h24 (fun j hj => absurd hj (Nat.not_lt_zero j)))
theorem tl_item26 {T : Tx} {s : St} {q p : Nat} (hX : RXm B M q T) (hq : q < 8) (hT : T.1 ≤ 160) (hp : p < 7000) (hR : RN B M s) (ho : okSt s) (hat : M.1 (B + 80) 24 = nI p) (h0 : ¬ ((wordF T p 7 0 0).1 = 0 ∧ ¬ sCn s < 6)) :
    G E B cX7_item (RX7, 5, some .boolean, rmD 6, 0, 0, KM E B (Ri (QIm B M (itemF T s p)))) 26 [(0, .ref (B + 80))] [] M := by
  by_cases hz : (wordR T p).1 = 7
  · rw [item_bad hz h0]
    refine g_aload_n dX7_item_26 rfl rfl ?_
    refine g_callVi dX7_item_27 mi_X7_word ml_X7_141 (ct_word hX hq hT (by omega) hat) rfl rfl rfl rfl (Nat.le_of_ble_eq_true rfl) ⟨lt_r rfl, Nat.le_of_ble_eq_true rfl⟩ (fun x27 M27 h27 => ?_)
    obtain ⟨a1, -, a3⟩ := h27
    obtain ⟨rfl, b2, b3⟩ := a1 hz
    refine g_istore_n dX7_item_30 rfl (lt_r rfl) rfl ?_
    refine g_iload_n dX7_item_31 rfl rfl ?_
    refine g_iconst dX7_item_32 kI_m1 ?_
    refine g_icmp_ne (tgt := 38) dX7_item_33 (by decide) (fun c_33 => absurd rfl c_33) (fun c_33 => ?_)
    refine g_iconst dX7_item_36 kI_0 ?_
    refine g_zret dX7_item_37 (by first | exact Or.inl rfl | exact Or.inr rfl | exact bp_01) ⟨_, rfl, ?_⟩
    exact ⟨fun z => (by cases z), fun _ => ⟨rfl, b2⟩, a3.up (by decide) (by decide)⟩
  · obtain ⟨g1, g2, g3, g4, g5⟩ := item_good (T := T) (s := s) hz h0
    rw [g5]
    have g0 : ¬ ((wordR T p).1 = 0 ∧ ¬ sCn s < 6) := by rw [g4]; exact h0
    have hsl := (wo_all _ g1).2.2.2.1
    obtain ⟨n, hn⟩ : ∃ n, nOf (wordR T p).1 = n + 1 := ⟨nOf (wordR T p).1 - 1, by have := (nOf_le (w := (wordR T p).1)).1; omega⟩
    refine g_aload_n dX7_item_26 rfl rfl ?_
    refine g_callVi dX7_item_27 mi_X7_word ml_X7_141 (ct_word hX hq hT (by omega) hat) rfl rfl rfl rfl (Nat.le_of_ble_eq_true rfl) ⟨lt_r rfl, Nat.le_of_ble_eq_true rfl⟩ (fun x27 M27 h27 => ?_)
    obtain ⟨-, a2, a3⟩ := h27
    obtain ⟨rfl, b2⟩ := a2 hz
    rw [g3] at b2
    refine g_istore_n dX7_item_30 rfl (lt_r rfl) rfl ?_
    refine g_iload_n dX7_item_31 rfl rfl ?_
    refine g_iconst dX7_item_32 kI_m1 ?_
    refine g_icmp_ne (tgt := 38) dX7_item_33 (by decide) (fun c_33 => ?_) (fun c_33 => absurd c_33 (nI_nm1 (by omega)))
    refine g_iload_n dX7_item_38 rfl rfl ?_
    refine g_iconst dX7_item_39 kI_2 ?_
    refine g_icmp_ltN (tgt := 49) dX7_item_40 (by decide) rfl rfl (by omega) (by omega) (fun c_40 => ?_) (fun c_40 => ?_)
    · refine g_iconst dX7_item_49 kI_3 ?_
      refine g_goto (tgt := 63) dX7_item_50 (by decide) ?_
      refine g_istore_n dX7_item_63 rfl (lt_r rfl) rfl ?_
      refine g_iconst dX7_item_64 kI_0 ?_
      refine g_istore_n dX7_item_65 rfl (lt_r rfl) rfl ?_
      refine g_le (lvLe_c rfl (lvLe_c rfl (lvLe_c (by exact congrArg (fun z => some (Value.int (nI z))) (show _ = nOf (wordR T p).1 by unfold nOf; (repeat' split) <;> omega)) (lvLe_c rfl lvLe_0)))) (tl_item66 hX hq hT (by omega) hR ho g1 g0 hn g2 a3 b2)
    · refine g_iload_n dX7_item_43 rfl rfl ?_
      refine g_bipush dX7_item_44 kB_6 ?_
      refine g_icmp_neN (tgt := 53) dX7_item_46 (by decide) rfl rfl (by omega) (by omega) (fun c_46 => ?_) (fun c_46 => ?_)
      · refine g_iload_n dX7_item_53 rfl rfl ?_
        refine g_iconst dX7_item_54 kI_5 ?_
        refine g_icmp_neN (tgt := 62) dX7_item_55 (by decide) rfl rfl (by omega) (by omega) (fun c_55 => ?_) (fun c_55 => ?_)
        · refine g_iconst dX7_item_62 kI_1 ?_
          refine g_istore_n dX7_item_63 rfl (lt_r rfl) rfl ?_
          refine g_iconst dX7_item_64 kI_0 ?_
          refine g_istore_n dX7_item_65 rfl (lt_r rfl) rfl ?_
          refine g_le (lvLe_c rfl (lvLe_c rfl (lvLe_c (by exact congrArg (fun z => some (Value.int (nI z))) (show _ = nOf (wordR T p).1 by unfold nOf; (repeat' split) <;> omega)) (lvLe_c rfl lvLe_0)))) (tl_item66 hX hq hT (by omega) hR ho g1 g0 hn g2 a3 b2)
        · refine g_iconst dX7_item_58 kI_2 ?_
          refine g_goto (tgt := 63) dX7_item_59 (by decide) ?_
          refine g_istore_n dX7_item_63 rfl (lt_r rfl) rfl ?_
          refine g_iconst dX7_item_64 kI_0 ?_
          refine g_istore_n dX7_item_65 rfl (lt_r rfl) rfl ?_
          refine g_le (lvLe_c rfl (lvLe_c rfl (lvLe_c (by exact congrArg (fun z => some (Value.int (nI z))) (show _ = nOf (wordR T p).1 by unfold nOf; (repeat' split) <;> omega)) (lvLe_c rfl lvLe_0)))) (tl_item66 hX hq hT (by omega) hR ho g1 g0 hn g2 a3 b2)
      · refine g_iconst dX7_item_49 kI_3 ?_
        refine g_goto (tgt := 63) dX7_item_50 (by decide) ?_
        refine g_istore_n dX7_item_63 rfl (lt_r rfl) rfl ?_
        refine g_iconst dX7_item_64 kI_0 ?_
        refine g_istore_n dX7_item_65 rfl (lt_r rfl) rfl ?_
        refine g_le (lvLe_c rfl (lvLe_c rfl (lvLe_c (by exact congrArg (fun z => some (Value.int (nI z))) (show _ = nOf (wordR T p).1 by unfold nOf; (repeat' split) <;> omega)) (lvLe_c rfl lvLe_0)))) (tl_item66 hX hq hT (by omega) hR ho g1 g0 hn g2 a3 b2)
theorem mx_item {T : Tx} {s : St} {q p : Nat} (hX : RXm B M q T) (hq : q < 8) (hT : T.1 ≤ 160) (hp : p < 7000) (hR : RN B M s) (ho : okSt s) (hat : M.1 (B + 80) 24 = nI p) : Ct E B yX7_item cX7_item 5 (some .boolean) 6 [.ref (B + 80)] M (Ri (QIm B M (itemF T s p))) := by
  have hcn := ho.2.2.1
  have hw : (wordF T p 7 0 0).1 = 0 → prefN T p 0 8 0 = 7 := fun z => by
    obtain ⟨a1, a2, a3⟩ := wordF_hit (T := T) (p := p) 7 0 0 rfl (by rw [z]; decide)
    rw [z] at a3
    exact a3
  have hi6 : prefN T p 0 8 0 = 7 → sCn s = 6 → itemF T s p = (false, p, s) := fun z1 z2 => by
    have e : wordF T p 7 0 0 = (0, 0) := by rw [wordF_s]; exact if_pos z1
    unfold itemF
    dsimp only
    rw [e, if_neg (by decide), if_pos ⟨rfl, by omega⟩]
  refine Ct.of2 (own := RX7) (lv := [(0, .ref (B + 80))]) pn_X7 rfl (Nat.le_of_ble_eq_true rfl) rfl ?_
  refine g_aload_n dX7_item_0 rfl rfl ?_
  refine g_iconst dX7_item_1 kI_0 ?_
  refine g_callVp dX7_item_2 mi_X7_isWordAt ml_X7_138 (ct_isWordAt hX hq hT (by omega) hat) rfl rfl rfl rfl (Nat.le_of_ble_eq_true rfl) ⟨lt_r rfl, Nat.le_of_ble_eq_true rfl⟩ ?_
  refine g_if_eqP (tgt := 26) dX7_item_5 (by decide) (fun c_5 => ?_) (fun c_5 => ?_)
  · first | (have c9 : ¬ prefN T p 0 8 0 = 7 := c_5; exact tl_item26 hX hq hT hp hR ho hat (fun z => c9 (hw z.1))) | exact tl_item26 hX hq hT hp hR ho hat (fun z => by have := z.2; omega)
  · refine g_aload_n dX7_item_8 rfl rfl ?_
    refine g_getI dX7_item_9 fl_X7_90 rfl rfl (hR.2.2.1) ?_
    refine g_bipush dX7_item_12 kB_6 ?_
    refine g_icmp_neN (tgt := 26) dX7_item_14 (by decide) rfl rfl (by omega) (by omega) (fun c_14 => ?_) (fun c_14 => ?_)
    · first | (have c9 : ¬ prefN T p 0 8 0 = 7 := c_5; exact tl_item26 hX hq hT hp hR ho hat (fun z => c9 (hw z.1))) | exact tl_item26 hX hq hT hp hR ho hat (fun z => by have := z.2; omega)
    · refine g_aload_n dX7_item_17 rfl rfl ?_
      refine g_aload_n dX7_item_18 rfl rfl ?_
      refine g_getI dX7_item_19 fl_X7_119 rfl rfl (hat) ?_
      refine g_callVi dX7_item_22 mi_X7_wrong ml_X7_135 (ct_wrong) rfl rfl rfl rfl (Nat.le_of_ble_eq_true rfl) ⟨lt_r rfl, Nat.le_of_ble_eq_true rfl⟩ (fun x22 M22 h22 => ?_)
      obtain ⟨rfl, rfl⟩ := h22
      refine g_zret dX7_item_25 (by first | exact Or.inl rfl | exact Or.inr rfl | exact bp_01) ⟨_, rfl, ?_⟩
      rw [hi6 c_5 c_14]
      exact ⟨fun z => (by cases z), fun _ => ⟨rfl, upI_s⟩, Fk.pj (by decide)⟩
end X7S
