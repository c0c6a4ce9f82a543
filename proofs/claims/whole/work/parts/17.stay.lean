theorem RD.put3 {B : Nat} {M : MM} {k kd a h t t2 : Nat} {D : Dk} (hR : RD B M k kd a h t D) : RD B (upI M (B + k) 3 (nI t2)) k kd a h t2 D := by
  obtain ⟨r1, r2, r3, r4, r5, r6, r7⟩ := hR
  exact ⟨RB.sm r1 (Sm.pI (Nat.le_refl k) (Nat.lt_succ_self k)) (by omega) (by omega), by rw [upI_k (by decide)]; exact r2, by rw [upI_k (by decide)]; exact r3, upI_s, by rw [upI_k (by decide)]; exact r5, by rw [upI_k (by decide)]; exact r6, by rw [upI_k (by decide)]; exact r7⟩
section DUN
variable {E : EE} {B : Nat} {M : MM} {k : Nat}
theorem lp_X2_stay {kd a h t s : Nat} {D : Dk} (hd : isD k) (ho : okD kd a t D) (hh : h < 2 ^ 31) (ht : t + s < 1000) : ∀ (n i : Nat), i + n = s → ∀ (M' : MM) (x : Int32), RD B M' k kd a h (t + i) (runD kd a h t D i) → Sm B M M' k (k + 3) → (x = nI 0 ∨ x = nI 1) → (x = nI 0 → ∀ t', sec kd a h t' (runD kd a h t D i) = runD kd a h t D i) →
    G E B cX2_stay (RX2, 6, none, rmD 3, 0, 0, KM E B (Rv (fun M2 => RD B M2 k kd a h (t + s) (runD kd a h t D s) ∧ Sm B M M2 k (k + 3)))) 18 [(0, .ref (B + k)), (2, .int (nI s)), (3, .int (nI (t + s))), (4, .int x), (5, .int (nI i))] [] M' := by
  intro n
  induction n with
  | zero =>
    intro i h1 M' x hR hS hx hf
    refine g_iload dX2_stay_18 rfl ?_
    refine g_iload_n dX2_stay_20 rfl rfl ?_
    refine g_icmp_geN (tgt := 41) dX2_stay_21 (by decide) rfl rfl (by omega) (by omega) (fun c_21 => ?_) (fun c_21 => absurd c_21 (by omega))
    refine g_aload_n dX2_stay_41 rfl rfl ?_
    refine g_iload_n dX2_stay_42 rfl rfl ?_
    refine g_putI dX2_stay_43 fp_X2_29 hd.1 rfl ?_
    refine g_vret dX2_stay_46 ⟨rfl, ?_⟩
    have e : i = s := by omega
    subst e
    exact ⟨hR.put3, hS.tr (Sm.pI (by omega) (by omega))⟩
  | succ n ih =>
    intro i h1 M' x hR hS hx hf
    refine g_iload dX2_stay_18 rfl ?_
    refine g_iload_n dX2_stay_20 rfl rfl ?_
    refine g_icmp_geN (tgt := 41) dX2_stay_21 (by decide) rfl rfl (by omega) (by omega) (fun c_21 => absurd c_21 (by omega)) (fun c_21 => ?_)
    refine g_iload dX2_stay_24 rfl ?_
    refine g_if_eq (tgt := 41) dX2_stay_26 (by decide) (fun c_26 => ?_) (fun c_26 => ?_)
    · refine g_aload_n dX2_stay_41 rfl rfl ?_
      refine g_iload_n dX2_stay_42 rfl rfl ?_
      refine g_putI dX2_stay_43 fp_X2_29 hd.1 rfl ?_
      refine g_vret dX2_stay_46 ⟨rfl, ?_⟩
      have e : runD kd a h t D s = runD kd a h t D i := by
        have := run_fix (hf c_26) (s - i)
        rwa [show i + (s - i) = s by omega] at this
      rw [e]
      exact ⟨hR.put3, hS.tr (Sm.pI (by omega) (by omega))⟩
    · refine g_aload_n dX2_stay_29 rfl rfl ?_
      refine g_callVi dX2_stay_30 mi_X2_second ml_X2_61 (ct_X2_second hd hR (run_ok ho i) (by omega) hh) hd.1 rfl rfl rfl (Nat.le_of_ble_eq_true rfl) ⟨lt_r rfl, Nat.le_of_ble_eq_true rfl⟩ (fun x30 M30 h30 => ?_)
      refine g_istore dX2_stay_33 (lt_r rfl) rfl ?_
      refine g_iinc dX2_stay_35 rfl (inc_nI _) rfl ?_
      obtain ⟨⟨g1, g2⟩, g3, g4⟩ := h30
      exact g_goto (tgt := 18) dX2_stay_38 (by decide) (g_le (lvLe_c rfl (lvLe_c rfl (lvLe_c rfl (lvLe_c rfl (lvLe_c rfl lvLe_0))))) (ih (i + 1) (by omega) M30 x30 g1 (hS.tr g2) g3 (fun z t' => by
        have h5 := g4 z
        have h6 : runD kd a h t D (i + 1) = runD kd a h t D i := h5 _
        rw [h6]; exact h5 t')))
theorem ct_X2_stay {kd a h t d s : Nat} {D : Dk} (hd : isD k) (hR : RD B M k kd a h t D) (ho : okD kd a t D) (hh : h < 2 ^ 31) (hdd : d < 2 ^ 31) (ht : t + s < 1000) : Ct E B yX2_stay cX2_stay 6 none 3 [.ref (B + k), .int (nI d), .int (nI s)] M (Rv (fun M2 => RD B M2 k kd a h (t + s) (runD kd a h t (entD d D) s) ∧ Sm B M M2 k (k + 3))) := by
  refine Ct.of2 (own := RX2) (lv := [(0, .ref (B + k)), (1, .int (nI d)), (2, .int (nI s))]) pn_X2 rfl (Nat.le_of_ble_eq_true rfl) rfl ?_
  refine g_aload_n dX2_stay_0 rfl rfl ?_
  refine g_iload_n dX2_stay_1 rfl rfl ?_
  refine g_callVv dX2_stay_2 mi_X2_enter ml_X2_57 (ct_X2_enter hd hR ho hdd) hd.1 rfl rfl rfl (Nat.le_of_ble_eq_true rfl) ⟨lt_r rfl, Nat.le_of_ble_eq_true rfl⟩ (fun M2 h2 => ?_)
  refine g_aload_n dX2_stay_5 rfl rfl ?_
  refine g_getI dX2_stay_6 fl_X2_29 hd.1 rfl (h2.1.2.2.2.1) ?_
  refine g_iload_n dX2_stay_9 rfl rfl ?_
  refine g_iadd dX2_stay_10 (nI_add _ _) ?_
  refine g_istore_n dX2_stay_11 rfl (lt_r rfl) rfl ?_
  refine g_iconst dX2_stay_12 kI_1 ?_
  refine g_istore dX2_stay_13 (lt_r rfl) rfl ?_
  refine g_iconst dX2_stay_15 kI_0 ?_
  refine g_istore dX2_stay_16 (lt_r rfl) rfl ?_
  refine g_le (lvLe_c rfl (lvLe_c rfl (lvLe_c rfl (lvLe_c rfl (lvLe_c rfl lvLe_0))))) (lp_X2_stay hd (ent_ok ho) hh ht s 0 (by omega) M2 (nI 1) h2.1 h2.2 (Or.inr rfl) (fun z => absurd z (by decide)))
end DUN
