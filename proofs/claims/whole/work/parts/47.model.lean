/-! the model: one object at 80, its rows at 81 .. 101 -/
/-- what may have changed: the rows A, the object's slots J -/
def Fk (B : Nat) (M M' : MM) (A J : List Nat) : Prop := (∀ q, q ∉ A → q ≠ 80 → M'.1 (B + q) = M.1 (B + q) ∧ M'.2 (B + q) = M.2 (B + q)) ∧ ∀ j, j ∉ J → M'.1 (B + 80) j = M.1 (B + 80) j
theorem Fk.rf {B : Nat} {M : MM} {A J : List Nat} : Fk B M M A J := ⟨fun _ _ _ => ⟨rfl, rfl⟩, fun _ _ => rfl⟩
theorem Fk.tr {B : Nat} {M M1 M2 : MM} {A J : List Nat} (h1 : Fk B M M1 A J) (h2 : Fk B M1 M2 A J) : Fk B M M2 A J := ⟨fun q a b => ⟨(h2.1 q a b).1.trans (h1.1 q a b).1, (h2.1 q a b).2.trans (h1.1 q a b).2⟩, fun j a => (h2.2 j a).trans (h1.2 j a)⟩
theorem Fk.up {B : Nat} {M M' : MM} {A J A' J' : List Nat} (h : Fk B M M' A J) (ha : ∀ x ∈ A, x ∈ A') (hj : ∀ x ∈ J, x ∈ J') : Fk B M M' A' J' := ⟨fun q a b => h.1 q (fun z => a (ha q z)) b, fun j a => h.2 j (fun z => a (hj j z))⟩
theorem Fk.i {B : Nat} {M M' : MM} {A J : List Nat} (h : Fk B M M' A J) {q : Nat} (a : q ∉ A) (b : q ≠ 80) : M'.1 (B + q) = M.1 (B + q) := (h.1 q a b).1
theorem Fk.l {B : Nat} {M M' : MM} {A J : List Nat} (h : Fk B M M' A J) {q : Nat} (a : q ∉ A) (b : q ≠ 80) : M'.2 (B + q) = M.2 (B + q) := (h.1 q a b).2
theorem Fk.j {B : Nat} {M M' : MM} {A J : List Nat} (h : Fk B M M' A J) {j : Nat} (a : j ∉ J) : M'.1 (B + 80) j = M.1 (B + 80) j := h.2 j a
theorem Fk.pj {B j : Nat} {M : MM} {x : Int32} {A J : List Nat} (h : j ∈ J) : Fk B M (upI M (B + 80) j x) A J := ⟨fun q _ b => upI_off q b, fun i a => upI_k (fun z => a (z ▸ h))⟩
theorem Fk.pi {B k j : Nat} {M : MM} {x : Int32} {A J : List Nat} (h : k ∈ A) (h2 : k ≠ 80) : Fk B M (upI M (B + k) j x) A J := ⟨fun q a _ => upI_off q (fun z => a (z ▸ h)), fun i _ => by rw [upI_ap (Ne.symm h2)]⟩
theorem Fk.pl {B k j : Nat} {M : MM} {x : Int64} {A J : List Nat} (h : k ∈ A) : Fk B M (upL M (B + k) j x) A J := ⟨fun q a _ => upL_off q (fun z => a (z ▸ h)), fun i _ => rfl⟩
theorem Fk.sm {B : Nat} {M M' : MM} {A J : List Nat} (h : Fk B M M' A J) (ha : ∀ x ∈ A, 80 ≤ x ∧ x < 102) : Sm B M M' 80 102 := fun q hq => h.1 q (fun z => by have := ha q z; omega) (by omega)
/-- a state in the model -/
def RN (B : Nat) (M : MM) (s : St) : Prop :=
  (∀ q, q < sCn s → M.1 (B + 82) q = nI (sBs s q).1 ∧ M.1 (B + 83) q = nI (sBs s q).2.1 ∧ M.1 (B + 84) q = nI (sBs s q).2.2.1 ∧ ∀ i, i < (sBs s q).2.2.1 → M.1 (B + 85) (12 * q + i) = nI ((sBs s q).2.2.2 i)) ∧
  (∀ i, i < 10 → M.1 (B + 86) i = nI (sWo s i)) ∧
  M.1 (B + 80) 0 = nI (sCn s) ∧ M.1 (B + 80) 1 = nI (sHt s) ∧ M.1 (B + 80) 2 = nI (sLo s) ∧ M.1 (B + 80) 3 = nI (sTe s) ∧ M.1 (B + 80) 4 = sSl s ∧ M.1 (B + 80) 5 = sPl s ∧ M.1 (B + 80) 6 = sSe s ∧ M.1 (B + 80) 7 = sSd s
theorem RN.fk {B : Nat} {M M' : MM} {A J : List Nat} {s : St} (h : RN B M s) (hF : Fk B M M' A J) (ha : ∀ x ∈ [82, 83, 84, 85, 86], x ∉ A) (hj : ∀ x ∈ [0, 1, 2, 3, 4, 5, 6, 7], x ∉ J) : RN B M' s := by
  unfold RN
  rw [hF.i (ha 82 (by decide)) (by decide), hF.i (ha 83 (by decide)) (by decide), hF.i (ha 84 (by decide)) (by decide), hF.i (ha 85 (by decide)) (by decide), hF.i (ha 86 (by decide)) (by decide), hF.j (hj 0 (by decide)), hF.j (hj 1 (by decide)), hF.j (hj 2 (by decide)), hF.j (hj 3 (by decide)), hF.j (hj 4 (by decide)), hF.j (hj 5 (by decide)), hF.j (hj 6 (by decide)), hF.j (hj 7 (by decide))]
  exact h
/-- a shelf in the model -/
def RWq (B : Nat) (M : MM) (q : Nat) (x : Sh) : Prop :=
  M.1 (B + 87) q = nI x.1 ∧ (x.1 = 1 → M.1 (B + 88) q = nI x.2.1 ∧ M.1 (B + 89) q = nI x.2.2.1 ∧ ∀ i, i < x.2.2.1 → M.2 (B + 91) (160 * q + i) = x.2.2.2 i) ∧ (x.1 = 2 → M.1 (B + 90) q = nI x.2.1)
theorem RWq.fk {B q : Nat} {M M' : MM} {A J : List Nat} {x : Sh} (h : RWq B M q x) (hF : Fk B M M' A J) (ha : ∀ x ∈ [87, 88, 89, 90, 91], x ∉ A) : RWq B M' q x := by
  unfold RWq
  rw [hF.i (ha 87 (by decide)) (by decide), hF.i (ha 88 (by decide)) (by decide), hF.i (ha 89 (by decide)) (by decide), hF.i (ha 90 (by decide)) (by decide), hF.l (ha 91 (by decide)) (by decide)]
  exact h
/-- a shelf that is as it was -/
def Eqq (B : Nat) (M M' : MM) (q : Nat) : Prop := M'.1 (B + 87) q = M.1 (B + 87) q ∧ M'.1 (B + 88) q = M.1 (B + 88) q ∧ M'.1 (B + 89) q = M.1 (B + 89) q ∧ M'.1 (B + 90) q = M.1 (B + 90) q ∧ ∀ i, i < 160 → M'.2 (B + 91) (160 * q + i) = M.2 (B + 91) (160 * q + i)
theorem RWq.eq {B q cn : Nat} {M M' : MM} {x : Sh} (h : RWq B M q x) (ho : okH cn x) (e : Eqq B M M' q) : RWq B M' q x := by
  obtain ⟨h1, h2, h3⟩ := h
  obtain ⟨e1, e2, e3, e4, e5⟩ := e
  refine ⟨e1.trans h1, fun z => ?_, fun z => e4.trans (h3 z)⟩
  obtain ⟨a1, a2, a3⟩ := h2 z
  have hl := (ho.2.1 z).2
  exact ⟨e2.trans a1, e3.trans a2, fun i hi => (e5 i (by omega)).trans (a3 i hi)⟩
/-- a state in the image, at row k -/
def RK (B : Nat) (M : MM) (k : Nat) (s : St) : Prop :=
  (∀ q, q < sCn s → M.1 (B + k) q = nI (sBs s q).1 ∧ M.1 (B + k) (6 + q) = nI (sBs s q).2.1 ∧ M.1 (B + k) (12 + q) = nI (sBs s q).2.2.1 ∧ ∀ i, i < (sBs s q).2.2.1 → M.1 (B + k) (18 + (12 * q + i)) = nI ((sBs s q).2.2.2 i)) ∧
  (∀ i, i < 10 → M.1 (B + k) (90 + i) = nI (sWo s i)) ∧
  M.1 (B + k) 100 = nI (sCn s) ∧ M.1 (B + k) 101 = nI (sHt s) ∧ M.1 (B + k) 102 = nI (sLo s) ∧ M.1 (B + k) 103 = nI (sTe s) ∧ M.1 (B + k) 104 = sSl s ∧ M.1 (B + k) 105 = sPl s ∧ M.1 (B + k) 106 = sSe s ∧ M.1 (B + k) 107 = sSd s
theorem RK.eq {B k : Nat} {M M' : MM} {s : St} (h : RK B M k s) (e : M'.1 (B + k) = M.1 (B + k)) : RK B M' k s := by
  unfold RK
  rw [e]
  exact h
def wdN : List Nat := [98, 105, 115, 99, 117, 105, 116, 32, 0, 119, 101, 116, 32, 0, 104, 101, 97, 116, 32, 0, 108, 111, 115, 115, 32, 0, 116, 101, 97, 32, 0, 119, 111, 114, 116, 104, 32, 0, 100, 105, 112, 32, 0]
def wdF (j : Nat) : Nat := wdN.getD j 0
def RTm (B : Nat) (M : MM) (T : Tr) : Prop := M.1 (B + 80) 41 = nI T.1 ∧ ∀ i, i < T.1 → i < 20 → M.1 (B + 101) i = T.2 i
theorem RTm.fk {B : Nat} {M M' : MM} {A J : List Nat} {T : Tr} (h : RTm B M T) (hF : Fk B M M' A J) (ha : 101 ∉ A) (hj : 41 ∉ J) : RTm B M' T := by
  unfold RTm
  rw [hF.i ha (by decide), hF.j hj]
  exact h
/-- the model in memory -/
def RM (B : Nat) (M : MM) (y : Sys) : Prop :=
  (∀ q, q < 8 → RWq B M q (yH y q)) ∧ RN B M (yN y) ∧ (yB y = true → RK B M 96 (yI y)) ∧ M.1 (B + 80) 42 = (if yB y = true then nI 1 else nI 0) ∧ M.1 (B + 80) 8 = yF y ∧ (∀ j, j < 8 → M.1 (B + 81) j = yR y j) ∧ RTm B M (yT y) ∧ ∀ j, j < 43 → M.1 (B + 93) j = nI (wdF j)
/-- scratch of the model -/
abbrev mA : List Nat := [92, 94, 95, 97, 98, 99, 100]
abbrev mJ : List Nat := [23, 24, 25, 26, 27, 32, 33, 34, 35, 36, 39]
theorem RM.fk {B : Nat} {M M' : MM} {A J : List Nat} {y : Sys} (h : RM B M y) (hF : Fk B M M' A J) (ha : ∀ x ∈ [81, 82, 83, 84, 85, 86, 87, 88, 89, 90, 91, 93, 96, 101], x ∉ A) (hj : ∀ x ∈ [0, 1, 2, 3, 4, 5, 6, 7, 8, 41, 42], x ∉ J) : RM B M' y := by
  obtain ⟨h1, h2, h3, h4, h5, h6, h7, h8⟩ := h
  refine ⟨fun q hq => (h1 q hq).fk hF (fun x hx => ha x (by revert x; decide)), h2.fk hF (fun x hx => ha x (by revert x; decide)) (fun x hx => hj x (by revert x; decide)), fun hb => (h3 hb).eq (hF.i (ha 96 (by decide)) (by decide)), (hF.j (hj 42 (by decide))).trans h4, (hF.j (hj 8 (by decide))).trans h5, fun j hj2 => by rw [hF.i (ha 81 (by decide)) (by decide)]; exact h6 j hj2, h7.fk hF (ha 101 (by decide)) (hj 41 (by decide)), fun j hj2 => by rw [hF.i (ha 93 (by decide)) (by decide)]; exact h8 j hj2⟩
theorem RM.mc {B : Nat} {M M' : MM} {y : Sys} (h : RM B M y) (hF : Fk B M M' mA mJ) : RM B M' y := h.fk hF (by decide) (by decide)
/-- what is now has changed -/
theorem RM.n {B : Nat} {M M' : MM} {A J : List Nat} {y : Sys} {s : St} (h : RM B M y) (hF : Fk B M M' A J) (ha : ∀ x ∈ [81, 87, 88, 89, 90, 91, 93, 96, 101], x ∉ A) (hj : ∀ x ∈ [8, 41, 42], x ∉ J) (hs : RN B M' s) : RM B M' (setN y s) := by
  obtain ⟨h1, h2, h3, h4, h5, h6, h7, h8⟩ := h
  exact ⟨fun q hq => (h1 q hq).fk hF (fun x hx => ha x (by revert x; decide)), hs, fun hb => (h3 hb).eq (hF.i (ha 96 (by decide)) (by decide)), (hF.j (hj 42 (by decide))).trans h4, (hF.j (hj 8 (by decide))).trans h5, fun j hj2 => by rw [hF.i (ha 81 (by decide)) (by decide)]; exact h6 j hj2, h7.fk hF (ha 101 (by decide)) (hj 41 (by decide)), fun j hj2 => by rw [hF.i (ha 93 (by decide)) (by decide)]; exact h8 j hj2⟩
/-- one shelf has changed -/
theorem RM.h {B q : Nat} {M M' : MM} {y : Sys} {x : Sh} (h : RM B M y) (ho : okY y) (hq : q < 8) (hF : Fk B M M' [87, 88, 89, 90, 91, 92] []) (he : ∀ q', q' < 8 → q' ≠ q → Eqq B M M' q') (hx : RWq B M' q x) : RM B M' (setH y q x) := by
  obtain ⟨h1, h2, h3, h4, h5, h6, h7, h8⟩ := h
  refine ⟨fun j hj => ?_, h2.fk hF (by decide) (by decide), fun hb => (h3 hb).eq (hF.i (by decide) (by decide)), (hF.j (by decide)).trans h4, (hF.j (by decide)).trans h5, fun j hj => by rw [hF.i (by decide) (by decide)]; exact h6 j hj, h7.fk hF (by decide) (by decide), fun j hj => by rw [hF.i (by decide) (by decide)]; exact h8 j hj⟩
  show RWq B M' j (upF (yH y) q x j)
  by_cases e : j = q
  · subst e; rw [upF_s]; exact hx
  · rw [upF_n e]; exact (h1 j hj).eq (ho.1 j hj) (he j hj e)
/-- what a call of the model comes to -/
def QM (B : Nat) (M : MM) (o : Int32 × Sys) : Option Value → MM → Prop := Ri (fun r M2 => r = o.1 ∧ RM B M2 o.2 ∧ Sm B M M2 80 102)
theorem QM.rf {B : Nat} {M M2 : MM} {y : Sys} {o : Int32 × Sys} {r : Int32} {w : Nat} (e : o = rz y w) (h : r = -(nI w) ∧ RM B M2 (rfz y w) ∧ Fk B M M2 [81] []) : r = o.1 ∧ RM B M2 o.2 ∧ Sm B M M2 80 102 := by
  subst e
  exact ⟨h.1, h.2.1, h.2.2.sm (by decide)⟩
theorem QM.rl {B : Nat} {M M2 : MM} {y : Sys} {o : Int32 × Sys} {r : Int32} {w k : Nat} (e : o = rzl y w k) (h : r = -(nI w) - nI k ∧ RM B M2 (rfz y w) ∧ Fk B M M2 [81] []) : r = o.1 ∧ RM B M2 o.2 ∧ Sm B M M2 80 102 := by
  subst e
  exact ⟨h.1, h.2.1, h.2.2.sm (by decide)⟩
theorem QM.p {B : Nat} {M : MM} {y : Sys} {o : Int32 × Sys} {r : Int32} (h : RM B M y) (e : o = (r, y)) : r = o.1 ∧ RM B M o.2 ∧ Sm B M M 80 102 := by
  subst e
  exact ⟨rfl, h, Sm.rf⟩
theorem QM.s {B : Nat} {M M2 : MM} {y : Sys} {o : Int32 × Sys} {r : Int32} (h : RM B M y) (hF : Fk B M M2 mA mJ) (e : o = (r, y)) : r = o.1 ∧ RM B M2 o.2 ∧ Sm B M M2 80 102 := by
  subst e
  exact ⟨rfl, h.mc hF, hF.sm (by decide)⟩
theorem RM.rf {B w : Nat} {M : MM} {y : Sys} (h : RM B M y) : RM B (upI M (B + 81) w (yR y w + nI 1)) (rfz y w) ∧ Fk B M (upI M (B + 81) w (yR y w + nI 1)) [81] [] := by
  have hF : Fk B M (upI M (B + 81) w (yR y w + nI 1)) [81] [] := Fk.pi (by decide) (by decide)
  obtain ⟨h1, h2, h3, h4, h5, h6, h7, h8⟩ := h
  refine ⟨⟨fun q hq => (h1 q hq).fk hF (by decide), h2.fk hF (by decide) (by decide), fun hb => (h3 hb).eq (hF.i (by decide) (by decide)), (hF.j (by decide)).trans h4, (hF.j (by decide)).trans h5, fun j hj => ?_, h7.fk hF (by decide) (by decide), fun j hj => by rw [hF.i (by decide) (by decide)]; exact h8 j hj⟩, hF⟩
  show _ = upF (yR y) w (yR y w + nI 1) j
  rw [upI_at]
  unfold upF
  split
  · rfl
  · exact h6 j hj
section X7A
variable {E : EE} {B : Nat} {M : MM}
theorem ct_no {y : Sys} {w : Nat} {x : Int32} (h : RM B M y) (hx : x = -(nI w)) (h2 : w < 8) : Ct E B yX7_no cX7_no 2 (some .int) 0 [.ref (B + 80), .int x] M (Ri (fun r M2 => r = -(nI w) ∧ RM B M2 (rfz y w) ∧ Fk B M M2 [81] [])) := by
  subst hx
  refine Ct.of2 (own := RX7) (lv := [(0, .ref (B + 80)), (1, .int (-(nI w)))]) pn_X7 rfl (Nat.le_of_ble_eq_true rfl) rfl ?_
  refine g_aload_n dX7_no_0 rfl rfl ?_
  refine g_getR dX7_no_1 fl_X7_25 rfl rfl ?_
  refine g_iload_n dX7_no_4 rfl rfl ?_
  refine g_ineg dX7_no_5 (Int32.neg_neg (a := nI w)) ?_
  refine g_dup2 dX7_no_6 rfl rfl ?_
  refine g_iald dX7_no_7 rfl rfl (by omega) (h.2.2.2.2.2.1 w h2) ?_
  refine g_iconst dX7_no_8 kI_1 ?_
  refine g_iadd dX7_no_9 rfl ?_
  refine g_iast dX7_no_10 rfl rfl (by omega) ?_
  refine g_iload_n dX7_no_11 rfl rfl ?_
  refine g_iret dX7_no_12 ⟨_, rfl, ?_⟩
  exact ⟨rfl, h.rf⟩
theorem ct_noTen {y : Sys} {w : Nat} {x : Int32} (h : RM B M y) (hx : x = -(nI w)) (h2 : w < 8) : Ct E B yX7_noTen cX7_noTen 2 (some .int) 0 [.ref (B + 80), .int x] M (Ri (fun r M2 => r = -(nI w) - nI 10 ∧ RM B M2 (rfz y w) ∧ Fk B M M2 [81] [])) := by
  subst hx
  refine Ct.of2 (own := RX7) (lv := [(0, .ref (B + 80)), (1, .int (-(nI w)))]) pn_X7 rfl (Nat.le_of_ble_eq_true rfl) rfl ?_
  refine g_aload_n dX7_noTen_0 rfl rfl ?_
  refine g_getR dX7_noTen_1 fl_X7_25 rfl rfl ?_
  refine g_iload_n dX7_noTen_4 rfl rfl ?_
  refine g_ineg dX7_noTen_5 (Int32.neg_neg (a := nI w)) ?_
  refine g_dup2 dX7_noTen_6 rfl rfl ?_
  refine g_iald dX7_noTen_7 rfl rfl (by omega) (h.2.2.2.2.2.1 w h2) ?_
  refine g_iconst dX7_noTen_8 kI_1 ?_
  refine g_iadd dX7_noTen_9 rfl ?_
  refine g_iast dX7_noTen_10 rfl rfl (by omega) ?_
  refine g_iload_n dX7_noTen_11 rfl rfl ?_
  refine g_bipush dX7_noTen_12 kB_10 ?_
  refine g_isub dX7_noTen_14 rfl ?_
  refine g_iret dX7_noTen_15 ⟨_, rfl, ?_⟩
  exact ⟨rfl, h.rf⟩
theorem ct_noFar {y : Sys} {w : Nat} {x : Int32} (h : RM B M y) (hx : x = -(nI w)) (h2 : w < 8) : Ct E B yX7_noFar cX7_noFar 2 (some .int) 0 [.ref (B + 80), .int x] M (Ri (fun r M2 => r = -(nI w) - nI 1000 ∧ RM B M2 (rfz y w) ∧ Fk B M M2 [81] [])) := by
  subst hx
  refine Ct.of2 (own := RX7) (lv := [(0, .ref (B + 80)), (1, .int (-(nI w)))]) pn_X7 rfl (Nat.le_of_ble_eq_true rfl) rfl ?_
  refine g_aload_n dX7_noFar_0 rfl rfl ?_
  refine g_getR dX7_noFar_1 fl_X7_25 rfl rfl ?_
  refine g_iload_n dX7_noFar_4 rfl rfl ?_
  refine g_ineg dX7_noFar_5 (Int32.neg_neg (a := nI w)) ?_
  refine g_dup2 dX7_noFar_6 rfl rfl ?_
  refine g_iald dX7_noFar_7 rfl rfl (by omega) (h.2.2.2.2.2.1 w h2) ?_
  refine g_iconst dX7_noFar_8 kI_1 ?_
  refine g_iadd dX7_noFar_9 rfl ?_
  refine g_iast dX7_noFar_10 rfl rfl (by omega) ?_
  refine g_iload_n dX7_noFar_11 rfl rfl ?_
  refine g_sipush dX7_noFar_12 kS_1000 ?_
  refine g_isub dX7_noFar_15 rfl ?_
  refine g_iret dX7_noFar_16 ⟨_, rfl, ?_⟩
  exact ⟨rfl, h.rf⟩
theorem ct_X7_isShelf {s : Int32} : Ct E B yX7_isShelf cX7_isShelf 2 (some .boolean) 0 [.ref (B + 80), .int s] M (Rp (bp (0 ≤ s ∧ s < nI 8)) M) := by
  refine Ct.of2 (own := RX7) (lv := [(0, .ref (B + 80)), (1, .int s)]) pn_X7 rfl (Nat.le_of_ble_eq_true rfl) rfl ?_
  refine g_iload_n dX7_isShelf_0 rfl rfl ?_
  refine g_if_lt (tgt := 14) dX7_isShelf_1 (by decide) (fun c_1 => ?_) (fun c_1 => ?_)
  · refine g_iconst dX7_isShelf_14 kI_0 ?_
    refine g_zret dX7_isShelf_15 (by first | exact Or.inl rfl | exact Or.inr rfl | exact bp_01) ⟨_, rfl, ?_⟩
    first | exact ⟨bp_t ⟨Int32.not_lt.mp c_1, Int32.not_le.mp c_7⟩, rfl⟩ | exact ⟨bp_f (fun q => Int32.not_lt.mpr q.1 c_1), rfl⟩ | exact ⟨bp_f (fun q => Int32.not_le.mpr q.2 c_7), rfl⟩
  · refine g_iload_n dX7_isShelf_4 rfl rfl ?_
    refine g_bipush dX7_isShelf_5 kB_8 ?_
    refine g_icmp_ge (tgt := 14) dX7_isShelf_7 (by decide) (fun c_7 => ?_) (fun c_7 => ?_)
    · refine g_iconst dX7_isShelf_14 kI_0 ?_
      refine g_zret dX7_isShelf_15 (by first | exact Or.inl rfl | exact Or.inr rfl | exact bp_01) ⟨_, rfl, ?_⟩
      first | exact ⟨bp_t ⟨Int32.not_lt.mp c_1, Int32.not_le.mp c_7⟩, rfl⟩ | exact ⟨bp_f (fun q => Int32.not_lt.mpr q.1 c_1), rfl⟩ | exact ⟨bp_f (fun q => Int32.not_le.mpr q.2 c_7), rfl⟩
    · refine g_iconst dX7_isShelf_10 kI_1 ?_
      refine g_goto (tgt := 15) dX7_isShelf_11 (by decide) ?_
      refine g_zret dX7_isShelf_15 (by first | exact Or.inl rfl | exact Or.inr rfl | exact bp_01) ⟨_, rfl, ?_⟩
      first | exact ⟨bp_t ⟨Int32.not_lt.mp c_1, Int32.not_le.mp c_7⟩, rfl⟩ | exact ⟨bp_f (fun q => Int32.not_lt.mpr q.1 c_1), rfl⟩ | exact ⟨bp_f (fun q => Int32.not_le.mpr q.2 c_7), rfl⟩
theorem ct_X7_isBiscuit {s : St} {b : Int32} (h : RN B M s) : Ct E B yX7_isBiscuit cX7_isBiscuit 2 (some .boolean) 0 [.ref (B + 80), .int b] M (Rp (bp (0 ≤ b ∧ b < nI (sCn s))) M) := by
  refine Ct.of2 (own := RX7) (lv := [(0, .ref (B + 80)), (1, .int b)]) pn_X7 rfl (Nat.le_of_ble_eq_true rfl) rfl ?_
  refine g_iload_n dX7_isBiscuit_0 rfl rfl ?_
  refine g_if_lt (tgt := 16) dX7_isBiscuit_1 (by decide) (fun c_1 => ?_) (fun c_1 => ?_)
  · refine g_iconst dX7_isBiscuit_16 kI_0 ?_
    refine g_zret dX7_isBiscuit_17 (by first | exact Or.inl rfl | exact Or.inr rfl | exact bp_01) ⟨_, rfl, ?_⟩
    first | exact ⟨bp_t ⟨Int32.not_lt.mp c_1, Int32.not_le.mp c_9⟩, rfl⟩ | exact ⟨bp_f (fun q => Int32.not_lt.mpr q.1 c_1), rfl⟩ | exact ⟨bp_f (fun q => Int32.not_le.mpr q.2 c_9), rfl⟩
  · refine g_iload_n dX7_isBiscuit_4 rfl rfl ?_
    refine g_aload_n dX7_isBiscuit_5 rfl rfl ?_
    refine g_getI dX7_isBiscuit_6 fl_X7_90 rfl rfl (h.2.2.1) ?_
    refine g_icmp_ge (tgt := 16) dX7_isBiscuit_9 (by decide) (fun c_9 => ?_) (fun c_9 => ?_)
    · refine g_iconst dX7_isBiscuit_16 kI_0 ?_
      refine g_zret dX7_isBiscuit_17 (by first | exact Or.inl rfl | exact Or.inr rfl | exact bp_01) ⟨_, rfl, ?_⟩
      first | exact ⟨bp_t ⟨Int32.not_lt.mp c_1, Int32.not_le.mp c_9⟩, rfl⟩ | exact ⟨bp_f (fun q => Int32.not_lt.mpr q.1 c_1), rfl⟩ | exact ⟨bp_f (fun q => Int32.not_le.mpr q.2 c_9), rfl⟩
    · refine g_iconst dX7_isBiscuit_12 kI_1 ?_
      refine g_goto (tgt := 17) dX7_isBiscuit_13 (by decide) ?_
      refine g_zret dX7_isBiscuit_17 (by first | exact Or.inl rfl | exact Or.inr rfl | exact bp_01) ⟨_, rfl, ?_⟩
      first | exact ⟨bp_t ⟨Int32.not_lt.mp c_1, Int32.not_le.mp c_9⟩, rfl⟩ | exact ⟨bp_f (fun q => Int32.not_lt.mpr q.1 c_1), rfl⟩ | exact ⟨bp_f (fun q => Int32.not_le.mpr q.2 c_9), rfl⟩
theorem ct_X7_isCell {s : St} {b c : Int32} (h : RN B M s) (ho : okSt s) : Ct E B yX7_isCell cX7_isCell 3 (some .boolean) 1 [.ref (B + 80), .int b, .int c] M (Rp (bp ((0 ≤ b ∧ b < nI (sCn s)) ∧ 0 ≤ c ∧ c < nI (sBs s (tn b)).2.2.1)) M) := by
  have hcn := ho.2.2.1
  refine Ct.of2 (own := RX7) (lv := [(0, .ref (B + 80)), (1, .int b), (2, .int c)]) pn_X7 rfl (Nat.le_of_ble_eq_true rfl) rfl ?_
  refine g_aload_n dX7_isCell_0 rfl rfl ?_
  refine g_iload_n dX7_isCell_1 rfl rfl ?_
  refine g_callVp dX7_isCell_2 mi_X7_isBiscuit ml_X7_93 (ct_X7_isBiscuit h) rfl rfl rfl rfl (Nat.le_of_ble_eq_true rfl) ⟨lt_r rfl, Nat.le_of_ble_eq_true rfl⟩ ?_
  refine g_if_eqP (tgt := 26) dX7_isCell_5 (by decide) (fun c_5 => ?_) (fun c_5 => ?_)
  · refine g_iconst dX7_isCell_26 kI_0 ?_
    refine g_zret dX7_isCell_27 (by first | exact Or.inl rfl | exact Or.inr rfl | exact bp_01) ⟨_, rfl, ?_⟩
    first | exact ⟨bp_f (fun q => c_5 q.1), rfl⟩ | exact ⟨bp_f (fun q => Int32.not_lt.mpr q.2.1 c_9), rfl⟩ | exact ⟨bp_t ⟨c_5, Int32.not_lt.mp c_9, by rw [e]; exact Int32.not_le.mp c_19⟩, rfl⟩ | exact ⟨bp_f (fun z => Int32.not_le.mpr (by have := z.2.2; rwa [e] at this) c_19), rfl⟩
  · refine g_iload_n dX7_isCell_8 rfl rfl ?_
    refine g_if_lt (tgt := 26) dX7_isCell_9 (by decide) (fun c_9 => ?_) (fun c_9 => ?_)
    · refine g_iconst dX7_isCell_26 kI_0 ?_
      refine g_zret dX7_isCell_27 (by first | exact Or.inl rfl | exact Or.inr rfl | exact bp_01) ⟨_, rfl, ?_⟩
      first | exact ⟨bp_f (fun q => c_5 q.1), rfl⟩ | exact ⟨bp_f (fun q => Int32.not_lt.mpr q.2.1 c_9), rfl⟩ | exact ⟨bp_t ⟨c_5, Int32.not_lt.mp c_9, by rw [e]; exact Int32.not_le.mp c_19⟩, rfl⟩ | exact ⟨bp_f (fun z => Int32.not_le.mpr (by have := z.2.2; rwa [e] at this) c_19), rfl⟩
    · obtain ⟨q, hq, rfl, e⟩ := in_b hcn c_5
      refine g_iload_n dX7_isCell_12 rfl rfl ?_
      refine g_aload_n dX7_isCell_13 rfl rfl ?_
      refine g_getR dX7_isCell_14 fl_X7_35 rfl rfl ?_
      refine g_iload_n dX7_isCell_17 rfl rfl ?_
      refine g_iald dX7_isCell_18 rfl rfl (by omega) ((h.1 q hq).2.2.1) ?_
      refine g_icmp_ge (tgt := 26) dX7_isCell_19 (by decide) (fun c_19 => ?_) (fun c_19 => ?_)
      · refine g_iconst dX7_isCell_26 kI_0 ?_
        refine g_zret dX7_isCell_27 (by first | exact Or.inl rfl | exact Or.inr rfl | exact bp_01) ⟨_, rfl, ?_⟩
        first | exact ⟨bp_f (fun q => c_5 q.1), rfl⟩ | exact ⟨bp_f (fun q => Int32.not_lt.mpr q.2.1 c_9), rfl⟩ | exact ⟨bp_t ⟨c_5, Int32.not_lt.mp c_9, by rw [e]; exact Int32.not_le.mp c_19⟩, rfl⟩ | exact ⟨bp_f (fun z => Int32.not_le.mpr (by have := z.2.2; rwa [e] at this) c_19), rfl⟩
      · refine g_iconst dX7_isCell_22 kI_1 ?_
        refine g_goto (tgt := 27) dX7_isCell_23 (by decide) ?_
        refine g_zret dX7_isCell_27 (by first | exact Or.inl rfl | exact Or.inr rfl | exact bp_01) ⟨_, rfl, ?_⟩
        first | exact ⟨bp_f (fun q => c_5 q.1), rfl⟩ | exact ⟨bp_f (fun q => Int32.not_lt.mpr q.2.1 c_9), rfl⟩ | exact ⟨bp_t ⟨c_5, Int32.not_lt.mp c_9, by rw [e]; exact Int32.not_le.mp c_19⟩, rfl⟩ | exact ⟨bp_f (fun z => Int32.not_le.mpr (by have := z.2.2; rwa [e] at this) c_19), rfl⟩
theorem ct_X7_isDeep {d : Int32} : Ct E B yX7_isDeep cX7_isDeep 2 (some .boolean) 0 [.ref (B + 80), .int d] M (Rp (bp (nI 0 ≤ d ∧ d ≤ nI 12)) M) := by
  refine Ct.of2 (own := RX7) (lv := [(0, .ref (B + 80)), (1, .int d)]) pn_X7 rfl (Nat.le_of_ble_eq_true rfl) rfl ?_
  refine g_iload_n dX7_isDeep_0 rfl rfl ?_
  refine g_if_lt (tgt := 14) dX7_isDeep_1 (by decide) (fun c_1 => ?_) (fun c_1 => ?_)
  · refine g_iconst dX7_isDeep_14 kI_0 ?_
    refine g_zret dX7_isDeep_15 (by first | exact Or.inl rfl | exact Or.inr rfl | exact bp_01) ⟨_, rfl, ?_⟩
    first | exact ⟨bp_t ⟨Int32.not_lt.mp c_1, Int32.not_lt.mp c_7⟩, rfl⟩ | exact ⟨bp_f (fun q => Int32.not_lt.mpr q.1 c_1), rfl⟩ | exact ⟨bp_f (fun q => Int32.not_lt.mpr q.2 c_7), rfl⟩
  · refine g_iload_n dX7_isDeep_4 rfl rfl ?_
    refine g_bipush dX7_isDeep_5 kB_12 ?_
    refine g_icmp_gt (tgt := 14) dX7_isDeep_7 (by decide) (fun c_7 => ?_) (fun c_7 => ?_)
    · refine g_iconst dX7_isDeep_14 kI_0 ?_
      refine g_zret dX7_isDeep_15 (by first | exact Or.inl rfl | exact Or.inr rfl | exact bp_01) ⟨_, rfl, ?_⟩
      first | exact ⟨bp_t ⟨Int32.not_lt.mp c_1, Int32.not_lt.mp c_7⟩, rfl⟩ | exact ⟨bp_f (fun q => Int32.not_lt.mpr q.1 c_1), rfl⟩ | exact ⟨bp_f (fun q => Int32.not_lt.mpr q.2 c_7), rfl⟩
    · refine g_iconst dX7_isDeep_10 kI_1 ?_
      refine g_goto (tgt := 15) dX7_isDeep_11 (by decide) ?_
      refine g_zret dX7_isDeep_15 (by first | exact Or.inl rfl | exact Or.inr rfl | exact bp_01) ⟨_, rfl, ?_⟩
      first | exact ⟨bp_t ⟨Int32.not_lt.mp c_1, Int32.not_lt.mp c_7⟩, rfl⟩ | exact ⟨bp_f (fun q => Int32.not_lt.mpr q.1 c_1), rfl⟩ | exact ⟨bp_f (fun q => Int32.not_lt.mpr q.2 c_7), rfl⟩
theorem ct_X7_isLong {d : Int32} : Ct E B yX7_isLong cX7_isLong 2 (some .boolean) 0 [.ref (B + 80), .int d] M (Rp (bp (nI 0 ≤ d ∧ d ≤ nI 60)) M) := by
  refine Ct.of2 (own := RX7) (lv := [(0, .ref (B + 80)), (1, .int d)]) pn_X7 rfl (Nat.le_of_ble_eq_true rfl) rfl ?_
  refine g_iload_n dX7_isLong_0 rfl rfl ?_
  refine g_if_lt (tgt := 14) dX7_isLong_1 (by decide) (fun c_1 => ?_) (fun c_1 => ?_)
  · refine g_iconst dX7_isLong_14 kI_0 ?_
    refine g_zret dX7_isLong_15 (by first | exact Or.inl rfl | exact Or.inr rfl | exact bp_01) ⟨_, rfl, ?_⟩
    first | exact ⟨bp_t ⟨Int32.not_lt.mp c_1, Int32.not_lt.mp c_7⟩, rfl⟩ | exact ⟨bp_f (fun q => Int32.not_lt.mpr q.1 c_1), rfl⟩ | exact ⟨bp_f (fun q => Int32.not_lt.mpr q.2 c_7), rfl⟩
  · refine g_iload_n dX7_isLong_4 rfl rfl ?_
    refine g_bipush dX7_isLong_5 kB_60 ?_
    refine g_icmp_gt (tgt := 14) dX7_isLong_7 (by decide) (fun c_7 => ?_) (fun c_7 => ?_)
    · refine g_iconst dX7_isLong_14 kI_0 ?_
      refine g_zret dX7_isLong_15 (by first | exact Or.inl rfl | exact Or.inr rfl | exact bp_01) ⟨_, rfl, ?_⟩
      first | exact ⟨bp_t ⟨Int32.not_lt.mp c_1, Int32.not_lt.mp c_7⟩, rfl⟩ | exact ⟨bp_f (fun q => Int32.not_lt.mpr q.1 c_1), rfl⟩ | exact ⟨bp_f (fun q => Int32.not_lt.mpr q.2 c_7), rfl⟩
    · refine g_iconst dX7_isLong_10 kI_1 ?_
      refine g_goto (tgt := 15) dX7_isLong_11 (by decide) ?_
      refine g_zret dX7_isLong_15 (by first | exact Or.inl rfl | exact Or.inr rfl | exact bp_01) ⟨_, rfl, ?_⟩
      first | exact ⟨bp_t ⟨Int32.not_lt.mp c_1, Int32.not_lt.mp c_7⟩, rfl⟩ | exact ⟨bp_f (fun q => Int32.not_lt.mpr q.1 c_1), rfl⟩ | exact ⟨bp_f (fun q => Int32.not_lt.mpr q.2 c_7), rfl⟩
theorem ct_X7_may {d s c : Int32} : Ct E B yX7_may cX7_may 4 (some .boolean) 1 [.ref (B + 80), .int d, .int s, .int c] M (Rp (bp (dOk d s c)) M) := by
  refine Ct.of2 (own := RX7) (lv := [(0, .ref (B + 80)), (1, .int d), (2, .int s), (3, .int c)]) pn_X7 rfl (Nat.le_of_ble_eq_true rfl) rfl ?_
  refine g_aload_n dX7_may_0 rfl rfl ?_
  refine g_iload_n dX7_may_1 rfl rfl ?_
  refine g_callVp dX7_may_2 mi_X7_isDeep ml_X7_220 (ct_X7_isDeep) rfl rfl rfl rfl (Nat.le_of_ble_eq_true rfl) ⟨lt_r rfl, Nat.le_of_ble_eq_true rfl⟩ ?_
  refine g_if_eqP (tgt := 28) dX7_may_5 (by decide) (fun c_5 => ?_) (fun c_5 => ?_)
  · refine g_iconst dX7_may_28 kI_0 ?_
    refine g_zret dX7_may_29 (by first | exact Or.inl rfl | exact Or.inr rfl | exact bp_01) ⟨_, rfl, ?_⟩
    first | exact ⟨bp_t ⟨c_5, c_13, c_21⟩, rfl⟩ | exact ⟨bp_f (fun q => c_5 q.1), rfl⟩ | exact ⟨bp_f (fun q => c_13 q.2.1), rfl⟩ | exact ⟨bp_f (fun q => c_21 q.2.2), rfl⟩
  · refine g_aload_n dX7_may_8 rfl rfl ?_
    refine g_iload_n dX7_may_9 rfl rfl ?_
    refine g_callVp dX7_may_10 mi_X7_isLong ml_X7_223 (ct_X7_isLong) rfl rfl rfl rfl (Nat.le_of_ble_eq_true rfl) ⟨lt_r rfl, Nat.le_of_ble_eq_true rfl⟩ ?_
    refine g_if_eqP (tgt := 28) dX7_may_13 (by decide) (fun c_13 => ?_) (fun c_13 => ?_)
    · refine g_iconst dX7_may_28 kI_0 ?_
      refine g_zret dX7_may_29 (by first | exact Or.inl rfl | exact Or.inr rfl | exact bp_01) ⟨_, rfl, ?_⟩
      first | exact ⟨bp_t ⟨c_5, c_13, c_21⟩, rfl⟩ | exact ⟨bp_f (fun q => c_5 q.1), rfl⟩ | exact ⟨bp_f (fun q => c_13 q.2.1), rfl⟩ | exact ⟨bp_f (fun q => c_21 q.2.2), rfl⟩
    · refine g_aload_n dX7_may_16 rfl rfl ?_
      refine g_iload_n dX7_may_17 rfl rfl ?_
      refine g_callVp dX7_may_18 mi_X7_isLong ml_X7_223 (ct_X7_isLong) rfl rfl rfl rfl (Nat.le_of_ble_eq_true rfl) ⟨lt_r rfl, Nat.le_of_ble_eq_true rfl⟩ ?_
      refine g_if_eqP (tgt := 28) dX7_may_21 (by decide) (fun c_21 => ?_) (fun c_21 => ?_)
      · refine g_iconst dX7_may_28 kI_0 ?_
        refine g_zret dX7_may_29 (by first | exact Or.inl rfl | exact Or.inr rfl | exact bp_01) ⟨_, rfl, ?_⟩
        first | exact ⟨bp_t ⟨c_5, c_13, c_21⟩, rfl⟩ | exact ⟨bp_f (fun q => c_5 q.1), rfl⟩ | exact ⟨bp_f (fun q => c_13 q.2.1), rfl⟩ | exact ⟨bp_f (fun q => c_21 q.2.2), rfl⟩
      · refine g_iconst dX7_may_24 kI_1 ?_
        refine g_goto (tgt := 29) dX7_may_25 (by decide) ?_
        refine g_zret dX7_may_29 (by first | exact Or.inl rfl | exact Or.inr rfl | exact bp_01) ⟨_, rfl, ?_⟩
        first | exact ⟨bp_t ⟨c_5, c_13, c_21⟩, rfl⟩ | exact ⟨bp_f (fun q => c_5 q.1), rfl⟩ | exact ⟨bp_f (fun q => c_13 q.2.1), rfl⟩ | exact ⟨bp_f (fun q => c_21 q.2.2), rfl⟩
theorem ct_X7_wanted {y : Sys} {s : Int32} (h : RM B M y) (ho : okY y) : Ct E B yX7_wanted cX7_wanted 2 (some .int) 1 [.ref (B + 80), .int s] M (Rp (-(nI (whyRow y s))) M) := by
  refine Ct.of2 (own := RX7) (lv := [(0, .ref (B + 80)), (1, .int s)]) pn_X7 rfl (Nat.le_of_ble_eq_true rfl) rfl ?_
  refine g_aload_n dX7_wanted_0 rfl rfl ?_
  refine g_iload_n dX7_wanted_1 rfl rfl ?_
  refine g_callVp dX7_wanted_2 mi_X7_isShelf ml_X7_97 (ct_X7_isShelf) rfl rfl rfl rfl (Nat.le_of_ble_eq_true rfl) ⟨lt_r rfl, Nat.le_of_ble_eq_true rfl⟩ ?_
  refine g_if_neP (tgt := 12) dX7_wanted_5 (by decide) (fun c_5 => ?_) (fun c_5 => ?_)
  · obtain ⟨q, hq, rfl, e⟩ := in_sh c_5
    have h2 := (ho.1 q hq).1
    refine g_aload_n dX7_wanted_12 rfl rfl ?_
    refine g_getR dX7_wanted_13 fl_X7_44 rfl rfl ?_
    refine g_iload_n dX7_wanted_16 rfl rfl ?_
    refine g_iald dX7_wanted_17 rfl rfl (by omega) ((h.1 q hq).1) ?_
    refine g_iconst dX7_wanted_18 kI_2 ?_
    refine g_icmp_neN (tgt := 27) dX7_wanted_19 (by decide) rfl rfl (by omega) (by omega) (fun c_19 => ?_) (fun c_19 => ?_)
    · refine g_aload_n dX7_wanted_27 rfl rfl ?_
      refine g_getR dX7_wanted_28 fl_X7_44 rfl rfl ?_
      refine g_iload_n dX7_wanted_31 rfl rfl ?_
      refine g_iald dX7_wanted_32 rfl rfl (by omega) ((h.1 q hq).1) ?_
      refine g_if_neN (tgt := 41) dX7_wanted_33 (by decide) rfl (by omega) (fun c_33 => ?_) (fun c_33 => ?_)
      · refine g_iconst dX7_wanted_41 kI_0 ?_
        refine g_iret dX7_wanted_42 ⟨_, rfl, ?_⟩
        refine ⟨?_, rfl⟩
        unfold whyRow
        first | (rw [if_pos c_5]; rfl) | (rw [e, if_neg (fun z => z c_5), if_neg (by omega), if_neg (by omega)]; rfl) | (rw [e, if_neg (fun z => z c_5), if_neg (by omega), if_pos (by omega)]; rfl) | (rw [e, if_neg (fun z => z c_5), if_pos (by omega)]; rfl)
      · refine g_bipush dX7_wanted_36 kB_m3 ?_
        refine g_goto (tgt := 42) dX7_wanted_38 (by decide) ?_
        refine g_iret dX7_wanted_42 ⟨_, rfl, ?_⟩
        refine ⟨?_, rfl⟩
        unfold whyRow
        first | (rw [if_pos c_5]; rfl) | (rw [e, if_neg (fun z => z c_5), if_neg (by omega), if_neg (by omega)]; rfl) | (rw [e, if_neg (fun z => z c_5), if_neg (by omega), if_pos (by omega)]; rfl) | (rw [e, if_neg (fun z => z c_5), if_pos (by omega)]; rfl)
    · refine g_bipush dX7_wanted_22 kB_m2 ?_
      refine g_goto (tgt := 42) dX7_wanted_24 (by decide) ?_
      refine g_iret dX7_wanted_42 ⟨_, rfl, ?_⟩
      refine ⟨?_, rfl⟩
      unfold whyRow
      first | (rw [if_pos c_5]; rfl) | (rw [e, if_neg (fun z => z c_5), if_neg (by omega), if_neg (by omega)]; rfl) | (rw [e, if_neg (fun z => z c_5), if_neg (by omega), if_pos (by omega)]; rfl) | (rw [e, if_neg (fun z => z c_5), if_pos (by omega)]; rfl)
  · refine g_iconst dX7_wanted_8 kI_m1 ?_
    refine g_goto (tgt := 42) dX7_wanted_9 (by decide) ?_
    refine g_iret dX7_wanted_42 ⟨_, rfl, ?_⟩
    refine ⟨?_, rfl⟩
    unfold whyRow
    first | (rw [if_pos c_5]; rfl) | (rw [e, if_neg (fun z => z c_5), if_neg (by omega), if_neg (by omega)]; rfl) | (rw [e, if_neg (fun z => z c_5), if_neg (by omega), if_pos (by omega)]; rfl) | (rw [e, if_neg (fun z => z c_5), if_pos (by omega)]; rfl)
end X7A
