set_option maxRecDepth 30000 in
theorem tbN_tbl : ∀ w ∈ tbN, w ∈ lw_tbl := by
  intro w hw
  simp only [tbN, List.mem_cons, List.not_mem_nil, or_false] at hw
  rcases hw with rfl | rfl | rfl | rfl | rfl | rfl | rfl | rfl | rfl | rfl | rfl | rfl
  · exact tb_in 104 rfl
  · exact tb_in 180 rfl
  · exact tb_in 185 rfl
  · exact tb_in 245 rfl
  · exact tb_in 271 rfl
  · exact tb_in 273 rfl
  · exact tb_in 433 rfl
  · exact tb_in 606 rfl
  · exact tb_in 744 rfl
  · exact tb_in 872 rfl
  · exact tb_in 878 rfl
  · exact tb_in 881 rfl
set_option maxRecDepth 30000 in
theorem inst_tbl : ∀ (c : Nat) (q : vw_C), vwCl[c]? = some q → Cond.instantiable q.1 q.2.2 ∈ lw_tbl := by
  intro c q h
  match c, h with
  | 0, h => cases h; exact tb_in 244 rfl
  | 1, h => cases h; exact tb_in 103 rfl
  | 2, h => cases h; exact tb_in 179 rfl
  | 3, h => cases h; exact tb_in 215 rfl
  | 4, h => cases h; exact tb_in 272 rfl
  | 5, h => cases h; exact tb_in 96 rfl
  | 6, h => cases h; exact tb_in 86 rfl
  | 7, h => cases h; exact tb_in 908 rfl
  | k + 8, h => simp [vwCl] at h
def tmS (i : Nat) : Term := .string RX3 (sIx i)
set_option maxRecDepth 30000 in
theorem bw_i : Cond.arrayClass .int ∈ lw_tbl := tb_in 131 rfl
set_option maxRecDepth 30000 in
theorem bw_l : Cond.arrayClass .long ∈ lw_tbl := tb_in 295 rfl
set_option maxRecDepth 30000 in
theorem bw_s : Cond.arrayOver (.object "DunkedBiscuits$Shelf") ∈ lw_tbl := tb_in 94 rfl
set_option maxRecDepth 30000 in
theorem bw_b : Cond.arrayOver (.object "DunkedBiscuits$Biscuit") ∈ lw_tbl := tb_in 102 rfl
set_option maxRecDepth 30000 in
theorem bz_ab : Cond.laysStatic "DunkedBiscuits" "ABOVE" "[I" ∈ lw_tbl := tb_in 434 rfl
set_option maxRecDepth 30000 in
theorem bn_ab : Cond.initialized "DunkedBiscuits" ∈ lw_tbl := tb_in 71 rfl
set_option maxRecDepth 30000 in
theorem bz_bo : Cond.laysStatic "DunkedBiscuits$Act" "BODIES" "[I" ∈ lw_tbl := tb_in 880 rfl
set_option maxRecDepth 30000 in
theorem bn_bo : Cond.initialized "DunkedBiscuits$Act" ∈ lw_tbl := tb_in 76 rfl
set_option maxRecDepth 30000 in
theorem bz_cs : Cond.laysStatic "java/lang/String" "COMPACT_STRINGS" "Z" ∈ lw_tbl := tb_in 540 rfl
set_option maxRecDepth 30000 in
theorem bn_cs : Cond.initialized "java/lang/String" ∈ lw_tbl := tb_in 80 rfl
set_option maxRecDepth 30000 in
theorem bz_sf : Cond.laysStatic "jdk/internal/util/Preconditions" "SIOOBE_FORMATTER" "Ljava/util/function/BiFunction;" ∈ lw_tbl := tb_in 560 rfl
set_option maxRecDepth 30000 in
theorem bn_sf : Cond.initialized "jdk/internal/util/Preconditions" ∈ lw_tbl := tb_in 82 rfl
set_option maxRecDepth 30000 in
theorem bs_tbl : ∀ i, i < 7 → Cond.stringRef RX3 (sIx i) (sTx i) ∈ lw_tbl := by
  intro i hi
  match i, hi with
  | 0, _ => exact tb_in 524 rfl
  | 1, _ => exact tb_in 525 rfl
  | 2, _ => exact tb_in 526 rfl
  | 3, _ => exact tb_in 527 rfl
  | 4, _ => exact tb_in 528 rfl
  | 5, _ => exact tb_in 529 rfl
  | 6, _ => exact tb_in 530 rfl
  | k + 7, h => exact absurd h (by omega)
theorem arr_of {U : State} {ty : FieldType} {cA : ClassId} {kA : Class} {comp : ClassId} (h2 : U.vm.classes[cA]? = some kA) (h3 : kA.kind = .array comp ty) : ArrOfT U cA ty := fun n z => ⟨fun k h => (by cases h), kA, h2, comp, h3⟩
set_option maxRecDepth 100000 in
theorem ev_start {b : Nat} {s : State} (hts : ∀ w ∈ lw_tbl, w.before #[Value.ref b] s = true) (hgv : (Jvm.Cond.and given_1 narrow_1).before #[Value.ref b] s = true) : ∃ E : EE, EV E s.heap.size s ∧ XW s := by
  have hA : ∀ a : Nat, a < s.heap.size → ¬ AA s.heap.size a := fun a h q => Nat.not_le.mpr h q
  have hs := flat_of_before _ hgv
  have hK0 : ∀ c : Nat, ∃ z : ClassId × (Nat → Nat), ∀ q, vwCl[c]? = some q → u_Kn s q.1 q.2.1 q.2.2 z.1 z.2 := by
    intro c
    cases hc : vwCl[c]? with
    | none => exact ⟨(0, fun _ => 0), fun q h => by cases h⟩
    | some q =>
      obtain ⟨cC, iS, h⟩ := u_known (ws := tbG) (fun w hw => hts w (List.mem_filter.mp hw).1) (cl_all c q hc).1 (hts _ (inst_tbl c q hc))
      exact ⟨(cC, iS), fun q' h' => by cases h'; exact h⟩
  obtain ⟨D, hD⟩ := Classical.axiomOfChoice hK0
  obtain ⟨cI, kI, pI, i1, i2, i3⟩ := Cond.arrayClass_spec (hts _ bw_i)
  obtain ⟨cL, kL, pL, l1, l2, l3⟩ := Cond.arrayClass_spec (hts _ bw_l)
  obtain ⟨pS, cS, kS, s1, -, s2, s3, s4⟩ := Cond.arrayOver_spec (hts _ bw_s)
  obtain ⟨pB, cB, kB, b1, -, b2, b3, b4⟩ := Cond.arrayOver_spec (hts _ bw_b)
  obtain ⟨aA, ha1, ha2⟩ := va_Tof (args := #[Value.ref b]) (s := s) (tm := .static "DunkedBiscuits" "ABOVE" "[I") (ty := .int) (N := 7) (f := fun j => .int (fAb j)) (A := AA s.heap.size) (by decide) (hs _ (by decide +kernel)) (va_eqt (hs _ (by decide +kernel))) (fun j hj => va_eqt (hs _ ((by decide +kernel : ∀ j, j < 7 → Cond.eq (.elem (.static "DunkedBiscuits" "ABOVE" "[I") (.int (Int32.ofNat j))) (.int (fAb j)) ∈ flatC (Jvm.Cond.and given_1 narrow_1)) j hj))) hA
  obtain ⟨aB, hb1, hb2⟩ := va_Tof (args := #[Value.ref b]) (s := s) (tm := .static "DunkedBiscuits$Act" "BODIES" "[I") (ty := .int) (N := 21) (f := fun j => .int (fBo j)) (A := AA s.heap.size) (by decide) (hs _ (by decide +kernel)) (va_eqt (hs _ (by decide +kernel))) (fun j hj => va_eqt (hs _ ((by decide +kernel : ∀ j, j < 21 → Cond.eq (.elem (.static "DunkedBiscuits$Act" "BODIES" "[I") (.int (Int32.ofNat j))) (.int (fBo j)) ∈ flatC (Jvm.Cond.and given_1 narrow_1)) j hj))) hA
  obtain ⟨adK, adV, hk1, hk2⟩ := vk_Sof (args := #[Value.ref b]) (s := s) (N := 7) (tm := tmS) (len := sLen) (byt := sByt) (A := AA s.heap.size) (by decide +kernel)
    (fun i hi => hs _ ((by decide +kernel : ∀ i, i < 7 → Cond.exactly (tmS i) "java/lang/String" ∈ flatC (Jvm.Cond.and given_1 narrow_1)) i hi))
    (fun i hi => hs _ ((by decide +kernel : ∀ i, i < 7 → Cond.eq (.field (tmS i) "java/lang/String" "coder" "B") (.int 0) ∈ flatC (Jvm.Cond.and given_1 narrow_1)) i hi))
    (fun i hi => hs _ ((by decide +kernel : ∀ i, i < 7 → Cond.arrayOf (.field (tmS i) "java/lang/String" "value" "[B") .byte ∈ flatC (Jvm.Cond.and given_1 narrow_1)) i hi))
    (fun i hi => hs _ ((by decide +kernel : ∀ i, i < 7 → Cond.eq (.length (.field (tmS i) "java/lang/String" "value" "[B")) (.int (Int32.ofNat (sLen.getD i 0))) ∈ flatC (Jvm.Cond.and given_1 narrow_1)) i hi))
    (fun i hi j hj => hs _ ((by decide +kernel : ∀ i, i < 7 → ∀ j, j < sLen.getD i 0 → Cond.eq (.elem (.field (tmS i) "java/lang/String" "value" "[B") (.int (Int32.ofNat j))) (.int ((sByt.getD i []).getD j 0)) ∈ flatC (Jvm.Cond.and given_1 narrow_1)) i hi j hj))
    (fun i j hi hj hij => by
      rcases (by decide +kernel : ∀ i, i < 7 → ∀ j, j < 7 → i = j ∨ Cond.not (Cond.eq (tmS i) (tmS j)) ∈ flatC (Jvm.Cond.and given_1 narrow_1) ∨ Cond.not (Cond.eq (tmS j) (tmS i)) ∈ flatC (Jvm.Cond.and given_1 narrow_1)) i hi j hj with h | h | h
      · exact absurd h hij
      · exact Or.inl (hs _ h)
      · exact Or.inr (hs _ h)) hA
  refine ⟨((fun c => (D c).1, fun c => (D c).2), (fun t => if t = 0 then cI else if t = 1 then cL else if t = 2 then cS else cB), aA, aB, adK, adV), ⟨fun w hw a => va_tabs (tg_ok hw).1 rfl (hts w (List.mem_filter.mp hw).1), fun w hw => va_Nw.of (tbN_tab w hw) (hts w (tbN_tbl w hw)), ⟨fun c q hq => hD c q hq, fun k q hq => ?_⟩, ⟨va_Zref (hts _ bz_ab) (hts _ bn_ab) ha1 hA, ha2, va_Zref (hts _ bz_bo) (hts _ bn_bo) hb1 hA, hb2⟩, fun i hi => vk_R.of (hts _ (bs_tbl i hi)) (hk2 i hi), hk1, va_Zof (hts _ bz_cs) (hts _ bn_cs) (va_eqi (hs _ (by decide +kernel))) hA, va_Zqof (hts _ bz_sf) (hts _ bn_sf) (hs _ (by decide +kernel)) hA⟩, fun a => hts _ bw_i, fun a => hts _ bw_l, va_AO.of (hts _ bw_s), va_AO.of (hts _ bw_b)⟩
  match k, hq with
  | 0, hq => cases hq; exact ⟨arr_of i2 i3, i1⟩
  | 1, hq => cases hq; exact ⟨arr_of l2 l3, l1⟩
  | 2, hq => cases hq; exact ⟨arr_of s2 s3, kS, pS, s2, s3, s1, s4⟩
  | 3, hq => cases hq; exact ⟨arr_of b2 b3, kB, pB, b2, b3, b1, b4⟩
  | k + 4, hq => simp [tysE] at hq

