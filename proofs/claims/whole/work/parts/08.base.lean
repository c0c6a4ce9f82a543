/-! answers; calls by what they answer -/
def Ri (post : Int32 → MM → Prop) : Option Value → MM → Prop := fun r M' => ∃ x, r = some (.int x) ∧ post x M'
def Rl (post : Int64 → MM → Prop) : Option Value → MM → Prop := fun r M' => ∃ x, r = some (.long x) ∧ post x M'
def Rv (post : MM → Prop) : Option Value → MM → Prop := fun r M' => r = none ∧ post M'
/-- a pure answer -/
def Rp (x : Int32) (M : MM) : Option Value → MM → Prop := Ri (fun r M' => r = x ∧ M' = M)
def bp (P : Prop) [Decidable P] : Int32 := if P then nI 1 else nI 0
theorem bp_01 {P : Prop} [Decidable P] : bp P = 0 ∨ bp P = 1 := by
  unfold bp
  by_cases h : P
  · rw [if_pos h]; exact Or.inr rfl
  · rw [if_neg h]; exact Or.inl rfl
theorem bp_t {P : Prop} [Decidable P] (h : P) : nI 1 = bp P := (if_pos h).symm
theorem bp_f {P : Prop} [Decidable P] (h : ¬ P) : nI 0 = bp P := (if_neg h).symm
theorem bp_iff {P Q : Prop} [Decidable P] [Decidable Q] (h : P ↔ Q) : bp P = bp Q := by
  unfold bp
  by_cases hq : Q
  · rw [if_pos hq, if_pos (h.mpr hq)]
  · rw [if_neg hq, if_neg (fun q => hq (h.mp q))]
theorem bp_eq0 {P : Prop} [Decidable P] : bp P = 0 ↔ ¬ P := by
  unfold bp
  by_cases h : P
  · rw [if_pos h]; exact ⟨fun q => absurd q (by decide), fun q => absurd h q⟩
  · rw [if_neg h]; exact ⟨fun _ => h, fun _ => rfl⟩
section BASE
variable {E : EE} {B : Nat} {code : ByteArray} {fk : FK} {pc : Nat} {lv : List (Nat × Value)} {st : List Value} {M : MM}
theorem g_if_eqP {P : Prop} [Decidable P] {off : Int} {tgt : Nat} (hd : decode code pc = .ok (.ifCond .eq off, 3)) (ht : (pc : Int) + off = (tgt : Int)) (k0 : ¬ P → G E B code fk tgt lv st M) (k1 : P → G E B code fk (pc + 3) lv st M) : G E B code fk pc lv (.int (bp P) :: st) M :=
  g_if_eq hd ht (fun q => k0 (bp_eq0.mp q)) (fun q => k1 (Classical.not_not.mp (fun z => q (bp_eq0.mpr z))))
theorem g_if_neP {P : Prop} [Decidable P] {off : Int} {tgt : Nat} (hd : decode code pc = .ok (.ifCond .ne off, 3)) (ht : (pc : Int) + off = (tgt : Int)) (k0 : P → G E B code fk tgt lv st M) (k1 : ¬ P → G E B code fk (pc + 3) lv st M) : G E B code fk pc lv (.int (bp P) :: st) M :=
  g_if_ne hd ht (fun q => k0 (Classical.not_not.mp (fun z => q (bp_eq0.mpr z)))) (fun q => k1 (bp_eq0.mp q))
/-! compares of small numbers -/
theorem g_icmp_ltN {x y : Int32} {a b : Nat} {off : Int} {tgt : Nat} (hd : decode code pc = .ok (.if_icmp .lt off, 3)) (ht : (pc : Int) + off = (tgt : Int)) (ea : x = nI a) (eb : y = nI b) (ha : a < 2 ^ 31) (hb : b < 2 ^ 31) (k0 : a < b → G E B code fk tgt lv st M) (k1 : b ≤ a → G E B code fk (pc + 3) lv st M) : G E B code fk pc lv (.int y :: .int x :: st) M := by
  subst ea; subst eb
  exact g_icmp_lt hd ht (fun q => k0 ((nI_ltI ha hb).mp q)) (fun q => k1 (Nat.not_lt.mp (fun z => q ((nI_ltI ha hb).mpr z))))
theorem g_icmp_geN {x y : Int32} {a b : Nat} {off : Int} {tgt : Nat} (hd : decode code pc = .ok (.if_icmp .ge off, 3)) (ht : (pc : Int) + off = (tgt : Int)) (ea : x = nI a) (eb : y = nI b) (ha : a < 2 ^ 31) (hb : b < 2 ^ 31) (k0 : b ≤ a → G E B code fk tgt lv st M) (k1 : a < b → G E B code fk (pc + 3) lv st M) : G E B code fk pc lv (.int y :: .int x :: st) M := by
  subst ea; subst eb
  exact g_icmp_ge hd ht (fun q => k0 ((nI_leI hb ha).mp q)) (fun q => k1 (Nat.not_le.mp (fun z => q ((nI_leI hb ha).mpr z))))
theorem g_icmp_gtN {x y : Int32} {a b : Nat} {off : Int} {tgt : Nat} (hd : decode code pc = .ok (.if_icmp .gt off, 3)) (ht : (pc : Int) + off = (tgt : Int)) (ea : x = nI a) (eb : y = nI b) (ha : a < 2 ^ 31) (hb : b < 2 ^ 31) (k0 : b < a → G E B code fk tgt lv st M) (k1 : a ≤ b → G E B code fk (pc + 3) lv st M) : G E B code fk pc lv (.int y :: .int x :: st) M := by
  subst ea; subst eb
  exact g_icmp_gt hd ht (fun q => k0 ((nI_ltI hb ha).mp q)) (fun q => k1 (Nat.not_lt.mp (fun z => q ((nI_ltI hb ha).mpr z))))
theorem g_icmp_leN {x y : Int32} {a b : Nat} {off : Int} {tgt : Nat} (hd : decode code pc = .ok (.if_icmp .le off, 3)) (ht : (pc : Int) + off = (tgt : Int)) (ea : x = nI a) (eb : y = nI b) (ha : a < 2 ^ 31) (hb : b < 2 ^ 31) (k0 : a ≤ b → G E B code fk tgt lv st M) (k1 : b < a → G E B code fk (pc + 3) lv st M) : G E B code fk pc lv (.int y :: .int x :: st) M := by
  subst ea; subst eb
  exact g_icmp_le hd ht (fun q => k0 ((nI_leI ha hb).mp q)) (fun q => k1 (Nat.not_le.mp (fun z => q ((nI_leI ha hb).mpr z))))
theorem g_icmp_eqN {x y : Int32} {a b : Nat} {off : Int} {tgt : Nat} (hd : decode code pc = .ok (.if_icmp .eq off, 3)) (ht : (pc : Int) + off = (tgt : Int)) (ea : x = nI a) (eb : y = nI b) (ha : a < 2 ^ 31) (hb : b < 2 ^ 31) (k0 : a = b → G E B code fk tgt lv st M) (k1 : ¬ a = b → G E B code fk (pc + 3) lv st M) : G E B code fk pc lv (.int y :: .int x :: st) M := by
  subst ea; subst eb
  exact g_icmp_eq hd ht (fun q => k0 ((nI_eq ha hb).mp q)) (fun q => k1 (fun z => q ((nI_eq ha hb).mpr z)))
theorem g_icmp_neN {x y : Int32} {a b : Nat} {off : Int} {tgt : Nat} (hd : decode code pc = .ok (.if_icmp .ne off, 3)) (ht : (pc : Int) + off = (tgt : Int)) (ea : x = nI a) (eb : y = nI b) (ha : a < 2 ^ 31) (hb : b < 2 ^ 31) (k0 : ¬ a = b → G E B code fk tgt lv st M) (k1 : a = b → G E B code fk (pc + 3) lv st M) : G E B code fk pc lv (.int y :: .int x :: st) M := by
  subst ea; subst eb
  exact g_icmp_ne hd ht (fun q => k0 (fun z => q ((nI_eq ha hb).mpr z))) (fun q => k1 ((nI_eq ha hb).mp q))
theorem z0 : (0 : Int32) = nI 0 := rfl
theorem g_if_eqN {x : Int32} {a : Nat} {off : Int} {tgt : Nat} (hd : decode code pc = .ok (.ifCond .eq off, 3)) (ht : (pc : Int) + off = (tgt : Int)) (ea : x = nI a) (ha : a < 2 ^ 31) (k0 : a = 0 → G E B code fk tgt lv st M) (k1 : 0 < a → G E B code fk (pc + 3) lv st M) : G E B code fk pc lv (.int x :: st) M := by
  subst ea
  exact g_if_eq hd ht (fun q => k0 ((nI_eq ha (by decide)).mp q)) (fun q => k1 (Nat.pos_of_ne_zero (fun z => q (by rw [z]; rfl))))
theorem g_if_neN {x : Int32} {a : Nat} {off : Int} {tgt : Nat} (hd : decode code pc = .ok (.ifCond .ne off, 3)) (ht : (pc : Int) + off = (tgt : Int)) (ea : x = nI a) (ha : a < 2 ^ 31) (k0 : 0 < a → G E B code fk tgt lv st M) (k1 : a = 0 → G E B code fk (pc + 3) lv st M) : G E B code fk pc lv (.int x :: st) M := by
  subst ea
  exact g_if_ne hd ht (fun q => k0 (Nat.pos_of_ne_zero (fun z => q (by rw [z]; rfl)))) (fun q => k1 ((nI_eq ha (by decide)).mp q))
theorem g_if_ltN {x : Int32} {a : Nat} {off : Int} {tgt : Nat} (hd : decode code pc = .ok (.ifCond .lt off, 3)) (ht : (pc : Int) + off = (tgt : Int)) (ea : x = nI a) (ha : a < 2 ^ 31) (k1 : G E B code fk (pc + 3) lv st M) : G E B code fk pc lv (.int x :: st) M := by
  subst ea
  exact g_if_lt hd ht (fun q => absurd q (nI_pos ha)) (fun _ => k1)
theorem g_if_geN {x : Int32} {a : Nat} {off : Int} {tgt : Nat} (hd : decode code pc = .ok (.ifCond .ge off, 3)) (ht : (pc : Int) + off = (tgt : Int)) (ea : x = nI a) (ha : a < 2 ^ 31) (k0 : G E B code fk tgt lv st M) : G E B code fk pc lv (.int x :: st) M := by
  subst ea
  exact g_if_ge hd ht (fun _ => k0) (fun q => absurd (nI_pos' ha) q)
theorem g_if_leN {x : Int32} {a : Nat} {off : Int} {tgt : Nat} (hd : decode code pc = .ok (.ifCond .le off, 3)) (ht : (pc : Int) + off = (tgt : Int)) (ea : x = nI a) (ha : a < 2 ^ 31) (k0 : a = 0 → G E B code fk tgt lv st M) (k1 : 0 < a → G E B code fk (pc + 3) lv st M) : G E B code fk pc lv (.int x :: st) M := by
  subst ea
  refine g_if_le hd ht (fun q => k0 ?_) (fun q => k1 ?_)
  · have := (nI_leI ha (by decide : 0 < 2 ^ 31)).mp q
    omega
  · exact Nat.pos_of_ne_zero (fun z => q (by rw [z]; decide))
theorem g_if_gtN {x : Int32} {a : Nat} {off : Int} {tgt : Nat} (hd : decode code pc = .ok (.ifCond .gt off, 3)) (ht : (pc : Int) + off = (tgt : Int)) (ea : x = nI a) (ha : a < 2 ^ 31) (k0 : 0 < a → G E B code fk tgt lv st M) (k1 : a = 0 → G E B code fk (pc + 3) lv st M) : G E B code fk pc lv (.int x :: st) M := by
  subst ea
  refine g_if_gt hd ht (fun q => k0 ?_) (fun q => k1 ?_)
  · exact (nI_ltI (by decide : 0 < 2 ^ 31) ha).mp q
  · exact Nat.eq_zero_of_not_pos (fun z => q ((nI_ltI (by decide : 0 < 2 ^ 31) ha).mpr z))
/-! calls by what they answer -/
section CALLS
variable {idx k ci d nL n : Nat} {y : MethodName} {host : String} {code2 : ByteArray} {ret2 : Option FieldType} {As st0 : List Value} {fs : List (Option Nat)}
theorem g_callVi {post : Int32 → MM → Prop} (hd : decode code pc = .ok (.invokevirtual idx, 3)) (hm : MI y code2 nL ret2 n) (hl : Cond.methodLink fk.1 idx y ∈ tbG) (hC : Ct E B y code2 nL ret2 d (.ref (B + k) :: As) M (Ri post)) (hk : plan[k]? = some (.inl (ci, fs))) (hc : (vwCl[ci]?).map (fun q => q.1) = some y.cls) (hn : As.length = n) (hst : st0 = As.reverse ++ .ref (B + k) :: st) (hw : (st.map fun v => v.category).sum ≤ 8)
    (hr : d + 1 ≤ fk.2.2.2.1.frames ∧ 8 + (nL + 11) + 40 * d ≤ fk.2.2.2.1.locals) (kk : ∀ (x : Int32) (M' : MM), post x M' → G E B code fk (pc + 3) lv (.int x :: st) M') : G E B code fk pc lv st0 M :=
  g_callV hd hm hl hC hk hc hn hst hw hr (fun r M' ⟨x, hx, hp⟩ => by subst hx; exact kk x M' hp)
theorem g_callVl {post : Int64 → MM → Prop} (hd : decode code pc = .ok (.invokevirtual idx, 3)) (hm : MI y code2 nL ret2 n) (hl : Cond.methodLink fk.1 idx y ∈ tbG) (hC : Ct E B y code2 nL ret2 d (.ref (B + k) :: As) M (Rl post)) (hk : plan[k]? = some (.inl (ci, fs))) (hc : (vwCl[ci]?).map (fun q => q.1) = some y.cls) (hn : As.length = n) (hst : st0 = As.reverse ++ .ref (B + k) :: st) (hw : (st.map fun v => v.category).sum ≤ 8)
    (hr : d + 1 ≤ fk.2.2.2.1.frames ∧ 8 + (nL + 11) + 40 * d ≤ fk.2.2.2.1.locals) (kk : ∀ (x : Int64) (M' : MM), post x M' → G E B code fk (pc + 3) lv (.long x :: st) M') : G E B code fk pc lv st0 M :=
  g_callV hd hm hl hC hk hc hn hst hw hr (fun r M' ⟨x, hx, hp⟩ => by subst hx; exact kk x M' hp)
theorem g_callVv {post : MM → Prop} (hd : decode code pc = .ok (.invokevirtual idx, 3)) (hm : MI y code2 nL ret2 n) (hl : Cond.methodLink fk.1 idx y ∈ tbG) (hC : Ct E B y code2 nL ret2 d (.ref (B + k) :: As) M (Rv post)) (hk : plan[k]? = some (.inl (ci, fs))) (hc : (vwCl[ci]?).map (fun q => q.1) = some y.cls) (hn : As.length = n) (hst : st0 = As.reverse ++ .ref (B + k) :: st) (hw : (st.map fun v => v.category).sum ≤ 8)
    (hr : d + 1 ≤ fk.2.2.2.1.frames ∧ 8 + (nL + 11) + 40 * d ≤ fk.2.2.2.1.locals) (kk : ∀ (M' : MM), post M' → G E B code fk (pc + 3) lv st M') : G E B code fk pc lv st0 M :=
  g_callV hd hm hl hC hk hc hn hst hw hr (fun r M' ⟨hx, hp⟩ => by subst hx; exact kk M' hp)
theorem g_callVp {x : Int32} (hd : decode code pc = .ok (.invokevirtual idx, 3)) (hm : MI y code2 nL ret2 n) (hl : Cond.methodLink fk.1 idx y ∈ tbG) (hC : Ct E B y code2 nL ret2 d (.ref (B + k) :: As) M (Rp x M)) (hk : plan[k]? = some (.inl (ci, fs))) (hc : (vwCl[ci]?).map (fun q => q.1) = some y.cls) (hn : As.length = n) (hst : st0 = As.reverse ++ .ref (B + k) :: st) (hw : (st.map fun v => v.category).sum ≤ 8)
    (hr : d + 1 ≤ fk.2.2.2.1.frames ∧ 8 + (nL + 11) + 40 * d ≤ fk.2.2.2.1.locals) (kk : G E B code fk (pc + 3) lv (.int x :: st) M) : G E B code fk pc lv st0 M :=
  g_callV hd hm hl hC hk hc hn hst hw hr (fun r M' ⟨x', hx, hp1, hp2⟩ => by subst hx; subst hp1; subst hp2; exact kk)
theorem g_callSp {x : Int32} (hd : decode code pc = .ok (.invokestatic idx, 3)) (hm : MS y code2 nL ret2 n) (hl : Cond.methodLink fk.1 idx y ∈ tbG) (hC : Ct E B y code2 nL ret2 d As M (Rp x M)) (hn : As.length = n) (hst : st0 = As.reverse ++ st) (hw : (st.map fun v => v.category).sum ≤ 8)
    (hr : d + 1 ≤ fk.2.2.2.1.frames ∧ 8 + (nL + 11) + 40 * d ≤ fk.2.2.2.1.locals) (kk : G E B code fk (pc + 3) lv (.int x :: st) M) : G E B code fk pc lv st0 M :=
  g_callS hd hm hl hC hn hst hw hr (fun r M' ⟨x', hx, hp1, hp2⟩ => by subst hx; subst hp1; subst hp2; exact kk)
theorem g_callSi {post : Int32 → MM → Prop} (hd : decode code pc = .ok (.invokestatic idx, 3)) (hm : MS y code2 nL ret2 n) (hl : Cond.methodLink fk.1 idx y ∈ tbG) (hC : Ct E B y code2 nL ret2 d As M (Ri post)) (hn : As.length = n) (hst : st0 = As.reverse ++ st) (hw : (st.map fun v => v.category).sum ≤ 8)
    (hr : d + 1 ≤ fk.2.2.2.1.frames ∧ 8 + (nL + 11) + 40 * d ≤ fk.2.2.2.1.locals) (kk : ∀ (x : Int32) (M' : MM), post x M' → G E B code fk (pc + 3) lv (.int x :: st) M') : G E B code fk pc lv st0 M :=
  g_callS hd hm hl hC hn hst hw hr (fun r M' ⟨x, hx, hp⟩ => by subst hx; exact kk x M' hp)
theorem g_callSNp {x : Int32} (hd : decode code pc = .ok (.invokestatic idx, 3)) (hm : MS y code2 nL ret2 n) (hl : Cond.methodLinkNest fk.1 idx y host ∈ tbN) (hC : Ct E B y code2 nL ret2 d As M (Rp x M)) (hn : As.length = n) (hst : st0 = As.reverse ++ st) (hw : (st.map fun v => v.category).sum ≤ 8)
    (hr : d + 1 ≤ fk.2.2.2.1.frames ∧ 8 + (nL + 11) + 40 * d ≤ fk.2.2.2.1.locals) (kk : G E B code fk (pc + 3) lv (.int x :: st) M) : G E B code fk pc lv st0 M :=
  g_callSN hd hm hl hC hn hst hw hr (fun r M' ⟨x', hx, hp1, hp2⟩ => by subst hx; subst hp1; subst hp2; exact kk)
theorem g_callSNi {post : Int32 → MM → Prop} (hd : decode code pc = .ok (.invokestatic idx, 3)) (hm : MS y code2 nL ret2 n) (hl : Cond.methodLinkNest fk.1 idx y host ∈ tbN) (hC : Ct E B y code2 nL ret2 d As M (Ri post)) (hn : As.length = n) (hst : st0 = As.reverse ++ st) (hw : (st.map fun v => v.category).sum ≤ 8)
    (hr : d + 1 ≤ fk.2.2.2.1.frames ∧ 8 + (nL + 11) + 40 * d ≤ fk.2.2.2.1.locals) (kk : ∀ (x : Int32) (M' : MM), post x M' → G E B code fk (pc + 3) lv (.int x :: st) M') : G E B code fk pc lv st0 M :=
  g_callSN hd hm hl hC hn hst hw hr (fun r M' ⟨x, hx, hp⟩ => by subst hx; exact kk x M' hp)
end CALLS
end BASE
/-! a contract may say less -/
theorem Ct.weaken {E : EE} {B : Nat} {y : MethodName} {code : ByteArray} {nL : Nat} {ret : Option FieldType} {d : Nat} {As : List Value} {M : MM} {F F' : Option Value → MM → Prop} (h : Ct E B y code nL ret d As M F) (hF : ∀ r M', F r M' → F' r M') : Ct E B y code nL ret d As M F' := by
  intro l p e ha hc hk s m args below h1 h2 h3 h4
  obtain ⟨t, o, a1, a2, a3, a4, a5⟩ := h l p e ha hc hk s m args below h1 h2 h3 h4
  refine ⟨t, o, a1, a2, a3, ?_, a5⟩
  obtain ⟨⟨r, M', b1, b2, b3⟩, b4⟩ := a4
  exact ⟨⟨r, M', b1, hF r M' b2, b3⟩, b4⟩
/-! the plan's objects -/
def isB (k : Nat) : Prop := plan[k]? = some (.inl (1, [none, none, none, some (k + 1)])) ∧ plan[k + 1]? = some (.inr (.inl (12, false)))
def isD (k : Nat) : Prop := plan[k]? = some (.inl (2, [some (k + 1), none, none, none, none, none, none])) ∧ isB (k + 1)
def isS (k : Nat) : Prop := plan[k]? = some (.inl (5, [some (k + 1), some (k + 2), none, none, none, none, none, none, none, none])) ∧ plan[k + 1]? = some (.inr (.inr (3, [k + 3, k + 5, k + 7, k + 9, k + 11, k + 13]))) ∧ plan[k + 2]? = some (.inr (.inl (10, false))) ∧ ∀ q, q < 6 → isB (k + 3 + 2 * q)
def isH (k : Nat) : Prop := plan[k]? = some (.inl (4, [some (k + 1), none, none, none])) ∧ plan[k + 1]? = some (.inr (.inl (160, true)))
theorem isS_b {k q : Nat} (h : q < 6) : ([k + 3, k + 5, k + 7, k + 9, k + 11, k + 13] : List Nat)[q]? = some (k + 3 + 2 * q) := by
  match q, h with
  | 0, _ => rfl
  | 1, _ => rfl
  | 2, _ => rfl
  | 3, _ => rfl
  | 4, _ => rfl
  | 5, _ => rfl
theorem isB_n {k : Nat} (h : plan[k]? = some (.inl (1, [none, none, none, some (k + 1)])) ∧ plan[k + 1]? = some (.inr (.inl (12, false)))) : isB k := h
theorem isS_2 : isS 2 := ⟨rfl, rfl, rfl, by
  intro q hq
  match q, hq with
  | 0, _ => exact ⟨rfl, rfl⟩
  | 1, _ => exact ⟨rfl, rfl⟩
  | 2, _ => exact ⟨rfl, rfl⟩
  | 3, _ => exact ⟨rfl, rfl⟩
  | 4, _ => exact ⟨rfl, rfl⟩
  | 5, _ => exact ⟨rfl, rfl⟩⟩
theorem isS_17 : isS 17 := ⟨rfl, rfl, rfl, by
  intro q hq
  match q, hq with
  | 0, _ => exact ⟨rfl, rfl⟩
  | 1, _ => exact ⟨rfl, rfl⟩
  | 2, _ => exact ⟨rfl, rfl⟩
  | 3, _ => exact ⟨rfl, rfl⟩
  | 4, _ => exact ⟨rfl, rfl⟩
  | 5, _ => exact ⟨rfl, rfl⟩⟩
theorem isS_32 : isS 32 := ⟨rfl, rfl, rfl, by
  intro q hq
  match q, hq with
  | 0, _ => exact ⟨rfl, rfl⟩
  | 1, _ => exact ⟨rfl, rfl⟩
  | 2, _ => exact ⟨rfl, rfl⟩
  | 3, _ => exact ⟨rfl, rfl⟩
  | 4, _ => exact ⟨rfl, rfl⟩
  | 5, _ => exact ⟨rfl, rfl⟩⟩
theorem isD_47 : isD 47 := ⟨rfl, rfl, rfl⟩
theorem isD_50 : isD 50 := ⟨rfl, rfl, rfl⟩
theorem isB_58 : isB 58 := ⟨rfl, rfl⟩
theorem isH_n {q : Nat} (h : q < 8) : isH (64 + 2 * q) := by
  match q, h with
  | 0, _ => exact ⟨rfl, rfl⟩
  | 1, _ => exact ⟨rfl, rfl⟩
  | 2, _ => exact ⟨rfl, rfl⟩
  | 3, _ => exact ⟨rfl, rfl⟩
  | 4, _ => exact ⟨rfl, rfl⟩
  | 5, _ => exact ⟨rfl, rfl⟩
  | 6, _ => exact ⟨rfl, rfl⟩
  | 7, _ => exact ⟨rfl, rfl⟩
theorem isH_s {q : Nat} (h : q < 8) : ([64, 66, 68, 70, 72, 74, 76, 78] : List Nat)[q]? = some (64 + 2 * q) := by
  match q, h with
  | 0, _ => rfl
  | 1, _ => rfl
  | 2, _ => rfl
  | 3, _ => rfl
  | 4, _ => rfl
  | 5, _ => rfl
  | 6, _ => rfl
  | 7, _ => rfl
