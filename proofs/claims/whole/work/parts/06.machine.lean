/-! THE LIGHT JUDGEMENT: a frame of a method over a memory M whose objects lie at B, B + 1, .. by a fixed plan -/
theorem tb_in {w : Cond} (i : Nat) (h : lw_tbl[i]? = some w) : w ∈ lw_tbl := List.mem_of_getElem? h
/-- the words that stand for every caller, whatever the arguments -/
def tbG : List Cond := lw_tbl.filter (fun w => w.onTables && w.keeps)
theorem tg_in {w : Cond} (i : Nat) (h : lw_tbl[i]? = some w) (hg : (w.onTables && w.keeps) = true) : w ∈ tbG := List.mem_filter.mpr ⟨List.mem_of_getElem? h, hg⟩
theorem tg_ok {w : Cond} (h : w ∈ tbG) : w.onTables = true ∧ w.keeps = true := by
  have h1 := (List.mem_filter.mp h).2
  simpa using h1
/-- memory: ints and longs by address and place -/
abbrev MM : Type := (Nat → Nat → Int32) × (Nat → Nat → Int64)
def upR (M : MM) (a : Nat) (f : Nat → Int32) : MM := (fun q => if q = a then f else M.1 q, M.2)
def upRL (M : MM) (a : Nat) (f : Nat → Int64) : MM := (M.1, fun q => if q = a then f else M.2 q)
def upI (M : MM) (a k : Nat) (x : Int32) : MM := upR M a (upd (M.1 a) k x)
def upL (M : MM) (a k : Nat) (x : Int64) : MM := upRL M a (vp_updL (M.2 a) k x)
theorem upR_s {M : MM} {a : Nat} {f : Nat → Int32} : (upR M a f).1 a = f := by simp [upR]
theorem upR_n {M : MM} {a q : Nat} {f : Nat → Int32} (h : q ≠ a) : (upR M a f).1 q = M.1 q := by simp [upR, h]
theorem upR_l {M : MM} {a : Nat} {f : Nat → Int32} : (upR M a f).2 = M.2 := rfl
theorem upRL_s {M : MM} {a : Nat} {f : Nat → Int64} : (upRL M a f).2 a = f := by simp [upRL]
theorem upRL_n {M : MM} {a q : Nat} {f : Nat → Int64} (h : q ≠ a) : (upRL M a f).2 q = M.2 q := by simp [upRL, h]
theorem upRL_i {M : MM} {a : Nat} {f : Nat → Int64} : (upRL M a f).1 = M.1 := rfl
theorem upI_s {M : MM} {a k : Nat} {x : Int32} : (upI M a k x).1 a k = x := by simp [upI, upR, upd]
theorem upI_k {M : MM} {a k j : Nat} {x : Int32} (h : j ≠ k) : (upI M a k x).1 a j = M.1 a j := by simp [upI, upR, upd, h]
theorem upI_n {M : MM} {a k q : Nat} {x : Int32} (h : q ≠ a) : (upI M a k x).1 q = M.1 q := by simp [upI, upR, h]
theorem upI_l {M : MM} {a k : Nat} {x : Int32} : (upI M a k x).2 = M.2 := rfl
theorem upL_s {M : MM} {a k : Nat} {x : Int64} : (upL M a k x).2 a k = x := by simp [upL, upRL, vp_updL]
theorem upL_k {M : MM} {a k j : Nat} {x : Int64} (h : j ≠ k) : (upL M a k x).2 a j = M.2 a j := by simp [upL, upRL, vp_updL, h]
theorem upL_n {M : MM} {a k q : Nat} {x : Int64} (h : q ≠ a) : (upL M a k x).2 q = M.2 q := by simp [upL, upRL, h]
theorem upL_i {M : MM} {a k : Nat} {x : Int64} : (upL M a k x).1 = M.1 := rfl
/-- an entry of the plan: an object (its class, its fields: an int, or the place of an object), a row of ints or longs, a row of objects -/
abbrev LE : Type := (Nat × List (Option Nat)) ⊕ ((Nat × Bool) ⊕ (Nat × List Nat))
abbrev EE : Type := va_G × (Nat → ClassId) × Nat × Nat × (Nat → Nat) × (Nat → Nat)
def fldV (B : Nat) (M : MM) (k j : Nat) : Option Nat → Value
  | none => .int (M.1 (B + k) j)
  | some r => .ref (B + r)
def entV (E : EE) (B : Nat) (M : MM) (k : Nat) : LE → va_E
  | .inl (ci, fs) => .inr (ci, fs.mapIdx (fldV B M k))
  | .inr (.inl (n, false)) => .inl (E.2.1 0, n, .inl (M.1 (B + k)))
  | .inr (.inl (n, true)) => .inl (E.2.1 1, n, .inr (.inl (M.2 (B + k))))
  | .inr (.inr (t, rs)) => .inl (E.2.1 t, rs.length, .inr (.inr (.inr (.inr (fun i => rs[i]?.map (fun r => B + r))))))
def plan : List LE := [
  .inl (6, [some 1, some 2, some 17, some 32, some 47, some 50, some 53, some 56, some 58, some 60, some 61, some 62, some 63, none, none]),
  .inr (.inr (2, [64, 66, 68, 70, 72, 74, 76, 78])),
  .inl (5, [some 3, some 4, none, none, none, none, none, none, none, none]),
  .inr (.inr (3, [5, 7, 9, 11, 13, 15])),
  .inr (.inl (10, false)),
  .inl (1, [none, none, none, some 6]),
  .inr (.inl (12, false)),
  .inl (1, [none, none, none, some 8]),
  .inr (.inl (12, false)),
  .inl (1, [none, none, none, some 10]),
  .inr (.inl (12, false)),
  .inl (1, [none, none, none, some 12]),
  .inr (.inl (12, false)),
  .inl (1, [none, none, none, some 14]),
  .inr (.inl (12, false)),
  .inl (1, [none, none, none, some 16]),
  .inr (.inl (12, false)),
  .inl (5, [some 18, some 19, none, none, none, none, none, none, none, none]),
  .inr (.inr (3, [20, 22, 24, 26, 28, 30])),
  .inr (.inl (10, false)),
  .inl (1, [none, none, none, some 21]),
  .inr (.inl (12, false)),
  .inl (1, [none, none, none, some 23]),
  .inr (.inl (12, false)),
  .inl (1, [none, none, none, some 25]),
  .inr (.inl (12, false)),
  .inl (1, [none, none, none, some 27]),
  .inr (.inl (12, false)),
  .inl (1, [none, none, none, some 29]),
  .inr (.inl (12, false)),
  .inl (1, [none, none, none, some 31]),
  .inr (.inl (12, false)),
  .inl (5, [some 33, some 34, none, none, none, none, none, none, none, none]),
  .inr (.inr (3, [35, 37, 39, 41, 43, 45])),
  .inr (.inl (10, false)),
  .inl (1, [none, none, none, some 36]),
  .inr (.inl (12, false)),
  .inl (1, [none, none, none, some 38]),
  .inr (.inl (12, false)),
  .inl (1, [none, none, none, some 40]),
  .inr (.inl (12, false)),
  .inl (1, [none, none, none, some 42]),
  .inr (.inl (12, false)),
  .inl (1, [none, none, none, some 44]),
  .inr (.inl (12, false)),
  .inl (1, [none, none, none, some 46]),
  .inr (.inl (12, false)),
  .inl (2, [some 48, none, none, none, none, none, none]),
  .inl (1, [none, none, none, some 49]),
  .inr (.inl (12, false)),
  .inl (2, [some 51, none, none, none, none, none, none]),
  .inl (1, [none, none, none, some 52]),
  .inr (.inl (12, false)),
  .inl (3, [some 32, some 47, some 54, some 55, none, none, none]),
  .inr (.inl (160, false)),
  .inr (.inl (3, false)),
  .inl (0, [some 57, none, none, none, none]),
  .inr (.inl (20, false)),
  .inl (1, [none, none, none, some 59]),
  .inr (.inl (12, false)),
  .inr (.inl (8, false)),
  .inr (.inl (25, false)),
  .inr (.inl (5, false)),
  .inr (.inl (5, false)),
  .inl (4, [some 65, none, none, none]),
  .inr (.inl (160, true)),
  .inl (4, [some 67, none, none, none]),
  .inr (.inl (160, true)),
  .inl (4, [some 69, none, none, none]),
  .inr (.inl (160, true)),
  .inl (4, [some 71, none, none, none]),
  .inr (.inl (160, true)),
  .inl (4, [some 73, none, none, none]),
  .inr (.inl (160, true)),
  .inl (4, [some 75, none, none, none]),
  .inr (.inl (160, true)),
  .inl (4, [some 77, none, none, none]),
  .inr (.inl (160, true)),
  .inl (4, [some 79, none, none, none]),
  .inr (.inl (160, true)),
  .inl (7, [none, none, none, none, none, none, none, none, none, some 81, some 82, some 83, some 84, some 85, some 86, some 87, some 88, some 89, some 90, some 91, some 92, some 93, some 94, none, none, none, none, none, some 95, some 96, some 97, some 98, none, none, none, none, none, some 99, some 100, none, some 101, none, none]),
  .inr (.inl (8, false)),
  .inr (.inl (6, false)),
  .inr (.inl (6, false)),
  .inr (.inl (6, false)),
  .inr (.inl (72, false)),
  .inr (.inl (10, false)),
  .inr (.inl (8, false)),
  .inr (.inl (8, false)),
  .inr (.inl (8, false)),
  .inr (.inl (8, false)),
  .inr (.inl (1280, true)),
  .inr (.inl (160, true)),
  .inr (.inl (43, false)),
  .inr (.inl (3, false)),
  .inr (.inl (120, false)),
  .inr (.inl (120, false)),
  .inr (.inl (12, false)),
  .inr (.inl (12, false)),
  .inr (.inl (5, false)),
  .inr (.inl (5, false)),
  .inr (.inl (20, false))]
def wld (E : EE) (B : Nat) (M : MM) : va_W := plan.mapIdx (fun k le => (B + k, entV E B M k le))
def AA (B : Nat) : Nat → Prop := fun q => B ≤ q
def tysE (E : EE) : List (ClassId × FieldType) := [(E.2.1 0, .int), (E.2.1 1, .long), (E.2.1 2, .object "DunkedBiscuits$Shelf"), (E.2.1 3, .object "DunkedBiscuits$Biscuit")]
def tbN : List Cond := [
  Cond.methodLinkNest "DunkedBiscuits$State" (34 : Nat) ({ cls := "DunkedBiscuits$Biscuit", name := "<init>", desc := "()V" } : MethodName) "DunkedBiscuits",
  Cond.methodLinkNest "DunkedBiscuits" (30 : Nat) ({ cls := "DunkedBiscuits$Dunk", name := "<init>", desc := "()V" } : MethodName) "DunkedBiscuits",
  Cond.methodLinkNest "DunkedBiscuits$Dunk" (11 : Nat) ({ cls := "DunkedBiscuits$Biscuit", name := "<init>", desc := "()V" } : MethodName) "DunkedBiscuits",
  Cond.methodLinkNest "DunkedBiscuits" (49 : Nat) ({ cls := "DunkedBiscuits$Act", name := "<init>", desc := "()V" } : MethodName) "DunkedBiscuits",
  Cond.methodLinkNest "DunkedBiscuits" (56 : Nat) ({ cls := "DunkedBiscuits$Biscuit", name := "<init>", desc := "()V" } : MethodName) "DunkedBiscuits",
  Cond.methodLinkNest "DunkedBiscuits" (78 : Nat) ({ cls := "DunkedBiscuits$Shelf", name := "<init>", desc := "()V" } : MethodName) "DunkedBiscuits",
  Cond.fieldLinkNest "DunkedBiscuits$Biscuit" (34 : Nat) "DunkedBiscuits" "ABOVE" "[I" "DunkedBiscuits",
  Cond.methodLinkNest "DunkedBiscuits$Reader" (101 : Nat) ({ cls := "DunkedBiscuits", name := "isWithin", desc := "(III)Z" } : MethodName) "DunkedBiscuits",
  Cond.methodLinkNest "DunkedBiscuits$State" (78 : Nat) ({ cls := "DunkedBiscuits", name := "isWithin", desc := "(III)Z" } : MethodName) "DunkedBiscuits",
  Cond.methodLinkNest "DunkedBiscuits" (327 : Nat) ({ cls := "DunkedBiscuits$Act", name := "run", desc := "(LDunkedBiscuits$Act;IIII)I" } : MethodName) "DunkedBiscuits",
  Cond.methodLinkNest "DunkedBiscuits$Act" (43 : Nat) ({ cls := "DunkedBiscuits", name := "isWithin", desc := "(III)Z" } : MethodName) "DunkedBiscuits",
  Cond.fieldLinkNest "DunkedBiscuits$Act" (26 : Nat) "DunkedBiscuits" "ABOVE" "[I" "DunkedBiscuits"]
def fAb : Nat → Int32 := fun j => ([-1, 0, 0, 1, 0, 2, 4] : List Int32).getD j 0
def fBo : Nat → Int32 := fun j => ([10, 11, 12, 20, 0, 0, 0, 30, 0, 0, 40, 0, 51, 0, 50, 0, 0, 60, 70, 71, 0] : List Int32).getD j 0
def sIx : Nat → Nat := fun i => ([108, 110, 112, 114, 116, 118, 120] : List Nat).getD i 0
def sTx : Nat → String := fun i => (["biscuit", "wet", "heat", "loss", "tea", "worth", "dip"] : List String).getD i ""
def sLen : List Nat := [7, 3, 4, 4, 3, 5, 3]
def sByt : List (List Int32) := [[98, 105, 115, 99, 117, 105, 116], [119, 101, 116], [104, 101, 97, 116], [108, 111, 115, 115], [116, 101, 97], [119, 111, 114, 116, 104], [100, 105, 112]]
def EV (E : EE) (B : Nat) (s : State) : Prop :=
  (∀ w ∈ tbG, ∀ a, w.before a s = true) ∧ (∀ w ∈ tbN, va_Nw w s) ∧ va_K E.1 vwCl (tysE E) s ∧
  (va_Z "DunkedBiscuits" "ABOVE" "[I" (.ref E.2.2.1) (AA B) s s.heap ∧ va_T .int E.2.2.1 7 (fun j => .int (fAb j)) (AA B) s s.heap ∧
   va_Z "DunkedBiscuits$Act" "BODIES" "[I" (.ref E.2.2.2.1) (AA B) s s.heap ∧ va_T .int E.2.2.2.1 21 (fun j => .int (fBo j)) (AA B) s s.heap) ∧
  ((∀ i, i < 7 → vk_R RX3 (sIx i) (sTx i) (E.2.2.2.2.1 i) s) ∧ vk_S 7 sLen sByt E.2.2.2.2.1 E.2.2.2.2.2 (AA B) s s.heap ∧
   va_Z "java/lang/String" "COMPACT_STRINGS" "Z" (.int 1) (AA B) s s.heap ∧ va_Zq "jdk/internal/util/Preconditions" "SIOOBE_FORMATTER" "Ljava/util/function/BiFunction;" (AA B) s s.heap)
theorem tbN_warm : ∀ w ∈ tbN, ∀ {s U : State}, s.WarmedH U.vm → va_Nw w s → va_Nw w U := by
  intro w hw s U hW h
  simp only [tbN, List.mem_cons, List.not_mem_nil, or_false] at hw
  rcases hw with rfl | rfl | rfl | rfl | rfl | rfl | rfl | rfl | rfl | rfl | rfl | rfl <;> first | exact va_Nw.warmM hW h | exact va_Nw.warmF hW h
theorem tbN_tab : ∀ w ∈ tbN, w.onTables = true := by decide +kernel
theorem EV.same {E : EE} {B : Nat} {u U : State} (hv : u.vm = U.vm) (hh : u.heap = U.heap) (h : EV E B u) : EV E B U := by
  obtain ⟨h1, h2, h3, ⟨h4, h5, h6, h7⟩, h8, h9, h10, h11⟩ := h
  have ha : u.vm.Alike U.vm := by rw [hv]; exact Vm.Alike.refl _
  refine ⟨fun w hw a => va_tabs (tg_ok hw).1 hv (h1 w hw a), fun w hw => va_Nw.same (tbN_tab w hw) hv (h2 w hw), va_K.moved ha h3, ⟨?_, ?_, ?_, ?_⟩, fun i hi => vk_R.same hv.symm (h8 i hi), ?_, ?_, ?_⟩
  · rw [← hh]; exact va_Z.moved ha h4
  · rw [← hh]; exact va_T.moved ha h5
  · rw [← hh]; exact va_Z.moved ha h6
  · rw [← hh]; exact va_T.moved ha h7
  · rw [← hh]; exact vk_S.moved ha h9
  · rw [← hh]; exact va_Z.moved ha h10
  · rw [← hh]; exact va_Zq.moved ha h11
theorem EV.warm {E : EE} {B : Nat} {s U : State} {H : Heap} {locs : List Loc} (hW : s.WarmedH U.vm) (hU : U.heap = H) (hS : va_S (AA B) s.heap H locs) (h : EV E B s) : EV E B U := by
  obtain ⟨h1, h2, h3, ⟨h4, h5, h6, h7⟩, h8, h9, h10, h11⟩ := h
  have hq : ∀ a : Nat, a < s.heap.size → ¬ AA B a → U.heap[a]? = s.heap[a]? := fun a x y => by rw [hU]; exact hS.2.1 a x y
  refine ⟨fun w hw a => word_at hW (Or.inl (by simp [tg_ok hw])) (h1 w hw a), fun w hw => tbN_warm w hw hW (h2 w hw), va_K.moved hW.alike h3, ⟨?_, ?_, ?_, ?_⟩, fun i hi => vk_R.warm hW (h8 i hi), ?_, ?_, ?_⟩
  · exact (va_Z.moved hW.alike h4).kept hq
  · exact (va_T.moved hW.alike h5).kept hq
  · exact (va_Z.moved hW.alike h6).kept hq
  · exact (va_T.moved hW.alike h7).kept hq
  · exact (vk_S.moved hW.alike h9).kept hq
  · exact (va_Z.moved hW.alike h10).kept hq
  · exact (va_Zq.moved hW.alike h11).kept hq
def Rep (E : EE) (B : Nat) (M : MM) (H : Heap) : Prop := va_P E.1 vwCl (wld E B M) H
theorem wld_at {E : EE} {B : Nat} {M : MM} {k : Nat} {le : LE} (h : plan[k]? = some le) : (wld E B M)[k]? = some (B + k, entV E B M k le) := by
  simp [wld, List.getElem?_mapIdx, h]
theorem wld_D {E : EE} {B : Nat} {M : MM} : va_D (AA B) (wld E B M) := by
  have key : ∀ (k : Nat) (q : Nat × va_E), (wld E B M)[k]? = some q → q.1 = B + k := by
    intro k q h
    simp only [wld, List.getElem?_mapIdx, Option.map_eq_some_iff] at h
    obtain ⟨le, -, rfl⟩ := h
    rfl
  refine ⟨fun i j p q hi hj e => ?_, fun k q h => ?_⟩
  · rw [key i p hi, key j q hj] at e
    omega
  · rw [key k q h]
    exact Nat.le_add_right _ _
theorem entV_off {E : EE} {B : Nat} {M M' : MM} {k : Nat} (h1 : M'.1 (B + k) = M.1 (B + k)) (h2 : M'.2 (B + k) = M.2 (B + k)) (le : LE) : entV E B M' k le = entV E B M k le := by
  match le with
  | .inl (ci, fs) =>
    simp only [entV]
    congr 2
    apply List.ext_getElem? 
    intro i
    simp only [List.getElem?_mapIdx]
    cases fs[i]? with
    | none => rfl
    | some o => cases o <;> simp [fldV, h1]
  | .inr (.inl (n, false)) => simp [entV, h1]
  | .inr (.inl (n, true)) => simp [entV, h2]
  | .inr (.inr (t, rs)) => rfl
theorem wld_set {E : EE} {B : Nat} {M M' : MM} {k : Nat} {le : LE} {e : va_E} (h : plan[k]? = some le) (he : entV E B M' k le = e) (ho : ∀ q, q ≠ k → M'.1 (B + q) = M.1 (B + q) ∧ M'.2 (B + q) = M.2 (B + q)) : (wld E B M).set k (B + k, e) = wld E B M' := by
  subst he
  apply List.ext_getElem?
  intro i
  have hl : k < plan.length := (List.getElem?_eq_some_iff.mp h).1
  by_cases hi : i = k
  · subst hi
    rw [wld_at h, List.getElem?_set_self (by simp [wld]; exact hl)]
  · rw [List.getElem?_set_ne (Ne.symm hi)]
    simp only [wld, List.getElem?_mapIdx]
    cases plan[i]? with
    | none => rfl
    | some le2 => simp [entV_off (ho i hi).1 (ho i hi).2]
/-! locals: the last written first -/
def lvGet : List (Nat × Value) → Nat → Option Value
  | [], _ => none
  | (j, v) :: t, i => bif Nat.beq j i then some v else bif (Nat.beq v.category 2 && Nat.beq (j + 1) i) then none else lvGet t i
def okS (lv : List (Nat × Value)) (i : Nat) : Bool := match i with
  | 0 => true
  | j + 1 => match lvGet lv j with
    | some v => Nat.beq v.category 1
    | none => true
def LV (ls : Array Slot) (nL : Nat) (lv : List (Nat × Value)) : Prop := ls.size = nL ∧ lv_wf ls ∧ ∀ i v, lvGet lv i = some v → ls[i]? = some (.val v)
theorem lvGet_mem : ∀ {lv : List (Nat × Value)} {i : Nat} {v : Value}, lvGet lv i = some v → (i, v) ∈ lv
  | (j, w) :: t, i, v, h => by
    simp only [lvGet] at h
    cases e : Nat.beq j i with
    | true =>
      rw [e] at h
      have := Nat.eq_of_beq_eq_true e
      simp at h
      subst this; subst h
      exact List.mem_cons_self
    | false =>
      rw [e] at h
      cases e2 : (Nat.beq w.category 2 && Nat.beq (j + 1) i) with
      | true => rw [e2] at h; simp at h
      | false => rw [e2] at h; exact List.mem_cons_of_mem _ (lvGet_mem h)
theorem LV.of {ls : Array Slot} {nL : Nat} {l : List (Nat × Value)} (h : lv_has ls nL l) : LV ls nL l := ⟨h.1, h.2.1, fun i v hv => h.2.2 (i, v) (lvGet_mem hv)⟩
def visL (nL : Nat) (lv : List (Nat × Value)) : List (Nat × Value) := (List.range nL).filterMap (fun j => (lvGet lv j).map (fun w => (j, w)))
theorem visL_mem {nL : Nat} {lv : List (Nat × Value)} {j : Nat} {w : Value} : (j, w) ∈ visL nL lv ↔ j < nL ∧ lvGet lv j = some w := by
  simp only [visL, List.mem_filterMap, List.mem_range, Option.map_eq_some_iff, Prod.mk.injEq]
  constructor
  · rintro ⟨a, h1, b, h2, h3, h4⟩
    subst h3; subst h4
    exact ⟨h1, h2⟩
  · rintro ⟨h1, h2⟩
    exact ⟨j, h1, w, h2, rfl, rfl⟩
theorem LV.has {ls : Array Slot} {nL : Nat} {lv : List (Nat × Value)} (h : LV ls nL lv) : lv_has ls nL (visL nL lv) := by
  refine ⟨h.1, h.2.1, ?_⟩
  rintro ⟨j, w⟩ hq
  exact h.2.2 j w (visL_mem.mp hq).2
theorem LV.lt {ls : Array Slot} {nL : Nat} {lv : List (Nat × Value)} (h : LV ls nL lv) {i : Nat} {v : Value} (hv : lvGet lv i = some v) : i < nL := by
  rw [← h.1]
  exact (Array.getElem?_eq_some_iff.mp (h.2.2 i v hv)).1
theorem LV.st1 {ls ls' : Array Slot} {nL : Nat} {lv : List (Nat × Value)} {i : Nat} {v : Value} (hc : v.category = 1) (h : LV ls nL lv) (hk : okS lv i = true) (h' : lv_has ls' nL ((i, v) :: (visL nL lv).filter (fun q => !(q.1 == i) && !(q.1 + 1 == i && q.2.category == 2)))) : LV ls' nL ((i, v) :: lv) := by
  refine ⟨h'.1, h'.2.1, fun j w hw => ?_⟩
  simp only [lvGet, hc] at hw
  cases e : Nat.beq i j with
  | true =>
    rw [e] at hw
    have := Nat.eq_of_beq_eq_true e
    subst this
    simp at hw
    subst hw
    exact h'.2.2 (i, v) List.mem_cons_self
  | false =>
    rw [e] at hw
    simp at hw
    refine h'.2.2 (j, w) (List.mem_cons_of_mem _ (List.mem_filter.mpr ⟨visL_mem.mpr ⟨h.lt hw, hw⟩, ?_⟩))
    have hne : ¬ j = i := fun q => by rw [q] at e; simp at e
    simp only [Bool.and_eq_true, Bool.not_eq_true', beq_eq_false_iff_ne, ne_eq, Bool.and_eq_false_iff]
    refine ⟨hne, ?_⟩
    by_cases h2 : j + 1 = i
    · right
      subst h2
      have hw : lvGet lv j = some w := hw
      have hk3 : (match lvGet lv j with
        | some v => Nat.beq v.category 1
        | none => true) = true := hk
      rw [hw] at hk3
      have hk2 : Nat.beq w.category 1 = true := hk3
      have := Nat.eq_of_beq_eq_true hk2
      omega
    · exact Or.inl h2
theorem LV.st2 {ls ls' : Array Slot} {nL : Nat} {lv : List (Nat × Value)} {i : Nat} {x : Int64} (h : LV ls nL lv) (hk : okS lv i = true) (h' : lv_has ls' nL ((i, .long x) :: (visL nL lv).filter (fun q => !(q.1 == i) && (!(q.1 == i + 1) && !(q.1 + 1 == i && q.2.category == 2))))) : LV ls' nL ((i, .long x) :: lv) := by
  refine ⟨h'.1, h'.2.1, fun j w hw => ?_⟩
  simp only [lvGet] at hw
  cases e : Nat.beq i j with
  | true =>
    rw [e] at hw
    have := Nat.eq_of_beq_eq_true e
    subst this
    simp at hw
    subst hw
    exact h'.2.2 (i, .long x) List.mem_cons_self
  | false =>
    rw [e] at hw
    cases e2 : Nat.beq (i + 1) j with
    | true => rw [e2] at hw; simp [Value.category] at hw
    | false =>
      rw [e2] at hw
      simp at hw
      refine h'.2.2 (j, w) (List.mem_cons_of_mem _ (List.mem_filter.mpr ⟨visL_mem.mpr ⟨h.lt hw, hw⟩, ?_⟩))
      have hne : ¬ j = i := fun q => by rw [q] at e; simp at e
      have hne2 : ¬ j = i + 1 := fun q => by rw [q] at e2; simp at e2
      simp only [Bool.and_eq_true, Bool.not_eq_true', beq_eq_false_iff_ne, ne_eq, Bool.and_eq_false_iff]
      refine ⟨hne, hne2, ?_⟩
      by_cases h2 : j + 1 = i
      · right
        subst h2
        have hw : lvGet lv j = some w := hw
        have hk3 : (match lvGet lv j with
          | some v => Nat.beq v.category 1
          | none => true) = true := hk
        rw [hw] at hk3
        have hk2 : Nat.beq w.category 1 = true := hk3
        have := Nat.eq_of_beq_eq_true hk2
        omega
      · exact Or.inl h2
/-- fewer locals: those that are listed -/
def lvLe (lv lv' : List (Nat × Value)) : Prop := ∀ i v, lvGet lv' i = some v → lvGet lv i = some v
theorem LV.le {ls : Array Slot} {nL : Nat} {lv lv' : List (Nat × Value)} (h : LV ls nL lv) (hl : lvLe lv lv') : LV ls nL lv' := ⟨h.1, h.2.1, fun i v hv => h.2.2 i v (hl i v hv)⟩
theorem lvLe_0 {lv : List (Nat × Value)} : lvLe lv [] := fun i v h => by simp [lvGet] at h
theorem lvLe_c {lv t : List (Nat × Value)} {i : Nat} {v : Value} (h : lvGet lv i = some v) (ht : lvLe lv t) : lvLe lv ((i, v) :: t) := by
  intro j w hw
  simp only [lvGet] at hw
  cases e : Nat.beq i j with
  | true =>
    rw [e] at hw
    have := Nat.eq_of_beq_eq_true e
    simp at hw
    subst this; subst hw
    exact h
  | false =>
    rw [e] at hw
    cases e2 : (Nat.beq v.category 2 && Nat.beq (i + 1) j) with
    | true => rw [e2] at hw; simp at hw
    | false => rw [e2] at hw; exact ht j w hw

/-- the frame's kind: its class, its locals, what it returns, its room, what is new so far, its end -/
abbrev FK : Type := String × Nat × Option FieldType × Room × Nat × Nat × (List Frame → Array Value → State → State → Prop)
def Bd (E : EE) (B : Nat) (code : ByteArray) (fk : FK) (p : Program) (s : State) (m : MethodId) (meth : Method) (c : Code) : Prop :=
  p.tables.exec = Jvm.exec ∧ c.code = code ∧ c.maxLocals = fk.2.1 ∧ meth.sig.returnType = fk.2.2.1 ∧ meth.locks = false ∧ s.vm.findClass fk.1 = some m.cls ∧ EV E B s ∧ (fk.2.2.2.2.1 ≤ fk.2.2.2.1.cells ∧ fk.2.2.2.2.2.1 ≤ fk.2.2.2.1.slots)
def G (E : EE) (B : Nat) (code : ByteArray) (fk : FK) (pc : Nat) (lv : List (Nat × Value)) (st : List Value) (M : MM) : Prop :=
  ∀ (p : Program) (l : Launch) (e : Env) (s : State) (m : MethodId) (args : Array Value) (below : List Frame) (meth : Method) (c : Code) (H : Heap) (locs : List Loc) (ls : Array Slot),
    Bd E B code fk p s m meth c → Rep E B M H → va_S (AA B) s.heap H locs → LV ls fk.2.1 lv →
    W p l e fk.2.2.2.1 s m args below meth c H locs fk.2.2.2.2.1 fk.2.2.2.2.2.1 (fk.2.2.2.2.2.2 below args s) (F0 m pc ls st)
def rmD (d : Nat) : Room := { frames := d, cells := 0, slots := 0, locals := 40 * d }
def PcO (E : EE) (B : Nat) (As : List Value) (M : MM) : Array Value → State → Prop := fun a U => a = As.toArray ∧ EV E B U ∧ Rep E B M U.heap
def QcO (E : EE) (B : Nat) (F : Option Value → MM → Prop) : Array Value → State → Outcome → State → Prop := fun _ st o t => (∃ (r : Option Value) (M' : MM), o = .returned r ∧ F r M' ∧ Rep E B M' t.heap) ∧ va_F (AA B) st t
def KM (E : EE) (B : Nat) (F : Option Value → MM → Prop) : List Frame → Array Value → State → State → Prop := fun below args s => MQ below (QcO E B F) args s 0 0 (AA B)
/-- a method's contract: from memory M with the arguments As it comes to its end with F -/
def Ct (E : EE) (B : Nat) (y : MethodName) (code : ByteArray) (nL : Nat) (ret : Option FieldType) (d : Nat) (As : List Value) (M : MM) (F : Option Value → MM → Prop) : Prop :=
  ∀ l : Launch, Met l y (Cond.code y code nL ret :: tbG) (rmD d) (PcO E B As M) (QcO E B F) 0 0 (AA B)
section GG
variable {E : EE} {B : Nat} {code : ByteArray} {fk : FK} {pc : Nat} {lv : List (Nat × Value)} {st : List Value} {M : MM}
theorem Ct.of {y : MethodName} {own : String} {nL : Nat} {ret : Option FieldType} {d : Nat} {As : List Value} {F : Option Value → MM → Prop} (hy : plainName y.cls = true) (hown : y.cls = own) (hn : (lg_sl As).length ≤ nL)
    (h : G E B code (own, nL, ret, rmD d, 0, 0, KM E B F) 0 (lv_args 0 As) [] M) : Ct E B y code nL ret d As M F := by
  intro l
  refine Met.ofW (cc := code) (maxL := nL) (ret := ret) hy rfl ?_
  intro p e s m args below meth c s₁ hB hml hv
  obtain ⟨rfl, hE, hR⟩ := hv
  have hl := lv_entry As (n := nL) hn
  rw [lg_entry_eq]
  exact h p l e s m As.toArray below meth c s.heap [] _ ⟨hB.exec, hB.bytes, hml, hB.returns, hB.notSynchronized, by rw [← hown]; exact findClass_of_methodNamed hB.named, hE, Nat.le_refl _, Nat.le_refl _⟩ hR va_S.rf (LV.of hl)
theorem g_le {lv' : List (Nat × Value)} (hl : lvLe lv lv') (k : G E B code fk pc lv' st M) : G E B code fk pc lv st M := fun p l e s m args below meth c H locs ls hB hR hS hL => k p l e s m args below meth c H locs ls hB hR hS (hL.le hl)
theorem g_eq {pc' : Nat} {lv' : List (Nat × Value)} {st' : List Value} {M' : MM} (h1 : pc = pc') (h2 : lv = lv') (h3 : st = st') (h4 : M = M') (k : G E B code fk pc' lv' st' M') : G E B code fk pc lv st M := by
  subst h1; subst h2; subst h3; subst h4; exact k
theorem g_iconst {n : Int} {v : Int32} (hd : decode code pc = .ok (.iconst n, 1)) (hv : Int32.ofInt n = v) (k : G E B code fk (pc + 1) lv (.int v :: st) M) : G E B code fk pc lv st M := by
  intro p l e s m args below meth c H locs ls hB hR hS hL
  exact lv_iconst hB.1 hB.2.1 hd hv (k p l e s m args below meth c H locs ls hB hR hS hL)
theorem g_bipush {n : Int} {v : Int32} (hd : decode code pc = .ok (.bipush n, 2)) (hv : (Int8.ofInt n).toInt32 = v) (k : G E B code fk (pc + 2) lv (.int v :: st) M) : G E B code fk pc lv st M := by
  intro p l e s m args below meth c H locs ls hB hR hS hL
  exact lv_bipush hB.1 hB.2.1 hd hv (k p l e s m args below meth c H locs ls hB hR hS hL)
theorem g_sipush {n : Int} {v : Int32} (hd : decode code pc = .ok (.sipush n, 3)) (hv : (Int16.ofInt n).toInt32 = v) (k : G E B code fk (pc + 3) lv (.int v :: st) M) : G E B code fk pc lv st M := by
  intro p l e s m args below meth c H locs ls hB hR hS hL
  exact lv_sipush hB.1 hB.2.1 hd hv (k p l e s m args below meth c H locs ls hB hR hS hL)
theorem g_lconst {n : Fin 2} {v : Int64} (hd : decode code pc = .ok (.lconst n, 1)) (hv : Int64.ofNat (n : Nat) = v) (k : G E B code fk (pc + 1) lv (.long v :: st) M) : G E B code fk pc lv st M := by
  intro p l e s m args below meth c H locs ls hB hR hS hL
  exact lv_lconst hB.1 hB.2.1 hd hv (k p l e s m args below meth c H locs ls hB hR hS hL)
theorem g_iload {i : Nat} {x : Int32} (hd : decode code pc = .ok (.iload i, 2)) (hl : lvGet lv i = some (.int x)) (k : G E B code fk (pc + 2) lv (.int x :: st) M) : G E B code fk pc lv st M := by
  intro p l e s m args below meth c H locs ls hB hR hS hL
  exact lv_iload hB.1 hB.2.1 hd (hL.2.2 _ _ hl) (k p l e s m args below meth c H locs ls hB hR hS hL)
theorem g_iload_n {k0 : Fin 4} {i : Nat} {x : Int32} (hd : decode code pc = .ok (.iload_n k0, 1)) (hi : (k0 : Nat) = i) (hl : lvGet lv i = some (.int x)) (k : G E B code fk (pc + 1) lv (.int x :: st) M) : G E B code fk pc lv st M := by
  intro p l e s m args below meth c H locs ls hB hR hS hL
  exact lv_iload_n hB.1 hB.2.1 hd hi (hL.2.2 _ _ hl) (k p l e s m args below meth c H locs ls hB hR hS hL)
theorem g_aload {i : Nat} {x : Nat} (hd : decode code pc = .ok (.aload i, 2)) (hl : lvGet lv i = some (.ref x)) (k : G E B code fk (pc + 2) lv (.ref x :: st) M) : G E B code fk pc lv st M := by
  intro p l e s m args below meth c H locs ls hB hR hS hL
  exact lv_aload hB.1 hB.2.1 hd (hL.2.2 _ _ hl) (k p l e s m args below meth c H locs ls hB hR hS hL)
theorem g_aload_n {k0 : Fin 4} {i : Nat} {x : Nat} (hd : decode code pc = .ok (.aload_n k0, 1)) (hi : (k0 : Nat) = i) (hl : lvGet lv i = some (.ref x)) (k : G E B code fk (pc + 1) lv (.ref x :: st) M) : G E B code fk pc lv st M := by
  intro p l e s m args below meth c H locs ls hB hR hS hL
  exact lv_aload_n hB.1 hB.2.1 hd hi (hL.2.2 _ _ hl) (k p l e s m args below meth c H locs ls hB hR hS hL)
theorem g_lload {i : Nat} {x : Int64} (hd : decode code pc = .ok (.lload i, 2)) (hl : lvGet lv i = some (.long x)) (k : G E B code fk (pc + 2) lv (.long x :: st) M) : G E B code fk pc lv st M := by
  intro p l e s m args below meth c H locs ls hB hR hS hL
  exact lv_lload hB.1 hB.2.1 hd (hL.2.2 _ _ hl) (k p l e s m args below meth c H locs ls hB hR hS hL)
theorem g_lload_n {k0 : Fin 4} {i : Nat} {x : Int64} (hd : decode code pc = .ok (.lload_n k0, 1)) (hi : (k0 : Nat) = i) (hl : lvGet lv i = some (.long x)) (k : G E B code fk (pc + 1) lv (.long x :: st) M) : G E B code fk pc lv st M := by
  intro p l e s m args below meth c H locs ls hB hR hS hL
  exact lv_lload_n hB.1 hB.2.1 hd hi (hL.2.2 _ _ hl) (k p l e s m args below meth c H locs ls hB hR hS hL)
theorem g_istore {i : Nat} {x : Int32} (hd : decode code pc = .ok (.istore i, 2)) (hn : i < fk.2.1) (hk : okS lv i = true) (k : G E B code fk (pc + 2) ((i, .int x) :: lv) st M) : G E B code fk pc lv (.int x :: st) M := by
  intro p l e s m args below meth c H locs ls hB hR hS hL
  exact lv_istore hB.1 hB.2.1 hd hL.has hn rfl (fun ls2 h2 => k p l e s m args below meth c H locs ls2 hB hR hS (LV.st1 rfl hL hk h2))
theorem g_istore_n {k0 : Fin 4} {i : Nat} {x : Int32} (hd : decode code pc = .ok (.istore_n k0, 1)) (hi : (k0 : Nat) = i) (hn : i < fk.2.1) (hk : okS lv i = true) (k : G E B code fk (pc + 1) ((i, .int x) :: lv) st M) : G E B code fk pc lv (.int x :: st) M := by
  intro p l e s m args below meth c H locs ls hB hR hS hL
  exact lv_istore_n hB.1 hB.2.1 hd hi hL.has hn rfl (fun ls2 h2 => k p l e s m args below meth c H locs ls2 hB hR hS (LV.st1 rfl hL hk h2))
theorem g_astore {i : Nat} {x : Nat} (hd : decode code pc = .ok (.astore i, 2)) (hn : i < fk.2.1) (hk : okS lv i = true) (k : G E B code fk (pc + 2) ((i, .ref x) :: lv) st M) : G E B code fk pc lv (.ref x :: st) M := by
  intro p l e s m args below meth c H locs ls hB hR hS hL
  exact lv_astore hB.1 hB.2.1 hd hL.has hn rfl (fun ls2 h2 => k p l e s m args below meth c H locs ls2 hB hR hS (LV.st1 rfl hL hk h2))
theorem g_astore_n {k0 : Fin 4} {i : Nat} {x : Nat} (hd : decode code pc = .ok (.astore_n k0, 1)) (hi : (k0 : Nat) = i) (hn : i < fk.2.1) (hk : okS lv i = true) (k : G E B code fk (pc + 1) ((i, .ref x) :: lv) st M) : G E B code fk pc lv (.ref x :: st) M := by
  intro p l e s m args below meth c H locs ls hB hR hS hL
  exact lv_astore_n hB.1 hB.2.1 hd hi hL.has hn rfl (fun ls2 h2 => k p l e s m args below meth c H locs ls2 hB hR hS (LV.st1 rfl hL hk h2))
theorem g_lstore {i : Nat} {x : Int64} (hd : decode code pc = .ok (.lstore i, 2)) (hn : i + 1 < fk.2.1) (hk : okS lv i = true) (k : G E B code fk (pc + 2) ((i, .long x) :: lv) st M) : G E B code fk pc lv (.long x :: st) M := by
  intro p l e s m args below meth c H locs ls hB hR hS hL
  exact lv_lstore hB.1 hB.2.1 hd hL.has hn rfl (fun ls2 h2 => k p l e s m args below meth c H locs ls2 hB hR hS (LV.st2 hL hk h2))
theorem g_iinc {i : Nat} {n : Int} {x v : Int32} (hd : decode code pc = .ok (.iinc i n, 3)) (hl : lvGet lv i = some (.int x)) (hv : x + Int32.ofInt n = v) (hk : okS lv i = true) (k : G E B code fk (pc + 3) ((i, .int v) :: lv) st M) : G E B code fk pc lv st M := by
  intro p l e s m args below meth c H locs ls hB hR hS hL
  obtain ⟨j, hj⟩ := List.getElem?_of_mem (visL_mem.mpr ⟨hL.lt hl, hl⟩)
  exact lv_iinc hB.1 hB.2.1 hd hL.has hj hv (hL.lt hl) rfl (fun ls2 h2 => k p l e s m args below meth c H locs ls2 hB hR hS (LV.st1 rfl hL hk h2))
theorem g_iadd {x y v : Int32} (hd : decode code pc = .ok (.iadd, 1)) (hv : x + y = v) (k : G E B code fk (pc + 1) lv (.int v :: st) M) : G E B code fk pc lv (.int y :: .int x :: st) M := by
  intro p l e s m args below meth c H locs ls hB hR hS hL
  exact lv_iadd hB.1 hB.2.1 hd (by rw [hv]; exact k p l e s m args below meth c H locs ls hB hR hS hL)
theorem g_isub {x y v : Int32} (hd : decode code pc = .ok (.isub, 1)) (hv : x - y = v) (k : G E B code fk (pc + 1) lv (.int v :: st) M) : G E B code fk pc lv (.int y :: .int x :: st) M := by
  intro p l e s m args below meth c H locs ls hB hR hS hL
  exact lv_isub hB.1 hB.2.1 hd (by rw [hv]; exact k p l e s m args below meth c H locs ls hB hR hS hL)
theorem g_imul {x y v : Int32} (hd : decode code pc = .ok (.imul, 1)) (hv : x * y = v) (k : G E B code fk (pc + 1) lv (.int v :: st) M) : G E B code fk pc lv (.int y :: .int x :: st) M := by
  intro p l e s m args below meth c H locs ls hB hR hS hL
  exact lv_imul hB.1 hB.2.1 hd (by rw [hv]; exact k p l e s m args below meth c H locs ls hB hR hS hL)
theorem g_ineg {x v : Int32} (hd : decode code pc = .ok (.ineg, 1)) (hv : -x = v) (k : G E B code fk (pc + 1) lv (.int v :: st) M) : G E B code fk pc lv (.int x :: st) M := by
  intro p l e s m args below meth c H locs ls hB hR hS hL
  exact lv_ineg hB.1 hB.2.1 hd (by rw [hv]; exact k p l e s m args below meth c H locs ls hB hR hS hL)
theorem g_iand {x y v : Int32} (hd : decode code pc = .ok (.iand, 1)) (hv : x &&& y = v) (k : G E B code fk (pc + 1) lv (.int v :: st) M) : G E B code fk pc lv (.int y :: .int x :: st) M := by
  intro p l e s m args below meth c H locs ls hB hR hS hL
  exact lv_iand hB.1 hB.2.1 hd (by rw [hv]; exact k p l e s m args below meth c H locs ls hB hR hS hL)
theorem g_ior {x y v : Int32} (hd : decode code pc = .ok (.ior, 1)) (hv : x ||| y = v) (k : G E B code fk (pc + 1) lv (.int v :: st) M) : G E B code fk pc lv (.int y :: .int x :: st) M := by
  intro p l e s m args below meth c H locs ls hB hR hS hL
  exact lv_ior hB.1 hB.2.1 hd (by rw [hv]; exact k p l e s m args below meth c H locs ls hB hR hS hL)
theorem g_ixor {x y v : Int32} (hd : decode code pc = .ok (.ixor, 1)) (hv : x ^^^ y = v) (k : G E B code fk (pc + 1) lv (.int v :: st) M) : G E B code fk pc lv (.int y :: .int x :: st) M := by
  intro p l e s m args below meth c H locs ls hB hR hS hL
  exact lv_ixor hB.1 hB.2.1 hd (by rw [hv]; exact k p l e s m args below meth c H locs ls hB hR hS hL)
theorem g_ishl {x y v : Int32} (hd : decode code pc = .ok (.ishl, 1)) (hv : x <<< (y &&& 31) = v) (k : G E B code fk (pc + 1) lv (.int v :: st) M) : G E B code fk pc lv (.int y :: .int x :: st) M := by
  intro p l e s m args below meth c H locs ls hB hR hS hL
  exact lv_ishl hB.1 hB.2.1 hd (by rw [hv]; exact k p l e s m args below meth c H locs ls hB hR hS hL)
theorem g_ishr {x y v : Int32} (hd : decode code pc = .ok (.ishr, 1)) (hv : x >>> (y &&& 31) = v) (k : G E B code fk (pc + 1) lv (.int v :: st) M) : G E B code fk pc lv (.int y :: .int x :: st) M := by
  intro p l e s m args below meth c H locs ls hB hR hS hL
  exact lv_ishr hB.1 hB.2.1 hd (by rw [hv]; exact k p l e s m args below meth c H locs ls hB hR hS hL)
theorem g_idiv {x y v : Int32} (hd : decode code pc = .ok (.idiv, 1)) (hne : ¬ y = 0) (hv : x / y = v) (k : G E B code fk (pc + 1) lv (.int v :: st) M) : G E B code fk pc lv (.int y :: .int x :: st) M := by
  intro p l e s m args below meth c H locs ls hB hR hS hL
  exact lv_idiv hB.1 hB.2.1 hd hne (by rw [hv]; exact k p l e s m args below meth c H locs ls hB hR hS hL)
theorem g_irem {x y v : Int32} (hd : decode code pc = .ok (.irem, 1)) (hne : ¬ y = 0) (hv : x - x / y * y = v) (k : G E B code fk (pc + 1) lv (.int v :: st) M) : G E B code fk pc lv (.int y :: .int x :: st) M := by
  intro p l e s m args below meth c H locs ls hB hR hS hL
  exact lv_irem hB.1 hB.2.1 hd hne (by rw [hv]; exact k p l e s m args below meth c H locs ls hB hR hS hL)
theorem g_land {x y v : Int64} (hd : decode code pc = .ok (.land, 1)) (hv : x &&& y = v) (k : G E B code fk (pc + 1) lv (.long v :: st) M) : G E B code fk pc lv (.long y :: .long x :: st) M := by
  intro p l e s m args below meth c H locs ls hB hR hS hL
  exact lv_land hB.1 hB.2.1 hd (by rw [hv]; exact k p l e s m args below meth c H locs ls hB hR hS hL)
theorem g_lor {x y v : Int64} (hd : decode code pc = .ok (.lor, 1)) (hv : x ||| y = v) (k : G E B code fk (pc + 1) lv (.long v :: st) M) : G E B code fk pc lv (.long y :: .long x :: st) M := by
  intro p l e s m args below meth c H locs ls hB hR hS hL
  exact lv_lor hB.1 hB.2.1 hd (by rw [hv]; exact k p l e s m args below meth c H locs ls hB hR hS hL)
theorem g_iushr {x y v : Int32} (hd : decode code pc = .ok (.iushr, 1)) (hv : (x.toUInt32 >>> (y.toUInt32 &&& Int32.toUInt32 31)).toInt32 = v) (k : G E B code fk (pc + 1) lv (.int v :: st) M) : G E B code fk pc lv (.int y :: .int x :: st) M := by
  intro p l e s m args below meth c H locs ls hB hR hS hL
  exact lv_iushr hB.1 hB.2.1 hd hv (k p l e s m args below meth c H locs ls hB hR hS hL)
theorem g_lshl {x v : Int64} {y : Int32} (hd : decode code pc = .ok (.lshl, 1)) (hv : x <<< (y.toInt64 &&& 63) = v) (k : G E B code fk (pc + 1) lv (.long v :: st) M) : G E B code fk pc lv (.int y :: .long x :: st) M := by
  intro p l e s m args below meth c H locs ls hB hR hS hL
  exact lv_lshl hB.1 hB.2.1 hd hv (k p l e s m args below meth c H locs ls hB hR hS hL)
theorem g_i2l {x : Int32} {v : Int64} (hd : decode code pc = .ok (.i2l, 1)) (hv : x.toInt64 = v) (k : G E B code fk (pc + 1) lv (.long v :: st) M) : G E B code fk pc lv (.int x :: st) M := by
  intro p l e s m args below meth c H locs ls hB hR hS hL
  exact lv_i2l hB.1 hB.2.1 hd hv (k p l e s m args below meth c H locs ls hB hR hS hL)
theorem g_l2i {x : Int64} {v : Int32} (hd : decode code pc = .ok (.l2i, 1)) (hv : x.toInt32 = v) (k : G E B code fk (pc + 1) lv (.int v :: st) M) : G E B code fk pc lv (.long x :: st) M := by
  intro p l e s m args below meth c H locs ls hB hR hS hL
  exact lv_l2i hB.1 hB.2.1 hd hv (k p l e s m args below meth c H locs ls hB hR hS hL)
theorem g_i2b {x v : Int32} (hd : decode code pc = .ok (.i2b, 1)) (hv : x.toInt8.toInt32 = v) (k : G E B code fk (pc + 1) lv (.int v :: st) M) : G E B code fk pc lv (.int x :: st) M := by
  intro p l e s m args below meth c H locs ls hB hR hS hL
  exact lv_i2b hB.1 hB.2.1 hd hv (k p l e s m args below meth c H locs ls hB hR hS hL)
theorem g_i2s {x v : Int32} (hd : decode code pc = .ok (.i2s, 1)) (hv : x.toInt16.toInt32 = v) (k : G E B code fk (pc + 1) lv (.int v :: st) M) : G E B code fk pc lv (.int x :: st) M := by
  intro p l e s m args below meth c H locs ls hB hR hS hL
  exact lv_i2s hB.1 hB.2.1 hd hv (k p l e s m args below meth c H locs ls hB hR hS hL)
theorem g_lcmp {x y : Int64} {v : Int32} (hd : decode code pc = .ok (.lcmp, 1)) (hv : lg_cmp x y = v) (k : G E B code fk (pc + 1) lv (.int v :: st) M) : G E B code fk pc lv (.long y :: .long x :: st) M := by
  intro p l e s m args below meth c H locs ls hB hR hS hL
  exact W.lcmp hB.1 hB.2.1 hd (by rw [hv]; exact k p l e s m args below meth c H locs ls hB hR hS hL)
theorem g_dup {va : Value} (hd : decode code pc = .ok (.dup, 1)) (h1 : va.category = 1) (k : G E B code fk (pc + 1) lv (va :: va :: st) M) : G E B code fk pc lv (va :: st) M := by
  intro p l e s m args below meth c H locs ls hB hR hS hL
  exact lv_dup hB.1 hB.2.1 hd h1 (k p l e s m args below meth c H locs ls hB hR hS hL)
theorem g_dup2 {va vb : Value} (hd : decode code pc = .ok (.dup2, 1)) (h1 : va.category = 1) (h2 : vb.category = 1) (k : G E B code fk (pc + 1) lv (va :: vb :: va :: vb :: st) M) : G E B code fk pc lv (va :: vb :: st) M := by
  intro p l e s m args below meth c H locs ls hB hR hS hL
  exact lv_dup2_11 hB.1 hB.2.1 hd h1 h2 (k p l e s m args below meth c H locs ls hB hR hS hL)
theorem g_dup_x1 {va vb : Value} (hd : decode code pc = .ok (.dup_x1, 1)) (h1 : va.category = 1) (h2 : vb.category = 1) (k : G E B code fk (pc + 1) lv (va :: vb :: va :: st) M) : G E B code fk pc lv (va :: vb :: st) M := by
  intro p l e s m args below meth c H locs ls hB hR hS hL
  exact lv_dup_x1 hB.1 hB.2.1 hd h1 h2 (k p l e s m args below meth c H locs ls hB hR hS hL)
theorem g_pop {va : Value} (hd : decode code pc = .ok (.pop, 1)) (h1 : va.category = 1) (k : G E B code fk (pc + 1) lv st M) : G E B code fk pc lv (va :: st) M := by
  intro p l e s m args below meth c H locs ls hB hR hS hL
  exact lv_pop hB.1 hB.2.1 hd h1 (k p l e s m args below meth c H locs ls hB hR hS hL)
theorem g_goto {off : Int} {tgt : Nat} (hd : decode code pc = .ok (.goto off, 3)) (ht : (pc : Int) + off = (tgt : Int)) (k : G E B code fk tgt lv st M) : G E B code fk pc lv st M := by
  intro p l e s m args below meth c H locs ls hB hR hS hL
  exact lv_goto hB.1 hB.2.1 hd ht (k p l e s m args below meth c H locs ls hB hR hS hL)
theorem g_icmp_lt {x y : Int32} {off : Int} {tgt : Nat} (hd : decode code pc = .ok (.if_icmp .lt off, 3)) (ht : (pc : Int) + off = (tgt : Int)) (k0 : x < y → G E B code fk tgt lv st M) (k1 : ¬ x < y → G E B code fk (pc + 3) lv st M) : G E B code fk pc lv (.int y :: .int x :: st) M := by
  intro p l e s m args below meth c H locs ls hB hR hS hL
  exact lv_icmp_lt hB.1 hB.2.1 hd ht (fun q => k0 q p l e s m args below meth c H locs ls hB hR hS hL) (fun q => k1 q p l e s m args below meth c H locs ls hB hR hS hL)
theorem g_icmp_gt {x y : Int32} {off : Int} {tgt : Nat} (hd : decode code pc = .ok (.if_icmp .gt off, 3)) (ht : (pc : Int) + off = (tgt : Int)) (k0 : y < x → G E B code fk tgt lv st M) (k1 : ¬ y < x → G E B code fk (pc + 3) lv st M) : G E B code fk pc lv (.int y :: .int x :: st) M := by
  intro p l e s m args below meth c H locs ls hB hR hS hL
  exact lv_icmp_gt hB.1 hB.2.1 hd ht (fun q => k0 q p l e s m args below meth c H locs ls hB hR hS hL) (fun q => k1 q p l e s m args below meth c H locs ls hB hR hS hL)
theorem g_icmp_ge {x y : Int32} {off : Int} {tgt : Nat} (hd : decode code pc = .ok (.if_icmp .ge off, 3)) (ht : (pc : Int) + off = (tgt : Int)) (k0 : y ≤ x → G E B code fk tgt lv st M) (k1 : ¬ y ≤ x → G E B code fk (pc + 3) lv st M) : G E B code fk pc lv (.int y :: .int x :: st) M := by
  intro p l e s m args below meth c H locs ls hB hR hS hL
  exact lv_icmp_ge hB.1 hB.2.1 hd ht (fun q => k0 q p l e s m args below meth c H locs ls hB hR hS hL) (fun q => k1 q p l e s m args below meth c H locs ls hB hR hS hL)
theorem g_icmp_le {x y : Int32} {off : Int} {tgt : Nat} (hd : decode code pc = .ok (.if_icmp .le off, 3)) (ht : (pc : Int) + off = (tgt : Int)) (k0 : x ≤ y → G E B code fk tgt lv st M) (k1 : ¬ x ≤ y → G E B code fk (pc + 3) lv st M) : G E B code fk pc lv (.int y :: .int x :: st) M := by
  intro p l e s m args below meth c H locs ls hB hR hS hL
  exact lv_icmp_le hB.1 hB.2.1 hd ht (fun q => k0 q p l e s m args below meth c H locs ls hB hR hS hL) (fun q => k1 q p l e s m args below meth c H locs ls hB hR hS hL)
theorem g_icmp_eq {x y : Int32} {off : Int} {tgt : Nat} (hd : decode code pc = .ok (.if_icmp .eq off, 3)) (ht : (pc : Int) + off = (tgt : Int)) (k0 : x = y → G E B code fk tgt lv st M) (k1 : ¬ x = y → G E B code fk (pc + 3) lv st M) : G E B code fk pc lv (.int y :: .int x :: st) M := by
  intro p l e s m args below meth c H locs ls hB hR hS hL
  exact lv_icmp_eq hB.1 hB.2.1 hd ht (fun q => k0 q p l e s m args below meth c H locs ls hB hR hS hL) (fun q => k1 q p l e s m args below meth c H locs ls hB hR hS hL)
theorem g_icmp_ne {x y : Int32} {off : Int} {tgt : Nat} (hd : decode code pc = .ok (.if_icmp .ne off, 3)) (ht : (pc : Int) + off = (tgt : Int)) (k0 : ¬ x = y → G E B code fk tgt lv st M) (k1 : x = y → G E B code fk (pc + 3) lv st M) : G E B code fk pc lv (.int y :: .int x :: st) M := by
  intro p l e s m args below meth c H locs ls hB hR hS hL
  exact lv_icmp_ne hB.1 hB.2.1 hd ht (fun q => k0 q p l e s m args below meth c H locs ls hB hR hS hL) (fun q => k1 q p l e s m args below meth c H locs ls hB hR hS hL)
theorem g_if_lt {x : Int32} {off : Int} {tgt : Nat} (hd : decode code pc = .ok (.ifCond .lt off, 3)) (ht : (pc : Int) + off = (tgt : Int)) (k0 : x < 0 → G E B code fk tgt lv st M) (k1 : ¬ x < 0 → G E B code fk (pc + 3) lv st M) : G E B code fk pc lv (.int x :: st) M := by
  intro p l e s m args below meth c H locs ls hB hR hS hL
  exact lv_if_lt hB.1 hB.2.1 hd ht (fun q => k0 q p l e s m args below meth c H locs ls hB hR hS hL) (fun q => k1 q p l e s m args below meth c H locs ls hB hR hS hL)
theorem g_if_gt {x : Int32} {off : Int} {tgt : Nat} (hd : decode code pc = .ok (.ifCond .gt off, 3)) (ht : (pc : Int) + off = (tgt : Int)) (k0 : 0 < x → G E B code fk tgt lv st M) (k1 : ¬ 0 < x → G E B code fk (pc + 3) lv st M) : G E B code fk pc lv (.int x :: st) M := by
  intro p l e s m args below meth c H locs ls hB hR hS hL
  exact lv_if_gt hB.1 hB.2.1 hd ht (fun q => k0 q p l e s m args below meth c H locs ls hB hR hS hL) (fun q => k1 q p l e s m args below meth c H locs ls hB hR hS hL)
theorem g_if_ge {x : Int32} {off : Int} {tgt : Nat} (hd : decode code pc = .ok (.ifCond .ge off, 3)) (ht : (pc : Int) + off = (tgt : Int)) (k0 : 0 ≤ x → G E B code fk tgt lv st M) (k1 : ¬ 0 ≤ x → G E B code fk (pc + 3) lv st M) : G E B code fk pc lv (.int x :: st) M := by
  intro p l e s m args below meth c H locs ls hB hR hS hL
  exact lv_if_ge hB.1 hB.2.1 hd ht (fun q => k0 q p l e s m args below meth c H locs ls hB hR hS hL) (fun q => k1 q p l e s m args below meth c H locs ls hB hR hS hL)
theorem g_if_le {x : Int32} {off : Int} {tgt : Nat} (hd : decode code pc = .ok (.ifCond .le off, 3)) (ht : (pc : Int) + off = (tgt : Int)) (k0 : x ≤ 0 → G E B code fk tgt lv st M) (k1 : ¬ x ≤ 0 → G E B code fk (pc + 3) lv st M) : G E B code fk pc lv (.int x :: st) M := by
  intro p l e s m args below meth c H locs ls hB hR hS hL
  exact lv_if_le hB.1 hB.2.1 hd ht (fun q => k0 q p l e s m args below meth c H locs ls hB hR hS hL) (fun q => k1 q p l e s m args below meth c H locs ls hB hR hS hL)
theorem g_if_eq {x : Int32} {off : Int} {tgt : Nat} (hd : decode code pc = .ok (.ifCond .eq off, 3)) (ht : (pc : Int) + off = (tgt : Int)) (k0 : x = 0 → G E B code fk tgt lv st M) (k1 : ¬ x = 0 → G E B code fk (pc + 3) lv st M) : G E B code fk pc lv (.int x :: st) M := by
  intro p l e s m args below meth c H locs ls hB hR hS hL
  exact lv_if_eq hB.1 hB.2.1 hd ht (fun q => k0 q p l e s m args below meth c H locs ls hB hR hS hL) (fun q => k1 q p l e s m args below meth c H locs ls hB hR hS hL)
theorem g_if_ne {x : Int32} {off : Int} {tgt : Nat} (hd : decode code pc = .ok (.ifCond .ne off, 3)) (ht : (pc : Int) + off = (tgt : Int)) (k0 : ¬ x = 0 → G E B code fk tgt lv st M) (k1 : x = 0 → G E B code fk (pc + 3) lv st M) : G E B code fk pc lv (.int x :: st) M := by
  intro p l e s m args below meth c H locs ls hB hR hS hL
  exact lv_if_ne hB.1 hB.2.1 hd ht (fun q => k0 q p l e s m args below meth c H locs ls hB hR hS hL) (fun q => k1 q p l e s m args below meth c H locs ls hB hR hS hL)
theorem g_tableOut {dflt lo hi : Int} {offs : Array Int} {len : Nat} {x : Int32} {tgt : Nat} (hd : decode code pc = .ok (.tableswitch dflt lo hi offs, len)) (h : x.toInt < lo ∨ hi < x.toInt) (ht : (pc : Int) + dflt = (tgt : Int)) (k : G E B code fk tgt lv st M) : G E B code fk pc lv (.int x :: st) M := by
  intro p l e s m args below meth c H locs ls hB hR hS hL
  exact lv_tableOut hB.1 hB.2.1 hd h ht (k p l e s m args below meth c H locs ls hB hR hS hL)
theorem g_tableIn {dflt lo hi : Int} {offs : Array Int} {len : Nat} {x : Int32} {off : Int} {tgt : Nat} (hd : decode code pc = .ok (.tableswitch dflt lo hi offs, len)) (h1 : ¬ x.toInt < lo) (h2 : ¬ hi < x.toInt) (ho : offs[(x.toInt - lo).toNat]? = some off) (ht : (pc : Int) + off = (tgt : Int)) (k : G E B code fk tgt lv st M) : G E B code fk pc lv (.int x :: st) M := by
  intro p l e s m args below meth c H locs ls hB hR hS hL
  exact lv_tableIn hB.1 hB.2.1 hd h1 h2 ho ht (k p l e s m args below meth c H locs ls hB hR hS hL)
theorem g_lookup {dflt : Int} {ps : Array (Int × Int)} {len : Nat} {x : Int32} {off : Int} {tgt : Nat} (hd : decode code pc = .ok (.lookupswitch dflt ps, len)) (hp : (ps.toList.zip (ps.toList.drop 1)).all (fun (a, next) => a.1 < next.1) = true) (ho : Op.lookupswitch.offset ps.toList dflt x.toInt = off) (ht : (pc : Int) + off = (tgt : Int)) (k : G E B code fk tgt lv st M) : G E B code fk pc lv (.int x :: st) M := by
  intro p l e s m args below meth c H locs ls hB hR hS hL
  exact lv_lookup hB.1 hB.2.1 hd hp ho ht (k p l e s m args below meth c H locs ls hB hR hS hL)
theorem g_ldc {index : Nat} {v : Int32} (hd : decode code pc = .ok (.ldc index, 2)) (hw : Cond.constant fk.1 index v ∈ tbG) (k : G E B code fk (pc + 2) lv (.int v :: st) M) : G E B code fk pc lv st M := by
  intro p l e s m args below meth c H locs ls hB hR hS hL
  exact lv_ldc hB.1 hB.2.1 hB.2.2.2.2.2.1 (hB.2.2.2.2.2.2.1.1 _ hw _) hd (k p l e s m args below meth c H locs ls hB hR hS hL)
theorem g_ldc2 {index : Nat} {v : Int64} (hd : decode code pc = .ok (.ldc2_w index, 3)) (hw : Cond.constantLong fk.1 index v ∈ tbG) (k : G E B code fk (pc + 3) lv (.long v :: st) M) : G E B code fk pc lv st M := by
  intro p l e s m args below meth c H locs ls hB hR hS hL
  exact lv_ldc2 hB.1 hB.2.1 hB.2.2.2.2.2.1 (hB.2.2.2.2.2.2.1.1 _ hw _) hd (k p l e s m args below meth c H locs ls hB hR hS hL)
theorem g_ldcS {i : Nat} (hd : decode code pc = .ok (.ldc (sIx i), 2)) (hi : i < 7) (ho : fk.1 = RX3) (k : G E B code fk (pc + 2) lv (.ref (E.2.2.2.2.1 i) :: st) M) : G E B code fk pc lv st M := by
  intro p l e s m args below meth c H locs ls hB hR hS hL
  exact va_ldcS hB.1 hB.2.1 (own := RX3) (by rw [← ho]; exact hB.2.2.2.2.2.1) (hB.2.2.2.2.2.2.1.2.2.2.2.1 i hi) hd (k p l e s m args below meth c H locs ls hB hR hS hL)
theorem in_ws {ws : List Cond} (ps : List Nat) (h : ws = ps.filterMap (fun i => lw_tbl[i]?)) (hg : ws.all (fun w => w.onTables && w.keeps) = true) : ∀ w ∈ ws, w ∈ tbG := by
  intro w hw
  refine List.mem_filter.mpr ⟨?_, List.all_eq_true.mp hg w hw⟩
  rw [h] at hw
  obtain ⟨i, -, hi⟩ := List.mem_filterMap.mp hw
  exact List.mem_of_getElem? hi
theorem inw0 : ∀ w ∈ u_ws RX0 TX0 5, w ∈ tbG := in_ws [259, 261, 263, 265, 267] (by decide +kernel) (by decide +kernel)
theorem inw1 : ∀ w ∈ u_ws RX1 TX1 4, w ∈ tbG := in_ws [122, 124, 126, 128] (by decide +kernel) (by decide +kernel)
theorem inw2 : ∀ w ∈ u_ws RX2 TX2 7, w ∈ tbG := in_ws [199, 201, 203, 205, 207, 209, 211] (by decide +kernel) (by decide +kernel)
theorem inw3 : ∀ w ∈ u_ws RX3 TX3 7, w ∈ tbG := in_ws [228, 230, 232, 234, 236, 238, 240] (by decide +kernel) (by decide +kernel)
theorem inw4 : ∀ w ∈ u_ws RX4 TX4 4, w ∈ tbG := in_ws [286, 288, 290, 292] (by decide +kernel) (by decide +kernel)
theorem inw5 : ∀ w ∈ u_ws RX5 TX5 10, w ∈ tbG := in_ws [157, 159, 161, 163, 165, 167, 169, 171, 173, 175] (by decide +kernel) (by decide +kernel)
theorem inw6 : ∀ w ∈ u_ws RX6 TX6 15, w ∈ tbG := in_ws [311, 313, 315, 317, 319, 321, 323, 325, 327, 329, 331, 333, 335, 337, 339] (by decide +kernel) (by decide +kernel)
theorem inw7 : ∀ w ∈ u_ws RX7 TX7 43, w ∈ tbG := in_ws [956, 958, 960, 962, 964, 966, 968, 970, 972, 974, 976, 978, 980, 982, 984, 986, 988, 990, 992, 994, 996, 998, 1000, 1002, 1004, 1006, 1008, 1010, 1012, 1014, 1016, 1018, 1020, 1022, 1024, 1026, 1028, 1030, 1032, 1034, 1036, 1038, 1040] (by decide +kernel) (by decide +kernel)
/-- what the tables say of the classes -/
theorem cl_all : ∀ (ci : Nat) (q : vw_C), vwCl[ci]? = some q → (∀ w ∈ u_ws q.1 q.2.1 q.2.2, w ∈ tbG) ∧ (∀ a, a < q.2.2 → ∀ b, b < q.2.2 → a ≠ b → (q.2.1 a).2.1 ≠ (q.2.1 b).2.1) ∧ ∃ ty0 : Nat → FieldType, ∀ k, k < q.2.2 → parseFieldDescriptor (q.2.1 k).2.2.1 = some (ty0 k) := by
  intro ci q h
  match ci, h with
  | 0, h => cases h; exact ⟨inw0, nmX0, _, tyX0_ok⟩
  | 1, h => cases h; exact ⟨inw1, nmX1, _, tyX1_ok⟩
  | 2, h => cases h; exact ⟨inw2, nmX2, _, tyX2_ok⟩
  | 3, h => cases h; exact ⟨inw3, nmX3, _, tyX3_ok⟩
  | 4, h => cases h; exact ⟨inw4, nmX4, _, tyX4_ok⟩
  | 5, h => cases h; exact ⟨inw5, nmX5, _, tyX5_ok⟩
  | 6, h => cases h; exact ⟨inw6, nmX6, _, tyX6_ok⟩
  | 7, h => cases h; exact ⟨inw7, nmX7, _, tyX7_ok⟩
  | k + 8, h => simp [vwCl] at h
/-- a field's link: which field of which class -/
def FL (own : String) (idx ci j : Nat) : Prop := ∃ (C : String) (T : u_T) (N : Nat), vwCl[ci]? = some (C, T, N) ∧ j < N ∧ Cond.fieldLink own idx (T j).1 (T j).2.1 (T j).2.2.1 ∈ tbG
def FP (own : String) (idx ci j : Nat) (ty : FieldType) : Prop := ∃ (C : String) (T : u_T) (N : Nat), vwCl[ci]? = some (C, T, N) ∧ j < N ∧ Cond.fieldLink own idx (T j).1 (T j).2.1 (T j).2.2.1 ∈ tbG ∧ (T j).2.2.2 = false ∧ parseFieldDescriptor (T j).2.2.1 = some ty
theorem plan_n : ∀ le ∈ plan, ∀ n b, le = .inr (.inl (n, b)) → n < 2 ^ 31 := by
  have h : plan.all (fun le => match le with | .inr (.inl q) => decide (q.1 < 2 ^ 31) | _ => true) = true := by decide +kernel
  intro le hle n b e
  have h1 := List.all_eq_true.mp h le hle
  rw [e] at h1
  simpa using h1
theorem plan_r : ∀ le ∈ plan, ∀ t rs, le = .inr (.inr (t, rs)) → rs.length < 2 ^ 31 ∧ (t = 2 ∨ t = 3) := by
  have h : plan.all (fun le => match le with | .inr (.inr q) => decide (q.2.length < 2 ^ 31 ∧ (q.1 = 2 ∨ q.1 = 3)) | _ => true) = true := by decide +kernel
  intro le hle t rs e
  have h1 := List.all_eq_true.mp h le hle
  rw [e] at h1
  simpa using h1
theorem g_getI {k idx ci j : Nat} {fs : List (Option Nat)} {x : Int32} (hd : decode code pc = .ok (.getfield idx, 3)) (hf : FL fk.1 idx ci j) (hk : plan[k]? = some (.inl (ci, fs))) (hj : fs[j]? = some none) (hv : M.1 (B + k) j = x) (kk : G E B code fk (pc + 3) lv (.int x :: st) M) : G E B code fk pc lv (.ref (B + k) :: st) M := by
  intro p l e s m args below meth c H locs ls hB hR hS hL
  obtain ⟨C, T, N, hc, hjN, hl⟩ := hf
  have hE := hB.2.2.2.2.2.2.1
  exact va_get (Ts := tbG) (v := .int x) hB.1 hB.2.1 (fun w hw => hE.1 w hw args) (cl_all ci _ hc).1 hB.2.2.2.2.2.1 hE.2.2.1 hR k (wld_at hk) hc j hjN (hE.1 _ hl args) (fun _ h => h) (by rw [List.getElem?_mapIdx, hj, ← hv]; rfl) hd (kk p l e s m args below meth c H locs ls hB hR hS hL)
theorem g_getR {k idx ci j rr : Nat} {fs : List (Option Nat)} (hd : decode code pc = .ok (.getfield idx, 3)) (hf : FL fk.1 idx ci j) (hk : plan[k]? = some (.inl (ci, fs))) (hj : fs[j]? = some (some rr)) (kk : G E B code fk (pc + 3) lv (.ref (B + rr) :: st) M) : G E B code fk pc lv (.ref (B + k) :: st) M := by
  intro p l e s m args below meth c H locs ls hB hR hS hL
  obtain ⟨C, T, N, hc, hjN, hl⟩ := hf
  have hE := hB.2.2.2.2.2.2.1
  exact va_get (Ts := tbG) (v := .ref (B + rr)) hB.1 hB.2.1 (fun w hw => hE.1 w hw args) (cl_all ci _ hc).1 hB.2.2.2.2.2.1 hE.2.2.1 hR k (wld_at hk) hc j hjN (hE.1 _ hl args) (fun _ h => h) (by rw [List.getElem?_mapIdx, hj]; rfl) hd (kk p l e s m args below meth c H locs ls hB hR hS hL)
theorem fld_set {k j : Nat} {fs : List (Option Nat)} {x : Int32} (hj : fs[j]? = some none) : fs.mapIdx (fldV B (upI M (B + k) j x) k) = (fs.mapIdx (fldV B M k)).set j (.int x) := by
  apply List.ext_getElem?
  intro i
  have hjl : j < fs.length := (List.getElem?_eq_some_iff.mp hj).1
  by_cases hi : i = j
  · subst hi
    rw [List.getElem?_set_self (by simpa using hjl), List.getElem?_mapIdx, hj]
    simp [fldV, upI_s]
  · rw [List.getElem?_set_ne (Ne.symm hi), List.getElem?_mapIdx, List.getElem?_mapIdx]
    cases fs[i]? with
    | none => rfl
    | some o => cases o <;> simp [fldV, upI_k hi]
theorem upI_off {M : MM} {k j : Nat} {x : Int32} : ∀ q, q ≠ k → (upI M (B + k) j x).1 (B + q) = M.1 (B + q) ∧ (upI M (B + k) j x).2 (B + q) = M.2 (B + q) := fun q hq => ⟨upI_n (by omega), rfl⟩
theorem g_putT {k idx ci j : Nat} {fs : List (Option Nat)} {x : Int32} {ty : FieldType} (hd : decode code pc = .ok (.putfield idx, 3)) (hf : FP fk.1 idx ci j ty) (hk : plan[k]? = some (.inl (ci, fs))) (hj : fs[j]? = some none) (hn : narrow ty (.int x) = .int x) (hft : fits ty (.int x) = true) (kk : G E B code fk (pc + 3) lv st (upI M (B + k) j x)) : G E B code fk pc lv (.int x :: .ref (B + k) :: st) M := by
  intro p l e s m args below meth c H locs ls hB hR hS hL
  obtain ⟨C, T, N, hc, hjN, hl, hfin, hty⟩ := hf
  have hE := hB.2.2.2.2.2.2.1
  obtain ⟨cl1, cl2, ty0, cl3⟩ := cl_all ci _ hc
  have hjl : j < fs.length := (List.getElem?_eq_some_iff.mp hj).1
  refine va_put (Ts := tbG) (v := .int x) (ty := ty) hB.1 hB.2.1 (fun w hw => hE.1 w hw args) cl1 ty0 cl3 cl2 hB.2.2.2.2.2.1 hE.2.2.1 hR wld_D hS k (wld_at hk) hc j hjN (hE.1 _ hl args) (fun _ h => h) hfin hty hn hft (by simpa using hjl) hd (fun H1 locs1 hP hD hS1 => ?_)
  rw [wld_set (M' := upI M (B + k) j x) hk (by simp only [entV]; rw [fld_set hj]) upI_off] at hP
  exact kk p l e s m args below meth c H1 locs1 ls hB hP hS1 hL
theorem g_putI {k idx ci j : Nat} {fs : List (Option Nat)} {x : Int32} (hd : decode code pc = .ok (.putfield idx, 3)) (hf : FP fk.1 idx ci j .int) (hk : plan[k]? = some (.inl (ci, fs))) (hj : fs[j]? = some none) (kk : G E B code fk (pc + 3) lv st (upI M (B + k) j x)) : G E B code fk pc lv (.int x :: .ref (B + k) :: st) M := g_putT hd hf hk hj rfl rfl kk
theorem nar_z {x : Int32} (h : x = 0 ∨ x = 1) : narrow .boolean (.int x) = .int x := by rcases h with rfl | rfl <;> rfl
theorem fit_z {x : Int32} (h : x = 0 ∨ x = 1) : fits .boolean (.int x) = true := by rcases h with rfl | rfl <;> rfl
theorem g_putZ {k idx ci j : Nat} {fs : List (Option Nat)} {x : Int32} (hd : decode code pc = .ok (.putfield idx, 3)) (hf : FP fk.1 idx ci j .boolean) (hk : plan[k]? = some (.inl (ci, fs))) (hj : fs[j]? = some none) (hx : x = 0 ∨ x = 1) (kk : G E B code fk (pc + 3) lv st (upI M (B + k) j x)) : G E B code fk pc lv (.int x :: .ref (B + k) :: st) M := g_putT hd hf hk hj (nar_z hx) (fit_z hx) kk
theorem g_iald {k n q : Nat} {i x : Int32} (hd : decode code pc = .ok (.iaload, 1)) (hk : plan[k]? = some (.inr (.inl (n, false)))) (hi : i = nI q) (hq : q < n) (hv : M.1 (B + k) q = x) (kk : G E B code fk (pc + 1) lv (.int x :: st) M) : G E B code fk pc lv (.int i :: .ref (B + k) :: st) M := by
  intro p l e s m args below meth c H locs ls hB hR hS hL
  have hE := hB.2.2.2.2.2.2.1
  have hn := plan_n _ (List.mem_of_getElem? hk) n false rfl
  subst hi
  refine va_iald hB.1 hB.2.1 hE.2.2.1 hR k 0 (wld_at hk) rfl (vp_in_nI hq hn) hd ?_
  rw [nI_clamp (by omega), hv]
  exact kk p l e s m args below meth c H locs ls hB hR hS hL
theorem g_lald {k n q : Nat} {i : Int32} {x : Int64} (hd : decode code pc = .ok (.laload, 1)) (hk : plan[k]? = some (.inr (.inl (n, true)))) (hi : i = nI q) (hq : q < n) (hv : M.2 (B + k) q = x) (kk : G E B code fk (pc + 1) lv (.long x :: st) M) : G E B code fk pc lv (.int i :: .ref (B + k) :: st) M := by
  intro p l e s m args below meth c H locs ls hB hR hS hL
  have hE := hB.2.2.2.2.2.2.1
  have hn := plan_n _ (List.mem_of_getElem? hk) n true rfl
  subst hi
  refine va_lald hB.1 hB.2.1 hE.2.2.1 hR k 1 (wld_at hk) rfl (vp_in_nI hq hn) hd ?_
  rw [nI_clamp (by omega), hv]
  exact kk p l e s m args below meth c H locs ls hB hR hS hL
theorem g_aald {k t q rr : Nat} {i : Int32} {rs : List Nat} (hd : decode code pc = .ok (.aaload, 1)) (hk : plan[k]? = some (.inr (.inr (t, rs)))) (hi : i = nI q) (hv : rs[q]? = some rr) (kk : G E B code fk (pc + 1) lv (.ref (B + rr) :: st) M) : G E B code fk pc lv (.int i :: .ref (B + k) :: st) M := by
  intro p l e s m args below meth c H locs ls hB hR hS hL
  have hE := hB.2.2.2.2.2.2.1
  obtain ⟨hn, ht⟩ := plan_r _ (List.mem_of_getElem? hk) t rs rfl
  have hq : q < rs.length := (List.getElem?_eq_some_iff.mp hv).1
  subst hi
  have h9 : va_rf (rs[(nI q).toNatClampNeg]?.map (fun r => B + r)) = .ref (B + rr) := by rw [nI_clamp (by omega), hv]; rfl
  rcases ht with rfl | rfl
  · refine va_aldq (C := "DunkedBiscuits$Shelf") hB.1 hB.2.1 hE.2.2.1 hR k 2 (wld_at hk) rfl (vp_in_nI hq hn) hd ?_
    rw [h9]
    exact kk p l e s m args below meth c H locs ls hB hR hS hL
  · refine va_aldq (C := "DunkedBiscuits$Biscuit") hB.1 hB.2.1 hE.2.2.1 hR k 3 (wld_at hk) rfl (vp_in_nI hq hn) hd ?_
    rw [h9]
    exact kk p l e s m args below meth c H locs ls hB hR hS hL
theorem upR_off {M : MM} {k : Nat} {f : Nat → Int32} : ∀ q, q ≠ k → (upR M (B + k) f).1 (B + q) = M.1 (B + q) ∧ (upR M (B + k) f).2 (B + q) = M.2 (B + q) := fun q hq => ⟨upR_n (by omega), rfl⟩
theorem upRL_off {M : MM} {k : Nat} {f : Nat → Int64} : ∀ q, q ≠ k → (upRL M (B + k) f).1 (B + q) = M.1 (B + q) ∧ (upRL M (B + k) f).2 (B + q) = M.2 (B + q) := fun q hq => ⟨rfl, upRL_n (by omega)⟩
theorem g_iast {k n q : Nat} {i x : Int32} (hd : decode code pc = .ok (.iastore, 1)) (hk : plan[k]? = some (.inr (.inl (n, false)))) (hi : i = nI q) (hq : q < n) (kk : G E B code fk (pc + 1) lv st (upI M (B + k) q x)) : G E B code fk pc lv (.int x :: .int i :: .ref (B + k) :: st) M := by
  intro p l e s m args below meth c H locs ls hB hR hS hL
  have hE := hB.2.2.2.2.2.2.1
  have hn := plan_n _ (List.mem_of_getElem? hk) n false rfl
  subst hi
  refine va_iast hB.1 hB.2.1 hE.2.2.1 hR wld_D hS k 0 (wld_at hk) rfl (vp_in_nI hq hn) hd (fun H1 locs1 hP hD hS1 => ?_)
  rw [nI_clamp (by omega)] at hP
  rw [wld_set (M' := upI M (B + k) q x) hk (by simp only [entV]; rw [upI, upR_s]) upI_off] at hP
  exact kk p l e s m args below meth c H1 locs1 ls hB hP hS1 hL
theorem upL_off {M : MM} {k j : Nat} {x : Int64} : ∀ q, q ≠ k → (upL M (B + k) j x).1 (B + q) = M.1 (B + q) ∧ (upL M (B + k) j x).2 (B + q) = M.2 (B + q) := fun q hq => ⟨rfl, upL_n (by omega)⟩
theorem g_last {k n q : Nat} {i : Int32} {x : Int64} (hd : decode code pc = .ok (.lastore, 1)) (hk : plan[k]? = some (.inr (.inl (n, true)))) (hi : i = nI q) (hq : q < n) (kk : G E B code fk (pc + 1) lv st (upL M (B + k) q x)) : G E B code fk pc lv (.long x :: .int i :: .ref (B + k) :: st) M := by
  intro p l e s m args below meth c H locs ls hB hR hS hL
  have hE := hB.2.2.2.2.2.2.1
  have hn := plan_n _ (List.mem_of_getElem? hk) n true rfl
  subst hi
  refine va_last hB.1 hB.2.1 hE.2.2.1 hR wld_D hS k 1 (wld_at hk) rfl (vp_in_nI hq hn) hd (fun H1 locs1 hP hD hS1 => ?_)
  rw [nI_clamp (by omega)] at hP
  rw [wld_set (M' := upL M (B + k) q x) hk (by simp only [entV]; rw [upL, upRL_s]) upL_off] at hP
  exact kk p l e s m args below meth c H1 locs1 ls hB hP hS1 hL
theorem g_alen {k n : Nat} {b : Bool} {v : Int32} (hd : decode code pc = .ok (.arraylength, 1)) (hk : plan[k]? = some (.inr (.inl (n, b)))) (hv : nI n = v) (kk : G E B code fk (pc + 1) lv (.int v :: st) M) : G E B code fk pc lv (.ref (B + k) :: st) M := by
  intro p l e s m args below meth c H locs ls hB hR hS hL
  have hE := hB.2.2.2.2.2.2.1
  cases b with
  | false => exact va_alen hB.1 hB.2.1 hE.2.2.1 hR k 0 (wld_at hk) rfl hv hd (kk p l e s m args below meth c H locs ls hB hR hS hL)
  | true => exact va_alen hB.1 hB.2.1 hE.2.2.1 hR k 1 (wld_at hk) rfl hv hd (kk p l e s m args below meth c H locs ls hB hR hS hL)
/-! the two tables -/
theorem g_getAb {idx : Nat} (hd : decode code pc = .ok (.getstatic idx, 3)) (hw : Cond.fieldLinkNest fk.1 idx "DunkedBiscuits" "ABOVE" "[I" "DunkedBiscuits" ∈ tbN) (kk : G E B code fk (pc + 3) lv (.ref E.2.2.1 :: st) M) : G E B code fk pc lv st M := by
  intro p l e s m args below meth c H locs ls hB hR hS hL
  have hE := hB.2.2.2.2.2.2.1
  exact va_getsN hB.1 hB.2.1 hE.2.2.2.1.1 hS hB.2.2.2.2.2.1 (va_Nw.use (tbN_tab _ hw) (hE.2.1 _ hw)) (fun _ h => h) hd (kk p l e s m args below meth c H locs ls hB hR hS hL)
theorem g_getBo {idx : Nat} (hd : decode code pc = .ok (.getstatic idx, 3)) (hw : Cond.fieldLink fk.1 idx "DunkedBiscuits$Act" "BODIES" "[I" ∈ tbG) (kk : G E B code fk (pc + 3) lv (.ref E.2.2.2.1 :: st) M) : G E B code fk pc lv st M := by
  intro p l e s m args below meth c H locs ls hB hR hS hL
  have hE := hB.2.2.2.2.2.2.1
  exact va_gets hB.1 hB.2.1 hE.2.2.2.1.2.2.1 hS hB.2.2.2.2.2.1 (hE.1 _ hw args) (fun _ h => h) hd (kk p l e s m args below meth c H locs ls hB hR hS hL)
theorem g_ialdAb {q : Nat} {i x : Int32} (hd : decode code pc = .ok (.iaload, 1)) (hi : i = nI q) (hq : q < 7) (hv : fAb q = x) (kk : G E B code fk (pc + 1) lv (.int x :: st) M) : G E B code fk pc lv (.int i :: .ref E.2.2.1 :: st) M := by
  intro p l e s m args below meth c H locs ls hB hR hS hL
  have hE := hB.2.2.2.2.2.2.1
  subst hi
  exact va_ti hB.1 hB.2.1 hE.2.2.2.1.2.1 hS (vp_in_nI hq (by omega)) (by rw [nI_clamp (by omega), hv]) hd (kk p l e s m args below meth c H locs ls hB hR hS hL)
theorem g_ialdBo {q : Nat} {i x : Int32} (hd : decode code pc = .ok (.iaload, 1)) (hi : i = nI q) (hq : q < 21) (hv : fBo q = x) (kk : G E B code fk (pc + 1) lv (.int x :: st) M) : G E B code fk pc lv (.int i :: .ref E.2.2.2.1 :: st) M := by
  intro p l e s m args below meth c H locs ls hB hR hS hL
  have hE := hB.2.2.2.2.2.2.1
  subst hi
  exact va_ti hB.1 hB.2.1 hE.2.2.2.1.2.2.2 hS (vp_in_nI hq (by omega)) (by rw [nI_clamp (by omega), hv]) hd (kk p l e s m args below meth c H locs ls hB hR hS hL)
/-! calls -/
/-- an instance method's words, its number of parameters -/
def MI (y : MethodName) (code : ByteArray) (nL : Nat) (ret : Option FieldType) (n : Nat) : Prop := Cond.code y code nL ret ∈ tbG ∧ Cond.instanceMethod y ∈ tbG ∧ Cond.selects y.cls y y ∈ tbG ∧ Cond.initialized y.cls ∈ tbG ∧ (y.cls ≠ "java/lang/invoke/MethodHandle" ∧ y.cls ≠ "java/lang/invoke/VarHandle") ∧ (parseMethodDescriptor y.desc).map (fun d => d.parameters.length) = some n
def MS (y : MethodName) (code : ByteArray) (nL : Nat) (ret : Option FieldType) (n : Nat) : Prop := Cond.code y code nL ret ∈ tbG ∧ Cond.static y ∈ tbG ∧ Cond.initialized y.cls ∈ tbG ∧ (y.cls ≠ "java/lang/invoke/MethodHandle" ∧ y.cls ≠ "java/lang/invoke/VarHandle") ∧ (parseMethodDescriptor y.desc).map (fun d => d.parameters.length) = some n
theorem PcO_blind {As : List Value} : FrameBlind (PcO E B As M) := fun a U g mk h => ⟨h.1, EV.same (u := U) (U := U.calling g mk a) rfl rfl h.2.1, h.2.2⟩
theorem ws_warm {s : State} {y : MethodName} {code2 : ByteArray} {nL : Nat} {ret : Option FieldType} (hE : EV E B s) (hc : Cond.code y code2 nL ret ∈ tbG) : ∀ w ∈ (Cond.code y code2 nL ret :: tbG), ∀ (a' : Array Value) (U : State), s.WarmedH U.vm → w.before a' U = true := by
  intro w hw a' U hW
  rcases List.mem_cons.mp hw with rfl | hw
  · exact word_at hW (Or.inl (by simp [tg_ok hc])) (hE.1 _ hc a')
  · exact word_at hW (Or.inl (by simp [tg_ok hw])) (hE.1 _ hw a')
theorem va_back {p : Program} {l : Launch} {e : Env} {R : Room} {s : State} {m : MethodId} {args : Array Value} {below : List Frame} {meth : Method} {c : Code} {H : Heap} {locs : List Loc} {cells slots : Nat} {Q : State → Prop} {ls : Array Slot} {st0 rest : List Value} {a : Array Value} {F : Option Value → MM → Prop}
    (hr : va_Run p l e R s m args below meth c H locs cells slots 0 0 (F0 m pc ls st0) rest (QcO E B F a) (AA B)) (hS : va_S (AA B) s.heap H locs)
    (kk : ∀ (r : Option Value) (M' : MM), F r M' → ∀ (H1 : Heap) (locs1 : List Loc), Rep E B M' H1 → va_S (AA B) s.heap H1 locs1 → W p l e R s m args below meth c H1 locs1 cells slots Q (F0 m (pc + 3) ls (r.toList ++ rest))) : W p l e R s m args below meth c H locs cells slots Q (F0 m pc ls st0) := by
  intro T hT X
  obtain ⟨v, st₀, t, T', L, h0, X', hL, e1, e2, ⟨⟨r, M', hv, hF, hR'⟩, hz, hk⟩, stp⟩ := hr T hT X
  cases hv
  rw [h0] at hz hk
  obtain ⟨t2, a1, b1⟩ := kk v M' hF T'.heap (locs ++ L) (by rw [e1]; exact hR')
    ⟨Nat.le_trans hS.1 (by rw [e1]; exact hz), fun q h1 h2 => by rw [e1, hk q (Nat.lt_of_lt_of_le h1 hS.1) h2]; exact hS.2.1 q h1 h2, fun q hq => by
      rcases List.mem_append.mp hq with h | h
      · exact hS.2.2 q h
      · exact hL q h⟩ T' rfl X'
  exact ⟨t2, stp t2 a1, b1⟩
theorem g_callV {idx k ci d nL n : Nat} {y : MethodName} {code2 : ByteArray} {ret2 : Option FieldType} {As st0 : List Value} {fs : List (Option Nat)} {F : Option Value → MM → Prop}
    (hd : decode code pc = .ok (.invokevirtual idx, 3)) (hm : MI y code2 nL ret2 n) (hl : Cond.methodLink fk.1 idx y ∈ tbG) (hC : Ct E B y code2 nL ret2 d (.ref (B + k) :: As) M F) (hk : plan[k]? = some (.inl (ci, fs))) (hc : (vwCl[ci]?).map (fun q => q.1) = some y.cls) (hn : As.length = n) (hst : st0 = As.reverse ++ .ref (B + k) :: st) (hw : (st.map fun v => v.category).sum ≤ 8)
    (hr : d + 1 ≤ fk.2.2.2.1.frames ∧ 8 + (nL + 11) + 40 * d ≤ fk.2.2.2.1.locals) (kk : ∀ (r : Option Value) (M' : MM), F r M' → G E B code fk (pc + 3) lv (r.toList ++ st) M') : G E B code fk pc lv st0 M := by
  intro p l e s m args below meth c H locs ls hB hR hS hL
  have hE := hB.2.2.2.2.2.2.1
  obtain ⟨m1, m2, m3, m4, m5, m6⟩ := hm
  subst hst
  cases hcc : vwCl[ci]? with
  | none => rw [hcc] at hc; cases hc
  | some q =>
    rw [hcc] at hc
    have hq1 : q.1 = y.cls := Option.some.inj hc
    have hrv := va_recv (q0 := k) hE.2.2.1 hR hcc (wld_at hk)
    rw [hq1] at hrv
    refine va_back (va_runV (own := fk.1) (cc := code) (nL := fk.2.1) (Ts := tbG) (b := B + k) (As := As) (rest := st) (n := n) ⟨hB.1, hB.2.1, hB.2.2.1, hB.2.2.2.2.2.1, fun w hw => hE.1 w hw args⟩ (hC l) ⟨⟨rfl, rfl, hr.1, hr.2, ws_warm hE m1, List.mem_cons_self, hE.1 _ m1 args, hE.1 _ m4 args, m5, fun sig h => ?_, hE.1 _ hl args⟩, hE.1 _ m2 args, hE.1 _ m3 args⟩ ⟨PcO_blind, hrv, fun U hU hW => ⟨rfl, EV.warm hW hU hS hE, by rw [hU]; exact hR⟩⟩ rfl hn hL.1 rfl (by simpa using hw) hd hB.2.2.2.2.2.2.2) hS (fun r M' hF H1 locs1 hR1 hS1 => kk r M' hF p l e s m args below meth c H1 locs1 ls hB hR1 hS1 hL)
    rw [h] at m6
    exact (Option.some.inj m6).symm
theorem g_callS {idx d nL n : Nat} {y : MethodName} {code2 : ByteArray} {ret2 : Option FieldType} {As st0 : List Value} {F : Option Value → MM → Prop}
    (hd : decode code pc = .ok (.invokestatic idx, 3)) (hm : MS y code2 nL ret2 n) (hl : Cond.methodLink fk.1 idx y ∈ tbG) (hC : Ct E B y code2 nL ret2 d As M F) (hn : As.length = n) (hst : st0 = As.reverse ++ st) (hw : (st.map fun v => v.category).sum ≤ 8)
    (hr : d + 1 ≤ fk.2.2.2.1.frames ∧ 8 + (nL + 11) + 40 * d ≤ fk.2.2.2.1.locals) (kk : ∀ (r : Option Value) (M' : MM), F r M' → G E B code fk (pc + 3) lv (r.toList ++ st) M') : G E B code fk pc lv st0 M := by
  intro p l e s m args below meth c H locs ls hB hR hS hL
  have hE := hB.2.2.2.2.2.2.1
  obtain ⟨m1, m2, m4, m5, m6⟩ := hm
  subst hst
  refine va_back (va_runS (own := fk.1) (cc := code) (nL := fk.2.1) (Ts := tbG) (As := As) (rest := st) (n := n) ⟨hB.1, hB.2.1, hB.2.2.1, hB.2.2.2.2.2.1, fun w hw => hE.1 w hw args⟩ (hC l) ⟨⟨rfl, rfl, hr.1, hr.2, ws_warm hE m1, List.mem_cons_self, hE.1 _ m1 args, hE.1 _ m4 args, m5, fun sig h => ?_, hE.1 _ hl args⟩, hE.1 _ m2 args⟩ ⟨PcO_blind, fun U hU hW => ⟨rfl, EV.warm hW hU hS hE, by rw [hU]; exact hR⟩⟩ rfl hn hL.1 rfl (by simpa using hw) hd hB.2.2.2.2.2.2.2) hS (fun r M' hF H1 locs1 hR1 hS1 => kk r M' hF p l e s m args below meth c H1 locs1 ls hB hR1 hS1 hL)
  rw [h] at m6
  exact (Option.some.inj m6).symm
theorem g_callSN {idx d nL n : Nat} {y : MethodName} {host : String} {code2 : ByteArray} {ret2 : Option FieldType} {As st0 : List Value} {F : Option Value → MM → Prop}
    (hd : decode code pc = .ok (.invokestatic idx, 3)) (hm : MS y code2 nL ret2 n) (hl : Cond.methodLinkNest fk.1 idx y host ∈ tbN) (hC : Ct E B y code2 nL ret2 d As M F) (hn : As.length = n) (hst : st0 = As.reverse ++ st) (hw : (st.map fun v => v.category).sum ≤ 8)
    (hr : d + 1 ≤ fk.2.2.2.1.frames ∧ 8 + (nL + 11) + 40 * d ≤ fk.2.2.2.1.locals) (kk : ∀ (r : Option Value) (M' : MM), F r M' → G E B code fk (pc + 3) lv (r.toList ++ st) M') : G E B code fk pc lv st0 M := by
  intro p l e s m args below meth c H locs ls hB hR hS hL
  have hE := hB.2.2.2.2.2.2.1
  obtain ⟨m1, m2, m4, m5, m6⟩ := hm
  subst hst
  refine va_back (va_runSN (own := fk.1) (cc := code) (nL := fk.2.1) (Ts := tbG) (As := As) (rest := st) (n := n) (host := host) ⟨hB.1, hB.2.1, hB.2.2.1, hB.2.2.2.2.2.1, fun w hw => hE.1 w hw args⟩ (hC l) ⟨⟨⟨rfl, rfl, hr.1, hr.2, ws_warm hE m1, List.mem_cons_self⟩, hE.1 _ m1 args, hE.1 _ m4 args, m5, fun sig h => ?_, va_Nw.use (tbN_tab _ hl) (hE.2.1 _ hl)⟩, hE.1 _ m2 args, trivial⟩ ⟨PcO_blind, fun U hU hW => ⟨rfl, EV.warm hW hU hS hE, by rw [hU]; exact hR⟩⟩ rfl hn hL.1 rfl (by simpa using hw) hd hB.2.2.2.2.2.2.2) hS (fun r M' hF H1 locs1 hR1 hS1 => kk r M' hF p l e s m args below meth c H1 locs1 ls hB hR1 hS1 hL)
  rw [h] at m6
  exact (Option.some.inj m6).symm
/-! ends -/
section RET
variable {own : String} {nL : Nat} {R : Room} {F : Option Value → MM → Prop}
theorem g_iret {v : Int32} (hd : decode code pc = .ok (.ireturn, 1)) (h : F (some (.int v)) M) : G E B code (own, nL, some .int, R, 0, 0, KM E B F) pc lv [.int v] M := by
  intro p l e s m args below meth c H locs ls hB hR hS hL
  have hlocks := hB.2.2.2.2.1
  exact W.iret hB.1 hB.2.1 hB.2.2.2.1 (fun t ht hW => ⟨⟨_, M, rfl, h, by rw [ht]; exact hR⟩, hS.F ht⟩) hS.2.2 hd
theorem g_zret {v : Int32} (hd : decode code pc = .ok (.ireturn, 1)) (hv : v = 0 ∨ v = 1) (h : F (some (.int v)) M) : G E B code (own, nL, some .boolean, R, 0, 0, KM E B F) pc lv [.int v] M := by
  intro p l e s m args below meth c H locs ls hB hR hS hL
  have hlocks := hB.2.2.2.2.1
  exact W.zret hB.1 hB.2.1 hB.2.2.2.1 (nar_z hv) (fun t ht hW => ⟨⟨_, M, rfl, h, by rw [ht]; exact hR⟩, hS.F ht⟩) hS.2.2 hd
theorem g_lret {v : Int64} (hd : decode code pc = .ok (.lreturn, 1)) (h : F (some (.long v)) M) : G E B code (own, nL, some .long, R, 0, 0, KM E B F) pc lv [.long v] M := by
  intro p l e s m args below meth c H locs ls hB hR hS hL
  have hlocks := hB.2.2.2.2.1
  exact W.lret hB.1 hB.2.1 hB.2.2.2.1 (fun t ht hW => ⟨⟨_, M, rfl, h, by rw [ht]; exact hR⟩, hS.F ht⟩) hS.2.2 hd
theorem g_vret (hd : decode code pc = .ok (.return_, 1)) (h : F none M) : G E B code (own, nL, none, R, 0, 0, KM E B F) pc lv [] M := by
  intro p l e s m args below meth c H locs ls hB hR hS hL
  have hlocks := hB.2.2.2.2.1
  exact W.vret hB.1 hB.2.1 hB.2.2.2.1 (fun t ht hW => ⟨⟨_, M, rfl, h, by rw [ht]; exact hR⟩, hS.F ht⟩) hS.2.2 hd
end RET
/-! Math, arraycopy -/
set_option maxRecDepth 20000 in
theorem mw_max : Cond.static Lib.Math.max.name ∈ tbG ∧ Cond.initialized "java/lang/Math" ∈ tbG ∧ Cond.code Lib.Math.max.name Lib.Math.max.code 2 (some .int) ∈ tbG := ⟨tg_in 589 rfl rfl, tg_in 84 rfl rfl, tg_in 590 (by decide +kernel) rfl⟩
set_option maxRecDepth 20000 in
theorem mw_min : Cond.static Lib.Math.min.name ∈ tbG ∧ Cond.initialized "java/lang/Math" ∈ tbG ∧ Cond.code Lib.Math.min.name Lib.Math.min.code 2 (some .int) ∈ tbG := ⟨tg_in 631 rfl rfl, tg_in 84 rfl rfl, tg_in 632 (by decide +kernel) rfl⟩
theorem g_mmax {idx : Nat} {x y v : Int32} (hd : decode code pc = .ok (.invokestatic idx, 3)) (hl : Cond.methodLink fk.1 idx Lib.Math.max.name ∈ tbG) (hv : (if x < y then y else x) = v) (hr : 1 ≤ fk.2.2.2.1.frames ∧ (st.map fun v => v.category).sum + 13 ≤ fk.2.2.2.1.locals) (kk : G E B code fk (pc + 3) lv (.int v :: st) M) : G E B code fk pc lv (.int y :: .int x :: st) M := by
  intro p l e s m args below meth c H locs ls hB hR hS hL
  have hE := hB.2.2.2.2.2.2.1
  refine va_mmax hB.1 hB.2.1 (hB.2.2.1.trans hL.1.symm) hB.2.2.2.2.2.1 (hE.1 _ hl args) (hE.1 _ mw_max.1 args) (hE.1 _ mw_max.2.1 args) (hE.1 _ mw_max.2.2 args) hr.1 hr.2 hB.2.2.2.2.2.2.2.1 hB.2.2.2.2.2.2.2.2 hd ?_
  rw [hv]
  exact kk p l e s m args below meth c H locs ls hB hR hS hL
theorem g_mmin {idx : Nat} {x y v : Int32} (hd : decode code pc = .ok (.invokestatic idx, 3)) (hl : Cond.methodLink fk.1 idx Lib.Math.min.name ∈ tbG) (hv : (if y < x then y else x) = v) (hr : 1 ≤ fk.2.2.2.1.frames ∧ (st.map fun v => v.category).sum + 13 ≤ fk.2.2.2.1.locals) (kk : G E B code fk (pc + 3) lv (.int v :: st) M) : G E B code fk pc lv (.int y :: .int x :: st) M := by
  intro p l e s m args below meth c H locs ls hB hR hS hL
  have hE := hB.2.2.2.2.2.2.1
  refine va_mmin hB.1 hB.2.1 (hB.2.2.1.trans hL.1.symm) hB.2.2.2.2.2.1 (hE.1 _ hl args) (hE.1 _ mw_min.1 args) (hE.1 _ mw_min.2.1 args) (hE.1 _ mw_min.2.2 args) hr.1 hr.2 hB.2.2.2.2.2.2.2.1 hB.2.2.2.2.2.2.2.2 hd ?_
  rw [hv]
  exact kk p l e s m args below meth c H locs ls hB hR hS hL
theorem mw_cpy : Cond.native arraycopyName ∈ tbG ∧ Cond.static arraycopyName ∈ tbG ∧ Cond.initialized "java/lang/System" ∈ tbG := ⟨tg_in 395 rfl rfl, tg_in 394 rfl rfl, tg_in 79 rfl rfl⟩
theorem g_cpyI {idx k0 k1 n0 n1 sp dp n : Nat} {sp' dp' n' : Int32} (hd : decode code pc = .ok (.invokestatic idx, 3)) (hl : Cond.methodLink fk.1 idx arraycopyName ∈ tbG) (h0 : plan[k0]? = some (.inr (.inl (n0, false)))) (h1 : plan[k1]? = some (.inr (.inl (n1, false)))) (e0 : sp' = nI sp) (e1 : dp' = nI dp) (e2 : n' = nI n) (b0 : sp + n ≤ n0) (b1 : dp + n ≤ n1)
    (hr : 1 ≤ fk.2.2.2.1.frames ∧ (st.map fun v => v.category).sum + (nativeFrameWords "java/lang/System" "arraycopy" 5 + 11) ≤ fk.2.2.2.1.locals) (kk : G E B code fk (pc + 3) lv st (upR M (B + k1) (va_cpy (M.1 (B + k0)) (M.1 (B + k1)) sp dp n))) : G E B code fk pc lv (.int n' :: .int dp' :: .ref (B + k1) :: .int sp' :: .ref (B + k0) :: st) M := by
  intro p l e s m args below meth c H locs ls hB hR hS hL
  have hE := hB.2.2.2.2.2.2.1
  have l0 := plan_n _ (List.mem_of_getElem? h0) n0 false rfl
  have l1 := plan_n _ (List.mem_of_getElem? h1) n1 false rfl
  have c0 : (nI sp).toNatClampNeg = sp := nI_clamp (by omega)
  have c1 : (nI dp).toNatClampNeg = dp := nI_clamp (by omega)
  have c2 : (nI n).toNatClampNeg = n := nI_clamp (by omega)
  subst e0; subst e1; subst e2
  refine va_copyi (ty := .int) hB.1 hB.2.1 (hB.2.2.1.trans hL.1.symm) hB.2.2.2.2.2.1 (hE.1 _ hl args) (hE.1 _ mw_cpy.1 args) (hE.1 _ mw_cpy.2.1 args) (hE.1 _ mw_cpy.2.2 args) hE.2.2.1 hR wld_D hS k0 k1 0 0 (wld_at h0) (wld_at h1) rfl rfl rfl (nI_pos (by omega)) (nI_pos (by omega)) (nI_pos (by omega)) (by rw [c0, c2]; exact b0) (by rw [c1, c2]; exact b1) (fun i _ => rfl) hr.1 hr.2 hd (fun H1 locs1 hP hD hS1 => ?_)
  rw [c0, c1, c2] at hP
  rw [wld_set (M' := upR M (B + k1) (va_cpy (M.1 (B + k0)) (M.1 (B + k1)) sp dp n)) h1 (by simp only [entV]; rw [upR_s]) upR_off] at hP
  exact kk p l e s m args below meth c H1 locs1 ls hB hP hS1 hL
theorem g_cpyL {idx k0 k1 n0 n1 sp dp n : Nat} {sp' dp' n' : Int32} (hd : decode code pc = .ok (.invokestatic idx, 3)) (hl : Cond.methodLink fk.1 idx arraycopyName ∈ tbG) (h0 : plan[k0]? = some (.inr (.inl (n0, true)))) (h1 : plan[k1]? = some (.inr (.inl (n1, true)))) (e0 : sp' = nI sp) (e1 : dp' = nI dp) (e2 : n' = nI n) (b0 : sp + n ≤ n0) (b1 : dp + n ≤ n1)
    (hr : 1 ≤ fk.2.2.2.1.frames ∧ (st.map fun v => v.category).sum + (nativeFrameWords "java/lang/System" "arraycopy" 5 + 11) ≤ fk.2.2.2.1.locals) (kk : G E B code fk (pc + 3) lv st (upRL M (B + k1) (va_cpy (M.2 (B + k0)) (M.2 (B + k1)) sp dp n))) : G E B code fk pc lv (.int n' :: .int dp' :: .ref (B + k1) :: .int sp' :: .ref (B + k0) :: st) M := by
  intro p l e s m args below meth c H locs ls hB hR hS hL
  have hE := hB.2.2.2.2.2.2.1
  have l0 := plan_n _ (List.mem_of_getElem? h0) n0 true rfl
  have l1 := plan_n _ (List.mem_of_getElem? h1) n1 true rfl
  have c0 : (nI sp).toNatClampNeg = sp := nI_clamp (by omega)
  have c1 : (nI dp).toNatClampNeg = dp := nI_clamp (by omega)
  have c2 : (nI n).toNatClampNeg = n := nI_clamp (by omega)
  subst e0; subst e1; subst e2
  refine va_copyl (ty := .long) hB.1 hB.2.1 (hB.2.2.1.trans hL.1.symm) hB.2.2.2.2.2.1 (hE.1 _ hl args) (hE.1 _ mw_cpy.1 args) (hE.1 _ mw_cpy.2.1 args) (hE.1 _ mw_cpy.2.2 args) hE.2.2.1 hR wld_D hS k0 k1 1 1 (wld_at h0) (wld_at h1) rfl rfl rfl (nI_pos (by omega)) (nI_pos (by omega)) (nI_pos (by omega)) (by rw [c0, c2]; exact b0) (by rw [c1, c2]; exact b1) (fun i _ => rfl) hr.1 hr.2 hd (fun H1 locs1 hP hD hS1 => ?_)
  rw [c0, c1, c2] at hP
  rw [wld_set (M' := upRL M (B + k1) (va_cpy (M.2 (B + k0)) (M.2 (B + k1)) sp dp n)) h1 (by simp only [entV]; rw [upRL_s]) upRL_off] at hP
  exact kk p l e s m args below meth c H1 locs1 ls hB hP hS1 hL
end GG
