/-! the world that the constructors leave is the plan's; the first system; frames -/
def matF : Option Nat → FV → Bool
  | none, some (.inl _) => true
  | some r, some (.inr q) => decide (r = q)
  | _, _ => false
def matL : List (Option Nat) → List FV → Bool
  | [], [] => true
  | a :: s, b :: t => matF a b && matL s t
  | _, _ => false
def mat : LE → LN → Bool
  | .inl (c, fs), .inl (c2, fs2) => decide (c = c2) && matL fs fs2
  | .inr (.inl (n, b)), .inr (.inl (n2, b2, _)) => decide (n = n2) && (b == b2)
  | .inr (.inr (t, rs)), .inr (.inr (t2, rs2)) => decide (t = t2) && decide (rs.map some = rs2)
  | _, _ => false
def mv : Option LN → Nat → Int32
  | some (.inl (_, fs)), j => (match fs[j]? with | some (some (.inl x)) => x | _ => 0)
  | some (.inr (.inl (_, _, xs))), j => xs.getD j 0
  | _, _ => 0
def mW (B : Nat) : MM := (fun a j => if B ≤ a then mv (wW81[a - B]?) j else 0, fun _ _ => 0)
theorem mW_at {B k : Nat} : (mW B).1 (B + k) = mv (wW81[k]?) := by
  funext j
  simp [mW]
theorem matL_at : ∀ {fs : List (Option Nat)} {gs : List FV}, matL fs gs = true → ∀ j : Nat, (fs[j]? = none ∧ gs[j]? = none) ∨ ∃ a b, fs[j]? = some a ∧ gs[j]? = some b ∧ matF a b = true
  | [], [], _, j => Or.inl ⟨rfl, rfl⟩
  | a :: s, b :: t, h, j => by
    simp only [matL, Bool.and_eq_true] at h
    cases j with
    | zero => exact Or.inr ⟨a, b, rfl, rfl, h.1⟩
    | succ i =>
      simp only [List.getElem?_cons_succ]
      exact matL_at h.2 i
  | [], _ :: _, h, _ => by cases h
  | _ :: _, [], h, _ => by cases h
theorem mat_of {E : EE} {B k : Nat} : ∀ {le : LE} {ln : LN}, mat le ln = true → wW81[k]? = some ln → entN E B ln = entV E B (mW B) k le
  | .inl (c, fs), .inl (c2, fs2), h, hk => by
    simp only [mat, Bool.and_eq_true, decide_eq_true_eq] at h
    obtain ⟨rfl, h2⟩ := h
    simp only [entN, entV]
    congr 2
    apply List.ext_getElem?
    intro i
    rw [List.getElem?_map, List.getElem?_mapIdx]
    rcases matL_at h2 i with ⟨a1, a2⟩ | ⟨a, b, a1, a2, a3⟩
    · rw [a1, a2]; rfl
    · rw [a1, a2]
      simp only [Option.map_some]
      congr 1
      match a, b, a3 with
      | none, some (.inl x), _ =>
        show Value.int x = Value.int ((mW B).1 (B + k) i)
        rw [mW_at, hk]
        simp only [mv, a2]
      | some r, some (.inr q), a3 =>
        have := of_decide_eq_true a3
        subst this
        rfl
  | .inr (.inl (n, b)), .inr (.inl (n2, b2, xs)), h, hk => by
    simp only [mat, Bool.and_eq_true, decide_eq_true_eq, beq_iff_eq] at h
    obtain ⟨rfl, rfl⟩ := h
    cases b with
    | false =>
      simp only [entN, entV]
      rw [mW_at, hk]
      rfl
    | true => rfl
  | .inr (.inr (t, rs)), .inr (.inr (t2, rs2)), h, hk => by
    simp only [mat, Bool.and_eq_true, decide_eq_true_eq] at h
    obtain ⟨rfl, rfl⟩ := h
    simp only [entN, entV, List.length_map]
    congr 6
    refine congrArg Sum.inr (funext fun i => ?_)
    rw [List.getD_eq_getElem?_getD, List.getElem?_map]
    cases rs[i]? <;> rfl
  | .inl _, .inr _, h, _ => by simp [mat] at h
  | .inr (.inl _), .inl _, h, _ => by simp [mat] at h
  | .inr (.inr _), .inl _, h, _ => by simp [mat] at h
  | .inr (.inl _), .inr (.inr _), h, _ => by simp [mat] at h
  | .inr (.inr _), .inr (.inl _), h, _ => by simp [mat] at h
def matA (k : Nat) : Bool := match plan[k]?, wW81[k]? with
  | some a, some b => mat a b
  | none, none => true
  | _, _ => false
set_option maxRecDepth 30000 in
theorem matA_all : ∀ k, k < 102 → matA k = true := by decide +kernel
set_option maxRecDepth 30000 in
theorem plan_len : plan.length = 102 := by decide +kernel
theorem Rep.ofN {E : EE} {B : Nat} {H : Heap} (h : RepN E B wW81 H) : Rep E B (mW B) H := by
  intro k q hq
  simp only [wld, List.getElem?_mapIdx, Option.map_eq_some_iff] at hq
  obtain ⟨le, hle, rfl⟩ := hq
  have hk : k < 102 := by rw [← plan_len]; exact (List.getElem?_eq_some_iff.mp hle).1
  have hm := matA_all k hk
  unfold matA at hm
  rw [hle] at hm
  cases hw : wW81[k]? with
  | none => rw [hw] at hm; cases hm
  | some ln =>
    rw [hw] at hm
    rw [← mat_of hm hw]
    exact h.1 k ln hw
/-- the first system -/
def y0 : Sys := (fun _ => (0, 0, 0, fun _ => 0), (fun _ => (0, 0, 0, fun _ => 0), fun _ => 0, 0, 60, 20, 1000, 0, 0, 0, 1), (fun _ => (0, 0, 0, fun _ => 0), fun _ => 0, 0, 60, 20, 1000, 0, 0, 0, 1), false, -1, fun _ => 0, 0, fun _ => 0)
theorem okY_0 : okY y0 := by
  refine ⟨fun q _ => ⟨Nat.zero_le 2, fun h => (by cases h), fun h => (by cases h)⟩, ⟨fun q h => absurd h (Nat.not_lt_zero q), fun i => Nat.zero_le _, by decide, by decide, ⟨by decide, by decide⟩, by decide⟩, fun h => (by cases h), by decide⟩
set_option maxRecDepth 30000 in
theorem RY_0 {B : Nat} : RY B (mW B) y0 := by
  refine ⟨fun q hq => ?_, ⟨fun q h => absurd h (Nat.not_lt_zero q), fun i hi => ?_, ?_⟩, fun h => (by cases h), ?_, ?_, fun j hj => ?_, ⟨?_, fun i h _ => absurd h (Nat.not_lt_zero i)⟩⟩
  · unfold RH
    rw [mW_at]
    have h := (by decide +kernel : ∀ q, q < 8 → mv wW81[64 + 2 * q]? 1 = -1 ∧ mv wW81[64 + 2 * q]? 2 = nI 0 ∧ mv wW81[64 + 2 * q]? 3 = -1) q hq
    exact ⟨h.1, h.2.1, h.2.2, fun h => (by cases h)⟩
  · rw [mW_at]
    exact (by decide +kernel : ∀ i, i < 10 → mv wW81[2 + 2]? i = nI 0) i hi
  · rw [mW_at]
    exact (by decide +kernel : mv wW81[2]? 2 = nI 0 ∧ mv wW81[2]? 3 = nI 60 ∧ mv wW81[2]? 4 = nI 20 ∧ mv wW81[2]? 5 = nI 1000 ∧ mv wW81[2]? 6 = 0 ∧ mv wW81[2]? 7 = 0 ∧ mv wW81[2]? 8 = 0 ∧ mv wW81[2]? 9 = 1)
  · rw [mW_at]
    exact (by decide +kernel : mv wW81[0]? 13 = nI 0)
  · rw [mW_at]
    exact (by decide +kernel : mv wW81[0]? 14 = -1)
  · rw [mW_at]
    exact (by decide +kernel : ∀ j, j < 8 → mv wW81[60]? j = 0) j hj
  · rw [mW_at]
    exact (by decide +kernel : mv wW81[56]? 4 = nI 0)
set_option maxRecDepth 30000 in
theorem RM_0 {B : Nat} : RM B (mW B) y0 := by
  refine ⟨fun q hq => ⟨?_, fun h => (by cases h), fun h => (by cases h)⟩, ⟨fun q h => absurd h (Nat.not_lt_zero q), fun i hi => ?_, ?_⟩, fun h => (by cases h), ?_, ?_, fun j hj => ?_, ⟨?_, fun i h _ => absurd h (Nat.not_lt_zero i)⟩, fun j hj => ?_⟩
  · rw [mW_at]
    exact (by decide +kernel : ∀ q, q < 8 → mv wW81[87]? q = nI 0) q hq
  · rw [mW_at]
    exact (by decide +kernel : ∀ i, i < 10 → mv wW81[86]? i = nI 0) i hi
  · rw [mW_at]
    exact (by decide +kernel : mv wW81[80]? 0 = nI 0 ∧ mv wW81[80]? 1 = nI 60 ∧ mv wW81[80]? 2 = nI 20 ∧ mv wW81[80]? 3 = nI 1000 ∧ mv wW81[80]? 4 = 0 ∧ mv wW81[80]? 5 = 0 ∧ mv wW81[80]? 6 = 0 ∧ mv wW81[80]? 7 = 1)
  · rw [mW_at]
    exact (by decide +kernel : mv wW81[80]? 42 = nI 0)
  · rw [mW_at]
    exact (by decide +kernel : mv wW81[80]? 8 = -1)
  · rw [mW_at]
    exact (by decide +kernel : ∀ j, j < 8 → mv wW81[81]? j = 0) j hj
  · rw [mW_at]
    exact (by decide +kernel : mv wW81[80]? 41 = nI 0)
  · rw [mW_at]
    exact (by decide +kernel : ∀ j, j < 43 → mv wW81[93]? j = nI (wdF j)) j hj
/-- the model's calls leave the class -/
theorem RY.mm {B : Nat} {M M' : MM} {y : Sys} (h : RY B M y) (ho : okY y) (hS : Sm B M M' 80 102) : RY B M' y := by
  obtain ⟨h1, h2, h3, h4, h5, h6, h7⟩ := h
  exact ⟨fun q hq => (h1 q hq).sm hS (by omega), h2.sm ho.2.1 hS (by omega), fun hb => (h3 hb).sm (ho.2.2.1 hb) hS (by omega), by rw [hS.i (by omega)]; exact h4, by rw [hS.i (by omega)]; exact h5, fun j hj => by rw [hS.i (by omega)]; exact h6 j hj, h7.sm hS (by omega)⟩
/-- the class's calls leave the model -/
theorem RM.yy {B : Nat} {M M' : MM} {y : Sys} (h : RM B M y) (hS : Sm B M M' 0 80) : RM B M' y := by
  unfold RM RWq RN RK RTm at h ⊢
  rw [hS.i (q := 80) (by omega), hS.i (q := 81) (by omega), hS.i (q := 82) (by omega), hS.i (q := 83) (by omega), hS.i (q := 84) (by omega), hS.i (q := 85) (by omega), hS.i (q := 86) (by omega), hS.i (q := 87) (by omega), hS.i (q := 88) (by omega), hS.i (q := 89) (by omega), hS.i (q := 90) (by omega), hS.l (q := 91) (by omega), hS.i (q := 93) (by omega), hS.i (q := 96) (by omega), hS.i (q := 101) (by omega)]
  exact h
/-- both in memory -/
def RX (B : Nat) (M : MM) (y : Sys) : Prop := RY B M y ∧ RM B M y ∧ okY y
