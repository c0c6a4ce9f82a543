/-! what the biscuits do, in plain numbers -/
theorem Ct.of2 {E : EE} {B : Nat} {code : ByteArray} {M : MM} {lv : List (Nat × Value)} {y : MethodName} {own : String} {nL : Nat} {ret : Option FieldType} {d : Nat} {As : List Value} {F : Option Value → MM → Prop} (hy : plainName own = true) (hown : y.cls = own) (hn : (lg_sl As).length ≤ nL) (hlv : lv_args 0 As = lv)
    (h : G E B code (own, nL, ret, rmD d, 0, 0, KM E B F) 0 lv [] M) : Ct E B y code nL ret d As M F := by
  subst hlv
  exact Ct.of (by rw [hown]; exact hy) hown hn h
theorem pn_X0 : plainName RX0 = true := by decide +kernel
theorem pn_X1 : plainName RX1 = true := by decide +kernel
theorem pn_X2 : plainName RX2 = true := by decide +kernel
theorem pn_X3 : plainName RX3 = true := by decide +kernel
theorem pn_X4 : plainName RX4 = true := by decide +kernel
theorem pn_X5 : plainName RX5 = true := by decide +kernel
theorem pn_X6 : plainName RX6 = true := by decide +kernel
theorem pn_X7 : plainName RX7 = true := by decide +kernel
/-- memory outside lo .. hi is the same -/
def Sm (B : Nat) (M M' : MM) (lo hi : Nat) : Prop := ∀ q, (q < lo ∨ hi ≤ q) → M'.1 (B + q) = M.1 (B + q) ∧ M'.2 (B + q) = M.2 (B + q)
theorem Sm.rf {B : Nat} {M : MM} {lo hi : Nat} : Sm B M M lo hi := fun _ _ => ⟨rfl, rfl⟩
theorem Sm.tr {B : Nat} {M M1 M2 : MM} {lo hi : Nat} (h1 : Sm B M M1 lo hi) (h2 : Sm B M1 M2 lo hi) : Sm B M M2 lo hi := fun q hq => ⟨(h2 q hq).1.trans (h1 q hq).1, (h2 q hq).2.trans (h1 q hq).2⟩
theorem Sm.up {B : Nat} {M M' : MM} {lo hi lo' hi' : Nat} (h : Sm B M M' lo hi) (h1 : lo' ≤ lo) (h2 : hi ≤ hi') : Sm B M M' lo' hi' := fun q hq => h q (by omega)
theorem Sm.i {B : Nat} {M M' : MM} {lo hi q : Nat} (h : Sm B M M' lo hi) (hq : q < lo ∨ hi ≤ q) : M'.1 (B + q) = M.1 (B + q) := (h q hq).1
theorem Sm.l {B : Nat} {M M' : MM} {lo hi q : Nat} (h : Sm B M M' lo hi) (hq : q < lo ∨ hi ≤ q) : M'.2 (B + q) = M.2 (B + q) := (h q hq).2
theorem Sm.pI {B : Nat} {M : MM} {lo hi k j : Nat} {x : Int32} (h1 : lo ≤ k) (h2 : k < hi) : Sm B M (upI M (B + k) j x) lo hi := fun q hq => upI_off q (by omega)
theorem Sm.pR {B : Nat} {M : MM} {lo hi k : Nat} {f : Nat → Int32} (h1 : lo ≤ k) (h2 : k < hi) : Sm B M (upR M (B + k) f) lo hi := fun q hq => upR_off q (by omega)
theorem Sm.pRL {B : Nat} {M : MM} {lo hi k : Nat} {f : Nat → Int64} (h1 : lo ≤ k) (h2 : k < hi) : Sm B M (upRL M (B + k) f) lo hi := fun q hq => upRL_off q (by omega)
theorem Sm.pL {B : Nat} {M : MM} {lo hi k j : Nat} {x : Int64} (h1 : lo ≤ k) (h2 : k < hi) : Sm B M (upL M (B + k) j x) lo hi := fun q hq => upL_off q (by omega)
/-- a biscuit: kind, a, cells, how wet -/
abbrev Bi : Type := Nat × Nat × Nat × (Nat → Nat)
def okB (b : Bi) : Prop := b.1 ≤ 6 ∧ b.2.1 ≤ 9 ∧ b.2.2.1 ≤ 12 ∧ ∀ i, b.2.2.2 i ≤ 99
def RB (M : MM) (p q : Nat) (b : Bi) : Prop := M.1 p 0 = nI b.1 ∧ M.1 p 1 = nI b.2.1 ∧ M.1 p 2 = nI b.2.2.1 ∧ ∀ i, i < b.2.2.1 → M.1 q i = nI (b.2.2.2 i)
theorem RB.sm {B : Nat} {M M' : MM} {lo hi k k' : Nat} {b : Bi} (h : RB M (B + k) (B + k') b) (hS : Sm B M M' lo hi) (h1 : k < lo ∨ hi ≤ k) (h2 : k' < lo ∨ hi ≤ k') : RB M' (B + k) (B + k') b := by
  unfold RB
  rw [hS.i h1, hS.i h2]
  exact h
def soakN (kd a n c h : Nat) : Nat :=
  if kd = 1 ∨ kd = 3 then (1 + a + h / 10) / 2 else if kd = 2 ∨ kd = 5 then (if c = n / 2 then (1 + a + h / 10) * 2 else 1 + a + h / 10) else if kd = 4 ∨ kd = 6 then (1 + a + h / 10) * 2 else 1 + a + h / 10
def creepN (kd : Nat) (w : Nat → Nat) (c : Nat) : Nat := if c = 0 then 0 else if kd = 3 then (w (c - 1) - w c) / 2 else (w (c - 1) - w c) / 4
def extN (kd a : Nat) : Nat := if kd = 5 then 40 else if kd = 6 then a else 0
def holdI (kd a w : Nat) : Int32 := nI (60 + extN kd a) - nI w
def hangN (w : Nat → Nat) : Nat → Nat
  | 0 => 0
  | c + 1 => hangN w c + (1 + w c / 20)
/-- the lowest cell of c, c + 1, .. at which it breaks; 0: none -/
def brkF (e : Nat) (w : Nat → Nat) (n : Nat) : Nat → Nat → Nat
  | 0, _ => 0
  | f + 1, c => if c < n then (if 60 + e < hangN w c + w c then c else brkF e w n f (c + 1)) else 0
def brkN (kd a n : Nat) (w : Nat → Nat) : Nat := brkF (extN kd a) w n n 1
def brkI (r : Nat) : Int32 := if r = 0 then -1 else nI r
def sumN (f : Nat → Nat) : Nat → Nat
  | 0 => 0
  | n + 1 => sumN f n + f n
def turnW (n : Nat) (w : Nat → Nat) : Nat → Nat := fun i => if i < n then w (n - 1 - i) else w i
def ofN (kd g : Nat) : Prop := g = 0 ∨ kd = g ∨ (g = 1 ∧ kd = 3) ∨ (g = 2 ∧ kd = 5) ∨ (g = 4 ∧ kd = 6)
theorem hangN_le {w : Nat → Nat} (hw : ∀ i, w i ≤ 99) : ∀ n, hangN w n ≤ 5 * n
  | 0 => Nat.le_refl 0
  | n + 1 => by
    have h1 := hangN_le hw n
    have h2 : w n / 20 ≤ 4 := by have := hw n; omega
    show hangN w n + (1 + w n / 20) ≤ 5 * (n + 1)
    omega
theorem sumN_le {f : Nat → Nat} {c : Nat} (h : ∀ i, f i ≤ c) : ∀ n, sumN f n ≤ c * n
  | 0 => Nat.zero_le _
  | n + 1 => by
    have h1 := sumN_le h n
    have h2 := h n
    show sumN f n + f n ≤ c * (n + 1)
    rw [Nat.mul_add]
    omega
theorem sumN_cong {f g : Nat → Nat} : ∀ {n : Nat}, (∀ i, i < n → f i = g i) → sumN f n = sumN g n
  | 0, _ => rfl
  | n + 1, h => by
    show sumN f n + f n = sumN g n + g n
    rw [sumN_cong (fun i hi => h i (by omega)), h n (by omega)]
theorem soakN_le {kd a n c h : Nat} (ha : a ≤ 9) (hh : h < 2 ^ 31) : soakN kd a n c h ≤ 429496748 := by
  unfold soakN
  repeat' split
  all_goals omega
theorem sub_toI {a b : Nat} (ha : a < 2 ^ 30) (hb : b < 2 ^ 30) : (nI a - nI b).toInt = (a : Int) - b := pk_sub_toInt ha hb
theorem sub_pos {a b : Nat} (ha : a < 2 ^ 30) (hb : b < 2 ^ 30) : 0 < nI a - nI b ↔ b < a := by
  rw [Int32.lt_iff_toInt_lt, sub_toI ha hb]
  show (0 : Int) < _ ↔ _
  omega
theorem le_subI {h a b : Nat} (hh : h < 2 ^ 30) (ha : a < 2 ^ 30) (hb : b < 2 ^ 30) : nI h ≤ nI a - nI b ↔ h + b ≤ a := by
  rw [Int32.le_iff_toInt_le, sub_toI ha hb, nI_toInt (by omega)]
  omega
theorem in_nI {x : Int32} {n : Nat} (hn : n < 2 ^ 31) (h : 0 ≤ x ∧ x < nI n) : ∃ j, j < n ∧ x = nI j := by
  obtain ⟨j, hj, rfl⟩ := nI_of (x := x) (Int32.not_lt.mpr h.1)
  exact ⟨j, (nI_ltI hj hn).mp h.2, rfl⟩
