set_option maxRecDepth 30000 in
theorem cw_L_7 : Cond.classLink RL 7 "DunkedBiscuits" ∈ tbG := tg_in 85 rfl rfl
set_option maxRecDepth 30000 in
theorem nw_L_7 : NW RL 7 6 [none, none, none, none, none, none, none, none, none, none, none, none, none, some (.inl (0)), some (.inl (0))] := ⟨RX6, TX6, 15, tyX6, rfl, tg_in 85 rfl rfl, tg_in 86 rfl rfl, tg_in 71 rfl rfl, tyX6_ok, rfl, by decide +kernel⟩
set_option maxRecDepth 30000 in
theorem cw_L_10 : Cond.classLink RL 10 "DunkedBiscuitsModel" ∈ tbG := tg_in 907 rfl rfl
set_option maxRecDepth 30000 in
theorem nw_L_10 : NW RL 10 7 [some (.inl (0)), some (.inl (0)), some (.inl (0)), some (.inl (0)), some (.inl (0)), some (.inl (0)), some (.inl (0)), some (.inl (0)), some (.inl (0)), none, none, none, none, none, none, none, none, none, none, none, none, none, none, some (.inl (0)), some (.inl (0)), some (.inl (0)), some (.inl (0)), some (.inl (0)), none, none, none, none, some (.inl (0)), some (.inl (0)), some (.inl (0)), some (.inl (0)), some (.inl (0)), none, none, some (.inl (0)), none, some (.inl (0)), some (.inl (0))] := ⟨RX7, TX7, 43, tyX7, rfl, tg_in 907 rfl rfl, tg_in 908 rfl rfl, tg_in 78 rfl rfl, tyX7_ok, rfl, by decide +kernel⟩
set_option maxRecDepth 30000 in
theorem cw_X2_9 : Cond.classLink RX2 9 "DunkedBiscuits$Biscuit" ∈ tbG := tg_in 184 rfl rfl
set_option maxRecDepth 30000 in
theorem nw_X2_9 : NW RX2 9 1 [some (.inl (0)), some (.inl (0)), some (.inl (0)), none] := ⟨RX1, TX1, 4, tyX1, rfl, tg_in 184 rfl rfl, tg_in 103 rfl rfl, tg_in 73 rfl rfl, tyX1_ok, rfl, by decide +kernel⟩
set_option maxRecDepth 30000 in
theorem cw_X5_9 : Cond.classLink RX5 9 "DunkedBiscuits$Biscuit" ∈ tbG := tg_in 101 rfl rfl
set_option maxRecDepth 30000 in
theorem nw_X5_9 : NW RX5 9 1 [some (.inl (0)), some (.inl (0)), some (.inl (0)), none] := ⟨RX1, TX1, 4, tyX1, rfl, tg_in 101 rfl rfl, tg_in 103 rfl rfl, tg_in 73 rfl rfl, tyX1_ok, rfl, by decide +kernel⟩
set_option maxRecDepth 30000 in
theorem cw_X6_9 : Cond.classLink RX6 9 "DunkedBiscuits$Shelf" ∈ tbG := tg_in 93 rfl rfl
set_option maxRecDepth 30000 in
theorem nw_X6_9 : NW RX6 9 4 [none, some (.inl (0)), some (.inl (0)), some (.inl (0))] := ⟨RX4, TX4, 4, tyX4, rfl, tg_in 93 rfl rfl, tg_in 272 rfl rfl, tg_in 77 rfl rfl, tyX4_ok, rfl, by decide +kernel⟩
set_option maxRecDepth 30000 in
theorem cw_X6_15 : Cond.classLink RX6 15 "DunkedBiscuits$State" ∈ tbG := tg_in 95 rfl rfl
set_option maxRecDepth 30000 in
theorem nw_X6_15 : NW RX6 15 5 [none, none, some (.inl (0)), some (.inl (0)), some (.inl (0)), some (.inl (0)), some (.inl (0)), some (.inl (0)), some (.inl (0)), some (.inl (0))] := ⟨RX5, TX5, 10, tyX5, rfl, tg_in 95 rfl rfl, tg_in 96 rfl rfl, tg_in 72 rfl rfl, tyX5_ok, rfl, by decide +kernel⟩
set_option maxRecDepth 30000 in
theorem cw_X6_28 : Cond.classLink RX6 28 "DunkedBiscuits$Dunk" ∈ tbG := tg_in 178 rfl rfl
set_option maxRecDepth 30000 in
theorem nw_X6_28 : NW RX6 28 2 [none, some (.inl (0)), some (.inl (0)), some (.inl (0)), some (.inl (0)), some (.inl (0)), some (.inl (0))] := ⟨RX2, TX2, 7, tyX2, rfl, tg_in 178 rfl rfl, tg_in 179 rfl rfl, tg_in 74 rfl rfl, tyX2_ok, rfl, by decide +kernel⟩
set_option maxRecDepth 30000 in
theorem cw_X6_38 : Cond.classLink RX6 38 "DunkedBiscuits$Reader" ∈ tbG := tg_in 214 rfl rfl
set_option maxRecDepth 30000 in
theorem nw_X6_38 : NW RX6 38 3 [none, none, none, none, some (.inl (0)), some (.inl (0)), some (.inl (0))] := ⟨RX3, TX3, 7, tyX3, rfl, tg_in 214 rfl rfl, tg_in 215 rfl rfl, tg_in 75 rfl rfl, tyX3_ok, rfl, by decide +kernel⟩
set_option maxRecDepth 30000 in
theorem cw_X6_47 : Cond.classLink RX6 47 "DunkedBiscuits$Act" ∈ tbG := tg_in 243 rfl rfl
set_option maxRecDepth 30000 in
theorem nw_X6_47 : NW RX6 47 0 [none, some (.inl (0)), some (.inl (0)), some (.inl (0)), some (.inl (0))] := ⟨RX0, TX0, 5, tyX0, rfl, tg_in 243 rfl rfl, tg_in 244 rfl rfl, tg_in 76 rfl rfl, tyX0_ok, rfl, by decide +kernel⟩
set_option maxRecDepth 30000 in
theorem cw_X6_54 : Cond.classLink RX6 54 "DunkedBiscuits$Biscuit" ∈ tbG := tg_in 270 rfl rfl
set_option maxRecDepth 30000 in
theorem nw_X6_54 : NW RX6 54 1 [some (.inl (0)), some (.inl (0)), some (.inl (0)), none] := ⟨RX1, TX1, 4, tyX1, rfl, tg_in 270 rfl rfl, tg_in 103 rfl rfl, tg_in 73 rfl rfl, tyX1_ok, rfl, by decide +kernel⟩
set_option maxRecDepth 30000 in
theorem mw_X0_init : MN yX0_init cX0_init 1 0 := ⟨tg_in 247 rfl rfl, tg_in 246 rfl rfl, tg_in 76 rfl rfl, by decide +kernel, by decide +kernel, rfl⟩
set_option maxRecDepth 30000 in
theorem mw_X1_init : MN yX1_init cX1_init 1 0 := ⟨tg_in 106 rfl rfl, tg_in 105 rfl rfl, tg_in 73 rfl rfl, by decide +kernel, by decide +kernel, rfl⟩
set_option maxRecDepth 30000 in
theorem mw_X2_init : MN yX2_init cX2_init 1 0 := ⟨tg_in 182 rfl rfl, tg_in 181 rfl rfl, tg_in 74 rfl rfl, by decide +kernel, by decide +kernel, rfl⟩
set_option maxRecDepth 30000 in
theorem mw_X3_init : MN yX3_init cX3_init 3 2 := ⟨tg_in 218 rfl rfl, tg_in 217 rfl rfl, tg_in 75 rfl rfl, by decide +kernel, by decide +kernel, rfl⟩
set_option maxRecDepth 30000 in
theorem mw_X4_init : MN yX4_init cX4_init 1 0 := ⟨tg_in 275 rfl rfl, tg_in 274 rfl rfl, tg_in 77 rfl rfl, by decide +kernel, by decide +kernel, rfl⟩
set_option maxRecDepth 30000 in
theorem mw_X5_init : MN yX5_init cX5_init 2 0 := ⟨tg_in 99 rfl rfl, tg_in 98 rfl rfl, tg_in 72 rfl rfl, by decide +kernel, by decide +kernel, rfl⟩
set_option maxRecDepth 30000 in
theorem mw_X6_init : MN yX6_init cX6_init 2 0 := ⟨tg_in 89 rfl rfl, tg_in 88 rfl rfl, tg_in 71 rfl rfl, by decide +kernel, by decide +kernel, rfl⟩
set_option maxRecDepth 30000 in
theorem mw_X7_init : MN yX7_init cX7_init 1 0 := ⟨tg_in 911 rfl rfl, tg_in 910 rfl rfl, tg_in 78 rfl rfl, by decide +kernel, by decide +kernel, rfl⟩
def eqV : FV → FV → Bool
  | none, none => true
  | some (.inl x), some (.inl y) => decide (x = y)
  | some (.inr x), some (.inr y) => decide (x = y)
  | _, _ => false
theorem eqV_of : ∀ {a b : FV}, eqV a b = true → a = b
  | none, none, _ => rfl
  | some (.inl x), some (.inl y), h => by rw [of_decide_eq_true h]
  | some (.inr x), some (.inr y), h => by rw [of_decide_eq_true h]
  | none, some (.inl _), h => by cases h
  | none, some (.inr _), h => by cases h
  | some (.inl _), none, h => by cases h
  | some (.inr _), none, h => by cases h
  | some (.inl _), some (.inr _), h => by cases h
  | some (.inr _), some (.inl _), h => by cases h
def eqG {α : Type} (f : α → α → Bool) : List α → List α → Bool
  | [], [] => true
  | a :: s, b :: t => f a b && eqG f s t
  | _, _ => false
theorem eqG_of {α : Type} {f : α → α → Bool} (hf : ∀ {a b : α}, f a b = true → a = b) : ∀ {s t : List α}, eqG f s t = true → s = t
  | [], [], _ => rfl
  | a :: s, b :: t, h => by
    simp only [eqG, Bool.and_eq_true] at h
    rw [hf h.1, eqG_of hf h.2]
  | [], _ :: _, h => by cases h
  | _ :: _, [], h => by cases h
def eqE : LN → LN → Bool
  | .inl (c, fs), .inl (c2, fs2) => decide (c = c2) && eqG eqV fs fs2
  | .inr (.inl x), .inr (.inl y) => decide (x = y)
  | .inr (.inr x), .inr (.inr y) => decide (x = y)
  | _, _ => false
theorem eqE_of : ∀ {a b : LN}, eqE a b = true → a = b
  | .inl (c, fs), .inl (c2, fs2), h => by
    simp only [eqE, Bool.and_eq_true] at h
    rw [of_decide_eq_true h.1, eqG_of eqV_of h.2]
  | .inr (.inl x), .inr (.inl y), h => by rw [of_decide_eq_true h]
  | .inr (.inr x), .inr (.inr y), h => by rw [of_decide_eq_true h]
  | .inl _, .inr _, h => by simp [eqE] at h
  | .inr (.inl _), .inl _, h => by simp [eqE] at h
  | .inr (.inr _), .inl _, h => by simp [eqE] at h
  | .inr (.inl _), .inr (.inr _), h => by simp [eqE] at h
  | .inr (.inr _), .inr (.inl _), h => by simp [eqE] at h
theorem wq {a b : List LN} (h : eqG eqE a b = true) : a = b := eqG_of eqE_of h
def eqA (pl : List LN) (k : Nat) (le : LN) : Bool := match pl[k]? with
  | some e => eqE e le
  | none => false
theorem aq {pl : List LN} {k : Nat} {le : LN} (h : eqA pl k le = true) : pl[k]? = some le := by
  unfold eqA at h
  split at h
  · rename_i e he
    rw [he, eqE_of h]
  · cases h
section JJ2
variable {E : EE} {B : Nat} {code : ByteArray} {fk : FK} {v : EN} {Q : State → Prop} {S : Heap → Prop} {nc ns pc : Nat} {lv : List (Nat × Value)} {st : List Value}
theorem k_new {pl : List LN} {idx ci : Nat} {fs : List FV} (q n2 : Nat) (hq : pl.length = q) (hz : ns + fs.length = n2) (V : Bd E B code fk v.1 v.2.2.2.1 v.2.2.2.2.1 v.2.2.2.2.2.2.2.1 v.2.2.2.2.2.2.2.2) (hN : NW fk.1 idx ci fs) (hd : decode code pc = .ok (.new idx, 3)) (h1 : nc + 1 ≤ fk.2.2.2.1.cells) (h2 : n2 ≤ fk.2.2.2.1.slots)
    (kk : J B fk v Q (RepN E B (pl ++ [.inl (ci, fs)])) (nc + 1) n2 (pc + 3) lv (.ref (B + q) :: st)) : J B fk v Q (RepN E B pl) nc ns pc lv st := by
  subst hq; subst hz
  exact j_new V hN hd h1 h2 kk
theorem k_newI {pl : List LN} {n : Int32} {N : Nat} (q n2 : Nat) (hq : pl.length = q) (hz : ns + N = n2) (V : Bd E B code fk v.1 v.2.2.2.1 v.2.2.2.2.1 v.2.2.2.2.2.2.2.1 v.2.2.2.2.2.2.2.2) (hX : XW v.2.2.2.1) (hd : decode code pc = .ok (.newarray .int, 2)) (hn : n = nI N) (hN : N ≤ 100000) (h1 : nc + 1 ≤ fk.2.2.2.1.cells) (h2 : n2 ≤ fk.2.2.2.1.slots)
    (kk : J B fk v Q (RepN E B (pl ++ [.inr (.inl (N, false, []))])) (nc + 1) n2 (pc + 2) lv (.ref (B + q) :: st)) : J B fk v Q (RepN E B pl) nc ns pc lv (.int n :: st) := by
  subst hq; subst hz
  exact j_newI V hX hd hn hN h1 h2 kk
theorem k_newL {pl : List LN} {n : Int32} {N : Nat} (q n2 : Nat) (hq : pl.length = q) (hz : ns + N = n2) (V : Bd E B code fk v.1 v.2.2.2.1 v.2.2.2.2.1 v.2.2.2.2.2.2.2.1 v.2.2.2.2.2.2.2.2) (hX : XW v.2.2.2.1) (hd : decode code pc = .ok (.newarray .long, 2)) (hn : n = nI N) (hN : N ≤ 100000) (h1 : nc + 1 ≤ fk.2.2.2.1.cells) (h2 : n2 ≤ fk.2.2.2.1.slots)
    (kk : J B fk v Q (RepN E B (pl ++ [.inr (.inl (N, true, []))])) (nc + 1) n2 (pc + 2) lv (.ref (B + q) :: st)) : J B fk v Q (RepN E B pl) nc ns pc lv (.int n :: st) := by
  subst hq; subst hz
  exact j_newL V hX hd hn hN h1 h2 kk
theorem k_anew {pl : List LN} {idx : Nat} {n : Int32} {N : Nat} (q n2 t : Nat) (C : String) (hq : pl.length = q) (hz : ns + N = n2) (V : Bd E B code fk v.1 v.2.2.2.1 v.2.2.2.2.1 v.2.2.2.2.2.2.2.1 v.2.2.2.2.2.2.2.2) (ha : va_AO C v.2.2.2.1) (ht : (tysE E)[t]? = some (E.2.1 t, .object C)) (hw : Cond.classLink fk.1 idx C ∈ tbG) (hd : decode code pc = .ok (.anewarray idx, 3)) (hn : n = nI N) (hN : N ≤ 100000) (h1 : nc + 1 ≤ fk.2.2.2.1.cells) (h2 : n2 ≤ fk.2.2.2.1.slots)
    (kk : J B fk v Q (RepN E B (pl ++ [.inr (.inr (t, List.replicate N none))])) (nc + 1) n2 (pc + 3) lv (.ref (B + q) :: st)) : J B fk v Q (RepN E B pl) nc ns pc lv (.int n :: st) := by
  subst hq; subst hz
  exact j_anew V ha ht hw hd hn hN h1 h2 kk
theorem k_world {pl : List LN} (pl' : List LN) (h : pl = pl') (kk : J B fk v Q (RepN E B pl') nc ns pc lv st) : J B fk v Q (RepN E B pl) nc ns pc lv st := by
  subst h; exact kk
end JJ2
def wW1 : List LN := [
  .inl (6, [none, none, none, none, none, none, none, none, none, none, none, none, none, some (.inl (0)), some (.inl (0))])]
def wW2 : List LN := [
  .inl (6, [some (.inr 1), none, none, none, none, none, none, none, none, none, none, none, none, some (.inl (0)), some (.inl (0))]),
  .inr (.inr (2, [none, none, none, none, none, none, none, none])),
  .inl (5, [none, none, some (.inl (0)), some (.inl (0)), some (.inl (0)), some (.inl (0)), some (.inl (0)), some (.inl (0)), some (.inl (0)), some (.inl (0))])]
def wW3 : List LN := [
  .inl (6, [some (.inr 1), none, none, none, none, none, none, none, none, none, none, none, none, some (.inl (0)), some (.inl (0))]),
  .inr (.inr (2, [none, none, none, none, none, none, none, none])),
  .inl (5, [some (.inr 3), some (.inr 4), some (.inl (0)), some (.inl (60)), some (.inl (20)), some (.inl (1000)), some (.inl (0)), some (.inl (0)), some (.inl (0)), some (.inl (1))]),
  .inr (.inr (3, [none, none, none, none, none, none])),
  .inr (.inl (10, false, [])),
  .inl (1, [some (.inl (0)), some (.inl (0)), some (.inl (0)), none])]
def wW4 : List LN := [
  .inl (6, [some (.inr 1), none, none, none, none, none, none, none, none, none, none, none, none, some (.inl (0)), some (.inl (0))]),
  .inr (.inr (2, [none, none, none, none, none, none, none, none])),
  .inl (5, [some (.inr 3), some (.inr 4), some (.inl (0)), some (.inl (60)), some (.inl (20)), some (.inl (1000)), some (.inl (0)), some (.inl (0)), some (.inl (0)), some (.inl (1))]),
  .inr (.inr (3, [none, none, none, none, none, none])),
  .inr (.inl (10, false, [])),
  .inl (1, [some (.inl (0)), some (.inl (0)), some (.inl (0)), some (.inr 6)]),
  .inr (.inl (12, false, []))]
set_option maxRecDepth 100000 in
theorem X1_init_at5 {E : EE} {B : Nat} : CN E B yX1_init cX1_init 1 1 [.ref (B + 5)] wW3 wW4 1 12 := by
  refine CN.of (own := RX1) (by decide +kernel) rfl rfl (Nat.le_of_ble_eq_true rfl) fun v V hX hi => ?_
  refine j_aload_n V dX1_init_0 rfl rfl ?_
  refine j_objInit V dX1_init_1 ml_X1_3 (by decide +kernel) ?_
  refine j_aload_n V dX1_init_4 rfl rfl ?_
  refine j_bipush (z := 12) V dX1_init_5 (by decide +kernel) ?_
  refine k_newI (N := 12) 6 12 (by decide +kernel) rfl V hX dX1_init_7 rfl (by decide +kernel) (by decide +kernel) (by decide +kernel) ?_
  refine j_put (k := 5) (fs := [some (.inl (0)), some (.inl (0)), some (.inl (0)), none]) (κ := 0) (some (.inr 6)) V hi dX1_init_9 fl_X1_9 (by decide +kernel) rfl rfl (aq (by decide +kernel)) (by decide +kernel) ?_
  refine k_world wW4 (wq (by decide +kernel)) ?_
  exact j_vret V dX1_init_12
def wW5 : List LN := [
  .inl (6, [some (.inr 1), none, none, none, none, none, none, none, none, none, none, none, none, some (.inl (0)), some (.inl (0))]),
  .inr (.inr (2, [none, none, none, none, none, none, none, none])),
  .inl (5, [some (.inr 3), some (.inr 4), some (.inl (0)), some (.inl (60)), some (.inl (20)), some (.inl (1000)), some (.inl (0)), some (.inl (0)), some (.inl (0)), some (.inl (1))]),
  .inr (.inr (3, [some 5, none, none, none, none, none])),
  .inr (.inl (10, false, [])),
  .inl (1, [some (.inl (0)), some (.inl (0)), some (.inl (0)), some (.inr 6)]),
  .inr (.inl (12, false, [])),
  .inl (1, [some (.inl (0)), some (.inl (0)), some (.inl (0)), none])]
def wW6 : List LN := [
  .inl (6, [some (.inr 1), none, none, none, none, none, none, none, none, none, none, none, none, some (.inl (0)), some (.inl (0))]),
  .inr (.inr (2, [none, none, none, none, none, none, none, none])),
  .inl (5, [some (.inr 3), some (.inr 4), some (.inl (0)), some (.inl (60)), some (.inl (20)), some (.inl (1000)), some (.inl (0)), some (.inl (0)), some (.inl (0)), some (.inl (1))]),
  .inr (.inr (3, [some 5, none, none, none, none, none])),
  .inr (.inl (10, false, [])),
  .inl (1, [some (.inl (0)), some (.inl (0)), some (.inl (0)), some (.inr 6)]),
  .inr (.inl (12, false, [])),
  .inl (1, [some (.inl (0)), some (.inl (0)), some (.inl (0)), some (.inr 8)]),
  .inr (.inl (12, false, []))]
set_option maxRecDepth 100000 in
theorem X1_init_at7 {E : EE} {B : Nat} : CN E B yX1_init cX1_init 1 1 [.ref (B + 7)] wW5 wW6 1 12 := by
  refine CN.of (own := RX1) (by decide +kernel) rfl rfl (Nat.le_of_ble_eq_true rfl) fun v V hX hi => ?_
  refine j_aload_n V dX1_init_0 rfl rfl ?_
  refine j_objInit V dX1_init_1 ml_X1_3 (by decide +kernel) ?_
  refine j_aload_n V dX1_init_4 rfl rfl ?_
  refine j_bipush (z := 12) V dX1_init_5 (by decide +kernel) ?_
  refine k_newI (N := 12) 8 12 (by decide +kernel) rfl V hX dX1_init_7 rfl (by decide +kernel) (by decide +kernel) (by decide +kernel) ?_
  refine j_put (k := 7) (fs := [some (.inl (0)), some (.inl (0)), some (.inl (0)), none]) (κ := 0) (some (.inr 8)) V hi dX1_init_9 fl_X1_9 (by decide +kernel) rfl rfl (aq (by decide +kernel)) (by decide +kernel) ?_
  refine k_world wW6 (wq (by decide +kernel)) ?_
  exact j_vret V dX1_init_12
def wW7 : List LN := [
  .inl (6, [some (.inr 1), none, none, none, none, none, none, none, none, none, none, none, none, some (.inl (0)), some (.inl (0))]),
  .inr (.inr (2, [none, none, none, none, none, none, none, none])),
  .inl (5, [some (.inr 3), some (.inr 4), some (.inl (0)), some (.inl (60)), some (.inl (20)), some (.inl (1000)), some (.inl (0)), some (.inl (0)), some (.inl (0)), some (.inl (1))]),
  .inr (.inr (3, [some 5, some 7, none, none, none, none])),
  .inr (.inl (10, false, [])),
  .inl (1, [some (.inl (0)), some (.inl (0)), some (.inl (0)), some (.inr 6)]),
  .inr (.inl (12, false, [])),
  .inl (1, [some (.inl (0)), some (.inl (0)), some (.inl (0)), some (.inr 8)]),
  .inr (.inl (12, false, [])),
  .inl (1, [some (.inl (0)), some (.inl (0)), some (.inl (0)), none])]
def wW8 : List LN := [
  .inl (6, [some (.inr 1), none, none, none, none, none, none, none, none, none, none, none, none, some (.inl (0)), some (.inl (0))]),
  .inr (.inr (2, [none, none, none, none, none, none, none, none])),
  .inl (5, [some (.inr 3), some (.inr 4), some (.inl (0)), some (.inl (60)), some (.inl (20)), some (.inl (1000)), some (.inl (0)), some (.inl (0)), some (.inl (0)), some (.inl (1))]),
  .inr (.inr (3, [some 5, some 7, none, none, none, none])),
  .inr (.inl (10, false, [])),
  .inl (1, [some (.inl (0)), some (.inl (0)), some (.inl (0)), some (.inr 6)]),
  .inr (.inl (12, false, [])),
  .inl (1, [some (.inl (0)), some (.inl (0)), some (.inl (0)), some (.inr 8)]),
  .inr (.inl (12, false, [])),
  .inl (1, [some (.inl (0)), some (.inl (0)), some (.inl (0)), some (.inr 10)]),
  .inr (.inl (12, false, []))]
set_option maxRecDepth 100000 in
theorem X1_init_at9 {E : EE} {B : Nat} : CN E B yX1_init cX1_init 1 1 [.ref (B + 9)] wW7 wW8 1 12 := by
  refine CN.of (own := RX1) (by decide +kernel) rfl rfl (Nat.le_of_ble_eq_true rfl) fun v V hX hi => ?_
  refine j_aload_n V dX1_init_0 rfl rfl ?_
  refine j_objInit V dX1_init_1 ml_X1_3 (by decide +kernel) ?_
  refine j_aload_n V dX1_init_4 rfl rfl ?_
  refine j_bipush (z := 12) V dX1_init_5 (by decide +kernel) ?_
  refine k_newI (N := 12) 10 12 (by decide +kernel) rfl V hX dX1_init_7 rfl (by decide +kernel) (by decide +kernel) (by decide +kernel) ?_
  refine j_put (k := 9) (fs := [some (.inl (0)), some (.inl (0)), some (.inl (0)), none]) (κ := 0) (some (.inr 10)) V hi dX1_init_9 fl_X1_9 (by decide +kernel) rfl rfl (aq (by decide +kernel)) (by decide +kernel) ?_
  refine k_world wW8 (wq (by decide +kernel)) ?_
  exact j_vret V dX1_init_12
def wW9 : List LN := [
  .inl (6, [some (.inr 1), none, none, none, none, none, none, none, none, none, none, none, none, some (.inl (0)), some (.inl (0))]),
  .inr (.inr (2, [none, none, none, none, none, none, none, none])),
  .inl (5, [some (.inr 3), some (.inr 4), some (.inl (0)), some (.inl (60)), some (.inl (20)), some (.inl (1000)), some (.inl (0)), some (.inl (0)), some (.inl (0)), some (.inl (1))]),
  .inr (.inr (3, [some 5, some 7, some 9, none, none, none])),
  .inr (.inl (10, false, [])),
  .inl (1, [some (.inl (0)), some (.inl (0)), some (.inl (0)), some (.inr 6)]),
  .inr (.inl (12, false, [])),
  .inl (1, [some (.inl (0)), some (.inl (0)), some (.inl (0)), some (.inr 8)]),
  .inr (.inl (12, false, [])),
  .inl (1, [some (.inl (0)), some (.inl (0)), some (.inl (0)), some (.inr 10)]),
  .inr (.inl (12, false, [])),
  .inl (1, [some (.inl (0)), some (.inl (0)), some (.inl (0)), none])]
def wW10 : List LN := [
  .inl (6, [some (.inr 1), none, none, none, none, none, none, none, none, none, none, none, none, some (.inl (0)), some (.inl (0))]),
  .inr (.inr (2, [none, none, none, none, none, none, none, none])),
  .inl (5, [some (.inr 3), some (.inr 4), some (.inl (0)), some (.inl (60)), some (.inl (20)), some (.inl (1000)), some (.inl (0)), some (.inl (0)), some (.inl (0)), some (.inl (1))]),
  .inr (.inr (3, [some 5, some 7, some 9, none, none, none])),
  .inr (.inl (10, false, [])),
  .inl (1, [some (.inl (0)), some (.inl (0)), some (.inl (0)), some (.inr 6)]),
  .inr (.inl (12, false, [])),
  .inl (1, [some (.inl (0)), some (.inl (0)), some (.inl (0)), some (.inr 8)]),
  .inr (.inl (12, false, [])),
  .inl (1, [some (.inl (0)), some (.inl (0)), some (.inl (0)), some (.inr 10)]),
  .inr (.inl (12, false, [])),
  .inl (1, [some (.inl (0)), some (.inl (0)), some (.inl (0)), some (.inr 12)]),
  .inr (.inl (12, false, []))]
set_option maxRecDepth 100000 in
theorem X1_init_at11 {E : EE} {B : Nat} : CN E B yX1_init cX1_init 1 1 [.ref (B + 11)] wW9 wW10 1 12 := by
  refine CN.of (own := RX1) (by decide +kernel) rfl rfl (Nat.le_of_ble_eq_true rfl) fun v V hX hi => ?_
  refine j_aload_n V dX1_init_0 rfl rfl ?_
  refine j_objInit V dX1_init_1 ml_X1_3 (by decide +kernel) ?_
  refine j_aload_n V dX1_init_4 rfl rfl ?_
  refine j_bipush (z := 12) V dX1_init_5 (by decide +kernel) ?_
  refine k_newI (N := 12) 12 12 (by decide +kernel) rfl V hX dX1_init_7 rfl (by decide +kernel) (by decide +kernel) (by decide +kernel) ?_
  refine j_put (k := 11) (fs := [some (.inl (0)), some (.inl (0)), some (.inl (0)), none]) (κ := 0) (some (.inr 12)) V hi dX1_init_9 fl_X1_9 (by decide +kernel) rfl rfl (aq (by decide +kernel)) (by decide +kernel) ?_
  refine k_world wW10 (wq (by decide +kernel)) ?_
  exact j_vret V dX1_init_12
def wW11 : List LN := [
  .inl (6, [some (.inr 1), none, none, none, none, none, none, none, none, none, none, none, none, some (.inl (0)), some (.inl (0))]),
  .inr (.inr (2, [none, none, none, none, none, none, none, none])),
  .inl (5, [some (.inr 3), some (.inr 4), some (.inl (0)), some (.inl (60)), some (.inl (20)), some (.inl (1000)), some (.inl (0)), some (.inl (0)), some (.inl (0)), some (.inl (1))]),
  .inr (.inr (3, [some 5, some 7, some 9, some 11, none, none])),
  .inr (.inl (10, false, [])),
  .inl (1, [some (.inl (0)), some (.inl (0)), some (.inl (0)), some (.inr 6)]),
  .inr (.inl (12, false, [])),
  .inl (1, [some (.inl (0)), some (.inl (0)), some (.inl (0)), some (.inr 8)]),
  .inr (.inl (12, false, [])),
  .inl (1, [some (.inl (0)), some (.inl (0)), some (.inl (0)), some (.inr 10)]),
  .inr (.inl (12, false, [])),
  .inl (1, [some (.inl (0)), some (.inl (0)), some (.inl (0)), some (.inr 12)]),
  .inr (.inl (12, false, [])),
  .inl (1, [some (.inl (0)), some (.inl (0)), some (.inl (0)), none])]
def wW12 : List LN := [
  .inl (6, [some (.inr 1), none, none, none, none, none, none, none, none, none, none, none, none, some (.inl (0)), some (.inl (0))]),
  .inr (.inr (2, [none, none, none, none, none, none, none, none])),
  .inl (5, [some (.inr 3), some (.inr 4), some (.inl (0)), some (.inl (60)), some (.inl (20)), some (.inl (1000)), some (.inl (0)), some (.inl (0)), some (.inl (0)), some (.inl (1))]),
  .inr (.inr (3, [some 5, some 7, some 9, some 11, none, none])),
  .inr (.inl (10, false, [])),
  .inl (1, [some (.inl (0)), some (.inl (0)), some (.inl (0)), some (.inr 6)]),
  .inr (.inl (12, false, [])),
  .inl (1, [some (.inl (0)), some (.inl (0)), some (.inl (0)), some (.inr 8)]),
  .inr (.inl (12, false, [])),
  .inl (1, [some (.inl (0)), some (.inl (0)), some (.inl (0)), some (.inr 10)]),
  .inr (.inl (12, false, [])),
  .inl (1, [some (.inl (0)), some (.inl (0)), some (.inl (0)), some (.inr 12)]),
  .inr (.inl (12, false, [])),
  .inl (1, [some (.inl (0)), some (.inl (0)), some (.inl (0)), some (.inr 14)]),
  .inr (.inl (12, false, []))]
set_option maxRecDepth 100000 in
theorem X1_init_at13 {E : EE} {B : Nat} : CN E B yX1_init cX1_init 1 1 [.ref (B + 13)] wW11 wW12 1 12 := by
  refine CN.of (own := RX1) (by decide +kernel) rfl rfl (Nat.le_of_ble_eq_true rfl) fun v V hX hi => ?_
  refine j_aload_n V dX1_init_0 rfl rfl ?_
  refine j_objInit V dX1_init_1 ml_X1_3 (by decide +kernel) ?_
  refine j_aload_n V dX1_init_4 rfl rfl ?_
  refine j_bipush (z := 12) V dX1_init_5 (by decide +kernel) ?_
  refine k_newI (N := 12) 14 12 (by decide +kernel) rfl V hX dX1_init_7 rfl (by decide +kernel) (by decide +kernel) (by decide +kernel) ?_
  refine j_put (k := 13) (fs := [some (.inl (0)), some (.inl (0)), some (.inl (0)), none]) (κ := 0) (some (.inr 14)) V hi dX1_init_9 fl_X1_9 (by decide +kernel) rfl rfl (aq (by decide +kernel)) (by decide +kernel) ?_
  refine k_world wW12 (wq (by decide +kernel)) ?_
  exact j_vret V dX1_init_12
def wW13 : List LN := [
  .inl (6, [some (.inr 1), none, none, none, none, none, none, none, none, none, none, none, none, some (.inl (0)), some (.inl (0))]),
  .inr (.inr (2, [none, none, none, none, none, none, none, none])),
  .inl (5, [some (.inr 3), some (.inr 4), some (.inl (0)), some (.inl (60)), some (.inl (20)), some (.inl (1000)), some (.inl (0)), some (.inl (0)), some (.inl (0)), some (.inl (1))]),
  .inr (.inr (3, [some 5, some 7, some 9, some 11, some 13, none])),
  .inr (.inl (10, false, [])),
  .inl (1, [some (.inl (0)), some (.inl (0)), some (.inl (0)), some (.inr 6)]),
  .inr (.inl (12, false, [])),
  .inl (1, [some (.inl (0)), some (.inl (0)), some (.inl (0)), some (.inr 8)]),
  .inr (.inl (12, false, [])),
  .inl (1, [some (.inl (0)), some (.inl (0)), some (.inl (0)), some (.inr 10)]),
  .inr (.inl (12, false, [])),
  .inl (1, [some (.inl (0)), some (.inl (0)), some (.inl (0)), some (.inr 12)]),
  .inr (.inl (12, false, [])),
  .inl (1, [some (.inl (0)), some (.inl (0)), some (.inl (0)), some (.inr 14)]),
  .inr (.inl (12, false, [])),
  .inl (1, [some (.inl (0)), some (.inl (0)), some (.inl (0)), none])]
def wW14 : List LN := [
  .inl (6, [some (.inr 1), none, none, none, none, none, none, none, none, none, none, none, none, some (.inl (0)), some (.inl (0))]),
  .inr (.inr (2, [none, none, none, none, none, none, none, none])),
  .inl (5, [some (.inr 3), some (.inr 4), some (.inl (0)), some (.inl (60)), some (.inl (20)), some (.inl (1000)), some (.inl (0)), some (.inl (0)), some (.inl (0)), some (.inl (1))]),
  .inr (.inr (3, [some 5, some 7, some 9, some 11, some 13, none])),
  .inr (.inl (10, false, [])),
  .inl (1, [some (.inl (0)), some (.inl (0)), some (.inl (0)), some (.inr 6)]),
  .inr (.inl (12, false, [])),
  .inl (1, [some (.inl (0)), some (.inl (0)), some (.inl (0)), some (.inr 8)]),
  .inr (.inl (12, false, [])),
  .inl (1, [some (.inl (0)), some (.inl (0)), some (.inl (0)), some (.inr 10)]),
  .inr (.inl (12, false, [])),
  .inl (1, [some (.inl (0)), some (.inl (0)), some (.inl (0)), some (.inr 12)]),
  .inr (.inl (12, false, [])),
  .inl (1, [some (.inl (0)), some (.inl (0)), some (.inl (0)), some (.inr 14)]),
  .inr (.inl (12, false, [])),
  .inl (1, [some (.inl (0)), some (.inl (0)), some (.inl (0)), some (.inr 16)]),
  .inr (.inl (12, false, []))]
set_option maxRecDepth 100000 in
theorem X1_init_at15 {E : EE} {B : Nat} : CN E B yX1_init cX1_init 1 1 [.ref (B + 15)] wW13 wW14 1 12 := by
  refine CN.of (own := RX1) (by decide +kernel) rfl rfl (Nat.le_of_ble_eq_true rfl) fun v V hX hi => ?_
  refine j_aload_n V dX1_init_0 rfl rfl ?_
  refine j_objInit V dX1_init_1 ml_X1_3 (by decide +kernel) ?_
  refine j_aload_n V dX1_init_4 rfl rfl ?_
  refine j_bipush (z := 12) V dX1_init_5 (by decide +kernel) ?_
  refine k_newI (N := 12) 16 12 (by decide +kernel) rfl V hX dX1_init_7 rfl (by decide +kernel) (by decide +kernel) (by decide +kernel) ?_
  refine j_put (k := 15) (fs := [some (.inl (0)), some (.inl (0)), some (.inl (0)), none]) (κ := 0) (some (.inr 16)) V hi dX1_init_9 fl_X1_9 (by decide +kernel) rfl rfl (aq (by decide +kernel)) (by decide +kernel) ?_
  refine k_world wW14 (wq (by decide +kernel)) ?_
  exact j_vret V dX1_init_12
def wW15 : List LN := [
  .inl (6, [some (.inr 1), none, none, none, none, none, none, none, none, none, none, none, none, some (.inl (0)), some (.inl (0))]),
  .inr (.inr (2, [none, none, none, none, none, none, none, none])),
  .inl (5, [some (.inr 3), some (.inr 4), some (.inl (0)), some (.inl (60)), some (.inl (20)), some (.inl (1000)), some (.inl (0)), some (.inl (0)), some (.inl (0)), some (.inl (1))]),
  .inr (.inr (3, [some 5, some 7, some 9, some 11, some 13, some 15])),
  .inr (.inl (10, false, [])),
  .inl (1, [some (.inl (0)), some (.inl (0)), some (.inl (0)), some (.inr 6)]),
  .inr (.inl (12, false, [])),
  .inl (1, [some (.inl (0)), some (.inl (0)), some (.inl (0)), some (.inr 8)]),
  .inr (.inl (12, false, [])),
  .inl (1, [some (.inl (0)), some (.inl (0)), some (.inl (0)), some (.inr 10)]),
  .inr (.inl (12, false, [])),
  .inl (1, [some (.inl (0)), some (.inl (0)), some (.inl (0)), some (.inr 12)]),
  .inr (.inl (12, false, [])),
  .inl (1, [some (.inl (0)), some (.inl (0)), some (.inl (0)), some (.inr 14)]),
  .inr (.inl (12, false, [])),
  .inl (1, [some (.inl (0)), some (.inl (0)), some (.inl (0)), some (.inr 16)]),
  .inr (.inl (12, false, []))]
set_option maxRecDepth 100000 in
theorem X5_init_at2 {E : EE} {B : Nat} : CN E B yX5_init cX5_init 2 2 [.ref (B + 2)] wW2 wW15 14 112 := by
  refine CN.of (own := RX5) (by decide +kernel) rfl rfl (Nat.le_of_ble_eq_true rfl) fun v V hX hi => ?_
  refine j_aload_n V dX5_init_0 rfl rfl ?_
  refine j_objInit V dX5_init_1 ml_X5_3 (by decide +kernel) ?_
  refine j_aload_n V dX5_init_4 rfl rfl ?_
  refine j_bipush (z := 6) V dX5_init_5 (by decide +kernel) ?_
  refine k_anew (N := 6) 3 6 3 "DunkedBiscuits$Biscuit" (by decide +kernel) rfl V hX.2.2.2 rfl cw_X5_9 dX5_init_7 rfl (by decide +kernel) (by decide +kernel) (by decide +kernel) ?_
  refine j_put (k := 2) (fs := [none, none, some (.inl (0)), some (.inl (0)), some (.inl (0)), some (.inl (0)), some (.inl (0)), some (.inl (0)), some (.inl (0)), some (.inl (0))]) (κ := 0) (some (.inr 3)) V hi dX5_init_10 fl_X5_11 (by decide +kernel) rfl rfl (aq (by decide +kernel)) (by decide +kernel) ?_
  refine j_aload_n V dX5_init_13 rfl rfl ?_
  refine j_bipush (z := 10) V dX5_init_14 (by decide +kernel) ?_
  refine k_newI (N := 10) 4 16 (by decide +kernel) rfl V hX dX5_init_16 rfl (by decide +kernel) (by decide +kernel) (by decide +kernel) ?_
  refine j_put (k := 2) (fs := [some (.inr 3), none, some (.inl (0)), some (.inl (0)), some (.inl (0)), some (.inl (0)), some (.inl (0)), some (.inl (0)), some (.inl (0)), some (.inl (0))]) (κ := 0) (some (.inr 4)) V hi dX5_init_18 fl_X5_17 (by decide +kernel) rfl rfl (aq (by decide +kernel)) (by decide +kernel) ?_
  refine j_aload_n V dX5_init_21 rfl rfl ?_
  refine j_bipush (z := 60) V dX5_init_22 (by decide +kernel) ?_
  refine j_put (k := 2) (fs := [some (.inr 3), some (.inr 4), some (.inl (0)), some (.inl (0)), some (.inl (0)), some (.inl (0)), some (.inl (0)), some (.inl (0)), some (.inl (0)), some (.inl (0))]) (κ := 1) (some (.inl (60))) V hi dX5_init_24 fl_X5_21 (by decide +kernel) rfl rfl (aq (by decide +kernel)) (by decide +kernel) ?_
  refine j_aload_n V dX5_init_27 rfl rfl ?_
  refine j_bipush (z := 20) V dX5_init_28 (by decide +kernel) ?_
  refine j_put (k := 2) (fs := [some (.inr 3), some (.inr 4), some (.inl (0)), some (.inl (60)), some (.inl (0)), some (.inl (0)), some (.inl (0)), some (.inl (0)), some (.inl (0)), some (.inl (0))]) (κ := 1) (some (.inl (20))) V hi dX5_init_30 fl_X5_25 (by decide +kernel) rfl rfl (aq (by decide +kernel)) (by decide +kernel) ?_
  refine j_aload_n V dX5_init_33 rfl rfl ?_
  refine j_sipush (z := 1000) V dX5_init_34 (by decide +kernel) ?_
  refine j_put (k := 2) (fs := [some (.inr 3), some (.inr 4), some (.inl (0)), some (.inl (60)), some (.inl (20)), some (.inl (0)), some (.inl (0)), some (.inl (0)), some (.inl (0)), some (.inl (0))]) (κ := 1) (some (.inl (1000))) V hi dX5_init_37 fl_X5_28 (by decide +kernel) rfl rfl (aq (by decide +kernel)) (by decide +kernel) ?_
  refine j_aload_n V dX5_init_40 rfl rfl ?_
  refine j_iconst (z := 1) V dX5_init_41 (by decide +kernel) ?_
  refine j_put (k := 2) (fs := [some (.inr 3), some (.inr 4), some (.inl (0)), some (.inl (60)), some (.inl (20)), some (.inl (1000)), some (.inl (0)), some (.inl (0)), some (.inl (0)), some (.inl (0))]) (κ := 1) (some (.inl (1))) V hi dX5_init_42 fl_X5_31 (by decide +kernel) rfl rfl (aq (by decide +kernel)) (by decide +kernel) ?_
  refine j_iconst (z := 0) V dX5_init_45 (by decide +kernel) ?_
  refine j_istore_n V dX5_init_46 rfl (by decide) rfl ?_
  refine j_iload_n V dX5_init_47 rfl rfl ?_
  refine j_bipush (z := 6) V dX5_init_48 (by decide +kernel) ?_
  refine j_icmp_ge (tgt := 72) V dX5_init_50 rfl (fun h => absurd h (by decide)) (fun _ => ?_)
  refine j_aload_n V dX5_init_53 rfl rfl ?_
  refine j_getN (k := 2) (fs := [some (.inr 3), some (.inr 4), some (.inl (0)), some (.inl (60)), some (.inl (20)), some (.inl (1000)), some (.inl (0)), some (.inl (0)), some (.inl (0)), some (.inl (1))]) (rr := 3) V dX5_init_54 fl_X5_11 (aq (by decide +kernel)) rfl ?_
  refine j_iload_n V dX5_init_57 rfl rfl ?_
  refine k_new 5 20 (by decide +kernel) rfl V nw_X5_9 dX5_init_58 (by decide +kernel) (by decide +kernel) ?_
  refine j_dup V dX5_init_61 rfl ?_
  refine k_world wW3 (wq (by decide +kernel)) ?_
  refine j_initN (k := 5) (As := []) V hX dX5_init_62 mw_X1_init mn_X5_34 (X1_init_at5) rfl rfl (Nat.le_of_ble_eq_true rfl) (by decide +kernel) (by decide +kernel) ?_
  refine j_astN (k := 3) (t := 3) (q := 0) (r := 5) (ci := 1) (rs := [none, none, none, none, none, none]) (vs := [some (.inl (0)), some (.inl (0)), some (.inl (0)), some (.inr 6)]) (rc := (RX1, TX1, 4)) V dX5_init_65 (aq (by decide +kernel)) rfl (aq (by decide +kernel)) rfl rfl (by decide +kernel) (by decide +kernel) ?_
  refine j_iinc (z := 1) V dX5_init_66 rfl (by decide +kernel) rfl ?_
  refine j_goto (tgt := 47) V dX5_init_69 rfl ?_
  refine j_iload_n V dX5_init_47 rfl rfl ?_
  refine j_bipush (z := 6) V dX5_init_48 (by decide +kernel) ?_
  refine j_icmp_ge (tgt := 72) V dX5_init_50 rfl (fun h => absurd h (by decide)) (fun _ => ?_)
  refine j_aload_n V dX5_init_53 rfl rfl ?_
  refine j_getN (k := 2) (fs := [some (.inr 3), some (.inr 4), some (.inl (0)), some (.inl (60)), some (.inl (20)), some (.inl (1000)), some (.inl (0)), some (.inl (0)), some (.inl (0)), some (.inl (1))]) (rr := 3) V dX5_init_54 fl_X5_11 (aq (by decide +kernel)) rfl ?_
  refine j_iload_n V dX5_init_57 rfl rfl ?_
  refine k_new 7 36 (by decide +kernel) rfl V nw_X5_9 dX5_init_58 (by decide +kernel) (by decide +kernel) ?_
  refine j_dup V dX5_init_61 rfl ?_
  refine k_world wW5 (wq (by decide +kernel)) ?_
  refine j_initN (k := 7) (As := []) V hX dX5_init_62 mw_X1_init mn_X5_34 (X1_init_at7) rfl rfl (Nat.le_of_ble_eq_true rfl) (by decide +kernel) (by decide +kernel) ?_
  refine j_astN (k := 3) (t := 3) (q := 1) (r := 7) (ci := 1) (rs := [some 5, none, none, none, none, none]) (vs := [some (.inl (0)), some (.inl (0)), some (.inl (0)), some (.inr 8)]) (rc := (RX1, TX1, 4)) V dX5_init_65 (aq (by decide +kernel)) rfl (aq (by decide +kernel)) rfl rfl (by decide +kernel) (by decide +kernel) ?_
  refine j_iinc (z := 2) V dX5_init_66 rfl (by decide +kernel) rfl ?_
  refine j_goto (tgt := 47) V dX5_init_69 rfl ?_
  refine j_iload_n V dX5_init_47 rfl rfl ?_
  refine j_bipush (z := 6) V dX5_init_48 (by decide +kernel) ?_
  refine j_icmp_ge (tgt := 72) V dX5_init_50 rfl (fun h => absurd h (by decide)) (fun _ => ?_)
  refine j_aload_n V dX5_init_53 rfl rfl ?_
  refine j_getN (k := 2) (fs := [some (.inr 3), some (.inr 4), some (.inl (0)), some (.inl (60)), some (.inl (20)), some (.inl (1000)), some (.inl (0)), some (.inl (0)), some (.inl (0)), some (.inl (1))]) (rr := 3) V dX5_init_54 fl_X5_11 (aq (by decide +kernel)) rfl ?_
  refine j_iload_n V dX5_init_57 rfl rfl ?_
  refine k_new 9 52 (by decide +kernel) rfl V nw_X5_9 dX5_init_58 (by decide +kernel) (by decide +kernel) ?_
  refine j_dup V dX5_init_61 rfl ?_
  refine k_world wW7 (wq (by decide +kernel)) ?_
  refine j_initN (k := 9) (As := []) V hX dX5_init_62 mw_X1_init mn_X5_34 (X1_init_at9) rfl rfl (Nat.le_of_ble_eq_true rfl) (by decide +kernel) (by decide +kernel) ?_
  refine j_astN (k := 3) (t := 3) (q := 2) (r := 9) (ci := 1) (rs := [some 5, some 7, none, none, none, none]) (vs := [some (.inl (0)), some (.inl (0)), some (.inl (0)), some (.inr 10)]) (rc := (RX1, TX1, 4)) V dX5_init_65 (aq (by decide +kernel)) rfl (aq (by decide +kernel)) rfl rfl (by decide +kernel) (by decide +kernel) ?_
  refine j_iinc (z := 3) V dX5_init_66 rfl (by decide +kernel) rfl ?_
  refine j_goto (tgt := 47) V dX5_init_69 rfl ?_
  refine j_iload_n V dX5_init_47 rfl rfl ?_
  refine j_bipush (z := 6) V dX5_init_48 (by decide +kernel) ?_
  refine j_icmp_ge (tgt := 72) V dX5_init_50 rfl (fun h => absurd h (by decide)) (fun _ => ?_)
  refine j_aload_n V dX5_init_53 rfl rfl ?_
  refine j_getN (k := 2) (fs := [some (.inr 3), some (.inr 4), some (.inl (0)), some (.inl (60)), some (.inl (20)), some (.inl (1000)), some (.inl (0)), some (.inl (0)), some (.inl (0)), some (.inl (1))]) (rr := 3) V dX5_init_54 fl_X5_11 (aq (by decide +kernel)) rfl ?_
  refine j_iload_n V dX5_init_57 rfl rfl ?_
  refine k_new 11 68 (by decide +kernel) rfl V nw_X5_9 dX5_init_58 (by decide +kernel) (by decide +kernel) ?_
  refine j_dup V dX5_init_61 rfl ?_
  refine k_world wW9 (wq (by decide +kernel)) ?_
  refine j_initN (k := 11) (As := []) V hX dX5_init_62 mw_X1_init mn_X5_34 (X1_init_at11) rfl rfl (Nat.le_of_ble_eq_true rfl) (by decide +kernel) (by decide +kernel) ?_
  refine j_astN (k := 3) (t := 3) (q := 3) (r := 11) (ci := 1) (rs := [some 5, some 7, some 9, none, none, none]) (vs := [some (.inl (0)), some (.inl (0)), some (.inl (0)), some (.inr 12)]) (rc := (RX1, TX1, 4)) V dX5_init_65 (aq (by decide +kernel)) rfl (aq (by decide +kernel)) rfl rfl (by decide +kernel) (by decide +kernel) ?_
  refine j_iinc (z := 4) V dX5_init_66 rfl (by decide +kernel) rfl ?_
  refine j_goto (tgt := 47) V dX5_init_69 rfl ?_
  refine j_iload_n V dX5_init_47 rfl rfl ?_
  refine j_bipush (z := 6) V dX5_init_48 (by decide +kernel) ?_
  refine j_icmp_ge (tgt := 72) V dX5_init_50 rfl (fun h => absurd h (by decide)) (fun _ => ?_)
  refine j_aload_n V dX5_init_53 rfl rfl ?_
  refine j_getN (k := 2) (fs := [some (.inr 3), some (.inr 4), some (.inl (0)), some (.inl (60)), some (.inl (20)), some (.inl (1000)), some (.inl (0)), some (.inl (0)), some (.inl (0)), some (.inl (1))]) (rr := 3) V dX5_init_54 fl_X5_11 (aq (by decide +kernel)) rfl ?_
  refine j_iload_n V dX5_init_57 rfl rfl ?_
  refine k_new 13 84 (by decide +kernel) rfl V nw_X5_9 dX5_init_58 (by decide +kernel) (by decide +kernel) ?_
  refine j_dup V dX5_init_61 rfl ?_
  refine k_world wW11 (wq (by decide +kernel)) ?_
  refine j_initN (k := 13) (As := []) V hX dX5_init_62 mw_X1_init mn_X5_34 (X1_init_at13) rfl rfl (Nat.le_of_ble_eq_true rfl) (by decide +kernel) (by decide +kernel) ?_
  refine j_astN (k := 3) (t := 3) (q := 4) (r := 13) (ci := 1) (rs := [some 5, some 7, some 9, some 11, none, none]) (vs := [some (.inl (0)), some (.inl (0)), some (.inl (0)), some (.inr 14)]) (rc := (RX1, TX1, 4)) V dX5_init_65 (aq (by decide +kernel)) rfl (aq (by decide +kernel)) rfl rfl (by decide +kernel) (by decide +kernel) ?_
  refine j_iinc (z := 5) V dX5_init_66 rfl (by decide +kernel) rfl ?_
  refine j_goto (tgt := 47) V dX5_init_69 rfl ?_
  refine j_iload_n V dX5_init_47 rfl rfl ?_
  refine j_bipush (z := 6) V dX5_init_48 (by decide +kernel) ?_
  refine j_icmp_ge (tgt := 72) V dX5_init_50 rfl (fun h => absurd h (by decide)) (fun _ => ?_)
  refine j_aload_n V dX5_init_53 rfl rfl ?_
  refine j_getN (k := 2) (fs := [some (.inr 3), some (.inr 4), some (.inl (0)), some (.inl (60)), some (.inl (20)), some (.inl (1000)), some (.inl (0)), some (.inl (0)), some (.inl (0)), some (.inl (1))]) (rr := 3) V dX5_init_54 fl_X5_11 (aq (by decide +kernel)) rfl ?_
  refine j_iload_n V dX5_init_57 rfl rfl ?_
  refine k_new 15 100 (by decide +kernel) rfl V nw_X5_9 dX5_init_58 (by decide +kernel) (by decide +kernel) ?_
  refine j_dup V dX5_init_61 rfl ?_
  refine k_world wW13 (wq (by decide +kernel)) ?_
  refine j_initN (k := 15) (As := []) V hX dX5_init_62 mw_X1_init mn_X5_34 (X1_init_at15) rfl rfl (Nat.le_of_ble_eq_true rfl) (by decide +kernel) (by decide +kernel) ?_
  refine j_astN (k := 3) (t := 3) (q := 5) (r := 15) (ci := 1) (rs := [some 5, some 7, some 9, some 11, some 13, none]) (vs := [some (.inl (0)), some (.inl (0)), some (.inl (0)), some (.inr 16)]) (rc := (RX1, TX1, 4)) V dX5_init_65 (aq (by decide +kernel)) rfl (aq (by decide +kernel)) rfl rfl (by decide +kernel) (by decide +kernel) ?_
  refine j_iinc (z := 6) V dX5_init_66 rfl (by decide +kernel) rfl ?_
  refine j_goto (tgt := 47) V dX5_init_69 rfl ?_
  refine j_iload_n V dX5_init_47 rfl rfl ?_
  refine j_bipush (z := 6) V dX5_init_48 (by decide +kernel) ?_
  refine j_icmp_ge (tgt := 72) V dX5_init_50 rfl (fun _ => ?_) (fun h => absurd (by decide) h)
  refine k_world wW15 (wq (by decide +kernel)) ?_
  exact j_vret V dX5_init_72
def wW16 : List LN := [
  .inl (6, [some (.inr 1), some (.inr 2), none, none, none, none, none, none, none, none, none, none, none, some (.inl (0)), some (.inl (0))]),
  .inr (.inr (2, [none, none, none, none, none, none, none, none])),
  .inl (5, [some (.inr 3), some (.inr 4), some (.inl (0)), some (.inl (60)), some (.inl (20)), some (.inl (1000)), some (.inl (0)), some (.inl (0)), some (.inl (0)), some (.inl (1))]),
  .inr (.inr (3, [some 5, some 7, some 9, some 11, some 13, some 15])),
  .inr (.inl (10, false, [])),
  .inl (1, [some (.inl (0)), some (.inl (0)), some (.inl (0)), some (.inr 6)]),
  .inr (.inl (12, false, [])),
  .inl (1, [some (.inl (0)), some (.inl (0)), some (.inl (0)), some (.inr 8)]),
  .inr (.inl (12, false, [])),
  .inl (1, [some (.inl (0)), some (.inl (0)), some (.inl (0)), some (.inr 10)]),
  .inr (.inl (12, false, [])),
  .inl (1, [some (.inl (0)), some (.inl (0)), some (.inl (0)), some (.inr 12)]),
  .inr (.inl (12, false, [])),
  .inl (1, [some (.inl (0)), some (.inl (0)), some (.inl (0)), some (.inr 14)]),
  .inr (.inl (12, false, [])),
  .inl (1, [some (.inl (0)), some (.inl (0)), some (.inl (0)), some (.inr 16)]),
  .inr (.inl (12, false, [])),
  .inl (5, [none, none, some (.inl (0)), some (.inl (0)), some (.inl (0)), some (.inl (0)), some (.inl (0)), some (.inl (0)), some (.inl (0)), some (.inl (0))])]
def wW17 : List LN := [
  .inl (6, [some (.inr 1), some (.inr 2), none, none, none, none, none, none, none, none, none, none, none, some (.inl (0)), some (.inl (0))]),
  .inr (.inr (2, [none, none, none, none, none, none, none, none])),
  .inl (5, [some (.inr 3), some (.inr 4), some (.inl (0)), some (.inl (60)), some (.inl (20)), some (.inl (1000)), some (.inl (0)), some (.inl (0)), some (.inl (0)), some (.inl (1))]),
  .inr (.inr (3, [some 5, some 7, some 9, some 11, some 13, some 15])),
  .inr (.inl (10, false, [])),
  .inl (1, [some (.inl (0)), some (.inl (0)), some (.inl (0)), some (.inr 6)]),
  .inr (.inl (12, false, [])),
  .inl (1, [some (.inl (0)), some (.inl (0)), some (.inl (0)), some (.inr 8)]),
  .inr (.inl (12, false, [])),
  .inl (1, [some (.inl (0)), some (.inl (0)), some (.inl (0)), some (.inr 10)]),
  .inr (.inl (12, false, [])),
  .inl (1, [some (.inl (0)), some (.inl (0)), some (.inl (0)), some (.inr 12)]),
  .inr (.inl (12, false, [])),
  .inl (1, [some (.inl (0)), some (.inl (0)), some (.inl (0)), some (.inr 14)]),
  .inr (.inl (12, false, [])),
  .inl (1, [some (.inl (0)), some (.inl (0)), some (.inl (0)), some (.inr 16)]),
  .inr (.inl (12, false, [])),
  .inl (5, [some (.inr 18), some (.inr 19), some (.inl (0)), some (.inl (60)), some (.inl (20)), some (.inl (1000)), some (.inl (0)), some (.inl (0)), some (.inl (0)), some (.inl (1))]),
  .inr (.inr (3, [none, none, none, none, none, none])),
  .inr (.inl (10, false, [])),
  .inl (1, [some (.inl (0)), some (.inl (0)), some (.inl (0)), none])]
def wW18 : List LN := [
  .inl (6, [some (.inr 1), some (.inr 2), none, none, none, none, none, none, none, none, none, none, none, some (.inl (0)), some (.inl (0))]),
  .inr (.inr (2, [none, none, none, none, none, none, none, none])),
  .inl (5, [some (.inr 3), some (.inr 4), some (.inl (0)), some (.inl (60)), some (.inl (20)), some (.inl (1000)), some (.inl (0)), some (.inl (0)), some (.inl (0)), some (.inl (1))]),
  .inr (.inr (3, [some 5, some 7, some 9, some 11, some 13, some 15])),
  .inr (.inl (10, false, [])),
  .inl (1, [some (.inl (0)), some (.inl (0)), some (.inl (0)), some (.inr 6)]),
  .inr (.inl (12, false, [])),
  .inl (1, [some (.inl (0)), some (.inl (0)), some (.inl (0)), some (.inr 8)]),
  .inr (.inl (12, false, [])),
  .inl (1, [some (.inl (0)), some (.inl (0)), some (.inl (0)), some (.inr 10)]),
  .inr (.inl (12, false, [])),
  .inl (1, [some (.inl (0)), some (.inl (0)), some (.inl (0)), some (.inr 12)]),
  .inr (.inl (12, false, [])),
  .inl (1, [some (.inl (0)), some (.inl (0)), some (.inl (0)), some (.inr 14)]),
  .inr (.inl (12, false, [])),
  .inl (1, [some (.inl (0)), some (.inl (0)), some (.inl (0)), some (.inr 16)]),
  .inr (.inl (12, false, [])),
  .inl (5, [some (.inr 18), some (.inr 19), some (.inl (0)), some (.inl (60)), some (.inl (20)), some (.inl (1000)), some (.inl (0)), some (.inl (0)), some (.inl (0)), some (.inl (1))]),
  .inr (.inr (3, [none, none, none, none, none, none])),
  .inr (.inl (10, false, [])),
  .inl (1, [some (.inl (0)), some (.inl (0)), some (.inl (0)), some (.inr 21)]),
  .inr (.inl (12, false, []))]
set_option maxRecDepth 100000 in
theorem X1_init_at20 {E : EE} {B : Nat} : CN E B yX1_init cX1_init 1 1 [.ref (B + 20)] wW17 wW18 1 12 := by
  refine CN.of (own := RX1) (by decide +kernel) rfl rfl (Nat.le_of_ble_eq_true rfl) fun v V hX hi => ?_
  refine j_aload_n V dX1_init_0 rfl rfl ?_
  refine j_objInit V dX1_init_1 ml_X1_3 (by decide +kernel) ?_
  refine j_aload_n V dX1_init_4 rfl rfl ?_
  refine j_bipush (z := 12) V dX1_init_5 (by decide +kernel) ?_
  refine k_newI (N := 12) 21 12 (by decide +kernel) rfl V hX dX1_init_7 rfl (by decide +kernel) (by decide +kernel) (by decide +kernel) ?_
  refine j_put (k := 20) (fs := [some (.inl (0)), some (.inl (0)), some (.inl (0)), none]) (κ := 0) (some (.inr 21)) V hi dX1_init_9 fl_X1_9 (by decide +kernel) rfl rfl (aq (by decide +kernel)) (by decide +kernel) ?_
  refine k_world wW18 (wq (by decide +kernel)) ?_
  exact j_vret V dX1_init_12
def wW19 : List LN := [
  .inl (6, [some (.inr 1), some (.inr 2), none, none, none, none, none, none, none, none, none, none, none, some (.inl (0)), some (.inl (0))]),
  .inr (.inr (2, [none, none, none, none, none, none, none, none])),
  .inl (5, [some (.inr 3), some (.inr 4), some (.inl (0)), some (.inl (60)), some (.inl (20)), some (.inl (1000)), some (.inl (0)), some (.inl (0)), some (.inl (0)), some (.inl (1))]),
  .inr (.inr (3, [some 5, some 7, some 9, some 11, some 13, some 15])),
  .inr (.inl (10, false, [])),
  .inl (1, [some (.inl (0)), some (.inl (0)), some (.inl (0)), some (.inr 6)]),
  .inr (.inl (12, false, [])),
  .inl (1, [some (.inl (0)), some (.inl (0)), some (.inl (0)), some (.inr 8)]),
  .inr (.inl (12, false, [])),
  .inl (1, [some (.inl (0)), some (.inl (0)), some (.inl (0)), some (.inr 10)]),
  .inr (.inl (12, false, [])),
  .inl (1, [some (.inl (0)), some (.inl (0)), some (.inl (0)), some (.inr 12)]),
  .inr (.inl (12, false, [])),
  .inl (1, [some (.inl (0)), some (.inl (0)), some (.inl (0)), some (.inr 14)]),
  .inr (.inl (12, false, [])),
  .inl (1, [some (.inl (0)), some (.inl (0)), some (.inl (0)), some (.inr 16)]),
  .inr (.inl (12, false, [])),
  .inl (5, [some (.inr 18), some (.inr 19), some (.inl (0)), some (.inl (60)), some (.inl (20)), some (.inl (1000)), some (.inl (0)), some (.inl (0)), some (.inl (0)), some (.inl (1))]),
  .inr (.inr (3, [some 20, none, none, none, none, none])),
  .inr (.inl (10, false, [])),
  .inl (1, [some (.inl (0)), some (.inl (0)), some (.inl (0)), some (.inr 21)]),
  .inr (.inl (12, false, [])),
  .inl (1, [some (.inl (0)), some (.inl (0)), some (.inl (0)), none])]
def wW20 : List LN := [
  .inl (6, [some (.inr 1), some (.inr 2), none, none, none, none, none, none, none, none, none, none, none, some (.inl (0)), some (.inl (0))]),
  .inr (.inr (2, [none, none, none, none, none, none, none, none])),
  .inl (5, [some (.inr 3), some (.inr 4), some (.inl (0)), some (.inl (60)), some (.inl (20)), some (.inl (1000)), some (.inl (0)), some (.inl (0)), some (.inl (0)), some (.inl (1))]),
  .inr (.inr (3, [some 5, some 7, some 9, some 11, some 13, some 15])),
  .inr (.inl (10, false, [])),
  .inl (1, [some (.inl (0)), some (.inl (0)), some (.inl (0)), some (.inr 6)]),
  .inr (.inl (12, false, [])),
  .inl (1, [some (.inl (0)), some (.inl (0)), some (.inl (0)), some (.inr 8)]),
  .inr (.inl (12, false, [])),
  .inl (1, [some (.inl (0)), some (.inl (0)), some (.inl (0)), some (.inr 10)]),
  .inr (.inl (12, false, [])),
  .inl (1, [some (.inl (0)), some (.inl (0)), some (.inl (0)), some (.inr 12)]),
  .inr (.inl (12, false, [])),
  .inl (1, [some (.inl (0)), some (.inl (0)), some (.inl (0)), some (.inr 14)]),
  .inr (.inl (12, false, [])),
  .inl (1, [some (.inl (0)), some (.inl (0)), some (.inl (0)), some (.inr 16)]),
  .inr (.inl (12, false, [])),
  .inl (5, [some (.inr 18), some (.inr 19), some (.inl (0)), some (.inl (60)), some (.inl (20)), some (.inl (1000)), some (.inl (0)), some (.inl (0)), some (.inl (0)), some (.inl (1))]),
  .inr (.inr (3, [some 20, none, none, none, none, none])),
  .inr (.inl (10, false, [])),
  .inl (1, [some (.inl (0)), some (.inl (0)), some (.inl (0)), some (.inr 21)]),
  .inr (.inl (12, false, [])),
  .inl (1, [some (.inl (0)), some (.inl (0)), some (.inl (0)), some (.inr 23)]),
  .inr (.inl (12, false, []))]
set_option maxRecDepth 100000 in
theorem X1_init_at22 {E : EE} {B : Nat} : CN E B yX1_init cX1_init 1 1 [.ref (B + 22)] wW19 wW20 1 12 := by
  refine CN.of (own := RX1) (by decide +kernel) rfl rfl (Nat.le_of_ble_eq_true rfl) fun v V hX hi => ?_
  refine j_aload_n V dX1_init_0 rfl rfl ?_
  refine j_objInit V dX1_init_1 ml_X1_3 (by decide +kernel) ?_
  refine j_aload_n V dX1_init_4 rfl rfl ?_
  refine j_bipush (z := 12) V dX1_init_5 (by decide +kernel) ?_
  refine k_newI (N := 12) 23 12 (by decide +kernel) rfl V hX dX1_init_7 rfl (by decide +kernel) (by decide +kernel) (by decide +kernel) ?_
  refine j_put (k := 22) (fs := [some (.inl (0)), some (.inl (0)), some (.inl (0)), none]) (κ := 0) (some (.inr 23)) V hi dX1_init_9 fl_X1_9 (by decide +kernel) rfl rfl (aq (by decide +kernel)) (by decide +kernel) ?_
  refine k_world wW20 (wq (by decide +kernel)) ?_
  exact j_vret V dX1_init_12
def wW21 : List LN := [
  .inl (6, [some (.inr 1), some (.inr 2), none, none, none, none, none, none, none, none, none, none, none, some (.inl (0)), some (.inl (0))]),
  .inr (.inr (2, [none, none, none, none, none, none, none, none])),
  .inl (5, [some (.inr 3), some (.inr 4), some (.inl (0)), some (.inl (60)), some (.inl (20)), some (.inl (1000)), some (.inl (0)), some (.inl (0)), some (.inl (0)), some (.inl (1))]),
  .inr (.inr (3, [some 5, some 7, some 9, some 11, some 13, some 15])),
  .inr (.inl (10, false, [])),
  .inl (1, [some (.inl (0)), some (.inl (0)), some (.inl (0)), some (.inr 6)]),
  .inr (.inl (12, false, [])),
  .inl (1, [some (.inl (0)), some (.inl (0)), some (.inl (0)), some (.inr 8)]),
  .inr (.inl (12, false, [])),
  .inl (1, [some (.inl (0)), some (.inl (0)), some (.inl (0)), some (.inr 10)]),
  .inr (.inl (12, false, [])),
  .inl (1, [some (.inl (0)), some (.inl (0)), some (.inl (0)), some (.inr 12)]),
  .inr (.inl (12, false, [])),
  .inl (1, [some (.inl (0)), some (.inl (0)), some (.inl (0)), some (.inr 14)]),
  .inr (.inl (12, false, [])),
  .inl (1, [some (.inl (0)), some (.inl (0)), some (.inl (0)), some (.inr 16)]),
  .inr (.inl (12, false, [])),
  .inl (5, [some (.inr 18), some (.inr 19), some (.inl (0)), some (.inl (60)), some (.inl (20)), some (.inl (1000)), some (.inl (0)), some (.inl (0)), some (.inl (0)), some (.inl (1))]),
  .inr (.inr (3, [some 20, some 22, none, none, none, none])),
  .inr (.inl (10, false, [])),
  .inl (1, [some (.inl (0)), some (.inl (0)), some (.inl (0)), some (.inr 21)]),
  .inr (.inl (12, false, [])),
  .inl (1, [some (.inl (0)), some (.inl (0)), some (.inl (0)), some (.inr 23)]),
  .inr (.inl (12, false, [])),
  .inl (1, [some (.inl (0)), some (.inl (0)), some (.inl (0)), none])]
def wW22 : List LN := [
  .inl (6, [some (.inr 1), some (.inr 2), none, none, none, none, none, none, none, none, none, none, none, some (.inl (0)), some (.inl (0))]),
  .inr (.inr (2, [none, none, none, none, none, none, none, none])),
  .inl (5, [some (.inr 3), some (.inr 4), some (.inl (0)), some (.inl (60)), some (.inl (20)), some (.inl (1000)), some (.inl (0)), some (.inl (0)), some (.inl (0)), some (.inl (1))]),
  .inr (.inr (3, [some 5, some 7, some 9, some 11, some 13, some 15])),
  .inr (.inl (10, false, [])),
  .inl (1, [some (.inl (0)), some (.inl (0)), some (.inl (0)), some (.inr 6)]),
  .inr (.inl (12, false, [])),
  .inl (1, [some (.inl (0)), some (.inl (0)), some (.inl (0)), some (.inr 8)]),
  .inr (.inl (12, false, [])),
  .inl (1, [some (.inl (0)), some (.inl (0)), some (.inl (0)), some (.inr 10)]),
  .inr (.inl (12, false, [])),
  .inl (1, [some (.inl (0)), some (.inl (0)), some (.inl (0)), some (.inr 12)]),
  .inr (.inl (12, false, [])),
  .inl (1, [some (.inl (0)), some (.inl (0)), some (.inl (0)), some (.inr 14)]),
  .inr (.inl (12, false, [])),
  .inl (1, [some (.inl (0)), some (.inl (0)), some (.inl (0)), some (.inr 16)]),
  .inr (.inl (12, false, [])),
  .inl (5, [some (.inr 18), some (.inr 19), some (.inl (0)), some (.inl (60)), some (.inl (20)), some (.inl (1000)), some (.inl (0)), some (.inl (0)), some (.inl (0)), some (.inl (1))]),
  .inr (.inr (3, [some 20, some 22, none, none, none, none])),
  .inr (.inl (10, false, [])),
  .inl (1, [some (.inl (0)), some (.inl (0)), some (.inl (0)), some (.inr 21)]),
  .inr (.inl (12, false, [])),
  .inl (1, [some (.inl (0)), some (.inl (0)), some (.inl (0)), some (.inr 23)]),
  .inr (.inl (12, false, [])),
  .inl (1, [some (.inl (0)), some (.inl (0)), some (.inl (0)), some (.inr 25)]),
  .inr (.inl (12, false, []))]
set_option maxRecDepth 100000 in
theorem X1_init_at24 {E : EE} {B : Nat} : CN E B yX1_init cX1_init 1 1 [.ref (B + 24)] wW21 wW22 1 12 := by
  refine CN.of (own := RX1) (by decide +kernel) rfl rfl (Nat.le_of_ble_eq_true rfl) fun v V hX hi => ?_
  refine j_aload_n V dX1_init_0 rfl rfl ?_
  refine j_objInit V dX1_init_1 ml_X1_3 (by decide +kernel) ?_
  refine j_aload_n V dX1_init_4 rfl rfl ?_
  refine j_bipush (z := 12) V dX1_init_5 (by decide +kernel) ?_
  refine k_newI (N := 12) 25 12 (by decide +kernel) rfl V hX dX1_init_7 rfl (by decide +kernel) (by decide +kernel) (by decide +kernel) ?_
  refine j_put (k := 24) (fs := [some (.inl (0)), some (.inl (0)), some (.inl (0)), none]) (κ := 0) (some (.inr 25)) V hi dX1_init_9 fl_X1_9 (by decide +kernel) rfl rfl (aq (by decide +kernel)) (by decide +kernel) ?_
  refine k_world wW22 (wq (by decide +kernel)) ?_
  exact j_vret V dX1_init_12
def wW23 : List LN := [
  .inl (6, [some (.inr 1), some (.inr 2), none, none, none, none, none, none, none, none, none, none, none, some (.inl (0)), some (.inl (0))]),
  .inr (.inr (2, [none, none, none, none, none, none, none, none])),
  .inl (5, [some (.inr 3), some (.inr 4), some (.inl (0)), some (.inl (60)), some (.inl (20)), some (.inl (1000)), some (.inl (0)), some (.inl (0)), some (.inl (0)), some (.inl (1))]),
  .inr (.inr (3, [some 5, some 7, some 9, some 11, some 13, some 15])),
  .inr (.inl (10, false, [])),
  .inl (1, [some (.inl (0)), some (.inl (0)), some (.inl (0)), some (.inr 6)]),
  .inr (.inl (12, false, [])),
  .inl (1, [some (.inl (0)), some (.inl (0)), some (.inl (0)), some (.inr 8)]),
  .inr (.inl (12, false, [])),
  .inl (1, [some (.inl (0)), some (.inl (0)), some (.inl (0)), some (.inr 10)]),
  .inr (.inl (12, false, [])),
  .inl (1, [some (.inl (0)), some (.inl (0)), some (.inl (0)), some (.inr 12)]),
  .inr (.inl (12, false, [])),
  .inl (1, [some (.inl (0)), some (.inl (0)), some (.inl (0)), some (.inr 14)]),
  .inr (.inl (12, false, [])),
  .inl (1, [some (.inl (0)), some (.inl (0)), some (.inl (0)), some (.inr 16)]),
  .inr (.inl (12, false, [])),
  .inl (5, [some (.inr 18), some (.inr 19), some (.inl (0)), some (.inl (60)), some (.inl (20)), some (.inl (1000)), some (.inl (0)), some (.inl (0)), some (.inl (0)), some (.inl (1))]),
  .inr (.inr (3, [some 20, some 22, some 24, none, none, none])),
  .inr (.inl (10, false, [])),
  .inl (1, [some (.inl (0)), some (.inl (0)), some (.inl (0)), some (.inr 21)]),
  .inr (.inl (12, false, [])),
  .inl (1, [some (.inl (0)), some (.inl (0)), some (.inl (0)), some (.inr 23)]),
  .inr (.inl (12, false, [])),
  .inl (1, [some (.inl (0)), some (.inl (0)), some (.inl (0)), some (.inr 25)]),
  .inr (.inl (12, false, [])),
  .inl (1, [some (.inl (0)), some (.inl (0)), some (.inl (0)), none])]
def wW24 : List LN := [
  .inl (6, [some (.inr 1), some (.inr 2), none, none, none, none, none, none, none, none, none, none, none, some (.inl (0)), some (.inl (0))]),
  .inr (.inr (2, [none, none, none, none, none, none, none, none])),
  .inl (5, [some (.inr 3), some (.inr 4), some (.inl (0)), some (.inl (60)), some (.inl (20)), some (.inl (1000)), some (.inl (0)), some (.inl (0)), some (.inl (0)), some (.inl (1))]),
  .inr (.inr (3, [some 5, some 7, some 9, some 11, some 13, some 15])),
  .inr (.inl (10, false, [])),
  .inl (1, [some (.inl (0)), some (.inl (0)), some (.inl (0)), some (.inr 6)]),
  .inr (.inl (12, false, [])),
  .inl (1, [some (.inl (0)), some (.inl (0)), some (.inl (0)), some (.inr 8)]),
  .inr (.inl (12, false, [])),
  .inl (1, [some (.inl (0)), some (.inl (0)), some (.inl (0)), some (.inr 10)]),
  .inr (.inl (12, false, [])),
  .inl (1, [some (.inl (0)), some (.inl (0)), some (.inl (0)), some (.inr 12)]),
  .inr (.inl (12, false, [])),
  .inl (1, [some (.inl (0)), some (.inl (0)), some (.inl (0)), some (.inr 14)]),
  .inr (.inl (12, false, [])),
  .inl (1, [some (.inl (0)), some (.inl (0)), some (.inl (0)), some (.inr 16)]),
  .inr (.inl (12, false, [])),
  .inl (5, [some (.inr 18), some (.inr 19), some (.inl (0)), some (.inl (60)), some (.inl (20)), some (.inl (1000)), some (.inl (0)), some (.inl (0)), some (.inl (0)), some (.inl (1))]),
  .inr (.inr (3, [some 20, some 22, some 24, none, none, none])),
  .inr (.inl (10, false, [])),
  .inl (1, [some (.inl (0)), some (.inl (0)), some (.inl (0)), some (.inr 21)]),
  .inr (.inl (12, false, [])),
  .inl (1, [some (.inl (0)), some (.inl (0)), some (.inl (0)), some (.inr 23)]),
  .inr (.inl (12, false, [])),
  .inl (1, [some (.inl (0)), some (.inl (0)), some (.inl (0)), some (.inr 25)]),
  .inr (.inl (12, false, [])),
  .inl (1, [some (.inl (0)), some (.inl (0)), some (.inl (0)), some (.inr 27)]),
  .inr (.inl (12, false, []))]
set_option maxRecDepth 100000 in
theorem X1_init_at26 {E : EE} {B : Nat} : CN E B yX1_init cX1_init 1 1 [.ref (B + 26)] wW23 wW24 1 12 := by
  refine CN.of (own := RX1) (by decide +kernel) rfl rfl (Nat.le_of_ble_eq_true rfl) fun v V hX hi => ?_
  refine j_aload_n V dX1_init_0 rfl rfl ?_
  refine j_objInit V dX1_init_1 ml_X1_3 (by decide +kernel) ?_
  refine j_aload_n V dX1_init_4 rfl rfl ?_
  refine j_bipush (z := 12) V dX1_init_5 (by decide +kernel) ?_
  refine k_newI (N := 12) 27 12 (by decide +kernel) rfl V hX dX1_init_7 rfl (by decide +kernel) (by decide +kernel) (by decide +kernel) ?_
  refine j_put (k := 26) (fs := [some (.inl (0)), some (.inl (0)), some (.inl (0)), none]) (κ := 0) (some (.inr 27)) V hi dX1_init_9 fl_X1_9 (by decide +kernel) rfl rfl (aq (by decide +kernel)) (by decide +kernel) ?_
  refine k_world wW24 (wq (by decide +kernel)) ?_
  exact j_vret V dX1_init_12
def wW25 : List LN := [
  .inl (6, [some (.inr 1), some (.inr 2), none, none, none, none, none, none, none, none, none, none, none, some (.inl (0)), some (.inl (0))]),
  .inr (.inr (2, [none, none, none, none, none, none, none, none])),
  .inl (5, [some (.inr 3), some (.inr 4), some (.inl (0)), some (.inl (60)), some (.inl (20)), some (.inl (1000)), some (.inl (0)), some (.inl (0)), some (.inl (0)), some (.inl (1))]),
  .inr (.inr (3, [some 5, some 7, some 9, some 11, some 13, some 15])),
  .inr (.inl (10, false, [])),
  .inl (1, [some (.inl (0)), some (.inl (0)), some (.inl (0)), some (.inr 6)]),
  .inr (.inl (12, false, [])),
  .inl (1, [some (.inl (0)), some (.inl (0)), some (.inl (0)), some (.inr 8)]),
  .inr (.inl (12, false, [])),
  .inl (1, [some (.inl (0)), some (.inl (0)), some (.inl (0)), some (.inr 10)]),
  .inr (.inl (12, false, [])),
  .inl (1, [some (.inl (0)), some (.inl (0)), some (.inl (0)), some (.inr 12)]),
  .inr (.inl (12, false, [])),
  .inl (1, [some (.inl (0)), some (.inl (0)), some (.inl (0)), some (.inr 14)]),
  .inr (.inl (12, false, [])),
  .inl (1, [some (.inl (0)), some (.inl (0)), some (.inl (0)), some (.inr 16)]),
  .inr (.inl (12, false, [])),
  .inl (5, [some (.inr 18), some (.inr 19), some (.inl (0)), some (.inl (60)), some (.inl (20)), some (.inl (1000)), some (.inl (0)), some (.inl (0)), some (.inl (0)), some (.inl (1))]),
  .inr (.inr (3, [some 20, some 22, some 24, some 26, none, none])),
  .inr (.inl (10, false, [])),
  .inl (1, [some (.inl (0)), some (.inl (0)), some (.inl (0)), some (.inr 21)]),
  .inr (.inl (12, false, [])),
  .inl (1, [some (.inl (0)), some (.inl (0)), some (.inl (0)), some (.inr 23)]),
  .inr (.inl (12, false, [])),
  .inl (1, [some (.inl (0)), some (.inl (0)), some (.inl (0)), some (.inr 25)]),
  .inr (.inl (12, false, [])),
  .inl (1, [some (.inl (0)), some (.inl (0)), some (.inl (0)), some (.inr 27)]),
  .inr (.inl (12, false, [])),
  .inl (1, [some (.inl (0)), some (.inl (0)), some (.inl (0)), none])]
def wW26 : List LN := [
  .inl (6, [some (.inr 1), some (.inr 2), none, none, none, none, none, none, none, none, none, none, none, some (.inl (0)), some (.inl (0))]),
  .inr (.inr (2, [none, none, none, none, none, none, none, none])),
  .inl (5, [some (.inr 3), some (.inr 4), some (.inl (0)), some (.inl (60)), some (.inl (20)), some (.inl (1000)), some (.inl (0)), some (.inl (0)), some (.inl (0)), some (.inl (1))]),
  .inr (.inr (3, [some 5, some 7, some 9, some 11, some 13, some 15])),
  .inr (.inl (10, false, [])),
  .inl (1, [some (.inl (0)), some (.inl (0)), some (.inl (0)), some (.inr 6)]),
  .inr (.inl (12, false, [])),
  .inl (1, [some (.inl (0)), some (.inl (0)), some (.inl (0)), some (.inr 8)]),
  .inr (.inl (12, false, [])),
  .inl (1, [some (.inl (0)), some (.inl (0)), some (.inl (0)), some (.inr 10)]),
  .inr (.inl (12, false, [])),
  .inl (1, [some (.inl (0)), some (.inl (0)), some (.inl (0)), some (.inr 12)]),
  .inr (.inl (12, false, [])),
  .inl (1, [some (.inl (0)), some (.inl (0)), some (.inl (0)), some (.inr 14)]),
  .inr (.inl (12, false, [])),
  .inl (1, [some (.inl (0)), some (.inl (0)), some (.inl (0)), some (.inr 16)]),
  .inr (.inl (12, false, [])),
  .inl (5, [some (.inr 18), some (.inr 19), some (.inl (0)), some (.inl (60)), some (.inl (20)), some (.inl (1000)), some (.inl (0)), some (.inl (0)), some (.inl (0)), some (.inl (1))]),
  .inr (.inr (3, [some 20, some 22, some 24, some 26, none, none])),
  .inr (.inl (10, false, [])),
  .inl (1, [some (.inl (0)), some (.inl (0)), some (.inl (0)), some (.inr 21)]),
  .inr (.inl (12, false, [])),
  .inl (1, [some (.inl (0)), some (.inl (0)), some (.inl (0)), some (.inr 23)]),
  .inr (.inl (12, false, [])),
  .inl (1, [some (.inl (0)), some (.inl (0)), some (.inl (0)), some (.inr 25)]),
  .inr (.inl (12, false, [])),
  .inl (1, [some (.inl (0)), some (.inl (0)), some (.inl (0)), some (.inr 27)]),
  .inr (.inl (12, false, [])),
  .inl (1, [some (.inl (0)), some (.inl (0)), some (.inl (0)), some (.inr 29)]),
  .inr (.inl (12, false, []))]
set_option maxRecDepth 100000 in
theorem X1_init_at28 {E : EE} {B : Nat} : CN E B yX1_init cX1_init 1 1 [.ref (B + 28)] wW25 wW26 1 12 := by
  refine CN.of (own := RX1) (by decide +kernel) rfl rfl (Nat.le_of_ble_eq_true rfl) fun v V hX hi => ?_
  refine j_aload_n V dX1_init_0 rfl rfl ?_
  refine j_objInit V dX1_init_1 ml_X1_3 (by decide +kernel) ?_
  refine j_aload_n V dX1_init_4 rfl rfl ?_
  refine j_bipush (z := 12) V dX1_init_5 (by decide +kernel) ?_
  refine k_newI (N := 12) 29 12 (by decide +kernel) rfl V hX dX1_init_7 rfl (by decide +kernel) (by decide +kernel) (by decide +kernel) ?_
  refine j_put (k := 28) (fs := [some (.inl (0)), some (.inl (0)), some (.inl (0)), none]) (κ := 0) (some (.inr 29)) V hi dX1_init_9 fl_X1_9 (by decide +kernel) rfl rfl (aq (by decide +kernel)) (by decide +kernel) ?_
  refine k_world wW26 (wq (by decide +kernel)) ?_
  exact j_vret V dX1_init_12
def wW27 : List LN := [
  .inl (6, [some (.inr 1), some (.inr 2), none, none, none, none, none, none, none, none, none, none, none, some (.inl (0)), some (.inl (0))]),
  .inr (.inr (2, [none, none, none, none, none, none, none, none])),
  .inl (5, [some (.inr 3), some (.inr 4), some (.inl (0)), some (.inl (60)), some (.inl (20)), some (.inl (1000)), some (.inl (0)), some (.inl (0)), some (.inl (0)), some (.inl (1))]),
  .inr (.inr (3, [some 5, some 7, some 9, some 11, some 13, some 15])),
  .inr (.inl (10, false, [])),
  .inl (1, [some (.inl (0)), some (.inl (0)), some (.inl (0)), some (.inr 6)]),
  .inr (.inl (12, false, [])),
  .inl (1, [some (.inl (0)), some (.inl (0)), some (.inl (0)), some (.inr 8)]),
  .inr (.inl (12, false, [])),
  .inl (1, [some (.inl (0)), some (.inl (0)), some (.inl (0)), some (.inr 10)]),
  .inr (.inl (12, false, [])),
  .inl (1, [some (.inl (0)), some (.inl (0)), some (.inl (0)), some (.inr 12)]),
  .inr (.inl (12, false, [])),
  .inl (1, [some (.inl (0)), some (.inl (0)), some (.inl (0)), some (.inr 14)]),
  .inr (.inl (12, false, [])),
  .inl (1, [some (.inl (0)), some (.inl (0)), some (.inl (0)), some (.inr 16)]),
  .inr (.inl (12, false, [])),
  .inl (5, [some (.inr 18), some (.inr 19), some (.inl (0)), some (.inl (60)), some (.inl (20)), some (.inl (1000)), some (.inl (0)), some (.inl (0)), some (.inl (0)), some (.inl (1))]),
  .inr (.inr (3, [some 20, some 22, some 24, some 26, some 28, none])),
  .inr (.inl (10, false, [])),
  .inl (1, [some (.inl (0)), some (.inl (0)), some (.inl (0)), some (.inr 21)]),
  .inr (.inl (12, false, [])),
  .inl (1, [some (.inl (0)), some (.inl (0)), some (.inl (0)), some (.inr 23)]),
  .inr (.inl (12, false, [])),
  .inl (1, [some (.inl (0)), some (.inl (0)), some (.inl (0)), some (.inr 25)]),
  .inr (.inl (12, false, [])),
  .inl (1, [some (.inl (0)), some (.inl (0)), some (.inl (0)), some (.inr 27)]),
  .inr (.inl (12, false, [])),
  .inl (1, [some (.inl (0)), some (.inl (0)), some (.inl (0)), some (.inr 29)]),
  .inr (.inl (12, false, [])),
  .inl (1, [some (.inl (0)), some (.inl (0)), some (.inl (0)), none])]
def wW28 : List LN := [
  .inl (6, [some (.inr 1), some (.inr 2), none, none, none, none, none, none, none, none, none, none, none, some (.inl (0)), some (.inl (0))]),
  .inr (.inr (2, [none, none, none, none, none, none, none, none])),
  .inl (5, [some (.inr 3), some (.inr 4), some (.inl (0)), some (.inl (60)), some (.inl (20)), some (.inl (1000)), some (.inl (0)), some (.inl (0)), some (.inl (0)), some (.inl (1))]),
  .inr (.inr (3, [some 5, some 7, some 9, some 11, some 13, some 15])),
  .inr (.inl (10, false, [])),
  .inl (1, [some (.inl (0)), some (.inl (0)), some (.inl (0)), some (.inr 6)]),
  .inr (.inl (12, false, [])),
  .inl (1, [some (.inl (0)), some (.inl (0)), some (.inl (0)), some (.inr 8)]),
  .inr (.inl (12, false, [])),
  .inl (1, [some (.inl (0)), some (.inl (0)), some (.inl (0)), some (.inr 10)]),
  .inr (.inl (12, false, [])),
  .inl (1, [some (.inl (0)), some (.inl (0)), some (.inl (0)), some (.inr 12)]),
  .inr (.inl (12, false, [])),
  .inl (1, [some (.inl (0)), some (.inl (0)), some (.inl (0)), some (.inr 14)]),
  .inr (.inl (12, false, [])),
  .inl (1, [some (.inl (0)), some (.inl (0)), some (.inl (0)), some (.inr 16)]),
  .inr (.inl (12, false, [])),
  .inl (5, [some (.inr 18), some (.inr 19), some (.inl (0)), some (.inl (60)), some (.inl (20)), some (.inl (1000)), some (.inl (0)), some (.inl (0)), some (.inl (0)), some (.inl (1))]),
  .inr (.inr (3, [some 20, some 22, some 24, some 26, some 28, none])),
  .inr (.inl (10, false, [])),
  .inl (1, [some (.inl (0)), some (.inl (0)), some (.inl (0)), some (.inr 21)]),
  .inr (.inl (12, false, [])),
  .inl (1, [some (.inl (0)), some (.inl (0)), some (.inl (0)), some (.inr 23)]),
  .inr (.inl (12, false, [])),
  .inl (1, [some (.inl (0)), some (.inl (0)), some (.inl (0)), some (.inr 25)]),
  .inr (.inl (12, false, [])),
  .inl (1, [some (.inl (0)), some (.inl (0)), some (.inl (0)), some (.inr 27)]),
  .inr (.inl (12, false, [])),
  .inl (1, [some (.inl (0)), some (.inl (0)), some (.inl (0)), some (.inr 29)]),
  .inr (.inl (12, false, [])),
  .inl (1, [some (.inl (0)), some (.inl (0)), some (.inl (0)), some (.inr 31)]),
  .inr (.inl (12, false, []))]
set_option maxRecDepth 100000 in
theorem X1_init_at30 {E : EE} {B : Nat} : CN E B yX1_init cX1_init 1 1 [.ref (B + 30)] wW27 wW28 1 12 := by
  refine CN.of (own := RX1) (by decide +kernel) rfl rfl (Nat.le_of_ble_eq_true rfl) fun v V hX hi => ?_
  refine j_aload_n V dX1_init_0 rfl rfl ?_
  refine j_objInit V dX1_init_1 ml_X1_3 (by decide +kernel) ?_
  refine j_aload_n V dX1_init_4 rfl rfl ?_
  refine j_bipush (z := 12) V dX1_init_5 (by decide +kernel) ?_
  refine k_newI (N := 12) 31 12 (by decide +kernel) rfl V hX dX1_init_7 rfl (by decide +kernel) (by decide +kernel) (by decide +kernel) ?_
  refine j_put (k := 30) (fs := [some (.inl (0)), some (.inl (0)), some (.inl (0)), none]) (κ := 0) (some (.inr 31)) V hi dX1_init_9 fl_X1_9 (by decide +kernel) rfl rfl (aq (by decide +kernel)) (by decide +kernel) ?_
  refine k_world wW28 (wq (by decide +kernel)) ?_
  exact j_vret V dX1_init_12
def wW29 : List LN := [
  .inl (6, [some (.inr 1), some (.inr 2), none, none, none, none, none, none, none, none, none, none, none, some (.inl (0)), some (.inl (0))]),
  .inr (.inr (2, [none, none, none, none, none, none, none, none])),
  .inl (5, [some (.inr 3), some (.inr 4), some (.inl (0)), some (.inl (60)), some (.inl (20)), some (.inl (1000)), some (.inl (0)), some (.inl (0)), some (.inl (0)), some (.inl (1))]),
  .inr (.inr (3, [some 5, some 7, some 9, some 11, some 13, some 15])),
  .inr (.inl (10, false, [])),
  .inl (1, [some (.inl (0)), some (.inl (0)), some (.inl (0)), some (.inr 6)]),
  .inr (.inl (12, false, [])),
  .inl (1, [some (.inl (0)), some (.inl (0)), some (.inl (0)), some (.inr 8)]),
  .inr (.inl (12, false, [])),
  .inl (1, [some (.inl (0)), some (.inl (0)), some (.inl (0)), some (.inr 10)]),
  .inr (.inl (12, false, [])),
  .inl (1, [some (.inl (0)), some (.inl (0)), some (.inl (0)), some (.inr 12)]),
  .inr (.inl (12, false, [])),
  .inl (1, [some (.inl (0)), some (.inl (0)), some (.inl (0)), some (.inr 14)]),
  .inr (.inl (12, false, [])),
  .inl (1, [some (.inl (0)), some (.inl (0)), some (.inl (0)), some (.inr 16)]),
  .inr (.inl (12, false, [])),
  .inl (5, [some (.inr 18), some (.inr 19), some (.inl (0)), some (.inl (60)), some (.inl (20)), some (.inl (1000)), some (.inl (0)), some (.inl (0)), some (.inl (0)), some (.inl (1))]),
  .inr (.inr (3, [some 20, some 22, some 24, some 26, some 28, some 30])),
  .inr (.inl (10, false, [])),
  .inl (1, [some (.inl (0)), some (.inl (0)), some (.inl (0)), some (.inr 21)]),
  .inr (.inl (12, false, [])),
  .inl (1, [some (.inl (0)), some (.inl (0)), some (.inl (0)), some (.inr 23)]),
  .inr (.inl (12, false, [])),
  .inl (1, [some (.inl (0)), some (.inl (0)), some (.inl (0)), some (.inr 25)]),
  .inr (.inl (12, false, [])),
  .inl (1, [some (.inl (0)), some (.inl (0)), some (.inl (0)), some (.inr 27)]),
  .inr (.inl (12, false, [])),
  .inl (1, [some (.inl (0)), some (.inl (0)), some (.inl (0)), some (.inr 29)]),
  .inr (.inl (12, false, [])),
  .inl (1, [some (.inl (0)), some (.inl (0)), some (.inl (0)), some (.inr 31)]),
  .inr (.inl (12, false, []))]
set_option maxRecDepth 100000 in
theorem X5_init_at17 {E : EE} {B : Nat} : CN E B yX5_init cX5_init 2 2 [.ref (B + 17)] wW16 wW29 14 112 := by
  refine CN.of (own := RX5) (by decide +kernel) rfl rfl (Nat.le_of_ble_eq_true rfl) fun v V hX hi => ?_
  refine j_aload_n V dX5_init_0 rfl rfl ?_
  refine j_objInit V dX5_init_1 ml_X5_3 (by decide +kernel) ?_
  refine j_aload_n V dX5_init_4 rfl rfl ?_
  refine j_bipush (z := 6) V dX5_init_5 (by decide +kernel) ?_
  refine k_anew (N := 6) 18 6 3 "DunkedBiscuits$Biscuit" (by decide +kernel) rfl V hX.2.2.2 rfl cw_X5_9 dX5_init_7 rfl (by decide +kernel) (by decide +kernel) (by decide +kernel) ?_
  refine j_put (k := 17) (fs := [none, none, some (.inl (0)), some (.inl (0)), some (.inl (0)), some (.inl (0)), some (.inl (0)), some (.inl (0)), some (.inl (0)), some (.inl (0))]) (κ := 0) (some (.inr 18)) V hi dX5_init_10 fl_X5_11 (by decide +kernel) rfl rfl (aq (by decide +kernel)) (by decide +kernel) ?_
  refine j_aload_n V dX5_init_13 rfl rfl ?_
  refine j_bipush (z := 10) V dX5_init_14 (by decide +kernel) ?_
  refine k_newI (N := 10) 19 16 (by decide +kernel) rfl V hX dX5_init_16 rfl (by decide +kernel) (by decide +kernel) (by decide +kernel) ?_
  refine j_put (k := 17) (fs := [some (.inr 18), none, some (.inl (0)), some (.inl (0)), some (.inl (0)), some (.inl (0)), some (.inl (0)), some (.inl (0)), some (.inl (0)), some (.inl (0))]) (κ := 0) (some (.inr 19)) V hi dX5_init_18 fl_X5_17 (by decide +kernel) rfl rfl (aq (by decide +kernel)) (by decide +kernel) ?_
  refine j_aload_n V dX5_init_21 rfl rfl ?_
  refine j_bipush (z := 60) V dX5_init_22 (by decide +kernel) ?_
  refine j_put (k := 17) (fs := [some (.inr 18), some (.inr 19), some (.inl (0)), some (.inl (0)), some (.inl (0)), some (.inl (0)), some (.inl (0)), some (.inl (0)), some (.inl (0)), some (.inl (0))]) (κ := 1) (some (.inl (60))) V hi dX5_init_24 fl_X5_21 (by decide +kernel) rfl rfl (aq (by decide +kernel)) (by decide +kernel) ?_
  refine j_aload_n V dX5_init_27 rfl rfl ?_
  refine j_bipush (z := 20) V dX5_init_28 (by decide +kernel) ?_
  refine j_put (k := 17) (fs := [some (.inr 18), some (.inr 19), some (.inl (0)), some (.inl (60)), some (.inl (0)), some (.inl (0)), some (.inl (0)), some (.inl (0)), some (.inl (0)), some (.inl (0))]) (κ := 1) (some (.inl (20))) V hi dX5_init_30 fl_X5_25 (by decide +kernel) rfl rfl (aq (by decide +kernel)) (by decide +kernel) ?_
  refine j_aload_n V dX5_init_33 rfl rfl ?_
  refine j_sipush (z := 1000) V dX5_init_34 (by decide +kernel) ?_
  refine j_put (k := 17) (fs := [some (.inr 18), some (.inr 19), some (.inl (0)), some (.inl (60)), some (.inl (20)), some (.inl (0)), some (.inl (0)), some (.inl (0)), some (.inl (0)), some (.inl (0))]) (κ := 1) (some (.inl (1000))) V hi dX5_init_37 fl_X5_28 (by decide +kernel) rfl rfl (aq (by decide +kernel)) (by decide +kernel) ?_
  refine j_aload_n V dX5_init_40 rfl rfl ?_
  refine j_iconst (z := 1) V dX5_init_41 (by decide +kernel) ?_
  refine j_put (k := 17) (fs := [some (.inr 18), some (.inr 19), some (.inl (0)), some (.inl (60)), some (.inl (20)), some (.inl (1000)), some (.inl (0)), some (.inl (0)), some (.inl (0)), some (.inl (0))]) (κ := 1) (some (.inl (1))) V hi dX5_init_42 fl_X5_31 (by decide +kernel) rfl rfl (aq (by decide +kernel)) (by decide +kernel) ?_
  refine j_iconst (z := 0) V dX5_init_45 (by decide +kernel) ?_
  refine j_istore_n V dX5_init_46 rfl (by decide) rfl ?_
  refine j_iload_n V dX5_init_47 rfl rfl ?_
  refine j_bipush (z := 6) V dX5_init_48 (by decide +kernel) ?_
  refine j_icmp_ge (tgt := 72) V dX5_init_50 rfl (fun h => absurd h (by decide)) (fun _ => ?_)
  refine j_aload_n V dX5_init_53 rfl rfl ?_
  refine j_getN (k := 17) (fs := [some (.inr 18), some (.inr 19), some (.inl (0)), some (.inl (60)), some (.inl (20)), some (.inl (1000)), some (.inl (0)), some (.inl (0)), some (.inl (0)), some (.inl (1))]) (rr := 18) V dX5_init_54 fl_X5_11 (aq (by decide +kernel)) rfl ?_
  refine j_iload_n V dX5_init_57 rfl rfl ?_
  refine k_new 20 20 (by decide +kernel) rfl V nw_X5_9 dX5_init_58 (by decide +kernel) (by decide +kernel) ?_
  refine j_dup V dX5_init_61 rfl ?_
  refine k_world wW17 (wq (by decide +kernel)) ?_
  refine j_initN (k := 20) (As := []) V hX dX5_init_62 mw_X1_init mn_X5_34 (X1_init_at20) rfl rfl (Nat.le_of_ble_eq_true rfl) (by decide +kernel) (by decide +kernel) ?_
  refine j_astN (k := 18) (t := 3) (q := 0) (r := 20) (ci := 1) (rs := [none, none, none, none, none, none]) (vs := [some (.inl (0)), some (.inl (0)), some (.inl (0)), some (.inr 21)]) (rc := (RX1, TX1, 4)) V dX5_init_65 (aq (by decide +kernel)) rfl (aq (by decide +kernel)) rfl rfl (by decide +kernel) (by decide +kernel) ?_
  refine j_iinc (z := 1) V dX5_init_66 rfl (by decide +kernel) rfl ?_
  refine j_goto (tgt := 47) V dX5_init_69 rfl ?_
  refine j_iload_n V dX5_init_47 rfl rfl ?_
  refine j_bipush (z := 6) V dX5_init_48 (by decide +kernel) ?_
  refine j_icmp_ge (tgt := 72) V dX5_init_50 rfl (fun h => absurd h (by decide)) (fun _ => ?_)
  refine j_aload_n V dX5_init_53 rfl rfl ?_
  refine j_getN (k := 17) (fs := [some (.inr 18), some (.inr 19), some (.inl (0)), some (.inl (60)), some (.inl (20)), some (.inl (1000)), some (.inl (0)), some (.inl (0)), some (.inl (0)), some (.inl (1))]) (rr := 18) V dX5_init_54 fl_X5_11 (aq (by decide +kernel)) rfl ?_
  refine j_iload_n V dX5_init_57 rfl rfl ?_
  refine k_new 22 36 (by decide +kernel) rfl V nw_X5_9 dX5_init_58 (by decide +kernel) (by decide +kernel) ?_
  refine j_dup V dX5_init_61 rfl ?_
  refine k_world wW19 (wq (by decide +kernel)) ?_
  refine j_initN (k := 22) (As := []) V hX dX5_init_62 mw_X1_init mn_X5_34 (X1_init_at22) rfl rfl (Nat.le_of_ble_eq_true rfl) (by decide +kernel) (by decide +kernel) ?_
  refine j_astN (k := 18) (t := 3) (q := 1) (r := 22) (ci := 1) (rs := [some 20, none, none, none, none, none]) (vs := [some (.inl (0)), some (.inl (0)), some (.inl (0)), some (.inr 23)]) (rc := (RX1, TX1, 4)) V dX5_init_65 (aq (by decide +kernel)) rfl (aq (by decide +kernel)) rfl rfl (by decide +kernel) (by decide +kernel) ?_
  refine j_iinc (z := 2) V dX5_init_66 rfl (by decide +kernel) rfl ?_
  refine j_goto (tgt := 47) V dX5_init_69 rfl ?_
  refine j_iload_n V dX5_init_47 rfl rfl ?_
  refine j_bipush (z := 6) V dX5_init_48 (by decide +kernel) ?_
  refine j_icmp_ge (tgt := 72) V dX5_init_50 rfl (fun h => absurd h (by decide)) (fun _ => ?_)
  refine j_aload_n V dX5_init_53 rfl rfl ?_
  refine j_getN (k := 17) (fs := [some (.inr 18), some (.inr 19), some (.inl (0)), some (.inl (60)), some (.inl (20)), some (.inl (1000)), some (.inl (0)), some (.inl (0)), some (.inl (0)), some (.inl (1))]) (rr := 18) V dX5_init_54 fl_X5_11 (aq (by decide +kernel)) rfl ?_
  refine j_iload_n V dX5_init_57 rfl rfl ?_
  refine k_new 24 52 (by decide +kernel) rfl V nw_X5_9 dX5_init_58 (by decide +kernel) (by decide +kernel) ?_
  refine j_dup V dX5_init_61 rfl ?_
  refine k_world wW21 (wq (by decide +kernel)) ?_
  refine j_initN (k := 24) (As := []) V hX dX5_init_62 mw_X1_init mn_X5_34 (X1_init_at24) rfl rfl (Nat.le_of_ble_eq_true rfl) (by decide +kernel) (by decide +kernel) ?_
  refine j_astN (k := 18) (t := 3) (q := 2) (r := 24) (ci := 1) (rs := [some 20, some 22, none, none, none, none]) (vs := [some (.inl (0)), some (.inl (0)), some (.inl (0)), some (.inr 25)]) (rc := (RX1, TX1, 4)) V dX5_init_65 (aq (by decide +kernel)) rfl (aq (by decide +kernel)) rfl rfl (by decide +kernel) (by decide +kernel) ?_
  refine j_iinc (z := 3) V dX5_init_66 rfl (by decide +kernel) rfl ?_
  refine j_goto (tgt := 47) V dX5_init_69 rfl ?_
  refine j_iload_n V dX5_init_47 rfl rfl ?_
  refine j_bipush (z := 6) V dX5_init_48 (by decide +kernel) ?_
  refine j_icmp_ge (tgt := 72) V dX5_init_50 rfl (fun h => absurd h (by decide)) (fun _ => ?_)
  refine j_aload_n V dX5_init_53 rfl rfl ?_
  refine j_getN (k := 17) (fs := [some (.inr 18), some (.inr 19), some (.inl (0)), some (.inl (60)), some (.inl (20)), some (.inl (1000)), some (.inl (0)), some (.inl (0)), some (.inl (0)), some (.inl (1))]) (rr := 18) V dX5_init_54 fl_X5_11 (aq (by decide +kernel)) rfl ?_
  refine j_iload_n V dX5_init_57 rfl rfl ?_
  refine k_new 26 68 (by decide +kernel) rfl V nw_X5_9 dX5_init_58 (by decide +kernel) (by decide +kernel) ?_
  refine j_dup V dX5_init_61 rfl ?_
  refine k_world wW23 (wq (by decide +kernel)) ?_
  refine j_initN (k := 26) (As := []) V hX dX5_init_62 mw_X1_init mn_X5_34 (X1_init_at26) rfl rfl (Nat.le_of_ble_eq_true rfl) (by decide +kernel) (by decide +kernel) ?_
  refine j_astN (k := 18) (t := 3) (q := 3) (r := 26) (ci := 1) (rs := [some 20, some 22, some 24, none, none, none]) (vs := [some (.inl (0)), some (.inl (0)), some (.inl (0)), some (.inr 27)]) (rc := (RX1, TX1, 4)) V dX5_init_65 (aq (by decide +kernel)) rfl (aq (by decide +kernel)) rfl rfl (by decide +kernel) (by decide +kernel) ?_
  refine j_iinc (z := 4) V dX5_init_66 rfl (by decide +kernel) rfl ?_
  refine j_goto (tgt := 47) V dX5_init_69 rfl ?_
  refine j_iload_n V dX5_init_47 rfl rfl ?_
  refine j_bipush (z := 6) V dX5_init_48 (by decide +kernel) ?_
  refine j_icmp_ge (tgt := 72) V dX5_init_50 rfl (fun h => absurd h (by decide)) (fun _ => ?_)
  refine j_aload_n V dX5_init_53 rfl rfl ?_
  refine j_getN (k := 17) (fs := [some (.inr 18), some (.inr 19), some (.inl (0)), some (.inl (60)), some (.inl (20)), some (.inl (1000)), some (.inl (0)), some (.inl (0)), some (.inl (0)), some (.inl (1))]) (rr := 18) V dX5_init_54 fl_X5_11 (aq (by decide +kernel)) rfl ?_
  refine j_iload_n V dX5_init_57 rfl rfl ?_
  refine k_new 28 84 (by decide +kernel) rfl V nw_X5_9 dX5_init_58 (by decide +kernel) (by decide +kernel) ?_
  refine j_dup V dX5_init_61 rfl ?_
  refine k_world wW25 (wq (by decide +kernel)) ?_
  refine j_initN (k := 28) (As := []) V hX dX5_init_62 mw_X1_init mn_X5_34 (X1_init_at28) rfl rfl (Nat.le_of_ble_eq_true rfl) (by decide +kernel) (by decide +kernel) ?_
  refine j_astN (k := 18) (t := 3) (q := 4) (r := 28) (ci := 1) (rs := [some 20, some 22, some 24, some 26, none, none]) (vs := [some (.inl (0)), some (.inl (0)), some (.inl (0)), some (.inr 29)]) (rc := (RX1, TX1, 4)) V dX5_init_65 (aq (by decide +kernel)) rfl (aq (by decide +kernel)) rfl rfl (by decide +kernel) (by decide +kernel) ?_
  refine j_iinc (z := 5) V dX5_init_66 rfl (by decide +kernel) rfl ?_
  refine j_goto (tgt := 47) V dX5_init_69 rfl ?_
  refine j_iload_n V dX5_init_47 rfl rfl ?_
  refine j_bipush (z := 6) V dX5_init_48 (by decide +kernel) ?_
  refine j_icmp_ge (tgt := 72) V dX5_init_50 rfl (fun h => absurd h (by decide)) (fun _ => ?_)
  refine j_aload_n V dX5_init_53 rfl rfl ?_
  refine j_getN (k := 17) (fs := [some (.inr 18), some (.inr 19), some (.inl (0)), some (.inl (60)), some (.inl (20)), some (.inl (1000)), some (.inl (0)), some (.inl (0)), some (.inl (0)), some (.inl (1))]) (rr := 18) V dX5_init_54 fl_X5_11 (aq (by decide +kernel)) rfl ?_
  refine j_iload_n V dX5_init_57 rfl rfl ?_
  refine k_new 30 100 (by decide +kernel) rfl V nw_X5_9 dX5_init_58 (by decide +kernel) (by decide +kernel) ?_
  refine j_dup V dX5_init_61 rfl ?_
  refine k_world wW27 (wq (by decide +kernel)) ?_
  refine j_initN (k := 30) (As := []) V hX dX5_init_62 mw_X1_init mn_X5_34 (X1_init_at30) rfl rfl (Nat.le_of_ble_eq_true rfl) (by decide +kernel) (by decide +kernel) ?_
  refine j_astN (k := 18) (t := 3) (q := 5) (r := 30) (ci := 1) (rs := [some 20, some 22, some 24, some 26, some 28, none]) (vs := [some (.inl (0)), some (.inl (0)), some (.inl (0)), some (.inr 31)]) (rc := (RX1, TX1, 4)) V dX5_init_65 (aq (by decide +kernel)) rfl (aq (by decide +kernel)) rfl rfl (by decide +kernel) (by decide +kernel) ?_
  refine j_iinc (z := 6) V dX5_init_66 rfl (by decide +kernel) rfl ?_
  refine j_goto (tgt := 47) V dX5_init_69 rfl ?_
  refine j_iload_n V dX5_init_47 rfl rfl ?_
  refine j_bipush (z := 6) V dX5_init_48 (by decide +kernel) ?_
  refine j_icmp_ge (tgt := 72) V dX5_init_50 rfl (fun _ => ?_) (fun h => absurd (by decide) h)
  refine k_world wW29 (wq (by decide +kernel)) ?_
  exact j_vret V dX5_init_72
def wW30 : List LN := [
  .inl (6, [some (.inr 1), some (.inr 2), some (.inr 17), none, none, none, none, none, none, none, none, none, none, some (.inl (0)), some (.inl (0))]),
  .inr (.inr (2, [none, none, none, none, none, none, none, none])),
  .inl (5, [some (.inr 3), some (.inr 4), some (.inl (0)), some (.inl (60)), some (.inl (20)), some (.inl (1000)), some (.inl (0)), some (.inl (0)), some (.inl (0)), some (.inl (1))]),
  .inr (.inr (3, [some 5, some 7, some 9, some 11, some 13, some 15])),
  .inr (.inl (10, false, [])),
  .inl (1, [some (.inl (0)), some (.inl (0)), some (.inl (0)), some (.inr 6)]),
  .inr (.inl (12, false, [])),
  .inl (1, [some (.inl (0)), some (.inl (0)), some (.inl (0)), some (.inr 8)]),
  .inr (.inl (12, false, [])),
  .inl (1, [some (.inl (0)), some (.inl (0)), some (.inl (0)), some (.inr 10)]),
  .inr (.inl (12, false, [])),
  .inl (1, [some (.inl (0)), some (.inl (0)), some (.inl (0)), some (.inr 12)]),
  .inr (.inl (12, false, [])),
  .inl (1, [some (.inl (0)), some (.inl (0)), some (.inl (0)), some (.inr 14)]),
  .inr (.inl (12, false, [])),
  .inl (1, [some (.inl (0)), some (.inl (0)), some (.inl (0)), some (.inr 16)]),
  .inr (.inl (12, false, [])),
  .inl (5, [some (.inr 18), some (.inr 19), some (.inl (0)), some (.inl (60)), some (.inl (20)), some (.inl (1000)), some (.inl (0)), some (.inl (0)), some (.inl (0)), some (.inl (1))]),
  .inr (.inr (3, [some 20, some 22, some 24, some 26, some 28, some 30])),
  .inr (.inl (10, false, [])),
  .inl (1, [some (.inl (0)), some (.inl (0)), some (.inl (0)), some (.inr 21)]),
  .inr (.inl (12, false, [])),
  .inl (1, [some (.inl (0)), some (.inl (0)), some (.inl (0)), some (.inr 23)]),
  .inr (.inl (12, false, [])),
  .inl (1, [some (.inl (0)), some (.inl (0)), some (.inl (0)), some (.inr 25)]),
  .inr (.inl (12, false, [])),
  .inl (1, [some (.inl (0)), some (.inl (0)), some (.inl (0)), some (.inr 27)]),
  .inr (.inl (12, false, [])),
  .inl (1, [some (.inl (0)), some (.inl (0)), some (.inl (0)), some (.inr 29)]),
  .inr (.inl (12, false, [])),
  .inl (1, [some (.inl (0)), some (.inl (0)), some (.inl (0)), some (.inr 31)]),
  .inr (.inl (12, false, [])),
  .inl (5, [none, none, some (.inl (0)), some (.inl (0)), some (.inl (0)), some (.inl (0)), some (.inl (0)), some (.inl (0)), some (.inl (0)), some (.inl (0))])]
def wW31 : List LN := [
  .inl (6, [some (.inr 1), some (.inr 2), some (.inr 17), none, none, none, none, none, none, none, none, none, none, some (.inl (0)), some (.inl (0))]),
  .inr (.inr (2, [none, none, none, none, none, none, none, none])),
  .inl (5, [some (.inr 3), some (.inr 4), some (.inl (0)), some (.inl (60)), some (.inl (20)), some (.inl (1000)), some (.inl (0)), some (.inl (0)), some (.inl (0)), some (.inl (1))]),
  .inr (.inr (3, [some 5, some 7, some 9, some 11, some 13, some 15])),
  .inr (.inl (10, false, [])),
  .inl (1, [some (.inl (0)), some (.inl (0)), some (.inl (0)), some (.inr 6)]),
  .inr (.inl (12, false, [])),
  .inl (1, [some (.inl (0)), some (.inl (0)), some (.inl (0)), some (.inr 8)]),
  .inr (.inl (12, false, [])),
  .inl (1, [some (.inl (0)), some (.inl (0)), some (.inl (0)), some (.inr 10)]),
  .inr (.inl (12, false, [])),
  .inl (1, [some (.inl (0)), some (.inl (0)), some (.inl (0)), some (.inr 12)]),
  .inr (.inl (12, false, [])),
  .inl (1, [some (.inl (0)), some (.inl (0)), some (.inl (0)), some (.inr 14)]),
  .inr (.inl (12, false, [])),
  .inl (1, [some (.inl (0)), some (.inl (0)), some (.inl (0)), some (.inr 16)]),
  .inr (.inl (12, false, [])),
  .inl (5, [some (.inr 18), some (.inr 19), some (.inl (0)), some (.inl (60)), some (.inl (20)), some (.inl (1000)), some (.inl (0)), some (.inl (0)), some (.inl (0)), some (.inl (1))]),
  .inr (.inr (3, [some 20, some 22, some 24, some 26, some 28, some 30])),
  .inr (.inl (10, false, [])),
  .inl (1, [some (.inl (0)), some (.inl (0)), some (.inl (0)), some (.inr 21)]),
  .inr (.inl (12, false, [])),
  .inl (1, [some (.inl (0)), some (.inl (0)), some (.inl (0)), some (.inr 23)]),
  .inr (.inl (12, false, [])),
  .inl (1, [some (.inl (0)), some (.inl (0)), some (.inl (0)), some (.inr 25)]),
  .inr (.inl (12, false, [])),
  .inl (1, [some (.inl (0)), some (.inl (0)), some (.inl (0)), some (.inr 27)]),
  .inr (.inl (12, false, [])),
  .inl (1, [some (.inl (0)), some (.inl (0)), some (.inl (0)), some (.inr 29)]),
  .inr (.inl (12, false, [])),
  .inl (1, [some (.inl (0)), some (.inl (0)), some (.inl (0)), some (.inr 31)]),
  .inr (.inl (12, false, [])),
  .inl (5, [some (.inr 33), some (.inr 34), some (.inl (0)), some (.inl (60)), some (.inl (20)), some (.inl (1000)), some (.inl (0)), some (.inl (0)), some (.inl (0)), some (.inl (1))]),
  .inr (.inr (3, [none, none, none, none, none, none])),
  .inr (.inl (10, false, [])),
  .inl (1, [some (.inl (0)), some (.inl (0)), some (.inl (0)), none])]
def wW32 : List LN := [
  .inl (6, [some (.inr 1), some (.inr 2), some (.inr 17), none, none, none, none, none, none, none, none, none, none, some (.inl (0)), some (.inl (0))]),
  .inr (.inr (2, [none, none, none, none, none, none, none, none])),
  .inl (5, [some (.inr 3), some (.inr 4), some (.inl (0)), some (.inl (60)), some (.inl (20)), some (.inl (1000)), some (.inl (0)), some (.inl (0)), some (.inl (0)), some (.inl (1))]),
  .inr (.inr (3, [some 5, some 7, some 9, some 11, some 13, some 15])),
  .inr (.inl (10, false, [])),
  .inl (1, [some (.inl (0)), some (.inl (0)), some (.inl (0)), some (.inr 6)]),
  .inr (.inl (12, false, [])),
  .inl (1, [some (.inl (0)), some (.inl (0)), some (.inl (0)), some (.inr 8)]),
  .inr (.inl (12, false, [])),
  .inl (1, [some (.inl (0)), some (.inl (0)), some (.inl (0)), some (.inr 10)]),
  .inr (.inl (12, false, [])),
  .inl (1, [some (.inl (0)), some (.inl (0)), some (.inl (0)), some (.inr 12)]),
  .inr (.inl (12, false, [])),
  .inl (1, [some (.inl (0)), some (.inl (0)), some (.inl (0)), some (.inr 14)]),
  .inr (.inl (12, false, [])),
  .inl (1, [some (.inl (0)), some (.inl (0)), some (.inl (0)), some (.inr 16)]),
  .inr (.inl (12, false, [])),
  .inl (5, [some (.inr 18), some (.inr 19), some (.inl (0)), some (.inl (60)), some (.inl (20)), some (.inl (1000)), some (.inl (0)), some (.inl (0)), some (.inl (0)), some (.inl (1))]),
  .inr (.inr (3, [some 20, some 22, some 24, some 26, some 28, some 30])),
  .inr (.inl (10, false, [])),
  .inl (1, [some (.inl (0)), some (.inl (0)), some (.inl (0)), some (.inr 21)]),
  .inr (.inl (12, false, [])),
  .inl (1, [some (.inl (0)), some (.inl (0)), some (.inl (0)), some (.inr 23)]),
  .inr (.inl (12, false, [])),
  .inl (1, [some (.inl (0)), some (.inl (0)), some (.inl (0)), some (.inr 25)]),
  .inr (.inl (12, false, [])),
  .inl (1, [some (.inl (0)), some (.inl (0)), some (.inl (0)), some (.inr 27)]),
  .inr (.inl (12, false, [])),
  .inl (1, [some (.inl (0)), some (.inl (0)), some (.inl (0)), some (.inr 29)]),
  .inr (.inl (12, false, [])),
  .inl (1, [some (.inl (0)), some (.inl (0)), some (.inl (0)), some (.inr 31)]),
  .inr (.inl (12, false, [])),
  .inl (5, [some (.inr 33), some (.inr 34), some (.inl (0)), some (.inl (60)), some (.inl (20)), some (.inl (1000)), some (.inl (0)), some (.inl (0)), some (.inl (0)), some (.inl (1))]),
  .inr (.inr (3, [none, none, none, none, none, none])),
  .inr (.inl (10, false, [])),
  .inl (1, [some (.inl (0)), some (.inl (0)), some (.inl (0)), some (.inr 36)]),
  .inr (.inl (12, false, []))]
set_option maxRecDepth 100000 in
theorem X1_init_at35 {E : EE} {B : Nat} : CN E B yX1_init cX1_init 1 1 [.ref (B + 35)] wW31 wW32 1 12 := by
  refine CN.of (own := RX1) (by decide +kernel) rfl rfl (Nat.le_of_ble_eq_true rfl) fun v V hX hi => ?_
  refine j_aload_n V dX1_init_0 rfl rfl ?_
  refine j_objInit V dX1_init_1 ml_X1_3 (by decide +kernel) ?_
  refine j_aload_n V dX1_init_4 rfl rfl ?_
  refine j_bipush (z := 12) V dX1_init_5 (by decide +kernel) ?_
  refine k_newI (N := 12) 36 12 (by decide +kernel) rfl V hX dX1_init_7 rfl (by decide +kernel) (by decide +kernel) (by decide +kernel) ?_
  refine j_put (k := 35) (fs := [some (.inl (0)), some (.inl (0)), some (.inl (0)), none]) (κ := 0) (some (.inr 36)) V hi dX1_init_9 fl_X1_9 (by decide +kernel) rfl rfl (aq (by decide +kernel)) (by decide +kernel) ?_
  refine k_world wW32 (wq (by decide +kernel)) ?_
  exact j_vret V dX1_init_12
def wW33 : List LN := [
  .inl (6, [some (.inr 1), some (.inr 2), some (.inr 17), none, none, none, none, none, none, none, none, none, none, some (.inl (0)), some (.inl (0))]),
  .inr (.inr (2, [none, none, none, none, none, none, none, none])),
  .inl (5, [some (.inr 3), some (.inr 4), some (.inl (0)), some (.inl (60)), some (.inl (20)), some (.inl (1000)), some (.inl (0)), some (.inl (0)), some (.inl (0)), some (.inl (1))]),
  .inr (.inr (3, [some 5, some 7, some 9, some 11, some 13, some 15])),
  .inr (.inl (10, false, [])),
  .inl (1, [some (.inl (0)), some (.inl (0)), some (.inl (0)), some (.inr 6)]),
  .inr (.inl (12, false, [])),
  .inl (1, [some (.inl (0)), some (.inl (0)), some (.inl (0)), some (.inr 8)]),
  .inr (.inl (12, false, [])),
  .inl (1, [some (.inl (0)), some (.inl (0)), some (.inl (0)), some (.inr 10)]),
  .inr (.inl (12, false, [])),
  .inl (1, [some (.inl (0)), some (.inl (0)), some (.inl (0)), some (.inr 12)]),
  .inr (.inl (12, false, [])),
  .inl (1, [some (.inl (0)), some (.inl (0)), some (.inl (0)), some (.inr 14)]),
  .inr (.inl (12, false, [])),
  .inl (1, [some (.inl (0)), some (.inl (0)), some (.inl (0)), some (.inr 16)]),
  .inr (.inl (12, false, [])),
  .inl (5, [some (.inr 18), some (.inr 19), some (.inl (0)), some (.inl (60)), some (.inl (20)), some (.inl (1000)), some (.inl (0)), some (.inl (0)), some (.inl (0)), some (.inl (1))]),
  .inr (.inr (3, [some 20, some 22, some 24, some 26, some 28, some 30])),
  .inr (.inl (10, false, [])),
  .inl (1, [some (.inl (0)), some (.inl (0)), some (.inl (0)), some (.inr 21)]),
  .inr (.inl (12, false, [])),
  .inl (1, [some (.inl (0)), some (.inl (0)), some (.inl (0)), some (.inr 23)]),
  .inr (.inl (12, false, [])),
  .inl (1, [some (.inl (0)), some (.inl (0)), some (.inl (0)), some (.inr 25)]),
  .inr (.inl (12, false, [])),
  .inl (1, [some (.inl (0)), some (.inl (0)), some (.inl (0)), some (.inr 27)]),
  .inr (.inl (12, false, [])),
  .inl (1, [some (.inl (0)), some (.inl (0)), some (.inl (0)), some (.inr 29)]),
  .inr (.inl (12, false, [])),
  .inl (1, [some (.inl (0)), some (.inl (0)), some (.inl (0)), some (.inr 31)]),
  .inr (.inl (12, false, [])),
  .inl (5, [some (.inr 33), some (.inr 34), some (.inl (0)), some (.inl (60)), some (.inl (20)), some (.inl (1000)), some (.inl (0)), some (.inl (0)), some (.inl (0)), some (.inl (1))]),
  .inr (.inr (3, [some 35, none, none, none, none, none])),
  .inr (.inl (10, false, [])),
  .inl (1, [some (.inl (0)), some (.inl (0)), some (.inl (0)), some (.inr 36)]),
  .inr (.inl (12, false, [])),
  .inl (1, [some (.inl (0)), some (.inl (0)), some (.inl (0)), none])]
def wW34 : List LN := [
  .inl (6, [some (.inr 1), some (.inr 2), some (.inr 17), none, none, none, none, none, none, none, none, none, none, some (.inl (0)), some (.inl (0))]),
  .inr (.inr (2, [none, none, none, none, none, none, none, none])),
  .inl (5, [some (.inr 3), some (.inr 4), some (.inl (0)), some (.inl (60)), some (.inl (20)), some (.inl (1000)), some (.inl (0)), some (.inl (0)), some (.inl (0)), some (.inl (1))]),
  .inr (.inr (3, [some 5, some 7, some 9, some 11, some 13, some 15])),
  .inr (.inl (10, false, [])),
  .inl (1, [some (.inl (0)), some (.inl (0)), some (.inl (0)), some (.inr 6)]),
  .inr (.inl (12, false, [])),
  .inl (1, [some (.inl (0)), some (.inl (0)), some (.inl (0)), some (.inr 8)]),
  .inr (.inl (12, false, [])),
  .inl (1, [some (.inl (0)), some (.inl (0)), some (.inl (0)), some (.inr 10)]),
  .inr (.inl (12, false, [])),
  .inl (1, [some (.inl (0)), some (.inl (0)), some (.inl (0)), some (.inr 12)]),
  .inr (.inl (12, false, [])),
  .inl (1, [some (.inl (0)), some (.inl (0)), some (.inl (0)), some (.inr 14)]),
  .inr (.inl (12, false, [])),
  .inl (1, [some (.inl (0)), some (.inl (0)), some (.inl (0)), some (.inr 16)]),
  .inr (.inl (12, false, [])),
  .inl (5, [some (.inr 18), some (.inr 19), some (.inl (0)), some (.inl (60)), some (.inl (20)), some (.inl (1000)), some (.inl (0)), some (.inl (0)), some (.inl (0)), some (.inl (1))]),
  .inr (.inr (3, [some 20, some 22, some 24, some 26, some 28, some 30])),
  .inr (.inl (10, false, [])),
  .inl (1, [some (.inl (0)), some (.inl (0)), some (.inl (0)), some (.inr 21)]),
  .inr (.inl (12, false, [])),
  .inl (1, [some (.inl (0)), some (.inl (0)), some (.inl (0)), some (.inr 23)]),
  .inr (.inl (12, false, [])),
  .inl (1, [some (.inl (0)), some (.inl (0)), some (.inl (0)), some (.inr 25)]),
  .inr (.inl (12, false, [])),
  .inl (1, [some (.inl (0)), some (.inl (0)), some (.inl (0)), some (.inr 27)]),
  .inr (.inl (12, false, [])),
  .inl (1, [some (.inl (0)), some (.inl (0)), some (.inl (0)), some (.inr 29)]),
  .inr (.inl (12, false, [])),
  .inl (1, [some (.inl (0)), some (.inl (0)), some (.inl (0)), some (.inr 31)]),
  .inr (.inl (12, false, [])),
  .inl (5, [some (.inr 33), some (.inr 34), some (.inl (0)), some (.inl (60)), some (.inl (20)), some (.inl (1000)), some (.inl (0)), some (.inl (0)), some (.inl (0)), some (.inl (1))]),
  .inr (.inr (3, [some 35, none, none, none, none, none])),
  .inr (.inl (10, false, [])),
  .inl (1, [some (.inl (0)), some (.inl (0)), some (.inl (0)), some (.inr 36)]),
  .inr (.inl (12, false, [])),
  .inl (1, [some (.inl (0)), some (.inl (0)), some (.inl (0)), some (.inr 38)]),
  .inr (.inl (12, false, []))]
set_option maxRecDepth 100000 in
theorem X1_init_at37 {E : EE} {B : Nat} : CN E B yX1_init cX1_init 1 1 [.ref (B + 37)] wW33 wW34 1 12 := by
  refine CN.of (own := RX1) (by decide +kernel) rfl rfl (Nat.le_of_ble_eq_true rfl) fun v V hX hi => ?_
  refine j_aload_n V dX1_init_0 rfl rfl ?_
  refine j_objInit V dX1_init_1 ml_X1_3 (by decide +kernel) ?_
  refine j_aload_n V dX1_init_4 rfl rfl ?_
  refine j_bipush (z := 12) V dX1_init_5 (by decide +kernel) ?_
  refine k_newI (N := 12) 38 12 (by decide +kernel) rfl V hX dX1_init_7 rfl (by decide +kernel) (by decide +kernel) (by decide +kernel) ?_
  refine j_put (k := 37) (fs := [some (.inl (0)), some (.inl (0)), some (.inl (0)), none]) (κ := 0) (some (.inr 38)) V hi dX1_init_9 fl_X1_9 (by decide +kernel) rfl rfl (aq (by decide +kernel)) (by decide +kernel) ?_
  refine k_world wW34 (wq (by decide +kernel)) ?_
  exact j_vret V dX1_init_12
def wW35 : List LN := [
  .inl (6, [some (.inr 1), some (.inr 2), some (.inr 17), none, none, none, none, none, none, none, none, none, none, some (.inl (0)), some (.inl (0))]),
  .inr (.inr (2, [none, none, none, none, none, none, none, none])),
  .inl (5, [some (.inr 3), some (.inr 4), some (.inl (0)), some (.inl (60)), some (.inl (20)), some (.inl (1000)), some (.inl (0)), some (.inl (0)), some (.inl (0)), some (.inl (1))]),
  .inr (.inr (3, [some 5, some 7, some 9, some 11, some 13, some 15])),
  .inr (.inl (10, false, [])),
  .inl (1, [some (.inl (0)), some (.inl (0)), some (.inl (0)), some (.inr 6)]),
  .inr (.inl (12, false, [])),
  .inl (1, [some (.inl (0)), some (.inl (0)), some (.inl (0)), some (.inr 8)]),
  .inr (.inl (12, false, [])),
  .inl (1, [some (.inl (0)), some (.inl (0)), some (.inl (0)), some (.inr 10)]),
  .inr (.inl (12, false, [])),
  .inl (1, [some (.inl (0)), some (.inl (0)), some (.inl (0)), some (.inr 12)]),
  .inr (.inl (12, false, [])),
  .inl (1, [some (.inl (0)), some (.inl (0)), some (.inl (0)), some (.inr 14)]),
  .inr (.inl (12, false, [])),
  .inl (1, [some (.inl (0)), some (.inl (0)), some (.inl (0)), some (.inr 16)]),
  .inr (.inl (12, false, [])),
  .inl (5, [some (.inr 18), some (.inr 19), some (.inl (0)), some (.inl (60)), some (.inl (20)), some (.inl (1000)), some (.inl (0)), some (.inl (0)), some (.inl (0)), some (.inl (1))]),
  .inr (.inr (3, [some 20, some 22, some 24, some 26, some 28, some 30])),
  .inr (.inl (10, false, [])),
  .inl (1, [some (.inl (0)), some (.inl (0)), some (.inl (0)), some (.inr 21)]),
  .inr (.inl (12, false, [])),
  .inl (1, [some (.inl (0)), some (.inl (0)), some (.inl (0)), some (.inr 23)]),
  .inr (.inl (12, false, [])),
  .inl (1, [some (.inl (0)), some (.inl (0)), some (.inl (0)), some (.inr 25)]),
  .inr (.inl (12, false, [])),
  .inl (1, [some (.inl (0)), some (.inl (0)), some (.inl (0)), some (.inr 27)]),
  .inr (.inl (12, false, [])),
  .inl (1, [some (.inl (0)), some (.inl (0)), some (.inl (0)), some (.inr 29)]),
  .inr (.inl (12, false, [])),
  .inl (1, [some (.inl (0)), some (.inl (0)), some (.inl (0)), some (.inr 31)]),
  .inr (.inl (12, false, [])),
  .inl (5, [some (.inr 33), some (.inr 34), some (.inl (0)), some (.inl (60)), some (.inl (20)), some (.inl (1000)), some (.inl (0)), some (.inl (0)), some (.inl (0)), some (.inl (1))]),
  .inr (.inr (3, [some 35, some 37, none, none, none, none])),
  .inr (.inl (10, false, [])),
  .inl (1, [some (.inl (0)), some (.inl (0)), some (.inl (0)), some (.inr 36)]),
  .inr (.inl (12, false, [])),
  .inl (1, [some (.inl (0)), some (.inl (0)), some (.inl (0)), some (.inr 38)]),
  .inr (.inl (12, false, [])),
  .inl (1, [some (.inl (0)), some (.inl (0)), some (.inl (0)), none])]
def wW36 : List LN := [
  .inl (6, [some (.inr 1), some (.inr 2), some (.inr 17), none, none, none, none, none, none, none, none, none, none, some (.inl (0)), some (.inl (0))]),
  .inr (.inr (2, [none, none, none, none, none, none, none, none])),
  .inl (5, [some (.inr 3), some (.inr 4), some (.inl (0)), some (.inl (60)), some (.inl (20)), some (.inl (1000)), some (.inl (0)), some (.inl (0)), some (.inl (0)), some (.inl (1))]),
  .inr (.inr (3, [some 5, some 7, some 9, some 11, some 13, some 15])),
  .inr (.inl (10, false, [])),
  .inl (1, [some (.inl (0)), some (.inl (0)), some (.inl (0)), some (.inr 6)]),
  .inr (.inl (12, false, [])),
  .inl (1, [some (.inl (0)), some (.inl (0)), some (.inl (0)), some (.inr 8)]),
  .inr (.inl (12, false, [])),
  .inl (1, [some (.inl (0)), some (.inl (0)), some (.inl (0)), some (.inr 10)]),
  .inr (.inl (12, false, [])),
  .inl (1, [some (.inl (0)), some (.inl (0)), some (.inl (0)), some (.inr 12)]),
  .inr (.inl (12, false, [])),
  .inl (1, [some (.inl (0)), some (.inl (0)), some (.inl (0)), some (.inr 14)]),
  .inr (.inl (12, false, [])),
  .inl (1, [some (.inl (0)), some (.inl (0)), some (.inl (0)), some (.inr 16)]),
  .inr (.inl (12, false, [])),
  .inl (5, [some (.inr 18), some (.inr 19), some (.inl (0)), some (.inl (60)), some (.inl (20)), some (.inl (1000)), some (.inl (0)), some (.inl (0)), some (.inl (0)), some (.inl (1))]),
  .inr (.inr (3, [some 20, some 22, some 24, some 26, some 28, some 30])),
  .inr (.inl (10, false, [])),
  .inl (1, [some (.inl (0)), some (.inl (0)), some (.inl (0)), some (.inr 21)]),
  .inr (.inl (12, false, [])),
  .inl (1, [some (.inl (0)), some (.inl (0)), some (.inl (0)), some (.inr 23)]),
  .inr (.inl (12, false, [])),
  .inl (1, [some (.inl (0)), some (.inl (0)), some (.inl (0)), some (.inr 25)]),
  .inr (.inl (12, false, [])),
  .inl (1, [some (.inl (0)), some (.inl (0)), some (.inl (0)), some (.inr 27)]),
  .inr (.inl (12, false, [])),
  .inl (1, [some (.inl (0)), some (.inl (0)), some (.inl (0)), some (.inr 29)]),
  .inr (.inl (12, false, [])),
  .inl (1, [some (.inl (0)), some (.inl (0)), some (.inl (0)), some (.inr 31)]),
  .inr (.inl (12, false, [])),
  .inl (5, [some (.inr 33), some (.inr 34), some (.inl (0)), some (.inl (60)), some (.inl (20)), some (.inl (1000)), some (.inl (0)), some (.inl (0)), some (.inl (0)), some (.inl (1))]),
  .inr (.inr (3, [some 35, some 37, none, none, none, none])),
  .inr (.inl (10, false, [])),
  .inl (1, [some (.inl (0)), some (.inl (0)), some (.inl (0)), some (.inr 36)]),
  .inr (.inl (12, false, [])),
  .inl (1, [some (.inl (0)), some (.inl (0)), some (.inl (0)), some (.inr 38)]),
  .inr (.inl (12, false, [])),
  .inl (1, [some (.inl (0)), some (.inl (0)), some (.inl (0)), some (.inr 40)]),
  .inr (.inl (12, false, []))]
set_option maxRecDepth 100000 in
theorem X1_init_at39 {E : EE} {B : Nat} : CN E B yX1_init cX1_init 1 1 [.ref (B + 39)] wW35 wW36 1 12 := by
  refine CN.of (own := RX1) (by decide +kernel) rfl rfl (Nat.le_of_ble_eq_true rfl) fun v V hX hi => ?_
  refine j_aload_n V dX1_init_0 rfl rfl ?_
  refine j_objInit V dX1_init_1 ml_X1_3 (by decide +kernel) ?_
  refine j_aload_n V dX1_init_4 rfl rfl ?_
  refine j_bipush (z := 12) V dX1_init_5 (by decide +kernel) ?_
  refine k_newI (N := 12) 40 12 (by decide +kernel) rfl V hX dX1_init_7 rfl (by decide +kernel) (by decide +kernel) (by decide +kernel) ?_
  refine j_put (k := 39) (fs := [some (.inl (0)), some (.inl (0)), some (.inl (0)), none]) (κ := 0) (some (.inr 40)) V hi dX1_init_9 fl_X1_9 (by decide +kernel) rfl rfl (aq (by decide +kernel)) (by decide +kernel) ?_
  refine k_world wW36 (wq (by decide +kernel)) ?_
  exact j_vret V dX1_init_12
def wW37 : List LN := [
  .inl (6, [some (.inr 1), some (.inr 2), some (.inr 17), none, none, none, none, none, none, none, none, none, none, some (.inl (0)), some (.inl (0))]),
  .inr (.inr (2, [none, none, none, none, none, none, none, none])),
  .inl (5, [some (.inr 3), some (.inr 4), some (.inl (0)), some (.inl (60)), some (.inl (20)), some (.inl (1000)), some (.inl (0)), some (.inl (0)), some (.inl (0)), some (.inl (1))]),
  .inr (.inr (3, [some 5, some 7, some 9, some 11, some 13, some 15])),
  .inr (.inl (10, false, [])),
  .inl (1, [some (.inl (0)), some (.inl (0)), some (.inl (0)), some (.inr 6)]),
  .inr (.inl (12, false, [])),
  .inl (1, [some (.inl (0)), some (.inl (0)), some (.inl (0)), some (.inr 8)]),
  .inr (.inl (12, false, [])),
  .inl (1, [some (.inl (0)), some (.inl (0)), some (.inl (0)), some (.inr 10)]),
  .inr (.inl (12, false, [])),
  .inl (1, [some (.inl (0)), some (.inl (0)), some (.inl (0)), some (.inr 12)]),
  .inr (.inl (12, false, [])),
  .inl (1, [some (.inl (0)), some (.inl (0)), some (.inl (0)), some (.inr 14)]),
  .inr (.inl (12, false, [])),
  .inl (1, [some (.inl (0)), some (.inl (0)), some (.inl (0)), some (.inr 16)]),
  .inr (.inl (12, false, [])),
  .inl (5, [some (.inr 18), some (.inr 19), some (.inl (0)), some (.inl (60)), some (.inl (20)), some (.inl (1000)), some (.inl (0)), some (.inl (0)), some (.inl (0)), some (.inl (1))]),
  .inr (.inr (3, [some 20, some 22, some 24, some 26, some 28, some 30])),
  .inr (.inl (10, false, [])),
  .inl (1, [some (.inl (0)), some (.inl (0)), some (.inl (0)), some (.inr 21)]),
  .inr (.inl (12, false, [])),
  .inl (1, [some (.inl (0)), some (.inl (0)), some (.inl (0)), some (.inr 23)]),
  .inr (.inl (12, false, [])),
  .inl (1, [some (.inl (0)), some (.inl (0)), some (.inl (0)), some (.inr 25)]),
  .inr (.inl (12, false, [])),
  .inl (1, [some (.inl (0)), some (.inl (0)), some (.inl (0)), some (.inr 27)]),
  .inr (.inl (12, false, [])),
  .inl (1, [some (.inl (0)), some (.inl (0)), some (.inl (0)), some (.inr 29)]),
  .inr (.inl (12, false, [])),
  .inl (1, [some (.inl (0)), some (.inl (0)), some (.inl (0)), some (.inr 31)]),
  .inr (.inl (12, false, [])),
  .inl (5, [some (.inr 33), some (.inr 34), some (.inl (0)), some (.inl (60)), some (.inl (20)), some (.inl (1000)), some (.inl (0)), some (.inl (0)), some (.inl (0)), some (.inl (1))]),
  .inr (.inr (3, [some 35, some 37, some 39, none, none, none])),
  .inr (.inl (10, false, [])),
  .inl (1, [some (.inl (0)), some (.inl (0)), some (.inl (0)), some (.inr 36)]),
  .inr (.inl (12, false, [])),
  .inl (1, [some (.inl (0)), some (.inl (0)), some (.inl (0)), some (.inr 38)]),
  .inr (.inl (12, false, [])),
  .inl (1, [some (.inl (0)), some (.inl (0)), some (.inl (0)), some (.inr 40)]),
  .inr (.inl (12, false, [])),
  .inl (1, [some (.inl (0)), some (.inl (0)), some (.inl (0)), none])]
def wW38 : List LN := [
  .inl (6, [some (.inr 1), some (.inr 2), some (.inr 17), none, none, none, none, none, none, none, none, none, none, some (.inl (0)), some (.inl (0))]),
  .inr (.inr (2, [none, none, none, none, none, none, none, none])),
  .inl (5, [some (.inr 3), some (.inr 4), some (.inl (0)), some (.inl (60)), some (.inl (20)), some (.inl (1000)), some (.inl (0)), some (.inl (0)), some (.inl (0)), some (.inl (1))]),
  .inr (.inr (3, [some 5, some 7, some 9, some 11, some 13, some 15])),
  .inr (.inl (10, false, [])),
  .inl (1, [some (.inl (0)), some (.inl (0)), some (.inl (0)), some (.inr 6)]),
  .inr (.inl (12, false, [])),
  .inl (1, [some (.inl (0)), some (.inl (0)), some (.inl (0)), some (.inr 8)]),
  .inr (.inl (12, false, [])),
  .inl (1, [some (.inl (0)), some (.inl (0)), some (.inl (0)), some (.inr 10)]),
  .inr (.inl (12, false, [])),
  .inl (1, [some (.inl (0)), some (.inl (0)), some (.inl (0)), some (.inr 12)]),
  .inr (.inl (12, false, [])),
  .inl (1, [some (.inl (0)), some (.inl (0)), some (.inl (0)), some (.inr 14)]),
  .inr (.inl (12, false, [])),
  .inl (1, [some (.inl (0)), some (.inl (0)), some (.inl (0)), some (.inr 16)]),
  .inr (.inl (12, false, [])),
  .inl (5, [some (.inr 18), some (.inr 19), some (.inl (0)), some (.inl (60)), some (.inl (20)), some (.inl (1000)), some (.inl (0)), some (.inl (0)), some (.inl (0)), some (.inl (1))]),
  .inr (.inr (3, [some 20, some 22, some 24, some 26, some 28, some 30])),
  .inr (.inl (10, false, [])),
  .inl (1, [some (.inl (0)), some (.inl (0)), some (.inl (0)), some (.inr 21)]),
  .inr (.inl (12, false, [])),
  .inl (1, [some (.inl (0)), some (.inl (0)), some (.inl (0)), some (.inr 23)]),
  .inr (.inl (12, false, [])),
  .inl (1, [some (.inl (0)), some (.inl (0)), some (.inl (0)), some (.inr 25)]),
  .inr (.inl (12, false, [])),
  .inl (1, [some (.inl (0)), some (.inl (0)), some (.inl (0)), some (.inr 27)]),
  .inr (.inl (12, false, [])),
  .inl (1, [some (.inl (0)), some (.inl (0)), some (.inl (0)), some (.inr 29)]),
  .inr (.inl (12, false, [])),
  .inl (1, [some (.inl (0)), some (.inl (0)), some (.inl (0)), some (.inr 31)]),
  .inr (.inl (12, false, [])),
  .inl (5, [some (.inr 33), some (.inr 34), some (.inl (0)), some (.inl (60)), some (.inl (20)), some (.inl (1000)), some (.inl (0)), some (.inl (0)), some (.inl (0)), some (.inl (1))]),
  .inr (.inr (3, [some 35, some 37, some 39, none, none, none])),
  .inr (.inl (10, false, [])),
  .inl (1, [some (.inl (0)), some (.inl (0)), some (.inl (0)), some (.inr 36)]),
  .inr (.inl (12, false, [])),
  .inl (1, [some (.inl (0)), some (.inl (0)), some (.inl (0)), some (.inr 38)]),
  .inr (.inl (12, false, [])),
  .inl (1, [some (.inl (0)), some (.inl (0)), some (.inl (0)), some (.inr 40)]),
  .inr (.inl (12, false, [])),
  .inl (1, [some (.inl (0)), some (.inl (0)), some (.inl (0)), some (.inr 42)]),
  .inr (.inl (12, false, []))]
set_option maxRecDepth 100000 in
theorem X1_init_at41 {E : EE} {B : Nat} : CN E B yX1_init cX1_init 1 1 [.ref (B + 41)] wW37 wW38 1 12 := by
  refine CN.of (own := RX1) (by decide +kernel) rfl rfl (Nat.le_of_ble_eq_true rfl) fun v V hX hi => ?_
  refine j_aload_n V dX1_init_0 rfl rfl ?_
  refine j_objInit V dX1_init_1 ml_X1_3 (by decide +kernel) ?_
  refine j_aload_n V dX1_init_4 rfl rfl ?_
  refine j_bipush (z := 12) V dX1_init_5 (by decide +kernel) ?_
  refine k_newI (N := 12) 42 12 (by decide +kernel) rfl V hX dX1_init_7 rfl (by decide +kernel) (by decide +kernel) (by decide +kernel) ?_
  refine j_put (k := 41) (fs := [some (.inl (0)), some (.inl (0)), some (.inl (0)), none]) (κ := 0) (some (.inr 42)) V hi dX1_init_9 fl_X1_9 (by decide +kernel) rfl rfl (aq (by decide +kernel)) (by decide +kernel) ?_
  refine k_world wW38 (wq (by decide +kernel)) ?_
  exact j_vret V dX1_init_12
def wW39 : List LN := [
  .inl (6, [some (.inr 1), some (.inr 2), some (.inr 17), none, none, none, none, none, none, none, none, none, none, some (.inl (0)), some (.inl (0))]),
  .inr (.inr (2, [none, none, none, none, none, none, none, none])),
  .inl (5, [some (.inr 3), some (.inr 4), some (.inl (0)), some (.inl (60)), some (.inl (20)), some (.inl (1000)), some (.inl (0)), some (.inl (0)), some (.inl (0)), some (.inl (1))]),
  .inr (.inr (3, [some 5, some 7, some 9, some 11, some 13, some 15])),
  .inr (.inl (10, false, [])),
  .inl (1, [some (.inl (0)), some (.inl (0)), some (.inl (0)), some (.inr 6)]),
  .inr (.inl (12, false, [])),
  .inl (1, [some (.inl (0)), some (.inl (0)), some (.inl (0)), some (.inr 8)]),
  .inr (.inl (12, false, [])),
  .inl (1, [some (.inl (0)), some (.inl (0)), some (.inl (0)), some (.inr 10)]),
  .inr (.inl (12, false, [])),
  .inl (1, [some (.inl (0)), some (.inl (0)), some (.inl (0)), some (.inr 12)]),
  .inr (.inl (12, false, [])),
  .inl (1, [some (.inl (0)), some (.inl (0)), some (.inl (0)), some (.inr 14)]),
  .inr (.inl (12, false, [])),
  .inl (1, [some (.inl (0)), some (.inl (0)), some (.inl (0)), some (.inr 16)]),
  .inr (.inl (12, false, [])),
  .inl (5, [some (.inr 18), some (.inr 19), some (.inl (0)), some (.inl (60)), some (.inl (20)), some (.inl (1000)), some (.inl (0)), some (.inl (0)), some (.inl (0)), some (.inl (1))]),
  .inr (.inr (3, [some 20, some 22, some 24, some 26, some 28, some 30])),
  .inr (.inl (10, false, [])),
  .inl (1, [some (.inl (0)), some (.inl (0)), some (.inl (0)), some (.inr 21)]),
  .inr (.inl (12, false, [])),
  .inl (1, [some (.inl (0)), some (.inl (0)), some (.inl (0)), some (.inr 23)]),
  .inr (.inl (12, false, [])),
  .inl (1, [some (.inl (0)), some (.inl (0)), some (.inl (0)), some (.inr 25)]),
  .inr (.inl (12, false, [])),
  .inl (1, [some (.inl (0)), some (.inl (0)), some (.inl (0)), some (.inr 27)]),
  .inr (.inl (12, false, [])),
  .inl (1, [some (.inl (0)), some (.inl (0)), some (.inl (0)), some (.inr 29)]),
  .inr (.inl (12, false, [])),
  .inl (1, [some (.inl (0)), some (.inl (0)), some (.inl (0)), some (.inr 31)]),
  .inr (.inl (12, false, [])),
  .inl (5, [some (.inr 33), some (.inr 34), some (.inl (0)), some (.inl (60)), some (.inl (20)), some (.inl (1000)), some (.inl (0)), some (.inl (0)), some (.inl (0)), some (.inl (1))]),
  .inr (.inr (3, [some 35, some 37, some 39, some 41, none, none])),
  .inr (.inl (10, false, [])),
  .inl (1, [some (.inl (0)), some (.inl (0)), some (.inl (0)), some (.inr 36)]),
  .inr (.inl (12, false, [])),
  .inl (1, [some (.inl (0)), some (.inl (0)), some (.inl (0)), some (.inr 38)]),
  .inr (.inl (12, false, [])),
  .inl (1, [some (.inl (0)), some (.inl (0)), some (.inl (0)), some (.inr 40)]),
  .inr (.inl (12, false, [])),
  .inl (1, [some (.inl (0)), some (.inl (0)), some (.inl (0)), some (.inr 42)]),
  .inr (.inl (12, false, [])),
  .inl (1, [some (.inl (0)), some (.inl (0)), some (.inl (0)), none])]
def wW40 : List LN := [
  .inl (6, [some (.inr 1), some (.inr 2), some (.inr 17), none, none, none, none, none, none, none, none, none, none, some (.inl (0)), some (.inl (0))]),
  .inr (.inr (2, [none, none, none, none, none, none, none, none])),
  .inl (5, [some (.inr 3), some (.inr 4), some (.inl (0)), some (.inl (60)), some (.inl (20)), some (.inl (1000)), some (.inl (0)), some (.inl (0)), some (.inl (0)), some (.inl (1))]),
  .inr (.inr (3, [some 5, some 7, some 9, some 11, some 13, some 15])),
  .inr (.inl (10, false, [])),
  .inl (1, [some (.inl (0)), some (.inl (0)), some (.inl (0)), some (.inr 6)]),
  .inr (.inl (12, false, [])),
  .inl (1, [some (.inl (0)), some (.inl (0)), some (.inl (0)), some (.inr 8)]),
  .inr (.inl (12, false, [])),
  .inl (1, [some (.inl (0)), some (.inl (0)), some (.inl (0)), some (.inr 10)]),
  .inr (.inl (12, false, [])),
  .inl (1, [some (.inl (0)), some (.inl (0)), some (.inl (0)), some (.inr 12)]),
  .inr (.inl (12, false, [])),
  .inl (1, [some (.inl (0)), some (.inl (0)), some (.inl (0)), some (.inr 14)]),
  .inr (.inl (12, false, [])),
  .inl (1, [some (.inl (0)), some (.inl (0)), some (.inl (0)), some (.inr 16)]),
  .inr (.inl (12, false, [])),
  .inl (5, [some (.inr 18), some (.inr 19), some (.inl (0)), some (.inl (60)), some (.inl (20)), some (.inl (1000)), some (.inl (0)), some (.inl (0)), some (.inl (0)), some (.inl (1))]),
  .inr (.inr (3, [some 20, some 22, some 24, some 26, some 28, some 30])),
  .inr (.inl (10, false, [])),
  .inl (1, [some (.inl (0)), some (.inl (0)), some (.inl (0)), some (.inr 21)]),
  .inr (.inl (12, false, [])),
  .inl (1, [some (.inl (0)), some (.inl (0)), some (.inl (0)), some (.inr 23)]),
  .inr (.inl (12, false, [])),
  .inl (1, [some (.inl (0)), some (.inl (0)), some (.inl (0)), some (.inr 25)]),
  .inr (.inl (12, false, [])),
  .inl (1, [some (.inl (0)), some (.inl (0)), some (.inl (0)), some (.inr 27)]),
  .inr (.inl (12, false, [])),
  .inl (1, [some (.inl (0)), some (.inl (0)), some (.inl (0)), some (.inr 29)]),
  .inr (.inl (12, false, [])),
  .inl (1, [some (.inl (0)), some (.inl (0)), some (.inl (0)), some (.inr 31)]),
  .inr (.inl (12, false, [])),
  .inl (5, [some (.inr 33), some (.inr 34), some (.inl (0)), some (.inl (60)), some (.inl (20)), some (.inl (1000)), some (.inl (0)), some (.inl (0)), some (.inl (0)), some (.inl (1))]),
  .inr (.inr (3, [some 35, some 37, some 39, some 41, none, none])),
  .inr (.inl (10, false, [])),
  .inl (1, [some (.inl (0)), some (.inl (0)), some (.inl (0)), some (.inr 36)]),
  .inr (.inl (12, false, [])),
  .inl (1, [some (.inl (0)), some (.inl (0)), some (.inl (0)), some (.inr 38)]),
  .inr (.inl (12, false, [])),
  .inl (1, [some (.inl (0)), some (.inl (0)), some (.inl (0)), some (.inr 40)]),
  .inr (.inl (12, false, [])),
  .inl (1, [some (.inl (0)), some (.inl (0)), some (.inl (0)), some (.inr 42)]),
  .inr (.inl (12, false, [])),
  .inl (1, [some (.inl (0)), some (.inl (0)), some (.inl (0)), some (.inr 44)]),
  .inr (.inl (12, false, []))]
set_option maxRecDepth 100000 in
theorem X1_init_at43 {E : EE} {B : Nat} : CN E B yX1_init cX1_init 1 1 [.ref (B + 43)] wW39 wW40 1 12 := by
  refine CN.of (own := RX1) (by decide +kernel) rfl rfl (Nat.le_of_ble_eq_true rfl) fun v V hX hi => ?_
  refine j_aload_n V dX1_init_0 rfl rfl ?_
  refine j_objInit V dX1_init_1 ml_X1_3 (by decide +kernel) ?_
  refine j_aload_n V dX1_init_4 rfl rfl ?_
  refine j_bipush (z := 12) V dX1_init_5 (by decide +kernel) ?_
  refine k_newI (N := 12) 44 12 (by decide +kernel) rfl V hX dX1_init_7 rfl (by decide +kernel) (by decide +kernel) (by decide +kernel) ?_
  refine j_put (k := 43) (fs := [some (.inl (0)), some (.inl (0)), some (.inl (0)), none]) (κ := 0) (some (.inr 44)) V hi dX1_init_9 fl_X1_9 (by decide +kernel) rfl rfl (aq (by decide +kernel)) (by decide +kernel) ?_
  refine k_world wW40 (wq (by decide +kernel)) ?_
  exact j_vret V dX1_init_12
def wW41 : List LN := [
  .inl (6, [some (.inr 1), some (.inr 2), some (.inr 17), none, none, none, none, none, none, none, none, none, none, some (.inl (0)), some (.inl (0))]),
  .inr (.inr (2, [none, none, none, none, none, none, none, none])),
  .inl (5, [some (.inr 3), some (.inr 4), some (.inl (0)), some (.inl (60)), some (.inl (20)), some (.inl (1000)), some (.inl (0)), some (.inl (0)), some (.inl (0)), some (.inl (1))]),
  .inr (.inr (3, [some 5, some 7, some 9, some 11, some 13, some 15])),
  .inr (.inl (10, false, [])),
  .inl (1, [some (.inl (0)), some (.inl (0)), some (.inl (0)), some (.inr 6)]),
  .inr (.inl (12, false, [])),
  .inl (1, [some (.inl (0)), some (.inl (0)), some (.inl (0)), some (.inr 8)]),
  .inr (.inl (12, false, [])),
  .inl (1, [some (.inl (0)), some (.inl (0)), some (.inl (0)), some (.inr 10)]),
  .inr (.inl (12, false, [])),
  .inl (1, [some (.inl (0)), some (.inl (0)), some (.inl (0)), some (.inr 12)]),
  .inr (.inl (12, false, [])),
  .inl (1, [some (.inl (0)), some (.inl (0)), some (.inl (0)), some (.inr 14)]),
  .inr (.inl (12, false, [])),
  .inl (1, [some (.inl (0)), some (.inl (0)), some (.inl (0)), some (.inr 16)]),
  .inr (.inl (12, false, [])),
  .inl (5, [some (.inr 18), some (.inr 19), some (.inl (0)), some (.inl (60)), some (.inl (20)), some (.inl (1000)), some (.inl (0)), some (.inl (0)), some (.inl (0)), some (.inl (1))]),
  .inr (.inr (3, [some 20, some 22, some 24, some 26, some 28, some 30])),
  .inr (.inl (10, false, [])),
  .inl (1, [some (.inl (0)), some (.inl (0)), some (.inl (0)), some (.inr 21)]),
  .inr (.inl (12, false, [])),
  .inl (1, [some (.inl (0)), some (.inl (0)), some (.inl (0)), some (.inr 23)]),
  .inr (.inl (12, false, [])),
  .inl (1, [some (.inl (0)), some (.inl (0)), some (.inl (0)), some (.inr 25)]),
  .inr (.inl (12, false, [])),
  .inl (1, [some (.inl (0)), some (.inl (0)), some (.inl (0)), some (.inr 27)]),
  .inr (.inl (12, false, [])),
  .inl (1, [some (.inl (0)), some (.inl (0)), some (.inl (0)), some (.inr 29)]),
  .inr (.inl (12, false, [])),
  .inl (1, [some (.inl (0)), some (.inl (0)), some (.inl (0)), some (.inr 31)]),
  .inr (.inl (12, false, [])),
  .inl (5, [some (.inr 33), some (.inr 34), some (.inl (0)), some (.inl (60)), some (.inl (20)), some (.inl (1000)), some (.inl (0)), some (.inl (0)), some (.inl (0)), some (.inl (1))]),
  .inr (.inr (3, [some 35, some 37, some 39, some 41, some 43, none])),
  .inr (.inl (10, false, [])),
  .inl (1, [some (.inl (0)), some (.inl (0)), some (.inl (0)), some (.inr 36)]),
  .inr (.inl (12, false, [])),
  .inl (1, [some (.inl (0)), some (.inl (0)), some (.inl (0)), some (.inr 38)]),
  .inr (.inl (12, false, [])),
  .inl (1, [some (.inl (0)), some (.inl (0)), some (.inl (0)), some (.inr 40)]),
  .inr (.inl (12, false, [])),
  .inl (1, [some (.inl (0)), some (.inl (0)), some (.inl (0)), some (.inr 42)]),
  .inr (.inl (12, false, [])),
  .inl (1, [some (.inl (0)), some (.inl (0)), some (.inl (0)), some (.inr 44)]),
  .inr (.inl (12, false, [])),
  .inl (1, [some (.inl (0)), some (.inl (0)), some (.inl (0)), none])]
def wW42 : List LN := [
  .inl (6, [some (.inr 1), some (.inr 2), some (.inr 17), none, none, none, none, none, none, none, none, none, none, some (.inl (0)), some (.inl (0))]),
  .inr (.inr (2, [none, none, none, none, none, none, none, none])),
  .inl (5, [some (.inr 3), some (.inr 4), some (.inl (0)), some (.inl (60)), some (.inl (20)), some (.inl (1000)), some (.inl (0)), some (.inl (0)), some (.inl (0)), some (.inl (1))]),
  .inr (.inr (3, [some 5, some 7, some 9, some 11, some 13, some 15])),
  .inr (.inl (10, false, [])),
  .inl (1, [some (.inl (0)), some (.inl (0)), some (.inl (0)), some (.inr 6)]),
  .inr (.inl (12, false, [])),
  .inl (1, [some (.inl (0)), some (.inl (0)), some (.inl (0)), some (.inr 8)]),
  .inr (.inl (12, false, [])),
  .inl (1, [some (.inl (0)), some (.inl (0)), some (.inl (0)), some (.inr 10)]),
  .inr (.inl (12, false, [])),
  .inl (1, [some (.inl (0)), some (.inl (0)), some (.inl (0)), some (.inr 12)]),
  .inr (.inl (12, false, [])),
  .inl (1, [some (.inl (0)), some (.inl (0)), some (.inl (0)), some (.inr 14)]),
  .inr (.inl (12, false, [])),
  .inl (1, [some (.inl (0)), some (.inl (0)), some (.inl (0)), some (.inr 16)]),
  .inr (.inl (12, false, [])),
  .inl (5, [some (.inr 18), some (.inr 19), some (.inl (0)), some (.inl (60)), some (.inl (20)), some (.inl (1000)), some (.inl (0)), some (.inl (0)), some (.inl (0)), some (.inl (1))]),
  .inr (.inr (3, [some 20, some 22, some 24, some 26, some 28, some 30])),
  .inr (.inl (10, false, [])),
  .inl (1, [some (.inl (0)), some (.inl (0)), some (.inl (0)), some (.inr 21)]),
  .inr (.inl (12, false, [])),
  .inl (1, [some (.inl (0)), some (.inl (0)), some (.inl (0)), some (.inr 23)]),
  .inr (.inl (12, false, [])),
  .inl (1, [some (.inl (0)), some (.inl (0)), some (.inl (0)), some (.inr 25)]),
  .inr (.inl (12, false, [])),
  .inl (1, [some (.inl (0)), some (.inl (0)), some (.inl (0)), some (.inr 27)]),
  .inr (.inl (12, false, [])),
  .inl (1, [some (.inl (0)), some (.inl (0)), some (.inl (0)), some (.inr 29)]),
  .inr (.inl (12, false, [])),
  .inl (1, [some (.inl (0)), some (.inl (0)), some (.inl (0)), some (.inr 31)]),
  .inr (.inl (12, false, [])),
  .inl (5, [some (.inr 33), some (.inr 34), some (.inl (0)), some (.inl (60)), some (.inl (20)), some (.inl (1000)), some (.inl (0)), some (.inl (0)), some (.inl (0)), some (.inl (1))]),
  .inr (.inr (3, [some 35, some 37, some 39, some 41, some 43, none])),
  .inr (.inl (10, false, [])),
  .inl (1, [some (.inl (0)), some (.inl (0)), some (.inl (0)), some (.inr 36)]),
  .inr (.inl (12, false, [])),
  .inl (1, [some (.inl (0)), some (.inl (0)), some (.inl (0)), some (.inr 38)]),
  .inr (.inl (12, false, [])),
  .inl (1, [some (.inl (0)), some (.inl (0)), some (.inl (0)), some (.inr 40)]),
  .inr (.inl (12, false, [])),
  .inl (1, [some (.inl (0)), some (.inl (0)), some (.inl (0)), some (.inr 42)]),
  .inr (.inl (12, false, [])),
  .inl (1, [some (.inl (0)), some (.inl (0)), some (.inl (0)), some (.inr 44)]),
  .inr (.inl (12, false, [])),
  .inl (1, [some (.inl (0)), some (.inl (0)), some (.inl (0)), some (.inr 46)]),
  .inr (.inl (12, false, []))]
set_option maxRecDepth 100000 in
theorem X1_init_at45 {E : EE} {B : Nat} : CN E B yX1_init cX1_init 1 1 [.ref (B + 45)] wW41 wW42 1 12 := by
  refine CN.of (own := RX1) (by decide +kernel) rfl rfl (Nat.le_of_ble_eq_true rfl) fun v V hX hi => ?_
  refine j_aload_n V dX1_init_0 rfl rfl ?_
  refine j_objInit V dX1_init_1 ml_X1_3 (by decide +kernel) ?_
  refine j_aload_n V dX1_init_4 rfl rfl ?_
  refine j_bipush (z := 12) V dX1_init_5 (by decide +kernel) ?_
  refine k_newI (N := 12) 46 12 (by decide +kernel) rfl V hX dX1_init_7 rfl (by decide +kernel) (by decide +kernel) (by decide +kernel) ?_
  refine j_put (k := 45) (fs := [some (.inl (0)), some (.inl (0)), some (.inl (0)), none]) (κ := 0) (some (.inr 46)) V hi dX1_init_9 fl_X1_9 (by decide +kernel) rfl rfl (aq (by decide +kernel)) (by decide +kernel) ?_
  refine k_world wW42 (wq (by decide +kernel)) ?_
  exact j_vret V dX1_init_12
def wW43 : List LN := [
  .inl (6, [some (.inr 1), some (.inr 2), some (.inr 17), none, none, none, none, none, none, none, none, none, none, some (.inl (0)), some (.inl (0))]),
  .inr (.inr (2, [none, none, none, none, none, none, none, none])),
  .inl (5, [some (.inr 3), some (.inr 4), some (.inl (0)), some (.inl (60)), some (.inl (20)), some (.inl (1000)), some (.inl (0)), some (.inl (0)), some (.inl (0)), some (.inl (1))]),
  .inr (.inr (3, [some 5, some 7, some 9, some 11, some 13, some 15])),
  .inr (.inl (10, false, [])),
  .inl (1, [some (.inl (0)), some (.inl (0)), some (.inl (0)), some (.inr 6)]),
  .inr (.inl (12, false, [])),
  .inl (1, [some (.inl (0)), some (.inl (0)), some (.inl (0)), some (.inr 8)]),
  .inr (.inl (12, false, [])),
  .inl (1, [some (.inl (0)), some (.inl (0)), some (.inl (0)), some (.inr 10)]),
  .inr (.inl (12, false, [])),
  .inl (1, [some (.inl (0)), some (.inl (0)), some (.inl (0)), some (.inr 12)]),
  .inr (.inl (12, false, [])),
  .inl (1, [some (.inl (0)), some (.inl (0)), some (.inl (0)), some (.inr 14)]),
  .inr (.inl (12, false, [])),
  .inl (1, [some (.inl (0)), some (.inl (0)), some (.inl (0)), some (.inr 16)]),
  .inr (.inl (12, false, [])),
  .inl (5, [some (.inr 18), some (.inr 19), some (.inl (0)), some (.inl (60)), some (.inl (20)), some (.inl (1000)), some (.inl (0)), some (.inl (0)), some (.inl (0)), some (.inl (1))]),
  .inr (.inr (3, [some 20, some 22, some 24, some 26, some 28, some 30])),
  .inr (.inl (10, false, [])),
  .inl (1, [some (.inl (0)), some (.inl (0)), some (.inl (0)), some (.inr 21)]),
  .inr (.inl (12, false, [])),
  .inl (1, [some (.inl (0)), some (.inl (0)), some (.inl (0)), some (.inr 23)]),
  .inr (.inl (12, false, [])),
  .inl (1, [some (.inl (0)), some (.inl (0)), some (.inl (0)), some (.inr 25)]),
  .inr (.inl (12, false, [])),
  .inl (1, [some (.inl (0)), some (.inl (0)), some (.inl (0)), some (.inr 27)]),
  .inr (.inl (12, false, [])),
  .inl (1, [some (.inl (0)), some (.inl (0)), some (.inl (0)), some (.inr 29)]),
  .inr (.inl (12, false, [])),
  .inl (1, [some (.inl (0)), some (.inl (0)), some (.inl (0)), some (.inr 31)]),
  .inr (.inl (12, false, [])),
  .inl (5, [some (.inr 33), some (.inr 34), some (.inl (0)), some (.inl (60)), some (.inl (20)), some (.inl (1000)), some (.inl (0)), some (.inl (0)), some (.inl (0)), some (.inl (1))]),
  .inr (.inr (3, [some 35, some 37, some 39, some 41, some 43, some 45])),
  .inr (.inl (10, false, [])),
  .inl (1, [some (.inl (0)), some (.inl (0)), some (.inl (0)), some (.inr 36)]),
  .inr (.inl (12, false, [])),
  .inl (1, [some (.inl (0)), some (.inl (0)), some (.inl (0)), some (.inr 38)]),
  .inr (.inl (12, false, [])),
  .inl (1, [some (.inl (0)), some (.inl (0)), some (.inl (0)), some (.inr 40)]),
  .inr (.inl (12, false, [])),
  .inl (1, [some (.inl (0)), some (.inl (0)), some (.inl (0)), some (.inr 42)]),
  .inr (.inl (12, false, [])),
  .inl (1, [some (.inl (0)), some (.inl (0)), some (.inl (0)), some (.inr 44)]),
  .inr (.inl (12, false, [])),
  .inl (1, [some (.inl (0)), some (.inl (0)), some (.inl (0)), some (.inr 46)]),
  .inr (.inl (12, false, []))]
set_option maxRecDepth 100000 in
theorem X5_init_at32 {E : EE} {B : Nat} : CN E B yX5_init cX5_init 2 2 [.ref (B + 32)] wW30 wW43 14 112 := by
  refine CN.of (own := RX5) (by decide +kernel) rfl rfl (Nat.le_of_ble_eq_true rfl) fun v V hX hi => ?_
  refine j_aload_n V dX5_init_0 rfl rfl ?_
  refine j_objInit V dX5_init_1 ml_X5_3 (by decide +kernel) ?_
  refine j_aload_n V dX5_init_4 rfl rfl ?_
  refine j_bipush (z := 6) V dX5_init_5 (by decide +kernel) ?_
  refine k_anew (N := 6) 33 6 3 "DunkedBiscuits$Biscuit" (by decide +kernel) rfl V hX.2.2.2 rfl cw_X5_9 dX5_init_7 rfl (by decide +kernel) (by decide +kernel) (by decide +kernel) ?_
  refine j_put (k := 32) (fs := [none, none, some (.inl (0)), some (.inl (0)), some (.inl (0)), some (.inl (0)), some (.inl (0)), some (.inl (0)), some (.inl (0)), some (.inl (0))]) (κ := 0) (some (.inr 33)) V hi dX5_init_10 fl_X5_11 (by decide +kernel) rfl rfl (aq (by decide +kernel)) (by decide +kernel) ?_
  refine j_aload_n V dX5_init_13 rfl rfl ?_
  refine j_bipush (z := 10) V dX5_init_14 (by decide +kernel) ?_
  refine k_newI (N := 10) 34 16 (by decide +kernel) rfl V hX dX5_init_16 rfl (by decide +kernel) (by decide +kernel) (by decide +kernel) ?_
  refine j_put (k := 32) (fs := [some (.inr 33), none, some (.inl (0)), some (.inl (0)), some (.inl (0)), some (.inl (0)), some (.inl (0)), some (.inl (0)), some (.inl (0)), some (.inl (0))]) (κ := 0) (some (.inr 34)) V hi dX5_init_18 fl_X5_17 (by decide +kernel) rfl rfl (aq (by decide +kernel)) (by decide +kernel) ?_
  refine j_aload_n V dX5_init_21 rfl rfl ?_
  refine j_bipush (z := 60) V dX5_init_22 (by decide +kernel) ?_
  refine j_put (k := 32) (fs := [some (.inr 33), some (.inr 34), some (.inl (0)), some (.inl (0)), some (.inl (0)), some (.inl (0)), some (.inl (0)), some (.inl (0)), some (.inl (0)), some (.inl (0))]) (κ := 1) (some (.inl (60))) V hi dX5_init_24 fl_X5_21 (by decide +kernel) rfl rfl (aq (by decide +kernel)) (by decide +kernel) ?_
  refine j_aload_n V dX5_init_27 rfl rfl ?_
  refine j_bipush (z := 20) V dX5_init_28 (by decide +kernel) ?_
  refine j_put (k := 32) (fs := [some (.inr 33), some (.inr 34), some (.inl (0)), some (.inl (60)), some (.inl (0)), some (.inl (0)), some (.inl (0)), some (.inl (0)), some (.inl (0)), some (.inl (0))]) (κ := 1) (some (.inl (20))) V hi dX5_init_30 fl_X5_25 (by decide +kernel) rfl rfl (aq (by decide +kernel)) (by decide +kernel) ?_
  refine j_aload_n V dX5_init_33 rfl rfl ?_
  refine j_sipush (z := 1000) V dX5_init_34 (by decide +kernel) ?_
  refine j_put (k := 32) (fs := [some (.inr 33), some (.inr 34), some (.inl (0)), some (.inl (60)), some (.inl (20)), some (.inl (0)), some (.inl (0)), some (.inl (0)), some (.inl (0)), some (.inl (0))]) (κ := 1) (some (.inl (1000))) V hi dX5_init_37 fl_X5_28 (by decide +kernel) rfl rfl (aq (by decide +kernel)) (by decide +kernel) ?_
  refine j_aload_n V dX5_init_40 rfl rfl ?_
  refine j_iconst (z := 1) V dX5_init_41 (by decide +kernel) ?_
  refine j_put (k := 32) (fs := [some (.inr 33), some (.inr 34), some (.inl (0)), some (.inl (60)), some (.inl (20)), some (.inl (1000)), some (.inl (0)), some (.inl (0)), some (.inl (0)), some (.inl (0))]) (κ := 1) (some (.inl (1))) V hi dX5_init_42 fl_X5_31 (by decide +kernel) rfl rfl (aq (by decide +kernel)) (by decide +kernel) ?_
  refine j_iconst (z := 0) V dX5_init_45 (by decide +kernel) ?_
  refine j_istore_n V dX5_init_46 rfl (by decide) rfl ?_
  refine j_iload_n V dX5_init_47 rfl rfl ?_
  refine j_bipush (z := 6) V dX5_init_48 (by decide +kernel) ?_
  refine j_icmp_ge (tgt := 72) V dX5_init_50 rfl (fun h => absurd h (by decide)) (fun _ => ?_)
  refine j_aload_n V dX5_init_53 rfl rfl ?_
  refine j_getN (k := 32) (fs := [some (.inr 33), some (.inr 34), some (.inl (0)), some (.inl (60)), some (.inl (20)), some (.inl (1000)), some (.inl (0)), some (.inl (0)), some (.inl (0)), some (.inl (1))]) (rr := 33) V dX5_init_54 fl_X5_11 (aq (by decide +kernel)) rfl ?_
  refine j_iload_n V dX5_init_57 rfl rfl ?_
  refine k_new 35 20 (by decide +kernel) rfl V nw_X5_9 dX5_init_58 (by decide +kernel) (by decide +kernel) ?_
  refine j_dup V dX5_init_61 rfl ?_
  refine k_world wW31 (wq (by decide +kernel)) ?_
  refine j_initN (k := 35) (As := []) V hX dX5_init_62 mw_X1_init mn_X5_34 (X1_init_at35) rfl rfl (Nat.le_of_ble_eq_true rfl) (by decide +kernel) (by decide +kernel) ?_
  refine j_astN (k := 33) (t := 3) (q := 0) (r := 35) (ci := 1) (rs := [none, none, none, none, none, none]) (vs := [some (.inl (0)), some (.inl (0)), some (.inl (0)), some (.inr 36)]) (rc := (RX1, TX1, 4)) V dX5_init_65 (aq (by decide +kernel)) rfl (aq (by decide +kernel)) rfl rfl (by decide +kernel) (by decide +kernel) ?_
  refine j_iinc (z := 1) V dX5_init_66 rfl (by decide +kernel) rfl ?_
  refine j_goto (tgt := 47) V dX5_init_69 rfl ?_
  refine j_iload_n V dX5_init_47 rfl rfl ?_
  refine j_bipush (z := 6) V dX5_init_48 (by decide +kernel) ?_
  refine j_icmp_ge (tgt := 72) V dX5_init_50 rfl (fun h => absurd h (by decide)) (fun _ => ?_)
  refine j_aload_n V dX5_init_53 rfl rfl ?_
  refine j_getN (k := 32) (fs := [some (.inr 33), some (.inr 34), some (.inl (0)), some (.inl (60)), some (.inl (20)), some (.inl (1000)), some (.inl (0)), some (.inl (0)), some (.inl (0)), some (.inl (1))]) (rr := 33) V dX5_init_54 fl_X5_11 (aq (by decide +kernel)) rfl ?_
  refine j_iload_n V dX5_init_57 rfl rfl ?_
  refine k_new 37 36 (by decide +kernel) rfl V nw_X5_9 dX5_init_58 (by decide +kernel) (by decide +kernel) ?_
  refine j_dup V dX5_init_61 rfl ?_
  refine k_world wW33 (wq (by decide +kernel)) ?_
  refine j_initN (k := 37) (As := []) V hX dX5_init_62 mw_X1_init mn_X5_34 (X1_init_at37) rfl rfl (Nat.le_of_ble_eq_true rfl) (by decide +kernel) (by decide +kernel) ?_
  refine j_astN (k := 33) (t := 3) (q := 1) (r := 37) (ci := 1) (rs := [some 35, none, none, none, none, none]) (vs := [some (.inl (0)), some (.inl (0)), some (.inl (0)), some (.inr 38)]) (rc := (RX1, TX1, 4)) V dX5_init_65 (aq (by decide +kernel)) rfl (aq (by decide +kernel)) rfl rfl (by decide +kernel) (by decide +kernel) ?_
  refine j_iinc (z := 2) V dX5_init_66 rfl (by decide +kernel) rfl ?_
  refine j_goto (tgt := 47) V dX5_init_69 rfl ?_
  refine j_iload_n V dX5_init_47 rfl rfl ?_
  refine j_bipush (z := 6) V dX5_init_48 (by decide +kernel) ?_
  refine j_icmp_ge (tgt := 72) V dX5_init_50 rfl (fun h => absurd h (by decide)) (fun _ => ?_)
  refine j_aload_n V dX5_init_53 rfl rfl ?_
  refine j_getN (k := 32) (fs := [some (.inr 33), some (.inr 34), some (.inl (0)), some (.inl (60)), some (.inl (20)), some (.inl (1000)), some (.inl (0)), some (.inl (0)), some (.inl (0)), some (.inl (1))]) (rr := 33) V dX5_init_54 fl_X5_11 (aq (by decide +kernel)) rfl ?_
  refine j_iload_n V dX5_init_57 rfl rfl ?_
  refine k_new 39 52 (by decide +kernel) rfl V nw_X5_9 dX5_init_58 (by decide +kernel) (by decide +kernel) ?_
  refine j_dup V dX5_init_61 rfl ?_
  refine k_world wW35 (wq (by decide +kernel)) ?_
  refine j_initN (k := 39) (As := []) V hX dX5_init_62 mw_X1_init mn_X5_34 (X1_init_at39) rfl rfl (Nat.le_of_ble_eq_true rfl) (by decide +kernel) (by decide +kernel) ?_
  refine j_astN (k := 33) (t := 3) (q := 2) (r := 39) (ci := 1) (rs := [some 35, some 37, none, none, none, none]) (vs := [some (.inl (0)), some (.inl (0)), some (.inl (0)), some (.inr 40)]) (rc := (RX1, TX1, 4)) V dX5_init_65 (aq (by decide +kernel)) rfl (aq (by decide +kernel)) rfl rfl (by decide +kernel) (by decide +kernel) ?_
  refine j_iinc (z := 3) V dX5_init_66 rfl (by decide +kernel) rfl ?_
  refine j_goto (tgt := 47) V dX5_init_69 rfl ?_
  refine j_iload_n V dX5_init_47 rfl rfl ?_
  refine j_bipush (z := 6) V dX5_init_48 (by decide +kernel) ?_
  refine j_icmp_ge (tgt := 72) V dX5_init_50 rfl (fun h => absurd h (by decide)) (fun _ => ?_)
  refine j_aload_n V dX5_init_53 rfl rfl ?_
  refine j_getN (k := 32) (fs := [some (.inr 33), some (.inr 34), some (.inl (0)), some (.inl (60)), some (.inl (20)), some (.inl (1000)), some (.inl (0)), some (.inl (0)), some (.inl (0)), some (.inl (1))]) (rr := 33) V dX5_init_54 fl_X5_11 (aq (by decide +kernel)) rfl ?_
  refine j_iload_n V dX5_init_57 rfl rfl ?_
  refine k_new 41 68 (by decide +kernel) rfl V nw_X5_9 dX5_init_58 (by decide +kernel) (by decide +kernel) ?_
  refine j_dup V dX5_init_61 rfl ?_
  refine k_world wW37 (wq (by decide +kernel)) ?_
  refine j_initN (k := 41) (As := []) V hX dX5_init_62 mw_X1_init mn_X5_34 (X1_init_at41) rfl rfl (Nat.le_of_ble_eq_true rfl) (by decide +kernel) (by decide +kernel) ?_
  refine j_astN (k := 33) (t := 3) (q := 3) (r := 41) (ci := 1) (rs := [some 35, some 37, some 39, none, none, none]) (vs := [some (.inl (0)), some (.inl (0)), some (.inl (0)), some (.inr 42)]) (rc := (RX1, TX1, 4)) V dX5_init_65 (aq (by decide +kernel)) rfl (aq (by decide +kernel)) rfl rfl (by decide +kernel) (by decide +kernel) ?_
  refine j_iinc (z := 4) V dX5_init_66 rfl (by decide +kernel) rfl ?_
  refine j_goto (tgt := 47) V dX5_init_69 rfl ?_
  refine j_iload_n V dX5_init_47 rfl rfl ?_
  refine j_bipush (z := 6) V dX5_init_48 (by decide +kernel) ?_
  refine j_icmp_ge (tgt := 72) V dX5_init_50 rfl (fun h => absurd h (by decide)) (fun _ => ?_)
  refine j_aload_n V dX5_init_53 rfl rfl ?_
  refine j_getN (k := 32) (fs := [some (.inr 33), some (.inr 34), some (.inl (0)), some (.inl (60)), some (.inl (20)), some (.inl (1000)), some (.inl (0)), some (.inl (0)), some (.inl (0)), some (.inl (1))]) (rr := 33) V dX5_init_54 fl_X5_11 (aq (by decide +kernel)) rfl ?_
  refine j_iload_n V dX5_init_57 rfl rfl ?_
  refine k_new 43 84 (by decide +kernel) rfl V nw_X5_9 dX5_init_58 (by decide +kernel) (by decide +kernel) ?_
  refine j_dup V dX5_init_61 rfl ?_
  refine k_world wW39 (wq (by decide +kernel)) ?_
  refine j_initN (k := 43) (As := []) V hX dX5_init_62 mw_X1_init mn_X5_34 (X1_init_at43) rfl rfl (Nat.le_of_ble_eq_true rfl) (by decide +kernel) (by decide +kernel) ?_
  refine j_astN (k := 33) (t := 3) (q := 4) (r := 43) (ci := 1) (rs := [some 35, some 37, some 39, some 41, none, none]) (vs := [some (.inl (0)), some (.inl (0)), some (.inl (0)), some (.inr 44)]) (rc := (RX1, TX1, 4)) V dX5_init_65 (aq (by decide +kernel)) rfl (aq (by decide +kernel)) rfl rfl (by decide +kernel) (by decide +kernel) ?_
  refine j_iinc (z := 5) V dX5_init_66 rfl (by decide +kernel) rfl ?_
  refine j_goto (tgt := 47) V dX5_init_69 rfl ?_
  refine j_iload_n V dX5_init_47 rfl rfl ?_
  refine j_bipush (z := 6) V dX5_init_48 (by decide +kernel) ?_
  refine j_icmp_ge (tgt := 72) V dX5_init_50 rfl (fun h => absurd h (by decide)) (fun _ => ?_)
  refine j_aload_n V dX5_init_53 rfl rfl ?_
  refine j_getN (k := 32) (fs := [some (.inr 33), some (.inr 34), some (.inl (0)), some (.inl (60)), some (.inl (20)), some (.inl (1000)), some (.inl (0)), some (.inl (0)), some (.inl (0)), some (.inl (1))]) (rr := 33) V dX5_init_54 fl_X5_11 (aq (by decide +kernel)) rfl ?_
  refine j_iload_n V dX5_init_57 rfl rfl ?_
  refine k_new 45 100 (by decide +kernel) rfl V nw_X5_9 dX5_init_58 (by decide +kernel) (by decide +kernel) ?_
  refine j_dup V dX5_init_61 rfl ?_
  refine k_world wW41 (wq (by decide +kernel)) ?_
  refine j_initN (k := 45) (As := []) V hX dX5_init_62 mw_X1_init mn_X5_34 (X1_init_at45) rfl rfl (Nat.le_of_ble_eq_true rfl) (by decide +kernel) (by decide +kernel) ?_
  refine j_astN (k := 33) (t := 3) (q := 5) (r := 45) (ci := 1) (rs := [some 35, some 37, some 39, some 41, some 43, none]) (vs := [some (.inl (0)), some (.inl (0)), some (.inl (0)), some (.inr 46)]) (rc := (RX1, TX1, 4)) V dX5_init_65 (aq (by decide +kernel)) rfl (aq (by decide +kernel)) rfl rfl (by decide +kernel) (by decide +kernel) ?_
  refine j_iinc (z := 6) V dX5_init_66 rfl (by decide +kernel) rfl ?_
  refine j_goto (tgt := 47) V dX5_init_69 rfl ?_
  refine j_iload_n V dX5_init_47 rfl rfl ?_
  refine j_bipush (z := 6) V dX5_init_48 (by decide +kernel) ?_
  refine j_icmp_ge (tgt := 72) V dX5_init_50 rfl (fun _ => ?_) (fun h => absurd (by decide) h)
  refine k_world wW43 (wq (by decide +kernel)) ?_
  exact j_vret V dX5_init_72
def wW44 : List LN := [
  .inl (6, [some (.inr 1), some (.inr 2), some (.inr 17), some (.inr 32), none, none, none, none, none, none, none, none, none, some (.inl (0)), some (.inl (0))]),
  .inr (.inr (2, [none, none, none, none, none, none, none, none])),
  .inl (5, [some (.inr 3), some (.inr 4), some (.inl (0)), some (.inl (60)), some (.inl (20)), some (.inl (1000)), some (.inl (0)), some (.inl (0)), some (.inl (0)), some (.inl (1))]),
  .inr (.inr (3, [some 5, some 7, some 9, some 11, some 13, some 15])),
  .inr (.inl (10, false, [])),
  .inl (1, [some (.inl (0)), some (.inl (0)), some (.inl (0)), some (.inr 6)]),
  .inr (.inl (12, false, [])),
  .inl (1, [some (.inl (0)), some (.inl (0)), some (.inl (0)), some (.inr 8)]),
  .inr (.inl (12, false, [])),
  .inl (1, [some (.inl (0)), some (.inl (0)), some (.inl (0)), some (.inr 10)]),
  .inr (.inl (12, false, [])),
  .inl (1, [some (.inl (0)), some (.inl (0)), some (.inl (0)), some (.inr 12)]),
  .inr (.inl (12, false, [])),
  .inl (1, [some (.inl (0)), some (.inl (0)), some (.inl (0)), some (.inr 14)]),
  .inr (.inl (12, false, [])),
  .inl (1, [some (.inl (0)), some (.inl (0)), some (.inl (0)), some (.inr 16)]),
  .inr (.inl (12, false, [])),
  .inl (5, [some (.inr 18), some (.inr 19), some (.inl (0)), some (.inl (60)), some (.inl (20)), some (.inl (1000)), some (.inl (0)), some (.inl (0)), some (.inl (0)), some (.inl (1))]),
  .inr (.inr (3, [some 20, some 22, some 24, some 26, some 28, some 30])),
  .inr (.inl (10, false, [])),
  .inl (1, [some (.inl (0)), some (.inl (0)), some (.inl (0)), some (.inr 21)]),
  .inr (.inl (12, false, [])),
  .inl (1, [some (.inl (0)), some (.inl (0)), some (.inl (0)), some (.inr 23)]),
  .inr (.inl (12, false, [])),
  .inl (1, [some (.inl (0)), some (.inl (0)), some (.inl (0)), some (.inr 25)]),
  .inr (.inl (12, false, [])),
  .inl (1, [some (.inl (0)), some (.inl (0)), some (.inl (0)), some (.inr 27)]),
  .inr (.inl (12, false, [])),
  .inl (1, [some (.inl (0)), some (.inl (0)), some (.inl (0)), some (.inr 29)]),
  .inr (.inl (12, false, [])),
  .inl (1, [some (.inl (0)), some (.inl (0)), some (.inl (0)), some (.inr 31)]),
  .inr (.inl (12, false, [])),
  .inl (5, [some (.inr 33), some (.inr 34), some (.inl (0)), some (.inl (60)), some (.inl (20)), some (.inl (1000)), some (.inl (0)), some (.inl (0)), some (.inl (0)), some (.inl (1))]),
  .inr (.inr (3, [some 35, some 37, some 39, some 41, some 43, some 45])),
  .inr (.inl (10, false, [])),
  .inl (1, [some (.inl (0)), some (.inl (0)), some (.inl (0)), some (.inr 36)]),
  .inr (.inl (12, false, [])),
  .inl (1, [some (.inl (0)), some (.inl (0)), some (.inl (0)), some (.inr 38)]),
  .inr (.inl (12, false, [])),
  .inl (1, [some (.inl (0)), some (.inl (0)), some (.inl (0)), some (.inr 40)]),
  .inr (.inl (12, false, [])),
  .inl (1, [some (.inl (0)), some (.inl (0)), some (.inl (0)), some (.inr 42)]),
  .inr (.inl (12, false, [])),
  .inl (1, [some (.inl (0)), some (.inl (0)), some (.inl (0)), some (.inr 44)]),
  .inr (.inl (12, false, [])),
  .inl (1, [some (.inl (0)), some (.inl (0)), some (.inl (0)), some (.inr 46)]),
  .inr (.inl (12, false, [])),
  .inl (2, [none, some (.inl (0)), some (.inl (0)), some (.inl (0)), some (.inl (0)), some (.inl (0)), some (.inl (0))])]
def wW45 : List LN := [
  .inl (6, [some (.inr 1), some (.inr 2), some (.inr 17), some (.inr 32), none, none, none, none, none, none, none, none, none, some (.inl (0)), some (.inl (0))]),
  .inr (.inr (2, [none, none, none, none, none, none, none, none])),
  .inl (5, [some (.inr 3), some (.inr 4), some (.inl (0)), some (.inl (60)), some (.inl (20)), some (.inl (1000)), some (.inl (0)), some (.inl (0)), some (.inl (0)), some (.inl (1))]),
  .inr (.inr (3, [some 5, some 7, some 9, some 11, some 13, some 15])),
  .inr (.inl (10, false, [])),
  .inl (1, [some (.inl (0)), some (.inl (0)), some (.inl (0)), some (.inr 6)]),
  .inr (.inl (12, false, [])),
  .inl (1, [some (.inl (0)), some (.inl (0)), some (.inl (0)), some (.inr 8)]),
  .inr (.inl (12, false, [])),
  .inl (1, [some (.inl (0)), some (.inl (0)), some (.inl (0)), some (.inr 10)]),
  .inr (.inl (12, false, [])),
  .inl (1, [some (.inl (0)), some (.inl (0)), some (.inl (0)), some (.inr 12)]),
  .inr (.inl (12, false, [])),
  .inl (1, [some (.inl (0)), some (.inl (0)), some (.inl (0)), some (.inr 14)]),
  .inr (.inl (12, false, [])),
  .inl (1, [some (.inl (0)), some (.inl (0)), some (.inl (0)), some (.inr 16)]),
  .inr (.inl (12, false, [])),
  .inl (5, [some (.inr 18), some (.inr 19), some (.inl (0)), some (.inl (60)), some (.inl (20)), some (.inl (1000)), some (.inl (0)), some (.inl (0)), some (.inl (0)), some (.inl (1))]),
  .inr (.inr (3, [some 20, some 22, some 24, some 26, some 28, some 30])),
  .inr (.inl (10, false, [])),
  .inl (1, [some (.inl (0)), some (.inl (0)), some (.inl (0)), some (.inr 21)]),
  .inr (.inl (12, false, [])),
  .inl (1, [some (.inl (0)), some (.inl (0)), some (.inl (0)), some (.inr 23)]),
  .inr (.inl (12, false, [])),
  .inl (1, [some (.inl (0)), some (.inl (0)), some (.inl (0)), some (.inr 25)]),
  .inr (.inl (12, false, [])),
  .inl (1, [some (.inl (0)), some (.inl (0)), some (.inl (0)), some (.inr 27)]),
  .inr (.inl (12, false, [])),
  .inl (1, [some (.inl (0)), some (.inl (0)), some (.inl (0)), some (.inr 29)]),
  .inr (.inl (12, false, [])),
  .inl (1, [some (.inl (0)), some (.inl (0)), some (.inl (0)), some (.inr 31)]),
  .inr (.inl (12, false, [])),
  .inl (5, [some (.inr 33), some (.inr 34), some (.inl (0)), some (.inl (60)), some (.inl (20)), some (.inl (1000)), some (.inl (0)), some (.inl (0)), some (.inl (0)), some (.inl (1))]),
  .inr (.inr (3, [some 35, some 37, some 39, some 41, some 43, some 45])),
  .inr (.inl (10, false, [])),
  .inl (1, [some (.inl (0)), some (.inl (0)), some (.inl (0)), some (.inr 36)]),
  .inr (.inl (12, false, [])),
  .inl (1, [some (.inl (0)), some (.inl (0)), some (.inl (0)), some (.inr 38)]),
  .inr (.inl (12, false, [])),
  .inl (1, [some (.inl (0)), some (.inl (0)), some (.inl (0)), some (.inr 40)]),
  .inr (.inl (12, false, [])),
  .inl (1, [some (.inl (0)), some (.inl (0)), some (.inl (0)), some (.inr 42)]),
  .inr (.inl (12, false, [])),
  .inl (1, [some (.inl (0)), some (.inl (0)), some (.inl (0)), some (.inr 44)]),
  .inr (.inl (12, false, [])),
  .inl (1, [some (.inl (0)), some (.inl (0)), some (.inl (0)), some (.inr 46)]),
  .inr (.inl (12, false, [])),
  .inl (2, [none, some (.inl (0)), some (.inl (0)), some (.inl (0)), some (.inl (0)), some (.inl (0)), some (.inl (0))]),
  .inl (1, [some (.inl (0)), some (.inl (0)), some (.inl (0)), none])]
def wW46 : List LN := [
  .inl (6, [some (.inr 1), some (.inr 2), some (.inr 17), some (.inr 32), none, none, none, none, none, none, none, none, none, some (.inl (0)), some (.inl (0))]),
  .inr (.inr (2, [none, none, none, none, none, none, none, none])),
  .inl (5, [some (.inr 3), some (.inr 4), some (.inl (0)), some (.inl (60)), some (.inl (20)), some (.inl (1000)), some (.inl (0)), some (.inl (0)), some (.inl (0)), some (.inl (1))]),
  .inr (.inr (3, [some 5, some 7, some 9, some 11, some 13, some 15])),
  .inr (.inl (10, false, [])),
  .inl (1, [some (.inl (0)), some (.inl (0)), some (.inl (0)), some (.inr 6)]),
  .inr (.inl (12, false, [])),
  .inl (1, [some (.inl (0)), some (.inl (0)), some (.inl (0)), some (.inr 8)]),
  .inr (.inl (12, false, [])),
  .inl (1, [some (.inl (0)), some (.inl (0)), some (.inl (0)), some (.inr 10)]),
  .inr (.inl (12, false, [])),
  .inl (1, [some (.inl (0)), some (.inl (0)), some (.inl (0)), some (.inr 12)]),
  .inr (.inl (12, false, [])),
  .inl (1, [some (.inl (0)), some (.inl (0)), some (.inl (0)), some (.inr 14)]),
  .inr (.inl (12, false, [])),
  .inl (1, [some (.inl (0)), some (.inl (0)), some (.inl (0)), some (.inr 16)]),
  .inr (.inl (12, false, [])),
  .inl (5, [some (.inr 18), some (.inr 19), some (.inl (0)), some (.inl (60)), some (.inl (20)), some (.inl (1000)), some (.inl (0)), some (.inl (0)), some (.inl (0)), some (.inl (1))]),
  .inr (.inr (3, [some 20, some 22, some 24, some 26, some 28, some 30])),
  .inr (.inl (10, false, [])),
  .inl (1, [some (.inl (0)), some (.inl (0)), some (.inl (0)), some (.inr 21)]),
  .inr (.inl (12, false, [])),
  .inl (1, [some (.inl (0)), some (.inl (0)), some (.inl (0)), some (.inr 23)]),
  .inr (.inl (12, false, [])),
  .inl (1, [some (.inl (0)), some (.inl (0)), some (.inl (0)), some (.inr 25)]),
  .inr (.inl (12, false, [])),
  .inl (1, [some (.inl (0)), some (.inl (0)), some (.inl (0)), some (.inr 27)]),
  .inr (.inl (12, false, [])),
  .inl (1, [some (.inl (0)), some (.inl (0)), some (.inl (0)), some (.inr 29)]),
  .inr (.inl (12, false, [])),
  .inl (1, [some (.inl (0)), some (.inl (0)), some (.inl (0)), some (.inr 31)]),
  .inr (.inl (12, false, [])),
  .inl (5, [some (.inr 33), some (.inr 34), some (.inl (0)), some (.inl (60)), some (.inl (20)), some (.inl (1000)), some (.inl (0)), some (.inl (0)), some (.inl (0)), some (.inl (1))]),
  .inr (.inr (3, [some 35, some 37, some 39, some 41, some 43, some 45])),
  .inr (.inl (10, false, [])),
  .inl (1, [some (.inl (0)), some (.inl (0)), some (.inl (0)), some (.inr 36)]),
  .inr (.inl (12, false, [])),
  .inl (1, [some (.inl (0)), some (.inl (0)), some (.inl (0)), some (.inr 38)]),
  .inr (.inl (12, false, [])),
  .inl (1, [some (.inl (0)), some (.inl (0)), some (.inl (0)), some (.inr 40)]),
  .inr (.inl (12, false, [])),
  .inl (1, [some (.inl (0)), some (.inl (0)), some (.inl (0)), some (.inr 42)]),
  .inr (.inl (12, false, [])),
  .inl (1, [some (.inl (0)), some (.inl (0)), some (.inl (0)), some (.inr 44)]),
  .inr (.inl (12, false, [])),
  .inl (1, [some (.inl (0)), some (.inl (0)), some (.inl (0)), some (.inr 46)]),
  .inr (.inl (12, false, [])),
  .inl (2, [none, some (.inl (0)), some (.inl (0)), some (.inl (0)), some (.inl (0)), some (.inl (0)), some (.inl (0))]),
  .inl (1, [some (.inl (0)), some (.inl (0)), some (.inl (0)), some (.inr 49)]),
  .inr (.inl (12, false, []))]
set_option maxRecDepth 100000 in
theorem X1_init_at48 {E : EE} {B : Nat} : CN E B yX1_init cX1_init 1 1 [.ref (B + 48)] wW45 wW46 1 12 := by
  refine CN.of (own := RX1) (by decide +kernel) rfl rfl (Nat.le_of_ble_eq_true rfl) fun v V hX hi => ?_
  refine j_aload_n V dX1_init_0 rfl rfl ?_
  refine j_objInit V dX1_init_1 ml_X1_3 (by decide +kernel) ?_
  refine j_aload_n V dX1_init_4 rfl rfl ?_
  refine j_bipush (z := 12) V dX1_init_5 (by decide +kernel) ?_
  refine k_newI (N := 12) 49 12 (by decide +kernel) rfl V hX dX1_init_7 rfl (by decide +kernel) (by decide +kernel) (by decide +kernel) ?_
  refine j_put (k := 48) (fs := [some (.inl (0)), some (.inl (0)), some (.inl (0)), none]) (κ := 0) (some (.inr 49)) V hi dX1_init_9 fl_X1_9 (by decide +kernel) rfl rfl (aq (by decide +kernel)) (by decide +kernel) ?_
  refine k_world wW46 (wq (by decide +kernel)) ?_
  exact j_vret V dX1_init_12
def wW47 : List LN := [
  .inl (6, [some (.inr 1), some (.inr 2), some (.inr 17), some (.inr 32), none, none, none, none, none, none, none, none, none, some (.inl (0)), some (.inl (0))]),
  .inr (.inr (2, [none, none, none, none, none, none, none, none])),
  .inl (5, [some (.inr 3), some (.inr 4), some (.inl (0)), some (.inl (60)), some (.inl (20)), some (.inl (1000)), some (.inl (0)), some (.inl (0)), some (.inl (0)), some (.inl (1))]),
  .inr (.inr (3, [some 5, some 7, some 9, some 11, some 13, some 15])),
  .inr (.inl (10, false, [])),
  .inl (1, [some (.inl (0)), some (.inl (0)), some (.inl (0)), some (.inr 6)]),
  .inr (.inl (12, false, [])),
  .inl (1, [some (.inl (0)), some (.inl (0)), some (.inl (0)), some (.inr 8)]),
  .inr (.inl (12, false, [])),
  .inl (1, [some (.inl (0)), some (.inl (0)), some (.inl (0)), some (.inr 10)]),
  .inr (.inl (12, false, [])),
  .inl (1, [some (.inl (0)), some (.inl (0)), some (.inl (0)), some (.inr 12)]),
  .inr (.inl (12, false, [])),
  .inl (1, [some (.inl (0)), some (.inl (0)), some (.inl (0)), some (.inr 14)]),
  .inr (.inl (12, false, [])),
  .inl (1, [some (.inl (0)), some (.inl (0)), some (.inl (0)), some (.inr 16)]),
  .inr (.inl (12, false, [])),
  .inl (5, [some (.inr 18), some (.inr 19), some (.inl (0)), some (.inl (60)), some (.inl (20)), some (.inl (1000)), some (.inl (0)), some (.inl (0)), some (.inl (0)), some (.inl (1))]),
  .inr (.inr (3, [some 20, some 22, some 24, some 26, some 28, some 30])),
  .inr (.inl (10, false, [])),
  .inl (1, [some (.inl (0)), some (.inl (0)), some (.inl (0)), some (.inr 21)]),
  .inr (.inl (12, false, [])),
  .inl (1, [some (.inl (0)), some (.inl (0)), some (.inl (0)), some (.inr 23)]),
  .inr (.inl (12, false, [])),
  .inl (1, [some (.inl (0)), some (.inl (0)), some (.inl (0)), some (.inr 25)]),
  .inr (.inl (12, false, [])),
  .inl (1, [some (.inl (0)), some (.inl (0)), some (.inl (0)), some (.inr 27)]),
  .inr (.inl (12, false, [])),
  .inl (1, [some (.inl (0)), some (.inl (0)), some (.inl (0)), some (.inr 29)]),
  .inr (.inl (12, false, [])),
  .inl (1, [some (.inl (0)), some (.inl (0)), some (.inl (0)), some (.inr 31)]),
  .inr (.inl (12, false, [])),
  .inl (5, [some (.inr 33), some (.inr 34), some (.inl (0)), some (.inl (60)), some (.inl (20)), some (.inl (1000)), some (.inl (0)), some (.inl (0)), some (.inl (0)), some (.inl (1))]),
  .inr (.inr (3, [some 35, some 37, some 39, some 41, some 43, some 45])),
  .inr (.inl (10, false, [])),
  .inl (1, [some (.inl (0)), some (.inl (0)), some (.inl (0)), some (.inr 36)]),
  .inr (.inl (12, false, [])),
  .inl (1, [some (.inl (0)), some (.inl (0)), some (.inl (0)), some (.inr 38)]),
  .inr (.inl (12, false, [])),
  .inl (1, [some (.inl (0)), some (.inl (0)), some (.inl (0)), some (.inr 40)]),
  .inr (.inl (12, false, [])),
  .inl (1, [some (.inl (0)), some (.inl (0)), some (.inl (0)), some (.inr 42)]),
  .inr (.inl (12, false, [])),
  .inl (1, [some (.inl (0)), some (.inl (0)), some (.inl (0)), some (.inr 44)]),
  .inr (.inl (12, false, [])),
  .inl (1, [some (.inl (0)), some (.inl (0)), some (.inl (0)), some (.inr 46)]),
  .inr (.inl (12, false, [])),
  .inl (2, [some (.inr 48), some (.inl (0)), some (.inl (0)), some (.inl (0)), some (.inl (0)), some (.inl (0)), some (.inl (0))]),
  .inl (1, [some (.inl (0)), some (.inl (0)), some (.inl (0)), some (.inr 49)]),
  .inr (.inl (12, false, []))]
set_option maxRecDepth 100000 in
theorem X2_init_at47 {E : EE} {B : Nat} : CN E B yX2_init cX2_init 1 2 [.ref (B + 47)] wW44 wW47 2 16 := by
  refine CN.of (own := RX2) (by decide +kernel) rfl rfl (Nat.le_of_ble_eq_true rfl) fun v V hX hi => ?_
  refine j_aload_n V dX2_init_0 rfl rfl ?_
  refine j_objInit V dX2_init_1 ml_X2_3 (by decide +kernel) ?_
  refine j_aload_n V dX2_init_4 rfl rfl ?_
  refine k_new 48 4 (by decide +kernel) rfl V nw_X2_9 dX2_init_5 (by decide +kernel) (by decide +kernel) ?_
  refine j_dup V dX2_init_8 rfl ?_
  refine k_world wW45 (wq (by decide +kernel)) ?_
  refine j_initN (k := 48) (As := []) V hX dX2_init_9 mw_X1_init mn_X2_11 (X1_init_at48) rfl rfl (Nat.le_of_ble_eq_true rfl) (by decide +kernel) (by decide +kernel) ?_
  refine j_put (k := 47) (fs := [none, some (.inl (0)), some (.inl (0)), some (.inl (0)), some (.inl (0)), some (.inl (0)), some (.inl (0))]) (κ := 0) (some (.inr 48)) V hi dX2_init_12 fl_X2_12 (by decide +kernel) rfl rfl (aq (by decide +kernel)) (by decide +kernel) ?_
  refine k_world wW47 (wq (by decide +kernel)) ?_
  exact j_vret V dX2_init_15
def wW48 : List LN := [
  .inl (6, [some (.inr 1), some (.inr 2), some (.inr 17), some (.inr 32), some (.inr 47), none, none, none, none, none, none, none, none, some (.inl (0)), some (.inl (0))]),
  .inr (.inr (2, [none, none, none, none, none, none, none, none])),
  .inl (5, [some (.inr 3), some (.inr 4), some (.inl (0)), some (.inl (60)), some (.inl (20)), some (.inl (1000)), some (.inl (0)), some (.inl (0)), some (.inl (0)), some (.inl (1))]),
  .inr (.inr (3, [some 5, some 7, some 9, some 11, some 13, some 15])),
  .inr (.inl (10, false, [])),
  .inl (1, [some (.inl (0)), some (.inl (0)), some (.inl (0)), some (.inr 6)]),
  .inr (.inl (12, false, [])),
  .inl (1, [some (.inl (0)), some (.inl (0)), some (.inl (0)), some (.inr 8)]),
  .inr (.inl (12, false, [])),
  .inl (1, [some (.inl (0)), some (.inl (0)), some (.inl (0)), some (.inr 10)]),
  .inr (.inl (12, false, [])),
  .inl (1, [some (.inl (0)), some (.inl (0)), some (.inl (0)), some (.inr 12)]),
  .inr (.inl (12, false, [])),
  .inl (1, [some (.inl (0)), some (.inl (0)), some (.inl (0)), some (.inr 14)]),
  .inr (.inl (12, false, [])),
  .inl (1, [some (.inl (0)), some (.inl (0)), some (.inl (0)), some (.inr 16)]),
  .inr (.inl (12, false, [])),
  .inl (5, [some (.inr 18), some (.inr 19), some (.inl (0)), some (.inl (60)), some (.inl (20)), some (.inl (1000)), some (.inl (0)), some (.inl (0)), some (.inl (0)), some (.inl (1))]),
  .inr (.inr (3, [some 20, some 22, some 24, some 26, some 28, some 30])),
  .inr (.inl (10, false, [])),
  .inl (1, [some (.inl (0)), some (.inl (0)), some (.inl (0)), some (.inr 21)]),
  .inr (.inl (12, false, [])),
  .inl (1, [some (.inl (0)), some (.inl (0)), some (.inl (0)), some (.inr 23)]),
  .inr (.inl (12, false, [])),
  .inl (1, [some (.inl (0)), some (.inl (0)), some (.inl (0)), some (.inr 25)]),
  .inr (.inl (12, false, [])),
  .inl (1, [some (.inl (0)), some (.inl (0)), some (.inl (0)), some (.inr 27)]),
  .inr (.inl (12, false, [])),
  .inl (1, [some (.inl (0)), some (.inl (0)), some (.inl (0)), some (.inr 29)]),
  .inr (.inl (12, false, [])),
  .inl (1, [some (.inl (0)), some (.inl (0)), some (.inl (0)), some (.inr 31)]),
  .inr (.inl (12, false, [])),
  .inl (5, [some (.inr 33), some (.inr 34), some (.inl (0)), some (.inl (60)), some (.inl (20)), some (.inl (1000)), some (.inl (0)), some (.inl (0)), some (.inl (0)), some (.inl (1))]),
  .inr (.inr (3, [some 35, some 37, some 39, some 41, some 43, some 45])),
  .inr (.inl (10, false, [])),
  .inl (1, [some (.inl (0)), some (.inl (0)), some (.inl (0)), some (.inr 36)]),
  .inr (.inl (12, false, [])),
  .inl (1, [some (.inl (0)), some (.inl (0)), some (.inl (0)), some (.inr 38)]),
  .inr (.inl (12, false, [])),
  .inl (1, [some (.inl (0)), some (.inl (0)), some (.inl (0)), some (.inr 40)]),
  .inr (.inl (12, false, [])),
  .inl (1, [some (.inl (0)), some (.inl (0)), some (.inl (0)), some (.inr 42)]),
  .inr (.inl (12, false, [])),
  .inl (1, [some (.inl (0)), some (.inl (0)), some (.inl (0)), some (.inr 44)]),
  .inr (.inl (12, false, [])),
  .inl (1, [some (.inl (0)), some (.inl (0)), some (.inl (0)), some (.inr 46)]),
  .inr (.inl (12, false, [])),
  .inl (2, [some (.inr 48), some (.inl (0)), some (.inl (0)), some (.inl (0)), some (.inl (0)), some (.inl (0)), some (.inl (0))]),
  .inl (1, [some (.inl (0)), some (.inl (0)), some (.inl (0)), some (.inr 49)]),
  .inr (.inl (12, false, [])),
  .inl (2, [none, some (.inl (0)), some (.inl (0)), some (.inl (0)), some (.inl (0)), some (.inl (0)), some (.inl (0))])]
def wW49 : List LN := [
  .inl (6, [some (.inr 1), some (.inr 2), some (.inr 17), some (.inr 32), some (.inr 47), none, none, none, none, none, none, none, none, some (.inl (0)), some (.inl (0))]),
  .inr (.inr (2, [none, none, none, none, none, none, none, none])),
  .inl (5, [some (.inr 3), some (.inr 4), some (.inl (0)), some (.inl (60)), some (.inl (20)), some (.inl (1000)), some (.inl (0)), some (.inl (0)), some (.inl (0)), some (.inl (1))]),
  .inr (.inr (3, [some 5, some 7, some 9, some 11, some 13, some 15])),
  .inr (.inl (10, false, [])),
  .inl (1, [some (.inl (0)), some (.inl (0)), some (.inl (0)), some (.inr 6)]),
  .inr (.inl (12, false, [])),
  .inl (1, [some (.inl (0)), some (.inl (0)), some (.inl (0)), some (.inr 8)]),
  .inr (.inl (12, false, [])),
  .inl (1, [some (.inl (0)), some (.inl (0)), some (.inl (0)), some (.inr 10)]),
  .inr (.inl (12, false, [])),
  .inl (1, [some (.inl (0)), some (.inl (0)), some (.inl (0)), some (.inr 12)]),
  .inr (.inl (12, false, [])),
  .inl (1, [some (.inl (0)), some (.inl (0)), some (.inl (0)), some (.inr 14)]),
  .inr (.inl (12, false, [])),
  .inl (1, [some (.inl (0)), some (.inl (0)), some (.inl (0)), some (.inr 16)]),
  .inr (.inl (12, false, [])),
  .inl (5, [some (.inr 18), some (.inr 19), some (.inl (0)), some (.inl (60)), some (.inl (20)), some (.inl (1000)), some (.inl (0)), some (.inl (0)), some (.inl (0)), some (.inl (1))]),
  .inr (.inr (3, [some 20, some 22, some 24, some 26, some 28, some 30])),
  .inr (.inl (10, false, [])),
  .inl (1, [some (.inl (0)), some (.inl (0)), some (.inl (0)), some (.inr 21)]),
  .inr (.inl (12, false, [])),
  .inl (1, [some (.inl (0)), some (.inl (0)), some (.inl (0)), some (.inr 23)]),
  .inr (.inl (12, false, [])),
  .inl (1, [some (.inl (0)), some (.inl (0)), some (.inl (0)), some (.inr 25)]),
  .inr (.inl (12, false, [])),
  .inl (1, [some (.inl (0)), some (.inl (0)), some (.inl (0)), some (.inr 27)]),
  .inr (.inl (12, false, [])),
  .inl (1, [some (.inl (0)), some (.inl (0)), some (.inl (0)), some (.inr 29)]),
  .inr (.inl (12, false, [])),
  .inl (1, [some (.inl (0)), some (.inl (0)), some (.inl (0)), some (.inr 31)]),
  .inr (.inl (12, false, [])),
  .inl (5, [some (.inr 33), some (.inr 34), some (.inl (0)), some (.inl (60)), some (.inl (20)), some (.inl (1000)), some (.inl (0)), some (.inl (0)), some (.inl (0)), some (.inl (1))]),
  .inr (.inr (3, [some 35, some 37, some 39, some 41, some 43, some 45])),
  .inr (.inl (10, false, [])),
  .inl (1, [some (.inl (0)), some (.inl (0)), some (.inl (0)), some (.inr 36)]),
  .inr (.inl (12, false, [])),
  .inl (1, [some (.inl (0)), some (.inl (0)), some (.inl (0)), some (.inr 38)]),
  .inr (.inl (12, false, [])),
  .inl (1, [some (.inl (0)), some (.inl (0)), some (.inl (0)), some (.inr 40)]),
  .inr (.inl (12, false, [])),
  .inl (1, [some (.inl (0)), some (.inl (0)), some (.inl (0)), some (.inr 42)]),
  .inr (.inl (12, false, [])),
  .inl (1, [some (.inl (0)), some (.inl (0)), some (.inl (0)), some (.inr 44)]),
  .inr (.inl (12, false, [])),
  .inl (1, [some (.inl (0)), some (.inl (0)), some (.inl (0)), some (.inr 46)]),
  .inr (.inl (12, false, [])),
  .inl (2, [some (.inr 48), some (.inl (0)), some (.inl (0)), some (.inl (0)), some (.inl (0)), some (.inl (0)), some (.inl (0))]),
  .inl (1, [some (.inl (0)), some (.inl (0)), some (.inl (0)), some (.inr 49)]),
  .inr (.inl (12, false, [])),
  .inl (2, [none, some (.inl (0)), some (.inl (0)), some (.inl (0)), some (.inl (0)), some (.inl (0)), some (.inl (0))]),
  .inl (1, [some (.inl (0)), some (.inl (0)), some (.inl (0)), none])]
def wW50 : List LN := [
  .inl (6, [some (.inr 1), some (.inr 2), some (.inr 17), some (.inr 32), some (.inr 47), none, none, none, none, none, none, none, none, some (.inl (0)), some (.inl (0))]),
  .inr (.inr (2, [none, none, none, none, none, none, none, none])),
  .inl (5, [some (.inr 3), some (.inr 4), some (.inl (0)), some (.inl (60)), some (.inl (20)), some (.inl (1000)), some (.inl (0)), some (.inl (0)), some (.inl (0)), some (.inl (1))]),
  .inr (.inr (3, [some 5, some 7, some 9, some 11, some 13, some 15])),
  .inr (.inl (10, false, [])),
  .inl (1, [some (.inl (0)), some (.inl (0)), some (.inl (0)), some (.inr 6)]),
  .inr (.inl (12, false, [])),
  .inl (1, [some (.inl (0)), some (.inl (0)), some (.inl (0)), some (.inr 8)]),
  .inr (.inl (12, false, [])),
  .inl (1, [some (.inl (0)), some (.inl (0)), some (.inl (0)), some (.inr 10)]),
  .inr (.inl (12, false, [])),
  .inl (1, [some (.inl (0)), some (.inl (0)), some (.inl (0)), some (.inr 12)]),
  .inr (.inl (12, false, [])),
  .inl (1, [some (.inl (0)), some (.inl (0)), some (.inl (0)), some (.inr 14)]),
  .inr (.inl (12, false, [])),
  .inl (1, [some (.inl (0)), some (.inl (0)), some (.inl (0)), some (.inr 16)]),
  .inr (.inl (12, false, [])),
  .inl (5, [some (.inr 18), some (.inr 19), some (.inl (0)), some (.inl (60)), some (.inl (20)), some (.inl (1000)), some (.inl (0)), some (.inl (0)), some (.inl (0)), some (.inl (1))]),
  .inr (.inr (3, [some 20, some 22, some 24, some 26, some 28, some 30])),
  .inr (.inl (10, false, [])),
  .inl (1, [some (.inl (0)), some (.inl (0)), some (.inl (0)), some (.inr 21)]),
  .inr (.inl (12, false, [])),
  .inl (1, [some (.inl (0)), some (.inl (0)), some (.inl (0)), some (.inr 23)]),
  .inr (.inl (12, false, [])),
  .inl (1, [some (.inl (0)), some (.inl (0)), some (.inl (0)), some (.inr 25)]),
  .inr (.inl (12, false, [])),
  .inl (1, [some (.inl (0)), some (.inl (0)), some (.inl (0)), some (.inr 27)]),
  .inr (.inl (12, false, [])),
  .inl (1, [some (.inl (0)), some (.inl (0)), some (.inl (0)), some (.inr 29)]),
  .inr (.inl (12, false, [])),
  .inl (1, [some (.inl (0)), some (.inl (0)), some (.inl (0)), some (.inr 31)]),
  .inr (.inl (12, false, [])),
  .inl (5, [some (.inr 33), some (.inr 34), some (.inl (0)), some (.inl (60)), some (.inl (20)), some (.inl (1000)), some (.inl (0)), some (.inl (0)), some (.inl (0)), some (.inl (1))]),
  .inr (.inr (3, [some 35, some 37, some 39, some 41, some 43, some 45])),
  .inr (.inl (10, false, [])),
  .inl (1, [some (.inl (0)), some (.inl (0)), some (.inl (0)), some (.inr 36)]),
  .inr (.inl (12, false, [])),
  .inl (1, [some (.inl (0)), some (.inl (0)), some (.inl (0)), some (.inr 38)]),
  .inr (.inl (12, false, [])),
  .inl (1, [some (.inl (0)), some (.inl (0)), some (.inl (0)), some (.inr 40)]),
  .inr (.inl (12, false, [])),
  .inl (1, [some (.inl (0)), some (.inl (0)), some (.inl (0)), some (.inr 42)]),
  .inr (.inl (12, false, [])),
  .inl (1, [some (.inl (0)), some (.inl (0)), some (.inl (0)), some (.inr 44)]),
  .inr (.inl (12, false, [])),
  .inl (1, [some (.inl (0)), some (.inl (0)), some (.inl (0)), some (.inr 46)]),
  .inr (.inl (12, false, [])),
  .inl (2, [some (.inr 48), some (.inl (0)), some (.inl (0)), some (.inl (0)), some (.inl (0)), some (.inl (0)), some (.inl (0))]),
  .inl (1, [some (.inl (0)), some (.inl (0)), some (.inl (0)), some (.inr 49)]),
  .inr (.inl (12, false, [])),
  .inl (2, [none, some (.inl (0)), some (.inl (0)), some (.inl (0)), some (.inl (0)), some (.inl (0)), some (.inl (0))]),
  .inl (1, [some (.inl (0)), some (.inl (0)), some (.inl (0)), some (.inr 52)]),
  .inr (.inl (12, false, []))]
set_option maxRecDepth 100000 in
theorem X1_init_at51 {E : EE} {B : Nat} : CN E B yX1_init cX1_init 1 1 [.ref (B + 51)] wW49 wW50 1 12 := by
  refine CN.of (own := RX1) (by decide +kernel) rfl rfl (Nat.le_of_ble_eq_true rfl) fun v V hX hi => ?_
  refine j_aload_n V dX1_init_0 rfl rfl ?_
  refine j_objInit V dX1_init_1 ml_X1_3 (by decide +kernel) ?_
  refine j_aload_n V dX1_init_4 rfl rfl ?_
  refine j_bipush (z := 12) V dX1_init_5 (by decide +kernel) ?_
  refine k_newI (N := 12) 52 12 (by decide +kernel) rfl V hX dX1_init_7 rfl (by decide +kernel) (by decide +kernel) (by decide +kernel) ?_
  refine j_put (k := 51) (fs := [some (.inl (0)), some (.inl (0)), some (.inl (0)), none]) (κ := 0) (some (.inr 52)) V hi dX1_init_9 fl_X1_9 (by decide +kernel) rfl rfl (aq (by decide +kernel)) (by decide +kernel) ?_
  refine k_world wW50 (wq (by decide +kernel)) ?_
  exact j_vret V dX1_init_12
def wW51 : List LN := [
  .inl (6, [some (.inr 1), some (.inr 2), some (.inr 17), some (.inr 32), some (.inr 47), none, none, none, none, none, none, none, none, some (.inl (0)), some (.inl (0))]),
  .inr (.inr (2, [none, none, none, none, none, none, none, none])),
  .inl (5, [some (.inr 3), some (.inr 4), some (.inl (0)), some (.inl (60)), some (.inl (20)), some (.inl (1000)), some (.inl (0)), some (.inl (0)), some (.inl (0)), some (.inl (1))]),
  .inr (.inr (3, [some 5, some 7, some 9, some 11, some 13, some 15])),
  .inr (.inl (10, false, [])),
  .inl (1, [some (.inl (0)), some (.inl (0)), some (.inl (0)), some (.inr 6)]),
  .inr (.inl (12, false, [])),
  .inl (1, [some (.inl (0)), some (.inl (0)), some (.inl (0)), some (.inr 8)]),
  .inr (.inl (12, false, [])),
  .inl (1, [some (.inl (0)), some (.inl (0)), some (.inl (0)), some (.inr 10)]),
  .inr (.inl (12, false, [])),
  .inl (1, [some (.inl (0)), some (.inl (0)), some (.inl (0)), some (.inr 12)]),
  .inr (.inl (12, false, [])),
  .inl (1, [some (.inl (0)), some (.inl (0)), some (.inl (0)), some (.inr 14)]),
  .inr (.inl (12, false, [])),
  .inl (1, [some (.inl (0)), some (.inl (0)), some (.inl (0)), some (.inr 16)]),
  .inr (.inl (12, false, [])),
  .inl (5, [some (.inr 18), some (.inr 19), some (.inl (0)), some (.inl (60)), some (.inl (20)), some (.inl (1000)), some (.inl (0)), some (.inl (0)), some (.inl (0)), some (.inl (1))]),
  .inr (.inr (3, [some 20, some 22, some 24, some 26, some 28, some 30])),
  .inr (.inl (10, false, [])),
  .inl (1, [some (.inl (0)), some (.inl (0)), some (.inl (0)), some (.inr 21)]),
  .inr (.inl (12, false, [])),
  .inl (1, [some (.inl (0)), some (.inl (0)), some (.inl (0)), some (.inr 23)]),
  .inr (.inl (12, false, [])),
  .inl (1, [some (.inl (0)), some (.inl (0)), some (.inl (0)), some (.inr 25)]),
  .inr (.inl (12, false, [])),
  .inl (1, [some (.inl (0)), some (.inl (0)), some (.inl (0)), some (.inr 27)]),
  .inr (.inl (12, false, [])),
  .inl (1, [some (.inl (0)), some (.inl (0)), some (.inl (0)), some (.inr 29)]),
  .inr (.inl (12, false, [])),
  .inl (1, [some (.inl (0)), some (.inl (0)), some (.inl (0)), some (.inr 31)]),
  .inr (.inl (12, false, [])),
  .inl (5, [some (.inr 33), some (.inr 34), some (.inl (0)), some (.inl (60)), some (.inl (20)), some (.inl (1000)), some (.inl (0)), some (.inl (0)), some (.inl (0)), some (.inl (1))]),
  .inr (.inr (3, [some 35, some 37, some 39, some 41, some 43, some 45])),
  .inr (.inl (10, false, [])),
  .inl (1, [some (.inl (0)), some (.inl (0)), some (.inl (0)), some (.inr 36)]),
  .inr (.inl (12, false, [])),
  .inl (1, [some (.inl (0)), some (.inl (0)), some (.inl (0)), some (.inr 38)]),
  .inr (.inl (12, false, [])),
  .inl (1, [some (.inl (0)), some (.inl (0)), some (.inl (0)), some (.inr 40)]),
  .inr (.inl (12, false, [])),
  .inl (1, [some (.inl (0)), some (.inl (0)), some (.inl (0)), some (.inr 42)]),
  .inr (.inl (12, false, [])),
  .inl (1, [some (.inl (0)), some (.inl (0)), some (.inl (0)), some (.inr 44)]),
  .inr (.inl (12, false, [])),
  .inl (1, [some (.inl (0)), some (.inl (0)), some (.inl (0)), some (.inr 46)]),
  .inr (.inl (12, false, [])),
  .inl (2, [some (.inr 48), some (.inl (0)), some (.inl (0)), some (.inl (0)), some (.inl (0)), some (.inl (0)), some (.inl (0))]),
  .inl (1, [some (.inl (0)), some (.inl (0)), some (.inl (0)), some (.inr 49)]),
  .inr (.inl (12, false, [])),
  .inl (2, [some (.inr 51), some (.inl (0)), some (.inl (0)), some (.inl (0)), some (.inl (0)), some (.inl (0)), some (.inl (0))]),
  .inl (1, [some (.inl (0)), some (.inl (0)), some (.inl (0)), some (.inr 52)]),
  .inr (.inl (12, false, []))]
set_option maxRecDepth 100000 in
theorem X2_init_at50 {E : EE} {B : Nat} : CN E B yX2_init cX2_init 1 2 [.ref (B + 50)] wW48 wW51 2 16 := by
  refine CN.of (own := RX2) (by decide +kernel) rfl rfl (Nat.le_of_ble_eq_true rfl) fun v V hX hi => ?_
  refine j_aload_n V dX2_init_0 rfl rfl ?_
  refine j_objInit V dX2_init_1 ml_X2_3 (by decide +kernel) ?_
  refine j_aload_n V dX2_init_4 rfl rfl ?_
  refine k_new 51 4 (by decide +kernel) rfl V nw_X2_9 dX2_init_5 (by decide +kernel) (by decide +kernel) ?_
  refine j_dup V dX2_init_8 rfl ?_
  refine k_world wW49 (wq (by decide +kernel)) ?_
  refine j_initN (k := 51) (As := []) V hX dX2_init_9 mw_X1_init mn_X2_11 (X1_init_at51) rfl rfl (Nat.le_of_ble_eq_true rfl) (by decide +kernel) (by decide +kernel) ?_
  refine j_put (k := 50) (fs := [none, some (.inl (0)), some (.inl (0)), some (.inl (0)), some (.inl (0)), some (.inl (0)), some (.inl (0))]) (κ := 0) (some (.inr 51)) V hi dX2_init_12 fl_X2_12 (by decide +kernel) rfl rfl (aq (by decide +kernel)) (by decide +kernel) ?_
  refine k_world wW51 (wq (by decide +kernel)) ?_
  exact j_vret V dX2_init_15
def wW52 : List LN := [
  .inl (6, [some (.inr 1), some (.inr 2), some (.inr 17), some (.inr 32), some (.inr 47), some (.inr 50), none, none, none, none, none, none, none, some (.inl (0)), some (.inl (0))]),
  .inr (.inr (2, [none, none, none, none, none, none, none, none])),
  .inl (5, [some (.inr 3), some (.inr 4), some (.inl (0)), some (.inl (60)), some (.inl (20)), some (.inl (1000)), some (.inl (0)), some (.inl (0)), some (.inl (0)), some (.inl (1))]),
  .inr (.inr (3, [some 5, some 7, some 9, some 11, some 13, some 15])),
  .inr (.inl (10, false, [])),
  .inl (1, [some (.inl (0)), some (.inl (0)), some (.inl (0)), some (.inr 6)]),
  .inr (.inl (12, false, [])),
  .inl (1, [some (.inl (0)), some (.inl (0)), some (.inl (0)), some (.inr 8)]),
  .inr (.inl (12, false, [])),
  .inl (1, [some (.inl (0)), some (.inl (0)), some (.inl (0)), some (.inr 10)]),
  .inr (.inl (12, false, [])),
  .inl (1, [some (.inl (0)), some (.inl (0)), some (.inl (0)), some (.inr 12)]),
  .inr (.inl (12, false, [])),
  .inl (1, [some (.inl (0)), some (.inl (0)), some (.inl (0)), some (.inr 14)]),
  .inr (.inl (12, false, [])),
  .inl (1, [some (.inl (0)), some (.inl (0)), some (.inl (0)), some (.inr 16)]),
  .inr (.inl (12, false, [])),
  .inl (5, [some (.inr 18), some (.inr 19), some (.inl (0)), some (.inl (60)), some (.inl (20)), some (.inl (1000)), some (.inl (0)), some (.inl (0)), some (.inl (0)), some (.inl (1))]),
  .inr (.inr (3, [some 20, some 22, some 24, some 26, some 28, some 30])),
  .inr (.inl (10, false, [])),
  .inl (1, [some (.inl (0)), some (.inl (0)), some (.inl (0)), some (.inr 21)]),
  .inr (.inl (12, false, [])),
  .inl (1, [some (.inl (0)), some (.inl (0)), some (.inl (0)), some (.inr 23)]),
  .inr (.inl (12, false, [])),
  .inl (1, [some (.inl (0)), some (.inl (0)), some (.inl (0)), some (.inr 25)]),
  .inr (.inl (12, false, [])),
  .inl (1, [some (.inl (0)), some (.inl (0)), some (.inl (0)), some (.inr 27)]),
  .inr (.inl (12, false, [])),
  .inl (1, [some (.inl (0)), some (.inl (0)), some (.inl (0)), some (.inr 29)]),
  .inr (.inl (12, false, [])),
  .inl (1, [some (.inl (0)), some (.inl (0)), some (.inl (0)), some (.inr 31)]),
  .inr (.inl (12, false, [])),
  .inl (5, [some (.inr 33), some (.inr 34), some (.inl (0)), some (.inl (60)), some (.inl (20)), some (.inl (1000)), some (.inl (0)), some (.inl (0)), some (.inl (0)), some (.inl (1))]),
  .inr (.inr (3, [some 35, some 37, some 39, some 41, some 43, some 45])),
  .inr (.inl (10, false, [])),
  .inl (1, [some (.inl (0)), some (.inl (0)), some (.inl (0)), some (.inr 36)]),
  .inr (.inl (12, false, [])),
  .inl (1, [some (.inl (0)), some (.inl (0)), some (.inl (0)), some (.inr 38)]),
  .inr (.inl (12, false, [])),
  .inl (1, [some (.inl (0)), some (.inl (0)), some (.inl (0)), some (.inr 40)]),
  .inr (.inl (12, false, [])),
  .inl (1, [some (.inl (0)), some (.inl (0)), some (.inl (0)), some (.inr 42)]),
  .inr (.inl (12, false, [])),
  .inl (1, [some (.inl (0)), some (.inl (0)), some (.inl (0)), some (.inr 44)]),
  .inr (.inl (12, false, [])),
  .inl (1, [some (.inl (0)), some (.inl (0)), some (.inl (0)), some (.inr 46)]),
  .inr (.inl (12, false, [])),
  .inl (2, [some (.inr 48), some (.inl (0)), some (.inl (0)), some (.inl (0)), some (.inl (0)), some (.inl (0)), some (.inl (0))]),
  .inl (1, [some (.inl (0)), some (.inl (0)), some (.inl (0)), some (.inr 49)]),
  .inr (.inl (12, false, [])),
  .inl (2, [some (.inr 51), some (.inl (0)), some (.inl (0)), some (.inl (0)), some (.inl (0)), some (.inl (0)), some (.inl (0))]),
  .inl (1, [some (.inl (0)), some (.inl (0)), some (.inl (0)), some (.inr 52)]),
  .inr (.inl (12, false, [])),
  .inl (3, [none, none, none, none, some (.inl (0)), some (.inl (0)), some (.inl (0))])]
def wW53 : List LN := [
  .inl (6, [some (.inr 1), some (.inr 2), some (.inr 17), some (.inr 32), some (.inr 47), some (.inr 50), none, none, none, none, none, none, none, some (.inl (0)), some (.inl (0))]),
  .inr (.inr (2, [none, none, none, none, none, none, none, none])),
  .inl (5, [some (.inr 3), some (.inr 4), some (.inl (0)), some (.inl (60)), some (.inl (20)), some (.inl (1000)), some (.inl (0)), some (.inl (0)), some (.inl (0)), some (.inl (1))]),
  .inr (.inr (3, [some 5, some 7, some 9, some 11, some 13, some 15])),
  .inr (.inl (10, false, [])),
  .inl (1, [some (.inl (0)), some (.inl (0)), some (.inl (0)), some (.inr 6)]),
  .inr (.inl (12, false, [])),
  .inl (1, [some (.inl (0)), some (.inl (0)), some (.inl (0)), some (.inr 8)]),
  .inr (.inl (12, false, [])),
  .inl (1, [some (.inl (0)), some (.inl (0)), some (.inl (0)), some (.inr 10)]),
  .inr (.inl (12, false, [])),
  .inl (1, [some (.inl (0)), some (.inl (0)), some (.inl (0)), some (.inr 12)]),
  .inr (.inl (12, false, [])),
  .inl (1, [some (.inl (0)), some (.inl (0)), some (.inl (0)), some (.inr 14)]),
  .inr (.inl (12, false, [])),
  .inl (1, [some (.inl (0)), some (.inl (0)), some (.inl (0)), some (.inr 16)]),
  .inr (.inl (12, false, [])),
  .inl (5, [some (.inr 18), some (.inr 19), some (.inl (0)), some (.inl (60)), some (.inl (20)), some (.inl (1000)), some (.inl (0)), some (.inl (0)), some (.inl (0)), some (.inl (1))]),
  .inr (.inr (3, [some 20, some 22, some 24, some 26, some 28, some 30])),
  .inr (.inl (10, false, [])),
  .inl (1, [some (.inl (0)), some (.inl (0)), some (.inl (0)), some (.inr 21)]),
  .inr (.inl (12, false, [])),
  .inl (1, [some (.inl (0)), some (.inl (0)), some (.inl (0)), some (.inr 23)]),
  .inr (.inl (12, false, [])),
  .inl (1, [some (.inl (0)), some (.inl (0)), some (.inl (0)), some (.inr 25)]),
  .inr (.inl (12, false, [])),
  .inl (1, [some (.inl (0)), some (.inl (0)), some (.inl (0)), some (.inr 27)]),
  .inr (.inl (12, false, [])),
  .inl (1, [some (.inl (0)), some (.inl (0)), some (.inl (0)), some (.inr 29)]),
  .inr (.inl (12, false, [])),
  .inl (1, [some (.inl (0)), some (.inl (0)), some (.inl (0)), some (.inr 31)]),
  .inr (.inl (12, false, [])),
  .inl (5, [some (.inr 33), some (.inr 34), some (.inl (0)), some (.inl (60)), some (.inl (20)), some (.inl (1000)), some (.inl (0)), some (.inl (0)), some (.inl (0)), some (.inl (1))]),
  .inr (.inr (3, [some 35, some 37, some 39, some 41, some 43, some 45])),
  .inr (.inl (10, false, [])),
  .inl (1, [some (.inl (0)), some (.inl (0)), some (.inl (0)), some (.inr 36)]),
  .inr (.inl (12, false, [])),
  .inl (1, [some (.inl (0)), some (.inl (0)), some (.inl (0)), some (.inr 38)]),
  .inr (.inl (12, false, [])),
  .inl (1, [some (.inl (0)), some (.inl (0)), some (.inl (0)), some (.inr 40)]),
  .inr (.inl (12, false, [])),
  .inl (1, [some (.inl (0)), some (.inl (0)), some (.inl (0)), some (.inr 42)]),
  .inr (.inl (12, false, [])),
  .inl (1, [some (.inl (0)), some (.inl (0)), some (.inl (0)), some (.inr 44)]),
  .inr (.inl (12, false, [])),
  .inl (1, [some (.inl (0)), some (.inl (0)), some (.inl (0)), some (.inr 46)]),
  .inr (.inl (12, false, [])),
  .inl (2, [some (.inr 48), some (.inl (0)), some (.inl (0)), some (.inl (0)), some (.inl (0)), some (.inl (0)), some (.inl (0))]),
  .inl (1, [some (.inl (0)), some (.inl (0)), some (.inl (0)), some (.inr 49)]),
  .inr (.inl (12, false, [])),
  .inl (2, [some (.inr 51), some (.inl (0)), some (.inl (0)), some (.inl (0)), some (.inl (0)), some (.inl (0)), some (.inl (0))]),
  .inl (1, [some (.inl (0)), some (.inl (0)), some (.inl (0)), some (.inr 52)]),
  .inr (.inl (12, false, [])),
  .inl (3, [some (.inr 32), some (.inr 47), some (.inr 54), some (.inr 55), some (.inl (0)), some (.inl (0)), some (.inl (-1))]),
  .inr (.inl (160, false, [])),
  .inr (.inl (3, false, []))]
set_option maxRecDepth 100000 in
theorem X3_init_at53 {E : EE} {B : Nat} : CN E B yX3_init cX3_init 3 1 [.ref (B + 53), .ref (B + 32), .ref (B + 47)] wW52 wW53 2 163 := by
  refine CN.of (own := RX3) (by decide +kernel) rfl rfl (Nat.le_of_ble_eq_true rfl) fun v V hX hi => ?_
  refine j_aload_n V dX3_init_0 rfl rfl ?_
  refine j_objInit V dX3_init_1 ml_X3_3 (by decide +kernel) ?_
  refine j_aload_n V dX3_init_4 rfl rfl ?_
  refine j_sipush (z := 160) V dX3_init_5 (by decide +kernel) ?_
  refine k_newI (N := 160) 54 160 (by decide +kernel) rfl V hX dX3_init_8 rfl (by decide +kernel) (by decide +kernel) (by decide +kernel) ?_
  refine j_put (k := 53) (fs := [none, none, none, none, some (.inl (0)), some (.inl (0)), some (.inl (0))]) (κ := 0) (some (.inr 54)) V hi dX3_init_10 fl_X3_9 (by decide +kernel) rfl rfl (aq (by decide +kernel)) (by decide +kernel) ?_
  refine j_aload_n V dX3_init_13 rfl rfl ?_
  refine j_iconst (z := 3) V dX3_init_14 (by decide +kernel) ?_
  refine k_newI (N := 3) 55 163 (by decide +kernel) rfl V hX dX3_init_15 rfl (by decide +kernel) (by decide +kernel) (by decide +kernel) ?_
  refine j_put (k := 53) (fs := [none, none, some (.inr 54), none, some (.inl (0)), some (.inl (0)), some (.inl (0))]) (κ := 0) (some (.inr 55)) V hi dX3_init_17 fl_X3_15 (by decide +kernel) rfl rfl (aq (by decide +kernel)) (by decide +kernel) ?_
  refine j_aload_n V dX3_init_20 rfl rfl ?_
  refine j_iconst (z := -1) V dX3_init_21 (by decide +kernel) ?_
  refine j_put (k := 53) (fs := [none, none, some (.inr 54), some (.inr 55), some (.inl (0)), some (.inl (0)), some (.inl (0))]) (κ := 1) (some (.inl (-1))) V hi dX3_init_22 fl_X3_18 (by decide +kernel) rfl rfl (aq (by decide +kernel)) (by decide +kernel) ?_
  refine j_aload_n V dX3_init_25 rfl rfl ?_
  refine j_aload_n V dX3_init_26 rfl rfl ?_
  refine j_put (k := 53) (fs := [none, none, some (.inr 54), some (.inr 55), some (.inl (0)), some (.inl (0)), some (.inl (-1))]) (κ := 0) (some (.inr 32)) V hi dX3_init_27 fl_X3_22 (by decide +kernel) rfl rfl (aq (by decide +kernel)) (by decide +kernel) ?_
  refine j_aload_n V dX3_init_30 rfl rfl ?_
  refine j_aload_n V dX3_init_31 rfl rfl ?_
  refine j_put (k := 53) (fs := [some (.inr 32), none, some (.inr 54), some (.inr 55), some (.inl (0)), some (.inl (0)), some (.inl (-1))]) (κ := 0) (some (.inr 47)) V hi dX3_init_32 fl_X3_26 (by decide +kernel) rfl rfl (aq (by decide +kernel)) (by decide +kernel) ?_
  refine k_world wW53 (wq (by decide +kernel)) ?_
  exact j_vret V dX3_init_35
def wW54 : List LN := [
  .inl (6, [some (.inr 1), some (.inr 2), some (.inr 17), some (.inr 32), some (.inr 47), some (.inr 50), some (.inr 53), none, none, none, none, none, none, some (.inl (0)), some (.inl (0))]),
  .inr (.inr (2, [none, none, none, none, none, none, none, none])),
  .inl (5, [some (.inr 3), some (.inr 4), some (.inl (0)), some (.inl (60)), some (.inl (20)), some (.inl (1000)), some (.inl (0)), some (.inl (0)), some (.inl (0)), some (.inl (1))]),
  .inr (.inr (3, [some 5, some 7, some 9, some 11, some 13, some 15])),
  .inr (.inl (10, false, [])),
  .inl (1, [some (.inl (0)), some (.inl (0)), some (.inl (0)), some (.inr 6)]),
  .inr (.inl (12, false, [])),
  .inl (1, [some (.inl (0)), some (.inl (0)), some (.inl (0)), some (.inr 8)]),
  .inr (.inl (12, false, [])),
  .inl (1, [some (.inl (0)), some (.inl (0)), some (.inl (0)), some (.inr 10)]),
  .inr (.inl (12, false, [])),
  .inl (1, [some (.inl (0)), some (.inl (0)), some (.inl (0)), some (.inr 12)]),
  .inr (.inl (12, false, [])),
  .inl (1, [some (.inl (0)), some (.inl (0)), some (.inl (0)), some (.inr 14)]),
  .inr (.inl (12, false, [])),
  .inl (1, [some (.inl (0)), some (.inl (0)), some (.inl (0)), some (.inr 16)]),
  .inr (.inl (12, false, [])),
  .inl (5, [some (.inr 18), some (.inr 19), some (.inl (0)), some (.inl (60)), some (.inl (20)), some (.inl (1000)), some (.inl (0)), some (.inl (0)), some (.inl (0)), some (.inl (1))]),
  .inr (.inr (3, [some 20, some 22, some 24, some 26, some 28, some 30])),
  .inr (.inl (10, false, [])),
  .inl (1, [some (.inl (0)), some (.inl (0)), some (.inl (0)), some (.inr 21)]),
  .inr (.inl (12, false, [])),
  .inl (1, [some (.inl (0)), some (.inl (0)), some (.inl (0)), some (.inr 23)]),
  .inr (.inl (12, false, [])),
  .inl (1, [some (.inl (0)), some (.inl (0)), some (.inl (0)), some (.inr 25)]),
  .inr (.inl (12, false, [])),
  .inl (1, [some (.inl (0)), some (.inl (0)), some (.inl (0)), some (.inr 27)]),
  .inr (.inl (12, false, [])),
  .inl (1, [some (.inl (0)), some (.inl (0)), some (.inl (0)), some (.inr 29)]),
  .inr (.inl (12, false, [])),
  .inl (1, [some (.inl (0)), some (.inl (0)), some (.inl (0)), some (.inr 31)]),
  .inr (.inl (12, false, [])),
  .inl (5, [some (.inr 33), some (.inr 34), some (.inl (0)), some (.inl (60)), some (.inl (20)), some (.inl (1000)), some (.inl (0)), some (.inl (0)), some (.inl (0)), some (.inl (1))]),
  .inr (.inr (3, [some 35, some 37, some 39, some 41, some 43, some 45])),
  .inr (.inl (10, false, [])),
  .inl (1, [some (.inl (0)), some (.inl (0)), some (.inl (0)), some (.inr 36)]),
  .inr (.inl (12, false, [])),
  .inl (1, [some (.inl (0)), some (.inl (0)), some (.inl (0)), some (.inr 38)]),
  .inr (.inl (12, false, [])),
  .inl (1, [some (.inl (0)), some (.inl (0)), some (.inl (0)), some (.inr 40)]),
  .inr (.inl (12, false, [])),
  .inl (1, [some (.inl (0)), some (.inl (0)), some (.inl (0)), some (.inr 42)]),
  .inr (.inl (12, false, [])),
  .inl (1, [some (.inl (0)), some (.inl (0)), some (.inl (0)), some (.inr 44)]),
  .inr (.inl (12, false, [])),
  .inl (1, [some (.inl (0)), some (.inl (0)), some (.inl (0)), some (.inr 46)]),
  .inr (.inl (12, false, [])),
  .inl (2, [some (.inr 48), some (.inl (0)), some (.inl (0)), some (.inl (0)), some (.inl (0)), some (.inl (0)), some (.inl (0))]),
  .inl (1, [some (.inl (0)), some (.inl (0)), some (.inl (0)), some (.inr 49)]),
  .inr (.inl (12, false, [])),
  .inl (2, [some (.inr 51), some (.inl (0)), some (.inl (0)), some (.inl (0)), some (.inl (0)), some (.inl (0)), some (.inl (0))]),
  .inl (1, [some (.inl (0)), some (.inl (0)), some (.inl (0)), some (.inr 52)]),
  .inr (.inl (12, false, [])),
  .inl (3, [some (.inr 32), some (.inr 47), some (.inr 54), some (.inr 55), some (.inl (0)), some (.inl (0)), some (.inl (-1))]),
  .inr (.inl (160, false, [])),
  .inr (.inl (3, false, [])),
  .inl (0, [none, some (.inl (0)), some (.inl (0)), some (.inl (0)), some (.inl (0))])]
def wW55 : List LN := [
  .inl (6, [some (.inr 1), some (.inr 2), some (.inr 17), some (.inr 32), some (.inr 47), some (.inr 50), some (.inr 53), none, none, none, none, none, none, some (.inl (0)), some (.inl (0))]),
  .inr (.inr (2, [none, none, none, none, none, none, none, none])),
  .inl (5, [some (.inr 3), some (.inr 4), some (.inl (0)), some (.inl (60)), some (.inl (20)), some (.inl (1000)), some (.inl (0)), some (.inl (0)), some (.inl (0)), some (.inl (1))]),
  .inr (.inr (3, [some 5, some 7, some 9, some 11, some 13, some 15])),
  .inr (.inl (10, false, [])),
  .inl (1, [some (.inl (0)), some (.inl (0)), some (.inl (0)), some (.inr 6)]),
  .inr (.inl (12, false, [])),
  .inl (1, [some (.inl (0)), some (.inl (0)), some (.inl (0)), some (.inr 8)]),
  .inr (.inl (12, false, [])),
  .inl (1, [some (.inl (0)), some (.inl (0)), some (.inl (0)), some (.inr 10)]),
  .inr (.inl (12, false, [])),
  .inl (1, [some (.inl (0)), some (.inl (0)), some (.inl (0)), some (.inr 12)]),
  .inr (.inl (12, false, [])),
  .inl (1, [some (.inl (0)), some (.inl (0)), some (.inl (0)), some (.inr 14)]),
  .inr (.inl (12, false, [])),
  .inl (1, [some (.inl (0)), some (.inl (0)), some (.inl (0)), some (.inr 16)]),
  .inr (.inl (12, false, [])),
  .inl (5, [some (.inr 18), some (.inr 19), some (.inl (0)), some (.inl (60)), some (.inl (20)), some (.inl (1000)), some (.inl (0)), some (.inl (0)), some (.inl (0)), some (.inl (1))]),
  .inr (.inr (3, [some 20, some 22, some 24, some 26, some 28, some 30])),
  .inr (.inl (10, false, [])),
  .inl (1, [some (.inl (0)), some (.inl (0)), some (.inl (0)), some (.inr 21)]),
  .inr (.inl (12, false, [])),
  .inl (1, [some (.inl (0)), some (.inl (0)), some (.inl (0)), some (.inr 23)]),
  .inr (.inl (12, false, [])),
  .inl (1, [some (.inl (0)), some (.inl (0)), some (.inl (0)), some (.inr 25)]),
  .inr (.inl (12, false, [])),
  .inl (1, [some (.inl (0)), some (.inl (0)), some (.inl (0)), some (.inr 27)]),
  .inr (.inl (12, false, [])),
  .inl (1, [some (.inl (0)), some (.inl (0)), some (.inl (0)), some (.inr 29)]),
  .inr (.inl (12, false, [])),
  .inl (1, [some (.inl (0)), some (.inl (0)), some (.inl (0)), some (.inr 31)]),
  .inr (.inl (12, false, [])),
  .inl (5, [some (.inr 33), some (.inr 34), some (.inl (0)), some (.inl (60)), some (.inl (20)), some (.inl (1000)), some (.inl (0)), some (.inl (0)), some (.inl (0)), some (.inl (1))]),
  .inr (.inr (3, [some 35, some 37, some 39, some 41, some 43, some 45])),
  .inr (.inl (10, false, [])),
  .inl (1, [some (.inl (0)), some (.inl (0)), some (.inl (0)), some (.inr 36)]),
  .inr (.inl (12, false, [])),
  .inl (1, [some (.inl (0)), some (.inl (0)), some (.inl (0)), some (.inr 38)]),
  .inr (.inl (12, false, [])),
  .inl (1, [some (.inl (0)), some (.inl (0)), some (.inl (0)), some (.inr 40)]),
  .inr (.inl (12, false, [])),
  .inl (1, [some (.inl (0)), some (.inl (0)), some (.inl (0)), some (.inr 42)]),
  .inr (.inl (12, false, [])),
  .inl (1, [some (.inl (0)), some (.inl (0)), some (.inl (0)), some (.inr 44)]),
  .inr (.inl (12, false, [])),
  .inl (1, [some (.inl (0)), some (.inl (0)), some (.inl (0)), some (.inr 46)]),
  .inr (.inl (12, false, [])),
  .inl (2, [some (.inr 48), some (.inl (0)), some (.inl (0)), some (.inl (0)), some (.inl (0)), some (.inl (0)), some (.inl (0))]),
  .inl (1, [some (.inl (0)), some (.inl (0)), some (.inl (0)), some (.inr 49)]),
  .inr (.inl (12, false, [])),
  .inl (2, [some (.inr 51), some (.inl (0)), some (.inl (0)), some (.inl (0)), some (.inl (0)), some (.inl (0)), some (.inl (0))]),
  .inl (1, [some (.inl (0)), some (.inl (0)), some (.inl (0)), some (.inr 52)]),
  .inr (.inl (12, false, [])),
  .inl (3, [some (.inr 32), some (.inr 47), some (.inr 54), some (.inr 55), some (.inl (0)), some (.inl (0)), some (.inl (-1))]),
  .inr (.inl (160, false, [])),
  .inr (.inl (3, false, [])),
  .inl (0, [some (.inr 57), some (.inl (0)), some (.inl (0)), some (.inl (0)), some (.inl (0))]),
  .inr (.inl (20, false, []))]
set_option maxRecDepth 100000 in
theorem X0_init_at56 {E : EE} {B : Nat} : CN E B yX0_init cX0_init 1 1 [.ref (B + 56)] wW54 wW55 1 20 := by
  refine CN.of (own := RX0) (by decide +kernel) rfl rfl (Nat.le_of_ble_eq_true rfl) fun v V hX hi => ?_
  refine j_aload_n V dX0_init_0 rfl rfl ?_
  refine j_objInit V dX0_init_1 ml_X0_3 (by decide +kernel) ?_
  refine j_aload_n V dX0_init_4 rfl rfl ?_
  refine j_bipush (z := 20) V dX0_init_5 (by decide +kernel) ?_
  refine k_newI (N := 20) 57 20 (by decide +kernel) rfl V hX dX0_init_7 rfl (by decide +kernel) (by decide +kernel) (by decide +kernel) ?_
  refine j_put (k := 56) (fs := [none, some (.inl (0)), some (.inl (0)), some (.inl (0)), some (.inl (0))]) (κ := 0) (some (.inr 57)) V hi dX0_init_9 fl_X0_9 (by decide +kernel) rfl rfl (aq (by decide +kernel)) (by decide +kernel) ?_
  refine k_world wW55 (wq (by decide +kernel)) ?_
  exact j_vret V dX0_init_12
def wW56 : List LN := [
  .inl (6, [some (.inr 1), some (.inr 2), some (.inr 17), some (.inr 32), some (.inr 47), some (.inr 50), some (.inr 53), some (.inr 56), none, none, none, none, none, some (.inl (0)), some (.inl (0))]),
  .inr (.inr (2, [none, none, none, none, none, none, none, none])),
  .inl (5, [some (.inr 3), some (.inr 4), some (.inl (0)), some (.inl (60)), some (.inl (20)), some (.inl (1000)), some (.inl (0)), some (.inl (0)), some (.inl (0)), some (.inl (1))]),
  .inr (.inr (3, [some 5, some 7, some 9, some 11, some 13, some 15])),
  .inr (.inl (10, false, [])),
  .inl (1, [some (.inl (0)), some (.inl (0)), some (.inl (0)), some (.inr 6)]),
  .inr (.inl (12, false, [])),
  .inl (1, [some (.inl (0)), some (.inl (0)), some (.inl (0)), some (.inr 8)]),
  .inr (.inl (12, false, [])),
  .inl (1, [some (.inl (0)), some (.inl (0)), some (.inl (0)), some (.inr 10)]),
  .inr (.inl (12, false, [])),
  .inl (1, [some (.inl (0)), some (.inl (0)), some (.inl (0)), some (.inr 12)]),
  .inr (.inl (12, false, [])),
  .inl (1, [some (.inl (0)), some (.inl (0)), some (.inl (0)), some (.inr 14)]),
  .inr (.inl (12, false, [])),
  .inl (1, [some (.inl (0)), some (.inl (0)), some (.inl (0)), some (.inr 16)]),
  .inr (.inl (12, false, [])),
  .inl (5, [some (.inr 18), some (.inr 19), some (.inl (0)), some (.inl (60)), some (.inl (20)), some (.inl (1000)), some (.inl (0)), some (.inl (0)), some (.inl (0)), some (.inl (1))]),
  .inr (.inr (3, [some 20, some 22, some 24, some 26, some 28, some 30])),
  .inr (.inl (10, false, [])),
  .inl (1, [some (.inl (0)), some (.inl (0)), some (.inl (0)), some (.inr 21)]),
  .inr (.inl (12, false, [])),
  .inl (1, [some (.inl (0)), some (.inl (0)), some (.inl (0)), some (.inr 23)]),
  .inr (.inl (12, false, [])),
  .inl (1, [some (.inl (0)), some (.inl (0)), some (.inl (0)), some (.inr 25)]),
  .inr (.inl (12, false, [])),
  .inl (1, [some (.inl (0)), some (.inl (0)), some (.inl (0)), some (.inr 27)]),
  .inr (.inl (12, false, [])),
  .inl (1, [some (.inl (0)), some (.inl (0)), some (.inl (0)), some (.inr 29)]),
  .inr (.inl (12, false, [])),
  .inl (1, [some (.inl (0)), some (.inl (0)), some (.inl (0)), some (.inr 31)]),
  .inr (.inl (12, false, [])),
  .inl (5, [some (.inr 33), some (.inr 34), some (.inl (0)), some (.inl (60)), some (.inl (20)), some (.inl (1000)), some (.inl (0)), some (.inl (0)), some (.inl (0)), some (.inl (1))]),
  .inr (.inr (3, [some 35, some 37, some 39, some 41, some 43, some 45])),
  .inr (.inl (10, false, [])),
  .inl (1, [some (.inl (0)), some (.inl (0)), some (.inl (0)), some (.inr 36)]),
  .inr (.inl (12, false, [])),
  .inl (1, [some (.inl (0)), some (.inl (0)), some (.inl (0)), some (.inr 38)]),
  .inr (.inl (12, false, [])),
  .inl (1, [some (.inl (0)), some (.inl (0)), some (.inl (0)), some (.inr 40)]),
  .inr (.inl (12, false, [])),
  .inl (1, [some (.inl (0)), some (.inl (0)), some (.inl (0)), some (.inr 42)]),
  .inr (.inl (12, false, [])),
  .inl (1, [some (.inl (0)), some (.inl (0)), some (.inl (0)), some (.inr 44)]),
  .inr (.inl (12, false, [])),
  .inl (1, [some (.inl (0)), some (.inl (0)), some (.inl (0)), some (.inr 46)]),
  .inr (.inl (12, false, [])),
  .inl (2, [some (.inr 48), some (.inl (0)), some (.inl (0)), some (.inl (0)), some (.inl (0)), some (.inl (0)), some (.inl (0))]),
  .inl (1, [some (.inl (0)), some (.inl (0)), some (.inl (0)), some (.inr 49)]),
  .inr (.inl (12, false, [])),
  .inl (2, [some (.inr 51), some (.inl (0)), some (.inl (0)), some (.inl (0)), some (.inl (0)), some (.inl (0)), some (.inl (0))]),
  .inl (1, [some (.inl (0)), some (.inl (0)), some (.inl (0)), some (.inr 52)]),
  .inr (.inl (12, false, [])),
  .inl (3, [some (.inr 32), some (.inr 47), some (.inr 54), some (.inr 55), some (.inl (0)), some (.inl (0)), some (.inl (-1))]),
  .inr (.inl (160, false, [])),
  .inr (.inl (3, false, [])),
  .inl (0, [some (.inr 57), some (.inl (0)), some (.inl (0)), some (.inl (0)), some (.inl (0))]),
  .inr (.inl (20, false, [])),
  .inl (1, [some (.inl (0)), some (.inl (0)), some (.inl (0)), none])]
def wW57 : List LN := [
  .inl (6, [some (.inr 1), some (.inr 2), some (.inr 17), some (.inr 32), some (.inr 47), some (.inr 50), some (.inr 53), some (.inr 56), none, none, none, none, none, some (.inl (0)), some (.inl (0))]),
  .inr (.inr (2, [none, none, none, none, none, none, none, none])),
  .inl (5, [some (.inr 3), some (.inr 4), some (.inl (0)), some (.inl (60)), some (.inl (20)), some (.inl (1000)), some (.inl (0)), some (.inl (0)), some (.inl (0)), some (.inl (1))]),
  .inr (.inr (3, [some 5, some 7, some 9, some 11, some 13, some 15])),
  .inr (.inl (10, false, [])),
  .inl (1, [some (.inl (0)), some (.inl (0)), some (.inl (0)), some (.inr 6)]),
  .inr (.inl (12, false, [])),
  .inl (1, [some (.inl (0)), some (.inl (0)), some (.inl (0)), some (.inr 8)]),
  .inr (.inl (12, false, [])),
  .inl (1, [some (.inl (0)), some (.inl (0)), some (.inl (0)), some (.inr 10)]),
  .inr (.inl (12, false, [])),
  .inl (1, [some (.inl (0)), some (.inl (0)), some (.inl (0)), some (.inr 12)]),
  .inr (.inl (12, false, [])),
  .inl (1, [some (.inl (0)), some (.inl (0)), some (.inl (0)), some (.inr 14)]),
  .inr (.inl (12, false, [])),
  .inl (1, [some (.inl (0)), some (.inl (0)), some (.inl (0)), some (.inr 16)]),
  .inr (.inl (12, false, [])),
  .inl (5, [some (.inr 18), some (.inr 19), some (.inl (0)), some (.inl (60)), some (.inl (20)), some (.inl (1000)), some (.inl (0)), some (.inl (0)), some (.inl (0)), some (.inl (1))]),
  .inr (.inr (3, [some 20, some 22, some 24, some 26, some 28, some 30])),
  .inr (.inl (10, false, [])),
  .inl (1, [some (.inl (0)), some (.inl (0)), some (.inl (0)), some (.inr 21)]),
  .inr (.inl (12, false, [])),
  .inl (1, [some (.inl (0)), some (.inl (0)), some (.inl (0)), some (.inr 23)]),
  .inr (.inl (12, false, [])),
  .inl (1, [some (.inl (0)), some (.inl (0)), some (.inl (0)), some (.inr 25)]),
  .inr (.inl (12, false, [])),
  .inl (1, [some (.inl (0)), some (.inl (0)), some (.inl (0)), some (.inr 27)]),
  .inr (.inl (12, false, [])),
  .inl (1, [some (.inl (0)), some (.inl (0)), some (.inl (0)), some (.inr 29)]),
  .inr (.inl (12, false, [])),
  .inl (1, [some (.inl (0)), some (.inl (0)), some (.inl (0)), some (.inr 31)]),
  .inr (.inl (12, false, [])),
  .inl (5, [some (.inr 33), some (.inr 34), some (.inl (0)), some (.inl (60)), some (.inl (20)), some (.inl (1000)), some (.inl (0)), some (.inl (0)), some (.inl (0)), some (.inl (1))]),
  .inr (.inr (3, [some 35, some 37, some 39, some 41, some 43, some 45])),
  .inr (.inl (10, false, [])),
  .inl (1, [some (.inl (0)), some (.inl (0)), some (.inl (0)), some (.inr 36)]),
  .inr (.inl (12, false, [])),
  .inl (1, [some (.inl (0)), some (.inl (0)), some (.inl (0)), some (.inr 38)]),
  .inr (.inl (12, false, [])),
  .inl (1, [some (.inl (0)), some (.inl (0)), some (.inl (0)), some (.inr 40)]),
  .inr (.inl (12, false, [])),
  .inl (1, [some (.inl (0)), some (.inl (0)), some (.inl (0)), some (.inr 42)]),
  .inr (.inl (12, false, [])),
  .inl (1, [some (.inl (0)), some (.inl (0)), some (.inl (0)), some (.inr 44)]),
  .inr (.inl (12, false, [])),
  .inl (1, [some (.inl (0)), some (.inl (0)), some (.inl (0)), some (.inr 46)]),
  .inr (.inl (12, false, [])),
  .inl (2, [some (.inr 48), some (.inl (0)), some (.inl (0)), some (.inl (0)), some (.inl (0)), some (.inl (0)), some (.inl (0))]),
  .inl (1, [some (.inl (0)), some (.inl (0)), some (.inl (0)), some (.inr 49)]),
  .inr (.inl (12, false, [])),
  .inl (2, [some (.inr 51), some (.inl (0)), some (.inl (0)), some (.inl (0)), some (.inl (0)), some (.inl (0)), some (.inl (0))]),
  .inl (1, [some (.inl (0)), some (.inl (0)), some (.inl (0)), some (.inr 52)]),
  .inr (.inl (12, false, [])),
  .inl (3, [some (.inr 32), some (.inr 47), some (.inr 54), some (.inr 55), some (.inl (0)), some (.inl (0)), some (.inl (-1))]),
  .inr (.inl (160, false, [])),
  .inr (.inl (3, false, [])),
  .inl (0, [some (.inr 57), some (.inl (0)), some (.inl (0)), some (.inl (0)), some (.inl (0))]),
  .inr (.inl (20, false, [])),
  .inl (1, [some (.inl (0)), some (.inl (0)), some (.inl (0)), some (.inr 59)]),
  .inr (.inl (12, false, []))]
set_option maxRecDepth 100000 in
theorem X1_init_at58 {E : EE} {B : Nat} : CN E B yX1_init cX1_init 1 1 [.ref (B + 58)] wW56 wW57 1 12 := by
  refine CN.of (own := RX1) (by decide +kernel) rfl rfl (Nat.le_of_ble_eq_true rfl) fun v V hX hi => ?_
  refine j_aload_n V dX1_init_0 rfl rfl ?_
  refine j_objInit V dX1_init_1 ml_X1_3 (by decide +kernel) ?_
  refine j_aload_n V dX1_init_4 rfl rfl ?_
  refine j_bipush (z := 12) V dX1_init_5 (by decide +kernel) ?_
  refine k_newI (N := 12) 59 12 (by decide +kernel) rfl V hX dX1_init_7 rfl (by decide +kernel) (by decide +kernel) (by decide +kernel) ?_
  refine j_put (k := 58) (fs := [some (.inl (0)), some (.inl (0)), some (.inl (0)), none]) (κ := 0) (some (.inr 59)) V hi dX1_init_9 fl_X1_9 (by decide +kernel) rfl rfl (aq (by decide +kernel)) (by decide +kernel) ?_
  refine k_world wW57 (wq (by decide +kernel)) ?_
  exact j_vret V dX1_init_12
def wW58 : List LN := [
  .inl (6, [some (.inr 1), some (.inr 2), some (.inr 17), some (.inr 32), some (.inr 47), some (.inr 50), some (.inr 53), some (.inr 56), some (.inr 58), some (.inr 60), some (.inr 61), some (.inr 62), some (.inr 63), some (.inl (0)), some (.inl (-1))]),
  .inr (.inr (2, [none, none, none, none, none, none, none, none])),
  .inl (5, [some (.inr 3), some (.inr 4), some (.inl (0)), some (.inl (60)), some (.inl (20)), some (.inl (1000)), some (.inl (0)), some (.inl (0)), some (.inl (0)), some (.inl (1))]),
  .inr (.inr (3, [some 5, some 7, some 9, some 11, some 13, some 15])),
  .inr (.inl (10, false, [])),
  .inl (1, [some (.inl (0)), some (.inl (0)), some (.inl (0)), some (.inr 6)]),
  .inr (.inl (12, false, [])),
  .inl (1, [some (.inl (0)), some (.inl (0)), some (.inl (0)), some (.inr 8)]),
  .inr (.inl (12, false, [])),
  .inl (1, [some (.inl (0)), some (.inl (0)), some (.inl (0)), some (.inr 10)]),
  .inr (.inl (12, false, [])),
  .inl (1, [some (.inl (0)), some (.inl (0)), some (.inl (0)), some (.inr 12)]),
  .inr (.inl (12, false, [])),
  .inl (1, [some (.inl (0)), some (.inl (0)), some (.inl (0)), some (.inr 14)]),
  .inr (.inl (12, false, [])),
  .inl (1, [some (.inl (0)), some (.inl (0)), some (.inl (0)), some (.inr 16)]),
  .inr (.inl (12, false, [])),
  .inl (5, [some (.inr 18), some (.inr 19), some (.inl (0)), some (.inl (60)), some (.inl (20)), some (.inl (1000)), some (.inl (0)), some (.inl (0)), some (.inl (0)), some (.inl (1))]),
  .inr (.inr (3, [some 20, some 22, some 24, some 26, some 28, some 30])),
  .inr (.inl (10, false, [])),
  .inl (1, [some (.inl (0)), some (.inl (0)), some (.inl (0)), some (.inr 21)]),
  .inr (.inl (12, false, [])),
  .inl (1, [some (.inl (0)), some (.inl (0)), some (.inl (0)), some (.inr 23)]),
  .inr (.inl (12, false, [])),
  .inl (1, [some (.inl (0)), some (.inl (0)), some (.inl (0)), some (.inr 25)]),
  .inr (.inl (12, false, [])),
  .inl (1, [some (.inl (0)), some (.inl (0)), some (.inl (0)), some (.inr 27)]),
  .inr (.inl (12, false, [])),
  .inl (1, [some (.inl (0)), some (.inl (0)), some (.inl (0)), some (.inr 29)]),
  .inr (.inl (12, false, [])),
  .inl (1, [some (.inl (0)), some (.inl (0)), some (.inl (0)), some (.inr 31)]),
  .inr (.inl (12, false, [])),
  .inl (5, [some (.inr 33), some (.inr 34), some (.inl (0)), some (.inl (60)), some (.inl (20)), some (.inl (1000)), some (.inl (0)), some (.inl (0)), some (.inl (0)), some (.inl (1))]),
  .inr (.inr (3, [some 35, some 37, some 39, some 41, some 43, some 45])),
  .inr (.inl (10, false, [])),
  .inl (1, [some (.inl (0)), some (.inl (0)), some (.inl (0)), some (.inr 36)]),
  .inr (.inl (12, false, [])),
  .inl (1, [some (.inl (0)), some (.inl (0)), some (.inl (0)), some (.inr 38)]),
  .inr (.inl (12, false, [])),
  .inl (1, [some (.inl (0)), some (.inl (0)), some (.inl (0)), some (.inr 40)]),
  .inr (.inl (12, false, [])),
  .inl (1, [some (.inl (0)), some (.inl (0)), some (.inl (0)), some (.inr 42)]),
  .inr (.inl (12, false, [])),
  .inl (1, [some (.inl (0)), some (.inl (0)), some (.inl (0)), some (.inr 44)]),
  .inr (.inl (12, false, [])),
  .inl (1, [some (.inl (0)), some (.inl (0)), some (.inl (0)), some (.inr 46)]),
  .inr (.inl (12, false, [])),
  .inl (2, [some (.inr 48), some (.inl (0)), some (.inl (0)), some (.inl (0)), some (.inl (0)), some (.inl (0)), some (.inl (0))]),
  .inl (1, [some (.inl (0)), some (.inl (0)), some (.inl (0)), some (.inr 49)]),
  .inr (.inl (12, false, [])),
  .inl (2, [some (.inr 51), some (.inl (0)), some (.inl (0)), some (.inl (0)), some (.inl (0)), some (.inl (0)), some (.inl (0))]),
  .inl (1, [some (.inl (0)), some (.inl (0)), some (.inl (0)), some (.inr 52)]),
  .inr (.inl (12, false, [])),
  .inl (3, [some (.inr 32), some (.inr 47), some (.inr 54), some (.inr 55), some (.inl (0)), some (.inl (0)), some (.inl (-1))]),
  .inr (.inl (160, false, [])),
  .inr (.inl (3, false, [])),
  .inl (0, [some (.inr 57), some (.inl (0)), some (.inl (0)), some (.inl (0)), some (.inl (0))]),
  .inr (.inl (20, false, [])),
  .inl (1, [some (.inl (0)), some (.inl (0)), some (.inl (0)), some (.inr 59)]),
  .inr (.inl (12, false, [])),
  .inr (.inl (8, false, [])),
  .inr (.inl (25, false, [])),
  .inr (.inl (5, false, [])),
  .inr (.inl (5, false, [])),
  .inl (4, [none, some (.inl (0)), some (.inl (0)), some (.inl (0))])]
def wW59 : List LN := [
  .inl (6, [some (.inr 1), some (.inr 2), some (.inr 17), some (.inr 32), some (.inr 47), some (.inr 50), some (.inr 53), some (.inr 56), some (.inr 58), some (.inr 60), some (.inr 61), some (.inr 62), some (.inr 63), some (.inl (0)), some (.inl (-1))]),
  .inr (.inr (2, [none, none, none, none, none, none, none, none])),
  .inl (5, [some (.inr 3), some (.inr 4), some (.inl (0)), some (.inl (60)), some (.inl (20)), some (.inl (1000)), some (.inl (0)), some (.inl (0)), some (.inl (0)), some (.inl (1))]),
  .inr (.inr (3, [some 5, some 7, some 9, some 11, some 13, some 15])),
  .inr (.inl (10, false, [])),
  .inl (1, [some (.inl (0)), some (.inl (0)), some (.inl (0)), some (.inr 6)]),
  .inr (.inl (12, false, [])),
  .inl (1, [some (.inl (0)), some (.inl (0)), some (.inl (0)), some (.inr 8)]),
  .inr (.inl (12, false, [])),
  .inl (1, [some (.inl (0)), some (.inl (0)), some (.inl (0)), some (.inr 10)]),
  .inr (.inl (12, false, [])),
  .inl (1, [some (.inl (0)), some (.inl (0)), some (.inl (0)), some (.inr 12)]),
  .inr (.inl (12, false, [])),
  .inl (1, [some (.inl (0)), some (.inl (0)), some (.inl (0)), some (.inr 14)]),
  .inr (.inl (12, false, [])),
  .inl (1, [some (.inl (0)), some (.inl (0)), some (.inl (0)), some (.inr 16)]),
  .inr (.inl (12, false, [])),
  .inl (5, [some (.inr 18), some (.inr 19), some (.inl (0)), some (.inl (60)), some (.inl (20)), some (.inl (1000)), some (.inl (0)), some (.inl (0)), some (.inl (0)), some (.inl (1))]),
  .inr (.inr (3, [some 20, some 22, some 24, some 26, some 28, some 30])),
  .inr (.inl (10, false, [])),
  .inl (1, [some (.inl (0)), some (.inl (0)), some (.inl (0)), some (.inr 21)]),
  .inr (.inl (12, false, [])),
  .inl (1, [some (.inl (0)), some (.inl (0)), some (.inl (0)), some (.inr 23)]),
  .inr (.inl (12, false, [])),
  .inl (1, [some (.inl (0)), some (.inl (0)), some (.inl (0)), some (.inr 25)]),
  .inr (.inl (12, false, [])),
  .inl (1, [some (.inl (0)), some (.inl (0)), some (.inl (0)), some (.inr 27)]),
  .inr (.inl (12, false, [])),
  .inl (1, [some (.inl (0)), some (.inl (0)), some (.inl (0)), some (.inr 29)]),
  .inr (.inl (12, false, [])),
  .inl (1, [some (.inl (0)), some (.inl (0)), some (.inl (0)), some (.inr 31)]),
  .inr (.inl (12, false, [])),
  .inl (5, [some (.inr 33), some (.inr 34), some (.inl (0)), some (.inl (60)), some (.inl (20)), some (.inl (1000)), some (.inl (0)), some (.inl (0)), some (.inl (0)), some (.inl (1))]),
  .inr (.inr (3, [some 35, some 37, some 39, some 41, some 43, some 45])),
  .inr (.inl (10, false, [])),
  .inl (1, [some (.inl (0)), some (.inl (0)), some (.inl (0)), some (.inr 36)]),
  .inr (.inl (12, false, [])),
  .inl (1, [some (.inl (0)), some (.inl (0)), some (.inl (0)), some (.inr 38)]),
  .inr (.inl (12, false, [])),
  .inl (1, [some (.inl (0)), some (.inl (0)), some (.inl (0)), some (.inr 40)]),
  .inr (.inl (12, false, [])),
  .inl (1, [some (.inl (0)), some (.inl (0)), some (.inl (0)), some (.inr 42)]),
  .inr (.inl (12, false, [])),
  .inl (1, [some (.inl (0)), some (.inl (0)), some (.inl (0)), some (.inr 44)]),
  .inr (.inl (12, false, [])),
  .inl (1, [some (.inl (0)), some (.inl (0)), some (.inl (0)), some (.inr 46)]),
  .inr (.inl (12, false, [])),
  .inl (2, [some (.inr 48), some (.inl (0)), some (.inl (0)), some (.inl (0)), some (.inl (0)), some (.inl (0)), some (.inl (0))]),
  .inl (1, [some (.inl (0)), some (.inl (0)), some (.inl (0)), some (.inr 49)]),
  .inr (.inl (12, false, [])),
  .inl (2, [some (.inr 51), some (.inl (0)), some (.inl (0)), some (.inl (0)), some (.inl (0)), some (.inl (0)), some (.inl (0))]),
  .inl (1, [some (.inl (0)), some (.inl (0)), some (.inl (0)), some (.inr 52)]),
  .inr (.inl (12, false, [])),
  .inl (3, [some (.inr 32), some (.inr 47), some (.inr 54), some (.inr 55), some (.inl (0)), some (.inl (0)), some (.inl (-1))]),
  .inr (.inl (160, false, [])),
  .inr (.inl (3, false, [])),
  .inl (0, [some (.inr 57), some (.inl (0)), some (.inl (0)), some (.inl (0)), some (.inl (0))]),
  .inr (.inl (20, false, [])),
  .inl (1, [some (.inl (0)), some (.inl (0)), some (.inl (0)), some (.inr 59)]),
  .inr (.inl (12, false, [])),
  .inr (.inl (8, false, [])),
  .inr (.inl (25, false, [])),
  .inr (.inl (5, false, [])),
  .inr (.inl (5, false, [])),
  .inl (4, [some (.inr 65), some (.inl (-1)), some (.inl (0)), some (.inl (-1))]),
  .inr (.inl (160, true, []))]
set_option maxRecDepth 100000 in
theorem X4_init_at64 {E : EE} {B : Nat} : CN E B yX4_init cX4_init 1 1 [.ref (B + 64)] wW58 wW59 1 160 := by
  refine CN.of (own := RX4) (by decide +kernel) rfl rfl (Nat.le_of_ble_eq_true rfl) fun v V hX hi => ?_
  refine j_aload_n V dX4_init_0 rfl rfl ?_
  refine j_objInit V dX4_init_1 ml_X4_3 (by decide +kernel) ?_
  refine j_aload_n V dX4_init_4 rfl rfl ?_
  refine j_sipush (z := 160) V dX4_init_5 (by decide +kernel) ?_
  refine k_newL (N := 160) 65 160 (by decide +kernel) rfl V hX dX4_init_8 rfl (by decide +kernel) (by decide +kernel) (by decide +kernel) ?_
  refine j_put (k := 64) (fs := [none, some (.inl (0)), some (.inl (0)), some (.inl (0))]) (κ := 0) (some (.inr 65)) V hi dX4_init_10 fl_X4_9 (by decide +kernel) rfl rfl (aq (by decide +kernel)) (by decide +kernel) ?_
  refine j_aload_n V dX4_init_13 rfl rfl ?_
  refine j_iconst (z := -1) V dX4_init_14 (by decide +kernel) ?_
  refine j_put (k := 64) (fs := [some (.inr 65), some (.inl (0)), some (.inl (0)), some (.inl (0))]) (κ := 1) (some (.inl (-1))) V hi dX4_init_15 fl_X4_15 (by decide +kernel) rfl rfl (aq (by decide +kernel)) (by decide +kernel) ?_
  refine j_aload_n V dX4_init_18 rfl rfl ?_
  refine j_iconst (z := -1) V dX4_init_19 (by decide +kernel) ?_
  refine j_put (k := 64) (fs := [some (.inr 65), some (.inl (-1)), some (.inl (0)), some (.inl (0))]) (κ := 1) (some (.inl (-1))) V hi dX4_init_20 fl_X4_19 (by decide +kernel) rfl rfl (aq (by decide +kernel)) (by decide +kernel) ?_
  refine k_world wW59 (wq (by decide +kernel)) ?_
  exact j_vret V dX4_init_23
def wW60 : List LN := [
  .inl (6, [some (.inr 1), some (.inr 2), some (.inr 17), some (.inr 32), some (.inr 47), some (.inr 50), some (.inr 53), some (.inr 56), some (.inr 58), some (.inr 60), some (.inr 61), some (.inr 62), some (.inr 63), some (.inl (0)), some (.inl (-1))]),
  .inr (.inr (2, [some 64, none, none, none, none, none, none, none])),
  .inl (5, [some (.inr 3), some (.inr 4), some (.inl (0)), some (.inl (60)), some (.inl (20)), some (.inl (1000)), some (.inl (0)), some (.inl (0)), some (.inl (0)), some (.inl (1))]),
  .inr (.inr (3, [some 5, some 7, some 9, some 11, some 13, some 15])),
  .inr (.inl (10, false, [])),
  .inl (1, [some (.inl (0)), some (.inl (0)), some (.inl (0)), some (.inr 6)]),
  .inr (.inl (12, false, [])),
  .inl (1, [some (.inl (0)), some (.inl (0)), some (.inl (0)), some (.inr 8)]),
  .inr (.inl (12, false, [])),
  .inl (1, [some (.inl (0)), some (.inl (0)), some (.inl (0)), some (.inr 10)]),
  .inr (.inl (12, false, [])),
  .inl (1, [some (.inl (0)), some (.inl (0)), some (.inl (0)), some (.inr 12)]),
  .inr (.inl (12, false, [])),
  .inl (1, [some (.inl (0)), some (.inl (0)), some (.inl (0)), some (.inr 14)]),
  .inr (.inl (12, false, [])),
  .inl (1, [some (.inl (0)), some (.inl (0)), some (.inl (0)), some (.inr 16)]),
  .inr (.inl (12, false, [])),
  .inl (5, [some (.inr 18), some (.inr 19), some (.inl (0)), some (.inl (60)), some (.inl (20)), some (.inl (1000)), some (.inl (0)), some (.inl (0)), some (.inl (0)), some (.inl (1))]),
  .inr (.inr (3, [some 20, some 22, some 24, some 26, some 28, some 30])),
  .inr (.inl (10, false, [])),
  .inl (1, [some (.inl (0)), some (.inl (0)), some (.inl (0)), some (.inr 21)]),
  .inr (.inl (12, false, [])),
  .inl (1, [some (.inl (0)), some (.inl (0)), some (.inl (0)), some (.inr 23)]),
  .inr (.inl (12, false, [])),
  .inl (1, [some (.inl (0)), some (.inl (0)), some (.inl (0)), some (.inr 25)]),
  .inr (.inl (12, false, [])),
  .inl (1, [some (.inl (0)), some (.inl (0)), some (.inl (0)), some (.inr 27)]),
  .inr (.inl (12, false, [])),
  .inl (1, [some (.inl (0)), some (.inl (0)), some (.inl (0)), some (.inr 29)]),
  .inr (.inl (12, false, [])),
  .inl (1, [some (.inl (0)), some (.inl (0)), some (.inl (0)), some (.inr 31)]),
  .inr (.inl (12, false, [])),
  .inl (5, [some (.inr 33), some (.inr 34), some (.inl (0)), some (.inl (60)), some (.inl (20)), some (.inl (1000)), some (.inl (0)), some (.inl (0)), some (.inl (0)), some (.inl (1))]),
  .inr (.inr (3, [some 35, some 37, some 39, some 41, some 43, some 45])),
  .inr (.inl (10, false, [])),
  .inl (1, [some (.inl (0)), some (.inl (0)), some (.inl (0)), some (.inr 36)]),
  .inr (.inl (12, false, [])),
  .inl (1, [some (.inl (0)), some (.inl (0)), some (.inl (0)), some (.inr 38)]),
  .inr (.inl (12, false, [])),
  .inl (1, [some (.inl (0)), some (.inl (0)), some (.inl (0)), some (.inr 40)]),
  .inr (.inl (12, false, [])),
  .inl (1, [some (.inl (0)), some (.inl (0)), some (.inl (0)), some (.inr 42)]),
  .inr (.inl (12, false, [])),
  .inl (1, [some (.inl (0)), some (.inl (0)), some (.inl (0)), some (.inr 44)]),
  .inr (.inl (12, false, [])),
  .inl (1, [some (.inl (0)), some (.inl (0)), some (.inl (0)), some (.inr 46)]),
  .inr (.inl (12, false, [])),
  .inl (2, [some (.inr 48), some (.inl (0)), some (.inl (0)), some (.inl (0)), some (.inl (0)), some (.inl (0)), some (.inl (0))]),
  .inl (1, [some (.inl (0)), some (.inl (0)), some (.inl (0)), some (.inr 49)]),
  .inr (.inl (12, false, [])),
  .inl (2, [some (.inr 51), some (.inl (0)), some (.inl (0)), some (.inl (0)), some (.inl (0)), some (.inl (0)), some (.inl (0))]),
  .inl (1, [some (.inl (0)), some (.inl (0)), some (.inl (0)), some (.inr 52)]),
  .inr (.inl (12, false, [])),
  .inl (3, [some (.inr 32), some (.inr 47), some (.inr 54), some (.inr 55), some (.inl (0)), some (.inl (0)), some (.inl (-1))]),
  .inr (.inl (160, false, [])),
  .inr (.inl (3, false, [])),
  .inl (0, [some (.inr 57), some (.inl (0)), some (.inl (0)), some (.inl (0)), some (.inl (0))]),
  .inr (.inl (20, false, [])),
  .inl (1, [some (.inl (0)), some (.inl (0)), some (.inl (0)), some (.inr 59)]),
  .inr (.inl (12, false, [])),
  .inr (.inl (8, false, [])),
  .inr (.inl (25, false, [])),
  .inr (.inl (5, false, [])),
  .inr (.inl (5, false, [])),
  .inl (4, [some (.inr 65), some (.inl (-1)), some (.inl (0)), some (.inl (-1))]),
  .inr (.inl (160, true, [])),
  .inl (4, [none, some (.inl (0)), some (.inl (0)), some (.inl (0))])]
def wW61 : List LN := [
  .inl (6, [some (.inr 1), some (.inr 2), some (.inr 17), some (.inr 32), some (.inr 47), some (.inr 50), some (.inr 53), some (.inr 56), some (.inr 58), some (.inr 60), some (.inr 61), some (.inr 62), some (.inr 63), some (.inl (0)), some (.inl (-1))]),
  .inr (.inr (2, [some 64, none, none, none, none, none, none, none])),
  .inl (5, [some (.inr 3), some (.inr 4), some (.inl (0)), some (.inl (60)), some (.inl (20)), some (.inl (1000)), some (.inl (0)), some (.inl (0)), some (.inl (0)), some (.inl (1))]),
  .inr (.inr (3, [some 5, some 7, some 9, some 11, some 13, some 15])),
  .inr (.inl (10, false, [])),
  .inl (1, [some (.inl (0)), some (.inl (0)), some (.inl (0)), some (.inr 6)]),
  .inr (.inl (12, false, [])),
  .inl (1, [some (.inl (0)), some (.inl (0)), some (.inl (0)), some (.inr 8)]),
  .inr (.inl (12, false, [])),
  .inl (1, [some (.inl (0)), some (.inl (0)), some (.inl (0)), some (.inr 10)]),
  .inr (.inl (12, false, [])),
  .inl (1, [some (.inl (0)), some (.inl (0)), some (.inl (0)), some (.inr 12)]),
  .inr (.inl (12, false, [])),
  .inl (1, [some (.inl (0)), some (.inl (0)), some (.inl (0)), some (.inr 14)]),
  .inr (.inl (12, false, [])),
  .inl (1, [some (.inl (0)), some (.inl (0)), some (.inl (0)), some (.inr 16)]),
  .inr (.inl (12, false, [])),
  .inl (5, [some (.inr 18), some (.inr 19), some (.inl (0)), some (.inl (60)), some (.inl (20)), some (.inl (1000)), some (.inl (0)), some (.inl (0)), some (.inl (0)), some (.inl (1))]),
  .inr (.inr (3, [some 20, some 22, some 24, some 26, some 28, some 30])),
  .inr (.inl (10, false, [])),
  .inl (1, [some (.inl (0)), some (.inl (0)), some (.inl (0)), some (.inr 21)]),
  .inr (.inl (12, false, [])),
  .inl (1, [some (.inl (0)), some (.inl (0)), some (.inl (0)), some (.inr 23)]),
  .inr (.inl (12, false, [])),
  .inl (1, [some (.inl (0)), some (.inl (0)), some (.inl (0)), some (.inr 25)]),
  .inr (.inl (12, false, [])),
  .inl (1, [some (.inl (0)), some (.inl (0)), some (.inl (0)), some (.inr 27)]),
  .inr (.inl (12, false, [])),
  .inl (1, [some (.inl (0)), some (.inl (0)), some (.inl (0)), some (.inr 29)]),
  .inr (.inl (12, false, [])),
  .inl (1, [some (.inl (0)), some (.inl (0)), some (.inl (0)), some (.inr 31)]),
  .inr (.inl (12, false, [])),
  .inl (5, [some (.inr 33), some (.inr 34), some (.inl (0)), some (.inl (60)), some (.inl (20)), some (.inl (1000)), some (.inl (0)), some (.inl (0)), some (.inl (0)), some (.inl (1))]),
  .inr (.inr (3, [some 35, some 37, some 39, some 41, some 43, some 45])),
  .inr (.inl (10, false, [])),
  .inl (1, [some (.inl (0)), some (.inl (0)), some (.inl (0)), some (.inr 36)]),
  .inr (.inl (12, false, [])),
  .inl (1, [some (.inl (0)), some (.inl (0)), some (.inl (0)), some (.inr 38)]),
  .inr (.inl (12, false, [])),
  .inl (1, [some (.inl (0)), some (.inl (0)), some (.inl (0)), some (.inr 40)]),
  .inr (.inl (12, false, [])),
  .inl (1, [some (.inl (0)), some (.inl (0)), some (.inl (0)), some (.inr 42)]),
  .inr (.inl (12, false, [])),
  .inl (1, [some (.inl (0)), some (.inl (0)), some (.inl (0)), some (.inr 44)]),
  .inr (.inl (12, false, [])),
  .inl (1, [some (.inl (0)), some (.inl (0)), some (.inl (0)), some (.inr 46)]),
  .inr (.inl (12, false, [])),
  .inl (2, [some (.inr 48), some (.inl (0)), some (.inl (0)), some (.inl (0)), some (.inl (0)), some (.inl (0)), some (.inl (0))]),
  .inl (1, [some (.inl (0)), some (.inl (0)), some (.inl (0)), some (.inr 49)]),
  .inr (.inl (12, false, [])),
  .inl (2, [some (.inr 51), some (.inl (0)), some (.inl (0)), some (.inl (0)), some (.inl (0)), some (.inl (0)), some (.inl (0))]),
  .inl (1, [some (.inl (0)), some (.inl (0)), some (.inl (0)), some (.inr 52)]),
  .inr (.inl (12, false, [])),
  .inl (3, [some (.inr 32), some (.inr 47), some (.inr 54), some (.inr 55), some (.inl (0)), some (.inl (0)), some (.inl (-1))]),
  .inr (.inl (160, false, [])),
  .inr (.inl (3, false, [])),
  .inl (0, [some (.inr 57), some (.inl (0)), some (.inl (0)), some (.inl (0)), some (.inl (0))]),
  .inr (.inl (20, false, [])),
  .inl (1, [some (.inl (0)), some (.inl (0)), some (.inl (0)), some (.inr 59)]),
  .inr (.inl (12, false, [])),
  .inr (.inl (8, false, [])),
  .inr (.inl (25, false, [])),
  .inr (.inl (5, false, [])),
  .inr (.inl (5, false, [])),
  .inl (4, [some (.inr 65), some (.inl (-1)), some (.inl (0)), some (.inl (-1))]),
  .inr (.inl (160, true, [])),
  .inl (4, [some (.inr 67), some (.inl (-1)), some (.inl (0)), some (.inl (-1))]),
  .inr (.inl (160, true, []))]
set_option maxRecDepth 100000 in
theorem X4_init_at66 {E : EE} {B : Nat} : CN E B yX4_init cX4_init 1 1 [.ref (B + 66)] wW60 wW61 1 160 := by
  refine CN.of (own := RX4) (by decide +kernel) rfl rfl (Nat.le_of_ble_eq_true rfl) fun v V hX hi => ?_
  refine j_aload_n V dX4_init_0 rfl rfl ?_
  refine j_objInit V dX4_init_1 ml_X4_3 (by decide +kernel) ?_
  refine j_aload_n V dX4_init_4 rfl rfl ?_
  refine j_sipush (z := 160) V dX4_init_5 (by decide +kernel) ?_
  refine k_newL (N := 160) 67 160 (by decide +kernel) rfl V hX dX4_init_8 rfl (by decide +kernel) (by decide +kernel) (by decide +kernel) ?_
  refine j_put (k := 66) (fs := [none, some (.inl (0)), some (.inl (0)), some (.inl (0))]) (κ := 0) (some (.inr 67)) V hi dX4_init_10 fl_X4_9 (by decide +kernel) rfl rfl (aq (by decide +kernel)) (by decide +kernel) ?_
  refine j_aload_n V dX4_init_13 rfl rfl ?_
  refine j_iconst (z := -1) V dX4_init_14 (by decide +kernel) ?_
  refine j_put (k := 66) (fs := [some (.inr 67), some (.inl (0)), some (.inl (0)), some (.inl (0))]) (κ := 1) (some (.inl (-1))) V hi dX4_init_15 fl_X4_15 (by decide +kernel) rfl rfl (aq (by decide +kernel)) (by decide +kernel) ?_
  refine j_aload_n V dX4_init_18 rfl rfl ?_
  refine j_iconst (z := -1) V dX4_init_19 (by decide +kernel) ?_
  refine j_put (k := 66) (fs := [some (.inr 67), some (.inl (-1)), some (.inl (0)), some (.inl (0))]) (κ := 1) (some (.inl (-1))) V hi dX4_init_20 fl_X4_19 (by decide +kernel) rfl rfl (aq (by decide +kernel)) (by decide +kernel) ?_
  refine k_world wW61 (wq (by decide +kernel)) ?_
  exact j_vret V dX4_init_23
def wW62 : List LN := [
  .inl (6, [some (.inr 1), some (.inr 2), some (.inr 17), some (.inr 32), some (.inr 47), some (.inr 50), some (.inr 53), some (.inr 56), some (.inr 58), some (.inr 60), some (.inr 61), some (.inr 62), some (.inr 63), some (.inl (0)), some (.inl (-1))]),
  .inr (.inr (2, [some 64, some 66, none, none, none, none, none, none])),
  .inl (5, [some (.inr 3), some (.inr 4), some (.inl (0)), some (.inl (60)), some (.inl (20)), some (.inl (1000)), some (.inl (0)), some (.inl (0)), some (.inl (0)), some (.inl (1))]),
  .inr (.inr (3, [some 5, some 7, some 9, some 11, some 13, some 15])),
  .inr (.inl (10, false, [])),
  .inl (1, [some (.inl (0)), some (.inl (0)), some (.inl (0)), some (.inr 6)]),
  .inr (.inl (12, false, [])),
  .inl (1, [some (.inl (0)), some (.inl (0)), some (.inl (0)), some (.inr 8)]),
  .inr (.inl (12, false, [])),
  .inl (1, [some (.inl (0)), some (.inl (0)), some (.inl (0)), some (.inr 10)]),
  .inr (.inl (12, false, [])),
  .inl (1, [some (.inl (0)), some (.inl (0)), some (.inl (0)), some (.inr 12)]),
  .inr (.inl (12, false, [])),
  .inl (1, [some (.inl (0)), some (.inl (0)), some (.inl (0)), some (.inr 14)]),
  .inr (.inl (12, false, [])),
  .inl (1, [some (.inl (0)), some (.inl (0)), some (.inl (0)), some (.inr 16)]),
  .inr (.inl (12, false, [])),
  .inl (5, [some (.inr 18), some (.inr 19), some (.inl (0)), some (.inl (60)), some (.inl (20)), some (.inl (1000)), some (.inl (0)), some (.inl (0)), some (.inl (0)), some (.inl (1))]),
  .inr (.inr (3, [some 20, some 22, some 24, some 26, some 28, some 30])),
  .inr (.inl (10, false, [])),
  .inl (1, [some (.inl (0)), some (.inl (0)), some (.inl (0)), some (.inr 21)]),
  .inr (.inl (12, false, [])),
  .inl (1, [some (.inl (0)), some (.inl (0)), some (.inl (0)), some (.inr 23)]),
  .inr (.inl (12, false, [])),
  .inl (1, [some (.inl (0)), some (.inl (0)), some (.inl (0)), some (.inr 25)]),
  .inr (.inl (12, false, [])),
  .inl (1, [some (.inl (0)), some (.inl (0)), some (.inl (0)), some (.inr 27)]),
  .inr (.inl (12, false, [])),
  .inl (1, [some (.inl (0)), some (.inl (0)), some (.inl (0)), some (.inr 29)]),
  .inr (.inl (12, false, [])),
  .inl (1, [some (.inl (0)), some (.inl (0)), some (.inl (0)), some (.inr 31)]),
  .inr (.inl (12, false, [])),
  .inl (5, [some (.inr 33), some (.inr 34), some (.inl (0)), some (.inl (60)), some (.inl (20)), some (.inl (1000)), some (.inl (0)), some (.inl (0)), some (.inl (0)), some (.inl (1))]),
  .inr (.inr (3, [some 35, some 37, some 39, some 41, some 43, some 45])),
  .inr (.inl (10, false, [])),
  .inl (1, [some (.inl (0)), some (.inl (0)), some (.inl (0)), some (.inr 36)]),
  .inr (.inl (12, false, [])),
  .inl (1, [some (.inl (0)), some (.inl (0)), some (.inl (0)), some (.inr 38)]),
  .inr (.inl (12, false, [])),
  .inl (1, [some (.inl (0)), some (.inl (0)), some (.inl (0)), some (.inr 40)]),
  .inr (.inl (12, false, [])),
  .inl (1, [some (.inl (0)), some (.inl (0)), some (.inl (0)), some (.inr 42)]),
  .inr (.inl (12, false, [])),
  .inl (1, [some (.inl (0)), some (.inl (0)), some (.inl (0)), some (.inr 44)]),
  .inr (.inl (12, false, [])),
  .inl (1, [some (.inl (0)), some (.inl (0)), some (.inl (0)), some (.inr 46)]),
  .inr (.inl (12, false, [])),
  .inl (2, [some (.inr 48), some (.inl (0)), some (.inl (0)), some (.inl (0)), some (.inl (0)), some (.inl (0)), some (.inl (0))]),
  .inl (1, [some (.inl (0)), some (.inl (0)), some (.inl (0)), some (.inr 49)]),
  .inr (.inl (12, false, [])),
  .inl (2, [some (.inr 51), some (.inl (0)), some (.inl (0)), some (.inl (0)), some (.inl (0)), some (.inl (0)), some (.inl (0))]),
  .inl (1, [some (.inl (0)), some (.inl (0)), some (.inl (0)), some (.inr 52)]),
  .inr (.inl (12, false, [])),
  .inl (3, [some (.inr 32), some (.inr 47), some (.inr 54), some (.inr 55), some (.inl (0)), some (.inl (0)), some (.inl (-1))]),
  .inr (.inl (160, false, [])),
  .inr (.inl (3, false, [])),
  .inl (0, [some (.inr 57), some (.inl (0)), some (.inl (0)), some (.inl (0)), some (.inl (0))]),
  .inr (.inl (20, false, [])),
  .inl (1, [some (.inl (0)), some (.inl (0)), some (.inl (0)), some (.inr 59)]),
  .inr (.inl (12, false, [])),
  .inr (.inl (8, false, [])),
  .inr (.inl (25, false, [])),
  .inr (.inl (5, false, [])),
  .inr (.inl (5, false, [])),
  .inl (4, [some (.inr 65), some (.inl (-1)), some (.inl (0)), some (.inl (-1))]),
  .inr (.inl (160, true, [])),
  .inl (4, [some (.inr 67), some (.inl (-1)), some (.inl (0)), some (.inl (-1))]),
  .inr (.inl (160, true, [])),
  .inl (4, [none, some (.inl (0)), some (.inl (0)), some (.inl (0))])]
def wW63 : List LN := [
  .inl (6, [some (.inr 1), some (.inr 2), some (.inr 17), some (.inr 32), some (.inr 47), some (.inr 50), some (.inr 53), some (.inr 56), some (.inr 58), some (.inr 60), some (.inr 61), some (.inr 62), some (.inr 63), some (.inl (0)), some (.inl (-1))]),
  .inr (.inr (2, [some 64, some 66, none, none, none, none, none, none])),
  .inl (5, [some (.inr 3), some (.inr 4), some (.inl (0)), some (.inl (60)), some (.inl (20)), some (.inl (1000)), some (.inl (0)), some (.inl (0)), some (.inl (0)), some (.inl (1))]),
  .inr (.inr (3, [some 5, some 7, some 9, some 11, some 13, some 15])),
  .inr (.inl (10, false, [])),
  .inl (1, [some (.inl (0)), some (.inl (0)), some (.inl (0)), some (.inr 6)]),
  .inr (.inl (12, false, [])),
  .inl (1, [some (.inl (0)), some (.inl (0)), some (.inl (0)), some (.inr 8)]),
  .inr (.inl (12, false, [])),
  .inl (1, [some (.inl (0)), some (.inl (0)), some (.inl (0)), some (.inr 10)]),
  .inr (.inl (12, false, [])),
  .inl (1, [some (.inl (0)), some (.inl (0)), some (.inl (0)), some (.inr 12)]),
  .inr (.inl (12, false, [])),
  .inl (1, [some (.inl (0)), some (.inl (0)), some (.inl (0)), some (.inr 14)]),
  .inr (.inl (12, false, [])),
  .inl (1, [some (.inl (0)), some (.inl (0)), some (.inl (0)), some (.inr 16)]),
  .inr (.inl (12, false, [])),
  .inl (5, [some (.inr 18), some (.inr 19), some (.inl (0)), some (.inl (60)), some (.inl (20)), some (.inl (1000)), some (.inl (0)), some (.inl (0)), some (.inl (0)), some (.inl (1))]),
  .inr (.inr (3, [some 20, some 22, some 24, some 26, some 28, some 30])),
  .inr (.inl (10, false, [])),
  .inl (1, [some (.inl (0)), some (.inl (0)), some (.inl (0)), some (.inr 21)]),
  .inr (.inl (12, false, [])),
  .inl (1, [some (.inl (0)), some (.inl (0)), some (.inl (0)), some (.inr 23)]),
  .inr (.inl (12, false, [])),
  .inl (1, [some (.inl (0)), some (.inl (0)), some (.inl (0)), some (.inr 25)]),
  .inr (.inl (12, false, [])),
  .inl (1, [some (.inl (0)), some (.inl (0)), some (.inl (0)), some (.inr 27)]),
  .inr (.inl (12, false, [])),
  .inl (1, [some (.inl (0)), some (.inl (0)), some (.inl (0)), some (.inr 29)]),
  .inr (.inl (12, false, [])),
  .inl (1, [some (.inl (0)), some (.inl (0)), some (.inl (0)), some (.inr 31)]),
  .inr (.inl (12, false, [])),
  .inl (5, [some (.inr 33), some (.inr 34), some (.inl (0)), some (.inl (60)), some (.inl (20)), some (.inl (1000)), some (.inl (0)), some (.inl (0)), some (.inl (0)), some (.inl (1))]),
  .inr (.inr (3, [some 35, some 37, some 39, some 41, some 43, some 45])),
  .inr (.inl (10, false, [])),
  .inl (1, [some (.inl (0)), some (.inl (0)), some (.inl (0)), some (.inr 36)]),
  .inr (.inl (12, false, [])),
  .inl (1, [some (.inl (0)), some (.inl (0)), some (.inl (0)), some (.inr 38)]),
  .inr (.inl (12, false, [])),
  .inl (1, [some (.inl (0)), some (.inl (0)), some (.inl (0)), some (.inr 40)]),
  .inr (.inl (12, false, [])),
  .inl (1, [some (.inl (0)), some (.inl (0)), some (.inl (0)), some (.inr 42)]),
  .inr (.inl (12, false, [])),
  .inl (1, [some (.inl (0)), some (.inl (0)), some (.inl (0)), some (.inr 44)]),
  .inr (.inl (12, false, [])),
  .inl (1, [some (.inl (0)), some (.inl (0)), some (.inl (0)), some (.inr 46)]),
  .inr (.inl (12, false, [])),
  .inl (2, [some (.inr 48), some (.inl (0)), some (.inl (0)), some (.inl (0)), some (.inl (0)), some (.inl (0)), some (.inl (0))]),
  .inl (1, [some (.inl (0)), some (.inl (0)), some (.inl (0)), some (.inr 49)]),
  .inr (.inl (12, false, [])),
  .inl (2, [some (.inr 51), some (.inl (0)), some (.inl (0)), some (.inl (0)), some (.inl (0)), some (.inl (0)), some (.inl (0))]),
  .inl (1, [some (.inl (0)), some (.inl (0)), some (.inl (0)), some (.inr 52)]),
  .inr (.inl (12, false, [])),
  .inl (3, [some (.inr 32), some (.inr 47), some (.inr 54), some (.inr 55), some (.inl (0)), some (.inl (0)), some (.inl (-1))]),
  .inr (.inl (160, false, [])),
  .inr (.inl (3, false, [])),
  .inl (0, [some (.inr 57), some (.inl (0)), some (.inl (0)), some (.inl (0)), some (.inl (0))]),
  .inr (.inl (20, false, [])),
  .inl (1, [some (.inl (0)), some (.inl (0)), some (.inl (0)), some (.inr 59)]),
  .inr (.inl (12, false, [])),
  .inr (.inl (8, false, [])),
  .inr (.inl (25, false, [])),
  .inr (.inl (5, false, [])),
  .inr (.inl (5, false, [])),
  .inl (4, [some (.inr 65), some (.inl (-1)), some (.inl (0)), some (.inl (-1))]),
  .inr (.inl (160, true, [])),
  .inl (4, [some (.inr 67), some (.inl (-1)), some (.inl (0)), some (.inl (-1))]),
  .inr (.inl (160, true, [])),
  .inl (4, [some (.inr 69), some (.inl (-1)), some (.inl (0)), some (.inl (-1))]),
  .inr (.inl (160, true, []))]
set_option maxRecDepth 100000 in
theorem X4_init_at68 {E : EE} {B : Nat} : CN E B yX4_init cX4_init 1 1 [.ref (B + 68)] wW62 wW63 1 160 := by
  refine CN.of (own := RX4) (by decide +kernel) rfl rfl (Nat.le_of_ble_eq_true rfl) fun v V hX hi => ?_
  refine j_aload_n V dX4_init_0 rfl rfl ?_
  refine j_objInit V dX4_init_1 ml_X4_3 (by decide +kernel) ?_
  refine j_aload_n V dX4_init_4 rfl rfl ?_
  refine j_sipush (z := 160) V dX4_init_5 (by decide +kernel) ?_
  refine k_newL (N := 160) 69 160 (by decide +kernel) rfl V hX dX4_init_8 rfl (by decide +kernel) (by decide +kernel) (by decide +kernel) ?_
  refine j_put (k := 68) (fs := [none, some (.inl (0)), some (.inl (0)), some (.inl (0))]) (κ := 0) (some (.inr 69)) V hi dX4_init_10 fl_X4_9 (by decide +kernel) rfl rfl (aq (by decide +kernel)) (by decide +kernel) ?_
  refine j_aload_n V dX4_init_13 rfl rfl ?_
  refine j_iconst (z := -1) V dX4_init_14 (by decide +kernel) ?_
  refine j_put (k := 68) (fs := [some (.inr 69), some (.inl (0)), some (.inl (0)), some (.inl (0))]) (κ := 1) (some (.inl (-1))) V hi dX4_init_15 fl_X4_15 (by decide +kernel) rfl rfl (aq (by decide +kernel)) (by decide +kernel) ?_
  refine j_aload_n V dX4_init_18 rfl rfl ?_
  refine j_iconst (z := -1) V dX4_init_19 (by decide +kernel) ?_
  refine j_put (k := 68) (fs := [some (.inr 69), some (.inl (-1)), some (.inl (0)), some (.inl (0))]) (κ := 1) (some (.inl (-1))) V hi dX4_init_20 fl_X4_19 (by decide +kernel) rfl rfl (aq (by decide +kernel)) (by decide +kernel) ?_
  refine k_world wW63 (wq (by decide +kernel)) ?_
  exact j_vret V dX4_init_23
def wW64 : List LN := [
  .inl (6, [some (.inr 1), some (.inr 2), some (.inr 17), some (.inr 32), some (.inr 47), some (.inr 50), some (.inr 53), some (.inr 56), some (.inr 58), some (.inr 60), some (.inr 61), some (.inr 62), some (.inr 63), some (.inl (0)), some (.inl (-1))]),
  .inr (.inr (2, [some 64, some 66, some 68, none, none, none, none, none])),
  .inl (5, [some (.inr 3), some (.inr 4), some (.inl (0)), some (.inl (60)), some (.inl (20)), some (.inl (1000)), some (.inl (0)), some (.inl (0)), some (.inl (0)), some (.inl (1))]),
  .inr (.inr (3, [some 5, some 7, some 9, some 11, some 13, some 15])),
  .inr (.inl (10, false, [])),
  .inl (1, [some (.inl (0)), some (.inl (0)), some (.inl (0)), some (.inr 6)]),
  .inr (.inl (12, false, [])),
  .inl (1, [some (.inl (0)), some (.inl (0)), some (.inl (0)), some (.inr 8)]),
  .inr (.inl (12, false, [])),
  .inl (1, [some (.inl (0)), some (.inl (0)), some (.inl (0)), some (.inr 10)]),
  .inr (.inl (12, false, [])),
  .inl (1, [some (.inl (0)), some (.inl (0)), some (.inl (0)), some (.inr 12)]),
  .inr (.inl (12, false, [])),
  .inl (1, [some (.inl (0)), some (.inl (0)), some (.inl (0)), some (.inr 14)]),
  .inr (.inl (12, false, [])),
  .inl (1, [some (.inl (0)), some (.inl (0)), some (.inl (0)), some (.inr 16)]),
  .inr (.inl (12, false, [])),
  .inl (5, [some (.inr 18), some (.inr 19), some (.inl (0)), some (.inl (60)), some (.inl (20)), some (.inl (1000)), some (.inl (0)), some (.inl (0)), some (.inl (0)), some (.inl (1))]),
  .inr (.inr (3, [some 20, some 22, some 24, some 26, some 28, some 30])),
  .inr (.inl (10, false, [])),
  .inl (1, [some (.inl (0)), some (.inl (0)), some (.inl (0)), some (.inr 21)]),
  .inr (.inl (12, false, [])),
  .inl (1, [some (.inl (0)), some (.inl (0)), some (.inl (0)), some (.inr 23)]),
  .inr (.inl (12, false, [])),
  .inl (1, [some (.inl (0)), some (.inl (0)), some (.inl (0)), some (.inr 25)]),
  .inr (.inl (12, false, [])),
  .inl (1, [some (.inl (0)), some (.inl (0)), some (.inl (0)), some (.inr 27)]),
  .inr (.inl (12, false, [])),
  .inl (1, [some (.inl (0)), some (.inl (0)), some (.inl (0)), some (.inr 29)]),
  .inr (.inl (12, false, [])),
  .inl (1, [some (.inl (0)), some (.inl (0)), some (.inl (0)), some (.inr 31)]),
  .inr (.inl (12, false, [])),
  .inl (5, [some (.inr 33), some (.inr 34), some (.inl (0)), some (.inl (60)), some (.inl (20)), some (.inl (1000)), some (.inl (0)), some (.inl (0)), some (.inl (0)), some (.inl (1))]),
  .inr (.inr (3, [some 35, some 37, some 39, some 41, some 43, some 45])),
  .inr (.inl (10, false, [])),
  .inl (1, [some (.inl (0)), some (.inl (0)), some (.inl (0)), some (.inr 36)]),
  .inr (.inl (12, false, [])),
  .inl (1, [some (.inl (0)), some (.inl (0)), some (.inl (0)), some (.inr 38)]),
  .inr (.inl (12, false, [])),
  .inl (1, [some (.inl (0)), some (.inl (0)), some (.inl (0)), some (.inr 40)]),
  .inr (.inl (12, false, [])),
  .inl (1, [some (.inl (0)), some (.inl (0)), some (.inl (0)), some (.inr 42)]),
  .inr (.inl (12, false, [])),
  .inl (1, [some (.inl (0)), some (.inl (0)), some (.inl (0)), some (.inr 44)]),
  .inr (.inl (12, false, [])),
  .inl (1, [some (.inl (0)), some (.inl (0)), some (.inl (0)), some (.inr 46)]),
  .inr (.inl (12, false, [])),
  .inl (2, [some (.inr 48), some (.inl (0)), some (.inl (0)), some (.inl (0)), some (.inl (0)), some (.inl (0)), some (.inl (0))]),
  .inl (1, [some (.inl (0)), some (.inl (0)), some (.inl (0)), some (.inr 49)]),
  .inr (.inl (12, false, [])),
  .inl (2, [some (.inr 51), some (.inl (0)), some (.inl (0)), some (.inl (0)), some (.inl (0)), some (.inl (0)), some (.inl (0))]),
  .inl (1, [some (.inl (0)), some (.inl (0)), some (.inl (0)), some (.inr 52)]),
  .inr (.inl (12, false, [])),
  .inl (3, [some (.inr 32), some (.inr 47), some (.inr 54), some (.inr 55), some (.inl (0)), some (.inl (0)), some (.inl (-1))]),
  .inr (.inl (160, false, [])),
  .inr (.inl (3, false, [])),
  .inl (0, [some (.inr 57), some (.inl (0)), some (.inl (0)), some (.inl (0)), some (.inl (0))]),
  .inr (.inl (20, false, [])),
  .inl (1, [some (.inl (0)), some (.inl (0)), some (.inl (0)), some (.inr 59)]),
  .inr (.inl (12, false, [])),
  .inr (.inl (8, false, [])),
  .inr (.inl (25, false, [])),
  .inr (.inl (5, false, [])),
  .inr (.inl (5, false, [])),
  .inl (4, [some (.inr 65), some (.inl (-1)), some (.inl (0)), some (.inl (-1))]),
  .inr (.inl (160, true, [])),
  .inl (4, [some (.inr 67), some (.inl (-1)), some (.inl (0)), some (.inl (-1))]),
  .inr (.inl (160, true, [])),
  .inl (4, [some (.inr 69), some (.inl (-1)), some (.inl (0)), some (.inl (-1))]),
  .inr (.inl (160, true, [])),
  .inl (4, [none, some (.inl (0)), some (.inl (0)), some (.inl (0))])]
def wW65 : List LN := [
  .inl (6, [some (.inr 1), some (.inr 2), some (.inr 17), some (.inr 32), some (.inr 47), some (.inr 50), some (.inr 53), some (.inr 56), some (.inr 58), some (.inr 60), some (.inr 61), some (.inr 62), some (.inr 63), some (.inl (0)), some (.inl (-1))]),
  .inr (.inr (2, [some 64, some 66, some 68, none, none, none, none, none])),
  .inl (5, [some (.inr 3), some (.inr 4), some (.inl (0)), some (.inl (60)), some (.inl (20)), some (.inl (1000)), some (.inl (0)), some (.inl (0)), some (.inl (0)), some (.inl (1))]),
  .inr (.inr (3, [some 5, some 7, some 9, some 11, some 13, some 15])),
  .inr (.inl (10, false, [])),
  .inl (1, [some (.inl (0)), some (.inl (0)), some (.inl (0)), some (.inr 6)]),
  .inr (.inl (12, false, [])),
  .inl (1, [some (.inl (0)), some (.inl (0)), some (.inl (0)), some (.inr 8)]),
  .inr (.inl (12, false, [])),
  .inl (1, [some (.inl (0)), some (.inl (0)), some (.inl (0)), some (.inr 10)]),
  .inr (.inl (12, false, [])),
  .inl (1, [some (.inl (0)), some (.inl (0)), some (.inl (0)), some (.inr 12)]),
  .inr (.inl (12, false, [])),
  .inl (1, [some (.inl (0)), some (.inl (0)), some (.inl (0)), some (.inr 14)]),
  .inr (.inl (12, false, [])),
  .inl (1, [some (.inl (0)), some (.inl (0)), some (.inl (0)), some (.inr 16)]),
  .inr (.inl (12, false, [])),
  .inl (5, [some (.inr 18), some (.inr 19), some (.inl (0)), some (.inl (60)), some (.inl (20)), some (.inl (1000)), some (.inl (0)), some (.inl (0)), some (.inl (0)), some (.inl (1))]),
  .inr (.inr (3, [some 20, some 22, some 24, some 26, some 28, some 30])),
  .inr (.inl (10, false, [])),
  .inl (1, [some (.inl (0)), some (.inl (0)), some (.inl (0)), some (.inr 21)]),
  .inr (.inl (12, false, [])),
  .inl (1, [some (.inl (0)), some (.inl (0)), some (.inl (0)), some (.inr 23)]),
  .inr (.inl (12, false, [])),
  .inl (1, [some (.inl (0)), some (.inl (0)), some (.inl (0)), some (.inr 25)]),
  .inr (.inl (12, false, [])),
  .inl (1, [some (.inl (0)), some (.inl (0)), some (.inl (0)), some (.inr 27)]),
  .inr (.inl (12, false, [])),
  .inl (1, [some (.inl (0)), some (.inl (0)), some (.inl (0)), some (.inr 29)]),
  .inr (.inl (12, false, [])),
  .inl (1, [some (.inl (0)), some (.inl (0)), some (.inl (0)), some (.inr 31)]),
  .inr (.inl (12, false, [])),
  .inl (5, [some (.inr 33), some (.inr 34), some (.inl (0)), some (.inl (60)), some (.inl (20)), some (.inl (1000)), some (.inl (0)), some (.inl (0)), some (.inl (0)), some (.inl (1))]),
  .inr (.inr (3, [some 35, some 37, some 39, some 41, some 43, some 45])),
  .inr (.inl (10, false, [])),
  .inl (1, [some (.inl (0)), some (.inl (0)), some (.inl (0)), some (.inr 36)]),
  .inr (.inl (12, false, [])),
  .inl (1, [some (.inl (0)), some (.inl (0)), some (.inl (0)), some (.inr 38)]),
  .inr (.inl (12, false, [])),
  .inl (1, [some (.inl (0)), some (.inl (0)), some (.inl (0)), some (.inr 40)]),
  .inr (.inl (12, false, [])),
  .inl (1, [some (.inl (0)), some (.inl (0)), some (.inl (0)), some (.inr 42)]),
  .inr (.inl (12, false, [])),
  .inl (1, [some (.inl (0)), some (.inl (0)), some (.inl (0)), some (.inr 44)]),
  .inr (.inl (12, false, [])),
  .inl (1, [some (.inl (0)), some (.inl (0)), some (.inl (0)), some (.inr 46)]),
  .inr (.inl (12, false, [])),
  .inl (2, [some (.inr 48), some (.inl (0)), some (.inl (0)), some (.inl (0)), some (.inl (0)), some (.inl (0)), some (.inl (0))]),
  .inl (1, [some (.inl (0)), some (.inl (0)), some (.inl (0)), some (.inr 49)]),
  .inr (.inl (12, false, [])),
  .inl (2, [some (.inr 51), some (.inl (0)), some (.inl (0)), some (.inl (0)), some (.inl (0)), some (.inl (0)), some (.inl (0))]),
  .inl (1, [some (.inl (0)), some (.inl (0)), some (.inl (0)), some (.inr 52)]),
  .inr (.inl (12, false, [])),
  .inl (3, [some (.inr 32), some (.inr 47), some (.inr 54), some (.inr 55), some (.inl (0)), some (.inl (0)), some (.inl (-1))]),
  .inr (.inl (160, false, [])),
  .inr (.inl (3, false, [])),
  .inl (0, [some (.inr 57), some (.inl (0)), some (.inl (0)), some (.inl (0)), some (.inl (0))]),
  .inr (.inl (20, false, [])),
  .inl (1, [some (.inl (0)), some (.inl (0)), some (.inl (0)), some (.inr 59)]),
  .inr (.inl (12, false, [])),
  .inr (.inl (8, false, [])),
  .inr (.inl (25, false, [])),
  .inr (.inl (5, false, [])),
  .inr (.inl (5, false, [])),
  .inl (4, [some (.inr 65), some (.inl (-1)), some (.inl (0)), some (.inl (-1))]),
  .inr (.inl (160, true, [])),
  .inl (4, [some (.inr 67), some (.inl (-1)), some (.inl (0)), some (.inl (-1))]),
  .inr (.inl (160, true, [])),
  .inl (4, [some (.inr 69), some (.inl (-1)), some (.inl (0)), some (.inl (-1))]),
  .inr (.inl (160, true, [])),
  .inl (4, [some (.inr 71), some (.inl (-1)), some (.inl (0)), some (.inl (-1))]),
  .inr (.inl (160, true, []))]
set_option maxRecDepth 100000 in
theorem X4_init_at70 {E : EE} {B : Nat} : CN E B yX4_init cX4_init 1 1 [.ref (B + 70)] wW64 wW65 1 160 := by
  refine CN.of (own := RX4) (by decide +kernel) rfl rfl (Nat.le_of_ble_eq_true rfl) fun v V hX hi => ?_
  refine j_aload_n V dX4_init_0 rfl rfl ?_
  refine j_objInit V dX4_init_1 ml_X4_3 (by decide +kernel) ?_
  refine j_aload_n V dX4_init_4 rfl rfl ?_
  refine j_sipush (z := 160) V dX4_init_5 (by decide +kernel) ?_
  refine k_newL (N := 160) 71 160 (by decide +kernel) rfl V hX dX4_init_8 rfl (by decide +kernel) (by decide +kernel) (by decide +kernel) ?_
  refine j_put (k := 70) (fs := [none, some (.inl (0)), some (.inl (0)), some (.inl (0))]) (κ := 0) (some (.inr 71)) V hi dX4_init_10 fl_X4_9 (by decide +kernel) rfl rfl (aq (by decide +kernel)) (by decide +kernel) ?_
  refine j_aload_n V dX4_init_13 rfl rfl ?_
  refine j_iconst (z := -1) V dX4_init_14 (by decide +kernel) ?_
  refine j_put (k := 70) (fs := [some (.inr 71), some (.inl (0)), some (.inl (0)), some (.inl (0))]) (κ := 1) (some (.inl (-1))) V hi dX4_init_15 fl_X4_15 (by decide +kernel) rfl rfl (aq (by decide +kernel)) (by decide +kernel) ?_
  refine j_aload_n V dX4_init_18 rfl rfl ?_
  refine j_iconst (z := -1) V dX4_init_19 (by decide +kernel) ?_
  refine j_put (k := 70) (fs := [some (.inr 71), some (.inl (-1)), some (.inl (0)), some (.inl (0))]) (κ := 1) (some (.inl (-1))) V hi dX4_init_20 fl_X4_19 (by decide +kernel) rfl rfl (aq (by decide +kernel)) (by decide +kernel) ?_
  refine k_world wW65 (wq (by decide +kernel)) ?_
  exact j_vret V dX4_init_23
def wW66 : List LN := [
  .inl (6, [some (.inr 1), some (.inr 2), some (.inr 17), some (.inr 32), some (.inr 47), some (.inr 50), some (.inr 53), some (.inr 56), some (.inr 58), some (.inr 60), some (.inr 61), some (.inr 62), some (.inr 63), some (.inl (0)), some (.inl (-1))]),
  .inr (.inr (2, [some 64, some 66, some 68, some 70, none, none, none, none])),
  .inl (5, [some (.inr 3), some (.inr 4), some (.inl (0)), some (.inl (60)), some (.inl (20)), some (.inl (1000)), some (.inl (0)), some (.inl (0)), some (.inl (0)), some (.inl (1))]),
  .inr (.inr (3, [some 5, some 7, some 9, some 11, some 13, some 15])),
  .inr (.inl (10, false, [])),
  .inl (1, [some (.inl (0)), some (.inl (0)), some (.inl (0)), some (.inr 6)]),
  .inr (.inl (12, false, [])),
  .inl (1, [some (.inl (0)), some (.inl (0)), some (.inl (0)), some (.inr 8)]),
  .inr (.inl (12, false, [])),
  .inl (1, [some (.inl (0)), some (.inl (0)), some (.inl (0)), some (.inr 10)]),
  .inr (.inl (12, false, [])),
  .inl (1, [some (.inl (0)), some (.inl (0)), some (.inl (0)), some (.inr 12)]),
  .inr (.inl (12, false, [])),
  .inl (1, [some (.inl (0)), some (.inl (0)), some (.inl (0)), some (.inr 14)]),
  .inr (.inl (12, false, [])),
  .inl (1, [some (.inl (0)), some (.inl (0)), some (.inl (0)), some (.inr 16)]),
  .inr (.inl (12, false, [])),
  .inl (5, [some (.inr 18), some (.inr 19), some (.inl (0)), some (.inl (60)), some (.inl (20)), some (.inl (1000)), some (.inl (0)), some (.inl (0)), some (.inl (0)), some (.inl (1))]),
  .inr (.inr (3, [some 20, some 22, some 24, some 26, some 28, some 30])),
  .inr (.inl (10, false, [])),
  .inl (1, [some (.inl (0)), some (.inl (0)), some (.inl (0)), some (.inr 21)]),
  .inr (.inl (12, false, [])),
  .inl (1, [some (.inl (0)), some (.inl (0)), some (.inl (0)), some (.inr 23)]),
  .inr (.inl (12, false, [])),
  .inl (1, [some (.inl (0)), some (.inl (0)), some (.inl (0)), some (.inr 25)]),
  .inr (.inl (12, false, [])),
  .inl (1, [some (.inl (0)), some (.inl (0)), some (.inl (0)), some (.inr 27)]),
  .inr (.inl (12, false, [])),
  .inl (1, [some (.inl (0)), some (.inl (0)), some (.inl (0)), some (.inr 29)]),
  .inr (.inl (12, false, [])),
  .inl (1, [some (.inl (0)), some (.inl (0)), some (.inl (0)), some (.inr 31)]),
  .inr (.inl (12, false, [])),
  .inl (5, [some (.inr 33), some (.inr 34), some (.inl (0)), some (.inl (60)), some (.inl (20)), some (.inl (1000)), some (.inl (0)), some (.inl (0)), some (.inl (0)), some (.inl (1))]),
  .inr (.inr (3, [some 35, some 37, some 39, some 41, some 43, some 45])),
  .inr (.inl (10, false, [])),
  .inl (1, [some (.inl (0)), some (.inl (0)), some (.inl (0)), some (.inr 36)]),
  .inr (.inl (12, false, [])),
  .inl (1, [some (.inl (0)), some (.inl (0)), some (.inl (0)), some (.inr 38)]),
  .inr (.inl (12, false, [])),
  .inl (1, [some (.inl (0)), some (.inl (0)), some (.inl (0)), some (.inr 40)]),
  .inr (.inl (12, false, [])),
  .inl (1, [some (.inl (0)), some (.inl (0)), some (.inl (0)), some (.inr 42)]),
  .inr (.inl (12, false, [])),
  .inl (1, [some (.inl (0)), some (.inl (0)), some (.inl (0)), some (.inr 44)]),
  .inr (.inl (12, false, [])),
  .inl (1, [some (.inl (0)), some (.inl (0)), some (.inl (0)), some (.inr 46)]),
  .inr (.inl (12, false, [])),
  .inl (2, [some (.inr 48), some (.inl (0)), some (.inl (0)), some (.inl (0)), some (.inl (0)), some (.inl (0)), some (.inl (0))]),
  .inl (1, [some (.inl (0)), some (.inl (0)), some (.inl (0)), some (.inr 49)]),
  .inr (.inl (12, false, [])),
  .inl (2, [some (.inr 51), some (.inl (0)), some (.inl (0)), some (.inl (0)), some (.inl (0)), some (.inl (0)), some (.inl (0))]),
  .inl (1, [some (.inl (0)), some (.inl (0)), some (.inl (0)), some (.inr 52)]),
  .inr (.inl (12, false, [])),
  .inl (3, [some (.inr 32), some (.inr 47), some (.inr 54), some (.inr 55), some (.inl (0)), some (.inl (0)), some (.inl (-1))]),
  .inr (.inl (160, false, [])),
  .inr (.inl (3, false, [])),
  .inl (0, [some (.inr 57), some (.inl (0)), some (.inl (0)), some (.inl (0)), some (.inl (0))]),
  .inr (.inl (20, false, [])),
  .inl (1, [some (.inl (0)), some (.inl (0)), some (.inl (0)), some (.inr 59)]),
  .inr (.inl (12, false, [])),
  .inr (.inl (8, false, [])),
  .inr (.inl (25, false, [])),
  .inr (.inl (5, false, [])),
  .inr (.inl (5, false, [])),
  .inl (4, [some (.inr 65), some (.inl (-1)), some (.inl (0)), some (.inl (-1))]),
  .inr (.inl (160, true, [])),
  .inl (4, [some (.inr 67), some (.inl (-1)), some (.inl (0)), some (.inl (-1))]),
  .inr (.inl (160, true, [])),
  .inl (4, [some (.inr 69), some (.inl (-1)), some (.inl (0)), some (.inl (-1))]),
  .inr (.inl (160, true, [])),
  .inl (4, [some (.inr 71), some (.inl (-1)), some (.inl (0)), some (.inl (-1))]),
  .inr (.inl (160, true, [])),
  .inl (4, [none, some (.inl (0)), some (.inl (0)), some (.inl (0))])]
def wW67 : List LN := [
  .inl (6, [some (.inr 1), some (.inr 2), some (.inr 17), some (.inr 32), some (.inr 47), some (.inr 50), some (.inr 53), some (.inr 56), some (.inr 58), some (.inr 60), some (.inr 61), some (.inr 62), some (.inr 63), some (.inl (0)), some (.inl (-1))]),
  .inr (.inr (2, [some 64, some 66, some 68, some 70, none, none, none, none])),
  .inl (5, [some (.inr 3), some (.inr 4), some (.inl (0)), some (.inl (60)), some (.inl (20)), some (.inl (1000)), some (.inl (0)), some (.inl (0)), some (.inl (0)), some (.inl (1))]),
  .inr (.inr (3, [some 5, some 7, some 9, some 11, some 13, some 15])),
  .inr (.inl (10, false, [])),
  .inl (1, [some (.inl (0)), some (.inl (0)), some (.inl (0)), some (.inr 6)]),
  .inr (.inl (12, false, [])),
  .inl (1, [some (.inl (0)), some (.inl (0)), some (.inl (0)), some (.inr 8)]),
  .inr (.inl (12, false, [])),
  .inl (1, [some (.inl (0)), some (.inl (0)), some (.inl (0)), some (.inr 10)]),
  .inr (.inl (12, false, [])),
  .inl (1, [some (.inl (0)), some (.inl (0)), some (.inl (0)), some (.inr 12)]),
  .inr (.inl (12, false, [])),
  .inl (1, [some (.inl (0)), some (.inl (0)), some (.inl (0)), some (.inr 14)]),
  .inr (.inl (12, false, [])),
  .inl (1, [some (.inl (0)), some (.inl (0)), some (.inl (0)), some (.inr 16)]),
  .inr (.inl (12, false, [])),
  .inl (5, [some (.inr 18), some (.inr 19), some (.inl (0)), some (.inl (60)), some (.inl (20)), some (.inl (1000)), some (.inl (0)), some (.inl (0)), some (.inl (0)), some (.inl (1))]),
  .inr (.inr (3, [some 20, some 22, some 24, some 26, some 28, some 30])),
  .inr (.inl (10, false, [])),
  .inl (1, [some (.inl (0)), some (.inl (0)), some (.inl (0)), some (.inr 21)]),
  .inr (.inl (12, false, [])),
  .inl (1, [some (.inl (0)), some (.inl (0)), some (.inl (0)), some (.inr 23)]),
  .inr (.inl (12, false, [])),
  .inl (1, [some (.inl (0)), some (.inl (0)), some (.inl (0)), some (.inr 25)]),
  .inr (.inl (12, false, [])),
  .inl (1, [some (.inl (0)), some (.inl (0)), some (.inl (0)), some (.inr 27)]),
  .inr (.inl (12, false, [])),
  .inl (1, [some (.inl (0)), some (.inl (0)), some (.inl (0)), some (.inr 29)]),
  .inr (.inl (12, false, [])),
  .inl (1, [some (.inl (0)), some (.inl (0)), some (.inl (0)), some (.inr 31)]),
  .inr (.inl (12, false, [])),
  .inl (5, [some (.inr 33), some (.inr 34), some (.inl (0)), some (.inl (60)), some (.inl (20)), some (.inl (1000)), some (.inl (0)), some (.inl (0)), some (.inl (0)), some (.inl (1))]),
  .inr (.inr (3, [some 35, some 37, some 39, some 41, some 43, some 45])),
  .inr (.inl (10, false, [])),
  .inl (1, [some (.inl (0)), some (.inl (0)), some (.inl (0)), some (.inr 36)]),
  .inr (.inl (12, false, [])),
  .inl (1, [some (.inl (0)), some (.inl (0)), some (.inl (0)), some (.inr 38)]),
  .inr (.inl (12, false, [])),
  .inl (1, [some (.inl (0)), some (.inl (0)), some (.inl (0)), some (.inr 40)]),
  .inr (.inl (12, false, [])),
  .inl (1, [some (.inl (0)), some (.inl (0)), some (.inl (0)), some (.inr 42)]),
  .inr (.inl (12, false, [])),
  .inl (1, [some (.inl (0)), some (.inl (0)), some (.inl (0)), some (.inr 44)]),
  .inr (.inl (12, false, [])),
  .inl (1, [some (.inl (0)), some (.inl (0)), some (.inl (0)), some (.inr 46)]),
  .inr (.inl (12, false, [])),
  .inl (2, [some (.inr 48), some (.inl (0)), some (.inl (0)), some (.inl (0)), some (.inl (0)), some (.inl (0)), some (.inl (0))]),
  .inl (1, [some (.inl (0)), some (.inl (0)), some (.inl (0)), some (.inr 49)]),
  .inr (.inl (12, false, [])),
  .inl (2, [some (.inr 51), some (.inl (0)), some (.inl (0)), some (.inl (0)), some (.inl (0)), some (.inl (0)), some (.inl (0))]),
  .inl (1, [some (.inl (0)), some (.inl (0)), some (.inl (0)), some (.inr 52)]),
  .inr (.inl (12, false, [])),
  .inl (3, [some (.inr 32), some (.inr 47), some (.inr 54), some (.inr 55), some (.inl (0)), some (.inl (0)), some (.inl (-1))]),
  .inr (.inl (160, false, [])),
  .inr (.inl (3, false, [])),
  .inl (0, [some (.inr 57), some (.inl (0)), some (.inl (0)), some (.inl (0)), some (.inl (0))]),
  .inr (.inl (20, false, [])),
  .inl (1, [some (.inl (0)), some (.inl (0)), some (.inl (0)), some (.inr 59)]),
  .inr (.inl (12, false, [])),
  .inr (.inl (8, false, [])),
  .inr (.inl (25, false, [])),
  .inr (.inl (5, false, [])),
  .inr (.inl (5, false, [])),
  .inl (4, [some (.inr 65), some (.inl (-1)), some (.inl (0)), some (.inl (-1))]),
  .inr (.inl (160, true, [])),
  .inl (4, [some (.inr 67), some (.inl (-1)), some (.inl (0)), some (.inl (-1))]),
  .inr (.inl (160, true, [])),
  .inl (4, [some (.inr 69), some (.inl (-1)), some (.inl (0)), some (.inl (-1))]),
  .inr (.inl (160, true, [])),
  .inl (4, [some (.inr 71), some (.inl (-1)), some (.inl (0)), some (.inl (-1))]),
  .inr (.inl (160, true, [])),
  .inl (4, [some (.inr 73), some (.inl (-1)), some (.inl (0)), some (.inl (-1))]),
  .inr (.inl (160, true, []))]
set_option maxRecDepth 100000 in
theorem X4_init_at72 {E : EE} {B : Nat} : CN E B yX4_init cX4_init 1 1 [.ref (B + 72)] wW66 wW67 1 160 := by
  refine CN.of (own := RX4) (by decide +kernel) rfl rfl (Nat.le_of_ble_eq_true rfl) fun v V hX hi => ?_
  refine j_aload_n V dX4_init_0 rfl rfl ?_
  refine j_objInit V dX4_init_1 ml_X4_3 (by decide +kernel) ?_
  refine j_aload_n V dX4_init_4 rfl rfl ?_
  refine j_sipush (z := 160) V dX4_init_5 (by decide +kernel) ?_
  refine k_newL (N := 160) 73 160 (by decide +kernel) rfl V hX dX4_init_8 rfl (by decide +kernel) (by decide +kernel) (by decide +kernel) ?_
  refine j_put (k := 72) (fs := [none, some (.inl (0)), some (.inl (0)), some (.inl (0))]) (κ := 0) (some (.inr 73)) V hi dX4_init_10 fl_X4_9 (by decide +kernel) rfl rfl (aq (by decide +kernel)) (by decide +kernel) ?_
  refine j_aload_n V dX4_init_13 rfl rfl ?_
  refine j_iconst (z := -1) V dX4_init_14 (by decide +kernel) ?_
  refine j_put (k := 72) (fs := [some (.inr 73), some (.inl (0)), some (.inl (0)), some (.inl (0))]) (κ := 1) (some (.inl (-1))) V hi dX4_init_15 fl_X4_15 (by decide +kernel) rfl rfl (aq (by decide +kernel)) (by decide +kernel) ?_
  refine j_aload_n V dX4_init_18 rfl rfl ?_
  refine j_iconst (z := -1) V dX4_init_19 (by decide +kernel) ?_
  refine j_put (k := 72) (fs := [some (.inr 73), some (.inl (-1)), some (.inl (0)), some (.inl (0))]) (κ := 1) (some (.inl (-1))) V hi dX4_init_20 fl_X4_19 (by decide +kernel) rfl rfl (aq (by decide +kernel)) (by decide +kernel) ?_
  refine k_world wW67 (wq (by decide +kernel)) ?_
  exact j_vret V dX4_init_23
def wW68 : List LN := [
  .inl (6, [some (.inr 1), some (.inr 2), some (.inr 17), some (.inr 32), some (.inr 47), some (.inr 50), some (.inr 53), some (.inr 56), some (.inr 58), some (.inr 60), some (.inr 61), some (.inr 62), some (.inr 63), some (.inl (0)), some (.inl (-1))]),
  .inr (.inr (2, [some 64, some 66, some 68, some 70, some 72, none, none, none])),
  .inl (5, [some (.inr 3), some (.inr 4), some (.inl (0)), some (.inl (60)), some (.inl (20)), some (.inl (1000)), some (.inl (0)), some (.inl (0)), some (.inl (0)), some (.inl (1))]),
  .inr (.inr (3, [some 5, some 7, some 9, some 11, some 13, some 15])),
  .inr (.inl (10, false, [])),
  .inl (1, [some (.inl (0)), some (.inl (0)), some (.inl (0)), some (.inr 6)]),
  .inr (.inl (12, false, [])),
  .inl (1, [some (.inl (0)), some (.inl (0)), some (.inl (0)), some (.inr 8)]),
  .inr (.inl (12, false, [])),
  .inl (1, [some (.inl (0)), some (.inl (0)), some (.inl (0)), some (.inr 10)]),
  .inr (.inl (12, false, [])),
  .inl (1, [some (.inl (0)), some (.inl (0)), some (.inl (0)), some (.inr 12)]),
  .inr (.inl (12, false, [])),
  .inl (1, [some (.inl (0)), some (.inl (0)), some (.inl (0)), some (.inr 14)]),
  .inr (.inl (12, false, [])),
  .inl (1, [some (.inl (0)), some (.inl (0)), some (.inl (0)), some (.inr 16)]),
  .inr (.inl (12, false, [])),
  .inl (5, [some (.inr 18), some (.inr 19), some (.inl (0)), some (.inl (60)), some (.inl (20)), some (.inl (1000)), some (.inl (0)), some (.inl (0)), some (.inl (0)), some (.inl (1))]),
  .inr (.inr (3, [some 20, some 22, some 24, some 26, some 28, some 30])),
  .inr (.inl (10, false, [])),
  .inl (1, [some (.inl (0)), some (.inl (0)), some (.inl (0)), some (.inr 21)]),
  .inr (.inl (12, false, [])),
  .inl (1, [some (.inl (0)), some (.inl (0)), some (.inl (0)), some (.inr 23)]),
  .inr (.inl (12, false, [])),
  .inl (1, [some (.inl (0)), some (.inl (0)), some (.inl (0)), some (.inr 25)]),
  .inr (.inl (12, false, [])),
  .inl (1, [some (.inl (0)), some (.inl (0)), some (.inl (0)), some (.inr 27)]),
  .inr (.inl (12, false, [])),
  .inl (1, [some (.inl (0)), some (.inl (0)), some (.inl (0)), some (.inr 29)]),
  .inr (.inl (12, false, [])),
  .inl (1, [some (.inl (0)), some (.inl (0)), some (.inl (0)), some (.inr 31)]),
  .inr (.inl (12, false, [])),
  .inl (5, [some (.inr 33), some (.inr 34), some (.inl (0)), some (.inl (60)), some (.inl (20)), some (.inl (1000)), some (.inl (0)), some (.inl (0)), some (.inl (0)), some (.inl (1))]),
  .inr (.inr (3, [some 35, some 37, some 39, some 41, some 43, some 45])),
  .inr (.inl (10, false, [])),
  .inl (1, [some (.inl (0)), some (.inl (0)), some (.inl (0)), some (.inr 36)]),
  .inr (.inl (12, false, [])),
  .inl (1, [some (.inl (0)), some (.inl (0)), some (.inl (0)), some (.inr 38)]),
  .inr (.inl (12, false, [])),
  .inl (1, [some (.inl (0)), some (.inl (0)), some (.inl (0)), some (.inr 40)]),
  .inr (.inl (12, false, [])),
  .inl (1, [some (.inl (0)), some (.inl (0)), some (.inl (0)), some (.inr 42)]),
  .inr (.inl (12, false, [])),
  .inl (1, [some (.inl (0)), some (.inl (0)), some (.inl (0)), some (.inr 44)]),
  .inr (.inl (12, false, [])),
  .inl (1, [some (.inl (0)), some (.inl (0)), some (.inl (0)), some (.inr 46)]),
  .inr (.inl (12, false, [])),
  .inl (2, [some (.inr 48), some (.inl (0)), some (.inl (0)), some (.inl (0)), some (.inl (0)), some (.inl (0)), some (.inl (0))]),
  .inl (1, [some (.inl (0)), some (.inl (0)), some (.inl (0)), some (.inr 49)]),
  .inr (.inl (12, false, [])),
  .inl (2, [some (.inr 51), some (.inl (0)), some (.inl (0)), some (.inl (0)), some (.inl (0)), some (.inl (0)), some (.inl (0))]),
  .inl (1, [some (.inl (0)), some (.inl (0)), some (.inl (0)), some (.inr 52)]),
  .inr (.inl (12, false, [])),
  .inl (3, [some (.inr 32), some (.inr 47), some (.inr 54), some (.inr 55), some (.inl (0)), some (.inl (0)), some (.inl (-1))]),
  .inr (.inl (160, false, [])),
  .inr (.inl (3, false, [])),
  .inl (0, [some (.inr 57), some (.inl (0)), some (.inl (0)), some (.inl (0)), some (.inl (0))]),
  .inr (.inl (20, false, [])),
  .inl (1, [some (.inl (0)), some (.inl (0)), some (.inl (0)), some (.inr 59)]),
  .inr (.inl (12, false, [])),
  .inr (.inl (8, false, [])),
  .inr (.inl (25, false, [])),
  .inr (.inl (5, false, [])),
  .inr (.inl (5, false, [])),
  .inl (4, [some (.inr 65), some (.inl (-1)), some (.inl (0)), some (.inl (-1))]),
  .inr (.inl (160, true, [])),
  .inl (4, [some (.inr 67), some (.inl (-1)), some (.inl (0)), some (.inl (-1))]),
  .inr (.inl (160, true, [])),
  .inl (4, [some (.inr 69), some (.inl (-1)), some (.inl (0)), some (.inl (-1))]),
  .inr (.inl (160, true, [])),
  .inl (4, [some (.inr 71), some (.inl (-1)), some (.inl (0)), some (.inl (-1))]),
  .inr (.inl (160, true, [])),
  .inl (4, [some (.inr 73), some (.inl (-1)), some (.inl (0)), some (.inl (-1))]),
  .inr (.inl (160, true, [])),
  .inl (4, [none, some (.inl (0)), some (.inl (0)), some (.inl (0))])]
def wW69 : List LN := [
  .inl (6, [some (.inr 1), some (.inr 2), some (.inr 17), some (.inr 32), some (.inr 47), some (.inr 50), some (.inr 53), some (.inr 56), some (.inr 58), some (.inr 60), some (.inr 61), some (.inr 62), some (.inr 63), some (.inl (0)), some (.inl (-1))]),
  .inr (.inr (2, [some 64, some 66, some 68, some 70, some 72, none, none, none])),
  .inl (5, [some (.inr 3), some (.inr 4), some (.inl (0)), some (.inl (60)), some (.inl (20)), some (.inl (1000)), some (.inl (0)), some (.inl (0)), some (.inl (0)), some (.inl (1))]),
  .inr (.inr (3, [some 5, some 7, some 9, some 11, some 13, some 15])),
  .inr (.inl (10, false, [])),
  .inl (1, [some (.inl (0)), some (.inl (0)), some (.inl (0)), some (.inr 6)]),
  .inr (.inl (12, false, [])),
  .inl (1, [some (.inl (0)), some (.inl (0)), some (.inl (0)), some (.inr 8)]),
  .inr (.inl (12, false, [])),
  .inl (1, [some (.inl (0)), some (.inl (0)), some (.inl (0)), some (.inr 10)]),
  .inr (.inl (12, false, [])),
  .inl (1, [some (.inl (0)), some (.inl (0)), some (.inl (0)), some (.inr 12)]),
  .inr (.inl (12, false, [])),
  .inl (1, [some (.inl (0)), some (.inl (0)), some (.inl (0)), some (.inr 14)]),
  .inr (.inl (12, false, [])),
  .inl (1, [some (.inl (0)), some (.inl (0)), some (.inl (0)), some (.inr 16)]),
  .inr (.inl (12, false, [])),
  .inl (5, [some (.inr 18), some (.inr 19), some (.inl (0)), some (.inl (60)), some (.inl (20)), some (.inl (1000)), some (.inl (0)), some (.inl (0)), some (.inl (0)), some (.inl (1))]),
  .inr (.inr (3, [some 20, some 22, some 24, some 26, some 28, some 30])),
  .inr (.inl (10, false, [])),
  .inl (1, [some (.inl (0)), some (.inl (0)), some (.inl (0)), some (.inr 21)]),
  .inr (.inl (12, false, [])),
  .inl (1, [some (.inl (0)), some (.inl (0)), some (.inl (0)), some (.inr 23)]),
  .inr (.inl (12, false, [])),
  .inl (1, [some (.inl (0)), some (.inl (0)), some (.inl (0)), some (.inr 25)]),
  .inr (.inl (12, false, [])),
  .inl (1, [some (.inl (0)), some (.inl (0)), some (.inl (0)), some (.inr 27)]),
  .inr (.inl (12, false, [])),
  .inl (1, [some (.inl (0)), some (.inl (0)), some (.inl (0)), some (.inr 29)]),
  .inr (.inl (12, false, [])),
  .inl (1, [some (.inl (0)), some (.inl (0)), some (.inl (0)), some (.inr 31)]),
  .inr (.inl (12, false, [])),
  .inl (5, [some (.inr 33), some (.inr 34), some (.inl (0)), some (.inl (60)), some (.inl (20)), some (.inl (1000)), some (.inl (0)), some (.inl (0)), some (.inl (0)), some (.inl (1))]),
  .inr (.inr (3, [some 35, some 37, some 39, some 41, some 43, some 45])),
  .inr (.inl (10, false, [])),
  .inl (1, [some (.inl (0)), some (.inl (0)), some (.inl (0)), some (.inr 36)]),
  .inr (.inl (12, false, [])),
  .inl (1, [some (.inl (0)), some (.inl (0)), some (.inl (0)), some (.inr 38)]),
  .inr (.inl (12, false, [])),
  .inl (1, [some (.inl (0)), some (.inl (0)), some (.inl (0)), some (.inr 40)]),
  .inr (.inl (12, false, [])),
  .inl (1, [some (.inl (0)), some (.inl (0)), some (.inl (0)), some (.inr 42)]),
  .inr (.inl (12, false, [])),
  .inl (1, [some (.inl (0)), some (.inl (0)), some (.inl (0)), some (.inr 44)]),
  .inr (.inl (12, false, [])),
  .inl (1, [some (.inl (0)), some (.inl (0)), some (.inl (0)), some (.inr 46)]),
  .inr (.inl (12, false, [])),
  .inl (2, [some (.inr 48), some (.inl (0)), some (.inl (0)), some (.inl (0)), some (.inl (0)), some (.inl (0)), some (.inl (0))]),
  .inl (1, [some (.inl (0)), some (.inl (0)), some (.inl (0)), some (.inr 49)]),
  .inr (.inl (12, false, [])),
  .inl (2, [some (.inr 51), some (.inl (0)), some (.inl (0)), some (.inl (0)), some (.inl (0)), some (.inl (0)), some (.inl (0))]),
  .inl (1, [some (.inl (0)), some (.inl (0)), some (.inl (0)), some (.inr 52)]),
  .inr (.inl (12, false, [])),
  .inl (3, [some (.inr 32), some (.inr 47), some (.inr 54), some (.inr 55), some (.inl (0)), some (.inl (0)), some (.inl (-1))]),
  .inr (.inl (160, false, [])),
  .inr (.inl (3, false, [])),
  .inl (0, [some (.inr 57), some (.inl (0)), some (.inl (0)), some (.inl (0)), some (.inl (0))]),
  .inr (.inl (20, false, [])),
  .inl (1, [some (.inl (0)), some (.inl (0)), some (.inl (0)), some (.inr 59)]),
  .inr (.inl (12, false, [])),
  .inr (.inl (8, false, [])),
  .inr (.inl (25, false, [])),
  .inr (.inl (5, false, [])),
  .inr (.inl (5, false, [])),
  .inl (4, [some (.inr 65), some (.inl (-1)), some (.inl (0)), some (.inl (-1))]),
  .inr (.inl (160, true, [])),
  .inl (4, [some (.inr 67), some (.inl (-1)), some (.inl (0)), some (.inl (-1))]),
  .inr (.inl (160, true, [])),
  .inl (4, [some (.inr 69), some (.inl (-1)), some (.inl (0)), some (.inl (-1))]),
  .inr (.inl (160, true, [])),
  .inl (4, [some (.inr 71), some (.inl (-1)), some (.inl (0)), some (.inl (-1))]),
  .inr (.inl (160, true, [])),
  .inl (4, [some (.inr 73), some (.inl (-1)), some (.inl (0)), some (.inl (-1))]),
  .inr (.inl (160, true, [])),
  .inl (4, [some (.inr 75), some (.inl (-1)), some (.inl (0)), some (.inl (-1))]),
  .inr (.inl (160, true, []))]
set_option maxRecDepth 100000 in
theorem X4_init_at74 {E : EE} {B : Nat} : CN E B yX4_init cX4_init 1 1 [.ref (B + 74)] wW68 wW69 1 160 := by
  refine CN.of (own := RX4) (by decide +kernel) rfl rfl (Nat.le_of_ble_eq_true rfl) fun v V hX hi => ?_
  refine j_aload_n V dX4_init_0 rfl rfl ?_
  refine j_objInit V dX4_init_1 ml_X4_3 (by decide +kernel) ?_
  refine j_aload_n V dX4_init_4 rfl rfl ?_
  refine j_sipush (z := 160) V dX4_init_5 (by decide +kernel) ?_
  refine k_newL (N := 160) 75 160 (by decide +kernel) rfl V hX dX4_init_8 rfl (by decide +kernel) (by decide +kernel) (by decide +kernel) ?_
  refine j_put (k := 74) (fs := [none, some (.inl (0)), some (.inl (0)), some (.inl (0))]) (κ := 0) (some (.inr 75)) V hi dX4_init_10 fl_X4_9 (by decide +kernel) rfl rfl (aq (by decide +kernel)) (by decide +kernel) ?_
  refine j_aload_n V dX4_init_13 rfl rfl ?_
  refine j_iconst (z := -1) V dX4_init_14 (by decide +kernel) ?_
  refine j_put (k := 74) (fs := [some (.inr 75), some (.inl (0)), some (.inl (0)), some (.inl (0))]) (κ := 1) (some (.inl (-1))) V hi dX4_init_15 fl_X4_15 (by decide +kernel) rfl rfl (aq (by decide +kernel)) (by decide +kernel) ?_
  refine j_aload_n V dX4_init_18 rfl rfl ?_
  refine j_iconst (z := -1) V dX4_init_19 (by decide +kernel) ?_
  refine j_put (k := 74) (fs := [some (.inr 75), some (.inl (-1)), some (.inl (0)), some (.inl (0))]) (κ := 1) (some (.inl (-1))) V hi dX4_init_20 fl_X4_19 (by decide +kernel) rfl rfl (aq (by decide +kernel)) (by decide +kernel) ?_
  refine k_world wW69 (wq (by decide +kernel)) ?_
  exact j_vret V dX4_init_23
def wW70 : List LN := [
  .inl (6, [some (.inr 1), some (.inr 2), some (.inr 17), some (.inr 32), some (.inr 47), some (.inr 50), some (.inr 53), some (.inr 56), some (.inr 58), some (.inr 60), some (.inr 61), some (.inr 62), some (.inr 63), some (.inl (0)), some (.inl (-1))]),
  .inr (.inr (2, [some 64, some 66, some 68, some 70, some 72, some 74, none, none])),
  .inl (5, [some (.inr 3), some (.inr 4), some (.inl (0)), some (.inl (60)), some (.inl (20)), some (.inl (1000)), some (.inl (0)), some (.inl (0)), some (.inl (0)), some (.inl (1))]),
  .inr (.inr (3, [some 5, some 7, some 9, some 11, some 13, some 15])),
  .inr (.inl (10, false, [])),
  .inl (1, [some (.inl (0)), some (.inl (0)), some (.inl (0)), some (.inr 6)]),
  .inr (.inl (12, false, [])),
  .inl (1, [some (.inl (0)), some (.inl (0)), some (.inl (0)), some (.inr 8)]),
  .inr (.inl (12, false, [])),
  .inl (1, [some (.inl (0)), some (.inl (0)), some (.inl (0)), some (.inr 10)]),
  .inr (.inl (12, false, [])),
  .inl (1, [some (.inl (0)), some (.inl (0)), some (.inl (0)), some (.inr 12)]),
  .inr (.inl (12, false, [])),
  .inl (1, [some (.inl (0)), some (.inl (0)), some (.inl (0)), some (.inr 14)]),
  .inr (.inl (12, false, [])),
  .inl (1, [some (.inl (0)), some (.inl (0)), some (.inl (0)), some (.inr 16)]),
  .inr (.inl (12, false, [])),
  .inl (5, [some (.inr 18), some (.inr 19), some (.inl (0)), some (.inl (60)), some (.inl (20)), some (.inl (1000)), some (.inl (0)), some (.inl (0)), some (.inl (0)), some (.inl (1))]),
  .inr (.inr (3, [some 20, some 22, some 24, some 26, some 28, some 30])),
  .inr (.inl (10, false, [])),
  .inl (1, [some (.inl (0)), some (.inl (0)), some (.inl (0)), some (.inr 21)]),
  .inr (.inl (12, false, [])),
  .inl (1, [some (.inl (0)), some (.inl (0)), some (.inl (0)), some (.inr 23)]),
  .inr (.inl (12, false, [])),
  .inl (1, [some (.inl (0)), some (.inl (0)), some (.inl (0)), some (.inr 25)]),
  .inr (.inl (12, false, [])),
  .inl (1, [some (.inl (0)), some (.inl (0)), some (.inl (0)), some (.inr 27)]),
  .inr (.inl (12, false, [])),
  .inl (1, [some (.inl (0)), some (.inl (0)), some (.inl (0)), some (.inr 29)]),
  .inr (.inl (12, false, [])),
  .inl (1, [some (.inl (0)), some (.inl (0)), some (.inl (0)), some (.inr 31)]),
  .inr (.inl (12, false, [])),
  .inl (5, [some (.inr 33), some (.inr 34), some (.inl (0)), some (.inl (60)), some (.inl (20)), some (.inl (1000)), some (.inl (0)), some (.inl (0)), some (.inl (0)), some (.inl (1))]),
  .inr (.inr (3, [some 35, some 37, some 39, some 41, some 43, some 45])),
  .inr (.inl (10, false, [])),
  .inl (1, [some (.inl (0)), some (.inl (0)), some (.inl (0)), some (.inr 36)]),
  .inr (.inl (12, false, [])),
  .inl (1, [some (.inl (0)), some (.inl (0)), some (.inl (0)), some (.inr 38)]),
  .inr (.inl (12, false, [])),
  .inl (1, [some (.inl (0)), some (.inl (0)), some (.inl (0)), some (.inr 40)]),
  .inr (.inl (12, false, [])),
  .inl (1, [some (.inl (0)), some (.inl (0)), some (.inl (0)), some (.inr 42)]),
  .inr (.inl (12, false, [])),
  .inl (1, [some (.inl (0)), some (.inl (0)), some (.inl (0)), some (.inr 44)]),
  .inr (.inl (12, false, [])),
  .inl (1, [some (.inl (0)), some (.inl (0)), some (.inl (0)), some (.inr 46)]),
  .inr (.inl (12, false, [])),
  .inl (2, [some (.inr 48), some (.inl (0)), some (.inl (0)), some (.inl (0)), some (.inl (0)), some (.inl (0)), some (.inl (0))]),
  .inl (1, [some (.inl (0)), some (.inl (0)), some (.inl (0)), some (.inr 49)]),
  .inr (.inl (12, false, [])),
  .inl (2, [some (.inr 51), some (.inl (0)), some (.inl (0)), some (.inl (0)), some (.inl (0)), some (.inl (0)), some (.inl (0))]),
  .inl (1, [some (.inl (0)), some (.inl (0)), some (.inl (0)), some (.inr 52)]),
  .inr (.inl (12, false, [])),
  .inl (3, [some (.inr 32), some (.inr 47), some (.inr 54), some (.inr 55), some (.inl (0)), some (.inl (0)), some (.inl (-1))]),
  .inr (.inl (160, false, [])),
  .inr (.inl (3, false, [])),
  .inl (0, [some (.inr 57), some (.inl (0)), some (.inl (0)), some (.inl (0)), some (.inl (0))]),
  .inr (.inl (20, false, [])),
  .inl (1, [some (.inl (0)), some (.inl (0)), some (.inl (0)), some (.inr 59)]),
  .inr (.inl (12, false, [])),
  .inr (.inl (8, false, [])),
  .inr (.inl (25, false, [])),
  .inr (.inl (5, false, [])),
  .inr (.inl (5, false, [])),
  .inl (4, [some (.inr 65), some (.inl (-1)), some (.inl (0)), some (.inl (-1))]),
  .inr (.inl (160, true, [])),
  .inl (4, [some (.inr 67), some (.inl (-1)), some (.inl (0)), some (.inl (-1))]),
  .inr (.inl (160, true, [])),
  .inl (4, [some (.inr 69), some (.inl (-1)), some (.inl (0)), some (.inl (-1))]),
  .inr (.inl (160, true, [])),
  .inl (4, [some (.inr 71), some (.inl (-1)), some (.inl (0)), some (.inl (-1))]),
  .inr (.inl (160, true, [])),
  .inl (4, [some (.inr 73), some (.inl (-1)), some (.inl (0)), some (.inl (-1))]),
  .inr (.inl (160, true, [])),
  .inl (4, [some (.inr 75), some (.inl (-1)), some (.inl (0)), some (.inl (-1))]),
  .inr (.inl (160, true, [])),
  .inl (4, [none, some (.inl (0)), some (.inl (0)), some (.inl (0))])]
def wW71 : List LN := [
  .inl (6, [some (.inr 1), some (.inr 2), some (.inr 17), some (.inr 32), some (.inr 47), some (.inr 50), some (.inr 53), some (.inr 56), some (.inr 58), some (.inr 60), some (.inr 61), some (.inr 62), some (.inr 63), some (.inl (0)), some (.inl (-1))]),
  .inr (.inr (2, [some 64, some 66, some 68, some 70, some 72, some 74, none, none])),
  .inl (5, [some (.inr 3), some (.inr 4), some (.inl (0)), some (.inl (60)), some (.inl (20)), some (.inl (1000)), some (.inl (0)), some (.inl (0)), some (.inl (0)), some (.inl (1))]),
  .inr (.inr (3, [some 5, some 7, some 9, some 11, some 13, some 15])),
  .inr (.inl (10, false, [])),
  .inl (1, [some (.inl (0)), some (.inl (0)), some (.inl (0)), some (.inr 6)]),
  .inr (.inl (12, false, [])),
  .inl (1, [some (.inl (0)), some (.inl (0)), some (.inl (0)), some (.inr 8)]),
  .inr (.inl (12, false, [])),
  .inl (1, [some (.inl (0)), some (.inl (0)), some (.inl (0)), some (.inr 10)]),
  .inr (.inl (12, false, [])),
  .inl (1, [some (.inl (0)), some (.inl (0)), some (.inl (0)), some (.inr 12)]),
  .inr (.inl (12, false, [])),
  .inl (1, [some (.inl (0)), some (.inl (0)), some (.inl (0)), some (.inr 14)]),
  .inr (.inl (12, false, [])),
  .inl (1, [some (.inl (0)), some (.inl (0)), some (.inl (0)), some (.inr 16)]),
  .inr (.inl (12, false, [])),
  .inl (5, [some (.inr 18), some (.inr 19), some (.inl (0)), some (.inl (60)), some (.inl (20)), some (.inl (1000)), some (.inl (0)), some (.inl (0)), some (.inl (0)), some (.inl (1))]),
  .inr (.inr (3, [some 20, some 22, some 24, some 26, some 28, some 30])),
  .inr (.inl (10, false, [])),
  .inl (1, [some (.inl (0)), some (.inl (0)), some (.inl (0)), some (.inr 21)]),
  .inr (.inl (12, false, [])),
  .inl (1, [some (.inl (0)), some (.inl (0)), some (.inl (0)), some (.inr 23)]),
  .inr (.inl (12, false, [])),
  .inl (1, [some (.inl (0)), some (.inl (0)), some (.inl (0)), some (.inr 25)]),
  .inr (.inl (12, false, [])),
  .inl (1, [some (.inl (0)), some (.inl (0)), some (.inl (0)), some (.inr 27)]),
  .inr (.inl (12, false, [])),
  .inl (1, [some (.inl (0)), some (.inl (0)), some (.inl (0)), some (.inr 29)]),
  .inr (.inl (12, false, [])),
  .inl (1, [some (.inl (0)), some (.inl (0)), some (.inl (0)), some (.inr 31)]),
  .inr (.inl (12, false, [])),
  .inl (5, [some (.inr 33), some (.inr 34), some (.inl (0)), some (.inl (60)), some (.inl (20)), some (.inl (1000)), some (.inl (0)), some (.inl (0)), some (.inl (0)), some (.inl (1))]),
  .inr (.inr (3, [some 35, some 37, some 39, some 41, some 43, some 45])),
  .inr (.inl (10, false, [])),
  .inl (1, [some (.inl (0)), some (.inl (0)), some (.inl (0)), some (.inr 36)]),
  .inr (.inl (12, false, [])),
  .inl (1, [some (.inl (0)), some (.inl (0)), some (.inl (0)), some (.inr 38)]),
  .inr (.inl (12, false, [])),
  .inl (1, [some (.inl (0)), some (.inl (0)), some (.inl (0)), some (.inr 40)]),
  .inr (.inl (12, false, [])),
  .inl (1, [some (.inl (0)), some (.inl (0)), some (.inl (0)), some (.inr 42)]),
  .inr (.inl (12, false, [])),
  .inl (1, [some (.inl (0)), some (.inl (0)), some (.inl (0)), some (.inr 44)]),
  .inr (.inl (12, false, [])),
  .inl (1, [some (.inl (0)), some (.inl (0)), some (.inl (0)), some (.inr 46)]),
  .inr (.inl (12, false, [])),
  .inl (2, [some (.inr 48), some (.inl (0)), some (.inl (0)), some (.inl (0)), some (.inl (0)), some (.inl (0)), some (.inl (0))]),
  .inl (1, [some (.inl (0)), some (.inl (0)), some (.inl (0)), some (.inr 49)]),
  .inr (.inl (12, false, [])),
  .inl (2, [some (.inr 51), some (.inl (0)), some (.inl (0)), some (.inl (0)), some (.inl (0)), some (.inl (0)), some (.inl (0))]),
  .inl (1, [some (.inl (0)), some (.inl (0)), some (.inl (0)), some (.inr 52)]),
  .inr (.inl (12, false, [])),
  .inl (3, [some (.inr 32), some (.inr 47), some (.inr 54), some (.inr 55), some (.inl (0)), some (.inl (0)), some (.inl (-1))]),
  .inr (.inl (160, false, [])),
  .inr (.inl (3, false, [])),
  .inl (0, [some (.inr 57), some (.inl (0)), some (.inl (0)), some (.inl (0)), some (.inl (0))]),
  .inr (.inl (20, false, [])),
  .inl (1, [some (.inl (0)), some (.inl (0)), some (.inl (0)), some (.inr 59)]),
  .inr (.inl (12, false, [])),
  .inr (.inl (8, false, [])),
  .inr (.inl (25, false, [])),
  .inr (.inl (5, false, [])),
  .inr (.inl (5, false, [])),
  .inl (4, [some (.inr 65), some (.inl (-1)), some (.inl (0)), some (.inl (-1))]),
  .inr (.inl (160, true, [])),
  .inl (4, [some (.inr 67), some (.inl (-1)), some (.inl (0)), some (.inl (-1))]),
  .inr (.inl (160, true, [])),
  .inl (4, [some (.inr 69), some (.inl (-1)), some (.inl (0)), some (.inl (-1))]),
  .inr (.inl (160, true, [])),
  .inl (4, [some (.inr 71), some (.inl (-1)), some (.inl (0)), some (.inl (-1))]),
  .inr (.inl (160, true, [])),
  .inl (4, [some (.inr 73), some (.inl (-1)), some (.inl (0)), some (.inl (-1))]),
  .inr (.inl (160, true, [])),
  .inl (4, [some (.inr 75), some (.inl (-1)), some (.inl (0)), some (.inl (-1))]),
  .inr (.inl (160, true, [])),
  .inl (4, [some (.inr 77), some (.inl (-1)), some (.inl (0)), some (.inl (-1))]),
  .inr (.inl (160, true, []))]
set_option maxRecDepth 100000 in
theorem X4_init_at76 {E : EE} {B : Nat} : CN E B yX4_init cX4_init 1 1 [.ref (B + 76)] wW70 wW71 1 160 := by
  refine CN.of (own := RX4) (by decide +kernel) rfl rfl (Nat.le_of_ble_eq_true rfl) fun v V hX hi => ?_
  refine j_aload_n V dX4_init_0 rfl rfl ?_
  refine j_objInit V dX4_init_1 ml_X4_3 (by decide +kernel) ?_
  refine j_aload_n V dX4_init_4 rfl rfl ?_
  refine j_sipush (z := 160) V dX4_init_5 (by decide +kernel) ?_
  refine k_newL (N := 160) 77 160 (by decide +kernel) rfl V hX dX4_init_8 rfl (by decide +kernel) (by decide +kernel) (by decide +kernel) ?_
  refine j_put (k := 76) (fs := [none, some (.inl (0)), some (.inl (0)), some (.inl (0))]) (κ := 0) (some (.inr 77)) V hi dX4_init_10 fl_X4_9 (by decide +kernel) rfl rfl (aq (by decide +kernel)) (by decide +kernel) ?_
  refine j_aload_n V dX4_init_13 rfl rfl ?_
  refine j_iconst (z := -1) V dX4_init_14 (by decide +kernel) ?_
  refine j_put (k := 76) (fs := [some (.inr 77), some (.inl (0)), some (.inl (0)), some (.inl (0))]) (κ := 1) (some (.inl (-1))) V hi dX4_init_15 fl_X4_15 (by decide +kernel) rfl rfl (aq (by decide +kernel)) (by decide +kernel) ?_
  refine j_aload_n V dX4_init_18 rfl rfl ?_
  refine j_iconst (z := -1) V dX4_init_19 (by decide +kernel) ?_
  refine j_put (k := 76) (fs := [some (.inr 77), some (.inl (-1)), some (.inl (0)), some (.inl (0))]) (κ := 1) (some (.inl (-1))) V hi dX4_init_20 fl_X4_19 (by decide +kernel) rfl rfl (aq (by decide +kernel)) (by decide +kernel) ?_
  refine k_world wW71 (wq (by decide +kernel)) ?_
  exact j_vret V dX4_init_23
def wW72 : List LN := [
  .inl (6, [some (.inr 1), some (.inr 2), some (.inr 17), some (.inr 32), some (.inr 47), some (.inr 50), some (.inr 53), some (.inr 56), some (.inr 58), some (.inr 60), some (.inr 61), some (.inr 62), some (.inr 63), some (.inl (0)), some (.inl (-1))]),
  .inr (.inr (2, [some 64, some 66, some 68, some 70, some 72, some 74, some 76, none])),
  .inl (5, [some (.inr 3), some (.inr 4), some (.inl (0)), some (.inl (60)), some (.inl (20)), some (.inl (1000)), some (.inl (0)), some (.inl (0)), some (.inl (0)), some (.inl (1))]),
  .inr (.inr (3, [some 5, some 7, some 9, some 11, some 13, some 15])),
  .inr (.inl (10, false, [])),
  .inl (1, [some (.inl (0)), some (.inl (0)), some (.inl (0)), some (.inr 6)]),
  .inr (.inl (12, false, [])),
  .inl (1, [some (.inl (0)), some (.inl (0)), some (.inl (0)), some (.inr 8)]),
  .inr (.inl (12, false, [])),
  .inl (1, [some (.inl (0)), some (.inl (0)), some (.inl (0)), some (.inr 10)]),
  .inr (.inl (12, false, [])),
  .inl (1, [some (.inl (0)), some (.inl (0)), some (.inl (0)), some (.inr 12)]),
  .inr (.inl (12, false, [])),
  .inl (1, [some (.inl (0)), some (.inl (0)), some (.inl (0)), some (.inr 14)]),
  .inr (.inl (12, false, [])),
  .inl (1, [some (.inl (0)), some (.inl (0)), some (.inl (0)), some (.inr 16)]),
  .inr (.inl (12, false, [])),
  .inl (5, [some (.inr 18), some (.inr 19), some (.inl (0)), some (.inl (60)), some (.inl (20)), some (.inl (1000)), some (.inl (0)), some (.inl (0)), some (.inl (0)), some (.inl (1))]),
  .inr (.inr (3, [some 20, some 22, some 24, some 26, some 28, some 30])),
  .inr (.inl (10, false, [])),
  .inl (1, [some (.inl (0)), some (.inl (0)), some (.inl (0)), some (.inr 21)]),
  .inr (.inl (12, false, [])),
  .inl (1, [some (.inl (0)), some (.inl (0)), some (.inl (0)), some (.inr 23)]),
  .inr (.inl (12, false, [])),
  .inl (1, [some (.inl (0)), some (.inl (0)), some (.inl (0)), some (.inr 25)]),
  .inr (.inl (12, false, [])),
  .inl (1, [some (.inl (0)), some (.inl (0)), some (.inl (0)), some (.inr 27)]),
  .inr (.inl (12, false, [])),
  .inl (1, [some (.inl (0)), some (.inl (0)), some (.inl (0)), some (.inr 29)]),
  .inr (.inl (12, false, [])),
  .inl (1, [some (.inl (0)), some (.inl (0)), some (.inl (0)), some (.inr 31)]),
  .inr (.inl (12, false, [])),
  .inl (5, [some (.inr 33), some (.inr 34), some (.inl (0)), some (.inl (60)), some (.inl (20)), some (.inl (1000)), some (.inl (0)), some (.inl (0)), some (.inl (0)), some (.inl (1))]),
  .inr (.inr (3, [some 35, some 37, some 39, some 41, some 43, some 45])),
  .inr (.inl (10, false, [])),
  .inl (1, [some (.inl (0)), some (.inl (0)), some (.inl (0)), some (.inr 36)]),
  .inr (.inl (12, false, [])),
  .inl (1, [some (.inl (0)), some (.inl (0)), some (.inl (0)), some (.inr 38)]),
  .inr (.inl (12, false, [])),
  .inl (1, [some (.inl (0)), some (.inl (0)), some (.inl (0)), some (.inr 40)]),
  .inr (.inl (12, false, [])),
  .inl (1, [some (.inl (0)), some (.inl (0)), some (.inl (0)), some (.inr 42)]),
  .inr (.inl (12, false, [])),
  .inl (1, [some (.inl (0)), some (.inl (0)), some (.inl (0)), some (.inr 44)]),
  .inr (.inl (12, false, [])),
  .inl (1, [some (.inl (0)), some (.inl (0)), some (.inl (0)), some (.inr 46)]),
  .inr (.inl (12, false, [])),
  .inl (2, [some (.inr 48), some (.inl (0)), some (.inl (0)), some (.inl (0)), some (.inl (0)), some (.inl (0)), some (.inl (0))]),
  .inl (1, [some (.inl (0)), some (.inl (0)), some (.inl (0)), some (.inr 49)]),
  .inr (.inl (12, false, [])),
  .inl (2, [some (.inr 51), some (.inl (0)), some (.inl (0)), some (.inl (0)), some (.inl (0)), some (.inl (0)), some (.inl (0))]),
  .inl (1, [some (.inl (0)), some (.inl (0)), some (.inl (0)), some (.inr 52)]),
  .inr (.inl (12, false, [])),
  .inl (3, [some (.inr 32), some (.inr 47), some (.inr 54), some (.inr 55), some (.inl (0)), some (.inl (0)), some (.inl (-1))]),
  .inr (.inl (160, false, [])),
  .inr (.inl (3, false, [])),
  .inl (0, [some (.inr 57), some (.inl (0)), some (.inl (0)), some (.inl (0)), some (.inl (0))]),
  .inr (.inl (20, false, [])),
  .inl (1, [some (.inl (0)), some (.inl (0)), some (.inl (0)), some (.inr 59)]),
  .inr (.inl (12, false, [])),
  .inr (.inl (8, false, [])),
  .inr (.inl (25, false, [])),
  .inr (.inl (5, false, [])),
  .inr (.inl (5, false, [])),
  .inl (4, [some (.inr 65), some (.inl (-1)), some (.inl (0)), some (.inl (-1))]),
  .inr (.inl (160, true, [])),
  .inl (4, [some (.inr 67), some (.inl (-1)), some (.inl (0)), some (.inl (-1))]),
  .inr (.inl (160, true, [])),
  .inl (4, [some (.inr 69), some (.inl (-1)), some (.inl (0)), some (.inl (-1))]),
  .inr (.inl (160, true, [])),
  .inl (4, [some (.inr 71), some (.inl (-1)), some (.inl (0)), some (.inl (-1))]),
  .inr (.inl (160, true, [])),
  .inl (4, [some (.inr 73), some (.inl (-1)), some (.inl (0)), some (.inl (-1))]),
  .inr (.inl (160, true, [])),
  .inl (4, [some (.inr 75), some (.inl (-1)), some (.inl (0)), some (.inl (-1))]),
  .inr (.inl (160, true, [])),
  .inl (4, [some (.inr 77), some (.inl (-1)), some (.inl (0)), some (.inl (-1))]),
  .inr (.inl (160, true, [])),
  .inl (4, [none, some (.inl (0)), some (.inl (0)), some (.inl (0))])]
def wW73 : List LN := [
  .inl (6, [some (.inr 1), some (.inr 2), some (.inr 17), some (.inr 32), some (.inr 47), some (.inr 50), some (.inr 53), some (.inr 56), some (.inr 58), some (.inr 60), some (.inr 61), some (.inr 62), some (.inr 63), some (.inl (0)), some (.inl (-1))]),
  .inr (.inr (2, [some 64, some 66, some 68, some 70, some 72, some 74, some 76, none])),
  .inl (5, [some (.inr 3), some (.inr 4), some (.inl (0)), some (.inl (60)), some (.inl (20)), some (.inl (1000)), some (.inl (0)), some (.inl (0)), some (.inl (0)), some (.inl (1))]),
  .inr (.inr (3, [some 5, some 7, some 9, some 11, some 13, some 15])),
  .inr (.inl (10, false, [])),
  .inl (1, [some (.inl (0)), some (.inl (0)), some (.inl (0)), some (.inr 6)]),
  .inr (.inl (12, false, [])),
  .inl (1, [some (.inl (0)), some (.inl (0)), some (.inl (0)), some (.inr 8)]),
  .inr (.inl (12, false, [])),
  .inl (1, [some (.inl (0)), some (.inl (0)), some (.inl (0)), some (.inr 10)]),
  .inr (.inl (12, false, [])),
  .inl (1, [some (.inl (0)), some (.inl (0)), some (.inl (0)), some (.inr 12)]),
  .inr (.inl (12, false, [])),
  .inl (1, [some (.inl (0)), some (.inl (0)), some (.inl (0)), some (.inr 14)]),
  .inr (.inl (12, false, [])),
  .inl (1, [some (.inl (0)), some (.inl (0)), some (.inl (0)), some (.inr 16)]),
  .inr (.inl (12, false, [])),
  .inl (5, [some (.inr 18), some (.inr 19), some (.inl (0)), some (.inl (60)), some (.inl (20)), some (.inl (1000)), some (.inl (0)), some (.inl (0)), some (.inl (0)), some (.inl (1))]),
  .inr (.inr (3, [some 20, some 22, some 24, some 26, some 28, some 30])),
  .inr (.inl (10, false, [])),
  .inl (1, [some (.inl (0)), some (.inl (0)), some (.inl (0)), some (.inr 21)]),
  .inr (.inl (12, false, [])),
  .inl (1, [some (.inl (0)), some (.inl (0)), some (.inl (0)), some (.inr 23)]),
  .inr (.inl (12, false, [])),
  .inl (1, [some (.inl (0)), some (.inl (0)), some (.inl (0)), some (.inr 25)]),
  .inr (.inl (12, false, [])),
  .inl (1, [some (.inl (0)), some (.inl (0)), some (.inl (0)), some (.inr 27)]),
  .inr (.inl (12, false, [])),
  .inl (1, [some (.inl (0)), some (.inl (0)), some (.inl (0)), some (.inr 29)]),
  .inr (.inl (12, false, [])),
  .inl (1, [some (.inl (0)), some (.inl (0)), some (.inl (0)), some (.inr 31)]),
  .inr (.inl (12, false, [])),
  .inl (5, [some (.inr 33), some (.inr 34), some (.inl (0)), some (.inl (60)), some (.inl (20)), some (.inl (1000)), some (.inl (0)), some (.inl (0)), some (.inl (0)), some (.inl (1))]),
  .inr (.inr (3, [some 35, some 37, some 39, some 41, some 43, some 45])),
  .inr (.inl (10, false, [])),
  .inl (1, [some (.inl (0)), some (.inl (0)), some (.inl (0)), some (.inr 36)]),
  .inr (.inl (12, false, [])),
  .inl (1, [some (.inl (0)), some (.inl (0)), some (.inl (0)), some (.inr 38)]),
  .inr (.inl (12, false, [])),
  .inl (1, [some (.inl (0)), some (.inl (0)), some (.inl (0)), some (.inr 40)]),
  .inr (.inl (12, false, [])),
  .inl (1, [some (.inl (0)), some (.inl (0)), some (.inl (0)), some (.inr 42)]),
  .inr (.inl (12, false, [])),
  .inl (1, [some (.inl (0)), some (.inl (0)), some (.inl (0)), some (.inr 44)]),
  .inr (.inl (12, false, [])),
  .inl (1, [some (.inl (0)), some (.inl (0)), some (.inl (0)), some (.inr 46)]),
  .inr (.inl (12, false, [])),
  .inl (2, [some (.inr 48), some (.inl (0)), some (.inl (0)), some (.inl (0)), some (.inl (0)), some (.inl (0)), some (.inl (0))]),
  .inl (1, [some (.inl (0)), some (.inl (0)), some (.inl (0)), some (.inr 49)]),
  .inr (.inl (12, false, [])),
  .inl (2, [some (.inr 51), some (.inl (0)), some (.inl (0)), some (.inl (0)), some (.inl (0)), some (.inl (0)), some (.inl (0))]),
  .inl (1, [some (.inl (0)), some (.inl (0)), some (.inl (0)), some (.inr 52)]),
  .inr (.inl (12, false, [])),
  .inl (3, [some (.inr 32), some (.inr 47), some (.inr 54), some (.inr 55), some (.inl (0)), some (.inl (0)), some (.inl (-1))]),
  .inr (.inl (160, false, [])),
  .inr (.inl (3, false, [])),
  .inl (0, [some (.inr 57), some (.inl (0)), some (.inl (0)), some (.inl (0)), some (.inl (0))]),
  .inr (.inl (20, false, [])),
  .inl (1, [some (.inl (0)), some (.inl (0)), some (.inl (0)), some (.inr 59)]),
  .inr (.inl (12, false, [])),
  .inr (.inl (8, false, [])),
  .inr (.inl (25, false, [])),
  .inr (.inl (5, false, [])),
  .inr (.inl (5, false, [])),
  .inl (4, [some (.inr 65), some (.inl (-1)), some (.inl (0)), some (.inl (-1))]),
  .inr (.inl (160, true, [])),
  .inl (4, [some (.inr 67), some (.inl (-1)), some (.inl (0)), some (.inl (-1))]),
  .inr (.inl (160, true, [])),
  .inl (4, [some (.inr 69), some (.inl (-1)), some (.inl (0)), some (.inl (-1))]),
  .inr (.inl (160, true, [])),
  .inl (4, [some (.inr 71), some (.inl (-1)), some (.inl (0)), some (.inl (-1))]),
  .inr (.inl (160, true, [])),
  .inl (4, [some (.inr 73), some (.inl (-1)), some (.inl (0)), some (.inl (-1))]),
  .inr (.inl (160, true, [])),
  .inl (4, [some (.inr 75), some (.inl (-1)), some (.inl (0)), some (.inl (-1))]),
  .inr (.inl (160, true, [])),
  .inl (4, [some (.inr 77), some (.inl (-1)), some (.inl (0)), some (.inl (-1))]),
  .inr (.inl (160, true, [])),
  .inl (4, [some (.inr 79), some (.inl (-1)), some (.inl (0)), some (.inl (-1))]),
  .inr (.inl (160, true, []))]
set_option maxRecDepth 100000 in
theorem X4_init_at78 {E : EE} {B : Nat} : CN E B yX4_init cX4_init 1 1 [.ref (B + 78)] wW72 wW73 1 160 := by
  refine CN.of (own := RX4) (by decide +kernel) rfl rfl (Nat.le_of_ble_eq_true rfl) fun v V hX hi => ?_
  refine j_aload_n V dX4_init_0 rfl rfl ?_
  refine j_objInit V dX4_init_1 ml_X4_3 (by decide +kernel) ?_
  refine j_aload_n V dX4_init_4 rfl rfl ?_
  refine j_sipush (z := 160) V dX4_init_5 (by decide +kernel) ?_
  refine k_newL (N := 160) 79 160 (by decide +kernel) rfl V hX dX4_init_8 rfl (by decide +kernel) (by decide +kernel) (by decide +kernel) ?_
  refine j_put (k := 78) (fs := [none, some (.inl (0)), some (.inl (0)), some (.inl (0))]) (κ := 0) (some (.inr 79)) V hi dX4_init_10 fl_X4_9 (by decide +kernel) rfl rfl (aq (by decide +kernel)) (by decide +kernel) ?_
  refine j_aload_n V dX4_init_13 rfl rfl ?_
  refine j_iconst (z := -1) V dX4_init_14 (by decide +kernel) ?_
  refine j_put (k := 78) (fs := [some (.inr 79), some (.inl (0)), some (.inl (0)), some (.inl (0))]) (κ := 1) (some (.inl (-1))) V hi dX4_init_15 fl_X4_15 (by decide +kernel) rfl rfl (aq (by decide +kernel)) (by decide +kernel) ?_
  refine j_aload_n V dX4_init_18 rfl rfl ?_
  refine j_iconst (z := -1) V dX4_init_19 (by decide +kernel) ?_
  refine j_put (k := 78) (fs := [some (.inr 79), some (.inl (-1)), some (.inl (0)), some (.inl (0))]) (κ := 1) (some (.inl (-1))) V hi dX4_init_20 fl_X4_19 (by decide +kernel) rfl rfl (aq (by decide +kernel)) (by decide +kernel) ?_
  refine k_world wW73 (wq (by decide +kernel)) ?_
  exact j_vret V dX4_init_23
def wW74 : List LN := [
  .inl (6, [some (.inr 1), some (.inr 2), some (.inr 17), some (.inr 32), some (.inr 47), some (.inr 50), some (.inr 53), some (.inr 56), some (.inr 58), some (.inr 60), some (.inr 61), some (.inr 62), some (.inr 63), some (.inl (0)), some (.inl (-1))]),
  .inr (.inr (2, [some 64, some 66, some 68, some 70, some 72, some 74, some 76, some 78])),
  .inl (5, [some (.inr 3), some (.inr 4), some (.inl (0)), some (.inl (60)), some (.inl (20)), some (.inl (1000)), some (.inl (0)), some (.inl (0)), some (.inl (0)), some (.inl (1))]),
  .inr (.inr (3, [some 5, some 7, some 9, some 11, some 13, some 15])),
  .inr (.inl (10, false, [])),
  .inl (1, [some (.inl (0)), some (.inl (0)), some (.inl (0)), some (.inr 6)]),
  .inr (.inl (12, false, [])),
  .inl (1, [some (.inl (0)), some (.inl (0)), some (.inl (0)), some (.inr 8)]),
  .inr (.inl (12, false, [])),
  .inl (1, [some (.inl (0)), some (.inl (0)), some (.inl (0)), some (.inr 10)]),
  .inr (.inl (12, false, [])),
  .inl (1, [some (.inl (0)), some (.inl (0)), some (.inl (0)), some (.inr 12)]),
  .inr (.inl (12, false, [])),
  .inl (1, [some (.inl (0)), some (.inl (0)), some (.inl (0)), some (.inr 14)]),
  .inr (.inl (12, false, [])),
  .inl (1, [some (.inl (0)), some (.inl (0)), some (.inl (0)), some (.inr 16)]),
  .inr (.inl (12, false, [])),
  .inl (5, [some (.inr 18), some (.inr 19), some (.inl (0)), some (.inl (60)), some (.inl (20)), some (.inl (1000)), some (.inl (0)), some (.inl (0)), some (.inl (0)), some (.inl (1))]),
  .inr (.inr (3, [some 20, some 22, some 24, some 26, some 28, some 30])),
  .inr (.inl (10, false, [])),
  .inl (1, [some (.inl (0)), some (.inl (0)), some (.inl (0)), some (.inr 21)]),
  .inr (.inl (12, false, [])),
  .inl (1, [some (.inl (0)), some (.inl (0)), some (.inl (0)), some (.inr 23)]),
  .inr (.inl (12, false, [])),
  .inl (1, [some (.inl (0)), some (.inl (0)), some (.inl (0)), some (.inr 25)]),
  .inr (.inl (12, false, [])),
  .inl (1, [some (.inl (0)), some (.inl (0)), some (.inl (0)), some (.inr 27)]),
  .inr (.inl (12, false, [])),
  .inl (1, [some (.inl (0)), some (.inl (0)), some (.inl (0)), some (.inr 29)]),
  .inr (.inl (12, false, [])),
  .inl (1, [some (.inl (0)), some (.inl (0)), some (.inl (0)), some (.inr 31)]),
  .inr (.inl (12, false, [])),
  .inl (5, [some (.inr 33), some (.inr 34), some (.inl (0)), some (.inl (60)), some (.inl (20)), some (.inl (1000)), some (.inl (0)), some (.inl (0)), some (.inl (0)), some (.inl (1))]),
  .inr (.inr (3, [some 35, some 37, some 39, some 41, some 43, some 45])),
  .inr (.inl (10, false, [])),
  .inl (1, [some (.inl (0)), some (.inl (0)), some (.inl (0)), some (.inr 36)]),
  .inr (.inl (12, false, [])),
  .inl (1, [some (.inl (0)), some (.inl (0)), some (.inl (0)), some (.inr 38)]),
  .inr (.inl (12, false, [])),
  .inl (1, [some (.inl (0)), some (.inl (0)), some (.inl (0)), some (.inr 40)]),
  .inr (.inl (12, false, [])),
  .inl (1, [some (.inl (0)), some (.inl (0)), some (.inl (0)), some (.inr 42)]),
  .inr (.inl (12, false, [])),
  .inl (1, [some (.inl (0)), some (.inl (0)), some (.inl (0)), some (.inr 44)]),
  .inr (.inl (12, false, [])),
  .inl (1, [some (.inl (0)), some (.inl (0)), some (.inl (0)), some (.inr 46)]),
  .inr (.inl (12, false, [])),
  .inl (2, [some (.inr 48), some (.inl (0)), some (.inl (0)), some (.inl (0)), some (.inl (0)), some (.inl (0)), some (.inl (0))]),
  .inl (1, [some (.inl (0)), some (.inl (0)), some (.inl (0)), some (.inr 49)]),
  .inr (.inl (12, false, [])),
  .inl (2, [some (.inr 51), some (.inl (0)), some (.inl (0)), some (.inl (0)), some (.inl (0)), some (.inl (0)), some (.inl (0))]),
  .inl (1, [some (.inl (0)), some (.inl (0)), some (.inl (0)), some (.inr 52)]),
  .inr (.inl (12, false, [])),
  .inl (3, [some (.inr 32), some (.inr 47), some (.inr 54), some (.inr 55), some (.inl (0)), some (.inl (0)), some (.inl (-1))]),
  .inr (.inl (160, false, [])),
  .inr (.inl (3, false, [])),
  .inl (0, [some (.inr 57), some (.inl (0)), some (.inl (0)), some (.inl (0)), some (.inl (0))]),
  .inr (.inl (20, false, [])),
  .inl (1, [some (.inl (0)), some (.inl (0)), some (.inl (0)), some (.inr 59)]),
  .inr (.inl (12, false, [])),
  .inr (.inl (8, false, [])),
  .inr (.inl (25, false, [])),
  .inr (.inl (5, false, [])),
  .inr (.inl (5, false, [])),
  .inl (4, [some (.inr 65), some (.inl (-1)), some (.inl (0)), some (.inl (-1))]),
  .inr (.inl (160, true, [])),
  .inl (4, [some (.inr 67), some (.inl (-1)), some (.inl (0)), some (.inl (-1))]),
  .inr (.inl (160, true, [])),
  .inl (4, [some (.inr 69), some (.inl (-1)), some (.inl (0)), some (.inl (-1))]),
  .inr (.inl (160, true, [])),
  .inl (4, [some (.inr 71), some (.inl (-1)), some (.inl (0)), some (.inl (-1))]),
  .inr (.inl (160, true, [])),
  .inl (4, [some (.inr 73), some (.inl (-1)), some (.inl (0)), some (.inl (-1))]),
  .inr (.inl (160, true, [])),
  .inl (4, [some (.inr 75), some (.inl (-1)), some (.inl (0)), some (.inl (-1))]),
  .inr (.inl (160, true, [])),
  .inl (4, [some (.inr 77), some (.inl (-1)), some (.inl (0)), some (.inl (-1))]),
  .inr (.inl (160, true, [])),
  .inl (4, [some (.inr 79), some (.inl (-1)), some (.inl (0)), some (.inl (-1))]),
  .inr (.inl (160, true, []))]
set_option maxRecDepth 100000 in
theorem X6_init_at0 {E : EE} {B : Nat} : CN E B yX6_init cX6_init 2 3 [.ref (B + 0)] wW1 wW74 79 1986 := by
  refine CN.of (own := RX6) (by decide +kernel) rfl rfl (Nat.le_of_ble_eq_true rfl) fun v V hX hi => ?_
  refine j_aload_n V dX6_init_0 rfl rfl ?_
  refine j_objInit V dX6_init_1 ml_X6_1 (by decide +kernel) ?_
  refine j_aload_n V dX6_init_4 rfl rfl ?_
  refine j_bipush (z := 8) V dX6_init_5 (by decide +kernel) ?_
  refine k_anew (N := 8) 1 8 2 "DunkedBiscuits$Shelf" (by decide +kernel) rfl V hX.2.2.1 rfl cw_X6_9 dX6_init_7 rfl (by decide +kernel) (by decide +kernel) (by decide +kernel) ?_
  refine j_put (k := 0) (fs := [none, none, none, none, none, none, none, none, none, none, none, none, none, some (.inl (0)), some (.inl (0))]) (κ := 0) (some (.inr 1)) V hi dX6_init_10 fl_X6_11 (by decide +kernel) rfl rfl (aq (by decide +kernel)) (by decide +kernel) ?_
  refine j_aload_n V dX6_init_13 rfl rfl ?_
  refine k_new 2 18 (by decide +kernel) rfl V nw_X6_15 dX6_init_14 (by decide +kernel) (by decide +kernel) ?_
  refine j_dup V dX6_init_17 rfl ?_
  refine k_world wW2 (wq (by decide +kernel)) ?_
  refine j_init (k := 2) (As := []) V hX dX6_init_18 mw_X5_init ml_X6_17 (X5_init_at2) rfl rfl (Nat.le_of_ble_eq_true rfl) (by decide +kernel) (by decide +kernel) ?_
  refine j_put (k := 0) (fs := [some (.inr 1), none, none, none, none, none, none, none, none, none, none, none, none, some (.inl (0)), some (.inl (0))]) (κ := 0) (some (.inr 2)) V hi dX6_init_21 fl_X6_18 (by decide +kernel) rfl rfl (aq (by decide +kernel)) (by decide +kernel) ?_
  refine j_aload_n V dX6_init_24 rfl rfl ?_
  refine k_new 17 140 (by decide +kernel) rfl V nw_X6_15 dX6_init_25 (by decide +kernel) (by decide +kernel) ?_
  refine j_dup V dX6_init_28 rfl ?_
  refine k_world wW16 (wq (by decide +kernel)) ?_
  refine j_init (k := 17) (As := []) V hX dX6_init_29 mw_X5_init ml_X6_17 (X5_init_at17) rfl rfl (Nat.le_of_ble_eq_true rfl) (by decide +kernel) (by decide +kernel) ?_
  refine j_put (k := 0) (fs := [some (.inr 1), some (.inr 2), none, none, none, none, none, none, none, none, none, none, none, some (.inl (0)), some (.inl (0))]) (κ := 0) (some (.inr 17)) V hi dX6_init_32 fl_X6_22 (by decide +kernel) rfl rfl (aq (by decide +kernel)) (by decide +kernel) ?_
  refine j_aload_n V dX6_init_35 rfl rfl ?_
  refine k_new 32 262 (by decide +kernel) rfl V nw_X6_15 dX6_init_36 (by decide +kernel) (by decide +kernel) ?_
  refine j_dup V dX6_init_39 rfl ?_
  refine k_world wW30 (wq (by decide +kernel)) ?_
  refine j_init (k := 32) (As := []) V hX dX6_init_40 mw_X5_init ml_X6_17 (X5_init_at32) rfl rfl (Nat.le_of_ble_eq_true rfl) (by decide +kernel) (by decide +kernel) ?_
  refine j_put (k := 0) (fs := [some (.inr 1), some (.inr 2), some (.inr 17), none, none, none, none, none, none, none, none, none, none, some (.inl (0)), some (.inl (0))]) (κ := 0) (some (.inr 32)) V hi dX6_init_43 fl_X6_25 (by decide +kernel) rfl rfl (aq (by decide +kernel)) (by decide +kernel) ?_
  refine j_aload_n V dX6_init_46 rfl rfl ?_
  refine k_new 47 381 (by decide +kernel) rfl V nw_X6_28 dX6_init_47 (by decide +kernel) (by decide +kernel) ?_
  refine j_dup V dX6_init_50 rfl ?_
  refine k_world wW44 (wq (by decide +kernel)) ?_
  refine j_initN (k := 47) (As := []) V hX dX6_init_51 mw_X2_init mn_X6_30 (X2_init_at47) rfl rfl (Nat.le_of_ble_eq_true rfl) (by decide +kernel) (by decide +kernel) ?_
  refine j_put (k := 0) (fs := [some (.inr 1), some (.inr 2), some (.inr 17), some (.inr 32), none, none, none, none, none, none, none, none, none, some (.inl (0)), some (.inl (0))]) (κ := 0) (some (.inr 47)) V hi dX6_init_54 fl_X6_31 (by decide +kernel) rfl rfl (aq (by decide +kernel)) (by decide +kernel) ?_
  refine j_aload_n V dX6_init_57 rfl rfl ?_
  refine k_new 50 404 (by decide +kernel) rfl V nw_X6_28 dX6_init_58 (by decide +kernel) (by decide +kernel) ?_
  refine j_dup V dX6_init_61 rfl ?_
  refine k_world wW48 (wq (by decide +kernel)) ?_
  refine j_initN (k := 50) (As := []) V hX dX6_init_62 mw_X2_init mn_X6_30 (X2_init_at50) rfl rfl (Nat.le_of_ble_eq_true rfl) (by decide +kernel) (by decide +kernel) ?_
  refine j_put (k := 0) (fs := [some (.inr 1), some (.inr 2), some (.inr 17), some (.inr 32), some (.inr 47), none, none, none, none, none, none, none, none, some (.inl (0)), some (.inl (0))]) (κ := 0) (some (.inr 50)) V hi dX6_init_65 fl_X6_35 (by decide +kernel) rfl rfl (aq (by decide +kernel)) (by decide +kernel) ?_
  refine j_aload_n V dX6_init_68 rfl rfl ?_
  refine k_new 53 427 (by decide +kernel) rfl V nw_X6_38 dX6_init_69 (by decide +kernel) (by decide +kernel) ?_
  refine j_dup V dX6_init_72 rfl ?_
  refine j_aload_n V dX6_init_73 rfl rfl ?_
  refine j_getN (k := 0) (fs := [some (.inr 1), some (.inr 2), some (.inr 17), some (.inr 32), some (.inr 47), some (.inr 50), none, none, none, none, none, none, none, some (.inl (0)), some (.inl (0))]) (rr := 32) V dX6_init_74 fl_X6_25 (aq (by decide +kernel)) rfl ?_
  refine j_aload_n V dX6_init_77 rfl rfl ?_
  refine j_getN (k := 0) (fs := [some (.inr 1), some (.inr 2), some (.inr 17), some (.inr 32), some (.inr 47), some (.inr 50), none, none, none, none, none, none, none, some (.inl (0)), some (.inl (0))]) (rr := 47) V dX6_init_78 fl_X6_31 (aq (by decide +kernel)) rfl ?_
  refine k_world wW52 (wq (by decide +kernel)) ?_
  refine j_init (k := 53) (As := [.ref (B + 32), .ref (B + 47)]) V hX dX6_init_81 mw_X3_init ml_X6_40 (X3_init_at53) rfl rfl (Nat.le_of_ble_eq_true rfl) (by decide +kernel) (by decide +kernel) ?_
  refine j_put (k := 0) (fs := [some (.inr 1), some (.inr 2), some (.inr 17), some (.inr 32), some (.inr 47), some (.inr 50), none, none, none, none, none, none, none, some (.inl (0)), some (.inl (0))]) (κ := 0) (some (.inr 53)) V hi dX6_init_84 fl_X6_43 (by decide +kernel) rfl rfl (aq (by decide +kernel)) (by decide +kernel) ?_
  refine j_aload_n V dX6_init_87 rfl rfl ?_
  refine k_new 56 595 (by decide +kernel) rfl V nw_X6_47 dX6_init_88 (by decide +kernel) (by decide +kernel) ?_
  refine j_dup V dX6_init_91 rfl ?_
  refine k_world wW54 (wq (by decide +kernel)) ?_
  refine j_initN (k := 56) (As := []) V hX dX6_init_92 mw_X0_init mn_X6_49 (X0_init_at56) rfl rfl (Nat.le_of_ble_eq_true rfl) (by decide +kernel) (by decide +kernel) ?_
  refine j_put (k := 0) (fs := [some (.inr 1), some (.inr 2), some (.inr 17), some (.inr 32), some (.inr 47), some (.inr 50), some (.inr 53), none, none, none, none, none, none, some (.inl (0)), some (.inl (0))]) (κ := 0) (some (.inr 56)) V hi dX6_init_95 fl_X6_50 (by decide +kernel) rfl rfl (aq (by decide +kernel)) (by decide +kernel) ?_
  refine j_aload_n V dX6_init_98 rfl rfl ?_
  refine k_new 58 619 (by decide +kernel) rfl V nw_X6_54 dX6_init_99 (by decide +kernel) (by decide +kernel) ?_
  refine j_dup V dX6_init_102 rfl ?_
  refine k_world wW56 (wq (by decide +kernel)) ?_
  refine j_initN (k := 58) (As := []) V hX dX6_init_103 mw_X1_init mn_X6_56 (X1_init_at58) rfl rfl (Nat.le_of_ble_eq_true rfl) (by decide +kernel) (by decide +kernel) ?_
  refine j_put (k := 0) (fs := [some (.inr 1), some (.inr 2), some (.inr 17), some (.inr 32), some (.inr 47), some (.inr 50), some (.inr 53), some (.inr 56), none, none, none, none, none, some (.inl (0)), some (.inl (0))]) (κ := 0) (some (.inr 58)) V hi dX6_init_106 fl_X6_57 (by decide +kernel) rfl rfl (aq (by decide +kernel)) (by decide +kernel) ?_
  refine j_aload_n V dX6_init_109 rfl rfl ?_
  refine j_bipush (z := 8) V dX6_init_110 (by decide +kernel) ?_
  refine k_newI (N := 8) 60 639 (by decide +kernel) rfl V hX dX6_init_112 rfl (by decide +kernel) (by decide +kernel) (by decide +kernel) ?_
  refine j_put (k := 0) (fs := [some (.inr 1), some (.inr 2), some (.inr 17), some (.inr 32), some (.inr 47), some (.inr 50), some (.inr 53), some (.inr 56), some (.inr 58), none, none, none, none, some (.inl (0)), some (.inl (0))]) (κ := 0) (some (.inr 60)) V hi dX6_init_114 fl_X6_61 (by decide +kernel) rfl rfl (aq (by decide +kernel)) (by decide +kernel) ?_
  refine j_aload_n V dX6_init_117 rfl rfl ?_
  refine j_bipush (z := 25) V dX6_init_118 (by decide +kernel) ?_
  refine k_newI (N := 25) 61 664 (by decide +kernel) rfl V hX dX6_init_120 rfl (by decide +kernel) (by decide +kernel) (by decide +kernel) ?_
  refine j_put (k := 0) (fs := [some (.inr 1), some (.inr 2), some (.inr 17), some (.inr 32), some (.inr 47), some (.inr 50), some (.inr 53), some (.inr 56), some (.inr 58), some (.inr 60), none, none, none, some (.inl (0)), some (.inl (0))]) (κ := 0) (some (.inr 61)) V hi dX6_init_122 fl_X6_65 (by decide +kernel) rfl rfl (aq (by decide +kernel)) (by decide +kernel) ?_
  refine j_aload_n V dX6_init_125 rfl rfl ?_
  refine j_iconst (z := 5) V dX6_init_126 (by decide +kernel) ?_
  refine k_newI (N := 5) 62 669 (by decide +kernel) rfl V hX dX6_init_127 rfl (by decide +kernel) (by decide +kernel) (by decide +kernel) ?_
  refine j_put (k := 0) (fs := [some (.inr 1), some (.inr 2), some (.inr 17), some (.inr 32), some (.inr 47), some (.inr 50), some (.inr 53), some (.inr 56), some (.inr 58), some (.inr 60), some (.inr 61), none, none, some (.inl (0)), some (.inl (0))]) (κ := 0) (some (.inr 62)) V hi dX6_init_129 fl_X6_68 (by decide +kernel) rfl rfl (aq (by decide +kernel)) (by decide +kernel) ?_
  refine j_aload_n V dX6_init_132 rfl rfl ?_
  refine j_iconst (z := 5) V dX6_init_133 (by decide +kernel) ?_
  refine k_newI (N := 5) 63 674 (by decide +kernel) rfl V hX dX6_init_134 rfl (by decide +kernel) (by decide +kernel) (by decide +kernel) ?_
  refine j_put (k := 0) (fs := [some (.inr 1), some (.inr 2), some (.inr 17), some (.inr 32), some (.inr 47), some (.inr 50), some (.inr 53), some (.inr 56), some (.inr 58), some (.inr 60), some (.inr 61), some (.inr 62), none, some (.inl (0)), some (.inl (0))]) (κ := 0) (some (.inr 63)) V hi dX6_init_136 fl_X6_71 (by decide +kernel) rfl rfl (aq (by decide +kernel)) (by decide +kernel) ?_
  refine j_aload_n V dX6_init_139 rfl rfl ?_
  refine j_iconst (z := -1) V dX6_init_140 (by decide +kernel) ?_
  refine j_put (k := 0) (fs := [some (.inr 1), some (.inr 2), some (.inr 17), some (.inr 32), some (.inr 47), some (.inr 50), some (.inr 53), some (.inr 56), some (.inr 58), some (.inr 60), some (.inr 61), some (.inr 62), some (.inr 63), some (.inl (0)), some (.inl (0))]) (κ := 1) (some (.inl (-1))) V hi dX6_init_141 fl_X6_74 (by decide +kernel) rfl rfl (aq (by decide +kernel)) (by decide +kernel) ?_
  refine j_iconst (z := 0) V dX6_init_144 (by decide +kernel) ?_
  refine j_istore_n V dX6_init_145 rfl (by decide) rfl ?_
  refine j_iload_n V dX6_init_146 rfl rfl ?_
  refine j_bipush (z := 8) V dX6_init_147 (by decide +kernel) ?_
  refine j_icmp_ge (tgt := 171) V dX6_init_149 rfl (fun h => absurd h (by decide)) (fun _ => ?_)
  refine j_aload_n V dX6_init_152 rfl rfl ?_
  refine j_getN (k := 0) (fs := [some (.inr 1), some (.inr 2), some (.inr 17), some (.inr 32), some (.inr 47), some (.inr 50), some (.inr 53), some (.inr 56), some (.inr 58), some (.inr 60), some (.inr 61), some (.inr 62), some (.inr 63), some (.inl (0)), some (.inl (-1))]) (rr := 1) V dX6_init_153 fl_X6_11 (aq (by decide +kernel)) rfl ?_
  refine j_iload_n V dX6_init_156 rfl rfl ?_
  refine k_new 64 678 (by decide +kernel) rfl V nw_X6_9 dX6_init_157 (by decide +kernel) (by decide +kernel) ?_
  refine j_dup V dX6_init_160 rfl ?_
  refine k_world wW58 (wq (by decide +kernel)) ?_
  refine j_initN (k := 64) (As := []) V hX dX6_init_161 mw_X4_init mn_X6_78 (X4_init_at64) rfl rfl (Nat.le_of_ble_eq_true rfl) (by decide +kernel) (by decide +kernel) ?_
  refine j_astN (k := 1) (t := 2) (q := 0) (r := 64) (ci := 4) (rs := [none, none, none, none, none, none, none, none]) (vs := [some (.inr 65), some (.inl (-1)), some (.inl (0)), some (.inl (-1))]) (rc := (RX4, TX4, 4)) V dX6_init_164 (aq (by decide +kernel)) rfl (aq (by decide +kernel)) rfl rfl (by decide +kernel) (by decide +kernel) ?_
  refine j_iinc (z := 1) V dX6_init_165 rfl (by decide +kernel) rfl ?_
  refine j_goto (tgt := 146) V dX6_init_168 rfl ?_
  refine j_iload_n V dX6_init_146 rfl rfl ?_
  refine j_bipush (z := 8) V dX6_init_147 (by decide +kernel) ?_
  refine j_icmp_ge (tgt := 171) V dX6_init_149 rfl (fun h => absurd h (by decide)) (fun _ => ?_)
  refine j_aload_n V dX6_init_152 rfl rfl ?_
  refine j_getN (k := 0) (fs := [some (.inr 1), some (.inr 2), some (.inr 17), some (.inr 32), some (.inr 47), some (.inr 50), some (.inr 53), some (.inr 56), some (.inr 58), some (.inr 60), some (.inr 61), some (.inr 62), some (.inr 63), some (.inl (0)), some (.inl (-1))]) (rr := 1) V dX6_init_153 fl_X6_11 (aq (by decide +kernel)) rfl ?_
  refine j_iload_n V dX6_init_156 rfl rfl ?_
  refine k_new 66 842 (by decide +kernel) rfl V nw_X6_9 dX6_init_157 (by decide +kernel) (by decide +kernel) ?_
  refine j_dup V dX6_init_160 rfl ?_
  refine k_world wW60 (wq (by decide +kernel)) ?_
  refine j_initN (k := 66) (As := []) V hX dX6_init_161 mw_X4_init mn_X6_78 (X4_init_at66) rfl rfl (Nat.le_of_ble_eq_true rfl) (by decide +kernel) (by decide +kernel) ?_
  refine j_astN (k := 1) (t := 2) (q := 1) (r := 66) (ci := 4) (rs := [some 64, none, none, none, none, none, none, none]) (vs := [some (.inr 67), some (.inl (-1)), some (.inl (0)), some (.inl (-1))]) (rc := (RX4, TX4, 4)) V dX6_init_164 (aq (by decide +kernel)) rfl (aq (by decide +kernel)) rfl rfl (by decide +kernel) (by decide +kernel) ?_
  refine j_iinc (z := 2) V dX6_init_165 rfl (by decide +kernel) rfl ?_
  refine j_goto (tgt := 146) V dX6_init_168 rfl ?_
  refine j_iload_n V dX6_init_146 rfl rfl ?_
  refine j_bipush (z := 8) V dX6_init_147 (by decide +kernel) ?_
  refine j_icmp_ge (tgt := 171) V dX6_init_149 rfl (fun h => absurd h (by decide)) (fun _ => ?_)
  refine j_aload_n V dX6_init_152 rfl rfl ?_
  refine j_getN (k := 0) (fs := [some (.inr 1), some (.inr 2), some (.inr 17), some (.inr 32), some (.inr 47), some (.inr 50), some (.inr 53), some (.inr 56), some (.inr 58), some (.inr 60), some (.inr 61), some (.inr 62), some (.inr 63), some (.inl (0)), some (.inl (-1))]) (rr := 1) V dX6_init_153 fl_X6_11 (aq (by decide +kernel)) rfl ?_
  refine j_iload_n V dX6_init_156 rfl rfl ?_
  refine k_new 68 1006 (by decide +kernel) rfl V nw_X6_9 dX6_init_157 (by decide +kernel) (by decide +kernel) ?_
  refine j_dup V dX6_init_160 rfl ?_
  refine k_world wW62 (wq (by decide +kernel)) ?_
  refine j_initN (k := 68) (As := []) V hX dX6_init_161 mw_X4_init mn_X6_78 (X4_init_at68) rfl rfl (Nat.le_of_ble_eq_true rfl) (by decide +kernel) (by decide +kernel) ?_
  refine j_astN (k := 1) (t := 2) (q := 2) (r := 68) (ci := 4) (rs := [some 64, some 66, none, none, none, none, none, none]) (vs := [some (.inr 69), some (.inl (-1)), some (.inl (0)), some (.inl (-1))]) (rc := (RX4, TX4, 4)) V dX6_init_164 (aq (by decide +kernel)) rfl (aq (by decide +kernel)) rfl rfl (by decide +kernel) (by decide +kernel) ?_
  refine j_iinc (z := 3) V dX6_init_165 rfl (by decide +kernel) rfl ?_
  refine j_goto (tgt := 146) V dX6_init_168 rfl ?_
  refine j_iload_n V dX6_init_146 rfl rfl ?_
  refine j_bipush (z := 8) V dX6_init_147 (by decide +kernel) ?_
  refine j_icmp_ge (tgt := 171) V dX6_init_149 rfl (fun h => absurd h (by decide)) (fun _ => ?_)
  refine j_aload_n V dX6_init_152 rfl rfl ?_
  refine j_getN (k := 0) (fs := [some (.inr 1), some (.inr 2), some (.inr 17), some (.inr 32), some (.inr 47), some (.inr 50), some (.inr 53), some (.inr 56), some (.inr 58), some (.inr 60), some (.inr 61), some (.inr 62), some (.inr 63), some (.inl (0)), some (.inl (-1))]) (rr := 1) V dX6_init_153 fl_X6_11 (aq (by decide +kernel)) rfl ?_
  refine j_iload_n V dX6_init_156 rfl rfl ?_
  refine k_new 70 1170 (by decide +kernel) rfl V nw_X6_9 dX6_init_157 (by decide +kernel) (by decide +kernel) ?_
  refine j_dup V dX6_init_160 rfl ?_
  refine k_world wW64 (wq (by decide +kernel)) ?_
  refine j_initN (k := 70) (As := []) V hX dX6_init_161 mw_X4_init mn_X6_78 (X4_init_at70) rfl rfl (Nat.le_of_ble_eq_true rfl) (by decide +kernel) (by decide +kernel) ?_
  refine j_astN (k := 1) (t := 2) (q := 3) (r := 70) (ci := 4) (rs := [some 64, some 66, some 68, none, none, none, none, none]) (vs := [some (.inr 71), some (.inl (-1)), some (.inl (0)), some (.inl (-1))]) (rc := (RX4, TX4, 4)) V dX6_init_164 (aq (by decide +kernel)) rfl (aq (by decide +kernel)) rfl rfl (by decide +kernel) (by decide +kernel) ?_
  refine j_iinc (z := 4) V dX6_init_165 rfl (by decide +kernel) rfl ?_
  refine j_goto (tgt := 146) V dX6_init_168 rfl ?_
  refine j_iload_n V dX6_init_146 rfl rfl ?_
  refine j_bipush (z := 8) V dX6_init_147 (by decide +kernel) ?_
  refine j_icmp_ge (tgt := 171) V dX6_init_149 rfl (fun h => absurd h (by decide)) (fun _ => ?_)
  refine j_aload_n V dX6_init_152 rfl rfl ?_
  refine j_getN (k := 0) (fs := [some (.inr 1), some (.inr 2), some (.inr 17), some (.inr 32), some (.inr 47), some (.inr 50), some (.inr 53), some (.inr 56), some (.inr 58), some (.inr 60), some (.inr 61), some (.inr 62), some (.inr 63), some (.inl (0)), some (.inl (-1))]) (rr := 1) V dX6_init_153 fl_X6_11 (aq (by decide +kernel)) rfl ?_
  refine j_iload_n V dX6_init_156 rfl rfl ?_
  refine k_new 72 1334 (by decide +kernel) rfl V nw_X6_9 dX6_init_157 (by decide +kernel) (by decide +kernel) ?_
  refine j_dup V dX6_init_160 rfl ?_
  refine k_world wW66 (wq (by decide +kernel)) ?_
  refine j_initN (k := 72) (As := []) V hX dX6_init_161 mw_X4_init mn_X6_78 (X4_init_at72) rfl rfl (Nat.le_of_ble_eq_true rfl) (by decide +kernel) (by decide +kernel) ?_
  refine j_astN (k := 1) (t := 2) (q := 4) (r := 72) (ci := 4) (rs := [some 64, some 66, some 68, some 70, none, none, none, none]) (vs := [some (.inr 73), some (.inl (-1)), some (.inl (0)), some (.inl (-1))]) (rc := (RX4, TX4, 4)) V dX6_init_164 (aq (by decide +kernel)) rfl (aq (by decide +kernel)) rfl rfl (by decide +kernel) (by decide +kernel) ?_
  refine j_iinc (z := 5) V dX6_init_165 rfl (by decide +kernel) rfl ?_
  refine j_goto (tgt := 146) V dX6_init_168 rfl ?_
  refine j_iload_n V dX6_init_146 rfl rfl ?_
  refine j_bipush (z := 8) V dX6_init_147 (by decide +kernel) ?_
  refine j_icmp_ge (tgt := 171) V dX6_init_149 rfl (fun h => absurd h (by decide)) (fun _ => ?_)
  refine j_aload_n V dX6_init_152 rfl rfl ?_
  refine j_getN (k := 0) (fs := [some (.inr 1), some (.inr 2), some (.inr 17), some (.inr 32), some (.inr 47), some (.inr 50), some (.inr 53), some (.inr 56), some (.inr 58), some (.inr 60), some (.inr 61), some (.inr 62), some (.inr 63), some (.inl (0)), some (.inl (-1))]) (rr := 1) V dX6_init_153 fl_X6_11 (aq (by decide +kernel)) rfl ?_
  refine j_iload_n V dX6_init_156 rfl rfl ?_
  refine k_new 74 1498 (by decide +kernel) rfl V nw_X6_9 dX6_init_157 (by decide +kernel) (by decide +kernel) ?_
  refine j_dup V dX6_init_160 rfl ?_
  refine k_world wW68 (wq (by decide +kernel)) ?_
  refine j_initN (k := 74) (As := []) V hX dX6_init_161 mw_X4_init mn_X6_78 (X4_init_at74) rfl rfl (Nat.le_of_ble_eq_true rfl) (by decide +kernel) (by decide +kernel) ?_
  refine j_astN (k := 1) (t := 2) (q := 5) (r := 74) (ci := 4) (rs := [some 64, some 66, some 68, some 70, some 72, none, none, none]) (vs := [some (.inr 75), some (.inl (-1)), some (.inl (0)), some (.inl (-1))]) (rc := (RX4, TX4, 4)) V dX6_init_164 (aq (by decide +kernel)) rfl (aq (by decide +kernel)) rfl rfl (by decide +kernel) (by decide +kernel) ?_
  refine j_iinc (z := 6) V dX6_init_165 rfl (by decide +kernel) rfl ?_
  refine j_goto (tgt := 146) V dX6_init_168 rfl ?_
  refine j_iload_n V dX6_init_146 rfl rfl ?_
  refine j_bipush (z := 8) V dX6_init_147 (by decide +kernel) ?_
  refine j_icmp_ge (tgt := 171) V dX6_init_149 rfl (fun h => absurd h (by decide)) (fun _ => ?_)
  refine j_aload_n V dX6_init_152 rfl rfl ?_
  refine j_getN (k := 0) (fs := [some (.inr 1), some (.inr 2), some (.inr 17), some (.inr 32), some (.inr 47), some (.inr 50), some (.inr 53), some (.inr 56), some (.inr 58), some (.inr 60), some (.inr 61), some (.inr 62), some (.inr 63), some (.inl (0)), some (.inl (-1))]) (rr := 1) V dX6_init_153 fl_X6_11 (aq (by decide +kernel)) rfl ?_
  refine j_iload_n V dX6_init_156 rfl rfl ?_
  refine k_new 76 1662 (by decide +kernel) rfl V nw_X6_9 dX6_init_157 (by decide +kernel) (by decide +kernel) ?_
  refine j_dup V dX6_init_160 rfl ?_
  refine k_world wW70 (wq (by decide +kernel)) ?_
  refine j_initN (k := 76) (As := []) V hX dX6_init_161 mw_X4_init mn_X6_78 (X4_init_at76) rfl rfl (Nat.le_of_ble_eq_true rfl) (by decide +kernel) (by decide +kernel) ?_
  refine j_astN (k := 1) (t := 2) (q := 6) (r := 76) (ci := 4) (rs := [some 64, some 66, some 68, some 70, some 72, some 74, none, none]) (vs := [some (.inr 77), some (.inl (-1)), some (.inl (0)), some (.inl (-1))]) (rc := (RX4, TX4, 4)) V dX6_init_164 (aq (by decide +kernel)) rfl (aq (by decide +kernel)) rfl rfl (by decide +kernel) (by decide +kernel) ?_
  refine j_iinc (z := 7) V dX6_init_165 rfl (by decide +kernel) rfl ?_
  refine j_goto (tgt := 146) V dX6_init_168 rfl ?_
  refine j_iload_n V dX6_init_146 rfl rfl ?_
  refine j_bipush (z := 8) V dX6_init_147 (by decide +kernel) ?_
  refine j_icmp_ge (tgt := 171) V dX6_init_149 rfl (fun h => absurd h (by decide)) (fun _ => ?_)
  refine j_aload_n V dX6_init_152 rfl rfl ?_
  refine j_getN (k := 0) (fs := [some (.inr 1), some (.inr 2), some (.inr 17), some (.inr 32), some (.inr 47), some (.inr 50), some (.inr 53), some (.inr 56), some (.inr 58), some (.inr 60), some (.inr 61), some (.inr 62), some (.inr 63), some (.inl (0)), some (.inl (-1))]) (rr := 1) V dX6_init_153 fl_X6_11 (aq (by decide +kernel)) rfl ?_
  refine j_iload_n V dX6_init_156 rfl rfl ?_
  refine k_new 78 1826 (by decide +kernel) rfl V nw_X6_9 dX6_init_157 (by decide +kernel) (by decide +kernel) ?_
  refine j_dup V dX6_init_160 rfl ?_
  refine k_world wW72 (wq (by decide +kernel)) ?_
  refine j_initN (k := 78) (As := []) V hX dX6_init_161 mw_X4_init mn_X6_78 (X4_init_at78) rfl rfl (Nat.le_of_ble_eq_true rfl) (by decide +kernel) (by decide +kernel) ?_
  refine j_astN (k := 1) (t := 2) (q := 7) (r := 78) (ci := 4) (rs := [some 64, some 66, some 68, some 70, some 72, some 74, some 76, none]) (vs := [some (.inr 79), some (.inl (-1)), some (.inl (0)), some (.inl (-1))]) (rc := (RX4, TX4, 4)) V dX6_init_164 (aq (by decide +kernel)) rfl (aq (by decide +kernel)) rfl rfl (by decide +kernel) (by decide +kernel) ?_
  refine j_iinc (z := 8) V dX6_init_165 rfl (by decide +kernel) rfl ?_
  refine j_goto (tgt := 146) V dX6_init_168 rfl ?_
  refine j_iload_n V dX6_init_146 rfl rfl ?_
  refine j_bipush (z := 8) V dX6_init_147 (by decide +kernel) ?_
  refine j_icmp_ge (tgt := 171) V dX6_init_149 rfl (fun _ => ?_) (fun h => absurd (by decide) h)
  refine k_world wW74 (wq (by decide +kernel)) ?_
  exact j_vret V dX6_init_171
def wW75 : List LN := [
  .inl (6, [some (.inr 1), some (.inr 2), some (.inr 17), some (.inr 32), some (.inr 47), some (.inr 50), some (.inr 53), some (.inr 56), some (.inr 58), some (.inr 60), some (.inr 61), some (.inr 62), some (.inr 63), some (.inl (0)), some (.inl (-1))]),
  .inr (.inr (2, [some 64, some 66, some 68, some 70, some 72, some 74, some 76, some 78])),
  .inl (5, [some (.inr 3), some (.inr 4), some (.inl (0)), some (.inl (60)), some (.inl (20)), some (.inl (1000)), some (.inl (0)), some (.inl (0)), some (.inl (0)), some (.inl (1))]),
  .inr (.inr (3, [some 5, some 7, some 9, some 11, some 13, some 15])),
  .inr (.inl (10, false, [])),
  .inl (1, [some (.inl (0)), some (.inl (0)), some (.inl (0)), some (.inr 6)]),
  .inr (.inl (12, false, [])),
  .inl (1, [some (.inl (0)), some (.inl (0)), some (.inl (0)), some (.inr 8)]),
  .inr (.inl (12, false, [])),
  .inl (1, [some (.inl (0)), some (.inl (0)), some (.inl (0)), some (.inr 10)]),
  .inr (.inl (12, false, [])),
  .inl (1, [some (.inl (0)), some (.inl (0)), some (.inl (0)), some (.inr 12)]),
  .inr (.inl (12, false, [])),
  .inl (1, [some (.inl (0)), some (.inl (0)), some (.inl (0)), some (.inr 14)]),
  .inr (.inl (12, false, [])),
  .inl (1, [some (.inl (0)), some (.inl (0)), some (.inl (0)), some (.inr 16)]),
  .inr (.inl (12, false, [])),
  .inl (5, [some (.inr 18), some (.inr 19), some (.inl (0)), some (.inl (60)), some (.inl (20)), some (.inl (1000)), some (.inl (0)), some (.inl (0)), some (.inl (0)), some (.inl (1))]),
  .inr (.inr (3, [some 20, some 22, some 24, some 26, some 28, some 30])),
  .inr (.inl (10, false, [])),
  .inl (1, [some (.inl (0)), some (.inl (0)), some (.inl (0)), some (.inr 21)]),
  .inr (.inl (12, false, [])),
  .inl (1, [some (.inl (0)), some (.inl (0)), some (.inl (0)), some (.inr 23)]),
  .inr (.inl (12, false, [])),
  .inl (1, [some (.inl (0)), some (.inl (0)), some (.inl (0)), some (.inr 25)]),
  .inr (.inl (12, false, [])),
  .inl (1, [some (.inl (0)), some (.inl (0)), some (.inl (0)), some (.inr 27)]),
  .inr (.inl (12, false, [])),
  .inl (1, [some (.inl (0)), some (.inl (0)), some (.inl (0)), some (.inr 29)]),
  .inr (.inl (12, false, [])),
  .inl (1, [some (.inl (0)), some (.inl (0)), some (.inl (0)), some (.inr 31)]),
  .inr (.inl (12, false, [])),
  .inl (5, [some (.inr 33), some (.inr 34), some (.inl (0)), some (.inl (60)), some (.inl (20)), some (.inl (1000)), some (.inl (0)), some (.inl (0)), some (.inl (0)), some (.inl (1))]),
  .inr (.inr (3, [some 35, some 37, some 39, some 41, some 43, some 45])),
  .inr (.inl (10, false, [])),
  .inl (1, [some (.inl (0)), some (.inl (0)), some (.inl (0)), some (.inr 36)]),
  .inr (.inl (12, false, [])),
  .inl (1, [some (.inl (0)), some (.inl (0)), some (.inl (0)), some (.inr 38)]),
  .inr (.inl (12, false, [])),
  .inl (1, [some (.inl (0)), some (.inl (0)), some (.inl (0)), some (.inr 40)]),
  .inr (.inl (12, false, [])),
  .inl (1, [some (.inl (0)), some (.inl (0)), some (.inl (0)), some (.inr 42)]),
  .inr (.inl (12, false, [])),
  .inl (1, [some (.inl (0)), some (.inl (0)), some (.inl (0)), some (.inr 44)]),
  .inr (.inl (12, false, [])),
  .inl (1, [some (.inl (0)), some (.inl (0)), some (.inl (0)), some (.inr 46)]),
  .inr (.inl (12, false, [])),
  .inl (2, [some (.inr 48), some (.inl (0)), some (.inl (0)), some (.inl (0)), some (.inl (0)), some (.inl (0)), some (.inl (0))]),
  .inl (1, [some (.inl (0)), some (.inl (0)), some (.inl (0)), some (.inr 49)]),
  .inr (.inl (12, false, [])),
  .inl (2, [some (.inr 51), some (.inl (0)), some (.inl (0)), some (.inl (0)), some (.inl (0)), some (.inl (0)), some (.inl (0))]),
  .inl (1, [some (.inl (0)), some (.inl (0)), some (.inl (0)), some (.inr 52)]),
  .inr (.inl (12, false, [])),
  .inl (3, [some (.inr 32), some (.inr 47), some (.inr 54), some (.inr 55), some (.inl (0)), some (.inl (0)), some (.inl (-1))]),
  .inr (.inl (160, false, [])),
  .inr (.inl (3, false, [])),
  .inl (0, [some (.inr 57), some (.inl (0)), some (.inl (0)), some (.inl (0)), some (.inl (0))]),
  .inr (.inl (20, false, [])),
  .inl (1, [some (.inl (0)), some (.inl (0)), some (.inl (0)), some (.inr 59)]),
  .inr (.inl (12, false, [])),
  .inr (.inl (8, false, [])),
  .inr (.inl (25, false, [])),
  .inr (.inl (5, false, [])),
  .inr (.inl (5, false, [])),
  .inl (4, [some (.inr 65), some (.inl (-1)), some (.inl (0)), some (.inl (-1))]),
  .inr (.inl (160, true, [])),
  .inl (4, [some (.inr 67), some (.inl (-1)), some (.inl (0)), some (.inl (-1))]),
  .inr (.inl (160, true, [])),
  .inl (4, [some (.inr 69), some (.inl (-1)), some (.inl (0)), some (.inl (-1))]),
  .inr (.inl (160, true, [])),
  .inl (4, [some (.inr 71), some (.inl (-1)), some (.inl (0)), some (.inl (-1))]),
  .inr (.inl (160, true, [])),
  .inl (4, [some (.inr 73), some (.inl (-1)), some (.inl (0)), some (.inl (-1))]),
  .inr (.inl (160, true, [])),
  .inl (4, [some (.inr 75), some (.inl (-1)), some (.inl (0)), some (.inl (-1))]),
  .inr (.inl (160, true, [])),
  .inl (4, [some (.inr 77), some (.inl (-1)), some (.inl (0)), some (.inl (-1))]),
  .inr (.inl (160, true, [])),
  .inl (4, [some (.inr 79), some (.inl (-1)), some (.inl (0)), some (.inl (-1))]),
  .inr (.inl (160, true, [])),
  .inl (7, [some (.inl (0)), some (.inl (0)), some (.inl (0)), some (.inl (0)), some (.inl (0)), some (.inl (0)), some (.inl (0)), some (.inl (0)), some (.inl (0)), none, none, none, none, none, none, none, none, none, none, none, none, none, none, some (.inl (0)), some (.inl (0)), some (.inl (0)), some (.inl (0)), some (.inl (0)), none, none, none, none, some (.inl (0)), some (.inl (0)), some (.inl (0)), some (.inl (0)), some (.inl (0)), none, none, some (.inl (0)), none, some (.inl (0)), some (.inl (0))])]
def wW76 : List LN := [
  .inl (6, [some (.inr 1), some (.inr 2), some (.inr 17), some (.inr 32), some (.inr 47), some (.inr 50), some (.inr 53), some (.inr 56), some (.inr 58), some (.inr 60), some (.inr 61), some (.inr 62), some (.inr 63), some (.inl (0)), some (.inl (-1))]),
  .inr (.inr (2, [some 64, some 66, some 68, some 70, some 72, some 74, some 76, some 78])),
  .inl (5, [some (.inr 3), some (.inr 4), some (.inl (0)), some (.inl (60)), some (.inl (20)), some (.inl (1000)), some (.inl (0)), some (.inl (0)), some (.inl (0)), some (.inl (1))]),
  .inr (.inr (3, [some 5, some 7, some 9, some 11, some 13, some 15])),
  .inr (.inl (10, false, [])),
  .inl (1, [some (.inl (0)), some (.inl (0)), some (.inl (0)), some (.inr 6)]),
  .inr (.inl (12, false, [])),
  .inl (1, [some (.inl (0)), some (.inl (0)), some (.inl (0)), some (.inr 8)]),
  .inr (.inl (12, false, [])),
  .inl (1, [some (.inl (0)), some (.inl (0)), some (.inl (0)), some (.inr 10)]),
  .inr (.inl (12, false, [])),
  .inl (1, [some (.inl (0)), some (.inl (0)), some (.inl (0)), some (.inr 12)]),
  .inr (.inl (12, false, [])),
  .inl (1, [some (.inl (0)), some (.inl (0)), some (.inl (0)), some (.inr 14)]),
  .inr (.inl (12, false, [])),
  .inl (1, [some (.inl (0)), some (.inl (0)), some (.inl (0)), some (.inr 16)]),
  .inr (.inl (12, false, [])),
  .inl (5, [some (.inr 18), some (.inr 19), some (.inl (0)), some (.inl (60)), some (.inl (20)), some (.inl (1000)), some (.inl (0)), some (.inl (0)), some (.inl (0)), some (.inl (1))]),
  .inr (.inr (3, [some 20, some 22, some 24, some 26, some 28, some 30])),
  .inr (.inl (10, false, [])),
  .inl (1, [some (.inl (0)), some (.inl (0)), some (.inl (0)), some (.inr 21)]),
  .inr (.inl (12, false, [])),
  .inl (1, [some (.inl (0)), some (.inl (0)), some (.inl (0)), some (.inr 23)]),
  .inr (.inl (12, false, [])),
  .inl (1, [some (.inl (0)), some (.inl (0)), some (.inl (0)), some (.inr 25)]),
  .inr (.inl (12, false, [])),
  .inl (1, [some (.inl (0)), some (.inl (0)), some (.inl (0)), some (.inr 27)]),
  .inr (.inl (12, false, [])),
  .inl (1, [some (.inl (0)), some (.inl (0)), some (.inl (0)), some (.inr 29)]),
  .inr (.inl (12, false, [])),
  .inl (1, [some (.inl (0)), some (.inl (0)), some (.inl (0)), some (.inr 31)]),
  .inr (.inl (12, false, [])),
  .inl (5, [some (.inr 33), some (.inr 34), some (.inl (0)), some (.inl (60)), some (.inl (20)), some (.inl (1000)), some (.inl (0)), some (.inl (0)), some (.inl (0)), some (.inl (1))]),
  .inr (.inr (3, [some 35, some 37, some 39, some 41, some 43, some 45])),
  .inr (.inl (10, false, [])),
  .inl (1, [some (.inl (0)), some (.inl (0)), some (.inl (0)), some (.inr 36)]),
  .inr (.inl (12, false, [])),
  .inl (1, [some (.inl (0)), some (.inl (0)), some (.inl (0)), some (.inr 38)]),
  .inr (.inl (12, false, [])),
  .inl (1, [some (.inl (0)), some (.inl (0)), some (.inl (0)), some (.inr 40)]),
  .inr (.inl (12, false, [])),
  .inl (1, [some (.inl (0)), some (.inl (0)), some (.inl (0)), some (.inr 42)]),
  .inr (.inl (12, false, [])),
  .inl (1, [some (.inl (0)), some (.inl (0)), some (.inl (0)), some (.inr 44)]),
  .inr (.inl (12, false, [])),
  .inl (1, [some (.inl (0)), some (.inl (0)), some (.inl (0)), some (.inr 46)]),
  .inr (.inl (12, false, [])),
  .inl (2, [some (.inr 48), some (.inl (0)), some (.inl (0)), some (.inl (0)), some (.inl (0)), some (.inl (0)), some (.inl (0))]),
  .inl (1, [some (.inl (0)), some (.inl (0)), some (.inl (0)), some (.inr 49)]),
  .inr (.inl (12, false, [])),
  .inl (2, [some (.inr 51), some (.inl (0)), some (.inl (0)), some (.inl (0)), some (.inl (0)), some (.inl (0)), some (.inl (0))]),
  .inl (1, [some (.inl (0)), some (.inl (0)), some (.inl (0)), some (.inr 52)]),
  .inr (.inl (12, false, [])),
  .inl (3, [some (.inr 32), some (.inr 47), some (.inr 54), some (.inr 55), some (.inl (0)), some (.inl (0)), some (.inl (-1))]),
  .inr (.inl (160, false, [])),
  .inr (.inl (3, false, [])),
  .inl (0, [some (.inr 57), some (.inl (0)), some (.inl (0)), some (.inl (0)), some (.inl (0))]),
  .inr (.inl (20, false, [])),
  .inl (1, [some (.inl (0)), some (.inl (0)), some (.inl (0)), some (.inr 59)]),
  .inr (.inl (12, false, [])),
  .inr (.inl (8, false, [])),
  .inr (.inl (25, false, [])),
  .inr (.inl (5, false, [])),
  .inr (.inl (5, false, [])),
  .inl (4, [some (.inr 65), some (.inl (-1)), some (.inl (0)), some (.inl (-1))]),
  .inr (.inl (160, true, [])),
  .inl (4, [some (.inr 67), some (.inl (-1)), some (.inl (0)), some (.inl (-1))]),
  .inr (.inl (160, true, [])),
  .inl (4, [some (.inr 69), some (.inl (-1)), some (.inl (0)), some (.inl (-1))]),
  .inr (.inl (160, true, [])),
  .inl (4, [some (.inr 71), some (.inl (-1)), some (.inl (0)), some (.inl (-1))]),
  .inr (.inl (160, true, [])),
  .inl (4, [some (.inr 73), some (.inl (-1)), some (.inl (0)), some (.inl (-1))]),
  .inr (.inl (160, true, [])),
  .inl (4, [some (.inr 75), some (.inl (-1)), some (.inl (0)), some (.inl (-1))]),
  .inr (.inl (160, true, [])),
  .inl (4, [some (.inr 77), some (.inl (-1)), some (.inl (0)), some (.inl (-1))]),
  .inr (.inl (160, true, [])),
  .inl (4, [some (.inr 79), some (.inl (-1)), some (.inl (0)), some (.inl (-1))]),
  .inr (.inl (160, true, [])),
  .inl (7, [some (.inl (0)), some (.inl (60)), some (.inl (20)), some (.inl (1000)), some (.inl (0)), some (.inl (0)), some (.inl (0)), some (.inl (1)), some (.inl (-1)), some (.inr 81), some (.inr 82), some (.inr 83), some (.inr 84), some (.inr 85), some (.inr 86), some (.inr 87), some (.inr 88), some (.inr 89), some (.inr 90), some (.inr 91), some (.inr 92), none, none, some (.inl (0)), some (.inl (0)), some (.inl (0)), some (.inl (0)), some (.inl (0)), none, none, none, none, some (.inl (0)), some (.inl (0)), some (.inl (0)), some (.inl (0)), some (.inl (0)), none, none, some (.inl (0)), none, some (.inl (0)), some (.inl (0))]),
  .inr (.inl (8, false, [])),
  .inr (.inl (6, false, [])),
  .inr (.inl (6, false, [])),
  .inr (.inl (6, false, [])),
  .inr (.inl (72, false, [])),
  .inr (.inl (10, false, [])),
  .inr (.inl (8, false, [])),
  .inr (.inl (8, false, [])),
  .inr (.inl (8, false, [])),
  .inr (.inl (8, false, [])),
  .inr (.inl (1280, true, [])),
  .inr (.inl (160, true, [])),
  .inr (.inl (43, false, [98, 105, 115, 99, 117, 105, 116, 32]))]
def wW77 : List LN := [
  .inl (6, [some (.inr 1), some (.inr 2), some (.inr 17), some (.inr 32), some (.inr 47), some (.inr 50), some (.inr 53), some (.inr 56), some (.inr 58), some (.inr 60), some (.inr 61), some (.inr 62), some (.inr 63), some (.inl (0)), some (.inl (-1))]),
  .inr (.inr (2, [some 64, some 66, some 68, some 70, some 72, some 74, some 76, some 78])),
  .inl (5, [some (.inr 3), some (.inr 4), some (.inl (0)), some (.inl (60)), some (.inl (20)), some (.inl (1000)), some (.inl (0)), some (.inl (0)), some (.inl (0)), some (.inl (1))]),
  .inr (.inr (3, [some 5, some 7, some 9, some 11, some 13, some 15])),
  .inr (.inl (10, false, [])),
  .inl (1, [some (.inl (0)), some (.inl (0)), some (.inl (0)), some (.inr 6)]),
  .inr (.inl (12, false, [])),
  .inl (1, [some (.inl (0)), some (.inl (0)), some (.inl (0)), some (.inr 8)]),
  .inr (.inl (12, false, [])),
  .inl (1, [some (.inl (0)), some (.inl (0)), some (.inl (0)), some (.inr 10)]),
  .inr (.inl (12, false, [])),
  .inl (1, [some (.inl (0)), some (.inl (0)), some (.inl (0)), some (.inr 12)]),
  .inr (.inl (12, false, [])),
  .inl (1, [some (.inl (0)), some (.inl (0)), some (.inl (0)), some (.inr 14)]),
  .inr (.inl (12, false, [])),
  .inl (1, [some (.inl (0)), some (.inl (0)), some (.inl (0)), some (.inr 16)]),
  .inr (.inl (12, false, [])),
  .inl (5, [some (.inr 18), some (.inr 19), some (.inl (0)), some (.inl (60)), some (.inl (20)), some (.inl (1000)), some (.inl (0)), some (.inl (0)), some (.inl (0)), some (.inl (1))]),
  .inr (.inr (3, [some 20, some 22, some 24, some 26, some 28, some 30])),
  .inr (.inl (10, false, [])),
  .inl (1, [some (.inl (0)), some (.inl (0)), some (.inl (0)), some (.inr 21)]),
  .inr (.inl (12, false, [])),
  .inl (1, [some (.inl (0)), some (.inl (0)), some (.inl (0)), some (.inr 23)]),
  .inr (.inl (12, false, [])),
  .inl (1, [some (.inl (0)), some (.inl (0)), some (.inl (0)), some (.inr 25)]),
  .inr (.inl (12, false, [])),
  .inl (1, [some (.inl (0)), some (.inl (0)), some (.inl (0)), some (.inr 27)]),
  .inr (.inl (12, false, [])),
  .inl (1, [some (.inl (0)), some (.inl (0)), some (.inl (0)), some (.inr 29)]),
  .inr (.inl (12, false, [])),
  .inl (1, [some (.inl (0)), some (.inl (0)), some (.inl (0)), some (.inr 31)]),
  .inr (.inl (12, false, [])),
  .inl (5, [some (.inr 33), some (.inr 34), some (.inl (0)), some (.inl (60)), some (.inl (20)), some (.inl (1000)), some (.inl (0)), some (.inl (0)), some (.inl (0)), some (.inl (1))]),
  .inr (.inr (3, [some 35, some 37, some 39, some 41, some 43, some 45])),
  .inr (.inl (10, false, [])),
  .inl (1, [some (.inl (0)), some (.inl (0)), some (.inl (0)), some (.inr 36)]),
  .inr (.inl (12, false, [])),
  .inl (1, [some (.inl (0)), some (.inl (0)), some (.inl (0)), some (.inr 38)]),
  .inr (.inl (12, false, [])),
  .inl (1, [some (.inl (0)), some (.inl (0)), some (.inl (0)), some (.inr 40)]),
  .inr (.inl (12, false, [])),
  .inl (1, [some (.inl (0)), some (.inl (0)), some (.inl (0)), some (.inr 42)]),
  .inr (.inl (12, false, [])),
  .inl (1, [some (.inl (0)), some (.inl (0)), some (.inl (0)), some (.inr 44)]),
  .inr (.inl (12, false, [])),
  .inl (1, [some (.inl (0)), some (.inl (0)), some (.inl (0)), some (.inr 46)]),
  .inr (.inl (12, false, [])),
  .inl (2, [some (.inr 48), some (.inl (0)), some (.inl (0)), some (.inl (0)), some (.inl (0)), some (.inl (0)), some (.inl (0))]),
  .inl (1, [some (.inl (0)), some (.inl (0)), some (.inl (0)), some (.inr 49)]),
  .inr (.inl (12, false, [])),
  .inl (2, [some (.inr 51), some (.inl (0)), some (.inl (0)), some (.inl (0)), some (.inl (0)), some (.inl (0)), some (.inl (0))]),
  .inl (1, [some (.inl (0)), some (.inl (0)), some (.inl (0)), some (.inr 52)]),
  .inr (.inl (12, false, [])),
  .inl (3, [some (.inr 32), some (.inr 47), some (.inr 54), some (.inr 55), some (.inl (0)), some (.inl (0)), some (.inl (-1))]),
  .inr (.inl (160, false, [])),
  .inr (.inl (3, false, [])),
  .inl (0, [some (.inr 57), some (.inl (0)), some (.inl (0)), some (.inl (0)), some (.inl (0))]),
  .inr (.inl (20, false, [])),
  .inl (1, [some (.inl (0)), some (.inl (0)), some (.inl (0)), some (.inr 59)]),
  .inr (.inl (12, false, [])),
  .inr (.inl (8, false, [])),
  .inr (.inl (25, false, [])),
  .inr (.inl (5, false, [])),
  .inr (.inl (5, false, [])),
  .inl (4, [some (.inr 65), some (.inl (-1)), some (.inl (0)), some (.inl (-1))]),
  .inr (.inl (160, true, [])),
  .inl (4, [some (.inr 67), some (.inl (-1)), some (.inl (0)), some (.inl (-1))]),
  .inr (.inl (160, true, [])),
  .inl (4, [some (.inr 69), some (.inl (-1)), some (.inl (0)), some (.inl (-1))]),
  .inr (.inl (160, true, [])),
  .inl (4, [some (.inr 71), some (.inl (-1)), some (.inl (0)), some (.inl (-1))]),
  .inr (.inl (160, true, [])),
  .inl (4, [some (.inr 73), some (.inl (-1)), some (.inl (0)), some (.inl (-1))]),
  .inr (.inl (160, true, [])),
  .inl (4, [some (.inr 75), some (.inl (-1)), some (.inl (0)), some (.inl (-1))]),
  .inr (.inl (160, true, [])),
  .inl (4, [some (.inr 77), some (.inl (-1)), some (.inl (0)), some (.inl (-1))]),
  .inr (.inl (160, true, [])),
  .inl (4, [some (.inr 79), some (.inl (-1)), some (.inl (0)), some (.inl (-1))]),
  .inr (.inl (160, true, [])),
  .inl (7, [some (.inl (0)), some (.inl (60)), some (.inl (20)), some (.inl (1000)), some (.inl (0)), some (.inl (0)), some (.inl (0)), some (.inl (1)), some (.inl (-1)), some (.inr 81), some (.inr 82), some (.inr 83), some (.inr 84), some (.inr 85), some (.inr 86), some (.inr 87), some (.inr 88), some (.inr 89), some (.inr 90), some (.inr 91), some (.inr 92), none, none, some (.inl (0)), some (.inl (0)), some (.inl (0)), some (.inl (0)), some (.inl (0)), none, none, none, none, some (.inl (0)), some (.inl (0)), some (.inl (0)), some (.inl (0)), some (.inl (0)), none, none, some (.inl (0)), none, some (.inl (0)), some (.inl (0))]),
  .inr (.inl (8, false, [])),
  .inr (.inl (6, false, [])),
  .inr (.inl (6, false, [])),
  .inr (.inl (6, false, [])),
  .inr (.inl (72, false, [])),
  .inr (.inl (10, false, [])),
  .inr (.inl (8, false, [])),
  .inr (.inl (8, false, [])),
  .inr (.inl (8, false, [])),
  .inr (.inl (8, false, [])),
  .inr (.inl (1280, true, [])),
  .inr (.inl (160, true, [])),
  .inr (.inl (43, false, [98, 105, 115, 99, 117, 105, 116, 32, 0, 119, 101, 116, 32, 0, 104, 101]))]
def wW78 : List LN := [
  .inl (6, [some (.inr 1), some (.inr 2), some (.inr 17), some (.inr 32), some (.inr 47), some (.inr 50), some (.inr 53), some (.inr 56), some (.inr 58), some (.inr 60), some (.inr 61), some (.inr 62), some (.inr 63), some (.inl (0)), some (.inl (-1))]),
  .inr (.inr (2, [some 64, some 66, some 68, some 70, some 72, some 74, some 76, some 78])),
  .inl (5, [some (.inr 3), some (.inr 4), some (.inl (0)), some (.inl (60)), some (.inl (20)), some (.inl (1000)), some (.inl (0)), some (.inl (0)), some (.inl (0)), some (.inl (1))]),
  .inr (.inr (3, [some 5, some 7, some 9, some 11, some 13, some 15])),
  .inr (.inl (10, false, [])),
  .inl (1, [some (.inl (0)), some (.inl (0)), some (.inl (0)), some (.inr 6)]),
  .inr (.inl (12, false, [])),
  .inl (1, [some (.inl (0)), some (.inl (0)), some (.inl (0)), some (.inr 8)]),
  .inr (.inl (12, false, [])),
  .inl (1, [some (.inl (0)), some (.inl (0)), some (.inl (0)), some (.inr 10)]),
  .inr (.inl (12, false, [])),
  .inl (1, [some (.inl (0)), some (.inl (0)), some (.inl (0)), some (.inr 12)]),
  .inr (.inl (12, false, [])),
  .inl (1, [some (.inl (0)), some (.inl (0)), some (.inl (0)), some (.inr 14)]),
  .inr (.inl (12, false, [])),
  .inl (1, [some (.inl (0)), some (.inl (0)), some (.inl (0)), some (.inr 16)]),
  .inr (.inl (12, false, [])),
  .inl (5, [some (.inr 18), some (.inr 19), some (.inl (0)), some (.inl (60)), some (.inl (20)), some (.inl (1000)), some (.inl (0)), some (.inl (0)), some (.inl (0)), some (.inl (1))]),
  .inr (.inr (3, [some 20, some 22, some 24, some 26, some 28, some 30])),
  .inr (.inl (10, false, [])),
  .inl (1, [some (.inl (0)), some (.inl (0)), some (.inl (0)), some (.inr 21)]),
  .inr (.inl (12, false, [])),
  .inl (1, [some (.inl (0)), some (.inl (0)), some (.inl (0)), some (.inr 23)]),
  .inr (.inl (12, false, [])),
  .inl (1, [some (.inl (0)), some (.inl (0)), some (.inl (0)), some (.inr 25)]),
  .inr (.inl (12, false, [])),
  .inl (1, [some (.inl (0)), some (.inl (0)), some (.inl (0)), some (.inr 27)]),
  .inr (.inl (12, false, [])),
  .inl (1, [some (.inl (0)), some (.inl (0)), some (.inl (0)), some (.inr 29)]),
  .inr (.inl (12, false, [])),
  .inl (1, [some (.inl (0)), some (.inl (0)), some (.inl (0)), some (.inr 31)]),
  .inr (.inl (12, false, [])),
  .inl (5, [some (.inr 33), some (.inr 34), some (.inl (0)), some (.inl (60)), some (.inl (20)), some (.inl (1000)), some (.inl (0)), some (.inl (0)), some (.inl (0)), some (.inl (1))]),
  .inr (.inr (3, [some 35, some 37, some 39, some 41, some 43, some 45])),
  .inr (.inl (10, false, [])),
  .inl (1, [some (.inl (0)), some (.inl (0)), some (.inl (0)), some (.inr 36)]),
  .inr (.inl (12, false, [])),
  .inl (1, [some (.inl (0)), some (.inl (0)), some (.inl (0)), some (.inr 38)]),
  .inr (.inl (12, false, [])),
  .inl (1, [some (.inl (0)), some (.inl (0)), some (.inl (0)), some (.inr 40)]),
  .inr (.inl (12, false, [])),
  .inl (1, [some (.inl (0)), some (.inl (0)), some (.inl (0)), some (.inr 42)]),
  .inr (.inl (12, false, [])),
  .inl (1, [some (.inl (0)), some (.inl (0)), some (.inl (0)), some (.inr 44)]),
  .inr (.inl (12, false, [])),
  .inl (1, [some (.inl (0)), some (.inl (0)), some (.inl (0)), some (.inr 46)]),
  .inr (.inl (12, false, [])),
  .inl (2, [some (.inr 48), some (.inl (0)), some (.inl (0)), some (.inl (0)), some (.inl (0)), some (.inl (0)), some (.inl (0))]),
  .inl (1, [some (.inl (0)), some (.inl (0)), some (.inl (0)), some (.inr 49)]),
  .inr (.inl (12, false, [])),
  .inl (2, [some (.inr 51), some (.inl (0)), some (.inl (0)), some (.inl (0)), some (.inl (0)), some (.inl (0)), some (.inl (0))]),
  .inl (1, [some (.inl (0)), some (.inl (0)), some (.inl (0)), some (.inr 52)]),
  .inr (.inl (12, false, [])),
  .inl (3, [some (.inr 32), some (.inr 47), some (.inr 54), some (.inr 55), some (.inl (0)), some (.inl (0)), some (.inl (-1))]),
  .inr (.inl (160, false, [])),
  .inr (.inl (3, false, [])),
  .inl (0, [some (.inr 57), some (.inl (0)), some (.inl (0)), some (.inl (0)), some (.inl (0))]),
  .inr (.inl (20, false, [])),
  .inl (1, [some (.inl (0)), some (.inl (0)), some (.inl (0)), some (.inr 59)]),
  .inr (.inl (12, false, [])),
  .inr (.inl (8, false, [])),
  .inr (.inl (25, false, [])),
  .inr (.inl (5, false, [])),
  .inr (.inl (5, false, [])),
  .inl (4, [some (.inr 65), some (.inl (-1)), some (.inl (0)), some (.inl (-1))]),
  .inr (.inl (160, true, [])),
  .inl (4, [some (.inr 67), some (.inl (-1)), some (.inl (0)), some (.inl (-1))]),
  .inr (.inl (160, true, [])),
  .inl (4, [some (.inr 69), some (.inl (-1)), some (.inl (0)), some (.inl (-1))]),
  .inr (.inl (160, true, [])),
  .inl (4, [some (.inr 71), some (.inl (-1)), some (.inl (0)), some (.inl (-1))]),
  .inr (.inl (160, true, [])),
  .inl (4, [some (.inr 73), some (.inl (-1)), some (.inl (0)), some (.inl (-1))]),
  .inr (.inl (160, true, [])),
  .inl (4, [some (.inr 75), some (.inl (-1)), some (.inl (0)), some (.inl (-1))]),
  .inr (.inl (160, true, [])),
  .inl (4, [some (.inr 77), some (.inl (-1)), some (.inl (0)), some (.inl (-1))]),
  .inr (.inl (160, true, [])),
  .inl (4, [some (.inr 79), some (.inl (-1)), some (.inl (0)), some (.inl (-1))]),
  .inr (.inl (160, true, [])),
  .inl (7, [some (.inl (0)), some (.inl (60)), some (.inl (20)), some (.inl (1000)), some (.inl (0)), some (.inl (0)), some (.inl (0)), some (.inl (1)), some (.inl (-1)), some (.inr 81), some (.inr 82), some (.inr 83), some (.inr 84), some (.inr 85), some (.inr 86), some (.inr 87), some (.inr 88), some (.inr 89), some (.inr 90), some (.inr 91), some (.inr 92), none, none, some (.inl (0)), some (.inl (0)), some (.inl (0)), some (.inl (0)), some (.inl (0)), none, none, none, none, some (.inl (0)), some (.inl (0)), some (.inl (0)), some (.inl (0)), some (.inl (0)), none, none, some (.inl (0)), none, some (.inl (0)), some (.inl (0))]),
  .inr (.inl (8, false, [])),
  .inr (.inl (6, false, [])),
  .inr (.inl (6, false, [])),
  .inr (.inl (6, false, [])),
  .inr (.inl (72, false, [])),
  .inr (.inl (10, false, [])),
  .inr (.inl (8, false, [])),
  .inr (.inl (8, false, [])),
  .inr (.inl (8, false, [])),
  .inr (.inl (8, false, [])),
  .inr (.inl (1280, true, [])),
  .inr (.inl (160, true, [])),
  .inr (.inl (43, false, [98, 105, 115, 99, 117, 105, 116, 32, 0, 119, 101, 116, 32, 0, 104, 101, 97, 116, 32, 0, 108, 111, 115, 115]))]
def wW79 : List LN := [
  .inl (6, [some (.inr 1), some (.inr 2), some (.inr 17), some (.inr 32), some (.inr 47), some (.inr 50), some (.inr 53), some (.inr 56), some (.inr 58), some (.inr 60), some (.inr 61), some (.inr 62), some (.inr 63), some (.inl (0)), some (.inl (-1))]),
  .inr (.inr (2, [some 64, some 66, some 68, some 70, some 72, some 74, some 76, some 78])),
  .inl (5, [some (.inr 3), some (.inr 4), some (.inl (0)), some (.inl (60)), some (.inl (20)), some (.inl (1000)), some (.inl (0)), some (.inl (0)), some (.inl (0)), some (.inl (1))]),
  .inr (.inr (3, [some 5, some 7, some 9, some 11, some 13, some 15])),
  .inr (.inl (10, false, [])),
  .inl (1, [some (.inl (0)), some (.inl (0)), some (.inl (0)), some (.inr 6)]),
  .inr (.inl (12, false, [])),
  .inl (1, [some (.inl (0)), some (.inl (0)), some (.inl (0)), some (.inr 8)]),
  .inr (.inl (12, false, [])),
  .inl (1, [some (.inl (0)), some (.inl (0)), some (.inl (0)), some (.inr 10)]),
  .inr (.inl (12, false, [])),
  .inl (1, [some (.inl (0)), some (.inl (0)), some (.inl (0)), some (.inr 12)]),
  .inr (.inl (12, false, [])),
  .inl (1, [some (.inl (0)), some (.inl (0)), some (.inl (0)), some (.inr 14)]),
  .inr (.inl (12, false, [])),
  .inl (1, [some (.inl (0)), some (.inl (0)), some (.inl (0)), some (.inr 16)]),
  .inr (.inl (12, false, [])),
  .inl (5, [some (.inr 18), some (.inr 19), some (.inl (0)), some (.inl (60)), some (.inl (20)), some (.inl (1000)), some (.inl (0)), some (.inl (0)), some (.inl (0)), some (.inl (1))]),
  .inr (.inr (3, [some 20, some 22, some 24, some 26, some 28, some 30])),
  .inr (.inl (10, false, [])),
  .inl (1, [some (.inl (0)), some (.inl (0)), some (.inl (0)), some (.inr 21)]),
  .inr (.inl (12, false, [])),
  .inl (1, [some (.inl (0)), some (.inl (0)), some (.inl (0)), some (.inr 23)]),
  .inr (.inl (12, false, [])),
  .inl (1, [some (.inl (0)), some (.inl (0)), some (.inl (0)), some (.inr 25)]),
  .inr (.inl (12, false, [])),
  .inl (1, [some (.inl (0)), some (.inl (0)), some (.inl (0)), some (.inr 27)]),
  .inr (.inl (12, false, [])),
  .inl (1, [some (.inl (0)), some (.inl (0)), some (.inl (0)), some (.inr 29)]),
  .inr (.inl (12, false, [])),
  .inl (1, [some (.inl (0)), some (.inl (0)), some (.inl (0)), some (.inr 31)]),
  .inr (.inl (12, false, [])),
  .inl (5, [some (.inr 33), some (.inr 34), some (.inl (0)), some (.inl (60)), some (.inl (20)), some (.inl (1000)), some (.inl (0)), some (.inl (0)), some (.inl (0)), some (.inl (1))]),
  .inr (.inr (3, [some 35, some 37, some 39, some 41, some 43, some 45])),
  .inr (.inl (10, false, [])),
  .inl (1, [some (.inl (0)), some (.inl (0)), some (.inl (0)), some (.inr 36)]),
  .inr (.inl (12, false, [])),
  .inl (1, [some (.inl (0)), some (.inl (0)), some (.inl (0)), some (.inr 38)]),
  .inr (.inl (12, false, [])),
  .inl (1, [some (.inl (0)), some (.inl (0)), some (.inl (0)), some (.inr 40)]),
  .inr (.inl (12, false, [])),
  .inl (1, [some (.inl (0)), some (.inl (0)), some (.inl (0)), some (.inr 42)]),
  .inr (.inl (12, false, [])),
  .inl (1, [some (.inl (0)), some (.inl (0)), some (.inl (0)), some (.inr 44)]),
  .inr (.inl (12, false, [])),
  .inl (1, [some (.inl (0)), some (.inl (0)), some (.inl (0)), some (.inr 46)]),
  .inr (.inl (12, false, [])),
  .inl (2, [some (.inr 48), some (.inl (0)), some (.inl (0)), some (.inl (0)), some (.inl (0)), some (.inl (0)), some (.inl (0))]),
  .inl (1, [some (.inl (0)), some (.inl (0)), some (.inl (0)), some (.inr 49)]),
  .inr (.inl (12, false, [])),
  .inl (2, [some (.inr 51), some (.inl (0)), some (.inl (0)), some (.inl (0)), some (.inl (0)), some (.inl (0)), some (.inl (0))]),
  .inl (1, [some (.inl (0)), some (.inl (0)), some (.inl (0)), some (.inr 52)]),
  .inr (.inl (12, false, [])),
  .inl (3, [some (.inr 32), some (.inr 47), some (.inr 54), some (.inr 55), some (.inl (0)), some (.inl (0)), some (.inl (-1))]),
  .inr (.inl (160, false, [])),
  .inr (.inl (3, false, [])),
  .inl (0, [some (.inr 57), some (.inl (0)), some (.inl (0)), some (.inl (0)), some (.inl (0))]),
  .inr (.inl (20, false, [])),
  .inl (1, [some (.inl (0)), some (.inl (0)), some (.inl (0)), some (.inr 59)]),
  .inr (.inl (12, false, [])),
  .inr (.inl (8, false, [])),
  .inr (.inl (25, false, [])),
  .inr (.inl (5, false, [])),
  .inr (.inl (5, false, [])),
  .inl (4, [some (.inr 65), some (.inl (-1)), some (.inl (0)), some (.inl (-1))]),
  .inr (.inl (160, true, [])),
  .inl (4, [some (.inr 67), some (.inl (-1)), some (.inl (0)), some (.inl (-1))]),
  .inr (.inl (160, true, [])),
  .inl (4, [some (.inr 69), some (.inl (-1)), some (.inl (0)), some (.inl (-1))]),
  .inr (.inl (160, true, [])),
  .inl (4, [some (.inr 71), some (.inl (-1)), some (.inl (0)), some (.inl (-1))]),
  .inr (.inl (160, true, [])),
  .inl (4, [some (.inr 73), some (.inl (-1)), some (.inl (0)), some (.inl (-1))]),
  .inr (.inl (160, true, [])),
  .inl (4, [some (.inr 75), some (.inl (-1)), some (.inl (0)), some (.inl (-1))]),
  .inr (.inl (160, true, [])),
  .inl (4, [some (.inr 77), some (.inl (-1)), some (.inl (0)), some (.inl (-1))]),
  .inr (.inl (160, true, [])),
  .inl (4, [some (.inr 79), some (.inl (-1)), some (.inl (0)), some (.inl (-1))]),
  .inr (.inl (160, true, [])),
  .inl (7, [some (.inl (0)), some (.inl (60)), some (.inl (20)), some (.inl (1000)), some (.inl (0)), some (.inl (0)), some (.inl (0)), some (.inl (1)), some (.inl (-1)), some (.inr 81), some (.inr 82), some (.inr 83), some (.inr 84), some (.inr 85), some (.inr 86), some (.inr 87), some (.inr 88), some (.inr 89), some (.inr 90), some (.inr 91), some (.inr 92), none, none, some (.inl (0)), some (.inl (0)), some (.inl (0)), some (.inl (0)), some (.inl (0)), none, none, none, none, some (.inl (0)), some (.inl (0)), some (.inl (0)), some (.inl (0)), some (.inl (0)), none, none, some (.inl (0)), none, some (.inl (0)), some (.inl (0))]),
  .inr (.inl (8, false, [])),
  .inr (.inl (6, false, [])),
  .inr (.inl (6, false, [])),
  .inr (.inl (6, false, [])),
  .inr (.inl (72, false, [])),
  .inr (.inl (10, false, [])),
  .inr (.inl (8, false, [])),
  .inr (.inl (8, false, [])),
  .inr (.inl (8, false, [])),
  .inr (.inl (8, false, [])),
  .inr (.inl (1280, true, [])),
  .inr (.inl (160, true, [])),
  .inr (.inl (43, false, [98, 105, 115, 99, 117, 105, 116, 32, 0, 119, 101, 116, 32, 0, 104, 101, 97, 116, 32, 0, 108, 111, 115, 115, 32, 0, 116, 101, 97, 32, 0, 119]))]
def wW80 : List LN := [
  .inl (6, [some (.inr 1), some (.inr 2), some (.inr 17), some (.inr 32), some (.inr 47), some (.inr 50), some (.inr 53), some (.inr 56), some (.inr 58), some (.inr 60), some (.inr 61), some (.inr 62), some (.inr 63), some (.inl (0)), some (.inl (-1))]),
  .inr (.inr (2, [some 64, some 66, some 68, some 70, some 72, some 74, some 76, some 78])),
  .inl (5, [some (.inr 3), some (.inr 4), some (.inl (0)), some (.inl (60)), some (.inl (20)), some (.inl (1000)), some (.inl (0)), some (.inl (0)), some (.inl (0)), some (.inl (1))]),
  .inr (.inr (3, [some 5, some 7, some 9, some 11, some 13, some 15])),
  .inr (.inl (10, false, [])),
  .inl (1, [some (.inl (0)), some (.inl (0)), some (.inl (0)), some (.inr 6)]),
  .inr (.inl (12, false, [])),
  .inl (1, [some (.inl (0)), some (.inl (0)), some (.inl (0)), some (.inr 8)]),
  .inr (.inl (12, false, [])),
  .inl (1, [some (.inl (0)), some (.inl (0)), some (.inl (0)), some (.inr 10)]),
  .inr (.inl (12, false, [])),
  .inl (1, [some (.inl (0)), some (.inl (0)), some (.inl (0)), some (.inr 12)]),
  .inr (.inl (12, false, [])),
  .inl (1, [some (.inl (0)), some (.inl (0)), some (.inl (0)), some (.inr 14)]),
  .inr (.inl (12, false, [])),
  .inl (1, [some (.inl (0)), some (.inl (0)), some (.inl (0)), some (.inr 16)]),
  .inr (.inl (12, false, [])),
  .inl (5, [some (.inr 18), some (.inr 19), some (.inl (0)), some (.inl (60)), some (.inl (20)), some (.inl (1000)), some (.inl (0)), some (.inl (0)), some (.inl (0)), some (.inl (1))]),
  .inr (.inr (3, [some 20, some 22, some 24, some 26, some 28, some 30])),
  .inr (.inl (10, false, [])),
  .inl (1, [some (.inl (0)), some (.inl (0)), some (.inl (0)), some (.inr 21)]),
  .inr (.inl (12, false, [])),
  .inl (1, [some (.inl (0)), some (.inl (0)), some (.inl (0)), some (.inr 23)]),
  .inr (.inl (12, false, [])),
  .inl (1, [some (.inl (0)), some (.inl (0)), some (.inl (0)), some (.inr 25)]),
  .inr (.inl (12, false, [])),
  .inl (1, [some (.inl (0)), some (.inl (0)), some (.inl (0)), some (.inr 27)]),
  .inr (.inl (12, false, [])),
  .inl (1, [some (.inl (0)), some (.inl (0)), some (.inl (0)), some (.inr 29)]),
  .inr (.inl (12, false, [])),
  .inl (1, [some (.inl (0)), some (.inl (0)), some (.inl (0)), some (.inr 31)]),
  .inr (.inl (12, false, [])),
  .inl (5, [some (.inr 33), some (.inr 34), some (.inl (0)), some (.inl (60)), some (.inl (20)), some (.inl (1000)), some (.inl (0)), some (.inl (0)), some (.inl (0)), some (.inl (1))]),
  .inr (.inr (3, [some 35, some 37, some 39, some 41, some 43, some 45])),
  .inr (.inl (10, false, [])),
  .inl (1, [some (.inl (0)), some (.inl (0)), some (.inl (0)), some (.inr 36)]),
  .inr (.inl (12, false, [])),
  .inl (1, [some (.inl (0)), some (.inl (0)), some (.inl (0)), some (.inr 38)]),
  .inr (.inl (12, false, [])),
  .inl (1, [some (.inl (0)), some (.inl (0)), some (.inl (0)), some (.inr 40)]),
  .inr (.inl (12, false, [])),
  .inl (1, [some (.inl (0)), some (.inl (0)), some (.inl (0)), some (.inr 42)]),
  .inr (.inl (12, false, [])),
  .inl (1, [some (.inl (0)), some (.inl (0)), some (.inl (0)), some (.inr 44)]),
  .inr (.inl (12, false, [])),
  .inl (1, [some (.inl (0)), some (.inl (0)), some (.inl (0)), some (.inr 46)]),
  .inr (.inl (12, false, [])),
  .inl (2, [some (.inr 48), some (.inl (0)), some (.inl (0)), some (.inl (0)), some (.inl (0)), some (.inl (0)), some (.inl (0))]),
  .inl (1, [some (.inl (0)), some (.inl (0)), some (.inl (0)), some (.inr 49)]),
  .inr (.inl (12, false, [])),
  .inl (2, [some (.inr 51), some (.inl (0)), some (.inl (0)), some (.inl (0)), some (.inl (0)), some (.inl (0)), some (.inl (0))]),
  .inl (1, [some (.inl (0)), some (.inl (0)), some (.inl (0)), some (.inr 52)]),
  .inr (.inl (12, false, [])),
  .inl (3, [some (.inr 32), some (.inr 47), some (.inr 54), some (.inr 55), some (.inl (0)), some (.inl (0)), some (.inl (-1))]),
  .inr (.inl (160, false, [])),
  .inr (.inl (3, false, [])),
  .inl (0, [some (.inr 57), some (.inl (0)), some (.inl (0)), some (.inl (0)), some (.inl (0))]),
  .inr (.inl (20, false, [])),
  .inl (1, [some (.inl (0)), some (.inl (0)), some (.inl (0)), some (.inr 59)]),
  .inr (.inl (12, false, [])),
  .inr (.inl (8, false, [])),
  .inr (.inl (25, false, [])),
  .inr (.inl (5, false, [])),
  .inr (.inl (5, false, [])),
  .inl (4, [some (.inr 65), some (.inl (-1)), some (.inl (0)), some (.inl (-1))]),
  .inr (.inl (160, true, [])),
  .inl (4, [some (.inr 67), some (.inl (-1)), some (.inl (0)), some (.inl (-1))]),
  .inr (.inl (160, true, [])),
  .inl (4, [some (.inr 69), some (.inl (-1)), some (.inl (0)), some (.inl (-1))]),
  .inr (.inl (160, true, [])),
  .inl (4, [some (.inr 71), some (.inl (-1)), some (.inl (0)), some (.inl (-1))]),
  .inr (.inl (160, true, [])),
  .inl (4, [some (.inr 73), some (.inl (-1)), some (.inl (0)), some (.inl (-1))]),
  .inr (.inl (160, true, [])),
  .inl (4, [some (.inr 75), some (.inl (-1)), some (.inl (0)), some (.inl (-1))]),
  .inr (.inl (160, true, [])),
  .inl (4, [some (.inr 77), some (.inl (-1)), some (.inl (0)), some (.inl (-1))]),
  .inr (.inl (160, true, [])),
  .inl (4, [some (.inr 79), some (.inl (-1)), some (.inl (0)), some (.inl (-1))]),
  .inr (.inl (160, true, [])),
  .inl (7, [some (.inl (0)), some (.inl (60)), some (.inl (20)), some (.inl (1000)), some (.inl (0)), some (.inl (0)), some (.inl (0)), some (.inl (1)), some (.inl (-1)), some (.inr 81), some (.inr 82), some (.inr 83), some (.inr 84), some (.inr 85), some (.inr 86), some (.inr 87), some (.inr 88), some (.inr 89), some (.inr 90), some (.inr 91), some (.inr 92), none, none, some (.inl (0)), some (.inl (0)), some (.inl (0)), some (.inl (0)), some (.inl (0)), none, none, none, none, some (.inl (0)), some (.inl (0)), some (.inl (0)), some (.inl (0)), some (.inl (0)), none, none, some (.inl (0)), none, some (.inl (0)), some (.inl (0))]),
  .inr (.inl (8, false, [])),
  .inr (.inl (6, false, [])),
  .inr (.inl (6, false, [])),
  .inr (.inl (6, false, [])),
  .inr (.inl (72, false, [])),
  .inr (.inl (10, false, [])),
  .inr (.inl (8, false, [])),
  .inr (.inl (8, false, [])),
  .inr (.inl (8, false, [])),
  .inr (.inl (8, false, [])),
  .inr (.inl (1280, true, [])),
  .inr (.inl (160, true, [])),
  .inr (.inl (43, false, [98, 105, 115, 99, 117, 105, 116, 32, 0, 119, 101, 116, 32, 0, 104, 101, 97, 116, 32, 0, 108, 111, 115, 115, 32, 0, 116, 101, 97, 32, 0, 119, 111, 114, 116, 104, 32, 0, 100, 105]))]
def wW81 : List LN := [
  .inl (6, [some (.inr 1), some (.inr 2), some (.inr 17), some (.inr 32), some (.inr 47), some (.inr 50), some (.inr 53), some (.inr 56), some (.inr 58), some (.inr 60), some (.inr 61), some (.inr 62), some (.inr 63), some (.inl (0)), some (.inl (-1))]),
  .inr (.inr (2, [some 64, some 66, some 68, some 70, some 72, some 74, some 76, some 78])),
  .inl (5, [some (.inr 3), some (.inr 4), some (.inl (0)), some (.inl (60)), some (.inl (20)), some (.inl (1000)), some (.inl (0)), some (.inl (0)), some (.inl (0)), some (.inl (1))]),
  .inr (.inr (3, [some 5, some 7, some 9, some 11, some 13, some 15])),
  .inr (.inl (10, false, [])),
  .inl (1, [some (.inl (0)), some (.inl (0)), some (.inl (0)), some (.inr 6)]),
  .inr (.inl (12, false, [])),
  .inl (1, [some (.inl (0)), some (.inl (0)), some (.inl (0)), some (.inr 8)]),
  .inr (.inl (12, false, [])),
  .inl (1, [some (.inl (0)), some (.inl (0)), some (.inl (0)), some (.inr 10)]),
  .inr (.inl (12, false, [])),
  .inl (1, [some (.inl (0)), some (.inl (0)), some (.inl (0)), some (.inr 12)]),
  .inr (.inl (12, false, [])),
  .inl (1, [some (.inl (0)), some (.inl (0)), some (.inl (0)), some (.inr 14)]),
  .inr (.inl (12, false, [])),
  .inl (1, [some (.inl (0)), some (.inl (0)), some (.inl (0)), some (.inr 16)]),
  .inr (.inl (12, false, [])),
  .inl (5, [some (.inr 18), some (.inr 19), some (.inl (0)), some (.inl (60)), some (.inl (20)), some (.inl (1000)), some (.inl (0)), some (.inl (0)), some (.inl (0)), some (.inl (1))]),
  .inr (.inr (3, [some 20, some 22, some 24, some 26, some 28, some 30])),
  .inr (.inl (10, false, [])),
  .inl (1, [some (.inl (0)), some (.inl (0)), some (.inl (0)), some (.inr 21)]),
  .inr (.inl (12, false, [])),
  .inl (1, [some (.inl (0)), some (.inl (0)), some (.inl (0)), some (.inr 23)]),
  .inr (.inl (12, false, [])),
  .inl (1, [some (.inl (0)), some (.inl (0)), some (.inl (0)), some (.inr 25)]),
  .inr (.inl (12, false, [])),
  .inl (1, [some (.inl (0)), some (.inl (0)), some (.inl (0)), some (.inr 27)]),
  .inr (.inl (12, false, [])),
  .inl (1, [some (.inl (0)), some (.inl (0)), some (.inl (0)), some (.inr 29)]),
  .inr (.inl (12, false, [])),
  .inl (1, [some (.inl (0)), some (.inl (0)), some (.inl (0)), some (.inr 31)]),
  .inr (.inl (12, false, [])),
  .inl (5, [some (.inr 33), some (.inr 34), some (.inl (0)), some (.inl (60)), some (.inl (20)), some (.inl (1000)), some (.inl (0)), some (.inl (0)), some (.inl (0)), some (.inl (1))]),
  .inr (.inr (3, [some 35, some 37, some 39, some 41, some 43, some 45])),
  .inr (.inl (10, false, [])),
  .inl (1, [some (.inl (0)), some (.inl (0)), some (.inl (0)), some (.inr 36)]),
  .inr (.inl (12, false, [])),
  .inl (1, [some (.inl (0)), some (.inl (0)), some (.inl (0)), some (.inr 38)]),
  .inr (.inl (12, false, [])),
  .inl (1, [some (.inl (0)), some (.inl (0)), some (.inl (0)), some (.inr 40)]),
  .inr (.inl (12, false, [])),
  .inl (1, [some (.inl (0)), some (.inl (0)), some (.inl (0)), some (.inr 42)]),
  .inr (.inl (12, false, [])),
  .inl (1, [some (.inl (0)), some (.inl (0)), some (.inl (0)), some (.inr 44)]),
  .inr (.inl (12, false, [])),
  .inl (1, [some (.inl (0)), some (.inl (0)), some (.inl (0)), some (.inr 46)]),
  .inr (.inl (12, false, [])),
  .inl (2, [some (.inr 48), some (.inl (0)), some (.inl (0)), some (.inl (0)), some (.inl (0)), some (.inl (0)), some (.inl (0))]),
  .inl (1, [some (.inl (0)), some (.inl (0)), some (.inl (0)), some (.inr 49)]),
  .inr (.inl (12, false, [])),
  .inl (2, [some (.inr 51), some (.inl (0)), some (.inl (0)), some (.inl (0)), some (.inl (0)), some (.inl (0)), some (.inl (0))]),
  .inl (1, [some (.inl (0)), some (.inl (0)), some (.inl (0)), some (.inr 52)]),
  .inr (.inl (12, false, [])),
  .inl (3, [some (.inr 32), some (.inr 47), some (.inr 54), some (.inr 55), some (.inl (0)), some (.inl (0)), some (.inl (-1))]),
  .inr (.inl (160, false, [])),
  .inr (.inl (3, false, [])),
  .inl (0, [some (.inr 57), some (.inl (0)), some (.inl (0)), some (.inl (0)), some (.inl (0))]),
  .inr (.inl (20, false, [])),
  .inl (1, [some (.inl (0)), some (.inl (0)), some (.inl (0)), some (.inr 59)]),
  .inr (.inl (12, false, [])),
  .inr (.inl (8, false, [])),
  .inr (.inl (25, false, [])),
  .inr (.inl (5, false, [])),
  .inr (.inl (5, false, [])),
  .inl (4, [some (.inr 65), some (.inl (-1)), some (.inl (0)), some (.inl (-1))]),
  .inr (.inl (160, true, [])),
  .inl (4, [some (.inr 67), some (.inl (-1)), some (.inl (0)), some (.inl (-1))]),
  .inr (.inl (160, true, [])),
  .inl (4, [some (.inr 69), some (.inl (-1)), some (.inl (0)), some (.inl (-1))]),
  .inr (.inl (160, true, [])),
  .inl (4, [some (.inr 71), some (.inl (-1)), some (.inl (0)), some (.inl (-1))]),
  .inr (.inl (160, true, [])),
  .inl (4, [some (.inr 73), some (.inl (-1)), some (.inl (0)), some (.inl (-1))]),
  .inr (.inl (160, true, [])),
  .inl (4, [some (.inr 75), some (.inl (-1)), some (.inl (0)), some (.inl (-1))]),
  .inr (.inl (160, true, [])),
  .inl (4, [some (.inr 77), some (.inl (-1)), some (.inl (0)), some (.inl (-1))]),
  .inr (.inl (160, true, [])),
  .inl (4, [some (.inr 79), some (.inl (-1)), some (.inl (0)), some (.inl (-1))]),
  .inr (.inl (160, true, [])),
  .inl (7, [some (.inl (0)), some (.inl (60)), some (.inl (20)), some (.inl (1000)), some (.inl (0)), some (.inl (0)), some (.inl (0)), some (.inl (1)), some (.inl (-1)), some (.inr 81), some (.inr 82), some (.inr 83), some (.inr 84), some (.inr 85), some (.inr 86), some (.inr 87), some (.inr 88), some (.inr 89), some (.inr 90), some (.inr 91), some (.inr 92), some (.inr 93), some (.inr 94), some (.inl (0)), some (.inl (0)), some (.inl (0)), some (.inl (0)), some (.inl (0)), some (.inr 95), some (.inr 96), some (.inr 97), some (.inr 98), some (.inl (0)), some (.inl (0)), some (.inl (0)), some (.inl (0)), some (.inl (0)), some (.inr 99), some (.inr 100), some (.inl (0)), some (.inr 101), some (.inl (0)), some (.inl (0))]),
  .inr (.inl (8, false, [])),
  .inr (.inl (6, false, [])),
  .inr (.inl (6, false, [])),
  .inr (.inl (6, false, [])),
  .inr (.inl (72, false, [])),
  .inr (.inl (10, false, [])),
  .inr (.inl (8, false, [])),
  .inr (.inl (8, false, [])),
  .inr (.inl (8, false, [])),
  .inr (.inl (8, false, [])),
  .inr (.inl (1280, true, [])),
  .inr (.inl (160, true, [])),
  .inr (.inl (43, false, [98, 105, 115, 99, 117, 105, 116, 32, 0, 119, 101, 116, 32, 0, 104, 101, 97, 116, 32, 0, 108, 111, 115, 115, 32, 0, 116, 101, 97, 32, 0, 119, 111, 114, 116, 104, 32, 0, 100, 105, 112, 32, 0])),
  .inr (.inl (3, false, [])),
  .inr (.inl (120, false, [])),
  .inr (.inl (120, false, [])),
  .inr (.inl (12, false, [])),
  .inr (.inl (12, false, [])),
  .inr (.inl (5, false, [])),
  .inr (.inl (5, false, [])),
  .inr (.inl (20, false, []))]
set_option maxRecDepth 100000 in
theorem X7_init_at80 {E : EE} {B : Nat} : CN E B yX7_init cX7_init 1 1 [.ref (B + 80)] wW75 wW81 21 1920 := by
  refine CN.of (own := RX7) (by decide +kernel) rfl rfl (Nat.le_of_ble_eq_true rfl) fun v V hX hi => ?_
  refine j_aload_n V dX7_init_0 rfl rfl ?_
  refine j_objInit V dX7_init_1 ml_X7_1 (by decide +kernel) ?_
  refine j_aload_n V dX7_init_4 rfl rfl ?_
  refine j_bipush (z := 60) V dX7_init_5 (by decide +kernel) ?_
  refine j_put (k := 80) (fs := [some (.inl (0)), some (.inl (0)), some (.inl (0)), some (.inl (0)), some (.inl (0)), some (.inl (0)), some (.inl (0)), some (.inl (0)), some (.inl (0)), none, none, none, none, none, none, none, none, none, none, none, none, none, none, some (.inl (0)), some (.inl (0)), some (.inl (0)), some (.inl (0)), some (.inl (0)), none, none, none, none, some (.inl (0)), some (.inl (0)), some (.inl (0)), some (.inl (0)), some (.inl (0)), none, none, some (.inl (0)), none, some (.inl (0)), some (.inl (0))]) (κ := 1) (some (.inl (60))) V hi dX7_init_7 fl_X7_7 (by decide +kernel) rfl rfl (aq (by decide +kernel)) (by decide +kernel) ?_
  refine j_aload_n V dX7_init_10 rfl rfl ?_
  refine j_bipush (z := 20) V dX7_init_11 (by decide +kernel) ?_
  refine j_put (k := 80) (fs := [some (.inl (0)), some (.inl (60)), some (.inl (0)), some (.inl (0)), some (.inl (0)), some (.inl (0)), some (.inl (0)), some (.inl (0)), some (.inl (0)), none, none, none, none, none, none, none, none, none, none, none, none, none, none, some (.inl (0)), some (.inl (0)), some (.inl (0)), some (.inl (0)), some (.inl (0)), none, none, none, none, some (.inl (0)), some (.inl (0)), some (.inl (0)), some (.inl (0)), some (.inl (0)), none, none, some (.inl (0)), none, some (.inl (0)), some (.inl (0))]) (κ := 1) (some (.inl (20))) V hi dX7_init_13 fl_X7_13 (by decide +kernel) rfl rfl (aq (by decide +kernel)) (by decide +kernel) ?_
  refine j_aload_n V dX7_init_16 rfl rfl ?_
  refine j_sipush (z := 1000) V dX7_init_17 (by decide +kernel) ?_
  refine j_put (k := 80) (fs := [some (.inl (0)), some (.inl (60)), some (.inl (20)), some (.inl (0)), some (.inl (0)), some (.inl (0)), some (.inl (0)), some (.inl (0)), some (.inl (0)), none, none, none, none, none, none, none, none, none, none, none, none, none, none, some (.inl (0)), some (.inl (0)), some (.inl (0)), some (.inl (0)), some (.inl (0)), none, none, none, none, some (.inl (0)), some (.inl (0)), some (.inl (0)), some (.inl (0)), some (.inl (0)), none, none, some (.inl (0)), none, some (.inl (0)), some (.inl (0))]) (κ := 1) (some (.inl (1000))) V hi dX7_init_20 fl_X7_16 (by decide +kernel) rfl rfl (aq (by decide +kernel)) (by decide +kernel) ?_
  refine j_aload_n V dX7_init_23 rfl rfl ?_
  refine j_iconst (z := 1) V dX7_init_24 (by decide +kernel) ?_
  refine j_put (k := 80) (fs := [some (.inl (0)), some (.inl (60)), some (.inl (20)), some (.inl (1000)), some (.inl (0)), some (.inl (0)), some (.inl (0)), some (.inl (0)), some (.inl (0)), none, none, none, none, none, none, none, none, none, none, none, none, none, none, some (.inl (0)), some (.inl (0)), some (.inl (0)), some (.inl (0)), some (.inl (0)), none, none, none, none, some (.inl (0)), some (.inl (0)), some (.inl (0)), some (.inl (0)), some (.inl (0)), none, none, some (.inl (0)), none, some (.inl (0)), some (.inl (0))]) (κ := 1) (some (.inl (1))) V hi dX7_init_25 fl_X7_19 (by decide +kernel) rfl rfl (aq (by decide +kernel)) (by decide +kernel) ?_
  refine j_aload_n V dX7_init_28 rfl rfl ?_
  refine j_iconst (z := -1) V dX7_init_29 (by decide +kernel) ?_
  refine j_put (k := 80) (fs := [some (.inl (0)), some (.inl (60)), some (.inl (20)), some (.inl (1000)), some (.inl (0)), some (.inl (0)), some (.inl (0)), some (.inl (1)), some (.inl (0)), none, none, none, none, none, none, none, none, none, none, none, none, none, none, some (.inl (0)), some (.inl (0)), some (.inl (0)), some (.inl (0)), some (.inl (0)), none, none, none, none, some (.inl (0)), some (.inl (0)), some (.inl (0)), some (.inl (0)), some (.inl (0)), none, none, some (.inl (0)), none, some (.inl (0)), some (.inl (0))]) (κ := 1) (some (.inl (-1))) V hi dX7_init_30 fl_X7_22 (by decide +kernel) rfl rfl (aq (by decide +kernel)) (by decide +kernel) ?_
  refine j_aload_n V dX7_init_33 rfl rfl ?_
  refine j_bipush (z := 8) V dX7_init_34 (by decide +kernel) ?_
  refine k_newI (N := 8) 81 8 (by decide +kernel) rfl V hX dX7_init_36 rfl (by decide +kernel) (by decide +kernel) (by decide +kernel) ?_
  refine j_put (k := 80) (fs := [some (.inl (0)), some (.inl (60)), some (.inl (20)), some (.inl (1000)), some (.inl (0)), some (.inl (0)), some (.inl (0)), some (.inl (1)), some (.inl (-1)), none, none, none, none, none, none, none, none, none, none, none, none, none, none, some (.inl (0)), some (.inl (0)), some (.inl (0)), some (.inl (0)), some (.inl (0)), none, none, none, none, some (.inl (0)), some (.inl (0)), some (.inl (0)), some (.inl (0)), some (.inl (0)), none, none, some (.inl (0)), none, some (.inl (0)), some (.inl (0))]) (κ := 0) (some (.inr 81)) V hi dX7_init_38 fl_X7_25 (by decide +kernel) rfl rfl (aq (by decide +kernel)) (by decide +kernel) ?_
  refine j_aload_n V dX7_init_41 rfl rfl ?_
  refine j_bipush (z := 6) V dX7_init_42 (by decide +kernel) ?_
  refine k_newI (N := 6) 82 14 (by decide +kernel) rfl V hX dX7_init_44 rfl (by decide +kernel) (by decide +kernel) (by decide +kernel) ?_
  refine j_put (k := 80) (fs := [some (.inl (0)), some (.inl (60)), some (.inl (20)), some (.inl (1000)), some (.inl (0)), some (.inl (0)), some (.inl (0)), some (.inl (1)), some (.inl (-1)), some (.inr 81), none, none, none, none, none, none, none, none, none, none, none, none, none, some (.inl (0)), some (.inl (0)), some (.inl (0)), some (.inl (0)), some (.inl (0)), none, none, none, none, some (.inl (0)), some (.inl (0)), some (.inl (0)), some (.inl (0)), some (.inl (0)), none, none, some (.inl (0)), none, some (.inl (0)), some (.inl (0))]) (κ := 0) (some (.inr 82)) V hi dX7_init_46 fl_X7_29 (by decide +kernel) rfl rfl (aq (by decide +kernel)) (by decide +kernel) ?_
  refine j_aload_n V dX7_init_49 rfl rfl ?_
  refine j_bipush (z := 6) V dX7_init_50 (by decide +kernel) ?_
  refine k_newI (N := 6) 83 20 (by decide +kernel) rfl V hX dX7_init_52 rfl (by decide +kernel) (by decide +kernel) (by decide +kernel) ?_
  refine j_put (k := 80) (fs := [some (.inl (0)), some (.inl (60)), some (.inl (20)), some (.inl (1000)), some (.inl (0)), some (.inl (0)), some (.inl (0)), some (.inl (1)), some (.inl (-1)), some (.inr 81), some (.inr 82), none, none, none, none, none, none, none, none, none, none, none, none, some (.inl (0)), some (.inl (0)), some (.inl (0)), some (.inl (0)), some (.inl (0)), none, none, none, none, some (.inl (0)), some (.inl (0)), some (.inl (0)), some (.inl (0)), some (.inl (0)), none, none, some (.inl (0)), none, some (.inl (0)), some (.inl (0))]) (κ := 0) (some (.inr 83)) V hi dX7_init_54 fl_X7_32 (by decide +kernel) rfl rfl (aq (by decide +kernel)) (by decide +kernel) ?_
  refine j_aload_n V dX7_init_57 rfl rfl ?_
  refine j_bipush (z := 6) V dX7_init_58 (by decide +kernel) ?_
  refine k_newI (N := 6) 84 26 (by decide +kernel) rfl V hX dX7_init_60 rfl (by decide +kernel) (by decide +kernel) (by decide +kernel) ?_
  refine j_put (k := 80) (fs := [some (.inl (0)), some (.inl (60)), some (.inl (20)), some (.inl (1000)), some (.inl (0)), some (.inl (0)), some (.inl (0)), some (.inl (1)), some (.inl (-1)), some (.inr 81), some (.inr 82), some (.inr 83), none, none, none, none, none, none, none, none, none, none, none, some (.inl (0)), some (.inl (0)), some (.inl (0)), some (.inl (0)), some (.inl (0)), none, none, none, none, some (.inl (0)), some (.inl (0)), some (.inl (0)), some (.inl (0)), some (.inl (0)), none, none, some (.inl (0)), none, some (.inl (0)), some (.inl (0))]) (κ := 0) (some (.inr 84)) V hi dX7_init_62 fl_X7_35 (by decide +kernel) rfl rfl (aq (by decide +kernel)) (by decide +kernel) ?_
  refine j_aload_n V dX7_init_65 rfl rfl ?_
  refine j_bipush (z := 72) V dX7_init_66 (by decide +kernel) ?_
  refine k_newI (N := 72) 85 98 (by decide +kernel) rfl V hX dX7_init_68 rfl (by decide +kernel) (by decide +kernel) (by decide +kernel) ?_
  refine j_put (k := 80) (fs := [some (.inl (0)), some (.inl (60)), some (.inl (20)), some (.inl (1000)), some (.inl (0)), some (.inl (0)), some (.inl (0)), some (.inl (1)), some (.inl (-1)), some (.inr 81), some (.inr 82), some (.inr 83), some (.inr 84), none, none, none, none, none, none, none, none, none, none, some (.inl (0)), some (.inl (0)), some (.inl (0)), some (.inl (0)), some (.inl (0)), none, none, none, none, some (.inl (0)), some (.inl (0)), some (.inl (0)), some (.inl (0)), some (.inl (0)), none, none, some (.inl (0)), none, some (.inl (0)), some (.inl (0))]) (κ := 0) (some (.inr 85)) V hi dX7_init_70 fl_X7_38 (by decide +kernel) rfl rfl (aq (by decide +kernel)) (by decide +kernel) ?_
  refine j_aload_n V dX7_init_73 rfl rfl ?_
  refine j_bipush (z := 10) V dX7_init_74 (by decide +kernel) ?_
  refine k_newI (N := 10) 86 108 (by decide +kernel) rfl V hX dX7_init_76 rfl (by decide +kernel) (by decide +kernel) (by decide +kernel) ?_
  refine j_put (k := 80) (fs := [some (.inl (0)), some (.inl (60)), some (.inl (20)), some (.inl (1000)), some (.inl (0)), some (.inl (0)), some (.inl (0)), some (.inl (1)), some (.inl (-1)), some (.inr 81), some (.inr 82), some (.inr 83), some (.inr 84), some (.inr 85), none, none, none, none, none, none, none, none, none, some (.inl (0)), some (.inl (0)), some (.inl (0)), some (.inl (0)), some (.inl (0)), none, none, none, none, some (.inl (0)), some (.inl (0)), some (.inl (0)), some (.inl (0)), some (.inl (0)), none, none, some (.inl (0)), none, some (.inl (0)), some (.inl (0))]) (κ := 0) (some (.inr 86)) V hi dX7_init_78 fl_X7_41 (by decide +kernel) rfl rfl (aq (by decide +kernel)) (by decide +kernel) ?_
  refine j_aload_n V dX7_init_81 rfl rfl ?_
  refine j_bipush (z := 8) V dX7_init_82 (by decide +kernel) ?_
  refine k_newI (N := 8) 87 116 (by decide +kernel) rfl V hX dX7_init_84 rfl (by decide +kernel) (by decide +kernel) (by decide +kernel) ?_
  refine j_put (k := 80) (fs := [some (.inl (0)), some (.inl (60)), some (.inl (20)), some (.inl (1000)), some (.inl (0)), some (.inl (0)), some (.inl (0)), some (.inl (1)), some (.inl (-1)), some (.inr 81), some (.inr 82), some (.inr 83), some (.inr 84), some (.inr 85), some (.inr 86), none, none, none, none, none, none, none, none, some (.inl (0)), some (.inl (0)), some (.inl (0)), some (.inl (0)), some (.inl (0)), none, none, none, none, some (.inl (0)), some (.inl (0)), some (.inl (0)), some (.inl (0)), some (.inl (0)), none, none, some (.inl (0)), none, some (.inl (0)), some (.inl (0))]) (κ := 0) (some (.inr 87)) V hi dX7_init_86 fl_X7_44 (by decide +kernel) rfl rfl (aq (by decide +kernel)) (by decide +kernel) ?_
  refine j_aload_n V dX7_init_89 rfl rfl ?_
  refine j_bipush (z := 8) V dX7_init_90 (by decide +kernel) ?_
  refine k_newI (N := 8) 88 124 (by decide +kernel) rfl V hX dX7_init_92 rfl (by decide +kernel) (by decide +kernel) (by decide +kernel) ?_
  refine j_put (k := 80) (fs := [some (.inl (0)), some (.inl (60)), some (.inl (20)), some (.inl (1000)), some (.inl (0)), some (.inl (0)), some (.inl (0)), some (.inl (1)), some (.inl (-1)), some (.inr 81), some (.inr 82), some (.inr 83), some (.inr 84), some (.inr 85), some (.inr 86), some (.inr 87), none, none, none, none, none, none, none, some (.inl (0)), some (.inl (0)), some (.inl (0)), some (.inl (0)), some (.inl (0)), none, none, none, none, some (.inl (0)), some (.inl (0)), some (.inl (0)), some (.inl (0)), some (.inl (0)), none, none, some (.inl (0)), none, some (.inl (0)), some (.inl (0))]) (κ := 0) (some (.inr 88)) V hi dX7_init_94 fl_X7_47 (by decide +kernel) rfl rfl (aq (by decide +kernel)) (by decide +kernel) ?_
  refine j_aload_n V dX7_init_97 rfl rfl ?_
  refine j_bipush (z := 8) V dX7_init_98 (by decide +kernel) ?_
  refine k_newI (N := 8) 89 132 (by decide +kernel) rfl V hX dX7_init_100 rfl (by decide +kernel) (by decide +kernel) (by decide +kernel) ?_
  refine j_put (k := 80) (fs := [some (.inl (0)), some (.inl (60)), some (.inl (20)), some (.inl (1000)), some (.inl (0)), some (.inl (0)), some (.inl (0)), some (.inl (1)), some (.inl (-1)), some (.inr 81), some (.inr 82), some (.inr 83), some (.inr 84), some (.inr 85), some (.inr 86), some (.inr 87), some (.inr 88), none, none, none, none, none, none, some (.inl (0)), some (.inl (0)), some (.inl (0)), some (.inl (0)), some (.inl (0)), none, none, none, none, some (.inl (0)), some (.inl (0)), some (.inl (0)), some (.inl (0)), some (.inl (0)), none, none, some (.inl (0)), none, some (.inl (0)), some (.inl (0))]) (κ := 0) (some (.inr 89)) V hi dX7_init_102 fl_X7_50 (by decide +kernel) rfl rfl (aq (by decide +kernel)) (by decide +kernel) ?_
  refine j_aload_n V dX7_init_105 rfl rfl ?_
  refine j_bipush (z := 8) V dX7_init_106 (by decide +kernel) ?_
  refine k_newI (N := 8) 90 140 (by decide +kernel) rfl V hX dX7_init_108 rfl (by decide +kernel) (by decide +kernel) (by decide +kernel) ?_
  refine j_put (k := 80) (fs := [some (.inl (0)), some (.inl (60)), some (.inl (20)), some (.inl (1000)), some (.inl (0)), some (.inl (0)), some (.inl (0)), some (.inl (1)), some (.inl (-1)), some (.inr 81), some (.inr 82), some (.inr 83), some (.inr 84), some (.inr 85), some (.inr 86), some (.inr 87), some (.inr 88), some (.inr 89), none, none, none, none, none, some (.inl (0)), some (.inl (0)), some (.inl (0)), some (.inl (0)), some (.inl (0)), none, none, none, none, some (.inl (0)), some (.inl (0)), some (.inl (0)), some (.inl (0)), some (.inl (0)), none, none, some (.inl (0)), none, some (.inl (0)), some (.inl (0))]) (κ := 0) (some (.inr 90)) V hi dX7_init_110 fl_X7_53 (by decide +kernel) rfl rfl (aq (by decide +kernel)) (by decide +kernel) ?_
  refine j_aload_n V dX7_init_113 rfl rfl ?_
  refine j_sipush (z := 1280) V dX7_init_114 (by decide +kernel) ?_
  refine k_newL (N := 1280) 91 1420 (by decide +kernel) rfl V hX dX7_init_117 rfl (by decide +kernel) (by decide +kernel) (by decide +kernel) ?_
  refine j_put (k := 80) (fs := [some (.inl (0)), some (.inl (60)), some (.inl (20)), some (.inl (1000)), some (.inl (0)), some (.inl (0)), some (.inl (0)), some (.inl (1)), some (.inl (-1)), some (.inr 81), some (.inr 82), some (.inr 83), some (.inr 84), some (.inr 85), some (.inr 86), some (.inr 87), some (.inr 88), some (.inr 89), some (.inr 90), none, none, none, none, some (.inl (0)), some (.inl (0)), some (.inl (0)), some (.inl (0)), some (.inl (0)), none, none, none, none, some (.inl (0)), some (.inl (0)), some (.inl (0)), some (.inl (0)), some (.inl (0)), none, none, some (.inl (0)), none, some (.inl (0)), some (.inl (0))]) (κ := 0) (some (.inr 91)) V hi dX7_init_119 fl_X7_56 (by decide +kernel) rfl rfl (aq (by decide +kernel)) (by decide +kernel) ?_
  refine j_aload_n V dX7_init_122 rfl rfl ?_
  refine j_sipush (z := 160) V dX7_init_123 (by decide +kernel) ?_
  refine k_newL (N := 160) 92 1580 (by decide +kernel) rfl V hX dX7_init_126 rfl (by decide +kernel) (by decide +kernel) (by decide +kernel) ?_
  refine j_put (k := 80) (fs := [some (.inl (0)), some (.inl (60)), some (.inl (20)), some (.inl (1000)), some (.inl (0)), some (.inl (0)), some (.inl (0)), some (.inl (1)), some (.inl (-1)), some (.inr 81), some (.inr 82), some (.inr 83), some (.inr 84), some (.inr 85), some (.inr 86), some (.inr 87), some (.inr 88), some (.inr 89), some (.inr 90), some (.inr 91), none, none, none, some (.inl (0)), some (.inl (0)), some (.inl (0)), some (.inl (0)), some (.inl (0)), none, none, none, none, some (.inl (0)), some (.inl (0)), some (.inl (0)), some (.inl (0)), some (.inl (0)), none, none, some (.inl (0)), none, some (.inl (0)), some (.inl (0))]) (κ := 0) (some (.inr 92)) V hi dX7_init_128 fl_X7_60 (by decide +kernel) rfl rfl (aq (by decide +kernel)) (by decide +kernel) ?_
  refine j_aload_n V dX7_init_131 rfl rfl ?_
  refine j_bipush (z := 43) V dX7_init_132 (by decide +kernel) ?_
  refine k_newI (N := 43) 93 1623 (by decide +kernel) rfl V hX dX7_init_134 rfl (by decide +kernel) (by decide +kernel) (by decide +kernel) ?_
  refine j_dup V dX7_init_136 rfl ?_
  refine j_iconst (z := 0) V dX7_init_137 (by decide +kernel) ?_
  refine j_bipush (z := 98) V dX7_init_138 (by decide +kernel) ?_
  refine j_iastN (k := 93) (n := 43) (q := 0) (xs := []) V dX7_init_140 (aq (by decide +kernel)) rfl rfl (by decide +kernel) (by decide +kernel) ?_
  refine j_dup V dX7_init_141 rfl ?_
  refine j_iconst (z := 1) V dX7_init_142 (by decide +kernel) ?_
  refine j_bipush (z := 105) V dX7_init_143 (by decide +kernel) ?_
  refine j_iastN (k := 93) (n := 43) (q := 1) (xs := [98]) V dX7_init_145 (aq (by decide +kernel)) rfl rfl (by decide +kernel) (by decide +kernel) ?_
  refine j_dup V dX7_init_146 rfl ?_
  refine j_iconst (z := 2) V dX7_init_147 (by decide +kernel) ?_
  refine j_bipush (z := 115) V dX7_init_148 (by decide +kernel) ?_
  refine j_iastN (k := 93) (n := 43) (q := 2) (xs := [98, 105]) V dX7_init_150 (aq (by decide +kernel)) rfl rfl (by decide +kernel) (by decide +kernel) ?_
  refine j_dup V dX7_init_151 rfl ?_
  refine j_iconst (z := 3) V dX7_init_152 (by decide +kernel) ?_
  refine j_bipush (z := 99) V dX7_init_153 (by decide +kernel) ?_
  refine j_iastN (k := 93) (n := 43) (q := 3) (xs := [98, 105, 115]) V dX7_init_155 (aq (by decide +kernel)) rfl rfl (by decide +kernel) (by decide +kernel) ?_
  refine j_dup V dX7_init_156 rfl ?_
  refine j_iconst (z := 4) V dX7_init_157 (by decide +kernel) ?_
  refine j_bipush (z := 117) V dX7_init_158 (by decide +kernel) ?_
  refine j_iastN (k := 93) (n := 43) (q := 4) (xs := [98, 105, 115, 99]) V dX7_init_160 (aq (by decide +kernel)) rfl rfl (by decide +kernel) (by decide +kernel) ?_
  refine j_dup V dX7_init_161 rfl ?_
  refine j_iconst (z := 5) V dX7_init_162 (by decide +kernel) ?_
  refine j_bipush (z := 105) V dX7_init_163 (by decide +kernel) ?_
  refine j_iastN (k := 93) (n := 43) (q := 5) (xs := [98, 105, 115, 99, 117]) V dX7_init_165 (aq (by decide +kernel)) rfl rfl (by decide +kernel) (by decide +kernel) ?_
  refine j_dup V dX7_init_166 rfl ?_
  refine j_bipush (z := 6) V dX7_init_167 (by decide +kernel) ?_
  refine j_bipush (z := 116) V dX7_init_169 (by decide +kernel) ?_
  refine j_iastN (k := 93) (n := 43) (q := 6) (xs := [98, 105, 115, 99, 117, 105]) V dX7_init_171 (aq (by decide +kernel)) rfl rfl (by decide +kernel) (by decide +kernel) ?_
  refine j_dup V dX7_init_172 rfl ?_
  refine j_bipush (z := 7) V dX7_init_173 (by decide +kernel) ?_
  refine j_bipush (z := 32) V dX7_init_175 (by decide +kernel) ?_
  refine j_iastN (k := 93) (n := 43) (q := 7) (xs := [98, 105, 115, 99, 117, 105, 116]) V dX7_init_177 (aq (by decide +kernel)) rfl rfl (by decide +kernel) (by decide +kernel) ?_
  refine k_world wW76 (wq (by decide +kernel)) ?_
  refine j_dup V dX7_init_178 rfl ?_
  refine j_bipush (z := 8) V dX7_init_179 (by decide +kernel) ?_
  refine j_iconst (z := 0) V dX7_init_181 (by decide +kernel) ?_
  refine j_iastN (k := 93) (n := 43) (q := 8) (xs := [98, 105, 115, 99, 117, 105, 116, 32]) V dX7_init_182 (aq (by decide +kernel)) rfl rfl (by decide +kernel) (by decide +kernel) ?_
  refine j_dup V dX7_init_183 rfl ?_
  refine j_bipush (z := 9) V dX7_init_184 (by decide +kernel) ?_
  refine j_bipush (z := 119) V dX7_init_186 (by decide +kernel) ?_
  refine j_iastN (k := 93) (n := 43) (q := 9) (xs := [98, 105, 115, 99, 117, 105, 116, 32, 0]) V dX7_init_188 (aq (by decide +kernel)) rfl rfl (by decide +kernel) (by decide +kernel) ?_
  refine j_dup V dX7_init_189 rfl ?_
  refine j_bipush (z := 10) V dX7_init_190 (by decide +kernel) ?_
  refine j_bipush (z := 101) V dX7_init_192 (by decide +kernel) ?_
  refine j_iastN (k := 93) (n := 43) (q := 10) (xs := [98, 105, 115, 99, 117, 105, 116, 32, 0, 119]) V dX7_init_194 (aq (by decide +kernel)) rfl rfl (by decide +kernel) (by decide +kernel) ?_
  refine j_dup V dX7_init_195 rfl ?_
  refine j_bipush (z := 11) V dX7_init_196 (by decide +kernel) ?_
  refine j_bipush (z := 116) V dX7_init_198 (by decide +kernel) ?_
  refine j_iastN (k := 93) (n := 43) (q := 11) (xs := [98, 105, 115, 99, 117, 105, 116, 32, 0, 119, 101]) V dX7_init_200 (aq (by decide +kernel)) rfl rfl (by decide +kernel) (by decide +kernel) ?_
  refine j_dup V dX7_init_201 rfl ?_
  refine j_bipush (z := 12) V dX7_init_202 (by decide +kernel) ?_
  refine j_bipush (z := 32) V dX7_init_204 (by decide +kernel) ?_
  refine j_iastN (k := 93) (n := 43) (q := 12) (xs := [98, 105, 115, 99, 117, 105, 116, 32, 0, 119, 101, 116]) V dX7_init_206 (aq (by decide +kernel)) rfl rfl (by decide +kernel) (by decide +kernel) ?_
  refine j_dup V dX7_init_207 rfl ?_
  refine j_bipush (z := 13) V dX7_init_208 (by decide +kernel) ?_
  refine j_iconst (z := 0) V dX7_init_210 (by decide +kernel) ?_
  refine j_iastN (k := 93) (n := 43) (q := 13) (xs := [98, 105, 115, 99, 117, 105, 116, 32, 0, 119, 101, 116, 32]) V dX7_init_211 (aq (by decide +kernel)) rfl rfl (by decide +kernel) (by decide +kernel) ?_
  refine j_dup V dX7_init_212 rfl ?_
  refine j_bipush (z := 14) V dX7_init_213 (by decide +kernel) ?_
  refine j_bipush (z := 104) V dX7_init_215 (by decide +kernel) ?_
  refine j_iastN (k := 93) (n := 43) (q := 14) (xs := [98, 105, 115, 99, 117, 105, 116, 32, 0, 119, 101, 116, 32, 0]) V dX7_init_217 (aq (by decide +kernel)) rfl rfl (by decide +kernel) (by decide +kernel) ?_
  refine j_dup V dX7_init_218 rfl ?_
  refine j_bipush (z := 15) V dX7_init_219 (by decide +kernel) ?_
  refine j_bipush (z := 101) V dX7_init_221 (by decide +kernel) ?_
  refine j_iastN (k := 93) (n := 43) (q := 15) (xs := [98, 105, 115, 99, 117, 105, 116, 32, 0, 119, 101, 116, 32, 0, 104]) V dX7_init_223 (aq (by decide +kernel)) rfl rfl (by decide +kernel) (by decide +kernel) ?_
  refine k_world wW77 (wq (by decide +kernel)) ?_
  refine j_dup V dX7_init_224 rfl ?_
  refine j_bipush (z := 16) V dX7_init_225 (by decide +kernel) ?_
  refine j_bipush (z := 97) V dX7_init_227 (by decide +kernel) ?_
  refine j_iastN (k := 93) (n := 43) (q := 16) (xs := [98, 105, 115, 99, 117, 105, 116, 32, 0, 119, 101, 116, 32, 0, 104, 101]) V dX7_init_229 (aq (by decide +kernel)) rfl rfl (by decide +kernel) (by decide +kernel) ?_
  refine j_dup V dX7_init_230 rfl ?_
  refine j_bipush (z := 17) V dX7_init_231 (by decide +kernel) ?_
  refine j_bipush (z := 116) V dX7_init_233 (by decide +kernel) ?_
  refine j_iastN (k := 93) (n := 43) (q := 17) (xs := [98, 105, 115, 99, 117, 105, 116, 32, 0, 119, 101, 116, 32, 0, 104, 101, 97]) V dX7_init_235 (aq (by decide +kernel)) rfl rfl (by decide +kernel) (by decide +kernel) ?_
  refine j_dup V dX7_init_236 rfl ?_
  refine j_bipush (z := 18) V dX7_init_237 (by decide +kernel) ?_
  refine j_bipush (z := 32) V dX7_init_239 (by decide +kernel) ?_
  refine j_iastN (k := 93) (n := 43) (q := 18) (xs := [98, 105, 115, 99, 117, 105, 116, 32, 0, 119, 101, 116, 32, 0, 104, 101, 97, 116]) V dX7_init_241 (aq (by decide +kernel)) rfl rfl (by decide +kernel) (by decide +kernel) ?_
  refine j_dup V dX7_init_242 rfl ?_
  refine j_bipush (z := 19) V dX7_init_243 (by decide +kernel) ?_
  refine j_iconst (z := 0) V dX7_init_245 (by decide +kernel) ?_
  refine j_iastN (k := 93) (n := 43) (q := 19) (xs := [98, 105, 115, 99, 117, 105, 116, 32, 0, 119, 101, 116, 32, 0, 104, 101, 97, 116, 32]) V dX7_init_246 (aq (by decide +kernel)) rfl rfl (by decide +kernel) (by decide +kernel) ?_
  refine j_dup V dX7_init_247 rfl ?_
  refine j_bipush (z := 20) V dX7_init_248 (by decide +kernel) ?_
  refine j_bipush (z := 108) V dX7_init_250 (by decide +kernel) ?_
  refine j_iastN (k := 93) (n := 43) (q := 20) (xs := [98, 105, 115, 99, 117, 105, 116, 32, 0, 119, 101, 116, 32, 0, 104, 101, 97, 116, 32, 0]) V dX7_init_252 (aq (by decide +kernel)) rfl rfl (by decide +kernel) (by decide +kernel) ?_
  refine j_dup V dX7_init_253 rfl ?_
  refine j_bipush (z := 21) V dX7_init_254 (by decide +kernel) ?_
  refine j_bipush (z := 111) V dX7_init_256 (by decide +kernel) ?_
  refine j_iastN (k := 93) (n := 43) (q := 21) (xs := [98, 105, 115, 99, 117, 105, 116, 32, 0, 119, 101, 116, 32, 0, 104, 101, 97, 116, 32, 0, 108]) V dX7_init_258 (aq (by decide +kernel)) rfl rfl (by decide +kernel) (by decide +kernel) ?_
  refine j_dup V dX7_init_259 rfl ?_
  refine j_bipush (z := 22) V dX7_init_260 (by decide +kernel) ?_
  refine j_bipush (z := 115) V dX7_init_262 (by decide +kernel) ?_
  refine j_iastN (k := 93) (n := 43) (q := 22) (xs := [98, 105, 115, 99, 117, 105, 116, 32, 0, 119, 101, 116, 32, 0, 104, 101, 97, 116, 32, 0, 108, 111]) V dX7_init_264 (aq (by decide +kernel)) rfl rfl (by decide +kernel) (by decide +kernel) ?_
  refine j_dup V dX7_init_265 rfl ?_
  refine j_bipush (z := 23) V dX7_init_266 (by decide +kernel) ?_
  refine j_bipush (z := 115) V dX7_init_268 (by decide +kernel) ?_
  refine j_iastN (k := 93) (n := 43) (q := 23) (xs := [98, 105, 115, 99, 117, 105, 116, 32, 0, 119, 101, 116, 32, 0, 104, 101, 97, 116, 32, 0, 108, 111, 115]) V dX7_init_270 (aq (by decide +kernel)) rfl rfl (by decide +kernel) (by decide +kernel) ?_
  refine k_world wW78 (wq (by decide +kernel)) ?_
  refine j_dup V dX7_init_271 rfl ?_
  refine j_bipush (z := 24) V dX7_init_272 (by decide +kernel) ?_
  refine j_bipush (z := 32) V dX7_init_274 (by decide +kernel) ?_
  refine j_iastN (k := 93) (n := 43) (q := 24) (xs := [98, 105, 115, 99, 117, 105, 116, 32, 0, 119, 101, 116, 32, 0, 104, 101, 97, 116, 32, 0, 108, 111, 115, 115]) V dX7_init_276 (aq (by decide +kernel)) rfl rfl (by decide +kernel) (by decide +kernel) ?_
  refine j_dup V dX7_init_277 rfl ?_
  refine j_bipush (z := 25) V dX7_init_278 (by decide +kernel) ?_
  refine j_iconst (z := 0) V dX7_init_280 (by decide +kernel) ?_
  refine j_iastN (k := 93) (n := 43) (q := 25) (xs := [98, 105, 115, 99, 117, 105, 116, 32, 0, 119, 101, 116, 32, 0, 104, 101, 97, 116, 32, 0, 108, 111, 115, 115, 32]) V dX7_init_281 (aq (by decide +kernel)) rfl rfl (by decide +kernel) (by decide +kernel) ?_
  refine j_dup V dX7_init_282 rfl ?_
  refine j_bipush (z := 26) V dX7_init_283 (by decide +kernel) ?_
  refine j_bipush (z := 116) V dX7_init_285 (by decide +kernel) ?_
  refine j_iastN (k := 93) (n := 43) (q := 26) (xs := [98, 105, 115, 99, 117, 105, 116, 32, 0, 119, 101, 116, 32, 0, 104, 101, 97, 116, 32, 0, 108, 111, 115, 115, 32, 0]) V dX7_init_287 (aq (by decide +kernel)) rfl rfl (by decide +kernel) (by decide +kernel) ?_
  refine j_dup V dX7_init_288 rfl ?_
  refine j_bipush (z := 27) V dX7_init_289 (by decide +kernel) ?_
  refine j_bipush (z := 101) V dX7_init_291 (by decide +kernel) ?_
  refine j_iastN (k := 93) (n := 43) (q := 27) (xs := [98, 105, 115, 99, 117, 105, 116, 32, 0, 119, 101, 116, 32, 0, 104, 101, 97, 116, 32, 0, 108, 111, 115, 115, 32, 0, 116]) V dX7_init_293 (aq (by decide +kernel)) rfl rfl (by decide +kernel) (by decide +kernel) ?_
  refine j_dup V dX7_init_294 rfl ?_
  refine j_bipush (z := 28) V dX7_init_295 (by decide +kernel) ?_
  refine j_bipush (z := 97) V dX7_init_297 (by decide +kernel) ?_
  refine j_iastN (k := 93) (n := 43) (q := 28) (xs := [98, 105, 115, 99, 117, 105, 116, 32, 0, 119, 101, 116, 32, 0, 104, 101, 97, 116, 32, 0, 108, 111, 115, 115, 32, 0, 116, 101]) V dX7_init_299 (aq (by decide +kernel)) rfl rfl (by decide +kernel) (by decide +kernel) ?_
  refine j_dup V dX7_init_300 rfl ?_
  refine j_bipush (z := 29) V dX7_init_301 (by decide +kernel) ?_
  refine j_bipush (z := 32) V dX7_init_303 (by decide +kernel) ?_
  refine j_iastN (k := 93) (n := 43) (q := 29) (xs := [98, 105, 115, 99, 117, 105, 116, 32, 0, 119, 101, 116, 32, 0, 104, 101, 97, 116, 32, 0, 108, 111, 115, 115, 32, 0, 116, 101, 97]) V dX7_init_305 (aq (by decide +kernel)) rfl rfl (by decide +kernel) (by decide +kernel) ?_
  refine j_dup V dX7_init_306 rfl ?_
  refine j_bipush (z := 30) V dX7_init_307 (by decide +kernel) ?_
  refine j_iconst (z := 0) V dX7_init_309 (by decide +kernel) ?_
  refine j_iastN (k := 93) (n := 43) (q := 30) (xs := [98, 105, 115, 99, 117, 105, 116, 32, 0, 119, 101, 116, 32, 0, 104, 101, 97, 116, 32, 0, 108, 111, 115, 115, 32, 0, 116, 101, 97, 32]) V dX7_init_310 (aq (by decide +kernel)) rfl rfl (by decide +kernel) (by decide +kernel) ?_
  refine j_dup V dX7_init_311 rfl ?_
  refine j_bipush (z := 31) V dX7_init_312 (by decide +kernel) ?_
  refine j_bipush (z := 119) V dX7_init_314 (by decide +kernel) ?_
  refine j_iastN (k := 93) (n := 43) (q := 31) (xs := [98, 105, 115, 99, 117, 105, 116, 32, 0, 119, 101, 116, 32, 0, 104, 101, 97, 116, 32, 0, 108, 111, 115, 115, 32, 0, 116, 101, 97, 32, 0]) V dX7_init_316 (aq (by decide +kernel)) rfl rfl (by decide +kernel) (by decide +kernel) ?_
  refine k_world wW79 (wq (by decide +kernel)) ?_
  refine j_dup V dX7_init_317 rfl ?_
  refine j_bipush (z := 32) V dX7_init_318 (by decide +kernel) ?_
  refine j_bipush (z := 111) V dX7_init_320 (by decide +kernel) ?_
  refine j_iastN (k := 93) (n := 43) (q := 32) (xs := [98, 105, 115, 99, 117, 105, 116, 32, 0, 119, 101, 116, 32, 0, 104, 101, 97, 116, 32, 0, 108, 111, 115, 115, 32, 0, 116, 101, 97, 32, 0, 119]) V dX7_init_322 (aq (by decide +kernel)) rfl rfl (by decide +kernel) (by decide +kernel) ?_
  refine j_dup V dX7_init_323 rfl ?_
  refine j_bipush (z := 33) V dX7_init_324 (by decide +kernel) ?_
  refine j_bipush (z := 114) V dX7_init_326 (by decide +kernel) ?_
  refine j_iastN (k := 93) (n := 43) (q := 33) (xs := [98, 105, 115, 99, 117, 105, 116, 32, 0, 119, 101, 116, 32, 0, 104, 101, 97, 116, 32, 0, 108, 111, 115, 115, 32, 0, 116, 101, 97, 32, 0, 119, 111]) V dX7_init_328 (aq (by decide +kernel)) rfl rfl (by decide +kernel) (by decide +kernel) ?_
  refine j_dup V dX7_init_329 rfl ?_
  refine j_bipush (z := 34) V dX7_init_330 (by decide +kernel) ?_
  refine j_bipush (z := 116) V dX7_init_332 (by decide +kernel) ?_
  refine j_iastN (k := 93) (n := 43) (q := 34) (xs := [98, 105, 115, 99, 117, 105, 116, 32, 0, 119, 101, 116, 32, 0, 104, 101, 97, 116, 32, 0, 108, 111, 115, 115, 32, 0, 116, 101, 97, 32, 0, 119, 111, 114]) V dX7_init_334 (aq (by decide +kernel)) rfl rfl (by decide +kernel) (by decide +kernel) ?_
  refine j_dup V dX7_init_335 rfl ?_
  refine j_bipush (z := 35) V dX7_init_336 (by decide +kernel) ?_
  refine j_bipush (z := 104) V dX7_init_338 (by decide +kernel) ?_
  refine j_iastN (k := 93) (n := 43) (q := 35) (xs := [98, 105, 115, 99, 117, 105, 116, 32, 0, 119, 101, 116, 32, 0, 104, 101, 97, 116, 32, 0, 108, 111, 115, 115, 32, 0, 116, 101, 97, 32, 0, 119, 111, 114, 116]) V dX7_init_340 (aq (by decide +kernel)) rfl rfl (by decide +kernel) (by decide +kernel) ?_
  refine j_dup V dX7_init_341 rfl ?_
  refine j_bipush (z := 36) V dX7_init_342 (by decide +kernel) ?_
  refine j_bipush (z := 32) V dX7_init_344 (by decide +kernel) ?_
  refine j_iastN (k := 93) (n := 43) (q := 36) (xs := [98, 105, 115, 99, 117, 105, 116, 32, 0, 119, 101, 116, 32, 0, 104, 101, 97, 116, 32, 0, 108, 111, 115, 115, 32, 0, 116, 101, 97, 32, 0, 119, 111, 114, 116, 104]) V dX7_init_346 (aq (by decide +kernel)) rfl rfl (by decide +kernel) (by decide +kernel) ?_
  refine j_dup V dX7_init_347 rfl ?_
  refine j_bipush (z := 37) V dX7_init_348 (by decide +kernel) ?_
  refine j_iconst (z := 0) V dX7_init_350 (by decide +kernel) ?_
  refine j_iastN (k := 93) (n := 43) (q := 37) (xs := [98, 105, 115, 99, 117, 105, 116, 32, 0, 119, 101, 116, 32, 0, 104, 101, 97, 116, 32, 0, 108, 111, 115, 115, 32, 0, 116, 101, 97, 32, 0, 119, 111, 114, 116, 104, 32]) V dX7_init_351 (aq (by decide +kernel)) rfl rfl (by decide +kernel) (by decide +kernel) ?_
  refine j_dup V dX7_init_352 rfl ?_
  refine j_bipush (z := 38) V dX7_init_353 (by decide +kernel) ?_
  refine j_bipush (z := 100) V dX7_init_355 (by decide +kernel) ?_
  refine j_iastN (k := 93) (n := 43) (q := 38) (xs := [98, 105, 115, 99, 117, 105, 116, 32, 0, 119, 101, 116, 32, 0, 104, 101, 97, 116, 32, 0, 108, 111, 115, 115, 32, 0, 116, 101, 97, 32, 0, 119, 111, 114, 116, 104, 32, 0]) V dX7_init_357 (aq (by decide +kernel)) rfl rfl (by decide +kernel) (by decide +kernel) ?_
  refine j_dup V dX7_init_358 rfl ?_
  refine j_bipush (z := 39) V dX7_init_359 (by decide +kernel) ?_
  refine j_bipush (z := 105) V dX7_init_361 (by decide +kernel) ?_
  refine j_iastN (k := 93) (n := 43) (q := 39) (xs := [98, 105, 115, 99, 117, 105, 116, 32, 0, 119, 101, 116, 32, 0, 104, 101, 97, 116, 32, 0, 108, 111, 115, 115, 32, 0, 116, 101, 97, 32, 0, 119, 111, 114, 116, 104, 32, 0, 100]) V dX7_init_363 (aq (by decide +kernel)) rfl rfl (by decide +kernel) (by decide +kernel) ?_
  refine k_world wW80 (wq (by decide +kernel)) ?_
  refine j_dup V dX7_init_364 rfl ?_
  refine j_bipush (z := 40) V dX7_init_365 (by decide +kernel) ?_
  refine j_bipush (z := 112) V dX7_init_367 (by decide +kernel) ?_
  refine j_iastN (k := 93) (n := 43) (q := 40) (xs := [98, 105, 115, 99, 117, 105, 116, 32, 0, 119, 101, 116, 32, 0, 104, 101, 97, 116, 32, 0, 108, 111, 115, 115, 32, 0, 116, 101, 97, 32, 0, 119, 111, 114, 116, 104, 32, 0, 100, 105]) V dX7_init_369 (aq (by decide +kernel)) rfl rfl (by decide +kernel) (by decide +kernel) ?_
  refine j_dup V dX7_init_370 rfl ?_
  refine j_bipush (z := 41) V dX7_init_371 (by decide +kernel) ?_
  refine j_bipush (z := 32) V dX7_init_373 (by decide +kernel) ?_
  refine j_iastN (k := 93) (n := 43) (q := 41) (xs := [98, 105, 115, 99, 117, 105, 116, 32, 0, 119, 101, 116, 32, 0, 104, 101, 97, 116, 32, 0, 108, 111, 115, 115, 32, 0, 116, 101, 97, 32, 0, 119, 111, 114, 116, 104, 32, 0, 100, 105, 112]) V dX7_init_375 (aq (by decide +kernel)) rfl rfl (by decide +kernel) (by decide +kernel) ?_
  refine j_dup V dX7_init_376 rfl ?_
  refine j_bipush (z := 42) V dX7_init_377 (by decide +kernel) ?_
  refine j_iconst (z := 0) V dX7_init_379 (by decide +kernel) ?_
  refine j_iastN (k := 93) (n := 43) (q := 42) (xs := [98, 105, 115, 99, 117, 105, 116, 32, 0, 119, 101, 116, 32, 0, 104, 101, 97, 116, 32, 0, 108, 111, 115, 115, 32, 0, 116, 101, 97, 32, 0, 119, 111, 114, 116, 104, 32, 0, 100, 105, 112, 32]) V dX7_init_380 (aq (by decide +kernel)) rfl rfl (by decide +kernel) (by decide +kernel) ?_
  refine j_put (k := 80) (fs := [some (.inl (0)), some (.inl (60)), some (.inl (20)), some (.inl (1000)), some (.inl (0)), some (.inl (0)), some (.inl (0)), some (.inl (1)), some (.inl (-1)), some (.inr 81), some (.inr 82), some (.inr 83), some (.inr 84), some (.inr 85), some (.inr 86), some (.inr 87), some (.inr 88), some (.inr 89), some (.inr 90), some (.inr 91), some (.inr 92), none, none, some (.inl (0)), some (.inl (0)), some (.inl (0)), some (.inl (0)), some (.inl (0)), none, none, none, none, some (.inl (0)), some (.inl (0)), some (.inl (0)), some (.inl (0)), some (.inl (0)), none, none, some (.inl (0)), none, some (.inl (0)), some (.inl (0))]) (κ := 0) (some (.inr 93)) V hi dX7_init_381 fl_X7_63 (by decide +kernel) rfl rfl (aq (by decide +kernel)) (by decide +kernel) ?_
  refine j_aload_n V dX7_init_384 rfl rfl ?_
  refine j_iconst (z := 3) V dX7_init_385 (by decide +kernel) ?_
  refine k_newI (N := 3) 94 1626 (by decide +kernel) rfl V hX dX7_init_386 rfl (by decide +kernel) (by decide +kernel) (by decide +kernel) ?_
  refine j_put (k := 80) (fs := [some (.inl (0)), some (.inl (60)), some (.inl (20)), some (.inl (1000)), some (.inl (0)), some (.inl (0)), some (.inl (0)), some (.inl (1)), some (.inl (-1)), some (.inr 81), some (.inr 82), some (.inr 83), some (.inr 84), some (.inr 85), some (.inr 86), some (.inr 87), some (.inr 88), some (.inr 89), some (.inr 90), some (.inr 91), some (.inr 92), some (.inr 93), none, some (.inl (0)), some (.inl (0)), some (.inl (0)), some (.inl (0)), some (.inl (0)), none, none, none, none, some (.inl (0)), some (.inl (0)), some (.inl (0)), some (.inl (0)), some (.inl (0)), none, none, some (.inl (0)), none, some (.inl (0)), some (.inl (0))]) (κ := 0) (some (.inr 94)) V hi dX7_init_388 fl_X7_66 (by decide +kernel) rfl rfl (aq (by decide +kernel)) (by decide +kernel) ?_
  refine j_aload_n V dX7_init_391 rfl rfl ?_
  refine j_bipush (z := 120) V dX7_init_392 (by decide +kernel) ?_
  refine k_newI (N := 120) 95 1746 (by decide +kernel) rfl V hX dX7_init_394 rfl (by decide +kernel) (by decide +kernel) (by decide +kernel) ?_
  refine j_put (k := 80) (fs := [some (.inl (0)), some (.inl (60)), some (.inl (20)), some (.inl (1000)), some (.inl (0)), some (.inl (0)), some (.inl (0)), some (.inl (1)), some (.inl (-1)), some (.inr 81), some (.inr 82), some (.inr 83), some (.inr 84), some (.inr 85), some (.inr 86), some (.inr 87), some (.inr 88), some (.inr 89), some (.inr 90), some (.inr 91), some (.inr 92), some (.inr 93), some (.inr 94), some (.inl (0)), some (.inl (0)), some (.inl (0)), some (.inl (0)), some (.inl (0)), none, none, none, none, some (.inl (0)), some (.inl (0)), some (.inl (0)), some (.inl (0)), some (.inl (0)), none, none, some (.inl (0)), none, some (.inl (0)), some (.inl (0))]) (κ := 0) (some (.inr 95)) V hi dX7_init_396 fl_X7_69 (by decide +kernel) rfl rfl (aq (by decide +kernel)) (by decide +kernel) ?_
  refine j_aload_n V dX7_init_399 rfl rfl ?_
  refine j_bipush (z := 120) V dX7_init_400 (by decide +kernel) ?_
  refine k_newI (N := 120) 96 1866 (by decide +kernel) rfl V hX dX7_init_402 rfl (by decide +kernel) (by decide +kernel) (by decide +kernel) ?_
  refine j_put (k := 80) (fs := [some (.inl (0)), some (.inl (60)), some (.inl (20)), some (.inl (1000)), some (.inl (0)), some (.inl (0)), some (.inl (0)), some (.inl (1)), some (.inl (-1)), some (.inr 81), some (.inr 82), some (.inr 83), some (.inr 84), some (.inr 85), some (.inr 86), some (.inr 87), some (.inr 88), some (.inr 89), some (.inr 90), some (.inr 91), some (.inr 92), some (.inr 93), some (.inr 94), some (.inl (0)), some (.inl (0)), some (.inl (0)), some (.inl (0)), some (.inl (0)), some (.inr 95), none, none, none, some (.inl (0)), some (.inl (0)), some (.inl (0)), some (.inl (0)), some (.inl (0)), none, none, some (.inl (0)), none, some (.inl (0)), some (.inl (0))]) (κ := 0) (some (.inr 96)) V hi dX7_init_404 fl_X7_72 (by decide +kernel) rfl rfl (aq (by decide +kernel)) (by decide +kernel) ?_
  refine j_aload_n V dX7_init_407 rfl rfl ?_
  refine j_bipush (z := 12) V dX7_init_408 (by decide +kernel) ?_
  refine k_newI (N := 12) 97 1878 (by decide +kernel) rfl V hX dX7_init_410 rfl (by decide +kernel) (by decide +kernel) (by decide +kernel) ?_
  refine j_put (k := 80) (fs := [some (.inl (0)), some (.inl (60)), some (.inl (20)), some (.inl (1000)), some (.inl (0)), some (.inl (0)), some (.inl (0)), some (.inl (1)), some (.inl (-1)), some (.inr 81), some (.inr 82), some (.inr 83), some (.inr 84), some (.inr 85), some (.inr 86), some (.inr 87), some (.inr 88), some (.inr 89), some (.inr 90), some (.inr 91), some (.inr 92), some (.inr 93), some (.inr 94), some (.inl (0)), some (.inl (0)), some (.inl (0)), some (.inl (0)), some (.inl (0)), some (.inr 95), some (.inr 96), none, none, some (.inl (0)), some (.inl (0)), some (.inl (0)), some (.inl (0)), some (.inl (0)), none, none, some (.inl (0)), none, some (.inl (0)), some (.inl (0))]) (κ := 0) (some (.inr 97)) V hi dX7_init_412 fl_X7_75 (by decide +kernel) rfl rfl (aq (by decide +kernel)) (by decide +kernel) ?_
  refine j_aload_n V dX7_init_415 rfl rfl ?_
  refine j_bipush (z := 12) V dX7_init_416 (by decide +kernel) ?_
  refine k_newI (N := 12) 98 1890 (by decide +kernel) rfl V hX dX7_init_418 rfl (by decide +kernel) (by decide +kernel) (by decide +kernel) ?_
  refine j_put (k := 80) (fs := [some (.inl (0)), some (.inl (60)), some (.inl (20)), some (.inl (1000)), some (.inl (0)), some (.inl (0)), some (.inl (0)), some (.inl (1)), some (.inl (-1)), some (.inr 81), some (.inr 82), some (.inr 83), some (.inr 84), some (.inr 85), some (.inr 86), some (.inr 87), some (.inr 88), some (.inr 89), some (.inr 90), some (.inr 91), some (.inr 92), some (.inr 93), some (.inr 94), some (.inl (0)), some (.inl (0)), some (.inl (0)), some (.inl (0)), some (.inl (0)), some (.inr 95), some (.inr 96), some (.inr 97), none, some (.inl (0)), some (.inl (0)), some (.inl (0)), some (.inl (0)), some (.inl (0)), none, none, some (.inl (0)), none, some (.inl (0)), some (.inl (0))]) (κ := 0) (some (.inr 98)) V hi dX7_init_420 fl_X7_78 (by decide +kernel) rfl rfl (aq (by decide +kernel)) (by decide +kernel) ?_
  refine j_aload_n V dX7_init_423 rfl rfl ?_
  refine j_iconst (z := 5) V dX7_init_424 (by decide +kernel) ?_
  refine k_newI (N := 5) 99 1895 (by decide +kernel) rfl V hX dX7_init_425 rfl (by decide +kernel) (by decide +kernel) (by decide +kernel) ?_
  refine j_put (k := 80) (fs := [some (.inl (0)), some (.inl (60)), some (.inl (20)), some (.inl (1000)), some (.inl (0)), some (.inl (0)), some (.inl (0)), some (.inl (1)), some (.inl (-1)), some (.inr 81), some (.inr 82), some (.inr 83), some (.inr 84), some (.inr 85), some (.inr 86), some (.inr 87), some (.inr 88), some (.inr 89), some (.inr 90), some (.inr 91), some (.inr 92), some (.inr 93), some (.inr 94), some (.inl (0)), some (.inl (0)), some (.inl (0)), some (.inl (0)), some (.inl (0)), some (.inr 95), some (.inr 96), some (.inr 97), some (.inr 98), some (.inl (0)), some (.inl (0)), some (.inl (0)), some (.inl (0)), some (.inl (0)), none, none, some (.inl (0)), none, some (.inl (0)), some (.inl (0))]) (κ := 0) (some (.inr 99)) V hi dX7_init_427 fl_X7_81 (by decide +kernel) rfl rfl (aq (by decide +kernel)) (by decide +kernel) ?_
  refine j_aload_n V dX7_init_430 rfl rfl ?_
  refine j_iconst (z := 5) V dX7_init_431 (by decide +kernel) ?_
  refine k_newI (N := 5) 100 1900 (by decide +kernel) rfl V hX dX7_init_432 rfl (by decide +kernel) (by decide +kernel) (by decide +kernel) ?_
  refine j_put (k := 80) (fs := [some (.inl (0)), some (.inl (60)), some (.inl (20)), some (.inl (1000)), some (.inl (0)), some (.inl (0)), some (.inl (0)), some (.inl (1)), some (.inl (-1)), some (.inr 81), some (.inr 82), some (.inr 83), some (.inr 84), some (.inr 85), some (.inr 86), some (.inr 87), some (.inr 88), some (.inr 89), some (.inr 90), some (.inr 91), some (.inr 92), some (.inr 93), some (.inr 94), some (.inl (0)), some (.inl (0)), some (.inl (0)), some (.inl (0)), some (.inl (0)), some (.inr 95), some (.inr 96), some (.inr 97), some (.inr 98), some (.inl (0)), some (.inl (0)), some (.inl (0)), some (.inl (0)), some (.inl (0)), some (.inr 99), none, some (.inl (0)), none, some (.inl (0)), some (.inl (0))]) (κ := 0) (some (.inr 100)) V hi dX7_init_434 fl_X7_84 (by decide +kernel) rfl rfl (aq (by decide +kernel)) (by decide +kernel) ?_
  refine j_aload_n V dX7_init_437 rfl rfl ?_
  refine j_bipush (z := 20) V dX7_init_438 (by decide +kernel) ?_
  refine k_newI (N := 20) 101 1920 (by decide +kernel) rfl V hX dX7_init_440 rfl (by decide +kernel) (by decide +kernel) (by decide +kernel) ?_
  refine j_put (k := 80) (fs := [some (.inl (0)), some (.inl (60)), some (.inl (20)), some (.inl (1000)), some (.inl (0)), some (.inl (0)), some (.inl (0)), some (.inl (1)), some (.inl (-1)), some (.inr 81), some (.inr 82), some (.inr 83), some (.inr 84), some (.inr 85), some (.inr 86), some (.inr 87), some (.inr 88), some (.inr 89), some (.inr 90), some (.inr 91), some (.inr 92), some (.inr 93), some (.inr 94), some (.inl (0)), some (.inl (0)), some (.inl (0)), some (.inl (0)), some (.inl (0)), some (.inr 95), some (.inr 96), some (.inr 97), some (.inr 98), some (.inl (0)), some (.inl (0)), some (.inl (0)), some (.inl (0)), some (.inl (0)), some (.inr 99), some (.inr 100), some (.inl (0)), none, some (.inl (0)), some (.inl (0))]) (κ := 0) (some (.inr 101)) V hi dX7_init_442 fl_X7_87 (by decide +kernel) rfl rfl (aq (by decide +kernel)) (by decide +kernel) ?_
  refine k_world wW81 (wq (by decide +kernel)) ?_
  exact j_vret V dX7_init_445
