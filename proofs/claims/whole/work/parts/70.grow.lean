/-! one frame, in one world: J; a rule an opcode -/
abbrev EN : Type := Program × Launch × Env × State × MethodId × Array Value × List Frame × Method × Code
def J (B : Nat) (fk : FK) (v : EN) (Q : State → Prop) (S : Heap → Prop) (nc ns pc : Nat) (lv : List (Nat × Value)) (st : List Value) : Prop :=
  ∀ (H : Heap) (locs : List Loc) (ls : Array Slot), S H → va_S (AA B) v.2.2.2.1.heap H locs → LV ls fk.2.1 lv →
    W v.1 v.2.1 v.2.2.1 fk.2.2.2.1 v.2.2.2.1 v.2.2.2.2.1 v.2.2.2.2.2.1 v.2.2.2.2.2.2.1 v.2.2.2.2.2.2.2.1 v.2.2.2.2.2.2.2.2 H locs nc ns Q (F0 v.2.2.2.2.1 pc ls st)
section JJ
variable {E : EE} {B : Nat} {code : ByteArray} {fk : FK} {v : EN} {Q : State → Prop} {S : Heap → Prop} {nc ns pc : Nat} {lv : List (Nat × Value)} {st : List Value}
theorem j_iconst {n : Int} {z : Int32} (V : Bd E B code fk v.1 v.2.2.2.1 v.2.2.2.2.1 v.2.2.2.2.2.2.2.1 v.2.2.2.2.2.2.2.2) (hd : decode code pc = .ok (.iconst n, 1)) (hv : Int32.ofInt n = z) (k : J B fk v Q S nc ns (pc + 1) lv (.int z :: st)) : J B fk v Q S nc ns pc lv st := by
  intro H locs ls hR hS hL
  exact lv_iconst V.1 V.2.1 hd hv (k H locs ls hR hS hL)
theorem j_bipush {n : Int} {z : Int32} (V : Bd E B code fk v.1 v.2.2.2.1 v.2.2.2.2.1 v.2.2.2.2.2.2.2.1 v.2.2.2.2.2.2.2.2) (hd : decode code pc = .ok (.bipush n, 2)) (hv : (Int8.ofInt n).toInt32 = z) (k : J B fk v Q S nc ns (pc + 2) lv (.int z :: st)) : J B fk v Q S nc ns pc lv st := by
  intro H locs ls hR hS hL
  exact lv_bipush V.1 V.2.1 hd hv (k H locs ls hR hS hL)
theorem j_sipush {n : Int} {z : Int32} (V : Bd E B code fk v.1 v.2.2.2.1 v.2.2.2.2.1 v.2.2.2.2.2.2.2.1 v.2.2.2.2.2.2.2.2) (hd : decode code pc = .ok (.sipush n, 3)) (hv : (Int16.ofInt n).toInt32 = z) (k : J B fk v Q S nc ns (pc + 3) lv (.int z :: st)) : J B fk v Q S nc ns pc lv st := by
  intro H locs ls hR hS hL
  exact lv_sipush V.1 V.2.1 hd hv (k H locs ls hR hS hL)
theorem j_lconst {n : Fin 2} {z : Int64} (V : Bd E B code fk v.1 v.2.2.2.1 v.2.2.2.2.1 v.2.2.2.2.2.2.2.1 v.2.2.2.2.2.2.2.2) (hd : decode code pc = .ok (.lconst n, 1)) (hv : Int64.ofNat (n : Nat) = z) (k : J B fk v Q S nc ns (pc + 1) lv (.long z :: st)) : J B fk v Q S nc ns pc lv st := by
  intro H locs ls hR hS hL
  exact lv_lconst V.1 V.2.1 hd hv (k H locs ls hR hS hL)
theorem j_iload {i : Nat} {x : Int32} (V : Bd E B code fk v.1 v.2.2.2.1 v.2.2.2.2.1 v.2.2.2.2.2.2.2.1 v.2.2.2.2.2.2.2.2) (hd : decode code pc = .ok (.iload i, 2)) (hl : lvGet lv i = some (.int x)) (k : J B fk v Q S nc ns (pc + 2) lv (.int x :: st)) : J B fk v Q S nc ns pc lv st := by
  intro H locs ls hR hS hL
  exact lv_iload V.1 V.2.1 hd (hL.2.2 _ _ hl) (k H locs ls hR hS hL)
theorem j_iload_n {k0 : Fin 4} {i : Nat} {x : Int32} (V : Bd E B code fk v.1 v.2.2.2.1 v.2.2.2.2.1 v.2.2.2.2.2.2.2.1 v.2.2.2.2.2.2.2.2) (hd : decode code pc = .ok (.iload_n k0, 1)) (hi : (k0 : Nat) = i) (hl : lvGet lv i = some (.int x)) (k : J B fk v Q S nc ns (pc + 1) lv (.int x :: st)) : J B fk v Q S nc ns pc lv st := by
  intro H locs ls hR hS hL
  exact lv_iload_n V.1 V.2.1 hd hi (hL.2.2 _ _ hl) (k H locs ls hR hS hL)
theorem j_aload {i : Nat} {x : Nat} (V : Bd E B code fk v.1 v.2.2.2.1 v.2.2.2.2.1 v.2.2.2.2.2.2.2.1 v.2.2.2.2.2.2.2.2) (hd : decode code pc = .ok (.aload i, 2)) (hl : lvGet lv i = some (.ref x)) (k : J B fk v Q S nc ns (pc + 2) lv (.ref x :: st)) : J B fk v Q S nc ns pc lv st := by
  intro H locs ls hR hS hL
  exact lv_aload V.1 V.2.1 hd (hL.2.2 _ _ hl) (k H locs ls hR hS hL)
theorem j_aload_n {k0 : Fin 4} {i : Nat} {x : Nat} (V : Bd E B code fk v.1 v.2.2.2.1 v.2.2.2.2.1 v.2.2.2.2.2.2.2.1 v.2.2.2.2.2.2.2.2) (hd : decode code pc = .ok (.aload_n k0, 1)) (hi : (k0 : Nat) = i) (hl : lvGet lv i = some (.ref x)) (k : J B fk v Q S nc ns (pc + 1) lv (.ref x :: st)) : J B fk v Q S nc ns pc lv st := by
  intro H locs ls hR hS hL
  exact lv_aload_n V.1 V.2.1 hd hi (hL.2.2 _ _ hl) (k H locs ls hR hS hL)
theorem j_istore {i : Nat} {x : Int32} (V : Bd E B code fk v.1 v.2.2.2.1 v.2.2.2.2.1 v.2.2.2.2.2.2.2.1 v.2.2.2.2.2.2.2.2) (hd : decode code pc = .ok (.istore i, 2)) (hn : i < fk.2.1) (hk : okS lv i = true) (k : J B fk v Q S nc ns (pc + 2) ((i, .int x) :: lv) st) : J B fk v Q S nc ns pc lv (.int x :: st) := by
  intro H locs ls hR hS hL
  exact lv_istore V.1 V.2.1 hd hL.has hn rfl (fun ls2 h2 => k H locs ls2 hR hS (LV.st1 rfl hL hk h2))
theorem j_istore_n {k0 : Fin 4} {i : Nat} {x : Int32} (V : Bd E B code fk v.1 v.2.2.2.1 v.2.2.2.2.1 v.2.2.2.2.2.2.2.1 v.2.2.2.2.2.2.2.2) (hd : decode code pc = .ok (.istore_n k0, 1)) (hi : (k0 : Nat) = i) (hn : i < fk.2.1) (hk : okS lv i = true) (k : J B fk v Q S nc ns (pc + 1) ((i, .int x) :: lv) st) : J B fk v Q S nc ns pc lv (.int x :: st) := by
  intro H locs ls hR hS hL
  exact lv_istore_n V.1 V.2.1 hd hi hL.has hn rfl (fun ls2 h2 => k H locs ls2 hR hS (LV.st1 rfl hL hk h2))
theorem j_astore {i : Nat} {x : Nat} (V : Bd E B code fk v.1 v.2.2.2.1 v.2.2.2.2.1 v.2.2.2.2.2.2.2.1 v.2.2.2.2.2.2.2.2) (hd : decode code pc = .ok (.astore i, 2)) (hn : i < fk.2.1) (hk : okS lv i = true) (k : J B fk v Q S nc ns (pc + 2) ((i, .ref x) :: lv) st) : J B fk v Q S nc ns pc lv (.ref x :: st) := by
  intro H locs ls hR hS hL
  exact lv_astore V.1 V.2.1 hd hL.has hn rfl (fun ls2 h2 => k H locs ls2 hR hS (LV.st1 rfl hL hk h2))
theorem j_astore_n {k0 : Fin 4} {i : Nat} {x : Nat} (V : Bd E B code fk v.1 v.2.2.2.1 v.2.2.2.2.1 v.2.2.2.2.2.2.2.1 v.2.2.2.2.2.2.2.2) (hd : decode code pc = .ok (.astore_n k0, 1)) (hi : (k0 : Nat) = i) (hn : i < fk.2.1) (hk : okS lv i = true) (k : J B fk v Q S nc ns (pc + 1) ((i, .ref x) :: lv) st) : J B fk v Q S nc ns pc lv (.ref x :: st) := by
  intro H locs ls hR hS hL
  exact lv_astore_n V.1 V.2.1 hd hi hL.has hn rfl (fun ls2 h2 => k H locs ls2 hR hS (LV.st1 rfl hL hk h2))
theorem j_iinc {i : Nat} {n : Int} {x z : Int32} (V : Bd E B code fk v.1 v.2.2.2.1 v.2.2.2.2.1 v.2.2.2.2.2.2.2.1 v.2.2.2.2.2.2.2.2) (hd : decode code pc = .ok (.iinc i n, 3)) (hl : lvGet lv i = some (.int x)) (hv : x + Int32.ofInt n = z) (hk : okS lv i = true) (k : J B fk v Q S nc ns (pc + 3) ((i, .int z) :: lv) st) : J B fk v Q S nc ns pc lv st := by
  intro H locs ls hR hS hL
  obtain ⟨j, hj⟩ := List.getElem?_of_mem (visL_mem.mpr ⟨hL.lt hl, hl⟩)
  exact lv_iinc V.1 V.2.1 hd hL.has hj hv (hL.lt hl) rfl (fun ls2 h2 => k H locs ls2 hR hS (LV.st1 rfl hL hk h2))
theorem j_iadd {x y z : Int32} (V : Bd E B code fk v.1 v.2.2.2.1 v.2.2.2.2.1 v.2.2.2.2.2.2.2.1 v.2.2.2.2.2.2.2.2) (hd : decode code pc = .ok (.iadd, 1)) (hv : x + y = z) (k : J B fk v Q S nc ns (pc + 1) lv (.int z :: st)) : J B fk v Q S nc ns pc lv (.int y :: .int x :: st) := by
  intro H locs ls hR hS hL
  exact lv_iadd V.1 V.2.1 hd (by rw [hv]; exact k H locs ls hR hS hL)
theorem j_isub {x y z : Int32} (V : Bd E B code fk v.1 v.2.2.2.1 v.2.2.2.2.1 v.2.2.2.2.2.2.2.1 v.2.2.2.2.2.2.2.2) (hd : decode code pc = .ok (.isub, 1)) (hv : x - y = z) (k : J B fk v Q S nc ns (pc + 1) lv (.int z :: st)) : J B fk v Q S nc ns pc lv (.int y :: .int x :: st) := by
  intro H locs ls hR hS hL
  exact lv_isub V.1 V.2.1 hd (by rw [hv]; exact k H locs ls hR hS hL)
theorem j_iand {x y z : Int32} (V : Bd E B code fk v.1 v.2.2.2.1 v.2.2.2.2.1 v.2.2.2.2.2.2.2.1 v.2.2.2.2.2.2.2.2) (hd : decode code pc = .ok (.iand, 1)) (hv : x &&& y = z) (k : J B fk v Q S nc ns (pc + 1) lv (.int z :: st)) : J B fk v Q S nc ns pc lv (.int y :: .int x :: st) := by
  intro H locs ls hR hS hL
  exact lv_iand V.1 V.2.1 hd (by rw [hv]; exact k H locs ls hR hS hL)
theorem j_i2l {x : Int32} {z : Int64} (V : Bd E B code fk v.1 v.2.2.2.1 v.2.2.2.2.1 v.2.2.2.2.2.2.2.1 v.2.2.2.2.2.2.2.2) (hd : decode code pc = .ok (.i2l, 1)) (hv : x.toInt64 = z) (k : J B fk v Q S nc ns (pc + 1) lv (.long z :: st)) : J B fk v Q S nc ns pc lv (.int x :: st) := by
  intro H locs ls hR hS hL
  exact lv_i2l V.1 V.2.1 hd hv (k H locs ls hR hS hL)
theorem j_lshl {x z : Int64} {y : Int32} (V : Bd E B code fk v.1 v.2.2.2.1 v.2.2.2.2.1 v.2.2.2.2.2.2.2.1 v.2.2.2.2.2.2.2.2) (hd : decode code pc = .ok (.lshl, 1)) (hv : x <<< (y.toInt64 &&& 63) = z) (k : J B fk v Q S nc ns (pc + 1) lv (.long z :: st)) : J B fk v Q S nc ns pc lv (.int y :: .long x :: st) := by
  intro H locs ls hR hS hL
  exact lv_lshl V.1 V.2.1 hd hv (k H locs ls hR hS hL)
theorem j_land {x y z : Int64} (V : Bd E B code fk v.1 v.2.2.2.1 v.2.2.2.2.1 v.2.2.2.2.2.2.2.1 v.2.2.2.2.2.2.2.2) (hd : decode code pc = .ok (.land, 1)) (hv : x &&& y = z) (k : J B fk v Q S nc ns (pc + 1) lv (.long z :: st)) : J B fk v Q S nc ns pc lv (.long y :: .long x :: st) := by
  intro H locs ls hR hS hL
  exact lv_land V.1 V.2.1 hd (by rw [hv]; exact k H locs ls hR hS hL)
theorem j_lor {x y z : Int64} (V : Bd E B code fk v.1 v.2.2.2.1 v.2.2.2.2.1 v.2.2.2.2.2.2.2.1 v.2.2.2.2.2.2.2.2) (hd : decode code pc = .ok (.lor, 1)) (hv : x ||| y = z) (k : J B fk v Q S nc ns (pc + 1) lv (.long z :: st)) : J B fk v Q S nc ns pc lv (.long y :: .long x :: st) := by
  intro H locs ls hR hS hL
  exact lv_lor V.1 V.2.1 hd (by rw [hv]; exact k H locs ls hR hS hL)
theorem j_lcmp {x y : Int64} {z : Int32} (V : Bd E B code fk v.1 v.2.2.2.1 v.2.2.2.2.1 v.2.2.2.2.2.2.2.1 v.2.2.2.2.2.2.2.2) (hd : decode code pc = .ok (.lcmp, 1)) (hv : lg_cmp x y = z) (k : J B fk v Q S nc ns (pc + 1) lv (.int z :: st)) : J B fk v Q S nc ns pc lv (.long y :: .long x :: st) := by
  intro H locs ls hR hS hL
  exact W.lcmp V.1 V.2.1 hd (by rw [hv]; exact k H locs ls hR hS hL)
theorem j_dup {va : Value} (V : Bd E B code fk v.1 v.2.2.2.1 v.2.2.2.2.1 v.2.2.2.2.2.2.2.1 v.2.2.2.2.2.2.2.2) (hd : decode code pc = .ok (.dup, 1)) (h1 : va.category = 1) (k : J B fk v Q S nc ns (pc + 1) lv (va :: va :: st)) : J B fk v Q S nc ns pc lv (va :: st) := by
  intro H locs ls hR hS hL
  exact lv_dup V.1 V.2.1 hd h1 (k H locs ls hR hS hL)
theorem j_goto {off : Int} {tgt : Nat} (V : Bd E B code fk v.1 v.2.2.2.1 v.2.2.2.2.1 v.2.2.2.2.2.2.2.1 v.2.2.2.2.2.2.2.2) (hd : decode code pc = .ok (.goto off, 3)) (ht : (pc : Int) + off = (tgt : Int)) (k : J B fk v Q S nc ns tgt lv st) : J B fk v Q S nc ns pc lv st := by
  intro H locs ls hR hS hL
  exact lv_goto V.1 V.2.1 hd ht (k H locs ls hR hS hL)
theorem j_icmp_lt {x y : Int32} {off : Int} {tgt : Nat} (V : Bd E B code fk v.1 v.2.2.2.1 v.2.2.2.2.1 v.2.2.2.2.2.2.2.1 v.2.2.2.2.2.2.2.2) (hd : decode code pc = .ok (.if_icmp .lt off, 3)) (ht : (pc : Int) + off = (tgt : Int)) (k0 : x < y → J B fk v Q S nc ns tgt lv st) (k1 : ¬ x < y → J B fk v Q S nc ns (pc + 3) lv st) : J B fk v Q S nc ns pc lv (.int y :: .int x :: st) := by
  intro H locs ls hR hS hL
  exact lv_icmp_lt V.1 V.2.1 hd ht (fun q => k0 q H locs ls hR hS hL) (fun q => k1 q H locs ls hR hS hL)
theorem j_icmp_gt {x y : Int32} {off : Int} {tgt : Nat} (V : Bd E B code fk v.1 v.2.2.2.1 v.2.2.2.2.1 v.2.2.2.2.2.2.2.1 v.2.2.2.2.2.2.2.2) (hd : decode code pc = .ok (.if_icmp .gt off, 3)) (ht : (pc : Int) + off = (tgt : Int)) (k0 : y < x → J B fk v Q S nc ns tgt lv st) (k1 : ¬ y < x → J B fk v Q S nc ns (pc + 3) lv st) : J B fk v Q S nc ns pc lv (.int y :: .int x :: st) := by
  intro H locs ls hR hS hL
  exact lv_icmp_gt V.1 V.2.1 hd ht (fun q => k0 q H locs ls hR hS hL) (fun q => k1 q H locs ls hR hS hL)
theorem j_icmp_ge {x y : Int32} {off : Int} {tgt : Nat} (V : Bd E B code fk v.1 v.2.2.2.1 v.2.2.2.2.1 v.2.2.2.2.2.2.2.1 v.2.2.2.2.2.2.2.2) (hd : decode code pc = .ok (.if_icmp .ge off, 3)) (ht : (pc : Int) + off = (tgt : Int)) (k0 : y ≤ x → J B fk v Q S nc ns tgt lv st) (k1 : ¬ y ≤ x → J B fk v Q S nc ns (pc + 3) lv st) : J B fk v Q S nc ns pc lv (.int y :: .int x :: st) := by
  intro H locs ls hR hS hL
  exact lv_icmp_ge V.1 V.2.1 hd ht (fun q => k0 q H locs ls hR hS hL) (fun q => k1 q H locs ls hR hS hL)
theorem j_icmp_le {x y : Int32} {off : Int} {tgt : Nat} (V : Bd E B code fk v.1 v.2.2.2.1 v.2.2.2.2.1 v.2.2.2.2.2.2.2.1 v.2.2.2.2.2.2.2.2) (hd : decode code pc = .ok (.if_icmp .le off, 3)) (ht : (pc : Int) + off = (tgt : Int)) (k0 : x ≤ y → J B fk v Q S nc ns tgt lv st) (k1 : ¬ x ≤ y → J B fk v Q S nc ns (pc + 3) lv st) : J B fk v Q S nc ns pc lv (.int y :: .int x :: st) := by
  intro H locs ls hR hS hL
  exact lv_icmp_le V.1 V.2.1 hd ht (fun q => k0 q H locs ls hR hS hL) (fun q => k1 q H locs ls hR hS hL)
theorem j_icmp_eq {x y : Int32} {off : Int} {tgt : Nat} (V : Bd E B code fk v.1 v.2.2.2.1 v.2.2.2.2.1 v.2.2.2.2.2.2.2.1 v.2.2.2.2.2.2.2.2) (hd : decode code pc = .ok (.if_icmp .eq off, 3)) (ht : (pc : Int) + off = (tgt : Int)) (k0 : x = y → J B fk v Q S nc ns tgt lv st) (k1 : ¬ x = y → J B fk v Q S nc ns (pc + 3) lv st) : J B fk v Q S nc ns pc lv (.int y :: .int x :: st) := by
  intro H locs ls hR hS hL
  exact lv_icmp_eq V.1 V.2.1 hd ht (fun q => k0 q H locs ls hR hS hL) (fun q => k1 q H locs ls hR hS hL)
theorem j_icmp_ne {x y : Int32} {off : Int} {tgt : Nat} (V : Bd E B code fk v.1 v.2.2.2.1 v.2.2.2.2.1 v.2.2.2.2.2.2.2.1 v.2.2.2.2.2.2.2.2) (hd : decode code pc = .ok (.if_icmp .ne off, 3)) (ht : (pc : Int) + off = (tgt : Int)) (k0 : ¬ x = y → J B fk v Q S nc ns tgt lv st) (k1 : x = y → J B fk v Q S nc ns (pc + 3) lv st) : J B fk v Q S nc ns pc lv (.int y :: .int x :: st) := by
  intro H locs ls hR hS hL
  exact lv_icmp_ne V.1 V.2.1 hd ht (fun q => k0 q H locs ls hR hS hL) (fun q => k1 q H locs ls hR hS hL)
theorem j_if_eq {x : Int32} {off : Int} {tgt : Nat} (V : Bd E B code fk v.1 v.2.2.2.1 v.2.2.2.2.1 v.2.2.2.2.2.2.2.1 v.2.2.2.2.2.2.2.2) (hd : decode code pc = .ok (.ifCond .eq off, 3)) (ht : (pc : Int) + off = (tgt : Int)) (k0 : x = 0 → J B fk v Q S nc ns tgt lv st) (k1 : ¬ x = 0 → J B fk v Q S nc ns (pc + 3) lv st) : J B fk v Q S nc ns pc lv (.int x :: st) := by
  intro H locs ls hR hS hL
  exact lv_if_eq V.1 V.2.1 hd ht (fun q => k0 q H locs ls hR hS hL) (fun q => k1 q H locs ls hR hS hL)
theorem j_if_ne {x : Int32} {off : Int} {tgt : Nat} (V : Bd E B code fk v.1 v.2.2.2.1 v.2.2.2.2.1 v.2.2.2.2.2.2.2.1 v.2.2.2.2.2.2.2.2) (hd : decode code pc = .ok (.ifCond .ne off, 3)) (ht : (pc : Int) + off = (tgt : Int)) (k0 : ¬ x = 0 → J B fk v Q S nc ns tgt lv st) (k1 : x = 0 → J B fk v Q S nc ns (pc + 3) lv st) : J B fk v Q S nc ns pc lv (.int x :: st) := by
  intro H locs ls hR hS hL
  exact lv_if_ne V.1 V.2.1 hd ht (fun q => k0 q H locs ls hR hS hL) (fun q => k1 q H locs ls hR hS hL)
theorem j_tableOut {dflt lo hi : Int} {offs : Array Int} {len : Nat} {x : Int32} {tgt : Nat} (V : Bd E B code fk v.1 v.2.2.2.1 v.2.2.2.2.1 v.2.2.2.2.2.2.2.1 v.2.2.2.2.2.2.2.2) (hd : decode code pc = .ok (.tableswitch dflt lo hi offs, len)) (h : x.toInt < lo ∨ hi < x.toInt) (ht : (pc : Int) + dflt = (tgt : Int)) (k : J B fk v Q S nc ns tgt lv st) : J B fk v Q S nc ns pc lv (.int x :: st) := by
  intro H locs ls hR hS hL
  exact lv_tableOut V.1 V.2.1 hd h ht (k H locs ls hR hS hL)
theorem j_tableIn {dflt lo hi : Int} {offs : Array Int} {len : Nat} {x : Int32} {off : Int} {tgt : Nat} (V : Bd E B code fk v.1 v.2.2.2.1 v.2.2.2.2.1 v.2.2.2.2.2.2.2.1 v.2.2.2.2.2.2.2.2) (hd : decode code pc = .ok (.tableswitch dflt lo hi offs, len)) (h1 : ¬ x.toInt < lo) (h2 : ¬ hi < x.toInt) (ho : offs[(x.toInt - lo).toNat]? = some off) (ht : (pc : Int) + off = (tgt : Int)) (k : J B fk v Q S nc ns tgt lv st) : J B fk v Q S nc ns pc lv (.int x :: st) := by
  intro H locs ls hR hS hL
  exact lv_tableIn V.1 V.2.1 hd h1 h2 ho ht (k H locs ls hR hS hL)
theorem j_ldc2 {index : Nat} {z : Int64} (V : Bd E B code fk v.1 v.2.2.2.1 v.2.2.2.2.1 v.2.2.2.2.2.2.2.1 v.2.2.2.2.2.2.2.2) (hd : decode code pc = .ok (.ldc2_w index, 3)) (hw : Cond.constantLong fk.1 index z ∈ tbG) (k : J B fk v Q S nc ns (pc + 3) lv (.long z :: st)) : J B fk v Q S nc ns pc lv st := by
  intro H locs ls hR hS hL
  exact lv_ldc2 V.1 V.2.1 V.2.2.2.2.2.1 (V.2.2.2.2.2.2.1.1 _ hw _) hd (k H locs ls hR hS hL)
theorem j_le {lv' : List (Nat × Value)} (hl : lvLe lv lv') (k : J B fk v Q S nc ns pc lv' st) : J B fk v Q S nc ns pc lv st := fun H locs ls hR hS hL => k H locs ls hR hS (hL.le hl)
theorem j_eq {S' : Heap → Prop} {nc' ns' pc' : Nat} {lv' : List (Nat × Value)} {st' : List Value} (h0 : S = S') (h1 : nc = nc') (h2 : ns = ns') (h3 : pc = pc') (h4 : lv = lv') (h5 : st = st') (k : J B fk v Q S' nc' ns' pc' lv' st') : J B fk v Q S nc ns pc lv st := by
  subst h0; subst h1; subst h2; subst h3; subst h4; subst h5; exact k
theorem j_of {S' : Heap → Prop} (h : ∀ H, S H → S' H) (k : J B fk v Q S' nc ns pc lv st) : J B fk v Q S nc ns pc lv st := fun H locs ls hR hS hL => k H locs ls (h H hR) hS hL
/-! the growing world -/
abbrev FV : Type := Option (Int32 ⊕ Nat)
abbrev LN : Type := (Nat × List FV) ⊕ ((Nat × Bool × List Int32) ⊕ (Nat × List (Option Nat)))
def vN (B : Nat) : FV → Value
  | none => .null
  | some (.inl x) => .int x
  | some (.inr r) => .ref (B + r)
def entN (E : EE) (B : Nat) : LN → va_E
  | .inl (ci, fs) => .inr (ci, fs.map (vN B))
  | .inr (.inl (n, false, xs)) => .inl (E.2.1 0, n, .inl (fun j => xs.getD j 0))
  | .inr (.inl (n, true, _)) => .inl (E.2.1 1, n, .inr (.inl (fun _ => 0)))
  | .inr (.inr (t, rs)) => .inl (E.2.1 t, rs.length, .inr (.inr (.inr (.inr (fun i => (rs.getD i none).map (fun r => B + r))))))
def RepN (E : EE) (B : Nat) (pl : List LN) (H : Heap) : Prop := (∀ (k : Nat) (le : LN), pl[k]? = some le → va_at E.1 vwCl (B + k, entN E B le) H) ∧ H.size = B + pl.length
theorem RepN.push {pl : List LN} {le : LN} {H H1 : Heap} (h : RepN E B pl H) (hz : H1.size = H.size + 1) (ho : ∀ q, q < H.size → H1[q]? = H[q]?) (he : va_at E.1 vwCl (H.size, entN E B le) H1) : RepN E B (pl ++ [le]) H1 := by
  refine ⟨fun k x hx => ?_, by rw [hz, h.2]; simp; omega⟩
  by_cases hk : k < pl.length
  · rw [List.getElem?_append_left hk] at hx
    exact (h.1 k x hx).kept (ho _ (by rw [h.2]; exact Nat.add_lt_add_left hk B))
  · rw [List.getElem?_append_right (by omega)] at hx
    have hl : k - pl.length < 1 := (List.getElem?_eq_some_iff.mp hx).1
    rw [show k - pl.length = 0 by omega] at hx
    cases hx
    rw [h.2, show B + pl.length = B + k by omega] at he
    exact he
theorem RepN.set {pl : List LN} {k : Nat} {le' : LN} {H H1 : Heap} (h : RepN E B pl H) (hz : H1.size = H.size) (ho : ∀ q, q ≠ B + k → H1[q]? = H[q]?) (he : va_at E.1 vwCl (B + k, entN E B le') H1) : RepN E B (pl.set k le') H1 := by
  refine ⟨fun i x hx => ?_, by rw [hz, h.2]; simp⟩
  rw [List.getElem?_set] at hx
  by_cases hi : k = i
  · subst hi
    rw [if_pos rfl] at hx
    split at hx
    · cases hx
      exact he
    · cases hx
  · rw [if_neg hi] at hx
    exact (h.1 i x hx).kept (ho _ (by omega))
/-- the words that 06's frame doesn't hold: the array classes -/
def XW (U : State) : Prop := (∀ a, (Cond.arrayClass .int).before a U = true) ∧ (∀ a, (Cond.arrayClass .long).before a U = true) ∧ va_AO "DunkedBiscuits$Shelf" U ∧ va_AO "DunkedBiscuits$Biscuit" U
theorem XW.warm {s U : State} (hW : s.WarmedH U.vm) (h : XW s) : XW U := ⟨fun a => word_at hW (Or.inr ⟨_, rfl⟩) (h.1 a), fun a => word_at hW (Or.inr ⟨_, rfl⟩) (h.2.1 a), h.2.2.1.moved hW.alike, h.2.2.2.moved hW.alike⟩
theorem va_S.push {A : Nat → Prop} {H0 H H1 : Heap} {locs : List Loc} (h : va_S A H0 H locs) (hz : H1.size = H.size + 1) (ho : ∀ q, q < H.size → H1[q]? = H[q]?) : va_S A H0 H1 locs :=
  ⟨Nat.le_trans h.1 (by omega), fun x h1 h2 => (ho x (Nat.lt_of_lt_of_le h1 h.1)).trans (h.2.1 x h1 h2), h.2.2⟩
/-- a new object's fields -/
def dOK (t : FieldType) (o : Option FV) : Bool := match o with
  | some none => (match t with | .object _ => true | .array _ => true | _ => false)
  | some (some (.inl x)) => (match t with | .int => decide (x = 0) | .boolean => decide (x = 0) | _ => false)
  | _ => false
theorem dOK_v {t : FieldType} {fs : List FV} {j : Nat} (h : dOK t fs[j]? = true) : defaultValue t = vp_V (fs.map (vN B)) j := by
  unfold vp_V
  rw [List.getD_eq_getElem?_getD, List.getElem?_map]
  cases hf : fs[j]? with
  | none => rw [hf] at h; cases h
  | some o =>
    rw [hf] at h
    cases o with
    | none => cases t <;> first | rfl | cases h
    | some x =>
      cases x with
      | inr r => cases h
      | inl x =>
        cases t <;> first | cases h | (have hx : x = 0 := by simpa [dOK] using h
                                       subst hx; rfl)
/-- a class that can be made: its class link's word, instantiable, initialized -/
def NW (own : String) (idx ci : Nat) (fs : List FV) : Prop := ∃ (C : String) (T : u_T) (N : Nat) (ty : Nat → FieldType), vwCl[ci]? = some (C, T, N) ∧ Cond.classLink own idx C ∈ tbG ∧ Cond.instantiable C N ∈ tbG ∧ Cond.initialized C ∈ tbG ∧ (∀ k, k < N → parseFieldDescriptor (T k).2.2.1 = some (ty k)) ∧ fs.length = N ∧ (List.range N).all (fun j => dOK (ty j) fs[j]?) = true
theorem j_new {pl : List LN} {idx ci : Nat} {fs : List FV} (V : Bd E B code fk v.1 v.2.2.2.1 v.2.2.2.2.1 v.2.2.2.2.2.2.2.1 v.2.2.2.2.2.2.2.2) (hN : NW fk.1 idx ci fs) (hd : decode code pc = .ok (.new idx, 3)) (h1 : nc + 1 ≤ fk.2.2.2.1.cells) (h2 : ns + fs.length ≤ fk.2.2.2.1.slots)
    (kk : J B fk v Q (RepN E B (pl ++ [.inl (ci, fs)])) (nc + 1) (ns + fs.length) (pc + 3) lv (.ref (B + pl.length) :: st)) : J B fk v Q (RepN E B pl) nc ns pc lv st := by
  intro H locs ls hR hS hL
  obtain ⟨C, T, N, ty, hc, w1, w2, w3, hty, rfl, hfs⟩ := hN
  have hE := V.2.2.2.2.2.2.1
  have hts : ∀ w ∈ tbG, w.before v.2.2.2.2.2.1 v.2.2.2.1 = true := fun w hw => hE.1 w hw v.2.2.2.2.2.1
  have hKn := hE.2.2.1.1 ci _ hc
  refine W.newcK V.1 V.2.1 V.2.2.2.2.2.1 (hts _ w1) (hts _ w2) (hts _ w3) rfl hd h1 h2 hKn.2.1 rfl fun H1 kC hkC e1 z1 o1 => ?_
  have hq : B + pl.length = H.size := hR.2.symm
  have h9 := kk H1 locs ls (hR.push z1 o1 ⟨_, hc, (u_born ty hts (cl_all ci _ hc).1 hKn hkC e1 hty).to (fun j hj => dOK_v (List.all_eq_true.mp hfs j (List.mem_range.mpr hj)))⟩) (hS.push z1 o1) hL
  rw [hq] at h9
  exact h9
theorem j_newI {pl : List LN} {n : Int32} {N : Nat} (V : Bd E B code fk v.1 v.2.2.2.1 v.2.2.2.2.1 v.2.2.2.2.2.2.2.1 v.2.2.2.2.2.2.2.2) (hX : XW v.2.2.2.1) (hd : decode code pc = .ok (.newarray .int, 2)) (hn : n = nI N) (hN : N ≤ 100000) (h1 : nc + 1 ≤ fk.2.2.2.1.cells) (h2 : ns + N ≤ fk.2.2.2.1.slots)
    (kk : J B fk v Q (RepN E B (pl ++ [.inr (.inl (N, false, []))])) (nc + 1) (ns + N) (pc + 2) lv (.ref (B + pl.length) :: st)) : J B fk v Q (RepN E B pl) nc ns pc lv (.int n :: st) := by
  intro H locs ls hR hS hL
  have hE := V.2.2.2.2.2.2.1
  subst hn
  refine va_newaK (atype := .int) V.1 V.2.1 (hX.1 _) rfl hd rfl (nI_pos (by omega)) (nI_clamp (by omega)) (by show N * 4 ≤ _; omega) h1 h2 rfl fun H1 cA e1 z1 o1 _ hf => ?_
  have hf' : v.2.2.2.1.vm.findClass ("[" ++ FieldType.int.toString) = some cA := hf
  have hr : v.2.2.2.1.vm.findClass ("[" ++ FieldType.int.toString) = some (E.2.1 0) := (hE.2.2.1.2 0 (E.2.1 0, .int) rfl).2
  have hA : cA = E.2.1 0 := Option.some.inj (hf'.symm.trans hr)
  subst hA
  have h9 := kk H1 locs ls (hR.push (le := .inr (.inl (N, false, []))) z1 o1 (show H1[H.size]? = some (vp_cell _ _) from e1)) (hS.push z1 o1) hL
  rw [← hR.2] at h9
  exact h9
theorem j_newL {pl : List LN} {n : Int32} {N : Nat} (V : Bd E B code fk v.1 v.2.2.2.1 v.2.2.2.2.1 v.2.2.2.2.2.2.2.1 v.2.2.2.2.2.2.2.2) (hX : XW v.2.2.2.1) (hd : decode code pc = .ok (.newarray .long, 2)) (hn : n = nI N) (hN : N ≤ 100000) (h1 : nc + 1 ≤ fk.2.2.2.1.cells) (h2 : ns + N ≤ fk.2.2.2.1.slots)
    (kk : J B fk v Q (RepN E B (pl ++ [.inr (.inl (N, true, []))])) (nc + 1) (ns + N) (pc + 2) lv (.ref (B + pl.length) :: st)) : J B fk v Q (RepN E B pl) nc ns pc lv (.int n :: st) := by
  intro H locs ls hR hS hL
  have hE := V.2.2.2.2.2.2.1
  subst hn
  refine va_newaK (atype := .long) V.1 V.2.1 (hX.2.1 _) rfl hd rfl (nI_pos (by omega)) (nI_clamp (by omega)) (by show N * 8 ≤ _; omega) h1 h2 rfl fun H1 cA e1 z1 o1 _ hf => ?_
  have hf' : v.2.2.2.1.vm.findClass ("[" ++ FieldType.long.toString) = some cA := hf
  have hr : v.2.2.2.1.vm.findClass ("[" ++ FieldType.long.toString) = some (E.2.1 1) := (hE.2.2.1.2 1 (E.2.1 1, .long) rfl).2
  have hA : cA = E.2.1 1 := Option.some.inj (hf'.symm.trans hr)
  subst hA
  have h9 := kk H1 locs ls (hR.push (le := .inr (.inl (N, true, []))) z1 o1 (show H1[H.size]? = some (vp_cell _ _) from e1)) (hS.push z1 o1) hL
  rw [← hR.2] at h9
  exact h9
theorem j_anew {pl : List LN} {idx t : Nat} {C : String} {n : Int32} {N : Nat} (V : Bd E B code fk v.1 v.2.2.2.1 v.2.2.2.2.1 v.2.2.2.2.2.2.2.1 v.2.2.2.2.2.2.2.2) (ha : va_AO C v.2.2.2.1) (ht : (tysE E)[t]? = some (E.2.1 t, .object C)) (hw : Cond.classLink fk.1 idx C ∈ tbG) (hd : decode code pc = .ok (.anewarray idx, 3)) (hn : n = nI N) (hN : N ≤ 100000) (h1 : nc + 1 ≤ fk.2.2.2.1.cells) (h2 : ns + N ≤ fk.2.2.2.1.slots)
    (kk : J B fk v Q (RepN E B (pl ++ [.inr (.inr (t, List.replicate N none))])) (nc + 1) (ns + N) (pc + 3) lv (.ref (B + pl.length) :: st)) : J B fk v Q (RepN E B pl) nc ns pc lv (.int n :: st) := by
  intro H locs ls hR hS hL
  have hE := V.2.2.2.2.2.2.1
  subst hn
  have hcl : (nI N).toNatClampNeg = N := nI_clamp (by omega)
  refine W.anew V.1 V.2.1 V.2.2.2.2.2.1 (hE.1 _ hw _) ha.use rfl hd rfl (nI_pos (by omega)) (by rw [hcl]; omega) h1 (by rw [hcl]; exact h2) fun cA kA comp q1 q2 q3 q4 => ?_
  obtain ⟨_, _, _, _, _, hf⟩ := (hE.2.2.1.2 t _ ht).2
  have hA : cA = E.2.1 t := Option.some.inj (q1.symm.trans hf)
  subst hA
  have h9 := kk (H.push { cls := E.2.1 t, slots := Array.replicate (nI N).toNatClampNeg .null, vm := .none }) locs ls (hR.push (by simp) (fun q hq => by rw [Array.getElem?_push, if_neg (Nat.ne_of_lt hq)]) (by
    show (H.push _)[H.size]? = some (vp_cell _ _)
    rw [vp_cell_q, hcl, ← show arrV (E.2.1 t) N (fun _ => Value.null) = { cls := E.2.1 t, slots := Array.replicate N .null, vm := .none } from by rw [← arrV_new]]
    simp
    congr 1
    funext j
    by_cases hj : j < N
    · simp [List.getElem?_replicate, hj, va_rf]
    · simp [List.getElem?_replicate, hj, va_rf])) (hS.push (by simp) (fun q hq => by rw [Array.getElem?_push, if_neg (Nat.ne_of_lt hq)])) hL
  rw [← hR.2, hcl] at h9
  rw [hcl]
  exact h9
/-! fields -/
def okK (t : FieldType) (κ : Nat) : Bool := match κ with
  | 0 => (match t with | .object _ => true | .array _ => true | _ => false)
  | 1 => (match t with | .int => true | _ => false)
  | _ => false
def kd : FV → Nat
  | none => 2
  | some (.inl _) => 1
  | some (.inr _) => 0
def chk (own : String) (ci j κ : Nat) : Bool := (vwCl[ci]?).any (fun q => (parseFieldDescriptor (q.2.1 j).2.2.1).any (fun t => okK t κ) && (q.2.1 j).1 == own)
theorem okK_n {t : FieldType} {x : FV} (h : okK t (kd x) = true) : narrow t (vN B x) = vN B x ∧ fits t (vN B x) = true := by
  cases x with
  | none => cases t <;> cases h
  | some y =>
    cases y with
    | inl i => cases t <;> first | exact ⟨rfl, rfl⟩ | cases h
    | inr r => cases t <;> first | exact ⟨rfl, rfl⟩ | cases h
theorem chk_of {own C : String} {T : u_T} {N ci j κ : Nat} (hc : vwCl[ci]? = some (C, T, N)) (h : chk own ci j κ = true) : ∃ t, parseFieldDescriptor (T j).2.2.1 = some t ∧ okK t κ = true ∧ (T j).1 = own := by
  unfold chk at h
  rw [hc] at h
  simp only [Option.any_some, Bool.and_eq_true, beq_iff_eq] at h
  cases hp : parseFieldDescriptor (T j).2.2.1 with
  | none => rw [hp] at h; simp at h
  | some t =>
    rw [hp] at h
    exact ⟨t, rfl, by simpa using h.1, h.2⟩
theorem j_put {pl : List LN} {k idx ci j κ : Nat} {fs : List FV} {z : Value} (x : FV) (V : Bd E B code fk v.1 v.2.2.2.1 v.2.2.2.2.1 v.2.2.2.2.2.2.2.1 v.2.2.2.2.2.2.2.2) (hi : v.2.2.2.2.2.2.2.1.name = "<init>") (hd : decode code pc = .ok (.putfield idx, 3)) (hf : FL fk.1 idx ci j) (hck : chk fk.1 ci j κ = true) (hκ : kd x = κ) (hz : vN B x = z) (hk : pl[k]? = some (.inl (ci, fs))) (hj : j < fs.length)
    (kk : J B fk v Q (RepN E B (pl.set k (.inl (ci, fs.set j x)))) nc ns (pc + 3) lv st) : J B fk v Q (RepN E B pl) nc ns pc lv (z :: .ref (B + k) :: st) := by
  intro H locs ls hR hS hL
  subst hz; subst hκ
  obtain ⟨C, T, N, hc, hjN, hl⟩ := hf
  obtain ⟨t, ht1, ht2, hdecl⟩ := chk_of hc hck
  obtain ⟨hn, hfit⟩ := okK_n (B := B) ht2
  have hE := V.2.2.2.2.2.2.1
  have hts : ∀ w ∈ tbG, w.before v.2.2.2.2.2.1 v.2.2.2.1 = true := fun w hw => hE.1 w hw v.2.2.2.2.2.1
  obtain ⟨cl1, cl2, ty0, cl3⟩ := cl_all ci _ hc
  have hK := hE.2.2.1
  have hown := V.2.2.2.2.2.1
  have hap := va_apart (own := fk.1) hts cl1 ty0 cl3 cl2 hK hc
  obtain ⟨r, h1, cell, q1, q2, q3, q4⟩ := hR.1 k _ hk
  have hr : r = (C, T, N) := Option.some.inj (h1.symm.trans hc)
  subst hr
  obtain ⟨hSl, hfc, kC, hkC, hkind⟩ := hK.1 ci _ hc
  obtain ⟨cf, kf, fi, f, hi2, hsl⟩ := hSl j hjN
  have hlay := hts _ (cl1 _ (u_in_lay hjN))
  unfold u_lay at hlay
  have hst := (u_facts hfc hkC (u_lays hts cl1 hjN) hi2).1
  have hlm : j < (fs.map (vN B)).length := by simpa using hj
  have fin : ∀ (H' : Heap) (locs' : List Loc), H'[B + k]? = some (cell.setSlot (E.1.2 ci j) (vN B x)) → H'.size = H.size → (∀ q, q ≠ B + k → H'[q]? = H[q]?) → va_S (AA B) v.2.2.2.1.heap H' locs' →
      W v.1 v.2.1 v.2.2.1 fk.2.2.2.1 v.2.2.2.1 v.2.2.2.2.1 v.2.2.2.2.2.1 v.2.2.2.2.2.2.1 v.2.2.2.2.2.2.2.1 v.2.2.2.2.2.2.2.2 H' locs' nc ns Q (F0 v.2.2.2.2.1 (pc + 3) ls st) := by
    intro H' locs' e1 e2 e3 hS'
    refine kk H' locs' ls (hR.set e2 e3 ⟨_, hc, ?_⟩) hS' hL
    rw [List.map_set]
    exact t_OB.to (V := updV (vp_V (fs.map (vN B))) j (vN B x)) ⟨_, e1, q2, q3, t_set q4 hap hjN (vN B x)⟩ (fun i _ => vp_updV_set hlm (vN B x) i)
  cases hfin : (T j).2.2.2 with
  | false =>
    rw [if_neg (by rw [hfin]; decide)] at hlay
    have h6 := u_store hfc hkC hkind hlay hi2 ht1 hn hfit
    refine W.putK V.1 V.2.1 (f := f) ⟨hown, hE.1 _ hl _, ⟨_, _, _, hi2⟩, hst⟩ (by rw [q2]; exact h6) q1 q3 (by rw [hsl]; exact k2_hasslot (q4 j hjN)) rfl rfl hd fun H' e1 e2 e3 => ?_
    rw [hsl] at e1 ⊢
    exact fin H' _ e1 e2 e3 (hS.put e2 e3 (Nat.le_add_right _ _))
  | true =>
    rw [if_pos hfin] at hlay
    have hcf : v.2.2.2.2.1.cls = cf := by
      obtain ⟨_, _, c', _, _, _, -, -, hf', -, -, -, hown2, -⟩ := Cond.laysFinal_spec hlay
      have e1 : c' = cf := by have := hi2.symm.trans hf'; simp at this; exact this.1.symm
      rw [hdecl] at hown2
      rw [← e1]; exact Option.some.inj (hown.symm.trans hown2)
    have h6 := u_fits hfc hkC hkind (Or.inr hlay) hi2 ht1 hn hfit
    refine W.putFinK V.1 V.2.1 hown (hE.1 _ hl _) hi2 hst hcf hi (by rw [q2]; exact h6) q1 q3 (by rw [hsl]; exact k2_hasslot (q4 j hjN)) rfl rfl hd fun H' e1 e2 e3 => ?_
    rw [hsl] at e1 ⊢
    exact fin H' _ e1 e2 e3 (hS.put e2 e3 (Nat.le_add_right _ _))
theorem j_getN {pl : List LN} {k idx ci j rr : Nat} {fs : List FV} (V : Bd E B code fk v.1 v.2.2.2.1 v.2.2.2.2.1 v.2.2.2.2.2.2.2.1 v.2.2.2.2.2.2.2.2) (hd : decode code pc = .ok (.getfield idx, 3)) (hf : FL fk.1 idx ci j) (hk : pl[k]? = some (.inl (ci, fs))) (hj : fs[j]? = some (some (.inr rr)))
    (kk : J B fk v Q (RepN E B pl) nc ns (pc + 3) lv (.ref (B + rr) :: st)) : J B fk v Q (RepN E B pl) nc ns pc lv (.ref (B + k) :: st) := by
  intro H locs ls hR hS hL
  obtain ⟨C, T, N, hc, hjN, hl⟩ := hf
  have hE := V.2.2.2.2.2.2.1
  have hts : ∀ w ∈ tbG, w.before v.2.2.2.2.2.1 v.2.2.2.1 = true := fun w hw => hE.1 w hw v.2.2.2.2.2.1
  obtain ⟨r, h1, cell, q1, q2, q3, q4⟩ := hR.1 k _ hk
  have hr : r = (C, T, N) := Option.some.inj (h1.symm.trans hc)
  subst hr
  obtain ⟨hSl, hfc, kC, hkC, hkind⟩ := hE.2.2.1.1 ci _ hc
  obtain ⟨cf, kf, fi, f, hi, hsl⟩ := hSl j hjN
  refine W.getf V.1 V.2.1 V.2.2.2.2.2.1 (hE.1 _ hl _) hi (u_facts hfc hkC (u_lays hts (cl_all ci _ hc).1 hjN) hi).1 q1 (by rw [q3]; exact fun h => by cases h) (v := .ref (B + rr)) ?_ rfl rfl hd (kk H locs ls hR hS hL)
  rw [hsl, q4 j hjN]
  simp [vp_V, hj, vN]
theorem getD_app {xs : List Int32} {x : Int32} {j : Nat} : (xs ++ [x]).getD j 0 = if j = xs.length then x else xs.getD j 0 := by
  by_cases hj : j = xs.length
  · subst hj; simp
  · rw [if_neg hj]
    by_cases h2 : j < xs.length
    · simp [List.getD_eq_getElem?_getD, List.getElem?_append_left h2]
    · rw [List.getD_eq_getElem?_getD, List.getD_eq_getElem?_getD, List.getElem?_eq_none (by simp; omega), List.getElem?_eq_none (by omega)]
theorem j_iastN {pl : List LN} {k n q : Nat} {i x : Int32} {xs : List Int32} (V : Bd E B code fk v.1 v.2.2.2.1 v.2.2.2.2.1 v.2.2.2.2.2.2.2.1 v.2.2.2.2.2.2.2.2) (hd : decode code pc = .ok (.iastore, 1)) (hk : pl[k]? = some (.inr (.inl (n, false, xs)))) (hi : i = nI q) (hq : q = xs.length) (hn : q < n) (hn2 : n ≤ 100000)
    (kk : J B fk v Q (RepN E B (pl.set k (.inr (.inl (n, false, xs ++ [x]))))) nc ns (pc + 1) lv st) : J B fk v Q (RepN E B pl) nc ns pc lv (.int x :: .int i :: .ref (B + k) :: st) := by
  intro H locs ls hR hS hL
  have hE := V.2.2.2.2.2.2.1
  subst hi
  have hcl : (nI q).toNatClampNeg = q := nI_clamp (by omega)
  have ha : H[B + k]? = some (vp_cell (E.2.1 0) (n, .inl (fun j => xs.getD j 0))) := hR.1 k _ hk
  refine W.iast V.1 V.2.1 ha ((hE.2.2.1.2 0 (E.2.1 0, .int) rfl).1 n (fun j => .int (xs.getD j 0))) (fun q => by cases q) (by show ¬ (nI q < 0 ∨ (arrV _ _ _).slots.size ≤ _); rw [arrV_size]; exact vp_in_nI hn (by omega)) rfl rfl hd fun H1 e z oq => ?_
  refine kk H1 _ ls (hR.set z oq ?_) (hS.put z oq (Nat.le_add_right _ _)) hL
  show H1[B + k]? = some (vp_cell _ _)
  rw [e, hcl]
  rw [vp_cell_i, vp_cell_i, arrV_store]
  congr 2
  funext y
  rw [getD_app]
  by_cases hy : y = q
  · subst hy
    simp [updV, hq]
  · simp [updV, hy, ← hq]
theorem j_astN {pl : List LN} {k t q r ci : Nat} {i : Int32} {rs : List (Option Nat)} {vs : List FV} {rc : vw_C} (V : Bd E B code fk v.1 v.2.2.2.1 v.2.2.2.2.1 v.2.2.2.2.2.2.2.1 v.2.2.2.2.2.2.2.2) (hd : decode code pc = .ok (.aastore, 1)) (hk : pl[k]? = some (.inr (.inr (t, rs)))) (ht : (tysE E)[t]? = some (E.2.1 t, .object rc.1)) (hr : pl[r]? = some (.inl (ci, vs))) (hc : vwCl[ci]? = some rc) (hi : i = nI q) (hn : q < rs.length) (hn2 : rs.length ≤ 100000)
    (kk : J B fk v Q (RepN E B (pl.set k (.inr (.inr (t, rs.set q (some r)))))) nc ns (pc + 1) lv st) : J B fk v Q (RepN E B pl) nc ns pc lv (.ref (B + r) :: .int i :: .ref (B + k) :: st) := by
  intro H locs ls hR hS hL
  have hE := V.2.2.2.2.2.2.1
  have hK := hE.2.2.1
  subst hi
  have hcl : (nI q).toNatClampNeg = q := nI_clamp (by omega)
  have ha : H[B + k]? = some (vp_cell (E.2.1 t) (rs.length, .inr (.inr (.inr (.inr (fun i => (rs.getD i none).map (fun r => B + r))))))) := hR.1 k _ hk
  have hin : vp_in (nI q) rs.length := vp_in_nI hn (by omega)
  have h0 : ¬ (nI q) < 0 := fun q => hin (Or.inl q)
  obtain ⟨r', hr', cellV, g1, g2, g3, -⟩ := hR.1 r _ hr
  have hcls := (hK.1 ci rc hc).2
  obtain ⟨kA, comp, k1, k2, k3, -⟩ := (hK.2 t _ ht).2
  have hcomp : comp = E.1.1 ci := Option.some.inj (k3.symm.trans hcls.1)
  subst hcomp
  obtain ⟨kC, hkC, -⟩ := hcls.2
  refine W.aast V.1 V.2.1 ha (fun q h => by cases h) (fun h => by cases h) k1 k2 rfl hkC ⟨h0, by show _ < (arrV _ _ _).slots.size; rw [arrV_size, hcl]; exact hn⟩ g1 (fun q h => by rw [g3] at h; cases h) (by rw [g2]; exact hkC) (by rw [g2]; exact va_assign hcls) rfl rfl hd fun H1 e z oq => ?_
  refine kk H1 _ ls (hR.set z oq ?_) (hS.put z oq (Nat.le_add_right _ _)) hL
  show H1[B + k]? = some (vp_cell _ _)
  rw [e, hcl]
  rw [vp_cell_q, vp_cell_q, arrV_store, List.length_set]
  congr 2
  funext y
  by_cases hy : y = q
  · subst hy
    simp [updV, va_rf, List.getD_eq_getElem?_getD, hn]
  · simp [updV, hy, List.getD_eq_getElem?_getD, List.getElem?_set, Ne.symm hy]
/-! the constructor of Object; the constructors' contracts -/
set_option maxRecDepth 30000 in
theorem ow_objinit : Cond.instanceMethod Lib.objectInit ∈ tbG ∧ Cond.code Lib.objectInit ⟨#[0xb1]⟩ 1 none ∈ tbG := ⟨tg_in 91 rfl rfl, tg_in 92 (by decide +kernel) rfl⟩
theorem j_objInit {idx a : Nat} (V : Bd E B code fk v.1 v.2.2.2.1 v.2.2.2.2.1 v.2.2.2.2.2.2.2.1 v.2.2.2.2.2.2.2.2) (hd : decode code pc = .ok (.invokespecial idx, 3)) (hl : Cond.methodLink fk.1 idx Lib.objectInit ∈ tbG) (hr : 1 ≤ fk.2.2.2.1.frames ∧ (st.map fun v => v.category).sum + 12 ≤ fk.2.2.2.1.locals) (kk : J B fk v Q S nc ns (pc + 3) lv st) : J B fk v Q S nc ns pc lv (.ref a :: st) := by
  intro H locs ls hR hS hL
  have hE := V.2.2.2.2.2.2.1
  exact W.objInit V.1 V.2.1 V.2.2.2.2.2.1 (hE.1 _ hl _) (hE.1 _ ow_objinit.1 _) (hE.1 _ ow_objinit.2 _) rfl (hL.1.trans V.2.2.1.symm) rfl hd hr.1 (by have := hr.2; simp [F0]; omega) (kk H locs ls hR hS hL)
def PcN (E : EE) (B : Nat) (As : List Value) (pl : List LN) : Array Value → State → Prop := fun a U => a = As.toArray ∧ EV E B U ∧ XW U ∧ RepN E B pl U.heap
def QcN (E : EE) (B : Nat) (pl : List LN) : Array Value → State → Outcome → State → Prop := fun _ st o t => (o = .returned none ∧ RepN E B pl t.heap) ∧ va_F (AA B) st t
def rmN (d mc ms : Nat) : Room := { frames := d, cells := mc, slots := ms, locals := 40 * d }
/-- a constructor's contract: from the world pl to the world pl', by mc cells and ms slots -/
def CN (E : EE) (B : Nat) (y : MethodName) (code : ByteArray) (nL d : Nat) (As : List Value) (pl pl' : List LN) (mc ms : Nat) : Prop :=
  ∀ l : Launch, Met l y (Cond.code y code nL none :: tbG) (rmN d mc ms) (PcN E B As pl) (QcN E B pl') mc ms (AA B)
theorem CN.of {y : MethodName} {own : String} {nL d mc ms : Nat} {As : List Value} {pl pl' : List LN} (hy : plainName y.cls = true) (hown : y.cls = own) (hyn : y.name = "<init>") (hn : (lg_sl As).length ≤ nL)
    (h : ∀ v : EN, Bd E B code (own, nL, none, rmN d mc ms, 0, 0, fun _ _ _ _ => True) v.1 v.2.2.2.1 v.2.2.2.2.1 v.2.2.2.2.2.2.2.1 v.2.2.2.2.2.2.2.2 → XW v.2.2.2.1 → v.2.2.2.2.2.2.2.1.name = "<init>" → J B (own, nL, none, rmN d mc ms, 0, 0, fun _ _ _ _ => True) v (MQ v.2.2.2.2.2.2.1 (QcN E B pl') v.2.2.2.2.2.1 v.2.2.2.1 mc ms (AA B)) (RepN E B pl) 0 0 0 (lv_args 0 As) []) : CN E B y code nL d As pl pl' mc ms := by
  intro l
  refine Met.ofW (cc := code) (maxL := nL) (ret := none) hy rfl ?_
  intro p e s m args below meth c s₁ hB hml hv
  obtain ⟨rfl, hE, hX, hR⟩ := hv
  have hl := lv_entry As (n := nL) hn
  rw [lg_entry_eq]
  exact h (p, l, e, s, m, As.toArray, below, meth, c) ⟨hB.exec, hB.bytes, hml, hB.returns, hB.notSynchronized, by rw [← hown]; exact findClass_of_methodNamed hB.named, hE, Nat.zero_le _, Nat.zero_le _⟩ hX ((name_of_methodNamed hB.named hB.method).1.trans hyn) s.heap [] _ hR va_S.rf (LV.of hl)
theorem j_vret {pl : List LN} {own : String} {nL : Nat} {R : Room} {K : List Frame → Array Value → State → State → Prop} (V : Bd E B code (own, nL, none, R, 0, 0, K) v.1 v.2.2.2.1 v.2.2.2.2.1 v.2.2.2.2.2.2.2.1 v.2.2.2.2.2.2.2.2) (hd : decode code pc = .ok (.return_, 1)) : J B (own, nL, none, R, 0, 0, K) v (MQ v.2.2.2.2.2.2.1 (QcN E B pl) v.2.2.2.2.2.1 v.2.2.2.1 nc ns (AA B)) (RepN E B pl) nc ns pc lv [] := by
  intro H locs ls hR hS hL
  have hlocks := V.2.2.2.2.1
  exact W.vret V.1 V.2.1 V.2.2.2.1 (fun t ht hW => ⟨⟨rfl, by rw [ht]; exact hR⟩, hS.F ht⟩) hS.2.2 hd
theorem va_backN {p : Program} {l : Launch} {e : Env} {R : Room} {s : State} {m : MethodId} {args : Array Value} {below : List Frame} {meth : Method} {c : Code} {H : Heap} {locs : List Loc} {cells slots mc ms : Nat} {Q : State → Prop} {ls : Array Slot} {st0 rest : List Value} {a : Array Value} {pl : List LN}
    (hr : va_Run p l e R s m args below meth c H locs cells slots mc ms (F0 m pc ls st0) rest (QcN E B pl a) (AA B)) (hS : va_S (AA B) s.heap H locs)
    (kk : ∀ (H1 : Heap) (locs1 : List Loc), RepN E B pl H1 → va_S (AA B) s.heap H1 locs1 → W p l e R s m args below meth c H1 locs1 (cells + mc) (slots + ms) Q (F0 m (pc + 3) ls rest)) : W p l e R s m args below meth c H locs cells slots Q (F0 m pc ls st0) := by
  intro T hT X
  obtain ⟨v, st₀, t, T', L, h0, X', hL, e1, e2, ⟨⟨hv, hR'⟩, hz, hk⟩, stp⟩ := hr T hT X
  cases hv
  rw [h0] at hz hk
  obtain ⟨t2, a1, b1⟩ := kk T'.heap (locs ++ L) (by rw [e1]; exact hR')
    ⟨Nat.le_trans hS.1 (by rw [e1]; exact hz), fun q h1 h2 => by rw [e1, hk q (Nat.lt_of_lt_of_le h1 hS.1) h2]; exact hS.2.1 q h1 h2, fun q hq => by
      rcases List.mem_append.mp hq with h | h
      · exact hS.2.2 q h
      · exact hL q h⟩ T' rfl X'
  exact ⟨t2, stp t2 a1, b1⟩
theorem PcN_blind {As : List Value} {pl : List LN} : FrameBlind (PcN E B As pl) := fun a U g mk h => ⟨h.1, EV.same (u := U) (U := U.calling g mk a) rfl rfl h.2.1, ⟨h.2.2.1.1, h.2.2.1.2.1, h.2.2.1.2.2.1, h.2.2.1.2.2.2⟩, h.2.2.2⟩
/-- a constructor's words, its number of parameters -/
def MN (y : MethodName) (code : ByteArray) (nL n : Nat) : Prop := Cond.code y code nL none ∈ tbG ∧ Cond.instanceMethod y ∈ tbG ∧ Cond.initialized y.cls ∈ tbG ∧ (y.cls ≠ "java/lang/invoke/MethodHandle" ∧ y.cls ≠ "java/lang/invoke/VarHandle") ∧ (parseMethodDescriptor y.desc).map (fun d => d.parameters.length) = some n ∧ y.name = "<init>"
theorem j_init {idx k d nL n mc ms : Nat} {y : MethodName} {code2 : ByteArray} {As st0 : List Value} {pl pl' : List LN} (V : Bd E B code fk v.1 v.2.2.2.1 v.2.2.2.2.1 v.2.2.2.2.2.2.2.1 v.2.2.2.2.2.2.2.2) (hX : XW v.2.2.2.1)
    (hd : decode code pc = .ok (.invokespecial idx, 3)) (hm : MN y code2 nL n) (hl : Cond.methodLink fk.1 idx y ∈ tbG) (hC : CN E B y code2 nL d (.ref (B + k) :: As) pl pl' mc ms) (hn : As.length = n) (hst : st0 = As.reverse ++ .ref (B + k) :: st) (hw : (st.map fun v => v.category).sum ≤ 8)
    (hr : d + 1 ≤ fk.2.2.2.1.frames ∧ 8 + (nL + 11) + 40 * d ≤ fk.2.2.2.1.locals) (hf : nc + mc ≤ fk.2.2.2.1.cells ∧ ns + ms ≤ fk.2.2.2.1.slots) (kk : J B fk v Q (RepN E B pl') (nc + mc) (ns + ms) (pc + 3) lv st) : J B fk v Q (RepN E B pl) nc ns pc lv st0 := by
  intro H locs ls hR hS hL
  have hE := V.2.2.2.2.2.2.1
  obtain ⟨m1, m2, m3, m5, m6, m7⟩ := hm
  subst hst
  refine va_backN (va_runI (own := fk.1) (cc := code) (nL := fk.2.1) (Ts := tbG) (b := B + k) (As := As) (rest := st) (n := n) ⟨V.1, V.2.1, V.2.2.1, V.2.2.2.2.2.1, fun w hw => hE.1 w hw v.2.2.2.2.2.1⟩ (hC v.2.1) ⟨⟨rfl, rfl, hr.1, hr.2, ws_warm hE m1, List.mem_cons_self, hE.1 _ m1 v.2.2.2.2.2.1, hE.1 _ m3 v.2.2.2.2.2.1, m5, fun sig h => ?_, hE.1 _ hl v.2.2.2.2.2.1⟩, m7, hE.1 _ m2 v.2.2.2.2.2.1⟩ ⟨PcN_blind, fun U hU hW => ⟨rfl, EV.warm hW hU hS hE, hX.warm hW, by rw [hU]; exact hR⟩⟩ rfl hn hL.1 rfl (by simpa using hw) hd hf) hS (fun H1 locs1 hR1 hS1 => kk H1 locs1 ls hR1 hS1 hL)
  rw [h] at m6
  exact (Option.some.inj m6).symm
theorem j_initN {idx k d nL n mc ms : Nat} {host : String} {y : MethodName} {code2 : ByteArray} {As st0 : List Value} {pl pl' : List LN} (V : Bd E B code fk v.1 v.2.2.2.1 v.2.2.2.2.1 v.2.2.2.2.2.2.2.1 v.2.2.2.2.2.2.2.2) (hX : XW v.2.2.2.1)
    (hd : decode code pc = .ok (.invokespecial idx, 3)) (hm : MN y code2 nL n) (hl : Cond.methodLinkNest fk.1 idx y host ∈ tbN) (hC : CN E B y code2 nL d (.ref (B + k) :: As) pl pl' mc ms) (hn : As.length = n) (hst : st0 = As.reverse ++ .ref (B + k) :: st) (hw : (st.map fun v => v.category).sum ≤ 8)
    (hr : d + 1 ≤ fk.2.2.2.1.frames ∧ 8 + (nL + 11) + 40 * d ≤ fk.2.2.2.1.locals) (hf : nc + mc ≤ fk.2.2.2.1.cells ∧ ns + ms ≤ fk.2.2.2.1.slots) (kk : J B fk v Q (RepN E B pl') (nc + mc) (ns + ms) (pc + 3) lv st) : J B fk v Q (RepN E B pl) nc ns pc lv st0 := by
  intro H locs ls hR hS hL
  have hE := V.2.2.2.2.2.2.1
  obtain ⟨m1, m2, m3, m5, m6, m7⟩ := hm
  subst hst
  refine va_backN (va_runIN (own := fk.1) (cc := code) (nL := fk.2.1) (Ts := tbG) (b := B + k) (As := As) (rest := st) (n := n) (host := host) ⟨V.1, V.2.1, V.2.2.1, V.2.2.2.2.2.1, fun w hw => hE.1 w hw v.2.2.2.2.2.1⟩ (hC v.2.1) ⟨⟨⟨rfl, rfl, hr.1, hr.2, ws_warm hE m1, List.mem_cons_self⟩, hE.1 _ m1 v.2.2.2.2.2.1, hE.1 _ m3 v.2.2.2.2.2.1, m5, fun sig h => ?_, va_Nw.use (tbN_tab _ hl) (hE.2.1 _ hl)⟩, m7, hE.1 _ m2 v.2.2.2.2.2.1⟩ ⟨PcN_blind, fun U hU hW => ⟨rfl, EV.warm hW hU hS hE, hX.warm hW, by rw [hU]; exact hR⟩⟩ rfl hn hL.1 rfl (by simpa using hw) hd hf) hS (fun H1 locs1 hR1 hS1 => kk H1 locs1 ls hR1 hS1 hL)
  rw [h] at m6
  exact (Option.some.inj m6).symm
end JJ

