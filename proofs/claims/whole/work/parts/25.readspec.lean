/-! a table's text: letters, words, numbers, items -/
abbrev Tx : Type := Nat × (Nat → Int32)
def ltr (T : Tx) (p : Nat) : Int32 := if p < T.1 then T.2 p else -1
/-- how many letters of word w stand at p (from k on) -/
def prefN (T : Tx) (p w : Nat) : Nat → Nat → Nat
  | 0, k => k
  | f + 1, k => if k < sL w ∧ ltr T (p + k) = sC w k then prefN T p w f (k + 1) else k
/-- the word at p; 7: none, and how far one goes -/
def wordF (T : Tx) (p : Nat) : Nat → Nat → Nat → Nat × Nat
  | 0, _, far => (7, far)
  | n + 1, w, far => if prefN T p w 8 0 = sL w then (w, 0) else wordF T p n (w + 1) (max far (prefN T p w 8 0))
def nOf (w : Nat) : Nat := if w = 5 then 2 else if w = 2 ∨ w = 3 ∨ w = 4 then 1 else 3
def digN (T : Tx) (p : Nat) : Nat := (ltr T p).toNatClampNeg - 48
def numF (T : Tx) : Nat → Nat → Nat → Nat × Nat
  | 0, p, v => (v, p)
  | n + 1, p, v => if nI 48 ≤ ltr T p ∧ ltr T p ≤ nI 57 then numF T n (p + 1) (v * 10 + digN T p) else (v, p)
def okNum (s : St) (w i v n0 : Nat) : Prop :=
  (w = 0 ∧ ((i = 0 ∧ v ≤ 6) ∨ (i = 1 ∧ 1 ≤ v ∧ v ≤ 12) ∨ (i = 2 ∧ v ≤ 9))) ∨
  (w = 1 ∧ ((i = 0 ∧ v < sCn s) ∨ (i = 1 ∧ v < (sBs s n0).2.2.1) ∨ (i = 2 ∧ v ≤ 99))) ∨
  (w = 2 ∧ v ≤ 99) ∨ (w = 3 ∧ 1 ≤ v ∧ v ≤ 99) ∨ (w = 4 ∧ v ≤ 9999) ∨
  (w = 5 ∧ ((i = 0 ∧ v ≤ 9) ∨ (i ≠ 0 ∧ v ≤ 99))) ∨
  (w = 6 ∧ ((i = 0 ∧ v < sCn s ∧ 0 < (sBs s v).2.2.1) ∨ (i = 1 ∧ v ≤ 12) ∨ (i = 2 ∧ v ≤ 60)))
def okNumD (s : St) (w i v n0 : Nat) : Decidable (okNum s w i v n0) := by unfold okNum; exact inferInstance
/-- the numbers behind a word: whether they may be, the place behind or of the fault, the numbers -/
def numsF (T : Tx) (s : St) (w : Nat) : Nat → Nat → Nat → (Nat → Nat) → Bool × Nat × (Nat → Nat)
  | 0, _, p, ns => (true, p, ns)
  | n + 1, i, p, ns =>
    if ltr T p = nI 32 then
      (let r := numF T 4 (p + 1) 0
       if r.2 ≠ p + 1 ∧ @decide _ (okNumD s w i r.1 (ns 0)) = true then numsF T s w n (i + 1) r.2 (upF ns i r.1) else (false, p + 1, ns))
    else (false, p, ns)
def tellS (s : St) (w : Nat) (ns : Nat → Nat) : St :=
  if w = 0 then addS s (ns 0) (ns 1) (ns 2)
  else if w = 1 then (setB s (ns 0) (sBs s (ns 0)).2.2.1 (upF (sBs s (ns 0)).2.2.2 (ns 1) (ns 2)), s.2)
  else if w = 2 then (sBs s, sWo s, sCn s, ns 0, sLo s, sTe s, sSl s, sPl s, sSe s, sSd s)
  else if w = 3 then (sBs s, sWo s, sCn s, sHt s, ns 0, sTe s, sSl s, sPl s, sSe s, sSd s)
  else if w = 4 then (sBs s, sWo s, sCn s, sHt s, sLo s, ns 0, sSl s, sPl s, sSe s, sSd s)
  else if w = 5 then (sBs s, upF (sWo s) (ns 0) (ns 1), s.2.2)
  else dipS s (ns 0) (ns 1) (ns 2)
/-- one item at p: whether it stands, the place behind or of the fault, what is then -/
def itemF (T : Tx) (s : St) (p : Nat) : Bool × Nat × St :=
  let r := wordF T p 7 0 0
  if r.1 = 7 then (false, p + r.2, s) else if r.1 = 0 ∧ ¬ sCn s < 6 then (false, p, s) else
    let m := numsF T s r.1 (nOf r.1) 0 (p + sL r.1) (fun _ => 0)
    if m.1 = true then (true, m.2.1, tellS s r.1 m.2.2) else (false, m.2.1, s)
/-- all items: whether all stand, the place of the fault, how many, what is then -/
def readF (T : Tx) : Nat → Nat → Nat → St → Bool × Nat × Nat × St
  | 0, it, _, s => (true, 0, it, s)
  | n + 1, it, p, s =>
    let r := itemF T s p
    if r.1 = true then (if r.2.1 < T.1 then (if ltr T r.2.1 = nI 59 then readF T n (it + 1) (r.2.1 + 1) r.2.2 else (false, r.2.1, it + 1, r.2.2)) else (true, 0, it + 1, r.2.2)) else (false, r.2.1, it, s)
theorem okNum_0 {s : St} {w v n0 n1 : Nat} (h : okNum s w 0 v n0) : okNum s w 0 v n1 := by
  rcases h with h | ⟨a, h⟩ | h | h | h | h | h
  · exact Or.inl h
  · rcases h with h | ⟨h, _⟩ | ⟨h, _⟩
    · exact Or.inr (Or.inl ⟨a, Or.inl h⟩)
    · omega
    · omega
  · exact Or.inr (Or.inr (Or.inl h))
  · exact Or.inr (Or.inr (Or.inr (Or.inl h)))
  · exact Or.inr (Or.inr (Or.inr (Or.inr (Or.inl h))))
  · exact Or.inr (Or.inr (Or.inr (Or.inr (Or.inr (Or.inl h)))))
  · exact Or.inr (Or.inr (Or.inr (Or.inr (Or.inr (Or.inr h)))))
theorem on_00 {s : St} {v n0 : Nat} : okNum s 0 0 v n0 ↔ (v ≤ 6) := by simp [okNum]
theorem on_01 {s : St} {v n0 : Nat} : okNum s 0 1 v n0 ↔ (1 ≤ v ∧ v ≤ 12) := by simp [okNum]
theorem on_02 {s : St} {v n0 : Nat} : okNum s 0 2 v n0 ↔ (v ≤ 9) := by simp [okNum]
theorem on_10 {s : St} {v n0 : Nat} : okNum s 1 0 v n0 ↔ (v < sCn s) := by simp [okNum]
theorem on_11 {s : St} {v n0 : Nat} : okNum s 1 1 v n0 ↔ (v < (sBs s n0).2.2.1) := by simp [okNum]
theorem on_12 {s : St} {v n0 : Nat} : okNum s 1 2 v n0 ↔ (v ≤ 99) := by simp [okNum]
theorem on_20 {s : St} {v n0 : Nat} : okNum s 2 0 v n0 ↔ (v ≤ 99) := by simp [okNum]
theorem on_30 {s : St} {v n0 : Nat} : okNum s 3 0 v n0 ↔ (1 ≤ v ∧ v ≤ 99) := by simp [okNum]
theorem on_40 {s : St} {v n0 : Nat} : okNum s 4 0 v n0 ↔ (v ≤ 9999) := by simp [okNum]
theorem on_50 {s : St} {v n0 : Nat} : okNum s 5 0 v n0 ↔ (v ≤ 9) := by simp [okNum]
theorem on_51 {s : St} {v n0 : Nat} : okNum s 5 1 v n0 ↔ (v ≤ 99) := by simp [okNum]
theorem on_60 {s : St} {v n0 : Nat} : okNum s 6 0 v n0 ↔ (v < sCn s ∧ 0 < (sBs s v).2.2.1) := by simp [okNum]
theorem on_61 {s : St} {v n0 : Nat} : okNum s 6 1 v n0 ↔ (v ≤ 12) := by simp [okNum]
theorem on_62 {s : St} {v n0 : Nat} : okNum s 6 2 v n0 ↔ (v ≤ 60) := by simp [okNum]
theorem prefN_le {T : Tx} {p w : Nat} : ∀ (f k : Nat), k ≤ sL w → k ≤ prefN T p w f k ∧ prefN T p w f k ≤ sL w
  | 0, k, h => ⟨Nat.le_refl _, h⟩
  | f + 1, k, h => by
    have e : prefN T p w (f + 1) k = if k < sL w ∧ ltr T (p + k) = sC w k then prefN T p w f (k + 1) else k := rfl
    rw [e]
    split
    · rename_i q
      have := prefN_le (T := T) (p := p) f (k + 1) q.1
      omega
    · omega
theorem wordF_le {T : Tx} {p : Nat} : ∀ (n w far : Nat), n + w = 7 → far ≤ 8 → (wordF T p n w far).1 ≤ 7 ∧ (wordF T p n w far).2 ≤ 8
  | 0, w, far, h1, h2 => ⟨Nat.le_refl _, h2⟩
  | n + 1, w, far, h1, h2 => by
    have e : wordF T p (n + 1) w far = if prefN T p w 8 0 = sL w then (w, 0) else wordF T p n (w + 1) (max far (prefN T p w 8 0)) := rfl
    have h3 := (prefN_le (T := T) (p := p) (w := w) 8 0 (Nat.zero_le _)).2
    have h4 := (s_all w (by omega)).1
    rw [e]
    split
    · exact ⟨by show w ≤ 7; omega, Nat.zero_le _⟩
    · exact wordF_le n (w + 1) _ (by omega) (by omega)
theorem numF_ok {T : Tx} : ∀ (n p v b : Nat), v < b → p ≤ (numF T n p v).2 ∧ (numF T n p v).2 ≤ p + n ∧ (numF T n p v).1 < b * 10 ^ n
  | 0, p, v, b, h => ⟨Nat.le_refl _, Nat.le_refl _, by show v < b * 1; omega⟩
  | n + 1, p, v, b, h => by
    have e : numF T (n + 1) p v = if nI 48 ≤ ltr T p ∧ ltr T p ≤ nI 57 then numF T n (p + 1) (v * 10 + digN T p) else (v, p) := rfl
    have hp : 0 < 10 ^ n := Nat.pow_pos (by decide)
    have e2 : b * 10 ^ (n + 1) = (b * 10) * 10 ^ n := by rw [Nat.pow_succ, Nat.mul_assoc, Nat.mul_comm (10 ^ n) 10]
    rw [e, e2]
    split
    · rename_i q
      have hd : digN T p ≤ 9 := by
        have h1 := Int32.le_iff_toInt_le.mp q.2
        have h2 : (nI 57).toInt = 57 := rfl
        rw [h2] at h1
        have h3 : (ltr T p).toNatClampNeg = (ltr T p).toInt.toNat := rfl
        unfold digN
        omega
      have := numF_ok (T := T) n (p + 1) (v * 10 + digN T p) (b * 10) (by omega)
      omega
    · refine ⟨Nat.le_refl _, by omega, ?_⟩
      show v < b * 10 * 10 ^ n
      have : b ≤ b * 10 * 10 ^ n := by
        calc b ≤ b * 10 := by omega
          _ = b * 10 * 1 := by omega
          _ ≤ b * 10 * 10 ^ n := Nat.mul_le_mul_left _ hp
      omega
theorem dig_nI {T : Tx} {p : Nat} (h : nI 48 ≤ ltr T p ∧ ltr T p ≤ nI 57) : ltr T p = nI (48 + digN T p) ∧ digN T p ≤ 9 := by
  have h1 := Int32.le_iff_toInt_le.mp h.1
  have h2 := Int32.le_iff_toInt_le.mp h.2
  have e1 : (nI 48).toInt = 48 := rfl
  have e2 : (nI 57).toInt = 57 := rfl
  rw [e1] at h1
  rw [e2] at h2
  have h3 : (ltr T p).toNatClampNeg = (ltr T p).toInt.toNat := rfl
  have h4 : digN T p ≤ 9 := by unfold digN; omega
  refine ⟨Int32.toInt_inj.mp ?_, h4⟩
  rw [nI_toInt (by omega)]
  unfold digN
  omega
/-- the numbers that were told may be -/
theorem numsF_ok {T : Tx} {s : St} {w : Nat} : ∀ (n i p : Nat) (ns : Nat → Nat), (∀ j, j < i → okNum s w j (ns j) (ns 0)) → (numsF T s w n i p ns).1 = true → (∀ j, j < i + n → okNum s w j ((numsF T s w n i p ns).2.2 j) ((numsF T s w n i p ns).2.2 0)) ∧ p + n ≤ (numsF T s w n i p ns).2.1 ∧ (numsF T s w n i p ns).2.1 ≤ p + 5 * n
  | 0, i, p, ns, h, _ => ⟨h, Nat.le_refl _, Nat.le_refl _⟩
  | n + 1, i, p, ns, h, ht => by
    have e : numsF T s w (n + 1) i p ns = if ltr T p = nI 32 then (if (numF T 4 (p + 1) 0).2 ≠ p + 1 ∧ @decide _ (okNumD s w i (numF T 4 (p + 1) 0).1 (ns 0)) = true then numsF T s w n (i + 1) (numF T 4 (p + 1) 0).2 (upF ns i (numF T 4 (p + 1) 0).1) else (false, p + 1, ns)) else (false, p, ns) := rfl
    rw [e] at ht ⊢
    by_cases h1 : ltr T p = nI 32
    · rw [if_pos h1] at ht ⊢
      by_cases h2 : (numF T 4 (p + 1) 0).2 ≠ p + 1 ∧ @decide _ (okNumD s w i (numF T 4 (p + 1) 0).1 (ns 0)) = true
      · rw [if_pos h2] at ht ⊢
        have h3 := numF_ok (T := T) 4 (p + 1) 0 1 (by decide)
        have h4 := @of_decide_eq_true _ (okNumD s w i (numF T 4 (p + 1) 0).1 (ns 0)) h2.2
        obtain ⟨a1, a2, a3⟩ := numsF_ok n (i + 1) (numF T 4 (p + 1) 0).2 (upF ns i (numF T 4 (p + 1) 0).1) (fun j hj => by
          by_cases e1 : j = i
          · subst e1
            rw [upF_s]
            by_cases e2 : j = 0
            · subst e2; exact okNum_0 h4
            · rw [upF_n (fun z => e2 z.symm)]; exact h4
          · rw [upF_n e1]
            by_cases e2 : i = 0
            · omega
            · rw [upF_n (fun z => e2 z.symm)]; exact h j (by omega)) ht
        refine ⟨fun j hj => a1 j (by omega), by omega, by omega⟩
      · rw [if_neg h2] at ht; cases ht
    · rw [if_neg h1] at ht; cases ht
theorem ok_tell {s : St} {w : Nat} {ns : Nat → Nat} (ho : okSt s) (hw : w < 7) (hr : ¬ (w = 0 ∧ ¬ sCn s < 6)) (h : ∀ j, j < nOf w → okNum s w j (ns j) (ns 0)) : okSt (tellS s w ns) := by
  have ho' := ho
  obtain ⟨o1, o2, o3, o4, o5, o6⟩ := ho
  match w, hw with
  | 0, _ =>
    exact ok_add ho' (on_00.mp (h 0 (by decide))) (on_01.mp (h 1 (by decide))).2 (on_02.mp (h 2 (by decide))) (by omega)
  | 1, _ =>
    have h0 := on_10.mp (h 0 (by decide))
    have h2 := on_12.mp (h 2 (by decide))
    have hb := o1 (ns 0) h0
    refine ⟨ok_setB ho' hb.2.2.1 (fun i => ?_), o2, o3, o4, o5, o6⟩
    unfold upF
    split
    · exact h2
    · exact hb.2.2.2 i
  | 2, _ =>
    have h0 := on_20.mp (h 0 (by decide))
    exact ⟨o1, o2, o3, (show ns 0 < 2 ^ 31 by omega), o5, o6⟩
  | 3, _ =>
    have h0 := on_30.mp (h 0 (by decide))
    exact ⟨o1, o2, o3, o4, (show 1 ≤ ns 0 ∧ ns 0 ≤ 99 from h0), o6⟩
  | 4, _ =>
    have h0 := on_40.mp (h 0 (by decide))
    exact ⟨o1, o2, o3, o4, o5, (show ns 0 ≤ 9999 from h0)⟩
  | 5, _ =>
    have h1 := on_51.mp (h 1 (by decide))
    refine ⟨o1, fun i => ?_, o3, o4, o5, o6⟩
    show upF (sWo s) (ns 0) (ns 1) i ≤ 99
    unfold upF
    split
    · exact h1
    · exact o2 i
  | 6, _ =>
    exact ok_dip ho' (on_60.mp (h 0 (by decide))).1
theorem item_ok {T : Tx} {s : St} {p : Nat} (ho : okSt s) : okSt (itemF T s p).2.2 ∧ ((itemF T s p).1 = true → p + 1 ≤ (itemF T s p).2.1 ∧ (itemF T s p).2.1 ≤ p + 23) := by
  have hw := wordF_le (T := T) (p := p) 7 0 0 rfl (by decide)
  unfold itemF
  dsimp only
  by_cases h1 : (wordF T p 7 0 0).1 = 7
  · rw [if_pos h1]; exact ⟨ho, fun z => by cases z⟩
  · rw [if_neg h1]
    by_cases h2 : (wordF T p 7 0 0).1 = 0 ∧ ¬ sCn s < 6
    · rw [if_pos h2]; exact ⟨ho, fun z => by cases z⟩
    · rw [if_neg h2]
      by_cases h3 : (numsF T s (wordF T p 7 0 0).1 (nOf (wordF T p 7 0 0).1) 0 (p + sL (wordF T p 7 0 0).1) (fun _ => 0)).1 = true
      · rw [if_pos h3]
        obtain ⟨a1, a2, a3⟩ := numsF_ok _ _ _ _ (fun j hj => absurd hj (Nat.not_lt_zero j)) h3
        rw [Nat.zero_add] at a1
        have h8 := (s_all (wordF T p 7 0 0).1 (by omega)).1
        have h9 : 1 ≤ nOf (wordF T p 7 0 0).1 ∧ nOf (wordF T p 7 0 0).1 ≤ 3 := by
          unfold nOf
          repeat' split
          all_goals omega
        refine ⟨ok_tell ho (by omega) h2 a1, fun _ => ?_⟩
        show p + 1 ≤ (numsF _ _ _ _ _ _ _).2.1 ∧ (numsF _ _ _ _ _ _ _).2.1 ≤ p + 23
        omega
      · rw [if_neg h3]; exact ⟨ho, fun z => by cases z⟩
theorem read_ok {T : Tx} : ∀ (n it p : Nat) (s : St), okSt s → okSt (readF T n it p s).2.2.2
  | 0, _, _, _, ho => ho
  | n + 1, it, p, s, ho => by
    have h1 := (item_ok (T := T) (p := p) ho).1
    have e : readF T (n + 1) it p s = if (itemF T s p).1 = true then (if (itemF T s p).2.1 < T.1 then (if ltr T (itemF T s p).2.1 = nI 59 then readF T n (it + 1) ((itemF T s p).2.1 + 1) (itemF T s p).2.2 else (false, (itemF T s p).2.1, it + 1, (itemF T s p).2.2)) else (true, 0, it + 1, (itemF T s p).2.2)) else (false, (itemF T s p).2.1, it, s) := rfl
    rw [e]
    split
    · split
      · split
        · exact read_ok n _ _ _ h1
        · exact h1
      · exact h1
    · exact ho
