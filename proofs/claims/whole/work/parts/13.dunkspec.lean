/-! a dip, second by second: cells left, how wet, how deep, gone, tea taken, the second of the first break (0: none) -/
abbrev Dk : Type := Nat × (Nat → Nat) × Nat × Nat × Nat × Nat
def secW (kd a n dp h : Nat) (w : Nat → Nat) (i : Nat) : Nat := if i < dp then min 99 (w i + soakN kd a n i h) else if i < n then w i + creepN kd w i else w i
def tookF (kd a n dp h : Nat) (w : Nat → Nat) (i : Nat) : Nat := if i < dp then secW kd a n dp h w i - w i else 0
def sec (kd a h t : Nat) (D : Dk) : Dk :=
  let w1 := secW kd a D.1 D.2.2.1 h D.2.1
  let r := brkN kd a D.1 w1
  let tk := D.2.2.2.2.1 + sumN (tookF kd a D.1 D.2.2.1 h D.2.1) D.1
  if r = 0 then (D.1, w1, D.2.2.1, D.2.2.2.1, tk, D.2.2.2.2.2) else (D.1 - r, (fun i => w1 (i + r)), D.2.2.1 - r, D.2.2.2.1 + r, tk, if D.2.2.2.2.2 = 0 then t else D.2.2.2.2.2)
def entD (d : Nat) (D : Dk) : Dk := (D.1, D.2.1, min d D.1, D.2.2.2.1, D.2.2.2.2.1, D.2.2.2.2.2)
def runD (kd a h t : Nat) (D : Dk) : Nat → Dk
  | 0 => D
  | s + 1 => sec kd a h (t + s + 1) (runD kd a h t D s)
def newD (n : Nat) (w : Nat → Nat) : Dk := (n, w, 0, 0, 0, 0)
def okD (kd a t : Nat) (D : Dk) : Prop := okB (kd, a, D.1, D.2.1) ∧ D.2.2.1 ≤ D.1 ∧ D.2.2.2.1 + D.1 ≤ 12 ∧ D.2.2.2.2.1 ≤ 1188 * t ∧ D.2.2.2.2.2 ≤ t ∧ (D.2.2.2.1 = 0 ↔ D.2.2.2.2.2 = 0)
theorem creepN_le {kd : Nat} {w : Nat → Nat} (hw : ∀ i, w i ≤ 99) (c : Nat) : w c + creepN kd w c ≤ 99 := by
  have h1 := hw c
  have h2 := hw (c - 1)
  unfold creepN
  repeat' split
  all_goals omega
theorem secW_le {kd a n dp h : Nat} {w : Nat → Nat} (hw : ∀ i, w i ≤ 99) (i : Nat) : secW kd a n dp h w i ≤ 99 := by
  have h1 := hw i
  have h2 := creepN_le (kd := kd) hw i
  unfold secW
  repeat' split
  all_goals omega
theorem secW_ge {kd a n dp h : Nat} {w : Nat → Nat} (hw : ∀ i, w i ≤ 99) (i : Nat) : w i ≤ secW kd a n dp h w i := by
  have h1 := hw i
  unfold secW
  repeat' split
  all_goals omega
theorem brkF_ok {e : Nat} {w : Nat → Nat} {n : Nat} : ∀ (f c : Nat), brkF e w n f c ≠ 0 → c ≤ brkF e w n f c ∧ brkF e w n f c < n
  | 0, c, h => absurd rfl h
  | f + 1, c, h => by
    have h2 : brkF e w n (f + 1) c = if c < n then (if 60 + e < hangN w c + w c then c else brkF e w n f (c + 1)) else 0 := rfl
    rw [h2] at h ⊢
    by_cases h3 : c < n
    · rw [if_pos h3] at h ⊢
      by_cases h4 : 60 + e < hangN w c + w c
      · rw [if_pos h4]; exact ⟨Nat.le_refl _, h3⟩
      · rw [if_neg h4] at h ⊢
        have := brkF_ok f (c + 1) h
        omega
    · rw [if_neg h3] at h; exact absurd rfl h
theorem brkN_ok {kd a n : Nat} {w : Nat → Nat} (h : brkN kd a n w ≠ 0) : 1 ≤ brkN kd a n w ∧ brkN kd a n w < n := brkF_ok _ _ h
theorem sumN_mono {f : Nat → Nat} {m : Nat} : ∀ {n : Nat}, m ≤ n → sumN f m ≤ sumN f n
  | 0, h => by rw [Nat.le_zero.mp h]; exact Nat.le_refl _
  | n + 1, h => by
    rcases Nat.lt_or_ge n m with h1 | h1
    · rw [show m = n + 1 by omega]; exact Nat.le_refl _
    · exact Nat.le_trans (sumN_mono h1) (Nat.le_add_right _ _)
theorem tookF_le {kd a n dp h : Nat} {w : Nat → Nat} (hw : ∀ i, w i ≤ 99) (i : Nat) : tookF kd a n dp h w i ≤ 99 := by
  have := secW_le (kd := kd) (a := a) (n := n) (dp := dp) (h := h) hw i
  unfold tookF
  split <;> omega
theorem sec_ok {kd a h t : Nat} {D : Dk} (ho : okD kd a t D) : okD kd a (t + 1) (sec kd a h (t + 1) D) := by
  obtain ⟨⟨o1, o2, o3, o4⟩, p1, p2, p3, p4, p5⟩ := ho
  have o1 : kd ≤ 6 := o1
  have o2 : a ≤ 9 := o2
  have o3 : D.1 ≤ 12 := o3
  have o4 : ∀ i, D.2.1 i ≤ 99 := o4
  have q1 := sumN_le (fun i => tookF_le (kd := kd) (a := a) (n := D.1) (dp := D.2.2.1) (h := h) o4 i) D.1
  have q2 : ∀ i, secW kd a D.1 D.2.2.1 h D.2.1 i ≤ 99 := secW_le o4
  unfold sec
  dsimp only
  by_cases hr : brkN kd a D.1 (secW kd a D.1 D.2.2.1 h D.2.1) = 0
  · rw [if_pos hr]
    refine ⟨⟨o1, o2, o3, q2⟩, p1, p2, ?_, ?_, p5⟩
    · show D.2.2.2.2.1 + _ ≤ _
      omega
    · show D.2.2.2.2.2 ≤ _
      omega
  · obtain ⟨r1, r2⟩ := brkN_ok hr
    rw [if_neg hr]
    refine ⟨⟨o1, o2, ?_, fun i => q2 _⟩, ?_, ?_, ?_, ?_, ?_⟩
    · show D.1 - _ ≤ 12
      omega
    · show D.2.2.1 - _ ≤ D.1 - _
      omega
    · show D.2.2.2.1 + _ + (D.1 - _) ≤ 12
      omega
    · show D.2.2.2.2.1 + _ ≤ _
      omega
    · show (if D.2.2.2.2.2 = 0 then t + 1 else D.2.2.2.2.2) ≤ t + 1
      split <;> omega
    · show D.2.2.2.1 + _ = 0 ↔ (if D.2.2.2.2.2 = 0 then t + 1 else D.2.2.2.2.2) = 0
      constructor
      · intro h; omega
      · intro h
        by_cases z : D.2.2.2.2.2 = 0
        · rw [if_pos z] at h; omega
        · rw [if_neg z] at h; exact absurd h z
theorem run_ok {kd a h t : Nat} {D : Dk} (ho : okD kd a t D) : ∀ s, okD kd a (t + s) (runD kd a h t D s)
  | 0 => ho
  | s + 1 => sec_ok (run_ok ho s)
theorem ent_ok {kd a t d : Nat} {D : Dk} (ho : okD kd a t D) : okD kd a t (entD d D) := by
  obtain ⟨o1, p1, p2⟩ := ho
  exact ⟨o1, Nat.min_le_right _ _, p2⟩
theorem new_ok {kd a n : Nat} {w : Nat → Nat} (ho : okB (kd, a, n, w)) : okD kd a 0 (newD n w) := ⟨ho, Nat.zero_le _, by show 0 + n ≤ 12; have : n ≤ 12 := ho.2.2.1; omega, Nat.le_refl _, Nat.le_refl _, Iff.rfl⟩
/-- a second that changes nothing: none does -/
theorem sec_fix {kd a h t : Nat} {D : Dk} (hf : sec kd a h t D = D) (t' : Nat) : sec kd a h t' D = D := by
  by_cases hr : brkN kd a D.1 (secW kd a D.1 D.2.2.1 h D.2.1) = 0
  · unfold sec at hf ⊢
    dsimp only at hf ⊢
    rw [if_pos hr] at hf ⊢
    exact hf
  · have h1 : (sec kd a h t D).2.2.2.1 = D.2.2.2.1 := by rw [hf]
    unfold sec at h1
    dsimp only at h1
    rw [if_neg hr] at h1
    dsimp only at h1
    omega
theorem run_fix {kd a h t i : Nat} {D : Dk} (hf : ∀ t', sec kd a h t' (runD kd a h t D i) = runD kd a h t D i) : ∀ j, runD kd a h t D (i + j) = runD kd a h t D i
  | 0 => rfl
  | j + 1 => by
    show sec kd a h _ (runD kd a h t D (i + j)) = _
    rw [run_fix hf j]
    exact hf _
theorem sec_same {kd a h t : Nat} {D : Dk} (h1 : ∀ i, i < D.1 → secW kd a D.1 D.2.2.1 h D.2.1 i = D.2.1 i) (hd : D.2.2.1 ≤ D.1) (hr : brkN kd a D.1 (secW kd a D.1 D.2.2.1 h D.2.1) = 0) : sec kd a h t D = D := by
  have e : secW kd a D.1 D.2.2.1 h D.2.1 = D.2.1 := by
    funext i
    by_cases hi : i < D.1
    · exact h1 i hi
    · unfold secW
      rw [if_neg (by omega), if_neg hi]
  have e2 : sumN (tookF kd a D.1 D.2.2.1 h D.2.1) D.1 = 0 := by
    have : ∀ n, sumN (tookF kd a D.1 D.2.2.1 h D.2.1) n = 0 := by
      intro n
      induction n with
      | zero => rfl
      | succ n ih =>
        show sumN _ n + tookF kd a D.1 D.2.2.1 h D.2.1 n = 0
        rw [ih]
        unfold tookF
        rw [e, Nat.sub_self]
        split <;> rfl
    exact this _
  unfold sec
  dsimp only
  rw [if_pos hr, e2, e]
  rfl
/-- a Dunk in memory: at k; its biscuit at k + 1, how wet that is at k + 2 -/
def RD (B : Nat) (M : MM) (k kd a h t : Nat) (D : Dk) : Prop :=
  RB M (B + (k + 1)) (B + (k + 1 + 1)) (kd, a, D.1, D.2.1) ∧ M.1 (B + k) 1 = nI h ∧ M.1 (B + k) 2 = nI D.2.2.1 ∧ M.1 (B + k) 3 = nI t ∧ M.1 (B + k) 4 = brkI D.2.2.2.2.2 ∧ M.1 (B + k) 5 = nI D.2.2.2.1 ∧ M.1 (B + k) 6 = nI D.2.2.2.2.1
theorem RD.sm {B : Nat} {M M' : MM} {lo hi k kd a h t : Nat} {D : Dk} (hR : RD B M k kd a h t D) (hS : Sm B M M' lo hi) (h1 : k + 3 ≤ lo ∨ hi ≤ k) : RD B M' k kd a h t D := by
  obtain ⟨h2, h3⟩ := hR
  refine ⟨h2.sm hS (by omega) (by omega), ?_⟩
  rw [hS.i (by omega)]
  exact h3
theorem min_nI {a b : Nat} (ha : a < 2 ^ 31) (hb : b < 2 ^ 31) : (if nI b < nI a then nI b else nI a) = nI (min a b) := by
  by_cases h : b < a
  · rw [if_pos ((nI_ltI hb ha).mpr h), Nat.min_eq_right (by omega)]
  · rw [if_neg (fun q => h ((nI_ltI hb ha).mp q)), Nat.min_eq_left (by omega)]
theorem max0_sub {a b : Nat} (ha : a < 2 ^ 30) (hb : b < 2 ^ 30) : (if nI 0 < nI a - nI b then nI a - nI b else nI 0) = nI (a - b) := by
  by_cases h : b < a
  · rw [if_pos (show nI 0 < _ from (sub_pos ha hb).mpr h), pk_sub (by omega)]
  · rw [if_neg (fun q : nI 0 < _ => h ((sub_pos ha hb).mp q)), show a - b = 0 by omega]
theorem nI_nm1 {r : Nat} (h : r < 2 ^ 31) : ¬ nI r = -1 := by
  intro q
  have := congrArg Int32.toInt q
  rw [nI_toInt h] at this
  have e : (-1 : Int32).toInt = -1 := by decide
  rw [e] at this
  omega
/-- what is left of a count that runs down to -1 -/
def pI (m : Nat) : Int32 := if m = 0 then -1 else nI (m - 1)
theorem pI_s (c : Nat) : pI (c + 1) = nI c := rfl
