/-! plates: the orders as lists -/
def lf (l : List Nat) : Nat → Nat := fun i => l.getD i 0
def tol (n : Nat) (f : Nat → Nat) : List Nat := (List.range n).map f
def agr (n : Nat) (f g : Nat → Nat) : Prop := ∀ i, i < n → f i = g i
theorem agr_tol {n : Nat} {f : Nat → Nat} : agr n f (lf (tol n f)) := by
  intro i hi
  unfold lf tol
  simp [List.getD, hi]
theorem agr_range {n : Nat} : agr n (fun i => i) (lf (List.range n)) := by
  intro i hi
  unfold lf
  simp [List.getD, hi]
theorem piv_agr {n : Nat} {f g : Nat → Nat} (h : agr n f g) : ∀ r, r < n → pivF f r = pivF g r
  | 0, _ => rfl
  | r + 1, hr => by
    have e1 : pivF f (r + 1) = if f r ≤ f (r + 1) then r + 1 else pivF f r := rfl
    have e2 : pivF g (r + 1) = if g r ≤ g (r + 1) then r + 1 else pivF g r := rfl
    rw [e1, e2, h r (by omega), h (r + 1) hr, piv_agr h r (by omega)]
theorem last_agr {n i : Nat} {f g : Nat → Nat} (h : agr n f g) (hi : i < n) : ∀ j, j < n → lastF f i j = lastF g i j
  | 0, _ => rfl
  | j + 1, hj => by
    have e1 : lastF f i (j + 1) = if i < j ∧ f (j + 1) < f i then lastF f i j else j + 1 := rfl
    have e2 : lastF g i (j + 1) = if i < j ∧ g (j + 1) < g i then lastF g i j else j + 1 := rfl
    rw [e1, e2, h i hi, h (j + 1) hj, last_agr h hi j (by omega)]
theorem swp_agr {n a b : Nat} {f g : Nat → Nat} (h : agr n f g) (ha : a < n) (hb : b < n) : agr n (swp f a b) (swp g a b) := by
  intro i hi
  unfold swp
  rw [h a ha, h b hb, h i hi]
theorem rev_agr {n : Nat} : ∀ (m lo hi : Nat) (f g : Nat → Nat), agr n f g → hi < n → agr n (revF m f lo hi) (revF m g lo hi)
  | 0, _, _, _, _, h, _ => h
  | m + 1, lo, hi, f, g, h, hh => by
    have e1 : revF (m + 1) f lo hi = if lo < hi then revF m (swp f lo hi) (lo + 1) (hi - 1) else f := rfl
    have e2 : revF (m + 1) g lo hi = if lo < hi then revF m (swp g lo hi) (lo + 1) (hi - 1) else g := rfl
    rw [e1, e2]
    split
    · exact rev_agr m _ _ _ _ (swp_agr h (by omega) hh) (by omega)
    · exact h
theorem next_agr {n : Nat} {f g : Nat → Nat} (h : agr n f g) : (nextF n f).1 = (nextF n g).1 ∧ agr n (nextF n f).2 (nextF n g).2 := by
  unfold nextF
  by_cases h0 : n = 0
  · rw [if_pos h0, if_pos h0]; exact ⟨rfl, h⟩
  · rw [if_neg h0, if_neg h0, piv_agr h (n - 1) (by omega)]
    have hp := pivF_le (f := g) (n - 1)
    by_cases hz : pivF g (n - 1) = 0
    · rw [if_pos hz, if_pos hz]; exact ⟨rfl, h⟩
    · rw [if_neg hz, if_neg hz, last_agr h (show pivF g (n - 1) - 1 < n by omega) (n - 1) (by omega)]
      have hl := lastF_le (f := g) (i := pivF g (n - 1) - 1) (n - 1)
      exact ⟨rfl, rev_agr n _ _ _ _ (swp_agr h (by omega) (by omega)) (by omega)⟩
def stpL (W : Nat → Nat → Nat) (n : Nat) (st : Nat × List Nat) (l : List Nat) : Nat × List Nat := if st.1 < sumO W n (lf l) + 1 then (sumO W n (lf l) + 1, l) else st
def iterL (n : Nat) : Nat → List Nat → List (List Nat)
  | 0, _ => []
  | m + 1, l => l :: (if (nextF n (lf l)).1 = true then iterL n m (tol n (nextF n (lf l)).2) else [])
def catL (g : Nat → List (List Nat)) : Nat → List (List Nat)
  | 0 => []
  | b + 1 => catL g b ++ g b
def recL (n : Nat) : Nat → List Nat → List (List Nat)
  | 0, pre => [pre]
  | m + 1, pre => catL (fun b => if b ∈ pre then [] else recL n m (pre ++ [b])) n
theorem recL_s {n m : Nat} {pre : List Nat} : recL n (m + 1) pre = catL (fun b => if b ∈ pre then [] else recL n m (pre ++ [b])) n := rfl
theorem iter_rec : ∀ n, n < 6 → iterL n 120 (List.range n) = recL n n [] := by decide +kernel
theorem sum_agr {W : Nat → Nat → Nat} {n : Nat} {f g : Nat → Nat} (h : agr n f g) : sumO W n f = sumO W n g := sumN_cong (fun i hi => by rw [h i hi])
theorem ord_iter {W : Nat → Nat → Nat} {n : Nat} : ∀ (m : Nat) (f : Nat → Nat) (l : List Nat) (st : Nat × (Nat → Nat)) (sl : Nat × List Nat), agr n f (lf l) → st.1 = sl.1 → (¬ st.1 = 0 → agr n st.2 (lf sl.2)) → (ordR W n m f st).1 = ((iterL n m l).foldl (stpL W n) sl).1 ∧ (¬ (ordR W n m f st).1 = 0 → agr n (ordR W n m f st).2 (lf ((iterL n m l).foldl (stpL W n) sl).2))
  | 0, _, _, _, _, _, h2, h3 => ⟨h2, h3⟩
  | m + 1, f, l, st, sl, h1, h2, h3 => by
    have hs : (ordS W n f st).1 = (stpL W n sl l).1 ∧ (¬ (ordS W n f st).1 = 0 → agr n (ordS W n f st).2 (lf (stpL W n sl l).2)) := by
      unfold ordS stpL
      rw [sum_agr h1, h2]
      split
      · exact ⟨rfl, fun _ => h1⟩
      · exact ⟨h2, h3⟩
    obtain ⟨n1, n2⟩ := next_agr h1
    have e : iterL n (m + 1) l = l :: (if (nextF n (lf l)).1 = true then iterL n m (tol n (nextF n (lf l)).2) else []) := rfl
    rw [e, List.foldl_cons]
    by_cases c : (nextF n f).1 = true
    · rw [ordR_t c, if_pos (by rw [← n1]; exact c)]
      exact ord_iter m _ _ _ _ (fun i hi => (n2 i hi).trans (agr_tol i hi)) hs.1 hs.2
    · rw [ordR_n c, if_neg (by rw [← n1]; exact c)]
      exact hs
/-- all orders, one after the other -/
theorem plat_eq {W : Nat → Nat → Nat} {n : Nat} (hn : n < 6) : (ordR W n 120 (fun i => i) (0, fun i => i)).1 = ((recL n n []).foldl (stpL W n) (0, [])).1 ∧ (¬ (ordR W n 120 (fun i => i) (0, fun i => i)).1 = 0 → ∀ i, i < n → (ordR W n 120 (fun i => i) (0, fun i => i)).2 i = lf ((recL n n []).foldl (stpL W n) (0, [])).2 i) := by
  rw [← iter_rec n hn]
  exact ord_iter 120 _ _ _ _ agr_range rfl (fun z => absurd rfl z)
/-! taken, as bits -/
theorem bit_t : ∀ t, t < 32 → ∀ b, b < 5 → (nI t >>> (nI b &&& 31)) &&& nI 1 = nI (t / 2 ^ b % 2) := by decide +kernel
theorem bit_or : ∀ t, t < 32 → ∀ b, b < 5 → (t / 2 ^ b % 2 = 1 ∨ (nI t ||| (nI 1 <<< (nI b &&& 31)) = nI (t + 2 ^ b) ∧ t + 2 ^ b < 32)) := by decide +kernel
theorem bit_add : ∀ t, t < 32 → ∀ b, b < 5 → ∀ a, a < 5 → (t / 2 ^ b % 2 = 1 ∨ ((t + 2 ^ b) / 2 ^ a % 2 = 1 ↔ (a = b ∨ t / 2 ^ a % 2 = 1))) := by decide +kernel
def msk (pre : List Nat) (t : Nat) : Prop := t < 32 ∧ ∀ b, b < 5 → (t / 2 ^ b % 2 = 1 ↔ b ∈ pre)
theorem msk_add {pre : List Nat} {t b : Nat} (h : msk pre t) (hb : b < 5) (hn : b ∉ pre) : nI t ||| (nI 1 <<< (nI b &&& 31)) = nI (t + 2 ^ b) ∧ msk (pre ++ [b]) (t + 2 ^ b) := by
  obtain ⟨h1, h2⟩ := h
  have h3 : ¬ t / 2 ^ b % 2 = 1 := fun z => hn ((h2 b hb).mp z)
  rcases bit_or t h1 b hb with c | ⟨c1, c2⟩
  · exact absurd c h3
  · refine ⟨c1, c2, fun a ha => ?_⟩
    rcases bit_add t h1 b hb a ha with c | c
    · exact absurd c h3
    · rw [c, h2 a ha, List.mem_append, List.mem_singleton]
      exact Or.comm
