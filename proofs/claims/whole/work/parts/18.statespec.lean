/-! a State: biscuits, worths, count, heat, loss, tea, sludge, pleasure, seconds, seed -/
abbrev St : Type := (Nat → Bi) × (Nat → Nat) × Nat × Nat × Nat × Nat × Int32 × Int32 × Int32 × Int32
abbrev sBs (s : St) : Nat → Bi := s.1
abbrev sWo (s : St) : Nat → Nat := s.2.1
abbrev sCn (s : St) : Nat := s.2.2.1
abbrev sHt (s : St) : Nat := s.2.2.2.1
abbrev sLo (s : St) : Nat := s.2.2.2.2.1
abbrev sTe (s : St) : Nat := s.2.2.2.2.2.1
abbrev sSl (s : St) : Int32 := s.2.2.2.2.2.2.1
abbrev sPl (s : St) : Int32 := s.2.2.2.2.2.2.2.1
abbrev sSe (s : St) : Int32 := s.2.2.2.2.2.2.2.2.1
abbrev sSd (s : St) : Int32 := s.2.2.2.2.2.2.2.2.2
def upF {α : Type} (f : Nat → α) (k : Nat) (v : α) : Nat → α := fun j => if j = k then v else f j
theorem upF_s {α : Type} {f : Nat → α} {k : Nat} {v : α} : upF f k v k = v := if_pos rfl
theorem upF_n {α : Type} {f : Nat → α} {k j : Nat} {v : α} (h : j ≠ k) : upF f k v j = f j := if_neg h
def okSt (s : St) : Prop := (∀ q, q < sCn s → okB (sBs s q)) ∧ (∀ i, sWo s i ≤ 99) ∧ sCn s ≤ 6 ∧ sHt s < 2 ^ 31 ∧ (1 ≤ sLo s ∧ sLo s ≤ 99) ∧ sTe s ≤ 9999
def RS (B : Nat) (M : MM) (k : Nat) (s : St) : Prop :=
  (∀ q, q < sCn s → RB M (B + (k + 3 + 2 * q)) (B + (k + 3 + 2 * q + 1)) (sBs s q)) ∧ (∀ i, i < 10 → M.1 (B + (k + 2)) i = nI (sWo s i)) ∧
  M.1 (B + k) 2 = nI (sCn s) ∧ M.1 (B + k) 3 = nI (sHt s) ∧ M.1 (B + k) 4 = nI (sLo s) ∧ M.1 (B + k) 5 = nI (sTe s) ∧ M.1 (B + k) 6 = sSl s ∧ M.1 (B + k) 7 = sPl s ∧ M.1 (B + k) 8 = sSe s ∧ M.1 (B + k) 9 = sSd s
theorem RS.sm {B : Nat} {M M' : MM} {lo hi k : Nat} {s : St} (h : RS B M k s) (ho : okSt s) (hS : Sm B M M' lo hi) (h1 : k + 15 ≤ lo ∨ hi ≤ k) : RS B M' k s := by
  obtain ⟨h2, h3, h4⟩ := h
  have hc := ho.2.2.1
  refine ⟨fun q hq => (h2 q hq).sm hS (by omega) (by omega), ?_, ?_⟩
  · rw [hS.i (by omega)]; exact h3
  · rw [hS.i (by omega)]; exact h4
/-- worth of cells -/
def worthN (g : Nat → Nat) (n : Nat) (w : Nat → Nat) : Nat := sumN (fun i => g (w i / 10)) n
theorem worthN_le {g : Nat → Nat} (hg : ∀ i, g i ≤ 99) (n : Nat) (w : Nat → Nat) : worthN g n w ≤ 99 * n := sumN_le (fun i => hg _) n
/-- heat behind so many seconds -/
def heatI (ht lo : Nat) (se more : Int32) : Int32 := if nI 0 < nI ht - ((se + more) / nI lo - se / nI lo) then nI ht - ((se + more) / nI lo - se / nI lo) else nI 0
def heatN (ht lo : Nat) (se more : Int32) : Nat := (heatI ht lo se more).toNatClampNeg
theorem heatN_ok {ht lo : Nat} {se more : Int32} : heatI ht lo se more = nI (heatN ht lo se more) ∧ heatN ht lo se more < 2 ^ 31 := by
  have h : ¬ heatI ht lo se more < 0 := by
    unfold heatI
    split
    · rename_i q
      intro z
      rw [Int32.lt_iff_toInt_lt] at q z
      have e0 : (nI 0).toInt = 0 := rfl
      have e1 : (0 : Int32).toInt = 0 := rfl
      omega
    · decide
  obtain ⟨j, hj, e⟩ := nI_of h
  have e2 : heatN ht lo se more = j := by unfold heatN; rw [e, nI_clamp hj]
  rw [e2]
  exact ⟨e, hj⟩
def passS (s : St) (more : Int32) : St := (sBs s, sWo s, sCn s, heatN (sHt s) (sLo s) (sSe s) more, sLo s, sTe s, sSl s, sPl s, sSe s + more, sSd s)
/-- a dip, a carry, eaten, in truth -/
def dipD (b : Bi) (h d s : Nat) : Dk := runD b.1 b.2.1 h 0 (entD d (newD b.2.2.1 b.2.2.2)) s
def setB (s : St) (q : Nat) (n : Nat) (w : Nat → Nat) : Nat → Bi := upF (sBs s) q ((sBs s q).1, (sBs s q).2.1, n, w)
def dipS (s : St) (q d t : Nat) : St :=
  passS (setB s q (dipD (sBs s q) (sHt s) d t).1 (dipD (sBs s q) (sHt s) d t).2.1, sWo s, sCn s, sHt s, sLo s, sTe s - (dipD (sBs s q) (sHt s) d t).2.2.2.2.1, sSl s + nI (dipD (sBs s q) (sHt s) d t).2.2.2.1, sPl s, sSe s, sSd s) (nI t)
def carS (s : St) (q t : Nat) : St :=
  passS (setB s q (dipD (sBs s q) (sHt s) 0 t).1 (dipD (sBs s q) (sHt s) 0 t).2.1, sWo s, sCn s, sHt s, sLo s, sTe s, sSl s, sPl s, sSe s, sSd s) (nI t)
def eatW (s : St) (q : Nat) : Nat := worthN (sWo s) (sBs s q).2.2.1 (sBs s q).2.2.2
def eatS (s : St) (q : Nat) : St := (setB s q 0 (sBs s q).2.2.2, sWo s, sCn s, sHt s, sLo s, sTe s, sSl s, sPl s + nI (eatW s q), sSe s, sSd s)
theorem next_ex (sd : Int32) : ∃ x : Int32, sd * 1103515245 + nI 12345 = x := ⟨_, rfl⟩
/-- (chosen, so that nothing unfolds it) -/
noncomputable def nextI (sd : Int32) : Int32 := Classical.choose (next_ex sd)
theorem nextI_eq (sd : Int32) : sd * 1103515245 + nI 12345 = nextI sd := Classical.choose_spec (next_ex sd)
def shI (sd : Int32) : Int32 := (sd.toUInt32 >>> ((nI 16).toUInt32 &&& Int32.toUInt32 31)).toInt32
noncomputable def drawN (sd : Int32) (n : Nat) : Nat := (shI (nextI sd)).toNatClampNeg % n
def seedS (s : St) (sd : Int32) : St := (sBs s, sWo s, sCn s, sHt s, sLo s, sTe s, sSl s, sPl s, sSe s, sd)
theorem shI_ok (sd : Int32) : ∃ j, j < 65536 ∧ shI sd = nI j := by
  have h0 : sd = nI sd.toBitVec.toNat := by
    apply Int32.toBitVec_inj.mp
    show sd.toBitVec = BitVec.ofNat 32 sd.toBitVec.toNat
    simp
  have h1 : sd.toBitVec.toNat < 2 ^ 32 := sd.toBitVec.isLt
  refine ⟨sd.toBitVec.toNat / 2 ^ 16, by omega, ?_⟩
  unfold shI
  rw [h0]
  have := pk_ushrN h1 (nI 16) 16 (by decide)
  rw [← h0] at this ⊢
  exact this
theorem draw_ok {sd : Int32} {n : Nat} (hn : 0 < n) (hn2 : n < 2 ^ 31) : shI (nextI sd) - shI (nextI sd) / nI n * nI n = nI (drawN sd n) ∧ drawN sd n < n := by
  obtain ⟨j, hj, e⟩ := shI_ok (nextI sd)
  unfold drawN
  rw [e, nI_clamp (by omega), pk_rem (by omega) hn hn2]
  exact ⟨rfl, Nat.mod_lt _ hn⟩
def addS (s : St) (kd n a : Nat) : St := (upF (sBs s) (sCn s) (kd, a, n, fun _ => 0), sWo s, sCn s + 1, sHt s, sLo s, sTe s, sSl s, sPl s, sSe s, sSd s)
theorem okB_new {kd n a : Nat} (h1 : kd ≤ 6) (h2 : n ≤ 12) (h3 : a ≤ 9) : okB (kd, a, n, fun _ => 0) := ⟨h1, h3, h2, fun _ => Nat.zero_le _⟩
theorem ok_pass {s : St} {m : Int32} (h : okSt s) : okSt (passS s m) := ⟨h.1, h.2.1, h.2.2.1, heatN_ok.2, h.2.2.2.2⟩
theorem ok_setB {s : St} {q n : Nat} {w : Nat → Nat} (h : okSt s) (hn : n ≤ 12) (hw : ∀ i, w i ≤ 99) : ∀ j, j < sCn s → okB (setB s q n w j) := by
  intro j hj
  unfold setB upF
  split
  · rename_i e
    subst e
    exact ⟨(h.1 j hj).1, (h.1 j hj).2.1, hn, hw⟩
  · exact h.1 j hj
theorem dipD_ok {b : Bi} {h d s : Nat} (ho : okB b) : okD b.1 b.2.1 (0 + s) (dipD b h d s) := run_ok (ent_ok (new_ok ho)) s
theorem ok_dip {s : St} {q d t : Nat} (h : okSt s) (hq : q < sCn s) : okSt (dipS s q d t) := by
  have h2 := dipD_ok (h := sHt s) (d := d) (s := t) (h.1 q hq)
  refine ok_pass ⟨ok_setB h h2.1.2.2.1 h2.1.2.2.2, h.2.1, h.2.2.1, h.2.2.2.1, h.2.2.2.2.1, ?_⟩
  have := h.2.2.2.2.2
  exact Nat.le_trans (Nat.sub_le _ _) this
theorem ok_car {s : St} {q t : Nat} (h : okSt s) (hq : q < sCn s) : okSt (carS s q t) := by
  have h2 := dipD_ok (h := sHt s) (d := 0) (s := t) (h.1 q hq)
  exact ok_pass ⟨ok_setB h h2.1.2.2.1 h2.1.2.2.2, h.2⟩
theorem ok_eat {s : St} {q : Nat} (h : okSt s) (hq : q < sCn s) : okSt (eatS s q) := ⟨ok_setB h (Nat.zero_le _) (h.1 q hq).2.2.2, h.2⟩
theorem ok_seed {s : St} {sd : Int32} (h : okSt s) : okSt (seedS s sd) := h
theorem ok_add {s : St} {kd n a : Nat} (h : okSt s) (h1 : kd ≤ 6) (h2 : n ≤ 12) (h3 : a ≤ 9) (hr : sCn s < 6) : okSt (addS s kd n a) := by
  refine ⟨fun j hj => ?_, h.2.1, ?_, h.2.2.2⟩
  · have hj : j < sCn s + 1 := hj
    show okB (upF (sBs s) (sCn s) (kd, a, n, fun _ => 0) j)
    unfold upF
    split
    · exact okB_new h1 h2 h3
    · exact h.1 j (by omega)
  · show sCn s + 1 ≤ 6
    omega
/-- one tea by draws: what it is worth, what is then -/
noncomputable def teaS (s : St) : Nat × St :=
  let q := drawN (sSd s) (sCn s)
  let s1 := seedS s (nextI (sSd s))
  if (sBs s q).2.2.1 = 0 then (0, s1) else
    let d := drawN (sSd s1) ((sBs s q).2.2.1 + 1)
    let s2 := seedS s1 (nextI (sSd s1))
    let t := drawN (sSd s2) 10
    let s3 := dipS (seedS s2 (nextI (sSd s2))) q d t
    let c := drawN (sSd s3) 6
    let s4 := carS (seedS s3 (nextI (sSd s3))) q c
    (eatW s4 q, eatS s4 q)
