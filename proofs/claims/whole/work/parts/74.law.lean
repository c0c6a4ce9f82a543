/-! the law: its calls, its cases -/
theorem lg_same {x : Int64} : lg_cmp x x = 0 := by
  unfold lg_cmp
  rw [if_neg (fun h => absurd (Int64.lt_iff_toInt_lt.mp h) (Int.lt_irrefl _)), if_pos rfl]
abbrev fkL : FK := (RL, 4, ret, room_1, 0, 0, fun _ _ _ _ => True)
/-- the script, which is older than all that the law makes -/
def LX (B b L : Nat) (xs : Nat → Int32) (v : EN) : Prop := va_X b L xs v.2.2.2.1 v.2.2.2.1.heap ∧ b < v.2.2.2.1.heap.size ∧ ¬ AA B b ∧ L ≤ 3072
abbrev lvL (b B i : Nat) : List (Nat × Value) := [(3, .int (nI i)), (2, .ref (B + 80)), (1, .ref (B + 0)), (0, .ref b)]
theorem plan0 : ∃ fs, plan[0]? = some (.inl (6, fs)) := ⟨_, rfl⟩
set_option maxRecDepth 30000 in
theorem plan80 : ∃ fs, plan[80]? = some (.inl (7, fs)) := ⟨_, rfl⟩
section LAW
variable {E : EE} {B : Nat} {code : ByteArray} {fk : FK} {v : EN} {Q : State → Prop} {S : Heap → Prop} {nc ns pc : Nat} {lv : List (Nat × Value)} {st : List Value} {M : MM}
theorem j_callV {idx k ci d nL n : Nat} {y : MethodName} {code2 : ByteArray} {ret2 : Option FieldType} {As st0 : List Value} {F : Option Value → MM → Prop} (V : Bd E B code fk v.1 v.2.2.2.1 v.2.2.2.2.1 v.2.2.2.2.2.2.2.1 v.2.2.2.2.2.2.2.2) (hf : nc ≤ fk.2.2.2.1.cells ∧ ns ≤ fk.2.2.2.1.slots)
    (hd : decode code pc = .ok (.invokevirtual idx, 3)) (hm : MI y code2 nL ret2 n) (hl : Cond.methodLink fk.1 idx y ∈ tbG) (hC : Ct E B y code2 nL ret2 d (.ref (B + k) :: As) M F) (hk : ∃ fs, plan[k]? = some (.inl (ci, fs))) (hc : (vwCl[ci]?).map (fun q => q.1) = some y.cls) (hn : As.length = n) (hst : st0 = As.reverse ++ .ref (B + k) :: st) (hw : (st.map fun v => v.category).sum ≤ 8)
    (hr : d + 1 ≤ fk.2.2.2.1.frames ∧ 8 + (nL + 11) + 40 * d ≤ fk.2.2.2.1.locals) (kk : ∀ (r : Option Value) (M' : MM), F r M' → J B fk v Q (Rep E B M') nc ns (pc + 3) lv (r.toList ++ st)) : J B fk v Q (Rep E B M) nc ns pc lv st0 := by
  intro H locs ls hR hS hL
  obtain ⟨fs, hk⟩ := hk
  have hE := V.2.2.2.2.2.2.1
  obtain ⟨m1, m2, m3, m4, m5, m6⟩ := hm
  subst hst
  cases hcc : vwCl[ci]? with
  | none => rw [hcc] at hc; cases hc
  | some q =>
    rw [hcc] at hc
    have hq1 : q.1 = y.cls := Option.some.inj hc
    have hrv := va_recv (q0 := k) hE.2.2.1 hR hcc (wld_at hk)
    rw [hq1] at hrv
    refine va_back (va_runV (own := fk.1) (cc := code) (nL := fk.2.1) (Ts := tbG) (b := B + k) (As := As) (rest := st) (n := n) ⟨V.1, V.2.1, V.2.2.1, V.2.2.2.2.2.1, fun w hw => hE.1 w hw v.2.2.2.2.2.1⟩ (hC v.2.1) ⟨⟨rfl, rfl, hr.1, hr.2, ws_warm hE m1, List.mem_cons_self, hE.1 _ m1 v.2.2.2.2.2.1, hE.1 _ m4 v.2.2.2.2.2.1, m5, fun sig h => ?_, hE.1 _ hl v.2.2.2.2.2.1⟩, hE.1 _ m2 v.2.2.2.2.2.1, hE.1 _ m3 v.2.2.2.2.2.1⟩ ⟨PcO_blind, hrv, fun U hU hW => ⟨rfl, EV.warm hW hU hS hE, by rw [hU]; exact hR⟩⟩ rfl hn hL.1 rfl (by simpa using hw) hd hf) hS (fun r M' hF H1 locs1 hR1 hS1 => kk r M' hF H1 locs1 ls hR1 hS1 hL)
    rw [h] at m6
    exact (Option.some.inj m6).symm
section CALLS
variable {idx k ci d nL n : Nat} {y : MethodName} {code2 : ByteArray} {As st0 : List Value}
theorem l_cx {o : Int32 × Sys} (V : Bd E B code fk v.1 v.2.2.2.1 v.2.2.2.2.1 v.2.2.2.2.2.2.2.1 v.2.2.2.2.2.2.2.2) (hf : nc ≤ fk.2.2.2.1.cells ∧ ns ≤ fk.2.2.2.1.slots) (hd : decode code pc = .ok (.invokevirtual idx, 3)) (hm : MI y code2 nL (some .int) n) (hl : Cond.methodLink fk.1 idx y ∈ tbG) (hC : Ct E B y code2 nL (some .int) d (.ref (B + k) :: As) M (QY B M o)) (hk : ∃ fs, plan[k]? = some (.inl (ci, fs))) (hc : (vwCl[ci]?).map (fun q => q.1) = some y.cls) (hn : As.length = n) (hst : st0 = As.reverse ++ .ref (B + k) :: st) (hw : (st.map fun v => v.category).sum ≤ 8)
    (hr : d + 1 ≤ fk.2.2.2.1.frames ∧ 8 + (nL + 11) + 40 * d ≤ fk.2.2.2.1.locals) (kk : ∀ M', RY B M' o.2 → okY o.2 → Sm B M M' 0 80 → J B fk v Q (Rep E B M') nc ns (pc + 3) lv (.int o.1 :: st)) : J B fk v Q (Rep E B M) nc ns pc lv st0 :=
  j_callV V hf hd hm hl hC hk hc hn hst hw hr (fun r M' hF => by
    obtain ⟨x, rfl, rfl, h1, h2, h3⟩ := hF
    exact kk M' h1 h2 h3)
theorem l_mx {o : Int32 × Sys} (V : Bd E B code fk v.1 v.2.2.2.1 v.2.2.2.2.1 v.2.2.2.2.2.2.2.1 v.2.2.2.2.2.2.2.2) (hf : nc ≤ fk.2.2.2.1.cells ∧ ns ≤ fk.2.2.2.1.slots) (hd : decode code pc = .ok (.invokevirtual idx, 3)) (hm : MI y code2 nL (some .int) n) (hl : Cond.methodLink fk.1 idx y ∈ tbG) (hC : Ct E B y code2 nL (some .int) d (.ref (B + k) :: As) M (QM B M o)) (hk : ∃ fs, plan[k]? = some (.inl (ci, fs))) (hc : (vwCl[ci]?).map (fun q => q.1) = some y.cls) (hn : As.length = n) (hst : st0 = As.reverse ++ .ref (B + k) :: st) (hw : (st.map fun v => v.category).sum ≤ 8)
    (hr : d + 1 ≤ fk.2.2.2.1.frames ∧ 8 + (nL + 11) + 40 * d ≤ fk.2.2.2.1.locals) (kk : ∀ M', RM B M' o.2 → Sm B M M' 80 102 → J B fk v Q (Rep E B M') nc ns (pc + 3) lv (.int o.1 :: st)) : J B fk v Q (Rep E B M) nc ns pc lv st0 :=
  j_callV V hf hd hm hl hC hk hc hn hst hw hr (fun r M' hF => by
    obtain ⟨x, rfl, rfl, h1, h2⟩ := hF
    exact kk M' h1 h2)
theorem l_cxl {o : Int64 × Sys} (V : Bd E B code fk v.1 v.2.2.2.1 v.2.2.2.2.1 v.2.2.2.2.2.2.2.1 v.2.2.2.2.2.2.2.2) (hf : nc ≤ fk.2.2.2.1.cells ∧ ns ≤ fk.2.2.2.1.slots) (hd : decode code pc = .ok (.invokevirtual idx, 3)) (hm : MI y code2 nL (some .long) n) (hl : Cond.methodLink fk.1 idx y ∈ tbG) (hC : Ct E B y code2 nL (some .long) d (.ref (B + k) :: As) M (QL B M o)) (hk : ∃ fs, plan[k]? = some (.inl (ci, fs))) (hc : (vwCl[ci]?).map (fun q => q.1) = some y.cls) (hn : As.length = n) (hst : st0 = As.reverse ++ .ref (B + k) :: st) (hw : (st.map fun v => v.category).sum ≤ 8)
    (hr : d + 1 ≤ fk.2.2.2.1.frames ∧ 8 + (nL + 11) + 40 * d ≤ fk.2.2.2.1.locals) (kk : ∀ M', RY B M' o.2 → okY o.2 → Sm B M M' 0 80 → J B fk v Q (Rep E B M') nc ns (pc + 3) lv (.long o.1 :: st)) : J B fk v Q (Rep E B M) nc ns pc lv st0 :=
  j_callV V hf hd hm hl hC hk hc hn hst hw hr (fun r M' hF => by
    obtain ⟨x, rfl, rfl, h1, h2, h3⟩ := hF
    exact kk M' h1 h2 h3)
theorem l_mxl {o : Int64 × Sys} (V : Bd E B code fk v.1 v.2.2.2.1 v.2.2.2.2.1 v.2.2.2.2.2.2.2.1 v.2.2.2.2.2.2.2.2) (hf : nc ≤ fk.2.2.2.1.cells ∧ ns ≤ fk.2.2.2.1.slots) (hd : decode code pc = .ok (.invokevirtual idx, 3)) (hm : MI y code2 nL (some .long) n) (hl : Cond.methodLink fk.1 idx y ∈ tbG) (hC : Ct E B y code2 nL (some .long) d (.ref (B + k) :: As) M (QML B M o)) (hk : ∃ fs, plan[k]? = some (.inl (ci, fs))) (hc : (vwCl[ci]?).map (fun q => q.1) = some y.cls) (hn : As.length = n) (hst : st0 = As.reverse ++ .ref (B + k) :: st) (hw : (st.map fun v => v.category).sum ≤ 8)
    (hr : d + 1 ≤ fk.2.2.2.1.frames ∧ 8 + (nL + 11) + 40 * d ≤ fk.2.2.2.1.locals) (kk : ∀ M', RM B M' o.2 → Sm B M M' 80 102 → J B fk v Q (Rep E B M') nc ns (pc + 3) lv (.long o.1 :: st)) : J B fk v Q (Rep E B M) nc ns pc lv st0 :=
  j_callV V hf hd hm hl hC hk hc hn hst hw hr (fun r M' hF => by
    obtain ⟨x, rfl, rfl, h1, h2⟩ := hF
    exact kk M' h1 h2)
theorem l_pure {z : Int64} (V : Bd E B code fk v.1 v.2.2.2.1 v.2.2.2.2.1 v.2.2.2.2.2.2.2.1 v.2.2.2.2.2.2.2.2) (hf : nc ≤ fk.2.2.2.1.cells ∧ ns ≤ fk.2.2.2.1.slots) (hd : decode code pc = .ok (.invokevirtual idx, 3)) (hm : MI y code2 nL (some .long) n) (hl : Cond.methodLink fk.1 idx y ∈ tbG) (hC : Ct E B y code2 nL (some .long) d (.ref (B + k) :: As) M (Rl (fun r M2 => r = z ∧ M2 = M))) (hk : ∃ fs, plan[k]? = some (.inl (ci, fs))) (hc : (vwCl[ci]?).map (fun q => q.1) = some y.cls) (hn : As.length = n) (hst : st0 = As.reverse ++ .ref (B + k) :: st) (hw : (st.map fun v => v.category).sum ≤ 8)
    (hr : d + 1 ≤ fk.2.2.2.1.frames ∧ 8 + (nL + 11) + 40 * d ≤ fk.2.2.2.1.locals) (kk : J B fk v Q (Rep E B M) nc ns (pc + 3) lv (.long z :: st)) : J B fk v Q (Rep E B M) nc ns pc lv st0 :=
  j_callV V hf hd hm hl hC hk hc hn hst hw hr (fun r M' hF => by
    obtain ⟨x, rfl, rfl, h1⟩ := hF
    subst h1
    exact kk)
end CALLS
theorem j_sld {b L q : Nat} {xs : Nat → Int32} (V : Bd E B code fk v.1 v.2.2.2.1 v.2.2.2.2.1 v.2.2.2.2.2.2.2.1 v.2.2.2.2.2.2.2.2) (hX : LX B b L xs v) (hq : q < L) (hd : decode code pc = .ok (.iaload, 1)) (kk : J B fk v Q S nc ns (pc + 1) lv (.int (xs q) :: st)) : J B fk v Q S nc ns pc lv (.int (nI q) :: .ref b :: st) := by
  intro H locs ls hR hS hL
  obtain ⟨h1, h2, h3, h4⟩ := hX
  refine va_sld V.1 V.2.1 h1 h2 h3 hS (vp_in_nI hq (by omega)) hd ?_
  rw [nI_clamp (by omega)]
  exact kk H locs ls hR hS hL
theorem j_slen {b L : Nat} {xs : Nat → Int32} (V : Bd E B code fk v.1 v.2.2.2.1 v.2.2.2.2.1 v.2.2.2.2.2.2.2.1 v.2.2.2.2.2.2.2.2) (hX : LX B b L xs v) (hd : decode code pc = .ok (.arraylength, 1)) (kk : J B fk v Q S nc ns (pc + 1) lv (.int (nI L) :: st)) : J B fk v Q S nc ns pc lv (.ref b :: st) := by
  intro H locs ls hR hS hL
  obtain ⟨h1, h2, h3, h4⟩ := hX
  exact va_slen V.1 V.2.1 h1 h2 h3 hS hd (kk H locs ls hR hS hL)
variable {b L i : Nat} {xs : Nat → Int32} {y : Sys}
theorem l_arg {j : Nat} (V : Bd E B cL_law fkL v.1 v.2.2.2.1 v.2.2.2.2.1 v.2.2.2.2.2.2.2.1 v.2.2.2.2.2.2.2.2) (hX : LX B b L xs v) (hi : i + 6 ≤ L) (hj : j < 6) (d0 : decode cL_law pc = .ok (.aload_n 0, 1)) (d1 : decode cL_law (pc + 1) = .ok (.iload_n 3, 1)) (d2 : decode cL_law (pc + 1 + 1) = .ok (.iconst (j : Int), 1)) (d3 : decode cL_law (pc + 1 + 1 + 1) = .ok (.iadd, 1)) (d4 : decode cL_law (pc + 1 + 1 + 1 + 1) = .ok (.iaload, 1))
    (kk : J B fkL v Q S nc ns (pc + 1 + 1 + 1 + 1 + 1) (lvL b B i) (.int (xs (i + j)) :: st)) : J B fkL v Q S nc ns pc (lvL b B i) st := by
  refine j_aload_n V d0 rfl rfl ?_
  refine j_iload_n V d1 rfl rfl ?_
  refine j_iconst (z := nI j) V d2 rfl ?_
  refine j_iadd (z := nI (i + j)) V d3 (nI_add _ _) ?_
  exact j_sld V hX (by omega) d4 kk

theorem lc_0 (V : Bd E B cL_law fkL v.1 v.2.2.2.1 v.2.2.2.2.1 v.2.2.2.2.2.2.2.1 v.2.2.2.2.2.2.2.2) (hX : LX B b L xs v) (hi : i + 6 ≤ L) (hf : nc ≤ 600000 ∧ ns ≤ 7302250) (h : RX B M y) (hn : ∀ M2 y2, RX B M2 y2 → J B fkL v Q (Rep E B M2) nc ns 1814 (lvL b B i) []) : J B fkL v Q (Rep E B M) nc ns 216 (lvL b B i) [] := by
  refine j_aload_n V dL_law_216 rfl rfl ?_
  refine l_arg (j := 1) V hX hi (by decide) dL_law_217 dL_law_218 dL_law_219 dL_law_220 dL_law_221 ?_
  refine l_arg (j := 2) V hX hi (by decide) dL_law_222 dL_law_223 dL_law_224 dL_law_225 dL_law_226 ?_
  refine l_arg (j := 3) V hX hi (by decide) dL_law_227 dL_law_228 dL_law_229 dL_law_230 dL_law_231 ?_
  refine l_cx (n := 3) V hf dL_law_232 mi_X6_row ml_L_13 (cx_row (s := xs (i + 1)) (so := xs (i + 2)) (n := xs (i + 3)) h.1 h.2.2) plan0 rfl rfl rfl (Nat.le_of_ble_eq_true rfl) (by decide +kernel) (fun M1 a1 a2 a3 => ?_)
  refine j_aload_n V dL_law_235 rfl rfl ?_
  refine l_arg (j := 1) V hX hi (by decide) dL_law_236 dL_law_237 dL_law_238 dL_law_239 dL_law_240 ?_
  refine l_arg (j := 2) V hX hi (by decide) dL_law_241 dL_law_242 dL_law_243 dL_law_244 dL_law_245 ?_
  refine l_arg (j := 3) V hX hi (by decide) dL_law_246 dL_law_247 dL_law_248 dL_law_249 dL_law_250 ?_
  refine l_mx (n := 3) V hf dL_law_251 mi_X7_row ml_L_17 (mx_row (s := xs (i + 1)) (so := xs (i + 2)) (n := xs (i + 3)) (h.2.1.yy a3) h.2.2) plan80 rfl rfl rfl (Nat.le_of_ble_eq_true rfl) (by decide +kernel) (fun M2 b1 b2 => ?_)
  exact j_icmp_eq (tgt := 1814) V dL_law_254 rfl (fun _ => hn M2 _ ⟨a1.mm a2 b2, b1, a2⟩) (fun q => absurd rfl q)
theorem lc_1 (V : Bd E B cL_law fkL v.1 v.2.2.2.1 v.2.2.2.2.1 v.2.2.2.2.2.2.2.1 v.2.2.2.2.2.2.2.2) (hX : LX B b L xs v) (hi : i + 6 ≤ L) (hf : nc ≤ 600000 ∧ ns ≤ 7302250) (h : RX B M y) (hn : ∀ M2 y2, RX B M2 y2 → J B fkL v Q (Rep E B M2) nc ns 1814 (lvL b B i) []) : J B fkL v Q (Rep E B M) nc ns 259 (lvL b B i) [] := by
  refine j_aload_n V dL_law_259 rfl rfl ?_
  refine l_arg (j := 1) V hX hi (by decide) dL_law_260 dL_law_261 dL_law_262 dL_law_263 dL_law_264 ?_
  refine l_arg (j := 2) V hX hi (by decide) dL_law_265 dL_law_266 dL_law_267 dL_law_268 dL_law_269 ?_
  refine l_arg (j := 3) V hX hi (by decide) dL_law_270 dL_law_271 dL_law_272 dL_law_273 dL_law_274 ?_
  refine j_i2l V dL_law_275 rfl ?_
  refine j_bipush (z := 32) V dL_law_276 (by decide +kernel) ?_
  refine j_lshl V dL_law_278 rfl ?_
  refine l_arg (j := 4) V hX hi (by decide) dL_law_279 dL_law_280 dL_law_281 dL_law_282 dL_law_283 ?_
  refine j_i2l V dL_law_284 rfl ?_
  refine j_ldc2 (z := 4294967295) V dL_law_285 kw_L_18 ?_
  refine j_land V dL_law_288 rfl ?_
  refine j_lor V dL_law_289 rfl ?_
  refine l_cx (n := 3) V hf dL_law_290 mi_X6_set ml_L_20 (cx_set (s := xs (i + 1)) (i := xs (i + 2)) (v := (((xs (i + 3)).toInt64 <<< (Int32.toInt64 (32 : Int32) &&& 63)) ||| ((xs (i + 4)).toInt64 &&& (4294967295 : Int64)))) h.1 h.2.2) plan0 rfl rfl rfl (Nat.le_of_ble_eq_true rfl) (by decide +kernel) (fun M1 a1 a2 a3 => ?_)
  refine j_aload_n V dL_law_293 rfl rfl ?_
  refine l_arg (j := 1) V hX hi (by decide) dL_law_294 dL_law_295 dL_law_296 dL_law_297 dL_law_298 ?_
  refine l_arg (j := 2) V hX hi (by decide) dL_law_299 dL_law_300 dL_law_301 dL_law_302 dL_law_303 ?_
  refine l_arg (j := 3) V hX hi (by decide) dL_law_304 dL_law_305 dL_law_306 dL_law_307 dL_law_308 ?_
  refine j_i2l V dL_law_309 rfl ?_
  refine j_bipush (z := 32) V dL_law_310 (by decide +kernel) ?_
  refine j_lshl V dL_law_312 rfl ?_
  refine l_arg (j := 4) V hX hi (by decide) dL_law_313 dL_law_314 dL_law_315 dL_law_316 dL_law_317 ?_
  refine j_i2l V dL_law_318 rfl ?_
  refine j_ldc2 (z := 4294967295) V dL_law_319 kw_L_18 ?_
  refine j_land V dL_law_322 rfl ?_
  refine j_lor V dL_law_323 rfl ?_
  refine l_mx (n := 3) V hf dL_law_324 mi_X7_set ml_L_24 (mx_set (s := xs (i + 1)) (i := xs (i + 2)) (v := (((xs (i + 3)).toInt64 <<< (Int32.toInt64 (32 : Int32) &&& 63)) ||| ((xs (i + 4)).toInt64 &&& (4294967295 : Int64)))) (h.2.1.yy a3) h.2.2) plan80 rfl rfl rfl (Nat.le_of_ble_eq_true rfl) (by decide +kernel) (fun M2 b1 b2 => ?_)
  exact j_icmp_eq (tgt := 1814) V dL_law_327 rfl (fun _ => hn M2 _ ⟨a1.mm a2 b2, b1, a2⟩) (fun q => absurd rfl q)
theorem lc_2 (V : Bd E B cL_law fkL v.1 v.2.2.2.1 v.2.2.2.2.1 v.2.2.2.2.2.2.2.1 v.2.2.2.2.2.2.2.2) (hX : LX B b L xs v) (hi : i + 6 ≤ L) (hf : nc ≤ 600000 ∧ ns ≤ 7302250) (h : RX B M y) (hn : ∀ M2 y2, RX B M2 y2 → J B fkL v Q (Rep E B M2) nc ns 1814 (lvL b B i) []) : J B fkL v Q (Rep E B M) nc ns 332 (lvL b B i) [] := by
  refine j_aload_n V dL_law_332 rfl rfl ?_
  refine l_arg (j := 1) V hX hi (by decide) dL_law_333 dL_law_334 dL_law_335 dL_law_336 dL_law_337 ?_
  refine l_arg (j := 2) V hX hi (by decide) dL_law_338 dL_law_339 dL_law_340 dL_law_341 dL_law_342 ?_
  refine l_arg (j := 3) V hX hi (by decide) dL_law_343 dL_law_344 dL_law_345 dL_law_346 dL_law_347 ?_
  refine l_arg (j := 4) V hX hi (by decide) dL_law_348 dL_law_349 dL_law_350 dL_law_351 dL_law_352 ?_
  refine l_arg (j := 5) V hX hi (by decide) dL_law_353 dL_law_354 dL_law_355 dL_law_356 dL_law_357 ?_
  refine l_cx (n := 5) V hf dL_law_358 mi_X6_copy ml_L_25 (cx_copy (p := xs (i + 1)) (q := xs (i + 2)) (i := xs (i + 3)) (j := xs (i + 4)) (n := xs (i + 5)) h.1 h.2.2) plan0 rfl rfl rfl (Nat.le_of_ble_eq_true rfl) (by decide +kernel) (fun M1 a1 a2 a3 => ?_)
  refine j_aload_n V dL_law_361 rfl rfl ?_
  refine l_arg (j := 1) V hX hi (by decide) dL_law_362 dL_law_363 dL_law_364 dL_law_365 dL_law_366 ?_
  refine l_arg (j := 2) V hX hi (by decide) dL_law_367 dL_law_368 dL_law_369 dL_law_370 dL_law_371 ?_
  refine l_arg (j := 3) V hX hi (by decide) dL_law_372 dL_law_373 dL_law_374 dL_law_375 dL_law_376 ?_
  refine l_arg (j := 4) V hX hi (by decide) dL_law_377 dL_law_378 dL_law_379 dL_law_380 dL_law_381 ?_
  refine l_arg (j := 5) V hX hi (by decide) dL_law_382 dL_law_383 dL_law_384 dL_law_385 dL_law_386 ?_
  refine l_mx (n := 5) V hf dL_law_387 mi_X7_copy ml_L_29 (mx_copy (p := xs (i + 1)) (q := xs (i + 2)) (i := xs (i + 3)) (j := xs (i + 4)) (n := xs (i + 5)) (h.2.1.yy a3) h.2.2) plan80 rfl rfl rfl (Nat.le_of_ble_eq_true rfl) (by decide +kernel) (fun M2 b1 b2 => ?_)
  exact j_icmp_eq (tgt := 1814) V dL_law_390 rfl (fun _ => hn M2 _ ⟨a1.mm a2 b2, b1, a2⟩) (fun q => absurd rfl q)
theorem lc_3 (V : Bd E B cL_law fkL v.1 v.2.2.2.1 v.2.2.2.2.1 v.2.2.2.2.2.2.2.1 v.2.2.2.2.2.2.2.2) (hX : LX B b L xs v) (hi : i + 6 ≤ L) (hf : nc ≤ 600000 ∧ ns ≤ 7302250) (h : RX B M y) (hn : ∀ M2 y2, RX B M2 y2 → J B fkL v Q (Rep E B M2) nc ns 1814 (lvL b B i) []) : J B fkL v Q (Rep E B M) nc ns 395 (lvL b B i) [] := by
  refine j_aload_n V dL_law_395 rfl rfl ?_
  refine l_arg (j := 1) V hX hi (by decide) dL_law_396 dL_law_397 dL_law_398 dL_law_399 dL_law_400 ?_
  refine l_arg (j := 2) V hX hi (by decide) dL_law_401 dL_law_402 dL_law_403 dL_law_404 dL_law_405 ?_
  refine l_pure (n := 2) V hf dL_law_406 mi_X6_element ml_L_30 (cx_element (s := xs (i + 1)) (i := xs (i + 2)) h.1 h.2.2) plan0 rfl rfl rfl (Nat.le_of_ble_eq_true rfl) (by decide +kernel) ?_
  refine j_aload_n V dL_law_409 rfl rfl ?_
  refine l_arg (j := 1) V hX hi (by decide) dL_law_410 dL_law_411 dL_law_412 dL_law_413 dL_law_414 ?_
  refine l_arg (j := 2) V hX hi (by decide) dL_law_415 dL_law_416 dL_law_417 dL_law_418 dL_law_419 ?_
  refine l_pure (n := 2) V hf dL_law_420 mi_X7_element ml_L_34 (mx_element (s := xs (i + 1)) (i := xs (i + 2)) h.2.1 h.2.2) plan80 rfl rfl rfl (Nat.le_of_ble_eq_true rfl) (by decide +kernel) ?_
  refine j_lcmp (z := 0) V dL_law_423 lg_same ?_
  exact j_if_eq (tgt := 1814) V dL_law_424 rfl (fun _ => hn M _ h) (fun q => absurd rfl q)
theorem lc_4 (V : Bd E B cL_law fkL v.1 v.2.2.2.1 v.2.2.2.2.1 v.2.2.2.2.2.2.2.1 v.2.2.2.2.2.2.2.2) (hX : LX B b L xs v) (hi : i + 6 ≤ L) (hf : nc ≤ 600000 ∧ ns ≤ 7302250) (h : RX B M y) (hn : ∀ M2 y2, RX B M2 y2 → J B fkL v Q (Rep E B M2) nc ns 1814 (lvL b B i) []) : J B fkL v Q (Rep E B M) nc ns 429 (lvL b B i) [] := by
  refine j_aload_n V dL_law_429 rfl rfl ?_
  refine l_arg (j := 1) V hX hi (by decide) dL_law_430 dL_law_431 dL_law_432 dL_law_433 dL_law_434 ?_
  refine l_arg (j := 2) V hX hi (by decide) dL_law_435 dL_law_436 dL_law_437 dL_law_438 dL_law_439 ?_
  refine l_cx (n := 2) V hf dL_law_440 mi_X6_show ml_L_35 (cx_show (s := xs (i + 1)) (b := xs (i + 2)) h.1 h.2.2) plan0 rfl rfl rfl (Nat.le_of_ble_eq_true rfl) (by decide +kernel) (fun M1 a1 a2 a3 => ?_)
  refine j_aload_n V dL_law_443 rfl rfl ?_
  refine l_arg (j := 1) V hX hi (by decide) dL_law_444 dL_law_445 dL_law_446 dL_law_447 dL_law_448 ?_
  refine l_arg (j := 2) V hX hi (by decide) dL_law_449 dL_law_450 dL_law_451 dL_law_452 dL_law_453 ?_
  refine l_mx (n := 2) V hf dL_law_454 mi_X7_show ml_L_39 (mx_show (s := xs (i + 1)) (b := xs (i + 2)) (h.2.1.yy a3) h.2.2) plan80 rfl rfl rfl (Nat.le_of_ble_eq_true rfl) (by decide +kernel) (fun M2 b1 b2 => ?_)
  exact j_icmp_eq (tgt := 1814) V dL_law_457 rfl (fun _ => hn M2 _ ⟨a1.mm a2 b2, b1, a2⟩) (fun q => absurd rfl q)
theorem lc_5 (V : Bd E B cL_law fkL v.1 v.2.2.2.1 v.2.2.2.2.1 v.2.2.2.2.2.2.2.1 v.2.2.2.2.2.2.2.2) (hX : LX B b L xs v) (hi : i + 6 ≤ L) (hf : nc ≤ 600000 ∧ ns ≤ 7302250) (h : RX B M y) (hn : ∀ M2 y2, RX B M2 y2 → J B fkL v Q (Rep E B M2) nc ns 1814 (lvL b B i) []) : J B fkL v Q (Rep E B M) nc ns 462 (lvL b B i) [] := by
  refine j_aload_n V dL_law_462 rfl rfl ?_
  refine l_arg (j := 1) V hX hi (by decide) dL_law_463 dL_law_464 dL_law_465 dL_law_466 dL_law_467 ?_
  refine l_cx (n := 1) V hf dL_law_468 mi_X6_holds ml_L_40 (cx_holds (s := xs (i + 1)) h.1 h.2.2) plan0 rfl rfl rfl (Nat.le_of_ble_eq_true rfl) (by decide +kernel) (fun M1 a1 a2 a3 => ?_)
  refine j_aload_n V dL_law_471 rfl rfl ?_
  refine l_arg (j := 1) V hX hi (by decide) dL_law_472 dL_law_473 dL_law_474 dL_law_475 dL_law_476 ?_
  refine l_mx (n := 1) V hf dL_law_477 mi_X7_holds ml_L_44 (mx_holds (s := xs (i + 1)) (h.2.1.yy a3) h.2.2) plan80 rfl rfl rfl (Nat.le_of_ble_eq_true rfl) (by decide +kernel) (fun M2 b1 b2 => ?_)
  exact j_icmp_eq (tgt := 1814) V dL_law_480 rfl (fun _ => hn M2 _ ⟨a1.mm a2 b2, b1, a2⟩) (fun q => absurd rfl q)
theorem lc_6 (V : Bd E B cL_law fkL v.1 v.2.2.2.1 v.2.2.2.2.1 v.2.2.2.2.2.2.2.1 v.2.2.2.2.2.2.2.2) (hX : LX B b L xs v) (hi : i + 6 ≤ L) (hf : nc ≤ 600000 ∧ ns ≤ 7302250) (h : RX B M y) (hn : ∀ M2 y2, RX B M2 y2 → J B fkL v Q (Rep E B M2) nc ns 1814 (lvL b B i) []) : J B fkL v Q (Rep E B M) nc ns 485 (lvL b B i) [] := by
  refine j_aload_n V dL_law_485 rfl rfl ?_
  refine l_arg (j := 1) V hX hi (by decide) dL_law_486 dL_law_487 dL_law_488 dL_law_489 dL_law_490 ?_
  refine l_arg (j := 2) V hX hi (by decide) dL_law_491 dL_law_492 dL_law_493 dL_law_494 dL_law_495 ?_
  refine l_cx (n := 2) V hf dL_law_496 mi_X6_says ml_L_45 (cx_says (s := xs (i + 1)) (kd := xs (i + 2)) h.1 h.2.2) plan0 rfl rfl rfl (Nat.le_of_ble_eq_true rfl) (by decide +kernel) (fun M1 a1 a2 a3 => ?_)
  refine j_aload_n V dL_law_499 rfl rfl ?_
  refine l_arg (j := 1) V hX hi (by decide) dL_law_500 dL_law_501 dL_law_502 dL_law_503 dL_law_504 ?_
  refine l_arg (j := 2) V hX hi (by decide) dL_law_505 dL_law_506 dL_law_507 dL_law_508 dL_law_509 ?_
  refine l_mx (n := 2) V hf dL_law_510 mi_X7_says ml_L_48 (mx_says (s := xs (i + 1)) (kd := xs (i + 2)) (h.2.1.yy a3) h.2.2) plan80 rfl rfl rfl (Nat.le_of_ble_eq_true rfl) (by decide +kernel) (fun M2 b1 b2 => ?_)
  exact j_icmp_eq (tgt := 1814) V dL_law_513 rfl (fun _ => hn M2 _ ⟨a1.mm a2 b2, b1, a2⟩) (fun q => absurd rfl q)
theorem lc_7 (V : Bd E B cL_law fkL v.1 v.2.2.2.1 v.2.2.2.2.1 v.2.2.2.2.2.2.2.1 v.2.2.2.2.2.2.2.2) (hX : LX B b L xs v) (hi : i + 6 ≤ L) (hf : nc ≤ 600000 ∧ ns ≤ 7302250) (h : RX B M y) (hn : ∀ M2 y2, RX B M2 y2 → J B fkL v Q (Rep E B M2) nc ns 1814 (lvL b B i) []) : J B fkL v Q (Rep E B M) nc ns 518 (lvL b B i) [] := by
  refine j_aload_n V dL_law_518 rfl rfl ?_
  refine l_arg (j := 1) V hX hi (by decide) dL_law_519 dL_law_520 dL_law_521 dL_law_522 dL_law_523 ?_
  refine l_arg (j := 2) V hX hi (by decide) dL_law_524 dL_law_525 dL_law_526 dL_law_527 dL_law_528 ?_
  refine l_arg (j := 3) V hX hi (by decide) dL_law_529 dL_law_530 dL_law_531 dL_law_532 dL_law_533 ?_
  refine l_cx (n := 3) V hf dL_law_534 mi_X6_biscuit ml_L_49 (cx_biscuit (kd := xs (i + 1)) (n := xs (i + 2)) (a := xs (i + 3)) h.1 h.2.2) plan0 rfl rfl rfl (Nat.le_of_ble_eq_true rfl) (by decide +kernel) (fun M1 a1 a2 a3 => ?_)
  refine j_aload_n V dL_law_537 rfl rfl ?_
  refine l_arg (j := 1) V hX hi (by decide) dL_law_538 dL_law_539 dL_law_540 dL_law_541 dL_law_542 ?_
  refine l_arg (j := 2) V hX hi (by decide) dL_law_543 dL_law_544 dL_law_545 dL_law_546 dL_law_547 ?_
  refine l_arg (j := 3) V hX hi (by decide) dL_law_548 dL_law_549 dL_law_550 dL_law_551 dL_law_552 ?_
  refine l_mx (n := 3) V hf dL_law_553 mi_X7_biscuit ml_L_52 (mx_biscuit (kd := xs (i + 1)) (n := xs (i + 2)) (a := xs (i + 3)) (h.2.1.yy a3) h.2.2) plan80 rfl rfl rfl (Nat.le_of_ble_eq_true rfl) (by decide +kernel) (fun M2 b1 b2 => ?_)
  exact j_icmp_eq (tgt := 1814) V dL_law_556 rfl (fun _ => hn M2 _ ⟨a1.mm a2 b2, b1, a2⟩) (fun q => absurd rfl q)
theorem lc_8 (V : Bd E B cL_law fkL v.1 v.2.2.2.1 v.2.2.2.2.1 v.2.2.2.2.2.2.2.1 v.2.2.2.2.2.2.2.2) (hX : LX B b L xs v) (hi : i + 6 ≤ L) (hf : nc ≤ 600000 ∧ ns ≤ 7302250) (h : RX B M y) (hn : ∀ M2 y2, RX B M2 y2 → J B fkL v Q (Rep E B M2) nc ns 1814 (lvL b B i) []) : J B fkL v Q (Rep E B M) nc ns 561 (lvL b B i) [] := by
  refine j_aload_n V dL_law_561 rfl rfl ?_
  refine l_arg (j := 1) V hX hi (by decide) dL_law_562 dL_law_563 dL_law_564 dL_law_565 dL_law_566 ?_
  refine l_arg (j := 2) V hX hi (by decide) dL_law_567 dL_law_568 dL_law_569 dL_law_570 dL_law_571 ?_
  refine l_cx (n := 2) V hf dL_law_572 mi_X6_biscuitOf ml_L_53 (cx_biscuitOf (b := xs (i + 1)) (w := xs (i + 2)) h.1 h.2.2) plan0 rfl rfl rfl (Nat.le_of_ble_eq_true rfl) (by decide +kernel) (fun M1 a1 a2 a3 => ?_)
  refine j_aload_n V dL_law_575 rfl rfl ?_
  refine l_arg (j := 1) V hX hi (by decide) dL_law_576 dL_law_577 dL_law_578 dL_law_579 dL_law_580 ?_
  refine l_arg (j := 2) V hX hi (by decide) dL_law_581 dL_law_582 dL_law_583 dL_law_584 dL_law_585 ?_
  refine l_mx (n := 2) V hf dL_law_586 mi_X7_biscuitOf ml_L_56 (mx_biscuitOf (b := xs (i + 1)) (w := xs (i + 2)) (h.2.1.yy a3) h.2.2) plan80 rfl rfl rfl (Nat.le_of_ble_eq_true rfl) (by decide +kernel) (fun M2 b1 b2 => ?_)
  exact j_icmp_eq (tgt := 1814) V dL_law_589 rfl (fun _ => hn M2 _ ⟨a1.mm a2 b2, b1, a2⟩) (fun q => absurd rfl q)
theorem lc_9 (V : Bd E B cL_law fkL v.1 v.2.2.2.1 v.2.2.2.2.1 v.2.2.2.2.2.2.2.1 v.2.2.2.2.2.2.2.2) (hX : LX B b L xs v) (hi : i + 6 ≤ L) (hf : nc ≤ 600000 ∧ ns ≤ 7302250) (h : RX B M y) (hn : ∀ M2 y2, RX B M2 y2 → J B fkL v Q (Rep E B M2) nc ns 1814 (lvL b B i) []) : J B fkL v Q (Rep E B M) nc ns 594 (lvL b B i) [] := by
  refine j_aload_n V dL_law_594 rfl rfl ?_
  refine l_arg (j := 1) V hX hi (by decide) dL_law_595 dL_law_596 dL_law_597 dL_law_598 dL_law_599 ?_
  refine l_arg (j := 2) V hX hi (by decide) dL_law_600 dL_law_601 dL_law_602 dL_law_603 dL_law_604 ?_
  refine l_arg (j := 3) V hX hi (by decide) dL_law_605 dL_law_606 dL_law_607 dL_law_608 dL_law_609 ?_
  refine l_cx (n := 3) V hf dL_law_610 mi_X6_wet ml_L_57 (cx_wet (b := xs (i + 1)) (c := xs (i + 2)) (v := xs (i + 3)) h.1 h.2.2) plan0 rfl rfl rfl (Nat.le_of_ble_eq_true rfl) (by decide +kernel) (fun M1 a1 a2 a3 => ?_)
  refine j_aload_n V dL_law_613 rfl rfl ?_
  refine l_arg (j := 1) V hX hi (by decide) dL_law_614 dL_law_615 dL_law_616 dL_law_617 dL_law_618 ?_
  refine l_arg (j := 2) V hX hi (by decide) dL_law_619 dL_law_620 dL_law_621 dL_law_622 dL_law_623 ?_
  refine l_arg (j := 3) V hX hi (by decide) dL_law_624 dL_law_625 dL_law_626 dL_law_627 dL_law_628 ?_
  refine l_mx (n := 3) V hf dL_law_629 mi_X7_wet ml_L_60 (mx_wet (b := xs (i + 1)) (c := xs (i + 2)) (v := xs (i + 3)) (h.2.1.yy a3) h.2.2) plan80 rfl rfl rfl (Nat.le_of_ble_eq_true rfl) (by decide +kernel) (fun M2 b1 b2 => ?_)
  exact j_icmp_eq (tgt := 1814) V dL_law_632 rfl (fun _ => hn M2 _ ⟨a1.mm a2 b2, b1, a2⟩) (fun q => absurd rfl q)
theorem lc_10 (V : Bd E B cL_law fkL v.1 v.2.2.2.1 v.2.2.2.2.1 v.2.2.2.2.2.2.2.1 v.2.2.2.2.2.2.2.2) (hX : LX B b L xs v) (hi : i + 6 ≤ L) (hf : nc ≤ 600000 ∧ ns ≤ 7302250) (h : RX B M y) (hn : ∀ M2 y2, RX B M2 y2 → J B fkL v Q (Rep E B M2) nc ns 1814 (lvL b B i) []) : J B fkL v Q (Rep E B M) nc ns 637 (lvL b B i) [] := by
  refine j_aload_n V dL_law_637 rfl rfl ?_
  refine l_arg (j := 1) V hX hi (by decide) dL_law_638 dL_law_639 dL_law_640 dL_law_641 dL_law_642 ?_
  refine l_arg (j := 2) V hX hi (by decide) dL_law_643 dL_law_644 dL_law_645 dL_law_646 dL_law_647 ?_
  refine l_cx (n := 2) V hf dL_law_648 mi_X6_ask ml_L_61 (cx_ask (w := xs (i + 1)) (v := xs (i + 2)) h.1 h.2.2) plan0 rfl rfl rfl (Nat.le_of_ble_eq_true rfl) (by decide +kernel) (fun M1 a1 a2 a3 => ?_)
  refine j_aload_n V dL_law_651 rfl rfl ?_
  refine l_arg (j := 1) V hX hi (by decide) dL_law_652 dL_law_653 dL_law_654 dL_law_655 dL_law_656 ?_
  refine l_arg (j := 2) V hX hi (by decide) dL_law_657 dL_law_658 dL_law_659 dL_law_660 dL_law_661 ?_
  refine l_mx (n := 2) V hf dL_law_662 mi_X7_ask ml_L_64 (mx_ask (w := xs (i + 1)) (v := xs (i + 2)) (h.2.1.yy a3) h.2.2) plan80 rfl rfl rfl (Nat.le_of_ble_eq_true rfl) (by decide +kernel) (fun M2 b1 b2 => ?_)
  exact j_icmp_eq (tgt := 1814) V dL_law_665 rfl (fun _ => hn M2 _ ⟨a1.mm a2 b2, b1, a2⟩) (fun q => absurd rfl q)
theorem lc_11 (V : Bd E B cL_law fkL v.1 v.2.2.2.1 v.2.2.2.2.1 v.2.2.2.2.2.2.2.1 v.2.2.2.2.2.2.2.2) (hX : LX B b L xs v) (hi : i + 6 ≤ L) (hf : nc ≤ 600000 ∧ ns ≤ 7302250) (h : RX B M y) (hn : ∀ M2 y2, RX B M2 y2 → J B fkL v Q (Rep E B M2) nc ns 1814 (lvL b B i) []) : J B fkL v Q (Rep E B M) nc ns 670 (lvL b B i) [] := by
  refine j_aload_n V dL_law_670 rfl rfl ?_
  refine l_arg (j := 1) V hX hi (by decide) dL_law_671 dL_law_672 dL_law_673 dL_law_674 dL_law_675 ?_
  refine l_arg (j := 2) V hX hi (by decide) dL_law_676 dL_law_677 dL_law_678 dL_law_679 dL_law_680 ?_
  refine l_cx (n := 2) V hf dL_law_681 mi_X6_worthOf ml_L_65 (cx_worthOf (w := xs (i + 1)) (v := xs (i + 2)) h.1 h.2.2) plan0 rfl rfl rfl (Nat.le_of_ble_eq_true rfl) (by decide +kernel) (fun M1 a1 a2 a3 => ?_)
  refine j_aload_n V dL_law_684 rfl rfl ?_
  refine l_arg (j := 1) V hX hi (by decide) dL_law_685 dL_law_686 dL_law_687 dL_law_688 dL_law_689 ?_
  refine l_arg (j := 2) V hX hi (by decide) dL_law_690 dL_law_691 dL_law_692 dL_law_693 dL_law_694 ?_
  refine l_mx (n := 2) V hf dL_law_695 mi_X7_worthOf ml_L_68 (mx_worthOf (w := xs (i + 1)) (v := xs (i + 2)) (h.2.1.yy a3) h.2.2) plan80 rfl rfl rfl (Nat.le_of_ble_eq_true rfl) (by decide +kernel) (fun M2 b1 b2 => ?_)
  exact j_icmp_eq (tgt := 1814) V dL_law_698 rfl (fun _ => hn M2 _ ⟨a1.mm a2 b2, b1, a2⟩) (fun q => absurd rfl q)
theorem lc_12 (V : Bd E B cL_law fkL v.1 v.2.2.2.1 v.2.2.2.2.1 v.2.2.2.2.2.2.2.1 v.2.2.2.2.2.2.2.2) (hX : LX B b L xs v) (hi : i + 6 ≤ L) (hf : nc ≤ 600000 ∧ ns ≤ 7302250) (h : RX B M y) (hn : ∀ M2 y2, RX B M2 y2 → J B fkL v Q (Rep E B M2) nc ns 1814 (lvL b B i) []) : J B fkL v Q (Rep E B M) nc ns 703 (lvL b B i) [] := by
  refine j_aload_n V dL_law_703 rfl rfl ?_
  refine l_arg (j := 1) V hX hi (by decide) dL_law_704 dL_law_705 dL_law_706 dL_law_707 dL_law_708 ?_
  refine l_cx (n := 1) V hf dL_law_709 mi_X6_table ml_L_69 (cx_table (s := xs (i + 1)) h.1 h.2.2) plan0 rfl rfl rfl (Nat.le_of_ble_eq_true rfl) (by decide +kernel) (fun M1 a1 a2 a3 => ?_)
  refine j_aload_n V dL_law_712 rfl rfl ?_
  refine l_arg (j := 1) V hX hi (by decide) dL_law_713 dL_law_714 dL_law_715 dL_law_716 dL_law_717 ?_
  refine l_mx (n := 1) V hf dL_law_718 mi_X7_table ml_L_72 (mx_table (s := xs (i + 1)) (h.2.1.yy a3) h.2.2) plan80 rfl rfl rfl (Nat.le_of_ble_eq_true rfl) (by decide +kernel) (fun M2 b1 b2 => ?_)
  exact j_icmp_eq (tgt := 1814) V dL_law_721 rfl (fun _ => hn M2 _ ⟨a1.mm a2 b2, b1, a2⟩) (fun q => absurd rfl q)
theorem lc_13 (V : Bd E B cL_law fkL v.1 v.2.2.2.1 v.2.2.2.2.1 v.2.2.2.2.2.2.2.1 v.2.2.2.2.2.2.2.2) (hX : LX B b L xs v) (hi : i + 6 ≤ L) (hf : nc ≤ 600000 ∧ ns ≤ 7302250) (h : RX B M y) (hn : ∀ M2 y2, RX B M2 y2 → J B fkL v Q (Rep E B M2) nc ns 1814 (lvL b B i) []) : J B fkL v Q (Rep E B M) nc ns 726 (lvL b B i) [] := by
  refine j_aload_n V dL_law_726 rfl rfl ?_
  refine l_cx (n := 0) V hf dL_law_727 mi_X6_fault ml_L_73 (cx_fault  h.1 h.2.2) plan0 rfl rfl rfl (Nat.le_of_ble_eq_true rfl) (by decide +kernel) (fun M1 a1 a2 a3 => ?_)
  refine j_aload_n V dL_law_730 rfl rfl ?_
  refine l_mx (n := 0) V hf dL_law_731 mi_X7_fault ml_L_77 (mx_fault  (h.2.1.yy a3)) plan80 rfl rfl rfl (Nat.le_of_ble_eq_true rfl) (by decide +kernel) (fun M2 b1 b2 => ?_)
  exact j_icmp_eq (tgt := 1814) V dL_law_734 rfl (fun _ => hn M2 _ ⟨a1.mm a2 b2, b1, a2⟩) (fun q => absurd rfl q)
theorem lc_14 (V : Bd E B cL_law fkL v.1 v.2.2.2.1 v.2.2.2.2.1 v.2.2.2.2.2.2.2.1 v.2.2.2.2.2.2.2.2) (hX : LX B b L xs v) (hi : i + 6 ≤ L) (hf : nc ≤ 600000 ∧ ns ≤ 7302250) (h : RX B M y) (hn : ∀ M2 y2, RX B M2 y2 → J B fkL v Q (Rep E B M2) nc ns 1814 (lvL b B i) []) : J B fkL v Q (Rep E B M) nc ns 739 (lvL b B i) [] := by
  refine j_aload_n V dL_law_739 rfl rfl ?_
  refine l_arg (j := 1) V hX hi (by decide) dL_law_740 dL_law_741 dL_law_742 dL_law_743 dL_law_744 ?_
  refine l_arg (j := 2) V hX hi (by decide) dL_law_745 dL_law_746 dL_law_747 dL_law_748 dL_law_749 ?_
  refine l_cx (n := 2) V hf dL_law_750 mi_X6_soak ml_L_78 (cx_soak (b := xs (i + 1)) (c := xs (i + 2)) h.1 h.2.2) plan0 rfl rfl rfl (Nat.le_of_ble_eq_true rfl) (by decide +kernel) (fun M1 a1 a2 a3 => ?_)
  refine j_aload_n V dL_law_753 rfl rfl ?_
  refine l_arg (j := 1) V hX hi (by decide) dL_law_754 dL_law_755 dL_law_756 dL_law_757 dL_law_758 ?_
  refine l_arg (j := 2) V hX hi (by decide) dL_law_759 dL_law_760 dL_law_761 dL_law_762 dL_law_763 ?_
  refine l_mx (n := 2) V hf dL_law_764 mi_X7_soak ml_L_81 (mx_soak (b := xs (i + 1)) (c := xs (i + 2)) (h.2.1.yy a3) h.2.2) plan80 rfl rfl rfl (Nat.le_of_ble_eq_true rfl) (by decide +kernel) (fun M2 b1 b2 => ?_)
  exact j_icmp_eq (tgt := 1814) V dL_law_767 rfl (fun _ => hn M2 _ ⟨a1.mm a2 b2, b1, a2⟩) (fun q => absurd rfl q)
theorem lc_15 (V : Bd E B cL_law fkL v.1 v.2.2.2.1 v.2.2.2.2.1 v.2.2.2.2.2.2.2.1 v.2.2.2.2.2.2.2.2) (hX : LX B b L xs v) (hi : i + 6 ≤ L) (hf : nc ≤ 600000 ∧ ns ≤ 7302250) (h : RX B M y) (hn : ∀ M2 y2, RX B M2 y2 → J B fkL v Q (Rep E B M2) nc ns 1814 (lvL b B i) []) : J B fkL v Q (Rep E B M) nc ns 772 (lvL b B i) [] := by
  refine j_aload_n V dL_law_772 rfl rfl ?_
  refine l_arg (j := 1) V hX hi (by decide) dL_law_773 dL_law_774 dL_law_775 dL_law_776 dL_law_777 ?_
  refine l_arg (j := 2) V hX hi (by decide) dL_law_778 dL_law_779 dL_law_780 dL_law_781 dL_law_782 ?_
  refine l_arg (j := 3) V hX hi (by decide) dL_law_783 dL_law_784 dL_law_785 dL_law_786 dL_law_787 ?_
  refine l_cx (n := 3) V hf dL_law_788 mi_X6_cellOf ml_L_82 (cx_cellOf (b := xs (i + 1)) (c := xs (i + 2)) (w := xs (i + 3)) h.1 h.2.2) plan0 rfl rfl rfl (Nat.le_of_ble_eq_true rfl) (by decide +kernel) (fun M1 a1 a2 a3 => ?_)
  refine j_aload_n V dL_law_791 rfl rfl ?_
  refine l_arg (j := 1) V hX hi (by decide) dL_law_792 dL_law_793 dL_law_794 dL_law_795 dL_law_796 ?_
  refine l_arg (j := 2) V hX hi (by decide) dL_law_797 dL_law_798 dL_law_799 dL_law_800 dL_law_801 ?_
  refine l_arg (j := 3) V hX hi (by decide) dL_law_802 dL_law_803 dL_law_804 dL_law_805 dL_law_806 ?_
  refine l_mx (n := 3) V hf dL_law_807 mi_X7_cellOf ml_L_85 (mx_cellOf (b := xs (i + 1)) (c := xs (i + 2)) (w := xs (i + 3)) (h.2.1.yy a3) h.2.2) plan80 rfl rfl rfl (Nat.le_of_ble_eq_true rfl) (by decide +kernel) (fun M2 b1 b2 => ?_)
  exact j_icmp_eq (tgt := 1814) V dL_law_810 rfl (fun _ => hn M2 _ ⟨a1.mm a2 b2, b1, a2⟩) (fun q => absurd rfl q)
theorem lc_16 (V : Bd E B cL_law fkL v.1 v.2.2.2.1 v.2.2.2.2.1 v.2.2.2.2.2.2.2.1 v.2.2.2.2.2.2.2.2) (hX : LX B b L xs v) (hi : i + 6 ≤ L) (hf : nc ≤ 600000 ∧ ns ≤ 7302250) (h : RX B M y) (hn : ∀ M2 y2, RX B M2 y2 → J B fkL v Q (Rep E B M2) nc ns 1814 (lvL b B i) []) : J B fkL v Q (Rep E B M) nc ns 815 (lvL b B i) [] := by
  refine j_aload_n V dL_law_815 rfl rfl ?_
  refine l_arg (j := 1) V hX hi (by decide) dL_law_816 dL_law_817 dL_law_818 dL_law_819 dL_law_820 ?_
  refine l_cx (n := 1) V hf dL_law_821 mi_X6_breaks ml_L_86 (cx_breaks (b := xs (i + 1)) h.1 h.2.2) plan0 rfl rfl rfl (Nat.le_of_ble_eq_true rfl) (by decide +kernel) (fun M1 a1 a2 a3 => ?_)
  refine j_aload_n V dL_law_824 rfl rfl ?_
  refine l_arg (j := 1) V hX hi (by decide) dL_law_825 dL_law_826 dL_law_827 dL_law_828 dL_law_829 ?_
  refine l_mx (n := 1) V hf dL_law_830 mi_X7_breaks ml_L_89 (mx_breaks (b := xs (i + 1)) (h.2.1.yy a3) h.2.2) plan80 rfl rfl rfl (Nat.le_of_ble_eq_true rfl) (by decide +kernel) (fun M2 b1 b2 => ?_)
  exact j_icmp_eq (tgt := 1814) V dL_law_833 rfl (fun _ => hn M2 _ ⟨a1.mm a2 b2, b1, a2⟩) (fun q => absurd rfl q)
theorem lc_17 (V : Bd E B cL_law fkL v.1 v.2.2.2.1 v.2.2.2.2.1 v.2.2.2.2.2.2.2.1 v.2.2.2.2.2.2.2.2) (hX : LX B b L xs v) (hi : i + 6 ≤ L) (hf : nc ≤ 600000 ∧ ns ≤ 7302250) (h : RX B M y) (hn : ∀ M2 y2, RX B M2 y2 → J B fkL v Q (Rep E B M2) nc ns 1814 (lvL b B i) []) : J B fkL v Q (Rep E B M) nc ns 838 (lvL b B i) [] := by
  refine j_aload_n V dL_law_838 rfl rfl ?_
  refine l_arg (j := 1) V hX hi (by decide) dL_law_839 dL_law_840 dL_law_841 dL_law_842 dL_law_843 ?_
  refine l_arg (j := 2) V hX hi (by decide) dL_law_844 dL_law_845 dL_law_846 dL_law_847 dL_law_848 ?_
  refine l_arg (j := 3) V hX hi (by decide) dL_law_849 dL_law_850 dL_law_851 dL_law_852 dL_law_853 ?_
  refine l_arg (j := 4) V hX hi (by decide) dL_law_854 dL_law_855 dL_law_856 dL_law_857 dL_law_858 ?_
  refine l_cx (n := 4) V hf dL_law_859 mi_X6_left ml_L_90 (cx_left (b := xs (i + 1)) (d := xs (i + 2)) (s := xs (i + 3)) (c := xs (i + 4)) h.1 h.2.2) plan0 rfl rfl rfl (Nat.le_of_ble_eq_true rfl) (by decide +kernel) (fun M1 a1 a2 a3 => ?_)
  refine j_aload_n V dL_law_862 rfl rfl ?_
  refine l_arg (j := 1) V hX hi (by decide) dL_law_863 dL_law_864 dL_law_865 dL_law_866 dL_law_867 ?_
  refine l_arg (j := 2) V hX hi (by decide) dL_law_868 dL_law_869 dL_law_870 dL_law_871 dL_law_872 ?_
  refine l_arg (j := 3) V hX hi (by decide) dL_law_873 dL_law_874 dL_law_875 dL_law_876 dL_law_877 ?_
  refine l_arg (j := 4) V hX hi (by decide) dL_law_878 dL_law_879 dL_law_880 dL_law_881 dL_law_882 ?_
  refine l_mx (n := 4) V hf dL_law_883 mi_X7_left ml_L_94 (mx_left (b := xs (i + 1)) (d := xs (i + 2)) (s := xs (i + 3)) (c := xs (i + 4)) (h.2.1.yy a3) h.2.2) plan80 rfl rfl rfl (Nat.le_of_ble_eq_true rfl) (by decide +kernel) (fun M2 b1 b2 => ?_)
  exact j_icmp_eq (tgt := 1814) V dL_law_886 rfl (fun _ => hn M2 _ ⟨a1.mm a2 b2, b1, a2⟩) (fun q => absurd rfl q)
theorem lc_18 (V : Bd E B cL_law fkL v.1 v.2.2.2.1 v.2.2.2.2.1 v.2.2.2.2.2.2.2.1 v.2.2.2.2.2.2.2.2) (hX : LX B b L xs v) (hi : i + 6 ≤ L) (hf : nc ≤ 600000 ∧ ns ≤ 7302250) (h : RX B M y) (hn : ∀ M2 y2, RX B M2 y2 → J B fkL v Q (Rep E B M2) nc ns 1814 (lvL b B i) []) : J B fkL v Q (Rep E B M) nc ns 891 (lvL b B i) [] := by
  refine j_aload_n V dL_law_891 rfl rfl ?_
  refine l_arg (j := 1) V hX hi (by decide) dL_law_892 dL_law_893 dL_law_894 dL_law_895 dL_law_896 ?_
  refine l_arg (j := 2) V hX hi (by decide) dL_law_897 dL_law_898 dL_law_899 dL_law_900 dL_law_901 ?_
  refine l_arg (j := 3) V hX hi (by decide) dL_law_902 dL_law_903 dL_law_904 dL_law_905 dL_law_906 ?_
  refine l_arg (j := 4) V hX hi (by decide) dL_law_907 dL_law_908 dL_law_909 dL_law_910 dL_law_911 ?_
  refine l_arg (j := 5) V hX hi (by decide) dL_law_912 dL_law_913 dL_law_914 dL_law_915 dL_law_916 ?_
  refine l_cx (n := 5) V hf dL_law_917 mi_X6_wetness ml_L_95 (cx_wetness (b := xs (i + 1)) (d := xs (i + 2)) (s := xs (i + 3)) (c := xs (i + 4)) (l := xs (i + 5)) h.1 h.2.2) plan0 rfl rfl rfl (Nat.le_of_ble_eq_true rfl) (by decide +kernel) (fun M1 a1 a2 a3 => ?_)
  refine j_aload_n V dL_law_920 rfl rfl ?_
  refine l_arg (j := 1) V hX hi (by decide) dL_law_921 dL_law_922 dL_law_923 dL_law_924 dL_law_925 ?_
  refine l_arg (j := 2) V hX hi (by decide) dL_law_926 dL_law_927 dL_law_928 dL_law_929 dL_law_930 ?_
  refine l_arg (j := 3) V hX hi (by decide) dL_law_931 dL_law_932 dL_law_933 dL_law_934 dL_law_935 ?_
  refine l_arg (j := 4) V hX hi (by decide) dL_law_936 dL_law_937 dL_law_938 dL_law_939 dL_law_940 ?_
  refine l_arg (j := 5) V hX hi (by decide) dL_law_941 dL_law_942 dL_law_943 dL_law_944 dL_law_945 ?_
  refine l_mx (n := 5) V hf dL_law_946 mi_X7_wetness ml_L_98 (mx_wetness (b := xs (i + 1)) (d := xs (i + 2)) (s := xs (i + 3)) (c := xs (i + 4)) (l := xs (i + 5)) (h.2.1.yy a3) h.2.2) plan80 rfl rfl rfl (Nat.le_of_ble_eq_true rfl) (by decide +kernel) (fun M2 b1 b2 => ?_)
  exact j_icmp_eq (tgt := 1814) V dL_law_949 rfl (fun _ => hn M2 _ ⟨a1.mm a2 b2, b1, a2⟩) (fun q => absurd rfl q)
theorem lc_19 (V : Bd E B cL_law fkL v.1 v.2.2.2.1 v.2.2.2.2.1 v.2.2.2.2.2.2.2.1 v.2.2.2.2.2.2.2.2) (hX : LX B b L xs v) (hi : i + 6 ≤ L) (hf : nc ≤ 600000 ∧ ns ≤ 7302250) (h : RX B M y) (hn : ∀ M2 y2, RX B M2 y2 → J B fkL v Q (Rep E B M2) nc ns 1814 (lvL b B i) []) : J B fkL v Q (Rep E B M) nc ns 954 (lvL b B i) [] := by
  refine j_aload_n V dL_law_954 rfl rfl ?_
  refine l_arg (j := 1) V hX hi (by decide) dL_law_955 dL_law_956 dL_law_957 dL_law_958 dL_law_959 ?_
  refine l_arg (j := 2) V hX hi (by decide) dL_law_960 dL_law_961 dL_law_962 dL_law_963 dL_law_964 ?_
  refine l_arg (j := 3) V hX hi (by decide) dL_law_965 dL_law_966 dL_law_967 dL_law_968 dL_law_969 ?_
  refine l_arg (j := 4) V hX hi (by decide) dL_law_970 dL_law_971 dL_law_972 dL_law_973 dL_law_974 ?_
  refine l_cx (n := 4) V hf dL_law_975 mi_X6_when ml_L_99 (cx_when (b := xs (i + 1)) (d := xs (i + 2)) (s := xs (i + 3)) (c := xs (i + 4)) h.1 h.2.2) plan0 rfl rfl rfl (Nat.le_of_ble_eq_true rfl) (by decide +kernel) (fun M1 a1 a2 a3 => ?_)
  refine j_aload_n V dL_law_978 rfl rfl ?_
  refine l_arg (j := 1) V hX hi (by decide) dL_law_979 dL_law_980 dL_law_981 dL_law_982 dL_law_983 ?_
  refine l_arg (j := 2) V hX hi (by decide) dL_law_984 dL_law_985 dL_law_986 dL_law_987 dL_law_988 ?_
  refine l_arg (j := 3) V hX hi (by decide) dL_law_989 dL_law_990 dL_law_991 dL_law_992 dL_law_993 ?_
  refine l_arg (j := 4) V hX hi (by decide) dL_law_994 dL_law_995 dL_law_996 dL_law_997 dL_law_998 ?_
  refine l_mx (n := 4) V hf dL_law_999 mi_X7_when ml_L_102 (mx_when (b := xs (i + 1)) (d := xs (i + 2)) (s := xs (i + 3)) (c := xs (i + 4)) (h.2.1.yy a3) h.2.2) plan80 rfl rfl rfl (Nat.le_of_ble_eq_true rfl) (by decide +kernel) (fun M2 b1 b2 => ?_)
  exact j_icmp_eq (tgt := 1814) V dL_law_1002 rfl (fun _ => hn M2 _ ⟨a1.mm a2 b2, b1, a2⟩) (fun q => absurd rfl q)
theorem lc_20 (V : Bd E B cL_law fkL v.1 v.2.2.2.1 v.2.2.2.2.1 v.2.2.2.2.2.2.2.1 v.2.2.2.2.2.2.2.2) (hX : LX B b L xs v) (hi : i + 6 ≤ L) (hf : nc ≤ 600000 ∧ ns ≤ 7302250) (h : RX B M y) (hn : ∀ M2 y2, RX B M2 y2 → J B fkL v Q (Rep E B M2) nc ns 1814 (lvL b B i) []) : J B fkL v Q (Rep E B M) nc ns 1007 (lvL b B i) [] := by
  refine j_aload_n V dL_law_1007 rfl rfl ?_
  refine l_arg (j := 1) V hX hi (by decide) dL_law_1008 dL_law_1009 dL_law_1010 dL_law_1011 dL_law_1012 ?_
  refine l_arg (j := 2) V hX hi (by decide) dL_law_1013 dL_law_1014 dL_law_1015 dL_law_1016 dL_law_1017 ?_
  refine l_arg (j := 3) V hX hi (by decide) dL_law_1018 dL_law_1019 dL_law_1020 dL_law_1021 dL_law_1022 ?_
  refine l_cx (n := 3) V hf dL_law_1023 mi_X6_longest ml_L_103 (cx_longest (b := xs (i + 1)) (d := xs (i + 2)) (c := xs (i + 3)) h.1 h.2.2) plan0 rfl rfl rfl (Nat.le_of_ble_eq_true rfl) (by decide +kernel) (fun M1 a1 a2 a3 => ?_)
  refine j_aload_n V dL_law_1026 rfl rfl ?_
  refine l_arg (j := 1) V hX hi (by decide) dL_law_1027 dL_law_1028 dL_law_1029 dL_law_1030 dL_law_1031 ?_
  refine l_arg (j := 2) V hX hi (by decide) dL_law_1032 dL_law_1033 dL_law_1034 dL_law_1035 dL_law_1036 ?_
  refine l_arg (j := 3) V hX hi (by decide) dL_law_1037 dL_law_1038 dL_law_1039 dL_law_1040 dL_law_1041 ?_
  refine l_mx (n := 3) V hf dL_law_1042 mi_X7_longest ml_L_106 (mx_longest (b := xs (i + 1)) (d := xs (i + 2)) (c := xs (i + 3)) (h.2.1.yy a3) h.2.2) plan80 rfl rfl rfl (Nat.le_of_ble_eq_true rfl) (by decide +kernel) (fun M2 b1 b2 => ?_)
  exact j_icmp_eq (tgt := 1814) V dL_law_1045 rfl (fun _ => hn M2 _ ⟨a1.mm a2 b2, b1, a2⟩) (fun q => absurd rfl q)
theorem lc_21 (V : Bd E B cL_law fkL v.1 v.2.2.2.1 v.2.2.2.2.1 v.2.2.2.2.2.2.2.1 v.2.2.2.2.2.2.2.2) (hX : LX B b L xs v) (hi : i + 6 ≤ L) (hf : nc ≤ 600000 ∧ ns ≤ 7302250) (h : RX B M y) (hn : ∀ M2 y2, RX B M2 y2 → J B fkL v Q (Rep E B M2) nc ns 1814 (lvL b B i) []) : J B fkL v Q (Rep E B M) nc ns 1050 (lvL b B i) [] := by
  refine j_aload_n V dL_law_1050 rfl rfl ?_
  refine l_arg (j := 1) V hX hi (by decide) dL_law_1051 dL_law_1052 dL_law_1053 dL_law_1054 dL_law_1055 ?_
  refine l_arg (j := 2) V hX hi (by decide) dL_law_1056 dL_law_1057 dL_law_1058 dL_law_1059 dL_law_1060 ?_
  refine l_arg (j := 3) V hX hi (by decide) dL_law_1061 dL_law_1062 dL_law_1063 dL_law_1064 dL_law_1065 ?_
  refine l_cx (n := 3) V hf dL_law_1066 mi_X6_far ml_L_107 (cx_far (b := xs (i + 1)) (d := xs (i + 2)) (s := xs (i + 3)) h.1 h.2.2) plan0 rfl rfl rfl (Nat.le_of_ble_eq_true rfl) (by decide +kernel) (fun M1 a1 a2 a3 => ?_)
  refine j_aload_n V dL_law_1069 rfl rfl ?_
  refine l_arg (j := 1) V hX hi (by decide) dL_law_1070 dL_law_1071 dL_law_1072 dL_law_1073 dL_law_1074 ?_
  refine l_arg (j := 2) V hX hi (by decide) dL_law_1075 dL_law_1076 dL_law_1077 dL_law_1078 dL_law_1079 ?_
  refine l_arg (j := 3) V hX hi (by decide) dL_law_1080 dL_law_1081 dL_law_1082 dL_law_1083 dL_law_1084 ?_
  refine l_mx (n := 3) V hf dL_law_1085 mi_X7_far ml_L_110 (mx_far (b := xs (i + 1)) (d := xs (i + 2)) (s := xs (i + 3)) (h.2.1.yy a3) h.2.2) plan80 rfl rfl rfl (Nat.le_of_ble_eq_true rfl) (by decide +kernel) (fun M2 b1 b2 => ?_)
  exact j_icmp_eq (tgt := 1814) V dL_law_1088 rfl (fun _ => hn M2 _ ⟨a1.mm a2 b2, b1, a2⟩) (fun q => absurd rfl q)
theorem lc_22 (V : Bd E B cL_law fkL v.1 v.2.2.2.1 v.2.2.2.2.1 v.2.2.2.2.2.2.2.1 v.2.2.2.2.2.2.2.2) (hX : LX B b L xs v) (hi : i + 6 ≤ L) (hf : nc ≤ 600000 ∧ ns ≤ 7302250) (h : RX B M y) (hn : ∀ M2 y2, RX B M2 y2 → J B fkL v Q (Rep E B M2) nc ns 1814 (lvL b B i) []) : J B fkL v Q (Rep E B M) nc ns 1093 (lvL b B i) [] := by
  refine j_aload_n V dL_law_1093 rfl rfl ?_
  refine l_arg (j := 1) V hX hi (by decide) dL_law_1094 dL_law_1095 dL_law_1096 dL_law_1097 dL_law_1098 ?_
  refine l_arg (j := 2) V hX hi (by decide) dL_law_1099 dL_law_1100 dL_law_1101 dL_law_1102 dL_law_1103 ?_
  refine l_arg (j := 3) V hX hi (by decide) dL_law_1104 dL_law_1105 dL_law_1106 dL_law_1107 dL_law_1108 ?_
  refine l_arg (j := 4) V hX hi (by decide) dL_law_1109 dL_law_1110 dL_law_1111 dL_law_1112 dL_law_1113 ?_
  refine l_cx (n := 4) V hf dL_law_1114 mi_X6_worth ml_L_111 (cx_worth (b := xs (i + 1)) (d := xs (i + 2)) (s := xs (i + 3)) (c := xs (i + 4)) h.1 h.2.2) plan0 rfl rfl rfl (Nat.le_of_ble_eq_true rfl) (by decide +kernel) (fun M1 a1 a2 a3 => ?_)
  refine j_aload_n V dL_law_1117 rfl rfl ?_
  refine l_arg (j := 1) V hX hi (by decide) dL_law_1118 dL_law_1119 dL_law_1120 dL_law_1121 dL_law_1122 ?_
  refine l_arg (j := 2) V hX hi (by decide) dL_law_1123 dL_law_1124 dL_law_1125 dL_law_1126 dL_law_1127 ?_
  refine l_arg (j := 3) V hX hi (by decide) dL_law_1128 dL_law_1129 dL_law_1130 dL_law_1131 dL_law_1132 ?_
  refine l_arg (j := 4) V hX hi (by decide) dL_law_1133 dL_law_1134 dL_law_1135 dL_law_1136 dL_law_1137 ?_
  refine l_mx (n := 4) V hf dL_law_1138 mi_X7_worth ml_L_114 (mx_worth (b := xs (i + 1)) (d := xs (i + 2)) (s := xs (i + 3)) (c := xs (i + 4)) (h.2.1.yy a3) h.2.2) plan80 rfl rfl rfl (Nat.le_of_ble_eq_true rfl) (by decide +kernel) (fun M2 b1 b2 => ?_)
  exact j_icmp_eq (tgt := 1814) V dL_law_1141 rfl (fun _ => hn M2 _ ⟨a1.mm a2 b2, b1, a2⟩) (fun q => absurd rfl q)
theorem lc_23 (V : Bd E B cL_law fkL v.1 v.2.2.2.1 v.2.2.2.2.1 v.2.2.2.2.2.2.2.1 v.2.2.2.2.2.2.2.2) (hX : LX B b L xs v) (hi : i + 6 ≤ L) (hf : nc ≤ 600000 ∧ ns ≤ 7302250) (h : RX B M y) (hn : ∀ M2 y2, RX B M2 y2 → J B fkL v Q (Rep E B M2) nc ns 1814 (lvL b B i) []) : J B fkL v Q (Rep E B M) nc ns 1146 (lvL b B i) [] := by
  refine j_aload_n V dL_law_1146 rfl rfl ?_
  refine l_arg (j := 1) V hX hi (by decide) dL_law_1147 dL_law_1148 dL_law_1149 dL_law_1150 dL_law_1151 ?_
  refine l_arg (j := 2) V hX hi (by decide) dL_law_1152 dL_law_1153 dL_law_1154 dL_law_1155 dL_law_1156 ?_
  refine l_arg (j := 3) V hX hi (by decide) dL_law_1157 dL_law_1158 dL_law_1159 dL_law_1160 dL_law_1161 ?_
  refine l_cx (n := 3) V hf dL_law_1162 mi_X6_best ml_L_115 (cx_best (b := xs (i + 1)) (c := xs (i + 2)) (w := xs (i + 3)) h.1 h.2.2) plan0 rfl rfl rfl (Nat.le_of_ble_eq_true rfl) (by decide +kernel) (fun M1 a1 a2 a3 => ?_)
  refine j_aload_n V dL_law_1165 rfl rfl ?_
  refine l_arg (j := 1) V hX hi (by decide) dL_law_1166 dL_law_1167 dL_law_1168 dL_law_1169 dL_law_1170 ?_
  refine l_arg (j := 2) V hX hi (by decide) dL_law_1171 dL_law_1172 dL_law_1173 dL_law_1174 dL_law_1175 ?_
  refine l_arg (j := 3) V hX hi (by decide) dL_law_1176 dL_law_1177 dL_law_1178 dL_law_1179 dL_law_1180 ?_
  refine l_mx (n := 3) V hf dL_law_1181 mi_X7_best ml_L_118 (mx_best (b := xs (i + 1)) (c := xs (i + 2)) (w := xs (i + 3)) (h.2.1.yy a3) h.2.2) plan80 rfl rfl rfl (Nat.le_of_ble_eq_true rfl) (by decide +kernel) (fun M2 b1 b2 => ?_)
  exact j_icmp_eq (tgt := 1814) V dL_law_1184 rfl (fun _ => hn M2 _ ⟨a1.mm a2 b2, b1, a2⟩) (fun q => absurd rfl q)
theorem lc_24 (V : Bd E B cL_law fkL v.1 v.2.2.2.1 v.2.2.2.2.1 v.2.2.2.2.2.2.2.1 v.2.2.2.2.2.2.2.2) (hX : LX B b L xs v) (hi : i + 6 ≤ L) (hf : nc ≤ 600000 ∧ ns ≤ 7302250) (h : RX B M y) (hn : ∀ M2 y2, RX B M2 y2 → J B fkL v Q (Rep E B M2) nc ns 1814 (lvL b B i) []) : J B fkL v Q (Rep E B M) nc ns 1189 (lvL b B i) [] := by
  refine j_aload_n V dL_law_1189 rfl rfl ?_
  refine l_arg (j := 1) V hX hi (by decide) dL_law_1190 dL_law_1191 dL_law_1192 dL_law_1193 dL_law_1194 ?_
  refine l_arg (j := 2) V hX hi (by decide) dL_law_1195 dL_law_1196 dL_law_1197 dL_law_1198 dL_law_1199 ?_
  refine l_arg (j := 3) V hX hi (by decide) dL_law_1200 dL_law_1201 dL_law_1202 dL_law_1203 dL_law_1204 ?_
  refine l_arg (j := 4) V hX hi (by decide) dL_law_1205 dL_law_1206 dL_law_1207 dL_law_1208 dL_law_1209 ?_
  refine l_arg (j := 5) V hX hi (by decide) dL_law_1210 dL_law_1211 dL_law_1212 dL_law_1213 dL_law_1214 ?_
  refine l_cx (n := 5) V hf dL_law_1215 mi_X6_twice ml_L_119 (cx_twice (b := xs (i + 1)) (d := xs (i + 2)) (s := xs (i + 3)) (d2 := xs (i + 4)) (s2 := xs (i + 5)) h.1 h.2.2) plan0 rfl rfl rfl (Nat.le_of_ble_eq_true rfl) (by decide +kernel) (fun M1 a1 a2 a3 => ?_)
  refine j_aload_n V dL_law_1218 rfl rfl ?_
  refine l_arg (j := 1) V hX hi (by decide) dL_law_1219 dL_law_1220 dL_law_1221 dL_law_1222 dL_law_1223 ?_
  refine l_arg (j := 2) V hX hi (by decide) dL_law_1224 dL_law_1225 dL_law_1226 dL_law_1227 dL_law_1228 ?_
  refine l_arg (j := 3) V hX hi (by decide) dL_law_1229 dL_law_1230 dL_law_1231 dL_law_1232 dL_law_1233 ?_
  refine l_arg (j := 4) V hX hi (by decide) dL_law_1234 dL_law_1235 dL_law_1236 dL_law_1237 dL_law_1238 ?_
  refine l_arg (j := 5) V hX hi (by decide) dL_law_1239 dL_law_1240 dL_law_1241 dL_law_1242 dL_law_1243 ?_
  refine l_mx (n := 5) V hf dL_law_1244 mi_X7_twice ml_L_122 (mx_twice (b := xs (i + 1)) (d := xs (i + 2)) (s := xs (i + 3)) (d2 := xs (i + 4)) (s2 := xs (i + 5)) (h.2.1.yy a3) h.2.2) plan80 rfl rfl rfl (Nat.le_of_ble_eq_true rfl) (by decide +kernel) (fun M2 b1 b2 => ?_)
  exact j_icmp_eq (tgt := 1814) V dL_law_1247 rfl (fun _ => hn M2 _ ⟨a1.mm a2 b2, b1, a2⟩) (fun q => absurd rfl q)
theorem lc_25 (V : Bd E B cL_law fkL v.1 v.2.2.2.1 v.2.2.2.2.1 v.2.2.2.2.2.2.2.1 v.2.2.2.2.2.2.2.2) (hX : LX B b L xs v) (hi : i + 6 ≤ L) (hf : nc ≤ 600000 ∧ ns ≤ 7302250) (h : RX B M y) (hn : ∀ M2 y2, RX B M2 y2 → J B fkL v Q (Rep E B M2) nc ns 1814 (lvL b B i) []) : J B fkL v Q (Rep E B M) nc ns 1252 (lvL b B i) [] := by
  refine j_aload_n V dL_law_1252 rfl rfl ?_
  refine l_arg (j := 1) V hX hi (by decide) dL_law_1253 dL_law_1254 dL_law_1255 dL_law_1256 dL_law_1257 ?_
  refine l_arg (j := 2) V hX hi (by decide) dL_law_1258 dL_law_1259 dL_law_1260 dL_law_1261 dL_law_1262 ?_
  refine l_arg (j := 3) V hX hi (by decide) dL_law_1263 dL_law_1264 dL_law_1265 dL_law_1266 dL_law_1267 ?_
  refine l_cx (n := 3) V hf dL_law_1268 mi_X6_goes ml_L_123 (cx_goes (b := xs (i + 1)) (d := xs (i + 2)) (s := xs (i + 3)) h.1 h.2.2) plan0 rfl rfl rfl (Nat.le_of_ble_eq_true rfl) (by decide +kernel) (fun M1 a1 a2 a3 => ?_)
  refine j_aload_n V dL_law_1271 rfl rfl ?_
  refine l_arg (j := 1) V hX hi (by decide) dL_law_1272 dL_law_1273 dL_law_1274 dL_law_1275 dL_law_1276 ?_
  refine l_arg (j := 2) V hX hi (by decide) dL_law_1277 dL_law_1278 dL_law_1279 dL_law_1280 dL_law_1281 ?_
  refine l_arg (j := 3) V hX hi (by decide) dL_law_1282 dL_law_1283 dL_law_1284 dL_law_1285 dL_law_1286 ?_
  refine l_mx (n := 3) V hf dL_law_1287 mi_X7_goes ml_L_126 (mx_goes (b := xs (i + 1)) (d := xs (i + 2)) (s := xs (i + 3)) (h.2.1.yy a3) h.2.2) plan80 rfl rfl rfl (Nat.le_of_ble_eq_true rfl) (by decide +kernel) (fun M2 b1 b2 => ?_)
  exact j_icmp_eq (tgt := 1814) V dL_law_1290 rfl (fun _ => hn M2 _ ⟨a1.mm a2 b2, b1, a2⟩) (fun q => absurd rfl q)
theorem lc_26 (V : Bd E B cL_law fkL v.1 v.2.2.2.1 v.2.2.2.2.1 v.2.2.2.2.2.2.2.1 v.2.2.2.2.2.2.2.2) (hX : LX B b L xs v) (hi : i + 6 ≤ L) (hf : nc ≤ 600000 ∧ ns ≤ 7302250) (h : RX B M y) (hn : ∀ M2 y2, RX B M2 y2 → J B fkL v Q (Rep E B M2) nc ns 1814 (lvL b B i) []) : J B fkL v Q (Rep E B M) nc ns 1295 (lvL b B i) [] := by
  refine j_aload_n V dL_law_1295 rfl rfl ?_
  refine l_arg (j := 1) V hX hi (by decide) dL_law_1296 dL_law_1297 dL_law_1298 dL_law_1299 dL_law_1300 ?_
  refine l_arg (j := 2) V hX hi (by decide) dL_law_1301 dL_law_1302 dL_law_1303 dL_law_1304 dL_law_1305 ?_
  refine l_arg (j := 3) V hX hi (by decide) dL_law_1306 dL_law_1307 dL_law_1308 dL_law_1309 dL_law_1310 ?_
  refine l_arg (j := 4) V hX hi (by decide) dL_law_1311 dL_law_1312 dL_law_1313 dL_law_1314 dL_law_1315 ?_
  refine l_cx (n := 4) V hf dL_law_1316 mi_X6_plate ml_L_127 (cx_plate (d := xs (i + 1)) (s := xs (i + 2)) (c := xs (i + 3)) (w := xs (i + 4)) h.1 h.2.2) plan0 rfl rfl rfl (Nat.le_of_ble_eq_true rfl) (by decide +kernel) (fun M1 a1 a2 a3 => ?_)
  refine j_aload_n V dL_law_1319 rfl rfl ?_
  refine l_arg (j := 1) V hX hi (by decide) dL_law_1320 dL_law_1321 dL_law_1322 dL_law_1323 dL_law_1324 ?_
  refine l_arg (j := 2) V hX hi (by decide) dL_law_1325 dL_law_1326 dL_law_1327 dL_law_1328 dL_law_1329 ?_
  refine l_arg (j := 3) V hX hi (by decide) dL_law_1330 dL_law_1331 dL_law_1332 dL_law_1333 dL_law_1334 ?_
  refine l_arg (j := 4) V hX hi (by decide) dL_law_1335 dL_law_1336 dL_law_1337 dL_law_1338 dL_law_1339 ?_
  refine l_mx (n := 4) V hf dL_law_1340 mi_X7_plate ml_L_130 (mx_plate (d := xs (i + 1)) (s := xs (i + 2)) (c := xs (i + 3)) (w := xs (i + 4)) (h.2.1.yy a3) h.2.2) plan80 rfl rfl rfl (Nat.le_of_ble_eq_true rfl) (by decide +kernel) (fun M2 b1 b2 => ?_)
  exact j_icmp_eq (tgt := 1814) V dL_law_1343 rfl (fun _ => hn M2 _ ⟨a1.mm a2 b2, b1, a2⟩) (fun q => absurd rfl q)
theorem lc_27 (V : Bd E B cL_law fkL v.1 v.2.2.2.1 v.2.2.2.2.1 v.2.2.2.2.2.2.2.1 v.2.2.2.2.2.2.2.2) (hX : LX B b L xs v) (hi : i + 6 ≤ L) (hf : nc ≤ 600000 ∧ ns ≤ 7302250) (h : RX B M y) (hn : ∀ M2 y2, RX B M2 y2 → J B fkL v Q (Rep E B M2) nc ns 1814 (lvL b B i) []) : J B fkL v Q (Rep E B M) nc ns 1348 (lvL b B i) [] := by
  refine j_aload_n V dL_law_1348 rfl rfl ?_
  refine l_arg (j := 1) V hX hi (by decide) dL_law_1349 dL_law_1350 dL_law_1351 dL_law_1352 dL_law_1353 ?_
  refine l_arg (j := 2) V hX hi (by decide) dL_law_1354 dL_law_1355 dL_law_1356 dL_law_1357 dL_law_1358 ?_
  refine l_arg (j := 3) V hX hi (by decide) dL_law_1359 dL_law_1360 dL_law_1361 dL_law_1362 dL_law_1363 ?_
  refine l_arg (j := 4) V hX hi (by decide) dL_law_1364 dL_law_1365 dL_law_1366 dL_law_1367 dL_law_1368 ?_
  refine l_cx (n := 4) V hf dL_law_1369 mi_X6_rule ml_L_131 (cx_rule (x := xs (i + 1)) (n := xs (i + 2)) (d := xs (i + 3)) (c := xs (i + 4)) h.1 h.2.2) plan0 rfl rfl rfl (Nat.le_of_ble_eq_true rfl) (by decide +kernel) (fun M1 a1 a2 a3 => ?_)
  refine j_aload_n V dL_law_1372 rfl rfl ?_
  refine l_arg (j := 1) V hX hi (by decide) dL_law_1373 dL_law_1374 dL_law_1375 dL_law_1376 dL_law_1377 ?_
  refine l_arg (j := 2) V hX hi (by decide) dL_law_1378 dL_law_1379 dL_law_1380 dL_law_1381 dL_law_1382 ?_
  refine l_arg (j := 3) V hX hi (by decide) dL_law_1383 dL_law_1384 dL_law_1385 dL_law_1386 dL_law_1387 ?_
  refine l_arg (j := 4) V hX hi (by decide) dL_law_1388 dL_law_1389 dL_law_1390 dL_law_1391 dL_law_1392 ?_
  refine l_mx (n := 4) V hf dL_law_1393 mi_X7_rule ml_L_134 (mx_rule (x := xs (i + 1)) (n := xs (i + 2)) (d := xs (i + 3)) (c := xs (i + 4)) (h.2.1.yy a3) h.2.2) plan80 rfl rfl rfl (Nat.le_of_ble_eq_true rfl) (by decide +kernel) (fun M2 b1 b2 => ?_)
  exact j_icmp_eq (tgt := 1814) V dL_law_1396 rfl (fun _ => hn M2 _ ⟨a1.mm a2 b2, b1, a2⟩) (fun q => absurd rfl q)
theorem lc_28 (V : Bd E B cL_law fkL v.1 v.2.2.2.1 v.2.2.2.2.1 v.2.2.2.2.2.2.2.1 v.2.2.2.2.2.2.2.2) (hX : LX B b L xs v) (hi : i + 6 ≤ L) (hf : nc ≤ 600000 ∧ ns ≤ 7302250) (h : RX B M y) (hn : ∀ M2 y2, RX B M2 y2 → J B fkL v Q (Rep E B M2) nc ns 1814 (lvL b B i) []) : J B fkL v Q (Rep E B M) nc ns 1401 (lvL b B i) [] := by
  refine j_aload_n V dL_law_1401 rfl rfl ?_
  refine l_arg (j := 1) V hX hi (by decide) dL_law_1402 dL_law_1403 dL_law_1404 dL_law_1405 dL_law_1406 ?_
  refine l_arg (j := 2) V hX hi (by decide) dL_law_1407 dL_law_1408 dL_law_1409 dL_law_1410 dL_law_1411 ?_
  refine l_arg (j := 3) V hX hi (by decide) dL_law_1412 dL_law_1413 dL_law_1414 dL_law_1415 dL_law_1416 ?_
  refine l_cxl (n := 3) V hf dL_law_1417 mi_X6_back ml_L_135 (cx_back (b := xs (i + 1)) (s := xs (i + 2)) (d := xs (i + 3)) h.1 h.2.2) plan0 rfl rfl rfl (Nat.le_of_ble_eq_true rfl) (by decide +kernel) (fun M1 a1 a2 a3 => ?_)
  refine j_aload_n V dL_law_1420 rfl rfl ?_
  refine l_arg (j := 1) V hX hi (by decide) dL_law_1421 dL_law_1422 dL_law_1423 dL_law_1424 dL_law_1425 ?_
  refine l_arg (j := 2) V hX hi (by decide) dL_law_1426 dL_law_1427 dL_law_1428 dL_law_1429 dL_law_1430 ?_
  refine l_arg (j := 3) V hX hi (by decide) dL_law_1431 dL_law_1432 dL_law_1433 dL_law_1434 dL_law_1435 ?_
  refine l_mxl (n := 3) V hf dL_law_1436 mi_X7_back ml_L_139 (mx_back (b := xs (i + 1)) (s := xs (i + 2)) (d := xs (i + 3)) (h.2.1.yy a3) h.2.2) plan80 rfl rfl rfl (Nat.le_of_ble_eq_true rfl) (by decide +kernel) (fun M2 b1 b2 => ?_)
  refine j_lcmp (z := 0) V dL_law_1439 lg_same ?_
  exact j_if_eq (tgt := 1814) V dL_law_1440 rfl (fun _ => hn M2 _ ⟨a1.mm a2 b2, b1, a2⟩) (fun q => absurd rfl q)
theorem lc_29 (V : Bd E B cL_law fkL v.1 v.2.2.2.1 v.2.2.2.2.1 v.2.2.2.2.2.2.2.1 v.2.2.2.2.2.2.2.2) (hX : LX B b L xs v) (hi : i + 6 ≤ L) (hf : nc ≤ 600000 ∧ ns ≤ 7302250) (h : RX B M y) (hn : ∀ M2 y2, RX B M2 y2 → J B fkL v Q (Rep E B M2) nc ns 1814 (lvL b B i) []) : J B fkL v Q (Rep E B M) nc ns 1445 (lvL b B i) [] := by
  refine j_aload_n V dL_law_1445 rfl rfl ?_
  refine l_arg (j := 1) V hX hi (by decide) dL_law_1446 dL_law_1447 dL_law_1448 dL_law_1449 dL_law_1450 ?_
  refine l_arg (j := 2) V hX hi (by decide) dL_law_1451 dL_law_1452 dL_law_1453 dL_law_1454 dL_law_1455 ?_
  refine l_arg (j := 3) V hX hi (by decide) dL_law_1456 dL_law_1457 dL_law_1458 dL_law_1459 dL_law_1460 ?_
  refine l_arg (j := 4) V hX hi (by decide) dL_law_1461 dL_law_1462 dL_law_1463 dL_law_1464 dL_law_1465 ?_
  refine l_cx (n := 4) V hf dL_law_1466 mi_X6_heats ml_L_140 (cx_heats (b := xs (i + 1)) (s := xs (i + 2)) (d := xs (i + 3)) (t := xs (i + 4)) h.1 h.2.2) plan0 rfl rfl rfl (Nat.le_of_ble_eq_true rfl) (by decide +kernel) (fun M1 a1 a2 a3 => ?_)
  refine j_aload_n V dL_law_1469 rfl rfl ?_
  refine l_arg (j := 1) V hX hi (by decide) dL_law_1470 dL_law_1471 dL_law_1472 dL_law_1473 dL_law_1474 ?_
  refine l_arg (j := 2) V hX hi (by decide) dL_law_1475 dL_law_1476 dL_law_1477 dL_law_1478 dL_law_1479 ?_
  refine l_arg (j := 3) V hX hi (by decide) dL_law_1480 dL_law_1481 dL_law_1482 dL_law_1483 dL_law_1484 ?_
  refine l_arg (j := 4) V hX hi (by decide) dL_law_1485 dL_law_1486 dL_law_1487 dL_law_1488 dL_law_1489 ?_
  refine l_mx (n := 4) V hf dL_law_1490 mi_X7_heats ml_L_143 (mx_heats (b := xs (i + 1)) (s := xs (i + 2)) (d := xs (i + 3)) (t := xs (i + 4)) (h.2.1.yy a3) h.2.2) plan80 rfl rfl rfl (Nat.le_of_ble_eq_true rfl) (by decide +kernel) (fun M2 b1 b2 => ?_)
  exact j_icmp_eq (tgt := 1814) V dL_law_1493 rfl (fun _ => hn M2 _ ⟨a1.mm a2 b2, b1, a2⟩) (fun q => absurd rfl q)
theorem lc_30 (V : Bd E B cL_law fkL v.1 v.2.2.2.1 v.2.2.2.2.1 v.2.2.2.2.2.2.2.1 v.2.2.2.2.2.2.2.2) (hX : LX B b L xs v) (hi : i + 6 ≤ L) (hf : nc ≤ 600000 ∧ ns ≤ 7302250) (h : RX B M y) (hn : ∀ M2 y2, RX B M2 y2 → J B fkL v Q (Rep E B M2) nc ns 1814 (lvL b B i) []) : J B fkL v Q (Rep E B M) nc ns 1498 (lvL b B i) [] := by
  refine j_aload_n V dL_law_1498 rfl rfl ?_
  refine l_arg (j := 1) V hX hi (by decide) dL_law_1499 dL_law_1500 dL_law_1501 dL_law_1502 dL_law_1503 ?_
  refine l_arg (j := 2) V hX hi (by decide) dL_law_1504 dL_law_1505 dL_law_1506 dL_law_1507 dL_law_1508 ?_
  refine l_cx (n := 2) V hf dL_law_1509 mi_X6_fetch ml_L_144 (cx_fetch (d := xs (i + 1)) (s := xs (i + 2)) h.1 h.2.2) plan0 rfl rfl rfl (Nat.le_of_ble_eq_true rfl) (by decide +kernel) (fun M1 a1 a2 a3 => ?_)
  refine j_aload_n V dL_law_1512 rfl rfl ?_
  refine l_arg (j := 1) V hX hi (by decide) dL_law_1513 dL_law_1514 dL_law_1515 dL_law_1516 dL_law_1517 ?_
  refine l_arg (j := 2) V hX hi (by decide) dL_law_1518 dL_law_1519 dL_law_1520 dL_law_1521 dL_law_1522 ?_
  refine l_mx (n := 2) V hf dL_law_1523 mi_X7_fetch ml_L_147 (mx_fetch (d := xs (i + 1)) (s := xs (i + 2)) (h.2.1.yy a3) h.2.2) plan80 rfl rfl rfl (Nat.le_of_ble_eq_true rfl) (by decide +kernel) (fun M2 b1 b2 => ?_)
  exact j_icmp_eq (tgt := 1814) V dL_law_1526 rfl (fun _ => hn M2 _ ⟨a1.mm a2 b2, b1, a2⟩) (fun q => absurd rfl q)
theorem lc_31 (V : Bd E B cL_law fkL v.1 v.2.2.2.1 v.2.2.2.2.1 v.2.2.2.2.2.2.2.1 v.2.2.2.2.2.2.2.2) (hX : LX B b L xs v) (hi : i + 6 ≤ L) (hf : nc ≤ 600000 ∧ ns ≤ 7302250) (h : RX B M y) (hn : ∀ M2 y2, RX B M2 y2 → J B fkL v Q (Rep E B M2) nc ns 1814 (lvL b B i) []) : J B fkL v Q (Rep E B M) nc ns 1531 (lvL b B i) [] := by
  refine j_aload_n V dL_law_1531 rfl rfl ?_
  refine l_arg (j := 1) V hX hi (by decide) dL_law_1532 dL_law_1533 dL_law_1534 dL_law_1535 dL_law_1536 ?_
  refine l_arg (j := 2) V hX hi (by decide) dL_law_1537 dL_law_1538 dL_law_1539 dL_law_1540 dL_law_1541 ?_
  refine l_arg (j := 3) V hX hi (by decide) dL_law_1542 dL_law_1543 dL_law_1544 dL_law_1545 dL_law_1546 ?_
  refine l_cx (n := 3) V hf dL_law_1547 mi_X6_dip ml_L_148 (cx_dip (b := xs (i + 1)) (d := xs (i + 2)) (s := xs (i + 3)) h.1 h.2.2) plan0 rfl rfl rfl (Nat.le_of_ble_eq_true rfl) (by decide +kernel) (fun M1 a1 a2 a3 => ?_)
  refine j_aload_n V dL_law_1550 rfl rfl ?_
  refine l_arg (j := 1) V hX hi (by decide) dL_law_1551 dL_law_1552 dL_law_1553 dL_law_1554 dL_law_1555 ?_
  refine l_arg (j := 2) V hX hi (by decide) dL_law_1556 dL_law_1557 dL_law_1558 dL_law_1559 dL_law_1560 ?_
  refine l_arg (j := 3) V hX hi (by decide) dL_law_1561 dL_law_1562 dL_law_1563 dL_law_1564 dL_law_1565 ?_
  refine l_mx (n := 3) V hf dL_law_1566 mi_X7_dip ml_L_151 (mx_dip (b := xs (i + 1)) (d := xs (i + 2)) (s := xs (i + 3)) (h.2.1.yy a3) h.2.2) plan80 rfl rfl rfl (Nat.le_of_ble_eq_true rfl) (by decide +kernel) (fun M2 b1 b2 => ?_)
  exact j_icmp_eq (tgt := 1814) V dL_law_1569 rfl (fun _ => hn M2 _ ⟨a1.mm a2 b2, b1, a2⟩) (fun q => absurd rfl q)
theorem lc_32 (V : Bd E B cL_law fkL v.1 v.2.2.2.1 v.2.2.2.2.1 v.2.2.2.2.2.2.2.1 v.2.2.2.2.2.2.2.2) (hX : LX B b L xs v) (hi : i + 6 ≤ L) (hf : nc ≤ 600000 ∧ ns ≤ 7302250) (h : RX B M y) (hn : ∀ M2 y2, RX B M2 y2 → J B fkL v Q (Rep E B M2) nc ns 1814 (lvL b B i) []) : J B fkL v Q (Rep E B M) nc ns 1574 (lvL b B i) [] := by
  refine j_aload_n V dL_law_1574 rfl rfl ?_
  refine l_arg (j := 1) V hX hi (by decide) dL_law_1575 dL_law_1576 dL_law_1577 dL_law_1578 dL_law_1579 ?_
  refine l_arg (j := 2) V hX hi (by decide) dL_law_1580 dL_law_1581 dL_law_1582 dL_law_1583 dL_law_1584 ?_
  refine l_cx (n := 2) V hf dL_law_1585 mi_X6_carry ml_L_152 (cx_carry (b := xs (i + 1)) (c := xs (i + 2)) h.1 h.2.2) plan0 rfl rfl rfl (Nat.le_of_ble_eq_true rfl) (by decide +kernel) (fun M1 a1 a2 a3 => ?_)
  refine j_aload_n V dL_law_1588 rfl rfl ?_
  refine l_arg (j := 1) V hX hi (by decide) dL_law_1589 dL_law_1590 dL_law_1591 dL_law_1592 dL_law_1593 ?_
  refine l_arg (j := 2) V hX hi (by decide) dL_law_1594 dL_law_1595 dL_law_1596 dL_law_1597 dL_law_1598 ?_
  refine l_mx (n := 2) V hf dL_law_1599 mi_X7_carry ml_L_155 (mx_carry (b := xs (i + 1)) (c := xs (i + 2)) (h.2.1.yy a3) h.2.2) plan80 rfl rfl rfl (Nat.le_of_ble_eq_true rfl) (by decide +kernel) (fun M2 b1 b2 => ?_)
  exact j_icmp_eq (tgt := 1814) V dL_law_1602 rfl (fun _ => hn M2 _ ⟨a1.mm a2 b2, b1, a2⟩) (fun q => absurd rfl q)
theorem lc_33 (V : Bd E B cL_law fkL v.1 v.2.2.2.1 v.2.2.2.2.1 v.2.2.2.2.2.2.2.1 v.2.2.2.2.2.2.2.2) (hX : LX B b L xs v) (hi : i + 6 ≤ L) (hf : nc ≤ 600000 ∧ ns ≤ 7302250) (h : RX B M y) (hn : ∀ M2 y2, RX B M2 y2 → J B fkL v Q (Rep E B M2) nc ns 1814 (lvL b B i) []) : J B fkL v Q (Rep E B M) nc ns 1607 (lvL b B i) [] := by
  refine j_aload_n V dL_law_1607 rfl rfl ?_
  refine l_arg (j := 1) V hX hi (by decide) dL_law_1608 dL_law_1609 dL_law_1610 dL_law_1611 dL_law_1612 ?_
  refine l_cx (n := 1) V hf dL_law_1613 mi_X6_turn ml_L_156 (cx_turn (b := xs (i + 1)) h.1 h.2.2) plan0 rfl rfl rfl (Nat.le_of_ble_eq_true rfl) (by decide +kernel) (fun M1 a1 a2 a3 => ?_)
  refine j_aload_n V dL_law_1616 rfl rfl ?_
  refine l_arg (j := 1) V hX hi (by decide) dL_law_1617 dL_law_1618 dL_law_1619 dL_law_1620 dL_law_1621 ?_
  refine l_mx (n := 1) V hf dL_law_1622 mi_X7_turn ml_L_159 (mx_turn (b := xs (i + 1)) (h.2.1.yy a3) h.2.2) plan80 rfl rfl rfl (Nat.le_of_ble_eq_true rfl) (by decide +kernel) (fun M2 b1 b2 => ?_)
  exact j_icmp_eq (tgt := 1814) V dL_law_1625 rfl (fun _ => hn M2 _ ⟨a1.mm a2 b2, b1, a2⟩) (fun q => absurd rfl q)
theorem lc_34 (V : Bd E B cL_law fkL v.1 v.2.2.2.1 v.2.2.2.2.1 v.2.2.2.2.2.2.2.1 v.2.2.2.2.2.2.2.2) (hX : LX B b L xs v) (hi : i + 6 ≤ L) (hf : nc ≤ 600000 ∧ ns ≤ 7302250) (h : RX B M y) (hn : ∀ M2 y2, RX B M2 y2 → J B fkL v Q (Rep E B M2) nc ns 1814 (lvL b B i) []) : J B fkL v Q (Rep E B M) nc ns 1630 (lvL b B i) [] := by
  refine j_aload_n V dL_law_1630 rfl rfl ?_
  refine l_arg (j := 1) V hX hi (by decide) dL_law_1631 dL_law_1632 dL_law_1633 dL_law_1634 dL_law_1635 ?_
  refine l_cx (n := 1) V hf dL_law_1636 mi_X6_eats ml_L_160 (cx_eats (b := xs (i + 1)) h.1 h.2.2) plan0 rfl rfl rfl (Nat.le_of_ble_eq_true rfl) (by decide +kernel) (fun M1 a1 a2 a3 => ?_)
  refine j_aload_n V dL_law_1639 rfl rfl ?_
  refine l_arg (j := 1) V hX hi (by decide) dL_law_1640 dL_law_1641 dL_law_1642 dL_law_1643 dL_law_1644 ?_
  refine l_mx (n := 1) V hf dL_law_1645 mi_X7_eats ml_L_163 (mx_eats (b := xs (i + 1)) (h.2.1.yy a3) h.2.2) plan80 rfl rfl rfl (Nat.le_of_ble_eq_true rfl) (by decide +kernel) (fun M2 b1 b2 => ?_)
  exact j_icmp_eq (tgt := 1814) V dL_law_1648 rfl (fun _ => hn M2 _ ⟨a1.mm a2 b2, b1, a2⟩) (fun q => absurd rfl q)
theorem lc_35 (V : Bd E B cL_law fkL v.1 v.2.2.2.1 v.2.2.2.2.1 v.2.2.2.2.2.2.2.1 v.2.2.2.2.2.2.2.2) (hX : LX B b L xs v) (hi : i + 6 ≤ L) (hf : nc ≤ 600000 ∧ ns ≤ 7302250) (h : RX B M y) (hn : ∀ M2 y2, RX B M2 y2 → J B fkL v Q (Rep E B M2) nc ns 1814 (lvL b B i) []) : J B fkL v Q (Rep E B M) nc ns 1653 (lvL b B i) [] := by
  refine j_aload_n V dL_law_1653 rfl rfl ?_
  refine l_arg (j := 1) V hX hi (by decide) dL_law_1654 dL_law_1655 dL_law_1656 dL_law_1657 dL_law_1658 ?_
  refine l_cx (n := 1) V hf dL_law_1659 mi_X6_teas ml_L_164 (cx_teas (n := xs (i + 1)) h.1 h.2.2) plan0 rfl rfl rfl (Nat.le_of_ble_eq_true rfl) (by decide +kernel) (fun M1 a1 a2 a3 => ?_)
  refine j_aload_n V dL_law_1662 rfl rfl ?_
  refine l_arg (j := 1) V hX hi (by decide) dL_law_1663 dL_law_1664 dL_law_1665 dL_law_1666 dL_law_1667 ?_
  refine l_mx (n := 1) V hf dL_law_1668 mi_X7_teas ml_L_167 (mx_teas (n := xs (i + 1)) (h.2.1.yy a3) h.2.2) plan80 rfl rfl rfl (Nat.le_of_ble_eq_true rfl) (by decide +kernel) (fun M2 b1 b2 => ?_)
  exact j_icmp_eq (tgt := 1814) V dL_law_1671 rfl (fun _ => hn M2 _ ⟨a1.mm a2 b2, b1, a2⟩) (fun q => absurd rfl q)
theorem lc_36 (V : Bd E B cL_law fkL v.1 v.2.2.2.1 v.2.2.2.2.1 v.2.2.2.2.2.2.2.1 v.2.2.2.2.2.2.2.2) (hX : LX B b L xs v) (hi : i + 6 ≤ L) (hf : nc ≤ 600000 ∧ ns ≤ 7302250) (h : RX B M y) (hn : ∀ M2 y2, RX B M2 y2 → J B fkL v Q (Rep E B M2) nc ns 1814 (lvL b B i) []) : J B fkL v Q (Rep E B M) nc ns 1676 (lvL b B i) [] := by
  refine j_aload_n V dL_law_1676 rfl rfl ?_
  refine l_arg (j := 1) V hX hi (by decide) dL_law_1677 dL_law_1678 dL_law_1679 dL_law_1680 dL_law_1681 ?_
  refine l_cx (n := 1) V hf dL_law_1682 mi_X6_seed ml_L_168 (cx_seed (v := xs (i + 1)) h.1 h.2.2) plan0 rfl rfl rfl (Nat.le_of_ble_eq_true rfl) (by decide +kernel) (fun M1 a1 a2 a3 => ?_)
  refine j_aload_n V dL_law_1685 rfl rfl ?_
  refine l_arg (j := 1) V hX hi (by decide) dL_law_1686 dL_law_1687 dL_law_1688 dL_law_1689 dL_law_1690 ?_
  refine l_mx (n := 1) V hf dL_law_1691 mi_X7_seed ml_L_171 (mx_seed (v := xs (i + 1)) (h.2.1.yy a3)) plan80 rfl rfl rfl (Nat.le_of_ble_eq_true rfl) (by decide +kernel) (fun M2 b1 b2 => ?_)
  exact j_icmp_eq (tgt := 1814) V dL_law_1694 rfl (fun _ => hn M2 _ ⟨a1.mm a2 b2, b1, a2⟩) (fun q => absurd rfl q)
theorem lc_37 (V : Bd E B cL_law fkL v.1 v.2.2.2.1 v.2.2.2.2.1 v.2.2.2.2.2.2.2.1 v.2.2.2.2.2.2.2.2) (hX : LX B b L xs v) (hi : i + 6 ≤ L) (hf : nc ≤ 600000 ∧ ns ≤ 7302250) (h : RX B M y) (hn : ∀ M2 y2, RX B M2 y2 → J B fkL v Q (Rep E B M2) nc ns 1814 (lvL b B i) []) : J B fkL v Q (Rep E B M) nc ns 1699 (lvL b B i) [] := by
  refine j_aload_n V dL_law_1699 rfl rfl ?_
  refine l_arg (j := 1) V hX hi (by decide) dL_law_1700 dL_law_1701 dL_law_1702 dL_law_1703 dL_law_1704 ?_
  refine l_arg (j := 2) V hX hi (by decide) dL_law_1705 dL_law_1706 dL_law_1707 dL_law_1708 dL_law_1709 ?_
  refine l_arg (j := 3) V hX hi (by decide) dL_law_1710 dL_law_1711 dL_law_1712 dL_law_1713 dL_law_1714 ?_
  refine l_cx (n := 3) V hf dL_law_1715 mi_X6_act ml_L_172 (cx_act (b := xs (i + 1)) (g := xs (i + 2)) (x := xs (i + 3)) h.1 h.2.2) plan0 rfl rfl rfl (Nat.le_of_ble_eq_true rfl) (by decide +kernel) (fun M1 a1 a2 a3 => ?_)
  refine j_aload_n V dL_law_1718 rfl rfl ?_
  refine l_arg (j := 1) V hX hi (by decide) dL_law_1719 dL_law_1720 dL_law_1721 dL_law_1722 dL_law_1723 ?_
  refine l_arg (j := 2) V hX hi (by decide) dL_law_1724 dL_law_1725 dL_law_1726 dL_law_1727 dL_law_1728 ?_
  refine l_arg (j := 3) V hX hi (by decide) dL_law_1729 dL_law_1730 dL_law_1731 dL_law_1732 dL_law_1733 ?_
  refine l_mx (n := 3) V hf dL_law_1734 mi_X7_act ml_L_175 (mx_act (b := xs (i + 1)) (g := xs (i + 2)) (x := xs (i + 3)) (h.2.1.yy a3) h.2.2) plan80 rfl rfl rfl (Nat.le_of_ble_eq_true rfl) (by decide +kernel) (fun M2 b1 b2 => ?_)
  exact j_icmp_eq (tgt := 1814) V dL_law_1737 rfl (fun _ => hn M2 _ ⟨a1.mm a2 b2, b1, a2⟩) (fun q => absurd rfl q)
theorem lc_38 (V : Bd E B cL_law fkL v.1 v.2.2.2.1 v.2.2.2.2.1 v.2.2.2.2.2.2.2.1 v.2.2.2.2.2.2.2.2) (hX : LX B b L xs v) (hi : i + 6 ≤ L) (hf : nc ≤ 600000 ∧ ns ≤ 7302250) (h : RX B M y) (hn : ∀ M2 y2, RX B M2 y2 → J B fkL v Q (Rep E B M2) nc ns 1814 (lvL b B i) []) : J B fkL v Q (Rep E B M) nc ns 1742 (lvL b B i) [] := by
  refine j_aload_n V dL_law_1742 rfl rfl ?_
  refine l_arg (j := 1) V hX hi (by decide) dL_law_1743 dL_law_1744 dL_law_1745 dL_law_1746 dL_law_1747 ?_
  refine l_cx (n := 1) V hf dL_law_1748 mi_X6_trace ml_L_176 (cx_trace (i := xs (i + 1)) h.1 h.2.2) plan0 rfl rfl rfl (Nat.le_of_ble_eq_true rfl) (by decide +kernel) (fun M1 a1 a2 a3 => ?_)
  refine j_aload_n V dL_law_1751 rfl rfl ?_
  refine l_arg (j := 1) V hX hi (by decide) dL_law_1752 dL_law_1753 dL_law_1754 dL_law_1755 dL_law_1756 ?_
  refine l_mx (n := 1) V hf dL_law_1757 mi_X7_trace ml_L_179 (mx_trace (i := xs (i + 1)) (h.2.1.yy a3) h.2.2) plan80 rfl rfl rfl (Nat.le_of_ble_eq_true rfl) (by decide +kernel) (fun M2 b1 b2 => ?_)
  exact j_icmp_eq (tgt := 1814) V dL_law_1760 rfl (fun _ => hn M2 _ ⟨a1.mm a2 b2, b1, a2⟩) (fun q => absurd rfl q)
theorem lc_39 (V : Bd E B cL_law fkL v.1 v.2.2.2.1 v.2.2.2.2.1 v.2.2.2.2.2.2.2.1 v.2.2.2.2.2.2.2.2) (hX : LX B b L xs v) (hi : i + 6 ≤ L) (hf : nc ≤ 600000 ∧ ns ≤ 7302250) (h : RX B M y) (hn : ∀ M2 y2, RX B M2 y2 → J B fkL v Q (Rep E B M2) nc ns 1814 (lvL b B i) []) : J B fkL v Q (Rep E B M) nc ns 1765 (lvL b B i) [] := by
  refine j_aload_n V dL_law_1765 rfl rfl ?_
  refine l_cx (n := 0) V hf dL_law_1766 mi_X6_image ml_L_180 (cx_image  h.1 h.2.2) plan0 rfl rfl rfl (Nat.le_of_ble_eq_true rfl) (by decide +kernel) (fun M1 a1 a2 a3 => ?_)
  refine j_aload_n V dL_law_1769 rfl rfl ?_
  refine l_mx (n := 0) V hf dL_law_1770 mi_X7_image ml_L_183 (mx_image  (h.2.1.yy a3) h.2.2) plan80 rfl rfl rfl (Nat.le_of_ble_eq_true rfl) (by decide +kernel) (fun M2 b1 b2 => ?_)
  exact j_icmp_eq (tgt := 1814) V dL_law_1773 rfl (fun _ => hn M2 _ ⟨a1.mm a2 b2, b1, a2⟩) (fun q => absurd rfl q)
theorem lc_40 (V : Bd E B cL_law fkL v.1 v.2.2.2.1 v.2.2.2.2.1 v.2.2.2.2.2.2.2.1 v.2.2.2.2.2.2.2.2) (hX : LX B b L xs v) (hi : i + 6 ≤ L) (hf : nc ≤ 600000 ∧ ns ≤ 7302250) (h : RX B M y) (hn : ∀ M2 y2, RX B M2 y2 → J B fkL v Q (Rep E B M2) nc ns 1814 (lvL b B i) []) : J B fkL v Q (Rep E B M) nc ns 1778 (lvL b B i) [] := by
  refine j_aload_n V dL_law_1778 rfl rfl ?_
  refine l_cx (n := 0) V hf dL_law_1779 mi_X6_restore ml_L_184 (cx_restore  h.1 h.2.2) plan0 rfl rfl rfl (Nat.le_of_ble_eq_true rfl) (by decide +kernel) (fun M1 a1 a2 a3 => ?_)
  refine j_aload_n V dL_law_1782 rfl rfl ?_
  refine l_mx (n := 0) V hf dL_law_1783 mi_X7_restore ml_L_187 (mx_restore  (h.2.1.yy a3) h.2.2) plan80 rfl rfl rfl (Nat.le_of_ble_eq_true rfl) (by decide +kernel) (fun M2 b1 b2 => ?_)
  exact j_icmp_eq (tgt := 1814) V dL_law_1786 rfl (fun _ => hn M2 _ ⟨a1.mm a2 b2, b1, a2⟩) (fun q => absurd rfl q)
theorem lc_41 (V : Bd E B cL_law fkL v.1 v.2.2.2.1 v.2.2.2.2.1 v.2.2.2.2.2.2.2.1 v.2.2.2.2.2.2.2.2) (hX : LX B b L xs v) (hi : i + 6 ≤ L) (hf : nc ≤ 600000 ∧ ns ≤ 7302250) (h : RX B M y) (hn : ∀ M2 y2, RX B M2 y2 → J B fkL v Q (Rep E B M2) nc ns 1814 (lvL b B i) []) : J B fkL v Q (Rep E B M) nc ns 1791 (lvL b B i) [] := by
  refine j_aload_n V dL_law_1791 rfl rfl ?_
  refine l_arg (j := 1) V hX hi (by decide) dL_law_1792 dL_law_1793 dL_law_1794 dL_law_1795 dL_law_1796 ?_
  refine l_cx (n := 1) V hf dL_law_1797 mi_X6_status ml_L_188 (cx_status (w := xs (i + 1)) h.1 h.2.2) plan0 rfl rfl rfl (Nat.le_of_ble_eq_true rfl) (by decide +kernel) (fun M1 a1 a2 a3 => ?_)
  refine j_aload_n V dL_law_1800 rfl rfl ?_
  refine l_arg (j := 1) V hX hi (by decide) dL_law_1801 dL_law_1802 dL_law_1803 dL_law_1804 dL_law_1805 ?_
  refine l_mx (n := 1) V hf dL_law_1806 mi_X7_status ml_L_191 (mx_status (w := xs (i + 1)) (h.2.1.yy a3) h.2.2) plan80 rfl rfl rfl (Nat.le_of_ble_eq_true rfl) (by decide +kernel) (fun M2 b1 b2 => ?_)
  exact j_icmp_eq (tgt := 1814) V dL_law_1809 rfl (fun _ => hn M2 _ ⟨a1.mm a2 b2, b1, a2⟩) (fun q => absurd rfl q)
theorem l_cases (V : Bd E B cL_law fkL v.1 v.2.2.2.1 v.2.2.2.2.1 v.2.2.2.2.2.2.2.1 v.2.2.2.2.2.2.2.2) (hX : LX B b L xs v) (hi : i + 6 ≤ L) (hf : nc ≤ 600000 ∧ ns ≤ 7302250) (h : RX B M y) (hn : ∀ M2 y2, RX B M2 y2 → J B fkL v Q (Rep E B M2) nc ns 1814 (lvL b B i) []) {x : Int32} : J B fkL v Q (Rep E B M) nc ns 33 (lvL b B i) [.int x] := by
  by_cases h1 : x.toInt < 0
  · exact j_tableOut (tgt := 1814) V dL_law_33 (Or.inl h1) rfl (hn M y h)
  · by_cases h2 : 41 < x.toInt
    · exact j_tableOut (tgt := 1814) V dL_law_33 (Or.inr h2) rfl (hn M y h)
    · obtain ⟨k, hk⟩ := Int.eq_ofNat_of_zero_le (Int.not_lt.mp h1)
      have hk2 : k < 42 := by omega
      have e : (x.toInt - 0).toNat = k := by omega
      match k, hk2, e with
      | 0, _, e => exact j_tableIn (off := 183) (tgt := 216) V dL_law_33 h1 h2 (by rw [e]; rfl) rfl (lc_0 V hX hi hf h hn)
      | 1, _, e => exact j_tableIn (off := 226) (tgt := 259) V dL_law_33 h1 h2 (by rw [e]; rfl) rfl (lc_1 V hX hi hf h hn)
      | 2, _, e => exact j_tableIn (off := 299) (tgt := 332) V dL_law_33 h1 h2 (by rw [e]; rfl) rfl (lc_2 V hX hi hf h hn)
      | 3, _, e => exact j_tableIn (off := 362) (tgt := 395) V dL_law_33 h1 h2 (by rw [e]; rfl) rfl (lc_3 V hX hi hf h hn)
      | 4, _, e => exact j_tableIn (off := 396) (tgt := 429) V dL_law_33 h1 h2 (by rw [e]; rfl) rfl (lc_4 V hX hi hf h hn)
      | 5, _, e => exact j_tableIn (off := 429) (tgt := 462) V dL_law_33 h1 h2 (by rw [e]; rfl) rfl (lc_5 V hX hi hf h hn)
      | 6, _, e => exact j_tableIn (off := 452) (tgt := 485) V dL_law_33 h1 h2 (by rw [e]; rfl) rfl (lc_6 V hX hi hf h hn)
      | 7, _, e => exact j_tableIn (off := 485) (tgt := 518) V dL_law_33 h1 h2 (by rw [e]; rfl) rfl (lc_7 V hX hi hf h hn)
      | 8, _, e => exact j_tableIn (off := 528) (tgt := 561) V dL_law_33 h1 h2 (by rw [e]; rfl) rfl (lc_8 V hX hi hf h hn)
      | 9, _, e => exact j_tableIn (off := 561) (tgt := 594) V dL_law_33 h1 h2 (by rw [e]; rfl) rfl (lc_9 V hX hi hf h hn)
      | 10, _, e => exact j_tableIn (off := 604) (tgt := 637) V dL_law_33 h1 h2 (by rw [e]; rfl) rfl (lc_10 V hX hi hf h hn)
      | 11, _, e => exact j_tableIn (off := 637) (tgt := 670) V dL_law_33 h1 h2 (by rw [e]; rfl) rfl (lc_11 V hX hi hf h hn)
      | 12, _, e => exact j_tableIn (off := 670) (tgt := 703) V dL_law_33 h1 h2 (by rw [e]; rfl) rfl (lc_12 V hX hi hf h hn)
      | 13, _, e => exact j_tableIn (off := 693) (tgt := 726) V dL_law_33 h1 h2 (by rw [e]; rfl) rfl (lc_13 V hX hi hf h hn)
      | 14, _, e => exact j_tableIn (off := 706) (tgt := 739) V dL_law_33 h1 h2 (by rw [e]; rfl) rfl (lc_14 V hX hi hf h hn)
      | 15, _, e => exact j_tableIn (off := 739) (tgt := 772) V dL_law_33 h1 h2 (by rw [e]; rfl) rfl (lc_15 V hX hi hf h hn)
      | 16, _, e => exact j_tableIn (off := 782) (tgt := 815) V dL_law_33 h1 h2 (by rw [e]; rfl) rfl (lc_16 V hX hi hf h hn)
      | 17, _, e => exact j_tableIn (off := 805) (tgt := 838) V dL_law_33 h1 h2 (by rw [e]; rfl) rfl (lc_17 V hX hi hf h hn)
      | 18, _, e => exact j_tableIn (off := 858) (tgt := 891) V dL_law_33 h1 h2 (by rw [e]; rfl) rfl (lc_18 V hX hi hf h hn)
      | 19, _, e => exact j_tableIn (off := 921) (tgt := 954) V dL_law_33 h1 h2 (by rw [e]; rfl) rfl (lc_19 V hX hi hf h hn)
      | 20, _, e => exact j_tableIn (off := 974) (tgt := 1007) V dL_law_33 h1 h2 (by rw [e]; rfl) rfl (lc_20 V hX hi hf h hn)
      | 21, _, e => exact j_tableIn (off := 1017) (tgt := 1050) V dL_law_33 h1 h2 (by rw [e]; rfl) rfl (lc_21 V hX hi hf h hn)
      | 22, _, e => exact j_tableIn (off := 1060) (tgt := 1093) V dL_law_33 h1 h2 (by rw [e]; rfl) rfl (lc_22 V hX hi hf h hn)
      | 23, _, e => exact j_tableIn (off := 1113) (tgt := 1146) V dL_law_33 h1 h2 (by rw [e]; rfl) rfl (lc_23 V hX hi hf h hn)
      | 24, _, e => exact j_tableIn (off := 1156) (tgt := 1189) V dL_law_33 h1 h2 (by rw [e]; rfl) rfl (lc_24 V hX hi hf h hn)
      | 25, _, e => exact j_tableIn (off := 1219) (tgt := 1252) V dL_law_33 h1 h2 (by rw [e]; rfl) rfl (lc_25 V hX hi hf h hn)
      | 26, _, e => exact j_tableIn (off := 1262) (tgt := 1295) V dL_law_33 h1 h2 (by rw [e]; rfl) rfl (lc_26 V hX hi hf h hn)
      | 27, _, e => exact j_tableIn (off := 1315) (tgt := 1348) V dL_law_33 h1 h2 (by rw [e]; rfl) rfl (lc_27 V hX hi hf h hn)
      | 28, _, e => exact j_tableIn (off := 1368) (tgt := 1401) V dL_law_33 h1 h2 (by rw [e]; rfl) rfl (lc_28 V hX hi hf h hn)
      | 29, _, e => exact j_tableIn (off := 1412) (tgt := 1445) V dL_law_33 h1 h2 (by rw [e]; rfl) rfl (lc_29 V hX hi hf h hn)
      | 30, _, e => exact j_tableIn (off := 1465) (tgt := 1498) V dL_law_33 h1 h2 (by rw [e]; rfl) rfl (lc_30 V hX hi hf h hn)
      | 31, _, e => exact j_tableIn (off := 1498) (tgt := 1531) V dL_law_33 h1 h2 (by rw [e]; rfl) rfl (lc_31 V hX hi hf h hn)
      | 32, _, e => exact j_tableIn (off := 1541) (tgt := 1574) V dL_law_33 h1 h2 (by rw [e]; rfl) rfl (lc_32 V hX hi hf h hn)
      | 33, _, e => exact j_tableIn (off := 1574) (tgt := 1607) V dL_law_33 h1 h2 (by rw [e]; rfl) rfl (lc_33 V hX hi hf h hn)
      | 34, _, e => exact j_tableIn (off := 1597) (tgt := 1630) V dL_law_33 h1 h2 (by rw [e]; rfl) rfl (lc_34 V hX hi hf h hn)
      | 35, _, e => exact j_tableIn (off := 1620) (tgt := 1653) V dL_law_33 h1 h2 (by rw [e]; rfl) rfl (lc_35 V hX hi hf h hn)
      | 36, _, e => exact j_tableIn (off := 1643) (tgt := 1676) V dL_law_33 h1 h2 (by rw [e]; rfl) rfl (lc_36 V hX hi hf h hn)
      | 37, _, e => exact j_tableIn (off := 1666) (tgt := 1699) V dL_law_33 h1 h2 (by rw [e]; rfl) rfl (lc_37 V hX hi hf h hn)
      | 38, _, e => exact j_tableIn (off := 1709) (tgt := 1742) V dL_law_33 h1 h2 (by rw [e]; rfl) rfl (lc_38 V hX hi hf h hn)
      | 39, _, e => exact j_tableIn (off := 1732) (tgt := 1765) V dL_law_33 h1 h2 (by rw [e]; rfl) rfl (lc_39 V hX hi hf h hn)
      | 40, _, e => exact j_tableIn (off := 1745) (tgt := 1778) V dL_law_33 h1 h2 (by rw [e]; rfl) rfl (lc_40 V hX hi hf h hn)
      | 41, _, e => exact j_tableIn (off := 1758) (tgt := 1791) V dL_law_33 h1 h2 (by rw [e]; rfl) rfl (lc_41 V hX hi hf h hn)
      | k + 42, hk2, _ => exact absurd hk2 (by omega)
theorem sub6 {i L : Nat} (hL : L ≤ 3072) (hi : i ≤ 4000) (c : ¬ (nI L - 6 < nI i)) : i + 6 ≤ L := by
  have e : (nI L - 6).toInt = (L : Int) - 6 := by
    rw [Int32.toInt_sub, nI_toInt (by omega), show (6 : Int32).toInt = 6 from rfl]
    simp only [Int.bmod]
    split <;> omega
  have h : ¬ ((nI L - 6).toInt < (nI i).toInt) := fun h => c (Int32.lt_iff_toInt_lt.mpr h)
  rw [e, nI_toInt (by omega)] at h
  omega
theorem l_step (V : Bd E B cL_law fkL v.1 v.2.2.2.1 v.2.2.2.2.1 v.2.2.2.2.2.2.2.1 v.2.2.2.2.2.2.2.2) (hX : LX B b L xs v) (hf : nc ≤ 600000 ∧ ns ≤ 7302250) (hi : i ≤ 4000) (h : RX B M y) (hEnd : ∀ M2 i2, J B fkL v Q (Rep E B M2) nc ns 1821 (lvL b B i2) [.int 1])
    (nx : i + 6 ≤ L → ∀ M2 y2, RX B M2 y2 → J B fkL v Q (Rep E B M2) nc ns 18 (lvL b B (i + 6)) []) : J B fkL v Q (Rep E B M) nc ns 18 (lvL b B i) [] := by
  refine j_iload_n V dL_law_18 rfl rfl ?_
  refine j_aload_n V dL_law_19 rfl rfl ?_
  refine j_slen V hX dL_law_20 ?_
  refine j_bipush (z := 6) V dL_law_21 (by decide +kernel) ?_
  refine j_isub V dL_law_23 rfl ?_
  refine j_icmp_gt (tgt := 1820) V dL_law_24 rfl (fun _ => ?_) (fun c => ?_)
  · exact j_iconst (z := 1) V dL_law_1820 (by decide +kernel) (hEnd M i)
  · have hi6 := sub6 hX.2.2.2 hi c
    refine j_aload_n V dL_law_27 rfl rfl ?_
    refine j_iload_n V dL_law_28 rfl rfl ?_
    refine j_sld V hX (by omega) dL_law_29 ?_
    refine j_bipush (z := 63) V dL_law_30 (by decide +kernel) ?_
    refine j_iand V dL_law_32 rfl ?_
    refine l_cases V hX hi6 hf h (fun M2 y2 h2 => ?_)
    refine j_iinc (z := nI (i + 6)) V dL_law_1814 rfl (nI_add i 6) rfl ?_
    refine j_goto (tgt := 18) V dL_law_1817 rfl ?_
    exact j_le (lvLe_c rfl (lvLe_c rfl (lvLe_c rfl (lvLe_c rfl lvLe_0)))) (nx hi6 M2 y2 h2)
theorem l_loop (V : Bd E B cL_law fkL v.1 v.2.2.2.1 v.2.2.2.2.1 v.2.2.2.2.2.2.2.1 v.2.2.2.2.2.2.2.2) (hX : LX B b L xs v) (hf : nc ≤ 600000 ∧ ns ≤ 7302250) (hEnd : ∀ M2 i2, J B fkL v Q (Rep E B M2) nc ns 1821 (lvL b B i2) [.int 1]) : ∀ (n i : Nat) (M : MM) (y : Sys), L ≤ n + i → i ≤ 4000 → RX B M y → J B fkL v Q (Rep E B M) nc ns 18 (lvL b B i) []
  | 0, i, M, y, h1, h2, h3 => l_step V hX hf h2 h3 hEnd (fun q => absurd q (by omega))
  | n + 1, i, M, y, h1, h2, h3 => l_step V hX hf h2 h3 hEnd (fun q M2 y2 h4 => l_loop V hX hf hEnd n (i + 6) M2 y2 (by omega) (by have := hX.2.2.2; omega) h4)
set_option maxRecDepth 100000 in
theorem l_start (V : Bd E B cL_law fkL v.1 v.2.2.2.1 v.2.2.2.2.1 v.2.2.2.2.2.2.2.1 v.2.2.2.2.2.2.2.2) (hXW : XW v.2.2.2.1) (hX : LX B b L xs v) (hEnd : ∀ M2 i2, J B fkL v Q (Rep E B M2) 102 3964 1821 (lvL b B i2) [.int 1]) : J B fkL v Q (RepN E B []) 0 0 0 [(0, .ref b)] [] := by
  refine k_new 0 15 rfl rfl V nw_L_7 dL_law_0 (by decide +kernel) (by decide +kernel) ?_
  refine j_dup V dL_law_3 rfl ?_
  refine k_world wW1 (wq (by decide +kernel)) ?_
  refine j_init (k := 0) (As := []) V hXW dL_law_4 mw_X6_init ml_L_9 X6_init_at0 rfl rfl (Nat.le_of_ble_eq_true rfl) (by decide +kernel) (by decide +kernel) ?_
  refine j_astore_n V dL_law_7 rfl (by decide) rfl ?_
  refine k_new 80 2044 (by decide +kernel) rfl V nw_L_10 dL_law_8 (by decide +kernel) (by decide +kernel) ?_
  refine j_dup V dL_law_11 rfl ?_
  refine k_world wW75 (wq (by decide +kernel)) ?_
  refine j_init (k := 80) (As := []) V hXW dL_law_12 mw_X7_init ml_L_12 X7_init_at80 rfl rfl (Nat.le_of_ble_eq_true rfl) (by decide +kernel) (by decide +kernel) ?_
  refine j_astore_n V dL_law_15 rfl (by decide) rfl ?_
  refine j_iconst (z := nI 0) V dL_law_16 (by decide +kernel) ?_
  refine j_istore_n V dL_law_17 rfl (by decide) rfl ?_
  refine j_of (S' := Rep E B (mW B)) (fun H h => Rep.ofN h) ?_
  exact l_loop V hX ⟨by decide, by decide⟩ hEnd L 0 (mW B) y0 (Nat.le_refl _) (by decide) ⟨RY_0, RM_0, okY_0⟩
end LAW

