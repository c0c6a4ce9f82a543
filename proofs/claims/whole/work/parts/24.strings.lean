/-! String constants: length and charAt -/
theorem fj_9 : Cond.fieldLink RJ0 9 "java/lang/String" "value" "[B" ∈ tbG := tg_in 1397 (by decide +kernel) rfl
theorem fj_15 : Cond.fieldLink RJ0 15 "java/lang/String" "coder" "B" ∈ tbG := tg_in 1398 (by decide +kernel) rfl
theorem fj_38 : Cond.fieldLink RJ0 38 "java/lang/String" "COMPACT_STRINGS" "Z" ∈ tbG := tg_in 539 (by decide +kernel) rfl
theorem fj_1053 : Cond.fieldLink RJ0 1053 "jdk/internal/util/Preconditions" "SIOOBE_FORMATTER" "Ljava/util/function/BiFunction;" ∈ tbG := tg_in 559 (by decide +kernel) rfl
theorem pn_J0 : plainName RJ0 = true := by decide +kernel
theorem pn_J1 : plainName RJ1 = true := by decide +kernel
theorem pn_J3 : plainName RJ3 = true := by decide +kernel
def sL (i : Nat) : Nat := sLen.getD i 0
def sC (i k : Nat) : Int32 := (sByt.getD i []).getD k 0
theorem s_all : ∀ i, i < 7 → sL i < 8 ∧ ∀ k, k < 8 → (sC i k &&& nI 255 = sC i k ∧ (∃ n, n < 128 ∧ sC i k = nI n)) := by
  intro i hi
  match i, hi with
  | 0, _ => exact ⟨by decide, fun k hk => by match k, hk with
    | 0, _ => exact ⟨by decide, 98, by decide, by decide⟩
    | 1, _ => exact ⟨by decide, 105, by decide, by decide⟩
    | 2, _ => exact ⟨by decide, 115, by decide, by decide⟩
    | 3, _ => exact ⟨by decide, 99, by decide, by decide⟩
    | 4, _ => exact ⟨by decide, 117, by decide, by decide⟩
    | 5, _ => exact ⟨by decide, 105, by decide, by decide⟩
    | 6, _ => exact ⟨by decide, 116, by decide, by decide⟩
    | 7, _ => exact ⟨by decide, 0, by decide, by decide⟩⟩
  | 1, _ => exact ⟨by decide, fun k hk => by match k, hk with
    | 0, _ => exact ⟨by decide, 119, by decide, by decide⟩
    | 1, _ => exact ⟨by decide, 101, by decide, by decide⟩
    | 2, _ => exact ⟨by decide, 116, by decide, by decide⟩
    | 3, _ => exact ⟨by decide, 0, by decide, by decide⟩
    | 4, _ => exact ⟨by decide, 0, by decide, by decide⟩
    | 5, _ => exact ⟨by decide, 0, by decide, by decide⟩
    | 6, _ => exact ⟨by decide, 0, by decide, by decide⟩
    | 7, _ => exact ⟨by decide, 0, by decide, by decide⟩⟩
  | 2, _ => exact ⟨by decide, fun k hk => by match k, hk with
    | 0, _ => exact ⟨by decide, 104, by decide, by decide⟩
    | 1, _ => exact ⟨by decide, 101, by decide, by decide⟩
    | 2, _ => exact ⟨by decide, 97, by decide, by decide⟩
    | 3, _ => exact ⟨by decide, 116, by decide, by decide⟩
    | 4, _ => exact ⟨by decide, 0, by decide, by decide⟩
    | 5, _ => exact ⟨by decide, 0, by decide, by decide⟩
    | 6, _ => exact ⟨by decide, 0, by decide, by decide⟩
    | 7, _ => exact ⟨by decide, 0, by decide, by decide⟩⟩
  | 3, _ => exact ⟨by decide, fun k hk => by match k, hk with
    | 0, _ => exact ⟨by decide, 108, by decide, by decide⟩
    | 1, _ => exact ⟨by decide, 111, by decide, by decide⟩
    | 2, _ => exact ⟨by decide, 115, by decide, by decide⟩
    | 3, _ => exact ⟨by decide, 115, by decide, by decide⟩
    | 4, _ => exact ⟨by decide, 0, by decide, by decide⟩
    | 5, _ => exact ⟨by decide, 0, by decide, by decide⟩
    | 6, _ => exact ⟨by decide, 0, by decide, by decide⟩
    | 7, _ => exact ⟨by decide, 0, by decide, by decide⟩⟩
  | 4, _ => exact ⟨by decide, fun k hk => by match k, hk with
    | 0, _ => exact ⟨by decide, 116, by decide, by decide⟩
    | 1, _ => exact ⟨by decide, 101, by decide, by decide⟩
    | 2, _ => exact ⟨by decide, 97, by decide, by decide⟩
    | 3, _ => exact ⟨by decide, 0, by decide, by decide⟩
    | 4, _ => exact ⟨by decide, 0, by decide, by decide⟩
    | 5, _ => exact ⟨by decide, 0, by decide, by decide⟩
    | 6, _ => exact ⟨by decide, 0, by decide, by decide⟩
    | 7, _ => exact ⟨by decide, 0, by decide, by decide⟩⟩
  | 5, _ => exact ⟨by decide, fun k hk => by match k, hk with
    | 0, _ => exact ⟨by decide, 119, by decide, by decide⟩
    | 1, _ => exact ⟨by decide, 111, by decide, by decide⟩
    | 2, _ => exact ⟨by decide, 114, by decide, by decide⟩
    | 3, _ => exact ⟨by decide, 116, by decide, by decide⟩
    | 4, _ => exact ⟨by decide, 104, by decide, by decide⟩
    | 5, _ => exact ⟨by decide, 0, by decide, by decide⟩
    | 6, _ => exact ⟨by decide, 0, by decide, by decide⟩
    | 7, _ => exact ⟨by decide, 0, by decide, by decide⟩⟩
  | 6, _ => exact ⟨by decide, fun k hk => by match k, hk with
    | 0, _ => exact ⟨by decide, 100, by decide, by decide⟩
    | 1, _ => exact ⟨by decide, 105, by decide, by decide⟩
    | 2, _ => exact ⟨by decide, 112, by decide, by decide⟩
    | 3, _ => exact ⟨by decide, 0, by decide, by decide⟩
    | 4, _ => exact ⟨by decide, 0, by decide, by decide⟩
    | 5, _ => exact ⟨by decide, 0, by decide, by decide⟩
    | 6, _ => exact ⟨by decide, 0, by decide, by decide⟩
    | 7, _ => exact ⟨by decide, 0, by decide, by decide⟩⟩
section STR
variable {E : EE} {B : Nat} {code : ByteArray} {fk : FK} {pc : Nat} {lv : List (Nat × Value)} {st : List Value} {M : MM}
theorem g_getSv {i idx : Nat} (hd : decode code pc = .ok (.getfield idx, 3)) (hl : Cond.fieldLink fk.1 idx "java/lang/String" "value" "[B" ∈ tbG) (hi : i < 7) (kk : G E B code fk (pc + 3) lv (.ref (E.2.2.2.2.2 i) :: st) M) : G E B code fk pc lv (.ref (E.2.2.2.2.1 i) :: st) M := by
  intro p l e s m args below meth c H locs ls hB hR hS hL
  have hE := hB.2.2.2.2.2.2.1
  exact vk_getf hB.1 hB.2.1 (hE.2.2.2.2.2.1.1 i hi).2.2.1 hS hB.2.2.2.2.2.1 (hE.1 _ hl args) (fun _ h => h) hd (kk p l e s m args below meth c H locs ls hB hR hS hL)
theorem g_getSc {i idx : Nat} (hd : decode code pc = .ok (.getfield idx, 3)) (hl : Cond.fieldLink fk.1 idx "java/lang/String" "coder" "B" ∈ tbG) (hi : i < 7) (kk : G E B code fk (pc + 3) lv (.int 0 :: st) M) : G E B code fk pc lv (.ref (E.2.2.2.2.1 i) :: st) M := by
  intro p l e s m args below meth c H locs ls hB hR hS hL
  have hE := hB.2.2.2.2.2.2.1
  exact vk_getf hB.1 hB.2.1 (hE.2.2.2.2.2.1.1 i hi).2.1 hS hB.2.2.2.2.2.1 (hE.1 _ hl args) (fun _ h => h) hd (kk p l e s m args below meth c H locs ls hB hR hS hL)
theorem g_alenS {i : Nat} (hd : decode code pc = .ok (.arraylength, 1)) (hi : i < 7) (kk : G E B code fk (pc + 1) lv (.int (nI (sL i)) :: st) M) : G E B code fk pc lv (.ref (E.2.2.2.2.2 i) :: st) M := by
  intro p l e s m args below meth c H locs ls hB hR hS hL
  have hE := hB.2.2.2.2.2.2.1
  exact va_tlen hB.1 hB.2.1 (hE.2.2.2.2.2.1.1 i hi).2.2.2 hS rfl hd (kk p l e s m args below meth c H locs ls hB hR hS hL)
theorem g_baldS {i q : Nat} (hd : decode code pc = .ok (.baload, 1)) (hi : i < 7) (hq : q < sL i) (kk : G E B code fk (pc + 1) lv (.int (sC i q) :: st) M) : G E B code fk pc lv (.int (nI q) :: .ref (E.2.2.2.2.2 i) :: st) M := by
  intro p l e s m args below meth c H locs ls hB hR hS hL
  have hE := hB.2.2.2.2.2.2.1
  have h8 := (s_all i hi).1
  exact va_tb hB.1 hB.2.1 (hE.2.2.2.2.2.1.1 i hi).2.2.2 hS (vp_in_nI hq (show sL i < 2 ^ 31 by omega)) (by rw [nI_clamp (by omega)]; rfl) hd (kk p l e s m args below meth c H locs ls hB hR hS hL)
theorem g_getCS {idx : Nat} (hd : decode code pc = .ok (.getstatic idx, 3)) (hw : Cond.fieldLink fk.1 idx "java/lang/String" "COMPACT_STRINGS" "Z" ∈ tbG) (kk : G E B code fk (pc + 3) lv (.int 1 :: st) M) : G E B code fk pc lv st M := by
  intro p l e s m args below meth c H locs ls hB hR hS hL
  have hE := hB.2.2.2.2.2.2.1
  exact va_gets hB.1 hB.2.1 hE.2.2.2.2.2.2.1 hS hB.2.2.2.2.2.1 (hE.1 _ hw args) (fun _ h => h) hd (kk p l e s m args below meth c H locs ls hB hR hS hL)
theorem g_getSF {idx : Nat} (hd : decode code pc = .ok (.getstatic idx, 3)) (hw : Cond.fieldLink fk.1 idx "jdk/internal/util/Preconditions" "SIOOBE_FORMATTER" "Ljava/util/function/BiFunction;" ∈ tbG) (kk : ∀ v : Value, (v = .null ∨ ∃ t, v = .ref t) → G E B code fk (pc + 3) lv (v :: st) M) : G E B code fk pc lv st M := by
  intro p l e s m args below meth c H locs ls hB hR hS hL
  have hE := hB.2.2.2.2.2.2.1
  rcases hE.2.2.2.2.2.2.2 with h | ⟨t, h⟩
  · exact va_gets hB.1 hB.2.1 h hS hB.2.2.2.2.2.1 (hE.1 _ hw args) (fun _ h => h) hd (kk _ (Or.inl rfl) p l e s m args below meth c H locs ls hB hR hS hL)
  · exact va_gets hB.1 hB.2.1 h hS hB.2.2.2.2.2.1 (hE.1 _ hw args) (fun _ h => h) hd (kk _ (Or.inr ⟨t, rfl⟩) p l e s m args below meth c H locs ls hB hR hS hL)
theorem g_i2c {x v : Int32} (hd : decode code pc = .ok (.i2c, 1)) (hv : (x.toUInt32 % 65536).toInt32 = v) (k : G E B code fk (pc + 1) lv (.int v :: st) M) : G E B code fk pc lv (.int x :: st) M := by
  intro p l e s m args below meth c H locs ls hB hR hS hL
  exact lv_i2c hB.1 hB.2.1 hd hv (k p l e s m args below meth c H locs ls hB hR hS hL)
theorem g_sret {own : String} {nL : Nat} {R : Room} {F : Option Value → MM → Prop} {v : Int32} {ty : FieldType} (hd : decode code pc = .ok (.ireturn, 1)) (hv : narrow ty (.int v) = .int v) (h : F (some (.int v)) M) : G E B code (own, nL, some ty, R, 0, 0, KM E B F) pc lv [.int v] M := by
  intro p l e s m args below meth c H locs ls hB hR hS hL
  have hlocks := hB.2.2.2.2.1
  exact W.zret hB.1 hB.2.1 hB.2.2.2.1 hv (fun t ht hW => ⟨⟨_, M, rfl, h, by rw [ht]; exact hR⟩, hS.F ht⟩) hS.2.2 hd
theorem g_aret {own : String} {nL : Nat} {R : Room} {F : Option Value → MM → Prop} {a : Nat} {ty : FieldType} (hd : decode code pc = .ok (.areturn, 1)) (hrt : (∃ n, ty = .object n) ∨ ∃ t, ty = .array t) (h : F (some (.ref a)) M) : G E B code (own, nL, some ty, R, 0, 0, KM E B F) pc lv [.ref a] M := by
  intro p l e s m args below meth c H locs ls hB hR hS hL
  have hlocks := hB.2.2.2.2.1
  exact W.aret hB.1 hB.2.1 hB.2.2.2.1 hrt (Or.inr ⟨a, rfl⟩) (fun t ht hW => ⟨⟨_, M, rfl, h, by rw [ht]; exact hR⟩, hS.F ht⟩) hS.2.2 hd
theorem g_callStr {idx i d nL n : Nat} {y : MethodName} {code2 : ByteArray} {ret2 : Option FieldType} {As st0 : List Value} {x : Int32}
    (hd : decode code pc = .ok (.invokevirtual idx, 3)) (hm : MI y code2 nL ret2 n) (hl : Cond.methodLink fk.1 idx y ∈ tbG) (hC : Ct E B y code2 nL ret2 d (.ref (E.2.2.2.2.1 i) :: As) M (Rp x M)) (hi : i < 7) (hc : y.cls = "java/lang/String") (hn : As.length = n) (hst : st0 = As.reverse ++ .ref (E.2.2.2.2.1 i) :: st) (hw : (st.map fun v => v.category).sum ≤ 8)
    (hr : d + 1 ≤ fk.2.2.2.1.frames ∧ 8 + (nL + 11) + 40 * d ≤ fk.2.2.2.1.locals) (kk : G E B code fk (pc + 3) lv (.int x :: st) M) : G E B code fk pc lv st0 M := by
  intro p l e s m args below meth c H locs ls hB hR hS hL
  have hE := hB.2.2.2.2.2.2.1
  obtain ⟨m1, m2, m3, m4, m5, m6⟩ := hm
  subst hst
  have hrv := vk_recv hE.2.2.2.2.2.1 hi hS
  rw [← hc] at hrv
  refine va_back (va_runV (own := fk.1) (cc := code) (nL := fk.2.1) (Ts := tbG) (As := As) (rest := st) (n := n) ⟨hB.1, hB.2.1, hB.2.2.1, hB.2.2.2.2.2.1, fun w hw => hE.1 w hw args⟩ (hC l) ⟨⟨rfl, rfl, hr.1, hr.2, ws_warm hE m1, List.mem_cons_self, hE.1 _ m1 args, hE.1 _ m4 args, m5, fun sig h => ?_, hE.1 _ hl args⟩, hE.1 _ m2 args, hE.1 _ m3 args⟩ ⟨PcO_blind, hrv, fun U hU hW => ⟨rfl, EV.warm hW hU hS hE, by rw [hU]; exact hR⟩⟩ rfl hn hL.1 rfl (by simpa using hw) hd hB.2.2.2.2.2.2.2) hS (fun r M' ⟨x', hx, hp1, hp2⟩ H1 locs1 hR1 hS1 => by subst hx; subst hp1; subst hp2; exact kk p l e s m args below meth c H1 locs1 ls hB hR1 hS1 hL)
  rw [h] at m6
  exact (Option.some.inj m6).symm
/-- a static call that answers a reference -/
theorem g_callSr {idx d nL n a : Nat} {y : MethodName} {code2 : ByteArray} {ret2 : Option FieldType} {As st0 : List Value}
    (hd : decode code pc = .ok (.invokestatic idx, 3)) (hm : MS y code2 nL ret2 n) (hl : Cond.methodLink fk.1 idx y ∈ tbG) (hC : Ct E B y code2 nL ret2 d As M (fun r M' => r = some (.ref a) ∧ M' = M)) (hn : As.length = n) (hst : st0 = As.reverse ++ st) (hw : (st.map fun v => v.category).sum ≤ 8)
    (hr : d + 1 ≤ fk.2.2.2.1.frames ∧ 8 + (nL + 11) + 40 * d ≤ fk.2.2.2.1.locals) (kk : G E B code fk (pc + 3) lv (.ref a :: st) M) : G E B code fk pc lv st0 M :=
  g_callS hd hm hl hC hn hst hw hr (fun r M' ⟨hx, hp⟩ => by subst hx; subst hp; exact kk)
theorem g_callSv {idx d nL n : Nat} {y : MethodName} {code2 : ByteArray} {ret2 : Option FieldType} {As st0 : List Value} {post : MM → Prop}
    (hd : decode code pc = .ok (.invokestatic idx, 3)) (hm : MS y code2 nL ret2 n) (hl : Cond.methodLink fk.1 idx y ∈ tbG) (hC : Ct E B y code2 nL ret2 d As M (Rv post)) (hn : As.length = n) (hst : st0 = As.reverse ++ st) (hw : (st.map fun v => v.category).sum ≤ 8)
    (hr : d + 1 ≤ fk.2.2.2.1.frames ∧ 8 + (nL + 11) + 40 * d ≤ fk.2.2.2.1.locals) (kk : ∀ M', post M' → G E B code fk (pc + 3) lv st M') : G E B code fk pc lv st0 M :=
  g_callS hd hm hl hC hn hst hw hr (fun r M' ⟨hx, hp⟩ => by subst hx; exact kk M' hp)
theorem ct_coder {i : Nat} (hi : i < 7) : Ct E B yJ0_coder_7d493 cJ0_coder_7d493 1 (some .byte) 0 [.ref (E.2.2.2.2.1 i)] M (Rp 0 M) := by
  refine Ct.of2 (own := RJ0) (lv := [(0, .ref (E.2.2.2.2.1 i))]) pn_J0 rfl (Nat.le_of_ble_eq_true rfl) rfl ?_
  refine g_getCS dJ0_coder_7d493_0 fj_38 ?_
  refine g_if_eq (tgt := 13) dJ0_coder_7d493_3 (by decide) (fun c => absurd c (by decide)) (fun _ => ?_)
  refine g_aload_n dJ0_coder_7d493_6 rfl rfl ?_
  refine g_getSc dJ0_coder_7d493_7 fj_15 hi ?_
  refine g_goto (tgt := 14) dJ0_coder_7d493_10 (by decide) ?_
  exact g_sret dJ0_coder_7d493_14 rfl ⟨_, rfl, rfl, rfl⟩
theorem ct_isLatin1 {i : Nat} (hi : i < 7) : Ct E B yJ0_isLatin1_aae02 cJ0_isLatin1_aae02 1 (some .boolean) 0 [.ref (E.2.2.2.2.1 i)] M (Rp (nI 1) M) := by
  refine Ct.of2 (own := RJ0) (lv := [(0, .ref (E.2.2.2.2.1 i))]) pn_J0 rfl (Nat.le_of_ble_eq_true rfl) rfl ?_
  refine g_getCS dJ0_isLatin1_aae02_0 fj_38 ?_
  refine g_if_eq (tgt := 17) dJ0_isLatin1_aae02_3 (by decide) (fun c => absurd c (by decide)) (fun _ => ?_)
  refine g_aload_n dJ0_isLatin1_aae02_6 rfl rfl ?_
  refine g_getSc dJ0_isLatin1_aae02_7 fj_15 hi ?_
  refine g_if_ne (tgt := 17) dJ0_isLatin1_aae02_10 (by decide) (fun c => absurd rfl c) (fun _ => ?_)
  refine g_iconst dJ0_isLatin1_aae02_13 kI_1 ?_
  refine g_goto (tgt := 18) dJ0_isLatin1_aae02_14 (by decide) ?_
  exact g_zret dJ0_isLatin1_aae02_18 (Or.inr rfl) ⟨_, rfl, rfl, rfl⟩
theorem ct_length {i : Nat} (hi : i < 7) : Ct E B yJ0_length_8abf5 cJ0_length_8abf5 1 (some .int) 1 [.ref (E.2.2.2.2.1 i)] M (Rp (nI (sL i)) M) := by
  have h8 := (s_all i hi).1
  refine Ct.of2 (own := RJ0) (lv := [(0, .ref (E.2.2.2.2.1 i))]) pn_J0 rfl (Nat.le_of_ble_eq_true rfl) rfl ?_
  refine g_aload_n dJ0_length_8abf5_0 rfl rfl ?_
  refine g_getSv dJ0_length_8abf5_1 fj_9 hi ?_
  refine g_alenS dJ0_length_8abf5_4 hi ?_
  refine g_aload_n dJ0_length_8abf5_5 rfl rfl ?_
  refine g_callStr dJ0_length_8abf5_6 mi_J0_coder_7d493 ml_J0_335 (ct_coder hi) hi rfl rfl rfl (Nat.le_of_ble_eq_true rfl) ⟨lt_r rfl, Nat.le_of_ble_eq_true rfl⟩ ?_
  refine g_ishr dJ0_length_8abf5_9 (sc_shr0 (by omega)) ?_
  exact g_iret dJ0_length_8abf5_10 ⟨_, rfl, rfl, rfl⟩
theorem ct_pre {i n : Nat} {v : Value} (hv : v = .null ∨ ∃ t, v = .ref t) (h : i < n) (hn : n < 2 ^ 31) : Ct E B yJ3_checkIndex_8e157 cJ3_checkIndex_8e157 3 (some .int) 0 [.int (nI i), .int (nI n), v] M (Rp (nI i) M) := by
  refine Ct.of2 (own := RJ3) (lv := [(0, .int (nI i)), (1, .int (nI n)), (2, v)]) pn_J3 rfl (by rcases hv with rfl | ⟨t, rfl⟩ <;> exact Nat.le_of_ble_eq_true rfl) (by rcases hv with rfl | ⟨t, rfl⟩ <;> rfl) ?_
  refine g_iload_n dJ3_checkIndex_8e157_0 rfl rfl ?_
  refine g_if_ltN (tgt := 9) dJ3_checkIndex_8e157_1 (by decide) rfl (by omega) ?_
  refine g_iload_n dJ3_checkIndex_8e157_4 rfl rfl ?_
  refine g_iload_n dJ3_checkIndex_8e157_5 rfl rfl ?_
  refine g_icmp_ltN (tgt := 16) dJ3_checkIndex_8e157_6 (by decide) rfl rfl (by omega) (by omega) (fun _ => ?_) (fun c => absurd c (by omega))
  refine g_iload_n dJ3_checkIndex_8e157_16 rfl rfl ?_
  exact g_iret dJ3_checkIndex_8e157_17 ⟨_, rfl, rfl, rfl⟩
theorem ct_check {i n : Nat} (h : i < n) (hn : n < 2 ^ 31) : Ct E B yJ0_checkIndex_df160 cJ0_checkIndex_df160 2 none 1 [.int (nI i), .int (nI n)] M (Rv (fun M' => M' = M)) := by
  refine Ct.of2 (own := RJ0) (lv := [(0, .int (nI i)), (1, .int (nI n))]) pn_J0 rfl (Nat.le_of_ble_eq_true rfl) rfl ?_
  refine g_iload_n dJ0_checkIndex_df160_0 rfl rfl ?_
  refine g_iload_n dJ0_checkIndex_df160_1 rfl rfl ?_
  refine g_getSF dJ0_checkIndex_df160_2 fj_1053 (fun v hv => ?_)
  refine g_callSp dJ0_checkIndex_df160_5 ms_J3_checkIndex_8e157 ml_J0_1059 (ct_pre hv h hn) rfl rfl (Nat.le_of_ble_eq_true rfl) ⟨lt_r rfl, Nat.le_of_ble_eq_true rfl⟩ ?_
  refine g_pop dJ0_checkIndex_df160_8 rfl ?_
  exact g_vret dJ0_checkIndex_df160_9 ⟨rfl, rfl⟩
theorem ct_latin {i q : Nat} (hi : i < 7) (hq : q < sL i) : Ct E B yJ1_charAt_3b067 cJ1_charAt_3b067 2 (some .char) 2 [.ref (E.2.2.2.2.2 i), .int (nI q)] M (Rp (sC i q) M) := by
  have h8 := (s_all i hi).1
  obtain ⟨h9, n, hn, h10⟩ := (s_all i hi).2 q (by omega)
  refine Ct.of2 (own := RJ1) (lv := [(0, .ref (E.2.2.2.2.2 i)), (1, .int (nI q))]) pn_J1 rfl (Nat.le_of_ble_eq_true rfl) rfl ?_
  refine g_iload_n dJ1_charAt_3b067_0 rfl rfl ?_
  refine g_aload_n dJ1_charAt_3b067_1 rfl rfl ?_
  refine g_alenS dJ1_charAt_3b067_2 hi ?_
  refine g_callSv dJ1_charAt_3b067_3 ms_J0_checkIndex_df160 ml_J1_9 (ct_check hq (by omega)) rfl rfl (Nat.le_of_ble_eq_true rfl) ⟨lt_r rfl, Nat.le_of_ble_eq_true rfl⟩ (fun M' h => ?_)
  subst h
  refine g_aload_n dJ1_charAt_3b067_6 rfl rfl ?_
  refine g_iload_n dJ1_charAt_3b067_7 rfl rfl ?_
  refine g_baldS dJ1_charAt_3b067_8 hi hq ?_
  refine g_sipush (v := nI 255) dJ1_charAt_3b067_9 (by decide) ?_
  refine g_iand dJ1_charAt_3b067_12 h9 ?_
  refine g_i2c (v := sC i q) dJ1_charAt_3b067_13 (by rw [h10]; exact (sb_byte n (by omega)).2.1) ?_
  exact g_sret dJ1_charAt_3b067_14 (by rw [h10]; exact (pk_charN (by omega)).1) ⟨_, rfl, rfl, rfl⟩
theorem ct_charAt {i q : Nat} (hi : i < 7) (hq : q < sL i) : Ct E B yJ0_charAt_5068e cJ0_charAt_5068e 2 (some .char) 3 [.ref (E.2.2.2.2.1 i), .int (nI q)] M (Rp (sC i q) M) := by
  have h8 := (s_all i hi).1
  obtain ⟨h9, n, hn, h10⟩ := (s_all i hi).2 q (by omega)
  refine Ct.of2 (own := RJ0) (lv := [(0, .ref (E.2.2.2.2.1 i)), (1, .int (nI q))]) pn_J0 rfl (Nat.le_of_ble_eq_true rfl) rfl ?_
  refine g_aload_n dJ0_charAt_5068e_0 rfl rfl ?_
  refine g_callStr dJ0_charAt_5068e_1 mi_J0_isLatin1_aae02 ml_J0_492 (ct_isLatin1 hi) hi rfl rfl rfl (Nat.le_of_ble_eq_true rfl) ⟨lt_r rfl, Nat.le_of_ble_eq_true rfl⟩ ?_
  refine g_if_eq (tgt := 16) dJ0_charAt_5068e_4 (by decide) (fun c => absurd c (by decide)) (fun _ => ?_)
  refine g_aload_n dJ0_charAt_5068e_7 rfl rfl ?_
  refine g_getSv dJ0_charAt_5068e_8 fj_9 hi ?_
  refine g_iload_n dJ0_charAt_5068e_11 rfl rfl ?_
  refine g_callSp dJ0_charAt_5068e_12 ms_J1_charAt_3b067 ml_J0_495 (ct_latin hi hq) rfl rfl (Nat.le_of_ble_eq_true rfl) ⟨lt_r rfl, Nat.le_of_ble_eq_true rfl⟩ ?_
  exact g_sret dJ0_charAt_5068e_15 (by rw [h10]; exact (pk_charN (by omega)).1) ⟨_, rfl, rfl, rfl⟩
theorem ct_X3_lettersOf {w : Nat} (hw : w < 7) : Ct E B yX3_lettersOf cX3_lettersOf 1 (some (.object "java/lang/String")) 0 [.int (nI w)] M (fun r M' => r = some (.ref (E.2.2.2.2.1 w)) ∧ M' = M) := by
  refine Ct.of2 (own := RX3) (lv := [(0, .int (nI w))]) pn_X3 rfl (Nat.le_of_ble_eq_true rfl) rfl ?_
  refine g_iload_n dX3_lettersOf_0 rfl rfl ?_
  refine g_tblC (off := 39) (tgt := 40) dX3_lettersOf_1 0 (by decide) (by decide) (by decide) (by decide) (fun c_0 => ?_) (fun c_0 => ?_)
  · have e : w = 0 := (nI_eq (by omega) (by decide)).mp c_0
    subst e
    refine g_ldcS (i := 0) dX3_lettersOf_40 (by decide) rfl ?_
    exact g_aret dX3_lettersOf_42 (Or.inl ⟨_, rfl⟩) ⟨rfl, rfl⟩
  refine g_tblC (off := 42) (tgt := 43) dX3_lettersOf_1 1 (by decide) (by decide) (by decide) (by decide) (fun c_1 => ?_) (fun c_1 => ?_)
  · have e : w = 1 := (nI_eq (by omega) (by decide)).mp c_1
    subst e
    refine g_ldcS (i := 1) dX3_lettersOf_43 (by decide) rfl ?_
    exact g_aret dX3_lettersOf_45 (Or.inl ⟨_, rfl⟩) ⟨rfl, rfl⟩
  refine g_tblC (off := 45) (tgt := 46) dX3_lettersOf_1 2 (by decide) (by decide) (by decide) (by decide) (fun c_2 => ?_) (fun c_2 => ?_)
  · have e : w = 2 := (nI_eq (by omega) (by decide)).mp c_2
    subst e
    refine g_ldcS (i := 2) dX3_lettersOf_46 (by decide) rfl ?_
    exact g_aret dX3_lettersOf_48 (Or.inl ⟨_, rfl⟩) ⟨rfl, rfl⟩
  refine g_tblC (off := 48) (tgt := 49) dX3_lettersOf_1 3 (by decide) (by decide) (by decide) (by decide) (fun c_3 => ?_) (fun c_3 => ?_)
  · have e : w = 3 := (nI_eq (by omega) (by decide)).mp c_3
    subst e
    refine g_ldcS (i := 3) dX3_lettersOf_49 (by decide) rfl ?_
    exact g_aret dX3_lettersOf_51 (Or.inl ⟨_, rfl⟩) ⟨rfl, rfl⟩
  refine g_tblC (off := 51) (tgt := 52) dX3_lettersOf_1 4 (by decide) (by decide) (by decide) (by decide) (fun c_4 => ?_) (fun c_4 => ?_)
  · have e : w = 4 := (nI_eq (by omega) (by decide)).mp c_4
    subst e
    refine g_ldcS (i := 4) dX3_lettersOf_52 (by decide) rfl ?_
    exact g_aret dX3_lettersOf_54 (Or.inl ⟨_, rfl⟩) ⟨rfl, rfl⟩
  refine g_tblC (off := 54) (tgt := 55) dX3_lettersOf_1 5 (by decide) (by decide) (by decide) (by decide) (fun c_5 => ?_) (fun c_5 => ?_)
  · have e : w = 5 := (nI_eq (by omega) (by decide)).mp c_5
    subst e
    refine g_ldcS (i := 5) dX3_lettersOf_55 (by decide) rfl ?_
    exact g_aret dX3_lettersOf_57 (Or.inl ⟨_, rfl⟩) ⟨rfl, rfl⟩
  have k1 := nI_toInt (n := w) (by omega)
  have e : w = 6 := by omega
  subst e
  refine g_tableOut (tgt := 58) dX3_lettersOf_1 (by decide) (by decide) ?_
  refine g_ldcS (i := 6) dX3_lettersOf_58 (by decide) rfl ?_
  exact g_aret dX3_lettersOf_60 (Or.inl ⟨_, rfl⟩) ⟨rfl, rfl⟩
end STR
