theorem lt_r {a b : Nat} (h : Nat.ble (a + 1) b = true) : a < b := Nat.le_of_ble_eq_true h
theorem inc_nI (a : Nat) : nI a + Int32.ofInt 1 = nI (a + 1) := nI_add a 1
theorem dec_nI {a : Nat} (h : 1 ≤ a) : nI a + Int32.ofInt (-1) = nI (a - 1) := by
  obtain ⟨b, rfl⟩ : ∃ b, a = b + 1 := ⟨a - 1, by omega⟩
  exact pk_m1 b
theorem kB_m7 : (Int8.ofInt (-7)).toInt32 = (-7 : Int32) := by decide
theorem kB_m6 : (Int8.ofInt (-6)).toInt32 = (-6 : Int32) := by decide
theorem kB_m5 : (Int8.ofInt (-5)).toInt32 = (-5 : Int32) := by decide
theorem kB_m4 : (Int8.ofInt (-4)).toInt32 = (-4 : Int32) := by decide
theorem kB_m3 : (Int8.ofInt (-3)).toInt32 = (-3 : Int32) := by decide
theorem kB_m2 : (Int8.ofInt (-2)).toInt32 = (-2 : Int32) := by decide
theorem kB_6 : (Int8.ofInt (6)).toInt32 = nI 6 := by decide
theorem kB_7 : (Int8.ofInt (7)).toInt32 = nI 7 := by decide
theorem kB_8 : (Int8.ofInt (8)).toInt32 = nI 8 := by decide
theorem kB_9 : (Int8.ofInt (9)).toInt32 = nI 9 := by decide
theorem kB_10 : (Int8.ofInt (10)).toInt32 = nI 10 := by decide
theorem kB_11 : (Int8.ofInt (11)).toInt32 = nI 11 := by decide
theorem kB_12 : (Int8.ofInt (12)).toInt32 = nI 12 := by decide
theorem kB_13 : (Int8.ofInt (13)).toInt32 = nI 13 := by decide
theorem kB_14 : (Int8.ofInt (14)).toInt32 = nI 14 := by decide
theorem kB_15 : (Int8.ofInt (15)).toInt32 = nI 15 := by decide
theorem kB_16 : (Int8.ofInt (16)).toInt32 = nI 16 := by decide
theorem kB_17 : (Int8.ofInt (17)).toInt32 = nI 17 := by decide
theorem kB_18 : (Int8.ofInt (18)).toInt32 = nI 18 := by decide
theorem kB_19 : (Int8.ofInt (19)).toInt32 = nI 19 := by decide
theorem kB_20 : (Int8.ofInt (20)).toInt32 = nI 20 := by decide
theorem kB_21 : (Int8.ofInt (21)).toInt32 = nI 21 := by decide
theorem kB_22 : (Int8.ofInt (22)).toInt32 = nI 22 := by decide
theorem kB_23 : (Int8.ofInt (23)).toInt32 = nI 23 := by decide
theorem kB_24 : (Int8.ofInt (24)).toInt32 = nI 24 := by decide
theorem kB_25 : (Int8.ofInt (25)).toInt32 = nI 25 := by decide
theorem kB_26 : (Int8.ofInt (26)).toInt32 = nI 26 := by decide
theorem kB_27 : (Int8.ofInt (27)).toInt32 = nI 27 := by decide
theorem kB_28 : (Int8.ofInt (28)).toInt32 = nI 28 := by decide
theorem kB_29 : (Int8.ofInt (29)).toInt32 = nI 29 := by decide
theorem kB_30 : (Int8.ofInt (30)).toInt32 = nI 30 := by decide
theorem kB_31 : (Int8.ofInt (31)).toInt32 = nI 31 := by decide
theorem kB_32 : (Int8.ofInt (32)).toInt32 = nI 32 := by decide
theorem kB_33 : (Int8.ofInt (33)).toInt32 = nI 33 := by decide
theorem kB_34 : (Int8.ofInt (34)).toInt32 = nI 34 := by decide
theorem kB_35 : (Int8.ofInt (35)).toInt32 = nI 35 := by decide
theorem kB_36 : (Int8.ofInt (36)).toInt32 = nI 36 := by decide
theorem kB_37 : (Int8.ofInt (37)).toInt32 = nI 37 := by decide
theorem kB_38 : (Int8.ofInt (38)).toInt32 = nI 38 := by decide
theorem kB_39 : (Int8.ofInt (39)).toInt32 = nI 39 := by decide
theorem kB_40 : (Int8.ofInt (40)).toInt32 = nI 40 := by decide
theorem kB_41 : (Int8.ofInt (41)).toInt32 = nI 41 := by decide
theorem kB_42 : (Int8.ofInt (42)).toInt32 = nI 42 := by decide
theorem kB_43 : (Int8.ofInt (43)).toInt32 = nI 43 := by decide
theorem kB_48 : (Int8.ofInt (48)).toInt32 = nI 48 := by decide
theorem kB_50 : (Int8.ofInt (50)).toInt32 = nI 50 := by decide
theorem kB_51 : (Int8.ofInt (51)).toInt32 = nI 51 := by decide
theorem kB_57 : (Int8.ofInt (57)).toInt32 = nI 57 := by decide
theorem kB_59 : (Int8.ofInt (59)).toInt32 = nI 59 := by decide
theorem kB_60 : (Int8.ofInt (60)).toInt32 = nI 60 := by decide
theorem kB_63 : (Int8.ofInt (63)).toInt32 = nI 63 := by decide
theorem kB_70 : (Int8.ofInt (70)).toInt32 = nI 70 := by decide
theorem kB_71 : (Int8.ofInt (71)).toInt32 = nI 71 := by decide
theorem kB_72 : (Int8.ofInt (72)).toInt32 = nI 72 := by decide
theorem kB_97 : (Int8.ofInt (97)).toInt32 = nI 97 := by decide
theorem kB_98 : (Int8.ofInt (98)).toInt32 = nI 98 := by decide
theorem kB_99 : (Int8.ofInt (99)).toInt32 = nI 99 := by decide
theorem kB_100 : (Int8.ofInt (100)).toInt32 = nI 100 := by decide
theorem kB_101 : (Int8.ofInt (101)).toInt32 = nI 101 := by decide
theorem kB_104 : (Int8.ofInt (104)).toInt32 = nI 104 := by decide
theorem kB_105 : (Int8.ofInt (105)).toInt32 = nI 105 := by decide
theorem kB_108 : (Int8.ofInt (108)).toInt32 = nI 108 := by decide
theorem kB_111 : (Int8.ofInt (111)).toInt32 = nI 111 := by decide
theorem kB_112 : (Int8.ofInt (112)).toInt32 = nI 112 := by decide
theorem kB_114 : (Int8.ofInt (114)).toInt32 = nI 114 := by decide
theorem kB_115 : (Int8.ofInt (115)).toInt32 = nI 115 := by decide
theorem kB_116 : (Int8.ofInt (116)).toInt32 = nI 116 := by decide
theorem kB_117 : (Int8.ofInt (117)).toInt32 = nI 117 := by decide
theorem kB_119 : (Int8.ofInt (119)).toInt32 = nI 119 := by decide
theorem kB_120 : (Int8.ofInt (120)).toInt32 = nI 120 := by decide
theorem kI_m1 : Int32.ofInt (-1) = (-1 : Int32) := by decide
theorem kI_0 : Int32.ofInt (0) = nI 0 := by decide
theorem kI_1 : Int32.ofInt (1) = nI 1 := by decide
theorem kI_2 : Int32.ofInt (2) = nI 2 := by decide
theorem kI_3 : Int32.ofInt (3) = nI 3 := by decide
theorem kI_4 : Int32.ofInt (4) = nI 4 := by decide
theorem kI_5 : Int32.ofInt (5) = nI 5 := by decide
theorem kS_160 : (Int16.ofInt (160)).toInt32 = nI 160 := by decide
theorem kS_1000 : (Int16.ofInt (1000)).toInt32 = nI 1000 := by decide
theorem kS_1280 : (Int16.ofInt (1280)).toInt32 = nI 1280 := by decide
theorem kS_9999 : (Int16.ofInt (9999)).toInt32 = nI 9999 := by decide
theorem kS_12345 : (Int16.ofInt (12345)).toInt32 = nI 12345 := by decide
theorem g_tblC {E : EE} {B : Nat} {code : ByteArray} {fk : FK} {pc : Nat} {lv : List (Nat × Value)} {st : List Value} {M : MM} {dflt lo hi : Int} {offs : Array Int} {len : Nat} {x : Int32} {off : Int} {tgt : Nat} (hd : decode code pc = .ok (.tableswitch dflt lo hi offs, len)) (v : Nat) (hv : v < 2 ^ 31) (h1 : lo ≤ v ∧ (v : Int) ≤ hi) (ho : offs[((v : Int) - lo).toNat]? = some off) (ht : (pc : Int) + off = (tgt : Int)) (k0 : x = nI v → G E B code fk tgt lv st M) (k1 : ¬ x.toInt = v → G E B code fk pc lv (.int x :: st) M) : G E B code fk pc lv (.int x :: st) M := by
  by_cases h : x.toInt = v
  · refine g_tableIn hd (by omega) (by omega) (by rw [h]; exact ho) ht (k0 ?_)
    exact Int32.toInt_inj.mp (by rw [h, nI_toInt hv])
  · exact k1 h
