/-! Further numbers. -/
theorem tk_m8 : tq_iv (-8) (-8) (-8 : Int32) := ⟨by decide, by decide⟩
theorem tk_m5 : tq_iv (-5) (-5) (-5 : Int32) := ⟨by decide, by decide⟩
theorem tk_m4 : tq_iv (-4) (-4) (-4 : Int32) := ⟨by decide, by decide⟩
theorem tk_m3 : tq_iv (-3) (-3) (-3 : Int32) := ⟨by decide, by decide⟩
theorem tk_m2 : tq_iv (-2) (-2) (-2 : Int32) := ⟨by decide, by decide⟩
theorem tk_m1 : tq_iv (-1) (-1) (-1 : Int32) := ⟨by decide, by decide⟩
theorem tk_0 : tq_iv 0 0 (0 : Int32) := ⟨by decide, by decide⟩
theorem tk_1 : tq_iv 1 1 (1 : Int32) := ⟨by decide, by decide⟩
theorem tk_2 : tq_iv 2 2 (2 : Int32) := ⟨by decide, by decide⟩
theorem tk_3 : tq_iv 3 3 (3 : Int32) := ⟨by decide, by decide⟩
theorem tk_4 : tq_iv 4 4 (4 : Int32) := ⟨by decide, by decide⟩
theorem tk_5 : tq_iv 5 5 (5 : Int32) := ⟨by decide, by decide⟩
theorem tk_6 : tq_iv 6 6 (6 : Int32) := ⟨by decide, by decide⟩
theorem tk_7 : tq_iv 7 7 (7 : Int32) := ⟨by decide, by decide⟩
theorem tk_8 : tq_iv 8 8 (8 : Int32) := ⟨by decide, by decide⟩
theorem tk_9 : tq_iv 9 9 (9 : Int32) := ⟨by decide, by decide⟩
theorem tk_10 : tq_iv 10 10 (10 : Int32) := ⟨by decide, by decide⟩
theorem tk_11 : tq_iv 11 11 (11 : Int32) := ⟨by decide, by decide⟩
theorem tk_12 : tq_iv 12 12 (12 : Int32) := ⟨by decide, by decide⟩
theorem tk_13 : tq_iv 13 13 (13 : Int32) := ⟨by decide, by decide⟩
theorem tk_14 : tq_iv 14 14 (14 : Int32) := ⟨by decide, by decide⟩
theorem tk_15 : tq_iv 15 15 (15 : Int32) := ⟨by decide, by decide⟩
theorem tk_16 : tq_iv 16 16 (16 : Int32) := ⟨by decide, by decide⟩
theorem tk_17 : tq_iv 17 17 (17 : Int32) := ⟨by decide, by decide⟩
theorem tk_18 : tq_iv 18 18 (18 : Int32) := ⟨by decide, by decide⟩
theorem tk_19 : tq_iv 19 19 (19 : Int32) := ⟨by decide, by decide⟩
theorem tk_20 : tq_iv 20 20 (20 : Int32) := ⟨by decide, by decide⟩
theorem tk_21 : tq_iv 21 21 (21 : Int32) := ⟨by decide, by decide⟩
theorem tk_22 : tq_iv 22 22 (22 : Int32) := ⟨by decide, by decide⟩
theorem tk_23 : tq_iv 23 23 (23 : Int32) := ⟨by decide, by decide⟩
theorem tk_24 : tq_iv 24 24 (24 : Int32) := ⟨by decide, by decide⟩
theorem tk_25 : tq_iv 25 25 (25 : Int32) := ⟨by decide, by decide⟩
theorem tk_26 : tq_iv 26 26 (26 : Int32) := ⟨by decide, by decide⟩
theorem tk_27 : tq_iv 27 27 (27 : Int32) := ⟨by decide, by decide⟩
theorem tk_28 : tq_iv 28 28 (28 : Int32) := ⟨by decide, by decide⟩
theorem tk_29 : tq_iv 29 29 (29 : Int32) := ⟨by decide, by decide⟩
theorem tk_30 : tq_iv 30 30 (30 : Int32) := ⟨by decide, by decide⟩
theorem tk_31 : tq_iv 31 31 (31 : Int32) := ⟨by decide, by decide⟩
theorem tk_32 : tq_iv 32 32 (32 : Int32) := ⟨by decide, by decide⟩
theorem tk_33 : tq_iv 33 33 (33 : Int32) := ⟨by decide, by decide⟩
theorem tk_34 : tq_iv 34 34 (34 : Int32) := ⟨by decide, by decide⟩
theorem tk_35 : tq_iv 35 35 (35 : Int32) := ⟨by decide, by decide⟩
theorem tk_36 : tq_iv 36 36 (36 : Int32) := ⟨by decide, by decide⟩
theorem tk_37 : tq_iv 37 37 (37 : Int32) := ⟨by decide, by decide⟩
theorem tk_38 : tq_iv 38 38 (38 : Int32) := ⟨by decide, by decide⟩
theorem tk_39 : tq_iv 39 39 (39 : Int32) := ⟨by decide, by decide⟩
theorem tk_40 : tq_iv 40 40 (40 : Int32) := ⟨by decide, by decide⟩
theorem tk_41 : tq_iv 41 41 (41 : Int32) := ⟨by decide, by decide⟩
theorem tk_42 : tq_iv 42 42 (42 : Int32) := ⟨by decide, by decide⟩
theorem tk_43 : tq_iv 43 43 (43 : Int32) := ⟨by decide, by decide⟩
theorem tk_44 : tq_iv 44 44 (44 : Int32) := ⟨by decide, by decide⟩
theorem tk_45 : tq_iv 45 45 (45 : Int32) := ⟨by decide, by decide⟩
theorem tk_46 : tq_iv 46 46 (46 : Int32) := ⟨by decide, by decide⟩
theorem tk_47 : tq_iv 47 47 (47 : Int32) := ⟨by decide, by decide⟩
theorem tk_48 : tq_iv 48 48 (48 : Int32) := ⟨by decide, by decide⟩
theorem tk_49 : tq_iv 49 49 (49 : Int32) := ⟨by decide, by decide⟩
theorem tk_50 : tq_iv 50 50 (50 : Int32) := ⟨by decide, by decide⟩
theorem tk_51 : tq_iv 51 51 (51 : Int32) := ⟨by decide, by decide⟩
theorem tk_52 : tq_iv 52 52 (52 : Int32) := ⟨by decide, by decide⟩
theorem tk_53 : tq_iv 53 53 (53 : Int32) := ⟨by decide, by decide⟩
theorem tk_54 : tq_iv 54 54 (54 : Int32) := ⟨by decide, by decide⟩
theorem tk_55 : tq_iv 55 55 (55 : Int32) := ⟨by decide, by decide⟩
theorem tk_56 : tq_iv 56 56 (56 : Int32) := ⟨by decide, by decide⟩
theorem tk_57 : tq_iv 57 57 (57 : Int32) := ⟨by decide, by decide⟩
theorem tk_58 : tq_iv 58 58 (58 : Int32) := ⟨by decide, by decide⟩
theorem tk_59 : tq_iv 59 59 (59 : Int32) := ⟨by decide, by decide⟩
theorem tk_60 : tq_iv 60 60 (60 : Int32) := ⟨by decide, by decide⟩
theorem tk_61 : tq_iv 61 61 (61 : Int32) := ⟨by decide, by decide⟩
theorem tk_62 : tq_iv 62 62 (62 : Int32) := ⟨by decide, by decide⟩
theorem tk_63 : tq_iv 63 63 (63 : Int32) := ⟨by decide, by decide⟩
theorem tk_64 : tq_iv 64 64 (64 : Int32) := ⟨by decide, by decide⟩
theorem tk_65 : tq_iv 65 65 (65 : Int32) := ⟨by decide, by decide⟩
theorem tk_66 : tq_iv 66 66 (66 : Int32) := ⟨by decide, by decide⟩
theorem tk_67 : tq_iv 67 67 (67 : Int32) := ⟨by decide, by decide⟩
theorem tk_68 : tq_iv 68 68 (68 : Int32) := ⟨by decide, by decide⟩
theorem tk_69 : tq_iv 69 69 (69 : Int32) := ⟨by decide, by decide⟩
theorem tk_70 : tq_iv 70 70 (70 : Int32) := ⟨by decide, by decide⟩
theorem tk_71 : tq_iv 71 71 (71 : Int32) := ⟨by decide, by decide⟩
theorem tk_72 : tq_iv 72 72 (72 : Int32) := ⟨by decide, by decide⟩
theorem tk_73 : tq_iv 73 73 (73 : Int32) := ⟨by decide, by decide⟩
theorem tk_74 : tq_iv 74 74 (74 : Int32) := ⟨by decide, by decide⟩
theorem tk_75 : tq_iv 75 75 (75 : Int32) := ⟨by decide, by decide⟩
theorem tk_76 : tq_iv 76 76 (76 : Int32) := ⟨by decide, by decide⟩
theorem tk_77 : tq_iv 77 77 (77 : Int32) := ⟨by decide, by decide⟩
theorem tk_78 : tq_iv 78 78 (78 : Int32) := ⟨by decide, by decide⟩
theorem tk_79 : tq_iv 79 79 (79 : Int32) := ⟨by decide, by decide⟩
theorem tk_80 : tq_iv 80 80 (80 : Int32) := ⟨by decide, by decide⟩
theorem tk_81 : tq_iv 81 81 (81 : Int32) := ⟨by decide, by decide⟩
theorem tk_82 : tq_iv 82 82 (82 : Int32) := ⟨by decide, by decide⟩
theorem tk_83 : tq_iv 83 83 (83 : Int32) := ⟨by decide, by decide⟩
theorem tk_84 : tq_iv 84 84 (84 : Int32) := ⟨by decide, by decide⟩
theorem tk_85 : tq_iv 85 85 (85 : Int32) := ⟨by decide, by decide⟩
theorem tk_86 : tq_iv 86 86 (86 : Int32) := ⟨by decide, by decide⟩
theorem tk_87 : tq_iv 87 87 (87 : Int32) := ⟨by decide, by decide⟩
theorem tk_88 : tq_iv 88 88 (88 : Int32) := ⟨by decide, by decide⟩
theorem tk_89 : tq_iv 89 89 (89 : Int32) := ⟨by decide, by decide⟩
theorem tk_90 : tq_iv 90 90 (90 : Int32) := ⟨by decide, by decide⟩
theorem tk_91 : tq_iv 91 91 (91 : Int32) := ⟨by decide, by decide⟩
theorem tk_92 : tq_iv 92 92 (92 : Int32) := ⟨by decide, by decide⟩
theorem tk_93 : tq_iv 93 93 (93 : Int32) := ⟨by decide, by decide⟩
theorem tk_94 : tq_iv 94 94 (94 : Int32) := ⟨by decide, by decide⟩
theorem tk_95 : tq_iv 95 95 (95 : Int32) := ⟨by decide, by decide⟩
theorem tk_96 : tq_iv 96 96 (96 : Int32) := ⟨by decide, by decide⟩
theorem tk_97 : tq_iv 97 97 (97 : Int32) := ⟨by decide, by decide⟩
theorem tk_98 : tq_iv 98 98 (98 : Int32) := ⟨by decide, by decide⟩
theorem tk_99 : tq_iv 99 99 (99 : Int32) := ⟨by decide, by decide⟩
theorem tk_100 : tq_iv 100 100 (100 : Int32) := ⟨by decide, by decide⟩
theorem tk_104 : tq_iv 104 104 (104 : Int32) := ⟨by decide, by decide⟩
theorem tk_117 : tq_iv 117 117 (117 : Int32) := ⟨by decide, by decide⟩
theorem tk_122 : tq_iv 122 122 (122 : Int32) := ⟨by decide, by decide⟩
theorem tk_126 : tq_iv 126 126 (126 : Int32) := ⟨by decide, by decide⟩
theorem tk_128 : tq_iv 128 128 (128 : Int32) := ⟨by decide, by decide⟩
theorem tk_137 : tq_iv 137 137 (137 : Int32) := ⟨by decide, by decide⟩
theorem tk_200 : tq_iv 200 200 (200 : Int32) := ⟨by decide, by decide⟩
theorem tk_255 : tq_iv 255 255 (255 : Int32) := ⟨by decide, by decide⟩
theorem tk_256 : tq_iv 256 256 (256 : Int32) := ⟨by decide, by decide⟩
theorem tk_270 : tq_iv 270 270 (270 : Int32) := ⟨by decide, by decide⟩
theorem tk_384 : tq_iv 384 384 (384 : Int32) := ⟨by decide, by decide⟩
theorem tk_560 : tq_iv 560 560 (560 : Int32) := ⟨by decide, by decide⟩
theorem tk_999 : tq_iv 999 999 (999 : Int32) := ⟨by decide, by decide⟩
theorem tk_1000 : tq_iv 1000 1000 (1000 : Int32) := ⟨by decide, by decide⟩
theorem tk_1600 : tq_iv 1600 1600 (1600 : Int32) := ⟨by decide, by decide⟩
theorem tk_3640 : tq_iv 3640 3640 (3640 : Int32) := ⟨by decide, by decide⟩
theorem tk_7776 : tq_iv 7776 7776 (7776 : Int32) := ⟨by decide, by decide⟩
theorem tk_65536 : tq_iv 65536 65536 (65536 : Int32) := ⟨by decide, by decide⟩
theorem tk_100000 : tq_iv 100000 100000 (100000 : Int32) := ⟨by decide, by decide⟩
theorem tk_252645135 : tq_iv 252645135 252645135 (252645135 : Int32) := ⟨by decide, by decide⟩
theorem tk_858993459 : tq_iv 858993459 858993459 (858993459 : Int32) := ⟨by decide, by decide⟩
theorem tk_1431655765 : tq_iv 1431655765 1431655765 (1431655765 : Int32) := ⟨by decide, by decide⟩
theorem tq_nzn {x : Int32} {a b : Int} (h : tq_iv a b x) (h0 : b < 0) : ¬ x = 0 := fun e => by
  have := h.2
  rw [e] at this
  have h1 : (0 : Int32).toInt = 0 := by decide
  omega
theorem tq_m0 (x : Int32) : (2147483647 - x.toInt).toNat < ez_N := by have := (tq_top x).1; have := (tq_top x).2; show _ < 4294967296; omega
theorem tq_m1 (x : Int32) : (x.toInt + 2147483648).toNat < ez_N := by have := (tq_top x).1; have := (tq_top x).2; show _ < 4294967296; omega
theorem tq_m2 : 0 < ez_N := by decide
theorem tq_down2 {x z d : Int32} {a b c1 c2 : Int} {n : Nat} (e : z = x - d) (ix : tq_iv a b x) (id : tq_iv c1 c2 d) (h1 : 1 ≤ c1) (h2 : -2147483648 ≤ a - c2) (hn : (x.toInt + 2147483648).toNat < n + 1) : (z.toInt + 2147483648).toNat < n := by
  subst e
  have q1 := ix.1
  have q2 := id.1
  have q3 := id.2
  have := tq_subT (a := a) (b := 2147483647) (c := 1) (d := c2) ⟨q1, (tq_top x).2⟩ ⟨by omega, q3⟩ h2 (by decide)
  omega
theorem tq_nr_boolean {x : Int32} (h : tq_iv 0 1 x) : vp_nar .boolean x = x := by
  obtain ⟨k, rfl, k1, k2, k3⟩ := tq_of h (by decide)
  have hk : k = 0 ∨ k = 1 := by omega
  rcases hk with rfl | rfl <;> decide
theorem tq_nr_char {x : Int32} (h : tq_iv 0 65535 x) : vp_nar .char x = x := by
  have := tq_nc h (by decide) (by decide)
  unfold vp_nar
  rw [this]
theorem tq_bm8 {z : Int} (h1 : -128 ≤ z) (h2 : z ≤ 127) : z.bmod (2 ^ 8) = z := Int.bmod_eq_of_le (by omega) (by omega)
theorem tq_mul {x y z : Int32} {a b c d : Int} (e : z = x * y) (ix : tq_iv a b x) (iy : tq_iv c d y) (h0 : 0 ≤ a) (h1 : 0 ≤ c) (h2 : b * d ≤ 2147483647) : tq_iv (a * c) (b * d) z := by
  subst e
  obtain ⟨p1, p2⟩ := ix
  obtain ⟨q1, q2⟩ := iy
  have l1 : a * c ≤ x.toInt * y.toInt := Int.mul_le_mul p1 q1 h1 (by omega)
  have l2 : x.toInt * y.toInt ≤ b * d := Int.mul_le_mul p2 q2 (by omega) (by omega)
  have l3 : 0 ≤ a * c := Int.mul_nonneg h0 h1
  have : (x * y).toInt = x.toInt * y.toInt := by rw [Int32.toInt_mul]; exact tq_bm (by omega) (by omega)
  exact ⟨by omega, by omega⟩
theorem tq_divT {x y : Int32} {a b c d : Int} (ix : tq_iv a b x) (iy : tq_iv c d y) (h0 : 0 ≤ a) (h1 : 1 ≤ c) : (x / y).toInt = x.toInt / y.toInt := by
  obtain ⟨j, rfl, j1, j2, -⟩ := tq_of ix h0
  obtain ⟨k, rfl, k1, k2, k3⟩ := tq_of iy (by omega)
  rw [pk_div j2 (by omega) k2, nI_toInt j2, nI_toInt k2, nI_toInt (Nat.lt_of_le_of_lt (Nat.div_le_self j k) j2)]
  exact Int.natCast_ediv j k
theorem tq_div {x y z : Int32} {a b c d : Int} (e : z = x / y) (ix : tq_iv a b x) (iy : tq_iv c d y) (h0 : 0 ≤ a) (h1 : 1 ≤ c) : tq_iv 0 b z := by
  subst e
  have h := tq_divT ix iy h0 h1
  obtain ⟨p1, p2⟩ := ix
  obtain ⟨q1, q2⟩ := iy
  have l1 : 0 ≤ x.toInt / y.toInt := Int.ediv_nonneg (by omega) (by omega)
  have l2 : x.toInt / y.toInt ≤ x.toInt := Int.ediv_le_self _ (by omega)
  exact ⟨by omega, by omega⟩
theorem tq_remT {x y : Int32} {a b c d : Int} (ix : tq_iv a b x) (iy : tq_iv c d y) (h0 : 0 ≤ a) (h1 : 1 ≤ c) : (x - x / y * y).toInt = x.toInt % y.toInt := by
  obtain ⟨j, rfl, j1, j2, -⟩ := tq_of ix h0
  obtain ⟨k, rfl, k1, k2, k3⟩ := tq_of iy (by omega)
  rw [pk_rem j2 (by omega) k2, nI_toInt j2, nI_toInt k2, nI_toInt (Nat.lt_of_le_of_lt (Nat.mod_le j k) j2)]
  exact Int.natCast_emod j k
theorem tq_rem2 {x y z : Int32} {a b c d : Int} (e : z = x - x / y * y) (ix : tq_iv a b x) (iy : tq_iv c d y) (h0 : 0 ≤ a) (h1 : 1 ≤ c) : tq_iv 0 (d - 1) z := by
  subst e
  have h := tq_remT ix iy h0 h1
  obtain ⟨p1, p2⟩ := ix
  obtain ⟨q1, q2⟩ := iy
  have l1 : 0 ≤ x.toInt % y.toInt := Int.emod_nonneg _ (by omega)
  have l2 : x.toInt % y.toInt < y.toInt := Int.emod_lt_of_pos _ (by omega)
  exact ⟨by omega, by omega⟩
theorem tq_addB {x y z : Int32} {a b c lo hi : Int} (e : z = x + y) (ix : tq_iv a b x) (iy : tq_iv c c y) (iz : tq_iv lo hi z) (h1 : -2147483648 ≤ a + c) (h2 : b + c ≤ 2147483647) : tq_iv (lo - c) (hi - c) x := by
  subst e
  have := tq_addT ix iy h1 h2
  have q1 := iy.1
  have q2 := iy.2
  exact ⟨by have := iz.1; omega, by have := iz.2; omega⟩
theorem tq_cmp {x y : Int64} {z : Int32} (e : z = lg_cmp x y) : tq_iv (-1) 1 z := by
  subst e
  unfold lg_cmp
  split
  · exact ⟨by decide, by decide⟩
  · split
    · exact ⟨by decide, by decide⟩
    · exact ⟨by decide, by decide⟩
theorem tq_shr {x y z : Int32} {a b : Int} (e : z = x >>> (y &&& 31)) (ix : tq_iv a b x) (h0 : 0 ≤ a) : tq_iv 0 b z := by
  subst e
  obtain ⟨j, rfl, j1, j2, -⟩ := tq_of ix h0
  rw [pk_shrN j2 (y &&& 31) _ rfl]
  have h2 := Nat.div_le_self j (2 ^ ((y &&& 31).toBitVec.smod 32).toNat)
  generalize j / 2 ^ ((y &&& 31).toBitVec.smod 32).toNat = m at h2 ⊢
  exact tq_nnI (by omega) (by omega) (by omega)
theorem tq_nar_boolean (x : Int32) : tq_iv 0 1 (vp_nar .boolean x) := by
  have h : vp_nar .boolean x = x &&& 1 := rfl
  exact tq_and2 h (a := 1) (b := 1) ⟨by decide, by decide⟩ (by decide)
theorem tq_i8 (x : Int8) : tq_iv (-128) 127 x.toInt32 := by
  have h : x.toInt32.toInt = x.toInt := Int8.toInt_toInt32 x
  have h1 := Int8.le_toInt x
  have h2 := Int8.toInt_lt x
  exact ⟨by omega, by omega⟩
theorem tq_nar_byte (x : Int32) : tq_iv (-128) 127 (vp_nar .byte x) := by
  have h : vp_nar .byte x = x.toInt8.toInt32 := rfl
  rw [h]
  exact tq_i8 _
theorem tq_nr_byte {x : Int32} (h : tq_iv (-128) 127 x) : vp_nar .byte x = x := by
  have h1 : vp_nar .byte x = x.toInt8.toInt32 := rfl
  rw [h1]
  apply Int32.toInt_inj.mp
  rw [Int8.toInt_toInt32, Int32.toInt_toInt8]
  exact tq_bm8 h.1 h.2
theorem tq_tdivT {x y : Int32} (hy : 1 ≤ y.toInt) : (x / y).toInt = x.toInt.tdiv y.toInt ∧ (x - x / y * y).toInt = x.toInt.tmod y.toInt := by
  have hq : (x / y).toInt = x.toInt.tdiv y.toInt := Int32.toInt_div_of_ne_right x y (fun q => by
    rw [q] at hy
    exact absurd hy (by decide))
  refine ⟨hq, ?_⟩
  have hm := Int.mul_tdiv_add_tmod x.toInt y.toInt
  have hl : x.toInt.tmod y.toInt < y.toInt := Int.tmod_lt_of_pos _ (by omega)
  have hl2 := Int.lt_tmod_of_pos x.toInt (show 0 < y.toInt by omega)
  have hy2 := (tq_top y).2
  rw [Int32.toInt_sub, Int32.toInt_mul, hq, Int.sub_bmod_bmod, Int.mul_comm]
  rw [show x.toInt - y.toInt * x.toInt.tdiv y.toInt = x.toInt.tmod y.toInt by omega]
  exact tq_bm (by omega) (by omega)
theorem tq_remS {x y z : Int32} {c d : Int} (e : z = x - x / y * y) (iy : tq_iv c d y) (h1 : 1 ≤ c) : tq_iv (-(d - 1)) (d - 1) z := by
  subst e
  have hy := iy.1
  have hy2 := iy.2
  have h := (tq_tdivT (x := x) (y := y) (by omega)).2
  have hl : x.toInt.tmod y.toInt < y.toInt := Int.tmod_lt_of_pos _ (by omega)
  have hl2 := Int.lt_tmod_of_pos x.toInt (show 0 < y.toInt by omega)
  exact ⟨by omega, by omega⟩
theorem tq_chrT {x z : Int32} (e : z = (Int32.toUInt32 x % 65536).toInt32) : ∃ k : Nat, k < 65536 ∧ z = nI k ∧ (k : Int) = x.toInt % 65536 := by
  subst e
  refine ⟨x.toBitVec.toNat % 65536, Nat.mod_lt _ (by decide), ?_, ?_⟩
  · apply Int32.toBitVec_inj.mp
    apply BitVec.eq_of_toNat_eq
    show (x.toBitVec % 65536).toNat = _
    simp [nI, Int32.toBitVec_ofNat']
    omega
  · rw [← Int32.toInt_toBitVec, BitVec.toInt_eq_toNat_cond]
    split <;> omega
theorem tq_chr {x z : Int32} {a b : Int} (e : z = (Int32.toUInt32 x % 65536).toInt32) (ix : tq_iv a b x) (h0 : 0 ≤ a) (h1 : b ≤ 65535) : tq_iv a b z := by
  obtain ⟨k, hk, rfl, h⟩ := tq_chrT e
  obtain ⟨p1, p2⟩ := ix
  rw [Int.emod_eq_of_lt (by omega) (by omega)] at h
  exact tq_nnI (by omega) (by omega) (by omega)
theorem tq_chr0 {x z : Int32} (e : z = (Int32.toUInt32 x % 65536).toInt32) : tq_iv 0 65535 z := by
  obtain ⟨k, hk, rfl, h⟩ := tq_chrT e
  exact tq_nnI (by omega) (by omega) (by omega)
