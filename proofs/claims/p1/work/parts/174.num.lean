def ev_sH : ez_H := [.inr (.inr (.inr (11, [.inr (.inr (some 1)), .inl 0, .inr (.inr (some 2)), .inr (.inr (some 25)), .inr (.inr (some 26)), .inr (.inr (some 39)), .inr (.inr (some 41)), .inr (.inr (some 43)), .inr (.inr (some 127)), .inl 0, .inr (.inr (some 134)), .inr (.inr (some 146)), .inr (.inr (some 158)), .inr (.inr (some 162)), .inr (.inr (some 164)), .inr (.inr (some 169))]))),
  .inl (0, 1600, []),
  .inr (.inr (.inr (4, [.inr (.inr (some 3)), .inl 0, .inl (-1), .inr (.inr (some 17)), .inr (.inr (some 19)), .inl 0]))),
  .inr (.inr (.inr (3, [.inr (.inr (some 4)), .inr (.inr (some 6)), .inr (.inr (some 10)), .inl 0, .inl 0, .inl 0, .inl 0, .inl 0, .inr (.inr (some 12)), .inr (.inr (some 13)), .inr (.inr (some 14)), .inr (.inr (some 15)), .inr (.inr (some 16))]))),
  .inr (.inr (.inr (6, [.inl 5, .inl 6, .inl 5, .inr (.inr (some 5))]))),
  .inl (1, 30, []),
  .inr (.inr (.inr (0, [.inl 0, .inl 0, .inr (.inr (some 7)), .inr (.inr (some 8)), .inr (.inr (some 9))]))),
  .inl (1, 270, []),
  .inl (1, 270, []),
  .inl (1, 31, []),
  .inr (.inr (.inr (7, [.inr (.inr (some 11))]))),
  .inl (1, 35, []),
  .inl (1, 8, []),
  .inl (1, 8, []),
  .inl (1, 8, []),
  .inl (1, 6, []),
  .inl (1, 6, []),
  .inr (.inr (.inr (9, [.inr (.inr (some 1)), .inr (.inr (some 18)), .inl 0, .inl 0, .inl 0, .inl 0, .inl 0, .inr (.inl 0)]))),
  .inr (.inl (23, [(0, 111716406867), (1, 140005651), (2, 643248), (3, 11449), (4, 408683), (5, 605677), (6, 146930), (7, 542723566), (8, 448116), (9, 14866610), (10, 758834), (11, 149559), (12, 215533), (13, 655), (14, 302), (15, 8892563), (16, 498), (17, 1476), (18, 14836), (19, 3764), (20, 72983685), (21, 707763), (22, 3491137714)])),
  .inr (.inr (.inl (5, 5, [(0, some 20), (1, some 21), (2, some 22), (3, some 23), (4, some 24)]))),
  .inr (.inl (8, [])),
  .inr (.inl (8, [])),
  .inr (.inl (8, [])),
  .inr (.inl (8, [])),
  .inr (.inl (8, [])),
  .inr (.inr (.inr (3, [.inr (.inr (some 26)), .inr (.inr (some 28)), .inr (.inr (some 32)), .inl 0, .inl 0, .inl 0, .inl 0, .inl 0, .inr (.inr (some 34)), .inr (.inr (some 35)), .inr (.inr (some 36)), .inr (.inr (some 37)), .inr (.inr (some 38))]))),
  .inr (.inr (.inr (6, [.inl 5, .inl 6, .inl 5, .inr (.inr (some 27))]))),
  .inl (1, 30, [(24, 1), (25, 1), (26, 1), (27, 1), (28, 1), (29, 1), (18, 6), (19, 6), (20, 6), (21, 6), (22, 6), (23, 6), (12, 36), (13, 36), (14, 36), (15, 36), (16, 36), (17, 36), (6, 216), (7, 216), (8, 216), (9, 216), (10, 216), (11, 216), (0, 1296), (1, 1296), (2, 1296), (3, 1296), (4, 1296), (5, 1296)]),
  .inr (.inr (.inr (0, [.inl 0, .inl 0, .inr (.inr (some 29)), .inr (.inr (some 30)), .inr (.inr (some 31))]))),
  .inl (1, 270, []),
  .inl (1, 270, []),
  .inl (1, 31, []),
  .inr (.inr (.inr (7, [.inr (.inr (some 33))]))),
  .inl (1, 35, []),
  .inl (1, 8, []),
  .inl (1, 8, []),
  .inl (1, 8, []),
  .inl (1, 6, []),
  .inl (1, 6, []),
  .inr (.inr (.inr (7, [.inr (.inr (some 40))]))),
  .inl (1, 35, []),
  .inr (.inr (.inr (7, [.inr (.inr (some 42))]))),
  .inl (1, 35, []),
  .inr (.inr (.inr (1, [.inr (.inr (some 44)), .inl 0, .inl 0, .inl 0]))),
  .inr (.inr (.inl (4, 41, [(0, some 45), (1, some 47), (2, some 49), (3, some 51), (4, some 53), (5, some 55), (6, some 57), (7, some 59), (8, some 61), (9, some 63), (10, some 65), (11, some 67), (12, some 69), (13, some 71), (14, some 73), (15, some 75), (16, some 77), (17, some 79), (18, some 81), (19, some 83), (20, some 85), (21, some 87), (22, some 89), (23, some 91), (24, some 93), (25, some 95), (26, some 97), (27, some 99), (28, some 101), (29, some 103), (30, some 105), (31, some 107), (32, some 109), (33, some 111), (34, some 113), (35, some 115), (36, some 117), (37, some 119), (38, some 121), (39, some 123), (40, some 125)]))),
  .inr (.inr (.inr (7, [.inr (.inr (some 46))]))),
  .inl (1, 35, []),
  .inr (.inr (.inr (7, [.inr (.inr (some 48))]))),
  .inl (1, 35, []),
  .inr (.inr (.inr (7, [.inr (.inr (some 50))]))),
  .inl (1, 35, []),
  .inr (.inr (.inr (7, [.inr (.inr (some 52))]))),
  .inl (1, 35, []),
  .inr (.inr (.inr (7, [.inr (.inr (some 54))]))),
  .inl (1, 35, []),
  .inr (.inr (.inr (7, [.inr (.inr (some 56))]))),
  .inl (1, 35, []),
  .inr (.inr (.inr (7, [.inr (.inr (some 58))]))),
  .inl (1, 35, []),
  .inr (.inr (.inr (7, [.inr (.inr (some 60))]))),
  .inl (1, 35, []),
  .inr (.inr (.inr (7, [.inr (.inr (some 62))]))),
  .inl (1, 35, []),
  .inr (.inr (.inr (7, [.inr (.inr (some 64))]))),
  .inl (1, 35, []),
  .inr (.inr (.inr (7, [.inr (.inr (some 66))]))),
  .inl (1, 35, []),
  .inr (.inr (.inr (7, [.inr (.inr (some 68))]))),
  .inl (1, 35, []),
  .inr (.inr (.inr (7, [.inr (.inr (some 70))]))),
  .inl (1, 35, []),
  .inr (.inr (.inr (7, [.inr (.inr (some 72))]))),
  .inl (1, 35, []),
  .inr (.inr (.inr (7, [.inr (.inr (some 74))]))),
  .inl (1, 35, []),
  .inr (.inr (.inr (7, [.inr (.inr (some 76))]))),
  .inl (1, 35, []),
  .inr (.inr (.inr (7, [.inr (.inr (some 78))]))),
  .inl (1, 35, []),
  .inr (.inr (.inr (7, [.inr (.inr (some 80))]))),
  .inl (1, 35, []),
  .inr (.inr (.inr (7, [.inr (.inr (some 82))]))),
  .inl (1, 35, []),
  .inr (.inr (.inr (7, [.inr (.inr (some 84))]))),
  .inl (1, 35, []),
  .inr (.inr (.inr (7, [.inr (.inr (some 86))]))),
  .inl (1, 35, []),
  .inr (.inr (.inr (7, [.inr (.inr (some 88))]))),
  .inl (1, 35, []),
  .inr (.inr (.inr (7, [.inr (.inr (some 90))]))),
  .inl (1, 35, []),
  .inr (.inr (.inr (7, [.inr (.inr (some 92))]))),
  .inl (1, 35, []),
  .inr (.inr (.inr (7, [.inr (.inr (some 94))]))),
  .inl (1, 35, []),
  .inr (.inr (.inr (7, [.inr (.inr (some 96))]))),
  .inl (1, 35, []),
  .inr (.inr (.inr (7, [.inr (.inr (some 98))]))),
  .inl (1, 35, []),
  .inr (.inr (.inr (7, [.inr (.inr (some 100))]))),
  .inl (1, 35, []),
  .inr (.inr (.inr (7, [.inr (.inr (some 102))]))),
  .inl (1, 35, []),
  .inr (.inr (.inr (7, [.inr (.inr (some 104))]))),
  .inl (1, 35, []),
  .inr (.inr (.inr (7, [.inr (.inr (some 106))]))),
  .inl (1, 35, []),
  .inr (.inr (.inr (7, [.inr (.inr (some 108))]))),
  .inl (1, 35, []),
  .inr (.inr (.inr (7, [.inr (.inr (some 110))]))),
  .inl (1, 35, []),
  .inr (.inr (.inr (7, [.inr (.inr (some 112))]))),
  .inl (1, 35, []),
  .inr (.inr (.inr (7, [.inr (.inr (some 114))]))),
  .inl (1, 35, []),
  .inr (.inr (.inr (7, [.inr (.inr (some 116))]))),
  .inl (1, 35, []),
  .inr (.inr (.inr (7, [.inr (.inr (some 118))]))),
  .inl (1, 35, []),
  .inr (.inr (.inr (7, [.inr (.inr (some 120))]))),
  .inl (1, 35, []),
  .inr (.inr (.inr (7, [.inr (.inr (some 122))]))),
  .inl (1, 35, []),
  .inr (.inr (.inr (7, [.inr (.inr (some 124))]))),
  .inl (1, 35, []),
  .inr (.inr (.inr (7, [.inr (.inr (some 126))]))),
  .inl (1, 35, []),
  .inr (.inr (.inl (4, 3, [(0, some 128), (1, some 130), (2, some 132)]))),
  .inr (.inr (.inr (7, [.inr (.inr (some 129))]))),
  .inl (1, 35, []),
  .inr (.inr (.inr (7, [.inr (.inr (some 131))]))),
  .inl (1, 35, []),
  .inr (.inr (.inr (7, [.inr (.inr (some 133))]))),
  .inl (1, 35, []),
  .inr (.inr (.inr (8, [.inr (.inr (some 25)), .inr (.inr (some 26)), .inr (.inr (some 135)), .inr (.inr (some 136)), .inr (.inr (some 137)), .inr (.inr (some 138)), .inr (.inr (some 139)), .inr (.inr (some 140)), .inr (.inr (some 141)), .inr (.inr (some 142)), .inr (.inr (some 143)), .inr (.inr (some 144)), .inr (.inr (some 145))]))),
  .inl (1, 10, []),
  .inl (1, 6, []),
  .inl (1, 384, []),
  .inl (1, 384, []),
  .inl (1, 384, []),
  .inl (1, 384, []),
  .inl (1, 384, []),
  .inl (1, 384, []),
  .inl (1, 64, []),
  .inl (1, 64, []),
  .inl (1, 64, []),
  .inr (.inr (.inr (8, [.inr (.inr (some 25)), .inr (.inr (some 26)), .inr (.inr (some 147)), .inr (.inr (some 148)), .inr (.inr (some 149)), .inr (.inr (some 150)), .inr (.inr (some 151)), .inr (.inr (some 152)), .inr (.inr (some 153)), .inr (.inr (some 154)), .inr (.inr (some 155)), .inr (.inr (some 156)), .inr (.inr (some 157))]))),
  .inl (1, 10, []),
  .inl (1, 6, []),
  .inl (1, 384, []),
  .inl (1, 384, []),
  .inl (1, 384, []),
  .inl (1, 384, []),
  .inl (1, 384, []),
  .inl (1, 384, []),
  .inl (1, 64, []),
  .inl (1, 64, []),
  .inl (1, 64, []),
  .inr (.inr (.inr (2, [.inr (.inr (some 25)), .inr (.inr (some 39)), .inr (.inr (some 159)), .inr (.inr (some 160)), .inr (.inr (some 161)), .inl 0]))),
  .inl (1, 6, []),
  .inl (1, 4, []),
  .inl (1, 6, []),
  .inr (.inr (.inr (5, [.inr (.inr (some 25)), .inr (.inr (some 39)), .inr (.inr (some 26)), .inr (.inr (some 163)), .inl 0]))),
  .inl (1, 48, []),
  .inr (.inr (.inr (10, [.inr (.inr (some 165)), .inr (.inr (some 166)), .inr (.inr (some 167)), .inr (.inr (some 168)), .inl 0, .inl 0]))),
  .inl (1, 30, []),
  .inl (3, 30, []),
  .inl (1, 30, []),
  .inl (1, 30, []),
  .inl (1, 60, []),
  .inr (.inr (.inr (12, [.inr (.inr (some 171)), .inr (.inr (some 172)), .inl 0, .inl 0, .inl 0, .inl (-1), .inl 0, .inl 0, .inl 0, .inl 0, .inr (.inl 0), .inr (.inr (some 173)), .inr (.inr (some 174)), .inr (.inr (some 175)), .inr (.inr (some 176)), .inr (.inr (some 177)), .inr (.inr (some 178)), .inr (.inr (some 179)), .inr (.inr (some 180)), .inr (.inr (some 181)), .inr (.inr (some 182)), .inr (.inr (some 183)), .inr (.inr (some 184)), .inr (.inr (some 185)), .inr (.inr (some 186)), .inr (.inr (some 187)), .inr (.inr (some 188)), .inr (.inr (some 189)), .inr (.inr (some 190)), .inr (.inr (some 191)), .inr (.inr (some 192)), .inr (.inr (some 193)), .inr (.inr (some 194)), .inr (.inr (some 195)), .inr (.inr (some 196)), .inr (.inr (some 197)), .inr (.inr (some 198)), .inr (.inr (some 199)), .inr (.inr (some 200)), .inr (.inr (some 201)), .inr (.inr (some 202)), .inr (.inr (some 203)), .inr (.inr (some 204)), .inl 0, .inl 0, .inl 0, .inl 0, .inl 0, .inl 0, .inl 0, .inl 0, .inl 0, .inl 0, .inr (.inr (some 205)), .inr (.inr (some 206)), .inr (.inr (some 207)), .inr (.inr (some 208)), .inl 0, .inr (.inr (some 209)), .inr (.inr (some 210)), .inl 0, .inl 0, .inr (.inr (some 211)), .inr (.inr (some 212)), .inr (.inr (some 213)), .inr (.inr (some 214)), .inl 0, .inl 0, .inr (.inr (some 215)), .inr (.inr (some 216))]))),
  .inl (0, 1620, []),
  .inl (0, 1600, []),
  .inl (1, 2, [(0, 5)]),
  .inl (1, 2, [(0, 6)]),
  .inl (1, 2, [(0, 5)]),
  .inl (1, 2, []),
  .inl (1, 2, []),
  .inl (1, 2, []),
  .inl (1, 2, []),
  .inl (1, 2, []),
  .inl (1, 2, []),
  .inl (1, 2, []),
  .inl (1, 2, []),
  .inl (1, 80, []),
  .inl (1, 60, []),
  .inl (1, 16, []),
  .inl (1, 16, []),
  .inl (1, 16, []),
  .inl (1, 8, []),
  .inl (1, 16, []),
  .inl (1, 12, []),
  .inl (1, 12, []),
  .inl (1, 2, []),
  .inl (1, 2, []),
  .inr (.inl (16, [])),
  .inr (.inl (12, [])),
  .inr (.inl (12, [])),
  .inr (.inl (16, [])),
  .inr (.inl (8, [])),
  .inl (1, 1120, []),
  .inl (1, 1120, []),
  .inl (1, 90, []),
  .inl (1, 90, []),
  .inl (1, 60, []),
  .inl (1, 91, [(48, (-1)), (49, (-1)), (50, (-1)), (51, (-1)), (52, (-1)), (53, (-1)), (54, (-1)), (55, (-1))]),
  .inl (1, 91, []),
  .inl (1, 60, []),
  .inl (1, 6, []),
  .inl (1, 4, []),
  .inl (1, 3731, []),
  .inl (1, 30, []),
  .inl (1, 30, []),
  .inl (1, 30, []),
  .inl (1, 30, []),
  .inl (1, 273, []),
  .inl (3, 3, [(0, 0), (1, 0), (2, 0)])]
set_option maxRecDepth 100000 in
theorem ev_hm : z_X6_howMany ev_s0 26 1073741823 5 = some (nI 7776, ev_sH) := ez_qR_eq (by decide +kernel)
set_option maxRecDepth 100000 in
theorem ev_MFH : ev_MF ev_sH := ev_mfq (by decide +kernel)
set_option maxRecDepth 100000 in
theorem ev_ho : ∃ fs, ez_ob ev_sH 6 26 = some fs := ⟨_, rfl⟩
set_option maxRecDepth 100000 in
theorem ev_hd : ez_gi ev_sH 6 26 0 = some (nI 5) ∧ ez_gi ev_sH 6 26 1 = some (nI 6) ∧ ez_gi ev_sH 6 26 2 = some (nI 5) ∧ ez_gr ev_sH 6 26 3 = some 27 := ⟨by decide +kernel, by decide +kernel, by decide +kernel, by decide +kernel⟩
set_option maxRecDepth 100000 in
theorem ev_ev : z_X6_everything ev_s0 26 = some 1073741823 := by decide +kernel
set_option maxRecDepth 100000 in
theorem pr_legal : ∃ r σ1, z_X11_legal ev_s0 0 = some (r, σ1) ∧ z_X12_legal σ1 170 = some r := by
  obtain ⟨σ1, h1, h2⟩ := ez_qM_eq (q := z_X11_legal ev_s0 0) (r := nI 7776) (by decide +kernel)
  refine ⟨nI 7776, σ1, h1, ?_⟩
  have e : z_X12_manyLegal σ1 170 5 = some (nI 7776) := by
    have e1 := md_many7 h2 (f := 5) (by decide)
    rw [show ev_ca 5 7776 0 0 = 7776 from by decide +kernel] at e1
    exact e1
  unfold z_X12_legal
  rw [ez_bdo (ev_m0 h2)]
  simp only [ev_md h2, ez_bd_some, e]
set_option maxRecDepth 100000 in
theorem pr_law (a0 : Int32) : ∃ r σ1, z_X11_law ev_s0 0 a0 = some (r, σ1) ∧ z_X12_law σ1 170 a0 = some r := by
  rcases pk_ix a0 (n := 6) (by decide) with q | q | ⟨j, hj, rfl⟩
  · refine ⟨-1, ev_s0, ?_, ?_⟩
    · unfold z_X11_law z_X11_law_9 z_X11_law_28
      rw [ez_bdo ev_o0, if_pos q]
    · unfold z_X12_law z_X12_law_18
      rw [ez_bdo (ev_m0 ev_MF0), md_inN (Or.inl q), ez_bd_some, if_pos rfl]
  · rw [Int32.le_iff_toInt_le, nI_toInt (by decide)] at q
    have c5 : (5 : Int32).toInt = 5 := by decide
    have c0 : (0 : Int32).toInt = 0 := by decide
    refine ⟨-1, ev_s0, ?_, ?_⟩
    · unfold z_X11_law z_X11_law_9 z_X11_law_28
      rw [ez_bdo ev_o0, if_neg (fun e => by rw [Int32.lt_iff_toInt_lt] at e; omega), if_neg (fun e => by rw [Int32.le_iff_toInt_le] at e; omega)]
    · unfold z_X12_law z_X12_law_18
      rw [ez_bdo (ev_m0 ev_MF0), md_inN (Or.inr (by rw [Int32.lt_iff_toInt_lt]; omega)), ez_bd_some, if_pos rfl]
  · have hq : ∀ j : Nat, j < 6 → ez_qM (z_X11_law ev_s0 0 (nI j)) (nI (ev_ca j 7776 0 0)) = true := by decide +kernel
    obtain ⟨σ1, h1, h2⟩ := ez_qM_eq (hq j hj)
    refine ⟨_, σ1, h1, ?_⟩
    have e9 : z_X12_isIn σ1 (nI j) 0 5 = some 1 := md_inY (nI_pos (by omega)) (show ¬ nI 5 < nI j from nI_nlt (by omega) (by decide))
    unfold z_X12_law z_X12_law_18
    rw [ez_bdo (ev_m0 h2), e9, ez_bd_some, if_neg (by decide), md_many7 h2 hj, ez_bd_some]
/-! Bittings as patterns of bits. -/
def ev_bn (i : Nat) : Nat := ((((0 ||| 2 ^ (6 * 0 + i / 1296)) ||| 2 ^ (6 * 1 + i % 1296 / 216)) ||| 2 ^ (6 * 2 + i % 1296 % 216 / 36)) ||| 2 ^ (6 * 3 + i % 1296 % 216 % 36 / 6)) ||| 2 ^ (6 * 4 + i % 1296 % 216 % 36 % 6 / 1)
def ev_bq (k : Nat) : Nat := ((((0 ||| 2 ^ (6 * 4 + k % 6)) ||| 2 ^ (6 * 3 + k / 6 % 6)) ||| 2 ^ (6 * 2 + k / 6 / 6 % 6)) ||| 2 ^ (6 * 1 + k / 6 / 6 / 6 % 6)) ||| 2 ^ (6 * 0 + k / 6 / 6 / 6 / 6 % 6)
def ev_dg (i c : Nat) : Nat := i / 6 ^ (4 - c) % 6
def ev_ck1 (i c : Nat) : Bool := Nat.beq (ev_bn i / 2 ^ (6 * c) % 64) (2 ^ ev_dg i c)
def ev_ck (i : Nat) : Bool := ev_ck1 i 0 && (ev_ck1 i 1 && (ev_ck1 i 2 && (ev_ck1 i 3 && (ev_ck1 i 4 && (Nat.beq (ev_bq i) (ev_bn i) && (Nat.blt 0 (ev_bn i) && Nat.blt (ev_bn i) 2147483648))))))
set_option maxRecDepth 100000 in
theorem ev_cks : (List.range 7776).all ev_ck = true := by decide +kernel
set_option maxRecDepth 100000 in
theorem ev_cka {i : Nat} (hi : i < 7776) : (∀ c, c < 5 → ev_bn i / 2 ^ (6 * c) % 64 = 2 ^ ev_dg i c) ∧ ev_bq i = ev_bn i ∧ 0 < ev_bn i ∧ ev_bn i < 2 ^ 31 := by
  have h := List.all_eq_true.mp ev_cks i (List.mem_range.mpr hi)
  simp only [ev_ck, Bool.and_eq_true] at h
  obtain ⟨h0, h1, h2, h3, h4, h5, h6, h7⟩ := h
  refine ⟨fun c hc => ?_, Nat.eq_of_beq_eq_true h5, Nat.blt_eq.mp h6, Nat.blt_eq.mp h7⟩
  match c, hc with
  | 0, _ => exact Nat.eq_of_beq_eq_true h0
  | 1, _ => exact Nat.eq_of_beq_eq_true h1
  | 2, _ => exact Nat.eq_of_beq_eq_true h2
  | 3, _ => exact Nat.eq_of_beq_eq_true h3
  | 4, _ => exact Nat.eq_of_beq_eq_true h4
set_option maxRecDepth 100000 in
theorem ev_dg6 (i c : Nat) : ev_dg i c < 6 := Nat.mod_lt _ (by decide)
set_option maxRecDepth 100000 in
theorem ev_dgs {i : Nat} (hi : i < 7776) : ((((0 * 6 + ev_dg i 0) * 6 + ev_dg i 1) * 6 + ev_dg i 2) * 6 + ev_dg i 3) * 6 + ev_dg i 4 = i := by
  unfold ev_dg
  show ((((0 * 6 + i / 1296 % 6) * 6 + i / 216 % 6) * 6 + i / 36 % 6) * 6 + i / 6 % 6) * 6 + i / 1 % 6 = i
  omega
set_option maxRecDepth 100000 in
theorem ev_or (a b : Nat) : nI a ||| nI b = nI (a ||| b) := by
  apply Int32.toBitVec_inj.mp
  simp [nI, Int32.toBitVec_or, Int32.toBitVec_ofNat', BitVec.ofNat_or]
set_option maxRecDepth 100000 in
theorem ev_no {σ : ez_H} {c d : Nat} (hc : c < 5) (hd : d < 6) : z_X6_notch σ (nI c) (nI d) = some (nI (2 ^ (6 * c + d))) := by
  have h : ∀ c : Nat, c < 5 → ∀ d : Nat, d < 6 → z_X6_notch [] (nI c) (nI d) = some (nI (2 ^ (6 * c + d))) := by decide +kernel
  exact h c hc d hd
set_option maxRecDepth 100000 in
theorem ev_dsa {σ : ez_H} {n c : Nat} (hn : n < 2 ^ 31) (hc : c < 5) : z_X6_depthsAt σ (nI n) (nI c) = some (nI (n / 2 ^ (6 * c) % 64)) := by
  have h : ∀ c : Nat, c < 5 → ((nI c * 6 &&& 31).toBitVec.smod 32).toNat = 6 * c := by decide +kernel
  unfold z_X6_depthsAt
  simp only [ez_let_eq]
  have e : n / 2 ^ (6 * c) ≤ n := Nat.div_le_self _ _
  rw [pk_shrN hn _ (6 * c) (h c hc), pk_andN (by omega) 6 (by decide)]
set_option maxRecDepth 100000 in
theorem ev_ntz {σ : ez_H} {d : Nat} (hd : d < 6) : z_J6_numberOfTrailingZeros_0f7a4 σ (nI (2 ^ d)) = some (nI d) := by
  have h : ∀ d : Nat, d < 6 → z_J6_numberOfTrailingZeros_0f7a4 [] (nI (2 ^ d)) = some (nI d) := by decide +kernel
  exact h d hd
set_option maxRecDepth 100000 in
theorem ev_da {σ : ez_H} (ho : ∃ fs, ez_ob σ 6 26 = some fs) {i c : Nat} (hi : i < 7776) (hc : c < 5) : z_X6_depthAt σ 26 (nI (ev_bn i)) (nI c) = some (nI (ev_dg i c)) := by
  obtain ⟨h1, -, -, h4⟩ := ev_cka hi
  unfold z_X6_depthAt
  rw [ez_bdo ho, ev_dsa h4 hc, ez_bd_some, h1 c hc, ev_ntz (ev_dg6 i c), ez_bd_some]
set_option maxRecDepth 100000 in
theorem ev_ns {σ : ez_H} (ho : ∃ fs, ez_ob σ 6 26 = some fs) (g0 : ez_gi σ 6 26 0 = some (nI 5)) (g1 : ez_gi σ 6 26 1 = some (nI 6)) (K : Nat → Int32 → Int32 → Int32 → Option Int32) {i c v : Nat} (hi : i < 7776) (hc : c < 5) : z_X6_numberOf_10 σ K 26 (nI (ev_bn i)) (nI v) (nI c) = K 26 (nI (ev_bn i)) (nI (v * 6 + ev_dg i c)) (nI (c + 1)) := by
  unfold z_X6_numberOf_10
  rw [g0, ez_bd_some, if_neg (nI_ge hc (by decide)), g1, ez_bd_some]
  simp only [ez_let_eq]
  rw [ev_da ho hi hc, ez_bd_some, pk_mul, nI_add, nI_1]
set_option maxRecDepth 100000 in
theorem ev_num {σ : ez_H} (ho : ∃ fs, ez_ob σ 6 26 = some fs) (g0 : ez_gi σ 6 26 0 = some (nI 5)) (g1 : ez_gi σ 6 26 1 = some (nI 6)) {i : Nat} (hi : i < 7776) : z_X6_numberOf σ 26 (nI (ev_bn i)) = some (nI i) := by
  obtain ⟨-, -, h3, h4⟩ := ev_cka hi
  unfold z_X6_numberOf
  rw [ez_bdo ho, if_neg (nI_ne0 h3 h4), show (0 : Int32) = nI 0 from nI_0.symm, show ez_N = 16378 + 1 + 1 + 1 + 1 + 1 + 1 from rfl, ez_fix1, ev_ns ho g0 g1 _ hi (by decide), ez_fix1, ev_ns ho g0 g1 _ hi (by decide), ez_fix1, ev_ns ho g0 g1 _ hi (by decide), ez_fix1, ev_ns ho g0 g1 _ hi (by decide), ez_fix1, ev_ns ho g0 g1 _ hi (by decide), ez_fix1, ev_dgs hi]
  generalize ez_fix (fun _ _ _ _ => none) (z_X6_numberOf_10 σ) 16378 = K
  unfold z_X6_numberOf_10
  rw [g0, ez_bd_some, if_pos (Int32.le_refl _)]
set_option maxRecDepth 100000 in
theorem ev_ow {c d : Nat} (hc : c < 5) (hd : d < 6) : z_X6_onwardAt ev_sH 26 (nI c) (nI d) = some (nI (6 ^ (4 - c))) := by
  have h : ∀ c : Nat, c < 5 → ∀ d : Nat, d < 6 → z_X6_onwardAt ev_sH 26 (nI c) (nI d) = some (nI (6 ^ (4 - c))) := by decide +kernel
  exact h c hc d hd
set_option maxRecDepth 100000 in
theorem ev_lo {d : Nat} (hd : d < 6) : z_X6_lowest ev_sH 26 (nI d) = some (nI 0) ∧ z_X6_highest ev_sH 26 (nI d) = some (nI 5) := by
  have h : ∀ d : Nat, d < 6 → z_X6_lowest ev_sH 26 (nI d) = some (nI 0) ∧ z_X6_highest ev_sH 26 (nI d) = some (nI 5) := by decide +kernel
  exact h d hd
set_option maxRecDepth 100000 in
theorem ev_nin (K : ez_H → Nat → Int32 → Int32 → Int32 → Int32 → Int32 → Option (Int32 × ez_H)) {c : Nat} (hc : c < 5) (x : Int32) : ∀ t n d m, d + t = 5 → t < n → m < (t + 1) * 6 ^ (4 - c) → ez_fix (fun _ _ _ _ _ _ _ => none) (z_X6_nth_51 K) n ev_sH 26 (nI m) x (nI 5) (nI c) (nI d) = z_X6_nth_87 K ev_sH 26 (nI (m % 6 ^ (4 - c))) x (nI c) (nI (d + m / 6 ^ (4 - c))) := by
  obtain ⟨p1, p2⟩ := ev_pw hc
  generalize hp : 6 ^ (4 - c) = p at p1 p2
  intro t
  induction t with
  | zero =>
    intro n d m hd hn hm
    obtain ⟨j, rfl⟩ := ev_pos hn
    rw [ez_fix1]
    generalize ez_fix (fun _ _ _ _ _ _ _ => none) (z_X6_nth_51 K) j = G
    unfold z_X6_nth_51
    rw [if_pos (nI_le (by omega) (by omega)), Nat.mod_eq_of_lt (by omega), Nat.div_eq_of_lt (by omega), Nat.add_zero]
  | succ t ih =>
    intro n d m hd hn hm
    obtain ⟨j, rfl⟩ := ev_pos hn
    have hm1 : m < (t + 2) * p := hm
    have hm2 : (t + 2) * p ≤ 6 * p := Nat.mul_le_mul_right _ (by omega)
    rw [ez_fix1]
    generalize hK : ez_fix (fun _ _ _ _ _ _ _ => none) (z_X6_nth_51 K) j = G
    unfold z_X6_nth_51
    rw [if_neg (nI_ge (by omega) (by decide)), ev_ow hc (by omega), ez_bd_some, hp]
    by_cases q : m < p
    · rw [if_pos (nI_lt q (by omega)), Nat.mod_eq_of_lt q, Nat.div_eq_of_lt q, Nat.add_zero]
    · rw [if_neg (nI_nlt (by omega) (by omega)), ez_bd_some, ez_let_eq, ez_let_eq, pk_sub (by omega), nI_1, ← hK, ih j (d + 1) (m - p) (by omega) (by omega) (by have : (t + 2) * p = (t + 1) * p + p := Nat.succ_mul _ _; omega)]
      have e1 : (m - p) % p = m % p := by rw [← Nat.mod_eq_sub_mod (by omega)]
      have e2 : m / p = (m - p) / p + 1 := Nat.div_eq_sub_div p1 (by omega)
      rw [e1, e2, show d + 1 + (m - p) / p = d + ((m - p) / p + 1) by omega]
set_option maxRecDepth 100000 in
theorem ev_nst (K : ez_H → Nat → Int32 → Int32 → Int32 → Int32 → Int32 → Option (Int32 × ez_H)) {c m b : Nat} (hc : c < 5) (hm : m < 6 * 6 ^ (4 - c)) : z_X6_nth_38 K ev_sH 26 (nI m) (nI b) (nI 0) (nI 5) (nI c) = K ev_sH 26 (nI (m % 6 ^ (4 - c))) (nI (b ||| 2 ^ (6 * c + m / 6 ^ (4 - c)))) (nI 0) (nI 5) (nI (c + 1)) := by
  obtain ⟨p1, p2⟩ := ev_pw hc
  have hd : m / 6 ^ (4 - c) < 6 := Nat.div_lt_of_lt_mul (by rw [Nat.mul_comm]; exact hm)
  unfold z_X6_nth_38
  rw [ev_hd.1, ez_bd_some, if_neg (nI_ge hc (by decide)), ev_nin K hc _ 5 ez_N 0 m (by decide) (by decide) (by simpa using hm)]
  unfold z_X6_nth_87
  rw [Nat.zero_add, ev_no hc hd, ez_bd_some, ez_let_eq, (ev_lo hd).1, ez_bd_some, (ev_lo hd).2, ez_bd_some, ez_let_eq, ev_or, nI_1]
set_option maxRecDepth 100000 in
theorem ev_nth {i : Nat} (hi : i < 7776) : z_X6_nth ev_s0 26 1073741823 (nI i) = some (nI (ev_bn i), ev_sH) := by
  unfold z_X6_nth
  rw [ez_bdo ev_o26, if_neg (nI_pos (by omega)), show ez_gi ev_s0 6 26 2 = some 5 from by decide +kernel, ez_bd_some, ev_hm, ez_b2_some, if_pos (nI_lt hi (by decide)), ev_hd.2.1, ez_bd_some, ez_let_eq, show nI 6 - 1 = nI 5 from nI_pred 5, show (0 : Int32) = nI 0 from nI_0.symm, show ez_N = 16378 + 1 + 1 + 1 + 1 + 1 + 1 from rfl, ez_fix1, ev_nst _ (by decide) (by show i < 6 * 1296; omega), ez_fix1, ev_nst _ (by decide) (by show i % 1296 < 6 * 216; omega), ez_fix1, ev_nst _ (by decide) (by show i % 1296 % 216 < 6 * 36; omega), ez_fix1, ev_nst _ (by decide) (by show i % 1296 % 216 % 36 < 6 * 6; omega), ez_fix1, ev_nst _ (by decide) (by show i % 1296 % 216 % 36 % 6 < 6 * 1; omega), ez_fix1]
  generalize ez_fix (fun _ _ _ _ _ _ _ => none) z_X6_nth_38 16378 = K
  unfold z_X6_nth_38
  rw [ev_hd.1, ez_bd_some, if_pos (Int32.le_refl _)]
  rfl
set_option maxRecDepth 100000 in
theorem pr_bitting (a0 : Int32) : ∃ r σ1, z_X11_bitting ev_s0 0 a0 = some (r, σ1) ∧ z_X12_bitting σ1 170 a0 = some r := by
  by_cases q : a0 < 0
  · refine ⟨-1, ev_s0, ?_, by rw [md_bitting ev_MF0, if_pos (Or.inl q)]⟩
    have e : z_X6_nth ev_s0 26 1073741823 a0 = some (0, ev_s0) := by
      unfold z_X6_nth z_X6_nth_17
      rw [ez_bdo ev_o26, if_pos q]
    unfold z_X11_bitting
    rw [ez_bdo ev_o0]
    simp only [ev_cd, ez_bd_some, ev_ev]
    rw [e, ez_b2_some, show z_X6_numberOf ev_s0 26 0 = some (-1) from by decide +kernel, ez_bd_some]
  obtain ⟨i, hi, rfl⟩ := nI_of q
  by_cases q1 : i < 7776
  · refine ⟨nI i, ev_sH, ?_, ?_⟩
    · unfold z_X11_bitting
      rw [ez_bdo ev_o0]
      simp only [ev_cd, ez_bd_some, ev_ev]
      rw [ev_nth q1, ez_b2_some, ev_num ev_ho ev_hd.1 ev_hd.2.1 q1, ez_bd_some]
    · rw [md_bitting ev_MFH, if_neg]
      intro e
      rcases e with e | e
      · exact q e
      · exact nI_nlt (show i ≤ 7775 by omega) (by decide) e
  · refine ⟨-1, ev_sH, ?_, by rw [md_bitting ev_MFH, if_pos (Or.inr (nI_lt (by omega) hi))]⟩
    have e : z_X6_nth ev_s0 26 1073741823 (nI i) = some (0, ev_sH) := by
      unfold z_X6_nth z_X6_nth_17
      rw [ez_bdo ev_o26, if_neg q, show ez_gi ev_s0 6 26 2 = some 5 from by decide +kernel, ez_bd_some, ev_hm, ez_b2_some, if_neg (nI_nlt (by omega) hi)]
    unfold z_X11_bitting
    rw [ez_bdo ev_o0]
    simp only [ev_cd, ez_bd_some, ev_ev]
    rw [e, ez_b2_some, show z_X6_numberOf ev_sH 26 0 = some (-1) from by decide +kernel, ez_bd_some]
