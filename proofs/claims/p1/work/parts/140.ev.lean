def ev_s0 : ez_H := [.inr (.inr (.inr (11, [.inr (.inr (some 1)), .inl 0, .inr (.inr (some 2)), .inr (.inr (some 25)), .inr (.inr (some 26)), .inr (.inr (some 39)), .inr (.inr (some 41)), .inr (.inr (some 43)), .inr (.inr (some 127)), .inl 0, .inr (.inr (some 134)), .inr (.inr (some 146)), .inr (.inr (some 158)), .inr (.inr (some 162)), .inr (.inr (some 164)), .inr (.inr (some 169))]))),
  .inl (0, 1600, []),
  .inr (.inr (.inr (4, [.inr (.inr (some 3)), .inl 0, .inl (-1), .inr (.inr (some 17)), .inr (.inr (some 19)), .inl 0]))),
  .inr (.inr (.inr (3, [.inr (.inr (some 4)), .inr (.inr (some 6)), .inr (.inr (some 10)), .inl 0, .inl 0, .inl 0, .inl 0, .inl 0, .inr (.inr (some 12)), .inr (.inr (some 13)), .inr (.inr (some 14)), .inr (.inr (some 15)), .inr (.inr (some 16))]))),
  .inr (.inr (.inr (6, [.inl 5, .inl 6, .inl 5, .inr (.inr (some 5))]))),
  .inl (1, 30, []),
  .inr (.inr (.inr (0, [.inl 0, .inl 0, .inr (.inr (some 7)), .inr (.inr (some 8)), .inr (.inr (some 9))]))),
  .inl (1, 270, []),
  .inl (1, 270, []),
  .inl (1, 31, []),
  .inr (.inr (.inr (7, [.inr (.inr (some 11))]))),
  .inl (1, 35, []),
  .inl (1, 8, []),
  .inl (1, 8, []),
  .inl (1, 8, []),
  .inl (1, 6, []),
  .inl (1, 6, []),
  .inr (.inr (.inr (9, [.inr (.inr (some 1)), .inr (.inr (some 18)), .inl 0, .inl 0, .inl 0, .inl 0, .inl 0, .inr (.inl 0)]))),
  .inr (.inl (23, [(0, 111716406867), (1, 140005651), (2, 643248), (3, 11449), (4, 408683), (5, 605677), (6, 146930), (7, 542723566), (8, 448116), (9, 14866610), (10, 758834), (11, 149559), (12, 215533), (13, 655), (14, 302), (15, 8892563), (16, 498), (17, 1476), (18, 14836), (19, 3764), (20, 72983685), (21, 707763), (22, 3491137714)])),
  .inr (.inr (.inl (5, 5, [(0, some 20), (1, some 21), (2, some 22), (3, some 23), (4, some 24)]))),
  .inr (.inl (8, [])),
  .inr (.inl (8, [])),
  .inr (.inl (8, [])),
  .inr (.inl (8, [])),
  .inr (.inl (8, [])),
  .inr (.inr (.inr (3, [.inr (.inr (some 26)), .inr (.inr (some 28)), .inr (.inr (some 32)), .inl 0, .inl 0, .inl 0, .inl 0, .inl 0, .inr (.inr (some 34)), .inr (.inr (some 35)), .inr (.inr (some 36)), .inr (.inr (some 37)), .inr (.inr (some 38))]))),
  .inr (.inr (.inr (6, [.inl 5, .inl 6, .inl 5, .inr (.inr (some 27))]))),
  .inl (1, 30, []),
  .inr (.inr (.inr (0, [.inl 0, .inl 0, .inr (.inr (some 29)), .inr (.inr (some 30)), .inr (.inr (some 31))]))),
  .inl (1, 270, []),
  .inl (1, 270, []),
  .inl (1, 31, []),
  .inr (.inr (.inr (7, [.inr (.inr (some 33))]))),
  .inl (1, 35, []),
  .inl (1, 8, []),
  .inl (1, 8, []),
  .inl (1, 8, []),
  .inl (1, 6, []),
  .inl (1, 6, []),
  .inr (.inr (.inr (7, [.inr (.inr (some 40))]))),
  .inl (1, 35, []),
  .inr (.inr (.inr (7, [.inr (.inr (some 42))]))),
  .inl (1, 35, []),
  .inr (.inr (.inr (1, [.inr (.inr (some 44)), .inl 0, .inl 0, .inl 0]))),
  .inr (.inr (.inl (4, 41, [(0, some 45), (1, some 47), (2, some 49), (3, some 51), (4, some 53), (5, some 55), (6, some 57), (7, some 59), (8, some 61), (9, some 63), (10, some 65), (11, some 67), (12, some 69), (13, some 71), (14, some 73), (15, some 75), (16, some 77), (17, some 79), (18, some 81), (19, some 83), (20, some 85), (21, some 87), (22, some 89), (23, some 91), (24, some 93), (25, some 95), (26, some 97), (27, some 99), (28, some 101), (29, some 103), (30, some 105), (31, some 107), (32, some 109), (33, some 111), (34, some 113), (35, some 115), (36, some 117), (37, some 119), (38, some 121), (39, some 123), (40, some 125)]))),
  .inr (.inr (.inr (7, [.inr (.inr (some 46))]))),
  .inl (1, 35, []),
  .inr (.inr (.inr (7, [.inr (.inr (some 48))]))),
  .inl (1, 35, []),
  .inr (.inr (.inr (7, [.inr (.inr (some 50))]))),
  .inl (1, 35, []),
  .inr (.inr (.inr (7, [.inr (.inr (some 52))]))),
  .inl (1, 35, []),
  .inr (.inr (.inr (7, [.inr (.inr (some 54))]))),
  .inl (1, 35, []),
  .inr (.inr (.inr (7, [.inr (.inr (some 56))]))),
  .inl (1, 35, []),
  .inr (.inr (.inr (7, [.inr (.inr (some 58))]))),
  .inl (1, 35, []),
  .inr (.inr (.inr (7, [.inr (.inr (some 60))]))),
  .inl (1, 35, []),
  .inr (.inr (.inr (7, [.inr (.inr (some 62))]))),
  .inl (1, 35, []),
  .inr (.inr (.inr (7, [.inr (.inr (some 64))]))),
  .inl (1, 35, []),
  .inr (.inr (.inr (7, [.inr (.inr (some 66))]))),
  .inl (1, 35, []),
  .inr (.inr (.inr (7, [.inr (.inr (some 68))]))),
  .inl (1, 35, []),
  .inr (.inr (.inr (7, [.inr (.inr (some 70))]))),
  .inl (1, 35, []),
  .inr (.inr (.inr (7, [.inr (.inr (some 72))]))),
  .inl (1, 35, []),
  .inr (.inr (.inr (7, [.inr (.inr (some 74))]))),
  .inl (1, 35, []),
  .inr (.inr (.inr (7, [.inr (.inr (some 76))]))),
  .inl (1, 35, []),
  .inr (.inr (.inr (7, [.inr (.inr (some 78))]))),
  .inl (1, 35, []),
  .inr (.inr (.inr (7, [.inr (.inr (some 80))]))),
  .inl (1, 35, []),
  .inr (.inr (.inr (7, [.inr (.inr (some 82))]))),
  .inl (1, 35, []),
  .inr (.inr (.inr (7, [.inr (.inr (some 84))]))),
  .inl (1, 35, []),
  .inr (.inr (.inr (7, [.inr (.inr (some 86))]))),
  .inl (1, 35, []),
  .inr (.inr (.inr (7, [.inr (.inr (some 88))]))),
  .inl (1, 35, []),
  .inr (.inr (.inr (7, [.inr (.inr (some 90))]))),
  .inl (1, 35, []),
  .inr (.inr (.inr (7, [.inr (.inr (some 92))]))),
  .inl (1, 35, []),
  .inr (.inr (.inr (7, [.inr (.inr (some 94))]))),
  .inl (1, 35, []),
  .inr (.inr (.inr (7, [.inr (.inr (some 96))]))),
  .inl (1, 35, []),
  .inr (.inr (.inr (7, [.inr (.inr (some 98))]))),
  .inl (1, 35, []),
  .inr (.inr (.inr (7, [.inr (.inr (some 100))]))),
  .inl (1, 35, []),
  .inr (.inr (.inr (7, [.inr (.inr (some 102))]))),
  .inl (1, 35, []),
  .inr (.inr (.inr (7, [.inr (.inr (some 104))]))),
  .inl (1, 35, []),
  .inr (.inr (.inr (7, [.inr (.inr (some 106))]))),
  .inl (1, 35, []),
  .inr (.inr (.inr (7, [.inr (.inr (some 108))]))),
  .inl (1, 35, []),
  .inr (.inr (.inr (7, [.inr (.inr (some 110))]))),
  .inl (1, 35, []),
  .inr (.inr (.inr (7, [.inr (.inr (some 112))]))),
  .inl (1, 35, []),
  .inr (.inr (.inr (7, [.inr (.inr (some 114))]))),
  .inl (1, 35, []),
  .inr (.inr (.inr (7, [.inr (.inr (some 116))]))),
  .inl (1, 35, []),
  .inr (.inr (.inr (7, [.inr (.inr (some 118))]))),
  .inl (1, 35, []),
  .inr (.inr (.inr (7, [.inr (.inr (some 120))]))),
  .inl (1, 35, []),
  .inr (.inr (.inr (7, [.inr (.inr (some 122))]))),
  .inl (1, 35, []),
  .inr (.inr (.inr (7, [.inr (.inr (some 124))]))),
  .inl (1, 35, []),
  .inr (.inr (.inr (7, [.inr (.inr (some 126))]))),
  .inl (1, 35, []),
  .inr (.inr (.inl (4, 3, [(0, some 128), (1, some 130), (2, some 132)]))),
  .inr (.inr (.inr (7, [.inr (.inr (some 129))]))),
  .inl (1, 35, []),
  .inr (.inr (.inr (7, [.inr (.inr (some 131))]))),
  .inl (1, 35, []),
  .inr (.inr (.inr (7, [.inr (.inr (some 133))]))),
  .inl (1, 35, []),
  .inr (.inr (.inr (8, [.inr (.inr (some 25)), .inr (.inr (some 26)), .inr (.inr (some 135)), .inr (.inr (some 136)), .inr (.inr (some 137)), .inr (.inr (some 138)), .inr (.inr (some 139)), .inr (.inr (some 140)), .inr (.inr (some 141)), .inr (.inr (some 142)), .inr (.inr (some 143)), .inr (.inr (some 144)), .inr (.inr (some 145))]))),
  .inl (1, 10, []),
  .inl (1, 6, []),
  .inl (1, 384, []),
  .inl (1, 384, []),
  .inl (1, 384, []),
  .inl (1, 384, []),
  .inl (1, 384, []),
  .inl (1, 384, []),
  .inl (1, 64, []),
  .inl (1, 64, []),
  .inl (1, 64, []),
  .inr (.inr (.inr (8, [.inr (.inr (some 25)), .inr (.inr (some 26)), .inr (.inr (some 147)), .inr (.inr (some 148)), .inr (.inr (some 149)), .inr (.inr (some 150)), .inr (.inr (some 151)), .inr (.inr (some 152)), .inr (.inr (some 153)), .inr (.inr (some 154)), .inr (.inr (some 155)), .inr (.inr (some 156)), .inr (.inr (some 157))]))),
  .inl (1, 10, []),
  .inl (1, 6, []),
  .inl (1, 384, []),
  .inl (1, 384, []),
  .inl (1, 384, []),
  .inl (1, 384, []),
  .inl (1, 384, []),
  .inl (1, 384, []),
  .inl (1, 64, []),
  .inl (1, 64, []),
  .inl (1, 64, []),
  .inr (.inr (.inr (2, [.inr (.inr (some 25)), .inr (.inr (some 39)), .inr (.inr (some 159)), .inr (.inr (some 160)), .inr (.inr (some 161)), .inl 0]))),
  .inl (1, 6, []),
  .inl (1, 4, []),
  .inl (1, 6, []),
  .inr (.inr (.inr (5, [.inr (.inr (some 25)), .inr (.inr (some 39)), .inr (.inr (some 26)), .inr (.inr (some 163)), .inl 0]))),
  .inl (1, 48, []),
  .inr (.inr (.inr (10, [.inr (.inr (some 165)), .inr (.inr (some 166)), .inr (.inr (some 167)), .inr (.inr (some 168)), .inl 0, .inl 0]))),
  .inl (1, 30, []),
  .inl (3, 30, []),
  .inl (1, 30, []),
  .inl (1, 30, []),
  .inl (1, 60, []),
  .inr (.inr (.inr (12, [.inr (.inr (some 171)), .inr (.inr (some 172)), .inl 0, .inl 0, .inl 0, .inl (-1), .inl 0, .inl 0, .inl 0, .inl 0, .inr (.inl 0), .inr (.inr (some 173)), .inr (.inr (some 174)), .inr (.inr (some 175)), .inr (.inr (some 176)), .inr (.inr (some 177)), .inr (.inr (some 178)), .inr (.inr (some 179)), .inr (.inr (some 180)), .inr (.inr (some 181)), .inr (.inr (some 182)), .inr (.inr (some 183)), .inr (.inr (some 184)), .inr (.inr (some 185)), .inr (.inr (some 186)), .inr (.inr (some 187)), .inr (.inr (some 188)), .inr (.inr (some 189)), .inr (.inr (some 190)), .inr (.inr (some 191)), .inr (.inr (some 192)), .inr (.inr (some 193)), .inr (.inr (some 194)), .inr (.inr (some 195)), .inr (.inr (some 196)), .inr (.inr (some 197)), .inr (.inr (some 198)), .inr (.inr (some 199)), .inr (.inr (some 200)), .inr (.inr (some 201)), .inr (.inr (some 202)), .inr (.inr (some 203)), .inr (.inr (some 204)), .inl 0, .inl 0, .inl 0, .inl 0, .inl 0, .inl 0, .inl 0, .inl 0, .inl 0, .inl 0, .inr (.inr (some 205)), .inr (.inr (some 206)), .inr (.inr (some 207)), .inr (.inr (some 208)), .inl 0, .inr (.inr (some 209)), .inr (.inr (some 210)), .inl 0, .inl 0, .inr (.inr (some 211)), .inr (.inr (some 212)), .inr (.inr (some 213)), .inr (.inr (some 214)), .inl 0, .inl 0, .inr (.inr (some 215)), .inr (.inr (some 216))]))),
  .inl (0, 1620, []),
  .inl (0, 1600, []),
  .inl (1, 2, [(0, 5)]),
  .inl (1, 2, [(0, 6)]),
  .inl (1, 2, [(0, 5)]),
  .inl (1, 2, []),
  .inl (1, 2, []),
  .inl (1, 2, []),
  .inl (1, 2, []),
  .inl (1, 2, []),
  .inl (1, 2, []),
  .inl (1, 2, []),
  .inl (1, 2, []),
  .inl (1, 80, []),
  .inl (1, 60, []),
  .inl (1, 16, []),
  .inl (1, 16, []),
  .inl (1, 16, []),
  .inl (1, 8, []),
  .inl (1, 16, []),
  .inl (1, 12, []),
  .inl (1, 12, []),
  .inl (1, 2, []),
  .inl (1, 2, []),
  .inr (.inl (16, [])),
  .inr (.inl (12, [])),
  .inr (.inl (12, [])),
  .inr (.inl (16, [])),
  .inr (.inl (8, [])),
  .inl (1, 1120, []),
  .inl (1, 1120, []),
  .inl (1, 90, []),
  .inl (1, 90, []),
  .inl (1, 60, []),
  .inl (1, 91, [(48, (-1)), (49, (-1)), (50, (-1)), (51, (-1)), (52, (-1)), (53, (-1)), (54, (-1)), (55, (-1))]),
  .inl (1, 91, []),
  .inl (1, 60, []),
  .inl (1, 6, []),
  .inl (1, 4, []),
  .inl (1, 3731, []),
  .inl (1, 30, []),
  .inl (1, 30, []),
  .inl (1, 30, []),
  .inl (1, 30, []),
  .inl (1, 273, []),
  .inl (3, 3, [(0, 0), (1, 0), (2, 0)])]
def ev_MF (σ : ez_H) : Prop := ∀ j, 170 ≤ j → ez_at σ j = ez_at ev_s0 j
theorem ev_MF0 : ev_MF ev_s0 := fun _ _ => rfl
theorem ev_ob {σ : ez_H} (h : ev_MF σ) {ci a : Nat} (ha : 170 ≤ a) : ez_ob σ ci a = ez_ob ev_s0 ci a := by unfold ez_ob; rw [h a ha]
theorem ev_gi {σ : ez_H} (h : ev_MF σ) {ci a k : Nat} (ha : 170 ≤ a) : ez_gi σ ci a k = ez_gi ev_s0 ci a k := by unfold ez_gi; rw [ev_ob h ha]
theorem ev_gl {σ : ez_H} (h : ev_MF σ) {ci a k : Nat} (ha : 170 ≤ a) : ez_gl σ ci a k = ez_gl ev_s0 ci a k := by unfold ez_gl; rw [ev_ob h ha]
theorem ev_gr {σ : ez_H} (h : ev_MF σ) {ci a k : Nat} (ha : 170 ≤ a) : ez_gr σ ci a k = ez_gr ev_s0 ci a k := by unfold ez_gr; rw [ev_ob h ha]
theorem ev_ia {σ : ez_H} (h : ev_MF σ) {t a : Nat} {i : Int32} (ha : 170 ≤ a) : ez_ia σ t a i = ez_ia ev_s0 t a i := by unfold ez_ia; rw [h a ha]
theorem ev_m0 {σ : ez_H} (h : ev_MF σ) : (∃ fs, ez_ob σ 12 170 = some fs) := by rw [ev_ob h (by decide)]; exact ⟨_, rfl⟩
theorem ev_m1 {σ : ez_H} (h : ev_MF σ) : ez_gr σ 12 170 0 = some 171 := (ev_gr h (by decide)).trans (by decide +kernel)
theorem ev_m2 {σ : ez_H} (h : ev_MF σ) : ez_gr σ 12 170 1 = some 172 := (ev_gr h (by decide)).trans (by decide +kernel)
theorem ev_m3 {σ : ez_H} (h : ev_MF σ) : ez_gi σ 12 170 2 = some 0 := (ev_gi h (by decide)).trans (by decide +kernel)
theorem ev_m4 {σ : ez_H} (h : ev_MF σ) : ez_gi σ 12 170 3 = some 0 := (ev_gi h (by decide)).trans (by decide +kernel)
theorem ev_m5 {σ : ez_H} (h : ev_MF σ) : ez_gi σ 12 170 4 = some 0 := (ev_gi h (by decide)).trans (by decide +kernel)
theorem ev_m6 {σ : ez_H} (h : ev_MF σ) : ez_gi σ 12 170 5 = some (-1) := (ev_gi h (by decide)).trans (by decide +kernel)
theorem ev_m7 {σ : ez_H} (h : ev_MF σ) : ez_gi σ 12 170 6 = some 0 := (ev_gi h (by decide)).trans (by decide +kernel)
theorem ev_m8 {σ : ez_H} (h : ev_MF σ) : ez_gi σ 12 170 7 = some 0 := (ev_gi h (by decide)).trans (by decide +kernel)
theorem ev_m9 {σ : ez_H} (h : ev_MF σ) : ez_gi σ 12 170 8 = some 0 := (ev_gi h (by decide)).trans (by decide +kernel)
theorem ev_m10 {σ : ez_H} (h : ev_MF σ) : ez_gi σ 12 170 9 = some 0 := (ev_gi h (by decide)).trans (by decide +kernel)
theorem ev_m11 {σ : ez_H} (h : ev_MF σ) : ez_gl σ 12 170 10 = some 0 := (ev_gl h (by decide)).trans (by decide +kernel)
theorem ev_m12 {σ : ez_H} (h : ev_MF σ) : ez_gr σ 12 170 11 = some 173 := (ev_gr h (by decide)).trans (by decide +kernel)
theorem ev_m13 {σ : ez_H} (h : ev_MF σ) : ez_gr σ 12 170 12 = some 174 := (ev_gr h (by decide)).trans (by decide +kernel)
theorem ev_m14 {σ : ez_H} (h : ev_MF σ) : ez_gr σ 12 170 13 = some 175 := (ev_gr h (by decide)).trans (by decide +kernel)
theorem ev_m15 {σ : ez_H} (h : ev_MF σ) : ez_gr σ 12 170 14 = some 176 := (ev_gr h (by decide)).trans (by decide +kernel)
theorem ev_m16 {σ : ez_H} (h : ev_MF σ) : ez_gr σ 12 170 15 = some 177 := (ev_gr h (by decide)).trans (by decide +kernel)
theorem ev_m17 {σ : ez_H} (h : ev_MF σ) : ez_gr σ 12 170 16 = some 178 := (ev_gr h (by decide)).trans (by decide +kernel)
theorem ev_m18 {σ : ez_H} (h : ev_MF σ) : ez_gr σ 12 170 17 = some 179 := (ev_gr h (by decide)).trans (by decide +kernel)
theorem ev_m19 {σ : ez_H} (h : ev_MF σ) : ez_gr σ 12 170 18 = some 180 := (ev_gr h (by decide)).trans (by decide +kernel)
theorem ev_m20 {σ : ez_H} (h : ev_MF σ) : ez_gr σ 12 170 19 = some 181 := (ev_gr h (by decide)).trans (by decide +kernel)
theorem ev_m21 {σ : ez_H} (h : ev_MF σ) : ez_gr σ 12 170 20 = some 182 := (ev_gr h (by decide)).trans (by decide +kernel)
theorem ev_m22 {σ : ez_H} (h : ev_MF σ) : ez_gr σ 12 170 21 = some 183 := (ev_gr h (by decide)).trans (by decide +kernel)
theorem ev_m23 {σ : ez_H} (h : ev_MF σ) : ez_gr σ 12 170 22 = some 184 := (ev_gr h (by decide)).trans (by decide +kernel)
theorem ev_m24 {σ : ez_H} (h : ev_MF σ) : ez_gr σ 12 170 23 = some 185 := (ev_gr h (by decide)).trans (by decide +kernel)
theorem ev_m25 {σ : ez_H} (h : ev_MF σ) : ez_gr σ 12 170 24 = some 186 := (ev_gr h (by decide)).trans (by decide +kernel)
theorem ev_m26 {σ : ez_H} (h : ev_MF σ) : ez_gr σ 12 170 25 = some 187 := (ev_gr h (by decide)).trans (by decide +kernel)
theorem ev_m27 {σ : ez_H} (h : ev_MF σ) : ez_gr σ 12 170 26 = some 188 := (ev_gr h (by decide)).trans (by decide +kernel)
theorem ev_m28 {σ : ez_H} (h : ev_MF σ) : ez_gr σ 12 170 27 = some 189 := (ev_gr h (by decide)).trans (by decide +kernel)
theorem ev_m29 {σ : ez_H} (h : ev_MF σ) : ez_gr σ 12 170 28 = some 190 := (ev_gr h (by decide)).trans (by decide +kernel)
theorem ev_m30 {σ : ez_H} (h : ev_MF σ) : ez_gr σ 12 170 29 = some 191 := (ev_gr h (by decide)).trans (by decide +kernel)
theorem ev_m31 {σ : ez_H} (h : ev_MF σ) : ez_gr σ 12 170 30 = some 192 := (ev_gr h (by decide)).trans (by decide +kernel)
theorem ev_m32 {σ : ez_H} (h : ev_MF σ) : ez_gr σ 12 170 31 = some 193 := (ev_gr h (by decide)).trans (by decide +kernel)
theorem ev_m33 {σ : ez_H} (h : ev_MF σ) : ez_gr σ 12 170 32 = some 194 := (ev_gr h (by decide)).trans (by decide +kernel)
theorem ev_m34 {σ : ez_H} (h : ev_MF σ) : ez_gr σ 12 170 33 = some 195 := (ev_gr h (by decide)).trans (by decide +kernel)
theorem ev_m35 {σ : ez_H} (h : ev_MF σ) : ez_gr σ 12 170 34 = some 196 := (ev_gr h (by decide)).trans (by decide +kernel)
theorem ev_m36 {σ : ez_H} (h : ev_MF σ) : ez_gr σ 12 170 35 = some 197 := (ev_gr h (by decide)).trans (by decide +kernel)
theorem ev_m37 {σ : ez_H} (h : ev_MF σ) : ez_gr σ 12 170 36 = some 198 := (ev_gr h (by decide)).trans (by decide +kernel)
theorem ev_m38 {σ : ez_H} (h : ev_MF σ) : ez_gr σ 12 170 37 = some 199 := (ev_gr h (by decide)).trans (by decide +kernel)
theorem ev_m39 {σ : ez_H} (h : ev_MF σ) : ez_gr σ 12 170 38 = some 200 := (ev_gr h (by decide)).trans (by decide +kernel)
theorem ev_m40 {σ : ez_H} (h : ev_MF σ) : ez_gr σ 12 170 39 = some 201 := (ev_gr h (by decide)).trans (by decide +kernel)
theorem ev_m41 {σ : ez_H} (h : ev_MF σ) : ez_gr σ 12 170 40 = some 202 := (ev_gr h (by decide)).trans (by decide +kernel)
theorem ev_m42 {σ : ez_H} (h : ev_MF σ) : ez_gr σ 12 170 41 = some 203 := (ev_gr h (by decide)).trans (by decide +kernel)
theorem ev_m43 {σ : ez_H} (h : ev_MF σ) : ez_gr σ 12 170 42 = some 204 := (ev_gr h (by decide)).trans (by decide +kernel)
theorem ev_m44 {σ : ez_H} (h : ev_MF σ) : ez_gi σ 12 170 43 = some 0 := (ev_gi h (by decide)).trans (by decide +kernel)
theorem ev_m45 {σ : ez_H} (h : ev_MF σ) : ez_gi σ 12 170 44 = some 0 := (ev_gi h (by decide)).trans (by decide +kernel)
theorem ev_m46 {σ : ez_H} (h : ev_MF σ) : ez_gi σ 12 170 45 = some 0 := (ev_gi h (by decide)).trans (by decide +kernel)
theorem ev_m47 {σ : ez_H} (h : ev_MF σ) : ez_gi σ 12 170 46 = some 0 := (ev_gi h (by decide)).trans (by decide +kernel)
theorem ev_m48 {σ : ez_H} (h : ev_MF σ) : ez_gi σ 12 170 47 = some 0 := (ev_gi h (by decide)).trans (by decide +kernel)
theorem ev_m49 {σ : ez_H} (h : ev_MF σ) : ez_gi σ 12 170 48 = some 0 := (ev_gi h (by decide)).trans (by decide +kernel)
theorem ev_m50 {σ : ez_H} (h : ev_MF σ) : ez_gi σ 12 170 49 = some 0 := (ev_gi h (by decide)).trans (by decide +kernel)
theorem ev_m51 {σ : ez_H} (h : ev_MF σ) : ez_gi σ 12 170 50 = some 0 := (ev_gi h (by decide)).trans (by decide +kernel)
theorem ev_m52 {σ : ez_H} (h : ev_MF σ) : ez_gi σ 12 170 51 = some 0 := (ev_gi h (by decide)).trans (by decide +kernel)
theorem ev_m53 {σ : ez_H} (h : ev_MF σ) : ez_gi σ 12 170 52 = some 0 := (ev_gi h (by decide)).trans (by decide +kernel)
theorem ev_m54 {σ : ez_H} (h : ev_MF σ) : ez_gr σ 12 170 53 = some 205 := (ev_gr h (by decide)).trans (by decide +kernel)
theorem ev_m55 {σ : ez_H} (h : ev_MF σ) : ez_gr σ 12 170 54 = some 206 := (ev_gr h (by decide)).trans (by decide +kernel)
theorem ev_m56 {σ : ez_H} (h : ev_MF σ) : ez_gr σ 12 170 55 = some 207 := (ev_gr h (by decide)).trans (by decide +kernel)
theorem ev_m57 {σ : ez_H} (h : ev_MF σ) : ez_gr σ 12 170 56 = some 208 := (ev_gr h (by decide)).trans (by decide +kernel)
theorem ev_m58 {σ : ez_H} (h : ev_MF σ) : ez_gi σ 12 170 57 = some 0 := (ev_gi h (by decide)).trans (by decide +kernel)
theorem ev_m59 {σ : ez_H} (h : ev_MF σ) : ez_gr σ 12 170 58 = some 209 := (ev_gr h (by decide)).trans (by decide +kernel)
theorem ev_m60 {σ : ez_H} (h : ev_MF σ) : ez_gr σ 12 170 59 = some 210 := (ev_gr h (by decide)).trans (by decide +kernel)
theorem ev_m61 {σ : ez_H} (h : ev_MF σ) : ez_gi σ 12 170 60 = some 0 := (ev_gi h (by decide)).trans (by decide +kernel)
theorem ev_m62 {σ : ez_H} (h : ev_MF σ) : ez_gi σ 12 170 61 = some 0 := (ev_gi h (by decide)).trans (by decide +kernel)
theorem ev_m63 {σ : ez_H} (h : ev_MF σ) : ez_gr σ 12 170 62 = some 211 := (ev_gr h (by decide)).trans (by decide +kernel)
theorem ev_m64 {σ : ez_H} (h : ev_MF σ) : ez_gr σ 12 170 63 = some 212 := (ev_gr h (by decide)).trans (by decide +kernel)
theorem ev_m65 {σ : ez_H} (h : ev_MF σ) : ez_gr σ 12 170 64 = some 213 := (ev_gr h (by decide)).trans (by decide +kernel)
theorem ev_m66 {σ : ez_H} (h : ev_MF σ) : ez_gr σ 12 170 65 = some 214 := (ev_gr h (by decide)).trans (by decide +kernel)
theorem ev_m67 {σ : ez_H} (h : ev_MF σ) : ez_gi σ 12 170 66 = some 0 := (ev_gi h (by decide)).trans (by decide +kernel)
theorem ev_m68 {σ : ez_H} (h : ev_MF σ) : ez_gi σ 12 170 67 = some 0 := (ev_gi h (by decide)).trans (by decide +kernel)
theorem ev_m69 {σ : ez_H} (h : ev_MF σ) : ez_gr σ 12 170 68 = some 215 := (ev_gr h (by decide)).trans (by decide +kernel)
theorem ev_m70 {σ : ez_H} (h : ev_MF σ) : ez_gr σ 12 170 69 = some 216 := (ev_gr h (by decide)).trans (by decide +kernel)
theorem ev_m71 {σ : ez_H} (h : ev_MF σ) : ez_ia σ 1 173 0 = some 5 := (ev_ia h (by decide)).trans (by decide +kernel)
theorem ev_m72 {σ : ez_H} (h : ev_MF σ) : ez_ia σ 1 174 0 = some 6 := (ev_ia h (by decide)).trans (by decide +kernel)
theorem ev_m73 {σ : ez_H} (h : ev_MF σ) : ez_ia σ 1 175 0 = some 5 := (ev_ia h (by decide)).trans (by decide +kernel)
theorem ev_m74 {σ : ez_H} (h : ev_MF σ) : ez_ia σ 1 176 0 = some 0 := (ev_ia h (by decide)).trans (by decide +kernel)
theorem ev_m75 {σ : ez_H} (h : ev_MF σ) : ez_ia σ 1 177 0 = some 0 := (ev_ia h (by decide)).trans (by decide +kernel)
theorem ev_m76 {σ : ez_H} (h : ev_MF σ) : ez_ia σ 1 178 0 = some 0 := (ev_ia h (by decide)).trans (by decide +kernel)
theorem ev_m77 {σ : ez_H} (h : ev_MF σ) : ez_ia σ 1 179 0 = some 0 := (ev_ia h (by decide)).trans (by decide +kernel)
theorem ev_m78 {σ : ez_H} (h : ev_MF σ) : ez_ia σ 1 180 0 = some 0 := (ev_ia h (by decide)).trans (by decide +kernel)
theorem ev_m79 {σ : ez_H} (h : ev_MF σ) : ez_ia σ 1 181 0 = some 0 := (ev_ia h (by decide)).trans (by decide +kernel)
theorem ev_m80 {σ : ez_H} (h : ev_MF σ) : ez_ia σ 1 182 0 = some 0 := (ev_ia h (by decide)).trans (by decide +kernel)
theorem ev_m81 {σ : ez_H} (h : ev_MF σ) : ez_ia σ 1 183 0 = some 0 := (ev_ia h (by decide)).trans (by decide +kernel)
theorem ev_md {σ : ez_H} (h : ev_MF σ) : ez_gr σ 12 170 0 = some 171 ∧ ez_gr σ 12 170 1 = some 172 ∧ ez_gi σ 12 170 2 = some 0 ∧ ez_gi σ 12 170 3 = some 0 ∧ ez_gi σ 12 170 4 = some 0 ∧ ez_gi σ 12 170 5 = some (-1) ∧ ez_gi σ 12 170 6 = some 0 ∧ ez_gi σ 12 170 7 = some 0 ∧ ez_gi σ 12 170 8 = some 0 ∧ ez_gi σ 12 170 9 = some 0 ∧ ez_gl σ 12 170 10 = some 0 ∧ ez_gr σ 12 170 11 = some 173 ∧ ez_gr σ 12 170 12 = some 174 ∧ ez_gr σ 12 170 13 = some 175 ∧ ez_gr σ 12 170 14 = some 176 ∧ ez_gr σ 12 170 15 = some 177 ∧ ez_gr σ 12 170 16 = some 178 ∧ ez_gr σ 12 170 17 = some 179 ∧ ez_gr σ 12 170 18 = some 180 ∧ ez_gr σ 12 170 19 = some 181 ∧ ez_gr σ 12 170 20 = some 182 ∧ ez_gr σ 12 170 21 = some 183 ∧ ez_gr σ 12 170 22 = some 184 ∧ ez_gr σ 12 170 23 = some 185 ∧ ez_gr σ 12 170 24 = some 186 ∧ ez_gr σ 12 170 25 = some 187 ∧ ez_gr σ 12 170 26 = some 188 ∧ ez_gr σ 12 170 27 = some 189 ∧ ez_gr σ 12 170 28 = some 190 ∧ ez_gr σ 12 170 29 = some 191 ∧ ez_gr σ 12 170 30 = some 192 ∧ ez_gr σ 12 170 31 = some 193 ∧ ez_gr σ 12 170 32 = some 194 ∧ ez_gr σ 12 170 33 = some 195 ∧ ez_gr σ 12 170 34 = some 196 ∧ ez_gr σ 12 170 35 = some 197 ∧ ez_gr σ 12 170 36 = some 198 ∧ ez_gr σ 12 170 37 = some 199 ∧ ez_gr σ 12 170 38 = some 200 ∧ ez_gr σ 12 170 39 = some 201 ∧ ez_gr σ 12 170 40 = some 202 ∧ ez_gr σ 12 170 41 = some 203 ∧ ez_gr σ 12 170 42 = some 204 ∧ ez_gi σ 12 170 43 = some 0 ∧ ez_gi σ 12 170 44 = some 0 ∧ ez_gi σ 12 170 45 = some 0 ∧ ez_gi σ 12 170 46 = some 0 ∧ ez_gi σ 12 170 47 = some 0 ∧ ez_gi σ 12 170 48 = some 0 ∧ ez_gi σ 12 170 49 = some 0 ∧ ez_gi σ 12 170 50 = some 0 ∧ ez_gi σ 12 170 51 = some 0 ∧ ez_gi σ 12 170 52 = some 0 ∧ ez_gr σ 12 170 53 = some 205 ∧ ez_gr σ 12 170 54 = some 206 ∧ ez_gr σ 12 170 55 = some 207 ∧ ez_gr σ 12 170 56 = some 208 ∧ ez_gi σ 12 170 57 = some 0 ∧ ez_gr σ 12 170 58 = some 209 ∧ ez_gr σ 12 170 59 = some 210 ∧ ez_gi σ 12 170 60 = some 0 ∧ ez_gi σ 12 170 61 = some 0 ∧ ez_gr σ 12 170 62 = some 211 ∧ ez_gr σ 12 170 63 = some 212 ∧ ez_gr σ 12 170 64 = some 213 ∧ ez_gr σ 12 170 65 = some 214 ∧ ez_gi σ 12 170 66 = some 0 ∧ ez_gi σ 12 170 67 = some 0 ∧ ez_gr σ 12 170 68 = some 215 ∧ ez_gr σ 12 170 69 = some 216 ∧ ez_ia σ 1 173 0 = some 5 ∧ ez_ia σ 1 174 0 = some 6 ∧ ez_ia σ 1 175 0 = some 5 ∧ ez_ia σ 1 176 0 = some 0 ∧ ez_ia σ 1 177 0 = some 0 ∧ ez_ia σ 1 178 0 = some 0 ∧ ez_ia σ 1 179 0 = some 0 ∧ ez_ia σ 1 180 0 = some 0 ∧ ez_ia σ 1 181 0 = some 0 ∧ ez_ia σ 1 182 0 = some 0 ∧ ez_ia σ 1 183 0 = some 0 := ⟨ev_m1 h, ev_m2 h, ev_m3 h, ev_m4 h, ev_m5 h, ev_m6 h, ev_m7 h, ev_m8 h, ev_m9 h, ev_m10 h, ev_m11 h, ev_m12 h, ev_m13 h, ev_m14 h, ev_m15 h, ev_m16 h, ev_m17 h, ev_m18 h, ev_m19 h, ev_m20 h, ev_m21 h, ev_m22 h, ev_m23 h, ev_m24 h, ev_m25 h, ev_m26 h, ev_m27 h, ev_m28 h, ev_m29 h, ev_m30 h, ev_m31 h, ev_m32 h, ev_m33 h, ev_m34 h, ev_m35 h, ev_m36 h, ev_m37 h, ev_m38 h, ev_m39 h, ev_m40 h, ev_m41 h, ev_m42 h, ev_m43 h, ev_m44 h, ev_m45 h, ev_m46 h, ev_m47 h, ev_m48 h, ev_m49 h, ev_m50 h, ev_m51 h, ev_m52 h, ev_m53 h, ev_m54 h, ev_m55 h, ev_m56 h, ev_m57 h, ev_m58 h, ev_m59 h, ev_m60 h, ev_m61 h, ev_m62 h, ev_m63 h, ev_m64 h, ev_m65 h, ev_m66 h, ev_m67 h, ev_m68 h, ev_m69 h, ev_m70 h, ev_m71 h, ev_m72 h, ev_m73 h, ev_m74 h, ev_m75 h, ev_m76 h, ev_m77 h, ev_m78 h, ev_m79 h, ev_m80 h, ev_m81 h⟩
theorem ev_c0 : ez_gr ev_s0 11 0 0 = some 1 := by decide +kernel
theorem ev_c1 : ez_gi ev_s0 11 0 1 = some 0 := by decide +kernel
theorem ev_c2 : ez_gr ev_s0 11 0 2 = some 2 := by decide +kernel
theorem ev_c3 : ez_gr ev_s0 11 0 3 = some 25 := by decide +kernel
theorem ev_c4 : ez_gr ev_s0 11 0 4 = some 26 := by decide +kernel
theorem ev_c5 : ez_gr ev_s0 11 0 5 = some 39 := by decide +kernel
theorem ev_c6 : ez_gr ev_s0 11 0 6 = some 41 := by decide +kernel
theorem ev_c7 : ez_gr ev_s0 11 0 7 = some 43 := by decide +kernel
theorem ev_c8 : ez_gr ev_s0 11 0 8 = some 127 := by decide +kernel
theorem ev_c9 : ez_gi ev_s0 11 0 9 = some 0 := by decide +kernel
theorem ev_c10 : ez_gr ev_s0 11 0 10 = some 134 := by decide +kernel
theorem ev_c11 : ez_gr ev_s0 11 0 11 = some 146 := by decide +kernel
theorem ev_c12 : ez_gr ev_s0 11 0 12 = some 158 := by decide +kernel
theorem ev_c13 : ez_gr ev_s0 11 0 13 = some 162 := by decide +kernel
theorem ev_c14 : ez_gr ev_s0 11 0 14 = some 164 := by decide +kernel
theorem ev_c15 : ez_gr ev_s0 11 0 15 = some 169 := by decide +kernel
theorem ev_c16 : ez_gr ev_s0 4 2 0 = some 3 := by decide +kernel
theorem ev_c17 : ez_gi ev_s0 4 2 1 = some 0 := by decide +kernel
theorem ev_c18 : ez_gi ev_s0 4 2 2 = some (-1) := by decide +kernel
theorem ev_c19 : ez_gr ev_s0 4 2 3 = some 17 := by decide +kernel
theorem ev_c20 : ez_gr ev_s0 4 2 4 = some 19 := by decide +kernel
theorem ev_c21 : ez_gi ev_s0 4 2 5 = some 0 := by decide +kernel
theorem ev_c22 : ez_gr ev_s0 3 3 0 = some 4 := by decide +kernel
theorem ev_c23 : ez_gr ev_s0 3 3 1 = some 6 := by decide +kernel
theorem ev_c24 : ez_gr ev_s0 3 3 2 = some 10 := by decide +kernel
theorem ev_c25 : ez_gi ev_s0 3 3 3 = some 0 := by decide +kernel
theorem ev_c26 : ez_gi ev_s0 3 3 4 = some 0 := by decide +kernel
theorem ev_c27 : ez_gi ev_s0 3 3 5 = some 0 := by decide +kernel
theorem ev_c28 : ez_gi ev_s0 3 3 6 = some 0 := by decide +kernel
theorem ev_c29 : ez_gi ev_s0 3 3 7 = some 0 := by decide +kernel
theorem ev_c30 : ez_gr ev_s0 3 3 8 = some 12 := by decide +kernel
theorem ev_c31 : ez_gr ev_s0 3 3 9 = some 13 := by decide +kernel
theorem ev_c32 : ez_gr ev_s0 3 3 10 = some 14 := by decide +kernel
theorem ev_c33 : ez_gr ev_s0 3 3 11 = some 15 := by decide +kernel
theorem ev_c34 : ez_gr ev_s0 3 3 12 = some 16 := by decide +kernel
theorem ev_c35 : ez_gi ev_s0 6 4 0 = some 5 := by decide +kernel
theorem ev_c36 : ez_gi ev_s0 6 4 1 = some 6 := by decide +kernel
theorem ev_c37 : ez_gi ev_s0 6 4 2 = some 5 := by decide +kernel
theorem ev_c38 : ez_gr ev_s0 6 4 3 = some 5 := by decide +kernel
theorem ev_c39 : ez_gi ev_s0 0 6 0 = some 0 := by decide +kernel
theorem ev_c40 : ez_gi ev_s0 0 6 1 = some 0 := by decide +kernel
theorem ev_c41 : ez_gr ev_s0 0 6 2 = some 7 := by decide +kernel
theorem ev_c42 : ez_gr ev_s0 0 6 3 = some 8 := by decide +kernel
theorem ev_c43 : ez_gr ev_s0 0 6 4 = some 9 := by decide +kernel
theorem ev_c44 : ez_gr ev_s0 7 10 0 = some 11 := by decide +kernel
theorem ev_c45 : ez_gr ev_s0 9 17 0 = some 1 := by decide +kernel
theorem ev_c46 : ez_gr ev_s0 9 17 1 = some 18 := by decide +kernel
theorem ev_c47 : ez_gi ev_s0 9 17 2 = some 0 := by decide +kernel
theorem ev_c48 : ez_gi ev_s0 9 17 3 = some 0 := by decide +kernel
theorem ev_c49 : ez_gi ev_s0 9 17 4 = some 0 := by decide +kernel
theorem ev_c50 : ez_gi ev_s0 9 17 5 = some 0 := by decide +kernel
theorem ev_c51 : ez_gi ev_s0 9 17 6 = some 0 := by decide +kernel
theorem ev_c52 : ez_gl ev_s0 9 17 7 = some 0 := by decide +kernel
theorem ev_c53 : ez_gr ev_s0 3 25 0 = some 26 := by decide +kernel
theorem ev_c54 : ez_gr ev_s0 3 25 1 = some 28 := by decide +kernel
theorem ev_c55 : ez_gr ev_s0 3 25 2 = some 32 := by decide +kernel
theorem ev_c56 : ez_gi ev_s0 3 25 3 = some 0 := by decide +kernel
theorem ev_c57 : ez_gi ev_s0 3 25 4 = some 0 := by decide +kernel
theorem ev_c58 : ez_gi ev_s0 3 25 5 = some 0 := by decide +kernel
theorem ev_c59 : ez_gi ev_s0 3 25 6 = some 0 := by decide +kernel
theorem ev_c60 : ez_gi ev_s0 3 25 7 = some 0 := by decide +kernel
theorem ev_c61 : ez_gr ev_s0 3 25 8 = some 34 := by decide +kernel
theorem ev_c62 : ez_gr ev_s0 3 25 9 = some 35 := by decide +kernel
theorem ev_c63 : ez_gr ev_s0 3 25 10 = some 36 := by decide +kernel
theorem ev_c64 : ez_gr ev_s0 3 25 11 = some 37 := by decide +kernel
theorem ev_c65 : ez_gr ev_s0 3 25 12 = some 38 := by decide +kernel
theorem ev_c66 : ez_gi ev_s0 6 26 0 = some 5 := by decide +kernel
theorem ev_c67 : ez_gi ev_s0 6 26 1 = some 6 := by decide +kernel
theorem ev_c68 : ez_gi ev_s0 6 26 2 = some 5 := by decide +kernel
theorem ev_c69 : ez_gr ev_s0 6 26 3 = some 27 := by decide +kernel
theorem ev_c70 : ez_gi ev_s0 0 28 0 = some 0 := by decide +kernel
theorem ev_c71 : ez_gi ev_s0 0 28 1 = some 0 := by decide +kernel
theorem ev_c72 : ez_gr ev_s0 0 28 2 = some 29 := by decide +kernel
theorem ev_c73 : ez_gr ev_s0 0 28 3 = some 30 := by decide +kernel
theorem ev_c74 : ez_gr ev_s0 0 28 4 = some 31 := by decide +kernel
theorem ev_c75 : ez_gr ev_s0 7 32 0 = some 33 := by decide +kernel
theorem ev_c76 : ez_gr ev_s0 7 39 0 = some 40 := by decide +kernel
theorem ev_c77 : ez_gr ev_s0 7 41 0 = some 42 := by decide +kernel
theorem ev_c78 : ez_gr ev_s0 1 43 0 = some 44 := by decide +kernel
theorem ev_c79 : ez_gi ev_s0 1 43 1 = some 0 := by decide +kernel
theorem ev_c80 : ez_gi ev_s0 1 43 2 = some 0 := by decide +kernel
theorem ev_c81 : ez_gi ev_s0 1 43 3 = some 0 := by decide +kernel
theorem ev_c82 : ez_gr ev_s0 8 134 0 = some 25 := by decide +kernel
theorem ev_c83 : ez_gr ev_s0 8 134 1 = some 26 := by decide +kernel
theorem ev_c84 : ez_gr ev_s0 8 134 2 = some 135 := by decide +kernel
theorem ev_c85 : ez_gr ev_s0 8 134 3 = some 136 := by decide +kernel
theorem ev_c86 : ez_gr ev_s0 8 134 4 = some 137 := by decide +kernel
theorem ev_c87 : ez_gr ev_s0 8 134 5 = some 138 := by decide +kernel
theorem ev_c88 : ez_gr ev_s0 8 134 6 = some 139 := by decide +kernel
theorem ev_c89 : ez_gr ev_s0 8 134 7 = some 140 := by decide +kernel
theorem ev_c90 : ez_gr ev_s0 8 134 8 = some 141 := by decide +kernel
theorem ev_c91 : ez_gr ev_s0 8 134 9 = some 142 := by decide +kernel
theorem ev_c92 : ez_gr ev_s0 8 134 10 = some 143 := by decide +kernel
theorem ev_c93 : ez_gr ev_s0 8 134 11 = some 144 := by decide +kernel
theorem ev_c94 : ez_gr ev_s0 8 134 12 = some 145 := by decide +kernel
theorem ev_c95 : ez_gr ev_s0 8 146 0 = some 25 := by decide +kernel
theorem ev_c96 : ez_gr ev_s0 8 146 1 = some 26 := by decide +kernel
theorem ev_c97 : ez_gr ev_s0 8 146 2 = some 147 := by decide +kernel
theorem ev_c98 : ez_gr ev_s0 8 146 3 = some 148 := by decide +kernel
theorem ev_c99 : ez_gr ev_s0 8 146 4 = some 149 := by decide +kernel
theorem ev_c100 : ez_gr ev_s0 8 146 5 = some 150 := by decide +kernel
theorem ev_c101 : ez_gr ev_s0 8 146 6 = some 151 := by decide +kernel
theorem ev_c102 : ez_gr ev_s0 8 146 7 = some 152 := by decide +kernel
theorem ev_c103 : ez_gr ev_s0 8 146 8 = some 153 := by decide +kernel
theorem ev_c104 : ez_gr ev_s0 8 146 9 = some 154 := by decide +kernel
theorem ev_c105 : ez_gr ev_s0 8 146 10 = some 155 := by decide +kernel
theorem ev_c106 : ez_gr ev_s0 8 146 11 = some 156 := by decide +kernel
theorem ev_c107 : ez_gr ev_s0 8 146 12 = some 157 := by decide +kernel
theorem ev_c108 : ez_gr ev_s0 2 158 0 = some 25 := by decide +kernel
theorem ev_c109 : ez_gr ev_s0 2 158 1 = some 39 := by decide +kernel
theorem ev_c110 : ez_gr ev_s0 2 158 2 = some 159 := by decide +kernel
theorem ev_c111 : ez_gr ev_s0 2 158 3 = some 160 := by decide +kernel
theorem ev_c112 : ez_gr ev_s0 2 158 4 = some 161 := by decide +kernel
theorem ev_c113 : ez_gi ev_s0 2 158 5 = some 0 := by decide +kernel
theorem ev_c114 : ez_gr ev_s0 5 162 0 = some 25 := by decide +kernel
theorem ev_c115 : ez_gr ev_s0 5 162 1 = some 39 := by decide +kernel
theorem ev_c116 : ez_gr ev_s0 5 162 2 = some 26 := by decide +kernel
theorem ev_c117 : ez_gr ev_s0 5 162 3 = some 163 := by decide +kernel
theorem ev_c118 : ez_gi ev_s0 5 162 4 = some 0 := by decide +kernel
theorem ev_c119 : ez_gr ev_s0 10 164 0 = some 165 := by decide +kernel
theorem ev_c120 : ez_gr ev_s0 10 164 1 = some 166 := by decide +kernel
theorem ev_c121 : ez_gr ev_s0 10 164 2 = some 167 := by decide +kernel
theorem ev_c122 : ez_gr ev_s0 10 164 3 = some 168 := by decide +kernel
theorem ev_c123 : ez_gi ev_s0 10 164 4 = some 0 := by decide +kernel
theorem ev_c124 : ez_gi ev_s0 10 164 5 = some 0 := by decide +kernel
theorem ev_cd : ez_gr ev_s0 11 0 0 = some 1 ∧ ez_gi ev_s0 11 0 1 = some 0 ∧ ez_gr ev_s0 11 0 2 = some 2 ∧ ez_gr ev_s0 11 0 3 = some 25 ∧ ez_gr ev_s0 11 0 4 = some 26 ∧ ez_gr ev_s0 11 0 5 = some 39 ∧ ez_gr ev_s0 11 0 6 = some 41 ∧ ez_gr ev_s0 11 0 7 = some 43 ∧ ez_gr ev_s0 11 0 8 = some 127 ∧ ez_gi ev_s0 11 0 9 = some 0 ∧ ez_gr ev_s0 11 0 10 = some 134 ∧ ez_gr ev_s0 11 0 11 = some 146 ∧ ez_gr ev_s0 11 0 12 = some 158 ∧ ez_gr ev_s0 11 0 13 = some 162 ∧ ez_gr ev_s0 11 0 14 = some 164 ∧ ez_gr ev_s0 11 0 15 = some 169 ∧ ez_gr ev_s0 4 2 0 = some 3 ∧ ez_gi ev_s0 4 2 1 = some 0 ∧ ez_gi ev_s0 4 2 2 = some (-1) ∧ ez_gr ev_s0 4 2 3 = some 17 ∧ ez_gr ev_s0 4 2 4 = some 19 ∧ ez_gi ev_s0 4 2 5 = some 0 ∧ ez_gr ev_s0 3 3 0 = some 4 ∧ ez_gr ev_s0 3 3 1 = some 6 ∧ ez_gr ev_s0 3 3 2 = some 10 ∧ ez_gi ev_s0 3 3 3 = some 0 ∧ ez_gi ev_s0 3 3 4 = some 0 ∧ ez_gi ev_s0 3 3 5 = some 0 ∧ ez_gi ev_s0 3 3 6 = some 0 ∧ ez_gi ev_s0 3 3 7 = some 0 ∧ ez_gr ev_s0 3 3 8 = some 12 ∧ ez_gr ev_s0 3 3 9 = some 13 ∧ ez_gr ev_s0 3 3 10 = some 14 ∧ ez_gr ev_s0 3 3 11 = some 15 ∧ ez_gr ev_s0 3 3 12 = some 16 ∧ ez_gi ev_s0 6 4 0 = some 5 ∧ ez_gi ev_s0 6 4 1 = some 6 ∧ ez_gi ev_s0 6 4 2 = some 5 ∧ ez_gr ev_s0 6 4 3 = some 5 ∧ ez_gi ev_s0 0 6 0 = some 0 ∧ ez_gi ev_s0 0 6 1 = some 0 ∧ ez_gr ev_s0 0 6 2 = some 7 ∧ ez_gr ev_s0 0 6 3 = some 8 ∧ ez_gr ev_s0 0 6 4 = some 9 ∧ ez_gr ev_s0 7 10 0 = some 11 ∧ ez_gr ev_s0 9 17 0 = some 1 ∧ ez_gr ev_s0 9 17 1 = some 18 ∧ ez_gi ev_s0 9 17 2 = some 0 ∧ ez_gi ev_s0 9 17 3 = some 0 ∧ ez_gi ev_s0 9 17 4 = some 0 ∧ ez_gi ev_s0 9 17 5 = some 0 ∧ ez_gi ev_s0 9 17 6 = some 0 ∧ ez_gl ev_s0 9 17 7 = some 0 ∧ ez_gr ev_s0 3 25 0 = some 26 ∧ ez_gr ev_s0 3 25 1 = some 28 ∧ ez_gr ev_s0 3 25 2 = some 32 ∧ ez_gi ev_s0 3 25 3 = some 0 ∧ ez_gi ev_s0 3 25 4 = some 0 ∧ ez_gi ev_s0 3 25 5 = some 0 ∧ ez_gi ev_s0 3 25 6 = some 0 ∧ ez_gi ev_s0 3 25 7 = some 0 ∧ ez_gr ev_s0 3 25 8 = some 34 ∧ ez_gr ev_s0 3 25 9 = some 35 ∧ ez_gr ev_s0 3 25 10 = some 36 ∧ ez_gr ev_s0 3 25 11 = some 37 ∧ ez_gr ev_s0 3 25 12 = some 38 ∧ ez_gi ev_s0 6 26 0 = some 5 ∧ ez_gi ev_s0 6 26 1 = some 6 ∧ ez_gi ev_s0 6 26 2 = some 5 ∧ ez_gr ev_s0 6 26 3 = some 27 ∧ ez_gi ev_s0 0 28 0 = some 0 ∧ ez_gi ev_s0 0 28 1 = some 0 ∧ ez_gr ev_s0 0 28 2 = some 29 ∧ ez_gr ev_s0 0 28 3 = some 30 ∧ ez_gr ev_s0 0 28 4 = some 31 ∧ ez_gr ev_s0 7 32 0 = some 33 ∧ ez_gr ev_s0 7 39 0 = some 40 ∧ ez_gr ev_s0 7 41 0 = some 42 ∧ ez_gr ev_s0 1 43 0 = some 44 ∧ ez_gi ev_s0 1 43 1 = some 0 ∧ ez_gi ev_s0 1 43 2 = some 0 ∧ ez_gi ev_s0 1 43 3 = some 0 ∧ ez_gr ev_s0 8 134 0 = some 25 ∧ ez_gr ev_s0 8 134 1 = some 26 ∧ ez_gr ev_s0 8 134 2 = some 135 ∧ ez_gr ev_s0 8 134 3 = some 136 ∧ ez_gr ev_s0 8 134 4 = some 137 ∧ ez_gr ev_s0 8 134 5 = some 138 ∧ ez_gr ev_s0 8 134 6 = some 139 ∧ ez_gr ev_s0 8 134 7 = some 140 ∧ ez_gr ev_s0 8 134 8 = some 141 ∧ ez_gr ev_s0 8 134 9 = some 142 ∧ ez_gr ev_s0 8 134 10 = some 143 ∧ ez_gr ev_s0 8 134 11 = some 144 ∧ ez_gr ev_s0 8 134 12 = some 145 ∧ ez_gr ev_s0 8 146 0 = some 25 ∧ ez_gr ev_s0 8 146 1 = some 26 ∧ ez_gr ev_s0 8 146 2 = some 147 ∧ ez_gr ev_s0 8 146 3 = some 148 ∧ ez_gr ev_s0 8 146 4 = some 149 ∧ ez_gr ev_s0 8 146 5 = some 150 ∧ ez_gr ev_s0 8 146 6 = some 151 ∧ ez_gr ev_s0 8 146 7 = some 152 ∧ ez_gr ev_s0 8 146 8 = some 153 ∧ ez_gr ev_s0 8 146 9 = some 154 ∧ ez_gr ev_s0 8 146 10 = some 155 ∧ ez_gr ev_s0 8 146 11 = some 156 ∧ ez_gr ev_s0 8 146 12 = some 157 ∧ ez_gr ev_s0 2 158 0 = some 25 ∧ ez_gr ev_s0 2 158 1 = some 39 ∧ ez_gr ev_s0 2 158 2 = some 159 ∧ ez_gr ev_s0 2 158 3 = some 160 ∧ ez_gr ev_s0 2 158 4 = some 161 ∧ ez_gi ev_s0 2 158 5 = some 0 ∧ ez_gr ev_s0 5 162 0 = some 25 ∧ ez_gr ev_s0 5 162 1 = some 39 ∧ ez_gr ev_s0 5 162 2 = some 26 ∧ ez_gr ev_s0 5 162 3 = some 163 ∧ ez_gi ev_s0 5 162 4 = some 0 ∧ ez_gr ev_s0 10 164 0 = some 165 ∧ ez_gr ev_s0 10 164 1 = some 166 ∧ ez_gr ev_s0 10 164 2 = some 167 ∧ ez_gr ev_s0 10 164 3 = some 168 ∧ ez_gi ev_s0 10 164 4 = some 0 ∧ ez_gi ev_s0 10 164 5 = some 0 := ⟨ev_c0, ev_c1, ev_c2, ev_c3, ev_c4, ev_c5, ev_c6, ev_c7, ev_c8, ev_c9, ev_c10, ev_c11, ev_c12, ev_c13, ev_c14, ev_c15, ev_c16, ev_c17, ev_c18, ev_c19, ev_c20, ev_c21, ev_c22, ev_c23, ev_c24, ev_c25, ev_c26, ev_c27, ev_c28, ev_c29, ev_c30, ev_c31, ev_c32, ev_c33, ev_c34, ev_c35, ev_c36, ev_c37, ev_c38, ev_c39, ev_c40, ev_c41, ev_c42, ev_c43, ev_c44, ev_c45, ev_c46, ev_c47, ev_c48, ev_c49, ev_c50, ev_c51, ev_c52, ev_c53, ev_c54, ev_c55, ev_c56, ev_c57, ev_c58, ev_c59, ev_c60, ev_c61, ev_c62, ev_c63, ev_c64, ev_c65, ev_c66, ev_c67, ev_c68, ev_c69, ev_c70, ev_c71, ev_c72, ev_c73, ev_c74, ev_c75, ev_c76, ev_c77, ev_c78, ev_c79, ev_c80, ev_c81, ev_c82, ev_c83, ev_c84, ev_c85, ev_c86, ev_c87, ev_c88, ev_c89, ev_c90, ev_c91, ev_c92, ev_c93, ev_c94, ev_c95, ev_c96, ev_c97, ev_c98, ev_c99, ev_c100, ev_c101, ev_c102, ev_c103, ev_c104, ev_c105, ev_c106, ev_c107, ev_c108, ev_c109, ev_c110, ev_c111, ev_c112, ev_c113, ev_c114, ev_c115, ev_c116, ev_c117, ev_c118, ev_c119, ev_c120, ev_c121, ev_c122, ev_c123, ev_c124⟩
theorem ev_o0 : ∃ fs, ez_ob ev_s0 11 0 = some fs := ⟨_, rfl⟩
theorem ev_o2 : ∃ fs, ez_ob ev_s0 4 2 = some fs := ⟨_, rfl⟩
theorem ev_o3 : ∃ fs, ez_ob ev_s0 3 3 = some fs := ⟨_, rfl⟩
theorem ev_o4 : ∃ fs, ez_ob ev_s0 6 4 = some fs := ⟨_, rfl⟩
theorem ev_o6 : ∃ fs, ez_ob ev_s0 0 6 = some fs := ⟨_, rfl⟩
theorem ev_o10 : ∃ fs, ez_ob ev_s0 7 10 = some fs := ⟨_, rfl⟩
theorem ev_o17 : ∃ fs, ez_ob ev_s0 9 17 = some fs := ⟨_, rfl⟩
theorem ev_o25 : ∃ fs, ez_ob ev_s0 3 25 = some fs := ⟨_, rfl⟩
theorem ev_o26 : ∃ fs, ez_ob ev_s0 6 26 = some fs := ⟨_, rfl⟩
theorem ev_o28 : ∃ fs, ez_ob ev_s0 0 28 = some fs := ⟨_, rfl⟩
theorem ev_o32 : ∃ fs, ez_ob ev_s0 7 32 = some fs := ⟨_, rfl⟩
theorem ev_o39 : ∃ fs, ez_ob ev_s0 7 39 = some fs := ⟨_, rfl⟩
theorem ev_o41 : ∃ fs, ez_ob ev_s0 7 41 = some fs := ⟨_, rfl⟩
theorem ev_o43 : ∃ fs, ez_ob ev_s0 1 43 = some fs := ⟨_, rfl⟩
theorem ev_o134 : ∃ fs, ez_ob ev_s0 8 134 = some fs := ⟨_, rfl⟩
theorem ev_o146 : ∃ fs, ez_ob ev_s0 8 146 = some fs := ⟨_, rfl⟩
theorem ev_o158 : ∃ fs, ez_ob ev_s0 2 158 = some fs := ⟨_, rfl⟩
theorem ev_o162 : ∃ fs, ez_ob ev_s0 5 162 = some fs := ⟨_, rfl⟩
theorem ev_o164 : ∃ fs, ez_ob ev_s0 10 164 = some fs := ⟨_, rfl⟩
theorem ez_bd_some {α β : Type} (x : α) (g : α → Option β) : ez_bd (some x) g = g x := rfl
theorem ez_b2_some {α γ β : Type} (x : α) (y : γ) (g : α → γ → Option β) : ez_b2 (some (x, y)) g = g x y := rfl
theorem ez_let_eq {α β : Type} (x : α) (g : α → Option β) : ez_let x g = g x := rfl
theorem ez_nr0 {β : Type} (g : Option β) : ez_nr .boolean 0 g = g := by unfold ez_nr; exact if_pos (by decide)
theorem ez_nr1 {β : Type} (g : Option β) : ez_nr .boolean 1 g = g := by unfold ez_nr; exact if_pos (by decide)
theorem ez_nzn {β : Type} {y : Int32} (h : ¬ y = 0) (g : Option β) : ez_nz y g = g := if_neg h
theorem ez_bdo {β : Type} {σ : ez_H} {ci a : Nat} (h : ∃ fs, ez_ob σ ci a = some fs) (g : Option β) : ez_bd (ez_ob σ ci a) (fun _ => g) = g := by obtain ⟨fs, h⟩ := h; rw [h]; rfl
