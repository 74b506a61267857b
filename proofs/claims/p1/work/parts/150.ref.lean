theorem ev_rng {β : Type} (k : Int32) (A C : β) : (if k < 0 then A else if (0 : Int32) ≤ k then A else C) = A := by
  by_cases h : k < 0
  · rw [if_pos h]
  · rw [if_neg h, if_pos (Int32.not_lt.mp h)]
theorem ev_rng2 {β : Type} (k : Int32) (A C : β) : (if k < 0 then A else if (-1 : Int32) < k then A else C) = A := by
  by_cases h : k < 0
  · rw [if_pos h]
  · rw [if_neg h, if_pos]
    have h1 := Int32.not_lt.mp h
    rw [Int32.le_iff_toInt_le] at h1
    rw [Int32.lt_iff_toInt_lt]
    have h2 : (0 : Int32).toInt = 0 := by decide
    have h3 : (-1 : Int32).toInt = -1 := by decide
    omega
theorem cl_hasKey (k : Int32) : z_X3_hasKey ev_s0 25 k = some 0 := by
  simp only [z_X3_hasKey, z_X3_hasKey_16, z_X3_hasKey_17, ez_bdo ev_o25, ev_cd, ez_bd_some, ez_nr0]
  exact ev_rng k _ _
theorem cl_hasLock (k : Int32) : z_X3_hasLock ev_s0 25 k = some 0 := by
  simp only [z_X3_hasLock, z_X3_hasLock_16, z_X3_hasLock_17, ez_bdo ev_o25, ev_cd, ez_bd_some, ez_nr0]
  exact ev_rng k _ _
theorem cl_hasRoom (k : Int32) : z_X3_hasRoom ev_s0 25 k = some 0 := by
  simp only [z_X3_hasRoom, z_X3_hasRoom_16, z_X3_hasRoom_17, ez_bdo ev_o25, ev_cd, ez_bd_some, ez_nr0]
  exact ev_rng k _ _
theorem cl_hasDoor (k : Int32) : z_X3_hasDoor ev_s0 25 k = some 0 := by
  simp only [z_X3_hasDoor, z_X3_hasDoor_16, z_X3_hasDoor_17, ez_bdo ev_o25, ev_cd, ez_bd_some, ez_nr0]
  exact ev_rng k _ _
theorem cl_hasPerson (k : Int32) : z_X3_hasPerson ev_s0 25 k = some 0 := by
  simp only [z_X3_hasPerson, z_X3_hasPerson_16, z_X3_hasPerson_17, ez_bdo ev_o25, ev_cd, ez_bd_some, ez_nr0]
  exact ev_rng k _ _
theorem md_wide {σ : ez_H} (h : ev_MF σ) : z_X12_wide σ 170 = some 5 := by simp only [z_X12_wide, ez_bdo (ev_m0 h), ev_md h, ez_bd_some]
theorem md_deep {σ : ez_H} (h : ev_MF σ) : z_X12_deep σ 170 = some 6 := by simp only [z_X12_deep, ez_bdo (ev_m0 h), ev_md h, ez_bd_some]
theorem md_many {σ : ez_H} (h : ev_MF σ) : z_X12_many σ 170 = some 0 := by simp only [z_X12_many, ez_bdo (ev_m0 h), ev_md h, ez_bd_some]
theorem md_bolts {σ : ez_H} (h : ev_MF σ) : z_X12_bolts σ 170 = some 0 := by simp only [z_X12_bolts, ez_bdo (ev_m0 h), ev_md h, ez_bd_some]
theorem md_isIn {σ : ez_H} (k : Int32) : z_X12_isIn σ k 0 (0 - 1) = some 0 := by
  simp only [z_X12_isIn, z_X12_isIn_14, z_X12_isIn_15, ez_nr0]
  exact ev_rng2 k _ _
theorem md_isKey {σ : ez_H} (h : ev_MF σ) (k : Int32) : z_X12_isKey σ 170 k = some 0 := by
  unfold z_X12_isKey
  simp only [ez_bdo (ev_m0 h), ev_md h, md_many h, md_bolts h, ez_bd_some, ez_let_eq]
  rw [md_isIn]
  simp only [ez_bd_some, ez_nr0]
theorem md_isLock {σ : ez_H} (h : ev_MF σ) (k : Int32) : z_X12_isLock σ 170 k = some 0 := by
  unfold z_X12_isLock
  simp only [ez_bdo (ev_m0 h), ev_md h, md_many h, md_bolts h, ez_bd_some, ez_let_eq]
  rw [md_isIn]
  simp only [ez_bd_some, ez_nr0]
theorem md_isRoom {σ : ez_H} (h : ev_MF σ) (k : Int32) : z_X12_isRoom σ 170 k = some 0 := by
  unfold z_X12_isRoom
  simp only [ez_bdo (ev_m0 h), ev_md h, md_many h, md_bolts h, ez_bd_some, ez_let_eq]
  rw [md_isIn]
  simp only [ez_bd_some, ez_nr0]
theorem md_isDoor {σ : ez_H} (h : ev_MF σ) (k : Int32) : z_X12_isDoor σ 170 k = some 0 := by
  unfold z_X12_isDoor
  simp only [ez_bdo (ev_m0 h), ev_md h, md_many h, md_bolts h, ez_bd_some, ez_let_eq]
  rw [md_isIn]
  simp only [ez_bd_some, ez_nr0]
theorem md_isPerson {σ : ez_H} (h : ev_MF σ) (k : Int32) : z_X12_isPerson σ 170 k = some 0 := by
  unfold z_X12_isPerson
  simp only [ez_bdo (ev_m0 h), ev_md h, md_many h, md_bolts h, ez_bd_some, ez_let_eq]
  rw [md_isIn]
  simp only [ez_bd_some, ez_nr0]
theorem cf_key (a0 a1 : Int32) : z_X11_key ev_s0 0 a0 a1 = some (-3) := by
  simp only [z_X11_key, ez_bdo ev_o0, ez_bdo ev_o2, ez_bdo ev_o25, ez_bdo ev_o26, ez_bdo ev_o39, ez_bdo ev_o43, ez_bdo ev_o158, ez_bdo ev_o162, ez_bdo ev_o164, ev_cd, cl_hasKey, cl_hasLock, cl_hasRoom, cl_hasDoor, cl_hasPerson, ez_bd_some, ez_b2_some, ez_let_eq, ez_nr0, ez_nr1, if_true, if_false]
theorem mf_key (a0 a1 : Int32) : z_X12_key ev_s0 170 a0 a1 = some (-3) := by
  simp only [z_X12_key, ez_bdo (ev_m0 ev_MF0), ev_md ev_MF0, md_isKey ev_MF0, md_isLock ev_MF0, md_isRoom ev_MF0, md_isDoor ev_MF0, md_isPerson ev_MF0, ez_bd_some, ez_b2_some, ez_let_eq, ez_nr0, ez_nr1, if_true, if_false]
theorem cf_cut (a0 a1 : Int32) : z_X11_cut ev_s0 0 a0 a1 = some (-1) := by
  simp only [z_X11_cut, z_X11_cut_22, ez_bdo ev_o0, ez_bdo ev_o2, ez_bdo ev_o25, ez_bdo ev_o26, ez_bdo ev_o39, ez_bdo ev_o43, ez_bdo ev_o158, ez_bdo ev_o162, ez_bdo ev_o164, ev_cd, cl_hasKey, cl_hasLock, cl_hasRoom, cl_hasDoor, cl_hasPerson, ez_bd_some, ez_b2_some, ez_let_eq, ez_nr0, ez_nr1, if_true, if_false]
theorem mf_cut (a0 a1 : Int32) : z_X12_cut ev_s0 170 a0 a1 = some (-1) := by
  simp only [z_X12_cut, z_X12_cut_25, z_X12_cut_26, ez_bdo (ev_m0 ev_MF0), ev_md ev_MF0, md_isKey ev_MF0, md_isLock ev_MF0, md_isRoom ev_MF0, md_isDoor ev_MF0, md_isPerson ev_MF0, ez_bd_some, ez_b2_some, ez_let_eq, ez_nr0, ez_nr1, if_true, if_false]
theorem cf_lock (a0 a1 : Int32) : z_X11_lock ev_s0 0 a0 a1 = some (-1) := by
  simp only [z_X11_lock, ez_bdo ev_o0, ez_bdo ev_o2, ez_bdo ev_o25, ez_bdo ev_o26, ez_bdo ev_o39, ez_bdo ev_o43, ez_bdo ev_o158, ez_bdo ev_o162, ez_bdo ev_o164, ev_cd, cl_hasKey, cl_hasLock, cl_hasRoom, cl_hasDoor, cl_hasPerson, ez_bd_some, ez_b2_some, ez_let_eq, ez_nr0, ez_nr1, if_true, if_false]
theorem mf_lock (a0 a1 : Int32) : z_X12_lock ev_s0 170 a0 a1 = some (-1) := by
  simp only [z_X12_lock, ez_bdo (ev_m0 ev_MF0), ev_md ev_MF0, md_isKey ev_MF0, md_isLock ev_MF0, md_isRoom ev_MF0, md_isDoor ev_MF0, md_isPerson ev_MF0, ez_bd_some, ez_b2_some, ez_let_eq, ez_nr0, ez_nr1, if_true, if_false]
theorem cf_parts (a0 a1 : Int32) : z_X11_parts ev_s0 0 a0 a1 = some (-1) := by
  simp only [z_X11_parts, z_X11_parts_22, ez_bdo ev_o0, ez_bdo ev_o2, ez_bdo ev_o25, ez_bdo ev_o26, ez_bdo ev_o39, ez_bdo ev_o43, ez_bdo ev_o158, ez_bdo ev_o162, ez_bdo ev_o164, ev_cd, cl_hasKey, cl_hasLock, cl_hasRoom, cl_hasDoor, cl_hasPerson, ez_bd_some, ez_b2_some, ez_let_eq, ez_nr0, ez_nr1, if_true, if_false]
theorem mf_parts (a0 a1 : Int32) : z_X12_parts ev_s0 170 a0 a1 = some (-1) := by
  simp only [z_X12_parts, z_X12_parts_25, z_X12_parts_26, ez_bdo (ev_m0 ev_MF0), ev_md ev_MF0, md_isKey ev_MF0, md_isLock ev_MF0, md_isRoom ev_MF0, md_isDoor ev_MF0, md_isPerson ev_MF0, ez_bd_some, ez_b2_some, ez_let_eq, ez_nr0, ez_nr1, if_true, if_false]
theorem cf_door (a0 a1 : Int32) : z_X11_door ev_s0 0 a0 a1 = some (-1) := by
  simp only [z_X11_door, ez_bdo ev_o0, ez_bdo ev_o2, ez_bdo ev_o25, ez_bdo ev_o26, ez_bdo ev_o39, ez_bdo ev_o43, ez_bdo ev_o158, ez_bdo ev_o162, ez_bdo ev_o164, ev_cd, cl_hasKey, cl_hasLock, cl_hasRoom, cl_hasDoor, cl_hasPerson, ez_bd_some, ez_b2_some, ez_let_eq, ez_nr0, ez_nr1, if_true, if_false]
theorem mf_door (a0 a1 : Int32) : z_X12_door ev_s0 170 a0 a1 = some (-1) := by
  simp only [z_X12_door, z_X12_door_62, ez_bdo (ev_m0 ev_MF0), ev_md ev_MF0, md_isKey ev_MF0, md_isLock ev_MF0, md_isRoom ev_MF0, md_isDoor ev_MF0, md_isPerson ev_MF0, ez_bd_some, ez_b2_some, ez_let_eq, ez_nr0, ez_nr1, if_true, if_false]
theorem cf_person (a0 a1 : Int32) : z_X11_person ev_s0 0 a0 a1 = some (-1) := by
  simp only [z_X11_person, ez_bdo ev_o0, ez_bdo ev_o2, ez_bdo ev_o25, ez_bdo ev_o26, ez_bdo ev_o39, ez_bdo ev_o43, ez_bdo ev_o158, ez_bdo ev_o162, ez_bdo ev_o164, ev_cd, cl_hasKey, cl_hasLock, cl_hasRoom, cl_hasDoor, cl_hasPerson, ez_bd_some, ez_b2_some, ez_let_eq, ez_nr0, ez_nr1, if_true, if_false]
theorem mf_person (a0 a1 : Int32) : z_X12_person ev_s0 170 a0 a1 = some (-1) := by
  simp only [z_X12_person, ez_bdo (ev_m0 ev_MF0), ev_md ev_MF0, md_isKey ev_MF0, md_isLock ev_MF0, md_isRoom ev_MF0, md_isDoor ev_MF0, md_isPerson ev_MF0, ez_bd_some, ez_b2_some, ez_let_eq, ez_nr0, ez_nr1, if_true, if_false]
theorem cf_walk (a0 a1 : Int32) : z_X11_walk ev_s0 0 a0 a1 = some ((-1), ev_s0) := by
  simp only [z_X11_walk, z_X11_walk_84, z_X11_walk_22, ez_bdo ev_o0, ez_bdo ev_o2, ez_bdo ev_o25, ez_bdo ev_o26, ez_bdo ev_o39, ez_bdo ev_o43, ez_bdo ev_o158, ez_bdo ev_o162, ez_bdo ev_o164, ev_cd, cl_hasKey, cl_hasLock, cl_hasRoom, cl_hasDoor, cl_hasPerson, ez_bd_some, ez_b2_some, ez_let_eq, ez_nr0, ez_nr1, if_true, if_false]
theorem mf_walk (a0 a1 : Int32) : z_X12_walk ev_s0 170 a0 a1 = some ((-1), ev_s0) := by
  simp only [z_X12_walk, z_X12_walk_52, z_X12_walk_82, z_X12_walk_88, z_X12_walk_101, z_X12_walk_16, ez_bdo (ev_m0 ev_MF0), ev_md ev_MF0, md_isKey ev_MF0, md_isLock ev_MF0, md_isRoom ev_MF0, md_isDoor ev_MF0, md_isPerson ev_MF0, ez_bd_some, ez_b2_some, ez_let_eq, ez_nr0, ez_nr1, if_true, if_false]
theorem cf_give (a0 a1 : Int32) : z_X11_give ev_s0 0 a0 a1 = some ((-3), ev_s0) := by
  simp only [z_X11_give, z_X11_give_75, z_X11_give_45, z_X11_give_22, ez_bdo ev_o0, ez_bdo ev_o2, ez_bdo ev_o25, ez_bdo ev_o26, ez_bdo ev_o39, ez_bdo ev_o43, ez_bdo ev_o158, ez_bdo ev_o162, ez_bdo ev_o164, ev_cd, cl_hasKey, cl_hasLock, cl_hasRoom, cl_hasDoor, cl_hasPerson, ez_bd_some, ez_b2_some, ez_let_eq, ez_nr0, ez_nr1, if_true, if_false]
theorem mf_give (a0 a1 : Int32) : z_X12_give ev_s0 170 a0 a1 = some ((-3), ev_s0) := by
  simp only [z_X12_give, z_X12_give_74, z_X12_give_35, ez_bdo (ev_m0 ev_MF0), ev_md ev_MF0, md_isKey ev_MF0, md_isLock ev_MF0, md_isRoom ev_MF0, md_isDoor ev_MF0, md_isPerson ev_MF0, ez_bd_some, ez_b2_some, ez_let_eq, ez_nr0, ez_nr1, if_true, if_false]
theorem cf_hang (a0 : Int32) : z_X11_hang ev_s0 0 a0 = some ((-3), ev_s0) := by
  simp only [z_X11_hang, z_X11_hang_22, ez_bdo ev_o0, ez_bdo ev_o2, ez_bdo ev_o25, ez_bdo ev_o26, ez_bdo ev_o39, ez_bdo ev_o43, ez_bdo ev_o158, ez_bdo ev_o162, ez_bdo ev_o164, ev_cd, cl_hasKey, cl_hasLock, cl_hasRoom, cl_hasDoor, cl_hasPerson, ez_bd_some, ez_b2_some, ez_let_eq, ez_nr0, ez_nr1, if_true, if_false]
theorem mf_hang (a0 : Int32) : z_X12_hang ev_s0 170 a0 = some ((-3), ev_s0) := by
  simp only [z_X12_hang, z_X12_hang_25, z_X12_hang_27, ez_bdo (ev_m0 ev_MF0), ev_md ev_MF0, md_isKey ev_MF0, md_isLock ev_MF0, md_isRoom ev_MF0, md_isDoor ev_MF0, md_isPerson ev_MF0, ez_bd_some, ez_b2_some, ez_let_eq, ez_nr0, ez_nr1, if_true, if_false]
theorem cf_lose (a0 : Int32) : z_X11_lose ev_s0 0 a0 = some ((-3), ev_s0) := by
  simp only [z_X11_lose, z_X11_lose_24, ez_bdo ev_o0, ez_bdo ev_o2, ez_bdo ev_o25, ez_bdo ev_o26, ez_bdo ev_o39, ez_bdo ev_o43, ez_bdo ev_o158, ez_bdo ev_o162, ez_bdo ev_o164, ev_cd, cl_hasKey, cl_hasLock, cl_hasRoom, cl_hasDoor, cl_hasPerson, ez_bd_some, ez_b2_some, ez_let_eq, ez_nr0, ez_nr1, if_true, if_false]
theorem mf_lose (a0 : Int32) : z_X12_lose ev_s0 170 a0 = some ((-3), ev_s0) := by
  simp only [z_X12_lose, z_X12_lose_28, z_X12_lose_30, ez_bdo (ev_m0 ev_MF0), ev_md ev_MF0, md_isKey ev_MF0, md_isLock ev_MF0, md_isRoom ev_MF0, md_isDoor ev_MF0, md_isPerson ev_MF0, ez_bd_some, ez_b2_some, ez_let_eq, ez_nr0, ez_nr1, if_true, if_false]
theorem cf_find (a0 a1 : Int32) : z_X11_find ev_s0 0 a0 a1 = some ((-1), ev_s0) := by
  simp only [z_X11_find, z_X11_find_35, ez_bdo ev_o0, ez_bdo ev_o2, ez_bdo ev_o25, ez_bdo ev_o26, ez_bdo ev_o39, ez_bdo ev_o43, ez_bdo ev_o158, ez_bdo ev_o162, ez_bdo ev_o164, ev_cd, cl_hasKey, cl_hasLock, cl_hasRoom, cl_hasDoor, cl_hasPerson, ez_bd_some, ez_b2_some, ez_let_eq, ez_nr0, ez_nr1, if_true, if_false]
theorem mf_find (a0 a1 : Int32) : z_X12_find ev_s0 170 a0 a1 = some ((-1), ev_s0) := by
  simp only [z_X12_find, z_X12_find_26, ez_bdo (ev_m0 ev_MF0), ev_md ev_MF0, md_isKey ev_MF0, md_isLock ev_MF0, md_isRoom ev_MF0, md_isDoor ev_MF0, md_isPerson ev_MF0, ez_bd_some, ez_b2_some, ez_let_eq, ez_nr0, ez_nr1, if_true, if_false]
theorem cf_file (a0 a1 : Int32) : z_X11_file ev_s0 0 a0 a1 = some ((-1), ev_s0) := by
  simp only [z_X11_file, z_X11_file_22, ez_bdo ev_o0, ez_bdo ev_o2, ez_bdo ev_o25, ez_bdo ev_o26, ez_bdo ev_o39, ez_bdo ev_o43, ez_bdo ev_o158, ez_bdo ev_o162, ez_bdo ev_o164, ev_cd, cl_hasKey, cl_hasLock, cl_hasRoom, cl_hasDoor, cl_hasPerson, ez_bd_some, ez_b2_some, ez_let_eq, ez_nr0, ez_nr1, if_true, if_false]
theorem mf_file (a0 a1 : Int32) : z_X12_file ev_s0 170 a0 a1 = some ((-1), ev_s0) := by
  simp only [z_X12_file, z_X12_file_25, ez_bdo (ev_m0 ev_MF0), ev_md ev_MF0, md_isKey ev_MF0, md_isLock ev_MF0, md_isRoom ev_MF0, md_isDoor ev_MF0, md_isPerson ev_MF0, ez_bd_some, ez_b2_some, ez_let_eq, ez_nr0, ez_nr1, if_true, if_false]
theorem cf_pin (a0 a1 : Int32) : z_X11_pin ev_s0 0 a0 a1 = some ((-1), ev_s0) := by
  simp only [z_X11_pin, z_X11_pin_26, ez_bdo ev_o0, ez_bdo ev_o2, ez_bdo ev_o25, ez_bdo ev_o26, ez_bdo ev_o39, ez_bdo ev_o43, ez_bdo ev_o158, ez_bdo ev_o162, ez_bdo ev_o164, ev_cd, cl_hasKey, cl_hasLock, cl_hasRoom, cl_hasDoor, cl_hasPerson, ez_bd_some, ez_b2_some, ez_let_eq, ez_nr0, ez_nr1, if_true, if_false]
theorem mf_pin (a0 a1 : Int32) : z_X12_pin ev_s0 170 a0 a1 = some ((-1), ev_s0) := by
  simp only [z_X12_pin, z_X12_pin_27, ez_bdo (ev_m0 ev_MF0), ev_md ev_MF0, md_isKey ev_MF0, md_isLock ev_MF0, md_isRoom ev_MF0, md_isDoor ev_MF0, md_isPerson ev_MF0, ez_bd_some, ez_b2_some, ez_let_eq, ez_nr0, ez_nr1, if_true, if_false]
theorem cf_part (a0 a1 a2 : Int32) : z_X11_part ev_s0 0 a0 a1 a2 = some ((-1), ev_s0) := by
  simp only [z_X11_part, z_X11_part_33, ez_bdo ev_o0, ez_bdo ev_o2, ez_bdo ev_o25, ez_bdo ev_o26, ez_bdo ev_o39, ez_bdo ev_o43, ez_bdo ev_o158, ez_bdo ev_o162, ez_bdo ev_o164, ev_cd, cl_hasKey, cl_hasLock, cl_hasRoom, cl_hasDoor, cl_hasPerson, ez_bd_some, ez_b2_some, ez_let_eq, ez_nr0, ez_nr1, if_true, if_false]
theorem mf_part (a0 a1 a2 : Int32) : z_X12_part ev_s0 170 a0 a1 a2 = some ((-1), ev_s0) := by
  simp only [z_X12_part, z_X12_part_42, ez_bdo (ev_m0 ev_MF0), ev_md ev_MF0, md_isKey ev_MF0, md_isLock ev_MF0, md_isRoom ev_MF0, md_isDoor ev_MF0, md_isPerson ev_MF0, ez_bd_some, ez_b2_some, ez_let_eq, ez_nr0, ez_nr1, if_true, if_false]
theorem cf_ghosts (a0 : Int32) : z_X11_ghosts ev_s0 0 a0 = some ((-1), ev_s0) := by
  simp only [z_X11_ghosts, ez_bdo ev_o0, ez_bdo ev_o2, ez_bdo ev_o25, ez_bdo ev_o26, ez_bdo ev_o39, ez_bdo ev_o43, ez_bdo ev_o158, ez_bdo ev_o162, ez_bdo ev_o164, ev_cd, cl_hasKey, cl_hasLock, cl_hasRoom, cl_hasDoor, cl_hasPerson, ez_bd_some, ez_b2_some, ez_let_eq, ez_nr0, ez_nr1, if_true, if_false]
theorem mf_ghosts (a0 : Int32) : z_X12_ghosts ev_s0 170 a0 = some (-1) := by
  simp only [z_X12_ghosts, z_X12_ghosts_17, ez_bdo (ev_m0 ev_MF0), ev_md ev_MF0, md_isKey ev_MF0, md_isLock ev_MF0, md_isRoom ev_MF0, md_isDoor ev_MF0, md_isPerson ev_MF0, ez_bd_some, ez_b2_some, ez_let_eq, ez_nr0, ez_nr1, if_true, if_false]
theorem cf_ghost (a0 a1 : Int32) : z_X11_ghost ev_s0 0 a0 a1 = some ((-1), ev_s0) := by
  simp only [z_X11_ghost, z_X11_ghost_36, z_X11_ghost_112, z_X11_ghost_22, ez_bdo ev_o0, ez_bdo ev_o2, ez_bdo ev_o25, ez_bdo ev_o26, ez_bdo ev_o39, ez_bdo ev_o43, ez_bdo ev_o158, ez_bdo ev_o162, ez_bdo ev_o164, ev_cd, cl_hasKey, cl_hasLock, cl_hasRoom, cl_hasDoor, cl_hasPerson, ez_bd_some, ez_b2_some, ez_let_eq, ez_nr0, ez_nr1, if_true, if_false]
theorem mf_ghost (a0 a1 : Int32) : z_X12_ghost ev_s0 170 a0 a1 = some (-1) := by
  simp only [z_X12_ghost, z_X12_ghost_19, z_X12_ghost_51, z_X12_ghost_12, ez_bdo (ev_m0 ev_MF0), ev_md ev_MF0, md_isKey ev_MF0, md_isLock ev_MF0, md_isRoom ev_MF0, md_isDoor ev_MF0, md_isPerson ev_MF0, ez_bd_some, ez_b2_some, ez_let_eq, ez_nr0, ez_nr1, if_true, if_false]
theorem cf_filing (a0 a1 a2 : Int32) : z_X11_filing ev_s0 0 a0 a1 a2 = some ((-1), ev_s0) := by
  simp only [z_X11_filing, z_X11_filing_22, ez_bdo ev_o0, ez_bdo ev_o2, ez_bdo ev_o25, ez_bdo ev_o26, ez_bdo ev_o39, ez_bdo ev_o43, ez_bdo ev_o158, ez_bdo ev_o162, ez_bdo ev_o164, ev_cd, cl_hasKey, cl_hasLock, cl_hasRoom, cl_hasDoor, cl_hasPerson, ez_bd_some, ez_b2_some, ez_let_eq, ez_nr0, ez_nr1, if_true, if_false]
theorem mf_filing (a0 a1 a2 : Int32) : z_X12_filing ev_s0 170 a0 a1 a2 = some (-1) := by
  simp only [z_X12_filing, z_X12_filing_38, z_X12_filing_101, z_X12_filing_127, z_X12_filing_25, ez_bdo (ev_m0 ev_MF0), ev_md ev_MF0, md_isKey ev_MF0, md_isLock ev_MF0, md_isRoom ev_MF0, md_isDoor ev_MF0, md_isPerson ev_MF0, ez_bd_some, ez_b2_some, ez_let_eq, ez_nr0, ez_nr1, if_true, if_false]
theorem cf_keeps (a0 : Int32) : z_X11_keeps ev_s0 0 a0 = some ((-1), ev_s0) := by
  simp only [z_X11_keeps, z_X11_keeps_30, ez_bdo ev_o0, ez_bdo ev_o2, ez_bdo ev_o25, ez_bdo ev_o26, ez_bdo ev_o39, ez_bdo ev_o43, ez_bdo ev_o158, ez_bdo ev_o162, ez_bdo ev_o164, ev_cd, cl_hasKey, cl_hasLock, cl_hasRoom, cl_hasDoor, cl_hasPerson, ez_bd_some, ez_b2_some, ez_let_eq, ez_nr0, ez_nr1, if_true, if_false]
theorem mf_keeps (a0 : Int32) : z_X12_keeps ev_s0 170 a0 = some ((-1), ev_s0) := by
  simp only [z_X12_keeps, z_X12_keeps_18, z_X12_keeps_61, z_X12_keeps_67, ez_bdo (ev_m0 ev_MF0), ev_md ev_MF0, md_isKey ev_MF0, md_isLock ev_MF0, md_isRoom ev_MF0, md_isDoor ev_MF0, md_isPerson ev_MF0, ez_bd_some, ez_b2_some, ez_let_eq, ez_nr0, ez_nr1, if_true, if_false]
theorem cf_leftOver (a0 : Int32) : z_X11_leftOver ev_s0 0 a0 = some (-1) := by
  simp only [z_X11_leftOver, z_X11_leftOver_23, ez_bdo ev_o0, ez_bdo ev_o2, ez_bdo ev_o25, ez_bdo ev_o26, ez_bdo ev_o39, ez_bdo ev_o43, ez_bdo ev_o158, ez_bdo ev_o162, ez_bdo ev_o164, ev_cd, cl_hasKey, cl_hasLock, cl_hasRoom, cl_hasDoor, cl_hasPerson, ez_bd_some, ez_b2_some, ez_let_eq, ez_nr0, ez_nr1, if_true, if_false]
theorem mf_leftOver (a0 : Int32) : z_X12_leftOver ev_s0 170 a0 = some ((-1), ev_s0) := by
  simp only [z_X12_leftOver, z_X12_leftOver_18, z_X12_leftOver_69, ez_bdo (ev_m0 ev_MF0), ev_md ev_MF0, md_isKey ev_MF0, md_isLock ev_MF0, md_isRoom ev_MF0, md_isDoor ev_MF0, md_isPerson ev_MF0, ez_bd_some, ez_b2_some, ez_let_eq, ez_nr0, ez_nr1, if_true, if_false]
theorem cf_bunch (a0 a1 a2 : Int32) : z_X11_bunch ev_s0 0 a0 a1 a2 = some (-1) := by
  simp only [z_X11_bunch, z_X11_bunch_22, ez_bdo ev_o0, ez_bdo ev_o2, ez_bdo ev_o25, ez_bdo ev_o26, ez_bdo ev_o39, ez_bdo ev_o43, ez_bdo ev_o158, ez_bdo ev_o162, ez_bdo ev_o164, ev_cd, cl_hasKey, cl_hasLock, cl_hasRoom, cl_hasDoor, cl_hasPerson, ez_bd_some, ez_b2_some, ez_let_eq, ez_nr0, ez_nr1, if_true, if_false]
theorem mf_bunch (a0 a1 a2 : Int32) : z_X12_bunch ev_s0 170 a0 a1 a2 = some (-1) := by
  simp only [z_X12_bunch, z_X12_bunch_52, z_X12_bunch_90, z_X12_bunch_108, z_X12_bunch_137, z_X12_bunch_25, ez_bdo (ev_m0 ev_MF0), ev_md ev_MF0, md_isKey ev_MF0, md_isLock ev_MF0, md_isRoom ev_MF0, md_isDoor ev_MF0, md_isPerson ev_MF0, ez_bd_some, ez_b2_some, ez_let_eq, ez_nr0, ez_nr1, if_true, if_false]
theorem cf_together (a0 : Int32) : z_X11_together ev_s0 0 a0 = some ((-1), ev_s0) := by
  simp only [z_X11_together, z_X11_together_23, ez_bdo ev_o0, ez_bdo ev_o2, ez_bdo ev_o25, ez_bdo ev_o26, ez_bdo ev_o39, ez_bdo ev_o43, ez_bdo ev_o158, ez_bdo ev_o162, ez_bdo ev_o164, ev_cd, cl_hasKey, cl_hasLock, cl_hasRoom, cl_hasDoor, cl_hasPerson, ez_bd_some, ez_b2_some, ez_let_eq, ez_nr0, ez_nr1, if_true, if_false]
theorem mf_together (a0 : Int32) : z_X12_together ev_s0 170 a0 = some ((-1), ev_s0) := by
  simp only [z_X12_together, z_X12_together_12, z_X12_together_44, z_X12_together_52, z_X12_together_188, ez_bdo (ev_m0 ev_MF0), ev_md ev_MF0, md_isKey ev_MF0, md_isLock ev_MF0, md_isRoom ev_MF0, md_isDoor ev_MF0, md_isPerson ev_MF0, ez_bd_some, ez_b2_some, ez_let_eq, ez_nr0, ez_nr1, if_true, if_false]
theorem cf_comers (a0 : Int32) : z_X11_comers ev_s0 0 a0 = some (-1) := by
  simp only [z_X11_comers, z_X11_comers_17, z_X11_comers_49, ez_bdo ev_o0, ez_bdo ev_o2, ez_bdo ev_o25, ez_bdo ev_o26, ez_bdo ev_o39, ez_bdo ev_o43, ez_bdo ev_o158, ez_bdo ev_o162, ez_bdo ev_o164, ev_cd, cl_hasKey, cl_hasLock, cl_hasRoom, cl_hasDoor, cl_hasPerson, ez_bd_some, ez_b2_some, ez_let_eq, ez_nr0, ez_nr1, if_true, if_false]
theorem mf_comers (a0 : Int32) : z_X12_comers ev_s0 170 a0 = some (-1) := by
  simp only [z_X12_comers, z_X12_comers_14, z_X12_comers_45, ez_bdo (ev_m0 ev_MF0), ev_md ev_MF0, md_isKey ev_MF0, md_isLock ev_MF0, md_isRoom ev_MF0, md_isDoor ev_MF0, md_isPerson ev_MF0, ez_bd_some, ez_b2_some, ez_let_eq, ez_nr0, ez_nr1, if_true, if_false]
theorem cf_trade (a0 a1 a2 : Int32) : z_X11_trade ev_s0 0 a0 a1 a2 = some (-1) := by
  simp only [z_X11_trade, z_X11_trade_74, z_X11_trade_36, ez_bdo ev_o0, ez_bdo ev_o2, ez_bdo ev_o25, ez_bdo ev_o26, ez_bdo ev_o39, ez_bdo ev_o43, ez_bdo ev_o158, ez_bdo ev_o162, ez_bdo ev_o164, ev_cd, cl_hasKey, cl_hasLock, cl_hasRoom, cl_hasDoor, cl_hasPerson, ez_bd_some, ez_b2_some, ez_let_eq, ez_nr0, ez_nr1, if_true, if_false]
theorem mf_trade (a0 a1 a2 : Int32) : z_X12_trade ev_s0 170 a0 a1 a2 = some (-1) := by
  simp only [z_X12_trade, z_X12_trade_35, z_X12_trade_47, z_X12_trade_103, z_X12_trade_104, z_X12_trade_30, ez_bdo (ev_m0 ev_MF0), ev_md ev_MF0, md_isKey ev_MF0, md_isLock ev_MF0, md_isRoom ev_MF0, md_isDoor ev_MF0, md_isPerson ev_MF0, ez_bd_some, ez_b2_some, ez_let_eq, ez_nr0, ez_nr1, if_true, if_false]
theorem cf_span (a0 a1 : Int32) : z_X11_span ev_s0 0 a0 a1 = some (-1) := by
  simp only [z_X11_span, z_X11_span_22, ez_bdo ev_o0, ez_bdo ev_o2, ez_bdo ev_o25, ez_bdo ev_o26, ez_bdo ev_o39, ez_bdo ev_o43, ez_bdo ev_o158, ez_bdo ev_o162, ez_bdo ev_o164, ev_cd, cl_hasKey, cl_hasLock, cl_hasRoom, cl_hasDoor, cl_hasPerson, ez_bd_some, ez_b2_some, ez_let_eq, ez_nr0, ez_nr1, if_true, if_false]
theorem mf_span (a0 a1 : Int32) : z_X12_span ev_s0 170 a0 a1 = some (-1) := by
  simp only [z_X12_span, z_X12_span_23, z_X12_span_16, ez_bdo (ev_m0 ev_MF0), ev_md ev_MF0, md_isKey ev_MF0, md_isLock ev_MF0, md_isRoom ev_MF0, md_isDoor ev_MF0, md_isPerson ev_MF0, ez_bd_some, ez_b2_some, ez_let_eq, ez_nr0, ez_nr1, if_true, if_false]
theorem cf_twin (a0 : Int32) : z_X11_twin ev_s0 0 a0 = some (-1) := by
  simp only [z_X11_twin, z_X11_twin_20, z_X11_twin_75, z_X11_twin_81, ez_bdo ev_o0, ez_bdo ev_o2, ez_bdo ev_o25, ez_bdo ev_o26, ez_bdo ev_o39, ez_bdo ev_o43, ez_bdo ev_o158, ez_bdo ev_o162, ez_bdo ev_o164, ev_cd, cl_hasKey, cl_hasLock, cl_hasRoom, cl_hasDoor, cl_hasPerson, ez_bd_some, ez_b2_some, ez_let_eq, ez_nr0, ez_nr1, if_true, if_false]
theorem mf_twin (a0 : Int32) : z_X12_twin ev_s0 170 a0 = some (-1) := by
  simp only [z_X12_twin, z_X12_twin_14, z_X12_twin_46, z_X12_twin_48, ez_bdo (ev_m0 ev_MF0), ev_md ev_MF0, md_isKey ev_MF0, md_isLock ev_MF0, md_isRoom ev_MF0, md_isDoor ev_MF0, md_isPerson ev_MF0, ez_bd_some, ez_b2_some, ez_let_eq, ez_nr0, ez_nr1, if_true, if_false]
theorem cf_lasts (a0 a1 : Int32) : z_X11_lasts ev_s0 0 a0 a1 = some ((-1), ev_s0) := by
  simp only [z_X11_lasts, z_X11_lasts_37, z_X11_lasts_22, ez_bdo ev_o0, ez_bdo ev_o2, ez_bdo ev_o25, ez_bdo ev_o26, ez_bdo ev_o39, ez_bdo ev_o43, ez_bdo ev_o158, ez_bdo ev_o162, ez_bdo ev_o164, ev_cd, cl_hasKey, cl_hasLock, cl_hasRoom, cl_hasDoor, cl_hasPerson, ez_bd_some, ez_b2_some, ez_let_eq, ez_nr0, ez_nr1, if_true, if_false]
theorem mf_lasts (a0 a1 : Int32) : z_X12_lasts ev_s0 170 a0 a1 = some ((-1), ev_s0) := by
  simp only [z_X12_lasts, z_X12_lasts_24, z_X12_lasts_51, z_X12_lasts_67, z_X12_lasts_16, ez_bdo (ev_m0 ev_MF0), ev_md ev_MF0, md_isKey ev_MF0, md_isLock ev_MF0, md_isRoom ev_MF0, md_isDoor ev_MF0, md_isPerson ev_MF0, ez_bd_some, ez_b2_some, ez_let_eq, ez_nr0, ez_nr1, if_true, if_false]
theorem cf_odds (a0 a1 : Int32) : z_X11_odds ev_s0 0 a0 a1 = some ((-1), ev_s0) := by
  simp only [z_X11_odds, z_X11_odds_90, z_X11_odds_20, ez_bdo ev_o0, ez_bdo ev_o2, ez_bdo ev_o25, ez_bdo ev_o26, ez_bdo ev_o39, ez_bdo ev_o43, ez_bdo ev_o158, ez_bdo ev_o162, ez_bdo ev_o164, ev_cd, cl_hasKey, cl_hasLock, cl_hasRoom, cl_hasDoor, cl_hasPerson, ez_bd_some, ez_b2_some, ez_let_eq, ez_nr0, ez_nr1, if_true, if_false]
theorem mf_odds (a0 a1 : Int32) : z_X12_odds ev_s0 170 a0 a1 = some (-1) := by
  simp only [z_X12_odds, z_X12_odds_43, z_X12_odds_17, ez_bdo (ev_m0 ev_MF0), ev_md ev_MF0, md_isKey ev_MF0, md_isLock ev_MF0, md_isRoom ev_MF0, md_isDoor ev_MF0, md_isPerson ev_MF0, ez_bd_some, ez_b2_some, ez_let_eq, ez_nr0, ez_nr1, if_true, if_false]
theorem cf_tried (a0 a1 : Int32) : z_X11_tried ev_s0 0 a0 a1 = some ((-1), ev_s0) := by
  simp only [z_X11_tried, z_X11_tried_24, ez_bdo ev_o0, ez_bdo ev_o2, ez_bdo ev_o25, ez_bdo ev_o26, ez_bdo ev_o39, ez_bdo ev_o43, ez_bdo ev_o158, ez_bdo ev_o162, ez_bdo ev_o164, ev_cd, cl_hasKey, cl_hasLock, cl_hasRoom, cl_hasDoor, cl_hasPerson, ez_bd_some, ez_b2_some, ez_let_eq, ez_nr0, ez_nr1, if_true, if_false]
theorem mf_tried (a0 a1 : Int32) : z_X12_tried ev_s0 170 a0 a1 = some ((-1), ev_s0) := by
  simp only [z_X12_tried, z_X12_tried_46, z_X12_tried_17, ez_bdo (ev_m0 ev_MF0), ev_md ev_MF0, md_isKey ev_MF0, md_isLock ev_MF0, md_isRoom ev_MF0, md_isDoor ev_MF0, md_isPerson ev_MF0, ez_bd_some, ez_b2_some, ez_let_eq, ez_nr0, ez_nr1, if_true, if_false]
