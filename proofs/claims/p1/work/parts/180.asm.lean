set_option maxHeartbeats 4000000 in
set_option maxRecDepth 100000 in
theorem ev_sc0 (xs : Nat → Int32) : ez_sc 6 xs 0 = some (xs 0) := rfl
set_option maxHeartbeats 4000000 in
set_option maxRecDepth 100000 in
theorem ev_sc1 (xs : Nat → Int32) : ez_sc 6 xs (0 + 1) = some (xs 1) := rfl
set_option maxHeartbeats 4000000 in
set_option maxRecDepth 100000 in
theorem ev_sc2 (xs : Nat → Int32) : ez_sc 6 xs (0 + 2) = some (xs 2) := rfl
set_option maxHeartbeats 4000000 in
set_option maxRecDepth 100000 in
theorem ev_sc3 (xs : Nat → Int32) : ez_sc 6 xs (0 + 3) = some (xs 3) := rfl
set_option maxHeartbeats 4000000 in
set_option maxRecDepth 100000 in
theorem ev_sc4 (xs : Nat → Int32) : ez_sc 6 xs (0 + 4) = some (xs 4) := rfl
set_option maxHeartbeats 4000000 in
set_option maxRecDepth 100000 in
theorem ev_sc5 (xs : Nat → Int32) : ez_sc 6 xs (0 + 5) = some (xs 5) := rfl
set_option maxHeartbeats 4000000 in
set_option maxRecDepth 100000 in
theorem law_case (xs : Nat → Int32) (K : ez_H → Nat → Nat → Int32 → Option (Int32 × ez_H)) (hK : ∀ σ, K σ 0 170 (0 + 6) = some (1, σ)) : ∃ σ1, z_law_18 6 xs K ev_s0 0 170 0 = some (1, σ1) := by
  have fin : ∀ σ, z_law_1998 6 xs K σ 0 170 0 = some (1, σ) := hK
  unfold z_law_18
  rw [ez_let_eq, ez_let_eq, if_neg (by decide), ev_sc0, ez_bd_some, ez_let_eq]
  by_cases q0 : xs 0 &&& 63 = 0
  · obtain ⟨r, σ1, σ2, c1, m1⟩ := pr_feed (xs 1) (xs 2) (xs 3) (xs 4) (xs 5)
    rw [if_pos q0, ez_let_eq, ev_sc1, ez_bd_some, ez_let_eq, ev_sc2, ez_bd_some, ez_let_eq, ev_sc3, ez_bd_some, ez_let_eq, ev_sc4, ez_bd_some, ez_let_eq, ev_sc5, ez_bd_some, c1, ez_b2_some, ez_let_eq, ev_sc1, ez_bd_some, ez_let_eq, ev_sc2, ez_bd_some, ez_let_eq, ev_sc3, ez_bd_some, ez_let_eq, ev_sc4, ez_bd_some, ez_let_eq, ev_sc5, ez_bd_some, m1, ez_b2_some, if_pos rfl]
    exact ⟨_, fin σ2⟩
  rw [if_neg q0]
  by_cases q1 : xs 0 &&& 63 = 1
  · obtain ⟨r, σ1, σ2, c1, m1⟩ := pr_end (xs 1)
    rw [if_pos q1, ez_let_eq, ev_sc1, ez_bd_some, c1, ez_b2_some, ez_let_eq, ev_sc1, ez_bd_some, m1, ez_b2_some, if_pos rfl]
    exact ⟨_, fin σ2⟩
  rw [if_neg q1]
  by_cases q2 : xs 0 &&& 63 = 2
  · obtain ⟨r, σ1, σ2, c1, m1⟩ := pr_plan
    rw [if_pos q2, c1, ez_b2_some, m1, ez_b2_some, if_pos rfl]
    exact ⟨_, fin σ2⟩
  rw [if_neg q2]
  by_cases q3 : xs 0 &&& 63 = 3
  · obtain ⟨r, c1, m1⟩ := pr_fault (xs 1)
    rw [if_pos q3, ez_let_eq, ev_sc1, ez_bd_some, c1, ez_bd_some, ez_let_eq, ev_sc1, ez_bd_some, m1, ez_bd_some, if_pos rfl]
    exact ⟨_, fin ev_s0⟩
  rw [if_neg q3]
  by_cases q4 : xs 0 &&& 63 = 4
  · obtain ⟨r, c1, m1⟩ := pr_key (xs 1) (xs 2)
    rw [if_pos q4, ez_let_eq, ev_sc1, ez_bd_some, ez_let_eq, ev_sc2, ez_bd_some, c1, ez_bd_some, ez_let_eq, ev_sc1, ez_bd_some, ez_let_eq, ev_sc2, ez_bd_some, m1, ez_bd_some, if_pos rfl]
    exact ⟨_, fin ev_s0⟩
  rw [if_neg q4]
  by_cases q5 : xs 0 &&& 63 = 5
  · obtain ⟨r, c1, m1⟩ := pr_cut (xs 1) (xs 2)
    rw [if_pos q5, ez_let_eq, ev_sc1, ez_bd_some, ez_let_eq, ev_sc2, ez_bd_some, c1, ez_bd_some, ez_let_eq, ev_sc1, ez_bd_some, ez_let_eq, ev_sc2, ez_bd_some, m1, ez_bd_some, if_pos rfl]
    exact ⟨_, fin ev_s0⟩
  rw [if_neg q5]
  by_cases q6 : xs 0 &&& 63 = 6
  · obtain ⟨r, c1, m1⟩ := pr_lock (xs 1) (xs 2)
    rw [if_pos q6, ez_let_eq, ev_sc1, ez_bd_some, ez_let_eq, ev_sc2, ez_bd_some, c1, ez_bd_some, ez_let_eq, ev_sc1, ez_bd_some, ez_let_eq, ev_sc2, ez_bd_some, m1, ez_bd_some, if_pos rfl]
    exact ⟨_, fin ev_s0⟩
  rw [if_neg q6]
  by_cases q7 : xs 0 &&& 63 = 7
  · obtain ⟨r, c1, m1⟩ := pr_parts (xs 1) (xs 2)
    rw [if_pos q7, ez_let_eq, ev_sc1, ez_bd_some, ez_let_eq, ev_sc2, ez_bd_some, c1, ez_bd_some, ez_let_eq, ev_sc1, ez_bd_some, ez_let_eq, ev_sc2, ez_bd_some, m1, ez_bd_some, if_pos rfl]
    exact ⟨_, fin ev_s0⟩
  rw [if_neg q7]
  by_cases q8 : xs 0 &&& 63 = 8
  · obtain ⟨r, c1, m1⟩ := pr_door (xs 1) (xs 2)
    rw [if_pos q8, ez_let_eq, ev_sc1, ez_bd_some, ez_let_eq, ev_sc2, ez_bd_some, c1, ez_bd_some, ez_let_eq, ev_sc1, ez_bd_some, ez_let_eq, ev_sc2, ez_bd_some, m1, ez_bd_some, if_pos rfl]
    exact ⟨_, fin ev_s0⟩
  rw [if_neg q8]
  by_cases q9 : xs 0 &&& 63 = 9
  · obtain ⟨r, c1, m1⟩ := pr_person (xs 1) (xs 2)
    rw [if_pos q9, ez_let_eq, ev_sc1, ez_bd_some, ez_let_eq, ev_sc2, ez_bd_some, c1, ez_bd_some, ez_let_eq, ev_sc1, ez_bd_some, ez_let_eq, ev_sc2, ez_bd_some, m1, ez_bd_some, if_pos rfl]
    exact ⟨_, fin ev_s0⟩
  rw [if_neg q9]
  by_cases q10 : xs 0 &&& 63 = 10
  · obtain ⟨r, c1, m1⟩ := pr_opens (xs 1) (xs 2)
    rw [if_pos q10, ez_let_eq, ev_sc1, ez_bd_some, ez_let_eq, ev_sc2, ez_bd_some, c1, ez_bd_some, ez_let_eq, ev_sc1, ez_bd_some, ez_let_eq, ev_sc2, ez_bd_some, m1, ez_bd_some, if_pos rfl]
    exact ⟨_, fin ev_s0⟩
  rw [if_neg q10]
  by_cases q11 : xs 0 &&& 63 = 11
  · obtain ⟨r, σ1, σ2, c1, m1⟩ := pr_walk (xs 1) (xs 2)
    rw [if_pos q11, ez_let_eq, ev_sc1, ez_bd_some, ez_let_eq, ev_sc2, ez_bd_some, c1, ez_b2_some, ez_let_eq, ev_sc1, ez_bd_some, ez_let_eq, ev_sc2, ez_bd_some, m1, ez_b2_some, if_pos rfl]
    exact ⟨_, fin σ2⟩
  rw [if_neg q11]
  by_cases q12 : xs 0 &&& 63 = 12
  · obtain ⟨r, σ1, σ2, c1, m1⟩ := pr_give (xs 1) (xs 2)
    rw [if_pos q12, ez_let_eq, ev_sc1, ez_bd_some, ez_let_eq, ev_sc2, ez_bd_some, c1, ez_b2_some, ez_let_eq, ev_sc1, ez_bd_some, ez_let_eq, ev_sc2, ez_bd_some, m1, ez_b2_some, if_pos rfl]
    exact ⟨_, fin σ2⟩
  rw [if_neg q12]
  by_cases q13 : xs 0 &&& 63 = 13
  · obtain ⟨r, σ1, σ2, c1, m1⟩ := pr_hang (xs 1)
    rw [if_pos q13, ez_let_eq, ev_sc1, ez_bd_some, c1, ez_b2_some, ez_let_eq, ev_sc1, ez_bd_some, m1, ez_b2_some, if_pos rfl]
    exact ⟨_, fin σ2⟩
  rw [if_neg q13]
  by_cases q14 : xs 0 &&& 63 = 14
  · obtain ⟨r, σ1, σ2, c1, m1⟩ := pr_lose (xs 1)
    rw [if_pos q14, ez_let_eq, ev_sc1, ez_bd_some, c1, ez_b2_some, ez_let_eq, ev_sc1, ez_bd_some, m1, ez_b2_some, if_pos rfl]
    exact ⟨_, fin σ2⟩
  rw [if_neg q14]
  by_cases q15 : xs 0 &&& 63 = 15
  · obtain ⟨r, σ1, σ2, c1, m1⟩ := pr_find (xs 1) (xs 2)
    rw [if_pos q15, ez_let_eq, ev_sc1, ez_bd_some, ez_let_eq, ev_sc2, ez_bd_some, c1, ez_b2_some, ez_let_eq, ev_sc1, ez_bd_some, ez_let_eq, ev_sc2, ez_bd_some, m1, ez_b2_some, if_pos rfl]
    exact ⟨_, fin σ2⟩
  rw [if_neg q15]
  by_cases q16 : xs 0 &&& 63 = 16
  · obtain ⟨r, σ1, σ2, c1, m1⟩ := pr_file (xs 1) (xs 2)
    rw [if_pos q16, ez_let_eq, ev_sc1, ez_bd_some, ez_let_eq, ev_sc2, ez_bd_some, c1, ez_b2_some, ez_let_eq, ev_sc1, ez_bd_some, ez_let_eq, ev_sc2, ez_bd_some, m1, ez_b2_some, if_pos rfl]
    exact ⟨_, fin σ2⟩
  rw [if_neg q16]
  by_cases q17 : xs 0 &&& 63 = 17
  · obtain ⟨r, σ1, σ2, c1, m1⟩ := pr_recut (xs 1) (xs 2)
    rw [if_pos q17, ez_let_eq, ev_sc1, ez_bd_some, ez_let_eq, ev_sc2, ez_bd_some, c1, ez_b2_some, ez_let_eq, ev_sc1, ez_bd_some, ez_let_eq, ev_sc2, ez_bd_some, m1, ez_b2_some, if_pos rfl]
    exact ⟨_, fin σ2⟩
  rw [if_neg q17]
  by_cases q18 : xs 0 &&& 63 = 18
  · obtain ⟨r, σ1, σ2, c1, m1⟩ := pr_pin (xs 1) (xs 2)
    rw [if_pos q18, ez_let_eq, ev_sc1, ez_bd_some, ez_let_eq, ev_sc2, ez_bd_some, c1, ez_b2_some, ez_let_eq, ev_sc1, ez_bd_some, ez_let_eq, ev_sc2, ez_bd_some, m1, ez_b2_some, if_pos rfl]
    exact ⟨_, fin σ2⟩
  rw [if_neg q18]
  by_cases q19 : xs 0 &&& 63 = 19
  · obtain ⟨r, σ1, σ2, c1, m1⟩ := pr_part (xs 1) (xs 2) (xs 3)
    rw [if_pos q19, ez_let_eq, ev_sc1, ez_bd_some, ez_let_eq, ev_sc2, ez_bd_some, ez_let_eq, ev_sc3, ez_bd_some, c1, ez_b2_some, ez_let_eq, ev_sc1, ez_bd_some, ez_let_eq, ev_sc2, ez_bd_some, ez_let_eq, ev_sc3, ez_bd_some, m1, ez_b2_some, if_pos rfl]
    exact ⟨_, fin σ2⟩
  rw [if_neg q19]
  by_cases q20 : xs 0 &&& 63 = 20
  · obtain ⟨r, σ1, σ2, c1, m1⟩ := pr_undo
    rw [if_pos q20, c1, ez_b2_some, m1, ez_b2_some, if_pos rfl]
    exact ⟨_, fin σ2⟩
  rw [if_neg q20]
  by_cases q21 : xs 0 &&& 63 = 21
  · obtain ⟨r, σ1, σ2, c1, m1⟩ := pr_redo
    rw [if_pos q21, c1, ez_b2_some, m1, ez_b2_some, if_pos rfl]
    exact ⟨_, fin σ2⟩
  rw [if_neg q21]
  by_cases q22 : xs 0 &&& 63 = 22
  · obtain ⟨r, σ1, c1, m1⟩ := pr_legal
    rw [if_pos q22, c1, ez_b2_some, m1, ez_bd_some, if_pos rfl]
    exact ⟨_, fin σ1⟩
  rw [if_neg q22]
  by_cases q23 : xs 0 &&& 63 = 23
  · obtain ⟨r, σ1, c1, m1⟩ := pr_bitting (xs 1)
    rw [if_pos q23, ez_let_eq, ev_sc1, ez_bd_some, c1, ez_b2_some, ez_let_eq, ev_sc1, ez_bd_some, m1, ez_bd_some, if_pos rfl]
    exact ⟨_, fin σ1⟩
  rw [if_neg q23]
  by_cases q24 : xs 0 &&& 63 = 24
  · obtain ⟨r, σ1, c1, m1⟩ := pr_rank (xs 1)
    rw [if_pos q24, ez_let_eq, ev_sc1, ez_bd_some, c1, ez_b2_some, ez_let_eq, ev_sc1, ez_bd_some, m1, ez_bd_some, if_pos rfl]
    exact ⟨_, fin σ1⟩
  rw [if_neg q24]
  by_cases q25 : xs 0 &&& 63 = 25
  · obtain ⟨r, σ1, c1, m1⟩ := pr_ghosts (xs 1)
    rw [if_pos q25, ez_let_eq, ev_sc1, ez_bd_some, c1, ez_b2_some, ez_let_eq, ev_sc1, ez_bd_some, m1, ez_bd_some, if_pos rfl]
    exact ⟨_, fin σ1⟩
  rw [if_neg q25]
  by_cases q26 : xs 0 &&& 63 = 26
  · obtain ⟨r, σ1, c1, m1⟩ := pr_ghost (xs 1) (xs 2)
    rw [if_pos q26, ez_let_eq, ev_sc1, ez_bd_some, ez_let_eq, ev_sc2, ez_bd_some, c1, ez_b2_some, ez_let_eq, ev_sc1, ez_bd_some, ez_let_eq, ev_sc2, ez_bd_some, m1, ez_bd_some, if_pos rfl]
    exact ⟨_, fin σ1⟩
  rw [if_neg q26]
  by_cases q27 : xs 0 &&& 63 = 27
  · obtain ⟨r, σ1, c1, m1⟩ := pr_common (xs 1) (xs 2)
    rw [if_pos q27, ez_let_eq, ev_sc1, ez_bd_some, ez_let_eq, ev_sc2, ez_bd_some, c1, ez_b2_some, ez_let_eq, ev_sc1, ez_bd_some, ez_let_eq, ev_sc2, ez_bd_some, m1, ez_bd_some, if_pos rfl]
    exact ⟨_, fin σ1⟩
  rw [if_neg q27]
  by_cases q28 : xs 0 &&& 63 = 28
  · obtain ⟨r, σ1, c1, m1⟩ := pr_master (xs 1)
    rw [if_pos q28, ez_let_eq, ev_sc1, ez_bd_some, c1, ez_b2_some, ez_let_eq, ev_sc1, ez_bd_some, m1, ez_bd_some, if_pos rfl]
    exact ⟨_, fin σ1⟩
  rw [if_neg q28]
  by_cases q29 : xs 0 &&& 63 = 29
  · obtain ⟨r, σ1, c1, m1⟩ := pr_cutFor (xs 1) (xs 2)
    rw [if_pos q29, ez_let_eq, ev_sc1, ez_bd_some, ez_let_eq, ev_sc2, ez_bd_some, c1, ez_b2_some, ez_let_eq, ev_sc1, ez_bd_some, ez_let_eq, ev_sc2, ez_bd_some, m1, ez_bd_some, if_pos rfl]
    exact ⟨_, fin σ1⟩
  rw [if_neg q29]
  by_cases q30 : xs 0 &&& 63 = 30
  · obtain ⟨r, σ1, c1, m1⟩ := pr_filing (xs 1) (xs 2) (xs 3)
    rw [if_pos q30, ez_let_eq, ev_sc1, ez_bd_some, ez_let_eq, ev_sc2, ez_bd_some, ez_let_eq, ev_sc3, ez_bd_some, c1, ez_b2_some, ez_let_eq, ev_sc1, ez_bd_some, ez_let_eq, ev_sc2, ez_bd_some, ez_let_eq, ev_sc3, ez_bd_some, m1, ez_bd_some, if_pos rfl]
    exact ⟨_, fin σ1⟩
  rw [if_neg q30]
  by_cases q31 : xs 0 &&& 63 = 31
  · obtain ⟨r, c1, m1⟩ := pr_broken (xs 1)
    rw [if_pos q31, ez_let_eq, ev_sc1, ez_bd_some, c1, ez_bd_some, ez_let_eq, ev_sc1, ez_bd_some, m1, ez_bd_some, if_pos rfl]
    exact ⟨_, fin ev_s0⟩
  rw [if_neg q31]
  by_cases q32 : xs 0 &&& 63 = 32
  · obtain ⟨r, σ2, c1, m1⟩ := pr_strays (xs 1)
    rw [if_pos q32, ez_let_eq, ev_sc1, ez_bd_some, c1, ez_bd_some, ez_let_eq, ev_sc1, ez_bd_some, m1, ez_b2_some, if_pos rfl]
    exact ⟨_, fin σ2⟩
  rw [if_neg q32]
  by_cases q33 : xs 0 &&& 63 = 33
  · obtain ⟨r, σ1, σ2, c1, m1⟩ := pr_keeps (xs 1)
    rw [if_pos q33, ez_let_eq, ev_sc1, ez_bd_some, c1, ez_b2_some, ez_let_eq, ev_sc1, ez_bd_some, m1, ez_b2_some, if_pos rfl]
    exact ⟨_, fin σ2⟩
  rw [if_neg q33]
  by_cases q34 : xs 0 &&& 63 = 34
  · obtain ⟨r, σ2, c1, m1⟩ := pr_leftOver (xs 1)
    rw [if_pos q34, ez_let_eq, ev_sc1, ez_bd_some, c1, ez_bd_some, ez_let_eq, ev_sc1, ez_bd_some, m1, ez_b2_some, if_pos rfl]
    exact ⟨_, fin σ2⟩
  rw [if_neg q34]
  by_cases q35 : xs 0 &&& 63 = 35
  · obtain ⟨r, σ1, σ2, c1, m1⟩ := pr_route (xs 1) (xs 2)
    rw [if_pos q35, ez_let_eq, ev_sc1, ez_bd_some, ez_let_eq, ev_sc2, ez_bd_some, c1, ez_b2_some, ez_let_eq, ev_sc1, ez_bd_some, ez_let_eq, ev_sc2, ez_bd_some, m1, ez_b2_some, if_pos rfl]
    exact ⟨_, fin σ2⟩
  rw [if_neg q35]
  by_cases q36 : xs 0 &&& 63 = 36
  · obtain ⟨r, c1, m1⟩ := pr_bunch (xs 1) (xs 2) (xs 3)
    rw [if_pos q36, ez_let_eq, ev_sc1, ez_bd_some, ez_let_eq, ev_sc2, ez_bd_some, ez_let_eq, ev_sc3, ez_bd_some, c1, ez_bd_some, ez_let_eq, ev_sc1, ez_bd_some, ez_let_eq, ev_sc2, ez_bd_some, ez_let_eq, ev_sc3, ez_bd_some, m1, ez_bd_some, if_pos rfl]
    exact ⟨_, fin ev_s0⟩
  rw [if_neg q36]
  by_cases q37 : xs 0 &&& 63 = 37
  · obtain ⟨r, σ1, σ2, c1, m1⟩ := pr_together (xs 1)
    rw [if_pos q37, ez_let_eq, ev_sc1, ez_bd_some, c1, ez_b2_some, ez_let_eq, ev_sc1, ez_bd_some, m1, ez_b2_some, if_pos rfl]
    exact ⟨_, fin σ2⟩
  rw [if_neg q37]
  by_cases q38 : xs 0 &&& 63 = 38
  · obtain ⟨r, c1, m1⟩ := pr_comers (xs 1)
    rw [if_pos q38, ez_let_eq, ev_sc1, ez_bd_some, c1, ez_bd_some, ez_let_eq, ev_sc1, ez_bd_some, m1, ez_bd_some, if_pos rfl]
    exact ⟨_, fin ev_s0⟩
  rw [if_neg q38]
  by_cases q39 : xs 0 &&& 63 = 39
  · obtain ⟨r, c1, m1⟩ := pr_trade (xs 1) (xs 2) (xs 3)
    rw [if_pos q39, ez_let_eq, ev_sc1, ez_bd_some, ez_let_eq, ev_sc2, ez_bd_some, ez_let_eq, ev_sc3, ez_bd_some, c1, ez_bd_some, ez_let_eq, ev_sc1, ez_bd_some, ez_let_eq, ev_sc2, ez_bd_some, ez_let_eq, ev_sc3, ez_bd_some, m1, ez_bd_some, if_pos rfl]
    exact ⟨_, fin ev_s0⟩
  rw [if_neg q39]
  by_cases q40 : xs 0 &&& 63 = 40
  · obtain ⟨r, c1, m1⟩ := pr_span (xs 1) (xs 2)
    rw [if_pos q40, ez_let_eq, ev_sc1, ez_bd_some, ez_let_eq, ev_sc2, ez_bd_some, c1, ez_bd_some, ez_let_eq, ev_sc1, ez_bd_some, ez_let_eq, ev_sc2, ez_bd_some, m1, ez_bd_some, if_pos rfl]
    exact ⟨_, fin ev_s0⟩
  rw [if_neg q40]
  by_cases q41 : xs 0 &&& 63 = 41
  · obtain ⟨r, c1, m1⟩ := pr_twin (xs 1)
    rw [if_pos q41, ez_let_eq, ev_sc1, ez_bd_some, c1, ez_bd_some, ez_let_eq, ev_sc1, ez_bd_some, m1, ez_bd_some, if_pos rfl]
    exact ⟨_, fin ev_s0⟩
  rw [if_neg q41]
  by_cases q42 : xs 0 &&& 63 = 42
  · obtain ⟨r, σ1, σ2, c1, m1⟩ := pr_book (xs 1)
    rw [if_pos q42, ez_let_eq, ev_sc1, ez_bd_some, c1, ez_b2_some, ez_let_eq, ev_sc1, ez_bd_some, m1, ez_b2_some, if_pos rfl]
    exact ⟨_, fin σ2⟩
  rw [if_neg q42]
  by_cases q43 : xs 0 &&& 63 = 43
  · obtain ⟨r, σ1, σ2, c1, m1⟩ := pr_lasts (xs 1) (xs 2)
    rw [if_pos q43, ez_let_eq, ev_sc1, ez_bd_some, ez_let_eq, ev_sc2, ez_bd_some, c1, ez_b2_some, ez_let_eq, ev_sc1, ez_bd_some, ez_let_eq, ev_sc2, ez_bd_some, m1, ez_b2_some, if_pos rfl]
    exact ⟨_, fin σ2⟩
  rw [if_neg q43]
  by_cases q44 : xs 0 &&& 63 = 44
  · obtain ⟨r, σ1, c1, m1⟩ := pr_blanks
    rw [if_pos q44, c1, ez_b2_some, m1, ez_bd_some, if_pos rfl]
    exact ⟨_, fin σ1⟩
  rw [if_neg q44]
  by_cases q45 : xs 0 &&& 63 = 45
  · obtain ⟨r, c1, m1⟩ := pr_stuck
    rw [if_pos q45, c1, ez_bd_some, m1, ez_bd_some, if_pos rfl]
    exact ⟨_, fin ev_s0⟩
  rw [if_neg q45]
  by_cases q46 : xs 0 &&& 63 = 46
  · obtain ⟨r, c1, m1⟩ := pr_barred
    rw [if_pos q46, c1, ez_bd_some, m1, ez_bd_some, if_pos rfl]
    exact ⟨_, fin ev_s0⟩
  rw [if_neg q46]
  by_cases q47 : xs 0 &&& 63 = 47
  · obtain ⟨r, σ1, c1, m1⟩ := pr_haunted
    rw [if_pos q47, c1, ez_b2_some, m1, ez_bd_some, if_pos rfl]
    exact ⟨_, fin σ1⟩
  rw [if_neg q47]
  by_cases q48 : xs 0 &&& 63 = 48
  · obtain ⟨r, c1, m1⟩ := pr_best
    rw [if_pos q48, c1, ez_bd_some, m1, ez_bd_some, if_pos rfl]
    exact ⟨_, fin ev_s0⟩
  rw [if_neg q48]
  by_cases q49 : xs 0 &&& 63 = 49
  · obtain ⟨r, c1, m1⟩ := pr_idle (xs 1)
    rw [if_pos q49, ez_let_eq, ev_sc1, ez_bd_some, c1, ez_bd_some, ez_let_eq, ev_sc1, ez_bd_some, m1, ez_bd_some, if_pos rfl]
    exact ⟨_, fin ev_s0⟩
  rw [if_neg q49]
  by_cases q50 : xs 0 &&& 63 = 50
  · obtain ⟨r, σ1, c1, m1⟩ := pr_law (xs 1)
    rw [if_pos q50, ez_let_eq, ev_sc1, ez_bd_some, c1, ez_b2_some, ez_let_eq, ev_sc1, ez_bd_some, m1, ez_bd_some, if_pos rfl]
    exact ⟨_, fin σ1⟩
  rw [if_neg q50]
  by_cases q51 : xs 0 &&& 63 = 51
  · obtain ⟨r, σ1, c1, m1⟩ := pr_odds (xs 1) (xs 2)
    rw [if_pos q51, ez_let_eq, ev_sc1, ez_bd_some, ez_let_eq, ev_sc2, ez_bd_some, c1, ez_b2_some, ez_let_eq, ev_sc1, ez_bd_some, ez_let_eq, ev_sc2, ez_bd_some, m1, ez_bd_some, if_pos rfl]
    exact ⟨_, fin σ1⟩
  rw [if_neg q51]
  by_cases q52 : xs 0 &&& 63 = 52
  · obtain ⟨r, c1, m1⟩ := pr_lies (xs 1)
    rw [if_pos q52, ez_let_eq, ev_sc1, ez_bd_some, c1, ez_bd_some, ez_let_eq, ev_sc1, ez_bd_some, m1, ez_bd_some, if_pos rfl]
    exact ⟨_, fin ev_s0⟩
  rw [if_neg q52]
  by_cases q53 : xs 0 &&& 63 = 53
  · rw [if_pos q53, ez_let_eq, ev_sc1, ez_bd_some, ez_let_eq, ev_sc2, ez_bd_some]
    by_cases w : xs 2 = 0
    · rw [if_pos w]
      obtain ⟨r, σ1, σ2, c1, m1⟩ := pr_tried (xs 1) 0
      unfold z_law_1764 z_law_1786
      rw [c1, ez_b2_some, ez_let_eq, ev_sc1, ez_bd_some, ez_let_eq, ev_sc2, ez_bd_some, if_pos w, m1, ez_b2_some, if_pos rfl]
      exact ⟨_, fin σ2⟩
    · rw [if_neg w]
      obtain ⟨r, σ1, σ2, c1, m1⟩ := pr_tried (xs 1) 1
      unfold z_law_1764 z_law_1786
      rw [c1, ez_b2_some, ez_let_eq, ev_sc1, ez_bd_some, ez_let_eq, ev_sc2, ez_bd_some, if_neg w, m1, ez_b2_some, if_pos rfl]
      exact ⟨_, fin σ2⟩
  rw [if_neg q53]
  by_cases q54 : xs 0 &&& 63 = 54
  · obtain ⟨r, σ1, σ2, c1, m1⟩ := pr_untell (xs 1)
    rw [if_pos q54, ez_let_eq, ev_sc1, ez_bd_some, c1, ez_b2_some, ez_let_eq, ev_sc1, ez_bd_some, m1, ez_b2_some, if_pos rfl]
    exact ⟨_, fin σ2⟩
  rw [if_neg q54]
  by_cases q55 : xs 0 &&& 63 = 55
  · obtain ⟨r, σ1, σ2, c1, m1⟩ := pr_later (xs 1)
    rw [if_pos q55, ez_let_eq, ev_sc1, ez_bd_some, c1, ez_b2_some, ez_let_eq, ev_sc1, ez_bd_some, m1, ez_b2_some, if_pos rfl]
    exact ⟨_, fin σ2⟩
  rw [if_neg q55]
  by_cases q56 : xs 0 &&& 63 = 56
  · obtain ⟨r, σ1, c1, m1⟩ := pr_fits (xs 1)
    rw [if_pos q56, ez_let_eq, ev_sc1, ez_bd_some, c1, ez_b2_some, ez_let_eq, ev_sc1, ez_bd_some, m1, ez_bd_some, if_pos rfl]
    exact ⟨_, fin σ1⟩
  rw [if_neg q56]
  by_cases q57 : xs 0 &&& 63 = 57
  · obtain ⟨r, σ1, c1, m1⟩ := pr_sure (xs 1) (xs 2)
    rw [if_pos q57, ez_let_eq, ev_sc1, ez_bd_some, ez_let_eq, ev_sc2, ez_bd_some, c1, ez_b2_some, ez_let_eq, ev_sc1, ez_bd_some, ez_let_eq, ev_sc2, ez_bd_some, m1, ez_bd_some, if_pos rfl]
    exact ⟨_, fin σ1⟩
  rw [if_neg q57]
  by_cases q58 : xs 0 &&& 63 = 58
  · obtain ⟨r, σ1, c1, m1⟩ := pr_ask (xs 1) (xs 2)
    rw [if_pos q58, ez_let_eq, ev_sc1, ez_bd_some, ez_let_eq, ev_sc2, ez_bd_some, c1, ez_b2_some, ez_let_eq, ev_sc1, ez_bd_some, ez_let_eq, ev_sc2, ez_bd_some, m1, ez_bd_some, if_pos rfl]
    exact ⟨_, fin σ1⟩
  rw [if_neg q58]
  by_cases q59 : xs 0 &&& 63 = 59
  · obtain ⟨r, σ1, σ2, c1, m1⟩ := pr_image (xs 1)
    rw [if_pos q59, ez_let_eq, ev_sc1, ez_bd_some, c1, ez_b2_some, ez_let_eq, ev_sc1, ez_bd_some, m1, ez_b2_some, if_pos rfl]
    exact ⟨_, fin σ2⟩
  rw [if_neg q59]
  by_cases q60 : xs 0 &&& 63 = 60
  · obtain ⟨r, σ1, σ2, c1, m1⟩ := pr_back (xs 1)
    rw [if_pos q60, ez_let_eq, ev_sc1, ez_bd_some, c1, ez_b2_some, ez_let_eq, ev_sc1, ez_bd_some, m1, ez_b2_some, if_pos rfl]
    exact ⟨_, fin σ2⟩
  rw [if_neg q60]
  by_cases q61 : xs 0 &&& 63 = 61
  · obtain ⟨r, c1, m1⟩ := pr_about (xs 1)
    rw [if_pos q61, ez_let_eq, ev_sc1, ez_bd_some, c1, ez_bd_some, ez_let_eq, ev_sc1, ez_bd_some, m1, ez_bd_some, if_pos rfl]
    exact ⟨_, fin ev_s0⟩
  rw [if_neg q61]
  exact ⟨_, fin ev_s0⟩
set_option maxHeartbeats 4000000 in
set_option maxRecDepth 100000 in
theorem law_end (xs : Nat → Int32) (σ : ez_H) : ez_fix (fun _ _ _ _ => none) (z_law_18 6 xs) 16383 σ 0 170 (0 + 6) = some (1, σ) := by
  rw [show (16383 : Nat) = 16382 + 1 from rfl, ez_fix1]
  generalize ez_fix (fun _ _ _ _ => none) (z_law_18 6 xs) 16382 = K
  unfold z_law_18
  rw [ez_let_eq, ez_let_eq, if_pos (by decide)]
set_option maxHeartbeats 4000000 in
set_option maxRecDepth 100000 in
theorem law_short (xs : Nat → Int32) {L : Nat} (hL : L < 6) (K : ez_H → Nat → Nat → Int32 → Option (Int32 × ez_H)) (σ : ez_H) : z_law_18 L xs K σ 0 170 0 = some (1, σ) := by
  have h : ∀ L : Nat, L < 6 → Int32.ofNat L - 6 < 0 := by decide
  unfold z_law_18
  rw [ez_let_eq, ez_let_eq, if_pos (h L hL)]
set_option maxHeartbeats 4000000 in
set_option maxRecDepth 100000 in
theorem law_pure (xs : Nat → Int32) {L : Nat} (hL : L ≤ 6) : ∃ σ1, z_law L xs [] = some (1, σ1) := by
  unfold z_law
  rw [ez_nw_eq]
  show ∃ σ1, ez_b2 (z_X11_init [.inr (.inr (.inr (11, [.inr (.inr none), .inl 0, .inr (.inr none), .inr (.inr none), .inr (.inr none), .inr (.inr none), .inr (.inr none), .inr (.inr none), .inr (.inr none), .inl 0, .inr (.inr none), .inr (.inr none), .inr (.inr none), .inr (.inr none), .inr (.inr none), .inr (.inr none)])))] 0) _ = some (1, σ1)
  rw [ev_init11, ez_b2_some, ez_nw_eq, show ev_cls.length = 170 from rfl, ev_init12, ez_b2_some, ez_fixN]
  show ∃ σ1, z_law_18 L xs _ ev_s0 0 170 0 = some (1, σ1)
  rcases Nat.lt_or_ge L 6 with q | q
  · exact ⟨_, law_short xs q _ _⟩
  · obtain rfl : L = 6 := by omega
    exact law_case xs _ (law_end xs)
