def tz_cs1 : Nat → Nat → Int → Int → Bool
  | _, 0, _, _ => true
  | i, n + 1, A, B => (decide (A ≤ (tz_seg i).1) && decide ((tz_seg i).2 ≤ B)) && tz_cs1 (i + 1) n A B
theorem tz_cs1_ok {A B : Int} : ∀ n i, tz_cs1 i n A B = true → ∀ j, i ≤ j → j < i + n → A ≤ (tz_seg j).1 ∧ (tz_seg j).2 ≤ B
  | 0, i, _, j, h1, h2 => absurd h2 (by omega)
  | n + 1, i, h, j, h1, h2 => by
    simp only [tz_cs1, Bool.and_eq_true, decide_eq_true_eq] at h
    by_cases q : j = i
    · rw [q]; exact h.1
    · exact tz_cs1_ok n (i + 1) h.2 j (by omega) (by omega)
def tz_cs2 : Nat → Nat → Int → Int → Bool
  | _, 0, _, _ => true
  | i, n + 1, A, B => (decide ((tz_seg i).1 ≤ A) && decide (B ≤ (tz_seg i).2)) && tz_cs2 (i + 1) n A B
theorem tz_cs2_ok {A B : Int} : ∀ n i, tz_cs2 i n A B = true → ∀ j, i ≤ j → j < i + n → (tz_seg j).1 ≤ A ∧ B ≤ (tz_seg j).2
  | 0, i, _, j, h1, h2 => absurd h2 (by omega)
  | n + 1, i, h, j, h1, h2 => by
    simp only [tz_cs2, Bool.and_eq_true, decide_eq_true_eq] at h
    by_cases q : j = i
    · rw [q]; exact h.1
    · exact tz_cs2_ok n (i + 1) h.2 j (by omega) (by omega)
/-! A row for each field. -/
theorem gh_b {p : tz_P} (h : tz_gh p) : 0 ≤ p.1 2 ∧ p.1 2 ≤ 1 := by rcases h.2.2.1 with q | q <;> rw [q] <;> decide
theorem gh_r {p : tz_P} (h : tz_gh p) : 0 ≤ p.1 3 ∧ p.1 3 ≤ 1 := by rcases h.2.2.2.1 with q | q <;> rw [q] <;> decide
section AC
variable {p : tz_P} {σ : ez_H} {h : Nat} {x : Int32}
theorem tg_0_0 (hT : tp p σ) (hk : tz_C h = some (3, 0, 0, 0)) : tz_O (tq_iv (-2147483648) 2147483647) (ez_gi σ 0 h 0) := tz_gi hT hk (tf_0_0 (p := p))
theorem tw_0_0 (hT : tp p σ) (hk : tz_C h = some (3, 0, 0, 0)) (hx : tq_iv (-2147483648) 2147483647 x) : tz_O (tp p) (ez_pf σ 0 h 0 (.inl x)) := tz_pfi hT hk (tf_0_0 (p := p)) hx
theorem tg_0_1 (hT : tp p σ) (hk : tz_C h = some (3, 0, 0, 0)) : tz_O (tq_iv (-2147483648) 2147483647) (ez_gi σ 0 h 1) := tz_gi hT hk (tf_0_1 (p := p))
theorem tw_0_1 (hT : tp p σ) (hk : tz_C h = some (3, 0, 0, 0)) (hx : tq_iv (-2147483648) 2147483647 x) : tz_O (tp p) (ez_pf σ 0 h 1 (.inl x)) := tz_pfi hT hk (tf_0_1 (p := p)) hx
theorem tg_0_2 (hT : tp p σ) (hk : tz_C h = some (3, 0, 0, 0)) : tz_O (fun z => tz_C z = some (0, 1, 270, 0)) (ez_gr σ 0 h 2) := tz_gr hT hk (tf_0_2 (p := p))
theorem tg_0_3 (hT : tp p σ) (hk : tz_C h = some (3, 0, 0, 0)) : tz_O (fun z => tz_C z = some (0, 1, 270, 0)) (ez_gr σ 0 h 3) := tz_gr hT hk (tf_0_3 (p := p))
theorem tg_0_4 (hT : tp p σ) (hk : tz_C h = some (3, 0, 0, 0)) : tz_O (fun z => tz_C z = some (0, 1, 31, 0)) (ez_gr σ 0 h 4) := tz_gr hT hk (tf_0_4 (p := p))
theorem tg_1_0 (hT : tp p σ) (hk : tz_C h = some (3, 1, 0, 0)) : tz_O (fun z => tz_C z = some (2, 4, 41, 0)) (ez_gr σ 1 h 0) := tz_gr hT hk (tf_1_0 (p := p))
theorem tg_1_1 (hT : tp p σ) (hk : tz_C h = some (3, 1, 0, 0)) : tz_O (tq_iv (-2147483648) 2147483647) (ez_gi σ 1 h 1) := tz_gi hT hk (tf_1_1 (p := p))
theorem tw_1_1 (hT : tp p σ) (hk : tz_C h = some (3, 1, 0, 0)) (hx : tq_iv (-2147483648) 2147483647 x) : tz_O (tp p) (ez_pf σ 1 h 1 (.inl x)) := tz_pfi hT hk (tf_1_1 (p := p)) hx
theorem tg_1_2 (hT : tp p σ) (hk : tz_C h = some (3, 1, 0, 0)) : tz_O (tq_iv (-2147483648) 2147483647) (ez_gi σ 1 h 2) := tz_gi hT hk (tf_1_2 (p := p))
theorem tw_1_2 (hT : tp p σ) (hk : tz_C h = some (3, 1, 0, 0)) (hx : tq_iv (-2147483648) 2147483647 x) : tz_O (tp p) (ez_pf σ 1 h 2 (.inl x)) := tz_pfi hT hk (tf_1_2 (p := p)) hx
theorem tg_1_3 (hT : tp p σ) (hk : tz_C h = some (3, 1, 0, 0)) : tz_O (tq_iv (-2147483648) 2147483647) (ez_gi σ 1 h 3) := tz_gi hT hk (tf_1_3 (p := p))
theorem tw_1_3 (hT : tp p σ) (hk : tz_C h = some (3, 1, 0, 0)) (hx : tq_iv (-2147483648) 2147483647 x) : tz_O (tp p) (ez_pf σ 1 h 3 (.inl x)) := tz_pfi hT hk (tf_1_3 (p := p)) hx
theorem tg_2_0 (hT : tp p σ) (hk : tz_C h = some (3, 2, 0, 0)) : tz_O (fun z => tz_C z = some (3, 3, 0, 0)) (ez_gr σ 2 h 0) := tz_gr hT hk (tf_2_0 (p := p))
theorem tg_2_1 (hT : tp p σ) (hk : tz_C h = some (3, 2, 0, 0)) : tz_O (fun z => tz_C z = some (3, 7, 0, 0)) (ez_gr σ 2 h 1) := tz_gr hT hk (tf_2_1 (p := p))
theorem tg_2_2 (hT : tp p σ) (hk : tz_C h = some (3, 2, 0, 0)) : tz_O (fun z => tz_C z = some (0, 1, 6, 0)) (ez_gr σ 2 h 2) := tz_gr hT hk (tf_2_2 (p := p))
theorem tg_2_3 (hT : tp p σ) (hk : tz_C h = some (3, 2, 0, 0)) : tz_O (fun z => tz_C z = some (0, 1, 4, 0)) (ez_gr σ 2 h 3) := tz_gr hT hk (tf_2_3 (p := p))
theorem tg_2_4 (hT : tp p σ) (hk : tz_C h = some (3, 2, 0, 0)) : tz_O (fun z => tz_C z = some (0, 1, 6, 0)) (ez_gr σ 2 h 4) := tz_gr hT hk (tf_2_4 (p := p))
theorem tg_2_5 (hT : tp p σ) (hk : tz_C h = some (3, 2, 0, 0)) : tz_O (tq_iv (-2147483648) 2147483647) (ez_gi σ 2 h 5) := tz_gi hT hk (tf_2_5 (p := p))
theorem tw_2_5 (hT : tp p σ) (hk : tz_C h = some (3, 2, 0, 0)) (hx : tq_iv (-2147483648) 2147483647 x) : tz_O (tp p) (ez_pf σ 2 h 5 (.inl x)) := tz_pfi hT hk (tf_2_5 (p := p)) hx
theorem tg_3_0 (hT : tp p σ) (hk : tz_C h = some (3, 3, 0, 0)) : tz_O (fun z => tz_C z = some (3, 6, 0, 0)) (ez_gr σ 3 h 0) := tz_gr hT hk (tf_3_0 (p := p))
theorem tg_3_1 (hT : tp p σ) (hk : tz_C h = some (3, 3, 0, 0)) : tz_O (fun z => tz_C z = some (3, 0, 0, 0)) (ez_gr σ 3 h 1) := tz_gr hT hk (tf_3_1 (p := p))
theorem tg_3_2 (hT : tp p σ) (hk : tz_C h = some (3, 3, 0, 0)) : tz_O (fun z => tz_C z = some (3, 7, 0, 0)) (ez_gr σ 3 h 2) := tz_gr hT hk (tf_3_2 (p := p))
theorem tg_3_3 (hT : tp p σ) (hk : tz_C h = some (3, 3, 0, 0)) : tz_O (tq_iv 0 8) (ez_gi σ 3 h 3) := tz_gi hT hk (tf_3_3 (p := p))
theorem tw_3_3 (hT : tp p σ) (hk : tz_C h = some (3, 3, 0, 0)) (hx : tq_iv 0 8 x) : tz_O (tp p) (ez_pf σ 3 h 3 (.inl x)) := tz_pfi hT hk (tf_3_3 (p := p)) hx
theorem tg_3_4 (hT : tp p σ) (hk : tz_C h = some (3, 3, 0, 0)) : tz_O (tq_iv (-2147483648) 2147483647) (ez_gi σ 3 h 4) := tz_gi hT hk (tf_3_4 (p := p))
theorem tw_3_4 (hT : tp p σ) (hk : tz_C h = some (3, 3, 0, 0)) (hx : tq_iv (-2147483648) 2147483647 x) : tz_O (tp p) (ez_pf σ 3 h 4 (.inl x)) := tz_pfi hT hk (tf_3_4 (p := p)) hx
theorem tg_3_5 (hT : tp p σ) (hk : tz_C h = some (3, 3, 0, 0)) : tz_O (tq_iv (-2147483648) 2147483647) (ez_gi σ 3 h 5) := tz_gi hT hk (tf_3_5 (p := p))
theorem tw_3_5 (hT : tp p σ) (hk : tz_C h = some (3, 3, 0, 0)) (hx : tq_iv (-2147483648) 2147483647 x) : tz_O (tp p) (ez_pf σ 3 h 5 (.inl x)) := tz_pfi hT hk (tf_3_5 (p := p)) hx
theorem tg_3_6 (hT : tp p σ) (hk : tz_C h = some (3, 3, 0, 0)) : tz_O (tq_iv (-2147483648) 2147483647) (ez_gi σ 3 h 6) := tz_gi hT hk (tf_3_6 (p := p))
theorem tw_3_6 (hT : tp p σ) (hk : tz_C h = some (3, 3, 0, 0)) (hx : tq_iv (-2147483648) 2147483647 x) : tz_O (tp p) (ez_pf σ 3 h 6 (.inl x)) := tz_pfi hT hk (tf_3_6 (p := p)) hx
theorem tg_3_7 (hT : tp p σ) (hk : tz_C h = some (3, 3, 0, 0)) : tz_O (tq_iv (-2147483648) 2147483647) (ez_gi σ 3 h 7) := tz_gi hT hk (tf_3_7 (p := p))
theorem tw_3_7 (hT : tp p σ) (hk : tz_C h = some (3, 3, 0, 0)) (hx : tq_iv (-2147483648) 2147483647 x) : tz_O (tp p) (ez_pf σ 3 h 7 (.inl x)) := tz_pfi hT hk (tf_3_7 (p := p)) hx
theorem tg_3_8 (hT : tp p σ) (hk : tz_C h = some (3, 3, 0, 0)) : tz_O (fun z => tz_C z = some (0, 1, 8, 0)) (ez_gr σ 3 h 8) := tz_gr hT hk (tf_3_8 (p := p))
theorem tg_3_9 (hT : tp p σ) (hk : tz_C h = some (3, 3, 0, 0)) : tz_O (fun z => tz_C z = some (0, 1, 8, 0)) (ez_gr σ 3 h 9) := tz_gr hT hk (tf_3_9 (p := p))
theorem tg_3_10 (hT : tp p σ) (hk : tz_C h = some (3, 3, 0, 0)) : tz_O (fun z => tz_C z = some (0, 1, 8, 0)) (ez_gr σ 3 h 10) := tz_gr hT hk (tf_3_10 (p := p))
theorem tg_3_11 (hT : tp p σ) (hk : tz_C h = some (3, 3, 0, 0)) : tz_O (fun z => tz_C z = some (0, 1, 6, 0)) (ez_gr σ 3 h 11) := tz_gr hT hk (tf_3_11 (p := p))
theorem tg_3_12 (hT : tp p σ) (hk : tz_C h = some (3, 3, 0, 0)) : tz_O (fun z => tz_C z = some (0, 1, 6, 0)) (ez_gr σ 3 h 12) := tz_gr hT hk (tf_3_12 (p := p))
theorem tg_4_0 (hT : tp p σ) (hk : tz_C h = some (3, 4, 0, 0)) : tz_O (fun z => tz_C z = some (3, 3, 0, 0)) (ez_gr σ 4 h 0) := tz_gr hT hk (tf_4_0 (p := p))
theorem tg_4_1 (hT : tp p σ) (hk : tz_C h = some (3, 4, 0, 0)) : tz_O (tq_iv (-2147483648) 2147483647) (ez_gi σ 4 h 1) := tz_gi hT hk (tf_4_1 (p := p))
theorem tw_4_1 (hT : tp p σ) (hk : tz_C h = some (3, 4, 0, 0)) (hx : tq_iv (-2147483648) 2147483647 x) : tz_O (tp p) (ez_pf σ 4 h 1 (.inl x)) := tz_pfi hT hk (tf_4_1 (p := p)) hx
theorem tg_4_2 (hT : tp p σ) (hk : tz_C h = some (3, 4, 0, 0)) : tz_O (tq_iv (-2147483648) 2147483647) (ez_gi σ 4 h 2) := tz_gi hT hk (tf_4_2 (p := p))
theorem tw_4_2 (hT : tp p σ) (hk : tz_C h = some (3, 4, 0, 0)) (hx : tq_iv (-2147483648) 2147483647 x) : tz_O (tp p) (ez_pf σ 4 h 2 (.inl x)) := tz_pfi hT hk (tf_4_2 (p := p)) hx
theorem tg_4_3 (hT : tp p σ) (hk : tz_C h = some (3, 4, 0, 0)) : tz_O (fun z => tz_C z = some (3, 9, 0, 0)) (ez_gr σ 4 h 3) := tz_gr hT hk (tf_4_3 (p := p))
theorem tg_4_4 (hT : tp p σ) (hk : tz_C h = some (3, 4, 0, 0)) : tz_O (fun z => tz_C z = some (2, 5, 5, 1)) (ez_gr σ 4 h 4) := tz_gr hT hk (tf_4_4 (p := p))
theorem tg_4_5 (hT : tp p σ) (hk : tz_C h = some (3, 4, 0, 0)) : tz_O (tq_iv (-2147483648) 2147483647) (ez_gi σ 4 h 5) := tz_gi hT hk (tf_4_5 (p := p))
theorem tw_4_5 (hT : tp p σ) (hk : tz_C h = some (3, 4, 0, 0)) (hx : tq_iv (-2147483648) 2147483647 x) : tz_O (tp p) (ez_pf σ 4 h 5 (.inl x)) := tz_pfi hT hk (tf_4_5 (p := p)) hx
theorem tg_5_0 (hT : tp p σ) (hk : tz_C h = some (3, 5, 0, 0)) : tz_O (fun z => tz_C z = some (3, 3, 0, 0)) (ez_gr σ 5 h 0) := tz_gr hT hk (tf_5_0 (p := p))
theorem tg_5_1 (hT : tp p σ) (hk : tz_C h = some (3, 5, 0, 0)) : tz_O (fun z => tz_C z = some (3, 7, 0, 0)) (ez_gr σ 5 h 1) := tz_gr hT hk (tf_5_1 (p := p))
theorem tg_5_2 (hT : tp p σ) (hk : tz_C h = some (3, 5, 0, 0)) : tz_O (fun z => tz_C z = some (3, 6, 0, 0)) (ez_gr σ 5 h 2) := tz_gr hT hk (tf_5_2 (p := p))
theorem tg_5_3 (hT : tp p σ) (hk : tz_C h = some (3, 5, 0, 0)) : tz_O (fun z => tz_C z = some (0, 1, 48, 0)) (ez_gr σ 5 h 3) := tz_gr hT hk (tf_5_3 (p := p))
theorem tg_5_4 (hT : tp p σ) (hk : tz_C h = some (3, 5, 0, 0)) : tz_O (tq_iv (-2147483648) 2147483647) (ez_gi σ 5 h 4) := tz_gi hT hk (tf_5_4 (p := p))
theorem tw_5_4 (hT : tp p σ) (hk : tz_C h = some (3, 5, 0, 0)) (hx : tq_iv (-2147483648) 2147483647 x) : tz_O (tp p) (ez_pf σ 5 h 4 (.inl x)) := tz_pfi hT hk (tf_5_4 (p := p)) hx
theorem tg_6_0 (hT : tp p σ) (hk : tz_C h = some (3, 6, 0, 0)) : tz_O (tq_iv 0 999) (ez_gi σ 6 h 0) := tz_gi hT hk (tf_6_0 (p := p))
theorem tw_6_0 (hT : tp p σ) (hk : tz_C h = some (3, 6, 0, 0)) (hx : tq_iv 0 999 x) : tz_O (tp p) (ez_pf σ 6 h 0 (.inl x)) := tz_pfi hT hk (tf_6_0 (p := p)) hx
theorem tg_6_1 (hT : tp p σ) (hk : tz_C h = some (3, 6, 0, 0)) : tz_O (tq_iv 0 999) (ez_gi σ 6 h 1) := tz_gi hT hk (tf_6_1 (p := p))
theorem tw_6_1 (hT : tp p σ) (hk : tz_C h = some (3, 6, 0, 0)) (hx : tq_iv 0 999 x) : tz_O (tp p) (ez_pf σ 6 h 1 (.inl x)) := tz_pfi hT hk (tf_6_1 (p := p)) hx
theorem tg_6_2 (hT : tp p σ) (hk : tz_C h = some (3, 6, 0, 0)) : tz_O (tq_iv 0 999) (ez_gi σ 6 h 2) := tz_gi hT hk (tf_6_2 (p := p))
theorem tw_6_2 (hT : tp p σ) (hk : tz_C h = some (3, 6, 0, 0)) (hx : tq_iv 0 999 x) : tz_O (tp p) (ez_pf σ 6 h 2 (.inl x)) := tz_pfi hT hk (tf_6_2 (p := p)) hx
theorem tg_6_3 (hT : tp p σ) (hk : tz_C h = some (3, 6, 0, 0)) : tz_O (fun z => tz_C z = some (0, 1, 30, 0)) (ez_gr σ 6 h 3) := tz_gr hT hk (tf_6_3 (p := p))
theorem tg_7_0 (hT : tp p σ) (hk : tz_C h = some (3, 7, 0, 0)) : tz_O (fun z => tz_C z = some (0, 1, 35, 0)) (ez_gr σ 7 h 0) := tz_gr hT hk (tf_7_0 (p := p))
theorem tg_8_0 (hT : tp p σ) (hk : tz_C h = some (3, 8, 0, 0)) : tz_O (fun z => tz_C z = some (3, 3, 0, 0)) (ez_gr σ 8 h 0) := tz_gr hT hk (tf_8_0 (p := p))
theorem tg_8_1 (hT : tp p σ) (hk : tz_C h = some (3, 8, 0, 0)) : tz_O (fun z => tz_C z = some (3, 6, 0, 0)) (ez_gr σ 8 h 1) := tz_gr hT hk (tf_8_1 (p := p))
theorem tg_8_2 (hT : tp p σ) (hk : tz_C h = some (3, 8, 0, 0)) : tz_O (fun z => tz_C z = some (0, 1, 10, 0)) (ez_gr σ 8 h 2) := tz_gr hT hk (tf_8_2 (p := p))
theorem tg_8_3 (hT : tp p σ) (hk : tz_C h = some (3, 8, 0, 0)) : tz_O (fun z => tz_C z = some (0, 1, 6, 0)) (ez_gr σ 8 h 3) := tz_gr hT hk (tf_8_3 (p := p))
theorem tg_8_4 (hT : tp p σ) (hk : tz_C h = some (3, 8, 0, 0)) : tz_O (fun z => tz_C z = some (0, 1, 384, 0)) (ez_gr σ 8 h 4) := tz_gr hT hk (tf_8_4 (p := p))
theorem tg_8_5 (hT : tp p σ) (hk : tz_C h = some (3, 8, 0, 0)) : tz_O (fun z => tz_C z = some (0, 1, 384, 0)) (ez_gr σ 8 h 5) := tz_gr hT hk (tf_8_5 (p := p))
theorem tg_8_6 (hT : tp p σ) (hk : tz_C h = some (3, 8, 0, 0)) : tz_O (fun z => tz_C z = some (0, 1, 384, 0)) (ez_gr σ 8 h 6) := tz_gr hT hk (tf_8_6 (p := p))
theorem tg_8_7 (hT : tp p σ) (hk : tz_C h = some (3, 8, 0, 0)) : tz_O (fun z => tz_C z = some (0, 1, 384, 0)) (ez_gr σ 8 h 7) := tz_gr hT hk (tf_8_7 (p := p))
theorem tg_8_8 (hT : tp p σ) (hk : tz_C h = some (3, 8, 0, 0)) : tz_O (fun z => tz_C z = some (0, 1, 384, 0)) (ez_gr σ 8 h 8) := tz_gr hT hk (tf_8_8 (p := p))
theorem tg_8_9 (hT : tp p σ) (hk : tz_C h = some (3, 8, 0, 0)) : tz_O (fun z => tz_C z = some (0, 1, 384, 0)) (ez_gr σ 8 h 9) := tz_gr hT hk (tf_8_9 (p := p))
theorem tg_8_10 (hT : tp p σ) (hk : tz_C h = some (3, 8, 0, 0)) : tz_O (fun z => tz_C z = some (0, 1, 64, 0)) (ez_gr σ 8 h 10) := tz_gr hT hk (tf_8_10 (p := p))
theorem tg_8_11 (hT : tp p σ) (hk : tz_C h = some (3, 8, 0, 0)) : tz_O (fun z => tz_C z = some (0, 1, 64, 0)) (ez_gr σ 8 h 11) := tz_gr hT hk (tf_8_11 (p := p))
theorem tg_8_12 (hT : tp p σ) (hk : tz_C h = some (3, 8, 0, 0)) : tz_O (fun z => tz_C z = some (0, 1, 64, 0)) (ez_gr σ 8 h 12) := tz_gr hT hk (tf_8_12 (p := p))
theorem tg_9_0 (hT : tp p σ) (hk : tz_C h = some (3, 9, 0, 0)) : tz_O (fun z => tz_C z = some (0, 0, 1600, 1)) (ez_gr σ 9 h 0) := tz_gr hT hk (tf_9_0 (p := p))
theorem tg_9_1 (hT : tp p σ) (hk : tz_C h = some (3, 9, 0, 0)) : tz_O (fun z => tz_C z = some (1, 0, 23, 0)) (ez_gr σ 9 h 1) := tz_gr hT hk (tf_9_1 (p := p))
theorem tg_9_2 (hT : tp p σ) (hk : tz_C h = some (3, 9, 0, 0)) : tz_O (tq_iv (-2147483648) 2147483647) (ez_gi σ 9 h 2) := tz_gi hT hk (tf_9_2 (p := p))
theorem tw_9_2 (hT : tp p σ) (hk : tz_C h = some (3, 9, 0, 0)) (hx : tq_iv (-2147483648) 2147483647 x) : tz_O (tp p) (ez_pf σ 9 h 2 (.inl x)) := tz_pfi hT hk (tf_9_2 (p := p)) hx
theorem tg_9_3 (hT : tp p σ) (hk : tz_C h = some (3, 9, 0, 0)) : tz_O (tq_iv (-2147483648) 2147483647) (ez_gi σ 9 h 3) := tz_gi hT hk (tf_9_3 (p := p))
theorem tw_9_3 (hT : tp p σ) (hk : tz_C h = some (3, 9, 0, 0)) (hx : tq_iv (-2147483648) 2147483647 x) : tz_O (tp p) (ez_pf σ 9 h 3 (.inl x)) := tz_pfi hT hk (tf_9_3 (p := p)) hx
theorem tg_9_4 (hT : tp p σ) (hk : tz_C h = some (3, 9, 0, 0)) : tz_O (tq_iv (-2147483648) 2147483647) (ez_gi σ 9 h 4) := tz_gi hT hk (tf_9_4 (p := p))
theorem tw_9_4 (hT : tp p σ) (hk : tz_C h = some (3, 9, 0, 0)) (hx : tq_iv (-2147483648) 2147483647 x) : tz_O (tp p) (ez_pf σ 9 h 4 (.inl x)) := tz_pfi hT hk (tf_9_4 (p := p)) hx
theorem tg_9_5 (hT : tp p σ) (hk : tz_C h = some (3, 9, 0, 0)) : tz_O (tq_iv (-2147483648) 2147483647) (ez_gi σ 9 h 5) := tz_gi hT hk (tf_9_5 (p := p))
theorem tw_9_5 (hT : tp p σ) (hk : tz_C h = some (3, 9, 0, 0)) (hx : tq_iv (-2147483648) 2147483647 x) : tz_O (tp p) (ez_pf σ 9 h 5 (.inl x)) := tz_pfi hT hk (tf_9_5 (p := p)) hx
theorem tg_9_6 (hT : tp p σ) (hk : tz_C h = some (3, 9, 0, 0)) : tz_O (tq_iv (-2147483648) 2147483647) (ez_gi σ 9 h 6) := tz_gi hT hk (tf_9_6 (p := p))
theorem tw_9_6 (hT : tp p σ) (hk : tz_C h = some (3, 9, 0, 0)) (hx : tq_iv (-2147483648) 2147483647 x) : tz_O (tp p) (ez_pf σ 9 h 6 (.inl x)) := tz_pfi hT hk (tf_9_6 (p := p)) hx
theorem tg_9_7 (hT : tp p σ) (hk : tz_C h = some (3, 9, 0, 0)) : tz_O (fun _ => True) (ez_gl σ 9 h 7) := tz_gl hT hk (tf_9_7 (p := p))
theorem tg_10_0 (hT : tp p σ) (hk : tz_C h = some (3, 10, 0, 0)) : tz_O (fun z => tz_C z = some (0, 1, 30, 0)) (ez_gr σ 10 h 0) := tz_gr hT hk (tf_10_0 (p := p))
theorem tg_10_1 (hT : tp p σ) (hk : tz_C h = some (3, 10, 0, 0)) : tz_O (fun z => tz_C z = some (0, 3, 30, 2)) (ez_gr σ 10 h 1) := tz_gr hT hk (tf_10_1 (p := p))
theorem tg_10_2 (hT : tp p σ) (hk : tz_C h = some (3, 10, 0, 0)) : tz_O (fun z => tz_C z = some (0, 1, 30, 0)) (ez_gr σ 10 h 2) := tz_gr hT hk (tf_10_2 (p := p))
theorem tg_10_3 (hT : tp p σ) (hk : tz_C h = some (3, 10, 0, 0)) : tz_O (fun z => tz_C z = some (0, 1, 30, 0)) (ez_gr σ 10 h 3) := tz_gr hT hk (tf_10_3 (p := p))
theorem tg_10_4 (hT : tp p σ) (hk : tz_C h = some (3, 10, 0, 0)) : tz_O (tq_iv (-2147483648) 2147483647) (ez_gi σ 10 h 4) := tz_gi hT hk (tf_10_4 (p := p))
theorem tw_10_4 (hT : tp p σ) (hk : tz_C h = some (3, 10, 0, 0)) (hx : tq_iv (-2147483648) 2147483647 x) : tz_O (tp p) (ez_pf σ 10 h 4 (.inl x)) := tz_pfi hT hk (tf_10_4 (p := p)) hx
theorem tg_10_5 (hT : tp p σ) (hk : tz_C h = some (3, 10, 0, 0)) : tz_O (tq_iv 0 100000) (ez_gi σ 10 h 5) := tz_imp (tz_gi hT hk (tf_10_5 (p := p))) (fun _ q => tq_w q ((hT.1.1).1) (hT.1.1).2)
theorem tg_11_0 (hT : tp p σ) (hk : tz_C h = some (3, 11, 0, 0)) : tz_O (fun z => tz_C z = some (0, 0, 1600, 1)) (ez_gr σ 11 h 0) := tz_gr hT hk (tf_11_0 (p := p))
theorem tg_11_1 (hT : tp p σ) (hk : tz_C h = some (3, 11, 0, 0)) : tz_O (tq_iv (-2147483648) 2147483647) (ez_gi σ 11 h 1) := tz_gi hT hk (tf_11_1 (p := p))
theorem tw_11_1 (hT : tp p σ) (hk : tz_C h = some (3, 11, 0, 0)) (hx : tq_iv (-2147483648) 2147483647 x) : tz_O (tp p) (ez_pf σ 11 h 1 (.inl x)) := tz_pfi hT hk (tf_11_1 (p := p)) hx
theorem tg_11_2 (hT : tp p σ) (hk : tz_C h = some (3, 11, 0, 0)) : tz_O (fun z => tz_C z = some (3, 4, 0, 0)) (ez_gr σ 11 h 2) := tz_gr hT hk (tf_11_2 (p := p))
theorem tg_11_3 (hT : tp p σ) (hk : tz_C h = some (3, 11, 0, 0)) : tz_O (fun z => tz_C z = some (3, 3, 0, 0)) (ez_gr σ 11 h 3) := tz_gr hT hk (tf_11_3 (p := p))
theorem tg_11_4 (hT : tp p σ) (hk : tz_C h = some (3, 11, 0, 0)) : tz_O (fun z => tz_C z = some (3, 6, 0, 0)) (ez_gr σ 11 h 4) := tz_gr hT hk (tf_11_4 (p := p))
theorem tg_11_5 (hT : tp p σ) (hk : tz_C h = some (3, 11, 0, 0)) : tz_O (fun z => tz_C z = some (3, 7, 0, 0)) (ez_gr σ 11 h 5) := tz_gr hT hk (tf_11_5 (p := p))
theorem tg_11_6 (hT : tp p σ) (hk : tz_C h = some (3, 11, 0, 0)) : tz_O (fun z => tz_C z = some (3, 7, 0, 0)) (ez_gr σ 11 h 6) := tz_gr hT hk (tf_11_6 (p := p))
theorem tg_11_7 (hT : tp p σ) (hk : tz_C h = some (3, 11, 0, 0)) : tz_O (fun z => tz_C z = some (3, 1, 0, 0)) (ez_gr σ 11 h 7) := tz_gr hT hk (tf_11_7 (p := p))
theorem tg_11_8 (hT : tp p σ) (hk : tz_C h = some (3, 11, 0, 0)) : tz_O (fun z => tz_C z = some (2, 4, 3, 0)) (ez_gr σ 11 h 8) := tz_gr hT hk (tf_11_8 (p := p))
theorem tg_11_9 (hT : tp p σ) (hk : tz_C h = some (3, 11, 0, 0)) : tz_O (tq_iv (-2147483648) 2147483647) (ez_gi σ 11 h 9) := tz_gi hT hk (tf_11_9 (p := p))
theorem tw_11_9 (hT : tp p σ) (hk : tz_C h = some (3, 11, 0, 0)) (hx : tq_iv (-2147483648) 2147483647 x) : tz_O (tp p) (ez_pf σ 11 h 9 (.inl x)) := tz_pfi hT hk (tf_11_9 (p := p)) hx
theorem tg_11_10 (hT : tp p σ) (hk : tz_C h = some (3, 11, 0, 0)) : tz_O (fun z => tz_C z = some (3, 8, 0, 0)) (ez_gr σ 11 h 10) := tz_gr hT hk (tf_11_10 (p := p))
theorem tg_11_11 (hT : tp p σ) (hk : tz_C h = some (3, 11, 0, 0)) : tz_O (fun z => tz_C z = some (3, 8, 0, 0)) (ez_gr σ 11 h 11) := tz_gr hT hk (tf_11_11 (p := p))
theorem tg_11_12 (hT : tp p σ) (hk : tz_C h = some (3, 11, 0, 0)) : tz_O (fun z => tz_C z = some (3, 2, 0, 0)) (ez_gr σ 11 h 12) := tz_gr hT hk (tf_11_12 (p := p))
theorem tg_11_13 (hT : tp p σ) (hk : tz_C h = some (3, 11, 0, 0)) : tz_O (fun z => tz_C z = some (3, 5, 0, 0)) (ez_gr σ 11 h 13) := tz_gr hT hk (tf_11_13 (p := p))
theorem tg_11_14 (hT : tp p σ) (hk : tz_C h = some (3, 11, 0, 0)) : tz_O (fun z => tz_C z = some (3, 10, 0, 0)) (ez_gr σ 11 h 14) := tz_gr hT hk (tf_11_14 (p := p))
theorem tg_11_15 (hT : tp p σ) (hk : tz_C h = some (3, 11, 0, 0)) : tz_O (fun z => tz_C z = some (0, 1, 60, 0)) (ez_gr σ 11 h 15) := tz_gr hT hk (tf_11_15 (p := p))
theorem tr_0 (hT : tp p σ) (hk : tz_C h = some (3, 12, 0, 0)) : ez_gr σ 12 h 0 = some 171 := tz_grx (r := 171) hT hk (tf_12_0 (p := p)) (by decide)
theorem tr_1 (hT : tp p σ) (hk : tz_C h = some (3, 12, 0, 0)) : ez_gr σ 12 h 1 = some 172 := tz_grx (r := 172) hT hk (tf_12_1 (p := p)) (by decide)
theorem tg_12_2 (hT : tp p σ) (hk : tz_C h = some (3, 12, 0, 0)) : tz_O (tq_iv 0 1600) (ez_gi σ 12 h 2) := tz_gi hT hk (tf_12_2 (p := p))
theorem tw_12_2 (hT : tp p σ) (hk : tz_C h = some (3, 12, 0, 0)) (hx : tq_iv 0 1600 x) : tz_O (tp p) (ez_pf σ 12 h 2 (.inl x)) := tz_pfi hT hk (tf_12_2 (p := p)) hx
theorem tg_12_3 (hT : tp p σ) (hk : tz_C h = some (3, 12, 0, 0)) : tz_O (tq_iv 0 1600) (ez_gi σ 12 h 3) := tz_gi hT hk (tf_12_3 (p := p))
theorem tw_12_3 (hT : tp p σ) (hk : tz_C h = some (3, 12, 0, 0)) (hx : tq_iv 0 1600 x) : tz_O (tp p) (ez_pf σ 12 h 3 (.inl x)) := tz_pfi hT hk (tf_12_3 (p := p)) hx
theorem tg_12_4 (hT : tp p σ) (hk : tz_C h = some (3, 12, 0, 0)) : tz_O (tq_iv (-2147483648) 2147483647) (ez_gi σ 12 h 4) := tz_gi hT hk (tf_12_4 (p := p))
theorem tw_12_4 (hT : tp p σ) (hk : tz_C h = some (3, 12, 0, 0)) (hx : tq_iv (-2147483648) 2147483647 x) : tz_O (tp p) (ez_pf σ 12 h 4 (.inl x)) := tz_pfi hT hk (tf_12_4 (p := p)) hx
theorem tg_12_5 (hT : tp p σ) (hk : tz_C h = some (3, 12, 0, 0)) : tz_O (tq_iv (-2147483648) 2147483647) (ez_gi σ 12 h 5) := tz_gi hT hk (tf_12_5 (p := p))
theorem tw_12_5 (hT : tp p σ) (hk : tz_C h = some (3, 12, 0, 0)) (hx : tq_iv (-2147483648) 2147483647 x) : tz_O (tp p) (ez_pf σ 12 h 5 (.inl x)) := tz_pfi hT hk (tf_12_5 (p := p)) hx
theorem tg_12_6 (hT : tp p σ) (hk : tz_C h = some (3, 12, 0, 0)) : tz_O (tq_iv 0 1601) (ez_gi σ 12 h 6) := tz_gi hT hk (tf_12_6 (p := p))
theorem tw_12_6 (hT : tp p σ) (hk : tz_C h = some (3, 12, 0, 0)) (hx : tq_iv 0 1601 x) : tz_O (tp p) (ez_pf σ 12 h 6 (.inl x)) := tz_pfi hT hk (tf_12_6 (p := p)) hx
theorem tg_12_7 (hT : tp p σ) (hk : tz_C h = some (3, 12, 0, 0)) : tz_O (tq_iv 0 1601) (ez_gi σ 12 h 7) := tz_gi hT hk (tf_12_7 (p := p))
theorem tw_12_7 (hT : tp p σ) (hk : tz_C h = some (3, 12, 0, 0)) (hx : tq_iv 0 1601 x) : tz_O (tp p) (ez_pf σ 12 h 7 (.inl x)) := tz_pfi hT hk (tf_12_7 (p := p)) hx
theorem tg_12_8 (hT : tp p σ) (hk : tz_C h = some (3, 12, 0, 0)) : tz_O (tq_iv 0 5) (ez_gi σ 12 h 8) := tz_gi hT hk (tf_12_8 (p := p))
theorem tw_12_8 (hT : tp p σ) (hk : tz_C h = some (3, 12, 0, 0)) (hx : tq_iv 0 5 x) : tz_O (tp p) (ez_pf σ 12 h 8 (.inl x)) := tz_pfi hT hk (tf_12_8 (p := p)) hx
theorem tg_12_9 (hT : tp p σ) (hk : tz_C h = some (3, 12, 0, 0)) : tz_O (tq_iv 0 9999) (ez_gi σ 12 h 9) := tz_gi hT hk (tf_12_9 (p := p))
theorem tw_12_9 (hT : tp p σ) (hk : tz_C h = some (3, 12, 0, 0)) (hx : tq_iv 0 9999 x) : tz_O (tp p) (ez_pf σ 12 h 9 (.inl x)) := tz_pfi hT hk (tf_12_9 (p := p)) hx
theorem tg_12_10 (hT : tp p σ) (hk : tz_C h = some (3, 12, 0, 0)) : tz_O (fun _ => True) (ez_gl σ 12 h 10) := tz_gl hT hk (tf_12_10 (p := p))
theorem tr_11 (hT : tp p σ) (hk : tz_C h = some (3, 12, 0, 0)) : ez_gr σ 12 h 11 = some 173 := tz_grx (r := 173) hT hk (tf_12_11 (p := p)) (by decide)
theorem tr_12 (hT : tp p σ) (hk : tz_C h = some (3, 12, 0, 0)) : ez_gr σ 12 h 12 = some 174 := tz_grx (r := 174) hT hk (tf_12_12 (p := p)) (by decide)
theorem tr_13 (hT : tp p σ) (hk : tz_C h = some (3, 12, 0, 0)) : ez_gr σ 12 h 13 = some 175 := tz_grx (r := 175) hT hk (tf_12_13 (p := p)) (by decide)
theorem tr_14 (hT : tp p σ) (hk : tz_C h = some (3, 12, 0, 0)) : ez_gr σ 12 h 14 = some 176 := tz_grx (r := 176) hT hk (tf_12_14 (p := p)) (by decide)
theorem tr_15 (hT : tp p σ) (hk : tz_C h = some (3, 12, 0, 0)) : ez_gr σ 12 h 15 = some 177 := tz_grx (r := 177) hT hk (tf_12_15 (p := p)) (by decide)
theorem tr_16 (hT : tp p σ) (hk : tz_C h = some (3, 12, 0, 0)) : ez_gr σ 12 h 16 = some 178 := tz_grx (r := 178) hT hk (tf_12_16 (p := p)) (by decide)
theorem tr_17 (hT : tp p σ) (hk : tz_C h = some (3, 12, 0, 0)) : ez_gr σ 12 h 17 = some 179 := tz_grx (r := 179) hT hk (tf_12_17 (p := p)) (by decide)
theorem tr_18 (hT : tp p σ) (hk : tz_C h = some (3, 12, 0, 0)) : ez_gr σ 12 h 18 = some 180 := tz_grx (r := 180) hT hk (tf_12_18 (p := p)) (by decide)
theorem tr_19 (hT : tp p σ) (hk : tz_C h = some (3, 12, 0, 0)) : ez_gr σ 12 h 19 = some 181 := tz_grx (r := 181) hT hk (tf_12_19 (p := p)) (by decide)
theorem tr_20 (hT : tp p σ) (hk : tz_C h = some (3, 12, 0, 0)) : ez_gr σ 12 h 20 = some 182 := tz_grx (r := 182) hT hk (tf_12_20 (p := p)) (by decide)
theorem tr_21 (hT : tp p σ) (hk : tz_C h = some (3, 12, 0, 0)) : ez_gr σ 12 h 21 = some 183 := tz_grx (r := 183) hT hk (tf_12_21 (p := p)) (by decide)
theorem tr_22 (hT : tp p σ) (hk : tz_C h = some (3, 12, 0, 0)) : ez_gr σ 12 h 22 = some 184 := tz_grx (r := 184) hT hk (tf_12_22 (p := p)) (by decide)
theorem tr_23 (hT : tp p σ) (hk : tz_C h = some (3, 12, 0, 0)) : ez_gr σ 12 h 23 = some 185 := tz_grx (r := 185) hT hk (tf_12_23 (p := p)) (by decide)
theorem tr_24 (hT : tp p σ) (hk : tz_C h = some (3, 12, 0, 0)) : ez_gr σ 12 h 24 = some 186 := tz_grx (r := 186) hT hk (tf_12_24 (p := p)) (by decide)
theorem tr_25 (hT : tp p σ) (hk : tz_C h = some (3, 12, 0, 0)) : ez_gr σ 12 h 25 = some 187 := tz_grx (r := 187) hT hk (tf_12_25 (p := p)) (by decide)
theorem tr_26 (hT : tp p σ) (hk : tz_C h = some (3, 12, 0, 0)) : ez_gr σ 12 h 26 = some 188 := tz_grx (r := 188) hT hk (tf_12_26 (p := p)) (by decide)
theorem tr_27 (hT : tp p σ) (hk : tz_C h = some (3, 12, 0, 0)) : ez_gr σ 12 h 27 = some 189 := tz_grx (r := 189) hT hk (tf_12_27 (p := p)) (by decide)
theorem tr_28 (hT : tp p σ) (hk : tz_C h = some (3, 12, 0, 0)) : ez_gr σ 12 h 28 = some 190 := tz_grx (r := 190) hT hk (tf_12_28 (p := p)) (by decide)
theorem tr_29 (hT : tp p σ) (hk : tz_C h = some (3, 12, 0, 0)) : ez_gr σ 12 h 29 = some 191 := tz_grx (r := 191) hT hk (tf_12_29 (p := p)) (by decide)
theorem tr_30 (hT : tp p σ) (hk : tz_C h = some (3, 12, 0, 0)) : ez_gr σ 12 h 30 = some 192 := tz_grx (r := 192) hT hk (tf_12_30 (p := p)) (by decide)
theorem tr_31 (hT : tp p σ) (hk : tz_C h = some (3, 12, 0, 0)) : ez_gr σ 12 h 31 = some 193 := tz_grx (r := 193) hT hk (tf_12_31 (p := p)) (by decide)
theorem tr_32 (hT : tp p σ) (hk : tz_C h = some (3, 12, 0, 0)) : ez_gr σ 12 h 32 = some 194 := tz_grx (r := 194) hT hk (tf_12_32 (p := p)) (by decide)
theorem tr_33 (hT : tp p σ) (hk : tz_C h = some (3, 12, 0, 0)) : ez_gr σ 12 h 33 = some 195 := tz_grx (r := 195) hT hk (tf_12_33 (p := p)) (by decide)
theorem tr_34 (hT : tp p σ) (hk : tz_C h = some (3, 12, 0, 0)) : ez_gr σ 12 h 34 = some 196 := tz_grx (r := 196) hT hk (tf_12_34 (p := p)) (by decide)
theorem tr_35 (hT : tp p σ) (hk : tz_C h = some (3, 12, 0, 0)) : ez_gr σ 12 h 35 = some 197 := tz_grx (r := 197) hT hk (tf_12_35 (p := p)) (by decide)
theorem tr_36 (hT : tp p σ) (hk : tz_C h = some (3, 12, 0, 0)) : ez_gr σ 12 h 36 = some 198 := tz_grx (r := 198) hT hk (tf_12_36 (p := p)) (by decide)
theorem tr_37 (hT : tp p σ) (hk : tz_C h = some (3, 12, 0, 0)) : ez_gr σ 12 h 37 = some 199 := tz_grx (r := 199) hT hk (tf_12_37 (p := p)) (by decide)
theorem tr_38 (hT : tp p σ) (hk : tz_C h = some (3, 12, 0, 0)) : ez_gr σ 12 h 38 = some 200 := tz_grx (r := 200) hT hk (tf_12_38 (p := p)) (by decide)
theorem tr_39 (hT : tp p σ) (hk : tz_C h = some (3, 12, 0, 0)) : ez_gr σ 12 h 39 = some 201 := tz_grx (r := 201) hT hk (tf_12_39 (p := p)) (by decide)
theorem tr_40 (hT : tp p σ) (hk : tz_C h = some (3, 12, 0, 0)) : ez_gr σ 12 h 40 = some 202 := tz_grx (r := 202) hT hk (tf_12_40 (p := p)) (by decide)
theorem tr_41 (hT : tp p σ) (hk : tz_C h = some (3, 12, 0, 0)) : ez_gr σ 12 h 41 = some 203 := tz_grx (r := 203) hT hk (tf_12_41 (p := p)) (by decide)
theorem tr_42 (hT : tp p σ) (hk : tz_C h = some (3, 12, 0, 0)) : ez_gr σ 12 h 42 = some 204 := tz_grx (r := 204) hT hk (tf_12_42 (p := p)) (by decide)
theorem tg_12_43 (hT : tp p σ) (hk : tz_C h = some (3, 12, 0, 0)) : tz_O (tq_iv 0 1) (ez_gi σ 12 h 43) := tz_imp (tz_gi hT hk (tf_12_43 (p := p))) (fun _ q => tq_w q ((gh_b hT.1).1) (gh_b hT.1).2)
theorem tg_12_44 (hT : tp p σ) (hk : tz_C h = some (3, 12, 0, 0)) : tz_O (tq_iv 0 1) (ez_gi σ 12 h 44) := tz_imp (tz_gi hT hk (tf_12_44 (p := p))) (fun _ q => tq_w q ((gh_r hT.1).1) (gh_r hT.1).2)
theorem tg_12_45 (hT : tp p σ) (hk : tz_C h = some (3, 12, 0, 0)) : tz_O (tq_iv (-2147483648) 2147483647) (ez_gi σ 12 h 45) := tz_gi hT hk (tf_12_45 (p := p))
theorem tw_12_45 (hT : tp p σ) (hk : tz_C h = some (3, 12, 0, 0)) (hx : tq_iv (-2147483648) 2147483647 x) : tz_O (tp p) (ez_pf σ 12 h 45 (.inl x)) := tz_pfi hT hk (tf_12_45 (p := p)) hx
theorem tg_12_46 (hT : tp p σ) (hk : tz_C h = some (3, 12, 0, 0)) : tz_O (tq_iv (-2147483648) 2147483647) (ez_gi σ 12 h 46) := tz_gi hT hk (tf_12_46 (p := p))
theorem tw_12_46 (hT : tp p σ) (hk : tz_C h = some (3, 12, 0, 0)) (hx : tq_iv (-2147483648) 2147483647 x) : tz_O (tp p) (ez_pf σ 12 h 46 (.inl x)) := tz_pfi hT hk (tf_12_46 (p := p)) hx
theorem tg_12_47 (hT : tp p σ) (hk : tz_C h = some (3, 12, 0, 0)) : tz_O (tq_iv (-2147483648) 2147483647) (ez_gi σ 12 h 47) := tz_gi hT hk (tf_12_47 (p := p))
theorem tw_12_47 (hT : tp p σ) (hk : tz_C h = some (3, 12, 0, 0)) (hx : tq_iv (-2147483648) 2147483647 x) : tz_O (tp p) (ez_pf σ 12 h 47 (.inl x)) := tz_pfi hT hk (tf_12_47 (p := p)) hx
theorem tg_12_48 (hT : tp p σ) (hk : tz_C h = some (3, 12, 0, 0)) : tz_O (tq_iv (-2147483648) 2147483647) (ez_gi σ 12 h 48) := tz_gi hT hk (tf_12_48 (p := p))
theorem tw_12_48 (hT : tp p σ) (hk : tz_C h = some (3, 12, 0, 0)) (hx : tq_iv (-2147483648) 2147483647 x) : tz_O (tp p) (ez_pf σ 12 h 48 (.inl x)) := tz_pfi hT hk (tf_12_48 (p := p)) hx
theorem tg_12_49 (hT : tp p σ) (hk : tz_C h = some (3, 12, 0, 0)) : tz_O (tq_iv (-2147483648) 2147483647) (ez_gi σ 12 h 49) := tz_gi hT hk (tf_12_49 (p := p))
theorem tw_12_49 (hT : tp p σ) (hk : tz_C h = some (3, 12, 0, 0)) (hx : tq_iv (-2147483648) 2147483647 x) : tz_O (tp p) (ez_pf σ 12 h 49 (.inl x)) := tz_pfi hT hk (tf_12_49 (p := p)) hx
theorem tg_12_50 (hT : tp p σ) (hk : tz_C h = some (3, 12, 0, 0)) : tz_O (tq_iv (-2147483648) 2147483647) (ez_gi σ 12 h 50) := tz_gi hT hk (tf_12_50 (p := p))
theorem tw_12_50 (hT : tp p σ) (hk : tz_C h = some (3, 12, 0, 0)) (hx : tq_iv (-2147483648) 2147483647 x) : tz_O (tp p) (ez_pf σ 12 h 50 (.inl x)) := tz_pfi hT hk (tf_12_50 (p := p)) hx
theorem tg_12_51 (hT : tp p σ) (hk : tz_C h = some (3, 12, 0, 0)) : tz_O (tq_iv (-2147483648) 2147483647) (ez_gi σ 12 h 51) := tz_gi hT hk (tf_12_51 (p := p))
theorem tw_12_51 (hT : tp p σ) (hk : tz_C h = some (3, 12, 0, 0)) (hx : tq_iv (-2147483648) 2147483647 x) : tz_O (tp p) (ez_pf σ 12 h 51 (.inl x)) := tz_pfi hT hk (tf_12_51 (p := p)) hx
theorem tg_12_52 (hT : tp p σ) (hk : tz_C h = some (3, 12, 0, 0)) : tz_O (tq_iv (-2147483648) 2147483647) (ez_gi σ 12 h 52) := tz_gi hT hk (tf_12_52 (p := p))
theorem tw_12_52 (hT : tp p σ) (hk : tz_C h = some (3, 12, 0, 0)) (hx : tq_iv (-2147483648) 2147483647 x) : tz_O (tp p) (ez_pf σ 12 h 52 (.inl x)) := tz_pfi hT hk (tf_12_52 (p := p)) hx
theorem tr_53 (hT : tp p σ) (hk : tz_C h = some (3, 12, 0, 0)) : ez_gr σ 12 h 53 = some 205 := tz_grx (r := 205) hT hk (tf_12_53 (p := p)) (by decide)
theorem tr_54 (hT : tp p σ) (hk : tz_C h = some (3, 12, 0, 0)) : ez_gr σ 12 h 54 = some 206 := tz_grx (r := 206) hT hk (tf_12_54 (p := p)) (by decide)
theorem tr_55 (hT : tp p σ) (hk : tz_C h = some (3, 12, 0, 0)) : ez_gr σ 12 h 55 = some 207 := tz_grx (r := 207) hT hk (tf_12_55 (p := p)) (by decide)
theorem tr_56 (hT : tp p σ) (hk : tz_C h = some (3, 12, 0, 0)) : ez_gr σ 12 h 56 = some 208 := tz_grx (r := 208) hT hk (tf_12_56 (p := p)) (by decide)
theorem tg_12_57 (hT : tp p σ) (hk : tz_C h = some (3, 12, 0, 0)) : tz_O (tq_iv 0 6) (ez_gi σ 12 h 57) := tz_gi hT hk (tf_12_57 (p := p))
theorem tw_12_57 (hT : tp p σ) (hk : tz_C h = some (3, 12, 0, 0)) (hx : tq_iv 0 6 x) : tz_O (tp p) (ez_pf σ 12 h 57 (.inl x)) := tz_pfi hT hk (tf_12_57 (p := p)) hx
theorem tr_58 (hT : tp p σ) (hk : tz_C h = some (3, 12, 0, 0)) : ez_gr σ 12 h 58 = some 209 := tz_grx (r := 209) hT hk (tf_12_58 (p := p)) (by decide)
theorem tr_59 (hT : tp p σ) (hk : tz_C h = some (3, 12, 0, 0)) : ez_gr σ 12 h 59 = some 210 := tz_grx (r := 210) hT hk (tf_12_59 (p := p)) (by decide)
theorem tg_12_60 (hT : tp p σ) (hk : tz_C h = some (3, 12, 0, 0)) : tz_O (tq_iv 0 40) (ez_gi σ 12 h 60) := tz_imp (tz_gi hT hk (tf_12_60 (p := p))) (fun _ q => tq_w q (by decide) (hT.1.2.2.2.2.1).2)
theorem tw_12_60 (hT : tp p σ) (hk : tz_C h = some (3, 12, 0, 0)) (hx : tq_iv 0 0 x) : tz_O (tp p) (ez_pf σ 12 h 60 (.inl x)) := tz_pfi hT hk (tf_12_60 (p := p)) (tq_w hx (by decide) (hT.1.2.2.2.2.1).1)
theorem tg_12_61 (hT : tp p σ) (hk : tz_C h = some (3, 12, 0, 0)) : tz_O (tq_iv 0 40) (ez_gi σ 12 h 61) := tz_imp (tz_gi hT hk (tf_12_61 (p := p))) (fun _ q => tq_w q (by decide) (hT.1.2.2.2.2.2.1).2)
theorem tw_12_61 (hT : tp p σ) (hk : tz_C h = some (3, 12, 0, 0)) (hx : tq_iv 0 0 x) : tz_O (tp p) (ez_pf σ 12 h 61 (.inl x)) := tz_pfi hT hk (tf_12_61 (p := p)) (tq_w hx (by decide) (hT.1.2.2.2.2.2.1).1)
theorem tr_62 (hT : tp p σ) (hk : tz_C h = some (3, 12, 0, 0)) : ez_gr σ 12 h 62 = some 211 := tz_grx (r := 211) hT hk (tf_12_62 (p := p)) (by decide)
theorem tr_63 (hT : tp p σ) (hk : tz_C h = some (3, 12, 0, 0)) : ez_gr σ 12 h 63 = some 212 := tz_grx (r := 212) hT hk (tf_12_63 (p := p)) (by decide)
theorem tr_64 (hT : tp p σ) (hk : tz_C h = some (3, 12, 0, 0)) : ez_gr σ 12 h 64 = some 213 := tz_grx (r := 213) hT hk (tf_12_64 (p := p)) (by decide)
theorem tr_65 (hT : tp p σ) (hk : tz_C h = some (3, 12, 0, 0)) : ez_gr σ 12 h 65 = some 214 := tz_grx (r := 214) hT hk (tf_12_65 (p := p)) (by decide)
theorem tg_12_66 (hT : tp p σ) (hk : tz_C h = some (3, 12, 0, 0)) : tz_O (tq_iv 0 30) (ez_gi σ 12 h 66) := tz_gi hT hk (tf_12_66 (p := p))
theorem tw_12_66 (hT : tp p σ) (hk : tz_C h = some (3, 12, 0, 0)) (hx : tq_iv 0 30 x) : tz_O (tp p) (ez_pf σ 12 h 66 (.inl x)) := tz_pfi hT hk (tf_12_66 (p := p)) hx
theorem tg_12_67 (hT : tp p σ) (hk : tz_C h = some (3, 12, 0, 0)) : tz_O (tq_iv 0 100000) (ez_gi σ 12 h 67) := tz_imp (tz_gi hT hk (tf_12_67 (p := p))) (fun _ q => tq_w q ((hT.1.2.1).1) (hT.1.2.1).2)
theorem tr_68 (hT : tp p σ) (hk : tz_C h = some (3, 12, 0, 0)) : ez_gr σ 12 h 68 = some 215 := tz_grx (r := 215) hT hk (tf_12_68 (p := p)) (by decide)
theorem tr_69 (hT : tp p σ) (hk : tz_C h = some (3, 12, 0, 0)) : ez_gr σ 12 h 69 = some 216 := tz_grx (r := 216) hT hk (tf_12_69 (p := p)) (by decide)
/-- what is asked of the places from one to another -/
theorem ts_205 (lo hi A B : Int) (hc : tz_cs1 lo.toNat (hi.toNat + 1 - lo.toNat) A B = true) (j : Nat) (h1 : lo ≤ (j : Int)) (h2 : (j : Int) ≤ hi) : A ≤ (tz_el p 205 j).1 ∧ (tz_el p 205 j).2 ≤ B := tz_cs1_ok _ _ hc j (by omega) (by omega)
theorem ts_206 (lo hi A B : Int) (hc : tz_cs1 lo.toNat (hi.toNat + 1 - lo.toNat) A B = true) (j : Nat) (h1 : lo ≤ (j : Int)) (h2 : (j : Int) ≤ hi) : A ≤ (tz_el p 206 j).1 ∧ (tz_el p 206 j).2 ≤ B := tz_cs1_ok _ _ hc j (by omega) (by omega)
theorem tS_205 (lo hi A B : Int) (hc : tz_cs2 lo.toNat (hi.toNat + 1 - lo.toNat) A B = true) (j : Nat) (h1 : lo ≤ (j : Int)) (h2 : (j : Int) ≤ hi) : (tz_el p 205 j).1 ≤ A ∧ B ≤ (tz_el p 205 j).2 := tz_cs2_ok _ _ hc j (by omega) (by omega)
theorem ts_173 (lo hi A B : Int) (hc : A ≤ 0 ∧ 5 ≤ B) (j : Nat) (_ : lo ≤ (j : Int)) (_ : (j : Int) ≤ hi) : A ≤ (tz_el p 173 j).1 ∧ (tz_el p 173 j).2 ≤ B := by
  show A ≤ (tz_bn p j (2, 5) (0, 5)).1 ∧ (tz_bn p j (2, 5) (0, 5)).2 ≤ B
  unfold tz_bn
  split <;> exact ⟨by show A ≤ _; simp only []; omega, by show _ ≤ B; simp only []; omega⟩
theorem ts_174 (lo hi A B : Int) (hc : A ≤ 0 ∧ 6 ≤ B) (j : Nat) (_ : lo ≤ (j : Int)) (_ : (j : Int) ≤ hi) : A ≤ (tz_el p 174 j).1 ∧ (tz_el p 174 j).2 ≤ B := by
  show A ≤ (tz_bn p j (2, 6) (0, 6)).1 ∧ (tz_bn p j (2, 6) (0, 6)).2 ≤ B
  unfold tz_bn
  split <;> exact ⟨by show A ≤ _; simp only []; omega, by show _ ≤ B; simp only []; omega⟩
theorem tS_173 (lo hi A B : Int) (hc : 2 ≤ A ∧ B ≤ 5) (j : Nat) (_ : lo ≤ (j : Int)) (_ : (j : Int) ≤ hi) : (tz_el p 173 j).1 ≤ A ∧ B ≤ (tz_el p 173 j).2 := by
  show (tz_bn p j (2, 5) (0, 5)).1 ≤ A ∧ B ≤ (tz_bn p j (2, 5) (0, 5)).2
  unfold tz_bn
  split <;> exact ⟨by show _ ≤ A; simp only []; omega, by show B ≤ _; simp only []; omega⟩
theorem tS_174 (lo hi A B : Int) (hc : 2 ≤ A ∧ B ≤ 6) (j : Nat) (_ : lo ≤ (j : Int)) (_ : (j : Int) ≤ hi) : (tz_el p 174 j).1 ≤ A ∧ B ≤ (tz_el p 174 j).2 := by
  show (tz_bn p j (2, 6) (0, 6)).1 ≤ A ∧ B ≤ (tz_bn p j (2, 6) (0, 6)).2
  unfold tz_bn
  split <;> exact ⟨by show _ ≤ A; simp only []; omega, by show B ≤ _; simp only []; omega⟩
end AC
