/-! The first method over the typed heap, by hand: the shape for the program. -/
theorem ez_bd_some {α β : Type} (x : α) (g : α → Option β) : ez_bd (some x) g = g x := rfl
theorem ez_let_eq {α β : Type} (x : α) (g : α → Option β) : ez_let x g = g x := rfl
theorem tz_X0_append {σ : ez_H} {h0 : Nat} {x1 x2 : Int32} (hT : tz_T tz_G0 σ) (hK : tz_C h0 = some (3, 0, 0, 0, 0)) : tz_O (fun z => tz_T tz_G0 z.2) (z_X0_append σ h0 x1 x2) := by
  have hK : tz_G0.1 h0 = some (3, 0, 0, 0, 0) := hK
  unfold z_X0_append z_X0_append_47
  obtain ⟨fs, -, e0, -⟩ := tz_ob hT hK
  rw [e0, ez_bd_some]
  obtain ⟨t_1, e1, -, -⟩ := tz_gi hT hK (k := 1) rfl
  rw [e1, ez_bd_some]
  refine tz_if _ (fun _ => tz_some hT) (fun c_2 => ?_)
  rw [ez_bd_some]
  refine tz_if _ (fun _ => tz_some hT) (fun c_9 => ?_)
  have i_1 : tq_iv 0 269 t_1 := tq_cut (tq_leR (tq_nlt c_2) (tq_nnI (j := 0) (a := 0) (b := 0) (by decide) (by decide) (by decide)) (tq_top _)) (tq_ltL (tq_nle c_9) (tq_top _) (tq_nnI (j := 270) (a := 270) (b := 270) (by decide) (by decide) (by decide))) (by decide) (by decide)
  obtain ⟨t_18, e18, k18⟩ := tz_gr hT hK (k := 2) rfl
  rw [e18, ez_bd_some, ez_bd_some]
  obtain ⟨σ1, s1, hT⟩ := tz_is hT k18 (i := t_1) (x := x1) i_1.1 (Int.lt_of_le_of_lt i_1.2 (by decide)) (tq_top x1).1 (tq_top x1).2
  rw [s1, ez_bd_some]
  obtain ⟨t_28, e28, k28⟩ := tz_gr hT hK (k := 3) rfl
  have e1 := (fr_is_gi s1).trans e1
  rw [e28, ez_bd_some, e1, ez_bd_some]
  obtain ⟨σ2, s2, hT⟩ := tz_is hT k28 (i := t_1) (x := x2) i_1.1 (Int.lt_of_le_of_lt i_1.2 (by decide)) (tq_top x2).1 (tq_top x2).2
  have e1 := (fr_is_gi s2).trans e1
  rw [s2, ez_bd_some, e1, ez_bd_some]
  refine tz_let (fun t_43 _ => ?_)
  obtain ⟨σ3, s3, hT⟩ := tz_pfi hT hK (k := 1) (x := t_43) rfl (tq_top t_43).1 (tq_top t_43).2
  rw [s3, ez_bd_some]
  exact tz_some hT
