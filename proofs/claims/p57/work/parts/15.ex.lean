/-! A loop over the typed heap, by hand: the shape for the program. -/
theorem tz_X6_lowest {σ : ez_H} {h0 : Nat} {x1 : Int32} (hT : tz_T tz_G0 σ) (hK : tz_C h0 = some (3, 6, 0, 0, 0)) : tz_O (fun _ => True) (z_X6_lowest σ h0 x1) := by
  have hK : tz_G0.1 h0 = some (3, 6, 0, 0, 0) := hK
  unfold z_X6_lowest
  obtain ⟨fs, -, e0, -⟩ := tz_ob hT hK
  rw [e0, ez_bd_some]
  obtain ⟨t_3, e3, l3, u3⟩ := tz_gi hT hK (k := 2) rfl
  rw [e3, ez_bd_some]
  refine tz_let (fun t_6 _ => ?_)
  refine tz_let (fun t_7 _ => ?_)
  exact tz_some trivial
theorem tz_X6_notch {σ : ez_H} {x0 x1 : Int32} : tz_O (fun _ => True) (z_X6_notch σ x0 x1) := by
  unfold z_X6_notch
  refine tz_let (fun t_4 _ => ?_)
  refine tz_let (fun t_6 _ => ?_)
  refine tz_let (fun t_7 _ => ?_)
  exact tz_some trivial
theorem tz_X6_fillUp {σ : ez_H} {h0 : Nat} {x1 x2 x3 : Int32} (hT : tz_T tz_G0 σ) (hK : tz_C h0 = some (3, 6, 0, 0, 0)) : tz_O (fun _ => True) (z_X6_fillUp σ h0 x1 x2 x3) := by
  have hK : tz_G0.1 h0 = some (3, 6, 0, 0, 0) := hK
  have K_9 : ∀ (n : Nat) (k_9 : Nat → Int32 → Int32 → Int32 → Option Int32), (∀ x4 x5 x6 : Int32, (2147483647 - x6.toInt).toNat < n → tz_O (fun _ => True) (k_9 h0 x4 x5 x6)) → ∀ x4 x5 x6 : Int32, (2147483647 - x6.toInt).toNat < n + 1 → tz_O (fun _ => True) (z_X6_fillUp_9 σ k_9 h0 x4 x5 x6) := by
    intro n k_9 hk_9 x4 x5 x6 hn
    unfold z_X6_fillUp_9
    obtain ⟨t_12, e12, l12, u12⟩ := tz_gi hT hK (k := 0) rfl
    have i_12 : tq_iv 0 999 t_12 := ⟨l12, u12⟩
    rw [e12, ez_bd_some]
    refine tz_if _ (fun _ => tz_some trivial) (fun c_13 => ?_)
    have j_6 : tq_iv (-2147483648) 998 x6 := tq_ltL (tq_nle c_13) (tq_top _) i_12
    refine tz_bd (tz_X6_lowest hT hK) (fun t_21 _ => ?_)
    refine tz_bd tz_X6_notch (fun t_32 _ => ?_)
    refine tz_let (fun t_35 _ => ?_)
    refine tz_let (fun t_38 e_38 => ?_)
    exact hk_9 _ _ _ (tq_up e_38 j_6 (tq_nnI (j := 1) (a := 1) (b := 1) (by decide) (by decide) (by decide)) (by decide) (by decide) hn)
  have E_9 : ∀ x4 x5 x6 : Int32, tz_O (fun _ => True) (ez_fix (fun _ _ _ _ => none) (z_X6_fillUp_9 σ) ez_N h0 x4 x5 x6) := fun x4 x5 x6 => ez_fix_indn (fun n (k : Nat → Int32 → Int32 → Int32 → Option Int32) => ∀ x4 x5 x6 : Int32, (2147483647 - x6.toInt).toNat < n → tz_O (fun _ => True) (k h0 x4 x5 x6)) (fun _ _ _ h => absurd h (Nat.not_lt_zero _)) K_9 ez_N x4 x5 x6 (by have := (tq_top x6).1; have := (tq_top x6).2; show _ < 4294967296; omega)
  unfold z_X6_fillUp
  obtain ⟨fs, -, e0, -⟩ := tz_ob hT hK
  rw [e0, ez_bd_some]
  exact E_9 _ _ _
