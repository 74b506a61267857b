set_option maxRecDepth 4000 in
theorem tz_X12_twin {p : tz_P} {σ : ez_H} {h0 : Nat} {x1 : Int32} (hT : tp p σ) (k_h0 : tz_C h0 = some (3, 12, 0, 0)) : tz_O (fun z => tq_iv (-1) 7 z) (z_X12_twin σ h0 x1) := by
  unfold z_X12_twin
  refine tz_bd (tz_ob hT k_h0) (fun _ _ => ?_)
  refine tz_bd (tz_X12_isKey hT k_h0) (fun t_2 ⟨i_t_2, g_t_2⟩ => ?_)
  refine tz_if _ (fun c9687 => ?_) (fun c9687 => ?_)
  ·
    have i1_t_2 : tq_iv 0 0 t_2 := tq_cut i_t_2 (tq_eqL c9687 tk_0) (by decide) (by decide)
    exact tz_some (tq_w tk_m1 (by decide) (by decide))
  ·
    have i2_x1 : tq_iv 0 7 x1 := tq_cut (tq_top x1) (g_t_2 c9687) (by decide) (by decide)
    have i3_t_2 : tq_iv 1 1 t_2 := tq_w (tq_neLo c9687 i_t_2 tk_0) (by decide) (by decide)
    have L_14 : ∀ (n_14 : Nat) (k_14 : Nat → Int32 → Int32 → Int32 → Option (Int32)), (∀ (x2_14 : Int32) (x3_14 : Int32), tq_iv (-1) 7 x2_14 → tq_iv 0 8 x3_14 → (2147483647 - x3_14.toInt).toNat < n_14 → tz_O (fun (z : Int32) => tq_iv (-1) 7 z) (k_14 h0 x1 x2_14 x3_14)) → ∀ (x2_14 : Int32) (x3_14 : Int32), tq_iv (-1) 7 x2_14 → tq_iv 0 8 x3_14 → (2147483647 - x3_14.toInt).toNat < n_14 + 1 → tz_O (fun (z : Int32) => tq_iv (-1) 7 z) (z_X12_twin_14 σ k_14 h0 x1 x2_14 x3_14) := by
      intro n_14 k_14 hk_14 x2_14 x3_14 i_x2_14 i_x3_14 hn_14
      unfold z_X12_twin_14
      refine tz_bd (tz_X12_many hT k_h0) (fun t_16 i_t_16 => ?_)
      refine tz_if _ (fun c9683 => ?_) (fun c9683 => ?_)
      ·
        exact tz_some i_x2_14
      ·
        have i4_x3_14 : tq_iv 0 7 x3_14 := tq_cut i_x3_14 (tq_ltL (tq_nle c9683) i_x3_14 i_t_16) (by decide) (by decide)
        have i5_t_16 : tq_iv 1 8 t_16 := tq_cut i_t_16 (tq_ltR (tq_nle c9683) i_x3_14 i_t_16) (by decide) (by decide)
        have K_48 : ∀ (x2_48 : Int32), tq_iv (-1) 7 x2_48 → tz_O (fun (z : Int32) => tq_iv (-1) 7 z) (z_X12_twin_48 σ k_14 h0 x1 x2_48 x3_14) := by
          intro x2_48 i_x2_48
          unfold z_X12_twin_48
          refine tz_let (fun t_48 e9671 => ?_)
          have i6_t_48 : tq_iv 1 8 t_48 := tq_w (tq_add e9671 i4_x3_14 tk_1 (by decide) (by decide)) (by decide) (by decide)
          exact hk_14 x2_48 t_48 i_x2_48 (tq_w i6_t_48 (by decide) (by decide)) (tq_up e9671 i4_x3_14 tk_1 (by decide) (by decide) hn_14)
        refine tz_if _ (fun c9682 => ?_) (fun c9682 => ?_)
        ·
          exact K_48 x2_14 i_x2_14
        ·
          have K_46 : tz_O (fun (z : Int32) => tq_iv (-1) 7 z) (z_X12_twin_46 σ k_14 h0 x1 x3_14) := by
            unfold z_X12_twin_46
            exact K_48 x3_14 (tq_w i4_x3_14 (by decide) (by decide))
          refine tz_if _ (fun c9681 => ?_) (fun c9681 => ?_)
          ·
            have i7_x2_14 : tq_iv (-1) (-1) x2_14 := tq_cut i_x2_14 (tq_ltL c9681 i_x2_14 tk_0) (by decide) (by decide)
            exact K_46 
          ·
            have i8_x2_14 : tq_iv 0 7 x2_14 := tq_cut i_x2_14 (tq_leR (tq_nlt c9681) tk_0 i_x2_14) (by decide) (by decide)
            refine tz_bd (tz_X12_span hT k_h0) (fun t_34 i_t_34 => ?_)
            refine tz_bd (tz_X12_span hT k_h0) (fun t_40 i_t_40 => ?_)
            refine tz_if _ (fun c9678 => ?_) (fun c9678 => ?_)
            ·
              exact K_48 x2_14 (tq_w i8_x2_14 (by decide) (by decide))
            ·
              have i9_t_34 : tq_iv (-2147483648) 2147483646 t_34 := tq_cut (tq_top t_34) (tq_ltL (tq_nle c9678) (tq_top t_34) (tq_top t_40)) (by decide) (by decide)
              have i10_t_40 : tq_iv (-2147483647) 2147483647 t_40 := tq_cut (tq_top t_40) (tq_ltR (tq_nle c9678) (tq_top t_34) (tq_top t_40)) (by decide) (by decide)
              exact K_46 
    have E_14 : ∀ (x2_14 : Int32) (x3_14 : Int32), tq_iv (-1) 7 x2_14 → tq_iv 0 8 x3_14 → tz_O (fun (z : Int32) => tq_iv (-1) 7 z) (ez_fix (fun _ _ _ _ => none) (z_X12_twin_14 σ) ez_N h0 x1 x2_14 x3_14) := by
      intro x2_14 x3_14 i_x2_14 i_x3_14
      exact ez_fix_indn (fun n_14 (k_14 : Nat → Int32 → Int32 → Int32 → Option (Int32)) => ∀ (x2_14 : Int32) (x3_14 : Int32), tq_iv (-1) 7 x2_14 → tq_iv 0 8 x3_14 → (2147483647 - x3_14.toInt).toNat < n_14 → tz_O (fun (z : Int32) => tq_iv (-1) 7 z) (k_14 h0 x1 x2_14 x3_14)) (by intros; rename_i h; exact absurd h (Nat.not_lt_zero _)) L_14 ez_N x2_14 x3_14 i_x2_14 i_x3_14 (tq_m0 x3_14)
    exact E_14 (-1 : Int32) (0 : Int32) (tq_w tk_m1 (by decide) (by decide)) (tq_w tk_0 (by decide) (by decide))
theorem tz_X12_undo {p : tz_P} {σ : ez_H} {h0 : Nat} (hT : tp p σ) (k_h0 : tz_C h0 = some (3, 12, 0, 0)) (hpq : p.1 4 + p.1 5 ≤ 40) : tz_O2 (fun (z : Int32) (s : ez_H) => tp p s ∨ tp (up (up p 4 (p.1 4 - 1)) 5 (p.1 5 + 1)) s) (z_X12_undo σ h0) := by
  have e0 : (0 : Int32).toInt = 0 := by decide
  have e1 : (1 : Int32).toInt = 1 := by decide
  have g4 := hT.1.2.2.2.2.1
  have g5 := hT.1.2.2.2.2.2.1
  unfold z_X12_undo
  refine tz_bd (tz_ob hT k_h0) (fun _ _ => ?_)
  refine tz_be (tz_gi hT k_h0 (tf_12_60 (p := p))) (fun t1 et1 i1 => ?_)
  obtain ⟨j1, j2⟩ := i1
  refine tz_if _ (fun _ => tz_some (Or.inl hT)) (fun c => ?_)
  have c := ne_c c
  refine tz_bk et1 ?_
  refine tz_let (fun t15 e15 => ?_)
  have h15 := tq_subT (x := t1) (a := 0) (b := 40) ⟨by omega, by omega⟩ tk_1 (by decide) (by decide)
  rw [← e15] at h15
  refine tz_bd (tz_up4 (v := p.1 4 - 1) hT k_h0 (by omega) (by omega) (by omega)) (fun s2 hs2 => ?_)
  refine tz_bd (tz_gi hs2 k_h0 (tf_12_61 (p := up p 4 (p.1 4 - 1)))) (fun t21 i21 => ?_)
  have i21 : tq_iv 0 (p.1 5) t21 := i21
  obtain ⟨k1, k2⟩ := i21
  refine tz_let (fun t25 e25 => ?_)
  have h25 := tq_addT (x := t21) (a := 0) (b := 40) ⟨by omega, by omega⟩ tk_1 (by decide) (by decide)
  rw [← e25] at h25
  refine tz_bd (tz_up5 (v := p.1 5 + 1) hs2 k_h0 (by omega) (by omega) (by omega)) (fun s3 hs3 => ?_)
  refine tz_b2 (tz_X12_swapAll hs3 k_h0) (fun _ s4 hs4 => ?_)
  exact tz_some (Or.inr hs4.1)
set_option maxRecDepth 4000 in
theorem tz_X12_untell {p : tz_P} {σ : ez_H} {h0 : Nat} {x1 : Int32} (hT : tp p σ) (k_h0 : tz_C h0 = some (3, 12, 0, 0)) : tz_O2 (fun (z : Int32) (s : ez_H) => tq_iv 0 1 z ∧ tp p s) (z_X12_untell σ h0 x1) := by
  show tz_O (fun z : Int32 × ez_H => (fun (z : Int32) (s : ez_H) => tq_iv 0 1 z ∧ tp p s) z.1 z.2) _
  unfold z_X12_untell
  refine tz_bd (tz_ob hT k_h0) (fun _ _ => ?_)
  refine tz_be (tg_12_66 hT k_h0) (fun t_3 e9715 i_t_3 => ?_)
  refine tz_let (fun t_7 e9714 => ?_)
  have i1_t_7 : tq_iv (-1) 29 t_7 := tq_w (tq_sub e9714 i_t_3 tk_1 (by decide) (by decide)) (by decide) (by decide)
  refine tz_bd (tz_X12_isIn hT) (fun t_8 ⟨i_t_8, g_t_8⟩ => ?_)
  have K_23 : tz_O (fun z : Int32 × ez_H => (fun (z : Int32) (s : ez_H) => tq_iv 0 1 z ∧ tp p s) z.1 z.2) (z_X12_untell_23 σ) := by
    unfold z_X12_untell_23
    exact tz_some ⟨(tq_w tk_0 (by decide) (by decide)), hT⟩
  refine tz_if _ (fun c9712 => ?_) (fun c9712 => ?_)
  ·
    have i2_t_8 : tq_iv 0 0 t_8 := tq_cut i_t_8 (tq_eqL c9712 tk_0) (by decide) (by decide)
    exact K_23 
  ·
    have i3_x1 : tq_iv 0 29 x1 := tq_cut (tq_top x1) (tq_cut (lo := 0) (hi := 29) (tq_cut (lo := 0) (hi := 2147483647) (tq_top x1) (tq_leR (g_t_8 c9712).1 tk_0 (tq_top x1)) (by decide) (by decide)) (tq_leL (g_t_8 c9712).2 (tq_top x1) i1_t_7) (by decide) (by decide)) (by decide) (by decide)
    have i4_t_7 : tq_iv 0 29 t_7 := tq_cut i1_t_7 (tq_leR (g_t_8 c9712).2 i3_x1 i1_t_7) (by decide) (by decide)
    have i5_t_8 : tq_iv 1 1 t_8 := tq_w (tq_neLo c9712 i_t_8 tk_0) (by decide) (by decide)
    refine tz_bk (tr_65 hT k_h0) ?_
    refine tz_be (tz_ia hT tc_214 (te_0 (p := p)) i3_x1 (by decide) (by decide)) (fun t_19 e9710 i_t_19 => ?_)
    refine tz_if _ (fun c9709 => ?_) (fun c9709 => ?_)
    ·
      have i6_t_19 : tq_iv (-2147483648) (-1) t_19 := tq_cut (tq_top t_19) (tq_ltL c9709 (tq_top t_19) tk_0) (by decide) (by decide)
      refine tz_bk (tr_65 hT k_h0) ?_
      refine tz_be (tg_12_67 hT k_h0) (fun t_31 e9706 i_t_31 => ?_)
      refine tz_be (tz_is hT tc_214 (te_0 (p := p)) i3_x1 (by decide) (by decide) (tq_top t_31)) (fun σ9705 e9705 T9705 => ?_)
      exact tz_some ⟨(tq_w tk_1 (by decide) (by decide)), T9705⟩
    ·
      have i7_t_19 : tq_iv 0 2147483647 t_19 := tq_cut (tq_top t_19) (tq_leR (tq_nlt c9709) tk_0 (tq_top t_19)) (by decide) (by decide)
      exact K_23
