set_option maxRecDepth 4000 in
theorem tz_X12_openedBy {p : tz_P} {σ : ez_H} {h0 : Nat} {x1 : Int32} (hT : tp p σ) (k_h0 : tz_C h0 = some (3, 12, 0, 0)) : tz_O (fun z => tq_iv 0 63 z) (z_X12_openedBy σ h0 x1) := by
  unfold z_X12_openedBy
  refine tz_bd (tz_ob hT k_h0) (fun _ _ => ?_)
  have L_4 : ∀ (n_4 : Nat) (k_4 : Nat → Int32 → Int32 → Int32 → Option (Int32)), (∀ (x2_4 : Int32) (x3_4 : Int32), tq_iv 0 63 x2_4 → tq_iv 0 6 x3_4 → (2147483647 - x3_4.toInt).toNat < n_4 → tz_O (fun (z : Int32) => tq_iv 0 63 z) (k_4 h0 x1 x2_4 x3_4)) → ∀ (x2_4 : Int32) (x3_4 : Int32), tq_iv 0 63 x2_4 → tq_iv 0 6 x3_4 → (2147483647 - x3_4.toInt).toNat < n_4 + 1 → tz_O (fun (z : Int32) => tq_iv 0 63 z) (z_X12_openedBy_4 σ k_4 h0 x1 x2_4 x3_4) := by
    intro n_4 k_4 hk_4 x2_4 x3_4 i_x2_4 i_x3_4 hn_4
    unfold z_X12_openedBy_4
    refine tz_bd (tz_X12_bolts hT k_h0) (fun t_6 i_t_6 => ?_)
    refine tz_if _ (fun c6590 => ?_) (fun c6590 => ?_)
    ·
      exact tz_some i_x2_4
    ·
      have i1_x3_4 : tq_iv 0 5 x3_4 := tq_cut i_x3_4 (tq_ltL (tq_nle c6590) i_x3_4 i_t_6) (by decide) (by decide)
      have i2_t_6 : tq_iv 1 6 t_6 := tq_cut i_t_6 (tq_ltR (tq_nle c6590) i_x3_4 i_t_6) (by decide) (by decide)
      refine tz_bd (tz_X12_doesOpen hT k_h0 i1_x3_4) (fun t_15 i_t_15 => ?_)
      have K_27 : ∀ (x2_27 : Int32), tq_iv 0 63 x2_27 → tz_O (fun (z : Int32) => tq_iv 0 63 z) (z_X12_openedBy_27 σ k_4 h0 x1 x2_27 x3_4) := by
        intro x2_27 i_x2_27
        unfold z_X12_openedBy_27
        refine tz_let (fun t_27 e6582 => ?_)
        have i3_t_27 : tq_iv 1 6 t_27 := tq_w (tq_add e6582 i1_x3_4 tk_1 (by decide) (by decide)) (by decide) (by decide)
        exact hk_4 x2_27 t_27 i_x2_27 (tq_w i3_t_27 (by decide) (by decide)) (tq_up e6582 i1_x3_4 tk_1 (by decide) (by decide) hn_4)
      refine tz_if _ (fun c6588 => ?_) (fun c6588 => ?_)
      ·
        have i4_t_15 : tq_iv 0 0 t_15 := tq_cut i_t_15 (tq_eqL c6588 tk_0) (by decide) (by decide)
        exact K_27 x2_4 i_x2_4
      ·
        have i5_t_15 : tq_iv 1 1 t_15 := tq_w (tq_neLo c6588 i_t_15 tk_0) (by decide) (by decide)
        refine tz_let (fun t_24 e6587 => ?_)
        have i6_t_24 : tq_iv 1 32 t_24 := tq_shl1 e6587 i1_x3_4 (by decide) (by decide) (by decide) (by decide)
        refine tz_let (fun t_25 e6586 => ?_)
        have i7_t_25 : tq_iv 0 63 t_25 := tq_or e6586 i_x2_4 i6_t_24 6 (by decide) (by decide) (by decide) (by decide) (by decide)
        exact K_27 t_25 i7_t_25
  have E_4 : ∀ (x2_4 : Int32) (x3_4 : Int32), tq_iv 0 63 x2_4 → tq_iv 0 6 x3_4 → tz_O (fun (z : Int32) => tq_iv 0 63 z) (ez_fix (fun _ _ _ _ => none) (z_X12_openedBy_4 σ) ez_N h0 x1 x2_4 x3_4) := by
    intro x2_4 x3_4 i_x2_4 i_x3_4
    exact ez_fix_indn (fun n_4 (k_4 : Nat → Int32 → Int32 → Int32 → Option (Int32)) => ∀ (x2_4 : Int32) (x3_4 : Int32), tq_iv 0 63 x2_4 → tq_iv 0 6 x3_4 → (2147483647 - x3_4.toInt).toNat < n_4 → tz_O (fun (z : Int32) => tq_iv 0 63 z) (k_4 h0 x1 x2_4 x3_4)) (by intros; rename_i h; exact absurd h (Nat.not_lt_zero _)) L_4 ez_N x2_4 x3_4 i_x2_4 i_x3_4 (tq_m0 x3_4)
  exact E_4 (0 : Int32) (0 : Int32) (tq_w tk_0 (by decide) (by decide)) (tq_w tk_0 (by decide) (by decide))
set_option maxRecDepth 4000 in
theorem tz_X12_best {p : tz_P} {σ : ez_H} {h0 : Nat} (hT : tp p σ) (k_h0 : tz_C h0 = some (3, 12, 0, 0)) : tz_O (fun z => tq_iv (-1) 7 z) (z_X12_best σ h0) := by
  unfold z_X12_best
  refine tz_bd (tz_ob hT k_h0) (fun _ _ => ?_)
  have L_4 : ∀ (n_4 : Nat) (k_4 : Nat → Int32 → Int32 → Option (Int32)), (∀ (x1_4 : Int32) (x2_4 : Int32), tq_iv (-1) 7 x1_4 → tq_iv 0 8 x2_4 → (2147483647 - x2_4.toInt).toNat < n_4 → tz_O (fun (z : Int32) => tq_iv (-1) 7 z) (k_4 h0 x1_4 x2_4)) → ∀ (x1_4 : Int32) (x2_4 : Int32), tq_iv (-1) 7 x1_4 → tq_iv 0 8 x2_4 → (2147483647 - x2_4.toInt).toNat < n_4 + 1 → tz_O (fun (z : Int32) => tq_iv (-1) 7 z) (z_X12_best_4 σ k_4 h0 x1_4 x2_4) := by
    intro n_4 k_4 hk_4 x1_4 x2_4 i_x1_4 i_x2_4 hn_4
    unfold z_X12_best_4
    refine tz_bd (tz_X12_many hT k_h0) (fun t_6 i_t_6 => ?_)
    refine tz_if _ (fun c6609 => ?_) (fun c6609 => ?_)
    ·
      exact tz_some i_x1_4
    ·
      have i1_x2_4 : tq_iv 0 7 x2_4 := tq_cut i_x2_4 (tq_ltL (tq_nle c6609) i_x2_4 i_t_6) (by decide) (by decide)
      have i2_t_6 : tq_iv 1 8 t_6 := tq_cut i_t_6 (tq_ltR (tq_nle c6609) i_x2_4 i_t_6) (by decide) (by decide)
      have K_45 : ∀ (x1_45 : Int32), tq_iv 0 7 x1_45 → tz_O (fun (z : Int32) => tq_iv (-1) 7 z) (z_X12_best_45 σ k_4 h0 x1_45 x2_4) := by
        intro x1_45 i_x1_45
        unfold z_X12_best_45
        refine tz_let (fun t_45 e6595 => ?_)
        have i3_t_45 : tq_iv 1 8 t_45 := tq_w (tq_add e6595 i1_x2_4 tk_1 (by decide) (by decide)) (by decide) (by decide)
        exact hk_4 x1_45 t_45 (tq_w i_x1_45 (by decide) (by decide)) (tq_w i3_t_45 (by decide) (by decide)) (tq_up e6595 i1_x2_4 tk_1 (by decide) (by decide) hn_4)
      have K_43 : tz_O (fun (z : Int32) => tq_iv (-1) 7 z) (z_X12_best_43 σ k_4 h0 x2_4) := by
        unfold z_X12_best_43
        exact K_45 x2_4 i1_x2_4
      refine tz_if _ (fun c6608 => ?_) (fun c6608 => ?_)
      ·
        have i4_x1_4 : tq_iv (-1) (-1) x1_4 := tq_cut i_x1_4 (tq_ltL c6608 i_x1_4 tk_0) (by decide) (by decide)
        exact K_43 
      ·
        have i5_x1_4 : tq_iv 0 7 x1_4 := tq_cut i_x1_4 (tq_leR (tq_nlt c6608) tk_0 i_x1_4) (by decide) (by decide)
        refine tz_bd (tz_X12_numberOf hT k_h0 i1_x2_4) (fun t_19 i_t_19 => ?_)
        refine tz_bd (tz_X12_openedBy hT k_h0) (fun t_22 i_t_22 => ?_)
        refine tz_bd (tz_X12_bitsOf hT) (fun t_25 i_t_25 => ?_)
        refine tz_bd (tz_X12_numberOf hT k_h0 i5_x1_4) (fun t_31 i_t_31 => ?_)
        refine tz_bd (tz_X12_openedBy hT k_h0) (fun t_34 i_t_34 => ?_)
        refine tz_bd (tz_X12_bitsOf hT) (fun t_37 i_t_37 => ?_)
        refine tz_if _ (fun c6601 => ?_) (fun c6601 => ?_)
        ·
          exact K_45 x1_4 i5_x1_4
        ·
          have i6_t_37 : tq_iv (-2147483648) 2147483646 t_37 := tq_cut (tq_top t_37) (tq_ltL (tq_nle c6601) (tq_top t_37) (tq_top t_25)) (by decide) (by decide)
          have i7_t_25 : tq_iv (-2147483647) 2147483647 t_25 := tq_cut (tq_top t_25) (tq_ltR (tq_nle c6601) (tq_top t_37) (tq_top t_25)) (by decide) (by decide)
          exact K_43 
  have E_4 : ∀ (x1_4 : Int32) (x2_4 : Int32), tq_iv (-1) 7 x1_4 → tq_iv 0 8 x2_4 → tz_O (fun (z : Int32) => tq_iv (-1) 7 z) (ez_fix (fun _ _ _ => none) (z_X12_best_4 σ) ez_N h0 x1_4 x2_4) := by
    intro x1_4 x2_4 i_x1_4 i_x2_4
    exact ez_fix_indn (fun n_4 (k_4 : Nat → Int32 → Int32 → Option (Int32)) => ∀ (x1_4 : Int32) (x2_4 : Int32), tq_iv (-1) 7 x1_4 → tq_iv 0 8 x2_4 → (2147483647 - x2_4.toInt).toNat < n_4 → tz_O (fun (z : Int32) => tq_iv (-1) 7 z) (k_4 h0 x1_4 x2_4)) (by intros; rename_i h; exact absurd h (Nat.not_lt_zero _)) L_4 ez_N x1_4 x2_4 i_x1_4 i_x2_4 (tq_m0 x2_4)
  exact E_4 (-1 : Int32) (0 : Int32) (tq_w tk_m1 (by decide) (by decide)) (tq_w tk_0 (by decide) (by decide))
set_option maxRecDepth 4000 in
theorem tz_X12_bitting {p : tz_P} {σ : ez_H} {h0 : Nat} {x1 : Int32} (hT : tp p σ) (k_h0 : tz_C h0 = some (3, 12, 0, 0)) : tz_O (fun z => tq_iv (-1) 7775 z) (z_X12_bitting σ h0 x1) := by
  unfold z_X12_bitting
  refine tz_bd (tz_ob hT k_h0) (fun _ _ => ?_)
  have L_4 : ∀ (n_4 : Nat) (k_4 : Nat → Int32 → Int32 → Int32 → Option (Int32)), (∀ (x2_4 : Int32) (x3_4 : Int32), tq_iv 0 7776 x3_4 → (2147483647 - x3_4.toInt).toNat < n_4 → tz_O (fun (z : Int32) => tq_iv (-1) 7775 z) (k_4 h0 x1 x2_4 x3_4)) → ∀ (x2_4 : Int32) (x3_4 : Int32), tq_iv 0 7776 x3_4 → (2147483647 - x3_4.toInt).toNat < n_4 + 1 → tz_O (fun (z : Int32) => tq_iv (-1) 7775 z) (z_X12_bitting_4 σ k_4 h0 x1 x2_4 x3_4) := by
    intro n_4 k_4 hk_4 x2_4 x3_4 i_x3_4 hn_4
    unfold z_X12_bitting_4
    refine tz_bd (tz_X12_bittings hT k_h0) (fun t_6 i_t_6 => ?_)
    have K_42 : tz_O (fun (z : Int32) => tq_iv (-1) 7775 z) (z_X12_bitting_42 σ) := by
      unfold z_X12_bitting_42
      exact tz_some (tq_w tk_m1 (by decide) (by decide))
    refine tz_if _ (fun c6626 => ?_) (fun c6626 => ?_)
    ·
      have i1_x3_4 : tq_iv 1 7776 x3_4 := tq_cut i_x3_4 (tq_leR c6626 i_t_6 i_x3_4) (by decide) (by decide)
      exact K_42 
    ·
      have i2_x3_4 : tq_iv 0 7775 x3_4 := tq_cut i_x3_4 (tq_ltL (tq_nle c6626) i_x3_4 i_t_6) (by decide) (by decide)
      refine tz_if _ (fun c6625 => ?_) (fun c6625 => ?_)
      ·
        have i3_x1 : tq_iv (-2147483648) (-1) x1 := tq_cut (tq_top x1) (tq_ltL c6625 (tq_top x1) tk_0) (by decide) (by decide)
        exact K_42 
      ·
        have i4_x1 : tq_iv 0 2147483647 x1 := tq_cut (tq_top x1) (tq_leR (tq_nlt c6625) tk_0 (tq_top x1)) (by decide) (by decide)
        refine tz_bd (tz_X12_isLegal hT k_h0) (fun t_18 ⟨i_t_18, g_t_18⟩ => ?_)
        have K_36 : ∀ (x2_36 : Int32), tz_O (fun (z : Int32) => tq_iv (-1) 7775 z) (z_X12_bitting_36 σ k_4 h0 x1 x2_36 x3_4) := by
          intro x2_36
          unfold z_X12_bitting_36
          refine tz_let (fun t_36 e6615 => ?_)
          have i5_t_36 : tq_iv 1 7776 t_36 := tq_w (tq_add e6615 i2_x3_4 tk_1 (by decide) (by decide)) (by decide) (by decide)
          exact hk_4 x2_36 t_36 (tq_w i5_t_36 (by decide) (by decide)) (tq_up e6615 i2_x3_4 tk_1 (by decide) (by decide) hn_4)
        refine tz_if _ (fun c6623 => ?_) (fun c6623 => ?_)
        ·
          have i6_t_18 : tq_iv 0 0 t_18 := tq_cut i_t_18 (tq_eqL c6623 tk_0) (by decide) (by decide)
          exact K_36 x2_4
        ·
          have i7_t_18 : tq_iv 1 1 t_18 := tq_w (tq_neLo c6623 i_t_18 tk_0) (by decide) (by decide)
          refine tz_if _ (fun c6622 => ?_) (fun c6622 => ?_)
          ·
            have i8_x2_4 : tq_iv 0 0 x2_4 := tq_cut (tq_top x2_4) (tq_eqL c6622 tk_0) (by decide) (by decide)
            exact tz_some (tq_w i2_x3_4 (by decide) (by decide))
          ·
            refine tz_let (fun t_33 e6621 => ?_)
            exact K_36 t_33
  have E_4 : ∀ (x2_4 : Int32) (x3_4 : Int32), tq_iv 0 7776 x3_4 → tz_O (fun (z : Int32) => tq_iv (-1) 7775 z) (ez_fix (fun _ _ _ _ => none) (z_X12_bitting_4 σ) ez_N h0 x1 x2_4 x3_4) := by
    intro x2_4 x3_4 i_x3_4
    exact ez_fix_indn (fun n_4 (k_4 : Nat → Int32 → Int32 → Int32 → Option (Int32)) => ∀ (x2_4 : Int32) (x3_4 : Int32), tq_iv 0 7776 x3_4 → (2147483647 - x3_4.toInt).toNat < n_4 → tz_O (fun (z : Int32) => tq_iv (-1) 7775 z) (k_4 h0 x1 x2_4 x3_4)) (by intros; rename_i h; exact absurd h (Nat.not_lt_zero _)) L_4 ez_N x2_4 x3_4 i_x3_4 (tq_m0 x3_4)
  exact E_4 x1 (0 : Int32) (tq_w tk_0 (by decide) (by decide))
set_option maxRecDepth 4000 in
theorem tz_X12_blanks {p : tz_P} {σ : ez_H} {h0 : Nat} (hT : tp p σ) (k_h0 : tz_C h0 = some (3, 12, 0, 0)) : tz_O (fun z => tq_iv (-2147483648) 2147483647 z) (z_X12_blanks σ h0) := by
  unfold z_X12_blanks
  refine tz_bd (tz_ob hT k_h0) (fun _ _ => ?_)
  have L_4 : ∀ (n_4 : Nat) (k_4 : Nat → Int32 → Int32 → Option (Int32)), (∀ (x1_4 : Int32) (x2_4 : Int32), tq_iv 0 7776 x2_4 → (2147483647 - x2_4.toInt).toNat < n_4 → tz_O (fun (z : Int32) => tq_iv (-2147483648) 2147483647 z) (k_4 h0 x1_4 x2_4)) → ∀ (x1_4 : Int32) (x2_4 : Int32), tq_iv 0 7776 x2_4 → (2147483647 - x2_4.toInt).toNat < n_4 + 1 → tz_O (fun (z : Int32) => tq_iv (-2147483648) 2147483647 z) (z_X12_blanks_4 σ k_4 h0 x1_4 x2_4) := by
    intro n_4 k_4 hk_4 x1_4 x2_4 i_x2_4 hn_4
    unfold z_X12_blanks_4
    refine tz_bd (tz_X12_bittings hT k_h0) (fun t_6 i_t_6 => ?_)
    refine tz_if _ (fun c6641 => ?_) (fun c6641 => ?_)
    ·
      have i1_x2_4 : tq_iv 1 7776 x2_4 := tq_cut i_x2_4 (tq_leR c6641 i_t_6 i_x2_4) (by decide) (by decide)
      exact tz_some (tq_top x1_4)
    ·
      have i2_x2_4 : tq_iv 0 7775 x2_4 := tq_cut i_x2_4 (tq_ltL (tq_nle c6641) i_x2_4 i_t_6) (by decide) (by decide)
      refine tz_bd (tz_X12_isLegal hT k_h0) (fun t_14 ⟨i_t_14, g_t_14⟩ => ?_)
      have K_31 : ∀ (x1_31 : Int32), tz_O (fun (z : Int32) => tq_iv (-2147483648) 2147483647 z) (z_X12_blanks_31 σ k_4 h0 x1_31 x2_4) := by
        intro x1_31
        unfold z_X12_blanks_31
        refine tz_let (fun t_31 e6631 => ?_)
        have i3_t_31 : tq_iv 1 7776 t_31 := tq_w (tq_add e6631 i2_x2_4 tk_1 (by decide) (by decide)) (by decide) (by decide)
        exact hk_4 x1_31 t_31 (tq_w i3_t_31 (by decide) (by decide)) (tq_up e6631 i2_x2_4 tk_1 (by decide) (by decide) hn_4)
      refine tz_if _ (fun c6639 => ?_) (fun c6639 => ?_)
      ·
        have i4_t_14 : tq_iv 0 0 t_14 := tq_cut i_t_14 (tq_eqL c6639 tk_0) (by decide) (by decide)
        exact K_31 x1_4
      ·
        have i5_t_14 : tq_iv 1 1 t_14 := tq_w (tq_neLo c6639 i_t_14 tk_0) (by decide) (by decide)
        refine tz_bd (tz_X12_openedBy hT k_h0) (fun t_22 i_t_22 => ?_)
        refine tz_if _ (fun c6637 => ?_) (fun c6637 => ?_)
        ·
          have i6_t_22 : tq_iv 0 0 t_22 := tq_cut i_t_22 (tq_eqL c6637 tk_0) (by decide) (by decide)
          refine tz_let (fun t_28 e6635 => ?_)
          exact K_31 t_28
        ·
          have i7_t_22 : tq_iv 1 63 t_22 := tq_w (tq_neLo c6637 i_t_22 tk_0) (by decide) (by decide)
          exact K_31 x1_4
  have E_4 : ∀ (x1_4 : Int32) (x2_4 : Int32), tq_iv 0 7776 x2_4 → tz_O (fun (z : Int32) => tq_iv (-2147483648) 2147483647 z) (ez_fix (fun _ _ _ => none) (z_X12_blanks_4 σ) ez_N h0 x1_4 x2_4) := by
    intro x1_4 x2_4 i_x2_4
    exact ez_fix_indn (fun n_4 (k_4 : Nat → Int32 → Int32 → Option (Int32)) => ∀ (x1_4 : Int32) (x2_4 : Int32), tq_iv 0 7776 x2_4 → (2147483647 - x2_4.toInt).toNat < n_4 → tz_O (fun (z : Int32) => tq_iv (-2147483648) 2147483647 z) (k_4 h0 x1_4 x2_4)) (by intros; rename_i h; exact absurd h (Nat.not_lt_zero _)) L_4 ez_N x1_4 x2_4 i_x2_4 (tq_m0 x2_4)
  exact E_4 (0 : Int32) (0 : Int32) (tq_w tk_0 (by decide) (by decide))
set_option maxRecDepth 4000 in
theorem tz_X12_isApart {p : tz_P} {σ : ez_H} {h0 : Nat} {x1 : Int32} {x2 : Int32} (hT : tp p σ) (k_h0 : tz_C h0 = some (3, 12, 0, 0)) (i_x1 : tq_iv 0 7775 x1) : tz_O (fun z => tq_iv 0 1 z) (z_X12_isApart σ h0 x1 x2) := by
  unfold z_X12_isApart
  refine tz_bd (tz_ob hT k_h0) (fun _ _ => ?_)
  have L_11 : ∀ (n_11 : Nat) (k_11 : Nat → Int32 → Int32 → Int32 → Int32 → Option (Int32)), (∀ (x3_11 : Int32) (x4_11 : Int32) (x5_11 : Int32) (x6_11 : Int32), tq_iv 0 7775 x4_11 → tq_iv 0 5 x6_11 → (2147483647 - x6_11.toInt).toNat < n_11 → tz_O (fun (z : Int32) => tq_iv 0 1 z) (k_11 h0 x3_11 x4_11 x5_11 x6_11)) → ∀ (x3_11 : Int32) (x4_11 : Int32) (x5_11 : Int32) (x6_11 : Int32), tq_iv 0 7775 x4_11 → tq_iv 0 5 x6_11 → (2147483647 - x6_11.toInt).toNat < n_11 + 1 → tz_O (fun (z : Int32) => tq_iv 0 1 z) (z_X12_isApart_11 σ k_11 h0 x3_11 x4_11 x5_11 x6_11) := by
    intro n_11 k_11 hk_11 x3_11 x4_11 x5_11 x6_11 i_x4_11 i_x6_11 hn_11
    unfold z_X12_isApart_11
    refine tz_bd (tz_X12_wide hT k_h0) (fun t_14 i_t_14 => ?_)
    refine tz_if _ (fun c6668 => ?_) (fun c6668 => ?_)
    ·
      have i1_x6_11 : tq_iv 2 5 x6_11 := tq_cut i_x6_11 (tq_leR c6668 i_t_14 i_x6_11) (by decide) (by decide)
      have K_79 : ∀ (y0_79 : Int32), tq_iv 0 1 y0_79 → (¬ y0_79 = 0 → tq_iv 2 2147483647 x3_11) → tz_O (fun (z : Int32) => tq_iv 0 1 z) (z_X12_isApart_79 σ y0_79) := by
        intro y0_79 i_y0_79 g79_y0_79_x3_11
        unfold z_X12_isApart_79
        refine tz_nr (tq_nr_boolean i_y0_79) ?_
        exact tz_some i_y0_79
      refine tz_if _ (fun c6658 => ?_) (fun c6658 => ?_)
      ·
        have i2_x3_11 : tq_iv (-2147483648) 1 x3_11 := tq_cut (tq_top x3_11) (tq_leL c6658 (tq_top x3_11) tk_1) (by decide) (by decide)
        exact K_79 (0 : Int32) (tq_w tk_0 (by decide) (by decide)) (fun h => absurd rfl h)
      ·
        have i3_x3_11 : tq_iv 2 2147483647 x3_11 := tq_cut (tq_top x3_11) (tq_ltR (tq_nle c6658) tk_1 (tq_top x3_11)) (by decide) (by decide)
        exact K_79 (1 : Int32) (tq_w tk_1 (by decide) (by decide)) (fun _ => i3_x3_11)
    ·
      have i4_x6_11 : tq_iv 0 4 x6_11 := tq_cut i_x6_11 (tq_ltL (tq_nle c6668) i_x6_11 i_t_14) (by decide) (by decide)
      refine tz_bd (tz_X12_deep hT k_h0) (fun t_24 i_t_24 => ?_)
      refine tz_nz (tq_nz i_t_24 (by decide)) ?_
      refine tz_let (fun t_27 e6665 => ?_)
      have i5_t_27 : tq_iv 0 5 t_27 := tq_rem2 e6665 i_x4_11 i_t_24 (by decide) (by decide)
      refine tz_bd (tz_X12_deep hT k_h0) (fun t_31 i_t_31 => ?_)
      refine tz_nz (tq_nz i_t_31 (by decide)) ?_
      refine tz_let (fun t_34 e6662 => ?_)
      have i6_t_34 : tq_iv (-5) 5 t_34 := tq_remS e6662 i_t_31 (by decide)
      have K_43 : ∀ (y1_43 : Int32), tq_iv 0 1 y1_43 → tz_O (fun (z : Int32) => tq_iv 0 1 z) (z_X12_isApart_43 σ k_11 h0 x4_11 x5_11 x6_11 x3_11 y1_43) := by
        intro y1_43 i_y1_43
        unfold z_X12_isApart_43
        refine tz_let (fun t_43 e6655 => ?_)
        refine tz_bd (tz_X12_deep hT k_h0) (fun t_48 i_t_48 => ?_)
        refine tz_nz (tq_nz i_t_48 (by decide)) ?_
        refine tz_let (fun t_51 e6652 => ?_)
        have i7_t_51 : tq_iv 0 7775 t_51 := tq_div e6652 i_x4_11 i_t_48 (by decide) (by decide)
        refine tz_bd (tz_X12_deep hT k_h0) (fun t_57 i_t_57 => ?_)
        refine tz_nz (tq_nz i_t_57 (by decide)) ?_
        refine tz_let (fun t_60 e6649 => ?_)
        refine tz_let (fun t_63 e6648 => ?_)
        have i8_t_63 : tq_iv 1 5 t_63 := tq_w (tq_add e6648 i4_x6_11 tk_1 (by decide) (by decide)) (by decide) (by decide)
        exact hk_11 t_43 t_51 t_60 t_63 i7_t_51 (tq_w i8_t_63 (by decide) (by decide)) (tq_up e6648 i4_x6_11 tk_1 (by decide) (by decide) hn_11)
      refine tz_if _ (fun c6661 => ?_) (fun c6661 => ?_)
      ·
        have i9_t_34 : tq_iv 0 5 t_34 := tq_cut i6_t_34 (tq_eqL (Eq.symm c6661) i5_t_27) (by decide) (by decide)
        exact K_43 (0 : Int32) (tq_w tk_0 (by decide) (by decide))
      ·
        exact K_43 (1 : Int32) (tq_w tk_1 (by decide) (by decide))
  have E_11 : ∀ (x3_11 : Int32) (x4_11 : Int32) (x5_11 : Int32) (x6_11 : Int32), tq_iv 0 7775 x4_11 → tq_iv 0 5 x6_11 → tz_O (fun (z : Int32) => tq_iv 0 1 z) (ez_fix (fun _ _ _ _ _ => none) (z_X12_isApart_11 σ) ez_N h0 x3_11 x4_11 x5_11 x6_11) := by
    intro x3_11 x4_11 x5_11 x6_11 i_x4_11 i_x6_11
    exact ez_fix_indn (fun n_11 (k_11 : Nat → Int32 → Int32 → Int32 → Int32 → Option (Int32)) => ∀ (x3_11 : Int32) (x4_11 : Int32) (x5_11 : Int32) (x6_11 : Int32), tq_iv 0 7775 x4_11 → tq_iv 0 5 x6_11 → (2147483647 - x6_11.toInt).toNat < n_11 → tz_O (fun (z : Int32) => tq_iv 0 1 z) (k_11 h0 x3_11 x4_11 x5_11 x6_11)) (by intros; rename_i h; exact absurd h (Nat.not_lt_zero _)) L_11 ez_N x3_11 x4_11 x5_11 x6_11 i_x4_11 i_x6_11 (tq_m0 x6_11)
  exact E_11 (0 : Int32) x1 x2 (0 : Int32) i_x1 (tq_w tk_0 (by decide) (by decide))
set_option maxRecDepth 4000 in
theorem tz_X12_book {p : tz_P} {σ : ez_H} {h0 : Nat} {x1 : Int32} (hT : tp p σ) (k_h0 : tz_C h0 = some (3, 12, 0, 0)) : tz_O2 (fun (z : Int32) (s : ez_H) => tq_iv (-2147483648) 2147483647 z ∧ tp p s) (z_X12_book σ h0 x1) := by
  show tz_O (fun z : Int32 × ez_H => (fun (z : Int32) (s : ez_H) => tq_iv (-2147483648) 2147483647 z ∧ tp p s) z.1 z.2) _
  unfold z_X12_book
  refine tz_bd (tz_ob hT k_h0) (fun _ _ => ?_)
  refine tz_bd (tz_X12_isIn hT) (fun t_4 ⟨i_t_4, g_t_4⟩ => ?_)
  refine tz_if _ (fun c6704 => ?_) (fun c6704 => ?_)
  ·
    have i1_t_4 : tq_iv 0 0 t_4 := tq_cut i_t_4 (tq_eqL c6704 tk_0) (by decide) (by decide)
    exact tz_some ⟨(tq_top (-1 : Int32)), hT⟩
  ·
    have i2_x1 : tq_iv 0 59 x1 := tq_cut (tq_top x1) (tq_cut (lo := 0) (hi := 59) (tq_cut (lo := 0) (hi := 2147483647) (tq_top x1) (tq_leR (g_t_4 c6704).1 tk_0 (tq_top x1)) (by decide) (by decide)) (tq_leL (g_t_4 c6704).2 (tq_top x1) tk_59) (by decide) (by decide)) (by decide) (by decide)
    have i3_t_4 : tq_iv 1 1 t_4 := tq_w (tq_neLo c6704 i_t_4 tk_0) (by decide) (by decide)
    have L_16 : ∀ (n_16 : Nat) (k_16 : ez_H → Nat → Int32 → Int32 → Int32 → Option (Int32 × ez_H)), (∀ (σ_16 : ez_H) (x2_16 : Int32) (x3_16 : Int32), tp p σ_16 → tq_iv 0 60 x2_16 → tq_iv 0 7776 x3_16 → (2147483647 - x3_16.toInt).toNat < n_16 → tz_O (fun z : Int32 × ez_H => (fun (z : Int32) (s : ez_H) => tq_iv (-2147483648) 2147483647 z ∧ tp p s) z.1 z.2) (k_16 σ_16 h0 x1 x2_16 x3_16)) → ∀ (σ_16 : ez_H) (x2_16 : Int32) (x3_16 : Int32), tp p σ_16 → tq_iv 0 60 x2_16 → tq_iv 0 7776 x3_16 → (2147483647 - x3_16.toInt).toNat < n_16 + 1 → tz_O (fun z : Int32 × ez_H => (fun (z : Int32) (s : ez_H) => tq_iv (-2147483648) 2147483647 z ∧ tp p s) z.1 z.2) (z_X12_book_16 k_16 σ_16 h0 x1 x2_16 x3_16) := by
      intro n_16 k_16 hk_16 σ_16 x2_16 x3_16 T_σ_16 i_x2_16 i_x3_16 hn_16
      unfold z_X12_book_16
      refine tz_bd (tz_X12_bittings T_σ_16 k_h0) (fun t_18 i_t_18 => ?_)
      have K_94 : tz_O (fun z : Int32 × ez_H => (fun (z : Int32) (s : ez_H) => tq_iv (-2147483648) 2147483647 z ∧ tp p s) z.1 z.2) (z_X12_book_94 σ_16 h0 x1 x2_16) := by
        unfold z_X12_book_94
        have K_109 : ∀ (y0_109 : Int32), tz_O (fun z : Int32 × ez_H => (fun (z : Int32) (s : ez_H) => tq_iv (-2147483648) 2147483647 z ∧ tp p s) z.1 z.2) (z_X12_book_109 σ_16 y0_109) := by
          intro y0_109
          unfold z_X12_book_109
          exact tz_some ⟨(tq_top y0_109), T_σ_16⟩
        refine tz_if _ (fun c6677 => ?_) (fun c6677 => ?_)
        ·
          have i4_x2_16 : tq_iv 0 59 x2_16 := tq_cut i_x2_16 (tq_leL c6677 i_x2_16 i2_x1) (by decide) (by decide)
          exact K_109 (-1 : Int32)
        ·
          have i5_x2_16 : tq_iv 1 60 x2_16 := tq_cut i_x2_16 (tq_ltR (tq_nle c6677) i2_x1 i_x2_16) (by decide) (by decide)
          refine tz_bk (tr_55 T_σ_16 k_h0) ?_
          refine tz_be (tz_ia T_σ_16 tc_207 (te_0 (p := p)) i2_x1 (by decide) (by decide)) (fun t_104 e6675 i_t_104 => ?_)
          exact K_109 t_104
      refine tz_if _ (fun c6700 => ?_) (fun c6700 => ?_)
      ·
        have i6_x3_16 : tq_iv 1 7776 x3_16 := tq_cut i_x3_16 (tq_leR c6700 i_t_18 i_x3_16) (by decide) (by decide)
        exact K_94 
      ·
        have i7_x3_16 : tq_iv 0 7775 x3_16 := tq_cut i_x3_16 (tq_ltL (tq_nle c6700) i_x3_16 i_t_18) (by decide) (by decide)
        refine tz_if _ (fun c6699 => ?_) (fun c6699 => ?_)
        ·
          have i8_x2_16 : tq_iv 1 60 x2_16 := tq_cut i_x2_16 (tq_ltR c6699 i2_x1 i_x2_16) (by decide) (by decide)
          exact K_94 
        ·
          have i9_x2_16 : tq_iv 0 59 x2_16 := tq_cut i_x2_16 (tq_leL (tq_nlt c6699) i_x2_16 i2_x1) (by decide) (by decide)
          refine tz_bd (tz_X12_isLegal T_σ_16 k_h0) (fun t_31 ⟨i_t_31, g_t_31⟩ => ?_)
          have L_39 : ∀ (n_39 : Nat) (k_39 : ez_H → Nat → Int32 → Int32 → Int32 → Int32 → Int32 → Option (Int32 × ez_H)), (∀ (x4_39 : Int32) (x5_39 : Int32), tq_iv 0 1 x4_39 → tq_iv 0 59 x5_39 → (2147483647 - x5_39.toInt).toNat < n_39 → tz_O (fun z : Int32 × ez_H => (fun (z : Int32) (s : ez_H) => tq_iv (-2147483648) 2147483647 z ∧ tp p s) z.1 z.2) (k_39 σ_16 h0 x1 x2_16 x3_16 x4_39 x5_39)) → ∀ (x4_39 : Int32) (x5_39 : Int32), tq_iv 0 1 x4_39 → tq_iv 0 59 x5_39 → (2147483647 - x5_39.toInt).toNat < n_39 + 1 → tz_O (fun z : Int32 × ez_H => (fun (z : Int32) (s : ez_H) => tq_iv (-2147483648) 2147483647 z ∧ tp p s) z.1 z.2) (z_X12_book_39 k_16 k_39 σ_16 h0 x1 x2_16 x3_16 x4_39 x5_39) := by
            intro n_39 k_39 hk_39 x4_39 x5_39 i_x4_39 i_x5_39 hn_39
            unfold z_X12_book_39
            have K_70 : tz_O (fun z : Int32 × ez_H => (fun (z : Int32) (s : ez_H) => tq_iv (-2147483648) 2147483647 z ∧ tp p s) z.1 z.2) (z_X12_book_70 k_16 σ_16 h0 x1 x2_16 x3_16 x4_39) := by
              unfold z_X12_book_70
              have K_88 : ∀ (σ_88 : ez_H) (x2_88 : Int32), tp p σ_88 → tq_iv 0 60 x2_88 → tz_O (fun z : Int32 × ez_H => (fun (z : Int32) (s : ez_H) => tq_iv (-2147483648) 2147483647 z ∧ tp p s) z.1 z.2) (z_X12_book_88 k_16 σ_88 h0 x1 x2_88 x3_16) := by
                intro σ_88 x2_88 T_σ_88 i_x2_88
                unfold z_X12_book_88
                refine tz_let (fun t_88 e6679 => ?_)
                have i10_t_88 : tq_iv 1 7776 t_88 := tq_w (tq_add e6679 i7_x3_16 tk_1 (by decide) (by decide)) (by decide) (by decide)
                exact hk_16 σ_88 x2_88 t_88 T_σ_88 i_x2_88 (tq_w i10_t_88 (by decide) (by decide)) (tq_up e6679 i7_x3_16 tk_1 (by decide) (by decide) hn_16)
              refine tz_if _ (fun c6685 => ?_) (fun c6685 => ?_)
              ·
                have i11_x4_39 : tq_iv 0 0 x4_39 := tq_cut i_x4_39 (tq_eqL c6685 tk_0) (by decide) (by decide)
                exact K_88 σ_16 x2_16 T_σ_16 (tq_w i9_x2_16 (by decide) (by decide))
              ·
                have i12_x4_39 : tq_iv 1 1 x4_39 := tq_w (tq_neLo c6685 i_x4_39 tk_0) (by decide) (by decide)
                refine tz_bk (tr_55 T_σ_16 k_h0) ?_
                refine tz_be (tz_is T_σ_16 tc_207 (te_0 (p := p)) i9_x2_16 (by decide) (by decide) (tq_top x3_16)) (fun σ6683 e6683 T6683 => ?_)
                refine tz_let (fun t_85 e6682 => ?_)
                have i13_t_85 : tq_iv 1 60 t_85 := tq_w (tq_add e6682 i9_x2_16 tk_1 (by decide) (by decide)) (by decide) (by decide)
                exact K_88 σ6683 t_85 T6683 (tq_w i13_t_85 (by decide) (by decide))
            refine tz_if _ (fun c6694 => ?_) (fun c6694 => ?_)
            ·
              exact K_70 
            ·
              have i14_x5_39 : tq_iv 0 58 x5_39 := tq_cut i_x5_39 (tq_ltL (tq_nle c6694) i_x5_39 i9_x2_16) (by decide) (by decide)
              have i15_x2_16 : tq_iv 1 59 x2_16 := tq_cut i9_x2_16 (tq_ltR (tq_nle c6694) i_x5_39 i9_x2_16) (by decide) (by decide)
              refine tz_if _ (fun c6693 => ?_) (fun c6693 => ?_)
              ·
                have i16_x4_39 : tq_iv 0 0 x4_39 := tq_cut i_x4_39 (tq_eqL c6693 tk_0) (by decide) (by decide)
                exact K_70 
              ·
                have i17_x4_39 : tq_iv 1 1 x4_39 := tq_w (tq_neLo c6693 i_x4_39 tk_0) (by decide) (by decide)
                refine tz_bk (tr_55 T_σ_16 k_h0) ?_
                refine tz_be (tz_ia T_σ_16 tc_207 (te_0 (p := p)) i14_x5_39 (by decide) (by decide)) (fun t_58 e6691 i_t_58 => ?_)
                refine tz_bd (tz_X12_isApart T_σ_16 k_h0 i7_x3_16) (fun t_59 i_t_59 => ?_)
                refine tz_let (fun t_64 e6689 => ?_)
                have i18_t_64 : tq_iv 1 59 t_64 := tq_w (tq_add e6689 i14_x5_39 tk_1 (by decide) (by decide)) (by decide) (by decide)
                exact hk_39 t_59 t_64 i_t_59 (tq_w i18_t_64 (by decide) (by decide)) (tq_up e6689 i14_x5_39 tk_1 (by decide) (by decide) hn_39)
          have E_39 : ∀ (x4_39 : Int32) (x5_39 : Int32), tq_iv 0 1 x4_39 → tq_iv 0 59 x5_39 → tz_O (fun z : Int32 × ez_H => (fun (z : Int32) (s : ez_H) => tq_iv (-2147483648) 2147483647 z ∧ tp p s) z.1 z.2) (ez_fix (fun _ _ _ _ _ _ _ => none) (z_X12_book_39 k_16) ez_N σ_16 h0 x1 x2_16 x3_16 x4_39 x5_39) := by
            intro x4_39 x5_39 i_x4_39 i_x5_39
            exact ez_fix_indn (fun n_39 (k_39 : ez_H → Nat → Int32 → Int32 → Int32 → Int32 → Int32 → Option (Int32 × ez_H)) => ∀ (x4_39 : Int32) (x5_39 : Int32), tq_iv 0 1 x4_39 → tq_iv 0 59 x5_39 → (2147483647 - x5_39.toInt).toNat < n_39 → tz_O (fun z : Int32 × ez_H => (fun (z : Int32) (s : ez_H) => tq_iv (-2147483648) 2147483647 z ∧ tp p s) z.1 z.2) (k_39 σ_16 h0 x1 x2_16 x3_16 x4_39 x5_39)) (by intros; rename_i h; exact absurd h (Nat.not_lt_zero _)) L_39 ez_N x4_39 x5_39 i_x4_39 i_x5_39 (tq_m0 x5_39)
          exact E_39 t_31 (0 : Int32) i_t_31 (tq_w tk_0 (by decide) (by decide))
    have E_16 : ∀ (σ_16 : ez_H) (x2_16 : Int32) (x3_16 : Int32), tp p σ_16 → tq_iv 0 60 x2_16 → tq_iv 0 7776 x3_16 → tz_O (fun z : Int32 × ez_H => (fun (z : Int32) (s : ez_H) => tq_iv (-2147483648) 2147483647 z ∧ tp p s) z.1 z.2) (ez_fix (fun _ _ _ _ _ => none) (z_X12_book_16) ez_N σ_16 h0 x1 x2_16 x3_16) := by
      intro σ_16 x2_16 x3_16 T_σ_16 i_x2_16 i_x3_16
      exact ez_fix_indn (fun n_16 (k_16 : ez_H → Nat → Int32 → Int32 → Int32 → Option (Int32 × ez_H)) => ∀ (σ_16 : ez_H) (x2_16 : Int32) (x3_16 : Int32), tp p σ_16 → tq_iv 0 60 x2_16 → tq_iv 0 7776 x3_16 → (2147483647 - x3_16.toInt).toNat < n_16 → tz_O (fun z : Int32 × ez_H => (fun (z : Int32) (s : ez_H) => tq_iv (-2147483648) 2147483647 z ∧ tp p s) z.1 z.2) (k_16 σ_16 h0 x1 x2_16 x3_16)) (by intros; rename_i h; exact absurd h (Nat.not_lt_zero _)) L_16 ez_N σ_16 x2_16 x3_16 T_σ_16 i_x2_16 i_x3_16 (tq_m0 x3_16)
    exact E_16 σ (0 : Int32) (0 : Int32) hT (tq_w tk_0 (by decide) (by decide)) (tq_w tk_0 (by decide) (by decide))
set_option maxRecDepth 4000 in
theorem tz_X12_mustOf {p : tz_P} {σ : ez_H} {h0 : Nat} {x1 : Int32} (hT : tp p σ) (k_h0 : tz_C h0 = some (3, 12, 0, 0)) (i_x1 : tq_iv 0 5 x1) : tz_O (fun z => tq_iv (-2147483648) 2147483647 z) (z_X12_mustOf σ h0 x1) := by
  unfold z_X12_mustOf
  refine tz_bd (tz_ob hT k_h0) (fun _ _ => ?_)
  refine tz_bk (tr_29 hT k_h0) ?_
  refine tz_be (tg_12_43 hT k_h0) (fun t_7 e6711 i_t_7 => ?_)
  refine tz_let (fun t_10 e6710 => ?_)
  have i1_t_10 : tq_iv 0 6 t_10 := tq_w (tq_mul e6710 tk_6 i_t_7 (by decide) (by decide) (by decide)) (by decide) (by decide)
  refine tz_let (fun t_12 e6709 => ?_)
  have i2_t_12 : tq_iv 0 11 t_12 := tq_w (tq_add e6709 i1_t_10 i_x1 (by decide) (by decide)) (by decide) (by decide)
  refine tz_be (tz_ia hT tc_191 (te_0 (p := p)) i2_t_12 (by decide) (by decide)) (fun t_13 e6708 i_t_13 => ?_)
  exact tz_some (tq_top t_13)
set_option maxRecDepth 4000 in
theorem tz_X12_neverOf {p : tz_P} {σ : ez_H} {h0 : Nat} {x1 : Int32} (hT : tp p σ) (k_h0 : tz_C h0 = some (3, 12, 0, 0)) (i_x1 : tq_iv 0 5 x1) : tz_O (fun z => tq_iv (-2147483648) 2147483647 z) (z_X12_neverOf σ h0 x1) := by
  unfold z_X12_neverOf
  refine tz_bd (tz_ob hT k_h0) (fun _ _ => ?_)
  refine tz_bk (tr_30 hT k_h0) ?_
  refine tz_be (tg_12_43 hT k_h0) (fun t_7 e6718 i_t_7 => ?_)
  refine tz_let (fun t_10 e6717 => ?_)
  have i1_t_10 : tq_iv 0 6 t_10 := tq_w (tq_mul e6717 tk_6 i_t_7 (by decide) (by decide) (by decide)) (by decide) (by decide)
  refine tz_let (fun t_12 e6716 => ?_)
  have i2_t_12 : tq_iv 0 11 t_12 := tq_w (tq_add e6716 i1_t_10 i_x1 (by decide) (by decide)) (by decide) (by decide)
  refine tz_be (tz_ia hT tc_192 (te_0 (p := p)) i2_t_12 (by decide) (by decide)) (fun t_13 e6715 i_t_13 => ?_)
  exact tz_some (tq_top t_13)
set_option maxRecDepth 4000 in
theorem tz_X12_isBroken {p : tz_P} {σ : ez_H} {h0 : Nat} {x1 : Int32} {x2 : Int32} (hT : tp p σ) (k_h0 : tz_C h0 = some (3, 12, 0, 0)) (i_x1 : tq_iv 0 7 x1) (i_x2 : tq_iv 0 5 x2) : tz_O (fun z => tq_iv 0 1 z) (z_X12_isBroken σ h0 x1 x2) := by
  unfold z_X12_isBroken
  refine tz_bd (tz_ob hT k_h0) (fun _ _ => ?_)
  refine tz_bd (tz_X12_mustOf hT k_h0 i_x2) (fun t_2 i_t_2 => ?_)
  refine tz_bd (tz_X12_bit hT) (fun t_6 i_t_6 => ?_)
  have K_47 : ∀ (y0_47 : Int32), tq_iv 0 1 y0_47 → tz_O (fun (z : Int32) => tq_iv 0 1 z) (z_X12_isBroken_47 σ y0_47) := by
    intro y0_47 i_y0_47
    unfold z_X12_isBroken_47
    refine tz_nr (tq_nr_boolean i_y0_47) ?_
    exact tz_some i_y0_47
  have K_42 : tz_O (fun (z : Int32) => tq_iv 0 1 z) (z_X12_isBroken_42 σ) := by
    unfold z_X12_isBroken_42
    exact K_47 (1 : Int32) (tq_w tk_1 (by decide) (by decide))
  have K_21 : tz_O (fun (z : Int32) => tq_iv 0 1 z) (z_X12_isBroken_21 σ h0 x1 x2) := by
    unfold z_X12_isBroken_21
    refine tz_bd (tz_X12_neverOf hT k_h0 i_x2) (fun t_23 i_t_23 => ?_)
    refine tz_bd (tz_X12_bit hT) (fun t_27 i_t_27 => ?_)
    have K_46 : tz_O (fun (z : Int32) => tq_iv 0 1 z) (z_X12_isBroken_46 σ) := by
      unfold z_X12_isBroken_46
      exact K_47 (0 : Int32) (tq_w tk_0 (by decide) (by decide))
    refine tz_if _ (fun c6730 => ?_) (fun c6730 => ?_)
    ·
      have i1_t_27 : tq_iv 0 0 t_27 := tq_cut i_t_27 (tq_eqL c6730 tk_0) (by decide) (by decide)
      exact K_46 
    ·
      have i2_t_27 : tq_iv 1 1 t_27 := tq_w (tq_neLo c6730 i_t_27 tk_0) (by decide) (by decide)
      refine tz_bd (tz_X12_opensBy hT k_h0 i_x1 i_x2) (fun t_36 i_t_36 => ?_)
      refine tz_if _ (fun c6728 => ?_) (fun c6728 => ?_)
      ·
        have i3_t_36 : tq_iv 0 0 t_36 := tq_cut i_t_36 (tq_eqL c6728 tk_0) (by decide) (by decide)
        exact K_46 
      ·
        have i4_t_36 : tq_iv 1 1 t_36 := tq_w (tq_neLo c6728 i_t_36 tk_0) (by decide) (by decide)
        exact K_42 
  refine tz_if _ (fun c6738 => ?_) (fun c6738 => ?_)
  ·
    have i5_t_6 : tq_iv 0 0 t_6 := tq_cut i_t_6 (tq_eqL c6738 tk_0) (by decide) (by decide)
    exact K_21 
  ·
    have i6_t_6 : tq_iv 1 1 t_6 := tq_w (tq_neLo c6738 i_t_6 tk_0) (by decide) (by decide)
    refine tz_bd (tz_X12_opensBy hT k_h0 i_x1 i_x2) (fun t_15 i_t_15 => ?_)
    refine tz_if _ (fun c6736 => ?_) (fun c6736 => ?_)
    ·
      have i7_t_15 : tq_iv 0 0 t_15 := tq_cut i_t_15 (tq_eqL c6736 tk_0) (by decide) (by decide)
      exact K_42 
    ·
      have i8_t_15 : tq_iv 1 1 t_15 := tq_w (tq_neLo c6736 i_t_15 tk_0) (by decide) (by decide)
      exact K_21
set_option maxRecDepth 4000 in
theorem tz_X12_broken {p : tz_P} {σ : ez_H} {h0 : Nat} {x1 : Int32} (hT : tp p σ) (k_h0 : tz_C h0 = some (3, 12, 0, 0)) : tz_O (fun z => tq_iv (-2147483648) 2147483647 z) (z_X12_broken σ h0 x1) := by
  unfold z_X12_broken
  refine tz_bd (tz_ob hT k_h0) (fun _ _ => ?_)
  refine tz_bd (tz_X12_isIn hT) (fun t_3 ⟨i_t_3, g_t_3⟩ => ?_)
  refine tz_if _ (fun c6767 => ?_) (fun c6767 => ?_)
  ·
    have i1_t_3 : tq_iv 0 0 t_3 := tq_cut i_t_3 (tq_eqL c6767 tk_0) (by decide) (by decide)
    exact tz_some (tq_top (-1 : Int32))
  ·
    have i2_x1 : tq_iv 0 2 x1 := tq_cut (tq_top x1) (tq_cut (lo := 0) (hi := 2) (tq_cut (lo := 0) (hi := 2147483647) (tq_top x1) (tq_leR (g_t_3 c6767).1 tk_0 (tq_top x1)) (by decide) (by decide)) (tq_leL (g_t_3 c6767).2 (tq_top x1) tk_2) (by decide) (by decide)) (by decide) (by decide)
    have i3_t_3 : tq_iv 1 1 t_3 := tq_w (tq_neLo c6767 i_t_3 tk_0) (by decide) (by decide)
    have L_21 : ∀ (n_21 : Nat) (k_21 : Nat → Int32 → Int32 → Int32 → Int32 → Int32 → Option (Int32)), (∀ (x2_21 : Int32) (x3_21 : Int32) (x4_21 : Int32) (x5_21 : Int32), tq_iv (-1) 7 x3_21 → tq_iv (-1) 5 x4_21 → tq_iv 0 8 x5_21 → (2147483647 - x5_21.toInt).toNat < n_21 → tz_O (fun (z : Int32) => tq_iv (-2147483648) 2147483647 z) (k_21 h0 x1 x2_21 x3_21 x4_21 x5_21)) → ∀ (x2_21 : Int32) (x3_21 : Int32) (x4_21 : Int32) (x5_21 : Int32), tq_iv (-1) 7 x3_21 → tq_iv (-1) 5 x4_21 → tq_iv 0 8 x5_21 → (2147483647 - x5_21.toInt).toNat < n_21 + 1 → tz_O (fun (z : Int32) => tq_iv (-2147483648) 2147483647 z) (z_X12_broken_21 σ k_21 h0 x1 x2_21 x3_21 x4_21 x5_21) := by
      intro n_21 k_21 hk_21 x2_21 x3_21 x4_21 x5_21 i_x3_21 i_x4_21 i_x5_21 hn_21
      unfold z_X12_broken_21
      refine tz_bd (tz_X12_many hT k_h0) (fun t_24 i_t_24 => ?_)
      refine tz_if _ (fun c6763 => ?_) (fun c6763 => ?_)
      ·
        have K_101 : ∀ (y0_101 : Int32), tz_O (fun (z : Int32) => tq_iv (-2147483648) 2147483647 z) (z_X12_broken_101 σ y0_101) := by
          intro y0_101
          unfold z_X12_broken_101
          exact tz_some (tq_top y0_101)
        refine tz_if _ (fun c6761 => ?_) (fun c6761 => ?_)
        ·
          have i4_x1 : tq_iv 0 0 x1 := tq_cut i2_x1 (tq_eqL c6761 tk_0) (by decide) (by decide)
          exact K_101 x2_21
        ·
          have i5_x1 : tq_iv 1 2 x1 := tq_w (tq_neLo c6761 i2_x1 tk_0) (by decide) (by decide)
          refine tz_if _ (fun c6760 => ?_) (fun c6760 => ?_)
          ·
            have i6_x1 : tq_iv 1 1 x1 := tq_cut i5_x1 (tq_eqL c6760 tk_1) (by decide) (by decide)
            exact K_101 x3_21
          ·
            have i7_x1 : tq_iv 2 2 x1 := tq_w (tq_neLo c6760 i5_x1 tk_1) (by decide) (by decide)
            exact K_101 x4_21
      ·
        have i8_x5_21 : tq_iv 0 7 x5_21 := tq_cut i_x5_21 (tq_ltL (tq_nle c6763) i_x5_21 i_t_24) (by decide) (by decide)
        have i9_t_24 : tq_iv 1 8 t_24 := tq_cut i_t_24 (tq_ltR (tq_nle c6763) i_x5_21 i_t_24) (by decide) (by decide)
        have L_33 : ∀ (n_33 : Nat) (k_33 : Nat → Int32 → Int32 → Int32 → Int32 → Int32 → Int32 → Option (Int32)), (∀ (x2_33 : Int32) (x3_33 : Int32) (x4_33 : Int32) (x6_33 : Int32), tq_iv (-1) 7 x3_33 → tq_iv (-1) 5 x4_33 → tq_iv 0 6 x6_33 → (2147483647 - x6_33.toInt).toNat < n_33 → tz_O (fun (z : Int32) => tq_iv (-2147483648) 2147483647 z) (k_33 h0 x1 x2_33 x3_33 x4_33 x5_21 x6_33)) → ∀ (x2_33 : Int32) (x3_33 : Int32) (x4_33 : Int32) (x6_33 : Int32), tq_iv (-1) 7 x3_33 → tq_iv (-1) 5 x4_33 → tq_iv 0 6 x6_33 → (2147483647 - x6_33.toInt).toNat < n_33 + 1 → tz_O (fun (z : Int32) => tq_iv (-2147483648) 2147483647 z) (z_X12_broken_33 σ k_21 k_33 h0 x1 x2_33 x3_33 x4_33 x5_21 x6_33) := by
          intro n_33 k_33 hk_33 x2_33 x3_33 x4_33 x6_33 i_x3_33 i_x4_33 i_x6_33 hn_33
          unfold z_X12_broken_33
          refine tz_bd (tz_X12_bolts hT k_h0) (fun t_36 i_t_36 => ?_)
          refine tz_if _ (fun c6755 => ?_) (fun c6755 => ?_)
          ·
            refine tz_let (fun t_76 e6748 => ?_)
            have i10_t_76 : tq_iv 1 8 t_76 := tq_w (tq_add e6748 i8_x5_21 tk_1 (by decide) (by decide)) (by decide) (by decide)
            exact hk_21 x2_33 x3_33 x4_33 t_76 i_x3_33 i_x4_33 (tq_w i10_t_76 (by decide) (by decide)) (tq_up e6748 i8_x5_21 tk_1 (by decide) (by decide) hn_21)
          ·
            have i11_x6_33 : tq_iv 0 5 x6_33 := tq_cut i_x6_33 (tq_ltL (tq_nle c6755) i_x6_33 i_t_36) (by decide) (by decide)
            have i12_t_36 : tq_iv 1 6 t_36 := tq_cut i_t_36 (tq_ltR (tq_nle c6755) i_x6_33 i_t_36) (by decide) (by decide)
            refine tz_bd (tz_X12_isBroken hT k_h0 i8_x5_21 i11_x6_33) (fun t_47 i_t_47 => ?_)
            have K_70 : ∀ (x2_70 : Int32) (x3_70 : Int32) (x4_70 : Int32), tq_iv (-1) 7 x3_70 → tq_iv (-1) 5 x4_70 → tz_O (fun (z : Int32) => tq_iv (-2147483648) 2147483647 z) (z_X12_broken_70 σ k_21 k_33 h0 x1 x2_70 x3_70 x4_70 x5_21 x6_33) := by
              intro x2_70 x3_70 x4_70 i_x3_70 i_x4_70
              unfold z_X12_broken_70
              refine tz_let (fun t_70 e6744 => ?_)
              have i13_t_70 : tq_iv 1 6 t_70 := tq_w (tq_add e6744 i11_x6_33 tk_1 (by decide) (by decide)) (by decide) (by decide)
              exact hk_33 x2_70 x3_70 x4_70 t_70 i_x3_70 i_x4_70 (tq_w i13_t_70 (by decide) (by decide)) (tq_up e6744 i11_x6_33 tk_1 (by decide) (by decide) hn_33)
            refine tz_if _ (fun c6753 => ?_) (fun c6753 => ?_)
            ·
              have i14_t_47 : tq_iv 0 0 t_47 := tq_cut i_t_47 (tq_eqL c6753 tk_0) (by decide) (by decide)
              exact K_70 x2_33 x3_33 x4_33 i_x3_33 i_x4_33
            ·
              have i15_t_47 : tq_iv 1 1 t_47 := tq_w (tq_neLo c6753 i_t_47 tk_0) (by decide) (by decide)
              have K_67 : ∀ (x3_67 : Int32) (x4_67 : Int32), tq_iv (-1) 7 x3_67 → tq_iv (-1) 5 x4_67 → tz_O (fun (z : Int32) => tq_iv (-2147483648) 2147483647 z) (z_X12_broken_67 σ k_21 k_33 h0 x1 x2_33 x3_67 x4_67 x5_21 x6_33) := by
                intro x3_67 x4_67 i_x3_67 i_x4_67
                unfold z_X12_broken_67
                refine tz_let (fun t_67 e6746 => ?_)
                exact K_70 t_67 x3_67 x4_67 i_x3_67 i_x4_67
              refine tz_if _ (fun c6752 => ?_) (fun c6752 => ?_)
              ·
                have i16_x2_33 : tq_iv 0 0 x2_33 := tq_cut (tq_top x2_33) (tq_eqL c6752 tk_0) (by decide) (by decide)
                exact K_67 x5_21 x6_33 (tq_w i8_x5_21 (by decide) (by decide)) (tq_w i11_x6_33 (by decide) (by decide))
              ·
                exact K_67 x3_33 x4_33 i_x3_33 i_x4_33
        have E_33 : ∀ (x2_33 : Int32) (x3_33 : Int32) (x4_33 : Int32) (x6_33 : Int32), tq_iv (-1) 7 x3_33 → tq_iv (-1) 5 x4_33 → tq_iv 0 6 x6_33 → tz_O (fun (z : Int32) => tq_iv (-2147483648) 2147483647 z) (ez_fix (fun _ _ _ _ _ _ _ => none) (z_X12_broken_33 σ k_21) ez_N h0 x1 x2_33 x3_33 x4_33 x5_21 x6_33) := by
          intro x2_33 x3_33 x4_33 x6_33 i_x3_33 i_x4_33 i_x6_33
          exact ez_fix_indn (fun n_33 (k_33 : Nat → Int32 → Int32 → Int32 → Int32 → Int32 → Int32 → Option (Int32)) => ∀ (x2_33 : Int32) (x3_33 : Int32) (x4_33 : Int32) (x6_33 : Int32), tq_iv (-1) 7 x3_33 → tq_iv (-1) 5 x4_33 → tq_iv 0 6 x6_33 → (2147483647 - x6_33.toInt).toNat < n_33 → tz_O (fun (z : Int32) => tq_iv (-2147483648) 2147483647 z) (k_33 h0 x1 x2_33 x3_33 x4_33 x5_21 x6_33)) (by intros; rename_i h; exact absurd h (Nat.not_lt_zero _)) L_33 ez_N x2_33 x3_33 x4_33 x6_33 i_x3_33 i_x4_33 i_x6_33 (tq_m0 x6_33)
        exact E_33 x2_21 x3_21 x4_21 (0 : Int32) i_x3_21 i_x4_21 (tq_w tk_0 (by decide) (by decide))
    have E_21 : ∀ (x2_21 : Int32) (x3_21 : Int32) (x4_21 : Int32) (x5_21 : Int32), tq_iv (-1) 7 x3_21 → tq_iv (-1) 5 x4_21 → tq_iv 0 8 x5_21 → tz_O (fun (z : Int32) => tq_iv (-2147483648) 2147483647 z) (ez_fix (fun _ _ _ _ _ _ => none) (z_X12_broken_21 σ) ez_N h0 x1 x2_21 x3_21 x4_21 x5_21) := by
      intro x2_21 x3_21 x4_21 x5_21 i_x3_21 i_x4_21 i_x5_21
      exact ez_fix_indn (fun n_21 (k_21 : Nat → Int32 → Int32 → Int32 → Int32 → Int32 → Option (Int32)) => ∀ (x2_21 : Int32) (x3_21 : Int32) (x4_21 : Int32) (x5_21 : Int32), tq_iv (-1) 7 x3_21 → tq_iv (-1) 5 x4_21 → tq_iv 0 8 x5_21 → (2147483647 - x5_21.toInt).toNat < n_21 → tz_O (fun (z : Int32) => tq_iv (-2147483648) 2147483647 z) (k_21 h0 x1 x2_21 x3_21 x4_21 x5_21)) (by intros; rename_i h; exact absurd h (Nat.not_lt_zero _)) L_21 ez_N x2_21 x3_21 x4_21 x5_21 i_x3_21 i_x4_21 i_x5_21 (tq_m0 x5_21)
    exact E_21 (0 : Int32) (-1 : Int32) (-1 : Int32) (0 : Int32) (tq_w tk_m1 (by decide) (by decide)) (tq_w tk_m1 (by decide) (by decide)) (tq_w tk_0 (by decide) (by decide))
set_option maxRecDepth 4000 in
theorem tz_X12_isRoom {p : tz_P} {σ : ez_H} {h0 : Nat} {x1 : Int32} (hT : tp p σ) (k_h0 : tz_C h0 = some (3, 12, 0, 0)) : tz_O (fun z => tq_iv 0 1 z ∧ (¬ z = 0 → tq_iv 0 5 x1)) (z_X12_isRoom σ h0 x1) := by
  unfold z_X12_isRoom
  refine tz_bd (tz_ob hT k_h0) (fun _ _ => ?_)
  refine tz_bk (tr_16 hT k_h0) ?_
  refine tz_be (tg_12_43 hT k_h0) (fun t_7 e6775 i_t_7 => ?_)
  refine tz_be (tz_ia hT tc_178 (te_178 (p := p)) i_t_7 (by decide) (by decide)) (fun t_10 e6774 i_t_10 => ?_)
  refine tz_let (fun t_12 e6773 => ?_)
  have i1_t_12 : tq_iv (-1) 5 t_12 := tq_w (tq_sub e6773 i_t_10 tk_1 (by decide) (by decide)) (by decide) (by decide)
  refine tz_bd (tz_X12_isIn hT) (fun t_13 ⟨i_t_13, g_t_13⟩ => ?_)
  refine tz_nr (tq_nr_boolean i_t_13) ?_
  exact tz_some ⟨i_t_13, (fun h => tq_w (tq_cut (lo := 0) (hi := 5) (tq_cut (lo := 0) (hi := 2147483647) (tq_top x1) (tq_leR (g_t_13 h).1 tk_0 (tq_top x1)) (by decide) (by decide)) (tq_leL (g_t_13 h).2 (tq_top x1) i1_t_12) (by decide) (by decide)) (by decide) (by decide))⟩
set_option maxRecDepth 4000 in
theorem tz_X12_bunch {p : tz_P} {σ : ez_H} {h0 : Nat} {x1 : Int32} {x2 : Int32} {x3 : Int32} (hT : tp p σ) (k_h0 : tz_C h0 = some (3, 12, 0, 0)) : tz_O (fun z => tq_iv (-2147483648) 2147483647 z) (z_X12_bunch σ h0 x1 x2 x3) := by
  unfold z_X12_bunch
  refine tz_bd (tz_ob hT k_h0) (fun _ _ => ?_)
  refine tz_bd (tz_X12_isRoom hT k_h0) (fun t_2 ⟨i_t_2, g_t_2⟩ => ?_)
  have K_25 : tz_O (fun (z : Int32) => tq_iv (-2147483648) 2147483647 z) (z_X12_bunch_25 σ) := by
    unfold z_X12_bunch_25
    exact tz_some (tq_top (-1 : Int32))
  refine tz_if _ (fun c6819 => ?_) (fun c6819 => ?_)
  ·
    have i1_t_2 : tq_iv 0 0 t_2 := tq_cut i_t_2 (tq_eqL c6819 tk_0) (by decide) (by decide)
    exact K_25 
  ·
    have i2_x1 : tq_iv 0 5 x1 := tq_cut (tq_top x1) (g_t_2 c6819) (by decide) (by decide)
    have i3_t_2 : tq_iv 1 1 t_2 := tq_w (tq_neLo c6819 i_t_2 tk_0) (by decide) (by decide)
    refine tz_bd (tz_X12_isRoom hT k_h0) (fun t_10 ⟨i_t_10, g_t_10⟩ => ?_)
    refine tz_if _ (fun c6817 => ?_) (fun c6817 => ?_)
    ·
      have i4_t_10 : tq_iv 0 0 t_10 := tq_cut i_t_10 (tq_eqL c6817 tk_0) (by decide) (by decide)
      exact K_25 
    ·
      have i5_x2 : tq_iv 0 5 x2 := tq_cut (tq_top x2) (g_t_10 c6817) (by decide) (by decide)
      have i6_t_10 : tq_iv 1 1 t_10 := tq_w (tq_neLo c6817 i_t_10 tk_0) (by decide) (by decide)
      refine tz_bd (tz_X12_isIn hT) (fun t_19 ⟨i_t_19, g_t_19⟩ => ?_)
      refine tz_if _ (fun c6815 => ?_) (fun c6815 => ?_)
      ·
        have i7_t_19 : tq_iv 0 0 t_19 := tq_cut i_t_19 (tq_eqL c6815 tk_0) (by decide) (by decide)
        exact K_25 
      ·
        have i8_x3 : tq_iv 0 1 x3 := tq_cut (tq_top x3) (tq_cut (lo := 0) (hi := 1) (tq_cut (lo := 0) (hi := 2147483647) (tq_top x3) (tq_leR (g_t_19 c6815).1 tk_0 (tq_top x3)) (by decide) (by decide)) (tq_leL (g_t_19 c6815).2 (tq_top x3) tk_1) (by decide) (by decide)) (by decide) (by decide)
        have i9_t_19 : tq_iv 1 1 t_19 := tq_w (tq_neLo c6815 i_t_19 tk_0) (by decide) (by decide)
        refine tz_bd (tz_X12_many hT k_h0) (fun t_32 i_t_32 => ?_)
        refine tz_let (fun t_35 e6813 => ?_)
        have i10_t_35 : tq_iv 1 256 t_35 := tq_shl1 e6813 i_t_32 (by decide) (by decide) (by decide) (by decide)
        refine tz_let (fun t_37 e6812 => ?_)
        have i11_t_37 : tq_iv 0 255 t_37 := tq_w (tq_sub e6812 i10_t_35 tk_1 (by decide) (by decide)) (by decide) (by decide)
        refine tz_bd (tz_X12_keysBy hT k_h0 (tq_w tk_m2 (by decide) (by decide))) (fun t_41 i_t_41 => ?_)
        refine tz_let (fun t_45 e6810 => ?_)
        refine tz_let (fun t_46 e6809 => ?_)
        have i12_t_46 : tq_iv 0 255 t_46 := tq_and1 e6809 i11_t_37 (by decide)
        have L_52 : ∀ (n_52 : Nat) (k_52 : Nat → Int32 → Int32 → Int32 → Int32 → Int32 → Int32 → Option (Int32)), (∀ (x4_52 : Int32) (x6_52 : Int32), tq_iv (-1) 269 x4_52 → tq_iv 0 256 x6_52 → (2147483647 - x6_52.toInt).toNat < n_52 → tz_O (fun (z : Int32) => tq_iv (-2147483648) 2147483647 z) (k_52 h0 x1 x2 x3 x4_52 t_46 x6_52)) → ∀ (x4_52 : Int32) (x6_52 : Int32), tq_iv (-1) 269 x4_52 → tq_iv 0 256 x6_52 → (2147483647 - x6_52.toInt).toNat < n_52 + 1 → tz_O (fun (z : Int32) => tq_iv (-2147483648) 2147483647 z) (z_X12_bunch_52 σ k_52 h0 x1 x2 x3 x4_52 t_46 x6_52) := by
          intro n_52 k_52 hk_52 x4_52 x6_52 i_x4_52 i_x6_52 hn_52
          unfold z_X12_bunch_52
          refine tz_if _ (fun c6804 => ?_) (fun c6804 => ?_)
          ·
            have i13_x6_52 : tq_iv 1 256 x6_52 := tq_cut i_x6_52 (tq_ltR c6804 i12_t_46 i_x6_52) (by decide) (by decide)
            have K_137 : ∀ (y0_137 : Int32), tz_O (fun (z : Int32) => tq_iv (-2147483648) 2147483647 z) (z_X12_bunch_137 σ y0_137) := by
              intro y0_137
              unfold z_X12_bunch_137
              exact tz_some (tq_top y0_137)
            refine tz_if _ (fun c6792 => ?_) (fun c6792 => ?_)
            ·
              have i14_x4_52 : tq_iv 0 269 x4_52 := tq_cut i_x4_52 (tq_leR c6792 tk_0 i_x4_52) (by decide) (by decide)
              refine tz_if _ (fun c6790 => ?_) (fun c6790 => ?_)
              ·
                have i15_x3 : tq_iv 0 0 x3 := tq_cut i8_x3 (tq_eqL c6790 tk_0) (by decide) (by decide)
                refine tz_bd (tz_X12_bitsOf hT) (fun t_129 i_t_129 => ?_)
                exact K_137 t_129
              ·
                have i16_x3 : tq_iv 1 1 x3 := tq_w (tq_neLo c6790 i8_x3 tk_0) (by decide) (by decide)
                exact K_137 x4_52
            ·
              have i17_x4_52 : tq_iv (-1) (-1) x4_52 := tq_cut i_x4_52 (tq_ltL (tq_nle c6792) i_x4_52 tk_0) (by decide) (by decide)
              exact K_137 (-1 : Int32)
          ·
            have i18_x6_52 : tq_iv 0 255 x6_52 := tq_cut i_x6_52 (tq_leL (tq_nlt c6804) i_x6_52 i12_t_46) (by decide) (by decide)
            refine tz_let (fun t_64 e6803 => ?_)
            refine tz_let (fun t_65 e6802 => ?_)
            have i19_t_65 : tq_iv 0 255 t_65 := tq_and1 e6802 i18_x6_52 (by decide)
            have K_108 : ∀ (x4_108 : Int32), tq_iv (-1) 269 x4_108 → tz_O (fun (z : Int32) => tq_iv (-2147483648) 2147483647 z) (z_X12_bunch_108 σ k_52 h0 x1 x2 x3 x4_108 t_46 x6_52) := by
              intro x4_108 i_x4_108
              unfold z_X12_bunch_108
              refine tz_let (fun t_108 e6781 => ?_)
              have i20_t_108 : tq_iv 1 256 t_108 := tq_w (tq_add e6781 i18_x6_52 tk_1 (by decide) (by decide)) (by decide) (by decide)
              exact hk_52 x4_108 t_108 i_x4_108 (tq_w i20_t_108 (by decide) (by decide)) (tq_up e6781 i18_x6_52 tk_1 (by decide) (by decide) hn_52)
            refine tz_if _ (fun c6801 => ?_) (fun c6801 => ?_)
            ·
              have i21_t_65 : tq_iv 0 0 t_65 := tq_cut i19_t_65 (tq_eqL c6801 tk_0) (by decide) (by decide)
              have K_90 : tz_O (fun (z : Int32) => tq_iv (-2147483648) 2147483647 z) (z_X12_bunch_90 σ k_52 h0 x1 x2 x3 x4_52 t_46 x6_52) := by
                unfold z_X12_bunch_90
                refine tz_bd (tz_X12_reachBy hT k_h0 i2_x1) (fun t_94 i_t_94 => ?_)
                refine tz_bd (tz_X12_bit hT) (fun t_98 i_t_98 => ?_)
                refine tz_if _ (fun c6784 => ?_) (fun c6784 => ?_)
                ·
                  have i22_t_98 : tq_iv 0 0 t_98 := tq_cut i_t_98 (tq_eqL c6784 tk_0) (by decide) (by decide)
                  exact K_108 x4_52 i_x4_52
                ·
                  have i23_t_98 : tq_iv 1 1 t_98 := tq_w (tq_neLo c6784 i_t_98 tk_0) (by decide) (by decide)
                  exact K_108 x6_52 (tq_w i18_x6_52 (by decide) (by decide))
              refine tz_if _ (fun c6799 => ?_) (fun c6799 => ?_)
              ·
                have i24_x4_52 : tq_iv (-1) (-1) x4_52 := tq_cut i_x4_52 (tq_ltL c6799 i_x4_52 tk_0) (by decide) (by decide)
                exact K_90 
              ·
                have i25_x4_52 : tq_iv 0 269 x4_52 := tq_cut i_x4_52 (tq_leR (tq_nlt c6799) tk_0 i_x4_52) (by decide) (by decide)
                refine tz_bd (tz_X12_bitsOf hT) (fun t_76 i_t_76 => ?_)
                refine tz_bd (tz_X12_bitsOf hT) (fun t_81 i_t_81 => ?_)
                refine tz_if _ (fun c6796 => ?_) (fun c6796 => ?_)
                ·
                  have i26_t_76 : tq_iv (-2147483648) 2147483646 t_76 := tq_cut (tq_top t_76) (tq_ltL c6796 (tq_top t_76) (tq_top t_81)) (by decide) (by decide)
                  have i27_t_81 : tq_iv (-2147483647) 2147483647 t_81 := tq_cut (tq_top t_81) (tq_ltR c6796 (tq_top t_76) (tq_top t_81)) (by decide) (by decide)
                  exact K_90 
                ·
                  exact K_108 x4_52 (tq_w i25_x4_52 (by decide) (by decide))
            ·
              have i28_t_65 : tq_iv 1 255 t_65 := tq_w (tq_neLo c6801 i19_t_65 tk_0) (by decide) (by decide)
              exact K_108 x4_52 i_x4_52
        have E_52 : ∀ (x4_52 : Int32) (x6_52 : Int32), tq_iv (-1) 269 x4_52 → tq_iv 0 256 x6_52 → tz_O (fun (z : Int32) => tq_iv (-2147483648) 2147483647 z) (ez_fix (fun _ _ _ _ _ _ _ => none) (z_X12_bunch_52 σ) ez_N h0 x1 x2 x3 x4_52 t_46 x6_52) := by
          intro x4_52 x6_52 i_x4_52 i_x6_52
          exact ez_fix_indn (fun n_52 (k_52 : Nat → Int32 → Int32 → Int32 → Int32 → Int32 → Int32 → Option (Int32)) => ∀ (x4_52 : Int32) (x6_52 : Int32), tq_iv (-1) 269 x4_52 → tq_iv 0 256 x6_52 → (2147483647 - x6_52.toInt).toNat < n_52 → tz_O (fun (z : Int32) => tq_iv (-2147483648) 2147483647 z) (k_52 h0 x1 x2 x3 x4_52 t_46 x6_52)) (by intros; rename_i h; exact absurd h (Nat.not_lt_zero _)) L_52 ez_N x4_52 x6_52 i_x4_52 i_x6_52 (tq_m0 x6_52)
        exact E_52 (-1 : Int32) (0 : Int32) (tq_w tk_m1 (by decide) (by decide)) (tq_w tk_0 (by decide) (by decide))
set_option maxRecDepth 4000 in
theorem tz_X12_comers {p : tz_P} {σ : ez_H} {h0 : Nat} {x1 : Int32} (hT : tp p σ) (k_h0 : tz_C h0 = some (3, 12, 0, 0)) : tz_O (fun z => tq_iv (-1) 15 z) (z_X12_comers σ h0 x1) := by
  unfold z_X12_comers
  refine tz_bd (tz_ob hT k_h0) (fun _ _ => ?_)
  refine tz_bd (tz_X12_isRoom hT k_h0) (fun t_2 ⟨i_t_2, g_t_2⟩ => ?_)
  refine tz_if _ (fun c6838 => ?_) (fun c6838 => ?_)
  ·
    have i1_t_2 : tq_iv 0 0 t_2 := tq_cut i_t_2 (tq_eqL c6838 tk_0) (by decide) (by decide)
    exact tz_some (tq_w tk_m1 (by decide) (by decide))
  ·
    have i2_x1 : tq_iv 0 5 x1 := tq_cut (tq_top x1) (g_t_2 c6838) (by decide) (by decide)
    have i3_t_2 : tq_iv 1 1 t_2 := tq_w (tq_neLo c6838 i_t_2 tk_0) (by decide) (by decide)
    have L_14 : ∀ (n_14 : Nat) (k_14 : Nat → Int32 → Int32 → Int32 → Option (Int32)), (∀ (x2_14 : Int32) (x3_14 : Int32), tq_iv 0 15 x2_14 → tq_iv 0 4 x3_14 → (2147483647 - x3_14.toInt).toNat < n_14 → tz_O (fun (z : Int32) => tq_iv (-1) 15 z) (k_14 h0 x1 x2_14 x3_14)) → ∀ (x2_14 : Int32) (x3_14 : Int32), tq_iv 0 15 x2_14 → tq_iv 0 4 x3_14 → (2147483647 - x3_14.toInt).toNat < n_14 + 1 → tz_O (fun (z : Int32) => tq_iv (-1) 15 z) (z_X12_comers_14 σ k_14 h0 x1 x2_14 x3_14) := by
      intro n_14 k_14 hk_14 x2_14 x3_14 i_x2_14 i_x3_14 hn_14
      unfold z_X12_comers_14
      refine tz_bk (tr_18 hT k_h0) ?_
      refine tz_be (tg_12_43 hT k_h0) (fun t_20 e6834 i_t_20 => ?_)
      refine tz_be (tz_ia hT tc_180 (te_180 (p := p)) i_t_20 (by decide) (by decide)) (fun t_23 e6833 i_t_23 => ?_)
      refine tz_if _ (fun c6832 => ?_) (fun c6832 => ?_)
      ·
        exact tz_some (tq_w i_x2_14 (by decide) (by decide))
      ·
        have i4_x3_14 : tq_iv 0 3 x3_14 := tq_cut i_x3_14 (tq_ltL (tq_nle c6832) i_x3_14 i_t_23) (by decide) (by decide)
        have i5_t_23 : tq_iv 1 4 t_23 := tq_cut i_t_23 (tq_ltR (tq_nle c6832) i_x3_14 i_t_23) (by decide) (by decide)
        refine tz_bd (tz_X12_reachOf hT k_h0 i4_x3_14) (fun t_29 i_t_29 => ?_)
        refine tz_bd (tz_X12_bit hT) (fun t_33 i_t_33 => ?_)
        have K_45 : ∀ (x2_45 : Int32), tq_iv 0 15 x2_45 → tz_O (fun (z : Int32) => tq_iv (-1) 15 z) (z_X12_comers_45 σ k_14 h0 x1 x2_45 x3_14) := by
          intro x2_45 i_x2_45
          unfold z_X12_comers_45
          refine tz_let (fun t_45 e6823 => ?_)
          have i6_t_45 : tq_iv 1 4 t_45 := tq_w (tq_add e6823 i4_x3_14 tk_1 (by decide) (by decide)) (by decide) (by decide)
          exact hk_14 x2_45 t_45 i_x2_45 (tq_w i6_t_45 (by decide) (by decide)) (tq_up e6823 i4_x3_14 tk_1 (by decide) (by decide) hn_14)
        refine tz_if _ (fun c6829 => ?_) (fun c6829 => ?_)
        ·
          have i7_t_33 : tq_iv 0 0 t_33 := tq_cut i_t_33 (tq_eqL c6829 tk_0) (by decide) (by decide)
          exact K_45 x2_14 i_x2_14
        ·
          have i8_t_33 : tq_iv 1 1 t_33 := tq_w (tq_neLo c6829 i_t_33 tk_0) (by decide) (by decide)
          refine tz_let (fun t_42 e6828 => ?_)
          have i9_t_42 : tq_iv 1 8 t_42 := tq_shl1 e6828 i4_x3_14 (by decide) (by decide) (by decide) (by decide)
          refine tz_let (fun t_43 e6827 => ?_)
          have i10_t_43 : tq_iv 0 15 t_43 := tq_or e6827 i_x2_14 i9_t_42 4 (by decide) (by decide) (by decide) (by decide) (by decide)
          exact K_45 t_43 i10_t_43
    have E_14 : ∀ (x2_14 : Int32) (x3_14 : Int32), tq_iv 0 15 x2_14 → tq_iv 0 4 x3_14 → tz_O (fun (z : Int32) => tq_iv (-1) 15 z) (ez_fix (fun _ _ _ _ => none) (z_X12_comers_14 σ) ez_N h0 x1 x2_14 x3_14) := by
      intro x2_14 x3_14 i_x2_14 i_x3_14
      exact ez_fix_indn (fun n_14 (k_14 : Nat → Int32 → Int32 → Int32 → Option (Int32)) => ∀ (x2_14 : Int32) (x3_14 : Int32), tq_iv 0 15 x2_14 → tq_iv 0 4 x3_14 → (2147483647 - x3_14.toInt).toNat < n_14 → tz_O (fun (z : Int32) => tq_iv (-1) 15 z) (k_14 h0 x1 x2_14 x3_14)) (by intros; rename_i h; exact absurd h (Nat.not_lt_zero _)) L_14 ez_N x2_14 x3_14 i_x2_14 i_x3_14 (tq_m0 x3_14)
    exact E_14 (0 : Int32) (0 : Int32) (tq_w tk_0 (by decide) (by decide)) (tq_w tk_0 (by decide) (by decide))
set_option maxRecDepth 4000 in
theorem tz_X12_areLocks {p : tz_P} {σ : ez_H} {h0 : Nat} {x1 : Int32} (hT : tp p σ) (k_h0 : tz_C h0 = some (3, 12, 0, 0)) : tz_O (fun z => tq_iv 0 1 z) (z_X12_areLocks σ h0 x1) := by
  unfold z_X12_areLocks
  refine tz_bd (tz_ob hT k_h0) (fun _ _ => ?_)
  refine tz_bd (tz_X12_bolts hT k_h0) (fun t_3 i_t_3 => ?_)
  refine tz_let (fun t_6 e6849 => ?_)
  have i1_t_6 : tq_iv 1 64 t_6 := tq_shl1 e6849 i_t_3 (by decide) (by decide) (by decide) (by decide)
  refine tz_let (fun t_8 e6848 => ?_)
  have i2_t_8 : tq_iv 0 63 t_8 := tq_w (tq_sub e6848 i1_t_6 tk_1 (by decide) (by decide)) (by decide) (by decide)
  refine tz_let (fun t_10 e6847 => ?_)
  refine tz_let (fun t_11 e6846 => ?_)
  have K_20 : ∀ (y0_20 : Int32), tq_iv 0 1 y0_20 → (¬ y0_20 = 0 → tq_iv 0 0 t_11) → tz_O (fun (z : Int32) => tq_iv 0 1 z) (z_X12_areLocks_20 σ y0_20) := by
    intro y0_20 i_y0_20 g20_y0_20_t_11
    unfold z_X12_areLocks_20
    refine tz_nr (tq_nr_boolean i_y0_20) ?_
    exact tz_some i_y0_20
  refine tz_if _ (fun c6845 => ?_) (fun c6845 => ?_)
  ·
    have i3_t_11 : tq_iv 0 0 t_11 := tq_cut (tq_top t_11) (tq_eqL c6845 tk_0) (by decide) (by decide)
    exact K_20 (1 : Int32) (tq_w tk_1 (by decide) (by decide)) (fun _ => i3_t_11)
  ·
    exact K_20 (0 : Int32) (tq_w tk_0 (by decide) (by decide)) (fun h => absurd rfl h)
theorem tz_X12_openers {p : tz_P} {σ : ez_H} {h0 : Nat} {x1 : Int32} (hT : tp p σ) (k_h0 : tz_C h0 = some (3, 12, 0, 0)) : tz_O (fun z => tq_iv 0 2147483647 z) (z_X12_openers σ h0 x1) := by
  have L : ∀ (n : Nat) (k : Nat → Int32 → Int32 → Int32 → Option Int32), (∀ x2 x3 : Int32, 0 ≤ x2.toInt → x2.toInt ≤ x3.toInt → x3.toInt ≤ 7776 → (2147483647 - x3.toInt).toNat < n → tz_O (fun z => tq_iv 0 2147483647 z) (k h0 x1 x2 x3)) → ∀ x2 x3 : Int32, 0 ≤ x2.toInt → x2.toInt ≤ x3.toInt → x3.toInt ≤ 7776 → (2147483647 - x3.toInt).toNat < n + 1 → tz_O (fun z => tq_iv 0 2147483647 z) (z_X12_openers_4 σ k h0 x1 x2 x3) := by
    intro n k hk x2 x3 h1 h2 h3 hn
    unfold z_X12_openers_4
    refine tz_bd (tz_X12_bittings hT k_h0) (fun t6 i6 => ?_)
    refine tz_if _ (fun _ => tz_some ⟨h1, (tq_top x2).2⟩) (fun c => ?_)
    rw [Int32.le_iff_toInt_le] at c
    have c2 := i6.2
    have K : ∀ y : Int32, 0 ≤ y.toInt → y.toInt ≤ x3.toInt + 1 → tz_O (fun z => tq_iv 0 2147483647 z) (z_X12_openers_34 σ k h0 x1 y x3) := by
      intro y hy1 hy2
      unfold z_X12_openers_34
      refine tz_let (fun t e => ?_)
      have ht : t.toInt = x3.toInt + 1 := by
        rw [e]
        exact tq_addT (a := 0) (b := 7776) (c := 1) (d := 1) ⟨by omega, by omega⟩ tk_1 (by decide) (by decide)
      exact hk y t hy1 (by omega) (by omega) (by omega)
    refine tz_bd (tz_X12_isLegal hT k_h0) (fun t14 _ => ?_)
    refine tz_if _ (fun _ => K x2 h1 (by omega)) (fun _ => ?_)
    refine tz_bd (tz_X12_openedBy hT k_h0) (fun t22 _ => ?_)
    refine tz_let (fun t26 _ => ?_)
    refine tz_if _ (fun _ => ?_) (fun _ => K x2 h1 (by omega))
    refine tz_let (fun t31 e => ?_)
    have ht : t31.toInt = x2.toInt + 1 := by
      rw [e]
      exact tq_addT (a := 0) (b := 7776) (c := 1) (d := 1) ⟨by omega, by omega⟩ tk_1 (by decide) (by decide)
    exact K t31 (by omega) (by omega)
  unfold z_X12_openers
  refine tz_bd (tz_ob hT k_h0) (fun _ _ => ?_)
  exact ez_fix_indn (fun n (k : Nat → Int32 → Int32 → Int32 → Option Int32) => ∀ x2 x3 : Int32, 0 ≤ x2.toInt → x2.toInt ≤ x3.toInt → x3.toInt ≤ 7776 → (2147483647 - x3.toInt).toNat < n → tz_O (fun z => tq_iv 0 2147483647 z) (k h0 x1 x2 x3)) (by intros; rename_i h; exact absurd h (Nat.not_lt_zero _)) L ez_N 0 0 (by decide) (by decide) (by decide) (tq_m0 _)
set_option maxRecDepth 4000 in
theorem tz_X12_cutFor {p : tz_P} {σ : ez_H} {h0 : Nat} {x1 : Int32} {x2 : Int32} (hT : tp p σ) (k_h0 : tz_C h0 = some (3, 12, 0, 0)) : tz_O (fun z => tq_iv (-1) 7775 z) (z_X12_cutFor σ h0 x1 x2) := by
  unfold z_X12_cutFor
  refine tz_bd (tz_ob hT k_h0) (fun _ _ => ?_)
  refine tz_bd (tz_X12_areLocks hT k_h0) (fun t_2 i_t_2 => ?_)
  have K_16 : tz_O (fun (z : Int32) => tq_iv (-1) 7775 z) (z_X12_cutFor_16 σ) := by
    unfold z_X12_cutFor_16
    exact tz_some (tq_w tk_m1 (by decide) (by decide))
  refine tz_if _ (fun c6894 => ?_) (fun c6894 => ?_)
  ·
    have i1_t_2 : tq_iv 0 0 t_2 := tq_cut i_t_2 (tq_eqL c6894 tk_0) (by decide) (by decide)
    exact K_16 
  ·
    have i2_t_2 : tq_iv 1 1 t_2 := tq_w (tq_neLo c6894 i_t_2 tk_0) (by decide) (by decide)
    refine tz_bd (tz_X12_areLocks hT k_h0) (fun t_10 i_t_10 => ?_)
    refine tz_if _ (fun c6892 => ?_) (fun c6892 => ?_)
    ·
      have i3_t_10 : tq_iv 0 0 t_10 := tq_cut i_t_10 (tq_eqL c6892 tk_0) (by decide) (by decide)
      exact K_16 
    ·
      have i4_t_10 : tq_iv 1 1 t_10 := tq_w (tq_neLo c6892 i_t_10 tk_0) (by decide) (by decide)
      have L_20 : ∀ (n_20 : Nat) (k_20 : Nat → Int32 → Int32 → Int32 → Option (Int32)), (∀ (x3_20 : Int32), tq_iv 0 7776 x3_20 → (2147483647 - x3_20.toInt).toNat < n_20 → tz_O (fun (z : Int32) => tq_iv (-1) 7775 z) (k_20 h0 x1 x2 x3_20)) → ∀ (x3_20 : Int32), tq_iv 0 7776 x3_20 → (2147483647 - x3_20.toInt).toNat < n_20 + 1 → tz_O (fun (z : Int32) => tq_iv (-1) 7775 z) (z_X12_cutFor_20 σ k_20 h0 x1 x2 x3_20) := by
        intro n_20 k_20 hk_20 x3_20 i_x3_20 hn_20
        unfold z_X12_cutFor_20
        refine tz_bd (tz_X12_bittings hT k_h0) (fun t_22 i_t_22 => ?_)
        refine tz_if _ (fun c6887 => ?_) (fun c6887 => ?_)
        ·
          have i5_x3_20 : tq_iv 1 7776 x3_20 := tq_cut i_x3_20 (tq_leR c6887 i_t_22 i_x3_20) (by decide) (by decide)
          exact tz_some (tq_w tk_m1 (by decide) (by decide))
        ·
          have i6_x3_20 : tq_iv 0 7775 x3_20 := tq_cut i_x3_20 (tq_ltL (tq_nle c6887) i_x3_20 i_t_22) (by decide) (by decide)
          refine tz_bd (tz_X12_isLegal hT k_h0) (fun t_30 ⟨i_t_30, g_t_30⟩ => ?_)
          have K_45 : ∀ (y0_45 : Int32), tq_iv 0 63 y0_45 → tz_O (fun (z : Int32) => tq_iv (-1) 7775 z) (z_X12_cutFor_45 σ k_20 h0 x1 x2 x3_20 y0_45) := by
            intro y0_45 i_y0_45
            unfold z_X12_cutFor_45
            refine tz_bd (tz_X12_isLegal hT k_h0) (fun t_49 ⟨i_t_49, g_t_49⟩ => ?_)
            have K_72 : tz_O (fun (z : Int32) => tq_iv (-1) 7775 z) (z_X12_cutFor_72 σ k_20 h0 x1 x2 x3_20) := by
              unfold z_X12_cutFor_72
              refine tz_let (fun t_72 e6870 => ?_)
              have i7_t_72 : tq_iv 1 7776 t_72 := tq_w (tq_add e6870 i6_x3_20 tk_1 (by decide) (by decide)) (by decide) (by decide)
              exact hk_20 t_72 (tq_w i7_t_72 (by decide) (by decide)) (tq_up e6870 i6_x3_20 tk_1 (by decide) (by decide) hn_20)
            refine tz_if _ (fun c6879 => ?_) (fun c6879 => ?_)
            ·
              have i8_t_49 : tq_iv 0 0 t_49 := tq_cut i_t_49 (tq_eqL c6879 tk_0) (by decide) (by decide)
              exact K_72 
            ·
              have i9_t_49 : tq_iv 1 1 t_49 := tq_w (tq_neLo c6879 i_t_49 tk_0) (by decide) (by decide)
              refine tz_let (fun t_58 e6878 => ?_)
              have i10_t_58 : tq_iv 0 63 t_58 := tq_and1 e6878 i_y0_45 (by decide)
              refine tz_if _ (fun c6877 => ?_) (fun c6877 => ?_)
              ·
                have i11_x1 : tq_iv 0 63 x1 := tq_cut (tq_top x1) (tq_eqL (Eq.symm c6877) i10_t_58) (by decide) (by decide)
                refine tz_let (fun t_66 e6875 => ?_)
                have i12_t_66 : tq_iv 0 63 t_66 := tq_and1 e6875 i_y0_45 (by decide)
                refine tz_if _ (fun c6874 => ?_) (fun c6874 => ?_)
                ·
                  have i13_t_66 : tq_iv 0 0 t_66 := tq_cut i12_t_66 (tq_eqL c6874 tk_0) (by decide) (by decide)
                  exact tz_some (tq_w i6_x3_20 (by decide) (by decide))
                ·
                  have i14_t_66 : tq_iv 1 63 t_66 := tq_w (tq_neLo c6874 i12_t_66 tk_0) (by decide) (by decide)
                  exact K_72 
              ·
                exact K_72 
          refine tz_if _ (fun c6885 => ?_) (fun c6885 => ?_)
          ·
            have i15_t_30 : tq_iv 0 0 t_30 := tq_cut i_t_30 (tq_eqL c6885 tk_0) (by decide) (by decide)
            exact K_45 (0 : Int32) (tq_w tk_0 (by decide) (by decide))
          ·
            have i16_t_30 : tq_iv 1 1 t_30 := tq_w (tq_neLo c6885 i_t_30 tk_0) (by decide) (by decide)
            refine tz_bd (tz_X12_openedBy hT k_h0) (fun t_38 i_t_38 => ?_)
            exact K_45 t_38 i_t_38
      have E_20 : ∀ (x3_20 : Int32), tq_iv 0 7776 x3_20 → tz_O (fun (z : Int32) => tq_iv (-1) 7775 z) (ez_fix (fun _ _ _ _ => none) (z_X12_cutFor_20 σ) ez_N h0 x1 x2 x3_20) := by
        intro x3_20 i_x3_20
        exact ez_fix_indn (fun n_20 (k_20 : Nat → Int32 → Int32 → Int32 → Option (Int32)) => ∀ (x3_20 : Int32), tq_iv 0 7776 x3_20 → (2147483647 - x3_20.toInt).toNat < n_20 → tz_O (fun (z : Int32) => tq_iv (-1) 7775 z) (k_20 h0 x1 x2 x3_20)) (by intros; rename_i h; exact absurd h (Nat.not_lt_zero _)) L_20 ez_N x3_20 i_x3_20 (tq_m0 x3_20)
      exact E_20 (0 : Int32) (tq_w tk_0 (by decide) (by decide))
set_option maxRecDepth 4000 in
theorem tz_X12_common {p : tz_P} {σ : ez_H} {h0 : Nat} {x1 : Int32} {x2 : Int32} (hT : tp p σ) (k_h0 : tz_C h0 = some (3, 12, 0, 0)) : tz_O (fun z => tq_iv (-1) 2147483647 z) (z_X12_common σ h0 x1 x2) := by
  unfold z_X12_common
  refine tz_bd (tz_ob hT k_h0) (fun _ _ => ?_)
  refine tz_bd (tz_X12_areLocks hT k_h0) (fun t_2 i_t_2 => ?_)
  have K_17 : tz_O (fun (z : Int32) => tq_iv (-1) 2147483647 z) (z_X12_common_17 σ) := by
    unfold z_X12_common_17
    exact tz_some (tq_w tk_m1 (by decide) (by decide))
  refine tz_if _ (fun c6908 => ?_) (fun c6908 => ?_)
  ·
    have i1_t_2 : tq_iv 0 0 t_2 := tq_cut i_t_2 (tq_eqL c6908 tk_0) (by decide) (by decide)
    exact K_17 
  ·
    have i2_t_2 : tq_iv 1 1 t_2 := tq_w (tq_neLo c6908 i_t_2 tk_0) (by decide) (by decide)
    refine tz_bd (tz_X12_isIn hT) (fun t_11 ⟨i_t_11, g_t_11⟩ => ?_)
    refine tz_if _ (fun c6906 => ?_) (fun c6906 => ?_)
    ·
      have i3_t_11 : tq_iv 0 0 t_11 := tq_cut i_t_11 (tq_eqL c6906 tk_0) (by decide) (by decide)
      exact K_17 
    ·
      have i4_x2 : tq_iv 0 1 x2 := tq_cut (tq_top x2) (tq_cut (lo := 0) (hi := 1) (tq_cut (lo := 0) (hi := 2147483647) (tq_top x2) (tq_leR (g_t_11 c6906).1 tk_0 (tq_top x2)) (by decide) (by decide)) (tq_leL (g_t_11 c6906).2 (tq_top x2) tk_1) (by decide) (by decide)) (by decide) (by decide)
      have i5_t_11 : tq_iv 1 1 t_11 := tq_w (tq_neLo c6906 i_t_11 tk_0) (by decide) (by decide)
      have K_37 : ∀ (y0_37 : Int32), tq_iv (-1) 2147483647 y0_37 → tz_O (fun (z : Int32) => tq_iv (-1) 2147483647 z) (z_X12_common_37 σ y0_37) := by
        intro y0_37 i_y0_37
        unfold z_X12_common_37
        exact tz_some i_y0_37
      refine tz_if _ (fun c6905 => ?_) (fun c6905 => ?_)
      ·
        have i6_x2 : tq_iv 0 0 x2 := tq_cut i4_x2 (tq_eqL c6905 tk_0) (by decide) (by decide)
        refine tz_bd (tz_X12_openers hT k_h0) (fun t_25 i_t_25 => ?_)
        exact K_37 t_25 (tq_w i_t_25 (by decide) (by decide))
      ·
        have i7_x2 : tq_iv 1 1 x2 := tq_w (tq_neLo c6905 i4_x2 tk_0) (by decide) (by decide)
        refine tz_bd (tz_X12_cutFor hT k_h0) (fun t_34 i_t_34 => ?_)
        exact K_37 t_34 (tq_w i_t_34 (by decide) (by decide))
set_option maxRecDepth 4000 in
theorem tz_X12_isKey {p : tz_P} {σ : ez_H} {h0 : Nat} {x1 : Int32} (hT : tp p σ) (k_h0 : tz_C h0 = some (3, 12, 0, 0)) : tz_O (fun z => tq_iv 0 1 z ∧ (¬ z = 0 → tq_iv 0 7 x1)) (z_X12_isKey σ h0 x1) := by
  unfold z_X12_isKey
  refine tz_bd (tz_ob hT k_h0) (fun _ _ => ?_)
  refine tz_bd (tz_X12_many hT k_h0) (fun t_3 i_t_3 => ?_)
  refine tz_let (fun t_7 e6914 => ?_)
  have i1_t_7 : tq_iv (-1) 7 t_7 := tq_w (tq_sub e6914 i_t_3 tk_1 (by decide) (by decide)) (by decide) (by decide)
  refine tz_bd (tz_X12_isIn hT) (fun t_8 ⟨i_t_8, g_t_8⟩ => ?_)
  refine tz_nr (tq_nr_boolean i_t_8) ?_
  exact tz_some ⟨i_t_8, (fun h => tq_w (tq_cut (lo := 0) (hi := 7) (tq_cut (lo := 0) (hi := 2147483647) (tq_top x1) (tq_leR (g_t_8 h).1 tk_0 (tq_top x1)) (by decide) (by decide)) (tq_leL (g_t_8 h).2 (tq_top x1) i1_t_7) (by decide) (by decide)) (by decide) (by decide))⟩
set_option maxRecDepth 4000 in
theorem tz_X12_isChamber {p : tz_P} {σ : ez_H} {h0 : Nat} {x1 : Int32} (hT : tp p σ) (k_h0 : tz_C h0 = some (3, 12, 0, 0)) : tz_O (fun z => tq_iv 0 1 z ∧ (¬ z = 0 → tq_iv 0 4 x1)) (z_X12_isChamber σ h0 x1) := by
  unfold z_X12_isChamber
  refine tz_bd (tz_ob hT k_h0) (fun _ _ => ?_)
  refine tz_bd (tz_X12_wide hT k_h0) (fun t_3 i_t_3 => ?_)
  refine tz_let (fun t_7 e6920 => ?_)
  have i1_t_7 : tq_iv 1 4 t_7 := tq_w (tq_sub e6920 i_t_3 tk_1 (by decide) (by decide)) (by decide) (by decide)
  refine tz_bd (tz_X12_isIn hT) (fun t_8 ⟨i_t_8, g_t_8⟩ => ?_)
  refine tz_nr (tq_nr_boolean i_t_8) ?_
  exact tz_some ⟨i_t_8, (fun h => tq_w (tq_cut (lo := 0) (hi := 4) (tq_cut (lo := 0) (hi := 2147483647) (tq_top x1) (tq_leR (g_t_8 h).1 tk_0 (tq_top x1)) (by decide) (by decide)) (tq_leL (g_t_8 h).2 (tq_top x1) i1_t_7) (by decide) (by decide)) (by decide) (by decide))⟩
set_option maxRecDepth 4000 in
theorem tz_X12_cut {p : tz_P} {σ : ez_H} {h0 : Nat} {x1 : Int32} {x2 : Int32} (hT : tp p σ) (k_h0 : tz_C h0 = some (3, 12, 0, 0)) : tz_O (fun z => tq_iv (-2147483648) 2147483647 z) (z_X12_cut σ h0 x1 x2) := by
  unfold z_X12_cut
  refine tz_bd (tz_ob hT k_h0) (fun _ _ => ?_)
  refine tz_bd (tz_X12_isKey hT k_h0) (fun t_2 ⟨i_t_2, g_t_2⟩ => ?_)
  have K_26 : ∀ (y0_26 : Int32), tz_O (fun (z : Int32) => tq_iv (-2147483648) 2147483647 z) (z_X12_cut_26 σ y0_26) := by
    intro y0_26
    unfold z_X12_cut_26
    exact tz_some (tq_top y0_26)
  have K_25 : tz_O (fun (z : Int32) => tq_iv (-2147483648) 2147483647 z) (z_X12_cut_25 σ) := by
    unfold z_X12_cut_25
    exact K_26 (-1 : Int32)
  refine tz_if _ (fun c6931 => ?_) (fun c6931 => ?_)
  ·
    have i1_t_2 : tq_iv 0 0 t_2 := tq_cut i_t_2 (tq_eqL c6931 tk_0) (by decide) (by decide)
    exact K_25 
  ·
    have i2_x1 : tq_iv 0 7 x1 := tq_cut (tq_top x1) (g_t_2 c6931) (by decide) (by decide)
    have i3_t_2 : tq_iv 1 1 t_2 := tq_w (tq_neLo c6931 i_t_2 tk_0) (by decide) (by decide)
    refine tz_bd (tz_X12_isChamber hT k_h0) (fun t_10 ⟨i_t_10, g_t_10⟩ => ?_)
    refine tz_if _ (fun c6929 => ?_) (fun c6929 => ?_)
    ·
      have i4_t_10 : tq_iv 0 0 t_10 := tq_cut i_t_10 (tq_eqL c6929 tk_0) (by decide) (by decide)
      exact K_25 
    ·
      have i5_x2 : tq_iv 0 4 x2 := tq_cut (tq_top x2) (g_t_10 c6929) (by decide) (by decide)
      have i6_t_10 : tq_iv 1 1 t_10 := tq_w (tq_neLo c6929 i_t_10 tk_0) (by decide) (by decide)
      refine tz_bd (tz_X12_cutOf hT k_h0 i2_x1 i5_x2) (fun t_19 i_t_19 => ?_)
      exact K_26 t_19
set_option maxRecDepth 4000 in
theorem tz_X12_isDoor {p : tz_P} {σ : ez_H} {h0 : Nat} {x1 : Int32} (hT : tp p σ) (k_h0 : tz_C h0 = some (3, 12, 0, 0)) : tz_O (fun z => tq_iv 0 1 z ∧ (¬ z = 0 → tq_iv 0 7 x1)) (z_X12_isDoor σ h0 x1) := by
  unfold z_X12_isDoor
  refine tz_bd (tz_ob hT k_h0) (fun _ _ => ?_)
  refine tz_bk (tr_17 hT k_h0) ?_
  refine tz_be (tg_12_43 hT k_h0) (fun t_7 e6939 i_t_7 => ?_)
  refine tz_be (tz_ia hT tc_179 (te_179 (p := p)) i_t_7 (by decide) (by decide)) (fun t_10 e6938 i_t_10 => ?_)
  refine tz_let (fun t_12 e6937 => ?_)
  have i1_t_12 : tq_iv (-1) 7 t_12 := tq_w (tq_sub e6937 i_t_10 tk_1 (by decide) (by decide)) (by decide) (by decide)
  refine tz_bd (tz_X12_isIn hT) (fun t_13 ⟨i_t_13, g_t_13⟩ => ?_)
  refine tz_nr (tq_nr_boolean i_t_13) ?_
  exact tz_some ⟨i_t_13, (fun h => tq_w (tq_cut (lo := 0) (hi := 7) (tq_cut (lo := 0) (hi := 2147483647) (tq_top x1) (tq_leR (g_t_13 h).1 tk_0 (tq_top x1)) (by decide) (by decide)) (tq_leL (g_t_13 h).2 (tq_top x1) i1_t_12) (by decide) (by decide)) (by decide) (by decide))⟩
set_option maxRecDepth 4000 in
theorem tz_X12_door {p : tz_P} {σ : ez_H} {h0 : Nat} {x1 : Int32} {x2 : Int32} (hT : tp p σ) (k_h0 : tz_C h0 = some (3, 12, 0, 0)) : tz_O (fun z => tq_iv (-1) 5 z) (z_X12_door σ h0 x1 x2) := by
  unfold z_X12_door
  refine tz_bd (tz_ob hT k_h0) (fun _ _ => ?_)
  refine tz_bd (tz_X12_isDoor hT k_h0) (fun t_2 ⟨i_t_2, g_t_2⟩ => ?_)
  refine tz_if _ (fun c6960 => ?_) (fun c6960 => ?_)
  ·
    have i1_t_2 : tq_iv 0 0 t_2 := tq_cut i_t_2 (tq_eqL c6960 tk_0) (by decide) (by decide)
    exact tz_some (tq_w tk_m1 (by decide) (by decide))
  ·
    have i2_x1 : tq_iv 0 7 x1 := tq_cut (tq_top x1) (g_t_2 c6960) (by decide) (by decide)
    have i3_t_2 : tq_iv 1 1 t_2 := tq_w (tq_neLo c6960 i_t_2 tk_0) (by decide) (by decide)
    refine tz_be (tg_12_43 hT k_h0) (fun t_13 e6959 i_t_13 => ?_)
    refine tz_let (fun t_16 e6958 => ?_)
    have i4_t_16 : tq_iv 0 8 t_16 := tq_w (tq_mul e6958 tk_8 i_t_13 (by decide) (by decide) (by decide)) (by decide) (by decide)
    refine tz_let (fun t_18 e6957 => ?_)
    have i5_t_18 : tq_iv 0 15 t_18 := tq_w (tq_add e6957 i4_t_16 i2_x1 (by decide) (by decide)) (by decide) (by decide)
    have K_62 : ∀ (y0_62 : Int32), tq_iv (-1) 5 y0_62 → tz_O (fun (z : Int32) => tq_iv (-1) 5 z) (z_X12_door_62 σ y0_62) := by
      intro y0_62 i_y0_62
      unfold z_X12_door_62
      exact tz_some i_y0_62
    refine tz_if _ (fun c6956 => ?_) (fun c6956 => ?_)
    ·
      have i6_x2 : tq_iv 0 0 x2 := tq_cut (tq_top x2) (tq_eqL c6956 tk_0) (by decide) (by decide)
      refine tz_bk (tr_24 hT k_h0) ?_
      refine tz_be (tz_ia hT tc_186 (te_186 (p := p)) i5_t_18 (by decide) (by decide)) (fun t_29 e6945 i_t_29 => ?_)
      exact K_62 t_29 (tq_w i_t_29 (by decide) (by decide))
    ·
      refine tz_if _ (fun c6955 => ?_) (fun c6955 => ?_)
      ·
        have i7_x2 : tq_iv 1 1 x2 := tq_cut (tq_top x2) (tq_eqL c6955 tk_1) (by decide) (by decide)
        refine tz_bk (tr_25 hT k_h0) ?_
        refine tz_be (tz_ia hT tc_187 (te_187 (p := p)) i5_t_18 (by decide) (by decide)) (fun t_43 e6948 i_t_43 => ?_)
        exact K_62 t_43 (tq_w i_t_43 (by decide) (by decide))
      ·
        refine tz_if _ (fun c6954 => ?_) (fun c6954 => ?_)
        ·
          have i8_x2 : tq_iv 2 2 x2 := tq_cut (tq_top x2) (tq_eqL c6954 tk_2) (by decide) (by decide)
          refine tz_bk (tr_26 hT k_h0) ?_
          refine tz_be (tz_ia hT tc_188 (te_188 (p := p)) i5_t_18 (by decide) (by decide)) (fun t_57 e6951 i_t_57 => ?_)
          exact K_62 t_57 (tq_w i_t_57 (by decide) (by decide))
        ·
          exact K_62 (-1 : Int32) (tq_w tk_m1 (by decide) (by decide))
set_option maxRecDepth 4000 in
theorem tz_X12_end {p : tz_P} {σ : ez_H} {h0 : Nat} {x1 : Int32} (hT : tp p σ) (k_h0 : tz_C h0 = some (3, 12, 0, 0)) : tz_O2 (fun (z : Int32) (s : ez_H) => tq_iv (-1) 1600 z ∧ tp p s) (z_X12_end σ h0 x1) := by
  show tz_O (fun z : Int32 × ez_H => (fun (z : Int32) (s : ez_H) => tq_iv (-1) 1600 z ∧ tp p s) z.1 z.2) _
  unfold z_X12_end
  refine tz_bd (tz_ob hT k_h0) (fun _ _ => ?_)
  have K_12 : tz_O (fun z : Int32 × ez_H => (fun (z : Int32) (s : ez_H) => tq_iv (-1) 1600 z ∧ tp p s) z.1 z.2) (z_X12_end_12 σ) := by
    unfold z_X12_end_12
    exact tz_some ⟨(tq_w tk_m1 (by decide) (by decide)), hT⟩
  refine tz_if _ (fun c6970 => ?_) (fun c6970 => ?_)
  ·
    have i1_x1 : tq_iv (-2147483648) (-1) x1 := tq_cut (tq_top x1) (tq_ltL c6970 (tq_top x1) tk_0) (by decide) (by decide)
    exact K_12 
  ·
    have i2_x1 : tq_iv 0 2147483647 x1 := tq_cut (tq_top x1) (tq_leR (tq_nlt c6970) tk_0 (tq_top x1)) (by decide) (by decide)
    refine tz_be (tg_12_2 hT k_h0) (fun t_6 e6969 i_t_6 => ?_)
    refine tz_if _ (fun c6968 => ?_) (fun c6968 => ?_)
    ·
      have i3_x1 : tq_iv 0 1600 x1 := tq_cut i2_x1 (tq_leL c6968 i2_x1 i_t_6) (by decide) (by decide)
      refine tz_be (tw_12_2 hT k_h0 i3_x1) (fun σ6966 e6966 T6966 => ?_)
      exact tz_some ⟨(tq_w i3_x1 (by decide) (by decide)), T6966⟩
    ·
      have i4_x1 : tq_iv 1 2147483647 x1 := tq_cut i2_x1 (tq_ltR (tq_nle c6968) i_t_6 i2_x1) (by decide) (by decide)
      exact K_12
set_option maxRecDepth 4000 in
theorem tz_X12_fault {p : tz_P} {σ : ez_H} {h0 : Nat} {x1 : Int32} (hT : tp p σ) (k_h0 : tz_C h0 = some (3, 12, 0, 0)) : tz_O (fun z => tq_iv (-2147483648) 2147483647 z) (z_X12_fault σ h0 x1) := by
  unfold z_X12_fault
  refine tz_bd (tz_ob hT k_h0) (fun _ _ => ?_)
  have K_24 : ∀ (y0_24 : Int32), tz_O (fun (z : Int32) => tq_iv (-2147483648) 2147483647 z) (z_X12_fault_24 σ y0_24) := by
    intro y0_24
    unfold z_X12_fault_24
    exact tz_some (tq_top y0_24)
  refine tz_if _ (fun c6979 => ?_) (fun c6979 => ?_)
  ·
    have i1_x1 : tq_iv 0 0 x1 := tq_cut (tq_top x1) (tq_eqL c6979 tk_0) (by decide) (by decide)
    refine tz_be (tg_12_4 hT k_h0) (fun t_5 e6974 i_t_5 => ?_)
    exact K_24 t_5
  ·
    refine tz_if _ (fun c6978 => ?_) (fun c6978 => ?_)
    ·
      have i2_x1 : tq_iv 1 1 x1 := tq_cut (tq_top x1) (tq_eqL c6978 tk_1) (by decide) (by decide)
      refine tz_be (tg_12_5 hT k_h0) (fun t_17 e6976 i_t_17 => ?_)
      exact K_24 t_17
    ·
      exact K_24 (-1 : Int32)
set_option maxRecDepth 4000 in
theorem tz_X12_feed {p : tz_P} {σ : ez_H} {h0 : Nat} {x1 : Int32} {x2 : Int32} {x3 : Int32} {x4 : Int32} {x5 : Int32} (hT : tp p σ) (k_h0 : tz_C h0 = some (3, 12, 0, 0)) : tz_O2 (fun (z : Int32) (s : ez_H) => tq_iv (-1) 1600 z ∧ tp p s) (z_X12_feed σ h0 x1 x2 x3 x4 x5) := by
  show tz_O (fun z : Int32 × ez_H => (fun (z : Int32) (s : ez_H) => tq_iv (-1) 1600 z ∧ tp p s) z.1 z.2) _
  unfold z_X12_feed
  obtain ⟨w0, e_w0, i_w0⟩ := tg_12_2 hT k_h0
  refine tz_bd (tz_ob hT k_h0) (fun _ _ => ?_)
  refine tz_ba e_w0 (fun t_1 e7011 a7011 => ?_)
  have i1_t_1 : tq_iv 0 1600 t_1 := tq_eqL a7011 i_w0
  refine tz_let (fun t_6 e7010 => ?_)
  have i2_t_6 : tq_iv 20 1620 t_6 := tq_w (tq_add e7010 i1_t_1 tk_20 (by decide) (by decide)) (by decide) (by decide)
  refine tz_if _ (fun c7009 => ?_) (fun c7009 => ?_)
  ·
    have i3_t_6 : tq_iv 20 1600 t_6 := tq_cut i2_t_6 (tq_leL c7009 i2_t_6 tk_1600) (by decide) (by decide)
    have i4_t_1 : tq_iv 0 1580 t_1 := tq_cut i1_t_1 (tq_addB e7010 i1_t_1 tk_20 i3_t_6 (by decide) (by decide)) (by decide) (by decide)
    have i5_w0 : tq_iv 0 1580 w0 := tq_cut i_w0 (tq_eqL (Eq.symm a7011) i4_t_1) (by decide) (by decide)
    have L_18 : ∀ (n_18 : Nat) (k_18 : ez_H → Nat → Int32 → Int32 → Int32 → Int32 → Int32 → Int32 → Option (Int32 × ez_H)), (∀ (σ_18 : ez_H) (x6_18 : Int32), tp p σ_18 → tq_iv 0 20 x6_18 → ez_gi σ_18 12 h0 2 = some w0 → (2147483647 - x6_18.toInt).toNat < n_18 → tz_O (fun z : Int32 × ez_H => (fun (z : Int32) (s : ez_H) => tq_iv (-1) 1600 z ∧ tp p s) z.1 z.2) (k_18 σ_18 h0 x1 x2 x3 x4 x5 x6_18)) → ∀ (σ_18 : ez_H) (x6_18 : Int32), tp p σ_18 → tq_iv 0 20 x6_18 → ez_gi σ_18 12 h0 2 = some w0 → (2147483647 - x6_18.toInt).toNat < n_18 + 1 → tz_O (fun z : Int32 × ez_H => (fun (z : Int32) (s : ez_H) => tq_iv (-1) 1600 z ∧ tp p s) z.1 z.2) (z_X12_feed_18 k_18 σ_18 h0 x1 x2 x3 x4 x5 x6_18) := by
      intro n_18 k_18 hk_18 σ_18 x6_18 T_σ_18 i_x6_18 f0_18 hn_18
      unfold z_X12_feed_18
      refine tz_if _ (fun c7006 => ?_) (fun c7006 => ?_)
      ·
        have i6_x6_18 : tq_iv 20 20 x6_18 := tq_cut i_x6_18 (tq_leR c7006 tk_20 i_x6_18) (by decide) (by decide)
        refine tz_ba f0_18 (fun t_107 e6996 a6996 => ?_)
        have i7_t_107 : tq_iv 0 1580 t_107 := tq_eqL a6996 i5_w0
        refine tz_let (fun t_112 e6995 => ?_)
        have i8_t_112 : tq_iv 20 1600 t_112 := tq_w (tq_add e6995 i7_t_107 tk_20 (by decide) (by decide)) (by decide) (by decide)
        refine tz_be (tw_12_2 T_σ_18 k_h0 (tq_w i8_t_112 (by decide) (by decide))) (fun σ6994 e6994 T6994 => ?_)
        refine tz_ba (fr_pf_gi e6994) (fun t_117 e6993 a6993 => ?_)
        have i9_t_117 : tq_iv 20 1600 t_117 := tq_eqL a6993 i8_t_112
        exact tz_some ⟨(tq_w i9_t_117 (by decide) (by decide)), T6994⟩
      ·
        have i10_x6_18 : tq_iv 0 19 x6_18 := tq_cut i_x6_18 (tq_ltL (tq_nle c7006) i_x6_18 tk_20) (by decide) (by decide)
        have K_71 : ∀ (y0_71 : Int32), tz_O (fun z : Int32 × ez_H => (fun (z : Int32) (s : ez_H) => tq_iv (-1) 1600 z ∧ tp p s) z.1 z.2) (z_X12_feed_71 k_18 σ_18 h0 x1 x2 x3 x4 x5 x6_18 y0_71) := by
          intro y0_71
          unfold z_X12_feed_71
          refine tz_bk (tr_0 T_σ_18 k_h0) ?_
          refine tz_ba f0_18 (fun t_78 e6990 a6990 => ?_)
          have i11_t_78 : tq_iv 0 1580 t_78 := tq_eqL a6990 i5_w0
          refine tz_let (fun t_83 e6989 => ?_)
          have i12_t_83 : tq_iv 0 1599 t_83 := tq_w (tq_add e6989 i11_t_78 i10_x6_18 (by decide) (by decide)) (by decide) (by decide)
          refine tz_let (fun t_93 e6988 => ?_)
          have i13_t_93 : tq_iv 0 3 t_93 := tq_and2 e6988 tk_3 (by decide)
          refine tz_let (fun t_94 e6987 => ?_)
          have i14_t_94 : tq_iv 0 24 t_94 := tq_w (tq_mul e6987 tk_8 i13_t_93 (by decide) (by decide) (by decide)) (by decide) (by decide)
          refine tz_let (fun t_95 e6986 => ?_)
          have i15_t_95 : tq_iv 0 24 t_95 := tq_w (tq_sub e6986 tk_24 i14_t_94 (by decide) (by decide)) (by decide) (by decide)
          refine tz_let (fun t_96 e6985 => ?_)
          refine tz_let (fun t_97 e6984 => ?_)
          refine tz_be (tz_is T_σ_18 tc_171 (te_1 (p := p)) i12_t_83 (by decide) (by decide) (tq_nar_byte t_97)) (fun σ6983 e6983 T6983 => ?_)
          refine tz_let (fun t_99 e6982 => ?_)
          have i16_t_99 : tq_iv 1 20 t_99 := tq_w (tq_add e6982 i10_x6_18 tk_1 (by decide) (by decide)) (by decide) (by decide)
          exact hk_18 σ6983 t_99 T6983 (tq_w i16_t_99 (by decide) (by decide)) ((fr_is_gi e6983).trans f0_18) (tq_up e6982 i10_x6_18 tk_1 (by decide) (by decide) hn_18)
        refine tz_if _ (fun c7005 => ?_) (fun c7005 => ?_)
        ·
          have i17_x6_18 : tq_iv 4 19 x6_18 := tq_cut i10_x6_18 (tq_leR c7005 tk_4 i10_x6_18) (by decide) (by decide)
          refine tz_if _ (fun c7003 => ?_) (fun c7003 => ?_)
          ·
            have i18_x6_18 : tq_iv 8 19 x6_18 := tq_cut i17_x6_18 (tq_leR c7003 tk_8 i17_x6_18) (by decide) (by decide)
            refine tz_if _ (fun c7001 => ?_) (fun c7001 => ?_)
            ·
              have i19_x6_18 : tq_iv 12 19 x6_18 := tq_cut i18_x6_18 (tq_leR c7001 tk_12 i18_x6_18) (by decide) (by decide)
              refine tz_if _ (fun c6999 => ?_) (fun c6999 => ?_)
              ·
                have i20_x6_18 : tq_iv 16 19 x6_18 := tq_cut i19_x6_18 (tq_leR c6999 tk_16 i19_x6_18) (by decide) (by decide)
                exact K_71 x5
              ·
                have i21_x6_18 : tq_iv 12 15 x6_18 := tq_cut i19_x6_18 (tq_ltL (tq_nle c6999) i19_x6_18 tk_16) (by decide) (by decide)
                exact K_71 x4
            ·
              have i22_x6_18 : tq_iv 8 11 x6_18 := tq_cut i18_x6_18 (tq_ltL (tq_nle c7001) i18_x6_18 tk_12) (by decide) (by decide)
              exact K_71 x3
          ·
            have i23_x6_18 : tq_iv 4 7 x6_18 := tq_cut i17_x6_18 (tq_ltL (tq_nle c7003) i17_x6_18 tk_8) (by decide) (by decide)
            exact K_71 x2
        ·
          have i24_x6_18 : tq_iv 0 3 x6_18 := tq_cut i10_x6_18 (tq_ltL (tq_nle c7005) i10_x6_18 tk_4) (by decide) (by decide)
          exact K_71 x1
    have E_18 : ∀ (σ_18 : ez_H) (x6_18 : Int32), tp p σ_18 → tq_iv 0 20 x6_18 → ez_gi σ_18 12 h0 2 = some w0 → tz_O (fun z : Int32 × ez_H => (fun (z : Int32) (s : ez_H) => tq_iv (-1) 1600 z ∧ tp p s) z.1 z.2) (ez_fix (fun _ _ _ _ _ _ _ _ => none) (z_X12_feed_18) ez_N σ_18 h0 x1 x2 x3 x4 x5 x6_18) := by
      intro σ_18 x6_18 T_σ_18 i_x6_18 f0_18
      exact ez_fix_indn (fun n_18 (k_18 : ez_H → Nat → Int32 → Int32 → Int32 → Int32 → Int32 → Int32 → Option (Int32 × ez_H)) => ∀ (σ_18 : ez_H) (x6_18 : Int32), tp p σ_18 → tq_iv 0 20 x6_18 → ez_gi σ_18 12 h0 2 = some w0 → (2147483647 - x6_18.toInt).toNat < n_18 → tz_O (fun z : Int32 × ez_H => (fun (z : Int32) (s : ez_H) => tq_iv (-1) 1600 z ∧ tp p s) z.1 z.2) (k_18 σ_18 h0 x1 x2 x3 x4 x5 x6_18)) (by intros; rename_i h; exact absurd h (Nat.not_lt_zero _)) L_18 ez_N σ_18 x6_18 T_σ_18 i_x6_18 f0_18 (tq_m0 x6_18)
    exact E_18 σ (0 : Int32) hT (tq_w tk_0 (by decide) (by decide)) e_w0
  ·
    have i25_t_6 : tq_iv 1601 1620 t_6 := tq_cut i2_t_6 (tq_ltR (tq_nle c7009) tk_1600 i2_t_6) (by decide) (by decide)
    have i26_t_1 : tq_iv 1581 1600 t_1 := tq_cut i1_t_1 (tq_addB e7010 i1_t_1 tk_20 i25_t_6 (by decide) (by decide)) (by decide) (by decide)
    have i27_w0 : tq_iv 1581 1600 w0 := tq_cut i_w0 (tq_eqL (Eq.symm a7011) i26_t_1) (by decide) (by decide)
    exact tz_some ⟨(tq_w tk_m1 (by decide) (by decide)), hT⟩
set_option maxRecDepth 4000 in
theorem tz_X12_deepen {p : tz_P} {σ : ez_H} {h0 : Nat} {x1 : Int32} {x2 : Int32} (hT : tp p σ) (k_h0 : tz_C h0 = some (3, 12, 0, 0)) (i_x1 : tq_iv 0 7 x1) (i_x2 : tq_iv 0 4 x2) : tz_O2 (fun (z : Int32) (s : ez_H) => tq_iv 0 1 z ∧ tp p s) (z_X12_deepen σ h0 x1 x2) := by
  show tz_O (fun z : Int32 × ez_H => (fun (z : Int32) (s : ez_H) => tq_iv 0 1 z ∧ tp p s) z.1 z.2) _
  unfold z_X12_deepen
  refine tz_bd (tz_ob hT k_h0) (fun _ _ => ?_)
  refine tz_bd (tz_X12_cutOf hT k_h0 i_x1 i_x2) (fun t_3 i_t_3 => ?_)
  refine tz_bd (tz_X12_deep hT k_h0) (fun t_7 i_t_7 => ?_)
  refine tz_let (fun t_11 e7034 => ?_)
  have i1_t_11 : tq_iv 1 5 t_11 := tq_w (tq_sub e7034 i_t_7 tk_1 (by decide) (by decide)) (by decide) (by decide)
  refine tz_if _ (fun c7033 => ?_) (fun c7033 => ?_)
  ·
    have i2_t_3 : tq_iv 1 5 t_3 := tq_cut (tq_top t_3) (tq_eqL c7033 i1_t_11) (by decide) (by decide)
    exact tz_some ⟨(tq_w tk_0 (by decide) (by decide)), hT⟩
  ·
    refine tz_bk (tr_53 hT k_h0) ?_
    refine tz_let (fun t_24 e7031 => ?_)
    have i3_t_24 : tq_iv 0 35 t_24 := tq_w (tq_mul e7031 tk_5 i_x1 (by decide) (by decide) (by decide)) (by decide) (by decide)
    refine tz_let (fun t_25 e7030 => ?_)
    have i4_t_25 : tq_iv 0 35 t_25 := tq_w (tq_add e7030 tk_0 i3_t_24 (by decide) (by decide)) (by decide) (by decide)
    refine tz_let (fun t_27 e7029 => ?_)
    have i5_t_27 : tq_iv 0 39 t_27 := tq_w (tq_add e7029 i4_t_25 i_x2 (by decide) (by decide)) (by decide) (by decide)
    refine tz_be (tz_iaS hT tc_205 (ts_205 (p := p) 0 39 (-2147483648) 2147483647 (by decide)) i5_t_27 (by decide) (by decide)) (fun t_29 e7028 i_t_29 => ?_)
    refine tz_let (fun t_31 e7027 => ?_)
    refine tz_be (tz_isS hT tc_205 (tS_205 (p := p) 0 39 (-2147483648) 2147483647 (by decide)) i5_t_27 (by decide) (by decide) (tq_top t_31)) (fun σ7026 e7026 T7026 => ?_)
    refine tz_bd (tz_X12_numberOf T7026 k_h0 i_x1) (fun t_36 i_t_36 => ?_)
    refine tz_bd (tz_X12_isLegal T7026 k_h0) (fun t_39 ⟨i_t_39, g_t_39⟩ => ?_)
    refine tz_if _ (fun c7023 => ?_) (fun c7023 => ?_)
    ·
      have i6_t_39 : tq_iv 0 0 t_39 := tq_cut i_t_39 (tq_eqL c7023 tk_0) (by decide) (by decide)
      refine tz_bk (tr_53 T7026 k_h0) ?_
      refine tz_let (fun t_54 e7020 => ?_)
      have i7_t_54 : tq_iv 0 35 t_54 := tq_w (tq_mul e7020 tk_5 i_x1 (by decide) (by decide) (by decide)) (by decide) (by decide)
      refine tz_let (fun t_55 e7019 => ?_)
      have i8_t_55 : tq_iv 0 35 t_55 := tq_w (tq_add e7019 tk_0 i7_t_54 (by decide) (by decide)) (by decide) (by decide)
      refine tz_let (fun t_57 e7018 => ?_)
      have i9_t_57 : tq_iv 0 39 t_57 := tq_w (tq_add e7018 i8_t_55 i_x2 (by decide) (by decide)) (by decide) (by decide)
      refine tz_be (tz_iaS T7026 tc_205 (ts_205 (p := p) 0 39 (-2147483648) 2147483647 (by decide)) i9_t_57 (by decide) (by decide)) (fun t_59 e7017 i_t_59 => ?_)
      refine tz_let (fun t_61 e7016 => ?_)
      refine tz_be (tz_isS T7026 tc_205 (tS_205 (p := p) 0 39 (-2147483648) 2147483647 (by decide)) i9_t_57 (by decide) (by decide) (tq_top t_61)) (fun σ7015 e7015 T7015 => ?_)
      exact tz_some ⟨(tq_w tk_0 (by decide) (by decide)), T7015⟩
    ·
      have i10_t_36 : tq_iv 0 7775 t_36 := tq_cut (tq_top t_36) (g_t_39 c7023) (by decide) (by decide)
      have i11_t_39 : tq_iv 1 1 t_39 := tq_w (tq_neLo c7023 i_t_39 tk_0) (by decide) (by decide)
      exact tz_some ⟨(tq_w tk_1 (by decide) (by decide)), T7026⟩
theorem tz_X12_keepAct {p : tz_P} {σ : ez_H} {h0 : Nat} (hT : tp p σ) (k_h0 : tz_C h0 = some (3, 12, 0, 0)) : tz_O2 (fun (z : Unit) (s : ez_H) => tp (kp p) s) (z_X12_keepAct σ h0) := by
  have e91 := c91
  have K : ∀ s, tp (up p 4 39) s → tz_O (fun z : Unit × ez_H => tp (kp p) z.2) (z_X12_keepAct_49 s h0) := by
    intro s0 hs0
    unfold z_X12_keepAct_49
    refine lpG (fun (k : ez_H → Nat → Int32 → Option (Unit × ez_H)) (a : ez_H × Int32) => k a.1 h0 a.2) (fun a => tp (up p 4 39) a.1 ∧ 0 ≤ a.2.toInt ∧ a.2.toInt ≤ 91) (fun a => (2147483647 - a.2.toInt).toNat) ?_ (s0, 0) ⟨hs0, i00, i0n (by decide)⟩ (tq_m0 _)
    rintro k ⟨s, x⟩ ⟨hs, h1, h2⟩ hk
    have hs : tp (up p 4 39) s := hs
    have h1 : 0 ≤ x.toInt := h1
    show tz_O _ (z_X12_keepAct_51 k s h0 x)
    unfold z_X12_keepAct_51
    refine tz_if _ (fun _ => ?_) (fun c => ?_)
    · refine tz_bd (tz_gi hs k_h0 (tf_12_60 (p := up p 4 39))) (fun a ia => ?_)
      have ia : tq_iv 0 39 a := ia
      refine tz_let (fun t89 e89 => ?_)
      have h89 := tq_add e89 ia tk_1 (by decide) (by decide)
      obtain ⟨q1, q2⟩ := h89
      refine tz_bd (tz_up4 (v := 40) hs k_h0 (by omega) (by omega) (by decide)) (fun s2 hs2 => ?_)
      refine tz_bd (tz_up5 (v := 0) hs2 k_h0 (by decide) (by decide) (by decide)) (fun s3 hs3 => ?_)
      rw [up_up] at hs3
      exact tz_some hs3
    have c := nle_c c
    refine tz_bk (tr_59 hs k_h0) ?_
    refine tz_be (tg_12_60 hs k_h0) (fun a ea ia => ?_)
    refine tz_let (fun t18 e18 => tz_let (fun t20 e20 => ?_))
    have h20 := tq_91 e18 e20 ia h1 (by omega)
    obtain ⟨ia1, ia2⟩ := id ia
    refine tz_bk (tr_53 hs k_h0) ?_
    refine tz_bd (rd_205 hs h1 (by omega)) (fun w hw => ?_)
    refine tz_bd (wr_210 hs (by omega) (by omega) (by omega) hw) (fun s2 hs2 => ?_)
    refine tz_let (fun t e => ?_)
    have ht := tq_inc e h1 (by omega)
    exact hk (s2, t) ⟨hs2, by show 0 ≤ t.toInt; omega, by show t.toInt ≤ 91; omega⟩ (by show (2147483647 - t.toInt).toNat < (2147483647 - x.toInt).toNat; omega)
  unfold z_X12_keepAct
  refine tz_bd (tz_ob hT k_h0) (fun _ _ => ?_)
  refine tz_be (tg_12_60 hT k_h0) (fun t1 e1 i1 => ?_)
  obtain ⟨j1, j2⟩ := id i1
  have e40 : (40 : Int32).toInt = 40 := by decide
  refine tz_if _ (fun c => ?_) (fun c => K σ (tz_re4 hT k_h0 e1 j1 (by have := ne_c c; omega) (by decide)))
  refine lpG (fun (k : ez_H → Nat → Int32 → Option (Unit × ez_H)) (a : ez_H × Int32) => k a.1 h0 a.2) (fun a => tp p a.1 ∧ 0 ≤ a.2.toInt ∧ a.2.toInt ≤ 3640 ∧ ez_gi a.1 12 h0 60 = some t1) (fun a => (2147483647 - a.2.toInt).toNat) ?_ (σ, 0) ⟨hT, i00, i0n (by decide), e1⟩ (tq_m0 _)
  rintro k ⟨s, x⟩ ⟨hs, h1, h2, e1⟩ hk
  have hs : tp p s := hs
  have h1 : 0 ≤ x.toInt := h1
  have e1 : ez_gi s 12 h0 60 = some t1 := e1
  show tz_O _ (z_X12_keepAct_11 k s h0 x)
  unfold z_X12_keepAct_11
  have e36 : (3640 : Int32).toInt = 3640 := by decide
  refine tz_if _ (fun _ => ?_) (fun c2 => ?_)
  · refine tz_bk e1 ?_
    refine tz_let (fun t45 e45 => ?_)
    have h45 := tq_subT i1 tk_1 (by decide) (by decide)
    rw [← e45] at h45
    have o1 : (1 : Int32).toInt = 1 := by decide
    have := eq_c c
    refine tz_bd (tz_up4 (v := 39) hs k_h0 (by omega) (by omega) (by decide)) (fun s2 hs2 => ?_)
    exact K s2 hs2
  have c2 := nle_c c2
  refine tz_bk (tr_59 hs k_h0) ?_
  refine tz_bk (tr_59 hs k_h0) ?_
  refine tz_let (fun t30 e30 => ?_)
  have h30 : t30.toInt = x.toInt + 91 := by
    rw [e30, tq_addT (a := 0) (b := 3640) (c := 91) (d := 91) ⟨by omega, by omega⟩ ⟨by decide, by decide⟩ (by decide) (by decide), e91]
  refine tz_bd (rd_210 (k := x.toInt.toNat % 91) hs (by omega) (by omega) (by omega)) (fun w hw => ?_)
  refine tz_be (wr_210 hs (by omega) (by omega) rfl hw) (fun s2 es2 hs2 => ?_)
  refine tz_let (fun t e => ?_)
  have ht := tq_inc e h1 (by omega)
  exact hk (s2, t) ⟨hs2, by show 0 ≤ t.toInt; omega, by show t.toInt ≤ 3640; omega, (fr_is_gi es2).trans e1⟩ (by show (2147483647 - t.toInt).toNat < (2147483647 - x.toInt).toNat; omega)
