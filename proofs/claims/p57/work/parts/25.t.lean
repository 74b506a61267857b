set_option maxRecDepth 4000 in
theorem tz_X12_broken {p : tz_P} {σ : ez_H} {h0 : Nat} {x1 : Int32} (hT : tp p σ) (k_h0 : tz_C h0 = some (3, 12, 0, 0)) : tz_O (fun z => tq_iv (-2147483648) 2147483647 z) (z_X12_broken σ h0 x1) := by
  unfold z_X12_broken
  refine tz_bd (tz_ob hT k_h0) (fun _ _ => ?_)
  refine tz_bd (tz_X12_isIn hT) (fun t_3 ⟨i_t_3, g_t_3⟩ => ?_)
  refine tz_if _ (fun c6767 => ?_) (fun c6767 => ?_)
  ·
    have i1_t_3 : tq_iv 0 0 t_3 := tq_cut i_t_3 (tq_eqL c6767 tk_0) (by decide) (by decide)
    exact tz_some (tq_top (-1 : Int32))
  ·
    have i2_x1 : tq_iv 0 2 x1 := tq_cut (tq_top x1) (tq_cut (tq_cut (tq_top x1) (tq_leR (g_t_3 c6767).1 tk_0 (tq_top x1)) (by decide) (by decide)) (tq_leL (g_t_3 c6767).2 (tq_top x1) tk_2) (by decide) (by decide)) (by decide) (by decide)
    have i3_t_3 : tq_iv 1 1 t_3 := tq_w (tq_neLo c6767 i_t_3 tk_0) (by decide) (by decide)
    have L_21 : ∀ (n_21 : Nat) (k_21 : Nat → Int32 → Int32 → Int32 → Int32 → Int32 → Option (Int32)), (∀ (x2_21 : Int32) (x3_21 : Int32) (x4_21 : Int32) (x5_21 : Int32), tq_iv (-1) 7 x3_21 → tq_iv (-1) 5 x4_21 → tq_iv 0 8 x5_21 → (2147483647 - x5_21.toInt).toNat < n_21 → tz_O (fun (z : Int32) => tq_iv (-2147483648) 2147483647 z) (k_21 h0 x1 x2_21 x3_21 x4_21 x5_21)) → ∀ (x2_21 : Int32) (x3_21 : Int32) (x4_21 : Int32) (x5_21 : Int32), tq_iv (-1) 7 x3_21 → tq_iv (-1) 5 x4_21 → tq_iv 0 8 x5_21 → (2147483647 - x5_21.toInt).toNat < n_21 + 1 → tz_O (fun (z : Int32) => tq_iv (-2147483648) 2147483647 z) (z_X12_broken_21 σ k_21 h0 x1 x2_21 x3_21 x4_21 x5_21) := by
      intro n_21 k_21 hk_21 x2_21 x3_21 x4_21 x5_21 i_x3_21 i_x4_21 i_x5_21 hn_21
      unfold z_X12_broken_21
      refine tz_bd (tz_X12_many hT k_h0) (fun t_24 i_t_24 => ?_)
      refine tz_if _ (fun c6763 => ?_) (fun c6763 => ?_)
      ·
        have K_101 : ∀ (y0_101 : Int32), tz_O (fun (z : Int32) => tq_iv (-2147483648) 2147483647 z) (z_X12_broken_101 σ y0_101) := by
          intro y0_101
          unfold z_X12_broken_101
          exact tz_some (tq_top y0_101)
        refine tz_if _ (fun c6761 => ?_) (fun c6761 => ?_)
        ·
          have i4_x1 : tq_iv 0 0 x1 := tq_cut i2_x1 (tq_eqL c6761 tk_0) (by decide) (by decide)
          exact K_101 x2_21
        ·
          have i5_x1 : tq_iv 1 2 x1 := tq_w (tq_neLo c6761 i2_x1 tk_0) (by decide) (by decide)
          refine tz_if _ (fun c6760 => ?_) (fun c6760 => ?_)
          ·
            have i6_x1 : tq_iv 1 1 x1 := tq_cut i5_x1 (tq_eqL c6760 tk_1) (by decide) (by decide)
            exact K_101 x3_21
          ·
            have i7_x1 : tq_iv 2 2 x1 := tq_w (tq_neLo c6760 i5_x1 tk_1) (by decide) (by decide)
            exact K_101 x4_21
      ·
        have i8_x5_21 : tq_iv 0 7 x5_21 := tq_cut i_x5_21 (tq_ltL (tq_nle c6763) i_x5_21 i_t_24) (by decide) (by decide)
        have i9_t_24 : tq_iv 1 8 t_24 := tq_cut i_t_24 (tq_ltR (tq_nle c6763) i_x5_21 i_t_24) (by decide) (by decide)
        have L_33 : ∀ (n_33 : Nat) (k_33 : Nat → Int32 → Int32 → Int32 → Int32 → Int32 → Int32 → Option (Int32)), (∀ (x2_33 : Int32) (x3_33 : Int32) (x4_33 : Int32) (x6_33 : Int32), tq_iv (-1) 7 x3_33 → tq_iv (-1) 5 x4_33 → tq_iv 0 6 x6_33 → (2147483647 - x6_33.toInt).toNat < n_33 → tz_O (fun (z : Int32) => tq_iv (-2147483648) 2147483647 z) (k_33 h0 x1 x2_33 x3_33 x4_33 x5_21 x6_33)) → ∀ (x2_33 : Int32) (x3_33 : Int32) (x4_33 : Int32) (x6_33 : Int32), tq_iv (-1) 7 x3_33 → tq_iv (-1) 5 x4_33 → tq_iv 0 6 x6_33 → (2147483647 - x6_33.toInt).toNat < n_33 + 1 → tz_O (fun (z : Int32) => tq_iv (-2147483648) 2147483647 z) (z_X12_broken_33 σ k_21 k_33 h0 x1 x2_33 x3_33 x4_33 x5_21 x6_33) := by
          intro n_33 k_33 hk_33 x2_33 x3_33 x4_33 x6_33 i_x3_33 i_x4_33 i_x6_33 hn_33
          unfold z_X12_broken_33
          refine tz_bd (tz_X12_bolts hT k_h0) (fun t_36 i_t_36 => ?_)
          refine tz_if _ (fun c6755 => ?_) (fun c6755 => ?_)
          ·
            refine tz_let (fun t_76 e6748 => ?_)
            have i10_t_76 : tq_iv 1 8 t_76 := tq_w (tq_add e6748 i8_x5_21 tk_1 (by decide) (by decide)) (by decide) (by decide)
            exact hk_21 x2_33 x3_33 x4_33 t_76 i_x3_33 i_x4_33 (tq_w i10_t_76 (by decide) (by decide)) (tq_up e6748 i8_x5_21 tk_1 (by decide) (by decide) hn_21)
          ·
            have i11_x6_33 : tq_iv 0 5 x6_33 := tq_cut i_x6_33 (tq_ltL (tq_nle c6755) i_x6_33 i_t_36) (by decide) (by decide)
            have i12_t_36 : tq_iv 1 6 t_36 := tq_cut i_t_36 (tq_ltR (tq_nle c6755) i_x6_33 i_t_36) (by decide) (by decide)
            refine tz_bd (tz_X12_isBroken hT k_h0 i8_x5_21 i11_x6_33) (fun t_47 i_t_47 => ?_)
            have K_70 : ∀ (x2_70 : Int32) (x3_70 : Int32) (x4_70 : Int32), tq_iv (-1) 7 x3_70 → tq_iv (-1) 5 x4_70 → tz_O (fun (z : Int32) => tq_iv (-2147483648) 2147483647 z) (z_X12_broken_70 σ k_21 k_33 h0 x1 x2_70 x3_70 x4_70 x5_21 x6_33) := by
              intro x2_70 x3_70 x4_70 i_x3_70 i_x4_70
              unfold z_X12_broken_70
              refine tz_let (fun t_70 e6744 => ?_)
              have i13_t_70 : tq_iv 1 6 t_70 := tq_w (tq_add e6744 i11_x6_33 tk_1 (by decide) (by decide)) (by decide) (by decide)
              exact hk_33 x2_70 x3_70 x4_70 t_70 i_x3_70 i_x4_70 (tq_w i13_t_70 (by decide) (by decide)) (tq_up e6744 i11_x6_33 tk_1 (by decide) (by decide) hn_33)
            refine tz_if _ (fun c6753 => ?_) (fun c6753 => ?_)
            ·
              have i14_t_47 : tq_iv 0 0 t_47 := tq_cut i_t_47 (tq_eqL c6753 tk_0) (by decide) (by decide)
              exact K_70 x2_33 x3_33 x4_33 i_x3_33 i_x4_33
            ·
              have i15_t_47 : tq_iv 1 1 t_47 := tq_w (tq_neLo c6753 i_t_47 tk_0) (by decide) (by decide)
              have K_67 : ∀ (x3_67 : Int32) (x4_67 : Int32), tq_iv (-1) 7 x3_67 → tq_iv (-1) 5 x4_67 → tz_O (fun (z : Int32) => tq_iv (-2147483648) 2147483647 z) (z_X12_broken_67 σ k_21 k_33 h0 x1 x2_33 x3_67 x4_67 x5_21 x6_33) := by
                intro x3_67 x4_67 i_x3_67 i_x4_67
                unfold z_X12_broken_67
                refine tz_let (fun t_67 e6746 => ?_)
                exact K_70 t_67 x3_67 x4_67 i_x3_67 i_x4_67
              refine tz_if _ (fun c6752 => ?_) (fun c6752 => ?_)
              ·
                have i16_x2_33 : tq_iv 0 0 x2_33 := tq_cut (tq_top x2_33) (tq_eqL c6752 tk_0) (by decide) (by decide)
                exact K_67 x5_21 x6_33 (tq_w i8_x5_21 (by decide) (by decide)) (tq_w i11_x6_33 (by decide) (by decide))
              ·
                exact K_67 x3_33 x4_33 i_x3_33 i_x4_33
        have E_33 : ∀ (x2_33 : Int32) (x3_33 : Int32) (x4_33 : Int32) (x6_33 : Int32), tq_iv (-1) 7 x3_33 → tq_iv (-1) 5 x4_33 → tq_iv 0 6 x6_33 → tz_O (fun (z : Int32) => tq_iv (-2147483648) 2147483647 z) (ez_fix (fun _ _ _ _ _ _ _ => none) (z_X12_broken_33 σ k_21) ez_N h0 x1 x2_33 x3_33 x4_33 x5_21 x6_33) := by
          intro x2_33 x3_33 x4_33 x6_33 i_x3_33 i_x4_33 i_x6_33
          exact ez_fix_indn (fun n_33 (k_33 : Nat → Int32 → Int32 → Int32 → Int32 → Int32 → Int32 → Option (Int32)) => ∀ (x2_33 : Int32) (x3_33 : Int32) (x4_33 : Int32) (x6_33 : Int32), tq_iv (-1) 7 x3_33 → tq_iv (-1) 5 x4_33 → tq_iv 0 6 x6_33 → (2147483647 - x6_33.toInt).toNat < n_33 → tz_O (fun (z : Int32) => tq_iv (-2147483648) 2147483647 z) (k_33 h0 x1 x2_33 x3_33 x4_33 x5_21 x6_33)) (by intros; rename_i h; exact absurd h (Nat.not_lt_zero _)) L_33 ez_N x2_33 x3_33 x4_33 x6_33 i_x3_33 i_x4_33 i_x6_33 (tq_m0 x6_33)
        exact E_33 x2_21 x3_21 x4_21 (0 : Int32) i_x3_21 i_x4_21 (tq_w tk_0 (by decide) (by decide))
    have E_21 : ∀ (x2_21 : Int32) (x3_21 : Int32) (x4_21 : Int32) (x5_21 : Int32), tq_iv (-1) 7 x3_21 → tq_iv (-1) 5 x4_21 → tq_iv 0 8 x5_21 → tz_O (fun (z : Int32) => tq_iv (-2147483648) 2147483647 z) (ez_fix (fun _ _ _ _ _ _ => none) (z_X12_broken_21 σ) ez_N h0 x1 x2_21 x3_21 x4_21 x5_21) := by
      intro x2_21 x3_21 x4_21 x5_21 i_x3_21 i_x4_21 i_x5_21
      exact ez_fix_indn (fun n_21 (k_21 : Nat → Int32 → Int32 → Int32 → Int32 → Int32 → Option (Int32)) => ∀ (x2_21 : Int32) (x3_21 : Int32) (x4_21 : Int32) (x5_21 : Int32), tq_iv (-1) 7 x3_21 → tq_iv (-1) 5 x4_21 → tq_iv 0 8 x5_21 → (2147483647 - x5_21.toInt).toNat < n_21 → tz_O (fun (z : Int32) => tq_iv (-2147483648) 2147483647 z) (k_21 h0 x1 x2_21 x3_21 x4_21 x5_21)) (by intros; rename_i h; exact absurd h (Nat.not_lt_zero _)) L_21 ez_N x2_21 x3_21 x4_21 x5_21 i_x3_21 i_x4_21 i_x5_21 (tq_m0 x5_21)
    exact E_21 (0 : Int32) (-1 : Int32) (-1 : Int32) (0 : Int32) (tq_w tk_m1 (by decide) (by decide)) (tq_w tk_m1 (by decide) (by decide)) (tq_w tk_0 (by decide) (by decide))
set_option maxRecDepth 4000 in
theorem tz_X12_isRoom {p : tz_P} {σ : ez_H} {h0 : Nat} {x1 : Int32} (hT : tp p σ) (k_h0 : tz_C h0 = some (3, 12, 0, 0)) : tz_O (fun z => tq_iv 0 1 z ∧ (¬ z = 0 → tq_iv 0 5 x1)) (z_X12_isRoom σ h0 x1) := by
  unfold z_X12_isRoom
  refine tz_bd (tz_ob hT k_h0) (fun _ _ => ?_)
  refine tz_bk (tr_16 hT k_h0) ?_
  refine tz_be (tg_12_43 hT k_h0) (fun t_7 e6775 i_t_7 => ?_)
  refine tz_be (tz_ia hT tc_178 (te_178 (p := p)) i_t_7 (by decide) (by decide)) (fun t_10 e6774 i_t_10 => ?_)
  refine tz_let (fun t_12 e6773 => ?_)
  have i1_t_12 : tq_iv (-1) 5 t_12 := tq_w (tq_sub e6773 i_t_10 tk_1 (by decide) (by decide)) (by decide) (by decide)
  refine tz_bd (tz_X12_isIn hT) (fun t_13 ⟨i_t_13, g_t_13⟩ => ?_)
  refine tz_nr (tq_nr_boolean i_t_13) ?_
  exact tz_some ⟨i_t_13, (fun h => tq_w (tq_cut (tq_cut (tq_top x1) (tq_leR (g_t_13 h).1 tk_0 (tq_top x1)) (by decide) (by decide)) (tq_leL (g_t_13 h).2 (tq_top x1) i1_t_12) (by decide) (by decide)) (by decide) (by decide))⟩
set_option maxRecDepth 4000 in
theorem tz_X12_bunch {p : tz_P} {σ : ez_H} {h0 : Nat} {x1 : Int32} {x2 : Int32} {x3 : Int32} (hT : tp p σ) (k_h0 : tz_C h0 = some (3, 12, 0, 0)) : tz_O (fun z => tq_iv (-2147483648) 2147483647 z) (z_X12_bunch σ h0 x1 x2 x3) := by
  unfold z_X12_bunch
  refine tz_bd (tz_ob hT k_h0) (fun _ _ => ?_)
  refine tz_bd (tz_X12_isRoom hT k_h0) (fun t_2 ⟨i_t_2, g_t_2⟩ => ?_)
  have K_25 : tz_O (fun (z : Int32) => tq_iv (-2147483648) 2147483647 z) (z_X12_bunch_25 σ) := by
    unfold z_X12_bunch_25
    exact tz_some (tq_top (-1 : Int32))
  refine tz_if _ (fun c6819 => ?_) (fun c6819 => ?_)
  ·
    have i1_t_2 : tq_iv 0 0 t_2 := tq_cut i_t_2 (tq_eqL c6819 tk_0) (by decide) (by decide)
    exact K_25 
  ·
    have i2_x1 : tq_iv 0 5 x1 := tq_cut (tq_top x1) (g_t_2 c6819) (by decide) (by decide)
    have i3_t_2 : tq_iv 1 1 t_2 := tq_w (tq_neLo c6819 i_t_2 tk_0) (by decide) (by decide)
    refine tz_bd (tz_X12_isRoom hT k_h0) (fun t_10 ⟨i_t_10, g_t_10⟩ => ?_)
    refine tz_if _ (fun c6817 => ?_) (fun c6817 => ?_)
    ·
      have i4_t_10 : tq_iv 0 0 t_10 := tq_cut i_t_10 (tq_eqL c6817 tk_0) (by decide) (by decide)
      exact K_25 
    ·
      have i5_x2 : tq_iv 0 5 x2 := tq_cut (tq_top x2) (g_t_10 c6817) (by decide) (by decide)
      have i6_t_10 : tq_iv 1 1 t_10 := tq_w (tq_neLo c6817 i_t_10 tk_0) (by decide) (by decide)
      refine tz_bd (tz_X12_isIn hT) (fun t_19 ⟨i_t_19, g_t_19⟩ => ?_)
      refine tz_if _ (fun c6815 => ?_) (fun c6815 => ?_)
      ·
        have i7_t_19 : tq_iv 0 0 t_19 := tq_cut i_t_19 (tq_eqL c6815 tk_0) (by decide) (by decide)
        exact K_25 
      ·
        have i8_x3 : tq_iv 0 1 x3 := tq_cut (tq_top x3) (tq_cut (tq_cut (tq_top x3) (tq_leR (g_t_19 c6815).1 tk_0 (tq_top x3)) (by decide) (by decide)) (tq_leL (g_t_19 c6815).2 (tq_top x3) tk_1) (by decide) (by decide)) (by decide) (by decide)
        have i9_t_19 : tq_iv 1 1 t_19 := tq_w (tq_neLo c6815 i_t_19 tk_0) (by decide) (by decide)
        refine tz_bd (tz_X12_many hT k_h0) (fun t_32 i_t_32 => ?_)
        refine tz_let (fun t_35 e6813 => ?_)
        have i10_t_35 : tq_iv 1 256 t_35 := tq_shl1 e6813 i_t_32 (by decide) (by decide) (by decide) (by decide)
        refine tz_let (fun t_37 e6812 => ?_)
        have i11_t_37 : tq_iv 0 255 t_37 := tq_w (tq_sub e6812 i10_t_35 tk_1 (by decide) (by decide)) (by decide) (by decide)
        refine tz_bd (tz_X12_keysBy hT k_h0 (tq_w tk_m2 (by decide) (by decide))) (fun t_41 i_t_41 => ?_)
        refine tz_let (fun t_45 e6810 => ?_)
        refine tz_let (fun t_46 e6809 => ?_)
        have i12_t_46 : tq_iv 0 255 t_46 := tq_and1 e6809 i11_t_37 (by decide)
        have L_52 : ∀ (n_52 : Nat) (k_52 : Nat → Int32 → Int32 → Int32 → Int32 → Int32 → Int32 → Option (Int32)), (∀ (x4_52 : Int32) (x6_52 : Int32), tq_iv (-1) 269 x4_52 → tq_iv 0 256 x6_52 → (2147483647 - x6_52.toInt).toNat < n_52 → tz_O (fun (z : Int32) => tq_iv (-2147483648) 2147483647 z) (k_52 h0 x1 x2 x3 x4_52 t_46 x6_52)) → ∀ (x4_52 : Int32) (x6_52 : Int32), tq_iv (-1) 269 x4_52 → tq_iv 0 256 x6_52 → (2147483647 - x6_52.toInt).toNat < n_52 + 1 → tz_O (fun (z : Int32) => tq_iv (-2147483648) 2147483647 z) (z_X12_bunch_52 σ k_52 h0 x1 x2 x3 x4_52 t_46 x6_52) := by
          intro n_52 k_52 hk_52 x4_52 x6_52 i_x4_52 i_x6_52 hn_52
          unfold z_X12_bunch_52
          refine tz_if _ (fun c6804 => ?_) (fun c6804 => ?_)
          ·
            have i13_x6_52 : tq_iv 1 256 x6_52 := tq_cut i_x6_52 (tq_ltR c6804 i12_t_46 i_x6_52) (by decide) (by decide)
            have K_137 : ∀ (y0_137 : Int32), tz_O (fun (z : Int32) => tq_iv (-2147483648) 2147483647 z) (z_X12_bunch_137 σ y0_137) := by
              intro y0_137
              unfold z_X12_bunch_137
              exact tz_some (tq_top y0_137)
            refine tz_if _ (fun c6792 => ?_) (fun c6792 => ?_)
            ·
              have i14_x4_52 : tq_iv 0 269 x4_52 := tq_cut i_x4_52 (tq_leR c6792 tk_0 i_x4_52) (by decide) (by decide)
              refine tz_if _ (fun c6790 => ?_) (fun c6790 => ?_)
              ·
                have i15_x3 : tq_iv 0 0 x3 := tq_cut i8_x3 (tq_eqL c6790 tk_0) (by decide) (by decide)
                refine tz_bd (tz_X12_bitsOf hT) (fun t_129 i_t_129 => ?_)
                exact K_137 t_129
              ·
                have i16_x3 : tq_iv 1 1 x3 := tq_w (tq_neLo c6790 i8_x3 tk_0) (by decide) (by decide)
                exact K_137 x4_52
            ·
              have i17_x4_52 : tq_iv (-1) (-1) x4_52 := tq_cut i_x4_52 (tq_ltL (tq_nle c6792) i_x4_52 tk_0) (by decide) (by decide)
              exact K_137 (-1 : Int32)
          ·
            have i18_x6_52 : tq_iv 0 255 x6_52 := tq_cut i_x6_52 (tq_leL (tq_nlt c6804) i_x6_52 i12_t_46) (by decide) (by decide)
            refine tz_let (fun t_64 e6803 => ?_)
            refine tz_let (fun t_65 e6802 => ?_)
            have i19_t_65 : tq_iv 0 255 t_65 := tq_and1 e6802 i18_x6_52 (by decide)
            have K_108 : ∀ (x4_108 : Int32), tq_iv (-1) 269 x4_108 → tz_O (fun (z : Int32) => tq_iv (-2147483648) 2147483647 z) (z_X12_bunch_108 σ k_52 h0 x1 x2 x3 x4_108 t_46 x6_52) := by
              intro x4_108 i_x4_108
              unfold z_X12_bunch_108
              refine tz_let (fun t_108 e6781 => ?_)
              have i20_t_108 : tq_iv 1 256 t_108 := tq_w (tq_add e6781 i18_x6_52 tk_1 (by decide) (by decide)) (by decide) (by decide)
              exact hk_52 x4_108 t_108 i_x4_108 (tq_w i20_t_108 (by decide) (by decide)) (tq_up e6781 i18_x6_52 tk_1 (by decide) (by decide) hn_52)
            refine tz_if _ (fun c6801 => ?_) (fun c6801 => ?_)
            ·
              have i21_t_65 : tq_iv 0 0 t_65 := tq_cut i19_t_65 (tq_eqL c6801 tk_0) (by decide) (by decide)
              have K_90 : tz_O (fun (z : Int32) => tq_iv (-2147483648) 2147483647 z) (z_X12_bunch_90 σ k_52 h0 x1 x2 x3 x4_52 t_46 x6_52) := by
                unfold z_X12_bunch_90
                refine tz_bd (tz_X12_reachBy hT k_h0 i2_x1) (fun t_94 i_t_94 => ?_)
                refine tz_bd (tz_X12_bit hT) (fun t_98 i_t_98 => ?_)
                refine tz_if _ (fun c6784 => ?_) (fun c6784 => ?_)
                ·
                  have i22_t_98 : tq_iv 0 0 t_98 := tq_cut i_t_98 (tq_eqL c6784 tk_0) (by decide) (by decide)
                  exact K_108 x4_52 i_x4_52
                ·
                  have i23_t_98 : tq_iv 1 1 t_98 := tq_w (tq_neLo c6784 i_t_98 tk_0) (by decide) (by decide)
                  exact K_108 x6_52 (tq_w i18_x6_52 (by decide) (by decide))
              refine tz_if _ (fun c6799 => ?_) (fun c6799 => ?_)
              ·
                have i24_x4_52 : tq_iv (-1) (-1) x4_52 := tq_cut i_x4_52 (tq_ltL c6799 i_x4_52 tk_0) (by decide) (by decide)
                exact K_90 
              ·
                have i25_x4_52 : tq_iv 0 269 x4_52 := tq_cut i_x4_52 (tq_leR (tq_nlt c6799) tk_0 i_x4_52) (by decide) (by decide)
                refine tz_bd (tz_X12_bitsOf hT) (fun t_76 i_t_76 => ?_)
                refine tz_bd (tz_X12_bitsOf hT) (fun t_81 i_t_81 => ?_)
                refine tz_if _ (fun c6796 => ?_) (fun c6796 => ?_)
                ·
                  have i26_t_76 : tq_iv (-2147483648) 2147483646 t_76 := tq_cut (tq_top t_76) (tq_ltL c6796 (tq_top t_76) (tq_top t_81)) (by decide) (by decide)
                  have i27_t_81 : tq_iv (-2147483647) 2147483647 t_81 := tq_cut (tq_top t_81) (tq_ltR c6796 (tq_top t_76) (tq_top t_81)) (by decide) (by decide)
                  exact K_90 
                ·
                  exact K_108 x4_52 (tq_w i25_x4_52 (by decide) (by decide))
            ·
              have i28_t_65 : tq_iv 1 255 t_65 := tq_w (tq_neLo c6801 i19_t_65 tk_0) (by decide) (by decide)
              exact K_108 x4_52 i_x4_52
        have E_52 : ∀ (x4_52 : Int32) (x6_52 : Int32), tq_iv (-1) 269 x4_52 → tq_iv 0 256 x6_52 → tz_O (fun (z : Int32) => tq_iv (-2147483648) 2147483647 z) (ez_fix (fun _ _ _ _ _ _ _ => none) (z_X12_bunch_52 σ) ez_N h0 x1 x2 x3 x4_52 t_46 x6_52) := by
          intro x4_52 x6_52 i_x4_52 i_x6_52
          exact ez_fix_indn (fun n_52 (k_52 : Nat → Int32 → Int32 → Int32 → Int32 → Int32 → Int32 → Option (Int32)) => ∀ (x4_52 : Int32) (x6_52 : Int32), tq_iv (-1) 269 x4_52 → tq_iv 0 256 x6_52 → (2147483647 - x6_52.toInt).toNat < n_52 → tz_O (fun (z : Int32) => tq_iv (-2147483648) 2147483647 z) (k_52 h0 x1 x2 x3 x4_52 t_46 x6_52)) (by intros; rename_i h; exact absurd h (Nat.not_lt_zero _)) L_52 ez_N x4_52 x6_52 i_x4_52 i_x6_52 (tq_m0 x6_52)
        exact E_52 (-1 : Int32) (0 : Int32) (tq_w tk_m1 (by decide) (by decide)) (tq_w tk_0 (by decide) (by decide))
set_option maxRecDepth 4000 in
theorem tz_X12_comers {p : tz_P} {σ : ez_H} {h0 : Nat} {x1 : Int32} (hT : tp p σ) (k_h0 : tz_C h0 = some (3, 12, 0, 0)) : tz_O (fun z => tq_iv (-1) 15 z) (z_X12_comers σ h0 x1) := by
  unfold z_X12_comers
  refine tz_bd (tz_ob hT k_h0) (fun _ _ => ?_)
  refine tz_bd (tz_X12_isRoom hT k_h0) (fun t_2 ⟨i_t_2, g_t_2⟩ => ?_)
  refine tz_if _ (fun c6838 => ?_) (fun c6838 => ?_)
  ·
    have i1_t_2 : tq_iv 0 0 t_2 := tq_cut i_t_2 (tq_eqL c6838 tk_0) (by decide) (by decide)
    exact tz_some (tq_w tk_m1 (by decide) (by decide))
  ·
    have i2_x1 : tq_iv 0 5 x1 := tq_cut (tq_top x1) (g_t_2 c6838) (by decide) (by decide)
    have i3_t_2 : tq_iv 1 1 t_2 := tq_w (tq_neLo c6838 i_t_2 tk_0) (by decide) (by decide)
    have L_14 : ∀ (n_14 : Nat) (k_14 : Nat → Int32 → Int32 → Int32 → Option (Int32)), (∀ (x2_14 : Int32) (x3_14 : Int32), tq_iv 0 15 x2_14 → tq_iv 0 4 x3_14 → (2147483647 - x3_14.toInt).toNat < n_14 → tz_O (fun (z : Int32) => tq_iv (-1) 15 z) (k_14 h0 x1 x2_14 x3_14)) → ∀ (x2_14 : Int32) (x3_14 : Int32), tq_iv 0 15 x2_14 → tq_iv 0 4 x3_14 → (2147483647 - x3_14.toInt).toNat < n_14 + 1 → tz_O (fun (z : Int32) => tq_iv (-1) 15 z) (z_X12_comers_14 σ k_14 h0 x1 x2_14 x3_14) := by
      intro n_14 k_14 hk_14 x2_14 x3_14 i_x2_14 i_x3_14 hn_14
      unfold z_X12_comers_14
      refine tz_bk (tr_18 hT k_h0) ?_
      refine tz_be (tg_12_43 hT k_h0) (fun t_20 e6834 i_t_20 => ?_)
      refine tz_be (tz_ia hT tc_180 (te_180 (p := p)) i_t_20 (by decide) (by decide)) (fun t_23 e6833 i_t_23 => ?_)
      refine tz_if _ (fun c6832 => ?_) (fun c6832 => ?_)
      ·
        exact tz_some (tq_w i_x2_14 (by decide) (by decide))
      ·
        have i4_x3_14 : tq_iv 0 3 x3_14 := tq_cut i_x3_14 (tq_ltL (tq_nle c6832) i_x3_14 i_t_23) (by decide) (by decide)
        have i5_t_23 : tq_iv 1 4 t_23 := tq_cut i_t_23 (tq_ltR (tq_nle c6832) i_x3_14 i_t_23) (by decide) (by decide)
        refine tz_bd (tz_X12_reachOf hT k_h0 i4_x3_14) (fun t_29 i_t_29 => ?_)
        refine tz_bd (tz_X12_bit hT) (fun t_33 i_t_33 => ?_)
        have K_45 : ∀ (x2_45 : Int32), tq_iv 0 15 x2_45 → tz_O (fun (z : Int32) => tq_iv (-1) 15 z) (z_X12_comers_45 σ k_14 h0 x1 x2_45 x3_14) := by
          intro x2_45 i_x2_45
          unfold z_X12_comers_45
          refine tz_let (fun t_45 e6823 => ?_)
          have i6_t_45 : tq_iv 1 4 t_45 := tq_w (tq_add e6823 i4_x3_14 tk_1 (by decide) (by decide)) (by decide) (by decide)
          exact hk_14 x2_45 t_45 i_x2_45 (tq_w i6_t_45 (by decide) (by decide)) (tq_up e6823 i4_x3_14 tk_1 (by decide) (by decide) hn_14)
        refine tz_if _ (fun c6829 => ?_) (fun c6829 => ?_)
        ·
          have i7_t_33 : tq_iv 0 0 t_33 := tq_cut i_t_33 (tq_eqL c6829 tk_0) (by decide) (by decide)
          exact K_45 x2_14 i_x2_14
        ·
          have i8_t_33 : tq_iv 1 1 t_33 := tq_w (tq_neLo c6829 i_t_33 tk_0) (by decide) (by decide)
          refine tz_let (fun t_42 e6828 => ?_)
          have i9_t_42 : tq_iv 1 8 t_42 := tq_shl1 e6828 i4_x3_14 (by decide) (by decide) (by decide) (by decide)
          refine tz_let (fun t_43 e6827 => ?_)
          have i10_t_43 : tq_iv 0 15 t_43 := tq_or e6827 i_x2_14 i9_t_42 4 (by decide) (by decide) (by decide) (by decide) (by decide)
          exact K_45 t_43 i10_t_43
    have E_14 : ∀ (x2_14 : Int32) (x3_14 : Int32), tq_iv 0 15 x2_14 → tq_iv 0 4 x3_14 → tz_O (fun (z : Int32) => tq_iv (-1) 15 z) (ez_fix (fun _ _ _ _ => none) (z_X12_comers_14 σ) ez_N h0 x1 x2_14 x3_14) := by
      intro x2_14 x3_14 i_x2_14 i_x3_14
      exact ez_fix_indn (fun n_14 (k_14 : Nat → Int32 → Int32 → Int32 → Option (Int32)) => ∀ (x2_14 : Int32) (x3_14 : Int32), tq_iv 0 15 x2_14 → tq_iv 0 4 x3_14 → (2147483647 - x3_14.toInt).toNat < n_14 → tz_O (fun (z : Int32) => tq_iv (-1) 15 z) (k_14 h0 x1 x2_14 x3_14)) (by intros; rename_i h; exact absurd h (Nat.not_lt_zero _)) L_14 ez_N x2_14 x3_14 i_x2_14 i_x3_14 (tq_m0 x3_14)
    exact E_14 (0 : Int32) (0 : Int32) (tq_w tk_0 (by decide) (by decide)) (tq_w tk_0 (by decide) (by decide))
set_option maxRecDepth 4000 in
theorem tz_X12_areLocks {p : tz_P} {σ : ez_H} {h0 : Nat} {x1 : Int32} (hT : tp p σ) (k_h0 : tz_C h0 = some (3, 12, 0, 0)) : tz_O (fun z => tq_iv 0 1 z) (z_X12_areLocks σ h0 x1) := by
  unfold z_X12_areLocks
  refine tz_bd (tz_ob hT k_h0) (fun _ _ => ?_)
  refine tz_bd (tz_X12_bolts hT k_h0) (fun t_3 i_t_3 => ?_)
  refine tz_let (fun t_6 e6849 => ?_)
  have i1_t_6 : tq_iv 1 64 t_6 := tq_shl1 e6849 i_t_3 (by decide) (by decide) (by decide) (by decide)
  refine tz_let (fun t_8 e6848 => ?_)
  have i2_t_8 : tq_iv 0 63 t_8 := tq_w (tq_sub e6848 i1_t_6 tk_1 (by decide) (by decide)) (by decide) (by decide)
  refine tz_let (fun t_10 e6847 => ?_)
  refine tz_let (fun t_11 e6846 => ?_)
  have K_20 : ∀ (y0_20 : Int32), tq_iv 0 1 y0_20 → (¬ y0_20 = 0 → tq_iv 0 0 t_11) → tz_O (fun (z : Int32) => tq_iv 0 1 z) (z_X12_areLocks_20 σ y0_20) := by
    intro y0_20 i_y0_20 g20_y0_20_t_11
    unfold z_X12_areLocks_20
    refine tz_nr (tq_nr_boolean i_y0_20) ?_
    exact tz_some i_y0_20
  refine tz_if _ (fun c6845 => ?_) (fun c6845 => ?_)
  ·
    have i3_t_11 : tq_iv 0 0 t_11 := tq_cut (tq_top t_11) (tq_eqL c6845 tk_0) (by decide) (by decide)
    exact K_20 (1 : Int32) (tq_w tk_1 (by decide) (by decide)) (fun _ => i3_t_11)
  ·
    exact K_20 (0 : Int32) (tq_w tk_0 (by decide) (by decide)) (fun h => absurd rfl h)
set_option maxRecDepth 4000 in
theorem tz_X12_cutFor {p : tz_P} {σ : ez_H} {h0 : Nat} {x1 : Int32} {x2 : Int32} (hT : tp p σ) (k_h0 : tz_C h0 = some (3, 12, 0, 0)) : tz_O (fun z => tq_iv (-1) 7775 z) (z_X12_cutFor σ h0 x1 x2) := by
  unfold z_X12_cutFor
  refine tz_bd (tz_ob hT k_h0) (fun _ _ => ?_)
  refine tz_bd (tz_X12_areLocks hT k_h0) (fun t_2 i_t_2 => ?_)
  have K_16 : tz_O (fun (z : Int32) => tq_iv (-1) 7775 z) (z_X12_cutFor_16 σ) := by
    unfold z_X12_cutFor_16
    exact tz_some (tq_w tk_m1 (by decide) (by decide))
  refine tz_if _ (fun c6894 => ?_) (fun c6894 => ?_)
  ·
    have i1_t_2 : tq_iv 0 0 t_2 := tq_cut i_t_2 (tq_eqL c6894 tk_0) (by decide) (by decide)
    exact K_16 
  ·
    have i2_t_2 : tq_iv 1 1 t_2 := tq_w (tq_neLo c6894 i_t_2 tk_0) (by decide) (by decide)
    refine tz_bd (tz_X12_areLocks hT k_h0) (fun t_10 i_t_10 => ?_)
    refine tz_if _ (fun c6892 => ?_) (fun c6892 => ?_)
    ·
      have i3_t_10 : tq_iv 0 0 t_10 := tq_cut i_t_10 (tq_eqL c6892 tk_0) (by decide) (by decide)
      exact K_16 
    ·
      have i4_t_10 : tq_iv 1 1 t_10 := tq_w (tq_neLo c6892 i_t_10 tk_0) (by decide) (by decide)
      have L_20 : ∀ (n_20 : Nat) (k_20 : Nat → Int32 → Int32 → Int32 → Option (Int32)), (∀ (x3_20 : Int32), tq_iv 0 7776 x3_20 → (2147483647 - x3_20.toInt).toNat < n_20 → tz_O (fun (z : Int32) => tq_iv (-1) 7775 z) (k_20 h0 x1 x2 x3_20)) → ∀ (x3_20 : Int32), tq_iv 0 7776 x3_20 → (2147483647 - x3_20.toInt).toNat < n_20 + 1 → tz_O (fun (z : Int32) => tq_iv (-1) 7775 z) (z_X12_cutFor_20 σ k_20 h0 x1 x2 x3_20) := by
        intro n_20 k_20 hk_20 x3_20 i_x3_20 hn_20
        unfold z_X12_cutFor_20
        refine tz_bd (tz_X12_bittings hT k_h0) (fun t_22 i_t_22 => ?_)
        refine tz_if _ (fun c6887 => ?_) (fun c6887 => ?_)
        ·
          have i5_x3_20 : tq_iv 1 7776 x3_20 := tq_cut i_x3_20 (tq_leR c6887 i_t_22 i_x3_20) (by decide) (by decide)
          exact tz_some (tq_w tk_m1 (by decide) (by decide))
        ·
          have i6_x3_20 : tq_iv 0 7775 x3_20 := tq_cut i_x3_20 (tq_ltL (tq_nle c6887) i_x3_20 i_t_22) (by decide) (by decide)
          refine tz_bd (tz_X12_isLegal hT k_h0) (fun t_30 ⟨i_t_30, g_t_30⟩ => ?_)
          have K_45 : ∀ (y0_45 : Int32), tq_iv 0 63 y0_45 → tz_O (fun (z : Int32) => tq_iv (-1) 7775 z) (z_X12_cutFor_45 σ k_20 h0 x1 x2 x3_20 y0_45) := by
            intro y0_45 i_y0_45
            unfold z_X12_cutFor_45
            refine tz_bd (tz_X12_isLegal hT k_h0) (fun t_49 ⟨i_t_49, g_t_49⟩ => ?_)
            have K_72 : tz_O (fun (z : Int32) => tq_iv (-1) 7775 z) (z_X12_cutFor_72 σ k_20 h0 x1 x2 x3_20) := by
              unfold z_X12_cutFor_72
              refine tz_let (fun t_72 e6870 => ?_)
              have i7_t_72 : tq_iv 1 7776 t_72 := tq_w (tq_add e6870 i6_x3_20 tk_1 (by decide) (by decide)) (by decide) (by decide)
              exact hk_20 t_72 (tq_w i7_t_72 (by decide) (by decide)) (tq_up e6870 i6_x3_20 tk_1 (by decide) (by decide) hn_20)
            refine tz_if _ (fun c6879 => ?_) (fun c6879 => ?_)
            ·
              have i8_t_49 : tq_iv 0 0 t_49 := tq_cut i_t_49 (tq_eqL c6879 tk_0) (by decide) (by decide)
              exact K_72 
            ·
              have i9_t_49 : tq_iv 1 1 t_49 := tq_w (tq_neLo c6879 i_t_49 tk_0) (by decide) (by decide)
              refine tz_let (fun t_58 e6878 => ?_)
              have i10_t_58 : tq_iv 0 63 t_58 := tq_and1 e6878 i_y0_45 (by decide)
              refine tz_if _ (fun c6877 => ?_) (fun c6877 => ?_)
              ·
                have i11_x1 : tq_iv 0 63 x1 := tq_cut (tq_top x1) (tq_eqL (Eq.symm c6877) i10_t_58) (by decide) (by decide)
                refine tz_let (fun t_66 e6875 => ?_)
                have i12_t_66 : tq_iv 0 63 t_66 := tq_and1 e6875 i_y0_45 (by decide)
                refine tz_if _ (fun c6874 => ?_) (fun c6874 => ?_)
                ·
                  have i13_t_66 : tq_iv 0 0 t_66 := tq_cut i12_t_66 (tq_eqL c6874 tk_0) (by decide) (by decide)
                  exact tz_some (tq_w i6_x3_20 (by decide) (by decide))
                ·
                  have i14_t_66 : tq_iv 1 63 t_66 := tq_w (tq_neLo c6874 i12_t_66 tk_0) (by decide) (by decide)
                  exact K_72 
              ·
                exact K_72 
          refine tz_if _ (fun c6885 => ?_) (fun c6885 => ?_)
          ·
            have i15_t_30 : tq_iv 0 0 t_30 := tq_cut i_t_30 (tq_eqL c6885 tk_0) (by decide) (by decide)
            exact K_45 (0 : Int32) (tq_w tk_0 (by decide) (by decide))
          ·
            have i16_t_30 : tq_iv 1 1 t_30 := tq_w (tq_neLo c6885 i_t_30 tk_0) (by decide) (by decide)
            refine tz_bd (tz_X12_openedBy hT k_h0) (fun t_38 i_t_38 => ?_)
            exact K_45 t_38 i_t_38
      have E_20 : ∀ (x3_20 : Int32), tq_iv 0 7776 x3_20 → tz_O (fun (z : Int32) => tq_iv (-1) 7775 z) (ez_fix (fun _ _ _ _ => none) (z_X12_cutFor_20 σ) ez_N h0 x1 x2 x3_20) := by
        intro x3_20 i_x3_20
        exact ez_fix_indn (fun n_20 (k_20 : Nat → Int32 → Int32 → Int32 → Option (Int32)) => ∀ (x3_20 : Int32), tq_iv 0 7776 x3_20 → (2147483647 - x3_20.toInt).toNat < n_20 → tz_O (fun (z : Int32) => tq_iv (-1) 7775 z) (k_20 h0 x1 x2 x3_20)) (by intros; rename_i h; exact absurd h (Nat.not_lt_zero _)) L_20 ez_N x3_20 i_x3_20 (tq_m0 x3_20)
      exact E_20 (0 : Int32) (tq_w tk_0 (by decide) (by decide))
set_option maxRecDepth 4000 in
theorem tz_X12_common {p : tz_P} {σ : ez_H} {h0 : Nat} {x1 : Int32} {x2 : Int32} (hT : tp p σ) (k_h0 : tz_C h0 = some (3, 12, 0, 0)) : tz_O (fun z => tq_iv (-1) 2147483647 z) (z_X12_common σ h0 x1 x2) := by
  unfold z_X12_common
  refine tz_bd (tz_ob hT k_h0) (fun _ _ => ?_)
  refine tz_bd (tz_X12_areLocks hT k_h0) (fun t_2 i_t_2 => ?_)
  have K_17 : tz_O (fun (z : Int32) => tq_iv (-1) 2147483647 z) (z_X12_common_17 σ) := by
    unfold z_X12_common_17
    exact tz_some (tq_w tk_m1 (by decide) (by decide))
  refine tz_if _ (fun c6908 => ?_) (fun c6908 => ?_)
  ·
    have i1_t_2 : tq_iv 0 0 t_2 := tq_cut i_t_2 (tq_eqL c6908 tk_0) (by decide) (by decide)
    exact K_17 
  ·
    have i2_t_2 : tq_iv 1 1 t_2 := tq_w (tq_neLo c6908 i_t_2 tk_0) (by decide) (by decide)
    refine tz_bd (tz_X12_isIn hT) (fun t_11 ⟨i_t_11, g_t_11⟩ => ?_)
    refine tz_if _ (fun c6906 => ?_) (fun c6906 => ?_)
    ·
      have i3_t_11 : tq_iv 0 0 t_11 := tq_cut i_t_11 (tq_eqL c6906 tk_0) (by decide) (by decide)
      exact K_17 
    ·
      have i4_x2 : tq_iv 0 1 x2 := tq_cut (tq_top x2) (tq_cut (tq_cut (tq_top x2) (tq_leR (g_t_11 c6906).1 tk_0 (tq_top x2)) (by decide) (by decide)) (tq_leL (g_t_11 c6906).2 (tq_top x2) tk_1) (by decide) (by decide)) (by decide) (by decide)
      have i5_t_11 : tq_iv 1 1 t_11 := tq_w (tq_neLo c6906 i_t_11 tk_0) (by decide) (by decide)
      have K_37 : ∀ (y0_37 : Int32), tq_iv (-1) 2147483647 y0_37 → tz_O (fun (z : Int32) => tq_iv (-1) 2147483647 z) (z_X12_common_37 σ y0_37) := by
        intro y0_37 i_y0_37
        unfold z_X12_common_37
        exact tz_some i_y0_37
      refine tz_if _ (fun c6905 => ?_) (fun c6905 => ?_)
      ·
        have i6_x2 : tq_iv 0 0 x2 := tq_cut i4_x2 (tq_eqL c6905 tk_0) (by decide) (by decide)
        refine tz_bd (tz_X12_openers hT k_h0) (fun t_25 i_t_25 => ?_)
        exact K_37 t_25 (tq_w i_t_25 (by decide) (by decide))
      ·
        have i7_x2 : tq_iv 1 1 x2 := tq_w (tq_neLo c6905 i4_x2 tk_0) (by decide) (by decide)
        refine tz_bd (tz_X12_cutFor hT k_h0) (fun t_34 i_t_34 => ?_)
        exact K_37 t_34 (tq_w i_t_34 (by decide) (by decide))
set_option maxRecDepth 4000 in
theorem tz_X12_isKey {p : tz_P} {σ : ez_H} {h0 : Nat} {x1 : Int32} (hT : tp p σ) (k_h0 : tz_C h0 = some (3, 12, 0, 0)) : tz_O (fun z => tq_iv 0 1 z ∧ (¬ z = 0 → tq_iv 0 7 x1)) (z_X12_isKey σ h0 x1) := by
  unfold z_X12_isKey
  refine tz_bd (tz_ob hT k_h0) (fun _ _ => ?_)
  refine tz_bd (tz_X12_many hT k_h0) (fun t_3 i_t_3 => ?_)
  refine tz_let (fun t_7 e6914 => ?_)
  have i1_t_7 : tq_iv (-1) 7 t_7 := tq_w (tq_sub e6914 i_t_3 tk_1 (by decide) (by decide)) (by decide) (by decide)
  refine tz_bd (tz_X12_isIn hT) (fun t_8 ⟨i_t_8, g_t_8⟩ => ?_)
  refine tz_nr (tq_nr_boolean i_t_8) ?_
  exact tz_some ⟨i_t_8, (fun h => tq_w (tq_cut (tq_cut (tq_top x1) (tq_leR (g_t_8 h).1 tk_0 (tq_top x1)) (by decide) (by decide)) (tq_leL (g_t_8 h).2 (tq_top x1) i1_t_7) (by decide) (by decide)) (by decide) (by decide))⟩
set_option maxRecDepth 4000 in
theorem tz_X12_isChamber {p : tz_P} {σ : ez_H} {h0 : Nat} {x1 : Int32} (hT : tp p σ) (k_h0 : tz_C h0 = some (3, 12, 0, 0)) : tz_O (fun z => tq_iv 0 1 z ∧ (¬ z = 0 → tq_iv 0 4 x1)) (z_X12_isChamber σ h0 x1) := by
  unfold z_X12_isChamber
  refine tz_bd (tz_ob hT k_h0) (fun _ _ => ?_)
  refine tz_bd (tz_X12_wide hT k_h0) (fun t_3 i_t_3 => ?_)
  refine tz_let (fun t_7 e6920 => ?_)
  have i1_t_7 : tq_iv 1 4 t_7 := tq_w (tq_sub e6920 i_t_3 tk_1 (by decide) (by decide)) (by decide) (by decide)
  refine tz_bd (tz_X12_isIn hT) (fun t_8 ⟨i_t_8, g_t_8⟩ => ?_)
  refine tz_nr (tq_nr_boolean i_t_8) ?_
  exact tz_some ⟨i_t_8, (fun h => tq_w (tq_cut (tq_cut (tq_top x1) (tq_leR (g_t_8 h).1 tk_0 (tq_top x1)) (by decide) (by decide)) (tq_leL (g_t_8 h).2 (tq_top x1) i1_t_7) (by decide) (by decide)) (by decide) (by decide))⟩
set_option maxRecDepth 4000 in
theorem tz_X12_cut {p : tz_P} {σ : ez_H} {h0 : Nat} {x1 : Int32} {x2 : Int32} (hT : tp p σ) (k_h0 : tz_C h0 = some (3, 12, 0, 0)) : tz_O (fun z => tq_iv (-2147483648) 2147483647 z) (z_X12_cut σ h0 x1 x2) := by
  unfold z_X12_cut
  refine tz_bd (tz_ob hT k_h0) (fun _ _ => ?_)
  refine tz_bd (tz_X12_isKey hT k_h0) (fun t_2 ⟨i_t_2, g_t_2⟩ => ?_)
  have K_26 : ∀ (y0_26 : Int32), tz_O (fun (z : Int32) => tq_iv (-2147483648) 2147483647 z) (z_X12_cut_26 σ y0_26) := by
    intro y0_26
    unfold z_X12_cut_26
    exact tz_some (tq_top y0_26)
  have K_25 : tz_O (fun (z : Int32) => tq_iv (-2147483648) 2147483647 z) (z_X12_cut_25 σ) := by
    unfold z_X12_cut_25
    exact K_26 (-1 : Int32)
  refine tz_if _ (fun c6931 => ?_) (fun c6931 => ?_)
  ·
    have i1_t_2 : tq_iv 0 0 t_2 := tq_cut i_t_2 (tq_eqL c6931 tk_0) (by decide) (by decide)
    exact K_25 
  ·
    have i2_x1 : tq_iv 0 7 x1 := tq_cut (tq_top x1) (g_t_2 c6931) (by decide) (by decide)
    have i3_t_2 : tq_iv 1 1 t_2 := tq_w (tq_neLo c6931 i_t_2 tk_0) (by decide) (by decide)
    refine tz_bd (tz_X12_isChamber hT k_h0) (fun t_10 ⟨i_t_10, g_t_10⟩ => ?_)
    refine tz_if _ (fun c6929 => ?_) (fun c6929 => ?_)
    ·
      have i4_t_10 : tq_iv 0 0 t_10 := tq_cut i_t_10 (tq_eqL c6929 tk_0) (by decide) (by decide)
      exact K_25 
    ·
      have i5_x2 : tq_iv 0 4 x2 := tq_cut (tq_top x2) (g_t_10 c6929) (by decide) (by decide)
      have i6_t_10 : tq_iv 1 1 t_10 := tq_w (tq_neLo c6929 i_t_10 tk_0) (by decide) (by decide)
      refine tz_bd (tz_X12_cutOf hT k_h0 i2_x1 i5_x2) (fun t_19 i_t_19 => ?_)
      exact K_26 t_19
set_option maxRecDepth 4000 in
theorem tz_X12_isDoor {p : tz_P} {σ : ez_H} {h0 : Nat} {x1 : Int32} (hT : tp p σ) (k_h0 : tz_C h0 = some (3, 12, 0, 0)) : tz_O (fun z => tq_iv 0 1 z ∧ (¬ z = 0 → tq_iv 0 7 x1)) (z_X12_isDoor σ h0 x1) := by
  unfold z_X12_isDoor
  refine tz_bd (tz_ob hT k_h0) (fun _ _ => ?_)
  refine tz_bk (tr_17 hT k_h0) ?_
  refine tz_be (tg_12_43 hT k_h0) (fun t_7 e6939 i_t_7 => ?_)
  refine tz_be (tz_ia hT tc_179 (te_179 (p := p)) i_t_7 (by decide) (by decide)) (fun t_10 e6938 i_t_10 => ?_)
  refine tz_let (fun t_12 e6937 => ?_)
  have i1_t_12 : tq_iv (-1) 7 t_12 := tq_w (tq_sub e6937 i_t_10 tk_1 (by decide) (by decide)) (by decide) (by decide)
  refine tz_bd (tz_X12_isIn hT) (fun t_13 ⟨i_t_13, g_t_13⟩ => ?_)
  refine tz_nr (tq_nr_boolean i_t_13) ?_
  exact tz_some ⟨i_t_13, (fun h => tq_w (tq_cut (tq_cut (tq_top x1) (tq_leR (g_t_13 h).1 tk_0 (tq_top x1)) (by decide) (by decide)) (tq_leL (g_t_13 h).2 (tq_top x1) i1_t_12) (by decide) (by decide)) (by decide) (by decide))⟩
set_option maxRecDepth 4000 in
theorem tz_X12_door {p : tz_P} {σ : ez_H} {h0 : Nat} {x1 : Int32} {x2 : Int32} (hT : tp p σ) (k_h0 : tz_C h0 = some (3, 12, 0, 0)) : tz_O (fun z => tq_iv (-1) 5 z) (z_X12_door σ h0 x1 x2) := by
  unfold z_X12_door
  refine tz_bd (tz_ob hT k_h0) (fun _ _ => ?_)
  refine tz_bd (tz_X12_isDoor hT k_h0) (fun t_2 ⟨i_t_2, g_t_2⟩ => ?_)
  refine tz_if _ (fun c6960 => ?_) (fun c6960 => ?_)
  ·
    have i1_t_2 : tq_iv 0 0 t_2 := tq_cut i_t_2 (tq_eqL c6960 tk_0) (by decide) (by decide)
    exact tz_some (tq_w tk_m1 (by decide) (by decide))
  ·
    have i2_x1 : tq_iv 0 7 x1 := tq_cut (tq_top x1) (g_t_2 c6960) (by decide) (by decide)
    have i3_t_2 : tq_iv 1 1 t_2 := tq_w (tq_neLo c6960 i_t_2 tk_0) (by decide) (by decide)
    refine tz_be (tg_12_43 hT k_h0) (fun t_13 e6959 i_t_13 => ?_)
    refine tz_let (fun t_16 e6958 => ?_)
    have i4_t_16 : tq_iv 0 8 t_16 := tq_w (tq_mul e6958 tk_8 i_t_13 (by decide) (by decide) (by decide)) (by decide) (by decide)
    refine tz_let (fun t_18 e6957 => ?_)
    have i5_t_18 : tq_iv 0 15 t_18 := tq_w (tq_add e6957 i4_t_16 i2_x1 (by decide) (by decide)) (by decide) (by decide)
    have K_62 : ∀ (y0_62 : Int32), tq_iv (-1) 5 y0_62 → tz_O (fun (z : Int32) => tq_iv (-1) 5 z) (z_X12_door_62 σ y0_62) := by
      intro y0_62 i_y0_62
      unfold z_X12_door_62
      exact tz_some i_y0_62
    refine tz_if _ (fun c6956 => ?_) (fun c6956 => ?_)
    ·
      have i6_x2 : tq_iv 0 0 x2 := tq_cut (tq_top x2) (tq_eqL c6956 tk_0) (by decide) (by decide)
      refine tz_bk (tr_24 hT k_h0) ?_
      refine tz_be (tz_ia hT tc_186 (te_186 (p := p)) i5_t_18 (by decide) (by decide)) (fun t_29 e6945 i_t_29 => ?_)
      exact K_62 t_29 (tq_w i_t_29 (by decide) (by decide))
    ·
      refine tz_if _ (fun c6955 => ?_) (fun c6955 => ?_)
      ·
        have i7_x2 : tq_iv 1 1 x2 := tq_cut (tq_top x2) (tq_eqL c6955 tk_1) (by decide) (by decide)
        refine tz_bk (tr_25 hT k_h0) ?_
        refine tz_be (tz_ia hT tc_187 (te_187 (p := p)) i5_t_18 (by decide) (by decide)) (fun t_43 e6948 i_t_43 => ?_)
        exact K_62 t_43 (tq_w i_t_43 (by decide) (by decide))
      ·
        refine tz_if _ (fun c6954 => ?_) (fun c6954 => ?_)
        ·
          have i8_x2 : tq_iv 2 2 x2 := tq_cut (tq_top x2) (tq_eqL c6954 tk_2) (by decide) (by decide)
          refine tz_bk (tr_26 hT k_h0) ?_
          refine tz_be (tz_ia hT tc_188 (te_188 (p := p)) i5_t_18 (by decide) (by decide)) (fun t_57 e6951 i_t_57 => ?_)
          exact K_62 t_57 (tq_w i_t_57 (by decide) (by decide))
        ·
          exact K_62 (-1 : Int32) (tq_w tk_m1 (by decide) (by decide))
set_option maxRecDepth 4000 in
theorem tz_X12_end {p : tz_P} {σ : ez_H} {h0 : Nat} {x1 : Int32} (hT : tp p σ) (k_h0 : tz_C h0 = some (3, 12, 0, 0)) : tz_O2 (fun (z : Int32) (s : ez_H) => tq_iv (-1) 1600 z ∧ tp p s) (z_X12_end σ h0 x1) := by
  show tz_O (fun z : Int32 × ez_H => (fun (z : Int32) (s : ez_H) => tq_iv (-1) 1600 z ∧ tp p s) z.1 z.2) _
  unfold z_X12_end
  refine tz_bd (tz_ob hT k_h0) (fun _ _ => ?_)
  have K_12 : tz_O (fun z : Int32 × ez_H => (fun (z : Int32) (s : ez_H) => tq_iv (-1) 1600 z ∧ tp p s) z.1 z.2) (z_X12_end_12 σ) := by
    unfold z_X12_end_12
    exact tz_some ⟨(tq_w tk_m1 (by decide) (by decide)), hT⟩
  refine tz_if _ (fun c6970 => ?_) (fun c6970 => ?_)
  ·
    have i1_x1 : tq_iv (-2147483648) (-1) x1 := tq_cut (tq_top x1) (tq_ltL c6970 (tq_top x1) tk_0) (by decide) (by decide)
    exact K_12 
  ·
    have i2_x1 : tq_iv 0 2147483647 x1 := tq_cut (tq_top x1) (tq_leR (tq_nlt c6970) tk_0 (tq_top x1)) (by decide) (by decide)
    refine tz_be (tg_12_2 hT k_h0) (fun t_6 e6969 i_t_6 => ?_)
    refine tz_if _ (fun c6968 => ?_) (fun c6968 => ?_)
    ·
      have i3_x1 : tq_iv 0 1600 x1 := tq_cut i2_x1 (tq_leL c6968 i2_x1 i_t_6) (by decide) (by decide)
      refine tz_be (tw_12_2 hT k_h0 i3_x1) (fun σ6966 e6966 T6966 => ?_)
      exact tz_some ⟨(tq_w i3_x1 (by decide) (by decide)), T6966⟩
    ·
      have i4_x1 : tq_iv 1 2147483647 x1 := tq_cut i2_x1 (tq_ltR (tq_nle c6968) i_t_6 i2_x1) (by decide) (by decide)
      exact K_12
set_option maxRecDepth 4000 in
theorem tz_X12_fault {p : tz_P} {σ : ez_H} {h0 : Nat} {x1 : Int32} (hT : tp p σ) (k_h0 : tz_C h0 = some (3, 12, 0, 0)) : tz_O (fun z => tq_iv (-2147483648) 2147483647 z) (z_X12_fault σ h0 x1) := by
  unfold z_X12_fault
  refine tz_bd (tz_ob hT k_h0) (fun _ _ => ?_)
  have K_24 : ∀ (y0_24 : Int32), tz_O (fun (z : Int32) => tq_iv (-2147483648) 2147483647 z) (z_X12_fault_24 σ y0_24) := by
    intro y0_24
    unfold z_X12_fault_24
    exact tz_some (tq_top y0_24)
  refine tz_if _ (fun c6979 => ?_) (fun c6979 => ?_)
  ·
    have i1_x1 : tq_iv 0 0 x1 := tq_cut (tq_top x1) (tq_eqL c6979 tk_0) (by decide) (by decide)
    refine tz_be (tg_12_4 hT k_h0) (fun t_5 e6974 i_t_5 => ?_)
    exact K_24 t_5
  ·
    refine tz_if _ (fun c6978 => ?_) (fun c6978 => ?_)
    ·
      have i2_x1 : tq_iv 1 1 x1 := tq_cut (tq_top x1) (tq_eqL c6978 tk_1) (by decide) (by decide)
      refine tz_be (tg_12_5 hT k_h0) (fun t_17 e6976 i_t_17 => ?_)
      exact K_24 t_17
    ·
      exact K_24 (-1 : Int32)
set_option maxRecDepth 4000 in
theorem tz_X12_feed {p : tz_P} {σ : ez_H} {h0 : Nat} {x1 : Int32} {x2 : Int32} {x3 : Int32} {x4 : Int32} {x5 : Int32} (hT : tp p σ) (k_h0 : tz_C h0 = some (3, 12, 0, 0)) : tz_O2 (fun (z : Int32) (s : ez_H) => tq_iv (-1) 1600 z ∧ tp p s) (z_X12_feed σ h0 x1 x2 x3 x4 x5) := by
  show tz_O (fun z : Int32 × ez_H => (fun (z : Int32) (s : ez_H) => tq_iv (-1) 1600 z ∧ tp p s) z.1 z.2) _
  unfold z_X12_feed
  obtain ⟨w0, e_w0, i_w0⟩ := tg_12_2 hT k_h0
  refine tz_bd (tz_ob hT k_h0) (fun _ _ => ?_)
  refine tz_ba e_w0 (fun t_1 e7011 a7011 => ?_)
  have i1_t_1 : tq_iv 0 1600 t_1 := tq_eqL a7011 i_w0
  refine tz_let (fun t_6 e7010 => ?_)
  have i2_t_6 : tq_iv 20 1620 t_6 := tq_w (tq_add e7010 i1_t_1 tk_20 (by decide) (by decide)) (by decide) (by decide)
  refine tz_if _ (fun c7009 => ?_) (fun c7009 => ?_)
  ·
    have i3_t_6 : tq_iv 20 1600 t_6 := tq_cut i2_t_6 (tq_leL c7009 i2_t_6 tk_1600) (by decide) (by decide)
    have i4_t_1 : tq_iv 0 1580 t_1 := tq_cut i1_t_1 (tq_addB e7010 i1_t_1 tk_20 i3_t_6 (by decide) (by decide)) (by decide) (by decide)
    have i5_w0 : tq_iv 0 1580 w0 := tq_cut i_w0 (tq_eqL (Eq.symm a7011) i4_t_1) (by decide) (by decide)
    have L_18 : ∀ (n_18 : Nat) (k_18 : ez_H → Nat → Int32 → Int32 → Int32 → Int32 → Int32 → Int32 → Option (Int32 × ez_H)), (∀ (σ_18 : ez_H) (x6_18 : Int32), tp p σ_18 → tq_iv 0 20 x6_18 → ez_gi σ_18 12 h0 2 = some w0 → (2147483647 - x6_18.toInt).toNat < n_18 → tz_O (fun z : Int32 × ez_H => (fun (z : Int32) (s : ez_H) => tq_iv (-1) 1600 z ∧ tp p s) z.1 z.2) (k_18 σ_18 h0 x1 x2 x3 x4 x5 x6_18)) → ∀ (σ_18 : ez_H) (x6_18 : Int32), tp p σ_18 → tq_iv 0 20 x6_18 → ez_gi σ_18 12 h0 2 = some w0 → (2147483647 - x6_18.toInt).toNat < n_18 + 1 → tz_O (fun z : Int32 × ez_H => (fun (z : Int32) (s : ez_H) => tq_iv (-1) 1600 z ∧ tp p s) z.1 z.2) (z_X12_feed_18 k_18 σ_18 h0 x1 x2 x3 x4 x5 x6_18) := by
      intro n_18 k_18 hk_18 σ_18 x6_18 T_σ_18 i_x6_18 f0_18 hn_18
      unfold z_X12_feed_18
      refine tz_if _ (fun c7006 => ?_) (fun c7006 => ?_)
      ·
        have i6_x6_18 : tq_iv 20 20 x6_18 := tq_cut i_x6_18 (tq_leR c7006 tk_20 i_x6_18) (by decide) (by decide)
        refine tz_ba f0_18 (fun t_107 e6996 a6996 => ?_)
        have i7_t_107 : tq_iv 0 1580 t_107 := tq_eqL a6996 i5_w0
        refine tz_let (fun t_112 e6995 => ?_)
        have i8_t_112 : tq_iv 20 1600 t_112 := tq_w (tq_add e6995 i7_t_107 tk_20 (by decide) (by decide)) (by decide) (by decide)
        refine tz_be (tw_12_2 T_σ_18 k_h0 (tq_w i8_t_112 (by decide) (by decide))) (fun σ6994 e6994 T6994 => ?_)
        refine tz_ba (fr_pf_gi e6994) (fun t_117 e6993 a6993 => ?_)
        have i9_t_117 : tq_iv 20 1600 t_117 := tq_eqL a6993 i8_t_112
        exact tz_some ⟨(tq_w i9_t_117 (by decide) (by decide)), T6994⟩
      ·
        have i10_x6_18 : tq_iv 0 19 x6_18 := tq_cut i_x6_18 (tq_ltL (tq_nle c7006) i_x6_18 tk_20) (by decide) (by decide)
        have K_71 : ∀ (y0_71 : Int32), tz_O (fun z : Int32 × ez_H => (fun (z : Int32) (s : ez_H) => tq_iv (-1) 1600 z ∧ tp p s) z.1 z.2) (z_X12_feed_71 k_18 σ_18 h0 x1 x2 x3 x4 x5 x6_18 y0_71) := by
          intro y0_71
          unfold z_X12_feed_71
          refine tz_bk (tr_0 T_σ_18 k_h0) ?_
          refine tz_ba f0_18 (fun t_78 e6990 a6990 => ?_)
          have i11_t_78 : tq_iv 0 1580 t_78 := tq_eqL a6990 i5_w0
          refine tz_let (fun t_83 e6989 => ?_)
          have i12_t_83 : tq_iv 0 1599 t_83 := tq_w (tq_add e6989 i11_t_78 i10_x6_18 (by decide) (by decide)) (by decide) (by decide)
          refine tz_let (fun t_93 e6988 => ?_)
          have i13_t_93 : tq_iv 0 3 t_93 := tq_and2 e6988 tk_3 (by decide)
          refine tz_let (fun t_94 e6987 => ?_)
          have i14_t_94 : tq_iv 0 24 t_94 := tq_w (tq_mul e6987 tk_8 i13_t_93 (by decide) (by decide) (by decide)) (by decide) (by decide)
          refine tz_let (fun t_95 e6986 => ?_)
          have i15_t_95 : tq_iv 0 24 t_95 := tq_w (tq_sub e6986 tk_24 i14_t_94 (by decide) (by decide)) (by decide) (by decide)
          refine tz_let (fun t_96 e6985 => ?_)
          refine tz_let (fun t_97 e6984 => ?_)
          refine tz_be (tz_is T_σ_18 tc_171 (te_1 (p := p)) i12_t_83 (by decide) (by decide) (tq_nar_byte t_97)) (fun σ6983 e6983 T6983 => ?_)
          refine tz_let (fun t_99 e6982 => ?_)
          have i16_t_99 : tq_iv 1 20 t_99 := tq_w (tq_add e6982 i10_x6_18 tk_1 (by decide) (by decide)) (by decide) (by decide)
          exact hk_18 σ6983 t_99 T6983 (tq_w i16_t_99 (by decide) (by decide)) ((fr_is_gi e6983).trans f0_18) (tq_up e6982 i10_x6_18 tk_1 (by decide) (by decide) hn_18)
        refine tz_if _ (fun c7005 => ?_) (fun c7005 => ?_)
        ·
          have i17_x6_18 : tq_iv 4 19 x6_18 := tq_cut i10_x6_18 (tq_leR c7005 tk_4 i10_x6_18) (by decide) (by decide)
          refine tz_if _ (fun c7003 => ?_) (fun c7003 => ?_)
          ·
            have i18_x6_18 : tq_iv 8 19 x6_18 := tq_cut i17_x6_18 (tq_leR c7003 tk_8 i17_x6_18) (by decide) (by decide)
            refine tz_if _ (fun c7001 => ?_) (fun c7001 => ?_)
            ·
              have i19_x6_18 : tq_iv 12 19 x6_18 := tq_cut i18_x6_18 (tq_leR c7001 tk_12 i18_x6_18) (by decide) (by decide)
              refine tz_if _ (fun c6999 => ?_) (fun c6999 => ?_)
              ·
                have i20_x6_18 : tq_iv 16 19 x6_18 := tq_cut i19_x6_18 (tq_leR c6999 tk_16 i19_x6_18) (by decide) (by decide)
                exact K_71 x5
              ·
                have i21_x6_18 : tq_iv 12 15 x6_18 := tq_cut i19_x6_18 (tq_ltL (tq_nle c6999) i19_x6_18 tk_16) (by decide) (by decide)
                exact K_71 x4
            ·
              have i22_x6_18 : tq_iv 8 11 x6_18 := tq_cut i18_x6_18 (tq_ltL (tq_nle c7001) i18_x6_18 tk_12) (by decide) (by decide)
              exact K_71 x3
          ·
            have i23_x6_18 : tq_iv 4 7 x6_18 := tq_cut i17_x6_18 (tq_ltL (tq_nle c7003) i17_x6_18 tk_8) (by decide) (by decide)
            exact K_71 x2
        ·
          have i24_x6_18 : tq_iv 0 3 x6_18 := tq_cut i10_x6_18 (tq_ltL (tq_nle c7005) i10_x6_18 tk_4) (by decide) (by decide)
          exact K_71 x1
    have E_18 : ∀ (σ_18 : ez_H) (x6_18 : Int32), tp p σ_18 → tq_iv 0 20 x6_18 → ez_gi σ_18 12 h0 2 = some w0 → tz_O (fun z : Int32 × ez_H => (fun (z : Int32) (s : ez_H) => tq_iv (-1) 1600 z ∧ tp p s) z.1 z.2) (ez_fix (fun _ _ _ _ _ _ _ _ => none) (z_X12_feed_18) ez_N σ_18 h0 x1 x2 x3 x4 x5 x6_18) := by
      intro σ_18 x6_18 T_σ_18 i_x6_18 f0_18
      exact ez_fix_indn (fun n_18 (k_18 : ez_H → Nat → Int32 → Int32 → Int32 → Int32 → Int32 → Int32 → Option (Int32 × ez_H)) => ∀ (σ_18 : ez_H) (x6_18 : Int32), tp p σ_18 → tq_iv 0 20 x6_18 → ez_gi σ_18 12 h0 2 = some w0 → (2147483647 - x6_18.toInt).toNat < n_18 → tz_O (fun z : Int32 × ez_H => (fun (z : Int32) (s : ez_H) => tq_iv (-1) 1600 z ∧ tp p s) z.1 z.2) (k_18 σ_18 h0 x1 x2 x3 x4 x5 x6_18)) (by intros; rename_i h; exact absurd h (Nat.not_lt_zero _)) L_18 ez_N σ_18 x6_18 T_σ_18 i_x6_18 f0_18 (tq_m0 x6_18)
    exact E_18 σ (0 : Int32) hT (tq_w tk_0 (by decide) (by decide)) e_w0
  ·
    have i25_t_6 : tq_iv 1601 1620 t_6 := tq_cut i2_t_6 (tq_ltR (tq_nle c7009) tk_1600 i2_t_6) (by decide) (by decide)
    have i26_t_1 : tq_iv 1581 1600 t_1 := tq_cut i1_t_1 (tq_addB e7010 i1_t_1 tk_20 i25_t_6 (by decide) (by decide)) (by decide) (by decide)
    have i27_w0 : tq_iv 1581 1600 w0 := tq_cut i_w0 (tq_eqL (Eq.symm a7011) i26_t_1) (by decide) (by decide)
    exact tz_some ⟨(tq_w tk_m1 (by decide) (by decide)), hT⟩
set_option maxRecDepth 4000 in
theorem tz_X12_deepen {p : tz_P} {σ : ez_H} {h0 : Nat} {x1 : Int32} {x2 : Int32} (hT : tp p σ) (k_h0 : tz_C h0 = some (3, 12, 0, 0)) (i_x1 : tq_iv 0 7 x1) (i_x2 : tq_iv 0 4 x2) : tz_O2 (fun (z : Int32) (s : ez_H) => tq_iv 0 1 z ∧ tp p s) (z_X12_deepen σ h0 x1 x2) := by
  show tz_O (fun z : Int32 × ez_H => (fun (z : Int32) (s : ez_H) => tq_iv 0 1 z ∧ tp p s) z.1 z.2) _
  unfold z_X12_deepen
  refine tz_bd (tz_ob hT k_h0) (fun _ _ => ?_)
  refine tz_bd (tz_X12_cutOf hT k_h0 i_x1 i_x2) (fun t_3 i_t_3 => ?_)
  refine tz_bd (tz_X12_deep hT k_h0) (fun t_7 i_t_7 => ?_)
  refine tz_let (fun t_11 e7034 => ?_)
  have i1_t_11 : tq_iv 1 5 t_11 := tq_w (tq_sub e7034 i_t_7 tk_1 (by decide) (by decide)) (by decide) (by decide)
  refine tz_if _ (fun c7033 => ?_) (fun c7033 => ?_)
  ·
    have i2_t_3 : tq_iv 1 5 t_3 := tq_cut (tq_top t_3) (tq_eqL c7033 i1_t_11) (by decide) (by decide)
    exact tz_some ⟨(tq_w tk_0 (by decide) (by decide)), hT⟩
  ·
    refine tz_bk (tr_53 hT k_h0) ?_
    refine tz_let (fun t_24 e7031 => ?_)
    have i3_t_24 : tq_iv 0 35 t_24 := tq_w (tq_mul e7031 tk_5 i_x1 (by decide) (by decide) (by decide)) (by decide) (by decide)
    refine tz_let (fun t_25 e7030 => ?_)
    have i4_t_25 : tq_iv 0 35 t_25 := tq_w (tq_add e7030 tk_0 i3_t_24 (by decide) (by decide)) (by decide) (by decide)
    refine tz_let (fun t_27 e7029 => ?_)
    have i5_t_27 : tq_iv 0 39 t_27 := tq_w (tq_add e7029 i4_t_25 i_x2 (by decide) (by decide)) (by decide) (by decide)
    refine tz_be (tz_iaS hT tc_205 (ts_205 0 39 (-2147483648) 2147483647 (by decide)) i5_t_27 (by decide) (by decide)) (fun t_29 e7028 i_t_29 => ?_)
    refine tz_let (fun t_31 e7027 => ?_)
    refine tz_be (tz_isS hT tc_205 (tS_205 0 39 (-2147483648) 2147483647 (by decide)) i5_t_27 (by decide) (by decide) (tq_top t_31)) (fun σ7026 e7026 T7026 => ?_)
    refine tz_bd (tz_X12_numberOf T7026 k_h0 i_x1) (fun t_36 i_t_36 => ?_)
    refine tz_bd (tz_X12_isLegal T7026 k_h0) (fun t_39 ⟨i_t_39, g_t_39⟩ => ?_)
    refine tz_if _ (fun c7023 => ?_) (fun c7023 => ?_)
    ·
      have i6_t_39 : tq_iv 0 0 t_39 := tq_cut i_t_39 (tq_eqL c7023 tk_0) (by decide) (by decide)
      refine tz_bk (tr_53 T7026 k_h0) ?_
      refine tz_let (fun t_54 e7020 => ?_)
      have i7_t_54 : tq_iv 0 35 t_54 := tq_w (tq_mul e7020 tk_5 i_x1 (by decide) (by decide) (by decide)) (by decide) (by decide)
      refine tz_let (fun t_55 e7019 => ?_)
      have i8_t_55 : tq_iv 0 35 t_55 := tq_w (tq_add e7019 tk_0 i7_t_54 (by decide) (by decide)) (by decide) (by decide)
      refine tz_let (fun t_57 e7018 => ?_)
      have i9_t_57 : tq_iv 0 39 t_57 := tq_w (tq_add e7018 i8_t_55 i_x2 (by decide) (by decide)) (by decide) (by decide)
      refine tz_be (tz_iaS T7026 tc_205 (ts_205 0 39 (-2147483648) 2147483647 (by decide)) i9_t_57 (by decide) (by decide)) (fun t_59 e7017 i_t_59 => ?_)
      refine tz_let (fun t_61 e7016 => ?_)
      refine tz_be (tz_isS T7026 tc_205 (tS_205 0 39 (-2147483648) 2147483647 (by decide)) i9_t_57 (by decide) (by decide) (tq_top t_61)) (fun σ7015 e7015 T7015 => ?_)
      exact tz_some ⟨(tq_w tk_0 (by decide) (by decide)), T7015⟩
    ·
      have i10_t_36 : tq_iv 0 7775 t_36 := tq_cut (tq_top t_36) (g_t_39 c7023) (by decide) (by decide)
      have i11_t_39 : tq_iv 1 1 t_39 := tq_w (tq_neLo c7023 i_t_39 tk_0) (by decide) (by decide)
      exact tz_some ⟨(tq_w tk_1 (by decide) (by decide)), T7026⟩
set_option maxRecDepth 4000 in
theorem tz_X12_file {p : tz_P} {σ : ez_H} {h0 : Nat} {x1 : Int32} {x2 : Int32} (hT : tp p σ) (k_h0 : tz_C h0 = some (3, 12, 0, 0)) : tz_O2 (fun (z : Int32) (s : ez_H) => tq_iv (-2147483648) 2147483647 z ∧ tp p s) (z_X12_file σ h0 x1 x2) := by
  show tz_O (fun z : Int32 × ez_H => (fun (z : Int32) (s : ez_H) => tq_iv (-2147483648) 2147483647 z ∧ tp p s) z.1 z.2) _
  unfold z_X12_file
  refine tz_bd (tz_ob hT k_h0) (fun _ _ => ?_)
  refine tz_bd (tz_X12_isKey hT k_h0) (fun t_2 ⟨i_t_2, g_t_2⟩ => ?_)
  have K_25 : ∀ (σ_25 : ez_H), tp p σ_25 → tz_O (fun z : Int32 × ez_H => (fun (z : Int32) (s : ez_H) => tq_iv (-2147483648) 2147483647 z ∧ tp p s) z.1 z.2) (z_X12_file_25 σ_25) := by
    intro σ_25 T_σ_25
    unfold z_X12_file_25
    exact tz_some ⟨(tq_top (-1 : Int32)), T_σ_25⟩
  refine tz_if _ (fun c7096 => ?_) (fun c7096 => ?_)
  ·
    have i1_t_2 : tq_iv 0 0 t_2 := tq_cut i_t_2 (tq_eqL c7096 tk_0) (by decide) (by decide)
    exact K_25 σ hT
  ·
    have i2_x1 : tq_iv 0 7 x1 := tq_cut (tq_top x1) (g_t_2 c7096) (by decide) (by decide)
    have i3_t_2 : tq_iv 1 1 t_2 := tq_w (tq_neLo c7096 i_t_2 tk_0) (by decide) (by decide)
    refine tz_bd (tz_X12_isChamber hT k_h0) (fun t_10 ⟨i_t_10, g_t_10⟩ => ?_)
    refine tz_if _ (fun c7094 => ?_) (fun c7094 => ?_)
    ·
      have i4_t_10 : tq_iv 0 0 t_10 := tq_cut i_t_10 (tq_eqL c7094 tk_0) (by decide) (by decide)
      exact K_25 σ hT
    ·
      have i5_x2 : tq_iv 0 4 x2 := tq_cut (tq_top x2) (g_t_10 c7094) (by decide) (by decide)
      have i6_t_10 : tq_iv 1 1 t_10 := tq_w (tq_neLo c7094 i_t_10 tk_0) (by decide) (by decide)
      refine tz_b2 (tz_X12_deepen hT k_h0 i2_x1 i5_x2) (fun t_19 σ7093 ⟨i_t_19, T7093⟩ => ?_)
      refine tz_if _ (fun c7092 => ?_) (fun c7092 => ?_)
      ·
        have i7_t_19 : tq_iv 0 0 t_19 := tq_cut i_t_19 (tq_eqL c7092 tk_0) (by decide) (by decide)
        exact K_25 σ7093 T7093
      ·
        have i8_t_19 : tq_iv 1 1 t_19 := tq_w (tq_neLo c7092 i_t_19 tk_0) (by decide) (by decide)
        refine tz_bk (tr_53 T7093 k_h0) ?_
        refine tz_let (fun t_34 e7090 => ?_)
        have i9_t_34 : tq_iv 0 35 t_34 := tq_w (tq_mul e7090 tk_5 i2_x1 (by decide) (by decide) (by decide)) (by decide) (by decide)
        refine tz_let (fun t_35 e7089 => ?_)
        have i10_t_35 : tq_iv 0 35 t_35 := tq_w (tq_add e7089 tk_0 i9_t_34 (by decide) (by decide)) (by decide) (by decide)
        refine tz_let (fun t_37 e7088 => ?_)
        have i11_t_37 : tq_iv 0 39 t_37 := tq_w (tq_add e7088 i10_t_35 i5_x2 (by decide) (by decide)) (by decide) (by decide)
        refine tz_be (tz_iaS T7093 tc_205 (ts_205 0 39 (-2147483648) 2147483647 (by decide)) i11_t_37 (by decide) (by decide)) (fun t_39 e7087 i_t_39 => ?_)
        refine tz_let (fun t_41 e7086 => ?_)
        refine tz_be (tz_isS T7093 tc_205 (tS_205 0 39 (-2147483648) 2147483647 (by decide)) i11_t_37 (by decide) (by decide) (tq_top t_41)) (fun σ7085 e7085 T7085 => ?_)
        refine tz_b2 (tz_X12_keepAct T7085 k_h0) (fun _ σ7084 T7084 => ?_)
        refine tz_bk (tr_53 T7084 k_h0) ?_
        refine tz_let (fun t_54 e7082 => ?_)
        have i12_t_54 : tq_iv 0 35 t_54 := tq_w (tq_mul e7082 tk_5 i2_x1 (by decide) (by decide) (by decide)) (by decide) (by decide)
        refine tz_let (fun t_55 e7081 => ?_)
        have i13_t_55 : tq_iv 0 35 t_55 := tq_w (tq_add e7081 tk_0 i12_t_54 (by decide) (by decide)) (by decide) (by decide)
        refine tz_let (fun t_57 e7080 => ?_)
        have i14_t_57 : tq_iv 0 39 t_57 := tq_w (tq_add e7080 i13_t_55 i5_x2 (by decide) (by decide)) (by decide) (by decide)
        refine tz_be (tz_iaS T7084 tc_205 (ts_205 0 39 (-2147483648) 2147483647 (by decide)) i14_t_57 (by decide) (by decide)) (fun t_59 e7079 i_t_59 => ?_)
        refine tz_let (fun t_61 e7078 => ?_)
        refine tz_be (tz_isS T7084 tc_205 (tS_205 0 39 (-2147483648) 2147483647 (by decide)) i14_t_57 (by decide) (by decide) (tq_top t_61)) (fun σ7077 e7077 T7077 => ?_)
        refine tz_bd (tz_X12_cutOf T7077 k_h0 i2_x1 i5_x2) (fun t_66 i_t_66 => ?_)
        exact tz_some ⟨(tq_top t_66), T7077⟩
set_option maxRecDepth 4000 in
theorem tz_X12_isLock {p : tz_P} {σ : ez_H} {h0 : Nat} {x1 : Int32} (hT : tp p σ) (k_h0 : tz_C h0 = some (3, 12, 0, 0)) : tz_O (fun z => tq_iv 0 1 z ∧ (¬ z = 0 → tq_iv 0 5 x1)) (z_X12_isLock σ h0 x1) := by
  unfold z_X12_isLock
  refine tz_bd (tz_ob hT k_h0) (fun _ _ => ?_)
  refine tz_bd (tz_X12_bolts hT k_h0) (fun t_3 i_t_3 => ?_)
  refine tz_let (fun t_7 e7102 => ?_)
  have i1_t_7 : tq_iv (-1) 5 t_7 := tq_w (tq_sub e7102 i_t_3 tk_1 (by decide) (by decide)) (by decide) (by decide)
  refine tz_bd (tz_X12_isIn hT) (fun t_8 ⟨i_t_8, g_t_8⟩ => ?_)
  refine tz_nr (tq_nr_boolean i_t_8) ?_
  exact tz_some ⟨i_t_8, (fun h => tq_w (tq_cut (tq_cut (tq_top x1) (tq_leR (g_t_8 h).1 tk_0 (tq_top x1)) (by decide) (by decide)) (tq_leL (g_t_8 h).2 (tq_top x1) i1_t_7) (by decide) (by decide)) (by decide) (by decide))⟩
set_option maxRecDepth 4000 in
theorem tz_X12_cutIn {p : tz_P} {σ : ez_H} {h0 : Nat} {x1 : Int32} {x2 : Int32} (hT : tp p σ) (k_h0 : tz_C h0 = some (3, 12, 0, 0)) (i_x1 : tq_iv 0 7775 x1) (i_x2 : tq_iv 0 4 x2) : tz_O (fun z => tq_iv 0 5 z) (z_X12_cutIn σ h0 x1 x2) := by
  unfold z_X12_cutIn
  refine tz_bd (tz_ob hT k_h0) (fun _ _ => ?_)
  refine tz_bd (tz_X12_deep hT k_h0) (fun t_2 i_t_2 => ?_)
  refine tz_bd (tz_X12_wide hT k_h0) (fun t_6 i_t_6 => ?_)
  refine tz_let (fun t_10 e7113 => ?_)
  have i1_t_10 : tq_iv 1 4 t_10 := tq_w (tq_sub e7113 i_t_6 tk_1 (by decide) (by decide)) (by decide) (by decide)
  refine tz_let (fun t_12 e7112 => ?_)
  have i2_t_12 : tq_iv (-3) 4 t_12 := tq_w (tq_sub e7112 i1_t_10 i_x2 (by decide) (by decide)) (by decide) (by decide)
  refine tz_bd (tz_X12_power hT i_t_2 (tq_w i2_t_12 (by decide) (by decide))) (fun t_13 i_t_13 => ?_)
  refine tz_nz (tq_nz i_t_13 (by decide)) ?_
  refine tz_let (fun t_16 e7109 => ?_)
  have i3_t_16 : tq_iv 0 7775 t_16 := tq_div e7109 i_x1 i_t_13 (by decide) (by decide)
  refine tz_bd (tz_X12_deep hT k_h0) (fun t_18 i_t_18 => ?_)
  refine tz_nz (tq_nz i_t_18 (by decide)) ?_
  refine tz_let (fun t_21 e7106 => ?_)
  have i4_t_21 : tq_iv 0 5 t_21 := tq_rem2 e7106 i3_t_16 i_t_18 (by decide) (by decide)
  exact tz_some i4_t_21
set_option maxRecDepth 4000 in
theorem tz_X12_filedTo {p : tz_P} {σ : ez_H} {h0 : Nat} {x1 : Int32} {x2 : Int32} (hT : tp p σ) (k_h0 : tz_C h0 = some (3, 12, 0, 0)) (i_x1 : tq_iv 0 7 x1) (i_x2 : tq_iv 0 7775 x2) : tz_O (fun z => tq_iv (-2147483648) 2147483647 z) (z_X12_filedTo σ h0 x1 x2) := by
  unfold z_X12_filedTo
  refine tz_bd (tz_ob hT k_h0) (fun _ _ => ?_)
  have L_5 : ∀ (n_5 : Nat) (k_5 : Nat → Int32 → Int32 → Int32 → Int32 → Option (Int32)), (∀ (x3_5 : Int32) (x4_5 : Int32), tq_iv 0 5 x4_5 → (2147483647 - x4_5.toInt).toNat < n_5 → tz_O (fun (z : Int32) => tq_iv (-2147483648) 2147483647 z) (k_5 h0 x1 x2 x3_5 x4_5)) → ∀ (x3_5 : Int32) (x4_5 : Int32), tq_iv 0 5 x4_5 → (2147483647 - x4_5.toInt).toNat < n_5 + 1 → tz_O (fun (z : Int32) => tq_iv (-2147483648) 2147483647 z) (z_X12_filedTo_5 σ k_5 h0 x1 x2 x3_5 x4_5) := by
    intro n_5 k_5 hk_5 x3_5 x4_5 i_x4_5 hn_5
    unfold z_X12_filedTo_5
    refine tz_bd (tz_X12_wide hT k_h0) (fun t_8 i_t_8 => ?_)
    refine tz_if _ (fun c7128 => ?_) (fun c7128 => ?_)
    ·
      have i1_x4_5 : tq_iv 2 5 x4_5 := tq_cut i_x4_5 (tq_leR c7128 i_t_8 i_x4_5) (by decide) (by decide)
      exact tz_some (tq_top x3_5)
    ·
      have i2_x4_5 : tq_iv 0 4 x4_5 := tq_cut i_x4_5 (tq_ltL (tq_nle c7128) i_x4_5 i_t_8) (by decide) (by decide)
      refine tz_bd (tz_X12_cutIn hT k_h0 i_x2 i2_x4_5) (fun t_18 i_t_18 => ?_)
      refine tz_bd (tz_X12_cutOf hT k_h0 i_x1 i2_x4_5) (fun t_25 i_t_25 => ?_)
      refine tz_if _ (fun c7125 => ?_) (fun c7125 => ?_)
      ·
        have i3_t_25 : tq_iv (-2147483648) 5 t_25 := tq_cut (tq_top t_25) (tq_leL c7125 (tq_top t_25) i_t_18) (by decide) (by decide)
        refine tz_bd (tz_X12_cutIn hT k_h0 i_x2 i2_x4_5) (fun t_38 i_t_38 => ?_)
        refine tz_bd (tz_X12_cutOf hT k_h0 i_x1 i2_x4_5) (fun t_45 i_t_45 => ?_)
        refine tz_let (fun t_48 e7121 => ?_)
        refine tz_let (fun t_49 e7120 => ?_)
        refine tz_let (fun t_51 e7119 => ?_)
        have i4_t_51 : tq_iv 1 5 t_51 := tq_w (tq_add e7119 i2_x4_5 tk_1 (by decide) (by decide)) (by decide) (by decide)
        exact hk_5 t_49 t_51 (tq_w i4_t_51 (by decide) (by decide)) (tq_up e7119 i2_x4_5 tk_1 (by decide) (by decide) hn_5)
      ·
        have i5_t_25 : tq_iv 1 2147483647 t_25 := tq_cut (tq_top t_25) (tq_ltR (tq_nle c7125) i_t_18 (tq_top t_25)) (by decide) (by decide)
        exact tz_some (tq_top (-1 : Int32))
  have E_5 : ∀ (x3_5 : Int32) (x4_5 : Int32), tq_iv 0 5 x4_5 → tz_O (fun (z : Int32) => tq_iv (-2147483648) 2147483647 z) (ez_fix (fun _ _ _ _ _ => none) (z_X12_filedTo_5 σ) ez_N h0 x1 x2 x3_5 x4_5) := by
    intro x3_5 x4_5 i_x4_5
    exact ez_fix_indn (fun n_5 (k_5 : Nat → Int32 → Int32 → Int32 → Int32 → Option (Int32)) => ∀ (x3_5 : Int32) (x4_5 : Int32), tq_iv 0 5 x4_5 → (2147483647 - x4_5.toInt).toNat < n_5 → tz_O (fun (z : Int32) => tq_iv (-2147483648) 2147483647 z) (k_5 h0 x1 x2 x3_5 x4_5)) (by intros; rename_i h; exact absurd h (Nat.not_lt_zero _)) L_5 ez_N x3_5 x4_5 i_x4_5 (tq_m0 x4_5)
  exact E_5 (0 : Int32) (0 : Int32) (tq_w tk_0 (by decide) (by decide))
set_option maxRecDepth 4000 in
theorem tz_X12_filing {p : tz_P} {σ : ez_H} {h0 : Nat} {x1 : Int32} {x2 : Int32} {x3 : Int32} (hT : tp p σ) (k_h0 : tz_C h0 = some (3, 12, 0, 0)) : tz_O (fun z => tq_iv (-1) 100000 z) (z_X12_filing σ h0 x1 x2 x3) := by
  unfold z_X12_filing
  refine tz_bd (tz_ob hT k_h0) (fun _ _ => ?_)
  refine tz_bd (tz_X12_isKey hT k_h0) (fun t_2 ⟨i_t_2, g_t_2⟩ => ?_)
  have K_25 : tz_O (fun (z : Int32) => tq_iv (-1) 100000 z) (z_X12_filing_25 σ) := by
    unfold z_X12_filing_25
    exact tz_some (tq_w tk_m1 (by decide) (by decide))
  refine tz_if _ (fun c7163 => ?_) (fun c7163 => ?_)
  ·
    have i1_t_2 : tq_iv 0 0 t_2 := tq_cut i_t_2 (tq_eqL c7163 tk_0) (by decide) (by decide)
    exact K_25 
  ·
    have i2_x1 : tq_iv 0 7 x1 := tq_cut (tq_top x1) (g_t_2 c7163) (by decide) (by decide)
    have i3_t_2 : tq_iv 1 1 t_2 := tq_w (tq_neLo c7163 i_t_2 tk_0) (by decide) (by decide)
    refine tz_bd (tz_X12_isLock hT k_h0) (fun t_10 ⟨i_t_10, g_t_10⟩ => ?_)
    refine tz_if _ (fun c7161 => ?_) (fun c7161 => ?_)
    ·
      have i4_t_10 : tq_iv 0 0 t_10 := tq_cut i_t_10 (tq_eqL c7161 tk_0) (by decide) (by decide)
      exact K_25 
    ·
      have i5_x2 : tq_iv 0 5 x2 := tq_cut (tq_top x2) (g_t_10 c7161) (by decide) (by decide)
      have i6_t_10 : tq_iv 1 1 t_10 := tq_w (tq_neLo c7161 i_t_10 tk_0) (by decide) (by decide)
      refine tz_bd (tz_X12_isIn hT) (fun t_19 ⟨i_t_19, g_t_19⟩ => ?_)
      refine tz_if _ (fun c7159 => ?_) (fun c7159 => ?_)
      ·
        have i7_t_19 : tq_iv 0 0 t_19 := tq_cut i_t_19 (tq_eqL c7159 tk_0) (by decide) (by decide)
        exact K_25 
      ·
        have i8_x3 : tq_iv 0 1 x3 := tq_cut (tq_top x3) (tq_cut (tq_cut (tq_top x3) (tq_leR (g_t_19 c7159).1 tk_0 (tq_top x3)) (by decide) (by decide)) (tq_leL (g_t_19 c7159).2 (tq_top x3) tk_1) (by decide) (by decide)) (by decide) (by decide)
        have i9_t_19 : tq_iv 1 1 t_19 := tq_w (tq_neLo c7159 i_t_19 tk_0) (by decide) (by decide)
        have L_38 : ∀ (n_38 : Nat) (k_38 : Nat → Int32 → Int32 → Int32 → Int32 → Int32 → Int32 → Option (Int32)), (∀ (x4_38 : Int32) (x5_38 : Int32) (x6_38 : Int32), tq_iv (-1) 99999 x4_38 → tq_iv 0 100000 x5_38 → tq_iv 0 7776 x6_38 → (2147483647 - x6_38.toInt).toNat < n_38 → tz_O (fun (z : Int32) => tq_iv (-1) 100000 z) (k_38 h0 x1 x2 x3 x4_38 x5_38 x6_38)) → ∀ (x4_38 : Int32) (x5_38 : Int32) (x6_38 : Int32), tq_iv (-1) 99999 x4_38 → tq_iv 0 100000 x5_38 → tq_iv 0 7776 x6_38 → (2147483647 - x6_38.toInt).toNat < n_38 + 1 → tz_O (fun (z : Int32) => tq_iv (-1) 100000 z) (z_X12_filing_38 σ k_38 h0 x1 x2 x3 x4_38 x5_38 x6_38) := by
          intro n_38 k_38 hk_38 x4_38 x5_38 x6_38 i_x4_38 i_x5_38 i_x6_38 hn_38
          unfold z_X12_filing_38
          refine tz_bd (tz_X12_bittings hT k_h0) (fun t_41 i_t_41 => ?_)
          refine tz_if _ (fun c7153 => ?_) (fun c7153 => ?_)
          ·
            have i10_x6_38 : tq_iv 1 7776 x6_38 := tq_cut i_x6_38 (tq_leR c7153 i_t_41 i_x6_38) (by decide) (by decide)
            have K_127 : ∀ (y0_127 : Int32), tq_iv (-1) 100000 y0_127 → tz_O (fun (z : Int32) => tq_iv (-1) 100000 z) (z_X12_filing_127 σ y0_127) := by
              intro y0_127 i_y0_127
              unfold z_X12_filing_127
              exact tz_some i_y0_127
            refine tz_if _ (fun c7140 => ?_) (fun c7140 => ?_)
            ·
              have i11_x4_38 : tq_iv 0 99999 x4_38 := tq_cut i_x4_38 (tq_leR c7140 tk_0 i_x4_38) (by decide) (by decide)
              refine tz_if _ (fun c7138 => ?_) (fun c7138 => ?_)
              ·
                have i12_x3 : tq_iv 0 0 x3 := tq_cut i8_x3 (tq_eqL c7138 tk_0) (by decide) (by decide)
                exact K_127 x5_38 (tq_w i_x5_38 (by decide) (by decide))
              ·
                have i13_x3 : tq_iv 1 1 x3 := tq_w (tq_neLo c7138 i8_x3 tk_0) (by decide) (by decide)
                exact K_127 x4_38 (tq_w i11_x4_38 (by decide) (by decide))
            ·
              have i14_x4_38 : tq_iv (-1) (-1) x4_38 := tq_cut i_x4_38 (tq_ltL (tq_nle c7140) i_x4_38 tk_0) (by decide) (by decide)
              exact K_127 (-1 : Int32) (tq_w tk_m1 (by decide) (by decide))
          ·
            have i15_x6_38 : tq_iv 0 7775 x6_38 := tq_cut i_x6_38 (tq_ltL (tq_nle c7153) i_x6_38 i_t_41) (by decide) (by decide)
            refine tz_bd (tz_X12_isLegal hT k_h0) (fun t_50 ⟨i_t_50, g_t_50⟩ => ?_)
            have K_101 : ∀ (x4_101 : Int32) (x5_101 : Int32), tq_iv (-1) 99999 x4_101 → tq_iv 0 100000 x5_101 → tz_O (fun (z : Int32) => tq_iv (-1) 100000 z) (z_X12_filing_101 σ k_38 h0 x1 x2 x3 x4_101 x5_101 x6_38) := by
              intro x4_101 x5_101 i_x4_101 i_x5_101
              unfold z_X12_filing_101
              refine tz_let (fun t_101 e7135 => ?_)
              have i16_t_101 : tq_iv 1 7776 t_101 := tq_w (tq_add e7135 i15_x6_38 tk_1 (by decide) (by decide)) (by decide) (by decide)
              exact hk_38 x4_101 x5_101 t_101 i_x4_101 i_x5_101 (tq_w i16_t_101 (by decide) (by decide)) (tq_up e7135 i15_x6_38 tk_1 (by decide) (by decide) hn_38)
            refine tz_if _ (fun c7151 => ?_) (fun c7151 => ?_)
            ·
              have i17_t_50 : tq_iv 0 0 t_50 := tq_cut i_t_50 (tq_eqL c7151 tk_0) (by decide) (by decide)
              exact K_101 x4_38 x5_38 i_x4_38 i_x5_38
            ·
              have i18_t_50 : tq_iv 1 1 t_50 := tq_w (tq_neLo c7151 i_t_50 tk_0) (by decide) (by decide)
              refine tz_bd (tz_X12_doesOpen hT k_h0 i5_x2) (fun t_60 i_t_60 => ?_)
              refine tz_if _ (fun c7149 => ?_) (fun c7149 => ?_)
              ·
                have i19_t_60 : tq_iv 0 0 t_60 := tq_cut i_t_60 (tq_eqL c7149 tk_0) (by decide) (by decide)
                exact K_101 x4_38 x5_38 i_x4_38 i_x5_38
              ·
                have i20_t_60 : tq_iv 1 1 t_60 := tq_w (tq_neLo c7149 i_t_60 tk_0) (by decide) (by decide)
                refine tz_bd (tz_X12_filedTo hT k_h0 i2_x1 i15_x6_38) (fun t_73 i_t_73 => ?_)
                refine tz_if _ (fun c7147 => ?_) (fun c7147 => ?_)
                ·
                  have i21_t_73 : tq_iv (-2147483648) (-1) t_73 := tq_cut (tq_top t_73) (tq_ltL c7147 (tq_top t_73) tk_0) (by decide) (by decide)
                  exact K_101 x4_38 x5_38 i_x4_38 i_x5_38
                ·
                  have i22_t_73 : tq_iv 0 2147483647 t_73 := tq_cut (tq_top t_73) (tq_leR (tq_nlt c7147) tk_0 (tq_top t_73)) (by decide) (by decide)
                  refine tz_if _ (fun c7146 => ?_) (fun c7146 => ?_)
                  ·
                    have i23_t_73 : tq_iv 0 99999 t_73 := tq_cut i22_t_73 (tq_ltL c7146 i22_t_73 i_x5_38) (by decide) (by decide)
                    have i24_x5_38 : tq_iv 1 100000 x5_38 := tq_cut i_x5_38 (tq_ltR c7146 i22_t_73 i_x5_38) (by decide) (by decide)
                    exact K_101 x6_38 t_73 (tq_w i15_x6_38 (by decide) (by decide)) (tq_w i23_t_73 (by decide) (by decide))
                  ·
                    exact K_101 x4_38 x5_38 i_x4_38 i_x5_38
        have E_38 : ∀ (x4_38 : Int32) (x5_38 : Int32) (x6_38 : Int32), tq_iv (-1) 99999 x4_38 → tq_iv 0 100000 x5_38 → tq_iv 0 7776 x6_38 → tz_O (fun (z : Int32) => tq_iv (-1) 100000 z) (ez_fix (fun _ _ _ _ _ _ _ => none) (z_X12_filing_38 σ) ez_N h0 x1 x2 x3 x4_38 x5_38 x6_38) := by
          intro x4_38 x5_38 x6_38 i_x4_38 i_x5_38 i_x6_38
          exact ez_fix_indn (fun n_38 (k_38 : Nat → Int32 → Int32 → Int32 → Int32 → Int32 → Int32 → Option (Int32)) => ∀ (x4_38 : Int32) (x5_38 : Int32) (x6_38 : Int32), tq_iv (-1) 99999 x4_38 → tq_iv 0 100000 x5_38 → tq_iv 0 7776 x6_38 → (2147483647 - x6_38.toInt).toNat < n_38 → tz_O (fun (z : Int32) => tq_iv (-1) 100000 z) (k_38 h0 x1 x2 x3 x4_38 x5_38 x6_38)) (by intros; rename_i h; exact absurd h (Nat.not_lt_zero _)) L_38 ez_N x4_38 x5_38 x6_38 i_x4_38 i_x5_38 i_x6_38 (tq_m0 x6_38)
        exact E_38 (-1 : Int32) (100000 : Int32) (0 : Int32) (tq_w tk_m1 (by decide) (by decide)) (tq_w tk_100000 (by decide) (by decide)) (tq_w tk_0 (by decide) (by decide))
set_option maxRecDepth 4000 in
theorem tz_X12_isPerson {p : tz_P} {σ : ez_H} {h0 : Nat} {x1 : Int32} (hT : tp p σ) (k_h0 : tz_C h0 = some (3, 12, 0, 0)) : tz_O (fun z => tq_iv 0 1 z ∧ (¬ z = 0 → tq_iv 0 3 x1)) (z_X12_isPerson σ h0 x1) := by
  unfold z_X12_isPerson
  refine tz_bd (tz_ob hT k_h0) (fun _ _ => ?_)
  refine tz_bk (tr_18 hT k_h0) ?_
  refine tz_be (tg_12_43 hT k_h0) (fun t_7 e7171 i_t_7 => ?_)
  refine tz_be (tz_ia hT tc_180 (te_180 (p := p)) i_t_7 (by decide) (by decide)) (fun t_10 e7170 i_t_10 => ?_)
  refine tz_let (fun t_12 e7169 => ?_)
  have i1_t_12 : tq_iv (-1) 3 t_12 := tq_w (tq_sub e7169 i_t_10 tk_1 (by decide) (by decide)) (by decide) (by decide)
  refine tz_bd (tz_X12_isIn hT) (fun t_13 ⟨i_t_13, g_t_13⟩ => ?_)
  refine tz_nr (tq_nr_boolean i_t_13) ?_
  exact tz_some ⟨i_t_13, (fun h => tq_w (tq_cut (tq_cut (tq_top x1) (tq_leR (g_t_13 h).1 tk_0 (tq_top x1)) (by decide) (by decide)) (tq_leL (g_t_13 h).2 (tq_top x1) i1_t_12) (by decide) (by decide)) (by decide) (by decide))⟩
set_option maxRecDepth 4000 in
theorem tz_X12_hand {p : tz_P} {σ : ez_H} {h0 : Nat} {x1 : Int32} {x2 : Int32} (hT : tp p σ) (k_h0 : tz_C h0 = some (3, 12, 0, 0)) (i_x1 : tq_iv 0 7 x1) (i_x2 : tq_iv (-2) 3 x2) : tz_O2 (fun (z : Int32) (s : ez_H) => tq_iv (-2) 3 z ∧ tp p s) (z_X12_hand σ h0 x1 x2) := by
  show tz_O (fun z : Int32 × ez_H => (fun (z : Int32) (s : ez_H) => tq_iv (-2) 3 z ∧ tp p s) z.1 z.2) _
  unfold z_X12_hand
  refine tz_bd (tz_ob hT k_h0) (fun _ _ => ?_)
  refine tz_b2 (tz_X12_keepAct hT k_h0) (fun _ σ7179 T7179 => ?_)
  refine tz_bd (tz_X12_holderOf T7179 k_h0 i_x1) (fun t_6 i_t_6 => ?_)
  refine tz_bk (tr_53 T7179 k_h0) ?_
  refine tz_let (fun t_17 e7176 => ?_)
  have i1_t_17 : tq_iv 48 55 t_17 := tq_w (tq_add e7176 tk_48 i_x1 (by decide) (by decide)) (by decide) (by decide)
  refine tz_be (tz_isS T7179 tc_205 (tS_205 48 55 (-2) 3 (by decide)) i1_t_17 (by decide) (by decide) i_x2) (fun σ7175 e7175 T7175 => ?_)
  exact tz_some ⟨i_t_6, T7175⟩
set_option maxRecDepth 4000 in
theorem tz_X12_find {p : tz_P} {σ : ez_H} {h0 : Nat} {x1 : Int32} {x2 : Int32} (hT : tp p σ) (k_h0 : tz_C h0 = some (3, 12, 0, 0)) : tz_O2 (fun (z : Int32) (s : ez_H) => tq_iv (-2147483648) 2147483647 z ∧ tp p s) (z_X12_find σ h0 x1 x2) := by
  show tz_O (fun z : Int32 × ez_H => (fun (z : Int32) (s : ez_H) => tq_iv (-2147483648) 2147483647 z ∧ tp p s) z.1 z.2) _
  unfold z_X12_find
  refine tz_bd (tz_ob hT k_h0) (fun _ _ => ?_)
  refine tz_bd (tz_X12_isKey hT k_h0) (fun t_2 ⟨i_t_2, g_t_2⟩ => ?_)
  have K_26 : tz_O (fun z : Int32 × ez_H => (fun (z : Int32) (s : ez_H) => tq_iv (-2147483648) 2147483647 z ∧ tp p s) z.1 z.2) (z_X12_find_26 σ) := by
    unfold z_X12_find_26
    exact tz_some ⟨(tq_top (-1 : Int32)), hT⟩
  refine tz_if _ (fun c7193 => ?_) (fun c7193 => ?_)
  ·
    have i1_t_2 : tq_iv 0 0 t_2 := tq_cut i_t_2 (tq_eqL c7193 tk_0) (by decide) (by decide)
    exact K_26 
  ·
    have i2_x1 : tq_iv 0 7 x1 := tq_cut (tq_top x1) (g_t_2 c7193) (by decide) (by decide)
    have i3_t_2 : tq_iv 1 1 t_2 := tq_w (tq_neLo c7193 i_t_2 tk_0) (by decide) (by decide)
    refine tz_bd (tz_X12_isPerson hT k_h0) (fun t_10 ⟨i_t_10, g_t_10⟩ => ?_)
    refine tz_if _ (fun c7191 => ?_) (fun c7191 => ?_)
    ·
      have i4_t_10 : tq_iv 0 0 t_10 := tq_cut i_t_10 (tq_eqL c7191 tk_0) (by decide) (by decide)
      exact K_26 
    ·
      have i5_x2 : tq_iv 0 3 x2 := tq_cut (tq_top x2) (g_t_10 c7191) (by decide) (by decide)
      have i6_t_10 : tq_iv 1 1 t_10 := tq_w (tq_neLo c7191 i_t_10 tk_0) (by decide) (by decide)
      refine tz_bd (tz_X12_holderOf hT k_h0 i2_x1) (fun t_18 i_t_18 => ?_)
      refine tz_if _ (fun c7189 => ?_) (fun c7189 => ?_)
      ·
        have i7_t_18 : tq_iv (-2) (-2) t_18 := tq_cut i_t_18 (tq_eqL c7189 tk_m2) (by decide) (by decide)
        refine tz_b2 (tz_X12_hand hT k_h0 i2_x1 (tq_w i5_x2 (by decide) (by decide))) (fun t_31 σ7187 ⟨i_t_31, T7187⟩ => ?_)
        refine tz_bd (tz_X12_keysOf T7187 k_h0 i5_x2) (fun t_37 i_t_37 => ?_)
        refine tz_bd (tz_X12_bitsOf T7187) (fun t_40 i_t_40 => ?_)
        exact tz_some ⟨(tq_top t_40), T7187⟩
      ·
        have i8_t_18 : tq_iv (-1) 3 t_18 := tq_w (tq_neLo c7189 i_t_18 tk_m2) (by decide) (by decide)
        exact K_26
set_option maxRecDepth 4000 in
theorem tz_X12_isCut {p : tz_P} {σ : ez_H} {h0 : Nat} {x1 : Int32} (hT : tp p σ) (k_h0 : tz_C h0 = some (3, 12, 0, 0)) (i_x1 : tq_iv 0 7775 x1) : tz_O (fun z => tq_iv 0 1 z) (z_X12_isCut σ h0 x1) := by
  unfold z_X12_isCut
  refine tz_bd (tz_ob hT k_h0) (fun _ _ => ?_)
  have L_2 : ∀ (n_2 : Nat) (k_2 : Nat → Int32 → Int32 → Option (Int32)), (∀ (x2_2 : Int32), tq_iv 0 8 x2_2 → (2147483647 - x2_2.toInt).toNat < n_2 → tz_O (fun (z : Int32) => tq_iv 0 1 z) (k_2 h0 x1 x2_2)) → ∀ (x2_2 : Int32), tq_iv 0 8 x2_2 → (2147483647 - x2_2.toInt).toNat < n_2 + 1 → tz_O (fun (z : Int32) => tq_iv 0 1 z) (z_X12_isCut_2 σ k_2 h0 x1 x2_2) := by
    intro n_2 k_2 hk_2 x2_2 i_x2_2 hn_2
    unfold z_X12_isCut_2
    refine tz_bd (tz_X12_many hT k_h0) (fun t_4 i_t_4 => ?_)
    refine tz_if _ (fun c7202 => ?_) (fun c7202 => ?_)
    ·
      exact tz_some (tq_w tk_0 (by decide) (by decide))
    ·
      have i1_x2_2 : tq_iv 0 7 x2_2 := tq_cut i_x2_2 (tq_ltL (tq_nle c7202) i_x2_2 i_t_4) (by decide) (by decide)
      have i2_t_4 : tq_iv 1 8 t_4 := tq_cut i_t_4 (tq_ltR (tq_nle c7202) i_x2_2 i_t_4) (by decide) (by decide)
      refine tz_bd (tz_X12_numberOf hT k_h0 i1_x2_2) (fun t_12 i_t_12 => ?_)
      refine tz_if _ (fun c7200 => ?_) (fun c7200 => ?_)
      ·
        have i3_t_12 : tq_iv 0 7775 t_12 := tq_cut (tq_top t_12) (tq_eqL c7200 i_x1) (by decide) (by decide)
        exact tz_some (tq_w tk_1 (by decide) (by decide))
      ·
        refine tz_let (fun t_21 e7199 => ?_)
        have i4_t_21 : tq_iv 1 8 t_21 := tq_w (tq_add e7199 i1_x2_2 tk_1 (by decide) (by decide)) (by decide) (by decide)
        exact hk_2 t_21 (tq_w i4_t_21 (by decide) (by decide)) (tq_up e7199 i1_x2_2 tk_1 (by decide) (by decide) hn_2)
  have E_2 : ∀ (x2_2 : Int32), tq_iv 0 8 x2_2 → tz_O (fun (z : Int32) => tq_iv 0 1 z) (ez_fix (fun _ _ _ => none) (z_X12_isCut_2 σ) ez_N h0 x1 x2_2) := by
    intro x2_2 i_x2_2
    exact ez_fix_indn (fun n_2 (k_2 : Nat → Int32 → Int32 → Option (Int32)) => ∀ (x2_2 : Int32), tq_iv 0 8 x2_2 → (2147483647 - x2_2.toInt).toNat < n_2 → tz_O (fun (z : Int32) => tq_iv 0 1 z) (k_2 h0 x1 x2_2)) (by intros; rename_i h; exact absurd h (Nat.not_lt_zero _)) L_2 ez_N x2_2 i_x2_2 (tq_m0 x2_2)
  exact E_2 (0 : Int32) (tq_w tk_0 (by decide) (by decide))
set_option maxRecDepth 4000 in
theorem tz_X12_isGhost {p : tz_P} {σ : ez_H} {h0 : Nat} {x1 : Int32} {x2 : Int32} (hT : tp p σ) (k_h0 : tz_C h0 = some (3, 12, 0, 0)) (i_x1 : tq_iv 0 7775 x1) (i_x2 : tq_iv 0 5 x2) : tz_O (fun z => tq_iv 0 1 z) (z_X12_isGhost σ h0 x1 x2) := by
  unfold z_X12_isGhost
  refine tz_bd (tz_ob hT k_h0) (fun _ _ => ?_)
  refine tz_bd (tz_X12_isLegal hT k_h0) (fun t_2 ⟨i_t_2, g_t_2⟩ => ?_)
  have K_30 : ∀ (y0_30 : Int32), tq_iv 0 1 y0_30 → (¬ y0_30 = 0 → tq_iv 1 1 t_2) → tz_O (fun (z : Int32) => tq_iv 0 1 z) (z_X12_isGhost_30 σ y0_30) := by
    intro y0_30 i_y0_30 g30_y0_30_t_2
    unfold z_X12_isGhost_30
    refine tz_nr (tq_nr_boolean i_y0_30) ?_
    exact tz_some i_y0_30
  have K_29 : tz_O (fun (z : Int32) => tq_iv 0 1 z) (z_X12_isGhost_29 σ) := by
    unfold z_X12_isGhost_29
    exact K_30 (0 : Int32) (tq_w tk_0 (by decide) (by decide)) (fun h => absurd rfl h)
  refine tz_if _ (fun c7217 => ?_) (fun c7217 => ?_)
  ·
    have i1_t_2 : tq_iv 0 0 t_2 := tq_cut i_t_2 (tq_eqL c7217 tk_0) (by decide) (by decide)
    exact K_29 
  ·
    have i2_t_2 : tq_iv 1 1 t_2 := tq_w (tq_neLo c7217 i_t_2 tk_0) (by decide) (by decide)
    refine tz_bd (tz_X12_doesOpen hT k_h0 i_x2) (fun t_11 i_t_11 => ?_)
    refine tz_if _ (fun c7215 => ?_) (fun c7215 => ?_)
    ·
      have i3_t_11 : tq_iv 0 0 t_11 := tq_cut i_t_11 (tq_eqL c7215 tk_0) (by decide) (by decide)
      exact K_29 
    ·
      have i4_t_11 : tq_iv 1 1 t_11 := tq_w (tq_neLo c7215 i_t_11 tk_0) (by decide) (by decide)
      refine tz_bd (tz_X12_isCut hT k_h0 i_x1) (fun t_19 i_t_19 => ?_)
      refine tz_if _ (fun c7213 => ?_) (fun c7213 => ?_)
      ·
        have i5_t_19 : tq_iv 0 0 t_19 := tq_cut i_t_19 (tq_eqL c7213 tk_0) (by decide) (by decide)
        exact K_30 (1 : Int32) (tq_w tk_1 (by decide) (by decide)) (fun _ => i2_t_2)
      ·
        have i6_t_19 : tq_iv 1 1 t_19 := tq_w (tq_neLo c7213 i_t_19 tk_0) (by decide) (by decide)
        exact K_29
set_option maxRecDepth 4000 in
theorem tz_X12_ghost {p : tz_P} {σ : ez_H} {h0 : Nat} {x1 : Int32} {x2 : Int32} (hT : tp p σ) (k_h0 : tz_C h0 = some (3, 12, 0, 0)) : tz_O (fun z => tq_iv (-1) 7775 z) (z_X12_ghost σ h0 x1 x2) := by
  unfold z_X12_ghost
  refine tz_bd (tz_ob hT k_h0) (fun _ _ => ?_)
  refine tz_bd (tz_X12_isLock hT k_h0) (fun t_2 ⟨i_t_2, g_t_2⟩ => ?_)
  have K_12 : tz_O (fun (z : Int32) => tq_iv (-1) 7775 z) (z_X12_ghost_12 σ) := by
    unfold z_X12_ghost_12
    exact tz_some (tq_w tk_m1 (by decide) (by decide))
  refine tz_if _ (fun c7237 => ?_) (fun c7237 => ?_)
  ·
    have i1_t_2 : tq_iv 0 0 t_2 := tq_cut i_t_2 (tq_eqL c7237 tk_0) (by decide) (by decide)
    exact K_12 
  ·
    have i2_x1 : tq_iv 0 5 x1 := tq_cut (tq_top x1) (g_t_2 c7237) (by decide) (by decide)
    have i3_t_2 : tq_iv 1 1 t_2 := tq_w (tq_neLo c7237 i_t_2 tk_0) (by decide) (by decide)
    refine tz_if _ (fun c7236 => ?_) (fun c7236 => ?_)
    ·
      have i4_x2 : tq_iv 0 2147483647 x2 := tq_cut (tq_top x2) (tq_leR c7236 tk_0 (tq_top x2)) (by decide) (by decide)
      have L_19 : ∀ (n_19 : Nat) (k_19 : Nat → Int32 → Int32 → Int32 → Option (Int32)), (∀ (x3_19 : Int32) (x4_19 : Int32), tq_iv 0 2147483647 x3_19 → tq_iv 0 7776 x4_19 → (2147483647 - x4_19.toInt).toNat < n_19 → tz_O (fun (z : Int32) => tq_iv (-1) 7775 z) (k_19 h0 x1 x3_19 x4_19)) → ∀ (x3_19 : Int32) (x4_19 : Int32), tq_iv 0 2147483647 x3_19 → tq_iv 0 7776 x4_19 → (2147483647 - x4_19.toInt).toNat < n_19 + 1 → tz_O (fun (z : Int32) => tq_iv (-1) 7775 z) (z_X12_ghost_19 σ k_19 h0 x1 x3_19 x4_19) := by
        intro n_19 k_19 hk_19 x3_19 x4_19 i_x3_19 i_x4_19 hn_19
        unfold z_X12_ghost_19
        refine tz_bd (tz_X12_bittings hT k_h0) (fun t_22 i_t_22 => ?_)
        refine tz_if _ (fun c7231 => ?_) (fun c7231 => ?_)
        ·
          have i5_x4_19 : tq_iv 1 7776 x4_19 := tq_cut i_x4_19 (tq_leR c7231 i_t_22 i_x4_19) (by decide) (by decide)
          exact tz_some (tq_w tk_m1 (by decide) (by decide))
        ·
          have i6_x4_19 : tq_iv 0 7775 x4_19 := tq_cut i_x4_19 (tq_ltL (tq_nle c7231) i_x4_19 i_t_22) (by decide) (by decide)
          refine tz_bd (tz_X12_isGhost hT k_h0 i6_x4_19 i2_x1) (fun t_32 i_t_32 => ?_)
          have K_51 : ∀ (x3_51 : Int32), tq_iv 0 2147483647 x3_51 → tz_O (fun (z : Int32) => tq_iv (-1) 7775 z) (z_X12_ghost_51 σ k_19 h0 x1 x3_51 x4_19) := by
            intro x3_51 i_x3_51
            unfold z_X12_ghost_51
            refine tz_let (fun t_51 e7222 => ?_)
            have i7_t_51 : tq_iv 1 7776 t_51 := tq_w (tq_add e7222 i6_x4_19 tk_1 (by decide) (by decide)) (by decide) (by decide)
            exact hk_19 x3_51 t_51 i_x3_51 (tq_w i7_t_51 (by decide) (by decide)) (tq_up e7222 i6_x4_19 tk_1 (by decide) (by decide) hn_19)
          refine tz_if _ (fun c7229 => ?_) (fun c7229 => ?_)
          ·
            have i8_t_32 : tq_iv 0 0 t_32 := tq_cut i_t_32 (tq_eqL c7229 tk_0) (by decide) (by decide)
            exact K_51 x3_19 i_x3_19
          ·
            have i9_t_32 : tq_iv 1 1 t_32 := tq_w (tq_neLo c7229 i_t_32 tk_0) (by decide) (by decide)
            refine tz_if _ (fun c7228 => ?_) (fun c7228 => ?_)
            ·
              have i10_x3_19 : tq_iv 0 0 x3_19 := tq_cut i_x3_19 (tq_eqL c7228 tk_0) (by decide) (by decide)
              exact tz_some (tq_w i6_x4_19 (by decide) (by decide))
            ·
              have i11_x3_19 : tq_iv 1 2147483647 x3_19 := tq_w (tq_neLo c7228 i_x3_19 tk_0) (by decide) (by decide)
              refine tz_let (fun t_48 e7227 => ?_)
              have i12_t_48 : tq_iv 0 2147483646 t_48 := tq_w (tq_add e7227 i11_x3_19 tk_m1 (by decide) (by decide)) (by decide) (by decide)
              exact K_51 t_48 (tq_w i12_t_48 (by decide) (by decide))
      have E_19 : ∀ (x3_19 : Int32) (x4_19 : Int32), tq_iv 0 2147483647 x3_19 → tq_iv 0 7776 x4_19 → tz_O (fun (z : Int32) => tq_iv (-1) 7775 z) (ez_fix (fun _ _ _ _ => none) (z_X12_ghost_19 σ) ez_N h0 x1 x3_19 x4_19) := by
        intro x3_19 x4_19 i_x3_19 i_x4_19
        exact ez_fix_indn (fun n_19 (k_19 : Nat → Int32 → Int32 → Int32 → Option (Int32)) => ∀ (x3_19 : Int32) (x4_19 : Int32), tq_iv 0 2147483647 x3_19 → tq_iv 0 7776 x4_19 → (2147483647 - x4_19.toInt).toNat < n_19 → tz_O (fun (z : Int32) => tq_iv (-1) 7775 z) (k_19 h0 x1 x3_19 x4_19)) (by intros; rename_i h; exact absurd h (Nat.not_lt_zero _)) L_19 ez_N x3_19 x4_19 i_x3_19 i_x4_19 (tq_m0 x4_19)
      exact E_19 x2 (0 : Int32) i4_x2 (tq_w tk_0 (by decide) (by decide))
    ·
      have i13_x2 : tq_iv (-2147483648) (-1) x2 := tq_cut (tq_top x2) (tq_ltL (tq_nle c7236) (tq_top x2) tk_0) (by decide) (by decide)
      exact K_12
set_option maxRecDepth 4000 in
theorem tz_X12_ghostsOf {p : tz_P} {σ : ez_H} {h0 : Nat} {x1 : Int32} (hT : tp p σ) (k_h0 : tz_C h0 = some (3, 12, 0, 0)) (i_x1 : tq_iv 0 5 x1) : tz_O (fun z => tq_iv (-2147483648) 2147483647 z) (z_X12_ghostsOf σ h0 x1) := by
  unfold z_X12_ghostsOf
  refine tz_bd (tz_ob hT k_h0) (fun _ _ => ?_)
  have L_4 : ∀ (n_4 : Nat) (k_4 : Nat → Int32 → Int32 → Int32 → Option (Int32)), (∀ (x2_4 : Int32) (x3_4 : Int32), tq_iv 0 7776 x3_4 → (2147483647 - x3_4.toInt).toNat < n_4 → tz_O (fun (z : Int32) => tq_iv (-2147483648) 2147483647 z) (k_4 h0 x1 x2_4 x3_4)) → ∀ (x2_4 : Int32) (x3_4 : Int32), tq_iv 0 7776 x3_4 → (2147483647 - x3_4.toInt).toNat < n_4 + 1 → tz_O (fun (z : Int32) => tq_iv (-2147483648) 2147483647 z) (z_X12_ghostsOf_4 σ k_4 h0 x1 x2_4 x3_4) := by
    intro n_4 k_4 hk_4 x2_4 x3_4 i_x3_4 hn_4
    unfold z_X12_ghostsOf_4
    refine tz_bd (tz_X12_bittings hT k_h0) (fun t_6 i_t_6 => ?_)
    refine tz_if _ (fun c7248 => ?_) (fun c7248 => ?_)
    ·
      have i1_x3_4 : tq_iv 1 7776 x3_4 := tq_cut i_x3_4 (tq_leR c7248 i_t_6 i_x3_4) (by decide) (by decide)
      exact tz_some (tq_top x2_4)
    ·
      have i2_x3_4 : tq_iv 0 7775 x3_4 := tq_cut i_x3_4 (tq_ltL (tq_nle c7248) i_x3_4 i_t_6) (by decide) (by decide)
      refine tz_bd (tz_X12_isGhost hT k_h0 i2_x3_4 i_x1) (fun t_15 i_t_15 => ?_)
      have K_24 : ∀ (x2_24 : Int32), tz_O (fun (z : Int32) => tq_iv (-2147483648) 2147483647 z) (z_X12_ghostsOf_24 σ k_4 h0 x1 x2_24 x3_4) := by
        intro x2_24
        unfold z_X12_ghostsOf_24
        refine tz_let (fun t_24 e7241 => ?_)
        have i3_t_24 : tq_iv 1 7776 t_24 := tq_w (tq_add e7241 i2_x3_4 tk_1 (by decide) (by decide)) (by decide) (by decide)
        exact hk_4 x2_24 t_24 (tq_w i3_t_24 (by decide) (by decide)) (tq_up e7241 i2_x3_4 tk_1 (by decide) (by decide) hn_4)
      refine tz_if _ (fun c7246 => ?_) (fun c7246 => ?_)
      ·
        have i4_t_15 : tq_iv 0 0 t_15 := tq_cut i_t_15 (tq_eqL c7246 tk_0) (by decide) (by decide)
        exact K_24 x2_4
      ·
        have i5_t_15 : tq_iv 1 1 t_15 := tq_w (tq_neLo c7246 i_t_15 tk_0) (by decide) (by decide)
        refine tz_let (fun t_21 e7245 => ?_)
        exact K_24 t_21
  have E_4 : ∀ (x2_4 : Int32) (x3_4 : Int32), tq_iv 0 7776 x3_4 → tz_O (fun (z : Int32) => tq_iv (-2147483648) 2147483647 z) (ez_fix (fun _ _ _ _ => none) (z_X12_ghostsOf_4 σ) ez_N h0 x1 x2_4 x3_4) := by
    intro x2_4 x3_4 i_x3_4
    exact ez_fix_indn (fun n_4 (k_4 : Nat → Int32 → Int32 → Int32 → Option (Int32)) => ∀ (x2_4 : Int32) (x3_4 : Int32), tq_iv 0 7776 x3_4 → (2147483647 - x3_4.toInt).toNat < n_4 → tz_O (fun (z : Int32) => tq_iv (-2147483648) 2147483647 z) (k_4 h0 x1 x2_4 x3_4)) (by intros; rename_i h; exact absurd h (Nat.not_lt_zero _)) L_4 ez_N x2_4 x3_4 i_x3_4 (tq_m0 x3_4)
  exact E_4 (0 : Int32) (0 : Int32) (tq_w tk_0 (by decide) (by decide))
set_option maxRecDepth 4000 in
theorem tz_X12_ghosts {p : tz_P} {σ : ez_H} {h0 : Nat} {x1 : Int32} (hT : tp p σ) (k_h0 : tz_C h0 = some (3, 12, 0, 0)) : tz_O (fun z => tq_iv (-2147483648) 2147483647 z) (z_X12_ghosts σ h0 x1) := by
  unfold z_X12_ghosts
  refine tz_bd (tz_ob hT k_h0) (fun _ _ => ?_)
  refine tz_bd (tz_X12_isLock hT k_h0) (fun t_2 ⟨i_t_2, g_t_2⟩ => ?_)
  have K_17 : ∀ (y0_17 : Int32), tz_O (fun (z : Int32) => tq_iv (-2147483648) 2147483647 z) (z_X12_ghosts_17 σ y0_17) := by
    intro y0_17
    unfold z_X12_ghosts_17
    exact tz_some (tq_top y0_17)
  refine tz_if _ (fun c7256 => ?_) (fun c7256 => ?_)
  ·
    have i1_t_2 : tq_iv 0 0 t_2 := tq_cut i_t_2 (tq_eqL c7256 tk_0) (by decide) (by decide)
    exact K_17 (-1 : Int32)
  ·
    have i2_x1 : tq_iv 0 5 x1 := tq_cut (tq_top x1) (g_t_2 c7256) (by decide) (by decide)
    have i3_t_2 : tq_iv 1 1 t_2 := tq_w (tq_neLo c7256 i_t_2 tk_0) (by decide) (by decide)
    refine tz_bd (tz_X12_ghostsOf hT k_h0 i2_x1) (fun t_10 i_t_10 => ?_)
    exact K_17 t_10
set_option maxRecDepth 4000 in
theorem tz_X12_give {p : tz_P} {σ : ez_H} {h0 : Nat} {x1 : Int32} {x2 : Int32} (hT : tp p σ) (k_h0 : tz_C h0 = some (3, 12, 0, 0)) : tz_O2 (fun (z : Int32) (s : ez_H) => tq_iv (-3) 3 z ∧ tp p s) (z_X12_give σ h0 x1 x2) := by
  show tz_O (fun z : Int32 × ez_H => (fun (z : Int32) (s : ez_H) => tq_iv (-3) 3 z ∧ tp p s) z.1 z.2) _
  unfold z_X12_give
  refine tz_bd (tz_ob hT k_h0) (fun _ _ => ?_)
  refine tz_bd (tz_X12_isKey hT k_h0) (fun t_2 ⟨i_t_2, g_t_2⟩ => ?_)
  have K_35 : tz_O (fun z : Int32 × ez_H => (fun (z : Int32) (s : ez_H) => tq_iv (-3) 3 z ∧ tp p s) z.1 z.2) (z_X12_give_35 σ) := by
    unfold z_X12_give_35
    exact tz_some ⟨(tq_w tk_m3 (by decide) (by decide)), hT⟩
  refine tz_if _ (fun c7285 => ?_) (fun c7285 => ?_)
  ·
    have i1_t_2 : tq_iv 0 0 t_2 := tq_cut i_t_2 (tq_eqL c7285 tk_0) (by decide) (by decide)
    exact K_35 
  ·
    have i2_x1 : tq_iv 0 7 x1 := tq_cut (tq_top x1) (g_t_2 c7285) (by decide) (by decide)
    have i3_t_2 : tq_iv 1 1 t_2 := tq_w (tq_neLo c7285 i_t_2 tk_0) (by decide) (by decide)
    refine tz_bd (tz_X12_isPerson hT k_h0) (fun t_10 ⟨i_t_10, g_t_10⟩ => ?_)
    refine tz_if _ (fun c7283 => ?_) (fun c7283 => ?_)
    ·
      have i4_t_10 : tq_iv 0 0 t_10 := tq_cut i_t_10 (tq_eqL c7283 tk_0) (by decide) (by decide)
      exact K_35 
    ·
      have i5_x2 : tq_iv 0 3 x2 := tq_cut (tq_top x2) (g_t_10 c7283) (by decide) (by decide)
      have i6_t_10 : tq_iv 1 1 t_10 := tq_w (tq_neLo c7283 i_t_10 tk_0) (by decide) (by decide)
      refine tz_bd (tz_X12_holderOf hT k_h0 i2_x1) (fun t_18 i_t_18 => ?_)
      refine tz_if _ (fun c7281 => ?_) (fun c7281 => ?_)
      ·
        have i7_t_18 : tq_iv 0 3 t_18 := tq_cut i_t_18 (tq_eqL c7281 i5_x2) (by decide) (by decide)
        exact K_35 
      ·
        refine tz_bd (tz_X12_holderOf hT k_h0 i2_x1) (fun t_27 i_t_27 => ?_)
        refine tz_if _ (fun c7279 => ?_) (fun c7279 => ?_)
        ·
          have i8_t_27 : tq_iv (-2) (-2) t_27 := tq_cut i_t_27 (tq_eqL c7279 tk_m2) (by decide) (by decide)
          exact K_35 
        ·
          have i9_t_27 : tq_iv (-1) 3 t_27 := tq_w (tq_neLo c7279 i_t_27 tk_m2) (by decide) (by decide)
          refine tz_bd (tz_X12_holderOf hT k_h0 i2_x1) (fun t_40 i_t_40 => ?_)
          have K_74 : tz_O (fun z : Int32 × ez_H => (fun (z : Int32) (s : ez_H) => tq_iv (-3) 3 z ∧ tp p s) z.1 z.2) (z_X12_give_74 σ h0 x1 x2) := by
            unfold z_X12_give_74
            refine tz_b2 (tz_X12_hand hT k_h0 i2_x1 (tq_w i5_x2 (by decide) (by decide))) (fun t_77 σ7261 ⟨i_t_77, T7261⟩ => ?_)
            exact tz_some ⟨(tq_w i_t_77 (by decide) (by decide)), T7261⟩
          refine tz_if _ (fun c7277 => ?_) (fun c7277 => ?_)
          ·
            have i10_t_40 : tq_iv (-2) (-1) t_40 := tq_cut i_t_40 (tq_ltL c7277 i_t_40 tk_0) (by decide) (by decide)
            exact K_74 
          ·
            have i11_t_40 : tq_iv 0 3 t_40 := tq_cut i_t_40 (tq_leR (tq_nlt c7277) tk_0 i_t_40) (by decide) (by decide)
            refine tz_bk (tr_53 hT k_h0) ?_
            refine tz_bd (tz_X12_holderOf hT k_h0 i2_x1) (fun t_54 i_t_54 => ?_)
            refine tz_let (fun t_57 e7274 => ?_)
            have i12_t_57 : tq_iv 84 89 t_57 := tq_w (tq_add e7274 tk_86 i_t_54 (by decide) (by decide)) (by decide) (by decide)
            refine tz_be (tz_iaS hT tc_205 (ts_205 84 89 (-2147483648) 2147483647 (by decide)) i12_t_57 (by decide) (by decide)) (fun t_58 e7273 i_t_58 => ?_)
            refine tz_bk (tr_53 hT k_h0) ?_
            refine tz_let (fun t_66 e7271 => ?_)
            have i13_t_66 : tq_iv 86 89 t_66 := tq_w (tq_add e7271 tk_86 i5_x2 (by decide) (by decide)) (by decide) (by decide)
            refine tz_be (tz_iaS hT tc_205 (ts_205 86 89 0 5 (by decide)) i13_t_66 (by decide) (by decide)) (fun t_67 e7270 i_t_67 => ?_)
            refine tz_if _ (fun c7269 => ?_) (fun c7269 => ?_)
            ·
              have i14_t_58 : tq_iv 0 5 t_58 := tq_cut (tq_top t_58) (tq_eqL c7269 i_t_67) (by decide) (by decide)
              exact K_74 
            ·
              exact tz_some ⟨(tq_w tk_m3 (by decide) (by decide)), hT⟩
set_option maxRecDepth 4000 in
theorem tz_X12_hang {p : tz_P} {σ : ez_H} {h0 : Nat} {x1 : Int32} (hT : tp p σ) (k_h0 : tz_C h0 = some (3, 12, 0, 0)) : tz_O2 (fun (z : Int32) (s : ez_H) => tq_iv (-3) 3 z ∧ tp p s) (z_X12_hang σ h0 x1) := by
  show tz_O (fun z : Int32 × ez_H => (fun (z : Int32) (s : ez_H) => tq_iv (-3) 3 z ∧ tp p s) z.1 z.2) _
  unfold z_X12_hang
  refine tz_bd (tz_ob hT k_h0) (fun _ _ => ?_)
  refine tz_bd (tz_X12_isKey hT k_h0) (fun t_2 ⟨i_t_2, g_t_2⟩ => ?_)
  have K_27 : ∀ (σ_27 : ez_H) (y0_27 : Int32), tp p σ_27 → tq_iv (-3) 3 y0_27 → tz_O (fun z : Int32 × ez_H => (fun (z : Int32) (s : ez_H) => tq_iv (-3) 3 z ∧ tp p s) z.1 z.2) (z_X12_hang_27 σ_27 y0_27) := by
    intro σ_27 y0_27 T_σ_27 i_y0_27
    unfold z_X12_hang_27
    exact tz_some ⟨i_y0_27, T_σ_27⟩
  have K_25 : tz_O (fun z : Int32 × ez_H => (fun (z : Int32) (s : ez_H) => tq_iv (-3) 3 z ∧ tp p s) z.1 z.2) (z_X12_hang_25 σ) := by
    unfold z_X12_hang_25
    exact K_27 σ (-3 : Int32) hT (tq_w tk_m3 (by decide) (by decide))
  refine tz_if _ (fun c7296 => ?_) (fun c7296 => ?_)
  ·
    have i1_t_2 : tq_iv 0 0 t_2 := tq_cut i_t_2 (tq_eqL c7296 tk_0) (by decide) (by decide)
    exact K_25 
  ·
    have i2_x1 : tq_iv 0 7 x1 := tq_cut (tq_top x1) (g_t_2 c7296) (by decide) (by decide)
    have i3_t_2 : tq_iv 1 1 t_2 := tq_w (tq_neLo c7296 i_t_2 tk_0) (by decide) (by decide)
    refine tz_bd (tz_X12_holderOf hT k_h0 i2_x1) (fun t_10 i_t_10 => ?_)
    refine tz_if _ (fun c7294 => ?_) (fun c7294 => ?_)
    ·
      have i4_t_10 : tq_iv (-2) (-1) t_10 := tq_cut i_t_10 (tq_ltL c7294 i_t_10 tk_0) (by decide) (by decide)
      exact K_25 
    ·
      have i5_t_10 : tq_iv 0 3 t_10 := tq_cut i_t_10 (tq_leR (tq_nlt c7294) tk_0 i_t_10) (by decide) (by decide)
      refine tz_b2 (tz_X12_hand hT k_h0 i2_x1 (tq_w tk_m1 (by decide) (by decide))) (fun t_19 σ7293 ⟨i_t_19, T7293⟩ => ?_)
      exact K_27 σ7293 t_19 T7293 (tq_w i_t_19 (by decide) (by decide))
set_option maxRecDepth 4000 in
theorem tz_X12_haunted {p : tz_P} {σ : ez_H} {h0 : Nat} (hT : tp p σ) (k_h0 : tz_C h0 = some (3, 12, 0, 0)) : tz_O (fun z => tq_iv (-1) 5 z) (z_X12_haunted σ h0) := by
  unfold z_X12_haunted
  refine tz_bd (tz_ob hT k_h0) (fun _ _ => ?_)
  have L_6 : ∀ (n_6 : Nat) (k_6 : Nat → Int32 → Int32 → Int32 → Option (Int32)), (∀ (x1_6 : Int32) (x2_6 : Int32) (x3_6 : Int32), tq_iv (-1) 5 x1_6 → tq_iv (-1) 2147483647 x2_6 → tq_iv 0 6 x3_6 → (2147483647 - x3_6.toInt).toNat < n_6 → tz_O (fun (z : Int32) => tq_iv (-1) 5 z) (k_6 h0 x1_6 x2_6 x3_6)) → ∀ (x1_6 : Int32) (x2_6 : Int32) (x3_6 : Int32), tq_iv (-1) 5 x1_6 → tq_iv (-1) 2147483647 x2_6 → tq_iv 0 6 x3_6 → (2147483647 - x3_6.toInt).toNat < n_6 + 1 → tz_O (fun (z : Int32) => tq_iv (-1) 5 z) (z_X12_haunted_6 σ k_6 h0 x1_6 x2_6 x3_6) := by
    intro n_6 k_6 hk_6 x1_6 x2_6 x3_6 i_x1_6 i_x2_6 i_x3_6 hn_6
    unfold z_X12_haunted_6
    refine tz_bd (tz_X12_bolts hT k_h0) (fun t_8 i_t_8 => ?_)
    refine tz_if _ (fun c7306 => ?_) (fun c7306 => ?_)
    ·
      exact tz_some i_x1_6
    ·
      have i1_x3_6 : tq_iv 0 5 x3_6 := tq_cut i_x3_6 (tq_ltL (tq_nle c7306) i_x3_6 i_t_8) (by decide) (by decide)
      have i2_t_8 : tq_iv 1 6 t_8 := tq_cut i_t_8 (tq_ltR (tq_nle c7306) i_x3_6 i_t_8) (by decide) (by decide)
      refine tz_bd (tz_X12_ghostsOf hT k_h0 i1_x3_6) (fun t_16 i_t_16 => ?_)
      have K_35 : ∀ (x1_35 : Int32) (x2_35 : Int32), tq_iv (-1) 5 x1_35 → tq_iv (-1) 2147483647 x2_35 → tz_O (fun (z : Int32) => tq_iv (-1) 5 z) (z_X12_haunted_35 σ k_6 h0 x1_35 x2_35 x3_6) := by
        intro x1_35 x2_35 i_x1_35 i_x2_35
        unfold z_X12_haunted_35
        refine tz_let (fun t_35 e7300 => ?_)
        have i3_t_35 : tq_iv 1 6 t_35 := tq_w (tq_add e7300 i1_x3_6 tk_1 (by decide) (by decide)) (by decide) (by decide)
        exact hk_6 x1_35 x2_35 t_35 i_x1_35 i_x2_35 (tq_w i3_t_35 (by decide) (by decide)) (tq_up e7300 i1_x3_6 tk_1 (by decide) (by decide) hn_6)
      refine tz_if _ (fun c7304 => ?_) (fun c7304 => ?_)
      ·
        have i4_x2_6 : tq_iv (-1) 2147483646 x2_6 := tq_cut i_x2_6 (tq_ltL c7304 i_x2_6 (tq_top t_16)) (by decide) (by decide)
        have i5_t_16 : tq_iv 0 2147483647 t_16 := tq_cut (tq_top t_16) (tq_ltR c7304 i_x2_6 (tq_top t_16)) (by decide) (by decide)
        exact K_35 x3_6 t_16 (tq_w i1_x3_6 (by decide) (by decide)) (tq_w i5_t_16 (by decide) (by decide))
      ·
        exact K_35 x1_6 x2_6 i_x1_6 i_x2_6
  have E_6 : ∀ (x1_6 : Int32) (x2_6 : Int32) (x3_6 : Int32), tq_iv (-1) 5 x1_6 → tq_iv (-1) 2147483647 x2_6 → tq_iv 0 6 x3_6 → tz_O (fun (z : Int32) => tq_iv (-1) 5 z) (ez_fix (fun _ _ _ _ => none) (z_X12_haunted_6 σ) ez_N h0 x1_6 x2_6 x3_6) := by
    intro x1_6 x2_6 x3_6 i_x1_6 i_x2_6 i_x3_6
    exact ez_fix_indn (fun n_6 (k_6 : Nat → Int32 → Int32 → Int32 → Option (Int32)) => ∀ (x1_6 : Int32) (x2_6 : Int32) (x3_6 : Int32), tq_iv (-1) 5 x1_6 → tq_iv (-1) 2147483647 x2_6 → tq_iv 0 6 x3_6 → (2147483647 - x3_6.toInt).toNat < n_6 → tz_O (fun (z : Int32) => tq_iv (-1) 5 z) (k_6 h0 x1_6 x2_6 x3_6)) (by intros; rename_i h; exact absurd h (Nat.not_lt_zero _)) L_6 ez_N x1_6 x2_6 x3_6 i_x1_6 i_x2_6 i_x3_6 (tq_m0 x3_6)
  exact E_6 (-1 : Int32) (-1 : Int32) (0 : Int32) (tq_w tk_m1 (by decide) (by decide)) (tq_w tk_m1 (by decide) (by decide)) (tq_w tk_0 (by decide) (by decide))
set_option maxRecDepth 4000 in
theorem tz_X12_idle {p : tz_P} {σ : ez_H} {h0 : Nat} {x1 : Int32} (hT : tp p σ) (k_h0 : tz_C h0 = some (3, 12, 0, 0)) : tz_O (fun z => tq_iv (-2147483648) 2147483647 z) (z_X12_idle σ h0 x1) := by
  unfold z_X12_idle
  refine tz_bd (tz_ob hT k_h0) (fun _ _ => ?_)
  have K_27 : ∀ (y0_27 : Int32), tz_O (fun (z : Int32) => tq_iv (-2147483648) 2147483647 z) (z_X12_idle_27 σ y0_27) := by
    intro y0_27
    unfold z_X12_idle_27
    exact tz_some (tq_top y0_27)
  refine tz_if _ (fun c7317 => ?_) (fun c7317 => ?_)
  ·
    have i1_x1 : tq_iv 0 0 x1 := tq_cut (tq_top x1) (tq_eqL c7317 tk_0) (by decide) (by decide)
    refine tz_bd (tz_X12_keysBy hT k_h0 (tq_w tk_m1 (by decide) (by decide))) (fun t_6 i_t_6 => ?_)
    exact K_27 t_6
  ·
    refine tz_if _ (fun c7316 => ?_) (fun c7316 => ?_)
    ·
      have i2_x1 : tq_iv 1 1 x1 := tq_cut (tq_top x1) (tq_eqL c7316 tk_1) (by decide) (by decide)
      refine tz_bd (tz_X12_keysBy hT k_h0 (tq_w tk_m2 (by decide) (by decide))) (fun t_20 i_t_20 => ?_)
      exact K_27 t_20
    ·
      exact K_27 (-1 : Int32)
set_option maxRecDepth 4000 in
theorem tz_X12_cutAnew {p : tz_P} {σ : ez_H} {h0 : Nat} {x1 : Int32} {x2 : Int32} (hT : tp p σ) (k_h0 : tz_C h0 = some (3, 12, 0, 0)) (i_x1 : tq_iv 0 7 x1) (i_x2 : tq_iv 0 7775 x2) : tz_O2 (fun (z : Unit) (s : ez_H) => tp p s) (z_X12_cutAnew σ h0 x1 x2) := by
  show tz_O (fun z : Unit × ez_H => (fun (z : Unit) (s : ez_H) => tp p s) z.1 z.2) _
  unfold z_X12_cutAnew
  refine tz_bd (tz_ob hT k_h0) (fun _ _ => ?_)
  have L_2 : ∀ (n_2 : Nat) (k_2 : ez_H → Nat → Int32 → Int32 → Int32 → Option (Unit × ez_H)), (∀ (σ_2 : ez_H) (x3_2 : Int32), tp p σ_2 → tq_iv 0 5 x3_2 → (2147483647 - x3_2.toInt).toNat < n_2 → tz_O (fun z : Unit × ez_H => (fun (z : Unit) (s : ez_H) => tp p s) z.1 z.2) (k_2 σ_2 h0 x1 x2 x3_2)) → ∀ (σ_2 : ez_H) (x3_2 : Int32), tp p σ_2 → tq_iv 0 5 x3_2 → (2147483647 - x3_2.toInt).toNat < n_2 + 1 → tz_O (fun z : Unit × ez_H => (fun (z : Unit) (s : ez_H) => tp p s) z.1 z.2) (z_X12_cutAnew_2 k_2 σ_2 h0 x1 x2 x3_2) := by
    intro n_2 k_2 hk_2 σ_2 x3_2 T_σ_2 i_x3_2 hn_2
    unfold z_X12_cutAnew_2
    refine tz_bd (tz_X12_wide T_σ_2 k_h0) (fun t_4 i_t_4 => ?_)
    refine tz_if _ (fun c7357 => ?_) (fun c7357 => ?_)
    ·
      have i1_x3_2 : tq_iv 2 5 x3_2 := tq_cut i_x3_2 (tq_leR c7357 i_t_4 i_x3_2) (by decide) (by decide)
      exact tz_some T_σ_2
    ·
      have i2_x3_2 : tq_iv 0 4 x3_2 := tq_cut i_x3_2 (tq_ltL (tq_nle c7357) i_x3_2 i_t_4) (by decide) (by decide)
      refine tz_bk (tr_53 T_σ_2 k_h0) ?_
      refine tz_let (fun t_17 e7355 => ?_)
      have i3_t_17 : tq_iv 0 35 t_17 := tq_w (tq_mul e7355 tk_5 i_x1 (by decide) (by decide) (by decide)) (by decide) (by decide)
      refine tz_let (fun t_18 e7354 => ?_)
      have i4_t_18 : tq_iv 0 35 t_18 := tq_w (tq_add e7354 tk_0 i3_t_17 (by decide) (by decide)) (by decide) (by decide)
      refine tz_let (fun t_20 e7353 => ?_)
      have i5_t_20 : tq_iv 0 39 t_20 := tq_w (tq_add e7353 i4_t_18 i2_x3_2 (by decide) (by decide)) (by decide) (by decide)
      refine tz_bd (tz_X12_cutIn T_σ_2 k_h0 i_x2 i2_x3_2) (fun t_24 i_t_24 => ?_)
      refine tz_be (tz_isS T_σ_2 tc_205 (tS_205 0 39 (-2147483648) 2147483647 (by decide)) i5_t_20 (by decide) (by decide) (tq_top t_24)) (fun σ7351 e7351 T7351 => ?_)
      refine tz_let (fun t_28 e7350 => ?_)
      have i6_t_28 : tq_iv 1 5 t_28 := tq_w (tq_add e7350 i2_x3_2 tk_1 (by decide) (by decide)) (by decide) (by decide)
      exact hk_2 σ7351 t_28 T7351 (tq_w i6_t_28 (by decide) (by decide)) (tq_up e7350 i2_x3_2 tk_1 (by decide) (by decide) hn_2)
  have E_2 : ∀ (σ_2 : ez_H) (x3_2 : Int32), tp p σ_2 → tq_iv 0 5 x3_2 → tz_O (fun z : Unit × ez_H => (fun (z : Unit) (s : ez_H) => tp p s) z.1 z.2) (ez_fix (fun _ _ _ _ _ => none) (z_X12_cutAnew_2) ez_N σ_2 h0 x1 x2 x3_2) := by
    intro σ_2 x3_2 T_σ_2 i_x3_2
    exact ez_fix_indn (fun n_2 (k_2 : ez_H → Nat → Int32 → Int32 → Int32 → Option (Unit × ez_H)) => ∀ (σ_2 : ez_H) (x3_2 : Int32), tp p σ_2 → tq_iv 0 5 x3_2 → (2147483647 - x3_2.toInt).toNat < n_2 → tz_O (fun z : Unit × ez_H => (fun (z : Unit) (s : ez_H) => tp p s) z.1 z.2) (k_2 σ_2 h0 x1 x2 x3_2)) (by intros; rename_i h; exact absurd h (Nat.not_lt_zero _)) L_2 ez_N σ_2 x3_2 T_σ_2 i_x3_2 (tq_m0 x3_2)
  exact E_2 σ (0 : Int32) hT (tq_w tk_0 (by decide) (by decide))
set_option maxRecDepth 4000 in
theorem tz_X12_pinFor {p : tz_P} {σ : ez_H} {h0 : Nat} {x1 : Int32} {x2 : Int32} (hT : tp p σ) (k_h0 : tz_C h0 = some (3, 12, 0, 0)) (i_x1 : tq_iv 0 5 x1) : tz_O2 (fun (z : Unit) (s : ez_H) => tp p s) (z_X12_pinFor σ h0 x1 x2) := by
  show tz_O (fun z : Unit × ez_H => (fun (z : Unit) (s : ez_H) => tp p s) z.1 z.2) _
  unfold z_X12_pinFor
  refine tz_bd (tz_ob hT k_h0) (fun _ _ => ?_)
  have L_2 : ∀ (n_2 : Nat) (k_2 : ez_H → Nat → Int32 → Int32 → Int32 → Option (Unit × ez_H)), (∀ (σ_2 : ez_H) (x3_2 : Int32), tp p σ_2 → tq_iv 0 5 x3_2 → (2147483647 - x3_2.toInt).toNat < n_2 → tz_O (fun z : Unit × ez_H => (fun (z : Unit) (s : ez_H) => tp p s) z.1 z.2) (k_2 σ_2 h0 x1 x2 x3_2)) → ∀ (σ_2 : ez_H) (x3_2 : Int32), tp p σ_2 → tq_iv 0 5 x3_2 → (2147483647 - x3_2.toInt).toNat < n_2 + 1 → tz_O (fun z : Unit × ez_H => (fun (z : Unit) (s : ez_H) => tp p s) z.1 z.2) (z_X12_pinFor_2 k_2 σ_2 h0 x1 x2 x3_2) := by
    intro n_2 k_2 hk_2 σ_2 x3_2 T_σ_2 i_x3_2 hn_2
    unfold z_X12_pinFor_2
    refine tz_bd (tz_X12_wide T_σ_2 k_h0) (fun t_4 i_t_4 => ?_)
    refine tz_if _ (fun c7381 => ?_) (fun c7381 => ?_)
    ·
      have i1_x3_2 : tq_iv 2 5 x3_2 := tq_cut i_x3_2 (tq_leR c7381 i_t_4 i_x3_2) (by decide) (by decide)
      exact tz_some T_σ_2
    ·
      have i2_x3_2 : tq_iv 0 4 x3_2 := tq_cut i_x3_2 (tq_ltL (tq_nle c7381) i_x3_2 i_t_4) (by decide) (by decide)
      have L_16 : ∀ (n_16 : Nat) (k_16 : ez_H → Nat → Int32 → Int32 → Int32 → Int32 → Int32 → Option (Unit × ez_H)), (∀ (x4_16 : Int32) (x5_16 : Int32), tq_iv 0 8 x5_16 → (2147483647 - x5_16.toInt).toNat < n_16 → tz_O (fun z : Unit × ez_H => (fun (z : Unit) (s : ez_H) => tp p s) z.1 z.2) (k_16 σ_2 h0 x1 x2 x3_2 x4_16 x5_16)) → ∀ (x4_16 : Int32) (x5_16 : Int32), tq_iv 0 8 x5_16 → (2147483647 - x5_16.toInt).toNat < n_16 + 1 → tz_O (fun z : Unit × ez_H => (fun (z : Unit) (s : ez_H) => tp p s) z.1 z.2) (z_X12_pinFor_16 k_2 k_16 σ_2 h0 x1 x2 x3_2 x4_16 x5_16) := by
        intro n_16 k_16 hk_16 x4_16 x5_16 i_x5_16 hn_16
        unfold z_X12_pinFor_16
        refine tz_bd (tz_X12_many T_σ_2 k_h0) (fun t_19 i_t_19 => ?_)
        refine tz_if _ (fun c7377 => ?_) (fun c7377 => ?_)
        ·
          refine tz_bk (tr_53 T_σ_2 k_h0) ?_
          refine tz_let (fun t_62 e7368 => ?_)
          have i3_t_62 : tq_iv 0 25 t_62 := tq_w (tq_mul e7368 tk_5 i_x1 (by decide) (by decide) (by decide)) (by decide) (by decide)
          refine tz_let (fun t_63 e7367 => ?_)
          have i4_t_63 : tq_iv 56 81 t_63 := tq_w (tq_add e7367 tk_56 i3_t_62 (by decide) (by decide)) (by decide) (by decide)
          refine tz_let (fun t_65 e7366 => ?_)
          have i5_t_65 : tq_iv 56 85 t_65 := tq_w (tq_add e7366 i4_t_63 i2_x3_2 (by decide) (by decide)) (by decide) (by decide)
          refine tz_be (tz_isS T_σ_2 tc_205 (tS_205 56 85 (-2147483648) 2147483647 (by decide)) i5_t_65 (by decide) (by decide) (tq_top x4_16)) (fun σ7365 e7365 T7365 => ?_)
          refine tz_let (fun t_69 e7364 => ?_)
          have i6_t_69 : tq_iv 1 5 t_69 := tq_w (tq_add e7364 i2_x3_2 tk_1 (by decide) (by decide)) (by decide) (by decide)
          exact hk_2 σ7365 t_69 T7365 (tq_w i6_t_69 (by decide) (by decide)) (tq_up e7364 i2_x3_2 tk_1 (by decide) (by decide) hn_2)
        ·
          have i7_x5_16 : tq_iv 0 7 x5_16 := tq_cut i_x5_16 (tq_ltL (tq_nle c7377) i_x5_16 i_t_19) (by decide) (by decide)
          have i8_t_19 : tq_iv 1 8 t_19 := tq_cut i_t_19 (tq_ltR (tq_nle c7377) i_x5_16 i_t_19) (by decide) (by decide)
          refine tz_bd (tz_X12_bit T_σ_2) (fun t_28 i_t_28 => ?_)
          have K_48 : ∀ (x4_48 : Int32), tz_O (fun z : Unit × ez_H => (fun (z : Unit) (s : ez_H) => tp p s) z.1 z.2) (z_X12_pinFor_48 k_2 k_16 σ_2 h0 x1 x2 x3_2 x4_48 x5_16) := by
            intro x4_48
            unfold z_X12_pinFor_48
            refine tz_let (fun t_48 e7362 => ?_)
            have i9_t_48 : tq_iv 1 8 t_48 := tq_w (tq_add e7362 i7_x5_16 tk_1 (by decide) (by decide)) (by decide) (by decide)
            exact hk_16 x4_48 t_48 (tq_w i9_t_48 (by decide) (by decide)) (tq_up e7362 i7_x5_16 tk_1 (by decide) (by decide) hn_16)
          refine tz_if _ (fun c7375 => ?_) (fun c7375 => ?_)
          ·
            have i10_t_28 : tq_iv 0 0 t_28 := tq_cut i_t_28 (tq_eqL c7375 tk_0) (by decide) (by decide)
            exact K_48 x4_16
          ·
            have i11_t_28 : tq_iv 1 1 t_28 := tq_w (tq_neLo c7375 i_t_28 tk_0) (by decide) (by decide)
            refine tz_bd (tz_X12_cutOf T_σ_2 k_h0 i7_x5_16 i2_x3_2) (fun t_41 i_t_41 => ?_)
            refine tz_let (fun t_44 e7373 => ?_)
            refine tz_let (fun t_45 e7372 => ?_)
            exact K_48 t_45
      have E_16 : ∀ (x4_16 : Int32) (x5_16 : Int32), tq_iv 0 8 x5_16 → tz_O (fun z : Unit × ez_H => (fun (z : Unit) (s : ez_H) => tp p s) z.1 z.2) (ez_fix (fun _ _ _ _ _ _ _ => none) (z_X12_pinFor_16 k_2) ez_N σ_2 h0 x1 x2 x3_2 x4_16 x5_16) := by
        intro x4_16 x5_16 i_x5_16
        exact ez_fix_indn (fun n_16 (k_16 : ez_H → Nat → Int32 → Int32 → Int32 → Int32 → Int32 → Option (Unit × ez_H)) => ∀ (x4_16 : Int32) (x5_16 : Int32), tq_iv 0 8 x5_16 → (2147483647 - x5_16.toInt).toNat < n_16 → tz_O (fun z : Unit × ez_H => (fun (z : Unit) (s : ez_H) => tp p s) z.1 z.2) (k_16 σ_2 h0 x1 x2 x3_2 x4_16 x5_16)) (by intros; rename_i h; exact absurd h (Nat.not_lt_zero _)) L_16 ez_N x4_16 x5_16 i_x5_16 (tq_m0 x5_16)
      exact E_16 (0 : Int32) (0 : Int32) (tq_w tk_0 (by decide) (by decide))
  have E_2 : ∀ (σ_2 : ez_H) (x3_2 : Int32), tp p σ_2 → tq_iv 0 5 x3_2 → tz_O (fun z : Unit × ez_H => (fun (z : Unit) (s : ez_H) => tp p s) z.1 z.2) (ez_fix (fun _ _ _ _ _ => none) (z_X12_pinFor_2) ez_N σ_2 h0 x1 x2 x3_2) := by
    intro σ_2 x3_2 T_σ_2 i_x3_2
    exact ez_fix_indn (fun n_2 (k_2 : ez_H → Nat → Int32 → Int32 → Int32 → Option (Unit × ez_H)) => ∀ (σ_2 : ez_H) (x3_2 : Int32), tp p σ_2 → tq_iv 0 5 x3_2 → (2147483647 - x3_2.toInt).toNat < n_2 → tz_O (fun z : Unit × ez_H => (fun (z : Unit) (s : ez_H) => tp p s) z.1 z.2) (k_2 σ_2 h0 x1 x2 x3_2)) (by intros; rename_i h; exact absurd h (Nat.not_lt_zero _)) L_2 ez_N σ_2 x3_2 T_σ_2 i_x3_2 (tq_m0 x3_2)
  exact E_2 σ (0 : Int32) hT (tq_w tk_0 (by decide) (by decide))
set_option maxRecDepth 4000 in
theorem tz_X12_pinByPlan {p : tz_P} {σ : ez_H} {h0 : Nat} (hT : tp p σ) (k_h0 : tz_C h0 = some (3, 12, 0, 0)) : tz_O2 (fun (z : Unit) (s : ez_H) => tp p s) (z_X12_pinByPlan σ h0) := by
  show tz_O (fun z : Unit × ez_H => (fun (z : Unit) (s : ez_H) => tp p s) z.1 z.2) _
  unfold z_X12_pinByPlan
  refine tz_bd (tz_ob hT k_h0) (fun _ _ => ?_)
  have L_2 : ∀ (n_2 : Nat) (k_2 : ez_H → Nat → Int32 → Option (Unit × ez_H)), (∀ (σ_2 : ez_H) (x1_2 : Int32), tp p σ_2 → tq_iv 0 6 x1_2 → (2147483647 - x1_2.toInt).toNat < n_2 → tz_O (fun z : Unit × ez_H => (fun (z : Unit) (s : ez_H) => tp p s) z.1 z.2) (k_2 σ_2 h0 x1_2)) → ∀ (σ_2 : ez_H) (x1_2 : Int32), tp p σ_2 → tq_iv 0 6 x1_2 → (2147483647 - x1_2.toInt).toNat < n_2 + 1 → tz_O (fun z : Unit × ez_H => (fun (z : Unit) (s : ez_H) => tp p s) z.1 z.2) (z_X12_pinByPlan_2 k_2 σ_2 h0 x1_2) := by
    intro n_2 k_2 hk_2 σ_2 x1_2 T_σ_2 i_x1_2 hn_2
    unfold z_X12_pinByPlan_2
    refine tz_bd (tz_X12_bolts T_σ_2 k_h0) (fun t_4 i_t_4 => ?_)
    refine tz_if _ (fun c7394 => ?_) (fun c7394 => ?_)
    ·
      exact tz_some T_σ_2
    ·
      have i1_x1_2 : tq_iv 0 5 x1_2 := tq_cut i_x1_2 (tq_ltL (tq_nle c7394) i_x1_2 i_t_4) (by decide) (by decide)
      have i2_t_4 : tq_iv 1 6 t_4 := tq_cut i_t_4 (tq_ltR (tq_nle c7394) i_x1_2 i_t_4) (by decide) (by decide)
      refine tz_bd (tz_X12_mustOf T_σ_2 k_h0 i1_x1_2) (fun t_12 i_t_12 => ?_)
      have K_28 : ∀ (σ_28 : ez_H), tp p σ_28 → tz_O (fun z : Unit × ez_H => (fun (z : Unit) (s : ez_H) => tp p s) z.1 z.2) (z_X12_pinByPlan_28 k_2 σ_28 h0 x1_2) := by
        intro σ_28 T_σ_28
        unfold z_X12_pinByPlan_28
        refine tz_let (fun t_28 e7386 => ?_)
        have i3_t_28 : tq_iv 1 6 t_28 := tq_w (tq_add e7386 i1_x1_2 tk_1 (by decide) (by decide)) (by decide) (by decide)
        exact hk_2 σ_28 t_28 T_σ_28 (tq_w i3_t_28 (by decide) (by decide)) (tq_up e7386 i1_x1_2 tk_1 (by decide) (by decide) hn_2)
      refine tz_if _ (fun c7392 => ?_) (fun c7392 => ?_)
      ·
        have i4_t_12 : tq_iv 0 0 t_12 := tq_cut (tq_top t_12) (tq_eqL c7392 tk_0) (by decide) (by decide)
        exact K_28 σ_2 T_σ_2
      ·
        refine tz_bd (tz_X12_mustOf T_σ_2 k_h0 i1_x1_2) (fun t_22 i_t_22 => ?_)
        refine tz_b2 (tz_X12_pinFor T_σ_2 k_h0 i1_x1_2) (fun _ σ7390 T7390 => ?_)
        exact K_28 σ7390 T7390
  have E_2 : ∀ (σ_2 : ez_H) (x1_2 : Int32), tp p σ_2 → tq_iv 0 6 x1_2 → tz_O (fun z : Unit × ez_H => (fun (z : Unit) (s : ez_H) => tp p s) z.1 z.2) (ez_fix (fun _ _ _ => none) (z_X12_pinByPlan_2) ez_N σ_2 h0 x1_2) := by
    intro σ_2 x1_2 T_σ_2 i_x1_2
    exact ez_fix_indn (fun n_2 (k_2 : ez_H → Nat → Int32 → Option (Unit × ez_H)) => ∀ (σ_2 : ez_H) (x1_2 : Int32), tp p σ_2 → tq_iv 0 6 x1_2 → (2147483647 - x1_2.toInt).toNat < n_2 → tz_O (fun z : Unit × ez_H => (fun (z : Unit) (s : ez_H) => tp p s) z.1 z.2) (k_2 σ_2 h0 x1_2)) (by intros; rename_i h; exact absurd h (Nat.not_lt_zero _)) L_2 ez_N σ_2 x1_2 T_σ_2 i_x1_2 (tq_m0 x1_2)
  exact E_2 σ (0 : Int32) hT (tq_w tk_0 (by decide) (by decide))
set_option maxRecDepth 4000 in
theorem tz_X12_straysBy {p : tz_P} {σ : ez_H} {h0 : Nat} {x1 : Int32} (hT : tp p σ) (k_h0 : tz_C h0 = some (3, 12, 0, 0)) (i_x1 : tq_iv 0 2 x1) : tz_O (fun z => tq_iv (-2147483648) 2147483647 z) (z_X12_straysBy σ h0 x1) := by
  unfold z_X12_straysBy
  refine tz_bd (tz_ob hT k_h0) (fun _ _ => ?_)
  have L_10 : ∀ (n_10 : Nat) (k_10 : Nat → Int32 → Int32 → Int32 → Int32 → Int32 → Option (Int32)), (∀ (x2_10 : Int32) (x3_10 : Int32) (x4_10 : Int32) (x5_10 : Int32), tq_iv (-1) 7 x3_10 → tq_iv (-1) 5 x4_10 → tq_iv 0 8 x5_10 → (2147483647 - x5_10.toInt).toNat < n_10 → tz_O (fun (z : Int32) => tq_iv (-2147483648) 2147483647 z) (k_10 h0 x1 x2_10 x3_10 x4_10 x5_10)) → ∀ (x2_10 : Int32) (x3_10 : Int32) (x4_10 : Int32) (x5_10 : Int32), tq_iv (-1) 7 x3_10 → tq_iv (-1) 5 x4_10 → tq_iv 0 8 x5_10 → (2147483647 - x5_10.toInt).toNat < n_10 + 1 → tz_O (fun (z : Int32) => tq_iv (-2147483648) 2147483647 z) (z_X12_straysBy_10 σ k_10 h0 x1 x2_10 x3_10 x4_10 x5_10) := by
    intro n_10 k_10 hk_10 x2_10 x3_10 x4_10 x5_10 i_x3_10 i_x4_10 i_x5_10 hn_10
    unfold z_X12_straysBy_10
    refine tz_bd (tz_X12_many hT k_h0) (fun t_13 i_t_13 => ?_)
    refine tz_if _ (fun c7423 => ?_) (fun c7423 => ?_)
    ·
      have K_104 : ∀ (y0_104 : Int32), tz_O (fun (z : Int32) => tq_iv (-2147483648) 2147483647 z) (z_X12_straysBy_104 σ y0_104) := by
        intro y0_104
        unfold z_X12_straysBy_104
        exact tz_some (tq_top y0_104)
      refine tz_if _ (fun c7421 => ?_) (fun c7421 => ?_)
      ·
        have i1_x1 : tq_iv 0 0 x1 := tq_cut i_x1 (tq_eqL c7421 tk_0) (by decide) (by decide)
        exact K_104 x2_10
      ·
        have i2_x1 : tq_iv 1 2 x1 := tq_w (tq_neLo c7421 i_x1 tk_0) (by decide) (by decide)
        refine tz_if _ (fun c7420 => ?_) (fun c7420 => ?_)
        ·
          have i3_x1 : tq_iv 1 1 x1 := tq_cut i2_x1 (tq_eqL c7420 tk_1) (by decide) (by decide)
          exact K_104 x3_10
        ·
          have i4_x1 : tq_iv 2 2 x1 := tq_w (tq_neLo c7420 i2_x1 tk_1) (by decide) (by decide)
          exact K_104 x4_10
    ·
      have i5_x5_10 : tq_iv 0 7 x5_10 := tq_cut i_x5_10 (tq_ltL (tq_nle c7423) i_x5_10 i_t_13) (by decide) (by decide)
      have i6_t_13 : tq_iv 1 8 t_13 := tq_cut i_t_13 (tq_ltR (tq_nle c7423) i_x5_10 i_t_13) (by decide) (by decide)
      have L_22 : ∀ (n_22 : Nat) (k_22 : Nat → Int32 → Int32 → Int32 → Int32 → Int32 → Int32 → Option (Int32)), (∀ (x2_22 : Int32) (x3_22 : Int32) (x4_22 : Int32) (x6_22 : Int32), tq_iv (-1) 7 x3_22 → tq_iv (-1) 5 x4_22 → tq_iv 0 6 x6_22 → (2147483647 - x6_22.toInt).toNat < n_22 → tz_O (fun (z : Int32) => tq_iv (-2147483648) 2147483647 z) (k_22 h0 x1 x2_22 x3_22 x4_22 x5_10 x6_22)) → ∀ (x2_22 : Int32) (x3_22 : Int32) (x4_22 : Int32) (x6_22 : Int32), tq_iv (-1) 7 x3_22 → tq_iv (-1) 5 x4_22 → tq_iv 0 6 x6_22 → (2147483647 - x6_22.toInt).toNat < n_22 + 1 → tz_O (fun (z : Int32) => tq_iv (-2147483648) 2147483647 z) (z_X12_straysBy_22 σ k_10 k_22 h0 x1 x2_22 x3_22 x4_22 x5_10 x6_22) := by
        intro n_22 k_22 hk_22 x2_22 x3_22 x4_22 x6_22 i_x3_22 i_x4_22 i_x6_22 hn_22
        unfold z_X12_straysBy_22
        refine tz_bd (tz_X12_bolts hT k_h0) (fun t_25 i_t_25 => ?_)
        refine tz_if _ (fun c7415 => ?_) (fun c7415 => ?_)
        ·
          refine tz_let (fun t_79 e7404 => ?_)
          have i7_t_79 : tq_iv 1 8 t_79 := tq_w (tq_add e7404 i5_x5_10 tk_1 (by decide) (by decide)) (by decide) (by decide)
          exact hk_10 x2_22 x3_22 x4_22 t_79 i_x3_22 i_x4_22 (tq_w i7_t_79 (by decide) (by decide)) (tq_up e7404 i5_x5_10 tk_1 (by decide) (by decide) hn_10)
        ·
          have i8_x6_22 : tq_iv 0 5 x6_22 := tq_cut i_x6_22 (tq_ltL (tq_nle c7415) i_x6_22 i_t_25) (by decide) (by decide)
          have i9_t_25 : tq_iv 1 6 t_25 := tq_cut i_t_25 (tq_ltR (tq_nle c7415) i_x6_22 i_t_25) (by decide) (by decide)
          refine tz_bd (tz_X12_neverOf hT k_h0 i8_x6_22) (fun t_34 i_t_34 => ?_)
          refine tz_bd (tz_X12_bit hT) (fun t_39 i_t_39 => ?_)
          have K_73 : ∀ (x2_73 : Int32) (x3_73 : Int32) (x4_73 : Int32), tq_iv (-1) 7 x3_73 → tq_iv (-1) 5 x4_73 → tz_O (fun (z : Int32) => tq_iv (-2147483648) 2147483647 z) (z_X12_straysBy_73 σ k_10 k_22 h0 x1 x2_73 x3_73 x4_73 x5_10 x6_22) := by
            intro x2_73 x3_73 x4_73 i_x3_73 i_x4_73
            unfold z_X12_straysBy_73
            refine tz_let (fun t_73 e7400 => ?_)
            have i10_t_73 : tq_iv 1 6 t_73 := tq_w (tq_add e7400 i8_x6_22 tk_1 (by decide) (by decide)) (by decide) (by decide)
            exact hk_22 x2_73 x3_73 x4_73 t_73 i_x3_73 i_x4_73 (tq_w i10_t_73 (by decide) (by decide)) (tq_up e7400 i8_x6_22 tk_1 (by decide) (by decide) hn_22)
          refine tz_if _ (fun c7412 => ?_) (fun c7412 => ?_)
          ·
            have i11_t_39 : tq_iv 0 0 t_39 := tq_cut i_t_39 (tq_eqL c7412 tk_0) (by decide) (by decide)
            exact K_73 x2_22 x3_22 x4_22 i_x3_22 i_x4_22
          ·
            have i12_t_39 : tq_iv 1 1 t_39 := tq_w (tq_neLo c7412 i_t_39 tk_0) (by decide) (by decide)
            refine tz_bd (tz_X12_opensBy hT k_h0 i5_x5_10 i8_x6_22) (fun t_50 i_t_50 => ?_)
            refine tz_if _ (fun c7410 => ?_) (fun c7410 => ?_)
            ·
              have i13_t_50 : tq_iv 0 0 t_50 := tq_cut i_t_50 (tq_eqL c7410 tk_0) (by decide) (by decide)
              exact K_73 x2_22 x3_22 x4_22 i_x3_22 i_x4_22
            ·
              have i14_t_50 : tq_iv 1 1 t_50 := tq_w (tq_neLo c7410 i_t_50 tk_0) (by decide) (by decide)
              have K_70 : ∀ (x3_70 : Int32) (x4_70 : Int32), tq_iv (-1) 7 x3_70 → tq_iv (-1) 5 x4_70 → tz_O (fun (z : Int32) => tq_iv (-2147483648) 2147483647 z) (z_X12_straysBy_70 σ k_10 k_22 h0 x1 x2_22 x3_70 x4_70 x5_10 x6_22) := by
                intro x3_70 x4_70 i_x3_70 i_x4_70
                unfold z_X12_straysBy_70
                refine tz_let (fun t_70 e7402 => ?_)
                exact K_73 t_70 x3_70 x4_70 i_x3_70 i_x4_70
              refine tz_if _ (fun c7409 => ?_) (fun c7409 => ?_)
              ·
                have i15_x2_22 : tq_iv 0 0 x2_22 := tq_cut (tq_top x2_22) (tq_eqL c7409 tk_0) (by decide) (by decide)
                exact K_70 x5_10 x6_22 (tq_w i5_x5_10 (by decide) (by decide)) (tq_w i8_x6_22 (by decide) (by decide))
              ·
                exact K_70 x3_22 x4_22 i_x3_22 i_x4_22
      have E_22 : ∀ (x2_22 : Int32) (x3_22 : Int32) (x4_22 : Int32) (x6_22 : Int32), tq_iv (-1) 7 x3_22 → tq_iv (-1) 5 x4_22 → tq_iv 0 6 x6_22 → tz_O (fun (z : Int32) => tq_iv (-2147483648) 2147483647 z) (ez_fix (fun _ _ _ _ _ _ _ => none) (z_X12_straysBy_22 σ k_10) ez_N h0 x1 x2_22 x3_22 x4_22 x5_10 x6_22) := by
        intro x2_22 x3_22 x4_22 x6_22 i_x3_22 i_x4_22 i_x6_22
        exact ez_fix_indn (fun n_22 (k_22 : Nat → Int32 → Int32 → Int32 → Int32 → Int32 → Int32 → Option (Int32)) => ∀ (x2_22 : Int32) (x3_22 : Int32) (x4_22 : Int32) (x6_22 : Int32), tq_iv (-1) 7 x3_22 → tq_iv (-1) 5 x4_22 → tq_iv 0 6 x6_22 → (2147483647 - x6_22.toInt).toNat < n_22 → tz_O (fun (z : Int32) => tq_iv (-2147483648) 2147483647 z) (k_22 h0 x1 x2_22 x3_22 x4_22 x5_10 x6_22)) (by intros; rename_i h; exact absurd h (Nat.not_lt_zero _)) L_22 ez_N x2_22 x3_22 x4_22 x6_22 i_x3_22 i_x4_22 i_x6_22 (tq_m0 x6_22)
      exact E_22 x2_10 x3_10 x4_10 (0 : Int32) i_x3_10 i_x4_10 (tq_w tk_0 (by decide) (by decide))
  have E_10 : ∀ (x2_10 : Int32) (x3_10 : Int32) (x4_10 : Int32) (x5_10 : Int32), tq_iv (-1) 7 x3_10 → tq_iv (-1) 5 x4_10 → tq_iv 0 8 x5_10 → tz_O (fun (z : Int32) => tq_iv (-2147483648) 2147483647 z) (ez_fix (fun _ _ _ _ _ _ => none) (z_X12_straysBy_10 σ) ez_N h0 x1 x2_10 x3_10 x4_10 x5_10) := by
    intro x2_10 x3_10 x4_10 x5_10 i_x3_10 i_x4_10 i_x5_10
    exact ez_fix_indn (fun n_10 (k_10 : Nat → Int32 → Int32 → Int32 → Int32 → Int32 → Option (Int32)) => ∀ (x2_10 : Int32) (x3_10 : Int32) (x4_10 : Int32) (x5_10 : Int32), tq_iv (-1) 7 x3_10 → tq_iv (-1) 5 x4_10 → tq_iv 0 8 x5_10 → (2147483647 - x5_10.toInt).toNat < n_10 → tz_O (fun (z : Int32) => tq_iv (-2147483648) 2147483647 z) (k_10 h0 x1 x2_10 x3_10 x4_10 x5_10)) (by intros; rename_i h; exact absurd h (Nat.not_lt_zero _)) L_10 ez_N x2_10 x3_10 x4_10 x5_10 i_x3_10 i_x4_10 i_x5_10 (tq_m0 x5_10)
  exact E_10 (0 : Int32) (-1 : Int32) (-1 : Int32) (0 : Int32) (tq_w tk_m1 (by decide) (by decide)) (tq_w tk_m1 (by decide) (by decide)) (tq_w tk_0 (by decide) (by decide))
set_option maxRecDepth 4000 in
theorem tz_X12_keeps {p : tz_P} {σ : ez_H} {h0 : Nat} {x1 : Int32} (hT : tp p σ) (k_h0 : tz_C h0 = some (3, 12, 0, 0)) : tz_O2 (fun (z : Int32) (s : ez_H) => tq_iv (-1) 7775 z ∧ tp p s) (z_X12_keeps σ h0 x1) := by
  show tz_O (fun z : Int32 × ez_H => (fun (z : Int32) (s : ez_H) => tq_iv (-1) 7775 z ∧ tp p s) z.1 z.2) _
  unfold z_X12_keeps
  refine tz_bd (tz_ob hT k_h0) (fun _ _ => ?_)
  refine tz_bd (tz_X12_isKey hT k_h0) (fun t_2 ⟨i_t_2, g_t_2⟩ => ?_)
  refine tz_if _ (fun c7458 => ?_) (fun c7458 => ?_)
  ·
    have i1_t_2 : tq_iv 0 0 t_2 := tq_cut i_t_2 (tq_eqL c7458 tk_0) (by decide) (by decide)
    exact tz_some ⟨(tq_w tk_m1 (by decide) (by decide)), hT⟩
  ·
    have i2_x1 : tq_iv 0 7 x1 := tq_cut (tq_top x1) (g_t_2 c7458) (by decide) (by decide)
    have i3_t_2 : tq_iv 1 1 t_2 := tq_w (tq_neLo c7458 i_t_2 tk_0) (by decide) (by decide)
    refine tz_b2 (tz_X12_keepNow hT k_h0) (fun _ σ7457 T7457 => ?_)
    have L_18 : ∀ (n_18 : Nat) (k_18 : ez_H → Nat → Int32 → Int32 → Int32 → Option (Int32 × ez_H)), (∀ (σ_18 : ez_H) (x2_18 : Int32) (x3_18 : Int32), tp p σ_18 → tq_iv (-1) 7775 x2_18 → tq_iv 0 7776 x3_18 → (2147483647 - x3_18.toInt).toNat < n_18 → tz_O (fun z : Int32 × ez_H => (fun (z : Int32) (s : ez_H) => tq_iv (-1) 7775 z ∧ tp p s) z.1 z.2) (k_18 σ_18 h0 x1 x2_18 x3_18)) → ∀ (σ_18 : ez_H) (x2_18 : Int32) (x3_18 : Int32), tp p σ_18 → tq_iv (-1) 7775 x2_18 → tq_iv 0 7776 x3_18 → (2147483647 - x3_18.toInt).toNat < n_18 + 1 → tz_O (fun z : Int32 × ez_H => (fun (z : Int32) (s : ez_H) => tq_iv (-1) 7775 z ∧ tp p s) z.1 z.2) (z_X12_keeps_18 k_18 σ_18 h0 x1 x2_18 x3_18) := by
      intro n_18 k_18 hk_18 σ_18 x2_18 x3_18 T_σ_18 i_x2_18 i_x3_18 hn_18
      unfold z_X12_keeps_18
      refine tz_bd (tz_X12_bittings T_σ_18 k_h0) (fun t_20 i_t_20 => ?_)
      have K_67 : tz_O (fun z : Int32 × ez_H => (fun (z : Int32) (s : ez_H) => tq_iv (-1) 7775 z ∧ tp p s) z.1 z.2) (z_X12_keeps_67 σ_18 h0 x2_18) := by
        unfold z_X12_keeps_67
        refine tz_b2 (tz_X12_bringBack T_σ_18 k_h0) (fun _ σ7438 T7438 => ?_)
        exact tz_some ⟨i_x2_18, T7438⟩
      refine tz_if _ (fun c7453 => ?_) (fun c7453 => ?_)
      ·
        have i4_x3_18 : tq_iv 1 7776 x3_18 := tq_cut i_x3_18 (tq_leR c7453 i_t_20 i_x3_18) (by decide) (by decide)
        exact K_67 
      ·
        have i5_x3_18 : tq_iv 0 7775 x3_18 := tq_cut i_x3_18 (tq_ltL (tq_nle c7453) i_x3_18 i_t_20) (by decide) (by decide)
        refine tz_if _ (fun c7452 => ?_) (fun c7452 => ?_)
        ·
          have i6_x2_18 : tq_iv 0 7775 x2_18 := tq_cut i_x2_18 (tq_leR c7452 tk_0 i_x2_18) (by decide) (by decide)
          exact K_67 
        ·
          have i7_x2_18 : tq_iv (-1) (-1) x2_18 := tq_cut i_x2_18 (tq_ltL (tq_nle c7452) i_x2_18 tk_0) (by decide) (by decide)
          refine tz_bd (tz_X12_isLegal T_σ_18 k_h0) (fun t_32 ⟨i_t_32, g_t_32⟩ => ?_)
          have K_61 : ∀ (σ_61 : ez_H) (x2_61 : Int32), tp p σ_61 → tq_iv (-1) 7775 x2_61 → tz_O (fun z : Int32 × ez_H => (fun (z : Int32) (s : ez_H) => tq_iv (-1) 7775 z ∧ tp p s) z.1 z.2) (z_X12_keeps_61 k_18 σ_61 h0 x1 x2_61 x3_18) := by
            intro σ_61 x2_61 T_σ_61 i_x2_61
            unfold z_X12_keeps_61
            refine tz_let (fun t_61 e7440 => ?_)
            have i8_t_61 : tq_iv 1 7776 t_61 := tq_w (tq_add e7440 i5_x3_18 tk_1 (by decide) (by decide)) (by decide) (by decide)
            exact hk_18 σ_61 x2_61 t_61 T_σ_61 i_x2_61 (tq_w i8_t_61 (by decide) (by decide)) (tq_up e7440 i5_x3_18 tk_1 (by decide) (by decide) hn_18)
          refine tz_if _ (fun c7450 => ?_) (fun c7450 => ?_)
          ·
            have i9_t_32 : tq_iv 0 0 t_32 := tq_cut i_t_32 (tq_eqL c7450 tk_0) (by decide) (by decide)
            exact K_61 σ_18 x2_18 T_σ_18 (tq_w i7_x2_18 (by decide) (by decide))
          ·
            have i10_t_32 : tq_iv 1 1 t_32 := tq_w (tq_neLo c7450 i_t_32 tk_0) (by decide) (by decide)
            refine tz_b2 (tz_X12_cutAnew T_σ_18 k_h0 i2_x1 i5_x3_18) (fun _ σ7449 T7449 => ?_)
            refine tz_b2 (tz_X12_pinByPlan T7449 k_h0) (fun _ σ7448 T7448 => ?_)
            refine tz_bd (tz_X12_straysBy T7448 k_h0 (tq_w tk_0 (by decide) (by decide))) (fun t_53 i_t_53 => ?_)
            refine tz_if _ (fun c7446 => ?_) (fun c7446 => ?_)
            ·
              have i11_t_53 : tq_iv 0 0 t_53 := tq_cut (tq_top t_53) (tq_eqL c7446 tk_0) (by decide) (by decide)
              exact K_61 σ7448 x3_18 T7448 (tq_w i5_x3_18 (by decide) (by decide))
            ·
              exact K_61 σ7448 x2_18 T7448 (tq_w i7_x2_18 (by decide) (by decide))
    have E_18 : ∀ (σ_18 : ez_H) (x2_18 : Int32) (x3_18 : Int32), tp p σ_18 → tq_iv (-1) 7775 x2_18 → tq_iv 0 7776 x3_18 → tz_O (fun z : Int32 × ez_H => (fun (z : Int32) (s : ez_H) => tq_iv (-1) 7775 z ∧ tp p s) z.1 z.2) (ez_fix (fun _ _ _ _ _ => none) (z_X12_keeps_18) ez_N σ_18 h0 x1 x2_18 x3_18) := by
      intro σ_18 x2_18 x3_18 T_σ_18 i_x2_18 i_x3_18
      exact ez_fix_indn (fun n_18 (k_18 : ez_H → Nat → Int32 → Int32 → Int32 → Option (Int32 × ez_H)) => ∀ (σ_18 : ez_H) (x2_18 : Int32) (x3_18 : Int32), tp p σ_18 → tq_iv (-1) 7775 x2_18 → tq_iv 0 7776 x3_18 → (2147483647 - x3_18.toInt).toNat < n_18 → tz_O (fun z : Int32 × ez_H => (fun (z : Int32) (s : ez_H) => tq_iv (-1) 7775 z ∧ tp p s) z.1 z.2) (k_18 σ_18 h0 x1 x2_18 x3_18)) (by intros; rename_i h; exact absurd h (Nat.not_lt_zero _)) L_18 ez_N σ_18 x2_18 x3_18 T_σ_18 i_x2_18 i_x3_18 (tq_m0 x3_18)
    exact E_18 σ7457 (-1 : Int32) (0 : Int32) T7457 (tq_w tk_m1 (by decide) (by decide)) (tq_w tk_0 (by decide) (by decide))
set_option maxRecDepth 4000 in
theorem tz_X12_key {p : tz_P} {σ : ez_H} {h0 : Nat} {x1 : Int32} {x2 : Int32} (hT : tp p σ) (k_h0 : tz_C h0 = some (3, 12, 0, 0)) : tz_O (fun z => tq_iv (-2147483648) 2147483647 z) (z_X12_key σ h0 x1 x2) := by
  unfold z_X12_key
  refine tz_bd (tz_ob hT k_h0) (fun _ _ => ?_)
  refine tz_bd (tz_X12_isKey hT k_h0) (fun t_2 ⟨i_t_2, g_t_2⟩ => ?_)
  refine tz_if _ (fun c7478 => ?_) (fun c7478 => ?_)
  ·
    have i1_t_2 : tq_iv 0 0 t_2 := tq_cut i_t_2 (tq_eqL c7478 tk_0) (by decide) (by decide)
    exact tz_some (tq_top (-3 : Int32))
  ·
    have i2_x1 : tq_iv 0 7 x1 := tq_cut (tq_top x1) (g_t_2 c7478) (by decide) (by decide)
    have i3_t_2 : tq_iv 1 1 t_2 := tq_w (tq_neLo c7478 i_t_2 tk_0) (by decide) (by decide)
    refine tz_if _ (fun c7477 => ?_) (fun c7477 => ?_)
    ·
      have i4_x2 : tq_iv 0 0 x2 := tq_cut (tq_top x2) (tq_eqL c7477 tk_0) (by decide) (by decide)
      refine tz_bd (tz_X12_numberOf hT k_h0 i2_x1) (fun t_46 i_t_46 => ?_)
      exact tz_some (tq_top t_46)
    ·
      refine tz_if _ (fun c7476 => ?_) (fun c7476 => ?_)
      ·
        have i5_x2 : tq_iv 1 1 x2 := tq_cut (tq_top x2) (tq_eqL c7476 tk_1) (by decide) (by decide)
        refine tz_bk (tr_53 hT k_h0) ?_
        refine tz_let (fun t_57 e7466 => ?_)
        have i6_t_57 : tq_iv 40 47 t_57 := tq_w (tq_add e7466 tk_40 i2_x1 (by decide) (by decide)) (by decide) (by decide)
        refine tz_be (tz_iaS hT tc_205 (ts_205 40 47 (-2147483648) 2147483647 (by decide)) i6_t_57 (by decide) (by decide)) (fun t_58 e7465 i_t_58 => ?_)
        exact tz_some (tq_top t_58)
      ·
        refine tz_if _ (fun c7475 => ?_) (fun c7475 => ?_)
        ·
          have i7_x2 : tq_iv 2 2 x2 := tq_cut (tq_top x2) (tq_eqL c7475 tk_2) (by decide) (by decide)
          refine tz_bd (tz_X12_holderOf hT k_h0 i2_x1) (fun t_62 i_t_62 => ?_)
          exact tz_some (tq_top t_62)
        ·
          refine tz_if _ (fun c7474 => ?_) (fun c7474 => ?_)
          ·
            have i8_x2 : tq_iv 3 3 x2 := tq_cut (tq_top x2) (tq_eqL c7474 tk_3) (by decide) (by decide)
            refine tz_bd (tz_X12_numberOf hT k_h0 i2_x1) (fun t_69 i_t_69 => ?_)
            refine tz_bd (tz_X12_openedBy hT k_h0) (fun t_72 i_t_72 => ?_)
            exact tz_some (tq_top t_72)
          ·
            exact tz_some (tq_top (-3 : Int32))
set_option maxRecDepth 4000 in
theorem tz_X12_isLetter {p : tz_P} {σ : ez_H} {x0 : Int32} (hT : tp p σ) : tz_O (fun z => tq_iv 0 1 z ∧ (¬ z = 0 → tq_iv 97 122 x0)) (z_X12_isLetter σ x0) := by
  unfold z_X12_isLetter
  have K_17 : ∀ (y0_17 : Int32), tq_iv 0 1 y0_17 → (¬ y0_17 = 0 → tq_iv 97 122 x0) → tz_O (fun (z : Int32) => tq_iv 0 1 z ∧ (¬ z = 0 → tq_iv 97 122 x0)) (z_X12_isLetter_17 σ y0_17) := by
    intro y0_17 i_y0_17 g17_y0_17_x0
    unfold z_X12_isLetter_17
    refine tz_nr (tq_nr_boolean i_y0_17) ?_
    exact tz_some ⟨i_y0_17, (fun h => tq_w (g17_y0_17_x0 h) (by decide) (by decide))⟩
  have K_16 : tz_O (fun (z : Int32) => tq_iv 0 1 z ∧ (¬ z = 0 → tq_iv 97 122 x0)) (z_X12_isLetter_16 σ) := by
    unfold z_X12_isLetter_16
    exact K_17 (0 : Int32) (tq_w tk_0 (by decide) (by decide)) (fun h => absurd rfl h)
  refine tz_if _ (fun c7488 => ?_) (fun c7488 => ?_)
  ·
    have i1_x0 : tq_iv (-2147483648) 96 x0 := tq_cut (tq_top x0) (tq_ltL c7488 (tq_top x0) tk_97) (by decide) (by decide)
    exact K_16 
  ·
    have i2_x0 : tq_iv 97 2147483647 x0 := tq_cut (tq_top x0) (tq_leR (tq_nlt c7488) tk_97 (tq_top x0)) (by decide) (by decide)
    refine tz_if _ (fun c7487 => ?_) (fun c7487 => ?_)
    ·
      have i3_x0 : tq_iv 123 2147483647 x0 := tq_cut i2_x0 (tq_ltR c7487 tk_122 i2_x0) (by decide) (by decide)
      exact K_16 
    ·
      have i4_x0 : tq_iv 97 122 x0 := tq_cut i2_x0 (tq_leL (tq_nlt c7487) i2_x0 tk_122) (by decide) (by decide)
      exact K_17 (1 : Int32) (tq_w tk_1 (by decide) (by decide)) (fun _ => i4_x0)
set_option maxRecDepth 4000 in
theorem tz_X12_asked {p : tz_P} {σ : ez_H} {h0 : Nat} {x1 : Int32} {x2 : Int32} (hT : tp p σ) (k_h0 : tz_C h0 = some (3, 12, 0, 0)) : tz_O (fun z => tq_iv (-2147483648) 2147483647 z) (z_X12_asked σ h0 x1 x2) := by
  unfold z_X12_asked
  refine tz_bd (tz_ob hT k_h0) (fun _ _ => ?_)
  refine tz_if _ (fun c7501 => ?_) (fun c7501 => ?_)
  ·
    have i1_x1 : tq_iv 98 98 x1 := tq_cut (tq_top x1) (tq_eqL c7501 tk_98) (by decide) (by decide)
    refine tz_be (tg_12_50 hT k_h0) (fun t_50 e7490 i_t_50 => ?_)
    exact tz_some (tq_top t_50)
  ·
    refine tz_if _ (fun c7500 => ?_) (fun c7500 => ?_)
    ·
      have i2_x1 : tq_iv 99 99 x1 := tq_cut (tq_top x1) (tq_eqL c7500 tk_99) (by decide) (by decide)
      refine tz_be (tg_12_49 hT k_h0) (fun t_45 e7492 i_t_45 => ?_)
      exact tz_some (tq_top t_45)
    ·
      refine tz_if _ (fun c7499 => ?_) (fun c7499 => ?_)
      ·
        have i3_x1 : tq_iv 104 104 x1 := tq_cut (tq_top x1) (tq_eqL c7499 tk_104) (by decide) (by decide)
        refine tz_be (tg_12_52 hT k_h0) (fun t_60 e7494 i_t_60 => ?_)
        exact tz_some (tq_top t_60)
      ·
        refine tz_if _ (fun c7498 => ?_) (fun c7498 => ?_)
        ·
          have i4_x1 : tq_iv 117 117 x1 := tq_cut (tq_top x1) (tq_eqL c7498 tk_117) (by decide) (by decide)
          refine tz_be (tg_12_51 hT k_h0) (fun t_55 e7496 i_t_55 => ?_)
          exact tz_some (tq_top t_55)
        ·
          exact tz_some (tq_top x2)
set_option maxRecDepth 4000 in
theorem tz_X12_two {p : tz_P} {σ : ez_H} {x0 : Int32} {x1 : Int32} {x2 : Int32} (hT : tp p σ) : tz_O (fun z => tq_iv (-2147483648) 2147483647 z) (z_X12_two σ x0 x1 x2) := by
  unfold z_X12_two
  refine tz_if _ (fun c7590 => ?_) (fun c7590 => ?_)
  ·
    have i1_x0 : tq_iv 37 37 x0 := tq_cut (tq_top x0) (tq_eqL c7590 tk_37) (by decide) (by decide)
    have K_155 : ∀ (y0_155 : Int32), tz_O (fun (z : Int32) => tq_iv (-2147483648) 2147483647 z) (z_X12_two_155 σ y0_155) := by
      intro y0_155
      unfold z_X12_two_155
      exact tz_some (tq_top y0_155)
    refine tz_if _ (fun c7521 => ?_) (fun c7521 => ?_)
    ·
      have i2_x2 : tq_iv 0 0 x2 := tq_cut (tq_top x2) (tq_eqL c7521 tk_0) (by decide) (by decide)
      exact K_155 (0 : Int32)
    ·
      refine tz_nz c7521 ?_
      refine tz_let (fun t_154 e7519 => ?_)
      exact K_155 t_154
  ·
    refine tz_if _ (fun c7589 => ?_) (fun c7589 => ?_)
    ·
      have i3_x0 : tq_iv 38 38 x0 := tq_cut (tq_top x0) (tq_eqL c7589 tk_38) (by decide) (by decide)
      have K_202 : ∀ (y0_202 : Int32), tq_iv 0 1 y0_202 → tz_O (fun (z : Int32) => tq_iv (-2147483648) 2147483647 z) (z_X12_two_202 σ y0_202) := by
        intro y0_202 i_y0_202
        unfold z_X12_two_202
        exact tz_some (tq_top y0_202)
      have K_201 : tz_O (fun (z : Int32) => tq_iv (-2147483648) 2147483647 z) (z_X12_two_201 σ) := by
        unfold z_X12_two_201
        exact K_202 (0 : Int32) (tq_w tk_0 (by decide) (by decide))
      refine tz_if _ (fun c7526 => ?_) (fun c7526 => ?_)
      ·
        have i4_x1 : tq_iv 0 0 x1 := tq_cut (tq_top x1) (tq_eqL c7526 tk_0) (by decide) (by decide)
        exact K_201 
      ·
        refine tz_if _ (fun c7525 => ?_) (fun c7525 => ?_)
        ·
          have i5_x2 : tq_iv 0 0 x2 := tq_cut (tq_top x2) (tq_eqL c7525 tk_0) (by decide) (by decide)
          exact K_201 
        ·
          exact K_202 (1 : Int32) (tq_w tk_1 (by decide) (by decide))
    ·
      have K_203 : tz_O (fun (z : Int32) => tq_iv (-2147483648) 2147483647 z) (z_X12_two_203 σ x1 x2) := by
        unfold z_X12_two_203
        have K_216 : ∀ (y0_216 : Int32), tq_iv 0 1 y0_216 → tz_O (fun (z : Int32) => tq_iv (-2147483648) 2147483647 z) (z_X12_two_216 σ y0_216) := by
          intro y0_216 i_y0_216
          unfold z_X12_two_216
          exact tz_some (tq_top y0_216)
        have K_211 : tz_O (fun (z : Int32) => tq_iv (-2147483648) 2147483647 z) (z_X12_two_211 σ) := by
          unfold z_X12_two_211
          exact K_216 (1 : Int32) (tq_w tk_1 (by decide) (by decide))
        refine tz_if _ (fun c7512 => ?_) (fun c7512 => ?_)
        ·
          have i6_x1 : tq_iv 0 0 x1 := tq_cut (tq_top x1) (tq_eqL c7512 tk_0) (by decide) (by decide)
          refine tz_if _ (fun c7510 => ?_) (fun c7510 => ?_)
          ·
            have i7_x2 : tq_iv 0 0 x2 := tq_cut (tq_top x2) (tq_eqL c7510 tk_0) (by decide) (by decide)
            exact K_216 (0 : Int32) (tq_w tk_0 (by decide) (by decide))
          ·
            exact K_211 
        ·
          exact K_211 
      refine tz_if _ (fun c7588 => ?_) (fun c7588 => ?_)
      ·
        have i8_x0 : tq_iv 39 39 x0 := tq_cut (tq_top x0) (tq_eqL c7588 tk_39) (by decide) (by decide)
        exact K_203 
      ·
        refine tz_if _ (fun c7587 => ?_) (fun c7587 => ?_)
        ·
          have i9_x0 : tq_iv 40 40 x0 := tq_cut (tq_top x0) (tq_eqL c7587 tk_40) (by decide) (by decide)
          exact K_203 
        ·
          refine tz_if _ (fun c7586 => ?_) (fun c7586 => ?_)
          ·
            have i10_x0 : tq_iv 41 41 x0 := tq_cut (tq_top x0) (tq_eqL c7586 tk_41) (by decide) (by decide)
            exact K_203 
          ·
            refine tz_if _ (fun c7585 => ?_) (fun c7585 => ?_)
            ·
              have i11_x0 : tq_iv 42 42 x0 := tq_cut (tq_top x0) (tq_eqL c7585 tk_42) (by decide) (by decide)
              refine tz_let (fun t_130 e7531 => ?_)
              exact tz_some (tq_top t_130)
            ·
              refine tz_if _ (fun c7584 => ?_) (fun c7584 => ?_)
              ·
                have i12_x0 : tq_iv 43 43 x0 := tq_cut (tq_top x0) (tq_eqL c7584 tk_43) (by decide) (by decide)
                refine tz_let (fun t_122 e7533 => ?_)
                exact tz_some (tq_top t_122)
              ·
                refine tz_if _ (fun c7583 => ?_) (fun c7583 => ?_)
                ·
                  have i13_x0 : tq_iv 44 44 x0 := tq_cut (tq_top x0) (tq_eqL c7583 tk_44) (by decide) (by decide)
                  exact K_203 
                ·
                  refine tz_if _ (fun c7582 => ?_) (fun c7582 => ?_)
                  ·
                    have i14_x0 : tq_iv 45 45 x0 := tq_cut (tq_top x0) (tq_eqL c7582 tk_45) (by decide) (by decide)
                    refine tz_let (fun t_126 e7536 => ?_)
                    exact tz_some (tq_top t_126)
                  ·
                    refine tz_if _ (fun c7581 => ?_) (fun c7581 => ?_)
                    ·
                      have i15_x0 : tq_iv 46 46 x0 := tq_cut (tq_top x0) (tq_eqL c7581 tk_46) (by decide) (by decide)
                      exact K_203 
                    ·
                      refine tz_if _ (fun c7580 => ?_) (fun c7580 => ?_)
                      ·
                        have i16_x0 : tq_iv 47 47 x0 := tq_cut (tq_top x0) (tq_eqL c7580 tk_47) (by decide) (by decide)
                        have K_143 : ∀ (y0_143 : Int32), tz_O (fun (z : Int32) => tq_iv (-2147483648) 2147483647 z) (z_X12_two_143 σ y0_143) := by
                          intro y0_143
                          unfold z_X12_two_143
                          exact tz_some (tq_top y0_143)
                        refine tz_if _ (fun c7542 => ?_) (fun c7542 => ?_)
                        ·
                          have i17_x2 : tq_iv 0 0 x2 := tq_cut (tq_top x2) (tq_eqL c7542 tk_0) (by decide) (by decide)
                          exact K_143 (0 : Int32)
                        ·
                          refine tz_nz c7542 ?_
                          refine tz_let (fun t_142 e7540 => ?_)
                          exact K_143 t_142
                      ·
                        refine tz_if _ (fun c7579 => ?_) (fun c7579 => ?_)
                        ·
                          have i18_x0 : tq_iv 48 48 x0 := tq_cut (tq_top x0) (tq_eqL c7579 tk_48) (by decide) (by decide)
                          exact K_203 
                        ·
                          refine tz_if _ (fun c7578 => ?_) (fun c7578 => ?_)
                          ·
                            have i19_x0 : tq_iv 49 49 x0 := tq_cut (tq_top x0) (tq_eqL c7578 tk_49) (by decide) (by decide)
                            exact K_203 
                          ·
                            refine tz_if _ (fun c7577 => ?_) (fun c7577 => ?_)
                            ·
                              have i20_x0 : tq_iv 50 50 x0 := tq_cut (tq_top x0) (tq_eqL c7577 tk_50) (by decide) (by decide)
                              exact K_203 
                            ·
                              refine tz_if _ (fun c7576 => ?_) (fun c7576 => ?_)
                              ·
                                have i21_x0 : tq_iv 51 51 x0 := tq_cut (tq_top x0) (tq_eqL c7576 tk_51) (by decide) (by decide)
                                exact K_203 
                              ·
                                refine tz_if _ (fun c7575 => ?_) (fun c7575 => ?_)
                                ·
                                  have i22_x0 : tq_iv 52 52 x0 := tq_cut (tq_top x0) (tq_eqL c7575 tk_52) (by decide) (by decide)
                                  exact K_203 
                                ·
                                  refine tz_if _ (fun c7574 => ?_) (fun c7574 => ?_)
                                  ·
                                    have i23_x0 : tq_iv 53 53 x0 := tq_cut (tq_top x0) (tq_eqL c7574 tk_53) (by decide) (by decide)
                                    exact K_203 
                                  ·
                                    refine tz_if _ (fun c7573 => ?_) (fun c7573 => ?_)
                                    ·
                                      have i24_x0 : tq_iv 54 54 x0 := tq_cut (tq_top x0) (tq_eqL c7573 tk_54) (by decide) (by decide)
                                      exact K_203 
                                    ·
                                      refine tz_if _ (fun c7572 => ?_) (fun c7572 => ?_)
                                      ·
                                        have i25_x0 : tq_iv 55 55 x0 := tq_cut (tq_top x0) (tq_eqL c7572 tk_55) (by decide) (by decide)
                                        exact K_203 
                                      ·
                                        refine tz_if _ (fun c7571 => ?_) (fun c7571 => ?_)
                                        ·
                                          have i26_x0 : tq_iv 56 56 x0 := tq_cut (tq_top x0) (tq_eqL c7571 tk_56) (by decide) (by decide)
                                          exact K_203 
                                        ·
                                          refine tz_if _ (fun c7570 => ?_) (fun c7570 => ?_)
                                          ·
                                            have i27_x0 : tq_iv 57 57 x0 := tq_cut (tq_top x0) (tq_eqL c7570 tk_57) (by decide) (by decide)
                                            exact K_203 
                                          ·
                                            refine tz_if _ (fun c7569 => ?_) (fun c7569 => ?_)
                                            ·
                                              have i28_x0 : tq_iv 58 58 x0 := tq_cut (tq_top x0) (tq_eqL c7569 tk_58) (by decide) (by decide)
                                              exact K_203 
                                            ·
                                              refine tz_if _ (fun c7568 => ?_) (fun c7568 => ?_)
                                              ·
                                                have i29_x0 : tq_iv 59 59 x0 := tq_cut (tq_top x0) (tq_eqL c7568 tk_59) (by decide) (by decide)
                                                exact K_203 
                                              ·
                                                refine tz_if _ (fun c7567 => ?_) (fun c7567 => ?_)
                                                ·
                                                  have i30_x0 : tq_iv 60 60 x0 := tq_cut (tq_top x0) (tq_eqL c7567 tk_60) (by decide) (by decide)
                                                  have K_166 : ∀ (y0_166 : Int32), tq_iv 0 1 y0_166 → (¬ y0_166 = 0 → tq_iv (-2147483648) 2147483646 x1) → (¬ y0_166 = 0 → tq_iv (-2147483647) 2147483647 x2) → tz_O (fun (z : Int32) => tq_iv (-2147483648) 2147483647 z) (z_X12_two_166 σ y0_166) := by
                                                    intro y0_166 i_y0_166 g166_y0_166_x1 g166_y0_166_x2
                                                    unfold z_X12_two_166
                                                    exact tz_some (tq_top y0_166)
                                                  refine tz_if _ (fun c7557 => ?_) (fun c7557 => ?_)
                                                  ·
                                                    exact K_166 (0 : Int32) (tq_w tk_0 (by decide) (by decide)) (fun h => absurd rfl h) (fun h => absurd rfl h)
                                                  ·
                                                    have i31_x1 : tq_iv (-2147483648) 2147483646 x1 := tq_cut (tq_top x1) (tq_ltL (tq_nle c7557) (tq_top x1) (tq_top x2)) (by decide) (by decide)
                                                    have i32_x2 : tq_iv (-2147483647) 2147483647 x2 := tq_cut (tq_top x2) (tq_ltR (tq_nle c7557) (tq_top x1) (tq_top x2)) (by decide) (by decide)
                                                    exact K_166 (1 : Int32) (tq_w tk_1 (by decide) (by decide)) (fun _ => i31_x1) (fun _ => i32_x2)
                                                ·
                                                  refine tz_if _ (fun c7566 => ?_) (fun c7566 => ?_)
                                                  ·
                                                    have i33_x0 : tq_iv 61 61 x0 := tq_cut (tq_top x0) (tq_eqL c7566 tk_61) (by decide) (by decide)
                                                    have K_188 : ∀ (y0_188 : Int32), tq_iv 0 1 y0_188 → tz_O (fun (z : Int32) => tq_iv (-2147483648) 2147483647 z) (z_X12_two_188 σ y0_188) := by
                                                      intro y0_188 i_y0_188
                                                      unfold z_X12_two_188
                                                      exact tz_some (tq_top y0_188)
                                                    refine tz_if _ (fun c7560 => ?_) (fun c7560 => ?_)
                                                    ·
                                                      exact K_188 (1 : Int32) (tq_w tk_1 (by decide) (by decide))
                                                    ·
                                                      exact K_188 (0 : Int32) (tq_w tk_0 (by decide) (by decide))
                                                  ·
                                                    refine tz_if _ (fun c7565 => ?_) (fun c7565 => ?_)
                                                    ·
                                                      have i34_x0 : tq_iv 62 62 x0 := tq_cut (tq_top x0) (tq_eqL c7565 tk_62) (by decide) (by decide)
                                                      have K_177 : ∀ (y0_177 : Int32), tq_iv 0 1 y0_177 → (¬ y0_177 = 0 → tq_iv (-2147483647) 2147483647 x1) → (¬ y0_177 = 0 → tq_iv (-2147483648) 2147483646 x2) → tz_O (fun (z : Int32) => tq_iv (-2147483648) 2147483647 z) (z_X12_two_177 σ y0_177) := by
                                                        intro y0_177 i_y0_177 g177_y0_177_x1 g177_y0_177_x2
                                                        unfold z_X12_two_177
                                                        exact tz_some (tq_top y0_177)
                                                      refine tz_if _ (fun c7563 => ?_) (fun c7563 => ?_)
                                                      ·
                                                        exact K_177 (0 : Int32) (tq_w tk_0 (by decide) (by decide)) (fun h => absurd rfl h) (fun h => absurd rfl h)
                                                      ·
                                                        have i35_x2 : tq_iv (-2147483648) 2147483646 x2 := tq_cut (tq_top x2) (tq_ltL (tq_nle c7563) (tq_top x2) (tq_top x1)) (by decide) (by decide)
                                                        have i36_x1 : tq_iv (-2147483647) 2147483647 x1 := tq_cut (tq_top x1) (tq_ltR (tq_nle c7563) (tq_top x2) (tq_top x1)) (by decide) (by decide)
                                                        exact K_177 (1 : Int32) (tq_w tk_1 (by decide) (by decide)) (fun _ => i36_x1) (fun _ => i35_x2)
                                                    ·
                                                      exact K_203
set_option maxRecDepth 4000 in
theorem tz_X12_use {p : tz_P} {σ : ez_H} {h0 : Nat} {x1 : Int32} (hT : tp p σ) (k_h0 : tz_C h0 = some (3, 12, 0, 0)) (i_x1 : tq_iv 0 7 x1) : tz_O2 (fun (z : Unit) (s : ez_H) => tp p s) (z_X12_use σ h0 x1) := by
  show tz_O (fun z : Unit × ez_H => (fun (z : Unit) (s : ez_H) => tp p s) z.1 z.2) _
  unfold z_X12_use
  refine tz_bd (tz_ob hT k_h0) (fun _ _ => ?_)
  refine tz_bk (tr_53 hT k_h0) ?_
  refine tz_bk (tr_53 hT k_h0) ?_
  refine tz_be (tz_iaS hT tc_205 (ts_205 90 90 0 999 (by decide)) tk_90 (by decide) (by decide)) (fun t_15 e7697 i_t_15 => ?_)
  refine tz_let (fun t_16 e7696 => ?_)
  have i1_t_16 : tq_iv 0 136863 t_16 := tq_w (tq_mul e7696 tk_137 i_t_15 (by decide) (by decide) (by decide)) (by decide) (by decide)
  refine tz_let (fun t_19 e7695 => ?_)
  have i2_t_19 : tq_iv 71 136934 t_19 := tq_w (tq_add e7695 i1_t_16 tk_71 (by decide) (by decide)) (by decide) (by decide)
  refine tz_nz (tq_nz tk_1000 (by decide)) ?_
  refine tz_let (fun t_23 e7693 => ?_)
  have i3_t_23 : tq_iv 0 999 t_23 := tq_rem2 e7693 i2_t_19 tk_1000 (by decide) (by decide)
  refine tz_be (tz_isS hT tc_205 (tS_205 90 90 0 999 (by decide)) tk_90 (by decide) (by decide) i3_t_23) (fun σ7692 e7692 T7692 => ?_)
  refine tz_bk (tr_53 T7692 k_h0) ?_
  refine tz_be (tz_iaS T7692 tc_205 (ts_205 90 90 0 999 (by decide)) tk_90 (by decide) (by decide)) (fun t_31 e7690 i_t_31 => ?_)
  refine tz_bd (tz_X12_wide T7692 k_h0) (fun t_33 i_t_33 => ?_)
  refine tz_nz (tq_nz i_t_33 (by decide)) ?_
  refine tz_let (fun t_36 e7687 => ?_)
  have i4_t_36 : tq_iv 0 4 t_36 := tq_rem2 e7687 i_t_31 i_t_33 (by decide) (by decide)
  refine tz_bd (tz_X12_cutOf T7692 k_h0 i_x1 i4_t_36) (fun t_42 i_t_42 => ?_)
  refine tz_be (tw_12_49 T7692 k_h0 (tq_top t_42)) (fun σ7685 e7685 T7685 => ?_)
  refine tz_be (tw_12_50 T7685 k_h0 (tq_top (-1 : Int32))) (fun σ7684 e7684 T7684 => ?_)
  have K_69 : ∀ (σ_69 : ez_H), tp p σ_69 → tz_O (fun z : Unit × ez_H => (fun (z : Unit) (s : ez_H) => tp p s) z.1 z.2) (z_X12_use_69 σ_69 h0 x1 t_36) := by
    intro σ_69 T_σ_69
    unfold z_X12_use_69
    refine tz_bd (tz_X12_wide T_σ_69 k_h0) (fun t_71 i_t_71 => ?_)
    refine tz_let (fun t_75 e7676 => ?_)
    have i5_t_75 : tq_iv 1 4 t_75 := tq_w (tq_sub e7676 i_t_71 tk_1 (by decide) (by decide)) (by decide) (by decide)
    have K_106 : ∀ (σ_106 : ez_H), tp p σ_106 → tz_O (fun z : Unit × ez_H => (fun (z : Unit) (s : ez_H) => tp p s) z.1 z.2) (z_X12_use_106 σ_106 h0 x1 t_36) := by
      intro σ_106 T_σ_106
      unfold z_X12_use_106
      refine tz_bk (tr_53 T_σ_106 k_h0) ?_
      refine tz_let (fun t_114 e7663 => ?_)
      have i6_t_114 : tq_iv 40 47 t_114 := tq_w (tq_add e7663 tk_40 i_x1 (by decide) (by decide)) (by decide) (by decide)
      refine tz_be (tz_iaS T_σ_106 tc_205 (ts_205 40 47 (-2147483648) 2147483647 (by decide)) i6_t_114 (by decide) (by decide)) (fun t_115 e7662 i_t_115 => ?_)
      refine tz_be (tw_12_51 T_σ_106 k_h0 (tq_top t_115)) (fun σ7661 e7661 T7661 => ?_)
      refine tz_be (tw_12_52 T7661 k_h0 (tq_top t_36)) (fun σ7660 e7660 T7660 => ?_)
      refine tz_bk (tr_21 T7660 k_h0) ?_
      refine tz_be (tg_12_43 T7660 k_h0) (fun t_129 e7658 i_t_129 => ?_)
      refine tz_be (tz_iaS T7660 tc_183 (ts_183 0 1 (-2147483648) 2147483647 (by decide)) i_t_129 (by decide) (by decide)) (fun t_132 e7657 i_t_132 => ?_)
      refine tz_bd (tz_X12_bit T7660) (fun t_134 i_t_134 => ?_)
      have K_148 : ∀ (σ_148 : ez_H) (y0_148 : Int32), tp p σ_148 → tz_O (fun z : Unit × ez_H => (fun (z : Unit) (s : ez_H) => tp p s) z.1 z.2) (z_X12_use_148 σ_148 h0 x1 t_36 y0_148) := by
        intro σ_148 y0_148 T_σ_148
        unfold z_X12_use_148
        refine tz_bk (tr_53 T_σ_148 k_h0) ?_
        refine tz_be (tz_iaS T_σ_148 tc_205 (ts_205 90 90 0 999 (by decide)) tk_90 (by decide) (by decide)) (fun t_155 e7650 i_t_155 => ?_)
        refine tz_nz (tq_nz tk_10 (by decide)) ?_
        refine tz_let (fun t_158 e7648 => ?_)
        have i7_t_158 : tq_iv 0 999 t_158 := tq_div e7648 i_t_155 tk_10 (by decide) (by decide)
        have K_170 : ∀ (σ_170 : ez_H), tp p σ_170 → tz_O (fun z : Unit × ez_H => (fun (z : Unit) (s : ez_H) => tp p s) z.1 z.2) (z_X12_use_170 σ_170 h0 x1) := by
          intro σ_170 T_σ_170
          unfold z_X12_use_170
          refine tz_bk (tr_53 T_σ_170 k_h0) ?_
          refine tz_let (fun t_177 e7642 => ?_)
          have i8_t_177 : tq_iv 40 47 t_177 := tq_w (tq_add e7642 tk_40 i_x1 (by decide) (by decide)) (by decide) (by decide)
          refine tz_be (tz_iaS T_σ_170 tc_205 (ts_205 40 47 (-2147483648) 2147483647 (by decide)) i8_t_177 (by decide) (by decide)) (fun t_179 e7641 i_t_179 => ?_)
          refine tz_let (fun t_181 e7640 => ?_)
          refine tz_be (tz_isS T_σ_170 tc_205 (tS_205 40 47 (-2147483648) 2147483647 (by decide)) i8_t_177 (by decide) (by decide) (tq_top t_181)) (fun σ7639 e7639 T7639 => ?_)
          exact tz_some T7639
        refine tz_if _ (fun c7647 => ?_) (fun c7647 => ?_)
        ·
          have i9_y0_148 : tq_iv (-2147483648) 999 y0_148 := tq_cut (tq_top y0_148) (tq_leL c7647 (tq_top y0_148) i7_t_158) (by decide) (by decide)
          exact K_170 σ_148 T_σ_148
        ·
          have i10_y0_148 : tq_iv 1 2147483647 y0_148 := tq_cut (tq_top y0_148) (tq_ltR (tq_nle c7647) i7_t_158 (tq_top y0_148)) (by decide) (by decide)
          refine tz_b2 (tz_X12_deepen T_σ_148 k_h0 i_x1 i4_t_36) (fun t_166 σ7646 ⟨i_t_166, T7646⟩ => ?_)
          exact K_170 σ7646 T7646
      refine tz_if _ (fun c7655 => ?_) (fun c7655 => ?_)
      ·
        have i11_t_134 : tq_iv 0 0 t_134 := tq_cut i_t_134 (tq_eqL c7655 tk_0) (by decide) (by decide)
        exact K_148 σ7660 (0 : Int32) T7660
      ·
        have i12_t_134 : tq_iv 1 1 t_134 := tq_w (tq_neLo c7655 i_t_134 tk_0) (by decide) (by decide)
        refine tz_b2 (tz_X12_comes T7660 k_h0) (fun t_141 σ7654 ⟨i_t_141, T7654⟩ => ?_)
        exact K_148 σ7654 t_141 T7654
    refine tz_if _ (fun c7675 => ?_) (fun c7675 => ?_)
    ·
      have i13_t_36 : tq_iv 1 4 t_36 := tq_cut i4_t_36 (tq_leR c7675 i5_t_75 i4_t_36) (by decide) (by decide)
      exact K_106 σ_69 T_σ_69
    ·
      have i14_t_36 : tq_iv 0 3 t_36 := tq_cut i4_t_36 (tq_ltL (tq_nle c7675) i4_t_36 i5_t_75) (by decide) (by decide)
      refine tz_let (fun t_83 e7674 => ?_)
      have i15_t_83 : tq_iv 1 4 t_83 := tq_w (tq_add e7674 i14_t_36 tk_1 (by decide) (by decide)) (by decide) (by decide)
      refine tz_bd (tz_X12_cutOf T_σ_69 k_h0 i_x1 (tq_w i15_t_83 (by decide) (by decide))) (fun t_84 i_t_84 => ?_)
      refine tz_be (tg_12_50 T_σ_69 k_h0) (fun t_88 e7672 i_t_88 => ?_)
      refine tz_if _ (fun c7671 => ?_) (fun c7671 => ?_)
      ·
        exact K_106 σ_69 T_σ_69
      ·
        have i16_t_88 : tq_iv (-2147483648) 2147483646 t_88 := tq_cut (tq_top t_88) (tq_ltL (tq_nle c7671) (tq_top t_88) (tq_top t_84)) (by decide) (by decide)
        have i17_t_84 : tq_iv (-2147483647) 2147483647 t_84 := tq_cut (tq_top t_84) (tq_ltR (tq_nle c7671) (tq_top t_88) (tq_top t_84)) (by decide) (by decide)
        refine tz_let (fun t_99 e7670 => ?_)
        have i18_t_99 : tq_iv 1 4 t_99 := tq_w (tq_add e7670 i14_t_36 tk_1 (by decide) (by decide)) (by decide) (by decide)
        refine tz_bd (tz_X12_cutOf T_σ_69 k_h0 i_x1 (tq_w i18_t_99 (by decide) (by decide))) (fun t_100 i_t_100 => ?_)
        refine tz_be (tw_12_50 T_σ_69 k_h0 (tq_top t_100)) (fun σ7668 e7668 T7668 => ?_)
        exact K_106 σ7668 T7668
  refine tz_if _ (fun c7683 => ?_) (fun c7683 => ?_)
  ·
    have i19_t_36 : tq_iv 0 0 t_36 := tq_cut i4_t_36 (tq_leL c7683 i4_t_36 tk_0) (by decide) (by decide)
    exact K_69 σ7684 T7684
  ·
    have i20_t_36 : tq_iv 1 4 t_36 := tq_cut i4_t_36 (tq_ltR (tq_nle c7683) tk_0 i4_t_36) (by decide) (by decide)
    refine tz_let (fun t_62 e7682 => ?_)
    have i21_t_62 : tq_iv 0 3 t_62 := tq_w (tq_sub e7682 i20_t_36 tk_1 (by decide) (by decide)) (by decide) (by decide)
    refine tz_bd (tz_X12_cutOf T7684 k_h0 i_x1 (tq_w i21_t_62 (by decide) (by decide))) (fun t_63 i_t_63 => ?_)
    refine tz_be (tw_12_50 T7684 k_h0 (tq_top t_63)) (fun σ7680 e7680 T7680 => ?_)
    exact K_69 σ7680 T7680
set_option maxRecDepth 4000 in
theorem tz_X12_lasts {p : tz_P} {σ : ez_H} {h0 : Nat} {x1 : Int32} {x2 : Int32} (hT : tp p σ) (k_h0 : tz_C h0 = some (3, 12, 0, 0)) : tz_O2 (fun (z : Int32) (s : ez_H) => tq_iv (-1) 200 z ∧ tp p s) (z_X12_lasts σ h0 x1 x2) := by
  show tz_O (fun z : Int32 × ez_H => (fun (z : Int32) (s : ez_H) => tq_iv (-1) 200 z ∧ tp p s) z.1 z.2) _
  unfold z_X12_lasts
  refine tz_bd (tz_ob hT k_h0) (fun _ _ => ?_)
  refine tz_bd (tz_X12_isKey hT k_h0) (fun t_2 ⟨i_t_2, g_t_2⟩ => ?_)
  have K_16 : tz_O (fun z : Int32 × ez_H => (fun (z : Int32) (s : ez_H) => tq_iv (-1) 200 z ∧ tp p s) z.1 z.2) (z_X12_lasts_16 σ) := by
    unfold z_X12_lasts_16
    exact tz_some ⟨(tq_w tk_m1 (by decide) (by decide)), hT⟩
  refine tz_if _ (fun c7721 => ?_) (fun c7721 => ?_)
  ·
    have i1_t_2 : tq_iv 0 0 t_2 := tq_cut i_t_2 (tq_eqL c7721 tk_0) (by decide) (by decide)
    exact K_16 
  ·
    have i2_x1 : tq_iv 0 7 x1 := tq_cut (tq_top x1) (g_t_2 c7721) (by decide) (by decide)
    have i3_t_2 : tq_iv 1 1 t_2 := tq_w (tq_neLo c7721 i_t_2 tk_0) (by decide) (by decide)
    refine tz_bd (tz_X12_isLock hT k_h0) (fun t_10 ⟨i_t_10, g_t_10⟩ => ?_)
    refine tz_if _ (fun c7719 => ?_) (fun c7719 => ?_)
    ·
      have i4_t_10 : tq_iv 0 0 t_10 := tq_cut i_t_10 (tq_eqL c7719 tk_0) (by decide) (by decide)
      exact K_16 
    ·
      have i5_x2 : tq_iv 0 5 x2 := tq_cut (tq_top x2) (g_t_10 c7719) (by decide) (by decide)
      have i6_t_10 : tq_iv 1 1 t_10 := tq_w (tq_neLo c7719 i_t_10 tk_0) (by decide) (by decide)
      refine tz_b2 (tz_X12_keepNow hT k_h0) (fun _ σ7718 T7718 => ?_)
      have L_24 : ∀ (n_24 : Nat) (k_24 : ez_H → Nat → Int32 → Int32 → Int32 → Option (Int32 × ez_H)), (∀ (σ_24 : ez_H) (x3_24 : Int32), tp p σ_24 → tq_iv 0 201 x3_24 → (2147483647 - x3_24.toInt).toNat < n_24 → tz_O (fun z : Int32 × ez_H => (fun (z : Int32) (s : ez_H) => tq_iv (-1) 200 z ∧ tp p s) z.1 z.2) (k_24 σ_24 h0 x1 x2 x3_24)) → ∀ (σ_24 : ez_H) (x3_24 : Int32), tp p σ_24 → tq_iv 0 201 x3_24 → (2147483647 - x3_24.toInt).toNat < n_24 + 1 → tz_O (fun z : Int32 × ez_H => (fun (z : Int32) (s : ez_H) => tq_iv (-1) 200 z ∧ tp p s) z.1 z.2) (z_X12_lasts_24 k_24 σ_24 h0 x1 x2 x3_24) := by
        intro n_24 k_24 hk_24 σ_24 x3_24 T_σ_24 i_x3_24 hn_24
        unfold z_X12_lasts_24
        have K_51 : tz_O (fun z : Int32 × ez_H => (fun (z : Int32) (s : ez_H) => tq_iv (-1) 200 z ∧ tp p s) z.1 z.2) (z_X12_lasts_51 σ_24 h0 x3_24) := by
          unfold z_X12_lasts_51
          refine tz_b2 (tz_X12_bringBack T_σ_24 k_h0) (fun _ σ7706 T7706 => ?_)
          have K_67 : ∀ (y0_67 : Int32), tq_iv (-1) 200 y0_67 → tz_O (fun z : Int32 × ez_H => (fun (z : Int32) (s : ez_H) => tq_iv (-1) 200 z ∧ tp p s) z.1 z.2) (z_X12_lasts_67 σ7706 y0_67) := by
            intro y0_67 i_y0_67
            unfold z_X12_lasts_67
            exact tz_some ⟨i_y0_67, T7706⟩
          refine tz_if _ (fun c7705 => ?_) (fun c7705 => ?_)
          ·
            have i7_x3_24 : tq_iv 201 201 x3_24 := tq_cut i_x3_24 (tq_ltR c7705 tk_200 i_x3_24) (by decide) (by decide)
            exact K_67 (-1 : Int32) (tq_w tk_m1 (by decide) (by decide))
          ·
            have i8_x3_24 : tq_iv 0 200 x3_24 := tq_cut i_x3_24 (tq_leL (tq_nlt c7705) i_x3_24 tk_200) (by decide) (by decide)
            exact K_67 x3_24 (tq_w i8_x3_24 (by decide) (by decide))
        refine tz_if _ (fun c7714 => ?_) (fun c7714 => ?_)
        ·
          have i9_x3_24 : tq_iv 201 201 x3_24 := tq_cut i_x3_24 (tq_ltR c7714 tk_200 i_x3_24) (by decide) (by decide)
          exact K_51 
        ·
          have i10_x3_24 : tq_iv 0 200 x3_24 := tq_cut i_x3_24 (tq_leL (tq_nlt c7714) i_x3_24 tk_200) (by decide) (by decide)
          refine tz_bd (tz_X12_opensBy T_σ_24 k_h0 i2_x1 i5_x2) (fun t_34 i_t_34 => ?_)
          refine tz_if _ (fun c7712 => ?_) (fun c7712 => ?_)
          ·
            have i11_t_34 : tq_iv 0 0 t_34 := tq_cut i_t_34 (tq_eqL c7712 tk_0) (by decide) (by decide)
            exact K_51 
          ·
            have i12_t_34 : tq_iv 1 1 t_34 := tq_w (tq_neLo c7712 i_t_34 tk_0) (by decide) (by decide)
            refine tz_b2 (tz_X12_use T_σ_24 k_h0 i2_x1) (fun _ σ7711 T7711 => ?_)
            refine tz_let (fun t_45 e7710 => ?_)
            have i13_t_45 : tq_iv 1 201 t_45 := tq_w (tq_add e7710 i10_x3_24 tk_1 (by decide) (by decide)) (by decide) (by decide)
            exact hk_24 σ7711 t_45 T7711 (tq_w i13_t_45 (by decide) (by decide)) (tq_up e7710 i10_x3_24 tk_1 (by decide) (by decide) hn_24)
      have E_24 : ∀ (σ_24 : ez_H) (x3_24 : Int32), tp p σ_24 → tq_iv 0 201 x3_24 → tz_O (fun z : Int32 × ez_H => (fun (z : Int32) (s : ez_H) => tq_iv (-1) 200 z ∧ tp p s) z.1 z.2) (ez_fix (fun _ _ _ _ _ => none) (z_X12_lasts_24) ez_N σ_24 h0 x1 x2 x3_24) := by
        intro σ_24 x3_24 T_σ_24 i_x3_24
        exact ez_fix_indn (fun n_24 (k_24 : ez_H → Nat → Int32 → Int32 → Int32 → Option (Int32 × ez_H)) => ∀ (σ_24 : ez_H) (x3_24 : Int32), tp p σ_24 → tq_iv 0 201 x3_24 → (2147483647 - x3_24.toInt).toNat < n_24 → tz_O (fun z : Int32 × ez_H => (fun (z : Int32) (s : ez_H) => tq_iv (-1) 200 z ∧ tp p s) z.1 z.2) (k_24 σ_24 h0 x1 x2 x3_24)) (by intros; rename_i h; exact absurd h (Nat.not_lt_zero _)) L_24 ez_N σ_24 x3_24 T_σ_24 i_x3_24 (tq_m0 x3_24)
      exact E_24 σ7718 (0 : Int32) T7718 (tq_w tk_0 (by decide) (by decide))
set_option maxRecDepth 4000 in
theorem tz_X12_law {p : tz_P} {σ : ez_H} {h0 : Nat} {x1 : Int32} (hT : tp p σ) (k_h0 : tz_C h0 = some (3, 12, 0, 0)) : tz_O (fun z => tq_iv (-1) 2147483647 z) (z_X12_law σ h0 x1) := by
  unfold z_X12_law
  refine tz_bd (tz_ob hT k_h0) (fun _ _ => ?_)
  refine tz_bd (tz_X12_isIn hT) (fun t_3 ⟨i_t_3, g_t_3⟩ => ?_)
  have K_18 : ∀ (y0_18 : Int32), tq_iv (-1) 2147483647 y0_18 → tz_O (fun (z : Int32) => tq_iv (-1) 2147483647 z) (z_X12_law_18 σ y0_18) := by
    intro y0_18 i_y0_18
    unfold z_X12_law_18
    exact tz_some i_y0_18
  refine tz_if _ (fun c7754 => ?_) (fun c7754 => ?_)
  ·
    have i1_t_3 : tq_iv 0 0 t_3 := tq_cut i_t_3 (tq_eqL c7754 tk_0) (by decide) (by decide)
    exact K_18 (-1 : Int32) (tq_w tk_m1 (by decide) (by decide))
  ·
    have i2_x1 : tq_iv 0 5 x1 := tq_cut (tq_top x1) (tq_cut (tq_cut (tq_top x1) (tq_leR (g_t_3 c7754).1 tk_0 (tq_top x1)) (by decide) (by decide)) (tq_leL (g_t_3 c7754).2 (tq_top x1) tk_5) (by decide) (by decide)) (by decide) (by decide)
    have i3_t_3 : tq_iv 1 1 t_3 := tq_w (tq_neLo c7754 i_t_3 tk_0) (by decide) (by decide)
    refine tz_bd (tz_X12_manyLegal hT k_h0 i2_x1) (fun t_11 i_t_11 => ?_)
    exact K_18 t_11 (tq_w i_t_11 (by decide) (by decide))
set_option maxRecDepth 4000 in
theorem tz_X12_leftOver {p : tz_P} {σ : ez_H} {h0 : Nat} {x1 : Int32} (hT : tp p σ) (k_h0 : tz_C h0 = some (3, 12, 0, 0)) : tz_O2 (fun (z : Int32) (s : ez_H) => tq_iv (-1) 63 z ∧ tp p s) (z_X12_leftOver σ h0 x1) := by
  show tz_O (fun z : Int32 × ez_H => (fun (z : Int32) (s : ez_H) => tq_iv (-1) 63 z ∧ tp p s) z.1 z.2) _
  unfold z_X12_leftOver
  refine tz_bd (tz_ob hT k_h0) (fun _ _ => ?_)
  refine tz_bd (tz_X12_isKey hT k_h0) (fun t_2 ⟨i_t_2, g_t_2⟩ => ?_)
  refine tz_if _ (fun c7779 => ?_) (fun c7779 => ?_)
  ·
    have i1_t_2 : tq_iv 0 0 t_2 := tq_cut i_t_2 (tq_eqL c7779 tk_0) (by decide) (by decide)
    exact tz_some ⟨(tq_w tk_m1 (by decide) (by decide)), hT⟩
  ·
    have i2_x1 : tq_iv 0 7 x1 := tq_cut (tq_top x1) (g_t_2 c7779) (by decide) (by decide)
    have i3_t_2 : tq_iv 1 1 t_2 := tq_w (tq_neLo c7779 i_t_2 tk_0) (by decide) (by decide)
    refine tz_b2 (tz_X12_keepNow hT k_h0) (fun _ σ7778 T7778 => ?_)
    have L_18 : ∀ (n_18 : Nat) (k_18 : ez_H → Nat → Int32 → Int32 → Int32 → Option (Int32 × ez_H)), (∀ (σ_18 : ez_H) (x2_18 : Int32) (x3_18 : Int32), tp p σ_18 → tq_iv 0 63 x2_18 → tq_iv 0 6 x3_18 → (2147483647 - x3_18.toInt).toNat < n_18 → tz_O (fun z : Int32 × ez_H => (fun (z : Int32) (s : ez_H) => tq_iv (-1) 63 z ∧ tp p s) z.1 z.2) (k_18 σ_18 h0 x1 x2_18 x3_18)) → ∀ (σ_18 : ez_H) (x2_18 : Int32) (x3_18 : Int32), tp p σ_18 → tq_iv 0 63 x2_18 → tq_iv 0 6 x3_18 → (2147483647 - x3_18.toInt).toNat < n_18 + 1 → tz_O (fun z : Int32 × ez_H => (fun (z : Int32) (s : ez_H) => tq_iv (-1) 63 z ∧ tp p s) z.1 z.2) (z_X12_leftOver_18 k_18 σ_18 h0 x1 x2_18 x3_18) := by
      intro n_18 k_18 hk_18 σ_18 x2_18 x3_18 T_σ_18 i_x2_18 i_x3_18 hn_18
      unfold z_X12_leftOver_18
      refine tz_bd (tz_X12_bolts T_σ_18 k_h0) (fun t_20 i_t_20 => ?_)
      refine tz_if _ (fun c7774 => ?_) (fun c7774 => ?_)
      ·
        refine tz_b2 (tz_X12_bringBack T_σ_18 k_h0) (fun _ σ7760 T7760 => ?_)
        exact tz_some ⟨(tq_w i_x2_18 (by decide) (by decide)), T7760⟩
      ·
        have i4_x3_18 : tq_iv 0 5 x3_18 := tq_cut i_x3_18 (tq_ltL (tq_nle c7774) i_x3_18 i_t_20) (by decide) (by decide)
        have i5_t_20 : tq_iv 1 6 t_20 := tq_cut i_t_20 (tq_ltR (tq_nle c7774) i_x3_18 i_t_20) (by decide) (by decide)
        refine tz_bd (tz_X12_mustOf T_σ_18 k_h0 i4_x3_18) (fun t_28 i_t_28 => ?_)
        refine tz_let (fun t_33 e7772 => ?_)
        have i6_t_33 : tq_iv 1 128 t_33 := tq_shl1 e7772 i2_x1 (by decide) (by decide) (by decide) (by decide)
        refine tz_let (fun t_35 e7771 => ?_)
        refine tz_let (fun t_36 e7770 => ?_)
        have K_69 : ∀ (σ_69 : ez_H) (x2_69 : Int32), tp p σ_69 → tq_iv 0 63 x2_69 → tz_O (fun z : Int32 × ez_H => (fun (z : Int32) (s : ez_H) => tq_iv (-1) 63 z ∧ tp p s) z.1 z.2) (z_X12_leftOver_69 k_18 σ_69 h0 x1 x2_69 x3_18) := by
          intro σ_69 x2_69 T_σ_69 i_x2_69
          unfold z_X12_leftOver_69
          refine tz_let (fun t_69 e7758 => ?_)
          have i7_t_69 : tq_iv 1 6 t_69 := tq_w (tq_add e7758 i4_x3_18 tk_1 (by decide) (by decide)) (by decide) (by decide)
          exact hk_18 σ_69 x2_69 t_69 T_σ_69 i_x2_69 (tq_w i7_t_69 (by decide) (by decide)) (tq_up e7758 i4_x3_18 tk_1 (by decide) (by decide) hn_18)
        refine tz_if _ (fun c7769 => ?_) (fun c7769 => ?_)
        ·
          have i8_t_36 : tq_iv 0 0 t_36 := tq_cut (tq_top t_36) (tq_eqL c7769 tk_0) (by decide) (by decide)
          exact K_69 σ_18 x2_18 T_σ_18 i_x2_18
        ·
          refine tz_b2 (tz_X12_pinFor T_σ_18 k_h0 i4_x3_18) (fun _ σ7768 T7768 => ?_)
          refine tz_bd (tz_X12_opensBy T7768 k_h0 i2_x1 i4_x3_18) (fun t_57 i_t_57 => ?_)
          refine tz_if _ (fun c7766 => ?_) (fun c7766 => ?_)
          ·
            have i9_t_57 : tq_iv 0 0 t_57 := tq_cut i_t_57 (tq_eqL c7766 tk_0) (by decide) (by decide)
            exact K_69 σ7768 x2_18 T7768 i_x2_18
          ·
            have i10_t_57 : tq_iv 1 1 t_57 := tq_w (tq_neLo c7766 i_t_57 tk_0) (by decide) (by decide)
            refine tz_let (fun t_66 e7765 => ?_)
            have i11_t_66 : tq_iv 1 32 t_66 := tq_shl1 e7765 i4_x3_18 (by decide) (by decide) (by decide) (by decide)
            refine tz_let (fun t_67 e7764 => ?_)
            have i12_t_67 : tq_iv 0 63 t_67 := tq_or e7764 i_x2_18 i11_t_66 6 (by decide) (by decide) (by decide) (by decide) (by decide)
            exact K_69 σ7768 t_67 T7768 i12_t_67
    have E_18 : ∀ (σ_18 : ez_H) (x2_18 : Int32) (x3_18 : Int32), tp p σ_18 → tq_iv 0 63 x2_18 → tq_iv 0 6 x3_18 → tz_O (fun z : Int32 × ez_H => (fun (z : Int32) (s : ez_H) => tq_iv (-1) 63 z ∧ tp p s) z.1 z.2) (ez_fix (fun _ _ _ _ _ => none) (z_X12_leftOver_18) ez_N σ_18 h0 x1 x2_18 x3_18) := by
      intro σ_18 x2_18 x3_18 T_σ_18 i_x2_18 i_x3_18
      exact ez_fix_indn (fun n_18 (k_18 : ez_H → Nat → Int32 → Int32 → Int32 → Option (Int32 × ez_H)) => ∀ (σ_18 : ez_H) (x2_18 : Int32) (x3_18 : Int32), tp p σ_18 → tq_iv 0 63 x2_18 → tq_iv 0 6 x3_18 → (2147483647 - x3_18.toInt).toNat < n_18 → tz_O (fun z : Int32 × ez_H => (fun (z : Int32) (s : ez_H) => tq_iv (-1) 63 z ∧ tp p s) z.1 z.2) (k_18 σ_18 h0 x1 x2_18 x3_18)) (by intros; rename_i h; exact absurd h (Nat.not_lt_zero _)) L_18 ez_N σ_18 x2_18 x3_18 T_σ_18 i_x2_18 i_x3_18 (tq_m0 x3_18)
    exact E_18 σ7778 (0 : Int32) (0 : Int32) T7778 (tq_w tk_0 (by decide) (by decide)) (tq_w tk_0 (by decide) (by decide))
set_option maxRecDepth 4000 in
theorem tz_X12_legal {p : tz_P} {σ : ez_H} {h0 : Nat} (hT : tp p σ) (k_h0 : tz_C h0 = some (3, 12, 0, 0)) : tz_O (fun z => tq_iv 1 2147483647 z) (z_X12_legal σ h0) := by
  unfold z_X12_legal
  refine tz_bd (tz_ob hT k_h0) (fun _ _ => ?_)
  refine tz_bk (tr_13 hT k_h0) ?_
  refine tz_be (tg_12_43 hT k_h0) (fun t_6 e7785 i_t_6 => ?_)
  refine tz_be (tz_ia hT tc_175 (te_175 (p := p)) i_t_6 (by decide) (by decide)) (fun t_9 e7784 i_t_9 => ?_)
  refine tz_bd (tz_X12_manyLegal hT k_h0 i_t_9) (fun t_10 i_t_10 => ?_)
  exact tz_some i_t_10
set_option maxRecDepth 4000 in
theorem tz_X12_lies {p : tz_P} {σ : ez_H} {h0 : Nat} {x1 : Int32} (hT : tp p σ) (k_h0 : tz_C h0 = some (3, 12, 0, 0)) : tz_O (fun z => tq_iv (-2147483648) 2147483647 z) (z_X12_lies σ h0 x1) := by
  unfold z_X12_lies
  refine tz_bd (tz_ob hT k_h0) (fun _ _ => ?_)
  refine tz_be (tg_12_57 hT k_h0) (fun t_3 e7796 i_t_3 => ?_)
  refine tz_let (fun t_7 e7795 => ?_)
  have i1_t_7 : tq_iv (-1) 5 t_7 := tq_w (tq_sub e7795 i_t_3 tk_1 (by decide) (by decide)) (by decide) (by decide)
  refine tz_bd (tz_X12_isIn hT) (fun t_8 ⟨i_t_8, g_t_8⟩ => ?_)
  have K_25 : ∀ (y0_25 : Int32), tz_O (fun (z : Int32) => tq_iv (-2147483648) 2147483647 z) (z_X12_lies_25 σ y0_25) := by
    intro y0_25
    unfold z_X12_lies_25
    exact tz_some (tq_top y0_25)
  refine tz_if _ (fun c7793 => ?_) (fun c7793 => ?_)
  ·
    have i2_t_8 : tq_iv 0 0 t_8 := tq_cut i_t_8 (tq_eqL c7793 tk_0) (by decide) (by decide)
    exact K_25 (-2 : Int32)
  ·
    have i3_x1 : tq_iv 0 5 x1 := tq_cut (tq_top x1) (tq_cut (tq_cut (tq_top x1) (tq_leR (g_t_8 c7793).1 tk_0 (tq_top x1)) (by decide) (by decide)) (tq_leL (g_t_8 c7793).2 (tq_top x1) i1_t_7) (by decide) (by decide)) (by decide) (by decide)
    have i4_t_7 : tq_iv 0 5 t_7 := tq_cut i1_t_7 (tq_leR (g_t_8 c7793).2 i3_x1 i1_t_7) (by decide) (by decide)
    have i5_t_8 : tq_iv 1 1 t_8 := tq_w (tq_neLo c7793 i_t_8 tk_0) (by decide) (by decide)
    refine tz_bk (tr_56 hT k_h0) ?_
    refine tz_be (tz_ia hT tc_208 (te_0 (p := p)) i3_x1 (by decide) (by decide)) (fun t_19 e7791 i_t_19 => ?_)
    exact K_25 t_19
set_option maxRecDepth 4000 in
theorem tz_X12_keysThatOpen {p : tz_P} {σ : ez_H} {h0 : Nat} {x1 : Int32} (hT : tp p σ) (k_h0 : tz_C h0 = some (3, 12, 0, 0)) (i_x1 : tq_iv 0 5 x1) : tz_O (fun z => tq_iv (-2147483648) 2147483647 z) (z_X12_keysThatOpen σ h0 x1) := by
  unfold z_X12_keysThatOpen
  refine tz_bd (tz_ob hT k_h0) (fun _ _ => ?_)
  have L_4 : ∀ (n_4 : Nat) (k_4 : Nat → Int32 → Int32 → Int32 → Option (Int32)), (∀ (x2_4 : Int32) (x3_4 : Int32), tq_iv 0 8 x3_4 → (2147483647 - x3_4.toInt).toNat < n_4 → tz_O (fun (z : Int32) => tq_iv (-2147483648) 2147483647 z) (k_4 h0 x1 x2_4 x3_4)) → ∀ (x2_4 : Int32) (x3_4 : Int32), tq_iv 0 8 x3_4 → (2147483647 - x3_4.toInt).toNat < n_4 + 1 → tz_O (fun (z : Int32) => tq_iv (-2147483648) 2147483647 z) (z_X12_keysThatOpen_4 σ k_4 h0 x1 x2_4 x3_4) := by
    intro n_4 k_4 hk_4 x2_4 x3_4 i_x3_4 hn_4
    unfold z_X12_keysThatOpen_4
    refine tz_bd (tz_X12_many hT k_h0) (fun t_6 i_t_6 => ?_)
    refine tz_if _ (fun c7807 => ?_) (fun c7807 => ?_)
    ·
      exact tz_some (tq_top x2_4)
    ·
      have i1_x3_4 : tq_iv 0 7 x3_4 := tq_cut i_x3_4 (tq_ltL (tq_nle c7807) i_x3_4 i_t_6) (by decide) (by decide)
      have i2_t_6 : tq_iv 1 8 t_6 := tq_cut i_t_6 (tq_ltR (tq_nle c7807) i_x3_4 i_t_6) (by decide) (by decide)
      refine tz_bd (tz_X12_opensBy hT k_h0 i1_x3_4 i_x1) (fun t_15 i_t_15 => ?_)
      have K_27 : ∀ (x2_27 : Int32), tz_O (fun (z : Int32) => tq_iv (-2147483648) 2147483647 z) (z_X12_keysThatOpen_27 σ k_4 h0 x1 x2_27 x3_4) := by
        intro x2_27
        unfold z_X12_keysThatOpen_27
        refine tz_let (fun t_27 e7799 => ?_)
        have i3_t_27 : tq_iv 1 8 t_27 := tq_w (tq_add e7799 i1_x3_4 tk_1 (by decide) (by decide)) (by decide) (by decide)
        exact hk_4 x2_27 t_27 (tq_w i3_t_27 (by decide) (by decide)) (tq_up e7799 i1_x3_4 tk_1 (by decide) (by decide) hn_4)
      refine tz_if _ (fun c7805 => ?_) (fun c7805 => ?_)
      ·
        have i4_t_15 : tq_iv 0 0 t_15 := tq_cut i_t_15 (tq_eqL c7805 tk_0) (by decide) (by decide)
        exact K_27 x2_4
      ·
        have i5_t_15 : tq_iv 1 1 t_15 := tq_w (tq_neLo c7805 i_t_15 tk_0) (by decide) (by decide)
        refine tz_let (fun t_24 e7804 => ?_)
        have i6_t_24 : tq_iv 1 128 t_24 := tq_shl1 e7804 i1_x3_4 (by decide) (by decide) (by decide) (by decide)
        refine tz_let (fun t_25 e7803 => ?_)
        exact K_27 t_25
  have E_4 : ∀ (x2_4 : Int32) (x3_4 : Int32), tq_iv 0 8 x3_4 → tz_O (fun (z : Int32) => tq_iv (-2147483648) 2147483647 z) (ez_fix (fun _ _ _ _ => none) (z_X12_keysThatOpen_4 σ) ez_N h0 x1 x2_4 x3_4) := by
    intro x2_4 x3_4 i_x3_4
    exact ez_fix_indn (fun n_4 (k_4 : Nat → Int32 → Int32 → Int32 → Option (Int32)) => ∀ (x2_4 : Int32) (x3_4 : Int32), tq_iv 0 8 x3_4 → (2147483647 - x3_4.toInt).toNat < n_4 → tz_O (fun (z : Int32) => tq_iv (-2147483648) 2147483647 z) (k_4 h0 x1 x2_4 x3_4)) (by intros; rename_i h; exact absurd h (Nat.not_lt_zero _)) L_4 ez_N x2_4 x3_4 i_x3_4 (tq_m0 x3_4)
  exact E_4 (0 : Int32) (0 : Int32) (tq_w tk_0 (by decide) (by decide))
set_option maxRecDepth 4000 in
theorem tz_X12_partsIn {p : tz_P} {σ : ez_H} {h0 : Nat} {x1 : Int32} (hT : tp p σ) (k_h0 : tz_C h0 = some (3, 12, 0, 0)) (i_x1 : tq_iv 0 5 x1) : tz_O (fun z => tq_iv (-2147483648) 2147483647 z) (z_X12_partsIn σ h0 x1) := by
  unfold z_X12_partsIn
  refine tz_bd (tz_ob hT k_h0) (fun _ _ => ?_)
  have L_4 : ∀ (n_4 : Nat) (k_4 : Nat → Int32 → Int32 → Int32 → Option (Int32)), (∀ (x2_4 : Int32) (x3_4 : Int32), tq_iv 0 5 x3_4 → (2147483647 - x3_4.toInt).toNat < n_4 → tz_O (fun (z : Int32) => tq_iv (-2147483648) 2147483647 z) (k_4 h0 x1 x2_4 x3_4)) → ∀ (x2_4 : Int32) (x3_4 : Int32), tq_iv 0 5 x3_4 → (2147483647 - x3_4.toInt).toNat < n_4 + 1 → tz_O (fun (z : Int32) => tq_iv (-2147483648) 2147483647 z) (z_X12_partsIn_4 σ k_4 h0 x1 x2_4 x3_4) := by
    intro n_4 k_4 hk_4 x2_4 x3_4 i_x3_4 hn_4
    unfold z_X12_partsIn_4
    refine tz_bd (tz_X12_wide hT k_h0) (fun t_6 i_t_6 => ?_)
    refine tz_if _ (fun c7817 => ?_) (fun c7817 => ?_)
    ·
      have i1_x3_4 : tq_iv 2 5 x3_4 := tq_cut i_x3_4 (tq_leR c7817 i_t_6 i_x3_4) (by decide) (by decide)
      exact tz_some (tq_top x2_4)
    ·
      have i2_x3_4 : tq_iv 0 4 x3_4 := tq_cut i_x3_4 (tq_ltL (tq_nle c7817) i_x3_4 i_t_6) (by decide) (by decide)
      refine tz_bd (tz_X12_partsOf hT k_h0 i_x1 i2_x3_4) (fun t_16 i_t_16 => ?_)
      refine tz_bd (tz_X12_bitsOf hT) (fun t_19 i_t_19 => ?_)
      refine tz_let (fun t_22 e7814 => ?_)
      refine tz_let (fun t_24 e7813 => ?_)
      have i3_t_24 : tq_iv 1 5 t_24 := tq_w (tq_add e7813 i2_x3_4 tk_1 (by decide) (by decide)) (by decide) (by decide)
      exact hk_4 t_22 t_24 (tq_w i3_t_24 (by decide) (by decide)) (tq_up e7813 i2_x3_4 tk_1 (by decide) (by decide) hn_4)
  have E_4 : ∀ (x2_4 : Int32) (x3_4 : Int32), tq_iv 0 5 x3_4 → tz_O (fun (z : Int32) => tq_iv (-2147483648) 2147483647 z) (ez_fix (fun _ _ _ _ => none) (z_X12_partsIn_4 σ) ez_N h0 x1 x2_4 x3_4) := by
    intro x2_4 x3_4 i_x3_4
    exact ez_fix_indn (fun n_4 (k_4 : Nat → Int32 → Int32 → Int32 → Option (Int32)) => ∀ (x2_4 : Int32) (x3_4 : Int32), tq_iv 0 5 x3_4 → (2147483647 - x3_4.toInt).toNat < n_4 → tz_O (fun (z : Int32) => tq_iv (-2147483648) 2147483647 z) (k_4 h0 x1 x2_4 x3_4)) (by intros; rename_i h; exact absurd h (Nat.not_lt_zero _)) L_4 ez_N x2_4 x3_4 i_x3_4 (tq_m0 x3_4)
  exact E_4 (0 : Int32) (0 : Int32) (tq_w tk_0 (by decide) (by decide))
set_option maxRecDepth 4000 in
theorem tz_X12_lock {p : tz_P} {σ : ez_H} {h0 : Nat} {x1 : Int32} {x2 : Int32} (hT : tp p σ) (k_h0 : tz_C h0 = some (3, 12, 0, 0)) : tz_O (fun z => tq_iv (-2147483648) 2147483647 z) (z_X12_lock σ h0 x1 x2) := by
  unfold z_X12_lock
  refine tz_bd (tz_ob hT k_h0) (fun _ _ => ?_)
  refine tz_bd (tz_X12_isLock hT k_h0) (fun t_2 ⟨i_t_2, g_t_2⟩ => ?_)
  refine tz_if _ (fun c7835 => ?_) (fun c7835 => ?_)
  ·
    have i1_t_2 : tq_iv 0 0 t_2 := tq_cut i_t_2 (tq_eqL c7835 tk_0) (by decide) (by decide)
    exact tz_some (tq_top (-1 : Int32))
  ·
    have i2_x1 : tq_iv 0 5 x1 := tq_cut (tq_top x1) (g_t_2 c7835) (by decide) (by decide)
    have i3_t_2 : tq_iv 1 1 t_2 := tq_w (tq_neLo c7835 i_t_2 tk_0) (by decide) (by decide)
    refine tz_if _ (fun c7834 => ?_) (fun c7834 => ?_)
    ·
      have i4_x2 : tq_iv 0 0 x2 := tq_cut (tq_top x2) (tq_eqL c7834 tk_0) (by decide) (by decide)
      refine tz_bd (tz_X12_partsIn hT k_h0 i2_x1) (fun t_42 i_t_42 => ?_)
      exact tz_some (tq_top t_42)
    ·
      refine tz_if _ (fun c7833 => ?_) (fun c7833 => ?_)
      ·
        have i5_x2 : tq_iv 1 1 x2 := tq_cut (tq_top x2) (tq_eqL c7833 tk_1) (by decide) (by decide)
        refine tz_bd (tz_X12_keysThatOpen hT k_h0 i2_x1) (fun t_48 i_t_48 => ?_)
        exact tz_some (tq_top t_48)
      ·
        refine tz_if _ (fun c7832 => ?_) (fun c7832 => ?_)
        ·
          have i6_x2 : tq_iv 2 2 x2 := tq_cut (tq_top x2) (tq_eqL c7832 tk_2) (by decide) (by decide)
          refine tz_bd (tz_X12_mustOf hT k_h0 i2_x1) (fun t_54 i_t_54 => ?_)
          exact tz_some (tq_top t_54)
        ·
          refine tz_if _ (fun c7831 => ?_) (fun c7831 => ?_)
          ·
            have i7_x2 : tq_iv 3 3 x2 := tq_cut (tq_top x2) (tq_eqL c7831 tk_3) (by decide) (by decide)
            refine tz_bd (tz_X12_neverOf hT k_h0 i2_x1) (fun t_60 i_t_60 => ?_)
            exact tz_some (tq_top t_60)
          ·
            exact tz_some (tq_top (-1 : Int32))
set_option maxRecDepth 4000 in
theorem tz_X12_lose {p : tz_P} {σ : ez_H} {h0 : Nat} {x1 : Int32} (hT : tp p σ) (k_h0 : tz_C h0 = some (3, 12, 0, 0)) : tz_O2 (fun (z : Int32) (s : ez_H) => tq_iv (-3) 3 z ∧ tp p s) (z_X12_lose σ h0 x1) := by
  show tz_O (fun z : Int32 × ez_H => (fun (z : Int32) (s : ez_H) => tq_iv (-3) 3 z ∧ tp p s) z.1 z.2) _
  unfold z_X12_lose
  refine tz_bd (tz_ob hT k_h0) (fun _ _ => ?_)
  refine tz_bd (tz_X12_isKey hT k_h0) (fun t_2 ⟨i_t_2, g_t_2⟩ => ?_)
  have K_30 : ∀ (σ_30 : ez_H) (y0_30 : Int32), tp p σ_30 → tq_iv (-3) 3 y0_30 → tz_O (fun z : Int32 × ez_H => (fun (z : Int32) (s : ez_H) => tq_iv (-3) 3 z ∧ tp p s) z.1 z.2) (z_X12_lose_30 σ_30 y0_30) := by
    intro σ_30 y0_30 T_σ_30 i_y0_30
    unfold z_X12_lose_30
    exact tz_some ⟨i_y0_30, T_σ_30⟩
  have K_28 : tz_O (fun z : Int32 × ez_H => (fun (z : Int32) (s : ez_H) => tq_iv (-3) 3 z ∧ tp p s) z.1 z.2) (z_X12_lose_28 σ) := by
    unfold z_X12_lose_28
    exact K_30 σ (-3 : Int32) hT (tq_w tk_m3 (by decide) (by decide))
  refine tz_if _ (fun c7846 => ?_) (fun c7846 => ?_)
  ·
    have i1_t_2 : tq_iv 0 0 t_2 := tq_cut i_t_2 (tq_eqL c7846 tk_0) (by decide) (by decide)
    exact K_28 
  ·
    have i2_x1 : tq_iv 0 7 x1 := tq_cut (tq_top x1) (g_t_2 c7846) (by decide) (by decide)
    have i3_t_2 : tq_iv 1 1 t_2 := tq_w (tq_neLo c7846 i_t_2 tk_0) (by decide) (by decide)
    refine tz_bd (tz_X12_holderOf hT k_h0 i2_x1) (fun t_10 i_t_10 => ?_)
    refine tz_if _ (fun c7844 => ?_) (fun c7844 => ?_)
    ·
      have i4_t_10 : tq_iv (-2) (-2) t_10 := tq_cut i_t_10 (tq_eqL c7844 tk_m2) (by decide) (by decide)
      exact K_28 
    ·
      have i5_t_10 : tq_iv (-1) 3 t_10 := tq_w (tq_neLo c7844 i_t_10 tk_m2) (by decide) (by decide)
      refine tz_b2 (tz_X12_hand hT k_h0 i2_x1 (tq_w tk_m2 (by decide) (by decide))) (fun t_22 σ7843 ⟨i_t_22, T7843⟩ => ?_)
      exact K_30 σ7843 t_22 T7843 (tq_w i_t_22 (by decide) (by decide))
set_option maxRecDepth 4000 in
theorem tz_X12_master {p : tz_P} {σ : ez_H} {h0 : Nat} {x1 : Int32} (hT : tp p σ) (k_h0 : tz_C h0 = some (3, 12, 0, 0)) : tz_O (fun z => tq_iv (-2147483648) 2147483647 z) (z_X12_master σ h0 x1) := by
  unfold z_X12_master
  refine tz_bd (tz_ob hT k_h0) (fun _ _ => ?_)
  refine tz_bd (tz_X12_isIn hT) (fun t_3 ⟨i_t_3, g_t_3⟩ => ?_)
  refine tz_if _ (fun c7872 => ?_) (fun c7872 => ?_)
  ·
    have i1_t_3 : tq_iv 0 0 t_3 := tq_cut i_t_3 (tq_eqL c7872 tk_0) (by decide) (by decide)
    exact tz_some (tq_top (-1 : Int32))
  ·
    have i2_x1 : tq_iv 0 2 x1 := tq_cut (tq_top x1) (tq_cut (tq_cut (tq_top x1) (tq_leR (g_t_3 c7872).1 tk_0 (tq_top x1)) (by decide) (by decide)) (tq_leL (g_t_3 c7872).2 (tq_top x1) tk_2) (by decide) (by decide)) (by decide) (by decide)
    have i3_t_3 : tq_iv 1 1 t_3 := tq_w (tq_neLo c7872 i_t_3 tk_0) (by decide) (by decide)
    have L_18 : ∀ (n_18 : Nat) (k_18 : Nat → Int32 → Int32 → Int32 → Int32 → Option (Int32)), (∀ (x2_18 : Int32) (x3_18 : Int32) (x4_18 : Int32), tq_iv (-1) 2147483646 x2_18 → tq_iv 0 7776 x4_18 → (2147483647 - x4_18.toInt).toNat < n_18 → tz_O (fun (z : Int32) => tq_iv (-2147483648) 2147483647 z) (k_18 h0 x1 x2_18 x3_18 x4_18)) → ∀ (x2_18 : Int32) (x3_18 : Int32) (x4_18 : Int32), tq_iv (-1) 2147483646 x2_18 → tq_iv 0 7776 x4_18 → (2147483647 - x4_18.toInt).toNat < n_18 + 1 → tz_O (fun (z : Int32) => tq_iv (-2147483648) 2147483647 z) (z_X12_master_18 σ k_18 h0 x1 x2_18 x3_18 x4_18) := by
      intro n_18 k_18 hk_18 x2_18 x3_18 x4_18 i_x2_18 i_x4_18 hn_18
      unfold z_X12_master_18
      refine tz_bd (tz_X12_bittings hT k_h0) (fun t_21 i_t_21 => ?_)
      refine tz_if _ (fun c7868 => ?_) (fun c7868 => ?_)
      ·
        have i4_x4_18 : tq_iv 1 7776 x4_18 := tq_cut i_x4_18 (tq_leR c7868 i_t_21 i_x4_18) (by decide) (by decide)
        have K_93 : ∀ (y0_93 : Int32), tz_O (fun (z : Int32) => tq_iv (-2147483648) 2147483647 z) (z_X12_master_93 σ y0_93) := by
          intro y0_93
          unfold z_X12_master_93
          exact tz_some (tq_top y0_93)
        refine tz_if _ (fun c7857 => ?_) (fun c7857 => ?_)
        ·
          have i5_x1 : tq_iv 0 0 x1 := tq_cut i2_x1 (tq_eqL c7857 tk_0) (by decide) (by decide)
          exact K_93 x2_18
        ·
          have i6_x1 : tq_iv 1 2 x1 := tq_w (tq_neLo c7857 i2_x1 tk_0) (by decide) (by decide)
          refine tz_if _ (fun c7856 => ?_) (fun c7856 => ?_)
          ·
            have i7_x1 : tq_iv 1 1 x1 := tq_cut i6_x1 (tq_eqL c7856 tk_1) (by decide) (by decide)
            exact K_93 x3_18
          ·
            have i8_x1 : tq_iv 2 2 x1 := tq_w (tq_neLo c7856 i6_x1 tk_1) (by decide) (by decide)
            refine tz_bd (tz_X12_openedBy hT k_h0) (fun t_90 i_t_90 => ?_)
            exact K_93 t_90
      ·
        have i9_x4_18 : tq_iv 0 7775 x4_18 := tq_cut i_x4_18 (tq_ltL (tq_nle c7868) i_x4_18 i_t_21) (by decide) (by decide)
        refine tz_bd (tz_X12_isLegal hT k_h0) (fun t_30 ⟨i_t_30, g_t_30⟩ => ?_)
        have K_65 : ∀ (x2_65 : Int32) (x3_65 : Int32), tq_iv (-1) 2147483646 x2_65 → tz_O (fun (z : Int32) => tq_iv (-2147483648) 2147483647 z) (z_X12_master_65 σ k_18 h0 x1 x2_65 x3_65 x4_18) := by
          intro x2_65 x3_65 i_x2_65
          unfold z_X12_master_65
          refine tz_let (fun t_65 e7851 => ?_)
          have i10_t_65 : tq_iv 1 7776 t_65 := tq_w (tq_add e7851 i9_x4_18 tk_1 (by decide) (by decide)) (by decide) (by decide)
          exact hk_18 x2_65 x3_65 t_65 i_x2_65 (tq_w i10_t_65 (by decide) (by decide)) (tq_up e7851 i9_x4_18 tk_1 (by decide) (by decide) hn_18)
        refine tz_if _ (fun c7866 => ?_) (fun c7866 => ?_)
        ·
          have i11_t_30 : tq_iv 0 0 t_30 := tq_cut i_t_30 (tq_eqL c7866 tk_0) (by decide) (by decide)
          exact K_65 x2_18 x3_18 i_x2_18
        ·
          have i12_t_30 : tq_iv 1 1 t_30 := tq_w (tq_neLo c7866 i_t_30 tk_0) (by decide) (by decide)
          refine tz_bd (tz_X12_openedBy hT k_h0) (fun t_39 i_t_39 => ?_)
          refine tz_bd (tz_X12_bitsOf hT) (fun t_42 i_t_42 => ?_)
          refine tz_if _ (fun c7863 => ?_) (fun c7863 => ?_)
          ·
            have i13_x3_18 : tq_iv (-2147483648) 2147483646 x3_18 := tq_cut (tq_top x3_18) (tq_ltL c7863 (tq_top x3_18) (tq_top t_42)) (by decide) (by decide)
            have i14_t_42 : tq_iv (-2147483647) 2147483647 t_42 := tq_cut (tq_top t_42) (tq_ltR c7863 (tq_top x3_18) (tq_top t_42)) (by decide) (by decide)
            refine tz_bd (tz_X12_openedBy hT k_h0) (fun t_58 i_t_58 => ?_)
            refine tz_bd (tz_X12_bitsOf hT) (fun t_61 i_t_61 => ?_)
            exact K_65 x4_18 t_61 (tq_w i9_x4_18 (by decide) (by decide))
          ·
            exact K_65 x2_18 x3_18 i_x2_18
    have E_18 : ∀ (x2_18 : Int32) (x3_18 : Int32) (x4_18 : Int32), tq_iv (-1) 2147483646 x2_18 → tq_iv 0 7776 x4_18 → tz_O (fun (z : Int32) => tq_iv (-2147483648) 2147483647 z) (ez_fix (fun _ _ _ _ _ => none) (z_X12_master_18 σ) ez_N h0 x1 x2_18 x3_18 x4_18) := by
      intro x2_18 x3_18 x4_18 i_x2_18 i_x4_18
      exact ez_fix_indn (fun n_18 (k_18 : Nat → Int32 → Int32 → Int32 → Int32 → Option (Int32)) => ∀ (x2_18 : Int32) (x3_18 : Int32) (x4_18 : Int32), tq_iv (-1) 2147483646 x2_18 → tq_iv 0 7776 x4_18 → (2147483647 - x4_18.toInt).toNat < n_18 → tz_O (fun (z : Int32) => tq_iv (-2147483648) 2147483647 z) (k_18 h0 x1 x2_18 x3_18 x4_18)) (by intros; rename_i h; exact absurd h (Nat.not_lt_zero _)) L_18 ez_N x2_18 x3_18 x4_18 i_x2_18 i_x4_18 (tq_m0 x4_18)
    exact E_18 (-1 : Int32) (-1 : Int32) (0 : Int32) (tq_w tk_m1 (by decide) (by decide)) (tq_w tk_0 (by decide) (by decide))
set_option maxRecDepth 4000 in
theorem tz_X12_odds {p : tz_P} {σ : ez_H} {h0 : Nat} {x1 : Int32} {x2 : Int32} (hT : tp p σ) (k_h0 : tz_C h0 = some (3, 12, 0, 0)) : tz_O (fun z => tq_iv (-1) 2147483647 z) (z_X12_odds σ h0 x1 x2) := by
  unfold z_X12_odds
  refine tz_bd (tz_ob hT k_h0) (fun _ _ => ?_)
  refine tz_bd (tz_X12_isLock hT k_h0) (fun t_2 ⟨i_t_2, g_t_2⟩ => ?_)
  have K_17 : tz_O (fun (z : Int32) => tq_iv (-1) 2147483647 z) (z_X12_odds_17 σ) := by
    unfold z_X12_odds_17
    exact tz_some (tq_w tk_m1 (by decide) (by decide))
  refine tz_if _ (fun c7896 => ?_) (fun c7896 => ?_)
  ·
    have i1_t_2 : tq_iv 0 0 t_2 := tq_cut i_t_2 (tq_eqL c7896 tk_0) (by decide) (by decide)
    exact K_17 
  ·
    have i2_x1 : tq_iv 0 5 x1 := tq_cut (tq_top x1) (g_t_2 c7896) (by decide) (by decide)
    have i3_t_2 : tq_iv 1 1 t_2 := tq_w (tq_neLo c7896 i_t_2 tk_0) (by decide) (by decide)
    refine tz_bd (tz_X12_isIn hT) (fun t_11 ⟨i_t_11, g_t_11⟩ => ?_)
    refine tz_if _ (fun c7894 => ?_) (fun c7894 => ?_)
    ·
      have i4_t_11 : tq_iv 0 0 t_11 := tq_cut i_t_11 (tq_eqL c7894 tk_0) (by decide) (by decide)
      exact K_17 
    ·
      have i5_x2 : tq_iv 0 1 x2 := tq_cut (tq_top x2) (tq_cut (tq_cut (tq_top x2) (tq_leR (g_t_11 c7894).1 tk_0 (tq_top x2)) (by decide) (by decide)) (tq_leL (g_t_11 c7894).2 (tq_top x2) tk_1) (by decide) (by decide)) (by decide) (by decide)
      have i6_t_11 : tq_iv 1 1 t_11 := tq_w (tq_neLo c7894 i_t_11 tk_0) (by decide) (by decide)
      refine tz_let (fun t_22 e7893 => ?_)
      have i7_t_22 : tq_iv 1 32 t_22 := tq_shl1 e7893 i2_x1 (by decide) (by decide) (by decide) (by decide)
      refine tz_bd (tz_X12_openers hT k_h0) (fun t_23 i_t_23 => ?_)
      refine tz_bd (tz_X12_legal hT k_h0) (fun t_28 i_t_28 => ?_)
      have K_43 : ∀ (y0_43 : Int32), tq_iv 0 2147483647 y0_43 → tz_O (fun (z : Int32) => tq_iv (-1) 2147483647 z) (z_X12_odds_43 σ t_23 t_28 y0_43) := by
        intro y0_43 i_y0_43
        unfold z_X12_odds_43
        refine tz_bd (tz_X12_divisor hT i_t_28 i_t_23) (fun t_46 i_t_46 => ?_)
        refine tz_nz (tq_nz i_t_46 (by decide)) ?_
        refine tz_let (fun t_49 e7883 => ?_)
        have i8_t_49 : tq_iv 0 2147483647 t_49 := tq_div e7883 i_y0_43 i_t_46 (by decide) (by decide)
        exact tz_some (tq_w i8_t_49 (by decide) (by decide))
      refine tz_if _ (fun c7890 => ?_) (fun c7890 => ?_)
      ·
        have i9_x2 : tq_iv 0 0 x2 := tq_cut i5_x2 (tq_eqL c7890 tk_0) (by decide) (by decide)
        exact K_43 t_23 i_t_23
      ·
        have i10_x2 : tq_iv 1 1 x2 := tq_w (tq_neLo c7890 i5_x2 tk_0) (by decide) (by decide)
        exact K_43 t_28 (tq_w i_t_28 (by decide) (by decide))
set_option maxRecDepth 4000 in
theorem tz_X12_opens {p : tz_P} {σ : ez_H} {h0 : Nat} {x1 : Int32} {x2 : Int32} (hT : tp p σ) (k_h0 : tz_C h0 = some (3, 12, 0, 0)) : tz_O (fun z => tq_iv (-1) 1 z) (z_X12_opens σ h0 x1 x2) := by
  unfold z_X12_opens
  refine tz_bd (tz_ob hT k_h0) (fun _ _ => ?_)
  refine tz_bd (tz_X12_isLegal hT k_h0) (fun t_2 ⟨i_t_2, g_t_2⟩ => ?_)
  have K_16 : tz_O (fun (z : Int32) => tq_iv (-1) 1 z) (z_X12_opens_16 σ) := by
    unfold z_X12_opens_16
    exact tz_some (tq_w tk_m1 (by decide) (by decide))
  refine tz_if _ (fun c7909 => ?_) (fun c7909 => ?_)
  ·
    have i1_t_2 : tq_iv 0 0 t_2 := tq_cut i_t_2 (tq_eqL c7909 tk_0) (by decide) (by decide)
    exact K_16 
  ·
    have i2_x1 : tq_iv 0 7775 x1 := tq_cut (tq_top x1) (g_t_2 c7909) (by decide) (by decide)
    have i3_t_2 : tq_iv 1 1 t_2 := tq_w (tq_neLo c7909 i_t_2 tk_0) (by decide) (by decide)
    refine tz_bd (tz_X12_isLock hT k_h0) (fun t_10 ⟨i_t_10, g_t_10⟩ => ?_)
    refine tz_if _ (fun c7907 => ?_) (fun c7907 => ?_)
    ·
      have i4_t_10 : tq_iv 0 0 t_10 := tq_cut i_t_10 (tq_eqL c7907 tk_0) (by decide) (by decide)
      exact K_16 
    ·
      have i5_x2 : tq_iv 0 5 x2 := tq_cut (tq_top x2) (g_t_10 c7907) (by decide) (by decide)
      have i6_t_10 : tq_iv 1 1 t_10 := tq_w (tq_neLo c7907 i_t_10 tk_0) (by decide) (by decide)
      refine tz_bd (tz_X12_doesOpen hT k_h0 i5_x2) (fun t_21 i_t_21 => ?_)
      have K_32 : ∀ (y0_32 : Int32), tq_iv 0 1 y0_32 → (¬ y0_32 = 0 → tq_iv 1 1 t_21) → tz_O (fun (z : Int32) => tq_iv (-1) 1 z) (z_X12_opens_32 σ y0_32) := by
        intro y0_32 i_y0_32 g32_y0_32_t_21
        unfold z_X12_opens_32
        exact tz_some (tq_w i_y0_32 (by decide) (by decide))
      refine tz_if _ (fun c7905 => ?_) (fun c7905 => ?_)
      ·
        have i7_t_21 : tq_iv 0 0 t_21 := tq_cut i_t_21 (tq_eqL c7905 tk_0) (by decide) (by decide)
        exact K_32 (0 : Int32) (tq_w tk_0 (by decide) (by decide)) (fun h => absurd rfl h)
      ·
        have i8_t_21 : tq_iv 1 1 t_21 := tq_w (tq_neLo c7905 i_t_21 tk_0) (by decide) (by decide)
        exact K_32 (1 : Int32) (tq_w tk_1 (by decide) (by decide)) (fun _ => i8_t_21)
set_option maxRecDepth 4000 in
theorem tz_X12_part {p : tz_P} {σ : ez_H} {h0 : Nat} {x1 : Int32} {x2 : Int32} {x3 : Int32} (hT : tp p σ) (k_h0 : tz_C h0 = some (3, 12, 0, 0)) : tz_O2 (fun (z : Int32) (s : ez_H) => tq_iv (-2147483648) 2147483647 z ∧ tp p s) (z_X12_part σ h0 x1 x2 x3) := by
  show tz_O (fun z : Int32 × ez_H => (fun (z : Int32) (s : ez_H) => tq_iv (-2147483648) 2147483647 z ∧ tp p s) z.1 z.2) _
  unfold z_X12_part
  refine tz_bd (tz_ob hT k_h0) (fun _ _ => ?_)
  refine tz_bd (tz_X12_isLock hT k_h0) (fun t_2 ⟨i_t_2, g_t_2⟩ => ?_)
  have K_42 : tz_O (fun z : Int32 × ez_H => (fun (z : Int32) (s : ez_H) => tq_iv (-2147483648) 2147483647 z ∧ tp p s) z.1 z.2) (z_X12_part_42 σ) := by
    unfold z_X12_part_42
    exact tz_some ⟨(tq_top (-1 : Int32)), hT⟩
  refine tz_if _ (fun c7937 => ?_) (fun c7937 => ?_)
  ·
    have i1_t_2 : tq_iv 0 0 t_2 := tq_cut i_t_2 (tq_eqL c7937 tk_0) (by decide) (by decide)
    exact K_42 
  ·
    have i2_x1 : tq_iv 0 5 x1 := tq_cut (tq_top x1) (g_t_2 c7937) (by decide) (by decide)
    have i3_t_2 : tq_iv 1 1 t_2 := tq_w (tq_neLo c7937 i_t_2 tk_0) (by decide) (by decide)
    refine tz_bd (tz_X12_isChamber hT k_h0) (fun t_10 ⟨i_t_10, g_t_10⟩ => ?_)
    refine tz_if _ (fun c7935 => ?_) (fun c7935 => ?_)
    ·
      have i4_t_10 : tq_iv 0 0 t_10 := tq_cut i_t_10 (tq_eqL c7935 tk_0) (by decide) (by decide)
      exact K_42 
    ·
      have i5_x2 : tq_iv 0 4 x2 := tq_cut (tq_top x2) (g_t_10 c7935) (by decide) (by decide)
      have i6_t_10 : tq_iv 1 1 t_10 := tq_w (tq_neLo c7935 i_t_10 tk_0) (by decide) (by decide)
      refine tz_bd (tz_X12_deep hT k_h0) (fun t_19 i_t_19 => ?_)
      refine tz_let (fun t_23 e7933 => ?_)
      have i7_t_23 : tq_iv 1 5 t_23 := tq_w (tq_sub e7933 i_t_19 tk_1 (by decide) (by decide)) (by decide) (by decide)
      refine tz_bd (tz_X12_isIn hT) (fun t_24 ⟨i_t_24, g_t_24⟩ => ?_)
      refine tz_if _ (fun c7931 => ?_) (fun c7931 => ?_)
      ·
        have i8_t_24 : tq_iv 0 0 t_24 := tq_cut i_t_24 (tq_eqL c7931 tk_0) (by decide) (by decide)
        exact K_42 
      ·
        have i9_x3 : tq_iv 0 5 x3 := tq_cut (tq_top x3) (tq_cut (tq_cut (tq_top x3) (tq_leR (g_t_24 c7931).1 tk_0 (tq_top x3)) (by decide) (by decide)) (tq_leL (g_t_24 c7931).2 (tq_top x3) i7_t_23) (by decide) (by decide)) (by decide) (by decide)
        have i10_t_24 : tq_iv 1 1 t_24 := tq_w (tq_neLo c7931 i_t_24 tk_0) (by decide) (by decide)
        refine tz_bd (tz_X12_partsOf hT k_h0 i2_x1 i5_x2) (fun t_33 i_t_33 => ?_)
        refine tz_let (fun t_38 e7929 => ?_)
        have i11_t_38 : tq_iv 1 32 t_38 := tq_shl1 e7929 i9_x3 (by decide) (by decide) (by decide) (by decide)
        refine tz_if _ (fun c7928 => ?_) (fun c7928 => ?_)
        ·
          have i12_t_33 : tq_iv 1 32 t_33 := tq_cut (tq_top t_33) (tq_eqL c7928 i11_t_38) (by decide) (by decide)
          exact K_42 
        ·
          refine tz_b2 (tz_X12_keepAct hT k_h0) (fun _ σ7927 T7927 => ?_)
          refine tz_bk (tr_53 T7927 k_h0) ?_
          refine tz_let (fun t_56 e7925 => ?_)
          have i13_t_56 : tq_iv 0 25 t_56 := tq_w (tq_mul e7925 tk_5 i2_x1 (by decide) (by decide) (by decide)) (by decide) (by decide)
          refine tz_let (fun t_57 e7924 => ?_)
          have i14_t_57 : tq_iv 56 81 t_57 := tq_w (tq_add e7924 tk_56 i13_t_56 (by decide) (by decide)) (by decide) (by decide)
          refine tz_let (fun t_59 e7923 => ?_)
          have i15_t_59 : tq_iv 56 85 t_59 := tq_w (tq_add e7923 i14_t_57 i5_x2 (by decide) (by decide)) (by decide) (by decide)
          refine tz_be (tz_iaS T7927 tc_205 (ts_205 56 85 (-2147483648) 2147483647 (by decide)) i15_t_59 (by decide) (by decide)) (fun t_61 e7922 i_t_61 => ?_)
          refine tz_let (fun t_64 e7921 => ?_)
          have i16_t_64 : tq_iv 1 32 t_64 := tq_shl1 e7921 i9_x3 (by decide) (by decide) (by decide) (by decide)
          refine tz_let (fun t_65 e7920 => ?_)
          refine tz_be (tz_isS T7927 tc_205 (tS_205 56 85 (-2147483648) 2147483647 (by decide)) i15_t_59 (by decide) (by decide) (tq_top t_65)) (fun σ7919 e7919 T7919 => ?_)
          refine tz_bd (tz_X12_partsOf T7919 k_h0 i2_x1 i5_x2) (fun t_70 i_t_70 => ?_)
          exact tz_some ⟨(tq_top t_70), T7919⟩
set_option maxRecDepth 4000 in
theorem tz_X12_parts {p : tz_P} {σ : ez_H} {h0 : Nat} {x1 : Int32} {x2 : Int32} (hT : tp p σ) (k_h0 : tz_C h0 = some (3, 12, 0, 0)) : tz_O (fun z => tq_iv (-2147483648) 2147483647 z) (z_X12_parts σ h0 x1 x2) := by
  unfold z_X12_parts
  refine tz_bd (tz_ob hT k_h0) (fun _ _ => ?_)
  refine tz_bd (tz_X12_isLock hT k_h0) (fun t_2 ⟨i_t_2, g_t_2⟩ => ?_)
  have K_26 : ∀ (y0_26 : Int32), tz_O (fun (z : Int32) => tq_iv (-2147483648) 2147483647 z) (z_X12_parts_26 σ y0_26) := by
    intro y0_26
    unfold z_X12_parts_26
    exact tz_some (tq_top y0_26)
  have K_25 : tz_O (fun (z : Int32) => tq_iv (-2147483648) 2147483647 z) (z_X12_parts_25 σ) := by
    unfold z_X12_parts_25
    exact K_26 (-1 : Int32)
  refine tz_if _ (fun c7948 => ?_) (fun c7948 => ?_)
  ·
    have i1_t_2 : tq_iv 0 0 t_2 := tq_cut i_t_2 (tq_eqL c7948 tk_0) (by decide) (by decide)
    exact K_25 
  ·
    have i2_x1 : tq_iv 0 5 x1 := tq_cut (tq_top x1) (g_t_2 c7948) (by decide) (by decide)
    have i3_t_2 : tq_iv 1 1 t_2 := tq_w (tq_neLo c7948 i_t_2 tk_0) (by decide) (by decide)
    refine tz_bd (tz_X12_isChamber hT k_h0) (fun t_10 ⟨i_t_10, g_t_10⟩ => ?_)
    refine tz_if _ (fun c7946 => ?_) (fun c7946 => ?_)
    ·
      have i4_t_10 : tq_iv 0 0 t_10 := tq_cut i_t_10 (tq_eqL c7946 tk_0) (by decide) (by decide)
      exact K_25 
    ·
      have i5_x2 : tq_iv 0 4 x2 := tq_cut (tq_top x2) (g_t_10 c7946) (by decide) (by decide)
      have i6_t_10 : tq_iv 1 1 t_10 := tq_w (tq_neLo c7946 i_t_10 tk_0) (by decide) (by decide)
      refine tz_bd (tz_X12_partsOf hT k_h0 i2_x1 i5_x2) (fun t_19 i_t_19 => ?_)
      exact K_26 t_19
set_option maxRecDepth 4000 in
theorem tz_X12_person {p : tz_P} {σ : ez_H} {h0 : Nat} {x1 : Int32} {x2 : Int32} (hT : tp p σ) (k_h0 : tz_C h0 = some (3, 12, 0, 0)) : tz_O (fun z => tq_iv (-2147483648) 2147483647 z) (z_X12_person σ h0 x1 x2) := by
  unfold z_X12_person
  refine tz_bd (tz_ob hT k_h0) (fun _ _ => ?_)
  refine tz_bd (tz_X12_isPerson hT k_h0) (fun t_2 ⟨i_t_2, g_t_2⟩ => ?_)
  refine tz_if _ (fun c7964 => ?_) (fun c7964 => ?_)
  ·
    have i1_t_2 : tq_iv 0 0 t_2 := tq_cut i_t_2 (tq_eqL c7964 tk_0) (by decide) (by decide)
    exact tz_some (tq_top (-1 : Int32))
  ·
    have i2_x1 : tq_iv 0 3 x1 := tq_cut (tq_top x1) (g_t_2 c7964) (by decide) (by decide)
    have i3_t_2 : tq_iv 1 1 t_2 := tq_w (tq_neLo c7964 i_t_2 tk_0) (by decide) (by decide)
    refine tz_if _ (fun c7963 => ?_) (fun c7963 => ?_)
    ·
      have i4_x2 : tq_iv 0 0 x2 := tq_cut (tq_top x2) (tq_eqL c7963 tk_0) (by decide) (by decide)
      refine tz_bk (tr_53 hT k_h0) ?_
      refine tz_let (fun t_43 e7954 => ?_)
      have i5_t_43 : tq_iv 86 89 t_43 := tq_w (tq_add e7954 tk_86 i2_x1 (by decide) (by decide)) (by decide) (by decide)
      refine tz_be (tz_iaS hT tc_205 (ts_205 86 89 0 5 (by decide)) i5_t_43 (by decide) (by decide)) (fun t_44 e7953 i_t_44 => ?_)
      exact tz_some (tq_top t_44)
    ·
      refine tz_if _ (fun c7962 => ?_) (fun c7962 => ?_)
      ·
        have i6_x2 : tq_iv 1 1 x2 := tq_cut (tq_top x2) (tq_eqL c7962 tk_1) (by decide) (by decide)
        refine tz_bd (tz_X12_keysOf hT k_h0 i2_x1) (fun t_48 i_t_48 => ?_)
        exact tz_some (tq_top t_48)
      ·
        refine tz_if _ (fun c7961 => ?_) (fun c7961 => ?_)
        ·
          have i7_x2 : tq_iv 2 2 x2 := tq_cut (tq_top x2) (tq_eqL c7961 tk_2) (by decide) (by decide)
          refine tz_bd (tz_X12_reachOf hT k_h0 i2_x1) (fun t_54 i_t_54 => ?_)
          exact tz_some (tq_top t_54)
        ·
          exact tz_some (tq_top (-1 : Int32))
set_option maxRecDepth 4000 in
theorem tz_X12_pin {p : tz_P} {σ : ez_H} {h0 : Nat} {x1 : Int32} {x2 : Int32} (hT : tp p σ) (k_h0 : tz_C h0 = some (3, 12, 0, 0)) : tz_O2 (fun (z : Int32) (s : ez_H) => tq_iv (-2147483648) 2147483647 z ∧ tp p s) (z_X12_pin σ h0 x1 x2) := by
  show tz_O (fun z : Int32 × ez_H => (fun (z : Int32) (s : ez_H) => tq_iv (-2147483648) 2147483647 z ∧ tp p s) z.1 z.2) _
  unfold z_X12_pin
  refine tz_bd (tz_ob hT k_h0) (fun _ _ => ?_)
  refine tz_bd (tz_X12_isLock hT k_h0) (fun t_2 ⟨i_t_2, g_t_2⟩ => ?_)
  have K_27 : tz_O (fun z : Int32 × ez_H => (fun (z : Int32) (s : ez_H) => tq_iv (-2147483648) 2147483647 z ∧ tp p s) z.1 z.2) (z_X12_pin_27 σ) := by
    unfold z_X12_pin_27
    exact tz_some ⟨(tq_top (-1 : Int32)), hT⟩
  refine tz_if _ (fun c7982 => ?_) (fun c7982 => ?_)
  ·
    have i1_t_2 : tq_iv 0 0 t_2 := tq_cut i_t_2 (tq_eqL c7982 tk_0) (by decide) (by decide)
    exact K_27 
  ·
    have i2_x1 : tq_iv 0 5 x1 := tq_cut (tq_top x1) (g_t_2 c7982) (by decide) (by decide)
    have i3_t_2 : tq_iv 1 1 t_2 := tq_w (tq_neLo c7982 i_t_2 tk_0) (by decide) (by decide)
    refine tz_if _ (fun c7981 => ?_) (fun c7981 => ?_)
    ·
      have i4_x2 : tq_iv 0 0 x2 := tq_cut (tq_top x2) (tq_eqL c7981 tk_0) (by decide) (by decide)
      exact K_27 
    ·
      refine tz_bd (tz_X12_many hT k_h0) (fun t_15 i_t_15 => ?_)
      refine tz_let (fun t_18 e7979 => ?_)
      have i5_t_18 : tq_iv 1 256 t_18 := tq_shl1 e7979 i_t_15 (by decide) (by decide) (by decide) (by decide)
      refine tz_let (fun t_20 e7978 => ?_)
      have i6_t_20 : tq_iv 0 255 t_20 := tq_w (tq_sub e7978 i5_t_18 tk_1 (by decide) (by decide)) (by decide) (by decide)
      refine tz_let (fun t_22 e7977 => ?_)
      refine tz_let (fun t_23 e7976 => ?_)
      refine tz_if _ (fun c7975 => ?_) (fun c7975 => ?_)
      ·
        have i7_t_23 : tq_iv 0 0 t_23 := tq_cut (tq_top t_23) (tq_eqL c7975 tk_0) (by decide) (by decide)
        refine tz_b2 (tz_X12_keepAct hT k_h0) (fun _ σ7973 T7973 => ?_)
        refine tz_b2 (tz_X12_pinFor T7973 k_h0 i2_x1) (fun _ σ7972 T7972 => ?_)
        refine tz_bd (tz_X12_partsIn T7972 k_h0 i2_x1) (fun t_41 i_t_41 => ?_)
        exact tz_some ⟨(tq_top t_41), T7972⟩
      ·
        exact K_27
set_option maxRecDepth 4000 in
theorem tz_X12_sign {p : tz_P} {σ : ez_H} {h0 : Nat} {x1 : Int32} (hT : tp p σ) (k_h0 : tz_C h0 = some (3, 12, 0, 0)) (i_x1 : tq_iv 0 1601 x1) : tz_O (fun z => tq_iv 0 255 z) (z_X12_sign σ h0 x1) := by
  unfold z_X12_sign
  refine tz_bd (tz_ob hT k_h0) (fun _ _ => ?_)
  refine tz_be (tg_12_3 hT k_h0) (fun t_2 e7992 i_t_2 => ?_)
  have K_22 : ∀ (y0_22 : Int32), tq_iv 0 255 y0_22 → tz_O (fun (z : Int32) => tq_iv 0 255 z) (z_X12_sign_22 σ y0_22) := by
    intro y0_22 i_y0_22
    unfold z_X12_sign_22
    exact tz_some i_y0_22
  refine tz_if _ (fun c7991 => ?_) (fun c7991 => ?_)
  ·
    exact K_22 (0 : Int32) (tq_w tk_0 (by decide) (by decide))
  ·
    have i1_x1 : tq_iv 0 1599 x1 := tq_cut i_x1 (tq_ltL (tq_nle c7991) i_x1 i_t_2) (by decide) (by decide)
    have i2_t_2 : tq_iv 1 1600 t_2 := tq_cut i_t_2 (tq_ltR (tq_nle c7991) i_x1 i_t_2) (by decide) (by decide)
    refine tz_bk (tr_1 hT k_h0) ?_
    refine tz_be (tz_ia hT tc_172 (te_1 (p := p)) i1_x1 (by decide) (by decide)) (fun t_13 e7989 i_t_13 => ?_)
    refine tz_let (fun t_17 e7988 => ?_)
    have i3_t_17 : tq_iv 0 255 t_17 := tq_and2 e7988 tk_255 (by decide)
    exact K_22 t_17 i3_t_17
