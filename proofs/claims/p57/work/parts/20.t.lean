set_option maxRecDepth 4000 in
theorem tz_X6_reset {p : tz_P} {σ : ez_H} {h0 : Nat} (hT : tp p σ) (k_h0 : tz_C h0 = some (3, 6, 0, 0)) : tz_O2 (fun (z : Unit) (s : ez_H) => tp p s) (z_X6_reset σ h0) := by
  show tz_O (fun z : Unit × ez_H => (fun (z : Unit) (s : ez_H) => tp p s) z.1 z.2) _
  unfold z_X6_reset
  refine tz_bd (tz_ob hT k_h0) (fun _ _ => ?_)
  refine tz_be (tw_6_0 hT k_h0 (tq_w tk_5 (by decide) (by decide))) (fun σ4 e4 T4 => ?_)
  refine tz_be (tw_6_1 T4 k_h0 (tq_w tk_6 (by decide) (by decide))) (fun σ3 e3 T3 => ?_)
  refine tz_be (tw_6_2 T3 k_h0 (tq_w tk_5 (by decide) (by decide))) (fun σ2 e2 T2 => ?_)
  exact tz_some T2
set_option maxRecDepth 4000 in
theorem tz_X9_withLetter {p : tz_P} {σ : ez_H} {x0 : Int64} {x2 : Int32} (hT : tp p σ) (i_x2 : tq_iv (-1) 255 x2) : tz_O (fun z => True) (z_X9_withLetter σ x0 x2) := by
  unfold z_X9_withLetter
  refine tz_let (fun t_4 e86 => ?_)
  refine tz_let (fun t_8 e85 => ?_)
  have i1_t_8 : tq_iv (-98) 158 t_8 := tq_w (tq_sub e85 i_x2 tk_97 (by decide) (by decide)) (by decide) (by decide)
  refine tz_let (fun t_10 e84 => ?_)
  have i2_t_10 : tq_iv (-97) 159 t_10 := tq_w (tq_add e84 i1_t_8 tk_1 (by decide) (by decide)) (by decide) (by decide)
  refine tz_let (fun t_11 e83 => ?_)
  refine tz_let (fun t_12 e82 => ?_)
  exact tz_some trivial
set_option maxRecDepth 4000 in
theorem tz_X1_redoable {p : tz_P} {σ : ez_H} {h0 : Nat} (hT : tp p σ) (k_h0 : tz_C h0 = some (3, 1, 0, 0)) : tz_O (fun z => tq_iv (-2147483648) 2147483647 z) (z_X1_redoable σ h0) := by
  unfold z_X1_redoable
  refine tz_bd (tz_ob hT k_h0) (fun _ _ => ?_)
  refine tz_be (tg_1_3 hT k_h0) (fun t_1 e652 i_t_1 => ?_)
  refine tz_be (tg_1_2 hT k_h0) (fun t_5 e651 i_t_5 => ?_)
  refine tz_let (fun t_8 e650 => ?_)
  exact tz_some (tq_top t_8)
set_option maxRecDepth 4000 in
theorem tz_X1_undoable {p : tz_P} {σ : ez_H} {h0 : Nat} (hT : tp p σ) (k_h0 : tz_C h0 = some (3, 1, 0, 0)) : tz_O (fun z => tq_iv (-2147483648) 2147483647 z) (z_X1_undoable σ h0) := by
  unfold z_X1_undoable
  refine tz_bd (tz_ob hT k_h0) (fun _ _ => ?_)
  refine tz_be (tg_1_2 hT k_h0) (fun t_1 e655 i_t_1 => ?_)
  exact tz_some (tq_top t_1)
set_option maxRecDepth 4000 in
theorem tz_X7_look {p : tz_P} {σ : ez_H} {h0 : Nat} {x1 : Int32} (hT : tp p σ) (k_h0 : tz_C h0 = some (3, 7, 0, 0)) : tz_O (fun z => tq_iv (-2147483648) 2147483647 z) (z_X7_look σ h0 x1) := by
  unfold z_X7_look
  refine tz_bd (tz_ob hT k_h0) (fun _ _ => ?_)
  have K_20 : ∀ (y0_20 : Int32), tz_O (fun (z : Int32) => tq_iv (-2147483648) 2147483647 z) (z_X7_look_20 σ y0_20) := by
    intro y0_20
    unfold z_X7_look_20
    exact tz_some (tq_top y0_20)
  have K_19 : tz_O (fun (z : Int32) => tq_iv (-2147483648) 2147483647 z) (z_X7_look_19 σ) := by
    unfold z_X7_look_19
    exact K_20 (0 : Int32)
  refine tz_if _ (fun c665 => ?_) (fun c665 => ?_)
  ·
    have i1_x1 : tq_iv (-2147483648) (-1) x1 := tq_cut (tq_top x1) (tq_ltL c665 (tq_top x1) tk_0) (by decide) (by decide)
    exact K_19 
  ·
    have i2_x1 : tq_iv 0 2147483647 x1 := tq_cut (tq_top x1) (tq_leR (tq_nlt c665) tk_0 (tq_top x1)) (by decide) (by decide)
    refine tz_if _ (fun c664 => ?_) (fun c664 => ?_)
    ·
      have i3_x1 : tq_iv 35 2147483647 x1 := tq_cut i2_x1 (tq_leR c664 tk_35 i2_x1) (by decide) (by decide)
      exact K_19 
    ·
      have i4_x1 : tq_iv 0 34 x1 := tq_cut i2_x1 (tq_ltL (tq_nle c664) i2_x1 tk_35) (by decide) (by decide)
      refine tz_be (tg_7_0 hT k_h0) (fun t_11 e663 k_t_11 => ?_)
      refine tz_be (tz_ia hT k_t_11 (te_0 (p := p)) i4_x1 (by decide) (by decide)) (fun t_15 e662 i_t_15 => ?_)
      exact K_20 t_15
set_option maxRecDepth 4000 in
theorem tz_X7_seed {p : tz_P} {σ : ez_H} {h0 : Nat} (hT : tp p σ) (k_h0 : tz_C h0 = some (3, 7, 0, 0)) : tz_O (fun z => tq_iv (-2147483648) 2147483647 z) (z_X7_seed σ h0) := by
  unfold z_X7_seed
  refine tz_bd (tz_ob hT k_h0) (fun _ _ => ?_)
  refine tz_bd (tz_X7_look hT k_h0) (fun t_3 i_t_3 => ?_)
  exact tz_some (tq_top t_3)
set_option maxRecDepth 4000 in
theorem tz_X11_about {p : tz_P} {σ : ez_H} {h0 : Nat} {x1 : Int32} (hT : tp p σ) (k_h0 : tz_C h0 = some (3, 11, 0, 0)) : tz_O (fun z => tq_iv (-2147483648) 2147483647 z) (z_X11_about σ h0 x1) := by
  unfold z_X11_about
  refine tz_bd (tz_ob hT k_h0) (fun _ _ => ?_)
  refine tz_if _ (fun c734 => ?_) (fun c734 => ?_)
  ·
    have i1_x1 : tq_iv 0 0 x1 := tq_cut (tq_top x1) (tq_eqL c734 tk_0) (by decide) (by decide)
    refine tz_be (tg_11_3 hT k_h0) (fun t_81 e672 k_t_81 => ?_)
    refine tz_be (tg_3_3 hT k_t_81) (fun t_84 e671 i_t_84 => ?_)
    exact tz_some (tq_top t_84)
  ·
    refine tz_if _ (fun c733 => ?_) (fun c733 => ?_)
    ·
      have i2_x1 : tq_iv 1 1 x1 := tq_cut (tq_top x1) (tq_eqL c733 tk_1) (by decide) (by decide)
      refine tz_be (tg_11_3 hT k_h0) (fun t_89 e675 k_t_89 => ?_)
      refine tz_be (tg_3_4 hT k_t_89) (fun t_92 e674 i_t_92 => ?_)
      exact tz_some (tq_top t_92)
    ·
      refine tz_if _ (fun c732 => ?_) (fun c732 => ?_)
      ·
        have i3_x1 : tq_iv 2 2 x1 := tq_cut (tq_top x1) (tq_eqL c732 tk_2) (by decide) (by decide)
        refine tz_be (tg_11_3 hT k_h0) (fun t_97 e678 k_t_97 => ?_)
        refine tz_be (tg_3_5 hT k_t_97) (fun t_100 e677 i_t_100 => ?_)
        exact tz_some (tq_top t_100)
      ·
        refine tz_if _ (fun c731 => ?_) (fun c731 => ?_)
        ·
          have i4_x1 : tq_iv 3 3 x1 := tq_cut (tq_top x1) (tq_eqL c731 tk_3) (by decide) (by decide)
          refine tz_be (tg_11_3 hT k_h0) (fun t_105 e681 k_t_105 => ?_)
          refine tz_be (tg_3_6 hT k_t_105) (fun t_108 e680 i_t_108 => ?_)
          exact tz_some (tq_top t_108)
        ·
          refine tz_if _ (fun c730 => ?_) (fun c730 => ?_)
          ·
            have i5_x1 : tq_iv 4 4 x1 := tq_cut (tq_top x1) (tq_eqL c730 tk_4) (by decide) (by decide)
            refine tz_be (tg_11_3 hT k_h0) (fun t_113 e684 k_t_113 => ?_)
            refine tz_be (tg_3_7 hT k_t_113) (fun t_116 e683 i_t_116 => ?_)
            exact tz_some (tq_top t_116)
          ·
            refine tz_if _ (fun c729 => ?_) (fun c729 => ?_)
            ·
              have i6_x1 : tq_iv 5 5 x1 := tq_cut (tq_top x1) (tq_eqL c729 tk_5) (by decide) (by decide)
              refine tz_be (tg_11_4 hT k_h0) (fun t_121 e687 k_t_121 => ?_)
              refine tz_be (tg_6_0 hT k_t_121) (fun t_124 e686 i_t_124 => ?_)
              exact tz_some (tq_top t_124)
            ·
              refine tz_if _ (fun c728 => ?_) (fun c728 => ?_)
              ·
                have i7_x1 : tq_iv 6 6 x1 := tq_cut (tq_top x1) (tq_eqL c728 tk_6) (by decide) (by decide)
                refine tz_be (tg_11_4 hT k_h0) (fun t_129 e690 k_t_129 => ?_)
                refine tz_be (tg_6_1 hT k_t_129) (fun t_132 e689 i_t_132 => ?_)
                exact tz_some (tq_top t_132)
              ·
                refine tz_if _ (fun c727 => ?_) (fun c727 => ?_)
                ·
                  have i8_x1 : tq_iv 7 7 x1 := tq_cut (tq_top x1) (tq_eqL c727 tk_7) (by decide) (by decide)
                  refine tz_be (tg_11_4 hT k_h0) (fun t_137 e693 k_t_137 => ?_)
                  refine tz_be (tg_6_2 hT k_t_137) (fun t_140 e692 i_t_140 => ?_)
                  exact tz_some (tq_top t_140)
                ·
                  refine tz_if _ (fun c726 => ?_) (fun c726 => ?_)
                  ·
                    have i9_x1 : tq_iv 8 8 x1 := tq_cut (tq_top x1) (tq_eqL c726 tk_8) (by decide) (by decide)
                    refine tz_be (tg_11_5 hT k_h0) (fun t_145 e696 k_t_145 => ?_)
                    refine tz_bd (tz_X7_seed hT k_t_145) (fun t_148 i_t_148 => ?_)
                    exact tz_some (tq_top t_148)
                  ·
                    refine tz_if _ (fun c725 => ?_) (fun c725 => ?_)
                    ·
                      have i10_x1 : tq_iv 9 9 x1 := tq_cut (tq_top x1) (tq_eqL c725 tk_9) (by decide) (by decide)
                      refine tz_be (tg_11_7 hT k_h0) (fun t_153 e699 k_t_153 => ?_)
                      refine tz_bd (tz_X1_undoable hT k_t_153) (fun t_156 i_t_156 => ?_)
                      exact tz_some (tq_top t_156)
                    ·
                      refine tz_if _ (fun c724 => ?_) (fun c724 => ?_)
                      ·
                        have i11_x1 : tq_iv 10 10 x1 := tq_cut (tq_top x1) (tq_eqL c724 tk_10) (by decide) (by decide)
                        refine tz_be (tg_11_7 hT k_h0) (fun t_161 e702 k_t_161 => ?_)
                        refine tz_bd (tz_X1_redoable hT k_t_161) (fun t_164 i_t_164 => ?_)
                        exact tz_some (tq_top t_164)
                      ·
                        refine tz_if _ (fun c723 => ?_) (fun c723 => ?_)
                        ·
                          have i12_x1 : tq_iv 11 11 x1 := tq_cut (tq_top x1) (tq_eqL c723 tk_11) (by decide) (by decide)
                          refine tz_be (tg_11_14 hT k_h0) (fun t_169 e705 k_t_169 => ?_)
                          refine tz_be (tg_10_4 hT k_t_169) (fun t_172 e704 i_t_172 => ?_)
                          exact tz_some (tq_top t_172)
                        ·
                          refine tz_if _ (fun c722 => ?_) (fun c722 => ?_)
                          ·
                            have i13_x1 : tq_iv 12 12 x1 := tq_cut (tq_top x1) (tq_eqL c722 tk_12) (by decide) (by decide)
                            refine tz_be (tg_11_14 hT k_h0) (fun t_177 e708 k_t_177 => ?_)
                            refine tz_be (tg_10_5 hT k_t_177) (fun t_180 e707 i_t_180 => ?_)
                            exact tz_some (tq_top t_180)
                          ·
                            refine tz_if _ (fun c721 => ?_) (fun c721 => ?_)
                            ·
                              have i14_x1 : tq_iv 13 13 x1 := tq_cut (tq_top x1) (tq_eqL c721 tk_13) (by decide) (by decide)
                              refine tz_be (tg_11_1 hT k_h0) (fun t_185 e710 i_t_185 => ?_)
                              exact tz_some (tq_top t_185)
                            ·
                              refine tz_if _ (fun c720 => ?_) (fun c720 => ?_)
                              ·
                                have i15_x1 : tq_iv 14 14 x1 := tq_cut (tq_top x1) (tq_eqL c720 tk_14) (by decide) (by decide)
                                refine tz_be (tg_11_3 hT k_h0) (fun t_190 e714 k_t_190 => ?_)
                                refine tz_be (tg_3_1 hT k_t_190) (fun t_193 e713 k_t_193 => ?_)
                                refine tz_be (tg_0_0 hT k_t_193) (fun t_196 e712 i_t_196 => ?_)
                                exact tz_some (tq_top t_196)
                              ·
                                refine tz_if _ (fun c719 => ?_) (fun c719 => ?_)
                                ·
                                  have i16_x1 : tq_iv 15 15 x1 := tq_cut (tq_top x1) (tq_eqL c719 tk_15) (by decide) (by decide)
                                  refine tz_be (tg_11_12 hT k_h0) (fun t_201 e717 k_t_201 => ?_)
                                  refine tz_be (tg_2_5 hT k_t_201) (fun t_204 e716 i_t_204 => ?_)
                                  exact tz_some (tq_top t_204)
                                ·
                                  exact tz_some (tq_top (-1 : Int32))
set_option maxRecDepth 4000 in
theorem tz_X8_isMarked {p : tz_P} {σ : ez_H} {h0 : Nat} {x1 : Int32} {x2 : Int32} (hT : tp p σ) (k_h0 : tz_C h0 = some (3, 8, 0, 0)) (i_x1 : tq_iv 0 9 x1) : tz_O2 (fun (z : Int32) (s : ez_H) => tq_iv 0 1 z ∧ tp p s) (z_X8_isMarked σ h0 x1 x2) := by
  show tz_O (fun z : Int32 × ez_H => (fun (z : Int32) (s : ez_H) => tq_iv 0 1 z ∧ tp p s) z.1 z.2) _
  unfold z_X8_isMarked
  refine tz_bd (tz_ob hT k_h0) (fun _ _ => ?_)
  refine tz_if _ (fun c749 => ?_) (fun c749 => ?_)
  ·
    exact (tq_xlt c749 i_x1 tk_0 (by decide)).elim
  ·
    refine tz_if _ (fun c748 => ?_) (fun c748 => ?_)
    ·
      refine tz_be (tg_8_2 hT k_h0) (fun t_13 e746 k_t_13 => ?_)
      refine tz_be (tz_ia hT k_t_13 (te_0 (p := p)) i_x1 (by decide) (by decide)) (fun t_17 e745 i_t_17 => ?_)
      have K_27 : ∀ (y0_27 : Int32), tq_iv 0 1 y0_27 → tz_O (fun z : Int32 × ez_H => (fun (z : Int32) (s : ez_H) => tq_iv 0 1 z ∧ tp p s) z.1 z.2) (z_X8_isMarked_27 σ h0 x1 x2 y0_27) := by
        intro y0_27 i_y0_27
        unfold z_X8_isMarked_27
        refine tz_bk e746 ?_
        refine tz_be (tz_is hT k_t_13 (te_0 (p := p)) i_x1 (by decide) (by decide) (tq_top x2)) (fun σ739 e739 T739 => ?_)
        refine tz_nr (tq_nr_boolean i_y0_27) ?_
        exact tz_some ⟨i_y0_27, T739⟩
      refine tz_if _ (fun c744 => ?_) (fun c744 => ?_)
      ·
        exact K_27 (1 : Int32) (tq_w tk_1 (by decide) (by decide))
      ·
        exact K_27 (0 : Int32) (tq_w tk_0 (by decide) (by decide))
    ·
      exact (tq_xle (tq_nlt c748) tk_10 i_x1 (by decide)).elim
set_option maxRecDepth 4000 in
theorem tz_X7_pins {p : tz_P} {σ : ez_H} {h0 : Nat} {x1 : Int32} (hT : tp p σ) (k_h0 : tz_C h0 = some (3, 7, 0, 0)) : tz_O (fun z => tq_iv (-2147483648) 2147483647 z) (z_X7_pins σ h0 x1) := by
  unfold z_X7_pins
  refine tz_bd (tz_ob hT k_h0) (fun _ _ => ?_)
  refine tz_let (fun t_4 e753 => ?_)
  refine tz_bd (tz_X7_look hT k_h0) (fun t_5 i_t_5 => ?_)
  exact tz_some (tq_top t_5)
set_option maxRecDepth 4000 in
theorem tz_X6_notch {p : tz_P} {σ : ez_H} {x0 : Int32} {x1 : Int32} (hT : tp p σ) (i_x0 : tq_iv (-998) 998 x0) : tz_O (fun z => tq_iv (-2147483648) 2147483647 z) (z_X6_notch σ x0 x1) := by
  unfold z_X6_notch
  refine tz_let (fun t_4 e765 => ?_)
  refine tz_let (fun t_6 e764 => ?_)
  refine tz_let (fun t_7 e763 => ?_)
  exact tz_some (tq_top t_7)
set_option maxRecDepth 4000 in
theorem tz_X8_allowIn {p : tz_P} {σ : ez_H} {h0 : Nat} {x1 : Int32} {h2 : Nat} (hT : tp p σ) (k_h0 : tz_C h0 = some (3, 8, 0, 0)) (i_x1 : tq_iv 0 998 x1) (k_h2 : tz_C h2 = some (3, 7, 0, 0)) : tz_O2 (fun (z : Unit) (s : ez_H) => tp p s) (z_X8_allowIn σ h0 x1 h2) := by
  show tz_O (fun z : Unit × ez_H => (fun (z : Unit) (s : ez_H) => tp p s) z.1 z.2) _
  unfold z_X8_allowIn
  refine tz_bd (tz_ob hT k_h0) (fun _ _ => ?_)
  have L_2 : ∀ (n_2 : Nat) (k_2 : ez_H → Nat → Int32 → Nat → Int32 → Option (Unit × ez_H)), (∀ (σ_2 : ez_H) (x3_2 : Int32), tp p σ_2 → tq_iv 0 6 x3_2 → (2147483647 - x3_2.toInt).toNat < n_2 → tz_O (fun z : Unit × ez_H => (fun (z : Unit) (s : ez_H) => tp p s) z.1 z.2) (k_2 σ_2 h0 x1 h2 x3_2)) → ∀ (σ_2 : ez_H) (x3_2 : Int32), tp p σ_2 → tq_iv 0 6 x3_2 → (2147483647 - x3_2.toInt).toNat < n_2 + 1 → tz_O (fun z : Unit × ez_H => (fun (z : Unit) (s : ez_H) => tp p s) z.1 z.2) (z_X8_allowIn_2 k_2 σ_2 h0 x1 h2 x3_2) := by
    intro n_2 k_2 hk_2 σ_2 x3_2 T_σ_2 i_x3_2 hn_2
    unfold z_X8_allowIn_2
    refine tz_if _ (fun c785 => ?_) (fun c785 => ?_)
    ·
      have i1_x3_2 : tq_iv 6 6 x3_2 := tq_cut i_x3_2 (tq_leR c785 tk_6 i_x3_2) (by decide) (by decide)
      exact tz_some T_σ_2
    ·
      have i2_x3_2 : tq_iv 0 5 x3_2 := tq_cut i_x3_2 (tq_ltL (tq_nle c785) i_x3_2 tk_6) (by decide) (by decide)
      have L_14 : ∀ (n_14 : Nat) (k_14 : ez_H → Nat → Int32 → Nat → Int32 → Int32 → Int32 → Option (Unit × ez_H)), (∀ (x4_14 : Int32) (x5_14 : Int32), tq_iv 0 2147483647 x5_14 → (2147483647 - x5_14.toInt).toNat < n_14 → tz_O (fun z : Unit × ez_H => (fun (z : Unit) (s : ez_H) => tp p s) z.1 z.2) (k_14 σ_2 h0 x1 h2 x3_2 x4_14 x5_14)) → ∀ (x4_14 : Int32) (x5_14 : Int32), tq_iv 0 2147483647 x5_14 → (2147483647 - x5_14.toInt).toNat < n_14 + 1 → tz_O (fun z : Unit × ez_H => (fun (z : Unit) (s : ez_H) => tp p s) z.1 z.2) (z_X8_allowIn_14 k_2 k_14 σ_2 h0 x1 h2 x3_2 x4_14 x5_14) := by
        intro n_14 k_14 hk_14 x4_14 x5_14 i_x5_14 hn_14
        unfold z_X8_allowIn_14
        refine tz_be (tg_8_0 T_σ_2 k_h0) (fun t_17 e782 k_t_17 => ?_)
        refine tz_be (tg_3_4 T_σ_2 k_t_17) (fun t_20 e781 i_t_20 => ?_)
        refine tz_if _ (fun c780 => ?_) (fun c780 => ?_)
        ·
          refine tz_be (tg_8_3 T_σ_2 k_h0) (fun t_57 e771 k_t_57 => ?_)
          refine tz_be (tz_is T_σ_2 k_t_57 (te_0 (p := p)) i2_x3_2 (by decide) (by decide) (tq_top x4_14)) (fun σ770 e770 T770 => ?_)
          refine tz_let (fun t_64 e769 => ?_)
          have i3_t_64 : tq_iv 1 6 t_64 := tq_w (tq_add e769 i2_x3_2 tk_1 (by decide) (by decide)) (by decide) (by decide)
          exact hk_2 σ770 t_64 T770 (tq_w i3_t_64 (by decide) (by decide)) (tq_up e769 i2_x3_2 tk_1 (by decide) (by decide) hn_2)
        ·
          have i4_x5_14 : tq_iv 0 2147483646 x5_14 := tq_cut i_x5_14 (tq_ltL (tq_nle c780) i_x5_14 (tq_top t_20)) (by decide) (by decide)
          have i5_t_20 : tq_iv 1 2147483647 t_20 := tq_cut (tq_top t_20) (tq_ltR (tq_nle c780) i_x5_14 (tq_top t_20)) (by decide) (by decide)
          refine tz_bd (tz_X7_pins T_σ_2 k_h2) (fun t_29 i_t_29 => ?_)
          refine tz_bd (tz_X6_notch T_σ_2 (tq_w i_x1 (by decide) (by decide))) (fun t_34 i_t_34 => ?_)
          refine tz_let (fun t_37 e777 => ?_)
          have K_50 : ∀ (x4_50 : Int32), tz_O (fun z : Unit × ez_H => (fun (z : Unit) (s : ez_H) => tp p s) z.1 z.2) (z_X8_allowIn_50 k_2 k_14 σ_2 h0 x1 h2 x3_2 x4_50 x5_14) := by
            intro x4_50
            unfold z_X8_allowIn_50
            refine tz_let (fun t_50 e767 => ?_)
            have i6_t_50 : tq_iv 1 2147483647 t_50 := tq_w (tq_add e767 i4_x5_14 tk_1 (by decide) (by decide)) (by decide) (by decide)
            exact hk_14 x4_50 t_50 (tq_w i6_t_50 (by decide) (by decide)) (tq_up e767 i4_x5_14 tk_1 (by decide) (by decide) hn_14)
          refine tz_if _ (fun c776 => ?_) (fun c776 => ?_)
          ·
            have i7_t_37 : tq_iv 0 0 t_37 := tq_cut (tq_top t_37) (tq_eqL c776 tk_0) (by decide) (by decide)
            exact K_50 x4_14
          ·
            refine tz_let (fun t_46 e775 => ?_)
            refine tz_let (fun t_47 e774 => ?_)
            exact K_50 t_47
      have E_14 : ∀ (x4_14 : Int32) (x5_14 : Int32), tq_iv 0 2147483647 x5_14 → tz_O (fun z : Unit × ez_H => (fun (z : Unit) (s : ez_H) => tp p s) z.1 z.2) (ez_fix (fun _ _ _ _ _ _ _ => none) (z_X8_allowIn_14 k_2) ez_N σ_2 h0 x1 h2 x3_2 x4_14 x5_14) := by
        intro x4_14 x5_14 i_x5_14
        exact ez_fix_indn (fun n_14 (k_14 : ez_H → Nat → Int32 → Nat → Int32 → Int32 → Int32 → Option (Unit × ez_H)) => ∀ (x4_14 : Int32) (x5_14 : Int32), tq_iv 0 2147483647 x5_14 → (2147483647 - x5_14.toInt).toNat < n_14 → tz_O (fun z : Unit × ez_H => (fun (z : Unit) (s : ez_H) => tp p s) z.1 z.2) (k_14 σ_2 h0 x1 h2 x3_2 x4_14 x5_14)) (by intros; rename_i h; exact absurd h (Nat.not_lt_zero _)) L_14 ez_N x4_14 x5_14 i_x5_14 (tq_m0 x5_14)
      exact E_14 (0 : Int32) (0 : Int32) (tq_w tk_0 (by decide) (by decide))
  have E_2 : ∀ (σ_2 : ez_H) (x3_2 : Int32), tp p σ_2 → tq_iv 0 6 x3_2 → tz_O (fun z : Unit × ez_H => (fun (z : Unit) (s : ez_H) => tp p s) z.1 z.2) (ez_fix (fun _ _ _ _ _ => none) (z_X8_allowIn_2) ez_N σ_2 h0 x1 h2 x3_2) := by
    intro σ_2 x3_2 T_σ_2 i_x3_2
    exact ez_fix_indn (fun n_2 (k_2 : ez_H → Nat → Int32 → Nat → Int32 → Option (Unit × ez_H)) => ∀ (σ_2 : ez_H) (x3_2 : Int32), tp p σ_2 → tq_iv 0 6 x3_2 → (2147483647 - x3_2.toInt).toNat < n_2 → tz_O (fun z : Unit × ez_H => (fun (z : Unit) (s : ez_H) => tp p s) z.1 z.2) (k_2 σ_2 h0 x1 h2 x3_2)) (by intros; rename_i h; exact absurd h (Nat.not_lt_zero _)) L_2 ez_N σ_2 x3_2 T_σ_2 i_x3_2 (tq_m0 x3_2)
  exact E_2 σ (0 : Int32) hT (tq_w tk_0 (by decide) (by decide))
set_option maxRecDepth 4000 in
theorem tz_X8_add {p : tz_P} {σ : ez_H} {h0 : Nat} {x1 : Int32} {x2 : Int32} {x3 : Int32} {x4 : Int32} {x5 : Int32} (hT : tp p σ) (k_h0 : tz_C h0 = some (3, 8, 0, 0)) (i_x1 : tq_iv 0 5 x1) : tz_O2 (fun (z : Unit) (s : ez_H) => tp p s) (z_X8_add σ h0 x1 x2 x3 x4 x5) := by
  show tz_O (fun z : Unit × ez_H => (fun (z : Unit) (s : ez_H) => tp p s) z.1 z.2) _
  unfold z_X8_add
  refine tz_bd (tz_ob hT k_h0) (fun _ _ => ?_)
  refine tz_let (fun t_3 e820 => ?_)
  have i1_t_3 : tq_iv 0 320 t_3 := tq_w (tq_mul e820 i_x1 tk_64 (by decide) (by decide) (by decide)) (by decide) (by decide)
  refine tz_let (fun t_5 e819 => ?_)
  have K_21 : tz_O (fun z : Unit × ez_H => (fun (z : Unit) (s : ez_H) => tp p s) z.1 z.2) (z_X8_add_21 σ) := by
    unfold z_X8_add_21
    exact tz_some hT
  refine tz_if _ (fun c818 => ?_) (fun c818 => ?_)
  ·
    have i2_t_5 : tq_iv (-2147483648) (-1) t_5 := tq_cut (tq_top t_5) (tq_ltL c818 (tq_top t_5) tk_0) (by decide) (by decide)
    exact K_21 
  ·
    have i3_t_5 : tq_iv 0 2147483647 t_5 := tq_cut (tq_top t_5) (tq_leR (tq_nlt c818) tk_0 (tq_top t_5)) (by decide) (by decide)
    refine tz_if _ (fun c817 => ?_) (fun c817 => ?_)
    ·
      have i4_t_5 : tq_iv 0 383 t_5 := tq_cut i3_t_5 (tq_ltL c817 i3_t_5 tk_384) (by decide) (by decide)
      refine tz_be (tg_8_7 hT k_h0) (fun t_23 e815 k_t_23 => ?_)
      refine tz_be (tz_ia hT k_t_23 (te_0 (p := p)) i4_t_5 (by decide) (by decide)) (fun t_28 e814 i_t_28 => ?_)
      have K_37 : ∀ (y0_37 : Int32), tq_iv 0 1 y0_37 → (¬ y0_37 = 0 → tq_iv 0 0 t_28) → tz_O (fun z : Unit × ez_H => (fun (z : Unit) (s : ez_H) => tp p s) z.1 z.2) (z_X8_add_37 σ h0 x3 x4 x5 t_5 y0_37) := by
        intro y0_37 i_y0_37 g37_y0_37_t_28
        unfold z_X8_add_37
        refine tz_be (tg_8_8 hT k_h0) (fun t_40 e809 k_t_40 => ?_)
        have K_67 : ∀ (y2_67 : Int32), tz_O (fun z : Unit × ez_H => (fun (z : Unit) (s : ez_H) => tp p s) z.1 z.2) (z_X8_add_67 σ h0 x3 x5 t_5 y0_37 t_40 t_5 y2_67) := by
          intro y2_67
          unfold z_X8_add_67
          refine tz_be (tz_is hT k_t_40 (te_0 (p := p)) i4_t_5 (by decide) (by decide) (tq_top y2_67)) (fun σ802 e802 T802 => ?_)
          refine tz_be (tg_8_9 T802 k_h0) (fun t_69 e801 k_t_69 => ?_)
          have K_94 : ∀ (y2_94 : Int32), tz_O (fun z : Unit × ez_H => (fun (z : Unit) (s : ez_H) => tp p s) z.1 z.2) (z_X8_add_94 σ802 h0 x3 t_5 t_69 t_5 y2_94) := by
            intro y2_94
            unfold z_X8_add_94
            refine tz_be (tz_is T802 k_t_69 (te_0 (p := p)) i4_t_5 (by decide) (by decide) (tq_top y2_94)) (fun σ794 e794 T794 => ?_)
            refine tz_bk ((fr_is_gr e794).trans ((fr_is_gr e802).trans e815)) ?_
            refine tz_be (tz_ia T794 k_t_23 (te_0 (p := p)) i4_t_5 (by decide) (by decide)) (fun t_102 e792 i_t_102 => ?_)
            refine tz_let (fun t_104 e791 => ?_)
            refine tz_be (tz_is T794 k_t_23 (te_0 (p := p)) i4_t_5 (by decide) (by decide) (tq_top t_104)) (fun σ790 e790 T790 => ?_)
            exact tz_some T790
          refine tz_if _ (fun c800 => ?_) (fun c800 => ?_)
          ·
            have i5_y0_37 : tq_iv 0 0 y0_37 := tq_cut i_y0_37 (tq_eqL c800 tk_0) (by decide) (by decide)
            refine tz_bk e801 ?_
            refine tz_be (tz_ia T802 k_t_69 (te_0 (p := p)) i4_t_5 (by decide) (by decide)) (fun t_90 e797 i_t_90 => ?_)
            refine tz_let (fun t_93 e796 => ?_)
            exact K_94 t_93
          ·
            have i6_t_28 : tq_iv 0 0 t_28 := tq_cut (tq_top t_28) (g37_y0_37_t_28 c800) (by decide) (by decide)
            have i7_y0_37 : tq_iv 1 1 y0_37 := tq_w (tq_neLo c800 i_y0_37 tk_0) (by decide) (by decide)
            exact K_94 x5
        refine tz_if _ (fun c808 => ?_) (fun c808 => ?_)
        ·
          have i8_y0_37 : tq_iv 0 0 y0_37 := tq_cut i_y0_37 (tq_eqL c808 tk_0) (by decide) (by decide)
          refine tz_bk e809 ?_
          refine tz_be (tz_ia hT k_t_40 (te_0 (p := p)) i4_t_5 (by decide) (by decide)) (fun t_61 e805 i_t_61 => ?_)
          refine tz_let (fun t_64 e804 => ?_)
          exact K_67 t_64
        ·
          have i9_t_28 : tq_iv 0 0 t_28 := tq_cut (tq_top t_28) (g37_y0_37_t_28 c808) (by decide) (by decide)
          have i10_y0_37 : tq_iv 1 1 y0_37 := tq_w (tq_neLo c808 i_y0_37 tk_0) (by decide) (by decide)
          exact K_67 x4
      refine tz_if _ (fun c813 => ?_) (fun c813 => ?_)
      ·
        have i11_t_28 : tq_iv 0 0 t_28 := tq_cut (tq_top t_28) (tq_eqL c813 tk_0) (by decide) (by decide)
        exact K_37 (1 : Int32) (tq_w tk_1 (by decide) (by decide)) (fun _ => i11_t_28)
      ·
        exact K_37 (0 : Int32) (tq_w tk_0 (by decide) (by decide)) (fun h => absurd rfl h)
    ·
      have i12_t_5 : tq_iv 384 2147483647 t_5 := tq_cut i3_t_5 (tq_leR (tq_nlt c817) tk_384 i3_t_5) (by decide) (by decide)
      exact K_21
set_option maxRecDepth 4000 in
theorem tz_X8_changeOver {p : tz_P} {σ : ez_H} {h0 : Nat} (hT : tp p σ) (k_h0 : tz_C h0 = some (3, 8, 0, 0)) : tz_O2 (fun (z : Unit) (s : ez_H) => tp p s) (z_X8_changeOver σ h0) := by
  show tz_O (fun z : Unit × ez_H => (fun (z : Unit) (s : ez_H) => tp p s) z.1 z.2) _
  unfold z_X8_changeOver
  refine tz_bd (tz_ob hT k_h0) (fun _ _ => ?_)
  refine tz_be (tg_8_4 hT k_h0) (fun t_1 e834 k_t_1 => ?_)
  refine tz_be (tg_8_7 hT k_h0) (fun t_7 e833 k_t_7 => ?_)
  refine tz_be (tz_pfr hT k_h0 (tf_8_4 (p := p)) k_t_7) (fun σ832 e832 T832 => ?_)
  refine tz_be (tz_pfr T832 k_h0 (tf_8_7 (p := p)) k_t_1) (fun σ831 e831 T831 => ?_)
  refine tz_be (tg_8_5 T831 k_h0) (fun t_19 e830 k_t_19 => ?_)
  refine tz_be (tg_8_8 T831 k_h0) (fun t_25 e829 k_t_25 => ?_)
  refine tz_be (tz_pfr T831 k_h0 (tf_8_5 (p := p)) k_t_25) (fun σ828 e828 T828 => ?_)
  refine tz_be (tz_pfr T828 k_h0 (tf_8_8 (p := p)) k_t_19) (fun σ827 e827 T827 => ?_)
  refine tz_be (tg_8_6 T827 k_h0) (fun t_37 e826 k_t_37 => ?_)
  refine tz_be (tg_8_9 T827 k_h0) (fun t_43 e825 k_t_43 => ?_)
  refine tz_be (tz_pfr T827 k_h0 (tf_8_6 (p := p)) k_t_43) (fun σ824 e824 T824 => ?_)
  refine tz_be (tz_pfr T824 k_h0 (tf_8_9 (p := p)) k_t_37) (fun σ823 e823 T823 => ?_)
  exact tz_some T823
set_option maxRecDepth 4000 in
theorem tz_X6_lowest {p : tz_P} {σ : ez_H} {h0 : Nat} {x1 : Int32} (hT : tp p σ) (k_h0 : tz_C h0 = some (3, 6, 0, 0)) : tz_O (fun z => tq_iv 0 2147483647 z) (z_X6_lowest σ h0 x1) := by
  unfold z_X6_lowest
  refine tz_bd (tz_ob hT k_h0) (fun _ _ => ?_)
  refine tz_be (tg_6_2 hT k_h0) (fun t_3 e839 i_t_3 => ?_)
  refine tz_let (fun t_6 e838 => ?_)
  refine tz_let (fun t_7 e837 => ?_)
  have i1_t_7 : tq_iv 0 2147483647 t_7 := tq_w (tq_max e837 tk_0 (tq_top t_6)) (by decide) (by decide)
  exact tz_some i1_t_7
set_option maxRecDepth 4000 in
theorem tz_X6_highest {p : tz_P} {σ : ez_H} {h0 : Nat} {x1 : Int32} (hT : tp p σ) (k_h0 : tz_C h0 = some (3, 6, 0, 0)) : tz_O (fun z => tq_iv (-2147483648) 998 z) (z_X6_highest σ h0 x1) := by
  unfold z_X6_highest
  refine tz_bd (tz_ob hT k_h0) (fun _ _ => ?_)
  refine tz_be (tg_6_1 hT k_h0) (fun t_1 e846 i_t_1 => ?_)
  refine tz_let (fun t_5 e845 => ?_)
  have i1_t_5 : tq_iv (-1) 998 t_5 := tq_w (tq_sub e845 i_t_1 tk_1 (by decide) (by decide)) (by decide) (by decide)
  refine tz_be (tg_6_2 hT k_h0) (fun t_8 e844 i_t_8 => ?_)
  refine tz_let (fun t_11 e843 => ?_)
  refine tz_let (fun t_12 e842 => ?_)
  have i2_t_12 : tq_iv (-2147483648) 998 t_12 := tq_w (tq_min e842 i1_t_5 (tq_top t_11)) (by decide) (by decide)
  exact tz_some i2_t_12
set_option maxRecDepth 4000 in
theorem tz_X8_addChamber {p : tz_P} {σ : ez_H} {h0 : Nat} {x1 : Int32} (hT : tp p σ) (k_h0 : tz_C h0 = some (3, 8, 0, 0)) (i_x1 : tq_iv 1 998 x1) : tz_O2 (fun (z : Unit) (s : ez_H) => tp p s) (z_X8_addChamber σ h0 x1) := by
  show tz_O (fun z : Unit × ez_H => (fun (z : Unit) (s : ez_H) => tp p s) z.1 z.2) _
  unfold z_X8_addChamber
  refine tz_bd (tz_ob hT k_h0) (fun _ _ => ?_)
  refine tz_be (tg_8_7 hT k_h0) (fun t_1 e890 k_t_1 => ?_)
  refine tz_b2 (tz_J7_fill_53178 hT k_t_1) (fun _ σ889 T889 => ?_)
  have L_10 : ∀ (n_10 : Nat) (k_10 : ez_H → Nat → Int32 → Int32 → Option (Unit × ez_H)), (∀ (σ_10 : ez_H) (x2_10 : Int32), tp p σ_10 → tq_iv 0 384 x2_10 → (2147483647 - x2_10.toInt).toNat < n_10 → tz_O (fun z : Unit × ez_H => (fun (z : Unit) (s : ez_H) => tp p s) z.1 z.2) (k_10 σ_10 h0 x1 x2_10)) → ∀ (σ_10 : ez_H) (x2_10 : Int32), tp p σ_10 → tq_iv 0 384 x2_10 → (2147483647 - x2_10.toInt).toNat < n_10 + 1 → tz_O (fun z : Unit × ez_H => (fun (z : Unit) (s : ez_H) => tp p s) z.1 z.2) (z_X8_addChamber_10 k_10 σ_10 h0 x1 x2_10) := by
    intro n_10 k_10 hk_10 σ_10 x2_10 T_σ_10 i_x2_10 hn_10
    unfold z_X8_addChamber_10
    refine tz_if _ (fun c887 => ?_) (fun c887 => ?_)
    ·
      have i1_x2_10 : tq_iv 384 384 x2_10 := tq_cut i_x2_10 (tq_leR c887 tk_384 i_x2_10) (by decide) (by decide)
      refine tz_b2 (tz_X8_changeOver T_σ_10 k_h0) (fun _ σ877 T877 => ?_)
      exact tz_some T877
    ·
      have i2_x2_10 : tq_iv 0 383 x2_10 := tq_cut i_x2_10 (tq_ltL (tq_nle c887) i_x2_10 tk_384) (by decide) (by decide)
      refine tz_be (tg_8_4 T_σ_10 k_h0) (fun t_18 e886 k_t_18 => ?_)
      refine tz_be (tz_ia T_σ_10 k_t_18 (te_0 (p := p)) i2_x2_10 (by decide) (by decide)) (fun t_22 e885 i_t_22 => ?_)
      have K_121 : ∀ (σ_121 : ez_H), tp p σ_121 → tz_O (fun z : Unit × ez_H => (fun (z : Unit) (s : ez_H) => tp p s) z.1 z.2) (z_X8_addChamber_121 k_10 σ_121 h0 x1 x2_10) := by
        intro σ_121 T_σ_121
        unfold z_X8_addChamber_121
        refine tz_let (fun t_121 e849 => ?_)
        have i3_t_121 : tq_iv 1 384 t_121 := tq_w (tq_add e849 i2_x2_10 tk_1 (by decide) (by decide)) (by decide) (by decide)
        exact hk_10 σ_121 t_121 T_σ_121 (tq_w i3_t_121 (by decide) (by decide)) (tq_up e849 i2_x2_10 tk_1 (by decide) (by decide) hn_10)
      refine tz_if _ (fun c884 => ?_) (fun c884 => ?_)
      ·
        have i4_t_22 : tq_iv (-2147483648) 0 t_22 := tq_cut (tq_top t_22) (tq_leL c884 (tq_top t_22) tk_0) (by decide) (by decide)
        exact K_121 σ_10 T_σ_10
      ·
        have i5_t_22 : tq_iv 1 2147483647 t_22 := tq_cut (tq_top t_22) (tq_ltR (tq_nle c884) tk_0 (tq_top t_22)) (by decide) (by decide)
        refine tz_nz (tq_nz tk_64 (by decide)) ?_
        refine tz_let (fun t_29 e882 => ?_)
        have i6_t_29 : tq_iv 0 383 t_29 := tq_div e882 i2_x2_10 tk_64 (by decide) (by decide)
        refine tz_be (tg_8_1 T_σ_10 k_h0) (fun t_32 e881 k_t_32 => ?_)
        refine tz_bd (tz_X6_lowest T_σ_10 k_t_32) (fun t_36 i_t_36 => ?_)
        have L_41 : ∀ (n_41 : Nat) (k_41 : ez_H → Nat → Int32 → Int32 → Int32 → Int32 → Option (Unit × ez_H)), (∀ (σ_41 : ez_H) (x4_41 : Int32), tp p σ_41 → tq_iv 0 2147483647 x4_41 → (2147483647 - x4_41.toInt).toNat < n_41 → tz_O (fun z : Unit × ez_H => (fun (z : Unit) (s : ez_H) => tp p s) z.1 z.2) (k_41 σ_41 h0 x1 x2_10 t_29 x4_41)) → ∀ (σ_41 : ez_H) (x4_41 : Int32), tp p σ_41 → tq_iv 0 2147483647 x4_41 → (2147483647 - x4_41.toInt).toNat < n_41 + 1 → tz_O (fun z : Unit × ez_H => (fun (z : Unit) (s : ez_H) => tp p s) z.1 z.2) (z_X8_addChamber_41 k_10 k_41 σ_41 h0 x1 x2_10 t_29 x4_41) := by
          intro n_41 k_41 hk_41 σ_41 x4_41 T_σ_41 i_x4_41 hn_41
          unfold z_X8_addChamber_41
          refine tz_be (tg_8_1 T_σ_41 k_h0) (fun t_44 e875 k_t_44 => ?_)
          refine tz_bd (tz_X6_highest T_σ_41 k_t_44) (fun t_48 i_t_48 => ?_)
          refine tz_if _ (fun c873 => ?_) (fun c873 => ?_)
          ·
            exact K_121 σ_41 T_σ_41
          ·
            have i7_x4_41 : tq_iv 0 998 x4_41 := tq_cut i_x4_41 (tq_leL (tq_nlt c873) i_x4_41 i_t_48) (by decide) (by decide)
            have i8_t_48 : tq_iv 0 998 t_48 := tq_cut i_t_48 (tq_leR (tq_nlt c873) i_x4_41 i_t_48) (by decide) (by decide)
            refine tz_if _ (fun c872 => ?_) (fun c872 => ?_)
            ·
              have i9_x4_41 : tq_iv 6 998 x4_41 := tq_cut i7_x4_41 (tq_leR c872 tk_6 i7_x4_41) (by decide) (by decide)
              exact K_121 σ_41 T_σ_41
            ·
              have i10_x4_41 : tq_iv 0 5 x4_41 := tq_cut i7_x4_41 (tq_ltL (tq_nle c872) i7_x4_41 tk_6) (by decide) (by decide)
              refine tz_nz (tq_nz tk_64 (by decide)) ?_
              refine tz_let (fun t_67 e870 => ?_)
              have i11_t_67 : tq_iv 0 63 t_67 := tq_rem2 e870 i2_x2_10 tk_64 (by decide) (by decide)
              refine tz_be (tg_8_3 T_σ_41 k_h0) (fun t_69 e869 k_t_69 => ?_)
              refine tz_be (tz_ia T_σ_41 k_t_69 (te_0 (p := p)) i10_x4_41 (by decide) (by decide)) (fun t_74 e868 i_t_74 => ?_)
              refine tz_let (fun t_75 e867 => ?_)
              have i12_t_75 : tq_iv 0 63 t_75 := tq_and1 e867 i11_t_67 (by decide)
              refine tz_be (tg_8_4 T_σ_41 k_h0) (fun t_77 e866 k_t_77 => ?_)
              refine tz_be (tz_ia T_σ_41 k_t_77 (te_0 (p := p)) i2_x2_10 (by decide) (by decide)) (fun t_81 e865 i_t_81 => ?_)
              refine tz_be (tg_8_5 T_σ_41 k_h0) (fun t_83 e864 k_t_83 => ?_)
              refine tz_be (tz_ia T_σ_41 k_t_83 (te_0 (p := p)) i2_x2_10 (by decide) (by decide)) (fun t_87 e863 i_t_87 => ?_)
              refine tz_bk e875 ?_
              refine tz_be (tg_6_1 T_σ_41 k_t_44) (fun t_92 e861 i_t_92 => ?_)
              refine tz_let (fun t_95 e860 => ?_)
              refine tz_let (fun t_98 e859 => ?_)
              refine tz_be (tg_8_6 T_σ_41 k_h0) (fun t_100 e858 k_t_100 => ?_)
              refine tz_be (tz_ia T_σ_41 k_t_100 (te_0 (p := p)) i2_x2_10 (by decide) (by decide)) (fun t_104 e857 i_t_104 => ?_)
              refine tz_bd (tz_X6_notch T_σ_41 (tq_w i_x1 (by decide) (by decide))) (fun t_108 i_t_108 => ?_)
              refine tz_let (fun t_111 e855 => ?_)
              refine tz_b2 (tz_X8_add T_σ_41 k_h0 i10_x4_41) (fun _ σ854 T854 => ?_)
              refine tz_let (fun t_115 e853 => ?_)
              have i13_t_115 : tq_iv 1 6 t_115 := tq_w (tq_add e853 i10_x4_41 tk_1 (by decide) (by decide)) (by decide) (by decide)
              exact hk_41 σ854 t_115 T854 (tq_w i13_t_115 (by decide) (by decide)) (tq_up e853 i10_x4_41 tk_1 (by decide) (by decide) hn_41)
        have E_41 : ∀ (σ_41 : ez_H) (x4_41 : Int32), tp p σ_41 → tq_iv 0 2147483647 x4_41 → tz_O (fun z : Unit × ez_H => (fun (z : Unit) (s : ez_H) => tp p s) z.1 z.2) (ez_fix (fun _ _ _ _ _ _ => none) (z_X8_addChamber_41 k_10) ez_N σ_41 h0 x1 x2_10 t_29 x4_41) := by
          intro σ_41 x4_41 T_σ_41 i_x4_41
          exact ez_fix_indn (fun n_41 (k_41 : ez_H → Nat → Int32 → Int32 → Int32 → Int32 → Option (Unit × ez_H)) => ∀ (σ_41 : ez_H) (x4_41 : Int32), tp p σ_41 → tq_iv 0 2147483647 x4_41 → (2147483647 - x4_41.toInt).toNat < n_41 → tz_O (fun z : Unit × ez_H => (fun (z : Unit) (s : ez_H) => tp p s) z.1 z.2) (k_41 σ_41 h0 x1 x2_10 t_29 x4_41)) (by intros; rename_i h; exact absurd h (Nat.not_lt_zero _)) L_41 ez_N σ_41 x4_41 T_σ_41 i_x4_41 (tq_m0 x4_41)
        exact E_41 σ_10 t_36 T_σ_10 i_t_36
  have E_10 : ∀ (σ_10 : ez_H) (x2_10 : Int32), tp p σ_10 → tq_iv 0 384 x2_10 → tz_O (fun z : Unit × ez_H => (fun (z : Unit) (s : ez_H) => tp p s) z.1 z.2) (ez_fix (fun _ _ _ _ => none) (z_X8_addChamber_10) ez_N σ_10 h0 x1 x2_10) := by
    intro σ_10 x2_10 T_σ_10 i_x2_10
    exact ez_fix_indn (fun n_10 (k_10 : ez_H → Nat → Int32 → Int32 → Option (Unit × ez_H)) => ∀ (σ_10 : ez_H) (x2_10 : Int32), tp p σ_10 → tq_iv 0 384 x2_10 → (2147483647 - x2_10.toInt).toNat < n_10 → tz_O (fun z : Unit × ez_H => (fun (z : Unit) (s : ez_H) => tp p s) z.1 z.2) (k_10 σ_10 h0 x1 x2_10)) (by intros; rename_i h; exact absurd h (Nat.not_lt_zero _)) L_10 ez_N σ_10 x2_10 T_σ_10 i_x2_10 (tq_m0 x2_10)
  exact E_10 σ889 (0 : Int32) T889 (tq_w tk_0 (by decide) (by decide))
set_option maxRecDepth 4000 in
theorem tz_X8_gather {p : tz_P} {σ : ez_H} {h0 : Nat} (hT : tp p σ) (k_h0 : tz_C h0 = some (3, 8, 0, 0)) : tz_O2 (fun (z : Unit) (s : ez_H) => tp p s) (z_X8_gather σ h0) := by
  show tz_O (fun z : Unit × ez_H => (fun (z : Unit) (s : ez_H) => tp p s) z.1 z.2) _
  unfold z_X8_gather
  refine tz_bd (tz_ob hT k_h0) (fun _ _ => ?_)
  refine tz_be (tg_8_10 hT k_h0) (fun t_1 e940 k_t_1 => ?_)
  refine tz_b2 (tz_J7_fill_53178 hT k_t_1) (fun _ σ939 T939 => ?_)
  have L_10 : ∀ (n_10 : Nat) (k_10 : ez_H → Nat → Int32 → Option (Unit × ez_H)), (∀ (σ_10 : ez_H) (x1_10 : Int32), tp p σ_10 → tq_iv 0 384 x1_10 → (2147483647 - x1_10.toInt).toNat < n_10 → tz_O (fun z : Unit × ez_H => (fun (z : Unit) (s : ez_H) => tp p s) z.1 z.2) (k_10 σ_10 h0 x1_10)) → ∀ (σ_10 : ez_H) (x1_10 : Int32), tp p σ_10 → tq_iv 0 384 x1_10 → (2147483647 - x1_10.toInt).toNat < n_10 + 1 → tz_O (fun z : Unit × ez_H => (fun (z : Unit) (s : ez_H) => tp p s) z.1 z.2) (z_X8_gather_10 k_10 σ_10 h0 x1_10) := by
    intro n_10 k_10 hk_10 σ_10 x1_10 T_σ_10 i_x1_10 hn_10
    unfold z_X8_gather_10
    refine tz_if _ (fun c937 => ?_) (fun c937 => ?_)
    ·
      have i1_x1_10 : tq_iv 384 384 x1_10 := tq_cut i_x1_10 (tq_leR c937 tk_384 i_x1_10) (by decide) (by decide)
      exact tz_some T_σ_10
    ·
      have i2_x1_10 : tq_iv 0 383 x1_10 := tq_cut i_x1_10 (tq_ltL (tq_nle c937) i_x1_10 tk_384) (by decide) (by decide)
      refine tz_nz (tq_nz tk_64 (by decide)) ?_
      refine tz_let (fun t_20 e935 => ?_)
      have i3_t_20 : tq_iv 0 63 t_20 := tq_rem2 e935 i2_x1_10 tk_64 (by decide) (by decide)
      refine tz_be (tg_8_4 T_σ_10 k_h0) (fun t_23 e934 k_t_23 => ?_)
      refine tz_be (tz_ia T_σ_10 k_t_23 (te_0 (p := p)) i2_x1_10 (by decide) (by decide)) (fun t_27 e933 i_t_27 => ?_)
      have K_127 : ∀ (σ_127 : ez_H), tp p σ_127 → tz_O (fun z : Unit × ez_H => (fun (z : Unit) (s : ez_H) => tp p s) z.1 z.2) (z_X8_gather_127 k_10 σ_127 h0 x1_10) := by
        intro σ_127 T_σ_127
        unfold z_X8_gather_127
        refine tz_let (fun t_127 e893 => ?_)
        have i4_t_127 : tq_iv 1 384 t_127 := tq_w (tq_add e893 i2_x1_10 tk_1 (by decide) (by decide)) (by decide) (by decide)
        exact hk_10 σ_127 t_127 T_σ_127 (tq_w i4_t_127 (by decide) (by decide)) (tq_up e893 i2_x1_10 tk_1 (by decide) (by decide) hn_10)
      refine tz_if _ (fun c932 => ?_) (fun c932 => ?_)
      ·
        have i5_t_27 : tq_iv (-2147483648) 0 t_27 := tq_cut (tq_top t_27) (tq_leL c932 (tq_top t_27) tk_0) (by decide) (by decide)
        exact K_127 σ_10 T_σ_10
      ·
        have i6_t_27 : tq_iv 1 2147483647 t_27 := tq_cut (tq_top t_27) (tq_ltR (tq_nle c932) tk_0 (tq_top t_27)) (by decide) (by decide)
        refine tz_be (tg_8_10 T_σ_10 k_h0) (fun t_32 e931 k_t_32 => ?_)
        refine tz_be (tz_ia T_σ_10 k_t_32 (te_0 (p := p)) i3_t_20 (by decide) (by decide)) (fun t_36 e930 i_t_36 => ?_)
        have K_45 : ∀ (y0_45 : Int32), tq_iv 0 1 y0_45 → (¬ y0_45 = 0 → tq_iv 0 0 t_36) → tz_O (fun z : Unit × ez_H => (fun (z : Unit) (s : ez_H) => tp p s) z.1 z.2) (z_X8_gather_45 k_10 σ_10 h0 x1_10 t_20 y0_45) := by
          intro y0_45 i_y0_45 g45_y0_45_t_36
          unfold z_X8_gather_45
          refine tz_be (tg_8_11 T_σ_10 k_h0) (fun t_47 e924 k_t_47 => ?_)
          have K_79 : ∀ (y2_79 : Int32), tz_O (fun z : Unit × ez_H => (fun (z : Unit) (s : ez_H) => tp p s) z.1 z.2) (z_X8_gather_79 k_10 σ_10 h0 x1_10 t_20 y0_45 t_47 t_20 y2_79) := by
            intro y2_79
            unfold z_X8_gather_79
            refine tz_be (tz_is T_σ_10 k_t_47 (te_0 (p := p)) i3_t_20 (by decide) (by decide) (tq_top y2_79)) (fun σ913 e913 T913 => ?_)
            refine tz_be (tg_8_12 T913 k_h0) (fun t_81 e912 k_t_81 => ?_)
            have K_111 : ∀ (y2_111 : Int32), tz_O (fun z : Unit × ez_H => (fun (z : Unit) (s : ez_H) => tp p s) z.1 z.2) (z_X8_gather_111 k_10 σ913 h0 x1_10 t_20 t_81 t_20 y2_111) := by
              intro y2_111
              unfold z_X8_gather_111
              refine tz_be (tz_is T913 k_t_81 (te_0 (p := p)) i3_t_20 (by decide) (by decide) (tq_top y2_111)) (fun σ901 e901 T901 => ?_)
              refine tz_bk ((fr_is_gr e901).trans ((fr_is_gr e913).trans e931)) ?_
              refine tz_be (tz_ia T901 k_t_32 (te_0 (p := p)) i3_t_20 (by decide) (by decide)) (fun t_118 e899 i_t_118 => ?_)
              refine tz_bk ((fr_is_gr e901).trans ((fr_is_gr e913).trans e934)) ?_
              refine tz_be (tz_ia T901 k_t_23 (te_0 (p := p)) i2_x1_10 (by decide) (by decide)) (fun t_124 e897 i_t_124 => ?_)
              refine tz_let (fun t_125 e896 => ?_)
              refine tz_be (tz_is T901 k_t_32 (te_0 (p := p)) i3_t_20 (by decide) (by decide) (tq_top t_125)) (fun σ895 e895 T895 => ?_)
              exact K_127 σ895 T895
            refine tz_if _ (fun c911 => ?_) (fun c911 => ?_)
            ·
              have i7_y0_45 : tq_iv 0 0 y0_45 := tq_cut i_y0_45 (tq_eqL c911 tk_0) (by decide) (by decide)
              refine tz_bk e912 ?_
              refine tz_be (tz_ia T913 k_t_81 (te_0 (p := p)) i3_t_20 (by decide) (by decide)) (fun t_103 e906 i_t_103 => ?_)
              refine tz_be (tg_8_6 T913 k_h0) (fun t_105 e905 k_t_105 => ?_)
              refine tz_be (tz_ia T913 k_t_105 (te_0 (p := p)) i2_x1_10 (by decide) (by decide)) (fun t_109 e904 i_t_109 => ?_)
              refine tz_let (fun t_110 e903 => ?_)
              exact K_111 t_110
            ·
              have i8_t_36 : tq_iv 0 0 t_36 := tq_cut (tq_top t_36) (g45_y0_45_t_36 c911) (by decide) (by decide)
              have i9_y0_45 : tq_iv 1 1 y0_45 := tq_w (tq_neLo c911 i_y0_45 tk_0) (by decide) (by decide)
              refine tz_be (tg_8_6 T913 k_h0) (fun t_90 e910 k_t_90 => ?_)
              refine tz_be (tz_ia T913 k_t_90 (te_0 (p := p)) i2_x1_10 (by decide) (by decide)) (fun t_94 e909 i_t_94 => ?_)
              exact K_111 t_94
          refine tz_if _ (fun c923 => ?_) (fun c923 => ?_)
          ·
            have i10_y0_45 : tq_iv 0 0 y0_45 := tq_cut i_y0_45 (tq_eqL c923 tk_0) (by decide) (by decide)
            refine tz_bk e924 ?_
            refine tz_be (tz_ia T_σ_10 k_t_47 (te_0 (p := p)) i3_t_20 (by decide) (by decide)) (fun t_69 e918 i_t_69 => ?_)
            refine tz_be (tg_8_5 T_σ_10 k_h0) (fun t_71 e917 k_t_71 => ?_)
            refine tz_be (tz_ia T_σ_10 k_t_71 (te_0 (p := p)) i2_x1_10 (by decide) (by decide)) (fun t_75 e916 i_t_75 => ?_)
            refine tz_let (fun t_76 e915 => ?_)
            exact K_79 t_76
          ·
            have i11_t_36 : tq_iv 0 0 t_36 := tq_cut (tq_top t_36) (g45_y0_45_t_36 c923) (by decide) (by decide)
            have i12_y0_45 : tq_iv 1 1 y0_45 := tq_w (tq_neLo c923 i_y0_45 tk_0) (by decide) (by decide)
            refine tz_be (tg_8_5 T_σ_10 k_h0) (fun t_56 e922 k_t_56 => ?_)
            refine tz_be (tz_ia T_σ_10 k_t_56 (te_0 (p := p)) i2_x1_10 (by decide) (by decide)) (fun t_60 e921 i_t_60 => ?_)
            exact K_79 t_60
        refine tz_if _ (fun c929 => ?_) (fun c929 => ?_)
        ·
          have i13_t_36 : tq_iv 0 0 t_36 := tq_cut (tq_top t_36) (tq_eqL c929 tk_0) (by decide) (by decide)
          exact K_45 (1 : Int32) (tq_w tk_1 (by decide) (by decide)) (fun _ => i13_t_36)
        ·
          exact K_45 (0 : Int32) (tq_w tk_0 (by decide) (by decide)) (fun h => absurd rfl h)
  have E_10 : ∀ (σ_10 : ez_H) (x1_10 : Int32), tp p σ_10 → tq_iv 0 384 x1_10 → tz_O (fun z : Unit × ez_H => (fun (z : Unit) (s : ez_H) => tp p s) z.1 z.2) (ez_fix (fun _ _ _ => none) (z_X8_gather_10) ez_N σ_10 h0 x1_10) := by
    intro σ_10 x1_10 T_σ_10 i_x1_10
    exact ez_fix_indn (fun n_10 (k_10 : ez_H → Nat → Int32 → Option (Unit × ez_H)) => ∀ (σ_10 : ez_H) (x1_10 : Int32), tp p σ_10 → tq_iv 0 384 x1_10 → (2147483647 - x1_10.toInt).toNat < n_10 → tz_O (fun z : Unit × ez_H => (fun (z : Unit) (s : ez_H) => tp p s) z.1 z.2) (k_10 σ_10 h0 x1_10)) (by intros; rename_i h; exact absurd h (Nat.not_lt_zero _)) L_10 ez_N σ_10 x1_10 T_σ_10 i_x1_10 (tq_m0 x1_10)
  exact E_10 σ939 (0 : Int32) T939 (tq_w tk_0 (by decide) (by decide))
set_option maxRecDepth 4000 in
theorem tz_X8_take {p : tz_P} {σ : ez_H} {h0 : Nat} {h1 : Nat} (hT : tp p σ) (k_h0 : tz_C h0 = some (3, 8, 0, 0)) (k_h1 : tz_C h1 = some (3, 7, 0, 0)) : tz_O2 (fun (z : Unit) (s : ez_H) => tp p s) (z_X8_take σ h0 h1) := by
  show tz_O (fun z : Unit × ez_H => (fun (z : Unit) (s : ez_H) => tp p s) z.1 z.2) _
  unfold z_X8_take
  refine tz_bd (tz_ob hT k_h0) (fun _ _ => ?_)
  refine tz_be (tg_8_1 hT k_h0) (fun t_3 e993 k_t_3 => ?_)
  refine tz_be (tg_6_0 hT k_t_3) (fun t_6 e992 i_t_6 => ?_)
  refine tz_b2 (tz_X8_isMarked hT k_h0 (tq_w tk_0 (by decide) (by decide))) (fun t_9 σ991 ⟨i_t_9, T991⟩ => ?_)
  refine tz_be (tg_8_1 T991 k_h0) (fun t_15 e990 k_t_15 => ?_)
  refine tz_be (tg_6_1 T991 k_t_15) (fun t_18 e989 i_t_18 => ?_)
  refine tz_b2 (tz_X8_isMarked T991 k_h0 (tq_w tk_1 (by decide) (by decide))) (fun t_21 σ988 ⟨i_t_21, T988⟩ => ?_)
  refine tz_let (fun t_24 e987 => ?_)
  have i1_t_24 : tq_iv 0 1 t_24 := tq_and1 e987 i_t_9 (by decide)
  refine tz_be (tg_8_1 T988 k_h0) (fun t_28 e986 k_t_28 => ?_)
  refine tz_be (tg_6_2 T988 k_t_28) (fun t_31 e985 i_t_31 => ?_)
  refine tz_b2 (tz_X8_isMarked T988 k_h0 (tq_w tk_2 (by decide) (by decide))) (fun t_34 σ984 ⟨i_t_34, T984⟩ => ?_)
  refine tz_let (fun t_37 e983 => ?_)
  have i2_t_37 : tq_iv 0 1 t_37 := tq_and1 e983 i1_t_24 (by decide)
  refine tz_be (tg_8_0 T984 k_h0) (fun t_41 e982 k_t_41 => ?_)
  refine tz_be (tg_3_4 T984 k_t_41) (fun t_44 e981 i_t_44 => ?_)
  refine tz_b2 (tz_X8_isMarked T984 k_h0 (tq_w tk_3 (by decide) (by decide))) (fun t_47 σ980 ⟨i_t_47, T980⟩ => ?_)
  refine tz_let (fun t_50 e979 => ?_)
  have i3_t_50 : tq_iv 0 1 t_50 := tq_and1 e979 i2_t_37 (by decide)
  have L_54 : ∀ (n_54 : Nat) (k_54 : ez_H → Nat → Nat → Int32 → Int32 → Option (Unit × ez_H)), (∀ (σ_54 : ez_H) (x2_54 : Int32) (x3_54 : Int32), tp p σ_54 → tq_iv 0 1 x2_54 → tq_iv 0 6 x3_54 → (2147483647 - x3_54.toInt).toNat < n_54 → tz_O (fun z : Unit × ez_H => (fun (z : Unit) (s : ez_H) => tp p s) z.1 z.2) (k_54 σ_54 h0 h1 x2_54 x3_54)) → ∀ (σ_54 : ez_H) (x2_54 : Int32) (x3_54 : Int32), tp p σ_54 → tq_iv 0 1 x2_54 → tq_iv 0 6 x3_54 → (2147483647 - x3_54.toInt).toNat < n_54 + 1 → tz_O (fun z : Unit × ez_H => (fun (z : Unit) (s : ez_H) => tp p s) z.1 z.2) (z_X8_take_54 k_54 σ_54 h0 h1 x2_54 x3_54) := by
    intro n_54 k_54 hk_54 σ_54 x2_54 x3_54 T_σ_54 i_x2_54 i_x3_54 hn_54
    unfold z_X8_take_54
    refine tz_if _ (fun c977 => ?_) (fun c977 => ?_)
    ·
      have i4_x3_54 : tq_iv 6 6 x3_54 := tq_cut i_x3_54 (tq_leR c977 tk_6 i_x3_54) (by decide) (by decide)
      refine tz_if _ (fun c970 => ?_) (fun c970 => ?_)
      ·
        have i5_x2_54 : tq_iv 0 0 x2_54 := tq_cut i_x2_54 (tq_eqL c970 tk_0) (by decide) (by decide)
        refine tz_be (tg_8_7 T_σ_54 k_h0) (fun t_87 e968 k_t_87 => ?_)
        refine tz_b2 (tz_J7_fill_53178 T_σ_54 k_t_87) (fun _ σ967 T967 => ?_)
        refine tz_b2 (tz_X8_allowIn T967 k_h0 (tq_w tk_0 (by decide) (by decide)) k_h1) (fun _ σ966 T966 => ?_)
        have L_102 : ∀ (n_102 : Nat) (k_102 : ez_H → Nat → Nat → Int32 → Option (Unit × ez_H)), (∀ (σ_102 : ez_H) (x3_102 : Int32), tp p σ_102 → tq_iv 0 6 x3_102 → (2147483647 - x3_102.toInt).toNat < n_102 → tz_O (fun z : Unit × ez_H => (fun (z : Unit) (s : ez_H) => tp p s) z.1 z.2) (k_102 σ_102 h0 h1 x3_102)) → ∀ (σ_102 : ez_H) (x3_102 : Int32), tp p σ_102 → tq_iv 0 6 x3_102 → (2147483647 - x3_102.toInt).toNat < n_102 + 1 → tz_O (fun z : Unit × ez_H => (fun (z : Unit) (s : ez_H) => tp p s) z.1 z.2) (z_X8_take_102 k_102 σ_102 h0 h1 x3_102) := by
          intro n_102 k_102 hk_102 σ_102 x3_102 T_σ_102 i_x3_102 hn_102
          unfold z_X8_take_102
          refine tz_be (tg_8_1 T_σ_102 k_h0) (fun t_104 e964 k_t_104 => ?_)
          refine tz_be (tg_6_1 T_σ_102 k_t_104) (fun t_107 e963 i_t_107 => ?_)
          have K_143 : tz_O (fun z : Unit × ez_H => (fun (z : Unit) (s : ez_H) => tp p s) z.1 z.2) (z_X8_take_143 σ_102 h0 h1) := by
            unfold z_X8_take_143
            refine tz_b2 (tz_X8_changeOver T_σ_102 k_h0) (fun _ σ952 T952 => ?_)
            have L_149 : ∀ (n_149 : Nat) (k_149 : ez_H → Nat → Nat → Int32 → Option (Unit × ez_H)), (∀ (σ_149 : ez_H) (x3_149 : Int32), tp p σ_149 → tq_iv 1 999 x3_149 → (2147483647 - x3_149.toInt).toNat < n_149 → tz_O (fun z : Unit × ez_H => (fun (z : Unit) (s : ez_H) => tp p s) z.1 z.2) (k_149 σ_149 h0 h1 x3_149)) → ∀ (σ_149 : ez_H) (x3_149 : Int32), tp p σ_149 → tq_iv 1 999 x3_149 → (2147483647 - x3_149.toInt).toNat < n_149 + 1 → tz_O (fun z : Unit × ez_H => (fun (z : Unit) (s : ez_H) => tp p s) z.1 z.2) (z_X8_take_149 k_149 σ_149 h0 h1 x3_149) := by
              intro n_149 k_149 hk_149 σ_149 x3_149 T_σ_149 i_x3_149 hn_149
              unfold z_X8_take_149
              refine tz_be (tg_8_1 T_σ_149 k_h0) (fun t_151 e950 k_t_151 => ?_)
              refine tz_be (tg_6_0 T_σ_149 k_t_151) (fun t_154 e949 i_t_154 => ?_)
              refine tz_if _ (fun c948 => ?_) (fun c948 => ?_)
              ·
                refine tz_b2 (tz_X8_gather T_σ_149 k_h0) (fun _ σ943 T943 => ?_)
                exact tz_some T943
              ·
                have i6_x3_149 : tq_iv 1 998 x3_149 := tq_cut i_x3_149 (tq_ltL (tq_nle c948) i_x3_149 i_t_154) (by decide) (by decide)
                have i7_t_154 : tq_iv 2 999 t_154 := tq_cut i_t_154 (tq_ltR (tq_nle c948) i_x3_149 i_t_154) (by decide) (by decide)
                refine tz_b2 (tz_X8_allowIn T_σ_149 k_h0 (tq_w i6_x3_149 (by decide) (by decide)) k_h1) (fun _ σ947 T947 => ?_)
                refine tz_b2 (tz_X8_addChamber T947 k_h0 i6_x3_149) (fun _ σ946 T946 => ?_)
                refine tz_let (fun t_171 e945 => ?_)
                have i8_t_171 : tq_iv 2 999 t_171 := tq_w (tq_add e945 i6_x3_149 tk_1 (by decide) (by decide)) (by decide) (by decide)
                exact hk_149 σ946 t_171 T946 (tq_w i8_t_171 (by decide) (by decide)) (tq_up e945 i6_x3_149 tk_1 (by decide) (by decide) hn_149)
            have E_149 : ∀ (σ_149 : ez_H) (x3_149 : Int32), tp p σ_149 → tq_iv 1 999 x3_149 → tz_O (fun z : Unit × ez_H => (fun (z : Unit) (s : ez_H) => tp p s) z.1 z.2) (ez_fix (fun _ _ _ _ => none) (z_X8_take_149) ez_N σ_149 h0 h1 x3_149) := by
              intro σ_149 x3_149 T_σ_149 i_x3_149
              exact ez_fix_indn (fun n_149 (k_149 : ez_H → Nat → Nat → Int32 → Option (Unit × ez_H)) => ∀ (σ_149 : ez_H) (x3_149 : Int32), tp p σ_149 → tq_iv 1 999 x3_149 → (2147483647 - x3_149.toInt).toNat < n_149 → tz_O (fun z : Unit × ez_H => (fun (z : Unit) (s : ez_H) => tp p s) z.1 z.2) (k_149 σ_149 h0 h1 x3_149)) (by intros; rename_i h; exact absurd h (Nat.not_lt_zero _)) L_149 ez_N σ_149 x3_149 T_σ_149 i_x3_149 (tq_m0 x3_149)
            exact E_149 σ952 (1 : Int32) T952 (tq_w tk_1 (by decide) (by decide))
          refine tz_if _ (fun c962 => ?_) (fun c962 => ?_)
          ·
            have i9_t_107 : tq_iv 0 6 t_107 := tq_cut i_t_107 (tq_leL c962 i_t_107 i_x3_102) (by decide) (by decide)
            exact K_143 
          ·
            have i10_t_107 : tq_iv 1 999 t_107 := tq_cut i_t_107 (tq_ltR (tq_nle c962) i_x3_102 i_t_107) (by decide) (by decide)
            refine tz_if _ (fun c961 => ?_) (fun c961 => ?_)
            ·
              have i11_x3_102 : tq_iv 6 6 x3_102 := tq_cut i_x3_102 (tq_leR c961 tk_6 i_x3_102) (by decide) (by decide)
              exact K_143 
            ·
              have i12_x3_102 : tq_iv 0 5 x3_102 := tq_cut i_x3_102 (tq_ltL (tq_nle c961) i_x3_102 tk_6) (by decide) (by decide)
              refine tz_be (tg_8_3 T_σ_102 k_h0) (fun t_122 e960 k_t_122 => ?_)
              refine tz_be (tz_ia T_σ_102 k_t_122 (te_0 (p := p)) i12_x3_102 (by decide) (by decide)) (fun t_126 e959 i_t_126 => ?_)
              refine tz_bd (tz_X6_notch T_σ_102 (tq_w tk_0 (by decide) (by decide))) (fun t_131 i_t_131 => ?_)
              refine tz_b2 (tz_X8_add T_σ_102 k_h0 i12_x3_102) (fun _ σ957 T957 => ?_)
              refine tz_let (fun t_137 e956 => ?_)
              have i13_t_137 : tq_iv 1 6 t_137 := tq_w (tq_add e956 i12_x3_102 tk_1 (by decide) (by decide)) (by decide) (by decide)
              exact hk_102 σ957 t_137 T957 (tq_w i13_t_137 (by decide) (by decide)) (tq_up e956 i12_x3_102 tk_1 (by decide) (by decide) hn_102)
        have E_102 : ∀ (σ_102 : ez_H) (x3_102 : Int32), tp p σ_102 → tq_iv 0 6 x3_102 → tz_O (fun z : Unit × ez_H => (fun (z : Unit) (s : ez_H) => tp p s) z.1 z.2) (ez_fix (fun _ _ _ _ => none) (z_X8_take_102) ez_N σ_102 h0 h1 x3_102) := by
          intro σ_102 x3_102 T_σ_102 i_x3_102
          exact ez_fix_indn (fun n_102 (k_102 : ez_H → Nat → Nat → Int32 → Option (Unit × ez_H)) => ∀ (σ_102 : ez_H) (x3_102 : Int32), tp p σ_102 → tq_iv 0 6 x3_102 → (2147483647 - x3_102.toInt).toNat < n_102 → tz_O (fun z : Unit × ez_H => (fun (z : Unit) (s : ez_H) => tp p s) z.1 z.2) (k_102 σ_102 h0 h1 x3_102)) (by intros; rename_i h; exact absurd h (Nat.not_lt_zero _)) L_102 ez_N σ_102 x3_102 T_σ_102 i_x3_102 (tq_m0 x3_102)
        exact E_102 σ966 (0 : Int32) T966 (tq_w tk_0 (by decide) (by decide))
      ·
        have i14_x2_54 : tq_iv 1 1 x2_54 := tq_w (tq_neLo c970 i_x2_54 tk_0) (by decide) (by decide)
        exact tz_some T_σ_54
    ·
      have i15_x3_54 : tq_iv 0 5 x3_54 := tq_cut i_x3_54 (tq_ltL (tq_nle c977) i_x3_54 tk_6) (by decide) (by decide)
      refine tz_let (fun t_64 e976 => ?_)
      have i16_t_64 : tq_iv 4 9 t_64 := tq_w (tq_add e976 tk_4 i15_x3_54 (by decide) (by decide)) (by decide) (by decide)
      refine tz_bd (tz_X7_pins T_σ_54 k_h1) (fun t_67 i_t_67 => ?_)
      refine tz_b2 (tz_X8_isMarked T_σ_54 k_h0 (tq_w i16_t_64 (by decide) (by decide))) (fun t_70 σ974 ⟨i_t_70, T974⟩ => ?_)
      refine tz_let (fun t_73 e973 => ?_)
      have i17_t_73 : tq_iv 0 1 t_73 := tq_and1 e973 i_x2_54 (by decide)
      refine tz_let (fun t_75 e972 => ?_)
      have i18_t_75 : tq_iv 1 6 t_75 := tq_w (tq_add e972 i15_x3_54 tk_1 (by decide) (by decide)) (by decide) (by decide)
      exact hk_54 σ974 t_73 t_75 T974 i17_t_73 (tq_w i18_t_75 (by decide) (by decide)) (tq_up e972 i15_x3_54 tk_1 (by decide) (by decide) hn_54)
  have E_54 : ∀ (σ_54 : ez_H) (x2_54 : Int32) (x3_54 : Int32), tp p σ_54 → tq_iv 0 1 x2_54 → tq_iv 0 6 x3_54 → tz_O (fun z : Unit × ez_H => (fun (z : Unit) (s : ez_H) => tp p s) z.1 z.2) (ez_fix (fun _ _ _ _ _ => none) (z_X8_take_54) ez_N σ_54 h0 h1 x2_54 x3_54) := by
    intro σ_54 x2_54 x3_54 T_σ_54 i_x2_54 i_x3_54
    exact ez_fix_indn (fun n_54 (k_54 : ez_H → Nat → Nat → Int32 → Int32 → Option (Unit × ez_H)) => ∀ (σ_54 : ez_H) (x2_54 : Int32) (x3_54 : Int32), tp p σ_54 → tq_iv 0 1 x2_54 → tq_iv 0 6 x3_54 → (2147483647 - x3_54.toInt).toNat < n_54 → tz_O (fun z : Unit × ez_H => (fun (z : Unit) (s : ez_H) => tp p s) z.1 z.2) (k_54 σ_54 h0 h1 x2_54 x3_54)) (by intros; rename_i h; exact absurd h (Nat.not_lt_zero _)) L_54 ez_N σ_54 x2_54 x3_54 T_σ_54 i_x2_54 i_x3_54 (tq_m0 x3_54)
  exact E_54 σ980 t_50 (0 : Int32) T980 i3_t_50 (tq_w tk_0 (by decide) (by decide))
set_option maxRecDepth 4000 in
theorem tz_X10_knownAt {p : tz_P} {σ : ez_H} {h0 : Nat} {x1 : Int32} {x2 : Int32} (hT : tp p σ) (k_h0 : tz_C h0 = some (3, 10, 0, 0)) (i_x2 : tq_iv 0 1 x2) : tz_O (fun z => tq_iv (-2147483648) 2147483647 z) (z_X10_knownAt σ h0 x1 x2) := by
  unfold z_X10_knownAt
  refine tz_bd (tz_ob hT k_h0) (fun _ _ => ?_)
  have L_5 : ∀ (n_5 : Nat) (k_5 : Nat → Int32 → Int32 → Int32 → Int32 → Option (Int32)), (∀ (x3_5 : Int32) (x4_5 : Int32), tq_iv 0 30 x4_5 → (2147483647 - x4_5.toInt).toNat < n_5 → tz_O (fun (z : Int32) => tq_iv (-2147483648) 2147483647 z) (k_5 h0 x1 x2 x3_5 x4_5)) → ∀ (x3_5 : Int32) (x4_5 : Int32), tq_iv 0 30 x4_5 → (2147483647 - x4_5.toInt).toNat < n_5 + 1 → tz_O (fun (z : Int32) => tq_iv (-2147483648) 2147483647 z) (z_X10_knownAt_5 σ k_5 h0 x1 x2 x3_5 x4_5) := by
    intro n_5 k_5 hk_5 x3_5 x4_5 i_x4_5 hn_5
    unfold z_X10_knownAt_5
    refine tz_be (tg_10_4 hT k_h0) (fun t_8 e1027 i_t_8 => ?_)
    have K_95 : tz_O (fun (z : Int32) => tq_iv (-2147483648) 2147483647 z) (z_X10_knownAt_95 σ x3_5) := by
      unfold z_X10_knownAt_95
      exact tz_some (tq_top x3_5)
    refine tz_if _ (fun c1026 => ?_) (fun c1026 => ?_)
    ·
      have i1_t_8 : tq_iv (-2147483648) 30 t_8 := tq_cut (tq_top t_8) (tq_leL c1026 (tq_top t_8) i_x4_5) (by decide) (by decide)
      exact K_95 
    ·
      have i2_t_8 : tq_iv 1 2147483647 t_8 := tq_cut (tq_top t_8) (tq_ltR (tq_nle c1026) i_x4_5 (tq_top t_8)) (by decide) (by decide)
      refine tz_if _ (fun c1025 => ?_) (fun c1025 => ?_)
      ·
        have i3_x4_5 : tq_iv 30 30 x4_5 := tq_cut i_x4_5 (tq_leR c1025 tk_30 i_x4_5) (by decide) (by decide)
        exact K_95 
      ·
        have i4_x4_5 : tq_iv 0 29 x4_5 := tq_cut i_x4_5 (tq_ltL (tq_nle c1025) i_x4_5 tk_30) (by decide) (by decide)
        refine tz_be (tg_10_3 hT k_h0) (fun t_22 e1024 k_t_22 => ?_)
        refine tz_be (tz_ia hT k_t_22 (te_0 (p := p)) i4_x4_5 (by decide) (by decide)) (fun t_27 e1023 i_t_27 => ?_)
        have K_48 : ∀ (y0_48 : Int32), tq_iv 0 1 y0_48 → tz_O (fun (z : Int32) => tq_iv (-2147483648) 2147483647 z) (z_X10_knownAt_48 σ k_5 h0 x1 x2 x3_5 x4_5 y0_48) := by
          intro y0_48 i_y0_48
          unfold z_X10_knownAt_48
          refine tz_be (tg_10_1 hT k_h0) (fun t_51 e1012 k_t_51 => ?_)
          refine tz_be (tz_ia hT k_t_51 (te_2 (p := p)) i4_x4_5 (by decide) (by decide)) (fun t_56 e1011 i_t_56 => ?_)
          have K_89 : ∀ (x3_89 : Int32), tz_O (fun (z : Int32) => tq_iv (-2147483648) 2147483647 z) (z_X10_knownAt_89 σ k_5 h0 x1 x2 x3_89 x4_5) := by
            intro x3_89
            unfold z_X10_knownAt_89
            refine tz_let (fun t_89 e997 => ?_)
            have i5_t_89 : tq_iv 1 30 t_89 := tq_w (tq_add e997 i4_x4_5 tk_1 (by decide) (by decide)) (by decide) (by decide)
            exact hk_5 x3_89 t_89 (tq_w i5_t_89 (by decide) (by decide)) (tq_up e997 i4_x4_5 tk_1 (by decide) (by decide) hn_5)
          refine tz_if _ (fun c1010 => ?_) (fun c1010 => ?_)
          ·
            refine tz_be (tg_10_2 hT k_h0) (fun t_62 e1008 k_t_62 => ?_)
            refine tz_be (tz_ia hT k_t_62 (te_0 (p := p)) i4_x4_5 (by decide) (by decide)) (fun t_67 e1007 i_t_67 => ?_)
            refine tz_if _ (fun c1006 => ?_) (fun c1006 => ?_)
            ·
              have i6_x1 : tq_iv (-2147483648) 2147483646 x1 := tq_cut (tq_top x1) (tq_ltL c1006 (tq_top x1) (tq_top t_67)) (by decide) (by decide)
              have i7_t_67 : tq_iv (-2147483647) 2147483647 t_67 := tq_cut (tq_top t_67) (tq_ltR c1006 (tq_top x1) (tq_top t_67)) (by decide) (by decide)
              exact K_89 x3_5
            ·
              refine tz_if _ (fun c1005 => ?_) (fun c1005 => ?_)
              ·
                have i8_y0_48 : tq_iv 0 0 y0_48 := tq_cut i_y0_48 (tq_eqL c1005 tk_0) (by decide) (by decide)
                refine tz_be (tg_10_0 hT k_h0) (fun t_80 e1003 k_t_80 => ?_)
                refine tz_be (tz_ia hT k_t_80 (te_0 (p := p)) i4_x4_5 (by decide) (by decide)) (fun t_85 e1002 i_t_85 => ?_)
                refine tz_let (fun t_86 e1001 => ?_)
                refine tz_let (fun t_87 e1000 => ?_)
                exact K_89 t_87
              ·
                have i9_y0_48 : tq_iv 1 1 y0_48 := tq_w (tq_neLo c1005 i_y0_48 tk_0) (by decide) (by decide)
                exact K_89 x3_5
          ·
            exact K_89 x3_5
        have K_47 : tq_iv (-2147483647) 2147483647 t_27 → tz_O (fun (z : Int32) => tq_iv (-2147483648) 2147483647 z) (z_X10_knownAt_47 σ k_5 h0 x1 x2 x3_5 x4_5) := by
          intro j47_t_27
          unfold z_X10_knownAt_47
          exact K_48 (0 : Int32) (tq_w tk_0 (by decide) (by decide))
        refine tz_if _ (fun c1022 => ?_) (fun c1022 => ?_)
        ·
          have i10_t_27 : tq_iv (-1) (-1) t_27 := tq_cut (tq_top t_27) (tq_eqL c1022 tk_m1) (by decide) (by decide)
          exact K_47 (tq_w i10_t_27 (by decide) (by decide))
        ·
          refine tz_bk e1024 ?_
          refine tz_ba e1023 (fun t_38 e1020 a1020 => ?_)
          refine tz_if _ (fun c1019 => ?_) (fun c1019 => ?_)
          ·
            have i11_x1 : tq_iv (-2147483648) 2147483646 x1 := tq_cut (tq_top x1) (tq_ltL c1019 (tq_top x1) (tq_top t_38)) (by decide) (by decide)
            have i12_t_38 : tq_iv (-2147483647) 2147483647 t_38 := tq_cut (tq_top t_38) (tq_ltR c1019 (tq_top x1) (tq_top t_38)) (by decide) (by decide)
            have i13_t_27 : tq_iv (-2147483647) 2147483647 t_27 := tq_cut (tq_top t_27) (tq_eqL (Eq.symm a1020) i12_t_38) (by decide) (by decide)
            exact K_47 i13_t_27
          ·
            exact K_48 (1 : Int32) (tq_w tk_1 (by decide) (by decide))
  have E_5 : ∀ (x3_5 : Int32) (x4_5 : Int32), tq_iv 0 30 x4_5 → tz_O (fun (z : Int32) => tq_iv (-2147483648) 2147483647 z) (ez_fix (fun _ _ _ _ _ => none) (z_X10_knownAt_5 σ) ez_N h0 x1 x2 x3_5 x4_5) := by
    intro x3_5 x4_5 i_x4_5
    exact ez_fix_indn (fun n_5 (k_5 : Nat → Int32 → Int32 → Int32 → Int32 → Option (Int32)) => ∀ (x3_5 : Int32) (x4_5 : Int32), tq_iv 0 30 x4_5 → (2147483647 - x4_5.toInt).toNat < n_5 → tz_O (fun (z : Int32) => tq_iv (-2147483648) 2147483647 z) (k_5 h0 x1 x2 x3_5 x4_5)) (by intros; rename_i h; exact absurd h (Nat.not_lt_zero _)) L_5 ez_N x3_5 x4_5 i_x4_5 (tq_m0 x4_5)
  exact E_5 (0 : Int32) (0 : Int32) (tq_w tk_0 (by decide) (by decide))
set_option maxRecDepth 4000 in
theorem tz_X8_isSuch {p : tz_P} {σ : ez_H} {h0 : Nat} {x1 : Int32} {x2 : Int32} {x3 : Int32} (hT : tp p σ) (k_h0 : tz_C h0 = some (3, 8, 0, 0)) (i_x1 : tq_iv 0 63 x1) : tz_O (fun z => tq_iv 0 1 z ∧ (¬ z = 0 → tq_iv 0 63 x2)) (z_X8_isSuch σ h0 x1 x2 x3) := by
  unfold z_X8_isSuch
  refine tz_bd (tz_ob hT k_h0) (fun _ _ => ?_)
  refine tz_be (tg_8_10 hT k_h0) (fun t_1 e1043 k_t_1 => ?_)
  refine tz_be (tz_ia hT k_t_1 (te_0 (p := p)) i_x1 (by decide) (by decide)) (fun t_5 e1042 i_t_5 => ?_)
  have K_27 : ∀ (y0_27 : Int32), tq_iv 0 1 y0_27 → (¬ y0_27 = 0 → tq_iv 1 2147483647 t_5) → (¬ y0_27 = 0 → tq_iv 0 63 x2) → tz_O (fun (z : Int32) => tq_iv 0 1 z ∧ (¬ z = 0 → tq_iv 0 63 x2)) (z_X8_isSuch_27 σ y0_27) := by
    intro y0_27 i_y0_27 g27_y0_27_t_5 g27_y0_27_x2
    unfold z_X8_isSuch_27
    refine tz_nr (tq_nr_boolean i_y0_27) ?_
    exact tz_some ⟨i_y0_27, (fun h => tq_w (g27_y0_27_x2 h) (by decide) (by decide))⟩
  have K_26 : tz_O (fun (z : Int32) => tq_iv 0 1 z ∧ (¬ z = 0 → tq_iv 0 63 x2)) (z_X8_isSuch_26 σ) := by
    unfold z_X8_isSuch_26
    exact K_27 (0 : Int32) (tq_w tk_0 (by decide) (by decide)) (fun h => absurd rfl h) (fun h => absurd rfl h)
  refine tz_if _ (fun c1041 => ?_) (fun c1041 => ?_)
  ·
    have i1_t_5 : tq_iv (-2147483648) 0 t_5 := tq_cut (tq_top t_5) (tq_leL c1041 (tq_top t_5) tk_0) (by decide) (by decide)
    exact K_26 
  ·
    have i2_t_5 : tq_iv 1 2147483647 t_5 := tq_cut (tq_top t_5) (tq_ltR (tq_nle c1041) tk_0 (tq_top t_5)) (by decide) (by decide)
    refine tz_let (fun t_11 e1040 => ?_)
    have i3_t_11 : tq_iv 0 63 t_11 := tq_and1 e1040 i_x1 (by decide)
    refine tz_if _ (fun c1039 => ?_) (fun c1039 => ?_)
    ·
      have i4_x2 : tq_iv 0 63 x2 := tq_cut (tq_top x2) (tq_eqL (Eq.symm c1039) i3_t_11) (by decide) (by decide)
      refine tz_let (fun t_18 e1037 => ?_)
      have i5_t_18 : tq_iv 0 63 t_18 := tq_and1 e1037 i_x1 (by decide)
      refine tz_if _ (fun c1036 => ?_) (fun c1036 => ?_)
      ·
        have i6_t_18 : tq_iv 0 0 t_18 := tq_cut i5_t_18 (tq_eqL c1036 tk_0) (by decide) (by decide)
        exact K_27 (1 : Int32) (tq_w tk_1 (by decide) (by decide)) (fun _ => i2_t_5) (fun _ => i4_x2)
      ·
        have i7_t_18 : tq_iv 1 63 t_18 := tq_w (tq_neLo c1036 i5_t_18 tk_0) (by decide) (by decide)
        exact K_26 
    ·
      exact K_26
set_option maxRecDepth 4000 in
theorem tz_X8_total {p : tz_P} {σ : ez_H} {h0 : Nat} {x1 : Int32} {x2 : Int32} (hT : tp p σ) (k_h0 : tz_C h0 = some (3, 8, 0, 0)) : tz_O (fun z => tq_iv (-2147483648) 2147483647 z) (z_X8_total σ h0 x1 x2) := by
  unfold z_X8_total
  refine tz_bd (tz_ob hT k_h0) (fun _ _ => ?_)
  have L_5 : ∀ (n_5 : Nat) (k_5 : Nat → Int32 → Int32 → Int32 → Int32 → Option (Int32)), (∀ (x3_5 : Int32) (x4_5 : Int32), tq_iv 0 64 x4_5 → (2147483647 - x4_5.toInt).toNat < n_5 → tz_O (fun (z : Int32) => tq_iv (-2147483648) 2147483647 z) (k_5 h0 x1 x2 x3_5 x4_5)) → ∀ (x3_5 : Int32) (x4_5 : Int32), tq_iv 0 64 x4_5 → (2147483647 - x4_5.toInt).toNat < n_5 + 1 → tz_O (fun (z : Int32) => tq_iv (-2147483648) 2147483647 z) (z_X8_total_5 σ k_5 h0 x1 x2 x3_5 x4_5) := by
    intro n_5 k_5 hk_5 x3_5 x4_5 i_x4_5 hn_5
    unfold z_X8_total_5
    refine tz_if _ (fun c1055 => ?_) (fun c1055 => ?_)
    ·
      have i1_x4_5 : tq_iv 64 64 x4_5 := tq_cut i_x4_5 (tq_leR c1055 tk_64 i_x4_5) (by decide) (by decide)
      exact tz_some (tq_top x3_5)
    ·
      have i2_x4_5 : tq_iv 0 63 x4_5 := tq_cut i_x4_5 (tq_ltL (tq_nle c1055) i_x4_5 tk_64) (by decide) (by decide)
      refine tz_bd (tz_X8_isSuch hT k_h0 i2_x4_5) (fun t_17 ⟨i_t_17, g_t_17⟩ => ?_)
      have K_33 : ∀ (x3_33 : Int32), tz_O (fun (z : Int32) => tq_iv (-2147483648) 2147483647 z) (z_X8_total_33 σ k_5 h0 x1 x2 x3_33 x4_5) := by
        intro x3_33
        unfold z_X8_total_33
        refine tz_let (fun t_33 e1046 => ?_)
        have i3_t_33 : tq_iv 1 64 t_33 := tq_w (tq_add e1046 i2_x4_5 tk_1 (by decide) (by decide)) (by decide) (by decide)
        exact hk_5 x3_33 t_33 (tq_w i3_t_33 (by decide) (by decide)) (tq_up e1046 i2_x4_5 tk_1 (by decide) (by decide) hn_5)
      refine tz_if _ (fun c1053 => ?_) (fun c1053 => ?_)
      ·
        have i4_t_17 : tq_iv 0 0 t_17 := tq_cut i_t_17 (tq_eqL c1053 tk_0) (by decide) (by decide)
        exact K_33 x3_5
      ·
        have i5_x1 : tq_iv 0 63 x1 := tq_cut (tq_top x1) (g_t_17 c1053) (by decide) (by decide)
        have i6_t_17 : tq_iv 1 1 t_17 := tq_w (tq_neLo c1053 i_t_17 tk_0) (by decide) (by decide)
        refine tz_be (tg_8_10 hT k_h0) (fun t_25 e1052 k_t_25 => ?_)
        refine tz_be (tz_ia hT k_t_25 (te_0 (p := p)) i2_x4_5 (by decide) (by decide)) (fun t_30 e1051 i_t_30 => ?_)
        refine tz_let (fun t_31 e1050 => ?_)
        exact K_33 t_31
  have E_5 : ∀ (x3_5 : Int32) (x4_5 : Int32), tq_iv 0 64 x4_5 → tz_O (fun (z : Int32) => tq_iv (-2147483648) 2147483647 z) (ez_fix (fun _ _ _ _ _ => none) (z_X8_total_5 σ) ez_N h0 x1 x2 x3_5 x4_5) := by
    intro x3_5 x4_5 i_x4_5
    exact ez_fix_indn (fun n_5 (k_5 : Nat → Int32 → Int32 → Int32 → Int32 → Option (Int32)) => ∀ (x3_5 : Int32) (x4_5 : Int32), tq_iv 0 64 x4_5 → (2147483647 - x4_5.toInt).toNat < n_5 → tz_O (fun (z : Int32) => tq_iv (-2147483648) 2147483647 z) (k_5 h0 x1 x2 x3_5 x4_5)) (by intros; rename_i h; exact absurd h (Nat.not_lt_zero _)) L_5 ez_N x3_5 x4_5 i_x4_5 (tq_m0 x4_5)
  exact E_5 (0 : Int32) (0 : Int32) (tq_w tk_0 (by decide) (by decide))
set_option maxRecDepth 4000 in
theorem tz_X11_fits {p : tz_P} {σ : ez_H} {h0 : Nat} {x1 : Int32} (hT : tp p σ) (k_h0 : tz_C h0 = some (3, 11, 0, 0)) : tz_O2 (fun (z : Int32) (s : ez_H) => tq_iv (-2147483648) 2147483647 z ∧ tp p s) (z_X11_fits σ h0 x1) := by
  show tz_O (fun z : Int32 × ez_H => (fun (z : Int32) (s : ez_H) => tq_iv (-2147483648) 2147483647 z ∧ tp p s) z.1 z.2) _
  unfold z_X11_fits
  refine tz_bd (tz_ob hT k_h0) (fun _ _ => ?_)
  refine tz_be (tg_11_11 hT k_h0) (fun t_1 e1068 k_t_1 => ?_)
  refine tz_be (tg_11_3 hT k_h0) (fun t_5 e1067 k_t_5 => ?_)
  refine tz_be (tg_3_2 hT k_t_5) (fun t_8 e1066 k_t_8 => ?_)
  refine tz_b2 (tz_X8_take hT k_t_1 k_t_8) (fun _ σ1065 T1065 => ?_)
  refine tz_be (tg_11_11 T1065 k_h0) (fun t_15 e1064 k_t_15 => ?_)
  refine tz_be (tg_11_14 T1065 k_h0) (fun t_19 e1063 k_t_19 => ?_)
  refine tz_bd (tz_X10_knownAt T1065 k_t_19 (tq_w tk_1 (by decide) (by decide))) (fun t_24 i_t_24 => ?_)
  refine tz_bk e1063 ?_
  refine tz_bd (tz_X10_knownAt T1065 k_t_19 (tq_w tk_0 (by decide) (by decide))) (fun t_33 i_t_33 => ?_)
  refine tz_bd (tz_X8_total T1065 k_t_15) (fun t_36 i_t_36 => ?_)
  exact tz_some ⟨(tq_top t_36), T1065⟩
set_option maxRecDepth 4000 in
theorem tz_X11_ask {p : tz_P} {σ : ez_H} {h0 : Nat} {x1 : Int32} {x2 : Int32} (hT : tp p σ) (k_h0 : tz_C h0 = some (3, 11, 0, 0)) : tz_O2 (fun (z : Int32) (s : ez_H) => tq_iv (-2147483648) 2147483647 z ∧ tp p s) (z_X11_ask σ h0 x1 x2) := by
  show tz_O (fun z : Int32 × ez_H => (fun (z : Int32) (s : ez_H) => tq_iv (-2147483648) 2147483647 z ∧ tp p s) z.1 z.2) _
  unfold z_X11_ask
  refine tz_bd (tz_ob hT k_h0) (fun _ _ => ?_)
  have K_9 : tz_O (fun z : Int32 × ez_H => (fun (z : Int32) (s : ez_H) => tq_iv (-2147483648) 2147483647 z ∧ tp p s) z.1 z.2) (z_X11_ask_9 σ) := by
    unfold z_X11_ask_9
    exact tz_some ⟨(tq_top (-1 : Int32)), hT⟩
  refine tz_if _ (fun c1106 => ?_) (fun c1106 => ?_)
  ·
    have i1_x1 : tq_iv (-2147483648) (-1) x1 := tq_cut (tq_top x1) (tq_ltL c1106 (tq_top x1) tk_0) (by decide) (by decide)
    exact K_9 
  ·
    have i2_x1 : tq_iv 0 2147483647 x1 := tq_cut (tq_top x1) (tq_leR (tq_nlt c1106) tk_0 (tq_top x1)) (by decide) (by decide)
    refine tz_if _ (fun c1105 => ?_) (fun c1105 => ?_)
    ·
      have i3_x1 : tq_iv 0 1 x1 := tq_cut i2_x1 (tq_leL c1105 i2_x1 tk_1) (by decide) (by decide)
      refine tz_b2 (tz_X11_fits hT k_h0) (fun t_13 σ1103 ⟨i_t_13, T1103⟩ => ?_)
      refine tz_if _ (fun c1102 => ?_) (fun c1102 => ?_)
      ·
        have i4_t_13 : tq_iv 0 0 t_13 := tq_cut (tq_top t_13) (tq_eqL c1102 tk_0) (by decide) (by decide)
        exact tz_some ⟨(tq_top (-1 : Int32)), T1103⟩
      ·
        refine tz_be (tg_11_14 T1103 k_h0) (fun t_24 e1101 k_t_24 => ?_)
        refine tz_bd (tz_X10_knownAt T1103 k_t_24 (tq_w tk_1 (by decide) (by decide))) (fun t_29 i_t_29 => ?_)
        refine tz_bk e1101 ?_
        refine tz_bd (tz_X10_knownAt T1103 k_t_24 (tq_w tk_0 (by decide) (by decide))) (fun t_40 i_t_40 => ?_)
        have L_54 : ∀ (n_54 : Nat) (k_54 : ez_H → Nat → Int32 → Int32 → Int32 → Int32 → Int32 → Int32 → Int32 → Option (Int32 × ez_H)), (∀ (x6_54 : Int32) (x7_54 : Int32) (x8_54 : Int32), tq_iv (-1) 2147483646 x6_54 → tq_iv 0 2147483647 x8_54 → (2147483647 - x8_54.toInt).toNat < n_54 → tz_O (fun z : Int32 × ez_H => (fun (z : Int32) (s : ez_H) => tq_iv (-2147483648) 2147483647 z ∧ tp p s) z.1 z.2) (k_54 σ1103 h0 x1 t_13 t_29 t_40 x6_54 x7_54 x8_54)) → ∀ (x6_54 : Int32) (x7_54 : Int32) (x8_54 : Int32), tq_iv (-1) 2147483646 x6_54 → tq_iv 0 2147483647 x8_54 → (2147483647 - x8_54.toInt).toNat < n_54 + 1 → tz_O (fun z : Int32 × ez_H => (fun (z : Int32) (s : ez_H) => tq_iv (-2147483648) 2147483647 z ∧ tp p s) z.1 z.2) (z_X11_ask_54 k_54 σ1103 h0 x1 t_13 t_29 t_40 x6_54 x7_54 x8_54) := by
          intro n_54 k_54 hk_54 x6_54 x7_54 x8_54 i_x6_54 i_x8_54 hn_54
          unfold z_X11_ask_54
          refine tz_be (tg_11_3 T1103 k_h0) (fun t_57 e1094 k_t_57 => ?_)
          refine tz_be (tg_3_4 T1103 k_t_57) (fun t_60 e1093 i_t_60 => ?_)
          refine tz_if _ (fun c1092 => ?_) (fun c1092 => ?_)
          ·
            have K_139 : ∀ (y0_139 : Int32), tz_O (fun z : Int32 × ez_H => (fun (z : Int32) (s : ez_H) => tq_iv (-2147483648) 2147483647 z ∧ tp p s) z.1 z.2) (z_X11_ask_139 σ1103 y0_139) := by
              intro y0_139
              unfold z_X11_ask_139
              exact tz_some ⟨(tq_top y0_139), T1103⟩
            have K_132 : tz_O (fun z : Int32 × ez_H => (fun (z : Int32) (s : ez_H) => tq_iv (-2147483648) 2147483647 z ∧ tp p s) z.1 z.2) (z_X11_ask_132 σ1103 x6_54) := by
              unfold z_X11_ask_132
              exact K_139 x6_54
            refine tz_if _ (fun c1080 => ?_) (fun c1080 => ?_)
            ·
              have i5_x1 : tq_iv 0 0 x1 := tq_cut i3_x1 (tq_eqL c1080 tk_0) (by decide) (by decide)
              exact K_132 
            ·
              have i6_x1 : tq_iv 1 1 x1 := tq_w (tq_neLo c1080 i3_x1 tk_0) (by decide) (by decide)
              refine tz_if _ (fun c1079 => ?_) (fun c1079 => ?_)
              ·
                have i7_x6_54 : tq_iv (-1) (-1) x6_54 := tq_cut i_x6_54 (tq_eqL c1079 tk_m1) (by decide) (by decide)
                exact K_132 
              ·
                have i8_x6_54 : tq_iv 0 2147483646 x6_54 := tq_w (tq_neLo c1079 i_x6_54 tk_m1) (by decide) (by decide)
                exact K_139 x7_54
          ·
            have i9_x8_54 : tq_iv 0 2147483646 x8_54 := tq_cut i_x8_54 (tq_ltL (tq_nle c1092) i_x8_54 (tq_top t_60)) (by decide) (by decide)
            have i10_t_60 : tq_iv 1 2147483647 t_60 := tq_cut (tq_top t_60) (tq_ltR (tq_nle c1092) i_x8_54 (tq_top t_60)) (by decide) (by decide)
            refine tz_be (tg_11_11 T1103 k_h0) (fun t_67 e1091 k_t_67 => ?_)
            refine tz_let (fun t_75 e1090 => ?_)
            refine tz_let (fun t_76 e1089 => ?_)
            refine tz_bd (tz_X8_total T1103 k_t_67) (fun t_79 i_t_79 => ?_)
            refine tz_let (fun t_89 e1087 => ?_)
            refine tz_let (fun t_90 e1086 => ?_)
            have K_116 : ∀ (x6_116 : Int32) (x7_116 : Int32), tq_iv 0 2147483646 x6_116 → tz_O (fun z : Int32 × ez_H => (fun (z : Int32) (s : ez_H) => tq_iv (-2147483648) 2147483647 z ∧ tp p s) z.1 z.2) (z_X11_ask_116 k_54 σ1103 h0 x1 t_13 t_29 t_40 x6_116 x7_116 x8_54) := by
              intro x6_116 x7_116 i_x6_116
              unfold z_X11_ask_116
              refine tz_let (fun t_116 e1074 => ?_)
              have i11_t_116 : tq_iv 1 2147483647 t_116 := tq_w (tq_add e1074 i9_x8_54 tk_1 (by decide) (by decide)) (by decide) (by decide)
              exact hk_54 x6_116 x7_116 t_116 (tq_w i_x6_116 (by decide) (by decide)) (tq_w i11_t_116 (by decide) (by decide)) (tq_up e1074 i9_x8_54 tk_1 (by decide) (by decide) hn_54)
            have K_108 : tz_O (fun z : Int32 × ez_H => (fun (z : Int32) (s : ez_H) => tq_iv (-2147483648) 2147483647 z ∧ tp p s) z.1 z.2) (z_X11_ask_108 k_54 σ1103 h0 x1 t_13 t_29 t_40 x8_54 t_90) := by
              unfold z_X11_ask_108
              exact K_116 x8_54 t_90 i9_x8_54
            refine tz_if _ (fun c1085 => ?_) (fun c1085 => ?_)
            ·
              have i12_x6_54 : tq_iv (-1) (-1) x6_54 := tq_cut i_x6_54 (tq_eqL c1085 tk_m1) (by decide) (by decide)
              exact K_108 
            ·
              have i13_x6_54 : tq_iv 0 2147483646 x6_54 := tq_w (tq_neLo c1085 i_x6_54 tk_m1) (by decide) (by decide)
              refine tz_if _ (fun c1084 => ?_) (fun c1084 => ?_)
              ·
                exact K_116 x6_54 x7_54 i13_x6_54
              ·
                have i14_t_90 : tq_iv (-2147483648) 2147483646 t_90 := tq_cut (tq_top t_90) (tq_ltL (tq_nle c1084) (tq_top t_90) (tq_top x7_54)) (by decide) (by decide)
                have i15_x7_54 : tq_iv (-2147483647) 2147483647 x7_54 := tq_cut (tq_top x7_54) (tq_ltR (tq_nle c1084) (tq_top t_90) (tq_top x7_54)) (by decide) (by decide)
                exact K_108 
        have E_54 : ∀ (x6_54 : Int32) (x7_54 : Int32) (x8_54 : Int32), tq_iv (-1) 2147483646 x6_54 → tq_iv 0 2147483647 x8_54 → tz_O (fun z : Int32 × ez_H => (fun (z : Int32) (s : ez_H) => tq_iv (-2147483648) 2147483647 z ∧ tp p s) z.1 z.2) (ez_fix (fun _ _ _ _ _ _ _ _ _ => none) (z_X11_ask_54) ez_N σ1103 h0 x1 t_13 t_29 t_40 x6_54 x7_54 x8_54) := by
          intro x6_54 x7_54 x8_54 i_x6_54 i_x8_54
          exact ez_fix_indn (fun n_54 (k_54 : ez_H → Nat → Int32 → Int32 → Int32 → Int32 → Int32 → Int32 → Int32 → Option (Int32 × ez_H)) => ∀ (x6_54 : Int32) (x7_54 : Int32) (x8_54 : Int32), tq_iv (-1) 2147483646 x6_54 → tq_iv 0 2147483647 x8_54 → (2147483647 - x8_54.toInt).toNat < n_54 → tz_O (fun z : Int32 × ez_H => (fun (z : Int32) (s : ez_H) => tq_iv (-2147483648) 2147483647 z ∧ tp p s) z.1 z.2) (k_54 σ1103 h0 x1 t_13 t_29 t_40 x6_54 x7_54 x8_54)) (by intros; rename_i h; exact absurd h (Nat.not_lt_zero _)) L_54 ez_N x6_54 x7_54 x8_54 i_x6_54 i_x8_54 (tq_m0 x8_54)
        exact E_54 (-1 : Int32) (0 : Int32) (0 : Int32) (tq_w tk_m1 (by decide) (by decide)) (tq_w tk_0 (by decide) (by decide))
    ·
      have i16_x1 : tq_iv 2 2147483647 x1 := tq_cut i2_x1 (tq_ltR (tq_nle c1105) tk_1 i2_x1) (by decide) (by decide)
      exact K_9
set_option maxRecDepth 4000 in
theorem tz_X7_copyFrom {p : tz_P} {σ : ez_H} {h0 : Nat} {h1 : Nat} (hT : tp p σ) (k_h0 : tz_C h0 = some (3, 7, 0, 0)) (k_h1 : tz_C h1 = some (3, 7, 0, 0)) : tz_O2 (fun (z : Unit) (s : ez_H) => tp p s) (z_X7_copyFrom σ h0 h1) := by
  show tz_O (fun z : Unit × ez_H => (fun (z : Unit) (s : ez_H) => tp p s) z.1 z.2) _
  unfold z_X7_copyFrom
  refine tz_bd (tz_ob hT k_h0) (fun _ _ => ?_)
  refine tz_be (tg_7_0 hT k_h1) (fun t_1 e1111 k_t_1 => ?_)
  refine tz_be (tg_7_0 hT k_h0) (fun t_6 e1110 k_t_6 => ?_)
  refine tz_be (tz_cp hT k_t_1 k_t_6 (te_0 (p := p)) tk_35 (by decide) (by decide) (by decide)) (fun σ1109 e1109 T1109 => ?_)
  exact tz_some T1109
set_option maxRecDepth 4000 in
theorem tz_X1_forget {p : tz_P} {σ : ez_H} {h0 : Nat} (hT : tp p σ) (k_h0 : tz_C h0 = some (3, 1, 0, 0)) : tz_O2 (fun (z : Unit) (s : ez_H) => tp p s) (z_X1_forget σ h0) := by
  show tz_O (fun z : Unit × ez_H => (fun (z : Unit) (s : ez_H) => tp p s) z.1 z.2) _
  unfold z_X1_forget
  refine tz_bd (tz_ob hT k_h0) (fun _ _ => ?_)
  refine tz_be (tw_1_1 hT k_h0 (tq_top (0 : Int32))) (fun σ1116 e1116 T1116 => ?_)
  refine tz_be (tw_1_2 T1116 k_h0 (tq_top (0 : Int32))) (fun σ1115 e1115 T1115 => ?_)
  refine tz_be (tw_1_3 T1115 k_h0 (tq_top (0 : Int32))) (fun σ1114 e1114 T1114 => ?_)
  exact tz_some T1114
set_option maxRecDepth 4000 in
theorem tz_X7_holder {p : tz_P} {σ : ez_H} {h0 : Nat} {x1 : Int32} (hT : tp p σ) (k_h0 : tz_C h0 = some (3, 7, 0, 0)) (i_x1 : tq_iv 0 7 x1) : tz_O (fun z => tq_iv (-2147483648) 2147483647 z) (z_X7_holder σ h0 x1) := by
  unfold z_X7_holder
  refine tz_bd (tz_ob hT k_h0) (fun _ _ => ?_)
  refine tz_let (fun t_4 e1120 => ?_)
  have i1_t_4 : tq_iv 16 23 t_4 := tq_w (tq_add e1120 tk_16 i_x1 (by decide) (by decide)) (by decide) (by decide)
  refine tz_bd (tz_X7_look hT k_h0) (fun t_5 i_t_5 => ?_)
  exact tz_some (tq_top t_5)
set_option maxRecDepth 4000 in
theorem tz_X7_heldBy {p : tz_P} {σ : ez_H} {h0 : Nat} {x1 : Int32} {x2 : Int32} (hT : tp p σ) (k_h0 : tz_C h0 = some (3, 7, 0, 0)) (i_x1 : tq_iv (-2) 2147483646 x1) (i_x2 : tq_iv 0 8 x2) : tz_O (fun z => tq_iv (-2147483648) 2147483647 z) (z_X7_heldBy σ h0 x1 x2) := by
  unfold z_X7_heldBy
  refine tz_bd (tz_ob hT k_h0) (fun _ _ => ?_)
  have L_5 : ∀ (n_5 : Nat) (k_5 : Nat → Int32 → Int32 → Int32 → Int32 → Option (Int32)), (∀ (x3_5 : Int32) (x4_5 : Int32), tq_iv 0 8 x4_5 → (2147483647 - x4_5.toInt).toNat < n_5 → tz_O (fun (z : Int32) => tq_iv (-2147483648) 2147483647 z) (k_5 h0 x1 x2 x3_5 x4_5)) → ∀ (x3_5 : Int32) (x4_5 : Int32), tq_iv 0 8 x4_5 → (2147483647 - x4_5.toInt).toNat < n_5 + 1 → tz_O (fun (z : Int32) => tq_iv (-2147483648) 2147483647 z) (z_X7_heldBy_5 σ k_5 h0 x1 x2 x3_5 x4_5) := by
    intro n_5 k_5 hk_5 x3_5 x4_5 i_x4_5 hn_5
    unfold z_X7_heldBy_5
    have K_41 : tz_O (fun (z : Int32) => tq_iv (-2147483648) 2147483647 z) (z_X7_heldBy_41 σ x3_5) := by
      unfold z_X7_heldBy_41
      exact tz_some (tq_top x3_5)
    refine tz_if _ (fun c1134 => ?_) (fun c1134 => ?_)
    ·
      exact K_41 
    ·
      have i1_x4_5 : tq_iv 0 7 x4_5 := tq_cut i_x4_5 (tq_ltL (tq_nle c1134) i_x4_5 i_x2) (by decide) (by decide)
      have i2_x2 : tq_iv 1 8 x2 := tq_cut i_x2 (tq_ltR (tq_nle c1134) i_x4_5 i_x2) (by decide) (by decide)
      refine tz_if _ (fun c1133 => ?_) (fun c1133 => ?_)
      ·
        exact (tq_xle c1133 tk_8 i1_x4_5 (by decide)).elim
      ·
        refine tz_bd (tz_X7_holder hT k_h0 i1_x4_5) (fun t_21 i_t_21 => ?_)
        have K_35 : ∀ (x3_35 : Int32), tz_O (fun (z : Int32) => tq_iv (-2147483648) 2147483647 z) (z_X7_heldBy_35 σ k_5 h0 x1 x2 x3_35 x4_5) := by
          intro x3_35
          unfold z_X7_heldBy_35
          refine tz_let (fun t_35 e1124 => ?_)
          have i3_t_35 : tq_iv 1 8 t_35 := tq_w (tq_add e1124 i1_x4_5 tk_1 (by decide) (by decide)) (by decide) (by decide)
          exact hk_5 x3_35 t_35 (tq_w i3_t_35 (by decide) (by decide)) (tq_up e1124 i1_x4_5 tk_1 (by decide) (by decide) hn_5)
        refine tz_if _ (fun c1131 => ?_) (fun c1131 => ?_)
        ·
          have i4_t_21 : tq_iv (-2) 2147483646 t_21 := tq_cut (tq_top t_21) (tq_eqL c1131 i_x1) (by decide) (by decide)
          refine tz_let (fun t_32 e1129 => ?_)
          have i5_t_32 : tq_iv 1 128 t_32 := tq_shl1 e1129 i1_x4_5 (by decide) (by decide) (by decide) (by decide)
          refine tz_let (fun t_33 e1128 => ?_)
          exact K_35 t_33
        ·
          exact K_35 x3_5
  have E_5 : ∀ (x3_5 : Int32) (x4_5 : Int32), tq_iv 0 8 x4_5 → tz_O (fun (z : Int32) => tq_iv (-2147483648) 2147483647 z) (ez_fix (fun _ _ _ _ _ => none) (z_X7_heldBy_5 σ) ez_N h0 x1 x2 x3_5 x4_5) := by
    intro x3_5 x4_5 i_x4_5
    exact ez_fix_indn (fun n_5 (k_5 : Nat → Int32 → Int32 → Int32 → Int32 → Option (Int32)) => ∀ (x3_5 : Int32) (x4_5 : Int32), tq_iv 0 8 x4_5 → (2147483647 - x4_5.toInt).toNat < n_5 → tz_O (fun (z : Int32) => tq_iv (-2147483648) 2147483647 z) (k_5 h0 x1 x2 x3_5 x4_5)) (by intros; rename_i h; exact absurd h (Nat.not_lt_zero _)) L_5 ez_N x3_5 x4_5 i_x4_5 (tq_m0 x4_5)
  exact E_5 (0 : Int32) (0 : Int32) (tq_w tk_0 (by decide) (by decide))
set_option maxRecDepth 4000 in
theorem tz_J6_bitCount_0f7a4 {p : tz_P} {σ : ez_H} {x0 : Int32} (hT : tp p σ) : tz_O (fun z => tq_iv 0 63 z) (z_J6_bitCount_0f7a4 σ x0) := by
  unfold z_J6_bitCount_0f7a4
  refine tz_let (fun t_3 e1152 => ?_)
  refine tz_let (fun t_7 e1151 => ?_)
  have i1_t_7 : tq_iv 0 1431655765 t_7 := tq_and2 e1151 tk_1431655765 (by decide)
  refine tz_let (fun t_8 e1150 => ?_)
  refine tz_let (fun t_14 e1149 => ?_)
  have i2_t_14 : tq_iv 0 858993459 t_14 := tq_and2 e1149 tk_858993459 (by decide)
  refine tz_let (fun t_17 e1148 => ?_)
  refine tz_let (fun t_21 e1147 => ?_)
  have i3_t_21 : tq_iv 0 858993459 t_21 := tq_and2 e1147 tk_858993459 (by decide)
  refine tz_let (fun t_22 e1146 => ?_)
  have i4_t_22 : tq_iv 0 1717986918 t_22 := tq_w (tq_add e1146 i2_t_14 i3_t_21 (by decide) (by decide)) (by decide) (by decide)
  refine tz_let (fun t_27 e1145 => ?_)
  refine tz_let (fun t_28 e1144 => ?_)
  refine tz_let (fun t_32 e1143 => ?_)
  have i5_t_32 : tq_iv 0 252645135 t_32 := tq_and2 e1143 tk_252645135 (by decide)
  refine tz_let (fun t_38 e1142 => ?_)
  refine tz_let (fun t_39 e1141 => ?_)
  refine tz_let (fun t_45 e1140 => ?_)
  refine tz_let (fun t_46 e1139 => ?_)
  refine tz_let (fun t_51 e1138 => ?_)
  have i6_t_51 : tq_iv 0 63 t_51 := tq_and2 e1138 tk_63 (by decide)
  exact tz_some i6_t_51
set_option maxRecDepth 4000 in
theorem tz_X11_back {p : tz_P} {σ : ez_H} {h0 : Nat} {x1 : Int32} (hT : tp p σ) (k_h0 : tz_C h0 = some (3, 11, 0, 0)) : tz_O2 (fun (z : Int32) (s : ez_H) => tq_iv (-1) 63 z ∧ tp p s) (z_X11_back σ h0 x1) := by
  show tz_O (fun z : Int32 × ez_H => (fun (z : Int32) (s : ez_H) => tq_iv (-1) 63 z ∧ tp p s) z.1 z.2) _
  unfold z_X11_back
  refine tz_bd (tz_ob hT k_h0) (fun _ _ => ?_)
  have K_20 : tz_O (fun z : Int32 × ez_H => (fun (z : Int32) (s : ez_H) => tq_iv (-1) 63 z ∧ tp p s) z.1 z.2) (z_X11_back_20 σ) := by
    unfold z_X11_back_20
    exact tz_some ⟨(tq_w tk_m1 (by decide) (by decide)), hT⟩
  refine tz_if _ (fun c1174 => ?_) (fun c1174 => ?_)
  ·
    have i1_x1 : tq_iv (-2147483648) (-1) x1 := tq_cut (tq_top x1) (tq_ltL c1174 (tq_top x1) tk_0) (by decide) (by decide)
    exact K_20 
  ·
    have i2_x1 : tq_iv 0 2147483647 x1 := tq_cut (tq_top x1) (tq_leR (tq_nlt c1174) tk_0 (tq_top x1)) (by decide) (by decide)
    refine tz_if _ (fun c1173 => ?_) (fun c1173 => ?_)
    ·
      have i3_x1 : tq_iv 3 2147483647 x1 := tq_cut i2_x1 (tq_leR c1173 tk_3 i2_x1) (by decide) (by decide)
      exact K_20 
    ·
      have i4_x1 : tq_iv 0 2 x1 := tq_cut i2_x1 (tq_ltL (tq_nle c1173) i2_x1 tk_3) (by decide) (by decide)
      refine tz_be (tg_11_9 hT k_h0) (fun t_10 e1172 i_t_10 => ?_)
      refine tz_let (fun t_14 e1171 => ?_)
      refine tz_let (fun t_16 e1170 => ?_)
      have i5_t_16 : tq_iv 0 1 t_16 := tq_and2 e1170 tk_1 (by decide)
      refine tz_if _ (fun c1169 => ?_) (fun c1169 => ?_)
      ·
        have i6_t_16 : tq_iv 0 0 t_16 := tq_cut i5_t_16 (tq_eqL c1169 tk_0) (by decide) (by decide)
        exact K_20 
      ·
        have i7_t_16 : tq_iv 1 1 t_16 := tq_w (tq_neLo c1169 i5_t_16 tk_0) (by decide) (by decide)
        refine tz_be (tg_11_5 hT k_h0) (fun t_23 e1168 k_t_23 => ?_)
        refine tz_be (tg_11_8 hT k_h0) (fun t_27 e1167 k_t_27 => ?_)
        refine tz_be (tz_ra hT k_t_27 i4_x1 (by decide) (by decide)) (fun t_31 e1166 k_t_31 => ?_)
        refine tz_b2 (tz_X7_copyFrom hT k_t_23 k_t_31) (fun _ σ1165 T1165 => ?_)
        refine tz_be (tg_11_7 T1165 k_h0) (fun t_36 e1164 k_t_36 => ?_)
        refine tz_b2 (tz_X1_forget T1165 k_t_36) (fun _ σ1163 T1163 => ?_)
        refine tz_be (tg_11_5 T1163 k_h0) (fun t_43 e1162 k_t_43 => ?_)
        refine tz_be (tg_11_3 T1163 k_h0) (fun t_49 e1161 k_t_49 => ?_)
        refine tz_be (tg_3_3 T1163 k_t_49) (fun t_52 e1160 i_t_52 => ?_)
        refine tz_bd (tz_X7_heldBy T1163 k_t_43 (tq_w tk_m2 (by decide) (by decide)) i_t_52) (fun t_55 i_t_55 => ?_)
        refine tz_bd (tz_J6_bitCount_0f7a4 T1163) (fun t_58 i_t_58 => ?_)
        exact tz_some ⟨(tq_w i_t_58 (by decide) (by decide)), T1163⟩
set_option maxRecDepth 4000 in
theorem tz_X3_allRooms {p : tz_P} {σ : ez_H} {h0 : Nat} (hT : tp p σ) (k_h0 : tz_C h0 = some (3, 3, 0, 0)) : tz_O (fun z => tq_iv (-2147483648) 2147483647 z) (z_X3_allRooms σ h0) := by
  unfold z_X3_allRooms
  refine tz_bd (tz_ob hT k_h0) (fun _ _ => ?_)
  refine tz_be (tg_3_5 hT k_h0) (fun t_2 e1179 i_t_2 => ?_)
  refine tz_let (fun t_5 e1178 => ?_)
  refine tz_let (fun t_7 e1177 => ?_)
  exact tz_some (tq_top t_7)
set_option maxRecDepth 4000 in
theorem tz_X7_room {p : tz_P} {σ : ez_H} {h0 : Nat} {x1 : Int32} (hT : tp p σ) (k_h0 : tz_C h0 = some (3, 7, 0, 0)) : tz_O (fun z => tq_iv (-2147483648) 2147483647 z) (z_X7_room σ h0 x1) := by
  unfold z_X7_room
  refine tz_bd (tz_ob hT k_h0) (fun _ _ => ?_)
  refine tz_let (fun t_4 e1183 => ?_)
  refine tz_bd (tz_X7_look hT k_h0) (fun t_5 i_t_5 => ?_)
  exact tz_some (tq_top t_5)
set_option maxRecDepth 4000 in
theorem tz_X7_bits {p : tz_P} {σ : ez_H} {h0 : Nat} {x1 : Int32} (hT : tp p σ) (k_h0 : tz_C h0 = some (3, 7, 0, 0)) : tz_O (fun z => tq_iv (-2147483648) 2147483647 z) (z_X7_bits σ h0 x1) := by
  unfold z_X7_bits
  refine tz_bd (tz_ob hT k_h0) (fun _ _ => ?_)
  refine tz_bd (tz_X7_look hT k_h0) (fun t_2 i_t_2 => ?_)
  exact tz_some (tq_top t_2)
set_option maxRecDepth 4000 in
theorem tz_X6_fitsIn {p : tz_P} {σ : ez_H} {x0 : Int32} {x1 : Int32} (hT : tp p σ) : tz_O (fun z => tq_iv 0 1 z) (z_X6_fitsIn σ x0 x1) := by
  unfold z_X6_fitsIn
  refine tz_let (fun t_3 e1194 => ?_)
  refine tz_let (fun t_4 e1193 => ?_)
  have K_13 : ∀ (y0_13 : Int32), tq_iv 0 1 y0_13 → (¬ y0_13 = 0 → tq_iv 0 0 t_4) → tz_O (fun (z : Int32) => tq_iv 0 1 z) (z_X6_fitsIn_13 σ y0_13) := by
    intro y0_13 i_y0_13 g13_y0_13_t_4
    unfold z_X6_fitsIn_13
    refine tz_nr (tq_nr_boolean i_y0_13) ?_
    exact tz_some i_y0_13
  refine tz_if _ (fun c1192 => ?_) (fun c1192 => ?_)
  ·
    have i1_t_4 : tq_iv 0 0 t_4 := tq_cut (tq_top t_4) (tq_eqL c1192 tk_0) (by decide) (by decide)
    exact K_13 (1 : Int32) (tq_w tk_1 (by decide) (by decide)) (fun _ => i1_t_4)
  ·
    exact K_13 (0 : Int32) (tq_w tk_0 (by decide) (by decide)) (fun h => absurd rfl h)
set_option maxRecDepth 4000 in
theorem tz_X2_locksFor {p : tz_P} {σ : ez_H} {h0 : Nat} {x1 : Int32} (hT : tp p σ) (k_h0 : tz_C h0 = some (3, 2, 0, 0)) : tz_O (fun z => tq_iv (-2147483648) 2147483647 z) (z_X2_locksFor σ h0 x1) := by
  unfold z_X2_locksFor
  refine tz_bd (tz_ob hT k_h0) (fun _ _ => ?_)
  have L_4 : ∀ (n_4 : Nat) (k_4 : Nat → Int32 → Int32 → Int32 → Option (Int32)), (∀ (x2_4 : Int32) (x3_4 : Int32), tq_iv 0 8 x3_4 → (2147483647 - x3_4.toInt).toNat < n_4 → tz_O (fun (z : Int32) => tq_iv (-2147483648) 2147483647 z) (k_4 h0 x1 x2_4 x3_4)) → ∀ (x2_4 : Int32) (x3_4 : Int32), tq_iv 0 8 x3_4 → (2147483647 - x3_4.toInt).toNat < n_4 + 1 → tz_O (fun (z : Int32) => tq_iv (-2147483648) 2147483647 z) (z_X2_locksFor_4 σ k_4 h0 x1 x2_4 x3_4) := by
    intro n_4 k_4 hk_4 x2_4 x3_4 i_x3_4 hn_4
    unfold z_X2_locksFor_4
    refine tz_be (tg_2_0 hT k_h0) (fun t_6 e1221 k_t_6 => ?_)
    refine tz_be (tg_3_3 hT k_t_6) (fun t_9 e1220 i_t_9 => ?_)
    refine tz_if _ (fun c1219 => ?_) (fun c1219 => ?_)
    ·
      exact tz_some (tq_top x2_4)
    ·
      have i1_x3_4 : tq_iv 0 7 x3_4 := tq_cut i_x3_4 (tq_ltL (tq_nle c1219) i_x3_4 i_t_9) (by decide) (by decide)
      have i2_t_9 : tq_iv 1 8 t_9 := tq_cut i_t_9 (tq_ltR (tq_nle c1219) i_x3_4 i_t_9) (by decide) (by decide)
      have L_18 : ∀ (n_18 : Nat) (k_18 : Nat → Int32 → Int32 → Int32 → Int32 → Option (Int32)), (∀ (x2_18 : Int32) (x4_18 : Int32), tq_iv 0 2147483647 x4_18 → (2147483647 - x4_18.toInt).toNat < n_18 → tz_O (fun (z : Int32) => tq_iv (-2147483648) 2147483647 z) (k_18 h0 x1 x2_18 x3_4 x4_18)) → ∀ (x2_18 : Int32) (x4_18 : Int32), tq_iv 0 2147483647 x4_18 → (2147483647 - x4_18.toInt).toNat < n_18 + 1 → tz_O (fun (z : Int32) => tq_iv (-2147483648) 2147483647 z) (z_X2_locksFor_18 σ k_4 k_18 h0 x1 x2_18 x3_4 x4_18) := by
        intro n_18 k_18 hk_18 x2_18 x4_18 i_x4_18 hn_18
        unfold z_X2_locksFor_18
        refine tz_bk e1221 ?_
        refine tz_be (tg_3_4 hT k_t_6) (fun t_24 e1215 i_t_24 => ?_)
        have K_74 : tz_O (fun (z : Int32) => tq_iv (-2147483648) 2147483647 z) (z_X2_locksFor_74 σ k_4 h0 x1 x2_18 x3_4) := by
          unfold z_X2_locksFor_74
          refine tz_let (fun t_74 e1196 => ?_)
          have i3_t_74 : tq_iv 1 8 t_74 := tq_w (tq_add e1196 i1_x3_4 tk_1 (by decide) (by decide)) (by decide) (by decide)
          exact hk_4 x2_18 t_74 (tq_w i3_t_74 (by decide) (by decide)) (tq_up e1196 i1_x3_4 tk_1 (by decide) (by decide) hn_4)
        refine tz_if _ (fun c1214 => ?_) (fun c1214 => ?_)
        ·
          exact K_74 
        ·
          have i4_x4_18 : tq_iv 0 2147483646 x4_18 := tq_cut i_x4_18 (tq_ltL (tq_nle c1214) i_x4_18 (tq_top t_24)) (by decide) (by decide)
          have i5_t_24 : tq_iv 1 2147483647 t_24 := tq_cut (tq_top t_24) (tq_ltR (tq_nle c1214) i_x4_18 (tq_top t_24)) (by decide) (by decide)
          refine tz_let (fun t_32 e1213 => ?_)
          refine tz_let (fun t_34 e1212 => ?_)
          have i6_t_34 : tq_iv 0 1 t_34 := tq_and2 e1212 tk_1 (by decide)
          refine tz_if _ (fun c1211 => ?_) (fun c1211 => ?_)
          ·
            have i7_t_34 : tq_iv 0 0 t_34 := tq_cut i6_t_34 (tq_eqL c1211 tk_0) (by decide) (by decide)
            exact K_74 
          ·
            have i8_t_34 : tq_iv 1 1 t_34 := tq_w (tq_neLo c1211 i6_t_34 tk_0) (by decide) (by decide)
            refine tz_be (tg_2_1 hT k_h0) (fun t_39 e1210 k_t_39 => ?_)
            refine tz_bd (tz_X7_bits hT k_t_39) (fun t_43 i_t_43 => ?_)
            refine tz_bk e1210 ?_
            refine tz_bd (tz_X7_pins hT k_t_39) (fun t_52 i_t_52 => ?_)
            refine tz_bd (tz_X6_fitsIn hT) (fun t_55 i_t_55 => ?_)
            have K_68 : ∀ (x2_68 : Int32), tz_O (fun (z : Int32) => tq_iv (-2147483648) 2147483647 z) (z_X2_locksFor_68 σ k_4 k_18 h0 x1 x2_68 x3_4 x4_18) := by
              intro x2_68
              unfold z_X2_locksFor_68
              refine tz_let (fun t_68 e1198 => ?_)
              have i9_t_68 : tq_iv 1 2147483647 t_68 := tq_w (tq_add e1198 i4_x4_18 tk_1 (by decide) (by decide)) (by decide) (by decide)
              exact hk_18 x2_68 t_68 (tq_w i9_t_68 (by decide) (by decide)) (tq_up e1198 i4_x4_18 tk_1 (by decide) (by decide) hn_18)
            refine tz_if _ (fun c1205 => ?_) (fun c1205 => ?_)
            ·
              have i10_t_55 : tq_iv 0 0 t_55 := tq_cut i_t_55 (tq_eqL c1205 tk_0) (by decide) (by decide)
              exact K_68 x2_18
            ·
              have i11_t_55 : tq_iv 1 1 t_55 := tq_w (tq_neLo c1205 i_t_55 tk_0) (by decide) (by decide)
              refine tz_let (fun t_65 e1204 => ?_)
              refine tz_let (fun t_66 e1203 => ?_)
              exact K_68 t_66
      have E_18 : ∀ (x2_18 : Int32) (x4_18 : Int32), tq_iv 0 2147483647 x4_18 → tz_O (fun (z : Int32) => tq_iv (-2147483648) 2147483647 z) (ez_fix (fun _ _ _ _ _ => none) (z_X2_locksFor_18 σ k_4) ez_N h0 x1 x2_18 x3_4 x4_18) := by
        intro x2_18 x4_18 i_x4_18
        exact ez_fix_indn (fun n_18 (k_18 : Nat → Int32 → Int32 → Int32 → Int32 → Option (Int32)) => ∀ (x2_18 : Int32) (x4_18 : Int32), tq_iv 0 2147483647 x4_18 → (2147483647 - x4_18.toInt).toNat < n_18 → tz_O (fun (z : Int32) => tq_iv (-2147483648) 2147483647 z) (k_18 h0 x1 x2_18 x3_4 x4_18)) (by intros; rename_i h; exact absurd h (Nat.not_lt_zero _)) L_18 ez_N x2_18 x4_18 i_x4_18 (tq_m0 x4_18)
      exact E_18 x2_4 (0 : Int32) (tq_w tk_0 (by decide) (by decide))
  have E_4 : ∀ (x2_4 : Int32) (x3_4 : Int32), tq_iv 0 8 x3_4 → tz_O (fun (z : Int32) => tq_iv (-2147483648) 2147483647 z) (ez_fix (fun _ _ _ _ => none) (z_X2_locksFor_4 σ) ez_N h0 x1 x2_4 x3_4) := by
    intro x2_4 x3_4 i_x3_4
    exact ez_fix_indn (fun n_4 (k_4 : Nat → Int32 → Int32 → Int32 → Option (Int32)) => ∀ (x2_4 : Int32) (x3_4 : Int32), tq_iv 0 8 x3_4 → (2147483647 - x3_4.toInt).toNat < n_4 → tz_O (fun (z : Int32) => tq_iv (-2147483648) 2147483647 z) (k_4 h0 x1 x2_4 x3_4)) (by intros; rename_i h; exact absurd h (Nat.not_lt_zero _)) L_4 ez_N x2_4 x3_4 i_x3_4 (tq_m0 x3_4)
  exact E_4 (0 : Int32) (0 : Int32) (tq_w tk_0 (by decide) (by decide))
set_option maxRecDepth 4000 in
theorem tz_X3_doorFrom {p : tz_P} {σ : ez_H} {h0 : Nat} {x1 : Int32} (hT : tp p σ) (k_h0 : tz_C h0 = some (3, 3, 0, 0)) (i_x1 : tq_iv (-1) 2147483646 x1) : tz_O (fun z => tq_iv (-2147483648) 2147483647 z) (z_X3_doorFrom σ h0 x1) := by
  unfold z_X3_doorFrom
  refine tz_bd (tz_ob hT k_h0) (fun _ _ => ?_)
  refine tz_be (tg_3_8 hT k_h0) (fun t_1 e1235 k_t_1 => ?_)
  refine tz_bd (tz_X3_look hT k_t_1) (fun t_5 i_t_5 => ?_)
  exact tz_some (tq_top t_5)
set_option maxRecDepth 4000 in
theorem tz_X3_doorTo {p : tz_P} {σ : ez_H} {h0 : Nat} {x1 : Int32} (hT : tp p σ) (k_h0 : tz_C h0 = some (3, 3, 0, 0)) (i_x1 : tq_iv (-1) 2147483646 x1) : tz_O (fun z => tq_iv (-2147483648) 2147483647 z) (z_X3_doorTo σ h0 x1) := by
  unfold z_X3_doorTo
  refine tz_bd (tz_ob hT k_h0) (fun _ _ => ?_)
  refine tz_be (tg_3_9 hT k_h0) (fun t_1 e1239 k_t_1 => ?_)
  refine tz_bd (tz_X3_look hT k_t_1) (fun t_5 i_t_5 => ?_)
  exact tz_some (tq_top t_5)
set_option maxRecDepth 4000 in
theorem tz_X3_doorLock {p : tz_P} {σ : ez_H} {h0 : Nat} {x1 : Int32} (hT : tp p σ) (k_h0 : tz_C h0 = some (3, 3, 0, 0)) (i_x1 : tq_iv 0 2147483646 x1) : tz_O (fun z => tq_iv (-2147483648) 2147483647 z) (z_X3_doorLock σ h0 x1) := by
  unfold z_X3_doorLock
  refine tz_bd (tz_ob hT k_h0) (fun _ _ => ?_)
  refine tz_be (tg_3_10 hT k_h0) (fun t_1 e1243 k_t_1 => ?_)
  refine tz_bd (tz_X3_look hT k_t_1) (fun t_5 i_t_5 => ?_)
  exact tz_some (tq_top t_5)
set_option maxRecDepth 4000 in
theorem tz_X2_flood {p : tz_P} {σ : ez_H} {h0 : Nat} {x1 : Int32} {x2 : Int32} (hT : tp p σ) (k_h0 : tz_C h0 = some (3, 2, 0, 0)) : tz_O (fun z => tq_iv (-2147483648) 2147483647 z) (z_X2_flood σ h0 x1 x2) := by
  unfold z_X2_flood
  refine tz_bd (tz_ob hT k_h0) (fun _ _ => ?_)
  refine tz_let (fun t_2 e1274 => ?_)
  have L_7 : ∀ (n_7 : Nat) (k_7 : Nat → Int32 → Int32 → Int32 → Option (Int32)), (∀ (x3_7 : Int32) (x4_7 : Int32), tq_iv 0 6 x4_7 → (2147483647 - x4_7.toInt).toNat < n_7 → tz_O (fun (z : Int32) => tq_iv (-2147483648) 2147483647 z) (k_7 h0 x2 x3_7 x4_7)) → ∀ (x3_7 : Int32) (x4_7 : Int32), tq_iv 0 6 x4_7 → (2147483647 - x4_7.toInt).toNat < n_7 + 1 → tz_O (fun (z : Int32) => tq_iv (-2147483648) 2147483647 z) (z_X2_flood_7 σ k_7 h0 x2 x3_7 x4_7) := by
    intro n_7 k_7 hk_7 x3_7 x4_7 i_x4_7 hn_7
    unfold z_X2_flood_7
    refine tz_if _ (fun c1272 => ?_) (fun c1272 => ?_)
    ·
      have i1_x4_7 : tq_iv 6 6 x4_7 := tq_cut i_x4_7 (tq_leR c1272 tk_6 i_x4_7) (by decide) (by decide)
      exact tz_some (tq_top x3_7)
    ·
      have i2_x4_7 : tq_iv 0 5 x4_7 := tq_cut i_x4_7 (tq_ltL (tq_nle c1272) i_x4_7 tk_6) (by decide) (by decide)
      have L_17 : ∀ (n_17 : Nat) (k_17 : Nat → Int32 → Int32 → Int32 → Int32 → Option (Int32)), (∀ (x3_17 : Int32) (x5_17 : Int32), tq_iv 0 2147483647 x5_17 → (2147483647 - x5_17.toInt).toNat < n_17 → tz_O (fun (z : Int32) => tq_iv (-2147483648) 2147483647 z) (k_17 h0 x2 x3_17 x4_7 x5_17)) → ∀ (x3_17 : Int32) (x5_17 : Int32), tq_iv 0 2147483647 x5_17 → (2147483647 - x5_17.toInt).toNat < n_17 + 1 → tz_O (fun (z : Int32) => tq_iv (-2147483648) 2147483647 z) (z_X2_flood_17 σ k_7 k_17 h0 x2 x3_17 x4_7 x5_17) := by
        intro n_17 k_17 hk_17 x3_17 x5_17 i_x5_17 hn_17
        unfold z_X2_flood_17
        refine tz_be (tg_2_0 hT k_h0) (fun t_20 e1269 k_t_20 => ?_)
        refine tz_be (tg_3_6 hT k_t_20) (fun t_23 e1268 i_t_23 => ?_)
        refine tz_if _ (fun c1267 => ?_) (fun c1267 => ?_)
        ·
          refine tz_let (fun t_88 e1248 => ?_)
          have i3_t_88 : tq_iv 1 6 t_88 := tq_w (tq_add e1248 i2_x4_7 tk_1 (by decide) (by decide)) (by decide) (by decide)
          exact hk_7 x3_17 t_88 (tq_w i3_t_88 (by decide) (by decide)) (tq_up e1248 i2_x4_7 tk_1 (by decide) (by decide) hn_7)
        ·
          have i4_x5_17 : tq_iv 0 2147483646 x5_17 := tq_cut i_x5_17 (tq_ltL (tq_nle c1267) i_x5_17 (tq_top t_23)) (by decide) (by decide)
          have i5_t_23 : tq_iv 1 2147483647 t_23 := tq_cut (tq_top t_23) (tq_ltR (tq_nle c1267) i_x5_17 (tq_top t_23)) (by decide) (by decide)
          refine tz_bk e1269 ?_
          refine tz_bd (tz_X3_doorFrom hT k_t_20 (tq_w i4_x5_17 (by decide) (by decide))) (fun t_36 i_t_36 => ?_)
          refine tz_let (fun t_39 e1264 => ?_)
          refine tz_bk e1269 ?_
          refine tz_bd (tz_X3_doorTo hT k_t_20 (tq_w i4_x5_17 (by decide) (by decide))) (fun t_47 i_t_47 => ?_)
          refine tz_let (fun t_50 e1261 => ?_)
          refine tz_let (fun t_51 e1260 => ?_)
          refine tz_bk e1269 ?_
          refine tz_bd (tz_X3_doorLock hT k_t_20 i4_x5_17) (fun t_61 i_t_61 => ?_)
          refine tz_let (fun t_64 e1257 => ?_)
          refine tz_let (fun t_66 e1256 => ?_)
          have i6_t_66 : tq_iv 0 1 t_66 := tq_and2 e1256 tk_1 (by decide)
          have K_82 : ∀ (x3_82 : Int32), tz_O (fun (z : Int32) => tq_iv (-2147483648) 2147483647 z) (z_X2_flood_82 σ k_7 k_17 h0 x2 x3_82 x4_7 x5_17) := by
            intro x3_82
            unfold z_X2_flood_82
            refine tz_let (fun t_82 e1246 => ?_)
            have i7_t_82 : tq_iv 1 2147483647 t_82 := tq_w (tq_add e1246 i4_x5_17 tk_1 (by decide) (by decide)) (by decide) (by decide)
            exact hk_17 x3_82 t_82 (tq_w i7_t_82 (by decide) (by decide)) (tq_up e1246 i4_x5_17 tk_1 (by decide) (by decide) hn_17)
          refine tz_if _ (fun c1255 => ?_) (fun c1255 => ?_)
          ·
            have i8_t_66 : tq_iv 0 0 t_66 := tq_cut i6_t_66 (tq_eqL c1255 tk_0) (by decide) (by decide)
            exact K_82 x3_17
          ·
            have i9_t_66 : tq_iv 1 1 t_66 := tq_w (tq_neLo c1255 i6_t_66 tk_0) (by decide) (by decide)
            refine tz_let (fun t_73 e1254 => ?_)
            refine tz_if _ (fun c1253 => ?_) (fun c1253 => ?_)
            ·
              have i10_t_73 : tq_iv 0 0 t_73 := tq_cut (tq_top t_73) (tq_eqL c1253 tk_0) (by decide) (by decide)
              exact K_82 x3_17
            ·
              refine tz_let (fun t_80 e1252 => ?_)
              exact K_82 t_80
      have E_17 : ∀ (x3_17 : Int32) (x5_17 : Int32), tq_iv 0 2147483647 x5_17 → tz_O (fun (z : Int32) => tq_iv (-2147483648) 2147483647 z) (ez_fix (fun _ _ _ _ _ => none) (z_X2_flood_17 σ k_7) ez_N h0 x2 x3_17 x4_7 x5_17) := by
        intro x3_17 x5_17 i_x5_17
        exact ez_fix_indn (fun n_17 (k_17 : Nat → Int32 → Int32 → Int32 → Int32 → Option (Int32)) => ∀ (x3_17 : Int32) (x5_17 : Int32), tq_iv 0 2147483647 x5_17 → (2147483647 - x5_17.toInt).toNat < n_17 → tz_O (fun (z : Int32) => tq_iv (-2147483648) 2147483647 z) (k_17 h0 x2 x3_17 x4_7 x5_17)) (by intros; rename_i h; exact absurd h (Nat.not_lt_zero _)) L_17 ez_N x3_17 x5_17 i_x5_17 (tq_m0 x5_17)
      exact E_17 x3_7 (0 : Int32) (tq_w tk_0 (by decide) (by decide))
  have E_7 : ∀ (x3_7 : Int32) (x4_7 : Int32), tq_iv 0 6 x4_7 → tz_O (fun (z : Int32) => tq_iv (-2147483648) 2147483647 z) (ez_fix (fun _ _ _ _ => none) (z_X2_flood_7 σ) ez_N h0 x2 x3_7 x4_7) := by
    intro x3_7 x4_7 i_x4_7
    exact ez_fix_indn (fun n_7 (k_7 : Nat → Int32 → Int32 → Int32 → Option (Int32)) => ∀ (x3_7 : Int32) (x4_7 : Int32), tq_iv 0 6 x4_7 → (2147483647 - x4_7.toInt).toNat < n_7 → tz_O (fun (z : Int32) => tq_iv (-2147483648) 2147483647 z) (k_7 h0 x2 x3_7 x4_7)) (by intros; rename_i h; exact absurd h (Nat.not_lt_zero _)) L_7 ez_N x3_7 x4_7 i_x4_7 (tq_m0 x4_7)
  exact E_7 t_2 (0 : Int32) (tq_w tk_0 (by decide) (by decide))
set_option maxRecDepth 4000 in
theorem tz_X2_reachWith {p : tz_P} {σ : ez_H} {h0 : Nat} {x1 : Int32} {x2 : Int32} (hT : tp p σ) (k_h0 : tz_C h0 = some (3, 2, 0, 0)) (i_x1 : tq_iv 0 2147483646 x1) : tz_O (fun z => tq_iv (-2147483648) 2147483647 z) (z_X2_reachWith σ h0 x1 x2) := by
  unfold z_X2_reachWith
  refine tz_bd (tz_ob hT k_h0) (fun _ _ => ?_)
  refine tz_be (tg_2_1 hT k_h0) (fun t_2 e1280 k_t_2 => ?_)
  refine tz_bd (tz_X7_room hT k_t_2) (fun t_6 i_t_6 => ?_)
  refine tz_bd (tz_X2_locksFor hT k_h0) (fun t_11 i_t_11 => ?_)
  refine tz_bd (tz_X2_flood hT k_h0) (fun t_14 i_t_14 => ?_)
  exact tz_some (tq_top t_14)
set_option maxRecDepth 4000 in
theorem tz_X2_reachOf {p : tz_P} {σ : ez_H} {h0 : Nat} {x1 : Int32} (hT : tp p σ) (k_h0 : tz_C h0 = some (3, 2, 0, 0)) (i_x1 : tq_iv 0 2147483646 x1) : tz_O (fun z => tq_iv (-2147483648) 2147483647 z) (z_X2_reachOf σ h0 x1) := by
  unfold z_X2_reachOf
  refine tz_bd (tz_ob hT k_h0) (fun _ _ => ?_)
  refine tz_be (tg_2_1 hT k_h0) (fun t_3 e1287 k_t_3 => ?_)
  refine tz_be (tg_2_0 hT k_h0) (fun t_8 e1286 k_t_8 => ?_)
  refine tz_be (tg_3_3 hT k_t_8) (fun t_11 e1285 i_t_11 => ?_)
  refine tz_bd (tz_X7_heldBy hT k_t_3 (tq_w i_x1 (by decide) (by decide)) i_t_11) (fun t_14 i_t_14 => ?_)
  refine tz_bd (tz_X2_reachWith hT k_h0 i_x1) (fun t_17 i_t_17 => ?_)
  exact tz_some (tq_top t_17)
set_option maxRecDepth 4000 in
theorem tz_X11_barred {p : tz_P} {σ : ez_H} {h0 : Nat} (hT : tp p σ) (k_h0 : tz_C h0 = some (3, 11, 0, 0)) : tz_O (fun z => tq_iv (-2147483648) 2147483647 z) (z_X11_barred σ h0) := by
  unfold z_X11_barred
  refine tz_bd (tz_ob hT k_h0) (fun _ _ => ?_)
  refine tz_be (tg_11_3 hT k_h0) (fun t_1 e1301 k_t_1 => ?_)
  refine tz_bd (tz_X3_allRooms hT k_t_1) (fun t_4 i_t_4 => ?_)
  have L_10 : ∀ (n_10 : Nat) (k_10 : Nat → Int32 → Int32 → Option (Int32)), (∀ (x1_10 : Int32) (x2_10 : Int32), tq_iv 0 2147483647 x2_10 → (2147483647 - x2_10.toInt).toNat < n_10 → tz_O (fun (z : Int32) => tq_iv (-2147483648) 2147483647 z) (k_10 h0 x1_10 x2_10)) → ∀ (x1_10 : Int32) (x2_10 : Int32), tq_iv 0 2147483647 x2_10 → (2147483647 - x2_10.toInt).toNat < n_10 + 1 → tz_O (fun (z : Int32) => tq_iv (-2147483648) 2147483647 z) (z_X11_barred_10 σ k_10 h0 x1_10 x2_10) := by
    intro n_10 k_10 hk_10 x1_10 x2_10 i_x2_10 hn_10
    unfold z_X11_barred_10
    refine tz_bk e1301 ?_
    refine tz_be (tg_3_7 hT k_t_1) (fun t_15 e1297 i_t_15 => ?_)
    refine tz_if _ (fun c1296 => ?_) (fun c1296 => ?_)
    ·
      exact tz_some (tq_top x1_10)
    ·
      have i1_x2_10 : tq_iv 0 2147483646 x2_10 := tq_cut i_x2_10 (tq_ltL (tq_nle c1296) i_x2_10 (tq_top t_15)) (by decide) (by decide)
      have i2_t_15 : tq_iv 1 2147483647 t_15 := tq_cut (tq_top t_15) (tq_ltR (tq_nle c1296) i_x2_10 (tq_top t_15)) (by decide) (by decide)
      refine tz_be (tg_11_12 hT k_h0) (fun t_23 e1295 k_t_23 => ?_)
      refine tz_bd (tz_X2_reachOf hT k_t_23 i1_x2_10) (fun t_27 i_t_27 => ?_)
      refine tz_let (fun t_31 e1293 => ?_)
      refine tz_let (fun t_32 e1292 => ?_)
      refine tz_let (fun t_34 e1291 => ?_)
      have i3_t_34 : tq_iv 1 2147483647 t_34 := tq_w (tq_add e1291 i1_x2_10 tk_1 (by decide) (by decide)) (by decide) (by decide)
      exact hk_10 t_32 t_34 (tq_w i3_t_34 (by decide) (by decide)) (tq_up e1291 i1_x2_10 tk_1 (by decide) (by decide) hn_10)
  have E_10 : ∀ (x1_10 : Int32) (x2_10 : Int32), tq_iv 0 2147483647 x2_10 → tz_O (fun (z : Int32) => tq_iv (-2147483648) 2147483647 z) (ez_fix (fun _ _ _ => none) (z_X11_barred_10 σ) ez_N h0 x1_10 x2_10) := by
    intro x1_10 x2_10 i_x2_10
    exact ez_fix_indn (fun n_10 (k_10 : Nat → Int32 → Int32 → Option (Int32)) => ∀ (x1_10 : Int32) (x2_10 : Int32), tq_iv 0 2147483647 x2_10 → (2147483647 - x2_10.toInt).toNat < n_10 → tz_O (fun (z : Int32) => tq_iv (-2147483648) 2147483647 z) (k_10 h0 x1_10 x2_10)) (by intros; rename_i h; exact absurd h (Nat.not_lt_zero _)) L_10 ez_N x1_10 x2_10 i_x2_10 (tq_m0 x2_10)
  exact E_10 t_4 (0 : Int32) (tq_w tk_0 (by decide) (by decide))
set_option maxRecDepth 4000 in
theorem tz_X11_best {p : tz_P} {σ : ez_H} {h0 : Nat} (hT : tp p σ) (k_h0 : tz_C h0 = some (3, 11, 0, 0)) : tz_O (fun z => tq_iv (-1) 7 z) (z_X11_best σ h0) := by
  unfold z_X11_best
  refine tz_bd (tz_ob hT k_h0) (fun _ _ => ?_)
  have L_6 : ∀ (n_6 : Nat) (k_6 : Nat → Int32 → Int32 → Int32 → Option (Int32)), (∀ (x1_6 : Int32) (x2_6 : Int32) (x3_6 : Int32), tq_iv (-1) 7 x1_6 → tq_iv 0 63 x2_6 → tq_iv 0 8 x3_6 → (2147483647 - x3_6.toInt).toNat < n_6 → tz_O (fun (z : Int32) => tq_iv (-1) 7 z) (k_6 h0 x1_6 x2_6 x3_6)) → ∀ (x1_6 : Int32) (x2_6 : Int32) (x3_6 : Int32), tq_iv (-1) 7 x1_6 → tq_iv 0 63 x2_6 → tq_iv 0 8 x3_6 → (2147483647 - x3_6.toInt).toNat < n_6 + 1 → tz_O (fun (z : Int32) => tq_iv (-1) 7 z) (z_X11_best_6 σ k_6 h0 x1_6 x2_6 x3_6) := by
    intro n_6 k_6 hk_6 x1_6 x2_6 x3_6 i_x1_6 i_x2_6 i_x3_6 hn_6
    unfold z_X11_best_6
    refine tz_be (tg_11_3 hT k_h0) (fun t_8 e1318 k_t_8 => ?_)
    refine tz_be (tg_3_3 hT k_t_8) (fun t_11 e1317 i_t_11 => ?_)
    refine tz_if _ (fun c1316 => ?_) (fun c1316 => ?_)
    ·
      exact tz_some i_x1_6
    ·
      have i1_x3_6 : tq_iv 0 7 x3_6 := tq_cut i_x3_6 (tq_ltL (tq_nle c1316) i_x3_6 i_t_11) (by decide) (by decide)
      have i2_t_11 : tq_iv 1 8 t_11 := tq_cut i_t_11 (tq_ltR (tq_nle c1316) i_x3_6 i_t_11) (by decide) (by decide)
      refine tz_be (tg_11_12 hT k_h0) (fun t_18 e1315 k_t_18 => ?_)
      refine tz_let (fun t_23 e1314 => ?_)
      have i3_t_23 : tq_iv 1 128 t_23 := tq_shl1 e1314 i1_x3_6 (by decide) (by decide) (by decide) (by decide)
      refine tz_bd (tz_X2_locksFor hT k_t_18) (fun t_24 i_t_24 => ?_)
      refine tz_bd (tz_J6_bitCount_0f7a4 hT) (fun t_27 i_t_27 => ?_)
      have K_48 : ∀ (x1_48 : Int32) (x2_48 : Int32), tq_iv 0 7 x1_48 → tq_iv 0 63 x2_48 → tz_O (fun (z : Int32) => tq_iv (-1) 7 z) (z_X11_best_48 σ k_6 h0 x1_48 x2_48 x3_6) := by
        intro x1_48 x2_48 i_x1_48 i_x2_48
        unfold z_X11_best_48
        refine tz_let (fun t_48 e1304 => ?_)
        have i4_t_48 : tq_iv 1 8 t_48 := tq_w (tq_add e1304 i1_x3_6 tk_1 (by decide) (by decide)) (by decide) (by decide)
        exact hk_6 x1_48 x2_48 t_48 (tq_w i_x1_48 (by decide) (by decide)) i_x2_48 (tq_w i4_t_48 (by decide) (by decide)) (tq_up e1304 i1_x3_6 tk_1 (by decide) (by decide) hn_6)
      have K_43 : tz_O (fun (z : Int32) => tq_iv (-1) 7 z) (z_X11_best_43 σ k_6 h0 x3_6 t_27) := by
        unfold z_X11_best_43
        exact K_48 x3_6 t_27 i1_x3_6 i_t_27
      refine tz_if _ (fun c1311 => ?_) (fun c1311 => ?_)
      ·
        have i5_x1_6 : tq_iv (-1) (-1) x1_6 := tq_cut i_x1_6 (tq_eqL c1311 tk_m1) (by decide) (by decide)
        exact K_43 
      ·
        have i6_x1_6 : tq_iv 0 7 x1_6 := tq_w (tq_neLo c1311 i_x1_6 tk_m1) (by decide) (by decide)
        refine tz_if _ (fun c1310 => ?_) (fun c1310 => ?_)
        ·
          exact K_48 x1_6 x2_6 i6_x1_6 i_x2_6
        ·
          have i7_x2_6 : tq_iv 0 62 x2_6 := tq_cut i_x2_6 (tq_ltL (tq_nle c1310) i_x2_6 i_t_27) (by decide) (by decide)
          have i8_t_27 : tq_iv 1 63 t_27 := tq_cut i_t_27 (tq_ltR (tq_nle c1310) i_x2_6 i_t_27) (by decide) (by decide)
          exact K_43 
  have E_6 : ∀ (x1_6 : Int32) (x2_6 : Int32) (x3_6 : Int32), tq_iv (-1) 7 x1_6 → tq_iv 0 63 x2_6 → tq_iv 0 8 x3_6 → tz_O (fun (z : Int32) => tq_iv (-1) 7 z) (ez_fix (fun _ _ _ _ => none) (z_X11_best_6 σ) ez_N h0 x1_6 x2_6 x3_6) := by
    intro x1_6 x2_6 x3_6 i_x1_6 i_x2_6 i_x3_6
    exact ez_fix_indn (fun n_6 (k_6 : Nat → Int32 → Int32 → Int32 → Option (Int32)) => ∀ (x1_6 : Int32) (x2_6 : Int32) (x3_6 : Int32), tq_iv (-1) 7 x1_6 → tq_iv 0 63 x2_6 → tq_iv 0 8 x3_6 → (2147483647 - x3_6.toInt).toNat < n_6 → tz_O (fun (z : Int32) => tq_iv (-1) 7 z) (k_6 h0 x1_6 x2_6 x3_6)) (by intros; rename_i h; exact absurd h (Nat.not_lt_zero _)) L_6 ez_N x1_6 x2_6 x3_6 i_x1_6 i_x2_6 i_x3_6 (tq_m0 x3_6)
  exact E_6 (-1 : Int32) (0 : Int32) (0 : Int32) (tq_w tk_m1 (by decide) (by decide)) (tq_w tk_0 (by decide) (by decide)) (tq_w tk_0 (by decide) (by decide))
set_option maxRecDepth 4000 in
theorem tz_X6_depthsAt {p : tz_P} {σ : ez_H} {x0 : Int32} {x1 : Int32} (hT : tp p σ) (i_x1 : tq_iv (-998) 998 x1) : tz_O (fun z => tq_iv 0 63 z) (z_X6_depthsAt σ x0 x1) := by
  unfold z_X6_depthsAt
  refine tz_let (fun t_4 e1324 => ?_)
  refine tz_let (fun t_5 e1323 => ?_)
  refine tz_let (fun t_8 e1322 => ?_)
  have i1_t_8 : tq_iv 0 63 t_8 := tq_and2 e1322 tk_63 (by decide)
  exact tz_some i1_t_8
set_option maxRecDepth 4000 in
theorem tz_X6_everythingBut {p : tz_P} {σ : ez_H} {h0 : Nat} {x1 : Int32} (hT : tp p σ) (k_h0 : tz_C h0 = some (3, 6, 0, 0)) : tz_O (fun z => tq_iv (-2147483648) 2147483647 z) (z_X6_everythingBut σ h0 x1) := by
  unfold z_X6_everythingBut
  refine tz_bd (tz_ob hT k_h0) (fun _ _ => ?_)
  have L_4 : ∀ (n_4 : Nat) (k_4 : Nat → Int32 → Int32 → Int32 → Option (Int32)), (∀ (x2_4 : Int32) (x3_4 : Int32), tq_iv 0 999 x3_4 → (2147483647 - x3_4.toInt).toNat < n_4 → tz_O (fun (z : Int32) => tq_iv (-2147483648) 2147483647 z) (k_4 h0 x1 x2_4 x3_4)) → ∀ (x2_4 : Int32) (x3_4 : Int32), tq_iv 0 999 x3_4 → (2147483647 - x3_4.toInt).toNat < n_4 + 1 → tz_O (fun (z : Int32) => tq_iv (-2147483648) 2147483647 z) (z_X6_everythingBut_4 σ k_4 h0 x1 x2_4 x3_4) := by
    intro n_4 k_4 hk_4 x2_4 x3_4 i_x3_4 hn_4
    unfold z_X6_everythingBut_4
    refine tz_be (tg_6_0 hT k_h0) (fun t_6 e1339 i_t_6 => ?_)
    refine tz_if _ (fun c1338 => ?_) (fun c1338 => ?_)
    ·
      exact tz_some (tq_top x2_4)
    ·
      have i1_x3_4 : tq_iv 0 998 x3_4 := tq_cut i_x3_4 (tq_ltL (tq_nle c1338) i_x3_4 i_t_6) (by decide) (by decide)
      have i2_t_6 : tq_iv 1 999 t_6 := tq_cut i_t_6 (tq_ltR (tq_nle c1338) i_x3_4 i_t_6) (by decide) (by decide)
      refine tz_bd (tz_X6_depthsAt hT (tq_w i1_x3_4 (by decide) (by decide))) (fun t_14 i_t_14 => ?_)
      have K_36 : ∀ (x2_36 : Int32), tz_O (fun (z : Int32) => tq_iv (-2147483648) 2147483647 z) (z_X6_everythingBut_36 σ k_4 h0 x1 x2_36 x3_4) := by
        intro x2_36
        unfold z_X6_everythingBut_36
        refine tz_let (fun t_36 e1326 => ?_)
        have i3_t_36 : tq_iv 1 999 t_36 := tq_w (tq_add e1326 i1_x3_4 tk_1 (by decide) (by decide)) (by decide) (by decide)
        exact hk_4 x2_36 t_36 (tq_w i3_t_36 (by decide) (by decide)) (tq_up e1326 i1_x3_4 tk_1 (by decide) (by decide) hn_4)
      refine tz_if _ (fun c1336 => ?_) (fun c1336 => ?_)
      ·
        have i4_t_14 : tq_iv 0 0 t_14 := tq_cut i_t_14 (tq_eqL c1336 tk_0) (by decide) (by decide)
        refine tz_be (tg_6_1 hT k_h0) (fun t_23 e1334 i_t_23 => ?_)
        refine tz_let (fun t_26 e1333 => ?_)
        refine tz_let (fun t_28 e1332 => ?_)
        refine tz_let (fun t_32 e1331 => ?_)
        have i5_t_32 : tq_iv 0 5988 t_32 := tq_w (tq_mul e1331 i1_x3_4 tk_6 (by decide) (by decide) (by decide)) (by decide) (by decide)
        refine tz_let (fun t_33 e1330 => ?_)
        refine tz_let (fun t_34 e1329 => ?_)
        exact K_36 t_34
      ·
        have i6_t_14 : tq_iv 1 63 t_14 := tq_w (tq_neLo c1336 i_t_14 tk_0) (by decide) (by decide)
        exact K_36 x2_4
  have E_4 : ∀ (x2_4 : Int32) (x3_4 : Int32), tq_iv 0 999 x3_4 → tz_O (fun (z : Int32) => tq_iv (-2147483648) 2147483647 z) (ez_fix (fun _ _ _ _ => none) (z_X6_everythingBut_4 σ) ez_N h0 x1 x2_4 x3_4) := by
    intro x2_4 x3_4 i_x3_4
    exact ez_fix_indn (fun n_4 (k_4 : Nat → Int32 → Int32 → Int32 → Option (Int32)) => ∀ (x2_4 : Int32) (x3_4 : Int32), tq_iv 0 999 x3_4 → (2147483647 - x3_4.toInt).toNat < n_4 → tz_O (fun (z : Int32) => tq_iv (-2147483648) 2147483647 z) (k_4 h0 x1 x2_4 x3_4)) (by intros; rename_i h; exact absurd h (Nat.not_lt_zero _)) L_4 ez_N x2_4 x3_4 i_x3_4 (tq_m0 x3_4)
  exact E_4 (0 : Int32) (0 : Int32) (tq_w tk_0 (by decide) (by decide))
set_option maxRecDepth 4000 in
theorem tz_X6_everything {p : tz_P} {σ : ez_H} {h0 : Nat} (hT : tp p σ) (k_h0 : tz_C h0 = some (3, 6, 0, 0)) : tz_O (fun z => tq_iv (-2147483648) 2147483647 z) (z_X6_everything σ h0) := by
  unfold z_X6_everything
  refine tz_bd (tz_ob hT k_h0) (fun _ _ => ?_)
  refine tz_bd (tz_X6_everythingBut hT k_h0) (fun t_2 i_t_2 => ?_)
  exact tz_some (tq_top t_2)
set_option maxRecDepth 4000 in
theorem tz_X6_onwardAt {p : tz_P} {σ : ez_H} {h0 : Nat} {x1 : Int32} {x2 : Int32} (hT : tp p σ) (k_h0 : tz_C h0 = some (3, 6, 0, 0)) (i_x1 : tq_iv 0 998 x1) : tz_O (fun z => tq_iv (-2147483648) 2147483647 z) (z_X6_onwardAt σ h0 x1 x2) := by
  unfold z_X6_onwardAt
  refine tz_bd (tz_ob hT k_h0) (fun _ _ => ?_)
  refine tz_let (fun t_3 e1357 => ?_)
  have i1_t_3 : tq_iv 0 5988 t_3 := tq_w (tq_mul e1357 i_x1 tk_6 (by decide) (by decide) (by decide)) (by decide) (by decide)
  refine tz_let (fun t_5 e1356 => ?_)
  have K_30 : ∀ (y0_30 : Int32), tz_O (fun (z : Int32) => tq_iv (-2147483648) 2147483647 z) (z_X6_onwardAt_30 σ y0_30) := by
    intro y0_30
    unfold z_X6_onwardAt_30
    exact tz_some (tq_top y0_30)
  have K_29 : tz_O (fun (z : Int32) => tq_iv (-2147483648) 2147483647 z) (z_X6_onwardAt_29 σ) := by
    unfold z_X6_onwardAt_29
    exact K_30 (0 : Int32)
  refine tz_if _ (fun c1355 => ?_) (fun c1355 => ?_)
  ·
    have i2_t_5 : tq_iv (-2147483648) (-1) t_5 := tq_cut (tq_top t_5) (tq_ltL c1355 (tq_top t_5) tk_0) (by decide) (by decide)
    exact K_29 
  ·
    have i3_t_5 : tq_iv 0 2147483647 t_5 := tq_cut (tq_top t_5) (tq_leR (tq_nlt c1355) tk_0 (tq_top t_5)) (by decide) (by decide)
    refine tz_be (tg_6_3 hT k_h0) (fun t_13 e1354 k_t_13 => ?_)
    refine tz_be (tz_ln hT k_t_13) (fun t_16 e1353 i_t_16 => ?_)
    refine tz_if _ (fun c1352 => ?_) (fun c1352 => ?_)
    ·
      have i4_t_5 : tq_iv 30 2147483647 t_5 := tq_cut i3_t_5 (tq_leR c1352 i_t_16 i3_t_5) (by decide) (by decide)
      exact K_29 
    ·
      have i5_t_5 : tq_iv 0 29 t_5 := tq_cut i3_t_5 (tq_ltL (tq_nle c1352) i3_t_5 i_t_16) (by decide) (by decide)
      refine tz_bk e1354 ?_
      refine tz_be (tz_ia hT k_t_13 (te_0 (p := p)) i5_t_5 (by decide) (by decide)) (fun t_25 e1350 i_t_25 => ?_)
      exact K_30 t_25
set_option maxRecDepth 4000 in
theorem tz_X6_waysFrom {p : tz_P} {σ : ez_H} {h0 : Nat} {x1 : Int32} {x2 : Int32} {x3 : Int32} (hT : tp p σ) (k_h0 : tz_C h0 = some (3, 6, 0, 0)) (i_x1 : tq_iv 0 998 x1) (i_x2 : tq_iv 0 998 x2) (i_x3 : tq_iv 0 999 x3) : tz_O (fun z => tq_iv (-2147483648) 2147483647 z) (z_X6_waysFrom σ h0 x1 x2 x3) := by
  unfold z_X6_waysFrom
  refine tz_bd (tz_ob hT k_h0) (fun _ _ => ?_)
  refine tz_let (fun t_2 e1376 => ?_)
  have i1_t_2 : tq_iv 1 999 t_2 := tq_w (tq_add e1376 i_x1 tk_1 (by decide) (by decide)) (by decide) (by decide)
  refine tz_be (tg_6_0 hT k_h0) (fun t_4 e1375 i_t_4 => ?_)
  refine tz_if _ (fun c1374 => ?_) (fun c1374 => ?_)
  ·
    have i2_t_2 : tq_iv 1 998 t_2 := tq_cut i1_t_2 (tq_ltL c1374 i1_t_2 i_t_4) (by decide) (by decide)
    have i3_x1 : tq_iv 0 997 x1 := tq_cut i_x1 (tq_addB e1376 i_x1 tk_1 i2_t_2 (by decide) (by decide)) (by decide) (by decide)
    have i4_t_4 : tq_iv 2 999 t_4 := tq_cut i_t_4 (tq_ltR c1374 i1_t_2 i_t_4) (by decide) (by decide)
    have L_18 : ∀ (n_18 : Nat) (k_18 : Nat → Int32 → Int32 → Int32 → Int32 → Int32 → Option (Int32)), (∀ (x4_18 : Int32) (x5_18 : Int32), tq_iv 0 999 x5_18 → (2147483647 - x5_18.toInt).toNat < n_18 → tz_O (fun (z : Int32) => tq_iv (-2147483648) 2147483647 z) (k_18 h0 x1 x2 x3 x4_18 x5_18)) → ∀ (x4_18 : Int32) (x5_18 : Int32), tq_iv 0 999 x5_18 → (2147483647 - x5_18.toInt).toNat < n_18 + 1 → tz_O (fun (z : Int32) => tq_iv (-2147483648) 2147483647 z) (z_X6_waysFrom_18 σ k_18 h0 x1 x2 x3 x4_18 x5_18) := by
      intro n_18 k_18 hk_18 x4_18 x5_18 i_x5_18 hn_18
      unfold z_X6_waysFrom_18
      refine tz_be (tg_6_1 hT k_h0) (fun t_21 e1371 i_t_21 => ?_)
      refine tz_if _ (fun c1370 => ?_) (fun c1370 => ?_)
      ·
        exact tz_some (tq_top x4_18)
      ·
        have i5_x5_18 : tq_iv 0 998 x5_18 := tq_cut i_x5_18 (tq_ltL (tq_nle c1370) i_x5_18 i_t_21) (by decide) (by decide)
        have i6_t_21 : tq_iv 1 999 t_21 := tq_cut i_t_21 (tq_ltR (tq_nle c1370) i_x5_18 i_t_21) (by decide) (by decide)
        refine tz_let (fun t_30 e1369 => ?_)
        have i7_t_30 : tq_iv (-998) 998 t_30 := tq_w (tq_sub e1369 i5_x5_18 i_x2 (by decide) (by decide)) (by decide) (by decide)
        refine tz_let (fun t_31 e1368 => ?_)
        have K_52 : ∀ (x4_52 : Int32), tz_O (fun (z : Int32) => tq_iv (-2147483648) 2147483647 z) (z_X6_waysFrom_52 σ k_18 h0 x1 x2 x3 x4_52 x5_18) := by
          intro x4_52
          unfold z_X6_waysFrom_52
          refine tz_let (fun t_52 e1360 => ?_)
          have i8_t_52 : tq_iv 1 999 t_52 := tq_w (tq_add e1360 i5_x5_18 tk_1 (by decide) (by decide)) (by decide) (by decide)
          exact hk_18 x4_52 t_52 (tq_w i8_t_52 (by decide) (by decide)) (tq_up e1360 i5_x5_18 tk_1 (by decide) (by decide) hn_18)
        refine tz_if _ (fun c1367 => ?_) (fun c1367 => ?_)
        ·
          have i9_t_31 : tq_iv 1 2147483647 t_31 := tq_cut (tq_top t_31) (tq_ltR c1367 i_x3 (tq_top t_31)) (by decide) (by decide)
          exact K_52 x4_18
        ·
          have i10_t_31 : tq_iv (-2147483648) 999 t_31 := tq_cut (tq_top t_31) (tq_leL (tq_nlt c1367) (tq_top t_31) i_x3) (by decide) (by decide)
          refine tz_let (fun t_43 e1366 => ?_)
          have i11_t_43 : tq_iv 1 998 t_43 := tq_w (tq_add e1366 i3_x1 tk_1 (by decide) (by decide)) (by decide) (by decide)
          refine tz_bd (tz_X6_onwardAt hT k_h0 (tq_w i11_t_43 (by decide) (by decide))) (fun t_46 i_t_46 => ?_)
          refine tz_let (fun t_49 e1364 => ?_)
          exact K_52 t_49
    have E_18 : ∀ (x4_18 : Int32) (x5_18 : Int32), tq_iv 0 999 x5_18 → tz_O (fun (z : Int32) => tq_iv (-2147483648) 2147483647 z) (ez_fix (fun _ _ _ _ _ _ => none) (z_X6_waysFrom_18 σ) ez_N h0 x1 x2 x3 x4_18 x5_18) := by
      intro x4_18 x5_18 i_x5_18
      exact ez_fix_indn (fun n_18 (k_18 : Nat → Int32 → Int32 → Int32 → Int32 → Int32 → Option (Int32)) => ∀ (x4_18 : Int32) (x5_18 : Int32), tq_iv 0 999 x5_18 → (2147483647 - x5_18.toInt).toNat < n_18 → tz_O (fun (z : Int32) => tq_iv (-2147483648) 2147483647 z) (k_18 h0 x1 x2 x3 x4_18 x5_18)) (by intros; rename_i h; exact absurd h (Nat.not_lt_zero _)) L_18 ez_N x4_18 x5_18 i_x5_18 (tq_m0 x5_18)
    exact E_18 (0 : Int32) (0 : Int32) (tq_w tk_0 (by decide) (by decide))
  ·
    exact tz_some (tq_top (1 : Int32))
set_option maxRecDepth 4000 in
theorem tz_X6_putOnward {p : tz_P} {σ : ez_H} {h0 : Nat} {x1 : Int32} {x2 : Int32} {x3 : Int32} (hT : tp p σ) (k_h0 : tz_C h0 = some (3, 6, 0, 0)) (i_x1 : tq_iv 0 998 x1) (i_x2 : tq_iv 0 998 x2) : tz_O2 (fun (z : Unit) (s : ez_H) => tp p s) (z_X6_putOnward σ h0 x1 x2 x3) := by
  show tz_O (fun z : Unit × ez_H => (fun (z : Unit) (s : ez_H) => tp p s) z.1 z.2) _
  unfold z_X6_putOnward
  refine tz_bd (tz_ob hT k_h0) (fun _ _ => ?_)
  refine tz_let (fun t_3 e1389 => ?_)
  have i1_t_3 : tq_iv 0 5988 t_3 := tq_w (tq_mul e1389 i_x1 tk_6 (by decide) (by decide) (by decide)) (by decide) (by decide)
  refine tz_let (fun t_5 e1388 => ?_)
  have i2_t_5 : tq_iv 0 6986 t_5 := tq_w (tq_add e1388 i1_t_3 i_x2 (by decide) (by decide)) (by decide) (by decide)
  have K_31 : ∀ (σ_31 : ez_H), tp p σ_31 → tz_O (fun z : Unit × ez_H => (fun (z : Unit) (s : ez_H) => tp p s) z.1 z.2) (z_X6_putOnward_31 σ_31) := by
    intro σ_31 T_σ_31
    unfold z_X6_putOnward_31
    exact tz_some T_σ_31
  refine tz_if _ (fun c1387 => ?_) (fun c1387 => ?_)
  ·
    exact (tq_xlt c1387 i2_t_5 tk_0 (by decide)).elim
  ·
    refine tz_be (tg_6_3 hT k_h0) (fun t_16 e1386 k_t_16 => ?_)
    refine tz_be (tz_ln hT k_t_16) (fun t_19 e1385 i_t_19 => ?_)
    refine tz_if _ (fun c1384 => ?_) (fun c1384 => ?_)
    ·
      have i3_t_5 : tq_iv 30 6986 t_5 := tq_cut i2_t_5 (tq_leR c1384 i_t_19 i2_t_5) (by decide) (by decide)
      exact K_31 σ hT
    ·
      have i4_t_5 : tq_iv 0 29 t_5 := tq_cut i2_t_5 (tq_ltL (tq_nle c1384) i2_t_5 i_t_19) (by decide) (by decide)
      refine tz_bk e1386 ?_
      refine tz_be (tz_is hT k_t_16 (te_0 (p := p)) i4_t_5 (by decide) (by decide) (tq_top x3)) (fun σ1382 e1382 T1382 => ?_)
      exact K_31 σ1382 T1382
set_option maxRecDepth 4000 in
theorem tz_X6_howMany {p : tz_P} {σ : ez_H} {h0 : Nat} {x1 : Int32} {x2 : Int32} (hT : tp p σ) (k_h0 : tz_C h0 = some (3, 6, 0, 0)) (i_x2 : tq_iv 0 999 x2) : tz_O2 (fun (z : Int32) (s : ez_H) => tq_iv (-2147483648) 2147483647 z ∧ tp p s) (z_X6_howMany σ h0 x1 x2) := by
  show tz_O (fun z : Int32 × ez_H => (fun (z : Int32) (s : ez_H) => tq_iv (-2147483648) 2147483647 z ∧ tp p s) z.1 z.2) _
  unfold z_X6_howMany
  refine tz_bd (tz_ob hT k_h0) (fun _ _ => ?_)
  refine tz_be (tg_6_0 hT k_h0) (fun t_1 e1416 i_t_1 => ?_)
  refine tz_let (fun t_5 e1415 => ?_)
  have i1_t_5 : tq_iv (-1) 998 t_5 := tq_w (tq_sub e1415 i_t_1 tk_1 (by decide) (by decide)) (by decide) (by decide)
  have L_7 : ∀ (n_7 : Nat) (k_7 : ez_H → Nat → Int32 → Int32 → Int32 → Option (Int32 × ez_H)), (∀ (σ_7 : ez_H) (x3_7 : Int32), tp p σ_7 → tq_iv (-1) 998 x3_7 → (x3_7.toInt + 2147483648).toNat < n_7 → tz_O (fun z : Int32 × ez_H => (fun (z : Int32) (s : ez_H) => tq_iv (-2147483648) 2147483647 z ∧ tp p s) z.1 z.2) (k_7 σ_7 h0 x1 x2 x3_7)) → ∀ (σ_7 : ez_H) (x3_7 : Int32), tp p σ_7 → tq_iv (-1) 998 x3_7 → (x3_7.toInt + 2147483648).toNat < n_7 + 1 → tz_O (fun z : Int32 × ez_H => (fun (z : Int32) (s : ez_H) => tq_iv (-2147483648) 2147483647 z ∧ tp p s) z.1 z.2) (z_X6_howMany_7 k_7 σ_7 h0 x1 x2 x3_7) := by
    intro n_7 k_7 hk_7 σ_7 x3_7 T_σ_7 i_x3_7 hn_7
    unfold z_X6_howMany_7
    refine tz_if _ (fun c1413 => ?_) (fun c1413 => ?_)
    ·
      have i2_x3_7 : tq_iv (-1) (-1) x3_7 := tq_cut i_x3_7 (tq_ltL c1413 i_x3_7 tk_0) (by decide) (by decide)
      have L_70 : ∀ (n_70 : Nat) (k_70 : ez_H → Nat → Int32 → Int32 → Option (Int32 × ez_H)), (∀ (x3_70 : Int32) (x4_70 : Int32), tq_iv 0 999 x4_70 → (2147483647 - x4_70.toInt).toNat < n_70 → tz_O (fun z : Int32 × ez_H => (fun (z : Int32) (s : ez_H) => tq_iv (-2147483648) 2147483647 z ∧ tp p s) z.1 z.2) (k_70 σ_7 h0 x3_70 x4_70)) → ∀ (x3_70 : Int32) (x4_70 : Int32), tq_iv 0 999 x4_70 → (2147483647 - x4_70.toInt).toNat < n_70 + 1 → tz_O (fun z : Int32 × ez_H => (fun (z : Int32) (s : ez_H) => tq_iv (-2147483648) 2147483647 z ∧ tp p s) z.1 z.2) (z_X6_howMany_70 k_70 σ_7 h0 x3_70 x4_70) := by
        intro n_70 k_70 hk_70 x3_70 x4_70 i_x4_70 hn_70
        unfold z_X6_howMany_70
        refine tz_be (tg_6_1 T_σ_7 k_h0) (fun t_73 e1397 i_t_73 => ?_)
        refine tz_if _ (fun c1396 => ?_) (fun c1396 => ?_)
        ·
          exact tz_some ⟨(tq_top x3_70), T_σ_7⟩
        ·
          have i3_x4_70 : tq_iv 0 998 x4_70 := tq_cut i_x4_70 (tq_ltL (tq_nle c1396) i_x4_70 i_t_73) (by decide) (by decide)
          have i4_t_73 : tq_iv 1 999 t_73 := tq_cut i_t_73 (tq_ltR (tq_nle c1396) i_x4_70 i_t_73) (by decide) (by decide)
          refine tz_bd (tz_X6_onwardAt T_σ_7 k_h0 (tq_w tk_0 (by decide) (by decide))) (fun t_84 i_t_84 => ?_)
          refine tz_let (fun t_87 e1394 => ?_)
          refine tz_let (fun t_89 e1393 => ?_)
          have i5_t_89 : tq_iv 1 999 t_89 := tq_w (tq_add e1393 i3_x4_70 tk_1 (by decide) (by decide)) (by decide) (by decide)
          exact hk_70 t_87 t_89 (tq_w i5_t_89 (by decide) (by decide)) (tq_up e1393 i3_x4_70 tk_1 (by decide) (by decide) hn_70)
      have E_70 : ∀ (x3_70 : Int32) (x4_70 : Int32), tq_iv 0 999 x4_70 → tz_O (fun z : Int32 × ez_H => (fun (z : Int32) (s : ez_H) => tq_iv (-2147483648) 2147483647 z ∧ tp p s) z.1 z.2) (ez_fix (fun _ _ _ _ => none) (z_X6_howMany_70) ez_N σ_7 h0 x3_70 x4_70) := by
        intro x3_70 x4_70 i_x4_70
        exact ez_fix_indn (fun n_70 (k_70 : ez_H → Nat → Int32 → Int32 → Option (Int32 × ez_H)) => ∀ (x3_70 : Int32) (x4_70 : Int32), tq_iv 0 999 x4_70 → (2147483647 - x4_70.toInt).toNat < n_70 → tz_O (fun z : Int32 × ez_H => (fun (z : Int32) (s : ez_H) => tq_iv (-2147483648) 2147483647 z ∧ tp p s) z.1 z.2) (k_70 σ_7 h0 x3_70 x4_70)) (by intros; rename_i h; exact absurd h (Nat.not_lt_zero _)) L_70 ez_N x3_70 x4_70 i_x4_70 (tq_m0 x4_70)
      exact E_70 (0 : Int32) (0 : Int32) (tq_w tk_0 (by decide) (by decide))
    ·
      have i6_x3_7 : tq_iv 0 998 x3_7 := tq_cut i_x3_7 (tq_leR (tq_nlt c1413) tk_0 i_x3_7) (by decide) (by decide)
      have L_14 : ∀ (n_14 : Nat) (k_14 : ez_H → Nat → Int32 → Int32 → Int32 → Int32 → Option (Int32 × ez_H)), (∀ (σ_14 : ez_H) (x4_14 : Int32), tp p σ_14 → tq_iv 0 999 x4_14 → (2147483647 - x4_14.toInt).toNat < n_14 → tz_O (fun z : Int32 × ez_H => (fun (z : Int32) (s : ez_H) => tq_iv (-2147483648) 2147483647 z ∧ tp p s) z.1 z.2) (k_14 σ_14 h0 x1 x2 x3_7 x4_14)) → ∀ (σ_14 : ez_H) (x4_14 : Int32), tp p σ_14 → tq_iv 0 999 x4_14 → (2147483647 - x4_14.toInt).toNat < n_14 + 1 → tz_O (fun z : Int32 × ez_H => (fun (z : Int32) (s : ez_H) => tq_iv (-2147483648) 2147483647 z ∧ tp p s) z.1 z.2) (z_X6_howMany_14 k_7 k_14 σ_14 h0 x1 x2 x3_7 x4_14) := by
        intro n_14 k_14 hk_14 σ_14 x4_14 T_σ_14 i_x4_14 hn_14
        unfold z_X6_howMany_14
        refine tz_be (tg_6_1 T_σ_14 k_h0) (fun t_17 e1410 i_t_17 => ?_)
        refine tz_if _ (fun c1409 => ?_) (fun c1409 => ?_)
        ·
          refine tz_let (fun t_59 e1402 => ?_)
          have i7_t_59 : tq_iv (-1) 997 t_59 := tq_w (tq_add e1402 i6_x3_7 tk_m1 (by decide) (by decide)) (by decide) (by decide)
          exact hk_7 σ_14 t_59 T_σ_14 (tq_w i7_t_59 (by decide) (by decide)) (tq_down e1402 i6_x3_7 tk_m1 (by decide) (by decide) hn_7)
        ·
          have i8_x4_14 : tq_iv 0 998 x4_14 := tq_cut i_x4_14 (tq_ltL (tq_nle c1409) i_x4_14 i_t_17) (by decide) (by decide)
          have i9_t_17 : tq_iv 1 999 t_17 := tq_cut i_t_17 (tq_ltR (tq_nle c1409) i_x4_14 i_t_17) (by decide) (by decide)
          refine tz_bd (tz_X6_notch T_σ_14 (tq_w i6_x3_7 (by decide) (by decide))) (fun t_31 i_t_31 => ?_)
          refine tz_let (fun t_34 e1407 => ?_)
          have K_50 : ∀ (y3_50 : Int32), tz_O (fun z : Int32 × ez_H => (fun (z : Int32) (s : ez_H) => tq_iv (-2147483648) 2147483647 z ∧ tp p s) z.1 z.2) (z_X6_howMany_50 k_7 k_14 σ_14 h0 x1 x2 x3_7 x4_14 h0 x3_7 x4_14 y3_50) := by
            intro y3_50
            unfold z_X6_howMany_50
            refine tz_b2 (tz_X6_putOnward T_σ_14 k_h0 i6_x3_7 i8_x4_14) (fun _ σ1400 T1400 => ?_)
            refine tz_let (fun t_53 e1399 => ?_)
            have i10_t_53 : tq_iv 1 999 t_53 := tq_w (tq_add e1399 i8_x4_14 tk_1 (by decide) (by decide)) (by decide) (by decide)
            exact hk_14 σ1400 t_53 T1400 (tq_w i10_t_53 (by decide) (by decide)) (tq_up e1399 i8_x4_14 tk_1 (by decide) (by decide) hn_14)
          refine tz_if _ (fun c1406 => ?_) (fun c1406 => ?_)
          ·
            have i11_t_34 : tq_iv 0 0 t_34 := tq_cut (tq_top t_34) (tq_eqL c1406 tk_0) (by decide) (by decide)
            exact K_50 (0 : Int32)
          ·
            refine tz_bd (tz_X6_waysFrom T_σ_14 k_h0 i6_x3_7 i8_x4_14 i_x2) (fun t_47 i_t_47 => ?_)
            exact K_50 t_47
      have E_14 : ∀ (σ_14 : ez_H) (x4_14 : Int32), tp p σ_14 → tq_iv 0 999 x4_14 → tz_O (fun z : Int32 × ez_H => (fun (z : Int32) (s : ez_H) => tq_iv (-2147483648) 2147483647 z ∧ tp p s) z.1 z.2) (ez_fix (fun _ _ _ _ _ _ => none) (z_X6_howMany_14 k_7) ez_N σ_14 h0 x1 x2 x3_7 x4_14) := by
        intro σ_14 x4_14 T_σ_14 i_x4_14
        exact ez_fix_indn (fun n_14 (k_14 : ez_H → Nat → Int32 → Int32 → Int32 → Int32 → Option (Int32 × ez_H)) => ∀ (σ_14 : ez_H) (x4_14 : Int32), tp p σ_14 → tq_iv 0 999 x4_14 → (2147483647 - x4_14.toInt).toNat < n_14 → tz_O (fun z : Int32 × ez_H => (fun (z : Int32) (s : ez_H) => tq_iv (-2147483648) 2147483647 z ∧ tp p s) z.1 z.2) (k_14 σ_14 h0 x1 x2 x3_7 x4_14)) (by intros; rename_i h; exact absurd h (Nat.not_lt_zero _)) L_14 ez_N σ_14 x4_14 T_σ_14 i_x4_14 (tq_m0 x4_14)
      exact E_14 σ_7 (0 : Int32) T_σ_7 (tq_w tk_0 (by decide) (by decide))
  have E_7 : ∀ (σ_7 : ez_H) (x3_7 : Int32), tp p σ_7 → tq_iv (-1) 998 x3_7 → tz_O (fun z : Int32 × ez_H => (fun (z : Int32) (s : ez_H) => tq_iv (-2147483648) 2147483647 z ∧ tp p s) z.1 z.2) (ez_fix (fun _ _ _ _ _ => none) (z_X6_howMany_7) ez_N σ_7 h0 x1 x2 x3_7) := by
    intro σ_7 x3_7 T_σ_7 i_x3_7
    exact ez_fix_indn (fun n_7 (k_7 : ez_H → Nat → Int32 → Int32 → Int32 → Option (Int32 × ez_H)) => ∀ (σ_7 : ez_H) (x3_7 : Int32), tp p σ_7 → tq_iv (-1) 998 x3_7 → (x3_7.toInt + 2147483648).toNat < n_7 → tz_O (fun z : Int32 × ez_H => (fun (z : Int32) (s : ez_H) => tq_iv (-2147483648) 2147483647 z ∧ tp p s) z.1 z.2) (k_7 σ_7 h0 x1 x2 x3_7)) (by intros; rename_i h; exact absurd h (Nat.not_lt_zero _)) L_7 ez_N σ_7 x3_7 T_σ_7 i_x3_7 (tq_m1 x3_7)
  exact E_7 σ t_5 hT i1_t_5
set_option maxRecDepth 4000 in
theorem tz_X6_nth {p : tz_P} {σ : ez_H} {h0 : Nat} {x1 : Int32} {x2 : Int32} (hT : tp p σ) (k_h0 : tz_C h0 = some (3, 6, 0, 0)) : tz_O2 (fun (z : Int32) (s : ez_H) => tq_iv (-2147483648) 2147483647 z ∧ tp p s) (z_X6_nth σ h0 x1 x2) := by
  show tz_O (fun z : Int32 × ez_H => (fun (z : Int32) (s : ez_H) => tq_iv (-2147483648) 2147483647 z ∧ tp p s) z.1 z.2) _
  unfold z_X6_nth
  refine tz_bd (tz_ob hT k_h0) (fun _ _ => ?_)
  have K_17 : ∀ (σ_17 : ez_H), tp p σ_17 → tz_O (fun z : Int32 × ez_H => (fun (z : Int32) (s : ez_H) => tq_iv (-2147483648) 2147483647 z ∧ tp p s) z.1 z.2) (z_X6_nth_17 σ_17) := by
    intro σ_17 T_σ_17
    unfold z_X6_nth_17
    exact tz_some ⟨(tq_top (0 : Int32)), T_σ_17⟩
  refine tz_if _ (fun c1446 => ?_) (fun c1446 => ?_)
  ·
    have i1_x2 : tq_iv (-2147483648) (-1) x2 := tq_cut (tq_top x2) (tq_ltL c1446 (tq_top x2) tk_0) (by decide) (by decide)
    exact K_17 σ hT
  ·
    have i2_x2 : tq_iv 0 2147483647 x2 := tq_cut (tq_top x2) (tq_leR (tq_nlt c1446) tk_0 (tq_top x2)) (by decide) (by decide)
    refine tz_be (tg_6_2 hT k_h0) (fun t_8 e1445 i_t_8 => ?_)
    refine tz_b2 (tz_X6_howMany hT k_h0 i_t_8) (fun t_11 σ1444 ⟨i_t_11, T1444⟩ => ?_)
    refine tz_if _ (fun c1443 => ?_) (fun c1443 => ?_)
    ·
      have i3_x2 : tq_iv 0 2147483646 x2 := tq_cut i2_x2 (tq_ltL c1443 i2_x2 (tq_top t_11)) (by decide) (by decide)
      have i4_t_11 : tq_iv 1 2147483647 t_11 := tq_cut (tq_top t_11) (tq_ltR c1443 i2_x2 (tq_top t_11)) (by decide) (by decide)
      refine tz_be (tg_6_1 T1444 k_h0) (fun t_28 e1441 i_t_28 => ?_)
      refine tz_let (fun t_32 e1440 => ?_)
      have i5_t_32 : tq_iv (-1) 998 t_32 := tq_w (tq_sub e1440 i_t_28 tk_1 (by decide) (by decide)) (by decide) (by decide)
      have L_38 : ∀ (n_38 : Nat) (k_38 : ez_H → Nat → Int32 → Int32 → Int32 → Int32 → Int32 → Option (Int32 × ez_H)), (∀ (x3_38 : Int32) (x4_38 : Int32) (x5_38 : Int32) (x6_38 : Int32) (x7_38 : Int32), tq_iv 0 2147483647 x5_38 → tq_iv (-2147483648) 998 x6_38 → tq_iv 0 999 x7_38 → (2147483647 - x7_38.toInt).toNat < n_38 → tz_O (fun z : Int32 × ez_H => (fun (z : Int32) (s : ez_H) => tq_iv (-2147483648) 2147483647 z ∧ tp p s) z.1 z.2) (k_38 σ1444 h0 x3_38 x4_38 x5_38 x6_38 x7_38)) → ∀ (x3_38 : Int32) (x4_38 : Int32) (x5_38 : Int32) (x6_38 : Int32) (x7_38 : Int32), tq_iv 0 2147483647 x5_38 → tq_iv (-2147483648) 998 x6_38 → tq_iv 0 999 x7_38 → (2147483647 - x7_38.toInt).toNat < n_38 + 1 → tz_O (fun z : Int32 × ez_H => (fun (z : Int32) (s : ez_H) => tq_iv (-2147483648) 2147483647 z ∧ tp p s) z.1 z.2) (z_X6_nth_38 k_38 σ1444 h0 x3_38 x4_38 x5_38 x6_38 x7_38) := by
        intro n_38 k_38 hk_38 x3_38 x4_38 x5_38 x6_38 x7_38 i_x5_38 i_x6_38 i_x7_38 hn_38
        unfold z_X6_nth_38
        refine tz_be (tg_6_0 T1444 k_h0) (fun t_41 e1437 i_t_41 => ?_)
        refine tz_if _ (fun c1436 => ?_) (fun c1436 => ?_)
        ·
          exact tz_some ⟨(tq_top x4_38), T1444⟩
        ·
          have i6_x7_38 : tq_iv 0 998 x7_38 := tq_cut i_x7_38 (tq_ltL (tq_nle c1436) i_x7_38 i_t_41) (by decide) (by decide)
          have i7_t_41 : tq_iv 1 999 t_41 := tq_cut i_t_41 (tq_ltR (tq_nle c1436) i_x7_38 i_t_41) (by decide) (by decide)
          have L_51 : ∀ (n_51 : Nat) (k_51 : ez_H → Nat → Int32 → Int32 → Int32 → Int32 → Int32 → Option (Int32 × ez_H)), (∀ (x3_51 : Int32) (x8_51 : Int32), tq_iv 0 2147483647 x8_51 → (2147483647 - x8_51.toInt).toNat < n_51 → tz_O (fun z : Int32 × ez_H => (fun (z : Int32) (s : ez_H) => tq_iv (-2147483648) 2147483647 z ∧ tp p s) z.1 z.2) (k_51 σ1444 h0 x3_51 x4_38 x6_38 x7_38 x8_51)) → ∀ (x3_51 : Int32) (x8_51 : Int32), tq_iv 0 2147483647 x8_51 → (2147483647 - x8_51.toInt).toNat < n_51 + 1 → tz_O (fun z : Int32 × ez_H => (fun (z : Int32) (s : ez_H) => tq_iv (-2147483648) 2147483647 z ∧ tp p s) z.1 z.2) (z_X6_nth_51 k_38 k_51 σ1444 h0 x3_51 x4_38 x6_38 x7_38 x8_51) := by
            intro n_51 k_51 hk_51 x3_51 x8_51 i_x8_51 hn_51
            unfold z_X6_nth_51
            have K_87 : tz_O (fun z : Int32 × ez_H => (fun (z : Int32) (s : ez_H) => tq_iv (-2147483648) 2147483647 z ∧ tp p s) z.1 z.2) (z_X6_nth_87 k_38 σ1444 h0 x3_51 x4_38 x7_38 x8_51) := by
              unfold z_X6_nth_87
              refine tz_bd (tz_X6_notch T1444 (tq_w i6_x7_38 (by decide) (by decide))) (fun t_93 i_t_93 => ?_)
              refine tz_let (fun t_96 e1423 => ?_)
              refine tz_bd (tz_X6_lowest T1444 k_h0) (fun t_102 i_t_102 => ?_)
              refine tz_bd (tz_X6_highest T1444 k_h0) (fun t_110 i_t_110 => ?_)
              refine tz_let (fun t_115 e1420 => ?_)
              have i8_t_115 : tq_iv 1 999 t_115 := tq_w (tq_add e1420 i6_x7_38 tk_1 (by decide) (by decide)) (by decide) (by decide)
              exact hk_38 x3_51 t_96 t_102 t_110 t_115 i_t_102 i_t_110 (tq_w i8_t_115 (by decide) (by decide)) (tq_up e1420 i6_x7_38 tk_1 (by decide) (by decide) hn_38)
            refine tz_if _ (fun c1433 => ?_) (fun c1433 => ?_)
            ·
              exact K_87 
            ·
              have i9_x8_51 : tq_iv 0 997 x8_51 := tq_cut i_x8_51 (tq_ltL (tq_nle c1433) i_x8_51 i_x6_38) (by decide) (by decide)
              have i10_x6_38 : tq_iv 1 998 x6_38 := tq_cut i_x6_38 (tq_ltR (tq_nle c1433) i_x8_51 i_x6_38) (by decide) (by decide)
              refine tz_bd (tz_X6_onwardAt T1444 k_h0 i6_x7_38) (fun t_64 i_t_64 => ?_)
              refine tz_if _ (fun c1431 => ?_) (fun c1431 => ?_)
              ·
                have i11_x3_51 : tq_iv (-2147483648) 2147483646 x3_51 := tq_cut (tq_top x3_51) (tq_ltL c1431 (tq_top x3_51) (tq_top t_64)) (by decide) (by decide)
                have i12_t_64 : tq_iv (-2147483647) 2147483647 t_64 := tq_cut (tq_top t_64) (tq_ltR c1431 (tq_top x3_51) (tq_top t_64)) (by decide) (by decide)
                exact K_87 
              ·
                refine tz_bd (tz_X6_onwardAt T1444 k_h0 i6_x7_38) (fun t_76 i_t_76 => ?_)
                refine tz_let (fun t_79 e1429 => ?_)
                refine tz_let (fun t_81 e1428 => ?_)
                have i13_t_81 : tq_iv 1 998 t_81 := tq_w (tq_add e1428 i9_x8_51 tk_1 (by decide) (by decide)) (by decide) (by decide)
                exact hk_51 t_79 t_81 (tq_w i13_t_81 (by decide) (by decide)) (tq_up e1428 i9_x8_51 tk_1 (by decide) (by decide) hn_51)
          have E_51 : ∀ (x3_51 : Int32) (x8_51 : Int32), tq_iv 0 2147483647 x8_51 → tz_O (fun z : Int32 × ez_H => (fun (z : Int32) (s : ez_H) => tq_iv (-2147483648) 2147483647 z ∧ tp p s) z.1 z.2) (ez_fix (fun _ _ _ _ _ _ _ => none) (z_X6_nth_51 k_38) ez_N σ1444 h0 x3_51 x4_38 x6_38 x7_38 x8_51) := by
            intro x3_51 x8_51 i_x8_51
            exact ez_fix_indn (fun n_51 (k_51 : ez_H → Nat → Int32 → Int32 → Int32 → Int32 → Int32 → Option (Int32 × ez_H)) => ∀ (x3_51 : Int32) (x8_51 : Int32), tq_iv 0 2147483647 x8_51 → (2147483647 - x8_51.toInt).toNat < n_51 → tz_O (fun z : Int32 × ez_H => (fun (z : Int32) (s : ez_H) => tq_iv (-2147483648) 2147483647 z ∧ tp p s) z.1 z.2) (k_51 σ1444 h0 x3_51 x4_38 x6_38 x7_38 x8_51)) (by intros; rename_i h; exact absurd h (Nat.not_lt_zero _)) L_51 ez_N x3_51 x8_51 i_x8_51 (tq_m0 x8_51)
          exact E_51 x3_38 x5_38 i_x5_38
      have E_38 : ∀ (x3_38 : Int32) (x4_38 : Int32) (x5_38 : Int32) (x6_38 : Int32) (x7_38 : Int32), tq_iv 0 2147483647 x5_38 → tq_iv (-2147483648) 998 x6_38 → tq_iv 0 999 x7_38 → tz_O (fun z : Int32 × ez_H => (fun (z : Int32) (s : ez_H) => tq_iv (-2147483648) 2147483647 z ∧ tp p s) z.1 z.2) (ez_fix (fun _ _ _ _ _ _ _ => none) (z_X6_nth_38) ez_N σ1444 h0 x3_38 x4_38 x5_38 x6_38 x7_38) := by
        intro x3_38 x4_38 x5_38 x6_38 x7_38 i_x5_38 i_x6_38 i_x7_38
        exact ez_fix_indn (fun n_38 (k_38 : ez_H → Nat → Int32 → Int32 → Int32 → Int32 → Int32 → Option (Int32 × ez_H)) => ∀ (x3_38 : Int32) (x4_38 : Int32) (x5_38 : Int32) (x6_38 : Int32) (x7_38 : Int32), tq_iv 0 2147483647 x5_38 → tq_iv (-2147483648) 998 x6_38 → tq_iv 0 999 x7_38 → (2147483647 - x7_38.toInt).toNat < n_38 → tz_O (fun z : Int32 × ez_H => (fun (z : Int32) (s : ez_H) => tq_iv (-2147483648) 2147483647 z ∧ tp p s) z.1 z.2) (k_38 σ1444 h0 x3_38 x4_38 x5_38 x6_38 x7_38)) (by intros; rename_i h; exact absurd h (Nat.not_lt_zero _)) L_38 ez_N x3_38 x4_38 x5_38 x6_38 x7_38 i_x5_38 i_x6_38 i_x7_38 (tq_m0 x7_38)
      exact E_38 x2 (0 : Int32) (0 : Int32) t_32 (0 : Int32) (tq_w tk_0 (by decide) (by decide)) (tq_w i5_t_32 (by decide) (by decide)) (tq_w tk_0 (by decide) (by decide))
    ·
      exact K_17 σ1444 T1444
set_option maxRecDepth 4000 in
theorem tz_J6_numberOfTrailingZeros_0f7a4 {p : tz_P} {σ : ez_H} {x0 : Int32} (hT : tp p σ) : tz_O (fun z => tq_iv (-2147483648) 2147483647 z) (z_J6_numberOfTrailingZeros_0f7a4 σ x0) := by
  unfold z_J6_numberOfTrailingZeros_0f7a4
  refine tz_let (fun t_2 e1476 => ?_)
  refine tz_let (fun t_5 e1475 => ?_)
  refine tz_let (fun t_6 e1474 => ?_)
  refine tz_if _ (fun c1473 => ?_) (fun c1473 => ?_)
  ·
    have i1_t_6 : tq_iv 1 2147483647 t_6 := tq_cut (tq_top t_6) (tq_ltR c1473 tk_0 (tq_top t_6)) (by decide) (by decide)
    have K_34 : ∀ (x0_34 : Int32) (x1_34 : Int32), tq_iv 1 17 x1_34 → tz_O (fun (z : Int32) => tq_iv (-2147483648) 2147483647 z) (z_J6_numberOfTrailingZeros_0f7a4_34 σ x0_34 x1_34) := by
      intro x0_34 x1_34 i_x1_34
      unfold z_J6_numberOfTrailingZeros_0f7a4_34
      have K_49 : ∀ (x0_49 : Int32) (x1_49 : Int32), tq_iv 1 25 x1_49 → tz_O (fun (z : Int32) => tq_iv (-2147483648) 2147483647 z) (z_J6_numberOfTrailingZeros_0f7a4_49 σ x0_49 x1_49) := by
        intro x0_49 x1_49 i_x1_49
        unfold z_J6_numberOfTrailingZeros_0f7a4_49
        have K_62 : ∀ (x0_62 : Int32) (x1_62 : Int32), tq_iv 1 29 x1_62 → tz_O (fun (z : Int32) => tq_iv (-2147483648) 2147483647 z) (z_J6_numberOfTrailingZeros_0f7a4_62 σ x0_62 x1_62) := by
          intro x0_62 x1_62 i_x1_62
          unfold z_J6_numberOfTrailingZeros_0f7a4_62
          have K_74 : ∀ (x0_74 : Int32) (x1_74 : Int32), tq_iv 1 31 x1_74 → tz_O (fun (z : Int32) => tq_iv (-2147483648) 2147483647 z) (z_J6_numberOfTrailingZeros_0f7a4_74 σ x0_74 x1_74) := by
            intro x0_74 x1_74 i_x1_74
            unfold z_J6_numberOfTrailingZeros_0f7a4_74
            refine tz_let (fun t_77 e1450 => ?_)
            refine tz_let (fun t_78 e1449 => ?_)
            exact tz_some (tq_top t_78)
          refine tz_if _ (fun c1455 => ?_) (fun c1455 => ?_)
          ·
            have i2_x0_62 : tq_iv (-2147483648) 4 x0_62 := tq_cut (tq_top x0_62) (tq_leL c1455 (tq_top x0_62) tk_4) (by decide) (by decide)
            exact K_74 x0_62 x1_62 (tq_w i_x1_62 (by decide) (by decide))
          ·
            have i3_x0_62 : tq_iv 5 2147483647 x0_62 := tq_cut (tq_top x0_62) (tq_ltR (tq_nle c1455) tk_4 (tq_top x0_62)) (by decide) (by decide)
            refine tz_let (fun t_67 e1454 => ?_)
            have i4_t_67 : tq_iv 3 31 t_67 := tq_w (tq_add e1454 i_x1_62 tk_2 (by decide) (by decide)) (by decide) (by decide)
            refine tz_let (fun t_72 e1453 => ?_)
            exact K_74 t_72 t_67 (tq_w i4_t_67 (by decide) (by decide))
        refine tz_if _ (fun c1460 => ?_) (fun c1460 => ?_)
        ·
          have i5_x0_49 : tq_iv (-2147483648) 16 x0_49 := tq_cut (tq_top x0_49) (tq_leL c1460 (tq_top x0_49) tk_16) (by decide) (by decide)
          exact K_62 x0_49 x1_49 (tq_w i_x1_49 (by decide) (by decide))
        ·
          have i6_x0_49 : tq_iv 17 2147483647 x0_49 := tq_cut (tq_top x0_49) (tq_ltR (tq_nle c1460) tk_16 (tq_top x0_49)) (by decide) (by decide)
          refine tz_let (fun t_55 e1459 => ?_)
          have i7_t_55 : tq_iv 5 29 t_55 := tq_w (tq_add e1459 i_x1_49 tk_4 (by decide) (by decide)) (by decide) (by decide)
          refine tz_let (fun t_60 e1458 => ?_)
          exact K_62 t_60 t_55 (tq_w i7_t_55 (by decide) (by decide))
      refine tz_if _ (fun c1465 => ?_) (fun c1465 => ?_)
      ·
        have i8_x0_34 : tq_iv (-2147483648) 256 x0_34 := tq_cut (tq_top x0_34) (tq_leL c1465 (tq_top x0_34) tk_256) (by decide) (by decide)
        exact K_49 x0_34 x1_34 (tq_w i_x1_34 (by decide) (by decide))
      ·
        have i9_x0_34 : tq_iv 257 2147483647 x0_34 := tq_cut (tq_top x0_34) (tq_ltR (tq_nle c1465) tk_256 (tq_top x0_34)) (by decide) (by decide)
        refine tz_let (fun t_41 e1464 => ?_)
        have i10_t_41 : tq_iv 9 25 t_41 := tq_w (tq_add e1464 i_x1_34 tk_8 (by decide) (by decide)) (by decide) (by decide)
        refine tz_let (fun t_47 e1463 => ?_)
        exact K_49 t_47 t_41 (tq_w i10_t_41 (by decide) (by decide))
    refine tz_if _ (fun c1470 => ?_) (fun c1470 => ?_)
    ·
      have i11_t_6 : tq_iv 1 65536 t_6 := tq_cut i1_t_6 (tq_leL c1470 i1_t_6 tk_65536) (by decide) (by decide)
      exact K_34 t_6 (1 : Int32) (tq_w tk_1 (by decide) (by decide))
    ·
      have i12_t_6 : tq_iv 65537 2147483647 t_6 := tq_cut i1_t_6 (tq_ltR (tq_nle c1470) tk_65536 i1_t_6) (by decide) (by decide)
      refine tz_let (fun t_26 e1469 => ?_)
      have i13_t_26 : tq_iv 17 17 t_26 := tq_w (tq_add e1469 tk_1 tk_16 (by decide) (by decide)) (by decide) (by decide)
      refine tz_let (fun t_32 e1468 => ?_)
      exact K_34 t_32 t_26 (tq_w i13_t_26 (by decide) (by decide))
  ·
    have i14_t_6 : tq_iv (-2147483648) 0 t_6 := tq_cut (tq_top t_6) (tq_leL (tq_nlt c1473) (tq_top t_6) tk_0) (by decide) (by decide)
    refine tz_let (fun t_15 e1472 => ?_)
    have i15_t_15 : tq_iv 0 32 t_15 := tq_and2 e1472 tk_32 (by decide)
    exact tz_some (tq_top t_15)
set_option maxRecDepth 4000 in
theorem tz_X6_depthAt {p : tz_P} {σ : ez_H} {h0 : Nat} {x1 : Int32} {x2 : Int32} (hT : tp p σ) (k_h0 : tz_C h0 = some (3, 6, 0, 0)) (i_x2 : tq_iv (-998) 998 x2) : tz_O (fun z => tq_iv (-2147483648) 2147483647 z) (z_X6_depthAt σ h0 x1 x2) := by
  unfold z_X6_depthAt
  refine tz_bd (tz_ob hT k_h0) (fun _ _ => ?_)
  refine tz_bd (tz_X6_depthsAt hT i_x2) (fun t_2 i_t_2 => ?_)
  refine tz_bd (tz_J6_numberOfTrailingZeros_0f7a4 hT) (fun t_5 i_t_5 => ?_)
  exact tz_some (tq_top t_5)
set_option maxRecDepth 4000 in
theorem tz_X6_numberOf {p : tz_P} {σ : ez_H} {h0 : Nat} {x1 : Int32} (hT : tp p σ) (k_h0 : tz_C h0 = some (3, 6, 0, 0)) : tz_O (fun z => tq_iv (-2147483648) 2147483647 z) (z_X6_numberOf σ h0 x1) := by
  unfold z_X6_numberOf
  refine tz_bd (tz_ob hT k_h0) (fun _ _ => ?_)
  refine tz_if _ (fun c1492 => ?_) (fun c1492 => ?_)
  ·
    have i1_x1 : tq_iv 0 0 x1 := tq_cut (tq_top x1) (tq_eqL c1492 tk_0) (by decide) (by decide)
    exact tz_some (tq_top (-1 : Int32))
  ·
    have L_10 : ∀ (n_10 : Nat) (k_10 : Nat → Int32 → Int32 → Int32 → Option (Int32)), (∀ (x2_10 : Int32) (x3_10 : Int32), tq_iv 0 999 x3_10 → (2147483647 - x3_10.toInt).toNat < n_10 → tz_O (fun (z : Int32) => tq_iv (-2147483648) 2147483647 z) (k_10 h0 x1 x2_10 x3_10)) → ∀ (x2_10 : Int32) (x3_10 : Int32), tq_iv 0 999 x3_10 → (2147483647 - x3_10.toInt).toNat < n_10 + 1 → tz_O (fun (z : Int32) => tq_iv (-2147483648) 2147483647 z) (z_X6_numberOf_10 σ k_10 h0 x1 x2_10 x3_10) := by
      intro n_10 k_10 hk_10 x2_10 x3_10 i_x3_10 hn_10
      unfold z_X6_numberOf_10
      refine tz_be (tg_6_0 hT k_h0) (fun t_12 e1489 i_t_12 => ?_)
      refine tz_if _ (fun c1488 => ?_) (fun c1488 => ?_)
      ·
        exact tz_some (tq_top x2_10)
      ·
        have i2_x3_10 : tq_iv 0 998 x3_10 := tq_cut i_x3_10 (tq_ltL (tq_nle c1488) i_x3_10 i_t_12) (by decide) (by decide)
        have i3_t_12 : tq_iv 1 999 t_12 := tq_cut i_t_12 (tq_ltR (tq_nle c1488) i_x3_10 i_t_12) (by decide) (by decide)
        refine tz_be (tg_6_1 hT k_h0) (fun t_20 e1487 i_t_20 => ?_)
        refine tz_let (fun t_23 e1486 => ?_)
        refine tz_bd (tz_X6_depthAt hT k_h0 (tq_w i2_x3_10 (by decide) (by decide))) (fun t_27 i_t_27 => ?_)
        refine tz_let (fun t_30 e1484 => ?_)
        refine tz_let (fun t_32 e1483 => ?_)
        have i4_t_32 : tq_iv 1 999 t_32 := tq_w (tq_add e1483 i2_x3_10 tk_1 (by decide) (by decide)) (by decide) (by decide)
        exact hk_10 t_30 t_32 (tq_w i4_t_32 (by decide) (by decide)) (tq_up e1483 i2_x3_10 tk_1 (by decide) (by decide) hn_10)
    have E_10 : ∀ (x2_10 : Int32) (x3_10 : Int32), tq_iv 0 999 x3_10 → tz_O (fun (z : Int32) => tq_iv (-2147483648) 2147483647 z) (ez_fix (fun _ _ _ _ => none) (z_X6_numberOf_10 σ) ez_N h0 x1 x2_10 x3_10) := by
      intro x2_10 x3_10 i_x3_10
      exact ez_fix_indn (fun n_10 (k_10 : Nat → Int32 → Int32 → Int32 → Option (Int32)) => ∀ (x2_10 : Int32) (x3_10 : Int32), tq_iv 0 999 x3_10 → (2147483647 - x3_10.toInt).toNat < n_10 → tz_O (fun (z : Int32) => tq_iv (-2147483648) 2147483647 z) (k_10 h0 x1 x2_10 x3_10)) (by intros; rename_i h; exact absurd h (Nat.not_lt_zero _)) L_10 ez_N x2_10 x3_10 i_x3_10 (tq_m0 x3_10)
    exact E_10 (0 : Int32) (0 : Int32) (tq_w tk_0 (by decide) (by decide))
set_option maxRecDepth 4000 in
theorem tz_X11_bitting {p : tz_P} {σ : ez_H} {h0 : Nat} {x1 : Int32} (hT : tp p σ) (k_h0 : tz_C h0 = some (3, 11, 0, 0)) : tz_O2 (fun (z : Int32) (s : ez_H) => tq_iv (-2147483648) 2147483647 z ∧ tp p s) (z_X11_bitting σ h0 x1) := by
  show tz_O (fun z : Int32 × ez_H => (fun (z : Int32) (s : ez_H) => tq_iv (-2147483648) 2147483647 z ∧ tp p s) z.1 z.2) _
  unfold z_X11_bitting
  refine tz_bd (tz_ob hT k_h0) (fun _ _ => ?_)
  refine tz_be (tg_11_4 hT k_h0) (fun t_1 e1500 k_t_1 => ?_)
  refine tz_bk e1500 ?_
  refine tz_bk e1500 ?_
  refine tz_bd (tz_X6_everything hT k_t_1) (fun t_12 i_t_12 => ?_)
  refine tz_b2 (tz_X6_nth hT k_t_1) (fun t_16 σ1496 ⟨i_t_16, T1496⟩ => ?_)
  refine tz_bd (tz_X6_numberOf T1496 k_t_1) (fun t_19 i_t_19 => ?_)
  exact tz_some ⟨(tq_top t_19), T1496⟩
set_option maxRecDepth 4000 in
theorem tz_X3_allLocks {p : tz_P} {σ : ez_H} {h0 : Nat} (hT : tp p σ) (k_h0 : tz_C h0 = some (3, 3, 0, 0)) : tz_O (fun z => tq_iv (-2147483648) 2147483647 z) (z_X3_allLocks σ h0) := by
  unfold z_X3_allLocks
  refine tz_bd (tz_ob hT k_h0) (fun _ _ => ?_)
  refine tz_be (tg_3_4 hT k_h0) (fun t_2 e1505 i_t_2 => ?_)
  refine tz_let (fun t_5 e1504 => ?_)
  refine tz_let (fun t_7 e1503 => ?_)
  exact tz_some (tq_top t_7)
set_option maxRecDepth 4000 in
theorem tz_X11_blanks {p : tz_P} {σ : ez_H} {h0 : Nat} (hT : tp p σ) (k_h0 : tz_C h0 = some (3, 11, 0, 0)) : tz_O2 (fun (z : Int32) (s : ez_H) => tq_iv (-2147483648) 2147483647 z ∧ tp p s) (z_X11_blanks σ h0) := by
  show tz_O (fun z : Int32 × ez_H => (fun (z : Int32) (s : ez_H) => tq_iv (-2147483648) 2147483647 z ∧ tp p s) z.1 z.2) _
  unfold z_X11_blanks
  refine tz_bd (tz_ob hT k_h0) (fun _ _ => ?_)
  refine tz_be (tg_11_10 hT k_h0) (fun t_1 e1514 k_t_1 => ?_)
  refine tz_be (tg_11_5 hT k_h0) (fun t_5 e1513 k_t_5 => ?_)
  refine tz_b2 (tz_X8_take hT k_t_1 k_t_5) (fun _ σ1512 T1512 => ?_)
  refine tz_be (tg_11_10 T1512 k_h0) (fun t_12 e1511 k_t_12 => ?_)
  refine tz_be (tg_11_3 T1512 k_h0) (fun t_17 e1510 k_t_17 => ?_)
  refine tz_bd (tz_X3_allLocks T1512 k_t_17) (fun t_20 i_t_20 => ?_)
  refine tz_bd (tz_X8_total T1512 k_t_12) (fun t_23 i_t_23 => ?_)
  exact tz_some ⟨(tq_top t_23), T1512⟩
set_option maxRecDepth 4000 in
theorem tz_X6_fillUp {p : tz_P} {σ : ez_H} {h0 : Nat} {x1 : Int32} {x2 : Int32} {x3 : Int32} (hT : tp p σ) (k_h0 : tz_C h0 = some (3, 6, 0, 0)) (i_x2 : tq_iv 0 999 x2) (i_x3 : tq_iv (-2147483648) 998 x3) : tz_O (fun z => tq_iv (-2147483648) 2147483647 z) (z_X6_fillUp σ h0 x1 x2 x3) := by
  unfold z_X6_fillUp
  refine tz_bd (tz_ob hT k_h0) (fun _ _ => ?_)
  have L_9 : ∀ (n_9 : Nat) (k_9 : Nat → Int32 → Int32 → Int32 → Option (Int32)), (∀ (x4_9 : Int32) (x5_9 : Int32) (x6_9 : Int32), tq_iv 0 999 x6_9 → (2147483647 - x6_9.toInt).toNat < n_9 → tz_O (fun (z : Int32) => tq_iv (-2147483648) 2147483647 z) (k_9 h0 x4_9 x5_9 x6_9)) → ∀ (x4_9 : Int32) (x5_9 : Int32) (x6_9 : Int32), tq_iv 0 999 x6_9 → (2147483647 - x6_9.toInt).toNat < n_9 + 1 → tz_O (fun (z : Int32) => tq_iv (-2147483648) 2147483647 z) (z_X6_fillUp_9 σ k_9 h0 x4_9 x5_9 x6_9) := by
    intro n_9 k_9 hk_9 x4_9 x5_9 x6_9 i_x6_9 hn_9
    unfold z_X6_fillUp_9
    refine tz_be (tg_6_0 hT k_h0) (fun t_12 e1523 i_t_12 => ?_)
    refine tz_if _ (fun c1522 => ?_) (fun c1522 => ?_)
    ·
      exact tz_some (tq_top x4_9)
    ·
      have i1_x6_9 : tq_iv 0 998 x6_9 := tq_cut i_x6_9 (tq_ltL (tq_nle c1522) i_x6_9 i_t_12) (by decide) (by decide)
      have i2_t_12 : tq_iv 1 999 t_12 := tq_cut i_t_12 (tq_ltR (tq_nle c1522) i_x6_9 i_t_12) (by decide) (by decide)
      refine tz_bd (tz_X6_lowest hT k_h0) (fun t_21 i_t_21 => ?_)
      refine tz_bd (tz_X6_notch hT (tq_w i1_x6_9 (by decide) (by decide))) (fun t_32 i_t_32 => ?_)
      refine tz_let (fun t_35 e1519 => ?_)
      refine tz_let (fun t_38 e1518 => ?_)
      have i3_t_38 : tq_iv 1 999 t_38 := tq_w (tq_add e1518 i1_x6_9 tk_1 (by decide) (by decide)) (by decide) (by decide)
      exact hk_9 t_35 t_21 t_38 (tq_w i3_t_38 (by decide) (by decide)) (tq_up e1518 i1_x6_9 tk_1 (by decide) (by decide) hn_9)
  have E_9 : ∀ (x4_9 : Int32) (x5_9 : Int32) (x6_9 : Int32), tq_iv 0 999 x6_9 → tz_O (fun (z : Int32) => tq_iv (-2147483648) 2147483647 z) (ez_fix (fun _ _ _ _ => none) (z_X6_fillUp_9 σ) ez_N h0 x4_9 x5_9 x6_9) := by
    intro x4_9 x5_9 x6_9 i_x6_9
    exact ez_fix_indn (fun n_9 (k_9 : Nat → Int32 → Int32 → Int32 → Option (Int32)) => ∀ (x4_9 : Int32) (x5_9 : Int32) (x6_9 : Int32), tq_iv 0 999 x6_9 → (2147483647 - x6_9.toInt).toNat < n_9 → tz_O (fun (z : Int32) => tq_iv (-2147483648) 2147483647 z) (k_9 h0 x4_9 x5_9 x6_9)) (by intros; rename_i h; exact absurd h (Nat.not_lt_zero _)) L_9 ez_N x4_9 x5_9 x6_9 i_x6_9 (tq_m0 x6_9)
  exact E_9 x1 x3 x2 i_x2
set_option maxRecDepth 4000 in
theorem tz_X6_least {p : tz_P} {σ : ez_H} {h0 : Nat} (hT : tp p σ) (k_h0 : tz_C h0 = some (3, 6, 0, 0)) : tz_O (fun z => tq_iv (-2147483648) 2147483647 z) (z_X6_least σ h0) := by
  unfold z_X6_least
  refine tz_bd (tz_ob hT k_h0) (fun _ _ => ?_)
  refine tz_bd (tz_X6_fillUp hT k_h0 (tq_w tk_0 (by decide) (by decide)) (tq_w tk_0 (by decide) (by decide))) (fun t_4 i_t_4 => ?_)
  exact tz_some (tq_top t_4)
set_option maxRecDepth 4000 in
theorem tz_X11_differsFromAll {p : tz_P} {σ : ez_H} {h0 : Nat} {x1 : Int32} {x2 : Int32} (hT : tp p σ) (k_h0 : tz_C h0 = some (3, 11, 0, 0)) (i_x2 : tq_iv 0 59 x2) : tz_O (fun z => tq_iv 0 1 z) (z_X11_differsFromAll σ h0 x1 x2) := by
  unfold z_X11_differsFromAll
  refine tz_bd (tz_ob hT k_h0) (fun _ _ => ?_)
  have L_2 : ∀ (n_2 : Nat) (k_2 : Nat → Int32 → Int32 → Int32 → Option (Int32)), (∀ (x3_2 : Int32), tq_iv 0 59 x3_2 → (2147483647 - x3_2.toInt).toNat < n_2 → tz_O (fun (z : Int32) => tq_iv 0 1 z) (k_2 h0 x1 x2 x3_2)) → ∀ (x3_2 : Int32), tq_iv 0 59 x3_2 → (2147483647 - x3_2.toInt).toNat < n_2 + 1 → tz_O (fun (z : Int32) => tq_iv 0 1 z) (z_X11_differsFromAll_2 σ k_2 h0 x1 x2 x3_2) := by
    intro n_2 k_2 hk_2 x3_2 i_x3_2 hn_2
    unfold z_X11_differsFromAll_2
    have K_44 : tz_O (fun (z : Int32) => tq_iv 0 1 z) (z_X11_differsFromAll_44 σ) := by
      unfold z_X11_differsFromAll_44
      exact tz_some (tq_w tk_1 (by decide) (by decide))
    refine tz_if _ (fun c1544 => ?_) (fun c1544 => ?_)
    ·
      exact K_44 
    ·
      have i1_x3_2 : tq_iv 0 58 x3_2 := tq_cut i_x3_2 (tq_ltL (tq_nle c1544) i_x3_2 i_x2) (by decide) (by decide)
      have i2_x2 : tq_iv 1 59 x2 := tq_cut i_x2 (tq_ltR (tq_nle c1544) i_x3_2 i_x2) (by decide) (by decide)
      refine tz_if _ (fun c1543 => ?_) (fun c1543 => ?_)
      ·
        exact (tq_xle c1543 tk_60 i1_x3_2 (by decide)).elim
      ·
        refine tz_be (tg_11_15 hT k_h0) (fun t_15 e1542 k_t_15 => ?_)
        refine tz_be (tz_ia hT k_t_15 (te_0 (p := p)) i1_x3_2 (by decide) (by decide)) (fun t_19 e1541 i_t_19 => ?_)
        refine tz_let (fun t_20 e1540 => ?_)
        refine tz_bd (tz_J6_bitCount_0f7a4 hT) (fun t_21 i_t_21 => ?_)
        refine tz_be (tg_11_4 hT k_h0) (fun t_25 e1538 k_t_25 => ?_)
        refine tz_be (tg_6_0 hT k_t_25) (fun t_28 e1537 i_t_28 => ?_)
        refine tz_let (fun t_32 e1536 => ?_)
        have i3_t_32 : tq_iv (-2) 997 t_32 := tq_w (tq_sub e1536 i_t_28 tk_2 (by decide) (by decide)) (by decide) (by decide)
        refine tz_if _ (fun c1535 => ?_) (fun c1535 => ?_)
        ·
          have i4_t_32 : tq_iv 0 997 t_32 := tq_cut i3_t_32 (tq_leR c1535 i_t_21 i3_t_32) (by decide) (by decide)
          refine tz_let (fun t_38 e1533 => ?_)
          have i5_t_38 : tq_iv 1 59 t_38 := tq_w (tq_add e1533 i1_x3_2 tk_1 (by decide) (by decide)) (by decide) (by decide)
          exact hk_2 t_38 (tq_w i5_t_38 (by decide) (by decide)) (tq_up e1533 i1_x3_2 tk_1 (by decide) (by decide) hn_2)
        ·
          have i6_t_32 : tq_iv (-2) 62 t_32 := tq_cut i3_t_32 (tq_ltL (tq_nle c1535) i3_t_32 i_t_21) (by decide) (by decide)
          exact tz_some (tq_w tk_0 (by decide) (by decide))
  have E_2 : ∀ (x3_2 : Int32), tq_iv 0 59 x3_2 → tz_O (fun (z : Int32) => tq_iv 0 1 z) (ez_fix (fun _ _ _ _ => none) (z_X11_differsFromAll_2 σ) ez_N h0 x1 x2 x3_2) := by
    intro x3_2 i_x3_2
    exact ez_fix_indn (fun n_2 (k_2 : Nat → Int32 → Int32 → Int32 → Option (Int32)) => ∀ (x3_2 : Int32), tq_iv 0 59 x3_2 → (2147483647 - x3_2.toInt).toNat < n_2 → tz_O (fun (z : Int32) => tq_iv 0 1 z) (k_2 h0 x1 x2 x3_2)) (by intros; rename_i h; exact absurd h (Nat.not_lt_zero _)) L_2 ez_N x3_2 i_x3_2 (tq_m0 x3_2)
  exact E_2 (0 : Int32) (tq_w tk_0 (by decide) (by decide))
set_option maxRecDepth 4000 in
theorem tz_X6_after {p : tz_P} {σ : ez_H} {h0 : Nat} {x1 : Int32} (hT : tp p σ) (k_h0 : tz_C h0 = some (3, 6, 0, 0)) : tz_O (fun z => tq_iv (-2147483648) 2147483647 z) (z_X6_after σ h0 x1) := by
  unfold z_X6_after
  refine tz_bd (tz_ob hT k_h0) (fun _ _ => ?_)
  refine tz_be (tg_6_0 hT k_h0) (fun t_1 e1572 i_t_1 => ?_)
  refine tz_let (fun t_5 e1571 => ?_)
  have i1_t_5 : tq_iv (-1) 998 t_5 := tq_w (tq_sub e1571 i_t_1 tk_1 (by decide) (by decide)) (by decide) (by decide)
  have L_7 : ∀ (n_7 : Nat) (k_7 : Nat → Int32 → Int32 → Option (Int32)), (∀ (x2_7 : Int32), tq_iv (-1) 998 x2_7 → (x2_7.toInt + 2147483648).toNat < n_7 → tz_O (fun (z : Int32) => tq_iv (-2147483648) 2147483647 z) (k_7 h0 x1 x2_7)) → ∀ (x2_7 : Int32), tq_iv (-1) 998 x2_7 → (x2_7.toInt + 2147483648).toNat < n_7 + 1 → tz_O (fun (z : Int32) => tq_iv (-2147483648) 2147483647 z) (z_X6_after_7 σ k_7 h0 x1 x2_7) := by
    intro n_7 k_7 hk_7 x2_7 i_x2_7 hn_7
    unfold z_X6_after_7
    refine tz_if _ (fun c1569 => ?_) (fun c1569 => ?_)
    ·
      have i2_x2_7 : tq_iv (-1) (-1) x2_7 := tq_cut i_x2_7 (tq_ltL c1569 i_x2_7 tk_0) (by decide) (by decide)
      exact tz_some (tq_top (0 : Int32))
    ·
      have i3_x2_7 : tq_iv 0 998 x2_7 := tq_cut i_x2_7 (tq_leR (tq_nlt c1569) tk_0 i_x2_7) (by decide) (by decide)
      refine tz_bd (tz_X6_depthAt hT k_h0 (tq_w i3_x2_7 (by decide) (by decide))) (fun t_14 i_t_14 => ?_)
      refine tz_let (fun t_18 e1567 => ?_)
      have K_45 : ∀ (y0_45 : Int32), tq_iv (-2147483648) 998 y0_45 → tz_O (fun (z : Int32) => tq_iv (-2147483648) 2147483647 z) (z_X6_after_45 σ k_7 h0 x1 x2_7 t_18 y0_45) := by
        intro y0_45 i_y0_45
        unfold z_X6_after_45
        refine tz_if _ (fun c1557 => ?_) (fun c1557 => ?_)
        ·
          have i4_t_18 : tq_iv (-2147483647) 2147483647 t_18 := tq_cut (tq_top t_18) (tq_ltR c1557 i_y0_45 (tq_top t_18)) (by decide) (by decide)
          refine tz_let (fun t_81 e1548 => ?_)
          have i5_t_81 : tq_iv (-1) 997 t_81 := tq_w (tq_add e1548 i3_x2_7 tk_m1 (by decide) (by decide)) (by decide) (by decide)
          exact hk_7 t_81 (tq_w i5_t_81 (by decide) (by decide)) (tq_down e1548 i3_x2_7 tk_m1 (by decide) (by decide) hn_7)
        ·
          have i6_t_18 : tq_iv (-2147483648) 998 t_18 := tq_cut (tq_top t_18) (tq_leL (tq_nlt c1557) (tq_top t_18) i_y0_45) (by decide) (by decide)
          refine tz_bd (tz_X6_notch hT (tq_w i3_x2_7 (by decide) (by decide))) (fun t_56 i_t_56 => ?_)
          refine tz_let (fun t_60 e1555 => ?_)
          refine tz_let (fun t_61 e1554 => ?_)
          refine tz_bd (tz_X6_notch hT (tq_w i3_x2_7 (by decide) (by decide))) (fun t_69 i_t_69 => ?_)
          refine tz_let (fun t_72 e1552 => ?_)
          refine tz_let (fun t_75 e1551 => ?_)
          have i7_t_75 : tq_iv 1 999 t_75 := tq_w (tq_add e1551 i3_x2_7 tk_1 (by decide) (by decide)) (by decide) (by decide)
          refine tz_bd (tz_X6_fillUp hT k_h0 (tq_w i7_t_75 (by decide) (by decide)) i6_t_18) (fun t_77 i_t_77 => ?_)
          exact tz_some (tq_top t_77)
      refine tz_if _ (fun c1566 => ?_) (fun c1566 => ?_)
      ·
        have i8_x2_7 : tq_iv 0 0 x2_7 := tq_cut i3_x2_7 (tq_eqL c1566 tk_0) (by decide) (by decide)
        refine tz_be (tg_6_1 hT k_h0) (fun t_25 e1561 i_t_25 => ?_)
        refine tz_let (fun t_29 e1560 => ?_)
        have i9_t_29 : tq_iv (-1) 998 t_29 := tq_w (tq_sub e1560 i_t_25 tk_1 (by decide) (by decide)) (by decide) (by decide)
        exact K_45 t_29 (tq_w i9_t_29 (by decide) (by decide))
      ·
        have i10_x2_7 : tq_iv 1 998 x2_7 := tq_w (tq_neLo c1566 i3_x2_7 tk_0) (by decide) (by decide)
        refine tz_let (fun t_38 e1565 => ?_)
        have i11_t_38 : tq_iv 0 997 t_38 := tq_w (tq_sub e1565 i10_x2_7 tk_1 (by decide) (by decide)) (by decide) (by decide)
        refine tz_bd (tz_X6_depthAt hT k_h0 (tq_w i11_t_38 (by decide) (by decide))) (fun t_39 i_t_39 => ?_)
        refine tz_bd (tz_X6_highest hT k_h0) (fun t_42 i_t_42 => ?_)
        exact K_45 t_42 i_t_42
  have E_7 : ∀ (x2_7 : Int32), tq_iv (-1) 998 x2_7 → tz_O (fun (z : Int32) => tq_iv (-2147483648) 2147483647 z) (ez_fix (fun _ _ _ => none) (z_X6_after_7 σ) ez_N h0 x1 x2_7) := by
    intro x2_7 i_x2_7
    exact ez_fix_indn (fun n_7 (k_7 : Nat → Int32 → Int32 → Option (Int32)) => ∀ (x2_7 : Int32), tq_iv (-1) 998 x2_7 → (x2_7.toInt + 2147483648).toNat < n_7 → tz_O (fun (z : Int32) => tq_iv (-2147483648) 2147483647 z) (k_7 h0 x1 x2_7)) (by intros; rename_i h; exact absurd h (Nat.not_lt_zero _)) L_7 ez_N x2_7 i_x2_7 (tq_m1 x2_7)
  exact E_7 t_5 i1_t_5
set_option maxRecDepth 4000 in
theorem tz_X11_book {p : tz_P} {σ : ez_H} {h0 : Nat} {x1 : Int32} (hT : tp p σ) (k_h0 : tz_C h0 = some (3, 11, 0, 0)) : tz_O2 (fun (z : Int32) (s : ez_H) => tq_iv (-2147483648) 2147483647 z ∧ tp p s) (z_X11_book σ h0 x1) := by
  show tz_O (fun z : Int32 × ez_H => (fun (z : Int32) (s : ez_H) => tq_iv (-2147483648) 2147483647 z ∧ tp p s) z.1 z.2) _
  unfold z_X11_book
  refine tz_bd (tz_ob hT k_h0) (fun _ _ => ?_)
  have K_10 : tz_O (fun z : Int32 × ez_H => (fun (z : Int32) (s : ez_H) => tq_iv (-2147483648) 2147483647 z ∧ tp p s) z.1 z.2) (z_X11_book_10 σ) := by
    unfold z_X11_book_10
    exact tz_some ⟨(tq_top (-1 : Int32)), hT⟩
  refine tz_if _ (fun c1606 => ?_) (fun c1606 => ?_)
  ·
    have i1_x1 : tq_iv (-2147483648) (-1) x1 := tq_cut (tq_top x1) (tq_ltL c1606 (tq_top x1) tk_0) (by decide) (by decide)
    exact K_10 
  ·
    have i2_x1 : tq_iv 0 2147483647 x1 := tq_cut (tq_top x1) (tq_leR (tq_nlt c1606) tk_0 (tq_top x1)) (by decide) (by decide)
    refine tz_if _ (fun c1605 => ?_) (fun c1605 => ?_)
    ·
      have i3_x1 : tq_iv 0 59 x1 := tq_cut i2_x1 (tq_ltL c1605 i2_x1 tk_60) (by decide) (by decide)
      refine tz_be (tg_11_4 hT k_h0) (fun t_15 e1603 k_t_15 => ?_)
      refine tz_bd (tz_X6_least hT k_t_15) (fun t_18 i_t_18 => ?_)
      have L_25 : ∀ (n_25 : Nat) (k_25 : ez_H → Nat → Int32 → Int32 → Int32 → Int32 → Option (Int32 × ez_H)), (∀ (σ_25 : ez_H) (x2_25 : Int32) (x3_25 : Int32) (x4_25 : Int32), tp p σ_25 → tq_iv 0 60 x2_25 → tq_iv 0 7776 x4_25 → (2147483647 - x4_25.toInt).toNat < n_25 → tz_O (fun z : Int32 × ez_H => (fun (z : Int32) (s : ez_H) => tq_iv (-2147483648) 2147483647 z ∧ tp p s) z.1 z.2) (k_25 σ_25 h0 x1 x2_25 x3_25 x4_25)) → ∀ (σ_25 : ez_H) (x2_25 : Int32) (x3_25 : Int32) (x4_25 : Int32), tp p σ_25 → tq_iv 0 60 x2_25 → tq_iv 0 7776 x4_25 → (2147483647 - x4_25.toInt).toNat < n_25 + 1 → tz_O (fun z : Int32 × ez_H => (fun (z : Int32) (s : ez_H) => tq_iv (-2147483648) 2147483647 z ∧ tp p s) z.1 z.2) (z_X11_book_25 k_25 σ_25 h0 x1 x2_25 x3_25 x4_25) := by
        intro n_25 k_25 hk_25 σ_25 x2_25 x3_25 x4_25 T_σ_25 i_x2_25 i_x4_25 hn_25
        unfold z_X11_book_25
        have K_76 : tz_O (fun z : Int32 × ez_H => (fun (z : Int32) (s : ez_H) => tq_iv (-2147483648) 2147483647 z ∧ tp p s) z.1 z.2) (z_X11_book_76 σ_25 h0 x1 x2_25) := by
          unfold z_X11_book_76
          have K_98 : ∀ (y0_98 : Int32), tz_O (fun z : Int32 × ez_H => (fun (z : Int32) (s : ez_H) => tq_iv (-2147483648) 2147483647 z ∧ tp p s) z.1 z.2) (z_X11_book_98 σ_25 y0_98) := by
            intro y0_98
            unfold z_X11_book_98
            exact tz_some ⟨(tq_top y0_98), T_σ_25⟩
          refine tz_if _ (fun c1582 => ?_) (fun c1582 => ?_)
          ·
            have i4_x2_25 : tq_iv 0 59 x2_25 := tq_cut i_x2_25 (tq_leL c1582 i_x2_25 i3_x1) (by decide) (by decide)
            exact K_98 (-1 : Int32)
          ·
            have i5_x2_25 : tq_iv 1 60 x2_25 := tq_cut i_x2_25 (tq_ltR (tq_nle c1582) i3_x1 i_x2_25) (by decide) (by decide)
            refine tz_be (tg_11_4 T_σ_25 k_h0) (fun t_82 e1581 k_t_82 => ?_)
            refine tz_be (tg_11_15 T_σ_25 k_h0) (fun t_86 e1580 k_t_86 => ?_)
            refine tz_be (tz_ia T_σ_25 k_t_86 (te_0 (p := p)) i3_x1 (by decide) (by decide)) (fun t_90 e1579 i_t_90 => ?_)
            refine tz_bd (tz_X6_numberOf T_σ_25 k_t_82) (fun t_91 i_t_91 => ?_)
            exact K_98 t_91
        refine tz_if _ (fun c1599 => ?_) (fun c1599 => ?_)
        ·
          have i6_x4_25 : tq_iv 7776 7776 x4_25 := tq_cut i_x4_25 (tq_leR c1599 tk_7776 i_x4_25) (by decide) (by decide)
          exact K_76 
        ·
          have i7_x4_25 : tq_iv 0 7775 x4_25 := tq_cut i_x4_25 (tq_ltL (tq_nle c1599) i_x4_25 tk_7776) (by decide) (by decide)
          refine tz_if _ (fun c1598 => ?_) (fun c1598 => ?_)
          ·
            have i8_x3_25 : tq_iv 0 0 x3_25 := tq_cut (tq_top x3_25) (tq_eqL c1598 tk_0) (by decide) (by decide)
            exact K_76 
          ·
            refine tz_if _ (fun c1597 => ?_) (fun c1597 => ?_)
            ·
              have i9_x2_25 : tq_iv 1 60 x2_25 := tq_cut i_x2_25 (tq_ltR c1597 i3_x1 i_x2_25) (by decide) (by decide)
              exact K_76 
            ·
              have i10_x2_25 : tq_iv 0 59 x2_25 := tq_cut i_x2_25 (tq_leL (tq_nlt c1597) i_x2_25 i3_x1) (by decide) (by decide)
              refine tz_bd (tz_X11_differsFromAll T_σ_25 k_h0 i10_x2_25) (fun t_45 i_t_45 => ?_)
              have K_61 : ∀ (σ_61 : ez_H) (x2_61 : Int32), tp p σ_61 → tq_iv 0 60 x2_61 → tz_O (fun z : Int32 × ez_H => (fun (z : Int32) (s : ez_H) => tq_iv (-2147483648) 2147483647 z ∧ tp p s) z.1 z.2) (z_X11_book_61 k_25 σ_61 h0 x1 x2_61 x3_25 x4_25) := by
                intro σ_61 x2_61 T_σ_61 i_x2_61
                unfold z_X11_book_61
                refine tz_be (tg_11_4 T_σ_61 k_h0) (fun t_62 e1586 k_t_62 => ?_)
                refine tz_bd (tz_X6_after T_σ_61 k_t_62) (fun t_66 i_t_66 => ?_)
                refine tz_let (fun t_70 e1584 => ?_)
                have i11_t_70 : tq_iv 1 7776 t_70 := tq_w (tq_add e1584 i7_x4_25 tk_1 (by decide) (by decide)) (by decide) (by decide)
                exact hk_25 σ_61 x2_61 t_66 t_70 T_σ_61 i_x2_61 (tq_w i11_t_70 (by decide) (by decide)) (tq_up e1584 i7_x4_25 tk_1 (by decide) (by decide) hn_25)
              refine tz_if _ (fun c1595 => ?_) (fun c1595 => ?_)
              ·
                have i12_t_45 : tq_iv 0 0 t_45 := tq_cut i_t_45 (tq_eqL c1595 tk_0) (by decide) (by decide)
                exact K_61 σ_25 x2_25 T_σ_25 (tq_w i10_x2_25 (by decide) (by decide))
              ·
                have i13_t_45 : tq_iv 1 1 t_45 := tq_w (tq_neLo c1595 i_t_45 tk_0) (by decide) (by decide)
                refine tz_be (tg_11_15 T_σ_25 k_h0) (fun t_52 e1594 k_t_52 => ?_)
                refine tz_be (tz_is T_σ_25 k_t_52 (te_0 (p := p)) i10_x2_25 (by decide) (by decide) (tq_top x3_25)) (fun σ1593 e1593 T1593 => ?_)
                refine tz_let (fun t_58 e1592 => ?_)
                have i14_t_58 : tq_iv 1 60 t_58 := tq_w (tq_add e1592 i10_x2_25 tk_1 (by decide) (by decide)) (by decide) (by decide)
                exact K_61 σ1593 t_58 T1593 (tq_w i14_t_58 (by decide) (by decide))
      have E_25 : ∀ (σ_25 : ez_H) (x2_25 : Int32) (x3_25 : Int32) (x4_25 : Int32), tp p σ_25 → tq_iv 0 60 x2_25 → tq_iv 0 7776 x4_25 → tz_O (fun z : Int32 × ez_H => (fun (z : Int32) (s : ez_H) => tq_iv (-2147483648) 2147483647 z ∧ tp p s) z.1 z.2) (ez_fix (fun _ _ _ _ _ _ => none) (z_X11_book_25) ez_N σ_25 h0 x1 x2_25 x3_25 x4_25) := by
        intro σ_25 x2_25 x3_25 x4_25 T_σ_25 i_x2_25 i_x4_25
        exact ez_fix_indn (fun n_25 (k_25 : ez_H → Nat → Int32 → Int32 → Int32 → Int32 → Option (Int32 × ez_H)) => ∀ (σ_25 : ez_H) (x2_25 : Int32) (x3_25 : Int32) (x4_25 : Int32), tp p σ_25 → tq_iv 0 60 x2_25 → tq_iv 0 7776 x4_25 → (2147483647 - x4_25.toInt).toNat < n_25 → tz_O (fun z : Int32 × ez_H => (fun (z : Int32) (s : ez_H) => tq_iv (-2147483648) 2147483647 z ∧ tp p s) z.1 z.2) (k_25 σ_25 h0 x1 x2_25 x3_25 x4_25)) (by intros; rename_i h; exact absurd h (Nat.not_lt_zero _)) L_25 ez_N σ_25 x2_25 x3_25 x4_25 T_σ_25 i_x2_25 i_x4_25 (tq_m0 x4_25)
      exact E_25 σ (0 : Int32) t_18 (0 : Int32) hT (tq_w tk_0 (by decide) (by decide)) (tq_w tk_0 (by decide) (by decide))
    ·
      have i15_x1 : tq_iv 60 2147483647 x1 := tq_cut i2_x1 (tq_leR (tq_nlt c1605) tk_60 i2_x1) (by decide) (by decide)
      exact K_10
set_option maxRecDepth 4000 in
theorem tz_X3_neverOf {p : tz_P} {σ : ez_H} {h0 : Nat} {x1 : Int32} (hT : tp p σ) (k_h0 : tz_C h0 = some (3, 3, 0, 0)) (i_x1 : tq_iv 0 2147483646 x1) : tz_O (fun z => tq_iv (-2147483648) 2147483647 z) (z_X3_neverOf σ h0 x1) := by
  unfold z_X3_neverOf
  refine tz_bd (tz_ob hT k_h0) (fun _ _ => ?_)
  refine tz_be (tg_3_12 hT k_h0) (fun t_1 e1610 k_t_1 => ?_)
  refine tz_bd (tz_X3_look hT k_t_1) (fun t_5 i_t_5 => ?_)
  exact tz_some (tq_top t_5)
set_option maxRecDepth 4000 in
theorem tz_X3_mustOf {p : tz_P} {σ : ez_H} {h0 : Nat} {x1 : Int32} (hT : tp p σ) (k_h0 : tz_C h0 = some (3, 3, 0, 0)) (i_x1 : tq_iv 0 2147483646 x1) : tz_O (fun z => tq_iv (-2147483648) 2147483647 z) (z_X3_mustOf σ h0 x1) := by
  unfold z_X3_mustOf
  refine tz_bd (tz_ob hT k_h0) (fun _ _ => ?_)
  refine tz_be (tg_3_11 hT k_h0) (fun t_1 e1614 k_t_1 => ?_)
  refine tz_bd (tz_X3_look hT k_t_1) (fun t_5 i_t_5 => ?_)
  exact tz_some (tq_top t_5)
set_option maxRecDepth 4000 in
theorem tz_X5_pinsFor {p : tz_P} {σ : ez_H} {h0 : Nat} {x1 : Int32} (hT : tp p σ) (k_h0 : tz_C h0 = some (3, 5, 0, 0)) : tz_O (fun z => tq_iv (-2147483648) 2147483647 z) (z_X5_pinsFor σ h0 x1) := by
  unfold z_X5_pinsFor
  refine tz_bd (tz_ob hT k_h0) (fun _ _ => ?_)
  have L_4 : ∀ (n_4 : Nat) (k_4 : Nat → Int32 → Int32 → Int32 → Option (Int32)), (∀ (x2_4 : Int32) (x3_4 : Int32), tq_iv 0 8 x3_4 → (2147483647 - x3_4.toInt).toNat < n_4 → tz_O (fun (z : Int32) => tq_iv (-2147483648) 2147483647 z) (k_4 h0 x1 x2_4 x3_4)) → ∀ (x2_4 : Int32) (x3_4 : Int32), tq_iv 0 8 x3_4 → (2147483647 - x3_4.toInt).toNat < n_4 + 1 → tz_O (fun (z : Int32) => tq_iv (-2147483648) 2147483647 z) (z_X5_pinsFor_4 σ k_4 h0 x1 x2_4 x3_4) := by
    intro n_4 k_4 hk_4 x2_4 x3_4 i_x3_4 hn_4
    unfold z_X5_pinsFor_4
    refine tz_be (tg_5_0 hT k_h0) (fun t_6 e1629 k_t_6 => ?_)
    refine tz_be (tg_3_3 hT k_t_6) (fun t_9 e1628 i_t_9 => ?_)
    refine tz_if _ (fun c1627 => ?_) (fun c1627 => ?_)
    ·
      exact tz_some (tq_top x2_4)
    ·
      have i1_x3_4 : tq_iv 0 7 x3_4 := tq_cut i_x3_4 (tq_ltL (tq_nle c1627) i_x3_4 i_t_9) (by decide) (by decide)
      have i2_t_9 : tq_iv 1 8 t_9 := tq_cut i_t_9 (tq_ltR (tq_nle c1627) i_x3_4 i_t_9) (by decide) (by decide)
      refine tz_let (fun t_17 e1626 => ?_)
      refine tz_let (fun t_19 e1625 => ?_)
      have i3_t_19 : tq_iv 0 1 t_19 := tq_and2 e1625 tk_1 (by decide)
      have K_34 : ∀ (x2_34 : Int32), tz_O (fun (z : Int32) => tq_iv (-2147483648) 2147483647 z) (z_X5_pinsFor_34 σ k_4 h0 x1 x2_34 x3_4) := by
        intro x2_34
        unfold z_X5_pinsFor_34
        refine tz_let (fun t_34 e1617 => ?_)
        have i4_t_34 : tq_iv 1 8 t_34 := tq_w (tq_add e1617 i1_x3_4 tk_1 (by decide) (by decide)) (by decide) (by decide)
        exact hk_4 x2_34 t_34 (tq_w i4_t_34 (by decide) (by decide)) (tq_up e1617 i1_x3_4 tk_1 (by decide) (by decide) hn_4)
      refine tz_if _ (fun c1624 => ?_) (fun c1624 => ?_)
      ·
        have i5_t_19 : tq_iv 0 0 t_19 := tq_cut i3_t_19 (tq_eqL c1624 tk_0) (by decide) (by decide)
        exact K_34 x2_4
      ·
        have i6_t_19 : tq_iv 1 1 t_19 := tq_w (tq_neLo c1624 i3_t_19 tk_0) (by decide) (by decide)
        refine tz_be (tg_5_1 hT k_h0) (fun t_25 e1623 k_t_25 => ?_)
        refine tz_bd (tz_X7_bits hT k_t_25) (fun t_29 i_t_29 => ?_)
        refine tz_let (fun t_32 e1621 => ?_)
        exact K_34 t_32
  have E_4 : ∀ (x2_4 : Int32) (x3_4 : Int32), tq_iv 0 8 x3_4 → tz_O (fun (z : Int32) => tq_iv (-2147483648) 2147483647 z) (ez_fix (fun _ _ _ _ => none) (z_X5_pinsFor_4 σ) ez_N h0 x1 x2_4 x3_4) := by
    intro x2_4 x3_4 i_x3_4
    exact ez_fix_indn (fun n_4 (k_4 : Nat → Int32 → Int32 → Int32 → Option (Int32)) => ∀ (x2_4 : Int32) (x3_4 : Int32), tq_iv 0 8 x3_4 → (2147483647 - x3_4.toInt).toNat < n_4 → tz_O (fun (z : Int32) => tq_iv (-2147483648) 2147483647 z) (k_4 h0 x1 x2_4 x3_4)) (by intros; rename_i h; exact absurd h (Nat.not_lt_zero _)) L_4 ez_N x2_4 x3_4 i_x3_4 (tq_m0 x3_4)
  exact E_4 (0 : Int32) (0 : Int32) (tq_w tk_0 (by decide) (by decide))
set_option maxRecDepth 4000 in
theorem tz_X5_lawfulPins {p : tz_P} {σ : ez_H} {h0 : Nat} {x1 : Int32} (hT : tp p σ) (k_h0 : tz_C h0 = some (3, 5, 0, 0)) (i_x1 : tq_iv 0 2147483646 x1) : tz_O (fun z => tq_iv (-2147483648) 2147483647 z) (z_X5_lawfulPins σ h0 x1) := by
  unfold z_X5_lawfulPins
  refine tz_bd (tz_ob hT k_h0) (fun _ _ => ?_)
  refine tz_be (tg_5_0 hT k_h0) (fun t_1 e1640 k_t_1 => ?_)
  refine tz_bd (tz_X3_mustOf hT k_t_1 i_x1) (fun t_5 i_t_5 => ?_)
  have K_29 : ∀ (y0_29 : Int32), tz_O (fun (z : Int32) => tq_iv (-2147483648) 2147483647 z) (z_X5_lawfulPins_29 σ y0_29) := by
    intro y0_29
    unfold z_X5_lawfulPins_29
    exact tz_some (tq_top y0_29)
  refine tz_if _ (fun c1638 => ?_) (fun c1638 => ?_)
  ·
    have i1_t_5 : tq_iv 0 0 t_5 := tq_cut (tq_top t_5) (tq_eqL c1638 tk_0) (by decide) (by decide)
    refine tz_be (tg_5_1 hT k_h0) (fun t_14 e1635 k_t_14 => ?_)
    refine tz_bd (tz_X7_pins hT k_t_14) (fun t_18 i_t_18 => ?_)
    exact K_29 t_18
  ·
    refine tz_bd (tz_X5_pinsFor hT k_h0) (fun t_26 i_t_26 => ?_)
    exact K_29 t_26
set_option maxRecDepth 4000 in
theorem tz_X5_isStray {p : tz_P} {σ : ez_H} {h0 : Nat} {x1 : Int32} {x2 : Int32} (hT : tp p σ) (k_h0 : tz_C h0 = some (3, 5, 0, 0)) (i_x1 : tq_iv 0 7 x1) (i_x2 : tq_iv 0 2147483646 x2) : tz_O (fun z => tq_iv 0 1 z) (z_X5_isStray σ h0 x1 x2) := by
  unfold z_X5_isStray
  refine tz_bd (tz_ob hT k_h0) (fun _ _ => ?_)
  refine tz_be (tg_5_0 hT k_h0) (fun t_1 e1657 k_t_1 => ?_)
  refine tz_bd (tz_X3_neverOf hT k_t_1 i_x2) (fun t_5 i_t_5 => ?_)
  refine tz_let (fun t_9 e1655 => ?_)
  refine tz_let (fun t_11 e1654 => ?_)
  have i1_t_11 : tq_iv 0 1 t_11 := tq_and2 e1654 tk_1 (by decide)
  have K_39 : ∀ (y0_39 : Int32), tq_iv 0 1 y0_39 → (¬ y0_39 = 0 → tq_iv 1 1 t_11) → tz_O (fun (z : Int32) => tq_iv 0 1 z) (z_X5_isStray_39 σ y0_39) := by
    intro y0_39 i_y0_39 g39_y0_39_t_11
    unfold z_X5_isStray_39
    refine tz_nr (tq_nr_boolean i_y0_39) ?_
    exact tz_some i_y0_39
  have K_38 : tz_O (fun (z : Int32) => tq_iv 0 1 z) (z_X5_isStray_38 σ) := by
    unfold z_X5_isStray_38
    exact K_39 (0 : Int32) (tq_w tk_0 (by decide) (by decide)) (fun h => absurd rfl h)
  refine tz_if _ (fun c1653 => ?_) (fun c1653 => ?_)
  ·
    have i2_t_11 : tq_iv 0 0 t_11 := tq_cut i1_t_11 (tq_eqL c1653 tk_0) (by decide) (by decide)
    exact K_38 
  ·
    have i3_t_11 : tq_iv 1 1 t_11 := tq_w (tq_neLo c1653 i1_t_11 tk_0) (by decide) (by decide)
    refine tz_be (tg_5_1 hT k_h0) (fun t_16 e1652 k_t_16 => ?_)
    refine tz_bd (tz_X7_bits hT k_t_16) (fun t_20 i_t_20 => ?_)
    refine tz_bd (tz_X5_lawfulPins hT k_h0 i_x2) (fun t_25 i_t_25 => ?_)
    refine tz_bd (tz_X6_fitsIn hT) (fun t_28 i_t_28 => ?_)
    refine tz_if _ (fun c1648 => ?_) (fun c1648 => ?_)
    ·
      have i4_t_28 : tq_iv 0 0 t_28 := tq_cut i_t_28 (tq_eqL c1648 tk_0) (by decide) (by decide)
      exact K_38 
    ·
      have i5_t_28 : tq_iv 1 1 t_28 := tq_w (tq_neLo c1648 i_t_28 tk_0) (by decide) (by decide)
      exact K_39 (1 : Int32) (tq_w tk_1 (by decide) (by decide)) (fun _ => i3_t_11)
set_option maxRecDepth 4000 in
theorem tz_X5_isBroken {p : tz_P} {σ : ez_H} {h0 : Nat} {x1 : Int32} {x2 : Int32} (hT : tp p σ) (k_h0 : tz_C h0 = some (3, 5, 0, 0)) (i_x1 : tq_iv 0 7 x1) (i_x2 : tq_iv 0 2147483646 x2) : tz_O (fun z => tq_iv 0 1 z) (z_X5_isBroken σ h0 x1 x2) := by
  unfold z_X5_isBroken
  refine tz_bd (tz_ob hT k_h0) (fun _ _ => ?_)
  refine tz_be (tg_5_1 hT k_h0) (fun t_1 e1677 k_t_1 => ?_)
  refine tz_bd (tz_X7_bits hT k_t_1) (fun t_5 i_t_5 => ?_)
  refine tz_bk e1677 ?_
  refine tz_bd (tz_X7_pins hT k_t_1) (fun t_13 i_t_13 => ?_)
  refine tz_bd (tz_X6_fitsIn hT) (fun t_16 i_t_16 => ?_)
  have K_43 : ∀ (y0_43 : Int32), tz_O (fun (z : Int32) => tq_iv 0 1 z) (z_X5_isBroken_43 σ x1 y0_43) := by
    intro y0_43
    unfold z_X5_isBroken_43
    refine tz_let (fun t_48 e1665 => ?_)
    refine tz_let (fun t_50 e1664 => ?_)
    have i1_t_50 : tq_iv 0 1 t_50 := tq_and2 e1664 tk_1 (by decide)
    have K_59 : ∀ (y0_59 : Int32), tq_iv 0 1 y0_59 → (¬ y0_59 = 0 → tq_iv 1 1 t_50) → tz_O (fun (z : Int32) => tq_iv 0 1 z) (z_X5_isBroken_59 σ y0_59) := by
      intro y0_59 i_y0_59 g59_y0_59_t_50
      unfold z_X5_isBroken_59
      refine tz_nr (tq_nr_boolean i_y0_59) ?_
      exact tz_some i_y0_59
    refine tz_if _ (fun c1663 => ?_) (fun c1663 => ?_)
    ·
      have i2_t_50 : tq_iv 0 0 t_50 := tq_cut i1_t_50 (tq_eqL c1663 tk_0) (by decide) (by decide)
      exact K_59 (0 : Int32) (tq_w tk_0 (by decide) (by decide)) (fun h => absurd rfl h)
    ·
      have i3_t_50 : tq_iv 1 1 t_50 := tq_w (tq_neLo c1663 i1_t_50 tk_0) (by decide) (by decide)
      exact K_59 (1 : Int32) (tq_w tk_1 (by decide) (by decide)) (fun _ => i3_t_50)
  refine tz_if _ (fun c1672 => ?_) (fun c1672 => ?_)
  ·
    have i4_t_16 : tq_iv 0 0 t_16 := tq_cut i_t_16 (tq_eqL c1672 tk_0) (by decide) (by decide)
    refine tz_be (tg_5_0 hT k_h0) (fun t_36 e1668 k_t_36 => ?_)
    refine tz_bd (tz_X3_mustOf hT k_t_36 i_x2) (fun t_40 i_t_40 => ?_)
    exact K_43 t_40
  ·
    have i5_t_16 : tq_iv 1 1 t_16 := tq_w (tq_neLo c1672 i_t_16 tk_0) (by decide) (by decide)
    refine tz_be (tg_5_0 hT k_h0) (fun t_25 e1671 k_t_25 => ?_)
    refine tz_bd (tz_X3_neverOf hT k_t_25 i_x2) (fun t_29 i_t_29 => ?_)
    exact K_43 t_29
set_option maxRecDepth 4000 in
theorem tz_X5_tellPairs {p : tz_P} {σ : ez_H} {h0 : Nat} {x1 : Int32} {x2 : Int32} (hT : tp p σ) (k_h0 : tz_C h0 = some (3, 5, 0, 0)) (i_x2 : tq_iv 0 1 x2) : tz_O (fun z => tq_iv (-2147483648) 2147483647 z) (z_X5_tellPairs σ h0 x1 x2) := by
  unfold z_X5_tellPairs
  refine tz_bd (tz_ob hT k_h0) (fun _ _ => ?_)
  have L_11 : ∀ (n_11 : Nat) (k_11 : Nat → Int32 → Int32 → Int32 → Int32 → Int32 → Int32 → Option (Int32)), (∀ (x3_11 : Int32) (x4_11 : Int32) (x5_11 : Int32) (x6_11 : Int32), tq_iv (-1) 7 x4_11 → tq_iv (-1) 2147483646 x5_11 → tq_iv 0 8 x6_11 → (2147483647 - x6_11.toInt).toNat < n_11 → tz_O (fun (z : Int32) => tq_iv (-2147483648) 2147483647 z) (k_11 h0 x1 x2 x3_11 x4_11 x5_11 x6_11)) → ∀ (x3_11 : Int32) (x4_11 : Int32) (x5_11 : Int32) (x6_11 : Int32), tq_iv (-1) 7 x4_11 → tq_iv (-1) 2147483646 x5_11 → tq_iv 0 8 x6_11 → (2147483647 - x6_11.toInt).toNat < n_11 + 1 → tz_O (fun (z : Int32) => tq_iv (-2147483648) 2147483647 z) (z_X5_tellPairs_11 σ k_11 h0 x1 x2 x3_11 x4_11 x5_11 x6_11) := by
    intro n_11 k_11 hk_11 x3_11 x4_11 x5_11 x6_11 i_x4_11 i_x5_11 i_x6_11 hn_11
    unfold z_X5_tellPairs_11
    refine tz_be (tg_5_0 hT k_h0) (fun t_14 e1713 k_t_14 => ?_)
    refine tz_be (tg_3_3 hT k_t_14) (fun t_17 e1712 i_t_17 => ?_)
    refine tz_if _ (fun c1711 => ?_) (fun c1711 => ?_)
    ·
      refine tz_if _ (fun c1709 => ?_) (fun c1709 => ?_)
      ·
        have i1_x1 : tq_iv 0 0 x1 := tq_cut (tq_top x1) (tq_eqL c1709 tk_0) (by decide) (by decide)
        exact tz_some (tq_top x3_11)
      ·
        refine tz_if _ (fun c1708 => ?_) (fun c1708 => ?_)
        ·
          have i2_x1 : tq_iv 1 1 x1 := tq_cut (tq_top x1) (tq_eqL c1708 tk_1) (by decide) (by decide)
          exact tz_some (tq_top x4_11)
        ·
          refine tz_if _ (fun c1707 => ?_) (fun c1707 => ?_)
          ·
            have i3_x1 : tq_iv 2 2 x1 := tq_cut (tq_top x1) (tq_eqL c1707 tk_2) (by decide) (by decide)
            exact tz_some (tq_top x5_11)
          ·
            exact tz_some (tq_top (-1 : Int32))
    ·
      have i4_x6_11 : tq_iv 0 7 x6_11 := tq_cut i_x6_11 (tq_ltL (tq_nle c1711) i_x6_11 i_t_17) (by decide) (by decide)
      have i5_t_17 : tq_iv 1 8 t_17 := tq_cut i_t_17 (tq_ltR (tq_nle c1711) i_x6_11 i_t_17) (by decide) (by decide)
      have L_26 : ∀ (n_26 : Nat) (k_26 : Nat → Int32 → Int32 → Int32 → Int32 → Int32 → Int32 → Int32 → Option (Int32)), (∀ (x3_26 : Int32) (x4_26 : Int32) (x5_26 : Int32) (x7_26 : Int32), tq_iv (-1) 7 x4_26 → tq_iv (-1) 2147483646 x5_26 → tq_iv 0 2147483647 x7_26 → (2147483647 - x7_26.toInt).toNat < n_26 → tz_O (fun (z : Int32) => tq_iv (-2147483648) 2147483647 z) (k_26 h0 x1 x2 x3_26 x4_26 x5_26 x6_11 x7_26)) → ∀ (x3_26 : Int32) (x4_26 : Int32) (x5_26 : Int32) (x7_26 : Int32), tq_iv (-1) 7 x4_26 → tq_iv (-1) 2147483646 x5_26 → tq_iv 0 2147483647 x7_26 → (2147483647 - x7_26.toInt).toNat < n_26 + 1 → tz_O (fun (z : Int32) => tq_iv (-2147483648) 2147483647 z) (z_X5_tellPairs_26 σ k_11 k_26 h0 x1 x2 x3_26 x4_26 x5_26 x6_11 x7_26) := by
        intro n_26 k_26 hk_26 x3_26 x4_26 x5_26 x7_26 i_x4_26 i_x5_26 i_x7_26 hn_26
        unfold z_X5_tellPairs_26
        refine tz_bk e1713 ?_
        refine tz_be (tg_3_4 hT k_t_14) (fun t_32 e1701 i_t_32 => ?_)
        refine tz_if _ (fun c1700 => ?_) (fun c1700 => ?_)
        ·
          refine tz_let (fun t_102 e1690 => ?_)
          have i6_t_102 : tq_iv 1 8 t_102 := tq_w (tq_add e1690 i4_x6_11 tk_1 (by decide) (by decide)) (by decide) (by decide)
          exact hk_11 x3_26 x4_26 x5_26 t_102 i_x4_26 i_x5_26 (tq_w i6_t_102 (by decide) (by decide)) (tq_up e1690 i4_x6_11 tk_1 (by decide) (by decide) hn_11)
        ·
          have i7_x7_26 : tq_iv 0 2147483646 x7_26 := tq_cut i_x7_26 (tq_ltL (tq_nle c1700) i_x7_26 (tq_top t_32)) (by decide) (by decide)
          have i8_t_32 : tq_iv 1 2147483647 t_32 := tq_cut (tq_top t_32) (tq_ltR (tq_nle c1700) i_x7_26 (tq_top t_32)) (by decide) (by decide)
          have K_96 : ∀ (x3_96 : Int32) (x4_96 : Int32) (x5_96 : Int32), tq_iv (-1) 7 x4_96 → tq_iv (-1) 2147483646 x5_96 → tz_O (fun (z : Int32) => tq_iv (-2147483648) 2147483647 z) (z_X5_tellPairs_96 σ k_11 k_26 h0 x1 x2 x3_96 x4_96 x5_96 x6_11 x7_26) := by
            intro x3_96 x4_96 x5_96 i_x4_96 i_x5_96
            unfold z_X5_tellPairs_96
            refine tz_let (fun t_96 e1680 => ?_)
            have i9_t_96 : tq_iv 1 2147483647 t_96 := tq_w (tq_add e1680 i7_x7_26 tk_1 (by decide) (by decide)) (by decide) (by decide)
            exact hk_26 x3_96 x4_96 x5_96 t_96 i_x4_96 i_x5_96 (tq_w i9_t_96 (by decide) (by decide)) (tq_up e1680 i7_x7_26 tk_1 (by decide) (by decide) hn_26)
          have K_67 : tz_O (fun (z : Int32) => tq_iv (-2147483648) 2147483647 z) (z_X5_tellPairs_67 σ k_11 k_26 h0 x1 x2 x3_26 x4_26 x5_26 x6_11 x7_26) := by
            unfold z_X5_tellPairs_67
            have K_78 : ∀ (y0_78 : Int32), tq_iv (-1) 7 y0_78 → tz_O (fun (z : Int32) => tq_iv (-2147483648) 2147483647 z) (z_X5_tellPairs_78 σ k_11 k_26 h0 x1 x2 x3_26 x5_26 x6_11 x7_26 y0_78) := by
              intro y0_78 i_y0_78
              unfold z_X5_tellPairs_78
              have K_91 : ∀ (y0_91 : Int32), tq_iv (-1) 2147483646 y0_91 → tz_O (fun (z : Int32) => tq_iv (-2147483648) 2147483647 z) (z_X5_tellPairs_91 σ k_11 k_26 h0 x1 x2 x3_26 y0_78 x6_11 x7_26 y0_91) := by
                intro y0_91 i_y0_91
                unfold z_X5_tellPairs_91
                refine tz_let (fun t_93 e1682 => ?_)
                exact K_96 t_93 y0_78 y0_91 i_y0_78 i_y0_91
              refine tz_if _ (fun c1685 => ?_) (fun c1685 => ?_)
              ·
                have i10_x3_26 : tq_iv 0 0 x3_26 := tq_cut (tq_top x3_26) (tq_eqL c1685 tk_0) (by decide) (by decide)
                exact K_91 x7_26 (tq_w i7_x7_26 (by decide) (by decide))
              ·
                exact K_91 x5_26 i_x5_26
            refine tz_if _ (fun c1688 => ?_) (fun c1688 => ?_)
            ·
              have i11_x3_26 : tq_iv 0 0 x3_26 := tq_cut (tq_top x3_26) (tq_eqL c1688 tk_0) (by decide) (by decide)
              exact K_78 x6_11 (tq_w i4_x6_11 (by decide) (by decide))
            ·
              exact K_78 x4_26 i_x4_26
          refine tz_if _ (fun c1699 => ?_) (fun c1699 => ?_)
          ·
            have i12_x2 : tq_iv 0 0 x2 := tq_cut i_x2 (tq_eqL c1699 tk_0) (by decide) (by decide)
            refine tz_bd (tz_X5_isBroken hT k_h0 i4_x6_11 i7_x7_26) (fun t_61 i_t_61 => ?_)
            refine tz_if _ (fun c1693 => ?_) (fun c1693 => ?_)
            ·
              have i13_t_61 : tq_iv 0 0 t_61 := tq_cut i_t_61 (tq_eqL c1693 tk_0) (by decide) (by decide)
              exact K_96 x3_26 x4_26 x5_26 i_x4_26 i_x5_26
            ·
              have i14_t_61 : tq_iv 1 1 t_61 := tq_w (tq_neLo c1693 i_t_61 tk_0) (by decide) (by decide)
              exact K_67 
          ·
            have i15_x2 : tq_iv 1 1 x2 := tq_w (tq_neLo c1699 i_x2 tk_0) (by decide) (by decide)
            refine tz_bd (tz_X5_isStray hT k_h0 i4_x6_11 i7_x7_26) (fun t_47 i_t_47 => ?_)
            refine tz_if _ (fun c1697 => ?_) (fun c1697 => ?_)
            ·
              have i16_t_47 : tq_iv 0 0 t_47 := tq_cut i_t_47 (tq_eqL c1697 tk_0) (by decide) (by decide)
              exact K_96 x3_26 x4_26 x5_26 i_x4_26 i_x5_26
            ·
              have i17_t_47 : tq_iv 1 1 t_47 := tq_w (tq_neLo c1697 i_t_47 tk_0) (by decide) (by decide)
              exact K_67 
      have E_26 : ∀ (x3_26 : Int32) (x4_26 : Int32) (x5_26 : Int32) (x7_26 : Int32), tq_iv (-1) 7 x4_26 → tq_iv (-1) 2147483646 x5_26 → tq_iv 0 2147483647 x7_26 → tz_O (fun (z : Int32) => tq_iv (-2147483648) 2147483647 z) (ez_fix (fun _ _ _ _ _ _ _ _ => none) (z_X5_tellPairs_26 σ k_11) ez_N h0 x1 x2 x3_26 x4_26 x5_26 x6_11 x7_26) := by
        intro x3_26 x4_26 x5_26 x7_26 i_x4_26 i_x5_26 i_x7_26
        exact ez_fix_indn (fun n_26 (k_26 : Nat → Int32 → Int32 → Int32 → Int32 → Int32 → Int32 → Int32 → Option (Int32)) => ∀ (x3_26 : Int32) (x4_26 : Int32) (x5_26 : Int32) (x7_26 : Int32), tq_iv (-1) 7 x4_26 → tq_iv (-1) 2147483646 x5_26 → tq_iv 0 2147483647 x7_26 → (2147483647 - x7_26.toInt).toNat < n_26 → tz_O (fun (z : Int32) => tq_iv (-2147483648) 2147483647 z) (k_26 h0 x1 x2 x3_26 x4_26 x5_26 x6_11 x7_26)) (by intros; rename_i h; exact absurd h (Nat.not_lt_zero _)) L_26 ez_N x3_26 x4_26 x5_26 x7_26 i_x4_26 i_x5_26 i_x7_26 (tq_m0 x7_26)
      exact E_26 x3_11 x4_11 x5_11 (0 : Int32) i_x4_11 i_x5_11 (tq_w tk_0 (by decide) (by decide))
  have E_11 : ∀ (x3_11 : Int32) (x4_11 : Int32) (x5_11 : Int32) (x6_11 : Int32), tq_iv (-1) 7 x4_11 → tq_iv (-1) 2147483646 x5_11 → tq_iv 0 8 x6_11 → tz_O (fun (z : Int32) => tq_iv (-2147483648) 2147483647 z) (ez_fix (fun _ _ _ _ _ _ _ => none) (z_X5_tellPairs_11 σ) ez_N h0 x1 x2 x3_11 x4_11 x5_11 x6_11) := by
    intro x3_11 x4_11 x5_11 x6_11 i_x4_11 i_x5_11 i_x6_11
    exact ez_fix_indn (fun n_11 (k_11 : Nat → Int32 → Int32 → Int32 → Int32 → Int32 → Int32 → Option (Int32)) => ∀ (x3_11 : Int32) (x4_11 : Int32) (x5_11 : Int32) (x6_11 : Int32), tq_iv (-1) 7 x4_11 → tq_iv (-1) 2147483646 x5_11 → tq_iv 0 8 x6_11 → (2147483647 - x6_11.toInt).toNat < n_11 → tz_O (fun (z : Int32) => tq_iv (-2147483648) 2147483647 z) (k_11 h0 x1 x2 x3_11 x4_11 x5_11 x6_11)) (by intros; rename_i h; exact absurd h (Nat.not_lt_zero _)) L_11 ez_N x3_11 x4_11 x5_11 x6_11 i_x4_11 i_x5_11 i_x6_11 (tq_m0 x6_11)
  exact E_11 (0 : Int32) (-1 : Int32) (-1 : Int32) (0 : Int32) (tq_w tk_m1 (by decide) (by decide)) (tq_w tk_m1 (by decide) (by decide)) (tq_w tk_0 (by decide) (by decide))
set_option maxRecDepth 4000 in
theorem tz_X11_broken {p : tz_P} {σ : ez_H} {h0 : Nat} {x1 : Int32} (hT : tp p σ) (k_h0 : tz_C h0 = some (3, 11, 0, 0)) : tz_O (fun z => tq_iv (-2147483648) 2147483647 z) (z_X11_broken σ h0 x1) := by
  unfold z_X11_broken
  refine tz_bd (tz_ob hT k_h0) (fun _ _ => ?_)
  refine tz_be (tg_11_13 hT k_h0) (fun t_1 e1718 k_t_1 => ?_)
  refine tz_bd (tz_X5_tellPairs hT k_t_1 (tq_w tk_0 (by decide) (by decide))) (fun t_6 i_t_6 => ?_)
  exact tz_some (tq_top t_6)
set_option maxRecDepth 4000 in
theorem tz_X3_hasRoom {p : tz_P} {σ : ez_H} {h0 : Nat} {x1 : Int32} (hT : tp p σ) (k_h0 : tz_C h0 = some (3, 3, 0, 0)) : tz_O (fun z => tq_iv 0 1 z ∧ (¬ z = 0 → tq_iv 0 2147483646 x1)) (z_X3_hasRoom σ h0 x1) := by
  unfold z_X3_hasRoom
  refine tz_bd (tz_ob hT k_h0) (fun _ _ => ?_)
  have K_17 : ∀ (y0_17 : Int32), tq_iv 0 1 y0_17 → (¬ y0_17 = 0 → tq_iv 0 2147483646 x1) → tz_O (fun (z : Int32) => tq_iv 0 1 z ∧ (¬ z = 0 → tq_iv 0 2147483646 x1)) (z_X3_hasRoom_17 σ y0_17) := by
    intro y0_17 i_y0_17 g17_y0_17_x1
    unfold z_X3_hasRoom_17
    refine tz_nr (tq_nr_boolean i_y0_17) ?_
    exact tz_some ⟨i_y0_17, (fun h => tq_w (g17_y0_17_x1 h) (by decide) (by decide))⟩
  have K_16 : tz_O (fun (z : Int32) => tq_iv 0 1 z ∧ (¬ z = 0 → tq_iv 0 2147483646 x1)) (z_X3_hasRoom_16 σ) := by
    unfold z_X3_hasRoom_16
    exact K_17 (0 : Int32) (tq_w tk_0 (by decide) (by decide)) (fun h => absurd rfl h)
  refine tz_if _ (fun c1728 => ?_) (fun c1728 => ?_)
  ·
    have i1_x1 : tq_iv (-2147483648) (-1) x1 := tq_cut (tq_top x1) (tq_ltL c1728 (tq_top x1) tk_0) (by decide) (by decide)
    exact K_16 
  ·
    have i2_x1 : tq_iv 0 2147483647 x1 := tq_cut (tq_top x1) (tq_leR (tq_nlt c1728) tk_0 (tq_top x1)) (by decide) (by decide)
    refine tz_be (tg_3_5 hT k_h0) (fun t_6 e1727 i_t_6 => ?_)
    refine tz_if _ (fun c1726 => ?_) (fun c1726 => ?_)
    ·
      exact K_16 
    ·
      have i3_x1 : tq_iv 0 2147483646 x1 := tq_cut i2_x1 (tq_ltL (tq_nle c1726) i2_x1 (tq_top t_6)) (by decide) (by decide)
      have i4_t_6 : tq_iv 1 2147483647 t_6 := tq_cut (tq_top t_6) (tq_ltR (tq_nle c1726) i2_x1 (tq_top t_6)) (by decide) (by decide)
      exact K_17 (1 : Int32) (tq_w tk_1 (by decide) (by decide)) (fun _ => i3_x1)
set_option maxRecDepth 4000 in
theorem tz_X3_allKeys {p : tz_P} {σ : ez_H} {h0 : Nat} (hT : tp p σ) (k_h0 : tz_C h0 = some (3, 3, 0, 0)) : tz_O (fun z => tq_iv 0 255 z) (z_X3_allKeys σ h0) := by
  unfold z_X3_allKeys
  refine tz_bd (tz_ob hT k_h0) (fun _ _ => ?_)
  refine tz_be (tg_3_3 hT k_h0) (fun t_2 e1733 i_t_2 => ?_)
  refine tz_let (fun t_5 e1732 => ?_)
  have i1_t_5 : tq_iv 1 256 t_5 := tq_shl1 e1732 i_t_2 (by decide) (by decide) (by decide) (by decide)
  refine tz_let (fun t_7 e1731 => ?_)
  have i2_t_7 : tq_iv 0 255 t_7 := tq_w (tq_sub e1731 i1_t_5 tk_1 (by decide) (by decide)) (by decide) (by decide)
  exact tz_some i2_t_7
set_option maxRecDepth 4000 in
theorem tz_X2_fewestKeys {p : tz_P} {σ : ez_H} {h0 : Nat} {x1 : Int32} {x2 : Int32} (hT : tp p σ) (k_h0 : tz_C h0 = some (3, 2, 0, 0)) (i_x1 : tq_iv 0 2147483646 x1) (i_x2 : tq_iv 0 2147483646 x2) : tz_O (fun z => tq_iv (-1) 269 z) (z_X2_fewestKeys σ h0 x1 x2) := by
  unfold z_X2_fewestKeys
  refine tz_bd (tz_ob hT k_h0) (fun _ _ => ?_)
  refine tz_be (tg_2_0 hT k_h0) (fun t_1 e1768 k_t_1 => ?_)
  refine tz_bd (tz_X3_allKeys hT k_t_1) (fun t_4 i_t_4 => ?_)
  refine tz_be (tg_2_1 hT k_h0) (fun t_8 e1766 k_t_8 => ?_)
  refine tz_bk e1768 ?_
  refine tz_be (tg_3_3 hT k_t_1) (fun t_17 e1764 i_t_17 => ?_)
  refine tz_bd (tz_X7_heldBy hT k_t_8 (tq_w tk_m2 (by decide) (by decide)) i_t_17) (fun t_20 i_t_20 => ?_)
  refine tz_let (fun t_24 e1762 => ?_)
  refine tz_let (fun t_25 e1761 => ?_)
  have i1_t_25 : tq_iv 0 255 t_25 := tq_and1 e1761 i_t_4 (by decide)
  have L_33 : ∀ (n_33 : Nat) (k_33 : Nat → Int32 → Int32 → Int32 → Int32 → Int32 → Option (Int32)), (∀ (x4_33 : Int32) (x5_33 : Int32), tq_iv (-1) 269 x4_33 → tq_iv 0 256 x5_33 → (2147483647 - x5_33.toInt).toNat < n_33 → tz_O (fun (z : Int32) => tq_iv (-1) 269 z) (k_33 h0 x1 x2 t_25 x4_33 x5_33)) → ∀ (x4_33 : Int32) (x5_33 : Int32), tq_iv (-1) 269 x4_33 → tq_iv 0 256 x5_33 → (2147483647 - x5_33.toInt).toNat < n_33 + 1 → tz_O (fun (z : Int32) => tq_iv (-1) 269 z) (z_X2_fewestKeys_33 σ k_33 h0 x1 x2 t_25 x4_33 x5_33) := by
    intro n_33 k_33 hk_33 x4_33 x5_33 i_x4_33 i_x5_33 hn_33
    unfold z_X2_fewestKeys_33
    refine tz_if _ (fun c1759 => ?_) (fun c1759 => ?_)
    ·
      have i2_x5_33 : tq_iv 1 256 x5_33 := tq_cut i_x5_33 (tq_ltR c1759 i1_t_25 i_x5_33) (by decide) (by decide)
      exact tz_some i_x4_33
    ·
      have i3_x5_33 : tq_iv 0 255 x5_33 := tq_cut i_x5_33 (tq_leL (tq_nlt c1759) i_x5_33 i1_t_25) (by decide) (by decide)
      have K_63 : ∀ (y0_63 : Int32), tq_iv 0 1 y0_63 → tz_O (fun (z : Int32) => tq_iv (-1) 269 z) (z_X2_fewestKeys_63 σ k_33 h0 x1 x2 t_25 x4_33 x5_33 y0_63) := by
        intro y0_63 i_y0_63
        unfold z_X2_fewestKeys_63
        have K_101 : ∀ (x4_101 : Int32), tq_iv (-1) 269 x4_101 → tz_O (fun (z : Int32) => tq_iv (-1) 269 z) (z_X2_fewestKeys_101 σ k_33 h0 x1 x2 t_25 x4_101 x5_33) := by
          intro x4_101 i_x4_101
          unfold z_X2_fewestKeys_101
          refine tz_let (fun t_101 e1736 => ?_)
          have i4_t_101 : tq_iv 1 256 t_101 := tq_w (tq_add e1736 i3_x5_33 tk_1 (by decide) (by decide)) (by decide) (by decide)
          exact hk_33 x4_101 t_101 i_x4_101 (tq_w i4_t_101 (by decide) (by decide)) (tq_up e1736 i3_x5_33 tk_1 (by decide) (by decide) hn_33)
        refine tz_if _ (fun c1749 => ?_) (fun c1749 => ?_)
        ·
          have i5_y0_63 : tq_iv 0 0 y0_63 := tq_cut i_y0_63 (tq_eqL c1749 tk_0) (by decide) (by decide)
          exact K_101 x4_33 i_x4_33
        ·
          have i6_y0_63 : tq_iv 1 1 y0_63 := tq_w (tq_neLo c1749 i_y0_63 tk_0) (by decide) (by decide)
          refine tz_let (fun t_74 e1748 => ?_)
          refine tz_let (fun t_75 e1747 => ?_)
          have i7_t_75 : tq_iv 0 255 t_75 := tq_and1 e1747 i3_x5_33 (by decide)
          refine tz_if _ (fun c1746 => ?_) (fun c1746 => ?_)
          ·
            have i8_t_75 : tq_iv 0 0 t_75 := tq_cut i7_t_75 (tq_eqL c1746 tk_0) (by decide) (by decide)
            refine tz_bd (tz_X2_locksFor hT k_h0) (fun t_84 i_t_84 => ?_)
            refine tz_bd (tz_X2_flood hT k_h0) (fun t_87 i_t_87 => ?_)
            refine tz_let (fun t_91 e1742 => ?_)
            refine tz_let (fun t_93 e1741 => ?_)
            have i9_t_93 : tq_iv 0 1 t_93 := tq_and2 e1741 tk_1 (by decide)
            refine tz_if _ (fun c1740 => ?_) (fun c1740 => ?_)
            ·
              have i10_t_93 : tq_iv 0 0 t_93 := tq_cut i9_t_93 (tq_eqL c1740 tk_0) (by decide) (by decide)
              exact K_101 x4_33 i_x4_33
            ·
              have i11_t_93 : tq_iv 1 1 t_93 := tq_w (tq_neLo c1740 i9_t_93 tk_0) (by decide) (by decide)
              exact K_101 x5_33 (tq_w i3_x5_33 (by decide) (by decide))
          ·
            have i12_t_75 : tq_iv 1 255 t_75 := tq_w (tq_neLo c1746 i7_t_75 tk_0) (by decide) (by decide)
            exact K_101 x4_33 i_x4_33
      have K_58 : tz_O (fun (z : Int32) => tq_iv (-1) 269 z) (z_X2_fewestKeys_58 σ k_33 h0 x1 x2 t_25 x4_33 x5_33) := by
        unfold z_X2_fewestKeys_58
        exact K_63 (1 : Int32) (tq_w tk_1 (by decide) (by decide))
      refine tz_if _ (fun c1758 => ?_) (fun c1758 => ?_)
      ·
        have i13_x4_33 : tq_iv (-1) (-1) x4_33 := tq_cut i_x4_33 (tq_eqL c1758 tk_m1) (by decide) (by decide)
        exact K_58 
      ·
        have i14_x4_33 : tq_iv 0 269 x4_33 := tq_w (tq_neLo c1758 i_x4_33 tk_m1) (by decide) (by decide)
        refine tz_bd (tz_J6_bitCount_0f7a4 hT) (fun t_47 i_t_47 => ?_)
        refine tz_bd (tz_J6_bitCount_0f7a4 hT) (fun t_52 i_t_52 => ?_)
        refine tz_if _ (fun c1755 => ?_) (fun c1755 => ?_)
        ·
          exact K_63 (0 : Int32) (tq_w tk_0 (by decide) (by decide))
        ·
          have i15_t_47 : tq_iv 0 62 t_47 := tq_cut i_t_47 (tq_ltL (tq_nle c1755) i_t_47 i_t_52) (by decide) (by decide)
          have i16_t_52 : tq_iv 1 63 t_52 := tq_cut i_t_52 (tq_ltR (tq_nle c1755) i_t_47 i_t_52) (by decide) (by decide)
          exact K_58 
  have E_33 : ∀ (x4_33 : Int32) (x5_33 : Int32), tq_iv (-1) 269 x4_33 → tq_iv 0 256 x5_33 → tz_O (fun (z : Int32) => tq_iv (-1) 269 z) (ez_fix (fun _ _ _ _ _ _ => none) (z_X2_fewestKeys_33 σ) ez_N h0 x1 x2 t_25 x4_33 x5_33) := by
    intro x4_33 x5_33 i_x4_33 i_x5_33
    exact ez_fix_indn (fun n_33 (k_33 : Nat → Int32 → Int32 → Int32 → Int32 → Int32 → Option (Int32)) => ∀ (x4_33 : Int32) (x5_33 : Int32), tq_iv (-1) 269 x4_33 → tq_iv 0 256 x5_33 → (2147483647 - x5_33.toInt).toNat < n_33 → tz_O (fun (z : Int32) => tq_iv (-1) 269 z) (k_33 h0 x1 x2 t_25 x4_33 x5_33)) (by intros; rename_i h; exact absurd h (Nat.not_lt_zero _)) L_33 ez_N x4_33 x5_33 i_x4_33 i_x5_33 (tq_m0 x5_33)
  exact E_33 (-1 : Int32) (0 : Int32) (tq_w tk_m1 (by decide) (by decide)) (tq_w tk_0 (by decide) (by decide))
set_option maxRecDepth 4000 in
theorem tz_X11_bunch {p : tz_P} {σ : ez_H} {h0 : Nat} {x1 : Int32} {x2 : Int32} {x3 : Int32} (hT : tp p σ) (k_h0 : tz_C h0 = some (3, 11, 0, 0)) : tz_O (fun z => tq_iv (-1) 269 z) (z_X11_bunch σ h0 x1 x2 x3) := by
  unfold z_X11_bunch
  refine tz_bd (tz_ob hT k_h0) (fun _ _ => ?_)
  refine tz_be (tg_11_3 hT k_h0) (fun t_1 e1788 k_t_1 => ?_)
  refine tz_bd (tz_X3_hasRoom hT k_t_1) (fun t_5 ⟨i_t_5, g_t_5⟩ => ?_)
  have K_22 : tz_O (fun (z : Int32) => tq_iv (-1) 269 z) (z_X11_bunch_22 σ) := by
    unfold z_X11_bunch_22
    exact tz_some (tq_w tk_m1 (by decide) (by decide))
  refine tz_if _ (fun c1786 => ?_) (fun c1786 => ?_)
  ·
    have i1_t_5 : tq_iv 0 0 t_5 := tq_cut i_t_5 (tq_eqL c1786 tk_0) (by decide) (by decide)
    exact K_22 
  ·
    have i2_x1 : tq_iv 0 2147483646 x1 := tq_cut (tq_top x1) (g_t_5 c1786) (by decide) (by decide)
    have i3_t_5 : tq_iv 1 1 t_5 := tq_w (tq_neLo c1786 i_t_5 tk_0) (by decide) (by decide)
    refine tz_bk e1788 ?_
    refine tz_bd (tz_X3_hasRoom hT k_t_1) (fun t_16 ⟨i_t_16, g_t_16⟩ => ?_)
    refine tz_if _ (fun c1783 => ?_) (fun c1783 => ?_)
    ·
      have i4_t_16 : tq_iv 0 0 t_16 := tq_cut i_t_16 (tq_eqL c1783 tk_0) (by decide) (by decide)
      exact K_22 
    ·
      have i5_x2 : tq_iv 0 2147483646 x2 := tq_cut (tq_top x2) (g_t_16 c1783) (by decide) (by decide)
      have i6_t_16 : tq_iv 1 1 t_16 := tq_w (tq_neLo c1783 i_t_16 tk_0) (by decide) (by decide)
      refine tz_be (tg_11_12 hT k_h0) (fun t_25 e1782 k_t_25 => ?_)
      refine tz_bd (tz_X2_fewestKeys hT k_t_25 i2_x1 i5_x2) (fun t_30 i_t_30 => ?_)
      refine tz_if _ (fun c1780 => ?_) (fun c1780 => ?_)
      ·
        have i7_t_30 : tq_iv (-1) (-1) t_30 := tq_cut i_t_30 (tq_eqL c1780 tk_m1) (by decide) (by decide)
        exact tz_some (tq_w tk_m1 (by decide) (by decide))
      ·
        have i8_t_30 : tq_iv 0 269 t_30 := tq_w (tq_neLo c1780 i_t_30 tk_m1) (by decide) (by decide)
        refine tz_if _ (fun c1779 => ?_) (fun c1779 => ?_)
        ·
          have i9_x3 : tq_iv 0 0 x3 := tq_cut (tq_top x3) (tq_eqL c1779 tk_0) (by decide) (by decide)
          refine tz_bd (tz_J6_bitCount_0f7a4 hT) (fun t_74 i_t_74 => ?_)
          exact tz_some (tq_w i_t_74 (by decide) (by decide))
        ·
          refine tz_if _ (fun c1778 => ?_) (fun c1778 => ?_)
          ·
            have i10_x3 : tq_iv 1 1 x3 := tq_cut (tq_top x3) (tq_eqL c1778 tk_1) (by decide) (by decide)
            exact tz_some (tq_w i8_t_30 (by decide) (by decide))
          ·
            exact tz_some (tq_w tk_m1 (by decide) (by decide))
set_option maxRecDepth 4000 in
theorem tz_X11_comers {p : tz_P} {σ : ez_H} {h0 : Nat} {x1 : Int32} (hT : tp p σ) (k_h0 : tz_C h0 = some (3, 11, 0, 0)) : tz_O (fun z => tq_iv (-2147483648) 2147483647 z) (z_X11_comers σ h0 x1) := by
  unfold z_X11_comers
  refine tz_bd (tz_ob hT k_h0) (fun _ _ => ?_)
  refine tz_be (tg_11_3 hT k_h0) (fun t_1 e1809 k_t_1 => ?_)
  refine tz_bd (tz_X3_hasRoom hT k_t_1) (fun t_5 ⟨i_t_5, g_t_5⟩ => ?_)
  refine tz_if _ (fun c1807 => ?_) (fun c1807 => ?_)
  ·
    have i1_t_5 : tq_iv 0 0 t_5 := tq_cut i_t_5 (tq_eqL c1807 tk_0) (by decide) (by decide)
    exact tz_some (tq_top (-1 : Int32))
  ·
    have i2_x1 : tq_iv 0 2147483646 x1 := tq_cut (tq_top x1) (g_t_5 c1807) (by decide) (by decide)
    have i3_t_5 : tq_iv 1 1 t_5 := tq_w (tq_neLo c1807 i_t_5 tk_0) (by decide) (by decide)
    have L_17 : ∀ (n_17 : Nat) (k_17 : Nat → Int32 → Int32 → Int32 → Option (Int32)), (∀ (x2_17 : Int32) (x3_17 : Int32), tq_iv 0 2147483647 x3_17 → (2147483647 - x3_17.toInt).toNat < n_17 → tz_O (fun (z : Int32) => tq_iv (-2147483648) 2147483647 z) (k_17 h0 x1 x2_17 x3_17)) → ∀ (x2_17 : Int32) (x3_17 : Int32), tq_iv 0 2147483647 x3_17 → (2147483647 - x3_17.toInt).toNat < n_17 + 1 → tz_O (fun (z : Int32) => tq_iv (-2147483648) 2147483647 z) (z_X11_comers_17 σ k_17 h0 x1 x2_17 x3_17) := by
      intro n_17 k_17 hk_17 x2_17 x3_17 i_x3_17 hn_17
      unfold z_X11_comers_17
      refine tz_bk e1809 ?_
      refine tz_be (tg_3_7 hT k_t_1) (fun t_22 e1803 i_t_22 => ?_)
      refine tz_if _ (fun c1802 => ?_) (fun c1802 => ?_)
      ·
        exact tz_some (tq_top x2_17)
      ·
        have i4_x3_17 : tq_iv 0 2147483646 x3_17 := tq_cut i_x3_17 (tq_ltL (tq_nle c1802) i_x3_17 (tq_top t_22)) (by decide) (by decide)
        have i5_t_22 : tq_iv 1 2147483647 t_22 := tq_cut (tq_top t_22) (tq_ltR (tq_nle c1802) i_x3_17 (tq_top t_22)) (by decide) (by decide)
        refine tz_be (tg_11_12 hT k_h0) (fun t_29 e1801 k_t_29 => ?_)
        refine tz_bd (tz_X2_reachOf hT k_t_29 i4_x3_17) (fun t_33 i_t_33 => ?_)
        refine tz_let (fun t_37 e1799 => ?_)
        refine tz_let (fun t_39 e1798 => ?_)
        have i6_t_39 : tq_iv 0 1 t_39 := tq_and2 e1798 tk_1 (by decide)
        have K_49 : ∀ (x2_49 : Int32), tz_O (fun (z : Int32) => tq_iv (-2147483648) 2147483647 z) (z_X11_comers_49 σ k_17 h0 x1 x2_49 x3_17) := by
          intro x2_49
          unfold z_X11_comers_49
          refine tz_let (fun t_49 e1791 => ?_)
          have i7_t_49 : tq_iv 1 2147483647 t_49 := tq_w (tq_add e1791 i4_x3_17 tk_1 (by decide) (by decide)) (by decide) (by decide)
          exact hk_17 x2_49 t_49 (tq_w i7_t_49 (by decide) (by decide)) (tq_up e1791 i4_x3_17 tk_1 (by decide) (by decide) hn_17)
        refine tz_if _ (fun c1797 => ?_) (fun c1797 => ?_)
        ·
          have i8_t_39 : tq_iv 0 0 t_39 := tq_cut i6_t_39 (tq_eqL c1797 tk_0) (by decide) (by decide)
          exact K_49 x2_17
        ·
          have i9_t_39 : tq_iv 1 1 t_39 := tq_w (tq_neLo c1797 i6_t_39 tk_0) (by decide) (by decide)
          refine tz_let (fun t_46 e1796 => ?_)
          refine tz_let (fun t_47 e1795 => ?_)
          exact K_49 t_47
    have E_17 : ∀ (x2_17 : Int32) (x3_17 : Int32), tq_iv 0 2147483647 x3_17 → tz_O (fun (z : Int32) => tq_iv (-2147483648) 2147483647 z) (ez_fix (fun _ _ _ _ => none) (z_X11_comers_17 σ) ez_N h0 x1 x2_17 x3_17) := by
      intro x2_17 x3_17 i_x3_17
      exact ez_fix_indn (fun n_17 (k_17 : Nat → Int32 → Int32 → Int32 → Option (Int32)) => ∀ (x2_17 : Int32) (x3_17 : Int32), tq_iv 0 2147483647 x3_17 → (2147483647 - x3_17.toInt).toNat < n_17 → tz_O (fun (z : Int32) => tq_iv (-2147483648) 2147483647 z) (k_17 h0 x1 x2_17 x3_17)) (by intros; rename_i h; exact absurd h (Nat.not_lt_zero _)) L_17 ez_N x2_17 x3_17 i_x3_17 (tq_m0 x3_17)
    exact E_17 (0 : Int32) (0 : Int32) (tq_w tk_0 (by decide) (by decide))
set_option maxRecDepth 4000 in
theorem tz_X3_hasLocks {p : tz_P} {σ : ez_H} {h0 : Nat} {x1 : Int32} (hT : tp p σ) (k_h0 : tz_C h0 = some (3, 3, 0, 0)) : tz_O (fun z => tq_iv 0 1 z) (z_X3_hasLocks σ h0 x1) := by
  unfold z_X3_hasLocks
  refine tz_bd (tz_ob hT k_h0) (fun _ _ => ?_)
  refine tz_bd (tz_X3_allLocks hT k_h0) (fun t_2 i_t_2 => ?_)
  refine tz_let (fun t_6 e1817 => ?_)
  refine tz_let (fun t_7 e1816 => ?_)
  have K_16 : ∀ (y0_16 : Int32), tq_iv 0 1 y0_16 → (¬ y0_16 = 0 → tq_iv 0 0 t_7) → tz_O (fun (z : Int32) => tq_iv 0 1 z) (z_X3_hasLocks_16 σ y0_16) := by
    intro y0_16 i_y0_16 g16_y0_16_t_7
    unfold z_X3_hasLocks_16
    refine tz_nr (tq_nr_boolean i_y0_16) ?_
    exact tz_some i_y0_16
  refine tz_if _ (fun c1815 => ?_) (fun c1815 => ?_)
  ·
    have i1_t_7 : tq_iv 0 0 t_7 := tq_cut (tq_top t_7) (tq_eqL c1815 tk_0) (by decide) (by decide)
    exact K_16 (1 : Int32) (tq_w tk_1 (by decide) (by decide)) (fun _ => i1_t_7)
  ·
    exact K_16 (0 : Int32) (tq_w tk_0 (by decide) (by decide)) (fun h => absurd rfl h)
