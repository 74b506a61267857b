set_option maxRecDepth 4000 in
theorem tz_X12_pin {p : tz_P} {σ : ez_H} {h0 : Nat} {x1 : Int32} {x2 : Int32} (hT : tp p σ) (k_h0 : tz_C h0 = some (3, 12, 0, 0)) : tz_O2 (fun (z : Int32) (s : ez_H) => tq_iv (-2147483648) 2147483647 z ∧ (tp p s ∨ tp (kp p) s)) (z_X12_pin σ h0 x1 x2) := by
  show tz_O (fun z : Int32 × ez_H => (fun (z : Int32) (s : ez_H) => tq_iv (-2147483648) 2147483647 z ∧ (tp p s ∨ tp (kp p) s)) z.1 z.2) _
  unfold z_X12_pin
  refine tz_bd (tz_ob hT k_h0) (fun _ _ => ?_)
  refine tz_bd (tz_X12_isLock hT k_h0) (fun t_2 ⟨i_t_2, g_t_2⟩ => ?_)
  have K_27 : tz_O (fun z : Int32 × ez_H => (fun (z : Int32) (s : ez_H) => tq_iv (-2147483648) 2147483647 z ∧ (tp p s ∨ tp (kp p) s)) z.1 z.2) (z_X12_pin_27 σ) := by
    unfold z_X12_pin_27
    exact tz_some ⟨(tq_top (-1 : Int32)), (Or.inl hT)⟩
  refine tz_if _ (fun c7982 => ?_) (fun c7982 => ?_)
  ·
    have i1_t_2 : tq_iv 0 0 t_2 := tq_cut i_t_2 (tq_eqL c7982 tk_0) (by decide) (by decide)
    exact K_27 
  ·
    have i2_x1 : tq_iv 0 5 x1 := tq_cut (tq_top x1) (g_t_2 c7982) (by decide) (by decide)
    have i3_t_2 : tq_iv 1 1 t_2 := tq_w (tq_neLo c7982 i_t_2 tk_0) (by decide) (by decide)
    refine tz_if _ (fun c7981 => ?_) (fun c7981 => ?_)
    ·
      have i4_x2 : tq_iv 0 0 x2 := tq_cut (tq_top x2) (tq_eqL c7981 tk_0) (by decide) (by decide)
      exact K_27 
    ·
      refine tz_bd (tz_X12_many hT k_h0) (fun t_15 i_t_15 => ?_)
      refine tz_let (fun t_18 e7979 => ?_)
      have i5_t_18 : tq_iv 1 256 t_18 := tq_shl1 e7979 i_t_15 (by decide) (by decide) (by decide) (by decide)
      refine tz_let (fun t_20 e7978 => ?_)
      have i6_t_20 : tq_iv 0 255 t_20 := tq_w (tq_sub e7978 i5_t_18 tk_1 (by decide) (by decide)) (by decide) (by decide)
      refine tz_let (fun t_22 e7977 => ?_)
      refine tz_let (fun t_23 e7976 => ?_)
      refine tz_if _ (fun c7975 => ?_) (fun c7975 => ?_)
      ·
        have i7_t_23 : tq_iv 0 0 t_23 := tq_cut (tq_top t_23) (tq_eqL c7975 tk_0) (by decide) (by decide)
        refine tz_b2 (tz_X12_keepAct hT k_h0) (fun _ σ7973 T7973 => ?_)
        refine tz_b2 (tz_X12_pinFor T7973 k_h0 i2_x1) (fun _ σ7972 T7972 => ?_)
        refine tz_bd (tz_X12_partsIn T7972 k_h0 i2_x1) (fun t_41 i_t_41 => ?_)
        exact tz_some ⟨(tq_top t_41), (Or.inr T7972)⟩
      ·
        exact K_27
set_option maxRecDepth 4000 in
theorem tz_X12_sign {p : tz_P} {σ : ez_H} {h0 : Nat} {x1 : Int32} (hT : tp p σ) (k_h0 : tz_C h0 = some (3, 12, 0, 0)) (i_x1 : tq_iv 0 1601 x1) : tz_O (fun z => tq_iv 0 255 z) (z_X12_sign σ h0 x1) := by
  unfold z_X12_sign
  refine tz_bd (tz_ob hT k_h0) (fun _ _ => ?_)
  refine tz_be (tg_12_3 hT k_h0) (fun t_2 e7992 i_t_2 => ?_)
  have K_22 : ∀ (y0_22 : Int32), tq_iv 0 255 y0_22 → tz_O (fun (z : Int32) => tq_iv 0 255 z) (z_X12_sign_22 σ y0_22) := by
    intro y0_22 i_y0_22
    unfold z_X12_sign_22
    exact tz_some i_y0_22
  refine tz_if _ (fun c7991 => ?_) (fun c7991 => ?_)
  ·
    exact K_22 (0 : Int32) (tq_w tk_0 (by decide) (by decide))
  ·
    have i1_x1 : tq_iv 0 1599 x1 := tq_cut i_x1 (tq_ltL (tq_nle c7991) i_x1 i_t_2) (by decide) (by decide)
    have i2_t_2 : tq_iv 1 1600 t_2 := tq_cut i_t_2 (tq_ltR (tq_nle c7991) i_x1 i_t_2) (by decide) (by decide)
    refine tz_bk (tr_1 hT k_h0) ?_
    refine tz_be (tz_ia hT tc_172 (te_1 (p := p)) i1_x1 (by decide) (by decide)) (fun t_13 e7989 i_t_13 => ?_)
    refine tz_let (fun t_17 e7988 => ?_)
    have i3_t_17 : tq_iv 0 255 t_17 := tq_and2 e7988 tk_255 (by decide)
    exact K_22 t_17 i3_t_17
set_option maxRecDepth 4000 in
theorem tz_X12_isKept {p : tz_P} {σ : ez_H} {x0 : Int64} (hT : tp p σ) : tz_O (fun z => tq_iv 0 1 z) (z_X12_isKept σ x0) := by
  unfold z_X12_isKept
  refine tz_let (fun t_4 e8070 => ?_)
  have i1_t_4 : tq_iv (-1) 1 t_4 := tq_cmp e8070
  have K_101 : ∀ (y0_101 : Int32), tq_iv 0 1 y0_101 → tz_O (fun (z : Int32) => tq_iv 0 1 z) (z_X12_isKept_101 σ x0 y0_101) := by
    intro y0_101 i_y0_101
    unfold z_X12_isKept_101
    have K_199 : ∀ (y0_199 : Int32), tq_iv 0 1 y0_199 → tz_O (fun (z : Int32) => tq_iv 0 1 z) (z_X12_isKept_199 σ y0_199) := by
      intro y0_199 i_y0_199
      unfold z_X12_isKept_199
      refine tz_nr (tq_nr_boolean i_y0_199) ?_
      exact tz_some i_y0_199
    have K_194 : tz_O (fun (z : Int32) => tq_iv 0 1 z) (z_X12_isKept_194 σ) := by
      unfold z_X12_isKept_194
      exact K_199 (1 : Int32) (tq_w tk_1 (by decide) (by decide))
    refine tz_if _ (fun c8032 => ?_) (fun c8032 => ?_)
    ·
      have i2_y0_101 : tq_iv 0 0 y0_101 := tq_cut i_y0_101 (tq_eqL c8032 tk_0) (by decide) (by decide)
      refine tz_let (fun t_110 e8030 => ?_)
      have i3_t_110 : tq_iv (-1) 1 t_110 := tq_cmp e8030
      refine tz_if _ (fun c8029 => ?_) (fun c8029 => ?_)
      ·
        have i4_t_110 : tq_iv 0 0 t_110 := tq_cut i3_t_110 (tq_eqL c8029 tk_0) (by decide) (by decide)
        exact K_194 
      ·
        refine tz_let (fun t_118 e8028 => ?_)
        have i5_t_118 : tq_iv (-1) 1 t_118 := tq_cmp e8028
        refine tz_if _ (fun c8027 => ?_) (fun c8027 => ?_)
        ·
          have i6_t_118 : tq_iv 0 0 t_118 := tq_cut i5_t_118 (tq_eqL c8027 tk_0) (by decide) (by decide)
          exact K_194 
        ·
          refine tz_let (fun t_126 e8026 => ?_)
          have i7_t_126 : tq_iv (-1) 1 t_126 := tq_cmp e8026
          refine tz_if _ (fun c8025 => ?_) (fun c8025 => ?_)
          ·
            have i8_t_126 : tq_iv 0 0 t_126 := tq_cut i7_t_126 (tq_eqL c8025 tk_0) (by decide) (by decide)
            exact K_194 
          ·
            refine tz_let (fun t_134 e8024 => ?_)
            have i9_t_134 : tq_iv (-1) 1 t_134 := tq_cmp e8024
            refine tz_if _ (fun c8023 => ?_) (fun c8023 => ?_)
            ·
              have i10_t_134 : tq_iv 0 0 t_134 := tq_cut i9_t_134 (tq_eqL c8023 tk_0) (by decide) (by decide)
              exact K_194 
            ·
              refine tz_let (fun t_142 e8022 => ?_)
              have i11_t_142 : tq_iv (-1) 1 t_142 := tq_cmp e8022
              refine tz_if _ (fun c8021 => ?_) (fun c8021 => ?_)
              ·
                have i12_t_142 : tq_iv 0 0 t_142 := tq_cut i11_t_142 (tq_eqL c8021 tk_0) (by decide) (by decide)
                exact K_194 
              ·
                refine tz_let (fun t_150 e8020 => ?_)
                have i13_t_150 : tq_iv (-1) 1 t_150 := tq_cmp e8020
                refine tz_if _ (fun c8019 => ?_) (fun c8019 => ?_)
                ·
                  have i14_t_150 : tq_iv 0 0 t_150 := tq_cut i13_t_150 (tq_eqL c8019 tk_0) (by decide) (by decide)
                  exact K_194 
                ·
                  refine tz_let (fun t_158 e8018 => ?_)
                  have i15_t_158 : tq_iv (-1) 1 t_158 := tq_cmp e8018
                  refine tz_if _ (fun c8017 => ?_) (fun c8017 => ?_)
                  ·
                    have i16_t_158 : tq_iv 0 0 t_158 := tq_cut i15_t_158 (tq_eqL c8017 tk_0) (by decide) (by decide)
                    exact K_194 
                  ·
                    refine tz_let (fun t_166 e8016 => ?_)
                    have i17_t_166 : tq_iv (-1) 1 t_166 := tq_cmp e8016
                    refine tz_if _ (fun c8015 => ?_) (fun c8015 => ?_)
                    ·
                      have i18_t_166 : tq_iv 0 0 t_166 := tq_cut i17_t_166 (tq_eqL c8015 tk_0) (by decide) (by decide)
                      exact K_194 
                    ·
                      refine tz_let (fun t_174 e8014 => ?_)
                      have i19_t_174 : tq_iv (-1) 1 t_174 := tq_cmp e8014
                      refine tz_if _ (fun c8013 => ?_) (fun c8013 => ?_)
                      ·
                        have i20_t_174 : tq_iv 0 0 t_174 := tq_cut i19_t_174 (tq_eqL c8013 tk_0) (by decide) (by decide)
                        exact K_194 
                      ·
                        refine tz_let (fun t_182 e8012 => ?_)
                        have i21_t_182 : tq_iv (-1) 1 t_182 := tq_cmp e8012
                        refine tz_if _ (fun c8011 => ?_) (fun c8011 => ?_)
                        ·
                          have i22_t_182 : tq_iv 0 0 t_182 := tq_cut i21_t_182 (tq_eqL c8011 tk_0) (by decide) (by decide)
                          exact K_194 
                        ·
                          refine tz_let (fun t_190 e8010 => ?_)
                          have i23_t_190 : tq_iv (-1) 1 t_190 := tq_cmp e8010
                          refine tz_if _ (fun c8009 => ?_) (fun c8009 => ?_)
                          ·
                            have i24_t_190 : tq_iv 0 0 t_190 := tq_cut i23_t_190 (tq_eqL c8009 tk_0) (by decide) (by decide)
                            exact K_194 
                          ·
                            exact K_199 (0 : Int32) (tq_w tk_0 (by decide) (by decide))
    ·
      have i25_y0_101 : tq_iv 1 1 y0_101 := tq_w (tq_neLo c8032 i_y0_101 tk_0) (by decide) (by decide)
      exact K_194 
  have K_96 : tz_O (fun (z : Int32) => tq_iv 0 1 z) (z_X12_isKept_96 σ x0) := by
    unfold z_X12_isKept_96
    exact K_101 (1 : Int32) (tq_w tk_1 (by decide) (by decide))
  refine tz_if _ (fun c8069 => ?_) (fun c8069 => ?_)
  ·
    have i26_t_4 : tq_iv 0 0 t_4 := tq_cut i1_t_4 (tq_eqL c8069 tk_0) (by decide) (by decide)
    exact K_96 
  ·
    refine tz_let (fun t_12 e8068 => ?_)
    have i27_t_12 : tq_iv (-1) 1 t_12 := tq_cmp e8068
    refine tz_if _ (fun c8067 => ?_) (fun c8067 => ?_)
    ·
      have i28_t_12 : tq_iv 0 0 t_12 := tq_cut i27_t_12 (tq_eqL c8067 tk_0) (by decide) (by decide)
      exact K_96 
    ·
      refine tz_let (fun t_20 e8066 => ?_)
      have i29_t_20 : tq_iv (-1) 1 t_20 := tq_cmp e8066
      refine tz_if _ (fun c8065 => ?_) (fun c8065 => ?_)
      ·
        have i30_t_20 : tq_iv 0 0 t_20 := tq_cut i29_t_20 (tq_eqL c8065 tk_0) (by decide) (by decide)
        exact K_96 
      ·
        refine tz_let (fun t_28 e8064 => ?_)
        have i31_t_28 : tq_iv (-1) 1 t_28 := tq_cmp e8064
        refine tz_if _ (fun c8063 => ?_) (fun c8063 => ?_)
        ·
          have i32_t_28 : tq_iv 0 0 t_28 := tq_cut i31_t_28 (tq_eqL c8063 tk_0) (by decide) (by decide)
          exact K_96 
        ·
          refine tz_let (fun t_36 e8062 => ?_)
          have i33_t_36 : tq_iv (-1) 1 t_36 := tq_cmp e8062
          refine tz_if _ (fun c8061 => ?_) (fun c8061 => ?_)
          ·
            have i34_t_36 : tq_iv 0 0 t_36 := tq_cut i33_t_36 (tq_eqL c8061 tk_0) (by decide) (by decide)
            exact K_96 
          ·
            refine tz_let (fun t_44 e8060 => ?_)
            have i35_t_44 : tq_iv (-1) 1 t_44 := tq_cmp e8060
            refine tz_if _ (fun c8059 => ?_) (fun c8059 => ?_)
            ·
              have i36_t_44 : tq_iv 0 0 t_44 := tq_cut i35_t_44 (tq_eqL c8059 tk_0) (by decide) (by decide)
              exact K_96 
            ·
              refine tz_let (fun t_52 e8058 => ?_)
              have i37_t_52 : tq_iv (-1) 1 t_52 := tq_cmp e8058
              refine tz_if _ (fun c8057 => ?_) (fun c8057 => ?_)
              ·
                have i38_t_52 : tq_iv 0 0 t_52 := tq_cut i37_t_52 (tq_eqL c8057 tk_0) (by decide) (by decide)
                exact K_96 
              ·
                refine tz_let (fun t_60 e8056 => ?_)
                have i39_t_60 : tq_iv (-1) 1 t_60 := tq_cmp e8056
                refine tz_if _ (fun c8055 => ?_) (fun c8055 => ?_)
                ·
                  have i40_t_60 : tq_iv 0 0 t_60 := tq_cut i39_t_60 (tq_eqL c8055 tk_0) (by decide) (by decide)
                  exact K_96 
                ·
                  refine tz_let (fun t_68 e8054 => ?_)
                  have i41_t_68 : tq_iv (-1) 1 t_68 := tq_cmp e8054
                  refine tz_if _ (fun c8053 => ?_) (fun c8053 => ?_)
                  ·
                    have i42_t_68 : tq_iv 0 0 t_68 := tq_cut i41_t_68 (tq_eqL c8053 tk_0) (by decide) (by decide)
                    exact K_96 
                  ·
                    refine tz_let (fun t_76 e8052 => ?_)
                    have i43_t_76 : tq_iv (-1) 1 t_76 := tq_cmp e8052
                    refine tz_if _ (fun c8051 => ?_) (fun c8051 => ?_)
                    ·
                      have i44_t_76 : tq_iv 0 0 t_76 := tq_cut i43_t_76 (tq_eqL c8051 tk_0) (by decide) (by decide)
                      exact K_96 
                    ·
                      refine tz_let (fun t_84 e8050 => ?_)
                      have i45_t_84 : tq_iv (-1) 1 t_84 := tq_cmp e8050
                      refine tz_if _ (fun c8049 => ?_) (fun c8049 => ?_)
                      ·
                        have i46_t_84 : tq_iv 0 0 t_84 := tq_cut i45_t_84 (tq_eqL c8049 tk_0) (by decide) (by decide)
                        exact K_96 
                      ·
                        refine tz_let (fun t_92 e8048 => ?_)
                        have i47_t_92 : tq_iv (-1) 1 t_92 := tq_cmp e8048
                        refine tz_if _ (fun c8047 => ?_) (fun c8047 => ?_)
                        ·
                          have i48_t_92 : tq_iv 0 0 t_92 := tq_cut i47_t_92 (tq_eqL c8047 tk_0) (by decide) (by decide)
                          exact K_96 
                        ·
                          exact K_101 (0 : Int32) (tq_w tk_0 (by decide) (by decide))
set_option maxRecDepth 4000 in
theorem tz_X12_isDigit {p : tz_P} {σ : ez_H} {x0 : Int32} (hT : tp p σ) : tz_O (fun z => tq_iv 0 1 z ∧ (¬ z = 0 → tq_iv 48 57 x0)) (z_X12_isDigit σ x0) := by
  unfold z_X12_isDigit
  have K_17 : ∀ (y0_17 : Int32), tq_iv 0 1 y0_17 → (¬ y0_17 = 0 → tq_iv 48 57 x0) → tz_O (fun (z : Int32) => tq_iv 0 1 z ∧ (¬ z = 0 → tq_iv 48 57 x0)) (z_X12_isDigit_17 σ y0_17) := by
    intro y0_17 i_y0_17 g17_y0_17_x0
    unfold z_X12_isDigit_17
    refine tz_nr (tq_nr_boolean i_y0_17) ?_
    exact tz_some ⟨i_y0_17, (fun h => tq_w (g17_y0_17_x0 h) (by decide) (by decide))⟩
  have K_16 : tz_O (fun (z : Int32) => tq_iv 0 1 z ∧ (¬ z = 0 → tq_iv 48 57 x0)) (z_X12_isDigit_16 σ) := by
    unfold z_X12_isDigit_16
    exact K_17 (0 : Int32) (tq_w tk_0 (by decide) (by decide)) (fun h => absurd rfl h)
  refine tz_if _ (fun c8078 => ?_) (fun c8078 => ?_)
  ·
    have i1_x0 : tq_iv (-2147483648) 47 x0 := tq_cut (tq_top x0) (tq_ltL c8078 (tq_top x0) tk_48) (by decide) (by decide)
    exact K_16 
  ·
    have i2_x0 : tq_iv 48 2147483647 x0 := tq_cut (tq_top x0) (tq_leR (tq_nlt c8078) tk_48 (tq_top x0)) (by decide) (by decide)
    refine tz_if _ (fun c8077 => ?_) (fun c8077 => ?_)
    ·
      have i3_x0 : tq_iv 58 2147483647 x0 := tq_cut i2_x0 (tq_ltR c8077 tk_57 i2_x0) (by decide) (by decide)
      exact K_16 
    ·
      have i4_x0 : tq_iv 48 57 x0 := tq_cut i2_x0 (tq_leL (tq_nlt c8077) i2_x0 tk_57) (by decide) (by decide)
      exact K_17 (1 : Int32) (tq_w tk_1 (by decide) (by decide)) (fun _ => i4_x0)
set_option maxRecDepth 4000 in
theorem tz_X12_isSign {p : tz_P} {σ : ez_H} {x0 : Int32} (hT : tp p σ) : tz_O (fun z => tq_iv 0 1 z ∧ (¬ z = 0 → tq_iv 37 62 x0)) (z_X12_isSign σ x0) := by
  unfold z_X12_isSign
  have K_71 : ∀ (y0_71 : Int32), tq_iv 0 1 y0_71 → (¬ y0_71 = 0 → tq_iv 37 62 x0) → tz_O (fun (z : Int32) => tq_iv 0 1 z ∧ (¬ z = 0 → tq_iv 37 62 x0)) (z_X12_isSign_71 σ y0_71) := by
    intro y0_71 i_y0_71 g71_y0_71_x0
    unfold z_X12_isSign_71
    refine tz_nr (tq_nr_boolean i_y0_71) ?_
    exact tz_some ⟨i_y0_71, (fun h => tq_w (g71_y0_71_x0 h) (by decide) (by decide))⟩
  have K_66 : tq_iv 37 62 x0 → tz_O (fun (z : Int32) => tq_iv 0 1 z ∧ (¬ z = 0 → tq_iv 37 62 x0)) (z_X12_isSign_66 σ) := by
    intro j66_x0
    unfold z_X12_isSign_66
    exact K_71 (1 : Int32) (tq_w tk_1 (by decide) (by decide)) (fun _ => j66_x0)
  refine tz_if _ (fun c8104 => ?_) (fun c8104 => ?_)
  ·
    have i1_x0 : tq_iv 59 59 x0 := tq_cut (tq_top x0) (tq_eqL c8104 tk_59) (by decide) (by decide)
    exact K_66 (tq_w i1_x0 (by decide) (by decide))
  ·
    refine tz_if _ (fun c8103 => ?_) (fun c8103 => ?_)
    ·
      have i2_x0 : tq_iv 40 40 x0 := tq_cut (tq_top x0) (tq_eqL c8103 tk_40) (by decide) (by decide)
      exact K_66 (tq_w i2_x0 (by decide) (by decide))
    ·
      refine tz_if _ (fun c8102 => ?_) (fun c8102 => ?_)
      ·
        have i3_x0 : tq_iv 41 41 x0 := tq_cut (tq_top x0) (tq_eqL c8102 tk_41) (by decide) (by decide)
        exact K_66 (tq_w i3_x0 (by decide) (by decide))
      ·
        refine tz_if _ (fun c8101 => ?_) (fun c8101 => ?_)
        ·
          have i4_x0 : tq_iv 60 60 x0 := tq_cut (tq_top x0) (tq_eqL c8101 tk_60) (by decide) (by decide)
          exact K_66 (tq_w i4_x0 (by decide) (by decide))
        ·
          refine tz_if _ (fun c8100 => ?_) (fun c8100 => ?_)
          ·
            have i5_x0 : tq_iv 62 62 x0 := tq_cut (tq_top x0) (tq_eqL c8100 tk_62) (by decide) (by decide)
            exact K_66 (tq_w i5_x0 (by decide) (by decide))
          ·
            refine tz_if _ (fun c8099 => ?_) (fun c8099 => ?_)
            ·
              have i6_x0 : tq_iv 61 61 x0 := tq_cut (tq_top x0) (tq_eqL c8099 tk_61) (by decide) (by decide)
              exact K_66 (tq_w i6_x0 (by decide) (by decide))
            ·
              refine tz_if _ (fun c8098 => ?_) (fun c8098 => ?_)
              ·
                have i7_x0 : tq_iv 43 43 x0 := tq_cut (tq_top x0) (tq_eqL c8098 tk_43) (by decide) (by decide)
                exact K_66 (tq_w i7_x0 (by decide) (by decide))
              ·
                refine tz_if _ (fun c8097 => ?_) (fun c8097 => ?_)
                ·
                  have i8_x0 : tq_iv 45 45 x0 := tq_cut (tq_top x0) (tq_eqL c8097 tk_45) (by decide) (by decide)
                  exact K_66 (tq_w i8_x0 (by decide) (by decide))
                ·
                  refine tz_if _ (fun c8096 => ?_) (fun c8096 => ?_)
                  ·
                    have i9_x0 : tq_iv 42 42 x0 := tq_cut (tq_top x0) (tq_eqL c8096 tk_42) (by decide) (by decide)
                    exact K_66 (tq_w i9_x0 (by decide) (by decide))
                  ·
                    refine tz_if _ (fun c8095 => ?_) (fun c8095 => ?_)
                    ·
                      have i10_x0 : tq_iv 47 47 x0 := tq_cut (tq_top x0) (tq_eqL c8095 tk_47) (by decide) (by decide)
                      exact K_66 (tq_w i10_x0 (by decide) (by decide))
                    ·
                      refine tz_if _ (fun c8094 => ?_) (fun c8094 => ?_)
                      ·
                        have i11_x0 : tq_iv 37 37 x0 := tq_cut (tq_top x0) (tq_eqL c8094 tk_37) (by decide) (by decide)
                        exact K_66 (tq_w i11_x0 (by decide) (by decide))
                      ·
                        exact K_71 (0 : Int32) (tq_w tk_0 (by decide) (by decide)) (fun h => absurd rfl h)
/-- what goOn leaves: another place, or the end -/
def gG (σ s : ez_H) : Prop := fv s 3 = fv σ 3 ∧ fv s 4 = fv σ 4 ∧ tn σ s ∧ ((fv σ 7 + 1 ≤ fv s 7 ∧ fv s 7 ≤ fv s 3) ∨ (fv s 8 = 0 ∧ fv s 7 = fv s 3))
theorem gG_tm {p : tz_P} {σ s : ez_H} (hT : tp p s) (hm : pm σ) (h : gG σ s) : tm σ s ∧ (¬ fv σ 8 = 0 → M s < M σ) := by
  obtain ⟨h3, h4, -, h⟩ := h
  have hm : fv σ 7 ≤ fv σ 3 := hm
  obtain ⟨x, ex, -, x2⟩ := gf (tg_12_3 hT tc_170)
  have e3 := fv_gi ex
  have key : M s ≤ M σ ∧ (¬ fv σ 8 = 0 → M s < M σ) := by
    unfold M
    rw [h4]
    generalize (if fv σ 4 = 0 then 1 else 0) = w
    refine ⟨?_, fun q2 => ?_⟩
    · rcases h with h | h
      · split <;> split <;> omega
      · rw [if_pos h.1]
        split <;> omega
    · rw [if_neg q2]
      rcases h with h | h
      · split <;> omega
      · rw [if_pos h.1]
        omega
  refine ⟨fun _ => ⟨?_, key.1, fun q => by omega⟩, key.2⟩
  show fv s 7 ≤ fv s 3
  omega
def gS (p : tz_P) (σ s : ez_H) : Prop := tp p s ∧ fv s 3 = fv σ 3 ∧ fv s 4 = fv σ 4 ∧ tn σ s
theorem gS_pf {p : tz_P} {σ s s1 : ez_H} {k : Nat} {v : ez_V} (h : gS p σ s) (hT : tp p s1) (c : ez_pf s 12 170 k v = some s1) (h3 : ¬ 3 = k) (h4 : ¬ 4 = k) (hk : k < 43) : gS p σ s1 := ⟨hT, (fv_pf_ne c h3).trans h.2.1, (fv_pf_ne c h4).trans h.2.2.1, tn_pf h.2.2.2 c tc_170 hk⟩
theorem tz_signE {p : tz_P} {σ : ez_H} {x1 : Int32} (hT : tp p σ) (i_x1 : tq_iv 0 1601 x1) : tz_O (fun z => tq_iv 0 255 z ∧ (fv σ 3 ≤ x1.toInt → z = 0)) (z_X12_sign σ 170 x1) := by
  obtain ⟨z, ez, iz⟩ := tz_X12_sign (h0 := 170) hT tc_170 i_x1
  refine ⟨z, ez, iz, fun h => ?_⟩
  unfold z_X12_sign at ez
  obtain ⟨fs, hfs, -⟩ := tz_ob (G := tz_Gp p) (a := 170) (ci := 12) hT tc_170
  rw [hfs, ez_bd_some] at ez
  obtain ⟨t, et, ht, -⟩ := gf (tg_12_3 hT tc_170)
  rw [et, ez_bd_some] at ez
  have c : t ≤ x1 := Int32.le_iff_toInt_le.mpr (by omega)
  rw [if_pos c] at ez
  unfold z_X12_sign_22 at ez
  exact (Option.some.inj ez).symm
theorem sg_pf {p : tz_P} {σ s : ez_H} {k : Nat} {v : ez_V} {x : Int32} (hT : tp p σ) (hs : tp p s) (c : ez_pf σ 12 170 k v = some s) (h3 : ¬ 3 = k) : z_X12_sign s 170 x = z_X12_sign σ 170 x := by
  unfold z_X12_sign
  obtain ⟨fs, hfs, -⟩ := tz_ob (G := tz_Gp p) (a := 170) (ci := 12) hT tc_170
  obtain ⟨fs2, hfs2, -⟩ := tz_ob (G := tz_Gp p) (a := 170) (ci := 12) hs tc_170
  rw [hfs, hfs2, ez_bd_some, ez_bd_some, (fr_pf_v c (fun q => h3 q.2.2)).1, tr_1 hT tc_170, tr_1 hs tc_170]
  show ez_bd _ _ = ez_bd _ _
  congr 1
  funext t
  rw [ez_bd_some, ez_bd_some, fr_pf_ia c]
  rfl
theorem isDig1 {σ : ez_H} {x : Int32} (h : tq_iv 48 57 x) : z_X12_isDigit σ x = some 1 := by
  obtain ⟨h1, h2⟩ := h
  have e48 : (48 : Int32).toInt = 48 := by decide
  have e57 : (57 : Int32).toInt = 57 := by decide
  unfold z_X12_isDigit
  simp only [Int32.lt_iff_toInt_lt, Int32.le_iff_toInt_le, e48, e57]
  first
    | (rw [if_neg (by omega), if_neg (by omega)]; rfl)
    | (rw [if_neg (by omega), if_pos (by omega)]; rfl)
theorem tz_X12_goOnG {p : tz_P} {σ : ez_H} (hT : tp p σ) (hm : pm σ) : tz_O (fun z : Unit × ez_H => tp p z.2 ∧ gG σ z.2) (z_X12_goOn σ 170) := by
  have hm : fv σ 7 ≤ fv σ 3 := hm
  have e0 : (0 : Int32).toInt = 0 := by decide
  have e1 : (1 : Int32).toInt = 1 := by decide
  have e4 : (4 : Int32).toInt = 4 := by decide
  have e8 : (8 : Int32).toInt = 8 := by decide
  have e10 : (10 : Int32).toInt = 10 := by decide
  have e48 : (48 : Int32).toInt = 48 := by decide
  have S3 : 0 ≤ fv σ 3 ∧ fv σ 3 ≤ 1600 := by
    obtain ⟨x, ex, h1, h2, h3⟩ := gf (tg_12_3 hT tc_170)
    omega
  have S7 : 0 ≤ fv σ 7 := by
    obtain ⟨x, ex, h1, h2, h3⟩ := gf (tg_12_7 hT tc_170)
    omega
  -- the token is written
  have KT : ∀ s y, gS p σ s → fv σ 7 + 1 ≤ fv s 7 → fv s 7 ≤ fv s 3 → tq_iv 0 5 y → tz_O (fun z : Unit × ez_H => tp p z.2 ∧ gG σ z.2) (ez_bd (ez_pf s 12 170 8 (.inl y)) fun σ => z_X12_goOn_377 σ) := by
    intro s y hs h1 h2 hy
    refine tz_be (tw_12_8 hs.1 tc_170 hy) (fun s2 c hs2 => ?_)
    have g := gS_pf hs hs2 c (by decide) (by decide) (by decide)
    have q7 := fv_pf_ne (j := 7) c (by decide)
    have q3 := fv_pf_ne (j := 3) c (by decide)
    exact tz_some ⟨hs2, g.2.1, g.2.2.1, g.2.2.2, Or.inl ⟨by show _ ≤ fv s2 7; omega, by show fv s2 7 ≤ fv s2 3; omega⟩⟩
  have K199 : ∀ s, gS p σ s → fv σ 7 + 1 ≤ fv s 7 → fv s 7 ≤ fv s 3 → tz_O (fun z : Unit × ez_H => tp p z.2 ∧ gG σ z.2) (z_X12_goOn_199 s 170) := by
    intro s hs h1 h2
    unfold z_X12_goOn_199
    refine tz_bd (tg_12_7 hs.1 tc_170) (fun _ _ => tz_bd (tg_12_6 hs.1 tc_170) (fun _ _ => tz_let (fun _ _ => ?_)))
    refine tz_if _ (fun _ => ?_) (fun _ => KT s _ hs h1 h2 ⟨by decide, by decide⟩)
    refine tz_bd (tg_12_10 hs.1 tc_170) (fun _ _ => tz_bd (tz_X12_isKept hs.1) (fun _ _ => ?_))
    exact tz_if _ (fun _ => KT s _ hs h1 h2 ⟨by decide, by decide⟩) (fun _ => KT s _ hs h1 h2 ⟨by decide, by decide⟩)
  have K119 : ∀ s, gS p σ s → fv σ 7 + 1 ≤ fv s 7 → fv s 7 ≤ fv s 3 → tz_O (fun z : Unit × ez_H => tp p z.2 ∧ gG σ z.2) (ez_fix (fun _ _ => none) z_X12_goOn_119 ez_N s 170) := by
    intro s hs h1 h2
    refine lpG (fun (k : ez_H → Nat → Option (Unit × ez_H)) (a : ez_H) => k a 170) (fun s => gS p σ s ∧ fv σ 7 + 1 ≤ fv s 7 ∧ fv s 7 ≤ fv s 3) (fun s => (1600 - fv s 7).toNat) ?_ s ⟨hs, h1, h2⟩ (by show _ < 4294967296; omega)
    rintro k s ⟨hs, h1, h2⟩ hk
    show tz_O _ (z_X12_goOn_119 k s 170)
    unfold z_X12_goOn_119
    refine tz_be (gf (tg_12_7 hs.1 tc_170)) (fun t et ht => ?_)
    obtain ⟨ht, t1, t2⟩ := ht
    refine tz_bd (tz_signE hs.1 ⟨t1, t2⟩) (fun c hc => ?_)
    refine tz_bd (tz_X12_isLetter hs.1) (fun l hl => ?_)
    refine tz_if _ (fun _ => ?_) (fun q => ?_)
    · refine tz_be (tz_pfl hs.1 tc_170 (tf_12_10 (p := p))) (fun s2 c2 hs2 => ?_)
      have g := gS_pf hs hs2 c2 (by decide) (by decide) (by decide)
      have q7 := fv_pf_ne (j := 7) c2 (by decide)
      have q3 := fv_pf_ne (j := 3) c2 (by decide)
      refine tz_bd (gf (tg_12_6 hs2 tc_170)) (fun b hb => ?_)
      refine lpG (fun (k : ez_H → Nat → Int32 → Option (Unit × ez_H)) (a : ez_H × Int32) => k a.1 170 a.2) (fun a => gS p σ a.1 ∧ fv σ 7 + 1 ≤ fv a.1 7 ∧ fv a.1 7 ≤ fv a.1 3 ∧ 0 ≤ a.2.toInt) (fun a => (2147483647 - a.2.toInt).toNat) ?_ (s2, b) ⟨g, by show _ ≤ fv s2 7; omega, by show fv s2 7 ≤ fv s2 3; omega, hb.2.1⟩ (tq_m0 _)
      rintro k2 ⟨s3, x⟩ ⟨g3, h31, h32, hx0⟩ hk2
      have g3 : gS p σ s3 := g3
      have h31 : fv σ 7 + 1 ≤ fv s3 7 := h31
      have h32 : fv s3 7 ≤ fv s3 3 := h32
      have hx0 : 0 ≤ x.toInt := hx0
      show tz_O _ (z_X12_goOn_156 k2 s3 170 x)
      unfold z_X12_goOn_156
      refine tz_bd (gf (tg_12_7 g3.1 tc_170)) (fun u hu => ?_)
      obtain ⟨hu, u1, u2⟩ := hu
      refine tz_if _ (fun _ => K199 s3 g3 h31 h32) (fun q2 => ?_)
      have q2 := nle_c q2
      refine tz_bd (tg_12_6 g3.1 tc_170) (fun _ _ => tz_let (fun _ _ => ?_))
      refine tz_if _ (fun _ => K199 s3 g3 h31 h32) (fun _ => ?_)
      refine tz_bd (tg_12_10 g3.1 tc_170) (fun _ _ => tz_let (fun _ _ => ?_))
      refine tz_bd (tz_signE g3.1 ⟨by omega, by omega⟩) (fun _ _ => tz_let (fun _ _ => tz_let (fun _ _ => ?_)))
      refine tz_be (tz_pfl g3.1 tc_170 (tf_12_10 (p := p))) (fun s4 c4 hs4 => ?_)
      have g4 := gS_pf g3 hs4 c4 (by decide) (by decide) (by decide)
      have q7 := fv_pf_ne (j := 7) c4 (by decide)
      have q3 := fv_pf_ne (j := 3) c4 (by decide)
      refine tz_let (fun t e => ?_)
      have ht := tq_inc e hx0 (by omega)
      exact hk2 (s4, t) ⟨g4, by show _ ≤ fv s4 7; omega, by show fv s4 7 ≤ fv s4 3; omega, by show 0 ≤ t.toInt; omega⟩ (by show (2147483647 - t.toInt).toNat < (2147483647 - x.toInt).toNat; omega)
    · have hlt : t.toInt < fv s 3 := by
        by_cases w : fv s 3 ≤ t.toInt
        · have := (hl.2 q).1
          rw [hc.2 w] at this
          rw [e0] at this
          omega
        · omega
      refine tz_bk et ?_
      refine tz_let (fun u e => ?_)
      have hu : u.toInt = t.toInt + 1 := by
        rw [e, tq_addT (a := 0) (b := 1601) (c := 1) (d := 1) ⟨t1, t2⟩ tk_1 (by decide) (by decide), e1]
      have := hs.2.1
      refine tz_be (tw_12_7 hs.1 tc_170 ⟨by omega, by omega⟩) (fun s2 c2 hs2 => ?_)
      have g := gS_pf hs hs2 c2 (by decide) (by decide) (by decide)
      have q7 := fv_pf c2
      have q3 := fv_pf_ne (j := 3) c2 (by decide)
      exact hk s2 ⟨g, by omega, by omega⟩ (by omega)
  have K58 : ∀ s, gS p σ s → fv s 7 = fv σ 7 → fv σ 7 ≤ fv s 6 → fv s 6 ≤ fv σ 3 → tz_O (fun z : Unit × ez_H => tp p z.2 ∧ gG σ z.2) (z_X12_goOn_58 s 170) := by
    intro s hs h7 h6 h63
    unfold z_X12_goOn_58
    refine tz_be (gf (tg_12_6 hs.1 tc_170)) (fun b eb hb => ?_)
    obtain ⟨hb, b1, b2⟩ := hb
    refine tz_be (tz_signE hs.1 ⟨b1, b2⟩) (fun c63 ec hc => ?_)
    refine tz_bk eb ?_
    refine tz_let (fun t73 e73 => ?_)
    have h73 : t73.toInt = b.toInt + 1 := by
      rw [e73, tq_addT (a := 0) (b := 1601) (c := 1) (d := 1) ⟨b1, b2⟩ tk_1 (by decide) (by decide), e1]
    refine tz_be (tw_12_7 hs.1 tc_170 ⟨by omega, by omega⟩) (fun s1 c1 hs1 => ?_)
    have g1 := gS_pf hs hs1 c1 (by decide) (by decide) (by decide)
    have q7 := fv_pf c1
    have q3 := fv_pf_ne (j := 3) c1 (by decide)
    have q6 := fv_pf_ne (j := 6) c1 (by decide)
    have eb1 : ez_gi s1 12 170 6 = some b := (fr_pf_v c1 (fun q => absurd q.2.2 (by decide))).1.trans eb
    refine tz_bk eb1 ?_
    refine tz_be (gf (tg_12_3 hs1 tc_170)) (fun t82 e82 h82 => ?_)
    obtain ⟨h82, -, -⟩ := h82
    have g13 := g1.2.1
    refine tz_if _ (fun c => ?_) (fun c => ?_)
    · have c := lt_c c
      refine tz_bd (tz_X12_isLetter hs1) (fun t113 h113 => ?_)
      refine tz_if _ (fun _ => ?_) (fun _ => K119 s1 g1 (by omega) (by omega))
      refine tz_bd (tz_X12_isDigit hs1) (fun t240 h240 => ?_)
      refine tz_if _ (fun _ => ?_) (fun cd => ?_)
      · refine tz_bd (tz_X12_isSign hs1) (fun t363 h363 => ?_)
        exact tz_if _ (fun _ => KT s1 _ g1 (by omega) (by omega) ⟨by decide, by decide⟩) (fun _ => KT s1 _ g1 (by omega) (by omega) ⟨by decide, by decide⟩)
      have hdig := h240.2 cd
      refine tz_be (tw_12_9 hs1 tc_170 ⟨by decide, by decide⟩) (fun s2 c2 hs2 => ?_)
      have g2 := gS_pf g1 hs2 c2 (by decide) (by decide) (by decide)
      have eb2 : ez_gi s2 12 170 6 = some b := (fr_pf_v c2 (fun q => absurd q.2.2 (by decide))).1.trans eb1
      refine tz_bk eb2 ?_
      refine tz_be (tw_12_7 hs2 tc_170 ⟨by omega, by omega⟩) (fun s3 c3 hs3 => ?_)
      have g3 := gS_pf g2 hs3 c3 (by decide) (by decide) (by decide)
      have eb3 : ez_gi s3 12 170 6 = some b := (fr_pf_v c3 (fun q => absurd q.2.2 (by decide))).1.trans eb2
      have es : z_X12_sign s3 170 b = some c63 := by rw [sg_pf hs2 hs3 c3 (by decide), sg_pf hs1 hs2 c2 (by decide), sg_pf hs.1 hs1 c1 (by decide), ec]
      have w9 : fv s3 9 = 0 := by rw [fv_pf_ne (j := 9) c3 (by decide), fv_pf c2, e0]
      have w7 := fv_pf c3
      refine lpG (fun (k : ez_H → Nat → Option (Unit × ez_H)) (a : ez_H) => k a 170) (fun s => gS p σ s ∧ ez_gi s 12 170 6 = some b ∧ b.toInt ≤ fv s 7 ∧ fv s 7 ≤ fv s 3 ∧ (fv s 7 = b.toInt → z_X12_sign s 170 b = some c63) ∧ ((fv s 7 = b.toInt → fv s 9 ≤ 0) ∧ (fv s 7 = b.toInt + 1 → fv s 9 ≤ 9) ∧ (fv s 7 = b.toInt + 2 → fv s 9 ≤ 99) ∧ (fv s 7 = b.toInt + 3 → fv s 9 ≤ 999))) (fun s => (1600 - fv s 7).toNat) ?_ s3 ⟨g3, eb3, by omega, by have := g3.2.1; omega, fun _ => es, by omega, by omega, by omega, by omega⟩ (by show _ < 4294967296; omega)
      rintro k s ⟨hs, eb, h1, h2, hsg, n0, n1, n2, n3⟩ hk
      show tz_O _ (z_X12_goOn_259 k s 170)
      unfold z_X12_goOn_259
      have hs3 := hs.2.1
      refine tz_be (gf (tg_12_7 hs.1 tc_170)) (fun t et ht => ?_)
      obtain ⟨ht, t1, t2⟩ := ht
      refine tz_be (tz_signE hs.1 ⟨t1, t2⟩) (fun c esc hc => ?_)
      refine tz_be (tz_X12_isDigit hs.1) (fun d ed hd => ?_)
      refine tz_if _ (fun q => ?_) (fun q => ?_)
      · have hgt : b.toInt + 1 ≤ fv s 7 := by
          by_cases w : fv s 7 = b.toInt
          · have tb : t = b := Int32.toInt_inj.mp (by omega)
            subst tb
            rw [hsg w] at esc
            have ecc := Option.some.inj esc
            subst ecc
            rw [isDig1 hdig] at ed
            have := (Option.some.inj ed).symm
            rw [this] at q
            exact absurd q (by decide)
          · omega
        refine tz_bk et ?_
        refine tz_bk eb ?_
        refine tz_let (fun _ _ => ?_)
        refine tz_if _ (fun _ => KT s _ hs (by omega) h2 ⟨by decide, by decide⟩) (fun _ => ?_)
        refine tz_bk et ?_
        refine tz_bk esc ?_
        refine tz_bd (tz_X12_isLetter hs.1) (fun _ _ => ?_)
        exact tz_if _ (fun _ => KT s _ hs (by omega) h2 ⟨by decide, by decide⟩) (fun _ => KT s _ hs (by omega) h2 ⟨by decide, by decide⟩)
      · obtain ⟨d1, d2⟩ := hd.2 q
        have hlt : t.toInt < fv s 3 := by
          by_cases w : fv s 3 ≤ t.toInt
          · rw [hc.2 w, e0] at d1
            omega
          · omega
        refine tz_bk et ?_
        refine tz_bk eb ?_
        refine tz_let (fun t281 e281 => ?_)
        have h281 : t281.toInt = t.toInt - b.toInt := by
          rw [e281]
          exact tq_subT (a := 0) (b := 1601) (c := 0) (d := 1601) ⟨t1, t2⟩ ⟨b1, b2⟩ (by decide) (by decide)
        have KN : ∀ s2, gS p σ s2 → ez_gi s2 12 170 6 = some b → ez_gi s2 12 170 7 = some t → (t.toInt + 1 = b.toInt + 1 → fv s2 9 ≤ 9) → (t.toInt + 1 = b.toInt + 2 → fv s2 9 ≤ 99) → (t.toInt + 1 = b.toInt + 3 → fv s2 9 ≤ 999) → tz_O (fun z : Unit × ez_H => tp p z.2 ∧ gG σ z.2) (z_X12_goOn_309 k s2 170) := by
          intro s2 g2 eb2 et2 m1 m2 m3
          unfold z_X12_goOn_309
          refine tz_bk et2 ?_
          refine tz_let (fun u e => ?_)
          have hu : u.toInt = t.toInt + 1 := by
            rw [e, tq_addT (a := 0) (b := 1601) (c := 1) (d := 1) ⟨t1, t2⟩ tk_1 (by decide) (by decide), e1]
          refine tz_be (tw_12_7 g2.1 tc_170 ⟨by omega, by omega⟩) (fun s4 c4 hs4 => ?_)
          have g4 := gS_pf g2 hs4 c4 (by decide) (by decide) (by decide)
          have w7 := fv_pf c4
          have w9 := fv_pf_ne (j := 9) c4 (by decide)
          have w3 := g4.2.1
          exact hk s4 ⟨g4, (fr_pf_v c4 (fun q => absurd q.2.2 (by decide))).1.trans eb2, by omega, by omega, fun w => by omega, fun w => by omega, fun w => by omega, fun w => by omega, fun w => by omega⟩ (by omega)
        refine tz_if _ (fun w => ?_) (fun w => ?_)
        · have w := le_c w
          exact KN s hs eb et (by omega) (by omega) (by omega)
        · have w := nle_c w
          refine tz_bd (gf (tg_12_9 hs.1 tc_170)) (fun n hn => ?_)
          obtain ⟨hn, n1', n2'⟩ := hn
          refine tz_let (fun t293 e293 => ?_)
          have h293 := tq_mul e293 (a := 10) (b := 10) ⟨by decide, by decide⟩ (c := 0) (d := 999) ⟨n1', by omega⟩ (by decide) (by decide) (by decide)
          have v293 : t293.toInt = 10 * n.toInt := by
            rw [e293, Int32.toInt_mul, e10]
            exact tq_bm (by omega) (by omega)
          refine tz_bk et ?_
          refine tz_bk esc ?_
          refine tz_let (fun t302 e302 => tz_let (fun t305 e305 => ?_))
          have v302 : t302.toInt = t293.toInt + c.toInt := by
            rw [e302]
            exact tq_addT (a := 0) (b := 9990) (c := 48) (d := 57) ⟨by omega, by omega⟩ ⟨d1, d2⟩ (by decide) (by decide)
          have v305 : t305.toInt = t302.toInt - 48 := by
            rw [e305, tq_subT (a := 0) (b := 20000) (c := 48) (d := 48) ⟨by omega, by omega⟩ ⟨by decide, by decide⟩ (by decide) (by decide), e48]
          refine tz_be (tw_12_9 hs.1 tc_170 ⟨by omega, by omega⟩) (fun s4 c4 hs4 => ?_)
          have g4 := gS_pf hs hs4 c4 (by decide) (by decide) (by decide)
          have w9 := fv_pf c4
          exact KN s4 g4 ((fr_pf_v c4 (fun q => absurd q.2.2 (by decide))).1.trans eb) ((fr_pf_v c4 (fun q => absurd q.2.2 (by decide))).1.trans et) (fun w => by omega) (fun w => by omega) (fun w => by omega)
    · have c := nlt_c c
      refine tz_be (tw_12_8 hs1 tc_170 ⟨by decide, by decide⟩) (fun s2 c2 hs2 => ?_)
      have g2 := gS_pf g1 hs2 c2 (by decide) (by decide) (by decide)
      refine tz_bk ((fr_pf_v c2 (fun q => absurd q.2.2 (by decide))).1.trans e82) ?_
      have := g1.2.1
      refine tz_be (tw_12_6 hs2 tc_170 ⟨by omega, by omega⟩) (fun s3 c3 hs3 => ?_)
      have g3 := gS_pf g2 hs3 c3 (by decide) (by decide) (by decide)
      refine tz_bk ((fr_pf_v c3 (fun q => absurd q.2.2 (by decide))).1.trans ((fr_pf_v c2 (fun q => absurd q.2.2 (by decide))).1.trans e82)) ?_
      refine tz_be (tw_12_7 hs3 tc_170 ⟨by omega, by omega⟩) (fun s4 c4 hs4 => ?_)
      have g4 := gS_pf g3 hs4 c4 (by decide) (by decide) (by decide)
      have w8 : fv s4 8 = 0 := by rw [fv_pf_ne (j := 8) c4 (by decide), fv_pf_ne (j := 8) c3 (by decide), fv_pf c2, e0]
      have w7 := fv_pf c4
      have w3 := g4.2.1
      exact tz_some ⟨hs4, g4.2.1, g4.2.2.1, g4.2.2.2, Or.inr ⟨w8, by show fv s4 7 = fv s4 3; omega⟩⟩
  unfold z_X12_goOn
  refine tz_bd (tz_ob (a := 170) (ci := 12) hT tc_170) (fun _ _ => ?_)
  refine tz_be (gf (tg_12_7 hT tc_170)) (fun t2 et2 ht2 => ?_)
  obtain ⟨ht2, t1, t2'⟩ := ht2
  refine tz_be (tw_12_6 hT tc_170 ⟨by omega, by omega⟩) (fun s1 c1 hs1 => ?_)
  have g1 : gS p σ s1 := gS_pf ⟨hT, rfl, rfl, tn_0⟩ hs1 c1 (by decide) (by decide) (by decide)
  have q6 := fv_pf c1
  have q7 := fv_pf_ne (j := 7) c1 (by decide)
  refine lpG (fun (k : ez_H → Nat → Option (Unit × ez_H)) (a : ez_H) => k a 170) (fun s => gS p σ s ∧ fv s 7 = fv σ 7 ∧ fv σ 7 ≤ fv s 6 ∧ fv s 6 ≤ fv σ 3) (fun s => (1600 - fv s 6).toNat) ?_ s1 ⟨g1, q7, by omega, by omega⟩ (by show _ < 4294967296; omega)
  rintro k s ⟨hs, h7, h6, h63⟩ hk
  show tz_O _ (z_X12_goOn_8 k s 170)
  unfold z_X12_goOn_8
  refine tz_be (gf (tg_12_6 hs.1 tc_170)) (fun b eb hb => ?_)
  obtain ⟨hb, b1, b2⟩ := hb
  refine tz_bd (gf (tg_12_3 hs.1 tc_170)) (fun t13 h13 => ?_)
  obtain ⟨h13, -, -⟩ := h13
  have hs3 := hs.2.1
  refine tz_if _ (fun _ => K58 s hs h7 h6 h63) (fun c => ?_)
  have c := nle_c c
  have K45 : tz_O (fun z : Unit × ez_H => tp p z.2 ∧ gG σ z.2) (z_X12_goOn_45 k s 170) := by
    unfold z_X12_goOn_45
    refine tz_bk eb ?_
    refine tz_let (fun u e => ?_)
    have hu : u.toInt = b.toInt + 1 := by
      rw [e, tq_addT (a := 0) (b := 1601) (c := 1) (d := 1) ⟨b1, b2⟩ tk_1 (by decide) (by decide), e1]
    refine tz_be (tw_12_6 hs.1 tc_170 ⟨by omega, by omega⟩) (fun s2 c2 hs2 => ?_)
    have g2 := gS_pf hs hs2 c2 (by decide) (by decide) (by decide)
    have w6 := fv_pf c2
    have w7 := fv_pf_ne (j := 7) c2 (by decide)
    exact hk s2 ⟨g2, by omega, by omega, by omega⟩ (by omega)
  refine tz_bk eb ?_
  refine tz_bd (tz_signE hs.1 ⟨b1, b2⟩) (fun _ _ => ?_)
  refine tz_if _ (fun _ => K45) (fun _ => ?_)
  refine tz_bk eb ?_
  refine tz_bd (tz_signE hs.1 ⟨b1, b2⟩) (fun _ _ => ?_)
  exact tz_if _ (fun _ => K45) (fun _ => K58 s hs h7 h6 h63)
theorem tz_X12_goOn {p : tz_P} {σ : ez_H} {h0 : Nat} (hT : tp p σ) (k_h0 : tz_C h0 = some (3, 12, 0, 0)) (hm : pm σ) : tz_O2 (fun (_ : Unit) (s : ez_H) => tp p s ∧ tm σ s ∧ tn σ s) (z_X12_goOn σ h0) := by
  have ha := tz_one12 k_h0
  subst ha
  refine tz_imp (tz_X12_goOnG hT hm) (fun z hz => ?_)
  exact ⟨hz.1, (gG_tm hz.1 hm hz.2).1, hz.2.2.2.1⟩
/-- where something is left to read, there is less of it then -/
theorem tz_goOnS {p : tz_P} {σ : ez_H} {h0 : Nat} (hT : tp p σ) (k_h0 : tz_C h0 = some (3, 12, 0, 0)) (hm : pm σ) : tz_O2 (fun (_ : Unit) (s : ez_H) => tp p s ∧ tm σ s ∧ tn σ s ∧ (¬ fv σ 8 = 0 → M s < M σ)) (z_X12_goOn σ h0) := by
  have ha := tz_one12 k_h0
  subst ha
  refine tz_imp (tz_X12_goOnG hT hm) (fun z hz => ?_)
  have := gG_tm hz.1 hm hz.2
  exact ⟨hz.1, this.1, hz.2.2.2.1, this.2⟩
set_option maxRecDepth 4000 in
theorem tz_X12_isGood {p : tz_P} {σ : ez_H} {h0 : Nat} (hT : tp p σ) (k_h0 : tz_C h0 = some (3, 12, 0, 0)) : tz_O (fun z => tq_iv 0 1 z) (z_X12_isGood σ h0) := by
  unfold z_X12_isGood
  refine tz_bd (tz_ob hT k_h0) (fun _ _ => ?_)
  refine tz_be (tg_12_4 hT k_h0) (fun t_1 e8234 i_t_1 => ?_)
  have K_12 : ∀ (y0_12 : Int32), tq_iv 0 1 y0_12 → (¬ y0_12 = 0 → tq_iv 0 0 t_1) → tz_O (fun (z : Int32) => tq_iv 0 1 z) (z_X12_isGood_12 σ y0_12) := by
    intro y0_12 i_y0_12 g12_y0_12_t_1
    unfold z_X12_isGood_12
    refine tz_nr (tq_nr_boolean i_y0_12) ?_
    exact tz_some i_y0_12
  refine tz_if _ (fun c8233 => ?_) (fun c8233 => ?_)
  ·
    have i1_t_1 : tq_iv 0 0 t_1 := tq_cut (tq_top t_1) (tq_eqL c8233 tk_0) (by decide) (by decide)
    exact K_12 (1 : Int32) (tq_w tk_1 (by decide) (by decide)) (fun _ => i1_t_1)
  ·
    exact K_12 (0 : Int32) (tq_w tk_0 (by decide) (by decide)) (fun h => absurd rfl h)
set_option maxRecDepth 4000 in
theorem tz_X12_isWord {p : tz_P} {σ : ez_H} {h0 : Nat} {x1 : Int64} (hT : tp p σ) (k_h0 : tz_C h0 = some (3, 12, 0, 0)) : tz_O (fun z => tq_iv 0 1 z) (z_X12_isWord σ h0 x1) := by
  unfold z_X12_isWord
  refine tz_bd (tz_ob hT k_h0) (fun _ _ => ?_)
  refine tz_be (tg_12_8 hT k_h0) (fun t_1 e8246 i_t_1 => ?_)
  have K_22 : ∀ (y0_22 : Int32), tq_iv 0 1 y0_22 → (¬ y0_22 = 0 → tq_iv 3 3 t_1) → tz_O (fun (z : Int32) => tq_iv 0 1 z) (z_X12_isWord_22 σ y0_22) := by
    intro y0_22 i_y0_22 g22_y0_22_t_1
    unfold z_X12_isWord_22
    refine tz_nr (tq_nr_boolean i_y0_22) ?_
    exact tz_some i_y0_22
  have K_21 : tz_O (fun (z : Int32) => tq_iv 0 1 z) (z_X12_isWord_21 σ) := by
    unfold z_X12_isWord_21
    exact K_22 (0 : Int32) (tq_w tk_0 (by decide) (by decide)) (fun h => absurd rfl h)
  refine tz_if _ (fun c8245 => ?_) (fun c8245 => ?_)
  ·
    have i1_t_1 : tq_iv 3 3 t_1 := tq_cut i_t_1 (tq_eqL c8245 tk_3) (by decide) (by decide)
    refine tz_be (tg_12_10 hT k_h0) (fun t_9 e8243 _ => ?_)
    refine tz_let (fun t_13 e8242 => ?_)
    have i2_t_13 : tq_iv (-1) 1 t_13 := tq_cmp e8242
    refine tz_if _ (fun c8241 => ?_) (fun c8241 => ?_)
    ·
      have i3_t_13 : tq_iv 0 0 t_13 := tq_cut i2_t_13 (tq_eqL c8241 tk_0) (by decide) (by decide)
      exact K_22 (1 : Int32) (tq_w tk_1 (by decide) (by decide)) (fun _ => i1_t_1)
    ·
      exact K_21 
  ·
    exact K_21
set_option maxRecDepth 4000 in
theorem tz_X12_isLate {p : tz_P} {σ : ez_H} {h0 : Nat} {x1 : Int32} (hT : tp p σ) (k_h0 : tz_C h0 = some (3, 12, 0, 0)) : tz_O (fun z => tq_iv 0 1 z) (z_X12_isLate σ h0 x1) := by
  unfold z_X12_isLate
  refine tz_bd (tz_ob hT k_h0) (fun _ _ => ?_)
  refine tz_bk (tr_21 hT k_h0) ?_
  refine tz_be (tg_12_44 hT k_h0) (fun t_5 e8266 i_t_5 => ?_)
  refine tz_be (tz_iaT (G := tz_Gp p) hT tc_183 i_t_5 (by decide) (by decide)) (fun t_8 e8265 i_t_8 => ?_)
  refine tz_bd (tz_X12_bit hT) (fun t_10 i_t_10 => ?_)
  have K_45 : ∀ (y0_45 : Int32), tq_iv 0 1 y0_45 → tz_O (fun (z : Int32) => tq_iv 0 1 z) (z_X12_isLate_45 σ y0_45) := by
    intro y0_45 i_y0_45
    unfold z_X12_isLate_45
    refine tz_nr (tq_nr_boolean i_y0_45) ?_
    exact tz_some i_y0_45
  have K_40 : tz_O (fun (z : Int32) => tq_iv 0 1 z) (z_X12_isLate_40 σ) := by
    unfold z_X12_isLate_40
    exact K_45 (1 : Int32) (tq_w tk_1 (by decide) (by decide))
  refine tz_if _ (fun c8263 => ?_) (fun c8263 => ?_)
  ·
    have i1_t_10 : tq_iv 0 0 t_10 := tq_cut i_t_10 (tq_eqL c8263 tk_0) (by decide) (by decide)
    refine tz_bk (tr_14 hT k_h0) ?_
    refine tz_ba e8266 (fun t_21 e8260 a8260 => ?_)
    have i2_t_21 : tq_iv 0 1 t_21 := tq_eqL a8260 i_t_5
    refine tz_be (tz_ia hT tc_176 (te_176 (p := p)) i2_t_21 (by decide) (by decide)) (fun t_24 e8259 i_t_24 => ?_)
    refine tz_if _ (fun c8258 => ?_) (fun c8258 => ?_)
    ·
      have i3_t_24 : tq_iv 1 8 t_24 := tq_cut i_t_24 (tq_ltR c8258 tk_0 i_t_24) (by decide) (by decide)
      exact K_40 
    ·
      have i4_t_24 : tq_iv 0 0 t_24 := tq_cut i_t_24 (tq_leL (tq_nlt c8258) i_t_24 tk_0) (by decide) (by decide)
      refine tz_bk (tr_15 hT k_h0) ?_
      refine tz_ba e8266 (fun t_33 e8256 a8256 => ?_)
      have i5_t_33 : tq_iv 0 1 t_33 := tq_eqL a8256 i_t_5
      refine tz_be (tz_ia hT tc_177 (te_177 (p := p)) i5_t_33 (by decide) (by decide)) (fun t_36 e8255 i_t_36 => ?_)
      refine tz_if _ (fun c8254 => ?_) (fun c8254 => ?_)
      ·
        have i6_t_36 : tq_iv 0 0 t_36 := tq_cut i_t_36 (tq_leL c8254 i_t_36 tk_0) (by decide) (by decide)
        exact K_45 (0 : Int32) (tq_w tk_0 (by decide) (by decide))
      ·
        have i7_t_36 : tq_iv 1 6 t_36 := tq_cut i_t_36 (tq_ltR (tq_nle c8254) tk_0 i_t_36) (by decide) (by decide)
        exact K_40 
  ·
    have i8_t_10 : tq_iv 1 1 t_10 := tq_w (tq_neLo c8263 i_t_10 tk_0) (by decide) (by decide)
    exact K_40
set_option maxRecDepth 4000 in
theorem tz_X12_held {p : tz_P} {σ : ez_H} {x0 : Int32} {x1 : Int32} {x2 : Int32} (hT : tp p σ) : tz_O (fun z => tq_iv (-2147483648) 2147483647 z) (z_X12_held σ x0 x1 x2) := by
  unfold z_X12_held
  have K_19 : ∀ (y0_19 : Int32), tz_O (fun (z : Int32) => tq_iv (-2147483648) 2147483647 z) (z_X12_held_19 σ y0_19) := by
    intro y0_19
    unfold z_X12_held_19
    exact tz_some (tq_top y0_19)
  refine tz_if _ (fun c8480 => ?_) (fun c8480 => ?_)
  ·
    refine tz_if _ (fun c8478 => ?_) (fun c8478 => ?_)
    ·
      exact K_19 x0
    ·
      have i1_x2 : tq_iv (-2147483648) 2147483646 x2 := tq_cut (tq_top x2) (tq_ltL (tq_nle c8478) (tq_top x2) (tq_top x0)) (by decide) (by decide)
      have i2_x0 : tq_iv (-2147483647) 2147483647 x0 := tq_cut (tq_top x0) (tq_ltR (tq_nle c8478) (tq_top x2) (tq_top x0)) (by decide) (by decide)
      exact K_19 x2
  ·
    have i3_x0 : tq_iv (-2147483648) 2147483646 x0 := tq_cut (tq_top x0) (tq_ltL (tq_nle c8480) (tq_top x0) (tq_top x1)) (by decide) (by decide)
    have i4_x1 : tq_iv (-2147483647) 2147483647 x1 := tq_cut (tq_top x1) (tq_ltR (tq_nle c8480) (tq_top x0) (tq_top x1)) (by decide) (by decide)
    exact K_19 x1
set_option maxRecDepth 4000 in
theorem tz_X12_isSignHere {p : tz_P} {σ : ez_H} {h0 : Nat} {x1 : Int32} (hT : tp p σ) (k_h0 : tz_C h0 = some (3, 12, 0, 0)) : tz_O (fun z => tq_iv 0 1 z ∧ (¬ z = 0 → tq_iv 0 255 x1)) (z_X12_isSignHere σ h0 x1) := by
  unfold z_X12_isSignHere
  refine tz_bd (tz_ob hT k_h0) (fun _ _ => ?_)
  refine tz_be (tg_12_8 hT k_h0) (fun t_1 e8567 i_t_1 => ?_)
  have K_25 : ∀ (y0_25 : Int32), tq_iv 0 1 y0_25 → (¬ y0_25 = 0 → tq_iv 5 5 t_1) → (¬ y0_25 = 0 → tq_iv 0 255 x1) → tz_O (fun (z : Int32) => tq_iv 0 1 z ∧ (¬ z = 0 → tq_iv 0 255 x1)) (z_X12_isSignHere_25 σ y0_25) := by
    intro y0_25 i_y0_25 g25_y0_25_t_1 g25_y0_25_x1
    unfold z_X12_isSignHere_25
    refine tz_nr (tq_nr_boolean i_y0_25) ?_
    exact tz_some ⟨i_y0_25, (fun h => tq_w (g25_y0_25_x1 h) (by decide) (by decide))⟩
  have K_24 : tz_O (fun (z : Int32) => tq_iv 0 1 z ∧ (¬ z = 0 → tq_iv 0 255 x1)) (z_X12_isSignHere_24 σ) := by
    unfold z_X12_isSignHere_24
    exact K_25 (0 : Int32) (tq_w tk_0 (by decide) (by decide)) (fun h => absurd rfl h) (fun h => absurd rfl h)
  refine tz_if _ (fun c8566 => ?_) (fun c8566 => ?_)
  ·
    have i1_t_1 : tq_iv 5 5 t_1 := tq_cut i_t_1 (tq_eqL c8566 tk_5) (by decide) (by decide)
    refine tz_be (tg_12_6 hT k_h0) (fun t_10 e8564 i_t_10 => ?_)
    refine tz_bd (tz_X12_sign hT k_h0 i_t_10) (fun t_13 i_t_13 => ?_)
    refine tz_if _ (fun c8562 => ?_) (fun c8562 => ?_)
    ·
      have i2_x1 : tq_iv 0 255 x1 := tq_cut (tq_top x1) (tq_eqL (Eq.symm c8562) i_t_13) (by decide) (by decide)
      exact K_25 (1 : Int32) (tq_w tk_1 (by decide) (by decide)) (fun _ => i1_t_1) (fun _ => i2_x1)
    ·
      exact K_24 
  ·
    have i3_t_1 : tq_iv 0 4 t_1 := tq_w (tq_neHi c8566 i_t_1 tk_5) (by decide) (by decide)
    exact K_24
set_option maxRecDepth 4000 in
theorem tz_X12_heldSet {p : tz_P} {σ : ez_H} {h0 : Nat} (hT : tp p σ) (k_h0 : tz_C h0 = some (3, 12, 0, 0)) : tz_O (fun z => tq_iv (-2147483648) 2147483647 z) (z_X12_heldSet σ h0) := by
  unfold z_X12_heldSet
  refine tz_bd (tz_ob hT k_h0) (fun _ _ => ?_)
  have L_4 : ∀ (n_4 : Nat) (k_4 : Nat → Int32 → Int32 → Option (Int32)), (∀ (x1_4 : Int32) (x2_4 : Int32), tq_iv 0 8 x2_4 → (2147483647 - x2_4.toInt).toNat < n_4 → tz_O (fun (z : Int32) => tq_iv (-2147483648) 2147483647 z) (k_4 h0 x1_4 x2_4)) → ∀ (x1_4 : Int32) (x2_4 : Int32), tq_iv 0 8 x2_4 → (2147483647 - x2_4.toInt).toNat < n_4 + 1 → tz_O (fun (z : Int32) => tq_iv (-2147483648) 2147483647 z) (z_X12_heldSet_4 σ k_4 h0 x1_4 x2_4) := by
    intro n_4 k_4 hk_4 x1_4 x2_4 i_x2_4 hn_4
    unfold z_X12_heldSet_4
    refine tz_bk (tr_14 hT k_h0) ?_
    refine tz_be (tg_12_44 hT k_h0) (fun t_10 e8741 i_t_10 => ?_)
    refine tz_be (tz_ia hT tc_176 (te_176 (p := p)) i_t_10 (by decide) (by decide)) (fun t_13 e8740 i_t_13 => ?_)
    refine tz_if _ (fun c8739 => ?_) (fun c8739 => ?_)
    ·
      exact tz_some (tq_top x1_4)
    ·
      have i1_x2_4 : tq_iv 0 7 x2_4 := tq_cut i_x2_4 (tq_ltL (tq_nle c8739) i_x2_4 i_t_13) (by decide) (by decide)
      have i2_t_13 : tq_iv 1 8 t_13 := tq_cut i_t_13 (tq_ltR (tq_nle c8739) i_x2_4 i_t_13) (by decide) (by decide)
      refine tz_bk (tr_28 hT k_h0) ?_
      refine tz_ba e8741 (fun t_24 e8737 a8737 => ?_)
      have i3_t_24 : tq_iv 0 1 t_24 := tq_eqL a8737 i_t_10
      refine tz_let (fun t_27 e8736 => ?_)
      have i4_t_27 : tq_iv 0 8 t_27 := tq_w (tq_mul e8736 tk_8 i3_t_24 (by decide) (by decide) (by decide)) (by decide) (by decide)
      refine tz_let (fun t_29 e8735 => ?_)
      have i5_t_29 : tq_iv 0 15 t_29 := tq_w (tq_add e8735 i4_t_27 i1_x2_4 (by decide) (by decide)) (by decide) (by decide)
      refine tz_be (tz_ia hT tc_190 (te_190 (p := p)) i5_t_29 (by decide) (by decide)) (fun t_30 e8734 i_t_30 => ?_)
      have K_40 : ∀ (x1_40 : Int32), tz_O (fun (z : Int32) => tq_iv (-2147483648) 2147483647 z) (z_X12_heldSet_40 σ k_4 h0 x1_40 x2_4) := by
        intro x1_40
        unfold z_X12_heldSet_40
        refine tz_let (fun t_40 e8727 => ?_)
        have i6_t_40 : tq_iv 1 8 t_40 := tq_w (tq_add e8727 i1_x2_4 tk_1 (by decide) (by decide)) (by decide) (by decide)
        exact hk_4 x1_40 t_40 (tq_w i6_t_40 (by decide) (by decide)) (tq_up e8727 i1_x2_4 tk_1 (by decide) (by decide) hn_4)
      refine tz_if _ (fun c8733 => ?_) (fun c8733 => ?_)
      ·
        have i7_t_30 : tq_iv (-1) (-1) t_30 := tq_cut i_t_30 (tq_ltL c8733 i_t_30 tk_0) (by decide) (by decide)
        exact K_40 x1_4
      ·
        have i8_t_30 : tq_iv 0 3 t_30 := tq_cut i_t_30 (tq_leR (tq_nlt c8733) tk_0 i_t_30) (by decide) (by decide)
        refine tz_let (fun t_37 e8732 => ?_)
        have i9_t_37 : tq_iv 1 128 t_37 := tq_shl1 e8732 i1_x2_4 (by decide) (by decide) (by decide) (by decide)
        refine tz_let (fun t_38 e8731 => ?_)
        exact K_40 t_38
  have E_4 : ∀ (x1_4 : Int32) (x2_4 : Int32), tq_iv 0 8 x2_4 → tz_O (fun (z : Int32) => tq_iv (-2147483648) 2147483647 z) (ez_fix (fun _ _ _ => none) (z_X12_heldSet_4 σ) ez_N h0 x1_4 x2_4) := by
    intro x1_4 x2_4 i_x2_4
    exact ez_fix_indn (fun n_4 (k_4 : Nat → Int32 → Int32 → Option (Int32)) => ∀ (x1_4 : Int32) (x2_4 : Int32), tq_iv 0 8 x2_4 → (2147483647 - x2_4.toInt).toNat < n_4 → tz_O (fun (z : Int32) => tq_iv (-2147483648) 2147483647 z) (k_4 h0 x1_4 x2_4)) (by intros; rename_i h; exact absurd h (Nat.not_lt_zero _)) L_4 ez_N x1_4 x2_4 i_x2_4 (tq_m0 x2_4)
  exact E_4 (0 : Int32) (0 : Int32) (tq_w tk_0 (by decide) (by decide))
set_option maxRecDepth 4000 in
theorem tz_X12_rank {p : tz_P} {σ : ez_H} {h0 : Nat} {x1 : Int32} (hT : tp p σ) (k_h0 : tz_C h0 = some (3, 12, 0, 0)) : tz_O (fun z => tq_iv (-2147483648) 2147483647 z) (z_X12_rank σ h0 x1) := by
  unfold z_X12_rank
  refine tz_bd (tz_ob hT k_h0) (fun _ _ => ?_)
  refine tz_bd (tz_X12_isLegal hT k_h0) (fun t_2 ⟨i_t_2, g_t_2⟩ => ?_)
  refine tz_if _ (fun c9277 => ?_) (fun c9277 => ?_)
  ·
    have i1_t_2 : tq_iv 0 0 t_2 := tq_cut i_t_2 (tq_eqL c9277 tk_0) (by decide) (by decide)
    exact tz_some (tq_top (-1 : Int32))
  ·
    have i2_x1 : tq_iv 0 7775 x1 := tq_cut (tq_top x1) (g_t_2 c9277) (by decide) (by decide)
    have i3_t_2 : tq_iv 1 1 t_2 := tq_w (tq_neLo c9277 i_t_2 tk_0) (by decide) (by decide)
    have L_14 : ∀ (n_14 : Nat) (k_14 : Nat → Int32 → Int32 → Int32 → Option (Int32)), (∀ (x2_14 : Int32) (x3_14 : Int32), tq_iv 0 7775 x3_14 → (2147483647 - x3_14.toInt).toNat < n_14 → tz_O (fun (z : Int32) => tq_iv (-2147483648) 2147483647 z) (k_14 h0 x1 x2_14 x3_14)) → ∀ (x2_14 : Int32) (x3_14 : Int32), tq_iv 0 7775 x3_14 → (2147483647 - x3_14.toInt).toNat < n_14 + 1 → tz_O (fun (z : Int32) => tq_iv (-2147483648) 2147483647 z) (z_X12_rank_14 σ k_14 h0 x1 x2_14 x3_14) := by
      intro n_14 k_14 hk_14 x2_14 x3_14 i_x3_14 hn_14
      unfold z_X12_rank_14
      refine tz_if _ (fun c9274 => ?_) (fun c9274 => ?_)
      ·
        exact tz_some (tq_top x2_14)
      ·
        have i4_x3_14 : tq_iv 0 7774 x3_14 := tq_cut i_x3_14 (tq_ltL (tq_nle c9274) i_x3_14 i2_x1) (by decide) (by decide)
        have i5_x1 : tq_iv 1 7775 x1 := tq_cut i2_x1 (tq_ltR (tq_nle c9274) i_x3_14 i2_x1) (by decide) (by decide)
        refine tz_bd (tz_X12_isLegal hT k_h0) (fun t_21 ⟨i_t_21, g_t_21⟩ => ?_)
        have K_30 : ∀ (x2_30 : Int32), tz_O (fun (z : Int32) => tq_iv (-2147483648) 2147483647 z) (z_X12_rank_30 σ k_14 h0 x1 x2_30 x3_14) := by
          intro x2_30
          unfold z_X12_rank_30
          refine tz_let (fun t_30 e9267 => ?_)
          have i6_t_30 : tq_iv 1 7775 t_30 := tq_w (tq_add e9267 i4_x3_14 tk_1 (by decide) (by decide)) (by decide) (by decide)
          exact hk_14 x2_30 t_30 (tq_w i6_t_30 (by decide) (by decide)) (tq_up e9267 i4_x3_14 tk_1 (by decide) (by decide) hn_14)
        refine tz_if _ (fun c9272 => ?_) (fun c9272 => ?_)
        ·
          have i7_t_21 : tq_iv 0 0 t_21 := tq_cut i_t_21 (tq_eqL c9272 tk_0) (by decide) (by decide)
          exact K_30 x2_14
        ·
          have i8_t_21 : tq_iv 1 1 t_21 := tq_w (tq_neLo c9272 i_t_21 tk_0) (by decide) (by decide)
          refine tz_let (fun t_27 e9271 => ?_)
          exact K_30 t_27
    have E_14 : ∀ (x2_14 : Int32) (x3_14 : Int32), tq_iv 0 7775 x3_14 → tz_O (fun (z : Int32) => tq_iv (-2147483648) 2147483647 z) (ez_fix (fun _ _ _ _ => none) (z_X12_rank_14 σ) ez_N h0 x1 x2_14 x3_14) := by
      intro x2_14 x3_14 i_x3_14
      exact ez_fix_indn (fun n_14 (k_14 : Nat → Int32 → Int32 → Int32 → Option (Int32)) => ∀ (x2_14 : Int32) (x3_14 : Int32), tq_iv 0 7775 x3_14 → (2147483647 - x3_14.toInt).toNat < n_14 → tz_O (fun (z : Int32) => tq_iv (-2147483648) 2147483647 z) (k_14 h0 x1 x2_14 x3_14)) (by intros; rename_i h; exact absurd h (Nat.not_lt_zero _)) L_14 ez_N x2_14 x3_14 i_x3_14 (tq_m0 x3_14)
    exact E_14 (0 : Int32) (0 : Int32) (tq_w tk_0 (by decide) (by decide))
set_option maxRecDepth 4000 in
theorem tz_X12_recut {p : tz_P} {σ : ez_H} {h0 : Nat} {x1 : Int32} {x2 : Int32} (hT : tp p σ) (k_h0 : tz_C h0 = some (3, 12, 0, 0)) : tz_O2 (fun (z : Int32) (s : ez_H) => tq_iv (-2147483648) 2147483647 z ∧ (tp p s ∨ tp (kp p) s)) (z_X12_recut σ h0 x1 x2) := by
  show tz_O (fun z : Int32 × ez_H => (fun (z : Int32) (s : ez_H) => tq_iv (-2147483648) 2147483647 z ∧ (tp p s ∨ tp (kp p) s)) z.1 z.2) _
  unfold z_X12_recut
  refine tz_bd (tz_ob hT k_h0) (fun _ _ => ?_)
  refine tz_bd (tz_X12_isKey hT k_h0) (fun t_2 ⟨i_t_2, g_t_2⟩ => ?_)
  have K_16 : tz_O (fun z : Int32 × ez_H => (fun (z : Int32) (s : ez_H) => tq_iv (-2147483648) 2147483647 z ∧ (tp p s ∨ tp (kp p) s)) z.1 z.2) (z_X12_recut_16 σ) := by
    unfold z_X12_recut_16
    exact tz_some ⟨(tq_top (-1 : Int32)), (Or.inl hT)⟩
  refine tz_if _ (fun c9292 => ?_) (fun c9292 => ?_)
  ·
    have i1_t_2 : tq_iv 0 0 t_2 := tq_cut i_t_2 (tq_eqL c9292 tk_0) (by decide) (by decide)
    exact K_16 
  ·
    have i2_x1 : tq_iv 0 7 x1 := tq_cut (tq_top x1) (g_t_2 c9292) (by decide) (by decide)
    have i3_t_2 : tq_iv 1 1 t_2 := tq_w (tq_neLo c9292 i_t_2 tk_0) (by decide) (by decide)
    refine tz_bd (tz_X12_isLegal hT k_h0) (fun t_10 ⟨i_t_10, g_t_10⟩ => ?_)
    refine tz_if _ (fun c9290 => ?_) (fun c9290 => ?_)
    ·
      have i4_t_10 : tq_iv 0 0 t_10 := tq_cut i_t_10 (tq_eqL c9290 tk_0) (by decide) (by decide)
      exact K_16 
    ·
      have i5_x2 : tq_iv 0 7775 x2 := tq_cut (tq_top x2) (g_t_10 c9290) (by decide) (by decide)
      have i6_t_10 : tq_iv 1 1 t_10 := tq_w (tq_neLo c9290 i_t_10 tk_0) (by decide) (by decide)
      refine tz_b2 (tz_X12_keepAct hT k_h0) (fun _ σ9289 T9289 => ?_)
      refine tz_bd (tz_X12_numberOf T9289 k_h0 i2_x1) (fun t_24 i_t_24 => ?_)
      refine tz_b2 (tz_X12_cutAnew T9289 k_h0 i2_x1 i5_x2) (fun _ σ9287 T9287 => ?_)
      refine tz_bk (tr_53 T9287 k_h0) ?_
      refine tz_let (fun t_41 e9285 => ?_)
      have i7_t_41 : tq_iv 40 47 t_41 := tq_w (tq_add e9285 tk_40 i2_x1 (by decide) (by decide)) (by decide) (by decide)
      refine tz_be (tz_isS T9287 tc_205 (tS_205 (p := (kp p)) 40 47 (-2147483648) 2147483647 (by decide)) i7_t_41 (by decide) (by decide) (tq_top (0 : Int32))) (fun σ9284 e9284 T9284 => ?_)
      exact tz_some ⟨(tq_top t_24), (Or.inr T9284)⟩
theorem tz_X12_swapAll {p : tz_P} {σ : ez_H} {h0 : Nat} (hT : tp p σ) (k_h0 : tz_C h0 = some (3, 12, 0, 0)) : tz_O2 (fun (z : Unit) (s : ez_H) => tp p s ∧ ez_gi s 12 h0 61 = ez_gi σ 12 h0 61) (z_X12_swapAll σ h0) := by
  unfold z_X12_swapAll
  refine tz_bd (tz_ob hT k_h0) (fun _ _ => ?_)
  refine lpG (fun (k : ez_H → Nat → Int32 → Option (Unit × ez_H)) (a : ez_H × Int32) => k a.1 h0 a.2) (fun a => tp p a.1 ∧ ez_gi a.1 12 h0 61 = ez_gi σ 12 h0 61 ∧ 0 ≤ a.2.toInt ∧ a.2.toInt ≤ 91) (fun a => (2147483647 - a.2.toInt).toNat) ?_ (σ, 0) ⟨hT, rfl, i00, i0n (by decide)⟩ (tq_m0 _)
  rintro k ⟨s, x⟩ ⟨hs, hf, h1, h2⟩ hk
  have hs : tp p s := hs
  have h1 : 0 ≤ x.toInt := h1
  show tz_O _ (z_X12_swapAll_2 k s h0 x)
  unfold z_X12_swapAll_2
  refine tz_if _ (fun _ => tz_some ⟨hs, hf⟩) (fun c => ?_)
  have c := nle_c c
  have e91 := c91
  refine tz_bk (tr_59 hs k_h0) ?_
  refine tz_be (tg_12_60 hs k_h0) (fun a ea ia => ?_)
  refine tz_let (fun t18 e18 => tz_let (fun t20 e20 => ?_))
  have h20 := tq_91 e18 e20 ia h1 (by omega)
  obtain ⟨ia1, ia2⟩ := id ia
  refine tz_bd (rd_210 (k := x.toInt.toNat) hs (by omega) (by omega) (by omega)) (fun v hv => ?_)
  refine tz_bk (tr_59 hs k_h0) ?_
  refine tz_bk ea ?_
  refine tz_let (fun t33 e33 => tz_let (fun t35 e35 => ?_))
  have h35 := tq_91 e33 e35 ia h1 (by omega)
  refine tz_bk (tr_53 hs k_h0) ?_
  refine tz_bd (rd_205 hs h1 (by omega)) (fun w hw => ?_)
  refine tz_be (wr_210 hs (by omega) (by omega) (by omega) hw) (fun s2 es2 hs2 => ?_)
  refine tz_bk (tr_53 hs2 k_h0) ?_
  refine tz_be (wr_205 hs2 h1 (by omega) hv) (fun s3 es3 hs3 => ?_)
  refine tz_let (fun t e => ?_)
  have ht := tq_inc e h1 (by omega)
  exact hk (s3, t) ⟨hs3, (fr_is_gi es3).trans ((fr_is_gi es2).trans hf), by show 0 ≤ t.toInt; omega, by show t.toInt ≤ 91; omega⟩ (by show (2147483647 - t.toInt).toNat < (2147483647 - x.toInt).toNat; omega)
theorem tz_X12_redo {p : tz_P} {σ : ez_H} {h0 : Nat} (hT : tp p σ) (k_h0 : tz_C h0 = some (3, 12, 0, 0)) (hpq : p.1 4 + p.1 5 ≤ 40) : tz_O2 (fun (z : Int32) (s : ez_H) => tp p s ∨ tp (up (up p 4 (p.1 4 + 1)) 5 (p.1 5 - 1)) s) (z_X12_redo σ h0) := by
  have e0 : (0 : Int32).toInt = 0 := by decide
  have e1 : (1 : Int32).toInt = 1 := by decide
  have g4 := hT.1.2.2.2.2.1
  have g5 := hT.1.2.2.2.2.2.1
  unfold z_X12_redo
  refine tz_bd (tz_ob hT k_h0) (fun _ _ => ?_)
  refine tz_be (tz_gi hT k_h0 (tf_12_61 (p := p))) (fun t1 et1 i1 => ?_)
  obtain ⟨j1, j2⟩ := i1
  refine tz_if _ (fun _ => tz_some (Or.inl hT)) (fun c => ?_)
  have c := ne_c c
  refine tz_b2 (tz_X12_swapAll hT k_h0) (fun _ s1 hs => ?_)
  obtain ⟨hs1, hf⟩ := hs
  refine tz_bd (tz_gi hs1 k_h0 (tf_12_60 (p := p))) (fun t15 i15 => ?_)
  obtain ⟨l1, l2⟩ := i15
  refine tz_let (fun t19 e19 => ?_)
  have h19 := tq_addT (x := t15) (a := 0) (b := 40) ⟨by omega, by omega⟩ tk_1 (by decide) (by decide)
  rw [← e19] at h19
  refine tz_be (tz_up4 (v := p.1 4 + 1) hs1 k_h0 (by omega) (by omega) (by omega)) (fun s2 es2 hs2 => ?_)
  refine tz_bk ((fr_pf_v es2 (fun h => absurd h.2.2 (by decide))).1.trans (hf.trans et1)) ?_
  refine tz_let (fun t29 e29 => ?_)
  have h29 := tq_subT (x := t1) (a := 0) (b := 40) ⟨by omega, by omega⟩ tk_1 (by decide) (by decide)
  rw [← e29] at h29
  refine tz_bd (tz_up5 (v := p.1 5 - 1) hs2 k_h0 (by omega) (by omega) (by omega)) (fun s3 hs3 => ?_)
  exact tz_some (Or.inr hs3)
set_option maxRecDepth 4000 in
theorem tz_X12_doorsTo {p : tz_P} {σ : ez_H} {h0 : Nat} {x1 : Int32} {x2 : Int32} {x3 : Int32} (hT : tp p σ) (k_h0 : tz_C h0 = some (3, 12, 0, 0)) : tz_O (fun z => tq_iv 0 100000 z) (z_X12_doorsTo σ h0 x1 x2 x3) := by
  unfold z_X12_doorsTo
  refine tz_bd (tz_ob hT k_h0) (fun _ _ => ?_)
  refine tz_let (fun t_2 e9362 => ?_)
  have L_8 : ∀ (n_8 : Nat) (k_8 : Nat → Int32 → Int32 → Int32 → Int32 → Option (Int32)), (∀ (x4_8 : Int32) (x5_8 : Int32), tq_iv 0 7 x5_8 → (2147483647 - x5_8.toInt).toNat < n_8 → tz_O (fun (z : Int32) => tq_iv 0 100000 z) (k_8 h0 x2 x3 x4_8 x5_8)) → ∀ (x4_8 : Int32) (x5_8 : Int32), tq_iv 0 7 x5_8 → (2147483647 - x5_8.toInt).toNat < n_8 + 1 → tz_O (fun (z : Int32) => tq_iv 0 100000 z) (z_X12_doorsTo_8 σ k_8 h0 x2 x3 x4_8 x5_8) := by
    intro n_8 k_8 hk_8 x4_8 x5_8 i_x5_8 hn_8
    unfold z_X12_doorsTo_8
    refine tz_if _ (fun c9360 => ?_) (fun c9360 => ?_)
    ·
      have i1_x5_8 : tq_iv 7 7 x5_8 := tq_cut i_x5_8 (tq_ltR c9360 tk_6 i_x5_8) (by decide) (by decide)
      exact tz_some (tq_w tk_100000 (by decide) (by decide))
    ·
      have i2_x5_8 : tq_iv 0 6 x5_8 := tq_cut i_x5_8 (tq_leL (tq_nlt c9360) i_x5_8 tk_6) (by decide) (by decide)
      refine tz_bd (tz_X12_bit hT) (fun t_18 i_t_18 => ?_)
      refine tz_if _ (fun c9358 => ?_) (fun c9358 => ?_)
      ·
        have i3_t_18 : tq_iv 0 0 t_18 := tq_cut i_t_18 (tq_eqL c9358 tk_0) (by decide) (by decide)
        have L_34 : ∀ (n_34 : Nat) (k_34 : Nat → Int32 → Int32 → Int32 → Int32 → Int32 → Int32 → Option (Int32)), (∀ (x6_34 : Int32) (x7_34 : Int32), tq_iv 0 8 x7_34 → (2147483647 - x7_34.toInt).toNat < n_34 → tz_O (fun (z : Int32) => tq_iv 0 100000 z) (k_34 h0 x2 x3 x4_8 x5_8 x6_34 x7_34)) → ∀ (x6_34 : Int32) (x7_34 : Int32), tq_iv 0 8 x7_34 → (2147483647 - x7_34.toInt).toNat < n_34 + 1 → tz_O (fun (z : Int32) => tq_iv 0 100000 z) (z_X12_doorsTo_34 σ k_8 k_34 h0 x2 x3 x4_8 x5_8 x6_34 x7_34) := by
          intro n_34 k_34 hk_34 x6_34 x7_34 i_x7_34 hn_34
          unfold z_X12_doorsTo_34
          refine tz_bk (tr_17 hT k_h0) ?_
          refine tz_be (tg_12_43 hT k_h0) (fun t_41 e9353 i_t_41 => ?_)
          refine tz_be (tz_ia hT tc_179 (te_179 (p := p)) i_t_41 (by decide) (by decide)) (fun t_44 e9352 i_t_44 => ?_)
          refine tz_if _ (fun c9351 => ?_) (fun c9351 => ?_)
          ·
            refine tz_let (fun t_120 e9330 => ?_)
            have i4_t_120 : tq_iv 1 7 t_120 := tq_w (tq_add e9330 i2_x5_8 tk_1 (by decide) (by decide)) (by decide) (by decide)
            exact hk_8 x6_34 t_120 (tq_w i4_t_120 (by decide) (by decide)) (tq_up e9330 i2_x5_8 tk_1 (by decide) (by decide) hn_8)
          ·
            have i5_x7_34 : tq_iv 0 7 x7_34 := tq_cut i_x7_34 (tq_ltL (tq_nle c9351) i_x7_34 i_t_44) (by decide) (by decide)
            have i6_t_44 : tq_iv 1 8 t_44 := tq_cut i_t_44 (tq_ltR (tq_nle c9351) i_x7_34 i_t_44) (by decide) (by decide)
            refine tz_ba e9353 (fun t_51 e9350 a9350 => ?_)
            have i7_t_51 : tq_iv 0 1 t_51 := tq_eqL a9350 i_t_41
            refine tz_let (fun t_54 e9349 => ?_)
            have i8_t_54 : tq_iv 0 8 t_54 := tq_w (tq_mul e9349 tk_8 i7_t_51 (by decide) (by decide) (by decide)) (by decide) (by decide)
            refine tz_let (fun t_57 e9348 => ?_)
            have i9_t_57 : tq_iv 0 15 t_57 := tq_w (tq_add e9348 i8_t_54 i5_x7_34 (by decide) (by decide)) (by decide) (by decide)
            refine tz_bk (tr_24 hT k_h0) ?_
            refine tz_be (tz_ia hT tc_186 (te_186 (p := p)) i9_t_57 (by decide) (by decide)) (fun t_67 e9346 i_t_67 => ?_)
            refine tz_let (fun t_68 e9345 => ?_)
            have i10_t_68 : tq_iv 1 32 t_68 := tq_shl1 e9345 i_t_67 (by decide) (by decide) (by decide) (by decide)
            refine tz_bk (tr_25 hT k_h0) ?_
            refine tz_be (tz_ia hT tc_187 (te_187 (p := p)) i9_t_57 (by decide) (by decide)) (fun t_76 e9343 i_t_76 => ?_)
            refine tz_let (fun t_77 e9342 => ?_)
            have i11_t_77 : tq_iv 1 32 t_77 := tq_shl1 e9342 i_t_76 (by decide) (by decide) (by decide) (by decide)
            refine tz_let (fun t_78 e9341 => ?_)
            have i12_t_78 : tq_iv 0 63 t_78 := tq_or e9341 i10_t_68 i11_t_77 6 (by decide) (by decide) (by decide) (by decide) (by decide)
            refine tz_bk (tr_26 hT k_h0) ?_
            refine tz_be (tz_ia hT tc_188 (te_188 (p := p)) i9_t_57 (by decide) (by decide)) (fun t_88 e9339 i_t_88 => ?_)
            refine tz_bd (tz_X12_bit hT) (fun t_89 i_t_89 => ?_)
            have K_110 : ∀ (x6_110 : Int32), tz_O (fun (z : Int32) => tq_iv 0 100000 z) (z_X12_doorsTo_110 σ k_8 k_34 h0 x2 x3 x4_8 x5_8 x6_110 x7_34) := by
              intro x6_110
              unfold z_X12_doorsTo_110
              refine tz_let (fun t_110 e9328 => ?_)
              have i13_t_110 : tq_iv 1 8 t_110 := tq_w (tq_add e9328 i5_x7_34 tk_1 (by decide) (by decide)) (by decide) (by decide)
              exact hk_34 x6_110 t_110 (tq_w i13_t_110 (by decide) (by decide)) (tq_up e9328 i5_x7_34 tk_1 (by decide) (by decide) hn_34)
            refine tz_if _ (fun c9337 => ?_) (fun c9337 => ?_)
            ·
              have i14_t_89 : tq_iv 0 0 t_89 := tq_cut i_t_89 (tq_eqL c9337 tk_0) (by decide) (by decide)
              exact K_110 x6_34
            ·
              have i15_t_89 : tq_iv 1 1 t_89 := tq_w (tq_neLo c9337 i_t_89 tk_0) (by decide) (by decide)
              refine tz_let (fun t_99 e9336 => ?_)
              have i16_t_99 : tq_iv 0 63 t_99 := tq_and2 e9336 i12_t_78 (by decide)
              refine tz_if _ (fun c9335 => ?_) (fun c9335 => ?_)
              ·
                have i17_t_99 : tq_iv 0 0 t_99 := tq_cut i16_t_99 (tq_eqL c9335 tk_0) (by decide) (by decide)
                exact K_110 x6_34
              ·
                have i18_t_99 : tq_iv 1 63 t_99 := tq_w (tq_neLo c9335 i16_t_99 tk_0) (by decide) (by decide)
                refine tz_let (fun t_107 e9334 => ?_)
                exact K_110 t_107
        have E_34 : ∀ (x6_34 : Int32) (x7_34 : Int32), tq_iv 0 8 x7_34 → tz_O (fun (z : Int32) => tq_iv 0 100000 z) (ez_fix (fun _ _ _ _ _ _ _ => none) (z_X12_doorsTo_34 σ k_8) ez_N h0 x2 x3 x4_8 x5_8 x6_34 x7_34) := by
          intro x6_34 x7_34 i_x7_34
          exact ez_fix_indn (fun n_34 (k_34 : Nat → Int32 → Int32 → Int32 → Int32 → Int32 → Int32 → Option (Int32)) => ∀ (x6_34 : Int32) (x7_34 : Int32), tq_iv 0 8 x7_34 → (2147483647 - x7_34.toInt).toNat < n_34 → tz_O (fun (z : Int32) => tq_iv 0 100000 z) (k_34 h0 x2 x3 x4_8 x5_8 x6_34 x7_34)) (by intros; rename_i h; exact absurd h (Nat.not_lt_zero _)) L_34 ez_N x6_34 x7_34 i_x7_34 (tq_m0 x7_34)
        exact E_34 x4_8 (0 : Int32) (tq_w tk_0 (by decide) (by decide))
      ·
        have i19_t_18 : tq_iv 1 1 t_18 := tq_w (tq_neLo c9358 i_t_18 tk_0) (by decide) (by decide)
        exact tz_some (tq_w i2_x5_8 (by decide) (by decide))
  have E_8 : ∀ (x4_8 : Int32) (x5_8 : Int32), tq_iv 0 7 x5_8 → tz_O (fun (z : Int32) => tq_iv 0 100000 z) (ez_fix (fun _ _ _ _ _ => none) (z_X12_doorsTo_8 σ) ez_N h0 x2 x3 x4_8 x5_8) := by
    intro x4_8 x5_8 i_x5_8
    exact ez_fix_indn (fun n_8 (k_8 : Nat → Int32 → Int32 → Int32 → Int32 → Option (Int32)) => ∀ (x4_8 : Int32) (x5_8 : Int32), tq_iv 0 7 x5_8 → (2147483647 - x5_8.toInt).toNat < n_8 → tz_O (fun (z : Int32) => tq_iv 0 100000 z) (k_8 h0 x2 x3 x4_8 x5_8)) (by intros; rename_i h; exact absurd h (Nat.not_lt_zero _)) L_8 ez_N x4_8 x5_8 i_x5_8 (tq_m0 x5_8)
  exact E_8 t_2 (0 : Int32) (tq_w tk_0 (by decide) (by decide))
set_option maxRecDepth 4000 in
theorem tz_X12_otherSide {p : tz_P} {σ : ez_H} {h0 : Nat} {x1 : Int32} {x2 : Int32} (hT : tp p σ) (k_h0 : tz_C h0 = some (3, 12, 0, 0)) (i_x1 : tq_iv 0 7 x1) : tz_O (fun z => tq_iv (-1) 5 z) (z_X12_otherSide σ h0 x1 x2) := by
  unfold z_X12_otherSide
  refine tz_bd (tz_ob hT k_h0) (fun _ _ => ?_)
  refine tz_be (tg_12_43 hT k_h0) (fun t_3 e9380 i_t_3 => ?_)
  refine tz_let (fun t_6 e9379 => ?_)
  have i1_t_6 : tq_iv 0 8 t_6 := tq_w (tq_mul e9379 tk_8 i_t_3 (by decide) (by decide) (by decide)) (by decide) (by decide)
  refine tz_let (fun t_8 e9378 => ?_)
  have i2_t_8 : tq_iv 0 15 t_8 := tq_w (tq_add e9378 i1_t_6 i_x1 (by decide) (by decide)) (by decide) (by decide)
  refine tz_bk (tr_24 hT k_h0) ?_
  refine tz_be (tz_ia hT tc_186 (te_186 (p := p)) i2_t_8 (by decide) (by decide)) (fun t_15 e9376 i_t_15 => ?_)
  have K_49 : ∀ (y0_49 : Int32), tq_iv (-1) 5 y0_49 → tz_O (fun (z : Int32) => tq_iv (-1) 5 z) (z_X12_otherSide_49 σ y0_49) := by
    intro y0_49 i_y0_49
    unfold z_X12_otherSide_49
    exact tz_some i_y0_49
  refine tz_if _ (fun c9375 => ?_) (fun c9375 => ?_)
  ·
    have i3_x2 : tq_iv 0 5 x2 := tq_cut (tq_top x2) (tq_eqL (Eq.symm c9375) i_t_15) (by decide) (by decide)
    refine tz_bk (tr_25 hT k_h0) ?_
    refine tz_be (tz_ia hT tc_187 (te_187 (p := p)) i2_t_8 (by decide) (by decide)) (fun t_25 e9366 i_t_25 => ?_)
    exact K_49 t_25 (tq_w i_t_25 (by decide) (by decide))
  ·
    refine tz_bk (tr_25 hT k_h0) ?_
    refine tz_be (tz_ia hT tc_187 (te_187 (p := p)) i2_t_8 (by decide) (by decide)) (fun t_34 e9373 i_t_34 => ?_)
    refine tz_if _ (fun c9372 => ?_) (fun c9372 => ?_)
    ·
      have i4_x2 : tq_iv 0 5 x2 := tq_cut (tq_top x2) (tq_eqL (Eq.symm c9372) i_t_34) (by decide) (by decide)
      refine tz_bk (tr_24 hT k_h0) ?_
      refine tz_ba e9376 (fun t_44 e9369 a9369 => ?_)
      have i5_t_44 : tq_iv 0 5 t_44 := tq_eqL a9369 i_t_15
      exact K_49 t_44 (tq_w i5_t_44 (by decide) (by decide))
    ·
      exact K_49 (-1 : Int32) (tq_w tk_m1 (by decide) (by decide))
set_option maxRecDepth 4000 in
theorem tz_X12_span {p : tz_P} {σ : ez_H} {h0 : Nat} {x1 : Int32} {x2 : Int32} (hT : tp p σ) (k_h0 : tz_C h0 = some (3, 12, 0, 0)) : tz_O (fun z => tq_iv (-2147483648) 2147483647 z) (z_X12_span σ h0 x1 x2) := by
  unfold z_X12_span
  refine tz_bd (tz_ob hT k_h0) (fun _ _ => ?_)
  refine tz_bd (tz_X12_isKey hT k_h0) (fun t_2 ⟨i_t_2, g_t_2⟩ => ?_)
  have K_16 : tz_O (fun (z : Int32) => tq_iv (-2147483648) 2147483647 z) (z_X12_span_16 σ) := by
    unfold z_X12_span_16
    exact tz_some (tq_top (-1 : Int32))
  refine tz_if _ (fun c9447 => ?_) (fun c9447 => ?_)
  ·
    have i1_t_2 : tq_iv 0 0 t_2 := tq_cut i_t_2 (tq_eqL c9447 tk_0) (by decide) (by decide)
    exact K_16 
  ·
    have i2_x1 : tq_iv 0 7 x1 := tq_cut (tq_top x1) (g_t_2 c9447) (by decide) (by decide)
    have i3_t_2 : tq_iv 1 1 t_2 := tq_w (tq_neLo c9447 i_t_2 tk_0) (by decide) (by decide)
    refine tz_bd (tz_X12_isKey hT k_h0) (fun t_10 ⟨i_t_10, g_t_10⟩ => ?_)
    refine tz_if _ (fun c9445 => ?_) (fun c9445 => ?_)
    ·
      have i4_t_10 : tq_iv 0 0 t_10 := tq_cut i_t_10 (tq_eqL c9445 tk_0) (by decide) (by decide)
      exact K_16 
    ·
      have i5_x2 : tq_iv 0 7 x2 := tq_cut (tq_top x2) (g_t_10 c9445) (by decide) (by decide)
      have i6_t_10 : tq_iv 1 1 t_10 := tq_w (tq_neLo c9445 i_t_10 tk_0) (by decide) (by decide)
      have L_23 : ∀ (n_23 : Nat) (k_23 : Nat → Int32 → Int32 → Int32 → Int32 → Option (Int32)), (∀ (x3_23 : Int32) (x4_23 : Int32), tq_iv 0 5 x4_23 → (2147483647 - x4_23.toInt).toNat < n_23 → tz_O (fun (z : Int32) => tq_iv (-2147483648) 2147483647 z) (k_23 h0 x1 x2 x3_23 x4_23)) → ∀ (x3_23 : Int32) (x4_23 : Int32), tq_iv 0 5 x4_23 → (2147483647 - x4_23.toInt).toNat < n_23 + 1 → tz_O (fun (z : Int32) => tq_iv (-2147483648) 2147483647 z) (z_X12_span_23 σ k_23 h0 x1 x2 x3_23 x4_23) := by
        intro n_23 k_23 hk_23 x3_23 x4_23 i_x4_23 hn_23
        unfold z_X12_span_23
        refine tz_bd (tz_X12_wide hT k_h0) (fun t_26 i_t_26 => ?_)
        refine tz_if _ (fun c9440 => ?_) (fun c9440 => ?_)
        ·
          have i7_x4_23 : tq_iv 2 5 x4_23 := tq_cut i_x4_23 (tq_leR c9440 i_t_26 i_x4_23) (by decide) (by decide)
          exact tz_some (tq_top x3_23)
        ·
          have i8_x4_23 : tq_iv 0 4 x4_23 := tq_cut i_x4_23 (tq_ltL (tq_nle c9440) i_x4_23 i_t_26) (by decide) (by decide)
          refine tz_bd (tz_X12_cutOf hT k_h0 i2_x1 i8_x4_23) (fun t_37 i_t_37 => ?_)
          refine tz_bd (tz_X12_cutOf hT k_h0 i5_x2 i8_x4_23) (fun t_44 i_t_44 => ?_)
          refine tz_let (fun t_47 e9437 => ?_)
          refine tz_bd (tz_X12_absolute hT) (fun t_48 i_t_48 => ?_)
          refine tz_let (fun t_51 e9435 => ?_)
          refine tz_let (fun t_53 e9434 => ?_)
          have i9_t_53 : tq_iv 1 5 t_53 := tq_w (tq_add e9434 i8_x4_23 tk_1 (by decide) (by decide)) (by decide) (by decide)
          exact hk_23 t_51 t_53 (tq_w i9_t_53 (by decide) (by decide)) (tq_up e9434 i8_x4_23 tk_1 (by decide) (by decide) hn_23)
      have E_23 : ∀ (x3_23 : Int32) (x4_23 : Int32), tq_iv 0 5 x4_23 → tz_O (fun (z : Int32) => tq_iv (-2147483648) 2147483647 z) (ez_fix (fun _ _ _ _ _ => none) (z_X12_span_23 σ) ez_N h0 x1 x2 x3_23 x4_23) := by
        intro x3_23 x4_23 i_x4_23
        exact ez_fix_indn (fun n_23 (k_23 : Nat → Int32 → Int32 → Int32 → Int32 → Option (Int32)) => ∀ (x3_23 : Int32) (x4_23 : Int32), tq_iv 0 5 x4_23 → (2147483647 - x4_23.toInt).toNat < n_23 → tz_O (fun (z : Int32) => tq_iv (-2147483648) 2147483647 z) (k_23 h0 x1 x2 x3_23 x4_23)) (by intros; rename_i h; exact absurd h (Nat.not_lt_zero _)) L_23 ez_N x3_23 x4_23 i_x4_23 (tq_m0 x4_23)
      exact E_23 (0 : Int32) (0 : Int32) (tq_w tk_0 (by decide) (by decide))
set_option maxRecDepth 4000 in
theorem tz_X12_strays {p : tz_P} {σ : ez_H} {h0 : Nat} {x1 : Int32} (hT : tp p σ) (k_h0 : tz_C h0 = some (3, 12, 0, 0)) : tz_O2 (fun (z : Int32) (s : ez_H) => tq_iv (-2147483648) 2147483647 z ∧ tp p s) (z_X12_strays σ h0 x1) := by
  show tz_O (fun z : Int32 × ez_H => (fun (z : Int32) (s : ez_H) => tq_iv (-2147483648) 2147483647 z ∧ tp p s) z.1 z.2) _
  unfold z_X12_strays
  refine tz_bd (tz_ob hT k_h0) (fun _ _ => ?_)
  refine tz_bd (tz_X12_isIn hT) (fun t_3 ⟨i_t_3, g_t_3⟩ => ?_)
  refine tz_if _ (fun c9456 => ?_) (fun c9456 => ?_)
  ·
    have i1_t_3 : tq_iv 0 0 t_3 := tq_cut i_t_3 (tq_eqL c9456 tk_0) (by decide) (by decide)
    exact tz_some ⟨(tq_top (-1 : Int32)), hT⟩
  ·
    have i2_x1 : tq_iv 0 2 x1 := tq_cut (tq_top x1) (tq_cut (lo := 0) (hi := 2) (tq_cut (lo := 0) (hi := 2147483647) (tq_top x1) (tq_leR (g_t_3 c9456).1 tk_0 (tq_top x1)) (by decide) (by decide)) (tq_leL (g_t_3 c9456).2 (tq_top x1) tk_2) (by decide) (by decide)) (by decide) (by decide)
    have i3_t_3 : tq_iv 1 1 t_3 := tq_w (tq_neLo c9456 i_t_3 tk_0) (by decide) (by decide)
    refine tz_b2 (tz_X12_keepNow hT k_h0) (fun _ σ9455 T9455 => ?_)
    refine tz_b2 (tz_X12_pinByPlan T9455 k_h0) (fun _ σ9454 T9454 => ?_)
    refine tz_bd (tz_X12_straysBy T9454 k_h0 i2_x1) (fun t_21 i_t_21 => ?_)
    refine tz_b2 (tz_X12_bringBack T9454 k_h0) (fun _ σ9452 T9452 => ?_)
    exact tz_some ⟨(tq_top t_21), T9452⟩
set_option maxRecDepth 4000 in
theorem tz_X12_stuck {p : tz_P} {σ : ez_H} {h0 : Nat} (hT : tp p σ) (k_h0 : tz_C h0 = some (3, 12, 0, 0)) : tz_O (fun z => tq_iv 0 63 z) (z_X12_stuck σ h0) := by
  unfold z_X12_stuck
  refine tz_bd (tz_ob hT k_h0) (fun _ _ => ?_)
  refine tz_bd (tz_X12_bolts hT k_h0) (fun t_2 i_t_2 => ?_)
  refine tz_let (fun t_5 e9474 => ?_)
  have i1_t_5 : tq_iv 1 64 t_5 := tq_shl1 e9474 i_t_2 (by decide) (by decide) (by decide) (by decide)
  refine tz_let (fun t_7 e9473 => ?_)
  have i2_t_7 : tq_iv 0 63 t_7 := tq_w (tq_sub e9473 i1_t_5 tk_1 (by decide) (by decide)) (by decide) (by decide)
  have L_11 : ∀ (n_11 : Nat) (k_11 : Nat → Int32 → Int32 → Option (Int32)), (∀ (x1_11 : Int32) (x2_11 : Int32), tq_iv 0 63 x1_11 → tq_iv 0 8 x2_11 → (2147483647 - x2_11.toInt).toNat < n_11 → tz_O (fun (z : Int32) => tq_iv 0 63 z) (k_11 h0 x1_11 x2_11)) → ∀ (x1_11 : Int32) (x2_11 : Int32), tq_iv 0 63 x1_11 → tq_iv 0 8 x2_11 → (2147483647 - x2_11.toInt).toNat < n_11 + 1 → tz_O (fun (z : Int32) => tq_iv 0 63 z) (z_X12_stuck_11 σ k_11 h0 x1_11 x2_11) := by
    intro n_11 k_11 hk_11 x1_11 x2_11 i_x1_11 i_x2_11 hn_11
    unfold z_X12_stuck_11
    refine tz_bd (tz_X12_many hT k_h0) (fun t_13 i_t_13 => ?_)
    refine tz_if _ (fun c9470 => ?_) (fun c9470 => ?_)
    ·
      exact tz_some i_x1_11
    ·
      have i3_x2_11 : tq_iv 0 7 x2_11 := tq_cut i_x2_11 (tq_ltL (tq_nle c9470) i_x2_11 i_t_13) (by decide) (by decide)
      have i4_t_13 : tq_iv 1 8 t_13 := tq_cut i_t_13 (tq_ltR (tq_nle c9470) i_x2_11 i_t_13) (by decide) (by decide)
      refine tz_bd (tz_X12_holderOf hT k_h0 i3_x2_11) (fun t_21 i_t_21 => ?_)
      have K_43 : ∀ (x1_43 : Int32), tq_iv 0 63 x1_43 → tz_O (fun (z : Int32) => tq_iv 0 63 z) (z_X12_stuck_43 σ k_11 h0 x1_43 x2_11) := by
        intro x1_43 i_x1_43
        unfold z_X12_stuck_43
        refine tz_let (fun t_43 e9460 => ?_)
        have i5_t_43 : tq_iv 1 8 t_43 := tq_w (tq_add e9460 i3_x2_11 tk_1 (by decide) (by decide)) (by decide) (by decide)
        exact hk_11 x1_43 t_43 i_x1_43 (tq_w i5_t_43 (by decide) (by decide)) (tq_up e9460 i3_x2_11 tk_1 (by decide) (by decide) hn_11)
      refine tz_if _ (fun c9468 => ?_) (fun c9468 => ?_)
      ·
        have i6_t_21 : tq_iv (-2) (-2) t_21 := tq_cut i_t_21 (tq_eqL c9468 tk_m2) (by decide) (by decide)
        exact K_43 x1_11 i_x1_11
      ·
        have i7_t_21 : tq_iv (-1) 3 t_21 := tq_w (tq_neLo c9468 i_t_21 tk_m2) (by decide) (by decide)
        refine tz_bd (tz_X12_numberOf hT k_h0 i3_x2_11) (fun t_33 i_t_33 => ?_)
        refine tz_bd (tz_X12_openedBy hT k_h0) (fun t_36 i_t_36 => ?_)
        refine tz_let (fun t_40 e9465 => ?_)
        refine tz_let (fun t_41 e9464 => ?_)
        have i8_t_41 : tq_iv 0 63 t_41 := tq_and1 e9464 i_x1_11 (by decide)
        exact K_43 t_41 i8_t_41
  have E_11 : ∀ (x1_11 : Int32) (x2_11 : Int32), tq_iv 0 63 x1_11 → tq_iv 0 8 x2_11 → tz_O (fun (z : Int32) => tq_iv 0 63 z) (ez_fix (fun _ _ _ => none) (z_X12_stuck_11 σ) ez_N h0 x1_11 x2_11) := by
    intro x1_11 x2_11 i_x1_11 i_x2_11
    exact ez_fix_indn (fun n_11 (k_11 : Nat → Int32 → Int32 → Option (Int32)) => ∀ (x1_11 : Int32) (x2_11 : Int32), tq_iv 0 63 x1_11 → tq_iv 0 8 x2_11 → (2147483647 - x2_11.toInt).toNat < n_11 → tz_O (fun (z : Int32) => tq_iv 0 63 z) (k_11 h0 x1_11 x2_11)) (by intros; rename_i h; exact absurd h (Nat.not_lt_zero _)) L_11 ez_N x1_11 x2_11 i_x1_11 i_x2_11 (tq_m0 x2_11)
  exact E_11 t_7 (0 : Int32) i2_t_7 (tq_w tk_0 (by decide) (by decide))
