set_option maxRecDepth 4000 in
theorem tz_X12_file {p : tz_P} {σ : ez_H} {h0 : Nat} {x1 : Int32} {x2 : Int32} (hT : tp p σ) (k_h0 : tz_C h0 = some (3, 12, 0, 0)) : tz_O2 (fun (z : Int32) (s : ez_H) => tq_iv (-2147483648) 2147483647 z ∧ (tp p s ∨ tp (kp p) s)) (z_X12_file σ h0 x1 x2) := by
  show tz_O (fun z : Int32 × ez_H => (fun (z : Int32) (s : ez_H) => tq_iv (-2147483648) 2147483647 z ∧ (tp p s ∨ tp (kp p) s)) z.1 z.2) _
  unfold z_X12_file
  refine tz_bd (tz_ob hT k_h0) (fun _ _ => ?_)
  refine tz_bd (tz_X12_isKey hT k_h0) (fun t_2 ⟨i_t_2, g_t_2⟩ => ?_)
  have K_25 : ∀ (σ_25 : ez_H), tp p σ_25 → tz_O (fun z : Int32 × ez_H => (fun (z : Int32) (s : ez_H) => tq_iv (-2147483648) 2147483647 z ∧ (tp p s ∨ tp (kp p) s)) z.1 z.2) (z_X12_file_25 σ_25) := by
    intro σ_25 T_σ_25
    unfold z_X12_file_25
    exact tz_some ⟨(tq_top (-1 : Int32)), (Or.inl T_σ_25)⟩
  refine tz_if _ (fun c7096 => ?_) (fun c7096 => ?_)
  ·
    have i1_t_2 : tq_iv 0 0 t_2 := tq_cut i_t_2 (tq_eqL c7096 tk_0) (by decide) (by decide)
    exact K_25 σ hT
  ·
    have i2_x1 : tq_iv 0 7 x1 := tq_cut (tq_top x1) (g_t_2 c7096) (by decide) (by decide)
    have i3_t_2 : tq_iv 1 1 t_2 := tq_w (tq_neLo c7096 i_t_2 tk_0) (by decide) (by decide)
    refine tz_bd (tz_X12_isChamber hT k_h0) (fun t_10 ⟨i_t_10, g_t_10⟩ => ?_)
    refine tz_if _ (fun c7094 => ?_) (fun c7094 => ?_)
    ·
      have i4_t_10 : tq_iv 0 0 t_10 := tq_cut i_t_10 (tq_eqL c7094 tk_0) (by decide) (by decide)
      exact K_25 σ hT
    ·
      have i5_x2 : tq_iv 0 4 x2 := tq_cut (tq_top x2) (g_t_10 c7094) (by decide) (by decide)
      have i6_t_10 : tq_iv 1 1 t_10 := tq_w (tq_neLo c7094 i_t_10 tk_0) (by decide) (by decide)
      refine tz_b2 (tz_X12_deepen hT k_h0 i2_x1 i5_x2) (fun t_19 σ7093 ⟨i_t_19, T7093⟩ => ?_)
      refine tz_if _ (fun c7092 => ?_) (fun c7092 => ?_)
      ·
        have i7_t_19 : tq_iv 0 0 t_19 := tq_cut i_t_19 (tq_eqL c7092 tk_0) (by decide) (by decide)
        exact K_25 σ7093 T7093
      ·
        have i8_t_19 : tq_iv 1 1 t_19 := tq_w (tq_neLo c7092 i_t_19 tk_0) (by decide) (by decide)
        refine tz_bk (tr_53 T7093 k_h0) ?_
        refine tz_let (fun t_34 e7090 => ?_)
        have i9_t_34 : tq_iv 0 35 t_34 := tq_w (tq_mul e7090 tk_5 i2_x1 (by decide) (by decide) (by decide)) (by decide) (by decide)
        refine tz_let (fun t_35 e7089 => ?_)
        have i10_t_35 : tq_iv 0 35 t_35 := tq_w (tq_add e7089 tk_0 i9_t_34 (by decide) (by decide)) (by decide) (by decide)
        refine tz_let (fun t_37 e7088 => ?_)
        have i11_t_37 : tq_iv 0 39 t_37 := tq_w (tq_add e7088 i10_t_35 i5_x2 (by decide) (by decide)) (by decide) (by decide)
        refine tz_be (tz_iaS T7093 tc_205 (ts_205 (p := p) 0 39 (-2147483648) 2147483647 (by decide)) i11_t_37 (by decide) (by decide)) (fun t_39 e7087 i_t_39 => ?_)
        refine tz_let (fun t_41 e7086 => ?_)
        refine tz_be (tz_isS T7093 tc_205 (tS_205 (p := p) 0 39 (-2147483648) 2147483647 (by decide)) i11_t_37 (by decide) (by decide) (tq_top t_41)) (fun σ7085 e7085 T7085 => ?_)
        refine tz_b2 (tz_X12_keepAct T7085 k_h0) (fun _ σ7084 T7084 => ?_)
        refine tz_bk (tr_53 T7084 k_h0) ?_
        refine tz_let (fun t_54 e7082 => ?_)
        have i12_t_54 : tq_iv 0 35 t_54 := tq_w (tq_mul e7082 tk_5 i2_x1 (by decide) (by decide) (by decide)) (by decide) (by decide)
        refine tz_let (fun t_55 e7081 => ?_)
        have i13_t_55 : tq_iv 0 35 t_55 := tq_w (tq_add e7081 tk_0 i12_t_54 (by decide) (by decide)) (by decide) (by decide)
        refine tz_let (fun t_57 e7080 => ?_)
        have i14_t_57 : tq_iv 0 39 t_57 := tq_w (tq_add e7080 i13_t_55 i5_x2 (by decide) (by decide)) (by decide) (by decide)
        refine tz_be (tz_iaS T7084 tc_205 (ts_205 (p := (kp p)) 0 39 (-2147483648) 2147483647 (by decide)) i14_t_57 (by decide) (by decide)) (fun t_59 e7079 i_t_59 => ?_)
        refine tz_let (fun t_61 e7078 => ?_)
        refine tz_be (tz_isS T7084 tc_205 (tS_205 (p := (kp p)) 0 39 (-2147483648) 2147483647 (by decide)) i14_t_57 (by decide) (by decide) (tq_top t_61)) (fun σ7077 e7077 T7077 => ?_)
        refine tz_bd (tz_X12_cutOf T7077 k_h0 i2_x1 i5_x2) (fun t_66 i_t_66 => ?_)
        exact tz_some ⟨(tq_top t_66), (Or.inr T7077)⟩
set_option maxRecDepth 4000 in
theorem tz_X12_isLock {p : tz_P} {σ : ez_H} {h0 : Nat} {x1 : Int32} (hT : tp p σ) (k_h0 : tz_C h0 = some (3, 12, 0, 0)) : tz_O (fun z => tq_iv 0 1 z ∧ (¬ z = 0 → tq_iv 0 5 x1)) (z_X12_isLock σ h0 x1) := by
  unfold z_X12_isLock
  refine tz_bd (tz_ob hT k_h0) (fun _ _ => ?_)
  refine tz_bd (tz_X12_bolts hT k_h0) (fun t_3 i_t_3 => ?_)
  refine tz_let (fun t_7 e7102 => ?_)
  have i1_t_7 : tq_iv (-1) 5 t_7 := tq_w (tq_sub e7102 i_t_3 tk_1 (by decide) (by decide)) (by decide) (by decide)
  refine tz_bd (tz_X12_isIn hT) (fun t_8 ⟨i_t_8, g_t_8⟩ => ?_)
  refine tz_nr (tq_nr_boolean i_t_8) ?_
  exact tz_some ⟨i_t_8, (fun h => tq_w (tq_cut (lo := 0) (hi := 5) (tq_cut (lo := 0) (hi := 2147483647) (tq_top x1) (tq_leR (g_t_8 h).1 tk_0 (tq_top x1)) (by decide) (by decide)) (tq_leL (g_t_8 h).2 (tq_top x1) i1_t_7) (by decide) (by decide)) (by decide) (by decide))⟩
set_option maxRecDepth 4000 in
theorem tz_X12_cutIn {p : tz_P} {σ : ez_H} {h0 : Nat} {x1 : Int32} {x2 : Int32} (hT : tp p σ) (k_h0 : tz_C h0 = some (3, 12, 0, 0)) (i_x1 : tq_iv 0 7775 x1) (i_x2 : tq_iv 0 4 x2) : tz_O (fun z => tq_iv 0 5 z) (z_X12_cutIn σ h0 x1 x2) := by
  unfold z_X12_cutIn
  refine tz_bd (tz_ob hT k_h0) (fun _ _ => ?_)
  refine tz_bd (tz_X12_deep hT k_h0) (fun t_2 i_t_2 => ?_)
  refine tz_bd (tz_X12_wide hT k_h0) (fun t_6 i_t_6 => ?_)
  refine tz_let (fun t_10 e7113 => ?_)
  have i1_t_10 : tq_iv 1 4 t_10 := tq_w (tq_sub e7113 i_t_6 tk_1 (by decide) (by decide)) (by decide) (by decide)
  refine tz_let (fun t_12 e7112 => ?_)
  have i2_t_12 : tq_iv (-3) 4 t_12 := tq_w (tq_sub e7112 i1_t_10 i_x2 (by decide) (by decide)) (by decide) (by decide)
  refine tz_bd (tz_X12_power hT i_t_2 (tq_w i2_t_12 (by decide) (by decide))) (fun t_13 i_t_13 => ?_)
  refine tz_nz (tq_nz i_t_13 (by decide)) ?_
  refine tz_let (fun t_16 e7109 => ?_)
  have i3_t_16 : tq_iv 0 7775 t_16 := tq_div e7109 i_x1 i_t_13 (by decide) (by decide)
  refine tz_bd (tz_X12_deep hT k_h0) (fun t_18 i_t_18 => ?_)
  refine tz_nz (tq_nz i_t_18 (by decide)) ?_
  refine tz_let (fun t_21 e7106 => ?_)
  have i4_t_21 : tq_iv 0 5 t_21 := tq_rem2 e7106 i3_t_16 i_t_18 (by decide) (by decide)
  exact tz_some i4_t_21
set_option maxRecDepth 4000 in
theorem tz_X12_filedTo {p : tz_P} {σ : ez_H} {h0 : Nat} {x1 : Int32} {x2 : Int32} (hT : tp p σ) (k_h0 : tz_C h0 = some (3, 12, 0, 0)) (i_x1 : tq_iv 0 7 x1) (i_x2 : tq_iv 0 7775 x2) : tz_O (fun z => tq_iv (-2147483648) 2147483647 z) (z_X12_filedTo σ h0 x1 x2) := by
  unfold z_X12_filedTo
  refine tz_bd (tz_ob hT k_h0) (fun _ _ => ?_)
  have L_5 : ∀ (n_5 : Nat) (k_5 : Nat → Int32 → Int32 → Int32 → Int32 → Option (Int32)), (∀ (x3_5 : Int32) (x4_5 : Int32), tq_iv 0 5 x4_5 → (2147483647 - x4_5.toInt).toNat < n_5 → tz_O (fun (z : Int32) => tq_iv (-2147483648) 2147483647 z) (k_5 h0 x1 x2 x3_5 x4_5)) → ∀ (x3_5 : Int32) (x4_5 : Int32), tq_iv 0 5 x4_5 → (2147483647 - x4_5.toInt).toNat < n_5 + 1 → tz_O (fun (z : Int32) => tq_iv (-2147483648) 2147483647 z) (z_X12_filedTo_5 σ k_5 h0 x1 x2 x3_5 x4_5) := by
    intro n_5 k_5 hk_5 x3_5 x4_5 i_x4_5 hn_5
    unfold z_X12_filedTo_5
    refine tz_bd (tz_X12_wide hT k_h0) (fun t_8 i_t_8 => ?_)
    refine tz_if _ (fun c7128 => ?_) (fun c7128 => ?_)
    ·
      have i1_x4_5 : tq_iv 2 5 x4_5 := tq_cut i_x4_5 (tq_leR c7128 i_t_8 i_x4_5) (by decide) (by decide)
      exact tz_some (tq_top x3_5)
    ·
      have i2_x4_5 : tq_iv 0 4 x4_5 := tq_cut i_x4_5 (tq_ltL (tq_nle c7128) i_x4_5 i_t_8) (by decide) (by decide)
      refine tz_bd (tz_X12_cutIn hT k_h0 i_x2 i2_x4_5) (fun t_18 i_t_18 => ?_)
      refine tz_bd (tz_X12_cutOf hT k_h0 i_x1 i2_x4_5) (fun t_25 i_t_25 => ?_)
      refine tz_if _ (fun c7125 => ?_) (fun c7125 => ?_)
      ·
        have i3_t_25 : tq_iv (-2147483648) 5 t_25 := tq_cut (tq_top t_25) (tq_leL c7125 (tq_top t_25) i_t_18) (by decide) (by decide)
        refine tz_bd (tz_X12_cutIn hT k_h0 i_x2 i2_x4_5) (fun t_38 i_t_38 => ?_)
        refine tz_bd (tz_X12_cutOf hT k_h0 i_x1 i2_x4_5) (fun t_45 i_t_45 => ?_)
        refine tz_let (fun t_48 e7121 => ?_)
        refine tz_let (fun t_49 e7120 => ?_)
        refine tz_let (fun t_51 e7119 => ?_)
        have i4_t_51 : tq_iv 1 5 t_51 := tq_w (tq_add e7119 i2_x4_5 tk_1 (by decide) (by decide)) (by decide) (by decide)
        exact hk_5 t_49 t_51 (tq_w i4_t_51 (by decide) (by decide)) (tq_up e7119 i2_x4_5 tk_1 (by decide) (by decide) hn_5)
      ·
        have i5_t_25 : tq_iv 1 2147483647 t_25 := tq_cut (tq_top t_25) (tq_ltR (tq_nle c7125) i_t_18 (tq_top t_25)) (by decide) (by decide)
        exact tz_some (tq_top (-1 : Int32))
  have E_5 : ∀ (x3_5 : Int32) (x4_5 : Int32), tq_iv 0 5 x4_5 → tz_O (fun (z : Int32) => tq_iv (-2147483648) 2147483647 z) (ez_fix (fun _ _ _ _ _ => none) (z_X12_filedTo_5 σ) ez_N h0 x1 x2 x3_5 x4_5) := by
    intro x3_5 x4_5 i_x4_5
    exact ez_fix_indn (fun n_5 (k_5 : Nat → Int32 → Int32 → Int32 → Int32 → Option (Int32)) => ∀ (x3_5 : Int32) (x4_5 : Int32), tq_iv 0 5 x4_5 → (2147483647 - x4_5.toInt).toNat < n_5 → tz_O (fun (z : Int32) => tq_iv (-2147483648) 2147483647 z) (k_5 h0 x1 x2 x3_5 x4_5)) (by intros; rename_i h; exact absurd h (Nat.not_lt_zero _)) L_5 ez_N x3_5 x4_5 i_x4_5 (tq_m0 x4_5)
  exact E_5 (0 : Int32) (0 : Int32) (tq_w tk_0 (by decide) (by decide))
set_option maxRecDepth 4000 in
theorem tz_X12_filing {p : tz_P} {σ : ez_H} {h0 : Nat} {x1 : Int32} {x2 : Int32} {x3 : Int32} (hT : tp p σ) (k_h0 : tz_C h0 = some (3, 12, 0, 0)) : tz_O (fun z => tq_iv (-1) 100000 z) (z_X12_filing σ h0 x1 x2 x3) := by
  unfold z_X12_filing
  refine tz_bd (tz_ob hT k_h0) (fun _ _ => ?_)
  refine tz_bd (tz_X12_isKey hT k_h0) (fun t_2 ⟨i_t_2, g_t_2⟩ => ?_)
  have K_25 : tz_O (fun (z : Int32) => tq_iv (-1) 100000 z) (z_X12_filing_25 σ) := by
    unfold z_X12_filing_25
    exact tz_some (tq_w tk_m1 (by decide) (by decide))
  refine tz_if _ (fun c7163 => ?_) (fun c7163 => ?_)
  ·
    have i1_t_2 : tq_iv 0 0 t_2 := tq_cut i_t_2 (tq_eqL c7163 tk_0) (by decide) (by decide)
    exact K_25 
  ·
    have i2_x1 : tq_iv 0 7 x1 := tq_cut (tq_top x1) (g_t_2 c7163) (by decide) (by decide)
    have i3_t_2 : tq_iv 1 1 t_2 := tq_w (tq_neLo c7163 i_t_2 tk_0) (by decide) (by decide)
    refine tz_bd (tz_X12_isLock hT k_h0) (fun t_10 ⟨i_t_10, g_t_10⟩ => ?_)
    refine tz_if _ (fun c7161 => ?_) (fun c7161 => ?_)
    ·
      have i4_t_10 : tq_iv 0 0 t_10 := tq_cut i_t_10 (tq_eqL c7161 tk_0) (by decide) (by decide)
      exact K_25 
    ·
      have i5_x2 : tq_iv 0 5 x2 := tq_cut (tq_top x2) (g_t_10 c7161) (by decide) (by decide)
      have i6_t_10 : tq_iv 1 1 t_10 := tq_w (tq_neLo c7161 i_t_10 tk_0) (by decide) (by decide)
      refine tz_bd (tz_X12_isIn hT) (fun t_19 ⟨i_t_19, g_t_19⟩ => ?_)
      refine tz_if _ (fun c7159 => ?_) (fun c7159 => ?_)
      ·
        have i7_t_19 : tq_iv 0 0 t_19 := tq_cut i_t_19 (tq_eqL c7159 tk_0) (by decide) (by decide)
        exact K_25 
      ·
        have i8_x3 : tq_iv 0 1 x3 := tq_cut (tq_top x3) (tq_cut (lo := 0) (hi := 1) (tq_cut (lo := 0) (hi := 2147483647) (tq_top x3) (tq_leR (g_t_19 c7159).1 tk_0 (tq_top x3)) (by decide) (by decide)) (tq_leL (g_t_19 c7159).2 (tq_top x3) tk_1) (by decide) (by decide)) (by decide) (by decide)
        have i9_t_19 : tq_iv 1 1 t_19 := tq_w (tq_neLo c7159 i_t_19 tk_0) (by decide) (by decide)
        have L_38 : ∀ (n_38 : Nat) (k_38 : Nat → Int32 → Int32 → Int32 → Int32 → Int32 → Int32 → Option (Int32)), (∀ (x4_38 : Int32) (x5_38 : Int32) (x6_38 : Int32), tq_iv (-1) 99999 x4_38 → tq_iv 0 100000 x5_38 → tq_iv 0 7776 x6_38 → (2147483647 - x6_38.toInt).toNat < n_38 → tz_O (fun (z : Int32) => tq_iv (-1) 100000 z) (k_38 h0 x1 x2 x3 x4_38 x5_38 x6_38)) → ∀ (x4_38 : Int32) (x5_38 : Int32) (x6_38 : Int32), tq_iv (-1) 99999 x4_38 → tq_iv 0 100000 x5_38 → tq_iv 0 7776 x6_38 → (2147483647 - x6_38.toInt).toNat < n_38 + 1 → tz_O (fun (z : Int32) => tq_iv (-1) 100000 z) (z_X12_filing_38 σ k_38 h0 x1 x2 x3 x4_38 x5_38 x6_38) := by
          intro n_38 k_38 hk_38 x4_38 x5_38 x6_38 i_x4_38 i_x5_38 i_x6_38 hn_38
          unfold z_X12_filing_38
          refine tz_bd (tz_X12_bittings hT k_h0) (fun t_41 i_t_41 => ?_)
          refine tz_if _ (fun c7153 => ?_) (fun c7153 => ?_)
          ·
            have i10_x6_38 : tq_iv 1 7776 x6_38 := tq_cut i_x6_38 (tq_leR c7153 i_t_41 i_x6_38) (by decide) (by decide)
            have K_127 : ∀ (y0_127 : Int32), tq_iv (-1) 100000 y0_127 → tz_O (fun (z : Int32) => tq_iv (-1) 100000 z) (z_X12_filing_127 σ y0_127) := by
              intro y0_127 i_y0_127
              unfold z_X12_filing_127
              exact tz_some i_y0_127
            refine tz_if _ (fun c7140 => ?_) (fun c7140 => ?_)
            ·
              have i11_x4_38 : tq_iv 0 99999 x4_38 := tq_cut i_x4_38 (tq_leR c7140 tk_0 i_x4_38) (by decide) (by decide)
              refine tz_if _ (fun c7138 => ?_) (fun c7138 => ?_)
              ·
                have i12_x3 : tq_iv 0 0 x3 := tq_cut i8_x3 (tq_eqL c7138 tk_0) (by decide) (by decide)
                exact K_127 x5_38 (tq_w i_x5_38 (by decide) (by decide))
              ·
                have i13_x3 : tq_iv 1 1 x3 := tq_w (tq_neLo c7138 i8_x3 tk_0) (by decide) (by decide)
                exact K_127 x4_38 (tq_w i11_x4_38 (by decide) (by decide))
            ·
              have i14_x4_38 : tq_iv (-1) (-1) x4_38 := tq_cut i_x4_38 (tq_ltL (tq_nle c7140) i_x4_38 tk_0) (by decide) (by decide)
              exact K_127 (-1 : Int32) (tq_w tk_m1 (by decide) (by decide))
          ·
            have i15_x6_38 : tq_iv 0 7775 x6_38 := tq_cut i_x6_38 (tq_ltL (tq_nle c7153) i_x6_38 i_t_41) (by decide) (by decide)
            refine tz_bd (tz_X12_isLegal hT k_h0) (fun t_50 ⟨i_t_50, g_t_50⟩ => ?_)
            have K_101 : ∀ (x4_101 : Int32) (x5_101 : Int32), tq_iv (-1) 99999 x4_101 → tq_iv 0 100000 x5_101 → tz_O (fun (z : Int32) => tq_iv (-1) 100000 z) (z_X12_filing_101 σ k_38 h0 x1 x2 x3 x4_101 x5_101 x6_38) := by
              intro x4_101 x5_101 i_x4_101 i_x5_101
              unfold z_X12_filing_101
              refine tz_let (fun t_101 e7135 => ?_)
              have i16_t_101 : tq_iv 1 7776 t_101 := tq_w (tq_add e7135 i15_x6_38 tk_1 (by decide) (by decide)) (by decide) (by decide)
              exact hk_38 x4_101 x5_101 t_101 i_x4_101 i_x5_101 (tq_w i16_t_101 (by decide) (by decide)) (tq_up e7135 i15_x6_38 tk_1 (by decide) (by decide) hn_38)
            refine tz_if _ (fun c7151 => ?_) (fun c7151 => ?_)
            ·
              have i17_t_50 : tq_iv 0 0 t_50 := tq_cut i_t_50 (tq_eqL c7151 tk_0) (by decide) (by decide)
              exact K_101 x4_38 x5_38 i_x4_38 i_x5_38
            ·
              have i18_t_50 : tq_iv 1 1 t_50 := tq_w (tq_neLo c7151 i_t_50 tk_0) (by decide) (by decide)
              refine tz_bd (tz_X12_doesOpen hT k_h0 i5_x2) (fun t_60 i_t_60 => ?_)
              refine tz_if _ (fun c7149 => ?_) (fun c7149 => ?_)
              ·
                have i19_t_60 : tq_iv 0 0 t_60 := tq_cut i_t_60 (tq_eqL c7149 tk_0) (by decide) (by decide)
                exact K_101 x4_38 x5_38 i_x4_38 i_x5_38
              ·
                have i20_t_60 : tq_iv 1 1 t_60 := tq_w (tq_neLo c7149 i_t_60 tk_0) (by decide) (by decide)
                refine tz_bd (tz_X12_filedTo hT k_h0 i2_x1 i15_x6_38) (fun t_73 i_t_73 => ?_)
                refine tz_if _ (fun c7147 => ?_) (fun c7147 => ?_)
                ·
                  have i21_t_73 : tq_iv (-2147483648) (-1) t_73 := tq_cut (tq_top t_73) (tq_ltL c7147 (tq_top t_73) tk_0) (by decide) (by decide)
                  exact K_101 x4_38 x5_38 i_x4_38 i_x5_38
                ·
                  have i22_t_73 : tq_iv 0 2147483647 t_73 := tq_cut (tq_top t_73) (tq_leR (tq_nlt c7147) tk_0 (tq_top t_73)) (by decide) (by decide)
                  refine tz_if _ (fun c7146 => ?_) (fun c7146 => ?_)
                  ·
                    have i23_t_73 : tq_iv 0 99999 t_73 := tq_cut i22_t_73 (tq_ltL c7146 i22_t_73 i_x5_38) (by decide) (by decide)
                    have i24_x5_38 : tq_iv 1 100000 x5_38 := tq_cut i_x5_38 (tq_ltR c7146 i22_t_73 i_x5_38) (by decide) (by decide)
                    exact K_101 x6_38 t_73 (tq_w i15_x6_38 (by decide) (by decide)) (tq_w i23_t_73 (by decide) (by decide))
                  ·
                    exact K_101 x4_38 x5_38 i_x4_38 i_x5_38
        have E_38 : ∀ (x4_38 : Int32) (x5_38 : Int32) (x6_38 : Int32), tq_iv (-1) 99999 x4_38 → tq_iv 0 100000 x5_38 → tq_iv 0 7776 x6_38 → tz_O (fun (z : Int32) => tq_iv (-1) 100000 z) (ez_fix (fun _ _ _ _ _ _ _ => none) (z_X12_filing_38 σ) ez_N h0 x1 x2 x3 x4_38 x5_38 x6_38) := by
          intro x4_38 x5_38 x6_38 i_x4_38 i_x5_38 i_x6_38
          exact ez_fix_indn (fun n_38 (k_38 : Nat → Int32 → Int32 → Int32 → Int32 → Int32 → Int32 → Option (Int32)) => ∀ (x4_38 : Int32) (x5_38 : Int32) (x6_38 : Int32), tq_iv (-1) 99999 x4_38 → tq_iv 0 100000 x5_38 → tq_iv 0 7776 x6_38 → (2147483647 - x6_38.toInt).toNat < n_38 → tz_O (fun (z : Int32) => tq_iv (-1) 100000 z) (k_38 h0 x1 x2 x3 x4_38 x5_38 x6_38)) (by intros; rename_i h; exact absurd h (Nat.not_lt_zero _)) L_38 ez_N x4_38 x5_38 x6_38 i_x4_38 i_x5_38 i_x6_38 (tq_m0 x6_38)
        exact E_38 (-1 : Int32) (100000 : Int32) (0 : Int32) (tq_w tk_m1 (by decide) (by decide)) (tq_w tk_100000 (by decide) (by decide)) (tq_w tk_0 (by decide) (by decide))
set_option maxRecDepth 4000 in
theorem tz_X12_isPerson {p : tz_P} {σ : ez_H} {h0 : Nat} {x1 : Int32} (hT : tp p σ) (k_h0 : tz_C h0 = some (3, 12, 0, 0)) : tz_O (fun z => tq_iv 0 1 z ∧ (¬ z = 0 → tq_iv 0 3 x1)) (z_X12_isPerson σ h0 x1) := by
  unfold z_X12_isPerson
  refine tz_bd (tz_ob hT k_h0) (fun _ _ => ?_)
  refine tz_bk (tr_18 hT k_h0) ?_
  refine tz_be (tg_12_43 hT k_h0) (fun t_7 e7171 i_t_7 => ?_)
  refine tz_be (tz_ia hT tc_180 (te_180 (p := p)) i_t_7 (by decide) (by decide)) (fun t_10 e7170 i_t_10 => ?_)
  refine tz_let (fun t_12 e7169 => ?_)
  have i1_t_12 : tq_iv (-1) 3 t_12 := tq_w (tq_sub e7169 i_t_10 tk_1 (by decide) (by decide)) (by decide) (by decide)
  refine tz_bd (tz_X12_isIn hT) (fun t_13 ⟨i_t_13, g_t_13⟩ => ?_)
  refine tz_nr (tq_nr_boolean i_t_13) ?_
  exact tz_some ⟨i_t_13, (fun h => tq_w (tq_cut (lo := 0) (hi := 3) (tq_cut (lo := 0) (hi := 2147483647) (tq_top x1) (tq_leR (g_t_13 h).1 tk_0 (tq_top x1)) (by decide) (by decide)) (tq_leL (g_t_13 h).2 (tq_top x1) i1_t_12) (by decide) (by decide)) (by decide) (by decide))⟩
set_option maxRecDepth 4000 in
theorem tz_X12_hand {p : tz_P} {σ : ez_H} {h0 : Nat} {x1 : Int32} {x2 : Int32} (hT : tp p σ) (k_h0 : tz_C h0 = some (3, 12, 0, 0)) (i_x1 : tq_iv 0 7 x1) (i_x2 : tq_iv (-2) 3 x2) : tz_O2 (fun (z : Int32) (s : ez_H) => tq_iv (-2) 3 z ∧ tp (kp p) s) (z_X12_hand σ h0 x1 x2) := by
  show tz_O (fun z : Int32 × ez_H => (fun (z : Int32) (s : ez_H) => tq_iv (-2) 3 z ∧ tp (kp p) s) z.1 z.2) _
  unfold z_X12_hand
  refine tz_bd (tz_ob hT k_h0) (fun _ _ => ?_)
  refine tz_b2 (tz_X12_keepAct hT k_h0) (fun _ σ7179 T7179 => ?_)
  refine tz_bd (tz_X12_holderOf T7179 k_h0 i_x1) (fun t_6 i_t_6 => ?_)
  refine tz_bk (tr_53 T7179 k_h0) ?_
  refine tz_let (fun t_17 e7176 => ?_)
  have i1_t_17 : tq_iv 48 55 t_17 := tq_w (tq_add e7176 tk_48 i_x1 (by decide) (by decide)) (by decide) (by decide)
  refine tz_be (tz_isS T7179 tc_205 (tS_205 (p := (kp p)) 48 55 (-2) 3 (by decide)) i1_t_17 (by decide) (by decide) i_x2) (fun σ7175 e7175 T7175 => ?_)
  exact tz_some ⟨i_t_6, T7175⟩
set_option maxRecDepth 4000 in
theorem tz_X12_find {p : tz_P} {σ : ez_H} {h0 : Nat} {x1 : Int32} {x2 : Int32} (hT : tp p σ) (k_h0 : tz_C h0 = some (3, 12, 0, 0)) : tz_O2 (fun (z : Int32) (s : ez_H) => tq_iv (-2147483648) 2147483647 z ∧ (tp p s ∨ tp (kp p) s)) (z_X12_find σ h0 x1 x2) := by
  show tz_O (fun z : Int32 × ez_H => (fun (z : Int32) (s : ez_H) => tq_iv (-2147483648) 2147483647 z ∧ (tp p s ∨ tp (kp p) s)) z.1 z.2) _
  unfold z_X12_find
  refine tz_bd (tz_ob hT k_h0) (fun _ _ => ?_)
  refine tz_bd (tz_X12_isKey hT k_h0) (fun t_2 ⟨i_t_2, g_t_2⟩ => ?_)
  have K_26 : tz_O (fun z : Int32 × ez_H => (fun (z : Int32) (s : ez_H) => tq_iv (-2147483648) 2147483647 z ∧ (tp p s ∨ tp (kp p) s)) z.1 z.2) (z_X12_find_26 σ) := by
    unfold z_X12_find_26
    exact tz_some ⟨(tq_top (-1 : Int32)), (Or.inl hT)⟩
  refine tz_if _ (fun c7193 => ?_) (fun c7193 => ?_)
  ·
    have i1_t_2 : tq_iv 0 0 t_2 := tq_cut i_t_2 (tq_eqL c7193 tk_0) (by decide) (by decide)
    exact K_26 
  ·
    have i2_x1 : tq_iv 0 7 x1 := tq_cut (tq_top x1) (g_t_2 c7193) (by decide) (by decide)
    have i3_t_2 : tq_iv 1 1 t_2 := tq_w (tq_neLo c7193 i_t_2 tk_0) (by decide) (by decide)
    refine tz_bd (tz_X12_isPerson hT k_h0) (fun t_10 ⟨i_t_10, g_t_10⟩ => ?_)
    refine tz_if _ (fun c7191 => ?_) (fun c7191 => ?_)
    ·
      have i4_t_10 : tq_iv 0 0 t_10 := tq_cut i_t_10 (tq_eqL c7191 tk_0) (by decide) (by decide)
      exact K_26 
    ·
      have i5_x2 : tq_iv 0 3 x2 := tq_cut (tq_top x2) (g_t_10 c7191) (by decide) (by decide)
      have i6_t_10 : tq_iv 1 1 t_10 := tq_w (tq_neLo c7191 i_t_10 tk_0) (by decide) (by decide)
      refine tz_bd (tz_X12_holderOf hT k_h0 i2_x1) (fun t_18 i_t_18 => ?_)
      refine tz_if _ (fun c7189 => ?_) (fun c7189 => ?_)
      ·
        have i7_t_18 : tq_iv (-2) (-2) t_18 := tq_cut i_t_18 (tq_eqL c7189 tk_m2) (by decide) (by decide)
        refine tz_b2 (tz_X12_hand hT k_h0 i2_x1 (tq_w i5_x2 (by decide) (by decide))) (fun t_31 σ7187 ⟨i_t_31, T7187⟩ => ?_)
        refine tz_bd (tz_X12_keysOf T7187 k_h0 i5_x2) (fun t_37 i_t_37 => ?_)
        refine tz_bd (tz_X12_bitsOf T7187) (fun t_40 i_t_40 => ?_)
        exact tz_some ⟨(tq_top t_40), (Or.inr T7187)⟩
      ·
        have i8_t_18 : tq_iv (-1) 3 t_18 := tq_w (tq_neLo c7189 i_t_18 tk_m2) (by decide) (by decide)
        exact K_26
set_option maxRecDepth 4000 in
theorem tz_X12_isCut {p : tz_P} {σ : ez_H} {h0 : Nat} {x1 : Int32} (hT : tp p σ) (k_h0 : tz_C h0 = some (3, 12, 0, 0)) (i_x1 : tq_iv 0 7775 x1) : tz_O (fun z => tq_iv 0 1 z) (z_X12_isCut σ h0 x1) := by
  unfold z_X12_isCut
  refine tz_bd (tz_ob hT k_h0) (fun _ _ => ?_)
  have L_2 : ∀ (n_2 : Nat) (k_2 : Nat → Int32 → Int32 → Option (Int32)), (∀ (x2_2 : Int32), tq_iv 0 8 x2_2 → (2147483647 - x2_2.toInt).toNat < n_2 → tz_O (fun (z : Int32) => tq_iv 0 1 z) (k_2 h0 x1 x2_2)) → ∀ (x2_2 : Int32), tq_iv 0 8 x2_2 → (2147483647 - x2_2.toInt).toNat < n_2 + 1 → tz_O (fun (z : Int32) => tq_iv 0 1 z) (z_X12_isCut_2 σ k_2 h0 x1 x2_2) := by
    intro n_2 k_2 hk_2 x2_2 i_x2_2 hn_2
    unfold z_X12_isCut_2
    refine tz_bd (tz_X12_many hT k_h0) (fun t_4 i_t_4 => ?_)
    refine tz_if _ (fun c7202 => ?_) (fun c7202 => ?_)
    ·
      exact tz_some (tq_w tk_0 (by decide) (by decide))
    ·
      have i1_x2_2 : tq_iv 0 7 x2_2 := tq_cut i_x2_2 (tq_ltL (tq_nle c7202) i_x2_2 i_t_4) (by decide) (by decide)
      have i2_t_4 : tq_iv 1 8 t_4 := tq_cut i_t_4 (tq_ltR (tq_nle c7202) i_x2_2 i_t_4) (by decide) (by decide)
      refine tz_bd (tz_X12_numberOf hT k_h0 i1_x2_2) (fun t_12 i_t_12 => ?_)
      refine tz_if _ (fun c7200 => ?_) (fun c7200 => ?_)
      ·
        have i3_t_12 : tq_iv 0 7775 t_12 := tq_cut (tq_top t_12) (tq_eqL c7200 i_x1) (by decide) (by decide)
        exact tz_some (tq_w tk_1 (by decide) (by decide))
      ·
        refine tz_let (fun t_21 e7199 => ?_)
        have i4_t_21 : tq_iv 1 8 t_21 := tq_w (tq_add e7199 i1_x2_2 tk_1 (by decide) (by decide)) (by decide) (by decide)
        exact hk_2 t_21 (tq_w i4_t_21 (by decide) (by decide)) (tq_up e7199 i1_x2_2 tk_1 (by decide) (by decide) hn_2)
  have E_2 : ∀ (x2_2 : Int32), tq_iv 0 8 x2_2 → tz_O (fun (z : Int32) => tq_iv 0 1 z) (ez_fix (fun _ _ _ => none) (z_X12_isCut_2 σ) ez_N h0 x1 x2_2) := by
    intro x2_2 i_x2_2
    exact ez_fix_indn (fun n_2 (k_2 : Nat → Int32 → Int32 → Option (Int32)) => ∀ (x2_2 : Int32), tq_iv 0 8 x2_2 → (2147483647 - x2_2.toInt).toNat < n_2 → tz_O (fun (z : Int32) => tq_iv 0 1 z) (k_2 h0 x1 x2_2)) (by intros; rename_i h; exact absurd h (Nat.not_lt_zero _)) L_2 ez_N x2_2 i_x2_2 (tq_m0 x2_2)
  exact E_2 (0 : Int32) (tq_w tk_0 (by decide) (by decide))
set_option maxRecDepth 4000 in
theorem tz_X12_isGhost {p : tz_P} {σ : ez_H} {h0 : Nat} {x1 : Int32} {x2 : Int32} (hT : tp p σ) (k_h0 : tz_C h0 = some (3, 12, 0, 0)) (i_x1 : tq_iv 0 7775 x1) (i_x2 : tq_iv 0 5 x2) : tz_O (fun z => tq_iv 0 1 z) (z_X12_isGhost σ h0 x1 x2) := by
  unfold z_X12_isGhost
  refine tz_bd (tz_ob hT k_h0) (fun _ _ => ?_)
  refine tz_bd (tz_X12_isLegal hT k_h0) (fun t_2 ⟨i_t_2, g_t_2⟩ => ?_)
  have K_30 : ∀ (y0_30 : Int32), tq_iv 0 1 y0_30 → (¬ y0_30 = 0 → tq_iv 1 1 t_2) → tz_O (fun (z : Int32) => tq_iv 0 1 z) (z_X12_isGhost_30 σ y0_30) := by
    intro y0_30 i_y0_30 g30_y0_30_t_2
    unfold z_X12_isGhost_30
    refine tz_nr (tq_nr_boolean i_y0_30) ?_
    exact tz_some i_y0_30
  have K_29 : tz_O (fun (z : Int32) => tq_iv 0 1 z) (z_X12_isGhost_29 σ) := by
    unfold z_X12_isGhost_29
    exact K_30 (0 : Int32) (tq_w tk_0 (by decide) (by decide)) (fun h => absurd rfl h)
  refine tz_if _ (fun c7217 => ?_) (fun c7217 => ?_)
  ·
    have i1_t_2 : tq_iv 0 0 t_2 := tq_cut i_t_2 (tq_eqL c7217 tk_0) (by decide) (by decide)
    exact K_29 
  ·
    have i2_t_2 : tq_iv 1 1 t_2 := tq_w (tq_neLo c7217 i_t_2 tk_0) (by decide) (by decide)
    refine tz_bd (tz_X12_doesOpen hT k_h0 i_x2) (fun t_11 i_t_11 => ?_)
    refine tz_if _ (fun c7215 => ?_) (fun c7215 => ?_)
    ·
      have i3_t_11 : tq_iv 0 0 t_11 := tq_cut i_t_11 (tq_eqL c7215 tk_0) (by decide) (by decide)
      exact K_29 
    ·
      have i4_t_11 : tq_iv 1 1 t_11 := tq_w (tq_neLo c7215 i_t_11 tk_0) (by decide) (by decide)
      refine tz_bd (tz_X12_isCut hT k_h0 i_x1) (fun t_19 i_t_19 => ?_)
      refine tz_if _ (fun c7213 => ?_) (fun c7213 => ?_)
      ·
        have i5_t_19 : tq_iv 0 0 t_19 := tq_cut i_t_19 (tq_eqL c7213 tk_0) (by decide) (by decide)
        exact K_30 (1 : Int32) (tq_w tk_1 (by decide) (by decide)) (fun _ => i2_t_2)
      ·
        have i6_t_19 : tq_iv 1 1 t_19 := tq_w (tq_neLo c7213 i_t_19 tk_0) (by decide) (by decide)
        exact K_29
set_option maxRecDepth 4000 in
theorem tz_X12_ghost {p : tz_P} {σ : ez_H} {h0 : Nat} {x1 : Int32} {x2 : Int32} (hT : tp p σ) (k_h0 : tz_C h0 = some (3, 12, 0, 0)) : tz_O (fun z => tq_iv (-1) 7775 z) (z_X12_ghost σ h0 x1 x2) := by
  unfold z_X12_ghost
  refine tz_bd (tz_ob hT k_h0) (fun _ _ => ?_)
  refine tz_bd (tz_X12_isLock hT k_h0) (fun t_2 ⟨i_t_2, g_t_2⟩ => ?_)
  have K_12 : tz_O (fun (z : Int32) => tq_iv (-1) 7775 z) (z_X12_ghost_12 σ) := by
    unfold z_X12_ghost_12
    exact tz_some (tq_w tk_m1 (by decide) (by decide))
  refine tz_if _ (fun c7237 => ?_) (fun c7237 => ?_)
  ·
    have i1_t_2 : tq_iv 0 0 t_2 := tq_cut i_t_2 (tq_eqL c7237 tk_0) (by decide) (by decide)
    exact K_12 
  ·
    have i2_x1 : tq_iv 0 5 x1 := tq_cut (tq_top x1) (g_t_2 c7237) (by decide) (by decide)
    have i3_t_2 : tq_iv 1 1 t_2 := tq_w (tq_neLo c7237 i_t_2 tk_0) (by decide) (by decide)
    refine tz_if _ (fun c7236 => ?_) (fun c7236 => ?_)
    ·
      have i4_x2 : tq_iv 0 2147483647 x2 := tq_cut (tq_top x2) (tq_leR c7236 tk_0 (tq_top x2)) (by decide) (by decide)
      have L_19 : ∀ (n_19 : Nat) (k_19 : Nat → Int32 → Int32 → Int32 → Option (Int32)), (∀ (x3_19 : Int32) (x4_19 : Int32), tq_iv 0 2147483647 x3_19 → tq_iv 0 7776 x4_19 → (2147483647 - x4_19.toInt).toNat < n_19 → tz_O (fun (z : Int32) => tq_iv (-1) 7775 z) (k_19 h0 x1 x3_19 x4_19)) → ∀ (x3_19 : Int32) (x4_19 : Int32), tq_iv 0 2147483647 x3_19 → tq_iv 0 7776 x4_19 → (2147483647 - x4_19.toInt).toNat < n_19 + 1 → tz_O (fun (z : Int32) => tq_iv (-1) 7775 z) (z_X12_ghost_19 σ k_19 h0 x1 x3_19 x4_19) := by
        intro n_19 k_19 hk_19 x3_19 x4_19 i_x3_19 i_x4_19 hn_19
        unfold z_X12_ghost_19
        refine tz_bd (tz_X12_bittings hT k_h0) (fun t_22 i_t_22 => ?_)
        refine tz_if _ (fun c7231 => ?_) (fun c7231 => ?_)
        ·
          have i5_x4_19 : tq_iv 1 7776 x4_19 := tq_cut i_x4_19 (tq_leR c7231 i_t_22 i_x4_19) (by decide) (by decide)
          exact tz_some (tq_w tk_m1 (by decide) (by decide))
        ·
          have i6_x4_19 : tq_iv 0 7775 x4_19 := tq_cut i_x4_19 (tq_ltL (tq_nle c7231) i_x4_19 i_t_22) (by decide) (by decide)
          refine tz_bd (tz_X12_isGhost hT k_h0 i6_x4_19 i2_x1) (fun t_32 i_t_32 => ?_)
          have K_51 : ∀ (x3_51 : Int32), tq_iv 0 2147483647 x3_51 → tz_O (fun (z : Int32) => tq_iv (-1) 7775 z) (z_X12_ghost_51 σ k_19 h0 x1 x3_51 x4_19) := by
            intro x3_51 i_x3_51
            unfold z_X12_ghost_51
            refine tz_let (fun t_51 e7222 => ?_)
            have i7_t_51 : tq_iv 1 7776 t_51 := tq_w (tq_add e7222 i6_x4_19 tk_1 (by decide) (by decide)) (by decide) (by decide)
            exact hk_19 x3_51 t_51 i_x3_51 (tq_w i7_t_51 (by decide) (by decide)) (tq_up e7222 i6_x4_19 tk_1 (by decide) (by decide) hn_19)
          refine tz_if _ (fun c7229 => ?_) (fun c7229 => ?_)
          ·
            have i8_t_32 : tq_iv 0 0 t_32 := tq_cut i_t_32 (tq_eqL c7229 tk_0) (by decide) (by decide)
            exact K_51 x3_19 i_x3_19
          ·
            have i9_t_32 : tq_iv 1 1 t_32 := tq_w (tq_neLo c7229 i_t_32 tk_0) (by decide) (by decide)
            refine tz_if _ (fun c7228 => ?_) (fun c7228 => ?_)
            ·
              have i10_x3_19 : tq_iv 0 0 x3_19 := tq_cut i_x3_19 (tq_eqL c7228 tk_0) (by decide) (by decide)
              exact tz_some (tq_w i6_x4_19 (by decide) (by decide))
            ·
              have i11_x3_19 : tq_iv 1 2147483647 x3_19 := tq_w (tq_neLo c7228 i_x3_19 tk_0) (by decide) (by decide)
              refine tz_let (fun t_48 e7227 => ?_)
              have i12_t_48 : tq_iv 0 2147483646 t_48 := tq_w (tq_add e7227 i11_x3_19 tk_m1 (by decide) (by decide)) (by decide) (by decide)
              exact K_51 t_48 (tq_w i12_t_48 (by decide) (by decide))
      have E_19 : ∀ (x3_19 : Int32) (x4_19 : Int32), tq_iv 0 2147483647 x3_19 → tq_iv 0 7776 x4_19 → tz_O (fun (z : Int32) => tq_iv (-1) 7775 z) (ez_fix (fun _ _ _ _ => none) (z_X12_ghost_19 σ) ez_N h0 x1 x3_19 x4_19) := by
        intro x3_19 x4_19 i_x3_19 i_x4_19
        exact ez_fix_indn (fun n_19 (k_19 : Nat → Int32 → Int32 → Int32 → Option (Int32)) => ∀ (x3_19 : Int32) (x4_19 : Int32), tq_iv 0 2147483647 x3_19 → tq_iv 0 7776 x4_19 → (2147483647 - x4_19.toInt).toNat < n_19 → tz_O (fun (z : Int32) => tq_iv (-1) 7775 z) (k_19 h0 x1 x3_19 x4_19)) (by intros; rename_i h; exact absurd h (Nat.not_lt_zero _)) L_19 ez_N x3_19 x4_19 i_x3_19 i_x4_19 (tq_m0 x4_19)
      exact E_19 x2 (0 : Int32) i4_x2 (tq_w tk_0 (by decide) (by decide))
    ·
      have i13_x2 : tq_iv (-2147483648) (-1) x2 := tq_cut (tq_top x2) (tq_ltL (tq_nle c7236) (tq_top x2) tk_0) (by decide) (by decide)
      exact K_12
set_option maxRecDepth 4000 in
theorem tz_X12_ghostsOf {p : tz_P} {σ : ez_H} {h0 : Nat} {x1 : Int32} (hT : tp p σ) (k_h0 : tz_C h0 = some (3, 12, 0, 0)) (i_x1 : tq_iv 0 5 x1) : tz_O (fun z => tq_iv (-2147483648) 2147483647 z) (z_X12_ghostsOf σ h0 x1) := by
  unfold z_X12_ghostsOf
  refine tz_bd (tz_ob hT k_h0) (fun _ _ => ?_)
  have L_4 : ∀ (n_4 : Nat) (k_4 : Nat → Int32 → Int32 → Int32 → Option (Int32)), (∀ (x2_4 : Int32) (x3_4 : Int32), tq_iv 0 7776 x3_4 → (2147483647 - x3_4.toInt).toNat < n_4 → tz_O (fun (z : Int32) => tq_iv (-2147483648) 2147483647 z) (k_4 h0 x1 x2_4 x3_4)) → ∀ (x2_4 : Int32) (x3_4 : Int32), tq_iv 0 7776 x3_4 → (2147483647 - x3_4.toInt).toNat < n_4 + 1 → tz_O (fun (z : Int32) => tq_iv (-2147483648) 2147483647 z) (z_X12_ghostsOf_4 σ k_4 h0 x1 x2_4 x3_4) := by
    intro n_4 k_4 hk_4 x2_4 x3_4 i_x3_4 hn_4
    unfold z_X12_ghostsOf_4
    refine tz_bd (tz_X12_bittings hT k_h0) (fun t_6 i_t_6 => ?_)
    refine tz_if _ (fun c7248 => ?_) (fun c7248 => ?_)
    ·
      have i1_x3_4 : tq_iv 1 7776 x3_4 := tq_cut i_x3_4 (tq_leR c7248 i_t_6 i_x3_4) (by decide) (by decide)
      exact tz_some (tq_top x2_4)
    ·
      have i2_x3_4 : tq_iv 0 7775 x3_4 := tq_cut i_x3_4 (tq_ltL (tq_nle c7248) i_x3_4 i_t_6) (by decide) (by decide)
      refine tz_bd (tz_X12_isGhost hT k_h0 i2_x3_4 i_x1) (fun t_15 i_t_15 => ?_)
      have K_24 : ∀ (x2_24 : Int32), tz_O (fun (z : Int32) => tq_iv (-2147483648) 2147483647 z) (z_X12_ghostsOf_24 σ k_4 h0 x1 x2_24 x3_4) := by
        intro x2_24
        unfold z_X12_ghostsOf_24
        refine tz_let (fun t_24 e7241 => ?_)
        have i3_t_24 : tq_iv 1 7776 t_24 := tq_w (tq_add e7241 i2_x3_4 tk_1 (by decide) (by decide)) (by decide) (by decide)
        exact hk_4 x2_24 t_24 (tq_w i3_t_24 (by decide) (by decide)) (tq_up e7241 i2_x3_4 tk_1 (by decide) (by decide) hn_4)
      refine tz_if _ (fun c7246 => ?_) (fun c7246 => ?_)
      ·
        have i4_t_15 : tq_iv 0 0 t_15 := tq_cut i_t_15 (tq_eqL c7246 tk_0) (by decide) (by decide)
        exact K_24 x2_4
      ·
        have i5_t_15 : tq_iv 1 1 t_15 := tq_w (tq_neLo c7246 i_t_15 tk_0) (by decide) (by decide)
        refine tz_let (fun t_21 e7245 => ?_)
        exact K_24 t_21
  have E_4 : ∀ (x2_4 : Int32) (x3_4 : Int32), tq_iv 0 7776 x3_4 → tz_O (fun (z : Int32) => tq_iv (-2147483648) 2147483647 z) (ez_fix (fun _ _ _ _ => none) (z_X12_ghostsOf_4 σ) ez_N h0 x1 x2_4 x3_4) := by
    intro x2_4 x3_4 i_x3_4
    exact ez_fix_indn (fun n_4 (k_4 : Nat → Int32 → Int32 → Int32 → Option (Int32)) => ∀ (x2_4 : Int32) (x3_4 : Int32), tq_iv 0 7776 x3_4 → (2147483647 - x3_4.toInt).toNat < n_4 → tz_O (fun (z : Int32) => tq_iv (-2147483648) 2147483647 z) (k_4 h0 x1 x2_4 x3_4)) (by intros; rename_i h; exact absurd h (Nat.not_lt_zero _)) L_4 ez_N x2_4 x3_4 i_x3_4 (tq_m0 x3_4)
  exact E_4 (0 : Int32) (0 : Int32) (tq_w tk_0 (by decide) (by decide))
set_option maxRecDepth 4000 in
theorem tz_X12_ghosts {p : tz_P} {σ : ez_H} {h0 : Nat} {x1 : Int32} (hT : tp p σ) (k_h0 : tz_C h0 = some (3, 12, 0, 0)) : tz_O (fun z => tq_iv (-2147483648) 2147483647 z) (z_X12_ghosts σ h0 x1) := by
  unfold z_X12_ghosts
  refine tz_bd (tz_ob hT k_h0) (fun _ _ => ?_)
  refine tz_bd (tz_X12_isLock hT k_h0) (fun t_2 ⟨i_t_2, g_t_2⟩ => ?_)
  have K_17 : ∀ (y0_17 : Int32), tz_O (fun (z : Int32) => tq_iv (-2147483648) 2147483647 z) (z_X12_ghosts_17 σ y0_17) := by
    intro y0_17
    unfold z_X12_ghosts_17
    exact tz_some (tq_top y0_17)
  refine tz_if _ (fun c7256 => ?_) (fun c7256 => ?_)
  ·
    have i1_t_2 : tq_iv 0 0 t_2 := tq_cut i_t_2 (tq_eqL c7256 tk_0) (by decide) (by decide)
    exact K_17 (-1 : Int32)
  ·
    have i2_x1 : tq_iv 0 5 x1 := tq_cut (tq_top x1) (g_t_2 c7256) (by decide) (by decide)
    have i3_t_2 : tq_iv 1 1 t_2 := tq_w (tq_neLo c7256 i_t_2 tk_0) (by decide) (by decide)
    refine tz_bd (tz_X12_ghostsOf hT k_h0 i2_x1) (fun t_10 i_t_10 => ?_)
    exact K_17 t_10
set_option maxRecDepth 4000 in
theorem tz_X12_give {p : tz_P} {σ : ez_H} {h0 : Nat} {x1 : Int32} {x2 : Int32} (hT : tp p σ) (k_h0 : tz_C h0 = some (3, 12, 0, 0)) : tz_O2 (fun (z : Int32) (s : ez_H) => tq_iv (-3) 3 z ∧ (tp p s ∨ tp (kp p) s)) (z_X12_give σ h0 x1 x2) := by
  show tz_O (fun z : Int32 × ez_H => (fun (z : Int32) (s : ez_H) => tq_iv (-3) 3 z ∧ (tp p s ∨ tp (kp p) s)) z.1 z.2) _
  unfold z_X12_give
  refine tz_bd (tz_ob hT k_h0) (fun _ _ => ?_)
  refine tz_bd (tz_X12_isKey hT k_h0) (fun t_2 ⟨i_t_2, g_t_2⟩ => ?_)
  have K_35 : tz_O (fun z : Int32 × ez_H => (fun (z : Int32) (s : ez_H) => tq_iv (-3) 3 z ∧ (tp p s ∨ tp (kp p) s)) z.1 z.2) (z_X12_give_35 σ) := by
    unfold z_X12_give_35
    exact tz_some ⟨(tq_w tk_m3 (by decide) (by decide)), (Or.inl hT)⟩
  refine tz_if _ (fun c7285 => ?_) (fun c7285 => ?_)
  ·
    have i1_t_2 : tq_iv 0 0 t_2 := tq_cut i_t_2 (tq_eqL c7285 tk_0) (by decide) (by decide)
    exact K_35 
  ·
    have i2_x1 : tq_iv 0 7 x1 := tq_cut (tq_top x1) (g_t_2 c7285) (by decide) (by decide)
    have i3_t_2 : tq_iv 1 1 t_2 := tq_w (tq_neLo c7285 i_t_2 tk_0) (by decide) (by decide)
    refine tz_bd (tz_X12_isPerson hT k_h0) (fun t_10 ⟨i_t_10, g_t_10⟩ => ?_)
    refine tz_if _ (fun c7283 => ?_) (fun c7283 => ?_)
    ·
      have i4_t_10 : tq_iv 0 0 t_10 := tq_cut i_t_10 (tq_eqL c7283 tk_0) (by decide) (by decide)
      exact K_35 
    ·
      have i5_x2 : tq_iv 0 3 x2 := tq_cut (tq_top x2) (g_t_10 c7283) (by decide) (by decide)
      have i6_t_10 : tq_iv 1 1 t_10 := tq_w (tq_neLo c7283 i_t_10 tk_0) (by decide) (by decide)
      refine tz_bd (tz_X12_holderOf hT k_h0 i2_x1) (fun t_18 i_t_18 => ?_)
      refine tz_if _ (fun c7281 => ?_) (fun c7281 => ?_)
      ·
        have i7_t_18 : tq_iv 0 3 t_18 := tq_cut i_t_18 (tq_eqL c7281 i5_x2) (by decide) (by decide)
        exact K_35 
      ·
        refine tz_bd (tz_X12_holderOf hT k_h0 i2_x1) (fun t_27 i_t_27 => ?_)
        refine tz_if _ (fun c7279 => ?_) (fun c7279 => ?_)
        ·
          have i8_t_27 : tq_iv (-2) (-2) t_27 := tq_cut i_t_27 (tq_eqL c7279 tk_m2) (by decide) (by decide)
          exact K_35 
        ·
          have i9_t_27 : tq_iv (-1) 3 t_27 := tq_w (tq_neLo c7279 i_t_27 tk_m2) (by decide) (by decide)
          refine tz_bd (tz_X12_holderOf hT k_h0 i2_x1) (fun t_40 i_t_40 => ?_)
          have K_74 : tz_O (fun z : Int32 × ez_H => (fun (z : Int32) (s : ez_H) => tq_iv (-3) 3 z ∧ (tp p s ∨ tp (kp p) s)) z.1 z.2) (z_X12_give_74 σ h0 x1 x2) := by
            unfold z_X12_give_74
            refine tz_b2 (tz_X12_hand hT k_h0 i2_x1 (tq_w i5_x2 (by decide) (by decide))) (fun t_77 σ7261 ⟨i_t_77, T7261⟩ => ?_)
            exact tz_some ⟨(tq_w i_t_77 (by decide) (by decide)), (Or.inr T7261)⟩
          refine tz_if _ (fun c7277 => ?_) (fun c7277 => ?_)
          ·
            have i10_t_40 : tq_iv (-2) (-1) t_40 := tq_cut i_t_40 (tq_ltL c7277 i_t_40 tk_0) (by decide) (by decide)
            exact K_74 
          ·
            have i11_t_40 : tq_iv 0 3 t_40 := tq_cut i_t_40 (tq_leR (tq_nlt c7277) tk_0 i_t_40) (by decide) (by decide)
            refine tz_bk (tr_53 hT k_h0) ?_
            refine tz_bd (tz_X12_holderOf hT k_h0 i2_x1) (fun t_54 i_t_54 => ?_)
            refine tz_let (fun t_57 e7274 => ?_)
            have i12_t_57 : tq_iv 84 89 t_57 := tq_w (tq_add e7274 tk_86 i_t_54 (by decide) (by decide)) (by decide) (by decide)
            refine tz_be (tz_iaS hT tc_205 (ts_205 (p := p) 84 89 (-2147483648) 2147483647 (by decide)) i12_t_57 (by decide) (by decide)) (fun t_58 e7273 i_t_58 => ?_)
            refine tz_bk (tr_53 hT k_h0) ?_
            refine tz_let (fun t_66 e7271 => ?_)
            have i13_t_66 : tq_iv 86 89 t_66 := tq_w (tq_add e7271 tk_86 i5_x2 (by decide) (by decide)) (by decide) (by decide)
            refine tz_be (tz_iaS hT tc_205 (ts_205 (p := p) 86 89 0 5 (by decide)) i13_t_66 (by decide) (by decide)) (fun t_67 e7270 i_t_67 => ?_)
            refine tz_if _ (fun c7269 => ?_) (fun c7269 => ?_)
            ·
              have i14_t_58 : tq_iv 0 5 t_58 := tq_cut (tq_top t_58) (tq_eqL c7269 i_t_67) (by decide) (by decide)
              exact K_74 
            ·
              exact tz_some ⟨(tq_w tk_m3 (by decide) (by decide)), (Or.inl hT)⟩
set_option maxRecDepth 4000 in
theorem tz_X12_hang {p : tz_P} {σ : ez_H} {h0 : Nat} {x1 : Int32} (hT : tp p σ) (k_h0 : tz_C h0 = some (3, 12, 0, 0)) : tz_O2 (fun (z : Int32) (s : ez_H) => tq_iv (-3) 3 z ∧ (tp p s ∨ tp (kp p) s)) (z_X12_hang σ h0 x1) := by
  show tz_O (fun z : Int32 × ez_H => (fun (z : Int32) (s : ez_H) => tq_iv (-3) 3 z ∧ (tp p s ∨ tp (kp p) s)) z.1 z.2) _
  unfold z_X12_hang
  refine tz_bd (tz_ob hT k_h0) (fun _ _ => ?_)
  refine tz_bd (tz_X12_isKey hT k_h0) (fun t_2 ⟨i_t_2, g_t_2⟩ => ?_)
  have K_27 : ∀ (σ_27 : ez_H) (y0_27 : Int32) (q_27 : tz_P), (q_27 = p ∨ q_27 = kp p) → tp q_27 σ_27 → tq_iv (-3) 3 y0_27 → tz_O (fun z : Int32 × ez_H => (fun (z : Int32) (s : ez_H) => tq_iv (-3) 3 z ∧ (tp p s ∨ tp (kp p) s)) z.1 z.2) (z_X12_hang_27 σ_27 y0_27) := by
    intro σ_27 y0_27 q_27 hq_27 T_σ_27 i_y0_27
    unfold z_X12_hang_27
    exact tz_some ⟨i_y0_27, (tz_or hq_27 T_σ_27)⟩
  have K_25 : tz_O (fun z : Int32 × ez_H => (fun (z : Int32) (s : ez_H) => tq_iv (-3) 3 z ∧ (tp p s ∨ tp (kp p) s)) z.1 z.2) (z_X12_hang_25 σ) := by
    unfold z_X12_hang_25
    exact K_27 σ (-3 : Int32) p (Or.inl rfl) hT (tq_w tk_m3 (by decide) (by decide))
  refine tz_if _ (fun c7296 => ?_) (fun c7296 => ?_)
  ·
    have i1_t_2 : tq_iv 0 0 t_2 := tq_cut i_t_2 (tq_eqL c7296 tk_0) (by decide) (by decide)
    exact K_25 
  ·
    have i2_x1 : tq_iv 0 7 x1 := tq_cut (tq_top x1) (g_t_2 c7296) (by decide) (by decide)
    have i3_t_2 : tq_iv 1 1 t_2 := tq_w (tq_neLo c7296 i_t_2 tk_0) (by decide) (by decide)
    refine tz_bd (tz_X12_holderOf hT k_h0 i2_x1) (fun t_10 i_t_10 => ?_)
    refine tz_if _ (fun c7294 => ?_) (fun c7294 => ?_)
    ·
      have i4_t_10 : tq_iv (-2) (-1) t_10 := tq_cut i_t_10 (tq_ltL c7294 i_t_10 tk_0) (by decide) (by decide)
      exact K_25 
    ·
      have i5_t_10 : tq_iv 0 3 t_10 := tq_cut i_t_10 (tq_leR (tq_nlt c7294) tk_0 i_t_10) (by decide) (by decide)
      refine tz_b2 (tz_X12_hand hT k_h0 i2_x1 (tq_w tk_m1 (by decide) (by decide))) (fun t_19 σ7293 ⟨i_t_19, T7293⟩ => ?_)
      exact K_27 σ7293 t_19 (kp p) (Or.inr rfl) T7293 (tq_w i_t_19 (by decide) (by decide))
set_option maxRecDepth 4000 in
theorem tz_X12_haunted {p : tz_P} {σ : ez_H} {h0 : Nat} (hT : tp p σ) (k_h0 : tz_C h0 = some (3, 12, 0, 0)) : tz_O (fun z => tq_iv (-1) 5 z) (z_X12_haunted σ h0) := by
  unfold z_X12_haunted
  refine tz_bd (tz_ob hT k_h0) (fun _ _ => ?_)
  have L_6 : ∀ (n_6 : Nat) (k_6 : Nat → Int32 → Int32 → Int32 → Option (Int32)), (∀ (x1_6 : Int32) (x2_6 : Int32) (x3_6 : Int32), tq_iv (-1) 5 x1_6 → tq_iv (-1) 2147483647 x2_6 → tq_iv 0 6 x3_6 → (2147483647 - x3_6.toInt).toNat < n_6 → tz_O (fun (z : Int32) => tq_iv (-1) 5 z) (k_6 h0 x1_6 x2_6 x3_6)) → ∀ (x1_6 : Int32) (x2_6 : Int32) (x3_6 : Int32), tq_iv (-1) 5 x1_6 → tq_iv (-1) 2147483647 x2_6 → tq_iv 0 6 x3_6 → (2147483647 - x3_6.toInt).toNat < n_6 + 1 → tz_O (fun (z : Int32) => tq_iv (-1) 5 z) (z_X12_haunted_6 σ k_6 h0 x1_6 x2_6 x3_6) := by
    intro n_6 k_6 hk_6 x1_6 x2_6 x3_6 i_x1_6 i_x2_6 i_x3_6 hn_6
    unfold z_X12_haunted_6
    refine tz_bd (tz_X12_bolts hT k_h0) (fun t_8 i_t_8 => ?_)
    refine tz_if _ (fun c7306 => ?_) (fun c7306 => ?_)
    ·
      exact tz_some i_x1_6
    ·
      have i1_x3_6 : tq_iv 0 5 x3_6 := tq_cut i_x3_6 (tq_ltL (tq_nle c7306) i_x3_6 i_t_8) (by decide) (by decide)
      have i2_t_8 : tq_iv 1 6 t_8 := tq_cut i_t_8 (tq_ltR (tq_nle c7306) i_x3_6 i_t_8) (by decide) (by decide)
      refine tz_bd (tz_X12_ghostsOf hT k_h0 i1_x3_6) (fun t_16 i_t_16 => ?_)
      have K_35 : ∀ (x1_35 : Int32) (x2_35 : Int32), tq_iv (-1) 5 x1_35 → tq_iv (-1) 2147483647 x2_35 → tz_O (fun (z : Int32) => tq_iv (-1) 5 z) (z_X12_haunted_35 σ k_6 h0 x1_35 x2_35 x3_6) := by
        intro x1_35 x2_35 i_x1_35 i_x2_35
        unfold z_X12_haunted_35
        refine tz_let (fun t_35 e7300 => ?_)
        have i3_t_35 : tq_iv 1 6 t_35 := tq_w (tq_add e7300 i1_x3_6 tk_1 (by decide) (by decide)) (by decide) (by decide)
        exact hk_6 x1_35 x2_35 t_35 i_x1_35 i_x2_35 (tq_w i3_t_35 (by decide) (by decide)) (tq_up e7300 i1_x3_6 tk_1 (by decide) (by decide) hn_6)
      refine tz_if _ (fun c7304 => ?_) (fun c7304 => ?_)
      ·
        have i4_x2_6 : tq_iv (-1) 2147483646 x2_6 := tq_cut i_x2_6 (tq_ltL c7304 i_x2_6 (tq_top t_16)) (by decide) (by decide)
        have i5_t_16 : tq_iv 0 2147483647 t_16 := tq_cut (tq_top t_16) (tq_ltR c7304 i_x2_6 (tq_top t_16)) (by decide) (by decide)
        exact K_35 x3_6 t_16 (tq_w i1_x3_6 (by decide) (by decide)) (tq_w i5_t_16 (by decide) (by decide))
      ·
        exact K_35 x1_6 x2_6 i_x1_6 i_x2_6
  have E_6 : ∀ (x1_6 : Int32) (x2_6 : Int32) (x3_6 : Int32), tq_iv (-1) 5 x1_6 → tq_iv (-1) 2147483647 x2_6 → tq_iv 0 6 x3_6 → tz_O (fun (z : Int32) => tq_iv (-1) 5 z) (ez_fix (fun _ _ _ _ => none) (z_X12_haunted_6 σ) ez_N h0 x1_6 x2_6 x3_6) := by
    intro x1_6 x2_6 x3_6 i_x1_6 i_x2_6 i_x3_6
    exact ez_fix_indn (fun n_6 (k_6 : Nat → Int32 → Int32 → Int32 → Option (Int32)) => ∀ (x1_6 : Int32) (x2_6 : Int32) (x3_6 : Int32), tq_iv (-1) 5 x1_6 → tq_iv (-1) 2147483647 x2_6 → tq_iv 0 6 x3_6 → (2147483647 - x3_6.toInt).toNat < n_6 → tz_O (fun (z : Int32) => tq_iv (-1) 5 z) (k_6 h0 x1_6 x2_6 x3_6)) (by intros; rename_i h; exact absurd h (Nat.not_lt_zero _)) L_6 ez_N x1_6 x2_6 x3_6 i_x1_6 i_x2_6 i_x3_6 (tq_m0 x3_6)
  exact E_6 (-1 : Int32) (-1 : Int32) (0 : Int32) (tq_w tk_m1 (by decide) (by decide)) (tq_w tk_m1 (by decide) (by decide)) (tq_w tk_0 (by decide) (by decide))
set_option maxRecDepth 4000 in
theorem tz_X12_idle {p : tz_P} {σ : ez_H} {h0 : Nat} {x1 : Int32} (hT : tp p σ) (k_h0 : tz_C h0 = some (3, 12, 0, 0)) : tz_O (fun z => tq_iv (-2147483648) 2147483647 z) (z_X12_idle σ h0 x1) := by
  unfold z_X12_idle
  refine tz_bd (tz_ob hT k_h0) (fun _ _ => ?_)
  have K_27 : ∀ (y0_27 : Int32), tz_O (fun (z : Int32) => tq_iv (-2147483648) 2147483647 z) (z_X12_idle_27 σ y0_27) := by
    intro y0_27
    unfold z_X12_idle_27
    exact tz_some (tq_top y0_27)
  refine tz_if _ (fun c7317 => ?_) (fun c7317 => ?_)
  ·
    have i1_x1 : tq_iv 0 0 x1 := tq_cut (tq_top x1) (tq_eqL c7317 tk_0) (by decide) (by decide)
    refine tz_bd (tz_X12_keysBy hT k_h0 (tq_w tk_m1 (by decide) (by decide))) (fun t_6 i_t_6 => ?_)
    exact K_27 t_6
  ·
    refine tz_if _ (fun c7316 => ?_) (fun c7316 => ?_)
    ·
      have i2_x1 : tq_iv 1 1 x1 := tq_cut (tq_top x1) (tq_eqL c7316 tk_1) (by decide) (by decide)
      refine tz_bd (tz_X12_keysBy hT k_h0 (tq_w tk_m2 (by decide) (by decide))) (fun t_20 i_t_20 => ?_)
      exact K_27 t_20
    ·
      exact K_27 (-1 : Int32)
theorem tz_X12_image {p : tz_P} {σ : ez_H} {h0 : Nat} {x1 : Int32} (hT : tp p σ) (k_h0 : tz_C h0 = some (3, 12, 0, 0)) : tz_O2 (fun (z : Int32) (s : ez_H) => tq_iv (-2147483648) 2147483647 z ∧ tp p s) (z_X12_image σ h0 x1) := by
  unfold z_X12_image
  refine tz_bd (tz_ob hT k_h0) (fun _ _ => ?_)
  refine tz_bd (tz_X12_isIn hT) (fun t3 h3 => ?_)
  refine tz_if _ (fun _ => tz_some ⟨tq_top _, hT⟩) (fun c => ?_)
  obtain ⟨q1, q2⟩ := h3.2 c
  have q1 := le_c q1
  have q2 := le_c q2
  have e0 : (0 : Int32).toInt = 0 := by decide
  have e2 : (2 : Int32).toInt = 2 := by decide
  have ix : tq_iv 0 40 x1 := ⟨by omega, by omega⟩
  refine lpG (fun (k : ez_H → Nat → Int32 → Int32 → Option (Int32 × ez_H)) (a : ez_H × Int32) => k a.1 h0 x1 a.2) (fun a => tp p a.1 ∧ 0 ≤ a.2.toInt ∧ a.2.toInt ≤ 91) (fun a => (2147483647 - a.2.toInt).toNat) ?_ (σ, 0) ⟨hT, i00, i0n (by decide)⟩ (tq_m0 _)
  rintro k ⟨s, x⟩ ⟨hs, h1, h2⟩ hk
  have hs : tp p s := hs
  have h1 : 0 ≤ x.toInt := h1
  show tz_O _ (z_X12_image_13 k s h0 x1 x)
  unfold z_X12_image_13
  refine tz_if _ (fun _ => ?_) (fun c => ?_)
  · refine tz_bk (tr_69 hs k_h0) ?_
    refine tz_bd (tz_is hs tc_216 (te_2 (p := p)) (lo := 0) (hi := 2) ⟨by omega, by omega⟩ (by decide) (by decide) (tq_nar_boolean _)) (fun s2 hs2 => ?_)
    refine tz_bd (tz_X12_keysBy hs2 k_h0 ⟨by decide, by decide⟩) (fun t52 _ => ?_)
    refine tz_bd (tz_X12_bitsOf hs2) (fun t55 _ => ?_)
    exact tz_some ⟨tq_top _, hs2⟩
  have c := nle_c c
  have e91 := c91
  refine tz_bk (tr_68 hs k_h0) ?_
  refine tz_let (fun t18 e18 => tz_let (fun t20 e20 => ?_))
  have h20 := tq_91 e18 e20 ix h1 (by omega)
  refine tz_bk (tr_53 hs k_h0) ?_
  refine tz_bd (rd_205 hs h1 (by omega)) (fun w hw => ?_)
  refine tz_bd (wr_215 hs (by omega) (by omega) (by omega) hw) (fun s2 hs2 => ?_)
  refine tz_let (fun t e => ?_)
  have ht := tq_inc e h1 (by omega)
  exact hk (s2, t) ⟨hs2, by show 0 ≤ t.toInt; omega, by show t.toInt ≤ 91; omega⟩ (by show (2147483647 - t.toInt).toNat < (2147483647 - x.toInt).toNat; omega)
theorem tz_X12_keepNow {p : tz_P} {σ : ez_H} {h0 : Nat} (hT : tp p σ) (k_h0 : tz_C h0 = some (3, 12, 0, 0)) : tz_O2 (fun (z : Unit) (s : ez_H) => tp p s) (z_X12_keepNow σ h0) := by
  unfold z_X12_keepNow
  refine tz_bd (tz_ob hT k_h0) (fun _ _ => ?_)
  refine lpG (fun (k : ez_H → Nat → Int32 → Option (Unit × ez_H)) (a : ez_H × Int32) => k a.1 h0 a.2) (fun a => tp p a.1 ∧ 0 ≤ a.2.toInt ∧ a.2.toInt ≤ 91) (fun a => (2147483647 - a.2.toInt).toNat) ?_ (σ, 0) ⟨hT, i00, i0n (by decide)⟩ (tq_m0 _)
  rintro k ⟨s, x⟩ ⟨hs, h1, h2⟩ hk
  have hs : tp p s := hs
  have h1 : 0 ≤ x.toInt := h1
  show tz_O _ (z_X12_keepNow_2 k s h0 x)
  unfold z_X12_keepNow_2
  refine tz_if _ (fun _ => tz_some hs) (fun c => ?_)
  have c := nle_c c
  have e91 := c91
  refine tz_bk (tr_54 hs k_h0) ?_
  refine tz_bk (tr_53 hs k_h0) ?_
  refine tz_bd (rd_205 hs h1 (by omega)) (fun v hv => ?_)
  refine tz_bd (wr_206 hs h1 (by omega) hv) (fun s2 hs2 => ?_)
  refine tz_let (fun t e => ?_)
  have ht := tq_inc e h1 (by omega)
  exact hk (s2, t) ⟨hs2, by show 0 ≤ t.toInt; omega, by show t.toInt ≤ 91; omega⟩ (by show (2147483647 - t.toInt).toNat < (2147483647 - x.toInt).toNat; omega)
set_option maxRecDepth 4000 in
theorem tz_X12_cutAnew {p : tz_P} {σ : ez_H} {h0 : Nat} {x1 : Int32} {x2 : Int32} (hT : tp p σ) (k_h0 : tz_C h0 = some (3, 12, 0, 0)) (i_x1 : tq_iv 0 7 x1) (i_x2 : tq_iv 0 7775 x2) : tz_O2 (fun (z : Unit) (s : ez_H) => tp p s) (z_X12_cutAnew σ h0 x1 x2) := by
  show tz_O (fun z : Unit × ez_H => (fun (z : Unit) (s : ez_H) => tp p s) z.1 z.2) _
  unfold z_X12_cutAnew
  refine tz_bd (tz_ob hT k_h0) (fun _ _ => ?_)
  have L_2 : ∀ (n_2 : Nat) (k_2 : ez_H → Nat → Int32 → Int32 → Int32 → Option (Unit × ez_H)), (∀ (σ_2 : ez_H) (x3_2 : Int32), tp p σ_2 → tq_iv 0 5 x3_2 → (2147483647 - x3_2.toInt).toNat < n_2 → tz_O (fun z : Unit × ez_H => (fun (z : Unit) (s : ez_H) => tp p s) z.1 z.2) (k_2 σ_2 h0 x1 x2 x3_2)) → ∀ (σ_2 : ez_H) (x3_2 : Int32), tp p σ_2 → tq_iv 0 5 x3_2 → (2147483647 - x3_2.toInt).toNat < n_2 + 1 → tz_O (fun z : Unit × ez_H => (fun (z : Unit) (s : ez_H) => tp p s) z.1 z.2) (z_X12_cutAnew_2 k_2 σ_2 h0 x1 x2 x3_2) := by
    intro n_2 k_2 hk_2 σ_2 x3_2 T_σ_2 i_x3_2 hn_2
    unfold z_X12_cutAnew_2
    refine tz_bd (tz_X12_wide T_σ_2 k_h0) (fun t_4 i_t_4 => ?_)
    refine tz_if _ (fun c7357 => ?_) (fun c7357 => ?_)
    ·
      have i1_x3_2 : tq_iv 2 5 x3_2 := tq_cut i_x3_2 (tq_leR c7357 i_t_4 i_x3_2) (by decide) (by decide)
      exact tz_some T_σ_2
    ·
      have i2_x3_2 : tq_iv 0 4 x3_2 := tq_cut i_x3_2 (tq_ltL (tq_nle c7357) i_x3_2 i_t_4) (by decide) (by decide)
      refine tz_bk (tr_53 T_σ_2 k_h0) ?_
      refine tz_let (fun t_17 e7355 => ?_)
      have i3_t_17 : tq_iv 0 35 t_17 := tq_w (tq_mul e7355 tk_5 i_x1 (by decide) (by decide) (by decide)) (by decide) (by decide)
      refine tz_let (fun t_18 e7354 => ?_)
      have i4_t_18 : tq_iv 0 35 t_18 := tq_w (tq_add e7354 tk_0 i3_t_17 (by decide) (by decide)) (by decide) (by decide)
      refine tz_let (fun t_20 e7353 => ?_)
      have i5_t_20 : tq_iv 0 39 t_20 := tq_w (tq_add e7353 i4_t_18 i2_x3_2 (by decide) (by decide)) (by decide) (by decide)
      refine tz_bd (tz_X12_cutIn T_σ_2 k_h0 i_x2 i2_x3_2) (fun t_24 i_t_24 => ?_)
      refine tz_be (tz_isS T_σ_2 tc_205 (tS_205 (p := p) 0 39 (-2147483648) 2147483647 (by decide)) i5_t_20 (by decide) (by decide) (tq_top t_24)) (fun σ7351 e7351 T7351 => ?_)
      refine tz_let (fun t_28 e7350 => ?_)
      have i6_t_28 : tq_iv 1 5 t_28 := tq_w (tq_add e7350 i2_x3_2 tk_1 (by decide) (by decide)) (by decide) (by decide)
      exact hk_2 σ7351 t_28 T7351 (tq_w i6_t_28 (by decide) (by decide)) (tq_up e7350 i2_x3_2 tk_1 (by decide) (by decide) hn_2)
  have E_2 : ∀ (σ_2 : ez_H) (x3_2 : Int32), tp p σ_2 → tq_iv 0 5 x3_2 → tz_O (fun z : Unit × ez_H => (fun (z : Unit) (s : ez_H) => tp p s) z.1 z.2) (ez_fix (fun _ _ _ _ _ => none) (z_X12_cutAnew_2) ez_N σ_2 h0 x1 x2 x3_2) := by
    intro σ_2 x3_2 T_σ_2 i_x3_2
    exact ez_fix_indn (fun n_2 (k_2 : ez_H → Nat → Int32 → Int32 → Int32 → Option (Unit × ez_H)) => ∀ (σ_2 : ez_H) (x3_2 : Int32), tp p σ_2 → tq_iv 0 5 x3_2 → (2147483647 - x3_2.toInt).toNat < n_2 → tz_O (fun z : Unit × ez_H => (fun (z : Unit) (s : ez_H) => tp p s) z.1 z.2) (k_2 σ_2 h0 x1 x2 x3_2)) (by intros; rename_i h; exact absurd h (Nat.not_lt_zero _)) L_2 ez_N σ_2 x3_2 T_σ_2 i_x3_2 (tq_m0 x3_2)
  exact E_2 σ (0 : Int32) hT (tq_w tk_0 (by decide) (by decide))
set_option maxRecDepth 4000 in
theorem tz_X12_pinFor {p : tz_P} {σ : ez_H} {h0 : Nat} {x1 : Int32} {x2 : Int32} (hT : tp p σ) (k_h0 : tz_C h0 = some (3, 12, 0, 0)) (i_x1 : tq_iv 0 5 x1) : tz_O2 (fun (z : Unit) (s : ez_H) => tp p s) (z_X12_pinFor σ h0 x1 x2) := by
  show tz_O (fun z : Unit × ez_H => (fun (z : Unit) (s : ez_H) => tp p s) z.1 z.2) _
  unfold z_X12_pinFor
  refine tz_bd (tz_ob hT k_h0) (fun _ _ => ?_)
  have L_2 : ∀ (n_2 : Nat) (k_2 : ez_H → Nat → Int32 → Int32 → Int32 → Option (Unit × ez_H)), (∀ (σ_2 : ez_H) (x3_2 : Int32), tp p σ_2 → tq_iv 0 5 x3_2 → (2147483647 - x3_2.toInt).toNat < n_2 → tz_O (fun z : Unit × ez_H => (fun (z : Unit) (s : ez_H) => tp p s) z.1 z.2) (k_2 σ_2 h0 x1 x2 x3_2)) → ∀ (σ_2 : ez_H) (x3_2 : Int32), tp p σ_2 → tq_iv 0 5 x3_2 → (2147483647 - x3_2.toInt).toNat < n_2 + 1 → tz_O (fun z : Unit × ez_H => (fun (z : Unit) (s : ez_H) => tp p s) z.1 z.2) (z_X12_pinFor_2 k_2 σ_2 h0 x1 x2 x3_2) := by
    intro n_2 k_2 hk_2 σ_2 x3_2 T_σ_2 i_x3_2 hn_2
    unfold z_X12_pinFor_2
    refine tz_bd (tz_X12_wide T_σ_2 k_h0) (fun t_4 i_t_4 => ?_)
    refine tz_if _ (fun c7381 => ?_) (fun c7381 => ?_)
    ·
      have i1_x3_2 : tq_iv 2 5 x3_2 := tq_cut i_x3_2 (tq_leR c7381 i_t_4 i_x3_2) (by decide) (by decide)
      exact tz_some T_σ_2
    ·
      have i2_x3_2 : tq_iv 0 4 x3_2 := tq_cut i_x3_2 (tq_ltL (tq_nle c7381) i_x3_2 i_t_4) (by decide) (by decide)
      have L_16 : ∀ (n_16 : Nat) (k_16 : ez_H → Nat → Int32 → Int32 → Int32 → Int32 → Int32 → Option (Unit × ez_H)), (∀ (x4_16 : Int32) (x5_16 : Int32), tq_iv 0 8 x5_16 → (2147483647 - x5_16.toInt).toNat < n_16 → tz_O (fun z : Unit × ez_H => (fun (z : Unit) (s : ez_H) => tp p s) z.1 z.2) (k_16 σ_2 h0 x1 x2 x3_2 x4_16 x5_16)) → ∀ (x4_16 : Int32) (x5_16 : Int32), tq_iv 0 8 x5_16 → (2147483647 - x5_16.toInt).toNat < n_16 + 1 → tz_O (fun z : Unit × ez_H => (fun (z : Unit) (s : ez_H) => tp p s) z.1 z.2) (z_X12_pinFor_16 k_2 k_16 σ_2 h0 x1 x2 x3_2 x4_16 x5_16) := by
        intro n_16 k_16 hk_16 x4_16 x5_16 i_x5_16 hn_16
        unfold z_X12_pinFor_16
        refine tz_bd (tz_X12_many T_σ_2 k_h0) (fun t_19 i_t_19 => ?_)
        refine tz_if _ (fun c7377 => ?_) (fun c7377 => ?_)
        ·
          refine tz_bk (tr_53 T_σ_2 k_h0) ?_
          refine tz_let (fun t_62 e7368 => ?_)
          have i3_t_62 : tq_iv 0 25 t_62 := tq_w (tq_mul e7368 tk_5 i_x1 (by decide) (by decide) (by decide)) (by decide) (by decide)
          refine tz_let (fun t_63 e7367 => ?_)
          have i4_t_63 : tq_iv 56 81 t_63 := tq_w (tq_add e7367 tk_56 i3_t_62 (by decide) (by decide)) (by decide) (by decide)
          refine tz_let (fun t_65 e7366 => ?_)
          have i5_t_65 : tq_iv 56 85 t_65 := tq_w (tq_add e7366 i4_t_63 i2_x3_2 (by decide) (by decide)) (by decide) (by decide)
          refine tz_be (tz_isS T_σ_2 tc_205 (tS_205 (p := p) 56 85 (-2147483648) 2147483647 (by decide)) i5_t_65 (by decide) (by decide) (tq_top x4_16)) (fun σ7365 e7365 T7365 => ?_)
          refine tz_let (fun t_69 e7364 => ?_)
          have i6_t_69 : tq_iv 1 5 t_69 := tq_w (tq_add e7364 i2_x3_2 tk_1 (by decide) (by decide)) (by decide) (by decide)
          exact hk_2 σ7365 t_69 T7365 (tq_w i6_t_69 (by decide) (by decide)) (tq_up e7364 i2_x3_2 tk_1 (by decide) (by decide) hn_2)
        ·
          have i7_x5_16 : tq_iv 0 7 x5_16 := tq_cut i_x5_16 (tq_ltL (tq_nle c7377) i_x5_16 i_t_19) (by decide) (by decide)
          have i8_t_19 : tq_iv 1 8 t_19 := tq_cut i_t_19 (tq_ltR (tq_nle c7377) i_x5_16 i_t_19) (by decide) (by decide)
          refine tz_bd (tz_X12_bit T_σ_2) (fun t_28 i_t_28 => ?_)
          have K_48 : ∀ (x4_48 : Int32), tz_O (fun z : Unit × ez_H => (fun (z : Unit) (s : ez_H) => tp p s) z.1 z.2) (z_X12_pinFor_48 k_2 k_16 σ_2 h0 x1 x2 x3_2 x4_48 x5_16) := by
            intro x4_48
            unfold z_X12_pinFor_48
            refine tz_let (fun t_48 e7362 => ?_)
            have i9_t_48 : tq_iv 1 8 t_48 := tq_w (tq_add e7362 i7_x5_16 tk_1 (by decide) (by decide)) (by decide) (by decide)
            exact hk_16 x4_48 t_48 (tq_w i9_t_48 (by decide) (by decide)) (tq_up e7362 i7_x5_16 tk_1 (by decide) (by decide) hn_16)
          refine tz_if _ (fun c7375 => ?_) (fun c7375 => ?_)
          ·
            have i10_t_28 : tq_iv 0 0 t_28 := tq_cut i_t_28 (tq_eqL c7375 tk_0) (by decide) (by decide)
            exact K_48 x4_16
          ·
            have i11_t_28 : tq_iv 1 1 t_28 := tq_w (tq_neLo c7375 i_t_28 tk_0) (by decide) (by decide)
            refine tz_bd (tz_X12_cutOf T_σ_2 k_h0 i7_x5_16 i2_x3_2) (fun t_41 i_t_41 => ?_)
            refine tz_let (fun t_44 e7373 => ?_)
            refine tz_let (fun t_45 e7372 => ?_)
            exact K_48 t_45
      have E_16 : ∀ (x4_16 : Int32) (x5_16 : Int32), tq_iv 0 8 x5_16 → tz_O (fun z : Unit × ez_H => (fun (z : Unit) (s : ez_H) => tp p s) z.1 z.2) (ez_fix (fun _ _ _ _ _ _ _ => none) (z_X12_pinFor_16 k_2) ez_N σ_2 h0 x1 x2 x3_2 x4_16 x5_16) := by
        intro x4_16 x5_16 i_x5_16
        exact ez_fix_indn (fun n_16 (k_16 : ez_H → Nat → Int32 → Int32 → Int32 → Int32 → Int32 → Option (Unit × ez_H)) => ∀ (x4_16 : Int32) (x5_16 : Int32), tq_iv 0 8 x5_16 → (2147483647 - x5_16.toInt).toNat < n_16 → tz_O (fun z : Unit × ez_H => (fun (z : Unit) (s : ez_H) => tp p s) z.1 z.2) (k_16 σ_2 h0 x1 x2 x3_2 x4_16 x5_16)) (by intros; rename_i h; exact absurd h (Nat.not_lt_zero _)) L_16 ez_N x4_16 x5_16 i_x5_16 (tq_m0 x5_16)
      exact E_16 (0 : Int32) (0 : Int32) (tq_w tk_0 (by decide) (by decide))
  have E_2 : ∀ (σ_2 : ez_H) (x3_2 : Int32), tp p σ_2 → tq_iv 0 5 x3_2 → tz_O (fun z : Unit × ez_H => (fun (z : Unit) (s : ez_H) => tp p s) z.1 z.2) (ez_fix (fun _ _ _ _ _ => none) (z_X12_pinFor_2) ez_N σ_2 h0 x1 x2 x3_2) := by
    intro σ_2 x3_2 T_σ_2 i_x3_2
    exact ez_fix_indn (fun n_2 (k_2 : ez_H → Nat → Int32 → Int32 → Int32 → Option (Unit × ez_H)) => ∀ (σ_2 : ez_H) (x3_2 : Int32), tp p σ_2 → tq_iv 0 5 x3_2 → (2147483647 - x3_2.toInt).toNat < n_2 → tz_O (fun z : Unit × ez_H => (fun (z : Unit) (s : ez_H) => tp p s) z.1 z.2) (k_2 σ_2 h0 x1 x2 x3_2)) (by intros; rename_i h; exact absurd h (Nat.not_lt_zero _)) L_2 ez_N σ_2 x3_2 T_σ_2 i_x3_2 (tq_m0 x3_2)
  exact E_2 σ (0 : Int32) hT (tq_w tk_0 (by decide) (by decide))
set_option maxRecDepth 4000 in
theorem tz_X12_pinByPlan {p : tz_P} {σ : ez_H} {h0 : Nat} (hT : tp p σ) (k_h0 : tz_C h0 = some (3, 12, 0, 0)) : tz_O2 (fun (z : Unit) (s : ez_H) => tp p s) (z_X12_pinByPlan σ h0) := by
  show tz_O (fun z : Unit × ez_H => (fun (z : Unit) (s : ez_H) => tp p s) z.1 z.2) _
  unfold z_X12_pinByPlan
  refine tz_bd (tz_ob hT k_h0) (fun _ _ => ?_)
  have L_2 : ∀ (n_2 : Nat) (k_2 : ez_H → Nat → Int32 → Option (Unit × ez_H)), (∀ (σ_2 : ez_H) (x1_2 : Int32), tp p σ_2 → tq_iv 0 6 x1_2 → (2147483647 - x1_2.toInt).toNat < n_2 → tz_O (fun z : Unit × ez_H => (fun (z : Unit) (s : ez_H) => tp p s) z.1 z.2) (k_2 σ_2 h0 x1_2)) → ∀ (σ_2 : ez_H) (x1_2 : Int32), tp p σ_2 → tq_iv 0 6 x1_2 → (2147483647 - x1_2.toInt).toNat < n_2 + 1 → tz_O (fun z : Unit × ez_H => (fun (z : Unit) (s : ez_H) => tp p s) z.1 z.2) (z_X12_pinByPlan_2 k_2 σ_2 h0 x1_2) := by
    intro n_2 k_2 hk_2 σ_2 x1_2 T_σ_2 i_x1_2 hn_2
    unfold z_X12_pinByPlan_2
    refine tz_bd (tz_X12_bolts T_σ_2 k_h0) (fun t_4 i_t_4 => ?_)
    refine tz_if _ (fun c7394 => ?_) (fun c7394 => ?_)
    ·
      exact tz_some T_σ_2
    ·
      have i1_x1_2 : tq_iv 0 5 x1_2 := tq_cut i_x1_2 (tq_ltL (tq_nle c7394) i_x1_2 i_t_4) (by decide) (by decide)
      have i2_t_4 : tq_iv 1 6 t_4 := tq_cut i_t_4 (tq_ltR (tq_nle c7394) i_x1_2 i_t_4) (by decide) (by decide)
      refine tz_bd (tz_X12_mustOf T_σ_2 k_h0 i1_x1_2) (fun t_12 i_t_12 => ?_)
      have K_28 : ∀ (σ_28 : ez_H), tp p σ_28 → tz_O (fun z : Unit × ez_H => (fun (z : Unit) (s : ez_H) => tp p s) z.1 z.2) (z_X12_pinByPlan_28 k_2 σ_28 h0 x1_2) := by
        intro σ_28 T_σ_28
        unfold z_X12_pinByPlan_28
        refine tz_let (fun t_28 e7386 => ?_)
        have i3_t_28 : tq_iv 1 6 t_28 := tq_w (tq_add e7386 i1_x1_2 tk_1 (by decide) (by decide)) (by decide) (by decide)
        exact hk_2 σ_28 t_28 T_σ_28 (tq_w i3_t_28 (by decide) (by decide)) (tq_up e7386 i1_x1_2 tk_1 (by decide) (by decide) hn_2)
      refine tz_if _ (fun c7392 => ?_) (fun c7392 => ?_)
      ·
        have i4_t_12 : tq_iv 0 0 t_12 := tq_cut (tq_top t_12) (tq_eqL c7392 tk_0) (by decide) (by decide)
        exact K_28 σ_2 T_σ_2
      ·
        refine tz_bd (tz_X12_mustOf T_σ_2 k_h0 i1_x1_2) (fun t_22 i_t_22 => ?_)
        refine tz_b2 (tz_X12_pinFor T_σ_2 k_h0 i1_x1_2) (fun _ σ7390 T7390 => ?_)
        exact K_28 σ7390 T7390
  have E_2 : ∀ (σ_2 : ez_H) (x1_2 : Int32), tp p σ_2 → tq_iv 0 6 x1_2 → tz_O (fun z : Unit × ez_H => (fun (z : Unit) (s : ez_H) => tp p s) z.1 z.2) (ez_fix (fun _ _ _ => none) (z_X12_pinByPlan_2) ez_N σ_2 h0 x1_2) := by
    intro σ_2 x1_2 T_σ_2 i_x1_2
    exact ez_fix_indn (fun n_2 (k_2 : ez_H → Nat → Int32 → Option (Unit × ez_H)) => ∀ (σ_2 : ez_H) (x1_2 : Int32), tp p σ_2 → tq_iv 0 6 x1_2 → (2147483647 - x1_2.toInt).toNat < n_2 → tz_O (fun z : Unit × ez_H => (fun (z : Unit) (s : ez_H) => tp p s) z.1 z.2) (k_2 σ_2 h0 x1_2)) (by intros; rename_i h; exact absurd h (Nat.not_lt_zero _)) L_2 ez_N σ_2 x1_2 T_σ_2 i_x1_2 (tq_m0 x1_2)
  exact E_2 σ (0 : Int32) hT (tq_w tk_0 (by decide) (by decide))
set_option maxRecDepth 4000 in
theorem tz_X12_straysBy {p : tz_P} {σ : ez_H} {h0 : Nat} {x1 : Int32} (hT : tp p σ) (k_h0 : tz_C h0 = some (3, 12, 0, 0)) (i_x1 : tq_iv 0 2 x1) : tz_O (fun z => tq_iv (-2147483648) 2147483647 z) (z_X12_straysBy σ h0 x1) := by
  unfold z_X12_straysBy
  refine tz_bd (tz_ob hT k_h0) (fun _ _ => ?_)
  have L_10 : ∀ (n_10 : Nat) (k_10 : Nat → Int32 → Int32 → Int32 → Int32 → Int32 → Option (Int32)), (∀ (x2_10 : Int32) (x3_10 : Int32) (x4_10 : Int32) (x5_10 : Int32), tq_iv (-1) 7 x3_10 → tq_iv (-1) 5 x4_10 → tq_iv 0 8 x5_10 → (2147483647 - x5_10.toInt).toNat < n_10 → tz_O (fun (z : Int32) => tq_iv (-2147483648) 2147483647 z) (k_10 h0 x1 x2_10 x3_10 x4_10 x5_10)) → ∀ (x2_10 : Int32) (x3_10 : Int32) (x4_10 : Int32) (x5_10 : Int32), tq_iv (-1) 7 x3_10 → tq_iv (-1) 5 x4_10 → tq_iv 0 8 x5_10 → (2147483647 - x5_10.toInt).toNat < n_10 + 1 → tz_O (fun (z : Int32) => tq_iv (-2147483648) 2147483647 z) (z_X12_straysBy_10 σ k_10 h0 x1 x2_10 x3_10 x4_10 x5_10) := by
    intro n_10 k_10 hk_10 x2_10 x3_10 x4_10 x5_10 i_x3_10 i_x4_10 i_x5_10 hn_10
    unfold z_X12_straysBy_10
    refine tz_bd (tz_X12_many hT k_h0) (fun t_13 i_t_13 => ?_)
    refine tz_if _ (fun c7423 => ?_) (fun c7423 => ?_)
    ·
      have K_104 : ∀ (y0_104 : Int32), tz_O (fun (z : Int32) => tq_iv (-2147483648) 2147483647 z) (z_X12_straysBy_104 σ y0_104) := by
        intro y0_104
        unfold z_X12_straysBy_104
        exact tz_some (tq_top y0_104)
      refine tz_if _ (fun c7421 => ?_) (fun c7421 => ?_)
      ·
        have i1_x1 : tq_iv 0 0 x1 := tq_cut i_x1 (tq_eqL c7421 tk_0) (by decide) (by decide)
        exact K_104 x2_10
      ·
        have i2_x1 : tq_iv 1 2 x1 := tq_w (tq_neLo c7421 i_x1 tk_0) (by decide) (by decide)
        refine tz_if _ (fun c7420 => ?_) (fun c7420 => ?_)
        ·
          have i3_x1 : tq_iv 1 1 x1 := tq_cut i2_x1 (tq_eqL c7420 tk_1) (by decide) (by decide)
          exact K_104 x3_10
        ·
          have i4_x1 : tq_iv 2 2 x1 := tq_w (tq_neLo c7420 i2_x1 tk_1) (by decide) (by decide)
          exact K_104 x4_10
    ·
      have i5_x5_10 : tq_iv 0 7 x5_10 := tq_cut i_x5_10 (tq_ltL (tq_nle c7423) i_x5_10 i_t_13) (by decide) (by decide)
      have i6_t_13 : tq_iv 1 8 t_13 := tq_cut i_t_13 (tq_ltR (tq_nle c7423) i_x5_10 i_t_13) (by decide) (by decide)
      have L_22 : ∀ (n_22 : Nat) (k_22 : Nat → Int32 → Int32 → Int32 → Int32 → Int32 → Int32 → Option (Int32)), (∀ (x2_22 : Int32) (x3_22 : Int32) (x4_22 : Int32) (x6_22 : Int32), tq_iv (-1) 7 x3_22 → tq_iv (-1) 5 x4_22 → tq_iv 0 6 x6_22 → (2147483647 - x6_22.toInt).toNat < n_22 → tz_O (fun (z : Int32) => tq_iv (-2147483648) 2147483647 z) (k_22 h0 x1 x2_22 x3_22 x4_22 x5_10 x6_22)) → ∀ (x2_22 : Int32) (x3_22 : Int32) (x4_22 : Int32) (x6_22 : Int32), tq_iv (-1) 7 x3_22 → tq_iv (-1) 5 x4_22 → tq_iv 0 6 x6_22 → (2147483647 - x6_22.toInt).toNat < n_22 + 1 → tz_O (fun (z : Int32) => tq_iv (-2147483648) 2147483647 z) (z_X12_straysBy_22 σ k_10 k_22 h0 x1 x2_22 x3_22 x4_22 x5_10 x6_22) := by
        intro n_22 k_22 hk_22 x2_22 x3_22 x4_22 x6_22 i_x3_22 i_x4_22 i_x6_22 hn_22
        unfold z_X12_straysBy_22
        refine tz_bd (tz_X12_bolts hT k_h0) (fun t_25 i_t_25 => ?_)
        refine tz_if _ (fun c7415 => ?_) (fun c7415 => ?_)
        ·
          refine tz_let (fun t_79 e7404 => ?_)
          have i7_t_79 : tq_iv 1 8 t_79 := tq_w (tq_add e7404 i5_x5_10 tk_1 (by decide) (by decide)) (by decide) (by decide)
          exact hk_10 x2_22 x3_22 x4_22 t_79 i_x3_22 i_x4_22 (tq_w i7_t_79 (by decide) (by decide)) (tq_up e7404 i5_x5_10 tk_1 (by decide) (by decide) hn_10)
        ·
          have i8_x6_22 : tq_iv 0 5 x6_22 := tq_cut i_x6_22 (tq_ltL (tq_nle c7415) i_x6_22 i_t_25) (by decide) (by decide)
          have i9_t_25 : tq_iv 1 6 t_25 := tq_cut i_t_25 (tq_ltR (tq_nle c7415) i_x6_22 i_t_25) (by decide) (by decide)
          refine tz_bd (tz_X12_neverOf hT k_h0 i8_x6_22) (fun t_34 i_t_34 => ?_)
          refine tz_bd (tz_X12_bit hT) (fun t_39 i_t_39 => ?_)
          have K_73 : ∀ (x2_73 : Int32) (x3_73 : Int32) (x4_73 : Int32), tq_iv (-1) 7 x3_73 → tq_iv (-1) 5 x4_73 → tz_O (fun (z : Int32) => tq_iv (-2147483648) 2147483647 z) (z_X12_straysBy_73 σ k_10 k_22 h0 x1 x2_73 x3_73 x4_73 x5_10 x6_22) := by
            intro x2_73 x3_73 x4_73 i_x3_73 i_x4_73
            unfold z_X12_straysBy_73
            refine tz_let (fun t_73 e7400 => ?_)
            have i10_t_73 : tq_iv 1 6 t_73 := tq_w (tq_add e7400 i8_x6_22 tk_1 (by decide) (by decide)) (by decide) (by decide)
            exact hk_22 x2_73 x3_73 x4_73 t_73 i_x3_73 i_x4_73 (tq_w i10_t_73 (by decide) (by decide)) (tq_up e7400 i8_x6_22 tk_1 (by decide) (by decide) hn_22)
          refine tz_if _ (fun c7412 => ?_) (fun c7412 => ?_)
          ·
            have i11_t_39 : tq_iv 0 0 t_39 := tq_cut i_t_39 (tq_eqL c7412 tk_0) (by decide) (by decide)
            exact K_73 x2_22 x3_22 x4_22 i_x3_22 i_x4_22
          ·
            have i12_t_39 : tq_iv 1 1 t_39 := tq_w (tq_neLo c7412 i_t_39 tk_0) (by decide) (by decide)
            refine tz_bd (tz_X12_opensBy hT k_h0 i5_x5_10 i8_x6_22) (fun t_50 i_t_50 => ?_)
            refine tz_if _ (fun c7410 => ?_) (fun c7410 => ?_)
            ·
              have i13_t_50 : tq_iv 0 0 t_50 := tq_cut i_t_50 (tq_eqL c7410 tk_0) (by decide) (by decide)
              exact K_73 x2_22 x3_22 x4_22 i_x3_22 i_x4_22
            ·
              have i14_t_50 : tq_iv 1 1 t_50 := tq_w (tq_neLo c7410 i_t_50 tk_0) (by decide) (by decide)
              have K_70 : ∀ (x3_70 : Int32) (x4_70 : Int32), tq_iv (-1) 7 x3_70 → tq_iv (-1) 5 x4_70 → tz_O (fun (z : Int32) => tq_iv (-2147483648) 2147483647 z) (z_X12_straysBy_70 σ k_10 k_22 h0 x1 x2_22 x3_70 x4_70 x5_10 x6_22) := by
                intro x3_70 x4_70 i_x3_70 i_x4_70
                unfold z_X12_straysBy_70
                refine tz_let (fun t_70 e7402 => ?_)
                exact K_73 t_70 x3_70 x4_70 i_x3_70 i_x4_70
              refine tz_if _ (fun c7409 => ?_) (fun c7409 => ?_)
              ·
                have i15_x2_22 : tq_iv 0 0 x2_22 := tq_cut (tq_top x2_22) (tq_eqL c7409 tk_0) (by decide) (by decide)
                exact K_70 x5_10 x6_22 (tq_w i5_x5_10 (by decide) (by decide)) (tq_w i8_x6_22 (by decide) (by decide))
              ·
                exact K_70 x3_22 x4_22 i_x3_22 i_x4_22
      have E_22 : ∀ (x2_22 : Int32) (x3_22 : Int32) (x4_22 : Int32) (x6_22 : Int32), tq_iv (-1) 7 x3_22 → tq_iv (-1) 5 x4_22 → tq_iv 0 6 x6_22 → tz_O (fun (z : Int32) => tq_iv (-2147483648) 2147483647 z) (ez_fix (fun _ _ _ _ _ _ _ => none) (z_X12_straysBy_22 σ k_10) ez_N h0 x1 x2_22 x3_22 x4_22 x5_10 x6_22) := by
        intro x2_22 x3_22 x4_22 x6_22 i_x3_22 i_x4_22 i_x6_22
        exact ez_fix_indn (fun n_22 (k_22 : Nat → Int32 → Int32 → Int32 → Int32 → Int32 → Int32 → Option (Int32)) => ∀ (x2_22 : Int32) (x3_22 : Int32) (x4_22 : Int32) (x6_22 : Int32), tq_iv (-1) 7 x3_22 → tq_iv (-1) 5 x4_22 → tq_iv 0 6 x6_22 → (2147483647 - x6_22.toInt).toNat < n_22 → tz_O (fun (z : Int32) => tq_iv (-2147483648) 2147483647 z) (k_22 h0 x1 x2_22 x3_22 x4_22 x5_10 x6_22)) (by intros; rename_i h; exact absurd h (Nat.not_lt_zero _)) L_22 ez_N x2_22 x3_22 x4_22 x6_22 i_x3_22 i_x4_22 i_x6_22 (tq_m0 x6_22)
      exact E_22 x2_10 x3_10 x4_10 (0 : Int32) i_x3_10 i_x4_10 (tq_w tk_0 (by decide) (by decide))
  have E_10 : ∀ (x2_10 : Int32) (x3_10 : Int32) (x4_10 : Int32) (x5_10 : Int32), tq_iv (-1) 7 x3_10 → tq_iv (-1) 5 x4_10 → tq_iv 0 8 x5_10 → tz_O (fun (z : Int32) => tq_iv (-2147483648) 2147483647 z) (ez_fix (fun _ _ _ _ _ _ => none) (z_X12_straysBy_10 σ) ez_N h0 x1 x2_10 x3_10 x4_10 x5_10) := by
    intro x2_10 x3_10 x4_10 x5_10 i_x3_10 i_x4_10 i_x5_10
    exact ez_fix_indn (fun n_10 (k_10 : Nat → Int32 → Int32 → Int32 → Int32 → Int32 → Option (Int32)) => ∀ (x2_10 : Int32) (x3_10 : Int32) (x4_10 : Int32) (x5_10 : Int32), tq_iv (-1) 7 x3_10 → tq_iv (-1) 5 x4_10 → tq_iv 0 8 x5_10 → (2147483647 - x5_10.toInt).toNat < n_10 → tz_O (fun (z : Int32) => tq_iv (-2147483648) 2147483647 z) (k_10 h0 x1 x2_10 x3_10 x4_10 x5_10)) (by intros; rename_i h; exact absurd h (Nat.not_lt_zero _)) L_10 ez_N x2_10 x3_10 x4_10 x5_10 i_x3_10 i_x4_10 i_x5_10 (tq_m0 x5_10)
  exact E_10 (0 : Int32) (-1 : Int32) (-1 : Int32) (0 : Int32) (tq_w tk_m1 (by decide) (by decide)) (tq_w tk_m1 (by decide) (by decide)) (tq_w tk_0 (by decide) (by decide))
theorem tz_X12_bringBack {p : tz_P} {σ : ez_H} {h0 : Nat} (hT : tp p σ) (k_h0 : tz_C h0 = some (3, 12, 0, 0)) : tz_O2 (fun (z : Unit) (s : ez_H) => tp p s) (z_X12_bringBack σ h0) := by
  unfold z_X12_bringBack
  refine tz_bd (tz_ob hT k_h0) (fun _ _ => ?_)
  refine lpG (fun (k : ez_H → Nat → Int32 → Option (Unit × ez_H)) (a : ez_H × Int32) => k a.1 h0 a.2) (fun a => tp p a.1 ∧ 0 ≤ a.2.toInt ∧ a.2.toInt ≤ 91) (fun a => (2147483647 - a.2.toInt).toNat) ?_ (σ, 0) ⟨hT, i00, i0n (by decide)⟩ (tq_m0 _)
  rintro k ⟨s, x⟩ ⟨hs, h1, h2⟩ hk
  have hs : tp p s := hs
  have h1 : 0 ≤ x.toInt := h1
  show tz_O _ (z_X12_bringBack_2 k s h0 x)
  unfold z_X12_bringBack_2
  refine tz_if _ (fun _ => tz_some hs) (fun c => ?_)
  have c := nle_c c
  have e91 := c91
  refine tz_bk (tr_53 hs k_h0) ?_
  refine tz_bk (tr_54 hs k_h0) ?_
  refine tz_bd (rd_206 hs h1 (by omega)) (fun v hv => ?_)
  refine tz_bd (wr_205 hs h1 (by omega) hv) (fun s2 hs2 => ?_)
  refine tz_let (fun t e => ?_)
  have ht := tq_inc e h1 (by omega)
  exact hk (s2, t) ⟨hs2, by show 0 ≤ t.toInt; omega, by show t.toInt ≤ 91; omega⟩ (by show (2147483647 - t.toInt).toNat < (2147483647 - x.toInt).toNat; omega)
set_option maxRecDepth 4000 in
theorem tz_X12_keeps {p : tz_P} {σ : ez_H} {h0 : Nat} {x1 : Int32} (hT : tp p σ) (k_h0 : tz_C h0 = some (3, 12, 0, 0)) : tz_O2 (fun (z : Int32) (s : ez_H) => tq_iv (-1) 7775 z ∧ tp p s) (z_X12_keeps σ h0 x1) := by
  show tz_O (fun z : Int32 × ez_H => (fun (z : Int32) (s : ez_H) => tq_iv (-1) 7775 z ∧ tp p s) z.1 z.2) _
  unfold z_X12_keeps
  refine tz_bd (tz_ob hT k_h0) (fun _ _ => ?_)
  refine tz_bd (tz_X12_isKey hT k_h0) (fun t_2 ⟨i_t_2, g_t_2⟩ => ?_)
  refine tz_if _ (fun c7458 => ?_) (fun c7458 => ?_)
  ·
    have i1_t_2 : tq_iv 0 0 t_2 := tq_cut i_t_2 (tq_eqL c7458 tk_0) (by decide) (by decide)
    exact tz_some ⟨(tq_w tk_m1 (by decide) (by decide)), hT⟩
  ·
    have i2_x1 : tq_iv 0 7 x1 := tq_cut (tq_top x1) (g_t_2 c7458) (by decide) (by decide)
    have i3_t_2 : tq_iv 1 1 t_2 := tq_w (tq_neLo c7458 i_t_2 tk_0) (by decide) (by decide)
    refine tz_b2 (tz_X12_keepNow hT k_h0) (fun _ σ7457 T7457 => ?_)
    have L_18 : ∀ (n_18 : Nat) (k_18 : ez_H → Nat → Int32 → Int32 → Int32 → Option (Int32 × ez_H)), (∀ (σ_18 : ez_H) (x2_18 : Int32) (x3_18 : Int32), tp p σ_18 → tq_iv (-1) 7775 x2_18 → tq_iv 0 7776 x3_18 → (2147483647 - x3_18.toInt).toNat < n_18 → tz_O (fun z : Int32 × ez_H => (fun (z : Int32) (s : ez_H) => tq_iv (-1) 7775 z ∧ tp p s) z.1 z.2) (k_18 σ_18 h0 x1 x2_18 x3_18)) → ∀ (σ_18 : ez_H) (x2_18 : Int32) (x3_18 : Int32), tp p σ_18 → tq_iv (-1) 7775 x2_18 → tq_iv 0 7776 x3_18 → (2147483647 - x3_18.toInt).toNat < n_18 + 1 → tz_O (fun z : Int32 × ez_H => (fun (z : Int32) (s : ez_H) => tq_iv (-1) 7775 z ∧ tp p s) z.1 z.2) (z_X12_keeps_18 k_18 σ_18 h0 x1 x2_18 x3_18) := by
      intro n_18 k_18 hk_18 σ_18 x2_18 x3_18 T_σ_18 i_x2_18 i_x3_18 hn_18
      unfold z_X12_keeps_18
      refine tz_bd (tz_X12_bittings T_σ_18 k_h0) (fun t_20 i_t_20 => ?_)
      have K_67 : tz_O (fun z : Int32 × ez_H => (fun (z : Int32) (s : ez_H) => tq_iv (-1) 7775 z ∧ tp p s) z.1 z.2) (z_X12_keeps_67 σ_18 h0 x2_18) := by
        unfold z_X12_keeps_67
        refine tz_b2 (tz_X12_bringBack T_σ_18 k_h0) (fun _ σ7438 T7438 => ?_)
        exact tz_some ⟨i_x2_18, T7438⟩
      refine tz_if _ (fun c7453 => ?_) (fun c7453 => ?_)
      ·
        have i4_x3_18 : tq_iv 1 7776 x3_18 := tq_cut i_x3_18 (tq_leR c7453 i_t_20 i_x3_18) (by decide) (by decide)
        exact K_67 
      ·
        have i5_x3_18 : tq_iv 0 7775 x3_18 := tq_cut i_x3_18 (tq_ltL (tq_nle c7453) i_x3_18 i_t_20) (by decide) (by decide)
        refine tz_if _ (fun c7452 => ?_) (fun c7452 => ?_)
        ·
          have i6_x2_18 : tq_iv 0 7775 x2_18 := tq_cut i_x2_18 (tq_leR c7452 tk_0 i_x2_18) (by decide) (by decide)
          exact K_67 
        ·
          have i7_x2_18 : tq_iv (-1) (-1) x2_18 := tq_cut i_x2_18 (tq_ltL (tq_nle c7452) i_x2_18 tk_0) (by decide) (by decide)
          refine tz_bd (tz_X12_isLegal T_σ_18 k_h0) (fun t_32 ⟨i_t_32, g_t_32⟩ => ?_)
          have K_61 : ∀ (σ_61 : ez_H) (x2_61 : Int32), tp p σ_61 → tq_iv (-1) 7775 x2_61 → tz_O (fun z : Int32 × ez_H => (fun (z : Int32) (s : ez_H) => tq_iv (-1) 7775 z ∧ tp p s) z.1 z.2) (z_X12_keeps_61 k_18 σ_61 h0 x1 x2_61 x3_18) := by
            intro σ_61 x2_61 T_σ_61 i_x2_61
            unfold z_X12_keeps_61
            refine tz_let (fun t_61 e7440 => ?_)
            have i8_t_61 : tq_iv 1 7776 t_61 := tq_w (tq_add e7440 i5_x3_18 tk_1 (by decide) (by decide)) (by decide) (by decide)
            exact hk_18 σ_61 x2_61 t_61 T_σ_61 i_x2_61 (tq_w i8_t_61 (by decide) (by decide)) (tq_up e7440 i5_x3_18 tk_1 (by decide) (by decide) hn_18)
          refine tz_if _ (fun c7450 => ?_) (fun c7450 => ?_)
          ·
            have i9_t_32 : tq_iv 0 0 t_32 := tq_cut i_t_32 (tq_eqL c7450 tk_0) (by decide) (by decide)
            exact K_61 σ_18 x2_18 T_σ_18 (tq_w i7_x2_18 (by decide) (by decide))
          ·
            have i10_t_32 : tq_iv 1 1 t_32 := tq_w (tq_neLo c7450 i_t_32 tk_0) (by decide) (by decide)
            refine tz_b2 (tz_X12_cutAnew T_σ_18 k_h0 i2_x1 i5_x3_18) (fun _ σ7449 T7449 => ?_)
            refine tz_b2 (tz_X12_pinByPlan T7449 k_h0) (fun _ σ7448 T7448 => ?_)
            refine tz_bd (tz_X12_straysBy T7448 k_h0 (tq_w tk_0 (by decide) (by decide))) (fun t_53 i_t_53 => ?_)
            refine tz_if _ (fun c7446 => ?_) (fun c7446 => ?_)
            ·
              have i11_t_53 : tq_iv 0 0 t_53 := tq_cut (tq_top t_53) (tq_eqL c7446 tk_0) (by decide) (by decide)
              exact K_61 σ7448 x3_18 T7448 (tq_w i5_x3_18 (by decide) (by decide))
            ·
              exact K_61 σ7448 x2_18 T7448 (tq_w i7_x2_18 (by decide) (by decide))
    have E_18 : ∀ (σ_18 : ez_H) (x2_18 : Int32) (x3_18 : Int32), tp p σ_18 → tq_iv (-1) 7775 x2_18 → tq_iv 0 7776 x3_18 → tz_O (fun z : Int32 × ez_H => (fun (z : Int32) (s : ez_H) => tq_iv (-1) 7775 z ∧ tp p s) z.1 z.2) (ez_fix (fun _ _ _ _ _ => none) (z_X12_keeps_18) ez_N σ_18 h0 x1 x2_18 x3_18) := by
      intro σ_18 x2_18 x3_18 T_σ_18 i_x2_18 i_x3_18
      exact ez_fix_indn (fun n_18 (k_18 : ez_H → Nat → Int32 → Int32 → Int32 → Option (Int32 × ez_H)) => ∀ (σ_18 : ez_H) (x2_18 : Int32) (x3_18 : Int32), tp p σ_18 → tq_iv (-1) 7775 x2_18 → tq_iv 0 7776 x3_18 → (2147483647 - x3_18.toInt).toNat < n_18 → tz_O (fun z : Int32 × ez_H => (fun (z : Int32) (s : ez_H) => tq_iv (-1) 7775 z ∧ tp p s) z.1 z.2) (k_18 σ_18 h0 x1 x2_18 x3_18)) (by intros; rename_i h; exact absurd h (Nat.not_lt_zero _)) L_18 ez_N σ_18 x2_18 x3_18 T_σ_18 i_x2_18 i_x3_18 (tq_m0 x3_18)
    exact E_18 σ7457 (-1 : Int32) (0 : Int32) T7457 (tq_w tk_m1 (by decide) (by decide)) (tq_w tk_0 (by decide) (by decide))
set_option maxRecDepth 4000 in
theorem tz_X12_key {p : tz_P} {σ : ez_H} {h0 : Nat} {x1 : Int32} {x2 : Int32} (hT : tp p σ) (k_h0 : tz_C h0 = some (3, 12, 0, 0)) : tz_O (fun z => tq_iv (-2147483648) 2147483647 z) (z_X12_key σ h0 x1 x2) := by
  unfold z_X12_key
  refine tz_bd (tz_ob hT k_h0) (fun _ _ => ?_)
  refine tz_bd (tz_X12_isKey hT k_h0) (fun t_2 ⟨i_t_2, g_t_2⟩ => ?_)
  refine tz_if _ (fun c7478 => ?_) (fun c7478 => ?_)
  ·
    have i1_t_2 : tq_iv 0 0 t_2 := tq_cut i_t_2 (tq_eqL c7478 tk_0) (by decide) (by decide)
    exact tz_some (tq_top (-3 : Int32))
  ·
    have i2_x1 : tq_iv 0 7 x1 := tq_cut (tq_top x1) (g_t_2 c7478) (by decide) (by decide)
    have i3_t_2 : tq_iv 1 1 t_2 := tq_w (tq_neLo c7478 i_t_2 tk_0) (by decide) (by decide)
    refine tz_if _ (fun c7477 => ?_) (fun c7477 => ?_)
    ·
      have i4_x2 : tq_iv 0 0 x2 := tq_cut (tq_top x2) (tq_eqL c7477 tk_0) (by decide) (by decide)
      refine tz_bd (tz_X12_numberOf hT k_h0 i2_x1) (fun t_46 i_t_46 => ?_)
      exact tz_some (tq_top t_46)
    ·
      refine tz_if _ (fun c7476 => ?_) (fun c7476 => ?_)
      ·
        have i5_x2 : tq_iv 1 1 x2 := tq_cut (tq_top x2) (tq_eqL c7476 tk_1) (by decide) (by decide)
        refine tz_bk (tr_53 hT k_h0) ?_
        refine tz_let (fun t_57 e7466 => ?_)
        have i6_t_57 : tq_iv 40 47 t_57 := tq_w (tq_add e7466 tk_40 i2_x1 (by decide) (by decide)) (by decide) (by decide)
        refine tz_be (tz_iaS hT tc_205 (ts_205 (p := p) 40 47 (-2147483648) 2147483647 (by decide)) i6_t_57 (by decide) (by decide)) (fun t_58 e7465 i_t_58 => ?_)
        exact tz_some (tq_top t_58)
      ·
        refine tz_if _ (fun c7475 => ?_) (fun c7475 => ?_)
        ·
          have i7_x2 : tq_iv 2 2 x2 := tq_cut (tq_top x2) (tq_eqL c7475 tk_2) (by decide) (by decide)
          refine tz_bd (tz_X12_holderOf hT k_h0 i2_x1) (fun t_62 i_t_62 => ?_)
          exact tz_some (tq_top t_62)
        ·
          refine tz_if _ (fun c7474 => ?_) (fun c7474 => ?_)
          ·
            have i8_x2 : tq_iv 3 3 x2 := tq_cut (tq_top x2) (tq_eqL c7474 tk_3) (by decide) (by decide)
            refine tz_bd (tz_X12_numberOf hT k_h0 i2_x1) (fun t_69 i_t_69 => ?_)
            refine tz_bd (tz_X12_openedBy hT k_h0) (fun t_72 i_t_72 => ?_)
            exact tz_some (tq_top t_72)
          ·
            exact tz_some (tq_top (-3 : Int32))
set_option maxRecDepth 4000 in
theorem tz_X12_isLetter {p : tz_P} {σ : ez_H} {x0 : Int32} (hT : tp p σ) : tz_O (fun z => tq_iv 0 1 z ∧ (¬ z = 0 → tq_iv 97 122 x0)) (z_X12_isLetter σ x0) := by
  unfold z_X12_isLetter
  have K_17 : ∀ (y0_17 : Int32), tq_iv 0 1 y0_17 → (¬ y0_17 = 0 → tq_iv 97 122 x0) → tz_O (fun (z : Int32) => tq_iv 0 1 z ∧ (¬ z = 0 → tq_iv 97 122 x0)) (z_X12_isLetter_17 σ y0_17) := by
    intro y0_17 i_y0_17 g17_y0_17_x0
    unfold z_X12_isLetter_17
    refine tz_nr (tq_nr_boolean i_y0_17) ?_
    exact tz_some ⟨i_y0_17, (fun h => tq_w (g17_y0_17_x0 h) (by decide) (by decide))⟩
  have K_16 : tz_O (fun (z : Int32) => tq_iv 0 1 z ∧ (¬ z = 0 → tq_iv 97 122 x0)) (z_X12_isLetter_16 σ) := by
    unfold z_X12_isLetter_16
    exact K_17 (0 : Int32) (tq_w tk_0 (by decide) (by decide)) (fun h => absurd rfl h)
  refine tz_if _ (fun c7488 => ?_) (fun c7488 => ?_)
  ·
    have i1_x0 : tq_iv (-2147483648) 96 x0 := tq_cut (tq_top x0) (tq_ltL c7488 (tq_top x0) tk_97) (by decide) (by decide)
    exact K_16 
  ·
    have i2_x0 : tq_iv 97 2147483647 x0 := tq_cut (tq_top x0) (tq_leR (tq_nlt c7488) tk_97 (tq_top x0)) (by decide) (by decide)
    refine tz_if _ (fun c7487 => ?_) (fun c7487 => ?_)
    ·
      have i3_x0 : tq_iv 123 2147483647 x0 := tq_cut i2_x0 (tq_ltR c7487 tk_122 i2_x0) (by decide) (by decide)
      exact K_16 
    ·
      have i4_x0 : tq_iv 97 122 x0 := tq_cut i2_x0 (tq_leL (tq_nlt c7487) i2_x0 tk_122) (by decide) (by decide)
      exact K_17 (1 : Int32) (tq_w tk_1 (by decide) (by decide)) (fun _ => i4_x0)
set_option maxRecDepth 4000 in
theorem tz_X12_asked {p : tz_P} {σ : ez_H} {h0 : Nat} {x1 : Int32} {x2 : Int32} (hT : tp p σ) (k_h0 : tz_C h0 = some (3, 12, 0, 0)) : tz_O (fun z => tq_iv (-2147483648) 2147483647 z) (z_X12_asked σ h0 x1 x2) := by
  unfold z_X12_asked
  refine tz_bd (tz_ob hT k_h0) (fun _ _ => ?_)
  refine tz_if _ (fun c7501 => ?_) (fun c7501 => ?_)
  ·
    have i1_x1 : tq_iv 98 98 x1 := tq_cut (tq_top x1) (tq_eqL c7501 tk_98) (by decide) (by decide)
    refine tz_be (tg_12_50 hT k_h0) (fun t_50 e7490 i_t_50 => ?_)
    exact tz_some (tq_top t_50)
  ·
    refine tz_if _ (fun c7500 => ?_) (fun c7500 => ?_)
    ·
      have i2_x1 : tq_iv 99 99 x1 := tq_cut (tq_top x1) (tq_eqL c7500 tk_99) (by decide) (by decide)
      refine tz_be (tg_12_49 hT k_h0) (fun t_45 e7492 i_t_45 => ?_)
      exact tz_some (tq_top t_45)
    ·
      refine tz_if _ (fun c7499 => ?_) (fun c7499 => ?_)
      ·
        have i3_x1 : tq_iv 104 104 x1 := tq_cut (tq_top x1) (tq_eqL c7499 tk_104) (by decide) (by decide)
        refine tz_be (tg_12_52 hT k_h0) (fun t_60 e7494 i_t_60 => ?_)
        exact tz_some (tq_top t_60)
      ·
        refine tz_if _ (fun c7498 => ?_) (fun c7498 => ?_)
        ·
          have i4_x1 : tq_iv 117 117 x1 := tq_cut (tq_top x1) (tq_eqL c7498 tk_117) (by decide) (by decide)
          refine tz_be (tg_12_51 hT k_h0) (fun t_55 e7496 i_t_55 => ?_)
          exact tz_some (tq_top t_55)
        ·
          exact tz_some (tq_top x2)
