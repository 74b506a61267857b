set_option maxRecDepth 4000 in
theorem tz_X12_ghost {p : tz_P} {σ : ez_H} {h0 : Nat} {x1 : Int32} {x2 : Int32} (hT : tp p σ) (k_h0 : tz_C h0 = some (3, 12, 0, 0)) : tz_O (fun z => tq_iv (-1) 7775 z) (z_X12_ghost σ h0 x1 x2) := by
  unfold z_X12_ghost
  refine tz_bd (tz_ob hT k_h0) (fun _ _ => ?_)
  refine tz_bd (tz_X12_isLock hT k_h0) (fun t_2 ⟨i_t_2, g_t_2⟩ => ?_)
  have K_12 : tz_O (fun (z : Int32) => tq_iv (-1) 7775 z) (z_X12_ghost_12 σ) := by
    unfold z_X12_ghost_12
    exact tz_some (tq_w tk_m1 (by decide) (by decide))
  refine tz_if _ (fun c7237 => ?_) (fun c7237 => ?_)
  ·
    have i1_t_2 : tq_iv 0 0 t_2 := tq_cut i_t_2 (tq_eqL c7237 tk_0) (by decide) (by decide)
    exact K_12 
  ·
    have i2_x1 : tq_iv 0 5 x1 := tq_cut (tq_top x1) (g_t_2 c7237) (by decide) (by decide)
    have i3_t_2 : tq_iv 1 1 t_2 := tq_w (tq_neLo c7237 i_t_2 tk_0) (by decide) (by decide)
    refine tz_if _ (fun c7236 => ?_) (fun c7236 => ?_)
    ·
      have i4_x2 : tq_iv 0 2147483647 x2 := tq_cut (tq_top x2) (tq_leR c7236 tk_0 (tq_top x2)) (by decide) (by decide)
      have L_19 : ∀ (n_19 : Nat) (k_19 : Nat → Int32 → Int32 → Int32 → Option (Int32)), (∀ (x3_19 : Int32) (x4_19 : Int32), tq_iv 0 2147483647 x3_19 → tq_iv 0 7776 x4_19 → (2147483647 - x4_19.toInt).toNat < n_19 → tz_O (fun (z : Int32) => tq_iv (-1) 7775 z) (k_19 h0 x1 x3_19 x4_19)) → ∀ (x3_19 : Int32) (x4_19 : Int32), tq_iv 0 2147483647 x3_19 → tq_iv 0 7776 x4_19 → (2147483647 - x4_19.toInt).toNat < n_19 + 1 → tz_O (fun (z : Int32) => tq_iv (-1) 7775 z) (z_X12_ghost_19 σ k_19 h0 x1 x3_19 x4_19) := by
        intro n_19 k_19 hk_19 x3_19 x4_19 i_x3_19 i_x4_19 hn_19
        unfold z_X12_ghost_19
        refine tz_bd (tz_X12_bittings hT k_h0) (fun t_22 i_t_22 => ?_)
        refine tz_if _ (fun c7231 => ?_) (fun c7231 => ?_)
        ·
          have i5_x4_19 : tq_iv 1 7776 x4_19 := tq_cut i_x4_19 (tq_leR c7231 i_t_22 i_x4_19) (by decide) (by decide)
          exact tz_some (tq_w tk_m1 (by decide) (by decide))
        ·
          have i6_x4_19 : tq_iv 0 7775 x4_19 := tq_cut i_x4_19 (tq_ltL (tq_nle c7231) i_x4_19 i_t_22) (by decide) (by decide)
          refine tz_bd (tz_X12_isGhost hT k_h0 i6_x4_19 i2_x1) (fun t_32 i_t_32 => ?_)
          have K_51 : ∀ (x3_51 : Int32), tq_iv 0 2147483647 x3_51 → tz_O (fun (z : Int32) => tq_iv (-1) 7775 z) (z_X12_ghost_51 σ k_19 h0 x1 x3_51 x4_19) := by
            intro x3_51 i_x3_51
            unfold z_X12_ghost_51
            refine tz_let (fun t_51 e7222 => ?_)
            have i7_t_51 : tq_iv 1 7776 t_51 := tq_w (tq_add e7222 i6_x4_19 tk_1 (by decide) (by decide)) (by decide) (by decide)
            exact hk_19 x3_51 t_51 i_x3_51 (tq_w i7_t_51 (by decide) (by decide)) (tq_up e7222 i6_x4_19 tk_1 (by decide) (by decide) hn_19)
          refine tz_if _ (fun c7229 => ?_) (fun c7229 => ?_)
          ·
            have i8_t_32 : tq_iv 0 0 t_32 := tq_cut i_t_32 (tq_eqL c7229 tk_0) (by decide) (by decide)
            exact K_51 x3_19 i_x3_19
          ·
            have i9_t_32 : tq_iv 1 1 t_32 := tq_w (tq_neLo c7229 i_t_32 tk_0) (by decide) (by decide)
            refine tz_if _ (fun c7228 => ?_) (fun c7228 => ?_)
            ·
              have i10_x3_19 : tq_iv 0 0 x3_19 := tq_cut i_x3_19 (tq_eqL c7228 tk_0) (by decide) (by decide)
              exact tz_some (tq_w i6_x4_19 (by decide) (by decide))
            ·
              have i11_x3_19 : tq_iv 1 2147483647 x3_19 := tq_w (tq_neLo c7228 i_x3_19 tk_0) (by decide) (by decide)
              refine tz_let (fun t_48 e7227 => ?_)
              have i12_t_48 : tq_iv 0 2147483646 t_48 := tq_w (tq_add e7227 i11_x3_19 tk_m1 (by decide) (by decide)) (by decide) (by decide)
              exact K_51 t_48 (tq_w i12_t_48 (by decide) (by decide))
      have E_19 : ∀ (x3_19 : Int32) (x4_19 : Int32), tq_iv 0 2147483647 x3_19 → tq_iv 0 7776 x4_19 → tz_O (fun (z : Int32) => tq_iv (-1) 7775 z) (ez_fix (fun _ _ _ _ => none) (z_X12_ghost_19 σ) ez_N h0 x1 x3_19 x4_19) := by
        intro x3_19 x4_19 i_x3_19 i_x4_19
        exact ez_fix_indn (fun n_19 (k_19 : Nat → Int32 → Int32 → Int32 → Option (Int32)) => ∀ (x3_19 : Int32) (x4_19 : Int32), tq_iv 0 2147483647 x3_19 → tq_iv 0 7776 x4_19 → (2147483647 - x4_19.toInt).toNat < n_19 → tz_O (fun (z : Int32) => tq_iv (-1) 7775 z) (k_19 h0 x1 x3_19 x4_19)) (by intros; rename_i h; exact absurd h (Nat.not_lt_zero _)) L_19 ez_N x3_19 x4_19 i_x3_19 i_x4_19 (tq_m0 x4_19)
      exact E_19 x2 (0 : Int32) i4_x2 (tq_w tk_0 (by decide) (by decide))
    ·
      have i13_x2 : tq_iv (-2147483648) (-1) x2 := tq_cut (tq_top x2) (tq_ltL (tq_nle c7236) (tq_top x2) tk_0) (by decide) (by decide)
      exact K_12
set_option maxRecDepth 4000 in
theorem tz_X12_ghostsOf {p : tz_P} {σ : ez_H} {h0 : Nat} {x1 : Int32} (hT : tp p σ) (k_h0 : tz_C h0 = some (3, 12, 0, 0)) (i_x1 : tq_iv 0 5 x1) : tz_O (fun z => tq_iv (-2147483648) 2147483647 z) (z_X12_ghostsOf σ h0 x1) := by
  unfold z_X12_ghostsOf
  refine tz_bd (tz_ob hT k_h0) (fun _ _ => ?_)
  have L_4 : ∀ (n_4 : Nat) (k_4 : Nat → Int32 → Int32 → Int32 → Option (Int32)), (∀ (x2_4 : Int32) (x3_4 : Int32), tq_iv 0 7776 x3_4 → (2147483647 - x3_4.toInt).toNat < n_4 → tz_O (fun (z : Int32) => tq_iv (-2147483648) 2147483647 z) (k_4 h0 x1 x2_4 x3_4)) → ∀ (x2_4 : Int32) (x3_4 : Int32), tq_iv 0 7776 x3_4 → (2147483647 - x3_4.toInt).toNat < n_4 + 1 → tz_O (fun (z : Int32) => tq_iv (-2147483648) 2147483647 z) (z_X12_ghostsOf_4 σ k_4 h0 x1 x2_4 x3_4) := by
    intro n_4 k_4 hk_4 x2_4 x3_4 i_x3_4 hn_4
    unfold z_X12_ghostsOf_4
    refine tz_bd (tz_X12_bittings hT k_h0) (fun t_6 i_t_6 => ?_)
    refine tz_if _ (fun c7248 => ?_) (fun c7248 => ?_)
    ·
      have i1_x3_4 : tq_iv 1 7776 x3_4 := tq_cut i_x3_4 (tq_leR c7248 i_t_6 i_x3_4) (by decide) (by decide)
      exact tz_some (tq_top x2_4)
    ·
      have i2_x3_4 : tq_iv 0 7775 x3_4 := tq_cut i_x3_4 (tq_ltL (tq_nle c7248) i_x3_4 i_t_6) (by decide) (by decide)
      refine tz_bd (tz_X12_isGhost hT k_h0 i2_x3_4 i_x1) (fun t_15 i_t_15 => ?_)
      have K_24 : ∀ (x2_24 : Int32), tz_O (fun (z : Int32) => tq_iv (-2147483648) 2147483647 z) (z_X12_ghostsOf_24 σ k_4 h0 x1 x2_24 x3_4) := by
        intro x2_24
        unfold z_X12_ghostsOf_24
        refine tz_let (fun t_24 e7241 => ?_)
        have i3_t_24 : tq_iv 1 7776 t_24 := tq_w (tq_add e7241 i2_x3_4 tk_1 (by decide) (by decide)) (by decide) (by decide)
        exact hk_4 x2_24 t_24 (tq_w i3_t_24 (by decide) (by decide)) (tq_up e7241 i2_x3_4 tk_1 (by decide) (by decide) hn_4)
      refine tz_if _ (fun c7246 => ?_) (fun c7246 => ?_)
      ·
        have i4_t_15 : tq_iv 0 0 t_15 := tq_cut i_t_15 (tq_eqL c7246 tk_0) (by decide) (by decide)
        exact K_24 x2_4
      ·
        have i5_t_15 : tq_iv 1 1 t_15 := tq_w (tq_neLo c7246 i_t_15 tk_0) (by decide) (by decide)
        refine tz_let (fun t_21 e7245 => ?_)
        exact K_24 t_21
  have E_4 : ∀ (x2_4 : Int32) (x3_4 : Int32), tq_iv 0 7776 x3_4 → tz_O (fun (z : Int32) => tq_iv (-2147483648) 2147483647 z) (ez_fix (fun _ _ _ _ => none) (z_X12_ghostsOf_4 σ) ez_N h0 x1 x2_4 x3_4) := by
    intro x2_4 x3_4 i_x3_4
    exact ez_fix_indn (fun n_4 (k_4 : Nat → Int32 → Int32 → Int32 → Option (Int32)) => ∀ (x2_4 : Int32) (x3_4 : Int32), tq_iv 0 7776 x3_4 → (2147483647 - x3_4.toInt).toNat < n_4 → tz_O (fun (z : Int32) => tq_iv (-2147483648) 2147483647 z) (k_4 h0 x1 x2_4 x3_4)) (by intros; rename_i h; exact absurd h (Nat.not_lt_zero _)) L_4 ez_N x2_4 x3_4 i_x3_4 (tq_m0 x3_4)
  exact E_4 (0 : Int32) (0 : Int32) (tq_w tk_0 (by decide) (by decide))
set_option maxRecDepth 4000 in
theorem tz_X12_ghosts {p : tz_P} {σ : ez_H} {h0 : Nat} {x1 : Int32} (hT : tp p σ) (k_h0 : tz_C h0 = some (3, 12, 0, 0)) : tz_O (fun z => tq_iv (-2147483648) 2147483647 z) (z_X12_ghosts σ h0 x1) := by
  unfold z_X12_ghosts
  refine tz_bd (tz_ob hT k_h0) (fun _ _ => ?_)
  refine tz_bd (tz_X12_isLock hT k_h0) (fun t_2 ⟨i_t_2, g_t_2⟩ => ?_)
  have K_17 : ∀ (y0_17 : Int32), tz_O (fun (z : Int32) => tq_iv (-2147483648) 2147483647 z) (z_X12_ghosts_17 σ y0_17) := by
    intro y0_17
    unfold z_X12_ghosts_17
    exact tz_some (tq_top y0_17)
  refine tz_if _ (fun c7256 => ?_) (fun c7256 => ?_)
  ·
    have i1_t_2 : tq_iv 0 0 t_2 := tq_cut i_t_2 (tq_eqL c7256 tk_0) (by decide) (by decide)
    exact K_17 (-1 : Int32)
  ·
    have i2_x1 : tq_iv 0 5 x1 := tq_cut (tq_top x1) (g_t_2 c7256) (by decide) (by decide)
    have i3_t_2 : tq_iv 1 1 t_2 := tq_w (tq_neLo c7256 i_t_2 tk_0) (by decide) (by decide)
    refine tz_bd (tz_X12_ghostsOf hT k_h0 i2_x1) (fun t_10 i_t_10 => ?_)
    exact K_17 t_10
set_option maxRecDepth 4000 in
theorem tz_X12_give {p : tz_P} {σ : ez_H} {h0 : Nat} {x1 : Int32} {x2 : Int32} (hT : tp p σ) (k_h0 : tz_C h0 = some (3, 12, 0, 0)) : tz_O2 (fun (z : Int32) (s : ez_H) => tq_iv (-3) 3 z ∧ tp p s) (z_X12_give σ h0 x1 x2) := by
  show tz_O (fun z : Int32 × ez_H => (fun (z : Int32) (s : ez_H) => tq_iv (-3) 3 z ∧ tp p s) z.1 z.2) _
  unfold z_X12_give
  refine tz_bd (tz_ob hT k_h0) (fun _ _ => ?_)
  refine tz_bd (tz_X12_isKey hT k_h0) (fun t_2 ⟨i_t_2, g_t_2⟩ => ?_)
  have K_35 : tz_O (fun z : Int32 × ez_H => (fun (z : Int32) (s : ez_H) => tq_iv (-3) 3 z ∧ tp p s) z.1 z.2) (z_X12_give_35 σ) := by
    unfold z_X12_give_35
    exact tz_some ⟨(tq_w tk_m3 (by decide) (by decide)), hT⟩
  refine tz_if _ (fun c7285 => ?_) (fun c7285 => ?_)
  ·
    have i1_t_2 : tq_iv 0 0 t_2 := tq_cut i_t_2 (tq_eqL c7285 tk_0) (by decide) (by decide)
    exact K_35 
  ·
    have i2_x1 : tq_iv 0 7 x1 := tq_cut (tq_top x1) (g_t_2 c7285) (by decide) (by decide)
    have i3_t_2 : tq_iv 1 1 t_2 := tq_w (tq_neLo c7285 i_t_2 tk_0) (by decide) (by decide)
    refine tz_bd (tz_X12_isPerson hT k_h0) (fun t_10 ⟨i_t_10, g_t_10⟩ => ?_)
    refine tz_if _ (fun c7283 => ?_) (fun c7283 => ?_)
    ·
      have i4_t_10 : tq_iv 0 0 t_10 := tq_cut i_t_10 (tq_eqL c7283 tk_0) (by decide) (by decide)
      exact K_35 
    ·
      have i5_x2 : tq_iv 0 3 x2 := tq_cut (tq_top x2) (g_t_10 c7283) (by decide) (by decide)
      have i6_t_10 : tq_iv 1 1 t_10 := tq_w (tq_neLo c7283 i_t_10 tk_0) (by decide) (by decide)
      refine tz_bd (tz_X12_holderOf hT k_h0 i2_x1) (fun t_18 i_t_18 => ?_)
      refine tz_if _ (fun c7281 => ?_) (fun c7281 => ?_)
      ·
        have i7_t_18 : tq_iv 0 3 t_18 := tq_cut i_t_18 (tq_eqL c7281 i5_x2) (by decide) (by decide)
        exact K_35 
      ·
        refine tz_bd (tz_X12_holderOf hT k_h0 i2_x1) (fun t_27 i_t_27 => ?_)
        refine tz_if _ (fun c7279 => ?_) (fun c7279 => ?_)
        ·
          have i8_t_27 : tq_iv (-2) (-2) t_27 := tq_cut i_t_27 (tq_eqL c7279 tk_m2) (by decide) (by decide)
          exact K_35 
        ·
          have i9_t_27 : tq_iv (-1) 3 t_27 := tq_w (tq_neLo c7279 i_t_27 tk_m2) (by decide) (by decide)
          refine tz_bd (tz_X12_holderOf hT k_h0 i2_x1) (fun t_40 i_t_40 => ?_)
          have K_74 : tz_O (fun z : Int32 × ez_H => (fun (z : Int32) (s : ez_H) => tq_iv (-3) 3 z ∧ tp p s) z.1 z.2) (z_X12_give_74 σ h0 x1 x2) := by
            unfold z_X12_give_74
            refine tz_b2 (tz_X12_hand hT k_h0 i2_x1 (tq_w i5_x2 (by decide) (by decide))) (fun t_77 σ7261 ⟨i_t_77, T7261⟩ => ?_)
            exact tz_some ⟨(tq_w i_t_77 (by decide) (by decide)), T7261⟩
          refine tz_if _ (fun c7277 => ?_) (fun c7277 => ?_)
          ·
            have i10_t_40 : tq_iv (-2) (-1) t_40 := tq_cut i_t_40 (tq_ltL c7277 i_t_40 tk_0) (by decide) (by decide)
            exact K_74 
          ·
            have i11_t_40 : tq_iv 0 3 t_40 := tq_cut i_t_40 (tq_leR (tq_nlt c7277) tk_0 i_t_40) (by decide) (by decide)
            refine tz_bk (tr_53 hT k_h0) ?_
            refine tz_bd (tz_X12_holderOf hT k_h0 i2_x1) (fun t_54 i_t_54 => ?_)
            refine tz_let (fun t_57 e7274 => ?_)
            have i12_t_57 : tq_iv 84 89 t_57 := tq_w (tq_add e7274 tk_86 i_t_54 (by decide) (by decide)) (by decide) (by decide)
            refine tz_be (tz_iaS hT tc_205 (ts_205 (p := p) 84 89 (-2147483648) 2147483647 (by decide)) i12_t_57 (by decide) (by decide)) (fun t_58 e7273 i_t_58 => ?_)
            refine tz_bk (tr_53 hT k_h0) ?_
            refine tz_let (fun t_66 e7271 => ?_)
            have i13_t_66 : tq_iv 86 89 t_66 := tq_w (tq_add e7271 tk_86 i5_x2 (by decide) (by decide)) (by decide) (by decide)
            refine tz_be (tz_iaS hT tc_205 (ts_205 (p := p) 86 89 0 5 (by decide)) i13_t_66 (by decide) (by decide)) (fun t_67 e7270 i_t_67 => ?_)
            refine tz_if _ (fun c7269 => ?_) (fun c7269 => ?_)
            ·
              have i14_t_58 : tq_iv 0 5 t_58 := tq_cut (tq_top t_58) (tq_eqL c7269 i_t_67) (by decide) (by decide)
              exact K_74 
            ·
              exact tz_some ⟨(tq_w tk_m3 (by decide) (by decide)), hT⟩
set_option maxRecDepth 4000 in
theorem tz_X12_hang {p : tz_P} {σ : ez_H} {h0 : Nat} {x1 : Int32} (hT : tp p σ) (k_h0 : tz_C h0 = some (3, 12, 0, 0)) : tz_O2 (fun (z : Int32) (s : ez_H) => tq_iv (-3) 3 z ∧ tp p s) (z_X12_hang σ h0 x1) := by
  show tz_O (fun z : Int32 × ez_H => (fun (z : Int32) (s : ez_H) => tq_iv (-3) 3 z ∧ tp p s) z.1 z.2) _
  unfold z_X12_hang
  refine tz_bd (tz_ob hT k_h0) (fun _ _ => ?_)
  refine tz_bd (tz_X12_isKey hT k_h0) (fun t_2 ⟨i_t_2, g_t_2⟩ => ?_)
  have K_27 : ∀ (σ_27 : ez_H) (y0_27 : Int32), tp p σ_27 → tq_iv (-3) 3 y0_27 → tz_O (fun z : Int32 × ez_H => (fun (z : Int32) (s : ez_H) => tq_iv (-3) 3 z ∧ tp p s) z.1 z.2) (z_X12_hang_27 σ_27 y0_27) := by
    intro σ_27 y0_27 T_σ_27 i_y0_27
    unfold z_X12_hang_27
    exact tz_some ⟨i_y0_27, T_σ_27⟩
  have K_25 : tz_O (fun z : Int32 × ez_H => (fun (z : Int32) (s : ez_H) => tq_iv (-3) 3 z ∧ tp p s) z.1 z.2) (z_X12_hang_25 σ) := by
    unfold z_X12_hang_25
    exact K_27 σ (-3 : Int32) hT (tq_w tk_m3 (by decide) (by decide))
  refine tz_if _ (fun c7296 => ?_) (fun c7296 => ?_)
  ·
    have i1_t_2 : tq_iv 0 0 t_2 := tq_cut i_t_2 (tq_eqL c7296 tk_0) (by decide) (by decide)
    exact K_25 
  ·
    have i2_x1 : tq_iv 0 7 x1 := tq_cut (tq_top x1) (g_t_2 c7296) (by decide) (by decide)
    have i3_t_2 : tq_iv 1 1 t_2 := tq_w (tq_neLo c7296 i_t_2 tk_0) (by decide) (by decide)
    refine tz_bd (tz_X12_holderOf hT k_h0 i2_x1) (fun t_10 i_t_10 => ?_)
    refine tz_if _ (fun c7294 => ?_) (fun c7294 => ?_)
    ·
      have i4_t_10 : tq_iv (-2) (-1) t_10 := tq_cut i_t_10 (tq_ltL c7294 i_t_10 tk_0) (by decide) (by decide)
      exact K_25 
    ·
      have i5_t_10 : tq_iv 0 3 t_10 := tq_cut i_t_10 (tq_leR (tq_nlt c7294) tk_0 i_t_10) (by decide) (by decide)
      refine tz_b2 (tz_X12_hand hT k_h0 i2_x1 (tq_w tk_m1 (by decide) (by decide))) (fun t_19 σ7293 ⟨i_t_19, T7293⟩ => ?_)
      exact K_27 σ7293 t_19 T7293 (tq_w i_t_19 (by decide) (by decide))
set_option maxRecDepth 4000 in
theorem tz_X12_haunted {p : tz_P} {σ : ez_H} {h0 : Nat} (hT : tp p σ) (k_h0 : tz_C h0 = some (3, 12, 0, 0)) : tz_O (fun z => tq_iv (-1) 5 z) (z_X12_haunted σ h0) := by
  unfold z_X12_haunted
  refine tz_bd (tz_ob hT k_h0) (fun _ _ => ?_)
  have L_6 : ∀ (n_6 : Nat) (k_6 : Nat → Int32 → Int32 → Int32 → Option (Int32)), (∀ (x1_6 : Int32) (x2_6 : Int32) (x3_6 : Int32), tq_iv (-1) 5 x1_6 → tq_iv (-1) 2147483647 x2_6 → tq_iv 0 6 x3_6 → (2147483647 - x3_6.toInt).toNat < n_6 → tz_O (fun (z : Int32) => tq_iv (-1) 5 z) (k_6 h0 x1_6 x2_6 x3_6)) → ∀ (x1_6 : Int32) (x2_6 : Int32) (x3_6 : Int32), tq_iv (-1) 5 x1_6 → tq_iv (-1) 2147483647 x2_6 → tq_iv 0 6 x3_6 → (2147483647 - x3_6.toInt).toNat < n_6 + 1 → tz_O (fun (z : Int32) => tq_iv (-1) 5 z) (z_X12_haunted_6 σ k_6 h0 x1_6 x2_6 x3_6) := by
    intro n_6 k_6 hk_6 x1_6 x2_6 x3_6 i_x1_6 i_x2_6 i_x3_6 hn_6
    unfold z_X12_haunted_6
    refine tz_bd (tz_X12_bolts hT k_h0) (fun t_8 i_t_8 => ?_)
    refine tz_if _ (fun c7306 => ?_) (fun c7306 => ?_)
    ·
      exact tz_some i_x1_6
    ·
      have i1_x3_6 : tq_iv 0 5 x3_6 := tq_cut i_x3_6 (tq_ltL (tq_nle c7306) i_x3_6 i_t_8) (by decide) (by decide)
      have i2_t_8 : tq_iv 1 6 t_8 := tq_cut i_t_8 (tq_ltR (tq_nle c7306) i_x3_6 i_t_8) (by decide) (by decide)
      refine tz_bd (tz_X12_ghostsOf hT k_h0 i1_x3_6) (fun t_16 i_t_16 => ?_)
      have K_35 : ∀ (x1_35 : Int32) (x2_35 : Int32), tq_iv (-1) 5 x1_35 → tq_iv (-1) 2147483647 x2_35 → tz_O (fun (z : Int32) => tq_iv (-1) 5 z) (z_X12_haunted_35 σ k_6 h0 x1_35 x2_35 x3_6) := by
        intro x1_35 x2_35 i_x1_35 i_x2_35
        unfold z_X12_haunted_35
        refine tz_let (fun t_35 e7300 => ?_)
        have i3_t_35 : tq_iv 1 6 t_35 := tq_w (tq_add e7300 i1_x3_6 tk_1 (by decide) (by decide)) (by decide) (by decide)
        exact hk_6 x1_35 x2_35 t_35 i_x1_35 i_x2_35 (tq_w i3_t_35 (by decide) (by decide)) (tq_up e7300 i1_x3_6 tk_1 (by decide) (by decide) hn_6)
      refine tz_if _ (fun c7304 => ?_) (fun c7304 => ?_)
      ·
        have i4_x2_6 : tq_iv (-1) 2147483646 x2_6 := tq_cut i_x2_6 (tq_ltL c7304 i_x2_6 (tq_top t_16)) (by decide) (by decide)
        have i5_t_16 : tq_iv 0 2147483647 t_16 := tq_cut (tq_top t_16) (tq_ltR c7304 i_x2_6 (tq_top t_16)) (by decide) (by decide)
        exact K_35 x3_6 t_16 (tq_w i1_x3_6 (by decide) (by decide)) (tq_w i5_t_16 (by decide) (by decide))
      ·
        exact K_35 x1_6 x2_6 i_x1_6 i_x2_6
  have E_6 : ∀ (x1_6 : Int32) (x2_6 : Int32) (x3_6 : Int32), tq_iv (-1) 5 x1_6 → tq_iv (-1) 2147483647 x2_6 → tq_iv 0 6 x3_6 → tz_O (fun (z : Int32) => tq_iv (-1) 5 z) (ez_fix (fun _ _ _ _ => none) (z_X12_haunted_6 σ) ez_N h0 x1_6 x2_6 x3_6) := by
    intro x1_6 x2_6 x3_6 i_x1_6 i_x2_6 i_x3_6
    exact ez_fix_indn (fun n_6 (k_6 : Nat → Int32 → Int32 → Int32 → Option (Int32)) => ∀ (x1_6 : Int32) (x2_6 : Int32) (x3_6 : Int32), tq_iv (-1) 5 x1_6 → tq_iv (-1) 2147483647 x2_6 → tq_iv 0 6 x3_6 → (2147483647 - x3_6.toInt).toNat < n_6 → tz_O (fun (z : Int32) => tq_iv (-1) 5 z) (k_6 h0 x1_6 x2_6 x3_6)) (by intros; rename_i h; exact absurd h (Nat.not_lt_zero _)) L_6 ez_N x1_6 x2_6 x3_6 i_x1_6 i_x2_6 i_x3_6 (tq_m0 x3_6)
  exact E_6 (-1 : Int32) (-1 : Int32) (0 : Int32) (tq_w tk_m1 (by decide) (by decide)) (tq_w tk_m1 (by decide) (by decide)) (tq_w tk_0 (by decide) (by decide))
set_option maxRecDepth 4000 in
theorem tz_X12_idle {p : tz_P} {σ : ez_H} {h0 : Nat} {x1 : Int32} (hT : tp p σ) (k_h0 : tz_C h0 = some (3, 12, 0, 0)) : tz_O (fun z => tq_iv (-2147483648) 2147483647 z) (z_X12_idle σ h0 x1) := by
  unfold z_X12_idle
  refine tz_bd (tz_ob hT k_h0) (fun _ _ => ?_)
  have K_27 : ∀ (y0_27 : Int32), tz_O (fun (z : Int32) => tq_iv (-2147483648) 2147483647 z) (z_X12_idle_27 σ y0_27) := by
    intro y0_27
    unfold z_X12_idle_27
    exact tz_some (tq_top y0_27)
  refine tz_if _ (fun c7317 => ?_) (fun c7317 => ?_)
  ·
    have i1_x1 : tq_iv 0 0 x1 := tq_cut (tq_top x1) (tq_eqL c7317 tk_0) (by decide) (by decide)
    refine tz_bd (tz_X12_keysBy hT k_h0 (tq_w tk_m1 (by decide) (by decide))) (fun t_6 i_t_6 => ?_)
    exact K_27 t_6
  ·
    refine tz_if _ (fun c7316 => ?_) (fun c7316 => ?_)
    ·
      have i2_x1 : tq_iv 1 1 x1 := tq_cut (tq_top x1) (tq_eqL c7316 tk_1) (by decide) (by decide)
      refine tz_bd (tz_X12_keysBy hT k_h0 (tq_w tk_m2 (by decide) (by decide))) (fun t_20 i_t_20 => ?_)
      exact K_27 t_20
    ·
      exact K_27 (-1 : Int32)
set_option maxRecDepth 4000 in
theorem tz_X12_cutAnew {p : tz_P} {σ : ez_H} {h0 : Nat} {x1 : Int32} {x2 : Int32} (hT : tp p σ) (k_h0 : tz_C h0 = some (3, 12, 0, 0)) (i_x1 : tq_iv 0 7 x1) (i_x2 : tq_iv 0 7775 x2) : tz_O2 (fun (z : Unit) (s : ez_H) => tp p s) (z_X12_cutAnew σ h0 x1 x2) := by
  show tz_O (fun z : Unit × ez_H => (fun (z : Unit) (s : ez_H) => tp p s) z.1 z.2) _
  unfold z_X12_cutAnew
  refine tz_bd (tz_ob hT k_h0) (fun _ _ => ?_)
  have L_2 : ∀ (n_2 : Nat) (k_2 : ez_H → Nat → Int32 → Int32 → Int32 → Option (Unit × ez_H)), (∀ (σ_2 : ez_H) (x3_2 : Int32), tp p σ_2 → tq_iv 0 5 x3_2 → (2147483647 - x3_2.toInt).toNat < n_2 → tz_O (fun z : Unit × ez_H => (fun (z : Unit) (s : ez_H) => tp p s) z.1 z.2) (k_2 σ_2 h0 x1 x2 x3_2)) → ∀ (σ_2 : ez_H) (x3_2 : Int32), tp p σ_2 → tq_iv 0 5 x3_2 → (2147483647 - x3_2.toInt).toNat < n_2 + 1 → tz_O (fun z : Unit × ez_H => (fun (z : Unit) (s : ez_H) => tp p s) z.1 z.2) (z_X12_cutAnew_2 k_2 σ_2 h0 x1 x2 x3_2) := by
    intro n_2 k_2 hk_2 σ_2 x3_2 T_σ_2 i_x3_2 hn_2
    unfold z_X12_cutAnew_2
    refine tz_bd (tz_X12_wide T_σ_2 k_h0) (fun t_4 i_t_4 => ?_)
    refine tz_if _ (fun c7357 => ?_) (fun c7357 => ?_)
    ·
      have i1_x3_2 : tq_iv 2 5 x3_2 := tq_cut i_x3_2 (tq_leR c7357 i_t_4 i_x3_2) (by decide) (by decide)
      exact tz_some T_σ_2
    ·
      have i2_x3_2 : tq_iv 0 4 x3_2 := tq_cut i_x3_2 (tq_ltL (tq_nle c7357) i_x3_2 i_t_4) (by decide) (by decide)
      refine tz_bk (tr_53 T_σ_2 k_h0) ?_
      refine tz_let (fun t_17 e7355 => ?_)
      have i3_t_17 : tq_iv 0 35 t_17 := tq_w (tq_mul e7355 tk_5 i_x1 (by decide) (by decide) (by decide)) (by decide) (by decide)
      refine tz_let (fun t_18 e7354 => ?_)
      have i4_t_18 : tq_iv 0 35 t_18 := tq_w (tq_add e7354 tk_0 i3_t_17 (by decide) (by decide)) (by decide) (by decide)
      refine tz_let (fun t_20 e7353 => ?_)
      have i5_t_20 : tq_iv 0 39 t_20 := tq_w (tq_add e7353 i4_t_18 i2_x3_2 (by decide) (by decide)) (by decide) (by decide)
      refine tz_bd (tz_X12_cutIn T_σ_2 k_h0 i_x2 i2_x3_2) (fun t_24 i_t_24 => ?_)
      refine tz_be (tz_isS T_σ_2 tc_205 (tS_205 (p := p) 0 39 (-2147483648) 2147483647 (by decide)) i5_t_20 (by decide) (by decide) (tq_top t_24)) (fun σ7351 e7351 T7351 => ?_)
      refine tz_let (fun t_28 e7350 => ?_)
      have i6_t_28 : tq_iv 1 5 t_28 := tq_w (tq_add e7350 i2_x3_2 tk_1 (by decide) (by decide)) (by decide) (by decide)
      exact hk_2 σ7351 t_28 T7351 (tq_w i6_t_28 (by decide) (by decide)) (tq_up e7350 i2_x3_2 tk_1 (by decide) (by decide) hn_2)
  have E_2 : ∀ (σ_2 : ez_H) (x3_2 : Int32), tp p σ_2 → tq_iv 0 5 x3_2 → tz_O (fun z : Unit × ez_H => (fun (z : Unit) (s : ez_H) => tp p s) z.1 z.2) (ez_fix (fun _ _ _ _ _ => none) (z_X12_cutAnew_2) ez_N σ_2 h0 x1 x2 x3_2) := by
    intro σ_2 x3_2 T_σ_2 i_x3_2
    exact ez_fix_indn (fun n_2 (k_2 : ez_H → Nat → Int32 → Int32 → Int32 → Option (Unit × ez_H)) => ∀ (σ_2 : ez_H) (x3_2 : Int32), tp p σ_2 → tq_iv 0 5 x3_2 → (2147483647 - x3_2.toInt).toNat < n_2 → tz_O (fun z : Unit × ez_H => (fun (z : Unit) (s : ez_H) => tp p s) z.1 z.2) (k_2 σ_2 h0 x1 x2 x3_2)) (by intros; rename_i h; exact absurd h (Nat.not_lt_zero _)) L_2 ez_N σ_2 x3_2 T_σ_2 i_x3_2 (tq_m0 x3_2)
  exact E_2 σ (0 : Int32) hT (tq_w tk_0 (by decide) (by decide))
set_option maxRecDepth 4000 in
theorem tz_X12_pinFor {p : tz_P} {σ : ez_H} {h0 : Nat} {x1 : Int32} {x2 : Int32} (hT : tp p σ) (k_h0 : tz_C h0 = some (3, 12, 0, 0)) (i_x1 : tq_iv 0 5 x1) : tz_O2 (fun (z : Unit) (s : ez_H) => tp p s) (z_X12_pinFor σ h0 x1 x2) := by
  show tz_O (fun z : Unit × ez_H => (fun (z : Unit) (s : ez_H) => tp p s) z.1 z.2) _
  unfold z_X12_pinFor
  refine tz_bd (tz_ob hT k_h0) (fun _ _ => ?_)
  have L_2 : ∀ (n_2 : Nat) (k_2 : ez_H → Nat → Int32 → Int32 → Int32 → Option (Unit × ez_H)), (∀ (σ_2 : ez_H) (x3_2 : Int32), tp p σ_2 → tq_iv 0 5 x3_2 → (2147483647 - x3_2.toInt).toNat < n_2 → tz_O (fun z : Unit × ez_H => (fun (z : Unit) (s : ez_H) => tp p s) z.1 z.2) (k_2 σ_2 h0 x1 x2 x3_2)) → ∀ (σ_2 : ez_H) (x3_2 : Int32), tp p σ_2 → tq_iv 0 5 x3_2 → (2147483647 - x3_2.toInt).toNat < n_2 + 1 → tz_O (fun z : Unit × ez_H => (fun (z : Unit) (s : ez_H) => tp p s) z.1 z.2) (z_X12_pinFor_2 k_2 σ_2 h0 x1 x2 x3_2) := by
    intro n_2 k_2 hk_2 σ_2 x3_2 T_σ_2 i_x3_2 hn_2
    unfold z_X12_pinFor_2
    refine tz_bd (tz_X12_wide T_σ_2 k_h0) (fun t_4 i_t_4 => ?_)
    refine tz_if _ (fun c7381 => ?_) (fun c7381 => ?_)
    ·
      have i1_x3_2 : tq_iv 2 5 x3_2 := tq_cut i_x3_2 (tq_leR c7381 i_t_4 i_x3_2) (by decide) (by decide)
      exact tz_some T_σ_2
    ·
      have i2_x3_2 : tq_iv 0 4 x3_2 := tq_cut i_x3_2 (tq_ltL (tq_nle c7381) i_x3_2 i_t_4) (by decide) (by decide)
      have L_16 : ∀ (n_16 : Nat) (k_16 : ez_H → Nat → Int32 → Int32 → Int32 → Int32 → Int32 → Option (Unit × ez_H)), (∀ (x4_16 : Int32) (x5_16 : Int32), tq_iv 0 8 x5_16 → (2147483647 - x5_16.toInt).toNat < n_16 → tz_O (fun z : Unit × ez_H => (fun (z : Unit) (s : ez_H) => tp p s) z.1 z.2) (k_16 σ_2 h0 x1 x2 x3_2 x4_16 x5_16)) → ∀ (x4_16 : Int32) (x5_16 : Int32), tq_iv 0 8 x5_16 → (2147483647 - x5_16.toInt).toNat < n_16 + 1 → tz_O (fun z : Unit × ez_H => (fun (z : Unit) (s : ez_H) => tp p s) z.1 z.2) (z_X12_pinFor_16 k_2 k_16 σ_2 h0 x1 x2 x3_2 x4_16 x5_16) := by
        intro n_16 k_16 hk_16 x4_16 x5_16 i_x5_16 hn_16
        unfold z_X12_pinFor_16
        refine tz_bd (tz_X12_many T_σ_2 k_h0) (fun t_19 i_t_19 => ?_)
        refine tz_if _ (fun c7377 => ?_) (fun c7377 => ?_)
        ·
          refine tz_bk (tr_53 T_σ_2 k_h0) ?_
          refine tz_let (fun t_62 e7368 => ?_)
          have i3_t_62 : tq_iv 0 25 t_62 := tq_w (tq_mul e7368 tk_5 i_x1 (by decide) (by decide) (by decide)) (by decide) (by decide)
          refine tz_let (fun t_63 e7367 => ?_)
          have i4_t_63 : tq_iv 56 81 t_63 := tq_w (tq_add e7367 tk_56 i3_t_62 (by decide) (by decide)) (by decide) (by decide)
          refine tz_let (fun t_65 e7366 => ?_)
          have i5_t_65 : tq_iv 56 85 t_65 := tq_w (tq_add e7366 i4_t_63 i2_x3_2 (by decide) (by decide)) (by decide) (by decide)
          refine tz_be (tz_isS T_σ_2 tc_205 (tS_205 (p := p) 56 85 (-2147483648) 2147483647 (by decide)) i5_t_65 (by decide) (by decide) (tq_top x4_16)) (fun σ7365 e7365 T7365 => ?_)
          refine tz_let (fun t_69 e7364 => ?_)
          have i6_t_69 : tq_iv 1 5 t_69 := tq_w (tq_add e7364 i2_x3_2 tk_1 (by decide) (by decide)) (by decide) (by decide)
          exact hk_2 σ7365 t_69 T7365 (tq_w i6_t_69 (by decide) (by decide)) (tq_up e7364 i2_x3_2 tk_1 (by decide) (by decide) hn_2)
        ·
          have i7_x5_16 : tq_iv 0 7 x5_16 := tq_cut i_x5_16 (tq_ltL (tq_nle c7377) i_x5_16 i_t_19) (by decide) (by decide)
          have i8_t_19 : tq_iv 1 8 t_19 := tq_cut i_t_19 (tq_ltR (tq_nle c7377) i_x5_16 i_t_19) (by decide) (by decide)
          refine tz_bd (tz_X12_bit T_σ_2) (fun t_28 i_t_28 => ?_)
          have K_48 : ∀ (x4_48 : Int32), tz_O (fun z : Unit × ez_H => (fun (z : Unit) (s : ez_H) => tp p s) z.1 z.2) (z_X12_pinFor_48 k_2 k_16 σ_2 h0 x1 x2 x3_2 x4_48 x5_16) := by
            intro x4_48
            unfold z_X12_pinFor_48
            refine tz_let (fun t_48 e7362 => ?_)
            have i9_t_48 : tq_iv 1 8 t_48 := tq_w (tq_add e7362 i7_x5_16 tk_1 (by decide) (by decide)) (by decide) (by decide)
            exact hk_16 x4_48 t_48 (tq_w i9_t_48 (by decide) (by decide)) (tq_up e7362 i7_x5_16 tk_1 (by decide) (by decide) hn_16)
          refine tz_if _ (fun c7375 => ?_) (fun c7375 => ?_)
          ·
            have i10_t_28 : tq_iv 0 0 t_28 := tq_cut i_t_28 (tq_eqL c7375 tk_0) (by decide) (by decide)
            exact K_48 x4_16
          ·
            have i11_t_28 : tq_iv 1 1 t_28 := tq_w (tq_neLo c7375 i_t_28 tk_0) (by decide) (by decide)
            refine tz_bd (tz_X12_cutOf T_σ_2 k_h0 i7_x5_16 i2_x3_2) (fun t_41 i_t_41 => ?_)
            refine tz_let (fun t_44 e7373 => ?_)
            refine tz_let (fun t_45 e7372 => ?_)
            exact K_48 t_45
      have E_16 : ∀ (x4_16 : Int32) (x5_16 : Int32), tq_iv 0 8 x5_16 → tz_O (fun z : Unit × ez_H => (fun (z : Unit) (s : ez_H) => tp p s) z.1 z.2) (ez_fix (fun _ _ _ _ _ _ _ => none) (z_X12_pinFor_16 k_2) ez_N σ_2 h0 x1 x2 x3_2 x4_16 x5_16) := by
        intro x4_16 x5_16 i_x5_16
        exact ez_fix_indn (fun n_16 (k_16 : ez_H → Nat → Int32 → Int32 → Int32 → Int32 → Int32 → Option (Unit × ez_H)) => ∀ (x4_16 : Int32) (x5_16 : Int32), tq_iv 0 8 x5_16 → (2147483647 - x5_16.toInt).toNat < n_16 → tz_O (fun z : Unit × ez_H => (fun (z : Unit) (s : ez_H) => tp p s) z.1 z.2) (k_16 σ_2 h0 x1 x2 x3_2 x4_16 x5_16)) (by intros; rename_i h; exact absurd h (Nat.not_lt_zero _)) L_16 ez_N x4_16 x5_16 i_x5_16 (tq_m0 x5_16)
      exact E_16 (0 : Int32) (0 : Int32) (tq_w tk_0 (by decide) (by decide))
  have E_2 : ∀ (σ_2 : ez_H) (x3_2 : Int32), tp p σ_2 → tq_iv 0 5 x3_2 → tz_O (fun z : Unit × ez_H => (fun (z : Unit) (s : ez_H) => tp p s) z.1 z.2) (ez_fix (fun _ _ _ _ _ => none) (z_X12_pinFor_2) ez_N σ_2 h0 x1 x2 x3_2) := by
    intro σ_2 x3_2 T_σ_2 i_x3_2
    exact ez_fix_indn (fun n_2 (k_2 : ez_H → Nat → Int32 → Int32 → Int32 → Option (Unit × ez_H)) => ∀ (σ_2 : ez_H) (x3_2 : Int32), tp p σ_2 → tq_iv 0 5 x3_2 → (2147483647 - x3_2.toInt).toNat < n_2 → tz_O (fun z : Unit × ez_H => (fun (z : Unit) (s : ez_H) => tp p s) z.1 z.2) (k_2 σ_2 h0 x1 x2 x3_2)) (by intros; rename_i h; exact absurd h (Nat.not_lt_zero _)) L_2 ez_N σ_2 x3_2 T_σ_2 i_x3_2 (tq_m0 x3_2)
  exact E_2 σ (0 : Int32) hT (tq_w tk_0 (by decide) (by decide))
set_option maxRecDepth 4000 in
theorem tz_X12_pinByPlan {p : tz_P} {σ : ez_H} {h0 : Nat} (hT : tp p σ) (k_h0 : tz_C h0 = some (3, 12, 0, 0)) : tz_O2 (fun (z : Unit) (s : ez_H) => tp p s) (z_X12_pinByPlan σ h0) := by
  show tz_O (fun z : Unit × ez_H => (fun (z : Unit) (s : ez_H) => tp p s) z.1 z.2) _
  unfold z_X12_pinByPlan
  refine tz_bd (tz_ob hT k_h0) (fun _ _ => ?_)
  have L_2 : ∀ (n_2 : Nat) (k_2 : ez_H → Nat → Int32 → Option (Unit × ez_H)), (∀ (σ_2 : ez_H) (x1_2 : Int32), tp p σ_2 → tq_iv 0 6 x1_2 → (2147483647 - x1_2.toInt).toNat < n_2 → tz_O (fun z : Unit × ez_H => (fun (z : Unit) (s : ez_H) => tp p s) z.1 z.2) (k_2 σ_2 h0 x1_2)) → ∀ (σ_2 : ez_H) (x1_2 : Int32), tp p σ_2 → tq_iv 0 6 x1_2 → (2147483647 - x1_2.toInt).toNat < n_2 + 1 → tz_O (fun z : Unit × ez_H => (fun (z : Unit) (s : ez_H) => tp p s) z.1 z.2) (z_X12_pinByPlan_2 k_2 σ_2 h0 x1_2) := by
    intro n_2 k_2 hk_2 σ_2 x1_2 T_σ_2 i_x1_2 hn_2
    unfold z_X12_pinByPlan_2
    refine tz_bd (tz_X12_bolts T_σ_2 k_h0) (fun t_4 i_t_4 => ?_)
    refine tz_if _ (fun c7394 => ?_) (fun c7394 => ?_)
    ·
      exact tz_some T_σ_2
    ·
      have i1_x1_2 : tq_iv 0 5 x1_2 := tq_cut i_x1_2 (tq_ltL (tq_nle c7394) i_x1_2 i_t_4) (by decide) (by decide)
      have i2_t_4 : tq_iv 1 6 t_4 := tq_cut i_t_4 (tq_ltR (tq_nle c7394) i_x1_2 i_t_4) (by decide) (by decide)
      refine tz_bd (tz_X12_mustOf T_σ_2 k_h0 i1_x1_2) (fun t_12 i_t_12 => ?_)
      have K_28 : ∀ (σ_28 : ez_H), tp p σ_28 → tz_O (fun z : Unit × ez_H => (fun (z : Unit) (s : ez_H) => tp p s) z.1 z.2) (z_X12_pinByPlan_28 k_2 σ_28 h0 x1_2) := by
        intro σ_28 T_σ_28
        unfold z_X12_pinByPlan_28
        refine tz_let (fun t_28 e7386 => ?_)
        have i3_t_28 : tq_iv 1 6 t_28 := tq_w (tq_add e7386 i1_x1_2 tk_1 (by decide) (by decide)) (by decide) (by decide)
        exact hk_2 σ_28 t_28 T_σ_28 (tq_w i3_t_28 (by decide) (by decide)) (tq_up e7386 i1_x1_2 tk_1 (by decide) (by decide) hn_2)
      refine tz_if _ (fun c7392 => ?_) (fun c7392 => ?_)
      ·
        have i4_t_12 : tq_iv 0 0 t_12 := tq_cut (tq_top t_12) (tq_eqL c7392 tk_0) (by decide) (by decide)
        exact K_28 σ_2 T_σ_2
      ·
        refine tz_bd (tz_X12_mustOf T_σ_2 k_h0 i1_x1_2) (fun t_22 i_t_22 => ?_)
        refine tz_b2 (tz_X12_pinFor T_σ_2 k_h0 i1_x1_2) (fun _ σ7390 T7390 => ?_)
        exact K_28 σ7390 T7390
  have E_2 : ∀ (σ_2 : ez_H) (x1_2 : Int32), tp p σ_2 → tq_iv 0 6 x1_2 → tz_O (fun z : Unit × ez_H => (fun (z : Unit) (s : ez_H) => tp p s) z.1 z.2) (ez_fix (fun _ _ _ => none) (z_X12_pinByPlan_2) ez_N σ_2 h0 x1_2) := by
    intro σ_2 x1_2 T_σ_2 i_x1_2
    exact ez_fix_indn (fun n_2 (k_2 : ez_H → Nat → Int32 → Option (Unit × ez_H)) => ∀ (σ_2 : ez_H) (x1_2 : Int32), tp p σ_2 → tq_iv 0 6 x1_2 → (2147483647 - x1_2.toInt).toNat < n_2 → tz_O (fun z : Unit × ez_H => (fun (z : Unit) (s : ez_H) => tp p s) z.1 z.2) (k_2 σ_2 h0 x1_2)) (by intros; rename_i h; exact absurd h (Nat.not_lt_zero _)) L_2 ez_N σ_2 x1_2 T_σ_2 i_x1_2 (tq_m0 x1_2)
  exact E_2 σ (0 : Int32) hT (tq_w tk_0 (by decide) (by decide))
set_option maxRecDepth 4000 in
theorem tz_X12_straysBy {p : tz_P} {σ : ez_H} {h0 : Nat} {x1 : Int32} (hT : tp p σ) (k_h0 : tz_C h0 = some (3, 12, 0, 0)) (i_x1 : tq_iv 0 2 x1) : tz_O (fun z => tq_iv (-2147483648) 2147483647 z) (z_X12_straysBy σ h0 x1) := by
  unfold z_X12_straysBy
  refine tz_bd (tz_ob hT k_h0) (fun _ _ => ?_)
  have L_10 : ∀ (n_10 : Nat) (k_10 : Nat → Int32 → Int32 → Int32 → Int32 → Int32 → Option (Int32)), (∀ (x2_10 : Int32) (x3_10 : Int32) (x4_10 : Int32) (x5_10 : Int32), tq_iv (-1) 7 x3_10 → tq_iv (-1) 5 x4_10 → tq_iv 0 8 x5_10 → (2147483647 - x5_10.toInt).toNat < n_10 → tz_O (fun (z : Int32) => tq_iv (-2147483648) 2147483647 z) (k_10 h0 x1 x2_10 x3_10 x4_10 x5_10)) → ∀ (x2_10 : Int32) (x3_10 : Int32) (x4_10 : Int32) (x5_10 : Int32), tq_iv (-1) 7 x3_10 → tq_iv (-1) 5 x4_10 → tq_iv 0 8 x5_10 → (2147483647 - x5_10.toInt).toNat < n_10 + 1 → tz_O (fun (z : Int32) => tq_iv (-2147483648) 2147483647 z) (z_X12_straysBy_10 σ k_10 h0 x1 x2_10 x3_10 x4_10 x5_10) := by
    intro n_10 k_10 hk_10 x2_10 x3_10 x4_10 x5_10 i_x3_10 i_x4_10 i_x5_10 hn_10
    unfold z_X12_straysBy_10
    refine tz_bd (tz_X12_many hT k_h0) (fun t_13 i_t_13 => ?_)
    refine tz_if _ (fun c7423 => ?_) (fun c7423 => ?_)
    ·
      have K_104 : ∀ (y0_104 : Int32), tz_O (fun (z : Int32) => tq_iv (-2147483648) 2147483647 z) (z_X12_straysBy_104 σ y0_104) := by
        intro y0_104
        unfold z_X12_straysBy_104
        exact tz_some (tq_top y0_104)
      refine tz_if _ (fun c7421 => ?_) (fun c7421 => ?_)
      ·
        have i1_x1 : tq_iv 0 0 x1 := tq_cut i_x1 (tq_eqL c7421 tk_0) (by decide) (by decide)
        exact K_104 x2_10
      ·
        have i2_x1 : tq_iv 1 2 x1 := tq_w (tq_neLo c7421 i_x1 tk_0) (by decide) (by decide)
        refine tz_if _ (fun c7420 => ?_) (fun c7420 => ?_)
        ·
          have i3_x1 : tq_iv 1 1 x1 := tq_cut i2_x1 (tq_eqL c7420 tk_1) (by decide) (by decide)
          exact K_104 x3_10
        ·
          have i4_x1 : tq_iv 2 2 x1 := tq_w (tq_neLo c7420 i2_x1 tk_1) (by decide) (by decide)
          exact K_104 x4_10
    ·
      have i5_x5_10 : tq_iv 0 7 x5_10 := tq_cut i_x5_10 (tq_ltL (tq_nle c7423) i_x5_10 i_t_13) (by decide) (by decide)
      have i6_t_13 : tq_iv 1 8 t_13 := tq_cut i_t_13 (tq_ltR (tq_nle c7423) i_x5_10 i_t_13) (by decide) (by decide)
      have L_22 : ∀ (n_22 : Nat) (k_22 : Nat → Int32 → Int32 → Int32 → Int32 → Int32 → Int32 → Option (Int32)), (∀ (x2_22 : Int32) (x3_22 : Int32) (x4_22 : Int32) (x6_22 : Int32), tq_iv (-1) 7 x3_22 → tq_iv (-1) 5 x4_22 → tq_iv 0 6 x6_22 → (2147483647 - x6_22.toInt).toNat < n_22 → tz_O (fun (z : Int32) => tq_iv (-2147483648) 2147483647 z) (k_22 h0 x1 x2_22 x3_22 x4_22 x5_10 x6_22)) → ∀ (x2_22 : Int32) (x3_22 : Int32) (x4_22 : Int32) (x6_22 : Int32), tq_iv (-1) 7 x3_22 → tq_iv (-1) 5 x4_22 → tq_iv 0 6 x6_22 → (2147483647 - x6_22.toInt).toNat < n_22 + 1 → tz_O (fun (z : Int32) => tq_iv (-2147483648) 2147483647 z) (z_X12_straysBy_22 σ k_10 k_22 h0 x1 x2_22 x3_22 x4_22 x5_10 x6_22) := by
        intro n_22 k_22 hk_22 x2_22 x3_22 x4_22 x6_22 i_x3_22 i_x4_22 i_x6_22 hn_22
        unfold z_X12_straysBy_22
        refine tz_bd (tz_X12_bolts hT k_h0) (fun t_25 i_t_25 => ?_)
        refine tz_if _ (fun c7415 => ?_) (fun c7415 => ?_)
        ·
          refine tz_let (fun t_79 e7404 => ?_)
          have i7_t_79 : tq_iv 1 8 t_79 := tq_w (tq_add e7404 i5_x5_10 tk_1 (by decide) (by decide)) (by decide) (by decide)
          exact hk_10 x2_22 x3_22 x4_22 t_79 i_x3_22 i_x4_22 (tq_w i7_t_79 (by decide) (by decide)) (tq_up e7404 i5_x5_10 tk_1 (by decide) (by decide) hn_10)
        ·
          have i8_x6_22 : tq_iv 0 5 x6_22 := tq_cut i_x6_22 (tq_ltL (tq_nle c7415) i_x6_22 i_t_25) (by decide) (by decide)
          have i9_t_25 : tq_iv 1 6 t_25 := tq_cut i_t_25 (tq_ltR (tq_nle c7415) i_x6_22 i_t_25) (by decide) (by decide)
          refine tz_bd (tz_X12_neverOf hT k_h0 i8_x6_22) (fun t_34 i_t_34 => ?_)
          refine tz_bd (tz_X12_bit hT) (fun t_39 i_t_39 => ?_)
          have K_73 : ∀ (x2_73 : Int32) (x3_73 : Int32) (x4_73 : Int32), tq_iv (-1) 7 x3_73 → tq_iv (-1) 5 x4_73 → tz_O (fun (z : Int32) => tq_iv (-2147483648) 2147483647 z) (z_X12_straysBy_73 σ k_10 k_22 h0 x1 x2_73 x3_73 x4_73 x5_10 x6_22) := by
            intro x2_73 x3_73 x4_73 i_x3_73 i_x4_73
            unfold z_X12_straysBy_73
            refine tz_let (fun t_73 e7400 => ?_)
            have i10_t_73 : tq_iv 1 6 t_73 := tq_w (tq_add e7400 i8_x6_22 tk_1 (by decide) (by decide)) (by decide) (by decide)
            exact hk_22 x2_73 x3_73 x4_73 t_73 i_x3_73 i_x4_73 (tq_w i10_t_73 (by decide) (by decide)) (tq_up e7400 i8_x6_22 tk_1 (by decide) (by decide) hn_22)
          refine tz_if _ (fun c7412 => ?_) (fun c7412 => ?_)
          ·
            have i11_t_39 : tq_iv 0 0 t_39 := tq_cut i_t_39 (tq_eqL c7412 tk_0) (by decide) (by decide)
            exact K_73 x2_22 x3_22 x4_22 i_x3_22 i_x4_22
          ·
            have i12_t_39 : tq_iv 1 1 t_39 := tq_w (tq_neLo c7412 i_t_39 tk_0) (by decide) (by decide)
            refine tz_bd (tz_X12_opensBy hT k_h0 i5_x5_10 i8_x6_22) (fun t_50 i_t_50 => ?_)
            refine tz_if _ (fun c7410 => ?_) (fun c7410 => ?_)
            ·
              have i13_t_50 : tq_iv 0 0 t_50 := tq_cut i_t_50 (tq_eqL c7410 tk_0) (by decide) (by decide)
              exact K_73 x2_22 x3_22 x4_22 i_x3_22 i_x4_22
            ·
              have i14_t_50 : tq_iv 1 1 t_50 := tq_w (tq_neLo c7410 i_t_50 tk_0) (by decide) (by decide)
              have K_70 : ∀ (x3_70 : Int32) (x4_70 : Int32), tq_iv (-1) 7 x3_70 → tq_iv (-1) 5 x4_70 → tz_O (fun (z : Int32) => tq_iv (-2147483648) 2147483647 z) (z_X12_straysBy_70 σ k_10 k_22 h0 x1 x2_22 x3_70 x4_70 x5_10 x6_22) := by
                intro x3_70 x4_70 i_x3_70 i_x4_70
                unfold z_X12_straysBy_70
                refine tz_let (fun t_70 e7402 => ?_)
                exact K_73 t_70 x3_70 x4_70 i_x3_70 i_x4_70
              refine tz_if _ (fun c7409 => ?_) (fun c7409 => ?_)
              ·
                have i15_x2_22 : tq_iv 0 0 x2_22 := tq_cut (tq_top x2_22) (tq_eqL c7409 tk_0) (by decide) (by decide)
                exact K_70 x5_10 x6_22 (tq_w i5_x5_10 (by decide) (by decide)) (tq_w i8_x6_22 (by decide) (by decide))
              ·
                exact K_70 x3_22 x4_22 i_x3_22 i_x4_22
      have E_22 : ∀ (x2_22 : Int32) (x3_22 : Int32) (x4_22 : Int32) (x6_22 : Int32), tq_iv (-1) 7 x3_22 → tq_iv (-1) 5 x4_22 → tq_iv 0 6 x6_22 → tz_O (fun (z : Int32) => tq_iv (-2147483648) 2147483647 z) (ez_fix (fun _ _ _ _ _ _ _ => none) (z_X12_straysBy_22 σ k_10) ez_N h0 x1 x2_22 x3_22 x4_22 x5_10 x6_22) := by
        intro x2_22 x3_22 x4_22 x6_22 i_x3_22 i_x4_22 i_x6_22
        exact ez_fix_indn (fun n_22 (k_22 : Nat → Int32 → Int32 → Int32 → Int32 → Int32 → Int32 → Option (Int32)) => ∀ (x2_22 : Int32) (x3_22 : Int32) (x4_22 : Int32) (x6_22 : Int32), tq_iv (-1) 7 x3_22 → tq_iv (-1) 5 x4_22 → tq_iv 0 6 x6_22 → (2147483647 - x6_22.toInt).toNat < n_22 → tz_O (fun (z : Int32) => tq_iv (-2147483648) 2147483647 z) (k_22 h0 x1 x2_22 x3_22 x4_22 x5_10 x6_22)) (by intros; rename_i h; exact absurd h (Nat.not_lt_zero _)) L_22 ez_N x2_22 x3_22 x4_22 x6_22 i_x3_22 i_x4_22 i_x6_22 (tq_m0 x6_22)
      exact E_22 x2_10 x3_10 x4_10 (0 : Int32) i_x3_10 i_x4_10 (tq_w tk_0 (by decide) (by decide))
  have E_10 : ∀ (x2_10 : Int32) (x3_10 : Int32) (x4_10 : Int32) (x5_10 : Int32), tq_iv (-1) 7 x3_10 → tq_iv (-1) 5 x4_10 → tq_iv 0 8 x5_10 → tz_O (fun (z : Int32) => tq_iv (-2147483648) 2147483647 z) (ez_fix (fun _ _ _ _ _ _ => none) (z_X12_straysBy_10 σ) ez_N h0 x1 x2_10 x3_10 x4_10 x5_10) := by
    intro x2_10 x3_10 x4_10 x5_10 i_x3_10 i_x4_10 i_x5_10
    exact ez_fix_indn (fun n_10 (k_10 : Nat → Int32 → Int32 → Int32 → Int32 → Int32 → Option (Int32)) => ∀ (x2_10 : Int32) (x3_10 : Int32) (x4_10 : Int32) (x5_10 : Int32), tq_iv (-1) 7 x3_10 → tq_iv (-1) 5 x4_10 → tq_iv 0 8 x5_10 → (2147483647 - x5_10.toInt).toNat < n_10 → tz_O (fun (z : Int32) => tq_iv (-2147483648) 2147483647 z) (k_10 h0 x1 x2_10 x3_10 x4_10 x5_10)) (by intros; rename_i h; exact absurd h (Nat.not_lt_zero _)) L_10 ez_N x2_10 x3_10 x4_10 x5_10 i_x3_10 i_x4_10 i_x5_10 (tq_m0 x5_10)
  exact E_10 (0 : Int32) (-1 : Int32) (-1 : Int32) (0 : Int32) (tq_w tk_m1 (by decide) (by decide)) (tq_w tk_m1 (by decide) (by decide)) (tq_w tk_0 (by decide) (by decide))
set_option maxRecDepth 4000 in
theorem tz_X12_keeps {p : tz_P} {σ : ez_H} {h0 : Nat} {x1 : Int32} (hT : tp p σ) (k_h0 : tz_C h0 = some (3, 12, 0, 0)) : tz_O2 (fun (z : Int32) (s : ez_H) => tq_iv (-1) 7775 z ∧ tp p s) (z_X12_keeps σ h0 x1) := by
  show tz_O (fun z : Int32 × ez_H => (fun (z : Int32) (s : ez_H) => tq_iv (-1) 7775 z ∧ tp p s) z.1 z.2) _
  unfold z_X12_keeps
  refine tz_bd (tz_ob hT k_h0) (fun _ _ => ?_)
  refine tz_bd (tz_X12_isKey hT k_h0) (fun t_2 ⟨i_t_2, g_t_2⟩ => ?_)
  refine tz_if _ (fun c7458 => ?_) (fun c7458 => ?_)
  ·
    have i1_t_2 : tq_iv 0 0 t_2 := tq_cut i_t_2 (tq_eqL c7458 tk_0) (by decide) (by decide)
    exact tz_some ⟨(tq_w tk_m1 (by decide) (by decide)), hT⟩
  ·
    have i2_x1 : tq_iv 0 7 x1 := tq_cut (tq_top x1) (g_t_2 c7458) (by decide) (by decide)
    have i3_t_2 : tq_iv 1 1 t_2 := tq_w (tq_neLo c7458 i_t_2 tk_0) (by decide) (by decide)
    refine tz_b2 (tz_X12_keepNow hT k_h0) (fun _ σ7457 T7457 => ?_)
    have L_18 : ∀ (n_18 : Nat) (k_18 : ez_H → Nat → Int32 → Int32 → Int32 → Option (Int32 × ez_H)), (∀ (σ_18 : ez_H) (x2_18 : Int32) (x3_18 : Int32), tp p σ_18 → tq_iv (-1) 7775 x2_18 → tq_iv 0 7776 x3_18 → (2147483647 - x3_18.toInt).toNat < n_18 → tz_O (fun z : Int32 × ez_H => (fun (z : Int32) (s : ez_H) => tq_iv (-1) 7775 z ∧ tp p s) z.1 z.2) (k_18 σ_18 h0 x1 x2_18 x3_18)) → ∀ (σ_18 : ez_H) (x2_18 : Int32) (x3_18 : Int32), tp p σ_18 → tq_iv (-1) 7775 x2_18 → tq_iv 0 7776 x3_18 → (2147483647 - x3_18.toInt).toNat < n_18 + 1 → tz_O (fun z : Int32 × ez_H => (fun (z : Int32) (s : ez_H) => tq_iv (-1) 7775 z ∧ tp p s) z.1 z.2) (z_X12_keeps_18 k_18 σ_18 h0 x1 x2_18 x3_18) := by
      intro n_18 k_18 hk_18 σ_18 x2_18 x3_18 T_σ_18 i_x2_18 i_x3_18 hn_18
      unfold z_X12_keeps_18
      refine tz_bd (tz_X12_bittings T_σ_18 k_h0) (fun t_20 i_t_20 => ?_)
      have K_67 : tz_O (fun z : Int32 × ez_H => (fun (z : Int32) (s : ez_H) => tq_iv (-1) 7775 z ∧ tp p s) z.1 z.2) (z_X12_keeps_67 σ_18 h0 x2_18) := by
        unfold z_X12_keeps_67
        refine tz_b2 (tz_X12_bringBack T_σ_18 k_h0) (fun _ σ7438 T7438 => ?_)
        exact tz_some ⟨i_x2_18, T7438⟩
      refine tz_if _ (fun c7453 => ?_) (fun c7453 => ?_)
      ·
        have i4_x3_18 : tq_iv 1 7776 x3_18 := tq_cut i_x3_18 (tq_leR c7453 i_t_20 i_x3_18) (by decide) (by decide)
        exact K_67 
      ·
        have i5_x3_18 : tq_iv 0 7775 x3_18 := tq_cut i_x3_18 (tq_ltL (tq_nle c7453) i_x3_18 i_t_20) (by decide) (by decide)
        refine tz_if _ (fun c7452 => ?_) (fun c7452 => ?_)
        ·
          have i6_x2_18 : tq_iv 0 7775 x2_18 := tq_cut i_x2_18 (tq_leR c7452 tk_0 i_x2_18) (by decide) (by decide)
          exact K_67 
        ·
          have i7_x2_18 : tq_iv (-1) (-1) x2_18 := tq_cut i_x2_18 (tq_ltL (tq_nle c7452) i_x2_18 tk_0) (by decide) (by decide)
          refine tz_bd (tz_X12_isLegal T_σ_18 k_h0) (fun t_32 ⟨i_t_32, g_t_32⟩ => ?_)
          have K_61 : ∀ (σ_61 : ez_H) (x2_61 : Int32), tp p σ_61 → tq_iv (-1) 7775 x2_61 → tz_O (fun z : Int32 × ez_H => (fun (z : Int32) (s : ez_H) => tq_iv (-1) 7775 z ∧ tp p s) z.1 z.2) (z_X12_keeps_61 k_18 σ_61 h0 x1 x2_61 x3_18) := by
            intro σ_61 x2_61 T_σ_61 i_x2_61
            unfold z_X12_keeps_61
            refine tz_let (fun t_61 e7440 => ?_)
            have i8_t_61 : tq_iv 1 7776 t_61 := tq_w (tq_add e7440 i5_x3_18 tk_1 (by decide) (by decide)) (by decide) (by decide)
            exact hk_18 σ_61 x2_61 t_61 T_σ_61 i_x2_61 (tq_w i8_t_61 (by decide) (by decide)) (tq_up e7440 i5_x3_18 tk_1 (by decide) (by decide) hn_18)
          refine tz_if _ (fun c7450 => ?_) (fun c7450 => ?_)
          ·
            have i9_t_32 : tq_iv 0 0 t_32 := tq_cut i_t_32 (tq_eqL c7450 tk_0) (by decide) (by decide)
            exact K_61 σ_18 x2_18 T_σ_18 (tq_w i7_x2_18 (by decide) (by decide))
          ·
            have i10_t_32 : tq_iv 1 1 t_32 := tq_w (tq_neLo c7450 i_t_32 tk_0) (by decide) (by decide)
            refine tz_b2 (tz_X12_cutAnew T_σ_18 k_h0 i2_x1 i5_x3_18) (fun _ σ7449 T7449 => ?_)
            refine tz_b2 (tz_X12_pinByPlan T7449 k_h0) (fun _ σ7448 T7448 => ?_)
            refine tz_bd (tz_X12_straysBy T7448 k_h0 (tq_w tk_0 (by decide) (by decide))) (fun t_53 i_t_53 => ?_)
            refine tz_if _ (fun c7446 => ?_) (fun c7446 => ?_)
            ·
              have i11_t_53 : tq_iv 0 0 t_53 := tq_cut (tq_top t_53) (tq_eqL c7446 tk_0) (by decide) (by decide)
              exact K_61 σ7448 x3_18 T7448 (tq_w i5_x3_18 (by decide) (by decide))
            ·
              exact K_61 σ7448 x2_18 T7448 (tq_w i7_x2_18 (by decide) (by decide))
    have E_18 : ∀ (σ_18 : ez_H) (x2_18 : Int32) (x3_18 : Int32), tp p σ_18 → tq_iv (-1) 7775 x2_18 → tq_iv 0 7776 x3_18 → tz_O (fun z : Int32 × ez_H => (fun (z : Int32) (s : ez_H) => tq_iv (-1) 7775 z ∧ tp p s) z.1 z.2) (ez_fix (fun _ _ _ _ _ => none) (z_X12_keeps_18) ez_N σ_18 h0 x1 x2_18 x3_18) := by
      intro σ_18 x2_18 x3_18 T_σ_18 i_x2_18 i_x3_18
      exact ez_fix_indn (fun n_18 (k_18 : ez_H → Nat → Int32 → Int32 → Int32 → Option (Int32 × ez_H)) => ∀ (σ_18 : ez_H) (x2_18 : Int32) (x3_18 : Int32), tp p σ_18 → tq_iv (-1) 7775 x2_18 → tq_iv 0 7776 x3_18 → (2147483647 - x3_18.toInt).toNat < n_18 → tz_O (fun z : Int32 × ez_H => (fun (z : Int32) (s : ez_H) => tq_iv (-1) 7775 z ∧ tp p s) z.1 z.2) (k_18 σ_18 h0 x1 x2_18 x3_18)) (by intros; rename_i h; exact absurd h (Nat.not_lt_zero _)) L_18 ez_N σ_18 x2_18 x3_18 T_σ_18 i_x2_18 i_x3_18 (tq_m0 x3_18)
    exact E_18 σ7457 (-1 : Int32) (0 : Int32) T7457 (tq_w tk_m1 (by decide) (by decide)) (tq_w tk_0 (by decide) (by decide))
set_option maxRecDepth 4000 in
theorem tz_X12_key {p : tz_P} {σ : ez_H} {h0 : Nat} {x1 : Int32} {x2 : Int32} (hT : tp p σ) (k_h0 : tz_C h0 = some (3, 12, 0, 0)) : tz_O (fun z => tq_iv (-2147483648) 2147483647 z) (z_X12_key σ h0 x1 x2) := by
  unfold z_X12_key
  refine tz_bd (tz_ob hT k_h0) (fun _ _ => ?_)
  refine tz_bd (tz_X12_isKey hT k_h0) (fun t_2 ⟨i_t_2, g_t_2⟩ => ?_)
  refine tz_if _ (fun c7478 => ?_) (fun c7478 => ?_)
  ·
    have i1_t_2 : tq_iv 0 0 t_2 := tq_cut i_t_2 (tq_eqL c7478 tk_0) (by decide) (by decide)
    exact tz_some (tq_top (-3 : Int32))
  ·
    have i2_x1 : tq_iv 0 7 x1 := tq_cut (tq_top x1) (g_t_2 c7478) (by decide) (by decide)
    have i3_t_2 : tq_iv 1 1 t_2 := tq_w (tq_neLo c7478 i_t_2 tk_0) (by decide) (by decide)
    refine tz_if _ (fun c7477 => ?_) (fun c7477 => ?_)
    ·
      have i4_x2 : tq_iv 0 0 x2 := tq_cut (tq_top x2) (tq_eqL c7477 tk_0) (by decide) (by decide)
      refine tz_bd (tz_X12_numberOf hT k_h0 i2_x1) (fun t_46 i_t_46 => ?_)
      exact tz_some (tq_top t_46)
    ·
      refine tz_if _ (fun c7476 => ?_) (fun c7476 => ?_)
      ·
        have i5_x2 : tq_iv 1 1 x2 := tq_cut (tq_top x2) (tq_eqL c7476 tk_1) (by decide) (by decide)
        refine tz_bk (tr_53 hT k_h0) ?_
        refine tz_let (fun t_57 e7466 => ?_)
        have i6_t_57 : tq_iv 40 47 t_57 := tq_w (tq_add e7466 tk_40 i2_x1 (by decide) (by decide)) (by decide) (by decide)
        refine tz_be (tz_iaS hT tc_205 (ts_205 (p := p) 40 47 (-2147483648) 2147483647 (by decide)) i6_t_57 (by decide) (by decide)) (fun t_58 e7465 i_t_58 => ?_)
        exact tz_some (tq_top t_58)
      ·
        refine tz_if _ (fun c7475 => ?_) (fun c7475 => ?_)
        ·
          have i7_x2 : tq_iv 2 2 x2 := tq_cut (tq_top x2) (tq_eqL c7475 tk_2) (by decide) (by decide)
          refine tz_bd (tz_X12_holderOf hT k_h0 i2_x1) (fun t_62 i_t_62 => ?_)
          exact tz_some (tq_top t_62)
        ·
          refine tz_if _ (fun c7474 => ?_) (fun c7474 => ?_)
          ·
            have i8_x2 : tq_iv 3 3 x2 := tq_cut (tq_top x2) (tq_eqL c7474 tk_3) (by decide) (by decide)
            refine tz_bd (tz_X12_numberOf hT k_h0 i2_x1) (fun t_69 i_t_69 => ?_)
            refine tz_bd (tz_X12_openedBy hT k_h0) (fun t_72 i_t_72 => ?_)
            exact tz_some (tq_top t_72)
          ·
            exact tz_some (tq_top (-3 : Int32))
set_option maxRecDepth 4000 in
theorem tz_X12_isLetter {p : tz_P} {σ : ez_H} {x0 : Int32} (hT : tp p σ) : tz_O (fun z => tq_iv 0 1 z ∧ (¬ z = 0 → tq_iv 97 122 x0)) (z_X12_isLetter σ x0) := by
  unfold z_X12_isLetter
  have K_17 : ∀ (y0_17 : Int32), tq_iv 0 1 y0_17 → (¬ y0_17 = 0 → tq_iv 97 122 x0) → tz_O (fun (z : Int32) => tq_iv 0 1 z ∧ (¬ z = 0 → tq_iv 97 122 x0)) (z_X12_isLetter_17 σ y0_17) := by
    intro y0_17 i_y0_17 g17_y0_17_x0
    unfold z_X12_isLetter_17
    refine tz_nr (tq_nr_boolean i_y0_17) ?_
    exact tz_some ⟨i_y0_17, (fun h => tq_w (g17_y0_17_x0 h) (by decide) (by decide))⟩
  have K_16 : tz_O (fun (z : Int32) => tq_iv 0 1 z ∧ (¬ z = 0 → tq_iv 97 122 x0)) (z_X12_isLetter_16 σ) := by
    unfold z_X12_isLetter_16
    exact K_17 (0 : Int32) (tq_w tk_0 (by decide) (by decide)) (fun h => absurd rfl h)
  refine tz_if _ (fun c7488 => ?_) (fun c7488 => ?_)
  ·
    have i1_x0 : tq_iv (-2147483648) 96 x0 := tq_cut (tq_top x0) (tq_ltL c7488 (tq_top x0) tk_97) (by decide) (by decide)
    exact K_16 
  ·
    have i2_x0 : tq_iv 97 2147483647 x0 := tq_cut (tq_top x0) (tq_leR (tq_nlt c7488) tk_97 (tq_top x0)) (by decide) (by decide)
    refine tz_if _ (fun c7487 => ?_) (fun c7487 => ?_)
    ·
      have i3_x0 : tq_iv 123 2147483647 x0 := tq_cut i2_x0 (tq_ltR c7487 tk_122 i2_x0) (by decide) (by decide)
      exact K_16 
    ·
      have i4_x0 : tq_iv 97 122 x0 := tq_cut i2_x0 (tq_leL (tq_nlt c7487) i2_x0 tk_122) (by decide) (by decide)
      exact K_17 (1 : Int32) (tq_w tk_1 (by decide) (by decide)) (fun _ => i4_x0)
set_option maxRecDepth 4000 in
theorem tz_X12_asked {p : tz_P} {σ : ez_H} {h0 : Nat} {x1 : Int32} {x2 : Int32} (hT : tp p σ) (k_h0 : tz_C h0 = some (3, 12, 0, 0)) : tz_O (fun z => tq_iv (-2147483648) 2147483647 z) (z_X12_asked σ h0 x1 x2) := by
  unfold z_X12_asked
  refine tz_bd (tz_ob hT k_h0) (fun _ _ => ?_)
  refine tz_if _ (fun c7501 => ?_) (fun c7501 => ?_)
  ·
    have i1_x1 : tq_iv 98 98 x1 := tq_cut (tq_top x1) (tq_eqL c7501 tk_98) (by decide) (by decide)
    refine tz_be (tg_12_50 hT k_h0) (fun t_50 e7490 i_t_50 => ?_)
    exact tz_some (tq_top t_50)
  ·
    refine tz_if _ (fun c7500 => ?_) (fun c7500 => ?_)
    ·
      have i2_x1 : tq_iv 99 99 x1 := tq_cut (tq_top x1) (tq_eqL c7500 tk_99) (by decide) (by decide)
      refine tz_be (tg_12_49 hT k_h0) (fun t_45 e7492 i_t_45 => ?_)
      exact tz_some (tq_top t_45)
    ·
      refine tz_if _ (fun c7499 => ?_) (fun c7499 => ?_)
      ·
        have i3_x1 : tq_iv 104 104 x1 := tq_cut (tq_top x1) (tq_eqL c7499 tk_104) (by decide) (by decide)
        refine tz_be (tg_12_52 hT k_h0) (fun t_60 e7494 i_t_60 => ?_)
        exact tz_some (tq_top t_60)
      ·
        refine tz_if _ (fun c7498 => ?_) (fun c7498 => ?_)
        ·
          have i4_x1 : tq_iv 117 117 x1 := tq_cut (tq_top x1) (tq_eqL c7498 tk_117) (by decide) (by decide)
          refine tz_be (tg_12_51 hT k_h0) (fun t_55 e7496 i_t_55 => ?_)
          exact tz_some (tq_top t_55)
        ·
          exact tz_some (tq_top x2)
set_option maxRecDepth 4000 in
theorem tz_X12_two {p : tz_P} {σ : ez_H} {x0 : Int32} {x1 : Int32} {x2 : Int32} (hT : tp p σ) : tz_O (fun z => tq_iv (-2147483648) 2147483647 z) (z_X12_two σ x0 x1 x2) := by
  unfold z_X12_two
  refine tz_if _ (fun c7590 => ?_) (fun c7590 => ?_)
  ·
    have i1_x0 : tq_iv 37 37 x0 := tq_cut (tq_top x0) (tq_eqL c7590 tk_37) (by decide) (by decide)
    have K_155 : ∀ (y0_155 : Int32), tz_O (fun (z : Int32) => tq_iv (-2147483648) 2147483647 z) (z_X12_two_155 σ y0_155) := by
      intro y0_155
      unfold z_X12_two_155
      exact tz_some (tq_top y0_155)
    refine tz_if _ (fun c7521 => ?_) (fun c7521 => ?_)
    ·
      have i2_x2 : tq_iv 0 0 x2 := tq_cut (tq_top x2) (tq_eqL c7521 tk_0) (by decide) (by decide)
      exact K_155 (0 : Int32)
    ·
      refine tz_nz c7521 ?_
      refine tz_let (fun t_154 e7519 => ?_)
      exact K_155 t_154
  ·
    refine tz_if _ (fun c7589 => ?_) (fun c7589 => ?_)
    ·
      have i3_x0 : tq_iv 38 38 x0 := tq_cut (tq_top x0) (tq_eqL c7589 tk_38) (by decide) (by decide)
      have K_202 : ∀ (y0_202 : Int32), tq_iv 0 1 y0_202 → tz_O (fun (z : Int32) => tq_iv (-2147483648) 2147483647 z) (z_X12_two_202 σ y0_202) := by
        intro y0_202 i_y0_202
        unfold z_X12_two_202
        exact tz_some (tq_top y0_202)
      have K_201 : tz_O (fun (z : Int32) => tq_iv (-2147483648) 2147483647 z) (z_X12_two_201 σ) := by
        unfold z_X12_two_201
        exact K_202 (0 : Int32) (tq_w tk_0 (by decide) (by decide))
      refine tz_if _ (fun c7526 => ?_) (fun c7526 => ?_)
      ·
        have i4_x1 : tq_iv 0 0 x1 := tq_cut (tq_top x1) (tq_eqL c7526 tk_0) (by decide) (by decide)
        exact K_201 
      ·
        refine tz_if _ (fun c7525 => ?_) (fun c7525 => ?_)
        ·
          have i5_x2 : tq_iv 0 0 x2 := tq_cut (tq_top x2) (tq_eqL c7525 tk_0) (by decide) (by decide)
          exact K_201 
        ·
          exact K_202 (1 : Int32) (tq_w tk_1 (by decide) (by decide))
    ·
      have K_203 : tz_O (fun (z : Int32) => tq_iv (-2147483648) 2147483647 z) (z_X12_two_203 σ x1 x2) := by
        unfold z_X12_two_203
        have K_216 : ∀ (y0_216 : Int32), tq_iv 0 1 y0_216 → tz_O (fun (z : Int32) => tq_iv (-2147483648) 2147483647 z) (z_X12_two_216 σ y0_216) := by
          intro y0_216 i_y0_216
          unfold z_X12_two_216
          exact tz_some (tq_top y0_216)
        have K_211 : tz_O (fun (z : Int32) => tq_iv (-2147483648) 2147483647 z) (z_X12_two_211 σ) := by
          unfold z_X12_two_211
          exact K_216 (1 : Int32) (tq_w tk_1 (by decide) (by decide))
        refine tz_if _ (fun c7512 => ?_) (fun c7512 => ?_)
        ·
          have i6_x1 : tq_iv 0 0 x1 := tq_cut (tq_top x1) (tq_eqL c7512 tk_0) (by decide) (by decide)
          refine tz_if _ (fun c7510 => ?_) (fun c7510 => ?_)
          ·
            have i7_x2 : tq_iv 0 0 x2 := tq_cut (tq_top x2) (tq_eqL c7510 tk_0) (by decide) (by decide)
            exact K_216 (0 : Int32) (tq_w tk_0 (by decide) (by decide))
          ·
            exact K_211 
        ·
          exact K_211 
      refine tz_if _ (fun c7588 => ?_) (fun c7588 => ?_)
      ·
        have i8_x0 : tq_iv 39 39 x0 := tq_cut (tq_top x0) (tq_eqL c7588 tk_39) (by decide) (by decide)
        exact K_203 
      ·
        refine tz_if _ (fun c7587 => ?_) (fun c7587 => ?_)
        ·
          have i9_x0 : tq_iv 40 40 x0 := tq_cut (tq_top x0) (tq_eqL c7587 tk_40) (by decide) (by decide)
          exact K_203 
        ·
          refine tz_if _ (fun c7586 => ?_) (fun c7586 => ?_)
          ·
            have i10_x0 : tq_iv 41 41 x0 := tq_cut (tq_top x0) (tq_eqL c7586 tk_41) (by decide) (by decide)
            exact K_203 
          ·
            refine tz_if _ (fun c7585 => ?_) (fun c7585 => ?_)
            ·
              have i11_x0 : tq_iv 42 42 x0 := tq_cut (tq_top x0) (tq_eqL c7585 tk_42) (by decide) (by decide)
              refine tz_let (fun t_130 e7531 => ?_)
              exact tz_some (tq_top t_130)
            ·
              refine tz_if _ (fun c7584 => ?_) (fun c7584 => ?_)
              ·
                have i12_x0 : tq_iv 43 43 x0 := tq_cut (tq_top x0) (tq_eqL c7584 tk_43) (by decide) (by decide)
                refine tz_let (fun t_122 e7533 => ?_)
                exact tz_some (tq_top t_122)
              ·
                refine tz_if _ (fun c7583 => ?_) (fun c7583 => ?_)
                ·
                  have i13_x0 : tq_iv 44 44 x0 := tq_cut (tq_top x0) (tq_eqL c7583 tk_44) (by decide) (by decide)
                  exact K_203 
                ·
                  refine tz_if _ (fun c7582 => ?_) (fun c7582 => ?_)
                  ·
                    have i14_x0 : tq_iv 45 45 x0 := tq_cut (tq_top x0) (tq_eqL c7582 tk_45) (by decide) (by decide)
                    refine tz_let (fun t_126 e7536 => ?_)
                    exact tz_some (tq_top t_126)
                  ·
                    refine tz_if _ (fun c7581 => ?_) (fun c7581 => ?_)
                    ·
                      have i15_x0 : tq_iv 46 46 x0 := tq_cut (tq_top x0) (tq_eqL c7581 tk_46) (by decide) (by decide)
                      exact K_203 
                    ·
                      refine tz_if _ (fun c7580 => ?_) (fun c7580 => ?_)
                      ·
                        have i16_x0 : tq_iv 47 47 x0 := tq_cut (tq_top x0) (tq_eqL c7580 tk_47) (by decide) (by decide)
                        have K_143 : ∀ (y0_143 : Int32), tz_O (fun (z : Int32) => tq_iv (-2147483648) 2147483647 z) (z_X12_two_143 σ y0_143) := by
                          intro y0_143
                          unfold z_X12_two_143
                          exact tz_some (tq_top y0_143)
                        refine tz_if _ (fun c7542 => ?_) (fun c7542 => ?_)
                        ·
                          have i17_x2 : tq_iv 0 0 x2 := tq_cut (tq_top x2) (tq_eqL c7542 tk_0) (by decide) (by decide)
                          exact K_143 (0 : Int32)
                        ·
                          refine tz_nz c7542 ?_
                          refine tz_let (fun t_142 e7540 => ?_)
                          exact K_143 t_142
                      ·
                        refine tz_if _ (fun c7579 => ?_) (fun c7579 => ?_)
                        ·
                          have i18_x0 : tq_iv 48 48 x0 := tq_cut (tq_top x0) (tq_eqL c7579 tk_48) (by decide) (by decide)
                          exact K_203 
                        ·
                          refine tz_if _ (fun c7578 => ?_) (fun c7578 => ?_)
                          ·
                            have i19_x0 : tq_iv 49 49 x0 := tq_cut (tq_top x0) (tq_eqL c7578 tk_49) (by decide) (by decide)
                            exact K_203 
                          ·
                            refine tz_if _ (fun c7577 => ?_) (fun c7577 => ?_)
                            ·
                              have i20_x0 : tq_iv 50 50 x0 := tq_cut (tq_top x0) (tq_eqL c7577 tk_50) (by decide) (by decide)
                              exact K_203 
                            ·
                              refine tz_if _ (fun c7576 => ?_) (fun c7576 => ?_)
                              ·
                                have i21_x0 : tq_iv 51 51 x0 := tq_cut (tq_top x0) (tq_eqL c7576 tk_51) (by decide) (by decide)
                                exact K_203 
                              ·
                                refine tz_if _ (fun c7575 => ?_) (fun c7575 => ?_)
                                ·
                                  have i22_x0 : tq_iv 52 52 x0 := tq_cut (tq_top x0) (tq_eqL c7575 tk_52) (by decide) (by decide)
                                  exact K_203 
                                ·
                                  refine tz_if _ (fun c7574 => ?_) (fun c7574 => ?_)
                                  ·
                                    have i23_x0 : tq_iv 53 53 x0 := tq_cut (tq_top x0) (tq_eqL c7574 tk_53) (by decide) (by decide)
                                    exact K_203 
                                  ·
                                    refine tz_if _ (fun c7573 => ?_) (fun c7573 => ?_)
                                    ·
                                      have i24_x0 : tq_iv 54 54 x0 := tq_cut (tq_top x0) (tq_eqL c7573 tk_54) (by decide) (by decide)
                                      exact K_203 
                                    ·
                                      refine tz_if _ (fun c7572 => ?_) (fun c7572 => ?_)
                                      ·
                                        have i25_x0 : tq_iv 55 55 x0 := tq_cut (tq_top x0) (tq_eqL c7572 tk_55) (by decide) (by decide)
                                        exact K_203 
                                      ·
                                        refine tz_if _ (fun c7571 => ?_) (fun c7571 => ?_)
                                        ·
                                          have i26_x0 : tq_iv 56 56 x0 := tq_cut (tq_top x0) (tq_eqL c7571 tk_56) (by decide) (by decide)
                                          exact K_203 
                                        ·
                                          refine tz_if _ (fun c7570 => ?_) (fun c7570 => ?_)
                                          ·
                                            have i27_x0 : tq_iv 57 57 x0 := tq_cut (tq_top x0) (tq_eqL c7570 tk_57) (by decide) (by decide)
                                            exact K_203 
                                          ·
                                            refine tz_if _ (fun c7569 => ?_) (fun c7569 => ?_)
                                            ·
                                              have i28_x0 : tq_iv 58 58 x0 := tq_cut (tq_top x0) (tq_eqL c7569 tk_58) (by decide) (by decide)
                                              exact K_203 
                                            ·
                                              refine tz_if _ (fun c7568 => ?_) (fun c7568 => ?_)
                                              ·
                                                have i29_x0 : tq_iv 59 59 x0 := tq_cut (tq_top x0) (tq_eqL c7568 tk_59) (by decide) (by decide)
                                                exact K_203 
                                              ·
                                                refine tz_if _ (fun c7567 => ?_) (fun c7567 => ?_)
                                                ·
                                                  have i30_x0 : tq_iv 60 60 x0 := tq_cut (tq_top x0) (tq_eqL c7567 tk_60) (by decide) (by decide)
                                                  have K_166 : ∀ (y0_166 : Int32), tq_iv 0 1 y0_166 → (¬ y0_166 = 0 → tq_iv (-2147483648) 2147483646 x1) → (¬ y0_166 = 0 → tq_iv (-2147483647) 2147483647 x2) → tz_O (fun (z : Int32) => tq_iv (-2147483648) 2147483647 z) (z_X12_two_166 σ y0_166) := by
                                                    intro y0_166 i_y0_166 g166_y0_166_x1 g166_y0_166_x2
                                                    unfold z_X12_two_166
                                                    exact tz_some (tq_top y0_166)
                                                  refine tz_if _ (fun c7557 => ?_) (fun c7557 => ?_)
                                                  ·
                                                    exact K_166 (0 : Int32) (tq_w tk_0 (by decide) (by decide)) (fun h => absurd rfl h) (fun h => absurd rfl h)
                                                  ·
                                                    have i31_x1 : tq_iv (-2147483648) 2147483646 x1 := tq_cut (tq_top x1) (tq_ltL (tq_nle c7557) (tq_top x1) (tq_top x2)) (by decide) (by decide)
                                                    have i32_x2 : tq_iv (-2147483647) 2147483647 x2 := tq_cut (tq_top x2) (tq_ltR (tq_nle c7557) (tq_top x1) (tq_top x2)) (by decide) (by decide)
                                                    exact K_166 (1 : Int32) (tq_w tk_1 (by decide) (by decide)) (fun _ => i31_x1) (fun _ => i32_x2)
                                                ·
                                                  refine tz_if _ (fun c7566 => ?_) (fun c7566 => ?_)
                                                  ·
                                                    have i33_x0 : tq_iv 61 61 x0 := tq_cut (tq_top x0) (tq_eqL c7566 tk_61) (by decide) (by decide)
                                                    have K_188 : ∀ (y0_188 : Int32), tq_iv 0 1 y0_188 → tz_O (fun (z : Int32) => tq_iv (-2147483648) 2147483647 z) (z_X12_two_188 σ y0_188) := by
                                                      intro y0_188 i_y0_188
                                                      unfold z_X12_two_188
                                                      exact tz_some (tq_top y0_188)
                                                    refine tz_if _ (fun c7560 => ?_) (fun c7560 => ?_)
                                                    ·
                                                      exact K_188 (1 : Int32) (tq_w tk_1 (by decide) (by decide))
                                                    ·
                                                      exact K_188 (0 : Int32) (tq_w tk_0 (by decide) (by decide))
                                                  ·
                                                    refine tz_if _ (fun c7565 => ?_) (fun c7565 => ?_)
                                                    ·
                                                      have i34_x0 : tq_iv 62 62 x0 := tq_cut (tq_top x0) (tq_eqL c7565 tk_62) (by decide) (by decide)
                                                      have K_177 : ∀ (y0_177 : Int32), tq_iv 0 1 y0_177 → (¬ y0_177 = 0 → tq_iv (-2147483647) 2147483647 x1) → (¬ y0_177 = 0 → tq_iv (-2147483648) 2147483646 x2) → tz_O (fun (z : Int32) => tq_iv (-2147483648) 2147483647 z) (z_X12_two_177 σ y0_177) := by
                                                        intro y0_177 i_y0_177 g177_y0_177_x1 g177_y0_177_x2
                                                        unfold z_X12_two_177
                                                        exact tz_some (tq_top y0_177)
                                                      refine tz_if _ (fun c7563 => ?_) (fun c7563 => ?_)
                                                      ·
                                                        exact K_177 (0 : Int32) (tq_w tk_0 (by decide) (by decide)) (fun h => absurd rfl h) (fun h => absurd rfl h)
                                                      ·
                                                        have i35_x2 : tq_iv (-2147483648) 2147483646 x2 := tq_cut (tq_top x2) (tq_ltL (tq_nle c7563) (tq_top x2) (tq_top x1)) (by decide) (by decide)
                                                        have i36_x1 : tq_iv (-2147483647) 2147483647 x1 := tq_cut (tq_top x1) (tq_ltR (tq_nle c7563) (tq_top x2) (tq_top x1)) (by decide) (by decide)
                                                        exact K_177 (1 : Int32) (tq_w tk_1 (by decide) (by decide)) (fun _ => i36_x1) (fun _ => i35_x2)
                                                    ·
                                                      exact K_203
set_option maxRecDepth 4000 in
theorem tz_X12_use {p : tz_P} {σ : ez_H} {h0 : Nat} {x1 : Int32} (hT : tp p σ) (k_h0 : tz_C h0 = some (3, 12, 0, 0)) (i_x1 : tq_iv 0 7 x1) : tz_O2 (fun (z : Unit) (s : ez_H) => tp p s) (z_X12_use σ h0 x1) := by
  show tz_O (fun z : Unit × ez_H => (fun (z : Unit) (s : ez_H) => tp p s) z.1 z.2) _
  unfold z_X12_use
  refine tz_bd (tz_ob hT k_h0) (fun _ _ => ?_)
  refine tz_bk (tr_53 hT k_h0) ?_
  refine tz_bk (tr_53 hT k_h0) ?_
  refine tz_be (tz_iaS hT tc_205 (ts_205 (p := p) 90 90 0 999 (by decide)) tk_90 (by decide) (by decide)) (fun t_15 e7697 i_t_15 => ?_)
  refine tz_let (fun t_16 e7696 => ?_)
  have i1_t_16 : tq_iv 0 136863 t_16 := tq_w (tq_mul e7696 tk_137 i_t_15 (by decide) (by decide) (by decide)) (by decide) (by decide)
  refine tz_let (fun t_19 e7695 => ?_)
  have i2_t_19 : tq_iv 71 136934 t_19 := tq_w (tq_add e7695 i1_t_16 tk_71 (by decide) (by decide)) (by decide) (by decide)
  refine tz_nz (tq_nz tk_1000 (by decide)) ?_
  refine tz_let (fun t_23 e7693 => ?_)
  have i3_t_23 : tq_iv 0 999 t_23 := tq_rem2 e7693 i2_t_19 tk_1000 (by decide) (by decide)
  refine tz_be (tz_isS hT tc_205 (tS_205 (p := p) 90 90 0 999 (by decide)) tk_90 (by decide) (by decide) i3_t_23) (fun σ7692 e7692 T7692 => ?_)
  refine tz_bk (tr_53 T7692 k_h0) ?_
  refine tz_be (tz_iaS T7692 tc_205 (ts_205 (p := p) 90 90 0 999 (by decide)) tk_90 (by decide) (by decide)) (fun t_31 e7690 i_t_31 => ?_)
  refine tz_bd (tz_X12_wide T7692 k_h0) (fun t_33 i_t_33 => ?_)
  refine tz_nz (tq_nz i_t_33 (by decide)) ?_
  refine tz_let (fun t_36 e7687 => ?_)
  have i4_t_36 : tq_iv 0 4 t_36 := tq_rem2 e7687 i_t_31 i_t_33 (by decide) (by decide)
  refine tz_bd (tz_X12_cutOf T7692 k_h0 i_x1 i4_t_36) (fun t_42 i_t_42 => ?_)
  refine tz_be (tw_12_49 T7692 k_h0 (tq_top t_42)) (fun σ7685 e7685 T7685 => ?_)
  refine tz_be (tw_12_50 T7685 k_h0 (tq_top (-1 : Int32))) (fun σ7684 e7684 T7684 => ?_)
  have K_69 : ∀ (σ_69 : ez_H), tp p σ_69 → tz_O (fun z : Unit × ez_H => (fun (z : Unit) (s : ez_H) => tp p s) z.1 z.2) (z_X12_use_69 σ_69 h0 x1 t_36) := by
    intro σ_69 T_σ_69
    unfold z_X12_use_69
    refine tz_bd (tz_X12_wide T_σ_69 k_h0) (fun t_71 i_t_71 => ?_)
    refine tz_let (fun t_75 e7676 => ?_)
    have i5_t_75 : tq_iv 1 4 t_75 := tq_w (tq_sub e7676 i_t_71 tk_1 (by decide) (by decide)) (by decide) (by decide)
    have K_106 : ∀ (σ_106 : ez_H), tp p σ_106 → tz_O (fun z : Unit × ez_H => (fun (z : Unit) (s : ez_H) => tp p s) z.1 z.2) (z_X12_use_106 σ_106 h0 x1 t_36) := by
      intro σ_106 T_σ_106
      unfold z_X12_use_106
      refine tz_bk (tr_53 T_σ_106 k_h0) ?_
      refine tz_let (fun t_114 e7663 => ?_)
      have i6_t_114 : tq_iv 40 47 t_114 := tq_w (tq_add e7663 tk_40 i_x1 (by decide) (by decide)) (by decide) (by decide)
      refine tz_be (tz_iaS T_σ_106 tc_205 (ts_205 (p := p) 40 47 (-2147483648) 2147483647 (by decide)) i6_t_114 (by decide) (by decide)) (fun t_115 e7662 i_t_115 => ?_)
      refine tz_be (tw_12_51 T_σ_106 k_h0 (tq_top t_115)) (fun σ7661 e7661 T7661 => ?_)
      refine tz_be (tw_12_52 T7661 k_h0 (tq_top t_36)) (fun σ7660 e7660 T7660 => ?_)
      refine tz_bk (tr_21 T7660 k_h0) ?_
      refine tz_be (tg_12_43 T7660 k_h0) (fun t_129 e7658 i_t_129 => ?_)
      refine tz_be (tz_iaS T7660 tc_183 (ts_183 (p := p) 0 1 (-2147483648) 2147483647 (by decide)) i_t_129 (by decide) (by decide)) (fun t_132 e7657 i_t_132 => ?_)
      refine tz_bd (tz_X12_bit T7660) (fun t_134 i_t_134 => ?_)
      have K_148 : ∀ (σ_148 : ez_H) (y0_148 : Int32), tp p σ_148 → tz_O (fun z : Unit × ez_H => (fun (z : Unit) (s : ez_H) => tp p s) z.1 z.2) (z_X12_use_148 σ_148 h0 x1 t_36 y0_148) := by
        intro σ_148 y0_148 T_σ_148
        unfold z_X12_use_148
        refine tz_bk (tr_53 T_σ_148 k_h0) ?_
        refine tz_be (tz_iaS T_σ_148 tc_205 (ts_205 (p := p) 90 90 0 999 (by decide)) tk_90 (by decide) (by decide)) (fun t_155 e7650 i_t_155 => ?_)
        refine tz_nz (tq_nz tk_10 (by decide)) ?_
        refine tz_let (fun t_158 e7648 => ?_)
        have i7_t_158 : tq_iv 0 999 t_158 := tq_div e7648 i_t_155 tk_10 (by decide) (by decide)
        have K_170 : ∀ (σ_170 : ez_H), tp p σ_170 → tz_O (fun z : Unit × ez_H => (fun (z : Unit) (s : ez_H) => tp p s) z.1 z.2) (z_X12_use_170 σ_170 h0 x1) := by
          intro σ_170 T_σ_170
          unfold z_X12_use_170
          refine tz_bk (tr_53 T_σ_170 k_h0) ?_
          refine tz_let (fun t_177 e7642 => ?_)
          have i8_t_177 : tq_iv 40 47 t_177 := tq_w (tq_add e7642 tk_40 i_x1 (by decide) (by decide)) (by decide) (by decide)
          refine tz_be (tz_iaS T_σ_170 tc_205 (ts_205 (p := p) 40 47 (-2147483648) 2147483647 (by decide)) i8_t_177 (by decide) (by decide)) (fun t_179 e7641 i_t_179 => ?_)
          refine tz_let (fun t_181 e7640 => ?_)
          refine tz_be (tz_isS T_σ_170 tc_205 (tS_205 (p := p) 40 47 (-2147483648) 2147483647 (by decide)) i8_t_177 (by decide) (by decide) (tq_top t_181)) (fun σ7639 e7639 T7639 => ?_)
          exact tz_some T7639
        refine tz_if _ (fun c7647 => ?_) (fun c7647 => ?_)
        ·
          have i9_y0_148 : tq_iv (-2147483648) 999 y0_148 := tq_cut (tq_top y0_148) (tq_leL c7647 (tq_top y0_148) i7_t_158) (by decide) (by decide)
          exact K_170 σ_148 T_σ_148
        ·
          have i10_y0_148 : tq_iv 1 2147483647 y0_148 := tq_cut (tq_top y0_148) (tq_ltR (tq_nle c7647) i7_t_158 (tq_top y0_148)) (by decide) (by decide)
          refine tz_b2 (tz_X12_deepen T_σ_148 k_h0 i_x1 i4_t_36) (fun t_166 σ7646 ⟨i_t_166, T7646⟩ => ?_)
          exact K_170 σ7646 T7646
      refine tz_if _ (fun c7655 => ?_) (fun c7655 => ?_)
      ·
        have i11_t_134 : tq_iv 0 0 t_134 := tq_cut i_t_134 (tq_eqL c7655 tk_0) (by decide) (by decide)
        exact K_148 σ7660 (0 : Int32) T7660
      ·
        have i12_t_134 : tq_iv 1 1 t_134 := tq_w (tq_neLo c7655 i_t_134 tk_0) (by decide) (by decide)
        refine tz_b2 (tz_X12_comes T7660 k_h0) (fun t_141 σ7654 ⟨i_t_141, T7654⟩ => ?_)
        exact K_148 σ7654 t_141 T7654
    refine tz_if _ (fun c7675 => ?_) (fun c7675 => ?_)
    ·
      have i13_t_36 : tq_iv 1 4 t_36 := tq_cut i4_t_36 (tq_leR c7675 i5_t_75 i4_t_36) (by decide) (by decide)
      exact K_106 σ_69 T_σ_69
    ·
      have i14_t_36 : tq_iv 0 3 t_36 := tq_cut i4_t_36 (tq_ltL (tq_nle c7675) i4_t_36 i5_t_75) (by decide) (by decide)
      refine tz_let (fun t_83 e7674 => ?_)
      have i15_t_83 : tq_iv 1 4 t_83 := tq_w (tq_add e7674 i14_t_36 tk_1 (by decide) (by decide)) (by decide) (by decide)
      refine tz_bd (tz_X12_cutOf T_σ_69 k_h0 i_x1 (tq_w i15_t_83 (by decide) (by decide))) (fun t_84 i_t_84 => ?_)
      refine tz_be (tg_12_50 T_σ_69 k_h0) (fun t_88 e7672 i_t_88 => ?_)
      refine tz_if _ (fun c7671 => ?_) (fun c7671 => ?_)
      ·
        exact K_106 σ_69 T_σ_69
      ·
        have i16_t_88 : tq_iv (-2147483648) 2147483646 t_88 := tq_cut (tq_top t_88) (tq_ltL (tq_nle c7671) (tq_top t_88) (tq_top t_84)) (by decide) (by decide)
        have i17_t_84 : tq_iv (-2147483647) 2147483647 t_84 := tq_cut (tq_top t_84) (tq_ltR (tq_nle c7671) (tq_top t_88) (tq_top t_84)) (by decide) (by decide)
        refine tz_let (fun t_99 e7670 => ?_)
        have i18_t_99 : tq_iv 1 4 t_99 := tq_w (tq_add e7670 i14_t_36 tk_1 (by decide) (by decide)) (by decide) (by decide)
        refine tz_bd (tz_X12_cutOf T_σ_69 k_h0 i_x1 (tq_w i18_t_99 (by decide) (by decide))) (fun t_100 i_t_100 => ?_)
        refine tz_be (tw_12_50 T_σ_69 k_h0 (tq_top t_100)) (fun σ7668 e7668 T7668 => ?_)
        exact K_106 σ7668 T7668
  refine tz_if _ (fun c7683 => ?_) (fun c7683 => ?_)
  ·
    have i19_t_36 : tq_iv 0 0 t_36 := tq_cut i4_t_36 (tq_leL c7683 i4_t_36 tk_0) (by decide) (by decide)
    exact K_69 σ7684 T7684
  ·
    have i20_t_36 : tq_iv 1 4 t_36 := tq_cut i4_t_36 (tq_ltR (tq_nle c7683) tk_0 i4_t_36) (by decide) (by decide)
    refine tz_let (fun t_62 e7682 => ?_)
    have i21_t_62 : tq_iv 0 3 t_62 := tq_w (tq_sub e7682 i20_t_36 tk_1 (by decide) (by decide)) (by decide) (by decide)
    refine tz_bd (tz_X12_cutOf T7684 k_h0 i_x1 (tq_w i21_t_62 (by decide) (by decide))) (fun t_63 i_t_63 => ?_)
    refine tz_be (tw_12_50 T7684 k_h0 (tq_top t_63)) (fun σ7680 e7680 T7680 => ?_)
    exact K_69 σ7680 T7680
set_option maxRecDepth 4000 in
theorem tz_X12_lasts {p : tz_P} {σ : ez_H} {h0 : Nat} {x1 : Int32} {x2 : Int32} (hT : tp p σ) (k_h0 : tz_C h0 = some (3, 12, 0, 0)) : tz_O2 (fun (z : Int32) (s : ez_H) => tq_iv (-1) 200 z ∧ tp p s) (z_X12_lasts σ h0 x1 x2) := by
  show tz_O (fun z : Int32 × ez_H => (fun (z : Int32) (s : ez_H) => tq_iv (-1) 200 z ∧ tp p s) z.1 z.2) _
  unfold z_X12_lasts
  refine tz_bd (tz_ob hT k_h0) (fun _ _ => ?_)
  refine tz_bd (tz_X12_isKey hT k_h0) (fun t_2 ⟨i_t_2, g_t_2⟩ => ?_)
  have K_16 : tz_O (fun z : Int32 × ez_H => (fun (z : Int32) (s : ez_H) => tq_iv (-1) 200 z ∧ tp p s) z.1 z.2) (z_X12_lasts_16 σ) := by
    unfold z_X12_lasts_16
    exact tz_some ⟨(tq_w tk_m1 (by decide) (by decide)), hT⟩
  refine tz_if _ (fun c7721 => ?_) (fun c7721 => ?_)
  ·
    have i1_t_2 : tq_iv 0 0 t_2 := tq_cut i_t_2 (tq_eqL c7721 tk_0) (by decide) (by decide)
    exact K_16 
  ·
    have i2_x1 : tq_iv 0 7 x1 := tq_cut (tq_top x1) (g_t_2 c7721) (by decide) (by decide)
    have i3_t_2 : tq_iv 1 1 t_2 := tq_w (tq_neLo c7721 i_t_2 tk_0) (by decide) (by decide)
    refine tz_bd (tz_X12_isLock hT k_h0) (fun t_10 ⟨i_t_10, g_t_10⟩ => ?_)
    refine tz_if _ (fun c7719 => ?_) (fun c7719 => ?_)
    ·
      have i4_t_10 : tq_iv 0 0 t_10 := tq_cut i_t_10 (tq_eqL c7719 tk_0) (by decide) (by decide)
      exact K_16 
    ·
      have i5_x2 : tq_iv 0 5 x2 := tq_cut (tq_top x2) (g_t_10 c7719) (by decide) (by decide)
      have i6_t_10 : tq_iv 1 1 t_10 := tq_w (tq_neLo c7719 i_t_10 tk_0) (by decide) (by decide)
      refine tz_b2 (tz_X12_keepNow hT k_h0) (fun _ σ7718 T7718 => ?_)
      have L_24 : ∀ (n_24 : Nat) (k_24 : ez_H → Nat → Int32 → Int32 → Int32 → Option (Int32 × ez_H)), (∀ (σ_24 : ez_H) (x3_24 : Int32), tp p σ_24 → tq_iv 0 201 x3_24 → (2147483647 - x3_24.toInt).toNat < n_24 → tz_O (fun z : Int32 × ez_H => (fun (z : Int32) (s : ez_H) => tq_iv (-1) 200 z ∧ tp p s) z.1 z.2) (k_24 σ_24 h0 x1 x2 x3_24)) → ∀ (σ_24 : ez_H) (x3_24 : Int32), tp p σ_24 → tq_iv 0 201 x3_24 → (2147483647 - x3_24.toInt).toNat < n_24 + 1 → tz_O (fun z : Int32 × ez_H => (fun (z : Int32) (s : ez_H) => tq_iv (-1) 200 z ∧ tp p s) z.1 z.2) (z_X12_lasts_24 k_24 σ_24 h0 x1 x2 x3_24) := by
        intro n_24 k_24 hk_24 σ_24 x3_24 T_σ_24 i_x3_24 hn_24
        unfold z_X12_lasts_24
        have K_51 : tz_O (fun z : Int32 × ez_H => (fun (z : Int32) (s : ez_H) => tq_iv (-1) 200 z ∧ tp p s) z.1 z.2) (z_X12_lasts_51 σ_24 h0 x3_24) := by
          unfold z_X12_lasts_51
          refine tz_b2 (tz_X12_bringBack T_σ_24 k_h0) (fun _ σ7706 T7706 => ?_)
          have K_67 : ∀ (y0_67 : Int32), tq_iv (-1) 200 y0_67 → tz_O (fun z : Int32 × ez_H => (fun (z : Int32) (s : ez_H) => tq_iv (-1) 200 z ∧ tp p s) z.1 z.2) (z_X12_lasts_67 σ7706 y0_67) := by
            intro y0_67 i_y0_67
            unfold z_X12_lasts_67
            exact tz_some ⟨i_y0_67, T7706⟩
          refine tz_if _ (fun c7705 => ?_) (fun c7705 => ?_)
          ·
            have i7_x3_24 : tq_iv 201 201 x3_24 := tq_cut i_x3_24 (tq_ltR c7705 tk_200 i_x3_24) (by decide) (by decide)
            exact K_67 (-1 : Int32) (tq_w tk_m1 (by decide) (by decide))
          ·
            have i8_x3_24 : tq_iv 0 200 x3_24 := tq_cut i_x3_24 (tq_leL (tq_nlt c7705) i_x3_24 tk_200) (by decide) (by decide)
            exact K_67 x3_24 (tq_w i8_x3_24 (by decide) (by decide))
        refine tz_if _ (fun c7714 => ?_) (fun c7714 => ?_)
        ·
          have i9_x3_24 : tq_iv 201 201 x3_24 := tq_cut i_x3_24 (tq_ltR c7714 tk_200 i_x3_24) (by decide) (by decide)
          exact K_51 
        ·
          have i10_x3_24 : tq_iv 0 200 x3_24 := tq_cut i_x3_24 (tq_leL (tq_nlt c7714) i_x3_24 tk_200) (by decide) (by decide)
          refine tz_bd (tz_X12_opensBy T_σ_24 k_h0 i2_x1 i5_x2) (fun t_34 i_t_34 => ?_)
          refine tz_if _ (fun c7712 => ?_) (fun c7712 => ?_)
          ·
            have i11_t_34 : tq_iv 0 0 t_34 := tq_cut i_t_34 (tq_eqL c7712 tk_0) (by decide) (by decide)
            exact K_51 
          ·
            have i12_t_34 : tq_iv 1 1 t_34 := tq_w (tq_neLo c7712 i_t_34 tk_0) (by decide) (by decide)
            refine tz_b2 (tz_X12_use T_σ_24 k_h0 i2_x1) (fun _ σ7711 T7711 => ?_)
            refine tz_let (fun t_45 e7710 => ?_)
            have i13_t_45 : tq_iv 1 201 t_45 := tq_w (tq_add e7710 i10_x3_24 tk_1 (by decide) (by decide)) (by decide) (by decide)
            exact hk_24 σ7711 t_45 T7711 (tq_w i13_t_45 (by decide) (by decide)) (tq_up e7710 i10_x3_24 tk_1 (by decide) (by decide) hn_24)
      have E_24 : ∀ (σ_24 : ez_H) (x3_24 : Int32), tp p σ_24 → tq_iv 0 201 x3_24 → tz_O (fun z : Int32 × ez_H => (fun (z : Int32) (s : ez_H) => tq_iv (-1) 200 z ∧ tp p s) z.1 z.2) (ez_fix (fun _ _ _ _ _ => none) (z_X12_lasts_24) ez_N σ_24 h0 x1 x2 x3_24) := by
        intro σ_24 x3_24 T_σ_24 i_x3_24
        exact ez_fix_indn (fun n_24 (k_24 : ez_H → Nat → Int32 → Int32 → Int32 → Option (Int32 × ez_H)) => ∀ (σ_24 : ez_H) (x3_24 : Int32), tp p σ_24 → tq_iv 0 201 x3_24 → (2147483647 - x3_24.toInt).toNat < n_24 → tz_O (fun z : Int32 × ez_H => (fun (z : Int32) (s : ez_H) => tq_iv (-1) 200 z ∧ tp p s) z.1 z.2) (k_24 σ_24 h0 x1 x2 x3_24)) (by intros; rename_i h; exact absurd h (Nat.not_lt_zero _)) L_24 ez_N σ_24 x3_24 T_σ_24 i_x3_24 (tq_m0 x3_24)
      exact E_24 σ7718 (0 : Int32) T7718 (tq_w tk_0 (by decide) (by decide))
theorem tq_div0 {y : Int32} (h : tq_iv 2 6 y) : (0 : Int32) / y = 0 ∧ (0 : Int32) - 0 / y * y = 0 := by
  have h1 := tq_divT (x := 0) (y := y) (a := 0) (b := 0) (c := 2) (d := 6) ⟨by decide, by decide⟩ h (by decide) (by decide)
  have h2 := tq_remT (x := 0) (y := y) (a := 0) (b := 0) (c := 2) (d := 6) ⟨by decide, by decide⟩ h (by decide) (by decide)
  have z0 : (0 : Int32).toInt = 0 := by decide
  rw [z0] at h1 h2
  exact ⟨Int32.toInt_inj.mp (by rw [h1, z0, Int.zero_ediv]), Int32.toInt_inj.mp (by rw [h2, z0, Int.zero_emod])⟩
theorem tz_legal0 {p : tz_P} {σ : ez_H} {h0 : Nat} {x1 x2 : Int32} (hT : tp p σ) (k_h0 : tz_C h0 = some (3, 12, 0, 0)) (e0 : x1 = 0) (i2 : tq_iv 0 5 x2) : tz_O (fun z => z = 1) (z_X12_isLegalBy σ h0 x1 x2) := by
  subst e0
  have L : ∀ (n : Nat) (k : Nat → Int32 → Int32 → Int32 → Int32 → Option Int32), (∀ x3 x4 x5 : Int32, x3 = 0 → x4 = 0 → (2147483647 - x5.toInt).toNat < n → tz_O (fun z => z = 1) (k h0 x2 x3 x4 x5)) → ∀ x3 x4 x5 : Int32, x3 = 0 → x4 = 0 → (2147483647 - x5.toInt).toNat < n + 1 → tz_O (fun z => z = 1) (z_X12_isLegalBy_13 σ k h0 x2 x3 x4 x5) := by
    intro n k hk x3 x4 x5 h3 h4 hn
    subst h3 h4
    unfold z_X12_isLegalBy_13
    refine tz_bd (tz_X12_wide hT k_h0) (fun t16 i16 => ?_)
    refine tz_if _ (fun _ => tz_some rfl) (fun c => ?_)
    rw [Int32.le_iff_toInt_le] at c
    refine tz_bd (tz_X12_deep hT k_h0) (fun t24 i24 => ?_)
    refine tz_nz (tq_nz i24 (by decide)) ?_
    refine tz_let (fun t27 e27 => ?_)
    rw [(tq_div0 i24).1] at e27
    subst e27
    refine tz_bd (tz_X12_deep hT k_h0) (fun t31 i31 => ?_)
    refine tz_nz (tq_nz i31 (by decide)) ?_
    refine tz_let (fun t34 e34 => ?_)
    rw [(tq_div0 i31).2] at e34
    subst e34
    refine tz_let (fun t37 e37 => ?_)
    have e37 : t37 = 0 := e37
    subst e37
    have ea : z_X12_absolute σ 0 = some 0 := by
      unfold z_X12_absolute
      rfl
    refine tz_bk ea ?_
    refine tz_if _ (fun _ => ?_) (fun c2 => ?_)
    · refine tz_bd (tz_X12_deep hT k_h0) (fun t49 i49 => ?_)
      refine tz_nz (tq_nz i49 (by decide)) ?_
      refine tz_let (fun t52 e52 => ?_)
      rw [(tq_div0 i49).2] at e52
      refine tz_let (fun t55 e55 => ?_)
      have h16 := i16.2
      exact hk 0 t52 t55 rfl e52 (tq_up e55 (a := -2147483648) (b := 4) ⟨(tq_top x5).1, by omega⟩ tk_1 (by decide) (by decide) hn)
    · rw [Int32.le_iff_toInt_le] at c2
      have z0 : (0 : Int32).toInt = 0 := by decide
      have := i2.1
      omega
  unfold z_X12_isLegalBy
  refine tz_bd (tz_ob hT k_h0) (fun _ _ => ?_)
  refine tz_bd (tz_X12_deep hT k_h0) (fun t4 i4 => ?_)
  refine tz_nz (tq_nz i4 (by decide)) ?_
  refine tz_let (fun t7 e7 => ?_)
  rw [(tq_div0 i4).2] at e7
  exact ez_fix_indn (fun n (k : Nat → Int32 → Int32 → Int32 → Int32 → Option Int32) => ∀ x3 x4 x5 : Int32, x3 = 0 → x4 = 0 → (2147483647 - x5.toInt).toNat < n → tz_O (fun z => z = 1) (k h0 x2 x3 x4 x5)) (by intros; rename_i h; exact absurd h (Nat.not_lt_zero _)) L ez_N 0 t7 1 rfl e7 (tq_m0 _)
theorem tz_X12_manyLegal {p : tz_P} {σ : ez_H} {h0 : Nat} {x1 : Int32} (hT : tp p σ) (k_h0 : tz_C h0 = some (3, 12, 0, 0)) (i1 : tq_iv 0 5 x1) : tz_O (fun z => tq_iv 1 2147483647 z) (z_X12_manyLegal σ h0 x1) := by
  have L : ∀ (n : Nat) (k : Nat → Int32 → Int32 → Int32 → Option Int32), (∀ x2 x3 : Int32, 0 ≤ x2.toInt → x2.toInt ≤ x3.toInt → x3.toInt ≤ 7776 → (1 ≤ x3.toInt → 1 ≤ x2.toInt) → (2147483647 - x3.toInt).toNat < n → tz_O (fun z => tq_iv 1 2147483647 z) (k h0 x1 x2 x3)) → ∀ x2 x3 : Int32, 0 ≤ x2.toInt → x2.toInt ≤ x3.toInt → x3.toInt ≤ 7776 → (1 ≤ x3.toInt → 1 ≤ x2.toInt) → (2147483647 - x3.toInt).toNat < n + 1 → tz_O (fun z => tq_iv 1 2147483647 z) (z_X12_manyLegal_4 σ k h0 x1 x2 x3) := by
    intro n k hk x2 x3 h1 h2 h3 h4 hn
    unfold z_X12_manyLegal_4
    refine tz_bd (tz_X12_bittings hT k_h0) (fun t6 i6 => ?_)
    have c1 := i6.1
    have c2 := i6.2
    refine tz_if _ (fun c => ?_) (fun c => ?_)
    · rw [Int32.le_iff_toInt_le] at c
      exact tz_some ⟨h4 (by omega), (tq_top x2).2⟩
    rw [Int32.le_iff_toInt_le] at c
    have K : ∀ y : Int32, 1 ≤ y.toInt → y.toInt ≤ x3.toInt + 1 → tz_O (fun z => tq_iv 1 2147483647 z) (z_X12_manyLegal_24 σ k h0 x1 y x3) := by
      intro y hy1 hy2
      unfold z_X12_manyLegal_24
      refine tz_let (fun t e => ?_)
      have ht : t.toInt = x3.toInt + 1 := by
        rw [e]
        exact tq_addT (a := 0) (b := 7776) (c := 1) (d := 1) ⟨by omega, by omega⟩ tk_1 (by decide) (by decide)
      exact hk y t (by omega) (by omega) (by omega) (fun _ => hy1) (by omega)
    have hB : tz_O (fun z => x3.toInt = 0 → z = 1) (z_X12_isLegalBy σ h0 x3 x1) := by
      by_cases q : x3.toInt = 0
      · exact tz_imp (tz_legal0 hT k_h0 (Int32.toInt_inj.mp (by rw [q]; decide)) i1) (fun z hz _ => hz)
      · exact tz_imp (tz_X12_isLegalBy hT k_h0 ⟨by omega, by omega⟩ i1) (fun z _ h => absurd h q)
    refine tz_bd hB (fun t15 h15 => ?_)
    refine tz_if _ (fun c5 => ?_) (fun _ => ?_)
    · have : ¬ x3.toInt = 0 := fun q => by
        have e := h15 q
        rw [e] at c5
        exact absurd c5 (by decide)
      exact K x2 (h4 (by omega)) (by omega)
    · refine tz_let (fun t21 e => ?_)
      have ht : t21.toInt = x2.toInt + 1 := by
        rw [e]
        exact tq_addT (a := 0) (b := 7776) (c := 1) (d := 1) ⟨by omega, by omega⟩ tk_1 (by decide) (by decide)
      exact K t21 (by omega) (by omega)
  unfold z_X12_manyLegal
  refine tz_bd (tz_ob hT k_h0) (fun _ _ => ?_)
  exact ez_fix_indn (fun n (k : Nat → Int32 → Int32 → Int32 → Option Int32) => ∀ x2 x3 : Int32, 0 ≤ x2.toInt → x2.toInt ≤ x3.toInt → x3.toInt ≤ 7776 → (1 ≤ x3.toInt → 1 ≤ x2.toInt) → (2147483647 - x3.toInt).toNat < n → tz_O (fun z => tq_iv 1 2147483647 z) (k h0 x1 x2 x3)) (by intros; rename_i h; exact absurd h (Nat.not_lt_zero _)) L ez_N 0 0 (by decide) (by decide) (by decide) (fun h => absurd h (by decide)) (tq_m0 _)
set_option maxRecDepth 4000 in
theorem tz_X12_law {p : tz_P} {σ : ez_H} {h0 : Nat} {x1 : Int32} (hT : tp p σ) (k_h0 : tz_C h0 = some (3, 12, 0, 0)) : tz_O (fun z => tq_iv (-1) 2147483647 z) (z_X12_law σ h0 x1) := by
  unfold z_X12_law
  refine tz_bd (tz_ob hT k_h0) (fun _ _ => ?_)
  refine tz_bd (tz_X12_isIn hT) (fun t_3 ⟨i_t_3, g_t_3⟩ => ?_)
  have K_18 : ∀ (y0_18 : Int32), tq_iv (-1) 2147483647 y0_18 → tz_O (fun (z : Int32) => tq_iv (-1) 2147483647 z) (z_X12_law_18 σ y0_18) := by
    intro y0_18 i_y0_18
    unfold z_X12_law_18
    exact tz_some i_y0_18
  refine tz_if _ (fun c7754 => ?_) (fun c7754 => ?_)
  ·
    have i1_t_3 : tq_iv 0 0 t_3 := tq_cut i_t_3 (tq_eqL c7754 tk_0) (by decide) (by decide)
    exact K_18 (-1 : Int32) (tq_w tk_m1 (by decide) (by decide))
  ·
    have i2_x1 : tq_iv 0 5 x1 := tq_cut (tq_top x1) (tq_cut (lo := 0) (hi := 5) (tq_cut (lo := 0) (hi := 2147483647) (tq_top x1) (tq_leR (g_t_3 c7754).1 tk_0 (tq_top x1)) (by decide) (by decide)) (tq_leL (g_t_3 c7754).2 (tq_top x1) tk_5) (by decide) (by decide)) (by decide) (by decide)
    have i3_t_3 : tq_iv 1 1 t_3 := tq_w (tq_neLo c7754 i_t_3 tk_0) (by decide) (by decide)
    refine tz_bd (tz_X12_manyLegal hT k_h0 i2_x1) (fun t_11 i_t_11 => ?_)
    exact K_18 t_11 (tq_w i_t_11 (by decide) (by decide))
set_option maxRecDepth 4000 in
theorem tz_X12_leftOver {p : tz_P} {σ : ez_H} {h0 : Nat} {x1 : Int32} (hT : tp p σ) (k_h0 : tz_C h0 = some (3, 12, 0, 0)) : tz_O2 (fun (z : Int32) (s : ez_H) => tq_iv (-1) 63 z ∧ tp p s) (z_X12_leftOver σ h0 x1) := by
  show tz_O (fun z : Int32 × ez_H => (fun (z : Int32) (s : ez_H) => tq_iv (-1) 63 z ∧ tp p s) z.1 z.2) _
  unfold z_X12_leftOver
  refine tz_bd (tz_ob hT k_h0) (fun _ _ => ?_)
  refine tz_bd (tz_X12_isKey hT k_h0) (fun t_2 ⟨i_t_2, g_t_2⟩ => ?_)
  refine tz_if _ (fun c7779 => ?_) (fun c7779 => ?_)
  ·
    have i1_t_2 : tq_iv 0 0 t_2 := tq_cut i_t_2 (tq_eqL c7779 tk_0) (by decide) (by decide)
    exact tz_some ⟨(tq_w tk_m1 (by decide) (by decide)), hT⟩
  ·
    have i2_x1 : tq_iv 0 7 x1 := tq_cut (tq_top x1) (g_t_2 c7779) (by decide) (by decide)
    have i3_t_2 : tq_iv 1 1 t_2 := tq_w (tq_neLo c7779 i_t_2 tk_0) (by decide) (by decide)
    refine tz_b2 (tz_X12_keepNow hT k_h0) (fun _ σ7778 T7778 => ?_)
    have L_18 : ∀ (n_18 : Nat) (k_18 : ez_H → Nat → Int32 → Int32 → Int32 → Option (Int32 × ez_H)), (∀ (σ_18 : ez_H) (x2_18 : Int32) (x3_18 : Int32), tp p σ_18 → tq_iv 0 63 x2_18 → tq_iv 0 6 x3_18 → (2147483647 - x3_18.toInt).toNat < n_18 → tz_O (fun z : Int32 × ez_H => (fun (z : Int32) (s : ez_H) => tq_iv (-1) 63 z ∧ tp p s) z.1 z.2) (k_18 σ_18 h0 x1 x2_18 x3_18)) → ∀ (σ_18 : ez_H) (x2_18 : Int32) (x3_18 : Int32), tp p σ_18 → tq_iv 0 63 x2_18 → tq_iv 0 6 x3_18 → (2147483647 - x3_18.toInt).toNat < n_18 + 1 → tz_O (fun z : Int32 × ez_H => (fun (z : Int32) (s : ez_H) => tq_iv (-1) 63 z ∧ tp p s) z.1 z.2) (z_X12_leftOver_18 k_18 σ_18 h0 x1 x2_18 x3_18) := by
      intro n_18 k_18 hk_18 σ_18 x2_18 x3_18 T_σ_18 i_x2_18 i_x3_18 hn_18
      unfold z_X12_leftOver_18
      refine tz_bd (tz_X12_bolts T_σ_18 k_h0) (fun t_20 i_t_20 => ?_)
      refine tz_if _ (fun c7774 => ?_) (fun c7774 => ?_)
      ·
        refine tz_b2 (tz_X12_bringBack T_σ_18 k_h0) (fun _ σ7760 T7760 => ?_)
        exact tz_some ⟨(tq_w i_x2_18 (by decide) (by decide)), T7760⟩
      ·
        have i4_x3_18 : tq_iv 0 5 x3_18 := tq_cut i_x3_18 (tq_ltL (tq_nle c7774) i_x3_18 i_t_20) (by decide) (by decide)
        have i5_t_20 : tq_iv 1 6 t_20 := tq_cut i_t_20 (tq_ltR (tq_nle c7774) i_x3_18 i_t_20) (by decide) (by decide)
        refine tz_bd (tz_X12_mustOf T_σ_18 k_h0 i4_x3_18) (fun t_28 i_t_28 => ?_)
        refine tz_let (fun t_33 e7772 => ?_)
        have i6_t_33 : tq_iv 1 128 t_33 := tq_shl1 e7772 i2_x1 (by decide) (by decide) (by decide) (by decide)
        refine tz_let (fun t_35 e7771 => ?_)
        refine tz_let (fun t_36 e7770 => ?_)
        have K_69 : ∀ (σ_69 : ez_H) (x2_69 : Int32), tp p σ_69 → tq_iv 0 63 x2_69 → tz_O (fun z : Int32 × ez_H => (fun (z : Int32) (s : ez_H) => tq_iv (-1) 63 z ∧ tp p s) z.1 z.2) (z_X12_leftOver_69 k_18 σ_69 h0 x1 x2_69 x3_18) := by
          intro σ_69 x2_69 T_σ_69 i_x2_69
          unfold z_X12_leftOver_69
          refine tz_let (fun t_69 e7758 => ?_)
          have i7_t_69 : tq_iv 1 6 t_69 := tq_w (tq_add e7758 i4_x3_18 tk_1 (by decide) (by decide)) (by decide) (by decide)
          exact hk_18 σ_69 x2_69 t_69 T_σ_69 i_x2_69 (tq_w i7_t_69 (by decide) (by decide)) (tq_up e7758 i4_x3_18 tk_1 (by decide) (by decide) hn_18)
        refine tz_if _ (fun c7769 => ?_) (fun c7769 => ?_)
        ·
          have i8_t_36 : tq_iv 0 0 t_36 := tq_cut (tq_top t_36) (tq_eqL c7769 tk_0) (by decide) (by decide)
          exact K_69 σ_18 x2_18 T_σ_18 i_x2_18
        ·
          refine tz_b2 (tz_X12_pinFor T_σ_18 k_h0 i4_x3_18) (fun _ σ7768 T7768 => ?_)
          refine tz_bd (tz_X12_opensBy T7768 k_h0 i2_x1 i4_x3_18) (fun t_57 i_t_57 => ?_)
          refine tz_if _ (fun c7766 => ?_) (fun c7766 => ?_)
          ·
            have i9_t_57 : tq_iv 0 0 t_57 := tq_cut i_t_57 (tq_eqL c7766 tk_0) (by decide) (by decide)
            exact K_69 σ7768 x2_18 T7768 i_x2_18
          ·
            have i10_t_57 : tq_iv 1 1 t_57 := tq_w (tq_neLo c7766 i_t_57 tk_0) (by decide) (by decide)
            refine tz_let (fun t_66 e7765 => ?_)
            have i11_t_66 : tq_iv 1 32 t_66 := tq_shl1 e7765 i4_x3_18 (by decide) (by decide) (by decide) (by decide)
            refine tz_let (fun t_67 e7764 => ?_)
            have i12_t_67 : tq_iv 0 63 t_67 := tq_or e7764 i_x2_18 i11_t_66 6 (by decide) (by decide) (by decide) (by decide) (by decide)
            exact K_69 σ7768 t_67 T7768 i12_t_67
    have E_18 : ∀ (σ_18 : ez_H) (x2_18 : Int32) (x3_18 : Int32), tp p σ_18 → tq_iv 0 63 x2_18 → tq_iv 0 6 x3_18 → tz_O (fun z : Int32 × ez_H => (fun (z : Int32) (s : ez_H) => tq_iv (-1) 63 z ∧ tp p s) z.1 z.2) (ez_fix (fun _ _ _ _ _ => none) (z_X12_leftOver_18) ez_N σ_18 h0 x1 x2_18 x3_18) := by
      intro σ_18 x2_18 x3_18 T_σ_18 i_x2_18 i_x3_18
      exact ez_fix_indn (fun n_18 (k_18 : ez_H → Nat → Int32 → Int32 → Int32 → Option (Int32 × ez_H)) => ∀ (σ_18 : ez_H) (x2_18 : Int32) (x3_18 : Int32), tp p σ_18 → tq_iv 0 63 x2_18 → tq_iv 0 6 x3_18 → (2147483647 - x3_18.toInt).toNat < n_18 → tz_O (fun z : Int32 × ez_H => (fun (z : Int32) (s : ez_H) => tq_iv (-1) 63 z ∧ tp p s) z.1 z.2) (k_18 σ_18 h0 x1 x2_18 x3_18)) (by intros; rename_i h; exact absurd h (Nat.not_lt_zero _)) L_18 ez_N σ_18 x2_18 x3_18 T_σ_18 i_x2_18 i_x3_18 (tq_m0 x3_18)
    exact E_18 σ7778 (0 : Int32) (0 : Int32) T7778 (tq_w tk_0 (by decide) (by decide)) (tq_w tk_0 (by decide) (by decide))
set_option maxRecDepth 4000 in
theorem tz_X12_legal {p : tz_P} {σ : ez_H} {h0 : Nat} (hT : tp p σ) (k_h0 : tz_C h0 = some (3, 12, 0, 0)) : tz_O (fun z => tq_iv 1 2147483647 z) (z_X12_legal σ h0) := by
  unfold z_X12_legal
  refine tz_bd (tz_ob hT k_h0) (fun _ _ => ?_)
  refine tz_bk (tr_13 hT k_h0) ?_
  refine tz_be (tg_12_43 hT k_h0) (fun t_6 e7785 i_t_6 => ?_)
  refine tz_be (tz_ia hT tc_175 (te_175 (p := p)) i_t_6 (by decide) (by decide)) (fun t_9 e7784 i_t_9 => ?_)
  refine tz_bd (tz_X12_manyLegal hT k_h0 i_t_9) (fun t_10 i_t_10 => ?_)
  exact tz_some i_t_10
