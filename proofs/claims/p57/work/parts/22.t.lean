set_option maxRecDepth 4000 in
theorem tz_X11_master {p : tz_P} {σ : ez_H} {h0 : Nat} {x1 : Int32} (hT : tp p σ) (k_h0 : tz_C h0 = some (3, 11, 0, 0)) : tz_O2 (fun (z : Int32) (s : ez_H) => tq_iv (-2147483648) 2147483647 z ∧ tp p s) (z_X11_master σ h0 x1) := by
  show tz_O (fun z : Int32 × ez_H => (fun (z : Int32) (s : ez_H) => tq_iv (-2147483648) 2147483647 z ∧ tp p s) z.1 z.2) _
  unfold z_X11_master
  refine tz_bd (tz_ob hT k_h0) (fun _ _ => ?_)
  refine tz_be (tg_11_10 hT k_h0) (fun t_1 e3008 k_t_1 => ?_)
  refine tz_be (tg_11_5 hT k_h0) (fun t_5 e3007 k_t_5 => ?_)
  refine tz_b2 (tz_X8_take hT k_t_1 k_t_5) (fun _ σ3006 T3006 => ?_)
  refine tz_be (tg_11_10 T3006 k_h0) (fun t_12 e3005 k_t_12 => ?_)
  refine tz_bd (tz_X8_masterLocks T3006 k_t_12) (fun t_15 i_t_15 => ?_)
  refine tz_if _ (fun c3003 => ?_) (fun c3003 => ?_)
  ·
    have i1_x1 : tq_iv 0 0 x1 := tq_cut (tq_top x1) (tq_eqL c3003 tk_0) (by decide) (by decide)
    refine tz_bk e3005 ?_
    refine tz_bd (tz_X8_leastNumber T3006 k_t_12) (fun t_54 i_t_54 => ?_)
    exact tz_some ⟨(tq_top t_54), T3006⟩
  ·
    refine tz_if _ (fun c3002 => ?_) (fun c3002 => ?_)
    ·
      have i2_x1 : tq_iv 1 1 x1 := tq_cut (tq_top x1) (tq_eqL c3002 tk_1) (by decide) (by decide)
      refine tz_bd (tz_J6_bitCount_0f7a4 T3006) (fun t_59 i_t_59 => ?_)
      exact tz_some ⟨(tq_top t_59), T3006⟩
    ·
      refine tz_if _ (fun c3001 => ?_) (fun c3001 => ?_)
      ·
        have i3_x1 : tq_iv 2 2 x1 := tq_cut (tq_top x1) (tq_eqL c3001 tk_2) (by decide) (by decide)
        exact tz_some ⟨(tq_top t_15), T3006⟩
      ·
        exact tz_some ⟨(tq_top (-1 : Int32)), T3006⟩
set_option maxRecDepth 4000 in
theorem tz_X11_commonDivisor {p : tz_P} {σ : ez_H} {x0 : Int32} {x1 : Int32} (hT : tp p σ) : tz_O (fun z => tq_iv (-2147483648) 2147483647 z) (z_X11_commonDivisor σ x0 x1) := by
  unfold z_X11_commonDivisor
  have L_7 : ∀ (n_7 : Nat) (k_7 : Int32 → Int32 → Int32 → Option (Int32)), (∀ (x2_7 : Int32) (x3_7 : Int32) (x4_7 : Int32), tq_iv 0 64 x4_7 → (2147483647 - x4_7.toInt).toNat < n_7 → tz_O (fun (z : Int32) => tq_iv (-2147483648) 2147483647 z) (k_7 x2_7 x3_7 x4_7)) → ∀ (x2_7 : Int32) (x3_7 : Int32) (x4_7 : Int32), tq_iv 0 64 x4_7 → (2147483647 - x4_7.toInt).toNat < n_7 + 1 → tz_O (fun (z : Int32) => tq_iv (-2147483648) 2147483647 z) (z_X11_commonDivisor_7 σ k_7 x2_7 x3_7 x4_7) := by
    intro n_7 k_7 hk_7 x2_7 x3_7 x4_7 i_x4_7 hn_7
    unfold z_X11_commonDivisor_7
    have K_34 : tz_O (fun (z : Int32) => tq_iv (-2147483648) 2147483647 z) (z_X11_commonDivisor_34 σ x2_7) := by
      unfold z_X11_commonDivisor_34
      exact tz_some (tq_top x2_7)
    refine tz_if _ (fun c3018 => ?_) (fun c3018 => ?_)
    ·
      have i1_x4_7 : tq_iv 64 64 x4_7 := tq_cut i_x4_7 (tq_leR c3018 tk_64 i_x4_7) (by decide) (by decide)
      exact K_34 
    ·
      have i2_x4_7 : tq_iv 0 63 x4_7 := tq_cut i_x4_7 (tq_ltL (tq_nle c3018) i_x4_7 tk_64) (by decide) (by decide)
      refine tz_if _ (fun c3017 => ?_) (fun c3017 => ?_)
      ·
        have i3_x3_7 : tq_iv 0 0 x3_7 := tq_cut (tq_top x3_7) (tq_eqL c3017 tk_0) (by decide) (by decide)
        exact K_34 
      ·
        refine tz_nz c3017 ?_
        refine tz_let (fun t_20 e3015 => ?_)
        refine tz_let (fun t_28 e3014 => ?_)
        have i4_t_28 : tq_iv 1 64 t_28 := tq_w (tq_add e3014 i2_x4_7 tk_1 (by decide) (by decide)) (by decide) (by decide)
        exact hk_7 x3_7 t_20 t_28 (tq_w i4_t_28 (by decide) (by decide)) (tq_up e3014 i2_x4_7 tk_1 (by decide) (by decide) hn_7)
  have E_7 : ∀ (x2_7 : Int32) (x3_7 : Int32) (x4_7 : Int32), tq_iv 0 64 x4_7 → tz_O (fun (z : Int32) => tq_iv (-2147483648) 2147483647 z) (ez_fix (fun _ _ _ => none) (z_X11_commonDivisor_7 σ) ez_N x2_7 x3_7 x4_7) := by
    intro x2_7 x3_7 x4_7 i_x4_7
    exact ez_fix_indn (fun n_7 (k_7 : Int32 → Int32 → Int32 → Option (Int32)) => ∀ (x2_7 : Int32) (x3_7 : Int32) (x4_7 : Int32), tq_iv 0 64 x4_7 → (2147483647 - x4_7.toInt).toNat < n_7 → tz_O (fun (z : Int32) => tq_iv (-2147483648) 2147483647 z) (k_7 x2_7 x3_7 x4_7)) (by intros; rename_i h; exact absurd h (Nat.not_lt_zero _)) L_7 ez_N x2_7 x3_7 x4_7 i_x4_7 (tq_m0 x4_7)
  exact E_7 x0 x1 (0 : Int32) (tq_w tk_0 (by decide) (by decide))
set_option maxRecDepth 4000 in
theorem tz_X11_odds {p : tz_P} {σ : ez_H} {h0 : Nat} {x1 : Int32} {x2 : Int32} (hT : tp p σ) (k_h0 : tz_C h0 = some (3, 11, 0, 0)) : tz_O2 (fun (z : Int32) (s : ez_H) => tq_iv (-2147483648) 2147483647 z ∧ tp p s) (z_X11_odds σ h0 x1 x2) := by
  show tz_O (fun z : Int32 × ez_H => (fun (z : Int32) (s : ez_H) => tq_iv (-2147483648) 2147483647 z ∧ tp p s) z.1 z.2) _
  unfold z_X11_odds
  refine tz_bd (tz_ob hT k_h0) (fun _ _ => ?_)
  refine tz_be (tg_11_3 hT k_h0) (fun t_1 e3048 k_t_1 => ?_)
  refine tz_bd (tz_X3_hasLock hT k_t_1) (fun t_5 ⟨i_t_5, g_t_5⟩ => ?_)
  have K_20 : tz_O (fun z : Int32 × ez_H => (fun (z : Int32) (s : ez_H) => tq_iv (-2147483648) 2147483647 z ∧ tp p s) z.1 z.2) (z_X11_odds_20 σ) := by
    unfold z_X11_odds_20
    exact tz_some ⟨(tq_top (-1 : Int32)), hT⟩
  refine tz_if _ (fun c3046 => ?_) (fun c3046 => ?_)
  ·
    have i1_t_5 : tq_iv 0 0 t_5 := tq_cut i_t_5 (tq_eqL c3046 tk_0) (by decide) (by decide)
    exact K_20 
  ·
    have i2_x1 : tq_iv 0 2147483646 x1 := tq_cut (tq_top x1) (g_t_5 c3046) (by decide) (by decide)
    have i3_t_5 : tq_iv 1 1 t_5 := tq_w (tq_neLo c3046 i_t_5 tk_0) (by decide) (by decide)
    refine tz_if _ (fun c3045 => ?_) (fun c3045 => ?_)
    ·
      have i4_x2 : tq_iv (-2147483648) (-1) x2 := tq_cut (tq_top x2) (tq_ltL c3045 (tq_top x2) tk_0) (by decide) (by decide)
      exact K_20 
    ·
      have i5_x2 : tq_iv 0 2147483647 x2 := tq_cut (tq_top x2) (tq_leR (tq_nlt c3045) tk_0 (tq_top x2)) (by decide) (by decide)
      refine tz_if _ (fun c3044 => ?_) (fun c3044 => ?_)
      ·
        have i6_x2 : tq_iv 0 1 x2 := tq_cut i5_x2 (tq_leL c3044 i5_x2 tk_1) (by decide) (by decide)
        refine tz_be (tg_11_4 hT k_h0) (fun t_23 e3042 k_t_23 => ?_)
        refine tz_be (tg_11_5 hT k_h0) (fun t_27 e3041 k_t_27 => ?_)
        refine tz_bd (tz_X7_pins hT k_t_27) (fun t_31 i_t_31 => ?_)
        refine tz_bk e3042 ?_
        refine tz_be (tg_6_2 hT k_t_23) (fun t_38 e3038 i_t_38 => ?_)
        refine tz_b2 (tz_X6_howMany hT k_t_23 i_t_38) (fun t_41 σ3037 ⟨i_t_41, T3037⟩ => ?_)
        refine tz_be (tg_11_4 T3037 k_h0) (fun t_46 e3036 k_t_46 => ?_)
        refine tz_bk e3036 ?_
        refine tz_bd (tz_X6_everything T3037 k_t_46) (fun t_53 i_t_53 => ?_)
        refine tz_bk e3036 ?_
        refine tz_be (tg_6_2 T3037 k_t_46) (fun t_60 e3032 i_t_60 => ?_)
        refine tz_b2 (tz_X6_howMany T3037 k_t_46 i_t_60) (fun t_63 σ3031 ⟨i_t_63, T3031⟩ => ?_)
        refine tz_bd (tz_X11_commonDivisor T3031) (fun t_72 i_t_72 => ?_)
        refine tz_let (fun t_75 e3029 => ?_)
        have i7_t_75 : tq_iv 1 2147483647 t_75 := tq_w (tq_max e3029 tk_1 (tq_top t_72)) (by decide) (by decide)
        have K_90 : ∀ (y0_90 : Int32), tz_O (fun z : Int32 × ez_H => (fun (z : Int32) (s : ez_H) => tq_iv (-2147483648) 2147483647 z ∧ tp p s) z.1 z.2) (z_X11_odds_90 σ3031 t_75 y0_90) := by
          intro y0_90
          unfold z_X11_odds_90
          refine tz_nz (tq_nz i7_t_75 (by decide)) ?_
          refine tz_let (fun t_92 e3022 => ?_)
          exact tz_some ⟨(tq_top t_92), T3031⟩
        refine tz_if _ (fun c3028 => ?_) (fun c3028 => ?_)
        ·
          have i8_x2 : tq_iv 0 0 x2 := tq_cut i6_x2 (tq_eqL c3028 tk_0) (by decide) (by decide)
          exact K_90 t_41
        ·
          have i9_x2 : tq_iv 1 1 x2 := tq_w (tq_neLo c3028 i6_x2 tk_0) (by decide) (by decide)
          exact K_90 t_63
      ·
        have i10_x2 : tq_iv 2 2147483647 x2 := tq_cut i5_x2 (tq_ltR (tq_nle c3044) tk_1 i5_x2) (by decide) (by decide)
        exact K_20
set_option maxRecDepth 4000 in
theorem tz_X6_bitsOf {p : tz_P} {σ : ez_H} {h0 : Nat} {x1 : Int32} (hT : tp p σ) (k_h0 : tz_C h0 = some (3, 6, 0, 0)) : tz_O (fun z => tq_iv (-2147483648) 2147483647 z) (z_X6_bitsOf σ h0 x1) := by
  unfold z_X6_bitsOf
  refine tz_bd (tz_ob hT k_h0) (fun _ _ => ?_)
  refine tz_be (tg_6_1 hT k_h0) (fun t_6 e3074 i_t_6 => ?_)
  refine tz_let (fun t_9 e3073 => ?_)
  have i1_t_9 : tq_iv 1 999 t_9 := tq_w (tq_max e3073 tk_1 i_t_6) (by decide) (by decide)
  refine tz_be (tg_6_0 hT k_h0) (fun t_15 e3072 i_t_15 => ?_)
  refine tz_let (fun t_19 e3071 => ?_)
  have i2_t_19 : tq_iv (-1) 998 t_19 := tq_w (tq_sub e3071 i_t_15 tk_1 (by decide) (by decide)) (by decide) (by decide)
  have L_22 : ∀ (n_22 : Nat) (k_22 : Nat → Int32 → Int32 → Int32 → Int32 → Int32 → Option (Int32)), (∀ (x2_22 : Int32) (x3_22 : Int32) (x5_22 : Int32), tq_iv (-1) 998 x5_22 → (x5_22.toInt + 2147483648).toNat < n_22 → tz_O (fun (z : Int32) => tq_iv (-2147483648) 2147483647 z) (k_22 h0 x1 x2_22 x3_22 t_9 x5_22)) → ∀ (x2_22 : Int32) (x3_22 : Int32) (x5_22 : Int32), tq_iv (-1) 998 x5_22 → (x5_22.toInt + 2147483648).toNat < n_22 + 1 → tz_O (fun (z : Int32) => tq_iv (-2147483648) 2147483647 z) (z_X6_bitsOf_22 σ k_22 h0 x1 x2_22 x3_22 t_9 x5_22) := by
    intro n_22 k_22 hk_22 x2_22 x3_22 x5_22 i_x5_22 hn_22
    unfold z_X6_bitsOf_22
    refine tz_if _ (fun c3069 => ?_) (fun c3069 => ?_)
    ·
      have i3_x5_22 : tq_iv (-1) (-1) x5_22 := tq_cut i_x5_22 (tq_ltL c3069 i_x5_22 tk_0) (by decide) (by decide)
      have K_75 : ∀ (y0_75 : Int32), tz_O (fun (z : Int32) => tq_iv (-2147483648) 2147483647 z) (z_X6_bitsOf_75 σ y0_75) := by
        intro y0_75
        unfold z_X6_bitsOf_75
        exact tz_some (tq_top y0_75)
      have K_74 : tz_O (fun (z : Int32) => tq_iv (-2147483648) 2147483647 z) (z_X6_bitsOf_74 σ) := by
        unfold z_X6_bitsOf_74
        exact K_75 (0 : Int32)
      refine tz_if _ (fun c3059 => ?_) (fun c3059 => ?_)
      ·
        have i4_x1 : tq_iv (-2147483648) (-1) x1 := tq_cut (tq_top x1) (tq_ltL c3059 (tq_top x1) tk_0) (by decide) (by decide)
        exact K_74 
      ·
        have i5_x1 : tq_iv 0 2147483647 x1 := tq_cut (tq_top x1) (tq_leR (tq_nlt c3059) tk_0 (tq_top x1)) (by decide) (by decide)
        refine tz_if _ (fun c3058 => ?_) (fun c3058 => ?_)
        ·
          have i6_x2_22 : tq_iv 0 0 x2_22 := tq_cut (tq_top x2_22) (tq_eqL c3058 tk_0) (by decide) (by decide)
          refine tz_bd (tz_X6_isLegal hT k_h0) (fun t_64 i_t_64 => ?_)
          refine tz_if _ (fun c3055 => ?_) (fun c3055 => ?_)
          ·
            have i7_t_64 : tq_iv 0 0 t_64 := tq_cut i_t_64 (tq_eqL c3055 tk_0) (by decide) (by decide)
            exact K_74 
          ·
            have i8_t_64 : tq_iv 1 1 t_64 := tq_w (tq_neLo c3055 i_t_64 tk_0) (by decide) (by decide)
            exact K_75 x3_22
        ·
          exact K_74 
    ·
      have i9_x5_22 : tq_iv 0 998 x5_22 := tq_cut i_x5_22 (tq_leR (tq_nlt c3069) tk_0 i_x5_22) (by decide) (by decide)
      refine tz_nz (tq_nz i1_t_9 (by decide)) ?_
      refine tz_let (fun t_34 e3067 => ?_)
      have i10_t_34 : tq_iv (-998) 998 t_34 := tq_remS e3067 i1_t_9 (by decide)
      refine tz_let (fun t_35 e3066 => ?_)
      have i11_t_35 : tq_iv 0 998 t_35 := tq_w (tq_max e3066 tk_0 i10_t_34) (by decide) (by decide)
      refine tz_bd (tz_X6_notch hT (tq_w i9_x5_22 (by decide) (by decide))) (fun t_38 i_t_38 => ?_)
      refine tz_let (fun t_41 e3064 => ?_)
      refine tz_nz (tq_nz i1_t_9 (by decide)) ?_
      refine tz_let (fun t_46 e3062 => ?_)
      refine tz_let (fun t_48 e3061 => ?_)
      have i12_t_48 : tq_iv (-1) 997 t_48 := tq_w (tq_add e3061 i9_x5_22 tk_m1 (by decide) (by decide)) (by decide) (by decide)
      exact hk_22 t_46 t_41 t_48 (tq_w i12_t_48 (by decide) (by decide)) (tq_down e3061 i9_x5_22 tk_m1 (by decide) (by decide) hn_22)
  have E_22 : ∀ (x2_22 : Int32) (x3_22 : Int32) (x5_22 : Int32), tq_iv (-1) 998 x5_22 → tz_O (fun (z : Int32) => tq_iv (-2147483648) 2147483647 z) (ez_fix (fun _ _ _ _ _ _ => none) (z_X6_bitsOf_22 σ) ez_N h0 x1 x2_22 x3_22 t_9 x5_22) := by
    intro x2_22 x3_22 x5_22 i_x5_22
    exact ez_fix_indn (fun n_22 (k_22 : Nat → Int32 → Int32 → Int32 → Int32 → Int32 → Option (Int32)) => ∀ (x2_22 : Int32) (x3_22 : Int32) (x5_22 : Int32), tq_iv (-1) 998 x5_22 → (x5_22.toInt + 2147483648).toNat < n_22 → tz_O (fun (z : Int32) => tq_iv (-2147483648) 2147483647 z) (k_22 h0 x1 x2_22 x3_22 t_9 x5_22)) (by intros; rename_i h; exact absurd h (Nat.not_lt_zero _)) L_22 ez_N x2_22 x3_22 x5_22 i_x5_22 (tq_m1 x5_22)
  exact E_22 x1 (0 : Int32) t_19 i2_t_19
set_option maxRecDepth 4000 in
theorem tz_X11_opens {p : tz_P} {σ : ez_H} {h0 : Nat} {x1 : Int32} {x2 : Int32} (hT : tp p σ) (k_h0 : tz_C h0 = some (3, 11, 0, 0)) : tz_O (fun z => tq_iv (-1) 1 z) (z_X11_opens σ h0 x1 x2) := by
  unfold z_X11_opens
  refine tz_bd (tz_ob hT k_h0) (fun _ _ => ?_)
  refine tz_be (tg_11_4 hT k_h0) (fun t_1 e3091 k_t_1 => ?_)
  refine tz_bd (tz_X6_bitsOf hT k_t_1) (fun t_5 i_t_5 => ?_)
  have K_24 : tz_O (fun (z : Int32) => tq_iv (-1) 1 z) (z_X11_opens_24 σ) := by
    unfold z_X11_opens_24
    exact tz_some (tq_w tk_m1 (by decide) (by decide))
  refine tz_if _ (fun c3089 => ?_) (fun c3089 => ?_)
  ·
    have i1_t_5 : tq_iv 0 0 t_5 := tq_cut (tq_top t_5) (tq_eqL c3089 tk_0) (by decide) (by decide)
    exact K_24 
  ·
    refine tz_be (tg_11_3 hT k_h0) (fun t_14 e3088 k_t_14 => ?_)
    refine tz_bd (tz_X3_hasLock hT k_t_14) (fun t_18 ⟨i_t_18, g_t_18⟩ => ?_)
    refine tz_if _ (fun c3086 => ?_) (fun c3086 => ?_)
    ·
      have i2_t_18 : tq_iv 0 0 t_18 := tq_cut i_t_18 (tq_eqL c3086 tk_0) (by decide) (by decide)
      exact K_24 
    ·
      have i3_x2 : tq_iv 0 2147483646 x2 := tq_cut (tq_top x2) (g_t_18 c3086) (by decide) (by decide)
      have i4_t_18 : tq_iv 1 1 t_18 := tq_w (tq_neLo c3086 i_t_18 tk_0) (by decide) (by decide)
      refine tz_be (tg_11_5 hT k_h0) (fun t_28 e3085 k_t_28 => ?_)
      refine tz_bd (tz_X7_pins hT k_t_28) (fun t_32 i_t_32 => ?_)
      refine tz_bd (tz_X6_fitsIn hT) (fun t_35 i_t_35 => ?_)
      have K_46 : ∀ (y0_46 : Int32), tq_iv 0 1 y0_46 → (¬ y0_46 = 0 → tq_iv 1 1 t_35) → tz_O (fun (z : Int32) => tq_iv (-1) 1 z) (z_X11_opens_46 σ y0_46) := by
        intro y0_46 i_y0_46 g46_y0_46_t_35
        unfold z_X11_opens_46
        exact tz_some (tq_w i_y0_46 (by decide) (by decide))
      refine tz_if _ (fun c3082 => ?_) (fun c3082 => ?_)
      ·
        have i5_t_35 : tq_iv 0 0 t_35 := tq_cut i_t_35 (tq_eqL c3082 tk_0) (by decide) (by decide)
        exact K_46 (0 : Int32) (tq_w tk_0 (by decide) (by decide)) (fun h => absurd rfl h)
      ·
        have i6_t_35 : tq_iv 1 1 t_35 := tq_w (tq_neLo c3082 i_t_35 tk_0) (by decide) (by decide)
        exact K_46 (1 : Int32) (tq_w tk_1 (by decide) (by decide)) (fun _ => i6_t_35)
set_option maxRecDepth 4000 in
theorem tz_X6_hasDepth {p : tz_P} {σ : ez_H} {h0 : Nat} {x1 : Int32} (hT : tp p σ) (k_h0 : tz_C h0 = some (3, 6, 0, 0)) : tz_O (fun z => tq_iv 0 1 z ∧ (¬ z = 0 → tq_iv 0 998 x1)) (z_X6_hasDepth σ h0 x1) := by
  unfold z_X6_hasDepth
  refine tz_bd (tz_ob hT k_h0) (fun _ _ => ?_)
  have K_17 : ∀ (y0_17 : Int32), tq_iv 0 1 y0_17 → (¬ y0_17 = 0 → tq_iv 0 998 x1) → tz_O (fun (z : Int32) => tq_iv 0 1 z ∧ (¬ z = 0 → tq_iv 0 998 x1)) (z_X6_hasDepth_17 σ y0_17) := by
    intro y0_17 i_y0_17 g17_y0_17_x1
    unfold z_X6_hasDepth_17
    refine tz_nr (tq_nr_boolean i_y0_17) ?_
    exact tz_some ⟨i_y0_17, (fun h => tq_w (g17_y0_17_x1 h) (by decide) (by decide))⟩
  have K_16 : tz_O (fun (z : Int32) => tq_iv 0 1 z ∧ (¬ z = 0 → tq_iv 0 998 x1)) (z_X6_hasDepth_16 σ) := by
    unfold z_X6_hasDepth_16
    exact K_17 (0 : Int32) (tq_w tk_0 (by decide) (by decide)) (fun h => absurd rfl h)
  refine tz_if _ (fun c3101 => ?_) (fun c3101 => ?_)
  ·
    have i1_x1 : tq_iv (-2147483648) (-1) x1 := tq_cut (tq_top x1) (tq_ltL c3101 (tq_top x1) tk_0) (by decide) (by decide)
    exact K_16 
  ·
    have i2_x1 : tq_iv 0 2147483647 x1 := tq_cut (tq_top x1) (tq_leR (tq_nlt c3101) tk_0 (tq_top x1)) (by decide) (by decide)
    refine tz_be (tg_6_1 hT k_h0) (fun t_6 e3100 i_t_6 => ?_)
    refine tz_if _ (fun c3099 => ?_) (fun c3099 => ?_)
    ·
      exact K_16 
    ·
      have i3_x1 : tq_iv 0 998 x1 := tq_cut i2_x1 (tq_ltL (tq_nle c3099) i2_x1 i_t_6) (by decide) (by decide)
      have i4_t_6 : tq_iv 1 999 t_6 := tq_cut i_t_6 (tq_ltR (tq_nle c3099) i2_x1 i_t_6) (by decide) (by decide)
      exact K_17 (1 : Int32) (tq_w tk_1 (by decide) (by decide)) (fun _ => i3_x1)
set_option maxRecDepth 4000 in
theorem tz_X7_putPins {p : tz_P} {σ : ez_H} {h0 : Nat} {x1 : Int32} {x2 : Int32} (hT : tp p σ) (k_h0 : tz_C h0 = some (3, 7, 0, 0)) : tz_O2 (fun (z : Unit) (s : ez_H) => tp p s) (z_X7_putPins σ h0 x1 x2) := by
  show tz_O (fun z : Unit × ez_H => (fun (z : Unit) (s : ez_H) => tp p s) z.1 z.2) _
  unfold z_X7_putPins
  refine tz_bd (tz_ob hT k_h0) (fun _ _ => ?_)
  refine tz_let (fun t_4 e3105 => ?_)
  refine tz_b2 (tz_X7_put hT k_h0) (fun _ σ3104 ⟨T3104, W3104⟩ => ?_)
  exact tz_some T3104
set_option maxRecDepth 4000 in
theorem tz_X11_part {p : tz_P} {σ : ez_H} {h0 : Nat} {x1 : Int32} {x2 : Int32} {x3 : Int32} (hT : tp p σ) (k_h0 : tz_C h0 = some (3, 11, 0, 0)) : tz_O2 (fun (z : Int32) (s : ez_H) => tq_iv (-1) 63 z ∧ tp p s) (z_X11_part σ h0 x1 x2 x3) := by
  show tz_O (fun z : Int32 × ez_H => (fun (z : Int32) (s : ez_H) => tq_iv (-1) 63 z ∧ tp p s) z.1 z.2) _
  unfold z_X11_part
  refine tz_bd (tz_ob hT k_h0) (fun _ _ => ?_)
  refine tz_be (tg_11_3 hT k_h0) (fun t_1 e3132 k_t_1 => ?_)
  refine tz_bd (tz_X3_hasLock hT k_t_1) (fun t_5 ⟨i_t_5, g_t_5⟩ => ?_)
  have K_33 : tz_O (fun z : Int32 × ez_H => (fun (z : Int32) (s : ez_H) => tq_iv (-1) 63 z ∧ tp p s) z.1 z.2) (z_X11_part_33 σ) := by
    unfold z_X11_part_33
    exact tz_some ⟨(tq_w tk_m1 (by decide) (by decide)), hT⟩
  refine tz_if _ (fun c3130 => ?_) (fun c3130 => ?_)
  ·
    have i1_t_5 : tq_iv 0 0 t_5 := tq_cut i_t_5 (tq_eqL c3130 tk_0) (by decide) (by decide)
    exact K_33 
  ·
    have i2_x1 : tq_iv 0 2147483646 x1 := tq_cut (tq_top x1) (g_t_5 c3130) (by decide) (by decide)
    have i3_t_5 : tq_iv 1 1 t_5 := tq_w (tq_neLo c3130 i_t_5 tk_0) (by decide) (by decide)
    refine tz_be (tg_11_4 hT k_h0) (fun t_12 e3129 k_t_12 => ?_)
    refine tz_bd (tz_X6_hasChamber hT k_t_12) (fun t_16 ⟨i_t_16, g_t_16⟩ => ?_)
    refine tz_if _ (fun c3127 => ?_) (fun c3127 => ?_)
    ·
      have i4_t_16 : tq_iv 0 0 t_16 := tq_cut i_t_16 (tq_eqL c3127 tk_0) (by decide) (by decide)
      exact K_33 
    ·
      have i5_x2 : tq_iv 0 998 x2 := tq_cut (tq_top x2) (g_t_16 c3127) (by decide) (by decide)
      have i6_t_16 : tq_iv 1 1 t_16 := tq_w (tq_neLo c3127 i_t_16 tk_0) (by decide) (by decide)
      refine tz_bk e3129 ?_
      refine tz_bd (tz_X6_hasDepth hT k_t_12) (fun t_27 ⟨i_t_27, g_t_27⟩ => ?_)
      refine tz_if _ (fun c3124 => ?_) (fun c3124 => ?_)
      ·
        have i7_t_27 : tq_iv 0 0 t_27 := tq_cut i_t_27 (tq_eqL c3124 tk_0) (by decide) (by decide)
        exact K_33 
      ·
        have i8_x3 : tq_iv 0 998 x3 := tq_cut (tq_top x3) (g_t_27 c3124) (by decide) (by decide)
        have i9_t_27 : tq_iv 1 1 t_27 := tq_w (tq_neLo c3124 i_t_27 tk_0) (by decide) (by decide)
        refine tz_be (tg_11_5 hT k_h0) (fun t_36 e3123 k_t_36 => ?_)
        refine tz_bd (tz_X7_pins hT k_t_36) (fun t_40 i_t_40 => ?_)
        refine tz_bd (tz_X6_notch hT (tq_w i5_x2 (by decide) (by decide))) (fun t_45 i_t_45 => ?_)
        refine tz_let (fun t_48 e3120 => ?_)
        refine tz_bd (tz_X6_depthsAt hT (tq_w i5_x2 (by decide) (by decide))) (fun t_54 i_t_54 => ?_)
        refine tz_if _ (fun c3118 => ?_) (fun c3118 => ?_)
        ·
          have i10_t_54 : tq_iv 0 0 t_54 := tq_cut i_t_54 (tq_eqL c3118 tk_0) (by decide) (by decide)
          exact tz_some ⟨(tq_w tk_m1 (by decide) (by decide)), hT⟩
        ·
          have i11_t_54 : tq_iv 1 63 t_54 := tq_w (tq_neLo c3118 i_t_54 tk_0) (by decide) (by decide)
          refine tz_be (tg_11_7 hT k_h0) (fun t_67 e3117 k_t_67 => ?_)
          refine tz_bk e3123 ?_
          refine tz_b2 (tz_X1_keep hT k_t_67 k_t_36) (fun _ σ3115 T3115 => ?_)
          refine tz_be (tg_11_5 T3115 k_h0) (fun t_78 e3114 k_t_78 => ?_)
          refine tz_b2 (tz_X7_putPins T3115 k_t_78) (fun _ σ3113 T3113 => ?_)
          exact tz_some ⟨(tq_w i11_t_54 (by decide) (by decide)), T3113⟩
set_option maxRecDepth 4000 in
theorem tz_X11_parts {p : tz_P} {σ : ez_H} {h0 : Nat} {x1 : Int32} {x2 : Int32} (hT : tp p σ) (k_h0 : tz_C h0 = some (3, 11, 0, 0)) : tz_O (fun z => tq_iv (-1) 63 z) (z_X11_parts σ h0 x1 x2) := by
  unfold z_X11_parts
  refine tz_bd (tz_ob hT k_h0) (fun _ _ => ?_)
  refine tz_be (tg_11_3 hT k_h0) (fun t_1 e3146 k_t_1 => ?_)
  refine tz_bd (tz_X3_hasLock hT k_t_1) (fun t_5 ⟨i_t_5, g_t_5⟩ => ?_)
  have K_22 : tz_O (fun (z : Int32) => tq_iv (-1) 63 z) (z_X11_parts_22 σ) := by
    unfold z_X11_parts_22
    exact tz_some (tq_w tk_m1 (by decide) (by decide))
  refine tz_if _ (fun c3144 => ?_) (fun c3144 => ?_)
  ·
    have i1_t_5 : tq_iv 0 0 t_5 := tq_cut i_t_5 (tq_eqL c3144 tk_0) (by decide) (by decide)
    exact K_22 
  ·
    have i2_x1 : tq_iv 0 2147483646 x1 := tq_cut (tq_top x1) (g_t_5 c3144) (by decide) (by decide)
    have i3_t_5 : tq_iv 1 1 t_5 := tq_w (tq_neLo c3144 i_t_5 tk_0) (by decide) (by decide)
    refine tz_be (tg_11_4 hT k_h0) (fun t_12 e3143 k_t_12 => ?_)
    refine tz_bd (tz_X6_hasChamber hT k_t_12) (fun t_16 ⟨i_t_16, g_t_16⟩ => ?_)
    refine tz_if _ (fun c3141 => ?_) (fun c3141 => ?_)
    ·
      have i4_t_16 : tq_iv 0 0 t_16 := tq_cut i_t_16 (tq_eqL c3141 tk_0) (by decide) (by decide)
      exact K_22 
    ·
      have i5_x2 : tq_iv 0 998 x2 := tq_cut (tq_top x2) (g_t_16 c3141) (by decide) (by decide)
      have i6_t_16 : tq_iv 1 1 t_16 := tq_w (tq_neLo c3141 i_t_16 tk_0) (by decide) (by decide)
      refine tz_be (tg_11_5 hT k_h0) (fun t_25 e3140 k_t_25 => ?_)
      refine tz_bd (tz_X7_pins hT k_t_25) (fun t_29 i_t_29 => ?_)
      refine tz_bd (tz_X6_depthsAt hT (tq_w i5_x2 (by decide) (by decide))) (fun t_33 i_t_33 => ?_)
      exact tz_some (tq_w i_t_33 (by decide) (by decide))
set_option maxRecDepth 4000 in
theorem tz_X11_person {p : tz_P} {σ : ez_H} {h0 : Nat} {x1 : Int32} {x2 : Int32} (hT : tp p σ) (k_h0 : tz_C h0 = some (3, 11, 0, 0)) : tz_O (fun z => tq_iv (-2147483648) 2147483647 z) (z_X11_person σ h0 x1 x2) := by
  unfold z_X11_person
  refine tz_bd (tz_ob hT k_h0) (fun _ _ => ?_)
  refine tz_be (tg_11_3 hT k_h0) (fun t_1 e3166 k_t_1 => ?_)
  refine tz_bd (tz_X3_hasPerson hT k_t_1) (fun t_5 ⟨i_t_5, g_t_5⟩ => ?_)
  refine tz_if _ (fun c3164 => ?_) (fun c3164 => ?_)
  ·
    have i1_t_5 : tq_iv 0 0 t_5 := tq_cut i_t_5 (tq_eqL c3164 tk_0) (by decide) (by decide)
    exact tz_some (tq_top (-1 : Int32))
  ·
    have i2_x1 : tq_iv 0 2147483646 x1 := tq_cut (tq_top x1) (g_t_5 c3164) (by decide) (by decide)
    have i3_t_5 : tq_iv 1 1 t_5 := tq_w (tq_neLo c3164 i_t_5 tk_0) (by decide) (by decide)
    refine tz_if _ (fun c3163 => ?_) (fun c3163 => ?_)
    ·
      have i4_x2 : tq_iv 0 0 x2 := tq_cut (tq_top x2) (tq_eqL c3163 tk_0) (by decide) (by decide)
      refine tz_be (tg_11_5 hT k_h0) (fun t_41 e3151 k_t_41 => ?_)
      refine tz_bd (tz_X7_room hT k_t_41) (fun t_45 i_t_45 => ?_)
      exact tz_some (tq_top t_45)
    ·
      refine tz_if _ (fun c3162 => ?_) (fun c3162 => ?_)
      ·
        have i5_x2 : tq_iv 1 1 x2 := tq_cut (tq_top x2) (tq_eqL c3162 tk_1) (by decide) (by decide)
        refine tz_be (tg_11_5 hT k_h0) (fun t_50 e3156 k_t_50 => ?_)
        refine tz_bk e3166 ?_
        refine tz_be (tg_3_3 hT k_t_1) (fun t_58 e3154 i_t_58 => ?_)
        refine tz_bd (tz_X7_heldBy hT k_t_50 (tq_w i2_x1 (by decide) (by decide)) i_t_58) (fun t_61 i_t_61 => ?_)
        exact tz_some (tq_top t_61)
      ·
        refine tz_if _ (fun c3161 => ?_) (fun c3161 => ?_)
        ·
          have i6_x2 : tq_iv 2 2 x2 := tq_cut (tq_top x2) (tq_eqL c3161 tk_2) (by decide) (by decide)
          refine tz_be (tg_11_12 hT k_h0) (fun t_66 e3159 k_t_66 => ?_)
          refine tz_bd (tz_X2_reachOf hT k_t_66 i2_x1) (fun t_70 i_t_70 => ?_)
          exact tz_some (tq_top t_70)
        ·
          exact tz_some (tq_top (-1 : Int32))
set_option maxRecDepth 4000 in
theorem tz_X3_hasKeys {p : tz_P} {σ : ez_H} {h0 : Nat} {x1 : Int32} (hT : tp p σ) (k_h0 : tz_C h0 = some (3, 3, 0, 0)) (i_x1 : tq_iv 1 2147483647 x1) : tz_O (fun z => tq_iv 0 1 z) (z_X3_hasKeys σ h0 x1) := by
  unfold z_X3_hasKeys
  refine tz_bd (tz_ob hT k_h0) (fun _ _ => ?_)
  refine tz_bd (tz_X3_allKeys hT k_h0) (fun t_2 i_t_2 => ?_)
  refine tz_let (fun t_6 e3174 => ?_)
  refine tz_let (fun t_7 e3173 => ?_)
  have i1_t_7 : tq_iv 0 2147483647 t_7 := tq_and1 e3173 i_x1 (by decide)
  have K_16 : ∀ (y0_16 : Int32), tq_iv 0 1 y0_16 → (¬ y0_16 = 0 → tq_iv 0 0 t_7) → tz_O (fun (z : Int32) => tq_iv 0 1 z) (z_X3_hasKeys_16 σ y0_16) := by
    intro y0_16 i_y0_16 g16_y0_16_t_7
    unfold z_X3_hasKeys_16
    refine tz_nr (tq_nr_boolean i_y0_16) ?_
    exact tz_some i_y0_16
  refine tz_if _ (fun c3172 => ?_) (fun c3172 => ?_)
  ·
    have i2_t_7 : tq_iv 0 0 t_7 := tq_cut i1_t_7 (tq_eqL c3172 tk_0) (by decide) (by decide)
    exact K_16 (1 : Int32) (tq_w tk_1 (by decide) (by decide)) (fun _ => i2_t_7)
  ·
    have i3_t_7 : tq_iv 1 2147483647 t_7 := tq_w (tq_neLo c3172 i1_t_7 tk_0) (by decide) (by decide)
    exact K_16 (0 : Int32) (tq_w tk_0 (by decide) (by decide)) (fun h => absurd rfl h)
set_option maxRecDepth 4000 in
theorem tz_X11_pin {p : tz_P} {σ : ez_H} {h0 : Nat} {x1 : Int32} {x2 : Int32} (hT : tp p σ) (k_h0 : tz_C h0 = some (3, 11, 0, 0)) : tz_O2 (fun (z : Int32) (s : ez_H) => tq_iv (-1) 63 z ∧ tp p s) (z_X11_pin σ h0 x1 x2) := by
  show tz_O (fun z : Int32 × ez_H => (fun (z : Int32) (s : ez_H) => tq_iv (-1) 63 z ∧ tp p s) z.1 z.2) _
  unfold z_X11_pin
  refine tz_bd (tz_ob hT k_h0) (fun _ _ => ?_)
  refine tz_be (tg_11_3 hT k_h0) (fun t_1 e3198 k_t_1 => ?_)
  refine tz_bd (tz_X3_hasLock hT k_t_1) (fun t_5 ⟨i_t_5, g_t_5⟩ => ?_)
  have K_26 : tz_O (fun z : Int32 × ez_H => (fun (z : Int32) (s : ez_H) => tq_iv (-1) 63 z ∧ tp p s) z.1 z.2) (z_X11_pin_26 σ) := by
    unfold z_X11_pin_26
    exact tz_some ⟨(tq_w tk_m1 (by decide) (by decide)), hT⟩
  refine tz_if _ (fun c3196 => ?_) (fun c3196 => ?_)
  ·
    have i1_t_5 : tq_iv 0 0 t_5 := tq_cut i_t_5 (tq_eqL c3196 tk_0) (by decide) (by decide)
    exact K_26 
  ·
    have i2_x1 : tq_iv 0 2147483646 x1 := tq_cut (tq_top x1) (g_t_5 c3196) (by decide) (by decide)
    have i3_t_5 : tq_iv 1 1 t_5 := tq_w (tq_neLo c3196 i_t_5 tk_0) (by decide) (by decide)
    refine tz_if _ (fun c3195 => ?_) (fun c3195 => ?_)
    ·
      have i4_x2 : tq_iv (-2147483648) 0 x2 := tq_cut (tq_top x2) (tq_leL c3195 (tq_top x2) tk_0) (by decide) (by decide)
      exact K_26 
    ·
      have i5_x2 : tq_iv 1 2147483647 x2 := tq_cut (tq_top x2) (tq_ltR (tq_nle c3195) tk_0 (tq_top x2)) (by decide) (by decide)
      refine tz_bk e3198 ?_
      refine tz_bd (tz_X3_hasKeys hT k_t_1 i5_x2) (fun t_20 i_t_20 => ?_)
      refine tz_if _ (fun c3192 => ?_) (fun c3192 => ?_)
      ·
        have i6_t_20 : tq_iv 0 0 t_20 := tq_cut i_t_20 (tq_eqL c3192 tk_0) (by decide) (by decide)
        exact K_26 
      ·
        have i7_t_20 : tq_iv 1 1 t_20 := tq_w (tq_neLo c3192 i_t_20 tk_0) (by decide) (by decide)
        refine tz_be (tg_11_7 hT k_h0) (fun t_29 e3191 k_t_29 => ?_)
        refine tz_be (tg_11_5 hT k_h0) (fun t_33 e3190 k_t_33 => ?_)
        refine tz_b2 (tz_X1_keep hT k_t_29 k_t_33) (fun _ σ3189 T3189 => ?_)
        refine tz_be (tg_11_5 T3189 k_h0) (fun t_40 e3188 k_t_40 => ?_)
        refine tz_be (tg_11_13 T3189 k_h0) (fun t_45 e3187 k_t_45 => ?_)
        refine tz_bd (tz_X5_pinsFor T3189 k_t_45) (fun t_49 i_t_49 => ?_)
        refine tz_b2 (tz_X7_putPins T3189 k_t_40) (fun _ σ3185 T3185 => ?_)
        refine tz_be (tg_11_5 T3185 k_h0) (fun t_56 e3184 k_t_56 => ?_)
        refine tz_bd (tz_X7_pins T3185 k_t_56) (fun t_60 i_t_60 => ?_)
        refine tz_bd (tz_J6_bitCount_0f7a4 T3185) (fun t_63 i_t_63 => ?_)
        exact tz_some ⟨(tq_w i_t_63 (by decide) (by decide)), T3185⟩
set_option maxRecDepth 4000 in
theorem tz_X0_clear {p : tz_P} {σ : ez_H} {h0 : Nat} (hT : tp p σ) (k_h0 : tz_C h0 = some (3, 0, 0, 0)) : tz_O2 (fun (z : Unit) (s : ez_H) => tp p s) (z_X0_clear σ h0) := by
  show tz_O (fun z : Unit × ez_H => (fun (z : Unit) (s : ez_H) => tp p s) z.1 z.2) _
  unfold z_X0_clear
  refine tz_bd (tz_ob hT k_h0) (fun _ _ => ?_)
  refine tz_be (tw_0_0 hT k_h0 (tq_top (0 : Int32))) (fun σ3202 e3202 T3202 => ?_)
  refine tz_be (tw_0_1 T3202 k_h0 (tq_top (0 : Int32))) (fun σ3201 e3201 T3201 => ?_)
  exact tz_some T3201
set_option maxRecDepth 4000 in
theorem tz_X7_clear {p : tz_P} {σ : ez_H} {h0 : Nat} (hT : tp p σ) (k_h0 : tz_C h0 = some (3, 7, 0, 0)) : tz_O2 (fun (z : Unit) (s : ez_H) => tp p s) (z_X7_clear σ h0) := by
  show tz_O (fun z : Unit × ez_H => (fun (z : Unit) (s : ez_H) => tp p s) z.1 z.2) _
  unfold z_X7_clear
  refine tz_bd (tz_ob hT k_h0) (fun _ _ => ?_)
  refine tz_be (tg_7_0 hT k_h0) (fun t_1 e3206 k_t_1 => ?_)
  refine tz_b2 (tz_J7_fill_53178 hT k_t_1) (fun _ σ3205 T3205 => ?_)
  exact tz_some T3205
set_option maxRecDepth 4000 in
theorem tz_X3_clear {p : tz_P} {σ : ez_H} {h0 : Nat} (hT : tp p σ) (k_h0 : tz_C h0 = some (3, 3, 0, 0)) : tz_O2 (fun (z : Unit) (s : ez_H) => tp p s) (z_X3_clear σ h0) := by
  show tz_O (fun z : Unit × ez_H => (fun (z : Unit) (s : ez_H) => tp p s) z.1 z.2) _
  unfold z_X3_clear
  refine tz_bd (tz_ob hT k_h0) (fun _ _ => ?_)
  refine tz_be (tg_3_0 hT k_h0) (fun t_1 e3223 k_t_1 => ?_)
  refine tz_b2 (tz_X6_reset hT k_t_1) (fun _ σ3222 T3222 => ?_)
  refine tz_be (tg_3_1 T3222 k_h0) (fun t_8 e3221 k_t_8 => ?_)
  refine tz_b2 (tz_X0_clear T3222 k_t_8) (fun _ σ3220 T3220 => ?_)
  refine tz_be (tg_3_2 T3220 k_h0) (fun t_15 e3219 k_t_15 => ?_)
  refine tz_b2 (tz_X7_clear T3220 k_t_15) (fun _ σ3218 T3218 => ?_)
  refine tz_be (tw_3_3 T3218 k_h0 (tq_w tk_0 (by decide) (by decide))) (fun σ3217 e3217 T3217 => ?_)
  refine tz_be (tw_3_4 T3217 k_h0 (tq_top (0 : Int32))) (fun σ3216 e3216 T3216 => ?_)
  refine tz_be (tw_3_5 T3216 k_h0 (tq_top (0 : Int32))) (fun σ3215 e3215 T3215 => ?_)
  refine tz_be (tw_3_6 T3215 k_h0 (tq_top (0 : Int32))) (fun σ3214 e3214 T3214 => ?_)
  refine tz_be (tw_3_7 T3214 k_h0 (tq_top (0 : Int32))) (fun σ3213 e3213 T3213 => ?_)
  refine tz_be (tg_3_11 T3213 k_h0) (fun t_47 e3212 k_t_47 => ?_)
  refine tz_b2 (tz_J7_fill_53178 T3213 k_t_47) (fun _ σ3211 T3211 => ?_)
  refine tz_be (tg_3_12 T3211 k_h0) (fun t_55 e3210 k_t_55 => ?_)
  refine tz_b2 (tz_J7_fill_53178 T3211 k_t_55) (fun _ σ3209 T3209 => ?_)
  exact tz_some T3209
set_option maxRecDepth 4000 in
theorem tz_X9_byteAt {p : tz_P} {σ : ez_H} {h0 : Nat} {x1 : Int32} (hT : tp p σ) (k_h0 : tz_C h0 = some (3, 9, 0, 0)) : tz_O (fun z => tq_iv (-1) 255 z) (z_X9_byteAt σ h0 x1) := by
  unfold z_X9_byteAt
  refine tz_bd (tz_ob hT k_h0) (fun _ _ => ?_)
  have K_35 : ∀ (y0_35 : Int32), tq_iv (-1) 255 y0_35 → tz_O (fun (z : Int32) => tq_iv (-1) 255 z) (z_X9_byteAt_35 σ y0_35) := by
    intro y0_35 i_y0_35
    unfold z_X9_byteAt_35
    exact tz_some i_y0_35
  have K_34 : tz_O (fun (z : Int32) => tq_iv (-1) 255 z) (z_X9_byteAt_34 σ) := by
    unfold z_X9_byteAt_34
    exact K_35 (-1 : Int32) (tq_w tk_m1 (by decide) (by decide))
  refine tz_if _ (fun c3239 => ?_) (fun c3239 => ?_)
  ·
    have i1_x1 : tq_iv (-2147483648) (-1) x1 := tq_cut (tq_top x1) (tq_ltL c3239 (tq_top x1) tk_0) (by decide) (by decide)
    exact K_34 
  ·
    have i2_x1 : tq_iv 0 2147483647 x1 := tq_cut (tq_top x1) (tq_leR (tq_nlt c3239) tk_0 (tq_top x1)) (by decide) (by decide)
    refine tz_be (tg_9_2 hT k_h0) (fun t_6 e3238 i_t_6 => ?_)
    refine tz_if _ (fun c3237 => ?_) (fun c3237 => ?_)
    ·
      exact K_34 
    ·
      have i3_x1 : tq_iv 0 2147483646 x1 := tq_cut i2_x1 (tq_ltL (tq_nle c3237) i2_x1 (tq_top t_6)) (by decide) (by decide)
      have i4_t_6 : tq_iv 1 2147483647 t_6 := tq_cut (tq_top t_6) (tq_ltR (tq_nle c3237) i2_x1 (tq_top t_6)) (by decide) (by decide)
      refine tz_be (tg_9_0 hT k_h0) (fun t_14 e3236 k_t_14 => ?_)
      refine tz_be (tz_ln hT k_t_14) (fun t_17 e3235 i_t_17 => ?_)
      refine tz_if _ (fun c3234 => ?_) (fun c3234 => ?_)
      ·
        have i5_x1 : tq_iv 1600 2147483646 x1 := tq_cut i3_x1 (tq_leR c3234 i_t_17 i3_x1) (by decide) (by decide)
        exact K_34 
      ·
        have i6_x1 : tq_iv 0 1599 x1 := tq_cut i3_x1 (tq_ltL (tq_nle c3234) i3_x1 i_t_17) (by decide) (by decide)
        refine tz_bk e3236 ?_
        refine tz_be (tz_ia hT k_t_14 (te_1 (p := p)) i6_x1 (by decide) (by decide)) (fun t_26 e3232 i_t_26 => ?_)
        refine tz_let (fun t_30 e3231 => ?_)
        have i7_t_30 : tq_iv 0 255 t_30 := tq_and2 e3231 tk_255 (by decide)
        exact K_35 t_30 (tq_w i7_t_30 (by decide) (by decide))
set_option maxRecDepth 4000 in
theorem tz_X9_isLetter {p : tz_P} {σ : ez_H} {x0 : Int32} (hT : tp p σ) (i_x0 : tq_iv (-1) 255 x0) : tz_O (fun z => tq_iv 0 1 z ∧ (¬ z = 0 → tq_iv 97 122 x0)) (z_X9_isLetter σ x0) := by
  unfold z_X9_isLetter
  have K_17 : ∀ (y0_17 : Int32), tq_iv 0 1 y0_17 → (¬ y0_17 = 0 → tq_iv 97 122 x0) → tz_O (fun (z : Int32) => tq_iv 0 1 z ∧ (¬ z = 0 → tq_iv 97 122 x0)) (z_X9_isLetter_17 σ y0_17) := by
    intro y0_17 i_y0_17 g17_y0_17_x0
    unfold z_X9_isLetter_17
    refine tz_nr (tq_nr_boolean i_y0_17) ?_
    exact tz_some ⟨i_y0_17, (fun h => tq_w (g17_y0_17_x0 h) (by decide) (by decide))⟩
  have K_16 : tz_O (fun (z : Int32) => tq_iv 0 1 z ∧ (¬ z = 0 → tq_iv 97 122 x0)) (z_X9_isLetter_16 σ) := by
    unfold z_X9_isLetter_16
    exact K_17 (0 : Int32) (tq_w tk_0 (by decide) (by decide)) (fun h => absurd rfl h)
  refine tz_if _ (fun c3248 => ?_) (fun c3248 => ?_)
  ·
    have i1_x0 : tq_iv (-1) 96 x0 := tq_cut i_x0 (tq_ltL c3248 i_x0 tk_97) (by decide) (by decide)
    exact K_16 
  ·
    have i2_x0 : tq_iv 97 255 x0 := tq_cut i_x0 (tq_leR (tq_nlt c3248) tk_97 i_x0) (by decide) (by decide)
    refine tz_if _ (fun c3247 => ?_) (fun c3247 => ?_)
    ·
      have i3_x0 : tq_iv 123 255 x0 := tq_cut i2_x0 (tq_ltR c3247 tk_122 i2_x0) (by decide) (by decide)
      exact K_16 
    ·
      have i4_x0 : tq_iv 97 122 x0 := tq_cut i2_x0 (tq_leL (tq_nlt c3247) i2_x0 tk_122) (by decide) (by decide)
      exact K_17 (1 : Int32) (tq_w tk_1 (by decide) (by decide)) (fun _ => i4_x0)
set_option maxRecDepth 4000 in
theorem tz_X9_readWord {p : tz_P} {σ : ez_H} {h0 : Nat} (hT : tp p σ) (k_h0 : tz_C h0 = some (3, 9, 0, 0)) : tz_O2 (fun (z : Unit) (s : ez_H) => tp p s ∧ fw [(9, 3), (9, 4), (9, 7)] σ s) (z_X9_readWord σ h0) := by
  show tz_O (fun z : Unit × ez_H => (fun (z : Unit) (s : ez_H) => tp p s ∧ fw [(9, 3), (9, 4), (9, 7)] σ s) z.1 z.2) _
  unfold z_X9_readWord
  obtain ⟨w0, e_w0, i_w0⟩ := tg_9_3 hT k_h0
  refine tz_bd (tz_ob hT k_h0) (fun _ _ => ?_)
  refine tz_be (tz_pfl hT k_h0 (tf_9_7 (p := p))) (fun σ3291 e3291 T3291 => ?_)
  have L_5 : ∀ (n_5 : Nat) (k_5 : ez_H → Nat → Option (Unit × ez_H)), (∀ (σ_5 : ez_H) (w0_5 : Int32), tp p σ_5 → fw [(9, 3), (9, 4), (9, 7)] σ σ_5 → ez_gi σ_5 9 h0 3 = some w0_5 → (2147483647 - w0_5.toInt).toNat < n_5 → tz_O (fun z : Unit × ez_H => (fun (z : Unit) (s : ez_H) => tp p s ∧ fw [(9, 3), (9, 4), (9, 7)] σ s) z.1 z.2) (k_5 σ_5 h0)) → ∀ (σ_5 : ez_H) (w0_5 : Int32), tp p σ_5 → fw [(9, 3), (9, 4), (9, 7)] σ σ_5 → ez_gi σ_5 9 h0 3 = some w0_5 → (2147483647 - w0_5.toInt).toNat < n_5 + 1 → tz_O (fun z : Unit × ez_H => (fun (z : Unit) (s : ez_H) => tp p s ∧ fw [(9, 3), (9, 4), (9, 7)] σ s) z.1 z.2) (z_X9_readWord_5 k_5 σ_5 h0) := by
    intro n_5 k_5 hk_5 σ_5 w0_5 T_σ_5 F_σ_5 f0_5 hn_5
    unfold z_X9_readWord_5
    refine tz_ba f0_5 (fun t_6 e3289 a3289 => ?_)
    refine tz_be (tg_9_2 T_σ_5 k_h0) (fun t_10 e3288 i_t_10 => ?_)
    have K_62 : tz_O (fun z : Unit × ez_H => (fun (z : Unit) (s : ez_H) => tp p s ∧ fw [(9, 3), (9, 4), (9, 7)] σ s) z.1 z.2) (z_X9_readWord_62 σ_5 h0) := by
      unfold z_X9_readWord_62
      refine tz_ba f0_5 (fun t_64 e3271 a3271 => ?_)
      refine tz_be (tg_9_5 T_σ_5 k_h0) (fun t_68 e3270 i_t_68 => ?_)
      refine tz_let (fun t_71 e3269 => ?_)
      have K_84 : ∀ (y1_84 : Int32), tq_iv 23 25 y1_84 → tz_O (fun z : Unit × ez_H => (fun (z : Unit) (s : ez_H) => tp p s ∧ fw [(9, 3), (9, 4), (9, 7)] σ s) z.1 z.2) (z_X9_readWord_84 σ_5 h0 h0 y1_84) := by
        intro y1_84 i_y1_84
        unfold z_X9_readWord_84
        refine tz_be (tw_9_4 T_σ_5 k_h0 (tq_top y1_84)) (fun σ3265 e3265 T3265 => ?_)
        have L_89 : ∀ (n_89 : Nat) (k_89 : ez_H → Nat → Int32 → Option (Unit × ez_H)), (∀ (σ_89 : ez_H) (x1_89 : Int32) (w0_89 : Int32), tp p σ_89 → tq_iv 0 23 x1_89 → fw [(9, 3), (9, 4), (9, 7)] σ σ_89 → ez_gi σ_89 9 h0 3 = some w0_89 → (2147483647 - x1_89.toInt).toNat < n_89 → tz_O (fun z : Unit × ez_H => (fun (z : Unit) (s : ez_H) => tp p s ∧ fw [(9, 3), (9, 4), (9, 7)] σ s) z.1 z.2) (k_89 σ_89 h0 x1_89)) → ∀ (σ_89 : ez_H) (x1_89 : Int32) (w0_89 : Int32), tp p σ_89 → tq_iv 0 23 x1_89 → fw [(9, 3), (9, 4), (9, 7)] σ σ_89 → ez_gi σ_89 9 h0 3 = some w0_89 → (2147483647 - x1_89.toInt).toNat < n_89 + 1 → tz_O (fun z : Unit × ez_H => (fun (z : Unit) (s : ez_H) => tp p s ∧ fw [(9, 3), (9, 4), (9, 7)] σ s) z.1 z.2) (z_X9_readWord_89 k_89 σ_89 h0 x1_89) := by
          intro n_89 k_89 hk_89 σ_89 x1_89 w0_89 T_σ_89 i_x1_89 F_σ_89 f0_89 hn_89
          unfold z_X9_readWord_89
          refine tz_if _ (fun c3263 => ?_) (fun c3263 => ?_)
          ·
            have i1_x1_89 : tq_iv 23 23 x1_89 := tq_cut i_x1_89 (tq_leR c3263 tk_23 i_x1_89) (by decide) (by decide)
            exact tz_some ⟨T_σ_89, F_σ_89⟩
          ·
            have i2_x1_89 : tq_iv 0 22 x1_89 := tq_cut i_x1_89 (tq_ltL (tq_nle c3263) i_x1_89 tk_23) (by decide) (by decide)
            refine tz_be (tg_9_4 T_σ_89 k_h0) (fun t_96 e3262 i_t_96 => ?_)
            have K_123 : ∀ (σ_123 : ez_H), tp p σ_123 → fw [(9, 3), (9, 4), (9, 7)] σ σ_123 → ez_gi σ_123 9 h0 3 = some w0_89 → tz_O (fun z : Unit × ez_H => (fun (z : Unit) (s : ez_H) => tp p s ∧ fw [(9, 3), (9, 4), (9, 7)] σ s) z.1 z.2) (z_X9_readWord_123 k_89 σ_123 h0 x1_89) := by
              intro σ_123 T_σ_123 F_σ_123 f0_123
              unfold z_X9_readWord_123
              refine tz_let (fun t_123 e3250 => ?_)
              have i3_t_123 : tq_iv 1 23 t_123 := tq_w (tq_add e3250 i2_x1_89 tk_1 (by decide) (by decide)) (by decide) (by decide)
              exact hk_89 σ_123 t_123 w0_89 T_σ_123 (tq_w i3_t_123 (by decide) (by decide)) F_σ_123 f0_123 (tq_up e3250 i2_x1_89 tk_1 (by decide) (by decide) hn_89)
            refine tz_if _ (fun c3261 => ?_) (fun c3261 => ?_)
            ·
              have i4_t_96 : tq_iv 23 23 t_96 := tq_cut (tq_top t_96) (tq_eqL c3261 tk_23) (by decide) (by decide)
              refine tz_be (tg_9_1 T_σ_89 k_h0) (fun t_105 e3259 k_t_105 => ?_)
              refine tz_be (tz_la T_σ_89 k_t_105 i2_x1_89 (by decide) (by decide)) (fun t_109 e3258 _ => ?_)
              refine tz_be (tg_9_7 T_σ_89 k_h0) (fun t_111 e3257 _ => ?_)
              refine tz_let (fun t_114 e3256 => ?_)
              have i5_t_114 : tq_iv (-1) 1 t_114 := tq_cmp e3256
              refine tz_if _ (fun c3255 => ?_) (fun c3255 => ?_)
              ·
                have i6_t_114 : tq_iv 0 0 t_114 := tq_cut i5_t_114 (tq_eqL c3255 tk_0) (by decide) (by decide)
                refine tz_be (tw_9_4 T_σ_89 k_h0 (tq_top x1_89)) (fun σ3253 e3253 T3253 => ?_)
                exact K_123 σ3253 T3253 (fw_pf F_σ_89 e3253 (by decide)) ((fr_pf_v e3253 (fun h => absurd h.2.2 (by decide))).1.trans f0_89)
              ·
                exact K_123 σ_89 T_σ_89 F_σ_89 f0_89
            ·
              exact K_123 σ_89 T_σ_89 F_σ_89 f0_89
        have E_89 : ∀ (σ_89 : ez_H) (x1_89 : Int32) (w0_89 : Int32), tp p σ_89 → tq_iv 0 23 x1_89 → fw [(9, 3), (9, 4), (9, 7)] σ σ_89 → ez_gi σ_89 9 h0 3 = some w0_89 → tz_O (fun z : Unit × ez_H => (fun (z : Unit) (s : ez_H) => tp p s ∧ fw [(9, 3), (9, 4), (9, 7)] σ s) z.1 z.2) (ez_fix (fun _ _ _ => none) (z_X9_readWord_89) ez_N σ_89 h0 x1_89) := by
          intro σ_89 x1_89 w0_89 T_σ_89 i_x1_89 F_σ_89 f0_89
          exact ez_fix_indn (fun n_89 (k_89 : ez_H → Nat → Int32 → Option (Unit × ez_H)) => ∀ (σ_89 : ez_H) (x1_89 : Int32) (w0_89 : Int32), tp p σ_89 → tq_iv 0 23 x1_89 → fw [(9, 3), (9, 4), (9, 7)] σ σ_89 → ez_gi σ_89 9 h0 3 = some w0_89 → (2147483647 - x1_89.toInt).toNat < n_89 → tz_O (fun z : Unit × ez_H => (fun (z : Unit) (s : ez_H) => tp p s ∧ fw [(9, 3), (9, 4), (9, 7)] σ s) z.1 z.2) (k_89 σ_89 h0 x1_89)) (by intros; rename_i h; exact absurd h (Nat.not_lt_zero _)) L_89 ez_N σ_89 x1_89 w0_89 T_σ_89 i_x1_89 F_σ_89 f0_89 (tq_m0 x1_89)
        exact E_89 σ3265 (0 : Int32) w0_5 T3265 (tq_w tk_0 (by decide) (by decide)) (fw_pf F_σ_5 e3265 (by decide)) ((fr_pf_v e3265 (fun h => absurd h.2.2 (by decide))).1.trans f0_5)
      refine tz_if _ (fun c3268 => ?_) (fun c3268 => ?_)
      ·
        have i7_t_71 : tq_iv (-2147483648) 8 t_71 := tq_cut (tq_top t_71) (tq_leL c3268 (tq_top t_71) tk_8) (by decide) (by decide)
        exact K_84 (23 : Int32) (tq_w tk_23 (by decide) (by decide))
      ·
        have i8_t_71 : tq_iv 9 2147483647 t_71 := tq_cut (tq_top t_71) (tq_ltR (tq_nle c3268) tk_8 (tq_top t_71)) (by decide) (by decide)
        exact K_84 (25 : Int32) (tq_w tk_25 (by decide) (by decide))
    refine tz_if _ (fun c3287 => ?_) (fun c3287 => ?_)
    ·
      exact K_62 
    ·
      have i9_t_6 : tq_iv (-2147483648) 2147483646 t_6 := tq_cut (tq_top t_6) (tq_ltL (tq_nle c3287) (tq_top t_6) (tq_top t_10)) (by decide) (by decide)
      have i10_w0_5 : tq_iv (-2147483648) 2147483646 w0_5 := tq_cut (tq_top w0_5) (tq_eqL (Eq.symm a3289) i9_t_6) (by decide) (by decide)
      have i11_t_10 : tq_iv (-2147483647) 2147483647 t_10 := tq_cut (tq_top t_10) (tq_ltR (tq_nle c3287) (tq_top t_6) (tq_top t_10)) (by decide) (by decide)
      refine tz_ba f0_5 (fun t_18 e3286 a3286 => ?_)
      have i12_t_18 : tq_iv (-2147483648) 2147483646 t_18 := tq_eqL a3286 i10_w0_5
      refine tz_bd (tz_X9_byteAt T_σ_5 k_h0) (fun t_21 i_t_21 => ?_)
      refine tz_bd (tz_X9_isLetter T_σ_5 i_t_21) (fun t_24 ⟨i_t_24, g_t_24⟩ => ?_)
      refine tz_if _ (fun c3283 => ?_) (fun c3283 => ?_)
      ·
        have i13_t_24 : tq_iv 0 0 t_24 := tq_cut i_t_24 (tq_eqL c3283 tk_0) (by decide) (by decide)
        exact K_62 
      ·
        have i14_t_21 : tq_iv 97 122 t_21 := tq_cut i_t_21 (g_t_24 c3283) (by decide) (by decide)
        have i15_t_24 : tq_iv 1 1 t_24 := tq_w (tq_neLo c3283 i_t_24 tk_0) (by decide) (by decide)
        refine tz_be (tg_9_7 T_σ_5 k_h0) (fun t_32 e3282 _ => ?_)
        refine tz_ba f0_5 (fun t_37 e3281 a3281 => ?_)
        have i16_t_37 : tq_iv (-2147483648) 2147483646 t_37 := tq_eqL a3281 i10_w0_5
        refine tz_bd (tz_X9_byteAt T_σ_5 k_h0) (fun t_40 i_t_40 => ?_)
        refine tz_bd (tz_X9_withLetter T_σ_5 i_t_40) (fun t_43 _ => ?_)
        refine tz_be (tz_pfl T_σ_5 k_h0 (tf_9_7 (p := p))) (fun σ3278 e3278 T3278 => ?_)
        refine tz_ba ((fr_pf_v e3278 (fun h => absurd h.2.2 (by decide))).1.trans f0_5) (fun t_51 e3277 a3277 => ?_)
        have i17_t_51 : tq_iv (-2147483648) 2147483646 t_51 := tq_eqL a3277 i10_w0_5
        refine tz_let (fun t_55 e3276 => ?_)
        have i18_t_55 : tq_iv (-2147483647) 2147483647 t_55 := tq_w (tq_add e3276 i17_t_51 tk_1 (by decide) (by decide)) (by decide) (by decide)
        refine tz_be (tw_9_3 T3278 k_h0 (tq_top t_55)) (fun σ3275 e3275 T3275 => ?_)
        exact hk_5 σ3275 t_55 T3275 (fw_pf (fw_pf F_σ_5 e3278 (by decide)) e3275 (by decide)) (fr_pf_gi e3275) (tq_up (e3276.trans (by rw [a3277])) i10_w0_5 tk_1 (by decide) (by decide) hn_5)
  have E_5 : ∀ (σ_5 : ez_H) (w0_5 : Int32), tp p σ_5 → fw [(9, 3), (9, 4), (9, 7)] σ σ_5 → ez_gi σ_5 9 h0 3 = some w0_5 → tz_O (fun z : Unit × ez_H => (fun (z : Unit) (s : ez_H) => tp p s ∧ fw [(9, 3), (9, 4), (9, 7)] σ s) z.1 z.2) (ez_fix (fun _ _ => none) (z_X9_readWord_5) ez_N σ_5 h0) := by
    intro σ_5 w0_5 T_σ_5 F_σ_5 f0_5
    exact ez_fix_indn (fun n_5 (k_5 : ez_H → Nat → Option (Unit × ez_H)) => ∀ (σ_5 : ez_H) (w0_5 : Int32), tp p σ_5 → fw [(9, 3), (9, 4), (9, 7)] σ σ_5 → ez_gi σ_5 9 h0 3 = some w0_5 → (2147483647 - w0_5.toInt).toNat < n_5 → tz_O (fun z : Unit × ez_H => (fun (z : Unit) (s : ez_H) => tp p s ∧ fw [(9, 3), (9, 4), (9, 7)] σ s) z.1 z.2) (k_5 σ_5 h0)) (by intros; rename_i h; exact absurd h (Nat.not_lt_zero _)) L_5 ez_N σ_5 w0_5 T_σ_5 F_σ_5 f0_5 (tq_m0 w0_5)
  exact E_5 σ3291 w0 T3291 (fw_pf fw_0 e3291 (by decide)) ((fr_pf_v e3291 (fun h => absurd h.2.2 (by decide))).1.trans e_w0)
set_option maxRecDepth 4000 in
theorem tz_X9_isDigit {p : tz_P} {σ : ez_H} {x0 : Int32} (hT : tp p σ) (i_x0 : tq_iv (-1) 255 x0) : tz_O (fun z => tq_iv 0 1 z ∧ (¬ z = 0 → tq_iv 48 57 x0)) (z_X9_isDigit σ x0) := by
  unfold z_X9_isDigit
  have K_17 : ∀ (y0_17 : Int32), tq_iv 0 1 y0_17 → (¬ y0_17 = 0 → tq_iv 48 57 x0) → tz_O (fun (z : Int32) => tq_iv 0 1 z ∧ (¬ z = 0 → tq_iv 48 57 x0)) (z_X9_isDigit_17 σ y0_17) := by
    intro y0_17 i_y0_17 g17_y0_17_x0
    unfold z_X9_isDigit_17
    refine tz_nr (tq_nr_boolean i_y0_17) ?_
    exact tz_some ⟨i_y0_17, (fun h => tq_w (g17_y0_17_x0 h) (by decide) (by decide))⟩
  have K_16 : tz_O (fun (z : Int32) => tq_iv 0 1 z ∧ (¬ z = 0 → tq_iv 48 57 x0)) (z_X9_isDigit_16 σ) := by
    unfold z_X9_isDigit_16
    exact K_17 (0 : Int32) (tq_w tk_0 (by decide) (by decide)) (fun h => absurd rfl h)
  refine tz_if _ (fun c3300 => ?_) (fun c3300 => ?_)
  ·
    have i1_x0 : tq_iv (-1) 47 x0 := tq_cut i_x0 (tq_ltL c3300 i_x0 tk_48) (by decide) (by decide)
    exact K_16 
  ·
    have i2_x0 : tq_iv 48 255 x0 := tq_cut i_x0 (tq_leR (tq_nlt c3300) tk_48 i_x0) (by decide) (by decide)
    refine tz_if _ (fun c3299 => ?_) (fun c3299 => ?_)
    ·
      have i3_x0 : tq_iv 58 255 x0 := tq_cut i2_x0 (tq_ltR c3299 tk_57 i2_x0) (by decide) (by decide)
      exact K_16 
    ·
      have i4_x0 : tq_iv 48 57 x0 := tq_cut i2_x0 (tq_leL (tq_nlt c3299) i2_x0 tk_57) (by decide) (by decide)
      exact K_17 (1 : Int32) (tq_w tk_1 (by decide) (by decide)) (fun _ => i4_x0)
set_option maxRecDepth 4000 in
theorem tz_X9_readNumber {p : tz_P} {σ : ez_H} {h0 : Nat} (hT : tp p σ) (k_h0 : tz_C h0 = some (3, 9, 0, 0)) : tz_O2 (fun (z : Unit) (s : ez_H) => tp p s ∧ fw [(9, 3), (9, 4), (9, 6)] σ s) (z_X9_readNumber σ h0) := by
  show tz_O (fun z : Unit × ez_H => (fun (z : Unit) (s : ez_H) => tp p s ∧ fw [(9, 3), (9, 4), (9, 6)] σ s) z.1 z.2) _
  unfold z_X9_readNumber
  obtain ⟨w0, e_w0, i_w0⟩ := tg_9_3 hT k_h0
  refine tz_bd (tz_ob hT k_h0) (fun _ _ => ?_)
  refine tz_be (tw_9_6 hT k_h0 (tq_top (0 : Int32))) (fun σ3336 e3336 T3336 => ?_)
  have L_5 : ∀ (n_5 : Nat) (k_5 : ez_H → Nat → Option (Unit × ez_H)), (∀ (σ_5 : ez_H) (w0_5 : Int32), tp p σ_5 → fw [(9, 3), (9, 4), (9, 6)] σ σ_5 → ez_gi σ_5 9 h0 3 = some w0_5 → (2147483647 - w0_5.toInt).toNat < n_5 → tz_O (fun z : Unit × ez_H => (fun (z : Unit) (s : ez_H) => tp p s ∧ fw [(9, 3), (9, 4), (9, 6)] σ s) z.1 z.2) (k_5 σ_5 h0)) → ∀ (σ_5 : ez_H) (w0_5 : Int32), tp p σ_5 → fw [(9, 3), (9, 4), (9, 6)] σ σ_5 → ez_gi σ_5 9 h0 3 = some w0_5 → (2147483647 - w0_5.toInt).toNat < n_5 + 1 → tz_O (fun z : Unit × ez_H => (fun (z : Unit) (s : ez_H) => tp p s ∧ fw [(9, 3), (9, 4), (9, 6)] σ s) z.1 z.2) (z_X9_readNumber_5 k_5 σ_5 h0) := by
    intro n_5 k_5 hk_5 σ_5 w0_5 T_σ_5 F_σ_5 f0_5 hn_5
    unfold z_X9_readNumber_5
    refine tz_ba f0_5 (fun t_6 e3334 a3334 => ?_)
    refine tz_be (tg_9_2 T_σ_5 k_h0) (fun t_10 e3333 i_t_10 => ?_)
    have K_66 : tz_O (fun z : Unit × ez_H => (fun (z : Unit) (s : ez_H) => tp p s ∧ fw [(9, 3), (9, 4), (9, 6)] σ s) z.1 z.2) (z_X9_readNumber_66 σ_5 h0) := by
      unfold z_X9_readNumber_66
      refine tz_ba f0_5 (fun t_68 e3314 a3314 => ?_)
      refine tz_be (tg_9_5 T_σ_5 k_h0) (fun t_72 e3313 i_t_72 => ?_)
      refine tz_let (fun t_75 e3312 => ?_)
      have K_101 : ∀ (y1_101 : Int32), tq_iv 24 25 y1_101 → tz_O (fun z : Unit × ez_H => (fun (z : Unit) (s : ez_H) => tp p s ∧ fw [(9, 3), (9, 4), (9, 6)] σ s) z.1 z.2) (z_X9_readNumber_101 σ_5 h0 y1_101) := by
        intro y1_101 i_y1_101
        unfold z_X9_readNumber_101
        refine tz_be (tw_9_4 T_σ_5 k_h0 (tq_top y1_101)) (fun σ3302 e3302 T3302 => ?_)
        exact tz_some ⟨T3302, (fw_pf F_σ_5 e3302 (by decide))⟩
      have K_94 : tz_O (fun z : Unit × ez_H => (fun (z : Unit) (s : ez_H) => tp p s ∧ fw [(9, 3), (9, 4), (9, 6)] σ s) z.1 z.2) (z_X9_readNumber_94 σ_5 h0) := by
        unfold z_X9_readNumber_94
        exact K_101 (25 : Int32) (tq_w tk_25 (by decide) (by decide))
      refine tz_if _ (fun c3311 => ?_) (fun c3311 => ?_)
      ·
        have i1_t_75 : tq_iv 5 2147483647 t_75 := tq_cut (tq_top t_75) (tq_ltR c3311 tk_4 (tq_top t_75)) (by decide) (by decide)
        exact K_94 
      ·
        have i2_t_75 : tq_iv (-2147483648) 4 t_75 := tq_cut (tq_top t_75) (tq_leL (tq_nlt c3311) (tq_top t_75) tk_4) (by decide) (by decide)
        refine tz_ba f0_5 (fun t_82 e3310 a3310 => ?_)
        refine tz_bd (tz_X9_byteAt T_σ_5 k_h0) (fun t_85 i_t_85 => ?_)
        refine tz_bd (tz_X9_isLetter T_σ_5 i_t_85) (fun t_88 ⟨i_t_88, g_t_88⟩ => ?_)
        refine tz_if _ (fun c3307 => ?_) (fun c3307 => ?_)
        ·
          have i3_t_88 : tq_iv 0 0 t_88 := tq_cut i_t_88 (tq_eqL c3307 tk_0) (by decide) (by decide)
          exact K_101 (24 : Int32) (tq_w tk_24 (by decide) (by decide))
        ·
          have i4_t_85 : tq_iv 97 122 t_85 := tq_cut i_t_85 (g_t_88 c3307) (by decide) (by decide)
          have i5_t_88 : tq_iv 1 1 t_88 := tq_w (tq_neLo c3307 i_t_88 tk_0) (by decide) (by decide)
          exact K_94 
    refine tz_if _ (fun c3332 => ?_) (fun c3332 => ?_)
    ·
      exact K_66 
    ·
      have i6_t_6 : tq_iv (-2147483648) 2147483646 t_6 := tq_cut (tq_top t_6) (tq_ltL (tq_nle c3332) (tq_top t_6) (tq_top t_10)) (by decide) (by decide)
      have i7_w0_5 : tq_iv (-2147483648) 2147483646 w0_5 := tq_cut (tq_top w0_5) (tq_eqL (Eq.symm a3334) i6_t_6) (by decide) (by decide)
      have i8_t_10 : tq_iv (-2147483647) 2147483647 t_10 := tq_cut (tq_top t_10) (tq_ltR (tq_nle c3332) (tq_top t_6) (tq_top t_10)) (by decide) (by decide)
      refine tz_ba f0_5 (fun t_18 e3331 a3331 => ?_)
      have i9_t_18 : tq_iv (-2147483648) 2147483646 t_18 := tq_eqL a3331 i7_w0_5
      refine tz_bd (tz_X9_byteAt T_σ_5 k_h0) (fun t_21 i_t_21 => ?_)
      refine tz_bd (tz_X9_isDigit T_σ_5 i_t_21) (fun t_24 ⟨i_t_24, g_t_24⟩ => ?_)
      refine tz_if _ (fun c3328 => ?_) (fun c3328 => ?_)
      ·
        have i10_t_24 : tq_iv 0 0 t_24 := tq_cut i_t_24 (tq_eqL c3328 tk_0) (by decide) (by decide)
        exact K_66 
      ·
        have i11_t_21 : tq_iv 48 57 t_21 := tq_cut i_t_21 (g_t_24 c3328) (by decide) (by decide)
        have i12_t_24 : tq_iv 1 1 t_24 := tq_w (tq_neLo c3328 i_t_24 tk_0) (by decide) (by decide)
        refine tz_be (tg_9_6 T_σ_5 k_h0) (fun t_32 e3327 i_t_32 => ?_)
        refine tz_let (fun t_37 e3326 => ?_)
        refine tz_ba f0_5 (fun t_40 e3325 a3325 => ?_)
        have i13_t_40 : tq_iv (-2147483648) 2147483646 t_40 := tq_eqL a3325 i7_w0_5
        refine tz_bd (tz_X9_byteAt T_σ_5 k_h0) (fun t_43 i_t_43 => ?_)
        refine tz_let (fun t_48 e3323 => ?_)
        have i14_t_48 : tq_iv (-49) 207 t_48 := tq_w (tq_sub e3323 i_t_43 tk_48 (by decide) (by decide)) (by decide) (by decide)
        refine tz_let (fun t_49 e3322 => ?_)
        refine tz_be (tw_9_6 T_σ_5 k_h0 (tq_top t_49)) (fun σ3321 e3321 T3321 => ?_)
        refine tz_ba ((fr_pf_v e3321 (fun h => absurd h.2.2 (by decide))).1.trans f0_5) (fun t_55 e3320 a3320 => ?_)
        have i15_t_55 : tq_iv (-2147483648) 2147483646 t_55 := tq_eqL a3320 i7_w0_5
        refine tz_let (fun t_59 e3319 => ?_)
        have i16_t_59 : tq_iv (-2147483647) 2147483647 t_59 := tq_w (tq_add e3319 i15_t_55 tk_1 (by decide) (by decide)) (by decide) (by decide)
        refine tz_be (tw_9_3 T3321 k_h0 (tq_top t_59)) (fun σ3318 e3318 T3318 => ?_)
        exact hk_5 σ3318 t_59 T3318 (fw_pf (fw_pf F_σ_5 e3321 (by decide)) e3318 (by decide)) (fr_pf_gi e3318) (tq_up (e3319.trans (by rw [a3320])) i7_w0_5 tk_1 (by decide) (by decide) hn_5)
  have E_5 : ∀ (σ_5 : ez_H) (w0_5 : Int32), tp p σ_5 → fw [(9, 3), (9, 4), (9, 6)] σ σ_5 → ez_gi σ_5 9 h0 3 = some w0_5 → tz_O (fun z : Unit × ez_H => (fun (z : Unit) (s : ez_H) => tp p s ∧ fw [(9, 3), (9, 4), (9, 6)] σ s) z.1 z.2) (ez_fix (fun _ _ => none) (z_X9_readNumber_5) ez_N σ_5 h0) := by
    intro σ_5 w0_5 T_σ_5 F_σ_5 f0_5
    exact ez_fix_indn (fun n_5 (k_5 : ez_H → Nat → Option (Unit × ez_H)) => ∀ (σ_5 : ez_H) (w0_5 : Int32), tp p σ_5 → fw [(9, 3), (9, 4), (9, 6)] σ σ_5 → ez_gi σ_5 9 h0 3 = some w0_5 → (2147483647 - w0_5.toInt).toNat < n_5 → tz_O (fun z : Unit × ez_H => (fun (z : Unit) (s : ez_H) => tp p s ∧ fw [(9, 3), (9, 4), (9, 6)] σ s) z.1 z.2) (k_5 σ_5 h0)) (by intros; rename_i h; exact absurd h (Nat.not_lt_zero _)) L_5 ez_N σ_5 w0_5 T_σ_5 F_σ_5 f0_5 (tq_m0 w0_5)
  exact E_5 σ3336 w0 T3336 (fw_pf fw_0 e3336 (by decide)) ((fr_pf_v e3336 (fun h => absurd h.2.2 (by decide))).1.trans e_w0)
set_option maxRecDepth 4000 in
theorem tz_J0_isLatin1_aae02_s1 {p : tz_P} {σ : ez_H} (hT : tp p σ) : tz_O (fun z => tq_iv 1 1 z) (z_J0_isLatin1_aae02_s1 σ) := by
  unfold z_J0_isLatin1_aae02_s1
  have K_18 : tz_O (fun (z : Int32) => tq_iv 1 1 z) (z_J0_isLatin1_aae02_s1_18 σ (1 : Int32)) := by
    unfold z_J0_isLatin1_aae02_s1_18
    refine tz_nr (tq_nr_boolean (tq_w tk_1 (by decide) (by decide))) ?_
    exact tz_some tk_1
  exact K_18
set_option maxRecDepth 4000 in
theorem tz_J0_coder_7d493_s1 {p : tz_P} {σ : ez_H} (hT : tp p σ) : tz_O (fun z => tq_iv 0 0 z) (z_J0_coder_7d493_s1 σ) := by
  unfold z_J0_coder_7d493_s1
  have K_14 : tz_O (fun (z : Int32) => tq_iv 0 0 z) (z_J0_coder_7d493_s1_14 σ (0 : Int32)) := by
    unfold z_J0_coder_7d493_s1_14
    refine tz_nr (tq_nr_byte (tq_w tk_0 (by decide) (by decide))) ?_
    exact tz_some tk_0
  exact K_14
set_option maxRecDepth 4000 in
theorem tz_J0_length_8abf5_s1 {p : tz_P} {σ : ez_H} (hT : tp p σ) : tz_O (fun z => tq_iv 0 11 z) (z_J0_length_8abf5_s1 σ) := by
  unfold z_J0_length_8abf5_s1
  refine tz_bd (tz_J0_coder_7d493_s1 hT) (fun t_6 i_t_6 => ?_)
  refine tz_let (fun t_9 e3345 => ?_)
  have i1_t_9 : tq_iv 0 11 t_9 := tq_shr e3345 tk_11 (by decide)
  exact tz_some i1_t_9
set_option maxRecDepth 4000 in
theorem tz_J1_canEncode_9a6ad {p : tz_P} {σ : ez_H} {x0 : Int32} (hT : tp p σ) (i_x0 : tq_iv 0 65535 x0) : tz_O (fun z => tq_iv 0 1 z ∧ (¬ z = 0 → tq_iv 0 255 x0)) (z_J1_canEncode_9a6ad σ x0) := by
  unfold z_J1_canEncode_9a6ad
  have K_16 : ∀ (y0_16 : Int32), tq_iv 0 1 y0_16 → (¬ y0_16 = 0 → tq_iv 0 255 x0) → tz_O (fun (z : Int32) => tq_iv 0 1 z ∧ (¬ z = 0 → tq_iv 0 255 x0)) (z_J1_canEncode_9a6ad_16 σ y0_16) := by
    intro y0_16 i_y0_16 g16_y0_16_x0
    unfold z_J1_canEncode_9a6ad_16
    refine tz_nr (tq_nr_boolean i_y0_16) ?_
    exact tz_some ⟨i_y0_16, (fun h => tq_w (g16_y0_16_x0 h) (by decide) (by decide))⟩
  have K_15 : tq_iv 256 65535 x0 → tz_O (fun (z : Int32) => tq_iv 0 1 z ∧ (¬ z = 0 → tq_iv 0 255 x0)) (z_J1_canEncode_9a6ad_15 σ) := by
    intro j15_x0
    unfold z_J1_canEncode_9a6ad_15
    exact K_16 (0 : Int32) (tq_w tk_0 (by decide) (by decide)) (fun h => absurd rfl h)
  refine tz_if _ (fun c3354 => ?_) (fun c3354 => ?_)
  ·
    exact (tq_xlt c3354 i_x0 tk_0 (by decide)).elim
  ·
    refine tz_if _ (fun c3353 => ?_) (fun c3353 => ?_)
    ·
      have i1_x0 : tq_iv 256 65535 x0 := tq_cut i_x0 (tq_ltR c3353 tk_255 i_x0) (by decide) (by decide)
      exact K_15 i1_x0
    ·
      have i2_x0 : tq_iv 0 255 x0 := tq_cut i_x0 (tq_leL (tq_nlt c3353) i_x0 tk_255) (by decide) (by decide)
      exact K_16 (1 : Int32) (tq_w tk_1 (by decide) (by decide)) (fun _ => i2_x0)
set_option maxRecDepth 4000 in
theorem tz_J1_indexOfChar_4cfef_v1 {p : tz_P} {σ : ez_H} {x1 : Int32} {x2 : Int32} {x3 : Int32} (hT : tp p σ) (i_x1 : tq_iv 0 255 x1) (i_x2 : tq_iv 0 0 x2) (i_x3 : tq_iv 1 11 x3) : tz_O (fun z => tq_iv (-1) 10 z) (z_J1_indexOfChar_4cfef_v1 σ x1 x2 x3) := by
  unfold z_J1_indexOfChar_4cfef_v1
  refine tz_let (fun t_1 e3363 => ?_)
  have L_7 : ∀ (n_7 : Nat) (k_7 : Int32 → Int32 → Int32 → Option (Int32)), (∀ (x5_7 : Int32), tq_iv 0 11 x5_7 → (2147483647 - x5_7.toInt).toNat < n_7 → tz_O (fun (z : Int32) => tq_iv (-1) 10 z) (k_7 x3 t_1 x5_7)) → ∀ (x5_7 : Int32), tq_iv 0 11 x5_7 → (2147483647 - x5_7.toInt).toNat < n_7 + 1 → tz_O (fun (z : Int32) => tq_iv (-1) 10 z) (z_J1_indexOfChar_4cfef_v1_7 σ k_7 x3 t_1 x5_7) := by
    intro n_7 k_7 hk_7 x5_7 i_x5_7 hn_7
    unfold z_J1_indexOfChar_4cfef_v1_7
    refine tz_if _ (fun c3361 => ?_) (fun c3361 => ?_)
    ·
      have i1_x5_7 : tq_iv 1 11 x5_7 := tq_cut i_x5_7 (tq_leR c3361 i_x3 i_x5_7) (by decide) (by decide)
      exact tz_some (tq_w tk_m1 (by decide) (by decide))
    ·
      have i2_x5_7 : tq_iv 0 10 x5_7 := tq_cut i_x5_7 (tq_ltL (tq_nle c3361) i_x5_7 i_x3) (by decide) (by decide)
      refine tz_be (tz_tx1 i2_x5_7 (by decide) (by decide)) (fun t_16 e3360 _ => ?_)
      refine tz_if _ (fun c3359 => ?_) (fun c3359 => ?_)
      ·
        exact tz_some (tq_w i2_x5_7 (by decide) (by decide))
      ·
        refine tz_let (fun t_25 e3358 => ?_)
        have i3_t_25 : tq_iv 1 11 t_25 := tq_w (tq_add e3358 i2_x5_7 tk_1 (by decide) (by decide)) (by decide) (by decide)
        exact hk_7 t_25 (tq_w i3_t_25 (by decide) (by decide)) (tq_up e3358 i2_x5_7 tk_1 (by decide) (by decide) hn_7)
  have E_7 : ∀ (x5_7 : Int32), tq_iv 0 11 x5_7 → tz_O (fun (z : Int32) => tq_iv (-1) 10 z) (ez_fix (fun _ _ _ => none) (z_J1_indexOfChar_4cfef_v1_7 σ) ez_N x3 t_1 x5_7) := by
    intro x5_7 i_x5_7
    exact ez_fix_indn (fun n_7 (k_7 : Int32 → Int32 → Int32 → Option (Int32)) => ∀ (x5_7 : Int32), tq_iv 0 11 x5_7 → (2147483647 - x5_7.toInt).toNat < n_7 → tz_O (fun (z : Int32) => tq_iv (-1) 10 z) (k_7 x3 t_1 x5_7)) (by intros; rename_i h; exact absurd h (Nat.not_lt_zero _)) L_7 ez_N x5_7 i_x5_7 (tq_m0 x5_7)
  exact E_7 x2 (tq_w i_x2 (by decide) (by decide))
set_option maxRecDepth 4000 in
theorem tz_J1_indexOf_4cfef_v1 {p : tz_P} {σ : ez_H} {x1 : Int32} {x2 : Int32} {x3 : Int32} (hT : tp p σ) (i_x1 : tq_iv 0 65535 x1) (i_x2 : tq_iv 0 0 x2) (i_x3 : tq_iv 0 11 x3) : tz_O (fun z => tq_iv (-1) 10 z) (z_J1_indexOf_4cfef_v1 σ x1 x2 x3) := by
  unfold z_J1_indexOf_4cfef_v1
  refine tz_bd (tz_J1_canEncode_9a6ad hT i_x1) (fun t_1 ⟨i_t_1, g_t_1⟩ => ?_)
  refine tz_if _ (fun c3371 => ?_) (fun c3371 => ?_)
  ·
    have i1_t_1 : tq_iv 0 0 t_1 := tq_cut i_t_1 (tq_eqL c3371 tk_0) (by decide) (by decide)
    exact tz_some (tq_w tk_m1 (by decide) (by decide))
  ·
    have i2_x1 : tq_iv 0 255 x1 := tq_cut i_x1 (g_t_1 c3371) (by decide) (by decide)
    have i3_t_1 : tq_iv 1 1 t_1 := tq_w (tq_neLo c3371 i_t_1 tk_0) (by decide) (by decide)
    refine tz_let (fun t_11 e3370 => ?_)
    have i4_t_11 : tq_iv 0 0 t_11 := tq_w (tq_max e3370 i_x2 tk_0) (by decide) (by decide)
    refine tz_let (fun t_18 e3369 => ?_)
    have i5_t_18 : tq_iv 0 11 t_18 := tq_w (tq_min e3369 i_x3 tk_11) (by decide) (by decide)
    refine tz_if _ (fun c3368 => ?_) (fun c3368 => ?_)
    ·
      have i6_t_18 : tq_iv 1 11 t_18 := tq_cut i5_t_18 (tq_ltR c3368 i4_t_11 i5_t_18) (by decide) (by decide)
      refine tz_bd (tz_J1_indexOfChar_4cfef_v1 hT i2_x1 i4_t_11 i6_t_18) (fun t_33 i_t_33 => ?_)
      exact tz_some i_t_33
    ·
      have i7_t_18 : tq_iv 0 0 t_18 := tq_cut i5_t_18 (tq_leL (tq_nlt c3368) i5_t_18 i4_t_11) (by decide) (by decide)
      exact tz_some (tq_w tk_m1 (by decide) (by decide))
set_option maxRecDepth 4000 in
theorem tz_J0_indexOf_7cf53_s1 {p : tz_P} {σ : ez_H} {x1 : Int32} {x2 : Int32} (hT : tp p σ) (i_x1 : tq_iv 0 65535 x1) (i_x2 : tq_iv 0 0 x2) : tz_O (fun z => tq_iv (-1) 10 z) (z_J0_indexOf_7cf53_s1 σ x1 x2) := by
  unfold z_J0_indexOf_7cf53_s1
  refine tz_bd (tz_J0_isLatin1_aae02_s1 hT) (fun t_1 i_t_1 => ?_)
  refine tz_if _ (fun c3379 => ?_) (fun c3379 => ?_)
  ·
    exact (tq_xeq c3379 i_t_1 tk_0 (by decide)).elim
  ·
    refine tz_bd (tz_J0_length_8abf5_s1 hT) (fun t_14 i_t_14 => ?_)
    refine tz_bd (tz_J1_indexOf_4cfef_v1 hT i_x1 i_x2 i_t_14) (fun t_17 i_t_17 => ?_)
    have K_36 : tz_O (fun (z : Int32) => tq_iv (-1) 10 z) (z_J0_indexOf_7cf53_s1_36 σ t_17) := by
      unfold z_J0_indexOf_7cf53_s1_36
      exact tz_some i_t_17
    exact K_36
set_option maxRecDepth 4000 in
theorem tz_J0_indexOf_0f7a4_s1 {p : tz_P} {σ : ez_H} {x1 : Int32} (hT : tp p σ) (i_x1 : tq_iv 0 65535 x1) : tz_O (fun z => tq_iv (-1) 10 z) (z_J0_indexOf_0f7a4_s1 σ x1) := by
  unfold z_J0_indexOf_0f7a4_s1
  refine tz_bd (tz_J0_indexOf_7cf53_s1 hT i_x1 tk_0) (fun t_3 i_t_3 => ?_)
  exact tz_some i_t_3
set_option maxRecDepth 4000 in
theorem tz_X9_advance {p : tz_P} {σ : ez_H} {h0 : Nat} (hT : tp p σ) (k_h0 : tz_C h0 = some (3, 9, 0, 0)) : tz_O2 (fun (z : Unit) (s : ez_H) => tp p s ∧ fw [(9, 3), (9, 4), (9, 5), (9, 6), (9, 7)] σ s) (z_X9_advance σ h0) := by
  show tz_O (fun z : Unit × ez_H => (fun (z : Unit) (s : ez_H) => tp p s ∧ fw [(9, 3), (9, 4), (9, 5), (9, 6), (9, 7)] σ s) z.1 z.2) _
  unfold z_X9_advance
  obtain ⟨w0, e_w0, i_w0⟩ := tg_9_3 hT k_h0
  refine tz_bd (tz_ob hT k_h0) (fun _ _ => ?_)
  have L_0 : ∀ (n_0 : Nat) (k_0 : ez_H → Nat → Option (Unit × ez_H)), (∀ (σ_0 : ez_H) (w0_0 : Int32), tp p σ_0 → fw [(9, 3), (9, 4), (9, 5), (9, 6), (9, 7)] σ σ_0 → ez_gi σ_0 9 h0 3 = some w0_0 → (2147483647 - w0_0.toInt).toNat < n_0 → tz_O (fun z : Unit × ez_H => (fun (z : Unit) (s : ez_H) => tp p s ∧ fw [(9, 3), (9, 4), (9, 5), (9, 6), (9, 7)] σ s) z.1 z.2) (k_0 σ_0 h0)) → ∀ (σ_0 : ez_H) (w0_0 : Int32), tp p σ_0 → fw [(9, 3), (9, 4), (9, 5), (9, 6), (9, 7)] σ σ_0 → ez_gi σ_0 9 h0 3 = some w0_0 → (2147483647 - w0_0.toInt).toNat < n_0 + 1 → tz_O (fun z : Unit × ez_H => (fun (z : Unit) (s : ez_H) => tp p s ∧ fw [(9, 3), (9, 4), (9, 5), (9, 6), (9, 7)] σ s) z.1 z.2) (z_X9_advance_0 k_0 σ_0 h0) := by
    intro n_0 k_0 hk_0 σ_0 w0_0 T_σ_0 F_σ_0 f0_0 hn_0
    unfold z_X9_advance_0
    refine tz_ba f0_0 (fun t_1 e3430 a3430 => ?_)
    refine tz_be (tg_9_2 T_σ_0 k_h0) (fun t_5 e3429 i_t_5 => ?_)
    have K_50 : tz_O (fun z : Unit × ez_H => (fun (z : Unit) (s : ez_H) => tp p s ∧ fw [(9, 3), (9, 4), (9, 5), (9, 6), (9, 7)] σ s) z.1 z.2) (z_X9_advance_50 σ_0 h0) := by
      unfold z_X9_advance_50
      refine tz_ba f0_0 (fun t_52 e3413 a3413 => ?_)
      refine tz_be (tw_9_5 T_σ_0 k_h0 (tq_top t_52)) (fun σ3412 e3412 T3412 => ?_)
      refine tz_ba ((fr_pf_v e3412 (fun h => absurd h.2.2 (by decide))).1.trans f0_0) (fun t_60 e3411 a3411 => ?_)
      refine tz_bd (tz_X9_byteAt T3412 k_h0) (fun t_63 i_t_63 => ?_)
      refine tz_ba ((fr_pf_v e3412 (fun h => absurd h.2.2 (by decide))).1.trans f0_0) (fun t_68 e3409 a3409 => ?_)
      refine tz_ba ((fr_pf_v e3412 (fun h => absurd h.2.2 (by decide))).1.trans e3429) (fun t_72 e3408 a3408 => ?_)
      have K_152 : ∀ (σ_152 : ez_H), tp p σ_152 → fw [(9, 3), (9, 4), (9, 5), (9, 6), (9, 7)] σ σ_152 → tz_O (fun z : Unit × ez_H => (fun (z : Unit) (s : ez_H) => tp p s ∧ fw [(9, 3), (9, 4), (9, 5), (9, 6), (9, 7)] σ s) z.1 z.2) (z_X9_advance_152 σ_152) := by
        intro σ_152 T_σ_152 F_σ_152
        unfold z_X9_advance_152
        exact tz_some ⟨T_σ_152, F_σ_152⟩
      refine tz_if _ (fun c3407 => ?_) (fun c3407 => ?_)
      ·
        have i1_t_68 : tq_iv (-2147483648) 2147483646 t_68 := tq_cut (tq_top t_68) (tq_ltL c3407 (tq_top t_68) (tq_top t_72)) (by decide) (by decide)
        have i2_w0_0 : tq_iv (-2147483648) 2147483646 w0_0 := tq_cut (tq_top w0_0) (tq_eqL (Eq.symm a3409) i1_t_68) (by decide) (by decide)
        have i3_t_72 : tq_iv (-2147483647) 2147483647 t_72 := tq_cut (tq_top t_72) (tq_ltR c3407 (tq_top t_68) (tq_top t_72)) (by decide) (by decide)
        have i4_t_5 : tq_iv (-2147483647) 2147483647 t_5 := tq_cut (tq_top t_5) (tq_eqL (Eq.symm a3408) i3_t_72) (by decide) (by decide)
        refine tz_bd (tz_X9_isLetter T3412 i_t_63) (fun t_88 ⟨i_t_88, g_t_88⟩ => ?_)
        refine tz_if _ (fun c3403 => ?_) (fun c3403 => ?_)
        ·
          have i5_t_88 : tq_iv 0 0 t_88 := tq_cut i_t_88 (tq_eqL c3403 tk_0) (by decide) (by decide)
          refine tz_bd (tz_X9_isDigit T3412 i_t_63) (fun t_102 ⟨i_t_102, g_t_102⟩ => ?_)
          refine tz_if _ (fun c3399 => ?_) (fun c3399 => ?_)
          ·
            have i6_t_102 : tq_iv 0 0 t_102 := tq_cut i_t_102 (tq_eqL c3399 tk_0) (by decide) (by decide)
            have K_139 : ∀ (y1_139 : Int32), tq_iv (-1) 127 y1_139 → tz_O (fun z : Unit × ez_H => (fun (z : Unit) (s : ez_H) => tp p s ∧ fw [(9, 3), (9, 4), (9, 5), (9, 6), (9, 7)] σ s) z.1 z.2) (z_X9_advance_139 σ3412 h0 h0 y1_139) := by
              intro y1_139 i_y1_139
              unfold z_X9_advance_139
              refine tz_be (tw_9_4 T3412 k_h0 (tq_top y1_139)) (fun σ3388 e3388 T3388 => ?_)
              refine tz_ba ((fr_pf_v e3388 (fun h => absurd h.2.2 (by decide))).1.trans ((fr_pf_v e3412 (fun h => absurd h.2.2 (by decide))).1.trans f0_0)) (fun t_144 e3387 a3387 => ?_)
              have i7_t_144 : tq_iv (-2147483648) 2147483646 t_144 := tq_eqL a3387 i2_w0_0
              refine tz_let (fun t_148 e3386 => ?_)
              have i8_t_148 : tq_iv (-2147483647) 2147483647 t_148 := tq_w (tq_add e3386 i7_t_144 tk_1 (by decide) (by decide)) (by decide) (by decide)
              refine tz_be (tw_9_3 T3388 k_h0 (tq_top t_148)) (fun σ3385 e3385 T3385 => ?_)
              exact K_152 σ3385 T3385 (fw_pf (fw_pf (fw_pf F_σ_0 e3412 (by decide)) e3388 (by decide)) e3385 (by decide))
            have K_137 : tz_O (fun z : Unit × ez_H => (fun (z : Unit) (s : ez_H) => tp p s ∧ fw [(9, 3), (9, 4), (9, 5), (9, 6), (9, 7)] σ s) z.1 z.2) (z_X9_advance_137 σ3412 h0 h0) := by
              unfold z_X9_advance_137
              exact K_139 (25 : Int32) (tq_w tk_25 (by decide) (by decide))
            refine tz_if _ (fun c3396 => ?_) (fun c3396 => ?_)
            ·
              have i9_t_63 : tq_iv 128 255 t_63 := tq_cut i_t_63 (tq_leR c3396 tk_128 i_t_63) (by decide) (by decide)
              exact K_137 
            ·
              have i10_t_63 : tq_iv (-1) 127 t_63 := tq_cut i_t_63 (tq_ltL (tq_nle c3396) i_t_63 tk_128) (by decide) (by decide)
              refine tz_let (fun t_126 e3395 => ?_)
              have i11_t_126 : tq_iv 0 65535 t_126 := tq_chr0 e3395
              refine tz_bd (tz_J0_indexOf_0f7a4_s1 T3412 i11_t_126) (fun t_127 i_t_127 => ?_)
              refine tz_if _ (fun c3393 => ?_) (fun c3393 => ?_)
              ·
                have i12_t_127 : tq_iv (-1) (-1) t_127 := tq_cut i_t_127 (tq_ltL c3393 i_t_127 tk_0) (by decide) (by decide)
                exact K_137 
              ·
                have i13_t_127 : tq_iv 0 10 t_127 := tq_cut i_t_127 (tq_leR (tq_nlt c3393) tk_0 i_t_127) (by decide) (by decide)
                exact K_139 t_63 i10_t_63
          ·
            have i14_t_63 : tq_iv 48 57 t_63 := tq_cut i_t_63 (g_t_102 c3399) (by decide) (by decide)
            have i15_t_102 : tq_iv 1 1 t_102 := tq_w (tq_neLo c3399 i_t_102 tk_0) (by decide) (by decide)
            refine tz_b2 (tz_X9_readNumber T3412 k_h0) (fun _ σ3398 ⟨T3398, W3398⟩ => ?_)
            exact K_152 σ3398 T3398 (fw_call (fw_pf F_σ_0 e3412 (by decide)) W3398 (by decide))
        ·
          have i16_t_63 : tq_iv 97 122 t_63 := tq_cut i_t_63 (g_t_88 c3403) (by decide) (by decide)
          have i17_t_88 : tq_iv 1 1 t_88 := tq_w (tq_neLo c3403 i_t_88 tk_0) (by decide) (by decide)
          refine tz_b2 (tz_X9_readWord T3412 k_h0) (fun _ σ3402 ⟨T3402, W3402⟩ => ?_)
          exact K_152 σ3402 T3402 (fw_call (fw_pf F_σ_0 e3412 (by decide)) W3402 (by decide))
      ·
        refine tz_be (tw_9_4 T3412 k_h0 (tq_top (26 : Int32))) (fun σ3406 e3406 T3406 => ?_)
        exact K_152 σ3406 T3406 (fw_pf (fw_pf F_σ_0 e3412 (by decide)) e3406 (by decide))
    refine tz_if _ (fun c3428 => ?_) (fun c3428 => ?_)
    ·
      exact K_50 
    ·
      have i18_t_1 : tq_iv (-2147483648) 2147483646 t_1 := tq_cut (tq_top t_1) (tq_ltL (tq_nle c3428) (tq_top t_1) (tq_top t_5)) (by decide) (by decide)
      have i19_w0_0 : tq_iv (-2147483648) 2147483646 w0_0 := tq_cut (tq_top w0_0) (tq_eqL (Eq.symm a3430) i18_t_1) (by decide) (by decide)
      have i20_t_5 : tq_iv (-2147483647) 2147483647 t_5 := tq_cut (tq_top t_5) (tq_ltR (tq_nle c3428) (tq_top t_1) (tq_top t_5)) (by decide) (by decide)
      refine tz_ba f0_0 (fun t_13 e3427 a3427 => ?_)
      have i21_t_13 : tq_iv (-2147483648) 2147483646 t_13 := tq_eqL a3427 i19_w0_0
      refine tz_bd (tz_X9_byteAt T_σ_0 k_h0) (fun t_16 i_t_16 => ?_)
      have K_37 : tz_O (fun z : Unit × ez_H => (fun (z : Unit) (s : ez_H) => tp p s ∧ fw [(9, 3), (9, 4), (9, 5), (9, 6), (9, 7)] σ s) z.1 z.2) (z_X9_advance_37 k_0 σ_0 h0) := by
        unfold z_X9_advance_37
        refine tz_ba f0_0 (fun t_39 e3417 a3417 => ?_)
        have i22_t_39 : tq_iv (-2147483648) 2147483646 t_39 := tq_eqL a3417 i19_w0_0
        refine tz_let (fun t_43 e3416 => ?_)
        have i23_t_43 : tq_iv (-2147483647) 2147483647 t_43 := tq_w (tq_add e3416 i22_t_39 tk_1 (by decide) (by decide)) (by decide) (by decide)
        refine tz_be (tw_9_3 T_σ_0 k_h0 (tq_top t_43)) (fun σ3415 e3415 T3415 => ?_)
        exact hk_0 σ3415 t_43 T3415 (fw_pf F_σ_0 e3415 (by decide)) (fr_pf_gi e3415) (tq_up (e3416.trans (by rw [a3417])) i19_w0_0 tk_1 (by decide) (by decide) hn_0)
      refine tz_if _ (fun c3425 => ?_) (fun c3425 => ?_)
      ·
        have i24_t_16 : tq_iv 32 32 t_16 := tq_cut i_t_16 (tq_eqL c3425 tk_32) (by decide) (by decide)
        exact K_37 
      ·
        refine tz_ba f0_0 (fun t_26 e3424 a3424 => ?_)
        have i25_t_26 : tq_iv (-2147483648) 2147483646 t_26 := tq_eqL a3424 i19_w0_0
        refine tz_bd (tz_X9_byteAt T_σ_0 k_h0) (fun t_29 i_t_29 => ?_)
        refine tz_if _ (fun c3422 => ?_) (fun c3422 => ?_)
        ·
          have i26_t_29 : tq_iv 10 10 t_29 := tq_cut i_t_29 (tq_eqL c3422 tk_10) (by decide) (by decide)
          exact K_37 
        ·
          exact K_50 
  have E_0 : ∀ (σ_0 : ez_H) (w0_0 : Int32), tp p σ_0 → fw [(9, 3), (9, 4), (9, 5), (9, 6), (9, 7)] σ σ_0 → ez_gi σ_0 9 h0 3 = some w0_0 → tz_O (fun z : Unit × ez_H => (fun (z : Unit) (s : ez_H) => tp p s ∧ fw [(9, 3), (9, 4), (9, 5), (9, 6), (9, 7)] σ s) z.1 z.2) (ez_fix (fun _ _ => none) (z_X9_advance_0) ez_N σ_0 h0) := by
    intro σ_0 w0_0 T_σ_0 F_σ_0 f0_0
    exact ez_fix_indn (fun n_0 (k_0 : ez_H → Nat → Option (Unit × ez_H)) => ∀ (σ_0 : ez_H) (w0_0 : Int32), tp p σ_0 → fw [(9, 3), (9, 4), (9, 5), (9, 6), (9, 7)] σ σ_0 → ez_gi σ_0 9 h0 3 = some w0_0 → (2147483647 - w0_0.toInt).toNat < n_0 → tz_O (fun z : Unit × ez_H => (fun (z : Unit) (s : ez_H) => tp p s ∧ fw [(9, 3), (9, 4), (9, 5), (9, 6), (9, 7)] σ s) z.1 z.2) (k_0 σ_0 h0)) (by intros; rename_i h; exact absurd h (Nat.not_lt_zero _)) L_0 ez_N σ_0 w0_0 T_σ_0 F_σ_0 f0_0 (tq_m0 w0_0)
  exact E_0 σ w0 hT fw_0 e_w0
set_option maxRecDepth 4000 in
theorem tz_X9_begin {p : tz_P} {σ : ez_H} {h0 : Nat} {x1 : Int32} (hT : tp p σ) (k_h0 : tz_C h0 = some (3, 9, 0, 0)) : tz_O2 (fun (z : Unit) (s : ez_H) => tp p s) (z_X9_begin σ h0 x1) := by
  show tz_O (fun z : Unit × ez_H => (fun (z : Unit) (s : ez_H) => tp p s) z.1 z.2) _
  unfold z_X9_begin
  refine tz_bd (tz_ob hT k_h0) (fun _ _ => ?_)
  refine tz_be (tg_9_0 hT k_h0) (fun t_3 e3439 k_t_3 => ?_)
  refine tz_be (tz_ln hT k_t_3) (fun t_6 e3438 i_t_6 => ?_)
  refine tz_let (fun t_7 e3437 => ?_)
  have i1_t_7 : tq_iv (-2147483648) 1600 t_7 := tq_w (tq_min e3437 (tq_top x1) i_t_6) (by decide) (by decide)
  refine tz_be (tw_9_2 hT k_h0 (tq_top t_7)) (fun σ3436 e3436 T3436 => ?_)
  refine tz_be (tw_9_3 T3436 k_h0 (tq_top (0 : Int32))) (fun σ3435 e3435 T3435 => ?_)
  refine tz_b2 (tz_X9_advance T3435 k_h0) (fun _ σ3434 ⟨T3434, W3434⟩ => ?_)
  exact tz_some T3434
set_option maxRecDepth 4000 in
theorem tz_X4_blame {p : tz_P} {σ : ez_H} {h0 : Nat} {x1 : Int32} (hT : tp p σ) (k_h0 : tz_C h0 = some (3, 4, 0, 0)) (i_x1 : tq_iv 1 5 x1) : tz_O2 (fun (z : Int32) (s : ez_H) => tq_iv 0 0 z ∧ tp p s ∧ fw [(4, 1), (4, 2)] σ s) (z_X4_blame σ h0 x1) := by
  show tz_O (fun z : Int32 × ez_H => (fun (z : Int32) (s : ez_H) => tq_iv 0 0 z ∧ tp p s ∧ fw [(4, 1), (4, 2)] σ s) z.1 z.2) _
  unfold z_X4_blame
  refine tz_bd (tz_ob hT k_h0) (fun _ _ => ?_)
  refine tz_be (tw_4_1 hT k_h0 (tq_top x1)) (fun σ3445 e3445 T3445 => ?_)
  refine tz_be (tg_4_3 T3445 k_h0) (fun t_7 e3444 k_t_7 => ?_)
  refine tz_be (tg_9_5 T3445 k_t_7) (fun t_10 e3443 i_t_10 => ?_)
  refine tz_be (tw_4_2 T3445 k_h0 (tq_top t_10)) (fun σ3442 e3442 T3442 => ?_)
  exact tz_some ⟨tk_0, T3442, (fw_pf (fw_pf fw_0 e3445 (by decide)) e3442 (by decide))⟩
set_option maxRecDepth 4000 in
theorem tz_X4_refuse {p : tz_P} {σ : ez_H} {h0 : Nat} (hT : tp p σ) (k_h0 : tz_C h0 = some (3, 4, 0, 0)) : tz_O2 (fun (z : Int32) (s : ez_H) => tq_iv 0 0 z ∧ tp p s ∧ fw [(4, 1), (4, 2)] σ s) (z_X4_refuse σ h0) := by
  show tz_O (fun z : Int32 × ez_H => (fun (z : Int32) (s : ez_H) => tq_iv 0 0 z ∧ tp p s ∧ fw [(4, 1), (4, 2)] σ s) z.1 z.2) _
  unfold z_X4_refuse
  refine tz_bd (tz_ob hT k_h0) (fun _ _ => ?_)
  refine tz_be (tg_4_3 hT k_h0) (fun t_2 e3454 k_t_2 => ?_)
  refine tz_be (tg_9_4 hT k_t_2) (fun t_5 e3453 i_t_5 => ?_)
  have K_18 : ∀ (y1_18 : Int32), tq_iv 1 2 y1_18 → tz_O (fun z : Int32 × ez_H => (fun (z : Int32) (s : ez_H) => tq_iv 0 0 z ∧ tp p s ∧ fw [(4, 1), (4, 2)] σ s) z.1 z.2) (z_X4_refuse_18 σ h0 y1_18) := by
    intro y1_18 i_y1_18
    unfold z_X4_refuse_18
    refine tz_b2 (tz_X4_blame hT k_h0 (tq_w i_y1_18 (by decide) (by decide))) (fun t_18 σ3449 ⟨i_t_18, T3449, W3449⟩ => ?_)
    refine tz_nr (tq_nr_boolean (tq_w i_t_18 (by decide) (by decide))) ?_
    exact tz_some ⟨i_t_18, T3449, (fw_call fw_0 W3449 (by decide))⟩
  refine tz_if _ (fun c3452 => ?_) (fun c3452 => ?_)
  ·
    have i1_t_5 : tq_iv 25 25 t_5 := tq_cut (tq_top t_5) (tq_eqL c3452 tk_25) (by decide) (by decide)
    exact K_18 (1 : Int32) (tq_w tk_1 (by decide) (by decide))
  ·
    exact K_18 (2 : Int32) (tq_w tk_2 (by decide) (by decide))
set_option maxRecDepth 4000 in
theorem tz_X4_beginOnce {p : tz_P} {σ : ez_H} {h0 : Nat} (hT : tp p σ) (k_h0 : tz_C h0 = some (3, 4, 0, 0)) : tz_O2 (fun (z : Int32) (s : ez_H) => tq_iv 0 1 z ∧ tp p s) (z_X4_beginOnce σ h0) := by
  show tz_O (fun z : Int32 × ez_H => (fun (z : Int32) (s : ez_H) => tq_iv 0 1 z ∧ tp p s) z.1 z.2) _
  unfold z_X4_beginOnce
  refine tz_bd (tz_ob hT k_h0) (fun _ _ => ?_)
  refine tz_be (tg_4_3 hT k_h0) (fun t_2 e3470 k_t_2 => ?_)
  refine tz_be (tg_9_4 hT k_t_2) (fun t_5 e3469 i_t_5 => ?_)
  refine tz_let (fun t_8 e3468 => ?_)
  refine tz_be (tg_4_5 hT k_h0) (fun t_11 e3467 i_t_11 => ?_)
  refine tz_let (fun t_15 e3466 => ?_)
  refine tz_if _ (fun c3465 => ?_) (fun c3465 => ?_)
  ·
    have i1_t_15 : tq_iv 0 0 t_15 := tq_cut (tq_top t_15) (tq_eqL c3465 tk_0) (by decide) (by decide)
    refine tz_ba e3467 (fun t_26 e3461 a3461 => ?_)
    refine tz_let (fun t_30 e3460 => ?_)
    refine tz_be (tw_4_5 hT k_h0 (tq_top t_30)) (fun σ3459 e3459 T3459 => ?_)
    refine tz_bk ((fr_pf_v e3459 (fun h => absurd h.2.2 (by decide))).2.2.trans e3470) ?_
    refine tz_b2 (tz_X9_advance T3459 k_t_2) (fun _ σ3457 ⟨T3457, W3457⟩ => ?_)
    exact tz_some ⟨(tq_w tk_1 (by decide) (by decide)), T3457⟩
  ·
    refine tz_b2 (tz_X4_refuse hT k_h0) (fun t_20 σ3464 ⟨i_t_20, T3464, W3464⟩ => ?_)
    refine tz_nr (tq_nr_boolean (tq_w i_t_20 (by decide) (by decide))) ?_
    exact tz_some ⟨(tq_w i_t_20 (by decide) (by decide)), T3464⟩
set_option maxRecDepth 4000 in
theorem tz_X4_expect {p : tz_P} {σ : ez_H} {h0 : Nat} {x1 : Int32} (hT : tp p σ) (k_h0 : tz_C h0 = some (3, 4, 0, 0)) (i_x1 : tq_iv 4 59 x1) : tz_O2 (fun (z : Int32) (s : ez_H) => tq_iv 0 1 z ∧ tp p s ∧ fw [(4, 1), (4, 2), (9, 3), (9, 4), (9, 5), (9, 6), (9, 7)] σ s) (z_X4_expect σ h0 x1) := by
  show tz_O (fun z : Int32 × ez_H => (fun (z : Int32) (s : ez_H) => tq_iv 0 1 z ∧ tp p s ∧ fw [(4, 1), (4, 2), (9, 3), (9, 4), (9, 5), (9, 6), (9, 7)] σ s) z.1 z.2) _
  unfold z_X4_expect
  refine tz_bd (tz_ob hT k_h0) (fun _ _ => ?_)
  refine tz_be (tg_4_3 hT k_h0) (fun t_1 e3480 k_t_1 => ?_)
  refine tz_be (tg_9_4 hT k_t_1) (fun t_4 e3479 i_t_4 => ?_)
  refine tz_if _ (fun c3478 => ?_) (fun c3478 => ?_)
  ·
    have i1_t_4 : tq_iv 4 59 t_4 := tq_cut (tq_top t_4) (tq_eqL c3478 i_x1) (by decide) (by decide)
    refine tz_bk e3480 ?_
    refine tz_b2 (tz_X9_advance hT k_t_1) (fun _ σ3473 ⟨T3473, W3473⟩ => ?_)
    exact tz_some ⟨(tq_w tk_1 (by decide) (by decide)), T3473, (fw_call fw_0 W3473 (by decide))⟩
  ·
    refine tz_b2 (tz_X4_refuse hT k_h0) (fun t_12 σ3477 ⟨i_t_12, T3477, W3477⟩ => ?_)
    refine tz_nr (tq_nr_boolean (tq_w i_t_12 (by decide) (by decide))) ?_
    exact tz_some ⟨(tq_w i_t_12 (by decide) (by decide)), T3477, (fw_call fw_0 W3477 (by decide))⟩
set_option maxRecDepth 4000 in
theorem tz_X4_readOnce {p : tz_P} {σ : ez_H} {h0 : Nat} {x1 : Int32} {x2 : Int32} (hT : tp p σ) (k_h0 : tz_C h0 = some (3, 4, 0, 0)) (i_x1 : tq_iv 0 2 x1) (i_x2 : tq_iv 5 999 x2) : tz_O2 (fun (z : Int32) (s : ez_H) => tq_iv 0 1 z ∧ tp p s) (z_X4_readOnce σ h0 x1 x2) := by
  show tz_O (fun z : Int32 × ez_H => (fun (z : Int32) (s : ez_H) => tq_iv 0 1 z ∧ tp p s) z.1 z.2) _
  unfold z_X4_readOnce
  refine tz_bd (tz_ob hT k_h0) (fun _ _ => ?_)
  refine tz_be (tg_4_3 hT k_h0) (fun t_1 e3542 k_t_1 => ?_)
  refine tz_be (tg_9_4 hT k_t_1) (fun t_4 e3541 i_t_4 => ?_)
  refine tz_be (tg_4_0 hT k_h0) (fun t_9 e3540 k_t_9 => ?_)
  refine tz_be (tg_3_3 hT k_t_9) (fun t_12 e3539 i_t_12 => ?_)
  have K_33 : ∀ (y0_33 : Int32), tq_iv 0 1 y0_33 → tz_O (fun z : Int32 × ez_H => (fun (z : Int32) (s : ez_H) => tq_iv 0 1 z ∧ tp p s) z.1 z.2) (z_X4_readOnce_33 σ h0 x1 x2 t_4 y0_33) := by
    intro y0_33 i_y0_33
    unfold z_X4_readOnce_33
    have K_51 : tz_O (fun z : Int32 × ez_H => (fun (z : Int32) (s : ez_H) => tq_iv 0 1 z ∧ tp p s) z.1 z.2) (z_X4_readOnce_51 σ h0 x1 x2 t_4) := by
      unfold z_X4_readOnce_51
      refine tz_b2 (tz_X4_beginOnce hT k_h0) (fun t_52 σ3523 ⟨i_t_52, T3523⟩ => ?_)
      refine tz_if _ (fun c3522 => ?_) (fun c3522 => ?_)
      ·
        have i1_t_52 : tq_iv 0 0 t_52 := tq_cut i_t_52 (tq_eqL c3522 tk_0) (by decide) (by decide)
        exact tz_some ⟨(tq_w tk_0 (by decide) (by decide)), T3523⟩
      ·
        have i2_t_52 : tq_iv 1 1 t_52 := tq_w (tq_neLo c3522 i_t_52 tk_0) (by decide) (by decide)
        refine tz_be (tg_4_3 T3523 k_h0) (fun t_61 e3521 k_t_61 => ?_)
        refine tz_be (tg_9_4 T3523 k_t_61) (fun t_64 e3520 i_t_64 => ?_)
        refine tz_if _ (fun c3519 => ?_) (fun c3519 => ?_)
        ·
          have i3_t_64 : tq_iv 24 24 t_64 := tq_cut (tq_top t_64) (tq_eqL c3519 tk_24) (by decide) (by decide)
          refine tz_bk e3521 ?_
          refine tz_be (tg_9_6 T3523 k_t_61) (fun t_81 e3514 i_t_81 => ?_)
          have K_98 : tz_O (fun z : Int32 × ez_H => (fun (z : Int32) (s : ez_H) => tq_iv 0 1 z ∧ tp p s) z.1 z.2) (z_X4_readOnce_98 σ3523 h0) := by
            unfold z_X4_readOnce_98
            refine tz_b2 (tz_X4_blame T3523 k_h0 (tq_w tk_4 (by decide) (by decide))) (fun t_100 σ3484 ⟨i_t_100, T3484, W3484⟩ => ?_)
            refine tz_nr (tq_nr_boolean (tq_w i_t_100 (by decide) (by decide))) ?_
            exact tz_some ⟨(tq_w i_t_100 (by decide) (by decide)), T3484⟩
          refine tz_if _ (fun c3513 => ?_) (fun c3513 => ?_)
          ·
            have i4_t_81 : tq_iv (-2147483648) 1 t_81 := tq_cut (tq_top t_81) (tq_ltL c3513 (tq_top t_81) i_x1) (by decide) (by decide)
            exact K_98 
          ·
            have i5_t_81 : tq_iv 0 2147483647 t_81 := tq_cut (tq_top t_81) (tq_leR (tq_nlt c3513) i_x1 (tq_top t_81)) (by decide) (by decide)
            refine tz_if _ (fun c3512 => ?_) (fun c3512 => ?_)
            ·
              have i6_t_81 : tq_iv 0 999 t_81 := tq_cut i5_t_81 (tq_leL c3512 i5_t_81 i_x2) (by decide) (by decide)
              have K_175 : ∀ (σ_175 : ez_H), tp p σ_175 → tz_O (fun z : Int32 × ez_H => (fun (z : Int32) (s : ez_H) => tq_iv 0 1 z ∧ tp p s) z.1 z.2) (z_X4_readOnce_175 σ_175 h0) := by
                intro σ_175 T_σ_175
                unfold z_X4_readOnce_175
                refine tz_be (tg_4_3 T_σ_175 k_h0) (fun t_176 e3489 k_t_176 => ?_)
                refine tz_b2 (tz_X9_advance T_σ_175 k_t_176) (fun _ σ3488 ⟨T3488, W3488⟩ => ?_)
                refine tz_b2 (tz_X4_expect T3488 k_h0 (tq_w tk_59 (by decide) (by decide))) (fun t_185 σ3487 ⟨i_t_185, T3487, W3487⟩ => ?_)
                refine tz_nr (tq_nr_boolean i_t_185) ?_
                exact tz_some ⟨i_t_185, T3487⟩
              refine tz_if _ (fun c3510 => ?_) (fun c3510 => ?_)
              ·
                have i7_t_4 : tq_iv 0 0 t_4 := tq_cut (tq_top t_4) (tq_eqL c3510 tk_0) (by decide) (by decide)
                refine tz_be (tg_4_0 T3523 k_h0) (fun t_109 e3495 k_t_109 => ?_)
                refine tz_be (tg_3_0 T3523 k_t_109) (fun t_112 e3494 k_t_112 => ?_)
                refine tz_be (tw_6_0 T3523 k_t_112 i6_t_81) (fun σ3493 e3493 T3493 => ?_)
                exact K_175 σ3493 T3493
              ·
                refine tz_if _ (fun c3509 => ?_) (fun c3509 => ?_)
                ·
                  have i8_t_4 : tq_iv 1 1 t_4 := tq_cut (tq_top t_4) (tq_eqL c3509 tk_1) (by decide) (by decide)
                  refine tz_be (tg_4_0 T3523 k_h0) (fun t_129 e3499 k_t_129 => ?_)
                  refine tz_be (tg_3_0 T3523 k_t_129) (fun t_132 e3498 k_t_132 => ?_)
                  refine tz_be (tw_6_1 T3523 k_t_132 i6_t_81) (fun σ3497 e3497 T3497 => ?_)
                  exact K_175 σ3497 T3497
                ·
                  refine tz_if _ (fun c3508 => ?_) (fun c3508 => ?_)
                  ·
                    have i9_t_4 : tq_iv 2 2 t_4 := tq_cut (tq_top t_4) (tq_eqL c3508 tk_2) (by decide) (by decide)
                    refine tz_be (tg_4_0 T3523 k_h0) (fun t_149 e3503 k_t_149 => ?_)
                    refine tz_be (tg_3_0 T3523 k_t_149) (fun t_152 e3502 k_t_152 => ?_)
                    refine tz_be (tw_6_2 T3523 k_t_152 i6_t_81) (fun σ3501 e3501 T3501 => ?_)
                    exact K_175 σ3501 T3501
                  ·
                    refine tz_be (tg_4_0 T3523 k_h0) (fun t_164 e3507 k_t_164 => ?_)
                    refine tz_be (tg_3_2 T3523 k_t_164) (fun t_167 e3506 k_t_167 => ?_)
                    refine tz_b2 (tz_X7_putSeed T3523 k_t_167 (tq_w i6_t_81 (by decide) (by decide))) (fun _ σ3505 T3505 => ?_)
                    exact K_175 σ3505 T3505
            ·
              have i10_t_81 : tq_iv 6 2147483647 t_81 := tq_cut i5_t_81 (tq_ltR (tq_nle c3512) i_x2 i5_t_81) (by decide) (by decide)
              exact K_98 
        ·
          refine tz_b2 (tz_X4_refuse T3523 k_h0) (fun t_73 σ3518 ⟨i_t_73, T3518, W3518⟩ => ?_)
          refine tz_nr (tq_nr_boolean (tq_w i_t_73 (by decide) (by decide))) ?_
          exact tz_some ⟨(tq_w i_t_73 (by decide) (by decide)), T3518⟩
    refine tz_if _ (fun c3530 => ?_) (fun c3530 => ?_)
    ·
      have i11_y0_33 : tq_iv 0 0 y0_33 := tq_cut i_y0_33 (tq_eqL c3530 tk_0) (by decide) (by decide)
      exact K_51 
    ·
      have i12_y0_33 : tq_iv 1 1 y0_33 := tq_w (tq_neLo c3530 i_y0_33 tk_0) (by decide) (by decide)
      refine tz_if _ (fun c3529 => ?_) (fun c3529 => ?_)
      ·
        have i13_t_4 : tq_iv 11 11 t_4 := tq_cut (tq_top t_4) (tq_eqL c3529 tk_11) (by decide) (by decide)
        exact K_51 
      ·
        refine tz_b2 (tz_X4_refuse hT k_h0) (fun t_47 σ3528 ⟨i_t_47, T3528, W3528⟩ => ?_)
        refine tz_nr (tq_nr_boolean (tq_w i_t_47 (by decide) (by decide))) ?_
        exact tz_some ⟨(tq_w i_t_47 (by decide) (by decide)), T3528⟩
  have K_28 : tz_O (fun z : Int32 × ez_H => (fun (z : Int32) (s : ez_H) => tq_iv 0 1 z ∧ tp p s) z.1 z.2) (z_X4_readOnce_28 σ h0 x1 x2 t_4) := by
    unfold z_X4_readOnce_28
    exact K_33 (1 : Int32) (tq_w tk_1 (by decide) (by decide))
  refine tz_if _ (fun c3538 => ?_) (fun c3538 => ?_)
  ·
    have i14_t_12 : tq_iv 1 8 t_12 := tq_cut i_t_12 (tq_ltR c3538 tk_0 i_t_12) (by decide) (by decide)
    exact K_28 
  ·
    have i15_t_12 : tq_iv 0 0 t_12 := tq_cut i_t_12 (tq_leL (tq_nlt c3538) i_t_12 tk_0) (by decide) (by decide)
    refine tz_bk e3540 ?_
    refine tz_be (tg_3_4 hT k_t_9) (fun t_22 e3536 i_t_22 => ?_)
    refine tz_if _ (fun c3535 => ?_) (fun c3535 => ?_)
    ·
      have i16_t_22 : tq_iv (-2147483648) 0 t_22 := tq_cut (tq_top t_22) (tq_leL c3535 (tq_top t_22) tk_0) (by decide) (by decide)
      exact K_33 (0 : Int32) (tq_w tk_0 (by decide) (by decide))
    ·
      have i17_t_22 : tq_iv 1 2147483647 t_22 := tq_cut (tq_top t_22) (tq_ltR (tq_nle c3535) tk_0 (tq_top t_22)) (by decide) (by decide)
      exact K_28
set_option maxRecDepth 4000 in
theorem tz_X4_unitHere {p : tz_P} {σ : ez_H} {h0 : Nat} (hT : tp p σ) (k_h0 : tz_C h0 = some (3, 4, 0, 0)) : tz_O (fun z => tq_iv (-1) 4 z) (z_X4_unitHere σ h0) := by
  unfold z_X4_unitHere
  refine tz_bd (tz_ob hT k_h0) (fun _ _ => ?_)
  refine tz_be (tg_4_3 hT k_h0) (fun t_1 e3559 k_t_1 => ?_)
  refine tz_be (tg_9_4 hT k_t_1) (fun t_4 e3558 i_t_4 => ?_)
  refine tz_if _ (fun c3557 => ?_) (fun c3557 => ?_)
  ·
    have i1_t_4 : tq_iv 19 19 t_4 := tq_cut (tq_top t_4) (tq_eqL c3557 tk_19) (by decide) (by decide)
    exact tz_some (tq_w tk_1 (by decide) (by decide))
  ·
    refine tz_if _ (fun c3556 => ?_) (fun c3556 => ?_)
    ·
      have i2_t_4 : tq_iv 20 20 t_4 := tq_cut (tq_top t_4) (tq_eqL c3556 tk_20) (by decide) (by decide)
      exact tz_some (tq_w tk_2 (by decide) (by decide))
    ·
      refine tz_if _ (fun c3555 => ?_) (fun c3555 => ?_)
      ·
        have i3_t_4 : tq_iv 21 21 t_4 := tq_cut (tq_top t_4) (tq_eqL c3555 tk_21) (by decide) (by decide)
        exact tz_some (tq_w tk_3 (by decide) (by decide))
      ·
        refine tz_if _ (fun c3554 => ?_) (fun c3554 => ?_)
        ·
          have i4_t_4 : tq_iv 22 22 t_4 := tq_cut (tq_top t_4) (tq_eqL c3554 tk_22) (by decide) (by decide)
          exact tz_some (tq_w tk_4 (by decide) (by decide))
        ·
          have K_54 : tz_O (fun (z : Int32) => tq_iv (-1) 4 z) (z_X4_unitHere_54 σ) := by
            unfold z_X4_unitHere_54
            exact tz_some (tq_w tk_m1 (by decide) (by decide))
          refine tz_if _ (fun c3553 => ?_) (fun c3553 => ?_)
          ·
            have i5_t_4 : tq_iv 23 23 t_4 := tq_cut (tq_top t_4) (tq_eqL c3553 tk_23) (by decide) (by decide)
            exact K_54 
          ·
            refine tz_if _ (fun c3552 => ?_) (fun c3552 => ?_)
            ·
              have i6_t_4 : tq_iv 24 24 t_4 := tq_cut (tq_top t_4) (tq_eqL c3552 tk_24) (by decide) (by decide)
              exact tz_some (tq_w tk_0 (by decide) (by decide))
            ·
              exact K_54
set_option maxRecDepth 4000 in
theorem tz_X0_append {p : tz_P} {σ : ez_H} {h0 : Nat} {x1 : Int32} {x2 : Int32} (hT : tp p σ) (k_h0 : tz_C h0 = some (3, 0, 0, 0)) (i_x1 : tq_iv (-1) 15 x1) : tz_O2 (fun (z : Unit) (s : ez_H) => tp p s) (z_X0_append σ h0 x1 x2) := by
  show tz_O (fun z : Unit × ez_H => (fun (z : Unit) (s : ez_H) => tp p s) z.1 z.2) _
  unfold z_X0_append
  refine tz_bd (tz_ob hT k_h0) (fun _ _ => ?_)
  refine tz_be (tg_0_1 hT k_h0) (fun t_1 e3577 i_t_1 => ?_)
  have K_47 : ∀ (σ_47 : ez_H), tp p σ_47 → tz_O (fun z : Unit × ez_H => (fun (z : Unit) (s : ez_H) => tp p s) z.1 z.2) (z_X0_append_47 σ_47) := by
    intro σ_47 T_σ_47
    unfold z_X0_append_47
    exact tz_some T_σ_47
  refine tz_if _ (fun c3576 => ?_) (fun c3576 => ?_)
  ·
    have i1_t_1 : tq_iv (-2147483648) (-1) t_1 := tq_cut (tq_top t_1) (tq_ltL c3576 (tq_top t_1) tk_0) (by decide) (by decide)
    exact K_47 σ hT
  ·
    have i2_t_1 : tq_iv 0 2147483647 t_1 := tq_cut (tq_top t_1) (tq_leR (tq_nlt c3576) tk_0 (tq_top t_1)) (by decide) (by decide)
    refine tz_ba e3577 (fun t_8 e3575 a3575 => ?_)
    have i3_t_8 : tq_iv 0 2147483647 t_8 := tq_eqL a3575 i2_t_1
    refine tz_if _ (fun c3574 => ?_) (fun c3574 => ?_)
    ·
      have i4_t_8 : tq_iv 270 2147483647 t_8 := tq_cut i3_t_8 (tq_leR c3574 tk_270 i3_t_8) (by decide) (by decide)
      have i5_t_1 : tq_iv 270 2147483647 t_1 := tq_cut i2_t_1 (tq_eqL (Eq.symm a3575) i4_t_8) (by decide) (by decide)
      exact K_47 σ hT
    ·
      have i6_t_8 : tq_iv 0 269 t_8 := tq_cut i3_t_8 (tq_ltL (tq_nle c3574) i3_t_8 tk_270) (by decide) (by decide)
      have i7_t_1 : tq_iv 0 269 t_1 := tq_cut i2_t_1 (tq_eqL (Eq.symm a3575) i6_t_8) (by decide) (by decide)
      refine tz_be (tg_0_2 hT k_h0) (fun t_18 e3573 k_t_18 => ?_)
      refine tz_ba e3577 (fun t_22 e3572 a3572 => ?_)
      have i8_t_22 : tq_iv 0 269 t_22 := tq_eqL a3572 i7_t_1
      refine tz_be (tz_is hT k_t_18 (te_0 (p := p)) i8_t_22 (by decide) (by decide) (tq_top x1)) (fun σ3571 e3571 T3571 => ?_)
      refine tz_be (tg_0_3 T3571 k_h0) (fun t_28 e3570 k_t_28 => ?_)
      refine tz_ba ((fr_is_gi e3571).trans e3577) (fun t_32 e3569 a3569 => ?_)
      have i9_t_32 : tq_iv 0 269 t_32 := tq_eqL a3569 i7_t_1
      refine tz_be (tz_is T3571 k_t_28 (te_0 (p := p)) i9_t_32 (by decide) (by decide) (tq_top x2)) (fun σ3568 e3568 T3568 => ?_)
      refine tz_ba ((fr_is_gi e3568).trans ((fr_is_gi e3571).trans e3577)) (fun t_39 e3567 a3567 => ?_)
      have i10_t_39 : tq_iv 0 269 t_39 := tq_eqL a3567 i7_t_1
      refine tz_let (fun t_43 e3566 => ?_)
      have i11_t_43 : tq_iv 1 270 t_43 := tq_w (tq_add e3566 i10_t_39 tk_1 (by decide) (by decide)) (by decide) (by decide)
      refine tz_be (tw_0_1 T3568 k_h0 (tq_top t_43)) (fun σ3565 e3565 T3565 => ?_)
      exact K_47 σ3565 T3565
set_option maxRecDepth 4000 in
theorem tz_X4_readUnit_k7 {p : tz_P} {σ : ez_H} {h0 : Nat} (hT : tp p σ) (k_h0 : tz_C h0 = some (3, 4, 0, 0)) : tz_O2 (fun (z : Int32) (s : ez_H) => tq_iv 0 1 z ∧ tp p s) (z_X4_readUnit_k7 σ h0) := by
  show tz_O (fun z : Int32 × ez_H => (fun (z : Int32) (s : ez_H) => tq_iv 0 1 z ∧ tp p s) z.1 z.2) _
  unfold z_X4_readUnit_k7
  refine tz_bd (tz_ob hT k_h0) (fun _ _ => ?_)
  refine tz_be (tg_4_3 hT k_h0) (fun t_1 e3623 k_t_1 => ?_)
  refine tz_be (tg_9_4 hT k_t_1) (fun t_4 e3622 i_t_4 => ?_)
  have K_17 : ∀ (y0_17 : Int32), tq_iv 0 1 y0_17 → (¬ y0_17 = 0 → tq_iv 40 40 t_4) → tz_O (fun z : Int32 × ez_H => (fun (z : Int32) (s : ez_H) => tq_iv 0 1 z ∧ tp p s) z.1 z.2) (z_X4_readUnit_k7_17 σ h0 y0_17) := by
    intro y0_17 i_y0_17 g17_y0_17_t_4
    unfold z_X4_readUnit_k7_17
    refine tz_bd (tz_X4_unitHere hT k_h0) (fun t_19 i_t_19 => ?_)
    have K_47 : tz_O (fun z : Int32 × ez_H => (fun (z : Int32) (s : ez_H) => tq_iv 0 1 z ∧ tp p s) z.1 z.2) (z_X4_readUnit_k7_47 σ h0) := by
      unfold z_X4_readUnit_k7_47
      refine tz_b2 (tz_X4_refuse hT k_h0) (fun t_48 σ3602 ⟨i_t_48, T3602, W3602⟩ => ?_)
      refine tz_nr (tq_nr_boolean (tq_w i_t_48 (by decide) (by decide))) ?_
      exact tz_some ⟨(tq_w i_t_48 (by decide) (by decide)), T3602⟩
    have K_32 : tz_O (fun z : Int32 × ez_H => (fun (z : Int32) (s : ez_H) => tq_iv 0 1 z ∧ tp p s) z.1 z.2) (z_X4_readUnit_k7_32 σ h0 y0_17 t_19) := by
      unfold z_X4_readUnit_k7_32
      refine tz_be (tg_4_0 hT k_h0) (fun t_33 e3612 k_t_33 => ?_)
      refine tz_be (tg_3_1 hT k_t_33) (fun t_36 e3611 k_t_36 => ?_)
      refine tz_be (tg_0_0 hT k_t_36) (fun t_39 e3610 i_t_39 => ?_)
      refine tz_if _ (fun c3609 => ?_) (fun c3609 => ?_)
      ·
        have i1_t_39 : tq_iv (-2147483648) 29 t_39 := tq_cut (tq_top t_39) (tq_ltL c3609 (tq_top t_39) tk_30) (by decide) (by decide)
        refine tz_if _ (fun c3607 => ?_) (fun c3607 => ?_)
        ·
          have i2_y0_17 : tq_iv 0 0 y0_17 := tq_cut i_y0_17 (tq_eqL c3607 tk_0) (by decide) (by decide)
          have K_67 : tz_O (fun z : Int32 × ez_H => (fun (z : Int32) (s : ez_H) => tq_iv 0 1 z ∧ tp p s) z.1 z.2) (z_X4_readUnit_k7_67 σ h0 y0_17 t_19) := by
            unfold z_X4_readUnit_k7_67
            refine tz_bk e3612 ?_
            refine tz_bk e3611 ?_
            refine tz_ba e3610 (fun t_75 e3597 a3597 => ?_)
            have i3_t_75 : tq_iv (-2147483648) 29 t_75 := tq_eqL a3597 i1_t_39
            refine tz_let (fun t_79 e3596 => ?_)
            have i4_t_79 : tq_iv (-2147483647) 30 t_79 := tq_w (tq_add e3596 i3_t_75 tk_1 (by decide) (by decide)) (by decide) (by decide)
            refine tz_be (tw_0_0 hT k_t_36 (tq_top t_79)) (fun σ3595 e3595 T3595 => ?_)
            have K_105 : ∀ (σ_105 : ez_H), tp p σ_105 → tz_O (fun z : Int32 × ez_H => (fun (z : Int32) (s : ez_H) => tq_iv 0 1 z ∧ tp p s) z.1 z.2) (z_X4_readUnit_k7_105 σ_105 h0 y0_17) := by
              intro σ_105 T_σ_105
              unfold z_X4_readUnit_k7_105
              refine tz_be (tg_4_3 T_σ_105 k_h0) (fun t_106 e3586 k_t_106 => ?_)
              refine tz_b2 (tz_X9_advance T_σ_105 k_t_106) (fun _ σ3585 ⟨T3585, W3585⟩ => ?_)
              refine tz_if _ (fun c3584 => ?_) (fun c3584 => ?_)
              ·
                have K_135 : tz_O (fun z : Int32 × ez_H => (fun (z : Int32) (s : ez_H) => tq_iv 0 1 z ∧ tp p s) z.1 z.2) (z_X4_readUnit_k7_135 σ3585) := by
                  unfold z_X4_readUnit_k7_135
                  have K_140 : tz_O (fun z : Int32 × ez_H => (fun (z : Int32) (s : ez_H) => tq_iv 0 1 z ∧ tp p s) z.1 z.2) (z_X4_readUnit_k7_140 σ3585 (1 : Int32)) := by
                    unfold z_X4_readUnit_k7_140
                    refine tz_nr (tq_nr_boolean (tq_w tk_1 (by decide) (by decide))) ?_
                    exact tz_some ⟨(tq_w tk_1 (by decide) (by decide)), T3585⟩
                  exact K_140 
                exact K_135 
              ·
                exact (tq_xne c3584 i2_y0_17 tk_0 (by decide)).elim
            refine tz_if _ (fun c3594 => ?_) (fun c3594 => ?_)
            ·
              refine tz_bk ((fr_pf_v e3595 (fun h => absurd h.2.1 (by decide))).2.2.trans e3612) ?_
              refine tz_bk ((fr_pf_v e3595 (fun h => absurd h.2.1 (by decide))).2.2.trans e3611) ?_
              refine tz_bk ((fr_pf_v e3595 (fun h => absurd h.2.1 (by decide))).2.2.trans e3623) ?_
              refine tz_be (tg_9_6 T3595 k_t_1) (fun t_99 e3589 i_t_99 => ?_)
              refine tz_b2 (tz_X0_append T3595 k_t_36 (tq_w i_t_19 (by decide) (by decide))) (fun _ σ3588 T3588 => ?_)
              exact K_105 σ3588 T3588
            ·
              exact (tq_xne c3594 i2_y0_17 tk_0 (by decide)).elim
          exact K_67 
        ·
          have i5_t_4 : tq_iv 40 40 t_4 := tq_cut (tq_top t_4) (g17_y0_17_t_4 c3607) (by decide) (by decide)
          have i6_y0_17 : tq_iv 1 1 y0_17 := tq_w (tq_neLo c3607 i_y0_17 tk_0) (by decide) (by decide)
          refine tz_b2 (tz_X4_refuse hT k_h0) (fun t_63 σ3606 ⟨i_t_63, T3606, W3606⟩ => ?_)
          refine tz_nr (tq_nr_boolean (tq_w i_t_63 (by decide) (by decide))) ?_
          exact tz_some ⟨(tq_w i_t_63 (by decide) (by decide)), T3606⟩
      ·
        have i7_t_39 : tq_iv 30 2147483647 t_39 := tq_cut (tq_top t_39) (tq_leR (tq_nlt c3609) tk_30 (tq_top t_39)) (by decide) (by decide)
        exact K_47 
    refine tz_if _ (fun c3617 => ?_) (fun c3617 => ?_)
    ·
      have i8_y0_17 : tq_iv 0 0 y0_17 := tq_cut i_y0_17 (tq_eqL c3617 tk_0) (by decide) (by decide)
      refine tz_if _ (fun c3615 => ?_) (fun c3615 => ?_)
      ·
        have i9_t_19 : tq_iv (-1) (-1) t_19 := tq_cut i_t_19 (tq_eqL c3615 tk_m1) (by decide) (by decide)
        exact K_47 
      ·
        have i10_t_19 : tq_iv 0 4 t_19 := tq_w (tq_neLo c3615 i_t_19 tk_m1) (by decide) (by decide)
        exact K_32 
    ·
      have i11_t_4 : tq_iv 40 40 t_4 := tq_cut (tq_top t_4) (g17_y0_17_t_4 c3617) (by decide) (by decide)
      have i12_y0_17 : tq_iv 1 1 y0_17 := tq_w (tq_neLo c3617 i_y0_17 tk_0) (by decide) (by decide)
      exact K_32 
  refine tz_if _ (fun c3621 => ?_) (fun c3621 => ?_)
  ·
    have i13_t_4 : tq_iv 40 40 t_4 := tq_cut (tq_top t_4) (tq_eqL c3621 tk_40) (by decide) (by decide)
    exact K_17 (1 : Int32) (tq_w tk_1 (by decide) (by decide)) (fun _ => i13_t_4)
  ·
    exact K_17 (0 : Int32) (tq_w tk_0 (by decide) (by decide)) (fun h => absurd rfl h)
set_option maxRecDepth 4000 in
theorem tz_X4_productHere {p : tz_P} {σ : ez_H} {h0 : Nat} (hT : tp p σ) (k_h0 : tz_C h0 = some (3, 4, 0, 0)) : tz_O (fun z => tq_iv (-1) 15 z) (z_X4_productHere σ h0) := by
  unfold z_X4_productHere
  refine tz_bd (tz_ob hT k_h0) (fun _ _ => ?_)
  refine tz_be (tg_4_3 hT k_h0) (fun t_1 e3633 k_t_1 => ?_)
  refine tz_be (tg_9_4 hT k_t_1) (fun t_4 e3632 i_t_4 => ?_)
  refine tz_if _ (fun c3631 => ?_) (fun c3631 => ?_)
  ·
    have i1_t_4 : tq_iv 37 37 t_4 := tq_cut (tq_top t_4) (tq_eqL c3631 tk_37) (by decide) (by decide)
    exact tz_some (tq_w tk_15 (by decide) (by decide))
  ·
    refine tz_if _ (fun c3630 => ?_) (fun c3630 => ?_)
    ·
      have i2_t_4 : tq_iv 42 42 t_4 := tq_cut (tq_top t_4) (tq_eqL c3630 tk_42) (by decide) (by decide)
      exact tz_some (tq_w tk_13 (by decide) (by decide))
    ·
      refine tz_if _ (fun c3629 => ?_) (fun c3629 => ?_)
      ·
        have i3_t_4 : tq_iv 47 47 t_4 := tq_cut (tq_top t_4) (tq_eqL c3629 tk_47) (by decide) (by decide)
        exact tz_some (tq_w tk_14 (by decide) (by decide))
      ·
        exact tz_some (tq_w tk_m1 (by decide) (by decide))
set_option maxRecDepth 4000 in
theorem tz_X4_readTerm_k7 {p : tz_P} {σ : ez_H} {h0 : Nat} (hT : tp p σ) (k_h0 : tz_C h0 = some (3, 4, 0, 0)) : tz_O2 (fun (z : Int32) (s : ez_H) => tq_iv 0 1 z ∧ tp p s) (z_X4_readTerm_k7 σ h0) := by
  show tz_O (fun z : Int32 × ez_H => (fun (z : Int32) (s : ez_H) => tq_iv 0 1 z ∧ tp p s) z.1 z.2) _
  unfold z_X4_readTerm_k7
  refine tz_bd (tz_ob hT k_h0) (fun _ _ => ?_)
  refine tz_b2 (tz_X4_readUnit_k7 hT k_h0) (fun t_2 σ3654 ⟨i_t_2, T3654⟩ => ?_)
  have L_8 : ∀ (n_8 : Nat) (k_8 : ez_H → Nat → Int32 → Int32 → Option (Int32 × ez_H)), (∀ (σ_8 : ez_H) (x2_8 : Int32) (x3_8 : Int32), tp p σ_8 → tq_iv 0 1 x2_8 → tq_iv 0 1600 x3_8 → (2147483647 - x3_8.toInt).toNat < n_8 → tz_O (fun z : Int32 × ez_H => (fun (z : Int32) (s : ez_H) => tq_iv 0 1 z ∧ tp p s) z.1 z.2) (k_8 σ_8 h0 x2_8 x3_8)) → ∀ (σ_8 : ez_H) (x2_8 : Int32) (x3_8 : Int32), tp p σ_8 → tq_iv 0 1 x2_8 → tq_iv 0 1600 x3_8 → (2147483647 - x3_8.toInt).toNat < n_8 + 1 → tz_O (fun z : Int32 × ez_H => (fun (z : Int32) (s : ez_H) => tq_iv 0 1 z ∧ tp p s) z.1 z.2) (z_X4_readTerm_k7_8 k_8 σ_8 h0 x2_8 x3_8) := by
    intro n_8 k_8 hk_8 σ_8 x2_8 x3_8 T_σ_8 i_x2_8 i_x3_8 hn_8
    unfold z_X4_readTerm_k7_8
    have K_65 : tz_O (fun z : Int32 × ez_H => (fun (z : Int32) (s : ez_H) => tq_iv 0 1 z ∧ tp p s) z.1 z.2) (z_X4_readTerm_k7_65 σ_8 x2_8) := by
      unfold z_X4_readTerm_k7_65
      refine tz_nr (tq_nr_boolean i_x2_8) ?_
      exact tz_some ⟨i_x2_8, T_σ_8⟩
    refine tz_if _ (fun c3652 => ?_) (fun c3652 => ?_)
    ·
      have i1_x3_8 : tq_iv 1600 1600 x3_8 := tq_cut i_x3_8 (tq_leR c3652 tk_1600 i_x3_8) (by decide) (by decide)
      exact K_65 
    ·
      have i2_x3_8 : tq_iv 0 1599 x3_8 := tq_cut i_x3_8 (tq_ltL (tq_nle c3652) i_x3_8 tk_1600) (by decide) (by decide)
      refine tz_if _ (fun c3651 => ?_) (fun c3651 => ?_)
      ·
        have i3_x2_8 : tq_iv 0 0 x2_8 := tq_cut i_x2_8 (tq_eqL c3651 tk_0) (by decide) (by decide)
        exact K_65 
      ·
        have i4_x2_8 : tq_iv 1 1 x2_8 := tq_w (tq_neLo c3651 i_x2_8 tk_0) (by decide) (by decide)
        refine tz_bd (tz_X4_productHere T_σ_8 k_h0) (fun t_20 i_t_20 => ?_)
        refine tz_if _ (fun c3649 => ?_) (fun c3649 => ?_)
        ·
          have i5_t_20 : tq_iv (-1) (-1) t_20 := tq_cut i_t_20 (tq_eqL c3649 tk_m1) (by decide) (by decide)
          exact K_65 
        ·
          have i6_t_20 : tq_iv 0 15 t_20 := tq_w (tq_neLo c3649 i_t_20 tk_m1) (by decide) (by decide)
          refine tz_bd (tz_X4_productHere T_σ_8 k_h0) (fun t_28 i_t_28 => ?_)
          refine tz_be (tg_4_3 T_σ_8 k_h0) (fun t_34 e3647 k_t_34 => ?_)
          refine tz_b2 (tz_X9_advance T_σ_8 k_t_34) (fun _ σ3646 ⟨T3646, W3646⟩ => ?_)
          refine tz_b2 (tz_X4_readUnit_k7 T3646 k_h0) (fun t_42 σ3645 ⟨i_t_42, T3645⟩ => ?_)
          refine tz_be (tg_4_0 T3645 k_h0) (fun t_47 e3644 k_t_47 => ?_)
          refine tz_be (tg_3_1 T3645 k_t_47) (fun t_50 e3643 k_t_50 => ?_)
          refine tz_b2 (tz_X0_append T3645 k_t_50 i_t_28) (fun _ σ3642 T3642 => ?_)
          refine tz_let (fun t_59 e3641 => ?_)
          have i7_t_59 : tq_iv 1 1600 t_59 := tq_w (tq_add e3641 i2_x3_8 tk_1 (by decide) (by decide)) (by decide) (by decide)
          exact hk_8 σ3642 t_42 t_59 T3642 i_t_42 (tq_w i7_t_59 (by decide) (by decide)) (tq_up e3641 i2_x3_8 tk_1 (by decide) (by decide) hn_8)
  have E_8 : ∀ (σ_8 : ez_H) (x2_8 : Int32) (x3_8 : Int32), tp p σ_8 → tq_iv 0 1 x2_8 → tq_iv 0 1600 x3_8 → tz_O (fun z : Int32 × ez_H => (fun (z : Int32) (s : ez_H) => tq_iv 0 1 z ∧ tp p s) z.1 z.2) (ez_fix (fun _ _ _ _ => none) (z_X4_readTerm_k7_8) ez_N σ_8 h0 x2_8 x3_8) := by
    intro σ_8 x2_8 x3_8 T_σ_8 i_x2_8 i_x3_8
    exact ez_fix_indn (fun n_8 (k_8 : ez_H → Nat → Int32 → Int32 → Option (Int32 × ez_H)) => ∀ (σ_8 : ez_H) (x2_8 : Int32) (x3_8 : Int32), tp p σ_8 → tq_iv 0 1 x2_8 → tq_iv 0 1600 x3_8 → (2147483647 - x3_8.toInt).toNat < n_8 → tz_O (fun z : Int32 × ez_H => (fun (z : Int32) (s : ez_H) => tq_iv 0 1 z ∧ tp p s) z.1 z.2) (k_8 σ_8 h0 x2_8 x3_8)) (by intros; rename_i h; exact absurd h (Nat.not_lt_zero _)) L_8 ez_N σ_8 x2_8 x3_8 T_σ_8 i_x2_8 i_x3_8 (tq_m0 x3_8)
  exact E_8 σ3654 t_2 (0 : Int32) T3654 i_t_2 (tq_w tk_0 (by decide) (by decide))
set_option maxRecDepth 4000 in
theorem tz_X4_readSum_k7 {p : tz_P} {σ : ez_H} {h0 : Nat} (hT : tp p σ) (k_h0 : tz_C h0 = some (3, 4, 0, 0)) : tz_O2 (fun (z : Int32) (s : ez_H) => tq_iv 0 1 z ∧ tp p s) (z_X4_readSum_k7 σ h0) := by
  show tz_O (fun z : Int32 × ez_H => (fun (z : Int32) (s : ez_H) => tq_iv 0 1 z ∧ tp p s) z.1 z.2) _
  unfold z_X4_readSum_k7
  refine tz_bd (tz_ob hT k_h0) (fun _ _ => ?_)
  refine tz_b2 (tz_X4_readTerm_k7 hT k_h0) (fun t_2 σ3685 ⟨i_t_2, T3685⟩ => ?_)
  have L_8 : ∀ (n_8 : Nat) (k_8 : ez_H → Nat → Int32 → Int32 → Option (Int32 × ez_H)), (∀ (σ_8 : ez_H) (x2_8 : Int32) (x3_8 : Int32), tp p σ_8 → tq_iv 0 1 x2_8 → tq_iv 0 1600 x3_8 → (2147483647 - x3_8.toInt).toNat < n_8 → tz_O (fun z : Int32 × ez_H => (fun (z : Int32) (s : ez_H) => tq_iv 0 1 z ∧ tp p s) z.1 z.2) (k_8 σ_8 h0 x2_8 x3_8)) → ∀ (σ_8 : ez_H) (x2_8 : Int32) (x3_8 : Int32), tp p σ_8 → tq_iv 0 1 x2_8 → tq_iv 0 1600 x3_8 → (2147483647 - x3_8.toInt).toNat < n_8 + 1 → tz_O (fun z : Int32 × ez_H => (fun (z : Int32) (s : ez_H) => tq_iv 0 1 z ∧ tp p s) z.1 z.2) (z_X4_readSum_k7_8 k_8 σ_8 h0 x2_8 x3_8) := by
    intro n_8 k_8 hk_8 σ_8 x2_8 x3_8 T_σ_8 i_x2_8 i_x3_8 hn_8
    unfold z_X4_readSum_k7_8
    have K_96 : tz_O (fun z : Int32 × ez_H => (fun (z : Int32) (s : ez_H) => tq_iv 0 1 z ∧ tp p s) z.1 z.2) (z_X4_readSum_k7_96 σ_8 x2_8) := by
      unfold z_X4_readSum_k7_96
      refine tz_nr (tq_nr_boolean i_x2_8) ?_
      exact tz_some ⟨i_x2_8, T_σ_8⟩
    refine tz_if _ (fun c3683 => ?_) (fun c3683 => ?_)
    ·
      have i1_x3_8 : tq_iv 1600 1600 x3_8 := tq_cut i_x3_8 (tq_leR c3683 tk_1600 i_x3_8) (by decide) (by decide)
      exact K_96 
    ·
      have i2_x3_8 : tq_iv 0 1599 x3_8 := tq_cut i_x3_8 (tq_ltL (tq_nle c3683) i_x3_8 tk_1600) (by decide) (by decide)
      refine tz_if _ (fun c3682 => ?_) (fun c3682 => ?_)
      ·
        have i3_x2_8 : tq_iv 0 0 x2_8 := tq_cut i_x2_8 (tq_eqL c3682 tk_0) (by decide) (by decide)
        exact K_96 
      ·
        have i4_x2_8 : tq_iv 1 1 x2_8 := tq_w (tq_neLo c3682 i_x2_8 tk_0) (by decide) (by decide)
        refine tz_be (tg_4_3 T_σ_8 k_h0) (fun t_20 e3681 k_t_20 => ?_)
        refine tz_be (tg_9_4 T_σ_8 k_t_20) (fun t_23 e3680 i_t_23 => ?_)
        have K_43 : tz_O (fun z : Int32 × ez_H => (fun (z : Int32) (s : ez_H) => tq_iv 0 1 z ∧ tp p s) z.1 z.2) (z_X4_readSum_k7_43 k_8 σ_8 h0 x3_8) := by
          unfold z_X4_readSum_k7_43
          refine tz_bk e3681 ?_
          refine tz_ba e3680 (fun t_47 e3669 a3669 => ?_)
          have K_62 : ∀ (y0_62 : Int32), tq_iv 11 12 y0_62 → tz_O (fun z : Int32 × ez_H => (fun (z : Int32) (s : ez_H) => tq_iv 0 1 z ∧ tp p s) z.1 z.2) (z_X4_readSum_k7_62 k_8 σ_8 h0 x3_8 y0_62) := by
            intro y0_62 i_y0_62
            unfold z_X4_readSum_k7_62
            refine tz_bk e3681 ?_
            refine tz_b2 (tz_X9_advance T_σ_8 k_t_20) (fun _ σ3664 ⟨T3664, W3664⟩ => ?_)
            refine tz_b2 (tz_X4_readTerm_k7 T3664 k_h0) (fun t_73 σ3663 ⟨i_t_73, T3663⟩ => ?_)
            refine tz_be (tg_4_0 T3663 k_h0) (fun t_78 e3662 k_t_78 => ?_)
            refine tz_be (tg_3_1 T3663 k_t_78) (fun t_81 e3661 k_t_81 => ?_)
            refine tz_b2 (tz_X0_append T3663 k_t_81 (tq_w i_y0_62 (by decide) (by decide))) (fun _ σ3660 T3660 => ?_)
            refine tz_let (fun t_90 e3659 => ?_)
            have i5_t_90 : tq_iv 1 1600 t_90 := tq_w (tq_add e3659 i2_x3_8 tk_1 (by decide) (by decide)) (by decide) (by decide)
            exact hk_8 σ3660 t_73 t_90 T3660 i_t_73 (tq_w i5_t_90 (by decide) (by decide)) (tq_up e3659 i2_x3_8 tk_1 (by decide) (by decide) hn_8)
          refine tz_if _ (fun c3668 => ?_) (fun c3668 => ?_)
          ·
            have i6_t_47 : tq_iv 43 43 t_47 := tq_cut (tq_top t_47) (tq_eqL c3668 tk_43) (by decide) (by decide)
            exact K_62 (11 : Int32) (tq_w tk_11 (by decide) (by decide))
          ·
            exact K_62 (12 : Int32) (tq_w tk_12 (by decide) (by decide))
        refine tz_if _ (fun c3679 => ?_) (fun c3679 => ?_)
        ·
          have i7_t_23 : tq_iv 43 43 t_23 := tq_cut (tq_top t_23) (tq_eqL c3679 tk_43) (by decide) (by decide)
          exact K_43 
        ·
          refine tz_bk e3681 ?_
          refine tz_ba e3680 (fun t_35 e3677 a3677 => ?_)
          refine tz_if _ (fun c3676 => ?_) (fun c3676 => ?_)
          ·
            have i8_t_35 : tq_iv 45 45 t_35 := tq_cut (tq_top t_35) (tq_eqL c3676 tk_45) (by decide) (by decide)
            exact K_43 
          ·
            exact K_96 
  have E_8 : ∀ (σ_8 : ez_H) (x2_8 : Int32) (x3_8 : Int32), tp p σ_8 → tq_iv 0 1 x2_8 → tq_iv 0 1600 x3_8 → tz_O (fun z : Int32 × ez_H => (fun (z : Int32) (s : ez_H) => tq_iv 0 1 z ∧ tp p s) z.1 z.2) (ez_fix (fun _ _ _ _ => none) (z_X4_readSum_k7_8) ez_N σ_8 h0 x2_8 x3_8) := by
    intro σ_8 x2_8 x3_8 T_σ_8 i_x2_8 i_x3_8
    exact ez_fix_indn (fun n_8 (k_8 : ez_H → Nat → Int32 → Int32 → Option (Int32 × ez_H)) => ∀ (σ_8 : ez_H) (x2_8 : Int32) (x3_8 : Int32), tp p σ_8 → tq_iv 0 1 x2_8 → tq_iv 0 1600 x3_8 → (2147483647 - x3_8.toInt).toNat < n_8 → tz_O (fun z : Int32 × ez_H => (fun (z : Int32) (s : ez_H) => tq_iv 0 1 z ∧ tp p s) z.1 z.2) (k_8 σ_8 h0 x2_8 x3_8)) (by intros; rename_i h; exact absurd h (Nat.not_lt_zero _)) L_8 ez_N σ_8 x2_8 x3_8 T_σ_8 i_x2_8 i_x3_8 (tq_m0 x3_8)
  exact E_8 σ3685 t_2 (0 : Int32) T3685 i_t_2 (tq_w tk_0 (by decide) (by decide))
set_option maxRecDepth 4000 in
theorem tz_X4_relationHere {p : tz_P} {σ : ez_H} {h0 : Nat} (hT : tp p σ) (k_h0 : tz_C h0 = some (3, 4, 0, 0)) : tz_O (fun z => tq_iv (-1) 10 z) (z_X4_relationHere σ h0) := by
  unfold z_X4_relationHere
  refine tz_bd (tz_ob hT k_h0) (fun _ _ => ?_)
  refine tz_be (tg_4_3 hT k_h0) (fun t_1 e3695 k_t_1 => ?_)
  refine tz_be (tg_9_4 hT k_t_1) (fun t_4 e3694 i_t_4 => ?_)
  refine tz_if _ (fun c3693 => ?_) (fun c3693 => ?_)
  ·
    have i1_t_4 : tq_iv 60 60 t_4 := tq_cut (tq_top t_4) (tq_eqL c3693 tk_60) (by decide) (by decide)
    exact tz_some (tq_w tk_8 (by decide) (by decide))
  ·
    refine tz_if _ (fun c3692 => ?_) (fun c3692 => ?_)
    ·
      have i2_t_4 : tq_iv 61 61 t_4 := tq_cut (tq_top t_4) (tq_eqL c3692 tk_61) (by decide) (by decide)
      exact tz_some (tq_w tk_10 (by decide) (by decide))
    ·
      refine tz_if _ (fun c3691 => ?_) (fun c3691 => ?_)
      ·
        have i3_t_4 : tq_iv 62 62 t_4 := tq_cut (tq_top t_4) (tq_eqL c3691 tk_62) (by decide) (by decide)
        exact tz_some (tq_w tk_9 (by decide) (by decide))
      ·
        exact tz_some (tq_w tk_m1 (by decide) (by decide))
set_option maxRecDepth 4000 in
theorem tz_X4_readOne_k7 {p : tz_P} {σ : ez_H} {h0 : Nat} (hT : tp p σ) (k_h0 : tz_C h0 = some (3, 4, 0, 0)) : tz_O2 (fun (z : Int32) (s : ez_H) => tq_iv 0 1 z ∧ tp p s) (z_X4_readOne_k7 σ h0) := by
  show tz_O (fun z : Int32 × ez_H => (fun (z : Int32) (s : ez_H) => tq_iv 0 1 z ∧ tp p s) z.1 z.2) _
  unfold z_X4_readOne_k7
  refine tz_bd (tz_ob hT k_h0) (fun _ _ => ?_)
  refine tz_be (tg_4_3 hT k_h0) (fun t_1 e3717 k_t_1 => ?_)
  refine tz_be (tg_9_4 hT k_t_1) (fun t_4 e3716 i_t_4 => ?_)
  refine tz_if _ (fun c3715 => ?_) (fun c3715 => ?_)
  ·
    have i1_t_4 : tq_iv 18 18 t_4 := tq_cut (tq_top t_4) (tq_eqL c3715 tk_18) (by decide) (by decide)
    refine tz_b2 (tz_X4_refuse hT k_h0) (fun t_19 σ3701 ⟨i_t_19, T3701, W3701⟩ => ?_)
    refine tz_nr (tq_nr_boolean (tq_w i_t_19 (by decide) (by decide))) ?_
    exact tz_some ⟨(tq_w i_t_19 (by decide) (by decide)), T3701⟩
  ·
    refine tz_b2 (tz_X4_readSum_k7 hT k_h0) (fun t_54 σ3714 ⟨i_t_54, T3714⟩ => ?_)
    refine tz_bd (tz_X4_relationHere T3714 k_h0) (fun t_59 i_t_59 => ?_)
    have K_97 : ∀ (σ_97 : ez_H) (x2_97 : Int32), tp p σ_97 → tq_iv 0 1 x2_97 → (¬ x2_97 = 0 → tq_iv 1 1 t_54) → tz_O (fun z : Int32 × ez_H => (fun (z : Int32) (s : ez_H) => tq_iv 0 1 z ∧ tp p s) z.1 z.2) (z_X4_readOne_k7_97 σ_97 x2_97) := by
      intro σ_97 x2_97 T_σ_97 i_x2_97 g97_x2_97_t_54
      unfold z_X4_readOne_k7_97
      refine tz_nr (tq_nr_boolean i_x2_97) ?_
      exact tz_some ⟨i_x2_97, T_σ_97⟩
    refine tz_if _ (fun c3712 => ?_) (fun c3712 => ?_)
    ·
      have i2_t_54 : tq_iv 0 0 t_54 := tq_cut i_t_54 (tq_eqL c3712 tk_0) (by decide) (by decide)
      exact K_97 σ3714 t_54 T3714 (tq_w i2_t_54 (by decide) (by decide)) (fun h => absurd (tq_z0 i2_t_54) h)
    ·
      have i3_t_54 : tq_iv 1 1 t_54 := tq_w (tq_neLo c3712 i_t_54 tk_0) (by decide) (by decide)
      refine tz_if _ (fun c3711 => ?_) (fun c3711 => ?_)
      ·
        have i4_t_59 : tq_iv (-1) (-1) t_59 := tq_cut i_t_59 (tq_eqL c3711 tk_m1) (by decide) (by decide)
        exact K_97 σ3714 t_54 T3714 (tq_w i3_t_54 (by decide) (by decide)) (fun _ => i3_t_54)
      ·
        have i5_t_59 : tq_iv 0 10 t_59 := tq_w (tq_neLo c3711 i_t_59 tk_m1) (by decide) (by decide)
        refine tz_be (tg_4_3 T3714 k_h0) (fun t_73 e3710 k_t_73 => ?_)
        refine tz_b2 (tz_X9_advance T3714 k_t_73) (fun _ σ3709 ⟨T3709, W3709⟩ => ?_)
        refine tz_b2 (tz_X4_readSum_k7 T3709 k_h0) (fun t_81 σ3708 ⟨i_t_81, T3708⟩ => ?_)
        refine tz_be (tg_4_0 T3708 k_h0) (fun t_86 e3707 k_t_86 => ?_)
        refine tz_be (tg_3_1 T3708 k_t_86) (fun t_89 e3706 k_t_89 => ?_)
        refine tz_b2 (tz_X0_append T3708 k_t_89 (tq_w i5_t_59 (by decide) (by decide))) (fun _ σ3705 T3705 => ?_)
        exact K_97 σ3705 t_81 T3705 i_t_81 (fun _ => i3_t_54)
set_option maxRecDepth 4000 in
theorem tz_X4_readBoth_k7 {p : tz_P} {σ : ez_H} {h0 : Nat} (hT : tp p σ) (k_h0 : tz_C h0 = some (3, 4, 0, 0)) : tz_O2 (fun (z : Int32) (s : ez_H) => tq_iv 0 1 z ∧ tp p s) (z_X4_readBoth_k7 σ h0) := by
  show tz_O (fun z : Int32 × ez_H => (fun (z : Int32) (s : ez_H) => tq_iv 0 1 z ∧ tp p s) z.1 z.2) _
  unfold z_X4_readBoth_k7
  refine tz_bd (tz_ob hT k_h0) (fun _ _ => ?_)
  refine tz_b2 (tz_X4_readOne_k7 hT k_h0) (fun t_2 σ3738 ⟨i_t_2, T3738⟩ => ?_)
  have L_8 : ∀ (n_8 : Nat) (k_8 : ez_H → Nat → Int32 → Int32 → Option (Int32 × ez_H)), (∀ (σ_8 : ez_H) (x2_8 : Int32) (x3_8 : Int32), tp p σ_8 → tq_iv 0 1 x2_8 → tq_iv 0 1600 x3_8 → (2147483647 - x3_8.toInt).toNat < n_8 → tz_O (fun z : Int32 × ez_H => (fun (z : Int32) (s : ez_H) => tq_iv 0 1 z ∧ tp p s) z.1 z.2) (k_8 σ_8 h0 x2_8 x3_8)) → ∀ (σ_8 : ez_H) (x2_8 : Int32) (x3_8 : Int32), tp p σ_8 → tq_iv 0 1 x2_8 → tq_iv 0 1600 x3_8 → (2147483647 - x3_8.toInt).toNat < n_8 + 1 → tz_O (fun z : Int32 × ez_H => (fun (z : Int32) (s : ez_H) => tq_iv 0 1 z ∧ tp p s) z.1 z.2) (z_X4_readBoth_k7_8 k_8 σ_8 h0 x2_8 x3_8) := by
    intro n_8 k_8 hk_8 σ_8 x2_8 x3_8 T_σ_8 i_x2_8 i_x3_8 hn_8
    unfold z_X4_readBoth_k7_8
    have K_63 : tz_O (fun z : Int32 × ez_H => (fun (z : Int32) (s : ez_H) => tq_iv 0 1 z ∧ tp p s) z.1 z.2) (z_X4_readBoth_k7_63 σ_8 x2_8) := by
      unfold z_X4_readBoth_k7_63
      refine tz_nr (tq_nr_boolean i_x2_8) ?_
      exact tz_some ⟨i_x2_8, T_σ_8⟩
    refine tz_if _ (fun c3736 => ?_) (fun c3736 => ?_)
    ·
      have i1_x3_8 : tq_iv 1600 1600 x3_8 := tq_cut i_x3_8 (tq_leR c3736 tk_1600 i_x3_8) (by decide) (by decide)
      exact K_63 
    ·
      have i2_x3_8 : tq_iv 0 1599 x3_8 := tq_cut i_x3_8 (tq_ltL (tq_nle c3736) i_x3_8 tk_1600) (by decide) (by decide)
      refine tz_if _ (fun c3735 => ?_) (fun c3735 => ?_)
      ·
        have i3_x2_8 : tq_iv 0 0 x2_8 := tq_cut i_x2_8 (tq_eqL c3735 tk_0) (by decide) (by decide)
        exact K_63 
      ·
        have i4_x2_8 : tq_iv 1 1 x2_8 := tq_w (tq_neLo c3735 i_x2_8 tk_0) (by decide) (by decide)
        refine tz_be (tg_4_3 T_σ_8 k_h0) (fun t_20 e3734 k_t_20 => ?_)
        refine tz_be (tg_9_4 T_σ_8 k_t_20) (fun t_23 e3733 i_t_23 => ?_)
        refine tz_if _ (fun c3732 => ?_) (fun c3732 => ?_)
        ·
          have i5_t_23 : tq_iv 17 17 t_23 := tq_cut (tq_top t_23) (tq_eqL c3732 tk_17) (by decide) (by decide)
          refine tz_bk e3734 ?_
          refine tz_b2 (tz_X9_advance T_σ_8 k_t_20) (fun _ σ3729 ⟨T3729, W3729⟩ => ?_)
          refine tz_b2 (tz_X4_readOne_k7 T3729 k_h0) (fun t_40 σ3728 ⟨i_t_40, T3728⟩ => ?_)
          refine tz_be (tg_4_0 T3728 k_h0) (fun t_45 e3727 k_t_45 => ?_)
          refine tz_be (tg_3_1 T3728 k_t_45) (fun t_48 e3726 k_t_48 => ?_)
          refine tz_b2 (tz_X0_append T3728 k_t_48 (tq_w tk_7 (by decide) (by decide))) (fun _ σ3725 T3725 => ?_)
          refine tz_let (fun t_57 e3724 => ?_)
          have i6_t_57 : tq_iv 1 1600 t_57 := tq_w (tq_add e3724 i2_x3_8 tk_1 (by decide) (by decide)) (by decide) (by decide)
          exact hk_8 σ3725 t_40 t_57 T3725 i_t_40 (tq_w i6_t_57 (by decide) (by decide)) (tq_up e3724 i2_x3_8 tk_1 (by decide) (by decide) hn_8)
        ·
          exact K_63 
  have E_8 : ∀ (σ_8 : ez_H) (x2_8 : Int32) (x3_8 : Int32), tp p σ_8 → tq_iv 0 1 x2_8 → tq_iv 0 1600 x3_8 → tz_O (fun z : Int32 × ez_H => (fun (z : Int32) (s : ez_H) => tq_iv 0 1 z ∧ tp p s) z.1 z.2) (ez_fix (fun _ _ _ _ => none) (z_X4_readBoth_k7_8) ez_N σ_8 h0 x2_8 x3_8) := by
    intro σ_8 x2_8 x3_8 T_σ_8 i_x2_8 i_x3_8
    exact ez_fix_indn (fun n_8 (k_8 : ez_H → Nat → Int32 → Int32 → Option (Int32 × ez_H)) => ∀ (σ_8 : ez_H) (x2_8 : Int32) (x3_8 : Int32), tp p σ_8 → tq_iv 0 1 x2_8 → tq_iv 0 1600 x3_8 → (2147483647 - x3_8.toInt).toNat < n_8 → tz_O (fun z : Int32 × ez_H => (fun (z : Int32) (s : ez_H) => tq_iv 0 1 z ∧ tp p s) z.1 z.2) (k_8 σ_8 h0 x2_8 x3_8)) (by intros; rename_i h; exact absurd h (Nat.not_lt_zero _)) L_8 ez_N σ_8 x2_8 x3_8 T_σ_8 i_x2_8 i_x3_8 (tq_m0 x3_8)
  exact E_8 σ3738 t_2 (0 : Int32) T3738 i_t_2 (tq_w tk_0 (by decide) (by decide))
set_option maxRecDepth 4000 in
theorem tz_X4_readEither_k7 {p : tz_P} {σ : ez_H} {h0 : Nat} (hT : tp p σ) (k_h0 : tz_C h0 = some (3, 4, 0, 0)) : tz_O2 (fun (z : Int32) (s : ez_H) => tq_iv 0 1 z ∧ tp p s) (z_X4_readEither_k7 σ h0) := by
  show tz_O (fun z : Int32 × ez_H => (fun (z : Int32) (s : ez_H) => tq_iv 0 1 z ∧ tp p s) z.1 z.2) _
  unfold z_X4_readEither_k7
  refine tz_bd (tz_ob hT k_h0) (fun _ _ => ?_)
  refine tz_b2 (tz_X4_readBoth_k7 hT k_h0) (fun t_2 σ3759 ⟨i_t_2, T3759⟩ => ?_)
  have L_8 : ∀ (n_8 : Nat) (k_8 : ez_H → Nat → Int32 → Int32 → Option (Int32 × ez_H)), (∀ (σ_8 : ez_H) (x2_8 : Int32) (x3_8 : Int32), tp p σ_8 → tq_iv 0 1 x2_8 → tq_iv 0 1600 x3_8 → (2147483647 - x3_8.toInt).toNat < n_8 → tz_O (fun z : Int32 × ez_H => (fun (z : Int32) (s : ez_H) => tq_iv 0 1 z ∧ tp p s) z.1 z.2) (k_8 σ_8 h0 x2_8 x3_8)) → ∀ (σ_8 : ez_H) (x2_8 : Int32) (x3_8 : Int32), tp p σ_8 → tq_iv 0 1 x2_8 → tq_iv 0 1600 x3_8 → (2147483647 - x3_8.toInt).toNat < n_8 + 1 → tz_O (fun z : Int32 × ez_H => (fun (z : Int32) (s : ez_H) => tq_iv 0 1 z ∧ tp p s) z.1 z.2) (z_X4_readEither_k7_8 k_8 σ_8 h0 x2_8 x3_8) := by
    intro n_8 k_8 hk_8 σ_8 x2_8 x3_8 T_σ_8 i_x2_8 i_x3_8 hn_8
    unfold z_X4_readEither_k7_8
    have K_63 : tz_O (fun z : Int32 × ez_H => (fun (z : Int32) (s : ez_H) => tq_iv 0 1 z ∧ tp p s) z.1 z.2) (z_X4_readEither_k7_63 σ_8 x2_8) := by
      unfold z_X4_readEither_k7_63
      refine tz_nr (tq_nr_boolean i_x2_8) ?_
      exact tz_some ⟨i_x2_8, T_σ_8⟩
    refine tz_if _ (fun c3757 => ?_) (fun c3757 => ?_)
    ·
      have i1_x3_8 : tq_iv 1600 1600 x3_8 := tq_cut i_x3_8 (tq_leR c3757 tk_1600 i_x3_8) (by decide) (by decide)
      exact K_63 
    ·
      have i2_x3_8 : tq_iv 0 1599 x3_8 := tq_cut i_x3_8 (tq_ltL (tq_nle c3757) i_x3_8 tk_1600) (by decide) (by decide)
      refine tz_if _ (fun c3756 => ?_) (fun c3756 => ?_)
      ·
        have i3_x2_8 : tq_iv 0 0 x2_8 := tq_cut i_x2_8 (tq_eqL c3756 tk_0) (by decide) (by decide)
        exact K_63 
      ·
        have i4_x2_8 : tq_iv 1 1 x2_8 := tq_w (tq_neLo c3756 i_x2_8 tk_0) (by decide) (by decide)
        refine tz_be (tg_4_3 T_σ_8 k_h0) (fun t_20 e3755 k_t_20 => ?_)
        refine tz_be (tg_9_4 T_σ_8 k_t_20) (fun t_23 e3754 i_t_23 => ?_)
        refine tz_if _ (fun c3753 => ?_) (fun c3753 => ?_)
        ·
          have i5_t_23 : tq_iv 16 16 t_23 := tq_cut (tq_top t_23) (tq_eqL c3753 tk_16) (by decide) (by decide)
          refine tz_bk e3755 ?_
          refine tz_b2 (tz_X9_advance T_σ_8 k_t_20) (fun _ σ3750 ⟨T3750, W3750⟩ => ?_)
          refine tz_b2 (tz_X4_readBoth_k7 T3750 k_h0) (fun t_40 σ3749 ⟨i_t_40, T3749⟩ => ?_)
          refine tz_be (tg_4_0 T3749 k_h0) (fun t_45 e3748 k_t_45 => ?_)
          refine tz_be (tg_3_1 T3749 k_t_45) (fun t_48 e3747 k_t_48 => ?_)
          refine tz_b2 (tz_X0_append T3749 k_t_48 (tq_w tk_6 (by decide) (by decide))) (fun _ σ3746 T3746 => ?_)
          refine tz_let (fun t_57 e3745 => ?_)
          have i6_t_57 : tq_iv 1 1600 t_57 := tq_w (tq_add e3745 i2_x3_8 tk_1 (by decide) (by decide)) (by decide) (by decide)
          exact hk_8 σ3746 t_40 t_57 T3746 i_t_40 (tq_w i6_t_57 (by decide) (by decide)) (tq_up e3745 i2_x3_8 tk_1 (by decide) (by decide) hn_8)
        ·
          exact K_63 
  have E_8 : ∀ (σ_8 : ez_H) (x2_8 : Int32) (x3_8 : Int32), tp p σ_8 → tq_iv 0 1 x2_8 → tq_iv 0 1600 x3_8 → tz_O (fun z : Int32 × ez_H => (fun (z : Int32) (s : ez_H) => tq_iv 0 1 z ∧ tp p s) z.1 z.2) (ez_fix (fun _ _ _ _ => none) (z_X4_readEither_k7_8) ez_N σ_8 h0 x2_8 x3_8) := by
    intro σ_8 x2_8 x3_8 T_σ_8 i_x2_8 i_x3_8
    exact ez_fix_indn (fun n_8 (k_8 : ez_H → Nat → Int32 → Int32 → Option (Int32 × ez_H)) => ∀ (σ_8 : ez_H) (x2_8 : Int32) (x3_8 : Int32), tp p σ_8 → tq_iv 0 1 x2_8 → tq_iv 0 1600 x3_8 → (2147483647 - x3_8.toInt).toNat < n_8 → tz_O (fun z : Int32 × ez_H => (fun (z : Int32) (s : ez_H) => tq_iv 0 1 z ∧ tp p s) z.1 z.2) (k_8 σ_8 h0 x2_8 x3_8)) (by intros; rename_i h; exact absurd h (Nat.not_lt_zero _)) L_8 ez_N σ_8 x2_8 x3_8 T_σ_8 i_x2_8 i_x3_8 (tq_m0 x3_8)
  exact E_8 σ3759 t_2 (0 : Int32) T3759 i_t_2 (tq_w tk_0 (by decide) (by decide))
set_option maxRecDepth 4000 in
theorem tz_X4_readUnit_k6 {p : tz_P} {σ : ez_H} {h0 : Nat} (hT : tp p σ) (k_h0 : tz_C h0 = some (3, 4, 0, 0)) : tz_O2 (fun (z : Int32) (s : ez_H) => tq_iv 0 1 z ∧ tp p s) (z_X4_readUnit_k6 σ h0) := by
  show tz_O (fun z : Int32 × ez_H => (fun (z : Int32) (s : ez_H) => tq_iv 0 1 z ∧ tp p s) z.1 z.2) _
  unfold z_X4_readUnit_k6
  refine tz_bd (tz_ob hT k_h0) (fun _ _ => ?_)
  refine tz_be (tg_4_3 hT k_h0) (fun t_1 e3810 k_t_1 => ?_)
  refine tz_be (tg_9_4 hT k_t_1) (fun t_4 e3809 i_t_4 => ?_)
  have K_17 : ∀ (y0_17 : Int32), tq_iv 0 1 y0_17 → (¬ y0_17 = 0 → tq_iv 40 40 t_4) → tz_O (fun z : Int32 × ez_H => (fun (z : Int32) (s : ez_H) => tq_iv 0 1 z ∧ tp p s) z.1 z.2) (z_X4_readUnit_k6_17 σ h0 y0_17) := by
    intro y0_17 i_y0_17 g17_y0_17_t_4
    unfold z_X4_readUnit_k6_17
    refine tz_bd (tz_X4_unitHere hT k_h0) (fun t_19 i_t_19 => ?_)
    have K_47 : tz_O (fun z : Int32 × ez_H => (fun (z : Int32) (s : ez_H) => tq_iv 0 1 z ∧ tp p s) z.1 z.2) (z_X4_readUnit_k6_47 σ h0) := by
      unfold z_X4_readUnit_k6_47
      refine tz_b2 (tz_X4_refuse hT k_h0) (fun t_48 σ3791 ⟨i_t_48, T3791, W3791⟩ => ?_)
      refine tz_nr (tq_nr_boolean (tq_w i_t_48 (by decide) (by decide))) ?_
      exact tz_some ⟨(tq_w i_t_48 (by decide) (by decide)), T3791⟩
    have K_32 : tz_O (fun z : Int32 × ez_H => (fun (z : Int32) (s : ez_H) => tq_iv 0 1 z ∧ tp p s) z.1 z.2) (z_X4_readUnit_k6_32 σ h0 y0_17 t_19) := by
      unfold z_X4_readUnit_k6_32
      refine tz_be (tg_4_0 hT k_h0) (fun t_33 e3799 k_t_33 => ?_)
      refine tz_be (tg_3_1 hT k_t_33) (fun t_36 e3798 k_t_36 => ?_)
      refine tz_be (tg_0_0 hT k_t_36) (fun t_39 e3797 i_t_39 => ?_)
      refine tz_if _ (fun c3796 => ?_) (fun c3796 => ?_)
      ·
        have i1_t_39 : tq_iv (-2147483648) 29 t_39 := tq_cut (tq_top t_39) (tq_ltL c3796 (tq_top t_39) tk_30) (by decide) (by decide)
        have K_67 : tz_O (fun z : Int32 × ez_H => (fun (z : Int32) (s : ez_H) => tq_iv 0 1 z ∧ tp p s) z.1 z.2) (z_X4_readUnit_k6_67 σ h0 y0_17 t_19) := by
          unfold z_X4_readUnit_k6_67
          refine tz_bk e3799 ?_
          refine tz_bk e3798 ?_
          refine tz_ba e3797 (fun t_75 e3786 a3786 => ?_)
          have i2_t_75 : tq_iv (-2147483648) 29 t_75 := tq_eqL a3786 i1_t_39
          refine tz_let (fun t_79 e3785 => ?_)
          have i3_t_79 : tq_iv (-2147483647) 30 t_79 := tq_w (tq_add e3785 i2_t_75 tk_1 (by decide) (by decide)) (by decide) (by decide)
          refine tz_be (tw_0_0 hT k_t_36 (tq_top t_79)) (fun σ3784 e3784 T3784 => ?_)
          have K_105 : ∀ (σ_105 : ez_H), tp p σ_105 → tz_O (fun z : Int32 × ez_H => (fun (z : Int32) (s : ez_H) => tq_iv 0 1 z ∧ tp p s) z.1 z.2) (z_X4_readUnit_k6_105 σ_105 h0 y0_17) := by
            intro σ_105 T_σ_105
            unfold z_X4_readUnit_k6_105
            refine tz_be (tg_4_3 T_σ_105 k_h0) (fun t_106 e3775 k_t_106 => ?_)
            refine tz_b2 (tz_X9_advance T_σ_105 k_t_106) (fun _ σ3774 ⟨T3774, W3774⟩ => ?_)
            have K_140 : ∀ (σ_140 : ez_H) (y0_140 : Int32), tp p σ_140 → tq_iv 0 1 y0_140 → tz_O (fun z : Int32 × ez_H => (fun (z : Int32) (s : ez_H) => tq_iv 0 1 z ∧ tp p s) z.1 z.2) (z_X4_readUnit_k6_140 σ_140 y0_140) := by
              intro σ_140 y0_140 T_σ_140 i_y0_140
              unfold z_X4_readUnit_k6_140
              refine tz_nr (tq_nr_boolean i_y0_140) ?_
              exact tz_some ⟨i_y0_140, T_σ_140⟩
            have K_135 : ∀ (σ_135 : ez_H), tp p σ_135 → tz_O (fun z : Int32 × ez_H => (fun (z : Int32) (s : ez_H) => tq_iv 0 1 z ∧ tp p s) z.1 z.2) (z_X4_readUnit_k6_135 σ_135) := by
              intro σ_135 T_σ_135
              unfold z_X4_readUnit_k6_135
              exact K_140 σ_135 (1 : Int32) T_σ_135 (tq_w tk_1 (by decide) (by decide))
            refine tz_if _ (fun c3773 => ?_) (fun c3773 => ?_)
            ·
              have i4_y0_17 : tq_iv 0 0 y0_17 := tq_cut i_y0_17 (tq_eqL c3773 tk_0) (by decide) (by decide)
              exact K_135 σ3774 T3774
            ·
              have i5_t_4 : tq_iv 40 40 t_4 := tq_cut (tq_top t_4) (g17_y0_17_t_4 c3773) (by decide) (by decide)
              have i6_y0_17 : tq_iv 1 1 y0_17 := tq_w (tq_neLo c3773 i_y0_17 tk_0) (by decide) (by decide)
              refine tz_b2 (tz_X4_readEither_k7 T3774 k_h0) (fun t_120 σ3772 ⟨i_t_120, T3772⟩ => ?_)
              have K_139 : ∀ (σ_139 : ez_H), tp p σ_139 → tz_O (fun z : Int32 × ez_H => (fun (z : Int32) (s : ez_H) => tq_iv 0 1 z ∧ tp p s) z.1 z.2) (z_X4_readUnit_k6_139 σ_139) := by
                intro σ_139 T_σ_139
                unfold z_X4_readUnit_k6_139
                exact K_140 σ_139 (0 : Int32) T_σ_139 (tq_w tk_0 (by decide) (by decide))
              refine tz_if _ (fun c3771 => ?_) (fun c3771 => ?_)
              ·
                have i7_t_120 : tq_iv 0 0 t_120 := tq_cut i_t_120 (tq_eqL c3771 tk_0) (by decide) (by decide)
                exact K_139 σ3772 T3772
              ·
                have i8_t_120 : tq_iv 1 1 t_120 := tq_w (tq_neLo c3771 i_t_120 tk_0) (by decide) (by decide)
                refine tz_b2 (tz_X4_expect T3772 k_h0 (tq_w tk_41 (by decide) (by decide))) (fun t_129 σ3770 ⟨i_t_129, T3770, W3770⟩ => ?_)
                refine tz_if _ (fun c3769 => ?_) (fun c3769 => ?_)
                ·
                  have i9_t_129 : tq_iv 0 0 t_129 := tq_cut i_t_129 (tq_eqL c3769 tk_0) (by decide) (by decide)
                  exact K_139 σ3770 T3770
                ·
                  have i10_t_129 : tq_iv 1 1 t_129 := tq_w (tq_neLo c3769 i_t_129 tk_0) (by decide) (by decide)
                  exact K_135 σ3770 T3770
          refine tz_if _ (fun c3783 => ?_) (fun c3783 => ?_)
          ·
            have i11_y0_17 : tq_iv 0 0 y0_17 := tq_cut i_y0_17 (tq_eqL c3783 tk_0) (by decide) (by decide)
            refine tz_bk ((fr_pf_v e3784 (fun h => absurd h.2.1 (by decide))).2.2.trans e3799) ?_
            refine tz_bk ((fr_pf_v e3784 (fun h => absurd h.2.1 (by decide))).2.2.trans e3798) ?_
            refine tz_bk ((fr_pf_v e3784 (fun h => absurd h.2.1 (by decide))).2.2.trans e3810) ?_
            refine tz_be (tg_9_6 T3784 k_t_1) (fun t_99 e3778 i_t_99 => ?_)
            refine tz_b2 (tz_X0_append T3784 k_t_36 (tq_w i_t_19 (by decide) (by decide))) (fun _ σ3777 T3777 => ?_)
            exact K_105 σ3777 T3777
          ·
            have i12_t_4 : tq_iv 40 40 t_4 := tq_cut (tq_top t_4) (g17_y0_17_t_4 c3783) (by decide) (by decide)
            have i13_y0_17 : tq_iv 1 1 y0_17 := tq_w (tq_neLo c3783 i_y0_17 tk_0) (by decide) (by decide)
            exact K_105 σ3784 T3784
        refine tz_if _ (fun c3794 => ?_) (fun c3794 => ?_)
        ·
          have i14_y0_17 : tq_iv 0 0 y0_17 := tq_cut i_y0_17 (tq_eqL c3794 tk_0) (by decide) (by decide)
          exact K_67 
        ·
          have i15_t_4 : tq_iv 40 40 t_4 := tq_cut (tq_top t_4) (g17_y0_17_t_4 c3794) (by decide) (by decide)
          have i16_y0_17 : tq_iv 1 1 y0_17 := tq_w (tq_neLo c3794 i_y0_17 tk_0) (by decide) (by decide)
          exact K_67 
      ·
        have i17_t_39 : tq_iv 30 2147483647 t_39 := tq_cut (tq_top t_39) (tq_leR (tq_nlt c3796) tk_30 (tq_top t_39)) (by decide) (by decide)
        exact K_47 
    refine tz_if _ (fun c3804 => ?_) (fun c3804 => ?_)
    ·
      have i18_y0_17 : tq_iv 0 0 y0_17 := tq_cut i_y0_17 (tq_eqL c3804 tk_0) (by decide) (by decide)
      refine tz_if _ (fun c3802 => ?_) (fun c3802 => ?_)
      ·
        have i19_t_19 : tq_iv (-1) (-1) t_19 := tq_cut i_t_19 (tq_eqL c3802 tk_m1) (by decide) (by decide)
        exact K_47 
      ·
        have i20_t_19 : tq_iv 0 4 t_19 := tq_w (tq_neLo c3802 i_t_19 tk_m1) (by decide) (by decide)
        exact K_32 
    ·
      have i21_t_4 : tq_iv 40 40 t_4 := tq_cut (tq_top t_4) (g17_y0_17_t_4 c3804) (by decide) (by decide)
      have i22_y0_17 : tq_iv 1 1 y0_17 := tq_w (tq_neLo c3804 i_y0_17 tk_0) (by decide) (by decide)
      exact K_32 
  refine tz_if _ (fun c3808 => ?_) (fun c3808 => ?_)
  ·
    have i23_t_4 : tq_iv 40 40 t_4 := tq_cut (tq_top t_4) (tq_eqL c3808 tk_40) (by decide) (by decide)
    exact K_17 (1 : Int32) (tq_w tk_1 (by decide) (by decide)) (fun _ => i23_t_4)
  ·
    exact K_17 (0 : Int32) (tq_w tk_0 (by decide) (by decide)) (fun h => absurd rfl h)
set_option maxRecDepth 4000 in
theorem tz_X4_readTerm_k6 {p : tz_P} {σ : ez_H} {h0 : Nat} (hT : tp p σ) (k_h0 : tz_C h0 = some (3, 4, 0, 0)) : tz_O2 (fun (z : Int32) (s : ez_H) => tq_iv 0 1 z ∧ tp p s) (z_X4_readTerm_k6 σ h0) := by
  show tz_O (fun z : Int32 × ez_H => (fun (z : Int32) (s : ez_H) => tq_iv 0 1 z ∧ tp p s) z.1 z.2) _
  unfold z_X4_readTerm_k6
  refine tz_bd (tz_ob hT k_h0) (fun _ _ => ?_)
  refine tz_b2 (tz_X4_readUnit_k6 hT k_h0) (fun t_2 σ3831 ⟨i_t_2, T3831⟩ => ?_)
  have L_8 : ∀ (n_8 : Nat) (k_8 : ez_H → Nat → Int32 → Int32 → Option (Int32 × ez_H)), (∀ (σ_8 : ez_H) (x2_8 : Int32) (x3_8 : Int32), tp p σ_8 → tq_iv 0 1 x2_8 → tq_iv 0 1600 x3_8 → (2147483647 - x3_8.toInt).toNat < n_8 → tz_O (fun z : Int32 × ez_H => (fun (z : Int32) (s : ez_H) => tq_iv 0 1 z ∧ tp p s) z.1 z.2) (k_8 σ_8 h0 x2_8 x3_8)) → ∀ (σ_8 : ez_H) (x2_8 : Int32) (x3_8 : Int32), tp p σ_8 → tq_iv 0 1 x2_8 → tq_iv 0 1600 x3_8 → (2147483647 - x3_8.toInt).toNat < n_8 + 1 → tz_O (fun z : Int32 × ez_H => (fun (z : Int32) (s : ez_H) => tq_iv 0 1 z ∧ tp p s) z.1 z.2) (z_X4_readTerm_k6_8 k_8 σ_8 h0 x2_8 x3_8) := by
    intro n_8 k_8 hk_8 σ_8 x2_8 x3_8 T_σ_8 i_x2_8 i_x3_8 hn_8
    unfold z_X4_readTerm_k6_8
    have K_65 : tz_O (fun z : Int32 × ez_H => (fun (z : Int32) (s : ez_H) => tq_iv 0 1 z ∧ tp p s) z.1 z.2) (z_X4_readTerm_k6_65 σ_8 x2_8) := by
      unfold z_X4_readTerm_k6_65
      refine tz_nr (tq_nr_boolean i_x2_8) ?_
      exact tz_some ⟨i_x2_8, T_σ_8⟩
    refine tz_if _ (fun c3829 => ?_) (fun c3829 => ?_)
    ·
      have i1_x3_8 : tq_iv 1600 1600 x3_8 := tq_cut i_x3_8 (tq_leR c3829 tk_1600 i_x3_8) (by decide) (by decide)
      exact K_65 
    ·
      have i2_x3_8 : tq_iv 0 1599 x3_8 := tq_cut i_x3_8 (tq_ltL (tq_nle c3829) i_x3_8 tk_1600) (by decide) (by decide)
      refine tz_if _ (fun c3828 => ?_) (fun c3828 => ?_)
      ·
        have i3_x2_8 : tq_iv 0 0 x2_8 := tq_cut i_x2_8 (tq_eqL c3828 tk_0) (by decide) (by decide)
        exact K_65 
      ·
        have i4_x2_8 : tq_iv 1 1 x2_8 := tq_w (tq_neLo c3828 i_x2_8 tk_0) (by decide) (by decide)
        refine tz_bd (tz_X4_productHere T_σ_8 k_h0) (fun t_20 i_t_20 => ?_)
        refine tz_if _ (fun c3826 => ?_) (fun c3826 => ?_)
        ·
          have i5_t_20 : tq_iv (-1) (-1) t_20 := tq_cut i_t_20 (tq_eqL c3826 tk_m1) (by decide) (by decide)
          exact K_65 
        ·
          have i6_t_20 : tq_iv 0 15 t_20 := tq_w (tq_neLo c3826 i_t_20 tk_m1) (by decide) (by decide)
          refine tz_bd (tz_X4_productHere T_σ_8 k_h0) (fun t_28 i_t_28 => ?_)
          refine tz_be (tg_4_3 T_σ_8 k_h0) (fun t_34 e3824 k_t_34 => ?_)
          refine tz_b2 (tz_X9_advance T_σ_8 k_t_34) (fun _ σ3823 ⟨T3823, W3823⟩ => ?_)
          refine tz_b2 (tz_X4_readUnit_k6 T3823 k_h0) (fun t_42 σ3822 ⟨i_t_42, T3822⟩ => ?_)
          refine tz_be (tg_4_0 T3822 k_h0) (fun t_47 e3821 k_t_47 => ?_)
          refine tz_be (tg_3_1 T3822 k_t_47) (fun t_50 e3820 k_t_50 => ?_)
          refine tz_b2 (tz_X0_append T3822 k_t_50 i_t_28) (fun _ σ3819 T3819 => ?_)
          refine tz_let (fun t_59 e3818 => ?_)
          have i7_t_59 : tq_iv 1 1600 t_59 := tq_w (tq_add e3818 i2_x3_8 tk_1 (by decide) (by decide)) (by decide) (by decide)
          exact hk_8 σ3819 t_42 t_59 T3819 i_t_42 (tq_w i7_t_59 (by decide) (by decide)) (tq_up e3818 i2_x3_8 tk_1 (by decide) (by decide) hn_8)
  have E_8 : ∀ (σ_8 : ez_H) (x2_8 : Int32) (x3_8 : Int32), tp p σ_8 → tq_iv 0 1 x2_8 → tq_iv 0 1600 x3_8 → tz_O (fun z : Int32 × ez_H => (fun (z : Int32) (s : ez_H) => tq_iv 0 1 z ∧ tp p s) z.1 z.2) (ez_fix (fun _ _ _ _ => none) (z_X4_readTerm_k6_8) ez_N σ_8 h0 x2_8 x3_8) := by
    intro σ_8 x2_8 x3_8 T_σ_8 i_x2_8 i_x3_8
    exact ez_fix_indn (fun n_8 (k_8 : ez_H → Nat → Int32 → Int32 → Option (Int32 × ez_H)) => ∀ (σ_8 : ez_H) (x2_8 : Int32) (x3_8 : Int32), tp p σ_8 → tq_iv 0 1 x2_8 → tq_iv 0 1600 x3_8 → (2147483647 - x3_8.toInt).toNat < n_8 → tz_O (fun z : Int32 × ez_H => (fun (z : Int32) (s : ez_H) => tq_iv 0 1 z ∧ tp p s) z.1 z.2) (k_8 σ_8 h0 x2_8 x3_8)) (by intros; rename_i h; exact absurd h (Nat.not_lt_zero _)) L_8 ez_N σ_8 x2_8 x3_8 T_σ_8 i_x2_8 i_x3_8 (tq_m0 x3_8)
  exact E_8 σ3831 t_2 (0 : Int32) T3831 i_t_2 (tq_w tk_0 (by decide) (by decide))
set_option maxRecDepth 4000 in
theorem tz_X4_readSum_k6 {p : tz_P} {σ : ez_H} {h0 : Nat} (hT : tp p σ) (k_h0 : tz_C h0 = some (3, 4, 0, 0)) : tz_O2 (fun (z : Int32) (s : ez_H) => tq_iv 0 1 z ∧ tp p s) (z_X4_readSum_k6 σ h0) := by
  show tz_O (fun z : Int32 × ez_H => (fun (z : Int32) (s : ez_H) => tq_iv 0 1 z ∧ tp p s) z.1 z.2) _
  unfold z_X4_readSum_k6
  refine tz_bd (tz_ob hT k_h0) (fun _ _ => ?_)
  refine tz_b2 (tz_X4_readTerm_k6 hT k_h0) (fun t_2 σ3862 ⟨i_t_2, T3862⟩ => ?_)
  have L_8 : ∀ (n_8 : Nat) (k_8 : ez_H → Nat → Int32 → Int32 → Option (Int32 × ez_H)), (∀ (σ_8 : ez_H) (x2_8 : Int32) (x3_8 : Int32), tp p σ_8 → tq_iv 0 1 x2_8 → tq_iv 0 1600 x3_8 → (2147483647 - x3_8.toInt).toNat < n_8 → tz_O (fun z : Int32 × ez_H => (fun (z : Int32) (s : ez_H) => tq_iv 0 1 z ∧ tp p s) z.1 z.2) (k_8 σ_8 h0 x2_8 x3_8)) → ∀ (σ_8 : ez_H) (x2_8 : Int32) (x3_8 : Int32), tp p σ_8 → tq_iv 0 1 x2_8 → tq_iv 0 1600 x3_8 → (2147483647 - x3_8.toInt).toNat < n_8 + 1 → tz_O (fun z : Int32 × ez_H => (fun (z : Int32) (s : ez_H) => tq_iv 0 1 z ∧ tp p s) z.1 z.2) (z_X4_readSum_k6_8 k_8 σ_8 h0 x2_8 x3_8) := by
    intro n_8 k_8 hk_8 σ_8 x2_8 x3_8 T_σ_8 i_x2_8 i_x3_8 hn_8
    unfold z_X4_readSum_k6_8
    have K_96 : tz_O (fun z : Int32 × ez_H => (fun (z : Int32) (s : ez_H) => tq_iv 0 1 z ∧ tp p s) z.1 z.2) (z_X4_readSum_k6_96 σ_8 x2_8) := by
      unfold z_X4_readSum_k6_96
      refine tz_nr (tq_nr_boolean i_x2_8) ?_
      exact tz_some ⟨i_x2_8, T_σ_8⟩
    refine tz_if _ (fun c3860 => ?_) (fun c3860 => ?_)
    ·
      have i1_x3_8 : tq_iv 1600 1600 x3_8 := tq_cut i_x3_8 (tq_leR c3860 tk_1600 i_x3_8) (by decide) (by decide)
      exact K_96 
    ·
      have i2_x3_8 : tq_iv 0 1599 x3_8 := tq_cut i_x3_8 (tq_ltL (tq_nle c3860) i_x3_8 tk_1600) (by decide) (by decide)
      refine tz_if _ (fun c3859 => ?_) (fun c3859 => ?_)
      ·
        have i3_x2_8 : tq_iv 0 0 x2_8 := tq_cut i_x2_8 (tq_eqL c3859 tk_0) (by decide) (by decide)
        exact K_96 
      ·
        have i4_x2_8 : tq_iv 1 1 x2_8 := tq_w (tq_neLo c3859 i_x2_8 tk_0) (by decide) (by decide)
        refine tz_be (tg_4_3 T_σ_8 k_h0) (fun t_20 e3858 k_t_20 => ?_)
        refine tz_be (tg_9_4 T_σ_8 k_t_20) (fun t_23 e3857 i_t_23 => ?_)
        have K_43 : tz_O (fun z : Int32 × ez_H => (fun (z : Int32) (s : ez_H) => tq_iv 0 1 z ∧ tp p s) z.1 z.2) (z_X4_readSum_k6_43 k_8 σ_8 h0 x3_8) := by
          unfold z_X4_readSum_k6_43
          refine tz_bk e3858 ?_
          refine tz_ba e3857 (fun t_47 e3846 a3846 => ?_)
          have K_62 : ∀ (y0_62 : Int32), tq_iv 11 12 y0_62 → tz_O (fun z : Int32 × ez_H => (fun (z : Int32) (s : ez_H) => tq_iv 0 1 z ∧ tp p s) z.1 z.2) (z_X4_readSum_k6_62 k_8 σ_8 h0 x3_8 y0_62) := by
            intro y0_62 i_y0_62
            unfold z_X4_readSum_k6_62
            refine tz_bk e3858 ?_
            refine tz_b2 (tz_X9_advance T_σ_8 k_t_20) (fun _ σ3841 ⟨T3841, W3841⟩ => ?_)
            refine tz_b2 (tz_X4_readTerm_k6 T3841 k_h0) (fun t_73 σ3840 ⟨i_t_73, T3840⟩ => ?_)
            refine tz_be (tg_4_0 T3840 k_h0) (fun t_78 e3839 k_t_78 => ?_)
            refine tz_be (tg_3_1 T3840 k_t_78) (fun t_81 e3838 k_t_81 => ?_)
            refine tz_b2 (tz_X0_append T3840 k_t_81 (tq_w i_y0_62 (by decide) (by decide))) (fun _ σ3837 T3837 => ?_)
            refine tz_let (fun t_90 e3836 => ?_)
            have i5_t_90 : tq_iv 1 1600 t_90 := tq_w (tq_add e3836 i2_x3_8 tk_1 (by decide) (by decide)) (by decide) (by decide)
            exact hk_8 σ3837 t_73 t_90 T3837 i_t_73 (tq_w i5_t_90 (by decide) (by decide)) (tq_up e3836 i2_x3_8 tk_1 (by decide) (by decide) hn_8)
          refine tz_if _ (fun c3845 => ?_) (fun c3845 => ?_)
          ·
            have i6_t_47 : tq_iv 43 43 t_47 := tq_cut (tq_top t_47) (tq_eqL c3845 tk_43) (by decide) (by decide)
            exact K_62 (11 : Int32) (tq_w tk_11 (by decide) (by decide))
          ·
            exact K_62 (12 : Int32) (tq_w tk_12 (by decide) (by decide))
        refine tz_if _ (fun c3856 => ?_) (fun c3856 => ?_)
        ·
          have i7_t_23 : tq_iv 43 43 t_23 := tq_cut (tq_top t_23) (tq_eqL c3856 tk_43) (by decide) (by decide)
          exact K_43 
        ·
          refine tz_bk e3858 ?_
          refine tz_ba e3857 (fun t_35 e3854 a3854 => ?_)
          refine tz_if _ (fun c3853 => ?_) (fun c3853 => ?_)
          ·
            have i8_t_35 : tq_iv 45 45 t_35 := tq_cut (tq_top t_35) (tq_eqL c3853 tk_45) (by decide) (by decide)
            exact K_43 
          ·
            exact K_96 
  have E_8 : ∀ (σ_8 : ez_H) (x2_8 : Int32) (x3_8 : Int32), tp p σ_8 → tq_iv 0 1 x2_8 → tq_iv 0 1600 x3_8 → tz_O (fun z : Int32 × ez_H => (fun (z : Int32) (s : ez_H) => tq_iv 0 1 z ∧ tp p s) z.1 z.2) (ez_fix (fun _ _ _ _ => none) (z_X4_readSum_k6_8) ez_N σ_8 h0 x2_8 x3_8) := by
    intro σ_8 x2_8 x3_8 T_σ_8 i_x2_8 i_x3_8
    exact ez_fix_indn (fun n_8 (k_8 : ez_H → Nat → Int32 → Int32 → Option (Int32 × ez_H)) => ∀ (σ_8 : ez_H) (x2_8 : Int32) (x3_8 : Int32), tp p σ_8 → tq_iv 0 1 x2_8 → tq_iv 0 1600 x3_8 → (2147483647 - x3_8.toInt).toNat < n_8 → tz_O (fun z : Int32 × ez_H => (fun (z : Int32) (s : ez_H) => tq_iv 0 1 z ∧ tp p s) z.1 z.2) (k_8 σ_8 h0 x2_8 x3_8)) (by intros; rename_i h; exact absurd h (Nat.not_lt_zero _)) L_8 ez_N σ_8 x2_8 x3_8 T_σ_8 i_x2_8 i_x3_8 (tq_m0 x3_8)
  exact E_8 σ3862 t_2 (0 : Int32) T3862 i_t_2 (tq_w tk_0 (by decide) (by decide))
set_option maxRecDepth 4000 in
theorem tz_X4_readOne_k6 {p : tz_P} {σ : ez_H} {h0 : Nat} (hT : tp p σ) (k_h0 : tz_C h0 = some (3, 4, 0, 0)) : tz_O2 (fun (z : Int32) (s : ez_H) => tq_iv 0 1 z ∧ tp p s) (z_X4_readOne_k6 σ h0) := by
  show tz_O (fun z : Int32 × ez_H => (fun (z : Int32) (s : ez_H) => tq_iv 0 1 z ∧ tp p s) z.1 z.2) _
  unfold z_X4_readOne_k6
  refine tz_bd (tz_ob hT k_h0) (fun _ _ => ?_)
  refine tz_be (tg_4_3 hT k_h0) (fun t_1 e3889 k_t_1 => ?_)
  refine tz_be (tg_9_4 hT k_t_1) (fun t_4 e3888 i_t_4 => ?_)
  refine tz_if _ (fun c3887 => ?_) (fun c3887 => ?_)
  ·
    have i1_t_4 : tq_iv 18 18 t_4 := tq_cut (tq_top t_4) (tq_eqL c3887 tk_18) (by decide) (by decide)
    refine tz_bk e3889 ?_
    refine tz_b2 (tz_X9_advance hT k_t_1) (fun _ σ3872 ⟨T3872, W3872⟩ => ?_)
    refine tz_b2 (tz_X4_readOne_k7 T3872 k_h0) (fun t_34 σ3871 ⟨i_t_34, T3871⟩ => ?_)
    refine tz_be (tg_4_0 T3871 k_h0) (fun t_39 e3870 k_t_39 => ?_)
    refine tz_be (tg_3_1 T3871 k_t_39) (fun t_42 e3869 k_t_42 => ?_)
    refine tz_b2 (tz_X0_append T3871 k_t_42 (tq_w tk_5 (by decide) (by decide))) (fun _ σ3868 T3868 => ?_)
    refine tz_nr (tq_nr_boolean i_t_34) ?_
    exact tz_some ⟨i_t_34, T3868⟩
  ·
    refine tz_b2 (tz_X4_readSum_k6 hT k_h0) (fun t_54 σ3886 ⟨i_t_54, T3886⟩ => ?_)
    refine tz_bd (tz_X4_relationHere T3886 k_h0) (fun t_59 i_t_59 => ?_)
    have K_97 : ∀ (σ_97 : ez_H) (x2_97 : Int32), tp p σ_97 → tq_iv 0 1 x2_97 → (¬ x2_97 = 0 → tq_iv 1 1 t_54) → tz_O (fun z : Int32 × ez_H => (fun (z : Int32) (s : ez_H) => tq_iv 0 1 z ∧ tp p s) z.1 z.2) (z_X4_readOne_k6_97 σ_97 x2_97) := by
      intro σ_97 x2_97 T_σ_97 i_x2_97 g97_x2_97_t_54
      unfold z_X4_readOne_k6_97
      refine tz_nr (tq_nr_boolean i_x2_97) ?_
      exact tz_some ⟨i_x2_97, T_σ_97⟩
    refine tz_if _ (fun c3884 => ?_) (fun c3884 => ?_)
    ·
      have i2_t_54 : tq_iv 0 0 t_54 := tq_cut i_t_54 (tq_eqL c3884 tk_0) (by decide) (by decide)
      exact K_97 σ3886 t_54 T3886 (tq_w i2_t_54 (by decide) (by decide)) (fun h => absurd (tq_z0 i2_t_54) h)
    ·
      have i3_t_54 : tq_iv 1 1 t_54 := tq_w (tq_neLo c3884 i_t_54 tk_0) (by decide) (by decide)
      refine tz_if _ (fun c3883 => ?_) (fun c3883 => ?_)
      ·
        have i4_t_59 : tq_iv (-1) (-1) t_59 := tq_cut i_t_59 (tq_eqL c3883 tk_m1) (by decide) (by decide)
        exact K_97 σ3886 t_54 T3886 (tq_w i3_t_54 (by decide) (by decide)) (fun _ => i3_t_54)
      ·
        have i5_t_59 : tq_iv 0 10 t_59 := tq_w (tq_neLo c3883 i_t_59 tk_m1) (by decide) (by decide)
        refine tz_be (tg_4_3 T3886 k_h0) (fun t_73 e3882 k_t_73 => ?_)
        refine tz_b2 (tz_X9_advance T3886 k_t_73) (fun _ σ3881 ⟨T3881, W3881⟩ => ?_)
        refine tz_b2 (tz_X4_readSum_k6 T3881 k_h0) (fun t_81 σ3880 ⟨i_t_81, T3880⟩ => ?_)
        refine tz_be (tg_4_0 T3880 k_h0) (fun t_86 e3879 k_t_86 => ?_)
        refine tz_be (tg_3_1 T3880 k_t_86) (fun t_89 e3878 k_t_89 => ?_)
        refine tz_b2 (tz_X0_append T3880 k_t_89 (tq_w i5_t_59 (by decide) (by decide))) (fun _ σ3877 T3877 => ?_)
        exact K_97 σ3877 t_81 T3877 i_t_81 (fun _ => i3_t_54)
set_option maxRecDepth 4000 in
theorem tz_X4_readBoth_k6 {p : tz_P} {σ : ez_H} {h0 : Nat} (hT : tp p σ) (k_h0 : tz_C h0 = some (3, 4, 0, 0)) : tz_O2 (fun (z : Int32) (s : ez_H) => tq_iv 0 1 z ∧ tp p s) (z_X4_readBoth_k6 σ h0) := by
  show tz_O (fun z : Int32 × ez_H => (fun (z : Int32) (s : ez_H) => tq_iv 0 1 z ∧ tp p s) z.1 z.2) _
  unfold z_X4_readBoth_k6
  refine tz_bd (tz_ob hT k_h0) (fun _ _ => ?_)
  refine tz_b2 (tz_X4_readOne_k6 hT k_h0) (fun t_2 σ3910 ⟨i_t_2, T3910⟩ => ?_)
  have L_8 : ∀ (n_8 : Nat) (k_8 : ez_H → Nat → Int32 → Int32 → Option (Int32 × ez_H)), (∀ (σ_8 : ez_H) (x2_8 : Int32) (x3_8 : Int32), tp p σ_8 → tq_iv 0 1 x2_8 → tq_iv 0 1600 x3_8 → (2147483647 - x3_8.toInt).toNat < n_8 → tz_O (fun z : Int32 × ez_H => (fun (z : Int32) (s : ez_H) => tq_iv 0 1 z ∧ tp p s) z.1 z.2) (k_8 σ_8 h0 x2_8 x3_8)) → ∀ (σ_8 : ez_H) (x2_8 : Int32) (x3_8 : Int32), tp p σ_8 → tq_iv 0 1 x2_8 → tq_iv 0 1600 x3_8 → (2147483647 - x3_8.toInt).toNat < n_8 + 1 → tz_O (fun z : Int32 × ez_H => (fun (z : Int32) (s : ez_H) => tq_iv 0 1 z ∧ tp p s) z.1 z.2) (z_X4_readBoth_k6_8 k_8 σ_8 h0 x2_8 x3_8) := by
    intro n_8 k_8 hk_8 σ_8 x2_8 x3_8 T_σ_8 i_x2_8 i_x3_8 hn_8
    unfold z_X4_readBoth_k6_8
    have K_63 : tz_O (fun z : Int32 × ez_H => (fun (z : Int32) (s : ez_H) => tq_iv 0 1 z ∧ tp p s) z.1 z.2) (z_X4_readBoth_k6_63 σ_8 x2_8) := by
      unfold z_X4_readBoth_k6_63
      refine tz_nr (tq_nr_boolean i_x2_8) ?_
      exact tz_some ⟨i_x2_8, T_σ_8⟩
    refine tz_if _ (fun c3908 => ?_) (fun c3908 => ?_)
    ·
      have i1_x3_8 : tq_iv 1600 1600 x3_8 := tq_cut i_x3_8 (tq_leR c3908 tk_1600 i_x3_8) (by decide) (by decide)
      exact K_63 
    ·
      have i2_x3_8 : tq_iv 0 1599 x3_8 := tq_cut i_x3_8 (tq_ltL (tq_nle c3908) i_x3_8 tk_1600) (by decide) (by decide)
      refine tz_if _ (fun c3907 => ?_) (fun c3907 => ?_)
      ·
        have i3_x2_8 : tq_iv 0 0 x2_8 := tq_cut i_x2_8 (tq_eqL c3907 tk_0) (by decide) (by decide)
        exact K_63 
      ·
        have i4_x2_8 : tq_iv 1 1 x2_8 := tq_w (tq_neLo c3907 i_x2_8 tk_0) (by decide) (by decide)
        refine tz_be (tg_4_3 T_σ_8 k_h0) (fun t_20 e3906 k_t_20 => ?_)
        refine tz_be (tg_9_4 T_σ_8 k_t_20) (fun t_23 e3905 i_t_23 => ?_)
        refine tz_if _ (fun c3904 => ?_) (fun c3904 => ?_)
        ·
          have i5_t_23 : tq_iv 17 17 t_23 := tq_cut (tq_top t_23) (tq_eqL c3904 tk_17) (by decide) (by decide)
          refine tz_bk e3906 ?_
          refine tz_b2 (tz_X9_advance T_σ_8 k_t_20) (fun _ σ3901 ⟨T3901, W3901⟩ => ?_)
          refine tz_b2 (tz_X4_readOne_k6 T3901 k_h0) (fun t_40 σ3900 ⟨i_t_40, T3900⟩ => ?_)
          refine tz_be (tg_4_0 T3900 k_h0) (fun t_45 e3899 k_t_45 => ?_)
          refine tz_be (tg_3_1 T3900 k_t_45) (fun t_48 e3898 k_t_48 => ?_)
          refine tz_b2 (tz_X0_append T3900 k_t_48 (tq_w tk_7 (by decide) (by decide))) (fun _ σ3897 T3897 => ?_)
          refine tz_let (fun t_57 e3896 => ?_)
          have i6_t_57 : tq_iv 1 1600 t_57 := tq_w (tq_add e3896 i2_x3_8 tk_1 (by decide) (by decide)) (by decide) (by decide)
          exact hk_8 σ3897 t_40 t_57 T3897 i_t_40 (tq_w i6_t_57 (by decide) (by decide)) (tq_up e3896 i2_x3_8 tk_1 (by decide) (by decide) hn_8)
        ·
          exact K_63 
  have E_8 : ∀ (σ_8 : ez_H) (x2_8 : Int32) (x3_8 : Int32), tp p σ_8 → tq_iv 0 1 x2_8 → tq_iv 0 1600 x3_8 → tz_O (fun z : Int32 × ez_H => (fun (z : Int32) (s : ez_H) => tq_iv 0 1 z ∧ tp p s) z.1 z.2) (ez_fix (fun _ _ _ _ => none) (z_X4_readBoth_k6_8) ez_N σ_8 h0 x2_8 x3_8) := by
    intro σ_8 x2_8 x3_8 T_σ_8 i_x2_8 i_x3_8
    exact ez_fix_indn (fun n_8 (k_8 : ez_H → Nat → Int32 → Int32 → Option (Int32 × ez_H)) => ∀ (σ_8 : ez_H) (x2_8 : Int32) (x3_8 : Int32), tp p σ_8 → tq_iv 0 1 x2_8 → tq_iv 0 1600 x3_8 → (2147483647 - x3_8.toInt).toNat < n_8 → tz_O (fun z : Int32 × ez_H => (fun (z : Int32) (s : ez_H) => tq_iv 0 1 z ∧ tp p s) z.1 z.2) (k_8 σ_8 h0 x2_8 x3_8)) (by intros; rename_i h; exact absurd h (Nat.not_lt_zero _)) L_8 ez_N σ_8 x2_8 x3_8 T_σ_8 i_x2_8 i_x3_8 (tq_m0 x3_8)
  exact E_8 σ3910 t_2 (0 : Int32) T3910 i_t_2 (tq_w tk_0 (by decide) (by decide))
set_option maxRecDepth 4000 in
theorem tz_X4_readEither_k6 {p : tz_P} {σ : ez_H} {h0 : Nat} (hT : tp p σ) (k_h0 : tz_C h0 = some (3, 4, 0, 0)) : tz_O2 (fun (z : Int32) (s : ez_H) => tq_iv 0 1 z ∧ tp p s) (z_X4_readEither_k6 σ h0) := by
  show tz_O (fun z : Int32 × ez_H => (fun (z : Int32) (s : ez_H) => tq_iv 0 1 z ∧ tp p s) z.1 z.2) _
  unfold z_X4_readEither_k6
  refine tz_bd (tz_ob hT k_h0) (fun _ _ => ?_)
  refine tz_b2 (tz_X4_readBoth_k6 hT k_h0) (fun t_2 σ3931 ⟨i_t_2, T3931⟩ => ?_)
  have L_8 : ∀ (n_8 : Nat) (k_8 : ez_H → Nat → Int32 → Int32 → Option (Int32 × ez_H)), (∀ (σ_8 : ez_H) (x2_8 : Int32) (x3_8 : Int32), tp p σ_8 → tq_iv 0 1 x2_8 → tq_iv 0 1600 x3_8 → (2147483647 - x3_8.toInt).toNat < n_8 → tz_O (fun z : Int32 × ez_H => (fun (z : Int32) (s : ez_H) => tq_iv 0 1 z ∧ tp p s) z.1 z.2) (k_8 σ_8 h0 x2_8 x3_8)) → ∀ (σ_8 : ez_H) (x2_8 : Int32) (x3_8 : Int32), tp p σ_8 → tq_iv 0 1 x2_8 → tq_iv 0 1600 x3_8 → (2147483647 - x3_8.toInt).toNat < n_8 + 1 → tz_O (fun z : Int32 × ez_H => (fun (z : Int32) (s : ez_H) => tq_iv 0 1 z ∧ tp p s) z.1 z.2) (z_X4_readEither_k6_8 k_8 σ_8 h0 x2_8 x3_8) := by
    intro n_8 k_8 hk_8 σ_8 x2_8 x3_8 T_σ_8 i_x2_8 i_x3_8 hn_8
    unfold z_X4_readEither_k6_8
    have K_63 : tz_O (fun z : Int32 × ez_H => (fun (z : Int32) (s : ez_H) => tq_iv 0 1 z ∧ tp p s) z.1 z.2) (z_X4_readEither_k6_63 σ_8 x2_8) := by
      unfold z_X4_readEither_k6_63
      refine tz_nr (tq_nr_boolean i_x2_8) ?_
      exact tz_some ⟨i_x2_8, T_σ_8⟩
    refine tz_if _ (fun c3929 => ?_) (fun c3929 => ?_)
    ·
      have i1_x3_8 : tq_iv 1600 1600 x3_8 := tq_cut i_x3_8 (tq_leR c3929 tk_1600 i_x3_8) (by decide) (by decide)
      exact K_63 
    ·
      have i2_x3_8 : tq_iv 0 1599 x3_8 := tq_cut i_x3_8 (tq_ltL (tq_nle c3929) i_x3_8 tk_1600) (by decide) (by decide)
      refine tz_if _ (fun c3928 => ?_) (fun c3928 => ?_)
      ·
        have i3_x2_8 : tq_iv 0 0 x2_8 := tq_cut i_x2_8 (tq_eqL c3928 tk_0) (by decide) (by decide)
        exact K_63 
      ·
        have i4_x2_8 : tq_iv 1 1 x2_8 := tq_w (tq_neLo c3928 i_x2_8 tk_0) (by decide) (by decide)
        refine tz_be (tg_4_3 T_σ_8 k_h0) (fun t_20 e3927 k_t_20 => ?_)
        refine tz_be (tg_9_4 T_σ_8 k_t_20) (fun t_23 e3926 i_t_23 => ?_)
        refine tz_if _ (fun c3925 => ?_) (fun c3925 => ?_)
        ·
          have i5_t_23 : tq_iv 16 16 t_23 := tq_cut (tq_top t_23) (tq_eqL c3925 tk_16) (by decide) (by decide)
          refine tz_bk e3927 ?_
          refine tz_b2 (tz_X9_advance T_σ_8 k_t_20) (fun _ σ3922 ⟨T3922, W3922⟩ => ?_)
          refine tz_b2 (tz_X4_readBoth_k6 T3922 k_h0) (fun t_40 σ3921 ⟨i_t_40, T3921⟩ => ?_)
          refine tz_be (tg_4_0 T3921 k_h0) (fun t_45 e3920 k_t_45 => ?_)
          refine tz_be (tg_3_1 T3921 k_t_45) (fun t_48 e3919 k_t_48 => ?_)
          refine tz_b2 (tz_X0_append T3921 k_t_48 (tq_w tk_6 (by decide) (by decide))) (fun _ σ3918 T3918 => ?_)
          refine tz_let (fun t_57 e3917 => ?_)
          have i6_t_57 : tq_iv 1 1600 t_57 := tq_w (tq_add e3917 i2_x3_8 tk_1 (by decide) (by decide)) (by decide) (by decide)
          exact hk_8 σ3918 t_40 t_57 T3918 i_t_40 (tq_w i6_t_57 (by decide) (by decide)) (tq_up e3917 i2_x3_8 tk_1 (by decide) (by decide) hn_8)
        ·
          exact K_63 
  have E_8 : ∀ (σ_8 : ez_H) (x2_8 : Int32) (x3_8 : Int32), tp p σ_8 → tq_iv 0 1 x2_8 → tq_iv 0 1600 x3_8 → tz_O (fun z : Int32 × ez_H => (fun (z : Int32) (s : ez_H) => tq_iv 0 1 z ∧ tp p s) z.1 z.2) (ez_fix (fun _ _ _ _ => none) (z_X4_readEither_k6_8) ez_N σ_8 h0 x2_8 x3_8) := by
    intro σ_8 x2_8 x3_8 T_σ_8 i_x2_8 i_x3_8
    exact ez_fix_indn (fun n_8 (k_8 : ez_H → Nat → Int32 → Int32 → Option (Int32 × ez_H)) => ∀ (σ_8 : ez_H) (x2_8 : Int32) (x3_8 : Int32), tp p σ_8 → tq_iv 0 1 x2_8 → tq_iv 0 1600 x3_8 → (2147483647 - x3_8.toInt).toNat < n_8 → tz_O (fun z : Int32 × ez_H => (fun (z : Int32) (s : ez_H) => tq_iv 0 1 z ∧ tp p s) z.1 z.2) (k_8 σ_8 h0 x2_8 x3_8)) (by intros; rename_i h; exact absurd h (Nat.not_lt_zero _)) L_8 ez_N σ_8 x2_8 x3_8 T_σ_8 i_x2_8 i_x3_8 (tq_m0 x3_8)
  exact E_8 σ3931 t_2 (0 : Int32) T3931 i_t_2 (tq_w tk_0 (by decide) (by decide))
set_option maxRecDepth 4000 in
theorem tz_X4_readUnit_k5 {p : tz_P} {σ : ez_H} {h0 : Nat} (hT : tp p σ) (k_h0 : tz_C h0 = some (3, 4, 0, 0)) : tz_O2 (fun (z : Int32) (s : ez_H) => tq_iv 0 1 z ∧ tp p s) (z_X4_readUnit_k5 σ h0) := by
  show tz_O (fun z : Int32 × ez_H => (fun (z : Int32) (s : ez_H) => tq_iv 0 1 z ∧ tp p s) z.1 z.2) _
  unfold z_X4_readUnit_k5
  refine tz_bd (tz_ob hT k_h0) (fun _ _ => ?_)
  refine tz_be (tg_4_3 hT k_h0) (fun t_1 e3982 k_t_1 => ?_)
  refine tz_be (tg_9_4 hT k_t_1) (fun t_4 e3981 i_t_4 => ?_)
  have K_17 : ∀ (y0_17 : Int32), tq_iv 0 1 y0_17 → (¬ y0_17 = 0 → tq_iv 40 40 t_4) → tz_O (fun z : Int32 × ez_H => (fun (z : Int32) (s : ez_H) => tq_iv 0 1 z ∧ tp p s) z.1 z.2) (z_X4_readUnit_k5_17 σ h0 y0_17) := by
    intro y0_17 i_y0_17 g17_y0_17_t_4
    unfold z_X4_readUnit_k5_17
    refine tz_bd (tz_X4_unitHere hT k_h0) (fun t_19 i_t_19 => ?_)
    have K_47 : tz_O (fun z : Int32 × ez_H => (fun (z : Int32) (s : ez_H) => tq_iv 0 1 z ∧ tp p s) z.1 z.2) (z_X4_readUnit_k5_47 σ h0) := by
      unfold z_X4_readUnit_k5_47
      refine tz_b2 (tz_X4_refuse hT k_h0) (fun t_48 σ3963 ⟨i_t_48, T3963, W3963⟩ => ?_)
      refine tz_nr (tq_nr_boolean (tq_w i_t_48 (by decide) (by decide))) ?_
      exact tz_some ⟨(tq_w i_t_48 (by decide) (by decide)), T3963⟩
    have K_32 : tz_O (fun z : Int32 × ez_H => (fun (z : Int32) (s : ez_H) => tq_iv 0 1 z ∧ tp p s) z.1 z.2) (z_X4_readUnit_k5_32 σ h0 y0_17 t_19) := by
      unfold z_X4_readUnit_k5_32
      refine tz_be (tg_4_0 hT k_h0) (fun t_33 e3971 k_t_33 => ?_)
      refine tz_be (tg_3_1 hT k_t_33) (fun t_36 e3970 k_t_36 => ?_)
      refine tz_be (tg_0_0 hT k_t_36) (fun t_39 e3969 i_t_39 => ?_)
      refine tz_if _ (fun c3968 => ?_) (fun c3968 => ?_)
      ·
        have i1_t_39 : tq_iv (-2147483648) 29 t_39 := tq_cut (tq_top t_39) (tq_ltL c3968 (tq_top t_39) tk_30) (by decide) (by decide)
        have K_67 : tz_O (fun z : Int32 × ez_H => (fun (z : Int32) (s : ez_H) => tq_iv 0 1 z ∧ tp p s) z.1 z.2) (z_X4_readUnit_k5_67 σ h0 y0_17 t_19) := by
          unfold z_X4_readUnit_k5_67
          refine tz_bk e3971 ?_
          refine tz_bk e3970 ?_
          refine tz_ba e3969 (fun t_75 e3958 a3958 => ?_)
          have i2_t_75 : tq_iv (-2147483648) 29 t_75 := tq_eqL a3958 i1_t_39
          refine tz_let (fun t_79 e3957 => ?_)
          have i3_t_79 : tq_iv (-2147483647) 30 t_79 := tq_w (tq_add e3957 i2_t_75 tk_1 (by decide) (by decide)) (by decide) (by decide)
          refine tz_be (tw_0_0 hT k_t_36 (tq_top t_79)) (fun σ3956 e3956 T3956 => ?_)
          have K_105 : ∀ (σ_105 : ez_H), tp p σ_105 → tz_O (fun z : Int32 × ez_H => (fun (z : Int32) (s : ez_H) => tq_iv 0 1 z ∧ tp p s) z.1 z.2) (z_X4_readUnit_k5_105 σ_105 h0 y0_17) := by
            intro σ_105 T_σ_105
            unfold z_X4_readUnit_k5_105
            refine tz_be (tg_4_3 T_σ_105 k_h0) (fun t_106 e3947 k_t_106 => ?_)
            refine tz_b2 (tz_X9_advance T_σ_105 k_t_106) (fun _ σ3946 ⟨T3946, W3946⟩ => ?_)
            have K_140 : ∀ (σ_140 : ez_H) (y0_140 : Int32), tp p σ_140 → tq_iv 0 1 y0_140 → tz_O (fun z : Int32 × ez_H => (fun (z : Int32) (s : ez_H) => tq_iv 0 1 z ∧ tp p s) z.1 z.2) (z_X4_readUnit_k5_140 σ_140 y0_140) := by
              intro σ_140 y0_140 T_σ_140 i_y0_140
              unfold z_X4_readUnit_k5_140
              refine tz_nr (tq_nr_boolean i_y0_140) ?_
              exact tz_some ⟨i_y0_140, T_σ_140⟩
            have K_135 : ∀ (σ_135 : ez_H), tp p σ_135 → tz_O (fun z : Int32 × ez_H => (fun (z : Int32) (s : ez_H) => tq_iv 0 1 z ∧ tp p s) z.1 z.2) (z_X4_readUnit_k5_135 σ_135) := by
              intro σ_135 T_σ_135
              unfold z_X4_readUnit_k5_135
              exact K_140 σ_135 (1 : Int32) T_σ_135 (tq_w tk_1 (by decide) (by decide))
            refine tz_if _ (fun c3945 => ?_) (fun c3945 => ?_)
            ·
              have i4_y0_17 : tq_iv 0 0 y0_17 := tq_cut i_y0_17 (tq_eqL c3945 tk_0) (by decide) (by decide)
              exact K_135 σ3946 T3946
            ·
              have i5_t_4 : tq_iv 40 40 t_4 := tq_cut (tq_top t_4) (g17_y0_17_t_4 c3945) (by decide) (by decide)
              have i6_y0_17 : tq_iv 1 1 y0_17 := tq_w (tq_neLo c3945 i_y0_17 tk_0) (by decide) (by decide)
              refine tz_b2 (tz_X4_readEither_k6 T3946 k_h0) (fun t_120 σ3944 ⟨i_t_120, T3944⟩ => ?_)
              have K_139 : ∀ (σ_139 : ez_H), tp p σ_139 → tz_O (fun z : Int32 × ez_H => (fun (z : Int32) (s : ez_H) => tq_iv 0 1 z ∧ tp p s) z.1 z.2) (z_X4_readUnit_k5_139 σ_139) := by
                intro σ_139 T_σ_139
                unfold z_X4_readUnit_k5_139
                exact K_140 σ_139 (0 : Int32) T_σ_139 (tq_w tk_0 (by decide) (by decide))
              refine tz_if _ (fun c3943 => ?_) (fun c3943 => ?_)
              ·
                have i7_t_120 : tq_iv 0 0 t_120 := tq_cut i_t_120 (tq_eqL c3943 tk_0) (by decide) (by decide)
                exact K_139 σ3944 T3944
              ·
                have i8_t_120 : tq_iv 1 1 t_120 := tq_w (tq_neLo c3943 i_t_120 tk_0) (by decide) (by decide)
                refine tz_b2 (tz_X4_expect T3944 k_h0 (tq_w tk_41 (by decide) (by decide))) (fun t_129 σ3942 ⟨i_t_129, T3942, W3942⟩ => ?_)
                refine tz_if _ (fun c3941 => ?_) (fun c3941 => ?_)
                ·
                  have i9_t_129 : tq_iv 0 0 t_129 := tq_cut i_t_129 (tq_eqL c3941 tk_0) (by decide) (by decide)
                  exact K_139 σ3942 T3942
                ·
                  have i10_t_129 : tq_iv 1 1 t_129 := tq_w (tq_neLo c3941 i_t_129 tk_0) (by decide) (by decide)
                  exact K_135 σ3942 T3942
          refine tz_if _ (fun c3955 => ?_) (fun c3955 => ?_)
          ·
            have i11_y0_17 : tq_iv 0 0 y0_17 := tq_cut i_y0_17 (tq_eqL c3955 tk_0) (by decide) (by decide)
            refine tz_bk ((fr_pf_v e3956 (fun h => absurd h.2.1 (by decide))).2.2.trans e3971) ?_
            refine tz_bk ((fr_pf_v e3956 (fun h => absurd h.2.1 (by decide))).2.2.trans e3970) ?_
            refine tz_bk ((fr_pf_v e3956 (fun h => absurd h.2.1 (by decide))).2.2.trans e3982) ?_
            refine tz_be (tg_9_6 T3956 k_t_1) (fun t_99 e3950 i_t_99 => ?_)
            refine tz_b2 (tz_X0_append T3956 k_t_36 (tq_w i_t_19 (by decide) (by decide))) (fun _ σ3949 T3949 => ?_)
            exact K_105 σ3949 T3949
          ·
            have i12_t_4 : tq_iv 40 40 t_4 := tq_cut (tq_top t_4) (g17_y0_17_t_4 c3955) (by decide) (by decide)
            have i13_y0_17 : tq_iv 1 1 y0_17 := tq_w (tq_neLo c3955 i_y0_17 tk_0) (by decide) (by decide)
            exact K_105 σ3956 T3956
        refine tz_if _ (fun c3966 => ?_) (fun c3966 => ?_)
        ·
          have i14_y0_17 : tq_iv 0 0 y0_17 := tq_cut i_y0_17 (tq_eqL c3966 tk_0) (by decide) (by decide)
          exact K_67 
        ·
          have i15_t_4 : tq_iv 40 40 t_4 := tq_cut (tq_top t_4) (g17_y0_17_t_4 c3966) (by decide) (by decide)
          have i16_y0_17 : tq_iv 1 1 y0_17 := tq_w (tq_neLo c3966 i_y0_17 tk_0) (by decide) (by decide)
          exact K_67 
      ·
        have i17_t_39 : tq_iv 30 2147483647 t_39 := tq_cut (tq_top t_39) (tq_leR (tq_nlt c3968) tk_30 (tq_top t_39)) (by decide) (by decide)
        exact K_47 
    refine tz_if _ (fun c3976 => ?_) (fun c3976 => ?_)
    ·
      have i18_y0_17 : tq_iv 0 0 y0_17 := tq_cut i_y0_17 (tq_eqL c3976 tk_0) (by decide) (by decide)
      refine tz_if _ (fun c3974 => ?_) (fun c3974 => ?_)
      ·
        have i19_t_19 : tq_iv (-1) (-1) t_19 := tq_cut i_t_19 (tq_eqL c3974 tk_m1) (by decide) (by decide)
        exact K_47 
      ·
        have i20_t_19 : tq_iv 0 4 t_19 := tq_w (tq_neLo c3974 i_t_19 tk_m1) (by decide) (by decide)
        exact K_32 
    ·
      have i21_t_4 : tq_iv 40 40 t_4 := tq_cut (tq_top t_4) (g17_y0_17_t_4 c3976) (by decide) (by decide)
      have i22_y0_17 : tq_iv 1 1 y0_17 := tq_w (tq_neLo c3976 i_y0_17 tk_0) (by decide) (by decide)
      exact K_32 
  refine tz_if _ (fun c3980 => ?_) (fun c3980 => ?_)
  ·
    have i23_t_4 : tq_iv 40 40 t_4 := tq_cut (tq_top t_4) (tq_eqL c3980 tk_40) (by decide) (by decide)
    exact K_17 (1 : Int32) (tq_w tk_1 (by decide) (by decide)) (fun _ => i23_t_4)
  ·
    exact K_17 (0 : Int32) (tq_w tk_0 (by decide) (by decide)) (fun h => absurd rfl h)
set_option maxRecDepth 4000 in
theorem tz_X4_readTerm_k5 {p : tz_P} {σ : ez_H} {h0 : Nat} (hT : tp p σ) (k_h0 : tz_C h0 = some (3, 4, 0, 0)) : tz_O2 (fun (z : Int32) (s : ez_H) => tq_iv 0 1 z ∧ tp p s) (z_X4_readTerm_k5 σ h0) := by
  show tz_O (fun z : Int32 × ez_H => (fun (z : Int32) (s : ez_H) => tq_iv 0 1 z ∧ tp p s) z.1 z.2) _
  unfold z_X4_readTerm_k5
  refine tz_bd (tz_ob hT k_h0) (fun _ _ => ?_)
  refine tz_b2 (tz_X4_readUnit_k5 hT k_h0) (fun t_2 σ4003 ⟨i_t_2, T4003⟩ => ?_)
  have L_8 : ∀ (n_8 : Nat) (k_8 : ez_H → Nat → Int32 → Int32 → Option (Int32 × ez_H)), (∀ (σ_8 : ez_H) (x2_8 : Int32) (x3_8 : Int32), tp p σ_8 → tq_iv 0 1 x2_8 → tq_iv 0 1600 x3_8 → (2147483647 - x3_8.toInt).toNat < n_8 → tz_O (fun z : Int32 × ez_H => (fun (z : Int32) (s : ez_H) => tq_iv 0 1 z ∧ tp p s) z.1 z.2) (k_8 σ_8 h0 x2_8 x3_8)) → ∀ (σ_8 : ez_H) (x2_8 : Int32) (x3_8 : Int32), tp p σ_8 → tq_iv 0 1 x2_8 → tq_iv 0 1600 x3_8 → (2147483647 - x3_8.toInt).toNat < n_8 + 1 → tz_O (fun z : Int32 × ez_H => (fun (z : Int32) (s : ez_H) => tq_iv 0 1 z ∧ tp p s) z.1 z.2) (z_X4_readTerm_k5_8 k_8 σ_8 h0 x2_8 x3_8) := by
    intro n_8 k_8 hk_8 σ_8 x2_8 x3_8 T_σ_8 i_x2_8 i_x3_8 hn_8
    unfold z_X4_readTerm_k5_8
    have K_65 : tz_O (fun z : Int32 × ez_H => (fun (z : Int32) (s : ez_H) => tq_iv 0 1 z ∧ tp p s) z.1 z.2) (z_X4_readTerm_k5_65 σ_8 x2_8) := by
      unfold z_X4_readTerm_k5_65
      refine tz_nr (tq_nr_boolean i_x2_8) ?_
      exact tz_some ⟨i_x2_8, T_σ_8⟩
    refine tz_if _ (fun c4001 => ?_) (fun c4001 => ?_)
    ·
      have i1_x3_8 : tq_iv 1600 1600 x3_8 := tq_cut i_x3_8 (tq_leR c4001 tk_1600 i_x3_8) (by decide) (by decide)
      exact K_65 
    ·
      have i2_x3_8 : tq_iv 0 1599 x3_8 := tq_cut i_x3_8 (tq_ltL (tq_nle c4001) i_x3_8 tk_1600) (by decide) (by decide)
      refine tz_if _ (fun c4000 => ?_) (fun c4000 => ?_)
      ·
        have i3_x2_8 : tq_iv 0 0 x2_8 := tq_cut i_x2_8 (tq_eqL c4000 tk_0) (by decide) (by decide)
        exact K_65 
      ·
        have i4_x2_8 : tq_iv 1 1 x2_8 := tq_w (tq_neLo c4000 i_x2_8 tk_0) (by decide) (by decide)
        refine tz_bd (tz_X4_productHere T_σ_8 k_h0) (fun t_20 i_t_20 => ?_)
        refine tz_if _ (fun c3998 => ?_) (fun c3998 => ?_)
        ·
          have i5_t_20 : tq_iv (-1) (-1) t_20 := tq_cut i_t_20 (tq_eqL c3998 tk_m1) (by decide) (by decide)
          exact K_65 
        ·
          have i6_t_20 : tq_iv 0 15 t_20 := tq_w (tq_neLo c3998 i_t_20 tk_m1) (by decide) (by decide)
          refine tz_bd (tz_X4_productHere T_σ_8 k_h0) (fun t_28 i_t_28 => ?_)
          refine tz_be (tg_4_3 T_σ_8 k_h0) (fun t_34 e3996 k_t_34 => ?_)
          refine tz_b2 (tz_X9_advance T_σ_8 k_t_34) (fun _ σ3995 ⟨T3995, W3995⟩ => ?_)
          refine tz_b2 (tz_X4_readUnit_k5 T3995 k_h0) (fun t_42 σ3994 ⟨i_t_42, T3994⟩ => ?_)
          refine tz_be (tg_4_0 T3994 k_h0) (fun t_47 e3993 k_t_47 => ?_)
          refine tz_be (tg_3_1 T3994 k_t_47) (fun t_50 e3992 k_t_50 => ?_)
          refine tz_b2 (tz_X0_append T3994 k_t_50 i_t_28) (fun _ σ3991 T3991 => ?_)
          refine tz_let (fun t_59 e3990 => ?_)
          have i7_t_59 : tq_iv 1 1600 t_59 := tq_w (tq_add e3990 i2_x3_8 tk_1 (by decide) (by decide)) (by decide) (by decide)
          exact hk_8 σ3991 t_42 t_59 T3991 i_t_42 (tq_w i7_t_59 (by decide) (by decide)) (tq_up e3990 i2_x3_8 tk_1 (by decide) (by decide) hn_8)
  have E_8 : ∀ (σ_8 : ez_H) (x2_8 : Int32) (x3_8 : Int32), tp p σ_8 → tq_iv 0 1 x2_8 → tq_iv 0 1600 x3_8 → tz_O (fun z : Int32 × ez_H => (fun (z : Int32) (s : ez_H) => tq_iv 0 1 z ∧ tp p s) z.1 z.2) (ez_fix (fun _ _ _ _ => none) (z_X4_readTerm_k5_8) ez_N σ_8 h0 x2_8 x3_8) := by
    intro σ_8 x2_8 x3_8 T_σ_8 i_x2_8 i_x3_8
    exact ez_fix_indn (fun n_8 (k_8 : ez_H → Nat → Int32 → Int32 → Option (Int32 × ez_H)) => ∀ (σ_8 : ez_H) (x2_8 : Int32) (x3_8 : Int32), tp p σ_8 → tq_iv 0 1 x2_8 → tq_iv 0 1600 x3_8 → (2147483647 - x3_8.toInt).toNat < n_8 → tz_O (fun z : Int32 × ez_H => (fun (z : Int32) (s : ez_H) => tq_iv 0 1 z ∧ tp p s) z.1 z.2) (k_8 σ_8 h0 x2_8 x3_8)) (by intros; rename_i h; exact absurd h (Nat.not_lt_zero _)) L_8 ez_N σ_8 x2_8 x3_8 T_σ_8 i_x2_8 i_x3_8 (tq_m0 x3_8)
  exact E_8 σ4003 t_2 (0 : Int32) T4003 i_t_2 (tq_w tk_0 (by decide) (by decide))
set_option maxRecDepth 4000 in
theorem tz_X4_readSum_k5 {p : tz_P} {σ : ez_H} {h0 : Nat} (hT : tp p σ) (k_h0 : tz_C h0 = some (3, 4, 0, 0)) : tz_O2 (fun (z : Int32) (s : ez_H) => tq_iv 0 1 z ∧ tp p s) (z_X4_readSum_k5 σ h0) := by
  show tz_O (fun z : Int32 × ez_H => (fun (z : Int32) (s : ez_H) => tq_iv 0 1 z ∧ tp p s) z.1 z.2) _
  unfold z_X4_readSum_k5
  refine tz_bd (tz_ob hT k_h0) (fun _ _ => ?_)
  refine tz_b2 (tz_X4_readTerm_k5 hT k_h0) (fun t_2 σ4034 ⟨i_t_2, T4034⟩ => ?_)
  have L_8 : ∀ (n_8 : Nat) (k_8 : ez_H → Nat → Int32 → Int32 → Option (Int32 × ez_H)), (∀ (σ_8 : ez_H) (x2_8 : Int32) (x3_8 : Int32), tp p σ_8 → tq_iv 0 1 x2_8 → tq_iv 0 1600 x3_8 → (2147483647 - x3_8.toInt).toNat < n_8 → tz_O (fun z : Int32 × ez_H => (fun (z : Int32) (s : ez_H) => tq_iv 0 1 z ∧ tp p s) z.1 z.2) (k_8 σ_8 h0 x2_8 x3_8)) → ∀ (σ_8 : ez_H) (x2_8 : Int32) (x3_8 : Int32), tp p σ_8 → tq_iv 0 1 x2_8 → tq_iv 0 1600 x3_8 → (2147483647 - x3_8.toInt).toNat < n_8 + 1 → tz_O (fun z : Int32 × ez_H => (fun (z : Int32) (s : ez_H) => tq_iv 0 1 z ∧ tp p s) z.1 z.2) (z_X4_readSum_k5_8 k_8 σ_8 h0 x2_8 x3_8) := by
    intro n_8 k_8 hk_8 σ_8 x2_8 x3_8 T_σ_8 i_x2_8 i_x3_8 hn_8
    unfold z_X4_readSum_k5_8
    have K_96 : tz_O (fun z : Int32 × ez_H => (fun (z : Int32) (s : ez_H) => tq_iv 0 1 z ∧ tp p s) z.1 z.2) (z_X4_readSum_k5_96 σ_8 x2_8) := by
      unfold z_X4_readSum_k5_96
      refine tz_nr (tq_nr_boolean i_x2_8) ?_
      exact tz_some ⟨i_x2_8, T_σ_8⟩
    refine tz_if _ (fun c4032 => ?_) (fun c4032 => ?_)
    ·
      have i1_x3_8 : tq_iv 1600 1600 x3_8 := tq_cut i_x3_8 (tq_leR c4032 tk_1600 i_x3_8) (by decide) (by decide)
      exact K_96 
    ·
      have i2_x3_8 : tq_iv 0 1599 x3_8 := tq_cut i_x3_8 (tq_ltL (tq_nle c4032) i_x3_8 tk_1600) (by decide) (by decide)
      refine tz_if _ (fun c4031 => ?_) (fun c4031 => ?_)
      ·
        have i3_x2_8 : tq_iv 0 0 x2_8 := tq_cut i_x2_8 (tq_eqL c4031 tk_0) (by decide) (by decide)
        exact K_96 
      ·
        have i4_x2_8 : tq_iv 1 1 x2_8 := tq_w (tq_neLo c4031 i_x2_8 tk_0) (by decide) (by decide)
        refine tz_be (tg_4_3 T_σ_8 k_h0) (fun t_20 e4030 k_t_20 => ?_)
        refine tz_be (tg_9_4 T_σ_8 k_t_20) (fun t_23 e4029 i_t_23 => ?_)
        have K_43 : tz_O (fun z : Int32 × ez_H => (fun (z : Int32) (s : ez_H) => tq_iv 0 1 z ∧ tp p s) z.1 z.2) (z_X4_readSum_k5_43 k_8 σ_8 h0 x3_8) := by
          unfold z_X4_readSum_k5_43
          refine tz_bk e4030 ?_
          refine tz_ba e4029 (fun t_47 e4018 a4018 => ?_)
          have K_62 : ∀ (y0_62 : Int32), tq_iv 11 12 y0_62 → tz_O (fun z : Int32 × ez_H => (fun (z : Int32) (s : ez_H) => tq_iv 0 1 z ∧ tp p s) z.1 z.2) (z_X4_readSum_k5_62 k_8 σ_8 h0 x3_8 y0_62) := by
            intro y0_62 i_y0_62
            unfold z_X4_readSum_k5_62
            refine tz_bk e4030 ?_
            refine tz_b2 (tz_X9_advance T_σ_8 k_t_20) (fun _ σ4013 ⟨T4013, W4013⟩ => ?_)
            refine tz_b2 (tz_X4_readTerm_k5 T4013 k_h0) (fun t_73 σ4012 ⟨i_t_73, T4012⟩ => ?_)
            refine tz_be (tg_4_0 T4012 k_h0) (fun t_78 e4011 k_t_78 => ?_)
            refine tz_be (tg_3_1 T4012 k_t_78) (fun t_81 e4010 k_t_81 => ?_)
            refine tz_b2 (tz_X0_append T4012 k_t_81 (tq_w i_y0_62 (by decide) (by decide))) (fun _ σ4009 T4009 => ?_)
            refine tz_let (fun t_90 e4008 => ?_)
            have i5_t_90 : tq_iv 1 1600 t_90 := tq_w (tq_add e4008 i2_x3_8 tk_1 (by decide) (by decide)) (by decide) (by decide)
            exact hk_8 σ4009 t_73 t_90 T4009 i_t_73 (tq_w i5_t_90 (by decide) (by decide)) (tq_up e4008 i2_x3_8 tk_1 (by decide) (by decide) hn_8)
          refine tz_if _ (fun c4017 => ?_) (fun c4017 => ?_)
          ·
            have i6_t_47 : tq_iv 43 43 t_47 := tq_cut (tq_top t_47) (tq_eqL c4017 tk_43) (by decide) (by decide)
            exact K_62 (11 : Int32) (tq_w tk_11 (by decide) (by decide))
          ·
            exact K_62 (12 : Int32) (tq_w tk_12 (by decide) (by decide))
        refine tz_if _ (fun c4028 => ?_) (fun c4028 => ?_)
        ·
          have i7_t_23 : tq_iv 43 43 t_23 := tq_cut (tq_top t_23) (tq_eqL c4028 tk_43) (by decide) (by decide)
          exact K_43 
        ·
          refine tz_bk e4030 ?_
          refine tz_ba e4029 (fun t_35 e4026 a4026 => ?_)
          refine tz_if _ (fun c4025 => ?_) (fun c4025 => ?_)
          ·
            have i8_t_35 : tq_iv 45 45 t_35 := tq_cut (tq_top t_35) (tq_eqL c4025 tk_45) (by decide) (by decide)
            exact K_43 
          ·
            exact K_96 
  have E_8 : ∀ (σ_8 : ez_H) (x2_8 : Int32) (x3_8 : Int32), tp p σ_8 → tq_iv 0 1 x2_8 → tq_iv 0 1600 x3_8 → tz_O (fun z : Int32 × ez_H => (fun (z : Int32) (s : ez_H) => tq_iv 0 1 z ∧ tp p s) z.1 z.2) (ez_fix (fun _ _ _ _ => none) (z_X4_readSum_k5_8) ez_N σ_8 h0 x2_8 x3_8) := by
    intro σ_8 x2_8 x3_8 T_σ_8 i_x2_8 i_x3_8
    exact ez_fix_indn (fun n_8 (k_8 : ez_H → Nat → Int32 → Int32 → Option (Int32 × ez_H)) => ∀ (σ_8 : ez_H) (x2_8 : Int32) (x3_8 : Int32), tp p σ_8 → tq_iv 0 1 x2_8 → tq_iv 0 1600 x3_8 → (2147483647 - x3_8.toInt).toNat < n_8 → tz_O (fun z : Int32 × ez_H => (fun (z : Int32) (s : ez_H) => tq_iv 0 1 z ∧ tp p s) z.1 z.2) (k_8 σ_8 h0 x2_8 x3_8)) (by intros; rename_i h; exact absurd h (Nat.not_lt_zero _)) L_8 ez_N σ_8 x2_8 x3_8 T_σ_8 i_x2_8 i_x3_8 (tq_m0 x3_8)
  exact E_8 σ4034 t_2 (0 : Int32) T4034 i_t_2 (tq_w tk_0 (by decide) (by decide))
set_option maxRecDepth 4000 in
theorem tz_X4_readOne_k5 {p : tz_P} {σ : ez_H} {h0 : Nat} (hT : tp p σ) (k_h0 : tz_C h0 = some (3, 4, 0, 0)) : tz_O2 (fun (z : Int32) (s : ez_H) => tq_iv 0 1 z ∧ tp p s) (z_X4_readOne_k5 σ h0) := by
  show tz_O (fun z : Int32 × ez_H => (fun (z : Int32) (s : ez_H) => tq_iv 0 1 z ∧ tp p s) z.1 z.2) _
  unfold z_X4_readOne_k5
  refine tz_bd (tz_ob hT k_h0) (fun _ _ => ?_)
  refine tz_be (tg_4_3 hT k_h0) (fun t_1 e4061 k_t_1 => ?_)
  refine tz_be (tg_9_4 hT k_t_1) (fun t_4 e4060 i_t_4 => ?_)
  refine tz_if _ (fun c4059 => ?_) (fun c4059 => ?_)
  ·
    have i1_t_4 : tq_iv 18 18 t_4 := tq_cut (tq_top t_4) (tq_eqL c4059 tk_18) (by decide) (by decide)
    refine tz_bk e4061 ?_
    refine tz_b2 (tz_X9_advance hT k_t_1) (fun _ σ4044 ⟨T4044, W4044⟩ => ?_)
    refine tz_b2 (tz_X4_readOne_k6 T4044 k_h0) (fun t_34 σ4043 ⟨i_t_34, T4043⟩ => ?_)
    refine tz_be (tg_4_0 T4043 k_h0) (fun t_39 e4042 k_t_39 => ?_)
    refine tz_be (tg_3_1 T4043 k_t_39) (fun t_42 e4041 k_t_42 => ?_)
    refine tz_b2 (tz_X0_append T4043 k_t_42 (tq_w tk_5 (by decide) (by decide))) (fun _ σ4040 T4040 => ?_)
    refine tz_nr (tq_nr_boolean i_t_34) ?_
    exact tz_some ⟨i_t_34, T4040⟩
  ·
    refine tz_b2 (tz_X4_readSum_k5 hT k_h0) (fun t_54 σ4058 ⟨i_t_54, T4058⟩ => ?_)
    refine tz_bd (tz_X4_relationHere T4058 k_h0) (fun t_59 i_t_59 => ?_)
    have K_97 : ∀ (σ_97 : ez_H) (x2_97 : Int32), tp p σ_97 → tq_iv 0 1 x2_97 → (¬ x2_97 = 0 → tq_iv 1 1 t_54) → tz_O (fun z : Int32 × ez_H => (fun (z : Int32) (s : ez_H) => tq_iv 0 1 z ∧ tp p s) z.1 z.2) (z_X4_readOne_k5_97 σ_97 x2_97) := by
      intro σ_97 x2_97 T_σ_97 i_x2_97 g97_x2_97_t_54
      unfold z_X4_readOne_k5_97
      refine tz_nr (tq_nr_boolean i_x2_97) ?_
      exact tz_some ⟨i_x2_97, T_σ_97⟩
    refine tz_if _ (fun c4056 => ?_) (fun c4056 => ?_)
    ·
      have i2_t_54 : tq_iv 0 0 t_54 := tq_cut i_t_54 (tq_eqL c4056 tk_0) (by decide) (by decide)
      exact K_97 σ4058 t_54 T4058 (tq_w i2_t_54 (by decide) (by decide)) (fun h => absurd (tq_z0 i2_t_54) h)
    ·
      have i3_t_54 : tq_iv 1 1 t_54 := tq_w (tq_neLo c4056 i_t_54 tk_0) (by decide) (by decide)
      refine tz_if _ (fun c4055 => ?_) (fun c4055 => ?_)
      ·
        have i4_t_59 : tq_iv (-1) (-1) t_59 := tq_cut i_t_59 (tq_eqL c4055 tk_m1) (by decide) (by decide)
        exact K_97 σ4058 t_54 T4058 (tq_w i3_t_54 (by decide) (by decide)) (fun _ => i3_t_54)
      ·
        have i5_t_59 : tq_iv 0 10 t_59 := tq_w (tq_neLo c4055 i_t_59 tk_m1) (by decide) (by decide)
        refine tz_be (tg_4_3 T4058 k_h0) (fun t_73 e4054 k_t_73 => ?_)
        refine tz_b2 (tz_X9_advance T4058 k_t_73) (fun _ σ4053 ⟨T4053, W4053⟩ => ?_)
        refine tz_b2 (tz_X4_readSum_k5 T4053 k_h0) (fun t_81 σ4052 ⟨i_t_81, T4052⟩ => ?_)
        refine tz_be (tg_4_0 T4052 k_h0) (fun t_86 e4051 k_t_86 => ?_)
        refine tz_be (tg_3_1 T4052 k_t_86) (fun t_89 e4050 k_t_89 => ?_)
        refine tz_b2 (tz_X0_append T4052 k_t_89 (tq_w i5_t_59 (by decide) (by decide))) (fun _ σ4049 T4049 => ?_)
        exact K_97 σ4049 t_81 T4049 i_t_81 (fun _ => i3_t_54)
set_option maxRecDepth 4000 in
theorem tz_X4_readBoth_k5 {p : tz_P} {σ : ez_H} {h0 : Nat} (hT : tp p σ) (k_h0 : tz_C h0 = some (3, 4, 0, 0)) : tz_O2 (fun (z : Int32) (s : ez_H) => tq_iv 0 1 z ∧ tp p s) (z_X4_readBoth_k5 σ h0) := by
  show tz_O (fun z : Int32 × ez_H => (fun (z : Int32) (s : ez_H) => tq_iv 0 1 z ∧ tp p s) z.1 z.2) _
  unfold z_X4_readBoth_k5
  refine tz_bd (tz_ob hT k_h0) (fun _ _ => ?_)
  refine tz_b2 (tz_X4_readOne_k5 hT k_h0) (fun t_2 σ4082 ⟨i_t_2, T4082⟩ => ?_)
  have L_8 : ∀ (n_8 : Nat) (k_8 : ez_H → Nat → Int32 → Int32 → Option (Int32 × ez_H)), (∀ (σ_8 : ez_H) (x2_8 : Int32) (x3_8 : Int32), tp p σ_8 → tq_iv 0 1 x2_8 → tq_iv 0 1600 x3_8 → (2147483647 - x3_8.toInt).toNat < n_8 → tz_O (fun z : Int32 × ez_H => (fun (z : Int32) (s : ez_H) => tq_iv 0 1 z ∧ tp p s) z.1 z.2) (k_8 σ_8 h0 x2_8 x3_8)) → ∀ (σ_8 : ez_H) (x2_8 : Int32) (x3_8 : Int32), tp p σ_8 → tq_iv 0 1 x2_8 → tq_iv 0 1600 x3_8 → (2147483647 - x3_8.toInt).toNat < n_8 + 1 → tz_O (fun z : Int32 × ez_H => (fun (z : Int32) (s : ez_H) => tq_iv 0 1 z ∧ tp p s) z.1 z.2) (z_X4_readBoth_k5_8 k_8 σ_8 h0 x2_8 x3_8) := by
    intro n_8 k_8 hk_8 σ_8 x2_8 x3_8 T_σ_8 i_x2_8 i_x3_8 hn_8
    unfold z_X4_readBoth_k5_8
    have K_63 : tz_O (fun z : Int32 × ez_H => (fun (z : Int32) (s : ez_H) => tq_iv 0 1 z ∧ tp p s) z.1 z.2) (z_X4_readBoth_k5_63 σ_8 x2_8) := by
      unfold z_X4_readBoth_k5_63
      refine tz_nr (tq_nr_boolean i_x2_8) ?_
      exact tz_some ⟨i_x2_8, T_σ_8⟩
    refine tz_if _ (fun c4080 => ?_) (fun c4080 => ?_)
    ·
      have i1_x3_8 : tq_iv 1600 1600 x3_8 := tq_cut i_x3_8 (tq_leR c4080 tk_1600 i_x3_8) (by decide) (by decide)
      exact K_63 
    ·
      have i2_x3_8 : tq_iv 0 1599 x3_8 := tq_cut i_x3_8 (tq_ltL (tq_nle c4080) i_x3_8 tk_1600) (by decide) (by decide)
      refine tz_if _ (fun c4079 => ?_) (fun c4079 => ?_)
      ·
        have i3_x2_8 : tq_iv 0 0 x2_8 := tq_cut i_x2_8 (tq_eqL c4079 tk_0) (by decide) (by decide)
        exact K_63 
      ·
        have i4_x2_8 : tq_iv 1 1 x2_8 := tq_w (tq_neLo c4079 i_x2_8 tk_0) (by decide) (by decide)
        refine tz_be (tg_4_3 T_σ_8 k_h0) (fun t_20 e4078 k_t_20 => ?_)
        refine tz_be (tg_9_4 T_σ_8 k_t_20) (fun t_23 e4077 i_t_23 => ?_)
        refine tz_if _ (fun c4076 => ?_) (fun c4076 => ?_)
        ·
          have i5_t_23 : tq_iv 17 17 t_23 := tq_cut (tq_top t_23) (tq_eqL c4076 tk_17) (by decide) (by decide)
          refine tz_bk e4078 ?_
          refine tz_b2 (tz_X9_advance T_σ_8 k_t_20) (fun _ σ4073 ⟨T4073, W4073⟩ => ?_)
          refine tz_b2 (tz_X4_readOne_k5 T4073 k_h0) (fun t_40 σ4072 ⟨i_t_40, T4072⟩ => ?_)
          refine tz_be (tg_4_0 T4072 k_h0) (fun t_45 e4071 k_t_45 => ?_)
          refine tz_be (tg_3_1 T4072 k_t_45) (fun t_48 e4070 k_t_48 => ?_)
          refine tz_b2 (tz_X0_append T4072 k_t_48 (tq_w tk_7 (by decide) (by decide))) (fun _ σ4069 T4069 => ?_)
          refine tz_let (fun t_57 e4068 => ?_)
          have i6_t_57 : tq_iv 1 1600 t_57 := tq_w (tq_add e4068 i2_x3_8 tk_1 (by decide) (by decide)) (by decide) (by decide)
          exact hk_8 σ4069 t_40 t_57 T4069 i_t_40 (tq_w i6_t_57 (by decide) (by decide)) (tq_up e4068 i2_x3_8 tk_1 (by decide) (by decide) hn_8)
        ·
          exact K_63 
  have E_8 : ∀ (σ_8 : ez_H) (x2_8 : Int32) (x3_8 : Int32), tp p σ_8 → tq_iv 0 1 x2_8 → tq_iv 0 1600 x3_8 → tz_O (fun z : Int32 × ez_H => (fun (z : Int32) (s : ez_H) => tq_iv 0 1 z ∧ tp p s) z.1 z.2) (ez_fix (fun _ _ _ _ => none) (z_X4_readBoth_k5_8) ez_N σ_8 h0 x2_8 x3_8) := by
    intro σ_8 x2_8 x3_8 T_σ_8 i_x2_8 i_x3_8
    exact ez_fix_indn (fun n_8 (k_8 : ez_H → Nat → Int32 → Int32 → Option (Int32 × ez_H)) => ∀ (σ_8 : ez_H) (x2_8 : Int32) (x3_8 : Int32), tp p σ_8 → tq_iv 0 1 x2_8 → tq_iv 0 1600 x3_8 → (2147483647 - x3_8.toInt).toNat < n_8 → tz_O (fun z : Int32 × ez_H => (fun (z : Int32) (s : ez_H) => tq_iv 0 1 z ∧ tp p s) z.1 z.2) (k_8 σ_8 h0 x2_8 x3_8)) (by intros; rename_i h; exact absurd h (Nat.not_lt_zero _)) L_8 ez_N σ_8 x2_8 x3_8 T_σ_8 i_x2_8 i_x3_8 (tq_m0 x3_8)
  exact E_8 σ4082 t_2 (0 : Int32) T4082 i_t_2 (tq_w tk_0 (by decide) (by decide))
set_option maxRecDepth 4000 in
theorem tz_X4_readEither_k5 {p : tz_P} {σ : ez_H} {h0 : Nat} (hT : tp p σ) (k_h0 : tz_C h0 = some (3, 4, 0, 0)) : tz_O2 (fun (z : Int32) (s : ez_H) => tq_iv 0 1 z ∧ tp p s) (z_X4_readEither_k5 σ h0) := by
  show tz_O (fun z : Int32 × ez_H => (fun (z : Int32) (s : ez_H) => tq_iv 0 1 z ∧ tp p s) z.1 z.2) _
  unfold z_X4_readEither_k5
  refine tz_bd (tz_ob hT k_h0) (fun _ _ => ?_)
  refine tz_b2 (tz_X4_readBoth_k5 hT k_h0) (fun t_2 σ4103 ⟨i_t_2, T4103⟩ => ?_)
  have L_8 : ∀ (n_8 : Nat) (k_8 : ez_H → Nat → Int32 → Int32 → Option (Int32 × ez_H)), (∀ (σ_8 : ez_H) (x2_8 : Int32) (x3_8 : Int32), tp p σ_8 → tq_iv 0 1 x2_8 → tq_iv 0 1600 x3_8 → (2147483647 - x3_8.toInt).toNat < n_8 → tz_O (fun z : Int32 × ez_H => (fun (z : Int32) (s : ez_H) => tq_iv 0 1 z ∧ tp p s) z.1 z.2) (k_8 σ_8 h0 x2_8 x3_8)) → ∀ (σ_8 : ez_H) (x2_8 : Int32) (x3_8 : Int32), tp p σ_8 → tq_iv 0 1 x2_8 → tq_iv 0 1600 x3_8 → (2147483647 - x3_8.toInt).toNat < n_8 + 1 → tz_O (fun z : Int32 × ez_H => (fun (z : Int32) (s : ez_H) => tq_iv 0 1 z ∧ tp p s) z.1 z.2) (z_X4_readEither_k5_8 k_8 σ_8 h0 x2_8 x3_8) := by
    intro n_8 k_8 hk_8 σ_8 x2_8 x3_8 T_σ_8 i_x2_8 i_x3_8 hn_8
    unfold z_X4_readEither_k5_8
    have K_63 : tz_O (fun z : Int32 × ez_H => (fun (z : Int32) (s : ez_H) => tq_iv 0 1 z ∧ tp p s) z.1 z.2) (z_X4_readEither_k5_63 σ_8 x2_8) := by
      unfold z_X4_readEither_k5_63
      refine tz_nr (tq_nr_boolean i_x2_8) ?_
      exact tz_some ⟨i_x2_8, T_σ_8⟩
    refine tz_if _ (fun c4101 => ?_) (fun c4101 => ?_)
    ·
      have i1_x3_8 : tq_iv 1600 1600 x3_8 := tq_cut i_x3_8 (tq_leR c4101 tk_1600 i_x3_8) (by decide) (by decide)
      exact K_63 
    ·
      have i2_x3_8 : tq_iv 0 1599 x3_8 := tq_cut i_x3_8 (tq_ltL (tq_nle c4101) i_x3_8 tk_1600) (by decide) (by decide)
      refine tz_if _ (fun c4100 => ?_) (fun c4100 => ?_)
      ·
        have i3_x2_8 : tq_iv 0 0 x2_8 := tq_cut i_x2_8 (tq_eqL c4100 tk_0) (by decide) (by decide)
        exact K_63 
      ·
        have i4_x2_8 : tq_iv 1 1 x2_8 := tq_w (tq_neLo c4100 i_x2_8 tk_0) (by decide) (by decide)
        refine tz_be (tg_4_3 T_σ_8 k_h0) (fun t_20 e4099 k_t_20 => ?_)
        refine tz_be (tg_9_4 T_σ_8 k_t_20) (fun t_23 e4098 i_t_23 => ?_)
        refine tz_if _ (fun c4097 => ?_) (fun c4097 => ?_)
        ·
          have i5_t_23 : tq_iv 16 16 t_23 := tq_cut (tq_top t_23) (tq_eqL c4097 tk_16) (by decide) (by decide)
          refine tz_bk e4099 ?_
          refine tz_b2 (tz_X9_advance T_σ_8 k_t_20) (fun _ σ4094 ⟨T4094, W4094⟩ => ?_)
          refine tz_b2 (tz_X4_readBoth_k5 T4094 k_h0) (fun t_40 σ4093 ⟨i_t_40, T4093⟩ => ?_)
          refine tz_be (tg_4_0 T4093 k_h0) (fun t_45 e4092 k_t_45 => ?_)
          refine tz_be (tg_3_1 T4093 k_t_45) (fun t_48 e4091 k_t_48 => ?_)
          refine tz_b2 (tz_X0_append T4093 k_t_48 (tq_w tk_6 (by decide) (by decide))) (fun _ σ4090 T4090 => ?_)
          refine tz_let (fun t_57 e4089 => ?_)
          have i6_t_57 : tq_iv 1 1600 t_57 := tq_w (tq_add e4089 i2_x3_8 tk_1 (by decide) (by decide)) (by decide) (by decide)
          exact hk_8 σ4090 t_40 t_57 T4090 i_t_40 (tq_w i6_t_57 (by decide) (by decide)) (tq_up e4089 i2_x3_8 tk_1 (by decide) (by decide) hn_8)
        ·
          exact K_63 
  have E_8 : ∀ (σ_8 : ez_H) (x2_8 : Int32) (x3_8 : Int32), tp p σ_8 → tq_iv 0 1 x2_8 → tq_iv 0 1600 x3_8 → tz_O (fun z : Int32 × ez_H => (fun (z : Int32) (s : ez_H) => tq_iv 0 1 z ∧ tp p s) z.1 z.2) (ez_fix (fun _ _ _ _ => none) (z_X4_readEither_k5_8) ez_N σ_8 h0 x2_8 x3_8) := by
    intro σ_8 x2_8 x3_8 T_σ_8 i_x2_8 i_x3_8
    exact ez_fix_indn (fun n_8 (k_8 : ez_H → Nat → Int32 → Int32 → Option (Int32 × ez_H)) => ∀ (σ_8 : ez_H) (x2_8 : Int32) (x3_8 : Int32), tp p σ_8 → tq_iv 0 1 x2_8 → tq_iv 0 1600 x3_8 → (2147483647 - x3_8.toInt).toNat < n_8 → tz_O (fun z : Int32 × ez_H => (fun (z : Int32) (s : ez_H) => tq_iv 0 1 z ∧ tp p s) z.1 z.2) (k_8 σ_8 h0 x2_8 x3_8)) (by intros; rename_i h; exact absurd h (Nat.not_lt_zero _)) L_8 ez_N σ_8 x2_8 x3_8 T_σ_8 i_x2_8 i_x3_8 (tq_m0 x3_8)
  exact E_8 σ4103 t_2 (0 : Int32) T4103 i_t_2 (tq_w tk_0 (by decide) (by decide))
set_option maxRecDepth 4000 in
theorem tz_X4_readUnit_k4 {p : tz_P} {σ : ez_H} {h0 : Nat} (hT : tp p σ) (k_h0 : tz_C h0 = some (3, 4, 0, 0)) : tz_O2 (fun (z : Int32) (s : ez_H) => tq_iv 0 1 z ∧ tp p s) (z_X4_readUnit_k4 σ h0) := by
  show tz_O (fun z : Int32 × ez_H => (fun (z : Int32) (s : ez_H) => tq_iv 0 1 z ∧ tp p s) z.1 z.2) _
  unfold z_X4_readUnit_k4
  refine tz_bd (tz_ob hT k_h0) (fun _ _ => ?_)
  refine tz_be (tg_4_3 hT k_h0) (fun t_1 e4154 k_t_1 => ?_)
  refine tz_be (tg_9_4 hT k_t_1) (fun t_4 e4153 i_t_4 => ?_)
  have K_17 : ∀ (y0_17 : Int32), tq_iv 0 1 y0_17 → (¬ y0_17 = 0 → tq_iv 40 40 t_4) → tz_O (fun z : Int32 × ez_H => (fun (z : Int32) (s : ez_H) => tq_iv 0 1 z ∧ tp p s) z.1 z.2) (z_X4_readUnit_k4_17 σ h0 y0_17) := by
    intro y0_17 i_y0_17 g17_y0_17_t_4
    unfold z_X4_readUnit_k4_17
    refine tz_bd (tz_X4_unitHere hT k_h0) (fun t_19 i_t_19 => ?_)
    have K_47 : tz_O (fun z : Int32 × ez_H => (fun (z : Int32) (s : ez_H) => tq_iv 0 1 z ∧ tp p s) z.1 z.2) (z_X4_readUnit_k4_47 σ h0) := by
      unfold z_X4_readUnit_k4_47
      refine tz_b2 (tz_X4_refuse hT k_h0) (fun t_48 σ4135 ⟨i_t_48, T4135, W4135⟩ => ?_)
      refine tz_nr (tq_nr_boolean (tq_w i_t_48 (by decide) (by decide))) ?_
      exact tz_some ⟨(tq_w i_t_48 (by decide) (by decide)), T4135⟩
    have K_32 : tz_O (fun z : Int32 × ez_H => (fun (z : Int32) (s : ez_H) => tq_iv 0 1 z ∧ tp p s) z.1 z.2) (z_X4_readUnit_k4_32 σ h0 y0_17 t_19) := by
      unfold z_X4_readUnit_k4_32
      refine tz_be (tg_4_0 hT k_h0) (fun t_33 e4143 k_t_33 => ?_)
      refine tz_be (tg_3_1 hT k_t_33) (fun t_36 e4142 k_t_36 => ?_)
      refine tz_be (tg_0_0 hT k_t_36) (fun t_39 e4141 i_t_39 => ?_)
      refine tz_if _ (fun c4140 => ?_) (fun c4140 => ?_)
      ·
        have i1_t_39 : tq_iv (-2147483648) 29 t_39 := tq_cut (tq_top t_39) (tq_ltL c4140 (tq_top t_39) tk_30) (by decide) (by decide)
        have K_67 : tz_O (fun z : Int32 × ez_H => (fun (z : Int32) (s : ez_H) => tq_iv 0 1 z ∧ tp p s) z.1 z.2) (z_X4_readUnit_k4_67 σ h0 y0_17 t_19) := by
          unfold z_X4_readUnit_k4_67
          refine tz_bk e4143 ?_
          refine tz_bk e4142 ?_
          refine tz_ba e4141 (fun t_75 e4130 a4130 => ?_)
          have i2_t_75 : tq_iv (-2147483648) 29 t_75 := tq_eqL a4130 i1_t_39
          refine tz_let (fun t_79 e4129 => ?_)
          have i3_t_79 : tq_iv (-2147483647) 30 t_79 := tq_w (tq_add e4129 i2_t_75 tk_1 (by decide) (by decide)) (by decide) (by decide)
          refine tz_be (tw_0_0 hT k_t_36 (tq_top t_79)) (fun σ4128 e4128 T4128 => ?_)
          have K_105 : ∀ (σ_105 : ez_H), tp p σ_105 → tz_O (fun z : Int32 × ez_H => (fun (z : Int32) (s : ez_H) => tq_iv 0 1 z ∧ tp p s) z.1 z.2) (z_X4_readUnit_k4_105 σ_105 h0 y0_17) := by
            intro σ_105 T_σ_105
            unfold z_X4_readUnit_k4_105
            refine tz_be (tg_4_3 T_σ_105 k_h0) (fun t_106 e4119 k_t_106 => ?_)
            refine tz_b2 (tz_X9_advance T_σ_105 k_t_106) (fun _ σ4118 ⟨T4118, W4118⟩ => ?_)
            have K_140 : ∀ (σ_140 : ez_H) (y0_140 : Int32), tp p σ_140 → tq_iv 0 1 y0_140 → tz_O (fun z : Int32 × ez_H => (fun (z : Int32) (s : ez_H) => tq_iv 0 1 z ∧ tp p s) z.1 z.2) (z_X4_readUnit_k4_140 σ_140 y0_140) := by
              intro σ_140 y0_140 T_σ_140 i_y0_140
              unfold z_X4_readUnit_k4_140
              refine tz_nr (tq_nr_boolean i_y0_140) ?_
              exact tz_some ⟨i_y0_140, T_σ_140⟩
            have K_135 : ∀ (σ_135 : ez_H), tp p σ_135 → tz_O (fun z : Int32 × ez_H => (fun (z : Int32) (s : ez_H) => tq_iv 0 1 z ∧ tp p s) z.1 z.2) (z_X4_readUnit_k4_135 σ_135) := by
              intro σ_135 T_σ_135
              unfold z_X4_readUnit_k4_135
              exact K_140 σ_135 (1 : Int32) T_σ_135 (tq_w tk_1 (by decide) (by decide))
            refine tz_if _ (fun c4117 => ?_) (fun c4117 => ?_)
            ·
              have i4_y0_17 : tq_iv 0 0 y0_17 := tq_cut i_y0_17 (tq_eqL c4117 tk_0) (by decide) (by decide)
              exact K_135 σ4118 T4118
            ·
              have i5_t_4 : tq_iv 40 40 t_4 := tq_cut (tq_top t_4) (g17_y0_17_t_4 c4117) (by decide) (by decide)
              have i6_y0_17 : tq_iv 1 1 y0_17 := tq_w (tq_neLo c4117 i_y0_17 tk_0) (by decide) (by decide)
              refine tz_b2 (tz_X4_readEither_k5 T4118 k_h0) (fun t_120 σ4116 ⟨i_t_120, T4116⟩ => ?_)
              have K_139 : ∀ (σ_139 : ez_H), tp p σ_139 → tz_O (fun z : Int32 × ez_H => (fun (z : Int32) (s : ez_H) => tq_iv 0 1 z ∧ tp p s) z.1 z.2) (z_X4_readUnit_k4_139 σ_139) := by
                intro σ_139 T_σ_139
                unfold z_X4_readUnit_k4_139
                exact K_140 σ_139 (0 : Int32) T_σ_139 (tq_w tk_0 (by decide) (by decide))
              refine tz_if _ (fun c4115 => ?_) (fun c4115 => ?_)
              ·
                have i7_t_120 : tq_iv 0 0 t_120 := tq_cut i_t_120 (tq_eqL c4115 tk_0) (by decide) (by decide)
                exact K_139 σ4116 T4116
              ·
                have i8_t_120 : tq_iv 1 1 t_120 := tq_w (tq_neLo c4115 i_t_120 tk_0) (by decide) (by decide)
                refine tz_b2 (tz_X4_expect T4116 k_h0 (tq_w tk_41 (by decide) (by decide))) (fun t_129 σ4114 ⟨i_t_129, T4114, W4114⟩ => ?_)
                refine tz_if _ (fun c4113 => ?_) (fun c4113 => ?_)
                ·
                  have i9_t_129 : tq_iv 0 0 t_129 := tq_cut i_t_129 (tq_eqL c4113 tk_0) (by decide) (by decide)
                  exact K_139 σ4114 T4114
                ·
                  have i10_t_129 : tq_iv 1 1 t_129 := tq_w (tq_neLo c4113 i_t_129 tk_0) (by decide) (by decide)
                  exact K_135 σ4114 T4114
          refine tz_if _ (fun c4127 => ?_) (fun c4127 => ?_)
          ·
            have i11_y0_17 : tq_iv 0 0 y0_17 := tq_cut i_y0_17 (tq_eqL c4127 tk_0) (by decide) (by decide)
            refine tz_bk ((fr_pf_v e4128 (fun h => absurd h.2.1 (by decide))).2.2.trans e4143) ?_
            refine tz_bk ((fr_pf_v e4128 (fun h => absurd h.2.1 (by decide))).2.2.trans e4142) ?_
            refine tz_bk ((fr_pf_v e4128 (fun h => absurd h.2.1 (by decide))).2.2.trans e4154) ?_
            refine tz_be (tg_9_6 T4128 k_t_1) (fun t_99 e4122 i_t_99 => ?_)
            refine tz_b2 (tz_X0_append T4128 k_t_36 (tq_w i_t_19 (by decide) (by decide))) (fun _ σ4121 T4121 => ?_)
            exact K_105 σ4121 T4121
          ·
            have i12_t_4 : tq_iv 40 40 t_4 := tq_cut (tq_top t_4) (g17_y0_17_t_4 c4127) (by decide) (by decide)
            have i13_y0_17 : tq_iv 1 1 y0_17 := tq_w (tq_neLo c4127 i_y0_17 tk_0) (by decide) (by decide)
            exact K_105 σ4128 T4128
        refine tz_if _ (fun c4138 => ?_) (fun c4138 => ?_)
        ·
          have i14_y0_17 : tq_iv 0 0 y0_17 := tq_cut i_y0_17 (tq_eqL c4138 tk_0) (by decide) (by decide)
          exact K_67 
        ·
          have i15_t_4 : tq_iv 40 40 t_4 := tq_cut (tq_top t_4) (g17_y0_17_t_4 c4138) (by decide) (by decide)
          have i16_y0_17 : tq_iv 1 1 y0_17 := tq_w (tq_neLo c4138 i_y0_17 tk_0) (by decide) (by decide)
          exact K_67 
      ·
        have i17_t_39 : tq_iv 30 2147483647 t_39 := tq_cut (tq_top t_39) (tq_leR (tq_nlt c4140) tk_30 (tq_top t_39)) (by decide) (by decide)
        exact K_47 
    refine tz_if _ (fun c4148 => ?_) (fun c4148 => ?_)
    ·
      have i18_y0_17 : tq_iv 0 0 y0_17 := tq_cut i_y0_17 (tq_eqL c4148 tk_0) (by decide) (by decide)
      refine tz_if _ (fun c4146 => ?_) (fun c4146 => ?_)
      ·
        have i19_t_19 : tq_iv (-1) (-1) t_19 := tq_cut i_t_19 (tq_eqL c4146 tk_m1) (by decide) (by decide)
        exact K_47 
      ·
        have i20_t_19 : tq_iv 0 4 t_19 := tq_w (tq_neLo c4146 i_t_19 tk_m1) (by decide) (by decide)
        exact K_32 
    ·
      have i21_t_4 : tq_iv 40 40 t_4 := tq_cut (tq_top t_4) (g17_y0_17_t_4 c4148) (by decide) (by decide)
      have i22_y0_17 : tq_iv 1 1 y0_17 := tq_w (tq_neLo c4148 i_y0_17 tk_0) (by decide) (by decide)
      exact K_32 
  refine tz_if _ (fun c4152 => ?_) (fun c4152 => ?_)
  ·
    have i23_t_4 : tq_iv 40 40 t_4 := tq_cut (tq_top t_4) (tq_eqL c4152 tk_40) (by decide) (by decide)
    exact K_17 (1 : Int32) (tq_w tk_1 (by decide) (by decide)) (fun _ => i23_t_4)
  ·
    exact K_17 (0 : Int32) (tq_w tk_0 (by decide) (by decide)) (fun h => absurd rfl h)
