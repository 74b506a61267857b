set_option maxRecDepth 4000 in
theorem tz_X12_lies {p : tz_P} {σ : ez_H} {h0 : Nat} {x1 : Int32} (hT : tp p σ) (k_h0 : tz_C h0 = some (3, 12, 0, 0)) : tz_O (fun z => tq_iv (-2147483648) 2147483647 z) (z_X12_lies σ h0 x1) := by
  unfold z_X12_lies
  refine tz_bd (tz_ob hT k_h0) (fun _ _ => ?_)
  refine tz_be (tg_12_57 hT k_h0) (fun t_3 e7796 i_t_3 => ?_)
  refine tz_let (fun t_7 e7795 => ?_)
  have i1_t_7 : tq_iv (-1) 5 t_7 := tq_w (tq_sub e7795 i_t_3 tk_1 (by decide) (by decide)) (by decide) (by decide)
  refine tz_bd (tz_X12_isIn hT) (fun t_8 ⟨i_t_8, g_t_8⟩ => ?_)
  have K_25 : ∀ (y0_25 : Int32), tz_O (fun (z : Int32) => tq_iv (-2147483648) 2147483647 z) (z_X12_lies_25 σ y0_25) := by
    intro y0_25
    unfold z_X12_lies_25
    exact tz_some (tq_top y0_25)
  refine tz_if _ (fun c7793 => ?_) (fun c7793 => ?_)
  ·
    have i2_t_8 : tq_iv 0 0 t_8 := tq_cut i_t_8 (tq_eqL c7793 tk_0) (by decide) (by decide)
    exact K_25 (-2 : Int32)
  ·
    have i3_x1 : tq_iv 0 5 x1 := tq_cut (tq_top x1) (tq_cut (lo := 0) (hi := 5) (tq_cut (lo := 0) (hi := 2147483647) (tq_top x1) (tq_leR (g_t_8 c7793).1 tk_0 (tq_top x1)) (by decide) (by decide)) (tq_leL (g_t_8 c7793).2 (tq_top x1) i1_t_7) (by decide) (by decide)) (by decide) (by decide)
    have i4_t_7 : tq_iv 0 5 t_7 := tq_cut i1_t_7 (tq_leR (g_t_8 c7793).2 i3_x1 i1_t_7) (by decide) (by decide)
    have i5_t_8 : tq_iv 1 1 t_8 := tq_w (tq_neLo c7793 i_t_8 tk_0) (by decide) (by decide)
    refine tz_bk (tr_56 hT k_h0) ?_
    refine tz_be (tz_ia hT tc_208 (te_0 (p := p)) i3_x1 (by decide) (by decide)) (fun t_19 e7791 i_t_19 => ?_)
    exact K_25 t_19
set_option maxRecDepth 4000 in
theorem tz_X12_keysThatOpen {p : tz_P} {σ : ez_H} {h0 : Nat} {x1 : Int32} (hT : tp p σ) (k_h0 : tz_C h0 = some (3, 12, 0, 0)) (i_x1 : tq_iv 0 5 x1) : tz_O (fun z => tq_iv (-2147483648) 2147483647 z) (z_X12_keysThatOpen σ h0 x1) := by
  unfold z_X12_keysThatOpen
  refine tz_bd (tz_ob hT k_h0) (fun _ _ => ?_)
  have L_4 : ∀ (n_4 : Nat) (k_4 : Nat → Int32 → Int32 → Int32 → Option (Int32)), (∀ (x2_4 : Int32) (x3_4 : Int32), tq_iv 0 8 x3_4 → (2147483647 - x3_4.toInt).toNat < n_4 → tz_O (fun (z : Int32) => tq_iv (-2147483648) 2147483647 z) (k_4 h0 x1 x2_4 x3_4)) → ∀ (x2_4 : Int32) (x3_4 : Int32), tq_iv 0 8 x3_4 → (2147483647 - x3_4.toInt).toNat < n_4 + 1 → tz_O (fun (z : Int32) => tq_iv (-2147483648) 2147483647 z) (z_X12_keysThatOpen_4 σ k_4 h0 x1 x2_4 x3_4) := by
    intro n_4 k_4 hk_4 x2_4 x3_4 i_x3_4 hn_4
    unfold z_X12_keysThatOpen_4
    refine tz_bd (tz_X12_many hT k_h0) (fun t_6 i_t_6 => ?_)
    refine tz_if _ (fun c7807 => ?_) (fun c7807 => ?_)
    ·
      exact tz_some (tq_top x2_4)
    ·
      have i1_x3_4 : tq_iv 0 7 x3_4 := tq_cut i_x3_4 (tq_ltL (tq_nle c7807) i_x3_4 i_t_6) (by decide) (by decide)
      have i2_t_6 : tq_iv 1 8 t_6 := tq_cut i_t_6 (tq_ltR (tq_nle c7807) i_x3_4 i_t_6) (by decide) (by decide)
      refine tz_bd (tz_X12_opensBy hT k_h0 i1_x3_4 i_x1) (fun t_15 i_t_15 => ?_)
      have K_27 : ∀ (x2_27 : Int32), tz_O (fun (z : Int32) => tq_iv (-2147483648) 2147483647 z) (z_X12_keysThatOpen_27 σ k_4 h0 x1 x2_27 x3_4) := by
        intro x2_27
        unfold z_X12_keysThatOpen_27
        refine tz_let (fun t_27 e7799 => ?_)
        have i3_t_27 : tq_iv 1 8 t_27 := tq_w (tq_add e7799 i1_x3_4 tk_1 (by decide) (by decide)) (by decide) (by decide)
        exact hk_4 x2_27 t_27 (tq_w i3_t_27 (by decide) (by decide)) (tq_up e7799 i1_x3_4 tk_1 (by decide) (by decide) hn_4)
      refine tz_if _ (fun c7805 => ?_) (fun c7805 => ?_)
      ·
        have i4_t_15 : tq_iv 0 0 t_15 := tq_cut i_t_15 (tq_eqL c7805 tk_0) (by decide) (by decide)
        exact K_27 x2_4
      ·
        have i5_t_15 : tq_iv 1 1 t_15 := tq_w (tq_neLo c7805 i_t_15 tk_0) (by decide) (by decide)
        refine tz_let (fun t_24 e7804 => ?_)
        have i6_t_24 : tq_iv 1 128 t_24 := tq_shl1 e7804 i1_x3_4 (by decide) (by decide) (by decide) (by decide)
        refine tz_let (fun t_25 e7803 => ?_)
        exact K_27 t_25
  have E_4 : ∀ (x2_4 : Int32) (x3_4 : Int32), tq_iv 0 8 x3_4 → tz_O (fun (z : Int32) => tq_iv (-2147483648) 2147483647 z) (ez_fix (fun _ _ _ _ => none) (z_X12_keysThatOpen_4 σ) ez_N h0 x1 x2_4 x3_4) := by
    intro x2_4 x3_4 i_x3_4
    exact ez_fix_indn (fun n_4 (k_4 : Nat → Int32 → Int32 → Int32 → Option (Int32)) => ∀ (x2_4 : Int32) (x3_4 : Int32), tq_iv 0 8 x3_4 → (2147483647 - x3_4.toInt).toNat < n_4 → tz_O (fun (z : Int32) => tq_iv (-2147483648) 2147483647 z) (k_4 h0 x1 x2_4 x3_4)) (by intros; rename_i h; exact absurd h (Nat.not_lt_zero _)) L_4 ez_N x2_4 x3_4 i_x3_4 (tq_m0 x3_4)
  exact E_4 (0 : Int32) (0 : Int32) (tq_w tk_0 (by decide) (by decide))
set_option maxRecDepth 4000 in
theorem tz_X12_partsIn {p : tz_P} {σ : ez_H} {h0 : Nat} {x1 : Int32} (hT : tp p σ) (k_h0 : tz_C h0 = some (3, 12, 0, 0)) (i_x1 : tq_iv 0 5 x1) : tz_O (fun z => tq_iv (-2147483648) 2147483647 z) (z_X12_partsIn σ h0 x1) := by
  unfold z_X12_partsIn
  refine tz_bd (tz_ob hT k_h0) (fun _ _ => ?_)
  have L_4 : ∀ (n_4 : Nat) (k_4 : Nat → Int32 → Int32 → Int32 → Option (Int32)), (∀ (x2_4 : Int32) (x3_4 : Int32), tq_iv 0 5 x3_4 → (2147483647 - x3_4.toInt).toNat < n_4 → tz_O (fun (z : Int32) => tq_iv (-2147483648) 2147483647 z) (k_4 h0 x1 x2_4 x3_4)) → ∀ (x2_4 : Int32) (x3_4 : Int32), tq_iv 0 5 x3_4 → (2147483647 - x3_4.toInt).toNat < n_4 + 1 → tz_O (fun (z : Int32) => tq_iv (-2147483648) 2147483647 z) (z_X12_partsIn_4 σ k_4 h0 x1 x2_4 x3_4) := by
    intro n_4 k_4 hk_4 x2_4 x3_4 i_x3_4 hn_4
    unfold z_X12_partsIn_4
    refine tz_bd (tz_X12_wide hT k_h0) (fun t_6 i_t_6 => ?_)
    refine tz_if _ (fun c7817 => ?_) (fun c7817 => ?_)
    ·
      have i1_x3_4 : tq_iv 2 5 x3_4 := tq_cut i_x3_4 (tq_leR c7817 i_t_6 i_x3_4) (by decide) (by decide)
      exact tz_some (tq_top x2_4)
    ·
      have i2_x3_4 : tq_iv 0 4 x3_4 := tq_cut i_x3_4 (tq_ltL (tq_nle c7817) i_x3_4 i_t_6) (by decide) (by decide)
      refine tz_bd (tz_X12_partsOf hT k_h0 i_x1 i2_x3_4) (fun t_16 i_t_16 => ?_)
      refine tz_bd (tz_X12_bitsOf hT) (fun t_19 i_t_19 => ?_)
      refine tz_let (fun t_22 e7814 => ?_)
      refine tz_let (fun t_24 e7813 => ?_)
      have i3_t_24 : tq_iv 1 5 t_24 := tq_w (tq_add e7813 i2_x3_4 tk_1 (by decide) (by decide)) (by decide) (by decide)
      exact hk_4 t_22 t_24 (tq_w i3_t_24 (by decide) (by decide)) (tq_up e7813 i2_x3_4 tk_1 (by decide) (by decide) hn_4)
  have E_4 : ∀ (x2_4 : Int32) (x3_4 : Int32), tq_iv 0 5 x3_4 → tz_O (fun (z : Int32) => tq_iv (-2147483648) 2147483647 z) (ez_fix (fun _ _ _ _ => none) (z_X12_partsIn_4 σ) ez_N h0 x1 x2_4 x3_4) := by
    intro x2_4 x3_4 i_x3_4
    exact ez_fix_indn (fun n_4 (k_4 : Nat → Int32 → Int32 → Int32 → Option (Int32)) => ∀ (x2_4 : Int32) (x3_4 : Int32), tq_iv 0 5 x3_4 → (2147483647 - x3_4.toInt).toNat < n_4 → tz_O (fun (z : Int32) => tq_iv (-2147483648) 2147483647 z) (k_4 h0 x1 x2_4 x3_4)) (by intros; rename_i h; exact absurd h (Nat.not_lt_zero _)) L_4 ez_N x2_4 x3_4 i_x3_4 (tq_m0 x3_4)
  exact E_4 (0 : Int32) (0 : Int32) (tq_w tk_0 (by decide) (by decide))
set_option maxRecDepth 4000 in
theorem tz_X12_lock {p : tz_P} {σ : ez_H} {h0 : Nat} {x1 : Int32} {x2 : Int32} (hT : tp p σ) (k_h0 : tz_C h0 = some (3, 12, 0, 0)) : tz_O (fun z => tq_iv (-2147483648) 2147483647 z) (z_X12_lock σ h0 x1 x2) := by
  unfold z_X12_lock
  refine tz_bd (tz_ob hT k_h0) (fun _ _ => ?_)
  refine tz_bd (tz_X12_isLock hT k_h0) (fun t_2 ⟨i_t_2, g_t_2⟩ => ?_)
  refine tz_if _ (fun c7835 => ?_) (fun c7835 => ?_)
  ·
    have i1_t_2 : tq_iv 0 0 t_2 := tq_cut i_t_2 (tq_eqL c7835 tk_0) (by decide) (by decide)
    exact tz_some (tq_top (-1 : Int32))
  ·
    have i2_x1 : tq_iv 0 5 x1 := tq_cut (tq_top x1) (g_t_2 c7835) (by decide) (by decide)
    have i3_t_2 : tq_iv 1 1 t_2 := tq_w (tq_neLo c7835 i_t_2 tk_0) (by decide) (by decide)
    refine tz_if _ (fun c7834 => ?_) (fun c7834 => ?_)
    ·
      have i4_x2 : tq_iv 0 0 x2 := tq_cut (tq_top x2) (tq_eqL c7834 tk_0) (by decide) (by decide)
      refine tz_bd (tz_X12_partsIn hT k_h0 i2_x1) (fun t_42 i_t_42 => ?_)
      exact tz_some (tq_top t_42)
    ·
      refine tz_if _ (fun c7833 => ?_) (fun c7833 => ?_)
      ·
        have i5_x2 : tq_iv 1 1 x2 := tq_cut (tq_top x2) (tq_eqL c7833 tk_1) (by decide) (by decide)
        refine tz_bd (tz_X12_keysThatOpen hT k_h0 i2_x1) (fun t_48 i_t_48 => ?_)
        exact tz_some (tq_top t_48)
      ·
        refine tz_if _ (fun c7832 => ?_) (fun c7832 => ?_)
        ·
          have i6_x2 : tq_iv 2 2 x2 := tq_cut (tq_top x2) (tq_eqL c7832 tk_2) (by decide) (by decide)
          refine tz_bd (tz_X12_mustOf hT k_h0 i2_x1) (fun t_54 i_t_54 => ?_)
          exact tz_some (tq_top t_54)
        ·
          refine tz_if _ (fun c7831 => ?_) (fun c7831 => ?_)
          ·
            have i7_x2 : tq_iv 3 3 x2 := tq_cut (tq_top x2) (tq_eqL c7831 tk_3) (by decide) (by decide)
            refine tz_bd (tz_X12_neverOf hT k_h0 i2_x1) (fun t_60 i_t_60 => ?_)
            exact tz_some (tq_top t_60)
          ·
            exact tz_some (tq_top (-1 : Int32))
set_option maxRecDepth 4000 in
theorem tz_X12_lose {p : tz_P} {σ : ez_H} {h0 : Nat} {x1 : Int32} (hT : tp p σ) (k_h0 : tz_C h0 = some (3, 12, 0, 0)) : tz_O2 (fun (z : Int32) (s : ez_H) => tq_iv (-3) 3 z ∧ tp p s) (z_X12_lose σ h0 x1) := by
  show tz_O (fun z : Int32 × ez_H => (fun (z : Int32) (s : ez_H) => tq_iv (-3) 3 z ∧ tp p s) z.1 z.2) _
  unfold z_X12_lose
  refine tz_bd (tz_ob hT k_h0) (fun _ _ => ?_)
  refine tz_bd (tz_X12_isKey hT k_h0) (fun t_2 ⟨i_t_2, g_t_2⟩ => ?_)
  have K_30 : ∀ (σ_30 : ez_H) (y0_30 : Int32), tp p σ_30 → tq_iv (-3) 3 y0_30 → tz_O (fun z : Int32 × ez_H => (fun (z : Int32) (s : ez_H) => tq_iv (-3) 3 z ∧ tp p s) z.1 z.2) (z_X12_lose_30 σ_30 y0_30) := by
    intro σ_30 y0_30 T_σ_30 i_y0_30
    unfold z_X12_lose_30
    exact tz_some ⟨i_y0_30, T_σ_30⟩
  have K_28 : tz_O (fun z : Int32 × ez_H => (fun (z : Int32) (s : ez_H) => tq_iv (-3) 3 z ∧ tp p s) z.1 z.2) (z_X12_lose_28 σ) := by
    unfold z_X12_lose_28
    exact K_30 σ (-3 : Int32) hT (tq_w tk_m3 (by decide) (by decide))
  refine tz_if _ (fun c7846 => ?_) (fun c7846 => ?_)
  ·
    have i1_t_2 : tq_iv 0 0 t_2 := tq_cut i_t_2 (tq_eqL c7846 tk_0) (by decide) (by decide)
    exact K_28 
  ·
    have i2_x1 : tq_iv 0 7 x1 := tq_cut (tq_top x1) (g_t_2 c7846) (by decide) (by decide)
    have i3_t_2 : tq_iv 1 1 t_2 := tq_w (tq_neLo c7846 i_t_2 tk_0) (by decide) (by decide)
    refine tz_bd (tz_X12_holderOf hT k_h0 i2_x1) (fun t_10 i_t_10 => ?_)
    refine tz_if _ (fun c7844 => ?_) (fun c7844 => ?_)
    ·
      have i4_t_10 : tq_iv (-2) (-2) t_10 := tq_cut i_t_10 (tq_eqL c7844 tk_m2) (by decide) (by decide)
      exact K_28 
    ·
      have i5_t_10 : tq_iv (-1) 3 t_10 := tq_w (tq_neLo c7844 i_t_10 tk_m2) (by decide) (by decide)
      refine tz_b2 (tz_X12_hand hT k_h0 i2_x1 (tq_w tk_m2 (by decide) (by decide))) (fun t_22 σ7843 ⟨i_t_22, T7843⟩ => ?_)
      exact K_30 σ7843 t_22 T7843 (tq_w i_t_22 (by decide) (by decide))
set_option maxRecDepth 4000 in
theorem tz_X12_master {p : tz_P} {σ : ez_H} {h0 : Nat} {x1 : Int32} (hT : tp p σ) (k_h0 : tz_C h0 = some (3, 12, 0, 0)) : tz_O (fun z => tq_iv (-2147483648) 2147483647 z) (z_X12_master σ h0 x1) := by
  unfold z_X12_master
  refine tz_bd (tz_ob hT k_h0) (fun _ _ => ?_)
  refine tz_bd (tz_X12_isIn hT) (fun t_3 ⟨i_t_3, g_t_3⟩ => ?_)
  refine tz_if _ (fun c7872 => ?_) (fun c7872 => ?_)
  ·
    have i1_t_3 : tq_iv 0 0 t_3 := tq_cut i_t_3 (tq_eqL c7872 tk_0) (by decide) (by decide)
    exact tz_some (tq_top (-1 : Int32))
  ·
    have i2_x1 : tq_iv 0 2 x1 := tq_cut (tq_top x1) (tq_cut (lo := 0) (hi := 2) (tq_cut (lo := 0) (hi := 2147483647) (tq_top x1) (tq_leR (g_t_3 c7872).1 tk_0 (tq_top x1)) (by decide) (by decide)) (tq_leL (g_t_3 c7872).2 (tq_top x1) tk_2) (by decide) (by decide)) (by decide) (by decide)
    have i3_t_3 : tq_iv 1 1 t_3 := tq_w (tq_neLo c7872 i_t_3 tk_0) (by decide) (by decide)
    have L_18 : ∀ (n_18 : Nat) (k_18 : Nat → Int32 → Int32 → Int32 → Int32 → Option (Int32)), (∀ (x2_18 : Int32) (x3_18 : Int32) (x4_18 : Int32), tq_iv (-1) 2147483646 x2_18 → tq_iv 0 7776 x4_18 → (2147483647 - x4_18.toInt).toNat < n_18 → tz_O (fun (z : Int32) => tq_iv (-2147483648) 2147483647 z) (k_18 h0 x1 x2_18 x3_18 x4_18)) → ∀ (x2_18 : Int32) (x3_18 : Int32) (x4_18 : Int32), tq_iv (-1) 2147483646 x2_18 → tq_iv 0 7776 x4_18 → (2147483647 - x4_18.toInt).toNat < n_18 + 1 → tz_O (fun (z : Int32) => tq_iv (-2147483648) 2147483647 z) (z_X12_master_18 σ k_18 h0 x1 x2_18 x3_18 x4_18) := by
      intro n_18 k_18 hk_18 x2_18 x3_18 x4_18 i_x2_18 i_x4_18 hn_18
      unfold z_X12_master_18
      refine tz_bd (tz_X12_bittings hT k_h0) (fun t_21 i_t_21 => ?_)
      refine tz_if _ (fun c7868 => ?_) (fun c7868 => ?_)
      ·
        have i4_x4_18 : tq_iv 1 7776 x4_18 := tq_cut i_x4_18 (tq_leR c7868 i_t_21 i_x4_18) (by decide) (by decide)
        have K_93 : ∀ (y0_93 : Int32), tz_O (fun (z : Int32) => tq_iv (-2147483648) 2147483647 z) (z_X12_master_93 σ y0_93) := by
          intro y0_93
          unfold z_X12_master_93
          exact tz_some (tq_top y0_93)
        refine tz_if _ (fun c7857 => ?_) (fun c7857 => ?_)
        ·
          have i5_x1 : tq_iv 0 0 x1 := tq_cut i2_x1 (tq_eqL c7857 tk_0) (by decide) (by decide)
          exact K_93 x2_18
        ·
          have i6_x1 : tq_iv 1 2 x1 := tq_w (tq_neLo c7857 i2_x1 tk_0) (by decide) (by decide)
          refine tz_if _ (fun c7856 => ?_) (fun c7856 => ?_)
          ·
            have i7_x1 : tq_iv 1 1 x1 := tq_cut i6_x1 (tq_eqL c7856 tk_1) (by decide) (by decide)
            exact K_93 x3_18
          ·
            have i8_x1 : tq_iv 2 2 x1 := tq_w (tq_neLo c7856 i6_x1 tk_1) (by decide) (by decide)
            refine tz_bd (tz_X12_openedBy hT k_h0) (fun t_90 i_t_90 => ?_)
            exact K_93 t_90
      ·
        have i9_x4_18 : tq_iv 0 7775 x4_18 := tq_cut i_x4_18 (tq_ltL (tq_nle c7868) i_x4_18 i_t_21) (by decide) (by decide)
        refine tz_bd (tz_X12_isLegal hT k_h0) (fun t_30 ⟨i_t_30, g_t_30⟩ => ?_)
        have K_65 : ∀ (x2_65 : Int32) (x3_65 : Int32), tq_iv (-1) 2147483646 x2_65 → tz_O (fun (z : Int32) => tq_iv (-2147483648) 2147483647 z) (z_X12_master_65 σ k_18 h0 x1 x2_65 x3_65 x4_18) := by
          intro x2_65 x3_65 i_x2_65
          unfold z_X12_master_65
          refine tz_let (fun t_65 e7851 => ?_)
          have i10_t_65 : tq_iv 1 7776 t_65 := tq_w (tq_add e7851 i9_x4_18 tk_1 (by decide) (by decide)) (by decide) (by decide)
          exact hk_18 x2_65 x3_65 t_65 i_x2_65 (tq_w i10_t_65 (by decide) (by decide)) (tq_up e7851 i9_x4_18 tk_1 (by decide) (by decide) hn_18)
        refine tz_if _ (fun c7866 => ?_) (fun c7866 => ?_)
        ·
          have i11_t_30 : tq_iv 0 0 t_30 := tq_cut i_t_30 (tq_eqL c7866 tk_0) (by decide) (by decide)
          exact K_65 x2_18 x3_18 i_x2_18
        ·
          have i12_t_30 : tq_iv 1 1 t_30 := tq_w (tq_neLo c7866 i_t_30 tk_0) (by decide) (by decide)
          refine tz_bd (tz_X12_openedBy hT k_h0) (fun t_39 i_t_39 => ?_)
          refine tz_bd (tz_X12_bitsOf hT) (fun t_42 i_t_42 => ?_)
          refine tz_if _ (fun c7863 => ?_) (fun c7863 => ?_)
          ·
            have i13_x3_18 : tq_iv (-2147483648) 2147483646 x3_18 := tq_cut (tq_top x3_18) (tq_ltL c7863 (tq_top x3_18) (tq_top t_42)) (by decide) (by decide)
            have i14_t_42 : tq_iv (-2147483647) 2147483647 t_42 := tq_cut (tq_top t_42) (tq_ltR c7863 (tq_top x3_18) (tq_top t_42)) (by decide) (by decide)
            refine tz_bd (tz_X12_openedBy hT k_h0) (fun t_58 i_t_58 => ?_)
            refine tz_bd (tz_X12_bitsOf hT) (fun t_61 i_t_61 => ?_)
            exact K_65 x4_18 t_61 (tq_w i9_x4_18 (by decide) (by decide))
          ·
            exact K_65 x2_18 x3_18 i_x2_18
    have E_18 : ∀ (x2_18 : Int32) (x3_18 : Int32) (x4_18 : Int32), tq_iv (-1) 2147483646 x2_18 → tq_iv 0 7776 x4_18 → tz_O (fun (z : Int32) => tq_iv (-2147483648) 2147483647 z) (ez_fix (fun _ _ _ _ _ => none) (z_X12_master_18 σ) ez_N h0 x1 x2_18 x3_18 x4_18) := by
      intro x2_18 x3_18 x4_18 i_x2_18 i_x4_18
      exact ez_fix_indn (fun n_18 (k_18 : Nat → Int32 → Int32 → Int32 → Int32 → Option (Int32)) => ∀ (x2_18 : Int32) (x3_18 : Int32) (x4_18 : Int32), tq_iv (-1) 2147483646 x2_18 → tq_iv 0 7776 x4_18 → (2147483647 - x4_18.toInt).toNat < n_18 → tz_O (fun (z : Int32) => tq_iv (-2147483648) 2147483647 z) (k_18 h0 x1 x2_18 x3_18 x4_18)) (by intros; rename_i h; exact absurd h (Nat.not_lt_zero _)) L_18 ez_N x2_18 x3_18 x4_18 i_x2_18 i_x4_18 (tq_m0 x4_18)
    exact E_18 (-1 : Int32) (-1 : Int32) (0 : Int32) (tq_w tk_m1 (by decide) (by decide)) (tq_w tk_0 (by decide) (by decide))
theorem tz_X12_divisor {p : tz_P} {σ : ez_H} {x0 x1 : Int32} (_ : tp p σ) (i0 : tq_iv 1 2147483647 x0) (i1 : tq_iv 0 2147483647 x1) : tz_O (fun z => tq_iv 1 2147483647 z) (z_X12_divisor σ x0 x1) := by
  have L : ∀ (n : Nat) (k : Int32 → Int32 → Option Int32), (∀ x2 x3 : Int32, tq_iv 1 2147483647 x2 → tq_iv 0 2147483647 x3 → x3.toInt.toNat < n → tz_O (fun z => tq_iv 1 2147483647 z) (k x2 x3)) → ∀ x2 x3 : Int32, tq_iv 1 2147483647 x2 → tq_iv 0 2147483647 x3 → x3.toInt.toNat < n + 1 → tz_O (fun z => tq_iv 1 2147483647 z) (z_X12_divisor_4 σ k x2 x3) := by
    intro n k hk x2 x3 h2 h3 hn
    unfold z_X12_divisor_4
    refine tz_if _ (fun _ => tz_some h2) (fun c => ?_)
    rw [Int32.le_iff_toInt_le] at c
    have z0 : (0 : Int32).toInt = 0 := by decide
    have h3' : tq_iv 1 2147483647 x3 := ⟨by omega, h3.2⟩
    refine tz_nz (tq_nz h3' (by decide)) ?_
    refine tz_let (fun t e => ?_)
    have hr := tq_remT h2 h3' (by decide) (by decide)
    rw [← e] at hr
    have l1 : 0 ≤ x2.toInt % x3.toInt := Int.emod_nonneg _ (by omega)
    have l2 : x2.toInt % x3.toInt < x3.toInt := Int.emod_lt_of_pos _ (by omega)
    exact hk x3 t h3' ⟨by omega, (tq_top t).2⟩ (by omega)
  unfold z_X12_divisor
  exact ez_fix_indn (fun n (k : Int32 → Int32 → Option Int32) => ∀ x2 x3 : Int32, tq_iv 1 2147483647 x2 → tq_iv 0 2147483647 x3 → x3.toInt.toNat < n → tz_O (fun z => tq_iv 1 2147483647 z) (k x2 x3)) (by intros; rename_i h; exact absurd h (Nat.not_lt_zero _)) L ez_N x0 x1 i0 i1 (by show _ < 4294967296; have := i1.2; omega)
set_option maxRecDepth 4000 in
theorem tz_X12_odds {p : tz_P} {σ : ez_H} {h0 : Nat} {x1 : Int32} {x2 : Int32} (hT : tp p σ) (k_h0 : tz_C h0 = some (3, 12, 0, 0)) : tz_O (fun z => tq_iv (-1) 2147483647 z) (z_X12_odds σ h0 x1 x2) := by
  unfold z_X12_odds
  refine tz_bd (tz_ob hT k_h0) (fun _ _ => ?_)
  refine tz_bd (tz_X12_isLock hT k_h0) (fun t_2 ⟨i_t_2, g_t_2⟩ => ?_)
  have K_17 : tz_O (fun (z : Int32) => tq_iv (-1) 2147483647 z) (z_X12_odds_17 σ) := by
    unfold z_X12_odds_17
    exact tz_some (tq_w tk_m1 (by decide) (by decide))
  refine tz_if _ (fun c7896 => ?_) (fun c7896 => ?_)
  ·
    have i1_t_2 : tq_iv 0 0 t_2 := tq_cut i_t_2 (tq_eqL c7896 tk_0) (by decide) (by decide)
    exact K_17 
  ·
    have i2_x1 : tq_iv 0 5 x1 := tq_cut (tq_top x1) (g_t_2 c7896) (by decide) (by decide)
    have i3_t_2 : tq_iv 1 1 t_2 := tq_w (tq_neLo c7896 i_t_2 tk_0) (by decide) (by decide)
    refine tz_bd (tz_X12_isIn hT) (fun t_11 ⟨i_t_11, g_t_11⟩ => ?_)
    refine tz_if _ (fun c7894 => ?_) (fun c7894 => ?_)
    ·
      have i4_t_11 : tq_iv 0 0 t_11 := tq_cut i_t_11 (tq_eqL c7894 tk_0) (by decide) (by decide)
      exact K_17 
    ·
      have i5_x2 : tq_iv 0 1 x2 := tq_cut (tq_top x2) (tq_cut (lo := 0) (hi := 1) (tq_cut (lo := 0) (hi := 2147483647) (tq_top x2) (tq_leR (g_t_11 c7894).1 tk_0 (tq_top x2)) (by decide) (by decide)) (tq_leL (g_t_11 c7894).2 (tq_top x2) tk_1) (by decide) (by decide)) (by decide) (by decide)
      have i6_t_11 : tq_iv 1 1 t_11 := tq_w (tq_neLo c7894 i_t_11 tk_0) (by decide) (by decide)
      refine tz_let (fun t_22 e7893 => ?_)
      have i7_t_22 : tq_iv 1 32 t_22 := tq_shl1 e7893 i2_x1 (by decide) (by decide) (by decide) (by decide)
      refine tz_bd (tz_X12_openers hT k_h0) (fun t_23 i_t_23 => ?_)
      refine tz_bd (tz_X12_legal hT k_h0) (fun t_28 i_t_28 => ?_)
      have K_43 : ∀ (y0_43 : Int32), tq_iv 0 2147483647 y0_43 → tz_O (fun (z : Int32) => tq_iv (-1) 2147483647 z) (z_X12_odds_43 σ t_23 t_28 y0_43) := by
        intro y0_43 i_y0_43
        unfold z_X12_odds_43
        refine tz_bd (tz_X12_divisor hT i_t_28 i_t_23) (fun t_46 i_t_46 => ?_)
        refine tz_nz (tq_nz i_t_46 (by decide)) ?_
        refine tz_let (fun t_49 e7883 => ?_)
        have i8_t_49 : tq_iv 0 2147483647 t_49 := tq_div e7883 i_y0_43 i_t_46 (by decide) (by decide)
        exact tz_some (tq_w i8_t_49 (by decide) (by decide))
      refine tz_if _ (fun c7890 => ?_) (fun c7890 => ?_)
      ·
        have i9_x2 : tq_iv 0 0 x2 := tq_cut i5_x2 (tq_eqL c7890 tk_0) (by decide) (by decide)
        exact K_43 t_23 i_t_23
      ·
        have i10_x2 : tq_iv 1 1 x2 := tq_w (tq_neLo c7890 i5_x2 tk_0) (by decide) (by decide)
        exact K_43 t_28 (tq_w i_t_28 (by decide) (by decide))
set_option maxRecDepth 4000 in
theorem tz_X12_opens {p : tz_P} {σ : ez_H} {h0 : Nat} {x1 : Int32} {x2 : Int32} (hT : tp p σ) (k_h0 : tz_C h0 = some (3, 12, 0, 0)) : tz_O (fun z => tq_iv (-1) 1 z) (z_X12_opens σ h0 x1 x2) := by
  unfold z_X12_opens
  refine tz_bd (tz_ob hT k_h0) (fun _ _ => ?_)
  refine tz_bd (tz_X12_isLegal hT k_h0) (fun t_2 ⟨i_t_2, g_t_2⟩ => ?_)
  have K_16 : tz_O (fun (z : Int32) => tq_iv (-1) 1 z) (z_X12_opens_16 σ) := by
    unfold z_X12_opens_16
    exact tz_some (tq_w tk_m1 (by decide) (by decide))
  refine tz_if _ (fun c7909 => ?_) (fun c7909 => ?_)
  ·
    have i1_t_2 : tq_iv 0 0 t_2 := tq_cut i_t_2 (tq_eqL c7909 tk_0) (by decide) (by decide)
    exact K_16 
  ·
    have i2_x1 : tq_iv 0 7775 x1 := tq_cut (tq_top x1) (g_t_2 c7909) (by decide) (by decide)
    have i3_t_2 : tq_iv 1 1 t_2 := tq_w (tq_neLo c7909 i_t_2 tk_0) (by decide) (by decide)
    refine tz_bd (tz_X12_isLock hT k_h0) (fun t_10 ⟨i_t_10, g_t_10⟩ => ?_)
    refine tz_if _ (fun c7907 => ?_) (fun c7907 => ?_)
    ·
      have i4_t_10 : tq_iv 0 0 t_10 := tq_cut i_t_10 (tq_eqL c7907 tk_0) (by decide) (by decide)
      exact K_16 
    ·
      have i5_x2 : tq_iv 0 5 x2 := tq_cut (tq_top x2) (g_t_10 c7907) (by decide) (by decide)
      have i6_t_10 : tq_iv 1 1 t_10 := tq_w (tq_neLo c7907 i_t_10 tk_0) (by decide) (by decide)
      refine tz_bd (tz_X12_doesOpen hT k_h0 i5_x2) (fun t_21 i_t_21 => ?_)
      have K_32 : ∀ (y0_32 : Int32), tq_iv 0 1 y0_32 → (¬ y0_32 = 0 → tq_iv 1 1 t_21) → tz_O (fun (z : Int32) => tq_iv (-1) 1 z) (z_X12_opens_32 σ y0_32) := by
        intro y0_32 i_y0_32 g32_y0_32_t_21
        unfold z_X12_opens_32
        exact tz_some (tq_w i_y0_32 (by decide) (by decide))
      refine tz_if _ (fun c7905 => ?_) (fun c7905 => ?_)
      ·
        have i7_t_21 : tq_iv 0 0 t_21 := tq_cut i_t_21 (tq_eqL c7905 tk_0) (by decide) (by decide)
        exact K_32 (0 : Int32) (tq_w tk_0 (by decide) (by decide)) (fun h => absurd rfl h)
      ·
        have i8_t_21 : tq_iv 1 1 t_21 := tq_w (tq_neLo c7905 i_t_21 tk_0) (by decide) (by decide)
        exact K_32 (1 : Int32) (tq_w tk_1 (by decide) (by decide)) (fun _ => i8_t_21)
set_option maxRecDepth 4000 in
theorem tz_X12_part {p : tz_P} {σ : ez_H} {h0 : Nat} {x1 : Int32} {x2 : Int32} {x3 : Int32} (hT : tp p σ) (k_h0 : tz_C h0 = some (3, 12, 0, 0)) : tz_O2 (fun (z : Int32) (s : ez_H) => tq_iv (-2147483648) 2147483647 z ∧ tp p s) (z_X12_part σ h0 x1 x2 x3) := by
  show tz_O (fun z : Int32 × ez_H => (fun (z : Int32) (s : ez_H) => tq_iv (-2147483648) 2147483647 z ∧ tp p s) z.1 z.2) _
  unfold z_X12_part
  refine tz_bd (tz_ob hT k_h0) (fun _ _ => ?_)
  refine tz_bd (tz_X12_isLock hT k_h0) (fun t_2 ⟨i_t_2, g_t_2⟩ => ?_)
  have K_42 : tz_O (fun z : Int32 × ez_H => (fun (z : Int32) (s : ez_H) => tq_iv (-2147483648) 2147483647 z ∧ tp p s) z.1 z.2) (z_X12_part_42 σ) := by
    unfold z_X12_part_42
    exact tz_some ⟨(tq_top (-1 : Int32)), hT⟩
  refine tz_if _ (fun c7937 => ?_) (fun c7937 => ?_)
  ·
    have i1_t_2 : tq_iv 0 0 t_2 := tq_cut i_t_2 (tq_eqL c7937 tk_0) (by decide) (by decide)
    exact K_42 
  ·
    have i2_x1 : tq_iv 0 5 x1 := tq_cut (tq_top x1) (g_t_2 c7937) (by decide) (by decide)
    have i3_t_2 : tq_iv 1 1 t_2 := tq_w (tq_neLo c7937 i_t_2 tk_0) (by decide) (by decide)
    refine tz_bd (tz_X12_isChamber hT k_h0) (fun t_10 ⟨i_t_10, g_t_10⟩ => ?_)
    refine tz_if _ (fun c7935 => ?_) (fun c7935 => ?_)
    ·
      have i4_t_10 : tq_iv 0 0 t_10 := tq_cut i_t_10 (tq_eqL c7935 tk_0) (by decide) (by decide)
      exact K_42 
    ·
      have i5_x2 : tq_iv 0 4 x2 := tq_cut (tq_top x2) (g_t_10 c7935) (by decide) (by decide)
      have i6_t_10 : tq_iv 1 1 t_10 := tq_w (tq_neLo c7935 i_t_10 tk_0) (by decide) (by decide)
      refine tz_bd (tz_X12_deep hT k_h0) (fun t_19 i_t_19 => ?_)
      refine tz_let (fun t_23 e7933 => ?_)
      have i7_t_23 : tq_iv 1 5 t_23 := tq_w (tq_sub e7933 i_t_19 tk_1 (by decide) (by decide)) (by decide) (by decide)
      refine tz_bd (tz_X12_isIn hT) (fun t_24 ⟨i_t_24, g_t_24⟩ => ?_)
      refine tz_if _ (fun c7931 => ?_) (fun c7931 => ?_)
      ·
        have i8_t_24 : tq_iv 0 0 t_24 := tq_cut i_t_24 (tq_eqL c7931 tk_0) (by decide) (by decide)
        exact K_42 
      ·
        have i9_x3 : tq_iv 0 5 x3 := tq_cut (tq_top x3) (tq_cut (lo := 0) (hi := 5) (tq_cut (lo := 0) (hi := 2147483647) (tq_top x3) (tq_leR (g_t_24 c7931).1 tk_0 (tq_top x3)) (by decide) (by decide)) (tq_leL (g_t_24 c7931).2 (tq_top x3) i7_t_23) (by decide) (by decide)) (by decide) (by decide)
        have i10_t_24 : tq_iv 1 1 t_24 := tq_w (tq_neLo c7931 i_t_24 tk_0) (by decide) (by decide)
        refine tz_bd (tz_X12_partsOf hT k_h0 i2_x1 i5_x2) (fun t_33 i_t_33 => ?_)
        refine tz_let (fun t_38 e7929 => ?_)
        have i11_t_38 : tq_iv 1 32 t_38 := tq_shl1 e7929 i9_x3 (by decide) (by decide) (by decide) (by decide)
        refine tz_if _ (fun c7928 => ?_) (fun c7928 => ?_)
        ·
          have i12_t_33 : tq_iv 1 32 t_33 := tq_cut (tq_top t_33) (tq_eqL c7928 i11_t_38) (by decide) (by decide)
          exact K_42 
        ·
          refine tz_b2 (tz_X12_keepAct hT k_h0) (fun _ σ7927 T7927 => ?_)
          refine tz_bk (tr_53 T7927 k_h0) ?_
          refine tz_let (fun t_56 e7925 => ?_)
          have i13_t_56 : tq_iv 0 25 t_56 := tq_w (tq_mul e7925 tk_5 i2_x1 (by decide) (by decide) (by decide)) (by decide) (by decide)
          refine tz_let (fun t_57 e7924 => ?_)
          have i14_t_57 : tq_iv 56 81 t_57 := tq_w (tq_add e7924 tk_56 i13_t_56 (by decide) (by decide)) (by decide) (by decide)
          refine tz_let (fun t_59 e7923 => ?_)
          have i15_t_59 : tq_iv 56 85 t_59 := tq_w (tq_add e7923 i14_t_57 i5_x2 (by decide) (by decide)) (by decide) (by decide)
          refine tz_be (tz_iaS T7927 tc_205 (ts_205 (p := p) 56 85 (-2147483648) 2147483647 (by decide)) i15_t_59 (by decide) (by decide)) (fun t_61 e7922 i_t_61 => ?_)
          refine tz_let (fun t_64 e7921 => ?_)
          have i16_t_64 : tq_iv 1 32 t_64 := tq_shl1 e7921 i9_x3 (by decide) (by decide) (by decide) (by decide)
          refine tz_let (fun t_65 e7920 => ?_)
          refine tz_be (tz_isS T7927 tc_205 (tS_205 (p := p) 56 85 (-2147483648) 2147483647 (by decide)) i15_t_59 (by decide) (by decide) (tq_top t_65)) (fun σ7919 e7919 T7919 => ?_)
          refine tz_bd (tz_X12_partsOf T7919 k_h0 i2_x1 i5_x2) (fun t_70 i_t_70 => ?_)
          exact tz_some ⟨(tq_top t_70), T7919⟩
set_option maxRecDepth 4000 in
theorem tz_X12_parts {p : tz_P} {σ : ez_H} {h0 : Nat} {x1 : Int32} {x2 : Int32} (hT : tp p σ) (k_h0 : tz_C h0 = some (3, 12, 0, 0)) : tz_O (fun z => tq_iv (-2147483648) 2147483647 z) (z_X12_parts σ h0 x1 x2) := by
  unfold z_X12_parts
  refine tz_bd (tz_ob hT k_h0) (fun _ _ => ?_)
  refine tz_bd (tz_X12_isLock hT k_h0) (fun t_2 ⟨i_t_2, g_t_2⟩ => ?_)
  have K_26 : ∀ (y0_26 : Int32), tz_O (fun (z : Int32) => tq_iv (-2147483648) 2147483647 z) (z_X12_parts_26 σ y0_26) := by
    intro y0_26
    unfold z_X12_parts_26
    exact tz_some (tq_top y0_26)
  have K_25 : tz_O (fun (z : Int32) => tq_iv (-2147483648) 2147483647 z) (z_X12_parts_25 σ) := by
    unfold z_X12_parts_25
    exact K_26 (-1 : Int32)
  refine tz_if _ (fun c7948 => ?_) (fun c7948 => ?_)
  ·
    have i1_t_2 : tq_iv 0 0 t_2 := tq_cut i_t_2 (tq_eqL c7948 tk_0) (by decide) (by decide)
    exact K_25 
  ·
    have i2_x1 : tq_iv 0 5 x1 := tq_cut (tq_top x1) (g_t_2 c7948) (by decide) (by decide)
    have i3_t_2 : tq_iv 1 1 t_2 := tq_w (tq_neLo c7948 i_t_2 tk_0) (by decide) (by decide)
    refine tz_bd (tz_X12_isChamber hT k_h0) (fun t_10 ⟨i_t_10, g_t_10⟩ => ?_)
    refine tz_if _ (fun c7946 => ?_) (fun c7946 => ?_)
    ·
      have i4_t_10 : tq_iv 0 0 t_10 := tq_cut i_t_10 (tq_eqL c7946 tk_0) (by decide) (by decide)
      exact K_25 
    ·
      have i5_x2 : tq_iv 0 4 x2 := tq_cut (tq_top x2) (g_t_10 c7946) (by decide) (by decide)
      have i6_t_10 : tq_iv 1 1 t_10 := tq_w (tq_neLo c7946 i_t_10 tk_0) (by decide) (by decide)
      refine tz_bd (tz_X12_partsOf hT k_h0 i2_x1 i5_x2) (fun t_19 i_t_19 => ?_)
      exact K_26 t_19
set_option maxRecDepth 4000 in
theorem tz_X12_person {p : tz_P} {σ : ez_H} {h0 : Nat} {x1 : Int32} {x2 : Int32} (hT : tp p σ) (k_h0 : tz_C h0 = some (3, 12, 0, 0)) : tz_O (fun z => tq_iv (-2147483648) 2147483647 z) (z_X12_person σ h0 x1 x2) := by
  unfold z_X12_person
  refine tz_bd (tz_ob hT k_h0) (fun _ _ => ?_)
  refine tz_bd (tz_X12_isPerson hT k_h0) (fun t_2 ⟨i_t_2, g_t_2⟩ => ?_)
  refine tz_if _ (fun c7964 => ?_) (fun c7964 => ?_)
  ·
    have i1_t_2 : tq_iv 0 0 t_2 := tq_cut i_t_2 (tq_eqL c7964 tk_0) (by decide) (by decide)
    exact tz_some (tq_top (-1 : Int32))
  ·
    have i2_x1 : tq_iv 0 3 x1 := tq_cut (tq_top x1) (g_t_2 c7964) (by decide) (by decide)
    have i3_t_2 : tq_iv 1 1 t_2 := tq_w (tq_neLo c7964 i_t_2 tk_0) (by decide) (by decide)
    refine tz_if _ (fun c7963 => ?_) (fun c7963 => ?_)
    ·
      have i4_x2 : tq_iv 0 0 x2 := tq_cut (tq_top x2) (tq_eqL c7963 tk_0) (by decide) (by decide)
      refine tz_bk (tr_53 hT k_h0) ?_
      refine tz_let (fun t_43 e7954 => ?_)
      have i5_t_43 : tq_iv 86 89 t_43 := tq_w (tq_add e7954 tk_86 i2_x1 (by decide) (by decide)) (by decide) (by decide)
      refine tz_be (tz_iaS hT tc_205 (ts_205 (p := p) 86 89 0 5 (by decide)) i5_t_43 (by decide) (by decide)) (fun t_44 e7953 i_t_44 => ?_)
      exact tz_some (tq_top t_44)
    ·
      refine tz_if _ (fun c7962 => ?_) (fun c7962 => ?_)
      ·
        have i6_x2 : tq_iv 1 1 x2 := tq_cut (tq_top x2) (tq_eqL c7962 tk_1) (by decide) (by decide)
        refine tz_bd (tz_X12_keysOf hT k_h0 i2_x1) (fun t_48 i_t_48 => ?_)
        exact tz_some (tq_top t_48)
      ·
        refine tz_if _ (fun c7961 => ?_) (fun c7961 => ?_)
        ·
          have i7_x2 : tq_iv 2 2 x2 := tq_cut (tq_top x2) (tq_eqL c7961 tk_2) (by decide) (by decide)
          refine tz_bd (tz_X12_reachOf hT k_h0 i2_x1) (fun t_54 i_t_54 => ?_)
          exact tz_some (tq_top t_54)
        ·
          exact tz_some (tq_top (-1 : Int32))
set_option maxRecDepth 4000 in
theorem tz_X12_pin {p : tz_P} {σ : ez_H} {h0 : Nat} {x1 : Int32} {x2 : Int32} (hT : tp p σ) (k_h0 : tz_C h0 = some (3, 12, 0, 0)) : tz_O2 (fun (z : Int32) (s : ez_H) => tq_iv (-2147483648) 2147483647 z ∧ tp p s) (z_X12_pin σ h0 x1 x2) := by
  show tz_O (fun z : Int32 × ez_H => (fun (z : Int32) (s : ez_H) => tq_iv (-2147483648) 2147483647 z ∧ tp p s) z.1 z.2) _
  unfold z_X12_pin
  refine tz_bd (tz_ob hT k_h0) (fun _ _ => ?_)
  refine tz_bd (tz_X12_isLock hT k_h0) (fun t_2 ⟨i_t_2, g_t_2⟩ => ?_)
  have K_27 : tz_O (fun z : Int32 × ez_H => (fun (z : Int32) (s : ez_H) => tq_iv (-2147483648) 2147483647 z ∧ tp p s) z.1 z.2) (z_X12_pin_27 σ) := by
    unfold z_X12_pin_27
    exact tz_some ⟨(tq_top (-1 : Int32)), hT⟩
  refine tz_if _ (fun c7982 => ?_) (fun c7982 => ?_)
  ·
    have i1_t_2 : tq_iv 0 0 t_2 := tq_cut i_t_2 (tq_eqL c7982 tk_0) (by decide) (by decide)
    exact K_27 
  ·
    have i2_x1 : tq_iv 0 5 x1 := tq_cut (tq_top x1) (g_t_2 c7982) (by decide) (by decide)
    have i3_t_2 : tq_iv 1 1 t_2 := tq_w (tq_neLo c7982 i_t_2 tk_0) (by decide) (by decide)
    refine tz_if _ (fun c7981 => ?_) (fun c7981 => ?_)
    ·
      have i4_x2 : tq_iv 0 0 x2 := tq_cut (tq_top x2) (tq_eqL c7981 tk_0) (by decide) (by decide)
      exact K_27 
    ·
      refine tz_bd (tz_X12_many hT k_h0) (fun t_15 i_t_15 => ?_)
      refine tz_let (fun t_18 e7979 => ?_)
      have i5_t_18 : tq_iv 1 256 t_18 := tq_shl1 e7979 i_t_15 (by decide) (by decide) (by decide) (by decide)
      refine tz_let (fun t_20 e7978 => ?_)
      have i6_t_20 : tq_iv 0 255 t_20 := tq_w (tq_sub e7978 i5_t_18 tk_1 (by decide) (by decide)) (by decide) (by decide)
      refine tz_let (fun t_22 e7977 => ?_)
      refine tz_let (fun t_23 e7976 => ?_)
      refine tz_if _ (fun c7975 => ?_) (fun c7975 => ?_)
      ·
        have i7_t_23 : tq_iv 0 0 t_23 := tq_cut (tq_top t_23) (tq_eqL c7975 tk_0) (by decide) (by decide)
        refine tz_b2 (tz_X12_keepAct hT k_h0) (fun _ σ7973 T7973 => ?_)
        refine tz_b2 (tz_X12_pinFor T7973 k_h0 i2_x1) (fun _ σ7972 T7972 => ?_)
        refine tz_bd (tz_X12_partsIn T7972 k_h0 i2_x1) (fun t_41 i_t_41 => ?_)
        exact tz_some ⟨(tq_top t_41), T7972⟩
      ·
        exact K_27
set_option maxRecDepth 4000 in
theorem tz_X12_sign {p : tz_P} {σ : ez_H} {h0 : Nat} {x1 : Int32} (hT : tp p σ) (k_h0 : tz_C h0 = some (3, 12, 0, 0)) (i_x1 : tq_iv 0 1601 x1) : tz_O (fun z => tq_iv 0 255 z) (z_X12_sign σ h0 x1) := by
  unfold z_X12_sign
  refine tz_bd (tz_ob hT k_h0) (fun _ _ => ?_)
  refine tz_be (tg_12_3 hT k_h0) (fun t_2 e7992 i_t_2 => ?_)
  have K_22 : ∀ (y0_22 : Int32), tq_iv 0 255 y0_22 → tz_O (fun (z : Int32) => tq_iv 0 255 z) (z_X12_sign_22 σ y0_22) := by
    intro y0_22 i_y0_22
    unfold z_X12_sign_22
    exact tz_some i_y0_22
  refine tz_if _ (fun c7991 => ?_) (fun c7991 => ?_)
  ·
    exact K_22 (0 : Int32) (tq_w tk_0 (by decide) (by decide))
  ·
    have i1_x1 : tq_iv 0 1599 x1 := tq_cut i_x1 (tq_ltL (tq_nle c7991) i_x1 i_t_2) (by decide) (by decide)
    have i2_t_2 : tq_iv 1 1600 t_2 := tq_cut i_t_2 (tq_ltR (tq_nle c7991) i_x1 i_t_2) (by decide) (by decide)
    refine tz_bk (tr_1 hT k_h0) ?_
    refine tz_be (tz_ia hT tc_172 (te_1 (p := p)) i1_x1 (by decide) (by decide)) (fun t_13 e7989 i_t_13 => ?_)
    refine tz_let (fun t_17 e7988 => ?_)
    have i3_t_17 : tq_iv 0 255 t_17 := tq_and2 e7988 tk_255 (by decide)
    exact K_22 t_17 i3_t_17
set_option maxRecDepth 4000 in
theorem tz_X12_isKept {p : tz_P} {σ : ez_H} {x0 : Int64} (hT : tp p σ) : tz_O (fun z => tq_iv 0 1 z) (z_X12_isKept σ x0) := by
  unfold z_X12_isKept
  refine tz_let (fun t_4 e8070 => ?_)
  have i1_t_4 : tq_iv (-1) 1 t_4 := tq_cmp e8070
  have K_101 : ∀ (y0_101 : Int32), tq_iv 0 1 y0_101 → tz_O (fun (z : Int32) => tq_iv 0 1 z) (z_X12_isKept_101 σ x0 y0_101) := by
    intro y0_101 i_y0_101
    unfold z_X12_isKept_101
    have K_199 : ∀ (y0_199 : Int32), tq_iv 0 1 y0_199 → tz_O (fun (z : Int32) => tq_iv 0 1 z) (z_X12_isKept_199 σ y0_199) := by
      intro y0_199 i_y0_199
      unfold z_X12_isKept_199
      refine tz_nr (tq_nr_boolean i_y0_199) ?_
      exact tz_some i_y0_199
    have K_194 : tz_O (fun (z : Int32) => tq_iv 0 1 z) (z_X12_isKept_194 σ) := by
      unfold z_X12_isKept_194
      exact K_199 (1 : Int32) (tq_w tk_1 (by decide) (by decide))
    refine tz_if _ (fun c8032 => ?_) (fun c8032 => ?_)
    ·
      have i2_y0_101 : tq_iv 0 0 y0_101 := tq_cut i_y0_101 (tq_eqL c8032 tk_0) (by decide) (by decide)
      refine tz_let (fun t_110 e8030 => ?_)
      have i3_t_110 : tq_iv (-1) 1 t_110 := tq_cmp e8030
      refine tz_if _ (fun c8029 => ?_) (fun c8029 => ?_)
      ·
        have i4_t_110 : tq_iv 0 0 t_110 := tq_cut i3_t_110 (tq_eqL c8029 tk_0) (by decide) (by decide)
        exact K_194 
      ·
        refine tz_let (fun t_118 e8028 => ?_)
        have i5_t_118 : tq_iv (-1) 1 t_118 := tq_cmp e8028
        refine tz_if _ (fun c8027 => ?_) (fun c8027 => ?_)
        ·
          have i6_t_118 : tq_iv 0 0 t_118 := tq_cut i5_t_118 (tq_eqL c8027 tk_0) (by decide) (by decide)
          exact K_194 
        ·
          refine tz_let (fun t_126 e8026 => ?_)
          have i7_t_126 : tq_iv (-1) 1 t_126 := tq_cmp e8026
          refine tz_if _ (fun c8025 => ?_) (fun c8025 => ?_)
          ·
            have i8_t_126 : tq_iv 0 0 t_126 := tq_cut i7_t_126 (tq_eqL c8025 tk_0) (by decide) (by decide)
            exact K_194 
          ·
            refine tz_let (fun t_134 e8024 => ?_)
            have i9_t_134 : tq_iv (-1) 1 t_134 := tq_cmp e8024
            refine tz_if _ (fun c8023 => ?_) (fun c8023 => ?_)
            ·
              have i10_t_134 : tq_iv 0 0 t_134 := tq_cut i9_t_134 (tq_eqL c8023 tk_0) (by decide) (by decide)
              exact K_194 
            ·
              refine tz_let (fun t_142 e8022 => ?_)
              have i11_t_142 : tq_iv (-1) 1 t_142 := tq_cmp e8022
              refine tz_if _ (fun c8021 => ?_) (fun c8021 => ?_)
              ·
                have i12_t_142 : tq_iv 0 0 t_142 := tq_cut i11_t_142 (tq_eqL c8021 tk_0) (by decide) (by decide)
                exact K_194 
              ·
                refine tz_let (fun t_150 e8020 => ?_)
                have i13_t_150 : tq_iv (-1) 1 t_150 := tq_cmp e8020
                refine tz_if _ (fun c8019 => ?_) (fun c8019 => ?_)
                ·
                  have i14_t_150 : tq_iv 0 0 t_150 := tq_cut i13_t_150 (tq_eqL c8019 tk_0) (by decide) (by decide)
                  exact K_194 
                ·
                  refine tz_let (fun t_158 e8018 => ?_)
                  have i15_t_158 : tq_iv (-1) 1 t_158 := tq_cmp e8018
                  refine tz_if _ (fun c8017 => ?_) (fun c8017 => ?_)
                  ·
                    have i16_t_158 : tq_iv 0 0 t_158 := tq_cut i15_t_158 (tq_eqL c8017 tk_0) (by decide) (by decide)
                    exact K_194 
                  ·
                    refine tz_let (fun t_166 e8016 => ?_)
                    have i17_t_166 : tq_iv (-1) 1 t_166 := tq_cmp e8016
                    refine tz_if _ (fun c8015 => ?_) (fun c8015 => ?_)
                    ·
                      have i18_t_166 : tq_iv 0 0 t_166 := tq_cut i17_t_166 (tq_eqL c8015 tk_0) (by decide) (by decide)
                      exact K_194 
                    ·
                      refine tz_let (fun t_174 e8014 => ?_)
                      have i19_t_174 : tq_iv (-1) 1 t_174 := tq_cmp e8014
                      refine tz_if _ (fun c8013 => ?_) (fun c8013 => ?_)
                      ·
                        have i20_t_174 : tq_iv 0 0 t_174 := tq_cut i19_t_174 (tq_eqL c8013 tk_0) (by decide) (by decide)
                        exact K_194 
                      ·
                        refine tz_let (fun t_182 e8012 => ?_)
                        have i21_t_182 : tq_iv (-1) 1 t_182 := tq_cmp e8012
                        refine tz_if _ (fun c8011 => ?_) (fun c8011 => ?_)
                        ·
                          have i22_t_182 : tq_iv 0 0 t_182 := tq_cut i21_t_182 (tq_eqL c8011 tk_0) (by decide) (by decide)
                          exact K_194 
                        ·
                          refine tz_let (fun t_190 e8010 => ?_)
                          have i23_t_190 : tq_iv (-1) 1 t_190 := tq_cmp e8010
                          refine tz_if _ (fun c8009 => ?_) (fun c8009 => ?_)
                          ·
                            have i24_t_190 : tq_iv 0 0 t_190 := tq_cut i23_t_190 (tq_eqL c8009 tk_0) (by decide) (by decide)
                            exact K_194 
                          ·
                            exact K_199 (0 : Int32) (tq_w tk_0 (by decide) (by decide))
    ·
      have i25_y0_101 : tq_iv 1 1 y0_101 := tq_w (tq_neLo c8032 i_y0_101 tk_0) (by decide) (by decide)
      exact K_194 
  have K_96 : tz_O (fun (z : Int32) => tq_iv 0 1 z) (z_X12_isKept_96 σ x0) := by
    unfold z_X12_isKept_96
    exact K_101 (1 : Int32) (tq_w tk_1 (by decide) (by decide))
  refine tz_if _ (fun c8069 => ?_) (fun c8069 => ?_)
  ·
    have i26_t_4 : tq_iv 0 0 t_4 := tq_cut i1_t_4 (tq_eqL c8069 tk_0) (by decide) (by decide)
    exact K_96 
  ·
    refine tz_let (fun t_12 e8068 => ?_)
    have i27_t_12 : tq_iv (-1) 1 t_12 := tq_cmp e8068
    refine tz_if _ (fun c8067 => ?_) (fun c8067 => ?_)
    ·
      have i28_t_12 : tq_iv 0 0 t_12 := tq_cut i27_t_12 (tq_eqL c8067 tk_0) (by decide) (by decide)
      exact K_96 
    ·
      refine tz_let (fun t_20 e8066 => ?_)
      have i29_t_20 : tq_iv (-1) 1 t_20 := tq_cmp e8066
      refine tz_if _ (fun c8065 => ?_) (fun c8065 => ?_)
      ·
        have i30_t_20 : tq_iv 0 0 t_20 := tq_cut i29_t_20 (tq_eqL c8065 tk_0) (by decide) (by decide)
        exact K_96 
      ·
        refine tz_let (fun t_28 e8064 => ?_)
        have i31_t_28 : tq_iv (-1) 1 t_28 := tq_cmp e8064
        refine tz_if _ (fun c8063 => ?_) (fun c8063 => ?_)
        ·
          have i32_t_28 : tq_iv 0 0 t_28 := tq_cut i31_t_28 (tq_eqL c8063 tk_0) (by decide) (by decide)
          exact K_96 
        ·
          refine tz_let (fun t_36 e8062 => ?_)
          have i33_t_36 : tq_iv (-1) 1 t_36 := tq_cmp e8062
          refine tz_if _ (fun c8061 => ?_) (fun c8061 => ?_)
          ·
            have i34_t_36 : tq_iv 0 0 t_36 := tq_cut i33_t_36 (tq_eqL c8061 tk_0) (by decide) (by decide)
            exact K_96 
          ·
            refine tz_let (fun t_44 e8060 => ?_)
            have i35_t_44 : tq_iv (-1) 1 t_44 := tq_cmp e8060
            refine tz_if _ (fun c8059 => ?_) (fun c8059 => ?_)
            ·
              have i36_t_44 : tq_iv 0 0 t_44 := tq_cut i35_t_44 (tq_eqL c8059 tk_0) (by decide) (by decide)
              exact K_96 
            ·
              refine tz_let (fun t_52 e8058 => ?_)
              have i37_t_52 : tq_iv (-1) 1 t_52 := tq_cmp e8058
              refine tz_if _ (fun c8057 => ?_) (fun c8057 => ?_)
              ·
                have i38_t_52 : tq_iv 0 0 t_52 := tq_cut i37_t_52 (tq_eqL c8057 tk_0) (by decide) (by decide)
                exact K_96 
              ·
                refine tz_let (fun t_60 e8056 => ?_)
                have i39_t_60 : tq_iv (-1) 1 t_60 := tq_cmp e8056
                refine tz_if _ (fun c8055 => ?_) (fun c8055 => ?_)
                ·
                  have i40_t_60 : tq_iv 0 0 t_60 := tq_cut i39_t_60 (tq_eqL c8055 tk_0) (by decide) (by decide)
                  exact K_96 
                ·
                  refine tz_let (fun t_68 e8054 => ?_)
                  have i41_t_68 : tq_iv (-1) 1 t_68 := tq_cmp e8054
                  refine tz_if _ (fun c8053 => ?_) (fun c8053 => ?_)
                  ·
                    have i42_t_68 : tq_iv 0 0 t_68 := tq_cut i41_t_68 (tq_eqL c8053 tk_0) (by decide) (by decide)
                    exact K_96 
                  ·
                    refine tz_let (fun t_76 e8052 => ?_)
                    have i43_t_76 : tq_iv (-1) 1 t_76 := tq_cmp e8052
                    refine tz_if _ (fun c8051 => ?_) (fun c8051 => ?_)
                    ·
                      have i44_t_76 : tq_iv 0 0 t_76 := tq_cut i43_t_76 (tq_eqL c8051 tk_0) (by decide) (by decide)
                      exact K_96 
                    ·
                      refine tz_let (fun t_84 e8050 => ?_)
                      have i45_t_84 : tq_iv (-1) 1 t_84 := tq_cmp e8050
                      refine tz_if _ (fun c8049 => ?_) (fun c8049 => ?_)
                      ·
                        have i46_t_84 : tq_iv 0 0 t_84 := tq_cut i45_t_84 (tq_eqL c8049 tk_0) (by decide) (by decide)
                        exact K_96 
                      ·
                        refine tz_let (fun t_92 e8048 => ?_)
                        have i47_t_92 : tq_iv (-1) 1 t_92 := tq_cmp e8048
                        refine tz_if _ (fun c8047 => ?_) (fun c8047 => ?_)
                        ·
                          have i48_t_92 : tq_iv 0 0 t_92 := tq_cut i47_t_92 (tq_eqL c8047 tk_0) (by decide) (by decide)
                          exact K_96 
                        ·
                          exact K_101 (0 : Int32) (tq_w tk_0 (by decide) (by decide))
set_option maxRecDepth 4000 in
theorem tz_X12_isDigit {p : tz_P} {σ : ez_H} {x0 : Int32} (hT : tp p σ) : tz_O (fun z => tq_iv 0 1 z ∧ (¬ z = 0 → tq_iv 48 57 x0)) (z_X12_isDigit σ x0) := by
  unfold z_X12_isDigit
  have K_17 : ∀ (y0_17 : Int32), tq_iv 0 1 y0_17 → (¬ y0_17 = 0 → tq_iv 48 57 x0) → tz_O (fun (z : Int32) => tq_iv 0 1 z ∧ (¬ z = 0 → tq_iv 48 57 x0)) (z_X12_isDigit_17 σ y0_17) := by
    intro y0_17 i_y0_17 g17_y0_17_x0
    unfold z_X12_isDigit_17
    refine tz_nr (tq_nr_boolean i_y0_17) ?_
    exact tz_some ⟨i_y0_17, (fun h => tq_w (g17_y0_17_x0 h) (by decide) (by decide))⟩
  have K_16 : tz_O (fun (z : Int32) => tq_iv 0 1 z ∧ (¬ z = 0 → tq_iv 48 57 x0)) (z_X12_isDigit_16 σ) := by
    unfold z_X12_isDigit_16
    exact K_17 (0 : Int32) (tq_w tk_0 (by decide) (by decide)) (fun h => absurd rfl h)
  refine tz_if _ (fun c8078 => ?_) (fun c8078 => ?_)
  ·
    have i1_x0 : tq_iv (-2147483648) 47 x0 := tq_cut (tq_top x0) (tq_ltL c8078 (tq_top x0) tk_48) (by decide) (by decide)
    exact K_16 
  ·
    have i2_x0 : tq_iv 48 2147483647 x0 := tq_cut (tq_top x0) (tq_leR (tq_nlt c8078) tk_48 (tq_top x0)) (by decide) (by decide)
    refine tz_if _ (fun c8077 => ?_) (fun c8077 => ?_)
    ·
      have i3_x0 : tq_iv 58 2147483647 x0 := tq_cut i2_x0 (tq_ltR c8077 tk_57 i2_x0) (by decide) (by decide)
      exact K_16 
    ·
      have i4_x0 : tq_iv 48 57 x0 := tq_cut i2_x0 (tq_leL (tq_nlt c8077) i2_x0 tk_57) (by decide) (by decide)
      exact K_17 (1 : Int32) (tq_w tk_1 (by decide) (by decide)) (fun _ => i4_x0)
set_option maxRecDepth 4000 in
theorem tz_X12_isSign {p : tz_P} {σ : ez_H} {x0 : Int32} (hT : tp p σ) : tz_O (fun z => tq_iv 0 1 z ∧ (¬ z = 0 → tq_iv 37 62 x0)) (z_X12_isSign σ x0) := by
  unfold z_X12_isSign
  have K_71 : ∀ (y0_71 : Int32), tq_iv 0 1 y0_71 → (¬ y0_71 = 0 → tq_iv 37 62 x0) → tz_O (fun (z : Int32) => tq_iv 0 1 z ∧ (¬ z = 0 → tq_iv 37 62 x0)) (z_X12_isSign_71 σ y0_71) := by
    intro y0_71 i_y0_71 g71_y0_71_x0
    unfold z_X12_isSign_71
    refine tz_nr (tq_nr_boolean i_y0_71) ?_
    exact tz_some ⟨i_y0_71, (fun h => tq_w (g71_y0_71_x0 h) (by decide) (by decide))⟩
  have K_66 : tq_iv 37 62 x0 → tz_O (fun (z : Int32) => tq_iv 0 1 z ∧ (¬ z = 0 → tq_iv 37 62 x0)) (z_X12_isSign_66 σ) := by
    intro j66_x0
    unfold z_X12_isSign_66
    exact K_71 (1 : Int32) (tq_w tk_1 (by decide) (by decide)) (fun _ => j66_x0)
  refine tz_if _ (fun c8104 => ?_) (fun c8104 => ?_)
  ·
    have i1_x0 : tq_iv 59 59 x0 := tq_cut (tq_top x0) (tq_eqL c8104 tk_59) (by decide) (by decide)
    exact K_66 (tq_w i1_x0 (by decide) (by decide))
  ·
    refine tz_if _ (fun c8103 => ?_) (fun c8103 => ?_)
    ·
      have i2_x0 : tq_iv 40 40 x0 := tq_cut (tq_top x0) (tq_eqL c8103 tk_40) (by decide) (by decide)
      exact K_66 (tq_w i2_x0 (by decide) (by decide))
    ·
      refine tz_if _ (fun c8102 => ?_) (fun c8102 => ?_)
      ·
        have i3_x0 : tq_iv 41 41 x0 := tq_cut (tq_top x0) (tq_eqL c8102 tk_41) (by decide) (by decide)
        exact K_66 (tq_w i3_x0 (by decide) (by decide))
      ·
        refine tz_if _ (fun c8101 => ?_) (fun c8101 => ?_)
        ·
          have i4_x0 : tq_iv 60 60 x0 := tq_cut (tq_top x0) (tq_eqL c8101 tk_60) (by decide) (by decide)
          exact K_66 (tq_w i4_x0 (by decide) (by decide))
        ·
          refine tz_if _ (fun c8100 => ?_) (fun c8100 => ?_)
          ·
            have i5_x0 : tq_iv 62 62 x0 := tq_cut (tq_top x0) (tq_eqL c8100 tk_62) (by decide) (by decide)
            exact K_66 (tq_w i5_x0 (by decide) (by decide))
          ·
            refine tz_if _ (fun c8099 => ?_) (fun c8099 => ?_)
            ·
              have i6_x0 : tq_iv 61 61 x0 := tq_cut (tq_top x0) (tq_eqL c8099 tk_61) (by decide) (by decide)
              exact K_66 (tq_w i6_x0 (by decide) (by decide))
            ·
              refine tz_if _ (fun c8098 => ?_) (fun c8098 => ?_)
              ·
                have i7_x0 : tq_iv 43 43 x0 := tq_cut (tq_top x0) (tq_eqL c8098 tk_43) (by decide) (by decide)
                exact K_66 (tq_w i7_x0 (by decide) (by decide))
              ·
                refine tz_if _ (fun c8097 => ?_) (fun c8097 => ?_)
                ·
                  have i8_x0 : tq_iv 45 45 x0 := tq_cut (tq_top x0) (tq_eqL c8097 tk_45) (by decide) (by decide)
                  exact K_66 (tq_w i8_x0 (by decide) (by decide))
                ·
                  refine tz_if _ (fun c8096 => ?_) (fun c8096 => ?_)
                  ·
                    have i9_x0 : tq_iv 42 42 x0 := tq_cut (tq_top x0) (tq_eqL c8096 tk_42) (by decide) (by decide)
                    exact K_66 (tq_w i9_x0 (by decide) (by decide))
                  ·
                    refine tz_if _ (fun c8095 => ?_) (fun c8095 => ?_)
                    ·
                      have i10_x0 : tq_iv 47 47 x0 := tq_cut (tq_top x0) (tq_eqL c8095 tk_47) (by decide) (by decide)
                      exact K_66 (tq_w i10_x0 (by decide) (by decide))
                    ·
                      refine tz_if _ (fun c8094 => ?_) (fun c8094 => ?_)
                      ·
                        have i11_x0 : tq_iv 37 37 x0 := tq_cut (tq_top x0) (tq_eqL c8094 tk_37) (by decide) (by decide)
                        exact K_66 (tq_w i11_x0 (by decide) (by decide))
                      ·
                        exact K_71 (0 : Int32) (tq_w tk_0 (by decide) (by decide)) (fun h => absurd rfl h)
set_option maxRecDepth 4000 in
theorem tz_X12_isGood {p : tz_P} {σ : ez_H} {h0 : Nat} (hT : tp p σ) (k_h0 : tz_C h0 = some (3, 12, 0, 0)) : tz_O (fun z => tq_iv 0 1 z) (z_X12_isGood σ h0) := by
  unfold z_X12_isGood
  refine tz_bd (tz_ob hT k_h0) (fun _ _ => ?_)
  refine tz_be (tg_12_4 hT k_h0) (fun t_1 e8234 i_t_1 => ?_)
  have K_12 : ∀ (y0_12 : Int32), tq_iv 0 1 y0_12 → (¬ y0_12 = 0 → tq_iv 0 0 t_1) → tz_O (fun (z : Int32) => tq_iv 0 1 z) (z_X12_isGood_12 σ y0_12) := by
    intro y0_12 i_y0_12 g12_y0_12_t_1
    unfold z_X12_isGood_12
    refine tz_nr (tq_nr_boolean i_y0_12) ?_
    exact tz_some i_y0_12
  refine tz_if _ (fun c8233 => ?_) (fun c8233 => ?_)
  ·
    have i1_t_1 : tq_iv 0 0 t_1 := tq_cut (tq_top t_1) (tq_eqL c8233 tk_0) (by decide) (by decide)
    exact K_12 (1 : Int32) (tq_w tk_1 (by decide) (by decide)) (fun _ => i1_t_1)
  ·
    exact K_12 (0 : Int32) (tq_w tk_0 (by decide) (by decide)) (fun h => absurd rfl h)
set_option maxRecDepth 4000 in
theorem tz_X12_isWord {p : tz_P} {σ : ez_H} {h0 : Nat} {x1 : Int64} (hT : tp p σ) (k_h0 : tz_C h0 = some (3, 12, 0, 0)) : tz_O (fun z => tq_iv 0 1 z) (z_X12_isWord σ h0 x1) := by
  unfold z_X12_isWord
  refine tz_bd (tz_ob hT k_h0) (fun _ _ => ?_)
  refine tz_be (tg_12_8 hT k_h0) (fun t_1 e8246 i_t_1 => ?_)
  have K_22 : ∀ (y0_22 : Int32), tq_iv 0 1 y0_22 → (¬ y0_22 = 0 → tq_iv 3 3 t_1) → tz_O (fun (z : Int32) => tq_iv 0 1 z) (z_X12_isWord_22 σ y0_22) := by
    intro y0_22 i_y0_22 g22_y0_22_t_1
    unfold z_X12_isWord_22
    refine tz_nr (tq_nr_boolean i_y0_22) ?_
    exact tz_some i_y0_22
  have K_21 : tz_O (fun (z : Int32) => tq_iv 0 1 z) (z_X12_isWord_21 σ) := by
    unfold z_X12_isWord_21
    exact K_22 (0 : Int32) (tq_w tk_0 (by decide) (by decide)) (fun h => absurd rfl h)
  refine tz_if _ (fun c8245 => ?_) (fun c8245 => ?_)
  ·
    have i1_t_1 : tq_iv 3 3 t_1 := tq_cut i_t_1 (tq_eqL c8245 tk_3) (by decide) (by decide)
    refine tz_be (tg_12_10 hT k_h0) (fun t_9 e8243 _ => ?_)
    refine tz_let (fun t_13 e8242 => ?_)
    have i2_t_13 : tq_iv (-1) 1 t_13 := tq_cmp e8242
    refine tz_if _ (fun c8241 => ?_) (fun c8241 => ?_)
    ·
      have i3_t_13 : tq_iv 0 0 t_13 := tq_cut i2_t_13 (tq_eqL c8241 tk_0) (by decide) (by decide)
      exact K_22 (1 : Int32) (tq_w tk_1 (by decide) (by decide)) (fun _ => i1_t_1)
    ·
      exact K_21 
  ·
    exact K_21
set_option maxRecDepth 4000 in
theorem tz_X12_keyHere {p : tz_P} {σ : ez_H} {h0 : Nat} (hT : tp p σ) (k_h0 : tz_C h0 = some (3, 12, 0, 0)) : tz_O (fun z => tq_iv (-2147483648) 2147483647 z) (z_X12_keyHere σ h0) := by
  unfold z_X12_keyHere
  refine tz_bd (tz_ob hT k_h0) (fun _ _ => ?_)
  refine tz_bk (tr_33 hT k_h0) ?_
  refine tz_be (tg_12_44 hT k_h0) (fun t_8 e8452 i_t_8 => ?_)
  refine tz_let (fun t_11 e8451 => ?_)
  have i1_t_11 : tq_iv 0 8 t_11 := tq_w (tq_mul e8451 tk_8 i_t_8 (by decide) (by decide) (by decide)) (by decide) (by decide)
  refine tz_bk (tr_14 hT k_h0) ?_
  refine tz_ba e8452 (fun t_17 e8449 a8449 => ?_)
  have i2_t_17 : tq_iv 0 1 t_17 := tq_eqL a8449 i_t_8
  refine tz_be (tz_ia hT tc_176 (te_176 (p := p)) i2_t_17 (by decide) (by decide)) (fun t_20 e8448 i_t_20 => ?_)
  refine tz_bd (tz_X12_here hT k_h0 tc_195) (fun t_21 i_t_21 => ?_)
  exact tz_some (tq_top t_21)
set_option maxRecDepth 4000 in
theorem tz_X12_held {p : tz_P} {σ : ez_H} {x0 : Int32} {x1 : Int32} {x2 : Int32} (hT : tp p σ) : tz_O (fun z => tq_iv (-2147483648) 2147483647 z) (z_X12_held σ x0 x1 x2) := by
  unfold z_X12_held
  have K_19 : ∀ (y0_19 : Int32), tz_O (fun (z : Int32) => tq_iv (-2147483648) 2147483647 z) (z_X12_held_19 σ y0_19) := by
    intro y0_19
    unfold z_X12_held_19
    exact tz_some (tq_top y0_19)
  refine tz_if _ (fun c8480 => ?_) (fun c8480 => ?_)
  ·
    refine tz_if _ (fun c8478 => ?_) (fun c8478 => ?_)
    ·
      exact K_19 x0
    ·
      have i1_x2 : tq_iv (-2147483648) 2147483646 x2 := tq_cut (tq_top x2) (tq_ltL (tq_nle c8478) (tq_top x2) (tq_top x0)) (by decide) (by decide)
      have i2_x0 : tq_iv (-2147483647) 2147483647 x0 := tq_cut (tq_top x0) (tq_ltR (tq_nle c8478) (tq_top x2) (tq_top x0)) (by decide) (by decide)
      exact K_19 x2
  ·
    have i3_x0 : tq_iv (-2147483648) 2147483646 x0 := tq_cut (tq_top x0) (tq_ltL (tq_nle c8480) (tq_top x0) (tq_top x1)) (by decide) (by decide)
    have i4_x1 : tq_iv (-2147483647) 2147483647 x1 := tq_cut (tq_top x1) (tq_ltR (tq_nle c8480) (tq_top x0) (tq_top x1)) (by decide) (by decide)
    exact K_19 x1
set_option maxRecDepth 4000 in
theorem tz_X12_lockHere {p : tz_P} {σ : ez_H} {h0 : Nat} (hT : tp p σ) (k_h0 : tz_C h0 = some (3, 12, 0, 0)) : tz_O (fun z => tq_iv (-2147483648) 2147483647 z) (z_X12_lockHere σ h0) := by
  unfold z_X12_lockHere
  refine tz_bd (tz_ob hT k_h0) (fun _ _ => ?_)
  refine tz_bk (tr_34 hT k_h0) ?_
  refine tz_be (tg_12_44 hT k_h0) (fun t_8 e8554 i_t_8 => ?_)
  refine tz_let (fun t_11 e8553 => ?_)
  have i1_t_11 : tq_iv 0 6 t_11 := tq_w (tq_mul e8553 tk_6 i_t_8 (by decide) (by decide) (by decide)) (by decide) (by decide)
  refine tz_bk (tr_15 hT k_h0) ?_
  refine tz_ba e8554 (fun t_17 e8551 a8551 => ?_)
  have i2_t_17 : tq_iv 0 1 t_17 := tq_eqL a8551 i_t_8
  refine tz_be (tz_ia hT tc_177 (te_177 (p := p)) i2_t_17 (by decide) (by decide)) (fun t_20 e8550 i_t_20 => ?_)
  refine tz_bd (tz_X12_here hT k_h0 tc_196) (fun t_21 i_t_21 => ?_)
  exact tz_some (tq_top t_21)
set_option maxRecDepth 4000 in
theorem tz_X12_isSignHere {p : tz_P} {σ : ez_H} {h0 : Nat} {x1 : Int32} (hT : tp p σ) (k_h0 : tz_C h0 = some (3, 12, 0, 0)) (i_x1 : tq_iv 37 62 x1) : tz_O (fun z => tq_iv 0 1 z) (z_X12_isSignHere σ h0 x1) := by
  unfold z_X12_isSignHere
  refine tz_bd (tz_ob hT k_h0) (fun _ _ => ?_)
  refine tz_be (tg_12_8 hT k_h0) (fun t_1 e8567 i_t_1 => ?_)
  have K_25 : ∀ (y0_25 : Int32), tq_iv 0 1 y0_25 → (¬ y0_25 = 0 → tq_iv 5 5 t_1) → tz_O (fun (z : Int32) => tq_iv 0 1 z) (z_X12_isSignHere_25 σ y0_25) := by
    intro y0_25 i_y0_25 g25_y0_25_t_1
    unfold z_X12_isSignHere_25
    refine tz_nr (tq_nr_boolean i_y0_25) ?_
    exact tz_some i_y0_25
  have K_24 : tz_O (fun (z : Int32) => tq_iv 0 1 z) (z_X12_isSignHere_24 σ) := by
    unfold z_X12_isSignHere_24
    exact K_25 (0 : Int32) (tq_w tk_0 (by decide) (by decide)) (fun h => absurd rfl h)
  refine tz_if _ (fun c8566 => ?_) (fun c8566 => ?_)
  ·
    have i1_t_1 : tq_iv 5 5 t_1 := tq_cut i_t_1 (tq_eqL c8566 tk_5) (by decide) (by decide)
    refine tz_be (tg_12_6 hT k_h0) (fun t_10 e8564 i_t_10 => ?_)
    refine tz_bd (tz_X12_sign hT k_h0 i_t_10) (fun t_13 i_t_13 => ?_)
    refine tz_if _ (fun c8562 => ?_) (fun c8562 => ?_)
    ·
      have i2_t_13 : tq_iv 37 62 t_13 := tq_cut i_t_13 (tq_eqL c8562 i_x1) (by decide) (by decide)
      exact K_25 (1 : Int32) (tq_w tk_1 (by decide) (by decide)) (fun _ => i1_t_1)
    ·
      exact K_24 
  ·
    have i3_t_1 : tq_iv 0 4 t_1 := tq_w (tq_neHi c8566 i_t_1 tk_5) (by decide) (by decide)
    exact K_24
set_option maxRecDepth 4000 in
theorem tz_X12_roomHere {p : tz_P} {σ : ez_H} {h0 : Nat} (hT : tp p σ) (k_h0 : tz_C h0 = some (3, 12, 0, 0)) : tz_O (fun z => tq_iv (-2147483648) 2147483647 z) (z_X12_roomHere σ h0) := by
  unfold z_X12_roomHere
  refine tz_bd (tz_ob hT k_h0) (fun _ _ => ?_)
  refine tz_bk (tr_35 hT k_h0) ?_
  refine tz_be (tg_12_44 hT k_h0) (fun t_8 e8629 i_t_8 => ?_)
  refine tz_let (fun t_11 e8628 => ?_)
  have i1_t_11 : tq_iv 0 6 t_11 := tq_w (tq_mul e8628 tk_6 i_t_8 (by decide) (by decide) (by decide)) (by decide) (by decide)
  refine tz_bk (tr_16 hT k_h0) ?_
  refine tz_ba e8629 (fun t_17 e8626 a8626 => ?_)
  have i2_t_17 : tq_iv 0 1 t_17 := tq_eqL a8626 i_t_8
  refine tz_be (tz_ia hT tc_178 (te_178 (p := p)) i2_t_17 (by decide) (by decide)) (fun t_20 e8625 i_t_20 => ?_)
  refine tz_bd (tz_X12_here hT k_h0 tc_197) (fun t_21 i_t_21 => ?_)
  exact tz_some (tq_top t_21)
set_option maxRecDepth 4000 in
theorem tz_X12_heldSet {p : tz_P} {σ : ez_H} {h0 : Nat} (hT : tp p σ) (k_h0 : tz_C h0 = some (3, 12, 0, 0)) : tz_O (fun z => tq_iv (-2147483648) 2147483647 z) (z_X12_heldSet σ h0) := by
  unfold z_X12_heldSet
  refine tz_bd (tz_ob hT k_h0) (fun _ _ => ?_)
  have L_4 : ∀ (n_4 : Nat) (k_4 : Nat → Int32 → Int32 → Option (Int32)), (∀ (x1_4 : Int32) (x2_4 : Int32), tq_iv 0 8 x2_4 → (2147483647 - x2_4.toInt).toNat < n_4 → tz_O (fun (z : Int32) => tq_iv (-2147483648) 2147483647 z) (k_4 h0 x1_4 x2_4)) → ∀ (x1_4 : Int32) (x2_4 : Int32), tq_iv 0 8 x2_4 → (2147483647 - x2_4.toInt).toNat < n_4 + 1 → tz_O (fun (z : Int32) => tq_iv (-2147483648) 2147483647 z) (z_X12_heldSet_4 σ k_4 h0 x1_4 x2_4) := by
    intro n_4 k_4 hk_4 x1_4 x2_4 i_x2_4 hn_4
    unfold z_X12_heldSet_4
    refine tz_bk (tr_14 hT k_h0) ?_
    refine tz_be (tg_12_44 hT k_h0) (fun t_10 e8741 i_t_10 => ?_)
    refine tz_be (tz_ia hT tc_176 (te_176 (p := p)) i_t_10 (by decide) (by decide)) (fun t_13 e8740 i_t_13 => ?_)
    refine tz_if _ (fun c8739 => ?_) (fun c8739 => ?_)
    ·
      exact tz_some (tq_top x1_4)
    ·
      have i1_x2_4 : tq_iv 0 7 x2_4 := tq_cut i_x2_4 (tq_ltL (tq_nle c8739) i_x2_4 i_t_13) (by decide) (by decide)
      have i2_t_13 : tq_iv 1 8 t_13 := tq_cut i_t_13 (tq_ltR (tq_nle c8739) i_x2_4 i_t_13) (by decide) (by decide)
      refine tz_bk (tr_28 hT k_h0) ?_
      refine tz_ba e8741 (fun t_24 e8737 a8737 => ?_)
      have i3_t_24 : tq_iv 0 1 t_24 := tq_eqL a8737 i_t_10
      refine tz_let (fun t_27 e8736 => ?_)
      have i4_t_27 : tq_iv 0 8 t_27 := tq_w (tq_mul e8736 tk_8 i3_t_24 (by decide) (by decide) (by decide)) (by decide) (by decide)
      refine tz_let (fun t_29 e8735 => ?_)
      have i5_t_29 : tq_iv 0 15 t_29 := tq_w (tq_add e8735 i4_t_27 i1_x2_4 (by decide) (by decide)) (by decide) (by decide)
      refine tz_be (tz_ia hT tc_190 (te_190 (p := p)) i5_t_29 (by decide) (by decide)) (fun t_30 e8734 i_t_30 => ?_)
      have K_40 : ∀ (x1_40 : Int32), tz_O (fun (z : Int32) => tq_iv (-2147483648) 2147483647 z) (z_X12_heldSet_40 σ k_4 h0 x1_40 x2_4) := by
        intro x1_40
        unfold z_X12_heldSet_40
        refine tz_let (fun t_40 e8727 => ?_)
        have i6_t_40 : tq_iv 1 8 t_40 := tq_w (tq_add e8727 i1_x2_4 tk_1 (by decide) (by decide)) (by decide) (by decide)
        exact hk_4 x1_40 t_40 (tq_w i6_t_40 (by decide) (by decide)) (tq_up e8727 i1_x2_4 tk_1 (by decide) (by decide) hn_4)
      refine tz_if _ (fun c8733 => ?_) (fun c8733 => ?_)
      ·
        have i7_t_30 : tq_iv (-1) (-1) t_30 := tq_cut i_t_30 (tq_ltL c8733 i_t_30 tk_0) (by decide) (by decide)
        exact K_40 x1_4
      ·
        have i8_t_30 : tq_iv 0 3 t_30 := tq_cut i_t_30 (tq_leR (tq_nlt c8733) tk_0 i_t_30) (by decide) (by decide)
        refine tz_let (fun t_37 e8732 => ?_)
        have i9_t_37 : tq_iv 1 128 t_37 := tq_shl1 e8732 i1_x2_4 (by decide) (by decide) (by decide) (by decide)
        refine tz_let (fun t_38 e8731 => ?_)
        exact K_40 t_38
  have E_4 : ∀ (x1_4 : Int32) (x2_4 : Int32), tq_iv 0 8 x2_4 → tz_O (fun (z : Int32) => tq_iv (-2147483648) 2147483647 z) (ez_fix (fun _ _ _ => none) (z_X12_heldSet_4 σ) ez_N h0 x1_4 x2_4) := by
    intro x1_4 x2_4 i_x2_4
    exact ez_fix_indn (fun n_4 (k_4 : Nat → Int32 → Int32 → Option (Int32)) => ∀ (x1_4 : Int32) (x2_4 : Int32), tq_iv 0 8 x2_4 → (2147483647 - x2_4.toInt).toNat < n_4 → tz_O (fun (z : Int32) => tq_iv (-2147483648) 2147483647 z) (k_4 h0 x1_4 x2_4)) (by intros; rename_i h; exact absurd h (Nat.not_lt_zero _)) L_4 ez_N x1_4 x2_4 i_x2_4 (tq_m0 x2_4)
  exact E_4 (0 : Int32) (0 : Int32) (tq_w tk_0 (by decide) (by decide))
set_option maxRecDepth 4000 in
theorem tz_X12_wordHere {p : tz_P} {σ : ez_H} {h0 : Nat} (hT : tp p σ) (k_h0 : tz_C h0 = some (3, 12, 0, 0)) : tz_O (fun z => tq_iv 0 117 z) (z_X12_wordHere σ h0) := by
  unfold z_X12_wordHere
  refine tz_bd (tz_ob hT k_h0) (fun _ _ => ?_)
  refine tz_bd (tz_X12_isWord hT k_h0) (fun t_4 i_t_4 => ?_)
  refine tz_if _ (fun c8867 => ?_) (fun c8867 => ?_)
  ·
    have i1_t_4 : tq_iv 0 0 t_4 := tq_cut i_t_4 (tq_eqL c8867 tk_0) (by decide) (by decide)
    refine tz_bd (tz_X12_isWord hT k_h0) (fun t_17 i_t_17 => ?_)
    refine tz_if _ (fun c8864 => ?_) (fun c8864 => ?_)
    ·
      have i2_t_17 : tq_iv 0 0 t_17 := tq_cut i_t_17 (tq_eqL c8864 tk_0) (by decide) (by decide)
      refine tz_bd (tz_X12_isWord hT k_h0) (fun t_30 i_t_30 => ?_)
      refine tz_if _ (fun c8861 => ?_) (fun c8861 => ?_)
      ·
        have i3_t_30 : tq_iv 0 0 t_30 := tq_cut i_t_30 (tq_eqL c8861 tk_0) (by decide) (by decide)
        refine tz_bd (tz_X12_isWord hT k_h0) (fun t_43 i_t_43 => ?_)
        have K_55 : ∀ (y0_55 : Int32), tq_iv 0 104 y0_55 → tz_O (fun (z : Int32) => tq_iv 0 117 z) (z_X12_wordHere_55 σ y0_55) := by
          intro y0_55 i_y0_55
          unfold z_X12_wordHere_55
          exact tz_some (tq_w i_y0_55 (by decide) (by decide))
        refine tz_if _ (fun c8858 => ?_) (fun c8858 => ?_)
        ·
          have i4_t_43 : tq_iv 0 0 t_43 := tq_cut i_t_43 (tq_eqL c8858 tk_0) (by decide) (by decide)
          exact K_55 (0 : Int32) (tq_w tk_0 (by decide) (by decide))
        ·
          have i5_t_43 : tq_iv 1 1 t_43 := tq_w (tq_neLo c8858 i_t_43 tk_0) (by decide) (by decide)
          exact K_55 (104 : Int32) (tq_w tk_104 (by decide) (by decide))
      ·
        have i6_t_30 : tq_iv 1 1 t_30 := tq_w (tq_neLo c8861 i_t_30 tk_0) (by decide) (by decide)
        exact tz_some (tq_w tk_117 (by decide) (by decide))
    ·
      have i7_t_17 : tq_iv 1 1 t_17 := tq_w (tq_neLo c8864 i_t_17 tk_0) (by decide) (by decide)
      exact tz_some (tq_w tk_98 (by decide) (by decide))
  ·
    have i8_t_4 : tq_iv 1 1 t_4 := tq_w (tq_neLo c8867 i_t_4 tk_0) (by decide) (by decide)
    exact tz_some (tq_w tk_99 (by decide) (by decide))
set_option maxRecDepth 4000 in
theorem tz_X12_rankHere {p : tz_P} {σ : ez_H} {h0 : Nat} (hT : tp p σ) (k_h0 : tz_C h0 = some (3, 12, 0, 0)) : tz_O (fun z => tq_iv 0 6 z) (z_X12_rankHere σ h0) := by
  unfold z_X12_rankHere
  refine tz_bd (tz_ob hT k_h0) (fun _ _ => ?_)
  refine tz_bd (tz_X12_isWord hT k_h0) (fun t_4 i_t_4 => ?_)
  refine tz_if _ (fun c9011 => ?_) (fun c9011 => ?_)
  ·
    have i1_t_4 : tq_iv 0 0 t_4 := tq_cut i_t_4 (tq_eqL c9011 tk_0) (by decide) (by decide)
    refine tz_bd (tz_X12_isWord hT k_h0) (fun t_16 i_t_16 => ?_)
    refine tz_if _ (fun c9008 => ?_) (fun c9008 => ?_)
    ·
      have i2_t_16 : tq_iv 0 0 t_16 := tq_cut i_t_16 (tq_eqL c9008 tk_0) (by decide) (by decide)
      refine tz_bd (tz_X12_isSignHere hT k_h0 (tq_w tk_60 (by decide) (by decide))) (fun t_27 i_t_27 => ?_)
      have K_51 : tz_O (fun (z : Int32) => tq_iv 0 6 z) (z_X12_rankHere_51 σ) := by
        unfold z_X12_rankHere_51
        exact tz_some (tq_w tk_4 (by decide) (by decide))
      refine tz_if _ (fun c9005 => ?_) (fun c9005 => ?_)
      ·
        have i3_t_27 : tq_iv 0 0 t_27 := tq_cut i_t_27 (tq_eqL c9005 tk_0) (by decide) (by decide)
        refine tz_bd (tz_X12_isSignHere hT k_h0 (tq_w tk_62 (by decide) (by decide))) (fun t_36 i_t_36 => ?_)
        refine tz_if _ (fun c9002 => ?_) (fun c9002 => ?_)
        ·
          have i4_t_36 : tq_iv 0 0 t_36 := tq_cut i_t_36 (tq_eqL c9002 tk_0) (by decide) (by decide)
          refine tz_bd (tz_X12_isSignHere hT k_h0 (tq_w tk_61 (by decide) (by decide))) (fun t_45 i_t_45 => ?_)
          refine tz_if _ (fun c8999 => ?_) (fun c8999 => ?_)
          ·
            have i5_t_45 : tq_iv 0 0 t_45 := tq_cut i_t_45 (tq_eqL c8999 tk_0) (by decide) (by decide)
            refine tz_bd (tz_X12_isSignHere hT k_h0 (tq_w tk_43 (by decide) (by decide))) (fun t_56 i_t_56 => ?_)
            have K_71 : tz_O (fun (z : Int32) => tq_iv 0 6 z) (z_X12_rankHere_71 σ) := by
              unfold z_X12_rankHere_71
              exact tz_some (tq_w tk_5 (by decide) (by decide))
            refine tz_if _ (fun c8996 => ?_) (fun c8996 => ?_)
            ·
              have i6_t_56 : tq_iv 0 0 t_56 := tq_cut i_t_56 (tq_eqL c8996 tk_0) (by decide) (by decide)
              refine tz_bd (tz_X12_isSignHere hT k_h0 (tq_w tk_45 (by decide) (by decide))) (fun t_65 i_t_65 => ?_)
              refine tz_if _ (fun c8993 => ?_) (fun c8993 => ?_)
              ·
                have i7_t_65 : tq_iv 0 0 t_65 := tq_cut i_t_65 (tq_eqL c8993 tk_0) (by decide) (by decide)
                refine tz_bd (tz_X12_isSignHere hT k_h0 (tq_w tk_42 (by decide) (by decide))) (fun t_76 i_t_76 => ?_)
                have K_106 : ∀ (y0_106 : Int32), tq_iv 0 6 y0_106 → tz_O (fun (z : Int32) => tq_iv 0 6 z) (z_X12_rankHere_106 σ y0_106) := by
                  intro y0_106 i_y0_106
                  unfold z_X12_rankHere_106
                  exact tz_some i_y0_106
                have K_100 : tz_O (fun (z : Int32) => tq_iv 0 6 z) (z_X12_rankHere_100 σ) := by
                  unfold z_X12_rankHere_100
                  exact K_106 (6 : Int32) (tq_w tk_6 (by decide) (by decide))
                refine tz_if _ (fun c8990 => ?_) (fun c8990 => ?_)
                ·
                  have i8_t_76 : tq_iv 0 0 t_76 := tq_cut i_t_76 (tq_eqL c8990 tk_0) (by decide) (by decide)
                  refine tz_bd (tz_X12_isSignHere hT k_h0 (tq_w tk_47 (by decide) (by decide))) (fun t_85 i_t_85 => ?_)
                  refine tz_if _ (fun c8987 => ?_) (fun c8987 => ?_)
                  ·
                    have i9_t_85 : tq_iv 0 0 t_85 := tq_cut i_t_85 (tq_eqL c8987 tk_0) (by decide) (by decide)
                    refine tz_bd (tz_X12_isSignHere hT k_h0 (tq_w tk_37 (by decide) (by decide))) (fun t_94 i_t_94 => ?_)
                    refine tz_if _ (fun c8984 => ?_) (fun c8984 => ?_)
                    ·
                      have i10_t_94 : tq_iv 0 0 t_94 := tq_cut i_t_94 (tq_eqL c8984 tk_0) (by decide) (by decide)
                      exact K_106 (0 : Int32) (tq_w tk_0 (by decide) (by decide))
                    ·
                      have i11_t_94 : tq_iv 1 1 t_94 := tq_w (tq_neLo c8984 i_t_94 tk_0) (by decide) (by decide)
                      exact K_100 
                  ·
                    have i12_t_85 : tq_iv 1 1 t_85 := tq_w (tq_neLo c8987 i_t_85 tk_0) (by decide) (by decide)
                    exact K_100 
                ·
                  have i13_t_76 : tq_iv 1 1 t_76 := tq_w (tq_neLo c8990 i_t_76 tk_0) (by decide) (by decide)
                  exact K_100 
              ·
                have i14_t_65 : tq_iv 1 1 t_65 := tq_w (tq_neLo c8993 i_t_65 tk_0) (by decide) (by decide)
                exact K_71 
            ·
              have i15_t_56 : tq_iv 1 1 t_56 := tq_w (tq_neLo c8996 i_t_56 tk_0) (by decide) (by decide)
              exact K_71 
          ·
            have i16_t_45 : tq_iv 1 1 t_45 := tq_w (tq_neLo c8999 i_t_45 tk_0) (by decide) (by decide)
            exact K_51 
        ·
          have i17_t_36 : tq_iv 1 1 t_36 := tq_w (tq_neLo c9002 i_t_36 tk_0) (by decide) (by decide)
          exact K_51 
      ·
        have i18_t_27 : tq_iv 1 1 t_27 := tq_w (tq_neLo c9005 i_t_27 tk_0) (by decide) (by decide)
        exact K_51 
    ·
      have i19_t_16 : tq_iv 1 1 t_16 := tq_w (tq_neLo c9008 i_t_16 tk_0) (by decide) (by decide)
      exact tz_some (tq_w tk_1 (by decide) (by decide))
  ·
    have i20_t_4 : tq_iv 1 1 t_4 := tq_w (tq_neLo c9011 i_t_4 tk_0) (by decide) (by decide)
    exact tz_some (tq_w tk_2 (by decide) (by decide))
set_option maxRecDepth 4000 in
theorem tz_X12_rank {p : tz_P} {σ : ez_H} {h0 : Nat} {x1 : Int32} (hT : tp p σ) (k_h0 : tz_C h0 = some (3, 12, 0, 0)) : tz_O (fun z => tq_iv (-2147483648) 2147483647 z) (z_X12_rank σ h0 x1) := by
  unfold z_X12_rank
  refine tz_bd (tz_ob hT k_h0) (fun _ _ => ?_)
  refine tz_bd (tz_X12_isLegal hT k_h0) (fun t_2 ⟨i_t_2, g_t_2⟩ => ?_)
  refine tz_if _ (fun c9277 => ?_) (fun c9277 => ?_)
  ·
    have i1_t_2 : tq_iv 0 0 t_2 := tq_cut i_t_2 (tq_eqL c9277 tk_0) (by decide) (by decide)
    exact tz_some (tq_top (-1 : Int32))
  ·
    have i2_x1 : tq_iv 0 7775 x1 := tq_cut (tq_top x1) (g_t_2 c9277) (by decide) (by decide)
    have i3_t_2 : tq_iv 1 1 t_2 := tq_w (tq_neLo c9277 i_t_2 tk_0) (by decide) (by decide)
    have L_14 : ∀ (n_14 : Nat) (k_14 : Nat → Int32 → Int32 → Int32 → Option (Int32)), (∀ (x2_14 : Int32) (x3_14 : Int32), tq_iv 0 7775 x3_14 → (2147483647 - x3_14.toInt).toNat < n_14 → tz_O (fun (z : Int32) => tq_iv (-2147483648) 2147483647 z) (k_14 h0 x1 x2_14 x3_14)) → ∀ (x2_14 : Int32) (x3_14 : Int32), tq_iv 0 7775 x3_14 → (2147483647 - x3_14.toInt).toNat < n_14 + 1 → tz_O (fun (z : Int32) => tq_iv (-2147483648) 2147483647 z) (z_X12_rank_14 σ k_14 h0 x1 x2_14 x3_14) := by
      intro n_14 k_14 hk_14 x2_14 x3_14 i_x3_14 hn_14
      unfold z_X12_rank_14
      refine tz_if _ (fun c9274 => ?_) (fun c9274 => ?_)
      ·
        exact tz_some (tq_top x2_14)
      ·
        have i4_x3_14 : tq_iv 0 7774 x3_14 := tq_cut i_x3_14 (tq_ltL (tq_nle c9274) i_x3_14 i2_x1) (by decide) (by decide)
        have i5_x1 : tq_iv 1 7775 x1 := tq_cut i2_x1 (tq_ltR (tq_nle c9274) i_x3_14 i2_x1) (by decide) (by decide)
        refine tz_bd (tz_X12_isLegal hT k_h0) (fun t_21 ⟨i_t_21, g_t_21⟩ => ?_)
        have K_30 : ∀ (x2_30 : Int32), tz_O (fun (z : Int32) => tq_iv (-2147483648) 2147483647 z) (z_X12_rank_30 σ k_14 h0 x1 x2_30 x3_14) := by
          intro x2_30
          unfold z_X12_rank_30
          refine tz_let (fun t_30 e9267 => ?_)
          have i6_t_30 : tq_iv 1 7775 t_30 := tq_w (tq_add e9267 i4_x3_14 tk_1 (by decide) (by decide)) (by decide) (by decide)
          exact hk_14 x2_30 t_30 (tq_w i6_t_30 (by decide) (by decide)) (tq_up e9267 i4_x3_14 tk_1 (by decide) (by decide) hn_14)
        refine tz_if _ (fun c9272 => ?_) (fun c9272 => ?_)
        ·
          have i7_t_21 : tq_iv 0 0 t_21 := tq_cut i_t_21 (tq_eqL c9272 tk_0) (by decide) (by decide)
          exact K_30 x2_14
        ·
          have i8_t_21 : tq_iv 1 1 t_21 := tq_w (tq_neLo c9272 i_t_21 tk_0) (by decide) (by decide)
          refine tz_let (fun t_27 e9271 => ?_)
          exact K_30 t_27
    have E_14 : ∀ (x2_14 : Int32) (x3_14 : Int32), tq_iv 0 7775 x3_14 → tz_O (fun (z : Int32) => tq_iv (-2147483648) 2147483647 z) (ez_fix (fun _ _ _ _ => none) (z_X12_rank_14 σ) ez_N h0 x1 x2_14 x3_14) := by
      intro x2_14 x3_14 i_x3_14
      exact ez_fix_indn (fun n_14 (k_14 : Nat → Int32 → Int32 → Int32 → Option (Int32)) => ∀ (x2_14 : Int32) (x3_14 : Int32), tq_iv 0 7775 x3_14 → (2147483647 - x3_14.toInt).toNat < n_14 → tz_O (fun (z : Int32) => tq_iv (-2147483648) 2147483647 z) (k_14 h0 x1 x2_14 x3_14)) (by intros; rename_i h; exact absurd h (Nat.not_lt_zero _)) L_14 ez_N x2_14 x3_14 i_x3_14 (tq_m0 x3_14)
    exact E_14 (0 : Int32) (0 : Int32) (tq_w tk_0 (by decide) (by decide))
set_option maxRecDepth 4000 in
theorem tz_X12_recut {p : tz_P} {σ : ez_H} {h0 : Nat} {x1 : Int32} {x2 : Int32} (hT : tp p σ) (k_h0 : tz_C h0 = some (3, 12, 0, 0)) : tz_O2 (fun (z : Int32) (s : ez_H) => tq_iv (-2147483648) 2147483647 z ∧ tp p s) (z_X12_recut σ h0 x1 x2) := by
  show tz_O (fun z : Int32 × ez_H => (fun (z : Int32) (s : ez_H) => tq_iv (-2147483648) 2147483647 z ∧ tp p s) z.1 z.2) _
  unfold z_X12_recut
  refine tz_bd (tz_ob hT k_h0) (fun _ _ => ?_)
  refine tz_bd (tz_X12_isKey hT k_h0) (fun t_2 ⟨i_t_2, g_t_2⟩ => ?_)
  have K_16 : tz_O (fun z : Int32 × ez_H => (fun (z : Int32) (s : ez_H) => tq_iv (-2147483648) 2147483647 z ∧ tp p s) z.1 z.2) (z_X12_recut_16 σ) := by
    unfold z_X12_recut_16
    exact tz_some ⟨(tq_top (-1 : Int32)), hT⟩
  refine tz_if _ (fun c9292 => ?_) (fun c9292 => ?_)
  ·
    have i1_t_2 : tq_iv 0 0 t_2 := tq_cut i_t_2 (tq_eqL c9292 tk_0) (by decide) (by decide)
    exact K_16 
  ·
    have i2_x1 : tq_iv 0 7 x1 := tq_cut (tq_top x1) (g_t_2 c9292) (by decide) (by decide)
    have i3_t_2 : tq_iv 1 1 t_2 := tq_w (tq_neLo c9292 i_t_2 tk_0) (by decide) (by decide)
    refine tz_bd (tz_X12_isLegal hT k_h0) (fun t_10 ⟨i_t_10, g_t_10⟩ => ?_)
    refine tz_if _ (fun c9290 => ?_) (fun c9290 => ?_)
    ·
      have i4_t_10 : tq_iv 0 0 t_10 := tq_cut i_t_10 (tq_eqL c9290 tk_0) (by decide) (by decide)
      exact K_16 
    ·
      have i5_x2 : tq_iv 0 7775 x2 := tq_cut (tq_top x2) (g_t_10 c9290) (by decide) (by decide)
      have i6_t_10 : tq_iv 1 1 t_10 := tq_w (tq_neLo c9290 i_t_10 tk_0) (by decide) (by decide)
      refine tz_b2 (tz_X12_keepAct hT k_h0) (fun _ σ9289 T9289 => ?_)
      refine tz_bd (tz_X12_numberOf T9289 k_h0 i2_x1) (fun t_24 i_t_24 => ?_)
      refine tz_b2 (tz_X12_cutAnew T9289 k_h0 i2_x1 i5_x2) (fun _ σ9287 T9287 => ?_)
      refine tz_bk (tr_53 T9287 k_h0) ?_
      refine tz_let (fun t_41 e9285 => ?_)
      have i7_t_41 : tq_iv 40 47 t_41 := tq_w (tq_add e9285 tk_40 i2_x1 (by decide) (by decide)) (by decide) (by decide)
      refine tz_be (tz_isS T9287 tc_205 (tS_205 (p := p) 40 47 (-2147483648) 2147483647 (by decide)) i7_t_41 (by decide) (by decide) (tq_top (0 : Int32))) (fun σ9284 e9284 T9284 => ?_)
      exact tz_some ⟨(tq_top t_24), T9284⟩
