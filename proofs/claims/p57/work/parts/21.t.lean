set_option maxRecDepth 4000 in
theorem tz_X8_leastNumber {p : tz_P} {σ : ez_H} {h0 : Nat} {x1 : Int32} {x2 : Int32} (hT : tp p σ) (k_h0 : tz_C h0 = some (3, 8, 0, 0)) : tz_O (fun z => tq_iv (-2147483648) 2147483647 z) (z_X8_leastNumber σ h0 x1 x2) := by
  unfold z_X8_leastNumber
  refine tz_bd (tz_ob hT k_h0) (fun _ _ => ?_)
  have L_5 : ∀ (n_5 : Nat) (k_5 : Nat → Int32 → Int32 → Int32 → Int32 → Option (Int32)), (∀ (x3_5 : Int32) (x4_5 : Int32), tq_iv 0 64 x4_5 → (2147483647 - x4_5.toInt).toNat < n_5 → tz_O (fun (z : Int32) => tq_iv (-2147483648) 2147483647 z) (k_5 h0 x1 x2 x3_5 x4_5)) → ∀ (x3_5 : Int32) (x4_5 : Int32), tq_iv 0 64 x4_5 → (2147483647 - x4_5.toInt).toNat < n_5 + 1 → tz_O (fun (z : Int32) => tq_iv (-2147483648) 2147483647 z) (z_X8_leastNumber_5 σ k_5 h0 x1 x2 x3_5 x4_5) := by
    intro n_5 k_5 hk_5 x3_5 x4_5 i_x4_5 hn_5
    unfold z_X8_leastNumber_5
    refine tz_if _ (fun c1836 => ?_) (fun c1836 => ?_)
    ·
      have i1_x4_5 : tq_iv 64 64 x4_5 := tq_cut i_x4_5 (tq_leR c1836 tk_64 i_x4_5) (by decide) (by decide)
      exact tz_some (tq_top x3_5)
    ·
      have i2_x4_5 : tq_iv 0 63 x4_5 := tq_cut i_x4_5 (tq_ltL (tq_nle c1836) i_x4_5 tk_64) (by decide) (by decide)
      refine tz_bd (tz_X8_isSuch hT k_h0 i2_x4_5) (fun t_17 ⟨i_t_17, g_t_17⟩ => ?_)
      have K_47 : ∀ (x3_47 : Int32), tz_O (fun (z : Int32) => tq_iv (-2147483648) 2147483647 z) (z_X8_leastNumber_47 σ k_5 h0 x1 x2 x3_47 x4_5) := by
        intro x3_47
        unfold z_X8_leastNumber_47
        refine tz_let (fun t_47 e1821 => ?_)
        have i3_t_47 : tq_iv 1 64 t_47 := tq_w (tq_add e1821 i2_x4_5 tk_1 (by decide) (by decide)) (by decide) (by decide)
        exact hk_5 x3_47 t_47 (tq_w i3_t_47 (by decide) (by decide)) (tq_up e1821 i2_x4_5 tk_1 (by decide) (by decide) hn_5)
      refine tz_if _ (fun c1834 => ?_) (fun c1834 => ?_)
      ·
        have i4_t_17 : tq_iv 0 0 t_17 := tq_cut i_t_17 (tq_eqL c1834 tk_0) (by decide) (by decide)
        exact K_47 x3_5
      ·
        have i5_x1 : tq_iv 0 63 x1 := tq_cut (tq_top x1) (g_t_17 c1834) (by decide) (by decide)
        have i6_t_17 : tq_iv 1 1 t_17 := tq_w (tq_neLo c1834 i_t_17 tk_0) (by decide) (by decide)
        have K_39 : tq_iv (-2147483647) 2147483647 x3_5 → tz_O (fun (z : Int32) => tq_iv (-2147483648) 2147483647 z) (z_X8_leastNumber_39 σ k_5 h0 x1 x2 x4_5) := by
          intro j39_x3_5
          unfold z_X8_leastNumber_39
          refine tz_be (tg_8_11 hT k_h0) (fun t_40 e1824 k_t_40 => ?_)
          refine tz_be (tz_ia hT k_t_40 (te_0 (p := p)) i2_x4_5 (by decide) (by decide)) (fun t_45 e1823 i_t_45 => ?_)
          exact K_47 t_45
        refine tz_if _ (fun c1833 => ?_) (fun c1833 => ?_)
        ·
          have i7_x3_5 : tq_iv (-1) (-1) x3_5 := tq_cut (tq_top x3_5) (tq_eqL c1833 tk_m1) (by decide) (by decide)
          exact K_39 (tq_w i7_x3_5 (by decide) (by decide))
        ·
          refine tz_be (tg_8_11 hT k_h0) (fun t_29 e1832 k_t_29 => ?_)
          refine tz_be (tz_ia hT k_t_29 (te_0 (p := p)) i2_x4_5 (by decide) (by decide)) (fun t_34 e1831 i_t_34 => ?_)
          refine tz_if _ (fun c1830 => ?_) (fun c1830 => ?_)
          ·
            exact K_47 x3_5
          ·
            have i8_t_34 : tq_iv (-2147483648) 2147483646 t_34 := tq_cut (tq_top t_34) (tq_ltL (tq_nle c1830) (tq_top t_34) (tq_top x3_5)) (by decide) (by decide)
            have i9_x3_5 : tq_iv (-2147483647) 2147483647 x3_5 := tq_cut (tq_top x3_5) (tq_ltR (tq_nle c1830) (tq_top t_34) (tq_top x3_5)) (by decide) (by decide)
            exact K_39 i9_x3_5
  have E_5 : ∀ (x3_5 : Int32) (x4_5 : Int32), tq_iv 0 64 x4_5 → tz_O (fun (z : Int32) => tq_iv (-2147483648) 2147483647 z) (ez_fix (fun _ _ _ _ _ => none) (z_X8_leastNumber_5 σ) ez_N h0 x1 x2 x3_5 x4_5) := by
    intro x3_5 x4_5 i_x4_5
    exact ez_fix_indn (fun n_5 (k_5 : Nat → Int32 → Int32 → Int32 → Int32 → Option (Int32)) => ∀ (x3_5 : Int32) (x4_5 : Int32), tq_iv 0 64 x4_5 → (2147483647 - x4_5.toInt).toNat < n_5 → tz_O (fun (z : Int32) => tq_iv (-2147483648) 2147483647 z) (k_5 h0 x1 x2 x3_5 x4_5)) (by intros; rename_i h; exact absurd h (Nat.not_lt_zero _)) L_5 ez_N x3_5 x4_5 i_x4_5 (tq_m0 x4_5)
  exact E_5 (-1 : Int32) (0 : Int32) (tq_w tk_0 (by decide) (by decide))
set_option maxRecDepth 4000 in
theorem tz_X11_common {p : tz_P} {σ : ez_H} {h0 : Nat} {x1 : Int32} {x2 : Int32} (hT : tp p σ) (k_h0 : tz_C h0 = some (3, 11, 0, 0)) : tz_O2 (fun (z : Int32) (s : ez_H) => tq_iv (-2147483648) 2147483647 z ∧ tp p s) (z_X11_common σ h0 x1 x2) := by
  show tz_O (fun z : Int32 × ez_H => (fun (z : Int32) (s : ez_H) => tq_iv (-2147483648) 2147483647 z ∧ tp p s) z.1 z.2) _
  unfold z_X11_common
  refine tz_bd (tz_ob hT k_h0) (fun _ _ => ?_)
  refine tz_be (tg_11_3 hT k_h0) (fun t_1 e1854 k_t_1 => ?_)
  refine tz_bd (tz_X3_hasLocks hT k_t_1) (fun t_5 i_t_5 => ?_)
  refine tz_if _ (fun c1852 => ?_) (fun c1852 => ?_)
  ·
    have i1_t_5 : tq_iv 0 0 t_5 := tq_cut i_t_5 (tq_eqL c1852 tk_0) (by decide) (by decide)
    exact tz_some ⟨(tq_top (-1 : Int32)), hT⟩
  ·
    have i2_t_5 : tq_iv 1 1 t_5 := tq_w (tq_neLo c1852 i_t_5 tk_0) (by decide) (by decide)
    refine tz_be (tg_11_10 hT k_h0) (fun t_14 e1851 k_t_14 => ?_)
    refine tz_be (tg_11_5 hT k_h0) (fun t_18 e1850 k_t_18 => ?_)
    refine tz_b2 (tz_X8_take hT k_t_14 k_t_18) (fun _ σ1849 T1849 => ?_)
    refine tz_if _ (fun c1848 => ?_) (fun c1848 => ?_)
    ·
      have i3_x2 : tq_iv 0 0 x2 := tq_cut (tq_top x2) (tq_eqL c1848 tk_0) (by decide) (by decide)
      refine tz_be (tg_11_10 T1849 k_h0) (fun t_53 e1842 k_t_53 => ?_)
      refine tz_bd (tz_X8_total T1849 k_t_53) (fun t_58 i_t_58 => ?_)
      exact tz_some ⟨(tq_top t_58), T1849⟩
    ·
      refine tz_if _ (fun c1847 => ?_) (fun c1847 => ?_)
      ·
        have i4_x2 : tq_iv 1 1 x2 := tq_cut (tq_top x2) (tq_eqL c1847 tk_1) (by decide) (by decide)
        refine tz_be (tg_11_10 T1849 k_h0) (fun t_63 e1845 k_t_63 => ?_)
        refine tz_bd (tz_X8_leastNumber T1849 k_t_63) (fun t_68 i_t_68 => ?_)
        exact tz_some ⟨(tq_top t_68), T1849⟩
      ·
        exact tz_some ⟨(tq_top (-1 : Int32)), T1849⟩
set_option maxRecDepth 4000 in
theorem tz_X3_hasKey {p : tz_P} {σ : ez_H} {h0 : Nat} {x1 : Int32} (hT : tp p σ) (k_h0 : tz_C h0 = some (3, 3, 0, 0)) : tz_O (fun z => tq_iv 0 1 z ∧ (¬ z = 0 → tq_iv 0 7 x1)) (z_X3_hasKey σ h0 x1) := by
  unfold z_X3_hasKey
  refine tz_bd (tz_ob hT k_h0) (fun _ _ => ?_)
  have K_17 : ∀ (y0_17 : Int32), tq_iv 0 1 y0_17 → (¬ y0_17 = 0 → tq_iv 0 7 x1) → tz_O (fun (z : Int32) => tq_iv 0 1 z ∧ (¬ z = 0 → tq_iv 0 7 x1)) (z_X3_hasKey_17 σ y0_17) := by
    intro y0_17 i_y0_17 g17_y0_17_x1
    unfold z_X3_hasKey_17
    refine tz_nr (tq_nr_boolean i_y0_17) ?_
    exact tz_some ⟨i_y0_17, (fun h => tq_w (g17_y0_17_x1 h) (by decide) (by decide))⟩
  have K_16 : tz_O (fun (z : Int32) => tq_iv 0 1 z ∧ (¬ z = 0 → tq_iv 0 7 x1)) (z_X3_hasKey_16 σ) := by
    unfold z_X3_hasKey_16
    exact K_17 (0 : Int32) (tq_w tk_0 (by decide) (by decide)) (fun h => absurd rfl h)
  refine tz_if _ (fun c1864 => ?_) (fun c1864 => ?_)
  ·
    have i1_x1 : tq_iv (-2147483648) (-1) x1 := tq_cut (tq_top x1) (tq_ltL c1864 (tq_top x1) tk_0) (by decide) (by decide)
    exact K_16 
  ·
    have i2_x1 : tq_iv 0 2147483647 x1 := tq_cut (tq_top x1) (tq_leR (tq_nlt c1864) tk_0 (tq_top x1)) (by decide) (by decide)
    refine tz_be (tg_3_3 hT k_h0) (fun t_6 e1863 i_t_6 => ?_)
    refine tz_if _ (fun c1862 => ?_) (fun c1862 => ?_)
    ·
      exact K_16 
    ·
      have i3_x1 : tq_iv 0 7 x1 := tq_cut i2_x1 (tq_ltL (tq_nle c1862) i2_x1 i_t_6) (by decide) (by decide)
      have i4_t_6 : tq_iv 1 8 t_6 := tq_cut i_t_6 (tq_ltR (tq_nle c1862) i2_x1 i_t_6) (by decide) (by decide)
      exact K_17 (1 : Int32) (tq_w tk_1 (by decide) (by decide)) (fun _ => i3_x1)
set_option maxRecDepth 4000 in
theorem tz_X6_hasChamber {p : tz_P} {σ : ez_H} {h0 : Nat} {x1 : Int32} (hT : tp p σ) (k_h0 : tz_C h0 = some (3, 6, 0, 0)) : tz_O (fun z => tq_iv 0 1 z ∧ (¬ z = 0 → tq_iv 0 998 x1)) (z_X6_hasChamber σ h0 x1) := by
  unfold z_X6_hasChamber
  refine tz_bd (tz_ob hT k_h0) (fun _ _ => ?_)
  have K_17 : ∀ (y0_17 : Int32), tq_iv 0 1 y0_17 → (¬ y0_17 = 0 → tq_iv 0 998 x1) → tz_O (fun (z : Int32) => tq_iv 0 1 z ∧ (¬ z = 0 → tq_iv 0 998 x1)) (z_X6_hasChamber_17 σ y0_17) := by
    intro y0_17 i_y0_17 g17_y0_17_x1
    unfold z_X6_hasChamber_17
    refine tz_nr (tq_nr_boolean i_y0_17) ?_
    exact tz_some ⟨i_y0_17, (fun h => tq_w (g17_y0_17_x1 h) (by decide) (by decide))⟩
  have K_16 : tz_O (fun (z : Int32) => tq_iv 0 1 z ∧ (¬ z = 0 → tq_iv 0 998 x1)) (z_X6_hasChamber_16 σ) := by
    unfold z_X6_hasChamber_16
    exact K_17 (0 : Int32) (tq_w tk_0 (by decide) (by decide)) (fun h => absurd rfl h)
  refine tz_if _ (fun c1874 => ?_) (fun c1874 => ?_)
  ·
    have i1_x1 : tq_iv (-2147483648) (-1) x1 := tq_cut (tq_top x1) (tq_ltL c1874 (tq_top x1) tk_0) (by decide) (by decide)
    exact K_16 
  ·
    have i2_x1 : tq_iv 0 2147483647 x1 := tq_cut (tq_top x1) (tq_leR (tq_nlt c1874) tk_0 (tq_top x1)) (by decide) (by decide)
    refine tz_be (tg_6_0 hT k_h0) (fun t_6 e1873 i_t_6 => ?_)
    refine tz_if _ (fun c1872 => ?_) (fun c1872 => ?_)
    ·
      exact K_16 
    ·
      have i3_x1 : tq_iv 0 998 x1 := tq_cut i2_x1 (tq_ltL (tq_nle c1872) i2_x1 i_t_6) (by decide) (by decide)
      have i4_t_6 : tq_iv 1 999 t_6 := tq_cut i_t_6 (tq_ltR (tq_nle c1872) i2_x1 i_t_6) (by decide) (by decide)
      exact K_17 (1 : Int32) (tq_w tk_1 (by decide) (by decide)) (fun _ => i3_x1)
set_option maxRecDepth 4000 in
theorem tz_X11_cut {p : tz_P} {σ : ez_H} {h0 : Nat} {x1 : Int32} {x2 : Int32} (hT : tp p σ) (k_h0 : tz_C h0 = some (3, 11, 0, 0)) : tz_O (fun z => tq_iv (-2147483648) 2147483647 z) (z_X11_cut σ h0 x1 x2) := by
  unfold z_X11_cut
  refine tz_bd (tz_ob hT k_h0) (fun _ _ => ?_)
  refine tz_be (tg_11_3 hT k_h0) (fun t_1 e1889 k_t_1 => ?_)
  refine tz_bd (tz_X3_hasKey hT k_t_1) (fun t_5 ⟨i_t_5, g_t_5⟩ => ?_)
  have K_22 : tz_O (fun (z : Int32) => tq_iv (-2147483648) 2147483647 z) (z_X11_cut_22 σ) := by
    unfold z_X11_cut_22
    exact tz_some (tq_top (-1 : Int32))
  refine tz_if _ (fun c1887 => ?_) (fun c1887 => ?_)
  ·
    have i1_t_5 : tq_iv 0 0 t_5 := tq_cut i_t_5 (tq_eqL c1887 tk_0) (by decide) (by decide)
    exact K_22 
  ·
    have i2_x1 : tq_iv 0 7 x1 := tq_cut (tq_top x1) (g_t_5 c1887) (by decide) (by decide)
    have i3_t_5 : tq_iv 1 1 t_5 := tq_w (tq_neLo c1887 i_t_5 tk_0) (by decide) (by decide)
    refine tz_be (tg_11_4 hT k_h0) (fun t_12 e1886 k_t_12 => ?_)
    refine tz_bd (tz_X6_hasChamber hT k_t_12) (fun t_16 ⟨i_t_16, g_t_16⟩ => ?_)
    refine tz_if _ (fun c1884 => ?_) (fun c1884 => ?_)
    ·
      have i4_t_16 : tq_iv 0 0 t_16 := tq_cut i_t_16 (tq_eqL c1884 tk_0) (by decide) (by decide)
      exact K_22 
    ·
      have i5_x2 : tq_iv 0 998 x2 := tq_cut (tq_top x2) (g_t_16 c1884) (by decide) (by decide)
      have i6_t_16 : tq_iv 1 1 t_16 := tq_w (tq_neLo c1884 i_t_16 tk_0) (by decide) (by decide)
      refine tz_bk e1886 ?_
      refine tz_be (tg_11_5 hT k_h0) (fun t_29 e1882 k_t_29 => ?_)
      refine tz_bd (tz_X7_bits hT k_t_29) (fun t_33 i_t_33 => ?_)
      refine tz_bd (tz_X6_depthAt hT k_t_12 (tq_w i5_x2 (by decide) (by decide))) (fun t_37 i_t_37 => ?_)
      exact tz_some (tq_top t_37)
set_option maxRecDepth 4000 in
theorem tz_X11_cutFor {p : tz_P} {σ : ez_H} {h0 : Nat} {x1 : Int32} {x2 : Int32} (hT : tp p σ) (k_h0 : tz_C h0 = some (3, 11, 0, 0)) : tz_O2 (fun (z : Int32) (s : ez_H) => tq_iv (-2147483648) 2147483647 z ∧ tp p s) (z_X11_cutFor σ h0 x1 x2) := by
  show tz_O (fun z : Int32 × ez_H => (fun (z : Int32) (s : ez_H) => tq_iv (-2147483648) 2147483647 z ∧ tp p s) z.1 z.2) _
  unfold z_X11_cutFor
  refine tz_bd (tz_ob hT k_h0) (fun _ _ => ?_)
  refine tz_be (tg_11_3 hT k_h0) (fun t_1 e1905 k_t_1 => ?_)
  refine tz_bd (tz_X3_hasLocks hT k_t_1) (fun t_5 i_t_5 => ?_)
  have K_22 : tz_O (fun z : Int32 × ez_H => (fun (z : Int32) (s : ez_H) => tq_iv (-2147483648) 2147483647 z ∧ tp p s) z.1 z.2) (z_X11_cutFor_22 σ) := by
    unfold z_X11_cutFor_22
    exact tz_some ⟨(tq_top (-1 : Int32)), hT⟩
  refine tz_if _ (fun c1903 => ?_) (fun c1903 => ?_)
  ·
    have i1_t_5 : tq_iv 0 0 t_5 := tq_cut i_t_5 (tq_eqL c1903 tk_0) (by decide) (by decide)
    exact K_22 
  ·
    have i2_t_5 : tq_iv 1 1 t_5 := tq_w (tq_neLo c1903 i_t_5 tk_0) (by decide) (by decide)
    refine tz_bk e1905 ?_
    refine tz_bd (tz_X3_hasLocks hT k_t_1) (fun t_16 i_t_16 => ?_)
    refine tz_if _ (fun c1900 => ?_) (fun c1900 => ?_)
    ·
      have i3_t_16 : tq_iv 0 0 t_16 := tq_cut i_t_16 (tq_eqL c1900 tk_0) (by decide) (by decide)
      exact K_22 
    ·
      have i4_t_16 : tq_iv 1 1 t_16 := tq_w (tq_neLo c1900 i_t_16 tk_0) (by decide) (by decide)
      refine tz_be (tg_11_10 hT k_h0) (fun t_25 e1899 k_t_25 => ?_)
      refine tz_be (tg_11_5 hT k_h0) (fun t_29 e1898 k_t_29 => ?_)
      refine tz_b2 (tz_X8_take hT k_t_25 k_t_29) (fun _ σ1897 T1897 => ?_)
      refine tz_be (tg_11_10 T1897 k_h0) (fun t_36 e1896 k_t_36 => ?_)
      refine tz_bd (tz_X8_leastNumber T1897 k_t_36) (fun t_41 i_t_41 => ?_)
      exact tz_some ⟨(tq_top t_41), T1897⟩
set_option maxRecDepth 4000 in
theorem tz_X3_hasDoor {p : tz_P} {σ : ez_H} {h0 : Nat} {x1 : Int32} (hT : tp p σ) (k_h0 : tz_C h0 = some (3, 3, 0, 0)) : tz_O (fun z => tq_iv 0 1 z ∧ (¬ z = 0 → tq_iv 0 2147483646 x1)) (z_X3_hasDoor σ h0 x1) := by
  unfold z_X3_hasDoor
  refine tz_bd (tz_ob hT k_h0) (fun _ _ => ?_)
  have K_17 : ∀ (y0_17 : Int32), tq_iv 0 1 y0_17 → (¬ y0_17 = 0 → tq_iv 0 2147483646 x1) → tz_O (fun (z : Int32) => tq_iv 0 1 z ∧ (¬ z = 0 → tq_iv 0 2147483646 x1)) (z_X3_hasDoor_17 σ y0_17) := by
    intro y0_17 i_y0_17 g17_y0_17_x1
    unfold z_X3_hasDoor_17
    refine tz_nr (tq_nr_boolean i_y0_17) ?_
    exact tz_some ⟨i_y0_17, (fun h => tq_w (g17_y0_17_x1 h) (by decide) (by decide))⟩
  have K_16 : tz_O (fun (z : Int32) => tq_iv 0 1 z ∧ (¬ z = 0 → tq_iv 0 2147483646 x1)) (z_X3_hasDoor_16 σ) := by
    unfold z_X3_hasDoor_16
    exact K_17 (0 : Int32) (tq_w tk_0 (by decide) (by decide)) (fun h => absurd rfl h)
  refine tz_if _ (fun c1915 => ?_) (fun c1915 => ?_)
  ·
    have i1_x1 : tq_iv (-2147483648) (-1) x1 := tq_cut (tq_top x1) (tq_ltL c1915 (tq_top x1) tk_0) (by decide) (by decide)
    exact K_16 
  ·
    have i2_x1 : tq_iv 0 2147483647 x1 := tq_cut (tq_top x1) (tq_leR (tq_nlt c1915) tk_0 (tq_top x1)) (by decide) (by decide)
    refine tz_be (tg_3_6 hT k_h0) (fun t_6 e1914 i_t_6 => ?_)
    refine tz_if _ (fun c1913 => ?_) (fun c1913 => ?_)
    ·
      exact K_16 
    ·
      have i3_x1 : tq_iv 0 2147483646 x1 := tq_cut i2_x1 (tq_ltL (tq_nle c1913) i2_x1 (tq_top t_6)) (by decide) (by decide)
      have i4_t_6 : tq_iv 1 2147483647 t_6 := tq_cut (tq_top t_6) (tq_ltR (tq_nle c1913) i2_x1 (tq_top t_6)) (by decide) (by decide)
      exact K_17 (1 : Int32) (tq_w tk_1 (by decide) (by decide)) (fun _ => i3_x1)
set_option maxRecDepth 4000 in
theorem tz_X11_door {p : tz_P} {σ : ez_H} {h0 : Nat} {x1 : Int32} {x2 : Int32} (hT : tp p σ) (k_h0 : tz_C h0 = some (3, 11, 0, 0)) : tz_O (fun z => tq_iv (-2147483648) 2147483647 z) (z_X11_door σ h0 x1 x2) := by
  unfold z_X11_door
  refine tz_bd (tz_ob hT k_h0) (fun _ _ => ?_)
  refine tz_be (tg_11_3 hT k_h0) (fun t_1 e1933 k_t_1 => ?_)
  refine tz_bd (tz_X3_hasDoor hT k_t_1) (fun t_5 ⟨i_t_5, g_t_5⟩ => ?_)
  refine tz_if _ (fun c1931 => ?_) (fun c1931 => ?_)
  ·
    have i1_t_5 : tq_iv 0 0 t_5 := tq_cut i_t_5 (tq_eqL c1931 tk_0) (by decide) (by decide)
    exact tz_some (tq_top (-1 : Int32))
  ·
    have i2_x1 : tq_iv 0 2147483646 x1 := tq_cut (tq_top x1) (g_t_5 c1931) (by decide) (by decide)
    have i3_t_5 : tq_iv 1 1 t_5 := tq_w (tq_neLo c1931 i_t_5 tk_0) (by decide) (by decide)
    refine tz_if _ (fun c1930 => ?_) (fun c1930 => ?_)
    ·
      have i4_x2 : tq_iv 0 0 x2 := tq_cut (tq_top x2) (tq_eqL c1930 tk_0) (by decide) (by decide)
      refine tz_bk e1933 ?_
      refine tz_bd (tz_X3_doorFrom hT k_t_1 (tq_w i2_x1 (by decide) (by decide))) (fun t_45 i_t_45 => ?_)
      exact tz_some (tq_top t_45)
    ·
      refine tz_if _ (fun c1929 => ?_) (fun c1929 => ?_)
      ·
        have i5_x2 : tq_iv 1 1 x2 := tq_cut (tq_top x2) (tq_eqL c1929 tk_1) (by decide) (by decide)
        refine tz_bk e1933 ?_
        refine tz_bd (tz_X3_doorTo hT k_t_1 (tq_w i2_x1 (by decide) (by decide))) (fun t_54 i_t_54 => ?_)
        exact tz_some (tq_top t_54)
      ·
        refine tz_if _ (fun c1928 => ?_) (fun c1928 => ?_)
        ·
          have i6_x2 : tq_iv 2 2 x2 := tq_cut (tq_top x2) (tq_eqL c1928 tk_2) (by decide) (by decide)
          refine tz_bk e1933 ?_
          refine tz_bd (tz_X3_doorLock hT k_t_1 i2_x1) (fun t_63 i_t_63 => ?_)
          exact tz_some (tq_top t_63)
        ·
          exact tz_some (tq_top (-1 : Int32))
set_option maxRecDepth 4000 in
theorem tz_X11_end {p : tz_P} {σ : ez_H} {h0 : Nat} {x1 : Int32} (hT : tp p σ) (k_h0 : tz_C h0 = some (3, 11, 0, 0)) : tz_O2 (fun (z : Int32) (s : ez_H) => tq_iv (-1) 2147483647 z ∧ tp p s) (z_X11_end σ h0 x1) := by
  show tz_O (fun z : Int32 × ez_H => (fun (z : Int32) (s : ez_H) => tq_iv (-1) 2147483647 z ∧ tp p s) z.1 z.2) _
  unfold z_X11_end
  refine tz_bd (tz_ob hT k_h0) (fun _ _ => ?_)
  have K_12 : tz_O (fun z : Int32 × ez_H => (fun (z : Int32) (s : ez_H) => tq_iv (-1) 2147483647 z ∧ tp p s) z.1 z.2) (z_X11_end_12 σ) := by
    unfold z_X11_end_12
    exact tz_some ⟨(tq_w tk_m1 (by decide) (by decide)), hT⟩
  refine tz_if _ (fun c1942 => ?_) (fun c1942 => ?_)
  ·
    have i1_x1 : tq_iv (-2147483648) (-1) x1 := tq_cut (tq_top x1) (tq_ltL c1942 (tq_top x1) tk_0) (by decide) (by decide)
    exact K_12 
  ·
    have i2_x1 : tq_iv 0 2147483647 x1 := tq_cut (tq_top x1) (tq_leR (tq_nlt c1942) tk_0 (tq_top x1)) (by decide) (by decide)
    refine tz_be (tg_11_1 hT k_h0) (fun t_6 e1941 i_t_6 => ?_)
    refine tz_if _ (fun c1940 => ?_) (fun c1940 => ?_)
    ·
      have i3_t_6 : tq_iv 0 2147483647 t_6 := tq_cut (tq_top t_6) (tq_leR c1940 i2_x1 (tq_top t_6)) (by decide) (by decide)
      refine tz_be (tw_11_1 hT k_h0 (tq_top x1)) (fun σ1938 e1938 T1938 => ?_)
      exact tz_some ⟨(tq_w i2_x1 (by decide) (by decide)), T1938⟩
    ·
      have i4_t_6 : tq_iv (-2147483648) 2147483646 t_6 := tq_cut (tq_top t_6) (tq_ltL (tq_nle c1940) (tq_top t_6) i2_x1) (by decide) (by decide)
      exact K_12
set_option maxRecDepth 4000 in
theorem tz_X11_fault {p : tz_P} {σ : ez_H} {h0 : Nat} {x1 : Int32} (hT : tp p σ) (k_h0 : tz_C h0 = some (3, 11, 0, 0)) : tz_O (fun z => tq_iv (-2147483648) 2147483647 z) (z_X11_fault σ h0 x1) := by
  unfold z_X11_fault
  refine tz_bd (tz_ob hT k_h0) (fun _ _ => ?_)
  refine tz_if _ (fun c1952 => ?_) (fun c1952 => ?_)
  ·
    have i1_x1 : tq_iv 0 0 x1 := tq_cut (tq_top x1) (tq_eqL c1952 tk_0) (by decide) (by decide)
    refine tz_be (tg_11_2 hT k_h0) (fun t_29 e1946 k_t_29 => ?_)
    refine tz_be (tg_4_1 hT k_t_29) (fun t_32 e1945 i_t_32 => ?_)
    exact tz_some (tq_top t_32)
  ·
    refine tz_if _ (fun c1951 => ?_) (fun c1951 => ?_)
    ·
      have i2_x1 : tq_iv 1 1 x1 := tq_cut (tq_top x1) (tq_eqL c1951 tk_1) (by decide) (by decide)
      refine tz_be (tg_11_2 hT k_h0) (fun t_37 e1949 k_t_37 => ?_)
      refine tz_be (tg_4_2 hT k_t_37) (fun t_40 e1948 i_t_40 => ?_)
      exact tz_some (tq_top t_40)
    ·
      exact tz_some (tq_top (-1 : Int32))
set_option maxRecDepth 4000 in
theorem tz_X11_putOnTape {p : tz_P} {σ : ez_H} {h0 : Nat} {x1 : Int32} (hT : tp p σ) (k_h0 : tz_C h0 = some (3, 11, 0, 0)) : tz_O2 (fun (z : Unit) (s : ez_H) => tp p s) (z_X11_putOnTape σ h0 x1) := by
  show tz_O (fun z : Unit × ez_H => (fun (z : Unit) (s : ez_H) => tp p s) z.1 z.2) _
  unfold z_X11_putOnTape
  refine tz_bd (tz_ob hT k_h0) (fun _ _ => ?_)
  have L_3 : ∀ (n_3 : Nat) (k_3 : ez_H → Nat → Int32 → Int32 → Option (Unit × ez_H)), (∀ (σ_3 : ez_H) (x2_3 : Int32), tp p σ_3 → tq_iv (-8) 24 x2_3 → (x2_3.toInt + 2147483648).toNat < n_3 → tz_O (fun z : Unit × ez_H => (fun (z : Unit) (s : ez_H) => tp p s) z.1 z.2) (k_3 σ_3 h0 x1 x2_3)) → ∀ (σ_3 : ez_H) (x2_3 : Int32), tp p σ_3 → tq_iv (-8) 24 x2_3 → (x2_3.toInt + 2147483648).toNat < n_3 + 1 → tz_O (fun z : Unit × ez_H => (fun (z : Unit) (s : ez_H) => tp p s) z.1 z.2) (z_X11_putOnTape_3 k_3 σ_3 h0 x1 x2_3) := by
    intro n_3 k_3 hk_3 σ_3 x2_3 T_σ_3 i_x2_3 hn_3
    unfold z_X11_putOnTape_3
    refine tz_if _ (fun c1972 => ?_) (fun c1972 => ?_)
    ·
      have i1_x2_3 : tq_iv (-8) (-1) x2_3 := tq_cut i_x2_3 (tq_ltL c1972 i_x2_3 tk_0) (by decide) (by decide)
      exact tz_some T_σ_3
    ·
      have i2_x2_3 : tq_iv 0 24 x2_3 := tq_cut i_x2_3 (tq_leR (tq_nlt c1972) tk_0 i_x2_3) (by decide) (by decide)
      refine tz_be (tg_11_1 T_σ_3 k_h0) (fun t_8 e1971 i_t_8 => ?_)
      have K_47 : ∀ (σ_47 : ez_H), tp p σ_47 → tz_O (fun z : Unit × ez_H => (fun (z : Unit) (s : ez_H) => tp p s) z.1 z.2) (z_X11_putOnTape_47 k_3 σ_47 h0 x1 x2_3) := by
        intro σ_47 T_σ_47
        unfold z_X11_putOnTape_47
        refine tz_let (fun t_47 e1955 => ?_)
        have i3_t_47 : tq_iv (-8) 16 t_47 := tq_w (tq_add e1955 i2_x2_3 tk_m8 (by decide) (by decide)) (by decide) (by decide)
        exact hk_3 σ_47 t_47 T_σ_47 (tq_w i3_t_47 (by decide) (by decide)) (tq_down e1955 i2_x2_3 tk_m8 (by decide) (by decide) hn_3)
      refine tz_if _ (fun c1970 => ?_) (fun c1970 => ?_)
      ·
        have i4_t_8 : tq_iv (-2147483648) (-1) t_8 := tq_cut (tq_top t_8) (tq_ltL c1970 (tq_top t_8) tk_0) (by decide) (by decide)
        exact K_47 σ_3 T_σ_3
      ·
        have i5_t_8 : tq_iv 0 2147483647 t_8 := tq_cut (tq_top t_8) (tq_leR (tq_nlt c1970) tk_0 (tq_top t_8)) (by decide) (by decide)
        refine tz_ba e1971 (fun t_15 e1969 a1969 => ?_)
        have i6_t_15 : tq_iv 0 2147483647 t_15 := tq_eqL a1969 i5_t_8
        refine tz_if _ (fun c1968 => ?_) (fun c1968 => ?_)
        ·
          have i7_t_15 : tq_iv 1600 2147483647 t_15 := tq_cut i6_t_15 (tq_leR c1968 tk_1600 i6_t_15) (by decide) (by decide)
          have i8_t_8 : tq_iv 1600 2147483647 t_8 := tq_cut i5_t_8 (tq_eqL (Eq.symm a1969) i7_t_15) (by decide) (by decide)
          exact K_47 σ_3 T_σ_3
        ·
          have i9_t_15 : tq_iv 0 1599 t_15 := tq_cut i6_t_15 (tq_ltL (tq_nle c1968) i6_t_15 tk_1600) (by decide) (by decide)
          have i10_t_8 : tq_iv 0 1599 t_8 := tq_cut i5_t_8 (tq_eqL (Eq.symm a1969) i9_t_15) (by decide) (by decide)
          refine tz_be (tg_11_0 T_σ_3 k_h0) (fun t_25 e1967 k_t_25 => ?_)
          refine tz_ba e1971 (fun t_29 e1966 a1966 => ?_)
          have i11_t_29 : tq_iv 0 1599 t_29 := tq_eqL a1966 i10_t_8
          refine tz_let (fun t_34 e1965 => ?_)
          refine tz_let (fun t_35 e1964 => ?_)
          refine tz_be (tz_is T_σ_3 k_t_25 (te_1 (p := p)) i11_t_29 (by decide) (by decide) (tq_nar_byte t_35)) (fun σ1963 e1963 T1963 => ?_)
          refine tz_ba ((fr_is_gi e1963).trans e1971) (fun t_39 e1962 a1962 => ?_)
          have i12_t_39 : tq_iv 0 1599 t_39 := tq_eqL a1962 i10_t_8
          refine tz_let (fun t_43 e1961 => ?_)
          have i13_t_43 : tq_iv 1 1600 t_43 := tq_w (tq_add e1961 i12_t_39 tk_1 (by decide) (by decide)) (by decide) (by decide)
          refine tz_be (tw_11_1 T1963 k_h0 (tq_top t_43)) (fun σ1960 e1960 T1960 => ?_)
          exact K_47 σ1960 T1960
  have E_3 : ∀ (σ_3 : ez_H) (x2_3 : Int32), tp p σ_3 → tq_iv (-8) 24 x2_3 → tz_O (fun z : Unit × ez_H => (fun (z : Unit) (s : ez_H) => tp p s) z.1 z.2) (ez_fix (fun _ _ _ _ => none) (z_X11_putOnTape_3) ez_N σ_3 h0 x1 x2_3) := by
    intro σ_3 x2_3 T_σ_3 i_x2_3
    exact ez_fix_indn (fun n_3 (k_3 : ez_H → Nat → Int32 → Int32 → Option (Unit × ez_H)) => ∀ (σ_3 : ez_H) (x2_3 : Int32), tp p σ_3 → tq_iv (-8) 24 x2_3 → (x2_3.toInt + 2147483648).toNat < n_3 → tz_O (fun z : Unit × ez_H => (fun (z : Unit) (s : ez_H) => tp p s) z.1 z.2) (k_3 σ_3 h0 x1 x2_3)) (by intros; rename_i h; exact absurd h (Nat.not_lt_zero _)) L_3 ez_N σ_3 x2_3 T_σ_3 i_x2_3 (tq_m1 x2_3)
  exact E_3 σ (24 : Int32) hT (tq_w tk_24 (by decide) (by decide))
set_option maxRecDepth 4000 in
theorem tz_X11_feed {p : tz_P} {σ : ez_H} {h0 : Nat} {x1 : Int32} {x2 : Int32} {x3 : Int32} {x4 : Int32} {x5 : Int32} (hT : tp p σ) (k_h0 : tz_C h0 = some (3, 11, 0, 0)) : tz_O2 (fun (z : Int32) (s : ez_H) => tq_iv (-2147483648) 2147483647 z ∧ tp p s) (z_X11_feed σ h0 x1 x2 x3 x4 x5) := by
  show tz_O (fun z : Int32 × ez_H => (fun (z : Int32) (s : ez_H) => tq_iv (-2147483648) 2147483647 z ∧ tp p s) z.1 z.2) _
  unfold z_X11_feed
  refine tz_bd (tz_ob hT k_h0) (fun _ _ => ?_)
  refine tz_be (tg_11_1 hT k_h0) (fun t_1 e1985 i_t_1 => ?_)
  refine tz_let (fun t_6 e1984 => ?_)
  refine tz_if _ (fun c1983 => ?_) (fun c1983 => ?_)
  ·
    have i1_t_6 : tq_iv (-2147483648) 1600 t_6 := tq_cut (tq_top t_6) (tq_leL c1983 (tq_top t_6) tk_1600) (by decide) (by decide)
    refine tz_b2 (tz_X11_putOnTape hT k_h0) (fun _ σ1981 T1981 => ?_)
    refine tz_b2 (tz_X11_putOnTape T1981 k_h0) (fun _ σ1980 T1980 => ?_)
    refine tz_b2 (tz_X11_putOnTape T1980 k_h0) (fun _ σ1979 T1979 => ?_)
    refine tz_b2 (tz_X11_putOnTape T1979 k_h0) (fun _ σ1978 T1978 => ?_)
    refine tz_b2 (tz_X11_putOnTape T1978 k_h0) (fun _ σ1977 T1977 => ?_)
    refine tz_be (tg_11_1 T1977 k_h0) (fun t_43 e1976 i_t_43 => ?_)
    exact tz_some ⟨(tq_top t_43), T1977⟩
  ·
    have i2_t_6 : tq_iv 1601 2147483647 t_6 := tq_cut (tq_top t_6) (tq_ltR (tq_nle c1983) tk_1600 (tq_top t_6)) (by decide) (by decide)
    exact tz_some ⟨(tq_top (-1 : Int32)), hT⟩
set_option maxRecDepth 4000 in
theorem tz_X6_isLegal {p : tz_P} {σ : ez_H} {h0 : Nat} {x1 : Int32} (hT : tp p σ) (k_h0 : tz_C h0 = some (3, 6, 0, 0)) : tz_O (fun z => tq_iv 0 1 z) (z_X6_isLegal σ h0 x1) := by
  unfold z_X6_isLegal
  refine tz_bd (tz_ob hT k_h0) (fun _ _ => ?_)
  have L_2 : ∀ (n_2 : Nat) (k_2 : Nat → Int32 → Int32 → Option (Int32)), (∀ (x2_2 : Int32), tq_iv 1 999 x2_2 → (2147483647 - x2_2.toInt).toNat < n_2 → tz_O (fun (z : Int32) => tq_iv 0 1 z) (k_2 h0 x1 x2_2)) → ∀ (x2_2 : Int32), tq_iv 1 999 x2_2 → (2147483647 - x2_2.toInt).toNat < n_2 + 1 → tz_O (fun (z : Int32) => tq_iv 0 1 z) (z_X6_isLegal_2 σ k_2 h0 x1 x2_2) := by
    intro n_2 k_2 hk_2 x2_2 i_x2_2 hn_2
    unfold z_X6_isLegal_2
    refine tz_be (tg_6_0 hT k_h0) (fun t_4 e1999 i_t_4 => ?_)
    refine tz_if _ (fun c1998 => ?_) (fun c1998 => ?_)
    ·
      exact tz_some (tq_w tk_1 (by decide) (by decide))
    ·
      have i1_x2_2 : tq_iv 1 998 x2_2 := tq_cut i_x2_2 (tq_ltL (tq_nle c1998) i_x2_2 i_t_4) (by decide) (by decide)
      have i2_t_4 : tq_iv 2 999 t_4 := tq_cut i_t_4 (tq_ltR (tq_nle c1998) i_x2_2 i_t_4) (by decide) (by decide)
      refine tz_bd (tz_X6_depthAt hT k_h0 (tq_w i1_x2_2 (by decide) (by decide))) (fun t_13 i_t_13 => ?_)
      refine tz_let (fun t_20 e1996 => ?_)
      have i3_t_20 : tq_iv 0 997 t_20 := tq_w (tq_sub e1996 i1_x2_2 tk_1 (by decide) (by decide)) (by decide) (by decide)
      refine tz_bd (tz_X6_depthAt hT k_h0 (tq_w i3_t_20 (by decide) (by decide))) (fun t_21 i_t_21 => ?_)
      refine tz_let (fun t_24 e1994 => ?_)
      refine tz_let (fun t_25 e1993 => ?_)
      refine tz_be (tg_6_2 hT k_h0) (fun t_29 e1992 i_t_29 => ?_)
      refine tz_if _ (fun c1991 => ?_) (fun c1991 => ?_)
      ·
        have i4_t_25 : tq_iv (-2147483648) 999 t_25 := tq_cut (tq_top t_25) (tq_leL c1991 (tq_top t_25) i_t_29) (by decide) (by decide)
        refine tz_let (fun t_37 e1989 => ?_)
        have i5_t_37 : tq_iv 2 999 t_37 := tq_w (tq_add e1989 i1_x2_2 tk_1 (by decide) (by decide)) (by decide) (by decide)
        exact hk_2 t_37 (tq_w i5_t_37 (by decide) (by decide)) (tq_up e1989 i1_x2_2 tk_1 (by decide) (by decide) hn_2)
      ·
        have i6_t_25 : tq_iv 1 2147483647 t_25 := tq_cut (tq_top t_25) (tq_ltR (tq_nle c1991) i_t_29 (tq_top t_25)) (by decide) (by decide)
        exact tz_some (tq_w tk_0 (by decide) (by decide))
  have E_2 : ∀ (x2_2 : Int32), tq_iv 1 999 x2_2 → tz_O (fun (z : Int32) => tq_iv 0 1 z) (ez_fix (fun _ _ _ => none) (z_X6_isLegal_2 σ) ez_N h0 x1 x2_2) := by
    intro x2_2 i_x2_2
    exact ez_fix_indn (fun n_2 (k_2 : Nat → Int32 → Int32 → Option (Int32)) => ∀ (x2_2 : Int32), tq_iv 1 999 x2_2 → (2147483647 - x2_2.toInt).toNat < n_2 → tz_O (fun (z : Int32) => tq_iv 0 1 z) (k_2 h0 x1 x2_2)) (by intros; rename_i h; exact absurd h (Nat.not_lt_zero _)) L_2 ez_N x2_2 i_x2_2 (tq_m0 x2_2)
  exact E_2 (1 : Int32) (tq_w tk_1 (by decide) (by decide))
set_option maxRecDepth 4000 in
theorem tz_X6_deeper {p : tz_P} {σ : ez_H} {h0 : Nat} {x1 : Int32} {x2 : Int32} (hT : tp p σ) (k_h0 : tz_C h0 = some (3, 6, 0, 0)) (i_x2 : tq_iv (-998) 998 x2) : tz_O (fun z => tq_iv (-2147483648) 2147483647 z) (z_X6_deeper σ h0 x1 x2) := by
  unfold z_X6_deeper
  refine tz_bd (tz_ob hT k_h0) (fun _ _ => ?_)
  refine tz_bd (tz_X6_depthAt hT k_h0 i_x2) (fun t_3 i_t_3 => ?_)
  refine tz_let (fun t_9 e2015 => ?_)
  refine tz_be (tg_6_1 hT k_h0) (fun t_11 e2014 i_t_11 => ?_)
  refine tz_if _ (fun c2013 => ?_) (fun c2013 => ?_)
  ·
    have i1_t_9 : tq_iv (-2147483648) 998 t_9 := tq_cut (tq_top t_9) (tq_ltL c2013 (tq_top t_9) i_t_11) (by decide) (by decide)
    refine tz_bd (tz_X6_notch hT i_x2) (fun t_22 i_t_22 => ?_)
    refine tz_let (fun t_25 e2010 => ?_)
    refine tz_let (fun t_29 e2009 => ?_)
    refine tz_bd (tz_X6_notch hT i_x2) (fun t_30 i_t_30 => ?_)
    refine tz_let (fun t_33 e2007 => ?_)
    refine tz_bd (tz_X6_isLegal hT k_h0) (fun t_39 i_t_39 => ?_)
    have K_51 : ∀ (y0_51 : Int32), tz_O (fun (z : Int32) => tq_iv (-2147483648) 2147483647 z) (z_X6_deeper_51 σ y0_51) := by
      intro y0_51
      unfold z_X6_deeper_51
      exact tz_some (tq_top y0_51)
    refine tz_if _ (fun c2005 => ?_) (fun c2005 => ?_)
    ·
      have i2_t_39 : tq_iv 0 0 t_39 := tq_cut i_t_39 (tq_eqL c2005 tk_0) (by decide) (by decide)
      exact K_51 (0 : Int32)
    ·
      have i3_t_39 : tq_iv 1 1 t_39 := tq_w (tq_neLo c2005 i_t_39 tk_0) (by decide) (by decide)
      exact K_51 t_33
  ·
    have i4_t_9 : tq_iv 0 2147483647 t_9 := tq_cut (tq_top t_9) (tq_leR (tq_nlt c2013) i_t_11 (tq_top t_9)) (by decide) (by decide)
    exact tz_some (tq_top (0 : Int32))
set_option maxRecDepth 4000 in
theorem tz_X1_slot {p : tz_P} {σ : ez_H} {h0 : Nat} {x1 : Int32} (hT : tp p σ) (k_h0 : tz_C h0 = some (3, 1, 0, 0)) : tz_O (fun z => tz_C z = some (3, 7, 0, 0)) (z_X1_slot σ h0 x1) := by
  unfold z_X1_slot
  refine tz_bd (tz_ob hT k_h0) (fun _ _ => ?_)
  refine tz_be (tg_1_0 hT k_h0) (fun t_1 e2033 k_t_1 => ?_)
  refine tz_be (tg_1_1 hT k_h0) (fun t_5 e2032 i_t_5 => ?_)
  refine tz_let (fun t_9 e2031 => ?_)
  refine tz_bd (tz_J9_floorMod_7cf53 hT tk_41) (fun t_12 i_t_12 => ?_)
  refine tz_be (tz_ra hT k_t_1 i_t_12 (by decide) (by decide)) (fun t_15 e2029 k_t_15 => ?_)
  exact tz_some k_t_15
set_option maxRecDepth 4000 in
theorem tz_X1_keep {p : tz_P} {σ : ez_H} {h0 : Nat} {h1 : Nat} (hT : tp p σ) (k_h0 : tz_C h0 = some (3, 1, 0, 0)) (k_h1 : tz_C h1 = some (3, 7, 0, 0)) : tz_O2 (fun (z : Unit) (s : ez_H) => tp p s) (z_X1_keep σ h0 h1) := by
  show tz_O (fun z : Unit × ez_H => (fun (z : Unit) (s : ez_H) => tp p s) z.1 z.2) _
  unfold z_X1_keep
  refine tz_bd (tz_ob hT k_h0) (fun _ _ => ?_)
  refine tz_be (tg_1_2 hT k_h0) (fun t_1 e2055 i_t_1 => ?_)
  have K_32 : ∀ (σ_32 : ez_H), tp p σ_32 → tz_O (fun z : Unit × ez_H => (fun (z : Unit) (s : ez_H) => tp p s) z.1 z.2) (z_X1_keep_32 σ_32 h0 h1) := by
    intro σ_32 T_σ_32
    unfold z_X1_keep_32
    refine tz_be (tg_1_2 T_σ_32 k_h0) (fun t_34 e2043 i_t_34 => ?_)
    refine tz_bd (tz_X1_slot T_σ_32 k_h0) (fun t_37 k_t_37 => ?_)
    refine tz_b2 (tz_X7_copyFrom T_σ_32 k_t_37 k_h1) (fun _ σ2041 T2041 => ?_)
    refine tz_be (tg_1_2 T2041 k_h0) (fun t_46 e2040 i_t_46 => ?_)
    refine tz_let (fun t_50 e2039 => ?_)
    refine tz_be (tw_1_2 T2041 k_h0 (tq_top t_50)) (fun σ2038 e2038 T2038 => ?_)
    refine tz_ba (fr_pf_gi e2038) (fun t_56 e2037 a2037 => ?_)
    refine tz_be (tw_1_3 T2038 k_h0 (tq_top t_56)) (fun σ2036 e2036 T2036 => ?_)
    exact tz_some T2036
  refine tz_if _ (fun c2054 => ?_) (fun c2054 => ?_)
  ·
    have i1_t_1 : tq_iv (-2147483648) 39 t_1 := tq_cut (tq_top t_1) (tq_ltL c2054 (tq_top t_1) tk_40) (by decide) (by decide)
    exact K_32 σ hT
  ·
    have i2_t_1 : tq_iv 40 2147483647 t_1 := tq_cut (tq_top t_1) (tq_leR (tq_nlt c2054) tk_40 (tq_top t_1)) (by decide) (by decide)
    refine tz_be (tg_1_1 hT k_h0) (fun t_11 e2053 i_t_11 => ?_)
    refine tz_let (fun t_15 e2052 => ?_)
    refine tz_nz (tq_nz tk_41 (by decide)) ?_
    refine tz_let (fun t_18 e2050 => ?_)
    have i3_t_18 : tq_iv (-40) 40 t_18 := tq_remS e2050 tk_41 (by decide)
    refine tz_be (tw_1_1 hT k_h0 (tq_top t_18)) (fun σ2049 e2049 T2049 => ?_)
    refine tz_ba ((fr_pf_v e2049 (fun h => absurd h.2.2 (by decide))).1.trans e2055) (fun t_24 e2048 a2048 => ?_)
    have i4_t_24 : tq_iv 40 2147483647 t_24 := tq_eqL a2048 i2_t_1
    refine tz_let (fun t_28 e2047 => ?_)
    have i5_t_28 : tq_iv 39 2147483646 t_28 := tq_w (tq_sub e2047 i4_t_24 tk_1 (by decide) (by decide)) (by decide) (by decide)
    refine tz_be (tw_1_2 T2049 k_h0 (tq_top t_28)) (fun σ2046 e2046 T2046 => ?_)
    exact K_32 σ2046 T2046
set_option maxRecDepth 4000 in
theorem tz_X7_put {p : tz_P} {σ : ez_H} {h0 : Nat} {x1 : Int32} {x2 : Int32} (hT : tp p σ) (k_h0 : tz_C h0 = some (3, 7, 0, 0)) : tz_O2 (fun (z : Unit) (s : ez_H) => tp p s ∧ fw [] σ s) (z_X7_put σ h0 x1 x2) := by
  show tz_O (fun z : Unit × ez_H => (fun (z : Unit) (s : ez_H) => tp p s ∧ fw [] σ s) z.1 z.2) _
  unfold z_X7_put
  refine tz_bd (tz_ob hT k_h0) (fun _ _ => ?_)
  have K_17 : ∀ (σ_17 : ez_H), tp p σ_17 → fw [] σ σ_17 → tz_O (fun z : Unit × ez_H => (fun (z : Unit) (s : ez_H) => tp p s ∧ fw [] σ s) z.1 z.2) (z_X7_put_17 σ_17) := by
    intro σ_17 T_σ_17 F_σ_17
    unfold z_X7_put_17
    exact tz_some ⟨T_σ_17, F_σ_17⟩
  refine tz_if _ (fun c2064 => ?_) (fun c2064 => ?_)
  ·
    have i1_x1 : tq_iv (-2147483648) (-1) x1 := tq_cut (tq_top x1) (tq_ltL c2064 (tq_top x1) tk_0) (by decide) (by decide)
    exact K_17 σ hT fw_0
  ·
    have i2_x1 : tq_iv 0 2147483647 x1 := tq_cut (tq_top x1) (tq_leR (tq_nlt c2064) tk_0 (tq_top x1)) (by decide) (by decide)
    refine tz_if _ (fun c2063 => ?_) (fun c2063 => ?_)
    ·
      have i3_x1 : tq_iv 35 2147483647 x1 := tq_cut i2_x1 (tq_leR c2063 tk_35 i2_x1) (by decide) (by decide)
      exact K_17 σ hT fw_0
    ·
      have i4_x1 : tq_iv 0 34 x1 := tq_cut i2_x1 (tq_ltL (tq_nle c2063) i2_x1 tk_35) (by decide) (by decide)
      refine tz_be (tg_7_0 hT k_h0) (fun t_11 e2062 k_t_11 => ?_)
      refine tz_be (tz_is hT k_t_11 (te_0 (p := p)) i4_x1 (by decide) (by decide) (tq_top x2)) (fun σ2061 e2061 T2061 => ?_)
      exact K_17 σ2061 T2061 (fw_is fw_0 e2061)
set_option maxRecDepth 4000 in
theorem tz_X7_putBits {p : tz_P} {σ : ez_H} {h0 : Nat} {x1 : Int32} {x2 : Int32} (hT : tp p σ) (k_h0 : tz_C h0 = some (3, 7, 0, 0)) : tz_O2 (fun (z : Unit) (s : ez_H) => tp p s ∧ fw [] σ s) (z_X7_putBits σ h0 x1 x2) := by
  show tz_O (fun z : Unit × ez_H => (fun (z : Unit) (s : ez_H) => tp p s ∧ fw [] σ s) z.1 z.2) _
  unfold z_X7_putBits
  refine tz_bd (tz_ob hT k_h0) (fun _ _ => ?_)
  refine tz_b2 (tz_X7_put hT k_h0) (fun _ σ2067 ⟨T2067, W2067⟩ => ?_)
  exact tz_some ⟨T2067, (fw_call fw_0 W2067 (by decide))⟩
set_option maxRecDepth 4000 in
theorem tz_X11_file {p : tz_P} {σ : ez_H} {h0 : Nat} {x1 : Int32} {x2 : Int32} (hT : tp p σ) (k_h0 : tz_C h0 = some (3, 11, 0, 0)) : tz_O2 (fun (z : Int32) (s : ez_H) => tq_iv (-2147483648) 2147483647 z ∧ tp p s) (z_X11_file σ h0 x1 x2) := by
  show tz_O (fun z : Int32 × ez_H => (fun (z : Int32) (s : ez_H) => tq_iv (-2147483648) 2147483647 z ∧ tp p s) z.1 z.2) _
  unfold z_X11_file
  refine tz_bd (tz_ob hT k_h0) (fun _ _ => ?_)
  refine tz_be (tg_11_3 hT k_h0) (fun t_1 e2091 k_t_1 => ?_)
  refine tz_bd (tz_X3_hasKey hT k_t_1) (fun t_5 ⟨i_t_5, g_t_5⟩ => ?_)
  have K_22 : tz_O (fun z : Int32 × ez_H => (fun (z : Int32) (s : ez_H) => tq_iv (-2147483648) 2147483647 z ∧ tp p s) z.1 z.2) (z_X11_file_22 σ) := by
    unfold z_X11_file_22
    exact tz_some ⟨(tq_top (-1 : Int32)), hT⟩
  refine tz_if _ (fun c2089 => ?_) (fun c2089 => ?_)
  ·
    have i1_t_5 : tq_iv 0 0 t_5 := tq_cut i_t_5 (tq_eqL c2089 tk_0) (by decide) (by decide)
    exact K_22 
  ·
    have i2_x1 : tq_iv 0 7 x1 := tq_cut (tq_top x1) (g_t_5 c2089) (by decide) (by decide)
    have i3_t_5 : tq_iv 1 1 t_5 := tq_w (tq_neLo c2089 i_t_5 tk_0) (by decide) (by decide)
    refine tz_be (tg_11_4 hT k_h0) (fun t_12 e2088 k_t_12 => ?_)
    refine tz_bd (tz_X6_hasChamber hT k_t_12) (fun t_16 ⟨i_t_16, g_t_16⟩ => ?_)
    refine tz_if _ (fun c2086 => ?_) (fun c2086 => ?_)
    ·
      have i4_t_16 : tq_iv 0 0 t_16 := tq_cut i_t_16 (tq_eqL c2086 tk_0) (by decide) (by decide)
      exact K_22 
    ·
      have i5_x2 : tq_iv 0 998 x2 := tq_cut (tq_top x2) (g_t_16 c2086) (by decide) (by decide)
      have i6_t_16 : tq_iv 1 1 t_16 := tq_w (tq_neLo c2086 i_t_16 tk_0) (by decide) (by decide)
      refine tz_bk e2088 ?_
      refine tz_be (tg_11_5 hT k_h0) (fun t_29 e2084 k_t_29 => ?_)
      refine tz_bd (tz_X7_bits hT k_t_29) (fun t_33 i_t_33 => ?_)
      refine tz_bd (tz_X6_deeper hT k_t_12 (tq_w i5_x2 (by decide) (by decide))) (fun t_37 i_t_37 => ?_)
      refine tz_if _ (fun c2081 => ?_) (fun c2081 => ?_)
      ·
        have i7_t_37 : tq_iv 0 0 t_37 := tq_cut (tq_top t_37) (tq_eqL c2081 tk_0) (by decide) (by decide)
        exact tz_some ⟨(tq_top (-1 : Int32)), hT⟩
      ·
        refine tz_be (tg_11_7 hT k_h0) (fun t_48 e2080 k_t_48 => ?_)
        refine tz_bk e2084 ?_
        refine tz_b2 (tz_X1_keep hT k_t_48 k_t_29) (fun _ σ2078 T2078 => ?_)
        refine tz_be (tg_11_5 T2078 k_h0) (fun t_59 e2077 k_t_59 => ?_)
        refine tz_b2 (tz_X7_putBits T2078 k_t_59) (fun _ σ2076 ⟨T2076, W2076⟩ => ?_)
        refine tz_be (tg_11_4 T2076 k_h0) (fun t_68 e2075 k_t_68 => ?_)
        refine tz_bd (tz_X6_depthAt T2076 k_t_68 (tq_w i5_x2 (by decide) (by decide))) (fun t_73 i_t_73 => ?_)
        exact tz_some ⟨(tq_top t_73), T2076⟩
set_option maxRecDepth 4000 in
theorem tz_X3_hasLock {p : tz_P} {σ : ez_H} {h0 : Nat} {x1 : Int32} (hT : tp p σ) (k_h0 : tz_C h0 = some (3, 3, 0, 0)) : tz_O (fun z => tq_iv 0 1 z ∧ (¬ z = 0 → tq_iv 0 2147483646 x1)) (z_X3_hasLock σ h0 x1) := by
  unfold z_X3_hasLock
  refine tz_bd (tz_ob hT k_h0) (fun _ _ => ?_)
  have K_17 : ∀ (y0_17 : Int32), tq_iv 0 1 y0_17 → (¬ y0_17 = 0 → tq_iv 0 2147483646 x1) → tz_O (fun (z : Int32) => tq_iv 0 1 z ∧ (¬ z = 0 → tq_iv 0 2147483646 x1)) (z_X3_hasLock_17 σ y0_17) := by
    intro y0_17 i_y0_17 g17_y0_17_x1
    unfold z_X3_hasLock_17
    refine tz_nr (tq_nr_boolean i_y0_17) ?_
    exact tz_some ⟨i_y0_17, (fun h => tq_w (g17_y0_17_x1 h) (by decide) (by decide))⟩
  have K_16 : tz_O (fun (z : Int32) => tq_iv 0 1 z ∧ (¬ z = 0 → tq_iv 0 2147483646 x1)) (z_X3_hasLock_16 σ) := by
    unfold z_X3_hasLock_16
    exact K_17 (0 : Int32) (tq_w tk_0 (by decide) (by decide)) (fun h => absurd rfl h)
  refine tz_if _ (fun c2101 => ?_) (fun c2101 => ?_)
  ·
    have i1_x1 : tq_iv (-2147483648) (-1) x1 := tq_cut (tq_top x1) (tq_ltL c2101 (tq_top x1) tk_0) (by decide) (by decide)
    exact K_16 
  ·
    have i2_x1 : tq_iv 0 2147483647 x1 := tq_cut (tq_top x1) (tq_leR (tq_nlt c2101) tk_0 (tq_top x1)) (by decide) (by decide)
    refine tz_be (tg_3_4 hT k_h0) (fun t_6 e2100 i_t_6 => ?_)
    refine tz_if _ (fun c2099 => ?_) (fun c2099 => ?_)
    ·
      exact K_16 
    ·
      have i3_x1 : tq_iv 0 2147483646 x1 := tq_cut i2_x1 (tq_ltL (tq_nle c2099) i2_x1 (tq_top t_6)) (by decide) (by decide)
      have i4_t_6 : tq_iv 1 2147483647 t_6 := tq_cut (tq_top t_6) (tq_ltR (tq_nle c2099) i2_x1 (tq_top t_6)) (by decide) (by decide)
      exact K_17 (1 : Int32) (tq_w tk_1 (by decide) (by decide)) (fun _ => i3_x1)
set_option maxRecDepth 4000 in
theorem tz_X6_fromDepthsOf {p : tz_P} {σ : ez_H} {h0 : Nat} {x1 : Int32} (hT : tp p σ) (k_h0 : tz_C h0 = some (3, 6, 0, 0)) : tz_O (fun z => tq_iv (-2147483648) 2147483647 z) (z_X6_fromDepthsOf σ h0 x1) := by
  unfold z_X6_fromDepthsOf
  refine tz_bd (tz_ob hT k_h0) (fun _ _ => ?_)
  have L_4 : ∀ (n_4 : Nat) (k_4 : Nat → Int32 → Int32 → Int32 → Option (Int32)), (∀ (x2_4 : Int32) (x3_4 : Int32), tq_iv 0 999 x3_4 → (2147483647 - x3_4.toInt).toNat < n_4 → tz_O (fun (z : Int32) => tq_iv (-2147483648) 2147483647 z) (k_4 h0 x1 x2_4 x3_4)) → ∀ (x2_4 : Int32) (x3_4 : Int32), tq_iv 0 999 x3_4 → (2147483647 - x3_4.toInt).toNat < n_4 + 1 → tz_O (fun (z : Int32) => tq_iv (-2147483648) 2147483647 z) (z_X6_fromDepthsOf_4 σ k_4 h0 x1 x2_4 x3_4) := by
    intro n_4 k_4 hk_4 x2_4 x3_4 i_x3_4 hn_4
    unfold z_X6_fromDepthsOf_4
    refine tz_be (tg_6_0 hT k_h0) (fun t_6 e2117 i_t_6 => ?_)
    refine tz_if _ (fun c2116 => ?_) (fun c2116 => ?_)
    ·
      exact tz_some (tq_top x2_4)
    ·
      have i1_x3_4 : tq_iv 0 998 x3_4 := tq_cut i_x3_4 (tq_ltL (tq_nle c2116) i_x3_4 i_t_6) (by decide) (by decide)
      have i2_t_6 : tq_iv 1 999 t_6 := tq_cut i_t_6 (tq_ltR (tq_nle c2116) i_x3_4 i_t_6) (by decide) (by decide)
      refine tz_bd (tz_X6_depthAt hT k_h0 (tq_w i1_x3_4 (by decide) (by decide))) (fun t_16 i_t_16 => ?_)
      refine tz_bd (tz_X6_notch hT (tq_w i1_x3_4 (by decide) (by decide))) (fun t_19 i_t_19 => ?_)
      refine tz_bd (tz_X6_notch hT (tq_w i1_x3_4 (by decide) (by decide))) (fun t_24 i_t_24 => ?_)
      refine tz_let (fun t_27 e2112 => ?_)
      refine tz_bd (tz_X6_notch hT (tq_w i1_x3_4 (by decide) (by decide))) (fun t_34 i_t_34 => ?_)
      refine tz_bd (tz_X6_notch hT (tq_w i1_x3_4 (by decide) (by decide))) (fun t_39 i_t_39 => ?_)
      refine tz_let (fun t_42 e2109 => ?_)
      refine tz_let (fun t_46 e2108 => ?_)
      refine tz_let (fun t_47 e2107 => ?_)
      refine tz_let (fun t_48 e2106 => ?_)
      refine tz_let (fun t_50 e2105 => ?_)
      have i3_t_50 : tq_iv 1 999 t_50 := tq_w (tq_add e2105 i1_x3_4 tk_1 (by decide) (by decide)) (by decide) (by decide)
      exact hk_4 t_48 t_50 (tq_w i3_t_50 (by decide) (by decide)) (tq_up e2105 i1_x3_4 tk_1 (by decide) (by decide) hn_4)
  have E_4 : ∀ (x2_4 : Int32) (x3_4 : Int32), tq_iv 0 999 x3_4 → tz_O (fun (z : Int32) => tq_iv (-2147483648) 2147483647 z) (ez_fix (fun _ _ _ _ => none) (z_X6_fromDepthsOf_4 σ) ez_N h0 x1 x2_4 x3_4) := by
    intro x2_4 x3_4 i_x3_4
    exact ez_fix_indn (fun n_4 (k_4 : Nat → Int32 → Int32 → Int32 → Option (Int32)) => ∀ (x2_4 : Int32) (x3_4 : Int32), tq_iv 0 999 x3_4 → (2147483647 - x3_4.toInt).toNat < n_4 → tz_O (fun (z : Int32) => tq_iv (-2147483648) 2147483647 z) (k_4 h0 x1 x2_4 x3_4)) (by intros; rename_i h; exact absurd h (Nat.not_lt_zero _)) L_4 ez_N x2_4 x3_4 i_x3_4 (tq_m0 x3_4)
  exact E_4 (0 : Int32) (0 : Int32) (tq_w tk_0 (by decide) (by decide))
set_option maxRecDepth 4000 in
theorem tz_X6_cheapest {p : tz_P} {σ : ez_H} {h0 : Nat} {x1 : Int32} {x2 : Int32} {x3 : Int32} (hT : tp p σ) (k_h0 : tz_C h0 = some (3, 6, 0, 0)) (i_x1 : tq_iv 0 998 x1) (i_x2 : tq_iv 0 2147483647 x2) (i_x3 : tq_iv (-2147483648) 998 x3) : tz_O (fun z => tq_iv (-2147483648) 2147483647 z) (z_X6_cheapest σ h0 x1 x2 x3) := by
  unfold z_X6_cheapest
  refine tz_bd (tz_ob hT k_h0) (fun _ _ => ?_)
  refine tz_let (fun t_5 e2130 => ?_)
  have L_8 : ∀ (n_8 : Nat) (k_8 : Nat → Int32 → Int32 → Int32 → Int32 → Option (Int32)), (∀ (x4_8 : Int32) (x5_8 : Int32), (2147483647 - x5_8.toInt).toNat < n_8 → tz_O (fun (z : Int32) => tq_iv (-2147483648) 2147483647 z) (k_8 h0 x1 x3 x4_8 x5_8)) → ∀ (x4_8 : Int32) (x5_8 : Int32), (2147483647 - x5_8.toInt).toNat < n_8 + 1 → tz_O (fun (z : Int32) => tq_iv (-2147483648) 2147483647 z) (z_X6_cheapest_8 σ k_8 h0 x1 x3 x4_8 x5_8) := by
    intro n_8 k_8 hk_8 x4_8 x5_8 hn_8
    unfold z_X6_cheapest_8
    refine tz_if _ (fun c2128 => ?_) (fun c2128 => ?_)
    ·
      have i1_x5_8 : tq_iv (-2147483647) 2147483647 x5_8 := tq_cut (tq_top x5_8) (tq_ltR c2128 i_x3 (tq_top x5_8)) (by decide) (by decide)
      exact tz_some (tq_top x4_8)
    ·
      have i2_x5_8 : tq_iv (-2147483648) 998 x5_8 := tq_cut (tq_top x5_8) (tq_leL (tq_nlt c2128) (tq_top x5_8) i_x3) (by decide) (by decide)
      refine tz_bd (tz_X6_onwardAt hT k_h0 i_x1) (fun t_18 i_t_18 => ?_)
      refine tz_bd (tz_X6_onwardAt hT k_h0 i_x1) (fun t_25 i_t_25 => ?_)
      have K_35 : ∀ (x4_35 : Int32), tz_O (fun (z : Int32) => tq_iv (-2147483648) 2147483647 z) (z_X6_cheapest_35 σ k_8 h0 x1 x3 x4_35 x5_8) := by
        intro x4_35
        unfold z_X6_cheapest_35
        refine tz_let (fun t_35 e2121 => ?_)
        have i3_t_35 : tq_iv (-2147483647) 999 t_35 := tq_w (tq_add e2121 i2_x5_8 tk_1 (by decide) (by decide)) (by decide) (by decide)
        exact hk_8 x4_35 t_35 (tq_up e2121 i2_x5_8 tk_1 (by decide) (by decide) hn_8)
      refine tz_if _ (fun c2125 => ?_) (fun c2125 => ?_)
      ·
        exact K_35 x4_8
      ·
        have i4_t_18 : tq_iv (-2147483648) 2147483646 t_18 := tq_cut (tq_top t_18) (tq_ltL (tq_nle c2125) (tq_top t_18) (tq_top t_25)) (by decide) (by decide)
        have i5_t_25 : tq_iv (-2147483647) 2147483647 t_25 := tq_cut (tq_top t_25) (tq_ltR (tq_nle c2125) (tq_top t_18) (tq_top t_25)) (by decide) (by decide)
        exact K_35 x5_8
  have E_8 : ∀ (x4_8 : Int32) (x5_8 : Int32), tz_O (fun (z : Int32) => tq_iv (-2147483648) 2147483647 z) (ez_fix (fun _ _ _ _ _ => none) (z_X6_cheapest_8 σ) ez_N h0 x1 x3 x4_8 x5_8) := by
    intro x4_8 x5_8
    exact ez_fix_indn (fun n_8 (k_8 : Nat → Int32 → Int32 → Int32 → Int32 → Option (Int32)) => ∀ (x4_8 : Int32) (x5_8 : Int32), (2147483647 - x5_8.toInt).toNat < n_8 → tz_O (fun (z : Int32) => tq_iv (-2147483648) 2147483647 z) (k_8 h0 x1 x3 x4_8 x5_8)) (by intros; rename_i h; exact absurd h (Nat.not_lt_zero _)) L_8 ez_N x4_8 x5_8 (tq_m0 x5_8)
  exact E_8 x2 t_5
set_option maxRecDepth 4000 in
theorem tz_X6_depthBehind {p : tz_P} {σ : ez_H} {h0 : Nat} {x1 : Int32} {x2 : Int32} (hT : tp p σ) (k_h0 : tz_C h0 = some (3, 6, 0, 0)) (i_x1 : tq_iv 0 998 x1) (i_x2 : tq_iv 0 998 x2) : tz_O (fun z => tq_iv (-2147483648) 2147483647 z) (z_X6_depthBehind σ h0 x1 x2) := by
  unfold z_X6_depthBehind
  refine tz_bd (tz_ob hT k_h0) (fun _ _ => ?_)
  refine tz_let (fun t_2 e2142 => ?_)
  have i1_t_2 : tq_iv 1 999 t_2 := tq_w (tq_add e2142 i_x1 tk_1 (by decide) (by decide)) (by decide) (by decide)
  refine tz_be (tg_6_0 hT k_h0) (fun t_4 e2141 i_t_4 => ?_)
  refine tz_if _ (fun c2140 => ?_) (fun c2140 => ?_)
  ·
    have i2_t_2 : tq_iv 1 998 t_2 := tq_cut i1_t_2 (tq_ltL c2140 i1_t_2 i_t_4) (by decide) (by decide)
    have i3_x1 : tq_iv 0 997 x1 := tq_cut i_x1 (tq_addB e2142 i_x1 tk_1 i2_t_2 (by decide) (by decide)) (by decide) (by decide)
    have i4_t_4 : tq_iv 2 999 t_4 := tq_cut i_t_4 (tq_ltR c2140 i1_t_2 i_t_4) (by decide) (by decide)
    refine tz_let (fun t_15 e2138 => ?_)
    have i5_t_15 : tq_iv 1 998 t_15 := tq_w (tq_add e2138 i3_x1 tk_1 (by decide) (by decide)) (by decide) (by decide)
    refine tz_let (fun t_19 e2137 => ?_)
    have i6_t_19 : tq_iv 1 998 t_19 := tq_w (tq_add e2137 i3_x1 tk_1 (by decide) (by decide)) (by decide) (by decide)
    refine tz_bd (tz_X6_lowest hT k_h0) (fun t_22 i_t_22 => ?_)
    refine tz_bd (tz_X6_highest hT k_h0) (fun t_27 i_t_27 => ?_)
    refine tz_bd (tz_X6_cheapest hT k_h0 (tq_w i6_t_19 (by decide) (by decide)) i_t_22 i_t_27) (fun t_30 i_t_30 => ?_)
    refine tz_bd (tz_X6_onwardAt hT k_h0 (tq_w i5_t_15 (by decide) (by decide))) (fun t_33 i_t_33 => ?_)
    exact tz_some (tq_top t_33)
  ·
    exact tz_some (tq_top (0 : Int32))
set_option maxRecDepth 4000 in
theorem tz_X6_shallowest {p : tz_P} {σ : ez_H} {h0 : Nat} {x1 : Int32} (hT : tp p σ) (k_h0 : tz_C h0 = some (3, 6, 0, 0)) : tz_O2 (fun (z : Int32) (s : ez_H) => tq_iv (-2147483648) 2147483647 z ∧ tp p s) (z_X6_shallowest σ h0 x1) := by
  show tz_O (fun z : Int32 × ez_H => (fun (z : Int32) (s : ez_H) => tq_iv (-2147483648) 2147483647 z ∧ tp p s) z.1 z.2) _
  unfold z_X6_shallowest
  refine tz_bd (tz_ob hT k_h0) (fun _ _ => ?_)
  refine tz_be (tg_6_0 hT k_h0) (fun t_1 e2182 i_t_1 => ?_)
  refine tz_let (fun t_5 e2181 => ?_)
  have i1_t_5 : tq_iv (-1) 998 t_5 := tq_w (tq_sub e2181 i_t_1 tk_1 (by decide) (by decide)) (by decide) (by decide)
  have L_7 : ∀ (n_7 : Nat) (k_7 : ez_H → Nat → Int32 → Int32 → Option (Int32 × ez_H)), (∀ (σ_7 : ez_H) (x2_7 : Int32), tp p σ_7 → tq_iv (-1) 998 x2_7 → (x2_7.toInt + 2147483648).toNat < n_7 → tz_O (fun z : Int32 × ez_H => (fun (z : Int32) (s : ez_H) => tq_iv (-2147483648) 2147483647 z ∧ tp p s) z.1 z.2) (k_7 σ_7 h0 x1 x2_7)) → ∀ (σ_7 : ez_H) (x2_7 : Int32), tp p σ_7 → tq_iv (-1) 998 x2_7 → (x2_7.toInt + 2147483648).toNat < n_7 + 1 → tz_O (fun z : Int32 × ez_H => (fun (z : Int32) (s : ez_H) => tq_iv (-2147483648) 2147483647 z ∧ tp p s) z.1 z.2) (z_X6_shallowest_7 k_7 σ_7 h0 x1 x2_7) := by
    intro n_7 k_7 hk_7 σ_7 x2_7 T_σ_7 i_x2_7 hn_7
    unfold z_X6_shallowest_7
    refine tz_if _ (fun c2179 => ?_) (fun c2179 => ?_)
    ·
      have i2_x2_7 : tq_iv (-1) (-1) x2_7 := tq_cut i_x2_7 (tq_ltL c2179 i_x2_7 tk_0) (by decide) (by decide)
      refine tz_be (tg_6_1 T_σ_7 k_h0) (fun t_86 e2177 i_t_86 => ?_)
      refine tz_let (fun t_90 e2176 => ?_)
      have i3_t_90 : tq_iv (-1) 998 t_90 := tq_w (tq_sub e2176 i_t_86 tk_1 (by decide) (by decide)) (by decide) (by decide)
      have L_96 : ∀ (n_96 : Nat) (k_96 : ez_H → Nat → Int32 → Int32 → Int32 → Int32 → Option (Int32 × ez_H)), (∀ (x2_96 : Int32) (x3_96 : Int32) (x4_96 : Int32) (x5_96 : Int32), tq_iv 0 2147483647 x3_96 → tq_iv (-2147483648) 998 x4_96 → tq_iv 0 999 x5_96 → (2147483647 - x5_96.toInt).toNat < n_96 → tz_O (fun z : Int32 × ez_H => (fun (z : Int32) (s : ez_H) => tq_iv (-2147483648) 2147483647 z ∧ tp p s) z.1 z.2) (k_96 σ_7 h0 x2_96 x3_96 x4_96 x5_96)) → ∀ (x2_96 : Int32) (x3_96 : Int32) (x4_96 : Int32) (x5_96 : Int32), tq_iv 0 2147483647 x3_96 → tq_iv (-2147483648) 998 x4_96 → tq_iv 0 999 x5_96 → (2147483647 - x5_96.toInt).toNat < n_96 + 1 → tz_O (fun z : Int32 × ez_H => (fun (z : Int32) (s : ez_H) => tq_iv (-2147483648) 2147483647 z ∧ tp p s) z.1 z.2) (z_X6_shallowest_96 k_96 σ_7 h0 x2_96 x3_96 x4_96 x5_96) := by
        intro n_96 k_96 hk_96 x2_96 x3_96 x4_96 x5_96 i_x3_96 i_x4_96 i_x5_96 hn_96
        unfold z_X6_shallowest_96
        refine tz_be (tg_6_0 T_σ_7 k_h0) (fun t_99 e2156 i_t_99 => ?_)
        refine tz_if _ (fun c2155 => ?_) (fun c2155 => ?_)
        ·
          exact tz_some ⟨(tq_top x2_96), T_σ_7⟩
        ·
          have i4_x5_96 : tq_iv 0 998 x5_96 := tq_cut i_x5_96 (tq_ltL (tq_nle c2155) i_x5_96 i_t_99) (by decide) (by decide)
          have i5_t_99 : tq_iv 1 999 t_99 := tq_cut i_t_99 (tq_ltR (tq_nle c2155) i_x5_96 i_t_99) (by decide) (by decide)
          refine tz_bd (tz_X6_cheapest T_σ_7 k_h0 i4_x5_96 i_x3_96 i_x4_96) (fun t_111 i_t_111 => ?_)
          refine tz_bd (tz_X6_onwardAt T_σ_7 k_h0 i4_x5_96) (fun t_121 i_t_121 => ?_)
          refine tz_if _ (fun c2152 => ?_) (fun c2152 => ?_)
          ·
            have i6_t_121 : tq_iv (-2147483648) 999 t_121 := tq_cut (tq_top t_121) (tq_ltL c2152 (tq_top t_121) tk_1000) (by decide) (by decide)
            refine tz_bd (tz_X6_notch T_σ_7 (tq_w i4_x5_96 (by decide) (by decide))) (fun t_137 i_t_137 => ?_)
            refine tz_let (fun t_140 e2149 => ?_)
            refine tz_bd (tz_X6_lowest T_σ_7 k_h0) (fun t_145 i_t_145 => ?_)
            refine tz_bd (tz_X6_highest T_σ_7 k_h0) (fun t_152 i_t_152 => ?_)
            refine tz_let (fun t_157 e2146 => ?_)
            have i7_t_157 : tq_iv 1 999 t_157 := tq_w (tq_add e2146 i4_x5_96 tk_1 (by decide) (by decide)) (by decide) (by decide)
            exact hk_96 t_140 t_145 t_152 t_157 i_t_145 i_t_152 (tq_w i7_t_157 (by decide) (by decide)) (tq_up e2146 i4_x5_96 tk_1 (by decide) (by decide) hn_96)
          ·
            have i8_t_121 : tq_iv 1000 2147483647 t_121 := tq_cut (tq_top t_121) (tq_leR (tq_nlt c2152) tk_1000 (tq_top t_121)) (by decide) (by decide)
            exact tz_some ⟨(tq_top (0 : Int32)), T_σ_7⟩
      have E_96 : ∀ (x2_96 : Int32) (x3_96 : Int32) (x4_96 : Int32) (x5_96 : Int32), tq_iv 0 2147483647 x3_96 → tq_iv (-2147483648) 998 x4_96 → tq_iv 0 999 x5_96 → tz_O (fun z : Int32 × ez_H => (fun (z : Int32) (s : ez_H) => tq_iv (-2147483648) 2147483647 z ∧ tp p s) z.1 z.2) (ez_fix (fun _ _ _ _ _ _ => none) (z_X6_shallowest_96) ez_N σ_7 h0 x2_96 x3_96 x4_96 x5_96) := by
        intro x2_96 x3_96 x4_96 x5_96 i_x3_96 i_x4_96 i_x5_96
        exact ez_fix_indn (fun n_96 (k_96 : ez_H → Nat → Int32 → Int32 → Int32 → Int32 → Option (Int32 × ez_H)) => ∀ (x2_96 : Int32) (x3_96 : Int32) (x4_96 : Int32) (x5_96 : Int32), tq_iv 0 2147483647 x3_96 → tq_iv (-2147483648) 998 x4_96 → tq_iv 0 999 x5_96 → (2147483647 - x5_96.toInt).toNat < n_96 → tz_O (fun z : Int32 × ez_H => (fun (z : Int32) (s : ez_H) => tq_iv (-2147483648) 2147483647 z ∧ tp p s) z.1 z.2) (k_96 σ_7 h0 x2_96 x3_96 x4_96 x5_96)) (by intros; rename_i h; exact absurd h (Nat.not_lt_zero _)) L_96 ez_N x2_96 x3_96 x4_96 x5_96 i_x3_96 i_x4_96 i_x5_96 (tq_m0 x5_96)
      exact E_96 (0 : Int32) (0 : Int32) t_90 (0 : Int32) (tq_w tk_0 (by decide) (by decide)) (tq_w i3_t_90 (by decide) (by decide)) (tq_w tk_0 (by decide) (by decide))
    ·
      have i9_x2_7 : tq_iv 0 998 x2_7 := tq_cut i_x2_7 (tq_leR (tq_nlt c2179) tk_0 i_x2_7) (by decide) (by decide)
      have L_13 : ∀ (n_13 : Nat) (k_13 : ez_H → Nat → Int32 → Int32 → Int32 → Option (Int32 × ez_H)), (∀ (σ_13 : ez_H) (x3_13 : Int32), tp p σ_13 → tq_iv 0 999 x3_13 → (2147483647 - x3_13.toInt).toNat < n_13 → tz_O (fun z : Int32 × ez_H => (fun (z : Int32) (s : ez_H) => tq_iv (-2147483648) 2147483647 z ∧ tp p s) z.1 z.2) (k_13 σ_13 h0 x1 x2_7 x3_13)) → ∀ (σ_13 : ez_H) (x3_13 : Int32), tp p σ_13 → tq_iv 0 999 x3_13 → (2147483647 - x3_13.toInt).toNat < n_13 + 1 → tz_O (fun z : Int32 × ez_H => (fun (z : Int32) (s : ez_H) => tq_iv (-2147483648) 2147483647 z ∧ tp p s) z.1 z.2) (z_X6_shallowest_13 k_7 k_13 σ_13 h0 x1 x2_7 x3_13) := by
        intro n_13 k_13 hk_13 σ_13 x3_13 T_σ_13 i_x3_13 hn_13
        unfold z_X6_shallowest_13
        refine tz_be (tg_6_1 T_σ_13 k_h0) (fun t_15 e2174 i_t_15 => ?_)
        refine tz_if _ (fun c2173 => ?_) (fun c2173 => ?_)
        ·
          refine tz_let (fun t_75 e2167 => ?_)
          have i10_t_75 : tq_iv (-1) 997 t_75 := tq_w (tq_add e2167 i9_x2_7 tk_m1 (by decide) (by decide)) (by decide) (by decide)
          exact hk_7 σ_13 t_75 T_σ_13 (tq_w i10_t_75 (by decide) (by decide)) (tq_down e2167 i9_x2_7 tk_m1 (by decide) (by decide) hn_7)
        ·
          have i11_x3_13 : tq_iv 0 998 x3_13 := tq_cut i_x3_13 (tq_ltL (tq_nle c2173) i_x3_13 i_t_15) (by decide) (by decide)
          have i12_t_15 : tq_iv 1 999 t_15 := tq_cut i_t_15 (tq_ltR (tq_nle c2173) i_x3_13 i_t_15) (by decide) (by decide)
          refine tz_bd (tz_X6_notch T_σ_13 (tq_w i9_x2_7 (by decide) (by decide))) (fun t_24 i_t_24 => ?_)
          refine tz_let (fun t_27 e2171 => ?_)
          have K_36 : ∀ (y0_36 : Int32), tq_iv 0 1 y0_36 → tz_O (fun z : Int32 × ez_H => (fun (z : Int32) (s : ez_H) => tq_iv (-2147483648) 2147483647 z ∧ tp p s) z.1 z.2) (z_X6_shallowest_36 k_7 k_13 σ_13 h0 x1 x2_7 x3_13 y0_36) := by
            intro y0_36 i_y0_36
            unfold z_X6_shallowest_36
            have K_66 : ∀ (y3_66 : Int32), tq_iv (-2147483648) 1000 y3_66 → tz_O (fun z : Int32 × ez_H => (fun (z : Int32) (s : ez_H) => tq_iv (-2147483648) 2147483647 z ∧ tp p s) z.1 z.2) (z_X6_shallowest_66 k_7 k_13 σ_13 h0 x1 x2_7 x3_13 h0 x2_7 x3_13 y3_66) := by
              intro y3_66 i_y3_66
              unfold z_X6_shallowest_66
              refine tz_b2 (tz_X6_putOnward T_σ_13 k_h0 i9_x2_7 i11_x3_13) (fun _ σ2159 T2159 => ?_)
              refine tz_let (fun t_69 e2158 => ?_)
              have i13_t_69 : tq_iv 1 999 t_69 := tq_w (tq_add e2158 i11_x3_13 tk_1 (by decide) (by decide)) (by decide) (by decide)
              exact hk_13 σ2159 t_69 T2159 (tq_w i13_t_69 (by decide) (by decide)) (tq_up e2158 i11_x3_13 tk_1 (by decide) (by decide) hn_13)
            refine tz_if _ (fun c2165 => ?_) (fun c2165 => ?_)
            ·
              have i14_y0_36 : tq_iv 0 0 y0_36 := tq_cut i_y0_36 (tq_eqL c2165 tk_0) (by decide) (by decide)
              exact K_66 (1000 : Int32) (tq_w tk_1000 (by decide) (by decide))
            ·
              have i15_y0_36 : tq_iv 1 1 y0_36 := tq_w (tq_neLo c2165 i_y0_36 tk_0) (by decide) (by decide)
              refine tz_bd (tz_X6_depthBehind T_σ_13 k_h0 i9_x2_7 i11_x3_13) (fun t_53 i_t_53 => ?_)
              refine tz_let (fun t_56 e2163 => ?_)
              refine tz_let (fun t_57 e2162 => ?_)
              have i16_t_57 : tq_iv (-2147483648) 1000 t_57 := tq_w (tq_min e2162 tk_1000 (tq_top t_56)) (by decide) (by decide)
              exact K_66 t_57 i16_t_57
          refine tz_if _ (fun c2170 => ?_) (fun c2170 => ?_)
          ·
            have i17_t_27 : tq_iv 0 0 t_27 := tq_cut (tq_top t_27) (tq_eqL c2170 tk_0) (by decide) (by decide)
            exact K_36 (0 : Int32) (tq_w tk_0 (by decide) (by decide))
          ·
            exact K_36 (1 : Int32) (tq_w tk_1 (by decide) (by decide))
      have E_13 : ∀ (σ_13 : ez_H) (x3_13 : Int32), tp p σ_13 → tq_iv 0 999 x3_13 → tz_O (fun z : Int32 × ez_H => (fun (z : Int32) (s : ez_H) => tq_iv (-2147483648) 2147483647 z ∧ tp p s) z.1 z.2) (ez_fix (fun _ _ _ _ _ => none) (z_X6_shallowest_13 k_7) ez_N σ_13 h0 x1 x2_7 x3_13) := by
        intro σ_13 x3_13 T_σ_13 i_x3_13
        exact ez_fix_indn (fun n_13 (k_13 : ez_H → Nat → Int32 → Int32 → Int32 → Option (Int32 × ez_H)) => ∀ (σ_13 : ez_H) (x3_13 : Int32), tp p σ_13 → tq_iv 0 999 x3_13 → (2147483647 - x3_13.toInt).toNat < n_13 → tz_O (fun z : Int32 × ez_H => (fun (z : Int32) (s : ez_H) => tq_iv (-2147483648) 2147483647 z ∧ tp p s) z.1 z.2) (k_13 σ_13 h0 x1 x2_7 x3_13)) (by intros; rename_i h; exact absurd h (Nat.not_lt_zero _)) L_13 ez_N σ_13 x3_13 T_σ_13 i_x3_13 (tq_m0 x3_13)
      exact E_13 σ_7 (0 : Int32) T_σ_7 (tq_w tk_0 (by decide) (by decide))
  have E_7 : ∀ (σ_7 : ez_H) (x2_7 : Int32), tp p σ_7 → tq_iv (-1) 998 x2_7 → tz_O (fun z : Int32 × ez_H => (fun (z : Int32) (s : ez_H) => tq_iv (-2147483648) 2147483647 z ∧ tp p s) z.1 z.2) (ez_fix (fun _ _ _ _ => none) (z_X6_shallowest_7) ez_N σ_7 h0 x1 x2_7) := by
    intro σ_7 x2_7 T_σ_7 i_x2_7
    exact ez_fix_indn (fun n_7 (k_7 : ez_H → Nat → Int32 → Int32 → Option (Int32 × ez_H)) => ∀ (σ_7 : ez_H) (x2_7 : Int32), tp p σ_7 → tq_iv (-1) 998 x2_7 → (x2_7.toInt + 2147483648).toNat < n_7 → tz_O (fun z : Int32 × ez_H => (fun (z : Int32) (s : ez_H) => tq_iv (-2147483648) 2147483647 z ∧ tp p s) z.1 z.2) (k_7 σ_7 h0 x1 x2_7)) (by intros; rename_i h; exact absurd h (Nat.not_lt_zero _)) L_7 ez_N σ_7 x2_7 T_σ_7 i_x2_7 (tq_m1 x2_7)
  exact E_7 σ t_5 hT i1_t_5
set_option maxRecDepth 4000 in
theorem tz_X6_apart {p : tz_P} {σ : ez_H} {h0 : Nat} {x1 : Int32} {x2 : Int32} (hT : tp p σ) (k_h0 : tz_C h0 = some (3, 6, 0, 0)) : tz_O (fun z => tq_iv (-2147483648) 2147483647 z) (z_X6_apart σ h0 x1 x2) := by
  unfold z_X6_apart
  refine tz_bd (tz_ob hT k_h0) (fun _ _ => ?_)
  have L_5 : ∀ (n_5 : Nat) (k_5 : Nat → Int32 → Int32 → Int32 → Int32 → Option (Int32)), (∀ (x3_5 : Int32) (x4_5 : Int32), tq_iv 0 999 x4_5 → (2147483647 - x4_5.toInt).toNat < n_5 → tz_O (fun (z : Int32) => tq_iv (-2147483648) 2147483647 z) (k_5 h0 x1 x2 x3_5 x4_5)) → ∀ (x3_5 : Int32) (x4_5 : Int32), tq_iv 0 999 x4_5 → (2147483647 - x4_5.toInt).toNat < n_5 + 1 → tz_O (fun (z : Int32) => tq_iv (-2147483648) 2147483647 z) (z_X6_apart_5 σ k_5 h0 x1 x2 x3_5 x4_5) := by
    intro n_5 k_5 hk_5 x3_5 x4_5 i_x4_5 hn_5
    unfold z_X6_apart_5
    refine tz_be (tg_6_0 hT k_h0) (fun t_8 e2193 i_t_8 => ?_)
    refine tz_if _ (fun c2192 => ?_) (fun c2192 => ?_)
    ·
      exact tz_some (tq_top x3_5)
    ·
      have i1_x4_5 : tq_iv 0 998 x4_5 := tq_cut i_x4_5 (tq_ltL (tq_nle c2192) i_x4_5 i_t_8) (by decide) (by decide)
      have i2_t_8 : tq_iv 1 999 t_8 := tq_cut i_t_8 (tq_ltR (tq_nle c2192) i_x4_5 i_t_8) (by decide) (by decide)
      refine tz_bd (tz_X6_depthAt hT k_h0 (tq_w i1_x4_5 (by decide) (by decide))) (fun t_19 i_t_19 => ?_)
      refine tz_bd (tz_X6_depthAt hT k_h0 (tq_w i1_x4_5 (by decide) (by decide))) (fun t_26 i_t_26 => ?_)
      refine tz_let (fun t_29 e2189 => ?_)
      refine tz_let (fun t_30 e2188 => ?_)
      refine tz_let (fun t_33 e2187 => ?_)
      refine tz_let (fun t_35 e2186 => ?_)
      have i3_t_35 : tq_iv 1 999 t_35 := tq_w (tq_add e2186 i1_x4_5 tk_1 (by decide) (by decide)) (by decide) (by decide)
      exact hk_5 t_33 t_35 (tq_w i3_t_35 (by decide) (by decide)) (tq_up e2186 i1_x4_5 tk_1 (by decide) (by decide) hn_5)
  have E_5 : ∀ (x3_5 : Int32) (x4_5 : Int32), tq_iv 0 999 x4_5 → tz_O (fun (z : Int32) => tq_iv (-2147483648) 2147483647 z) (ez_fix (fun _ _ _ _ _ => none) (z_X6_apart_5 σ) ez_N h0 x1 x2 x3_5 x4_5) := by
    intro x3_5 x4_5 i_x4_5
    exact ez_fix_indn (fun n_5 (k_5 : Nat → Int32 → Int32 → Int32 → Int32 → Option (Int32)) => ∀ (x3_5 : Int32) (x4_5 : Int32), tq_iv 0 999 x4_5 → (2147483647 - x4_5.toInt).toNat < n_5 → tz_O (fun (z : Int32) => tq_iv (-2147483648) 2147483647 z) (k_5 h0 x1 x2 x3_5 x4_5)) (by intros; rename_i h; exact absurd h (Nat.not_lt_zero _)) L_5 ez_N x3_5 x4_5 i_x4_5 (tq_m0 x4_5)
  exact E_5 (0 : Int32) (0 : Int32) (tq_w tk_0 (by decide) (by decide))
set_option maxRecDepth 4000 in
theorem tz_X11_filing {p : tz_P} {σ : ez_H} {h0 : Nat} {x1 : Int32} {x2 : Int32} {x3 : Int32} (hT : tp p σ) (k_h0 : tz_C h0 = some (3, 11, 0, 0)) : tz_O2 (fun (z : Int32) (s : ez_H) => tq_iv (-2147483648) 2147483647 z ∧ tp p s) (z_X11_filing σ h0 x1 x2 x3) := by
  show tz_O (fun z : Int32 × ez_H => (fun (z : Int32) (s : ez_H) => tq_iv (-2147483648) 2147483647 z ∧ tp p s) z.1 z.2) _
  unfold z_X11_filing
  refine tz_bd (tz_ob hT k_h0) (fun _ _ => ?_)
  refine tz_be (tg_11_3 hT k_h0) (fun t_1 e2224 k_t_1 => ?_)
  refine tz_bd (tz_X3_hasKey hT k_t_1) (fun t_5 ⟨i_t_5, g_t_5⟩ => ?_)
  have K_22 : tz_O (fun z : Int32 × ez_H => (fun (z : Int32) (s : ez_H) => tq_iv (-2147483648) 2147483647 z ∧ tp p s) z.1 z.2) (z_X11_filing_22 σ) := by
    unfold z_X11_filing_22
    exact tz_some ⟨(tq_top (-1 : Int32)), hT⟩
  refine tz_if _ (fun c2222 => ?_) (fun c2222 => ?_)
  ·
    have i1_t_5 : tq_iv 0 0 t_5 := tq_cut i_t_5 (tq_eqL c2222 tk_0) (by decide) (by decide)
    exact K_22 
  ·
    have i2_x1 : tq_iv 0 7 x1 := tq_cut (tq_top x1) (g_t_5 c2222) (by decide) (by decide)
    have i3_t_5 : tq_iv 1 1 t_5 := tq_w (tq_neLo c2222 i_t_5 tk_0) (by decide) (by decide)
    refine tz_bk e2224 ?_
    refine tz_bd (tz_X3_hasLock hT k_t_1) (fun t_16 ⟨i_t_16, g_t_16⟩ => ?_)
    refine tz_if _ (fun c2219 => ?_) (fun c2219 => ?_)
    ·
      have i4_t_16 : tq_iv 0 0 t_16 := tq_cut i_t_16 (tq_eqL c2219 tk_0) (by decide) (by decide)
      exact K_22 
    ·
      have i5_x2 : tq_iv 0 2147483646 x2 := tq_cut (tq_top x2) (g_t_16 c2219) (by decide) (by decide)
      have i6_t_16 : tq_iv 1 1 t_16 := tq_w (tq_neLo c2219 i_t_16 tk_0) (by decide) (by decide)
      refine tz_be (tg_11_5 hT k_h0) (fun t_25 e2218 k_t_25 => ?_)
      refine tz_bd (tz_X7_bits hT k_t_25) (fun t_29 i_t_29 => ?_)
      refine tz_be (tg_11_4 hT k_h0) (fun t_35 e2216 k_t_35 => ?_)
      refine tz_bk e2218 ?_
      refine tz_bd (tz_X7_pins hT k_t_25) (fun t_43 i_t_43 => ?_)
      refine tz_bk e2216 ?_
      refine tz_bd (tz_X6_fromDepthsOf hT k_t_35) (fun t_52 i_t_52 => ?_)
      refine tz_let (fun t_55 e2211 => ?_)
      refine tz_b2 (tz_X6_shallowest hT k_t_35) (fun t_56 σ2210 ⟨i_t_56, T2210⟩ => ?_)
      refine tz_if _ (fun c2209 => ?_) (fun c2209 => ?_)
      ·
        have i7_t_56 : tq_iv 0 0 t_56 := tq_cut (tq_top t_56) (tq_eqL c2209 tk_0) (by decide) (by decide)
        exact tz_some ⟨(tq_top (-1 : Int32)), T2210⟩
      ·
        refine tz_if _ (fun c2208 => ?_) (fun c2208 => ?_)
        ·
          have i8_x3 : tq_iv 0 0 x3 := tq_cut (tq_top x3) (tq_eqL c2208 tk_0) (by decide) (by decide)
          refine tz_be (tg_11_4 T2210 k_h0) (fun t_97 e2202 k_t_97 => ?_)
          refine tz_bd (tz_X6_apart T2210 k_t_97) (fun t_104 i_t_104 => ?_)
          exact tz_some ⟨(tq_top t_104), T2210⟩
        ·
          refine tz_if _ (fun c2207 => ?_) (fun c2207 => ?_)
          ·
            have i9_x3 : tq_iv 1 1 x3 := tq_cut (tq_top x3) (tq_eqL c2207 tk_1) (by decide) (by decide)
            refine tz_be (tg_11_4 T2210 k_h0) (fun t_109 e2205 k_t_109 => ?_)
            refine tz_bd (tz_X6_numberOf T2210 k_t_109) (fun t_114 i_t_114 => ?_)
            exact tz_some ⟨(tq_top t_114), T2210⟩
          ·
            exact tz_some ⟨(tq_top (-1 : Int32)), T2210⟩
set_option maxRecDepth 4000 in
theorem tz_X3_hasPerson {p : tz_P} {σ : ez_H} {h0 : Nat} {x1 : Int32} (hT : tp p σ) (k_h0 : tz_C h0 = some (3, 3, 0, 0)) : tz_O (fun z => tq_iv 0 1 z ∧ (¬ z = 0 → tq_iv 0 2147483646 x1)) (z_X3_hasPerson σ h0 x1) := by
  unfold z_X3_hasPerson
  refine tz_bd (tz_ob hT k_h0) (fun _ _ => ?_)
  have K_17 : ∀ (y0_17 : Int32), tq_iv 0 1 y0_17 → (¬ y0_17 = 0 → tq_iv 0 2147483646 x1) → tz_O (fun (z : Int32) => tq_iv 0 1 z ∧ (¬ z = 0 → tq_iv 0 2147483646 x1)) (z_X3_hasPerson_17 σ y0_17) := by
    intro y0_17 i_y0_17 g17_y0_17_x1
    unfold z_X3_hasPerson_17
    refine tz_nr (tq_nr_boolean i_y0_17) ?_
    exact tz_some ⟨i_y0_17, (fun h => tq_w (g17_y0_17_x1 h) (by decide) (by decide))⟩
  have K_16 : tz_O (fun (z : Int32) => tq_iv 0 1 z ∧ (¬ z = 0 → tq_iv 0 2147483646 x1)) (z_X3_hasPerson_16 σ) := by
    unfold z_X3_hasPerson_16
    exact K_17 (0 : Int32) (tq_w tk_0 (by decide) (by decide)) (fun h => absurd rfl h)
  refine tz_if _ (fun c2234 => ?_) (fun c2234 => ?_)
  ·
    have i1_x1 : tq_iv (-2147483648) (-1) x1 := tq_cut (tq_top x1) (tq_ltL c2234 (tq_top x1) tk_0) (by decide) (by decide)
    exact K_16 
  ·
    have i2_x1 : tq_iv 0 2147483647 x1 := tq_cut (tq_top x1) (tq_leR (tq_nlt c2234) tk_0 (tq_top x1)) (by decide) (by decide)
    refine tz_be (tg_3_7 hT k_h0) (fun t_6 e2233 i_t_6 => ?_)
    refine tz_if _ (fun c2232 => ?_) (fun c2232 => ?_)
    ·
      exact K_16 
    ·
      have i3_x1 : tq_iv 0 2147483646 x1 := tq_cut i2_x1 (tq_ltL (tq_nle c2232) i2_x1 (tq_top t_6)) (by decide) (by decide)
      have i4_t_6 : tq_iv 1 2147483647 t_6 := tq_cut (tq_top t_6) (tq_ltR (tq_nle c2232) i2_x1 (tq_top t_6)) (by decide) (by decide)
      exact K_17 (1 : Int32) (tq_w tk_1 (by decide) (by decide)) (fun _ => i3_x1)
set_option maxRecDepth 4000 in
theorem tz_X7_putHolder {p : tz_P} {σ : ez_H} {h0 : Nat} {x1 : Int32} {x2 : Int32} (hT : tp p σ) (k_h0 : tz_C h0 = some (3, 7, 0, 0)) (i_x1 : tq_iv 0 7 x1) : tz_O2 (fun (z : Unit) (s : ez_H) => tp p s ∧ fw [] σ s) (z_X7_putHolder σ h0 x1 x2) := by
  show tz_O (fun z : Unit × ez_H => (fun (z : Unit) (s : ez_H) => tp p s ∧ fw [] σ s) z.1 z.2) _
  unfold z_X7_putHolder
  refine tz_bd (tz_ob hT k_h0) (fun _ _ => ?_)
  refine tz_let (fun t_4 e2238 => ?_)
  have i1_t_4 : tq_iv 16 23 t_4 := tq_w (tq_add e2238 tk_16 i_x1 (by decide) (by decide)) (by decide) (by decide)
  refine tz_b2 (tz_X7_put hT k_h0) (fun _ σ2237 ⟨T2237, W2237⟩ => ?_)
  exact tz_some ⟨T2237, (fw_call fw_0 W2237 (by decide))⟩
set_option maxRecDepth 4000 in
theorem tz_X11_handOver {p : tz_P} {σ : ez_H} {h0 : Nat} {x1 : Int32} {x2 : Int32} (hT : tp p σ) (k_h0 : tz_C h0 = some (3, 11, 0, 0)) (i_x1 : tq_iv 0 7 x1) (i_x2 : tq_iv (-2) 2147483646 x2) : tz_O2 (fun (z : Int32) (s : ez_H) => tq_iv (-2147483648) 2147483647 z ∧ tp p s) (z_X11_handOver σ h0 x1 x2) := by
  show tz_O (fun z : Int32 × ez_H => (fun (z : Int32) (s : ez_H) => tq_iv (-2147483648) 2147483647 z ∧ tp p s) z.1 z.2) _
  unfold z_X11_handOver
  refine tz_bd (tz_ob hT k_h0) (fun _ _ => ?_)
  refine tz_be (tg_11_5 hT k_h0) (fun t_1 e2247 k_t_1 => ?_)
  refine tz_bd (tz_X7_holder hT k_t_1 i_x1) (fun t_5 i_t_5 => ?_)
  refine tz_be (tg_11_7 hT k_h0) (fun t_10 e2245 k_t_10 => ?_)
  refine tz_bk e2247 ?_
  refine tz_b2 (tz_X1_keep hT k_t_10 k_t_1) (fun _ σ2243 T2243 => ?_)
  refine tz_be (tg_11_5 T2243 k_h0) (fun t_21 e2242 k_t_21 => ?_)
  refine tz_b2 (tz_X7_putHolder T2243 k_t_21 i_x1) (fun _ σ2241 ⟨T2241, W2241⟩ => ?_)
  exact tz_some ⟨(tq_top t_5), T2241⟩
set_option maxRecDepth 4000 in
theorem tz_X11_find {p : tz_P} {σ : ez_H} {h0 : Nat} {x1 : Int32} {x2 : Int32} (hT : tp p σ) (k_h0 : tz_C h0 = some (3, 11, 0, 0)) : tz_O2 (fun (z : Int32) (s : ez_H) => tq_iv (-1) 63 z ∧ tp p s) (z_X11_find σ h0 x1 x2) := by
  show tz_O (fun z : Int32 × ez_H => (fun (z : Int32) (s : ez_H) => tq_iv (-1) 63 z ∧ tp p s) z.1 z.2) _
  unfold z_X11_find
  refine tz_bd (tz_ob hT k_h0) (fun _ _ => ?_)
  refine tz_be (tg_11_3 hT k_h0) (fun t_1 e2268 k_t_1 => ?_)
  refine tz_bd (tz_X3_hasKey hT k_t_1) (fun t_5 ⟨i_t_5, g_t_5⟩ => ?_)
  have K_35 : tz_O (fun z : Int32 × ez_H => (fun (z : Int32) (s : ez_H) => tq_iv (-1) 63 z ∧ tp p s) z.1 z.2) (z_X11_find_35 σ) := by
    unfold z_X11_find_35
    exact tz_some ⟨(tq_w tk_m1 (by decide) (by decide)), hT⟩
  refine tz_if _ (fun c2266 => ?_) (fun c2266 => ?_)
  ·
    have i1_t_5 : tq_iv 0 0 t_5 := tq_cut i_t_5 (tq_eqL c2266 tk_0) (by decide) (by decide)
    exact K_35 
  ·
    have i2_x1 : tq_iv 0 7 x1 := tq_cut (tq_top x1) (g_t_5 c2266) (by decide) (by decide)
    have i3_t_5 : tq_iv 1 1 t_5 := tq_w (tq_neLo c2266 i_t_5 tk_0) (by decide) (by decide)
    refine tz_bk e2268 ?_
    refine tz_bd (tz_X3_hasPerson hT k_t_1) (fun t_16 ⟨i_t_16, g_t_16⟩ => ?_)
    refine tz_if _ (fun c2263 => ?_) (fun c2263 => ?_)
    ·
      have i4_t_16 : tq_iv 0 0 t_16 := tq_cut i_t_16 (tq_eqL c2263 tk_0) (by decide) (by decide)
      exact K_35 
    ·
      have i5_x2 : tq_iv 0 2147483646 x2 := tq_cut (tq_top x2) (g_t_16 c2263) (by decide) (by decide)
      have i6_t_16 : tq_iv 1 1 t_16 := tq_w (tq_neLo c2263 i_t_16 tk_0) (by decide) (by decide)
      refine tz_be (tg_11_5 hT k_h0) (fun t_23 e2262 k_t_23 => ?_)
      refine tz_bd (tz_X7_holder hT k_t_23 i2_x1) (fun t_27 i_t_27 => ?_)
      refine tz_if _ (fun c2260 => ?_) (fun c2260 => ?_)
      ·
        have i7_t_27 : tq_iv (-2) (-2) t_27 := tq_cut (tq_top t_27) (tq_eqL c2260 tk_m2) (by decide) (by decide)
        refine tz_b2 (tz_X11_handOver hT k_h0 i2_x1 (tq_w i5_x2 (by decide) (by decide))) (fun t_40 σ2258 ⟨i_t_40, T2258⟩ => ?_)
        refine tz_be (tg_11_5 T2258 k_h0) (fun t_45 e2257 k_t_45 => ?_)
        refine tz_be (tg_11_3 T2258 k_h0) (fun t_50 e2256 k_t_50 => ?_)
        refine tz_be (tg_3_3 T2258 k_t_50) (fun t_53 e2255 i_t_53 => ?_)
        refine tz_bd (tz_X7_heldBy T2258 k_t_45 (tq_w i5_x2 (by decide) (by decide)) i_t_53) (fun t_56 i_t_56 => ?_)
        refine tz_bd (tz_J6_bitCount_0f7a4 T2258) (fun t_59 i_t_59 => ?_)
        exact tz_some ⟨(tq_w i_t_59 (by decide) (by decide)), T2258⟩
      ·
        exact K_35
set_option maxRecDepth 4000 in
theorem tz_X7_firstWith {p : tz_P} {σ : ez_H} {h0 : Nat} {x1 : Int32} {x2 : Int32} (hT : tp p σ) (k_h0 : tz_C h0 = some (3, 7, 0, 0)) (i_x2 : tq_iv 0 8 x2) : tz_O (fun z => tq_iv (-1) 7 z) (z_X7_firstWith σ h0 x1 x2) := by
  unfold z_X7_firstWith
  refine tz_bd (tz_ob hT k_h0) (fun _ _ => ?_)
  have L_2 : ∀ (n_2 : Nat) (k_2 : Nat → Int32 → Int32 → Int32 → Option (Int32)), (∀ (x3_2 : Int32), tq_iv 0 8 x3_2 → (2147483647 - x3_2.toInt).toNat < n_2 → tz_O (fun (z : Int32) => tq_iv (-1) 7 z) (k_2 h0 x1 x2 x3_2)) → ∀ (x3_2 : Int32), tq_iv 0 8 x3_2 → (2147483647 - x3_2.toInt).toNat < n_2 + 1 → tz_O (fun (z : Int32) => tq_iv (-1) 7 z) (z_X7_firstWith_2 σ k_2 h0 x1 x2 x3_2) := by
    intro n_2 k_2 hk_2 x3_2 i_x3_2 hn_2
    unfold z_X7_firstWith_2
    have K_30 : tz_O (fun (z : Int32) => tq_iv (-1) 7 z) (z_X7_firstWith_30 σ) := by
      unfold z_X7_firstWith_30
      exact tz_some (tq_w tk_m1 (by decide) (by decide))
    refine tz_if _ (fun c2279 => ?_) (fun c2279 => ?_)
    ·
      exact K_30 
    ·
      have i1_x3_2 : tq_iv 0 7 x3_2 := tq_cut i_x3_2 (tq_ltL (tq_nle c2279) i_x3_2 i_x2) (by decide) (by decide)
      have i2_x2 : tq_iv 1 8 x2 := tq_cut i_x2 (tq_ltR (tq_nle c2279) i_x3_2 i_x2) (by decide) (by decide)
      refine tz_if _ (fun c2278 => ?_) (fun c2278 => ?_)
      ·
        exact (tq_xle c2278 tk_8 i1_x3_2 (by decide)).elim
      ·
        refine tz_bd (tz_X7_bits hT k_h0) (fun t_15 i_t_15 => ?_)
        refine tz_if _ (fun c2276 => ?_) (fun c2276 => ?_)
        ·
          exact tz_some (tq_w i1_x3_2 (by decide) (by decide))
        ·
          refine tz_let (fun t_24 e2275 => ?_)
          have i3_t_24 : tq_iv 1 8 t_24 := tq_w (tq_add e2275 i1_x3_2 tk_1 (by decide) (by decide)) (by decide) (by decide)
          exact hk_2 t_24 (tq_w i3_t_24 (by decide) (by decide)) (tq_up e2275 i1_x3_2 tk_1 (by decide) (by decide) hn_2)
  have E_2 : ∀ (x3_2 : Int32), tq_iv 0 8 x3_2 → tz_O (fun (z : Int32) => tq_iv (-1) 7 z) (ez_fix (fun _ _ _ _ => none) (z_X7_firstWith_2 σ) ez_N h0 x1 x2 x3_2) := by
    intro x3_2 i_x3_2
    exact ez_fix_indn (fun n_2 (k_2 : Nat → Int32 → Int32 → Int32 → Option (Int32)) => ∀ (x3_2 : Int32), tq_iv 0 8 x3_2 → (2147483647 - x3_2.toInt).toNat < n_2 → tz_O (fun (z : Int32) => tq_iv (-1) 7 z) (k_2 h0 x1 x2 x3_2)) (by intros; rename_i h; exact absurd h (Nat.not_lt_zero _)) L_2 ez_N x3_2 i_x3_2 (tq_m0 x3_2)
  exact E_2 (0 : Int32) (tq_w tk_0 (by decide) (by decide))
set_option maxRecDepth 4000 in
theorem tz_X11_cutAhead {p : tz_P} {σ : ez_H} {h0 : Nat} {x1 : Int32} {x2 : Int32} (hT : tp p σ) (k_h0 : tz_C h0 = some (3, 11, 0, 0)) : tz_O (fun z => tq_iv (-2147483648) 2147483647 z) (z_X11_cutAhead σ h0 x1 x2) := by
  unfold z_X11_cutAhead
  refine tz_bd (tz_ob hT k_h0) (fun _ _ => ?_)
  have L_5 : ∀ (n_5 : Nat) (k_5 : Nat → Int32 → Int32 → Int32 → Int32 → Option (Int32)), (∀ (x3_5 : Int32) (x4_5 : Int32), tq_iv 0 8 x4_5 → (2147483647 - x4_5.toInt).toNat < n_5 → tz_O (fun (z : Int32) => tq_iv (-2147483648) 2147483647 z) (k_5 h0 x1 x2 x3_5 x4_5)) → ∀ (x3_5 : Int32) (x4_5 : Int32), tq_iv 0 8 x4_5 → (2147483647 - x4_5.toInt).toNat < n_5 + 1 → tz_O (fun (z : Int32) => tq_iv (-2147483648) 2147483647 z) (z_X11_cutAhead_5 σ k_5 h0 x1 x2 x3_5 x4_5) := by
    intro n_5 k_5 hk_5 x3_5 x4_5 i_x4_5 hn_5
    unfold z_X11_cutAhead_5
    refine tz_be (tg_11_3 hT k_h0) (fun t_8 e2308 k_t_8 => ?_)
    refine tz_be (tg_3_3 hT k_t_8) (fun t_11 e2307 i_t_11 => ?_)
    refine tz_if _ (fun c2306 => ?_) (fun c2306 => ?_)
    ·
      exact tz_some (tq_top x3_5)
    ·
      have i1_x4_5 : tq_iv 0 7 x4_5 := tq_cut i_x4_5 (tq_ltL (tq_nle c2306) i_x4_5 i_t_11) (by decide) (by decide)
      have i2_t_11 : tq_iv 1 8 t_11 := tq_cut i_t_11 (tq_ltR (tq_nle c2306) i_x4_5 i_t_11) (by decide) (by decide)
      refine tz_be (tg_11_5 hT k_h0) (fun t_18 e2305 k_t_18 => ?_)
      refine tz_bd (tz_X7_bits hT k_t_18) (fun t_23 i_t_23 => ?_)
      refine tz_bd (tz_X6_fitsIn hT) (fun t_31 i_t_31 => ?_)
      have K_55 : ∀ (y0_55 : Int32), tq_iv 0 1 y0_55 → (¬ y0_55 = 0 → tq_iv 1 1 t_31) → (¬ y0_55 = 0 → tq_iv (-2147483647) 2147483647 x2) → tz_O (fun (z : Int32) => tq_iv (-2147483648) 2147483647 z) (z_X11_cutAhead_55 σ k_5 h0 x1 x2 x3_5 x4_5 t_23 y0_55) := by
        intro y0_55 i_y0_55 g55_y0_55_t_31 g55_y0_55_x2
        unfold z_X11_cutAhead_55
        have K_86 : ∀ (x3_86 : Int32), tz_O (fun (z : Int32) => tq_iv (-2147483648) 2147483647 z) (z_X11_cutAhead_86 σ k_5 h0 x1 x2 x3_86 x4_5) := by
          intro x3_86
          unfold z_X11_cutAhead_86
          refine tz_let (fun t_86 e2283 => ?_)
          have i3_t_86 : tq_iv 1 8 t_86 := tq_w (tq_add e2283 i1_x4_5 tk_1 (by decide) (by decide)) (by decide) (by decide)
          exact hk_5 x3_86 t_86 (tq_w i3_t_86 (by decide) (by decide)) (tq_up e2283 i1_x4_5 tk_1 (by decide) (by decide) hn_5)
        refine tz_if _ (fun c2293 => ?_) (fun c2293 => ?_)
        ·
          have i4_y0_55 : tq_iv 0 0 y0_55 := tq_cut i_y0_55 (tq_eqL c2293 tk_0) (by decide) (by decide)
          exact K_86 x3_5
        ·
          have i5_t_31 : tq_iv 1 1 t_31 := tq_cut i_t_31 (g55_y0_55_t_31 c2293) (by decide) (by decide)
          have i6_x2 : tq_iv (-2147483647) 2147483647 x2 := tq_cut (tq_top x2) (g55_y0_55_x2 c2293) (by decide) (by decide)
          have i7_y0_55 : tq_iv 1 1 y0_55 := tq_w (tq_neLo c2293 i_y0_55 tk_0) (by decide) (by decide)
          refine tz_bk e2305 ?_
          refine tz_bk e2308 ?_
          refine tz_ba e2307 (fun t_72 e2290 a2290 => ?_)
          have i8_t_72 : tq_iv 1 8 t_72 := tq_eqL a2290 i2_t_11
          refine tz_bd (tz_X7_firstWith hT k_t_18 (tq_w i8_t_72 (by decide) (by decide))) (fun t_75 i_t_75 => ?_)
          refine tz_if _ (fun c2288 => ?_) (fun c2288 => ?_)
          ·
            have i9_t_75 : tq_iv 0 7 t_75 := tq_cut i_t_75 (tq_eqL c2288 i1_x4_5) (by decide) (by decide)
            refine tz_let (fun t_83 e2286 => ?_)
            exact K_86 t_83
          ·
            exact K_86 x3_5
      have K_54 : tz_O (fun (z : Int32) => tq_iv (-2147483648) 2147483647 z) (z_X11_cutAhead_54 σ k_5 h0 x1 x2 x3_5 x4_5 t_23) := by
        unfold z_X11_cutAhead_54
        exact K_55 (0 : Int32) (tq_w tk_0 (by decide) (by decide)) (fun h => absurd rfl h) (fun h => absurd rfl h)
      refine tz_if _ (fun c2302 => ?_) (fun c2302 => ?_)
      ·
        have i10_t_31 : tq_iv 0 0 t_31 := tq_cut i_t_31 (tq_eqL c2302 tk_0) (by decide) (by decide)
        exact K_54 
      ·
        have i11_t_31 : tq_iv 1 1 t_31 := tq_w (tq_neLo c2302 i_t_31 tk_0) (by decide) (by decide)
        refine tz_be (tg_11_4 hT k_h0) (fun t_38 e2301 k_t_38 => ?_)
        refine tz_bd (tz_X6_numberOf hT k_t_38) (fun t_43 i_t_43 => ?_)
        refine tz_if _ (fun c2299 => ?_) (fun c2299 => ?_)
        ·
          exact K_54 
        ·
          have i12_t_43 : tq_iv (-2147483648) 2147483646 t_43 := tq_cut (tq_top t_43) (tq_ltL (tq_nle c2299) (tq_top t_43) (tq_top x2)) (by decide) (by decide)
          have i13_x2 : tq_iv (-2147483647) 2147483647 x2 := tq_cut (tq_top x2) (tq_ltR (tq_nle c2299) (tq_top t_43) (tq_top x2)) (by decide) (by decide)
          exact K_55 (1 : Int32) (tq_w tk_1 (by decide) (by decide)) (fun _ => i11_t_31) (fun _ => i13_x2)
  have E_5 : ∀ (x3_5 : Int32) (x4_5 : Int32), tq_iv 0 8 x4_5 → tz_O (fun (z : Int32) => tq_iv (-2147483648) 2147483647 z) (ez_fix (fun _ _ _ _ _ => none) (z_X11_cutAhead_5 σ) ez_N h0 x1 x2 x3_5 x4_5) := by
    intro x3_5 x4_5 i_x4_5
    exact ez_fix_indn (fun n_5 (k_5 : Nat → Int32 → Int32 → Int32 → Int32 → Option (Int32)) => ∀ (x3_5 : Int32) (x4_5 : Int32), tq_iv 0 8 x4_5 → (2147483647 - x4_5.toInt).toNat < n_5 → tz_O (fun (z : Int32) => tq_iv (-2147483648) 2147483647 z) (k_5 h0 x1 x2 x3_5 x4_5)) (by intros; rename_i h; exact absurd h (Nat.not_lt_zero _)) L_5 ez_N x3_5 x4_5 i_x4_5 (tq_m0 x4_5)
  exact E_5 (0 : Int32) (0 : Int32) (tq_w tk_0 (by decide) (by decide))
set_option maxRecDepth 4000 in
theorem tz_X11_ghost {p : tz_P} {σ : ez_H} {h0 : Nat} {x1 : Int32} {x2 : Int32} (hT : tp p σ) (k_h0 : tz_C h0 = some (3, 11, 0, 0)) : tz_O2 (fun (z : Int32) (s : ez_H) => tq_iv (-2147483648) 2147483647 z ∧ tp p s) (z_X11_ghost σ h0 x1 x2) := by
  show tz_O (fun z : Int32 × ez_H => (fun (z : Int32) (s : ez_H) => tq_iv (-2147483648) 2147483647 z ∧ tp p s) z.1 z.2) _
  unfold z_X11_ghost
  refine tz_bd (tz_ob hT k_h0) (fun _ _ => ?_)
  refine tz_be (tg_11_3 hT k_h0) (fun t_1 e2344 k_t_1 => ?_)
  refine tz_bd (tz_X3_hasLock hT k_t_1) (fun t_5 ⟨i_t_5, g_t_5⟩ => ?_)
  have K_22 : tz_O (fun z : Int32 × ez_H => (fun (z : Int32) (s : ez_H) => tq_iv (-2147483648) 2147483647 z ∧ tp p s) z.1 z.2) (z_X11_ghost_22 σ) := by
    unfold z_X11_ghost_22
    exact tz_some ⟨(tq_top (-1 : Int32)), hT⟩
  refine tz_if _ (fun c2342 => ?_) (fun c2342 => ?_)
  ·
    have i1_t_5 : tq_iv 0 0 t_5 := tq_cut i_t_5 (tq_eqL c2342 tk_0) (by decide) (by decide)
    exact K_22 
  ·
    have i2_x1 : tq_iv 0 2147483646 x1 := tq_cut (tq_top x1) (g_t_5 c2342) (by decide) (by decide)
    have i3_t_5 : tq_iv 1 1 t_5 := tq_w (tq_neLo c2342 i_t_5 tk_0) (by decide) (by decide)
    refine tz_if _ (fun c2341 => ?_) (fun c2341 => ?_)
    ·
      have i4_x2 : tq_iv (-2147483648) (-1) x2 := tq_cut (tq_top x2) (tq_ltL c2341 (tq_top x2) tk_0) (by decide) (by decide)
      exact K_22 
    ·
      have i5_x2 : tq_iv 0 2147483647 x2 := tq_cut (tq_top x2) (tq_leR (tq_nlt c2341) tk_0 (tq_top x2)) (by decide) (by decide)
      refine tz_if _ (fun c2340 => ?_) (fun c2340 => ?_)
      ·
        have i6_x2 : tq_iv 0 7775 x2 := tq_cut i5_x2 (tq_ltL c2340 i5_x2 tk_7776) (by decide) (by decide)
        refine tz_be (tg_11_5 hT k_h0) (fun t_25 e2338 k_t_25 => ?_)
        refine tz_bd (tz_X7_pins hT k_t_25) (fun t_29 i_t_29 => ?_)
        have L_36 : ∀ (n_36 : Nat) (k_36 : ez_H → Nat → Int32 → Int32 → Int32 → Option (Int32 × ez_H)), (∀ (σ_36 : ez_H) (x4_36 : Int32), tp p σ_36 → tq_iv 0 7784 x4_36 → (2147483647 - x4_36.toInt).toNat < n_36 → tz_O (fun z : Int32 × ez_H => (fun (z : Int32) (s : ez_H) => tq_iv (-2147483648) 2147483647 z ∧ tp p s) z.1 z.2) (k_36 σ_36 h0 x2 t_29 x4_36)) → ∀ (σ_36 : ez_H) (x4_36 : Int32), tp p σ_36 → tq_iv 0 7784 x4_36 → (2147483647 - x4_36.toInt).toNat < n_36 + 1 → tz_O (fun z : Int32 × ez_H => (fun (z : Int32) (s : ez_H) => tq_iv (-2147483648) 2147483647 z ∧ tp p s) z.1 z.2) (z_X11_ghost_36 k_36 σ_36 h0 x2 t_29 x4_36) := by
          intro n_36 k_36 hk_36 σ_36 x4_36 T_σ_36 i_x4_36 hn_36
          unfold z_X11_ghost_36
          refine tz_let (fun t_41 e2333 => ?_)
          have i7_t_41 : tq_iv 8 7783 t_41 := tq_w (tq_add e2333 i6_x2 tk_8 (by decide) (by decide)) (by decide) (by decide)
          refine tz_if _ (fun c2332 => ?_) (fun c2332 => ?_)
          ·
            have i8_x4_36 : tq_iv 9 7784 x4_36 := tq_cut i_x4_36 (tq_ltR c2332 i7_t_41 i_x4_36) (by decide) (by decide)
            exact tz_some ⟨(tq_top (-1 : Int32)), T_σ_36⟩
          ·
            have i9_x4_36 : tq_iv 0 7783 x4_36 := tq_cut i_x4_36 (tq_leL (tq_nlt c2332) i_x4_36 i7_t_41) (by decide) (by decide)
            refine tz_be (tg_11_4 T_σ_36 k_h0) (fun t_46 e2331 k_t_46 => ?_)
            refine tz_b2 (tz_X6_nth T_σ_36 k_t_46) (fun t_52 σ2330 ⟨i_t_52, T2330⟩ => ?_)
            refine tz_if _ (fun c2329 => ?_) (fun c2329 => ?_)
            ·
              have i10_t_52 : tq_iv 0 0 t_52 := tq_cut (tq_top t_52) (tq_eqL c2329 tk_0) (by decide) (by decide)
              exact tz_some ⟨(tq_top (-1 : Int32)), T2330⟩
            ·
              refine tz_be (tg_11_4 T2330 k_h0) (fun t_65 e2328 k_t_65 => ?_)
              refine tz_bd (tz_X6_numberOf T2330 k_t_65) (fun t_70 i_t_70 => ?_)
              refine tz_be (tg_11_5 T2330 k_h0) (fun t_76 e2326 k_t_76 => ?_)
              refine tz_be (tg_11_3 T2330 k_h0) (fun t_82 e2325 k_t_82 => ?_)
              refine tz_be (tg_3_3 T2330 k_t_82) (fun t_85 e2324 i_t_85 => ?_)
              refine tz_bd (tz_X7_firstWith T2330 k_t_76 i_t_85) (fun t_88 i_t_88 => ?_)
              have K_112 : tz_O (fun z : Int32 × ez_H => (fun (z : Int32) (s : ez_H) => tq_iv (-2147483648) 2147483647 z ∧ tp p s) z.1 z.2) (z_X11_ghost_112 k_36 σ2330 h0 x2 t_29 x4_36) := by
                unfold z_X11_ghost_112
                refine tz_let (fun t_112 e2313 => ?_)
                have i11_t_112 : tq_iv 1 7784 t_112 := tq_w (tq_add e2313 i9_x4_36 tk_1 (by decide) (by decide)) (by decide) (by decide)
                exact hk_36 σ2330 t_112 T2330 (tq_w i11_t_112 (by decide) (by decide)) (tq_up e2313 i9_x4_36 tk_1 (by decide) (by decide) hn_36)
              refine tz_if _ (fun c2322 => ?_) (fun c2322 => ?_)
              ·
                have i12_t_88 : tq_iv (-1) (-1) t_88 := tq_cut i_t_88 (tq_eqL c2322 tk_m1) (by decide) (by decide)
                refine tz_bd (tz_X11_cutAhead T2330 k_h0) (fun t_101 i_t_101 => ?_)
                refine tz_let (fun t_104 e2319 => ?_)
                refine tz_if _ (fun c2318 => ?_) (fun c2318 => ?_)
                ·
                  have i13_t_104 : tq_iv 0 7775 t_104 := tq_cut (tq_top t_104) (tq_eqL c2318 i6_x2) (by decide) (by decide)
                  exact tz_some ⟨(tq_top t_70), T2330⟩
                ·
                  exact K_112 
              ·
                have i14_t_88 : tq_iv 0 7 t_88 := tq_w (tq_neLo c2322 i_t_88 tk_m1) (by decide) (by decide)
                exact K_112 
        have E_36 : ∀ (σ_36 : ez_H) (x4_36 : Int32), tp p σ_36 → tq_iv 0 7784 x4_36 → tz_O (fun z : Int32 × ez_H => (fun (z : Int32) (s : ez_H) => tq_iv (-2147483648) 2147483647 z ∧ tp p s) z.1 z.2) (ez_fix (fun _ _ _ _ _ => none) (z_X11_ghost_36) ez_N σ_36 h0 x2 t_29 x4_36) := by
          intro σ_36 x4_36 T_σ_36 i_x4_36
          exact ez_fix_indn (fun n_36 (k_36 : ez_H → Nat → Int32 → Int32 → Int32 → Option (Int32 × ez_H)) => ∀ (σ_36 : ez_H) (x4_36 : Int32), tp p σ_36 → tq_iv 0 7784 x4_36 → (2147483647 - x4_36.toInt).toNat < n_36 → tz_O (fun z : Int32 × ez_H => (fun (z : Int32) (s : ez_H) => tq_iv (-2147483648) 2147483647 z ∧ tp p s) z.1 z.2) (k_36 σ_36 h0 x2 t_29 x4_36)) (by intros; rename_i h; exact absurd h (Nat.not_lt_zero _)) L_36 ez_N σ_36 x4_36 T_σ_36 i_x4_36 (tq_m0 x4_36)
        exact E_36 σ x2 hT (tq_w i6_x2 (by decide) (by decide))
      ·
        have i15_x2 : tq_iv 7776 2147483647 x2 := tq_cut i5_x2 (tq_leR (tq_nlt c2340) tk_7776 i5_x2) (by decide) (by decide)
        exact K_22
set_option maxRecDepth 4000 in
theorem tz_X11_ghosts {p : tz_P} {σ : ez_H} {h0 : Nat} {x1 : Int32} (hT : tp p σ) (k_h0 : tz_C h0 = some (3, 11, 0, 0)) : tz_O2 (fun (z : Int32) (s : ez_H) => tq_iv (-2147483648) 2147483647 z ∧ tp p s) (z_X11_ghosts σ h0 x1) := by
  show tz_O (fun z : Int32 × ez_H => (fun (z : Int32) (s : ez_H) => tq_iv (-2147483648) 2147483647 z ∧ tp p s) z.1 z.2) _
  unfold z_X11_ghosts
  refine tz_bd (tz_ob hT k_h0) (fun _ _ => ?_)
  refine tz_be (tg_11_3 hT k_h0) (fun t_1 e2358 k_t_1 => ?_)
  refine tz_bd (tz_X3_hasLock hT k_t_1) (fun t_5 ⟨i_t_5, g_t_5⟩ => ?_)
  refine tz_if _ (fun c2356 => ?_) (fun c2356 => ?_)
  ·
    have i1_t_5 : tq_iv 0 0 t_5 := tq_cut i_t_5 (tq_eqL c2356 tk_0) (by decide) (by decide)
    exact tz_some ⟨(tq_top (-1 : Int32)), hT⟩
  ·
    have i2_x1 : tq_iv 0 2147483646 x1 := tq_cut (tq_top x1) (g_t_5 c2356) (by decide) (by decide)
    have i3_t_5 : tq_iv 1 1 t_5 := tq_w (tq_neLo c2356 i_t_5 tk_0) (by decide) (by decide)
    refine tz_be (tg_11_5 hT k_h0) (fun t_14 e2355 k_t_14 => ?_)
    refine tz_bd (tz_X7_pins hT k_t_14) (fun t_18 i_t_18 => ?_)
    refine tz_be (tg_11_4 hT k_h0) (fun t_23 e2353 k_t_23 => ?_)
    refine tz_bk e2353 ?_
    refine tz_be (tg_6_2 hT k_t_23) (fun t_31 e2351 i_t_31 => ?_)
    refine tz_b2 (tz_X6_howMany hT k_t_23 i_t_31) (fun t_34 σ2350 ⟨i_t_34, T2350⟩ => ?_)
    refine tz_bd (tz_X11_cutAhead T2350 k_h0) (fun t_42 i_t_42 => ?_)
    refine tz_let (fun t_45 e2348 => ?_)
    exact tz_some ⟨(tq_top t_45), T2350⟩
set_option maxRecDepth 4000 in
theorem tz_X11_give {p : tz_P} {σ : ez_H} {h0 : Nat} {x1 : Int32} {x2 : Int32} (hT : tp p σ) (k_h0 : tz_C h0 = some (3, 11, 0, 0)) : tz_O2 (fun (z : Int32) (s : ez_H) => tq_iv (-2147483648) 2147483647 z ∧ tp p s) (z_X11_give σ h0 x1 x2) := by
  show tz_O (fun z : Int32 × ez_H => (fun (z : Int32) (s : ez_H) => tq_iv (-2147483648) 2147483647 z ∧ tp p s) z.1 z.2) _
  unfold z_X11_give
  refine tz_bd (tz_ob hT k_h0) (fun _ _ => ?_)
  refine tz_be (tg_11_3 hT k_h0) (fun t_1 e2386 k_t_1 => ?_)
  refine tz_bd (tz_X3_hasKey hT k_t_1) (fun t_5 ⟨i_t_5, g_t_5⟩ => ?_)
  have K_22 : tz_O (fun z : Int32 × ez_H => (fun (z : Int32) (s : ez_H) => tq_iv (-2147483648) 2147483647 z ∧ tp p s) z.1 z.2) (z_X11_give_22 σ) := by
    unfold z_X11_give_22
    exact tz_some ⟨(tq_top (-3 : Int32)), hT⟩
  refine tz_if _ (fun c2384 => ?_) (fun c2384 => ?_)
  ·
    have i1_t_5 : tq_iv 0 0 t_5 := tq_cut i_t_5 (tq_eqL c2384 tk_0) (by decide) (by decide)
    exact K_22 
  ·
    have i2_x1 : tq_iv 0 7 x1 := tq_cut (tq_top x1) (g_t_5 c2384) (by decide) (by decide)
    have i3_t_5 : tq_iv 1 1 t_5 := tq_w (tq_neLo c2384 i_t_5 tk_0) (by decide) (by decide)
    refine tz_bk e2386 ?_
    refine tz_bd (tz_X3_hasPerson hT k_t_1) (fun t_16 ⟨i_t_16, g_t_16⟩ => ?_)
    refine tz_if _ (fun c2381 => ?_) (fun c2381 => ?_)
    ·
      have i4_t_16 : tq_iv 0 0 t_16 := tq_cut i_t_16 (tq_eqL c2381 tk_0) (by decide) (by decide)
      exact K_22 
    ·
      have i5_x2 : tq_iv 0 2147483646 x2 := tq_cut (tq_top x2) (g_t_16 c2381) (by decide) (by decide)
      have i6_t_16 : tq_iv 1 1 t_16 := tq_w (tq_neLo c2381 i_t_16 tk_0) (by decide) (by decide)
      refine tz_be (tg_11_5 hT k_h0) (fun t_26 e2380 k_t_26 => ?_)
      refine tz_bd (tz_X7_holder hT k_t_26 i2_x1) (fun t_30 i_t_30 => ?_)
      have K_45 : tq_iv (-2) 2147483646 t_30 → tz_O (fun z : Int32 × ez_H => (fun (z : Int32) (s : ez_H) => tq_iv (-2147483648) 2147483647 z ∧ tp p s) z.1 z.2) (z_X11_give_45 σ) := by
        intro j45_t_30
        unfold z_X11_give_45
        exact tz_some ⟨(tq_top (-3 : Int32)), hT⟩
      refine tz_if _ (fun c2378 => ?_) (fun c2378 => ?_)
      ·
        have i7_t_30 : tq_iv 0 2147483646 t_30 := tq_cut (tq_top t_30) (tq_eqL c2378 i5_x2) (by decide) (by decide)
        exact K_45 (tq_w i7_t_30 (by decide) (by decide))
      ·
        refine tz_if _ (fun c2377 => ?_) (fun c2377 => ?_)
        ·
          have i8_t_30 : tq_iv (-2) (-2) t_30 := tq_cut (tq_top t_30) (tq_eqL c2377 tk_m2) (by decide) (by decide)
          exact K_45 (tq_w i8_t_30 (by decide) (by decide))
        ·
          have K_75 : tz_O (fun z : Int32 × ez_H => (fun (z : Int32) (s : ez_H) => tq_iv (-2147483648) 2147483647 z ∧ tp p s) z.1 z.2) (z_X11_give_75 σ h0 x1 x2) := by
            unfold z_X11_give_75
            refine tz_b2 (tz_X11_handOver hT k_h0 i2_x1 (tq_w i5_x2 (by decide) (by decide))) (fun t_78 σ2363 ⟨i_t_78, T2363⟩ => ?_)
            exact tz_some ⟨(tq_top t_78), T2363⟩
          refine tz_if _ (fun c2376 => ?_) (fun c2376 => ?_)
          ·
            have i9_t_30 : tq_iv (-1) (-1) t_30 := tq_cut (tq_top t_30) (tq_eqL c2376 tk_m1) (by decide) (by decide)
            exact K_75 
          ·
            refine tz_bk e2380 ?_
            refine tz_bd (tz_X7_room hT k_t_26) (fun t_58 i_t_58 => ?_)
            refine tz_bk e2380 ?_
            refine tz_bd (tz_X7_room hT k_t_26) (fun t_66 i_t_66 => ?_)
            refine tz_if _ (fun c2371 => ?_) (fun c2371 => ?_)
            ·
              exact K_75 
            ·
              exact tz_some ⟨(tq_top (-3 : Int32)), hT⟩
set_option maxRecDepth 4000 in
theorem tz_X11_hang {p : tz_P} {σ : ez_H} {h0 : Nat} {x1 : Int32} (hT : tp p σ) (k_h0 : tz_C h0 = some (3, 11, 0, 0)) : tz_O2 (fun (z : Int32) (s : ez_H) => tq_iv (-2147483648) 2147483647 z ∧ tp p s) (z_X11_hang σ h0 x1) := by
  show tz_O (fun z : Int32 × ez_H => (fun (z : Int32) (s : ez_H) => tq_iv (-2147483648) 2147483647 z ∧ tp p s) z.1 z.2) _
  unfold z_X11_hang
  refine tz_bd (tz_ob hT k_h0) (fun _ _ => ?_)
  refine tz_be (tg_11_3 hT k_h0) (fun t_1 e2398 k_t_1 => ?_)
  refine tz_bd (tz_X3_hasKey hT k_t_1) (fun t_5 ⟨i_t_5, g_t_5⟩ => ?_)
  have K_22 : tz_O (fun z : Int32 × ez_H => (fun (z : Int32) (s : ez_H) => tq_iv (-2147483648) 2147483647 z ∧ tp p s) z.1 z.2) (z_X11_hang_22 σ) := by
    unfold z_X11_hang_22
    exact tz_some ⟨(tq_top (-3 : Int32)), hT⟩
  refine tz_if _ (fun c2396 => ?_) (fun c2396 => ?_)
  ·
    have i1_t_5 : tq_iv 0 0 t_5 := tq_cut i_t_5 (tq_eqL c2396 tk_0) (by decide) (by decide)
    exact K_22 
  ·
    have i2_x1 : tq_iv 0 7 x1 := tq_cut (tq_top x1) (g_t_5 c2396) (by decide) (by decide)
    have i3_t_5 : tq_iv 1 1 t_5 := tq_w (tq_neLo c2396 i_t_5 tk_0) (by decide) (by decide)
    refine tz_be (tg_11_5 hT k_h0) (fun t_12 e2395 k_t_12 => ?_)
    refine tz_bd (tz_X7_holder hT k_t_12 i2_x1) (fun t_16 i_t_16 => ?_)
    refine tz_if _ (fun c2393 => ?_) (fun c2393 => ?_)
    ·
      have i4_t_16 : tq_iv 0 2147483647 t_16 := tq_cut (tq_top t_16) (tq_leR c2393 tk_0 (tq_top t_16)) (by decide) (by decide)
      refine tz_b2 (tz_X11_handOver hT k_h0 i2_x1 (tq_w tk_m1 (by decide) (by decide))) (fun t_28 σ2391 ⟨i_t_28, T2391⟩ => ?_)
      exact tz_some ⟨(tq_top t_28), T2391⟩
    ·
      have i5_t_16 : tq_iv (-2147483648) (-1) t_16 := tq_cut (tq_top t_16) (tq_ltL (tq_nle c2393) (tq_top t_16) tk_0) (by decide) (by decide)
      exact K_22
set_option maxRecDepth 4000 in
theorem tz_X11_haunted {p : tz_P} {σ : ez_H} {h0 : Nat} (hT : tp p σ) (k_h0 : tz_C h0 = some (3, 11, 0, 0)) : tz_O2 (fun (z : Int32) (s : ez_H) => tq_iv (-1) 2147483646 z ∧ tp p s) (z_X11_haunted σ h0) := by
  show tz_O (fun z : Int32 × ez_H => (fun (z : Int32) (s : ez_H) => tq_iv (-1) 2147483646 z ∧ tp p s) z.1 z.2) _
  unfold z_X11_haunted
  refine tz_bd (tz_ob hT k_h0) (fun _ _ => ?_)
  have L_6 : ∀ (n_6 : Nat) (k_6 : ez_H → Nat → Int32 → Int32 → Int32 → Option (Int32 × ez_H)), (∀ (σ_6 : ez_H) (x1_6 : Int32) (x2_6 : Int32) (x3_6 : Int32), tp p σ_6 → tq_iv (-1) 2147483646 x1_6 → tq_iv 0 2147483647 x3_6 → (2147483647 - x3_6.toInt).toNat < n_6 → tz_O (fun z : Int32 × ez_H => (fun (z : Int32) (s : ez_H) => tq_iv (-1) 2147483646 z ∧ tp p s) z.1 z.2) (k_6 σ_6 h0 x1_6 x2_6 x3_6)) → ∀ (σ_6 : ez_H) (x1_6 : Int32) (x2_6 : Int32) (x3_6 : Int32), tp p σ_6 → tq_iv (-1) 2147483646 x1_6 → tq_iv 0 2147483647 x3_6 → (2147483647 - x3_6.toInt).toNat < n_6 + 1 → tz_O (fun z : Int32 × ez_H => (fun (z : Int32) (s : ez_H) => tq_iv (-1) 2147483646 z ∧ tp p s) z.1 z.2) (z_X11_haunted_6 k_6 σ_6 h0 x1_6 x2_6 x3_6) := by
    intro n_6 k_6 hk_6 σ_6 x1_6 x2_6 x3_6 T_σ_6 i_x1_6 i_x3_6 hn_6
    unfold z_X11_haunted_6
    refine tz_be (tg_11_3 T_σ_6 k_h0) (fun t_8 e2412 k_t_8 => ?_)
    refine tz_be (tg_3_4 T_σ_6 k_t_8) (fun t_11 e2411 i_t_11 => ?_)
    refine tz_if _ (fun c2410 => ?_) (fun c2410 => ?_)
    ·
      exact tz_some ⟨i_x1_6, T_σ_6⟩
    ·
      have i1_x3_6 : tq_iv 0 2147483646 x3_6 := tq_cut i_x3_6 (tq_ltL (tq_nle c2410) i_x3_6 (tq_top t_11)) (by decide) (by decide)
      have i2_t_11 : tq_iv 1 2147483647 t_11 := tq_cut (tq_top t_11) (tq_ltR (tq_nle c2410) i_x3_6 (tq_top t_11)) (by decide) (by decide)
      refine tz_b2 (tz_X11_ghosts T_σ_6 k_h0) (fun t_19 σ2409 ⟨i_t_19, T2409⟩ => ?_)
      have K_40 : ∀ (x1_40 : Int32) (x2_40 : Int32), tq_iv 0 2147483646 x1_40 → tz_O (fun z : Int32 × ez_H => (fun (z : Int32) (s : ez_H) => tq_iv (-1) 2147483646 z ∧ tp p s) z.1 z.2) (z_X11_haunted_40 k_6 σ2409 h0 x1_40 x2_40 x3_6) := by
        intro x1_40 x2_40 i_x1_40
        unfold z_X11_haunted_40
        refine tz_let (fun t_40 e2401 => ?_)
        have i3_t_40 : tq_iv 1 2147483647 t_40 := tq_w (tq_add e2401 i1_x3_6 tk_1 (by decide) (by decide)) (by decide) (by decide)
        exact hk_6 σ2409 x1_40 x2_40 t_40 T2409 (tq_w i_x1_40 (by decide) (by decide)) (tq_w i3_t_40 (by decide) (by decide)) (tq_up e2401 i1_x3_6 tk_1 (by decide) (by decide) hn_6)
      have K_35 : tz_O (fun z : Int32 × ez_H => (fun (z : Int32) (s : ez_H) => tq_iv (-1) 2147483646 z ∧ tp p s) z.1 z.2) (z_X11_haunted_35 k_6 σ2409 h0 x3_6 t_19) := by
        unfold z_X11_haunted_35
        exact K_40 x3_6 t_19 i1_x3_6
      refine tz_if _ (fun c2408 => ?_) (fun c2408 => ?_)
      ·
        have i4_x1_6 : tq_iv (-1) (-1) x1_6 := tq_cut i_x1_6 (tq_eqL c2408 tk_m1) (by decide) (by decide)
        exact K_35 
      ·
        have i5_x1_6 : tq_iv 0 2147483646 x1_6 := tq_w (tq_neLo c2408 i_x1_6 tk_m1) (by decide) (by decide)
        refine tz_if _ (fun c2407 => ?_) (fun c2407 => ?_)
        ·
          exact K_40 x1_6 x2_6 i5_x1_6
        ·
          have i6_x2_6 : tq_iv (-2147483648) 2147483646 x2_6 := tq_cut (tq_top x2_6) (tq_ltL (tq_nle c2407) (tq_top x2_6) (tq_top t_19)) (by decide) (by decide)
          have i7_t_19 : tq_iv (-2147483647) 2147483647 t_19 := tq_cut (tq_top t_19) (tq_ltR (tq_nle c2407) (tq_top x2_6) (tq_top t_19)) (by decide) (by decide)
          exact K_35 
  have E_6 : ∀ (σ_6 : ez_H) (x1_6 : Int32) (x2_6 : Int32) (x3_6 : Int32), tp p σ_6 → tq_iv (-1) 2147483646 x1_6 → tq_iv 0 2147483647 x3_6 → tz_O (fun z : Int32 × ez_H => (fun (z : Int32) (s : ez_H) => tq_iv (-1) 2147483646 z ∧ tp p s) z.1 z.2) (ez_fix (fun _ _ _ _ _ => none) (z_X11_haunted_6) ez_N σ_6 h0 x1_6 x2_6 x3_6) := by
    intro σ_6 x1_6 x2_6 x3_6 T_σ_6 i_x1_6 i_x3_6
    exact ez_fix_indn (fun n_6 (k_6 : ez_H → Nat → Int32 → Int32 → Int32 → Option (Int32 × ez_H)) => ∀ (σ_6 : ez_H) (x1_6 : Int32) (x2_6 : Int32) (x3_6 : Int32), tp p σ_6 → tq_iv (-1) 2147483646 x1_6 → tq_iv 0 2147483647 x3_6 → (2147483647 - x3_6.toInt).toNat < n_6 → tz_O (fun z : Int32 × ez_H => (fun (z : Int32) (s : ez_H) => tq_iv (-1) 2147483646 z ∧ tp p s) z.1 z.2) (k_6 σ_6 h0 x1_6 x2_6 x3_6)) (by intros; rename_i h; exact absurd h (Nat.not_lt_zero _)) L_6 ez_N σ_6 x1_6 x2_6 x3_6 T_σ_6 i_x1_6 i_x3_6 (tq_m0 x3_6)
  exact E_6 σ (-1 : Int32) (0 : Int32) (0 : Int32) hT (tq_w tk_m1 (by decide) (by decide)) (tq_w tk_0 (by decide) (by decide))
set_option maxRecDepth 4000 in
theorem tz_X11_idle {p : tz_P} {σ : ez_H} {h0 : Nat} {x1 : Int32} (hT : tp p σ) (k_h0 : tz_C h0 = some (3, 11, 0, 0)) : tz_O (fun z => tq_iv (-2147483648) 2147483647 z) (z_X11_idle σ h0 x1) := by
  unfold z_X11_idle
  refine tz_bd (tz_ob hT k_h0) (fun _ _ => ?_)
  refine tz_if _ (fun c2427 => ?_) (fun c2427 => ?_)
  ·
    have i1_x1 : tq_iv 0 0 x1 := tq_cut (tq_top x1) (tq_eqL c2427 tk_0) (by decide) (by decide)
    refine tz_be (tg_11_5 hT k_h0) (fun t_29 e2419 k_t_29 => ?_)
    refine tz_be (tg_11_3 hT k_h0) (fun t_34 e2418 k_t_34 => ?_)
    refine tz_be (tg_3_3 hT k_t_34) (fun t_37 e2417 i_t_37 => ?_)
    refine tz_bd (tz_X7_heldBy hT k_t_29 (tq_w tk_m1 (by decide) (by decide)) i_t_37) (fun t_40 i_t_40 => ?_)
    exact tz_some (tq_top t_40)
  ·
    refine tz_if _ (fun c2426 => ?_) (fun c2426 => ?_)
    ·
      have i2_x1 : tq_iv 1 1 x1 := tq_cut (tq_top x1) (tq_eqL c2426 tk_1) (by decide) (by decide)
      refine tz_be (tg_11_5 hT k_h0) (fun t_45 e2424 k_t_45 => ?_)
      refine tz_be (tg_11_3 hT k_h0) (fun t_51 e2423 k_t_51 => ?_)
      refine tz_be (tg_3_3 hT k_t_51) (fun t_54 e2422 i_t_54 => ?_)
      refine tz_bd (tz_X7_heldBy hT k_t_45 (tq_w tk_m2 (by decide) (by decide)) i_t_54) (fun t_57 i_t_57 => ?_)
      exact tz_some (tq_top t_57)
    ·
      exact tz_some (tq_top (-1 : Int32))
set_option maxRecDepth 4000 in
theorem tz_X11_image {p : tz_P} {σ : ez_H} {h0 : Nat} {x1 : Int32} (hT : tp p σ) (k_h0 : tz_C h0 = some (3, 11, 0, 0)) : tz_O2 (fun (z : Int32) (s : ez_H) => tq_iv (-1) 63 z ∧ tp p s) (z_X11_image σ h0 x1) := by
  show tz_O (fun z : Int32 × ez_H => (fun (z : Int32) (s : ez_H) => tq_iv (-1) 63 z ∧ tp p s) z.1 z.2) _
  unfold z_X11_image
  refine tz_bd (tz_ob hT k_h0) (fun _ _ => ?_)
  have K_9 : tz_O (fun z : Int32 × ez_H => (fun (z : Int32) (s : ez_H) => tq_iv (-1) 63 z ∧ tp p s) z.1 z.2) (z_X11_image_9 σ) := by
    unfold z_X11_image_9
    exact tz_some ⟨(tq_w tk_m1 (by decide) (by decide)), hT⟩
  refine tz_if _ (fun c2447 => ?_) (fun c2447 => ?_)
  ·
    have i1_x1 : tq_iv (-2147483648) (-1) x1 := tq_cut (tq_top x1) (tq_ltL c2447 (tq_top x1) tk_0) (by decide) (by decide)
    exact K_9 
  ·
    have i2_x1 : tq_iv 0 2147483647 x1 := tq_cut (tq_top x1) (tq_leR (tq_nlt c2447) tk_0 (tq_top x1)) (by decide) (by decide)
    refine tz_if _ (fun c2446 => ?_) (fun c2446 => ?_)
    ·
      have i3_x1 : tq_iv 0 2 x1 := tq_cut i2_x1 (tq_ltL c2446 i2_x1 tk_3) (by decide) (by decide)
      refine tz_be (tg_11_8 hT k_h0) (fun t_12 e2444 k_t_12 => ?_)
      refine tz_be (tz_ra hT k_t_12 i3_x1 (by decide) (by decide)) (fun t_16 e2443 k_t_16 => ?_)
      refine tz_be (tg_11_5 hT k_h0) (fun t_18 e2442 k_t_18 => ?_)
      refine tz_b2 (tz_X7_copyFrom hT k_t_16 k_t_18) (fun _ σ2441 T2441 => ?_)
      refine tz_be (tg_11_9 T2441 k_h0) (fun t_26 e2440 i_t_26 => ?_)
      refine tz_let (fun t_31 e2439 => ?_)
      have i4_t_31 : tq_iv 1 4 t_31 := tq_shl1 e2439 i3_x1 (by decide) (by decide) (by decide) (by decide)
      refine tz_let (fun t_32 e2438 => ?_)
      refine tz_be (tw_11_9 T2441 k_h0 (tq_top t_32)) (fun σ2437 e2437 T2437 => ?_)
      refine tz_be (tg_11_5 T2437 k_h0) (fun t_37 e2436 k_t_37 => ?_)
      refine tz_be (tg_11_3 T2437 k_h0) (fun t_43 e2435 k_t_43 => ?_)
      refine tz_be (tg_3_3 T2437 k_t_43) (fun t_46 e2434 i_t_46 => ?_)
      refine tz_bd (tz_X7_heldBy T2437 k_t_37 (tq_w tk_m2 (by decide) (by decide)) i_t_46) (fun t_49 i_t_49 => ?_)
      refine tz_bd (tz_J6_bitCount_0f7a4 T2437) (fun t_52 i_t_52 => ?_)
      exact tz_some ⟨(tq_w i_t_52 (by decide) (by decide)), T2437⟩
    ·
      have i5_x1 : tq_iv 3 2147483647 x1 := tq_cut i2_x1 (tq_leR (tq_nlt c2446) tk_3 i2_x1) (by decide) (by decide)
      exact K_9
set_option maxRecDepth 4000 in
theorem tz_X5_lettingIn {p : tz_P} {σ : ez_H} {h0 : Nat} {x1 : Int32} {x2 : Int32} {x3 : Int32} (hT : tp p σ) (k_h0 : tz_C h0 = some (3, 5, 0, 0)) (i_x1 : tq_iv 0 7 x1) (i_x2 : tq_iv 0 2147483646 x2) (i_x3 : tq_iv 0 7 x3) : tz_O (fun z => tq_iv (-2147483648) 2147483647 z) (z_X5_lettingIn σ h0 x1 x2 x3) := by
  unfold z_X5_lettingIn
  refine tz_bd (tz_ob hT k_h0) (fun _ _ => ?_)
  refine tz_be (tg_5_0 hT k_h0) (fun t_1 e2477 k_t_1 => ?_)
  refine tz_bd (tz_X3_mustOf hT k_t_1 i_x2) (fun t_5 i_t_5 => ?_)
  refine tz_let (fun t_9 e2475 => ?_)
  refine tz_let (fun t_11 e2474 => ?_)
  have i1_t_11 : tq_iv 0 1 t_11 := tq_and2 e2474 tk_1 (by decide)
  refine tz_if _ (fun c2473 => ?_) (fun c2473 => ?_)
  ·
    have i2_t_11 : tq_iv 0 0 t_11 := tq_cut i1_t_11 (tq_eqL c2473 tk_0) (by decide) (by decide)
    refine tz_be (tg_5_1 hT k_h0) (fun t_16 e2458 k_t_16 => ?_)
    refine tz_bd (tz_X7_bits hT k_t_16) (fun t_20 i_t_20 => ?_)
    refine tz_bd (tz_X5_lawfulPins hT k_h0 i_x2) (fun t_25 i_t_25 => ?_)
    refine tz_bd (tz_X6_fitsIn hT) (fun t_28 i_t_28 => ?_)
    have K_45 : ∀ (y0_45 : Int32), tz_O (fun (z : Int32) => tq_iv (-2147483648) 2147483647 z) (z_X5_lettingIn_45 σ y0_45) := by
      intro y0_45
      unfold z_X5_lettingIn_45
      exact tz_some (tq_top y0_45)
    refine tz_if _ (fun c2454 => ?_) (fun c2454 => ?_)
    ·
      have i3_t_28 : tq_iv 0 0 t_28 := tq_cut i_t_28 (tq_eqL c2454 tk_0) (by decide) (by decide)
      exact K_45 (0 : Int32)
    ·
      have i4_t_28 : tq_iv 1 1 t_28 := tq_w (tq_neLo c2454 i_t_28 tk_0) (by decide) (by decide)
      refine tz_be (tg_5_2 hT k_h0) (fun t_35 e2453 k_t_35 => ?_)
      refine tz_bd (tz_X6_everything hT k_t_35) (fun t_38 i_t_38 => ?_)
      exact K_45 t_38
  ·
    have i5_t_11 : tq_iv 1 1 t_11 := tq_w (tq_neLo c2473 i1_t_11 tk_0) (by decide) (by decide)
    refine tz_be (tg_5_1 hT k_h0) (fun t_47 e2472 k_t_47 => ?_)
    refine tz_bd (tz_X7_bits hT k_t_47) (fun t_51 i_t_51 => ?_)
    refine tz_bk e2477 ?_
    refine tz_bd (tz_X3_mustOf hT k_t_1 i_x2) (fun t_60 i_t_60 => ?_)
    refine tz_let (fun t_65 e2468 => ?_)
    have i6_t_65 : tq_iv 1 128 t_65 := tq_shl1 e2468 i_x3 (by decide) (by decide) (by decide) (by decide)
    refine tz_let (fun t_67 e2467 => ?_)
    refine tz_let (fun t_68 e2466 => ?_)
    refine tz_bd (tz_X5_pinsFor hT k_h0) (fun t_69 i_t_69 => ?_)
    refine tz_let (fun t_73 e2464 => ?_)
    refine tz_let (fun t_74 e2463 => ?_)
    refine tz_be (tg_5_2 hT k_h0) (fun t_80 e2462 k_t_80 => ?_)
    refine tz_bd (tz_X6_everythingBut hT k_t_80) (fun t_85 i_t_85 => ?_)
    refine tz_let (fun t_88 e2460 => ?_)
    exact tz_some (tq_top t_88)
set_option maxRecDepth 4000 in
theorem tz_X5_addBar {p : tz_P} {σ : ez_H} {h0 : Nat} {x1 : Int32} (hT : tp p σ) (k_h0 : tz_C h0 = some (3, 5, 0, 0)) : tz_O2 (fun (z : Unit) (s : ez_H) => tp p s) (z_X5_addBar σ h0 x1) := by
  show tz_O (fun z : Unit × ez_H => (fun (z : Unit) (s : ez_H) => tp p s) z.1 z.2) _
  unfold z_X5_addBar
  refine tz_bd (tz_ob hT k_h0) (fun _ _ => ?_)
  have K_40 : ∀ (σ_40 : ez_H), tp p σ_40 → tz_O (fun z : Unit × ez_H => (fun (z : Unit) (s : ez_H) => tp p s) z.1 z.2) (z_X5_addBar_40 σ_40) := by
    intro σ_40 T_σ_40
    unfold z_X5_addBar_40
    exact tz_some T_σ_40
  refine tz_if _ (fun c2494 => ?_) (fun c2494 => ?_)
  ·
    have i1_x1 : tq_iv 0 0 x1 := tq_cut (tq_top x1) (tq_eqL c2494 tk_0) (by decide) (by decide)
    exact K_40 σ hT
  ·
    refine tz_be (tg_5_4 hT k_h0) (fun t_5 e2493 i_t_5 => ?_)
    refine tz_if _ (fun c2492 => ?_) (fun c2492 => ?_)
    ·
      have i2_t_5 : tq_iv (-2147483648) (-1) t_5 := tq_cut (tq_top t_5) (tq_ltL c2492 (tq_top t_5) tk_0) (by decide) (by decide)
      exact K_40 σ hT
    ·
      have i3_t_5 : tq_iv 0 2147483647 t_5 := tq_cut (tq_top t_5) (tq_leR (tq_nlt c2492) tk_0 (tq_top t_5)) (by decide) (by decide)
      refine tz_ba e2493 (fun t_12 e2491 a2491 => ?_)
      have i4_t_12 : tq_iv 0 2147483647 t_12 := tq_eqL a2491 i3_t_5
      refine tz_if _ (fun c2490 => ?_) (fun c2490 => ?_)
      ·
        have i5_t_12 : tq_iv 48 2147483647 t_12 := tq_cut i4_t_12 (tq_leR c2490 tk_48 i4_t_12) (by decide) (by decide)
        have i6_t_5 : tq_iv 48 2147483647 t_5 := tq_cut i3_t_5 (tq_eqL (Eq.symm a2491) i5_t_12) (by decide) (by decide)
        exact K_40 σ hT
      ·
        have i7_t_12 : tq_iv 0 47 t_12 := tq_cut i4_t_12 (tq_ltL (tq_nle c2490) i4_t_12 tk_48) (by decide) (by decide)
        have i8_t_5 : tq_iv 0 47 t_5 := tq_cut i3_t_5 (tq_eqL (Eq.symm a2491) i7_t_12) (by decide) (by decide)
        refine tz_be (tg_5_3 hT k_h0) (fun t_21 e2489 k_t_21 => ?_)
        refine tz_ba e2493 (fun t_25 e2488 a2488 => ?_)
        have i9_t_25 : tq_iv 0 47 t_25 := tq_eqL a2488 i8_t_5
        refine tz_be (tz_is hT k_t_21 (te_0 (p := p)) i9_t_25 (by decide) (by decide) (tq_top x1)) (fun σ2487 e2487 T2487 => ?_)
        refine tz_ba ((fr_is_gi e2487).trans e2493) (fun t_32 e2486 a2486 => ?_)
        have i10_t_32 : tq_iv 0 47 t_32 := tq_eqL a2486 i8_t_5
        refine tz_let (fun t_36 e2485 => ?_)
        have i11_t_36 : tq_iv 1 48 t_36 := tq_w (tq_add e2485 i10_t_32 tk_1 (by decide) (by decide)) (by decide) (by decide)
        refine tz_be (tw_5_4 T2487 k_h0 (tq_top t_36)) (fun σ2484 e2484 T2484 => ?_)
        exact K_40 σ2484 T2484
set_option maxRecDepth 4000 in
theorem tz_X5_gatherBars {p : tz_P} {σ : ez_H} {h0 : Nat} {x1 : Int32} (hT : tp p σ) (k_h0 : tz_C h0 = some (3, 5, 0, 0)) (i_x1 : tq_iv 0 7 x1) : tz_O2 (fun (z : Unit) (s : ez_H) => tp p s) (z_X5_gatherBars σ h0 x1) := by
  show tz_O (fun z : Unit × ez_H => (fun (z : Unit) (s : ez_H) => tp p s) z.1 z.2) _
  unfold z_X5_gatherBars
  refine tz_bd (tz_ob hT k_h0) (fun _ _ => ?_)
  refine tz_be (tw_5_4 hT k_h0 (tq_top (0 : Int32))) (fun σ2522 e2522 T2522 => ?_)
  have L_7 : ∀ (n_7 : Nat) (k_7 : ez_H → Nat → Int32 → Int32 → Option (Unit × ez_H)), (∀ (σ_7 : ez_H) (x2_7 : Int32), tp p σ_7 → tq_iv 0 2147483647 x2_7 → (2147483647 - x2_7.toInt).toNat < n_7 → tz_O (fun z : Unit × ez_H => (fun (z : Unit) (s : ez_H) => tp p s) z.1 z.2) (k_7 σ_7 h0 x1 x2_7)) → ∀ (σ_7 : ez_H) (x2_7 : Int32), tp p σ_7 → tq_iv 0 2147483647 x2_7 → (2147483647 - x2_7.toInt).toNat < n_7 + 1 → tz_O (fun z : Unit × ez_H => (fun (z : Unit) (s : ez_H) => tp p s) z.1 z.2) (z_X5_gatherBars_7 k_7 σ_7 h0 x1 x2_7) := by
    intro n_7 k_7 hk_7 σ_7 x2_7 T_σ_7 i_x2_7 hn_7
    unfold z_X5_gatherBars_7
    refine tz_be (tg_5_0 T_σ_7 k_h0) (fun t_9 e2520 k_t_9 => ?_)
    refine tz_be (tg_3_4 T_σ_7 k_t_9) (fun t_12 e2519 i_t_12 => ?_)
    refine tz_if _ (fun c2518 => ?_) (fun c2518 => ?_)
    ·
      exact tz_some T_σ_7
    ·
      have i1_x2_7 : tq_iv 0 2147483646 x2_7 := tq_cut i_x2_7 (tq_ltL (tq_nle c2518) i_x2_7 (tq_top t_12)) (by decide) (by decide)
      have i2_t_12 : tq_iv 1 2147483647 t_12 := tq_cut (tq_top t_12) (tq_ltR (tq_nle c2518) i_x2_7 (tq_top t_12)) (by decide) (by decide)
      have L_20 : ∀ (n_20 : Nat) (k_20 : ez_H → Nat → Int32 → Int32 → Int32 → Option (Unit × ez_H)), (∀ (σ_20 : ez_H) (x3_20 : Int32), tp p σ_20 → tq_iv 0 8 x3_20 → (2147483647 - x3_20.toInt).toNat < n_20 → tz_O (fun z : Unit × ez_H => (fun (z : Unit) (s : ez_H) => tp p s) z.1 z.2) (k_20 σ_20 h0 x1 x2_7 x3_20)) → ∀ (σ_20 : ez_H) (x3_20 : Int32), tp p σ_20 → tq_iv 0 8 x3_20 → (2147483647 - x3_20.toInt).toNat < n_20 + 1 → tz_O (fun z : Unit × ez_H => (fun (z : Unit) (s : ez_H) => tp p s) z.1 z.2) (z_X5_gatherBars_20 k_7 k_20 σ_20 h0 x1 x2_7 x3_20) := by
        intro n_20 k_20 hk_20 σ_20 x3_20 T_σ_20 i_x3_20 hn_20
        unfold z_X5_gatherBars_20
        refine tz_be (tg_5_0 T_σ_20 k_h0) (fun t_22 e2515 k_t_22 => ?_)
        refine tz_be (tg_3_3 T_σ_20 k_t_22) (fun t_25 e2514 i_t_25 => ?_)
        refine tz_if _ (fun c2513 => ?_) (fun c2513 => ?_)
        ·
          refine tz_let (fun t_76 e2501 => ?_)
          have i3_t_76 : tq_iv 1 2147483647 t_76 := tq_w (tq_add e2501 i1_x2_7 tk_1 (by decide) (by decide)) (by decide) (by decide)
          exact hk_7 σ_20 t_76 T_σ_20 (tq_w i3_t_76 (by decide) (by decide)) (tq_up e2501 i1_x2_7 tk_1 (by decide) (by decide) hn_7)
        ·
          have i4_x3_20 : tq_iv 0 7 x3_20 := tq_cut i_x3_20 (tq_ltL (tq_nle c2513) i_x3_20 i_t_25) (by decide) (by decide)
          have i5_t_25 : tq_iv 1 8 t_25 := tq_cut i_t_25 (tq_ltR (tq_nle c2513) i_x3_20 i_t_25) (by decide) (by decide)
          refine tz_bk e2515 ?_
          refine tz_bd (tz_X3_neverOf T_σ_20 k_t_22 i1_x2_7) (fun t_36 i_t_36 => ?_)
          refine tz_let (fun t_40 e2510 => ?_)
          refine tz_let (fun t_42 e2509 => ?_)
          have i6_t_42 : tq_iv 0 1 t_42 := tq_and2 e2509 tk_1 (by decide)
          have K_70 : ∀ (σ_70 : ez_H), tp p σ_70 → tz_O (fun z : Unit × ez_H => (fun (z : Unit) (s : ez_H) => tp p s) z.1 z.2) (z_X5_gatherBars_70 k_7 k_20 σ_70 h0 x1 x2_7 x3_20) := by
            intro σ_70 T_σ_70
            unfold z_X5_gatherBars_70
            refine tz_let (fun t_70 e2497 => ?_)
            have i7_t_70 : tq_iv 1 8 t_70 := tq_w (tq_add e2497 i4_x3_20 tk_1 (by decide) (by decide)) (by decide) (by decide)
            exact hk_20 σ_70 t_70 T_σ_70 (tq_w i7_t_70 (by decide) (by decide)) (tq_up e2497 i4_x3_20 tk_1 (by decide) (by decide) hn_20)
          refine tz_if _ (fun c2508 => ?_) (fun c2508 => ?_)
          ·
            have i8_t_42 : tq_iv 0 0 t_42 := tq_cut i6_t_42 (tq_eqL c2508 tk_0) (by decide) (by decide)
            exact K_70 σ_20 T_σ_20
          ·
            have i9_t_42 : tq_iv 1 1 t_42 := tq_w (tq_neLo c2508 i6_t_42 tk_0) (by decide) (by decide)
            have K_67 : ∀ (y1_67 : Int32), tz_O (fun z : Unit × ez_H => (fun (z : Unit) (s : ez_H) => tp p s) z.1 z.2) (z_X5_gatherBars_67 k_7 k_20 σ_20 h0 x1 x2_7 x3_20 h0 y1_67) := by
              intro y1_67
              unfold z_X5_gatherBars_67
              refine tz_b2 (tz_X5_addBar T_σ_20 k_h0) (fun _ σ2499 T2499 => ?_)
              exact K_70 σ2499 T2499
            refine tz_if _ (fun c2507 => ?_) (fun c2507 => ?_)
            ·
              refine tz_bd (tz_X5_lawfulPins T_σ_20 k_h0 i1_x2_7) (fun t_54 i_t_54 => ?_)
              exact K_67 t_54
            ·
              refine tz_bd (tz_X5_lettingIn T_σ_20 k_h0 i4_x3_20 i1_x2_7 i_x1) (fun t_64 i_t_64 => ?_)
              exact K_67 t_64
      have E_20 : ∀ (σ_20 : ez_H) (x3_20 : Int32), tp p σ_20 → tq_iv 0 8 x3_20 → tz_O (fun z : Unit × ez_H => (fun (z : Unit) (s : ez_H) => tp p s) z.1 z.2) (ez_fix (fun _ _ _ _ _ => none) (z_X5_gatherBars_20 k_7) ez_N σ_20 h0 x1 x2_7 x3_20) := by
        intro σ_20 x3_20 T_σ_20 i_x3_20
        exact ez_fix_indn (fun n_20 (k_20 : ez_H → Nat → Int32 → Int32 → Int32 → Option (Unit × ez_H)) => ∀ (σ_20 : ez_H) (x3_20 : Int32), tp p σ_20 → tq_iv 0 8 x3_20 → (2147483647 - x3_20.toInt).toNat < n_20 → tz_O (fun z : Unit × ez_H => (fun (z : Unit) (s : ez_H) => tp p s) z.1 z.2) (k_20 σ_20 h0 x1 x2_7 x3_20)) (by intros; rename_i h; exact absurd h (Nat.not_lt_zero _)) L_20 ez_N σ_20 x3_20 T_σ_20 i_x3_20 (tq_m0 x3_20)
      exact E_20 σ_7 (0 : Int32) T_σ_7 (tq_w tk_0 (by decide) (by decide))
  have E_7 : ∀ (σ_7 : ez_H) (x2_7 : Int32), tp p σ_7 → tq_iv 0 2147483647 x2_7 → tz_O (fun z : Unit × ez_H => (fun (z : Unit) (s : ez_H) => tp p s) z.1 z.2) (ez_fix (fun _ _ _ _ => none) (z_X5_gatherBars_7) ez_N σ_7 h0 x1 x2_7) := by
    intro σ_7 x2_7 T_σ_7 i_x2_7
    exact ez_fix_indn (fun n_7 (k_7 : ez_H → Nat → Int32 → Int32 → Option (Unit × ez_H)) => ∀ (σ_7 : ez_H) (x2_7 : Int32), tp p σ_7 → tq_iv 0 2147483647 x2_7 → (2147483647 - x2_7.toInt).toNat < n_7 → tz_O (fun z : Unit × ez_H => (fun (z : Unit) (s : ez_H) => tp p s) z.1 z.2) (k_7 σ_7 h0 x1 x2_7)) (by intros; rename_i h; exact absurd h (Nat.not_lt_zero _)) L_7 ez_N σ_7 x2_7 T_σ_7 i_x2_7 (tq_m0 x2_7)
  exact E_7 σ2522 (0 : Int32) T2522 (tq_w tk_0 (by decide) (by decide))
set_option maxRecDepth 4000 in
theorem tz_X5_isBarred {p : tz_P} {σ : ez_H} {h0 : Nat} {x1 : Int32} (hT : tp p σ) (k_h0 : tz_C h0 = some (3, 5, 0, 0)) : tz_O (fun z => tq_iv 0 1 z) (z_X5_isBarred σ h0 x1) := by
  unfold z_X5_isBarred
  refine tz_bd (tz_ob hT k_h0) (fun _ _ => ?_)
  have L_2 : ∀ (n_2 : Nat) (k_2 : Nat → Int32 → Int32 → Option (Int32)), (∀ (x2_2 : Int32), tq_iv 0 48 x2_2 → (2147483647 - x2_2.toInt).toNat < n_2 → tz_O (fun (z : Int32) => tq_iv 0 1 z) (k_2 h0 x1 x2_2)) → ∀ (x2_2 : Int32), tq_iv 0 48 x2_2 → (2147483647 - x2_2.toInt).toNat < n_2 + 1 → tz_O (fun (z : Int32) => tq_iv 0 1 z) (z_X5_isBarred_2 σ k_2 h0 x1 x2_2) := by
    intro n_2 k_2 hk_2 x2_2 i_x2_2 hn_2
    unfold z_X5_isBarred_2
    refine tz_be (tg_5_4 hT k_h0) (fun t_4 e2536 i_t_4 => ?_)
    have K_37 : tz_O (fun (z : Int32) => tq_iv 0 1 z) (z_X5_isBarred_37 σ) := by
      unfold z_X5_isBarred_37
      exact tz_some (tq_w tk_0 (by decide) (by decide))
    refine tz_if _ (fun c2535 => ?_) (fun c2535 => ?_)
    ·
      have i1_t_4 : tq_iv (-2147483648) 48 t_4 := tq_cut (tq_top t_4) (tq_leL c2535 (tq_top t_4) i_x2_2) (by decide) (by decide)
      exact K_37 
    ·
      have i2_t_4 : tq_iv 1 2147483647 t_4 := tq_cut (tq_top t_4) (tq_ltR (tq_nle c2535) i_x2_2 (tq_top t_4)) (by decide) (by decide)
      refine tz_if _ (fun c2534 => ?_) (fun c2534 => ?_)
      ·
        have i3_x2_2 : tq_iv 48 48 x2_2 := tq_cut i_x2_2 (tq_leR c2534 tk_48 i_x2_2) (by decide) (by decide)
        exact K_37 
      ·
        have i4_x2_2 : tq_iv 0 47 x2_2 := tq_cut i_x2_2 (tq_ltL (tq_nle c2534) i_x2_2 tk_48) (by decide) (by decide)
        refine tz_be (tg_5_3 hT k_h0) (fun t_18 e2533 k_t_18 => ?_)
        refine tz_be (tz_ia hT k_t_18 (te_0 (p := p)) i4_x2_2 (by decide) (by decide)) (fun t_22 e2532 i_t_22 => ?_)
        refine tz_bd (tz_X6_fitsIn hT) (fun t_23 i_t_23 => ?_)
        refine tz_if _ (fun c2530 => ?_) (fun c2530 => ?_)
        ·
          have i5_t_23 : tq_iv 0 0 t_23 := tq_cut i_t_23 (tq_eqL c2530 tk_0) (by decide) (by decide)
          refine tz_let (fun t_31 e2528 => ?_)
          have i6_t_31 : tq_iv 1 48 t_31 := tq_w (tq_add e2528 i4_x2_2 tk_1 (by decide) (by decide)) (by decide) (by decide)
          exact hk_2 t_31 (tq_w i6_t_31 (by decide) (by decide)) (tq_up e2528 i4_x2_2 tk_1 (by decide) (by decide) hn_2)
        ·
          have i7_t_23 : tq_iv 1 1 t_23 := tq_w (tq_neLo c2530 i_t_23 tk_0) (by decide) (by decide)
          exact tz_some (tq_w tk_1 (by decide) (by decide))
  have E_2 : ∀ (x2_2 : Int32), tq_iv 0 48 x2_2 → tz_O (fun (z : Int32) => tq_iv 0 1 z) (ez_fix (fun _ _ _ => none) (z_X5_isBarred_2 σ) ez_N h0 x1 x2_2) := by
    intro x2_2 i_x2_2
    exact ez_fix_indn (fun n_2 (k_2 : Nat → Int32 → Int32 → Option (Int32)) => ∀ (x2_2 : Int32), tq_iv 0 48 x2_2 → (2147483647 - x2_2.toInt).toNat < n_2 → tz_O (fun (z : Int32) => tq_iv 0 1 z) (k_2 h0 x1 x2_2)) (by intros; rename_i h; exact absurd h (Nat.not_lt_zero _)) L_2 ez_N x2_2 i_x2_2 (tq_m0 x2_2)
  exact E_2 (0 : Int32) (tq_w tk_0 (by decide) (by decide))
set_option maxRecDepth 4000 in
theorem tz_X5_keepingCut {p : tz_P} {σ : ez_H} {h0 : Nat} {x1 : Int32} (hT : tp p σ) (k_h0 : tz_C h0 = some (3, 5, 0, 0)) (i_x1 : tq_iv 0 7 x1) : tz_O2 (fun (z : Int32) (s : ez_H) => tq_iv (-2147483648) 2147483647 z ∧ tp p s) (z_X5_keepingCut σ h0 x1) := by
  show tz_O (fun z : Int32 × ez_H => (fun (z : Int32) (s : ez_H) => tq_iv (-2147483648) 2147483647 z ∧ tp p s) z.1 z.2) _
  unfold z_X5_keepingCut
  refine tz_bd (tz_ob hT k_h0) (fun _ _ => ?_)
  refine tz_b2 (tz_X5_gatherBars hT k_h0 i_x1) (fun _ σ2554 T2554 => ?_)
  refine tz_be (tg_5_2 T2554 k_h0) (fun t_6 e2553 k_t_6 => ?_)
  refine tz_bd (tz_X6_least T2554 k_t_6) (fun t_9 i_t_9 => ?_)
  have L_15 : ∀ (n_15 : Nat) (k_15 : ez_H → Nat → Int32 → Int32 → Option (Int32 × ez_H)), (∀ (x2_15 : Int32) (x3_15 : Int32), tq_iv 0 7776 x3_15 → (2147483647 - x3_15.toInt).toNat < n_15 → tz_O (fun z : Int32 × ez_H => (fun (z : Int32) (s : ez_H) => tq_iv (-2147483648) 2147483647 z ∧ tp p s) z.1 z.2) (k_15 σ2554 h0 x2_15 x3_15)) → ∀ (x2_15 : Int32) (x3_15 : Int32), tq_iv 0 7776 x3_15 → (2147483647 - x3_15.toInt).toNat < n_15 + 1 → tz_O (fun z : Int32 × ez_H => (fun (z : Int32) (s : ez_H) => tq_iv (-2147483648) 2147483647 z ∧ tp p s) z.1 z.2) (z_X5_keepingCut_15 k_15 σ2554 h0 x2_15 x3_15) := by
    intro n_15 k_15 hk_15 x2_15 x3_15 i_x3_15 hn_15
    unfold z_X5_keepingCut_15
    have K_51 : tz_O (fun z : Int32 × ez_H => (fun (z : Int32) (s : ez_H) => tq_iv (-2147483648) 2147483647 z ∧ tp p s) z.1 z.2) (z_X5_keepingCut_51 σ2554) := by
      unfold z_X5_keepingCut_51
      exact tz_some ⟨(tq_top (0 : Int32)), T2554⟩
    refine tz_if _ (fun c2550 => ?_) (fun c2550 => ?_)
    ·
      have i1_x3_15 : tq_iv 7776 7776 x3_15 := tq_cut i_x3_15 (tq_leR c2550 tk_7776 i_x3_15) (by decide) (by decide)
      exact K_51 
    ·
      have i2_x3_15 : tq_iv 0 7775 x3_15 := tq_cut i_x3_15 (tq_ltL (tq_nle c2550) i_x3_15 tk_7776) (by decide) (by decide)
      refine tz_if _ (fun c2549 => ?_) (fun c2549 => ?_)
      ·
        have i3_x2_15 : tq_iv 0 0 x2_15 := tq_cut (tq_top x2_15) (tq_eqL c2549 tk_0) (by decide) (by decide)
        exact K_51 
      ·
        refine tz_bd (tz_X5_isBarred T2554 k_h0) (fun t_28 i_t_28 => ?_)
        refine tz_if _ (fun c2547 => ?_) (fun c2547 => ?_)
        ·
          have i4_t_28 : tq_iv 0 0 t_28 := tq_cut i_t_28 (tq_eqL c2547 tk_0) (by decide) (by decide)
          exact tz_some ⟨(tq_top x2_15), T2554⟩
        ·
          have i5_t_28 : tq_iv 1 1 t_28 := tq_w (tq_neLo c2547 i_t_28 tk_0) (by decide) (by decide)
          refine tz_bk e2553 ?_
          refine tz_bd (tz_X6_after T2554 k_t_6) (fun t_41 i_t_41 => ?_)
          refine tz_let (fun t_45 e2544 => ?_)
          have i6_t_45 : tq_iv 1 7776 t_45 := tq_w (tq_add e2544 i2_x3_15 tk_1 (by decide) (by decide)) (by decide) (by decide)
          exact hk_15 t_41 t_45 (tq_w i6_t_45 (by decide) (by decide)) (tq_up e2544 i2_x3_15 tk_1 (by decide) (by decide) hn_15)
  have E_15 : ∀ (x2_15 : Int32) (x3_15 : Int32), tq_iv 0 7776 x3_15 → tz_O (fun z : Int32 × ez_H => (fun (z : Int32) (s : ez_H) => tq_iv (-2147483648) 2147483647 z ∧ tp p s) z.1 z.2) (ez_fix (fun _ _ _ _ => none) (z_X5_keepingCut_15) ez_N σ2554 h0 x2_15 x3_15) := by
    intro x2_15 x3_15 i_x3_15
    exact ez_fix_indn (fun n_15 (k_15 : ez_H → Nat → Int32 → Int32 → Option (Int32 × ez_H)) => ∀ (x2_15 : Int32) (x3_15 : Int32), tq_iv 0 7776 x3_15 → (2147483647 - x3_15.toInt).toNat < n_15 → tz_O (fun z : Int32 × ez_H => (fun (z : Int32) (s : ez_H) => tq_iv (-2147483648) 2147483647 z ∧ tp p s) z.1 z.2) (k_15 σ2554 h0 x2_15 x3_15)) (by intros; rename_i h; exact absurd h (Nat.not_lt_zero _)) L_15 ez_N x2_15 x3_15 i_x3_15 (tq_m0 x3_15)
  exact E_15 t_9 (0 : Int32) (tq_w tk_0 (by decide) (by decide))
set_option maxRecDepth 4000 in
theorem tz_X11_keeps {p : tz_P} {σ : ez_H} {h0 : Nat} {x1 : Int32} (hT : tp p σ) (k_h0 : tz_C h0 = some (3, 11, 0, 0)) : tz_O2 (fun (z : Int32) (s : ez_H) => tq_iv (-2147483648) 2147483647 z ∧ tp p s) (z_X11_keeps σ h0 x1) := by
  show tz_O (fun z : Int32 × ez_H => (fun (z : Int32) (s : ez_H) => tq_iv (-2147483648) 2147483647 z ∧ tp p s) z.1 z.2) _
  unfold z_X11_keeps
  refine tz_bd (tz_ob hT k_h0) (fun _ _ => ?_)
  refine tz_be (tg_11_3 hT k_h0) (fun t_1 e2565 k_t_1 => ?_)
  refine tz_bd (tz_X3_hasKey hT k_t_1) (fun t_5 ⟨i_t_5, g_t_5⟩ => ?_)
  have K_30 : ∀ (σ_30 : ez_H) (y0_30 : Int32), tp p σ_30 → tz_O (fun z : Int32 × ez_H => (fun (z : Int32) (s : ez_H) => tq_iv (-2147483648) 2147483647 z ∧ tp p s) z.1 z.2) (z_X11_keeps_30 σ_30 y0_30) := by
    intro σ_30 y0_30 T_σ_30
    unfold z_X11_keeps_30
    exact tz_some ⟨(tq_top y0_30), T_σ_30⟩
  refine tz_if _ (fun c2563 => ?_) (fun c2563 => ?_)
  ·
    have i1_t_5 : tq_iv 0 0 t_5 := tq_cut i_t_5 (tq_eqL c2563 tk_0) (by decide) (by decide)
    exact K_30 σ (-1 : Int32) hT
  ·
    have i2_x1 : tq_iv 0 7 x1 := tq_cut (tq_top x1) (g_t_5 c2563) (by decide) (by decide)
    have i3_t_5 : tq_iv 1 1 t_5 := tq_w (tq_neLo c2563 i_t_5 tk_0) (by decide) (by decide)
    refine tz_be (tg_11_4 hT k_h0) (fun t_12 e2562 k_t_12 => ?_)
    refine tz_be (tg_11_13 hT k_h0) (fun t_16 e2561 k_t_16 => ?_)
    refine tz_b2 (tz_X5_keepingCut hT k_t_16 i2_x1) (fun t_20 σ2560 ⟨i_t_20, T2560⟩ => ?_)
    refine tz_bd (tz_X6_numberOf T2560 k_t_12) (fun t_23 i_t_23 => ?_)
    exact K_30 σ2560 t_23 T2560
set_option maxRecDepth 4000 in
theorem tz_X7_used {p : tz_P} {σ : ez_H} {h0 : Nat} {x1 : Int32} (hT : tp p σ) (k_h0 : tz_C h0 = some (3, 7, 0, 0)) : tz_O (fun z => tq_iv (-2147483648) 2147483647 z) (z_X7_used σ h0 x1) := by
  unfold z_X7_used
  refine tz_bd (tz_ob hT k_h0) (fun _ _ => ?_)
  refine tz_let (fun t_4 e2569 => ?_)
  refine tz_bd (tz_X7_look hT k_h0) (fun t_5 i_t_5 => ?_)
  exact tz_some (tq_top t_5)
set_option maxRecDepth 4000 in
theorem tz_X11_key {p : tz_P} {σ : ez_H} {h0 : Nat} {x1 : Int32} {x2 : Int32} (hT : tp p σ) (k_h0 : tz_C h0 = some (3, 11, 0, 0)) : tz_O (fun z => tq_iv (-2147483648) 2147483647 z) (z_X11_key σ h0 x1 x2) := by
  unfold z_X11_key
  refine tz_bd (tz_ob hT k_h0) (fun _ _ => ?_)
  refine tz_be (tg_11_3 hT k_h0) (fun t_1 e2594 k_t_1 => ?_)
  refine tz_bd (tz_X3_hasKey hT k_t_1) (fun t_5 ⟨i_t_5, g_t_5⟩ => ?_)
  refine tz_if _ (fun c2592 => ?_) (fun c2592 => ?_)
  ·
    have i1_t_5 : tq_iv 0 0 t_5 := tq_cut i_t_5 (tq_eqL c2592 tk_0) (by decide) (by decide)
    exact tz_some (tq_top (-3 : Int32))
  ·
    have i2_x1 : tq_iv 0 7 x1 := tq_cut (tq_top x1) (g_t_5 c2592) (by decide) (by decide)
    have i3_t_5 : tq_iv 1 1 t_5 := tq_w (tq_neLo c2592 i_t_5 tk_0) (by decide) (by decide)
    refine tz_if _ (fun c2591 => ?_) (fun c2591 => ?_)
    ·
      have i4_x2 : tq_iv 0 0 x2 := tq_cut (tq_top x2) (tq_eqL c2591 tk_0) (by decide) (by decide)
      refine tz_be (tg_11_4 hT k_h0) (fun t_45 e2576 k_t_45 => ?_)
      refine tz_be (tg_11_5 hT k_h0) (fun t_49 e2575 k_t_49 => ?_)
      refine tz_bd (tz_X7_bits hT k_t_49) (fun t_53 i_t_53 => ?_)
      refine tz_bd (tz_X6_numberOf hT k_t_45) (fun t_56 i_t_56 => ?_)
      exact tz_some (tq_top t_56)
    ·
      refine tz_if _ (fun c2590 => ?_) (fun c2590 => ?_)
      ·
        have i5_x2 : tq_iv 1 1 x2 := tq_cut (tq_top x2) (tq_eqL c2590 tk_1) (by decide) (by decide)
        refine tz_be (tg_11_5 hT k_h0) (fun t_61 e2579 k_t_61 => ?_)
        refine tz_bd (tz_X7_used hT k_t_61) (fun t_65 i_t_65 => ?_)
        exact tz_some (tq_top t_65)
      ·
        refine tz_if _ (fun c2589 => ?_) (fun c2589 => ?_)
        ·
          have i6_x2 : tq_iv 2 2 x2 := tq_cut (tq_top x2) (tq_eqL c2589 tk_2) (by decide) (by decide)
          refine tz_be (tg_11_5 hT k_h0) (fun t_70 e2582 k_t_70 => ?_)
          refine tz_bd (tz_X7_holder hT k_t_70 i2_x1) (fun t_74 i_t_74 => ?_)
          exact tz_some (tq_top t_74)
        ·
          refine tz_if _ (fun c2588 => ?_) (fun c2588 => ?_)
          ·
            have i7_x2 : tq_iv 3 3 x2 := tq_cut (tq_top x2) (tq_eqL c2588 tk_3) (by decide) (by decide)
            refine tz_be (tg_11_12 hT k_h0) (fun t_79 e2586 k_t_79 => ?_)
            refine tz_let (fun t_84 e2585 => ?_)
            have i8_t_84 : tq_iv 1 128 t_84 := tq_shl1 e2585 i2_x1 (by decide) (by decide) (by decide) (by decide)
            refine tz_bd (tz_X2_locksFor hT k_t_79) (fun t_85 i_t_85 => ?_)
            exact tz_some (tq_top t_85)
          ·
            exact tz_some (tq_top (-3 : Int32))
set_option maxRecDepth 4000 in
theorem tz_X7_putSeed {p : tz_P} {σ : ez_H} {h0 : Nat} {x1 : Int32} (hT : tp p σ) (k_h0 : tz_C h0 = some (3, 7, 0, 0)) (i_x1 : tq_iv (-999) 999 x1) : tz_O2 (fun (z : Unit) (s : ez_H) => tp p s) (z_X7_putSeed σ h0 x1) := by
  show tz_O (fun z : Unit × ez_H => (fun (z : Unit) (s : ez_H) => tp p s) z.1 z.2) _
  unfold z_X7_putSeed
  refine tz_bd (tz_ob hT k_h0) (fun _ _ => ?_)
  refine tz_b2 (tz_X7_put hT k_h0) (fun _ σ2597 ⟨T2597, W2597⟩ => ?_)
  exact tz_some T2597
set_option maxRecDepth 4000 in
theorem tz_X6_besideOf {p : tz_P} {σ : ez_H} {h0 : Nat} {x1 : Int32} {x2 : Int32} (hT : tp p σ) (k_h0 : tz_C h0 = some (3, 6, 0, 0)) (i_x2 : tq_iv (-998) 998 x2) : tz_O (fun z => tq_iv (-2147483648) 2147483647 z) (z_X6_besideOf σ h0 x1 x2) := by
  unfold z_X6_besideOf
  refine tz_bd (tz_ob hT k_h0) (fun _ _ => ?_)
  have K_16 : ∀ (y0_16 : Int32), tz_O (fun (z : Int32) => tq_iv (-2147483648) 2147483647 z) (z_X6_besideOf_16 σ h0 x1 x2 y0_16) := by
    intro y0_16
    unfold z_X6_besideOf_16
    refine tz_let (fun t_19 e2607 => ?_)
    have i1_t_19 : tq_iv (-997) 999 t_19 := tq_w (tq_add e2607 i_x2 tk_1 (by decide) (by decide)) (by decide) (by decide)
    refine tz_be (tg_6_0 hT k_h0) (fun t_21 e2606 i_t_21 => ?_)
    have K_39 : ∀ (y0_39 : Int32), tz_O (fun (z : Int32) => tq_iv (-2147483648) 2147483647 z) (z_X6_besideOf_39 σ y0_16 y0_39) := by
      intro y0_39
      unfold z_X6_besideOf_39
      refine tz_let (fun t_44 e2600 => ?_)
      exact tz_some (tq_top t_44)
    refine tz_if _ (fun c2605 => ?_) (fun c2605 => ?_)
    ·
      have i2_t_19 : tq_iv 0 999 t_19 := tq_cut i1_t_19 (tq_leR c2605 i_t_21 i1_t_19) (by decide) (by decide)
      have i3_x2 : tq_iv (-1) 998 x2 := tq_cut i_x2 (tq_addB e2607 i_x2 tk_1 i2_t_19 (by decide) (by decide)) (by decide) (by decide)
      exact K_39 (0 : Int32)
    ·
      have i4_t_19 : tq_iv (-997) 998 t_19 := tq_cut i1_t_19 (tq_ltL (tq_nle c2605) i1_t_19 i_t_21) (by decide) (by decide)
      have i5_x2 : tq_iv (-998) 997 x2 := tq_cut i_x2 (tq_addB e2607 i_x2 tk_1 i4_t_19 (by decide) (by decide)) (by decide) (by decide)
      refine tz_let (fun t_31 e2604 => ?_)
      have i6_t_31 : tq_iv (-997) 998 t_31 := tq_w (tq_add e2604 i5_x2 tk_1 (by decide) (by decide)) (by decide) (by decide)
      refine tz_bd (tz_X6_depthAt hT k_h0 (tq_w i6_t_31 (by decide) (by decide))) (fun t_32 i_t_32 => ?_)
      exact K_39 t_32
  refine tz_if _ (fun c2612 => ?_) (fun c2612 => ?_)
  ·
    have i7_x2 : tq_iv (-998) 0 x2 := tq_cut i_x2 (tq_leL c2612 i_x2 tk_0) (by decide) (by decide)
    exact K_16 (0 : Int32)
  ·
    have i8_x2 : tq_iv 1 998 x2 := tq_cut i_x2 (tq_ltR (tq_nle c2612) tk_0 i_x2) (by decide) (by decide)
    refine tz_let (fun t_8 e2611 => ?_)
    have i9_t_8 : tq_iv 0 997 t_8 := tq_w (tq_sub e2611 i8_x2 tk_1 (by decide) (by decide)) (by decide) (by decide)
    refine tz_bd (tz_X6_depthAt hT k_h0 (tq_w i9_t_8 (by decide) (by decide))) (fun t_9 i_t_9 => ?_)
    exact K_16 t_9
set_option maxRecDepth 4000 in
theorem tz_X0_truth {p : tz_P} {σ : ez_H} {x0 : Int32} (hT : tp p σ) (i_x0 : tq_iv 0 1 x0) : tz_O (fun z => tq_iv 0 1 z ∧ (¬ z = 0 → tq_iv 1 1 x0)) (z_X0_truth σ x0) := by
  unfold z_X0_truth
  have K_9 : ∀ (y0_9 : Int32), tq_iv 0 1 y0_9 → (¬ y0_9 = 0 → tq_iv 1 1 x0) → tz_O (fun (z : Int32) => tq_iv 0 1 z ∧ (¬ z = 0 → tq_iv 1 1 x0)) (z_X0_truth_9 σ y0_9) := by
    intro y0_9 i_y0_9 g9_y0_9_x0
    unfold z_X0_truth_9
    exact tz_some ⟨i_y0_9, (fun h => tq_w (g9_y0_9_x0 h) (by decide) (by decide))⟩
  refine tz_if _ (fun c2617 => ?_) (fun c2617 => ?_)
  ·
    have i1_x0 : tq_iv 0 0 x0 := tq_cut i_x0 (tq_eqL c2617 tk_0) (by decide) (by decide)
    exact K_9 (0 : Int32) (tq_w tk_0 (by decide) (by decide)) (fun h => absurd rfl h)
  ·
    have i2_x0 : tq_iv 1 1 x0 := tq_w (tq_neLo c2617 i_x0 tk_0) (by decide) (by decide)
    exact K_9 (1 : Int32) (tq_w tk_1 (by decide) (by decide)) (fun _ => i2_x0)
set_option maxRecDepth 4000 in
theorem tz_X0_joined {p : tz_P} {σ : ez_H} {x0 : Int32} {x1 : Int32} {x2 : Int32} (hT : tp p σ) (i_x0 : tq_iv 6 2147483647 x0) : tz_O (fun z => tq_iv (-2147483648) 2147483647 z) (z_X0_joined σ x0 x1 x2) := by
  unfold z_X0_joined
  refine tz_if _ (fun c2677 => ?_) (fun c2677 => ?_)
  ·
    have i1_x0 : tq_iv 6 6 x0 := tq_cut i_x0 (tq_eqL c2677 tk_6) (by decide) (by decide)
    have K_69 : ∀ (y0_69 : Int32), tq_iv 0 1 y0_69 → tz_O (fun (z : Int32) => tq_iv (-2147483648) 2147483647 z) (z_X0_joined_69 σ y0_69) := by
      intro y0_69 i_y0_69
      unfold z_X0_joined_69
      refine tz_bd (tz_X0_truth hT i_y0_69) (fun t_69 ⟨i_t_69, g_t_69⟩ => ?_)
      exact tz_some (tq_top t_69)
    have K_64 : tz_O (fun (z : Int32) => tq_iv (-2147483648) 2147483647 z) (z_X0_joined_64 σ) := by
      unfold z_X0_joined_64
      exact K_69 (1 : Int32) (tq_w tk_1 (by decide) (by decide))
    refine tz_if _ (fun c2636 => ?_) (fun c2636 => ?_)
    ·
      have i2_x1 : tq_iv 0 0 x1 := tq_cut (tq_top x1) (tq_eqL c2636 tk_0) (by decide) (by decide)
      refine tz_if _ (fun c2634 => ?_) (fun c2634 => ?_)
      ·
        have i3_x2 : tq_iv 0 0 x2 := tq_cut (tq_top x2) (tq_eqL c2634 tk_0) (by decide) (by decide)
        exact K_69 (0 : Int32) (tq_w tk_0 (by decide) (by decide))
      ·
        exact K_64 
    ·
      exact K_64 
  ·
    have i4_x0 : tq_iv 7 2147483647 x0 := tq_w (tq_neLo c2677 i_x0 tk_6) (by decide) (by decide)
    refine tz_if _ (fun c2676 => ?_) (fun c2676 => ?_)
    ·
      have i5_x0 : tq_iv 7 7 x0 := tq_cut i4_x0 (tq_eqL c2676 tk_7) (by decide) (by decide)
      have K_86 : ∀ (y0_86 : Int32), tq_iv 0 1 y0_86 → tz_O (fun (z : Int32) => tq_iv (-2147483648) 2147483647 z) (z_X0_joined_86 σ y0_86) := by
        intro y0_86 i_y0_86
        unfold z_X0_joined_86
        refine tz_bd (tz_X0_truth hT i_y0_86) (fun t_86 ⟨i_t_86, g_t_86⟩ => ?_)
        exact tz_some (tq_top t_86)
      have K_85 : tz_O (fun (z : Int32) => tq_iv (-2147483648) 2147483647 z) (z_X0_joined_85 σ) := by
        unfold z_X0_joined_85
        exact K_86 (0 : Int32) (tq_w tk_0 (by decide) (by decide))
      refine tz_if _ (fun c2641 => ?_) (fun c2641 => ?_)
      ·
        have i6_x1 : tq_iv 0 0 x1 := tq_cut (tq_top x1) (tq_eqL c2641 tk_0) (by decide) (by decide)
        exact K_85 
      ·
        refine tz_if _ (fun c2640 => ?_) (fun c2640 => ?_)
        ·
          have i7_x2 : tq_iv 0 0 x2 := tq_cut (tq_top x2) (tq_eqL c2640 tk_0) (by decide) (by decide)
          exact K_85 
        ·
          exact K_86 (1 : Int32) (tq_w tk_1 (by decide) (by decide))
    ·
      have i8_x0 : tq_iv 8 2147483647 x0 := tq_w (tq_neLo c2676 i4_x0 tk_7) (by decide) (by decide)
      refine tz_if _ (fun c2675 => ?_) (fun c2675 => ?_)
      ·
        have i9_x0 : tq_iv 8 8 x0 := tq_cut i8_x0 (tq_eqL c2675 tk_8) (by decide) (by decide)
        have K_100 : ∀ (y0_100 : Int32), tq_iv 0 1 y0_100 → (¬ y0_100 = 0 → tq_iv (-2147483648) 2147483646 x1) → (¬ y0_100 = 0 → tq_iv (-2147483647) 2147483647 x2) → tz_O (fun (z : Int32) => tq_iv (-2147483648) 2147483647 z) (z_X0_joined_100 σ y0_100) := by
          intro y0_100 i_y0_100 g100_y0_100_x1 g100_y0_100_x2
          unfold z_X0_joined_100
          refine tz_bd (tz_X0_truth hT i_y0_100) (fun t_100 ⟨i_t_100, g_t_100⟩ => ?_)
          exact tz_some (tq_top t_100)
        refine tz_if _ (fun c2644 => ?_) (fun c2644 => ?_)
        ·
          exact K_100 (0 : Int32) (tq_w tk_0 (by decide) (by decide)) (fun h => absurd rfl h) (fun h => absurd rfl h)
        ·
          have i10_x1 : tq_iv (-2147483648) 2147483646 x1 := tq_cut (tq_top x1) (tq_ltL (tq_nle c2644) (tq_top x1) (tq_top x2)) (by decide) (by decide)
          have i11_x2 : tq_iv (-2147483647) 2147483647 x2 := tq_cut (tq_top x2) (tq_ltR (tq_nle c2644) (tq_top x1) (tq_top x2)) (by decide) (by decide)
          exact K_100 (1 : Int32) (tq_w tk_1 (by decide) (by decide)) (fun _ => i10_x1) (fun _ => i11_x2)
      ·
        have i12_x0 : tq_iv 9 2147483647 x0 := tq_w (tq_neLo c2675 i8_x0 tk_8) (by decide) (by decide)
        refine tz_if _ (fun c2674 => ?_) (fun c2674 => ?_)
        ·
          have i13_x0 : tq_iv 9 9 x0 := tq_cut i12_x0 (tq_eqL c2674 tk_9) (by decide) (by decide)
          have K_114 : ∀ (y0_114 : Int32), tq_iv 0 1 y0_114 → (¬ y0_114 = 0 → tq_iv (-2147483647) 2147483647 x1) → (¬ y0_114 = 0 → tq_iv (-2147483648) 2147483646 x2) → tz_O (fun (z : Int32) => tq_iv (-2147483648) 2147483647 z) (z_X0_joined_114 σ y0_114) := by
            intro y0_114 i_y0_114 g114_y0_114_x1 g114_y0_114_x2
            unfold z_X0_joined_114
            refine tz_bd (tz_X0_truth hT i_y0_114) (fun t_114 ⟨i_t_114, g_t_114⟩ => ?_)
            exact tz_some (tq_top t_114)
          refine tz_if _ (fun c2647 => ?_) (fun c2647 => ?_)
          ·
            exact K_114 (0 : Int32) (tq_w tk_0 (by decide) (by decide)) (fun h => absurd rfl h) (fun h => absurd rfl h)
          ·
            have i14_x2 : tq_iv (-2147483648) 2147483646 x2 := tq_cut (tq_top x2) (tq_ltL (tq_nle c2647) (tq_top x2) (tq_top x1)) (by decide) (by decide)
            have i15_x1 : tq_iv (-2147483647) 2147483647 x1 := tq_cut (tq_top x1) (tq_ltR (tq_nle c2647) (tq_top x2) (tq_top x1)) (by decide) (by decide)
            exact K_114 (1 : Int32) (tq_w tk_1 (by decide) (by decide)) (fun _ => i15_x1) (fun _ => i14_x2)
        ·
          have i16_x0 : tq_iv 10 2147483647 x0 := tq_w (tq_neLo c2674 i12_x0 tk_9) (by decide) (by decide)
          refine tz_if _ (fun c2673 => ?_) (fun c2673 => ?_)
          ·
            have i17_x0 : tq_iv 10 10 x0 := tq_cut i16_x0 (tq_eqL c2673 tk_10) (by decide) (by decide)
            have K_128 : ∀ (y0_128 : Int32), tq_iv 0 1 y0_128 → tz_O (fun (z : Int32) => tq_iv (-2147483648) 2147483647 z) (z_X0_joined_128 σ y0_128) := by
              intro y0_128 i_y0_128
              unfold z_X0_joined_128
              refine tz_bd (tz_X0_truth hT i_y0_128) (fun t_128 ⟨i_t_128, g_t_128⟩ => ?_)
              exact tz_some (tq_top t_128)
            refine tz_if _ (fun c2650 => ?_) (fun c2650 => ?_)
            ·
              exact K_128 (1 : Int32) (tq_w tk_1 (by decide) (by decide))
            ·
              exact K_128 (0 : Int32) (tq_w tk_0 (by decide) (by decide))
          ·
            have i18_x0 : tq_iv 11 2147483647 x0 := tq_w (tq_neLo c2673 i16_x0 tk_10) (by decide) (by decide)
            refine tz_if _ (fun c2672 => ?_) (fun c2672 => ?_)
            ·
              have i19_x0 : tq_iv 11 11 x0 := tq_cut i18_x0 (tq_eqL c2672 tk_11) (by decide) (by decide)
              refine tz_let (fun t_134 e2652 => ?_)
              exact tz_some (tq_top t_134)
            ·
              have i20_x0 : tq_iv 12 2147483647 x0 := tq_w (tq_neLo c2672 i18_x0 tk_11) (by decide) (by decide)
              refine tz_if _ (fun c2671 => ?_) (fun c2671 => ?_)
              ·
                have i21_x0 : tq_iv 12 12 x0 := tq_cut i20_x0 (tq_eqL c2671 tk_12) (by decide) (by decide)
                refine tz_let (fun t_138 e2654 => ?_)
                exact tz_some (tq_top t_138)
              ·
                have i22_x0 : tq_iv 13 2147483647 x0 := tq_w (tq_neLo c2671 i20_x0 tk_12) (by decide) (by decide)
                refine tz_if _ (fun c2670 => ?_) (fun c2670 => ?_)
                ·
                  have i23_x0 : tq_iv 13 13 x0 := tq_cut i22_x0 (tq_eqL c2670 tk_13) (by decide) (by decide)
                  refine tz_let (fun t_142 e2656 => ?_)
                  exact tz_some (tq_top t_142)
                ·
                  have i24_x0 : tq_iv 14 2147483647 x0 := tq_w (tq_neLo c2670 i22_x0 tk_13) (by decide) (by decide)
                  refine tz_if _ (fun c2669 => ?_) (fun c2669 => ?_)
                  ·
                    have i25_x0 : tq_iv 14 14 x0 := tq_cut i24_x0 (tq_eqL c2669 tk_14) (by decide) (by decide)
                    have K_155 : ∀ (y0_155 : Int32), tz_O (fun (z : Int32) => tq_iv (-2147483648) 2147483647 z) (z_X0_joined_155 σ y0_155) := by
                      intro y0_155
                      unfold z_X0_joined_155
                      exact tz_some (tq_top y0_155)
                    refine tz_if _ (fun c2661 => ?_) (fun c2661 => ?_)
                    ·
                      have i26_x2 : tq_iv 0 0 x2 := tq_cut (tq_top x2) (tq_eqL c2661 tk_0) (by decide) (by decide)
                      exact K_155 (0 : Int32)
                    ·
                      refine tz_nz c2661 ?_
                      refine tz_let (fun t_154 e2659 => ?_)
                      exact K_155 t_154
                  ·
                    have i27_x0 : tq_iv 15 2147483647 x0 := tq_w (tq_neLo c2669 i24_x0 tk_14) (by decide) (by decide)
                    refine tz_if _ (fun c2668 => ?_) (fun c2668 => ?_)
                    ·
                      have i28_x0 : tq_iv 15 15 x0 := tq_cut i27_x0 (tq_eqL c2668 tk_15) (by decide) (by decide)
                      have K_167 : ∀ (y0_167 : Int32), tz_O (fun (z : Int32) => tq_iv (-2147483648) 2147483647 z) (z_X0_joined_167 σ y0_167) := by
                        intro y0_167
                        unfold z_X0_joined_167
                        exact tz_some (tq_top y0_167)
                      refine tz_if _ (fun c2666 => ?_) (fun c2666 => ?_)
                      ·
                        have i29_x2 : tq_iv 0 0 x2 := tq_cut (tq_top x2) (tq_eqL c2666 tk_0) (by decide) (by decide)
                        exact K_167 (0 : Int32)
                      ·
                        refine tz_nz c2666 ?_
                        refine tz_let (fun t_166 e2664 => ?_)
                        exact K_167 t_166
                    ·
                      have i30_x0 : tq_iv 16 2147483647 x0 := tq_w (tq_neLo c2668 i27_x0 tk_15) (by decide) (by decide)
                      exact tz_some (tq_top (0 : Int32))
set_option maxRecDepth 4000 in
theorem tz_X0_unitValue {p : tz_P} {σ : ez_H} {x0 : Int32} {x1 : Int32} {x2 : Int32} {x3 : Int32} {x4 : Int32} {x5 : Int32} (hT : tp p σ) (i_x0 : tq_iv (-2147483648) 4 x0) (i_x5 : tq_iv (-998) 998 x5) : tz_O (fun z => tq_iv (-2147483648) 2147483647 z) (z_X0_unitValue σ x0 x1 x2 x3 x4 x5) := by
  unfold z_X0_unitValue
  refine tz_if _ (fun c2686 => ?_) (fun c2686 => ?_)
  ·
    have i1_x0 : tq_iv 1 1 x0 := tq_cut i_x0 (tq_eqL c2686 tk_1) (by decide) (by decide)
    exact tz_some (tq_top x2)
  ·
    refine tz_if _ (fun c2685 => ?_) (fun c2685 => ?_)
    ·
      have i2_x0 : tq_iv 2 2 x0 := tq_cut i_x0 (tq_eqL c2685 tk_2) (by decide) (by decide)
      exact tz_some (tq_top x3)
    ·
      refine tz_if _ (fun c2684 => ?_) (fun c2684 => ?_)
      ·
        have i3_x0 : tq_iv 3 3 x0 := tq_cut i_x0 (tq_eqL c2684 tk_3) (by decide) (by decide)
        exact tz_some (tq_top x4)
      ·
        refine tz_if _ (fun c2683 => ?_) (fun c2683 => ?_)
        ·
          have i4_x0 : tq_iv 4 4 x0 := tq_cut i_x0 (tq_eqL c2683 tk_4) (by decide) (by decide)
          exact tz_some (tq_top x5)
        ·
          have i5_x0 : tq_iv (-2147483648) 3 x0 := tq_w (tq_neHi c2683 i_x0 tk_4) (by decide) (by decide)
          exact tz_some (tq_top x1)
set_option maxRecDepth 4000 in
theorem tz_X0_value {p : tz_P} {σ : ez_H} {h0 : Nat} {x1 : Int32} {x2 : Int32} {x3 : Int32} {x4 : Int32} (hT : tp p σ) (k_h0 : tz_C h0 = some (3, 0, 0, 0)) (i_x4 : tq_iv (-998) 998 x4) : tz_O2 (fun (z : Int32) (s : ez_H) => tq_iv (-2147483648) 2147483647 z ∧ tp p s) (z_X0_value σ h0 x1 x2 x3 x4) := by
  show tz_O (fun z : Int32 × ez_H => (fun (z : Int32) (s : ez_H) => tq_iv (-2147483648) 2147483647 z ∧ tp p s) z.1 z.2) _
  unfold z_X0_value
  refine tz_bd (tz_ob hT k_h0) (fun _ _ => ?_)
  have L_6 : ∀ (n_6 : Nat) (k_6 : ez_H → Nat → Int32 → Int32 → Int32 → Int32 → Int32 → Int32 → Option (Int32 × ez_H)), (∀ (σ_6 : ez_H) (x5_6 : Int32) (x6_6 : Int32), tp p σ_6 → tq_iv 0 31 x5_6 → tq_iv 0 270 x6_6 → (2147483647 - x6_6.toInt).toNat < n_6 → tz_O (fun z : Int32 × ez_H => (fun (z : Int32) (s : ez_H) => tq_iv (-2147483648) 2147483647 z ∧ tp p s) z.1 z.2) (k_6 σ_6 h0 x1 x2 x3 x4 x5_6 x6_6)) → ∀ (σ_6 : ez_H) (x5_6 : Int32) (x6_6 : Int32), tp p σ_6 → tq_iv 0 31 x5_6 → tq_iv 0 270 x6_6 → (2147483647 - x6_6.toInt).toNat < n_6 + 1 → tz_O (fun z : Int32 × ez_H => (fun (z : Int32) (s : ez_H) => tq_iv (-2147483648) 2147483647 z ∧ tp p s) z.1 z.2) (z_X0_value_6 k_6 σ_6 h0 x1 x2 x3 x4 x5_6 x6_6) := by
    intro n_6 k_6 hk_6 σ_6 x5_6 x6_6 T_σ_6 i_x5_6 i_x6_6 hn_6
    unfold z_X0_value_6
    refine tz_be (tg_0_1 T_σ_6 k_h0) (fun t_9 e2745 i_t_9 => ?_)
    have K_173 : tz_O (fun z : Int32 × ez_H => (fun (z : Int32) (s : ez_H) => tq_iv (-2147483648) 2147483647 z ∧ tp p s) z.1 z.2) (z_X0_value_173 σ_6 h0 x5_6) := by
      unfold z_X0_value_173
      have K_191 : ∀ (y0_191 : Int32), tz_O (fun z : Int32 × ez_H => (fun (z : Int32) (s : ez_H) => tq_iv (-2147483648) 2147483647 z ∧ tp p s) z.1 z.2) (z_X0_value_191 σ_6 y0_191) := by
        intro y0_191
        unfold z_X0_value_191
        exact tz_some ⟨(tq_top y0_191), T_σ_6⟩
      refine tz_if _ (fun c2693 => ?_) (fun c2693 => ?_)
      ·
        have i1_x5_6 : tq_iv 0 0 x5_6 := tq_cut i_x5_6 (tq_leL c2693 i_x5_6 tk_0) (by decide) (by decide)
        exact K_191 (0 : Int32)
      ·
        have i2_x5_6 : tq_iv 1 31 x5_6 := tq_cut i_x5_6 (tq_ltR (tq_nle c2693) tk_0 i_x5_6) (by decide) (by decide)
        refine tz_be (tg_0_4 T_σ_6 k_h0) (fun t_179 e2692 k_t_179 => ?_)
        refine tz_let (fun t_185 e2691 => ?_)
        have i3_t_185 : tq_iv 0 30 t_185 := tq_w (tq_sub e2691 i2_x5_6 tk_1 (by decide) (by decide)) (by decide) (by decide)
        refine tz_be (tz_ia T_σ_6 k_t_179 (te_0 (p := p)) i3_t_185 (by decide) (by decide)) (fun t_186 e2690 i_t_186 => ?_)
        exact K_191 t_186
    refine tz_if _ (fun c2744 => ?_) (fun c2744 => ?_)
    ·
      have i4_t_9 : tq_iv (-2147483648) 270 t_9 := tq_cut (tq_top t_9) (tq_leL c2744 (tq_top t_9) i_x6_6) (by decide) (by decide)
      exact K_173 
    ·
      have i5_t_9 : tq_iv 1 2147483647 t_9 := tq_cut (tq_top t_9) (tq_ltR (tq_nle c2744) i_x6_6 (tq_top t_9)) (by decide) (by decide)
      refine tz_if _ (fun c2743 => ?_) (fun c2743 => ?_)
      ·
        have i6_x6_6 : tq_iv 270 270 x6_6 := tq_cut i_x6_6 (tq_leR c2743 tk_270 i_x6_6) (by decide) (by decide)
        exact K_173 
      ·
        have i7_x6_6 : tq_iv 0 269 x6_6 := tq_cut i_x6_6 (tq_ltL (tq_nle c2743) i_x6_6 tk_270) (by decide) (by decide)
        refine tz_be (tg_0_2 T_σ_6 k_h0) (fun t_24 e2742 k_t_24 => ?_)
        refine tz_be (tz_ia T_σ_6 k_t_24 (te_0 (p := p)) i7_x6_6 (by decide) (by decide)) (fun t_29 e2741 i_t_29 => ?_)
        have K_167 : ∀ (σ_167 : ez_H) (x5_167 : Int32), tp p σ_167 → tq_iv 0 31 x5_167 → tz_O (fun z : Int32 × ez_H => (fun (z : Int32) (s : ez_H) => tq_iv (-2147483648) 2147483647 z ∧ tp p s) z.1 z.2) (z_X0_value_167 k_6 σ_167 h0 x1 x2 x3 x4 x5_167 x6_6) := by
          intro σ_167 x5_167 T_σ_167 i_x5_167
          unfold z_X0_value_167
          refine tz_let (fun t_167 e2695 => ?_)
          have i8_t_167 : tq_iv 1 270 t_167 := tq_w (tq_add e2695 i7_x6_6 tk_1 (by decide) (by decide)) (by decide) (by decide)
          exact hk_6 σ_167 x5_167 t_167 T_σ_167 i_x5_167 (tq_w i8_t_167 (by decide) (by decide)) (tq_up e2695 i7_x6_6 tk_1 (by decide) (by decide) hn_6)
        have K_80 : tz_O (fun z : Int32 × ez_H => (fun (z : Int32) (s : ez_H) => tq_iv (-2147483648) 2147483647 z ∧ tp p s) z.1 z.2) (z_X0_value_80 k_6 σ_6 h0 x1 x2 x3 x4 x5_6 x6_6 t_29) := by
          unfold z_X0_value_80
          have K_124 : tz_O (fun z : Int32 × ez_H => (fun (z : Int32) (s : ez_H) => tq_iv (-2147483648) 2147483647 z ∧ tp p s) z.1 z.2) (z_X0_value_124 k_6 σ_6 h0 x1 x2 x3 x4 x5_6 x6_6 t_29) := by
            unfold z_X0_value_124
            refine tz_if _ (fun c2708 => ?_) (fun c2708 => ?_)
            ·
              have i9_t_29 : tq_iv 5 2147483647 t_29 := tq_cut (tq_top t_29) (tq_leR c2708 tk_5 (tq_top t_29)) (by decide) (by decide)
              exact K_167 σ_6 x5_6 T_σ_6 i_x5_6
            ·
              have i10_t_29 : tq_iv (-2147483648) 4 t_29 := tq_cut (tq_top t_29) (tq_ltL (tq_nle c2708) (tq_top t_29) tk_5) (by decide) (by decide)
              refine tz_be (tg_0_4 T_σ_6 k_h0) (fun t_133 e2707 k_t_133 => ?_)
              refine tz_be (tz_ln T_σ_6 k_t_133) (fun t_136 e2706 i_t_136 => ?_)
              refine tz_if _ (fun c2705 => ?_) (fun c2705 => ?_)
              ·
                have i11_x5_6 : tq_iv 31 31 x5_6 := tq_cut i_x5_6 (tq_leR c2705 i_t_136 i_x5_6) (by decide) (by decide)
                exact K_167 σ_6 x5_6 T_σ_6 (tq_w i11_x5_6 (by decide) (by decide))
              ·
                have i12_x5_6 : tq_iv 0 30 x5_6 := tq_cut i_x5_6 (tq_ltL (tq_nle c2705) i_x5_6 i_t_136) (by decide) (by decide)
                refine tz_bk e2707 ?_
                refine tz_be (tg_0_3 T_σ_6 k_h0) (fun t_149 e2703 k_t_149 => ?_)
                refine tz_be (tz_ia T_σ_6 k_t_149 (te_0 (p := p)) i7_x6_6 (by decide) (by decide)) (fun t_154 e2702 i_t_154 => ?_)
                refine tz_bd (tz_X0_unitValue T_σ_6 i10_t_29 i_x4) (fun t_160 i_t_160 => ?_)
                refine tz_be (tz_is T_σ_6 k_t_133 (te_0 (p := p)) i12_x5_6 (by decide) (by decide) (tq_top t_160)) (fun σ2700 e2700 T2700 => ?_)
                refine tz_let (fun t_164 e2699 => ?_)
                have i13_t_164 : tq_iv 1 31 t_164 := tq_w (tq_add e2699 i12_x5_6 tk_1 (by decide) (by decide)) (by decide) (by decide)
                exact K_167 σ2700 t_164 T2700 (tq_w i13_t_164 (by decide) (by decide))
          refine tz_if _ (fun c2723 => ?_) (fun c2723 => ?_)
          ·
            have i14_t_29 : tq_iv 5 5 t_29 := tq_cut (tq_top t_29) (tq_eqL c2723 tk_5) (by decide) (by decide)
            refine tz_if _ (fun c2721 => ?_) (fun c2721 => ?_)
            ·
              have i15_x5_6 : tq_iv 0 0 x5_6 := tq_cut i_x5_6 (tq_ltL c2721 i_x5_6 tk_1) (by decide) (by decide)
              exact K_124 
            ·
              have i16_x5_6 : tq_iv 1 31 x5_6 := tq_cut i_x5_6 (tq_leR (tq_nlt c2721) tk_1 i_x5_6) (by decide) (by decide)
              refine tz_be (tg_0_4 T_σ_6 k_h0) (fun t_93 e2720 k_t_93 => ?_)
              refine tz_let (fun t_99 e2719 => ?_)
              have i17_t_99 : tq_iv 0 30 t_99 := tq_w (tq_sub e2719 i16_x5_6 tk_1 (by decide) (by decide)) (by decide) (by decide)
              refine tz_bk e2720 ?_
              refine tz_let (fun t_107 e2717 => ?_)
              have i18_t_107 : tq_iv 0 30 t_107 := tq_w (tq_sub e2717 i16_x5_6 tk_1 (by decide) (by decide)) (by decide) (by decide)
              refine tz_be (tz_ia T_σ_6 k_t_93 (te_0 (p := p)) i18_t_107 (by decide) (by decide)) (fun t_108 e2716 i_t_108 => ?_)
              have K_117 : ∀ (y2_117 : Int32), tq_iv 0 1 y2_117 → (¬ y2_117 = 0 → tq_iv 0 0 t_108) → tz_O (fun z : Int32 × ez_H => (fun (z : Int32) (s : ez_H) => tq_iv (-2147483648) 2147483647 z ∧ tp p s) z.1 z.2) (z_X0_value_117 k_6 σ_6 h0 x1 x2 x3 x4 x5_6 x6_6 t_93 t_99 y2_117) := by
                intro y2_117 i_y2_117 g117_y2_117_t_108
                unfold z_X0_value_117
                refine tz_bd (tz_X0_truth T_σ_6 i_y2_117) (fun t_117 ⟨i_t_117, g_t_117⟩ => ?_)
                refine tz_be (tz_is T_σ_6 k_t_93 (te_0 (p := p)) i17_t_99 (by decide) (by decide) (tq_top t_117)) (fun σ2710 e2710 T2710 => ?_)
                exact K_167 σ2710 x5_6 T2710 (tq_w i16_x5_6 (by decide) (by decide))
              refine tz_if _ (fun c2715 => ?_) (fun c2715 => ?_)
              ·
                have i19_t_108 : tq_iv 0 0 t_108 := tq_cut (tq_top t_108) (tq_eqL c2715 tk_0) (by decide) (by decide)
                exact K_117 (1 : Int32) (tq_w tk_1 (by decide) (by decide)) (fun _ => i19_t_108)
              ·
                exact K_117 (0 : Int32) (tq_w tk_0 (by decide) (by decide)) (fun h => absurd rfl h)
          ·
            exact K_124 
        refine tz_if _ (fun c2740 => ?_) (fun c2740 => ?_)
        ·
          have i20_t_29 : tq_iv (-2147483648) 5 t_29 := tq_cut (tq_top t_29) (tq_leL c2740 (tq_top t_29) tk_5) (by decide) (by decide)
          exact K_80 
        ·
          have i21_t_29 : tq_iv 6 2147483647 t_29 := tq_cut (tq_top t_29) (tq_ltR (tq_nle c2740) tk_5 (tq_top t_29)) (by decide) (by decide)
          refine tz_if _ (fun c2739 => ?_) (fun c2739 => ?_)
          ·
            have i22_x5_6 : tq_iv 0 1 x5_6 := tq_cut i_x5_6 (tq_ltL c2739 i_x5_6 tk_2) (by decide) (by decide)
            exact K_80 
          ·
            have i23_x5_6 : tq_iv 2 31 x5_6 := tq_cut i_x5_6 (tq_leR (tq_nlt c2739) tk_2 i_x5_6) (by decide) (by decide)
            refine tz_let (fun t_44 e2738 => ?_)
            have i24_t_44 : tq_iv 1 30 t_44 := tq_w (tq_add e2738 i23_x5_6 tk_m1 (by decide) (by decide)) (by decide) (by decide)
            refine tz_be (tg_0_4 T_σ_6 k_h0) (fun t_48 e2737 k_t_48 => ?_)
            refine tz_let (fun t_54 e2736 => ?_)
            have i25_t_54 : tq_iv 0 29 t_54 := tq_w (tq_sub e2736 i24_t_44 tk_1 (by decide) (by decide)) (by decide) (by decide)
            refine tz_bk e2737 ?_
            refine tz_let (fun t_64 e2734 => ?_)
            have i26_t_64 : tq_iv 0 29 t_64 := tq_w (tq_sub e2734 i24_t_44 tk_1 (by decide) (by decide)) (by decide) (by decide)
            refine tz_be (tz_ia T_σ_6 k_t_48 (te_0 (p := p)) i26_t_64 (by decide) (by decide)) (fun t_65 e2733 i_t_65 => ?_)
            refine tz_bk e2737 ?_
            refine tz_be (tz_ia T_σ_6 k_t_48 (te_0 (p := p)) i24_t_44 (by decide) (by decide)) (fun t_72 e2731 i_t_72 => ?_)
            refine tz_bd (tz_X0_joined T_σ_6 i21_t_29) (fun t_73 i_t_73 => ?_)
            refine tz_be (tz_is T_σ_6 k_t_48 (te_0 (p := p)) i25_t_54 (by decide) (by decide) (tq_top t_73)) (fun σ2729 e2729 T2729 => ?_)
            exact K_167 σ2729 t_44 T2729 (tq_w i24_t_44 (by decide) (by decide))
  have E_6 : ∀ (σ_6 : ez_H) (x5_6 : Int32) (x6_6 : Int32), tp p σ_6 → tq_iv 0 31 x5_6 → tq_iv 0 270 x6_6 → tz_O (fun z : Int32 × ez_H => (fun (z : Int32) (s : ez_H) => tq_iv (-2147483648) 2147483647 z ∧ tp p s) z.1 z.2) (ez_fix (fun _ _ _ _ _ _ _ _ => none) (z_X0_value_6) ez_N σ_6 h0 x1 x2 x3 x4 x5_6 x6_6) := by
    intro σ_6 x5_6 x6_6 T_σ_6 i_x5_6 i_x6_6
    exact ez_fix_indn (fun n_6 (k_6 : ez_H → Nat → Int32 → Int32 → Int32 → Int32 → Int32 → Int32 → Option (Int32 × ez_H)) => ∀ (σ_6 : ez_H) (x5_6 : Int32) (x6_6 : Int32), tp p σ_6 → tq_iv 0 31 x5_6 → tq_iv 0 270 x6_6 → (2147483647 - x6_6.toInt).toNat < n_6 → tz_O (fun z : Int32 × ez_H => (fun (z : Int32) (s : ez_H) => tq_iv (-2147483648) 2147483647 z ∧ tp p s) z.1 z.2) (k_6 σ_6 h0 x1 x2 x3 x4 x5_6 x6_6)) (by intros; rename_i h; exact absurd h (Nat.not_lt_zero _)) L_6 ez_N σ_6 x5_6 x6_6 T_σ_6 i_x5_6 i_x6_6 (tq_m0 x6_6)
  exact E_6 σ (0 : Int32) (0 : Int32) hT (tq_w tk_0 (by decide) (by decide)) (tq_w tk_0 (by decide) (by decide))
set_option maxRecDepth 4000 in
theorem tz_X7_putUsed {p : tz_P} {σ : ez_H} {h0 : Nat} {x1 : Int32} {x2 : Int32} (hT : tp p σ) (k_h0 : tz_C h0 = some (3, 7, 0, 0)) : tz_O2 (fun (z : Unit) (s : ez_H) => tp p s) (z_X7_putUsed σ h0 x1 x2) := by
  show tz_O (fun z : Unit × ez_H => (fun (z : Unit) (s : ez_H) => tp p s) z.1 z.2) _
  unfold z_X7_putUsed
  refine tz_bd (tz_ob hT k_h0) (fun _ _ => ?_)
  refine tz_let (fun t_4 e2750 => ?_)
  refine tz_b2 (tz_X7_put hT k_h0) (fun _ σ2749 ⟨T2749, W2749⟩ => ?_)
  exact tz_some T2749
set_option maxRecDepth 4000 in
theorem tz_X11_useOnce {p : tz_P} {σ : ez_H} {h0 : Nat} {h1 : Nat} {x2 : Int32} (hT : tp p σ) (k_h0 : tz_C h0 = some (3, 11, 0, 0)) (k_h1 : tz_C h1 = some (3, 7, 0, 0)) : tz_O2 (fun (z : Unit) (s : ez_H) => tp p s) (z_X11_useOnce σ h0 h1 x2) := by
  show tz_O (fun z : Unit × ez_H => (fun (z : Unit) (s : ez_H) => tp p s) z.1 z.2) _
  unfold z_X11_useOnce
  refine tz_bd (tz_ob hT k_h0) (fun _ _ => ?_)
  refine tz_bd (tz_X7_seed hT k_h1) (fun t_1 i_t_1 => ?_)
  refine tz_let (fun t_7 e2784 => ?_)
  refine tz_let (fun t_10 e2783 => ?_)
  refine tz_nz (tq_nz tk_1000 (by decide)) ?_
  refine tz_let (fun t_14 e2781 => ?_)
  have i1_t_14 : tq_iv (-999) 999 t_14 := tq_remS e2781 tk_1000 (by decide)
  refine tz_b2 (tz_X7_putSeed hT k_h1 i1_t_14) (fun _ σ2780 T2780 => ?_)
  refine tz_bd (tz_X7_bits T2780 k_h1) (fun t_23 i_t_23 => ?_)
  refine tz_be (tg_11_4 T2780 k_h0) (fun t_31 e2778 k_t_31 => ?_)
  refine tz_be (tg_6_0 T2780 k_t_31) (fun t_34 e2777 i_t_34 => ?_)
  refine tz_let (fun t_37 e2776 => ?_)
  have i2_t_37 : tq_iv 1 999 t_37 := tq_w (tq_max e2776 tk_1 i_t_34) (by decide) (by decide)
  refine tz_nz (tq_nz i2_t_37 (by decide)) ?_
  refine tz_let (fun t_40 e2774 => ?_)
  have i3_t_40 : tq_iv (-998) 998 t_40 := tq_remS e2774 i2_t_37 (by decide)
  refine tz_be (tg_11_3 T2780 k_h0) (fun t_44 e2773 k_t_44 => ?_)
  refine tz_be (tg_3_1 T2780 k_t_44) (fun t_47 e2772 k_t_47 => ?_)
  refine tz_bk e2778 ?_
  refine tz_bd (tz_X6_depthAt T2780 k_t_31 i3_t_40) (fun t_58 i_t_58 => ?_)
  refine tz_bk e2778 ?_
  refine tz_bd (tz_X6_besideOf T2780 k_t_31 i3_t_40) (fun t_69 i_t_69 => ?_)
  refine tz_bd (tz_X7_used T2780 k_h1) (fun t_74 i_t_74 => ?_)
  refine tz_b2 (tz_X0_value T2780 k_t_47 i3_t_40) (fun t_79 σ2766 ⟨i_t_79, T2766⟩ => ?_)
  refine tz_nz (tq_nz tk_10 (by decide)) ?_
  refine tz_let (fun t_87 e2764 => ?_)
  have K_118 : ∀ (σ_118 : ez_H), tp p σ_118 → tz_O (fun z : Unit × ez_H => (fun (z : Unit) (s : ez_H) => tp p s) z.1 z.2) (z_X11_useOnce_118 σ_118 h1 x2) := by
    intro σ_118 T_σ_118
    unfold z_X11_useOnce_118
    refine tz_bd (tz_X7_used T_σ_118 k_h1) (fun t_122 i_t_122 => ?_)
    refine tz_let (fun t_126 e2754 => ?_)
    refine tz_b2 (tz_X7_putUsed T_σ_118 k_h1) (fun _ σ2753 T2753 => ?_)
    exact tz_some T2753
  refine tz_if _ (fun c2763 => ?_) (fun c2763 => ?_)
  ·
    exact K_118 σ2766 T2766
  ·
    have i4_t_87 : tq_iv (-2147483648) 2147483646 t_87 := tq_cut (tq_top t_87) (tq_ltL (tq_nle c2763) (tq_top t_87) (tq_top t_79)) (by decide) (by decide)
    have i5_t_79 : tq_iv (-2147483647) 2147483647 t_79 := tq_cut (tq_top t_79) (tq_ltR (tq_nle c2763) (tq_top t_87) (tq_top t_79)) (by decide) (by decide)
    refine tz_be (tg_11_4 T2766 k_h0) (fun t_94 e2762 k_t_94 => ?_)
    refine tz_bd (tz_X6_deeper T2766 k_t_94 i3_t_40) (fun t_101 i_t_101 => ?_)
    refine tz_if _ (fun c2760 => ?_) (fun c2760 => ?_)
    ·
      have i6_t_101 : tq_iv 0 0 t_101 := tq_cut (tq_top t_101) (tq_eqL c2760 tk_0) (by decide) (by decide)
      exact K_118 σ2766 T2766
    ·
      refine tz_b2 (tz_X7_putBits T2766 k_h1) (fun _ σ2759 ⟨T2759, W2759⟩ => ?_)
      exact K_118 σ2759 T2759
set_option maxRecDepth 4000 in
theorem tz_X11_lasts {p : tz_P} {σ : ez_H} {h0 : Nat} {x1 : Int32} {x2 : Int32} (hT : tp p σ) (k_h0 : tz_C h0 = some (3, 11, 0, 0)) : tz_O2 (fun (z : Int32) (s : ez_H) => tq_iv (-1) 200 z ∧ tp p s) (z_X11_lasts σ h0 x1 x2) := by
  show tz_O (fun z : Int32 × ez_H => (fun (z : Int32) (s : ez_H) => tq_iv (-1) 200 z ∧ tp p s) z.1 z.2) _
  unfold z_X11_lasts
  refine tz_bd (tz_ob hT k_h0) (fun _ _ => ?_)
  refine tz_be (tg_11_3 hT k_h0) (fun t_1 e2812 k_t_1 => ?_)
  refine tz_bd (tz_X3_hasKey hT k_t_1) (fun t_5 ⟨i_t_5, g_t_5⟩ => ?_)
  have K_22 : tz_O (fun z : Int32 × ez_H => (fun (z : Int32) (s : ez_H) => tq_iv (-1) 200 z ∧ tp p s) z.1 z.2) (z_X11_lasts_22 σ) := by
    unfold z_X11_lasts_22
    exact tz_some ⟨(tq_w tk_m1 (by decide) (by decide)), hT⟩
  refine tz_if _ (fun c2810 => ?_) (fun c2810 => ?_)
  ·
    have i1_t_5 : tq_iv 0 0 t_5 := tq_cut i_t_5 (tq_eqL c2810 tk_0) (by decide) (by decide)
    exact K_22 
  ·
    have i2_x1 : tq_iv 0 7 x1 := tq_cut (tq_top x1) (g_t_5 c2810) (by decide) (by decide)
    have i3_t_5 : tq_iv 1 1 t_5 := tq_w (tq_neLo c2810 i_t_5 tk_0) (by decide) (by decide)
    refine tz_bk e2812 ?_
    refine tz_bd (tz_X3_hasLock hT k_t_1) (fun t_16 ⟨i_t_16, g_t_16⟩ => ?_)
    refine tz_if _ (fun c2807 => ?_) (fun c2807 => ?_)
    ·
      have i4_t_16 : tq_iv 0 0 t_16 := tq_cut i_t_16 (tq_eqL c2807 tk_0) (by decide) (by decide)
      exact K_22 
    ·
      have i5_x2 : tq_iv 0 2147483646 x2 := tq_cut (tq_top x2) (g_t_16 c2807) (by decide) (by decide)
      have i6_t_16 : tq_iv 1 1 t_16 := tq_w (tq_neLo c2807 i_t_16 tk_0) (by decide) (by decide)
      refine tz_be (tg_11_6 hT k_h0) (fun t_25 e2806 k_t_25 => ?_)
      refine tz_be (tg_11_5 hT k_h0) (fun t_29 e2805 k_t_29 => ?_)
      refine tz_b2 (tz_X7_copyFrom hT k_t_25 k_t_29) (fun _ σ2804 T2804 => ?_)
      have L_37 : ∀ (n_37 : Nat) (k_37 : ez_H → Nat → Int32 → Int32 → Int32 → Option (Int32 × ez_H)), (∀ (σ_37 : ez_H) (x3_37 : Int32), tp p σ_37 → tq_iv 0 201 x3_37 → (2147483647 - x3_37.toInt).toNat < n_37 → tz_O (fun z : Int32 × ez_H => (fun (z : Int32) (s : ez_H) => tq_iv (-1) 200 z ∧ tp p s) z.1 z.2) (k_37 σ_37 h0 x1 x2 x3_37)) → ∀ (σ_37 : ez_H) (x3_37 : Int32), tp p σ_37 → tq_iv 0 201 x3_37 → (2147483647 - x3_37.toInt).toNat < n_37 + 1 → tz_O (fun z : Int32 × ez_H => (fun (z : Int32) (s : ez_H) => tq_iv (-1) 200 z ∧ tp p s) z.1 z.2) (z_X11_lasts_37 k_37 σ_37 h0 x1 x2 x3_37) := by
        intro n_37 k_37 hk_37 σ_37 x3_37 T_σ_37 i_x3_37 hn_37
        unfold z_X11_lasts_37
        refine tz_if _ (fun c2800 => ?_) (fun c2800 => ?_)
        ·
          have i7_x3_37 : tq_iv 201 201 x3_37 := tq_cut i_x3_37 (tq_ltR c2800 tk_200 i_x3_37) (by decide) (by decide)
          exact tz_some ⟨(tq_w tk_m1 (by decide) (by decide)), T_σ_37⟩
        ·
          have i8_x3_37 : tq_iv 0 200 x3_37 := tq_cut i_x3_37 (tq_leL (tq_nlt c2800) i_x3_37 tk_200) (by decide) (by decide)
          refine tz_be (tg_11_6 T_σ_37 k_h0) (fun t_45 e2799 k_t_45 => ?_)
          refine tz_bd (tz_X7_bits T_σ_37 k_t_45) (fun t_49 i_t_49 => ?_)
          refine tz_bk e2799 ?_
          refine tz_bd (tz_X7_pins T_σ_37 k_t_45) (fun t_57 i_t_57 => ?_)
          refine tz_bd (tz_X6_fitsIn T_σ_37) (fun t_60 i_t_60 => ?_)
          refine tz_if _ (fun c2794 => ?_) (fun c2794 => ?_)
          ·
            have i9_t_60 : tq_iv 0 0 t_60 := tq_cut i_t_60 (tq_eqL c2794 tk_0) (by decide) (by decide)
            exact tz_some ⟨(tq_w i8_x3_37 (by decide) (by decide)), T_σ_37⟩
          ·
            have i10_t_60 : tq_iv 1 1 t_60 := tq_w (tq_neLo c2794 i_t_60 tk_0) (by decide) (by decide)
            refine tz_bk e2799 ?_
            refine tz_b2 (tz_X11_useOnce T_σ_37 k_h0 k_t_45) (fun _ σ2792 T2792 => ?_)
            refine tz_let (fun t_77 e2791 => ?_)
            have i11_t_77 : tq_iv 1 201 t_77 := tq_w (tq_add e2791 i8_x3_37 tk_1 (by decide) (by decide)) (by decide) (by decide)
            exact hk_37 σ2792 t_77 T2792 (tq_w i11_t_77 (by decide) (by decide)) (tq_up e2791 i8_x3_37 tk_1 (by decide) (by decide) hn_37)
      have E_37 : ∀ (σ_37 : ez_H) (x3_37 : Int32), tp p σ_37 → tq_iv 0 201 x3_37 → tz_O (fun z : Int32 × ez_H => (fun (z : Int32) (s : ez_H) => tq_iv (-1) 200 z ∧ tp p s) z.1 z.2) (ez_fix (fun _ _ _ _ _ => none) (z_X11_lasts_37) ez_N σ_37 h0 x1 x2 x3_37) := by
        intro σ_37 x3_37 T_σ_37 i_x3_37
        exact ez_fix_indn (fun n_37 (k_37 : ez_H → Nat → Int32 → Int32 → Int32 → Option (Int32 × ez_H)) => ∀ (σ_37 : ez_H) (x3_37 : Int32), tp p σ_37 → tq_iv 0 201 x3_37 → (2147483647 - x3_37.toInt).toNat < n_37 → tz_O (fun z : Int32 × ez_H => (fun (z : Int32) (s : ez_H) => tq_iv (-1) 200 z ∧ tp p s) z.1 z.2) (k_37 σ_37 h0 x1 x2 x3_37)) (by intros; rename_i h; exact absurd h (Nat.not_lt_zero _)) L_37 ez_N σ_37 x3_37 T_σ_37 i_x3_37 (tq_m0 x3_37)
      exact E_37 σ2804 (0 : Int32) T2804 (tq_w tk_0 (by decide) (by decide))
set_option maxRecDepth 4000 in
theorem tz_X11_law {p : tz_P} {σ : ez_H} {h0 : Nat} {x1 : Int32} (hT : tp p σ) (k_h0 : tz_C h0 = some (3, 11, 0, 0)) : tz_O2 (fun (z : Int32) (s : ez_H) => tq_iv (-2147483648) 2147483647 z ∧ tp p s) (z_X11_law σ h0 x1) := by
  show tz_O (fun z : Int32 × ez_H => (fun (z : Int32) (s : ez_H) => tq_iv (-2147483648) 2147483647 z ∧ tp p s) z.1 z.2) _
  unfold z_X11_law
  refine tz_bd (tz_ob hT k_h0) (fun _ _ => ?_)
  have K_28 : ∀ (σ_28 : ez_H) (y0_28 : Int32), tp p σ_28 → tz_O (fun z : Int32 × ez_H => (fun (z : Int32) (s : ez_H) => tq_iv (-2147483648) 2147483647 z ∧ tp p s) z.1 z.2) (z_X11_law_28 σ_28 y0_28) := by
    intro σ_28 y0_28 T_σ_28
    unfold z_X11_law_28
    exact tz_some ⟨(tq_top y0_28), T_σ_28⟩
  have K_9 : tz_O (fun z : Int32 × ez_H => (fun (z : Int32) (s : ez_H) => tq_iv (-2147483648) 2147483647 z ∧ tp p s) z.1 z.2) (z_X11_law_9 σ) := by
    unfold z_X11_law_9
    exact K_28 σ (-1 : Int32) hT
  refine tz_if _ (fun c2843 => ?_) (fun c2843 => ?_)
  ·
    have i1_x1 : tq_iv (-2147483648) (-1) x1 := tq_cut (tq_top x1) (tq_ltL c2843 (tq_top x1) tk_0) (by decide) (by decide)
    exact K_9 
  ·
    have i2_x1 : tq_iv 0 2147483647 x1 := tq_cut (tq_top x1) (tq_leR (tq_nlt c2843) tk_0 (tq_top x1)) (by decide) (by decide)
    refine tz_if _ (fun c2842 => ?_) (fun c2842 => ?_)
    ·
      have i3_x1 : tq_iv 0 5 x1 := tq_cut i2_x1 (tq_leL c2842 i2_x1 tk_5) (by decide) (by decide)
      refine tz_be (tg_11_4 hT k_h0) (fun t_14 e2840 k_t_14 => ?_)
      refine tz_bk e2840 ?_
      refine tz_bd (tz_X6_everything hT k_t_14) (fun t_21 i_t_21 => ?_)
      refine tz_b2 (tz_X6_howMany hT k_t_14 (tq_w i3_x1 (by decide) (by decide))) (fun t_25 σ2837 ⟨i_t_25, T2837⟩ => ?_)
      exact K_28 σ2837 t_25 T2837
    ·
      have i4_x1 : tq_iv 6 2147483647 x1 := tq_cut i2_x1 (tq_ltR (tq_nle c2842) tk_5 i2_x1) (by decide) (by decide)
      exact K_9
set_option maxRecDepth 4000 in
theorem tz_X5_stillOpened {p : tz_P} {σ : ez_H} {h0 : Nat} {x1 : Int32} (hT : tp p σ) (k_h0 : tz_C h0 = some (3, 5, 0, 0)) (i_x1 : tq_iv 0 7 x1) : tz_O (fun z => tq_iv (-2147483648) 2147483647 z) (z_X5_stillOpened σ h0 x1) := by
  unfold z_X5_stillOpened
  refine tz_bd (tz_ob hT k_h0) (fun _ _ => ?_)
  have L_4 : ∀ (n_4 : Nat) (k_4 : Nat → Int32 → Int32 → Int32 → Option (Int32)), (∀ (x2_4 : Int32) (x3_4 : Int32), tq_iv 0 2147483647 x3_4 → (2147483647 - x3_4.toInt).toNat < n_4 → tz_O (fun (z : Int32) => tq_iv (-2147483648) 2147483647 z) (k_4 h0 x1 x2_4 x3_4)) → ∀ (x2_4 : Int32) (x3_4 : Int32), tq_iv 0 2147483647 x3_4 → (2147483647 - x3_4.toInt).toNat < n_4 + 1 → tz_O (fun (z : Int32) => tq_iv (-2147483648) 2147483647 z) (z_X5_stillOpened_4 σ k_4 h0 x1 x2_4 x3_4) := by
    intro n_4 k_4 hk_4 x2_4 x3_4 i_x3_4 hn_4
    unfold z_X5_stillOpened_4
    refine tz_be (tg_5_0 hT k_h0) (fun t_6 e2866 k_t_6 => ?_)
    refine tz_be (tg_3_4 hT k_t_6) (fun t_9 e2865 i_t_9 => ?_)
    refine tz_if _ (fun c2864 => ?_) (fun c2864 => ?_)
    ·
      exact tz_some (tq_top x2_4)
    ·
      have i1_x3_4 : tq_iv 0 2147483646 x3_4 := tq_cut i_x3_4 (tq_ltL (tq_nle c2864) i_x3_4 (tq_top t_9)) (by decide) (by decide)
      have i2_t_9 : tq_iv 1 2147483647 t_9 := tq_cut (tq_top t_9) (tq_ltR (tq_nle c2864) i_x3_4 (tq_top t_9)) (by decide) (by decide)
      refine tz_bk e2866 ?_
      refine tz_bd (tz_X3_mustOf hT k_t_6 i1_x3_4) (fun t_20 i_t_20 => ?_)
      refine tz_let (fun t_25 e2861 => ?_)
      have i3_t_25 : tq_iv 1 128 t_25 := tq_shl1 e2861 i_x1 (by decide) (by decide) (by decide) (by decide)
      refine tz_let (fun t_27 e2860 => ?_)
      refine tz_let (fun t_28 e2859 => ?_)
      have K_62 : ∀ (x2_62 : Int32), tz_O (fun (z : Int32) => tq_iv (-2147483648) 2147483647 z) (z_X5_stillOpened_62 σ k_4 h0 x1 x2_62 x3_4) := by
        intro x2_62
        unfold z_X5_stillOpened_62
        refine tz_let (fun t_62 e2846 => ?_)
        have i4_t_62 : tq_iv 1 2147483647 t_62 := tq_w (tq_add e2846 i1_x3_4 tk_1 (by decide) (by decide)) (by decide) (by decide)
        exact hk_4 x2_62 t_62 (tq_w i4_t_62 (by decide) (by decide)) (tq_up e2846 i1_x3_4 tk_1 (by decide) (by decide) hn_4)
      refine tz_if _ (fun c2858 => ?_) (fun c2858 => ?_)
      ·
        have i5_t_28 : tq_iv 0 0 t_28 := tq_cut (tq_top t_28) (tq_eqL c2858 tk_0) (by decide) (by decide)
        exact K_62 x2_4
      ·
        refine tz_be (tg_5_1 hT k_h0) (fun t_37 e2857 k_t_37 => ?_)
        refine tz_bd (tz_X7_bits hT k_t_37) (fun t_41 i_t_41 => ?_)
        refine tz_bd (tz_X5_pinsFor hT k_h0) (fun t_47 i_t_47 => ?_)
        refine tz_bd (tz_X6_fitsIn hT) (fun t_50 i_t_50 => ?_)
        refine tz_if _ (fun c2853 => ?_) (fun c2853 => ?_)
        ·
          have i6_t_50 : tq_iv 0 0 t_50 := tq_cut i_t_50 (tq_eqL c2853 tk_0) (by decide) (by decide)
          exact K_62 x2_4
        ·
          have i7_t_50 : tq_iv 1 1 t_50 := tq_w (tq_neLo c2853 i_t_50 tk_0) (by decide) (by decide)
          refine tz_let (fun t_59 e2852 => ?_)
          refine tz_let (fun t_60 e2851 => ?_)
          exact K_62 t_60
  have E_4 : ∀ (x2_4 : Int32) (x3_4 : Int32), tq_iv 0 2147483647 x3_4 → tz_O (fun (z : Int32) => tq_iv (-2147483648) 2147483647 z) (ez_fix (fun _ _ _ _ => none) (z_X5_stillOpened_4 σ) ez_N h0 x1 x2_4 x3_4) := by
    intro x2_4 x3_4 i_x3_4
    exact ez_fix_indn (fun n_4 (k_4 : Nat → Int32 → Int32 → Int32 → Option (Int32)) => ∀ (x2_4 : Int32) (x3_4 : Int32), tq_iv 0 2147483647 x3_4 → (2147483647 - x3_4.toInt).toNat < n_4 → tz_O (fun (z : Int32) => tq_iv (-2147483648) 2147483647 z) (k_4 h0 x1 x2_4 x3_4)) (by intros; rename_i h; exact absurd h (Nat.not_lt_zero _)) L_4 ez_N x2_4 x3_4 i_x3_4 (tq_m0 x3_4)
  exact E_4 (0 : Int32) (0 : Int32) (tq_w tk_0 (by decide) (by decide))
set_option maxRecDepth 4000 in
theorem tz_X11_leftOver {p : tz_P} {σ : ez_H} {h0 : Nat} {x1 : Int32} (hT : tp p σ) (k_h0 : tz_C h0 = some (3, 11, 0, 0)) : tz_O (fun z => tq_iv (-2147483648) 2147483647 z) (z_X11_leftOver σ h0 x1) := by
  unfold z_X11_leftOver
  refine tz_bd (tz_ob hT k_h0) (fun _ _ => ?_)
  refine tz_be (tg_11_3 hT k_h0) (fun t_1 e2876 k_t_1 => ?_)
  refine tz_bd (tz_X3_hasKey hT k_t_1) (fun t_5 ⟨i_t_5, g_t_5⟩ => ?_)
  have K_23 : ∀ (y0_23 : Int32), tz_O (fun (z : Int32) => tq_iv (-2147483648) 2147483647 z) (z_X11_leftOver_23 σ y0_23) := by
    intro y0_23
    unfold z_X11_leftOver_23
    exact tz_some (tq_top y0_23)
  refine tz_if _ (fun c2874 => ?_) (fun c2874 => ?_)
  ·
    have i1_t_5 : tq_iv 0 0 t_5 := tq_cut i_t_5 (tq_eqL c2874 tk_0) (by decide) (by decide)
    exact K_23 (-1 : Int32)
  ·
    have i2_x1 : tq_iv 0 7 x1 := tq_cut (tq_top x1) (g_t_5 c2874) (by decide) (by decide)
    have i3_t_5 : tq_iv 1 1 t_5 := tq_w (tq_neLo c2874 i_t_5 tk_0) (by decide) (by decide)
    refine tz_be (tg_11_13 hT k_h0) (fun t_12 e2873 k_t_12 => ?_)
    refine tz_bd (tz_X5_stillOpened hT k_t_12 i2_x1) (fun t_16 i_t_16 => ?_)
    exact K_23 t_16
set_option maxRecDepth 4000 in
theorem tz_X11_legal {p : tz_P} {σ : ez_H} {h0 : Nat} (hT : tp p σ) (k_h0 : tz_C h0 = some (3, 11, 0, 0)) : tz_O2 (fun (z : Int32) (s : ez_H) => tq_iv (-2147483648) 2147483647 z ∧ tp p s) (z_X11_legal σ h0) := by
  show tz_O (fun z : Int32 × ez_H => (fun (z : Int32) (s : ez_H) => tq_iv (-2147483648) 2147483647 z ∧ tp p s) z.1 z.2) _
  unfold z_X11_legal
  refine tz_bd (tz_ob hT k_h0) (fun _ _ => ?_)
  refine tz_be (tg_11_4 hT k_h0) (fun t_1 e2884 k_t_1 => ?_)
  refine tz_bk e2884 ?_
  refine tz_bd (tz_X6_everything hT k_t_1) (fun t_8 i_t_8 => ?_)
  refine tz_bk e2884 ?_
  refine tz_be (tg_6_2 hT k_t_1) (fun t_15 e2880 i_t_15 => ?_)
  refine tz_b2 (tz_X6_howMany hT k_t_1 i_t_15) (fun t_18 σ2879 ⟨i_t_18, T2879⟩ => ?_)
  exact tz_some ⟨(tq_top t_18), T2879⟩
set_option maxRecDepth 4000 in
theorem tz_X2_pathDoor {p : tz_P} {σ : ez_H} {h0 : Nat} {x1 : Int32} (hT : tp p σ) (k_h0 : tz_C h0 = some (3, 2, 0, 0)) : tz_O (fun z => tq_iv (-2147483648) 2147483647 z) (z_X2_pathDoor σ h0 x1) := by
  unfold z_X2_pathDoor
  refine tz_bd (tz_ob hT k_h0) (fun _ _ => ?_)
  have K_32 : ∀ (y0_32 : Int32), tz_O (fun (z : Int32) => tq_iv (-2147483648) 2147483647 z) (z_X2_pathDoor_32 σ y0_32) := by
    intro y0_32
    unfold z_X2_pathDoor_32
    exact tz_some (tq_top y0_32)
  have K_30 : tz_O (fun (z : Int32) => tq_iv (-2147483648) 2147483647 z) (z_X2_pathDoor_30 σ) := by
    unfold z_X2_pathDoor_30
    exact K_32 (-2 : Int32)
  refine tz_if _ (fun c2899 => ?_) (fun c2899 => ?_)
  ·
    have i1_x1 : tq_iv (-2147483648) (-1) x1 := tq_cut (tq_top x1) (tq_ltL c2899 (tq_top x1) tk_0) (by decide) (by decide)
    exact K_30 
  ·
    have i2_x1 : tq_iv 0 2147483647 x1 := tq_cut (tq_top x1) (tq_leR (tq_nlt c2899) tk_0 (tq_top x1)) (by decide) (by decide)
    refine tz_be (tg_2_5 hT k_h0) (fun t_6 e2898 i_t_6 => ?_)
    refine tz_if _ (fun c2897 => ?_) (fun c2897 => ?_)
    ·
      exact K_30 
    ·
      have i3_x1 : tq_iv 0 2147483646 x1 := tq_cut i2_x1 (tq_ltL (tq_nle c2897) i2_x1 (tq_top t_6)) (by decide) (by decide)
      have i4_t_6 : tq_iv 1 2147483647 t_6 := tq_cut (tq_top t_6) (tq_ltR (tq_nle c2897) i2_x1 (tq_top t_6)) (by decide) (by decide)
      refine tz_be (tg_2_4 hT k_h0) (fun t_14 e2896 k_t_14 => ?_)
      refine tz_be (tz_ln hT k_t_14) (fun t_17 e2895 i_t_17 => ?_)
      refine tz_if _ (fun c2894 => ?_) (fun c2894 => ?_)
      ·
        have i5_x1 : tq_iv 6 2147483646 x1 := tq_cut i3_x1 (tq_leR c2894 i_t_17 i3_x1) (by decide) (by decide)
        exact K_30 
      ·
        have i6_x1 : tq_iv 0 5 x1 := tq_cut i3_x1 (tq_ltL (tq_nle c2894) i3_x1 i_t_17) (by decide) (by decide)
        refine tz_bk e2896 ?_
        refine tz_be (tz_ia hT k_t_14 (te_0 (p := p)) i6_x1 (by decide) (by decide)) (fun t_26 e2892 i_t_26 => ?_)
        exact K_32 t_26
set_option maxRecDepth 4000 in
theorem tz_X11_lies {p : tz_P} {σ : ez_H} {h0 : Nat} {x1 : Int32} (hT : tp p σ) (k_h0 : tz_C h0 = some (3, 11, 0, 0)) : tz_O (fun z => tq_iv (-2147483648) 2147483647 z) (z_X11_lies σ h0 x1) := by
  unfold z_X11_lies
  refine tz_bd (tz_ob hT k_h0) (fun _ _ => ?_)
  refine tz_be (tg_11_12 hT k_h0) (fun t_1 e2903 k_t_1 => ?_)
  refine tz_bd (tz_X2_pathDoor hT k_t_1) (fun t_5 i_t_5 => ?_)
  exact tz_some (tq_top t_5)
set_option maxRecDepth 4000 in
theorem tz_X2_keysFor {p : tz_P} {σ : ez_H} {h0 : Nat} {x1 : Int32} (hT : tp p σ) (k_h0 : tz_C h0 = some (3, 2, 0, 0)) : tz_O (fun z => tq_iv (-2147483648) 2147483647 z) (z_X2_keysFor σ h0 x1) := by
  unfold z_X2_keysFor
  refine tz_bd (tz_ob hT k_h0) (fun _ _ => ?_)
  have L_4 : ∀ (n_4 : Nat) (k_4 : Nat → Int32 → Int32 → Int32 → Option (Int32)), (∀ (x2_4 : Int32) (x3_4 : Int32), tq_iv 0 8 x3_4 → (2147483647 - x3_4.toInt).toNat < n_4 → tz_O (fun (z : Int32) => tq_iv (-2147483648) 2147483647 z) (k_4 h0 x1 x2_4 x3_4)) → ∀ (x2_4 : Int32) (x3_4 : Int32), tq_iv 0 8 x3_4 → (2147483647 - x3_4.toInt).toNat < n_4 + 1 → tz_O (fun (z : Int32) => tq_iv (-2147483648) 2147483647 z) (z_X2_keysFor_4 σ k_4 h0 x1 x2_4 x3_4) := by
    intro n_4 k_4 hk_4 x2_4 x3_4 i_x3_4 hn_4
    unfold z_X2_keysFor_4
    refine tz_be (tg_2_0 hT k_h0) (fun t_6 e2920 k_t_6 => ?_)
    refine tz_be (tg_3_3 hT k_t_6) (fun t_9 e2919 i_t_9 => ?_)
    refine tz_if _ (fun c2918 => ?_) (fun c2918 => ?_)
    ·
      exact tz_some (tq_top x2_4)
    ·
      have i1_x3_4 : tq_iv 0 7 x3_4 := tq_cut i_x3_4 (tq_ltL (tq_nle c2918) i_x3_4 i_t_9) (by decide) (by decide)
      have i2_t_9 : tq_iv 1 8 t_9 := tq_cut i_t_9 (tq_ltR (tq_nle c2918) i_x3_4 i_t_9) (by decide) (by decide)
      refine tz_be (tg_2_1 hT k_h0) (fun t_16 e2917 k_t_16 => ?_)
      refine tz_bd (tz_X7_bits hT k_t_16) (fun t_20 i_t_20 => ?_)
      refine tz_bk e2917 ?_
      refine tz_bd (tz_X7_pins hT k_t_16) (fun t_28 i_t_28 => ?_)
      refine tz_bd (tz_X6_fitsIn hT) (fun t_31 i_t_31 => ?_)
      have K_43 : ∀ (x2_43 : Int32), tz_O (fun (z : Int32) => tq_iv (-2147483648) 2147483647 z) (z_X2_keysFor_43 σ k_4 h0 x1 x2_43 x3_4) := by
        intro x2_43
        unfold z_X2_keysFor_43
        refine tz_let (fun t_43 e2906 => ?_)
        have i3_t_43 : tq_iv 1 8 t_43 := tq_w (tq_add e2906 i1_x3_4 tk_1 (by decide) (by decide)) (by decide) (by decide)
        exact hk_4 x2_43 t_43 (tq_w i3_t_43 (by decide) (by decide)) (tq_up e2906 i1_x3_4 tk_1 (by decide) (by decide) hn_4)
      refine tz_if _ (fun c2912 => ?_) (fun c2912 => ?_)
      ·
        have i4_t_31 : tq_iv 0 0 t_31 := tq_cut i_t_31 (tq_eqL c2912 tk_0) (by decide) (by decide)
        exact K_43 x2_4
      ·
        have i5_t_31 : tq_iv 1 1 t_31 := tq_w (tq_neLo c2912 i_t_31 tk_0) (by decide) (by decide)
        refine tz_let (fun t_40 e2911 => ?_)
        have i6_t_40 : tq_iv 1 128 t_40 := tq_shl1 e2911 i1_x3_4 (by decide) (by decide) (by decide) (by decide)
        refine tz_let (fun t_41 e2910 => ?_)
        exact K_43 t_41
  have E_4 : ∀ (x2_4 : Int32) (x3_4 : Int32), tq_iv 0 8 x3_4 → tz_O (fun (z : Int32) => tq_iv (-2147483648) 2147483647 z) (ez_fix (fun _ _ _ _ => none) (z_X2_keysFor_4 σ) ez_N h0 x1 x2_4 x3_4) := by
    intro x2_4 x3_4 i_x3_4
    exact ez_fix_indn (fun n_4 (k_4 : Nat → Int32 → Int32 → Int32 → Option (Int32)) => ∀ (x2_4 : Int32) (x3_4 : Int32), tq_iv 0 8 x3_4 → (2147483647 - x3_4.toInt).toNat < n_4 → tz_O (fun (z : Int32) => tq_iv (-2147483648) 2147483647 z) (k_4 h0 x1 x2_4 x3_4)) (by intros; rename_i h; exact absurd h (Nat.not_lt_zero _)) L_4 ez_N x2_4 x3_4 i_x3_4 (tq_m0 x3_4)
  exact E_4 (0 : Int32) (0 : Int32) (tq_w tk_0 (by decide) (by decide))
set_option maxRecDepth 4000 in
theorem tz_X11_lock {p : tz_P} {σ : ez_H} {h0 : Nat} {x1 : Int32} {x2 : Int32} (hT : tp p σ) (k_h0 : tz_C h0 = some (3, 11, 0, 0)) : tz_O (fun z => tq_iv (-2147483648) 2147483647 z) (z_X11_lock σ h0 x1 x2) := by
  unfold z_X11_lock
  refine tz_bd (tz_ob hT k_h0) (fun _ _ => ?_)
  refine tz_be (tg_11_3 hT k_h0) (fun t_1 e2944 k_t_1 => ?_)
  refine tz_bd (tz_X3_hasLock hT k_t_1) (fun t_5 ⟨i_t_5, g_t_5⟩ => ?_)
  refine tz_if _ (fun c2942 => ?_) (fun c2942 => ?_)
  ·
    have i1_t_5 : tq_iv 0 0 t_5 := tq_cut i_t_5 (tq_eqL c2942 tk_0) (by decide) (by decide)
    exact tz_some (tq_top (-1 : Int32))
  ·
    have i2_x1 : tq_iv 0 2147483646 x1 := tq_cut (tq_top x1) (g_t_5 c2942) (by decide) (by decide)
    have i3_t_5 : tq_iv 1 1 t_5 := tq_w (tq_neLo c2942 i_t_5 tk_0) (by decide) (by decide)
    refine tz_if _ (fun c2941 => ?_) (fun c2941 => ?_)
    ·
      have i4_x2 : tq_iv 0 0 x2 := tq_cut (tq_top x2) (tq_eqL c2941 tk_0) (by decide) (by decide)
      refine tz_be (tg_11_5 hT k_h0) (fun t_45 e2927 k_t_45 => ?_)
      refine tz_bd (tz_X7_pins hT k_t_45) (fun t_49 i_t_49 => ?_)
      refine tz_bd (tz_J6_bitCount_0f7a4 hT) (fun t_52 i_t_52 => ?_)
      exact tz_some (tq_top t_52)
    ·
      refine tz_if _ (fun c2940 => ?_) (fun c2940 => ?_)
      ·
        have i5_x2 : tq_iv 1 1 x2 := tq_cut (tq_top x2) (tq_eqL c2940 tk_1) (by decide) (by decide)
        refine tz_be (tg_11_12 hT k_h0) (fun t_57 e2930 k_t_57 => ?_)
        refine tz_bd (tz_X2_keysFor hT k_t_57) (fun t_61 i_t_61 => ?_)
        exact tz_some (tq_top t_61)
      ·
        refine tz_if _ (fun c2939 => ?_) (fun c2939 => ?_)
        ·
          have i6_x2 : tq_iv 2 2 x2 := tq_cut (tq_top x2) (tq_eqL c2939 tk_2) (by decide) (by decide)
          refine tz_bk e2944 ?_
          refine tz_bd (tz_X3_mustOf hT k_t_1 i2_x1) (fun t_70 i_t_70 => ?_)
          exact tz_some (tq_top t_70)
        ·
          refine tz_if _ (fun c2938 => ?_) (fun c2938 => ?_)
          ·
            have i7_x2 : tq_iv 3 3 x2 := tq_cut (tq_top x2) (tq_eqL c2938 tk_3) (by decide) (by decide)
            refine tz_bk e2944 ?_
            refine tz_bd (tz_X3_neverOf hT k_t_1 i2_x1) (fun t_79 i_t_79 => ?_)
            exact tz_some (tq_top t_79)
          ·
            exact tz_some (tq_top (-1 : Int32))
set_option maxRecDepth 4000 in
theorem tz_X11_lose {p : tz_P} {σ : ez_H} {h0 : Nat} {x1 : Int32} (hT : tp p σ) (k_h0 : tz_C h0 = some (3, 11, 0, 0)) : tz_O2 (fun (z : Int32) (s : ez_H) => tq_iv (-2147483648) 2147483647 z ∧ tp p s) (z_X11_lose σ h0 x1) := by
  show tz_O (fun z : Int32 × ez_H => (fun (z : Int32) (s : ez_H) => tq_iv (-2147483648) 2147483647 z ∧ tp p s) z.1 z.2) _
  unfold z_X11_lose
  refine tz_bd (tz_ob hT k_h0) (fun _ _ => ?_)
  refine tz_be (tg_11_3 hT k_h0) (fun t_1 e2956 k_t_1 => ?_)
  refine tz_bd (tz_X3_hasKey hT k_t_1) (fun t_5 ⟨i_t_5, g_t_5⟩ => ?_)
  have K_24 : tz_O (fun z : Int32 × ez_H => (fun (z : Int32) (s : ez_H) => tq_iv (-2147483648) 2147483647 z ∧ tp p s) z.1 z.2) (z_X11_lose_24 σ) := by
    unfold z_X11_lose_24
    exact tz_some ⟨(tq_top (-3 : Int32)), hT⟩
  refine tz_if _ (fun c2954 => ?_) (fun c2954 => ?_)
  ·
    have i1_t_5 : tq_iv 0 0 t_5 := tq_cut i_t_5 (tq_eqL c2954 tk_0) (by decide) (by decide)
    exact K_24 
  ·
    have i2_x1 : tq_iv 0 7 x1 := tq_cut (tq_top x1) (g_t_5 c2954) (by decide) (by decide)
    have i3_t_5 : tq_iv 1 1 t_5 := tq_w (tq_neLo c2954 i_t_5 tk_0) (by decide) (by decide)
    refine tz_be (tg_11_5 hT k_h0) (fun t_12 e2953 k_t_12 => ?_)
    refine tz_bd (tz_X7_holder hT k_t_12 i2_x1) (fun t_16 i_t_16 => ?_)
    refine tz_if _ (fun c2951 => ?_) (fun c2951 => ?_)
    ·
      have i4_t_16 : tq_iv (-2) (-2) t_16 := tq_cut (tq_top t_16) (tq_eqL c2951 tk_m2) (by decide) (by decide)
      exact K_24 
    ·
      refine tz_b2 (tz_X11_handOver hT k_h0 i2_x1 (tq_w tk_m2 (by decide) (by decide))) (fun t_31 σ2950 ⟨i_t_31, T2950⟩ => ?_)
      exact tz_some ⟨(tq_top t_31), T2950⟩
set_option maxRecDepth 4000 in
theorem tz_X8_isBetter {p : tz_P} {σ : ez_H} {h0 : Nat} {x1 : Int32} {x2 : Int32} (hT : tp p σ) (k_h0 : tz_C h0 = some (3, 8, 0, 0)) (i_x1 : tq_iv 0 63 x1) (i_x2 : tq_iv 0 63 x2) : tz_O (fun z => tq_iv 0 1 z) (z_X8_isBetter σ h0 x1 x2) := by
  unfold z_X8_isBetter
  refine tz_bd (tz_ob hT k_h0) (fun _ _ => ?_)
  refine tz_bd (tz_J6_bitCount_0f7a4 hT) (fun t_1 i_t_1 => ?_)
  refine tz_bd (tz_J6_bitCount_0f7a4 hT) (fun t_5 i_t_5 => ?_)
  refine tz_let (fun t_8 e2973 => ?_)
  have i1_t_8 : tq_iv (-63) 63 t_8 := tq_w (tq_sub e2973 i_t_1 i_t_5 (by decide) (by decide)) (by decide) (by decide)
  have K_38 : ∀ (y0_38 : Int32), tq_iv 0 1 y0_38 → (¬ y0_38 = 0 → tq_iv 0 63 t_8) → tz_O (fun (z : Int32) => tq_iv 0 1 z) (z_X8_isBetter_38 σ y0_38) := by
    intro y0_38 i_y0_38 g38_y0_38_t_8
    unfold z_X8_isBetter_38
    refine tz_nr (tq_nr_boolean i_y0_38) ?_
    exact tz_some i_y0_38
  have K_33 : tq_iv 0 63 t_8 → tz_O (fun (z : Int32) => tq_iv 0 1 z) (z_X8_isBetter_33 σ) := by
    intro j33_t_8
    unfold z_X8_isBetter_33
    exact K_38 (1 : Int32) (tq_w tk_1 (by decide) (by decide)) (fun _ => j33_t_8)
  refine tz_if _ (fun c2972 => ?_) (fun c2972 => ?_)
  ·
    have i2_t_8 : tq_iv 1 63 t_8 := tq_cut i1_t_8 (tq_ltR c2972 tk_0 i1_t_8) (by decide) (by decide)
    exact K_33 (tq_w i2_t_8 (by decide) (by decide))
  ·
    have i3_t_8 : tq_iv (-63) 0 t_8 := tq_cut i1_t_8 (tq_leL (tq_nlt c2972) i1_t_8 tk_0) (by decide) (by decide)
    have K_37 : tz_O (fun (z : Int32) => tq_iv 0 1 z) (z_X8_isBetter_37 σ) := by
      unfold z_X8_isBetter_37
      exact K_38 (0 : Int32) (tq_w tk_0 (by decide) (by decide)) (fun h => absurd rfl h)
    refine tz_if _ (fun c2971 => ?_) (fun c2971 => ?_)
    ·
      have i4_t_8 : tq_iv 0 0 t_8 := tq_cut i3_t_8 (tq_eqL c2971 tk_0) (by decide) (by decide)
      refine tz_be (tg_8_11 hT k_h0) (fun t_19 e2969 k_t_19 => ?_)
      refine tz_be (tz_ia hT k_t_19 (te_0 (p := p)) i_x1 (by decide) (by decide)) (fun t_23 e2968 i_t_23 => ?_)
      refine tz_bk e2969 ?_
      refine tz_be (tz_ia hT k_t_19 (te_0 (p := p)) i_x2 (by decide) (by decide)) (fun t_29 e2966 i_t_29 => ?_)
      refine tz_if _ (fun c2965 => ?_) (fun c2965 => ?_)
      ·
        exact K_37 
      ·
        have i5_t_23 : tq_iv (-2147483648) 2147483646 t_23 := tq_cut (tq_top t_23) (tq_ltL (tq_nle c2965) (tq_top t_23) (tq_top t_29)) (by decide) (by decide)
        have i6_t_29 : tq_iv (-2147483647) 2147483647 t_29 := tq_cut (tq_top t_29) (tq_ltR (tq_nle c2965) (tq_top t_23) (tq_top t_29)) (by decide) (by decide)
        exact K_33 (tq_w i4_t_8 (by decide) (by decide))
    ·
      have i7_t_8 : tq_iv (-63) (-1) t_8 := tq_w (tq_neHi c2971 i3_t_8 tk_0) (by decide) (by decide)
      exact K_37
set_option maxRecDepth 4000 in
theorem tz_X8_masterLocks {p : tz_P} {σ : ez_H} {h0 : Nat} (hT : tp p σ) (k_h0 : tz_C h0 = some (3, 8, 0, 0)) : tz_O (fun z => tq_iv 0 63 z) (z_X8_masterLocks σ h0) := by
  unfold z_X8_masterLocks
  refine tz_bd (tz_ob hT k_h0) (fun _ _ => ?_)
  have L_4 : ∀ (n_4 : Nat) (k_4 : Nat → Int32 → Int32 → Option (Int32)), (∀ (x1_4 : Int32) (x2_4 : Int32), tq_iv (-1) 63 x1_4 → tq_iv 0 64 x2_4 → (2147483647 - x2_4.toInt).toNat < n_4 → tz_O (fun (z : Int32) => tq_iv 0 63 z) (k_4 h0 x1_4 x2_4)) → ∀ (x1_4 : Int32) (x2_4 : Int32), tq_iv (-1) 63 x1_4 → tq_iv 0 64 x2_4 → (2147483647 - x2_4.toInt).toNat < n_4 + 1 → tz_O (fun (z : Int32) => tq_iv 0 63 z) (z_X8_masterLocks_4 σ k_4 h0 x1_4 x2_4) := by
    intro n_4 k_4 hk_4 x1_4 x2_4 i_x1_4 i_x2_4 hn_4
    unfold z_X8_masterLocks_4
    refine tz_if _ (fun c2991 => ?_) (fun c2991 => ?_)
    ·
      have i1_x2_4 : tq_iv 64 64 x2_4 := tq_cut i_x2_4 (tq_leR c2991 tk_64 i_x2_4) (by decide) (by decide)
      refine tz_let (fun t_44 e2981 => ?_)
      have i2_t_44 : tq_iv 0 63 t_44 := tq_w (tq_max e2981 tk_0 i_x1_4) (by decide) (by decide)
      exact tz_some i2_t_44
    ·
      have i3_x2_4 : tq_iv 0 63 x2_4 := tq_cut i_x2_4 (tq_ltL (tq_nle c2991) i_x2_4 tk_64) (by decide) (by decide)
      refine tz_bd (tz_X8_isSuch hT k_h0 i3_x2_4) (fun t_14 ⟨i_t_14, g_t_14⟩ => ?_)
      have K_36 : ∀ (x1_36 : Int32), tq_iv (-1) 63 x1_36 → tz_O (fun (z : Int32) => tq_iv 0 63 z) (z_X8_masterLocks_36 σ k_4 h0 x1_36 x2_4) := by
        intro x1_36 i_x1_36
        unfold z_X8_masterLocks_36
        refine tz_let (fun t_36 e2978 => ?_)
        have i4_t_36 : tq_iv 1 64 t_36 := tq_w (tq_add e2978 i3_x2_4 tk_1 (by decide) (by decide)) (by decide) (by decide)
        exact hk_4 x1_36 t_36 i_x1_36 (tq_w i4_t_36 (by decide) (by decide)) (tq_up e2978 i3_x2_4 tk_1 (by decide) (by decide) hn_4)
      refine tz_if _ (fun c2989 => ?_) (fun c2989 => ?_)
      ·
        have i5_t_14 : tq_iv 0 0 t_14 := tq_cut i_t_14 (tq_eqL c2989 tk_0) (by decide) (by decide)
        exact K_36 x1_4 i_x1_4
      ·
        have i6_t_14 : tq_iv 1 1 t_14 := tq_w (tq_neLo c2989 i_t_14 tk_0) (by decide) (by decide)
        have K_34 : tz_O (fun (z : Int32) => tq_iv 0 63 z) (z_X8_masterLocks_34 σ k_4 h0 x2_4) := by
          unfold z_X8_masterLocks_34
          exact K_36 x2_4 (tq_w i3_x2_4 (by decide) (by decide))
        refine tz_if _ (fun c2988 => ?_) (fun c2988 => ?_)
        ·
          have i7_x1_4 : tq_iv (-1) (-1) x1_4 := tq_cut i_x1_4 (tq_eqL c2988 tk_m1) (by decide) (by decide)
          exact K_34 
        ·
          have i8_x1_4 : tq_iv 0 63 x1_4 := tq_w (tq_neLo c2988 i_x1_4 tk_m1) (by decide) (by decide)
          refine tz_bd (tz_X8_isBetter hT k_h0 i3_x2_4 i8_x1_4) (fun t_28 i_t_28 => ?_)
          refine tz_if _ (fun c2986 => ?_) (fun c2986 => ?_)
          ·
            have i9_t_28 : tq_iv 0 0 t_28 := tq_cut i_t_28 (tq_eqL c2986 tk_0) (by decide) (by decide)
            exact K_36 x1_4 (tq_w i8_x1_4 (by decide) (by decide))
          ·
            have i10_t_28 : tq_iv 1 1 t_28 := tq_w (tq_neLo c2986 i_t_28 tk_0) (by decide) (by decide)
            exact K_34 
  have E_4 : ∀ (x1_4 : Int32) (x2_4 : Int32), tq_iv (-1) 63 x1_4 → tq_iv 0 64 x2_4 → tz_O (fun (z : Int32) => tq_iv 0 63 z) (ez_fix (fun _ _ _ => none) (z_X8_masterLocks_4 σ) ez_N h0 x1_4 x2_4) := by
    intro x1_4 x2_4 i_x1_4 i_x2_4
    exact ez_fix_indn (fun n_4 (k_4 : Nat → Int32 → Int32 → Option (Int32)) => ∀ (x1_4 : Int32) (x2_4 : Int32), tq_iv (-1) 63 x1_4 → tq_iv 0 64 x2_4 → (2147483647 - x2_4.toInt).toNat < n_4 → tz_O (fun (z : Int32) => tq_iv 0 63 z) (k_4 h0 x1_4 x2_4)) (by intros; rename_i h; exact absurd h (Nat.not_lt_zero _)) L_4 ez_N x1_4 x2_4 i_x1_4 i_x2_4 (tq_m0 x2_4)
  exact E_4 (-1 : Int32) (0 : Int32) (tq_w tk_m1 (by decide) (by decide)) (tq_w tk_0 (by decide) (by decide))
