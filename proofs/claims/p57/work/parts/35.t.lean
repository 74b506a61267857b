set_option maxRecDepth 4000 in
theorem tz_X12_sure {p : tz_P} {σ : ez_H} {h0 : Nat} {x1 : Int32} {x2 : Int32} (hT : tp p σ) (k_h0 : tz_C h0 = some (3, 12, 0, 0)) : tz_O (fun z => tq_iv (-2) 5 z) (z_X12_sure σ h0 x1 x2) := by
  unfold z_X12_sure
  refine tz_bd (tz_ob hT k_h0) (fun _ _ => ?_)
  refine tz_bd (tz_X12_isChamber hT k_h0) (fun t_2 ⟨i_t_2, g_t_2⟩ => ?_)
  refine tz_if _ (fun c9495 => ?_) (fun c9495 => ?_)
  ·
    have i1_t_2 : tq_iv 0 0 t_2 := tq_cut i_t_2 (tq_eqL c9495 tk_0) (by decide) (by decide)
    exact tz_some (tq_w tk_m1 (by decide) (by decide))
  ·
    have i2_x1 : tq_iv 0 4 x1 := tq_cut (tq_top x1) (g_t_2 c9495) (by decide) (by decide)
    have i3_t_2 : tq_iv 1 1 t_2 := tq_w (tq_neLo c9495 i_t_2 tk_0) (by decide) (by decide)
    have L_15 : ∀ (n_15 : Nat) (k_15 : Nat → Int32 → Int32 → Int32 → Int32 → Option (Int32)), (∀ (x3_15 : Int32) (x4_15 : Int32), tq_iv (-1) 5 x3_15 → tq_iv 0 7776 x4_15 → (2147483647 - x4_15.toInt).toNat < n_15 → tz_O (fun (z : Int32) => tq_iv (-2) 5 z) (k_15 h0 x1 x2 x3_15 x4_15)) → ∀ (x3_15 : Int32) (x4_15 : Int32), tq_iv (-1) 5 x3_15 → tq_iv 0 7776 x4_15 → (2147483647 - x4_15.toInt).toNat < n_15 + 1 → tz_O (fun (z : Int32) => tq_iv (-2) 5 z) (z_X12_sure_15 σ k_15 h0 x1 x2 x3_15 x4_15) := by
      intro n_15 k_15 hk_15 x3_15 x4_15 i_x3_15 i_x4_15 hn_15
      unfold z_X12_sure_15
      refine tz_bd (tz_X12_bittings hT k_h0) (fun t_18 i_t_18 => ?_)
      refine tz_if _ (fun c9491 => ?_) (fun c9491 => ?_)
      ·
        have i4_x4_15 : tq_iv 1 7776 x4_15 := tq_cut i_x4_15 (tq_leR c9491 i_t_18 i_x4_15) (by decide) (by decide)
        exact tz_some (tq_w i_x3_15 (by decide) (by decide))
      ·
        have i5_x4_15 : tq_iv 0 7775 x4_15 := tq_cut i_x4_15 (tq_ltL (tq_nle c9491) i_x4_15 i_t_18) (by decide) (by decide)
        refine tz_bd (tz_X12_doesFit hT k_h0 i5_x4_15) (fun t_28 i_t_28 => ?_)
        have K_63 : ∀ (x3_63 : Int32), tq_iv (-1) 5 x3_63 → tz_O (fun (z : Int32) => tq_iv (-2) 5 z) (z_X12_sure_63 σ k_15 h0 x1 x2 x3_63 x4_15) := by
          intro x3_63 i_x3_63
          unfold z_X12_sure_63
          refine tz_let (fun t_63 e9478 => ?_)
          have i6_t_63 : tq_iv 1 7776 t_63 := tq_w (tq_add e9478 i5_x4_15 tk_1 (by decide) (by decide)) (by decide) (by decide)
          exact hk_15 x3_63 t_63 i_x3_63 (tq_w i6_t_63 (by decide) (by decide)) (tq_up e9478 i5_x4_15 tk_1 (by decide) (by decide) hn_15)
        refine tz_if _ (fun c9489 => ?_) (fun c9489 => ?_)
        ·
          have i7_t_28 : tq_iv 0 0 t_28 := tq_cut i_t_28 (tq_eqL c9489 tk_0) (by decide) (by decide)
          exact K_63 x3_15 i_x3_15
        ·
          have i8_t_28 : tq_iv 1 1 t_28 := tq_w (tq_neLo c9489 i_t_28 tk_0) (by decide) (by decide)
          have K_55 : tz_O (fun (z : Int32) => tq_iv (-2) 5 z) (z_X12_sure_55 σ k_15 h0 x1 x2 x4_15) := by
            unfold z_X12_sure_55
            refine tz_bd (tz_X12_cutIn hT k_h0 i5_x4_15 i2_x1) (fun t_59 i_t_59 => ?_)
            exact K_63 t_59 (tq_w i_t_59 (by decide) (by decide))
          refine tz_if _ (fun c9488 => ?_) (fun c9488 => ?_)
          ·
            have i9_x3_15 : tq_iv (-1) (-1) x3_15 := tq_cut i_x3_15 (tq_ltL c9488 i_x3_15 tk_0) (by decide) (by decide)
            exact K_55 
          ·
            have i10_x3_15 : tq_iv 0 5 x3_15 := tq_cut i_x3_15 (tq_leR (tq_nlt c9488) tk_0 i_x3_15) (by decide) (by decide)
            refine tz_bd (tz_X12_cutIn hT k_h0 i5_x4_15 i2_x1) (fun t_45 i_t_45 => ?_)
            refine tz_if _ (fun c9486 => ?_) (fun c9486 => ?_)
            ·
              exact K_55 
            ·
              exact tz_some (tq_w tk_m2 (by decide) (by decide))
    have E_15 : ∀ (x3_15 : Int32) (x4_15 : Int32), tq_iv (-1) 5 x3_15 → tq_iv 0 7776 x4_15 → tz_O (fun (z : Int32) => tq_iv (-2) 5 z) (ez_fix (fun _ _ _ _ _ => none) (z_X12_sure_15 σ) ez_N h0 x1 x2 x3_15 x4_15) := by
      intro x3_15 x4_15 i_x3_15 i_x4_15
      exact ez_fix_indn (fun n_15 (k_15 : Nat → Int32 → Int32 → Int32 → Int32 → Option (Int32)) => ∀ (x3_15 : Int32) (x4_15 : Int32), tq_iv (-1) 5 x3_15 → tq_iv 0 7776 x4_15 → (2147483647 - x4_15.toInt).toNat < n_15 → tz_O (fun (z : Int32) => tq_iv (-2) 5 z) (k_15 h0 x1 x2 x3_15 x4_15)) (by intros; rename_i h; exact absurd h (Nat.not_lt_zero _)) L_15 ez_N x3_15 x4_15 i_x3_15 i_x4_15 (tq_m0 x4_15)
    exact E_15 (-1 : Int32) (0 : Int32) (tq_w tk_m1 (by decide) (by decide)) (tq_w tk_0 (by decide) (by decide))
set_option maxRecDepth 4000 in
theorem tz_X12_areBetter {p : tz_P} {σ : ez_H} {h0 : Nat} {x1 : Int32} {x2 : Int32} {x3 : Int32} {x4 : Int32} (hT : tp p σ) (k_h0 : tz_C h0 = some (3, 12, 0, 0)) (i_x1 : tq_iv 0 3 x1) (i_x2 : tq_iv 0 3 x2) (i_x3 : tq_iv 0 7 x3) (i_x4 : tq_iv 0 7 x4) : tz_O (fun z => tq_iv 0 1 z) (z_X12_areBetter σ h0 x1 x2 x3 x4) := by
  unfold z_X12_areBetter
  refine tz_bd (tz_ob hT k_h0) (fun _ _ => ?_)
  refine tz_bd (tz_X12_keysOf hT k_h0 i_x1) (fun t_2 i_t_2 => ?_)
  refine tz_let (fun t_7 e9600 => ?_)
  have i1_t_7 : tq_iv 1 128 t_7 := tq_shl1 e9600 i_x3 (by decide) (by decide) (by decide) (by decide)
  refine tz_let (fun t_9 e9599 => ?_)
  refine tz_let (fun t_10 e9598 => ?_)
  refine tz_let (fun t_14 e9597 => ?_)
  have i2_t_14 : tq_iv 1 128 t_14 := tq_shl1 e9597 i_x4 (by decide) (by decide) (by decide) (by decide)
  refine tz_let (fun t_15 e9596 => ?_)
  refine tz_bd (tz_X12_keysOf hT k_h0 i_x2) (fun t_20 i_t_20 => ?_)
  refine tz_let (fun t_26 e9594 => ?_)
  have i3_t_26 : tq_iv 1 128 t_26 := tq_shl1 e9594 i_x4 (by decide) (by decide) (by decide) (by decide)
  refine tz_let (fun t_28 e9593 => ?_)
  refine tz_let (fun t_29 e9592 => ?_)
  refine tz_let (fun t_32 e9591 => ?_)
  have i4_t_32 : tq_iv 1 128 t_32 := tq_shl1 e9591 i_x3 (by decide) (by decide) (by decide) (by decide)
  refine tz_let (fun t_33 e9590 => ?_)
  refine tz_bk (tr_53 hT k_h0) ?_
  refine tz_let (fun t_44 e9588 => ?_)
  have i5_t_44 : tq_iv 86 89 t_44 := tq_w (tq_add e9588 tk_86 i_x1 (by decide) (by decide)) (by decide) (by decide)
  refine tz_be (tz_iaS hT tc_205 (ts_205 (p := p) 86 89 0 5 (by decide)) i5_t_44 (by decide) (by decide)) (fun t_45 e9587 i_t_45 => ?_)
  refine tz_bd (tz_X12_reachBy hT k_h0 i_t_45) (fun t_48 i_t_48 => ?_)
  refine tz_bd (tz_X12_bitsOf hT) (fun t_51 i_t_51 => ?_)
  refine tz_bd (tz_X12_reachOf hT k_h0 i_x1) (fun t_56 i_t_56 => ?_)
  refine tz_bd (tz_X12_bitsOf hT) (fun t_59 i_t_59 => ?_)
  have K_99 : ∀ (y0_99 : Int32), tq_iv 0 1 y0_99 → (¬ y0_99 = 0 → tq_iv (-2147483647) 2147483647 t_51) → (¬ y0_99 = 0 → tq_iv (-2147483648) 2147483646 t_59) → tz_O (fun (z : Int32) => tq_iv 0 1 z) (z_X12_areBetter_99 σ y0_99) := by
    intro y0_99 i_y0_99 g99_y0_99_t_51 g99_y0_99_t_59
    unfold z_X12_areBetter_99
    refine tz_nr (tq_nr_boolean i_y0_99) ?_
    exact tz_some i_y0_99
  have K_98 : tz_O (fun (z : Int32) => tq_iv 0 1 z) (z_X12_areBetter_98 σ) := by
    unfold z_X12_areBetter_98
    exact K_99 (0 : Int32) (tq_w tk_0 (by decide) (by decide)) (fun h => absurd rfl h) (fun h => absurd rfl h)
  refine tz_if _ (fun c9582 => ?_) (fun c9582 => ?_)
  ·
    exact K_98 
  ·
    have i6_t_59 : tq_iv (-2147483648) 2147483646 t_59 := tq_cut (tq_top t_59) (tq_ltL (tq_nle c9582) (tq_top t_59) (tq_top t_51)) (by decide) (by decide)
    have i7_t_51 : tq_iv (-2147483647) 2147483647 t_51 := tq_cut (tq_top t_51) (tq_ltR (tq_nle c9582) (tq_top t_59) (tq_top t_51)) (by decide) (by decide)
    refine tz_bk (tr_53 hT k_h0) ?_
    refine tz_let (fun t_73 e9580 => ?_)
    have i8_t_73 : tq_iv 86 89 t_73 := tq_w (tq_add e9580 tk_86 i_x2 (by decide) (by decide)) (by decide) (by decide)
    refine tz_be (tz_iaS hT tc_205 (ts_205 (p := p) 86 89 0 5 (by decide)) i8_t_73 (by decide) (by decide)) (fun t_74 e9579 i_t_74 => ?_)
    refine tz_bd (tz_X12_reachBy hT k_h0 i_t_74) (fun t_77 i_t_77 => ?_)
    refine tz_bd (tz_X12_bitsOf hT) (fun t_80 i_t_80 => ?_)
    refine tz_bd (tz_X12_reachOf hT k_h0 i_x2) (fun t_85 i_t_85 => ?_)
    refine tz_bd (tz_X12_bitsOf hT) (fun t_88 i_t_88 => ?_)
    refine tz_if _ (fun c9574 => ?_) (fun c9574 => ?_)
    ·
      exact K_98 
    ·
      have i9_t_88 : tq_iv (-2147483648) 2147483646 t_88 := tq_cut (tq_top t_88) (tq_ltL (tq_nle c9574) (tq_top t_88) (tq_top t_80)) (by decide) (by decide)
      have i10_t_80 : tq_iv (-2147483647) 2147483647 t_80 := tq_cut (tq_top t_80) (tq_ltR (tq_nle c9574) (tq_top t_88) (tq_top t_80)) (by decide) (by decide)
      exact K_99 (1 : Int32) (tq_w tk_1 (by decide) (by decide)) (fun _ => i7_t_51) (fun _ => i6_t_59)
set_option maxRecDepth 4000 in
theorem tz_X12_trade {p : tz_P} {σ : ez_H} {h0 : Nat} {x1 : Int32} {x2 : Int32} {x3 : Int32} (hT : tp p σ) (k_h0 : tz_C h0 = some (3, 12, 0, 0)) : tz_O (fun z => tq_iv (-1) 7 z) (z_X12_trade σ h0 x1 x2 x3) := by
  unfold z_X12_trade
  refine tz_bd (tz_ob hT k_h0) (fun _ _ => ?_)
  refine tz_bd (tz_X12_isPerson hT k_h0) (fun t_2 ⟨i_t_2, g_t_2⟩ => ?_)
  have K_30 : tz_O (fun (z : Int32) => tq_iv (-1) 7 z) (z_X12_trade_30 σ) := by
    unfold z_X12_trade_30
    exact tz_some (tq_w tk_m1 (by decide) (by decide))
  refine tz_if _ (fun c9637 => ?_) (fun c9637 => ?_)
  ·
    have i1_t_2 : tq_iv 0 0 t_2 := tq_cut i_t_2 (tq_eqL c9637 tk_0) (by decide) (by decide)
    exact K_30 
  ·
    have i2_x1 : tq_iv 0 3 x1 := tq_cut (tq_top x1) (g_t_2 c9637) (by decide) (by decide)
    have i3_t_2 : tq_iv 1 1 t_2 := tq_w (tq_neLo c9637 i_t_2 tk_0) (by decide) (by decide)
    refine tz_bd (tz_X12_isPerson hT k_h0) (fun t_10 ⟨i_t_10, g_t_10⟩ => ?_)
    refine tz_if _ (fun c9635 => ?_) (fun c9635 => ?_)
    ·
      have i4_t_10 : tq_iv 0 0 t_10 := tq_cut i_t_10 (tq_eqL c9635 tk_0) (by decide) (by decide)
      exact K_30 
    ·
      have i5_x2 : tq_iv 0 3 x2 := tq_cut (tq_top x2) (g_t_10 c9635) (by decide) (by decide)
      have i6_t_10 : tq_iv 1 1 t_10 := tq_w (tq_neLo c9635 i_t_10 tk_0) (by decide) (by decide)
      refine tz_if _ (fun c9634 => ?_) (fun c9634 => ?_)
      ·
        exact K_30 
      ·
        refine tz_bd (tz_X12_isIn hT) (fun t_24 ⟨i_t_24, g_t_24⟩ => ?_)
        refine tz_if _ (fun c9632 => ?_) (fun c9632 => ?_)
        ·
          have i7_t_24 : tq_iv 0 0 t_24 := tq_cut i_t_24 (tq_eqL c9632 tk_0) (by decide) (by decide)
          exact K_30 
        ·
          have i8_x3 : tq_iv 0 1 x3 := tq_cut (tq_top x3) (tq_cut (lo := 0) (hi := 1) (tq_cut (lo := 0) (hi := 2147483647) (tq_top x3) (tq_leR (g_t_24 c9632).1 tk_0 (tq_top x3)) (by decide) (by decide)) (tq_leL (g_t_24 c9632).2 (tq_top x3) tk_1) (by decide) (by decide)) (by decide) (by decide)
          have i9_t_24 : tq_iv 1 1 t_24 := tq_w (tq_neLo c9632 i_t_24 tk_0) (by decide) (by decide)
          have L_35 : ∀ (n_35 : Nat) (k_35 : Nat → Int32 → Int32 → Int32 → Int32 → Option (Int32)), (∀ (x4_35 : Int32), tq_iv 0 8 x4_35 → (2147483647 - x4_35.toInt).toNat < n_35 → tz_O (fun (z : Int32) => tq_iv (-1) 7 z) (k_35 h0 x1 x2 x3 x4_35)) → ∀ (x4_35 : Int32), tq_iv 0 8 x4_35 → (2147483647 - x4_35.toInt).toNat < n_35 + 1 → tz_O (fun (z : Int32) => tq_iv (-1) 7 z) (z_X12_trade_35 σ k_35 h0 x1 x2 x3 x4_35) := by
            intro n_35 k_35 hk_35 x4_35 i_x4_35 hn_35
            unfold z_X12_trade_35
            refine tz_bd (tz_X12_many hT k_h0) (fun t_38 i_t_38 => ?_)
            refine tz_if _ (fun c9625 => ?_) (fun c9625 => ?_)
            ·
              exact tz_some (tq_w tk_m1 (by decide) (by decide))
            ·
              have i10_x4_35 : tq_iv 0 7 x4_35 := tq_cut i_x4_35 (tq_ltL (tq_nle c9625) i_x4_35 i_t_38) (by decide) (by decide)
              have i11_t_38 : tq_iv 1 8 t_38 := tq_cut i_t_38 (tq_ltR (tq_nle c9625) i_x4_35 i_t_38) (by decide) (by decide)
              have L_47 : ∀ (n_47 : Nat) (k_47 : Nat → Int32 → Int32 → Int32 → Int32 → Int32 → Option (Int32)), (∀ (x5_47 : Int32), tq_iv 0 8 x5_47 → (2147483647 - x5_47.toInt).toNat < n_47 → tz_O (fun (z : Int32) => tq_iv (-1) 7 z) (k_47 h0 x1 x2 x3 x4_35 x5_47)) → ∀ (x5_47 : Int32), tq_iv 0 8 x5_47 → (2147483647 - x5_47.toInt).toNat < n_47 + 1 → tz_O (fun (z : Int32) => tq_iv (-1) 7 z) (z_X12_trade_47 σ k_35 k_47 h0 x1 x2 x3 x4_35 x5_47) := by
                intro n_47 k_47 hk_47 x5_47 i_x5_47 hn_47
                unfold z_X12_trade_47
                refine tz_bd (tz_X12_many hT k_h0) (fun t_50 i_t_50 => ?_)
                refine tz_if _ (fun c9621 => ?_) (fun c9621 => ?_)
                ·
                  refine tz_let (fun t_110 e9608 => ?_)
                  have i12_t_110 : tq_iv 1 8 t_110 := tq_w (tq_add e9608 i10_x4_35 tk_1 (by decide) (by decide)) (by decide) (by decide)
                  exact hk_35 t_110 (tq_w i12_t_110 (by decide) (by decide)) (tq_up e9608 i10_x4_35 tk_1 (by decide) (by decide) hn_35)
                ·
                  have i13_x5_47 : tq_iv 0 7 x5_47 := tq_cut i_x5_47 (tq_ltL (tq_nle c9621) i_x5_47 i_t_50) (by decide) (by decide)
                  have i14_t_50 : tq_iv 1 8 t_50 := tq_cut i_t_50 (tq_ltR (tq_nle c9621) i_x5_47 i_t_50) (by decide) (by decide)
                  refine tz_bd (tz_X12_holderOf hT k_h0 i10_x4_35) (fun t_59 i_t_59 => ?_)
                  have K_104 : tz_O (fun (z : Int32) => tq_iv (-1) 7 z) (z_X12_trade_104 σ k_35 k_47 h0 x1 x2 x3 x4_35 x5_47) := by
                    unfold z_X12_trade_104
                    refine tz_let (fun t_104 e9605 => ?_)
                    have i15_t_104 : tq_iv 1 8 t_104 := tq_w (tq_add e9605 i13_x5_47 tk_1 (by decide) (by decide)) (by decide) (by decide)
                    exact hk_47 t_104 (tq_w i15_t_104 (by decide) (by decide)) (tq_up e9605 i13_x5_47 tk_1 (by decide) (by decide) hn_47)
                  refine tz_if _ (fun c9619 => ?_) (fun c9619 => ?_)
                  ·
                    have i16_t_59 : tq_iv 0 3 t_59 := tq_cut i_t_59 (tq_eqL c9619 i2_x1) (by decide) (by decide)
                    refine tz_bd (tz_X12_holderOf hT k_h0 i13_x5_47) (fun t_69 i_t_69 => ?_)
                    refine tz_if _ (fun c9616 => ?_) (fun c9616 => ?_)
                    ·
                      have i17_t_69 : tq_iv 0 3 t_69 := tq_cut i_t_69 (tq_eqL c9616 i5_x2) (by decide) (by decide)
                      refine tz_bd (tz_X12_areBetter hT k_h0 i2_x1 i5_x2 i10_x4_35 i13_x5_47) (fun t_86 i_t_86 => ?_)
                      refine tz_if _ (fun c9613 => ?_) (fun c9613 => ?_)
                      ·
                        have i18_t_86 : tq_iv 0 0 t_86 := tq_cut i_t_86 (tq_eqL c9613 tk_0) (by decide) (by decide)
                        exact K_104 
                      ·
                        have i19_t_86 : tq_iv 1 1 t_86 := tq_w (tq_neLo c9613 i_t_86 tk_0) (by decide) (by decide)
                        have K_103 : ∀ (y0_103 : Int32), tq_iv 0 7 y0_103 → tz_O (fun (z : Int32) => tq_iv (-1) 7 z) (z_X12_trade_103 σ y0_103) := by
                          intro y0_103 i_y0_103
                          unfold z_X12_trade_103
                          exact tz_some (tq_w i_y0_103 (by decide) (by decide))
                        refine tz_if _ (fun c9612 => ?_) (fun c9612 => ?_)
                        ·
                          have i20_x3 : tq_iv 0 0 x3 := tq_cut i8_x3 (tq_eqL c9612 tk_0) (by decide) (by decide)
                          exact K_103 x4_35 i10_x4_35
                        ·
                          have i21_x3 : tq_iv 1 1 x3 := tq_w (tq_neLo c9612 i8_x3 tk_0) (by decide) (by decide)
                          exact K_103 x5_47 i13_x5_47
                    ·
                      exact K_104 
                  ·
                    exact K_104 
              have E_47 : ∀ (x5_47 : Int32), tq_iv 0 8 x5_47 → tz_O (fun (z : Int32) => tq_iv (-1) 7 z) (ez_fix (fun _ _ _ _ _ _ => none) (z_X12_trade_47 σ k_35) ez_N h0 x1 x2 x3 x4_35 x5_47) := by
                intro x5_47 i_x5_47
                exact ez_fix_indn (fun n_47 (k_47 : Nat → Int32 → Int32 → Int32 → Int32 → Int32 → Option (Int32)) => ∀ (x5_47 : Int32), tq_iv 0 8 x5_47 → (2147483647 - x5_47.toInt).toNat < n_47 → tz_O (fun (z : Int32) => tq_iv (-1) 7 z) (k_47 h0 x1 x2 x3 x4_35 x5_47)) (by intros; rename_i h; exact absurd h (Nat.not_lt_zero _)) L_47 ez_N x5_47 i_x5_47 (tq_m0 x5_47)
              exact E_47 (0 : Int32) (tq_w tk_0 (by decide) (by decide))
          have E_35 : ∀ (x4_35 : Int32), tq_iv 0 8 x4_35 → tz_O (fun (z : Int32) => tq_iv (-1) 7 z) (ez_fix (fun _ _ _ _ _ => none) (z_X12_trade_35 σ) ez_N h0 x1 x2 x3 x4_35) := by
            intro x4_35 i_x4_35
            exact ez_fix_indn (fun n_35 (k_35 : Nat → Int32 → Int32 → Int32 → Int32 → Option (Int32)) => ∀ (x4_35 : Int32), tq_iv 0 8 x4_35 → (2147483647 - x4_35.toInt).toNat < n_35 → tz_O (fun (z : Int32) => tq_iv (-1) 7 z) (k_35 h0 x1 x2 x3 x4_35)) (by intros; rename_i h; exact absurd h (Nat.not_lt_zero _)) L_35 ez_N x4_35 i_x4_35 (tq_m0 x4_35)
          exact E_35 (0 : Int32) (tq_w tk_0 (by decide) (by decide))
set_option maxRecDepth 4000 in
theorem tz_X12_tried {p : tz_P} {σ : ez_H} {h0 : Nat} {x1 : Int32} {x2 : Int32} (hT : tp p σ) (k_h0 : tz_C h0 = some (3, 12, 0, 0)) (i_x2 : tq_iv 0 1 x2) : tz_O2 (fun (z : Int32) (s : ez_H) => tq_iv (-1) 29 z ∧ tp p s) (z_X12_tried σ h0 x1 x2) := by
  show tz_O (fun z : Int32 × ez_H => (fun (z : Int32) (s : ez_H) => tq_iv (-1) 29 z ∧ tp p s) z.1 z.2) _
  unfold z_X12_tried
  refine tz_bd (tz_ob hT k_h0) (fun _ _ => ?_)
  refine tz_bd (tz_X12_isLock hT k_h0) (fun t_2 ⟨i_t_2, g_t_2⟩ => ?_)
  have K_17 : tz_O (fun z : Int32 × ez_H => (fun (z : Int32) (s : ez_H) => tq_iv (-1) 29 z ∧ tp p s) z.1 z.2) (z_X12_tried_17 σ) := by
    unfold z_X12_tried_17
    exact tz_some ⟨(tq_w tk_m1 (by decide) (by decide)), hT⟩
  refine tz_if _ (fun c9667 => ?_) (fun c9667 => ?_)
  ·
    have i1_t_2 : tq_iv 0 0 t_2 := tq_cut i_t_2 (tq_eqL c9667 tk_0) (by decide) (by decide)
    exact K_17 
  ·
    have i2_x1 : tq_iv 0 5 x1 := tq_cut (tq_top x1) (g_t_2 c9667) (by decide) (by decide)
    have i3_t_2 : tq_iv 1 1 t_2 := tq_w (tq_neLo c9667 i_t_2 tk_0) (by decide) (by decide)
    refine tz_be (tg_12_66 hT k_h0) (fun t_9 e9666 i_t_9 => ?_)
    refine tz_if _ (fun c9665 => ?_) (fun c9665 => ?_)
    ·
      have i4_t_9 : tq_iv 30 30 t_9 := tq_cut i_t_9 (tq_eqL c9665 tk_30) (by decide) (by decide)
      exact K_17 
    ·
      have i5_t_9 : tq_iv 0 29 t_9 := tq_w (tq_neHi c9665 i_t_9 tk_30) (by decide) (by decide)
      refine tz_bk (tr_62 hT k_h0) ?_
      refine tz_ba e9666 (fun t_24 e9663 a9663 => ?_)
      have i6_t_24 : tq_iv 0 29 t_24 := tq_eqL a9663 i5_t_9
      refine tz_be (tz_is hT tc_211 (te_211 (p := p)) i6_t_24 (by decide) (by decide) i2_x1) (fun σ9662 e9662 T9662 => ?_)
      refine tz_bk (tr_63 T9662 k_h0) ?_
      refine tz_ba ((fr_is_gi e9662).trans e9666) (fun t_34 e9660 a9660 => ?_)
      have i7_t_34 : tq_iv 0 29 t_34 := tq_eqL a9660 i5_t_9
      have K_46 : ∀ (y2_46 : Int32), tq_iv 0 1 y2_46 → (¬ y2_46 = 0 → tq_iv 1 1 x2) → tz_O (fun z : Int32 × ez_H => (fun (z : Int32) (s : ez_H) => tq_iv (-1) 29 z ∧ tp p s) z.1 z.2) (z_X12_tried_46 σ9662 h0 212 t_34 y2_46) := by
        intro y2_46 i_y2_46 g46_y2_46_x2
        unfold z_X12_tried_46
        refine tz_be (tz_is T9662 tc_212 (te_0 (p := p)) i7_t_34 (by decide) (by decide) (tq_top y2_46)) (fun σ9654 e9654 T9654 => ?_)
        refine tz_bk (tr_64 T9654 k_h0) ?_
        refine tz_ba ((fr_is_gi e9654).trans ((fr_is_gi e9662).trans e9666)) (fun t_52 e9652 a9652 => ?_)
        have i8_t_52 : tq_iv 0 29 t_52 := tq_eqL a9652 i5_t_9
        refine tz_be (tg_12_67 T9654 k_h0) (fun t_56 e9651 i_t_56 => ?_)
        refine tz_be (tz_is T9654 tc_213 (te_0 (p := p)) i8_t_52 (by decide) (by decide) (tq_top t_56)) (fun σ9650 e9650 T9650 => ?_)
        refine tz_bk (tr_65 T9650 k_h0) ?_
        refine tz_ba ((fr_is_gi e9650).trans ((fr_is_gi e9654).trans ((fr_is_gi e9662).trans e9666))) (fun t_65 e9648 a9648 => ?_)
        have i9_t_65 : tq_iv 0 29 t_65 := tq_eqL a9648 i5_t_9
        refine tz_be (tz_is T9650 tc_214 (te_0 (p := p)) i9_t_65 (by decide) (by decide) (tq_top (-1 : Int32))) (fun σ9647 e9647 T9647 => ?_)
        refine tz_ba ((fr_is_gi e9647).trans ((fr_is_gi e9650).trans ((fr_is_gi e9654).trans ((fr_is_gi e9662).trans e9666)))) (fun t_72 e9646 a9646 => ?_)
        have i10_t_72 : tq_iv 0 29 t_72 := tq_eqL a9646 i5_t_9
        refine tz_let (fun t_76 e9645 => ?_)
        have i11_t_76 : tq_iv 1 30 t_76 := tq_w (tq_add e9645 i10_t_72 tk_1 (by decide) (by decide)) (by decide) (by decide)
        refine tz_be (tw_12_66 T9647 k_h0 (tq_w i11_t_76 (by decide) (by decide))) (fun σ9644 e9644 T9644 => ?_)
        refine tz_ba (fr_pf_gi e9644) (fun t_81 e9643 a9643 => ?_)
        have i12_t_81 : tq_iv 1 30 t_81 := tq_eqL a9643 i11_t_76
        refine tz_let (fun t_85 e9642 => ?_)
        have i13_t_85 : tq_iv 0 29 t_85 := tq_w (tq_sub e9642 i12_t_81 tk_1 (by decide) (by decide)) (by decide) (by decide)
        exact tz_some ⟨(tq_w i13_t_85 (by decide) (by decide)), T9644⟩
      refine tz_if _ (fun c9659 => ?_) (fun c9659 => ?_)
      ·
        have i14_x2 : tq_iv 0 0 x2 := tq_cut i_x2 (tq_eqL c9659 tk_0) (by decide) (by decide)
        exact K_46 (0 : Int32) (tq_w tk_0 (by decide) (by decide)) (fun h => absurd rfl h)
      ·
        have i15_x2 : tq_iv 1 1 x2 := tq_w (tq_neLo c9659 i_x2 tk_0) (by decide) (by decide)
        exact K_46 (1 : Int32) (tq_w tk_1 (by decide) (by decide)) (fun _ => i15_x2)
set_option maxRecDepth 4000 in
theorem tz_X12_twin {p : tz_P} {σ : ez_H} {h0 : Nat} {x1 : Int32} (hT : tp p σ) (k_h0 : tz_C h0 = some (3, 12, 0, 0)) : tz_O (fun z => tq_iv (-1) 7 z) (z_X12_twin σ h0 x1) := by
  unfold z_X12_twin
  refine tz_bd (tz_ob hT k_h0) (fun _ _ => ?_)
  refine tz_bd (tz_X12_isKey hT k_h0) (fun t_2 ⟨i_t_2, g_t_2⟩ => ?_)
  refine tz_if _ (fun c9687 => ?_) (fun c9687 => ?_)
  ·
    have i1_t_2 : tq_iv 0 0 t_2 := tq_cut i_t_2 (tq_eqL c9687 tk_0) (by decide) (by decide)
    exact tz_some (tq_w tk_m1 (by decide) (by decide))
  ·
    have i2_x1 : tq_iv 0 7 x1 := tq_cut (tq_top x1) (g_t_2 c9687) (by decide) (by decide)
    have i3_t_2 : tq_iv 1 1 t_2 := tq_w (tq_neLo c9687 i_t_2 tk_0) (by decide) (by decide)
    have L_14 : ∀ (n_14 : Nat) (k_14 : Nat → Int32 → Int32 → Int32 → Option (Int32)), (∀ (x2_14 : Int32) (x3_14 : Int32), tq_iv (-1) 7 x2_14 → tq_iv 0 8 x3_14 → (2147483647 - x3_14.toInt).toNat < n_14 → tz_O (fun (z : Int32) => tq_iv (-1) 7 z) (k_14 h0 x1 x2_14 x3_14)) → ∀ (x2_14 : Int32) (x3_14 : Int32), tq_iv (-1) 7 x2_14 → tq_iv 0 8 x3_14 → (2147483647 - x3_14.toInt).toNat < n_14 + 1 → tz_O (fun (z : Int32) => tq_iv (-1) 7 z) (z_X12_twin_14 σ k_14 h0 x1 x2_14 x3_14) := by
      intro n_14 k_14 hk_14 x2_14 x3_14 i_x2_14 i_x3_14 hn_14
      unfold z_X12_twin_14
      refine tz_bd (tz_X12_many hT k_h0) (fun t_16 i_t_16 => ?_)
      refine tz_if _ (fun c9683 => ?_) (fun c9683 => ?_)
      ·
        exact tz_some i_x2_14
      ·
        have i4_x3_14 : tq_iv 0 7 x3_14 := tq_cut i_x3_14 (tq_ltL (tq_nle c9683) i_x3_14 i_t_16) (by decide) (by decide)
        have i5_t_16 : tq_iv 1 8 t_16 := tq_cut i_t_16 (tq_ltR (tq_nle c9683) i_x3_14 i_t_16) (by decide) (by decide)
        have K_48 : ∀ (x2_48 : Int32), tq_iv (-1) 7 x2_48 → tz_O (fun (z : Int32) => tq_iv (-1) 7 z) (z_X12_twin_48 σ k_14 h0 x1 x2_48 x3_14) := by
          intro x2_48 i_x2_48
          unfold z_X12_twin_48
          refine tz_let (fun t_48 e9671 => ?_)
          have i6_t_48 : tq_iv 1 8 t_48 := tq_w (tq_add e9671 i4_x3_14 tk_1 (by decide) (by decide)) (by decide) (by decide)
          exact hk_14 x2_48 t_48 i_x2_48 (tq_w i6_t_48 (by decide) (by decide)) (tq_up e9671 i4_x3_14 tk_1 (by decide) (by decide) hn_14)
        refine tz_if _ (fun c9682 => ?_) (fun c9682 => ?_)
        ·
          exact K_48 x2_14 i_x2_14
        ·
          have K_46 : tz_O (fun (z : Int32) => tq_iv (-1) 7 z) (z_X12_twin_46 σ k_14 h0 x1 x3_14) := by
            unfold z_X12_twin_46
            exact K_48 x3_14 (tq_w i4_x3_14 (by decide) (by decide))
          refine tz_if _ (fun c9681 => ?_) (fun c9681 => ?_)
          ·
            have i7_x2_14 : tq_iv (-1) (-1) x2_14 := tq_cut i_x2_14 (tq_ltL c9681 i_x2_14 tk_0) (by decide) (by decide)
            exact K_46 
          ·
            have i8_x2_14 : tq_iv 0 7 x2_14 := tq_cut i_x2_14 (tq_leR (tq_nlt c9681) tk_0 i_x2_14) (by decide) (by decide)
            refine tz_bd (tz_X12_span hT k_h0) (fun t_34 i_t_34 => ?_)
            refine tz_bd (tz_X12_span hT k_h0) (fun t_40 i_t_40 => ?_)
            refine tz_if _ (fun c9678 => ?_) (fun c9678 => ?_)
            ·
              exact K_48 x2_14 (tq_w i8_x2_14 (by decide) (by decide))
            ·
              have i9_t_34 : tq_iv (-2147483648) 2147483646 t_34 := tq_cut (tq_top t_34) (tq_ltL (tq_nle c9678) (tq_top t_34) (tq_top t_40)) (by decide) (by decide)
              have i10_t_40 : tq_iv (-2147483647) 2147483647 t_40 := tq_cut (tq_top t_40) (tq_ltR (tq_nle c9678) (tq_top t_34) (tq_top t_40)) (by decide) (by decide)
              exact K_46 
    have E_14 : ∀ (x2_14 : Int32) (x3_14 : Int32), tq_iv (-1) 7 x2_14 → tq_iv 0 8 x3_14 → tz_O (fun (z : Int32) => tq_iv (-1) 7 z) (ez_fix (fun _ _ _ _ => none) (z_X12_twin_14 σ) ez_N h0 x1 x2_14 x3_14) := by
      intro x2_14 x3_14 i_x2_14 i_x3_14
      exact ez_fix_indn (fun n_14 (k_14 : Nat → Int32 → Int32 → Int32 → Option (Int32)) => ∀ (x2_14 : Int32) (x3_14 : Int32), tq_iv (-1) 7 x2_14 → tq_iv 0 8 x3_14 → (2147483647 - x3_14.toInt).toNat < n_14 → tz_O (fun (z : Int32) => tq_iv (-1) 7 z) (k_14 h0 x1 x2_14 x3_14)) (by intros; rename_i h; exact absurd h (Nat.not_lt_zero _)) L_14 ez_N x2_14 x3_14 i_x2_14 i_x3_14 (tq_m0 x3_14)
    exact E_14 (-1 : Int32) (0 : Int32) (tq_w tk_m1 (by decide) (by decide)) (tq_w tk_0 (by decide) (by decide))
theorem tz_X12_undo {p : tz_P} {σ : ez_H} {h0 : Nat} (hT : tp p σ) (k_h0 : tz_C h0 = some (3, 12, 0, 0)) (hpq : p.1 4 + p.1 5 ≤ 40) : tz_O2 (fun (z : Int32) (s : ez_H) => tp p s ∨ tp (up (up p 4 (p.1 4 - 1)) 5 (p.1 5 + 1)) s) (z_X12_undo σ h0) := by
  have e0 : (0 : Int32).toInt = 0 := by decide
  have e1 : (1 : Int32).toInt = 1 := by decide
  have g4 := hT.1.2.2.2.2.1
  have g5 := hT.1.2.2.2.2.2.1
  unfold z_X12_undo
  refine tz_bd (tz_ob hT k_h0) (fun _ _ => ?_)
  refine tz_be (tz_gi hT k_h0 (tf_12_60 (p := p))) (fun t1 et1 i1 => ?_)
  obtain ⟨j1, j2⟩ := i1
  refine tz_if _ (fun _ => tz_some (Or.inl hT)) (fun c => ?_)
  have c := ne_c c
  refine tz_bk et1 ?_
  refine tz_let (fun t15 e15 => ?_)
  have h15 := tq_subT (x := t1) (a := 0) (b := 40) ⟨by omega, by omega⟩ tk_1 (by decide) (by decide)
  rw [← e15] at h15
  refine tz_bd (tz_up4 (v := p.1 4 - 1) hT k_h0 (by omega) (by omega) (by omega)) (fun s2 hs2 => ?_)
  refine tz_bd (tz_gi hs2 k_h0 (tf_12_61 (p := up p 4 (p.1 4 - 1)))) (fun t21 i21 => ?_)
  have i21 : tq_iv 0 (p.1 5) t21 := i21
  obtain ⟨k1, k2⟩ := i21
  refine tz_let (fun t25 e25 => ?_)
  have h25 := tq_addT (x := t21) (a := 0) (b := 40) ⟨by omega, by omega⟩ tk_1 (by decide) (by decide)
  rw [← e25] at h25
  refine tz_bd (tz_up5 (v := p.1 5 + 1) hs2 k_h0 (by omega) (by omega) (by omega)) (fun s3 hs3 => ?_)
  refine tz_b2 (tz_X12_swapAll hs3 k_h0) (fun _ s4 hs4 => ?_)
  exact tz_some (Or.inr hs4.1)
set_option maxRecDepth 4000 in
theorem tz_X12_untell {p : tz_P} {σ : ez_H} {h0 : Nat} {x1 : Int32} (hT : tp p σ) (k_h0 : tz_C h0 = some (3, 12, 0, 0)) : tz_O2 (fun (z : Int32) (s : ez_H) => tq_iv 0 1 z ∧ tp p s) (z_X12_untell σ h0 x1) := by
  show tz_O (fun z : Int32 × ez_H => (fun (z : Int32) (s : ez_H) => tq_iv 0 1 z ∧ tp p s) z.1 z.2) _
  unfold z_X12_untell
  refine tz_bd (tz_ob hT k_h0) (fun _ _ => ?_)
  refine tz_be (tg_12_66 hT k_h0) (fun t_3 e9715 i_t_3 => ?_)
  refine tz_let (fun t_7 e9714 => ?_)
  have i1_t_7 : tq_iv (-1) 29 t_7 := tq_w (tq_sub e9714 i_t_3 tk_1 (by decide) (by decide)) (by decide) (by decide)
  refine tz_bd (tz_X12_isIn hT) (fun t_8 ⟨i_t_8, g_t_8⟩ => ?_)
  have K_23 : tz_O (fun z : Int32 × ez_H => (fun (z : Int32) (s : ez_H) => tq_iv 0 1 z ∧ tp p s) z.1 z.2) (z_X12_untell_23 σ) := by
    unfold z_X12_untell_23
    exact tz_some ⟨(tq_w tk_0 (by decide) (by decide)), hT⟩
  refine tz_if _ (fun c9712 => ?_) (fun c9712 => ?_)
  ·
    have i2_t_8 : tq_iv 0 0 t_8 := tq_cut i_t_8 (tq_eqL c9712 tk_0) (by decide) (by decide)
    exact K_23 
  ·
    have i3_x1 : tq_iv 0 29 x1 := tq_cut (tq_top x1) (tq_cut (lo := 0) (hi := 29) (tq_cut (lo := 0) (hi := 2147483647) (tq_top x1) (tq_leR (g_t_8 c9712).1 tk_0 (tq_top x1)) (by decide) (by decide)) (tq_leL (g_t_8 c9712).2 (tq_top x1) i1_t_7) (by decide) (by decide)) (by decide) (by decide)
    have i4_t_7 : tq_iv 0 29 t_7 := tq_cut i1_t_7 (tq_leR (g_t_8 c9712).2 i3_x1 i1_t_7) (by decide) (by decide)
    have i5_t_8 : tq_iv 1 1 t_8 := tq_w (tq_neLo c9712 i_t_8 tk_0) (by decide) (by decide)
    refine tz_bk (tr_65 hT k_h0) ?_
    refine tz_be (tz_ia hT tc_214 (te_0 (p := p)) i3_x1 (by decide) (by decide)) (fun t_19 e9710 i_t_19 => ?_)
    refine tz_if _ (fun c9709 => ?_) (fun c9709 => ?_)
    ·
      have i6_t_19 : tq_iv (-2147483648) (-1) t_19 := tq_cut (tq_top t_19) (tq_ltL c9709 (tq_top t_19) tk_0) (by decide) (by decide)
      refine tz_bk (tr_65 hT k_h0) ?_
      refine tz_be (tg_12_67 hT k_h0) (fun t_31 e9706 i_t_31 => ?_)
      refine tz_be (tz_is hT tc_214 (te_0 (p := p)) i3_x1 (by decide) (by decide) (tq_top t_31)) (fun σ9705 e9705 T9705 => ?_)
      exact tz_some ⟨(tq_w tk_1 (by decide) (by decide)), T9705⟩
    ·
      have i7_t_19 : tq_iv 0 2147483647 t_19 := tq_cut (tq_top t_19) (tq_leR (tq_nlt c9709) tk_0 (tq_top t_19)) (by decide) (by decide)
      exact K_23
