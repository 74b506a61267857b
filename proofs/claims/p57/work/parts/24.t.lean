set_option maxRecDepth 4000 in
theorem tz_X4_readLine {p : tz_P} {σ : ez_H} {h0 : Nat} (hT : tp p σ) (k_h0 : tz_C h0 = some (3, 4, 0, 0)) : tz_O2 (fun (z : Int32) (s : ez_H) => tq_iv 0 1 z ∧ tp p s) (z_X4_readLine σ h0) := by
  show tz_O (fun z : Int32 × ez_H => (fun (z : Int32) (s : ez_H) => tq_iv 0 1 z ∧ tp p s) z.1 z.2) _
  unfold z_X4_readLine
  refine tz_bd (tz_ob hT k_h0) (fun _ _ => ?_)
  refine tz_be (tg_4_3 hT k_h0) (fun t_1 e5435 k_t_1 => ?_)
  refine tz_be (tg_9_4 hT k_t_1) (fun t_4 e5434 i_t_4 => ?_)
  refine tz_if _ (fun c5433 => ?_) (fun c5433 => ?_)
  ·
    have i1_t_4 : tq_iv 0 0 t_4 := tq_cut (tq_top t_4) (tq_eqL c5433 tk_0) (by decide) (by decide)
    refine tz_b2 (tz_X4_readOnce hT k_h0 (tq_w tk_2 (by decide) (by decide)) (tq_w tk_5 (by decide) (by decide))) (fun t_71 σ5382 ⟨i_t_71, T5382⟩ => ?_)
    refine tz_nr (tq_nr_boolean i_t_71) ?_
    exact tz_some ⟨i_t_71, T5382⟩
  ·
    refine tz_if _ (fun c5432 => ?_) (fun c5432 => ?_)
    ·
      have i2_t_4 : tq_iv 1 1 t_4 := tq_cut (tq_top t_4) (tq_eqL c5432 tk_1) (by decide) (by decide)
      refine tz_b2 (tz_X4_readOnce hT k_h0 (tq_w tk_2 (by decide) (by decide)) (tq_w tk_6 (by decide) (by decide))) (fun t_79 σ5385 ⟨i_t_79, T5385⟩ => ?_)
      refine tz_nr (tq_nr_boolean i_t_79) ?_
      exact tz_some ⟨i_t_79, T5385⟩
    ·
      refine tz_if _ (fun c5431 => ?_) (fun c5431 => ?_)
      ·
        have i3_t_4 : tq_iv 2 2 t_4 := tq_cut (tq_top t_4) (tq_eqL c5431 tk_2) (by decide) (by decide)
        refine tz_b2 (tz_X4_readOnce hT k_h0 (tq_w tk_0 (by decide) (by decide)) (tq_w tk_5 (by decide) (by decide))) (fun t_86 σ5388 ⟨i_t_86, T5388⟩ => ?_)
        refine tz_nr (tq_nr_boolean i_t_86) ?_
        exact tz_some ⟨i_t_86, T5388⟩
      ·
        refine tz_if _ (fun c5430 => ?_) (fun c5430 => ?_)
        ·
          have i4_t_4 : tq_iv 3 3 t_4 := tq_cut (tq_top t_4) (tq_eqL c5430 tk_3) (by decide) (by decide)
          refine tz_b2 (tz_X4_readKey hT k_h0) (fun t_91 σ5391 ⟨i_t_91, T5391⟩ => ?_)
          refine tz_nr (tq_nr_boolean i_t_91) ?_
          exact tz_some ⟨i_t_91, T5391⟩
        ·
          refine tz_if _ (fun c5429 => ?_) (fun c5429 => ?_)
          ·
            have i5_t_4 : tq_iv 4 4 t_4 := tq_cut (tq_top t_4) (tq_eqL c5429 tk_4) (by decide) (by decide)
            refine tz_b2 (tz_X4_readLock hT k_h0) (fun t_96 σ5394 ⟨i_t_96, T5394⟩ => ?_)
            refine tz_nr (tq_nr_boolean i_t_96) ?_
            exact tz_some ⟨i_t_96, T5394⟩
          ·
            refine tz_if _ (fun c5428 => ?_) (fun c5428 => ?_)
            ·
              have i6_t_4 : tq_iv 5 5 t_4 := tq_cut (tq_top t_4) (tq_eqL c5428 tk_5) (by decide) (by decide)
              refine tz_b2 (tz_X4_readRoom hT k_h0) (fun t_101 σ5397 ⟨i_t_101, T5397⟩ => ?_)
              refine tz_nr (tq_nr_boolean i_t_101) ?_
              exact tz_some ⟨i_t_101, T5397⟩
            ·
              refine tz_if _ (fun c5427 => ?_) (fun c5427 => ?_)
              ·
                have i7_t_4 : tq_iv 6 6 t_4 := tq_cut (tq_top t_4) (tq_eqL c5427 tk_6) (by decide) (by decide)
                refine tz_b2 (tz_X4_readDoor hT k_h0) (fun t_106 σ5400 ⟨i_t_106, T5400⟩ => ?_)
                refine tz_nr (tq_nr_boolean i_t_106) ?_
                exact tz_some ⟨i_t_106, T5400⟩
              ·
                refine tz_if _ (fun c5426 => ?_) (fun c5426 => ?_)
                ·
                  have i8_t_4 : tq_iv 7 7 t_4 := tq_cut (tq_top t_4) (tq_eqL c5426 tk_7) (by decide) (by decide)
                  refine tz_b2 (tz_X4_readPerson hT k_h0) (fun t_111 σ5403 ⟨i_t_111, T5403⟩ => ?_)
                  refine tz_nr (tq_nr_boolean i_t_111) ?_
                  exact tz_some ⟨i_t_111, T5403⟩
                ·
                  have K_115 : tq_iv 8 9 t_4 → tz_O (fun z : Int32 × ez_H => (fun (z : Int32) (s : ez_H) => tq_iv 0 1 z ∧ tp p s) z.1 z.2) (z_X4_readLine_115 σ h0) := by
                    intro j115_t_4
                    unfold z_X4_readLine_115
                    refine tz_b2 (tz_X4_readRule hT k_h0) (fun t_116 σ5376 ⟨i_t_116, T5376⟩ => ?_)
                    refine tz_nr (tq_nr_boolean i_t_116) ?_
                    exact tz_some ⟨i_t_116, T5376⟩
                  refine tz_if _ (fun c5425 => ?_) (fun c5425 => ?_)
                  ·
                    have i9_t_4 : tq_iv 8 8 t_4 := tq_cut (tq_top t_4) (tq_eqL c5425 tk_8) (by decide) (by decide)
                    exact K_115 (tq_w i9_t_4 (by decide) (by decide))
                  ·
                    refine tz_if _ (fun c5424 => ?_) (fun c5424 => ?_)
                    ·
                      have i10_t_4 : tq_iv 9 9 t_4 := tq_cut (tq_top t_4) (tq_eqL c5424 tk_9) (by decide) (by decide)
                      exact K_115 (tq_w i10_t_4 (by decide) (by decide))
                    ·
                      refine tz_if _ (fun c5423 => ?_) (fun c5423 => ?_)
                      ·
                        have i11_t_4 : tq_iv 10 10 t_4 := tq_cut (tq_top t_4) (tq_eqL c5423 tk_10) (by decide) (by decide)
                        refine tz_b2 (tz_X4_beginOnce hT k_h0) (fun t_121 σ5415 ⟨i_t_121, T5415⟩ => ?_)
                        have K_149 : ∀ (σ_149 : ez_H) (y0_149 : Int32), tp p σ_149 → tq_iv 0 1 y0_149 → (¬ y0_149 = 0 → tq_iv 1 1 t_121) → tz_O (fun z : Int32 × ez_H => (fun (z : Int32) (s : ez_H) => tq_iv 0 1 z ∧ tp p s) z.1 z.2) (z_X4_readLine_149 σ_149 y0_149) := by
                          intro σ_149 y0_149 T_σ_149 i_y0_149 g149_y0_149_t_121
                          unfold z_X4_readLine_149
                          refine tz_nr (tq_nr_boolean i_y0_149) ?_
                          exact tz_some ⟨i_y0_149, T_σ_149⟩
                        have K_148 : ∀ (σ_148 : ez_H), tp p σ_148 → tz_O (fun z : Int32 × ez_H => (fun (z : Int32) (s : ez_H) => tq_iv 0 1 z ∧ tp p s) z.1 z.2) (z_X4_readLine_148 σ_148) := by
                          intro σ_148 T_σ_148
                          unfold z_X4_readLine_148
                          exact K_149 σ_148 (0 : Int32) T_σ_148 (tq_w tk_0 (by decide) (by decide)) (fun h => absurd rfl h)
                        refine tz_if _ (fun c5414 => ?_) (fun c5414 => ?_)
                        ·
                          have i12_t_121 : tq_iv 0 0 t_121 := tq_cut i_t_121 (tq_eqL c5414 tk_0) (by decide) (by decide)
                          exact K_148 σ5415 T5415
                        ·
                          have i13_t_121 : tq_iv 1 1 t_121 := tq_w (tq_neLo c5414 i_t_121 tk_0) (by decide) (by decide)
                          refine tz_b2 (tz_X4_readEither_k0 T5415 k_h0) (fun t_129 σ5413 ⟨i_t_129, T5413⟩ => ?_)
                          refine tz_if _ (fun c5412 => ?_) (fun c5412 => ?_)
                          ·
                            have i14_t_129 : tq_iv 0 0 t_129 := tq_cut i_t_129 (tq_eqL c5412 tk_0) (by decide) (by decide)
                            exact K_148 σ5413 T5413
                          ·
                            have i15_t_129 : tq_iv 1 1 t_129 := tq_w (tq_neLo c5412 i_t_129 tk_0) (by decide) (by decide)
                            refine tz_b2 (tz_X4_expect T5413 k_h0 (tq_w tk_59 (by decide) (by decide))) (fun t_138 σ5411 ⟨i_t_138, T5411, W5411⟩ => ?_)
                            refine tz_if _ (fun c5410 => ?_) (fun c5410 => ?_)
                            ·
                              have i16_t_138 : tq_iv 0 0 t_138 := tq_cut i_t_138 (tq_eqL c5410 tk_0) (by decide) (by decide)
                              exact K_148 σ5411 T5411
                            ·
                              have i17_t_138 : tq_iv 1 1 t_138 := tq_w (tq_neLo c5410 i_t_138 tk_0) (by decide) (by decide)
                              exact K_149 σ5411 (1 : Int32) T5411 (tq_w tk_1 (by decide) (by decide)) (fun _ => i13_t_121)
                      ·
                        refine tz_if _ (fun c5422 => ?_) (fun c5422 => ?_)
                        ·
                          have i18_t_4 : tq_iv 11 11 t_4 := tq_cut (tq_top t_4) (tq_eqL c5422 tk_11) (by decide) (by decide)
                          refine tz_b2 (tz_X4_readOnce hT k_h0 (tq_w tk_0 (by decide) (by decide)) (tq_w tk_999 (by decide) (by decide))) (fun t_155 σ5418 ⟨i_t_155, T5418⟩ => ?_)
                          refine tz_nr (tq_nr_boolean i_t_155) ?_
                          exact tz_some ⟨i_t_155, T5418⟩
                        ·
                          refine tz_b2 (tz_X4_refuse hT k_h0) (fun t_160 σ5421 ⟨i_t_160, T5421, W5421⟩ => ?_)
                          refine tz_nr (tq_nr_boolean (tq_w i_t_160 (by decide) (by decide))) ?_
                          exact tz_some ⟨(tq_w i_t_160 (by decide) (by decide)), T5421⟩
set_option maxRecDepth 4000 in
theorem tz_X4_readAll {p : tz_P} {σ : ez_H} {h0 : Nat} {x1 : Int32} (hT : tp p σ) (k_h0 : tz_C h0 = some (3, 4, 0, 0)) : tz_O2 (fun (z : Int32) (s : ez_H) => tq_iv 0 1 z ∧ tp p s) (z_X4_readAll σ h0 x1) := by
  show tz_O (fun z : Int32 × ez_H => (fun (z : Int32) (s : ez_H) => tq_iv 0 1 z ∧ tp p s) z.1 z.2) _
  unfold z_X4_readAll
  refine tz_bd (tz_ob hT k_h0) (fun _ _ => ?_)
  refine tz_be (tg_4_0 hT k_h0) (fun t_1 e5457 k_t_1 => ?_)
  refine tz_b2 (tz_X3_clear hT k_t_1) (fun _ σ5456 T5456 => ?_)
  refine tz_be (tw_4_1 T5456 k_h0 (tq_top (0 : Int32))) (fun σ5455 e5455 T5455 => ?_)
  refine tz_be (tw_4_2 T5455 k_h0 (tq_top (-1 : Int32))) (fun σ5454 e5454 T5454 => ?_)
  refine tz_be (tw_4_5 T5454 k_h0 (tq_top (0 : Int32))) (fun σ5453 e5453 T5453 => ?_)
  refine tz_be (tg_4_3 T5453 k_h0) (fun t_23 e5452 k_t_23 => ?_)
  refine tz_b2 (tz_X9_begin T5453 k_t_23) (fun _ σ5451 T5451 => ?_)
  have L_34 : ∀ (n_34 : Nat) (k_34 : ez_H → Nat → Int32 → Int32 → Option (Int32 × ez_H)), (∀ (σ_34 : ez_H) (x2_34 : Int32) (x3_34 : Int32), tp p σ_34 → tq_iv 0 1 x2_34 → tq_iv 0 1601 x3_34 → (2147483647 - x3_34.toInt).toNat < n_34 → tz_O (fun z : Int32 × ez_H => (fun (z : Int32) (s : ez_H) => tq_iv 0 1 z ∧ tp p s) z.1 z.2) (k_34 σ_34 h0 x2_34 x3_34)) → ∀ (σ_34 : ez_H) (x2_34 : Int32) (x3_34 : Int32), tp p σ_34 → tq_iv 0 1 x2_34 → tq_iv 0 1601 x3_34 → (2147483647 - x3_34.toInt).toNat < n_34 + 1 → tz_O (fun z : Int32 × ez_H => (fun (z : Int32) (s : ez_H) => tq_iv 0 1 z ∧ tp p s) z.1 z.2) (z_X4_readAll_34 k_34 σ_34 h0 x2_34 x3_34) := by
    intro n_34 k_34 hk_34 σ_34 x2_34 x3_34 T_σ_34 i_x2_34 i_x3_34 hn_34
    unfold z_X4_readAll_34
    have K_68 : tz_O (fun z : Int32 × ez_H => (fun (z : Int32) (s : ez_H) => tq_iv 0 1 z ∧ tp p s) z.1 z.2) (z_X4_readAll_68 σ_34 x2_34) := by
      unfold z_X4_readAll_68
      refine tz_nr (tq_nr_boolean i_x2_34) ?_
      exact tz_some ⟨i_x2_34, T_σ_34⟩
    refine tz_if _ (fun c5449 => ?_) (fun c5449 => ?_)
    ·
      have i1_x3_34 : tq_iv 1601 1601 x3_34 := tq_cut i_x3_34 (tq_ltR c5449 tk_1600 i_x3_34) (by decide) (by decide)
      exact K_68 
    ·
      have i2_x3_34 : tq_iv 0 1600 x3_34 := tq_cut i_x3_34 (tq_leL (tq_nlt c5449) i_x3_34 tk_1600) (by decide) (by decide)
      refine tz_if _ (fun c5448 => ?_) (fun c5448 => ?_)
      ·
        have i3_x2_34 : tq_iv 0 0 x2_34 := tq_cut i_x2_34 (tq_eqL c5448 tk_0) (by decide) (by decide)
        exact K_68 
      ·
        have i4_x2_34 : tq_iv 1 1 x2_34 := tq_w (tq_neLo c5448 i_x2_34 tk_0) (by decide) (by decide)
        refine tz_be (tg_4_3 T_σ_34 k_h0) (fun t_46 e5447 k_t_46 => ?_)
        refine tz_be (tg_9_4 T_σ_34 k_t_46) (fun t_49 e5446 i_t_49 => ?_)
        refine tz_if _ (fun c5445 => ?_) (fun c5445 => ?_)
        ·
          have i5_t_49 : tq_iv 26 26 t_49 := tq_cut (tq_top t_49) (tq_eqL c5445 tk_26) (by decide) (by decide)
          exact K_68 
        ·
          refine tz_b2 (tz_X4_readLine T_σ_34 k_h0) (fun t_58 σ5444 ⟨i_t_58, T5444⟩ => ?_)
          refine tz_let (fun t_62 e5443 => ?_)
          have i6_t_62 : tq_iv 1 1601 t_62 := tq_w (tq_add e5443 i2_x3_34 tk_1 (by decide) (by decide)) (by decide) (by decide)
          exact hk_34 σ5444 t_58 t_62 T5444 i_t_58 (tq_w i6_t_62 (by decide) (by decide)) (tq_up e5443 i2_x3_34 tk_1 (by decide) (by decide) hn_34)
  have E_34 : ∀ (σ_34 : ez_H) (x2_34 : Int32) (x3_34 : Int32), tp p σ_34 → tq_iv 0 1 x2_34 → tq_iv 0 1601 x3_34 → tz_O (fun z : Int32 × ez_H => (fun (z : Int32) (s : ez_H) => tq_iv 0 1 z ∧ tp p s) z.1 z.2) (ez_fix (fun _ _ _ _ => none) (z_X4_readAll_34) ez_N σ_34 h0 x2_34 x3_34) := by
    intro σ_34 x2_34 x3_34 T_σ_34 i_x2_34 i_x3_34
    exact ez_fix_indn (fun n_34 (k_34 : ez_H → Nat → Int32 → Int32 → Option (Int32 × ez_H)) => ∀ (σ_34 : ez_H) (x2_34 : Int32) (x3_34 : Int32), tp p σ_34 → tq_iv 0 1 x2_34 → tq_iv 0 1601 x3_34 → (2147483647 - x3_34.toInt).toNat < n_34 → tz_O (fun z : Int32 × ez_H => (fun (z : Int32) (s : ez_H) => tq_iv 0 1 z ∧ tp p s) z.1 z.2) (k_34 σ_34 h0 x2_34 x3_34)) (by intros; rename_i h; exact absurd h (Nat.not_lt_zero _)) L_34 ez_N σ_34 x2_34 x3_34 T_σ_34 i_x2_34 i_x3_34 (tq_m0 x3_34)
  exact E_34 σ5451 (1 : Int32) (0 : Int32) T5451 (tq_w tk_1 (by decide) (by decide)) (tq_w tk_0 (by decide) (by decide))
set_option maxRecDepth 4000 in
theorem tz_X6_copyFrom {p : tz_P} {σ : ez_H} {h0 : Nat} {h1 : Nat} (hT : tp p σ) (k_h0 : tz_C h0 = some (3, 6, 0, 0)) (k_h1 : tz_C h1 = some (3, 6, 0, 0)) : tz_O2 (fun (z : Unit) (s : ez_H) => tp p s) (z_X6_copyFrom σ h0 h1) := by
  show tz_O (fun z : Unit × ez_H => (fun (z : Unit) (s : ez_H) => tp p s) z.1 z.2) _
  unfold z_X6_copyFrom
  refine tz_bd (tz_ob hT k_h0) (fun _ _ => ?_)
  refine tz_be (tg_6_0 hT k_h1) (fun t_2 e5465 i_t_2 => ?_)
  refine tz_be (tw_6_0 hT k_h0 i_t_2) (fun σ5464 e5464 T5464 => ?_)
  refine tz_be (tg_6_1 T5464 k_h1) (fun t_10 e5463 i_t_10 => ?_)
  refine tz_be (tw_6_1 T5464 k_h0 i_t_10) (fun σ5462 e5462 T5462 => ?_)
  refine tz_be (tg_6_2 T5462 k_h1) (fun t_18 e5461 i_t_18 => ?_)
  refine tz_be (tw_6_2 T5462 k_h0 i_t_18) (fun σ5460 e5460 T5460 => ?_)
  exact tz_some T5460
set_option maxRecDepth 4000 in
theorem tz_X0_copyFrom {p : tz_P} {σ : ez_H} {h0 : Nat} {h1 : Nat} (hT : tp p σ) (k_h0 : tz_C h0 = some (3, 0, 0, 0)) (k_h1 : tz_C h1 = some (3, 0, 0, 0)) : tz_O2 (fun (z : Unit) (s : ez_H) => tp p s) (z_X0_copyFrom σ h0 h1) := by
  show tz_O (fun z : Unit × ez_H => (fun (z : Unit) (s : ez_H) => tp p s) z.1 z.2) _
  unfold z_X0_copyFrom
  refine tz_bd (tz_ob hT k_h0) (fun _ _ => ?_)
  refine tz_be (tg_0_0 hT k_h1) (fun t_2 e5477 i_t_2 => ?_)
  refine tz_be (tw_0_0 hT k_h0 (tq_top t_2)) (fun σ5476 e5476 T5476 => ?_)
  refine tz_be (tg_0_1 T5476 k_h1) (fun t_10 e5475 i_t_10 => ?_)
  refine tz_be (tw_0_1 T5476 k_h0 (tq_top t_10)) (fun σ5474 e5474 T5474 => ?_)
  refine tz_be (tg_0_2 T5474 k_h1) (fun t_17 e5473 k_t_17 => ?_)
  refine tz_be (tg_0_2 T5474 k_h0) (fun t_22 e5472 k_t_22 => ?_)
  refine tz_be (tz_cp T5474 k_t_17 k_t_22 (te_0 (p := p)) tk_270 (by decide) (by decide) (by decide)) (fun σ5471 e5471 T5471 => ?_)
  refine tz_be (tg_0_3 T5471 k_h1) (fun t_33 e5470 k_t_33 => ?_)
  refine tz_be (tg_0_3 T5471 k_h0) (fun t_38 e5469 k_t_38 => ?_)
  refine tz_be (tz_cp T5471 k_t_33 k_t_38 (te_0 (p := p)) tk_270 (by decide) (by decide) (by decide)) (fun σ5468 e5468 T5468 => ?_)
  exact tz_some T5468
set_option maxRecDepth 4000 in
theorem tz_X3_copyFrom {p : tz_P} {σ : ez_H} {h0 : Nat} {h1 : Nat} (hT : tp p σ) (k_h0 : tz_C h0 = some (3, 3, 0, 0)) (k_h1 : tz_C h1 = some (3, 3, 0, 0)) : tz_O2 (fun (z : Unit) (s : ez_H) => tp p s) (z_X3_copyFrom σ h0 h1) := by
  show tz_O (fun z : Unit × ez_H => (fun (z : Unit) (s : ez_H) => tp p s) z.1 z.2) _
  unfold z_X3_copyFrom
  refine tz_bd (tz_ob hT k_h0) (fun _ _ => ?_)
  refine tz_be (tg_3_0 hT k_h0) (fun t_1 e5513 k_t_1 => ?_)
  refine tz_be (tg_3_0 hT k_h1) (fun t_5 e5512 k_t_5 => ?_)
  refine tz_b2 (tz_X6_copyFrom hT k_t_1 k_t_5) (fun _ σ5511 T5511 => ?_)
  refine tz_be (tg_3_1 T5511 k_h0) (fun t_12 e5510 k_t_12 => ?_)
  refine tz_be (tg_3_1 T5511 k_h1) (fun t_16 e5509 k_t_16 => ?_)
  refine tz_b2 (tz_X0_copyFrom T5511 k_t_12 k_t_16) (fun _ σ5508 T5508 => ?_)
  refine tz_be (tg_3_2 T5508 k_h0) (fun t_23 e5507 k_t_23 => ?_)
  refine tz_be (tg_3_2 T5508 k_h1) (fun t_27 e5506 k_t_27 => ?_)
  refine tz_b2 (tz_X7_copyFrom T5508 k_t_23 k_t_27) (fun _ σ5505 T5505 => ?_)
  refine tz_be (tg_3_3 T5505 k_h1) (fun t_35 e5504 i_t_35 => ?_)
  refine tz_be (tw_3_3 T5505 k_h0 i_t_35) (fun σ5503 e5503 T5503 => ?_)
  refine tz_be (tg_3_4 T5503 k_h1) (fun t_43 e5502 i_t_43 => ?_)
  refine tz_be (tw_3_4 T5503 k_h0 (tq_top t_43)) (fun σ5501 e5501 T5501 => ?_)
  refine tz_be (tg_3_5 T5501 k_h1) (fun t_51 e5500 i_t_51 => ?_)
  refine tz_be (tw_3_5 T5501 k_h0 (tq_top t_51)) (fun σ5499 e5499 T5499 => ?_)
  refine tz_be (tg_3_6 T5499 k_h1) (fun t_59 e5498 i_t_59 => ?_)
  refine tz_be (tw_3_6 T5499 k_h0 (tq_top t_59)) (fun σ5497 e5497 T5497 => ?_)
  refine tz_be (tg_3_7 T5497 k_h1) (fun t_67 e5496 i_t_67 => ?_)
  refine tz_be (tw_3_7 T5497 k_h0 (tq_top t_67)) (fun σ5495 e5495 T5495 => ?_)
  refine tz_be (tg_3_8 T5495 k_h1) (fun t_74 e5494 k_t_74 => ?_)
  refine tz_be (tg_3_8 T5495 k_h0) (fun t_79 e5493 k_t_79 => ?_)
  refine tz_be (tz_cp T5495 k_t_74 k_t_79 (te_0 (p := p)) tk_8 (by decide) (by decide) (by decide)) (fun σ5492 e5492 T5492 => ?_)
  refine tz_be (tg_3_9 T5492 k_h1) (fun t_89 e5491 k_t_89 => ?_)
  refine tz_be (tg_3_9 T5492 k_h0) (fun t_94 e5490 k_t_94 => ?_)
  refine tz_be (tz_cp T5492 k_t_89 k_t_94 (te_0 (p := p)) tk_8 (by decide) (by decide) (by decide)) (fun σ5489 e5489 T5489 => ?_)
  refine tz_be (tg_3_10 T5489 k_h1) (fun t_104 e5488 k_t_104 => ?_)
  refine tz_be (tg_3_10 T5489 k_h0) (fun t_109 e5487 k_t_109 => ?_)
  refine tz_be (tz_cp T5489 k_t_104 k_t_109 (te_0 (p := p)) tk_8 (by decide) (by decide) (by decide)) (fun σ5486 e5486 T5486 => ?_)
  refine tz_be (tg_3_11 T5486 k_h1) (fun t_119 e5485 k_t_119 => ?_)
  refine tz_be (tg_3_11 T5486 k_h0) (fun t_124 e5484 k_t_124 => ?_)
  refine tz_be (tz_cp T5486 k_t_119 k_t_124 (te_0 (p := p)) tk_6 (by decide) (by decide) (by decide)) (fun σ5483 e5483 T5483 => ?_)
  refine tz_be (tg_3_12 T5483 k_h1) (fun t_134 e5482 k_t_134 => ?_)
  refine tz_be (tg_3_12 T5483 k_h0) (fun t_139 e5481 k_t_139 => ?_)
  refine tz_be (tz_cp T5483 k_t_134 k_t_139 (te_0 (p := p)) tk_6 (by decide) (by decide) (by decide)) (fun σ5480 e5480 T5480 => ?_)
  exact tz_some T5480
set_option maxRecDepth 4000 in
theorem tz_X10_forget {p : tz_P} {σ : ez_H} {h0 : Nat} (hT : tp p σ) (k_h0 : tz_C h0 = some (3, 10, 0, 0)) : tz_O2 (fun (z : Unit) (s : ez_H) => tp p s) (z_X10_forget σ h0) := by
  show tz_O (fun z : Unit × ez_H => (fun (z : Unit) (s : ez_H) => tp p s) z.1 z.2) _
  unfold z_X10_forget
  refine tz_bd (tz_ob hT k_h0) (fun _ _ => ?_)
  refine tz_be (tw_10_4 hT k_h0 (tq_top (0 : Int32))) (fun σ5516 e5516 T5516 => ?_)
  exact tz_some T5516
set_option maxRecDepth 4000 in
theorem tz_X2_forgetPath {p : tz_P} {σ : ez_H} {h0 : Nat} (hT : tp p σ) (k_h0 : tz_C h0 = some (3, 2, 0, 0)) : tz_O2 (fun (z : Unit) (s : ez_H) => tp p s) (z_X2_forgetPath σ h0) := by
  show tz_O (fun z : Unit × ez_H => (fun (z : Unit) (s : ez_H) => tp p s) z.1 z.2) _
  unfold z_X2_forgetPath
  refine tz_bd (tz_ob hT k_h0) (fun _ _ => ?_)
  refine tz_be (tw_2_5 hT k_h0 (tq_top (0 : Int32))) (fun σ5519 e5519 T5519 => ?_)
  exact tz_some T5519
set_option maxRecDepth 4000 in
theorem tz_X11_plan {p : tz_P} {σ : ez_H} {h0 : Nat} (hT : tp p σ) (k_h0 : tz_C h0 = some (3, 11, 0, 0)) : tz_O2 (fun (z : Int32) (s : ez_H) => tq_iv (-1) 8 z ∧ tp p s) (z_X11_plan σ h0) := by
  show tz_O (fun z : Int32 × ez_H => (fun (z : Int32) (s : ez_H) => tq_iv (-1) 8 z ∧ tp p s) z.1 z.2) _
  unfold z_X11_plan
  refine tz_bd (tz_ob hT k_h0) (fun _ _ => ?_)
  refine tz_be (tg_11_2 hT k_h0) (fun t_1 e5544 k_t_1 => ?_)
  refine tz_be (tg_11_1 hT k_h0) (fun t_5 e5543 i_t_5 => ?_)
  refine tz_b2 (tz_X4_readAll hT k_t_1) (fun t_8 σ5542 ⟨i_t_8, T5542⟩ => ?_)
  refine tz_if _ (fun c5541 => ?_) (fun c5541 => ?_)
  ·
    have i1_t_8 : tq_iv 0 0 t_8 := tq_cut i_t_8 (tq_eqL c5541 tk_0) (by decide) (by decide)
    exact tz_some ⟨(tq_w tk_m1 (by decide) (by decide)), T5542⟩
  ·
    have i2_t_8 : tq_iv 1 1 t_8 := tq_w (tq_neLo c5541 i_t_8 tk_0) (by decide) (by decide)
    refine tz_be (tg_11_3 T5542 k_h0) (fun t_17 e5540 k_t_17 => ?_)
    refine tz_be (tg_11_2 T5542 k_h0) (fun t_21 e5539 k_t_21 => ?_)
    refine tz_be (tg_4_0 T5542 k_t_21) (fun t_24 e5538 k_t_24 => ?_)
    refine tz_b2 (tz_X3_copyFrom T5542 k_t_17 k_t_24) (fun _ σ5537 T5537 => ?_)
    refine tz_be (tg_11_5 T5537 k_h0) (fun t_31 e5536 k_t_31 => ?_)
    refine tz_be (tg_11_3 T5537 k_h0) (fun t_35 e5535 k_t_35 => ?_)
    refine tz_be (tg_3_2 T5537 k_t_35) (fun t_38 e5534 k_t_38 => ?_)
    refine tz_b2 (tz_X7_copyFrom T5537 k_t_31 k_t_38) (fun _ σ5533 T5533 => ?_)
    refine tz_be (tg_11_7 T5533 k_h0) (fun t_45 e5532 k_t_45 => ?_)
    refine tz_b2 (tz_X1_forget T5533 k_t_45) (fun _ σ5531 T5531 => ?_)
    refine tz_be (tg_11_14 T5531 k_h0) (fun t_52 e5530 k_t_52 => ?_)
    refine tz_b2 (tz_X10_forget T5531 k_t_52) (fun _ σ5529 T5529 => ?_)
    refine tz_be (tg_11_12 T5529 k_h0) (fun t_59 e5528 k_t_59 => ?_)
    refine tz_b2 (tz_X2_forgetPath T5529 k_t_59) (fun _ σ5527 T5527 => ?_)
    refine tz_be (tw_11_9 T5527 k_h0 (tq_top (0 : Int32))) (fun σ5526 e5526 T5526 => ?_)
    refine tz_be (tw_11_1 T5526 k_h0 (tq_top (0 : Int32))) (fun σ5525 e5525 T5525 => ?_)
    refine tz_be (tg_11_3 T5525 k_h0) (fun t_76 e5524 k_t_76 => ?_)
    refine tz_be (tg_3_3 T5525 k_t_76) (fun t_79 e5523 i_t_79 => ?_)
    exact tz_some ⟨(tq_w i_t_79 (by decide) (by decide)), T5525⟩
set_option maxRecDepth 4000 in
theorem tz_X6_placeOf {p : tz_P} {σ : ez_H} {h0 : Nat} {x1 : Int32} (hT : tp p σ) (k_h0 : tz_C h0 = some (3, 6, 0, 0)) : tz_O2 (fun (z : Int32) (s : ez_H) => tq_iv (-2147483648) 2147483647 z ∧ tp p s) (z_X6_placeOf σ h0 x1) := by
  show tz_O (fun z : Int32 × ez_H => (fun (z : Int32) (s : ez_H) => tq_iv (-2147483648) 2147483647 z ∧ tp p s) z.1 z.2) _
  unfold z_X6_placeOf
  refine tz_bd (tz_ob hT k_h0) (fun _ _ => ?_)
  refine tz_bd (tz_X6_everything hT k_h0) (fun t_2 i_t_2 => ?_)
  refine tz_be (tg_6_2 hT k_h0) (fun t_6 e5561 i_t_6 => ?_)
  refine tz_b2 (tz_X6_howMany hT k_h0 i_t_6) (fun t_9 σ5560 ⟨i_t_9, T5560⟩ => ?_)
  have L_20 : ∀ (n_20 : Nat) (k_20 : ez_H → Nat → Int32 → Int32 → Int32 → Int32 → Option (Int32 × ez_H)), (∀ (x2_20 : Int32) (x3_20 : Int32) (x4_20 : Int32), tq_iv 0 2147483647 x3_20 → tq_iv 0 999 x4_20 → (2147483647 - x4_20.toInt).toNat < n_20 → tz_O (fun z : Int32 × ez_H => (fun (z : Int32) (s : ez_H) => tq_iv (-2147483648) 2147483647 z ∧ tp p s) z.1 z.2) (k_20 σ5560 h0 x1 x2_20 x3_20 x4_20)) → ∀ (x2_20 : Int32) (x3_20 : Int32) (x4_20 : Int32), tq_iv 0 2147483647 x3_20 → tq_iv 0 999 x4_20 → (2147483647 - x4_20.toInt).toNat < n_20 + 1 → tz_O (fun z : Int32 × ez_H => (fun (z : Int32) (s : ez_H) => tq_iv (-2147483648) 2147483647 z ∧ tp p s) z.1 z.2) (z_X6_placeOf_20 k_20 σ5560 h0 x1 x2_20 x3_20 x4_20) := by
    intro n_20 k_20 hk_20 x2_20 x3_20 x4_20 i_x3_20 i_x4_20 hn_20
    unfold z_X6_placeOf_20
    refine tz_be (tg_6_0 T5560 k_h0) (fun t_23 e5558 i_t_23 => ?_)
    refine tz_if _ (fun c5557 => ?_) (fun c5557 => ?_)
    ·
      exact tz_some ⟨(tq_top x2_20), T5560⟩
    ·
      have i1_x4_20 : tq_iv 0 998 x4_20 := tq_cut i_x4_20 (tq_ltL (tq_nle c5557) i_x4_20 i_t_23) (by decide) (by decide)
      have i2_t_23 : tq_iv 1 999 t_23 := tq_cut i_t_23 (tq_ltR (tq_nle c5557) i_x4_20 i_t_23) (by decide) (by decide)
      refine tz_bd (tz_X6_depthAt T5560 k_h0 (tq_w i1_x4_20 (by decide) (by decide))) (fun t_33 i_t_33 => ?_)
      have L_41 : ∀ (n_41 : Nat) (k_41 : ez_H → Nat → Int32 → Int32 → Int32 → Int32 → Int32 → Option (Int32 × ez_H)), (∀ (x2_41 : Int32) (x6_41 : Int32), tq_iv 0 2147483647 x6_41 → (2147483647 - x6_41.toInt).toNat < n_41 → tz_O (fun z : Int32 × ez_H => (fun (z : Int32) (s : ez_H) => tq_iv (-2147483648) 2147483647 z ∧ tp p s) z.1 z.2) (k_41 σ5560 h0 x1 x2_41 x4_20 t_33 x6_41)) → ∀ (x2_41 : Int32) (x6_41 : Int32), tq_iv 0 2147483647 x6_41 → (2147483647 - x6_41.toInt).toNat < n_41 + 1 → tz_O (fun z : Int32 × ez_H => (fun (z : Int32) (s : ez_H) => tq_iv (-2147483648) 2147483647 z ∧ tp p s) z.1 z.2) (z_X6_placeOf_41 k_20 k_41 σ5560 h0 x1 x2_41 x4_20 t_33 x6_41) := by
        intro n_41 k_41 hk_41 x2_41 x6_41 i_x6_41 hn_41
        unfold z_X6_placeOf_41
        refine tz_if _ (fun c5553 => ?_) (fun c5553 => ?_)
        ·
          refine tz_bd (tz_X6_lowest T5560 k_h0) (fun t_68 i_t_68 => ?_)
          refine tz_let (fun t_72 e5547 => ?_)
          have i3_t_72 : tq_iv 1 999 t_72 := tq_w (tq_add e5547 i1_x4_20 tk_1 (by decide) (by decide)) (by decide) (by decide)
          exact hk_20 x2_41 t_68 t_72 i_t_68 (tq_w i3_t_72 (by decide) (by decide)) (tq_up e5547 i1_x4_20 tk_1 (by decide) (by decide) hn_20)
        ·
          have i4_x6_41 : tq_iv 0 2147483646 x6_41 := tq_cut i_x6_41 (tq_ltL (tq_nle c5553) i_x6_41 (tq_top t_33)) (by decide) (by decide)
          have i5_t_33 : tq_iv 1 2147483647 t_33 := tq_cut (tq_top t_33) (tq_ltR (tq_nle c5553) i_x6_41 (tq_top t_33)) (by decide) (by decide)
          refine tz_bd (tz_X6_onwardAt T5560 k_h0 i1_x4_20) (fun t_54 i_t_54 => ?_)
          refine tz_let (fun t_57 e5551 => ?_)
          refine tz_let (fun t_59 e5550 => ?_)
          have i6_t_59 : tq_iv 1 2147483647 t_59 := tq_w (tq_add e5550 i4_x6_41 tk_1 (by decide) (by decide)) (by decide) (by decide)
          exact hk_41 t_57 t_59 (tq_w i6_t_59 (by decide) (by decide)) (tq_up e5550 i4_x6_41 tk_1 (by decide) (by decide) hn_41)
      have E_41 : ∀ (x2_41 : Int32) (x6_41 : Int32), tq_iv 0 2147483647 x6_41 → tz_O (fun z : Int32 × ez_H => (fun (z : Int32) (s : ez_H) => tq_iv (-2147483648) 2147483647 z ∧ tp p s) z.1 z.2) (ez_fix (fun _ _ _ _ _ _ _ => none) (z_X6_placeOf_41 k_20) ez_N σ5560 h0 x1 x2_41 x4_20 t_33 x6_41) := by
        intro x2_41 x6_41 i_x6_41
        exact ez_fix_indn (fun n_41 (k_41 : ez_H → Nat → Int32 → Int32 → Int32 → Int32 → Int32 → Option (Int32 × ez_H)) => ∀ (x2_41 : Int32) (x6_41 : Int32), tq_iv 0 2147483647 x6_41 → (2147483647 - x6_41.toInt).toNat < n_41 → tz_O (fun z : Int32 × ez_H => (fun (z : Int32) (s : ez_H) => tq_iv (-2147483648) 2147483647 z ∧ tp p s) z.1 z.2) (k_41 σ5560 h0 x1 x2_41 x4_20 t_33 x6_41)) (by intros; rename_i h; exact absurd h (Nat.not_lt_zero _)) L_41 ez_N x2_41 x6_41 i_x6_41 (tq_m0 x6_41)
      exact E_41 x2_20 x3_20 i_x3_20
  have E_20 : ∀ (x2_20 : Int32) (x3_20 : Int32) (x4_20 : Int32), tq_iv 0 2147483647 x3_20 → tq_iv 0 999 x4_20 → tz_O (fun z : Int32 × ez_H => (fun (z : Int32) (s : ez_H) => tq_iv (-2147483648) 2147483647 z ∧ tp p s) z.1 z.2) (ez_fix (fun _ _ _ _ _ _ => none) (z_X6_placeOf_20) ez_N σ5560 h0 x1 x2_20 x3_20 x4_20) := by
    intro x2_20 x3_20 x4_20 i_x3_20 i_x4_20
    exact ez_fix_indn (fun n_20 (k_20 : ez_H → Nat → Int32 → Int32 → Int32 → Int32 → Option (Int32 × ez_H)) => ∀ (x2_20 : Int32) (x3_20 : Int32) (x4_20 : Int32), tq_iv 0 2147483647 x3_20 → tq_iv 0 999 x4_20 → (2147483647 - x4_20.toInt).toNat < n_20 → tz_O (fun z : Int32 × ez_H => (fun (z : Int32) (s : ez_H) => tq_iv (-2147483648) 2147483647 z ∧ tp p s) z.1 z.2) (k_20 σ5560 h0 x1 x2_20 x3_20 x4_20)) (by intros; rename_i h; exact absurd h (Nat.not_lt_zero _)) L_20 ez_N x2_20 x3_20 x4_20 i_x3_20 i_x4_20 (tq_m0 x4_20)
  exact E_20 (0 : Int32) (0 : Int32) (0 : Int32) (tq_w tk_0 (by decide) (by decide)) (tq_w tk_0 (by decide) (by decide))
set_option maxRecDepth 4000 in
theorem tz_X11_rank {p : tz_P} {σ : ez_H} {h0 : Nat} {x1 : Int32} (hT : tp p σ) (k_h0 : tz_C h0 = some (3, 11, 0, 0)) : tz_O2 (fun (z : Int32) (s : ez_H) => tq_iv (-2147483648) 2147483647 z ∧ tp p s) (z_X11_rank σ h0 x1) := by
  show tz_O (fun z : Int32 × ez_H => (fun (z : Int32) (s : ez_H) => tq_iv (-2147483648) 2147483647 z ∧ tp p s) z.1 z.2) _
  unfold z_X11_rank
  refine tz_bd (tz_ob hT k_h0) (fun _ _ => ?_)
  refine tz_be (tg_11_4 hT k_h0) (fun t_1 e5571 k_t_1 => ?_)
  refine tz_bd (tz_X6_bitsOf hT k_t_1) (fun t_5 i_t_5 => ?_)
  have K_25 : ∀ (σ_25 : ez_H) (y0_25 : Int32), tp p σ_25 → tz_O (fun z : Int32 × ez_H => (fun (z : Int32) (s : ez_H) => tq_iv (-2147483648) 2147483647 z ∧ tp p s) z.1 z.2) (z_X11_rank_25 σ_25 y0_25) := by
    intro σ_25 y0_25 T_σ_25
    unfold z_X11_rank_25
    exact tz_some ⟨(tq_top y0_25), T_σ_25⟩
  refine tz_if _ (fun c5569 => ?_) (fun c5569 => ?_)
  ·
    have i1_t_5 : tq_iv 0 0 t_5 := tq_cut (tq_top t_5) (tq_eqL c5569 tk_0) (by decide) (by decide)
    exact K_25 σ (-1 : Int32) hT
  ·
    refine tz_bk e5571 ?_
    refine tz_b2 (tz_X6_placeOf hT k_t_1) (fun t_22 σ5567 ⟨i_t_22, T5567⟩ => ?_)
    exact K_25 σ5567 t_22 T5567
set_option maxRecDepth 4000 in
theorem tz_X11_recut {p : tz_P} {σ : ez_H} {h0 : Nat} {x1 : Int32} {x2 : Int32} (hT : tp p σ) (k_h0 : tz_C h0 = some (3, 11, 0, 0)) : tz_O2 (fun (z : Int32) (s : ez_H) => tq_iv (-2147483648) 2147483647 z ∧ tp p s) (z_X11_recut σ h0 x1 x2) := by
  show tz_O (fun z : Int32 × ez_H => (fun (z : Int32) (s : ez_H) => tq_iv (-2147483648) 2147483647 z ∧ tp p s) z.1 z.2) _
  unfold z_X11_recut
  refine tz_bd (tz_ob hT k_h0) (fun _ _ => ?_)
  refine tz_be (tg_11_4 hT k_h0) (fun t_1 e5593 k_t_1 => ?_)
  refine tz_bd (tz_X6_bitsOf hT k_t_1) (fun t_5 i_t_5 => ?_)
  refine tz_be (tg_11_3 hT k_h0) (fun t_10 e5591 k_t_10 => ?_)
  refine tz_bd (tz_X3_hasKey hT k_t_10) (fun t_14 ⟨i_t_14, g_t_14⟩ => ?_)
  have K_24 : tz_O (fun z : Int32 × ez_H => (fun (z : Int32) (s : ez_H) => tq_iv (-2147483648) 2147483647 z ∧ tp p s) z.1 z.2) (z_X11_recut_24 σ) := by
    unfold z_X11_recut_24
    exact tz_some ⟨(tq_top (-1 : Int32)), hT⟩
  refine tz_if _ (fun c5589 => ?_) (fun c5589 => ?_)
  ·
    have i1_t_14 : tq_iv 0 0 t_14 := tq_cut i_t_14 (tq_eqL c5589 tk_0) (by decide) (by decide)
    exact K_24 
  ·
    have i2_x1 : tq_iv 0 7 x1 := tq_cut (tq_top x1) (g_t_14 c5589) (by decide) (by decide)
    have i3_t_14 : tq_iv 1 1 t_14 := tq_w (tq_neLo c5589 i_t_14 tk_0) (by decide) (by decide)
    refine tz_if _ (fun c5588 => ?_) (fun c5588 => ?_)
    ·
      have i4_t_5 : tq_iv 0 0 t_5 := tq_cut (tq_top t_5) (tq_eqL c5588 tk_0) (by decide) (by decide)
      exact K_24 
    ·
      refine tz_bk e5593 ?_
      refine tz_be (tg_11_5 hT k_h0) (fun t_31 e5586 k_t_31 => ?_)
      refine tz_bd (tz_X7_bits hT k_t_31) (fun t_35 i_t_35 => ?_)
      refine tz_bd (tz_X6_numberOf hT k_t_1) (fun t_38 i_t_38 => ?_)
      refine tz_be (tg_11_7 hT k_h0) (fun t_44 e5583 k_t_44 => ?_)
      refine tz_bk e5586 ?_
      refine tz_b2 (tz_X1_keep hT k_t_44 k_t_31) (fun _ σ5581 T5581 => ?_)
      refine tz_be (tg_11_5 T5581 k_h0) (fun t_55 e5580 k_t_55 => ?_)
      refine tz_b2 (tz_X7_putBits T5581 k_t_55) (fun _ σ5579 ⟨T5579, W5579⟩ => ?_)
      refine tz_bk ((W5579 11 5 _ (by decide)).2.2.trans e5580) ?_
      refine tz_b2 (tz_X7_putUsed T5579 k_t_55) (fun _ σ5577 T5577 => ?_)
      exact tz_some ⟨(tq_top t_38), T5577⟩
set_option maxRecDepth 4000 in
theorem tz_X1_goOn {p : tz_P} {σ : ez_H} {h0 : Nat} {h1 : Nat} (hT : tp p σ) (k_h0 : tz_C h0 = some (3, 1, 0, 0)) (k_h1 : tz_C h1 = some (3, 7, 0, 0)) : tz_O2 (fun (z : Int32) (s : ez_H) => tq_iv 0 1 z ∧ tp p s) (z_X1_goOn σ h0 h1) := by
  show tz_O (fun z : Int32 × ez_H => (fun (z : Int32) (s : ez_H) => tq_iv 0 1 z ∧ tp p s) z.1 z.2) _
  unfold z_X1_goOn
  refine tz_bd (tz_ob hT k_h0) (fun _ _ => ?_)
  refine tz_be (tg_1_2 hT k_h0) (fun t_1 e5605 i_t_1 => ?_)
  refine tz_be (tg_1_3 hT k_h0) (fun t_5 e5604 i_t_5 => ?_)
  refine tz_if _ (fun c5603 => ?_) (fun c5603 => ?_)
  ·
    have i1_t_1 : tq_iv (-2147483648) 2147483646 t_1 := tq_cut (tq_top t_1) (tq_ltL c5603 (tq_top t_1) (tq_top t_5)) (by decide) (by decide)
    have i2_t_5 : tq_iv (-2147483647) 2147483647 t_5 := tq_cut (tq_top t_5) (tq_ltR c5603 (tq_top t_1) (tq_top t_5)) (by decide) (by decide)
    refine tz_ba e5605 (fun t_15 e5601 a5601 => ?_)
    have i3_t_15 : tq_iv (-2147483648) 2147483646 t_15 := tq_eqL a5601 i1_t_1
    refine tz_let (fun t_19 e5600 => ?_)
    have i4_t_19 : tq_iv (-2147483647) 2147483647 t_19 := tq_w (tq_add e5600 i3_t_15 tk_1 (by decide) (by decide)) (by decide) (by decide)
    refine tz_be (tw_1_2 hT k_h0 (tq_top t_19)) (fun σ5599 e5599 T5599 => ?_)
    refine tz_ba (fr_pf_gi e5599) (fun t_26 e5598 a5598 => ?_)
    have i5_t_26 : tq_iv (-2147483647) 2147483647 t_26 := tq_eqL a5598 i4_t_19
    refine tz_bd (tz_X1_slot T5599 k_h0) (fun t_29 k_t_29 => ?_)
    refine tz_b2 (tz_X7_copyFrom T5599 k_h1 k_t_29) (fun _ σ5596 T5596 => ?_)
    exact tz_some ⟨(tq_w tk_1 (by decide) (by decide)), T5596⟩
  ·
    exact tz_some ⟨(tq_w tk_0 (by decide) (by decide)), hT⟩
set_option maxRecDepth 4000 in
theorem tz_X11_redo {p : tz_P} {σ : ez_H} {h0 : Nat} (hT : tp p σ) (k_h0 : tz_C h0 = some (3, 11, 0, 0)) : tz_O2 (fun (z : Int32) (s : ez_H) => tq_iv 0 1 z ∧ tp p s) (z_X11_redo σ h0) := by
  show tz_O (fun z : Int32 × ez_H => (fun (z : Int32) (s : ez_H) => tq_iv 0 1 z ∧ tp p s) z.1 z.2) _
  unfold z_X11_redo
  refine tz_bd (tz_ob hT k_h0) (fun _ _ => ?_)
  refine tz_be (tg_11_7 hT k_h0) (fun t_1 e5611 k_t_1 => ?_)
  refine tz_be (tg_11_5 hT k_h0) (fun t_5 e5610 k_t_5 => ?_)
  refine tz_b2 (tz_X1_goOn hT k_t_1 k_t_5) (fun t_8 σ5609 ⟨i_t_8, T5609⟩ => ?_)
  refine tz_nr (tq_nr_boolean i_t_8) ?_
  exact tz_some ⟨i_t_8, T5609⟩
set_option maxRecDepth 4000 in
theorem tz_X2_putDistance {p : tz_P} {σ : ez_H} {h0 : Nat} {x1 : Int32} {x2 : Int32} (hT : tp p σ) (k_h0 : tz_C h0 = some (3, 2, 0, 0)) (i_x2 : tq_iv 0 6 x2) : tz_O2 (fun (z : Unit) (s : ez_H) => tp p s) (z_X2_putDistance σ h0 x1 x2) := by
  show tz_O (fun z : Unit × ez_H => (fun (z : Unit) (s : ez_H) => tp p s) z.1 z.2) _
  unfold z_X2_putDistance
  refine tz_bd (tz_ob hT k_h0) (fun _ _ => ?_)
  have K_27 : ∀ (σ_27 : ez_H), tp p σ_27 → tz_O (fun z : Unit × ez_H => (fun (z : Unit) (s : ez_H) => tp p s) z.1 z.2) (z_X2_putDistance_27 σ_27) := by
    intro σ_27 T_σ_27
    unfold z_X2_putDistance_27
    exact tz_some T_σ_27
  refine tz_if _ (fun c5624 => ?_) (fun c5624 => ?_)
  ·
    have i1_x1 : tq_iv (-2147483648) (-1) x1 := tq_cut (tq_top x1) (tq_ltL c5624 (tq_top x1) tk_0) (by decide) (by decide)
    exact K_27 σ hT
  ·
    have i2_x1 : tq_iv 0 2147483647 x1 := tq_cut (tq_top x1) (tq_leR (tq_nlt c5624) tk_0 (tq_top x1)) (by decide) (by decide)
    refine tz_if _ (fun c5623 => ?_) (fun c5623 => ?_)
    ·
      have i3_x1 : tq_iv 6 2147483647 x1 := tq_cut i2_x1 (tq_leR c5623 tk_6 i2_x1) (by decide) (by decide)
      exact K_27 σ hT
    ·
      have i4_x1 : tq_iv 0 5 x1 := tq_cut i2_x1 (tq_ltL (tq_nle c5623) i2_x1 tk_6) (by decide) (by decide)
      refine tz_be (tg_2_2 hT k_h0) (fun t_11 e5622 k_t_11 => ?_)
      refine tz_be (tz_ia hT k_t_11 (te_0 (p := p)) i4_x1 (by decide) (by decide)) (fun t_15 e5621 i_t_15 => ?_)
      refine tz_if _ (fun c5620 => ?_) (fun c5620 => ?_)
      ·
        have i5_t_15 : tq_iv (-1) (-1) t_15 := tq_cut (tq_top t_15) (tq_eqL c5620 tk_m1) (by decide) (by decide)
        refine tz_bk e5622 ?_
        refine tz_be (tz_is hT k_t_11 (te_0 (p := p)) i4_x1 (by decide) (by decide) (tq_top x2)) (fun σ5617 e5617 T5617 => ?_)
        exact K_27 σ5617 T5617
      ·
        exact K_27 σ hT
set_option maxRecDepth 4000 in
theorem tz_X2_distanceOf {p : tz_P} {σ : ez_H} {h0 : Nat} {x1 : Int32} (hT : tp p σ) (k_h0 : tz_C h0 = some (3, 2, 0, 0)) : tz_O (fun z => tq_iv (-2147483648) 2147483647 z) (z_X2_distanceOf σ h0 x1) := by
  unfold z_X2_distanceOf
  refine tz_bd (tz_ob hT k_h0) (fun _ _ => ?_)
  have K_20 : ∀ (y0_20 : Int32), tz_O (fun (z : Int32) => tq_iv (-2147483648) 2147483647 z) (z_X2_distanceOf_20 σ y0_20) := by
    intro y0_20
    unfold z_X2_distanceOf_20
    exact tz_some (tq_top y0_20)
  have K_19 : tz_O (fun (z : Int32) => tq_iv (-2147483648) 2147483647 z) (z_X2_distanceOf_19 σ) := by
    unfold z_X2_distanceOf_19
    exact K_20 (-1 : Int32)
  refine tz_if _ (fun c5634 => ?_) (fun c5634 => ?_)
  ·
    have i1_x1 : tq_iv (-2147483648) (-1) x1 := tq_cut (tq_top x1) (tq_ltL c5634 (tq_top x1) tk_0) (by decide) (by decide)
    exact K_19 
  ·
    have i2_x1 : tq_iv 0 2147483647 x1 := tq_cut (tq_top x1) (tq_leR (tq_nlt c5634) tk_0 (tq_top x1)) (by decide) (by decide)
    refine tz_if _ (fun c5633 => ?_) (fun c5633 => ?_)
    ·
      have i3_x1 : tq_iv 6 2147483647 x1 := tq_cut i2_x1 (tq_leR c5633 tk_6 i2_x1) (by decide) (by decide)
      exact K_19 
    ·
      have i4_x1 : tq_iv 0 5 x1 := tq_cut i2_x1 (tq_ltL (tq_nle c5633) i2_x1 tk_6) (by decide) (by decide)
      refine tz_be (tg_2_2 hT k_h0) (fun t_11 e5632 k_t_11 => ?_)
      refine tz_be (tz_ia hT k_t_11 (te_0 (p := p)) i4_x1 (by decide) (by decide)) (fun t_15 e5631 i_t_15 => ?_)
      exact K_20 t_15
set_option maxRecDepth 4000 in
theorem tz_X2_spread {p : tz_P} {σ : ez_H} {h0 : Nat} {x1 : Int32} {x2 : Int32} {x3 : Int32} (hT : tp p σ) (k_h0 : tz_C h0 = some (3, 2, 0, 0)) (i_x3 : tq_iv 0 5 x3) : tz_O2 (fun (z : Unit) (s : ez_H) => tp p s) (z_X2_spread σ h0 x1 x2 x3) := by
  show tz_O (fun z : Unit × ez_H => (fun (z : Unit) (s : ez_H) => tp p s) z.1 z.2) _
  unfold z_X2_spread
  refine tz_bd (tz_ob hT k_h0) (fun _ _ => ?_)
  refine tz_bd (tz_X2_distanceOf hT k_h0) (fun t_2 i_t_2 => ?_)
  have K_17 : ∀ (σ_17 : ez_H), tp p σ_17 → tz_O (fun z : Unit × ez_H => (fun (z : Unit) (s : ez_H) => tp p s) z.1 z.2) (z_X2_spread_17 σ_17) := by
    intro σ_17 T_σ_17
    unfold z_X2_spread_17
    exact tz_some T_σ_17
  refine tz_if _ (fun c5641 => ?_) (fun c5641 => ?_)
  ·
    have i1_t_2 : tq_iv 0 5 t_2 := tq_cut (tq_top t_2) (tq_eqL c5641 i_x3) (by decide) (by decide)
    refine tz_let (fun t_13 e5639 => ?_)
    have i2_t_13 : tq_iv 1 6 t_13 := tq_w (tq_add e5639 i_x3 tk_1 (by decide) (by decide)) (by decide) (by decide)
    refine tz_b2 (tz_X2_putDistance hT k_h0 (tq_w i2_t_13 (by decide) (by decide))) (fun _ σ5638 T5638 => ?_)
    exact K_17 σ5638 T5638
  ·
    exact K_17 σ hT
set_option maxRecDepth 4000 in
theorem tz_X2_measure {p : tz_P} {σ : ez_H} {h0 : Nat} {x1 : Int32} {x2 : Int32} (hT : tp p σ) (k_h0 : tz_C h0 = some (3, 2, 0, 0)) (i_x1 : tq_iv 0 2147483646 x1) : tz_O2 (fun (z : Unit) (s : ez_H) => tp p s) (z_X2_measure σ h0 x1 x2) := by
  show tz_O (fun z : Unit × ez_H => (fun (z : Unit) (s : ez_H) => tp p s) z.1 z.2) _
  unfold z_X2_measure
  refine tz_bd (tz_ob hT k_h0) (fun _ _ => ?_)
  refine tz_be (tg_2_2 hT k_h0) (fun t_1 e5674 k_t_1 => ?_)
  refine tz_b2 (tz_J7_fill_53178 hT k_t_1) (fun _ σ5673 T5673 => ?_)
  refine tz_b2 (tz_X2_putDistance T5673 k_h0 (tq_w tk_0 (by decide) (by decide))) (fun _ σ5672 T5672 => ?_)
  have L_16 : ∀ (n_16 : Nat) (k_16 : ez_H → Nat → Int32 → Int32 → Option (Unit × ez_H)), (∀ (σ_16 : ez_H) (x3_16 : Int32), tp p σ_16 → tq_iv 0 6 x3_16 → (2147483647 - x3_16.toInt).toNat < n_16 → tz_O (fun z : Unit × ez_H => (fun (z : Unit) (s : ez_H) => tp p s) z.1 z.2) (k_16 σ_16 h0 x2 x3_16)) → ∀ (σ_16 : ez_H) (x3_16 : Int32), tp p σ_16 → tq_iv 0 6 x3_16 → (2147483647 - x3_16.toInt).toNat < n_16 + 1 → tz_O (fun z : Unit × ez_H => (fun (z : Unit) (s : ez_H) => tp p s) z.1 z.2) (z_X2_measure_16 k_16 σ_16 h0 x2 x3_16) := by
    intro n_16 k_16 hk_16 σ_16 x3_16 T_σ_16 i_x3_16 hn_16
    unfold z_X2_measure_16
    refine tz_if _ (fun c5670 => ?_) (fun c5670 => ?_)
    ·
      have i1_x3_16 : tq_iv 6 6 x3_16 := tq_cut i_x3_16 (tq_leR c5670 tk_6 i_x3_16) (by decide) (by decide)
      exact tz_some T_σ_16
    ·
      have i2_x3_16 : tq_iv 0 5 x3_16 := tq_cut i_x3_16 (tq_ltL (tq_nle c5670) i_x3_16 tk_6) (by decide) (by decide)
      have L_25 : ∀ (n_25 : Nat) (k_25 : ez_H → Nat → Int32 → Int32 → Int32 → Option (Unit × ez_H)), (∀ (σ_25 : ez_H) (x4_25 : Int32), tp p σ_25 → tq_iv 0 2147483647 x4_25 → (2147483647 - x4_25.toInt).toNat < n_25 → tz_O (fun z : Unit × ez_H => (fun (z : Unit) (s : ez_H) => tp p s) z.1 z.2) (k_25 σ_25 h0 x2 x3_16 x4_25)) → ∀ (σ_25 : ez_H) (x4_25 : Int32), tp p σ_25 → tq_iv 0 2147483647 x4_25 → (2147483647 - x4_25.toInt).toNat < n_25 + 1 → tz_O (fun z : Unit × ez_H => (fun (z : Unit) (s : ez_H) => tp p s) z.1 z.2) (z_X2_measure_25 k_16 k_25 σ_25 h0 x2 x3_16 x4_25) := by
        intro n_25 k_25 hk_25 σ_25 x4_25 T_σ_25 i_x4_25 hn_25
        unfold z_X2_measure_25
        refine tz_be (tg_2_0 T_σ_25 k_h0) (fun t_28 e5667 k_t_28 => ?_)
        refine tz_be (tg_3_6 T_σ_25 k_t_28) (fun t_31 e5666 i_t_31 => ?_)
        refine tz_if _ (fun c5665 => ?_) (fun c5665 => ?_)
        ·
          refine tz_let (fun t_105 e5647 => ?_)
          have i3_t_105 : tq_iv 1 6 t_105 := tq_w (tq_add e5647 i2_x3_16 tk_1 (by decide) (by decide)) (by decide) (by decide)
          exact hk_16 σ_25 t_105 T_σ_25 (tq_w i3_t_105 (by decide) (by decide)) (tq_up e5647 i2_x3_16 tk_1 (by decide) (by decide) hn_16)
        ·
          have i4_x4_25 : tq_iv 0 2147483646 x4_25 := tq_cut i_x4_25 (tq_ltL (tq_nle c5665) i_x4_25 (tq_top t_31)) (by decide) (by decide)
          have i5_t_31 : tq_iv 1 2147483647 t_31 := tq_cut (tq_top t_31) (tq_ltR (tq_nle c5665) i_x4_25 (tq_top t_31)) (by decide) (by decide)
          refine tz_bk e5667 ?_
          refine tz_bd (tz_X3_doorLock T_σ_25 k_t_28 i4_x4_25) (fun t_44 i_t_44 => ?_)
          refine tz_let (fun t_47 e5662 => ?_)
          refine tz_let (fun t_49 e5661 => ?_)
          have i6_t_49 : tq_iv 0 1 t_49 := tq_and2 e5661 tk_1 (by decide)
          have K_99 : ∀ (σ_99 : ez_H), tp p σ_99 → tz_O (fun z : Unit × ez_H => (fun (z : Unit) (s : ez_H) => tp p s) z.1 z.2) (z_X2_measure_99 k_16 k_25 σ_99 h0 x2 x3_16 x4_25) := by
            intro σ_99 T_σ_99
            unfold z_X2_measure_99
            refine tz_let (fun t_99 e5645 => ?_)
            have i7_t_99 : tq_iv 1 2147483647 t_99 := tq_w (tq_add e5645 i4_x4_25 tk_1 (by decide) (by decide)) (by decide) (by decide)
            exact hk_25 σ_99 t_99 T_σ_99 (tq_w i7_t_99 (by decide) (by decide)) (tq_up e5645 i4_x4_25 tk_1 (by decide) (by decide) hn_25)
          refine tz_if _ (fun c5660 => ?_) (fun c5660 => ?_)
          ·
            have i8_t_49 : tq_iv 0 0 t_49 := tq_cut i6_t_49 (tq_eqL c5660 tk_0) (by decide) (by decide)
            exact K_99 σ_25 T_σ_25
          ·
            have i9_t_49 : tq_iv 1 1 t_49 := tq_w (tq_neLo c5660 i6_t_49 tk_0) (by decide) (by decide)
            refine tz_bk e5667 ?_
            refine tz_bd (tz_X3_doorFrom T_σ_25 k_t_28 (tq_w i4_x4_25 (by decide) (by decide))) (fun t_60 i_t_60 => ?_)
            refine tz_bk e5667 ?_
            refine tz_bd (tz_X3_doorTo T_σ_25 k_t_28 (tq_w i4_x4_25 (by decide) (by decide))) (fun t_69 i_t_69 => ?_)
            refine tz_b2 (tz_X2_spread T_σ_25 k_h0 i2_x3_16) (fun _ σ5655 T5655 => ?_)
            refine tz_be (tg_2_0 T5655 k_h0) (fun t_78 e5654 k_t_78 => ?_)
            refine tz_bd (tz_X3_doorTo T5655 k_t_78 (tq_w i4_x4_25 (by decide) (by decide))) (fun t_83 i_t_83 => ?_)
            refine tz_bk e5654 ?_
            refine tz_bd (tz_X3_doorFrom T5655 k_t_78 (tq_w i4_x4_25 (by decide) (by decide))) (fun t_92 i_t_92 => ?_)
            refine tz_b2 (tz_X2_spread T5655 k_h0 i2_x3_16) (fun _ σ5650 T5650 => ?_)
            exact K_99 σ5650 T5650
      have E_25 : ∀ (σ_25 : ez_H) (x4_25 : Int32), tp p σ_25 → tq_iv 0 2147483647 x4_25 → tz_O (fun z : Unit × ez_H => (fun (z : Unit) (s : ez_H) => tp p s) z.1 z.2) (ez_fix (fun _ _ _ _ _ => none) (z_X2_measure_25 k_16) ez_N σ_25 h0 x2 x3_16 x4_25) := by
        intro σ_25 x4_25 T_σ_25 i_x4_25
        exact ez_fix_indn (fun n_25 (k_25 : ez_H → Nat → Int32 → Int32 → Int32 → Option (Unit × ez_H)) => ∀ (σ_25 : ez_H) (x4_25 : Int32), tp p σ_25 → tq_iv 0 2147483647 x4_25 → (2147483647 - x4_25.toInt).toNat < n_25 → tz_O (fun z : Unit × ez_H => (fun (z : Unit) (s : ez_H) => tp p s) z.1 z.2) (k_25 σ_25 h0 x2 x3_16 x4_25)) (by intros; rename_i h; exact absurd h (Nat.not_lt_zero _)) L_25 ez_N σ_25 x4_25 T_σ_25 i_x4_25 (tq_m0 x4_25)
      exact E_25 σ_16 (0 : Int32) T_σ_16 (tq_w tk_0 (by decide) (by decide))
  have E_16 : ∀ (σ_16 : ez_H) (x3_16 : Int32), tp p σ_16 → tq_iv 0 6 x3_16 → tz_O (fun z : Unit × ez_H => (fun (z : Unit) (s : ez_H) => tp p s) z.1 z.2) (ez_fix (fun _ _ _ _ => none) (z_X2_measure_16) ez_N σ_16 h0 x2 x3_16) := by
    intro σ_16 x3_16 T_σ_16 i_x3_16
    exact ez_fix_indn (fun n_16 (k_16 : ez_H → Nat → Int32 → Int32 → Option (Unit × ez_H)) => ∀ (σ_16 : ez_H) (x3_16 : Int32), tp p σ_16 → tq_iv 0 6 x3_16 → (2147483647 - x3_16.toInt).toNat < n_16 → tz_O (fun z : Unit × ez_H => (fun (z : Unit) (s : ez_H) => tp p s) z.1 z.2) (k_16 σ_16 h0 x2 x3_16)) (by intros; rename_i h; exact absurd h (Nat.not_lt_zero _)) L_16 ez_N σ_16 x3_16 T_σ_16 i_x3_16 (tq_m0 x3_16)
  exact E_16 σ5672 (0 : Int32) T5672 (tq_w tk_0 (by decide) (by decide))
set_option maxRecDepth 4000 in
theorem tz_X3_otherSide {p : tz_P} {σ : ez_H} {h0 : Nat} {x1 : Int32} {x2 : Int32} (hT : tp p σ) (k_h0 : tz_C h0 = some (3, 3, 0, 0)) (i_x1 : tq_iv (-1) 2147483646 x1) : tz_O (fun z => tq_iv (-2147483648) 2147483647 z) (z_X3_otherSide σ h0 x1 x2) := by
  unfold z_X3_otherSide
  refine tz_bd (tz_ob hT k_h0) (fun _ _ => ?_)
  refine tz_bd (tz_X3_doorFrom hT k_h0 i_x1) (fun t_2 i_t_2 => ?_)
  refine tz_if _ (fun c5684 => ?_) (fun c5684 => ?_)
  ·
    refine tz_bd (tz_X3_doorTo hT k_h0 i_x1) (fun t_11 i_t_11 => ?_)
    exact tz_some (tq_top t_11)
  ·
    refine tz_bd (tz_X3_doorTo hT k_h0 i_x1) (fun t_17 i_t_17 => ?_)
    have K_33 : ∀ (y0_33 : Int32), tz_O (fun (z : Int32) => tq_iv (-2147483648) 2147483647 z) (z_X3_otherSide_33 σ y0_33) := by
      intro y0_33
      unfold z_X3_otherSide_33
      exact tz_some (tq_top y0_33)
    refine tz_if _ (fun c5682 => ?_) (fun c5682 => ?_)
    ·
      refine tz_bd (tz_X3_doorFrom hT k_h0 i_x1) (fun t_26 i_t_26 => ?_)
      exact K_33 t_26
    ·
      exact K_33 (-1 : Int32)
set_option maxRecDepth 4000 in
theorem tz_X2_doorTowards {p : tz_P} {σ : ez_H} {h0 : Nat} {x1 : Int32} {x2 : Int32} {x3 : Int32} (hT : tp p σ) (k_h0 : tz_C h0 = some (3, 2, 0, 0)) (i_x2 : tq_iv 0 2147483646 x2) : tz_O (fun z => tq_iv (-1) 2147483646 z) (z_X2_doorTowards σ h0 x1 x2 x3) := by
  unfold z_X2_doorTowards
  refine tz_bd (tz_ob hT k_h0) (fun _ _ => ?_)
  have L_3 : ∀ (n_3 : Nat) (k_3 : Nat → Int32 → Int32 → Int32 → Int32 → Option (Int32)), (∀ (x4_3 : Int32), tq_iv 0 2147483647 x4_3 → (2147483647 - x4_3.toInt).toNat < n_3 → tz_O (fun (z : Int32) => tq_iv (-1) 2147483646 z) (k_3 h0 x1 x2 x3 x4_3)) → ∀ (x4_3 : Int32), tq_iv 0 2147483647 x4_3 → (2147483647 - x4_3.toInt).toNat < n_3 + 1 → tz_O (fun (z : Int32) => tq_iv (-1) 2147483646 z) (z_X2_doorTowards_3 σ k_3 h0 x1 x2 x3 x4_3) := by
    intro n_3 k_3 hk_3 x4_3 i_x4_3 hn_3
    unfold z_X2_doorTowards_3
    refine tz_be (tg_2_0 hT k_h0) (fun t_6 e5706 k_t_6 => ?_)
    refine tz_be (tg_3_6 hT k_t_6) (fun t_9 e5705 i_t_9 => ?_)
    refine tz_if _ (fun c5704 => ?_) (fun c5704 => ?_)
    ·
      exact tz_some (tq_w tk_m1 (by decide) (by decide))
    ·
      have i1_x4_3 : tq_iv 0 2147483646 x4_3 := tq_cut i_x4_3 (tq_ltL (tq_nle c5704) i_x4_3 (tq_top t_9)) (by decide) (by decide)
      have i2_t_9 : tq_iv 1 2147483647 t_9 := tq_cut (tq_top t_9) (tq_ltR (tq_nle c5704) i_x4_3 (tq_top t_9)) (by decide) (by decide)
      refine tz_bk e5706 ?_
      refine tz_bd (tz_X3_otherSide hT k_t_6 (tq_w i1_x4_3 (by decide) (by decide))) (fun t_22 i_t_22 => ?_)
      refine tz_bk e5706 ?_
      refine tz_bd (tz_X3_doorLock hT k_t_6 i1_x4_3) (fun t_34 i_t_34 => ?_)
      refine tz_let (fun t_37 e5699 => ?_)
      refine tz_let (fun t_39 e5698 => ?_)
      have i3_t_39 : tq_iv 0 1 t_39 := tq_and2 e5698 tk_1 (by decide)
      have K_62 : tz_O (fun (z : Int32) => tq_iv (-1) 2147483646 z) (z_X2_doorTowards_62 σ k_3 h0 x1 x2 x3 x4_3) := by
        unfold z_X2_doorTowards_62
        refine tz_let (fun t_62 e5688 => ?_)
        have i4_t_62 : tq_iv 1 2147483647 t_62 := tq_w (tq_add e5688 i1_x4_3 tk_1 (by decide) (by decide)) (by decide) (by decide)
        exact hk_3 t_62 (tq_w i4_t_62 (by decide) (by decide)) (tq_up e5688 i1_x4_3 tk_1 (by decide) (by decide) hn_3)
      refine tz_if _ (fun c5697 => ?_) (fun c5697 => ?_)
      ·
        have i5_t_39 : tq_iv 0 0 t_39 := tq_cut i3_t_39 (tq_eqL c5697 tk_0) (by decide) (by decide)
        exact K_62 
      ·
        have i6_t_39 : tq_iv 1 1 t_39 := tq_w (tq_neLo c5697 i3_t_39 tk_0) (by decide) (by decide)
        refine tz_if _ (fun c5696 => ?_) (fun c5696 => ?_)
        ·
          have i7_t_22 : tq_iv (-1) (-1) t_22 := tq_cut (tq_top t_22) (tq_eqL c5696 tk_m1) (by decide) (by decide)
          exact K_62 
        ·
          refine tz_bd (tz_X2_distanceOf hT k_h0) (fun t_52 i_t_52 => ?_)
          refine tz_if _ (fun c5694 => ?_) (fun c5694 => ?_)
          ·
            have i8_t_52 : tq_iv 0 2147483646 t_52 := tq_cut (tq_top t_52) (tq_eqL c5694 i_x2) (by decide) (by decide)
            exact tz_some (tq_w i1_x4_3 (by decide) (by decide))
          ·
            exact K_62 
  have E_3 : ∀ (x4_3 : Int32), tq_iv 0 2147483647 x4_3 → tz_O (fun (z : Int32) => tq_iv (-1) 2147483646 z) (ez_fix (fun _ _ _ _ _ => none) (z_X2_doorTowards_3 σ) ez_N h0 x1 x2 x3 x4_3) := by
    intro x4_3 i_x4_3
    exact ez_fix_indn (fun n_3 (k_3 : Nat → Int32 → Int32 → Int32 → Int32 → Option (Int32)) => ∀ (x4_3 : Int32), tq_iv 0 2147483647 x4_3 → (2147483647 - x4_3.toInt).toNat < n_3 → tz_O (fun (z : Int32) => tq_iv (-1) 2147483646 z) (k_3 h0 x1 x2 x3 x4_3)) (by intros; rename_i h; exact absurd h (Nat.not_lt_zero _)) L_3 ez_N x4_3 i_x4_3 (tq_m0 x4_3)
  exact E_3 (0 : Int32) (tq_w tk_0 (by decide) (by decide))
set_option maxRecDepth 4000 in
theorem tz_X2_findPath {p : tz_P} {σ : ez_H} {h0 : Nat} {x1 : Int32} {x2 : Int32} (hT : tp p σ) (k_h0 : tz_C h0 = some (3, 2, 0, 0)) (i_x1 : tq_iv 0 2147483646 x1) (i_x2 : tq_iv 0 2147483646 x2) : tz_O2 (fun (z : Int32) (s : ez_H) => tq_iv (-1) 6 z ∧ tp p s) (z_X2_findPath σ h0 x1 x2) := by
  show tz_O (fun z : Int32 × ez_H => (fun (z : Int32) (s : ez_H) => tq_iv (-1) 6 z ∧ tp p s) z.1 z.2) _
  unfold z_X2_findPath
  obtain ⟨w0, e_w0, i_w0⟩ := tg_2_5 hT k_h0
  refine tz_bd (tz_ob hT k_h0) (fun _ _ => ?_)
  refine tz_be (tg_2_1 hT k_h0) (fun t_2 e5741 k_t_2 => ?_)
  refine tz_be (tg_2_0 hT k_h0) (fun t_7 e5740 k_t_7 => ?_)
  refine tz_be (tg_3_3 hT k_t_7) (fun t_10 e5739 i_t_10 => ?_)
  refine tz_bd (tz_X7_heldBy hT k_t_2 (tq_w i_x1 (by decide) (by decide)) i_t_10) (fun t_13 i_t_13 => ?_)
  refine tz_bd (tz_X2_locksFor hT k_h0) (fun t_16 i_t_16 => ?_)
  refine tz_bk e5741 ?_
  refine tz_bd (tz_X7_room hT k_t_2) (fun t_25 i_t_25 => ?_)
  refine tz_b2 (tz_X2_measure hT k_h0 i_x2) (fun _ σ5734 T5734 => ?_)
  refine tz_be (tw_2_5 T5734 k_h0 (tq_top (0 : Int32))) (fun σ5733 e5733 T5733 => ?_)
  refine tz_bd (tz_X2_distanceOf T5733 k_h0) (fun t_44 i_t_44 => ?_)
  refine tz_if _ (fun c5731 => ?_) (fun c5731 => ?_)
  ·
    have i1_t_44 : tq_iv (-1) (-1) t_44 := tq_cut (tq_top t_44) (tq_eqL c5731 tk_m1) (by decide) (by decide)
    exact tz_some ⟨(tq_w tk_m1 (by decide) (by decide)), T5733⟩
  ·
    have L_57 : ∀ (n_57 : Nat) (k_57 : ez_H → Nat → Int32 → Int32 → Int32 → Option (Int32 × ez_H)), (∀ (σ_57 : ez_H) (x4_57 : Int32) (x5_57 : Int32) (w0_57 : Int32), tp p σ_57 → ez_gi σ_57 2 h0 5 = some w0_57 → tq_iv 0 6 w0_57 → (x5_57.toInt + 2147483648).toNat < n_57 → tz_O (fun z : Int32 × ez_H => (fun (z : Int32) (s : ez_H) => tq_iv (-1) 6 z ∧ tp p s) z.1 z.2) (k_57 σ_57 h0 t_16 x4_57 x5_57)) → ∀ (σ_57 : ez_H) (x4_57 : Int32) (x5_57 : Int32) (w0_57 : Int32), tp p σ_57 → ez_gi σ_57 2 h0 5 = some w0_57 → tq_iv 0 6 w0_57 → (x5_57.toInt + 2147483648).toNat < n_57 + 1 → tz_O (fun z : Int32 × ez_H => (fun (z : Int32) (s : ez_H) => tq_iv (-1) 6 z ∧ tp p s) z.1 z.2) (z_X2_findPath_57 k_57 σ_57 h0 t_16 x4_57 x5_57) := by
      intro n_57 k_57 hk_57 σ_57 x4_57 x5_57 w0_57 T_σ_57 f0_57 i_w0_57 hn_57
      unfold z_X2_findPath_57
      have K_125 : tz_O (fun z : Int32 × ez_H => (fun (z : Int32) (s : ez_H) => tq_iv (-1) 6 z ∧ tp p s) z.1 z.2) (z_X2_findPath_125 σ_57 h0) := by
        unfold z_X2_findPath_125
        refine tz_ba f0_57 (fun t_126 e5710 a5710 => ?_)
        have i2_t_126 : tq_iv 0 6 t_126 := tq_eqL a5710 i_w0_57
        exact tz_some ⟨(tq_w i2_t_126 (by decide) (by decide)), T_σ_57⟩
      refine tz_if _ (fun c5728 => ?_) (fun c5728 => ?_)
      ·
        have i3_x5_57 : tq_iv (-2147483648) 0 x5_57 := tq_cut (tq_top x5_57) (tq_leL c5728 (tq_top x5_57) tk_0) (by decide) (by decide)
        exact K_125 
      ·
        have i4_x5_57 : tq_iv 1 2147483647 x5_57 := tq_cut (tq_top x5_57) (tq_ltR (tq_nle c5728) tk_0 (tq_top x5_57)) (by decide) (by decide)
        refine tz_ba f0_57 (fun t_63 e5727 a5727 => ?_)
        have i5_t_63 : tq_iv 0 6 t_63 := tq_eqL a5727 i_w0_57
        refine tz_be (tg_2_4 T_σ_57 k_h0) (fun t_67 e5726 k_t_67 => ?_)
        refine tz_be (tz_ln T_σ_57 k_t_67) (fun t_70 e5725 i_t_70 => ?_)
        refine tz_if _ (fun c5724 => ?_) (fun c5724 => ?_)
        ·
          have i6_t_63 : tq_iv 6 6 t_63 := tq_cut i5_t_63 (tq_leR c5724 i_t_70 i5_t_63) (by decide) (by decide)
          have i7_w0_57 : tq_iv 6 6 w0_57 := tq_cut i_w0_57 (tq_eqL (Eq.symm a5727) i6_t_63) (by decide) (by decide)
          exact K_125 
        ·
          have i8_t_63 : tq_iv 0 5 t_63 := tq_cut i5_t_63 (tq_ltL (tq_nle c5724) i5_t_63 i_t_70) (by decide) (by decide)
          have i9_w0_57 : tq_iv 0 5 w0_57 := tq_cut i_w0_57 (tq_eqL (Eq.symm a5727) i8_t_63) (by decide) (by decide)
          refine tz_let (fun t_74 e5723 => ?_)
          have i10_t_74 : tq_iv 0 2147483646 t_74 := tq_w (tq_add e5723 i4_x5_57 tk_m1 (by decide) (by decide)) (by decide) (by decide)
          refine tz_bd (tz_X2_doorTowards T_σ_57 k_h0 i10_t_74) (fun t_83 i_t_83 => ?_)
          refine tz_bk e5726 ?_
          refine tz_ba f0_57 (fun t_93 e5720 a5720 => ?_)
          have i11_t_93 : tq_iv 0 5 t_93 := tq_eqL a5720 i9_w0_57
          refine tz_be (tz_is T_σ_57 k_t_67 (te_0 (p := p)) i11_t_93 (by decide) (by decide) (tq_top t_83)) (fun σ5719 e5719 T5719 => ?_)
          refine tz_ba ((fr_is_gi e5719).trans f0_57) (fun t_101 e5718 a5718 => ?_)
          have i12_t_101 : tq_iv 0 5 t_101 := tq_eqL a5718 i9_w0_57
          refine tz_let (fun t_105 e5717 => ?_)
          have i13_t_105 : tq_iv 1 6 t_105 := tq_w (tq_add e5717 i12_t_101 tk_1 (by decide) (by decide)) (by decide) (by decide)
          refine tz_be (tw_2_5 T5719 k_h0 (tq_top t_105)) (fun σ5716 e5716 T5716 => ?_)
          refine tz_be (tg_2_0 T5716 k_h0) (fun t_110 e5715 k_t_110 => ?_)
          refine tz_bd (tz_X3_otherSide T5716 k_t_110 i_t_83) (fun t_117 i_t_117 => ?_)
          exact hk_57 σ5716 t_117 t_74 t_105 T5716 (fr_pf_gi e5716) (tq_w i13_t_105 (by decide) (by decide)) (tq_down e5723 i4_x5_57 tk_m1 (by decide) (by decide) hn_57)
    have E_57 : ∀ (σ_57 : ez_H) (x4_57 : Int32) (x5_57 : Int32) (w0_57 : Int32), tp p σ_57 → ez_gi σ_57 2 h0 5 = some w0_57 → tq_iv 0 6 w0_57 → tz_O (fun z : Int32 × ez_H => (fun (z : Int32) (s : ez_H) => tq_iv (-1) 6 z ∧ tp p s) z.1 z.2) (ez_fix (fun _ _ _ _ _ => none) (z_X2_findPath_57) ez_N σ_57 h0 t_16 x4_57 x5_57) := by
      intro σ_57 x4_57 x5_57 w0_57 T_σ_57 f0_57 i_w0_57
      exact ez_fix_indn (fun n_57 (k_57 : ez_H → Nat → Int32 → Int32 → Int32 → Option (Int32 × ez_H)) => ∀ (σ_57 : ez_H) (x4_57 : Int32) (x5_57 : Int32) (w0_57 : Int32), tp p σ_57 → ez_gi σ_57 2 h0 5 = some w0_57 → tq_iv 0 6 w0_57 → (x5_57.toInt + 2147483648).toNat < n_57 → tz_O (fun z : Int32 × ez_H => (fun (z : Int32) (s : ez_H) => tq_iv (-1) 6 z ∧ tp p s) z.1 z.2) (k_57 σ_57 h0 t_16 x4_57 x5_57)) (by intros; rename_i h; exact absurd h (Nat.not_lt_zero _)) L_57 ez_N σ_57 x4_57 x5_57 w0_57 T_σ_57 f0_57 i_w0_57 (tq_m1 x5_57)
    exact E_57 σ5733 t_25 t_44 (0 : Int32) T5733 (fr_pf_gi e5733) (tq_w tk_0 (by decide) (by decide))
set_option maxRecDepth 4000 in
theorem tz_X11_route {p : tz_P} {σ : ez_H} {h0 : Nat} {x1 : Int32} {x2 : Int32} (hT : tp p σ) (k_h0 : tz_C h0 = some (3, 11, 0, 0)) : tz_O2 (fun (z : Int32) (s : ez_H) => tq_iv (-1) 6 z ∧ tp p s) (z_X11_route σ h0 x1 x2) := by
  show tz_O (fun z : Int32 × ez_H => (fun (z : Int32) (s : ez_H) => tq_iv (-1) 6 z ∧ tp p s) z.1 z.2) _
  unfold z_X11_route
  refine tz_bd (tz_ob hT k_h0) (fun _ _ => ?_)
  refine tz_be (tg_11_12 hT k_h0) (fun t_1 e5756 k_t_1 => ?_)
  refine tz_b2 (tz_X2_forgetPath hT k_t_1) (fun _ σ5755 T5755 => ?_)
  refine tz_be (tg_11_3 T5755 k_h0) (fun t_8 e5754 k_t_8 => ?_)
  refine tz_bd (tz_X3_hasPerson T5755 k_t_8) (fun t_12 ⟨i_t_12, g_t_12⟩ => ?_)
  have K_29 : tz_O (fun z : Int32 × ez_H => (fun (z : Int32) (s : ez_H) => tq_iv (-1) 6 z ∧ tp p s) z.1 z.2) (z_X11_route_29 σ5755) := by
    unfold z_X11_route_29
    exact tz_some ⟨(tq_w tk_m1 (by decide) (by decide)), T5755⟩
  refine tz_if _ (fun c5752 => ?_) (fun c5752 => ?_)
  ·
    have i1_t_12 : tq_iv 0 0 t_12 := tq_cut i_t_12 (tq_eqL c5752 tk_0) (by decide) (by decide)
    exact K_29 
  ·
    have i2_x1 : tq_iv 0 2147483646 x1 := tq_cut (tq_top x1) (g_t_12 c5752) (by decide) (by decide)
    have i3_t_12 : tq_iv 1 1 t_12 := tq_w (tq_neLo c5752 i_t_12 tk_0) (by decide) (by decide)
    refine tz_bk e5754 ?_
    refine tz_bd (tz_X3_hasRoom T5755 k_t_8) (fun t_23 ⟨i_t_23, g_t_23⟩ => ?_)
    refine tz_if _ (fun c5749 => ?_) (fun c5749 => ?_)
    ·
      have i4_t_23 : tq_iv 0 0 t_23 := tq_cut i_t_23 (tq_eqL c5749 tk_0) (by decide) (by decide)
      exact K_29 
    ·
      have i5_x2 : tq_iv 0 2147483646 x2 := tq_cut (tq_top x2) (g_t_23 c5749) (by decide) (by decide)
      have i6_t_23 : tq_iv 1 1 t_23 := tq_w (tq_neLo c5749 i_t_23 tk_0) (by decide) (by decide)
      refine tz_be (tg_11_12 T5755 k_h0) (fun t_32 e5748 k_t_32 => ?_)
      refine tz_b2 (tz_X2_findPath T5755 k_t_32 i2_x1 i5_x2) (fun t_37 σ5747 ⟨i_t_37, T5747⟩ => ?_)
      exact tz_some ⟨i_t_37, T5747⟩
set_option maxRecDepth 4000 in
theorem tz_X11_span {p : tz_P} {σ : ez_H} {h0 : Nat} {x1 : Int32} {x2 : Int32} (hT : tp p σ) (k_h0 : tz_C h0 = some (3, 11, 0, 0)) : tz_O (fun z => tq_iv (-2147483648) 2147483647 z) (z_X11_span σ h0 x1 x2) := by
  unfold z_X11_span
  refine tz_bd (tz_ob hT k_h0) (fun _ _ => ?_)
  refine tz_be (tg_11_3 hT k_h0) (fun t_1 e5773 k_t_1 => ?_)
  refine tz_bd (tz_X3_hasKey hT k_t_1) (fun t_5 ⟨i_t_5, g_t_5⟩ => ?_)
  have K_22 : tz_O (fun (z : Int32) => tq_iv (-2147483648) 2147483647 z) (z_X11_span_22 σ) := by
    unfold z_X11_span_22
    exact tz_some (tq_top (-1 : Int32))
  refine tz_if _ (fun c5771 => ?_) (fun c5771 => ?_)
  ·
    have i1_t_5 : tq_iv 0 0 t_5 := tq_cut i_t_5 (tq_eqL c5771 tk_0) (by decide) (by decide)
    exact K_22 
  ·
    have i2_x1 : tq_iv 0 7 x1 := tq_cut (tq_top x1) (g_t_5 c5771) (by decide) (by decide)
    have i3_t_5 : tq_iv 1 1 t_5 := tq_w (tq_neLo c5771 i_t_5 tk_0) (by decide) (by decide)
    refine tz_bk e5773 ?_
    refine tz_bd (tz_X3_hasKey hT k_t_1) (fun t_16 ⟨i_t_16, g_t_16⟩ => ?_)
    refine tz_if _ (fun c5768 => ?_) (fun c5768 => ?_)
    ·
      have i4_t_16 : tq_iv 0 0 t_16 := tq_cut i_t_16 (tq_eqL c5768 tk_0) (by decide) (by decide)
      exact K_22 
    ·
      have i5_x2 : tq_iv 0 7 x2 := tq_cut (tq_top x2) (g_t_16 c5768) (by decide) (by decide)
      have i6_t_16 : tq_iv 1 1 t_16 := tq_w (tq_neLo c5768 i_t_16 tk_0) (by decide) (by decide)
      refine tz_be (tg_11_4 hT k_h0) (fun t_25 e5767 k_t_25 => ?_)
      refine tz_be (tg_11_5 hT k_h0) (fun t_29 e5766 k_t_29 => ?_)
      refine tz_bd (tz_X7_bits hT k_t_29) (fun t_33 i_t_33 => ?_)
      refine tz_bk e5766 ?_
      refine tz_bd (tz_X7_bits hT k_t_29) (fun t_41 i_t_41 => ?_)
      refine tz_bd (tz_X6_apart hT k_t_25) (fun t_44 i_t_44 => ?_)
      exact tz_some (tq_top t_44)
set_option maxRecDepth 4000 in
theorem tz_X11_strays {p : tz_P} {σ : ez_H} {h0 : Nat} {x1 : Int32} (hT : tp p σ) (k_h0 : tz_C h0 = some (3, 11, 0, 0)) : tz_O (fun z => tq_iv (-2147483648) 2147483647 z) (z_X11_strays σ h0 x1) := by
  unfold z_X11_strays
  refine tz_bd (tz_ob hT k_h0) (fun _ _ => ?_)
  refine tz_be (tg_11_13 hT k_h0) (fun t_1 e5777 k_t_1 => ?_)
  refine tz_bd (tz_X5_tellPairs hT k_t_1 (tq_w tk_1 (by decide) (by decide))) (fun t_6 i_t_6 => ?_)
  exact tz_some (tq_top t_6)
set_option maxRecDepth 4000 in
theorem tz_X11_stuck {p : tz_P} {σ : ez_H} {h0 : Nat} (hT : tp p σ) (k_h0 : tz_C h0 = some (3, 11, 0, 0)) : tz_O (fun z => tq_iv (-2147483648) 2147483647 z) (z_X11_stuck σ h0) := by
  unfold z_X11_stuck
  refine tz_bd (tz_ob hT k_h0) (fun _ _ => ?_)
  refine tz_be (tg_11_3 hT k_h0) (fun t_1 e5793 k_t_1 => ?_)
  refine tz_bd (tz_X3_allKeys hT k_t_1) (fun t_4 i_t_4 => ?_)
  refine tz_be (tg_11_5 hT k_h0) (fun t_8 e5791 k_t_8 => ?_)
  refine tz_bk e5793 ?_
  refine tz_be (tg_3_3 hT k_t_1) (fun t_17 e5789 i_t_17 => ?_)
  refine tz_bd (tz_X7_heldBy hT k_t_8 (tq_w tk_m2 (by decide) (by decide)) i_t_17) (fun t_20 i_t_20 => ?_)
  refine tz_let (fun t_24 e5787 => ?_)
  refine tz_let (fun t_25 e5786 => ?_)
  have i1_t_25 : tq_iv 0 255 t_25 := tq_and1 e5786 i_t_4 (by decide)
  refine tz_bk e5793 ?_
  refine tz_bd (tz_X3_allLocks hT k_t_1) (fun t_31 i_t_31 => ?_)
  refine tz_be (tg_11_12 hT k_h0) (fun t_35 e5783 k_t_35 => ?_)
  refine tz_bd (tz_X2_locksFor hT k_t_35) (fun t_39 i_t_39 => ?_)
  refine tz_let (fun t_43 e5781 => ?_)
  refine tz_let (fun t_44 e5780 => ?_)
  exact tz_some (tq_top t_44)
set_option maxRecDepth 4000 in
theorem tz_X8_depthsMet {p : tz_P} {σ : ez_H} {h0 : Nat} {x1 : Int32} {x2 : Int32} (hT : tp p σ) (k_h0 : tz_C h0 = some (3, 8, 0, 0)) : tz_O (fun z => tq_iv (-2147483648) 2147483647 z) (z_X8_depthsMet σ h0 x1 x2) := by
  unfold z_X8_depthsMet
  refine tz_bd (tz_ob hT k_h0) (fun _ _ => ?_)
  have L_5 : ∀ (n_5 : Nat) (k_5 : Nat → Int32 → Int32 → Int32 → Int32 → Option (Int32)), (∀ (x3_5 : Int32) (x4_5 : Int32), tq_iv 0 64 x4_5 → (2147483647 - x4_5.toInt).toNat < n_5 → tz_O (fun (z : Int32) => tq_iv (-2147483648) 2147483647 z) (k_5 h0 x1 x2 x3_5 x4_5)) → ∀ (x3_5 : Int32) (x4_5 : Int32), tq_iv 0 64 x4_5 → (2147483647 - x4_5.toInt).toNat < n_5 + 1 → tz_O (fun (z : Int32) => tq_iv (-2147483648) 2147483647 z) (z_X8_depthsMet_5 σ k_5 h0 x1 x2 x3_5 x4_5) := by
    intro n_5 k_5 hk_5 x3_5 x4_5 i_x4_5 hn_5
    unfold z_X8_depthsMet_5
    refine tz_if _ (fun c5805 => ?_) (fun c5805 => ?_)
    ·
      have i1_x4_5 : tq_iv 64 64 x4_5 := tq_cut i_x4_5 (tq_leR c5805 tk_64 i_x4_5) (by decide) (by decide)
      exact tz_some (tq_top x3_5)
    ·
      have i2_x4_5 : tq_iv 0 63 x4_5 := tq_cut i_x4_5 (tq_ltL (tq_nle c5805) i_x4_5 tk_64) (by decide) (by decide)
      refine tz_bd (tz_X8_isSuch hT k_h0 i2_x4_5) (fun t_17 ⟨i_t_17, g_t_17⟩ => ?_)
      have K_33 : ∀ (x3_33 : Int32), tz_O (fun (z : Int32) => tq_iv (-2147483648) 2147483647 z) (z_X8_depthsMet_33 σ k_5 h0 x1 x2 x3_33 x4_5) := by
        intro x3_33
        unfold z_X8_depthsMet_33
        refine tz_let (fun t_33 e5796 => ?_)
        have i3_t_33 : tq_iv 1 64 t_33 := tq_w (tq_add e5796 i2_x4_5 tk_1 (by decide) (by decide)) (by decide) (by decide)
        exact hk_5 x3_33 t_33 (tq_w i3_t_33 (by decide) (by decide)) (tq_up e5796 i2_x4_5 tk_1 (by decide) (by decide) hn_5)
      refine tz_if _ (fun c5803 => ?_) (fun c5803 => ?_)
      ·
        have i4_t_17 : tq_iv 0 0 t_17 := tq_cut i_t_17 (tq_eqL c5803 tk_0) (by decide) (by decide)
        exact K_33 x3_5
      ·
        have i5_x1 : tq_iv 0 63 x1 := tq_cut (tq_top x1) (g_t_17 c5803) (by decide) (by decide)
        have i6_t_17 : tq_iv 1 1 t_17 := tq_w (tq_neLo c5803 i_t_17 tk_0) (by decide) (by decide)
        refine tz_be (tg_8_12 hT k_h0) (fun t_25 e5802 k_t_25 => ?_)
        refine tz_be (tz_ia hT k_t_25 (te_0 (p := p)) i2_x4_5 (by decide) (by decide)) (fun t_30 e5801 i_t_30 => ?_)
        refine tz_let (fun t_31 e5800 => ?_)
        exact K_33 t_31
  have E_5 : ∀ (x3_5 : Int32) (x4_5 : Int32), tq_iv 0 64 x4_5 → tz_O (fun (z : Int32) => tq_iv (-2147483648) 2147483647 z) (ez_fix (fun _ _ _ _ _ => none) (z_X8_depthsMet_5 σ) ez_N h0 x1 x2 x3_5 x4_5) := by
    intro x3_5 x4_5 i_x4_5
    exact ez_fix_indn (fun n_5 (k_5 : Nat → Int32 → Int32 → Int32 → Int32 → Option (Int32)) => ∀ (x3_5 : Int32) (x4_5 : Int32), tq_iv 0 64 x4_5 → (2147483647 - x4_5.toInt).toNat < n_5 → tz_O (fun (z : Int32) => tq_iv (-2147483648) 2147483647 z) (k_5 h0 x1 x2 x3_5 x4_5)) (by intros; rename_i h; exact absurd h (Nat.not_lt_zero _)) L_5 ez_N x3_5 x4_5 i_x4_5 (tq_m0 x4_5)
  exact E_5 (0 : Int32) (0 : Int32) (tq_w tk_0 (by decide) (by decide))
set_option maxRecDepth 4000 in
theorem tz_X11_sure {p : tz_P} {σ : ez_H} {h0 : Nat} {x1 : Int32} {x2 : Int32} (hT : tp p σ) (k_h0 : tz_C h0 = some (3, 11, 0, 0)) : tz_O2 (fun (z : Int32) (s : ez_H) => tq_iv (-2147483648) 2147483647 z ∧ tp p s) (z_X11_sure σ h0 x1 x2) := by
  show tz_O (fun z : Int32 × ez_H => (fun (z : Int32) (s : ez_H) => tq_iv (-2147483648) 2147483647 z ∧ tp p s) z.1 z.2) _
  unfold z_X11_sure
  refine tz_bd (tz_ob hT k_h0) (fun _ _ => ?_)
  refine tz_be (tg_11_4 hT k_h0) (fun t_1 e5828 k_t_1 => ?_)
  refine tz_bd (tz_X6_hasChamber hT k_t_1) (fun t_5 ⟨i_t_5, g_t_5⟩ => ?_)
  have K_19 : ∀ (σ_19 : ez_H), tp p σ_19 → tz_O (fun z : Int32 × ez_H => (fun (z : Int32) (s : ez_H) => tq_iv (-2147483648) 2147483647 z ∧ tp p s) z.1 z.2) (z_X11_sure_19 σ_19) := by
    intro σ_19 T_σ_19
    unfold z_X11_sure_19
    exact tz_some ⟨(tq_top (-1 : Int32)), T_σ_19⟩
  refine tz_if _ (fun c5826 => ?_) (fun c5826 => ?_)
  ·
    have i1_t_5 : tq_iv 0 0 t_5 := tq_cut i_t_5 (tq_eqL c5826 tk_0) (by decide) (by decide)
    exact K_19 σ hT
  ·
    have i2_x1 : tq_iv 0 998 x1 := tq_cut (tq_top x1) (g_t_5 c5826) (by decide) (by decide)
    have i3_t_5 : tq_iv 1 1 t_5 := tq_w (tq_neLo c5826 i_t_5 tk_0) (by decide) (by decide)
    refine tz_b2 (tz_X11_fits hT k_h0) (fun t_13 σ5825 ⟨i_t_13, T5825⟩ => ?_)
    refine tz_if _ (fun c5824 => ?_) (fun c5824 => ?_)
    ·
      have i4_t_13 : tq_iv 0 0 t_13 := tq_cut (tq_top t_13) (tq_eqL c5824 tk_0) (by decide) (by decide)
      exact K_19 σ5825 T5825
    ·
      refine tz_be (tg_11_11 T5825 k_h0) (fun t_22 e5823 k_t_22 => ?_)
      refine tz_be (tg_11_14 T5825 k_h0) (fun t_26 e5822 k_t_26 => ?_)
      refine tz_bd (tz_X10_knownAt T5825 k_t_26 (tq_w tk_1 (by decide) (by decide))) (fun t_31 i_t_31 => ?_)
      refine tz_bk e5822 ?_
      refine tz_bd (tz_X10_knownAt T5825 k_t_26 (tq_w tk_0 (by decide) (by decide))) (fun t_40 i_t_40 => ?_)
      refine tz_bd (tz_X8_depthsMet T5825 k_t_22) (fun t_43 i_t_43 => ?_)
      refine tz_bd (tz_X6_depthsAt T5825 (tq_w i2_x1 (by decide) (by decide))) (fun t_47 i_t_47 => ?_)
      refine tz_bd (tz_J6_bitCount_0f7a4 T5825) (fun t_52 i_t_52 => ?_)
      have K_68 : ∀ (y0_68 : Int32), tz_O (fun z : Int32 × ez_H => (fun (z : Int32) (s : ez_H) => tq_iv (-2147483648) 2147483647 z ∧ tp p s) z.1 z.2) (z_X11_sure_68 σ5825 y0_68) := by
        intro y0_68
        unfold z_X11_sure_68
        exact tz_some ⟨(tq_top y0_68), T5825⟩
      refine tz_if _ (fun c5815 => ?_) (fun c5815 => ?_)
      ·
        have i5_t_52 : tq_iv 1 1 t_52 := tq_cut i_t_52 (tq_eqL c5815 tk_1) (by decide) (by decide)
        refine tz_bd (tz_J6_numberOfTrailingZeros_0f7a4 T5825) (fun t_60 i_t_60 => ?_)
        exact K_68 t_60
      ·
        exact K_68 (-2 : Int32)
set_option maxRecDepth 4000 in
theorem tz_X2_bunchOf {p : tz_P} {σ : ez_H} {h0 : Nat} {x1 : Int32} (hT : tp p σ) (k_h0 : tz_C h0 = some (3, 2, 0, 0)) (i_x1 : tq_iv 0 2147483646 x1) : tz_O (fun z => tq_iv (-2147483648) 2147483647 z) (z_X2_bunchOf σ h0 x1) := by
  unfold z_X2_bunchOf
  refine tz_bd (tz_ob hT k_h0) (fun _ _ => ?_)
  have K_19 : ∀ (y0_19 : Int32), tz_O (fun (z : Int32) => tq_iv (-2147483648) 2147483647 z) (z_X2_bunchOf_19 σ y0_19) := by
    intro y0_19
    unfold z_X2_bunchOf_19
    exact tz_some (tq_top y0_19)
  have K_18 : tq_iv 4 2147483646 x1 → tz_O (fun (z : Int32) => tq_iv (-2147483648) 2147483647 z) (z_X2_bunchOf_18 σ) := by
    intro j18_x1
    unfold z_X2_bunchOf_18
    exact K_19 (0 : Int32)
  refine tz_if _ (fun c5838 => ?_) (fun c5838 => ?_)
  ·
    exact (tq_xlt c5838 i_x1 tk_0 (by decide)).elim
  ·
    refine tz_if _ (fun c5837 => ?_) (fun c5837 => ?_)
    ·
      have i1_x1 : tq_iv 4 2147483646 x1 := tq_cut i_x1 (tq_leR c5837 tk_4 i_x1) (by decide) (by decide)
      exact K_18 i1_x1
    ·
      have i2_x1 : tq_iv 0 3 x1 := tq_cut i_x1 (tq_ltL (tq_nle c5837) i_x1 tk_4) (by decide) (by decide)
      refine tz_be (tg_2_3 hT k_h0) (fun t_10 e5836 k_t_10 => ?_)
      refine tz_be (tz_ia hT k_t_10 (te_0 (p := p)) i2_x1 (by decide) (by decide)) (fun t_14 e5835 i_t_14 => ?_)
      exact K_19 t_14
set_option maxRecDepth 4000 in
theorem tz_X2_handOn {p : tz_P} {σ : ez_H} {h0 : Nat} {x1 : Int32} {x2 : Int32} (hT : tp p σ) (k_h0 : tz_C h0 = some (3, 2, 0, 0)) (i_x1 : tq_iv 1 2147483646 x1) (i_x2 : tq_iv 0 2147483645 x2) : tz_O2 (fun (z : Int32) (s : ez_H) => tq_iv 0 1 z ∧ tp p s) (z_X2_handOn σ h0 x1 x2) := by
  show tz_O (fun z : Int32 × ez_H => (fun (z : Int32) (s : ez_H) => tq_iv 0 1 z ∧ tp p s) z.1 z.2) _
  unfold z_X2_handOn
  refine tz_bd (tz_ob hT k_h0) (fun _ _ => ?_)
  refine tz_bd (tz_X2_bunchOf hT k_h0 (tq_w i_x1 (by decide) (by decide))) (fun t_2 i_t_2 => ?_)
  refine tz_bd (tz_X2_bunchOf hT k_h0 (tq_w i_x2 (by decide) (by decide))) (fun t_7 i_t_7 => ?_)
  refine tz_let (fun t_10 e5868 => ?_)
  refine tz_bd (tz_X2_bunchOf hT k_h0 (tq_w i_x1 (by decide) (by decide))) (fun t_14 i_t_14 => ?_)
  refine tz_bd (tz_X2_bunchOf hT k_h0 (tq_w i_x2 (by decide) (by decide))) (fun t_19 i_t_19 => ?_)
  have K_30 : ∀ (y0_30 : Int32), tq_iv 0 1 y0_30 → tz_O (fun z : Int32 × ez_H => (fun (z : Int32) (s : ez_H) => tq_iv 0 1 z ∧ tp p s) z.1 z.2) (z_X2_handOn_30 σ h0 x1 x2 t_10 y0_30) := by
    intro y0_30 i_y0_30
    unfold z_X2_handOn_30
    have K_55 : tz_O (fun z : Int32 × ez_H => (fun (z : Int32) (s : ez_H) => tq_iv 0 1 z ∧ tp p s) z.1 z.2) (z_X2_handOn_55 σ) := by
      unfold z_X2_handOn_55
      exact tz_some ⟨(tq_w tk_0 (by decide) (by decide)), hT⟩
    refine tz_if _ (fun c5862 => ?_) (fun c5862 => ?_)
    ·
      have i1_y0_30 : tq_iv 0 0 y0_30 := tq_cut i_y0_30 (tq_eqL c5862 tk_0) (by decide) (by decide)
      refine tz_if _ (fun c5860 => ?_) (fun c5860 => ?_)
      ·
        exact (tq_xlt c5860 i_x1 tk_0 (by decide)).elim
      ·
        refine tz_if _ (fun c5859 => ?_) (fun c5859 => ?_)
        ·
          exact (tq_xlt c5859 i_x2 tk_0 (by decide)).elim
        ·
          refine tz_if _ (fun c5858 => ?_) (fun c5858 => ?_)
          ·
            have i2_x1 : tq_iv 4 2147483646 x1 := tq_cut i_x1 (tq_leR c5858 tk_4 i_x1) (by decide) (by decide)
            exact K_55 
          ·
            have i3_x1 : tq_iv 1 3 x1 := tq_cut i_x1 (tq_ltL (tq_nle c5858) i_x1 tk_4) (by decide) (by decide)
            refine tz_if _ (fun c5857 => ?_) (fun c5857 => ?_)
            ·
              have i4_x2 : tq_iv 0 3 x2 := tq_cut i_x2 (tq_ltL c5857 i_x2 tk_4) (by decide) (by decide)
              refine tz_bd (tz_X2_bunchOf hT k_h0 (tq_w i3_x1 (by decide) (by decide))) (fun t_61 i_t_61 => ?_)
              refine tz_bd (tz_X2_reachWith hT k_h0 (tq_w i3_x1 (by decide) (by decide))) (fun t_64 i_t_64 => ?_)
              refine tz_bd (tz_X2_bunchOf hT k_h0 (tq_w i4_x2 (by decide) (by decide))) (fun t_71 i_t_71 => ?_)
              refine tz_bd (tz_X2_reachWith hT k_h0 (tq_w i4_x2 (by decide) (by decide))) (fun t_74 i_t_74 => ?_)
              refine tz_let (fun t_77 e5851 => ?_)
              refine tz_if _ (fun c5850 => ?_) (fun c5850 => ?_)
              ·
                have i5_t_77 : tq_iv 0 0 t_77 := tq_cut (tq_top t_77) (tq_eqL c5850 tk_0) (by decide) (by decide)
                exact tz_some ⟨(tq_w tk_0 (by decide) (by decide)), hT⟩
              ·
                refine tz_be (tg_2_3 hT k_h0) (fun t_84 e5849 k_t_84 => ?_)
                refine tz_be (tz_is hT k_t_84 (te_0 (p := p)) i3_x1 (by decide) (by decide) (tq_top t_10)) (fun σ5848 e5848 T5848 => ?_)
                refine tz_bk ((fr_is_gr e5848).trans e5849) ?_
                refine tz_be (tz_is T5848 k_t_84 (te_0 (p := p)) i4_x2 (by decide) (by decide) (tq_top t_10)) (fun σ5846 e5846 T5846 => ?_)
                exact tz_some ⟨(tq_w tk_1 (by decide) (by decide)), T5846⟩
            ·
              have i6_x2 : tq_iv 4 2147483645 x2 := tq_cut i_x2 (tq_leR (tq_nlt c5857) tk_4 i_x2) (by decide) (by decide)
              exact K_55 
    ·
      have i7_y0_30 : tq_iv 1 1 y0_30 := tq_w (tq_neLo c5862 i_y0_30 tk_0) (by decide) (by decide)
      exact K_55 
  refine tz_if _ (fun c5865 => ?_) (fun c5865 => ?_)
  ·
    exact K_30 (1 : Int32) (tq_w tk_1 (by decide) (by decide))
  ·
    exact K_30 (0 : Int32) (tq_w tk_0 (by decide) (by decide))
set_option maxRecDepth 4000 in
theorem tz_X2_sharedReach {p : tz_P} {σ : ez_H} {h0 : Nat} {x1 : Int32} (hT : tp p σ) (k_h0 : tz_C h0 = some (3, 2, 0, 0)) (i_x1 : tq_iv 0 2147483646 x1) : tz_O2 (fun (z : Int32) (s : ez_H) => tq_iv (-2147483648) 2147483647 z ∧ tp p s) (z_X2_sharedReach σ h0 x1) := by
  show tz_O (fun z : Int32 × ez_H => (fun (z : Int32) (s : ez_H) => tq_iv (-2147483648) 2147483647 z ∧ tp p s) z.1 z.2) _
  unfold z_X2_sharedReach
  refine tz_bd (tz_ob hT k_h0) (fun _ _ => ?_)
  have L_2 : ∀ (n_2 : Nat) (k_2 : ez_H → Nat → Int32 → Int32 → Option (Int32 × ez_H)), (∀ (σ_2 : ez_H) (x2_2 : Int32), tp p σ_2 → tq_iv 0 4 x2_2 → (2147483647 - x2_2.toInt).toNat < n_2 → tz_O (fun z : Int32 × ez_H => (fun (z : Int32) (s : ez_H) => tq_iv (-2147483648) 2147483647 z ∧ tp p s) z.1 z.2) (k_2 σ_2 h0 x1 x2_2)) → ∀ (σ_2 : ez_H) (x2_2 : Int32), tp p σ_2 → tq_iv 0 4 x2_2 → (2147483647 - x2_2.toInt).toNat < n_2 + 1 → tz_O (fun z : Int32 × ez_H => (fun (z : Int32) (s : ez_H) => tq_iv (-2147483648) 2147483647 z ∧ tp p s) z.1 z.2) (z_X2_sharedReach_2 k_2 σ_2 h0 x1 x2_2) := by
    intro n_2 k_2 hk_2 σ_2 x2_2 T_σ_2 i_x2_2 hn_2
    unfold z_X2_sharedReach_2
    refine tz_be (tg_2_0 T_σ_2 k_h0) (fun t_4 e5907 k_t_4 => ?_)
    refine tz_be (tg_3_7 T_σ_2 k_t_4) (fun t_7 e5906 i_t_7 => ?_)
    have K_45 : tz_O (fun z : Int32 × ez_H => (fun (z : Int32) (s : ez_H) => tq_iv (-2147483648) 2147483647 z ∧ tp p s) z.1 z.2) (z_X2_sharedReach_45 σ_2 h0 x1) := by
      unfold z_X2_sharedReach_45
      have L_49 : ∀ (n_49 : Nat) (k_49 : ez_H → Nat → Int32 → Int32 → Int32 → Option (Int32 × ez_H)), (∀ (σ_49 : ez_H) (x2_49 : Int32) (x3_49 : Int32), tp p σ_49 → tq_iv 0 1 x2_49 → tq_iv 0 33 x3_49 → (2147483647 - x3_49.toInt).toNat < n_49 → tz_O (fun z : Int32 × ez_H => (fun (z : Int32) (s : ez_H) => tq_iv (-2147483648) 2147483647 z ∧ tp p s) z.1 z.2) (k_49 σ_49 h0 x1 x2_49 x3_49)) → ∀ (σ_49 : ez_H) (x2_49 : Int32) (x3_49 : Int32), tp p σ_49 → tq_iv 0 1 x2_49 → tq_iv 0 33 x3_49 → (2147483647 - x3_49.toInt).toNat < n_49 + 1 → tz_O (fun z : Int32 × ez_H => (fun (z : Int32) (s : ez_H) => tq_iv (-2147483648) 2147483647 z ∧ tp p s) z.1 z.2) (z_X2_sharedReach_49 k_49 σ_49 h0 x1 x2_49 x3_49) := by
        intro n_49 k_49 hk_49 σ_49 x2_49 x3_49 T_σ_49 i_x2_49 i_x3_49 hn_49
        unfold z_X2_sharedReach_49
        have K_115 : tz_O (fun z : Int32 × ez_H => (fun (z : Int32) (s : ez_H) => tq_iv (-2147483648) 2147483647 z ∧ tp p s) z.1 z.2) (z_X2_sharedReach_115 σ_49 h0 x1) := by
          unfold z_X2_sharedReach_115
          refine tz_bd (tz_X2_bunchOf T_σ_49 k_h0 i_x1) (fun t_119 i_t_119 => ?_)
          refine tz_bd (tz_X2_reachWith T_σ_49 k_h0 i_x1) (fun t_122 i_t_122 => ?_)
          exact tz_some ⟨(tq_top t_122), T_σ_49⟩
        refine tz_if _ (fun c5892 => ?_) (fun c5892 => ?_)
        ·
          have i1_x3_49 : tq_iv 33 33 x3_49 := tq_cut i_x3_49 (tq_ltR c5892 tk_32 i_x3_49) (by decide) (by decide)
          exact K_115 
        ·
          have i2_x3_49 : tq_iv 0 32 x3_49 := tq_cut i_x3_49 (tq_leL (tq_nlt c5892) i_x3_49 tk_32) (by decide) (by decide)
          refine tz_if _ (fun c5891 => ?_) (fun c5891 => ?_)
          ·
            have i3_x2_49 : tq_iv 0 0 x2_49 := tq_cut i_x2_49 (tq_eqL c5891 tk_0) (by decide) (by decide)
            exact K_115 
          ·
            have i4_x2_49 : tq_iv 1 1 x2_49 := tq_w (tq_neLo c5891 i_x2_49 tk_0) (by decide) (by decide)
            have L_64 : ∀ (n_64 : Nat) (k_64 : ez_H → Nat → Int32 → Int32 → Int32 → Int32 → Option (Int32 × ez_H)), (∀ (σ_64 : ez_H) (x2_64 : Int32) (x4_64 : Int32), tp p σ_64 → tq_iv 0 1 x2_64 → tq_iv 0 2147483647 x4_64 → (2147483647 - x4_64.toInt).toNat < n_64 → tz_O (fun z : Int32 × ez_H => (fun (z : Int32) (s : ez_H) => tq_iv (-2147483648) 2147483647 z ∧ tp p s) z.1 z.2) (k_64 σ_64 h0 x1 x2_64 x3_49 x4_64)) → ∀ (σ_64 : ez_H) (x2_64 : Int32) (x4_64 : Int32), tp p σ_64 → tq_iv 0 1 x2_64 → tq_iv 0 2147483647 x4_64 → (2147483647 - x4_64.toInt).toNat < n_64 + 1 → tz_O (fun z : Int32 × ez_H => (fun (z : Int32) (s : ez_H) => tq_iv (-2147483648) 2147483647 z ∧ tp p s) z.1 z.2) (z_X2_sharedReach_64 k_49 k_64 σ_64 h0 x1 x2_64 x3_49 x4_64) := by
              intro n_64 k_64 hk_64 σ_64 x2_64 x4_64 T_σ_64 i_x2_64 i_x4_64 hn_64
              unfold z_X2_sharedReach_64
              refine tz_be (tg_2_0 T_σ_64 k_h0) (fun t_67 e5887 k_t_67 => ?_)
              refine tz_be (tg_3_7 T_σ_64 k_t_67) (fun t_70 e5886 i_t_70 => ?_)
              refine tz_if _ (fun c5885 => ?_) (fun c5885 => ?_)
              ·
                refine tz_let (fun t_109 e5883 => ?_)
                have i5_t_109 : tq_iv 1 33 t_109 := tq_w (tq_add e5883 i2_x3_49 tk_1 (by decide) (by decide)) (by decide) (by decide)
                exact hk_49 σ_64 x2_64 t_109 T_σ_64 i_x2_64 (tq_w i5_t_109 (by decide) (by decide)) (tq_up e5883 i2_x3_49 tk_1 (by decide) (by decide) hn_49)
              ·
                have i6_x4_64 : tq_iv 0 2147483646 x4_64 := tq_cut i_x4_64 (tq_ltL (tq_nle c5885) i_x4_64 (tq_top t_70)) (by decide) (by decide)
                have i7_t_70 : tq_iv 1 2147483647 t_70 := tq_cut (tq_top t_70) (tq_ltR (tq_nle c5885) i_x4_64 (tq_top t_70)) (by decide) (by decide)
                have L_79 : ∀ (n_79 : Nat) (k_79 : ez_H → Nat → Int32 → Int32 → Int32 → Int32 → Int32 → Option (Int32 × ez_H)), (∀ (σ_79 : ez_H) (x2_79 : Int32) (x5_79 : Int32), tp p σ_79 → tq_iv 0 1 x2_79 → tq_iv 0 2147483646 x5_79 → (2147483647 - x5_79.toInt).toNat < n_79 → tz_O (fun z : Int32 × ez_H => (fun (z : Int32) (s : ez_H) => tq_iv (-2147483648) 2147483647 z ∧ tp p s) z.1 z.2) (k_79 σ_79 h0 x1 x2_79 x3_49 x4_64 x5_79)) → ∀ (σ_79 : ez_H) (x2_79 : Int32) (x5_79 : Int32), tp p σ_79 → tq_iv 0 1 x2_79 → tq_iv 0 2147483646 x5_79 → (2147483647 - x5_79.toInt).toNat < n_79 + 1 → tz_O (fun z : Int32 × ez_H => (fun (z : Int32) (s : ez_H) => tq_iv (-2147483648) 2147483647 z ∧ tp p s) z.1 z.2) (z_X2_sharedReach_79 k_49 k_64 k_79 σ_79 h0 x1 x2_79 x3_49 x4_64 x5_79) := by
                  intro n_79 k_79 hk_79 σ_79 x2_79 x5_79 T_σ_79 i_x2_79 i_x5_79 hn_79
                  unfold z_X2_sharedReach_79
                  refine tz_if _ (fun c5881 => ?_) (fun c5881 => ?_)
                  ·
                    refine tz_let (fun t_103 e5876 => ?_)
                    have i8_t_103 : tq_iv 1 2147483647 t_103 := tq_w (tq_add e5876 i6_x4_64 tk_1 (by decide) (by decide)) (by decide) (by decide)
                    exact hk_64 σ_79 x2_79 t_103 T_σ_79 i_x2_79 (tq_w i8_t_103 (by decide) (by decide)) (tq_up e5876 i6_x4_64 tk_1 (by decide) (by decide) hn_64)
                  ·
                    have i9_x5_79 : tq_iv 0 2147483645 x5_79 := tq_cut i_x5_79 (tq_ltL (tq_nle c5881) i_x5_79 i6_x4_64) (by decide) (by decide)
                    have i10_x4_64 : tq_iv 1 2147483646 x4_64 := tq_cut i6_x4_64 (tq_ltR (tq_nle c5881) i_x5_79 i6_x4_64) (by decide) (by decide)
                    refine tz_b2 (tz_X2_handOn T_σ_79 k_h0 i10_x4_64 i9_x5_79) (fun t_92 σ5880 ⟨i_t_92, T5880⟩ => ?_)
                    refine tz_let (fun t_95 e5879 => ?_)
                    have i11_t_95 : tq_iv 0 1 t_95 := tq_or e5879 i_x2_79 i_t_92 1 (by decide) (by decide) (by decide) (by decide) (by decide)
                    refine tz_let (fun t_97 e5878 => ?_)
                    have i12_t_97 : tq_iv 1 2147483646 t_97 := tq_w (tq_add e5878 i9_x5_79 tk_1 (by decide) (by decide)) (by decide) (by decide)
                    exact hk_79 σ5880 t_95 t_97 T5880 i11_t_95 (tq_w i12_t_97 (by decide) (by decide)) (tq_up e5878 i9_x5_79 tk_1 (by decide) (by decide) hn_79)
                have E_79 : ∀ (σ_79 : ez_H) (x2_79 : Int32) (x5_79 : Int32), tp p σ_79 → tq_iv 0 1 x2_79 → tq_iv 0 2147483646 x5_79 → tz_O (fun z : Int32 × ez_H => (fun (z : Int32) (s : ez_H) => tq_iv (-2147483648) 2147483647 z ∧ tp p s) z.1 z.2) (ez_fix (fun _ _ _ _ _ _ _ => none) (z_X2_sharedReach_79 k_49 k_64) ez_N σ_79 h0 x1 x2_79 x3_49 x4_64 x5_79) := by
                  intro σ_79 x2_79 x5_79 T_σ_79 i_x2_79 i_x5_79
                  exact ez_fix_indn (fun n_79 (k_79 : ez_H → Nat → Int32 → Int32 → Int32 → Int32 → Int32 → Option (Int32 × ez_H)) => ∀ (σ_79 : ez_H) (x2_79 : Int32) (x5_79 : Int32), tp p σ_79 → tq_iv 0 1 x2_79 → tq_iv 0 2147483646 x5_79 → (2147483647 - x5_79.toInt).toNat < n_79 → tz_O (fun z : Int32 × ez_H => (fun (z : Int32) (s : ez_H) => tq_iv (-2147483648) 2147483647 z ∧ tp p s) z.1 z.2) (k_79 σ_79 h0 x1 x2_79 x3_49 x4_64 x5_79)) (by intros; rename_i h; exact absurd h (Nat.not_lt_zero _)) L_79 ez_N σ_79 x2_79 x5_79 T_σ_79 i_x2_79 i_x5_79 (tq_m0 x5_79)
                exact E_79 σ_64 x2_64 (0 : Int32) T_σ_64 i_x2_64 (tq_w tk_0 (by decide) (by decide))
            have E_64 : ∀ (σ_64 : ez_H) (x2_64 : Int32) (x4_64 : Int32), tp p σ_64 → tq_iv 0 1 x2_64 → tq_iv 0 2147483647 x4_64 → tz_O (fun z : Int32 × ez_H => (fun (z : Int32) (s : ez_H) => tq_iv (-2147483648) 2147483647 z ∧ tp p s) z.1 z.2) (ez_fix (fun _ _ _ _ _ _ => none) (z_X2_sharedReach_64 k_49) ez_N σ_64 h0 x1 x2_64 x3_49 x4_64) := by
              intro σ_64 x2_64 x4_64 T_σ_64 i_x2_64 i_x4_64
              exact ez_fix_indn (fun n_64 (k_64 : ez_H → Nat → Int32 → Int32 → Int32 → Int32 → Option (Int32 × ez_H)) => ∀ (σ_64 : ez_H) (x2_64 : Int32) (x4_64 : Int32), tp p σ_64 → tq_iv 0 1 x2_64 → tq_iv 0 2147483647 x4_64 → (2147483647 - x4_64.toInt).toNat < n_64 → tz_O (fun z : Int32 × ez_H => (fun (z : Int32) (s : ez_H) => tq_iv (-2147483648) 2147483647 z ∧ tp p s) z.1 z.2) (k_64 σ_64 h0 x1 x2_64 x3_49 x4_64)) (by intros; rename_i h; exact absurd h (Nat.not_lt_zero _)) L_64 ez_N σ_64 x2_64 x4_64 T_σ_64 i_x2_64 i_x4_64 (tq_m0 x4_64)
            exact E_64 σ_49 (0 : Int32) (0 : Int32) T_σ_49 (tq_w tk_0 (by decide) (by decide)) (tq_w tk_0 (by decide) (by decide))
      have E_49 : ∀ (σ_49 : ez_H) (x2_49 : Int32) (x3_49 : Int32), tp p σ_49 → tq_iv 0 1 x2_49 → tq_iv 0 33 x3_49 → tz_O (fun z : Int32 × ez_H => (fun (z : Int32) (s : ez_H) => tq_iv (-2147483648) 2147483647 z ∧ tp p s) z.1 z.2) (ez_fix (fun _ _ _ _ _ => none) (z_X2_sharedReach_49) ez_N σ_49 h0 x1 x2_49 x3_49) := by
        intro σ_49 x2_49 x3_49 T_σ_49 i_x2_49 i_x3_49
        exact ez_fix_indn (fun n_49 (k_49 : ez_H → Nat → Int32 → Int32 → Int32 → Option (Int32 × ez_H)) => ∀ (σ_49 : ez_H) (x2_49 : Int32) (x3_49 : Int32), tp p σ_49 → tq_iv 0 1 x2_49 → tq_iv 0 33 x3_49 → (2147483647 - x3_49.toInt).toNat < n_49 → tz_O (fun z : Int32 × ez_H => (fun (z : Int32) (s : ez_H) => tq_iv (-2147483648) 2147483647 z ∧ tp p s) z.1 z.2) (k_49 σ_49 h0 x1 x2_49 x3_49)) (by intros; rename_i h; exact absurd h (Nat.not_lt_zero _)) L_49 ez_N σ_49 x2_49 x3_49 T_σ_49 i_x2_49 i_x3_49 (tq_m0 x3_49)
      exact E_49 σ_2 (1 : Int32) (0 : Int32) T_σ_2 (tq_w tk_1 (by decide) (by decide)) (tq_w tk_0 (by decide) (by decide))
    refine tz_if _ (fun c5905 => ?_) (fun c5905 => ?_)
    ·
      have i13_t_7 : tq_iv (-2147483648) 4 t_7 := tq_cut (tq_top t_7) (tq_leL c5905 (tq_top t_7) i_x2_2) (by decide) (by decide)
      exact K_45 
    ·
      have i14_t_7 : tq_iv 1 2147483647 t_7 := tq_cut (tq_top t_7) (tq_ltR (tq_nle c5905) i_x2_2 (tq_top t_7)) (by decide) (by decide)
      refine tz_if _ (fun c5904 => ?_) (fun c5904 => ?_)
      ·
        have i15_x2_2 : tq_iv 4 4 x2_2 := tq_cut i_x2_2 (tq_leR c5904 tk_4 i_x2_2) (by decide) (by decide)
        exact K_45 
      ·
        have i16_x2_2 : tq_iv 0 3 x2_2 := tq_cut i_x2_2 (tq_ltL (tq_nle c5904) i_x2_2 tk_4) (by decide) (by decide)
        refine tz_be (tg_2_3 T_σ_2 k_h0) (fun t_19 e5903 k_t_19 => ?_)
        refine tz_be (tg_2_1 T_σ_2 k_h0) (fun t_24 e5902 k_t_24 => ?_)
        refine tz_bk e5907 ?_
        refine tz_be (tg_3_3 T_σ_2 k_t_4) (fun t_32 e5900 i_t_32 => ?_)
        refine tz_bd (tz_X7_heldBy T_σ_2 k_t_24 (tq_w i16_x2_2 (by decide) (by decide)) i_t_32) (fun t_35 i_t_35 => ?_)
        refine tz_be (tz_is T_σ_2 k_t_19 (te_0 (p := p)) i16_x2_2 (by decide) (by decide) (tq_top t_35)) (fun σ5898 e5898 T5898 => ?_)
        refine tz_let (fun t_39 e5897 => ?_)
        have i17_t_39 : tq_iv 1 4 t_39 := tq_w (tq_add e5897 i16_x2_2 tk_1 (by decide) (by decide)) (by decide) (by decide)
        exact hk_2 σ5898 t_39 T5898 (tq_w i17_t_39 (by decide) (by decide)) (tq_up e5897 i16_x2_2 tk_1 (by decide) (by decide) hn_2)
  have E_2 : ∀ (σ_2 : ez_H) (x2_2 : Int32), tp p σ_2 → tq_iv 0 4 x2_2 → tz_O (fun z : Int32 × ez_H => (fun (z : Int32) (s : ez_H) => tq_iv (-2147483648) 2147483647 z ∧ tp p s) z.1 z.2) (ez_fix (fun _ _ _ _ => none) (z_X2_sharedReach_2) ez_N σ_2 h0 x1 x2_2) := by
    intro σ_2 x2_2 T_σ_2 i_x2_2
    exact ez_fix_indn (fun n_2 (k_2 : ez_H → Nat → Int32 → Int32 → Option (Int32 × ez_H)) => ∀ (σ_2 : ez_H) (x2_2 : Int32), tp p σ_2 → tq_iv 0 4 x2_2 → (2147483647 - x2_2.toInt).toNat < n_2 → tz_O (fun z : Int32 × ez_H => (fun (z : Int32) (s : ez_H) => tq_iv (-2147483648) 2147483647 z ∧ tp p s) z.1 z.2) (k_2 σ_2 h0 x1 x2_2)) (by intros; rename_i h; exact absurd h (Nat.not_lt_zero _)) L_2 ez_N σ_2 x2_2 T_σ_2 i_x2_2 (tq_m0 x2_2)
  exact E_2 σ (0 : Int32) hT (tq_w tk_0 (by decide) (by decide))
set_option maxRecDepth 4000 in
theorem tz_X11_together {p : tz_P} {σ : ez_H} {h0 : Nat} {x1 : Int32} (hT : tp p σ) (k_h0 : tz_C h0 = some (3, 11, 0, 0)) : tz_O2 (fun (z : Int32) (s : ez_H) => tq_iv (-2147483648) 2147483647 z ∧ tp p s) (z_X11_together σ h0 x1) := by
  show tz_O (fun z : Int32 × ez_H => (fun (z : Int32) (s : ez_H) => tq_iv (-2147483648) 2147483647 z ∧ tp p s) z.1 z.2) _
  unfold z_X11_together
  refine tz_bd (tz_ob hT k_h0) (fun _ _ => ?_)
  refine tz_be (tg_11_3 hT k_h0) (fun t_1 e5917 k_t_1 => ?_)
  refine tz_bd (tz_X3_hasPerson hT k_t_1) (fun t_5 ⟨i_t_5, g_t_5⟩ => ?_)
  have K_23 : ∀ (σ_23 : ez_H) (y0_23 : Int32), tp p σ_23 → tz_O (fun z : Int32 × ez_H => (fun (z : Int32) (s : ez_H) => tq_iv (-2147483648) 2147483647 z ∧ tp p s) z.1 z.2) (z_X11_together_23 σ_23 y0_23) := by
    intro σ_23 y0_23 T_σ_23
    unfold z_X11_together_23
    exact tz_some ⟨(tq_top y0_23), T_σ_23⟩
  refine tz_if _ (fun c5915 => ?_) (fun c5915 => ?_)
  ·
    have i1_t_5 : tq_iv 0 0 t_5 := tq_cut i_t_5 (tq_eqL c5915 tk_0) (by decide) (by decide)
    exact K_23 σ (-1 : Int32) hT
  ·
    have i2_x1 : tq_iv 0 2147483646 x1 := tq_cut (tq_top x1) (g_t_5 c5915) (by decide) (by decide)
    have i3_t_5 : tq_iv 1 1 t_5 := tq_w (tq_neLo c5915 i_t_5 tk_0) (by decide) (by decide)
    refine tz_be (tg_11_12 hT k_h0) (fun t_12 e5914 k_t_12 => ?_)
    refine tz_b2 (tz_X2_sharedReach hT k_t_12 i2_x1) (fun t_16 σ5913 ⟨i_t_16, T5913⟩ => ?_)
    exact K_23 σ5913 t_16 T5913
set_option maxRecDepth 4000 in
theorem tz_X2_exchange {p : tz_P} {σ : ez_H} {h0 : Nat} {x1 : Int32} {x2 : Int32} (hT : tp p σ) (k_h0 : tz_C h0 = some (3, 2, 0, 0)) (i_x1 : tq_iv 0 2147483646 x1) (i_x2 : tq_iv 0 2147483646 x2) : tz_O (fun z => tq_iv (-1) 63 z) (z_X2_exchange σ h0 x1 x2) := by
  unfold z_X2_exchange
  refine tz_bd (tz_ob hT k_h0) (fun _ _ => ?_)
  refine tz_be (tg_2_1 hT k_h0) (fun t_1 e5971 k_t_1 => ?_)
  refine tz_be (tg_2_0 hT k_h0) (fun t_6 e5970 k_t_6 => ?_)
  refine tz_be (tg_3_3 hT k_t_6) (fun t_9 e5969 i_t_9 => ?_)
  refine tz_bd (tz_X7_heldBy hT k_t_1 (tq_w i_x1 (by decide) (by decide)) i_t_9) (fun t_12 i_t_12 => ?_)
  refine tz_bk e5971 ?_
  refine tz_bk e5970 ?_
  refine tz_ba e5969 (fun t_25 e5965 a5965 => ?_)
  have i1_t_25 : tq_iv 0 8 t_25 := tq_eqL a5965 i_t_9
  refine tz_bd (tz_X7_heldBy hT k_t_1 (tq_w i_x2 (by decide) (by decide)) i1_t_25) (fun t_28 i_t_28 => ?_)
  refine tz_bd (tz_X2_reachWith hT k_h0 i_x1) (fun t_36 i_t_36 => ?_)
  refine tz_bd (tz_J6_bitCount_0f7a4 hT) (fun t_39 i_t_39 => ?_)
  refine tz_bd (tz_X2_reachWith hT k_h0 i_x2) (fun t_48 i_t_48 => ?_)
  refine tz_bd (tz_J6_bitCount_0f7a4 hT) (fun t_51 i_t_51 => ?_)
  have L_59 : ∀ (n_59 : Nat) (k_59 : Nat → Int32 → Int32 → Int32 → Int32 → Int32 → Int32 → Int32 → Option (Int32)), (∀ (x7_59 : Int32), tq_iv 0 8 x7_59 → (2147483647 - x7_59.toInt).toNat < n_59 → tz_O (fun (z : Int32) => tq_iv (-1) 63 z) (k_59 h0 x1 x2 t_12 t_28 t_39 t_51 x7_59)) → ∀ (x7_59 : Int32), tq_iv 0 8 x7_59 → (2147483647 - x7_59.toInt).toNat < n_59 + 1 → tz_O (fun (z : Int32) => tq_iv (-1) 63 z) (z_X2_exchange_59 σ k_59 h0 x1 x2 t_12 t_28 t_39 t_51 x7_59) := by
    intro n_59 k_59 hk_59 x7_59 i_x7_59 hn_59
    unfold z_X2_exchange_59
    refine tz_bk e5970 ?_
    refine tz_ba e5969 (fun t_65 e5957 a5957 => ?_)
    have i2_t_65 : tq_iv 0 8 t_65 := tq_eqL a5957 i_t_9
    refine tz_if _ (fun c5956 => ?_) (fun c5956 => ?_)
    ·
      exact tz_some (tq_w tk_m1 (by decide) (by decide))
    ·
      have i3_x7_59 : tq_iv 0 7 x7_59 := tq_cut i_x7_59 (tq_ltL (tq_nle c5956) i_x7_59 i2_t_65) (by decide) (by decide)
      have i4_t_65 : tq_iv 1 8 t_65 := tq_cut i2_t_65 (tq_ltR (tq_nle c5956) i_x7_59 i2_t_65) (by decide) (by decide)
      have i5_t_9 : tq_iv 1 8 t_9 := tq_cut i_t_9 (tq_eqL (Eq.symm a5957) i4_t_65) (by decide) (by decide)
      have L_74 : ∀ (n_74 : Nat) (k_74 : Nat → Int32 → Int32 → Int32 → Int32 → Int32 → Int32 → Int32 → Int32 → Option (Int32)), (∀ (x8_74 : Int32), tq_iv 0 8 x8_74 → (2147483647 - x8_74.toInt).toNat < n_74 → tz_O (fun (z : Int32) => tq_iv (-1) 63 z) (k_74 h0 x1 x2 t_12 t_28 t_39 t_51 x7_59 x8_74)) → ∀ (x8_74 : Int32), tq_iv 0 8 x8_74 → (2147483647 - x8_74.toInt).toNat < n_74 + 1 → tz_O (fun (z : Int32) => tq_iv (-1) 63 z) (z_X2_exchange_74 σ k_59 k_74 h0 x1 x2 t_12 t_28 t_39 t_51 x7_59 x8_74) := by
        intro n_74 k_74 hk_74 x8_74 i_x8_74 hn_74
        unfold z_X2_exchange_74
        refine tz_bk e5970 ?_
        refine tz_ba e5969 (fun t_80 e5952 a5952 => ?_)
        have i6_t_80 : tq_iv 1 8 t_80 := tq_eqL a5952 i5_t_9
        refine tz_if _ (fun c5951 => ?_) (fun c5951 => ?_)
        ·
          have i7_x8_74 : tq_iv 1 8 x8_74 := tq_cut i_x8_74 (tq_leR c5951 i6_t_80 i_x8_74) (by decide) (by decide)
          refine tz_let (fun t_178 e5938 => ?_)
          have i8_t_178 : tq_iv 1 8 t_178 := tq_w (tq_add e5938 i3_x7_59 tk_1 (by decide) (by decide)) (by decide) (by decide)
          exact hk_59 t_178 (tq_w i8_t_178 (by decide) (by decide)) (tq_up e5938 i3_x7_59 tk_1 (by decide) (by decide) hn_59)
        ·
          have i9_x8_74 : tq_iv 0 7 x8_74 := tq_cut i_x8_74 (tq_ltL (tq_nle c5951) i_x8_74 i6_t_80) (by decide) (by decide)
          refine tz_let (fun t_89 e5950 => ?_)
          have i10_t_89 : tq_iv 1 128 t_89 := tq_shl1 e5950 i3_x7_59 (by decide) (by decide) (by decide) (by decide)
          refine tz_let (fun t_93 e5949 => ?_)
          have i11_t_93 : tq_iv 1 128 t_93 := tq_shl1 e5949 i9_x8_74 (by decide) (by decide) (by decide) (by decide)
          refine tz_let (fun t_94 e5948 => ?_)
          have i12_t_94 : tq_iv 0 255 t_94 := tq_or e5948 i10_t_89 i11_t_93 8 (by decide) (by decide) (by decide) (by decide) (by decide)
          refine tz_let (fun t_100 e5947 => ?_)
          refine tz_let (fun t_102 e5946 => ?_)
          have i13_t_102 : tq_iv 0 1 t_102 := tq_and2 e5946 tk_1 (by decide)
          have K_121 : ∀ (y0_121 : Int32), tq_iv 0 1 y0_121 → (¬ y0_121 = 0 → tq_iv 1 1 t_102) → tz_O (fun (z : Int32) => tq_iv (-1) 63 z) (z_X2_exchange_121 σ k_59 k_74 h0 x1 x2 t_12 t_28 t_39 t_51 x7_59 x8_74 t_94 y0_121) := by
            intro y0_121 i_y0_121 g121_y0_121_t_102
            unfold z_X2_exchange_121
            have K_172 : tz_O (fun (z : Int32) => tq_iv (-1) 63 z) (z_X2_exchange_172 σ k_59 k_74 h0 x1 x2 t_12 t_28 t_39 t_51 x7_59 x8_74) := by
              unfold z_X2_exchange_172
              refine tz_let (fun t_172 e5920 => ?_)
              have i14_t_172 : tq_iv 1 8 t_172 := tq_w (tq_add e5920 i9_x8_74 tk_1 (by decide) (by decide)) (by decide) (by decide)
              exact hk_74 t_172 (tq_w i14_t_172 (by decide) (by decide)) (tq_up e5920 i9_x8_74 tk_1 (by decide) (by decide) hn_74)
            refine tz_if _ (fun c5935 => ?_) (fun c5935 => ?_)
            ·
              have i15_y0_121 : tq_iv 0 0 y0_121 := tq_cut i_y0_121 (tq_eqL c5935 tk_0) (by decide) (by decide)
              exact K_172 
            ·
              have i16_t_102 : tq_iv 1 1 t_102 := tq_cut i13_t_102 (g121_y0_121_t_102 c5935) (by decide) (by decide)
              have i17_y0_121 : tq_iv 1 1 y0_121 := tq_w (tq_neLo c5935 i_y0_121 tk_0) (by decide) (by decide)
              refine tz_let (fun t_133 e5934 => ?_)
              refine tz_bd (tz_X2_reachWith hT k_h0 i_x1) (fun t_134 i_t_134 => ?_)
              refine tz_bd (tz_J6_bitCount_0f7a4 hT) (fun t_137 i_t_137 => ?_)
              refine tz_if _ (fun c5931 => ?_) (fun c5931 => ?_)
              ·
                exact K_172 
              ·
                have i18_t_39 : tq_iv 0 62 t_39 := tq_cut i_t_39 (tq_ltL (tq_nle c5931) i_t_39 i_t_137) (by decide) (by decide)
                have i19_t_137 : tq_iv 1 63 t_137 := tq_cut i_t_137 (tq_ltR (tq_nle c5931) i_t_39 i_t_137) (by decide) (by decide)
                refine tz_let (fun t_151 e5930 => ?_)
                refine tz_bd (tz_X2_reachWith hT k_h0 i_x2) (fun t_152 i_t_152 => ?_)
                refine tz_bd (tz_J6_bitCount_0f7a4 hT) (fun t_155 i_t_155 => ?_)
                refine tz_if _ (fun c5927 => ?_) (fun c5927 => ?_)
                ·
                  exact K_172 
                ·
                  have i20_t_51 : tq_iv 0 62 t_51 := tq_cut i_t_51 (tq_ltL (tq_nle c5927) i_t_51 i_t_155) (by decide) (by decide)
                  have i21_t_155 : tq_iv 1 63 t_155 := tq_cut i_t_155 (tq_ltR (tq_nle c5927) i_t_51 i_t_155) (by decide) (by decide)
                  refine tz_let (fun t_167 e5926 => ?_)
                  have i22_t_167 : tq_iv 0 56 t_167 := tq_w (tq_mul e5926 i3_x7_59 tk_8 (by decide) (by decide) (by decide)) (by decide) (by decide)
                  refine tz_let (fun t_170 e5925 => ?_)
                  have i23_t_170 : tq_iv 0 63 t_170 := tq_w (tq_add e5925 i22_t_167 i9_x8_74 (by decide) (by decide)) (by decide) (by decide)
                  exact tz_some (tq_w i23_t_170 (by decide) (by decide))
          have K_120 : tz_O (fun (z : Int32) => tq_iv (-1) 63 z) (z_X2_exchange_120 σ k_59 k_74 h0 x1 x2 t_12 t_28 t_39 t_51 x7_59 x8_74 t_94) := by
            unfold z_X2_exchange_120
            exact K_121 (0 : Int32) (tq_w tk_0 (by decide) (by decide)) (fun h => absurd rfl h)
          refine tz_if _ (fun c5945 => ?_) (fun c5945 => ?_)
          ·
            have i24_t_102 : tq_iv 0 0 t_102 := tq_cut i13_t_102 (tq_eqL c5945 tk_0) (by decide) (by decide)
            exact K_120 
          ·
            have i25_t_102 : tq_iv 1 1 t_102 := tq_w (tq_neLo c5945 i13_t_102 tk_0) (by decide) (by decide)
            refine tz_let (fun t_110 e5944 => ?_)
            refine tz_let (fun t_112 e5943 => ?_)
            have i26_t_112 : tq_iv 0 1 t_112 := tq_and2 e5943 tk_1 (by decide)
            refine tz_if _ (fun c5942 => ?_) (fun c5942 => ?_)
            ·
              have i27_t_112 : tq_iv 0 0 t_112 := tq_cut i26_t_112 (tq_eqL c5942 tk_0) (by decide) (by decide)
              exact K_120 
            ·
              have i28_t_112 : tq_iv 1 1 t_112 := tq_w (tq_neLo c5942 i26_t_112 tk_0) (by decide) (by decide)
              exact K_121 (1 : Int32) (tq_w tk_1 (by decide) (by decide)) (fun _ => i25_t_102)
      have E_74 : ∀ (x8_74 : Int32), tq_iv 0 8 x8_74 → tz_O (fun (z : Int32) => tq_iv (-1) 63 z) (ez_fix (fun _ _ _ _ _ _ _ _ _ => none) (z_X2_exchange_74 σ k_59) ez_N h0 x1 x2 t_12 t_28 t_39 t_51 x7_59 x8_74) := by
        intro x8_74 i_x8_74
        exact ez_fix_indn (fun n_74 (k_74 : Nat → Int32 → Int32 → Int32 → Int32 → Int32 → Int32 → Int32 → Int32 → Option (Int32)) => ∀ (x8_74 : Int32), tq_iv 0 8 x8_74 → (2147483647 - x8_74.toInt).toNat < n_74 → tz_O (fun (z : Int32) => tq_iv (-1) 63 z) (k_74 h0 x1 x2 t_12 t_28 t_39 t_51 x7_59 x8_74)) (by intros; rename_i h; exact absurd h (Nat.not_lt_zero _)) L_74 ez_N x8_74 i_x8_74 (tq_m0 x8_74)
      exact E_74 (0 : Int32) (tq_w tk_0 (by decide) (by decide))
  have E_59 : ∀ (x7_59 : Int32), tq_iv 0 8 x7_59 → tz_O (fun (z : Int32) => tq_iv (-1) 63 z) (ez_fix (fun _ _ _ _ _ _ _ _ => none) (z_X2_exchange_59 σ) ez_N h0 x1 x2 t_12 t_28 t_39 t_51 x7_59) := by
    intro x7_59 i_x7_59
    exact ez_fix_indn (fun n_59 (k_59 : Nat → Int32 → Int32 → Int32 → Int32 → Int32 → Int32 → Int32 → Option (Int32)) => ∀ (x7_59 : Int32), tq_iv 0 8 x7_59 → (2147483647 - x7_59.toInt).toNat < n_59 → tz_O (fun (z : Int32) => tq_iv (-1) 63 z) (k_59 h0 x1 x2 t_12 t_28 t_39 t_51 x7_59)) (by intros; rename_i h; exact absurd h (Nat.not_lt_zero _)) L_59 ez_N x7_59 i_x7_59 (tq_m0 x7_59)
  exact E_59 (0 : Int32) (tq_w tk_0 (by decide) (by decide))
set_option maxRecDepth 4000 in
theorem tz_X11_trade {p : tz_P} {σ : ez_H} {h0 : Nat} {x1 : Int32} {x2 : Int32} {x3 : Int32} (hT : tp p σ) (k_h0 : tz_C h0 = some (3, 11, 0, 0)) : tz_O (fun z => tq_iv (-1) 63 z) (z_X11_trade σ h0 x1 x2 x3) := by
  unfold z_X11_trade
  refine tz_bd (tz_ob hT k_h0) (fun _ _ => ?_)
  refine tz_be (tg_11_3 hT k_h0) (fun t_1 e5999 k_t_1 => ?_)
  refine tz_bd (tz_X3_hasPerson hT k_t_1) (fun t_5 ⟨i_t_5, g_t_5⟩ => ?_)
  have K_36 : tz_O (fun (z : Int32) => tq_iv (-1) 63 z) (z_X11_trade_36 σ) := by
    unfold z_X11_trade_36
    exact tz_some (tq_w tk_m1 (by decide) (by decide))
  refine tz_if _ (fun c5997 => ?_) (fun c5997 => ?_)
  ·
    have i1_t_5 : tq_iv 0 0 t_5 := tq_cut i_t_5 (tq_eqL c5997 tk_0) (by decide) (by decide)
    exact K_36 
  ·
    have i2_x1 : tq_iv 0 2147483646 x1 := tq_cut (tq_top x1) (g_t_5 c5997) (by decide) (by decide)
    have i3_t_5 : tq_iv 1 1 t_5 := tq_w (tq_neLo c5997 i_t_5 tk_0) (by decide) (by decide)
    refine tz_bk e5999 ?_
    refine tz_bd (tz_X3_hasPerson hT k_t_1) (fun t_16 ⟨i_t_16, g_t_16⟩ => ?_)
    refine tz_if _ (fun c5994 => ?_) (fun c5994 => ?_)
    ·
      have i4_t_16 : tq_iv 0 0 t_16 := tq_cut i_t_16 (tq_eqL c5994 tk_0) (by decide) (by decide)
      exact K_36 
    ·
      have i5_x2 : tq_iv 0 2147483646 x2 := tq_cut (tq_top x2) (g_t_16 c5994) (by decide) (by decide)
      have i6_t_16 : tq_iv 1 1 t_16 := tq_w (tq_neLo c5994 i_t_16 tk_0) (by decide) (by decide)
      refine tz_if _ (fun c5993 => ?_) (fun c5993 => ?_)
      ·
        exact K_36 
      ·
        refine tz_if _ (fun c5992 => ?_) (fun c5992 => ?_)
        ·
          have i7_x3 : tq_iv (-2147483648) (-1) x3 := tq_cut (tq_top x3) (tq_ltL c5992 (tq_top x3) tk_0) (by decide) (by decide)
          exact K_36 
        ·
          have i8_x3 : tq_iv 0 2147483647 x3 := tq_cut (tq_top x3) (tq_leR (tq_nlt c5992) tk_0 (tq_top x3)) (by decide) (by decide)
          refine tz_if _ (fun c5991 => ?_) (fun c5991 => ?_)
          ·
            have i9_x3 : tq_iv 0 1 x3 := tq_cut i8_x3 (tq_leL c5991 i8_x3 tk_1) (by decide) (by decide)
            refine tz_be (tg_11_12 hT k_h0) (fun t_39 e5989 k_t_39 => ?_)
            refine tz_bd (tz_X2_exchange hT k_t_39 i2_x1 i5_x2) (fun t_44 i_t_44 => ?_)
            refine tz_if _ (fun c5987 => ?_) (fun c5987 => ?_)
            ·
              have i10_t_44 : tq_iv (-1) (-1) t_44 := tq_cut i_t_44 (tq_eqL c5987 tk_m1) (by decide) (by decide)
              exact tz_some (tq_w tk_m1 (by decide) (by decide))
            ·
              have i11_t_44 : tq_iv 0 63 t_44 := tq_w (tq_neLo c5987 i_t_44 tk_m1) (by decide) (by decide)
              have K_74 : ∀ (y0_74 : Int32), tq_iv 0 63 y0_74 → tz_O (fun (z : Int32) => tq_iv (-1) 63 z) (z_X11_trade_74 σ y0_74) := by
                intro y0_74 i_y0_74
                unfold z_X11_trade_74
                exact tz_some (tq_w i_y0_74 (by decide) (by decide))
              refine tz_if _ (fun c5986 => ?_) (fun c5986 => ?_)
              ·
                have i12_x3 : tq_iv 0 0 x3 := tq_cut i9_x3 (tq_eqL c5986 tk_0) (by decide) (by decide)
                refine tz_nz (tq_nz tk_8 (by decide)) ?_
                refine tz_let (fun t_65 e5981 => ?_)
                have i13_t_65 : tq_iv 0 63 t_65 := tq_div e5981 i11_t_44 tk_8 (by decide) (by decide)
                exact K_74 t_65 i13_t_65
              ·
                have i14_x3 : tq_iv 1 1 x3 := tq_w (tq_neLo c5986 i9_x3 tk_0) (by decide) (by decide)
                refine tz_nz (tq_nz tk_8 (by decide)) ?_
                refine tz_let (fun t_73 e5984 => ?_)
                have i15_t_73 : tq_iv 0 7 t_73 := tq_rem2 e5984 i11_t_44 tk_8 (by decide) (by decide)
                exact K_74 t_73 (tq_w i15_t_73 (by decide) (by decide))
          ·
            have i16_x3 : tq_iv 2 2147483647 x3 := tq_cut i8_x3 (tq_ltR (tq_nle c5991) tk_1 i8_x3) (by decide) (by decide)
            exact K_36
set_option maxRecDepth 4000 in
theorem tz_X10_tell {p : tz_P} {σ : ez_H} {h0 : Nat} {x1 : Int32} {x2 : Int32} (hT : tp p σ) (k_h0 : tz_C h0 = some (3, 10, 0, 0)) (i_x1 : tq_iv 0 2147483646 x1) (i_x2 : tq_iv 0 1 x2) : tz_O2 (fun (z : Int32) (s : ez_H) => tq_iv (-1) 29 z ∧ tp p s) (z_X10_tell σ h0 x1 x2) := by
  show tz_O (fun z : Int32 × ez_H => (fun (z : Int32) (s : ez_H) => tq_iv (-1) 29 z ∧ tp p s) z.1 z.2) _
  unfold z_X10_tell
  refine tz_bd (tz_ob hT k_h0) (fun _ _ => ?_)
  refine tz_be (tg_10_4 hT k_h0) (fun t_1 e6026 i_t_1 => ?_)
  have K_16 : tz_O (fun z : Int32 × ez_H => (fun (z : Int32) (s : ez_H) => tq_iv (-1) 29 z ∧ tp p s) z.1 z.2) (z_X10_tell_16 σ) := by
    unfold z_X10_tell_16
    exact tz_some ⟨(tq_w tk_m1 (by decide) (by decide)), hT⟩
  refine tz_if _ (fun c6025 => ?_) (fun c6025 => ?_)
  ·
    have i1_t_1 : tq_iv (-2147483648) (-1) t_1 := tq_cut (tq_top t_1) (tq_ltL c6025 (tq_top t_1) tk_0) (by decide) (by decide)
    exact K_16 
  ·
    have i2_t_1 : tq_iv 0 2147483647 t_1 := tq_cut (tq_top t_1) (tq_leR (tq_nlt c6025) tk_0 (tq_top t_1)) (by decide) (by decide)
    refine tz_ba e6026 (fun t_8 e6024 a6024 => ?_)
    have i3_t_8 : tq_iv 0 2147483647 t_8 := tq_eqL a6024 i2_t_1
    refine tz_if _ (fun c6023 => ?_) (fun c6023 => ?_)
    ·
      have i4_t_8 : tq_iv 0 29 t_8 := tq_cut i3_t_8 (tq_ltL c6023 i3_t_8 tk_30) (by decide) (by decide)
      have i5_t_1 : tq_iv 0 29 t_1 := tq_cut i2_t_1 (tq_eqL (Eq.symm a6024) i4_t_8) (by decide) (by decide)
      refine tz_be (tg_10_0 hT k_h0) (fun t_19 e6021 k_t_19 => ?_)
      refine tz_ba e6026 (fun t_23 e6020 a6020 => ?_)
      have i6_t_23 : tq_iv 0 29 t_23 := tq_eqL a6020 i5_t_1
      refine tz_be (tz_is hT k_t_19 (te_0 (p := p)) i6_t_23 (by decide) (by decide) (tq_top x1)) (fun σ6019 e6019 T6019 => ?_)
      refine tz_be (tg_10_1 T6019 k_h0) (fun t_29 e6018 k_t_29 => ?_)
      refine tz_ba ((fr_is_gi e6019).trans e6026) (fun t_33 e6017 a6017 => ?_)
      have i7_t_33 : tq_iv 0 29 t_33 := tq_eqL a6017 i5_t_1
      refine tz_be (tz_is T6019 k_t_29 (te_2 (p := p)) i7_t_33 (by decide) (by decide) (tq_nar_boolean x2)) (fun σ6016 e6016 T6016 => ?_)
      refine tz_be (tg_10_2 T6016 k_h0) (fun t_39 e6015 k_t_39 => ?_)
      refine tz_ba ((fr_is_gi e6016).trans ((fr_is_gi e6019).trans e6026)) (fun t_43 e6014 a6014 => ?_)
      have i8_t_43 : tq_iv 0 29 t_43 := tq_eqL a6014 i5_t_1
      refine tz_be (tg_10_5 T6016 k_h0) (fun t_47 e6013 i_t_47 => ?_)
      refine tz_be (tz_is T6016 k_t_39 (te_0 (p := p)) i8_t_43 (by decide) (by decide) (tq_top t_47)) (fun σ6012 e6012 T6012 => ?_)
      refine tz_be (tg_10_3 T6012 k_h0) (fun t_52 e6011 k_t_52 => ?_)
      refine tz_ba ((fr_is_gi e6012).trans ((fr_is_gi e6016).trans ((fr_is_gi e6019).trans e6026))) (fun t_56 e6010 a6010 => ?_)
      have i9_t_56 : tq_iv 0 29 t_56 := tq_eqL a6010 i5_t_1
      refine tz_be (tz_is T6012 k_t_52 (te_0 (p := p)) i9_t_56 (by decide) (by decide) (tq_top (-1 : Int32))) (fun σ6009 e6009 T6009 => ?_)
      refine tz_ba ((fr_is_gi e6009).trans ((fr_is_gi e6012).trans ((fr_is_gi e6016).trans ((fr_is_gi e6019).trans e6026)))) (fun t_63 e6008 a6008 => ?_)
      have i10_t_63 : tq_iv 0 29 t_63 := tq_eqL a6008 i5_t_1
      refine tz_let (fun t_67 e6007 => ?_)
      have i11_t_67 : tq_iv 1 30 t_67 := tq_w (tq_add e6007 i10_t_63 tk_1 (by decide) (by decide)) (by decide) (by decide)
      refine tz_be (tw_10_4 T6009 k_h0 (tq_top t_67)) (fun σ6006 e6006 T6006 => ?_)
      refine tz_ba (fr_pf_gi e6006) (fun t_72 e6005 a6005 => ?_)
      have i12_t_72 : tq_iv 1 30 t_72 := tq_eqL a6005 i11_t_67
      refine tz_let (fun t_76 e6004 => ?_)
      have i13_t_76 : tq_iv 0 29 t_76 := tq_w (tq_sub e6004 i12_t_72 tk_1 (by decide) (by decide)) (by decide) (by decide)
      exact tz_some ⟨(tq_w i13_t_76 (by decide) (by decide)), T6006⟩
    ·
      have i14_t_8 : tq_iv 30 2147483647 t_8 := tq_cut i3_t_8 (tq_leR (tq_nlt c6023) tk_30 i3_t_8) (by decide) (by decide)
      have i15_t_1 : tq_iv 30 2147483647 t_1 := tq_cut i2_t_1 (tq_eqL (Eq.symm a6024) i14_t_8) (by decide) (by decide)
      exact K_16
set_option maxRecDepth 4000 in
theorem tz_X11_tried {p : tz_P} {σ : ez_H} {h0 : Nat} {x1 : Int32} {x2 : Int32} (hT : tp p σ) (k_h0 : tz_C h0 = some (3, 11, 0, 0)) (i_x2 : tq_iv 0 1 x2) : tz_O2 (fun (z : Int32) (s : ez_H) => tq_iv (-1) 29 z ∧ tp p s) (z_X11_tried σ h0 x1 x2) := by
  show tz_O (fun z : Int32 × ez_H => (fun (z : Int32) (s : ez_H) => tq_iv (-1) 29 z ∧ tp p s) z.1 z.2) _
  unfold z_X11_tried
  refine tz_bd (tz_ob hT k_h0) (fun _ _ => ?_)
  refine tz_be (tg_11_3 hT k_h0) (fun t_1 e6035 k_t_1 => ?_)
  refine tz_bd (tz_X3_hasLock hT k_t_1) (fun t_5 ⟨i_t_5, g_t_5⟩ => ?_)
  have K_24 : ∀ (σ_24 : ez_H) (y0_24 : Int32), tp p σ_24 → tq_iv (-1) 29 y0_24 → tz_O (fun z : Int32 × ez_H => (fun (z : Int32) (s : ez_H) => tq_iv (-1) 29 z ∧ tp p s) z.1 z.2) (z_X11_tried_24 σ_24 y0_24) := by
    intro σ_24 y0_24 T_σ_24 i_y0_24
    unfold z_X11_tried_24
    exact tz_some ⟨i_y0_24, T_σ_24⟩
  refine tz_if _ (fun c6033 => ?_) (fun c6033 => ?_)
  ·
    have i1_t_5 : tq_iv 0 0 t_5 := tq_cut i_t_5 (tq_eqL c6033 tk_0) (by decide) (by decide)
    exact K_24 σ (-1 : Int32) hT (tq_w tk_m1 (by decide) (by decide))
  ·
    have i2_x1 : tq_iv 0 2147483646 x1 := tq_cut (tq_top x1) (g_t_5 c6033) (by decide) (by decide)
    have i3_t_5 : tq_iv 1 1 t_5 := tq_w (tq_neLo c6033 i_t_5 tk_0) (by decide) (by decide)
    refine tz_be (tg_11_14 hT k_h0) (fun t_12 e6032 k_t_12 => ?_)
    refine tz_b2 (tz_X10_tell hT k_t_12 i2_x1 i_x2) (fun t_17 σ6031 ⟨i_t_17, T6031⟩ => ?_)
    exact K_24 σ6031 t_17 T6031 i_t_17
set_option maxRecDepth 4000 in
theorem tz_X11_twin {p : tz_P} {σ : ez_H} {h0 : Nat} {x1 : Int32} (hT : tp p σ) (k_h0 : tz_C h0 = some (3, 11, 0, 0)) : tz_O (fun z => tq_iv (-1) 7 z) (z_X11_twin σ h0 x1) := by
  unfold z_X11_twin
  refine tz_bd (tz_ob hT k_h0) (fun _ _ => ?_)
  refine tz_be (tg_11_3 hT k_h0) (fun t_1 e6061 k_t_1 => ?_)
  refine tz_bd (tz_X3_hasKey hT k_t_1) (fun t_5 ⟨i_t_5, g_t_5⟩ => ?_)
  refine tz_if _ (fun c6059 => ?_) (fun c6059 => ?_)
  ·
    have i1_t_5 : tq_iv 0 0 t_5 := tq_cut i_t_5 (tq_eqL c6059 tk_0) (by decide) (by decide)
    exact tz_some (tq_w tk_m1 (by decide) (by decide))
  ·
    have i2_x1 : tq_iv 0 7 x1 := tq_cut (tq_top x1) (g_t_5 c6059) (by decide) (by decide)
    have i3_t_5 : tq_iv 1 1 t_5 := tq_w (tq_neLo c6059 i_t_5 tk_0) (by decide) (by decide)
    have L_20 : ∀ (n_20 : Nat) (k_20 : Nat → Int32 → Int32 → Int32 → Int32 → Option (Int32)), (∀ (x2_20 : Int32) (x3_20 : Int32) (x4_20 : Int32), tq_iv (-1) 7 x2_20 → tq_iv 0 8 x4_20 → (2147483647 - x4_20.toInt).toNat < n_20 → tz_O (fun (z : Int32) => tq_iv (-1) 7 z) (k_20 h0 x1 x2_20 x3_20 x4_20)) → ∀ (x2_20 : Int32) (x3_20 : Int32) (x4_20 : Int32), tq_iv (-1) 7 x2_20 → tq_iv 0 8 x4_20 → (2147483647 - x4_20.toInt).toNat < n_20 + 1 → tz_O (fun (z : Int32) => tq_iv (-1) 7 z) (z_X11_twin_20 σ k_20 h0 x1 x2_20 x3_20 x4_20) := by
      intro n_20 k_20 hk_20 x2_20 x3_20 x4_20 i_x2_20 i_x4_20 hn_20
      unfold z_X11_twin_20
      refine tz_bk e6061 ?_
      refine tz_be (tg_3_3 hT k_t_1) (fun t_26 e6055 i_t_26 => ?_)
      refine tz_if _ (fun c6054 => ?_) (fun c6054 => ?_)
      ·
        exact tz_some i_x2_20
      ·
        have i4_x4_20 : tq_iv 0 7 x4_20 := tq_cut i_x4_20 (tq_ltL (tq_nle c6054) i_x4_20 i_t_26) (by decide) (by decide)
        have i5_t_26 : tq_iv 1 8 t_26 := tq_cut i_t_26 (tq_ltR (tq_nle c6054) i_x4_20 i_t_26) (by decide) (by decide)
        refine tz_be (tg_11_4 hT k_h0) (fun t_33 e6053 k_t_33 => ?_)
        refine tz_be (tg_11_5 hT k_h0) (fun t_37 e6052 k_t_37 => ?_)
        refine tz_bd (tz_X7_bits hT k_t_37) (fun t_41 i_t_41 => ?_)
        refine tz_bk e6052 ?_
        refine tz_bd (tz_X7_bits hT k_t_37) (fun t_50 i_t_50 => ?_)
        refine tz_bd (tz_X6_apart hT k_t_33) (fun t_53 i_t_53 => ?_)
        have K_81 : ∀ (x2_81 : Int32) (x3_81 : Int32), tq_iv (-1) 7 x2_81 → tz_O (fun (z : Int32) => tq_iv (-1) 7 z) (z_X11_twin_81 σ k_20 h0 x1 x2_81 x3_81 x4_20) := by
          intro x2_81 x3_81 i_x2_81
          unfold z_X11_twin_81
          refine tz_let (fun t_81 e6038 => ?_)
          have i6_t_81 : tq_iv 1 8 t_81 := tq_w (tq_add e6038 i4_x4_20 tk_1 (by decide) (by decide)) (by decide) (by decide)
          exact hk_20 x2_81 x3_81 t_81 i_x2_81 (tq_w i6_t_81 (by decide) (by decide)) (tq_up e6038 i4_x4_20 tk_1 (by decide) (by decide) hn_20)
        refine tz_if _ (fun c6047 => ?_) (fun c6047 => ?_)
        ·
          exact K_81 x2_20 x3_20 i_x2_20
        ·
          have K_75 : tz_O (fun (z : Int32) => tq_iv (-1) 7 z) (z_X11_twin_75 σ k_20 h0 x1 x4_20 t_53) := by
            unfold z_X11_twin_75
            exact K_81 x4_20 t_53 (tq_w i4_x4_20 (by decide) (by decide))
          refine tz_if _ (fun c6046 => ?_) (fun c6046 => ?_)
          ·
            have i7_x2_20 : tq_iv (-1) (-1) x2_20 := tq_cut i_x2_20 (tq_eqL c6046 tk_m1) (by decide) (by decide)
            exact K_75 
          ·
            have i8_x2_20 : tq_iv 0 7 x2_20 := tq_w (tq_neLo c6046 i_x2_20 tk_m1) (by decide) (by decide)
            refine tz_if _ (fun c6045 => ?_) (fun c6045 => ?_)
            ·
              exact K_81 x2_20 x3_20 (tq_w i8_x2_20 (by decide) (by decide))
            ·
              have i9_t_53 : tq_iv (-2147483648) 2147483646 t_53 := tq_cut (tq_top t_53) (tq_ltL (tq_nle c6045) (tq_top t_53) (tq_top x3_20)) (by decide) (by decide)
              have i10_x3_20 : tq_iv (-2147483647) 2147483647 x3_20 := tq_cut (tq_top x3_20) (tq_ltR (tq_nle c6045) (tq_top t_53) (tq_top x3_20)) (by decide) (by decide)
              exact K_75 
    have E_20 : ∀ (x2_20 : Int32) (x3_20 : Int32) (x4_20 : Int32), tq_iv (-1) 7 x2_20 → tq_iv 0 8 x4_20 → tz_O (fun (z : Int32) => tq_iv (-1) 7 z) (ez_fix (fun _ _ _ _ _ => none) (z_X11_twin_20 σ) ez_N h0 x1 x2_20 x3_20 x4_20) := by
      intro x2_20 x3_20 x4_20 i_x2_20 i_x4_20
      exact ez_fix_indn (fun n_20 (k_20 : Nat → Int32 → Int32 → Int32 → Int32 → Option (Int32)) => ∀ (x2_20 : Int32) (x3_20 : Int32) (x4_20 : Int32), tq_iv (-1) 7 x2_20 → tq_iv 0 8 x4_20 → (2147483647 - x4_20.toInt).toNat < n_20 → tz_O (fun (z : Int32) => tq_iv (-1) 7 z) (k_20 h0 x1 x2_20 x3_20 x4_20)) (by intros; rename_i h; exact absurd h (Nat.not_lt_zero _)) L_20 ez_N x2_20 x3_20 x4_20 i_x2_20 i_x4_20 (tq_m0 x4_20)
    exact E_20 (-1 : Int32) (0 : Int32) (0 : Int32) (tq_w tk_m1 (by decide) (by decide)) (tq_w tk_0 (by decide) (by decide))
set_option maxRecDepth 4000 in
theorem tz_X1_goBack {p : tz_P} {σ : ez_H} {h0 : Nat} {h1 : Nat} (hT : tp p σ) (k_h0 : tz_C h0 = some (3, 1, 0, 0)) (k_h1 : tz_C h1 = some (3, 7, 0, 0)) : tz_O2 (fun (z : Int32) (s : ez_H) => tq_iv 0 1 z ∧ tp p s) (z_X1_goBack σ h0 h1) := by
  show tz_O (fun z : Int32 × ez_H => (fun (z : Int32) (s : ez_H) => tq_iv 0 1 z ∧ tp p s) z.1 z.2) _
  unfold z_X1_goBack
  refine tz_bd (tz_ob hT k_h0) (fun _ _ => ?_)
  refine tz_be (tg_1_2 hT k_h0) (fun t_1 e6075 i_t_1 => ?_)
  refine tz_if _ (fun c6074 => ?_) (fun c6074 => ?_)
  ·
    have i1_t_1 : tq_iv 1 2147483647 t_1 := tq_cut (tq_top t_1) (tq_ltR c6074 tk_0 (tq_top t_1)) (by decide) (by decide)
    refine tz_ba e6075 (fun t_11 e6072 a6072 => ?_)
    have i2_t_11 : tq_iv 1 2147483647 t_11 := tq_eqL a6072 i1_t_1
    refine tz_bd (tz_X1_slot hT k_h0) (fun t_14 k_t_14 => ?_)
    refine tz_b2 (tz_X7_copyFrom hT k_t_14 k_h1) (fun _ σ6070 T6070 => ?_)
    refine tz_be (tg_1_2 T6070 k_h0) (fun t_23 e6069 i_t_23 => ?_)
    refine tz_let (fun t_27 e6068 => ?_)
    refine tz_be (tw_1_2 T6070 k_h0 (tq_top t_27)) (fun σ6067 e6067 T6067 => ?_)
    refine tz_ba (fr_pf_gi e6067) (fun t_34 e6066 a6066 => ?_)
    refine tz_bd (tz_X1_slot T6067 k_h0) (fun t_37 k_t_37 => ?_)
    refine tz_b2 (tz_X7_copyFrom T6067 k_h1 k_t_37) (fun _ σ6064 T6064 => ?_)
    exact tz_some ⟨(tq_w tk_1 (by decide) (by decide)), T6064⟩
  ·
    have i3_t_1 : tq_iv (-2147483648) 0 t_1 := tq_cut (tq_top t_1) (tq_leL (tq_nlt c6074) (tq_top t_1) tk_0) (by decide) (by decide)
    exact tz_some ⟨(tq_w tk_0 (by decide) (by decide)), hT⟩
set_option maxRecDepth 4000 in
theorem tz_X11_undo {p : tz_P} {σ : ez_H} {h0 : Nat} (hT : tp p σ) (k_h0 : tz_C h0 = some (3, 11, 0, 0)) : tz_O2 (fun (z : Int32) (s : ez_H) => tq_iv 0 1 z ∧ tp p s) (z_X11_undo σ h0) := by
  show tz_O (fun z : Int32 × ez_H => (fun (z : Int32) (s : ez_H) => tq_iv 0 1 z ∧ tp p s) z.1 z.2) _
  unfold z_X11_undo
  refine tz_bd (tz_ob hT k_h0) (fun _ _ => ?_)
  refine tz_be (tg_11_7 hT k_h0) (fun t_1 e6081 k_t_1 => ?_)
  refine tz_be (tg_11_5 hT k_h0) (fun t_5 e6080 k_t_5 => ?_)
  refine tz_b2 (tz_X1_goBack hT k_t_1 k_t_5) (fun t_8 σ6079 ⟨i_t_8, T6079⟩ => ?_)
  refine tz_nr (tq_nr_boolean i_t_8) ?_
  exact tz_some ⟨i_t_8, T6079⟩
set_option maxRecDepth 4000 in
theorem tz_X10_takeBack {p : tz_P} {σ : ez_H} {h0 : Nat} {x1 : Int32} (hT : tp p σ) (k_h0 : tz_C h0 = some (3, 10, 0, 0)) : tz_O2 (fun (z : Int32) (s : ez_H) => tq_iv 0 1 z ∧ tp p s) (z_X10_takeBack σ h0 x1) := by
  show tz_O (fun z : Int32 × ez_H => (fun (z : Int32) (s : ez_H) => tq_iv 0 1 z ∧ tp p s) z.1 z.2) _
  unfold z_X10_takeBack
  refine tz_bd (tz_ob hT k_h0) (fun _ _ => ?_)
  have K_28 : tz_O (fun z : Int32 × ez_H => (fun (z : Int32) (s : ez_H) => tq_iv 0 1 z ∧ tp p s) z.1 z.2) (z_X10_takeBack_28 σ) := by
    unfold z_X10_takeBack_28
    exact tz_some ⟨(tq_w tk_0 (by decide) (by decide)), hT⟩
  refine tz_if _ (fun c6098 => ?_) (fun c6098 => ?_)
  ·
    have i1_x1 : tq_iv (-2147483648) (-1) x1 := tq_cut (tq_top x1) (tq_ltL c6098 (tq_top x1) tk_0) (by decide) (by decide)
    exact K_28 
  ·
    have i2_x1 : tq_iv 0 2147483647 x1 := tq_cut (tq_top x1) (tq_leR (tq_nlt c6098) tk_0 (tq_top x1)) (by decide) (by decide)
    refine tz_be (tg_10_4 hT k_h0) (fun t_6 e6097 i_t_6 => ?_)
    refine tz_if _ (fun c6096 => ?_) (fun c6096 => ?_)
    ·
      exact K_28 
    ·
      have i3_x1 : tq_iv 0 2147483646 x1 := tq_cut i2_x1 (tq_ltL (tq_nle c6096) i2_x1 (tq_top t_6)) (by decide) (by decide)
      have i4_t_6 : tq_iv 1 2147483647 t_6 := tq_cut (tq_top t_6) (tq_ltR (tq_nle c6096) i2_x1 (tq_top t_6)) (by decide) (by decide)
      refine tz_if _ (fun c6095 => ?_) (fun c6095 => ?_)
      ·
        have i5_x1 : tq_iv 30 2147483646 x1 := tq_cut i3_x1 (tq_leR c6095 tk_30 i3_x1) (by decide) (by decide)
        exact K_28 
      ·
        have i6_x1 : tq_iv 0 29 x1 := tq_cut i3_x1 (tq_ltL (tq_nle c6095) i3_x1 tk_30) (by decide) (by decide)
        refine tz_be (tg_10_3 hT k_h0) (fun t_19 e6094 k_t_19 => ?_)
        refine tz_be (tz_ia hT k_t_19 (te_0 (p := p)) i6_x1 (by decide) (by decide)) (fun t_23 e6093 i_t_23 => ?_)
        refine tz_if _ (fun c6092 => ?_) (fun c6092 => ?_)
        ·
          have i7_t_23 : tq_iv (-1) (-1) t_23 := tq_cut (tq_top t_23) (tq_eqL c6092 tk_m1) (by decide) (by decide)
          refine tz_bk e6094 ?_
          refine tz_be (tg_10_5 hT k_h0) (fun t_36 e6089 i_t_36 => ?_)
          refine tz_be (tz_is hT k_t_19 (te_0 (p := p)) i6_x1 (by decide) (by decide) (tq_top t_36)) (fun σ6088 e6088 T6088 => ?_)
          exact tz_some ⟨(tq_w tk_1 (by decide) (by decide)), T6088⟩
        ·
          exact K_28
set_option maxRecDepth 4000 in
theorem tz_X11_untell {p : tz_P} {σ : ez_H} {h0 : Nat} {x1 : Int32} (hT : tp p σ) (k_h0 : tz_C h0 = some (3, 11, 0, 0)) : tz_O2 (fun (z : Int32) (s : ez_H) => tq_iv 0 1 z ∧ tp p s) (z_X11_untell σ h0 x1) := by
  show tz_O (fun z : Int32 × ez_H => (fun (z : Int32) (s : ez_H) => tq_iv 0 1 z ∧ tp p s) z.1 z.2) _
  unfold z_X11_untell
  refine tz_bd (tz_ob hT k_h0) (fun _ _ => ?_)
  refine tz_be (tg_11_14 hT k_h0) (fun t_1 e6103 k_t_1 => ?_)
  refine tz_b2 (tz_X10_takeBack hT k_t_1) (fun t_5 σ6102 ⟨i_t_5, T6102⟩ => ?_)
  refine tz_nr (tq_nr_boolean i_t_5) ?_
  exact tz_some ⟨i_t_5, T6102⟩
set_option maxRecDepth 4000 in
theorem tz_X11_walk {p : tz_P} {σ : ez_H} {h0 : Nat} {x1 : Int32} {x2 : Int32} (hT : tp p σ) (k_h0 : tz_C h0 = some (3, 11, 0, 0)) : tz_O2 (fun (z : Int32) (s : ez_H) => tq_iv (-2147483648) 2147483647 z ∧ tp p s) (z_X11_walk σ h0 x1 x2) := by
  show tz_O (fun z : Int32 × ez_H => (fun (z : Int32) (s : ez_H) => tq_iv (-2147483648) 2147483647 z ∧ tp p s) z.1 z.2) _
  unfold z_X11_walk
  refine tz_bd (tz_ob hT k_h0) (fun _ _ => ?_)
  refine tz_be (tg_11_3 hT k_h0) (fun t_1 e6140 k_t_1 => ?_)
  refine tz_bd (tz_X3_hasPerson hT k_t_1) (fun t_5 ⟨i_t_5, g_t_5⟩ => ?_)
  have K_22 : tz_O (fun z : Int32 × ez_H => (fun (z : Int32) (s : ez_H) => tq_iv (-2147483648) 2147483647 z ∧ tp p s) z.1 z.2) (z_X11_walk_22 σ) := by
    unfold z_X11_walk_22
    exact tz_some ⟨(tq_top (-1 : Int32)), hT⟩
  refine tz_if _ (fun c6138 => ?_) (fun c6138 => ?_)
  ·
    have i1_t_5 : tq_iv 0 0 t_5 := tq_cut i_t_5 (tq_eqL c6138 tk_0) (by decide) (by decide)
    exact K_22 
  ·
    have i2_x1 : tq_iv 0 2147483646 x1 := tq_cut (tq_top x1) (g_t_5 c6138) (by decide) (by decide)
    have i3_t_5 : tq_iv 1 1 t_5 := tq_w (tq_neLo c6138 i_t_5 tk_0) (by decide) (by decide)
    refine tz_bk e6140 ?_
    refine tz_bd (tz_X3_hasDoor hT k_t_1) (fun t_16 ⟨i_t_16, g_t_16⟩ => ?_)
    refine tz_if _ (fun c6135 => ?_) (fun c6135 => ?_)
    ·
      have i4_t_16 : tq_iv 0 0 t_16 := tq_cut i_t_16 (tq_eqL c6135 tk_0) (by decide) (by decide)
      exact K_22 
    ·
      have i5_x2 : tq_iv 0 2147483646 x2 := tq_cut (tq_top x2) (g_t_16 c6135) (by decide) (by decide)
      have i6_t_16 : tq_iv 1 1 t_16 := tq_w (tq_neLo c6135 i_t_16 tk_0) (by decide) (by decide)
      refine tz_bk e6140 ?_
      refine tz_be (tg_11_5 hT k_h0) (fun t_30 e6133 k_t_30 => ?_)
      refine tz_bd (tz_X7_room hT k_t_30) (fun t_34 i_t_34 => ?_)
      refine tz_bd (tz_X3_otherSide hT k_t_1 (tq_w i5_x2 (by decide) (by decide))) (fun t_37 i_t_37 => ?_)
      refine tz_be (tg_11_12 hT k_h0) (fun t_42 e6130 k_t_42 => ?_)
      refine tz_bk e6140 ?_
      refine tz_bd (tz_X3_doorLock hT k_t_1 i5_x2) (fun t_50 i_t_50 => ?_)
      refine tz_bd (tz_X2_keysFor hT k_t_42) (fun t_53 i_t_53 => ?_)
      refine tz_bk e6133 ?_
      refine tz_bk e6140 ?_
      refine tz_be (tg_3_3 hT k_t_1) (fun t_65 e6124 i_t_65 => ?_)
      refine tz_bd (tz_X7_heldBy hT k_t_30 (tq_w i2_x1 (by decide) (by decide)) i_t_65) (fun t_68 i_t_68 => ?_)
      refine tz_let (fun t_71 e6122 => ?_)
      have K_84 : tz_O (fun z : Int32 × ez_H => (fun (z : Int32) (s : ez_H) => tq_iv (-2147483648) 2147483647 z ∧ tp p s) z.1 z.2) (z_X11_walk_84 σ) := by
        unfold z_X11_walk_84
        exact tz_some ⟨(tq_top (-1 : Int32)), hT⟩
      refine tz_if _ (fun c6121 => ?_) (fun c6121 => ?_)
      ·
        have i7_t_37 : tq_iv (-1) (-1) t_37 := tq_cut (tq_top t_37) (tq_eqL c6121 tk_m1) (by decide) (by decide)
        exact K_84 
      ·
        refine tz_if _ (fun c6120 => ?_) (fun c6120 => ?_)
        ·
          have i8_t_71 : tq_iv 0 0 t_71 := tq_cut (tq_top t_71) (tq_eqL c6120 tk_0) (by decide) (by decide)
          exact K_84 
        ·
          refine tz_be (tg_11_7 hT k_h0) (fun t_87 e6119 k_t_87 => ?_)
          refine tz_bk e6133 ?_
          refine tz_b2 (tz_X1_keep hT k_t_87 k_t_30) (fun _ σ6117 T6117 => ?_)
          refine tz_be (tg_11_5 T6117 k_h0) (fun t_99 e6116 k_t_99 => ?_)
          refine tz_bd (tz_J6_numberOfTrailingZeros_0f7a4 T6117) (fun t_104 i_t_104 => ?_)
          refine tz_b2 (tz_X11_useOnce T6117 k_h0 k_t_99) (fun _ σ6114 T6114 => ?_)
          refine tz_be (tg_11_5 T6114 k_h0) (fun t_111 e6113 k_t_111 => ?_)
          refine tz_b2 (tz_X7_putRoom T6114 k_t_111) (fun _ σ6112 T6112 => ?_)
          exact tz_some ⟨(tq_top t_37), T6112⟩
