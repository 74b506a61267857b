set_option maxRecDepth 4000 in
theorem tz_X12_many {p : tz_P} {σ : ez_H} {h0 : Nat} (hT : tp p σ) (k_h0 : tz_C h0 = some (3, 12, 0, 0)) : tz_O (fun z => tq_iv 0 8 z) (z_X12_many σ h0) := by
  unfold z_X12_many
  refine tz_bd (tz_ob hT k_h0) (fun _ _ => ?_)
  refine tz_bk (tr_14 hT k_h0) ?_
  refine tz_be (tg_12_43 hT k_h0) (fun t_5 e462 i_t_5 => ?_)
  refine tz_be (tz_ia hT tc_176 (te_176 (p := p)) i_t_5 (by decide) (by decide)) (fun t_8 e461 i_t_8 => ?_)
  exact tz_some i_t_8
set_option maxRecDepth 4000 in
theorem tz_X12_bolts {p : tz_P} {σ : ez_H} {h0 : Nat} (hT : tp p σ) (k_h0 : tz_C h0 = some (3, 12, 0, 0)) : tz_O (fun z => tq_iv 0 6 z) (z_X12_bolts σ h0) := by
  unfold z_X12_bolts
  refine tz_bd (tz_ob hT k_h0) (fun _ _ => ?_)
  refine tz_bk (tr_15 hT k_h0) ?_
  refine tz_be (tg_12_43 hT k_h0) (fun t_5 e467 i_t_5 => ?_)
  refine tz_be (tz_ia hT tc_177 (te_177 (p := p)) i_t_5 (by decide) (by decide)) (fun t_8 e466 i_t_8 => ?_)
  exact tz_some i_t_8
set_option maxRecDepth 4000 in
theorem tz_X12_startAnew {p : tz_P} {σ : ez_H} {h0 : Nat} (hT : tp p σ) (k_h0 : tz_C h0 = some (3, 12, 0, 0)) : tz_O2 (fun (z : Unit) (s : ez_H) => tp p s) (z_X12_startAnew σ h0) := by
  show tz_O (fun z : Unit × ez_H => (fun (z : Unit) (s : ez_H) => tp p s) z.1 z.2) _
  unfold z_X12_startAnew
  refine tz_bd (tz_ob hT k_h0) (fun _ _ => ?_)
  have L_2 : ∀ (n_2 : Nat) (k_2 : ez_H → Nat → Int32 → Option (Unit × ez_H)), (∀ (σ_2 : ez_H) (x1_2 : Int32), tp p σ_2 → tq_iv 0 91 x1_2 → (2147483647 - x1_2.toInt).toNat < n_2 → tz_O (fun z : Unit × ez_H => (fun (z : Unit) (s : ez_H) => tp p s) z.1 z.2) (k_2 σ_2 h0 x1_2)) → ∀ (σ_2 : ez_H) (x1_2 : Int32), tp p σ_2 → tq_iv 0 91 x1_2 → (2147483647 - x1_2.toInt).toNat < n_2 + 1 → tz_O (fun z : Unit × ez_H => (fun (z : Unit) (s : ez_H) => tp p s) z.1 z.2) (z_X12_startAnew_2 k_2 σ_2 h0 x1_2) := by
    intro n_2 k_2 hk_2 σ_2 x1_2 T_σ_2 i_x1_2 hn_2
    unfold z_X12_startAnew_2
    refine tz_if _ (fun c549 => ?_) (fun c549 => ?_)
    ·
      have i1_x1_2 : tq_iv 91 91 x1_2 := tq_cut i_x1_2 (tq_leR c549 tk_91 i_x1_2) (by decide) (by decide)
      have L_23 : ∀ (n_23 : Nat) (k_23 : ez_H → Nat → Int32 → Option (Unit × ez_H)), (∀ (σ_23 : ez_H) (x1_23 : Int32), tp p σ_23 → tq_iv 0 8 x1_23 → (2147483647 - x1_23.toInt).toNat < n_23 → tz_O (fun z : Unit × ez_H => (fun (z : Unit) (s : ez_H) => tp p s) z.1 z.2) (k_23 σ_23 h0 x1_23)) → ∀ (σ_23 : ez_H) (x1_23 : Int32), tp p σ_23 → tq_iv 0 8 x1_23 → (2147483647 - x1_23.toInt).toNat < n_23 + 1 → tz_O (fun z : Unit × ez_H => (fun (z : Unit) (s : ez_H) => tp p s) z.1 z.2) (z_X12_startAnew_23 k_23 σ_23 h0 x1_23) := by
        intro n_23 k_23 hk_23 σ_23 x1_23 T_σ_23 i_x1_23 hn_23
        unfold z_X12_startAnew_23
        refine tz_if _ (fun c543 => ?_) (fun c543 => ?_)
        ·
          have i2_x1_23 : tq_iv 8 8 x1_23 := tq_cut i_x1_23 (tq_leR c543 tk_8 i_x1_23) (by decide) (by decide)
          have L_72 : ∀ (n_72 : Nat) (k_72 : ez_H → Nat → Int32 → Option (Unit × ez_H)), (∀ (σ_72 : ez_H) (x1_72 : Int32), tp p σ_72 → tq_iv 0 40 x1_72 → (2147483647 - x1_72.toInt).toNat < n_72 → tz_O (fun z : Unit × ez_H => (fun (z : Unit) (s : ez_H) => tp p s) z.1 z.2) (k_72 σ_72 h0 x1_72)) → ∀ (σ_72 : ez_H) (x1_72 : Int32), tp p σ_72 → tq_iv 0 40 x1_72 → (2147483647 - x1_72.toInt).toNat < n_72 + 1 → tz_O (fun z : Unit × ez_H => (fun (z : Unit) (s : ez_H) => tp p s) z.1 z.2) (z_X12_startAnew_72 k_72 σ_72 h0 x1_72) := by
            intro n_72 k_72 hk_72 σ_72 x1_72 T_σ_72 i_x1_72 hn_72
            unfold z_X12_startAnew_72
            refine tz_bd (tz_X12_many T_σ_72 k_h0) (fun t_74 i_t_74 => ?_)
            refine tz_let (fun t_78 e526 => ?_)
            have i3_t_78 : tq_iv 0 40 t_78 := tq_w (tq_mul e526 i_t_74 tk_5 (by decide) (by decide) (by decide)) (by decide) (by decide)
            refine tz_if _ (fun c525 => ?_) (fun c525 => ?_)
            ·
              have L_112 : ∀ (n_112 : Nat) (k_112 : ez_H → Nat → Int32 → Option (Unit × ez_H)), (∀ (σ_112 : ez_H) (x1_112 : Int32), tp p σ_112 → tq_iv 0 30 x1_112 → (2147483647 - x1_112.toInt).toNat < n_112 → tz_O (fun z : Unit × ez_H => (fun (z : Unit) (s : ez_H) => tp p s) z.1 z.2) (k_112 σ_112 h0 x1_112)) → ∀ (σ_112 : ez_H) (x1_112 : Int32), tp p σ_112 → tq_iv 0 30 x1_112 → (2147483647 - x1_112.toInt).toNat < n_112 + 1 → tz_O (fun z : Unit × ez_H => (fun (z : Unit) (s : ez_H) => tp p s) z.1 z.2) (z_X12_startAnew_112 k_112 σ_112 h0 x1_112) := by
                intro n_112 k_112 hk_112 σ_112 x1_112 T_σ_112 i_x1_112 hn_112
                unfold z_X12_startAnew_112
                refine tz_bd (tz_X12_bolts T_σ_112 k_h0) (fun t_114 i_t_114 => ?_)
                refine tz_let (fun t_118 e512 => ?_)
                have i4_t_118 : tq_iv 0 30 t_118 := tq_w (tq_mul e512 i_t_114 tk_5 (by decide) (by decide) (by decide)) (by decide) (by decide)
                refine tz_if _ (fun c511 => ?_) (fun c511 => ?_)
                ·
                  have L_153 : ∀ (n_153 : Nat) (k_153 : ez_H → Nat → Int32 → Option (Unit × ez_H)), (∀ (σ_153 : ez_H) (x1_153 : Int32), tp p σ_153 → tq_iv 0 4 x1_153 → (2147483647 - x1_153.toInt).toNat < n_153 → tz_O (fun z : Unit × ez_H => (fun (z : Unit) (s : ez_H) => tp p s) z.1 z.2) (k_153 σ_153 h0 x1_153)) → ∀ (σ_153 : ez_H) (x1_153 : Int32), tp p σ_153 → tq_iv 0 4 x1_153 → (2147483647 - x1_153.toInt).toNat < n_153 + 1 → tz_O (fun z : Unit × ez_H => (fun (z : Unit) (s : ez_H) => tp p s) z.1 z.2) (z_X12_startAnew_153 k_153 σ_153 h0 x1_153) := by
                    intro n_153 k_153 hk_153 σ_153 x1_153 T_σ_153 i_x1_153 hn_153
                    unfold z_X12_startAnew_153
                    refine tz_bk (tr_18 T_σ_153 k_h0) ?_
                    refine tz_be (tg_12_43 T_σ_153 k_h0) (fun t_159 e498 i_t_159 => ?_)
                    refine tz_be (tz_ia T_σ_153 tc_180 (te_180 (p := p)) i_t_159 (by decide) (by decide)) (fun t_162 e497 i_t_162 => ?_)
                    refine tz_if _ (fun c496 => ?_) (fun c496 => ?_)
                    ·
                      refine tz_bk (tr_53 T_σ_153 k_h0) ?_
                      refine tz_bk (tr_20 T_σ_153 k_h0) ?_
                      refine tz_ba e498 (fun t_205 e483 a483 => ?_)
                      have i5_t_205 : tq_iv 0 1 t_205 := tq_eqL a483 i_t_159
                      refine tz_be (tz_ia T_σ_153 tc_182 (te_182 (p := p)) i5_t_205 (by decide) (by decide)) (fun t_208 e482 i_t_208 => ?_)
                      refine tz_be (tz_isS T_σ_153 tc_205 (tS_205 (p := p) 90 90 0 999 (by decide)) tk_90 (by decide) (by decide) i_t_208) (fun σ481 e481 T481 => ?_)
                      refine tz_be (tw_12_60 T481 k_h0 tk_0) (fun σ480 e480 T480 => ?_)
                      refine tz_be (tw_12_61 T480 k_h0 tk_0) (fun σ479 e479 T479 => ?_)
                      refine tz_be (tw_12_66 T479 k_h0 (tq_w tk_0 (by decide) (by decide))) (fun σ478 e478 T478 => ?_)
                      refine tz_be (tw_12_57 T478 k_h0 (tq_w tk_0 (by decide) (by decide))) (fun σ477 e477 T477 => ?_)
                      have L_232 : ∀ (n_232 : Nat) (k_232 : ez_H → Nat → Int32 → Option (Unit × ez_H)), (∀ (σ_232 : ez_H) (x1_232 : Int32), tp p σ_232 → tq_iv 0 3 x1_232 → (2147483647 - x1_232.toInt).toNat < n_232 → tz_O (fun z : Unit × ez_H => (fun (z : Unit) (s : ez_H) => tp p s) z.1 z.2) (k_232 σ_232 h0 x1_232)) → ∀ (σ_232 : ez_H) (x1_232 : Int32), tp p σ_232 → tq_iv 0 3 x1_232 → (2147483647 - x1_232.toInt).toNat < n_232 + 1 → tz_O (fun z : Unit × ez_H => (fun (z : Unit) (s : ez_H) => tp p s) z.1 z.2) (z_X12_startAnew_232 k_232 σ_232 h0 x1_232) := by
                        intro n_232 k_232 hk_232 σ_232 x1_232 T_σ_232 i_x1_232 hn_232
                        unfold z_X12_startAnew_232
                        refine tz_if _ (fun c475 => ?_) (fun c475 => ?_)
                        ·
                          have i6_x1_232 : tq_iv 3 3 x1_232 := tq_cut i_x1_232 (tq_leR c475 tk_3 i_x1_232) (by decide) (by decide)
                          exact tz_some T_σ_232
                        ·
                          have i7_x1_232 : tq_iv 0 2 x1_232 := tq_cut i_x1_232 (tq_ltL (tq_nle c475) i_x1_232 tk_3) (by decide) (by decide)
                          refine tz_bk (tr_69 T_σ_232 k_h0) ?_
                          refine tz_be (tz_is T_σ_232 tc_216 (te_2 (p := p)) i7_x1_232 (by decide) (by decide) (tq_nar_boolean (0 : Int32))) (fun σ473 e473 T473 => ?_)
                          refine tz_let (fun t_244 e472 => ?_)
                          have i8_t_244 : tq_iv 1 3 t_244 := tq_w (tq_add e472 i7_x1_232 tk_1 (by decide) (by decide)) (by decide) (by decide)
                          exact hk_232 σ473 t_244 T473 (tq_w i8_t_244 (by decide) (by decide)) (tq_up e472 i7_x1_232 tk_1 (by decide) (by decide) hn_232)
                      have E_232 : ∀ (σ_232 : ez_H) (x1_232 : Int32), tp p σ_232 → tq_iv 0 3 x1_232 → tz_O (fun z : Unit × ez_H => (fun (z : Unit) (s : ez_H) => tp p s) z.1 z.2) (ez_fix (fun _ _ _ => none) (z_X12_startAnew_232) ez_N σ_232 h0 x1_232) := by
                        intro σ_232 x1_232 T_σ_232 i_x1_232
                        exact ez_fix_indn (fun n_232 (k_232 : ez_H → Nat → Int32 → Option (Unit × ez_H)) => ∀ (σ_232 : ez_H) (x1_232 : Int32), tp p σ_232 → tq_iv 0 3 x1_232 → (2147483647 - x1_232.toInt).toNat < n_232 → tz_O (fun z : Unit × ez_H => (fun (z : Unit) (s : ez_H) => tp p s) z.1 z.2) (k_232 σ_232 h0 x1_232)) (by intros; rename_i h; exact absurd h (Nat.not_lt_zero _)) L_232 ez_N σ_232 x1_232 T_σ_232 i_x1_232 (tq_m0 x1_232)
                      exact E_232 σ477 (0 : Int32) T477 (tq_w tk_0 (by decide) (by decide))
                    ·
                      have i9_x1_153 : tq_iv 0 3 x1_153 := tq_cut i_x1_153 (tq_ltL (tq_nle c496) i_x1_153 i_t_162) (by decide) (by decide)
                      have i10_t_162 : tq_iv 1 4 t_162 := tq_cut i_t_162 (tq_ltR (tq_nle c496) i_x1_153 i_t_162) (by decide) (by decide)
                      refine tz_bk (tr_53 T_σ_153 k_h0) ?_
                      refine tz_let (fun t_173 e494 => ?_)
                      have i11_t_173 : tq_iv 86 89 t_173 := tq_w (tq_add e494 tk_86 i9_x1_153 (by decide) (by decide)) (by decide) (by decide)
                      refine tz_bk (tr_27 T_σ_153 k_h0) ?_
                      refine tz_ba e498 (fun t_180 e492 a492 => ?_)
                      have i12_t_180 : tq_iv 0 1 t_180 := tq_eqL a492 i_t_159
                      refine tz_let (fun t_183 e491 => ?_)
                      have i13_t_183 : tq_iv 0 4 t_183 := tq_w (tq_mul e491 tk_4 i12_t_180 (by decide) (by decide) (by decide)) (by decide) (by decide)
                      refine tz_let (fun t_185 e490 => ?_)
                      have i14_t_185 : tq_iv 0 7 t_185 := tq_w (tq_add e490 i13_t_183 i9_x1_153 (by decide) (by decide)) (by decide) (by decide)
                      refine tz_be (tz_ia T_σ_153 tc_189 (te_189 (p := p)) i14_t_185 (by decide) (by decide)) (fun t_186 e489 i_t_186 => ?_)
                      refine tz_be (tz_isS T_σ_153 tc_205 (tS_205 (p := p) 86 89 0 5 (by decide)) i11_t_173 (by decide) (by decide) i_t_186) (fun σ488 e488 T488 => ?_)
                      refine tz_let (fun t_188 e487 => ?_)
                      have i15_t_188 : tq_iv 1 4 t_188 := tq_w (tq_add e487 i9_x1_153 tk_1 (by decide) (by decide)) (by decide) (by decide)
                      exact hk_153 σ488 t_188 T488 (tq_w i15_t_188 (by decide) (by decide)) (tq_up e487 i9_x1_153 tk_1 (by decide) (by decide) hn_153)
                  have E_153 : ∀ (σ_153 : ez_H) (x1_153 : Int32), tp p σ_153 → tq_iv 0 4 x1_153 → tz_O (fun z : Unit × ez_H => (fun (z : Unit) (s : ez_H) => tp p s) z.1 z.2) (ez_fix (fun _ _ _ => none) (z_X12_startAnew_153) ez_N σ_153 h0 x1_153) := by
                    intro σ_153 x1_153 T_σ_153 i_x1_153
                    exact ez_fix_indn (fun n_153 (k_153 : ez_H → Nat → Int32 → Option (Unit × ez_H)) => ∀ (σ_153 : ez_H) (x1_153 : Int32), tp p σ_153 → tq_iv 0 4 x1_153 → (2147483647 - x1_153.toInt).toNat < n_153 → tz_O (fun z : Unit × ez_H => (fun (z : Unit) (s : ez_H) => tp p s) z.1 z.2) (k_153 σ_153 h0 x1_153)) (by intros; rename_i h; exact absurd h (Nat.not_lt_zero _)) L_153 ez_N σ_153 x1_153 T_σ_153 i_x1_153 (tq_m0 x1_153)
                  exact E_153 σ_112 (0 : Int32) T_σ_112 (tq_w tk_0 (by decide) (by decide))
                ·
                  have i16_x1_112 : tq_iv 0 29 x1_112 := tq_cut i_x1_112 (tq_ltL (tq_nle c511) i_x1_112 i4_t_118) (by decide) (by decide)
                  have i17_t_118 : tq_iv 1 30 t_118 := tq_cut i4_t_118 (tq_ltR (tq_nle c511) i_x1_112 i4_t_118) (by decide) (by decide)
                  refine tz_bk (tr_53 T_σ_112 k_h0) ?_
                  refine tz_let (fun t_129 e509 => ?_)
                  have i18_t_129 : tq_iv 56 85 t_129 := tq_w (tq_add e509 tk_56 i16_x1_112 (by decide) (by decide)) (by decide) (by decide)
                  refine tz_bk (tr_23 T_σ_112 k_h0) ?_
                  refine tz_be (tg_12_43 T_σ_112 k_h0) (fun t_137 e507 i_t_137 => ?_)
                  refine tz_let (fun t_140 e506 => ?_)
                  have i19_t_140 : tq_iv 0 30 t_140 := tq_w (tq_mul e506 tk_30 i_t_137 (by decide) (by decide) (by decide)) (by decide) (by decide)
                  refine tz_let (fun t_142 e505 => ?_)
                  have i20_t_142 : tq_iv 0 59 t_142 := tq_w (tq_add e505 i19_t_140 i16_x1_112 (by decide) (by decide)) (by decide) (by decide)
                  refine tz_be (tz_ia T_σ_112 tc_185 (te_0 (p := p)) i20_t_142 (by decide) (by decide)) (fun t_143 e504 i_t_143 => ?_)
                  refine tz_be (tz_isS T_σ_112 tc_205 (tS_205 (p := p) 56 85 (-2147483648) 2147483647 (by decide)) i18_t_129 (by decide) (by decide) (tq_top t_143)) (fun σ503 e503 T503 => ?_)
                  refine tz_let (fun t_145 e502 => ?_)
                  have i21_t_145 : tq_iv 1 30 t_145 := tq_w (tq_add e502 i16_x1_112 tk_1 (by decide) (by decide)) (by decide) (by decide)
                  exact hk_112 σ503 t_145 T503 (tq_w i21_t_145 (by decide) (by decide)) (tq_up e502 i16_x1_112 tk_1 (by decide) (by decide) hn_112)
              have E_112 : ∀ (σ_112 : ez_H) (x1_112 : Int32), tp p σ_112 → tq_iv 0 30 x1_112 → tz_O (fun z : Unit × ez_H => (fun (z : Unit) (s : ez_H) => tp p s) z.1 z.2) (ez_fix (fun _ _ _ => none) (z_X12_startAnew_112) ez_N σ_112 h0 x1_112) := by
                intro σ_112 x1_112 T_σ_112 i_x1_112
                exact ez_fix_indn (fun n_112 (k_112 : ez_H → Nat → Int32 → Option (Unit × ez_H)) => ∀ (σ_112 : ez_H) (x1_112 : Int32), tp p σ_112 → tq_iv 0 30 x1_112 → (2147483647 - x1_112.toInt).toNat < n_112 → tz_O (fun z : Unit × ez_H => (fun (z : Unit) (s : ez_H) => tp p s) z.1 z.2) (k_112 σ_112 h0 x1_112)) (by intros; rename_i h; exact absurd h (Nat.not_lt_zero _)) L_112 ez_N σ_112 x1_112 T_σ_112 i_x1_112 (tq_m0 x1_112)
              exact E_112 σ_72 (0 : Int32) T_σ_72 (tq_w tk_0 (by decide) (by decide))
            ·
              have i22_x1_72 : tq_iv 0 39 x1_72 := tq_cut i_x1_72 (tq_ltL (tq_nle c525) i_x1_72 i3_t_78) (by decide) (by decide)
              have i23_t_78 : tq_iv 1 40 t_78 := tq_cut i3_t_78 (tq_ltR (tq_nle c525) i_x1_72 i3_t_78) (by decide) (by decide)
              refine tz_bk (tr_53 T_σ_72 k_h0) ?_
              refine tz_let (fun t_88 e523 => ?_)
              have i24_t_88 : tq_iv 0 39 t_88 := tq_w (tq_add e523 tk_0 i22_x1_72 (by decide) (by decide)) (by decide) (by decide)
              refine tz_bk (tr_22 T_σ_72 k_h0) ?_
              refine tz_be (tg_12_43 T_σ_72 k_h0) (fun t_96 e521 i_t_96 => ?_)
              refine tz_let (fun t_99 e520 => ?_)
              have i25_t_99 : tq_iv 0 40 t_99 := tq_w (tq_mul e520 tk_40 i_t_96 (by decide) (by decide) (by decide)) (by decide) (by decide)
              refine tz_let (fun t_101 e519 => ?_)
              have i26_t_101 : tq_iv 0 79 t_101 := tq_w (tq_add e519 i25_t_99 i22_x1_72 (by decide) (by decide)) (by decide) (by decide)
              refine tz_be (tz_ia T_σ_72 tc_184 (te_0 (p := p)) i26_t_101 (by decide) (by decide)) (fun t_102 e518 i_t_102 => ?_)
              refine tz_be (tz_isS T_σ_72 tc_205 (tS_205 (p := p) 0 39 (-2147483648) 2147483647 (by decide)) i24_t_88 (by decide) (by decide) (tq_top t_102)) (fun σ517 e517 T517 => ?_)
              refine tz_let (fun t_104 e516 => ?_)
              have i27_t_104 : tq_iv 1 40 t_104 := tq_w (tq_add e516 i22_x1_72 tk_1 (by decide) (by decide)) (by decide) (by decide)
              exact hk_72 σ517 t_104 T517 (tq_w i27_t_104 (by decide) (by decide)) (tq_up e516 i22_x1_72 tk_1 (by decide) (by decide) hn_72)
          have E_72 : ∀ (σ_72 : ez_H) (x1_72 : Int32), tp p σ_72 → tq_iv 0 40 x1_72 → tz_O (fun z : Unit × ez_H => (fun (z : Unit) (s : ez_H) => tp p s) z.1 z.2) (ez_fix (fun _ _ _ => none) (z_X12_startAnew_72) ez_N σ_72 h0 x1_72) := by
            intro σ_72 x1_72 T_σ_72 i_x1_72
            exact ez_fix_indn (fun n_72 (k_72 : ez_H → Nat → Int32 → Option (Unit × ez_H)) => ∀ (σ_72 : ez_H) (x1_72 : Int32), tp p σ_72 → tq_iv 0 40 x1_72 → (2147483647 - x1_72.toInt).toNat < n_72 → tz_O (fun z : Unit × ez_H => (fun (z : Unit) (s : ez_H) => tp p s) z.1 z.2) (k_72 σ_72 h0 x1_72)) (by intros; rename_i h; exact absurd h (Nat.not_lt_zero _)) L_72 ez_N σ_72 x1_72 T_σ_72 i_x1_72 (tq_m0 x1_72)
          exact E_72 σ_23 (0 : Int32) T_σ_23 (tq_w tk_0 (by decide) (by decide))
        ·
          have i28_x1_23 : tq_iv 0 7 x1_23 := tq_cut i_x1_23 (tq_ltL (tq_nle c543) i_x1_23 tk_8) (by decide) (by decide)
          refine tz_bk (tr_53 T_σ_23 k_h0) ?_
          refine tz_let (fun t_36 e541 => ?_)
          have i29_t_36 : tq_iv 48 55 t_36 := tq_w (tq_add e541 tk_48 i28_x1_23 (by decide) (by decide)) (by decide) (by decide)
          refine tz_bd (tz_X12_many T_σ_23 k_h0) (fun t_39 i_t_39 => ?_)
          have K_63 : ∀ (y2_63 : Int32), tq_iv (-1) 3 y2_63 → tz_O (fun z : Unit × ez_H => (fun (z : Unit) (s : ez_H) => tp p s) z.1 z.2) (z_X12_startAnew_63 k_23 σ_23 h0 x1_23 205 t_36 y2_63) := by
            intro y2_63 i_y2_63
            unfold z_X12_startAnew_63
            refine tz_be (tz_isS T_σ_23 tc_205 (tS_205 (p := p) 48 55 (-2) 3 (by decide)) i29_t_36 (by decide) (by decide) (tq_w i_y2_63 (by decide) (by decide))) (fun σ530 e530 T530 => ?_)
            refine tz_let (fun t_64 e529 => ?_)
            have i30_t_64 : tq_iv 1 8 t_64 := tq_w (tq_add e529 i28_x1_23 tk_1 (by decide) (by decide)) (by decide) (by decide)
            exact hk_23 σ530 t_64 T530 (tq_w i30_t_64 (by decide) (by decide)) (tq_up e529 i28_x1_23 tk_1 (by decide) (by decide) hn_23)
          refine tz_if _ (fun c539 => ?_) (fun c539 => ?_)
          ·
            have i31_t_39 : tq_iv 0 7 t_39 := tq_cut i_t_39 (tq_leL c539 i_t_39 i28_x1_23) (by decide) (by decide)
            exact K_63 (-1 : Int32) (tq_w tk_m1 (by decide) (by decide))
          ·
            have i32_t_39 : tq_iv 1 8 t_39 := tq_cut i_t_39 (tq_ltR (tq_nle c539) i28_x1_23 i_t_39) (by decide) (by decide)
            refine tz_bk (tr_28 T_σ_23 k_h0) ?_
            refine tz_be (tg_12_43 T_σ_23 k_h0) (fun t_52 e537 i_t_52 => ?_)
            refine tz_let (fun t_55 e536 => ?_)
            have i33_t_55 : tq_iv 0 8 t_55 := tq_w (tq_mul e536 tk_8 i_t_52 (by decide) (by decide) (by decide)) (by decide) (by decide)
            refine tz_let (fun t_57 e535 => ?_)
            have i34_t_57 : tq_iv 0 15 t_57 := tq_w (tq_add e535 i33_t_55 i28_x1_23 (by decide) (by decide)) (by decide) (by decide)
            refine tz_be (tz_ia T_σ_23 tc_190 (te_190 (p := p)) i34_t_57 (by decide) (by decide)) (fun t_58 e534 i_t_58 => ?_)
            exact K_63 t_58 i_t_58
      have E_23 : ∀ (σ_23 : ez_H) (x1_23 : Int32), tp p σ_23 → tq_iv 0 8 x1_23 → tz_O (fun z : Unit × ez_H => (fun (z : Unit) (s : ez_H) => tp p s) z.1 z.2) (ez_fix (fun _ _ _ => none) (z_X12_startAnew_23) ez_N σ_23 h0 x1_23) := by
        intro σ_23 x1_23 T_σ_23 i_x1_23
        exact ez_fix_indn (fun n_23 (k_23 : ez_H → Nat → Int32 → Option (Unit × ez_H)) => ∀ (σ_23 : ez_H) (x1_23 : Int32), tp p σ_23 → tq_iv 0 8 x1_23 → (2147483647 - x1_23.toInt).toNat < n_23 → tz_O (fun z : Unit × ez_H => (fun (z : Unit) (s : ez_H) => tp p s) z.1 z.2) (k_23 σ_23 h0 x1_23)) (by intros; rename_i h; exact absurd h (Nat.not_lt_zero _)) L_23 ez_N σ_23 x1_23 T_σ_23 i_x1_23 (tq_m0 x1_23)
      exact E_23 σ_2 (0 : Int32) T_σ_2 (tq_w tk_0 (by decide) (by decide))
    ·
      have i35_x1_2 : tq_iv 0 90 x1_2 := tq_cut i_x1_2 (tq_ltL (tq_nle c549) i_x1_2 tk_91) (by decide) (by decide)
      refine tz_bk (tr_53 T_σ_2 k_h0) ?_
      refine tz_be (tz_isS T_σ_2 tc_205 (tS_205 (p := p) 0 90 0 3 (by decide)) i35_x1_2 (by decide) (by decide) (tq_w tk_0 (by decide) (by decide))) (fun σ547 e547 T547 => ?_)
      refine tz_let (fun t_15 e546 => ?_)
      have i36_t_15 : tq_iv 1 91 t_15 := tq_w (tq_add e546 i35_x1_2 tk_1 (by decide) (by decide)) (by decide) (by decide)
      exact hk_2 σ547 t_15 T547 (tq_w i36_t_15 (by decide) (by decide)) (tq_up e546 i35_x1_2 tk_1 (by decide) (by decide) hn_2)
  have E_2 : ∀ (σ_2 : ez_H) (x1_2 : Int32), tp p σ_2 → tq_iv 0 91 x1_2 → tz_O (fun z : Unit × ez_H => (fun (z : Unit) (s : ez_H) => tp p s) z.1 z.2) (ez_fix (fun _ _ _ => none) (z_X12_startAnew_2) ez_N σ_2 h0 x1_2) := by
    intro σ_2 x1_2 T_σ_2 i_x1_2
    exact ez_fix_indn (fun n_2 (k_2 : ez_H → Nat → Int32 → Option (Unit × ez_H)) => ∀ (σ_2 : ez_H) (x1_2 : Int32), tp p σ_2 → tq_iv 0 91 x1_2 → (2147483647 - x1_2.toInt).toNat < n_2 → tz_O (fun z : Unit × ez_H => (fun (z : Unit) (s : ez_H) => tp p s) z.1 z.2) (k_2 σ_2 h0 x1_2)) (by intros; rename_i h; exact absurd h (Nat.not_lt_zero _)) L_2 ez_N σ_2 x1_2 T_σ_2 i_x1_2 (tq_m0 x1_2)
  exact E_2 σ (0 : Int32) hT (tq_w tk_0 (by decide) (by decide))
theorem tz_X12_deep {p : tz_P} {σ : ez_H} {h0 : Nat} (hT : tp p σ) (k_h0 : tz_C h0 = some (3, 12, 0, 0)) : tz_O (fun z => tq_iv 2 6 z) (z_X12_deep σ h0) := by
  unfold z_X12_deep
  refine tz_bd (tz_ob hT k_h0) (fun _ _ => ?_)
  refine tz_bk (tr_12 hT k_h0) ?_
  refine tz_bd (tz_imp (tz_gi hT k_h0 (tf_12_43 (p := p))) (fun z hz => hz)) (fun x hx => ?_)
  have h := gh_b hT.1
  obtain ⟨h1, h2⟩ := hx
  refine tz_bd (tz_iaG hT tc_174 (i := x) (by omega) (by show _ < (2 : Int); omega)) (fun y hy => ?_)
  have e : (tz_Gp p).2.2.1 174 x.toInt.toNat = (2, 6) := by
    show tz_bn p x.toInt.toNat (2, 6) (0, 6) = _
    unfold tz_bn
    rw [if_pos (by omega)]
  rw [e] at hy
  exact tz_some hy
theorem tz_bankE {p : tz_P} {σ : ez_H} {h0 : Nat} (hT : tp p σ) (k_h0 : tz_C h0 = some (3, 12, 0, 0)) : tz_O (fun x => x.toInt = p.1 2 ∧ tq_iv 0 1 x) (ez_gi σ 12 h0 43) := by
  refine tz_imp (tz_gi hT k_h0 (tf_12_43 (p := p))) (fun z hz => ?_)
  have h := gh_b hT.1
  exact ⟨by have := hz.1; have := hz.2; omega, by have := hz.1; omega, by have := hz.2; omega⟩
theorem tz_X12_wide {p : tz_P} {σ : ez_H} {h0 : Nat} (hT : tp p σ) (k_h0 : tz_C h0 = some (3, 12, 0, 0)) : tz_O (fun z => tq_iv 2 5 z) (z_X12_wide σ h0) := by
  unfold z_X12_wide
  refine tz_bd (tz_ob hT k_h0) (fun _ _ => ?_)
  refine tz_bk (tr_11 hT k_h0) ?_
  refine tz_bd (tz_bankE hT k_h0) (fun x hx => ?_)
  obtain ⟨hx, h1, h2⟩ := hx
  refine tz_bd (tz_iaG hT tc_173 (i := x) (by omega) (by show _ < (2 : Int); omega)) (fun y hy => ?_)
  have e : (tz_Gp p).2.2.1 173 x.toInt.toNat = (2, 5) := by
    show tz_bn p x.toInt.toNat (2, 5) (0, 5) = _
    unfold tz_bn
    rw [if_pos (by omega)]
  rw [e] at hy
  exact tz_some hy
set_option maxRecDepth 4000 in
theorem tz_X12_about {p : tz_P} {σ : ez_H} {h0 : Nat} {x1 : Int32} (hT : tp p σ) (k_h0 : tz_C h0 = some (3, 12, 0, 0)) : tz_O (fun z => tq_iv (-1) 100000 z) (z_X12_about σ h0 x1) := by
  unfold z_X12_about
  refine tz_bd (tz_ob hT k_h0) (fun _ _ => ?_)
  refine tz_if _ (fun c6211 => ?_) (fun c6211 => ?_)
  ·
    have i1_x1 : tq_iv 0 0 x1 := tq_cut (tq_top x1) (tq_eqL c6211 tk_0) (by decide) (by decide)
    refine tz_bd (tz_X12_many hT k_h0) (fun t_81 i_t_81 => ?_)
    exact tz_some (tq_w i_t_81 (by decide) (by decide))
  ·
    refine tz_if _ (fun c6210 => ?_) (fun c6210 => ?_)
    ·
      have i2_x1 : tq_iv 1 1 x1 := tq_cut (tq_top x1) (tq_eqL c6210 tk_1) (by decide) (by decide)
      refine tz_bd (tz_X12_bolts hT k_h0) (fun t_86 i_t_86 => ?_)
      exact tz_some (tq_w i_t_86 (by decide) (by decide))
    ·
      refine tz_if _ (fun c6209 => ?_) (fun c6209 => ?_)
      ·
        have i3_x1 : tq_iv 2 2 x1 := tq_cut (tq_top x1) (tq_eqL c6209 tk_2) (by decide) (by decide)
        refine tz_bk (tr_16 hT k_h0) ?_
        refine tz_be (tg_12_43 hT k_h0) (fun t_95 e6158 i_t_95 => ?_)
        refine tz_be (tz_ia hT tc_178 (te_178 (p := p)) i_t_95 (by decide) (by decide)) (fun t_98 e6157 i_t_98 => ?_)
        exact tz_some (tq_w i_t_98 (by decide) (by decide))
      ·
        refine tz_if _ (fun c6208 => ?_) (fun c6208 => ?_)
        ·
          have i4_x1 : tq_iv 3 3 x1 := tq_cut (tq_top x1) (tq_eqL c6208 tk_3) (by decide) (by decide)
          refine tz_bk (tr_17 hT k_h0) ?_
          refine tz_be (tg_12_43 hT k_h0) (fun t_105 e6162 i_t_105 => ?_)
          refine tz_be (tz_ia hT tc_179 (te_179 (p := p)) i_t_105 (by decide) (by decide)) (fun t_108 e6161 i_t_108 => ?_)
          exact tz_some (tq_w i_t_108 (by decide) (by decide))
        ·
          refine tz_if _ (fun c6207 => ?_) (fun c6207 => ?_)
          ·
            have i5_x1 : tq_iv 4 4 x1 := tq_cut (tq_top x1) (tq_eqL c6207 tk_4) (by decide) (by decide)
            refine tz_bk (tr_18 hT k_h0) ?_
            refine tz_be (tg_12_43 hT k_h0) (fun t_115 e6166 i_t_115 => ?_)
            refine tz_be (tz_ia hT tc_180 (te_180 (p := p)) i_t_115 (by decide) (by decide)) (fun t_118 e6165 i_t_118 => ?_)
            exact tz_some (tq_w i_t_118 (by decide) (by decide))
          ·
            refine tz_if _ (fun c6206 => ?_) (fun c6206 => ?_)
            ·
              have i6_x1 : tq_iv 5 5 x1 := tq_cut (tq_top x1) (tq_eqL c6206 tk_5) (by decide) (by decide)
              refine tz_bd (tz_X12_wide hT k_h0) (fun t_121 i_t_121 => ?_)
              exact tz_some (tq_w i_t_121 (by decide) (by decide))
            ·
              refine tz_if _ (fun c6205 => ?_) (fun c6205 => ?_)
              ·
                have i7_x1 : tq_iv 6 6 x1 := tq_cut (tq_top x1) (tq_eqL c6205 tk_6) (by decide) (by decide)
                refine tz_bd (tz_X12_deep hT k_h0) (fun t_126 i_t_126 => ?_)
                exact tz_some (tq_w i_t_126 (by decide) (by decide))
              ·
                refine tz_if _ (fun c6204 => ?_) (fun c6204 => ?_)
                ·
                  have i8_x1 : tq_iv 7 7 x1 := tq_cut (tq_top x1) (tq_eqL c6204 tk_7) (by decide) (by decide)
                  refine tz_bk (tr_13 hT k_h0) ?_
                  refine tz_be (tg_12_43 hT k_h0) (fun t_135 e6174 i_t_135 => ?_)
                  refine tz_be (tz_ia hT tc_175 (te_175 (p := p)) i_t_135 (by decide) (by decide)) (fun t_138 e6173 i_t_138 => ?_)
                  exact tz_some (tq_w i_t_138 (by decide) (by decide))
                ·
                  refine tz_if _ (fun c6203 => ?_) (fun c6203 => ?_)
                  ·
                    have i9_x1 : tq_iv 8 8 x1 := tq_cut (tq_top x1) (tq_eqL c6203 tk_8) (by decide) (by decide)
                    refine tz_bk (tr_53 hT k_h0) ?_
                    refine tz_be (tz_iaS hT tc_205 (ts_205 (p := p) 90 90 0 999 (by decide)) tk_90 (by decide) (by decide)) (fun t_146 e6177 i_t_146 => ?_)
                    exact tz_some (tq_w i_t_146 (by decide) (by decide))
                  ·
                    refine tz_if _ (fun c6202 => ?_) (fun c6202 => ?_)
                    ·
                      have i10_x1 : tq_iv 9 9 x1 := tq_cut (tq_top x1) (tq_eqL c6202 tk_9) (by decide) (by decide)
                      refine tz_be (tg_12_60 hT k_h0) (fun t_149 e6180 i_t_149 => ?_)
                      exact tz_some (tq_w i_t_149 (by decide) (by decide))
                    ·
                      refine tz_if _ (fun c6201 => ?_) (fun c6201 => ?_)
                      ·
                        have i11_x1 : tq_iv 10 10 x1 := tq_cut (tq_top x1) (tq_eqL c6201 tk_10) (by decide) (by decide)
                        refine tz_be (tg_12_61 hT k_h0) (fun t_154 e6182 i_t_154 => ?_)
                        exact tz_some (tq_w i_t_154 (by decide) (by decide))
                      ·
                        refine tz_if _ (fun c6200 => ?_) (fun c6200 => ?_)
                        ·
                          have i12_x1 : tq_iv 11 11 x1 := tq_cut (tq_top x1) (tq_eqL c6200 tk_11) (by decide) (by decide)
                          refine tz_be (tg_12_66 hT k_h0) (fun t_159 e6184 i_t_159 => ?_)
                          exact tz_some (tq_w i_t_159 (by decide) (by decide))
                        ·
                          refine tz_if _ (fun c6199 => ?_) (fun c6199 => ?_)
                          ·
                            have i13_x1 : tq_iv 12 12 x1 := tq_cut (tq_top x1) (tq_eqL c6199 tk_12) (by decide) (by decide)
                            refine tz_be (tg_12_67 hT k_h0) (fun t_164 e6186 i_t_164 => ?_)
                            exact tz_some (tq_w i_t_164 (by decide) (by decide))
                          ·
                            refine tz_if _ (fun c6198 => ?_) (fun c6198 => ?_)
                            ·
                              have i14_x1 : tq_iv 13 13 x1 := tq_cut (tq_top x1) (tq_eqL c6198 tk_13) (by decide) (by decide)
                              refine tz_be (tg_12_2 hT k_h0) (fun t_169 e6188 i_t_169 => ?_)
                              exact tz_some (tq_w i_t_169 (by decide) (by decide))
                            ·
                              refine tz_if _ (fun c6197 => ?_) (fun c6197 => ?_)
                              ·
                                have i15_x1 : tq_iv 14 14 x1 := tq_cut (tq_top x1) (tq_eqL c6197 tk_14) (by decide) (by decide)
                                refine tz_bk (tr_19 hT k_h0) ?_
                                refine tz_be (tg_12_43 hT k_h0) (fun t_178 e6191 i_t_178 => ?_)
                                refine tz_be (tz_ia hT tc_181 (te_181 (p := p)) i_t_178 (by decide) (by decide)) (fun t_181 e6190 i_t_181 => ?_)
                                exact tz_some (tq_w i_t_181 (by decide) (by decide))
                              ·
                                refine tz_if _ (fun c6196 => ?_) (fun c6196 => ?_)
                                ·
                                  have i16_x1 : tq_iv 15 15 x1 := tq_cut (tq_top x1) (tq_eqL c6196 tk_15) (by decide) (by decide)
                                  refine tz_be (tg_12_57 hT k_h0) (fun t_184 e6194 i_t_184 => ?_)
                                  exact tz_some (tq_w i_t_184 (by decide) (by decide))
                                ·
                                  exact tz_some (tq_w tk_m1 (by decide) (by decide))
theorem tz_X12_isIn {p : tz_P} {σ : ez_H} {x0 x1 x2 : Int32} (_ : tp p σ) : tz_O (fun z => tq_iv 0 1 z ∧ (¬ z = 0 → x1 ≤ x0 ∧ x0 ≤ x2)) (z_X12_isIn σ x0 x1 x2) := by
  unfold z_X12_isIn
  refine tz_if _ (fun _ => ?_) (fun c => ?_)
  · unfold z_X12_isIn_14 z_X12_isIn_15
    refine tz_nr (tq_nr_boolean ⟨by decide, by decide⟩) ?_
    exact tz_some ⟨⟨by decide, by decide⟩, fun h => absurd rfl h⟩
  · refine tz_if _ (fun _ => ?_) (fun c2 => ?_)
    · unfold z_X12_isIn_14 z_X12_isIn_15
      refine tz_nr (tq_nr_boolean ⟨by decide, by decide⟩) ?_
      exact tz_some ⟨⟨by decide, by decide⟩, fun h => absurd rfl h⟩
    · unfold z_X12_isIn_15
      refine tz_nr (tq_nr_boolean ⟨by decide, by decide⟩) ?_
      exact tz_some ⟨⟨by decide, by decide⟩, fun _ => ⟨tq_nlt c, tq_nlt c2⟩⟩
theorem tz_X12_power {p : tz_P} {σ : ez_H} {x0 x1 : Int32} (_ : tp p σ) (i0 : tq_iv 2 6 x0) (i1 : tq_iv (-5) 5 x1) : tz_O (fun z => tq_iv 1 7776 z) (z_X12_power σ x0 x1) := by
  have L : ∀ (n : Nat) (k : Int32 → Int32 → Int32 → Int32 → Option Int32), (∀ x2 x3 : Int32, 0 ≤ x3.toInt → (x3.toInt ≤ 5 ∧ tq_iv 1 (6 ^ x3.toInt.toNat) x2) → (2147483647 - x3.toInt).toNat < n → tz_O (fun z => tq_iv 1 7776 z) (k x0 x1 x2 x3)) → ∀ x2 x3 : Int32, 0 ≤ x3.toInt → (x3.toInt ≤ 5 ∧ tq_iv 1 (6 ^ x3.toInt.toNat) x2) → (2147483647 - x3.toInt).toNat < n + 1 → tz_O (fun z => tq_iv 1 7776 z) (z_X12_power_4 σ k x0 x1 x2 x3) := by
    intro n k hk x2 x3 h0 h1 hn
    obtain ⟨h1, h2⟩ := h1
    have hp : (6 : Int) ^ x3.toInt.toNat ≤ 7776 := by
      have h3 : x3.toInt.toNat ≤ 5 := by omega
      have h4 : ∀ m : Fin 6, (6 : Int) ^ m.val ≤ 7776 := by decide
      exact h4 ⟨x3.toInt.toNat, by omega⟩
    unfold z_X12_power_4
    refine tz_if _ (fun _ => tz_some (tq_w h2 (by decide) hp)) (fun c => ?_)
    rw [Int32.le_iff_toInt_le] at c
    have h4 : x3.toInt < 5 := by have := i1.2; omega
    have hp2 : (6 : Int) ^ x3.toInt.toNat ≤ 1296 := by
      have h4 : ∀ m : Fin 5, (6 : Int) ^ m.val ≤ 1296 := by decide
      exact h4 ⟨x3.toInt.toNat, by omega⟩
    refine tz_let (fun t e => ?_)
    refine tz_let (fun u e2 => ?_)
    have hu : u.toInt = x3.toInt + 1 := by
      rw [e2]
      exact tq_addT (a := 0) (b := 5) (c := 1) (d := 1) ⟨by omega, by omega⟩ tk_1 (by decide) (by decide)
    have ht := tq_mul e h2 i0 (by decide) (by decide) (by omega)
    refine hk t u (by omega) ⟨by omega, ?_⟩ (by omega)
    have e3 : (6 : Int) ^ u.toInt.toNat = 6 ^ x3.toInt.toNat * 6 := by
      rw [show u.toInt.toNat = x3.toInt.toNat + 1 by omega, Int.pow_succ]
    rw [e3]
    exact tq_w ht (by decide) (Int.le_refl _)
  unfold z_X12_power
  exact ez_fix_indn (fun n (k : Int32 → Int32 → Int32 → Int32 → Option Int32) => ∀ x2 x3 : Int32, 0 ≤ x3.toInt → (x3.toInt ≤ 5 ∧ tq_iv 1 (6 ^ x3.toInt.toNat) x2) → (2147483647 - x3.toInt).toNat < n → tz_O (fun z => tq_iv 1 7776 z) (k x0 x1 x2 x3)) (by intros; rename_i h; exact absurd h (Nat.not_lt_zero _)) L ez_N 1 0 (by decide) ⟨by decide, by decide, by decide⟩ (tq_m0 _)
set_option maxRecDepth 4000 in
theorem tz_X12_bittings {p : tz_P} {σ : ez_H} {h0 : Nat} (hT : tp p σ) (k_h0 : tz_C h0 = some (3, 12, 0, 0)) : tz_O (fun z => tq_iv 1 7776 z) (z_X12_bittings σ h0) := by
  unfold z_X12_bittings
  refine tz_bd (tz_ob hT k_h0) (fun _ _ => ?_)
  refine tz_bd (tz_X12_deep hT k_h0) (fun t_1 i_t_1 => ?_)
  refine tz_bd (tz_X12_wide hT k_h0) (fun t_5 i_t_5 => ?_)
  refine tz_bd (tz_X12_power hT i_t_1 (tq_w i_t_5 (by decide) (by decide))) (fun t_8 i_t_8 => ?_)
  exact tz_some i_t_8
set_option maxRecDepth 4000 in
theorem tz_X12_absolute {p : tz_P} {σ : ez_H} {x0 : Int32} (hT : tp p σ) : tz_O (fun z => tq_iv (-2147483648) 2147483647 z) (z_X12_absolute σ x0) := by
  unfold z_X12_absolute
  have K_10 : ∀ (y0_10 : Int32), tz_O (fun (z : Int32) => tq_iv (-2147483648) 2147483647 z) (z_X12_absolute_10 σ y0_10) := by
    intro y0_10
    unfold z_X12_absolute_10
    exact tz_some (tq_top y0_10)
  refine tz_if _ (fun c6236 => ?_) (fun c6236 => ?_)
  ·
    have i1_x0 : tq_iv 0 2147483647 x0 := tq_cut (tq_top x0) (tq_leR c6236 tk_0 (tq_top x0)) (by decide) (by decide)
    exact K_10 x0
  ·
    have i2_x0 : tq_iv (-2147483648) (-1) x0 := tq_cut (tq_top x0) (tq_ltL (tq_nle c6236) (tq_top x0) tk_0) (by decide) (by decide)
    refine tz_let (fun t_5 e6235 => ?_)
    exact K_10 t_5
set_option maxRecDepth 4000 in
theorem tz_X12_isLegalBy {p : tz_P} {σ : ez_H} {h0 : Nat} {x1 : Int32} {x2 : Int32} (hT : tp p σ) (k_h0 : tz_C h0 = some (3, 12, 0, 0)) (i_x1 : tq_iv 0 7775 x1) (i_x2 : tq_iv 0 5 x2) : tz_O (fun z => tq_iv 0 1 z) (z_X12_isLegalBy σ h0 x1 x2) := by
  unfold z_X12_isLegalBy
  refine tz_bd (tz_ob hT k_h0) (fun _ _ => ?_)
  refine tz_bd (tz_X12_deep hT k_h0) (fun t_4 i_t_4 => ?_)
  refine tz_nz (tq_nz i_t_4 (by decide)) ?_
  refine tz_let (fun t_7 e6256 => ?_)
  have i1_t_7 : tq_iv 0 5 t_7 := tq_rem2 e6256 i_x1 i_t_4 (by decide) (by decide)
  have L_13 : ∀ (n_13 : Nat) (k_13 : Nat → Int32 → Int32 → Int32 → Int32 → Option (Int32)), (∀ (x3_13 : Int32) (x4_13 : Int32) (x5_13 : Int32), tq_iv 0 7775 x3_13 → tq_iv 0 5 x4_13 → tq_iv 1 5 x5_13 → (2147483647 - x5_13.toInt).toNat < n_13 → tz_O (fun (z : Int32) => tq_iv 0 1 z) (k_13 h0 x2 x3_13 x4_13 x5_13)) → ∀ (x3_13 : Int32) (x4_13 : Int32) (x5_13 : Int32), tq_iv 0 7775 x3_13 → tq_iv 0 5 x4_13 → tq_iv 1 5 x5_13 → (2147483647 - x5_13.toInt).toNat < n_13 + 1 → tz_O (fun (z : Int32) => tq_iv 0 1 z) (z_X12_isLegalBy_13 σ k_13 h0 x2 x3_13 x4_13 x5_13) := by
    intro n_13 k_13 hk_13 x3_13 x4_13 x5_13 i_x3_13 i_x4_13 i_x5_13 hn_13
    unfold z_X12_isLegalBy_13
    refine tz_bd (tz_X12_wide hT k_h0) (fun t_16 i_t_16 => ?_)
    refine tz_if _ (fun c6253 => ?_) (fun c6253 => ?_)
    ·
      have i2_x5_13 : tq_iv 2 5 x5_13 := tq_cut i_x5_13 (tq_leR c6253 i_t_16 i_x5_13) (by decide) (by decide)
      exact tz_some (tq_w tk_1 (by decide) (by decide))
    ·
      have i3_x5_13 : tq_iv 1 4 x5_13 := tq_cut i_x5_13 (tq_ltL (tq_nle c6253) i_x5_13 i_t_16) (by decide) (by decide)
      refine tz_bd (tz_X12_deep hT k_h0) (fun t_24 i_t_24 => ?_)
      refine tz_nz (tq_nz i_t_24 (by decide)) ?_
      refine tz_let (fun t_27 e6250 => ?_)
      have i4_t_27 : tq_iv 0 7775 t_27 := tq_div e6250 i_x3_13 i_t_24 (by decide) (by decide)
      refine tz_bd (tz_X12_deep hT k_h0) (fun t_31 i_t_31 => ?_)
      refine tz_nz (tq_nz i_t_31 (by decide)) ?_
      refine tz_let (fun t_34 e6247 => ?_)
      have i5_t_34 : tq_iv 0 5 t_34 := tq_rem2 e6247 i4_t_27 i_t_31 (by decide) (by decide)
      refine tz_let (fun t_37 e6246 => ?_)
      have i6_t_37 : tq_iv (-5) 5 t_37 := tq_w (tq_sub e6246 i5_t_34 i_x4_13 (by decide) (by decide)) (by decide) (by decide)
      refine tz_bd (tz_X12_absolute hT) (fun t_38 i_t_38 => ?_)
      refine tz_if _ (fun c6244 => ?_) (fun c6244 => ?_)
      ·
        have i7_t_38 : tq_iv (-2147483648) 5 t_38 := tq_cut (tq_top t_38) (tq_leL c6244 (tq_top t_38) i_x2) (by decide) (by decide)
        refine tz_bd (tz_X12_deep hT k_h0) (fun t_49 i_t_49 => ?_)
        refine tz_nz (tq_nz i_t_49 (by decide)) ?_
        refine tz_let (fun t_52 e6240 => ?_)
        have i8_t_52 : tq_iv 0 5 t_52 := tq_rem2 e6240 i4_t_27 i_t_49 (by decide) (by decide)
        refine tz_let (fun t_55 e6239 => ?_)
        have i9_t_55 : tq_iv 2 5 t_55 := tq_w (tq_add e6239 i3_x5_13 tk_1 (by decide) (by decide)) (by decide) (by decide)
        exact hk_13 t_27 t_52 t_55 i4_t_27 i8_t_52 (tq_w i9_t_55 (by decide) (by decide)) (tq_up e6239 i3_x5_13 tk_1 (by decide) (by decide) hn_13)
      ·
        have i10_t_38 : tq_iv 1 2147483647 t_38 := tq_cut (tq_top t_38) (tq_ltR (tq_nle c6244) i_x2 (tq_top t_38)) (by decide) (by decide)
        exact tz_some (tq_w tk_0 (by decide) (by decide))
  have E_13 : ∀ (x3_13 : Int32) (x4_13 : Int32) (x5_13 : Int32), tq_iv 0 7775 x3_13 → tq_iv 0 5 x4_13 → tq_iv 1 5 x5_13 → tz_O (fun (z : Int32) => tq_iv 0 1 z) (ez_fix (fun _ _ _ _ _ => none) (z_X12_isLegalBy_13 σ) ez_N h0 x2 x3_13 x4_13 x5_13) := by
    intro x3_13 x4_13 x5_13 i_x3_13 i_x4_13 i_x5_13
    exact ez_fix_indn (fun n_13 (k_13 : Nat → Int32 → Int32 → Int32 → Int32 → Option (Int32)) => ∀ (x3_13 : Int32) (x4_13 : Int32) (x5_13 : Int32), tq_iv 0 7775 x3_13 → tq_iv 0 5 x4_13 → tq_iv 1 5 x5_13 → (2147483647 - x5_13.toInt).toNat < n_13 → tz_O (fun (z : Int32) => tq_iv 0 1 z) (k_13 h0 x2 x3_13 x4_13 x5_13)) (by intros; rename_i h; exact absurd h (Nat.not_lt_zero _)) L_13 ez_N x3_13 x4_13 x5_13 i_x3_13 i_x4_13 i_x5_13 (tq_m0 x5_13)
  exact E_13 x1 t_7 (1 : Int32) i_x1 i1_t_7 (tq_w tk_1 (by decide) (by decide))
set_option maxRecDepth 4000 in
theorem tz_X12_isLegal {p : tz_P} {σ : ez_H} {h0 : Nat} {x1 : Int32} (hT : tp p σ) (k_h0 : tz_C h0 = some (3, 12, 0, 0)) : tz_O (fun z => tq_iv 0 1 z ∧ (¬ z = 0 → tq_iv 0 7775 x1)) (z_X12_isLegal σ h0 x1) := by
  unfold z_X12_isLegal
  refine tz_bd (tz_ob hT k_h0) (fun _ _ => ?_)
  refine tz_bd (tz_X12_bittings hT k_h0) (fun t_3 i_t_3 => ?_)
  refine tz_let (fun t_7 e6273 => ?_)
  have i1_t_7 : tq_iv 0 7775 t_7 := tq_w (tq_sub e6273 i_t_3 tk_1 (by decide) (by decide)) (by decide) (by decide)
  refine tz_bd (tz_X12_isIn hT) (fun t_8 ⟨i_t_8, g_t_8⟩ => ?_)
  have K_36 : ∀ (y0_36 : Int32), tq_iv 0 1 y0_36 → (¬ y0_36 = 0 → tq_iv 1 1 t_8) → (¬ y0_36 = 0 → tq_iv 0 7775 x1) → tz_O (fun (z : Int32) => tq_iv 0 1 z ∧ (¬ z = 0 → tq_iv 0 7775 x1)) (z_X12_isLegal_36 σ y0_36) := by
    intro y0_36 i_y0_36 g36_y0_36_t_8 g36_y0_36_x1
    unfold z_X12_isLegal_36
    refine tz_nr (tq_nr_boolean i_y0_36) ?_
    exact tz_some ⟨i_y0_36, (fun h => tq_w (g36_y0_36_x1 h) (by decide) (by decide))⟩
  have K_35 : tz_O (fun (z : Int32) => tq_iv 0 1 z ∧ (¬ z = 0 → tq_iv 0 7775 x1)) (z_X12_isLegal_35 σ) := by
    unfold z_X12_isLegal_35
    exact K_36 (0 : Int32) (tq_w tk_0 (by decide) (by decide)) (fun h => absurd rfl h) (fun h => absurd rfl h)
  refine tz_if _ (fun c6271 => ?_) (fun c6271 => ?_)
  ·
    have i2_t_8 : tq_iv 0 0 t_8 := tq_cut i_t_8 (tq_eqL c6271 tk_0) (by decide) (by decide)
    exact K_35 
  ·
    have i3_x1 : tq_iv 0 7775 x1 := tq_cut (tq_top x1) (tq_cut (lo := 0) (hi := 7775) (tq_cut (lo := 0) (hi := 2147483647) (tq_top x1) (tq_leR (g_t_8 c6271).1 tk_0 (tq_top x1)) (by decide) (by decide)) (tq_leL (g_t_8 c6271).2 (tq_top x1) i1_t_7) (by decide) (by decide)) (by decide) (by decide)
    have i4_t_8 : tq_iv 1 1 t_8 := tq_w (tq_neLo c6271 i_t_8 tk_0) (by decide) (by decide)
    refine tz_bk (tr_13 hT k_h0) ?_
    refine tz_be (tg_12_43 hT k_h0) (fun t_21 e6269 i_t_21 => ?_)
    refine tz_be (tz_ia hT tc_175 (te_175 (p := p)) i_t_21 (by decide) (by decide)) (fun t_24 e6268 i_t_24 => ?_)
    refine tz_bd (tz_X12_isLegalBy hT k_h0 i3_x1 i_t_24) (fun t_25 i_t_25 => ?_)
    refine tz_if _ (fun c6266 => ?_) (fun c6266 => ?_)
    ·
      have i5_t_25 : tq_iv 0 0 t_25 := tq_cut i_t_25 (tq_eqL c6266 tk_0) (by decide) (by decide)
      exact K_35 
    ·
      have i6_t_25 : tq_iv 1 1 t_25 := tq_w (tq_neLo c6266 i_t_25 tk_0) (by decide) (by decide)
      exact K_36 (1 : Int32) (tq_w tk_1 (by decide) (by decide)) (fun _ => i4_t_8) (fun _ => i3_x1)
set_option maxRecDepth 4000 in
theorem tz_X12_bit {p : tz_P} {σ : ez_H} {x0 : Int32} {x1 : Int32} (hT : tp p σ) : tz_O (fun z => tq_iv 0 1 z) (z_X12_bit σ x0 x1) := by
  unfold z_X12_bit
  refine tz_let (fun t_2 e6282 => ?_)
  refine tz_let (fun t_4 e6281 => ?_)
  have i1_t_4 : tq_iv 0 1 t_4 := tq_and2 e6281 tk_1 (by decide)
  have K_14 : ∀ (y0_14 : Int32), tq_iv 0 1 y0_14 → (¬ y0_14 = 0 → tq_iv 1 1 t_4) → tz_O (fun (z : Int32) => tq_iv 0 1 z) (z_X12_bit_14 σ y0_14) := by
    intro y0_14 i_y0_14 g14_y0_14_t_4
    unfold z_X12_bit_14
    refine tz_nr (tq_nr_boolean i_y0_14) ?_
    exact tz_some i_y0_14
  refine tz_if _ (fun c6280 => ?_) (fun c6280 => ?_)
  ·
    have i2_t_4 : tq_iv 1 1 t_4 := tq_cut i1_t_4 (tq_eqL c6280 tk_1) (by decide) (by decide)
    exact K_14 (1 : Int32) (tq_w tk_1 (by decide) (by decide)) (fun _ => i2_t_4)
  ·
    have i3_t_4 : tq_iv 0 0 t_4 := tq_w (tq_neHi c6280 i1_t_4 tk_1) (by decide) (by decide)
    exact K_14 (0 : Int32) (tq_w tk_0 (by decide) (by decide)) (fun h => absurd rfl h)
set_option maxRecDepth 4000 in
theorem tz_X12_openedAsTold {p : tz_P} {σ : ez_H} {h0 : Nat} {x1 : Int32} {x2 : Int32} (hT : tp p σ) (k_h0 : tz_C h0 = some (3, 12, 0, 0)) (i_x1 : tq_iv 0 7775 x1) (i_x2 : tq_iv 0 5 x2) : tz_O (fun z => tq_iv 0 1 z) (z_X12_openedAsTold σ h0 x1 x2) := by
  unfold z_X12_openedAsTold
  refine tz_bd (tz_ob hT k_h0) (fun _ _ => ?_)
  refine tz_bd (tz_X12_wide hT k_h0) (fun t_3 i_t_3 => ?_)
  refine tz_let (fun t_7 e6304 => ?_)
  have i1_t_7 : tq_iv 1 4 t_7 := tq_w (tq_sub e6304 i_t_3 tk_1 (by decide) (by decide)) (by decide) (by decide)
  have L_10 : ∀ (n_10 : Nat) (k_10 : Nat → Int32 → Int32 → Int32 → Option (Int32)), (∀ (x3_10 : Int32) (x4_10 : Int32), tq_iv 0 7775 x3_10 → tq_iv (-1) 4 x4_10 → (x4_10.toInt + 2147483648).toNat < n_10 → tz_O (fun (z : Int32) => tq_iv 0 1 z) (k_10 h0 x2 x3_10 x4_10)) → ∀ (x3_10 : Int32) (x4_10 : Int32), tq_iv 0 7775 x3_10 → tq_iv (-1) 4 x4_10 → (x4_10.toInt + 2147483648).toNat < n_10 + 1 → tz_O (fun (z : Int32) => tq_iv 0 1 z) (z_X12_openedAsTold_10 σ k_10 h0 x2 x3_10 x4_10) := by
    intro n_10 k_10 hk_10 x3_10 x4_10 i_x3_10 i_x4_10 hn_10
    unfold z_X12_openedAsTold_10
    refine tz_if _ (fun c6302 => ?_) (fun c6302 => ?_)
    ·
      have i2_x4_10 : tq_iv (-1) (-1) x4_10 := tq_cut i_x4_10 (tq_ltL c6302 i_x4_10 tk_0) (by decide) (by decide)
      exact tz_some (tq_w tk_1 (by decide) (by decide))
    ·
      have i3_x4_10 : tq_iv 0 4 x4_10 := tq_cut i_x4_10 (tq_leR (tq_nlt c6302) tk_0 i_x4_10) (by decide) (by decide)
      refine tz_bk (tr_23 hT k_h0) ?_
      refine tz_be (tg_12_43 hT k_h0) (fun t_23 e6300 i_t_23 => ?_)
      refine tz_let (fun t_26 e6299 => ?_)
      have i4_t_26 : tq_iv 0 6 t_26 := tq_w (tq_mul e6299 tk_6 i_t_23 (by decide) (by decide) (by decide)) (by decide) (by decide)
      refine tz_let (fun t_28 e6298 => ?_)
      have i5_t_28 : tq_iv 0 11 t_28 := tq_w (tq_add e6298 i4_t_26 i_x2 (by decide) (by decide)) (by decide) (by decide)
      refine tz_let (fun t_29 e6297 => ?_)
      have i6_t_29 : tq_iv 0 55 t_29 := tq_w (tq_mul e6297 tk_5 i5_t_28 (by decide) (by decide) (by decide)) (by decide) (by decide)
      refine tz_let (fun t_32 e6296 => ?_)
      have i7_t_32 : tq_iv 0 59 t_32 := tq_w (tq_add e6296 i6_t_29 i3_x4_10 (by decide) (by decide)) (by decide) (by decide)
      refine tz_be (tz_ia hT tc_185 (te_0 (p := p)) i7_t_32 (by decide) (by decide)) (fun t_33 e6295 i_t_33 => ?_)
      refine tz_bd (tz_X12_deep hT k_h0) (fun t_36 i_t_36 => ?_)
      refine tz_nz (tq_nz i_t_36 (by decide)) ?_
      refine tz_let (fun t_39 e6292 => ?_)
      have i8_t_39 : tq_iv 0 5 t_39 := tq_rem2 e6292 i_x3_10 i_t_36 (by decide) (by decide)
      refine tz_bd (tz_X12_bit hT) (fun t_40 i_t_40 => ?_)
      refine tz_if _ (fun c6290 => ?_) (fun c6290 => ?_)
      ·
        have i9_t_40 : tq_iv 0 0 t_40 := tq_cut i_t_40 (tq_eqL c6290 tk_0) (by decide) (by decide)
        exact tz_some (tq_w tk_0 (by decide) (by decide))
      ·
        have i10_t_40 : tq_iv 1 1 t_40 := tq_w (tq_neLo c6290 i_t_40 tk_0) (by decide) (by decide)
        refine tz_bd (tz_X12_deep hT k_h0) (fun t_50 i_t_50 => ?_)
        refine tz_nz (tq_nz i_t_50 (by decide)) ?_
        refine tz_let (fun t_53 e6287 => ?_)
        have i11_t_53 : tq_iv 0 7775 t_53 := tq_div e6287 i_x3_10 i_t_50 (by decide) (by decide)
        refine tz_let (fun t_55 e6286 => ?_)
        have i12_t_55 : tq_iv (-1) 3 t_55 := tq_w (tq_add e6286 i3_x4_10 tk_m1 (by decide) (by decide)) (by decide) (by decide)
        exact hk_10 t_53 t_55 i11_t_53 (tq_w i12_t_55 (by decide) (by decide)) (tq_down e6286 i3_x4_10 tk_m1 (by decide) (by decide) hn_10)
  have E_10 : ∀ (x3_10 : Int32) (x4_10 : Int32), tq_iv 0 7775 x3_10 → tq_iv (-1) 4 x4_10 → tz_O (fun (z : Int32) => tq_iv 0 1 z) (ez_fix (fun _ _ _ _ => none) (z_X12_openedAsTold_10 σ) ez_N h0 x2 x3_10 x4_10) := by
    intro x3_10 x4_10 i_x3_10 i_x4_10
    exact ez_fix_indn (fun n_10 (k_10 : Nat → Int32 → Int32 → Int32 → Option (Int32)) => ∀ (x3_10 : Int32) (x4_10 : Int32), tq_iv 0 7775 x3_10 → tq_iv (-1) 4 x4_10 → (x4_10.toInt + 2147483648).toNat < n_10 → tz_O (fun (z : Int32) => tq_iv 0 1 z) (k_10 h0 x2 x3_10 x4_10)) (by intros; rename_i h; exact absurd h (Nat.not_lt_zero _)) L_10 ez_N x3_10 x4_10 i_x3_10 i_x4_10 (tq_m1 x4_10)
  exact E_10 x1 t_7 i_x1 (tq_w i1_t_7 (by decide) (by decide))
set_option maxRecDepth 4000 in
theorem tz_X12_doesFit {p : tz_P} {σ : ez_H} {h0 : Nat} {x1 : Int32} {x2 : Int32} (hT : tp p σ) (k_h0 : tz_C h0 = some (3, 12, 0, 0)) (i_x1 : tq_iv 0 7775 x1) : tz_O (fun z => tq_iv 0 1 z) (z_X12_doesFit σ h0 x1 x2) := by
  unfold z_X12_doesFit
  refine tz_bd (tz_ob hT k_h0) (fun _ _ => ?_)
  refine tz_bd (tz_X12_isLegal hT k_h0) (fun t_2 ⟨i_t_2, g_t_2⟩ => ?_)
  refine tz_if _ (fun c6335 => ?_) (fun c6335 => ?_)
  ·
    have i1_t_2 : tq_iv 0 0 t_2 := tq_cut i_t_2 (tq_eqL c6335 tk_0) (by decide) (by decide)
    exact tz_some (tq_w tk_0 (by decide) (by decide))
  ·
    have i2_t_2 : tq_iv 1 1 t_2 := tq_w (tq_neLo c6335 i_t_2 tk_0) (by decide) (by decide)
    have L_12 : ∀ (n_12 : Nat) (k_12 : Nat → Int32 → Int32 → Int32 → Option (Int32)), (∀ (x3_12 : Int32), tq_iv 0 30 x3_12 → (2147483647 - x3_12.toInt).toNat < n_12 → tz_O (fun (z : Int32) => tq_iv 0 1 z) (k_12 h0 x1 x2 x3_12)) → ∀ (x3_12 : Int32), tq_iv 0 30 x3_12 → (2147483647 - x3_12.toInt).toNat < n_12 + 1 → tz_O (fun (z : Int32) => tq_iv 0 1 z) (z_X12_doesFit_12 σ k_12 h0 x1 x2 x3_12) := by
      intro n_12 k_12 hk_12 x3_12 i_x3_12 hn_12
      unfold z_X12_doesFit_12
      refine tz_be (tg_12_66 hT k_h0) (fun t_14 e6332 i_t_14 => ?_)
      refine tz_if _ (fun c6331 => ?_) (fun c6331 => ?_)
      ·
        exact tz_some (tq_w tk_1 (by decide) (by decide))
      ·
        have i3_x3_12 : tq_iv 0 29 x3_12 := tq_cut i_x3_12 (tq_ltL (tq_nle c6331) i_x3_12 i_t_14) (by decide) (by decide)
        have i4_t_14 : tq_iv 1 30 t_14 := tq_cut i_t_14 (tq_ltR (tq_nle c6331) i_x3_12 i_t_14) (by decide) (by decide)
        refine tz_bk (tr_64 hT k_h0) ?_
        refine tz_be (tz_ia hT tc_213 (te_0 (p := p)) i3_x3_12 (by decide) (by decide)) (fun t_25 e6329 i_t_25 => ?_)
        have K_74 : tz_O (fun (z : Int32) => tq_iv 0 1 z) (z_X12_doesFit_74 σ k_12 h0 x1 x2 x3_12) := by
          unfold z_X12_doesFit_74
          refine tz_let (fun t_74 e6308 => ?_)
          have i5_t_74 : tq_iv 1 30 t_74 := tq_w (tq_add e6308 i3_x3_12 tk_1 (by decide) (by decide)) (by decide) (by decide)
          exact hk_12 t_74 (tq_w i5_t_74 (by decide) (by decide)) (tq_up e6308 i3_x3_12 tk_1 (by decide) (by decide) hn_12)
        refine tz_if _ (fun c6328 => ?_) (fun c6328 => ?_)
        ·
          have i6_x2 : tq_iv (-2147483648) 2147483646 x2 := tq_cut (tq_top x2) (tq_ltL c6328 (tq_top x2) (tq_top t_25)) (by decide) (by decide)
          have i7_t_25 : tq_iv (-2147483647) 2147483647 t_25 := tq_cut (tq_top t_25) (tq_ltR c6328 (tq_top x2) (tq_top t_25)) (by decide) (by decide)
          exact K_74 
        ·
          refine tz_bk (tr_65 hT k_h0) ?_
          refine tz_be (tz_ia hT tc_214 (te_0 (p := p)) i3_x3_12 (by decide) (by decide)) (fun t_35 e6326 i_t_35 => ?_)
          have K_52 : tz_O (fun (z : Int32) => tq_iv 0 1 z) (z_X12_doesFit_52 σ k_12 h0 x1 x2 x3_12) := by
            unfold z_X12_doesFit_52
            refine tz_bk (tr_62 hT k_h0) ?_
            refine tz_be (tz_ia hT tc_211 (te_211 (p := p)) i3_x3_12 (by decide) (by decide)) (fun t_59 e6315 i_t_59 => ?_)
            refine tz_bd (tz_X12_openedAsTold hT k_h0 i_x1 i_t_59) (fun t_60 i_t_60 => ?_)
            refine tz_bk (tr_63 hT k_h0) ?_
            refine tz_be (tz_ia hT tc_212 (te_0 (p := p)) i3_x3_12 (by decide) (by decide)) (fun t_68 e6312 i_t_68 => ?_)
            refine tz_if _ (fun c6311 => ?_) (fun c6311 => ?_)
            ·
              have i8_t_68 : tq_iv 0 1 t_68 := tq_cut (tq_top t_68) (tq_eqL (Eq.symm c6311) i_t_60) (by decide) (by decide)
              exact K_74 
            ·
              exact tz_some (tq_w tk_0 (by decide) (by decide))
          refine tz_if _ (fun c6325 => ?_) (fun c6325 => ?_)
          ·
            have i9_t_35 : tq_iv (-2147483648) (-1) t_35 := tq_cut (tq_top t_35) (tq_ltL c6325 (tq_top t_35) tk_0) (by decide) (by decide)
            exact K_52 
          ·
            have i10_t_35 : tq_iv 0 2147483647 t_35 := tq_cut (tq_top t_35) (tq_leR (tq_nlt c6325) tk_0 (tq_top t_35)) (by decide) (by decide)
            refine tz_bk (tr_65 hT k_h0) ?_
            refine tz_ba e6326 (fun t_44 e6323 a6323 => ?_)
            have i11_t_44 : tq_iv 0 2147483647 t_44 := tq_eqL a6323 i10_t_35
            refine tz_if _ (fun c6322 => ?_) (fun c6322 => ?_)
            ·
              have i12_x2 : tq_iv (-2147483648) 2147483646 x2 := tq_cut (tq_top x2) (tq_ltL c6322 (tq_top x2) i11_t_44) (by decide) (by decide)
              exact K_52 
            ·
              have i13_x2 : tq_iv 0 2147483647 x2 := tq_cut (tq_top x2) (tq_leR (tq_nlt c6322) i11_t_44 (tq_top x2)) (by decide) (by decide)
              exact K_74 
    have E_12 : ∀ (x3_12 : Int32), tq_iv 0 30 x3_12 → tz_O (fun (z : Int32) => tq_iv 0 1 z) (ez_fix (fun _ _ _ _ => none) (z_X12_doesFit_12 σ) ez_N h0 x1 x2 x3_12) := by
      intro x3_12 i_x3_12
      exact ez_fix_indn (fun n_12 (k_12 : Nat → Int32 → Int32 → Int32 → Option (Int32)) => ∀ (x3_12 : Int32), tq_iv 0 30 x3_12 → (2147483647 - x3_12.toInt).toNat < n_12 → tz_O (fun (z : Int32) => tq_iv 0 1 z) (k_12 h0 x1 x2 x3_12)) (by intros; rename_i h; exact absurd h (Nat.not_lt_zero _)) L_12 ez_N x3_12 i_x3_12 (tq_m0 x3_12)
    exact E_12 (0 : Int32) (tq_w tk_0 (by decide) (by decide))
set_option maxRecDepth 4000 in
theorem tz_X12_fits {p : tz_P} {σ : ez_H} {h0 : Nat} {x1 : Int32} (hT : tp p σ) (k_h0 : tz_C h0 = some (3, 12, 0, 0)) : tz_O (fun z => tq_iv (-2147483648) 2147483647 z) (z_X12_fits σ h0 x1) := by
  unfold z_X12_fits
  refine tz_bd (tz_ob hT k_h0) (fun _ _ => ?_)
  have L_4 : ∀ (n_4 : Nat) (k_4 : Nat → Int32 → Int32 → Int32 → Option (Int32)), (∀ (x2_4 : Int32) (x3_4 : Int32), tq_iv 0 7776 x3_4 → (2147483647 - x3_4.toInt).toNat < n_4 → tz_O (fun (z : Int32) => tq_iv (-2147483648) 2147483647 z) (k_4 h0 x1 x2_4 x3_4)) → ∀ (x2_4 : Int32) (x3_4 : Int32), tq_iv 0 7776 x3_4 → (2147483647 - x3_4.toInt).toNat < n_4 + 1 → tz_O (fun (z : Int32) => tq_iv (-2147483648) 2147483647 z) (z_X12_fits_4 σ k_4 h0 x1 x2_4 x3_4) := by
    intro n_4 k_4 hk_4 x2_4 x3_4 i_x3_4 hn_4
    unfold z_X12_fits_4
    refine tz_bd (tz_X12_bittings hT k_h0) (fun t_6 i_t_6 => ?_)
    refine tz_if _ (fun c6346 => ?_) (fun c6346 => ?_)
    ·
      have i1_x3_4 : tq_iv 1 7776 x3_4 := tq_cut i_x3_4 (tq_leR c6346 i_t_6 i_x3_4) (by decide) (by decide)
      exact tz_some (tq_top x2_4)
    ·
      have i2_x3_4 : tq_iv 0 7775 x3_4 := tq_cut i_x3_4 (tq_ltL (tq_nle c6346) i_x3_4 i_t_6) (by decide) (by decide)
      refine tz_bd (tz_X12_doesFit hT k_h0 i2_x3_4) (fun t_15 i_t_15 => ?_)
      have K_24 : ∀ (x2_24 : Int32), tz_O (fun (z : Int32) => tq_iv (-2147483648) 2147483647 z) (z_X12_fits_24 σ k_4 h0 x1 x2_24 x3_4) := by
        intro x2_24
        unfold z_X12_fits_24
        refine tz_let (fun t_24 e6339 => ?_)
        have i3_t_24 : tq_iv 1 7776 t_24 := tq_w (tq_add e6339 i2_x3_4 tk_1 (by decide) (by decide)) (by decide) (by decide)
        exact hk_4 x2_24 t_24 (tq_w i3_t_24 (by decide) (by decide)) (tq_up e6339 i2_x3_4 tk_1 (by decide) (by decide) hn_4)
      refine tz_if _ (fun c6344 => ?_) (fun c6344 => ?_)
      ·
        have i4_t_15 : tq_iv 0 0 t_15 := tq_cut i_t_15 (tq_eqL c6344 tk_0) (by decide) (by decide)
        exact K_24 x2_4
      ·
        have i5_t_15 : tq_iv 1 1 t_15 := tq_w (tq_neLo c6344 i_t_15 tk_0) (by decide) (by decide)
        refine tz_let (fun t_21 e6343 => ?_)
        exact K_24 t_21
  have E_4 : ∀ (x2_4 : Int32) (x3_4 : Int32), tq_iv 0 7776 x3_4 → tz_O (fun (z : Int32) => tq_iv (-2147483648) 2147483647 z) (ez_fix (fun _ _ _ _ => none) (z_X12_fits_4 σ) ez_N h0 x1 x2_4 x3_4) := by
    intro x2_4 x3_4 i_x3_4
    exact ez_fix_indn (fun n_4 (k_4 : Nat → Int32 → Int32 → Int32 → Option (Int32)) => ∀ (x2_4 : Int32) (x3_4 : Int32), tq_iv 0 7776 x3_4 → (2147483647 - x3_4.toInt).toNat < n_4 → tz_O (fun (z : Int32) => tq_iv (-2147483648) 2147483647 z) (k_4 h0 x1 x2_4 x3_4)) (by intros; rename_i h; exact absurd h (Nat.not_lt_zero _)) L_4 ez_N x2_4 x3_4 i_x3_4 (tq_m0 x3_4)
  exact E_4 (0 : Int32) (0 : Int32) (tq_w tk_0 (by decide) (by decide))
set_option maxRecDepth 4000 in
theorem tz_X12_mostBy {p : tz_P} {σ : ez_H} {h0 : Nat} {x1 : Int32} {x2 : Int32} (hT : tp p σ) (k_h0 : tz_C h0 = some (3, 12, 0, 0)) (i_x1 : tq_iv 0 5 x1) : tz_O (fun z => tq_iv (-2147483648) 2147483647 z) (z_X12_mostBy σ h0 x1 x2) := by
  unfold z_X12_mostBy
  refine tz_bd (tz_ob hT k_h0) (fun _ _ => ?_)
  have L_8 : ∀ (n_8 : Nat) (k_8 : Nat → Int32 → Int32 → Int32 → Int32 → Int32 → Option (Int32)), (∀ (x3_8 : Int32) (x4_8 : Int32) (x5_8 : Int32), tq_iv 0 7776 x5_8 → (2147483647 - x5_8.toInt).toNat < n_8 → tz_O (fun (z : Int32) => tq_iv (-2147483648) 2147483647 z) (k_8 h0 x1 x2 x3_8 x4_8 x5_8)) → ∀ (x3_8 : Int32) (x4_8 : Int32) (x5_8 : Int32), tq_iv 0 7776 x5_8 → (2147483647 - x5_8.toInt).toNat < n_8 + 1 → tz_O (fun (z : Int32) => tq_iv (-2147483648) 2147483647 z) (z_X12_mostBy_8 σ k_8 h0 x1 x2 x3_8 x4_8 x5_8) := by
    intro n_8 k_8 hk_8 x3_8 x4_8 x5_8 i_x5_8 hn_8
    unfold z_X12_mostBy_8
    refine tz_bd (tz_X12_bittings hT k_h0) (fun t_11 i_t_11 => ?_)
    refine tz_if _ (fun c6365 => ?_) (fun c6365 => ?_)
    ·
      have i1_x5_8 : tq_iv 1 7776 x5_8 := tq_cut i_x5_8 (tq_leR c6365 i_t_11 i_x5_8) (by decide) (by decide)
      have K_68 : ∀ (y0_68 : Int32), tz_O (fun (z : Int32) => tq_iv (-2147483648) 2147483647 z) (z_X12_mostBy_68 σ y0_68) := by
        intro y0_68
        unfold z_X12_mostBy_68
        exact tz_some (tq_top y0_68)
      refine tz_if _ (fun c6355 => ?_) (fun c6355 => ?_)
      ·
        exact K_68 x4_8
      ·
        have i2_x4_8 : tq_iv (-2147483648) 2147483646 x4_8 := tq_cut (tq_top x4_8) (tq_ltL (tq_nle c6355) (tq_top x4_8) (tq_top x3_8)) (by decide) (by decide)
        have i3_x3_8 : tq_iv (-2147483647) 2147483647 x3_8 := tq_cut (tq_top x3_8) (tq_ltR (tq_nle c6355) (tq_top x4_8) (tq_top x3_8)) (by decide) (by decide)
        exact K_68 x3_8
    ·
      have i4_x5_8 : tq_iv 0 7775 x5_8 := tq_cut i_x5_8 (tq_ltL (tq_nle c6365) i_x5_8 i_t_11) (by decide) (by decide)
      refine tz_bd (tz_X12_doesFit hT k_h0 i4_x5_8) (fun t_21 i_t_21 => ?_)
      have K_50 : ∀ (x3_50 : Int32) (x4_50 : Int32), tz_O (fun (z : Int32) => tq_iv (-2147483648) 2147483647 z) (z_X12_mostBy_50 σ k_8 h0 x1 x2 x3_50 x4_50 x5_8) := by
        intro x3_50 x4_50
        unfold z_X12_mostBy_50
        refine tz_let (fun t_50 e6352 => ?_)
        have i5_t_50 : tq_iv 1 7776 t_50 := tq_w (tq_add e6352 i4_x5_8 tk_1 (by decide) (by decide)) (by decide) (by decide)
        exact hk_8 x3_50 x4_50 t_50 (tq_w i5_t_50 (by decide) (by decide)) (tq_up e6352 i4_x5_8 tk_1 (by decide) (by decide) hn_8)
      refine tz_if _ (fun c6363 => ?_) (fun c6363 => ?_)
      ·
        have i6_t_21 : tq_iv 0 0 t_21 := tq_cut i_t_21 (tq_eqL c6363 tk_0) (by decide) (by decide)
        exact K_50 x3_8 x4_8
      ·
        have i7_t_21 : tq_iv 1 1 t_21 := tq_w (tq_neLo c6363 i_t_21 tk_0) (by decide) (by decide)
        refine tz_bd (tz_X12_openedAsTold hT k_h0 i4_x5_8 i_x1) (fun t_34 i_t_34 => ?_)
        refine tz_if _ (fun c6361 => ?_) (fun c6361 => ?_)
        ·
          have i8_t_34 : tq_iv 1 1 t_34 := tq_cut i_t_34 (tq_eqL c6361 tk_1) (by decide) (by decide)
          refine tz_let (fun t_41 e6358 => ?_)
          exact K_50 t_41 x4_8
        ·
          have i9_t_34 : tq_iv 0 0 t_34 := tq_w (tq_neHi c6361 i_t_34 tk_1) (by decide) (by decide)
          refine tz_let (fun t_47 e6360 => ?_)
          exact K_50 x3_8 t_47
  have E_8 : ∀ (x3_8 : Int32) (x4_8 : Int32) (x5_8 : Int32), tq_iv 0 7776 x5_8 → tz_O (fun (z : Int32) => tq_iv (-2147483648) 2147483647 z) (ez_fix (fun _ _ _ _ _ _ => none) (z_X12_mostBy_8 σ) ez_N h0 x1 x2 x3_8 x4_8 x5_8) := by
    intro x3_8 x4_8 x5_8 i_x5_8
    exact ez_fix_indn (fun n_8 (k_8 : Nat → Int32 → Int32 → Int32 → Int32 → Int32 → Option (Int32)) => ∀ (x3_8 : Int32) (x4_8 : Int32) (x5_8 : Int32), tq_iv 0 7776 x5_8 → (2147483647 - x5_8.toInt).toNat < n_8 → tz_O (fun (z : Int32) => tq_iv (-2147483648) 2147483647 z) (k_8 h0 x1 x2 x3_8 x4_8 x5_8)) (by intros; rename_i h; exact absurd h (Nat.not_lt_zero _)) L_8 ez_N x3_8 x4_8 x5_8 i_x5_8 (tq_m0 x5_8)
  exact E_8 (0 : Int32) (0 : Int32) (0 : Int32) (tq_w tk_0 (by decide) (by decide))
set_option maxRecDepth 4000 in
theorem tz_X12_ask {p : tz_P} {σ : ez_H} {h0 : Nat} {x1 : Int32} {x2 : Int32} (hT : tp p σ) (k_h0 : tz_C h0 = some (3, 12, 0, 0)) : tz_O (fun z => tq_iv (-2147483648) 100000 z) (z_X12_ask σ h0 x1 x2) := by
  unfold z_X12_ask
  refine tz_bd (tz_ob hT k_h0) (fun _ _ => ?_)
  refine tz_bd (tz_X12_isIn hT) (fun t_3 ⟨i_t_3, g_t_3⟩ => ?_)
  have K_24 : tz_O (fun (z : Int32) => tq_iv (-2147483648) 100000 z) (z_X12_ask_24 σ) := by
    unfold z_X12_ask_24
    exact tz_some (tq_w tk_m1 (by decide) (by decide))
  refine tz_if _ (fun c6390 => ?_) (fun c6390 => ?_)
  ·
    have i1_t_3 : tq_iv 0 0 t_3 := tq_cut i_t_3 (tq_eqL c6390 tk_0) (by decide) (by decide)
    exact K_24 
  ·
    have i2_x1 : tq_iv 0 1 x1 := tq_cut (tq_top x1) (tq_cut (lo := 0) (hi := 1) (tq_cut (lo := 0) (hi := 2147483647) (tq_top x1) (tq_leR (g_t_3 c6390).1 tk_0 (tq_top x1)) (by decide) (by decide)) (tq_leL (g_t_3 c6390).2 (tq_top x1) tk_1) (by decide) (by decide)) (by decide) (by decide)
    have i3_t_3 : tq_iv 1 1 t_3 := tq_w (tq_neLo c6390 i_t_3 tk_0) (by decide) (by decide)
    refine tz_bd (tz_X12_bolts hT k_h0) (fun t_10 i_t_10 => ?_)
    refine tz_if _ (fun c6388 => ?_) (fun c6388 => ?_)
    ·
      have i4_t_10 : tq_iv 0 0 t_10 := tq_cut i_t_10 (tq_eqL c6388 tk_0) (by decide) (by decide)
      exact K_24 
    ·
      have i5_t_10 : tq_iv 1 6 t_10 := tq_w (tq_neLo c6388 i_t_10 tk_0) (by decide) (by decide)
      refine tz_bd (tz_X12_fits hT k_h0) (fun t_18 i_t_18 => ?_)
      refine tz_if _ (fun c6386 => ?_) (fun c6386 => ?_)
      ·
        have i6_t_18 : tq_iv 0 0 t_18 := tq_cut (tq_top t_18) (tq_eqL c6386 tk_0) (by decide) (by decide)
        exact K_24 
      ·
        have L_36 : ∀ (n_36 : Nat) (k_36 : Nat → Int32 → Int32 → Int32 → Int32 → Int32 → Option (Int32)), (∀ (x3_36 : Int32) (x4_36 : Int32) (x5_36 : Int32), tq_iv (-1) 5 x3_36 → tq_iv (-2147483648) 100000 x4_36 → tq_iv 0 6 x5_36 → (2147483647 - x5_36.toInt).toNat < n_36 → tz_O (fun (z : Int32) => tq_iv (-2147483648) 100000 z) (k_36 h0 x1 x2 x3_36 x4_36 x5_36)) → ∀ (x3_36 : Int32) (x4_36 : Int32) (x5_36 : Int32), tq_iv (-1) 5 x3_36 → tq_iv (-2147483648) 100000 x4_36 → tq_iv 0 6 x5_36 → (2147483647 - x5_36.toInt).toNat < n_36 + 1 → tz_O (fun (z : Int32) => tq_iv (-2147483648) 100000 z) (z_X12_ask_36 σ k_36 h0 x1 x2 x3_36 x4_36 x5_36) := by
          intro n_36 k_36 hk_36 x3_36 x4_36 x5_36 i_x3_36 i_x4_36 i_x5_36 hn_36
          unfold z_X12_ask_36
          refine tz_bd (tz_X12_bolts hT k_h0) (fun t_39 i_t_39 => ?_)
          refine tz_if _ (fun c6380 => ?_) (fun c6380 => ?_)
          ·
            have K_87 : ∀ (y0_87 : Int32), tq_iv (-2147483648) 100000 y0_87 → tz_O (fun (z : Int32) => tq_iv (-2147483648) 100000 z) (z_X12_ask_87 σ y0_87) := by
              intro y0_87 i_y0_87
              unfold z_X12_ask_87
              exact tz_some i_y0_87
            refine tz_if _ (fun c6375 => ?_) (fun c6375 => ?_)
            ·
              have i7_x1 : tq_iv 0 0 x1 := tq_cut i2_x1 (tq_eqL c6375 tk_0) (by decide) (by decide)
              exact K_87 x3_36 (tq_w i_x3_36 (by decide) (by decide))
            ·
              have i8_x1 : tq_iv 1 1 x1 := tq_w (tq_neLo c6375 i2_x1 tk_0) (by decide) (by decide)
              exact K_87 x4_36 i_x4_36
          ·
            have i9_x5_36 : tq_iv 0 5 x5_36 := tq_cut i_x5_36 (tq_ltL (tq_nle c6380) i_x5_36 i_t_39) (by decide) (by decide)
            have i10_t_39 : tq_iv 1 6 t_39 := tq_cut i_t_39 (tq_ltR (tq_nle c6380) i_x5_36 i_t_39) (by decide) (by decide)
            refine tz_bd (tz_X12_mostBy hT k_h0 i9_x5_36) (fun t_49 i_t_49 => ?_)
            have K_71 : ∀ (x3_71 : Int32) (x4_71 : Int32), tq_iv (-1) 5 x3_71 → tq_iv (-2147483648) 100000 x4_71 → tz_O (fun (z : Int32) => tq_iv (-2147483648) 100000 z) (z_X12_ask_71 σ k_36 h0 x1 x2 x3_71 x4_71 x5_36) := by
              intro x3_71 x4_71 i_x3_71 i_x4_71
              unfold z_X12_ask_71
              refine tz_let (fun t_71 e6372 => ?_)
              have i11_t_71 : tq_iv 1 6 t_71 := tq_w (tq_add e6372 i9_x5_36 tk_1 (by decide) (by decide)) (by decide) (by decide)
              exact hk_36 x3_71 x4_71 t_71 i_x3_71 i_x4_71 (tq_w i11_t_71 (by decide) (by decide)) (tq_up e6372 i9_x5_36 tk_1 (by decide) (by decide) hn_36)
            refine tz_if _ (fun c6378 => ?_) (fun c6378 => ?_)
            ·
              have i12_t_49 : tq_iv (-2147483648) 99999 t_49 := tq_cut (tq_top t_49) (tq_ltL c6378 (tq_top t_49) i_x4_36) (by decide) (by decide)
              have i13_x4_36 : tq_iv (-2147483647) 100000 x4_36 := tq_cut i_x4_36 (tq_ltR c6378 (tq_top t_49) i_x4_36) (by decide) (by decide)
              exact K_71 x5_36 t_49 (tq_w i9_x5_36 (by decide) (by decide)) (tq_w i12_t_49 (by decide) (by decide))
            ·
              exact K_71 x3_36 x4_36 i_x3_36 i_x4_36
        have E_36 : ∀ (x3_36 : Int32) (x4_36 : Int32) (x5_36 : Int32), tq_iv (-1) 5 x3_36 → tq_iv (-2147483648) 100000 x4_36 → tq_iv 0 6 x5_36 → tz_O (fun (z : Int32) => tq_iv (-2147483648) 100000 z) (ez_fix (fun _ _ _ _ _ _ => none) (z_X12_ask_36 σ) ez_N h0 x1 x2 x3_36 x4_36 x5_36) := by
          intro x3_36 x4_36 x5_36 i_x3_36 i_x4_36 i_x5_36
          exact ez_fix_indn (fun n_36 (k_36 : Nat → Int32 → Int32 → Int32 → Int32 → Int32 → Option (Int32)) => ∀ (x3_36 : Int32) (x4_36 : Int32) (x5_36 : Int32), tq_iv (-1) 5 x3_36 → tq_iv (-2147483648) 100000 x4_36 → tq_iv 0 6 x5_36 → (2147483647 - x5_36.toInt).toNat < n_36 → tz_O (fun (z : Int32) => tq_iv (-2147483648) 100000 z) (k_36 h0 x1 x2 x3_36 x4_36 x5_36)) (by intros; rename_i h; exact absurd h (Nat.not_lt_zero _)) L_36 ez_N x3_36 x4_36 x5_36 i_x3_36 i_x4_36 i_x5_36 (tq_m0 x5_36)
        exact E_36 (-1 : Int32) (100000 : Int32) (0 : Int32) (tq_w tk_m1 (by decide) (by decide)) (tq_w tk_100000 (by decide) (by decide)) (tq_w tk_0 (by decide) (by decide))
set_option maxRecDepth 4000 in
theorem tz_X12_holderOf {p : tz_P} {σ : ez_H} {h0 : Nat} {x1 : Int32} (hT : tp p σ) (k_h0 : tz_C h0 = some (3, 12, 0, 0)) (i_x1 : tq_iv 0 7 x1) : tz_O (fun z => tq_iv (-2) 3 z) (z_X12_holderOf σ h0 x1) := by
  unfold z_X12_holderOf
  refine tz_bd (tz_ob hT k_h0) (fun _ _ => ?_)
  refine tz_bk (tr_53 hT k_h0) ?_
  refine tz_let (fun t_7 e6395 => ?_)
  have i1_t_7 : tq_iv 48 55 t_7 := tq_w (tq_add e6395 tk_48 i_x1 (by decide) (by decide)) (by decide) (by decide)
  refine tz_be (tz_iaS hT tc_205 (ts_205 (p := p) 48 55 (-2) 3 (by decide)) i1_t_7 (by decide) (by decide)) (fun t_8 e6394 i_t_8 => ?_)
  exact tz_some i_t_8
set_option maxRecDepth 4000 in
theorem tz_X12_keysBy {p : tz_P} {σ : ez_H} {h0 : Nat} {x1 : Int32} (hT : tp p σ) (k_h0 : tz_C h0 = some (3, 12, 0, 0)) (i_x1 : tq_iv (-2) 3 x1) : tz_O (fun z => tq_iv (-2147483648) 2147483647 z) (z_X12_keysBy σ h0 x1) := by
  unfold z_X12_keysBy
  refine tz_bd (tz_ob hT k_h0) (fun _ _ => ?_)
  have L_4 : ∀ (n_4 : Nat) (k_4 : Nat → Int32 → Int32 → Int32 → Option (Int32)), (∀ (x2_4 : Int32) (x3_4 : Int32), tq_iv 0 8 x3_4 → (2147483647 - x3_4.toInt).toNat < n_4 → tz_O (fun (z : Int32) => tq_iv (-2147483648) 2147483647 z) (k_4 h0 x1 x2_4 x3_4)) → ∀ (x2_4 : Int32) (x3_4 : Int32), tq_iv 0 8 x3_4 → (2147483647 - x3_4.toInt).toNat < n_4 + 1 → tz_O (fun (z : Int32) => tq_iv (-2147483648) 2147483647 z) (z_X12_keysBy_4 σ k_4 h0 x1 x2_4 x3_4) := by
    intro n_4 k_4 hk_4 x2_4 x3_4 i_x3_4 hn_4
    unfold z_X12_keysBy_4
    refine tz_bd (tz_X12_many hT k_h0) (fun t_6 i_t_6 => ?_)
    refine tz_if _ (fun c6407 => ?_) (fun c6407 => ?_)
    ·
      exact tz_some (tq_top x2_4)
    ·
      have i1_x3_4 : tq_iv 0 7 x3_4 := tq_cut i_x3_4 (tq_ltL (tq_nle c6407) i_x3_4 i_t_6) (by decide) (by decide)
      have i2_t_6 : tq_iv 1 8 t_6 := tq_cut i_t_6 (tq_ltR (tq_nle c6407) i_x3_4 i_t_6) (by decide) (by decide)
      refine tz_bd (tz_X12_holderOf hT k_h0 i1_x3_4) (fun t_14 i_t_14 => ?_)
      have K_27 : ∀ (x2_27 : Int32), tz_O (fun (z : Int32) => tq_iv (-2147483648) 2147483647 z) (z_X12_keysBy_27 σ k_4 h0 x1 x2_27 x3_4) := by
        intro x2_27
        unfold z_X12_keysBy_27
        refine tz_let (fun t_27 e6399 => ?_)
        have i3_t_27 : tq_iv 1 8 t_27 := tq_w (tq_add e6399 i1_x3_4 tk_1 (by decide) (by decide)) (by decide) (by decide)
        exact hk_4 x2_27 t_27 (tq_w i3_t_27 (by decide) (by decide)) (tq_up e6399 i1_x3_4 tk_1 (by decide) (by decide) hn_4)
      refine tz_if _ (fun c6405 => ?_) (fun c6405 => ?_)
      ·
        refine tz_let (fun t_24 e6403 => ?_)
        have i4_t_24 : tq_iv 1 128 t_24 := tq_shl1 e6403 i1_x3_4 (by decide) (by decide) (by decide) (by decide)
        refine tz_let (fun t_25 e6402 => ?_)
        exact K_27 t_25
      ·
        exact K_27 x2_4
  have E_4 : ∀ (x2_4 : Int32) (x3_4 : Int32), tq_iv 0 8 x3_4 → tz_O (fun (z : Int32) => tq_iv (-2147483648) 2147483647 z) (ez_fix (fun _ _ _ _ => none) (z_X12_keysBy_4 σ) ez_N h0 x1 x2_4 x3_4) := by
    intro x2_4 x3_4 i_x3_4
    exact ez_fix_indn (fun n_4 (k_4 : Nat → Int32 → Int32 → Int32 → Option (Int32)) => ∀ (x2_4 : Int32) (x3_4 : Int32), tq_iv 0 8 x3_4 → (2147483647 - x3_4.toInt).toNat < n_4 → tz_O (fun (z : Int32) => tq_iv (-2147483648) 2147483647 z) (k_4 h0 x1 x2_4 x3_4)) (by intros; rename_i h; exact absurd h (Nat.not_lt_zero _)) L_4 ez_N x2_4 x3_4 i_x3_4 (tq_m0 x3_4)
  exact E_4 (0 : Int32) (0 : Int32) (tq_w tk_0 (by decide) (by decide))
theorem tq_bits {x : Int32} (h : ¬ x = 0) : (x &&& (x - 1)).toBitVec.toNat < x.toBitVec.toNat := by
  have h1 : x.toBitVec.toNat ≠ 0 := fun e => h (Int32.toBitVec_inj.mp (BitVec.eq_of_toNat_eq e))
  have h2 : (x - 1).toBitVec.toNat = x.toBitVec.toNat - 1 := by
    rw [Int32.toBitVec_sub, BitVec.toNat_sub]
    have := x.toBitVec.isLt
    have h3 : (1 : Int32).toBitVec.toNat = 1 := by decide
    omega
  rw [Int32.toBitVec_and, BitVec.toNat_and, h2]
  have := Nat.and_le_right (n := x.toBitVec.toNat) (m := x.toBitVec.toNat - 1)
  omega
theorem tz_X12_bitsOf {p : tz_P} {σ : ez_H} {x0 : Int32} (_ : tp p σ) : tz_O (fun z => tq_iv (-2147483648) 2147483647 z) (z_X12_bitsOf σ x0) := by
  have L : ∀ (n : Nat) (k : Int32 → Int32 → Option Int32), (∀ x1 x2 : Int32, x2.toBitVec.toNat < n → tz_O (fun z => tq_iv (-2147483648) 2147483647 z) (k x1 x2)) → ∀ x1 x2 : Int32, x2.toBitVec.toNat < n + 1 → tz_O (fun z => tq_iv (-2147483648) 2147483647 z) (z_X12_bitsOf_4 σ k x1 x2) := by
    intro n k hk x1 x2 hn
    unfold z_X12_bitsOf_4
    refine tz_if _ (fun _ => tz_some (tq_top _)) (fun c => ?_)
    refine tz_let (fun t _ => ?_)
    refine tz_let (fun u e => ?_)
    refine tz_let (fun v e2 => ?_)
    have := tq_bits c
    rw [← e, ← e2] at this
    exact hk t v (by omega)
  unfold z_X12_bitsOf
  exact ez_fix_indn (fun n (k : Int32 → Int32 → Option Int32) => ∀ x1 x2 : Int32, x2.toBitVec.toNat < n → tz_O (fun z => tq_iv (-2147483648) 2147483647 z) (k x1 x2)) (by intros; rename_i h; exact absurd h (Nat.not_lt_zero _)) L ez_N 0 x0 x0.toBitVec.isLt
theorem tz_X12_back {p : tz_P} {σ : ez_H} {h0 : Nat} {x1 : Int32} (hT : tp p σ) (k_h0 : tz_C h0 = some (3, 12, 0, 0)) : tz_O2 (fun (z : Int32) (s : ez_H) => tq_iv (-2147483648) 2147483647 z ∧ tp p s) (z_X12_back σ h0 x1) := by
  have K : tz_O (fun z : Int32 × ez_H => tq_iv (-2147483648) 2147483647 z.1 ∧ tp p z.2) (z_X12_back_18 σ) := tz_some ⟨tq_top _, hT⟩
  unfold z_X12_back
  refine tz_bd (tz_ob hT k_h0) (fun _ _ => ?_)
  refine tz_bd (tz_X12_isIn hT) (fun t3 h3 => ?_)
  refine tz_if _ (fun _ => K) (fun c => ?_)
  obtain ⟨q1, q2⟩ := h3.2 c
  have q1 := le_c q1
  have q2 := le_c q2
  have e0 : (0 : Int32).toInt = 0 := by decide
  have e2 : (2 : Int32).toInt = 2 := by decide
  have ix : tq_iv 0 40 x1 := ⟨by omega, by omega⟩
  refine tz_bk (tr_69 hT k_h0) ?_
  refine tz_bd (tz_ia hT tc_216 (te_2 (p := p)) (lo := 0) (hi := 2) ⟨by omega, by omega⟩ (by decide) (by decide)) (fun _ _ => ?_)
  refine tz_if _ (fun _ => K) (fun c => ?_)
  refine lpG (fun (k : ez_H → Nat → Int32 → Int32 → Option (Int32 × ez_H)) (a : ez_H × Int32) => k a.1 h0 x1 a.2) (fun a => tp p a.1 ∧ 0 ≤ a.2.toInt ∧ a.2.toInt ≤ 91) (fun a => (2147483647 - a.2.toInt).toNat) ?_ (σ, 0) ⟨hT, i00, i0n (by decide)⟩ (tq_m0 _)
  rintro k ⟨s, x⟩ ⟨hs, h1, h2⟩ hk
  have hs : tp p s := hs
  have h1 : 0 ≤ x.toInt := h1
  show tz_O _ (z_X12_back_22 k s h0 x1 x)
  unfold z_X12_back_22
  refine tz_if _ (fun _ => ?_) (fun c => ?_)
  · refine tz_bd (tw_12_60 hs k_h0 ⟨by decide, by decide⟩) (fun s2 hs2 => ?_)
    refine tz_bd (tw_12_61 hs2 k_h0 ⟨by decide, by decide⟩) (fun s2 hs2 => ?_)
    refine tz_bd (tz_X12_keysBy hs2 k_h0 ⟨by decide, by decide⟩) (fun t52 _ => ?_)
    refine tz_bd (tz_X12_bitsOf hs2) (fun t55 _ => ?_)
    exact tz_some ⟨tq_top _, hs2⟩
  have c := nle_c c
  have e91 := c91
  refine tz_bk (tr_53 hs k_h0) ?_
  refine tz_bk (tr_68 hs k_h0) ?_
  refine tz_let (fun t18 e18 => tz_let (fun t20 e20 => ?_))
  have h20 := tq_91 e18 e20 ix h1 (by omega)
  refine tz_bd (rd_215 (k := x.toInt.toNat) hs (by omega) (by omega) (by omega)) (fun w hw => ?_)
  refine tz_bd (wr_205 hs h1 (by omega) hw) (fun s2 hs2 => ?_)
  refine tz_let (fun t e => ?_)
  have ht := tq_inc e h1 (by omega)
  exact hk (s2, t) ⟨hs2, by show 0 ≤ t.toInt; omega, by show t.toInt ≤ 91; omega⟩ (by show (2147483647 - t.toInt).toNat < (2147483647 - x.toInt).toNat; omega)
set_option maxRecDepth 4000 in
theorem tz_X12_keysOf {p : tz_P} {σ : ez_H} {h0 : Nat} {x1 : Int32} (hT : tp p σ) (k_h0 : tz_C h0 = some (3, 12, 0, 0)) (i_x1 : tq_iv 0 3 x1) : tz_O (fun z => tq_iv (-2147483648) 2147483647 z) (z_X12_keysOf σ h0 x1) := by
  unfold z_X12_keysOf
  refine tz_bd (tz_ob hT k_h0) (fun _ _ => ?_)
  refine tz_bd (tz_X12_keysBy hT k_h0 (tq_w i_x1 (by decide) (by decide))) (fun t_2 i_t_2 => ?_)
  exact tz_some (tq_top t_2)
set_option maxRecDepth 4000 in
theorem tz_X12_cutOf {p : tz_P} {σ : ez_H} {h0 : Nat} {x1 : Int32} {x2 : Int32} (hT : tp p σ) (k_h0 : tz_C h0 = some (3, 12, 0, 0)) (i_x1 : tq_iv 0 7 x1) (i_x2 : tq_iv 0 4 x2) : tz_O (fun z => tq_iv (-2147483648) 2147483647 z) (z_X12_cutOf σ h0 x1 x2) := by
  unfold z_X12_cutOf
  refine tz_bd (tz_ob hT k_h0) (fun _ _ => ?_)
  refine tz_bk (tr_53 hT k_h0) ?_
  refine tz_let (fun t_7 e6449 => ?_)
  have i1_t_7 : tq_iv 0 35 t_7 := tq_w (tq_mul e6449 tk_5 i_x1 (by decide) (by decide) (by decide)) (by decide) (by decide)
  refine tz_let (fun t_8 e6448 => ?_)
  have i2_t_8 : tq_iv 0 35 t_8 := tq_w (tq_add e6448 tk_0 i1_t_7 (by decide) (by decide)) (by decide) (by decide)
  refine tz_let (fun t_10 e6447 => ?_)
  have i3_t_10 : tq_iv 0 39 t_10 := tq_w (tq_add e6447 i2_t_8 i_x2 (by decide) (by decide)) (by decide) (by decide)
  refine tz_be (tz_iaS hT tc_205 (ts_205 (p := p) 0 39 (-2147483648) 2147483647 (by decide)) i3_t_10 (by decide) (by decide)) (fun t_11 e6446 i_t_11 => ?_)
  exact tz_some (tq_top t_11)
set_option maxRecDepth 4000 in
theorem tz_X12_numberOf {p : tz_P} {σ : ez_H} {h0 : Nat} {x1 : Int32} (hT : tp p σ) (k_h0 : tz_C h0 = some (3, 12, 0, 0)) (i_x1 : tq_iv 0 7 x1) : tz_O (fun z => tq_iv (-2147483648) 2147483647 z) (z_X12_numberOf σ h0 x1) := by
  unfold z_X12_numberOf
  refine tz_bd (tz_ob hT k_h0) (fun _ _ => ?_)
  have L_4 : ∀ (n_4 : Nat) (k_4 : Nat → Int32 → Int32 → Int32 → Option (Int32)), (∀ (x2_4 : Int32) (x3_4 : Int32), tq_iv 0 5 x3_4 → (2147483647 - x3_4.toInt).toNat < n_4 → tz_O (fun (z : Int32) => tq_iv (-2147483648) 2147483647 z) (k_4 h0 x1 x2_4 x3_4)) → ∀ (x2_4 : Int32) (x3_4 : Int32), tq_iv 0 5 x3_4 → (2147483647 - x3_4.toInt).toNat < n_4 + 1 → tz_O (fun (z : Int32) => tq_iv (-2147483648) 2147483647 z) (z_X12_numberOf_4 σ k_4 h0 x1 x2_4 x3_4) := by
    intro n_4 k_4 hk_4 x2_4 x3_4 i_x3_4 hn_4
    unfold z_X12_numberOf_4
    refine tz_bd (tz_X12_wide hT k_h0) (fun t_6 i_t_6 => ?_)
    refine tz_if _ (fun c6459 => ?_) (fun c6459 => ?_)
    ·
      have i1_x3_4 : tq_iv 2 5 x3_4 := tq_cut i_x3_4 (tq_leR c6459 i_t_6 i_x3_4) (by decide) (by decide)
      exact tz_some (tq_top x2_4)
    ·
      have i2_x3_4 : tq_iv 0 4 x3_4 := tq_cut i_x3_4 (tq_ltL (tq_nle c6459) i_x3_4 i_t_6) (by decide) (by decide)
      refine tz_bd (tz_X12_deep hT k_h0) (fun t_13 i_t_13 => ?_)
      refine tz_let (fun t_17 e6457 => ?_)
      refine tz_bd (tz_X12_cutOf hT k_h0 i_x1 i2_x3_4) (fun t_21 i_t_21 => ?_)
      refine tz_let (fun t_24 e6455 => ?_)
      refine tz_let (fun t_26 e6454 => ?_)
      have i3_t_26 : tq_iv 1 5 t_26 := tq_w (tq_add e6454 i2_x3_4 tk_1 (by decide) (by decide)) (by decide) (by decide)
      exact hk_4 t_24 t_26 (tq_w i3_t_26 (by decide) (by decide)) (tq_up e6454 i2_x3_4 tk_1 (by decide) (by decide) hn_4)
  have E_4 : ∀ (x2_4 : Int32) (x3_4 : Int32), tq_iv 0 5 x3_4 → tz_O (fun (z : Int32) => tq_iv (-2147483648) 2147483647 z) (ez_fix (fun _ _ _ _ => none) (z_X12_numberOf_4 σ) ez_N h0 x1 x2_4 x3_4) := by
    intro x2_4 x3_4 i_x3_4
    exact ez_fix_indn (fun n_4 (k_4 : Nat → Int32 → Int32 → Int32 → Option (Int32)) => ∀ (x2_4 : Int32) (x3_4 : Int32), tq_iv 0 5 x3_4 → (2147483647 - x3_4.toInt).toNat < n_4 → tz_O (fun (z : Int32) => tq_iv (-2147483648) 2147483647 z) (k_4 h0 x1 x2_4 x3_4)) (by intros; rename_i h; exact absurd h (Nat.not_lt_zero _)) L_4 ez_N x2_4 x3_4 i_x3_4 (tq_m0 x3_4)
  exact E_4 (0 : Int32) (0 : Int32) (tq_w tk_0 (by decide) (by decide))
set_option maxRecDepth 4000 in
theorem tz_X12_partsOf {p : tz_P} {σ : ez_H} {h0 : Nat} {x1 : Int32} {x2 : Int32} (hT : tp p σ) (k_h0 : tz_C h0 = some (3, 12, 0, 0)) (i_x1 : tq_iv 0 5 x1) (i_x2 : tq_iv 0 4 x2) : tz_O (fun z => tq_iv (-2147483648) 2147483647 z) (z_X12_partsOf σ h0 x1 x2) := by
  unfold z_X12_partsOf
  refine tz_bd (tz_ob hT k_h0) (fun _ _ => ?_)
  refine tz_bk (tr_53 hT k_h0) ?_
  refine tz_let (fun t_8 e6467 => ?_)
  have i1_t_8 : tq_iv 0 25 t_8 := tq_w (tq_mul e6467 tk_5 i_x1 (by decide) (by decide) (by decide)) (by decide) (by decide)
  refine tz_let (fun t_9 e6466 => ?_)
  have i2_t_9 : tq_iv 56 81 t_9 := tq_w (tq_add e6466 tk_56 i1_t_8 (by decide) (by decide)) (by decide) (by decide)
  refine tz_let (fun t_11 e6465 => ?_)
  have i3_t_11 : tq_iv 56 85 t_11 := tq_w (tq_add e6465 i2_t_9 i_x2 (by decide) (by decide)) (by decide) (by decide)
  refine tz_be (tz_iaS hT tc_205 (ts_205 (p := p) 56 85 (-2147483648) 2147483647 (by decide)) i3_t_11 (by decide) (by decide)) (fun t_12 e6464 i_t_12 => ?_)
  exact tz_some (tq_top t_12)
set_option maxRecDepth 4000 in
theorem tz_X12_doesOpen {p : tz_P} {σ : ez_H} {h0 : Nat} {x1 : Int32} {x2 : Int32} (hT : tp p σ) (k_h0 : tz_C h0 = some (3, 12, 0, 0)) (i_x2 : tq_iv 0 5 x2) : tz_O (fun z => tq_iv 0 1 z) (z_X12_doesOpen σ h0 x1 x2) := by
  unfold z_X12_doesOpen
  refine tz_bd (tz_ob hT k_h0) (fun _ _ => ?_)
  refine tz_bd (tz_X12_wide hT k_h0) (fun t_3 i_t_3 => ?_)
  refine tz_let (fun t_7 e6485 => ?_)
  have i1_t_7 : tq_iv 1 4 t_7 := tq_w (tq_sub e6485 i_t_3 tk_1 (by decide) (by decide)) (by decide) (by decide)
  have L_10 : ∀ (n_10 : Nat) (k_10 : Nat → Int32 → Int32 → Int32 → Option (Int32)), (∀ (x3_10 : Int32) (x4_10 : Int32), tq_iv (-1) 4 x4_10 → (x4_10.toInt + 2147483648).toNat < n_10 → tz_O (fun (z : Int32) => tq_iv 0 1 z) (k_10 h0 x2 x3_10 x4_10)) → ∀ (x3_10 : Int32) (x4_10 : Int32), tq_iv (-1) 4 x4_10 → (x4_10.toInt + 2147483648).toNat < n_10 + 1 → tz_O (fun (z : Int32) => tq_iv 0 1 z) (z_X12_doesOpen_10 σ k_10 h0 x2 x3_10 x4_10) := by
    intro n_10 k_10 hk_10 x3_10 x4_10 i_x4_10 hn_10
    unfold z_X12_doesOpen_10
    refine tz_if _ (fun c6483 => ?_) (fun c6483 => ?_)
    ·
      have i2_x4_10 : tq_iv (-1) (-1) x4_10 := tq_cut i_x4_10 (tq_ltL c6483 i_x4_10 tk_0) (by decide) (by decide)
      exact tz_some (tq_w tk_1 (by decide) (by decide))
    ·
      have i3_x4_10 : tq_iv 0 4 x4_10 := tq_cut i_x4_10 (tq_leR (tq_nlt c6483) tk_0 i_x4_10) (by decide) (by decide)
      refine tz_bd (tz_X12_partsOf hT k_h0 i_x2 i3_x4_10) (fun t_19 i_t_19 => ?_)
      refine tz_bd (tz_X12_deep hT k_h0) (fun t_24 i_t_24 => ?_)
      refine tz_nz (tq_nz i_t_24 (by decide)) ?_
      refine tz_let (fun t_27 e6479 => ?_)
      have i4_t_27 : tq_iv (-5) 5 t_27 := tq_remS e6479 i_t_24 (by decide)
      refine tz_bd (tz_X12_bit hT) (fun t_28 i_t_28 => ?_)
      refine tz_if _ (fun c6477 => ?_) (fun c6477 => ?_)
      ·
        have i5_t_28 : tq_iv 0 0 t_28 := tq_cut i_t_28 (tq_eqL c6477 tk_0) (by decide) (by decide)
        exact tz_some (tq_w tk_0 (by decide) (by decide))
      ·
        have i6_t_28 : tq_iv 1 1 t_28 := tq_w (tq_neLo c6477 i_t_28 tk_0) (by decide) (by decide)
        refine tz_bd (tz_X12_deep hT k_h0) (fun t_38 i_t_38 => ?_)
        refine tz_nz (tq_nz i_t_38 (by decide)) ?_
        refine tz_let (fun t_41 e6474 => ?_)
        refine tz_let (fun t_43 e6473 => ?_)
        have i7_t_43 : tq_iv (-1) 3 t_43 := tq_w (tq_add e6473 i3_x4_10 tk_m1 (by decide) (by decide)) (by decide) (by decide)
        exact hk_10 t_41 t_43 (tq_w i7_t_43 (by decide) (by decide)) (tq_down e6473 i3_x4_10 tk_m1 (by decide) (by decide) hn_10)
  have E_10 : ∀ (x3_10 : Int32) (x4_10 : Int32), tq_iv (-1) 4 x4_10 → tz_O (fun (z : Int32) => tq_iv 0 1 z) (ez_fix (fun _ _ _ _ => none) (z_X12_doesOpen_10 σ) ez_N h0 x2 x3_10 x4_10) := by
    intro x3_10 x4_10 i_x4_10
    exact ez_fix_indn (fun n_10 (k_10 : Nat → Int32 → Int32 → Int32 → Option (Int32)) => ∀ (x3_10 : Int32) (x4_10 : Int32), tq_iv (-1) 4 x4_10 → (x4_10.toInt + 2147483648).toNat < n_10 → tz_O (fun (z : Int32) => tq_iv 0 1 z) (k_10 h0 x2 x3_10 x4_10)) (by intros; rename_i h; exact absurd h (Nat.not_lt_zero _)) L_10 ez_N x3_10 x4_10 i_x4_10 (tq_m1 x4_10)
  exact E_10 x1 t_7 (tq_w i1_t_7 (by decide) (by decide))
set_option maxRecDepth 4000 in
theorem tz_X12_opensBy {p : tz_P} {σ : ez_H} {h0 : Nat} {x1 : Int32} {x2 : Int32} (hT : tp p σ) (k_h0 : tz_C h0 = some (3, 12, 0, 0)) (i_x1 : tq_iv 0 7 x1) (i_x2 : tq_iv 0 5 x2) : tz_O (fun z => tq_iv 0 1 z) (z_X12_opensBy σ h0 x1 x2) := by
  unfold z_X12_opensBy
  refine tz_bd (tz_ob hT k_h0) (fun _ _ => ?_)
  refine tz_bd (tz_X12_numberOf hT k_h0 i_x1) (fun t_3 i_t_3 => ?_)
  refine tz_bd (tz_X12_doesOpen hT k_h0 i_x2) (fun t_7 i_t_7 => ?_)
  refine tz_nr (tq_nr_boolean i_t_7) ?_
  exact tz_some i_t_7
set_option maxRecDepth 4000 in
theorem tz_X12_openedWith {p : tz_P} {σ : ez_H} {h0 : Nat} {x1 : Int32} {x2 : Int32} (hT : tp p σ) (k_h0 : tz_C h0 = some (3, 12, 0, 0)) (i_x1 : tq_iv 0 5 x1) : tz_O (fun z => tq_iv 0 1 z) (z_X12_openedWith σ h0 x1 x2) := by
  unfold z_X12_openedWith
  refine tz_bd (tz_ob hT k_h0) (fun _ _ => ?_)
  have L_2 : ∀ (n_2 : Nat) (k_2 : Nat → Int32 → Int32 → Int32 → Option (Int32)), (∀ (x3_2 : Int32), tq_iv 0 8 x3_2 → (2147483647 - x3_2.toInt).toNat < n_2 → tz_O (fun (z : Int32) => tq_iv 0 1 z) (k_2 h0 x1 x2 x3_2)) → ∀ (x3_2 : Int32), tq_iv 0 8 x3_2 → (2147483647 - x3_2.toInt).toNat < n_2 + 1 → tz_O (fun (z : Int32) => tq_iv 0 1 z) (z_X12_openedWith_2 σ k_2 h0 x1 x2 x3_2) := by
    intro n_2 k_2 hk_2 x3_2 i_x3_2 hn_2
    unfold z_X12_openedWith_2
    refine tz_bd (tz_X12_many hT k_h0) (fun t_4 i_t_4 => ?_)
    refine tz_if _ (fun c6503 => ?_) (fun c6503 => ?_)
    ·
      exact tz_some (tq_w tk_0 (by decide) (by decide))
    ·
      have i1_x3_2 : tq_iv 0 7 x3_2 := tq_cut i_x3_2 (tq_ltL (tq_nle c6503) i_x3_2 i_t_4) (by decide) (by decide)
      have i2_t_4 : tq_iv 1 8 t_4 := tq_cut i_t_4 (tq_ltR (tq_nle c6503) i_x3_2 i_t_4) (by decide) (by decide)
      refine tz_bd (tz_X12_bit hT) (fun t_12 i_t_12 => ?_)
      have K_29 : tz_O (fun (z : Int32) => tq_iv 0 1 z) (z_X12_openedWith_29 σ k_2 h0 x1 x2 x3_2) := by
        unfold z_X12_openedWith_29
        refine tz_let (fun t_29 e6494 => ?_)
        have i3_t_29 : tq_iv 1 8 t_29 := tq_w (tq_add e6494 i1_x3_2 tk_1 (by decide) (by decide)) (by decide) (by decide)
        exact hk_2 t_29 (tq_w i3_t_29 (by decide) (by decide)) (tq_up e6494 i1_x3_2 tk_1 (by decide) (by decide) hn_2)
      refine tz_if _ (fun c6501 => ?_) (fun c6501 => ?_)
      ·
        have i4_t_12 : tq_iv 0 0 t_12 := tq_cut i_t_12 (tq_eqL c6501 tk_0) (by decide) (by decide)
        exact K_29 
      ·
        have i5_t_12 : tq_iv 1 1 t_12 := tq_w (tq_neLo c6501 i_t_12 tk_0) (by decide) (by decide)
        refine tz_bd (tz_X12_opensBy hT k_h0 i1_x3_2 i_x1) (fun t_21 i_t_21 => ?_)
        refine tz_if _ (fun c6499 => ?_) (fun c6499 => ?_)
        ·
          have i6_t_21 : tq_iv 0 0 t_21 := tq_cut i_t_21 (tq_eqL c6499 tk_0) (by decide) (by decide)
          exact K_29 
        ·
          have i7_t_21 : tq_iv 1 1 t_21 := tq_w (tq_neLo c6499 i_t_21 tk_0) (by decide) (by decide)
          exact tz_some (tq_w tk_1 (by decide) (by decide))
  have E_2 : ∀ (x3_2 : Int32), tq_iv 0 8 x3_2 → tz_O (fun (z : Int32) => tq_iv 0 1 z) (ez_fix (fun _ _ _ _ => none) (z_X12_openedWith_2 σ) ez_N h0 x1 x2 x3_2) := by
    intro x3_2 i_x3_2
    exact ez_fix_indn (fun n_2 (k_2 : Nat → Int32 → Int32 → Int32 → Option (Int32)) => ∀ (x3_2 : Int32), tq_iv 0 8 x3_2 → (2147483647 - x3_2.toInt).toNat < n_2 → tz_O (fun (z : Int32) => tq_iv 0 1 z) (k_2 h0 x1 x2 x3_2)) (by intros; rename_i h; exact absurd h (Nat.not_lt_zero _)) L_2 ez_N x3_2 i_x3_2 (tq_m0 x3_2)
  exact E_2 (0 : Int32) (tq_w tk_0 (by decide) (by decide))
set_option maxRecDepth 4000 in
theorem tz_X12_locksWith {p : tz_P} {σ : ez_H} {h0 : Nat} {x1 : Int32} (hT : tp p σ) (k_h0 : tz_C h0 = some (3, 12, 0, 0)) : tz_O (fun z => tq_iv 0 63 z) (z_X12_locksWith σ h0 x1) := by
  unfold z_X12_locksWith
  refine tz_bd (tz_ob hT k_h0) (fun _ _ => ?_)
  have L_4 : ∀ (n_4 : Nat) (k_4 : Nat → Int32 → Int32 → Int32 → Option (Int32)), (∀ (x2_4 : Int32) (x3_4 : Int32), tq_iv 0 63 x2_4 → tq_iv 0 6 x3_4 → (2147483647 - x3_4.toInt).toNat < n_4 → tz_O (fun (z : Int32) => tq_iv 0 63 z) (k_4 h0 x1 x2_4 x3_4)) → ∀ (x2_4 : Int32) (x3_4 : Int32), tq_iv 0 63 x2_4 → tq_iv 0 6 x3_4 → (2147483647 - x3_4.toInt).toNat < n_4 + 1 → tz_O (fun (z : Int32) => tq_iv 0 63 z) (z_X12_locksWith_4 σ k_4 h0 x1 x2_4 x3_4) := by
    intro n_4 k_4 hk_4 x2_4 x3_4 i_x2_4 i_x3_4 hn_4
    unfold z_X12_locksWith_4
    refine tz_bd (tz_X12_bolts hT k_h0) (fun t_6 i_t_6 => ?_)
    refine tz_if _ (fun c6516 => ?_) (fun c6516 => ?_)
    ·
      exact tz_some i_x2_4
    ·
      have i1_x3_4 : tq_iv 0 5 x3_4 := tq_cut i_x3_4 (tq_ltL (tq_nle c6516) i_x3_4 i_t_6) (by decide) (by decide)
      have i2_t_6 : tq_iv 1 6 t_6 := tq_cut i_t_6 (tq_ltR (tq_nle c6516) i_x3_4 i_t_6) (by decide) (by decide)
      refine tz_bd (tz_X12_openedWith hT k_h0 i1_x3_4) (fun t_15 i_t_15 => ?_)
      have K_27 : ∀ (x2_27 : Int32), tq_iv 0 63 x2_27 → tz_O (fun (z : Int32) => tq_iv 0 63 z) (z_X12_locksWith_27 σ k_4 h0 x1 x2_27 x3_4) := by
        intro x2_27 i_x2_27
        unfold z_X12_locksWith_27
        refine tz_let (fun t_27 e6508 => ?_)
        have i3_t_27 : tq_iv 1 6 t_27 := tq_w (tq_add e6508 i1_x3_4 tk_1 (by decide) (by decide)) (by decide) (by decide)
        exact hk_4 x2_27 t_27 i_x2_27 (tq_w i3_t_27 (by decide) (by decide)) (tq_up e6508 i1_x3_4 tk_1 (by decide) (by decide) hn_4)
      refine tz_if _ (fun c6514 => ?_) (fun c6514 => ?_)
      ·
        have i4_t_15 : tq_iv 0 0 t_15 := tq_cut i_t_15 (tq_eqL c6514 tk_0) (by decide) (by decide)
        exact K_27 x2_4 i_x2_4
      ·
        have i5_t_15 : tq_iv 1 1 t_15 := tq_w (tq_neLo c6514 i_t_15 tk_0) (by decide) (by decide)
        refine tz_let (fun t_24 e6513 => ?_)
        have i6_t_24 : tq_iv 1 32 t_24 := tq_shl1 e6513 i1_x3_4 (by decide) (by decide) (by decide) (by decide)
        refine tz_let (fun t_25 e6512 => ?_)
        have i7_t_25 : tq_iv 0 63 t_25 := tq_or e6512 i_x2_4 i6_t_24 6 (by decide) (by decide) (by decide) (by decide) (by decide)
        exact K_27 t_25 i7_t_25
  have E_4 : ∀ (x2_4 : Int32) (x3_4 : Int32), tq_iv 0 63 x2_4 → tq_iv 0 6 x3_4 → tz_O (fun (z : Int32) => tq_iv 0 63 z) (ez_fix (fun _ _ _ _ => none) (z_X12_locksWith_4 σ) ez_N h0 x1 x2_4 x3_4) := by
    intro x2_4 x3_4 i_x2_4 i_x3_4
    exact ez_fix_indn (fun n_4 (k_4 : Nat → Int32 → Int32 → Int32 → Option (Int32)) => ∀ (x2_4 : Int32) (x3_4 : Int32), tq_iv 0 63 x2_4 → tq_iv 0 6 x3_4 → (2147483647 - x3_4.toInt).toNat < n_4 → tz_O (fun (z : Int32) => tq_iv 0 63 z) (k_4 h0 x1 x2_4 x3_4)) (by intros; rename_i h; exact absurd h (Nat.not_lt_zero _)) L_4 ez_N x2_4 x3_4 i_x2_4 i_x3_4 (tq_m0 x3_4)
  exact E_4 (0 : Int32) (0 : Int32) (tq_w tk_0 (by decide) (by decide)) (tq_w tk_0 (by decide) (by decide))
set_option maxRecDepth 4000 in
theorem tz_X12_reachBy {p : tz_P} {σ : ez_H} {h0 : Nat} {x1 : Int32} {x2 : Int32} (hT : tp p σ) (k_h0 : tz_C h0 = some (3, 12, 0, 0)) (i_x1 : tq_iv 0 5 x1) : tz_O (fun z => tq_iv 0 63 z) (z_X12_reachBy σ h0 x1 x2) := by
  unfold z_X12_reachBy
  refine tz_bd (tz_ob hT k_h0) (fun _ _ => ?_)
  refine tz_bd (tz_X12_locksWith hT k_h0) (fun t_2 i_t_2 => ?_)
  refine tz_let (fun t_8 e6554 => ?_)
  have i1_t_8 : tq_iv 1 32 t_8 := tq_shl1 e6554 i_x1 (by decide) (by decide) (by decide) (by decide)
  have L_14 : ∀ (n_14 : Nat) (k_14 : Nat → Int32 → Int32 → Int32 → Option (Int32)), (∀ (x4_14 : Int32) (x5_14 : Int32), tq_iv 0 63 x4_14 → tq_iv 0 6 x5_14 → (2147483647 - x5_14.toInt).toNat < n_14 → tz_O (fun (z : Int32) => tq_iv 0 63 z) (k_14 h0 t_2 x4_14 x5_14)) → ∀ (x4_14 : Int32) (x5_14 : Int32), tq_iv 0 63 x4_14 → tq_iv 0 6 x5_14 → (2147483647 - x5_14.toInt).toNat < n_14 + 1 → tz_O (fun (z : Int32) => tq_iv 0 63 z) (z_X12_reachBy_14 σ k_14 h0 t_2 x4_14 x5_14) := by
    intro n_14 k_14 hk_14 x4_14 x5_14 i_x4_14 i_x5_14 hn_14
    unfold z_X12_reachBy_14
    refine tz_if _ (fun c6552 => ?_) (fun c6552 => ?_)
    ·
      have i2_x5_14 : tq_iv 6 6 x5_14 := tq_cut i_x5_14 (tq_leR c6552 tk_6 i_x5_14) (by decide) (by decide)
      exact tz_some i_x4_14
    ·
      have i3_x5_14 : tq_iv 0 5 x5_14 := tq_cut i_x5_14 (tq_ltL (tq_nle c6552) i_x5_14 tk_6) (by decide) (by decide)
      refine tz_be (tg_12_43 hT k_h0) (fun t_24 e6551 i_t_24 => ?_)
      refine tz_let (fun t_27 e6550 => ?_)
      have i4_t_27 : tq_iv 0 8 t_27 := tq_w (tq_mul e6550 tk_8 i_t_24 (by decide) (by decide) (by decide)) (by decide) (by decide)
      have L_30 : ∀ (n_30 : Nat) (k_30 : Nat → Int32 → Int32 → Int32 → Int32 → Option (Int32)), (∀ (x4_30 : Int32) (x6_30 : Int32), tq_iv 0 63 x4_30 → tq_iv 0 16 x6_30 → (2147483647 - x6_30.toInt).toNat < n_30 → tz_O (fun (z : Int32) => tq_iv 0 63 z) (k_30 h0 t_2 x4_30 x5_14 x6_30)) → ∀ (x4_30 : Int32) (x6_30 : Int32), tq_iv 0 63 x4_30 → tq_iv 0 16 x6_30 → (2147483647 - x6_30.toInt).toNat < n_30 + 1 → tz_O (fun (z : Int32) => tq_iv 0 63 z) (z_X12_reachBy_30 σ k_14 k_30 h0 t_2 x4_30 x5_14 x6_30) := by
        intro n_30 k_30 hk_30 x4_30 x6_30 i_x4_30 i_x6_30 hn_30
        unfold z_X12_reachBy_30
        refine tz_ba e6551 (fun t_35 e6547 a6547 => ?_)
        have i5_t_35 : tq_iv 0 1 t_35 := tq_eqL a6547 i_t_24
        refine tz_let (fun t_38 e6546 => ?_)
        have i6_t_38 : tq_iv 0 8 t_38 := tq_w (tq_mul e6546 tk_8 i5_t_35 (by decide) (by decide) (by decide)) (by decide) (by decide)
        refine tz_bk (tr_17 hT k_h0) ?_
        refine tz_ba e6551 (fun t_44 e6544 a6544 => ?_)
        have i7_t_44 : tq_iv 0 1 t_44 := tq_eqL a6544 i_t_24
        refine tz_be (tz_ia hT tc_179 (te_179 (p := p)) i7_t_44 (by decide) (by decide)) (fun t_47 e6543 i_t_47 => ?_)
        refine tz_let (fun t_48 e6542 => ?_)
        have i8_t_48 : tq_iv 0 16 t_48 := tq_w (tq_add e6542 i6_t_38 i_t_47 (by decide) (by decide)) (by decide) (by decide)
        refine tz_if _ (fun c6541 => ?_) (fun c6541 => ?_)
        ·
          refine tz_let (fun t_108 e6523 => ?_)
          have i9_t_108 : tq_iv 1 6 t_108 := tq_w (tq_add e6523 i3_x5_14 tk_1 (by decide) (by decide)) (by decide) (by decide)
          exact hk_14 x4_30 t_108 i_x4_30 (tq_w i9_t_108 (by decide) (by decide)) (tq_up e6523 i3_x5_14 tk_1 (by decide) (by decide) hn_14)
        ·
          have i10_x6_30 : tq_iv 0 15 x6_30 := tq_cut i_x6_30 (tq_ltL (tq_nle c6541) i_x6_30 i8_t_48) (by decide) (by decide)
          have i11_t_48 : tq_iv 1 16 t_48 := tq_cut i8_t_48 (tq_ltR (tq_nle c6541) i_x6_30 i8_t_48) (by decide) (by decide)
          refine tz_bk (tr_24 hT k_h0) ?_
          refine tz_be (tz_ia hT tc_186 (te_186 (p := p)) i10_x6_30 (by decide) (by decide)) (fun t_59 e6539 i_t_59 => ?_)
          refine tz_let (fun t_60 e6538 => ?_)
          have i12_t_60 : tq_iv 1 32 t_60 := tq_shl1 e6538 i_t_59 (by decide) (by decide) (by decide) (by decide)
          refine tz_bk (tr_25 hT k_h0) ?_
          refine tz_be (tz_ia hT tc_187 (te_187 (p := p)) i10_x6_30 (by decide) (by decide)) (fun t_68 e6536 i_t_68 => ?_)
          refine tz_let (fun t_69 e6535 => ?_)
          have i13_t_69 : tq_iv 1 32 t_69 := tq_shl1 e6535 i_t_68 (by decide) (by decide) (by decide) (by decide)
          refine tz_let (fun t_70 e6534 => ?_)
          have i14_t_70 : tq_iv 0 63 t_70 := tq_or e6534 i12_t_60 i13_t_69 6 (by decide) (by decide) (by decide) (by decide) (by decide)
          refine tz_bk (tr_26 hT k_h0) ?_
          refine tz_be (tz_ia hT tc_188 (te_188 (p := p)) i10_x6_30 (by decide) (by decide)) (fun t_80 e6532 i_t_80 => ?_)
          refine tz_bd (tz_X12_bit hT) (fun t_81 i_t_81 => ?_)
          have K_102 : ∀ (x4_102 : Int32), tq_iv 0 63 x4_102 → tz_O (fun (z : Int32) => tq_iv 0 63 z) (z_X12_reachBy_102 σ k_14 k_30 h0 t_2 x4_102 x5_14 x6_30) := by
            intro x4_102 i_x4_102
            unfold z_X12_reachBy_102
            refine tz_let (fun t_102 e6521 => ?_)
            have i15_t_102 : tq_iv 1 16 t_102 := tq_w (tq_add e6521 i10_x6_30 tk_1 (by decide) (by decide)) (by decide) (by decide)
            exact hk_30 x4_102 t_102 i_x4_102 (tq_w i15_t_102 (by decide) (by decide)) (tq_up e6521 i10_x6_30 tk_1 (by decide) (by decide) hn_30)
          refine tz_if _ (fun c6530 => ?_) (fun c6530 => ?_)
          ·
            have i16_t_81 : tq_iv 0 0 t_81 := tq_cut i_t_81 (tq_eqL c6530 tk_0) (by decide) (by decide)
            exact K_102 x4_30 i_x4_30
          ·
            have i17_t_81 : tq_iv 1 1 t_81 := tq_w (tq_neLo c6530 i_t_81 tk_0) (by decide) (by decide)
            refine tz_let (fun t_91 e6529 => ?_)
            have i18_t_91 : tq_iv 0 63 t_91 := tq_and1 e6529 i_x4_30 (by decide)
            refine tz_if _ (fun c6528 => ?_) (fun c6528 => ?_)
            ·
              have i19_t_91 : tq_iv 0 0 t_91 := tq_cut i18_t_91 (tq_eqL c6528 tk_0) (by decide) (by decide)
              exact K_102 x4_30 i_x4_30
            ·
              have i20_t_91 : tq_iv 1 63 t_91 := tq_w (tq_neLo c6528 i18_t_91 tk_0) (by decide) (by decide)
              refine tz_let (fun t_99 e6527 => ?_)
              have i21_t_99 : tq_iv 0 63 t_99 := tq_or e6527 i_x4_30 i14_t_70 6 (by decide) (by decide) (by decide) (by decide) (by decide)
              exact K_102 t_99 i21_t_99
      have E_30 : ∀ (x4_30 : Int32) (x6_30 : Int32), tq_iv 0 63 x4_30 → tq_iv 0 16 x6_30 → tz_O (fun (z : Int32) => tq_iv 0 63 z) (ez_fix (fun _ _ _ _ _ => none) (z_X12_reachBy_30 σ k_14) ez_N h0 t_2 x4_30 x5_14 x6_30) := by
        intro x4_30 x6_30 i_x4_30 i_x6_30
        exact ez_fix_indn (fun n_30 (k_30 : Nat → Int32 → Int32 → Int32 → Int32 → Option (Int32)) => ∀ (x4_30 : Int32) (x6_30 : Int32), tq_iv 0 63 x4_30 → tq_iv 0 16 x6_30 → (2147483647 - x6_30.toInt).toNat < n_30 → tz_O (fun (z : Int32) => tq_iv 0 63 z) (k_30 h0 t_2 x4_30 x5_14 x6_30)) (by intros; rename_i h; exact absurd h (Nat.not_lt_zero _)) L_30 ez_N x4_30 x6_30 i_x4_30 i_x6_30 (tq_m0 x6_30)
      exact E_30 x4_14 t_27 i_x4_14 (tq_w i4_t_27 (by decide) (by decide))
  have E_14 : ∀ (x4_14 : Int32) (x5_14 : Int32), tq_iv 0 63 x4_14 → tq_iv 0 6 x5_14 → tz_O (fun (z : Int32) => tq_iv 0 63 z) (ez_fix (fun _ _ _ _ => none) (z_X12_reachBy_14 σ) ez_N h0 t_2 x4_14 x5_14) := by
    intro x4_14 x5_14 i_x4_14 i_x5_14
    exact ez_fix_indn (fun n_14 (k_14 : Nat → Int32 → Int32 → Int32 → Option (Int32)) => ∀ (x4_14 : Int32) (x5_14 : Int32), tq_iv 0 63 x4_14 → tq_iv 0 6 x5_14 → (2147483647 - x5_14.toInt).toNat < n_14 → tz_O (fun (z : Int32) => tq_iv 0 63 z) (k_14 h0 t_2 x4_14 x5_14)) (by intros; rename_i h; exact absurd h (Nat.not_lt_zero _)) L_14 ez_N x4_14 x5_14 i_x4_14 i_x5_14 (tq_m0 x5_14)
  exact E_14 t_8 (0 : Int32) (tq_w i1_t_8 (by decide) (by decide)) (tq_w tk_0 (by decide) (by decide))
set_option maxRecDepth 4000 in
theorem tz_X12_reachOf {p : tz_P} {σ : ez_H} {h0 : Nat} {x1 : Int32} (hT : tp p σ) (k_h0 : tz_C h0 = some (3, 12, 0, 0)) (i_x1 : tq_iv 0 3 x1) : tz_O (fun z => tq_iv 0 63 z) (z_X12_reachOf σ h0 x1) := by
  unfold z_X12_reachOf
  refine tz_bd (tz_ob hT k_h0) (fun _ _ => ?_)
  refine tz_bk (tr_53 hT k_h0) ?_
  refine tz_let (fun t_8 e6561 => ?_)
  have i1_t_8 : tq_iv 86 89 t_8 := tq_w (tq_add e6561 tk_86 i_x1 (by decide) (by decide)) (by decide) (by decide)
  refine tz_be (tz_iaS hT tc_205 (ts_205 (p := p) 86 89 0 5 (by decide)) i1_t_8 (by decide) (by decide)) (fun t_9 e6560 i_t_9 => ?_)
  refine tz_bd (tz_X12_keysOf hT k_h0 i_x1) (fun t_12 i_t_12 => ?_)
  refine tz_bd (tz_X12_reachBy hT k_h0 i_t_9) (fun t_15 i_t_15 => ?_)
  exact tz_some i_t_15
set_option maxRecDepth 4000 in
theorem tz_X12_barred {p : tz_P} {σ : ez_H} {h0 : Nat} (hT : tp p σ) (k_h0 : tz_C h0 = some (3, 12, 0, 0)) : tz_O (fun z => tq_iv 0 63 z) (z_X12_barred σ h0) := by
  unfold z_X12_barred
  refine tz_bd (tz_ob hT k_h0) (fun _ _ => ?_)
  refine tz_bk (tr_16 hT k_h0) ?_
  refine tz_be (tg_12_43 hT k_h0) (fun t_6 e6578 i_t_6 => ?_)
  refine tz_be (tz_ia hT tc_178 (te_178 (p := p)) i_t_6 (by decide) (by decide)) (fun t_9 e6577 i_t_9 => ?_)
  refine tz_let (fun t_10 e6576 => ?_)
  have i1_t_10 : tq_iv 1 64 t_10 := tq_shl1 e6576 i_t_9 (by decide) (by decide) (by decide) (by decide)
  refine tz_let (fun t_12 e6575 => ?_)
  have i2_t_12 : tq_iv 0 63 t_12 := tq_w (tq_sub e6575 i1_t_10 tk_1 (by decide) (by decide)) (by decide) (by decide)
  have L_16 : ∀ (n_16 : Nat) (k_16 : Nat → Int32 → Int32 → Option (Int32)), (∀ (x1_16 : Int32) (x2_16 : Int32), tq_iv 0 63 x1_16 → tq_iv 0 4 x2_16 → (2147483647 - x2_16.toInt).toNat < n_16 → tz_O (fun (z : Int32) => tq_iv 0 63 z) (k_16 h0 x1_16 x2_16)) → ∀ (x1_16 : Int32) (x2_16 : Int32), tq_iv 0 63 x1_16 → tq_iv 0 4 x2_16 → (2147483647 - x2_16.toInt).toNat < n_16 + 1 → tz_O (fun (z : Int32) => tq_iv 0 63 z) (z_X12_barred_16 σ k_16 h0 x1_16 x2_16) := by
    intro n_16 k_16 hk_16 x1_16 x2_16 i_x1_16 i_x2_16 hn_16
    unfold z_X12_barred_16
    refine tz_bk (tr_18 hT k_h0) ?_
    refine tz_ba e6578 (fun t_22 e6572 a6572 => ?_)
    have i3_t_22 : tq_iv 0 1 t_22 := tq_eqL a6572 i_t_6
    refine tz_be (tz_ia hT tc_180 (te_180 (p := p)) i3_t_22 (by decide) (by decide)) (fun t_25 e6571 i_t_25 => ?_)
    refine tz_if _ (fun c6570 => ?_) (fun c6570 => ?_)
    ·
      exact tz_some i_x1_16
    ·
      have i4_x2_16 : tq_iv 0 3 x2_16 := tq_cut i_x2_16 (tq_ltL (tq_nle c6570) i_x2_16 i_t_25) (by decide) (by decide)
      have i5_t_25 : tq_iv 1 4 t_25 := tq_cut i_t_25 (tq_ltR (tq_nle c6570) i_x2_16 i_t_25) (by decide) (by decide)
      refine tz_bd (tz_X12_reachOf hT k_h0 i4_x2_16) (fun t_32 i_t_32 => ?_)
      refine tz_let (fun t_36 e6568 => ?_)
      refine tz_let (fun t_37 e6567 => ?_)
      have i6_t_37 : tq_iv 0 63 t_37 := tq_and1 e6567 i_x1_16 (by decide)
      refine tz_let (fun t_39 e6566 => ?_)
      have i7_t_39 : tq_iv 1 4 t_39 := tq_w (tq_add e6566 i4_x2_16 tk_1 (by decide) (by decide)) (by decide) (by decide)
      exact hk_16 t_37 t_39 i6_t_37 (tq_w i7_t_39 (by decide) (by decide)) (tq_up e6566 i4_x2_16 tk_1 (by decide) (by decide) hn_16)
  have E_16 : ∀ (x1_16 : Int32) (x2_16 : Int32), tq_iv 0 63 x1_16 → tq_iv 0 4 x2_16 → tz_O (fun (z : Int32) => tq_iv 0 63 z) (ez_fix (fun _ _ _ => none) (z_X12_barred_16 σ) ez_N h0 x1_16 x2_16) := by
    intro x1_16 x2_16 i_x1_16 i_x2_16
    exact ez_fix_indn (fun n_16 (k_16 : Nat → Int32 → Int32 → Option (Int32)) => ∀ (x1_16 : Int32) (x2_16 : Int32), tq_iv 0 63 x1_16 → tq_iv 0 4 x2_16 → (2147483647 - x2_16.toInt).toNat < n_16 → tz_O (fun (z : Int32) => tq_iv 0 63 z) (k_16 h0 x1_16 x2_16)) (by intros; rename_i h; exact absurd h (Nat.not_lt_zero _)) L_16 ez_N x1_16 x2_16 i_x1_16 i_x2_16 (tq_m0 x2_16)
  exact E_16 t_12 (0 : Int32) i2_t_12 (tq_w tk_0 (by decide) (by decide))
