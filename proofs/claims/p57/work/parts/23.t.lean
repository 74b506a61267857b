set_option maxRecDepth 4000 in
theorem tz_X4_readTerm_k4 {p : tz_P} {σ : ez_H} {h0 : Nat} (hT : tp p σ) (k_h0 : tz_C h0 = some (3, 4, 0, 0)) : tz_O2 (fun (z : Int32) (s : ez_H) => tq_iv 0 1 z ∧ tp p s) (z_X4_readTerm_k4 σ h0) := by
  show tz_O (fun z : Int32 × ez_H => (fun (z : Int32) (s : ez_H) => tq_iv 0 1 z ∧ tp p s) z.1 z.2) _
  unfold z_X4_readTerm_k4
  refine tz_bd (tz_ob hT k_h0) (fun _ _ => ?_)
  refine tz_b2 (tz_X4_readUnit_k4 hT k_h0) (fun t_2 σ4175 ⟨i_t_2, T4175⟩ => ?_)
  have L_8 : ∀ (n_8 : Nat) (k_8 : ez_H → Nat → Int32 → Int32 → Option (Int32 × ez_H)), (∀ (σ_8 : ez_H) (x2_8 : Int32) (x3_8 : Int32), tp p σ_8 → tq_iv 0 1 x2_8 → tq_iv 0 1600 x3_8 → (2147483647 - x3_8.toInt).toNat < n_8 → tz_O (fun z : Int32 × ez_H => (fun (z : Int32) (s : ez_H) => tq_iv 0 1 z ∧ tp p s) z.1 z.2) (k_8 σ_8 h0 x2_8 x3_8)) → ∀ (σ_8 : ez_H) (x2_8 : Int32) (x3_8 : Int32), tp p σ_8 → tq_iv 0 1 x2_8 → tq_iv 0 1600 x3_8 → (2147483647 - x3_8.toInt).toNat < n_8 + 1 → tz_O (fun z : Int32 × ez_H => (fun (z : Int32) (s : ez_H) => tq_iv 0 1 z ∧ tp p s) z.1 z.2) (z_X4_readTerm_k4_8 k_8 σ_8 h0 x2_8 x3_8) := by
    intro n_8 k_8 hk_8 σ_8 x2_8 x3_8 T_σ_8 i_x2_8 i_x3_8 hn_8
    unfold z_X4_readTerm_k4_8
    have K_65 : tz_O (fun z : Int32 × ez_H => (fun (z : Int32) (s : ez_H) => tq_iv 0 1 z ∧ tp p s) z.1 z.2) (z_X4_readTerm_k4_65 σ_8 x2_8) := by
      unfold z_X4_readTerm_k4_65
      refine tz_nr (tq_nr_boolean i_x2_8) ?_
      exact tz_some ⟨i_x2_8, T_σ_8⟩
    refine tz_if _ (fun c4173 => ?_) (fun c4173 => ?_)
    ·
      have i1_x3_8 : tq_iv 1600 1600 x3_8 := tq_cut i_x3_8 (tq_leR c4173 tk_1600 i_x3_8) (by decide) (by decide)
      exact K_65 
    ·
      have i2_x3_8 : tq_iv 0 1599 x3_8 := tq_cut i_x3_8 (tq_ltL (tq_nle c4173) i_x3_8 tk_1600) (by decide) (by decide)
      refine tz_if _ (fun c4172 => ?_) (fun c4172 => ?_)
      ·
        have i3_x2_8 : tq_iv 0 0 x2_8 := tq_cut i_x2_8 (tq_eqL c4172 tk_0) (by decide) (by decide)
        exact K_65 
      ·
        have i4_x2_8 : tq_iv 1 1 x2_8 := tq_w (tq_neLo c4172 i_x2_8 tk_0) (by decide) (by decide)
        refine tz_bd (tz_X4_productHere T_σ_8 k_h0) (fun t_20 i_t_20 => ?_)
        refine tz_if _ (fun c4170 => ?_) (fun c4170 => ?_)
        ·
          have i5_t_20 : tq_iv (-1) (-1) t_20 := tq_cut i_t_20 (tq_eqL c4170 tk_m1) (by decide) (by decide)
          exact K_65 
        ·
          have i6_t_20 : tq_iv 0 15 t_20 := tq_w (tq_neLo c4170 i_t_20 tk_m1) (by decide) (by decide)
          refine tz_bd (tz_X4_productHere T_σ_8 k_h0) (fun t_28 i_t_28 => ?_)
          refine tz_be (tg_4_3 T_σ_8 k_h0) (fun t_34 e4168 k_t_34 => ?_)
          refine tz_b2 (tz_X9_advance T_σ_8 k_t_34) (fun _ σ4167 ⟨T4167, W4167⟩ => ?_)
          refine tz_b2 (tz_X4_readUnit_k4 T4167 k_h0) (fun t_42 σ4166 ⟨i_t_42, T4166⟩ => ?_)
          refine tz_be (tg_4_0 T4166 k_h0) (fun t_47 e4165 k_t_47 => ?_)
          refine tz_be (tg_3_1 T4166 k_t_47) (fun t_50 e4164 k_t_50 => ?_)
          refine tz_b2 (tz_X0_append T4166 k_t_50 i_t_28) (fun _ σ4163 T4163 => ?_)
          refine tz_let (fun t_59 e4162 => ?_)
          have i7_t_59 : tq_iv 1 1600 t_59 := tq_w (tq_add e4162 i2_x3_8 tk_1 (by decide) (by decide)) (by decide) (by decide)
          exact hk_8 σ4163 t_42 t_59 T4163 i_t_42 (tq_w i7_t_59 (by decide) (by decide)) (tq_up e4162 i2_x3_8 tk_1 (by decide) (by decide) hn_8)
  have E_8 : ∀ (σ_8 : ez_H) (x2_8 : Int32) (x3_8 : Int32), tp p σ_8 → tq_iv 0 1 x2_8 → tq_iv 0 1600 x3_8 → tz_O (fun z : Int32 × ez_H => (fun (z : Int32) (s : ez_H) => tq_iv 0 1 z ∧ tp p s) z.1 z.2) (ez_fix (fun _ _ _ _ => none) (z_X4_readTerm_k4_8) ez_N σ_8 h0 x2_8 x3_8) := by
    intro σ_8 x2_8 x3_8 T_σ_8 i_x2_8 i_x3_8
    exact ez_fix_indn (fun n_8 (k_8 : ez_H → Nat → Int32 → Int32 → Option (Int32 × ez_H)) => ∀ (σ_8 : ez_H) (x2_8 : Int32) (x3_8 : Int32), tp p σ_8 → tq_iv 0 1 x2_8 → tq_iv 0 1600 x3_8 → (2147483647 - x3_8.toInt).toNat < n_8 → tz_O (fun z : Int32 × ez_H => (fun (z : Int32) (s : ez_H) => tq_iv 0 1 z ∧ tp p s) z.1 z.2) (k_8 σ_8 h0 x2_8 x3_8)) (by intros; rename_i h; exact absurd h (Nat.not_lt_zero _)) L_8 ez_N σ_8 x2_8 x3_8 T_σ_8 i_x2_8 i_x3_8 (tq_m0 x3_8)
  exact E_8 σ4175 t_2 (0 : Int32) T4175 i_t_2 (tq_w tk_0 (by decide) (by decide))
set_option maxRecDepth 4000 in
theorem tz_X4_readSum_k4 {p : tz_P} {σ : ez_H} {h0 : Nat} (hT : tp p σ) (k_h0 : tz_C h0 = some (3, 4, 0, 0)) : tz_O2 (fun (z : Int32) (s : ez_H) => tq_iv 0 1 z ∧ tp p s) (z_X4_readSum_k4 σ h0) := by
  show tz_O (fun z : Int32 × ez_H => (fun (z : Int32) (s : ez_H) => tq_iv 0 1 z ∧ tp p s) z.1 z.2) _
  unfold z_X4_readSum_k4
  refine tz_bd (tz_ob hT k_h0) (fun _ _ => ?_)
  refine tz_b2 (tz_X4_readTerm_k4 hT k_h0) (fun t_2 σ4206 ⟨i_t_2, T4206⟩ => ?_)
  have L_8 : ∀ (n_8 : Nat) (k_8 : ez_H → Nat → Int32 → Int32 → Option (Int32 × ez_H)), (∀ (σ_8 : ez_H) (x2_8 : Int32) (x3_8 : Int32), tp p σ_8 → tq_iv 0 1 x2_8 → tq_iv 0 1600 x3_8 → (2147483647 - x3_8.toInt).toNat < n_8 → tz_O (fun z : Int32 × ez_H => (fun (z : Int32) (s : ez_H) => tq_iv 0 1 z ∧ tp p s) z.1 z.2) (k_8 σ_8 h0 x2_8 x3_8)) → ∀ (σ_8 : ez_H) (x2_8 : Int32) (x3_8 : Int32), tp p σ_8 → tq_iv 0 1 x2_8 → tq_iv 0 1600 x3_8 → (2147483647 - x3_8.toInt).toNat < n_8 + 1 → tz_O (fun z : Int32 × ez_H => (fun (z : Int32) (s : ez_H) => tq_iv 0 1 z ∧ tp p s) z.1 z.2) (z_X4_readSum_k4_8 k_8 σ_8 h0 x2_8 x3_8) := by
    intro n_8 k_8 hk_8 σ_8 x2_8 x3_8 T_σ_8 i_x2_8 i_x3_8 hn_8
    unfold z_X4_readSum_k4_8
    have K_96 : tz_O (fun z : Int32 × ez_H => (fun (z : Int32) (s : ez_H) => tq_iv 0 1 z ∧ tp p s) z.1 z.2) (z_X4_readSum_k4_96 σ_8 x2_8) := by
      unfold z_X4_readSum_k4_96
      refine tz_nr (tq_nr_boolean i_x2_8) ?_
      exact tz_some ⟨i_x2_8, T_σ_8⟩
    refine tz_if _ (fun c4204 => ?_) (fun c4204 => ?_)
    ·
      have i1_x3_8 : tq_iv 1600 1600 x3_8 := tq_cut i_x3_8 (tq_leR c4204 tk_1600 i_x3_8) (by decide) (by decide)
      exact K_96 
    ·
      have i2_x3_8 : tq_iv 0 1599 x3_8 := tq_cut i_x3_8 (tq_ltL (tq_nle c4204) i_x3_8 tk_1600) (by decide) (by decide)
      refine tz_if _ (fun c4203 => ?_) (fun c4203 => ?_)
      ·
        have i3_x2_8 : tq_iv 0 0 x2_8 := tq_cut i_x2_8 (tq_eqL c4203 tk_0) (by decide) (by decide)
        exact K_96 
      ·
        have i4_x2_8 : tq_iv 1 1 x2_8 := tq_w (tq_neLo c4203 i_x2_8 tk_0) (by decide) (by decide)
        refine tz_be (tg_4_3 T_σ_8 k_h0) (fun t_20 e4202 k_t_20 => ?_)
        refine tz_be (tg_9_4 T_σ_8 k_t_20) (fun t_23 e4201 i_t_23 => ?_)
        have K_43 : tz_O (fun z : Int32 × ez_H => (fun (z : Int32) (s : ez_H) => tq_iv 0 1 z ∧ tp p s) z.1 z.2) (z_X4_readSum_k4_43 k_8 σ_8 h0 x3_8) := by
          unfold z_X4_readSum_k4_43
          refine tz_bk e4202 ?_
          refine tz_ba e4201 (fun t_47 e4190 a4190 => ?_)
          have K_62 : ∀ (y0_62 : Int32), tq_iv 11 12 y0_62 → tz_O (fun z : Int32 × ez_H => (fun (z : Int32) (s : ez_H) => tq_iv 0 1 z ∧ tp p s) z.1 z.2) (z_X4_readSum_k4_62 k_8 σ_8 h0 x3_8 y0_62) := by
            intro y0_62 i_y0_62
            unfold z_X4_readSum_k4_62
            refine tz_bk e4202 ?_
            refine tz_b2 (tz_X9_advance T_σ_8 k_t_20) (fun _ σ4185 ⟨T4185, W4185⟩ => ?_)
            refine tz_b2 (tz_X4_readTerm_k4 T4185 k_h0) (fun t_73 σ4184 ⟨i_t_73, T4184⟩ => ?_)
            refine tz_be (tg_4_0 T4184 k_h0) (fun t_78 e4183 k_t_78 => ?_)
            refine tz_be (tg_3_1 T4184 k_t_78) (fun t_81 e4182 k_t_81 => ?_)
            refine tz_b2 (tz_X0_append T4184 k_t_81 (tq_w i_y0_62 (by decide) (by decide))) (fun _ σ4181 T4181 => ?_)
            refine tz_let (fun t_90 e4180 => ?_)
            have i5_t_90 : tq_iv 1 1600 t_90 := tq_w (tq_add e4180 i2_x3_8 tk_1 (by decide) (by decide)) (by decide) (by decide)
            exact hk_8 σ4181 t_73 t_90 T4181 i_t_73 (tq_w i5_t_90 (by decide) (by decide)) (tq_up e4180 i2_x3_8 tk_1 (by decide) (by decide) hn_8)
          refine tz_if _ (fun c4189 => ?_) (fun c4189 => ?_)
          ·
            have i6_t_47 : tq_iv 43 43 t_47 := tq_cut (tq_top t_47) (tq_eqL c4189 tk_43) (by decide) (by decide)
            exact K_62 (11 : Int32) (tq_w tk_11 (by decide) (by decide))
          ·
            exact K_62 (12 : Int32) (tq_w tk_12 (by decide) (by decide))
        refine tz_if _ (fun c4200 => ?_) (fun c4200 => ?_)
        ·
          have i7_t_23 : tq_iv 43 43 t_23 := tq_cut (tq_top t_23) (tq_eqL c4200 tk_43) (by decide) (by decide)
          exact K_43 
        ·
          refine tz_bk e4202 ?_
          refine tz_ba e4201 (fun t_35 e4198 a4198 => ?_)
          refine tz_if _ (fun c4197 => ?_) (fun c4197 => ?_)
          ·
            have i8_t_35 : tq_iv 45 45 t_35 := tq_cut (tq_top t_35) (tq_eqL c4197 tk_45) (by decide) (by decide)
            exact K_43 
          ·
            exact K_96 
  have E_8 : ∀ (σ_8 : ez_H) (x2_8 : Int32) (x3_8 : Int32), tp p σ_8 → tq_iv 0 1 x2_8 → tq_iv 0 1600 x3_8 → tz_O (fun z : Int32 × ez_H => (fun (z : Int32) (s : ez_H) => tq_iv 0 1 z ∧ tp p s) z.1 z.2) (ez_fix (fun _ _ _ _ => none) (z_X4_readSum_k4_8) ez_N σ_8 h0 x2_8 x3_8) := by
    intro σ_8 x2_8 x3_8 T_σ_8 i_x2_8 i_x3_8
    exact ez_fix_indn (fun n_8 (k_8 : ez_H → Nat → Int32 → Int32 → Option (Int32 × ez_H)) => ∀ (σ_8 : ez_H) (x2_8 : Int32) (x3_8 : Int32), tp p σ_8 → tq_iv 0 1 x2_8 → tq_iv 0 1600 x3_8 → (2147483647 - x3_8.toInt).toNat < n_8 → tz_O (fun z : Int32 × ez_H => (fun (z : Int32) (s : ez_H) => tq_iv 0 1 z ∧ tp p s) z.1 z.2) (k_8 σ_8 h0 x2_8 x3_8)) (by intros; rename_i h; exact absurd h (Nat.not_lt_zero _)) L_8 ez_N σ_8 x2_8 x3_8 T_σ_8 i_x2_8 i_x3_8 (tq_m0 x3_8)
  exact E_8 σ4206 t_2 (0 : Int32) T4206 i_t_2 (tq_w tk_0 (by decide) (by decide))
set_option maxRecDepth 4000 in
theorem tz_X4_readOne_k4 {p : tz_P} {σ : ez_H} {h0 : Nat} (hT : tp p σ) (k_h0 : tz_C h0 = some (3, 4, 0, 0)) : tz_O2 (fun (z : Int32) (s : ez_H) => tq_iv 0 1 z ∧ tp p s) (z_X4_readOne_k4 σ h0) := by
  show tz_O (fun z : Int32 × ez_H => (fun (z : Int32) (s : ez_H) => tq_iv 0 1 z ∧ tp p s) z.1 z.2) _
  unfold z_X4_readOne_k4
  refine tz_bd (tz_ob hT k_h0) (fun _ _ => ?_)
  refine tz_be (tg_4_3 hT k_h0) (fun t_1 e4233 k_t_1 => ?_)
  refine tz_be (tg_9_4 hT k_t_1) (fun t_4 e4232 i_t_4 => ?_)
  refine tz_if _ (fun c4231 => ?_) (fun c4231 => ?_)
  ·
    have i1_t_4 : tq_iv 18 18 t_4 := tq_cut (tq_top t_4) (tq_eqL c4231 tk_18) (by decide) (by decide)
    refine tz_bk e4233 ?_
    refine tz_b2 (tz_X9_advance hT k_t_1) (fun _ σ4216 ⟨T4216, W4216⟩ => ?_)
    refine tz_b2 (tz_X4_readOne_k5 T4216 k_h0) (fun t_34 σ4215 ⟨i_t_34, T4215⟩ => ?_)
    refine tz_be (tg_4_0 T4215 k_h0) (fun t_39 e4214 k_t_39 => ?_)
    refine tz_be (tg_3_1 T4215 k_t_39) (fun t_42 e4213 k_t_42 => ?_)
    refine tz_b2 (tz_X0_append T4215 k_t_42 (tq_w tk_5 (by decide) (by decide))) (fun _ σ4212 T4212 => ?_)
    refine tz_nr (tq_nr_boolean i_t_34) ?_
    exact tz_some ⟨i_t_34, T4212⟩
  ·
    refine tz_b2 (tz_X4_readSum_k4 hT k_h0) (fun t_54 σ4230 ⟨i_t_54, T4230⟩ => ?_)
    refine tz_bd (tz_X4_relationHere T4230 k_h0) (fun t_59 i_t_59 => ?_)
    have K_97 : ∀ (σ_97 : ez_H) (x2_97 : Int32), tp p σ_97 → tq_iv 0 1 x2_97 → (¬ x2_97 = 0 → tq_iv 1 1 t_54) → tz_O (fun z : Int32 × ez_H => (fun (z : Int32) (s : ez_H) => tq_iv 0 1 z ∧ tp p s) z.1 z.2) (z_X4_readOne_k4_97 σ_97 x2_97) := by
      intro σ_97 x2_97 T_σ_97 i_x2_97 g97_x2_97_t_54
      unfold z_X4_readOne_k4_97
      refine tz_nr (tq_nr_boolean i_x2_97) ?_
      exact tz_some ⟨i_x2_97, T_σ_97⟩
    refine tz_if _ (fun c4228 => ?_) (fun c4228 => ?_)
    ·
      have i2_t_54 : tq_iv 0 0 t_54 := tq_cut i_t_54 (tq_eqL c4228 tk_0) (by decide) (by decide)
      exact K_97 σ4230 t_54 T4230 (tq_w i2_t_54 (by decide) (by decide)) (fun h => absurd (tq_z0 i2_t_54) h)
    ·
      have i3_t_54 : tq_iv 1 1 t_54 := tq_w (tq_neLo c4228 i_t_54 tk_0) (by decide) (by decide)
      refine tz_if _ (fun c4227 => ?_) (fun c4227 => ?_)
      ·
        have i4_t_59 : tq_iv (-1) (-1) t_59 := tq_cut i_t_59 (tq_eqL c4227 tk_m1) (by decide) (by decide)
        exact K_97 σ4230 t_54 T4230 (tq_w i3_t_54 (by decide) (by decide)) (fun _ => i3_t_54)
      ·
        have i5_t_59 : tq_iv 0 10 t_59 := tq_w (tq_neLo c4227 i_t_59 tk_m1) (by decide) (by decide)
        refine tz_be (tg_4_3 T4230 k_h0) (fun t_73 e4226 k_t_73 => ?_)
        refine tz_b2 (tz_X9_advance T4230 k_t_73) (fun _ σ4225 ⟨T4225, W4225⟩ => ?_)
        refine tz_b2 (tz_X4_readSum_k4 T4225 k_h0) (fun t_81 σ4224 ⟨i_t_81, T4224⟩ => ?_)
        refine tz_be (tg_4_0 T4224 k_h0) (fun t_86 e4223 k_t_86 => ?_)
        refine tz_be (tg_3_1 T4224 k_t_86) (fun t_89 e4222 k_t_89 => ?_)
        refine tz_b2 (tz_X0_append T4224 k_t_89 (tq_w i5_t_59 (by decide) (by decide))) (fun _ σ4221 T4221 => ?_)
        exact K_97 σ4221 t_81 T4221 i_t_81 (fun _ => i3_t_54)
set_option maxRecDepth 4000 in
theorem tz_X4_readBoth_k4 {p : tz_P} {σ : ez_H} {h0 : Nat} (hT : tp p σ) (k_h0 : tz_C h0 = some (3, 4, 0, 0)) : tz_O2 (fun (z : Int32) (s : ez_H) => tq_iv 0 1 z ∧ tp p s) (z_X4_readBoth_k4 σ h0) := by
  show tz_O (fun z : Int32 × ez_H => (fun (z : Int32) (s : ez_H) => tq_iv 0 1 z ∧ tp p s) z.1 z.2) _
  unfold z_X4_readBoth_k4
  refine tz_bd (tz_ob hT k_h0) (fun _ _ => ?_)
  refine tz_b2 (tz_X4_readOne_k4 hT k_h0) (fun t_2 σ4254 ⟨i_t_2, T4254⟩ => ?_)
  have L_8 : ∀ (n_8 : Nat) (k_8 : ez_H → Nat → Int32 → Int32 → Option (Int32 × ez_H)), (∀ (σ_8 : ez_H) (x2_8 : Int32) (x3_8 : Int32), tp p σ_8 → tq_iv 0 1 x2_8 → tq_iv 0 1600 x3_8 → (2147483647 - x3_8.toInt).toNat < n_8 → tz_O (fun z : Int32 × ez_H => (fun (z : Int32) (s : ez_H) => tq_iv 0 1 z ∧ tp p s) z.1 z.2) (k_8 σ_8 h0 x2_8 x3_8)) → ∀ (σ_8 : ez_H) (x2_8 : Int32) (x3_8 : Int32), tp p σ_8 → tq_iv 0 1 x2_8 → tq_iv 0 1600 x3_8 → (2147483647 - x3_8.toInt).toNat < n_8 + 1 → tz_O (fun z : Int32 × ez_H => (fun (z : Int32) (s : ez_H) => tq_iv 0 1 z ∧ tp p s) z.1 z.2) (z_X4_readBoth_k4_8 k_8 σ_8 h0 x2_8 x3_8) := by
    intro n_8 k_8 hk_8 σ_8 x2_8 x3_8 T_σ_8 i_x2_8 i_x3_8 hn_8
    unfold z_X4_readBoth_k4_8
    have K_63 : tz_O (fun z : Int32 × ez_H => (fun (z : Int32) (s : ez_H) => tq_iv 0 1 z ∧ tp p s) z.1 z.2) (z_X4_readBoth_k4_63 σ_8 x2_8) := by
      unfold z_X4_readBoth_k4_63
      refine tz_nr (tq_nr_boolean i_x2_8) ?_
      exact tz_some ⟨i_x2_8, T_σ_8⟩
    refine tz_if _ (fun c4252 => ?_) (fun c4252 => ?_)
    ·
      have i1_x3_8 : tq_iv 1600 1600 x3_8 := tq_cut i_x3_8 (tq_leR c4252 tk_1600 i_x3_8) (by decide) (by decide)
      exact K_63 
    ·
      have i2_x3_8 : tq_iv 0 1599 x3_8 := tq_cut i_x3_8 (tq_ltL (tq_nle c4252) i_x3_8 tk_1600) (by decide) (by decide)
      refine tz_if _ (fun c4251 => ?_) (fun c4251 => ?_)
      ·
        have i3_x2_8 : tq_iv 0 0 x2_8 := tq_cut i_x2_8 (tq_eqL c4251 tk_0) (by decide) (by decide)
        exact K_63 
      ·
        have i4_x2_8 : tq_iv 1 1 x2_8 := tq_w (tq_neLo c4251 i_x2_8 tk_0) (by decide) (by decide)
        refine tz_be (tg_4_3 T_σ_8 k_h0) (fun t_20 e4250 k_t_20 => ?_)
        refine tz_be (tg_9_4 T_σ_8 k_t_20) (fun t_23 e4249 i_t_23 => ?_)
        refine tz_if _ (fun c4248 => ?_) (fun c4248 => ?_)
        ·
          have i5_t_23 : tq_iv 17 17 t_23 := tq_cut (tq_top t_23) (tq_eqL c4248 tk_17) (by decide) (by decide)
          refine tz_bk e4250 ?_
          refine tz_b2 (tz_X9_advance T_σ_8 k_t_20) (fun _ σ4245 ⟨T4245, W4245⟩ => ?_)
          refine tz_b2 (tz_X4_readOne_k4 T4245 k_h0) (fun t_40 σ4244 ⟨i_t_40, T4244⟩ => ?_)
          refine tz_be (tg_4_0 T4244 k_h0) (fun t_45 e4243 k_t_45 => ?_)
          refine tz_be (tg_3_1 T4244 k_t_45) (fun t_48 e4242 k_t_48 => ?_)
          refine tz_b2 (tz_X0_append T4244 k_t_48 (tq_w tk_7 (by decide) (by decide))) (fun _ σ4241 T4241 => ?_)
          refine tz_let (fun t_57 e4240 => ?_)
          have i6_t_57 : tq_iv 1 1600 t_57 := tq_w (tq_add e4240 i2_x3_8 tk_1 (by decide) (by decide)) (by decide) (by decide)
          exact hk_8 σ4241 t_40 t_57 T4241 i_t_40 (tq_w i6_t_57 (by decide) (by decide)) (tq_up e4240 i2_x3_8 tk_1 (by decide) (by decide) hn_8)
        ·
          exact K_63 
  have E_8 : ∀ (σ_8 : ez_H) (x2_8 : Int32) (x3_8 : Int32), tp p σ_8 → tq_iv 0 1 x2_8 → tq_iv 0 1600 x3_8 → tz_O (fun z : Int32 × ez_H => (fun (z : Int32) (s : ez_H) => tq_iv 0 1 z ∧ tp p s) z.1 z.2) (ez_fix (fun _ _ _ _ => none) (z_X4_readBoth_k4_8) ez_N σ_8 h0 x2_8 x3_8) := by
    intro σ_8 x2_8 x3_8 T_σ_8 i_x2_8 i_x3_8
    exact ez_fix_indn (fun n_8 (k_8 : ez_H → Nat → Int32 → Int32 → Option (Int32 × ez_H)) => ∀ (σ_8 : ez_H) (x2_8 : Int32) (x3_8 : Int32), tp p σ_8 → tq_iv 0 1 x2_8 → tq_iv 0 1600 x3_8 → (2147483647 - x3_8.toInt).toNat < n_8 → tz_O (fun z : Int32 × ez_H => (fun (z : Int32) (s : ez_H) => tq_iv 0 1 z ∧ tp p s) z.1 z.2) (k_8 σ_8 h0 x2_8 x3_8)) (by intros; rename_i h; exact absurd h (Nat.not_lt_zero _)) L_8 ez_N σ_8 x2_8 x3_8 T_σ_8 i_x2_8 i_x3_8 (tq_m0 x3_8)
  exact E_8 σ4254 t_2 (0 : Int32) T4254 i_t_2 (tq_w tk_0 (by decide) (by decide))
set_option maxRecDepth 4000 in
theorem tz_X4_readEither_k4 {p : tz_P} {σ : ez_H} {h0 : Nat} (hT : tp p σ) (k_h0 : tz_C h0 = some (3, 4, 0, 0)) : tz_O2 (fun (z : Int32) (s : ez_H) => tq_iv 0 1 z ∧ tp p s) (z_X4_readEither_k4 σ h0) := by
  show tz_O (fun z : Int32 × ez_H => (fun (z : Int32) (s : ez_H) => tq_iv 0 1 z ∧ tp p s) z.1 z.2) _
  unfold z_X4_readEither_k4
  refine tz_bd (tz_ob hT k_h0) (fun _ _ => ?_)
  refine tz_b2 (tz_X4_readBoth_k4 hT k_h0) (fun t_2 σ4275 ⟨i_t_2, T4275⟩ => ?_)
  have L_8 : ∀ (n_8 : Nat) (k_8 : ez_H → Nat → Int32 → Int32 → Option (Int32 × ez_H)), (∀ (σ_8 : ez_H) (x2_8 : Int32) (x3_8 : Int32), tp p σ_8 → tq_iv 0 1 x2_8 → tq_iv 0 1600 x3_8 → (2147483647 - x3_8.toInt).toNat < n_8 → tz_O (fun z : Int32 × ez_H => (fun (z : Int32) (s : ez_H) => tq_iv 0 1 z ∧ tp p s) z.1 z.2) (k_8 σ_8 h0 x2_8 x3_8)) → ∀ (σ_8 : ez_H) (x2_8 : Int32) (x3_8 : Int32), tp p σ_8 → tq_iv 0 1 x2_8 → tq_iv 0 1600 x3_8 → (2147483647 - x3_8.toInt).toNat < n_8 + 1 → tz_O (fun z : Int32 × ez_H => (fun (z : Int32) (s : ez_H) => tq_iv 0 1 z ∧ tp p s) z.1 z.2) (z_X4_readEither_k4_8 k_8 σ_8 h0 x2_8 x3_8) := by
    intro n_8 k_8 hk_8 σ_8 x2_8 x3_8 T_σ_8 i_x2_8 i_x3_8 hn_8
    unfold z_X4_readEither_k4_8
    have K_63 : tz_O (fun z : Int32 × ez_H => (fun (z : Int32) (s : ez_H) => tq_iv 0 1 z ∧ tp p s) z.1 z.2) (z_X4_readEither_k4_63 σ_8 x2_8) := by
      unfold z_X4_readEither_k4_63
      refine tz_nr (tq_nr_boolean i_x2_8) ?_
      exact tz_some ⟨i_x2_8, T_σ_8⟩
    refine tz_if _ (fun c4273 => ?_) (fun c4273 => ?_)
    ·
      have i1_x3_8 : tq_iv 1600 1600 x3_8 := tq_cut i_x3_8 (tq_leR c4273 tk_1600 i_x3_8) (by decide) (by decide)
      exact K_63 
    ·
      have i2_x3_8 : tq_iv 0 1599 x3_8 := tq_cut i_x3_8 (tq_ltL (tq_nle c4273) i_x3_8 tk_1600) (by decide) (by decide)
      refine tz_if _ (fun c4272 => ?_) (fun c4272 => ?_)
      ·
        have i3_x2_8 : tq_iv 0 0 x2_8 := tq_cut i_x2_8 (tq_eqL c4272 tk_0) (by decide) (by decide)
        exact K_63 
      ·
        have i4_x2_8 : tq_iv 1 1 x2_8 := tq_w (tq_neLo c4272 i_x2_8 tk_0) (by decide) (by decide)
        refine tz_be (tg_4_3 T_σ_8 k_h0) (fun t_20 e4271 k_t_20 => ?_)
        refine tz_be (tg_9_4 T_σ_8 k_t_20) (fun t_23 e4270 i_t_23 => ?_)
        refine tz_if _ (fun c4269 => ?_) (fun c4269 => ?_)
        ·
          have i5_t_23 : tq_iv 16 16 t_23 := tq_cut (tq_top t_23) (tq_eqL c4269 tk_16) (by decide) (by decide)
          refine tz_bk e4271 ?_
          refine tz_b2 (tz_X9_advance T_σ_8 k_t_20) (fun _ σ4266 ⟨T4266, W4266⟩ => ?_)
          refine tz_b2 (tz_X4_readBoth_k4 T4266 k_h0) (fun t_40 σ4265 ⟨i_t_40, T4265⟩ => ?_)
          refine tz_be (tg_4_0 T4265 k_h0) (fun t_45 e4264 k_t_45 => ?_)
          refine tz_be (tg_3_1 T4265 k_t_45) (fun t_48 e4263 k_t_48 => ?_)
          refine tz_b2 (tz_X0_append T4265 k_t_48 (tq_w tk_6 (by decide) (by decide))) (fun _ σ4262 T4262 => ?_)
          refine tz_let (fun t_57 e4261 => ?_)
          have i6_t_57 : tq_iv 1 1600 t_57 := tq_w (tq_add e4261 i2_x3_8 tk_1 (by decide) (by decide)) (by decide) (by decide)
          exact hk_8 σ4262 t_40 t_57 T4262 i_t_40 (tq_w i6_t_57 (by decide) (by decide)) (tq_up e4261 i2_x3_8 tk_1 (by decide) (by decide) hn_8)
        ·
          exact K_63 
  have E_8 : ∀ (σ_8 : ez_H) (x2_8 : Int32) (x3_8 : Int32), tp p σ_8 → tq_iv 0 1 x2_8 → tq_iv 0 1600 x3_8 → tz_O (fun z : Int32 × ez_H => (fun (z : Int32) (s : ez_H) => tq_iv 0 1 z ∧ tp p s) z.1 z.2) (ez_fix (fun _ _ _ _ => none) (z_X4_readEither_k4_8) ez_N σ_8 h0 x2_8 x3_8) := by
    intro σ_8 x2_8 x3_8 T_σ_8 i_x2_8 i_x3_8
    exact ez_fix_indn (fun n_8 (k_8 : ez_H → Nat → Int32 → Int32 → Option (Int32 × ez_H)) => ∀ (σ_8 : ez_H) (x2_8 : Int32) (x3_8 : Int32), tp p σ_8 → tq_iv 0 1 x2_8 → tq_iv 0 1600 x3_8 → (2147483647 - x3_8.toInt).toNat < n_8 → tz_O (fun z : Int32 × ez_H => (fun (z : Int32) (s : ez_H) => tq_iv 0 1 z ∧ tp p s) z.1 z.2) (k_8 σ_8 h0 x2_8 x3_8)) (by intros; rename_i h; exact absurd h (Nat.not_lt_zero _)) L_8 ez_N σ_8 x2_8 x3_8 T_σ_8 i_x2_8 i_x3_8 (tq_m0 x3_8)
  exact E_8 σ4275 t_2 (0 : Int32) T4275 i_t_2 (tq_w tk_0 (by decide) (by decide))
set_option maxRecDepth 4000 in
theorem tz_X4_readUnit_k3 {p : tz_P} {σ : ez_H} {h0 : Nat} (hT : tp p σ) (k_h0 : tz_C h0 = some (3, 4, 0, 0)) : tz_O2 (fun (z : Int32) (s : ez_H) => tq_iv 0 1 z ∧ tp p s) (z_X4_readUnit_k3 σ h0) := by
  show tz_O (fun z : Int32 × ez_H => (fun (z : Int32) (s : ez_H) => tq_iv 0 1 z ∧ tp p s) z.1 z.2) _
  unfold z_X4_readUnit_k3
  refine tz_bd (tz_ob hT k_h0) (fun _ _ => ?_)
  refine tz_be (tg_4_3 hT k_h0) (fun t_1 e4326 k_t_1 => ?_)
  refine tz_be (tg_9_4 hT k_t_1) (fun t_4 e4325 i_t_4 => ?_)
  have K_17 : ∀ (y0_17 : Int32), tq_iv 0 1 y0_17 → (¬ y0_17 = 0 → tq_iv 40 40 t_4) → tz_O (fun z : Int32 × ez_H => (fun (z : Int32) (s : ez_H) => tq_iv 0 1 z ∧ tp p s) z.1 z.2) (z_X4_readUnit_k3_17 σ h0 y0_17) := by
    intro y0_17 i_y0_17 g17_y0_17_t_4
    unfold z_X4_readUnit_k3_17
    refine tz_bd (tz_X4_unitHere hT k_h0) (fun t_19 i_t_19 => ?_)
    have K_47 : tz_O (fun z : Int32 × ez_H => (fun (z : Int32) (s : ez_H) => tq_iv 0 1 z ∧ tp p s) z.1 z.2) (z_X4_readUnit_k3_47 σ h0) := by
      unfold z_X4_readUnit_k3_47
      refine tz_b2 (tz_X4_refuse hT k_h0) (fun t_48 σ4307 ⟨i_t_48, T4307, W4307⟩ => ?_)
      refine tz_nr (tq_nr_boolean (tq_w i_t_48 (by decide) (by decide))) ?_
      exact tz_some ⟨(tq_w i_t_48 (by decide) (by decide)), T4307⟩
    have K_32 : tz_O (fun z : Int32 × ez_H => (fun (z : Int32) (s : ez_H) => tq_iv 0 1 z ∧ tp p s) z.1 z.2) (z_X4_readUnit_k3_32 σ h0 y0_17 t_19) := by
      unfold z_X4_readUnit_k3_32
      refine tz_be (tg_4_0 hT k_h0) (fun t_33 e4315 k_t_33 => ?_)
      refine tz_be (tg_3_1 hT k_t_33) (fun t_36 e4314 k_t_36 => ?_)
      refine tz_be (tg_0_0 hT k_t_36) (fun t_39 e4313 i_t_39 => ?_)
      refine tz_if _ (fun c4312 => ?_) (fun c4312 => ?_)
      ·
        have i1_t_39 : tq_iv (-2147483648) 29 t_39 := tq_cut (tq_top t_39) (tq_ltL c4312 (tq_top t_39) tk_30) (by decide) (by decide)
        have K_67 : tz_O (fun z : Int32 × ez_H => (fun (z : Int32) (s : ez_H) => tq_iv 0 1 z ∧ tp p s) z.1 z.2) (z_X4_readUnit_k3_67 σ h0 y0_17 t_19) := by
          unfold z_X4_readUnit_k3_67
          refine tz_bk e4315 ?_
          refine tz_bk e4314 ?_
          refine tz_ba e4313 (fun t_75 e4302 a4302 => ?_)
          have i2_t_75 : tq_iv (-2147483648) 29 t_75 := tq_eqL a4302 i1_t_39
          refine tz_let (fun t_79 e4301 => ?_)
          have i3_t_79 : tq_iv (-2147483647) 30 t_79 := tq_w (tq_add e4301 i2_t_75 tk_1 (by decide) (by decide)) (by decide) (by decide)
          refine tz_be (tw_0_0 hT k_t_36 (tq_top t_79)) (fun σ4300 e4300 T4300 => ?_)
          have K_105 : ∀ (σ_105 : ez_H), tp p σ_105 → tz_O (fun z : Int32 × ez_H => (fun (z : Int32) (s : ez_H) => tq_iv 0 1 z ∧ tp p s) z.1 z.2) (z_X4_readUnit_k3_105 σ_105 h0 y0_17) := by
            intro σ_105 T_σ_105
            unfold z_X4_readUnit_k3_105
            refine tz_be (tg_4_3 T_σ_105 k_h0) (fun t_106 e4291 k_t_106 => ?_)
            refine tz_b2 (tz_X9_advance T_σ_105 k_t_106) (fun _ σ4290 ⟨T4290, W4290⟩ => ?_)
            have K_140 : ∀ (σ_140 : ez_H) (y0_140 : Int32), tp p σ_140 → tq_iv 0 1 y0_140 → tz_O (fun z : Int32 × ez_H => (fun (z : Int32) (s : ez_H) => tq_iv 0 1 z ∧ tp p s) z.1 z.2) (z_X4_readUnit_k3_140 σ_140 y0_140) := by
              intro σ_140 y0_140 T_σ_140 i_y0_140
              unfold z_X4_readUnit_k3_140
              refine tz_nr (tq_nr_boolean i_y0_140) ?_
              exact tz_some ⟨i_y0_140, T_σ_140⟩
            have K_135 : ∀ (σ_135 : ez_H), tp p σ_135 → tz_O (fun z : Int32 × ez_H => (fun (z : Int32) (s : ez_H) => tq_iv 0 1 z ∧ tp p s) z.1 z.2) (z_X4_readUnit_k3_135 σ_135) := by
              intro σ_135 T_σ_135
              unfold z_X4_readUnit_k3_135
              exact K_140 σ_135 (1 : Int32) T_σ_135 (tq_w tk_1 (by decide) (by decide))
            refine tz_if _ (fun c4289 => ?_) (fun c4289 => ?_)
            ·
              have i4_y0_17 : tq_iv 0 0 y0_17 := tq_cut i_y0_17 (tq_eqL c4289 tk_0) (by decide) (by decide)
              exact K_135 σ4290 T4290
            ·
              have i5_t_4 : tq_iv 40 40 t_4 := tq_cut (tq_top t_4) (g17_y0_17_t_4 c4289) (by decide) (by decide)
              have i6_y0_17 : tq_iv 1 1 y0_17 := tq_w (tq_neLo c4289 i_y0_17 tk_0) (by decide) (by decide)
              refine tz_b2 (tz_X4_readEither_k4 T4290 k_h0) (fun t_120 σ4288 ⟨i_t_120, T4288⟩ => ?_)
              have K_139 : ∀ (σ_139 : ez_H), tp p σ_139 → tz_O (fun z : Int32 × ez_H => (fun (z : Int32) (s : ez_H) => tq_iv 0 1 z ∧ tp p s) z.1 z.2) (z_X4_readUnit_k3_139 σ_139) := by
                intro σ_139 T_σ_139
                unfold z_X4_readUnit_k3_139
                exact K_140 σ_139 (0 : Int32) T_σ_139 (tq_w tk_0 (by decide) (by decide))
              refine tz_if _ (fun c4287 => ?_) (fun c4287 => ?_)
              ·
                have i7_t_120 : tq_iv 0 0 t_120 := tq_cut i_t_120 (tq_eqL c4287 tk_0) (by decide) (by decide)
                exact K_139 σ4288 T4288
              ·
                have i8_t_120 : tq_iv 1 1 t_120 := tq_w (tq_neLo c4287 i_t_120 tk_0) (by decide) (by decide)
                refine tz_b2 (tz_X4_expect T4288 k_h0 (tq_w tk_41 (by decide) (by decide))) (fun t_129 σ4286 ⟨i_t_129, T4286, W4286⟩ => ?_)
                refine tz_if _ (fun c4285 => ?_) (fun c4285 => ?_)
                ·
                  have i9_t_129 : tq_iv 0 0 t_129 := tq_cut i_t_129 (tq_eqL c4285 tk_0) (by decide) (by decide)
                  exact K_139 σ4286 T4286
                ·
                  have i10_t_129 : tq_iv 1 1 t_129 := tq_w (tq_neLo c4285 i_t_129 tk_0) (by decide) (by decide)
                  exact K_135 σ4286 T4286
          refine tz_if _ (fun c4299 => ?_) (fun c4299 => ?_)
          ·
            have i11_y0_17 : tq_iv 0 0 y0_17 := tq_cut i_y0_17 (tq_eqL c4299 tk_0) (by decide) (by decide)
            refine tz_bk ((fr_pf_v e4300 (fun h => absurd h.2.1 (by decide))).2.2.trans e4315) ?_
            refine tz_bk ((fr_pf_v e4300 (fun h => absurd h.2.1 (by decide))).2.2.trans e4314) ?_
            refine tz_bk ((fr_pf_v e4300 (fun h => absurd h.2.1 (by decide))).2.2.trans e4326) ?_
            refine tz_be (tg_9_6 T4300 k_t_1) (fun t_99 e4294 i_t_99 => ?_)
            refine tz_b2 (tz_X0_append T4300 k_t_36 (tq_w i_t_19 (by decide) (by decide))) (fun _ σ4293 T4293 => ?_)
            exact K_105 σ4293 T4293
          ·
            have i12_t_4 : tq_iv 40 40 t_4 := tq_cut (tq_top t_4) (g17_y0_17_t_4 c4299) (by decide) (by decide)
            have i13_y0_17 : tq_iv 1 1 y0_17 := tq_w (tq_neLo c4299 i_y0_17 tk_0) (by decide) (by decide)
            exact K_105 σ4300 T4300
        refine tz_if _ (fun c4310 => ?_) (fun c4310 => ?_)
        ·
          have i14_y0_17 : tq_iv 0 0 y0_17 := tq_cut i_y0_17 (tq_eqL c4310 tk_0) (by decide) (by decide)
          exact K_67 
        ·
          have i15_t_4 : tq_iv 40 40 t_4 := tq_cut (tq_top t_4) (g17_y0_17_t_4 c4310) (by decide) (by decide)
          have i16_y0_17 : tq_iv 1 1 y0_17 := tq_w (tq_neLo c4310 i_y0_17 tk_0) (by decide) (by decide)
          exact K_67 
      ·
        have i17_t_39 : tq_iv 30 2147483647 t_39 := tq_cut (tq_top t_39) (tq_leR (tq_nlt c4312) tk_30 (tq_top t_39)) (by decide) (by decide)
        exact K_47 
    refine tz_if _ (fun c4320 => ?_) (fun c4320 => ?_)
    ·
      have i18_y0_17 : tq_iv 0 0 y0_17 := tq_cut i_y0_17 (tq_eqL c4320 tk_0) (by decide) (by decide)
      refine tz_if _ (fun c4318 => ?_) (fun c4318 => ?_)
      ·
        have i19_t_19 : tq_iv (-1) (-1) t_19 := tq_cut i_t_19 (tq_eqL c4318 tk_m1) (by decide) (by decide)
        exact K_47 
      ·
        have i20_t_19 : tq_iv 0 4 t_19 := tq_w (tq_neLo c4318 i_t_19 tk_m1) (by decide) (by decide)
        exact K_32 
    ·
      have i21_t_4 : tq_iv 40 40 t_4 := tq_cut (tq_top t_4) (g17_y0_17_t_4 c4320) (by decide) (by decide)
      have i22_y0_17 : tq_iv 1 1 y0_17 := tq_w (tq_neLo c4320 i_y0_17 tk_0) (by decide) (by decide)
      exact K_32 
  refine tz_if _ (fun c4324 => ?_) (fun c4324 => ?_)
  ·
    have i23_t_4 : tq_iv 40 40 t_4 := tq_cut (tq_top t_4) (tq_eqL c4324 tk_40) (by decide) (by decide)
    exact K_17 (1 : Int32) (tq_w tk_1 (by decide) (by decide)) (fun _ => i23_t_4)
  ·
    exact K_17 (0 : Int32) (tq_w tk_0 (by decide) (by decide)) (fun h => absurd rfl h)
set_option maxRecDepth 4000 in
theorem tz_X4_readTerm_k3 {p : tz_P} {σ : ez_H} {h0 : Nat} (hT : tp p σ) (k_h0 : tz_C h0 = some (3, 4, 0, 0)) : tz_O2 (fun (z : Int32) (s : ez_H) => tq_iv 0 1 z ∧ tp p s) (z_X4_readTerm_k3 σ h0) := by
  show tz_O (fun z : Int32 × ez_H => (fun (z : Int32) (s : ez_H) => tq_iv 0 1 z ∧ tp p s) z.1 z.2) _
  unfold z_X4_readTerm_k3
  refine tz_bd (tz_ob hT k_h0) (fun _ _ => ?_)
  refine tz_b2 (tz_X4_readUnit_k3 hT k_h0) (fun t_2 σ4347 ⟨i_t_2, T4347⟩ => ?_)
  have L_8 : ∀ (n_8 : Nat) (k_8 : ez_H → Nat → Int32 → Int32 → Option (Int32 × ez_H)), (∀ (σ_8 : ez_H) (x2_8 : Int32) (x3_8 : Int32), tp p σ_8 → tq_iv 0 1 x2_8 → tq_iv 0 1600 x3_8 → (2147483647 - x3_8.toInt).toNat < n_8 → tz_O (fun z : Int32 × ez_H => (fun (z : Int32) (s : ez_H) => tq_iv 0 1 z ∧ tp p s) z.1 z.2) (k_8 σ_8 h0 x2_8 x3_8)) → ∀ (σ_8 : ez_H) (x2_8 : Int32) (x3_8 : Int32), tp p σ_8 → tq_iv 0 1 x2_8 → tq_iv 0 1600 x3_8 → (2147483647 - x3_8.toInt).toNat < n_8 + 1 → tz_O (fun z : Int32 × ez_H => (fun (z : Int32) (s : ez_H) => tq_iv 0 1 z ∧ tp p s) z.1 z.2) (z_X4_readTerm_k3_8 k_8 σ_8 h0 x2_8 x3_8) := by
    intro n_8 k_8 hk_8 σ_8 x2_8 x3_8 T_σ_8 i_x2_8 i_x3_8 hn_8
    unfold z_X4_readTerm_k3_8
    have K_65 : tz_O (fun z : Int32 × ez_H => (fun (z : Int32) (s : ez_H) => tq_iv 0 1 z ∧ tp p s) z.1 z.2) (z_X4_readTerm_k3_65 σ_8 x2_8) := by
      unfold z_X4_readTerm_k3_65
      refine tz_nr (tq_nr_boolean i_x2_8) ?_
      exact tz_some ⟨i_x2_8, T_σ_8⟩
    refine tz_if _ (fun c4345 => ?_) (fun c4345 => ?_)
    ·
      have i1_x3_8 : tq_iv 1600 1600 x3_8 := tq_cut i_x3_8 (tq_leR c4345 tk_1600 i_x3_8) (by decide) (by decide)
      exact K_65 
    ·
      have i2_x3_8 : tq_iv 0 1599 x3_8 := tq_cut i_x3_8 (tq_ltL (tq_nle c4345) i_x3_8 tk_1600) (by decide) (by decide)
      refine tz_if _ (fun c4344 => ?_) (fun c4344 => ?_)
      ·
        have i3_x2_8 : tq_iv 0 0 x2_8 := tq_cut i_x2_8 (tq_eqL c4344 tk_0) (by decide) (by decide)
        exact K_65 
      ·
        have i4_x2_8 : tq_iv 1 1 x2_8 := tq_w (tq_neLo c4344 i_x2_8 tk_0) (by decide) (by decide)
        refine tz_bd (tz_X4_productHere T_σ_8 k_h0) (fun t_20 i_t_20 => ?_)
        refine tz_if _ (fun c4342 => ?_) (fun c4342 => ?_)
        ·
          have i5_t_20 : tq_iv (-1) (-1) t_20 := tq_cut i_t_20 (tq_eqL c4342 tk_m1) (by decide) (by decide)
          exact K_65 
        ·
          have i6_t_20 : tq_iv 0 15 t_20 := tq_w (tq_neLo c4342 i_t_20 tk_m1) (by decide) (by decide)
          refine tz_bd (tz_X4_productHere T_σ_8 k_h0) (fun t_28 i_t_28 => ?_)
          refine tz_be (tg_4_3 T_σ_8 k_h0) (fun t_34 e4340 k_t_34 => ?_)
          refine tz_b2 (tz_X9_advance T_σ_8 k_t_34) (fun _ σ4339 ⟨T4339, W4339⟩ => ?_)
          refine tz_b2 (tz_X4_readUnit_k3 T4339 k_h0) (fun t_42 σ4338 ⟨i_t_42, T4338⟩ => ?_)
          refine tz_be (tg_4_0 T4338 k_h0) (fun t_47 e4337 k_t_47 => ?_)
          refine tz_be (tg_3_1 T4338 k_t_47) (fun t_50 e4336 k_t_50 => ?_)
          refine tz_b2 (tz_X0_append T4338 k_t_50 i_t_28) (fun _ σ4335 T4335 => ?_)
          refine tz_let (fun t_59 e4334 => ?_)
          have i7_t_59 : tq_iv 1 1600 t_59 := tq_w (tq_add e4334 i2_x3_8 tk_1 (by decide) (by decide)) (by decide) (by decide)
          exact hk_8 σ4335 t_42 t_59 T4335 i_t_42 (tq_w i7_t_59 (by decide) (by decide)) (tq_up e4334 i2_x3_8 tk_1 (by decide) (by decide) hn_8)
  have E_8 : ∀ (σ_8 : ez_H) (x2_8 : Int32) (x3_8 : Int32), tp p σ_8 → tq_iv 0 1 x2_8 → tq_iv 0 1600 x3_8 → tz_O (fun z : Int32 × ez_H => (fun (z : Int32) (s : ez_H) => tq_iv 0 1 z ∧ tp p s) z.1 z.2) (ez_fix (fun _ _ _ _ => none) (z_X4_readTerm_k3_8) ez_N σ_8 h0 x2_8 x3_8) := by
    intro σ_8 x2_8 x3_8 T_σ_8 i_x2_8 i_x3_8
    exact ez_fix_indn (fun n_8 (k_8 : ez_H → Nat → Int32 → Int32 → Option (Int32 × ez_H)) => ∀ (σ_8 : ez_H) (x2_8 : Int32) (x3_8 : Int32), tp p σ_8 → tq_iv 0 1 x2_8 → tq_iv 0 1600 x3_8 → (2147483647 - x3_8.toInt).toNat < n_8 → tz_O (fun z : Int32 × ez_H => (fun (z : Int32) (s : ez_H) => tq_iv 0 1 z ∧ tp p s) z.1 z.2) (k_8 σ_8 h0 x2_8 x3_8)) (by intros; rename_i h; exact absurd h (Nat.not_lt_zero _)) L_8 ez_N σ_8 x2_8 x3_8 T_σ_8 i_x2_8 i_x3_8 (tq_m0 x3_8)
  exact E_8 σ4347 t_2 (0 : Int32) T4347 i_t_2 (tq_w tk_0 (by decide) (by decide))
set_option maxRecDepth 4000 in
theorem tz_X4_readSum_k3 {p : tz_P} {σ : ez_H} {h0 : Nat} (hT : tp p σ) (k_h0 : tz_C h0 = some (3, 4, 0, 0)) : tz_O2 (fun (z : Int32) (s : ez_H) => tq_iv 0 1 z ∧ tp p s) (z_X4_readSum_k3 σ h0) := by
  show tz_O (fun z : Int32 × ez_H => (fun (z : Int32) (s : ez_H) => tq_iv 0 1 z ∧ tp p s) z.1 z.2) _
  unfold z_X4_readSum_k3
  refine tz_bd (tz_ob hT k_h0) (fun _ _ => ?_)
  refine tz_b2 (tz_X4_readTerm_k3 hT k_h0) (fun t_2 σ4378 ⟨i_t_2, T4378⟩ => ?_)
  have L_8 : ∀ (n_8 : Nat) (k_8 : ez_H → Nat → Int32 → Int32 → Option (Int32 × ez_H)), (∀ (σ_8 : ez_H) (x2_8 : Int32) (x3_8 : Int32), tp p σ_8 → tq_iv 0 1 x2_8 → tq_iv 0 1600 x3_8 → (2147483647 - x3_8.toInt).toNat < n_8 → tz_O (fun z : Int32 × ez_H => (fun (z : Int32) (s : ez_H) => tq_iv 0 1 z ∧ tp p s) z.1 z.2) (k_8 σ_8 h0 x2_8 x3_8)) → ∀ (σ_8 : ez_H) (x2_8 : Int32) (x3_8 : Int32), tp p σ_8 → tq_iv 0 1 x2_8 → tq_iv 0 1600 x3_8 → (2147483647 - x3_8.toInt).toNat < n_8 + 1 → tz_O (fun z : Int32 × ez_H => (fun (z : Int32) (s : ez_H) => tq_iv 0 1 z ∧ tp p s) z.1 z.2) (z_X4_readSum_k3_8 k_8 σ_8 h0 x2_8 x3_8) := by
    intro n_8 k_8 hk_8 σ_8 x2_8 x3_8 T_σ_8 i_x2_8 i_x3_8 hn_8
    unfold z_X4_readSum_k3_8
    have K_96 : tz_O (fun z : Int32 × ez_H => (fun (z : Int32) (s : ez_H) => tq_iv 0 1 z ∧ tp p s) z.1 z.2) (z_X4_readSum_k3_96 σ_8 x2_8) := by
      unfold z_X4_readSum_k3_96
      refine tz_nr (tq_nr_boolean i_x2_8) ?_
      exact tz_some ⟨i_x2_8, T_σ_8⟩
    refine tz_if _ (fun c4376 => ?_) (fun c4376 => ?_)
    ·
      have i1_x3_8 : tq_iv 1600 1600 x3_8 := tq_cut i_x3_8 (tq_leR c4376 tk_1600 i_x3_8) (by decide) (by decide)
      exact K_96 
    ·
      have i2_x3_8 : tq_iv 0 1599 x3_8 := tq_cut i_x3_8 (tq_ltL (tq_nle c4376) i_x3_8 tk_1600) (by decide) (by decide)
      refine tz_if _ (fun c4375 => ?_) (fun c4375 => ?_)
      ·
        have i3_x2_8 : tq_iv 0 0 x2_8 := tq_cut i_x2_8 (tq_eqL c4375 tk_0) (by decide) (by decide)
        exact K_96 
      ·
        have i4_x2_8 : tq_iv 1 1 x2_8 := tq_w (tq_neLo c4375 i_x2_8 tk_0) (by decide) (by decide)
        refine tz_be (tg_4_3 T_σ_8 k_h0) (fun t_20 e4374 k_t_20 => ?_)
        refine tz_be (tg_9_4 T_σ_8 k_t_20) (fun t_23 e4373 i_t_23 => ?_)
        have K_43 : tz_O (fun z : Int32 × ez_H => (fun (z : Int32) (s : ez_H) => tq_iv 0 1 z ∧ tp p s) z.1 z.2) (z_X4_readSum_k3_43 k_8 σ_8 h0 x3_8) := by
          unfold z_X4_readSum_k3_43
          refine tz_bk e4374 ?_
          refine tz_ba e4373 (fun t_47 e4362 a4362 => ?_)
          have K_62 : ∀ (y0_62 : Int32), tq_iv 11 12 y0_62 → tz_O (fun z : Int32 × ez_H => (fun (z : Int32) (s : ez_H) => tq_iv 0 1 z ∧ tp p s) z.1 z.2) (z_X4_readSum_k3_62 k_8 σ_8 h0 x3_8 y0_62) := by
            intro y0_62 i_y0_62
            unfold z_X4_readSum_k3_62
            refine tz_bk e4374 ?_
            refine tz_b2 (tz_X9_advance T_σ_8 k_t_20) (fun _ σ4357 ⟨T4357, W4357⟩ => ?_)
            refine tz_b2 (tz_X4_readTerm_k3 T4357 k_h0) (fun t_73 σ4356 ⟨i_t_73, T4356⟩ => ?_)
            refine tz_be (tg_4_0 T4356 k_h0) (fun t_78 e4355 k_t_78 => ?_)
            refine tz_be (tg_3_1 T4356 k_t_78) (fun t_81 e4354 k_t_81 => ?_)
            refine tz_b2 (tz_X0_append T4356 k_t_81 (tq_w i_y0_62 (by decide) (by decide))) (fun _ σ4353 T4353 => ?_)
            refine tz_let (fun t_90 e4352 => ?_)
            have i5_t_90 : tq_iv 1 1600 t_90 := tq_w (tq_add e4352 i2_x3_8 tk_1 (by decide) (by decide)) (by decide) (by decide)
            exact hk_8 σ4353 t_73 t_90 T4353 i_t_73 (tq_w i5_t_90 (by decide) (by decide)) (tq_up e4352 i2_x3_8 tk_1 (by decide) (by decide) hn_8)
          refine tz_if _ (fun c4361 => ?_) (fun c4361 => ?_)
          ·
            have i6_t_47 : tq_iv 43 43 t_47 := tq_cut (tq_top t_47) (tq_eqL c4361 tk_43) (by decide) (by decide)
            exact K_62 (11 : Int32) (tq_w tk_11 (by decide) (by decide))
          ·
            exact K_62 (12 : Int32) (tq_w tk_12 (by decide) (by decide))
        refine tz_if _ (fun c4372 => ?_) (fun c4372 => ?_)
        ·
          have i7_t_23 : tq_iv 43 43 t_23 := tq_cut (tq_top t_23) (tq_eqL c4372 tk_43) (by decide) (by decide)
          exact K_43 
        ·
          refine tz_bk e4374 ?_
          refine tz_ba e4373 (fun t_35 e4370 a4370 => ?_)
          refine tz_if _ (fun c4369 => ?_) (fun c4369 => ?_)
          ·
            have i8_t_35 : tq_iv 45 45 t_35 := tq_cut (tq_top t_35) (tq_eqL c4369 tk_45) (by decide) (by decide)
            exact K_43 
          ·
            exact K_96 
  have E_8 : ∀ (σ_8 : ez_H) (x2_8 : Int32) (x3_8 : Int32), tp p σ_8 → tq_iv 0 1 x2_8 → tq_iv 0 1600 x3_8 → tz_O (fun z : Int32 × ez_H => (fun (z : Int32) (s : ez_H) => tq_iv 0 1 z ∧ tp p s) z.1 z.2) (ez_fix (fun _ _ _ _ => none) (z_X4_readSum_k3_8) ez_N σ_8 h0 x2_8 x3_8) := by
    intro σ_8 x2_8 x3_8 T_σ_8 i_x2_8 i_x3_8
    exact ez_fix_indn (fun n_8 (k_8 : ez_H → Nat → Int32 → Int32 → Option (Int32 × ez_H)) => ∀ (σ_8 : ez_H) (x2_8 : Int32) (x3_8 : Int32), tp p σ_8 → tq_iv 0 1 x2_8 → tq_iv 0 1600 x3_8 → (2147483647 - x3_8.toInt).toNat < n_8 → tz_O (fun z : Int32 × ez_H => (fun (z : Int32) (s : ez_H) => tq_iv 0 1 z ∧ tp p s) z.1 z.2) (k_8 σ_8 h0 x2_8 x3_8)) (by intros; rename_i h; exact absurd h (Nat.not_lt_zero _)) L_8 ez_N σ_8 x2_8 x3_8 T_σ_8 i_x2_8 i_x3_8 (tq_m0 x3_8)
  exact E_8 σ4378 t_2 (0 : Int32) T4378 i_t_2 (tq_w tk_0 (by decide) (by decide))
set_option maxRecDepth 4000 in
theorem tz_X4_readOne_k3 {p : tz_P} {σ : ez_H} {h0 : Nat} (hT : tp p σ) (k_h0 : tz_C h0 = some (3, 4, 0, 0)) : tz_O2 (fun (z : Int32) (s : ez_H) => tq_iv 0 1 z ∧ tp p s) (z_X4_readOne_k3 σ h0) := by
  show tz_O (fun z : Int32 × ez_H => (fun (z : Int32) (s : ez_H) => tq_iv 0 1 z ∧ tp p s) z.1 z.2) _
  unfold z_X4_readOne_k3
  refine tz_bd (tz_ob hT k_h0) (fun _ _ => ?_)
  refine tz_be (tg_4_3 hT k_h0) (fun t_1 e4405 k_t_1 => ?_)
  refine tz_be (tg_9_4 hT k_t_1) (fun t_4 e4404 i_t_4 => ?_)
  refine tz_if _ (fun c4403 => ?_) (fun c4403 => ?_)
  ·
    have i1_t_4 : tq_iv 18 18 t_4 := tq_cut (tq_top t_4) (tq_eqL c4403 tk_18) (by decide) (by decide)
    refine tz_bk e4405 ?_
    refine tz_b2 (tz_X9_advance hT k_t_1) (fun _ σ4388 ⟨T4388, W4388⟩ => ?_)
    refine tz_b2 (tz_X4_readOne_k4 T4388 k_h0) (fun t_34 σ4387 ⟨i_t_34, T4387⟩ => ?_)
    refine tz_be (tg_4_0 T4387 k_h0) (fun t_39 e4386 k_t_39 => ?_)
    refine tz_be (tg_3_1 T4387 k_t_39) (fun t_42 e4385 k_t_42 => ?_)
    refine tz_b2 (tz_X0_append T4387 k_t_42 (tq_w tk_5 (by decide) (by decide))) (fun _ σ4384 T4384 => ?_)
    refine tz_nr (tq_nr_boolean i_t_34) ?_
    exact tz_some ⟨i_t_34, T4384⟩
  ·
    refine tz_b2 (tz_X4_readSum_k3 hT k_h0) (fun t_54 σ4402 ⟨i_t_54, T4402⟩ => ?_)
    refine tz_bd (tz_X4_relationHere T4402 k_h0) (fun t_59 i_t_59 => ?_)
    have K_97 : ∀ (σ_97 : ez_H) (x2_97 : Int32), tp p σ_97 → tq_iv 0 1 x2_97 → (¬ x2_97 = 0 → tq_iv 1 1 t_54) → tz_O (fun z : Int32 × ez_H => (fun (z : Int32) (s : ez_H) => tq_iv 0 1 z ∧ tp p s) z.1 z.2) (z_X4_readOne_k3_97 σ_97 x2_97) := by
      intro σ_97 x2_97 T_σ_97 i_x2_97 g97_x2_97_t_54
      unfold z_X4_readOne_k3_97
      refine tz_nr (tq_nr_boolean i_x2_97) ?_
      exact tz_some ⟨i_x2_97, T_σ_97⟩
    refine tz_if _ (fun c4400 => ?_) (fun c4400 => ?_)
    ·
      have i2_t_54 : tq_iv 0 0 t_54 := tq_cut i_t_54 (tq_eqL c4400 tk_0) (by decide) (by decide)
      exact K_97 σ4402 t_54 T4402 (tq_w i2_t_54 (by decide) (by decide)) (fun h => absurd (tq_z0 i2_t_54) h)
    ·
      have i3_t_54 : tq_iv 1 1 t_54 := tq_w (tq_neLo c4400 i_t_54 tk_0) (by decide) (by decide)
      refine tz_if _ (fun c4399 => ?_) (fun c4399 => ?_)
      ·
        have i4_t_59 : tq_iv (-1) (-1) t_59 := tq_cut i_t_59 (tq_eqL c4399 tk_m1) (by decide) (by decide)
        exact K_97 σ4402 t_54 T4402 (tq_w i3_t_54 (by decide) (by decide)) (fun _ => i3_t_54)
      ·
        have i5_t_59 : tq_iv 0 10 t_59 := tq_w (tq_neLo c4399 i_t_59 tk_m1) (by decide) (by decide)
        refine tz_be (tg_4_3 T4402 k_h0) (fun t_73 e4398 k_t_73 => ?_)
        refine tz_b2 (tz_X9_advance T4402 k_t_73) (fun _ σ4397 ⟨T4397, W4397⟩ => ?_)
        refine tz_b2 (tz_X4_readSum_k3 T4397 k_h0) (fun t_81 σ4396 ⟨i_t_81, T4396⟩ => ?_)
        refine tz_be (tg_4_0 T4396 k_h0) (fun t_86 e4395 k_t_86 => ?_)
        refine tz_be (tg_3_1 T4396 k_t_86) (fun t_89 e4394 k_t_89 => ?_)
        refine tz_b2 (tz_X0_append T4396 k_t_89 (tq_w i5_t_59 (by decide) (by decide))) (fun _ σ4393 T4393 => ?_)
        exact K_97 σ4393 t_81 T4393 i_t_81 (fun _ => i3_t_54)
set_option maxRecDepth 4000 in
theorem tz_X4_readBoth_k3 {p : tz_P} {σ : ez_H} {h0 : Nat} (hT : tp p σ) (k_h0 : tz_C h0 = some (3, 4, 0, 0)) : tz_O2 (fun (z : Int32) (s : ez_H) => tq_iv 0 1 z ∧ tp p s) (z_X4_readBoth_k3 σ h0) := by
  show tz_O (fun z : Int32 × ez_H => (fun (z : Int32) (s : ez_H) => tq_iv 0 1 z ∧ tp p s) z.1 z.2) _
  unfold z_X4_readBoth_k3
  refine tz_bd (tz_ob hT k_h0) (fun _ _ => ?_)
  refine tz_b2 (tz_X4_readOne_k3 hT k_h0) (fun t_2 σ4426 ⟨i_t_2, T4426⟩ => ?_)
  have L_8 : ∀ (n_8 : Nat) (k_8 : ez_H → Nat → Int32 → Int32 → Option (Int32 × ez_H)), (∀ (σ_8 : ez_H) (x2_8 : Int32) (x3_8 : Int32), tp p σ_8 → tq_iv 0 1 x2_8 → tq_iv 0 1600 x3_8 → (2147483647 - x3_8.toInt).toNat < n_8 → tz_O (fun z : Int32 × ez_H => (fun (z : Int32) (s : ez_H) => tq_iv 0 1 z ∧ tp p s) z.1 z.2) (k_8 σ_8 h0 x2_8 x3_8)) → ∀ (σ_8 : ez_H) (x2_8 : Int32) (x3_8 : Int32), tp p σ_8 → tq_iv 0 1 x2_8 → tq_iv 0 1600 x3_8 → (2147483647 - x3_8.toInt).toNat < n_8 + 1 → tz_O (fun z : Int32 × ez_H => (fun (z : Int32) (s : ez_H) => tq_iv 0 1 z ∧ tp p s) z.1 z.2) (z_X4_readBoth_k3_8 k_8 σ_8 h0 x2_8 x3_8) := by
    intro n_8 k_8 hk_8 σ_8 x2_8 x3_8 T_σ_8 i_x2_8 i_x3_8 hn_8
    unfold z_X4_readBoth_k3_8
    have K_63 : tz_O (fun z : Int32 × ez_H => (fun (z : Int32) (s : ez_H) => tq_iv 0 1 z ∧ tp p s) z.1 z.2) (z_X4_readBoth_k3_63 σ_8 x2_8) := by
      unfold z_X4_readBoth_k3_63
      refine tz_nr (tq_nr_boolean i_x2_8) ?_
      exact tz_some ⟨i_x2_8, T_σ_8⟩
    refine tz_if _ (fun c4424 => ?_) (fun c4424 => ?_)
    ·
      have i1_x3_8 : tq_iv 1600 1600 x3_8 := tq_cut i_x3_8 (tq_leR c4424 tk_1600 i_x3_8) (by decide) (by decide)
      exact K_63 
    ·
      have i2_x3_8 : tq_iv 0 1599 x3_8 := tq_cut i_x3_8 (tq_ltL (tq_nle c4424) i_x3_8 tk_1600) (by decide) (by decide)
      refine tz_if _ (fun c4423 => ?_) (fun c4423 => ?_)
      ·
        have i3_x2_8 : tq_iv 0 0 x2_8 := tq_cut i_x2_8 (tq_eqL c4423 tk_0) (by decide) (by decide)
        exact K_63 
      ·
        have i4_x2_8 : tq_iv 1 1 x2_8 := tq_w (tq_neLo c4423 i_x2_8 tk_0) (by decide) (by decide)
        refine tz_be (tg_4_3 T_σ_8 k_h0) (fun t_20 e4422 k_t_20 => ?_)
        refine tz_be (tg_9_4 T_σ_8 k_t_20) (fun t_23 e4421 i_t_23 => ?_)
        refine tz_if _ (fun c4420 => ?_) (fun c4420 => ?_)
        ·
          have i5_t_23 : tq_iv 17 17 t_23 := tq_cut (tq_top t_23) (tq_eqL c4420 tk_17) (by decide) (by decide)
          refine tz_bk e4422 ?_
          refine tz_b2 (tz_X9_advance T_σ_8 k_t_20) (fun _ σ4417 ⟨T4417, W4417⟩ => ?_)
          refine tz_b2 (tz_X4_readOne_k3 T4417 k_h0) (fun t_40 σ4416 ⟨i_t_40, T4416⟩ => ?_)
          refine tz_be (tg_4_0 T4416 k_h0) (fun t_45 e4415 k_t_45 => ?_)
          refine tz_be (tg_3_1 T4416 k_t_45) (fun t_48 e4414 k_t_48 => ?_)
          refine tz_b2 (tz_X0_append T4416 k_t_48 (tq_w tk_7 (by decide) (by decide))) (fun _ σ4413 T4413 => ?_)
          refine tz_let (fun t_57 e4412 => ?_)
          have i6_t_57 : tq_iv 1 1600 t_57 := tq_w (tq_add e4412 i2_x3_8 tk_1 (by decide) (by decide)) (by decide) (by decide)
          exact hk_8 σ4413 t_40 t_57 T4413 i_t_40 (tq_w i6_t_57 (by decide) (by decide)) (tq_up e4412 i2_x3_8 tk_1 (by decide) (by decide) hn_8)
        ·
          exact K_63 
  have E_8 : ∀ (σ_8 : ez_H) (x2_8 : Int32) (x3_8 : Int32), tp p σ_8 → tq_iv 0 1 x2_8 → tq_iv 0 1600 x3_8 → tz_O (fun z : Int32 × ez_H => (fun (z : Int32) (s : ez_H) => tq_iv 0 1 z ∧ tp p s) z.1 z.2) (ez_fix (fun _ _ _ _ => none) (z_X4_readBoth_k3_8) ez_N σ_8 h0 x2_8 x3_8) := by
    intro σ_8 x2_8 x3_8 T_σ_8 i_x2_8 i_x3_8
    exact ez_fix_indn (fun n_8 (k_8 : ez_H → Nat → Int32 → Int32 → Option (Int32 × ez_H)) => ∀ (σ_8 : ez_H) (x2_8 : Int32) (x3_8 : Int32), tp p σ_8 → tq_iv 0 1 x2_8 → tq_iv 0 1600 x3_8 → (2147483647 - x3_8.toInt).toNat < n_8 → tz_O (fun z : Int32 × ez_H => (fun (z : Int32) (s : ez_H) => tq_iv 0 1 z ∧ tp p s) z.1 z.2) (k_8 σ_8 h0 x2_8 x3_8)) (by intros; rename_i h; exact absurd h (Nat.not_lt_zero _)) L_8 ez_N σ_8 x2_8 x3_8 T_σ_8 i_x2_8 i_x3_8 (tq_m0 x3_8)
  exact E_8 σ4426 t_2 (0 : Int32) T4426 i_t_2 (tq_w tk_0 (by decide) (by decide))
set_option maxRecDepth 4000 in
theorem tz_X4_readEither_k3 {p : tz_P} {σ : ez_H} {h0 : Nat} (hT : tp p σ) (k_h0 : tz_C h0 = some (3, 4, 0, 0)) : tz_O2 (fun (z : Int32) (s : ez_H) => tq_iv 0 1 z ∧ tp p s) (z_X4_readEither_k3 σ h0) := by
  show tz_O (fun z : Int32 × ez_H => (fun (z : Int32) (s : ez_H) => tq_iv 0 1 z ∧ tp p s) z.1 z.2) _
  unfold z_X4_readEither_k3
  refine tz_bd (tz_ob hT k_h0) (fun _ _ => ?_)
  refine tz_b2 (tz_X4_readBoth_k3 hT k_h0) (fun t_2 σ4447 ⟨i_t_2, T4447⟩ => ?_)
  have L_8 : ∀ (n_8 : Nat) (k_8 : ez_H → Nat → Int32 → Int32 → Option (Int32 × ez_H)), (∀ (σ_8 : ez_H) (x2_8 : Int32) (x3_8 : Int32), tp p σ_8 → tq_iv 0 1 x2_8 → tq_iv 0 1600 x3_8 → (2147483647 - x3_8.toInt).toNat < n_8 → tz_O (fun z : Int32 × ez_H => (fun (z : Int32) (s : ez_H) => tq_iv 0 1 z ∧ tp p s) z.1 z.2) (k_8 σ_8 h0 x2_8 x3_8)) → ∀ (σ_8 : ez_H) (x2_8 : Int32) (x3_8 : Int32), tp p σ_8 → tq_iv 0 1 x2_8 → tq_iv 0 1600 x3_8 → (2147483647 - x3_8.toInt).toNat < n_8 + 1 → tz_O (fun z : Int32 × ez_H => (fun (z : Int32) (s : ez_H) => tq_iv 0 1 z ∧ tp p s) z.1 z.2) (z_X4_readEither_k3_8 k_8 σ_8 h0 x2_8 x3_8) := by
    intro n_8 k_8 hk_8 σ_8 x2_8 x3_8 T_σ_8 i_x2_8 i_x3_8 hn_8
    unfold z_X4_readEither_k3_8
    have K_63 : tz_O (fun z : Int32 × ez_H => (fun (z : Int32) (s : ez_H) => tq_iv 0 1 z ∧ tp p s) z.1 z.2) (z_X4_readEither_k3_63 σ_8 x2_8) := by
      unfold z_X4_readEither_k3_63
      refine tz_nr (tq_nr_boolean i_x2_8) ?_
      exact tz_some ⟨i_x2_8, T_σ_8⟩
    refine tz_if _ (fun c4445 => ?_) (fun c4445 => ?_)
    ·
      have i1_x3_8 : tq_iv 1600 1600 x3_8 := tq_cut i_x3_8 (tq_leR c4445 tk_1600 i_x3_8) (by decide) (by decide)
      exact K_63 
    ·
      have i2_x3_8 : tq_iv 0 1599 x3_8 := tq_cut i_x3_8 (tq_ltL (tq_nle c4445) i_x3_8 tk_1600) (by decide) (by decide)
      refine tz_if _ (fun c4444 => ?_) (fun c4444 => ?_)
      ·
        have i3_x2_8 : tq_iv 0 0 x2_8 := tq_cut i_x2_8 (tq_eqL c4444 tk_0) (by decide) (by decide)
        exact K_63 
      ·
        have i4_x2_8 : tq_iv 1 1 x2_8 := tq_w (tq_neLo c4444 i_x2_8 tk_0) (by decide) (by decide)
        refine tz_be (tg_4_3 T_σ_8 k_h0) (fun t_20 e4443 k_t_20 => ?_)
        refine tz_be (tg_9_4 T_σ_8 k_t_20) (fun t_23 e4442 i_t_23 => ?_)
        refine tz_if _ (fun c4441 => ?_) (fun c4441 => ?_)
        ·
          have i5_t_23 : tq_iv 16 16 t_23 := tq_cut (tq_top t_23) (tq_eqL c4441 tk_16) (by decide) (by decide)
          refine tz_bk e4443 ?_
          refine tz_b2 (tz_X9_advance T_σ_8 k_t_20) (fun _ σ4438 ⟨T4438, W4438⟩ => ?_)
          refine tz_b2 (tz_X4_readBoth_k3 T4438 k_h0) (fun t_40 σ4437 ⟨i_t_40, T4437⟩ => ?_)
          refine tz_be (tg_4_0 T4437 k_h0) (fun t_45 e4436 k_t_45 => ?_)
          refine tz_be (tg_3_1 T4437 k_t_45) (fun t_48 e4435 k_t_48 => ?_)
          refine tz_b2 (tz_X0_append T4437 k_t_48 (tq_w tk_6 (by decide) (by decide))) (fun _ σ4434 T4434 => ?_)
          refine tz_let (fun t_57 e4433 => ?_)
          have i6_t_57 : tq_iv 1 1600 t_57 := tq_w (tq_add e4433 i2_x3_8 tk_1 (by decide) (by decide)) (by decide) (by decide)
          exact hk_8 σ4434 t_40 t_57 T4434 i_t_40 (tq_w i6_t_57 (by decide) (by decide)) (tq_up e4433 i2_x3_8 tk_1 (by decide) (by decide) hn_8)
        ·
          exact K_63 
  have E_8 : ∀ (σ_8 : ez_H) (x2_8 : Int32) (x3_8 : Int32), tp p σ_8 → tq_iv 0 1 x2_8 → tq_iv 0 1600 x3_8 → tz_O (fun z : Int32 × ez_H => (fun (z : Int32) (s : ez_H) => tq_iv 0 1 z ∧ tp p s) z.1 z.2) (ez_fix (fun _ _ _ _ => none) (z_X4_readEither_k3_8) ez_N σ_8 h0 x2_8 x3_8) := by
    intro σ_8 x2_8 x3_8 T_σ_8 i_x2_8 i_x3_8
    exact ez_fix_indn (fun n_8 (k_8 : ez_H → Nat → Int32 → Int32 → Option (Int32 × ez_H)) => ∀ (σ_8 : ez_H) (x2_8 : Int32) (x3_8 : Int32), tp p σ_8 → tq_iv 0 1 x2_8 → tq_iv 0 1600 x3_8 → (2147483647 - x3_8.toInt).toNat < n_8 → tz_O (fun z : Int32 × ez_H => (fun (z : Int32) (s : ez_H) => tq_iv 0 1 z ∧ tp p s) z.1 z.2) (k_8 σ_8 h0 x2_8 x3_8)) (by intros; rename_i h; exact absurd h (Nat.not_lt_zero _)) L_8 ez_N σ_8 x2_8 x3_8 T_σ_8 i_x2_8 i_x3_8 (tq_m0 x3_8)
  exact E_8 σ4447 t_2 (0 : Int32) T4447 i_t_2 (tq_w tk_0 (by decide) (by decide))
set_option maxRecDepth 4000 in
theorem tz_X4_readUnit_k2 {p : tz_P} {σ : ez_H} {h0 : Nat} (hT : tp p σ) (k_h0 : tz_C h0 = some (3, 4, 0, 0)) : tz_O2 (fun (z : Int32) (s : ez_H) => tq_iv 0 1 z ∧ tp p s) (z_X4_readUnit_k2 σ h0) := by
  show tz_O (fun z : Int32 × ez_H => (fun (z : Int32) (s : ez_H) => tq_iv 0 1 z ∧ tp p s) z.1 z.2) _
  unfold z_X4_readUnit_k2
  refine tz_bd (tz_ob hT k_h0) (fun _ _ => ?_)
  refine tz_be (tg_4_3 hT k_h0) (fun t_1 e4498 k_t_1 => ?_)
  refine tz_be (tg_9_4 hT k_t_1) (fun t_4 e4497 i_t_4 => ?_)
  have K_17 : ∀ (y0_17 : Int32), tq_iv 0 1 y0_17 → (¬ y0_17 = 0 → tq_iv 40 40 t_4) → tz_O (fun z : Int32 × ez_H => (fun (z : Int32) (s : ez_H) => tq_iv 0 1 z ∧ tp p s) z.1 z.2) (z_X4_readUnit_k2_17 σ h0 y0_17) := by
    intro y0_17 i_y0_17 g17_y0_17_t_4
    unfold z_X4_readUnit_k2_17
    refine tz_bd (tz_X4_unitHere hT k_h0) (fun t_19 i_t_19 => ?_)
    have K_47 : tz_O (fun z : Int32 × ez_H => (fun (z : Int32) (s : ez_H) => tq_iv 0 1 z ∧ tp p s) z.1 z.2) (z_X4_readUnit_k2_47 σ h0) := by
      unfold z_X4_readUnit_k2_47
      refine tz_b2 (tz_X4_refuse hT k_h0) (fun t_48 σ4479 ⟨i_t_48, T4479, W4479⟩ => ?_)
      refine tz_nr (tq_nr_boolean (tq_w i_t_48 (by decide) (by decide))) ?_
      exact tz_some ⟨(tq_w i_t_48 (by decide) (by decide)), T4479⟩
    have K_32 : tz_O (fun z : Int32 × ez_H => (fun (z : Int32) (s : ez_H) => tq_iv 0 1 z ∧ tp p s) z.1 z.2) (z_X4_readUnit_k2_32 σ h0 y0_17 t_19) := by
      unfold z_X4_readUnit_k2_32
      refine tz_be (tg_4_0 hT k_h0) (fun t_33 e4487 k_t_33 => ?_)
      refine tz_be (tg_3_1 hT k_t_33) (fun t_36 e4486 k_t_36 => ?_)
      refine tz_be (tg_0_0 hT k_t_36) (fun t_39 e4485 i_t_39 => ?_)
      refine tz_if _ (fun c4484 => ?_) (fun c4484 => ?_)
      ·
        have i1_t_39 : tq_iv (-2147483648) 29 t_39 := tq_cut (tq_top t_39) (tq_ltL c4484 (tq_top t_39) tk_30) (by decide) (by decide)
        have K_67 : tz_O (fun z : Int32 × ez_H => (fun (z : Int32) (s : ez_H) => tq_iv 0 1 z ∧ tp p s) z.1 z.2) (z_X4_readUnit_k2_67 σ h0 y0_17 t_19) := by
          unfold z_X4_readUnit_k2_67
          refine tz_bk e4487 ?_
          refine tz_bk e4486 ?_
          refine tz_ba e4485 (fun t_75 e4474 a4474 => ?_)
          have i2_t_75 : tq_iv (-2147483648) 29 t_75 := tq_eqL a4474 i1_t_39
          refine tz_let (fun t_79 e4473 => ?_)
          have i3_t_79 : tq_iv (-2147483647) 30 t_79 := tq_w (tq_add e4473 i2_t_75 tk_1 (by decide) (by decide)) (by decide) (by decide)
          refine tz_be (tw_0_0 hT k_t_36 (tq_top t_79)) (fun σ4472 e4472 T4472 => ?_)
          have K_105 : ∀ (σ_105 : ez_H), tp p σ_105 → tz_O (fun z : Int32 × ez_H => (fun (z : Int32) (s : ez_H) => tq_iv 0 1 z ∧ tp p s) z.1 z.2) (z_X4_readUnit_k2_105 σ_105 h0 y0_17) := by
            intro σ_105 T_σ_105
            unfold z_X4_readUnit_k2_105
            refine tz_be (tg_4_3 T_σ_105 k_h0) (fun t_106 e4463 k_t_106 => ?_)
            refine tz_b2 (tz_X9_advance T_σ_105 k_t_106) (fun _ σ4462 ⟨T4462, W4462⟩ => ?_)
            have K_140 : ∀ (σ_140 : ez_H) (y0_140 : Int32), tp p σ_140 → tq_iv 0 1 y0_140 → tz_O (fun z : Int32 × ez_H => (fun (z : Int32) (s : ez_H) => tq_iv 0 1 z ∧ tp p s) z.1 z.2) (z_X4_readUnit_k2_140 σ_140 y0_140) := by
              intro σ_140 y0_140 T_σ_140 i_y0_140
              unfold z_X4_readUnit_k2_140
              refine tz_nr (tq_nr_boolean i_y0_140) ?_
              exact tz_some ⟨i_y0_140, T_σ_140⟩
            have K_135 : ∀ (σ_135 : ez_H), tp p σ_135 → tz_O (fun z : Int32 × ez_H => (fun (z : Int32) (s : ez_H) => tq_iv 0 1 z ∧ tp p s) z.1 z.2) (z_X4_readUnit_k2_135 σ_135) := by
              intro σ_135 T_σ_135
              unfold z_X4_readUnit_k2_135
              exact K_140 σ_135 (1 : Int32) T_σ_135 (tq_w tk_1 (by decide) (by decide))
            refine tz_if _ (fun c4461 => ?_) (fun c4461 => ?_)
            ·
              have i4_y0_17 : tq_iv 0 0 y0_17 := tq_cut i_y0_17 (tq_eqL c4461 tk_0) (by decide) (by decide)
              exact K_135 σ4462 T4462
            ·
              have i5_t_4 : tq_iv 40 40 t_4 := tq_cut (tq_top t_4) (g17_y0_17_t_4 c4461) (by decide) (by decide)
              have i6_y0_17 : tq_iv 1 1 y0_17 := tq_w (tq_neLo c4461 i_y0_17 tk_0) (by decide) (by decide)
              refine tz_b2 (tz_X4_readEither_k3 T4462 k_h0) (fun t_120 σ4460 ⟨i_t_120, T4460⟩ => ?_)
              have K_139 : ∀ (σ_139 : ez_H), tp p σ_139 → tz_O (fun z : Int32 × ez_H => (fun (z : Int32) (s : ez_H) => tq_iv 0 1 z ∧ tp p s) z.1 z.2) (z_X4_readUnit_k2_139 σ_139) := by
                intro σ_139 T_σ_139
                unfold z_X4_readUnit_k2_139
                exact K_140 σ_139 (0 : Int32) T_σ_139 (tq_w tk_0 (by decide) (by decide))
              refine tz_if _ (fun c4459 => ?_) (fun c4459 => ?_)
              ·
                have i7_t_120 : tq_iv 0 0 t_120 := tq_cut i_t_120 (tq_eqL c4459 tk_0) (by decide) (by decide)
                exact K_139 σ4460 T4460
              ·
                have i8_t_120 : tq_iv 1 1 t_120 := tq_w (tq_neLo c4459 i_t_120 tk_0) (by decide) (by decide)
                refine tz_b2 (tz_X4_expect T4460 k_h0 (tq_w tk_41 (by decide) (by decide))) (fun t_129 σ4458 ⟨i_t_129, T4458, W4458⟩ => ?_)
                refine tz_if _ (fun c4457 => ?_) (fun c4457 => ?_)
                ·
                  have i9_t_129 : tq_iv 0 0 t_129 := tq_cut i_t_129 (tq_eqL c4457 tk_0) (by decide) (by decide)
                  exact K_139 σ4458 T4458
                ·
                  have i10_t_129 : tq_iv 1 1 t_129 := tq_w (tq_neLo c4457 i_t_129 tk_0) (by decide) (by decide)
                  exact K_135 σ4458 T4458
          refine tz_if _ (fun c4471 => ?_) (fun c4471 => ?_)
          ·
            have i11_y0_17 : tq_iv 0 0 y0_17 := tq_cut i_y0_17 (tq_eqL c4471 tk_0) (by decide) (by decide)
            refine tz_bk ((fr_pf_v e4472 (fun h => absurd h.2.1 (by decide))).2.2.trans e4487) ?_
            refine tz_bk ((fr_pf_v e4472 (fun h => absurd h.2.1 (by decide))).2.2.trans e4486) ?_
            refine tz_bk ((fr_pf_v e4472 (fun h => absurd h.2.1 (by decide))).2.2.trans e4498) ?_
            refine tz_be (tg_9_6 T4472 k_t_1) (fun t_99 e4466 i_t_99 => ?_)
            refine tz_b2 (tz_X0_append T4472 k_t_36 (tq_w i_t_19 (by decide) (by decide))) (fun _ σ4465 T4465 => ?_)
            exact K_105 σ4465 T4465
          ·
            have i12_t_4 : tq_iv 40 40 t_4 := tq_cut (tq_top t_4) (g17_y0_17_t_4 c4471) (by decide) (by decide)
            have i13_y0_17 : tq_iv 1 1 y0_17 := tq_w (tq_neLo c4471 i_y0_17 tk_0) (by decide) (by decide)
            exact K_105 σ4472 T4472
        refine tz_if _ (fun c4482 => ?_) (fun c4482 => ?_)
        ·
          have i14_y0_17 : tq_iv 0 0 y0_17 := tq_cut i_y0_17 (tq_eqL c4482 tk_0) (by decide) (by decide)
          exact K_67 
        ·
          have i15_t_4 : tq_iv 40 40 t_4 := tq_cut (tq_top t_4) (g17_y0_17_t_4 c4482) (by decide) (by decide)
          have i16_y0_17 : tq_iv 1 1 y0_17 := tq_w (tq_neLo c4482 i_y0_17 tk_0) (by decide) (by decide)
          exact K_67 
      ·
        have i17_t_39 : tq_iv 30 2147483647 t_39 := tq_cut (tq_top t_39) (tq_leR (tq_nlt c4484) tk_30 (tq_top t_39)) (by decide) (by decide)
        exact K_47 
    refine tz_if _ (fun c4492 => ?_) (fun c4492 => ?_)
    ·
      have i18_y0_17 : tq_iv 0 0 y0_17 := tq_cut i_y0_17 (tq_eqL c4492 tk_0) (by decide) (by decide)
      refine tz_if _ (fun c4490 => ?_) (fun c4490 => ?_)
      ·
        have i19_t_19 : tq_iv (-1) (-1) t_19 := tq_cut i_t_19 (tq_eqL c4490 tk_m1) (by decide) (by decide)
        exact K_47 
      ·
        have i20_t_19 : tq_iv 0 4 t_19 := tq_w (tq_neLo c4490 i_t_19 tk_m1) (by decide) (by decide)
        exact K_32 
    ·
      have i21_t_4 : tq_iv 40 40 t_4 := tq_cut (tq_top t_4) (g17_y0_17_t_4 c4492) (by decide) (by decide)
      have i22_y0_17 : tq_iv 1 1 y0_17 := tq_w (tq_neLo c4492 i_y0_17 tk_0) (by decide) (by decide)
      exact K_32 
  refine tz_if _ (fun c4496 => ?_) (fun c4496 => ?_)
  ·
    have i23_t_4 : tq_iv 40 40 t_4 := tq_cut (tq_top t_4) (tq_eqL c4496 tk_40) (by decide) (by decide)
    exact K_17 (1 : Int32) (tq_w tk_1 (by decide) (by decide)) (fun _ => i23_t_4)
  ·
    exact K_17 (0 : Int32) (tq_w tk_0 (by decide) (by decide)) (fun h => absurd rfl h)
set_option maxRecDepth 4000 in
theorem tz_X4_readTerm_k2 {p : tz_P} {σ : ez_H} {h0 : Nat} (hT : tp p σ) (k_h0 : tz_C h0 = some (3, 4, 0, 0)) : tz_O2 (fun (z : Int32) (s : ez_H) => tq_iv 0 1 z ∧ tp p s) (z_X4_readTerm_k2 σ h0) := by
  show tz_O (fun z : Int32 × ez_H => (fun (z : Int32) (s : ez_H) => tq_iv 0 1 z ∧ tp p s) z.1 z.2) _
  unfold z_X4_readTerm_k2
  refine tz_bd (tz_ob hT k_h0) (fun _ _ => ?_)
  refine tz_b2 (tz_X4_readUnit_k2 hT k_h0) (fun t_2 σ4519 ⟨i_t_2, T4519⟩ => ?_)
  have L_8 : ∀ (n_8 : Nat) (k_8 : ez_H → Nat → Int32 → Int32 → Option (Int32 × ez_H)), (∀ (σ_8 : ez_H) (x2_8 : Int32) (x3_8 : Int32), tp p σ_8 → tq_iv 0 1 x2_8 → tq_iv 0 1600 x3_8 → (2147483647 - x3_8.toInt).toNat < n_8 → tz_O (fun z : Int32 × ez_H => (fun (z : Int32) (s : ez_H) => tq_iv 0 1 z ∧ tp p s) z.1 z.2) (k_8 σ_8 h0 x2_8 x3_8)) → ∀ (σ_8 : ez_H) (x2_8 : Int32) (x3_8 : Int32), tp p σ_8 → tq_iv 0 1 x2_8 → tq_iv 0 1600 x3_8 → (2147483647 - x3_8.toInt).toNat < n_8 + 1 → tz_O (fun z : Int32 × ez_H => (fun (z : Int32) (s : ez_H) => tq_iv 0 1 z ∧ tp p s) z.1 z.2) (z_X4_readTerm_k2_8 k_8 σ_8 h0 x2_8 x3_8) := by
    intro n_8 k_8 hk_8 σ_8 x2_8 x3_8 T_σ_8 i_x2_8 i_x3_8 hn_8
    unfold z_X4_readTerm_k2_8
    have K_65 : tz_O (fun z : Int32 × ez_H => (fun (z : Int32) (s : ez_H) => tq_iv 0 1 z ∧ tp p s) z.1 z.2) (z_X4_readTerm_k2_65 σ_8 x2_8) := by
      unfold z_X4_readTerm_k2_65
      refine tz_nr (tq_nr_boolean i_x2_8) ?_
      exact tz_some ⟨i_x2_8, T_σ_8⟩
    refine tz_if _ (fun c4517 => ?_) (fun c4517 => ?_)
    ·
      have i1_x3_8 : tq_iv 1600 1600 x3_8 := tq_cut i_x3_8 (tq_leR c4517 tk_1600 i_x3_8) (by decide) (by decide)
      exact K_65 
    ·
      have i2_x3_8 : tq_iv 0 1599 x3_8 := tq_cut i_x3_8 (tq_ltL (tq_nle c4517) i_x3_8 tk_1600) (by decide) (by decide)
      refine tz_if _ (fun c4516 => ?_) (fun c4516 => ?_)
      ·
        have i3_x2_8 : tq_iv 0 0 x2_8 := tq_cut i_x2_8 (tq_eqL c4516 tk_0) (by decide) (by decide)
        exact K_65 
      ·
        have i4_x2_8 : tq_iv 1 1 x2_8 := tq_w (tq_neLo c4516 i_x2_8 tk_0) (by decide) (by decide)
        refine tz_bd (tz_X4_productHere T_σ_8 k_h0) (fun t_20 i_t_20 => ?_)
        refine tz_if _ (fun c4514 => ?_) (fun c4514 => ?_)
        ·
          have i5_t_20 : tq_iv (-1) (-1) t_20 := tq_cut i_t_20 (tq_eqL c4514 tk_m1) (by decide) (by decide)
          exact K_65 
        ·
          have i6_t_20 : tq_iv 0 15 t_20 := tq_w (tq_neLo c4514 i_t_20 tk_m1) (by decide) (by decide)
          refine tz_bd (tz_X4_productHere T_σ_8 k_h0) (fun t_28 i_t_28 => ?_)
          refine tz_be (tg_4_3 T_σ_8 k_h0) (fun t_34 e4512 k_t_34 => ?_)
          refine tz_b2 (tz_X9_advance T_σ_8 k_t_34) (fun _ σ4511 ⟨T4511, W4511⟩ => ?_)
          refine tz_b2 (tz_X4_readUnit_k2 T4511 k_h0) (fun t_42 σ4510 ⟨i_t_42, T4510⟩ => ?_)
          refine tz_be (tg_4_0 T4510 k_h0) (fun t_47 e4509 k_t_47 => ?_)
          refine tz_be (tg_3_1 T4510 k_t_47) (fun t_50 e4508 k_t_50 => ?_)
          refine tz_b2 (tz_X0_append T4510 k_t_50 i_t_28) (fun _ σ4507 T4507 => ?_)
          refine tz_let (fun t_59 e4506 => ?_)
          have i7_t_59 : tq_iv 1 1600 t_59 := tq_w (tq_add e4506 i2_x3_8 tk_1 (by decide) (by decide)) (by decide) (by decide)
          exact hk_8 σ4507 t_42 t_59 T4507 i_t_42 (tq_w i7_t_59 (by decide) (by decide)) (tq_up e4506 i2_x3_8 tk_1 (by decide) (by decide) hn_8)
  have E_8 : ∀ (σ_8 : ez_H) (x2_8 : Int32) (x3_8 : Int32), tp p σ_8 → tq_iv 0 1 x2_8 → tq_iv 0 1600 x3_8 → tz_O (fun z : Int32 × ez_H => (fun (z : Int32) (s : ez_H) => tq_iv 0 1 z ∧ tp p s) z.1 z.2) (ez_fix (fun _ _ _ _ => none) (z_X4_readTerm_k2_8) ez_N σ_8 h0 x2_8 x3_8) := by
    intro σ_8 x2_8 x3_8 T_σ_8 i_x2_8 i_x3_8
    exact ez_fix_indn (fun n_8 (k_8 : ez_H → Nat → Int32 → Int32 → Option (Int32 × ez_H)) => ∀ (σ_8 : ez_H) (x2_8 : Int32) (x3_8 : Int32), tp p σ_8 → tq_iv 0 1 x2_8 → tq_iv 0 1600 x3_8 → (2147483647 - x3_8.toInt).toNat < n_8 → tz_O (fun z : Int32 × ez_H => (fun (z : Int32) (s : ez_H) => tq_iv 0 1 z ∧ tp p s) z.1 z.2) (k_8 σ_8 h0 x2_8 x3_8)) (by intros; rename_i h; exact absurd h (Nat.not_lt_zero _)) L_8 ez_N σ_8 x2_8 x3_8 T_σ_8 i_x2_8 i_x3_8 (tq_m0 x3_8)
  exact E_8 σ4519 t_2 (0 : Int32) T4519 i_t_2 (tq_w tk_0 (by decide) (by decide))
set_option maxRecDepth 4000 in
theorem tz_X4_readSum_k2 {p : tz_P} {σ : ez_H} {h0 : Nat} (hT : tp p σ) (k_h0 : tz_C h0 = some (3, 4, 0, 0)) : tz_O2 (fun (z : Int32) (s : ez_H) => tq_iv 0 1 z ∧ tp p s) (z_X4_readSum_k2 σ h0) := by
  show tz_O (fun z : Int32 × ez_H => (fun (z : Int32) (s : ez_H) => tq_iv 0 1 z ∧ tp p s) z.1 z.2) _
  unfold z_X4_readSum_k2
  refine tz_bd (tz_ob hT k_h0) (fun _ _ => ?_)
  refine tz_b2 (tz_X4_readTerm_k2 hT k_h0) (fun t_2 σ4550 ⟨i_t_2, T4550⟩ => ?_)
  have L_8 : ∀ (n_8 : Nat) (k_8 : ez_H → Nat → Int32 → Int32 → Option (Int32 × ez_H)), (∀ (σ_8 : ez_H) (x2_8 : Int32) (x3_8 : Int32), tp p σ_8 → tq_iv 0 1 x2_8 → tq_iv 0 1600 x3_8 → (2147483647 - x3_8.toInt).toNat < n_8 → tz_O (fun z : Int32 × ez_H => (fun (z : Int32) (s : ez_H) => tq_iv 0 1 z ∧ tp p s) z.1 z.2) (k_8 σ_8 h0 x2_8 x3_8)) → ∀ (σ_8 : ez_H) (x2_8 : Int32) (x3_8 : Int32), tp p σ_8 → tq_iv 0 1 x2_8 → tq_iv 0 1600 x3_8 → (2147483647 - x3_8.toInt).toNat < n_8 + 1 → tz_O (fun z : Int32 × ez_H => (fun (z : Int32) (s : ez_H) => tq_iv 0 1 z ∧ tp p s) z.1 z.2) (z_X4_readSum_k2_8 k_8 σ_8 h0 x2_8 x3_8) := by
    intro n_8 k_8 hk_8 σ_8 x2_8 x3_8 T_σ_8 i_x2_8 i_x3_8 hn_8
    unfold z_X4_readSum_k2_8
    have K_96 : tz_O (fun z : Int32 × ez_H => (fun (z : Int32) (s : ez_H) => tq_iv 0 1 z ∧ tp p s) z.1 z.2) (z_X4_readSum_k2_96 σ_8 x2_8) := by
      unfold z_X4_readSum_k2_96
      refine tz_nr (tq_nr_boolean i_x2_8) ?_
      exact tz_some ⟨i_x2_8, T_σ_8⟩
    refine tz_if _ (fun c4548 => ?_) (fun c4548 => ?_)
    ·
      have i1_x3_8 : tq_iv 1600 1600 x3_8 := tq_cut i_x3_8 (tq_leR c4548 tk_1600 i_x3_8) (by decide) (by decide)
      exact K_96 
    ·
      have i2_x3_8 : tq_iv 0 1599 x3_8 := tq_cut i_x3_8 (tq_ltL (tq_nle c4548) i_x3_8 tk_1600) (by decide) (by decide)
      refine tz_if _ (fun c4547 => ?_) (fun c4547 => ?_)
      ·
        have i3_x2_8 : tq_iv 0 0 x2_8 := tq_cut i_x2_8 (tq_eqL c4547 tk_0) (by decide) (by decide)
        exact K_96 
      ·
        have i4_x2_8 : tq_iv 1 1 x2_8 := tq_w (tq_neLo c4547 i_x2_8 tk_0) (by decide) (by decide)
        refine tz_be (tg_4_3 T_σ_8 k_h0) (fun t_20 e4546 k_t_20 => ?_)
        refine tz_be (tg_9_4 T_σ_8 k_t_20) (fun t_23 e4545 i_t_23 => ?_)
        have K_43 : tz_O (fun z : Int32 × ez_H => (fun (z : Int32) (s : ez_H) => tq_iv 0 1 z ∧ tp p s) z.1 z.2) (z_X4_readSum_k2_43 k_8 σ_8 h0 x3_8) := by
          unfold z_X4_readSum_k2_43
          refine tz_bk e4546 ?_
          refine tz_ba e4545 (fun t_47 e4534 a4534 => ?_)
          have K_62 : ∀ (y0_62 : Int32), tq_iv 11 12 y0_62 → tz_O (fun z : Int32 × ez_H => (fun (z : Int32) (s : ez_H) => tq_iv 0 1 z ∧ tp p s) z.1 z.2) (z_X4_readSum_k2_62 k_8 σ_8 h0 x3_8 y0_62) := by
            intro y0_62 i_y0_62
            unfold z_X4_readSum_k2_62
            refine tz_bk e4546 ?_
            refine tz_b2 (tz_X9_advance T_σ_8 k_t_20) (fun _ σ4529 ⟨T4529, W4529⟩ => ?_)
            refine tz_b2 (tz_X4_readTerm_k2 T4529 k_h0) (fun t_73 σ4528 ⟨i_t_73, T4528⟩ => ?_)
            refine tz_be (tg_4_0 T4528 k_h0) (fun t_78 e4527 k_t_78 => ?_)
            refine tz_be (tg_3_1 T4528 k_t_78) (fun t_81 e4526 k_t_81 => ?_)
            refine tz_b2 (tz_X0_append T4528 k_t_81 (tq_w i_y0_62 (by decide) (by decide))) (fun _ σ4525 T4525 => ?_)
            refine tz_let (fun t_90 e4524 => ?_)
            have i5_t_90 : tq_iv 1 1600 t_90 := tq_w (tq_add e4524 i2_x3_8 tk_1 (by decide) (by decide)) (by decide) (by decide)
            exact hk_8 σ4525 t_73 t_90 T4525 i_t_73 (tq_w i5_t_90 (by decide) (by decide)) (tq_up e4524 i2_x3_8 tk_1 (by decide) (by decide) hn_8)
          refine tz_if _ (fun c4533 => ?_) (fun c4533 => ?_)
          ·
            have i6_t_47 : tq_iv 43 43 t_47 := tq_cut (tq_top t_47) (tq_eqL c4533 tk_43) (by decide) (by decide)
            exact K_62 (11 : Int32) (tq_w tk_11 (by decide) (by decide))
          ·
            exact K_62 (12 : Int32) (tq_w tk_12 (by decide) (by decide))
        refine tz_if _ (fun c4544 => ?_) (fun c4544 => ?_)
        ·
          have i7_t_23 : tq_iv 43 43 t_23 := tq_cut (tq_top t_23) (tq_eqL c4544 tk_43) (by decide) (by decide)
          exact K_43 
        ·
          refine tz_bk e4546 ?_
          refine tz_ba e4545 (fun t_35 e4542 a4542 => ?_)
          refine tz_if _ (fun c4541 => ?_) (fun c4541 => ?_)
          ·
            have i8_t_35 : tq_iv 45 45 t_35 := tq_cut (tq_top t_35) (tq_eqL c4541 tk_45) (by decide) (by decide)
            exact K_43 
          ·
            exact K_96 
  have E_8 : ∀ (σ_8 : ez_H) (x2_8 : Int32) (x3_8 : Int32), tp p σ_8 → tq_iv 0 1 x2_8 → tq_iv 0 1600 x3_8 → tz_O (fun z : Int32 × ez_H => (fun (z : Int32) (s : ez_H) => tq_iv 0 1 z ∧ tp p s) z.1 z.2) (ez_fix (fun _ _ _ _ => none) (z_X4_readSum_k2_8) ez_N σ_8 h0 x2_8 x3_8) := by
    intro σ_8 x2_8 x3_8 T_σ_8 i_x2_8 i_x3_8
    exact ez_fix_indn (fun n_8 (k_8 : ez_H → Nat → Int32 → Int32 → Option (Int32 × ez_H)) => ∀ (σ_8 : ez_H) (x2_8 : Int32) (x3_8 : Int32), tp p σ_8 → tq_iv 0 1 x2_8 → tq_iv 0 1600 x3_8 → (2147483647 - x3_8.toInt).toNat < n_8 → tz_O (fun z : Int32 × ez_H => (fun (z : Int32) (s : ez_H) => tq_iv 0 1 z ∧ tp p s) z.1 z.2) (k_8 σ_8 h0 x2_8 x3_8)) (by intros; rename_i h; exact absurd h (Nat.not_lt_zero _)) L_8 ez_N σ_8 x2_8 x3_8 T_σ_8 i_x2_8 i_x3_8 (tq_m0 x3_8)
  exact E_8 σ4550 t_2 (0 : Int32) T4550 i_t_2 (tq_w tk_0 (by decide) (by decide))
set_option maxRecDepth 4000 in
theorem tz_X4_readOne_k2 {p : tz_P} {σ : ez_H} {h0 : Nat} (hT : tp p σ) (k_h0 : tz_C h0 = some (3, 4, 0, 0)) : tz_O2 (fun (z : Int32) (s : ez_H) => tq_iv 0 1 z ∧ tp p s) (z_X4_readOne_k2 σ h0) := by
  show tz_O (fun z : Int32 × ez_H => (fun (z : Int32) (s : ez_H) => tq_iv 0 1 z ∧ tp p s) z.1 z.2) _
  unfold z_X4_readOne_k2
  refine tz_bd (tz_ob hT k_h0) (fun _ _ => ?_)
  refine tz_be (tg_4_3 hT k_h0) (fun t_1 e4577 k_t_1 => ?_)
  refine tz_be (tg_9_4 hT k_t_1) (fun t_4 e4576 i_t_4 => ?_)
  refine tz_if _ (fun c4575 => ?_) (fun c4575 => ?_)
  ·
    have i1_t_4 : tq_iv 18 18 t_4 := tq_cut (tq_top t_4) (tq_eqL c4575 tk_18) (by decide) (by decide)
    refine tz_bk e4577 ?_
    refine tz_b2 (tz_X9_advance hT k_t_1) (fun _ σ4560 ⟨T4560, W4560⟩ => ?_)
    refine tz_b2 (tz_X4_readOne_k3 T4560 k_h0) (fun t_34 σ4559 ⟨i_t_34, T4559⟩ => ?_)
    refine tz_be (tg_4_0 T4559 k_h0) (fun t_39 e4558 k_t_39 => ?_)
    refine tz_be (tg_3_1 T4559 k_t_39) (fun t_42 e4557 k_t_42 => ?_)
    refine tz_b2 (tz_X0_append T4559 k_t_42 (tq_w tk_5 (by decide) (by decide))) (fun _ σ4556 T4556 => ?_)
    refine tz_nr (tq_nr_boolean i_t_34) ?_
    exact tz_some ⟨i_t_34, T4556⟩
  ·
    refine tz_b2 (tz_X4_readSum_k2 hT k_h0) (fun t_54 σ4574 ⟨i_t_54, T4574⟩ => ?_)
    refine tz_bd (tz_X4_relationHere T4574 k_h0) (fun t_59 i_t_59 => ?_)
    have K_97 : ∀ (σ_97 : ez_H) (x2_97 : Int32), tp p σ_97 → tq_iv 0 1 x2_97 → (¬ x2_97 = 0 → tq_iv 1 1 t_54) → tz_O (fun z : Int32 × ez_H => (fun (z : Int32) (s : ez_H) => tq_iv 0 1 z ∧ tp p s) z.1 z.2) (z_X4_readOne_k2_97 σ_97 x2_97) := by
      intro σ_97 x2_97 T_σ_97 i_x2_97 g97_x2_97_t_54
      unfold z_X4_readOne_k2_97
      refine tz_nr (tq_nr_boolean i_x2_97) ?_
      exact tz_some ⟨i_x2_97, T_σ_97⟩
    refine tz_if _ (fun c4572 => ?_) (fun c4572 => ?_)
    ·
      have i2_t_54 : tq_iv 0 0 t_54 := tq_cut i_t_54 (tq_eqL c4572 tk_0) (by decide) (by decide)
      exact K_97 σ4574 t_54 T4574 (tq_w i2_t_54 (by decide) (by decide)) (fun h => absurd (tq_z0 i2_t_54) h)
    ·
      have i3_t_54 : tq_iv 1 1 t_54 := tq_w (tq_neLo c4572 i_t_54 tk_0) (by decide) (by decide)
      refine tz_if _ (fun c4571 => ?_) (fun c4571 => ?_)
      ·
        have i4_t_59 : tq_iv (-1) (-1) t_59 := tq_cut i_t_59 (tq_eqL c4571 tk_m1) (by decide) (by decide)
        exact K_97 σ4574 t_54 T4574 (tq_w i3_t_54 (by decide) (by decide)) (fun _ => i3_t_54)
      ·
        have i5_t_59 : tq_iv 0 10 t_59 := tq_w (tq_neLo c4571 i_t_59 tk_m1) (by decide) (by decide)
        refine tz_be (tg_4_3 T4574 k_h0) (fun t_73 e4570 k_t_73 => ?_)
        refine tz_b2 (tz_X9_advance T4574 k_t_73) (fun _ σ4569 ⟨T4569, W4569⟩ => ?_)
        refine tz_b2 (tz_X4_readSum_k2 T4569 k_h0) (fun t_81 σ4568 ⟨i_t_81, T4568⟩ => ?_)
        refine tz_be (tg_4_0 T4568 k_h0) (fun t_86 e4567 k_t_86 => ?_)
        refine tz_be (tg_3_1 T4568 k_t_86) (fun t_89 e4566 k_t_89 => ?_)
        refine tz_b2 (tz_X0_append T4568 k_t_89 (tq_w i5_t_59 (by decide) (by decide))) (fun _ σ4565 T4565 => ?_)
        exact K_97 σ4565 t_81 T4565 i_t_81 (fun _ => i3_t_54)
set_option maxRecDepth 4000 in
theorem tz_X4_readBoth_k2 {p : tz_P} {σ : ez_H} {h0 : Nat} (hT : tp p σ) (k_h0 : tz_C h0 = some (3, 4, 0, 0)) : tz_O2 (fun (z : Int32) (s : ez_H) => tq_iv 0 1 z ∧ tp p s) (z_X4_readBoth_k2 σ h0) := by
  show tz_O (fun z : Int32 × ez_H => (fun (z : Int32) (s : ez_H) => tq_iv 0 1 z ∧ tp p s) z.1 z.2) _
  unfold z_X4_readBoth_k2
  refine tz_bd (tz_ob hT k_h0) (fun _ _ => ?_)
  refine tz_b2 (tz_X4_readOne_k2 hT k_h0) (fun t_2 σ4598 ⟨i_t_2, T4598⟩ => ?_)
  have L_8 : ∀ (n_8 : Nat) (k_8 : ez_H → Nat → Int32 → Int32 → Option (Int32 × ez_H)), (∀ (σ_8 : ez_H) (x2_8 : Int32) (x3_8 : Int32), tp p σ_8 → tq_iv 0 1 x2_8 → tq_iv 0 1600 x3_8 → (2147483647 - x3_8.toInt).toNat < n_8 → tz_O (fun z : Int32 × ez_H => (fun (z : Int32) (s : ez_H) => tq_iv 0 1 z ∧ tp p s) z.1 z.2) (k_8 σ_8 h0 x2_8 x3_8)) → ∀ (σ_8 : ez_H) (x2_8 : Int32) (x3_8 : Int32), tp p σ_8 → tq_iv 0 1 x2_8 → tq_iv 0 1600 x3_8 → (2147483647 - x3_8.toInt).toNat < n_8 + 1 → tz_O (fun z : Int32 × ez_H => (fun (z : Int32) (s : ez_H) => tq_iv 0 1 z ∧ tp p s) z.1 z.2) (z_X4_readBoth_k2_8 k_8 σ_8 h0 x2_8 x3_8) := by
    intro n_8 k_8 hk_8 σ_8 x2_8 x3_8 T_σ_8 i_x2_8 i_x3_8 hn_8
    unfold z_X4_readBoth_k2_8
    have K_63 : tz_O (fun z : Int32 × ez_H => (fun (z : Int32) (s : ez_H) => tq_iv 0 1 z ∧ tp p s) z.1 z.2) (z_X4_readBoth_k2_63 σ_8 x2_8) := by
      unfold z_X4_readBoth_k2_63
      refine tz_nr (tq_nr_boolean i_x2_8) ?_
      exact tz_some ⟨i_x2_8, T_σ_8⟩
    refine tz_if _ (fun c4596 => ?_) (fun c4596 => ?_)
    ·
      have i1_x3_8 : tq_iv 1600 1600 x3_8 := tq_cut i_x3_8 (tq_leR c4596 tk_1600 i_x3_8) (by decide) (by decide)
      exact K_63 
    ·
      have i2_x3_8 : tq_iv 0 1599 x3_8 := tq_cut i_x3_8 (tq_ltL (tq_nle c4596) i_x3_8 tk_1600) (by decide) (by decide)
      refine tz_if _ (fun c4595 => ?_) (fun c4595 => ?_)
      ·
        have i3_x2_8 : tq_iv 0 0 x2_8 := tq_cut i_x2_8 (tq_eqL c4595 tk_0) (by decide) (by decide)
        exact K_63 
      ·
        have i4_x2_8 : tq_iv 1 1 x2_8 := tq_w (tq_neLo c4595 i_x2_8 tk_0) (by decide) (by decide)
        refine tz_be (tg_4_3 T_σ_8 k_h0) (fun t_20 e4594 k_t_20 => ?_)
        refine tz_be (tg_9_4 T_σ_8 k_t_20) (fun t_23 e4593 i_t_23 => ?_)
        refine tz_if _ (fun c4592 => ?_) (fun c4592 => ?_)
        ·
          have i5_t_23 : tq_iv 17 17 t_23 := tq_cut (tq_top t_23) (tq_eqL c4592 tk_17) (by decide) (by decide)
          refine tz_bk e4594 ?_
          refine tz_b2 (tz_X9_advance T_σ_8 k_t_20) (fun _ σ4589 ⟨T4589, W4589⟩ => ?_)
          refine tz_b2 (tz_X4_readOne_k2 T4589 k_h0) (fun t_40 σ4588 ⟨i_t_40, T4588⟩ => ?_)
          refine tz_be (tg_4_0 T4588 k_h0) (fun t_45 e4587 k_t_45 => ?_)
          refine tz_be (tg_3_1 T4588 k_t_45) (fun t_48 e4586 k_t_48 => ?_)
          refine tz_b2 (tz_X0_append T4588 k_t_48 (tq_w tk_7 (by decide) (by decide))) (fun _ σ4585 T4585 => ?_)
          refine tz_let (fun t_57 e4584 => ?_)
          have i6_t_57 : tq_iv 1 1600 t_57 := tq_w (tq_add e4584 i2_x3_8 tk_1 (by decide) (by decide)) (by decide) (by decide)
          exact hk_8 σ4585 t_40 t_57 T4585 i_t_40 (tq_w i6_t_57 (by decide) (by decide)) (tq_up e4584 i2_x3_8 tk_1 (by decide) (by decide) hn_8)
        ·
          exact K_63 
  have E_8 : ∀ (σ_8 : ez_H) (x2_8 : Int32) (x3_8 : Int32), tp p σ_8 → tq_iv 0 1 x2_8 → tq_iv 0 1600 x3_8 → tz_O (fun z : Int32 × ez_H => (fun (z : Int32) (s : ez_H) => tq_iv 0 1 z ∧ tp p s) z.1 z.2) (ez_fix (fun _ _ _ _ => none) (z_X4_readBoth_k2_8) ez_N σ_8 h0 x2_8 x3_8) := by
    intro σ_8 x2_8 x3_8 T_σ_8 i_x2_8 i_x3_8
    exact ez_fix_indn (fun n_8 (k_8 : ez_H → Nat → Int32 → Int32 → Option (Int32 × ez_H)) => ∀ (σ_8 : ez_H) (x2_8 : Int32) (x3_8 : Int32), tp p σ_8 → tq_iv 0 1 x2_8 → tq_iv 0 1600 x3_8 → (2147483647 - x3_8.toInt).toNat < n_8 → tz_O (fun z : Int32 × ez_H => (fun (z : Int32) (s : ez_H) => tq_iv 0 1 z ∧ tp p s) z.1 z.2) (k_8 σ_8 h0 x2_8 x3_8)) (by intros; rename_i h; exact absurd h (Nat.not_lt_zero _)) L_8 ez_N σ_8 x2_8 x3_8 T_σ_8 i_x2_8 i_x3_8 (tq_m0 x3_8)
  exact E_8 σ4598 t_2 (0 : Int32) T4598 i_t_2 (tq_w tk_0 (by decide) (by decide))
set_option maxRecDepth 4000 in
theorem tz_X4_readEither_k2 {p : tz_P} {σ : ez_H} {h0 : Nat} (hT : tp p σ) (k_h0 : tz_C h0 = some (3, 4, 0, 0)) : tz_O2 (fun (z : Int32) (s : ez_H) => tq_iv 0 1 z ∧ tp p s) (z_X4_readEither_k2 σ h0) := by
  show tz_O (fun z : Int32 × ez_H => (fun (z : Int32) (s : ez_H) => tq_iv 0 1 z ∧ tp p s) z.1 z.2) _
  unfold z_X4_readEither_k2
  refine tz_bd (tz_ob hT k_h0) (fun _ _ => ?_)
  refine tz_b2 (tz_X4_readBoth_k2 hT k_h0) (fun t_2 σ4619 ⟨i_t_2, T4619⟩ => ?_)
  have L_8 : ∀ (n_8 : Nat) (k_8 : ez_H → Nat → Int32 → Int32 → Option (Int32 × ez_H)), (∀ (σ_8 : ez_H) (x2_8 : Int32) (x3_8 : Int32), tp p σ_8 → tq_iv 0 1 x2_8 → tq_iv 0 1600 x3_8 → (2147483647 - x3_8.toInt).toNat < n_8 → tz_O (fun z : Int32 × ez_H => (fun (z : Int32) (s : ez_H) => tq_iv 0 1 z ∧ tp p s) z.1 z.2) (k_8 σ_8 h0 x2_8 x3_8)) → ∀ (σ_8 : ez_H) (x2_8 : Int32) (x3_8 : Int32), tp p σ_8 → tq_iv 0 1 x2_8 → tq_iv 0 1600 x3_8 → (2147483647 - x3_8.toInt).toNat < n_8 + 1 → tz_O (fun z : Int32 × ez_H => (fun (z : Int32) (s : ez_H) => tq_iv 0 1 z ∧ tp p s) z.1 z.2) (z_X4_readEither_k2_8 k_8 σ_8 h0 x2_8 x3_8) := by
    intro n_8 k_8 hk_8 σ_8 x2_8 x3_8 T_σ_8 i_x2_8 i_x3_8 hn_8
    unfold z_X4_readEither_k2_8
    have K_63 : tz_O (fun z : Int32 × ez_H => (fun (z : Int32) (s : ez_H) => tq_iv 0 1 z ∧ tp p s) z.1 z.2) (z_X4_readEither_k2_63 σ_8 x2_8) := by
      unfold z_X4_readEither_k2_63
      refine tz_nr (tq_nr_boolean i_x2_8) ?_
      exact tz_some ⟨i_x2_8, T_σ_8⟩
    refine tz_if _ (fun c4617 => ?_) (fun c4617 => ?_)
    ·
      have i1_x3_8 : tq_iv 1600 1600 x3_8 := tq_cut i_x3_8 (tq_leR c4617 tk_1600 i_x3_8) (by decide) (by decide)
      exact K_63 
    ·
      have i2_x3_8 : tq_iv 0 1599 x3_8 := tq_cut i_x3_8 (tq_ltL (tq_nle c4617) i_x3_8 tk_1600) (by decide) (by decide)
      refine tz_if _ (fun c4616 => ?_) (fun c4616 => ?_)
      ·
        have i3_x2_8 : tq_iv 0 0 x2_8 := tq_cut i_x2_8 (tq_eqL c4616 tk_0) (by decide) (by decide)
        exact K_63 
      ·
        have i4_x2_8 : tq_iv 1 1 x2_8 := tq_w (tq_neLo c4616 i_x2_8 tk_0) (by decide) (by decide)
        refine tz_be (tg_4_3 T_σ_8 k_h0) (fun t_20 e4615 k_t_20 => ?_)
        refine tz_be (tg_9_4 T_σ_8 k_t_20) (fun t_23 e4614 i_t_23 => ?_)
        refine tz_if _ (fun c4613 => ?_) (fun c4613 => ?_)
        ·
          have i5_t_23 : tq_iv 16 16 t_23 := tq_cut (tq_top t_23) (tq_eqL c4613 tk_16) (by decide) (by decide)
          refine tz_bk e4615 ?_
          refine tz_b2 (tz_X9_advance T_σ_8 k_t_20) (fun _ σ4610 ⟨T4610, W4610⟩ => ?_)
          refine tz_b2 (tz_X4_readBoth_k2 T4610 k_h0) (fun t_40 σ4609 ⟨i_t_40, T4609⟩ => ?_)
          refine tz_be (tg_4_0 T4609 k_h0) (fun t_45 e4608 k_t_45 => ?_)
          refine tz_be (tg_3_1 T4609 k_t_45) (fun t_48 e4607 k_t_48 => ?_)
          refine tz_b2 (tz_X0_append T4609 k_t_48 (tq_w tk_6 (by decide) (by decide))) (fun _ σ4606 T4606 => ?_)
          refine tz_let (fun t_57 e4605 => ?_)
          have i6_t_57 : tq_iv 1 1600 t_57 := tq_w (tq_add e4605 i2_x3_8 tk_1 (by decide) (by decide)) (by decide) (by decide)
          exact hk_8 σ4606 t_40 t_57 T4606 i_t_40 (tq_w i6_t_57 (by decide) (by decide)) (tq_up e4605 i2_x3_8 tk_1 (by decide) (by decide) hn_8)
        ·
          exact K_63 
  have E_8 : ∀ (σ_8 : ez_H) (x2_8 : Int32) (x3_8 : Int32), tp p σ_8 → tq_iv 0 1 x2_8 → tq_iv 0 1600 x3_8 → tz_O (fun z : Int32 × ez_H => (fun (z : Int32) (s : ez_H) => tq_iv 0 1 z ∧ tp p s) z.1 z.2) (ez_fix (fun _ _ _ _ => none) (z_X4_readEither_k2_8) ez_N σ_8 h0 x2_8 x3_8) := by
    intro σ_8 x2_8 x3_8 T_σ_8 i_x2_8 i_x3_8
    exact ez_fix_indn (fun n_8 (k_8 : ez_H → Nat → Int32 → Int32 → Option (Int32 × ez_H)) => ∀ (σ_8 : ez_H) (x2_8 : Int32) (x3_8 : Int32), tp p σ_8 → tq_iv 0 1 x2_8 → tq_iv 0 1600 x3_8 → (2147483647 - x3_8.toInt).toNat < n_8 → tz_O (fun z : Int32 × ez_H => (fun (z : Int32) (s : ez_H) => tq_iv 0 1 z ∧ tp p s) z.1 z.2) (k_8 σ_8 h0 x2_8 x3_8)) (by intros; rename_i h; exact absurd h (Nat.not_lt_zero _)) L_8 ez_N σ_8 x2_8 x3_8 T_σ_8 i_x2_8 i_x3_8 (tq_m0 x3_8)
  exact E_8 σ4619 t_2 (0 : Int32) T4619 i_t_2 (tq_w tk_0 (by decide) (by decide))
set_option maxRecDepth 4000 in
theorem tz_X4_readUnit_k1 {p : tz_P} {σ : ez_H} {h0 : Nat} (hT : tp p σ) (k_h0 : tz_C h0 = some (3, 4, 0, 0)) : tz_O2 (fun (z : Int32) (s : ez_H) => tq_iv 0 1 z ∧ tp p s) (z_X4_readUnit_k1 σ h0) := by
  show tz_O (fun z : Int32 × ez_H => (fun (z : Int32) (s : ez_H) => tq_iv 0 1 z ∧ tp p s) z.1 z.2) _
  unfold z_X4_readUnit_k1
  refine tz_bd (tz_ob hT k_h0) (fun _ _ => ?_)
  refine tz_be (tg_4_3 hT k_h0) (fun t_1 e4670 k_t_1 => ?_)
  refine tz_be (tg_9_4 hT k_t_1) (fun t_4 e4669 i_t_4 => ?_)
  have K_17 : ∀ (y0_17 : Int32), tq_iv 0 1 y0_17 → (¬ y0_17 = 0 → tq_iv 40 40 t_4) → tz_O (fun z : Int32 × ez_H => (fun (z : Int32) (s : ez_H) => tq_iv 0 1 z ∧ tp p s) z.1 z.2) (z_X4_readUnit_k1_17 σ h0 y0_17) := by
    intro y0_17 i_y0_17 g17_y0_17_t_4
    unfold z_X4_readUnit_k1_17
    refine tz_bd (tz_X4_unitHere hT k_h0) (fun t_19 i_t_19 => ?_)
    have K_47 : tz_O (fun z : Int32 × ez_H => (fun (z : Int32) (s : ez_H) => tq_iv 0 1 z ∧ tp p s) z.1 z.2) (z_X4_readUnit_k1_47 σ h0) := by
      unfold z_X4_readUnit_k1_47
      refine tz_b2 (tz_X4_refuse hT k_h0) (fun t_48 σ4651 ⟨i_t_48, T4651, W4651⟩ => ?_)
      refine tz_nr (tq_nr_boolean (tq_w i_t_48 (by decide) (by decide))) ?_
      exact tz_some ⟨(tq_w i_t_48 (by decide) (by decide)), T4651⟩
    have K_32 : tz_O (fun z : Int32 × ez_H => (fun (z : Int32) (s : ez_H) => tq_iv 0 1 z ∧ tp p s) z.1 z.2) (z_X4_readUnit_k1_32 σ h0 y0_17 t_19) := by
      unfold z_X4_readUnit_k1_32
      refine tz_be (tg_4_0 hT k_h0) (fun t_33 e4659 k_t_33 => ?_)
      refine tz_be (tg_3_1 hT k_t_33) (fun t_36 e4658 k_t_36 => ?_)
      refine tz_be (tg_0_0 hT k_t_36) (fun t_39 e4657 i_t_39 => ?_)
      refine tz_if _ (fun c4656 => ?_) (fun c4656 => ?_)
      ·
        have i1_t_39 : tq_iv (-2147483648) 29 t_39 := tq_cut (tq_top t_39) (tq_ltL c4656 (tq_top t_39) tk_30) (by decide) (by decide)
        have K_67 : tz_O (fun z : Int32 × ez_H => (fun (z : Int32) (s : ez_H) => tq_iv 0 1 z ∧ tp p s) z.1 z.2) (z_X4_readUnit_k1_67 σ h0 y0_17 t_19) := by
          unfold z_X4_readUnit_k1_67
          refine tz_bk e4659 ?_
          refine tz_bk e4658 ?_
          refine tz_ba e4657 (fun t_75 e4646 a4646 => ?_)
          have i2_t_75 : tq_iv (-2147483648) 29 t_75 := tq_eqL a4646 i1_t_39
          refine tz_let (fun t_79 e4645 => ?_)
          have i3_t_79 : tq_iv (-2147483647) 30 t_79 := tq_w (tq_add e4645 i2_t_75 tk_1 (by decide) (by decide)) (by decide) (by decide)
          refine tz_be (tw_0_0 hT k_t_36 (tq_top t_79)) (fun σ4644 e4644 T4644 => ?_)
          have K_105 : ∀ (σ_105 : ez_H), tp p σ_105 → tz_O (fun z : Int32 × ez_H => (fun (z : Int32) (s : ez_H) => tq_iv 0 1 z ∧ tp p s) z.1 z.2) (z_X4_readUnit_k1_105 σ_105 h0 y0_17) := by
            intro σ_105 T_σ_105
            unfold z_X4_readUnit_k1_105
            refine tz_be (tg_4_3 T_σ_105 k_h0) (fun t_106 e4635 k_t_106 => ?_)
            refine tz_b2 (tz_X9_advance T_σ_105 k_t_106) (fun _ σ4634 ⟨T4634, W4634⟩ => ?_)
            have K_140 : ∀ (σ_140 : ez_H) (y0_140 : Int32), tp p σ_140 → tq_iv 0 1 y0_140 → tz_O (fun z : Int32 × ez_H => (fun (z : Int32) (s : ez_H) => tq_iv 0 1 z ∧ tp p s) z.1 z.2) (z_X4_readUnit_k1_140 σ_140 y0_140) := by
              intro σ_140 y0_140 T_σ_140 i_y0_140
              unfold z_X4_readUnit_k1_140
              refine tz_nr (tq_nr_boolean i_y0_140) ?_
              exact tz_some ⟨i_y0_140, T_σ_140⟩
            have K_135 : ∀ (σ_135 : ez_H), tp p σ_135 → tz_O (fun z : Int32 × ez_H => (fun (z : Int32) (s : ez_H) => tq_iv 0 1 z ∧ tp p s) z.1 z.2) (z_X4_readUnit_k1_135 σ_135) := by
              intro σ_135 T_σ_135
              unfold z_X4_readUnit_k1_135
              exact K_140 σ_135 (1 : Int32) T_σ_135 (tq_w tk_1 (by decide) (by decide))
            refine tz_if _ (fun c4633 => ?_) (fun c4633 => ?_)
            ·
              have i4_y0_17 : tq_iv 0 0 y0_17 := tq_cut i_y0_17 (tq_eqL c4633 tk_0) (by decide) (by decide)
              exact K_135 σ4634 T4634
            ·
              have i5_t_4 : tq_iv 40 40 t_4 := tq_cut (tq_top t_4) (g17_y0_17_t_4 c4633) (by decide) (by decide)
              have i6_y0_17 : tq_iv 1 1 y0_17 := tq_w (tq_neLo c4633 i_y0_17 tk_0) (by decide) (by decide)
              refine tz_b2 (tz_X4_readEither_k2 T4634 k_h0) (fun t_120 σ4632 ⟨i_t_120, T4632⟩ => ?_)
              have K_139 : ∀ (σ_139 : ez_H), tp p σ_139 → tz_O (fun z : Int32 × ez_H => (fun (z : Int32) (s : ez_H) => tq_iv 0 1 z ∧ tp p s) z.1 z.2) (z_X4_readUnit_k1_139 σ_139) := by
                intro σ_139 T_σ_139
                unfold z_X4_readUnit_k1_139
                exact K_140 σ_139 (0 : Int32) T_σ_139 (tq_w tk_0 (by decide) (by decide))
              refine tz_if _ (fun c4631 => ?_) (fun c4631 => ?_)
              ·
                have i7_t_120 : tq_iv 0 0 t_120 := tq_cut i_t_120 (tq_eqL c4631 tk_0) (by decide) (by decide)
                exact K_139 σ4632 T4632
              ·
                have i8_t_120 : tq_iv 1 1 t_120 := tq_w (tq_neLo c4631 i_t_120 tk_0) (by decide) (by decide)
                refine tz_b2 (tz_X4_expect T4632 k_h0 (tq_w tk_41 (by decide) (by decide))) (fun t_129 σ4630 ⟨i_t_129, T4630, W4630⟩ => ?_)
                refine tz_if _ (fun c4629 => ?_) (fun c4629 => ?_)
                ·
                  have i9_t_129 : tq_iv 0 0 t_129 := tq_cut i_t_129 (tq_eqL c4629 tk_0) (by decide) (by decide)
                  exact K_139 σ4630 T4630
                ·
                  have i10_t_129 : tq_iv 1 1 t_129 := tq_w (tq_neLo c4629 i_t_129 tk_0) (by decide) (by decide)
                  exact K_135 σ4630 T4630
          refine tz_if _ (fun c4643 => ?_) (fun c4643 => ?_)
          ·
            have i11_y0_17 : tq_iv 0 0 y0_17 := tq_cut i_y0_17 (tq_eqL c4643 tk_0) (by decide) (by decide)
            refine tz_bk ((fr_pf_v e4644 (fun h => absurd h.2.1 (by decide))).2.2.trans e4659) ?_
            refine tz_bk ((fr_pf_v e4644 (fun h => absurd h.2.1 (by decide))).2.2.trans e4658) ?_
            refine tz_bk ((fr_pf_v e4644 (fun h => absurd h.2.1 (by decide))).2.2.trans e4670) ?_
            refine tz_be (tg_9_6 T4644 k_t_1) (fun t_99 e4638 i_t_99 => ?_)
            refine tz_b2 (tz_X0_append T4644 k_t_36 (tq_w i_t_19 (by decide) (by decide))) (fun _ σ4637 T4637 => ?_)
            exact K_105 σ4637 T4637
          ·
            have i12_t_4 : tq_iv 40 40 t_4 := tq_cut (tq_top t_4) (g17_y0_17_t_4 c4643) (by decide) (by decide)
            have i13_y0_17 : tq_iv 1 1 y0_17 := tq_w (tq_neLo c4643 i_y0_17 tk_0) (by decide) (by decide)
            exact K_105 σ4644 T4644
        refine tz_if _ (fun c4654 => ?_) (fun c4654 => ?_)
        ·
          have i14_y0_17 : tq_iv 0 0 y0_17 := tq_cut i_y0_17 (tq_eqL c4654 tk_0) (by decide) (by decide)
          exact K_67 
        ·
          have i15_t_4 : tq_iv 40 40 t_4 := tq_cut (tq_top t_4) (g17_y0_17_t_4 c4654) (by decide) (by decide)
          have i16_y0_17 : tq_iv 1 1 y0_17 := tq_w (tq_neLo c4654 i_y0_17 tk_0) (by decide) (by decide)
          exact K_67 
      ·
        have i17_t_39 : tq_iv 30 2147483647 t_39 := tq_cut (tq_top t_39) (tq_leR (tq_nlt c4656) tk_30 (tq_top t_39)) (by decide) (by decide)
        exact K_47 
    refine tz_if _ (fun c4664 => ?_) (fun c4664 => ?_)
    ·
      have i18_y0_17 : tq_iv 0 0 y0_17 := tq_cut i_y0_17 (tq_eqL c4664 tk_0) (by decide) (by decide)
      refine tz_if _ (fun c4662 => ?_) (fun c4662 => ?_)
      ·
        have i19_t_19 : tq_iv (-1) (-1) t_19 := tq_cut i_t_19 (tq_eqL c4662 tk_m1) (by decide) (by decide)
        exact K_47 
      ·
        have i20_t_19 : tq_iv 0 4 t_19 := tq_w (tq_neLo c4662 i_t_19 tk_m1) (by decide) (by decide)
        exact K_32 
    ·
      have i21_t_4 : tq_iv 40 40 t_4 := tq_cut (tq_top t_4) (g17_y0_17_t_4 c4664) (by decide) (by decide)
      have i22_y0_17 : tq_iv 1 1 y0_17 := tq_w (tq_neLo c4664 i_y0_17 tk_0) (by decide) (by decide)
      exact K_32 
  refine tz_if _ (fun c4668 => ?_) (fun c4668 => ?_)
  ·
    have i23_t_4 : tq_iv 40 40 t_4 := tq_cut (tq_top t_4) (tq_eqL c4668 tk_40) (by decide) (by decide)
    exact K_17 (1 : Int32) (tq_w tk_1 (by decide) (by decide)) (fun _ => i23_t_4)
  ·
    exact K_17 (0 : Int32) (tq_w tk_0 (by decide) (by decide)) (fun h => absurd rfl h)
set_option maxRecDepth 4000 in
theorem tz_X4_readTerm_k1 {p : tz_P} {σ : ez_H} {h0 : Nat} (hT : tp p σ) (k_h0 : tz_C h0 = some (3, 4, 0, 0)) : tz_O2 (fun (z : Int32) (s : ez_H) => tq_iv 0 1 z ∧ tp p s) (z_X4_readTerm_k1 σ h0) := by
  show tz_O (fun z : Int32 × ez_H => (fun (z : Int32) (s : ez_H) => tq_iv 0 1 z ∧ tp p s) z.1 z.2) _
  unfold z_X4_readTerm_k1
  refine tz_bd (tz_ob hT k_h0) (fun _ _ => ?_)
  refine tz_b2 (tz_X4_readUnit_k1 hT k_h0) (fun t_2 σ4691 ⟨i_t_2, T4691⟩ => ?_)
  have L_8 : ∀ (n_8 : Nat) (k_8 : ez_H → Nat → Int32 → Int32 → Option (Int32 × ez_H)), (∀ (σ_8 : ez_H) (x2_8 : Int32) (x3_8 : Int32), tp p σ_8 → tq_iv 0 1 x2_8 → tq_iv 0 1600 x3_8 → (2147483647 - x3_8.toInt).toNat < n_8 → tz_O (fun z : Int32 × ez_H => (fun (z : Int32) (s : ez_H) => tq_iv 0 1 z ∧ tp p s) z.1 z.2) (k_8 σ_8 h0 x2_8 x3_8)) → ∀ (σ_8 : ez_H) (x2_8 : Int32) (x3_8 : Int32), tp p σ_8 → tq_iv 0 1 x2_8 → tq_iv 0 1600 x3_8 → (2147483647 - x3_8.toInt).toNat < n_8 + 1 → tz_O (fun z : Int32 × ez_H => (fun (z : Int32) (s : ez_H) => tq_iv 0 1 z ∧ tp p s) z.1 z.2) (z_X4_readTerm_k1_8 k_8 σ_8 h0 x2_8 x3_8) := by
    intro n_8 k_8 hk_8 σ_8 x2_8 x3_8 T_σ_8 i_x2_8 i_x3_8 hn_8
    unfold z_X4_readTerm_k1_8
    have K_65 : tz_O (fun z : Int32 × ez_H => (fun (z : Int32) (s : ez_H) => tq_iv 0 1 z ∧ tp p s) z.1 z.2) (z_X4_readTerm_k1_65 σ_8 x2_8) := by
      unfold z_X4_readTerm_k1_65
      refine tz_nr (tq_nr_boolean i_x2_8) ?_
      exact tz_some ⟨i_x2_8, T_σ_8⟩
    refine tz_if _ (fun c4689 => ?_) (fun c4689 => ?_)
    ·
      have i1_x3_8 : tq_iv 1600 1600 x3_8 := tq_cut i_x3_8 (tq_leR c4689 tk_1600 i_x3_8) (by decide) (by decide)
      exact K_65 
    ·
      have i2_x3_8 : tq_iv 0 1599 x3_8 := tq_cut i_x3_8 (tq_ltL (tq_nle c4689) i_x3_8 tk_1600) (by decide) (by decide)
      refine tz_if _ (fun c4688 => ?_) (fun c4688 => ?_)
      ·
        have i3_x2_8 : tq_iv 0 0 x2_8 := tq_cut i_x2_8 (tq_eqL c4688 tk_0) (by decide) (by decide)
        exact K_65 
      ·
        have i4_x2_8 : tq_iv 1 1 x2_8 := tq_w (tq_neLo c4688 i_x2_8 tk_0) (by decide) (by decide)
        refine tz_bd (tz_X4_productHere T_σ_8 k_h0) (fun t_20 i_t_20 => ?_)
        refine tz_if _ (fun c4686 => ?_) (fun c4686 => ?_)
        ·
          have i5_t_20 : tq_iv (-1) (-1) t_20 := tq_cut i_t_20 (tq_eqL c4686 tk_m1) (by decide) (by decide)
          exact K_65 
        ·
          have i6_t_20 : tq_iv 0 15 t_20 := tq_w (tq_neLo c4686 i_t_20 tk_m1) (by decide) (by decide)
          refine tz_bd (tz_X4_productHere T_σ_8 k_h0) (fun t_28 i_t_28 => ?_)
          refine tz_be (tg_4_3 T_σ_8 k_h0) (fun t_34 e4684 k_t_34 => ?_)
          refine tz_b2 (tz_X9_advance T_σ_8 k_t_34) (fun _ σ4683 ⟨T4683, W4683⟩ => ?_)
          refine tz_b2 (tz_X4_readUnit_k1 T4683 k_h0) (fun t_42 σ4682 ⟨i_t_42, T4682⟩ => ?_)
          refine tz_be (tg_4_0 T4682 k_h0) (fun t_47 e4681 k_t_47 => ?_)
          refine tz_be (tg_3_1 T4682 k_t_47) (fun t_50 e4680 k_t_50 => ?_)
          refine tz_b2 (tz_X0_append T4682 k_t_50 i_t_28) (fun _ σ4679 T4679 => ?_)
          refine tz_let (fun t_59 e4678 => ?_)
          have i7_t_59 : tq_iv 1 1600 t_59 := tq_w (tq_add e4678 i2_x3_8 tk_1 (by decide) (by decide)) (by decide) (by decide)
          exact hk_8 σ4679 t_42 t_59 T4679 i_t_42 (tq_w i7_t_59 (by decide) (by decide)) (tq_up e4678 i2_x3_8 tk_1 (by decide) (by decide) hn_8)
  have E_8 : ∀ (σ_8 : ez_H) (x2_8 : Int32) (x3_8 : Int32), tp p σ_8 → tq_iv 0 1 x2_8 → tq_iv 0 1600 x3_8 → tz_O (fun z : Int32 × ez_H => (fun (z : Int32) (s : ez_H) => tq_iv 0 1 z ∧ tp p s) z.1 z.2) (ez_fix (fun _ _ _ _ => none) (z_X4_readTerm_k1_8) ez_N σ_8 h0 x2_8 x3_8) := by
    intro σ_8 x2_8 x3_8 T_σ_8 i_x2_8 i_x3_8
    exact ez_fix_indn (fun n_8 (k_8 : ez_H → Nat → Int32 → Int32 → Option (Int32 × ez_H)) => ∀ (σ_8 : ez_H) (x2_8 : Int32) (x3_8 : Int32), tp p σ_8 → tq_iv 0 1 x2_8 → tq_iv 0 1600 x3_8 → (2147483647 - x3_8.toInt).toNat < n_8 → tz_O (fun z : Int32 × ez_H => (fun (z : Int32) (s : ez_H) => tq_iv 0 1 z ∧ tp p s) z.1 z.2) (k_8 σ_8 h0 x2_8 x3_8)) (by intros; rename_i h; exact absurd h (Nat.not_lt_zero _)) L_8 ez_N σ_8 x2_8 x3_8 T_σ_8 i_x2_8 i_x3_8 (tq_m0 x3_8)
  exact E_8 σ4691 t_2 (0 : Int32) T4691 i_t_2 (tq_w tk_0 (by decide) (by decide))
set_option maxRecDepth 4000 in
theorem tz_X4_readSum_k1 {p : tz_P} {σ : ez_H} {h0 : Nat} (hT : tp p σ) (k_h0 : tz_C h0 = some (3, 4, 0, 0)) : tz_O2 (fun (z : Int32) (s : ez_H) => tq_iv 0 1 z ∧ tp p s) (z_X4_readSum_k1 σ h0) := by
  show tz_O (fun z : Int32 × ez_H => (fun (z : Int32) (s : ez_H) => tq_iv 0 1 z ∧ tp p s) z.1 z.2) _
  unfold z_X4_readSum_k1
  refine tz_bd (tz_ob hT k_h0) (fun _ _ => ?_)
  refine tz_b2 (tz_X4_readTerm_k1 hT k_h0) (fun t_2 σ4722 ⟨i_t_2, T4722⟩ => ?_)
  have L_8 : ∀ (n_8 : Nat) (k_8 : ez_H → Nat → Int32 → Int32 → Option (Int32 × ez_H)), (∀ (σ_8 : ez_H) (x2_8 : Int32) (x3_8 : Int32), tp p σ_8 → tq_iv 0 1 x2_8 → tq_iv 0 1600 x3_8 → (2147483647 - x3_8.toInt).toNat < n_8 → tz_O (fun z : Int32 × ez_H => (fun (z : Int32) (s : ez_H) => tq_iv 0 1 z ∧ tp p s) z.1 z.2) (k_8 σ_8 h0 x2_8 x3_8)) → ∀ (σ_8 : ez_H) (x2_8 : Int32) (x3_8 : Int32), tp p σ_8 → tq_iv 0 1 x2_8 → tq_iv 0 1600 x3_8 → (2147483647 - x3_8.toInt).toNat < n_8 + 1 → tz_O (fun z : Int32 × ez_H => (fun (z : Int32) (s : ez_H) => tq_iv 0 1 z ∧ tp p s) z.1 z.2) (z_X4_readSum_k1_8 k_8 σ_8 h0 x2_8 x3_8) := by
    intro n_8 k_8 hk_8 σ_8 x2_8 x3_8 T_σ_8 i_x2_8 i_x3_8 hn_8
    unfold z_X4_readSum_k1_8
    have K_96 : tz_O (fun z : Int32 × ez_H => (fun (z : Int32) (s : ez_H) => tq_iv 0 1 z ∧ tp p s) z.1 z.2) (z_X4_readSum_k1_96 σ_8 x2_8) := by
      unfold z_X4_readSum_k1_96
      refine tz_nr (tq_nr_boolean i_x2_8) ?_
      exact tz_some ⟨i_x2_8, T_σ_8⟩
    refine tz_if _ (fun c4720 => ?_) (fun c4720 => ?_)
    ·
      have i1_x3_8 : tq_iv 1600 1600 x3_8 := tq_cut i_x3_8 (tq_leR c4720 tk_1600 i_x3_8) (by decide) (by decide)
      exact K_96 
    ·
      have i2_x3_8 : tq_iv 0 1599 x3_8 := tq_cut i_x3_8 (tq_ltL (tq_nle c4720) i_x3_8 tk_1600) (by decide) (by decide)
      refine tz_if _ (fun c4719 => ?_) (fun c4719 => ?_)
      ·
        have i3_x2_8 : tq_iv 0 0 x2_8 := tq_cut i_x2_8 (tq_eqL c4719 tk_0) (by decide) (by decide)
        exact K_96 
      ·
        have i4_x2_8 : tq_iv 1 1 x2_8 := tq_w (tq_neLo c4719 i_x2_8 tk_0) (by decide) (by decide)
        refine tz_be (tg_4_3 T_σ_8 k_h0) (fun t_20 e4718 k_t_20 => ?_)
        refine tz_be (tg_9_4 T_σ_8 k_t_20) (fun t_23 e4717 i_t_23 => ?_)
        have K_43 : tz_O (fun z : Int32 × ez_H => (fun (z : Int32) (s : ez_H) => tq_iv 0 1 z ∧ tp p s) z.1 z.2) (z_X4_readSum_k1_43 k_8 σ_8 h0 x3_8) := by
          unfold z_X4_readSum_k1_43
          refine tz_bk e4718 ?_
          refine tz_ba e4717 (fun t_47 e4706 a4706 => ?_)
          have K_62 : ∀ (y0_62 : Int32), tq_iv 11 12 y0_62 → tz_O (fun z : Int32 × ez_H => (fun (z : Int32) (s : ez_H) => tq_iv 0 1 z ∧ tp p s) z.1 z.2) (z_X4_readSum_k1_62 k_8 σ_8 h0 x3_8 y0_62) := by
            intro y0_62 i_y0_62
            unfold z_X4_readSum_k1_62
            refine tz_bk e4718 ?_
            refine tz_b2 (tz_X9_advance T_σ_8 k_t_20) (fun _ σ4701 ⟨T4701, W4701⟩ => ?_)
            refine tz_b2 (tz_X4_readTerm_k1 T4701 k_h0) (fun t_73 σ4700 ⟨i_t_73, T4700⟩ => ?_)
            refine tz_be (tg_4_0 T4700 k_h0) (fun t_78 e4699 k_t_78 => ?_)
            refine tz_be (tg_3_1 T4700 k_t_78) (fun t_81 e4698 k_t_81 => ?_)
            refine tz_b2 (tz_X0_append T4700 k_t_81 (tq_w i_y0_62 (by decide) (by decide))) (fun _ σ4697 T4697 => ?_)
            refine tz_let (fun t_90 e4696 => ?_)
            have i5_t_90 : tq_iv 1 1600 t_90 := tq_w (tq_add e4696 i2_x3_8 tk_1 (by decide) (by decide)) (by decide) (by decide)
            exact hk_8 σ4697 t_73 t_90 T4697 i_t_73 (tq_w i5_t_90 (by decide) (by decide)) (tq_up e4696 i2_x3_8 tk_1 (by decide) (by decide) hn_8)
          refine tz_if _ (fun c4705 => ?_) (fun c4705 => ?_)
          ·
            have i6_t_47 : tq_iv 43 43 t_47 := tq_cut (tq_top t_47) (tq_eqL c4705 tk_43) (by decide) (by decide)
            exact K_62 (11 : Int32) (tq_w tk_11 (by decide) (by decide))
          ·
            exact K_62 (12 : Int32) (tq_w tk_12 (by decide) (by decide))
        refine tz_if _ (fun c4716 => ?_) (fun c4716 => ?_)
        ·
          have i7_t_23 : tq_iv 43 43 t_23 := tq_cut (tq_top t_23) (tq_eqL c4716 tk_43) (by decide) (by decide)
          exact K_43 
        ·
          refine tz_bk e4718 ?_
          refine tz_ba e4717 (fun t_35 e4714 a4714 => ?_)
          refine tz_if _ (fun c4713 => ?_) (fun c4713 => ?_)
          ·
            have i8_t_35 : tq_iv 45 45 t_35 := tq_cut (tq_top t_35) (tq_eqL c4713 tk_45) (by decide) (by decide)
            exact K_43 
          ·
            exact K_96 
  have E_8 : ∀ (σ_8 : ez_H) (x2_8 : Int32) (x3_8 : Int32), tp p σ_8 → tq_iv 0 1 x2_8 → tq_iv 0 1600 x3_8 → tz_O (fun z : Int32 × ez_H => (fun (z : Int32) (s : ez_H) => tq_iv 0 1 z ∧ tp p s) z.1 z.2) (ez_fix (fun _ _ _ _ => none) (z_X4_readSum_k1_8) ez_N σ_8 h0 x2_8 x3_8) := by
    intro σ_8 x2_8 x3_8 T_σ_8 i_x2_8 i_x3_8
    exact ez_fix_indn (fun n_8 (k_8 : ez_H → Nat → Int32 → Int32 → Option (Int32 × ez_H)) => ∀ (σ_8 : ez_H) (x2_8 : Int32) (x3_8 : Int32), tp p σ_8 → tq_iv 0 1 x2_8 → tq_iv 0 1600 x3_8 → (2147483647 - x3_8.toInt).toNat < n_8 → tz_O (fun z : Int32 × ez_H => (fun (z : Int32) (s : ez_H) => tq_iv 0 1 z ∧ tp p s) z.1 z.2) (k_8 σ_8 h0 x2_8 x3_8)) (by intros; rename_i h; exact absurd h (Nat.not_lt_zero _)) L_8 ez_N σ_8 x2_8 x3_8 T_σ_8 i_x2_8 i_x3_8 (tq_m0 x3_8)
  exact E_8 σ4722 t_2 (0 : Int32) T4722 i_t_2 (tq_w tk_0 (by decide) (by decide))
set_option maxRecDepth 4000 in
theorem tz_X4_readOne_k1 {p : tz_P} {σ : ez_H} {h0 : Nat} (hT : tp p σ) (k_h0 : tz_C h0 = some (3, 4, 0, 0)) : tz_O2 (fun (z : Int32) (s : ez_H) => tq_iv 0 1 z ∧ tp p s) (z_X4_readOne_k1 σ h0) := by
  show tz_O (fun z : Int32 × ez_H => (fun (z : Int32) (s : ez_H) => tq_iv 0 1 z ∧ tp p s) z.1 z.2) _
  unfold z_X4_readOne_k1
  refine tz_bd (tz_ob hT k_h0) (fun _ _ => ?_)
  refine tz_be (tg_4_3 hT k_h0) (fun t_1 e4749 k_t_1 => ?_)
  refine tz_be (tg_9_4 hT k_t_1) (fun t_4 e4748 i_t_4 => ?_)
  refine tz_if _ (fun c4747 => ?_) (fun c4747 => ?_)
  ·
    have i1_t_4 : tq_iv 18 18 t_4 := tq_cut (tq_top t_4) (tq_eqL c4747 tk_18) (by decide) (by decide)
    refine tz_bk e4749 ?_
    refine tz_b2 (tz_X9_advance hT k_t_1) (fun _ σ4732 ⟨T4732, W4732⟩ => ?_)
    refine tz_b2 (tz_X4_readOne_k2 T4732 k_h0) (fun t_34 σ4731 ⟨i_t_34, T4731⟩ => ?_)
    refine tz_be (tg_4_0 T4731 k_h0) (fun t_39 e4730 k_t_39 => ?_)
    refine tz_be (tg_3_1 T4731 k_t_39) (fun t_42 e4729 k_t_42 => ?_)
    refine tz_b2 (tz_X0_append T4731 k_t_42 (tq_w tk_5 (by decide) (by decide))) (fun _ σ4728 T4728 => ?_)
    refine tz_nr (tq_nr_boolean i_t_34) ?_
    exact tz_some ⟨i_t_34, T4728⟩
  ·
    refine tz_b2 (tz_X4_readSum_k1 hT k_h0) (fun t_54 σ4746 ⟨i_t_54, T4746⟩ => ?_)
    refine tz_bd (tz_X4_relationHere T4746 k_h0) (fun t_59 i_t_59 => ?_)
    have K_97 : ∀ (σ_97 : ez_H) (x2_97 : Int32), tp p σ_97 → tq_iv 0 1 x2_97 → (¬ x2_97 = 0 → tq_iv 1 1 t_54) → tz_O (fun z : Int32 × ez_H => (fun (z : Int32) (s : ez_H) => tq_iv 0 1 z ∧ tp p s) z.1 z.2) (z_X4_readOne_k1_97 σ_97 x2_97) := by
      intro σ_97 x2_97 T_σ_97 i_x2_97 g97_x2_97_t_54
      unfold z_X4_readOne_k1_97
      refine tz_nr (tq_nr_boolean i_x2_97) ?_
      exact tz_some ⟨i_x2_97, T_σ_97⟩
    refine tz_if _ (fun c4744 => ?_) (fun c4744 => ?_)
    ·
      have i2_t_54 : tq_iv 0 0 t_54 := tq_cut i_t_54 (tq_eqL c4744 tk_0) (by decide) (by decide)
      exact K_97 σ4746 t_54 T4746 (tq_w i2_t_54 (by decide) (by decide)) (fun h => absurd (tq_z0 i2_t_54) h)
    ·
      have i3_t_54 : tq_iv 1 1 t_54 := tq_w (tq_neLo c4744 i_t_54 tk_0) (by decide) (by decide)
      refine tz_if _ (fun c4743 => ?_) (fun c4743 => ?_)
      ·
        have i4_t_59 : tq_iv (-1) (-1) t_59 := tq_cut i_t_59 (tq_eqL c4743 tk_m1) (by decide) (by decide)
        exact K_97 σ4746 t_54 T4746 (tq_w i3_t_54 (by decide) (by decide)) (fun _ => i3_t_54)
      ·
        have i5_t_59 : tq_iv 0 10 t_59 := tq_w (tq_neLo c4743 i_t_59 tk_m1) (by decide) (by decide)
        refine tz_be (tg_4_3 T4746 k_h0) (fun t_73 e4742 k_t_73 => ?_)
        refine tz_b2 (tz_X9_advance T4746 k_t_73) (fun _ σ4741 ⟨T4741, W4741⟩ => ?_)
        refine tz_b2 (tz_X4_readSum_k1 T4741 k_h0) (fun t_81 σ4740 ⟨i_t_81, T4740⟩ => ?_)
        refine tz_be (tg_4_0 T4740 k_h0) (fun t_86 e4739 k_t_86 => ?_)
        refine tz_be (tg_3_1 T4740 k_t_86) (fun t_89 e4738 k_t_89 => ?_)
        refine tz_b2 (tz_X0_append T4740 k_t_89 (tq_w i5_t_59 (by decide) (by decide))) (fun _ σ4737 T4737 => ?_)
        exact K_97 σ4737 t_81 T4737 i_t_81 (fun _ => i3_t_54)
set_option maxRecDepth 4000 in
theorem tz_X4_readBoth_k1 {p : tz_P} {σ : ez_H} {h0 : Nat} (hT : tp p σ) (k_h0 : tz_C h0 = some (3, 4, 0, 0)) : tz_O2 (fun (z : Int32) (s : ez_H) => tq_iv 0 1 z ∧ tp p s) (z_X4_readBoth_k1 σ h0) := by
  show tz_O (fun z : Int32 × ez_H => (fun (z : Int32) (s : ez_H) => tq_iv 0 1 z ∧ tp p s) z.1 z.2) _
  unfold z_X4_readBoth_k1
  refine tz_bd (tz_ob hT k_h0) (fun _ _ => ?_)
  refine tz_b2 (tz_X4_readOne_k1 hT k_h0) (fun t_2 σ4770 ⟨i_t_2, T4770⟩ => ?_)
  have L_8 : ∀ (n_8 : Nat) (k_8 : ez_H → Nat → Int32 → Int32 → Option (Int32 × ez_H)), (∀ (σ_8 : ez_H) (x2_8 : Int32) (x3_8 : Int32), tp p σ_8 → tq_iv 0 1 x2_8 → tq_iv 0 1600 x3_8 → (2147483647 - x3_8.toInt).toNat < n_8 → tz_O (fun z : Int32 × ez_H => (fun (z : Int32) (s : ez_H) => tq_iv 0 1 z ∧ tp p s) z.1 z.2) (k_8 σ_8 h0 x2_8 x3_8)) → ∀ (σ_8 : ez_H) (x2_8 : Int32) (x3_8 : Int32), tp p σ_8 → tq_iv 0 1 x2_8 → tq_iv 0 1600 x3_8 → (2147483647 - x3_8.toInt).toNat < n_8 + 1 → tz_O (fun z : Int32 × ez_H => (fun (z : Int32) (s : ez_H) => tq_iv 0 1 z ∧ tp p s) z.1 z.2) (z_X4_readBoth_k1_8 k_8 σ_8 h0 x2_8 x3_8) := by
    intro n_8 k_8 hk_8 σ_8 x2_8 x3_8 T_σ_8 i_x2_8 i_x3_8 hn_8
    unfold z_X4_readBoth_k1_8
    have K_63 : tz_O (fun z : Int32 × ez_H => (fun (z : Int32) (s : ez_H) => tq_iv 0 1 z ∧ tp p s) z.1 z.2) (z_X4_readBoth_k1_63 σ_8 x2_8) := by
      unfold z_X4_readBoth_k1_63
      refine tz_nr (tq_nr_boolean i_x2_8) ?_
      exact tz_some ⟨i_x2_8, T_σ_8⟩
    refine tz_if _ (fun c4768 => ?_) (fun c4768 => ?_)
    ·
      have i1_x3_8 : tq_iv 1600 1600 x3_8 := tq_cut i_x3_8 (tq_leR c4768 tk_1600 i_x3_8) (by decide) (by decide)
      exact K_63 
    ·
      have i2_x3_8 : tq_iv 0 1599 x3_8 := tq_cut i_x3_8 (tq_ltL (tq_nle c4768) i_x3_8 tk_1600) (by decide) (by decide)
      refine tz_if _ (fun c4767 => ?_) (fun c4767 => ?_)
      ·
        have i3_x2_8 : tq_iv 0 0 x2_8 := tq_cut i_x2_8 (tq_eqL c4767 tk_0) (by decide) (by decide)
        exact K_63 
      ·
        have i4_x2_8 : tq_iv 1 1 x2_8 := tq_w (tq_neLo c4767 i_x2_8 tk_0) (by decide) (by decide)
        refine tz_be (tg_4_3 T_σ_8 k_h0) (fun t_20 e4766 k_t_20 => ?_)
        refine tz_be (tg_9_4 T_σ_8 k_t_20) (fun t_23 e4765 i_t_23 => ?_)
        refine tz_if _ (fun c4764 => ?_) (fun c4764 => ?_)
        ·
          have i5_t_23 : tq_iv 17 17 t_23 := tq_cut (tq_top t_23) (tq_eqL c4764 tk_17) (by decide) (by decide)
          refine tz_bk e4766 ?_
          refine tz_b2 (tz_X9_advance T_σ_8 k_t_20) (fun _ σ4761 ⟨T4761, W4761⟩ => ?_)
          refine tz_b2 (tz_X4_readOne_k1 T4761 k_h0) (fun t_40 σ4760 ⟨i_t_40, T4760⟩ => ?_)
          refine tz_be (tg_4_0 T4760 k_h0) (fun t_45 e4759 k_t_45 => ?_)
          refine tz_be (tg_3_1 T4760 k_t_45) (fun t_48 e4758 k_t_48 => ?_)
          refine tz_b2 (tz_X0_append T4760 k_t_48 (tq_w tk_7 (by decide) (by decide))) (fun _ σ4757 T4757 => ?_)
          refine tz_let (fun t_57 e4756 => ?_)
          have i6_t_57 : tq_iv 1 1600 t_57 := tq_w (tq_add e4756 i2_x3_8 tk_1 (by decide) (by decide)) (by decide) (by decide)
          exact hk_8 σ4757 t_40 t_57 T4757 i_t_40 (tq_w i6_t_57 (by decide) (by decide)) (tq_up e4756 i2_x3_8 tk_1 (by decide) (by decide) hn_8)
        ·
          exact K_63 
  have E_8 : ∀ (σ_8 : ez_H) (x2_8 : Int32) (x3_8 : Int32), tp p σ_8 → tq_iv 0 1 x2_8 → tq_iv 0 1600 x3_8 → tz_O (fun z : Int32 × ez_H => (fun (z : Int32) (s : ez_H) => tq_iv 0 1 z ∧ tp p s) z.1 z.2) (ez_fix (fun _ _ _ _ => none) (z_X4_readBoth_k1_8) ez_N σ_8 h0 x2_8 x3_8) := by
    intro σ_8 x2_8 x3_8 T_σ_8 i_x2_8 i_x3_8
    exact ez_fix_indn (fun n_8 (k_8 : ez_H → Nat → Int32 → Int32 → Option (Int32 × ez_H)) => ∀ (σ_8 : ez_H) (x2_8 : Int32) (x3_8 : Int32), tp p σ_8 → tq_iv 0 1 x2_8 → tq_iv 0 1600 x3_8 → (2147483647 - x3_8.toInt).toNat < n_8 → tz_O (fun z : Int32 × ez_H => (fun (z : Int32) (s : ez_H) => tq_iv 0 1 z ∧ tp p s) z.1 z.2) (k_8 σ_8 h0 x2_8 x3_8)) (by intros; rename_i h; exact absurd h (Nat.not_lt_zero _)) L_8 ez_N σ_8 x2_8 x3_8 T_σ_8 i_x2_8 i_x3_8 (tq_m0 x3_8)
  exact E_8 σ4770 t_2 (0 : Int32) T4770 i_t_2 (tq_w tk_0 (by decide) (by decide))
set_option maxRecDepth 4000 in
theorem tz_X4_readEither_k1 {p : tz_P} {σ : ez_H} {h0 : Nat} (hT : tp p σ) (k_h0 : tz_C h0 = some (3, 4, 0, 0)) : tz_O2 (fun (z : Int32) (s : ez_H) => tq_iv 0 1 z ∧ tp p s) (z_X4_readEither_k1 σ h0) := by
  show tz_O (fun z : Int32 × ez_H => (fun (z : Int32) (s : ez_H) => tq_iv 0 1 z ∧ tp p s) z.1 z.2) _
  unfold z_X4_readEither_k1
  refine tz_bd (tz_ob hT k_h0) (fun _ _ => ?_)
  refine tz_b2 (tz_X4_readBoth_k1 hT k_h0) (fun t_2 σ4791 ⟨i_t_2, T4791⟩ => ?_)
  have L_8 : ∀ (n_8 : Nat) (k_8 : ez_H → Nat → Int32 → Int32 → Option (Int32 × ez_H)), (∀ (σ_8 : ez_H) (x2_8 : Int32) (x3_8 : Int32), tp p σ_8 → tq_iv 0 1 x2_8 → tq_iv 0 1600 x3_8 → (2147483647 - x3_8.toInt).toNat < n_8 → tz_O (fun z : Int32 × ez_H => (fun (z : Int32) (s : ez_H) => tq_iv 0 1 z ∧ tp p s) z.1 z.2) (k_8 σ_8 h0 x2_8 x3_8)) → ∀ (σ_8 : ez_H) (x2_8 : Int32) (x3_8 : Int32), tp p σ_8 → tq_iv 0 1 x2_8 → tq_iv 0 1600 x3_8 → (2147483647 - x3_8.toInt).toNat < n_8 + 1 → tz_O (fun z : Int32 × ez_H => (fun (z : Int32) (s : ez_H) => tq_iv 0 1 z ∧ tp p s) z.1 z.2) (z_X4_readEither_k1_8 k_8 σ_8 h0 x2_8 x3_8) := by
    intro n_8 k_8 hk_8 σ_8 x2_8 x3_8 T_σ_8 i_x2_8 i_x3_8 hn_8
    unfold z_X4_readEither_k1_8
    have K_63 : tz_O (fun z : Int32 × ez_H => (fun (z : Int32) (s : ez_H) => tq_iv 0 1 z ∧ tp p s) z.1 z.2) (z_X4_readEither_k1_63 σ_8 x2_8) := by
      unfold z_X4_readEither_k1_63
      refine tz_nr (tq_nr_boolean i_x2_8) ?_
      exact tz_some ⟨i_x2_8, T_σ_8⟩
    refine tz_if _ (fun c4789 => ?_) (fun c4789 => ?_)
    ·
      have i1_x3_8 : tq_iv 1600 1600 x3_8 := tq_cut i_x3_8 (tq_leR c4789 tk_1600 i_x3_8) (by decide) (by decide)
      exact K_63 
    ·
      have i2_x3_8 : tq_iv 0 1599 x3_8 := tq_cut i_x3_8 (tq_ltL (tq_nle c4789) i_x3_8 tk_1600) (by decide) (by decide)
      refine tz_if _ (fun c4788 => ?_) (fun c4788 => ?_)
      ·
        have i3_x2_8 : tq_iv 0 0 x2_8 := tq_cut i_x2_8 (tq_eqL c4788 tk_0) (by decide) (by decide)
        exact K_63 
      ·
        have i4_x2_8 : tq_iv 1 1 x2_8 := tq_w (tq_neLo c4788 i_x2_8 tk_0) (by decide) (by decide)
        refine tz_be (tg_4_3 T_σ_8 k_h0) (fun t_20 e4787 k_t_20 => ?_)
        refine tz_be (tg_9_4 T_σ_8 k_t_20) (fun t_23 e4786 i_t_23 => ?_)
        refine tz_if _ (fun c4785 => ?_) (fun c4785 => ?_)
        ·
          have i5_t_23 : tq_iv 16 16 t_23 := tq_cut (tq_top t_23) (tq_eqL c4785 tk_16) (by decide) (by decide)
          refine tz_bk e4787 ?_
          refine tz_b2 (tz_X9_advance T_σ_8 k_t_20) (fun _ σ4782 ⟨T4782, W4782⟩ => ?_)
          refine tz_b2 (tz_X4_readBoth_k1 T4782 k_h0) (fun t_40 σ4781 ⟨i_t_40, T4781⟩ => ?_)
          refine tz_be (tg_4_0 T4781 k_h0) (fun t_45 e4780 k_t_45 => ?_)
          refine tz_be (tg_3_1 T4781 k_t_45) (fun t_48 e4779 k_t_48 => ?_)
          refine tz_b2 (tz_X0_append T4781 k_t_48 (tq_w tk_6 (by decide) (by decide))) (fun _ σ4778 T4778 => ?_)
          refine tz_let (fun t_57 e4777 => ?_)
          have i6_t_57 : tq_iv 1 1600 t_57 := tq_w (tq_add e4777 i2_x3_8 tk_1 (by decide) (by decide)) (by decide) (by decide)
          exact hk_8 σ4778 t_40 t_57 T4778 i_t_40 (tq_w i6_t_57 (by decide) (by decide)) (tq_up e4777 i2_x3_8 tk_1 (by decide) (by decide) hn_8)
        ·
          exact K_63 
  have E_8 : ∀ (σ_8 : ez_H) (x2_8 : Int32) (x3_8 : Int32), tp p σ_8 → tq_iv 0 1 x2_8 → tq_iv 0 1600 x3_8 → tz_O (fun z : Int32 × ez_H => (fun (z : Int32) (s : ez_H) => tq_iv 0 1 z ∧ tp p s) z.1 z.2) (ez_fix (fun _ _ _ _ => none) (z_X4_readEither_k1_8) ez_N σ_8 h0 x2_8 x3_8) := by
    intro σ_8 x2_8 x3_8 T_σ_8 i_x2_8 i_x3_8
    exact ez_fix_indn (fun n_8 (k_8 : ez_H → Nat → Int32 → Int32 → Option (Int32 × ez_H)) => ∀ (σ_8 : ez_H) (x2_8 : Int32) (x3_8 : Int32), tp p σ_8 → tq_iv 0 1 x2_8 → tq_iv 0 1600 x3_8 → (2147483647 - x3_8.toInt).toNat < n_8 → tz_O (fun z : Int32 × ez_H => (fun (z : Int32) (s : ez_H) => tq_iv 0 1 z ∧ tp p s) z.1 z.2) (k_8 σ_8 h0 x2_8 x3_8)) (by intros; rename_i h; exact absurd h (Nat.not_lt_zero _)) L_8 ez_N σ_8 x2_8 x3_8 T_σ_8 i_x2_8 i_x3_8 (tq_m0 x3_8)
  exact E_8 σ4791 t_2 (0 : Int32) T4791 i_t_2 (tq_w tk_0 (by decide) (by decide))
set_option maxRecDepth 4000 in
theorem tz_X4_readUnit_k0 {p : tz_P} {σ : ez_H} {h0 : Nat} (hT : tp p σ) (k_h0 : tz_C h0 = some (3, 4, 0, 0)) : tz_O2 (fun (z : Int32) (s : ez_H) => tq_iv 0 1 z ∧ tp p s) (z_X4_readUnit_k0 σ h0) := by
  show tz_O (fun z : Int32 × ez_H => (fun (z : Int32) (s : ez_H) => tq_iv 0 1 z ∧ tp p s) z.1 z.2) _
  unfold z_X4_readUnit_k0
  refine tz_bd (tz_ob hT k_h0) (fun _ _ => ?_)
  refine tz_be (tg_4_3 hT k_h0) (fun t_1 e4842 k_t_1 => ?_)
  refine tz_be (tg_9_4 hT k_t_1) (fun t_4 e4841 i_t_4 => ?_)
  have K_17 : ∀ (y0_17 : Int32), tq_iv 0 1 y0_17 → (¬ y0_17 = 0 → tq_iv 40 40 t_4) → tz_O (fun z : Int32 × ez_H => (fun (z : Int32) (s : ez_H) => tq_iv 0 1 z ∧ tp p s) z.1 z.2) (z_X4_readUnit_k0_17 σ h0 y0_17) := by
    intro y0_17 i_y0_17 g17_y0_17_t_4
    unfold z_X4_readUnit_k0_17
    refine tz_bd (tz_X4_unitHere hT k_h0) (fun t_19 i_t_19 => ?_)
    have K_47 : tz_O (fun z : Int32 × ez_H => (fun (z : Int32) (s : ez_H) => tq_iv 0 1 z ∧ tp p s) z.1 z.2) (z_X4_readUnit_k0_47 σ h0) := by
      unfold z_X4_readUnit_k0_47
      refine tz_b2 (tz_X4_refuse hT k_h0) (fun t_48 σ4823 ⟨i_t_48, T4823, W4823⟩ => ?_)
      refine tz_nr (tq_nr_boolean (tq_w i_t_48 (by decide) (by decide))) ?_
      exact tz_some ⟨(tq_w i_t_48 (by decide) (by decide)), T4823⟩
    have K_32 : tz_O (fun z : Int32 × ez_H => (fun (z : Int32) (s : ez_H) => tq_iv 0 1 z ∧ tp p s) z.1 z.2) (z_X4_readUnit_k0_32 σ h0 y0_17 t_19) := by
      unfold z_X4_readUnit_k0_32
      refine tz_be (tg_4_0 hT k_h0) (fun t_33 e4831 k_t_33 => ?_)
      refine tz_be (tg_3_1 hT k_t_33) (fun t_36 e4830 k_t_36 => ?_)
      refine tz_be (tg_0_0 hT k_t_36) (fun t_39 e4829 i_t_39 => ?_)
      refine tz_if _ (fun c4828 => ?_) (fun c4828 => ?_)
      ·
        have i1_t_39 : tq_iv (-2147483648) 29 t_39 := tq_cut (tq_top t_39) (tq_ltL c4828 (tq_top t_39) tk_30) (by decide) (by decide)
        have K_67 : tz_O (fun z : Int32 × ez_H => (fun (z : Int32) (s : ez_H) => tq_iv 0 1 z ∧ tp p s) z.1 z.2) (z_X4_readUnit_k0_67 σ h0 y0_17 t_19) := by
          unfold z_X4_readUnit_k0_67
          refine tz_bk e4831 ?_
          refine tz_bk e4830 ?_
          refine tz_ba e4829 (fun t_75 e4818 a4818 => ?_)
          have i2_t_75 : tq_iv (-2147483648) 29 t_75 := tq_eqL a4818 i1_t_39
          refine tz_let (fun t_79 e4817 => ?_)
          have i3_t_79 : tq_iv (-2147483647) 30 t_79 := tq_w (tq_add e4817 i2_t_75 tk_1 (by decide) (by decide)) (by decide) (by decide)
          refine tz_be (tw_0_0 hT k_t_36 (tq_top t_79)) (fun σ4816 e4816 T4816 => ?_)
          have K_105 : ∀ (σ_105 : ez_H), tp p σ_105 → tz_O (fun z : Int32 × ez_H => (fun (z : Int32) (s : ez_H) => tq_iv 0 1 z ∧ tp p s) z.1 z.2) (z_X4_readUnit_k0_105 σ_105 h0 y0_17) := by
            intro σ_105 T_σ_105
            unfold z_X4_readUnit_k0_105
            refine tz_be (tg_4_3 T_σ_105 k_h0) (fun t_106 e4807 k_t_106 => ?_)
            refine tz_b2 (tz_X9_advance T_σ_105 k_t_106) (fun _ σ4806 ⟨T4806, W4806⟩ => ?_)
            have K_140 : ∀ (σ_140 : ez_H) (y0_140 : Int32), tp p σ_140 → tq_iv 0 1 y0_140 → tz_O (fun z : Int32 × ez_H => (fun (z : Int32) (s : ez_H) => tq_iv 0 1 z ∧ tp p s) z.1 z.2) (z_X4_readUnit_k0_140 σ_140 y0_140) := by
              intro σ_140 y0_140 T_σ_140 i_y0_140
              unfold z_X4_readUnit_k0_140
              refine tz_nr (tq_nr_boolean i_y0_140) ?_
              exact tz_some ⟨i_y0_140, T_σ_140⟩
            have K_135 : ∀ (σ_135 : ez_H), tp p σ_135 → tz_O (fun z : Int32 × ez_H => (fun (z : Int32) (s : ez_H) => tq_iv 0 1 z ∧ tp p s) z.1 z.2) (z_X4_readUnit_k0_135 σ_135) := by
              intro σ_135 T_σ_135
              unfold z_X4_readUnit_k0_135
              exact K_140 σ_135 (1 : Int32) T_σ_135 (tq_w tk_1 (by decide) (by decide))
            refine tz_if _ (fun c4805 => ?_) (fun c4805 => ?_)
            ·
              have i4_y0_17 : tq_iv 0 0 y0_17 := tq_cut i_y0_17 (tq_eqL c4805 tk_0) (by decide) (by decide)
              exact K_135 σ4806 T4806
            ·
              have i5_t_4 : tq_iv 40 40 t_4 := tq_cut (tq_top t_4) (g17_y0_17_t_4 c4805) (by decide) (by decide)
              have i6_y0_17 : tq_iv 1 1 y0_17 := tq_w (tq_neLo c4805 i_y0_17 tk_0) (by decide) (by decide)
              refine tz_b2 (tz_X4_readEither_k1 T4806 k_h0) (fun t_120 σ4804 ⟨i_t_120, T4804⟩ => ?_)
              have K_139 : ∀ (σ_139 : ez_H), tp p σ_139 → tz_O (fun z : Int32 × ez_H => (fun (z : Int32) (s : ez_H) => tq_iv 0 1 z ∧ tp p s) z.1 z.2) (z_X4_readUnit_k0_139 σ_139) := by
                intro σ_139 T_σ_139
                unfold z_X4_readUnit_k0_139
                exact K_140 σ_139 (0 : Int32) T_σ_139 (tq_w tk_0 (by decide) (by decide))
              refine tz_if _ (fun c4803 => ?_) (fun c4803 => ?_)
              ·
                have i7_t_120 : tq_iv 0 0 t_120 := tq_cut i_t_120 (tq_eqL c4803 tk_0) (by decide) (by decide)
                exact K_139 σ4804 T4804
              ·
                have i8_t_120 : tq_iv 1 1 t_120 := tq_w (tq_neLo c4803 i_t_120 tk_0) (by decide) (by decide)
                refine tz_b2 (tz_X4_expect T4804 k_h0 (tq_w tk_41 (by decide) (by decide))) (fun t_129 σ4802 ⟨i_t_129, T4802, W4802⟩ => ?_)
                refine tz_if _ (fun c4801 => ?_) (fun c4801 => ?_)
                ·
                  have i9_t_129 : tq_iv 0 0 t_129 := tq_cut i_t_129 (tq_eqL c4801 tk_0) (by decide) (by decide)
                  exact K_139 σ4802 T4802
                ·
                  have i10_t_129 : tq_iv 1 1 t_129 := tq_w (tq_neLo c4801 i_t_129 tk_0) (by decide) (by decide)
                  exact K_135 σ4802 T4802
          refine tz_if _ (fun c4815 => ?_) (fun c4815 => ?_)
          ·
            have i11_y0_17 : tq_iv 0 0 y0_17 := tq_cut i_y0_17 (tq_eqL c4815 tk_0) (by decide) (by decide)
            refine tz_bk ((fr_pf_v e4816 (fun h => absurd h.2.1 (by decide))).2.2.trans e4831) ?_
            refine tz_bk ((fr_pf_v e4816 (fun h => absurd h.2.1 (by decide))).2.2.trans e4830) ?_
            refine tz_bk ((fr_pf_v e4816 (fun h => absurd h.2.1 (by decide))).2.2.trans e4842) ?_
            refine tz_be (tg_9_6 T4816 k_t_1) (fun t_99 e4810 i_t_99 => ?_)
            refine tz_b2 (tz_X0_append T4816 k_t_36 (tq_w i_t_19 (by decide) (by decide))) (fun _ σ4809 T4809 => ?_)
            exact K_105 σ4809 T4809
          ·
            have i12_t_4 : tq_iv 40 40 t_4 := tq_cut (tq_top t_4) (g17_y0_17_t_4 c4815) (by decide) (by decide)
            have i13_y0_17 : tq_iv 1 1 y0_17 := tq_w (tq_neLo c4815 i_y0_17 tk_0) (by decide) (by decide)
            exact K_105 σ4816 T4816
        refine tz_if _ (fun c4826 => ?_) (fun c4826 => ?_)
        ·
          have i14_y0_17 : tq_iv 0 0 y0_17 := tq_cut i_y0_17 (tq_eqL c4826 tk_0) (by decide) (by decide)
          exact K_67 
        ·
          have i15_t_4 : tq_iv 40 40 t_4 := tq_cut (tq_top t_4) (g17_y0_17_t_4 c4826) (by decide) (by decide)
          have i16_y0_17 : tq_iv 1 1 y0_17 := tq_w (tq_neLo c4826 i_y0_17 tk_0) (by decide) (by decide)
          exact K_67 
      ·
        have i17_t_39 : tq_iv 30 2147483647 t_39 := tq_cut (tq_top t_39) (tq_leR (tq_nlt c4828) tk_30 (tq_top t_39)) (by decide) (by decide)
        exact K_47 
    refine tz_if _ (fun c4836 => ?_) (fun c4836 => ?_)
    ·
      have i18_y0_17 : tq_iv 0 0 y0_17 := tq_cut i_y0_17 (tq_eqL c4836 tk_0) (by decide) (by decide)
      refine tz_if _ (fun c4834 => ?_) (fun c4834 => ?_)
      ·
        have i19_t_19 : tq_iv (-1) (-1) t_19 := tq_cut i_t_19 (tq_eqL c4834 tk_m1) (by decide) (by decide)
        exact K_47 
      ·
        have i20_t_19 : tq_iv 0 4 t_19 := tq_w (tq_neLo c4834 i_t_19 tk_m1) (by decide) (by decide)
        exact K_32 
    ·
      have i21_t_4 : tq_iv 40 40 t_4 := tq_cut (tq_top t_4) (g17_y0_17_t_4 c4836) (by decide) (by decide)
      have i22_y0_17 : tq_iv 1 1 y0_17 := tq_w (tq_neLo c4836 i_y0_17 tk_0) (by decide) (by decide)
      exact K_32 
  refine tz_if _ (fun c4840 => ?_) (fun c4840 => ?_)
  ·
    have i23_t_4 : tq_iv 40 40 t_4 := tq_cut (tq_top t_4) (tq_eqL c4840 tk_40) (by decide) (by decide)
    exact K_17 (1 : Int32) (tq_w tk_1 (by decide) (by decide)) (fun _ => i23_t_4)
  ·
    exact K_17 (0 : Int32) (tq_w tk_0 (by decide) (by decide)) (fun h => absurd rfl h)
set_option maxRecDepth 4000 in
theorem tz_X4_readTerm_k0 {p : tz_P} {σ : ez_H} {h0 : Nat} (hT : tp p σ) (k_h0 : tz_C h0 = some (3, 4, 0, 0)) : tz_O2 (fun (z : Int32) (s : ez_H) => tq_iv 0 1 z ∧ tp p s) (z_X4_readTerm_k0 σ h0) := by
  show tz_O (fun z : Int32 × ez_H => (fun (z : Int32) (s : ez_H) => tq_iv 0 1 z ∧ tp p s) z.1 z.2) _
  unfold z_X4_readTerm_k0
  refine tz_bd (tz_ob hT k_h0) (fun _ _ => ?_)
  refine tz_b2 (tz_X4_readUnit_k0 hT k_h0) (fun t_2 σ4863 ⟨i_t_2, T4863⟩ => ?_)
  have L_8 : ∀ (n_8 : Nat) (k_8 : ez_H → Nat → Int32 → Int32 → Option (Int32 × ez_H)), (∀ (σ_8 : ez_H) (x2_8 : Int32) (x3_8 : Int32), tp p σ_8 → tq_iv 0 1 x2_8 → tq_iv 0 1600 x3_8 → (2147483647 - x3_8.toInt).toNat < n_8 → tz_O (fun z : Int32 × ez_H => (fun (z : Int32) (s : ez_H) => tq_iv 0 1 z ∧ tp p s) z.1 z.2) (k_8 σ_8 h0 x2_8 x3_8)) → ∀ (σ_8 : ez_H) (x2_8 : Int32) (x3_8 : Int32), tp p σ_8 → tq_iv 0 1 x2_8 → tq_iv 0 1600 x3_8 → (2147483647 - x3_8.toInt).toNat < n_8 + 1 → tz_O (fun z : Int32 × ez_H => (fun (z : Int32) (s : ez_H) => tq_iv 0 1 z ∧ tp p s) z.1 z.2) (z_X4_readTerm_k0_8 k_8 σ_8 h0 x2_8 x3_8) := by
    intro n_8 k_8 hk_8 σ_8 x2_8 x3_8 T_σ_8 i_x2_8 i_x3_8 hn_8
    unfold z_X4_readTerm_k0_8
    have K_65 : tz_O (fun z : Int32 × ez_H => (fun (z : Int32) (s : ez_H) => tq_iv 0 1 z ∧ tp p s) z.1 z.2) (z_X4_readTerm_k0_65 σ_8 x2_8) := by
      unfold z_X4_readTerm_k0_65
      refine tz_nr (tq_nr_boolean i_x2_8) ?_
      exact tz_some ⟨i_x2_8, T_σ_8⟩
    refine tz_if _ (fun c4861 => ?_) (fun c4861 => ?_)
    ·
      have i1_x3_8 : tq_iv 1600 1600 x3_8 := tq_cut i_x3_8 (tq_leR c4861 tk_1600 i_x3_8) (by decide) (by decide)
      exact K_65 
    ·
      have i2_x3_8 : tq_iv 0 1599 x3_8 := tq_cut i_x3_8 (tq_ltL (tq_nle c4861) i_x3_8 tk_1600) (by decide) (by decide)
      refine tz_if _ (fun c4860 => ?_) (fun c4860 => ?_)
      ·
        have i3_x2_8 : tq_iv 0 0 x2_8 := tq_cut i_x2_8 (tq_eqL c4860 tk_0) (by decide) (by decide)
        exact K_65 
      ·
        have i4_x2_8 : tq_iv 1 1 x2_8 := tq_w (tq_neLo c4860 i_x2_8 tk_0) (by decide) (by decide)
        refine tz_bd (tz_X4_productHere T_σ_8 k_h0) (fun t_20 i_t_20 => ?_)
        refine tz_if _ (fun c4858 => ?_) (fun c4858 => ?_)
        ·
          have i5_t_20 : tq_iv (-1) (-1) t_20 := tq_cut i_t_20 (tq_eqL c4858 tk_m1) (by decide) (by decide)
          exact K_65 
        ·
          have i6_t_20 : tq_iv 0 15 t_20 := tq_w (tq_neLo c4858 i_t_20 tk_m1) (by decide) (by decide)
          refine tz_bd (tz_X4_productHere T_σ_8 k_h0) (fun t_28 i_t_28 => ?_)
          refine tz_be (tg_4_3 T_σ_8 k_h0) (fun t_34 e4856 k_t_34 => ?_)
          refine tz_b2 (tz_X9_advance T_σ_8 k_t_34) (fun _ σ4855 ⟨T4855, W4855⟩ => ?_)
          refine tz_b2 (tz_X4_readUnit_k0 T4855 k_h0) (fun t_42 σ4854 ⟨i_t_42, T4854⟩ => ?_)
          refine tz_be (tg_4_0 T4854 k_h0) (fun t_47 e4853 k_t_47 => ?_)
          refine tz_be (tg_3_1 T4854 k_t_47) (fun t_50 e4852 k_t_50 => ?_)
          refine tz_b2 (tz_X0_append T4854 k_t_50 i_t_28) (fun _ σ4851 T4851 => ?_)
          refine tz_let (fun t_59 e4850 => ?_)
          have i7_t_59 : tq_iv 1 1600 t_59 := tq_w (tq_add e4850 i2_x3_8 tk_1 (by decide) (by decide)) (by decide) (by decide)
          exact hk_8 σ4851 t_42 t_59 T4851 i_t_42 (tq_w i7_t_59 (by decide) (by decide)) (tq_up e4850 i2_x3_8 tk_1 (by decide) (by decide) hn_8)
  have E_8 : ∀ (σ_8 : ez_H) (x2_8 : Int32) (x3_8 : Int32), tp p σ_8 → tq_iv 0 1 x2_8 → tq_iv 0 1600 x3_8 → tz_O (fun z : Int32 × ez_H => (fun (z : Int32) (s : ez_H) => tq_iv 0 1 z ∧ tp p s) z.1 z.2) (ez_fix (fun _ _ _ _ => none) (z_X4_readTerm_k0_8) ez_N σ_8 h0 x2_8 x3_8) := by
    intro σ_8 x2_8 x3_8 T_σ_8 i_x2_8 i_x3_8
    exact ez_fix_indn (fun n_8 (k_8 : ez_H → Nat → Int32 → Int32 → Option (Int32 × ez_H)) => ∀ (σ_8 : ez_H) (x2_8 : Int32) (x3_8 : Int32), tp p σ_8 → tq_iv 0 1 x2_8 → tq_iv 0 1600 x3_8 → (2147483647 - x3_8.toInt).toNat < n_8 → tz_O (fun z : Int32 × ez_H => (fun (z : Int32) (s : ez_H) => tq_iv 0 1 z ∧ tp p s) z.1 z.2) (k_8 σ_8 h0 x2_8 x3_8)) (by intros; rename_i h; exact absurd h (Nat.not_lt_zero _)) L_8 ez_N σ_8 x2_8 x3_8 T_σ_8 i_x2_8 i_x3_8 (tq_m0 x3_8)
  exact E_8 σ4863 t_2 (0 : Int32) T4863 i_t_2 (tq_w tk_0 (by decide) (by decide))
set_option maxRecDepth 4000 in
theorem tz_X4_readSum_k0 {p : tz_P} {σ : ez_H} {h0 : Nat} (hT : tp p σ) (k_h0 : tz_C h0 = some (3, 4, 0, 0)) : tz_O2 (fun (z : Int32) (s : ez_H) => tq_iv 0 1 z ∧ tp p s) (z_X4_readSum_k0 σ h0) := by
  show tz_O (fun z : Int32 × ez_H => (fun (z : Int32) (s : ez_H) => tq_iv 0 1 z ∧ tp p s) z.1 z.2) _
  unfold z_X4_readSum_k0
  refine tz_bd (tz_ob hT k_h0) (fun _ _ => ?_)
  refine tz_b2 (tz_X4_readTerm_k0 hT k_h0) (fun t_2 σ4894 ⟨i_t_2, T4894⟩ => ?_)
  have L_8 : ∀ (n_8 : Nat) (k_8 : ez_H → Nat → Int32 → Int32 → Option (Int32 × ez_H)), (∀ (σ_8 : ez_H) (x2_8 : Int32) (x3_8 : Int32), tp p σ_8 → tq_iv 0 1 x2_8 → tq_iv 0 1600 x3_8 → (2147483647 - x3_8.toInt).toNat < n_8 → tz_O (fun z : Int32 × ez_H => (fun (z : Int32) (s : ez_H) => tq_iv 0 1 z ∧ tp p s) z.1 z.2) (k_8 σ_8 h0 x2_8 x3_8)) → ∀ (σ_8 : ez_H) (x2_8 : Int32) (x3_8 : Int32), tp p σ_8 → tq_iv 0 1 x2_8 → tq_iv 0 1600 x3_8 → (2147483647 - x3_8.toInt).toNat < n_8 + 1 → tz_O (fun z : Int32 × ez_H => (fun (z : Int32) (s : ez_H) => tq_iv 0 1 z ∧ tp p s) z.1 z.2) (z_X4_readSum_k0_8 k_8 σ_8 h0 x2_8 x3_8) := by
    intro n_8 k_8 hk_8 σ_8 x2_8 x3_8 T_σ_8 i_x2_8 i_x3_8 hn_8
    unfold z_X4_readSum_k0_8
    have K_96 : tz_O (fun z : Int32 × ez_H => (fun (z : Int32) (s : ez_H) => tq_iv 0 1 z ∧ tp p s) z.1 z.2) (z_X4_readSum_k0_96 σ_8 x2_8) := by
      unfold z_X4_readSum_k0_96
      refine tz_nr (tq_nr_boolean i_x2_8) ?_
      exact tz_some ⟨i_x2_8, T_σ_8⟩
    refine tz_if _ (fun c4892 => ?_) (fun c4892 => ?_)
    ·
      have i1_x3_8 : tq_iv 1600 1600 x3_8 := tq_cut i_x3_8 (tq_leR c4892 tk_1600 i_x3_8) (by decide) (by decide)
      exact K_96 
    ·
      have i2_x3_8 : tq_iv 0 1599 x3_8 := tq_cut i_x3_8 (tq_ltL (tq_nle c4892) i_x3_8 tk_1600) (by decide) (by decide)
      refine tz_if _ (fun c4891 => ?_) (fun c4891 => ?_)
      ·
        have i3_x2_8 : tq_iv 0 0 x2_8 := tq_cut i_x2_8 (tq_eqL c4891 tk_0) (by decide) (by decide)
        exact K_96 
      ·
        have i4_x2_8 : tq_iv 1 1 x2_8 := tq_w (tq_neLo c4891 i_x2_8 tk_0) (by decide) (by decide)
        refine tz_be (tg_4_3 T_σ_8 k_h0) (fun t_20 e4890 k_t_20 => ?_)
        refine tz_be (tg_9_4 T_σ_8 k_t_20) (fun t_23 e4889 i_t_23 => ?_)
        have K_43 : tz_O (fun z : Int32 × ez_H => (fun (z : Int32) (s : ez_H) => tq_iv 0 1 z ∧ tp p s) z.1 z.2) (z_X4_readSum_k0_43 k_8 σ_8 h0 x3_8) := by
          unfold z_X4_readSum_k0_43
          refine tz_bk e4890 ?_
          refine tz_ba e4889 (fun t_47 e4878 a4878 => ?_)
          have K_62 : ∀ (y0_62 : Int32), tq_iv 11 12 y0_62 → tz_O (fun z : Int32 × ez_H => (fun (z : Int32) (s : ez_H) => tq_iv 0 1 z ∧ tp p s) z.1 z.2) (z_X4_readSum_k0_62 k_8 σ_8 h0 x3_8 y0_62) := by
            intro y0_62 i_y0_62
            unfold z_X4_readSum_k0_62
            refine tz_bk e4890 ?_
            refine tz_b2 (tz_X9_advance T_σ_8 k_t_20) (fun _ σ4873 ⟨T4873, W4873⟩ => ?_)
            refine tz_b2 (tz_X4_readTerm_k0 T4873 k_h0) (fun t_73 σ4872 ⟨i_t_73, T4872⟩ => ?_)
            refine tz_be (tg_4_0 T4872 k_h0) (fun t_78 e4871 k_t_78 => ?_)
            refine tz_be (tg_3_1 T4872 k_t_78) (fun t_81 e4870 k_t_81 => ?_)
            refine tz_b2 (tz_X0_append T4872 k_t_81 (tq_w i_y0_62 (by decide) (by decide))) (fun _ σ4869 T4869 => ?_)
            refine tz_let (fun t_90 e4868 => ?_)
            have i5_t_90 : tq_iv 1 1600 t_90 := tq_w (tq_add e4868 i2_x3_8 tk_1 (by decide) (by decide)) (by decide) (by decide)
            exact hk_8 σ4869 t_73 t_90 T4869 i_t_73 (tq_w i5_t_90 (by decide) (by decide)) (tq_up e4868 i2_x3_8 tk_1 (by decide) (by decide) hn_8)
          refine tz_if _ (fun c4877 => ?_) (fun c4877 => ?_)
          ·
            have i6_t_47 : tq_iv 43 43 t_47 := tq_cut (tq_top t_47) (tq_eqL c4877 tk_43) (by decide) (by decide)
            exact K_62 (11 : Int32) (tq_w tk_11 (by decide) (by decide))
          ·
            exact K_62 (12 : Int32) (tq_w tk_12 (by decide) (by decide))
        refine tz_if _ (fun c4888 => ?_) (fun c4888 => ?_)
        ·
          have i7_t_23 : tq_iv 43 43 t_23 := tq_cut (tq_top t_23) (tq_eqL c4888 tk_43) (by decide) (by decide)
          exact K_43 
        ·
          refine tz_bk e4890 ?_
          refine tz_ba e4889 (fun t_35 e4886 a4886 => ?_)
          refine tz_if _ (fun c4885 => ?_) (fun c4885 => ?_)
          ·
            have i8_t_35 : tq_iv 45 45 t_35 := tq_cut (tq_top t_35) (tq_eqL c4885 tk_45) (by decide) (by decide)
            exact K_43 
          ·
            exact K_96 
  have E_8 : ∀ (σ_8 : ez_H) (x2_8 : Int32) (x3_8 : Int32), tp p σ_8 → tq_iv 0 1 x2_8 → tq_iv 0 1600 x3_8 → tz_O (fun z : Int32 × ez_H => (fun (z : Int32) (s : ez_H) => tq_iv 0 1 z ∧ tp p s) z.1 z.2) (ez_fix (fun _ _ _ _ => none) (z_X4_readSum_k0_8) ez_N σ_8 h0 x2_8 x3_8) := by
    intro σ_8 x2_8 x3_8 T_σ_8 i_x2_8 i_x3_8
    exact ez_fix_indn (fun n_8 (k_8 : ez_H → Nat → Int32 → Int32 → Option (Int32 × ez_H)) => ∀ (σ_8 : ez_H) (x2_8 : Int32) (x3_8 : Int32), tp p σ_8 → tq_iv 0 1 x2_8 → tq_iv 0 1600 x3_8 → (2147483647 - x3_8.toInt).toNat < n_8 → tz_O (fun z : Int32 × ez_H => (fun (z : Int32) (s : ez_H) => tq_iv 0 1 z ∧ tp p s) z.1 z.2) (k_8 σ_8 h0 x2_8 x3_8)) (by intros; rename_i h; exact absurd h (Nat.not_lt_zero _)) L_8 ez_N σ_8 x2_8 x3_8 T_σ_8 i_x2_8 i_x3_8 (tq_m0 x3_8)
  exact E_8 σ4894 t_2 (0 : Int32) T4894 i_t_2 (tq_w tk_0 (by decide) (by decide))
set_option maxRecDepth 4000 in
theorem tz_X4_readOne_k0 {p : tz_P} {σ : ez_H} {h0 : Nat} (hT : tp p σ) (k_h0 : tz_C h0 = some (3, 4, 0, 0)) : tz_O2 (fun (z : Int32) (s : ez_H) => tq_iv 0 1 z ∧ tp p s) (z_X4_readOne_k0 σ h0) := by
  show tz_O (fun z : Int32 × ez_H => (fun (z : Int32) (s : ez_H) => tq_iv 0 1 z ∧ tp p s) z.1 z.2) _
  unfold z_X4_readOne_k0
  refine tz_bd (tz_ob hT k_h0) (fun _ _ => ?_)
  refine tz_be (tg_4_3 hT k_h0) (fun t_1 e4921 k_t_1 => ?_)
  refine tz_be (tg_9_4 hT k_t_1) (fun t_4 e4920 i_t_4 => ?_)
  refine tz_if _ (fun c4919 => ?_) (fun c4919 => ?_)
  ·
    have i1_t_4 : tq_iv 18 18 t_4 := tq_cut (tq_top t_4) (tq_eqL c4919 tk_18) (by decide) (by decide)
    refine tz_bk e4921 ?_
    refine tz_b2 (tz_X9_advance hT k_t_1) (fun _ σ4904 ⟨T4904, W4904⟩ => ?_)
    refine tz_b2 (tz_X4_readOne_k1 T4904 k_h0) (fun t_34 σ4903 ⟨i_t_34, T4903⟩ => ?_)
    refine tz_be (tg_4_0 T4903 k_h0) (fun t_39 e4902 k_t_39 => ?_)
    refine tz_be (tg_3_1 T4903 k_t_39) (fun t_42 e4901 k_t_42 => ?_)
    refine tz_b2 (tz_X0_append T4903 k_t_42 (tq_w tk_5 (by decide) (by decide))) (fun _ σ4900 T4900 => ?_)
    refine tz_nr (tq_nr_boolean i_t_34) ?_
    exact tz_some ⟨i_t_34, T4900⟩
  ·
    refine tz_b2 (tz_X4_readSum_k0 hT k_h0) (fun t_54 σ4918 ⟨i_t_54, T4918⟩ => ?_)
    refine tz_bd (tz_X4_relationHere T4918 k_h0) (fun t_59 i_t_59 => ?_)
    have K_97 : ∀ (σ_97 : ez_H) (x2_97 : Int32), tp p σ_97 → tq_iv 0 1 x2_97 → (¬ x2_97 = 0 → tq_iv 1 1 t_54) → tz_O (fun z : Int32 × ez_H => (fun (z : Int32) (s : ez_H) => tq_iv 0 1 z ∧ tp p s) z.1 z.2) (z_X4_readOne_k0_97 σ_97 x2_97) := by
      intro σ_97 x2_97 T_σ_97 i_x2_97 g97_x2_97_t_54
      unfold z_X4_readOne_k0_97
      refine tz_nr (tq_nr_boolean i_x2_97) ?_
      exact tz_some ⟨i_x2_97, T_σ_97⟩
    refine tz_if _ (fun c4916 => ?_) (fun c4916 => ?_)
    ·
      have i2_t_54 : tq_iv 0 0 t_54 := tq_cut i_t_54 (tq_eqL c4916 tk_0) (by decide) (by decide)
      exact K_97 σ4918 t_54 T4918 (tq_w i2_t_54 (by decide) (by decide)) (fun h => absurd (tq_z0 i2_t_54) h)
    ·
      have i3_t_54 : tq_iv 1 1 t_54 := tq_w (tq_neLo c4916 i_t_54 tk_0) (by decide) (by decide)
      refine tz_if _ (fun c4915 => ?_) (fun c4915 => ?_)
      ·
        have i4_t_59 : tq_iv (-1) (-1) t_59 := tq_cut i_t_59 (tq_eqL c4915 tk_m1) (by decide) (by decide)
        exact K_97 σ4918 t_54 T4918 (tq_w i3_t_54 (by decide) (by decide)) (fun _ => i3_t_54)
      ·
        have i5_t_59 : tq_iv 0 10 t_59 := tq_w (tq_neLo c4915 i_t_59 tk_m1) (by decide) (by decide)
        refine tz_be (tg_4_3 T4918 k_h0) (fun t_73 e4914 k_t_73 => ?_)
        refine tz_b2 (tz_X9_advance T4918 k_t_73) (fun _ σ4913 ⟨T4913, W4913⟩ => ?_)
        refine tz_b2 (tz_X4_readSum_k0 T4913 k_h0) (fun t_81 σ4912 ⟨i_t_81, T4912⟩ => ?_)
        refine tz_be (tg_4_0 T4912 k_h0) (fun t_86 e4911 k_t_86 => ?_)
        refine tz_be (tg_3_1 T4912 k_t_86) (fun t_89 e4910 k_t_89 => ?_)
        refine tz_b2 (tz_X0_append T4912 k_t_89 (tq_w i5_t_59 (by decide) (by decide))) (fun _ σ4909 T4909 => ?_)
        exact K_97 σ4909 t_81 T4909 i_t_81 (fun _ => i3_t_54)
set_option maxRecDepth 4000 in
theorem tz_X4_readBoth_k0 {p : tz_P} {σ : ez_H} {h0 : Nat} (hT : tp p σ) (k_h0 : tz_C h0 = some (3, 4, 0, 0)) : tz_O2 (fun (z : Int32) (s : ez_H) => tq_iv 0 1 z ∧ tp p s) (z_X4_readBoth_k0 σ h0) := by
  show tz_O (fun z : Int32 × ez_H => (fun (z : Int32) (s : ez_H) => tq_iv 0 1 z ∧ tp p s) z.1 z.2) _
  unfold z_X4_readBoth_k0
  refine tz_bd (tz_ob hT k_h0) (fun _ _ => ?_)
  refine tz_b2 (tz_X4_readOne_k0 hT k_h0) (fun t_2 σ4942 ⟨i_t_2, T4942⟩ => ?_)
  have L_8 : ∀ (n_8 : Nat) (k_8 : ez_H → Nat → Int32 → Int32 → Option (Int32 × ez_H)), (∀ (σ_8 : ez_H) (x2_8 : Int32) (x3_8 : Int32), tp p σ_8 → tq_iv 0 1 x2_8 → tq_iv 0 1600 x3_8 → (2147483647 - x3_8.toInt).toNat < n_8 → tz_O (fun z : Int32 × ez_H => (fun (z : Int32) (s : ez_H) => tq_iv 0 1 z ∧ tp p s) z.1 z.2) (k_8 σ_8 h0 x2_8 x3_8)) → ∀ (σ_8 : ez_H) (x2_8 : Int32) (x3_8 : Int32), tp p σ_8 → tq_iv 0 1 x2_8 → tq_iv 0 1600 x3_8 → (2147483647 - x3_8.toInt).toNat < n_8 + 1 → tz_O (fun z : Int32 × ez_H => (fun (z : Int32) (s : ez_H) => tq_iv 0 1 z ∧ tp p s) z.1 z.2) (z_X4_readBoth_k0_8 k_8 σ_8 h0 x2_8 x3_8) := by
    intro n_8 k_8 hk_8 σ_8 x2_8 x3_8 T_σ_8 i_x2_8 i_x3_8 hn_8
    unfold z_X4_readBoth_k0_8
    have K_63 : tz_O (fun z : Int32 × ez_H => (fun (z : Int32) (s : ez_H) => tq_iv 0 1 z ∧ tp p s) z.1 z.2) (z_X4_readBoth_k0_63 σ_8 x2_8) := by
      unfold z_X4_readBoth_k0_63
      refine tz_nr (tq_nr_boolean i_x2_8) ?_
      exact tz_some ⟨i_x2_8, T_σ_8⟩
    refine tz_if _ (fun c4940 => ?_) (fun c4940 => ?_)
    ·
      have i1_x3_8 : tq_iv 1600 1600 x3_8 := tq_cut i_x3_8 (tq_leR c4940 tk_1600 i_x3_8) (by decide) (by decide)
      exact K_63 
    ·
      have i2_x3_8 : tq_iv 0 1599 x3_8 := tq_cut i_x3_8 (tq_ltL (tq_nle c4940) i_x3_8 tk_1600) (by decide) (by decide)
      refine tz_if _ (fun c4939 => ?_) (fun c4939 => ?_)
      ·
        have i3_x2_8 : tq_iv 0 0 x2_8 := tq_cut i_x2_8 (tq_eqL c4939 tk_0) (by decide) (by decide)
        exact K_63 
      ·
        have i4_x2_8 : tq_iv 1 1 x2_8 := tq_w (tq_neLo c4939 i_x2_8 tk_0) (by decide) (by decide)
        refine tz_be (tg_4_3 T_σ_8 k_h0) (fun t_20 e4938 k_t_20 => ?_)
        refine tz_be (tg_9_4 T_σ_8 k_t_20) (fun t_23 e4937 i_t_23 => ?_)
        refine tz_if _ (fun c4936 => ?_) (fun c4936 => ?_)
        ·
          have i5_t_23 : tq_iv 17 17 t_23 := tq_cut (tq_top t_23) (tq_eqL c4936 tk_17) (by decide) (by decide)
          refine tz_bk e4938 ?_
          refine tz_b2 (tz_X9_advance T_σ_8 k_t_20) (fun _ σ4933 ⟨T4933, W4933⟩ => ?_)
          refine tz_b2 (tz_X4_readOne_k0 T4933 k_h0) (fun t_40 σ4932 ⟨i_t_40, T4932⟩ => ?_)
          refine tz_be (tg_4_0 T4932 k_h0) (fun t_45 e4931 k_t_45 => ?_)
          refine tz_be (tg_3_1 T4932 k_t_45) (fun t_48 e4930 k_t_48 => ?_)
          refine tz_b2 (tz_X0_append T4932 k_t_48 (tq_w tk_7 (by decide) (by decide))) (fun _ σ4929 T4929 => ?_)
          refine tz_let (fun t_57 e4928 => ?_)
          have i6_t_57 : tq_iv 1 1600 t_57 := tq_w (tq_add e4928 i2_x3_8 tk_1 (by decide) (by decide)) (by decide) (by decide)
          exact hk_8 σ4929 t_40 t_57 T4929 i_t_40 (tq_w i6_t_57 (by decide) (by decide)) (tq_up e4928 i2_x3_8 tk_1 (by decide) (by decide) hn_8)
        ·
          exact K_63 
  have E_8 : ∀ (σ_8 : ez_H) (x2_8 : Int32) (x3_8 : Int32), tp p σ_8 → tq_iv 0 1 x2_8 → tq_iv 0 1600 x3_8 → tz_O (fun z : Int32 × ez_H => (fun (z : Int32) (s : ez_H) => tq_iv 0 1 z ∧ tp p s) z.1 z.2) (ez_fix (fun _ _ _ _ => none) (z_X4_readBoth_k0_8) ez_N σ_8 h0 x2_8 x3_8) := by
    intro σ_8 x2_8 x3_8 T_σ_8 i_x2_8 i_x3_8
    exact ez_fix_indn (fun n_8 (k_8 : ez_H → Nat → Int32 → Int32 → Option (Int32 × ez_H)) => ∀ (σ_8 : ez_H) (x2_8 : Int32) (x3_8 : Int32), tp p σ_8 → tq_iv 0 1 x2_8 → tq_iv 0 1600 x3_8 → (2147483647 - x3_8.toInt).toNat < n_8 → tz_O (fun z : Int32 × ez_H => (fun (z : Int32) (s : ez_H) => tq_iv 0 1 z ∧ tp p s) z.1 z.2) (k_8 σ_8 h0 x2_8 x3_8)) (by intros; rename_i h; exact absurd h (Nat.not_lt_zero _)) L_8 ez_N σ_8 x2_8 x3_8 T_σ_8 i_x2_8 i_x3_8 (tq_m0 x3_8)
  exact E_8 σ4942 t_2 (0 : Int32) T4942 i_t_2 (tq_w tk_0 (by decide) (by decide))
set_option maxRecDepth 4000 in
theorem tz_X4_readEither_k0 {p : tz_P} {σ : ez_H} {h0 : Nat} (hT : tp p σ) (k_h0 : tz_C h0 = some (3, 4, 0, 0)) : tz_O2 (fun (z : Int32) (s : ez_H) => tq_iv 0 1 z ∧ tp p s) (z_X4_readEither_k0 σ h0) := by
  show tz_O (fun z : Int32 × ez_H => (fun (z : Int32) (s : ez_H) => tq_iv 0 1 z ∧ tp p s) z.1 z.2) _
  unfold z_X4_readEither_k0
  refine tz_bd (tz_ob hT k_h0) (fun _ _ => ?_)
  refine tz_b2 (tz_X4_readBoth_k0 hT k_h0) (fun t_2 σ4963 ⟨i_t_2, T4963⟩ => ?_)
  have L_8 : ∀ (n_8 : Nat) (k_8 : ez_H → Nat → Int32 → Int32 → Option (Int32 × ez_H)), (∀ (σ_8 : ez_H) (x2_8 : Int32) (x3_8 : Int32), tp p σ_8 → tq_iv 0 1 x2_8 → tq_iv 0 1600 x3_8 → (2147483647 - x3_8.toInt).toNat < n_8 → tz_O (fun z : Int32 × ez_H => (fun (z : Int32) (s : ez_H) => tq_iv 0 1 z ∧ tp p s) z.1 z.2) (k_8 σ_8 h0 x2_8 x3_8)) → ∀ (σ_8 : ez_H) (x2_8 : Int32) (x3_8 : Int32), tp p σ_8 → tq_iv 0 1 x2_8 → tq_iv 0 1600 x3_8 → (2147483647 - x3_8.toInt).toNat < n_8 + 1 → tz_O (fun z : Int32 × ez_H => (fun (z : Int32) (s : ez_H) => tq_iv 0 1 z ∧ tp p s) z.1 z.2) (z_X4_readEither_k0_8 k_8 σ_8 h0 x2_8 x3_8) := by
    intro n_8 k_8 hk_8 σ_8 x2_8 x3_8 T_σ_8 i_x2_8 i_x3_8 hn_8
    unfold z_X4_readEither_k0_8
    have K_63 : tz_O (fun z : Int32 × ez_H => (fun (z : Int32) (s : ez_H) => tq_iv 0 1 z ∧ tp p s) z.1 z.2) (z_X4_readEither_k0_63 σ_8 x2_8) := by
      unfold z_X4_readEither_k0_63
      refine tz_nr (tq_nr_boolean i_x2_8) ?_
      exact tz_some ⟨i_x2_8, T_σ_8⟩
    refine tz_if _ (fun c4961 => ?_) (fun c4961 => ?_)
    ·
      have i1_x3_8 : tq_iv 1600 1600 x3_8 := tq_cut i_x3_8 (tq_leR c4961 tk_1600 i_x3_8) (by decide) (by decide)
      exact K_63 
    ·
      have i2_x3_8 : tq_iv 0 1599 x3_8 := tq_cut i_x3_8 (tq_ltL (tq_nle c4961) i_x3_8 tk_1600) (by decide) (by decide)
      refine tz_if _ (fun c4960 => ?_) (fun c4960 => ?_)
      ·
        have i3_x2_8 : tq_iv 0 0 x2_8 := tq_cut i_x2_8 (tq_eqL c4960 tk_0) (by decide) (by decide)
        exact K_63 
      ·
        have i4_x2_8 : tq_iv 1 1 x2_8 := tq_w (tq_neLo c4960 i_x2_8 tk_0) (by decide) (by decide)
        refine tz_be (tg_4_3 T_σ_8 k_h0) (fun t_20 e4959 k_t_20 => ?_)
        refine tz_be (tg_9_4 T_σ_8 k_t_20) (fun t_23 e4958 i_t_23 => ?_)
        refine tz_if _ (fun c4957 => ?_) (fun c4957 => ?_)
        ·
          have i5_t_23 : tq_iv 16 16 t_23 := tq_cut (tq_top t_23) (tq_eqL c4957 tk_16) (by decide) (by decide)
          refine tz_bk e4959 ?_
          refine tz_b2 (tz_X9_advance T_σ_8 k_t_20) (fun _ σ4954 ⟨T4954, W4954⟩ => ?_)
          refine tz_b2 (tz_X4_readBoth_k0 T4954 k_h0) (fun t_40 σ4953 ⟨i_t_40, T4953⟩ => ?_)
          refine tz_be (tg_4_0 T4953 k_h0) (fun t_45 e4952 k_t_45 => ?_)
          refine tz_be (tg_3_1 T4953 k_t_45) (fun t_48 e4951 k_t_48 => ?_)
          refine tz_b2 (tz_X0_append T4953 k_t_48 (tq_w tk_6 (by decide) (by decide))) (fun _ σ4950 T4950 => ?_)
          refine tz_let (fun t_57 e4949 => ?_)
          have i6_t_57 : tq_iv 1 1600 t_57 := tq_w (tq_add e4949 i2_x3_8 tk_1 (by decide) (by decide)) (by decide) (by decide)
          exact hk_8 σ4950 t_40 t_57 T4950 i_t_40 (tq_w i6_t_57 (by decide) (by decide)) (tq_up e4949 i2_x3_8 tk_1 (by decide) (by decide) hn_8)
        ·
          exact K_63 
  have E_8 : ∀ (σ_8 : ez_H) (x2_8 : Int32) (x3_8 : Int32), tp p σ_8 → tq_iv 0 1 x2_8 → tq_iv 0 1600 x3_8 → tz_O (fun z : Int32 × ez_H => (fun (z : Int32) (s : ez_H) => tq_iv 0 1 z ∧ tp p s) z.1 z.2) (ez_fix (fun _ _ _ _ => none) (z_X4_readEither_k0_8) ez_N σ_8 h0 x2_8 x3_8) := by
    intro σ_8 x2_8 x3_8 T_σ_8 i_x2_8 i_x3_8
    exact ez_fix_indn (fun n_8 (k_8 : ez_H → Nat → Int32 → Int32 → Option (Int32 × ez_H)) => ∀ (σ_8 : ez_H) (x2_8 : Int32) (x3_8 : Int32), tp p σ_8 → tq_iv 0 1 x2_8 → tq_iv 0 1600 x3_8 → (2147483647 - x3_8.toInt).toNat < n_8 → tz_O (fun z : Int32 × ez_H => (fun (z : Int32) (s : ez_H) => tq_iv 0 1 z ∧ tp p s) z.1 z.2) (k_8 σ_8 h0 x2_8 x3_8)) (by intros; rename_i h; exact absurd h (Nat.not_lt_zero _)) L_8 ez_N σ_8 x2_8 x3_8 T_σ_8 i_x2_8 i_x3_8 (tq_m0 x3_8)
  exact E_8 σ4963 t_2 (0 : Int32) T4963 i_t_2 (tq_w tk_0 (by decide) (by decide))
set_option maxRecDepth 4000 in
theorem tz_X4_named {p : tz_P} {σ : ez_H} {h0 : Nat} {x1 : Int32} {x2 : Int32} (hT : tp p σ) (k_h0 : tz_C h0 = some (3, 4, 0, 0)) (i_x1 : tq_iv 0 4 x1) : tz_O (fun z => tq_iv (-1) 7 z) (z_X4_named σ h0 x1 x2) := by
  unfold z_X4_named
  refine tz_bd (tz_ob hT k_h0) (fun _ _ => ?_)
  refine tz_if _ (fun c4985 => ?_) (fun c4985 => ?_)
  ·
    exact (tq_xlt c4985 i_x1 tk_0 (by decide)).elim
  ·
    refine tz_if _ (fun c4984 => ?_) (fun c4984 => ?_)
    ·
      have L_13 : ∀ (n_13 : Nat) (k_13 : Nat → Int32 → Int32 → Int32 → Option (Int32)), (∀ (x3_13 : Int32), tq_iv 0 8 x3_13 → (2147483647 - x3_13.toInt).toNat < n_13 → tz_O (fun (z : Int32) => tq_iv (-1) 7 z) (k_13 h0 x1 x2 x3_13)) → ∀ (x3_13 : Int32), tq_iv 0 8 x3_13 → (2147483647 - x3_13.toInt).toNat < n_13 + 1 → tz_O (fun (z : Int32) => tq_iv (-1) 7 z) (z_X4_named_13 σ k_13 h0 x1 x2 x3_13) := by
        intro n_13 k_13 hk_13 x3_13 i_x3_13 hn_13
        unfold z_X4_named_13
        have K_51 : tz_O (fun (z : Int32) => tq_iv (-1) 7 z) (z_X4_named_51 σ) := by
          unfold z_X4_named_51
          exact tz_some (tq_w tk_m1 (by decide) (by decide))
        refine tz_if _ (fun c4980 => ?_) (fun c4980 => ?_)
        ·
          have i1_x2 : tq_iv (-2147483648) 8 x2 := tq_cut (tq_top x2) (tq_leL c4980 (tq_top x2) i_x3_13) (by decide) (by decide)
          exact K_51 
        ·
          have i2_x2 : tq_iv 1 2147483647 x2 := tq_cut (tq_top x2) (tq_ltR (tq_nle c4980) i_x3_13 (tq_top x2)) (by decide) (by decide)
          refine tz_if _ (fun c4979 => ?_) (fun c4979 => ?_)
          ·
            have i3_x3_13 : tq_iv 8 8 x3_13 := tq_cut i_x3_13 (tq_leR c4979 tk_8 i_x3_13) (by decide) (by decide)
            exact K_51 
          ·
            have i4_x3_13 : tq_iv 0 7 x3_13 := tq_cut i_x3_13 (tq_ltL (tq_nle c4979) i_x3_13 tk_8) (by decide) (by decide)
            refine tz_be (tg_4_4 hT k_h0) (fun t_25 e4978 k_t_25 => ?_)
            refine tz_be (tz_ra hT k_t_25 i_x1 (by decide) (by decide)) (fun t_29 e4977 k_t_29 => ?_)
            refine tz_be (tz_la hT k_t_29 i4_x3_13 (by decide) (by decide)) (fun t_31 e4976 _ => ?_)
            refine tz_be (tg_4_3 hT k_h0) (fun t_33 e4975 k_t_33 => ?_)
            refine tz_be (tg_9_7 hT k_t_33) (fun t_36 e4974 _ => ?_)
            refine tz_let (fun t_39 e4973 => ?_)
            have i5_t_39 : tq_iv (-1) 1 t_39 := tq_cmp e4973
            refine tz_if _ (fun c4972 => ?_) (fun c4972 => ?_)
            ·
              have i6_t_39 : tq_iv 0 0 t_39 := tq_cut i5_t_39 (tq_eqL c4972 tk_0) (by decide) (by decide)
              exact tz_some (tq_w i4_x3_13 (by decide) (by decide))
            ·
              refine tz_let (fun t_45 e4971 => ?_)
              have i7_t_45 : tq_iv 1 8 t_45 := tq_w (tq_add e4971 i4_x3_13 tk_1 (by decide) (by decide)) (by decide) (by decide)
              exact hk_13 t_45 (tq_w i7_t_45 (by decide) (by decide)) (tq_up e4971 i4_x3_13 tk_1 (by decide) (by decide) hn_13)
      have E_13 : ∀ (x3_13 : Int32), tq_iv 0 8 x3_13 → tz_O (fun (z : Int32) => tq_iv (-1) 7 z) (ez_fix (fun _ _ _ _ => none) (z_X4_named_13 σ) ez_N h0 x1 x2 x3_13) := by
        intro x3_13 i_x3_13
        exact ez_fix_indn (fun n_13 (k_13 : Nat → Int32 → Int32 → Int32 → Option (Int32)) => ∀ (x3_13 : Int32), tq_iv 0 8 x3_13 → (2147483647 - x3_13.toInt).toNat < n_13 → tz_O (fun (z : Int32) => tq_iv (-1) 7 z) (k_13 h0 x1 x2 x3_13)) (by intros; rename_i h; exact absurd h (Nat.not_lt_zero _)) L_13 ez_N x3_13 i_x3_13 (tq_m0 x3_13)
      exact E_13 (0 : Int32) (tq_w tk_0 (by decide) (by decide))
    ·
      exact (tq_xle (tq_nlt c4984) tk_5 i_x1 (by decide)).elim
set_option maxRecDepth 4000 in
theorem tz_X4_knownName {p : tz_P} {σ : ez_H} {h0 : Nat} {x1 : Int32} {x2 : Int32} (hT : tp p σ) (k_h0 : tz_C h0 = some (3, 4, 0, 0)) (i_x1 : tq_iv 0 2 x1) : tz_O2 (fun (z : Int32) (s : ez_H) => tq_iv (-1) 7 z ∧ tp p s) (z_X4_knownName σ h0 x1 x2) := by
  show tz_O (fun z : Int32 × ez_H => (fun (z : Int32) (s : ez_H) => tq_iv (-1) 7 z ∧ tp p s) z.1 z.2) _
  unfold z_X4_knownName
  refine tz_bd (tz_ob hT k_h0) (fun _ _ => ?_)
  refine tz_be (tg_4_3 hT k_h0) (fun t_1 e4997 k_t_1 => ?_)
  refine tz_be (tg_9_4 hT k_t_1) (fun t_4 e4996 i_t_4 => ?_)
  refine tz_if _ (fun c4995 => ?_) (fun c4995 => ?_)
  ·
    have i1_t_4 : tq_iv 23 23 t_4 := tq_cut (tq_top t_4) (tq_eqL c4995 tk_23) (by decide) (by decide)
    refine tz_bd (tz_X4_named hT k_h0 (tq_w i_x1 (by decide) (by decide))) (fun t_22 i_t_22 => ?_)
    have K_37 : ∀ (σ_37 : ez_H), tp p σ_37 → tz_O (fun z : Int32 × ez_H => (fun (z : Int32) (s : ez_H) => tq_iv (-1) 7 z ∧ tp p s) z.1 z.2) (z_X4_knownName_37 σ_37 t_22) := by
      intro σ_37 T_σ_37
      unfold z_X4_knownName_37
      exact tz_some ⟨i_t_22, T_σ_37⟩
    refine tz_if _ (fun c4991 => ?_) (fun c4991 => ?_)
    ·
      have i2_t_22 : tq_iv (-1) (-1) t_22 := tq_cut i_t_22 (tq_eqL c4991 tk_m1) (by decide) (by decide)
      refine tz_b2 (tz_X4_blame hT k_h0 (tq_w tk_5 (by decide) (by decide))) (fun t_33 σ4989 ⟨i_t_33, T4989, W4989⟩ => ?_)
      exact K_37 σ4989 T4989
    ·
      have i3_t_22 : tq_iv 0 7 t_22 := tq_w (tq_neLo c4991 i_t_22 tk_m1) (by decide) (by decide)
      exact K_37 σ hT
  ·
    refine tz_b2 (tz_X4_refuse hT k_h0) (fun t_13 σ4994 ⟨i_t_13, T4994, W4994⟩ => ?_)
    exact tz_some ⟨(tq_w tk_m1 (by decide) (by decide)), T4994⟩
set_option maxRecDepth 4000 in
theorem tz_X3_addMust {p : tz_P} {σ : ez_H} {h0 : Nat} {x1 : Int32} {x2 : Int32} (hT : tp p σ) (k_h0 : tz_C h0 = some (3, 3, 0, 0)) (i_x1 : tq_iv 0 7 x1) (i_x2 : tq_iv 0 7 x2) : tz_O2 (fun (z : Unit) (s : ez_H) => tp p s) (z_X3_addMust σ h0 x1 x2) := by
  show tz_O (fun z : Unit × ez_H => (fun (z : Unit) (s : ez_H) => tp p s) z.1 z.2) _
  unfold z_X3_addMust
  refine tz_bd (tz_ob hT k_h0) (fun _ _ => ?_)
  have K_22 : ∀ (σ_22 : ez_H), tp p σ_22 → tz_O (fun z : Unit × ez_H => (fun (z : Unit) (s : ez_H) => tp p s) z.1 z.2) (z_X3_addMust_22 σ_22) := by
    intro σ_22 T_σ_22
    unfold z_X3_addMust_22
    exact tz_some T_σ_22
  refine tz_if _ (fun c5009 => ?_) (fun c5009 => ?_)
  ·
    exact (tq_xlt c5009 i_x2 tk_0 (by decide)).elim
  ·
    refine tz_if _ (fun c5008 => ?_) (fun c5008 => ?_)
    ·
      have i1_x2 : tq_iv 6 7 x2 := tq_cut i_x2 (tq_leR c5008 tk_6 i_x2) (by decide) (by decide)
      exact K_22 σ hT
    ·
      have i2_x2 : tq_iv 0 5 x2 := tq_cut i_x2 (tq_ltL (tq_nle c5008) i_x2 tk_6) (by decide) (by decide)
      refine tz_be (tg_3_11 hT k_h0) (fun t_11 e5007 k_t_11 => ?_)
      refine tz_be (tz_ia hT k_t_11 (te_0 (p := p)) i2_x2 (by decide) (by decide)) (fun t_16 e5006 i_t_16 => ?_)
      refine tz_let (fun t_19 e5005 => ?_)
      have i3_t_19 : tq_iv 1 128 t_19 := tq_shl1 e5005 i_x1 (by decide) (by decide) (by decide) (by decide)
      refine tz_let (fun t_20 e5004 => ?_)
      refine tz_be (tz_is hT k_t_11 (te_0 (p := p)) i2_x2 (by decide) (by decide) (tq_top t_20)) (fun σ5003 e5003 T5003 => ?_)
      exact K_22 σ5003 T5003
set_option maxRecDepth 4000 in
theorem tz_X3_addNever {p : tz_P} {σ : ez_H} {h0 : Nat} {x1 : Int32} {x2 : Int32} (hT : tp p σ) (k_h0 : tz_C h0 = some (3, 3, 0, 0)) (i_x1 : tq_iv 0 7 x1) (i_x2 : tq_iv 0 7 x2) : tz_O2 (fun (z : Unit) (s : ez_H) => tp p s) (z_X3_addNever σ h0 x1 x2) := by
  show tz_O (fun z : Unit × ez_H => (fun (z : Unit) (s : ez_H) => tp p s) z.1 z.2) _
  unfold z_X3_addNever
  refine tz_bd (tz_ob hT k_h0) (fun _ _ => ?_)
  have K_22 : ∀ (σ_22 : ez_H), tp p σ_22 → tz_O (fun z : Unit × ez_H => (fun (z : Unit) (s : ez_H) => tp p s) z.1 z.2) (z_X3_addNever_22 σ_22) := by
    intro σ_22 T_σ_22
    unfold z_X3_addNever_22
    exact tz_some T_σ_22
  refine tz_if _ (fun c5021 => ?_) (fun c5021 => ?_)
  ·
    exact (tq_xlt c5021 i_x2 tk_0 (by decide)).elim
  ·
    refine tz_if _ (fun c5020 => ?_) (fun c5020 => ?_)
    ·
      have i1_x2 : tq_iv 6 7 x2 := tq_cut i_x2 (tq_leR c5020 tk_6 i_x2) (by decide) (by decide)
      exact K_22 σ hT
    ·
      have i2_x2 : tq_iv 0 5 x2 := tq_cut i_x2 (tq_ltL (tq_nle c5020) i_x2 tk_6) (by decide) (by decide)
      refine tz_be (tg_3_12 hT k_h0) (fun t_11 e5019 k_t_11 => ?_)
      refine tz_be (tz_ia hT k_t_11 (te_0 (p := p)) i2_x2 (by decide) (by decide)) (fun t_16 e5018 i_t_16 => ?_)
      refine tz_let (fun t_19 e5017 => ?_)
      have i3_t_19 : tq_iv 1 128 t_19 := tq_shl1 e5017 i_x1 (by decide) (by decide) (by decide) (by decide)
      refine tz_let (fun t_20 e5016 => ?_)
      refine tz_be (tz_is hT k_t_11 (te_0 (p := p)) i2_x2 (by decide) (by decide) (tq_top t_20)) (fun σ5015 e5015 T5015 => ?_)
      exact K_22 σ5015 T5015
set_option maxRecDepth 4000 in
theorem tz_X4_readRule {p : tz_P} {σ : ez_H} {h0 : Nat} (hT : tp p σ) (k_h0 : tz_C h0 = some (3, 4, 0, 0)) : tz_O2 (fun (z : Int32) (s : ez_H) => tq_iv 0 1 z ∧ tp p s) (z_X4_readRule σ h0) := by
  show tz_O (fun z : Int32 × ez_H => (fun (z : Int32) (s : ez_H) => tq_iv 0 1 z ∧ tp p s) z.1 z.2) _
  unfold z_X4_readRule
  refine tz_bd (tz_ob hT k_h0) (fun _ _ => ?_)
  refine tz_be (tg_4_3 hT k_h0) (fun t_1 e5064 k_t_1 => ?_)
  refine tz_be (tg_9_4 hT k_t_1) (fun t_4 e5063 i_t_4 => ?_)
  have K_17 : ∀ (y0_17 : Int32), tq_iv 0 1 y0_17 → (¬ y0_17 = 0 → tq_iv 8 8 t_4) → tz_O (fun z : Int32 × ez_H => (fun (z : Int32) (s : ez_H) => tq_iv 0 1 z ∧ tp p s) z.1 z.2) (z_X4_readRule_17 σ h0 y0_17) := by
    intro y0_17 i_y0_17 g17_y0_17_t_4
    unfold z_X4_readRule_17
    refine tz_bk e5064 ?_
    refine tz_b2 (tz_X9_advance hT k_t_1) (fun _ σ5058 ⟨T5058, W5058⟩ => ?_)
    refine tz_be (tg_4_0 T5058 k_h0) (fun t_28 e5057 k_t_28 => ?_)
    refine tz_be (tg_3_3 T5058 k_t_28) (fun t_31 e5056 i_t_31 => ?_)
    refine tz_b2 (tz_X4_knownName T5058 k_h0 (tq_w tk_0 (by decide) (by decide))) (fun t_34 σ5055 ⟨i_t_34, T5055⟩ => ?_)
    refine tz_if _ (fun c5054 => ?_) (fun c5054 => ?_)
    ·
      have i1_t_34 : tq_iv (-1) (-1) t_34 := tq_cut i_t_34 (tq_eqL c5054 tk_m1) (by decide) (by decide)
      exact tz_some ⟨(tq_w tk_0 (by decide) (by decide)), T5055⟩
    ·
      have i2_t_34 : tq_iv 0 7 t_34 := tq_w (tq_neLo c5054 i_t_34 tk_m1) (by decide) (by decide)
      refine tz_be (tg_4_3 T5055 k_h0) (fun t_46 e5053 k_t_46 => ?_)
      refine tz_b2 (tz_X9_advance T5055 k_t_46) (fun _ σ5052 ⟨T5052, W5052⟩ => ?_)
      refine tz_be (tg_4_0 T5052 k_h0) (fun t_55 e5051 k_t_55 => ?_)
      refine tz_be (tg_3_4 T5052 k_t_55) (fun t_58 e5050 i_t_58 => ?_)
      refine tz_b2 (tz_X4_knownName T5052 k_h0 (tq_w tk_1 (by decide) (by decide))) (fun t_61 σ5049 ⟨i_t_61, T5049⟩ => ?_)
      refine tz_if _ (fun c5048 => ?_) (fun c5048 => ?_)
      ·
        have i3_t_61 : tq_iv (-1) (-1) t_61 := tq_cut i_t_61 (tq_eqL c5048 tk_m1) (by decide) (by decide)
        exact tz_some ⟨(tq_w tk_0 (by decide) (by decide)), T5049⟩
      ·
        have i4_t_61 : tq_iv 0 7 t_61 := tq_w (tq_neLo c5048 i_t_61 tk_m1) (by decide) (by decide)
        refine tz_be (tg_4_0 T5049 k_h0) (fun t_73 e5047 k_t_73 => ?_)
        refine tz_bd (tz_X3_mustOf T5049 k_t_73 (tq_w i4_t_61 (by decide) (by decide))) (fun t_77 i_t_77 => ?_)
        refine tz_bk e5047 ?_
        refine tz_bd (tz_X3_neverOf T5049 k_t_73 (tq_w i4_t_61 (by decide) (by decide))) (fun t_85 i_t_85 => ?_)
        refine tz_let (fun t_88 e5043 => ?_)
        refine tz_let (fun t_90 e5042 => ?_)
        refine tz_let (fun t_92 e5041 => ?_)
        have i5_t_92 : tq_iv 0 1 t_92 := tq_and2 e5041 tk_1 (by decide)
        refine tz_if _ (fun c5040 => ?_) (fun c5040 => ?_)
        ·
          have i6_t_92 : tq_iv 0 0 t_92 := tq_cut i5_t_92 (tq_eqL c5040 tk_0) (by decide) (by decide)
          have K_127 : ∀ (σ_127 : ez_H), tp p σ_127 → tz_O (fun z : Int32 × ez_H => (fun (z : Int32) (s : ez_H) => tq_iv 0 1 z ∧ tp p s) z.1 z.2) (z_X4_readRule_127 σ_127 h0) := by
            intro σ_127 T_σ_127
            unfold z_X4_readRule_127
            refine tz_be (tg_4_3 T_σ_127 k_h0) (fun t_128 e5027 k_t_128 => ?_)
            refine tz_b2 (tz_X9_advance T_σ_127 k_t_128) (fun _ σ5026 ⟨T5026, W5026⟩ => ?_)
            refine tz_b2 (tz_X4_expect T5026 k_h0 (tq_w tk_59 (by decide) (by decide))) (fun t_137 σ5025 ⟨i_t_137, T5025, W5025⟩ => ?_)
            refine tz_nr (tq_nr_boolean i_t_137) ?_
            exact tz_some ⟨i_t_137, T5025⟩
          refine tz_if _ (fun c5036 => ?_) (fun c5036 => ?_)
          ·
            have i7_y0_17 : tq_iv 0 0 y0_17 := tq_cut i_y0_17 (tq_eqL c5036 tk_0) (by decide) (by decide)
            refine tz_bk e5047 ?_
            refine tz_b2 (tz_X3_addNever T5049 k_t_73 i2_t_34 i4_t_61) (fun _ σ5031 T5031 => ?_)
            exact K_127 σ5031 T5031
          ·
            have i8_t_4 : tq_iv 8 8 t_4 := tq_cut (tq_top t_4) (g17_y0_17_t_4 c5036) (by decide) (by decide)
            have i9_y0_17 : tq_iv 1 1 y0_17 := tq_w (tq_neLo c5036 i_y0_17 tk_0) (by decide) (by decide)
            refine tz_bk e5047 ?_
            refine tz_b2 (tz_X3_addMust T5049 k_t_73 i2_t_34 i4_t_61) (fun _ σ5034 T5034 => ?_)
            exact K_127 σ5034 T5034
        ·
          have i10_t_92 : tq_iv 1 1 t_92 := tq_w (tq_neLo c5040 i5_t_92 tk_0) (by decide) (by decide)
          refine tz_b2 (tz_X4_blame T5049 k_h0 (tq_w tk_3 (by decide) (by decide))) (fun t_98 σ5039 ⟨i_t_98, T5039, W5039⟩ => ?_)
          refine tz_nr (tq_nr_boolean (tq_w i_t_98 (by decide) (by decide))) ?_
          exact tz_some ⟨(tq_w i_t_98 (by decide) (by decide)), T5039⟩
  refine tz_if _ (fun c5062 => ?_) (fun c5062 => ?_)
  ·
    have i11_t_4 : tq_iv 8 8 t_4 := tq_cut (tq_top t_4) (tq_eqL c5062 tk_8) (by decide) (by decide)
    exact K_17 (1 : Int32) (tq_w tk_1 (by decide) (by decide)) (fun _ => i11_t_4)
  ·
    exact K_17 (0 : Int32) (tq_w tk_0 (by decide) (by decide)) (fun h => absurd rfl h)
set_option maxRecDepth 4000 in
theorem tz_X4_readNewName {p : tz_P} {σ : ez_H} {h0 : Nat} {x1 : Int32} {x2 : Int32} {x3 : Int32} (hT : tp p σ) (k_h0 : tz_C h0 = some (3, 4, 0, 0)) (i_x1 : tq_iv 0 4 x1) (i_x3 : tq_iv 4 8 x3) : tz_O2 (fun (z : Int32) (s : ez_H) => tq_iv 0 1 z ∧ (¬ z = 0 → tq_iv (-2147483648) 7 x2) ∧ tp p s ∧ fw [(4, 1), (4, 2), (9, 3), (9, 4), (9, 5), (9, 6), (9, 7)] σ s) (z_X4_readNewName σ h0 x1 x2 x3) := by
  show tz_O (fun z : Int32 × ez_H => (fun (z : Int32) (s : ez_H) => tq_iv 0 1 z ∧ (¬ z = 0 → tq_iv (-2147483648) 7 x2) ∧ tp p s ∧ fw [(4, 1), (4, 2), (9, 3), (9, 4), (9, 5), (9, 6), (9, 7)] σ s) z.1 z.2) _
  unfold z_X4_readNewName
  refine tz_bd (tz_ob hT k_h0) (fun _ _ => ?_)
  refine tz_if _ (fun c5099 => ?_) (fun c5099 => ?_)
  ·
    have i1_x2 : tq_iv (-2147483648) 7 x2 := tq_cut (tq_top x2) (tq_ltL c5099 (tq_top x2) i_x3) (by decide) (by decide)
    refine tz_be (tg_4_3 hT k_h0) (fun t_11 e5095 k_t_11 => ?_)
    refine tz_b2 (tz_X9_advance hT k_t_11) (fun _ σ5094 ⟨T5094, W5094⟩ => ?_)
    refine tz_bk ((W5094 4 3 _ (by decide)).2.2.trans e5095) ?_
    refine tz_be (tg_9_4 T5094 k_t_11) (fun t_21 e5092 i_t_21 => ?_)
    refine tz_if _ (fun c5091 => ?_) (fun c5091 => ?_)
    ·
      have i2_t_21 : tq_iv 23 23 t_21 := tq_cut (tq_top t_21) (tq_eqL c5091 tk_23) (by decide) (by decide)
      refine tz_bd (tz_X4_named T5094 k_h0 i_x1) (fun t_37 i_t_37 => ?_)
      refine tz_if _ (fun c5086 => ?_) (fun c5086 => ?_)
      ·
        have i3_t_37 : tq_iv (-1) (-1) t_37 := tq_cut i_t_37 (tq_eqL c5086 tk_m1) (by decide) (by decide)
        have K_84 : ∀ (σ_84 : ez_H), tp p σ_84 → fw [(4, 1), (4, 2), (9, 3), (9, 4), (9, 5), (9, 6), (9, 7)] σ σ_84 → tz_O (fun z : Int32 × ez_H => (fun (z : Int32) (s : ez_H) => tq_iv 0 1 z ∧ (¬ z = 0 → tq_iv (-2147483648) 7 x2) ∧ tp p s ∧ fw [(4, 1), (4, 2), (9, 3), (9, 4), (9, 5), (9, 6), (9, 7)] σ s) z.1 z.2) (z_X4_readNewName_84 σ_84 h0) := by
          intro σ_84 T_σ_84 F_σ_84
          unfold z_X4_readNewName_84
          refine tz_be (tg_4_3 T_σ_84 k_h0) (fun t_85 e5068 k_t_85 => ?_)
          refine tz_b2 (tz_X9_advance T_σ_84 k_t_85) (fun _ σ5067 ⟨T5067, W5067⟩ => ?_)
          exact tz_some ⟨(tq_w tk_1 (by decide) (by decide)), (fun h => i1_x2), T5067, (fw_call F_σ_84 W5067 (by decide))⟩
        refine tz_if _ (fun c5082 => ?_) (fun c5082 => ?_)
        ·
          exact (tq_xlt c5082 i_x1 tk_0 (by decide)).elim
        ·
          refine tz_if _ (fun c5081 => ?_) (fun c5081 => ?_)
          ·
            exact (tq_xle c5081 tk_5 i_x1 (by decide)).elim
          ·
            refine tz_if _ (fun c5080 => ?_) (fun c5080 => ?_)
            ·
              have i4_x2 : tq_iv (-2147483648) (-1) x2 := tq_cut i1_x2 (tq_ltL c5080 i1_x2 tk_0) (by decide) (by decide)
              exact K_84 σ5094 T5094 (fw_call fw_0 W5094 (by decide))
            ·
              have i5_x2 : tq_iv 0 7 x2 := tq_cut i1_x2 (tq_leR (tq_nlt c5080) tk_0 i1_x2) (by decide) (by decide)
              refine tz_if _ (fun c5079 => ?_) (fun c5079 => ?_)
              ·
                exact (tq_xle c5079 tk_8 i5_x2 (by decide)).elim
              ·
                refine tz_be (tg_4_4 T5094 k_h0) (fun t_70 e5078 k_t_70 => ?_)
                refine tz_be (tz_ra T5094 k_t_70 i_x1 (by decide) (by decide)) (fun t_74 e5077 k_t_74 => ?_)
                refine tz_bk ((W5094 4 3 _ (by decide)).2.2.trans e5095) ?_
                refine tz_be (tg_9_7 T5094 k_t_11) (fun t_80 e5075 _ => ?_)
                refine tz_be (tz_lst T5094 k_t_74 i5_x2 (by decide) (by decide)) (fun σ5074 e5074 T5074 => ?_)
                exact K_84 σ5074 T5074 (fw_lst (fw_call fw_0 W5094 (by decide)) e5074)
      ·
        have i6_t_37 : tq_iv 0 7 t_37 := tq_w (tq_neLo c5086 i_t_37 tk_m1) (by decide) (by decide)
        refine tz_b2 (tz_X4_blame T5094 k_h0 (tq_w tk_3 (by decide) (by decide))) (fun t_46 σ5085 ⟨i_t_46, T5085, W5085⟩ => ?_)
        refine tz_nr (tq_nr_boolean (tq_w i_t_46 (by decide) (by decide))) ?_
        exact tz_some ⟨(tq_w i_t_46 (by decide) (by decide)), (fun h => absurd (tq_z0 i_t_46) h), T5085, (fw_call (fw_call fw_0 W5094 (by decide)) W5085 (by decide))⟩
    ·
      refine tz_b2 (tz_X4_refuse T5094 k_h0) (fun t_30 σ5090 ⟨i_t_30, T5090, W5090⟩ => ?_)
      refine tz_nr (tq_nr_boolean (tq_w i_t_30 (by decide) (by decide))) ?_
      exact tz_some ⟨(tq_w i_t_30 (by decide) (by decide)), (fun h => absurd (tq_z0 i_t_30) h), T5090, (fw_call (fw_call fw_0 W5094 (by decide)) W5090 (by decide))⟩
  ·
    have i7_x2 : tq_iv 4 2147483647 x2 := tq_cut (tq_top x2) (tq_leR (tq_nlt c5099) i_x3 (tq_top x2)) (by decide) (by decide)
    refine tz_b2 (tz_X4_refuse hT k_h0) (fun t_6 σ5098 ⟨i_t_6, T5098, W5098⟩ => ?_)
    refine tz_nr (tq_nr_boolean (tq_w i_t_6 (by decide) (by decide))) ?_
    exact tz_some ⟨(tq_w i_t_6 (by decide) (by decide)), (fun h => absurd (tq_z0 i_t_6) h), T5098, (fw_call fw_0 W5098 (by decide))⟩
set_option maxRecDepth 4000 in
theorem tz_X4_readHeld {p : tz_P} {σ : ez_H} {h0 : Nat} (hT : tp p σ) (k_h0 : tz_C h0 = some (3, 4, 0, 0)) : tz_O2 (fun (z : Int32) (s : ez_H) => tq_iv 0 1 z ∧ tp p s) (z_X4_readHeld σ h0) := by
  show tz_O (fun z : Int32 × ez_H => (fun (z : Int32) (s : ez_H) => tq_iv 0 1 z ∧ tp p s) z.1 z.2) _
  unfold z_X4_readHeld
  refine tz_bd (tz_ob hT k_h0) (fun _ _ => ?_)
  refine tz_be (tg_4_3 hT k_h0) (fun t_1 e5132 k_t_1 => ?_)
  refine tz_b2 (tz_X9_advance hT k_t_1) (fun _ σ5131 ⟨T5131, W5131⟩ => ?_)
  have L_9 : ∀ (n_9 : Nat) (k_9 : ez_H → Nat → Int32 → Option (Int32 × ez_H)), (∀ (σ_9 : ez_H) (x1_9 : Int32), tp p σ_9 → tq_iv 0 9 x1_9 → (2147483647 - x1_9.toInt).toNat < n_9 → tz_O (fun z : Int32 × ez_H => (fun (z : Int32) (s : ez_H) => tq_iv 0 1 z ∧ tp p s) z.1 z.2) (k_9 σ_9 h0 x1_9)) → ∀ (σ_9 : ez_H) (x1_9 : Int32), tp p σ_9 → tq_iv 0 9 x1_9 → (2147483647 - x1_9.toInt).toNat < n_9 + 1 → tz_O (fun z : Int32 × ez_H => (fun (z : Int32) (s : ez_H) => tq_iv 0 1 z ∧ tp p s) z.1 z.2) (z_X4_readHeld_9 k_9 σ_9 h0 x1_9) := by
    intro n_9 k_9 hk_9 σ_9 x1_9 T_σ_9 i_x1_9 hn_9
    unfold z_X4_readHeld_9
    refine tz_if _ (fun c5129 => ?_) (fun c5129 => ?_)
    ·
      have i1_x1_9 : tq_iv 9 9 x1_9 := tq_cut i_x1_9 (tq_ltR c5129 tk_8 i_x1_9) (by decide) (by decide)
      refine tz_b2 (tz_X4_refuse T_σ_9 k_h0) (fun t_102 σ5103 ⟨i_t_102, T5103, W5103⟩ => ?_)
      refine tz_nr (tq_nr_boolean (tq_w i_t_102 (by decide) (by decide))) ?_
      exact tz_some ⟨(tq_w i_t_102 (by decide) (by decide)), T5103⟩
    ·
      have i2_x1_9 : tq_iv 0 8 x1_9 := tq_cut i_x1_9 (tq_leL (tq_nlt c5129) i_x1_9 tk_8) (by decide) (by decide)
      refine tz_be (tg_4_0 T_σ_9 k_h0) (fun t_18 e5128 k_t_18 => ?_)
      refine tz_be (tg_3_3 T_σ_9 k_t_18) (fun t_21 e5127 i_t_21 => ?_)
      refine tz_b2 (tz_X4_knownName T_σ_9 k_h0 (tq_w tk_0 (by decide) (by decide))) (fun t_24 σ5126 ⟨i_t_24, T5126⟩ => ?_)
      refine tz_if _ (fun c5125 => ?_) (fun c5125 => ?_)
      ·
        have i3_t_24 : tq_iv (-1) (-1) t_24 := tq_cut i_t_24 (tq_eqL c5125 tk_m1) (by decide) (by decide)
        exact tz_some ⟨(tq_w tk_0 (by decide) (by decide)), T5126⟩
      ·
        have i4_t_24 : tq_iv 0 7 t_24 := tq_w (tq_neLo c5125 i_t_24 tk_m1) (by decide) (by decide)
        refine tz_be (tg_4_0 T5126 k_h0) (fun t_36 e5124 k_t_36 => ?_)
        refine tz_be (tg_3_2 T5126 k_t_36) (fun t_39 e5123 k_t_39 => ?_)
        refine tz_bd (tz_X7_holder T5126 k_t_39 i4_t_24) (fun t_43 i_t_43 => ?_)
        refine tz_if _ (fun c5121 => ?_) (fun c5121 => ?_)
        ·
          have i5_t_43 : tq_iv (-1) (-1) t_43 := tq_cut (tq_top t_43) (tq_eqL c5121 tk_m1) (by decide) (by decide)
          refine tz_bk e5124 ?_
          refine tz_bk e5123 ?_
          refine tz_bk e5124 ?_
          refine tz_be (tg_3_7 T5126 k_t_36) (fun t_68 e5114 i_t_68 => ?_)
          refine tz_b2 (tz_X7_putHolder T5126 k_t_39 i4_t_24) (fun _ σ5113 ⟨T5113, W5113⟩ => ?_)
          refine tz_be (tg_4_3 T5113 k_h0) (fun t_75 e5112 k_t_75 => ?_)
          refine tz_b2 (tz_X9_advance T5113 k_t_75) (fun _ σ5111 ⟨T5111, W5111⟩ => ?_)
          refine tz_bk ((W5111 4 3 _ (by decide)).2.2.trans e5112) ?_
          refine tz_be (tg_9_4 T5111 k_t_75) (fun t_85 e5109 i_t_85 => ?_)
          refine tz_if _ (fun c5108 => ?_) (fun c5108 => ?_)
          ·
            have i6_t_85 : tq_iv 23 23 t_85 := tq_cut (tq_top t_85) (tq_eqL c5108 tk_23) (by decide) (by decide)
            refine tz_let (fun t_95 e5106 => ?_)
            have i7_t_95 : tq_iv 1 9 t_95 := tq_w (tq_add e5106 i2_x1_9 tk_1 (by decide) (by decide)) (by decide) (by decide)
            exact hk_9 σ5111 t_95 T5111 (tq_w i7_t_95 (by decide) (by decide)) (tq_up e5106 i2_x1_9 tk_1 (by decide) (by decide) hn_9)
          ·
            exact tz_some ⟨(tq_w tk_1 (by decide) (by decide)), T5111⟩
        ·
          refine tz_b2 (tz_X4_blame T5126 k_h0 (tq_w tk_3 (by decide) (by decide))) (fun t_52 σ5120 ⟨i_t_52, T5120, W5120⟩ => ?_)
          refine tz_nr (tq_nr_boolean (tq_w i_t_52 (by decide) (by decide))) ?_
          exact tz_some ⟨(tq_w i_t_52 (by decide) (by decide)), T5120⟩
  have E_9 : ∀ (σ_9 : ez_H) (x1_9 : Int32), tp p σ_9 → tq_iv 0 9 x1_9 → tz_O (fun z : Int32 × ez_H => (fun (z : Int32) (s : ez_H) => tq_iv 0 1 z ∧ tp p s) z.1 z.2) (ez_fix (fun _ _ _ => none) (z_X4_readHeld_9) ez_N σ_9 h0 x1_9) := by
    intro σ_9 x1_9 T_σ_9 i_x1_9
    exact ez_fix_indn (fun n_9 (k_9 : ez_H → Nat → Int32 → Option (Int32 × ez_H)) => ∀ (σ_9 : ez_H) (x1_9 : Int32), tp p σ_9 → tq_iv 0 9 x1_9 → (2147483647 - x1_9.toInt).toNat < n_9 → tz_O (fun z : Int32 × ez_H => (fun (z : Int32) (s : ez_H) => tq_iv 0 1 z ∧ tp p s) z.1 z.2) (k_9 σ_9 h0 x1_9)) (by intros; rename_i h; exact absurd h (Nat.not_lt_zero _)) L_9 ez_N σ_9 x1_9 T_σ_9 i_x1_9 (tq_m0 x1_9)
  exact E_9 σ5131 (0 : Int32) T5131 (tq_w tk_0 (by decide) (by decide))
set_option maxRecDepth 4000 in
theorem tz_X7_putRoom {p : tz_P} {σ : ez_H} {h0 : Nat} {x1 : Int32} {x2 : Int32} (hT : tp p σ) (k_h0 : tz_C h0 = some (3, 7, 0, 0)) : tz_O2 (fun (z : Unit) (s : ez_H) => tp p s) (z_X7_putRoom σ h0 x1 x2) := by
  show tz_O (fun z : Unit × ez_H => (fun (z : Unit) (s : ez_H) => tp p s) z.1 z.2) _
  unfold z_X7_putRoom
  refine tz_bd (tz_ob hT k_h0) (fun _ _ => ?_)
  refine tz_let (fun t_4 e5136 => ?_)
  refine tz_b2 (tz_X7_put hT k_h0) (fun _ σ5135 ⟨T5135, W5135⟩ => ?_)
  exact tz_some T5135
set_option maxRecDepth 4000 in
theorem tz_X4_readPerson {p : tz_P} {σ : ez_H} {h0 : Nat} (hT : tp p σ) (k_h0 : tz_C h0 = some (3, 4, 0, 0)) : tz_O2 (fun (z : Int32) (s : ez_H) => tq_iv 0 1 z ∧ tp p s) (z_X4_readPerson σ h0) := by
  show tz_O (fun z : Int32 × ez_H => (fun (z : Int32) (s : ez_H) => tq_iv 0 1 z ∧ tp p s) z.1 z.2) _
  unfold z_X4_readPerson
  refine tz_bd (tz_ob hT k_h0) (fun _ _ => ?_)
  refine tz_be (tg_4_0 hT k_h0) (fun t_3 e5173 k_t_3 => ?_)
  refine tz_be (tg_3_7 hT k_t_3) (fun t_6 e5172 i_t_6 => ?_)
  refine tz_b2 (tz_X4_readNewName hT k_h0 (tq_w tk_4 (by decide) (by decide)) (tq_w tk_4 (by decide) (by decide))) (fun t_10 σ5171 ⟨i_t_10, g_t_10, T5171, W5171⟩ => ?_)
  have K_25 : ∀ (σ_25 : ez_H), tp p σ_25 → tz_O (fun z : Int32 × ez_H => (fun (z : Int32) (s : ez_H) => tq_iv 0 1 z ∧ tp p s) z.1 z.2) (z_X4_readPerson_25 σ_25) := by
    intro σ_25 T_σ_25
    unfold z_X4_readPerson_25
    exact tz_some ⟨(tq_w tk_0 (by decide) (by decide)), T_σ_25⟩
  refine tz_if _ (fun c5170 => ?_) (fun c5170 => ?_)
  ·
    have i1_t_10 : tq_iv 0 0 t_10 := tq_cut i_t_10 (tq_eqL c5170 tk_0) (by decide) (by decide)
    exact K_25 σ5171 T5171
  ·
    have i2_t_6 : tq_iv (-2147483648) 7 t_6 := tq_cut (tq_top t_6) (g_t_10 c5170) (by decide) (by decide)
    have i3_t_10 : tq_iv 1 1 t_10 := tq_w (tq_neLo c5170 i_t_10 tk_0) (by decide) (by decide)
    refine tz_b2 (tz_X4_expect T5171 k_h0 (tq_w tk_14 (by decide) (by decide))) (fun t_19 σ5169 ⟨i_t_19, T5169, W5169⟩ => ?_)
    refine tz_if _ (fun c5168 => ?_) (fun c5168 => ?_)
    ·
      have i4_t_19 : tq_iv 0 0 t_19 := tq_cut i_t_19 (tq_eqL c5168 tk_0) (by decide) (by decide)
      exact K_25 σ5169 T5169
    ·
      have i5_t_19 : tq_iv 1 1 t_19 := tq_w (tq_neLo c5168 i_t_19 tk_0) (by decide) (by decide)
      refine tz_bk ((W5169 4 0 _ (by decide)).2.2.trans ((W5171 4 0 _ (by decide)).2.2.trans e5173)) ?_
      refine tz_be (tg_3_5 T5169 k_t_3) (fun t_33 e5166 i_t_33 => ?_)
      refine tz_b2 (tz_X4_knownName T5169 k_h0 (tq_w tk_2 (by decide) (by decide))) (fun t_36 σ5165 ⟨i_t_36, T5165⟩ => ?_)
      refine tz_if _ (fun c5164 => ?_) (fun c5164 => ?_)
      ·
        have i6_t_36 : tq_iv (-1) (-1) t_36 := tq_cut i_t_36 (tq_eqL c5164 tk_m1) (by decide) (by decide)
        exact tz_some ⟨(tq_w tk_0 (by decide) (by decide)), T5165⟩
      ·
        have i7_t_36 : tq_iv 0 7 t_36 := tq_w (tq_neLo c5164 i_t_36 tk_m1) (by decide) (by decide)
        refine tz_be (tg_4_3 T5165 k_h0) (fun t_48 e5163 k_t_48 => ?_)
        refine tz_b2 (tz_X9_advance T5165 k_t_48) (fun _ σ5162 ⟨T5162, W5162⟩ => ?_)
        refine tz_bk ((W5162 4 3 _ (by decide)).2.2.trans e5163) ?_
        refine tz_be (tg_9_4 T5162 k_t_48) (fun t_58 e5160 i_t_58 => ?_)
        have K_75 : ∀ (σ_75 : ez_H), tp p σ_75 → tz_O (fun z : Int32 × ez_H => (fun (z : Int32) (s : ez_H) => tq_iv 0 1 z ∧ tp p s) z.1 z.2) (z_X4_readPerson_75 σ_75 h0 t_36) := by
          intro σ_75 T_σ_75
          unfold z_X4_readPerson_75
          refine tz_be (tg_4_0 T_σ_75 k_h0) (fun t_76 e5150 k_t_76 => ?_)
          refine tz_be (tg_3_2 T_σ_75 k_t_76) (fun t_79 e5149 k_t_79 => ?_)
          refine tz_bk e5150 ?_
          refine tz_be (tg_3_7 T_σ_75 k_t_76) (fun t_86 e5147 i_t_86 => ?_)
          refine tz_b2 (tz_X7_putRoom T_σ_75 k_t_79) (fun _ σ5146 T5146 => ?_)
          refine tz_be (tg_4_0 T5146 k_h0) (fun t_94 e5145 k_t_94 => ?_)
          refine tz_be (tg_3_7 T5146 k_t_94) (fun t_98 e5144 i_t_98 => ?_)
          refine tz_let (fun t_102 e5143 => ?_)
          refine tz_be (tw_3_7 T5146 k_t_94 (tq_top t_102)) (fun σ5142 e5142 T5142 => ?_)
          refine tz_b2 (tz_X4_expect T5142 k_h0 (tq_w tk_59 (by decide) (by decide))) (fun t_109 σ5141 ⟨i_t_109, T5141, W5141⟩ => ?_)
          refine tz_nr (tq_nr_boolean i_t_109) ?_
          exact tz_some ⟨i_t_109, T5141⟩
        refine tz_if _ (fun c5159 => ?_) (fun c5159 => ?_)
        ·
          have i8_t_58 : tq_iv 15 15 t_58 := tq_cut (tq_top t_58) (tq_eqL c5159 tk_15) (by decide) (by decide)
          refine tz_b2 (tz_X4_readHeld T5162 k_h0) (fun t_67 σ5157 ⟨i_t_67, T5157⟩ => ?_)
          refine tz_if _ (fun c5156 => ?_) (fun c5156 => ?_)
          ·
            have i9_t_67 : tq_iv 0 0 t_67 := tq_cut i_t_67 (tq_eqL c5156 tk_0) (by decide) (by decide)
            exact tz_some ⟨(tq_w tk_0 (by decide) (by decide)), T5157⟩
          ·
            have i10_t_67 : tq_iv 1 1 t_67 := tq_w (tq_neLo c5156 i_t_67 tk_0) (by decide) (by decide)
            exact K_75 σ5157 T5157
        ·
          exact K_75 σ5162 T5162
set_option maxRecDepth 4000 in
theorem tz_X3_addDoor {p : tz_P} {σ : ez_H} {h0 : Nat} {x1 : Int32} {x2 : Int32} {x3 : Int32} (hT : tp p σ) (k_h0 : tz_C h0 = some (3, 3, 0, 0)) (i_x1 : tq_iv 0 7 x1) (i_x2 : tq_iv 0 7 x2) (i_x3 : tq_iv 0 7 x3) : tz_O2 (fun (z : Unit) (s : ez_H) => tp p s) (z_X3_addDoor σ h0 x1 x2 x3) := by
  show tz_O (fun z : Unit × ez_H => (fun (z : Unit) (s : ez_H) => tp p s) z.1 z.2) _
  unfold z_X3_addDoor
  refine tz_bd (tz_ob hT k_h0) (fun _ _ => ?_)
  refine tz_be (tg_3_6 hT k_h0) (fun t_1 e5194 i_t_1 => ?_)
  have K_56 : ∀ (σ_56 : ez_H), tp p σ_56 → tz_O (fun z : Unit × ez_H => (fun (z : Unit) (s : ez_H) => tp p s) z.1 z.2) (z_X3_addDoor_56 σ_56) := by
    intro σ_56 T_σ_56
    unfold z_X3_addDoor_56
    exact tz_some T_σ_56
  refine tz_if _ (fun c5193 => ?_) (fun c5193 => ?_)
  ·
    have i1_t_1 : tq_iv (-2147483648) (-1) t_1 := tq_cut (tq_top t_1) (tq_ltL c5193 (tq_top t_1) tk_0) (by decide) (by decide)
    exact K_56 σ hT
  ·
    have i2_t_1 : tq_iv 0 2147483647 t_1 := tq_cut (tq_top t_1) (tq_leR (tq_nlt c5193) tk_0 (tq_top t_1)) (by decide) (by decide)
    refine tz_ba e5194 (fun t_8 e5192 a5192 => ?_)
    have i3_t_8 : tq_iv 0 2147483647 t_8 := tq_eqL a5192 i2_t_1
    refine tz_if _ (fun c5191 => ?_) (fun c5191 => ?_)
    ·
      have i4_t_8 : tq_iv 8 2147483647 t_8 := tq_cut i3_t_8 (tq_leR c5191 tk_8 i3_t_8) (by decide) (by decide)
      have i5_t_1 : tq_iv 8 2147483647 t_1 := tq_cut i2_t_1 (tq_eqL (Eq.symm a5192) i4_t_8) (by decide) (by decide)
      exact K_56 σ hT
    ·
      have i6_t_8 : tq_iv 0 7 t_8 := tq_cut i3_t_8 (tq_ltL (tq_nle c5191) i3_t_8 tk_8) (by decide) (by decide)
      have i7_t_1 : tq_iv 0 7 t_1 := tq_cut i2_t_1 (tq_eqL (Eq.symm a5192) i6_t_8) (by decide) (by decide)
      refine tz_be (tg_3_8 hT k_h0) (fun t_17 e5190 k_t_17 => ?_)
      refine tz_ba e5194 (fun t_21 e5189 a5189 => ?_)
      have i8_t_21 : tq_iv 0 7 t_21 := tq_eqL a5189 i7_t_1
      refine tz_be (tz_is hT k_t_17 (te_0 (p := p)) i8_t_21 (by decide) (by decide) (tq_top x1)) (fun σ5188 e5188 T5188 => ?_)
      refine tz_be (tg_3_9 T5188 k_h0) (fun t_27 e5187 k_t_27 => ?_)
      refine tz_ba ((fr_is_gi e5188).trans e5194) (fun t_31 e5186 a5186 => ?_)
      have i9_t_31 : tq_iv 0 7 t_31 := tq_eqL a5186 i7_t_1
      refine tz_be (tz_is T5188 k_t_27 (te_0 (p := p)) i9_t_31 (by decide) (by decide) (tq_top x2)) (fun σ5185 e5185 T5185 => ?_)
      refine tz_be (tg_3_10 T5185 k_h0) (fun t_37 e5184 k_t_37 => ?_)
      refine tz_ba ((fr_is_gi e5185).trans ((fr_is_gi e5188).trans e5194)) (fun t_41 e5183 a5183 => ?_)
      have i10_t_41 : tq_iv 0 7 t_41 := tq_eqL a5183 i7_t_1
      refine tz_be (tz_is T5185 k_t_37 (te_0 (p := p)) i10_t_41 (by decide) (by decide) (tq_top x3)) (fun σ5182 e5182 T5182 => ?_)
      refine tz_ba ((fr_is_gi e5182).trans ((fr_is_gi e5185).trans ((fr_is_gi e5188).trans e5194))) (fun t_48 e5181 a5181 => ?_)
      have i11_t_48 : tq_iv 0 7 t_48 := tq_eqL a5181 i7_t_1
      refine tz_let (fun t_52 e5180 => ?_)
      have i12_t_52 : tq_iv 1 8 t_52 := tq_w (tq_add e5180 i11_t_48 tk_1 (by decide) (by decide)) (by decide) (by decide)
      refine tz_be (tw_3_6 T5182 k_h0 (tq_top t_52)) (fun σ5179 e5179 T5179 => ?_)
      exact K_56 σ5179 T5179
set_option maxRecDepth 4000 in
theorem tz_X4_readDoor {p : tz_P} {σ : ez_H} {h0 : Nat} (hT : tp p σ) (k_h0 : tz_C h0 = some (3, 4, 0, 0)) : tz_O2 (fun (z : Int32) (s : ez_H) => tq_iv 0 1 z ∧ tp p s) (z_X4_readDoor σ h0) := by
  show tz_O (fun z : Int32 × ez_H => (fun (z : Int32) (s : ez_H) => tq_iv 0 1 z ∧ tp p s) z.1 z.2) _
  unfold z_X4_readDoor
  refine tz_bd (tz_ob hT k_h0) (fun _ _ => ?_)
  refine tz_be (tg_4_0 hT k_h0) (fun t_3 e5240 k_t_3 => ?_)
  refine tz_be (tg_3_6 hT k_t_3) (fun t_6 e5239 i_t_6 => ?_)
  refine tz_b2 (tz_X4_readNewName hT k_h0 (tq_w tk_3 (by decide) (by decide)) (tq_w tk_8 (by decide) (by decide))) (fun t_11 σ5238 ⟨i_t_11, g_t_11, T5238, W5238⟩ => ?_)
  have K_26 : ∀ (σ_26 : ez_H), tp p σ_26 → tz_O (fun z : Int32 × ez_H => (fun (z : Int32) (s : ez_H) => tq_iv 0 1 z ∧ tp p s) z.1 z.2) (z_X4_readDoor_26 σ_26) := by
    intro σ_26 T_σ_26
    unfold z_X4_readDoor_26
    exact tz_some ⟨(tq_w tk_0 (by decide) (by decide)), T_σ_26⟩
  refine tz_if _ (fun c5237 => ?_) (fun c5237 => ?_)
  ·
    have i1_t_11 : tq_iv 0 0 t_11 := tq_cut i_t_11 (tq_eqL c5237 tk_0) (by decide) (by decide)
    exact K_26 σ5238 T5238
  ·
    have i2_t_6 : tq_iv (-2147483648) 7 t_6 := tq_cut (tq_top t_6) (g_t_11 c5237) (by decide) (by decide)
    have i3_t_11 : tq_iv 1 1 t_11 := tq_w (tq_neLo c5237 i_t_11 tk_0) (by decide) (by decide)
    refine tz_b2 (tz_X4_expect T5238 k_h0 (tq_w tk_12 (by decide) (by decide))) (fun t_20 σ5236 ⟨i_t_20, T5236, W5236⟩ => ?_)
    refine tz_if _ (fun c5235 => ?_) (fun c5235 => ?_)
    ·
      have i4_t_20 : tq_iv 0 0 t_20 := tq_cut i_t_20 (tq_eqL c5235 tk_0) (by decide) (by decide)
      exact K_26 σ5236 T5236
    ·
      have i5_t_20 : tq_iv 1 1 t_20 := tq_w (tq_neLo c5235 i_t_20 tk_0) (by decide) (by decide)
      refine tz_bk ((W5236 4 0 _ (by decide)).2.2.trans ((W5238 4 0 _ (by decide)).2.2.trans e5240)) ?_
      refine tz_be (tg_3_5 T5236 k_t_3) (fun t_34 e5233 i_t_34 => ?_)
      refine tz_b2 (tz_X4_knownName T5236 k_h0 (tq_w tk_2 (by decide) (by decide))) (fun t_37 σ5232 ⟨i_t_37, T5232⟩ => ?_)
      refine tz_if _ (fun c5231 => ?_) (fun c5231 => ?_)
      ·
        have i6_t_37 : tq_iv (-1) (-1) t_37 := tq_cut i_t_37 (tq_eqL c5231 tk_m1) (by decide) (by decide)
        exact tz_some ⟨(tq_w tk_0 (by decide) (by decide)), T5232⟩
      ·
        have i7_t_37 : tq_iv 0 7 t_37 := tq_w (tq_neLo c5231 i_t_37 tk_m1) (by decide) (by decide)
        refine tz_be (tg_4_3 T5232 k_h0) (fun t_49 e5230 k_t_49 => ?_)
        refine tz_b2 (tz_X9_advance T5232 k_t_49) (fun _ σ5229 ⟨T5229, W5229⟩ => ?_)
        refine tz_b2 (tz_X4_expect T5229 k_h0 (tq_w tk_13 (by decide) (by decide))) (fun t_58 σ5228 ⟨i_t_58, T5228, W5228⟩ => ?_)
        refine tz_if _ (fun c5227 => ?_) (fun c5227 => ?_)
        ·
          have i8_t_58 : tq_iv 0 0 t_58 := tq_cut i_t_58 (tq_eqL c5227 tk_0) (by decide) (by decide)
          exact tz_some ⟨(tq_w tk_0 (by decide) (by decide)), T5228⟩
        ·
          have i9_t_58 : tq_iv 1 1 t_58 := tq_w (tq_neLo c5227 i_t_58 tk_0) (by decide) (by decide)
          refine tz_be (tg_4_0 T5228 k_h0) (fun t_69 e5226 k_t_69 => ?_)
          refine tz_be (tg_3_5 T5228 k_t_69) (fun t_72 e5225 i_t_72 => ?_)
          refine tz_b2 (tz_X4_knownName T5228 k_h0 (tq_w tk_2 (by decide) (by decide))) (fun t_75 σ5224 ⟨i_t_75, T5224⟩ => ?_)
          refine tz_if _ (fun c5223 => ?_) (fun c5223 => ?_)
          ·
            have i10_t_75 : tq_iv (-1) (-1) t_75 := tq_cut i_t_75 (tq_eqL c5223 tk_m1) (by decide) (by decide)
            exact tz_some ⟨(tq_w tk_0 (by decide) (by decide)), T5224⟩
          ·
            have i11_t_75 : tq_iv 0 7 t_75 := tq_w (tq_neLo c5223 i_t_75 tk_m1) (by decide) (by decide)
            refine tz_if _ (fun c5222 => ?_) (fun c5222 => ?_)
            ·
              refine tz_b2 (tz_X4_blame T5224 k_h0 (tq_w tk_3 (by decide) (by decide))) (fun t_93 σ5204 ⟨i_t_93, T5204, W5204⟩ => ?_)
              refine tz_nr (tq_nr_boolean (tq_w i_t_93 (by decide) (by decide))) ?_
              exact tz_some ⟨(tq_w i_t_93 (by decide) (by decide)), T5204⟩
            ·
              refine tz_be (tg_4_3 T5224 k_h0) (fun t_98 e5221 k_t_98 => ?_)
              refine tz_b2 (tz_X9_advance T5224 k_t_98) (fun _ σ5220 ⟨T5220, W5220⟩ => ?_)
              refine tz_b2 (tz_X4_expect T5220 k_h0 (tq_w tk_4 (by decide) (by decide))) (fun t_106 σ5219 ⟨i_t_106, T5219, W5219⟩ => ?_)
              refine tz_if _ (fun c5218 => ?_) (fun c5218 => ?_)
              ·
                have i12_t_106 : tq_iv 0 0 t_106 := tq_cut i_t_106 (tq_eqL c5218 tk_0) (by decide) (by decide)
                exact tz_some ⟨(tq_w tk_0 (by decide) (by decide)), T5219⟩
              ·
                have i13_t_106 : tq_iv 1 1 t_106 := tq_w (tq_neLo c5218 i_t_106 tk_0) (by decide) (by decide)
                refine tz_be (tg_4_0 T5219 k_h0) (fun t_117 e5217 k_t_117 => ?_)
                refine tz_be (tg_3_4 T5219 k_t_117) (fun t_120 e5216 i_t_120 => ?_)
                refine tz_b2 (tz_X4_knownName T5219 k_h0 (tq_w tk_1 (by decide) (by decide))) (fun t_123 σ5215 ⟨i_t_123, T5215⟩ => ?_)
                refine tz_if _ (fun c5214 => ?_) (fun c5214 => ?_)
                ·
                  have i14_t_123 : tq_iv (-1) (-1) t_123 := tq_cut i_t_123 (tq_eqL c5214 tk_m1) (by decide) (by decide)
                  exact tz_some ⟨(tq_w tk_0 (by decide) (by decide)), T5215⟩
                ·
                  have i15_t_123 : tq_iv 0 7 t_123 := tq_w (tq_neLo c5214 i_t_123 tk_m1) (by decide) (by decide)
                  refine tz_be (tg_4_3 T5215 k_h0) (fun t_135 e5213 k_t_135 => ?_)
                  refine tz_b2 (tz_X9_advance T5215 k_t_135) (fun _ σ5212 ⟨T5212, W5212⟩ => ?_)
                  refine tz_be (tg_4_0 T5212 k_h0) (fun t_142 e5211 k_t_142 => ?_)
                  refine tz_b2 (tz_X3_addDoor T5212 k_t_142 i7_t_37 i11_t_75 i15_t_123) (fun _ σ5210 T5210 => ?_)
                  refine tz_b2 (tz_X4_expect T5210 k_h0 (tq_w tk_59 (by decide) (by decide))) (fun t_154 σ5209 ⟨i_t_154, T5209, W5209⟩ => ?_)
                  refine tz_nr (tq_nr_boolean i_t_154) ?_
                  exact tz_some ⟨i_t_154, T5209⟩
set_option maxRecDepth 4000 in
theorem tz_X4_readRoom {p : tz_P} {σ : ez_H} {h0 : Nat} (hT : tp p σ) (k_h0 : tz_C h0 = some (3, 4, 0, 0)) : tz_O2 (fun (z : Int32) (s : ez_H) => tq_iv 0 1 z ∧ tp p s) (z_X4_readRoom σ h0) := by
  show tz_O (fun z : Int32 × ez_H => (fun (z : Int32) (s : ez_H) => tq_iv 0 1 z ∧ tp p s) z.1 z.2) _
  unfold z_X4_readRoom
  refine tz_bd (tz_ob hT k_h0) (fun _ _ => ?_)
  refine tz_be (tg_4_0 hT k_h0) (fun t_3 e5253 k_t_3 => ?_)
  refine tz_be (tg_3_5 hT k_t_3) (fun t_6 e5252 i_t_6 => ?_)
  refine tz_b2 (tz_X4_readNewName hT k_h0 (tq_w tk_2 (by decide) (by decide)) (tq_w tk_6 (by decide) (by decide))) (fun t_11 σ5251 ⟨i_t_11, g_t_11, T5251, W5251⟩ => ?_)
  refine tz_if _ (fun c5250 => ?_) (fun c5250 => ?_)
  ·
    have i1_t_11 : tq_iv 0 0 t_11 := tq_cut i_t_11 (tq_eqL c5250 tk_0) (by decide) (by decide)
    exact tz_some ⟨(tq_w tk_0 (by decide) (by decide)), T5251⟩
  ·
    have i2_t_6 : tq_iv (-2147483648) 7 t_6 := tq_cut (tq_top t_6) (g_t_11 c5250) (by decide) (by decide)
    have i3_t_11 : tq_iv 1 1 t_11 := tq_w (tq_neLo c5250 i_t_11 tk_0) (by decide) (by decide)
    refine tz_bk ((W5251 4 0 _ (by decide)).2.2.trans e5253) ?_
    refine tz_ba ((W5251 3 5 _ (by decide)).1.trans e5252) (fun t_24 e5248 a5248 => ?_)
    have i4_t_24 : tq_iv (-2147483648) 7 t_24 := tq_eqL a5248 i2_t_6
    refine tz_let (fun t_28 e5247 => ?_)
    have i5_t_28 : tq_iv (-2147483647) 8 t_28 := tq_w (tq_add e5247 i4_t_24 tk_1 (by decide) (by decide)) (by decide) (by decide)
    refine tz_be (tw_3_5 T5251 k_t_3 (tq_top t_28)) (fun σ5246 e5246 T5246 => ?_)
    refine tz_b2 (tz_X4_expect T5246 k_h0 (tq_w tk_59 (by decide) (by decide))) (fun t_35 σ5245 ⟨i_t_35, T5245, W5245⟩ => ?_)
    refine tz_nr (tq_nr_boolean i_t_35) ?_
    exact tz_some ⟨i_t_35, T5245⟩
set_option maxRecDepth 4000 in
theorem tz_X4_depthHere {p : tz_P} {σ : ez_H} {h0 : Nat} (hT : tp p σ) (k_h0 : tz_C h0 = some (3, 4, 0, 0)) : tz_O2 (fun (z : Int32) (s : ez_H) => tq_iv (-1) 998 z ∧ tp p s ∧ fw [(4, 1), (4, 2)] σ s) (z_X4_depthHere σ h0) := by
  show tz_O (fun z : Int32 × ez_H => (fun (z : Int32) (s : ez_H) => tq_iv (-1) 998 z ∧ tp p s ∧ fw [(4, 1), (4, 2)] σ s) z.1 z.2) _
  unfold z_X4_depthHere
  refine tz_bd (tz_ob hT k_h0) (fun _ _ => ?_)
  refine tz_be (tg_4_3 hT k_h0) (fun t_1 e5270 k_t_1 => ?_)
  refine tz_be (tg_9_4 hT k_t_1) (fun t_4 e5269 i_t_4 => ?_)
  refine tz_if _ (fun c5268 => ?_) (fun c5268 => ?_)
  ·
    have i1_t_4 : tq_iv 24 24 t_4 := tq_cut (tq_top t_4) (tq_eqL c5268 tk_24) (by decide) (by decide)
    refine tz_be (tg_4_0 hT k_h0) (fun t_20 e5265 k_t_20 => ?_)
    refine tz_be (tg_3_0 hT k_t_20) (fun t_23 e5264 k_t_23 => ?_)
    refine tz_bk e5270 ?_
    refine tz_be (tg_9_6 hT k_t_1) (fun t_30 e5262 i_t_30 => ?_)
    refine tz_bd (tz_X6_hasDepth hT k_t_23) (fun t_33 ⟨i_t_33, g_t_33⟩ => ?_)
    refine tz_if _ (fun c5260 => ?_) (fun c5260 => ?_)
    ·
      have i2_t_33 : tq_iv 0 0 t_33 := tq_cut i_t_33 (tq_eqL c5260 tk_0) (by decide) (by decide)
      refine tz_b2 (tz_X4_blame hT k_h0 (tq_w tk_4 (by decide) (by decide))) (fun t_41 σ5256 ⟨i_t_41, T5256, W5256⟩ => ?_)
      exact tz_some ⟨(tq_w tk_m1 (by decide) (by decide)), T5256, (fw_call fw_0 W5256 (by decide))⟩
    ·
      have i3_t_30 : tq_iv 0 998 t_30 := tq_cut (tq_top t_30) (g_t_33 c5260) (by decide) (by decide)
      have i4_t_33 : tq_iv 1 1 t_33 := tq_w (tq_neLo c5260 i_t_33 tk_0) (by decide) (by decide)
      refine tz_bk e5270 ?_
      refine tz_ba e5262 (fun t_51 e5258 a5258 => ?_)
      have i5_t_51 : tq_iv 0 998 t_51 := tq_eqL a5258 i3_t_30
      exact tz_some ⟨(tq_w i5_t_51 (by decide) (by decide)), hT, fw_0⟩
  ·
    refine tz_b2 (tz_X4_refuse hT k_h0) (fun t_13 σ5267 ⟨i_t_13, T5267, W5267⟩ => ?_)
    exact tz_some ⟨(tq_w tk_m1 (by decide) (by decide)), T5267, (fw_call fw_0 W5267 (by decide))⟩
set_option maxRecDepth 4000 in
theorem tz_X4_readPart {p : tz_P} {σ : ez_H} {h0 : Nat} {x1 : Int32} (hT : tp p σ) (k_h0 : tz_C h0 = some (3, 4, 0, 0)) (i_x1 : tq_iv 0 998 x1) : tz_O2 (fun (z : Int32) (s : ez_H) => tq_iv (-2147483648) 2147483647 z ∧ tp p s) (z_X4_readPart σ h0 x1) := by
  show tz_O (fun z : Int32 × ez_H => (fun (z : Int32) (s : ez_H) => tq_iv (-2147483648) 2147483647 z ∧ tp p s) z.1 z.2) _
  unfold z_X4_readPart
  refine tz_bd (tz_ob hT k_h0) (fun _ _ => ?_)
  have L_4 : ∀ (n_4 : Nat) (k_4 : ez_H → Nat → Int32 → Int32 → Int32 → Option (Int32 × ez_H)), (∀ (σ_4 : ez_H) (x2_4 : Int32) (x3_4 : Int32), tp p σ_4 → tq_iv 0 7 x3_4 → (2147483647 - x3_4.toInt).toNat < n_4 → tz_O (fun z : Int32 × ez_H => (fun (z : Int32) (s : ez_H) => tq_iv (-2147483648) 2147483647 z ∧ tp p s) z.1 z.2) (k_4 σ_4 h0 x1 x2_4 x3_4)) → ∀ (σ_4 : ez_H) (x2_4 : Int32) (x3_4 : Int32), tp p σ_4 → tq_iv 0 7 x3_4 → (2147483647 - x3_4.toInt).toNat < n_4 + 1 → tz_O (fun z : Int32 × ez_H => (fun (z : Int32) (s : ez_H) => tq_iv (-2147483648) 2147483647 z ∧ tp p s) z.1 z.2) (z_X4_readPart_4 k_4 σ_4 h0 x1 x2_4 x3_4) := by
    intro n_4 k_4 hk_4 σ_4 x2_4 x3_4 T_σ_4 i_x3_4 hn_4
    unfold z_X4_readPart_4
    refine tz_if _ (fun c5293 => ?_) (fun c5293 => ?_)
    ·
      have i1_x3_4 : tq_iv 7 7 x3_4 := tq_cut i_x3_4 (tq_ltR c5293 tk_6 i_x3_4) (by decide) (by decide)
      exact tz_some ⟨(tq_top (0 : Int32)), T_σ_4⟩
    ·
      have i2_x3_4 : tq_iv 0 6 x3_4 := tq_cut i_x3_4 (tq_leL (tq_nlt c5293) i_x3_4 tk_6) (by decide) (by decide)
      refine tz_b2 (tz_X4_depthHere T_σ_4 k_h0) (fun t_11 σ5292 ⟨i_t_11, T5292, W5292⟩ => ?_)
      refine tz_if _ (fun c5291 => ?_) (fun c5291 => ?_)
      ·
        have i3_t_11 : tq_iv (-1) (-1) t_11 := tq_cut i_t_11 (tq_eqL c5291 tk_m1) (by decide) (by decide)
        exact tz_some ⟨(tq_top (0 : Int32)), T5292⟩
      ·
        have i4_t_11 : tq_iv 0 998 t_11 := tq_w (tq_neLo c5291 i_t_11 tk_m1) (by decide) (by decide)
        refine tz_bd (tz_X6_notch T5292 (tq_w i_x1 (by decide) (by decide))) (fun t_28 i_t_28 => ?_)
        refine tz_let (fun t_31 e5289 => ?_)
        refine tz_if _ (fun c5288 => ?_) (fun c5288 => ?_)
        ·
          have i5_t_31 : tq_iv 0 0 t_31 := tq_cut (tq_top t_31) (tq_eqL c5288 tk_0) (by decide) (by decide)
          refine tz_bd (tz_X6_notch T5292 (tq_w i_x1 (by decide) (by decide))) (fun t_47 i_t_47 => ?_)
          refine tz_let (fun t_50 e5284 => ?_)
          refine tz_be (tg_4_3 T5292 k_h0) (fun t_53 e5283 k_t_53 => ?_)
          refine tz_b2 (tz_X9_advance T5292 k_t_53) (fun _ σ5282 ⟨T5282, W5282⟩ => ?_)
          refine tz_bk ((W5282 4 3 _ (by decide)).2.2.trans e5283) ?_
          refine tz_be (tg_9_4 T5282 k_t_53) (fun t_63 e5280 i_t_63 => ?_)
          refine tz_if _ (fun c5279 => ?_) (fun c5279 => ?_)
          ·
            have i6_t_63 : tq_iv 47 47 t_63 := tq_cut (tq_top t_63) (tq_eqL c5279 tk_47) (by decide) (by decide)
            refine tz_bk ((W5282 4 3 _ (by decide)).2.2.trans e5283) ?_
            refine tz_b2 (tz_X9_advance T5282 k_t_53) (fun _ σ5276 ⟨T5276, W5276⟩ => ?_)
            refine tz_let (fun t_80 e5275 => ?_)
            have i7_t_80 : tq_iv 1 7 t_80 := tq_w (tq_add e5275 i2_x3_4 tk_1 (by decide) (by decide)) (by decide) (by decide)
            exact hk_4 σ5276 t_50 t_80 T5276 (tq_w i7_t_80 (by decide) (by decide)) (tq_up e5275 i2_x3_4 tk_1 (by decide) (by decide) hn_4)
          ·
            exact tz_some ⟨(tq_top t_50), T5282⟩
        ·
          refine tz_b2 (tz_X4_blame T5292 k_h0 (tq_w tk_3 (by decide) (by decide))) (fun t_37 σ5287 ⟨i_t_37, T5287, W5287⟩ => ?_)
          exact tz_some ⟨(tq_top (0 : Int32)), T5287⟩
  have E_4 : ∀ (σ_4 : ez_H) (x2_4 : Int32) (x3_4 : Int32), tp p σ_4 → tq_iv 0 7 x3_4 → tz_O (fun z : Int32 × ez_H => (fun (z : Int32) (s : ez_H) => tq_iv (-2147483648) 2147483647 z ∧ tp p s) z.1 z.2) (ez_fix (fun _ _ _ _ _ => none) (z_X4_readPart_4) ez_N σ_4 h0 x1 x2_4 x3_4) := by
    intro σ_4 x2_4 x3_4 T_σ_4 i_x3_4
    exact ez_fix_indn (fun n_4 (k_4 : ez_H → Nat → Int32 → Int32 → Int32 → Option (Int32 × ez_H)) => ∀ (σ_4 : ez_H) (x2_4 : Int32) (x3_4 : Int32), tp p σ_4 → tq_iv 0 7 x3_4 → (2147483647 - x3_4.toInt).toNat < n_4 → tz_O (fun z : Int32 × ez_H => (fun (z : Int32) (s : ez_H) => tq_iv (-2147483648) 2147483647 z ∧ tp p s) z.1 z.2) (k_4 σ_4 h0 x1 x2_4 x3_4)) (by intros; rename_i h; exact absurd h (Nat.not_lt_zero _)) L_4 ez_N σ_4 x2_4 x3_4 T_σ_4 i_x3_4 (tq_m0 x3_4)
  exact E_4 σ (0 : Int32) (0 : Int32) hT (tq_w tk_0 (by decide) (by decide))
set_option maxRecDepth 4000 in
theorem tz_X4_readLock {p : tz_P} {σ : ez_H} {h0 : Nat} (hT : tp p σ) (k_h0 : tz_C h0 = some (3, 4, 0, 0)) : tz_O2 (fun (z : Int32) (s : ez_H) => tq_iv 0 1 z ∧ tp p s) (z_X4_readLock σ h0) := by
  show tz_O (fun z : Int32 × ez_H => (fun (z : Int32) (s : ez_H) => tq_iv 0 1 z ∧ tp p s) z.1 z.2) _
  unfold z_X4_readLock
  refine tz_bd (tz_ob hT k_h0) (fun _ _ => ?_)
  refine tz_be (tg_4_0 hT k_h0) (fun t_3 e5323 k_t_3 => ?_)
  refine tz_be (tg_3_4 hT k_t_3) (fun t_6 e5322 i_t_6 => ?_)
  refine tz_b2 (tz_X4_readNewName hT k_h0 (tq_w tk_1 (by decide) (by decide)) (tq_w tk_6 (by decide) (by decide))) (fun t_11 σ5321 ⟨i_t_11, g_t_11, T5321, W5321⟩ => ?_)
  refine tz_if _ (fun c5320 => ?_) (fun c5320 => ?_)
  ·
    have i1_t_11 : tq_iv 0 0 t_11 := tq_cut i_t_11 (tq_eqL c5320 tk_0) (by decide) (by decide)
    exact tz_some ⟨(tq_w tk_0 (by decide) (by decide)), T5321⟩
  ·
    have i2_t_6 : tq_iv (-2147483648) 7 t_6 := tq_cut (tq_top t_6) (g_t_11 c5320) (by decide) (by decide)
    have i3_t_11 : tq_iv 1 1 t_11 := tq_w (tq_neLo c5320 i_t_11 tk_0) (by decide) (by decide)
    have L_23 : ∀ (n_23 : Nat) (k_23 : ez_H → Nat → Int32 → Int32 → Option (Int32 × ez_H)), (∀ (σ_23 : ez_H) (x1_23 : Int32) (x2_23 : Int32), tp p σ_23 → tq_iv 0 999 x2_23 → (2147483647 - x2_23.toInt).toNat < n_23 → tz_O (fun z : Int32 × ez_H => (fun (z : Int32) (s : ez_H) => tq_iv 0 1 z ∧ tp p s) z.1 z.2) (k_23 σ_23 h0 x1_23 x2_23)) → ∀ (σ_23 : ez_H) (x1_23 : Int32) (x2_23 : Int32), tp p σ_23 → tq_iv 0 999 x2_23 → (2147483647 - x2_23.toInt).toNat < n_23 + 1 → tz_O (fun z : Int32 × ez_H => (fun (z : Int32) (s : ez_H) => tq_iv 0 1 z ∧ tp p s) z.1 z.2) (z_X4_readLock_23 k_23 σ_23 h0 x1_23 x2_23) := by
      intro n_23 k_23 hk_23 σ_23 x1_23 x2_23 T_σ_23 i_x2_23 hn_23
      unfold z_X4_readLock_23
      refine tz_be (tg_4_0 T_σ_23 k_h0) (fun t_25 e5317 k_t_25 => ?_)
      refine tz_be (tg_3_0 T_σ_23 k_t_25) (fun t_28 e5316 k_t_28 => ?_)
      refine tz_be (tg_6_0 T_σ_23 k_t_28) (fun t_31 e5315 i_t_31 => ?_)
      refine tz_if _ (fun c5314 => ?_) (fun c5314 => ?_)
      ·
        refine tz_bk e5317 ?_
        refine tz_be (tg_3_2 T_σ_23 k_t_25) (fun t_63 e5306 k_t_63 => ?_)
        refine tz_bk e5317 ?_
        refine tz_be (tg_3_4 T_σ_23 k_t_25) (fun t_70 e5304 i_t_70 => ?_)
        refine tz_b2 (tz_X7_putPins T_σ_23 k_t_63) (fun _ σ5303 T5303 => ?_)
        refine tz_be (tg_4_0 T5303 k_h0) (fun t_78 e5302 k_t_78 => ?_)
        refine tz_be (tg_3_4 T5303 k_t_78) (fun t_82 e5301 i_t_82 => ?_)
        refine tz_let (fun t_86 e5300 => ?_)
        refine tz_be (tw_3_4 T5303 k_t_78 (tq_top t_86)) (fun σ5299 e5299 T5299 => ?_)
        refine tz_b2 (tz_X4_expect T5299 k_h0 (tq_w tk_59 (by decide) (by decide))) (fun t_93 σ5298 ⟨i_t_93, T5298, W5298⟩ => ?_)
        refine tz_nr (tq_nr_boolean i_t_93) ?_
        exact tz_some ⟨i_t_93, T5298⟩
      ·
        have i4_x2_23 : tq_iv 0 998 x2_23 := tq_cut i_x2_23 (tq_ltL (tq_nle c5314) i_x2_23 i_t_31) (by decide) (by decide)
        have i5_t_31 : tq_iv 1 999 t_31 := tq_cut i_t_31 (tq_ltR (tq_nle c5314) i_x2_23 i_t_31) (by decide) (by decide)
        refine tz_b2 (tz_X4_readPart T_σ_23 k_h0 i4_x2_23) (fun t_39 σ5313 ⟨i_t_39, T5313⟩ => ?_)
        refine tz_if _ (fun c5312 => ?_) (fun c5312 => ?_)
        ·
          have i6_t_39 : tq_iv 0 0 t_39 := tq_cut (tq_top t_39) (tq_eqL c5312 tk_0) (by decide) (by decide)
          exact tz_some ⟨(tq_w tk_0 (by decide) (by decide)), T5313⟩
        ·
          refine tz_let (fun t_51 e5311 => ?_)
          refine tz_let (fun t_53 e5310 => ?_)
          have i7_t_53 : tq_iv 1 999 t_53 := tq_w (tq_add e5310 i4_x2_23 tk_1 (by decide) (by decide)) (by decide) (by decide)
          exact hk_23 σ5313 t_51 t_53 T5313 (tq_w i7_t_53 (by decide) (by decide)) (tq_up e5310 i4_x2_23 tk_1 (by decide) (by decide) hn_23)
    have E_23 : ∀ (σ_23 : ez_H) (x1_23 : Int32) (x2_23 : Int32), tp p σ_23 → tq_iv 0 999 x2_23 → tz_O (fun z : Int32 × ez_H => (fun (z : Int32) (s : ez_H) => tq_iv 0 1 z ∧ tp p s) z.1 z.2) (ez_fix (fun _ _ _ _ => none) (z_X4_readLock_23) ez_N σ_23 h0 x1_23 x2_23) := by
      intro σ_23 x1_23 x2_23 T_σ_23 i_x2_23
      exact ez_fix_indn (fun n_23 (k_23 : ez_H → Nat → Int32 → Int32 → Option (Int32 × ez_H)) => ∀ (σ_23 : ez_H) (x1_23 : Int32) (x2_23 : Int32), tp p σ_23 → tq_iv 0 999 x2_23 → (2147483647 - x2_23.toInt).toNat < n_23 → tz_O (fun z : Int32 × ez_H => (fun (z : Int32) (s : ez_H) => tq_iv 0 1 z ∧ tp p s) z.1 z.2) (k_23 σ_23 h0 x1_23 x2_23)) (by intros; rename_i h; exact absurd h (Nat.not_lt_zero _)) L_23 ez_N σ_23 x1_23 x2_23 T_σ_23 i_x2_23 (tq_m0 x2_23)
    exact E_23 σ5321 (0 : Int32) (0 : Int32) T5321 (tq_w tk_0 (by decide) (by decide))
set_option maxRecDepth 4000 in
theorem tz_X4_readKey {p : tz_P} {σ : ez_H} {h0 : Nat} (hT : tp p σ) (k_h0 : tz_C h0 = some (3, 4, 0, 0)) : tz_O2 (fun (z : Int32) (s : ez_H) => tq_iv 0 1 z ∧ tp p s) (z_X4_readKey σ h0) := by
  show tz_O (fun z : Int32 × ez_H => (fun (z : Int32) (s : ez_H) => tq_iv 0 1 z ∧ tp p s) z.1 z.2) _
  unfold z_X4_readKey
  obtain ⟨w0, e_w0, i_w0⟩ := tg_4_0 hT k_h0
  obtain ⟨w1, e_w1, i_w1⟩ := tg_3_3 hT i_w0
  refine tz_bd (tz_ob hT k_h0) (fun _ _ => ?_)
  refine tz_bk e_w0 ?_
  refine tz_ba e_w1 (fun t_6 e5371 a5371 => ?_)
  have i1_t_6 : tq_iv 0 8 t_6 := tq_eqL a5371 i_w1
  refine tz_b2 (tz_X4_readNewName hT k_h0 (tq_w tk_0 (by decide) (by decide)) (tq_w tk_8 (by decide) (by decide))) (fun t_11 σ5370 ⟨i_t_11, g_t_11, T5370, W5370⟩ => ?_)
  refine tz_if _ (fun c5369 => ?_) (fun c5369 => ?_)
  ·
    have i2_t_11 : tq_iv 0 0 t_11 := tq_cut i_t_11 (tq_eqL c5369 tk_0) (by decide) (by decide)
    exact tz_some ⟨(tq_w tk_0 (by decide) (by decide)), T5370⟩
  ·
    have i3_t_6 : tq_iv 0 7 t_6 := tq_cut i1_t_6 (g_t_11 c5369) (by decide) (by decide)
    have i4_w1 : tq_iv 0 7 w1 := tq_cut i_w1 (tq_eqL (Eq.symm a5371) i3_t_6) (by decide) (by decide)
    have i5_t_11 : tq_iv 1 1 t_11 := tq_w (tq_neLo c5369 i_t_11 tk_0) (by decide) (by decide)
    have L_25 : ∀ (n_25 : Nat) (k_25 : ez_H → Nat → Int32 → Int32 → Int32 → Option (Int32 × ez_H)), (∀ (σ_25 : ez_H) (x1_25 : Int32) (x2_25 : Int32) (x3_25 : Int32), tp p σ_25 → tq_iv 0 998 x2_25 → tq_iv 0 999 x3_25 → ez_gr σ_25 4 h0 0 = some w0 → ez_gi σ_25 3 w0 3 = some w1 → (2147483647 - x3_25.toInt).toNat < n_25 → tz_O (fun z : Int32 × ez_H => (fun (z : Int32) (s : ez_H) => tq_iv 0 1 z ∧ tp p s) z.1 z.2) (k_25 σ_25 h0 x1_25 x2_25 x3_25)) → ∀ (σ_25 : ez_H) (x1_25 : Int32) (x2_25 : Int32) (x3_25 : Int32), tp p σ_25 → tq_iv 0 998 x2_25 → tq_iv 0 999 x3_25 → ez_gr σ_25 4 h0 0 = some w0 → ez_gi σ_25 3 w0 3 = some w1 → (2147483647 - x3_25.toInt).toNat < n_25 + 1 → tz_O (fun z : Int32 × ez_H => (fun (z : Int32) (s : ez_H) => tq_iv 0 1 z ∧ tp p s) z.1 z.2) (z_X4_readKey_25 k_25 σ_25 h0 x1_25 x2_25 x3_25) := by
      intro n_25 k_25 hk_25 σ_25 x1_25 x2_25 x3_25 T_σ_25 i_x2_25 i_x3_25 f0_25 f1_25 hn_25
      unfold z_X4_readKey_25
      refine tz_bk f0_25 ?_
      refine tz_be (tg_3_0 T_σ_25 i_w0) (fun t_30 e5365 k_t_30 => ?_)
      refine tz_be (tg_6_0 T_σ_25 k_t_30) (fun t_33 e5364 i_t_33 => ?_)
      refine tz_if _ (fun c5363 => ?_) (fun c5363 => ?_)
      ·
        refine tz_bk f0_25 ?_
        refine tz_be (tg_3_2 T_σ_25 i_w0) (fun t_112 e5346 k_t_112 => ?_)
        refine tz_bk f0_25 ?_
        refine tz_ba f1_25 (fun t_119 e5344 a5344 => ?_)
        have i6_t_119 : tq_iv 0 7 t_119 := tq_eqL a5344 i4_w1
        refine tz_b2 (tz_X7_putBits T_σ_25 k_t_112) (fun _ σ5343 ⟨T5343, W5343⟩ => ?_)
        refine tz_bk ((W5343 4 0 _ (by decide)).2.2.trans f0_25) ?_
        refine tz_bk ((W5343 3 2 _ (by decide)).2.2.trans e5346) ?_
        refine tz_bk ((W5343 4 0 _ (by decide)).2.2.trans f0_25) ?_
        refine tz_ba ((W5343 3 3 _ (by decide)).1.trans f1_25) (fun t_137 e5339 a5339 => ?_)
        have i7_t_137 : tq_iv 0 7 t_137 := tq_eqL a5339 i4_w1
        refine tz_b2 (tz_X7_putHolder T5343 k_t_112 i7_t_137) (fun _ σ5338 ⟨T5338, W5338⟩ => ?_)
        refine tz_bk ((W5338 4 0 _ (by decide)).2.2.trans ((W5343 4 0 _ (by decide)).2.2.trans f0_25)) ?_
        refine tz_ba ((W5338 3 3 _ (by decide)).1.trans ((W5343 3 3 _ (by decide)).1.trans f1_25)) (fun t_149 e5336 a5336 => ?_)
        have i8_t_149 : tq_iv 0 7 t_149 := tq_eqL a5336 i4_w1
        refine tz_let (fun t_153 e5335 => ?_)
        have i9_t_153 : tq_iv 1 8 t_153 := tq_w (tq_add e5335 i8_t_149 tk_1 (by decide) (by decide)) (by decide) (by decide)
        refine tz_be (tw_3_3 T5338 i_w0 (tq_w i9_t_153 (by decide) (by decide))) (fun σ5334 e5334 T5334 => ?_)
        refine tz_b2 (tz_X4_expect T5334 k_h0 (tq_w tk_59 (by decide) (by decide))) (fun t_160 σ5333 ⟨i_t_160, T5333, W5333⟩ => ?_)
        refine tz_nr (tq_nr_boolean i_t_160) ?_
        exact tz_some ⟨i_t_160, T5333⟩
      ·
        have i10_x3_25 : tq_iv 0 998 x3_25 := tq_cut i_x3_25 (tq_ltL (tq_nle c5363) i_x3_25 i_t_33) (by decide) (by decide)
        have i11_t_33 : tq_iv 1 999 t_33 := tq_cut i_t_33 (tq_ltR (tq_nle c5363) i_x3_25 i_t_33) (by decide) (by decide)
        refine tz_b2 (tz_X4_depthHere T_σ_25 k_h0) (fun t_40 σ5362 ⟨i_t_40, T5362, W5362⟩ => ?_)
        refine tz_if _ (fun c5361 => ?_) (fun c5361 => ?_)
        ·
          have i12_t_40 : tq_iv (-1) (-1) t_40 := tq_cut i_t_40 (tq_eqL c5361 tk_m1) (by decide) (by decide)
          exact tz_some ⟨(tq_w tk_0 (by decide) (by decide)), T5362⟩
        ·
          have i13_t_40 : tq_iv 0 998 t_40 := tq_w (tq_neLo c5361 i_t_40 tk_m1) (by decide) (by decide)
          have K_83 : tz_O (fun z : Int32 × ez_H => (fun (z : Int32) (s : ez_H) => tq_iv 0 1 z ∧ tp p s) z.1 z.2) (z_X4_readKey_83 k_25 σ5362 h0 x1_25 x3_25 t_40) := by
            unfold z_X4_readKey_83
            refine tz_bd (tz_X6_notch T5362 (tq_w i10_x3_25 (by decide) (by decide))) (fun t_87 i_t_87 => ?_)
            refine tz_let (fun t_90 e5329 => ?_)
            refine tz_be (tg_4_3 T5362 k_h0) (fun t_96 e5328 k_t_96 => ?_)
            refine tz_b2 (tz_X9_advance T5362 k_t_96) (fun _ σ5327 ⟨T5327, W5327⟩ => ?_)
            refine tz_let (fun t_102 e5326 => ?_)
            have i14_t_102 : tq_iv 1 999 t_102 := tq_w (tq_add e5326 i10_x3_25 tk_1 (by decide) (by decide)) (by decide) (by decide)
            exact hk_25 σ5327 t_90 t_40 t_102 T5327 i13_t_40 (tq_w i14_t_102 (by decide) (by decide)) ((W5327 4 0 _ (by decide)).2.2.trans ((W5362 4 0 _ (by decide)).2.2.trans f0_25)) ((W5327 3 3 _ (by decide)).1.trans ((W5362 3 3 _ (by decide)).1.trans f1_25)) (tq_up e5326 i10_x3_25 tk_1 (by decide) (by decide) hn_25)
          refine tz_if _ (fun c5360 => ?_) (fun c5360 => ?_)
          ·
            have i15_x3_25 : tq_iv 0 0 x3_25 := tq_cut i10_x3_25 (tq_leL c5360 i10_x3_25 tk_0) (by decide) (by decide)
            exact K_83 
          ·
            have i16_x3_25 : tq_iv 1 998 x3_25 := tq_cut i10_x3_25 (tq_ltR (tq_nle c5360) tk_0 i10_x3_25) (by decide) (by decide)
            refine tz_let (fun t_60 e5359 => ?_)
            have i17_t_60 : tq_iv (-998) 998 t_60 := tq_w (tq_sub e5359 i13_t_40 i_x2_25 (by decide) (by decide)) (by decide) (by decide)
            refine tz_let (fun t_61 e5358 => ?_)
            refine tz_bk ((W5362 4 0 _ (by decide)).2.2.trans f0_25) ?_
            refine tz_bk ((W5362 3 0 _ (by decide)).2.2.trans e5365) ?_
            refine tz_be (tg_6_2 T5362 k_t_30) (fun t_71 e5355 i_t_71 => ?_)
            refine tz_if _ (fun c5354 => ?_) (fun c5354 => ?_)
            ·
              have i18_t_61 : tq_iv (-2147483648) 999 t_61 := tq_cut (tq_top t_61) (tq_leL c5354 (tq_top t_61) i_t_71) (by decide) (by decide)
              exact K_83 
            ·
              have i19_t_61 : tq_iv 1 2147483647 t_61 := tq_cut (tq_top t_61) (tq_ltR (tq_nle c5354) i_t_71 (tq_top t_61)) (by decide) (by decide)
              refine tz_b2 (tz_X4_blame T5362 k_h0 (tq_w tk_4 (by decide) (by decide))) (fun t_79 σ5353 ⟨i_t_79, T5353, W5353⟩ => ?_)
              refine tz_nr (tq_nr_boolean (tq_w i_t_79 (by decide) (by decide))) ?_
              exact tz_some ⟨(tq_w i_t_79 (by decide) (by decide)), T5353⟩
    have E_25 : ∀ (σ_25 : ez_H) (x1_25 : Int32) (x2_25 : Int32) (x3_25 : Int32), tp p σ_25 → tq_iv 0 998 x2_25 → tq_iv 0 999 x3_25 → ez_gr σ_25 4 h0 0 = some w0 → ez_gi σ_25 3 w0 3 = some w1 → tz_O (fun z : Int32 × ez_H => (fun (z : Int32) (s : ez_H) => tq_iv 0 1 z ∧ tp p s) z.1 z.2) (ez_fix (fun _ _ _ _ _ => none) (z_X4_readKey_25) ez_N σ_25 h0 x1_25 x2_25 x3_25) := by
      intro σ_25 x1_25 x2_25 x3_25 T_σ_25 i_x2_25 i_x3_25 f0_25 f1_25
      exact ez_fix_indn (fun n_25 (k_25 : ez_H → Nat → Int32 → Int32 → Int32 → Option (Int32 × ez_H)) => ∀ (σ_25 : ez_H) (x1_25 : Int32) (x2_25 : Int32) (x3_25 : Int32), tp p σ_25 → tq_iv 0 998 x2_25 → tq_iv 0 999 x3_25 → ez_gr σ_25 4 h0 0 = some w0 → ez_gi σ_25 3 w0 3 = some w1 → (2147483647 - x3_25.toInt).toNat < n_25 → tz_O (fun z : Int32 × ez_H => (fun (z : Int32) (s : ez_H) => tq_iv 0 1 z ∧ tp p s) z.1 z.2) (k_25 σ_25 h0 x1_25 x2_25 x3_25)) (by intros; rename_i h; exact absurd h (Nat.not_lt_zero _)) L_25 ez_N σ_25 x1_25 x2_25 x3_25 T_σ_25 i_x2_25 i_x3_25 f0_25 f1_25 (tq_m0 x3_25)
    exact E_25 σ5370 (0 : Int32) (0 : Int32) (0 : Int32) T5370 (tq_w tk_0 (by decide) (by decide)) (tq_w tk_0 (by decide) (by decide)) ((W5370 4 0 _ (by decide)).2.2.trans e_w0) ((W5370 3 3 _ (by decide)).1.trans e_w1)
