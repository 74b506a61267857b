set_option maxRecDepth 4000 in
theorem tz_X12_two {p : tz_P} {σ : ez_H} {x0 : Int32} {x1 : Int32} {x2 : Int32} (hT : tp p σ) : tz_O (fun z => tq_iv (-2147483648) 2147483647 z) (z_X12_two σ x0 x1 x2) := by
  unfold z_X12_two
  refine tz_if _ (fun c7590 => ?_) (fun c7590 => ?_)
  ·
    have i1_x0 : tq_iv 37 37 x0 := tq_cut (tq_top x0) (tq_eqL c7590 tk_37) (by decide) (by decide)
    have K_155 : ∀ (y0_155 : Int32), tz_O (fun (z : Int32) => tq_iv (-2147483648) 2147483647 z) (z_X12_two_155 σ y0_155) := by
      intro y0_155
      unfold z_X12_two_155
      exact tz_some (tq_top y0_155)
    refine tz_if _ (fun c7521 => ?_) (fun c7521 => ?_)
    ·
      have i2_x2 : tq_iv 0 0 x2 := tq_cut (tq_top x2) (tq_eqL c7521 tk_0) (by decide) (by decide)
      exact K_155 (0 : Int32)
    ·
      refine tz_nz c7521 ?_
      refine tz_let (fun t_154 e7519 => ?_)
      exact K_155 t_154
  ·
    refine tz_if _ (fun c7589 => ?_) (fun c7589 => ?_)
    ·
      have i3_x0 : tq_iv 38 38 x0 := tq_cut (tq_top x0) (tq_eqL c7589 tk_38) (by decide) (by decide)
      have K_202 : ∀ (y0_202 : Int32), tq_iv 0 1 y0_202 → tz_O (fun (z : Int32) => tq_iv (-2147483648) 2147483647 z) (z_X12_two_202 σ y0_202) := by
        intro y0_202 i_y0_202
        unfold z_X12_two_202
        exact tz_some (tq_top y0_202)
      have K_201 : tz_O (fun (z : Int32) => tq_iv (-2147483648) 2147483647 z) (z_X12_two_201 σ) := by
        unfold z_X12_two_201
        exact K_202 (0 : Int32) (tq_w tk_0 (by decide) (by decide))
      refine tz_if _ (fun c7526 => ?_) (fun c7526 => ?_)
      ·
        have i4_x1 : tq_iv 0 0 x1 := tq_cut (tq_top x1) (tq_eqL c7526 tk_0) (by decide) (by decide)
        exact K_201 
      ·
        refine tz_if _ (fun c7525 => ?_) (fun c7525 => ?_)
        ·
          have i5_x2 : tq_iv 0 0 x2 := tq_cut (tq_top x2) (tq_eqL c7525 tk_0) (by decide) (by decide)
          exact K_201 
        ·
          exact K_202 (1 : Int32) (tq_w tk_1 (by decide) (by decide))
    ·
      have K_203 : tz_O (fun (z : Int32) => tq_iv (-2147483648) 2147483647 z) (z_X12_two_203 σ x1 x2) := by
        unfold z_X12_two_203
        have K_216 : ∀ (y0_216 : Int32), tq_iv 0 1 y0_216 → tz_O (fun (z : Int32) => tq_iv (-2147483648) 2147483647 z) (z_X12_two_216 σ y0_216) := by
          intro y0_216 i_y0_216
          unfold z_X12_two_216
          exact tz_some (tq_top y0_216)
        have K_211 : tz_O (fun (z : Int32) => tq_iv (-2147483648) 2147483647 z) (z_X12_two_211 σ) := by
          unfold z_X12_two_211
          exact K_216 (1 : Int32) (tq_w tk_1 (by decide) (by decide))
        refine tz_if _ (fun c7512 => ?_) (fun c7512 => ?_)
        ·
          have i6_x1 : tq_iv 0 0 x1 := tq_cut (tq_top x1) (tq_eqL c7512 tk_0) (by decide) (by decide)
          refine tz_if _ (fun c7510 => ?_) (fun c7510 => ?_)
          ·
            have i7_x2 : tq_iv 0 0 x2 := tq_cut (tq_top x2) (tq_eqL c7510 tk_0) (by decide) (by decide)
            exact K_216 (0 : Int32) (tq_w tk_0 (by decide) (by decide))
          ·
            exact K_211 
        ·
          exact K_211 
      refine tz_if _ (fun c7588 => ?_) (fun c7588 => ?_)
      ·
        have i8_x0 : tq_iv 39 39 x0 := tq_cut (tq_top x0) (tq_eqL c7588 tk_39) (by decide) (by decide)
        exact K_203 
      ·
        refine tz_if _ (fun c7587 => ?_) (fun c7587 => ?_)
        ·
          have i9_x0 : tq_iv 40 40 x0 := tq_cut (tq_top x0) (tq_eqL c7587 tk_40) (by decide) (by decide)
          exact K_203 
        ·
          refine tz_if _ (fun c7586 => ?_) (fun c7586 => ?_)
          ·
            have i10_x0 : tq_iv 41 41 x0 := tq_cut (tq_top x0) (tq_eqL c7586 tk_41) (by decide) (by decide)
            exact K_203 
          ·
            refine tz_if _ (fun c7585 => ?_) (fun c7585 => ?_)
            ·
              have i11_x0 : tq_iv 42 42 x0 := tq_cut (tq_top x0) (tq_eqL c7585 tk_42) (by decide) (by decide)
              refine tz_let (fun t_130 e7531 => ?_)
              exact tz_some (tq_top t_130)
            ·
              refine tz_if _ (fun c7584 => ?_) (fun c7584 => ?_)
              ·
                have i12_x0 : tq_iv 43 43 x0 := tq_cut (tq_top x0) (tq_eqL c7584 tk_43) (by decide) (by decide)
                refine tz_let (fun t_122 e7533 => ?_)
                exact tz_some (tq_top t_122)
              ·
                refine tz_if _ (fun c7583 => ?_) (fun c7583 => ?_)
                ·
                  have i13_x0 : tq_iv 44 44 x0 := tq_cut (tq_top x0) (tq_eqL c7583 tk_44) (by decide) (by decide)
                  exact K_203 
                ·
                  refine tz_if _ (fun c7582 => ?_) (fun c7582 => ?_)
                  ·
                    have i14_x0 : tq_iv 45 45 x0 := tq_cut (tq_top x0) (tq_eqL c7582 tk_45) (by decide) (by decide)
                    refine tz_let (fun t_126 e7536 => ?_)
                    exact tz_some (tq_top t_126)
                  ·
                    refine tz_if _ (fun c7581 => ?_) (fun c7581 => ?_)
                    ·
                      have i15_x0 : tq_iv 46 46 x0 := tq_cut (tq_top x0) (tq_eqL c7581 tk_46) (by decide) (by decide)
                      exact K_203 
                    ·
                      refine tz_if _ (fun c7580 => ?_) (fun c7580 => ?_)
                      ·
                        have i16_x0 : tq_iv 47 47 x0 := tq_cut (tq_top x0) (tq_eqL c7580 tk_47) (by decide) (by decide)
                        have K_143 : ∀ (y0_143 : Int32), tz_O (fun (z : Int32) => tq_iv (-2147483648) 2147483647 z) (z_X12_two_143 σ y0_143) := by
                          intro y0_143
                          unfold z_X12_two_143
                          exact tz_some (tq_top y0_143)
                        refine tz_if _ (fun c7542 => ?_) (fun c7542 => ?_)
                        ·
                          have i17_x2 : tq_iv 0 0 x2 := tq_cut (tq_top x2) (tq_eqL c7542 tk_0) (by decide) (by decide)
                          exact K_143 (0 : Int32)
                        ·
                          refine tz_nz c7542 ?_
                          refine tz_let (fun t_142 e7540 => ?_)
                          exact K_143 t_142
                      ·
                        refine tz_if _ (fun c7579 => ?_) (fun c7579 => ?_)
                        ·
                          have i18_x0 : tq_iv 48 48 x0 := tq_cut (tq_top x0) (tq_eqL c7579 tk_48) (by decide) (by decide)
                          exact K_203 
                        ·
                          refine tz_if _ (fun c7578 => ?_) (fun c7578 => ?_)
                          ·
                            have i19_x0 : tq_iv 49 49 x0 := tq_cut (tq_top x0) (tq_eqL c7578 tk_49) (by decide) (by decide)
                            exact K_203 
                          ·
                            refine tz_if _ (fun c7577 => ?_) (fun c7577 => ?_)
                            ·
                              have i20_x0 : tq_iv 50 50 x0 := tq_cut (tq_top x0) (tq_eqL c7577 tk_50) (by decide) (by decide)
                              exact K_203 
                            ·
                              refine tz_if _ (fun c7576 => ?_) (fun c7576 => ?_)
                              ·
                                have i21_x0 : tq_iv 51 51 x0 := tq_cut (tq_top x0) (tq_eqL c7576 tk_51) (by decide) (by decide)
                                exact K_203 
                              ·
                                refine tz_if _ (fun c7575 => ?_) (fun c7575 => ?_)
                                ·
                                  have i22_x0 : tq_iv 52 52 x0 := tq_cut (tq_top x0) (tq_eqL c7575 tk_52) (by decide) (by decide)
                                  exact K_203 
                                ·
                                  refine tz_if _ (fun c7574 => ?_) (fun c7574 => ?_)
                                  ·
                                    have i23_x0 : tq_iv 53 53 x0 := tq_cut (tq_top x0) (tq_eqL c7574 tk_53) (by decide) (by decide)
                                    exact K_203 
                                  ·
                                    refine tz_if _ (fun c7573 => ?_) (fun c7573 => ?_)
                                    ·
                                      have i24_x0 : tq_iv 54 54 x0 := tq_cut (tq_top x0) (tq_eqL c7573 tk_54) (by decide) (by decide)
                                      exact K_203 
                                    ·
                                      refine tz_if _ (fun c7572 => ?_) (fun c7572 => ?_)
                                      ·
                                        have i25_x0 : tq_iv 55 55 x0 := tq_cut (tq_top x0) (tq_eqL c7572 tk_55) (by decide) (by decide)
                                        exact K_203 
                                      ·
                                        refine tz_if _ (fun c7571 => ?_) (fun c7571 => ?_)
                                        ·
                                          have i26_x0 : tq_iv 56 56 x0 := tq_cut (tq_top x0) (tq_eqL c7571 tk_56) (by decide) (by decide)
                                          exact K_203 
                                        ·
                                          refine tz_if _ (fun c7570 => ?_) (fun c7570 => ?_)
                                          ·
                                            have i27_x0 : tq_iv 57 57 x0 := tq_cut (tq_top x0) (tq_eqL c7570 tk_57) (by decide) (by decide)
                                            exact K_203 
                                          ·
                                            refine tz_if _ (fun c7569 => ?_) (fun c7569 => ?_)
                                            ·
                                              have i28_x0 : tq_iv 58 58 x0 := tq_cut (tq_top x0) (tq_eqL c7569 tk_58) (by decide) (by decide)
                                              exact K_203 
                                            ·
                                              refine tz_if _ (fun c7568 => ?_) (fun c7568 => ?_)
                                              ·
                                                have i29_x0 : tq_iv 59 59 x0 := tq_cut (tq_top x0) (tq_eqL c7568 tk_59) (by decide) (by decide)
                                                exact K_203 
                                              ·
                                                refine tz_if _ (fun c7567 => ?_) (fun c7567 => ?_)
                                                ·
                                                  have i30_x0 : tq_iv 60 60 x0 := tq_cut (tq_top x0) (tq_eqL c7567 tk_60) (by decide) (by decide)
                                                  have K_166 : ∀ (y0_166 : Int32), tq_iv 0 1 y0_166 → (¬ y0_166 = 0 → tq_iv (-2147483648) 2147483646 x1) → (¬ y0_166 = 0 → tq_iv (-2147483647) 2147483647 x2) → tz_O (fun (z : Int32) => tq_iv (-2147483648) 2147483647 z) (z_X12_two_166 σ y0_166) := by
                                                    intro y0_166 i_y0_166 g166_y0_166_x1 g166_y0_166_x2
                                                    unfold z_X12_two_166
                                                    exact tz_some (tq_top y0_166)
                                                  refine tz_if _ (fun c7557 => ?_) (fun c7557 => ?_)
                                                  ·
                                                    exact K_166 (0 : Int32) (tq_w tk_0 (by decide) (by decide)) (fun h => absurd rfl h) (fun h => absurd rfl h)
                                                  ·
                                                    have i31_x1 : tq_iv (-2147483648) 2147483646 x1 := tq_cut (tq_top x1) (tq_ltL (tq_nle c7557) (tq_top x1) (tq_top x2)) (by decide) (by decide)
                                                    have i32_x2 : tq_iv (-2147483647) 2147483647 x2 := tq_cut (tq_top x2) (tq_ltR (tq_nle c7557) (tq_top x1) (tq_top x2)) (by decide) (by decide)
                                                    exact K_166 (1 : Int32) (tq_w tk_1 (by decide) (by decide)) (fun _ => i31_x1) (fun _ => i32_x2)
                                                ·
                                                  refine tz_if _ (fun c7566 => ?_) (fun c7566 => ?_)
                                                  ·
                                                    have i33_x0 : tq_iv 61 61 x0 := tq_cut (tq_top x0) (tq_eqL c7566 tk_61) (by decide) (by decide)
                                                    have K_188 : ∀ (y0_188 : Int32), tq_iv 0 1 y0_188 → tz_O (fun (z : Int32) => tq_iv (-2147483648) 2147483647 z) (z_X12_two_188 σ y0_188) := by
                                                      intro y0_188 i_y0_188
                                                      unfold z_X12_two_188
                                                      exact tz_some (tq_top y0_188)
                                                    refine tz_if _ (fun c7560 => ?_) (fun c7560 => ?_)
                                                    ·
                                                      exact K_188 (1 : Int32) (tq_w tk_1 (by decide) (by decide))
                                                    ·
                                                      exact K_188 (0 : Int32) (tq_w tk_0 (by decide) (by decide))
                                                  ·
                                                    refine tz_if _ (fun c7565 => ?_) (fun c7565 => ?_)
                                                    ·
                                                      have i34_x0 : tq_iv 62 62 x0 := tq_cut (tq_top x0) (tq_eqL c7565 tk_62) (by decide) (by decide)
                                                      have K_177 : ∀ (y0_177 : Int32), tq_iv 0 1 y0_177 → (¬ y0_177 = 0 → tq_iv (-2147483647) 2147483647 x1) → (¬ y0_177 = 0 → tq_iv (-2147483648) 2147483646 x2) → tz_O (fun (z : Int32) => tq_iv (-2147483648) 2147483647 z) (z_X12_two_177 σ y0_177) := by
                                                        intro y0_177 i_y0_177 g177_y0_177_x1 g177_y0_177_x2
                                                        unfold z_X12_two_177
                                                        exact tz_some (tq_top y0_177)
                                                      refine tz_if _ (fun c7563 => ?_) (fun c7563 => ?_)
                                                      ·
                                                        exact K_177 (0 : Int32) (tq_w tk_0 (by decide) (by decide)) (fun h => absurd rfl h) (fun h => absurd rfl h)
                                                      ·
                                                        have i35_x2 : tq_iv (-2147483648) 2147483646 x2 := tq_cut (tq_top x2) (tq_ltL (tq_nle c7563) (tq_top x2) (tq_top x1)) (by decide) (by decide)
                                                        have i36_x1 : tq_iv (-2147483647) 2147483647 x1 := tq_cut (tq_top x1) (tq_ltR (tq_nle c7563) (tq_top x2) (tq_top x1)) (by decide) (by decide)
                                                        exact K_177 (1 : Int32) (tq_w tk_1 (by decide) (by decide)) (fun _ => i36_x1) (fun _ => i35_x2)
                                                    ·
                                                      exact K_203
theorem tz_X12_comes {p : tz_P} {σ : ez_H} {h0 : Nat} {b d v : Int32} (hT : tp p σ) (k_h0 : tz_C h0 = some (3, 12, 0, 0)) (eb : ez_gi σ 12 h0 43 = some b) (ed : ez_ia σ 1 183 b = some d) (ev : z_X12_bit σ d (3 : Int32) = some v) (hv : ¬ v = 0) : tz_O2 (fun (z : Int32) (s : ez_H) => tq_iv (-2147483648) 2147483647 z ∧ tp p s) (z_X12_comes σ h0) := by
  have e0 : (0 : Int32).toInt = 0 := by decide
  have e1 : (1 : Int32).toInt = 1 := by decide
  have e126 : (126 : Int32).toInt = 126 := by decide
  have gb := gh_b hT.1
  have hbk : tz_O (tq_iv (p.1 2) (p.1 2)) (ez_gi σ 12 h0 43) := tz_gi hT k_h0 (tf_12_43 (p := p))
  have hb := tz_get hbk eb
  have hb : b.toInt = p.1 2 := by have := hb.1; have := hb.2; omega
  have hbn : (b.toInt.toNat : Int) = p.1 2 := by omega
  have hd := tz_get (ia_el hT tc_183 (i := b) (by omega) (by omega) (el_183 hbn)) ed
  have hd : d.toInt = p.1 8 := by have := hd.1; have := hd.2; omega
  have h3 : tb d 3 = true := by
    have h := tz_get (bitE (σ := σ) (x := d) (k := 3) tk_3 (by decide) (by decide)) ev
    have e3 : (3 : Int32).toInt.toNat = 3 := by decide
    rw [e3] at h
    cases q : tb d 3 with
    | true => rfl
    | false => exact absurd (h.2.mpr q) hv
  have h8 : p.1 8 / 8 % 2 = 1 := by rw [← hd]; exact (tb_8 d).mpr h3
  obtain ⟨q1, q2, q3, q4⟩ := hT.1.2.2.2.2.2.2 h8
  have hrd : ∀ s, tp p s → tz_O (fun x : Int32 => x.toInt = p.1 2) (ez_gi s 12 h0 43) := fun s hs => tz_imp (tz_gi (G := tz_Gp p) hs k_h0 (tf_12_43 (p := p))) (fun z hz => by have := hz.1; have := hz.2; show z.toInt = _; omega)
  unfold z_X12_comes
  refine tz_bd (tz_ob hT k_h0) (fun _ _ => ?_)
  refine tz_bk (tr_31 hT k_h0) ?_
  refine tz_bd (hrd σ hT) (fun t7 h7 => ?_)
  refine tz_bd (ia_el hT tc_193 (i := t7) (by omega) (by omega) (el_193 (by omega))) (fun t10 h10 => ?_)
  have h10 : t10.toInt = p.1 6 := by have := h10.1; have := h10.2; omega
  refine lpG (fun (k : ez_H → Nat → Int32 → Int32 → Option (Int32 × ez_H)) (a : ez_H × (Int32 × Int32)) => k a.1 h0 a.2.1 a.2.2) (fun a => tp p a.1 ∧ (0 ≤ a.2.1.toInt ∧ a.2.1.toInt ≤ 60) ∧ p.1 6 ≤ a.2.2.toInt ∧ tz_rp p.2 a.2.2.toInt.toNat (p.1 7 - a.2.2.toInt).toNat a.2.1.toInt.toNat) (fun a => (2147483647 - a.2.2.toInt).toNat) ?_ (σ, (0, t10)) ⟨hT, ⟨by show 0 ≤ (0 : Int32).toInt; omega, by show (0 : Int32).toInt ≤ 60; omega⟩, by show p.1 6 ≤ t10.toInt; omega, by show tz_rp p.2 t10.toInt.toNat (p.1 7 - t10.toInt).toNat (0 : Int32).toInt.toNat; rw [h10, e0]; exact q4⟩ (tq_m0 _)
  rintro k ⟨s, x1, x2⟩ ⟨hs, ⟨n1, n2⟩, x21, hrp⟩ hk
  have n1 : 0 ≤ x1.toInt := n1
  have n2 : x1.toInt ≤ 60 := n2
  have x21 : p.1 6 ≤ x2.toInt := x21
  have hrp : tz_rp p.2 x2.toInt.toNat (p.1 7 - x2.toInt).toNat x1.toInt.toNat := hrp
  have hs : tp p s := hs
  show tz_O _ (z_X12_comes_12 k s h0 x1 x2)
  unfold z_X12_comes_12
  refine tz_bk (tr_32 hs k_h0) ?_
  refine tz_bd (hrd s hs) (fun t18 h18 => ?_)
  refine tz_bd (ia_el hs tc_194 (i := t18) (by omega) (by omega) (el_194 (by omega))) (fun t21 h21 => ?_)
  have h21 : t21.toInt = p.1 7 := by have := h21.1; have := h21.2; omega
  refine tz_if _ (fun c => ?_) (fun c => ?_)
  · refine tz_bk (tr_42 hs k_h0) ?_
    refine tz_bd (tz_ia hs tc_204 (te_0 (p := p)) tk_0 (by decide) (by decide)) (fun t _ => ?_)
    exact tz_some ⟨tq_top t, hs⟩
  have c := nle_c c
  have hl : (p.1 7 - x2.toInt).toNat = (p.1 7 - (x2.toInt + 1)).toNat + 1 := by omega
  have hx : x2.toInt.toNat + 1 = (x2.toInt + 1).toNat := by omega
  rw [hl] at hrp
  unfold tz_rp at hrp
  rw [hx] at hrp
  have hgo : ∀ s y, tp p s → (0 ≤ y.toInt ∧ y.toInt ≤ 60) → tz_rp p.2 (x2.toInt + 1).toNat (p.1 7 - (x2.toInt + 1)).toNat y.toInt.toNat → tz_O (fun z : Int32 × ez_H => tq_iv (-2147483648) 2147483647 z.1 ∧ tp p z.2) (z_X12_comes_124 k s h0 y x2) := by
    intro s y hs hy hr
    unfold z_X12_comes_124
    refine tz_let (fun t e => ?_)
    have ht := tq_inc e (by omega) (by omega)
    exact hk (s, (y, t)) ⟨hs, hy, by show p.1 6 ≤ t.toInt; omega, by show tz_rp p.2 t.toInt.toNat (p.1 7 - t.toInt).toNat y.toInt.toNat; rw [ht]; exact hr⟩ (by show (2147483647 - t.toInt).toNat < (2147483647 - x2.toInt).toNat; omega)
  refine tz_bk (tr_38 hs k_h0) ?_
  refine tz_bd (ia_el hs tc_200 (i := x2) (by omega) (by omega) (el_200 (by omega) (by omega))) (fun t30 h30 => ?_)
  have h30 : t30.toInt = p.2 x2.toInt.toNat := by have := h30.1; have := h30.2; omega
  rw [← h30] at hrp
  refine tz_if _ (fun c2 => ?_) (fun c2 => ?_)
  · have c2 := eq_c c2
    have hr : 1 ≤ x1.toInt.toNat ∧ tz_rp p.2 (x2.toInt + 1).toNat (p.1 7 - (x2.toInt + 1)).toNat x1.toInt.toNat := by
      rcases hrp with h | h | h
      · exact h.2
      · exact absurd (by omega) h.1
      · exact absurd (by omega) h.1
    refine tz_bk (tr_42 hs k_h0) ?_
    refine tz_let (fun t44 e44 => ?_)
    have h44 : t44.toInt = x1.toInt - 1 := by rw [e44, tq_subT (a := 0) (b := 60) (c := 1) (d := 1) ⟨n1, n2⟩ tk_1 (by decide) (by decide), e1]
    refine tz_bk (tr_42 hs k_h0) ?_
    refine tz_let (fun t51 e51 => ?_)
    have h51 : t51.toInt = x1.toInt - 1 := by rw [e51, tq_subT (a := 0) (b := 60) (c := 1) (d := 1) ⟨n1, n2⟩ tk_1 (by decide) (by decide), e1]
    refine tz_bd (tz_ia hs tc_204 (te_0 (p := p)) (lo := 0) (hi := 59) ⟨by omega, by omega⟩ (by decide) (by decide)) (fun t52 _ => ?_)
    have K61 : ∀ y : Int32, tz_O (fun z : Int32 × ez_H => tq_iv (-2147483648) 2147483647 z.1 ∧ tp p z.2) (z_X12_comes_61 k s h0 x1 x2 204 t44 y) := by
      intro y
      unfold z_X12_comes_61
      refine tz_bd (tz_is hs tc_204 (te_0 (p := p)) (lo := 0) (hi := 59) ⟨by omega, by omega⟩ (by decide) (by decide) (tq_top y)) (fun s2 hs2 => ?_)
      exact hgo s2 x1 hs2 ⟨n1, n2⟩ hr.2
    exact tz_if _ (fun _ => K61 _) (fun _ => K61 _)
  have c2 := ne_c c2
  rw [e126] at c2
  refine tz_bd (isLetE (σ := s) (x := t30)) (fun t66 h66 => ?_)
  refine tz_if _ (fun c3 => ?_) (fun c3 => ?_)
  · have hn := h66.mp c3
    have hr : 2 ≤ x1.toInt.toNat ∧ tz_rp p.2 (x2.toInt + 1).toNat (p.1 7 - (x2.toInt + 1)).toNat (x1.toInt.toNat - 1) := by
      rcases hrp with h | h | h
      · exact absurd h.1 c2
      · exact absurd ⟨h.2.1, h.2.2.1⟩ hn
      · exact h.2.2
    refine tz_let (fun t95 e95 => ?_)
    have h95 : t95.toInt = x1.toInt - 1 := by
      rw [e95, tq_addT (a := 0) (b := 60) (c := -1) (d := -1) ⟨n1, n2⟩ tk_m1 (by decide) (by decide)]
      have : (-1 : Int32).toInt = -1 := by decide
      omega
    have n95 : tq_iv 1 59 t95 := ⟨by omega, by omega⟩
    refine tz_bk (tr_42 hs k_h0) ?_
    refine tz_let (fun t104 e104 => ?_)
    have n104 : tq_iv 0 58 t104 := tq_sub e104 n95 tk_1 (by decide) (by decide)
    refine tz_bk (tr_42 hs k_h0) ?_
    refine tz_let (fun t112 e112 => ?_)
    have n112 : tq_iv 0 58 t112 := tq_sub e112 n95 tk_1 (by decide) (by decide)
    refine tz_bd (tz_ia hs tc_204 (te_0 (p := p)) n112 (by decide) (by decide)) (fun t113 _ => ?_)
    refine tz_bk (tr_42 hs k_h0) ?_
    refine tz_bd (tz_ia hs tc_204 (te_0 (p := p)) n95 (by decide) (by decide)) (fun t119 _ => ?_)
    refine tz_bd (tz_X12_two hs) (fun t120 _ => ?_)
    refine tz_bd (tz_is hs tc_204 (te_0 (p := p)) n104 (by decide) (by decide) (tq_top t120)) (fun s2 hs2 => ?_)
    exact hgo s2 t95 hs2 ⟨by omega, by omega⟩ (by rw [h95, show (x1.toInt - 1).toNat = x1.toInt.toNat - 1 by omega]; exact hr.2)
  · have hn : 97 ≤ t30.toInt ∧ t30.toInt ≤ 122 := by
      by_cases q : 97 ≤ t30.toInt ∧ t30.toInt ≤ 122
      · exact q
      · exact absurd (h66.mpr q) c3
    have hr : x1.toInt.toNat < 60 ∧ tz_rp p.2 (x2.toInt + 1).toNat (p.1 7 - (x2.toInt + 1)).toNat (x1.toInt.toNat + 1) := by
      rcases hrp with h | h | h
      · exact absurd h.1 c2
      · exact h.2.2.2
      · exact absurd hn h.2.1
    refine tz_bk (tr_42 hs k_h0) ?_
    refine tz_bk (tr_39 hs k_h0) ?_
    refine tz_bd (tz_ia hs tc_201 (te_0 (p := p)) (lo := 0) (hi := 1119) ⟨by omega, by omega⟩ (by decide) (by decide)) (fun t84 _ => ?_)
    refine tz_bd (tz_X12_asked hs k_h0) (fun t85 _ => ?_)
    refine tz_bd (tz_is hs tc_204 (te_0 (p := p)) (lo := 0) (hi := 59) ⟨by omega, by omega⟩ (by decide) (by decide) (tq_top t85)) (fun s2 hs2 => ?_)
    refine tz_let (fun t89 e89 => ?_)
    have h89 := tq_inc e89 (by omega) (by omega)
    exact hgo s2 t89 hs2 ⟨by omega, by omega⟩ (by rw [h89, show (x1.toInt + 1).toNat = x1.toInt.toNat + 1 by omega]; exact hr.2)
set_option maxRecDepth 4000 in
theorem tz_X12_use {p : tz_P} {σ : ez_H} {h0 : Nat} {x1 : Int32} (hT : tp p σ) (k_h0 : tz_C h0 = some (3, 12, 0, 0)) (i_x1 : tq_iv 0 7 x1) : tz_O2 (fun (z : Unit) (s : ez_H) => tp p s) (z_X12_use σ h0 x1) := by
  show tz_O (fun z : Unit × ez_H => (fun (z : Unit) (s : ez_H) => tp p s) z.1 z.2) _
  unfold z_X12_use
  refine tz_bd (tz_ob hT k_h0) (fun _ _ => ?_)
  refine tz_bk (tr_53 hT k_h0) ?_
  refine tz_bk (tr_53 hT k_h0) ?_
  refine tz_be (tz_iaS hT tc_205 (ts_205 (p := p) 90 90 0 999 (by decide)) tk_90 (by decide) (by decide)) (fun t_15 e7697 i_t_15 => ?_)
  refine tz_let (fun t_16 e7696 => ?_)
  have i1_t_16 : tq_iv 0 136863 t_16 := tq_w (tq_mul e7696 tk_137 i_t_15 (by decide) (by decide) (by decide)) (by decide) (by decide)
  refine tz_let (fun t_19 e7695 => ?_)
  have i2_t_19 : tq_iv 71 136934 t_19 := tq_w (tq_add e7695 i1_t_16 tk_71 (by decide) (by decide)) (by decide) (by decide)
  refine tz_nz (tq_nz tk_1000 (by decide)) ?_
  refine tz_let (fun t_23 e7693 => ?_)
  have i3_t_23 : tq_iv 0 999 t_23 := tq_rem2 e7693 i2_t_19 tk_1000 (by decide) (by decide)
  refine tz_be (tz_isS hT tc_205 (tS_205 (p := p) 90 90 0 999 (by decide)) tk_90 (by decide) (by decide) i3_t_23) (fun σ7692 e7692 T7692 => ?_)
  refine tz_bk (tr_53 T7692 k_h0) ?_
  refine tz_be (tz_iaS T7692 tc_205 (ts_205 (p := p) 90 90 0 999 (by decide)) tk_90 (by decide) (by decide)) (fun t_31 e7690 i_t_31 => ?_)
  refine tz_bd (tz_X12_wide T7692 k_h0) (fun t_33 i_t_33 => ?_)
  refine tz_nz (tq_nz i_t_33 (by decide)) ?_
  refine tz_let (fun t_36 e7687 => ?_)
  have i4_t_36 : tq_iv 0 4 t_36 := tq_rem2 e7687 i_t_31 i_t_33 (by decide) (by decide)
  refine tz_bd (tz_X12_cutOf T7692 k_h0 i_x1 i4_t_36) (fun t_42 i_t_42 => ?_)
  refine tz_be (tw_12_49 T7692 k_h0 (tq_top t_42)) (fun σ7685 e7685 T7685 => ?_)
  refine tz_be (tw_12_50 T7685 k_h0 (tq_top (-1 : Int32))) (fun σ7684 e7684 T7684 => ?_)
  have K_69 : ∀ (σ_69 : ez_H), tp p σ_69 → tz_O (fun z : Unit × ez_H => (fun (z : Unit) (s : ez_H) => tp p s) z.1 z.2) (z_X12_use_69 σ_69 h0 x1 t_36) := by
    intro σ_69 T_σ_69
    unfold z_X12_use_69
    refine tz_bd (tz_X12_wide T_σ_69 k_h0) (fun t_71 i_t_71 => ?_)
    refine tz_let (fun t_75 e7676 => ?_)
    have i5_t_75 : tq_iv 1 4 t_75 := tq_w (tq_sub e7676 i_t_71 tk_1 (by decide) (by decide)) (by decide) (by decide)
    have K_106 : ∀ (σ_106 : ez_H), tp p σ_106 → tz_O (fun z : Unit × ez_H => (fun (z : Unit) (s : ez_H) => tp p s) z.1 z.2) (z_X12_use_106 σ_106 h0 x1 t_36) := by
      intro σ_106 T_σ_106
      unfold z_X12_use_106
      refine tz_bk (tr_53 T_σ_106 k_h0) ?_
      refine tz_let (fun t_114 e7663 => ?_)
      have i6_t_114 : tq_iv 40 47 t_114 := tq_w (tq_add e7663 tk_40 i_x1 (by decide) (by decide)) (by decide) (by decide)
      refine tz_be (tz_iaS T_σ_106 tc_205 (ts_205 (p := p) 40 47 (-2147483648) 2147483647 (by decide)) i6_t_114 (by decide) (by decide)) (fun t_115 e7662 i_t_115 => ?_)
      refine tz_be (tw_12_51 T_σ_106 k_h0 (tq_top t_115)) (fun σ7661 e7661 T7661 => ?_)
      refine tz_be (tw_12_52 T7661 k_h0 (tq_top t_36)) (fun σ7660 e7660 T7660 => ?_)
      refine tz_bk (tr_21 T7660 k_h0) ?_
      refine tz_be (tg_12_43 T7660 k_h0) (fun t_129 e7658 i_t_129 => ?_)
      refine tz_be (tz_iaT (G := tz_Gp p) T7660 tc_183 i_t_129 (by decide) (by decide)) (fun t_132 e7657 i_t_132 => ?_)
      refine tz_be (tz_X12_bit T7660) (fun t_134 b_t_134 i_t_134 => ?_)
      have K_148 : ∀ (σ_148 : ez_H) (y0_148 : Int32), tp p σ_148 → tz_O (fun z : Unit × ez_H => (fun (z : Unit) (s : ez_H) => tp p s) z.1 z.2) (z_X12_use_148 σ_148 h0 x1 t_36 y0_148) := by
        intro σ_148 y0_148 T_σ_148
        unfold z_X12_use_148
        refine tz_bk (tr_53 T_σ_148 k_h0) ?_
        refine tz_be (tz_iaS T_σ_148 tc_205 (ts_205 (p := p) 90 90 0 999 (by decide)) tk_90 (by decide) (by decide)) (fun t_155 e7650 i_t_155 => ?_)
        refine tz_nz (tq_nz tk_10 (by decide)) ?_
        refine tz_let (fun t_158 e7648 => ?_)
        have i7_t_158 : tq_iv 0 999 t_158 := tq_div e7648 i_t_155 tk_10 (by decide) (by decide)
        have K_170 : ∀ (σ_170 : ez_H), tp p σ_170 → tz_O (fun z : Unit × ez_H => (fun (z : Unit) (s : ez_H) => tp p s) z.1 z.2) (z_X12_use_170 σ_170 h0 x1) := by
          intro σ_170 T_σ_170
          unfold z_X12_use_170
          refine tz_bk (tr_53 T_σ_170 k_h0) ?_
          refine tz_let (fun t_177 e7642 => ?_)
          have i8_t_177 : tq_iv 40 47 t_177 := tq_w (tq_add e7642 tk_40 i_x1 (by decide) (by decide)) (by decide) (by decide)
          refine tz_be (tz_iaS T_σ_170 tc_205 (ts_205 (p := p) 40 47 (-2147483648) 2147483647 (by decide)) i8_t_177 (by decide) (by decide)) (fun t_179 e7641 i_t_179 => ?_)
          refine tz_let (fun t_181 e7640 => ?_)
          refine tz_be (tz_isS T_σ_170 tc_205 (tS_205 (p := p) 40 47 (-2147483648) 2147483647 (by decide)) i8_t_177 (by decide) (by decide) (tq_top t_181)) (fun σ7639 e7639 T7639 => ?_)
          exact tz_some T7639
        refine tz_if _ (fun c7647 => ?_) (fun c7647 => ?_)
        ·
          have i9_y0_148 : tq_iv (-2147483648) 999 y0_148 := tq_cut (tq_top y0_148) (tq_leL c7647 (tq_top y0_148) i7_t_158) (by decide) (by decide)
          exact K_170 σ_148 T_σ_148
        ·
          have i10_y0_148 : tq_iv 1 2147483647 y0_148 := tq_cut (tq_top y0_148) (tq_ltR (tq_nle c7647) i7_t_158 (tq_top y0_148)) (by decide) (by decide)
          refine tz_b2 (tz_X12_deepen T_σ_148 k_h0 i_x1 i4_t_36) (fun t_166 σ7646 ⟨i_t_166, T7646⟩ => ?_)
          exact K_170 σ7646 T7646
      refine tz_if _ (fun c7655 => ?_) (fun c7655 => ?_)
      ·
        have i11_t_134 : tq_iv 0 0 t_134 := tq_cut i_t_134 (tq_eqL c7655 tk_0) (by decide) (by decide)
        exact K_148 σ7660 (0 : Int32) T7660
      ·
        have i12_t_134 : tq_iv 1 1 t_134 := tq_w (tq_neLo c7655 i_t_134 tk_0) (by decide) (by decide)
        refine tz_b2 (tz_X12_comes T7660 k_h0 e7658 e7657 b_t_134 c7655) (fun t_141 σ7654 ⟨i_t_141, T7654⟩ => ?_)
        exact K_148 σ7654 t_141 T7654
    refine tz_if _ (fun c7675 => ?_) (fun c7675 => ?_)
    ·
      have i13_t_36 : tq_iv 1 4 t_36 := tq_cut i4_t_36 (tq_leR c7675 i5_t_75 i4_t_36) (by decide) (by decide)
      exact K_106 σ_69 T_σ_69
    ·
      have i14_t_36 : tq_iv 0 3 t_36 := tq_cut i4_t_36 (tq_ltL (tq_nle c7675) i4_t_36 i5_t_75) (by decide) (by decide)
      refine tz_let (fun t_83 e7674 => ?_)
      have i15_t_83 : tq_iv 1 4 t_83 := tq_w (tq_add e7674 i14_t_36 tk_1 (by decide) (by decide)) (by decide) (by decide)
      refine tz_bd (tz_X12_cutOf T_σ_69 k_h0 i_x1 (tq_w i15_t_83 (by decide) (by decide))) (fun t_84 i_t_84 => ?_)
      refine tz_be (tg_12_50 T_σ_69 k_h0) (fun t_88 e7672 i_t_88 => ?_)
      refine tz_if _ (fun c7671 => ?_) (fun c7671 => ?_)
      ·
        exact K_106 σ_69 T_σ_69
      ·
        have i16_t_88 : tq_iv (-2147483648) 2147483646 t_88 := tq_cut (tq_top t_88) (tq_ltL (tq_nle c7671) (tq_top t_88) (tq_top t_84)) (by decide) (by decide)
        have i17_t_84 : tq_iv (-2147483647) 2147483647 t_84 := tq_cut (tq_top t_84) (tq_ltR (tq_nle c7671) (tq_top t_88) (tq_top t_84)) (by decide) (by decide)
        refine tz_let (fun t_99 e7670 => ?_)
        have i18_t_99 : tq_iv 1 4 t_99 := tq_w (tq_add e7670 i14_t_36 tk_1 (by decide) (by decide)) (by decide) (by decide)
        refine tz_bd (tz_X12_cutOf T_σ_69 k_h0 i_x1 (tq_w i18_t_99 (by decide) (by decide))) (fun t_100 i_t_100 => ?_)
        refine tz_be (tw_12_50 T_σ_69 k_h0 (tq_top t_100)) (fun σ7668 e7668 T7668 => ?_)
        exact K_106 σ7668 T7668
  refine tz_if _ (fun c7683 => ?_) (fun c7683 => ?_)
  ·
    have i19_t_36 : tq_iv 0 0 t_36 := tq_cut i4_t_36 (tq_leL c7683 i4_t_36 tk_0) (by decide) (by decide)
    exact K_69 σ7684 T7684
  ·
    have i20_t_36 : tq_iv 1 4 t_36 := tq_cut i4_t_36 (tq_ltR (tq_nle c7683) tk_0 i4_t_36) (by decide) (by decide)
    refine tz_let (fun t_62 e7682 => ?_)
    have i21_t_62 : tq_iv 0 3 t_62 := tq_w (tq_sub e7682 i20_t_36 tk_1 (by decide) (by decide)) (by decide) (by decide)
    refine tz_bd (tz_X12_cutOf T7684 k_h0 i_x1 (tq_w i21_t_62 (by decide) (by decide))) (fun t_63 i_t_63 => ?_)
    refine tz_be (tw_12_50 T7684 k_h0 (tq_top t_63)) (fun σ7680 e7680 T7680 => ?_)
    exact K_69 σ7680 T7680
set_option maxRecDepth 4000 in
theorem tz_X12_lasts {p : tz_P} {σ : ez_H} {h0 : Nat} {x1 : Int32} {x2 : Int32} (hT : tp p σ) (k_h0 : tz_C h0 = some (3, 12, 0, 0)) : tz_O2 (fun (z : Int32) (s : ez_H) => tq_iv (-1) 200 z ∧ tp p s) (z_X12_lasts σ h0 x1 x2) := by
  show tz_O (fun z : Int32 × ez_H => (fun (z : Int32) (s : ez_H) => tq_iv (-1) 200 z ∧ tp p s) z.1 z.2) _
  unfold z_X12_lasts
  refine tz_bd (tz_ob hT k_h0) (fun _ _ => ?_)
  refine tz_bd (tz_X12_isKey hT k_h0) (fun t_2 ⟨i_t_2, g_t_2⟩ => ?_)
  have K_16 : tz_O (fun z : Int32 × ez_H => (fun (z : Int32) (s : ez_H) => tq_iv (-1) 200 z ∧ tp p s) z.1 z.2) (z_X12_lasts_16 σ) := by
    unfold z_X12_lasts_16
    exact tz_some ⟨(tq_w tk_m1 (by decide) (by decide)), hT⟩
  refine tz_if _ (fun c7721 => ?_) (fun c7721 => ?_)
  ·
    have i1_t_2 : tq_iv 0 0 t_2 := tq_cut i_t_2 (tq_eqL c7721 tk_0) (by decide) (by decide)
    exact K_16 
  ·
    have i2_x1 : tq_iv 0 7 x1 := tq_cut (tq_top x1) (g_t_2 c7721) (by decide) (by decide)
    have i3_t_2 : tq_iv 1 1 t_2 := tq_w (tq_neLo c7721 i_t_2 tk_0) (by decide) (by decide)
    refine tz_bd (tz_X12_isLock hT k_h0) (fun t_10 ⟨i_t_10, g_t_10⟩ => ?_)
    refine tz_if _ (fun c7719 => ?_) (fun c7719 => ?_)
    ·
      have i4_t_10 : tq_iv 0 0 t_10 := tq_cut i_t_10 (tq_eqL c7719 tk_0) (by decide) (by decide)
      exact K_16 
    ·
      have i5_x2 : tq_iv 0 5 x2 := tq_cut (tq_top x2) (g_t_10 c7719) (by decide) (by decide)
      have i6_t_10 : tq_iv 1 1 t_10 := tq_w (tq_neLo c7719 i_t_10 tk_0) (by decide) (by decide)
      refine tz_b2 (tz_X12_keepNow hT k_h0) (fun _ σ7718 T7718 => ?_)
      have L_24 : ∀ (n_24 : Nat) (k_24 : ez_H → Nat → Int32 → Int32 → Int32 → Option (Int32 × ez_H)), (∀ (σ_24 : ez_H) (x3_24 : Int32), tp p σ_24 → tq_iv 0 201 x3_24 → (2147483647 - x3_24.toInt).toNat < n_24 → tz_O (fun z : Int32 × ez_H => (fun (z : Int32) (s : ez_H) => tq_iv (-1) 200 z ∧ tp p s) z.1 z.2) (k_24 σ_24 h0 x1 x2 x3_24)) → ∀ (σ_24 : ez_H) (x3_24 : Int32), tp p σ_24 → tq_iv 0 201 x3_24 → (2147483647 - x3_24.toInt).toNat < n_24 + 1 → tz_O (fun z : Int32 × ez_H => (fun (z : Int32) (s : ez_H) => tq_iv (-1) 200 z ∧ tp p s) z.1 z.2) (z_X12_lasts_24 k_24 σ_24 h0 x1 x2 x3_24) := by
        intro n_24 k_24 hk_24 σ_24 x3_24 T_σ_24 i_x3_24 hn_24
        unfold z_X12_lasts_24
        have K_51 : tz_O (fun z : Int32 × ez_H => (fun (z : Int32) (s : ez_H) => tq_iv (-1) 200 z ∧ tp p s) z.1 z.2) (z_X12_lasts_51 σ_24 h0 x3_24) := by
          unfold z_X12_lasts_51
          refine tz_b2 (tz_X12_bringBack T_σ_24 k_h0) (fun _ σ7706 T7706 => ?_)
          have K_67 : ∀ (y0_67 : Int32), tq_iv (-1) 200 y0_67 → tz_O (fun z : Int32 × ez_H => (fun (z : Int32) (s : ez_H) => tq_iv (-1) 200 z ∧ tp p s) z.1 z.2) (z_X12_lasts_67 σ7706 y0_67) := by
            intro y0_67 i_y0_67
            unfold z_X12_lasts_67
            exact tz_some ⟨i_y0_67, T7706⟩
          refine tz_if _ (fun c7705 => ?_) (fun c7705 => ?_)
          ·
            have i7_x3_24 : tq_iv 201 201 x3_24 := tq_cut i_x3_24 (tq_ltR c7705 tk_200 i_x3_24) (by decide) (by decide)
            exact K_67 (-1 : Int32) (tq_w tk_m1 (by decide) (by decide))
          ·
            have i8_x3_24 : tq_iv 0 200 x3_24 := tq_cut i_x3_24 (tq_leL (tq_nlt c7705) i_x3_24 tk_200) (by decide) (by decide)
            exact K_67 x3_24 (tq_w i8_x3_24 (by decide) (by decide))
        refine tz_if _ (fun c7714 => ?_) (fun c7714 => ?_)
        ·
          have i9_x3_24 : tq_iv 201 201 x3_24 := tq_cut i_x3_24 (tq_ltR c7714 tk_200 i_x3_24) (by decide) (by decide)
          exact K_51 
        ·
          have i10_x3_24 : tq_iv 0 200 x3_24 := tq_cut i_x3_24 (tq_leL (tq_nlt c7714) i_x3_24 tk_200) (by decide) (by decide)
          refine tz_bd (tz_X12_opensBy T_σ_24 k_h0 i2_x1 i5_x2) (fun t_34 i_t_34 => ?_)
          refine tz_if _ (fun c7712 => ?_) (fun c7712 => ?_)
          ·
            have i11_t_34 : tq_iv 0 0 t_34 := tq_cut i_t_34 (tq_eqL c7712 tk_0) (by decide) (by decide)
            exact K_51 
          ·
            have i12_t_34 : tq_iv 1 1 t_34 := tq_w (tq_neLo c7712 i_t_34 tk_0) (by decide) (by decide)
            refine tz_b2 (tz_X12_use T_σ_24 k_h0 i2_x1) (fun _ σ7711 T7711 => ?_)
            refine tz_let (fun t_45 e7710 => ?_)
            have i13_t_45 : tq_iv 1 201 t_45 := tq_w (tq_add e7710 i10_x3_24 tk_1 (by decide) (by decide)) (by decide) (by decide)
            exact hk_24 σ7711 t_45 T7711 (tq_w i13_t_45 (by decide) (by decide)) (tq_up e7710 i10_x3_24 tk_1 (by decide) (by decide) hn_24)
      have E_24 : ∀ (σ_24 : ez_H) (x3_24 : Int32), tp p σ_24 → tq_iv 0 201 x3_24 → tz_O (fun z : Int32 × ez_H => (fun (z : Int32) (s : ez_H) => tq_iv (-1) 200 z ∧ tp p s) z.1 z.2) (ez_fix (fun _ _ _ _ _ => none) (z_X12_lasts_24) ez_N σ_24 h0 x1 x2 x3_24) := by
        intro σ_24 x3_24 T_σ_24 i_x3_24
        exact ez_fix_indn (fun n_24 (k_24 : ez_H → Nat → Int32 → Int32 → Int32 → Option (Int32 × ez_H)) => ∀ (σ_24 : ez_H) (x3_24 : Int32), tp p σ_24 → tq_iv 0 201 x3_24 → (2147483647 - x3_24.toInt).toNat < n_24 → tz_O (fun z : Int32 × ez_H => (fun (z : Int32) (s : ez_H) => tq_iv (-1) 200 z ∧ tp p s) z.1 z.2) (k_24 σ_24 h0 x1 x2 x3_24)) (by intros; rename_i h; exact absurd h (Nat.not_lt_zero _)) L_24 ez_N σ_24 x3_24 T_σ_24 i_x3_24 (tq_m0 x3_24)
      exact E_24 σ7718 (0 : Int32) T7718 (tq_w tk_0 (by decide) (by decide))
theorem tz_X12_later {p : tz_P} {σ : ez_H} {h0 : Nat} {x1 : Int32} (hT : tp p σ) (k_h0 : tz_C h0 = some (3, 12, 0, 0)) : tz_O2 (fun (z : Int32) (s : ez_H) => z.toInt = lA (p.1 1) x1 ∧ tp (up p 1 (lT (p.1 1) x1)) s) (z_X12_later σ h0 x1) := by
  have e0 : (0 : Int32).toInt = 0 := by decide
  have e1 : (1000 : Int32).toInt = 1000 := by decide
  have e2 : (100000 : Int32).toInt = 100000 := by decide
  have K : ¬ (0 ≤ x1.toInt ∧ x1.toInt ≤ 1000 ∧ p.1 1 + x1.toInt ≤ 100000) → tz_O (fun z : Int32 × ez_H => z.1.toInt = lA (p.1 1) x1 ∧ tp (up p 1 (lT (p.1 1) x1)) z.2) (z_X12_later_23 σ) := by
    intro h
    unfold z_X12_later_23
    refine tz_some ⟨?_, ?_⟩
    · show (-1 : Int32).toInt = _
      unfold lA
      rw [if_neg h]
      decide
    · unfold lT
      rw [if_neg h, up_id]
      exact hT
  have hg := hT.1.2.1
  unfold z_X12_later
  refine tz_bd (tz_ob hT k_h0) (fun _ _ => ?_)
  have hin : tz_O (fun z => (z = 0 → ¬ (0 ≤ x1.toInt ∧ x1.toInt ≤ 1000)) ∧ (¬ z = 0 → 0 ≤ x1.toInt ∧ x1.toInt ≤ 1000)) (z_X12_isIn σ x1 0 1000) := by
    unfold z_X12_isIn
    refine tz_if _ (fun c => ?_) (fun c => ?_)
    · have c := lt_c c
      exact tz_some ⟨fun _ => by omega, fun h => absurd rfl h⟩
    · have c := nlt_c c
      refine tz_if _ (fun c => ?_) (fun c => ?_)
      · have c := lt_c c
        exact tz_some ⟨fun _ => by omega, fun h => absurd rfl h⟩
      · have c := nlt_c c
        exact tz_some ⟨fun h => absurd h (by decide), fun _ => by omega⟩
  refine tz_bd hin (fun t5 h5 => ?_)
  refine tz_if _ (fun c => K (by have := h5.1 c; omega)) (fun c => ?_)
  obtain ⟨c, c2⟩ := h5.2 c
  refine tz_be (tz_gi hT k_h0 (tf_12_67 (p := p))) (fun t ht it => ?_)
  obtain ⟨i1, i2⟩ := it
  refine tz_let (fun u hu => ?_)
  have hu : u.toInt = t.toInt + x1.toInt := by
    rw [hu]
    exact tq_addT (a := 0) (b := 100000) (c := 0) (d := 1000) ⟨by omega, by omega⟩ ⟨by omega, by omega⟩ (by decide) (by decide)
  refine tz_if _ (fun c3 => ?_) (fun c => K (by have := nle_c c; omega))
  have c3 := le_c c3
  refine tz_bk ht ?_
  refine tz_let (fun w hw => ?_)
  have hw : w.toInt = t.toInt + x1.toInt := by
    rw [hw]
    exact tq_addT (a := 0) (b := 100000) (c := 0) (d := 1000) ⟨by omega, by omega⟩ ⟨by omega, by omega⟩ (by decide) (by decide)
  have hw2 : w.toInt = p.1 1 + x1.toInt := by omega
  refine tz_be (tz_up1 hT k_h0 hw2 (by omega) (by omega)) (fun s es hs => ?_)
  refine tz_bk (fr_pf_gi es) ?_
  refine tz_some ⟨?_, ?_⟩
  · show w.toInt = _
    unfold lA
    rw [if_pos (by omega)]
    omega
  · unfold lT
    rw [if_pos (by omega)]
    exact hs
theorem tq_div0 {y : Int32} (h : tq_iv 2 6 y) : (0 : Int32) / y = 0 ∧ (0 : Int32) - 0 / y * y = 0 := by
  have h1 := tq_divT (x := 0) (y := y) (a := 0) (b := 0) (c := 2) (d := 6) ⟨by decide, by decide⟩ h (by decide) (by decide)
  have h2 := tq_remT (x := 0) (y := y) (a := 0) (b := 0) (c := 2) (d := 6) ⟨by decide, by decide⟩ h (by decide) (by decide)
  have z0 : (0 : Int32).toInt = 0 := by decide
  rw [z0] at h1 h2
  exact ⟨Int32.toInt_inj.mp (by rw [h1, z0, Int.zero_ediv]), Int32.toInt_inj.mp (by rw [h2, z0, Int.zero_emod])⟩
theorem tz_legal0 {p : tz_P} {σ : ez_H} {h0 : Nat} {x1 x2 : Int32} (hT : tp p σ) (k_h0 : tz_C h0 = some (3, 12, 0, 0)) (e0 : x1 = 0) (i2 : tq_iv 0 5 x2) : tz_O (fun z => z = 1) (z_X12_isLegalBy σ h0 x1 x2) := by
  subst e0
  have L : ∀ (n : Nat) (k : Nat → Int32 → Int32 → Int32 → Int32 → Option Int32), (∀ x3 x4 x5 : Int32, x3 = 0 → x4 = 0 → (2147483647 - x5.toInt).toNat < n → tz_O (fun z => z = 1) (k h0 x2 x3 x4 x5)) → ∀ x3 x4 x5 : Int32, x3 = 0 → x4 = 0 → (2147483647 - x5.toInt).toNat < n + 1 → tz_O (fun z => z = 1) (z_X12_isLegalBy_13 σ k h0 x2 x3 x4 x5) := by
    intro n k hk x3 x4 x5 h3 h4 hn
    subst h3 h4
    unfold z_X12_isLegalBy_13
    refine tz_bd (tz_X12_wide hT k_h0) (fun t16 i16 => ?_)
    refine tz_if _ (fun _ => tz_some rfl) (fun c => ?_)
    rw [Int32.le_iff_toInt_le] at c
    refine tz_bd (tz_X12_deep hT k_h0) (fun t24 i24 => ?_)
    refine tz_nz (tq_nz i24 (by decide)) ?_
    refine tz_let (fun t27 e27 => ?_)
    rw [(tq_div0 i24).1] at e27
    subst e27
    refine tz_bd (tz_X12_deep hT k_h0) (fun t31 i31 => ?_)
    refine tz_nz (tq_nz i31 (by decide)) ?_
    refine tz_let (fun t34 e34 => ?_)
    rw [(tq_div0 i31).2] at e34
    subst e34
    refine tz_let (fun t37 e37 => ?_)
    have e37 : t37 = 0 := e37
    subst e37
    have ea : z_X12_absolute σ 0 = some 0 := by
      unfold z_X12_absolute
      rfl
    refine tz_bk ea ?_
    refine tz_if _ (fun _ => ?_) (fun c2 => ?_)
    · refine tz_bd (tz_X12_deep hT k_h0) (fun t49 i49 => ?_)
      refine tz_nz (tq_nz i49 (by decide)) ?_
      refine tz_let (fun t52 e52 => ?_)
      rw [(tq_div0 i49).2] at e52
      refine tz_let (fun t55 e55 => ?_)
      have h16 := i16.2
      exact hk 0 t52 t55 rfl e52 (tq_up e55 (a := -2147483648) (b := 4) ⟨(tq_top x5).1, by omega⟩ tk_1 (by decide) (by decide) hn)
    · rw [Int32.le_iff_toInt_le] at c2
      have z0 : (0 : Int32).toInt = 0 := by decide
      have := i2.1
      omega
  unfold z_X12_isLegalBy
  refine tz_bd (tz_ob hT k_h0) (fun _ _ => ?_)
  refine tz_bd (tz_X12_deep hT k_h0) (fun t4 i4 => ?_)
  refine tz_nz (tq_nz i4 (by decide)) ?_
  refine tz_let (fun t7 e7 => ?_)
  rw [(tq_div0 i4).2] at e7
  exact ez_fix_indn (fun n (k : Nat → Int32 → Int32 → Int32 → Int32 → Option Int32) => ∀ x3 x4 x5 : Int32, x3 = 0 → x4 = 0 → (2147483647 - x5.toInt).toNat < n → tz_O (fun z => z = 1) (k h0 x2 x3 x4 x5)) (by intros; rename_i h; exact absurd h (Nat.not_lt_zero _)) L ez_N 0 t7 1 rfl e7 (tq_m0 _)
theorem tz_X12_manyLegal {p : tz_P} {σ : ez_H} {h0 : Nat} {x1 : Int32} (hT : tp p σ) (k_h0 : tz_C h0 = some (3, 12, 0, 0)) (i1 : tq_iv 0 5 x1) : tz_O (fun z => tq_iv 1 2147483647 z) (z_X12_manyLegal σ h0 x1) := by
  have L : ∀ (n : Nat) (k : Nat → Int32 → Int32 → Int32 → Option Int32), (∀ x2 x3 : Int32, 0 ≤ x2.toInt → x2.toInt ≤ x3.toInt → x3.toInt ≤ 7776 → (1 ≤ x3.toInt → 1 ≤ x2.toInt) → (2147483647 - x3.toInt).toNat < n → tz_O (fun z => tq_iv 1 2147483647 z) (k h0 x1 x2 x3)) → ∀ x2 x3 : Int32, 0 ≤ x2.toInt → x2.toInt ≤ x3.toInt → x3.toInt ≤ 7776 → (1 ≤ x3.toInt → 1 ≤ x2.toInt) → (2147483647 - x3.toInt).toNat < n + 1 → tz_O (fun z => tq_iv 1 2147483647 z) (z_X12_manyLegal_4 σ k h0 x1 x2 x3) := by
    intro n k hk x2 x3 h1 h2 h3 h4 hn
    unfold z_X12_manyLegal_4
    refine tz_bd (tz_X12_bittings hT k_h0) (fun t6 i6 => ?_)
    have c1 := i6.1
    have c2 := i6.2
    refine tz_if _ (fun c => ?_) (fun c => ?_)
    · rw [Int32.le_iff_toInt_le] at c
      exact tz_some ⟨h4 (by omega), (tq_top x2).2⟩
    rw [Int32.le_iff_toInt_le] at c
    have K : ∀ y : Int32, 1 ≤ y.toInt → y.toInt ≤ x3.toInt + 1 → tz_O (fun z => tq_iv 1 2147483647 z) (z_X12_manyLegal_24 σ k h0 x1 y x3) := by
      intro y hy1 hy2
      unfold z_X12_manyLegal_24
      refine tz_let (fun t e => ?_)
      have ht : t.toInt = x3.toInt + 1 := by
        rw [e]
        exact tq_addT (a := 0) (b := 7776) (c := 1) (d := 1) ⟨by omega, by omega⟩ tk_1 (by decide) (by decide)
      exact hk y t (by omega) (by omega) (by omega) (fun _ => hy1) (by omega)
    have hB : tz_O (fun z => x3.toInt = 0 → z = 1) (z_X12_isLegalBy σ h0 x3 x1) := by
      by_cases q : x3.toInt = 0
      · exact tz_imp (tz_legal0 hT k_h0 (Int32.toInt_inj.mp (by rw [q]; decide)) i1) (fun z hz _ => hz)
      · exact tz_imp (tz_X12_isLegalBy hT k_h0 ⟨by omega, by omega⟩ i1) (fun z _ h => absurd h q)
    refine tz_bd hB (fun t15 h15 => ?_)
    refine tz_if _ (fun c5 => ?_) (fun _ => ?_)
    · have : ¬ x3.toInt = 0 := fun q => by
        have e := h15 q
        rw [e] at c5
        exact absurd c5 (by decide)
      exact K x2 (h4 (by omega)) (by omega)
    · refine tz_let (fun t21 e => ?_)
      have ht : t21.toInt = x2.toInt + 1 := by
        rw [e]
        exact tq_addT (a := 0) (b := 7776) (c := 1) (d := 1) ⟨by omega, by omega⟩ tk_1 (by decide) (by decide)
      exact K t21 (by omega) (by omega)
  unfold z_X12_manyLegal
  refine tz_bd (tz_ob hT k_h0) (fun _ _ => ?_)
  exact ez_fix_indn (fun n (k : Nat → Int32 → Int32 → Int32 → Option Int32) => ∀ x2 x3 : Int32, 0 ≤ x2.toInt → x2.toInt ≤ x3.toInt → x3.toInt ≤ 7776 → (1 ≤ x3.toInt → 1 ≤ x2.toInt) → (2147483647 - x3.toInt).toNat < n → tz_O (fun z => tq_iv 1 2147483647 z) (k h0 x1 x2 x3)) (by intros; rename_i h; exact absurd h (Nat.not_lt_zero _)) L ez_N 0 0 (by decide) (by decide) (by decide) (fun h => absurd h (by decide)) (tq_m0 _)
set_option maxRecDepth 4000 in
theorem tz_X12_law {p : tz_P} {σ : ez_H} {h0 : Nat} {x1 : Int32} (hT : tp p σ) (k_h0 : tz_C h0 = some (3, 12, 0, 0)) : tz_O (fun z => tq_iv (-1) 2147483647 z) (z_X12_law σ h0 x1) := by
  unfold z_X12_law
  refine tz_bd (tz_ob hT k_h0) (fun _ _ => ?_)
  refine tz_bd (tz_X12_isIn hT) (fun t_3 ⟨i_t_3, g_t_3⟩ => ?_)
  have K_18 : ∀ (y0_18 : Int32), tq_iv (-1) 2147483647 y0_18 → tz_O (fun (z : Int32) => tq_iv (-1) 2147483647 z) (z_X12_law_18 σ y0_18) := by
    intro y0_18 i_y0_18
    unfold z_X12_law_18
    exact tz_some i_y0_18
  refine tz_if _ (fun c7754 => ?_) (fun c7754 => ?_)
  ·
    have i1_t_3 : tq_iv 0 0 t_3 := tq_cut i_t_3 (tq_eqL c7754 tk_0) (by decide) (by decide)
    exact K_18 (-1 : Int32) (tq_w tk_m1 (by decide) (by decide))
  ·
    have i2_x1 : tq_iv 0 5 x1 := tq_cut (tq_top x1) (tq_cut (lo := 0) (hi := 5) (tq_cut (lo := 0) (hi := 2147483647) (tq_top x1) (tq_leR (g_t_3 c7754).1 tk_0 (tq_top x1)) (by decide) (by decide)) (tq_leL (g_t_3 c7754).2 (tq_top x1) tk_5) (by decide) (by decide)) (by decide) (by decide)
    have i3_t_3 : tq_iv 1 1 t_3 := tq_w (tq_neLo c7754 i_t_3 tk_0) (by decide) (by decide)
    refine tz_bd (tz_X12_manyLegal hT k_h0 i2_x1) (fun t_11 i_t_11 => ?_)
    exact K_18 t_11 (tq_w i_t_11 (by decide) (by decide))
set_option maxRecDepth 4000 in
theorem tz_X12_leftOver {p : tz_P} {σ : ez_H} {h0 : Nat} {x1 : Int32} (hT : tp p σ) (k_h0 : tz_C h0 = some (3, 12, 0, 0)) : tz_O2 (fun (z : Int32) (s : ez_H) => tq_iv (-1) 63 z ∧ tp p s) (z_X12_leftOver σ h0 x1) := by
  show tz_O (fun z : Int32 × ez_H => (fun (z : Int32) (s : ez_H) => tq_iv (-1) 63 z ∧ tp p s) z.1 z.2) _
  unfold z_X12_leftOver
  refine tz_bd (tz_ob hT k_h0) (fun _ _ => ?_)
  refine tz_bd (tz_X12_isKey hT k_h0) (fun t_2 ⟨i_t_2, g_t_2⟩ => ?_)
  refine tz_if _ (fun c7779 => ?_) (fun c7779 => ?_)
  ·
    have i1_t_2 : tq_iv 0 0 t_2 := tq_cut i_t_2 (tq_eqL c7779 tk_0) (by decide) (by decide)
    exact tz_some ⟨(tq_w tk_m1 (by decide) (by decide)), hT⟩
  ·
    have i2_x1 : tq_iv 0 7 x1 := tq_cut (tq_top x1) (g_t_2 c7779) (by decide) (by decide)
    have i3_t_2 : tq_iv 1 1 t_2 := tq_w (tq_neLo c7779 i_t_2 tk_0) (by decide) (by decide)
    refine tz_b2 (tz_X12_keepNow hT k_h0) (fun _ σ7778 T7778 => ?_)
    have L_18 : ∀ (n_18 : Nat) (k_18 : ez_H → Nat → Int32 → Int32 → Int32 → Option (Int32 × ez_H)), (∀ (σ_18 : ez_H) (x2_18 : Int32) (x3_18 : Int32), tp p σ_18 → tq_iv 0 63 x2_18 → tq_iv 0 6 x3_18 → (2147483647 - x3_18.toInt).toNat < n_18 → tz_O (fun z : Int32 × ez_H => (fun (z : Int32) (s : ez_H) => tq_iv (-1) 63 z ∧ tp p s) z.1 z.2) (k_18 σ_18 h0 x1 x2_18 x3_18)) → ∀ (σ_18 : ez_H) (x2_18 : Int32) (x3_18 : Int32), tp p σ_18 → tq_iv 0 63 x2_18 → tq_iv 0 6 x3_18 → (2147483647 - x3_18.toInt).toNat < n_18 + 1 → tz_O (fun z : Int32 × ez_H => (fun (z : Int32) (s : ez_H) => tq_iv (-1) 63 z ∧ tp p s) z.1 z.2) (z_X12_leftOver_18 k_18 σ_18 h0 x1 x2_18 x3_18) := by
      intro n_18 k_18 hk_18 σ_18 x2_18 x3_18 T_σ_18 i_x2_18 i_x3_18 hn_18
      unfold z_X12_leftOver_18
      refine tz_bd (tz_X12_bolts T_σ_18 k_h0) (fun t_20 i_t_20 => ?_)
      refine tz_if _ (fun c7774 => ?_) (fun c7774 => ?_)
      ·
        refine tz_b2 (tz_X12_bringBack T_σ_18 k_h0) (fun _ σ7760 T7760 => ?_)
        exact tz_some ⟨(tq_w i_x2_18 (by decide) (by decide)), T7760⟩
      ·
        have i4_x3_18 : tq_iv 0 5 x3_18 := tq_cut i_x3_18 (tq_ltL (tq_nle c7774) i_x3_18 i_t_20) (by decide) (by decide)
        have i5_t_20 : tq_iv 1 6 t_20 := tq_cut i_t_20 (tq_ltR (tq_nle c7774) i_x3_18 i_t_20) (by decide) (by decide)
        refine tz_bd (tz_X12_mustOf T_σ_18 k_h0 i4_x3_18) (fun t_28 i_t_28 => ?_)
        refine tz_let (fun t_33 e7772 => ?_)
        have i6_t_33 : tq_iv 1 128 t_33 := tq_shl1 e7772 i2_x1 (by decide) (by decide) (by decide) (by decide)
        refine tz_let (fun t_35 e7771 => ?_)
        refine tz_let (fun t_36 e7770 => ?_)
        have K_69 : ∀ (σ_69 : ez_H) (x2_69 : Int32), tp p σ_69 → tq_iv 0 63 x2_69 → tz_O (fun z : Int32 × ez_H => (fun (z : Int32) (s : ez_H) => tq_iv (-1) 63 z ∧ tp p s) z.1 z.2) (z_X12_leftOver_69 k_18 σ_69 h0 x1 x2_69 x3_18) := by
          intro σ_69 x2_69 T_σ_69 i_x2_69
          unfold z_X12_leftOver_69
          refine tz_let (fun t_69 e7758 => ?_)
          have i7_t_69 : tq_iv 1 6 t_69 := tq_w (tq_add e7758 i4_x3_18 tk_1 (by decide) (by decide)) (by decide) (by decide)
          exact hk_18 σ_69 x2_69 t_69 T_σ_69 i_x2_69 (tq_w i7_t_69 (by decide) (by decide)) (tq_up e7758 i4_x3_18 tk_1 (by decide) (by decide) hn_18)
        refine tz_if _ (fun c7769 => ?_) (fun c7769 => ?_)
        ·
          have i8_t_36 : tq_iv 0 0 t_36 := tq_cut (tq_top t_36) (tq_eqL c7769 tk_0) (by decide) (by decide)
          exact K_69 σ_18 x2_18 T_σ_18 i_x2_18
        ·
          refine tz_b2 (tz_X12_pinFor T_σ_18 k_h0 i4_x3_18) (fun _ σ7768 T7768 => ?_)
          refine tz_bd (tz_X12_opensBy T7768 k_h0 i2_x1 i4_x3_18) (fun t_57 i_t_57 => ?_)
          refine tz_if _ (fun c7766 => ?_) (fun c7766 => ?_)
          ·
            have i9_t_57 : tq_iv 0 0 t_57 := tq_cut i_t_57 (tq_eqL c7766 tk_0) (by decide) (by decide)
            exact K_69 σ7768 x2_18 T7768 i_x2_18
          ·
            have i10_t_57 : tq_iv 1 1 t_57 := tq_w (tq_neLo c7766 i_t_57 tk_0) (by decide) (by decide)
            refine tz_let (fun t_66 e7765 => ?_)
            have i11_t_66 : tq_iv 1 32 t_66 := tq_shl1 e7765 i4_x3_18 (by decide) (by decide) (by decide) (by decide)
            refine tz_let (fun t_67 e7764 => ?_)
            have i12_t_67 : tq_iv 0 63 t_67 := tq_or e7764 i_x2_18 i11_t_66 6 (by decide) (by decide) (by decide) (by decide) (by decide)
            exact K_69 σ7768 t_67 T7768 i12_t_67
    have E_18 : ∀ (σ_18 : ez_H) (x2_18 : Int32) (x3_18 : Int32), tp p σ_18 → tq_iv 0 63 x2_18 → tq_iv 0 6 x3_18 → tz_O (fun z : Int32 × ez_H => (fun (z : Int32) (s : ez_H) => tq_iv (-1) 63 z ∧ tp p s) z.1 z.2) (ez_fix (fun _ _ _ _ _ => none) (z_X12_leftOver_18) ez_N σ_18 h0 x1 x2_18 x3_18) := by
      intro σ_18 x2_18 x3_18 T_σ_18 i_x2_18 i_x3_18
      exact ez_fix_indn (fun n_18 (k_18 : ez_H → Nat → Int32 → Int32 → Int32 → Option (Int32 × ez_H)) => ∀ (σ_18 : ez_H) (x2_18 : Int32) (x3_18 : Int32), tp p σ_18 → tq_iv 0 63 x2_18 → tq_iv 0 6 x3_18 → (2147483647 - x3_18.toInt).toNat < n_18 → tz_O (fun z : Int32 × ez_H => (fun (z : Int32) (s : ez_H) => tq_iv (-1) 63 z ∧ tp p s) z.1 z.2) (k_18 σ_18 h0 x1 x2_18 x3_18)) (by intros; rename_i h; exact absurd h (Nat.not_lt_zero _)) L_18 ez_N σ_18 x2_18 x3_18 T_σ_18 i_x2_18 i_x3_18 (tq_m0 x3_18)
    exact E_18 σ7778 (0 : Int32) (0 : Int32) T7778 (tq_w tk_0 (by decide) (by decide)) (tq_w tk_0 (by decide) (by decide))
set_option maxRecDepth 4000 in
theorem tz_X12_legal {p : tz_P} {σ : ez_H} {h0 : Nat} (hT : tp p σ) (k_h0 : tz_C h0 = some (3, 12, 0, 0)) : tz_O (fun z => tq_iv 1 2147483647 z) (z_X12_legal σ h0) := by
  unfold z_X12_legal
  refine tz_bd (tz_ob hT k_h0) (fun _ _ => ?_)
  refine tz_bk (tr_13 hT k_h0) ?_
  refine tz_be (tg_12_43 hT k_h0) (fun t_6 e7785 i_t_6 => ?_)
  refine tz_be (tz_ia hT tc_175 (te_175 (p := p)) i_t_6 (by decide) (by decide)) (fun t_9 e7784 i_t_9 => ?_)
  refine tz_bd (tz_X12_manyLegal hT k_h0 i_t_9) (fun t_10 i_t_10 => ?_)
  exact tz_some i_t_10
set_option maxRecDepth 4000 in
theorem tz_X12_lies {p : tz_P} {σ : ez_H} {h0 : Nat} {x1 : Int32} (hT : tp p σ) (k_h0 : tz_C h0 = some (3, 12, 0, 0)) : tz_O (fun z => tq_iv (-2147483648) 2147483647 z) (z_X12_lies σ h0 x1) := by
  unfold z_X12_lies
  refine tz_bd (tz_ob hT k_h0) (fun _ _ => ?_)
  refine tz_be (tg_12_57 hT k_h0) (fun t_3 e7796 i_t_3 => ?_)
  refine tz_let (fun t_7 e7795 => ?_)
  have i1_t_7 : tq_iv (-1) 5 t_7 := tq_w (tq_sub e7795 i_t_3 tk_1 (by decide) (by decide)) (by decide) (by decide)
  refine tz_bd (tz_X12_isIn hT) (fun t_8 ⟨i_t_8, g_t_8⟩ => ?_)
  have K_25 : ∀ (y0_25 : Int32), tz_O (fun (z : Int32) => tq_iv (-2147483648) 2147483647 z) (z_X12_lies_25 σ y0_25) := by
    intro y0_25
    unfold z_X12_lies_25
    exact tz_some (tq_top y0_25)
  refine tz_if _ (fun c7793 => ?_) (fun c7793 => ?_)
  ·
    have i2_t_8 : tq_iv 0 0 t_8 := tq_cut i_t_8 (tq_eqL c7793 tk_0) (by decide) (by decide)
    exact K_25 (-2 : Int32)
  ·
    have i3_x1 : tq_iv 0 5 x1 := tq_cut (tq_top x1) (tq_cut (lo := 0) (hi := 5) (tq_cut (lo := 0) (hi := 2147483647) (tq_top x1) (tq_leR (g_t_8 c7793).1 tk_0 (tq_top x1)) (by decide) (by decide)) (tq_leL (g_t_8 c7793).2 (tq_top x1) i1_t_7) (by decide) (by decide)) (by decide) (by decide)
    have i4_t_7 : tq_iv 0 5 t_7 := tq_cut i1_t_7 (tq_leR (g_t_8 c7793).2 i3_x1 i1_t_7) (by decide) (by decide)
    have i5_t_8 : tq_iv 1 1 t_8 := tq_w (tq_neLo c7793 i_t_8 tk_0) (by decide) (by decide)
    refine tz_bk (tr_56 hT k_h0) ?_
    refine tz_be (tz_ia hT tc_208 (te_0 (p := p)) i3_x1 (by decide) (by decide)) (fun t_19 e7791 i_t_19 => ?_)
    exact K_25 t_19
set_option maxRecDepth 4000 in
theorem tz_X12_keysThatOpen {p : tz_P} {σ : ez_H} {h0 : Nat} {x1 : Int32} (hT : tp p σ) (k_h0 : tz_C h0 = some (3, 12, 0, 0)) (i_x1 : tq_iv 0 5 x1) : tz_O (fun z => tq_iv (-2147483648) 2147483647 z) (z_X12_keysThatOpen σ h0 x1) := by
  unfold z_X12_keysThatOpen
  refine tz_bd (tz_ob hT k_h0) (fun _ _ => ?_)
  have L_4 : ∀ (n_4 : Nat) (k_4 : Nat → Int32 → Int32 → Int32 → Option (Int32)), (∀ (x2_4 : Int32) (x3_4 : Int32), tq_iv 0 8 x3_4 → (2147483647 - x3_4.toInt).toNat < n_4 → tz_O (fun (z : Int32) => tq_iv (-2147483648) 2147483647 z) (k_4 h0 x1 x2_4 x3_4)) → ∀ (x2_4 : Int32) (x3_4 : Int32), tq_iv 0 8 x3_4 → (2147483647 - x3_4.toInt).toNat < n_4 + 1 → tz_O (fun (z : Int32) => tq_iv (-2147483648) 2147483647 z) (z_X12_keysThatOpen_4 σ k_4 h0 x1 x2_4 x3_4) := by
    intro n_4 k_4 hk_4 x2_4 x3_4 i_x3_4 hn_4
    unfold z_X12_keysThatOpen_4
    refine tz_bd (tz_X12_many hT k_h0) (fun t_6 i_t_6 => ?_)
    refine tz_if _ (fun c7807 => ?_) (fun c7807 => ?_)
    ·
      exact tz_some (tq_top x2_4)
    ·
      have i1_x3_4 : tq_iv 0 7 x3_4 := tq_cut i_x3_4 (tq_ltL (tq_nle c7807) i_x3_4 i_t_6) (by decide) (by decide)
      have i2_t_6 : tq_iv 1 8 t_6 := tq_cut i_t_6 (tq_ltR (tq_nle c7807) i_x3_4 i_t_6) (by decide) (by decide)
      refine tz_bd (tz_X12_opensBy hT k_h0 i1_x3_4 i_x1) (fun t_15 i_t_15 => ?_)
      have K_27 : ∀ (x2_27 : Int32), tz_O (fun (z : Int32) => tq_iv (-2147483648) 2147483647 z) (z_X12_keysThatOpen_27 σ k_4 h0 x1 x2_27 x3_4) := by
        intro x2_27
        unfold z_X12_keysThatOpen_27
        refine tz_let (fun t_27 e7799 => ?_)
        have i3_t_27 : tq_iv 1 8 t_27 := tq_w (tq_add e7799 i1_x3_4 tk_1 (by decide) (by decide)) (by decide) (by decide)
        exact hk_4 x2_27 t_27 (tq_w i3_t_27 (by decide) (by decide)) (tq_up e7799 i1_x3_4 tk_1 (by decide) (by decide) hn_4)
      refine tz_if _ (fun c7805 => ?_) (fun c7805 => ?_)
      ·
        have i4_t_15 : tq_iv 0 0 t_15 := tq_cut i_t_15 (tq_eqL c7805 tk_0) (by decide) (by decide)
        exact K_27 x2_4
      ·
        have i5_t_15 : tq_iv 1 1 t_15 := tq_w (tq_neLo c7805 i_t_15 tk_0) (by decide) (by decide)
        refine tz_let (fun t_24 e7804 => ?_)
        have i6_t_24 : tq_iv 1 128 t_24 := tq_shl1 e7804 i1_x3_4 (by decide) (by decide) (by decide) (by decide)
        refine tz_let (fun t_25 e7803 => ?_)
        exact K_27 t_25
  have E_4 : ∀ (x2_4 : Int32) (x3_4 : Int32), tq_iv 0 8 x3_4 → tz_O (fun (z : Int32) => tq_iv (-2147483648) 2147483647 z) (ez_fix (fun _ _ _ _ => none) (z_X12_keysThatOpen_4 σ) ez_N h0 x1 x2_4 x3_4) := by
    intro x2_4 x3_4 i_x3_4
    exact ez_fix_indn (fun n_4 (k_4 : Nat → Int32 → Int32 → Int32 → Option (Int32)) => ∀ (x2_4 : Int32) (x3_4 : Int32), tq_iv 0 8 x3_4 → (2147483647 - x3_4.toInt).toNat < n_4 → tz_O (fun (z : Int32) => tq_iv (-2147483648) 2147483647 z) (k_4 h0 x1 x2_4 x3_4)) (by intros; rename_i h; exact absurd h (Nat.not_lt_zero _)) L_4 ez_N x2_4 x3_4 i_x3_4 (tq_m0 x3_4)
  exact E_4 (0 : Int32) (0 : Int32) (tq_w tk_0 (by decide) (by decide))
set_option maxRecDepth 4000 in
theorem tz_X12_partsIn {p : tz_P} {σ : ez_H} {h0 : Nat} {x1 : Int32} (hT : tp p σ) (k_h0 : tz_C h0 = some (3, 12, 0, 0)) (i_x1 : tq_iv 0 5 x1) : tz_O (fun z => tq_iv (-2147483648) 2147483647 z) (z_X12_partsIn σ h0 x1) := by
  unfold z_X12_partsIn
  refine tz_bd (tz_ob hT k_h0) (fun _ _ => ?_)
  have L_4 : ∀ (n_4 : Nat) (k_4 : Nat → Int32 → Int32 → Int32 → Option (Int32)), (∀ (x2_4 : Int32) (x3_4 : Int32), tq_iv 0 5 x3_4 → (2147483647 - x3_4.toInt).toNat < n_4 → tz_O (fun (z : Int32) => tq_iv (-2147483648) 2147483647 z) (k_4 h0 x1 x2_4 x3_4)) → ∀ (x2_4 : Int32) (x3_4 : Int32), tq_iv 0 5 x3_4 → (2147483647 - x3_4.toInt).toNat < n_4 + 1 → tz_O (fun (z : Int32) => tq_iv (-2147483648) 2147483647 z) (z_X12_partsIn_4 σ k_4 h0 x1 x2_4 x3_4) := by
    intro n_4 k_4 hk_4 x2_4 x3_4 i_x3_4 hn_4
    unfold z_X12_partsIn_4
    refine tz_bd (tz_X12_wide hT k_h0) (fun t_6 i_t_6 => ?_)
    refine tz_if _ (fun c7817 => ?_) (fun c7817 => ?_)
    ·
      have i1_x3_4 : tq_iv 2 5 x3_4 := tq_cut i_x3_4 (tq_leR c7817 i_t_6 i_x3_4) (by decide) (by decide)
      exact tz_some (tq_top x2_4)
    ·
      have i2_x3_4 : tq_iv 0 4 x3_4 := tq_cut i_x3_4 (tq_ltL (tq_nle c7817) i_x3_4 i_t_6) (by decide) (by decide)
      refine tz_bd (tz_X12_partsOf hT k_h0 i_x1 i2_x3_4) (fun t_16 i_t_16 => ?_)
      refine tz_bd (tz_X12_bitsOf hT) (fun t_19 i_t_19 => ?_)
      refine tz_let (fun t_22 e7814 => ?_)
      refine tz_let (fun t_24 e7813 => ?_)
      have i3_t_24 : tq_iv 1 5 t_24 := tq_w (tq_add e7813 i2_x3_4 tk_1 (by decide) (by decide)) (by decide) (by decide)
      exact hk_4 t_22 t_24 (tq_w i3_t_24 (by decide) (by decide)) (tq_up e7813 i2_x3_4 tk_1 (by decide) (by decide) hn_4)
  have E_4 : ∀ (x2_4 : Int32) (x3_4 : Int32), tq_iv 0 5 x3_4 → tz_O (fun (z : Int32) => tq_iv (-2147483648) 2147483647 z) (ez_fix (fun _ _ _ _ => none) (z_X12_partsIn_4 σ) ez_N h0 x1 x2_4 x3_4) := by
    intro x2_4 x3_4 i_x3_4
    exact ez_fix_indn (fun n_4 (k_4 : Nat → Int32 → Int32 → Int32 → Option (Int32)) => ∀ (x2_4 : Int32) (x3_4 : Int32), tq_iv 0 5 x3_4 → (2147483647 - x3_4.toInt).toNat < n_4 → tz_O (fun (z : Int32) => tq_iv (-2147483648) 2147483647 z) (k_4 h0 x1 x2_4 x3_4)) (by intros; rename_i h; exact absurd h (Nat.not_lt_zero _)) L_4 ez_N x2_4 x3_4 i_x3_4 (tq_m0 x3_4)
  exact E_4 (0 : Int32) (0 : Int32) (tq_w tk_0 (by decide) (by decide))
set_option maxRecDepth 4000 in
theorem tz_X12_lock {p : tz_P} {σ : ez_H} {h0 : Nat} {x1 : Int32} {x2 : Int32} (hT : tp p σ) (k_h0 : tz_C h0 = some (3, 12, 0, 0)) : tz_O (fun z => tq_iv (-2147483648) 2147483647 z) (z_X12_lock σ h0 x1 x2) := by
  unfold z_X12_lock
  refine tz_bd (tz_ob hT k_h0) (fun _ _ => ?_)
  refine tz_bd (tz_X12_isLock hT k_h0) (fun t_2 ⟨i_t_2, g_t_2⟩ => ?_)
  refine tz_if _ (fun c7835 => ?_) (fun c7835 => ?_)
  ·
    have i1_t_2 : tq_iv 0 0 t_2 := tq_cut i_t_2 (tq_eqL c7835 tk_0) (by decide) (by decide)
    exact tz_some (tq_top (-1 : Int32))
  ·
    have i2_x1 : tq_iv 0 5 x1 := tq_cut (tq_top x1) (g_t_2 c7835) (by decide) (by decide)
    have i3_t_2 : tq_iv 1 1 t_2 := tq_w (tq_neLo c7835 i_t_2 tk_0) (by decide) (by decide)
    refine tz_if _ (fun c7834 => ?_) (fun c7834 => ?_)
    ·
      have i4_x2 : tq_iv 0 0 x2 := tq_cut (tq_top x2) (tq_eqL c7834 tk_0) (by decide) (by decide)
      refine tz_bd (tz_X12_partsIn hT k_h0 i2_x1) (fun t_42 i_t_42 => ?_)
      exact tz_some (tq_top t_42)
    ·
      refine tz_if _ (fun c7833 => ?_) (fun c7833 => ?_)
      ·
        have i5_x2 : tq_iv 1 1 x2 := tq_cut (tq_top x2) (tq_eqL c7833 tk_1) (by decide) (by decide)
        refine tz_bd (tz_X12_keysThatOpen hT k_h0 i2_x1) (fun t_48 i_t_48 => ?_)
        exact tz_some (tq_top t_48)
      ·
        refine tz_if _ (fun c7832 => ?_) (fun c7832 => ?_)
        ·
          have i6_x2 : tq_iv 2 2 x2 := tq_cut (tq_top x2) (tq_eqL c7832 tk_2) (by decide) (by decide)
          refine tz_bd (tz_X12_mustOf hT k_h0 i2_x1) (fun t_54 i_t_54 => ?_)
          exact tz_some (tq_top t_54)
        ·
          refine tz_if _ (fun c7831 => ?_) (fun c7831 => ?_)
          ·
            have i7_x2 : tq_iv 3 3 x2 := tq_cut (tq_top x2) (tq_eqL c7831 tk_3) (by decide) (by decide)
            refine tz_bd (tz_X12_neverOf hT k_h0 i2_x1) (fun t_60 i_t_60 => ?_)
            exact tz_some (tq_top t_60)
          ·
            exact tz_some (tq_top (-1 : Int32))
set_option maxRecDepth 4000 in
theorem tz_X12_lose {p : tz_P} {σ : ez_H} {h0 : Nat} {x1 : Int32} (hT : tp p σ) (k_h0 : tz_C h0 = some (3, 12, 0, 0)) : tz_O2 (fun (z : Int32) (s : ez_H) => tq_iv (-3) 3 z ∧ (tp p s ∨ tp (kp p) s)) (z_X12_lose σ h0 x1) := by
  show tz_O (fun z : Int32 × ez_H => (fun (z : Int32) (s : ez_H) => tq_iv (-3) 3 z ∧ (tp p s ∨ tp (kp p) s)) z.1 z.2) _
  unfold z_X12_lose
  refine tz_bd (tz_ob hT k_h0) (fun _ _ => ?_)
  refine tz_bd (tz_X12_isKey hT k_h0) (fun t_2 ⟨i_t_2, g_t_2⟩ => ?_)
  have K_30 : ∀ (σ_30 : ez_H) (y0_30 : Int32) (q_30 : tz_P), (q_30 = p ∨ q_30 = kp p) → tp q_30 σ_30 → tq_iv (-3) 3 y0_30 → tz_O (fun z : Int32 × ez_H => (fun (z : Int32) (s : ez_H) => tq_iv (-3) 3 z ∧ (tp p s ∨ tp (kp p) s)) z.1 z.2) (z_X12_lose_30 σ_30 y0_30) := by
    intro σ_30 y0_30 q_30 hq_30 T_σ_30 i_y0_30
    unfold z_X12_lose_30
    exact tz_some ⟨i_y0_30, (tz_or hq_30 T_σ_30)⟩
  have K_28 : tz_O (fun z : Int32 × ez_H => (fun (z : Int32) (s : ez_H) => tq_iv (-3) 3 z ∧ (tp p s ∨ tp (kp p) s)) z.1 z.2) (z_X12_lose_28 σ) := by
    unfold z_X12_lose_28
    exact K_30 σ (-3 : Int32) p (Or.inl rfl) hT (tq_w tk_m3 (by decide) (by decide))
  refine tz_if _ (fun c7846 => ?_) (fun c7846 => ?_)
  ·
    have i1_t_2 : tq_iv 0 0 t_2 := tq_cut i_t_2 (tq_eqL c7846 tk_0) (by decide) (by decide)
    exact K_28 
  ·
    have i2_x1 : tq_iv 0 7 x1 := tq_cut (tq_top x1) (g_t_2 c7846) (by decide) (by decide)
    have i3_t_2 : tq_iv 1 1 t_2 := tq_w (tq_neLo c7846 i_t_2 tk_0) (by decide) (by decide)
    refine tz_bd (tz_X12_holderOf hT k_h0 i2_x1) (fun t_10 i_t_10 => ?_)
    refine tz_if _ (fun c7844 => ?_) (fun c7844 => ?_)
    ·
      have i4_t_10 : tq_iv (-2) (-2) t_10 := tq_cut i_t_10 (tq_eqL c7844 tk_m2) (by decide) (by decide)
      exact K_28 
    ·
      have i5_t_10 : tq_iv (-1) 3 t_10 := tq_w (tq_neLo c7844 i_t_10 tk_m2) (by decide) (by decide)
      refine tz_b2 (tz_X12_hand hT k_h0 i2_x1 (tq_w tk_m2 (by decide) (by decide))) (fun t_22 σ7843 ⟨i_t_22, T7843⟩ => ?_)
      exact K_30 σ7843 t_22 (kp p) (Or.inr rfl) T7843 (tq_w i_t_22 (by decide) (by decide))
set_option maxRecDepth 4000 in
theorem tz_X12_master {p : tz_P} {σ : ez_H} {h0 : Nat} {x1 : Int32} (hT : tp p σ) (k_h0 : tz_C h0 = some (3, 12, 0, 0)) : tz_O (fun z => tq_iv (-2147483648) 2147483647 z) (z_X12_master σ h0 x1) := by
  unfold z_X12_master
  refine tz_bd (tz_ob hT k_h0) (fun _ _ => ?_)
  refine tz_bd (tz_X12_isIn hT) (fun t_3 ⟨i_t_3, g_t_3⟩ => ?_)
  refine tz_if _ (fun c7872 => ?_) (fun c7872 => ?_)
  ·
    have i1_t_3 : tq_iv 0 0 t_3 := tq_cut i_t_3 (tq_eqL c7872 tk_0) (by decide) (by decide)
    exact tz_some (tq_top (-1 : Int32))
  ·
    have i2_x1 : tq_iv 0 2 x1 := tq_cut (tq_top x1) (tq_cut (lo := 0) (hi := 2) (tq_cut (lo := 0) (hi := 2147483647) (tq_top x1) (tq_leR (g_t_3 c7872).1 tk_0 (tq_top x1)) (by decide) (by decide)) (tq_leL (g_t_3 c7872).2 (tq_top x1) tk_2) (by decide) (by decide)) (by decide) (by decide)
    have i3_t_3 : tq_iv 1 1 t_3 := tq_w (tq_neLo c7872 i_t_3 tk_0) (by decide) (by decide)
    have L_18 : ∀ (n_18 : Nat) (k_18 : Nat → Int32 → Int32 → Int32 → Int32 → Option (Int32)), (∀ (x2_18 : Int32) (x3_18 : Int32) (x4_18 : Int32), tq_iv (-1) 2147483646 x2_18 → tq_iv 0 7776 x4_18 → (2147483647 - x4_18.toInt).toNat < n_18 → tz_O (fun (z : Int32) => tq_iv (-2147483648) 2147483647 z) (k_18 h0 x1 x2_18 x3_18 x4_18)) → ∀ (x2_18 : Int32) (x3_18 : Int32) (x4_18 : Int32), tq_iv (-1) 2147483646 x2_18 → tq_iv 0 7776 x4_18 → (2147483647 - x4_18.toInt).toNat < n_18 + 1 → tz_O (fun (z : Int32) => tq_iv (-2147483648) 2147483647 z) (z_X12_master_18 σ k_18 h0 x1 x2_18 x3_18 x4_18) := by
      intro n_18 k_18 hk_18 x2_18 x3_18 x4_18 i_x2_18 i_x4_18 hn_18
      unfold z_X12_master_18
      refine tz_bd (tz_X12_bittings hT k_h0) (fun t_21 i_t_21 => ?_)
      refine tz_if _ (fun c7868 => ?_) (fun c7868 => ?_)
      ·
        have i4_x4_18 : tq_iv 1 7776 x4_18 := tq_cut i_x4_18 (tq_leR c7868 i_t_21 i_x4_18) (by decide) (by decide)
        have K_93 : ∀ (y0_93 : Int32), tz_O (fun (z : Int32) => tq_iv (-2147483648) 2147483647 z) (z_X12_master_93 σ y0_93) := by
          intro y0_93
          unfold z_X12_master_93
          exact tz_some (tq_top y0_93)
        refine tz_if _ (fun c7857 => ?_) (fun c7857 => ?_)
        ·
          have i5_x1 : tq_iv 0 0 x1 := tq_cut i2_x1 (tq_eqL c7857 tk_0) (by decide) (by decide)
          exact K_93 x2_18
        ·
          have i6_x1 : tq_iv 1 2 x1 := tq_w (tq_neLo c7857 i2_x1 tk_0) (by decide) (by decide)
          refine tz_if _ (fun c7856 => ?_) (fun c7856 => ?_)
          ·
            have i7_x1 : tq_iv 1 1 x1 := tq_cut i6_x1 (tq_eqL c7856 tk_1) (by decide) (by decide)
            exact K_93 x3_18
          ·
            have i8_x1 : tq_iv 2 2 x1 := tq_w (tq_neLo c7856 i6_x1 tk_1) (by decide) (by decide)
            refine tz_bd (tz_X12_openedBy hT k_h0) (fun t_90 i_t_90 => ?_)
            exact K_93 t_90
      ·
        have i9_x4_18 : tq_iv 0 7775 x4_18 := tq_cut i_x4_18 (tq_ltL (tq_nle c7868) i_x4_18 i_t_21) (by decide) (by decide)
        refine tz_bd (tz_X12_isLegal hT k_h0) (fun t_30 ⟨i_t_30, g_t_30⟩ => ?_)
        have K_65 : ∀ (x2_65 : Int32) (x3_65 : Int32), tq_iv (-1) 2147483646 x2_65 → tz_O (fun (z : Int32) => tq_iv (-2147483648) 2147483647 z) (z_X12_master_65 σ k_18 h0 x1 x2_65 x3_65 x4_18) := by
          intro x2_65 x3_65 i_x2_65
          unfold z_X12_master_65
          refine tz_let (fun t_65 e7851 => ?_)
          have i10_t_65 : tq_iv 1 7776 t_65 := tq_w (tq_add e7851 i9_x4_18 tk_1 (by decide) (by decide)) (by decide) (by decide)
          exact hk_18 x2_65 x3_65 t_65 i_x2_65 (tq_w i10_t_65 (by decide) (by decide)) (tq_up e7851 i9_x4_18 tk_1 (by decide) (by decide) hn_18)
        refine tz_if _ (fun c7866 => ?_) (fun c7866 => ?_)
        ·
          have i11_t_30 : tq_iv 0 0 t_30 := tq_cut i_t_30 (tq_eqL c7866 tk_0) (by decide) (by decide)
          exact K_65 x2_18 x3_18 i_x2_18
        ·
          have i12_t_30 : tq_iv 1 1 t_30 := tq_w (tq_neLo c7866 i_t_30 tk_0) (by decide) (by decide)
          refine tz_bd (tz_X12_openedBy hT k_h0) (fun t_39 i_t_39 => ?_)
          refine tz_bd (tz_X12_bitsOf hT) (fun t_42 i_t_42 => ?_)
          refine tz_if _ (fun c7863 => ?_) (fun c7863 => ?_)
          ·
            have i13_x3_18 : tq_iv (-2147483648) 2147483646 x3_18 := tq_cut (tq_top x3_18) (tq_ltL c7863 (tq_top x3_18) (tq_top t_42)) (by decide) (by decide)
            have i14_t_42 : tq_iv (-2147483647) 2147483647 t_42 := tq_cut (tq_top t_42) (tq_ltR c7863 (tq_top x3_18) (tq_top t_42)) (by decide) (by decide)
            refine tz_bd (tz_X12_openedBy hT k_h0) (fun t_58 i_t_58 => ?_)
            refine tz_bd (tz_X12_bitsOf hT) (fun t_61 i_t_61 => ?_)
            exact K_65 x4_18 t_61 (tq_w i9_x4_18 (by decide) (by decide))
          ·
            exact K_65 x2_18 x3_18 i_x2_18
    have E_18 : ∀ (x2_18 : Int32) (x3_18 : Int32) (x4_18 : Int32), tq_iv (-1) 2147483646 x2_18 → tq_iv 0 7776 x4_18 → tz_O (fun (z : Int32) => tq_iv (-2147483648) 2147483647 z) (ez_fix (fun _ _ _ _ _ => none) (z_X12_master_18 σ) ez_N h0 x1 x2_18 x3_18 x4_18) := by
      intro x2_18 x3_18 x4_18 i_x2_18 i_x4_18
      exact ez_fix_indn (fun n_18 (k_18 : Nat → Int32 → Int32 → Int32 → Int32 → Option (Int32)) => ∀ (x2_18 : Int32) (x3_18 : Int32) (x4_18 : Int32), tq_iv (-1) 2147483646 x2_18 → tq_iv 0 7776 x4_18 → (2147483647 - x4_18.toInt).toNat < n_18 → tz_O (fun (z : Int32) => tq_iv (-2147483648) 2147483647 z) (k_18 h0 x1 x2_18 x3_18 x4_18)) (by intros; rename_i h; exact absurd h (Nat.not_lt_zero _)) L_18 ez_N x2_18 x3_18 x4_18 i_x2_18 i_x4_18 (tq_m0 x4_18)
    exact E_18 (-1 : Int32) (-1 : Int32) (0 : Int32) (tq_w tk_m1 (by decide) (by decide)) (tq_w tk_0 (by decide) (by decide))
theorem tz_X12_divisor {p : tz_P} {σ : ez_H} {x0 x1 : Int32} (_ : tp p σ) (i0 : tq_iv 1 2147483647 x0) (i1 : tq_iv 0 2147483647 x1) : tz_O (fun z => tq_iv 1 2147483647 z) (z_X12_divisor σ x0 x1) := by
  have L : ∀ (n : Nat) (k : Int32 → Int32 → Option Int32), (∀ x2 x3 : Int32, tq_iv 1 2147483647 x2 → tq_iv 0 2147483647 x3 → x3.toInt.toNat < n → tz_O (fun z => tq_iv 1 2147483647 z) (k x2 x3)) → ∀ x2 x3 : Int32, tq_iv 1 2147483647 x2 → tq_iv 0 2147483647 x3 → x3.toInt.toNat < n + 1 → tz_O (fun z => tq_iv 1 2147483647 z) (z_X12_divisor_4 σ k x2 x3) := by
    intro n k hk x2 x3 h2 h3 hn
    unfold z_X12_divisor_4
    refine tz_if _ (fun _ => tz_some h2) (fun c => ?_)
    rw [Int32.le_iff_toInt_le] at c
    have z0 : (0 : Int32).toInt = 0 := by decide
    have h3' : tq_iv 1 2147483647 x3 := ⟨by omega, h3.2⟩
    refine tz_nz (tq_nz h3' (by decide)) ?_
    refine tz_let (fun t e => ?_)
    have hr := tq_remT h2 h3' (by decide) (by decide)
    rw [← e] at hr
    have l1 : 0 ≤ x2.toInt % x3.toInt := Int.emod_nonneg _ (by omega)
    have l2 : x2.toInt % x3.toInt < x3.toInt := Int.emod_lt_of_pos _ (by omega)
    exact hk x3 t h3' ⟨by omega, (tq_top t).2⟩ (by omega)
  unfold z_X12_divisor
  exact ez_fix_indn (fun n (k : Int32 → Int32 → Option Int32) => ∀ x2 x3 : Int32, tq_iv 1 2147483647 x2 → tq_iv 0 2147483647 x3 → x3.toInt.toNat < n → tz_O (fun z => tq_iv 1 2147483647 z) (k x2 x3)) (by intros; rename_i h; exact absurd h (Nat.not_lt_zero _)) L ez_N x0 x1 i0 i1 (by show _ < 4294967296; have := i1.2; omega)
set_option maxRecDepth 4000 in
theorem tz_X12_odds {p : tz_P} {σ : ez_H} {h0 : Nat} {x1 : Int32} {x2 : Int32} (hT : tp p σ) (k_h0 : tz_C h0 = some (3, 12, 0, 0)) : tz_O (fun z => tq_iv (-1) 2147483647 z) (z_X12_odds σ h0 x1 x2) := by
  unfold z_X12_odds
  refine tz_bd (tz_ob hT k_h0) (fun _ _ => ?_)
  refine tz_bd (tz_X12_isLock hT k_h0) (fun t_2 ⟨i_t_2, g_t_2⟩ => ?_)
  have K_17 : tz_O (fun (z : Int32) => tq_iv (-1) 2147483647 z) (z_X12_odds_17 σ) := by
    unfold z_X12_odds_17
    exact tz_some (tq_w tk_m1 (by decide) (by decide))
  refine tz_if _ (fun c7896 => ?_) (fun c7896 => ?_)
  ·
    have i1_t_2 : tq_iv 0 0 t_2 := tq_cut i_t_2 (tq_eqL c7896 tk_0) (by decide) (by decide)
    exact K_17 
  ·
    have i2_x1 : tq_iv 0 5 x1 := tq_cut (tq_top x1) (g_t_2 c7896) (by decide) (by decide)
    have i3_t_2 : tq_iv 1 1 t_2 := tq_w (tq_neLo c7896 i_t_2 tk_0) (by decide) (by decide)
    refine tz_bd (tz_X12_isIn hT) (fun t_11 ⟨i_t_11, g_t_11⟩ => ?_)
    refine tz_if _ (fun c7894 => ?_) (fun c7894 => ?_)
    ·
      have i4_t_11 : tq_iv 0 0 t_11 := tq_cut i_t_11 (tq_eqL c7894 tk_0) (by decide) (by decide)
      exact K_17 
    ·
      have i5_x2 : tq_iv 0 1 x2 := tq_cut (tq_top x2) (tq_cut (lo := 0) (hi := 1) (tq_cut (lo := 0) (hi := 2147483647) (tq_top x2) (tq_leR (g_t_11 c7894).1 tk_0 (tq_top x2)) (by decide) (by decide)) (tq_leL (g_t_11 c7894).2 (tq_top x2) tk_1) (by decide) (by decide)) (by decide) (by decide)
      have i6_t_11 : tq_iv 1 1 t_11 := tq_w (tq_neLo c7894 i_t_11 tk_0) (by decide) (by decide)
      refine tz_let (fun t_22 e7893 => ?_)
      have i7_t_22 : tq_iv 1 32 t_22 := tq_shl1 e7893 i2_x1 (by decide) (by decide) (by decide) (by decide)
      refine tz_bd (tz_X12_openers hT k_h0) (fun t_23 i_t_23 => ?_)
      refine tz_bd (tz_X12_legal hT k_h0) (fun t_28 i_t_28 => ?_)
      have K_43 : ∀ (y0_43 : Int32), tq_iv 0 2147483647 y0_43 → tz_O (fun (z : Int32) => tq_iv (-1) 2147483647 z) (z_X12_odds_43 σ t_23 t_28 y0_43) := by
        intro y0_43 i_y0_43
        unfold z_X12_odds_43
        refine tz_bd (tz_X12_divisor hT i_t_28 i_t_23) (fun t_46 i_t_46 => ?_)
        refine tz_nz (tq_nz i_t_46 (by decide)) ?_
        refine tz_let (fun t_49 e7883 => ?_)
        have i8_t_49 : tq_iv 0 2147483647 t_49 := tq_div e7883 i_y0_43 i_t_46 (by decide) (by decide)
        exact tz_some (tq_w i8_t_49 (by decide) (by decide))
      refine tz_if _ (fun c7890 => ?_) (fun c7890 => ?_)
      ·
        have i9_x2 : tq_iv 0 0 x2 := tq_cut i5_x2 (tq_eqL c7890 tk_0) (by decide) (by decide)
        exact K_43 t_23 i_t_23
      ·
        have i10_x2 : tq_iv 1 1 x2 := tq_w (tq_neLo c7890 i5_x2 tk_0) (by decide) (by decide)
        exact K_43 t_28 (tq_w i_t_28 (by decide) (by decide))
set_option maxRecDepth 4000 in
theorem tz_X12_opens {p : tz_P} {σ : ez_H} {h0 : Nat} {x1 : Int32} {x2 : Int32} (hT : tp p σ) (k_h0 : tz_C h0 = some (3, 12, 0, 0)) : tz_O (fun z => tq_iv (-1) 1 z) (z_X12_opens σ h0 x1 x2) := by
  unfold z_X12_opens
  refine tz_bd (tz_ob hT k_h0) (fun _ _ => ?_)
  refine tz_bd (tz_X12_isLegal hT k_h0) (fun t_2 ⟨i_t_2, g_t_2⟩ => ?_)
  have K_16 : tz_O (fun (z : Int32) => tq_iv (-1) 1 z) (z_X12_opens_16 σ) := by
    unfold z_X12_opens_16
    exact tz_some (tq_w tk_m1 (by decide) (by decide))
  refine tz_if _ (fun c7909 => ?_) (fun c7909 => ?_)
  ·
    have i1_t_2 : tq_iv 0 0 t_2 := tq_cut i_t_2 (tq_eqL c7909 tk_0) (by decide) (by decide)
    exact K_16 
  ·
    have i2_x1 : tq_iv 0 7775 x1 := tq_cut (tq_top x1) (g_t_2 c7909) (by decide) (by decide)
    have i3_t_2 : tq_iv 1 1 t_2 := tq_w (tq_neLo c7909 i_t_2 tk_0) (by decide) (by decide)
    refine tz_bd (tz_X12_isLock hT k_h0) (fun t_10 ⟨i_t_10, g_t_10⟩ => ?_)
    refine tz_if _ (fun c7907 => ?_) (fun c7907 => ?_)
    ·
      have i4_t_10 : tq_iv 0 0 t_10 := tq_cut i_t_10 (tq_eqL c7907 tk_0) (by decide) (by decide)
      exact K_16 
    ·
      have i5_x2 : tq_iv 0 5 x2 := tq_cut (tq_top x2) (g_t_10 c7907) (by decide) (by decide)
      have i6_t_10 : tq_iv 1 1 t_10 := tq_w (tq_neLo c7907 i_t_10 tk_0) (by decide) (by decide)
      refine tz_bd (tz_X12_doesOpen hT k_h0 i5_x2) (fun t_21 i_t_21 => ?_)
      have K_32 : ∀ (y0_32 : Int32), tq_iv 0 1 y0_32 → (¬ y0_32 = 0 → tq_iv 1 1 t_21) → tz_O (fun (z : Int32) => tq_iv (-1) 1 z) (z_X12_opens_32 σ y0_32) := by
        intro y0_32 i_y0_32 g32_y0_32_t_21
        unfold z_X12_opens_32
        exact tz_some (tq_w i_y0_32 (by decide) (by decide))
      refine tz_if _ (fun c7905 => ?_) (fun c7905 => ?_)
      ·
        have i7_t_21 : tq_iv 0 0 t_21 := tq_cut i_t_21 (tq_eqL c7905 tk_0) (by decide) (by decide)
        exact K_32 (0 : Int32) (tq_w tk_0 (by decide) (by decide)) (fun h => absurd rfl h)
      ·
        have i8_t_21 : tq_iv 1 1 t_21 := tq_w (tq_neLo c7905 i_t_21 tk_0) (by decide) (by decide)
        exact K_32 (1 : Int32) (tq_w tk_1 (by decide) (by decide)) (fun _ => i8_t_21)
set_option maxRecDepth 4000 in
theorem tz_X12_part {p : tz_P} {σ : ez_H} {h0 : Nat} {x1 : Int32} {x2 : Int32} {x3 : Int32} (hT : tp p σ) (k_h0 : tz_C h0 = some (3, 12, 0, 0)) : tz_O2 (fun (z : Int32) (s : ez_H) => tq_iv (-2147483648) 2147483647 z ∧ (tp p s ∨ tp (kp p) s)) (z_X12_part σ h0 x1 x2 x3) := by
  show tz_O (fun z : Int32 × ez_H => (fun (z : Int32) (s : ez_H) => tq_iv (-2147483648) 2147483647 z ∧ (tp p s ∨ tp (kp p) s)) z.1 z.2) _
  unfold z_X12_part
  refine tz_bd (tz_ob hT k_h0) (fun _ _ => ?_)
  refine tz_bd (tz_X12_isLock hT k_h0) (fun t_2 ⟨i_t_2, g_t_2⟩ => ?_)
  have K_42 : tz_O (fun z : Int32 × ez_H => (fun (z : Int32) (s : ez_H) => tq_iv (-2147483648) 2147483647 z ∧ (tp p s ∨ tp (kp p) s)) z.1 z.2) (z_X12_part_42 σ) := by
    unfold z_X12_part_42
    exact tz_some ⟨(tq_top (-1 : Int32)), (Or.inl hT)⟩
  refine tz_if _ (fun c7937 => ?_) (fun c7937 => ?_)
  ·
    have i1_t_2 : tq_iv 0 0 t_2 := tq_cut i_t_2 (tq_eqL c7937 tk_0) (by decide) (by decide)
    exact K_42 
  ·
    have i2_x1 : tq_iv 0 5 x1 := tq_cut (tq_top x1) (g_t_2 c7937) (by decide) (by decide)
    have i3_t_2 : tq_iv 1 1 t_2 := tq_w (tq_neLo c7937 i_t_2 tk_0) (by decide) (by decide)
    refine tz_bd (tz_X12_isChamber hT k_h0) (fun t_10 ⟨i_t_10, g_t_10⟩ => ?_)
    refine tz_if _ (fun c7935 => ?_) (fun c7935 => ?_)
    ·
      have i4_t_10 : tq_iv 0 0 t_10 := tq_cut i_t_10 (tq_eqL c7935 tk_0) (by decide) (by decide)
      exact K_42 
    ·
      have i5_x2 : tq_iv 0 4 x2 := tq_cut (tq_top x2) (g_t_10 c7935) (by decide) (by decide)
      have i6_t_10 : tq_iv 1 1 t_10 := tq_w (tq_neLo c7935 i_t_10 tk_0) (by decide) (by decide)
      refine tz_bd (tz_X12_deep hT k_h0) (fun t_19 i_t_19 => ?_)
      refine tz_let (fun t_23 e7933 => ?_)
      have i7_t_23 : tq_iv 1 5 t_23 := tq_w (tq_sub e7933 i_t_19 tk_1 (by decide) (by decide)) (by decide) (by decide)
      refine tz_bd (tz_X12_isIn hT) (fun t_24 ⟨i_t_24, g_t_24⟩ => ?_)
      refine tz_if _ (fun c7931 => ?_) (fun c7931 => ?_)
      ·
        have i8_t_24 : tq_iv 0 0 t_24 := tq_cut i_t_24 (tq_eqL c7931 tk_0) (by decide) (by decide)
        exact K_42 
      ·
        have i9_x3 : tq_iv 0 5 x3 := tq_cut (tq_top x3) (tq_cut (lo := 0) (hi := 5) (tq_cut (lo := 0) (hi := 2147483647) (tq_top x3) (tq_leR (g_t_24 c7931).1 tk_0 (tq_top x3)) (by decide) (by decide)) (tq_leL (g_t_24 c7931).2 (tq_top x3) i7_t_23) (by decide) (by decide)) (by decide) (by decide)
        have i10_t_24 : tq_iv 1 1 t_24 := tq_w (tq_neLo c7931 i_t_24 tk_0) (by decide) (by decide)
        refine tz_bd (tz_X12_partsOf hT k_h0 i2_x1 i5_x2) (fun t_33 i_t_33 => ?_)
        refine tz_let (fun t_38 e7929 => ?_)
        have i11_t_38 : tq_iv 1 32 t_38 := tq_shl1 e7929 i9_x3 (by decide) (by decide) (by decide) (by decide)
        refine tz_if _ (fun c7928 => ?_) (fun c7928 => ?_)
        ·
          have i12_t_33 : tq_iv 1 32 t_33 := tq_cut (tq_top t_33) (tq_eqL c7928 i11_t_38) (by decide) (by decide)
          exact K_42 
        ·
          refine tz_b2 (tz_X12_keepAct hT k_h0) (fun _ σ7927 T7927 => ?_)
          refine tz_bk (tr_53 T7927 k_h0) ?_
          refine tz_let (fun t_56 e7925 => ?_)
          have i13_t_56 : tq_iv 0 25 t_56 := tq_w (tq_mul e7925 tk_5 i2_x1 (by decide) (by decide) (by decide)) (by decide) (by decide)
          refine tz_let (fun t_57 e7924 => ?_)
          have i14_t_57 : tq_iv 56 81 t_57 := tq_w (tq_add e7924 tk_56 i13_t_56 (by decide) (by decide)) (by decide) (by decide)
          refine tz_let (fun t_59 e7923 => ?_)
          have i15_t_59 : tq_iv 56 85 t_59 := tq_w (tq_add e7923 i14_t_57 i5_x2 (by decide) (by decide)) (by decide) (by decide)
          refine tz_be (tz_iaS T7927 tc_205 (ts_205 (p := (kp p)) 56 85 (-2147483648) 2147483647 (by decide)) i15_t_59 (by decide) (by decide)) (fun t_61 e7922 i_t_61 => ?_)
          refine tz_let (fun t_64 e7921 => ?_)
          have i16_t_64 : tq_iv 1 32 t_64 := tq_shl1 e7921 i9_x3 (by decide) (by decide) (by decide) (by decide)
          refine tz_let (fun t_65 e7920 => ?_)
          refine tz_be (tz_isS T7927 tc_205 (tS_205 (p := (kp p)) 56 85 (-2147483648) 2147483647 (by decide)) i15_t_59 (by decide) (by decide) (tq_top t_65)) (fun σ7919 e7919 T7919 => ?_)
          refine tz_bd (tz_X12_partsOf T7919 k_h0 i2_x1 i5_x2) (fun t_70 i_t_70 => ?_)
          exact tz_some ⟨(tq_top t_70), (Or.inr T7919)⟩
set_option maxRecDepth 4000 in
theorem tz_X12_parts {p : tz_P} {σ : ez_H} {h0 : Nat} {x1 : Int32} {x2 : Int32} (hT : tp p σ) (k_h0 : tz_C h0 = some (3, 12, 0, 0)) : tz_O (fun z => tq_iv (-2147483648) 2147483647 z) (z_X12_parts σ h0 x1 x2) := by
  unfold z_X12_parts
  refine tz_bd (tz_ob hT k_h0) (fun _ _ => ?_)
  refine tz_bd (tz_X12_isLock hT k_h0) (fun t_2 ⟨i_t_2, g_t_2⟩ => ?_)
  have K_26 : ∀ (y0_26 : Int32), tz_O (fun (z : Int32) => tq_iv (-2147483648) 2147483647 z) (z_X12_parts_26 σ y0_26) := by
    intro y0_26
    unfold z_X12_parts_26
    exact tz_some (tq_top y0_26)
  have K_25 : tz_O (fun (z : Int32) => tq_iv (-2147483648) 2147483647 z) (z_X12_parts_25 σ) := by
    unfold z_X12_parts_25
    exact K_26 (-1 : Int32)
  refine tz_if _ (fun c7948 => ?_) (fun c7948 => ?_)
  ·
    have i1_t_2 : tq_iv 0 0 t_2 := tq_cut i_t_2 (tq_eqL c7948 tk_0) (by decide) (by decide)
    exact K_25 
  ·
    have i2_x1 : tq_iv 0 5 x1 := tq_cut (tq_top x1) (g_t_2 c7948) (by decide) (by decide)
    have i3_t_2 : tq_iv 1 1 t_2 := tq_w (tq_neLo c7948 i_t_2 tk_0) (by decide) (by decide)
    refine tz_bd (tz_X12_isChamber hT k_h0) (fun t_10 ⟨i_t_10, g_t_10⟩ => ?_)
    refine tz_if _ (fun c7946 => ?_) (fun c7946 => ?_)
    ·
      have i4_t_10 : tq_iv 0 0 t_10 := tq_cut i_t_10 (tq_eqL c7946 tk_0) (by decide) (by decide)
      exact K_25 
    ·
      have i5_x2 : tq_iv 0 4 x2 := tq_cut (tq_top x2) (g_t_10 c7946) (by decide) (by decide)
      have i6_t_10 : tq_iv 1 1 t_10 := tq_w (tq_neLo c7946 i_t_10 tk_0) (by decide) (by decide)
      refine tz_bd (tz_X12_partsOf hT k_h0 i2_x1 i5_x2) (fun t_19 i_t_19 => ?_)
      exact K_26 t_19
set_option maxRecDepth 4000 in
theorem tz_X12_person {p : tz_P} {σ : ez_H} {h0 : Nat} {x1 : Int32} {x2 : Int32} (hT : tp p σ) (k_h0 : tz_C h0 = some (3, 12, 0, 0)) : tz_O (fun z => tq_iv (-2147483648) 2147483647 z) (z_X12_person σ h0 x1 x2) := by
  unfold z_X12_person
  refine tz_bd (tz_ob hT k_h0) (fun _ _ => ?_)
  refine tz_bd (tz_X12_isPerson hT k_h0) (fun t_2 ⟨i_t_2, g_t_2⟩ => ?_)
  refine tz_if _ (fun c7964 => ?_) (fun c7964 => ?_)
  ·
    have i1_t_2 : tq_iv 0 0 t_2 := tq_cut i_t_2 (tq_eqL c7964 tk_0) (by decide) (by decide)
    exact tz_some (tq_top (-1 : Int32))
  ·
    have i2_x1 : tq_iv 0 3 x1 := tq_cut (tq_top x1) (g_t_2 c7964) (by decide) (by decide)
    have i3_t_2 : tq_iv 1 1 t_2 := tq_w (tq_neLo c7964 i_t_2 tk_0) (by decide) (by decide)
    refine tz_if _ (fun c7963 => ?_) (fun c7963 => ?_)
    ·
      have i4_x2 : tq_iv 0 0 x2 := tq_cut (tq_top x2) (tq_eqL c7963 tk_0) (by decide) (by decide)
      refine tz_bk (tr_53 hT k_h0) ?_
      refine tz_let (fun t_43 e7954 => ?_)
      have i5_t_43 : tq_iv 86 89 t_43 := tq_w (tq_add e7954 tk_86 i2_x1 (by decide) (by decide)) (by decide) (by decide)
      refine tz_be (tz_iaS hT tc_205 (ts_205 (p := p) 86 89 0 5 (by decide)) i5_t_43 (by decide) (by decide)) (fun t_44 e7953 i_t_44 => ?_)
      exact tz_some (tq_top t_44)
    ·
      refine tz_if _ (fun c7962 => ?_) (fun c7962 => ?_)
      ·
        have i6_x2 : tq_iv 1 1 x2 := tq_cut (tq_top x2) (tq_eqL c7962 tk_1) (by decide) (by decide)
        refine tz_bd (tz_X12_keysOf hT k_h0 i2_x1) (fun t_48 i_t_48 => ?_)
        exact tz_some (tq_top t_48)
      ·
        refine tz_if _ (fun c7961 => ?_) (fun c7961 => ?_)
        ·
          have i7_x2 : tq_iv 2 2 x2 := tq_cut (tq_top x2) (tq_eqL c7961 tk_2) (by decide) (by decide)
          refine tz_bd (tz_X12_reachOf hT k_h0 i2_x1) (fun t_54 i_t_54 => ?_)
          exact tz_some (tq_top t_54)
        ·
          exact tz_some (tq_top (-1 : Int32))
