set_option maxHeartbeats 4000000 in
set_option maxRecDepth 100000 in
theorem c_X11_span (l : Launch) (X : tq_X) (Z : tq_Z) (f : Nat → va_E) (h0 : Nat) (z_h0 : tq_z Z h0 (.inl 11)) (x1 : Int32) (x2 : Int32) : tq_Mp l X Z f yX11_span cX11_span 3 (some .int) 3 [.ref h0, .int x1, .int x2] (tq_ri (-2147483648) 2147483647) := by
  refine tq_startip (by decide) (Nat.le_of_ble_eq_true rfl) (fun p e R s m args below meth c Q hC hret hS ls hl => ?_)
  have hC : tq_C p R s m args c X (tq_A Z) RX11 cX11_span 3 3 := hC
  have hx := hC.1.1
  have hb := hC.1.2.1
  have hown := hC.1.2.2.2.1
  have hts := hC.1.2.2.2.2
  have hl : lv_has ls 3 [(0, .ref h0), (1, .int x1), (2, .int x2)] := hl
  refine lv_aload_n hx hb dX11_span_0 rfl (lv_at hl 0 rfl) ?_
  refine gf_RX11_29 hC hS z_h0 dX11_span_1 (fun t_1 p_1 q_1 => ?_)
  refine lv_iload_n hx hb dX11_span_4 rfl (lv_at hl 1 rfl) ?_
  refine tq_callVpi (As := [.int x1]) (rest := []) hC (c_X3_hasKey l X Z _ t_1 p_1 x1) k_X3_hasKey ql_RX11_137 rfl (by decide) hS p_1 rfl hl.1 rfl (Nat.le_of_ble_eq_true rfl) ⟨Nat.zero_le _, Nat.zero_le _⟩ dX11_span_5 (fun t_5 p_5 => ?_)
  have K_22 : ∀ (ls : Array Slot), lv_has ls 3 [] → W p l e R s m args below meth c s.heap [] 0 0 Q (F0 m 22 ls []) := by
    intro  ls  hl
    refine lv_iconst (v := -1) hx hb dX11_span_22 (by decide) ?_
    exact hret (-1) _ _ rfl ⟨_, rfl, tq_w (⟨by decide, by decide⟩ : tq_iv (-1) (-1) (-1)) (by decide) (by decide)⟩ dX11_span_23
  refine lv_if_eq (tgt := 22) hx hb dX11_span_8 (by decide) (fun c_8 => ?_) (fun c_8 => ?_)
  · skip
    have i1_t_5 : tq_iv 0 0 t_5 := tq_cut p_5 (tq_eqL c_8 (⟨by decide, by decide⟩ : tq_iv 0 0 0)) (by decide) (by decide)
    exact K_22 _ (lv_sub hl [] rfl)
  · skip
    have i2_t_5 : tq_iv 1 1 t_5 := tq_w (tq_neLo c_8 p_5 (⟨by decide, by decide⟩ : tq_iv 0 0 0)) (by decide) (by decide)
    refine lv_aload_n hx hb dX11_span_11 rfl (lv_at hl 0 rfl) ?_
    refine gf_RX11_29 hC hS z_h0 dX11_span_12 (fun t_12 p_12 q_12 => ?_)
    refine lv_iload_n hx hb dX11_span_15 rfl (lv_at hl 2 rfl) ?_
    refine tq_callVpi (As := [.int x2]) (rest := []) hC (c_X3_hasKey l X Z _ t_12 p_12 x2) k_X3_hasKey ql_RX11_137 rfl (by decide) hS p_12 rfl hl.1 rfl (Nat.le_of_ble_eq_true rfl) ⟨Nat.zero_le _, Nat.zero_le _⟩ dX11_span_16 (fun t_16 p_16 => ?_)
    refine lv_if_ne (tgt := 24) hx hb dX11_span_19 (by decide) (fun c_19 => ?_) (fun c_19 => ?_)
    · skip
      have i3_t_16 : tq_iv 1 1 t_16 := tq_w (tq_neLo c_19 p_16 (⟨by decide, by decide⟩ : tq_iv 0 0 0)) (by decide) (by decide)
      refine lv_aload_n hx hb dX11_span_24 rfl (lv_at hl 0 rfl) ?_
      refine gf_RX11_37 hC hS z_h0 dX11_span_25 (fun t_25 p_25 q_25 => ?_)
      refine lv_aload_n hx hb dX11_span_28 rfl (lv_at hl 0 rfl) ?_
      refine gf_RX11_41 hC hS z_h0 dX11_span_29 (fun t_29 p_29 q_29 => ?_)
      refine lv_iload_n hx hb dX11_span_32 rfl (lv_at hl 1 rfl) ?_
      refine tq_callVpi (As := [.int x1]) (rest := [.ref t_25]) hC (c_X7_bits l X Z _ t_29 p_29 x1) k_X7_bits ql_RX11_140 rfl (by decide) hS p_29 rfl hl.1 rfl (Nat.le_of_ble_eq_true rfl) ⟨Nat.zero_le _, Nat.zero_le _⟩ dX11_span_33 (fun t_33 p_33 => ?_)
      refine lv_aload_n hx hb dX11_span_36 rfl (lv_at hl 0 rfl) ?_
      refine gf_RX11_41 hC hS z_h0 dX11_span_37 (fun t_37 p_37 q_37 => ?_)
      refine lv_iload_n hx hb dX11_span_40 rfl (lv_at hl 2 rfl) ?_
      refine tq_callVpi (As := [.int x2]) (rest := [.int t_33, .ref t_25]) hC (c_X7_bits l X Z _ t_37 p_37 x2) k_X7_bits ql_RX11_140 rfl (by decide) hS p_37 rfl hl.1 rfl (Nat.le_of_ble_eq_true rfl) ⟨Nat.zero_le _, Nat.zero_le _⟩ dX11_span_41 (fun t_41 p_41 => ?_)
      refine tq_callVpi (As := [.int t_33, .int t_41]) (rest := []) hC (c_X6_apart l X Z _ t_25 p_25 t_33 t_41) k_X6_apart ql_RX11_343 rfl (by decide) hS p_25 rfl hl.1 rfl (Nat.le_of_ble_eq_true rfl) ⟨Nat.zero_le _, Nat.zero_le _⟩ dX11_span_44 (fun t_44 p_44 => ?_)
      exact hret t_44 _ _ rfl ⟨_, rfl, tq_w (tq_top t_44) (by decide) (by decide)⟩ dX11_span_47
    · skip
      have i4_t_16 : tq_iv 0 0 t_16 := tq_cut p_16 (tq_eqL c_19 (⟨by decide, by decide⟩ : tq_iv 0 0 0)) (by decide) (by decide)
      exact K_22 _ (lv_sub hl [] rfl)
set_option maxHeartbeats 4000000 in
set_option maxRecDepth 100000 in
theorem c_X11_twin (l : Launch) (X : tq_X) (Z : tq_Z) (f : Nat → va_E) (h0 : Nat) (z_h0 : tq_z Z h0 (.inl 11)) (x1 : Int32) : tq_Mp l X Z f yX11_twin cX11_twin 6 (some .int) 3 [.ref h0, .int x1] (tq_ri (-1) 7) := by
  refine tq_startip (by decide) (Nat.le_of_ble_eq_true rfl) (fun p e R s m args below meth c Q hC hret hS ls hl => ?_)
  have hC : tq_C p R s m args c X (tq_A Z) RX11 cX11_twin 6 3 := hC
  have hx := hC.1.1
  have hb := hC.1.2.1
  have hown := hC.1.2.2.2.1
  have hts := hC.1.2.2.2.2
  have hl : lv_has ls 6 [(0, .ref h0), (1, .int x1)] := hl
  refine lv_aload_n hx hb dX11_twin_0 rfl (lv_at hl 0 rfl) ?_
  refine gf_RX11_29 hC hS z_h0 dX11_twin_1 (fun t_1 p_1 q_1 => ?_)
  refine lv_iload_n hx hb dX11_twin_4 rfl (lv_at hl 1 rfl) ?_
  refine tq_callVpi (As := [.int x1]) (rest := []) hC (c_X3_hasKey l X Z _ t_1 p_1 x1) k_X3_hasKey ql_RX11_137 rfl (by decide) hS p_1 rfl hl.1 rfl (Nat.le_of_ble_eq_true rfl) ⟨Nat.zero_le _, Nat.zero_le _⟩ dX11_twin_5 (fun t_5 p_5 => ?_)
  refine lv_if_ne (tgt := 13) hx hb dX11_twin_8 (by decide) (fun c_8 => ?_) (fun c_8 => ?_)
  · skip
    have i1_t_5 : tq_iv 1 1 t_5 := tq_w (tq_neLo c_8 p_5 (⟨by decide, by decide⟩ : tq_iv 0 0 0)) (by decide) (by decide)
    refine lv_iconst (v := -1) hx hb dX11_twin_13 (by decide) ?_
    refine lv_istore_n (lv' := [(2, .int (-1)), (0, .ref h0), (1, .int x1)]) hx hb dX11_twin_14 rfl hl (by decide) rfl (fun ls hl => ?_)
    refine lv_iconst (v := 0) hx hb dX11_twin_15 (by decide) ?_
    refine lv_istore_n (lv' := [(3, .int 0), (2, .int (-1)), (0, .ref h0), (1, .int x1)]) hx hb dX11_twin_16 rfl hl (by decide) rfl (fun ls hl => ?_)
    refine lv_iconst (v := 0) hx hb dX11_twin_17 (by decide) ?_
    refine lv_istore (lv' := [(4, .int 0), (3, .int 0), (2, .int (-1)), (0, .ref h0), (1, .int x1)]) hx hb dX11_twin_18 hl (by decide) rfl (fun ls hl => ?_)
    have K_20 : ∀ (n_20 : Nat) (x4_20 : Int32) (x3_20 : Int32) (x2_20 : Int32) (ls : Array Slot), tq_iv (-1) 7 x2_20 → tq_iv 0 8 x4_20 → (2147483647 - x4_20.toInt).toNat < n_20 → lv_has ls 6 [(4, .int x4_20), (3, .int x3_20), (2, .int x2_20), (0, .ref h0), (1, .int x1)] → W p l e R s m args below meth c s.heap [] 0 0 Q (F0 m 20 ls []) := by
      intro n_20
      induction n_20 with
      | zero => intro x4_20 x3_20 x2_20 ls  i2_x2_20 i3_x4_20 hn_20; exact absurd hn_20 (Nat.not_lt_zero _)
      | succ n_20 ih_20 =>
        intro x4_20 x3_20 x2_20 ls  i2_x2_20 i3_x4_20 hn_20 hl
        refine lv_iload hx hb dX11_twin_20 (lv_at hl 0 rfl) ?_
        refine lv_aload_n hx hb dX11_twin_22 rfl (lv_at hl 3 rfl) ?_
        refine gf_RX11_29 hC hS z_h0 dX11_twin_23 (fun t_23 p_23 q_23 => ?_)
        refine gf_RX11_128 hC hS p_23 dX11_twin_26 (fun t_26 p_26 q_26 => ?_)
        refine lv_icmp_ge (tgt := 87) hx hb dX11_twin_29 (by decide) (fun c_29 => ?_) (fun c_29 => ?_)
        · skip
          refine lv_iload_n hx hb dX11_twin_87 rfl (lv_at hl 2 rfl) ?_
          exact hret x2_20 _ _ rfl ⟨_, rfl, tq_w i2_x2_20 (by decide) (by decide)⟩ dX11_twin_88
        · skip
          have i4_x4_20 : tq_iv 0 7 x4_20 := tq_cut i3_x4_20 (tq_ltL (tq_nle c_29) i3_x4_20 p_26) (by decide) (by decide)
          have i5_t_26 : tq_iv 1 8 t_26 := tq_cut p_26 (tq_ltR (tq_nle c_29) i3_x4_20 p_26) (by decide) (by decide)
          refine lv_aload_n hx hb dX11_twin_32 rfl (lv_at hl 3 rfl) ?_
          refine gf_RX11_37 hC hS z_h0 dX11_twin_33 (fun t_33 p_33 q_33 => ?_)
          refine lv_aload_n hx hb dX11_twin_36 rfl (lv_at hl 3 rfl) ?_
          refine gf_RX11_41 hC hS z_h0 dX11_twin_37 (fun t_37 p_37 q_37 => ?_)
          refine lv_iload_n hx hb dX11_twin_40 rfl (lv_at hl 4 rfl) ?_
          refine tq_callVpi (As := [.int x1]) (rest := [.ref t_33]) hC (c_X7_bits l X Z _ t_37 p_37 x1) k_X7_bits ql_RX11_140 rfl (by decide) hS p_37 rfl hl.1 rfl (Nat.le_of_ble_eq_true rfl) ⟨Nat.zero_le _, Nat.zero_le _⟩ dX11_twin_41 (fun t_41 p_41 => ?_)
          refine lv_aload_n hx hb dX11_twin_44 rfl (lv_at hl 3 rfl) ?_
          refine gf_RX11_41 hC hS z_h0 dX11_twin_45 (fun t_45 p_45 q_45 => ?_)
          refine lv_iload hx hb dX11_twin_48 (lv_at hl 0 rfl) ?_
          refine tq_callVpi (As := [.int x4_20]) (rest := [.int t_41, .ref t_33]) hC (c_X7_bits l X Z _ t_45 p_45 x4_20) k_X7_bits ql_RX11_140 rfl (by decide) hS p_45 rfl hl.1 rfl (Nat.le_of_ble_eq_true rfl) ⟨Nat.zero_le _, Nat.zero_le _⟩ dX11_twin_50 (fun t_50 p_50 => ?_)
          refine tq_callVpi (As := [.int t_41, .int t_50]) (rest := []) hC (c_X6_apart l X Z _ t_33 p_33 t_41 t_50) k_X6_apart ql_RX11_343 rfl (by decide) hS p_33 rfl hl.1 rfl (Nat.le_of_ble_eq_true rfl) ⟨Nat.zero_le _, Nat.zero_le _⟩ dX11_twin_53 (fun t_53 p_53 => ?_)
          refine lv_istore (lv' := [(5, .int t_53), (4, .int x4_20), (3, .int x3_20), (2, .int x2_20), (0, .ref h0), (1, .int x1)]) hx hb dX11_twin_56 hl (by decide) rfl (fun ls hl => ?_)
          refine lv_iload hx hb dX11_twin_58 (lv_at hl 1 rfl) ?_
          refine lv_iload_n hx hb dX11_twin_60 rfl (lv_at hl 5 rfl) ?_
          have K_81 : ∀ (x3_81 : Int32) (x2_81 : Int32) (ls : Array Slot), tq_iv (-1) 7 x2_81 → lv_has ls 6 [(4, .int x4_20), (3, .int x3_81), (2, .int x2_81), (0, .ref h0), (1, .int x1)] → W p l e R s m args below meth c s.heap [] 0 0 Q (F0 m 81 ls []) := by
            intro x3_81 x2_81 ls  i6_x2_81 hl
            obtain ⟨t_81, e_81⟩ : ∃ y : Int32, y = x4_20 + 1 := ⟨_, rfl⟩
            have i7_t_81 : tq_iv 1 8 t_81 := tq_w (tq_add e_81 i4_x4_20 (⟨by decide, by decide⟩ : tq_iv 1 1 1) (by decide) (by decide)) (by decide) (by decide)
            refine lv_iinc (v := t_81) (lv' := [(4, .int t_81), (3, .int x3_81), (2, .int x2_81), (0, .ref h0), (1, .int x1)]) hx hb dX11_twin_81 hl (k := 0) rfl (by rw [e_81]; rfl) (by decide) rfl (fun ls hl => ?_)
            refine lv_goto (tgt := 20) hx hb dX11_twin_84 (by decide) ?_
            exact ih_20 t_81 x3_81 x2_81 _ (tq_w i6_x2_81 (by decide) (by decide)) (tq_w i7_t_81 (by decide) (by decide)) (tq_up e_81 i4_x4_20 (⟨by decide, by decide⟩ : tq_iv 1 1 1) (by decide) (by decide) hn_20) (lv_sub hl [0, 1, 2, 3, 4] rfl)
          refine lv_icmp_eq (tgt := 81) hx hb dX11_twin_61 (by decide) (fun c_61 => ?_) (fun c_61 => ?_)
          · skip
            exact K_81 x3_20 x2_20 _ (tq_w i2_x2_20 (by decide) (by decide)) (lv_sub hl [1, 2, 3, 4, 5] rfl)
          · skip
            refine lv_iload_n hx hb dX11_twin_64 rfl (lv_at hl 3 rfl) ?_
            refine lv_iconst (v := -1) hx hb dX11_twin_65 (by decide) ?_
            have K_75 : ∀ (ls : Array Slot), lv_has ls 6 [(5, .int t_53), (4, .int x4_20), (0, .ref h0), (1, .int x1)] → W p l e R s m args below meth c s.heap [] 0 0 Q (F0 m 75 ls []) := by
              intro  ls  hl
              refine lv_iload hx hb dX11_twin_75 (lv_at hl 1 rfl) ?_
              refine lv_istore_n (lv' := [(2, .int x4_20), (5, .int t_53), (4, .int x4_20), (0, .ref h0), (1, .int x1)]) hx hb dX11_twin_77 rfl hl (by decide) rfl (fun ls hl => ?_)
              refine lv_iload hx hb dX11_twin_78 (lv_at hl 1 rfl) ?_
              refine lv_istore_n (lv' := [(3, .int t_53), (2, .int x4_20), (5, .int t_53), (4, .int x4_20), (0, .ref h0), (1, .int x1)]) hx hb dX11_twin_80 rfl hl (by decide) rfl (fun ls hl => ?_)
              exact K_81 t_53 x4_20 _ (tq_w i4_x4_20 (by decide) (by decide)) (lv_sub hl [3, 0, 1, 4, 5] rfl)
            refine lv_icmp_eq (tgt := 75) hx hb dX11_twin_66 (by decide) (fun c_66 => ?_) (fun c_66 => ?_)
            · skip
              have i8_x2_20 : tq_iv (-1) (-1) x2_20 := tq_cut i2_x2_20 (tq_eqL c_66 (⟨by decide, by decide⟩ : tq_iv (-1) (-1) (-1))) (by decide) (by decide)
              exact K_75 _ (lv_sub hl [0, 1, 4, 5] rfl)
            · skip
              have i9_x2_20 : tq_iv 0 7 x2_20 := tq_w (tq_neLo c_66 i2_x2_20 (⟨by decide, by decide⟩ : tq_iv (-1) (-1) (-1))) (by decide) (by decide)
              refine lv_iload hx hb dX11_twin_69 (lv_at hl 0 rfl) ?_
              refine lv_iload_n hx hb dX11_twin_71 rfl (lv_at hl 2 rfl) ?_
              refine lv_icmp_ge (tgt := 81) hx hb dX11_twin_72 (by decide) (fun c_72 => ?_) (fun c_72 => ?_)
              · skip
                exact K_81 x3_20 x2_20 _ (tq_w i9_x2_20 (by decide) (by decide)) (lv_sub hl [1, 2, 3, 4, 5] rfl)
              · skip
                have i10_t_53 : tq_iv (-2147483648) 2147483646 t_53 := tq_cut (tq_top t_53) (tq_ltL (tq_nle c_72) (tq_top t_53) (tq_top x3_20)) (by decide) (by decide)
                have i11_x3_20 : tq_iv (-2147483647) 2147483647 x3_20 := tq_cut (tq_top x3_20) (tq_ltR (tq_nle c_72) (tq_top t_53) (tq_top x3_20)) (by decide) (by decide)
                exact K_75 _ (lv_sub hl [0, 1, 4, 5] rfl)
    exact K_20 _ 0 0 (-1) _ (tq_w (⟨by decide, by decide⟩ : tq_iv (-1) (-1) (-1)) (by decide) (by decide)) (tq_w (⟨by decide, by decide⟩ : tq_iv 0 0 0) (by decide) (by decide)) (Nat.lt_succ_self _) (lv_sub hl [0, 1, 2, 3, 4] rfl)
  · skip
    have i12_t_5 : tq_iv 0 0 t_5 := tq_cut p_5 (tq_eqL c_8 (⟨by decide, by decide⟩ : tq_iv 0 0 0)) (by decide) (by decide)
    refine lv_iconst (v := -1) hx hb dX11_twin_11 (by decide) ?_
    exact hret (-1) _ _ rfl ⟨_, rfl, tq_w (⟨by decide, by decide⟩ : tq_iv (-1) (-1) (-1)) (by decide) (by decide)⟩ dX11_twin_12
set_option maxHeartbeats 4000000 in
set_option maxRecDepth 100000 in
theorem c_X11_differsFromAll (l : Launch) (X : tq_X) (Z : tq_Z) (f : Nat → va_E) (h0 : Nat) (z_h0 : tq_z Z h0 (.inl 11)) (x1 : Int32) (x2 : Int32) : tq_Mp l X Z f yX11_differsFromAll cX11_differsFromAll 4 (some .boolean) 1 [.ref h0, .int x1, .int x2] (tq_ri 0 1) := by
  refine tq_startip (by decide) (Nat.le_of_ble_eq_true rfl) (fun p e R s m args below meth c Q hC hret hS ls hl => ?_)
  have hC : tq_C p R s m args c X (tq_A Z) RX11 cX11_differsFromAll 4 1 := hC
  have hx := hC.1.1
  have hb := hC.1.2.1
  have hown := hC.1.2.2.2.1
  have hts := hC.1.2.2.2.2
  have hl : lv_has ls 4 [(0, .ref h0), (1, .int x1), (2, .int x2)] := hl
  refine lv_iconst (v := 0) hx hb dX11_differsFromAll_0 (by decide) ?_
  refine lv_istore_n (lv' := [(3, .int 0), (0, .ref h0), (1, .int x1), (2, .int x2)]) hx hb dX11_differsFromAll_1 rfl hl (by decide) rfl (fun ls hl => ?_)
  have K_2 : ∀ (n_2 : Nat) (x3_2 : Int32) (ls : Array Slot), tq_iv 0 60 x3_2 → (2147483647 - x3_2.toInt).toNat < n_2 → lv_has ls 4 [(3, .int x3_2), (0, .ref h0), (1, .int x1), (2, .int x2)] → W p l e R s m args below meth c s.heap [] 0 0 Q (F0 m 2 ls []) := by
    intro n_2
    induction n_2 with
    | zero => intro x3_2 ls  i1_x3_2 hn_2; exact absurd hn_2 (Nat.not_lt_zero _)
    | succ n_2 ih_2 =>
      intro x3_2 ls  i1_x3_2 hn_2 hl
      refine lv_iload_n hx hb dX11_differsFromAll_2 rfl (lv_at hl 0 rfl) ?_
      refine lv_iload_n hx hb dX11_differsFromAll_3 rfl (lv_at hl 3 rfl) ?_
      have K_44 : ∀ (ls : Array Slot), lv_has ls 4 [] → W p l e R s m args below meth c s.heap [] 0 0 Q (F0 m 44 ls []) := by
        intro  ls  hl
        refine lv_iconst (v := 1) hx hb dX11_differsFromAll_44 (by decide) ?_
        exact hret 1 _ _ (tq_nb (⟨by decide, by decide⟩ : tq_iv 1 1 1) (by decide) (by decide)) ⟨_, rfl, tq_w (⟨by decide, by decide⟩ : tq_iv 1 1 1) (by decide) (by decide)⟩ dX11_differsFromAll_45
      refine lv_icmp_ge (tgt := 44) hx hb dX11_differsFromAll_4 (by decide) (fun c_4 => ?_) (fun c_4 => ?_)
      · skip
        have i2_x2 : tq_iv (-2147483648) 60 x2 := tq_cut (tq_top x2) (tq_leL c_4 (tq_top x2) i1_x3_2) (by decide) (by decide)
        exact K_44 _ (lv_sub hl [] rfl)
      · skip
        have i3_x2 : tq_iv 1 2147483647 x2 := tq_cut (tq_top x2) (tq_ltR (tq_nle c_4) i1_x3_2 (tq_top x2)) (by decide) (by decide)
        refine lv_iload_n hx hb dX11_differsFromAll_7 rfl (lv_at hl 0 rfl) ?_
        refine lv_bipush (v := 60) hx hb dX11_differsFromAll_8 (by decide) ?_
        refine lv_icmp_ge (tgt := 44) hx hb dX11_differsFromAll_10 (by decide) (fun c_10 => ?_) (fun c_10 => ?_)
        · skip
          have i4_x3_2 : tq_iv 60 60 x3_2 := tq_cut i1_x3_2 (tq_leR c_10 (⟨by decide, by decide⟩ : tq_iv 60 60 60) i1_x3_2) (by decide) (by decide)
          exact K_44 _ (lv_sub hl [] rfl)
        · skip
          have i5_x3_2 : tq_iv 0 59 x3_2 := tq_cut i1_x3_2 (tq_ltL (tq_nle c_10) i1_x3_2 (⟨by decide, by decide⟩ : tq_iv 60 60 60)) (by decide) (by decide)
          refine lv_iload_n hx hb dX11_differsFromAll_13 rfl (lv_at hl 2 rfl) ?_
          refine lv_aload_n hx hb dX11_differsFromAll_14 rfl (lv_at hl 1 rfl) ?_
          refine gf_RX11_97 hC hS z_h0 dX11_differsFromAll_15 (fun t_15 p_15 q_15 => ?_)
          refine lv_iload_n hx hb dX11_differsFromAll_18 rfl (lv_at hl 0 rfl) ?_
          refine tq_iald hC hS p_15 rfl (tq_vin i5_x3_2 (by decide) (by decide)) dX11_differsFromAll_19 (fun t_19 p_19 => ?_)
          refine lv_iand hx hb dX11_differsFromAll_20 ?_
          refine lv_topi (fun t_20 e_20 => ?_)
          refine tq_callSpi (As := [.int t_20]) (rest := []) hC (c_J6_bitCount_0f7a4 l X Z _ t_20) k_J6_bitCount_0f7a4 ql_RX11_171 rfl (by decide) hS hl.1 rfl (Nat.le_of_ble_eq_true rfl) ⟨Nat.zero_le _, Nat.zero_le _⟩ dX11_differsFromAll_21 (fun t_21 p_21 => ?_)
          refine lv_aload_n hx hb dX11_differsFromAll_24 rfl (lv_at hl 1 rfl) ?_
          refine gf_RX11_37 hC hS z_h0 dX11_differsFromAll_25 (fun t_25 p_25 q_25 => ?_)
          refine gf_RX11_243 hC hS p_25 dX11_differsFromAll_28 (fun t_28 p_28 q_28 => ?_)
          refine lv_iconst (v := 2) hx hb dX11_differsFromAll_31 (by decide) ?_
          refine lv_isub hx hb dX11_differsFromAll_32 ?_
          refine lv_topi (fun t_32 e_32 => ?_)
          have i6_t_32 : tq_iv (-2) 997 t_32 := tq_w (tq_sub e_32 p_28 (⟨by decide, by decide⟩ : tq_iv 2 2 2) (by decide) (by decide)) (by decide) (by decide)
          refine lv_icmp_le (tgt := 38) hx hb dX11_differsFromAll_33 (by decide) (fun c_33 => ?_) (fun c_33 => ?_)
          · skip
            have i7_t_32 : tq_iv 0 997 t_32 := tq_cut i6_t_32 (tq_leR c_33 p_21 i6_t_32) (by decide) (by decide)
            obtain ⟨t_38, e_38⟩ : ∃ y : Int32, y = x3_2 + 1 := ⟨_, rfl⟩
            have i8_t_38 : tq_iv 1 60 t_38 := tq_w (tq_add e_38 i5_x3_2 (⟨by decide, by decide⟩ : tq_iv 1 1 1) (by decide) (by decide)) (by decide) (by decide)
            refine lv_iinc (v := t_38) (lv' := [(3, .int t_38), (0, .ref h0), (1, .int x1), (2, .int x2)]) hx hb dX11_differsFromAll_38 hl (k := 0) rfl (by rw [e_38]; rfl) (by decide) rfl (fun ls hl => ?_)
            refine lv_goto (tgt := 2) hx hb dX11_differsFromAll_41 (by decide) ?_
            exact ih_2 t_38 _ (tq_w i8_t_38 (by decide) (by decide)) (tq_up e_38 i5_x3_2 (⟨by decide, by decide⟩ : tq_iv 1 1 1) (by decide) (by decide) hn_2) (lv_sub hl [0, 1, 2, 3] rfl)
          · skip
            have i9_t_32 : tq_iv (-2) 62 t_32 := tq_cut i6_t_32 (tq_ltL (tq_nle c_33) i6_t_32 p_21) (by decide) (by decide)
            refine lv_iconst (v := 0) hx hb dX11_differsFromAll_36 (by decide) ?_
            exact hret 0 _ _ (tq_nb (⟨by decide, by decide⟩ : tq_iv 0 0 0) (by decide) (by decide)) ⟨_, rfl, tq_w (⟨by decide, by decide⟩ : tq_iv 0 0 0) (by decide) (by decide)⟩ dX11_differsFromAll_37
  exact K_2 _ 0 _ (tq_w (⟨by decide, by decide⟩ : tq_iv 0 0 0) (by decide) (by decide)) (Nat.lt_succ_self _) (lv_sub hl [0, 1, 2, 3] rfl)
set_option maxHeartbeats 4000000 in
set_option maxRecDepth 100000 in
theorem c_X11_book (l : Launch) (X : tq_X) (Z : tq_Z) (f : Nat → va_E) (h0 : Nat) (z_h0 : tq_z Z h0 (.inl 11)) (x1 : Int32) : tq_M l X Z f [] yX11_book cX11_book 5 (some .int) 4 [.ref h0, .int x1] (tq_ri (-2147483648) 2147483647) := by
  refine tq_starti (by decide) (Nat.le_of_ble_eq_true rfl) (fun p e R s m args below meth c Q hC hret hS ls hl => ?_)
  have hC : tq_C p R s m args c X (tq_A Z) RX11 cX11_book 5 4 := hC
  have hx := hC.1.1
  have hb := hC.1.2.1
  have hown := hC.1.2.2.2.1
  have hts := hC.1.2.2.2.2
  have hl : lv_has ls 5 [(0, .ref h0), (1, .int x1)] := hl
  generalize hf0 : f = f0 at hret
  have hS : tq_S X Z (tq_A Z) s.heap f0 [] f s.heap [] := hf0 ▸ hS
  refine lv_iload_n hx hb dX11_book_0 rfl (lv_at hl 1 rfl) ?_
  have K_10 : ∀ (f : Nat → va_E) (H : Heap) (locs : List Loc) (ls : Array Slot), tq_S X Z (tq_A Z) s.heap f0 [] f H locs → lv_has ls 5 [] → W p l e R s m args below meth c H locs 0 0 Q (F0 m 10 ls []) := by
    intro f H locs ls  hS hl
    refine lv_iconst (v := -1) hx hb dX11_book_10 (by decide) ?_
    exact hret (-1) _ _ _ _ _ rfl ⟨_, rfl, tq_w (⟨by decide, by decide⟩ : tq_iv (-1) (-1) (-1)) (by decide) (by decide)⟩ hS dX11_book_11
  refine lv_if_lt (tgt := 10) hx hb dX11_book_1 (by decide) (fun c_1 => ?_) (fun c_1 => ?_)
  · skip
    have i1_x1 : tq_iv (-2147483648) (-1) x1 := tq_cut (tq_top x1) (tq_ltL c_1 (tq_top x1) (⟨by decide, by decide⟩ : tq_iv 0 0 0)) (by decide) (by decide)
    exact K_10 _ _ _ _ hS (lv_sub hl [] rfl)
  · skip
    have i2_x1 : tq_iv 0 2147483647 x1 := tq_cut (tq_top x1) (tq_leR (tq_nlt c_1) (⟨by decide, by decide⟩ : tq_iv 0 0 0) (tq_top x1)) (by decide) (by decide)
    refine lv_iload_n hx hb dX11_book_4 rfl (lv_at hl 1 rfl) ?_
    refine lv_bipush (v := 60) hx hb dX11_book_5 (by decide) ?_
    refine lv_icmp_lt (tgt := 12) hx hb dX11_book_7 (by decide) (fun c_7 => ?_) (fun c_7 => ?_)
    · skip
      have i3_x1 : tq_iv 0 59 x1 := tq_cut i2_x1 (tq_ltL c_7 i2_x1 (⟨by decide, by decide⟩ : tq_iv 60 60 60)) (by decide) (by decide)
      refine lv_iconst (v := 0) hx hb dX11_book_12 (by decide) ?_
      refine lv_istore_n (lv' := [(2, .int 0), (0, .ref h0), (1, .int x1)]) hx hb dX11_book_13 rfl hl (by decide) rfl (fun ls hl => ?_)
      refine lv_aload_n hx hb dX11_book_14 rfl (lv_at hl 1 rfl) ?_
      refine gf_RX11_37 hC hS z_h0 dX11_book_15 (fun t_15 p_15 q_15 => ?_)
      refine tq_callVpi (As := []) (rest := []) hC (c_X6_least l X Z _ t_15 p_15) k_X6_least ql_RX11_374 rfl (by decide) hS p_15 rfl hl.1 rfl (Nat.le_of_ble_eq_true rfl) ⟨Nat.zero_le _, Nat.zero_le _⟩ dX11_book_18 (fun t_18 p_18 => ?_)
      refine lv_istore_n (lv' := [(3, .int t_18), (2, .int 0), (0, .ref h0), (1, .int x1)]) hx hb dX11_book_21 rfl hl (by decide) rfl (fun ls hl => ?_)
      refine lv_iconst (v := 0) hx hb dX11_book_22 (by decide) ?_
      refine lv_istore (lv' := [(4, .int 0), (3, .int t_18), (2, .int 0), (0, .ref h0), (1, .int x1)]) hx hb dX11_book_23 hl (by decide) rfl (fun ls hl => ?_)
      have K_25 : ∀ (n_25 : Nat) (x4_25 : Int32) (x3_25 : Int32) (x2_25 : Int32) (f : Nat → va_E) (H : Heap) (locs : List Loc) (ls : Array Slot), tq_S X Z (tq_A Z) s.heap f0 [] f H locs → tq_iv 0 60 x2_25 → tq_iv 0 7776 x4_25 → (2147483647 - x4_25.toInt).toNat < n_25 → lv_has ls 5 [(4, .int x4_25), (3, .int x3_25), (2, .int x2_25), (0, .ref h0), (1, .int x1)] → W p l e R s m args below meth c H locs 0 0 Q (F0 m 25 ls []) := by
        intro n_25
        induction n_25 with
        | zero => intro x4_25 x3_25 x2_25 f H locs ls  hS i4_x2_25 i5_x4_25 hn_25; exact absurd hn_25 (Nat.not_lt_zero _)
        | succ n_25 ih_25 =>
          intro x4_25 x3_25 x2_25 f H locs ls  hS i4_x2_25 i5_x4_25 hn_25 hl
          refine lv_iload hx hb dX11_book_25 (lv_at hl 0 rfl) ?_
          refine lv_sipush (v := 7776) hx hb dX11_book_27 (by decide) ?_
          have K_76 : ∀ (f : Nat → va_E) (H : Heap) (locs : List Loc) (ls : Array Slot), tq_S X Z (tq_A Z) s.heap f0 [] f H locs → lv_has ls 5 [(2, .int x2_25), (0, .ref h0), (1, .int x1)] → W p l e R s m args below meth c H locs 0 0 Q (F0 m 76 ls []) := by
            intro f H locs ls  hS hl
            refine lv_iload_n hx hb dX11_book_76 rfl (lv_at hl 0 rfl) ?_
            refine lv_iload_n hx hb dX11_book_77 rfl (lv_at hl 2 rfl) ?_
            have K_98 : ∀ (y0_98 : Int32) (f : Nat → va_E) (H : Heap) (locs : List Loc) (ls : Array Slot), tq_S X Z (tq_A Z) s.heap f0 [] f H locs → lv_has ls 5 [] → W p l e R s m args below meth c H locs 0 0 Q (F0 m 98 ls [.int y0_98]) := by
              intro y0_98 f H locs ls  hS hl
              exact hret y0_98 _ _ _ _ _ rfl ⟨_, rfl, tq_w (tq_top y0_98) (by decide) (by decide)⟩ hS dX11_book_98
            refine lv_icmp_le (tgt := 97) hx hb dX11_book_78 (by decide) (fun c_78 => ?_) (fun c_78 => ?_)
            · skip
              have i6_x2_25 : tq_iv 0 59 x2_25 := tq_cut i4_x2_25 (tq_leL c_78 i4_x2_25 i3_x1) (by decide) (by decide)
              refine lv_iconst (v := -1) hx hb dX11_book_97 (by decide) ?_
              exact K_98 (-1) _ _ _ _ hS (lv_sub hl [] rfl)
            · skip
              have i7_x2_25 : tq_iv 1 60 x2_25 := tq_cut i4_x2_25 (tq_ltR (tq_nle c_78) i3_x1 i4_x2_25) (by decide) (by decide)
              refine lv_aload_n hx hb dX11_book_81 rfl (lv_at hl 1 rfl) ?_
              refine gf_RX11_37 hC hS z_h0 dX11_book_82 (fun t_82 p_82 q_82 => ?_)
              refine lv_aload_n hx hb dX11_book_85 rfl (lv_at hl 1 rfl) ?_
              refine gf_RX11_97 hC hS z_h0 dX11_book_86 (fun t_86 p_86 q_86 => ?_)
              refine lv_iload_n hx hb dX11_book_89 rfl (lv_at hl 2 rfl) ?_
              refine tq_iald hC hS p_86 rfl (tq_vin i3_x1 (by decide) (by decide)) dX11_book_90 (fun t_90 p_90 => ?_)
              refine tq_callVpi (As := [.int t_90]) (rest := []) hC (c_X6_numberOf l X Z _ t_82 p_82 t_90) k_X6_numberOf ql_RX11_144 rfl (by decide) hS p_82 rfl hl.1 rfl (Nat.le_of_ble_eq_true rfl) ⟨Nat.zero_le _, Nat.zero_le _⟩ dX11_book_91 (fun t_91 p_91 => ?_)
              refine lv_goto (tgt := 98) hx hb dX11_book_94 (by decide) ?_
              exact K_98 t_91 _ _ _ _ hS (lv_sub hl [] rfl)
          refine lv_icmp_ge (tgt := 76) hx hb dX11_book_30 (by decide) (fun c_30 => ?_) (fun c_30 => ?_)
          · skip
            have i8_x4_25 : tq_iv 7776 7776 x4_25 := tq_cut i5_x4_25 (tq_leR c_30 (⟨by decide, by decide⟩ : tq_iv 7776 7776 7776) i5_x4_25) (by decide) (by decide)
            exact K_76 _ _ _ _ hS (lv_sub hl [2, 3, 4] rfl)
          · skip
            have i9_x4_25 : tq_iv 0 7775 x4_25 := tq_cut i5_x4_25 (tq_ltL (tq_nle c_30) i5_x4_25 (⟨by decide, by decide⟩ : tq_iv 7776 7776 7776)) (by decide) (by decide)
            refine lv_iload_n hx hb dX11_book_33 rfl (lv_at hl 1 rfl) ?_
            refine lv_if_eq (tgt := 76) hx hb dX11_book_34 (by decide) (fun c_34 => ?_) (fun c_34 => ?_)
            · skip
              have i10_x3_25 : tq_iv 0 0 x3_25 := tq_cut (tq_top x3_25) (tq_eqL c_34 (⟨by decide, by decide⟩ : tq_iv 0 0 0)) (by decide) (by decide)
              exact K_76 _ _ _ _ hS (lv_sub hl [2, 3, 4] rfl)
            · skip
              refine lv_iload_n hx hb dX11_book_37 rfl (lv_at hl 2 rfl) ?_
              refine lv_iload_n hx hb dX11_book_38 rfl (lv_at hl 4 rfl) ?_
              refine lv_icmp_gt (tgt := 76) hx hb dX11_book_39 (by decide) (fun c_39 => ?_) (fun c_39 => ?_)
              · skip
                have i11_x2_25 : tq_iv 1 60 x2_25 := tq_cut i4_x2_25 (tq_ltR c_39 i3_x1 i4_x2_25) (by decide) (by decide)
                exact K_76 _ _ _ _ hS (lv_sub hl [2, 3, 4] rfl)
              · skip
                have i12_x2_25 : tq_iv 0 59 x2_25 := tq_cut i4_x2_25 (tq_leL (tq_nlt c_39) i4_x2_25 i3_x1) (by decide) (by decide)
                refine lv_aload_n hx hb dX11_book_42 rfl (lv_at hl 3 rfl) ?_
                refine lv_iload_n hx hb dX11_book_43 rfl (lv_at hl 1 rfl) ?_
                refine lv_iload_n hx hb dX11_book_44 rfl (lv_at hl 2 rfl) ?_
                refine tq_callVpi (As := [.int x3_25, .int x2_25]) (rest := []) hC (c_X11_differsFromAll l X Z _ h0 z_h0 x3_25 x2_25) k_X11_differsFromAll ql_RX11_377 rfl (by decide) hS z_h0 rfl hl.1 rfl (Nat.le_of_ble_eq_true rfl) ⟨Nat.zero_le _, Nat.zero_le _⟩ dX11_book_45 (fun t_45 p_45 => ?_)
                have K_61 : ∀ (x2_61 : Int32) (f : Nat → va_E) (H : Heap) (locs : List Loc) (ls : Array Slot), tq_S X Z (tq_A Z) s.heap f0 [] f H locs → tq_iv 0 60 x2_61 → lv_has ls 5 [(4, .int x4_25), (3, .int x3_25), (2, .int x2_61), (0, .ref h0), (1, .int x1)] → W p l e R s m args below meth c H locs 0 0 Q (F0 m 61 ls []) := by
                  intro x2_61 f H locs ls  hS i13_x2_61 hl
                  refine lv_aload_n hx hb dX11_book_61 rfl (lv_at hl 3 rfl) ?_
                  refine gf_RX11_37 hC hS z_h0 dX11_book_62 (fun t_62 p_62 q_62 => ?_)
                  refine lv_iload_n hx hb dX11_book_65 rfl (lv_at hl 1 rfl) ?_
                  refine tq_callVpi (As := [.int x3_25]) (rest := []) hC (c_X6_after l X Z _ t_62 p_62 x3_25) k_X6_after ql_RX11_380 rfl (by decide) hS p_62 rfl hl.1 rfl (Nat.le_of_ble_eq_true rfl) ⟨Nat.zero_le _, Nat.zero_le _⟩ dX11_book_66 (fun t_66 p_66 => ?_)
                  refine lv_istore_n (lv' := [(3, .int t_66), (4, .int x4_25), (2, .int x2_61), (0, .ref h0), (1, .int x1)]) hx hb dX11_book_69 rfl hl (by decide) rfl (fun ls hl => ?_)
                  obtain ⟨t_70, e_70⟩ : ∃ y : Int32, y = x4_25 + 1 := ⟨_, rfl⟩
                  have i14_t_70 : tq_iv 1 7776 t_70 := tq_w (tq_add e_70 i9_x4_25 (⟨by decide, by decide⟩ : tq_iv 1 1 1) (by decide) (by decide)) (by decide) (by decide)
                  refine lv_iinc (v := t_70) (lv' := [(4, .int t_70), (3, .int t_66), (2, .int x2_61), (0, .ref h0), (1, .int x1)]) hx hb dX11_book_70 hl (k := 1) rfl (by rw [e_70]; rfl) (by decide) rfl (fun ls hl => ?_)
                  refine lv_goto (tgt := 25) hx hb dX11_book_73 (by decide) ?_
                  exact ih_25 t_70 t_66 x2_61 _ _ _ _ hS (tq_w i13_x2_61 (by decide) (by decide)) (tq_w i14_t_70 (by decide) (by decide)) (tq_up e_70 i9_x4_25 (⟨by decide, by decide⟩ : tq_iv 1 1 1) (by decide) (by decide) hn_25) (lv_sub hl [0, 1, 2, 3, 4] rfl)
                refine lv_if_eq (tgt := 61) hx hb dX11_book_48 (by decide) (fun c_48 => ?_) (fun c_48 => ?_)
                · skip
                  have i15_t_45 : tq_iv 0 0 t_45 := tq_cut p_45 (tq_eqL c_48 (⟨by decide, by decide⟩ : tq_iv 0 0 0)) (by decide) (by decide)
                  exact K_61 x2_25 _ _ _ _ hS (tq_w i12_x2_25 (by decide) (by decide)) (lv_sub hl [0, 1, 2, 3, 4] rfl)
                · skip
                  have i16_t_45 : tq_iv 1 1 t_45 := tq_w (tq_neLo c_48 p_45 (⟨by decide, by decide⟩ : tq_iv 0 0 0)) (by decide) (by decide)
                  refine lv_aload_n hx hb dX11_book_51 rfl (lv_at hl 3 rfl) ?_
                  refine gf_RX11_97 hC hS z_h0 dX11_book_52 (fun t_52 p_52 q_52 => ?_)
                  refine lv_iload_n hx hb dX11_book_55 rfl (lv_at hl 2 rfl) ?_
                  refine lv_iload_n hx hb dX11_book_56 rfl (lv_at hl 1 rfl) ?_
                  refine tq_iast hC hS p_52 rfl (tq_vin i12_x2_25 (by decide) (by decide)) trivial dX11_book_57 (fun f H locs hS k_57 => ?_)
                  obtain ⟨t_58, e_58⟩ : ∃ y : Int32, y = x2_25 + 1 := ⟨_, rfl⟩
                  have i17_t_58 : tq_iv 1 60 t_58 := tq_w (tq_add e_58 i12_x2_25 (⟨by decide, by decide⟩ : tq_iv 1 1 1) (by decide) (by decide)) (by decide) (by decide)
                  refine lv_iinc (v := t_58) (lv' := [(2, .int t_58), (4, .int x4_25), (3, .int x3_25), (0, .ref h0), (1, .int x1)]) hx hb dX11_book_58 hl (k := 2) rfl (by rw [e_58]; rfl) (by decide) rfl (fun ls hl => ?_)
                  exact K_61 t_58 _ _ _ _ hS (tq_w i17_t_58 (by decide) (by decide)) (lv_sub hl [1, 2, 0, 3, 4] rfl)
      exact K_25 _ 0 t_18 0 _ _ _ _ hS (tq_w (⟨by decide, by decide⟩ : tq_iv 0 0 0) (by decide) (by decide)) (tq_w (⟨by decide, by decide⟩ : tq_iv 0 0 0) (by decide) (by decide)) (Nat.lt_succ_self _) (lv_sub hl [0, 1, 2, 3, 4] rfl)
    · skip
      have i18_x1 : tq_iv 60 2147483647 x1 := tq_cut i2_x1 (tq_leR (tq_nlt c_7) (⟨by decide, by decide⟩ : tq_iv 60 60 60) i2_x1) (by decide) (by decide)
      exact K_10 _ _ _ _ hS (lv_sub hl [] rfl)
set_option maxHeartbeats 4000000 in
set_option maxRecDepth 100000 in
theorem c_X11_lasts (l : Launch) (X : tq_X) (Z : tq_Z) (f : Nat → va_E) (h0 : Nat) (z_h0 : tq_z Z h0 (.inl 11)) (x1 : Int32) (x2 : Int32) : tq_M l X Z f [] yX11_lasts cX11_lasts 4 (some .int) 5 [.ref h0, .int x1, .int x2] (tq_ri (-1) 200) := by
  refine tq_starti (by decide) (Nat.le_of_ble_eq_true rfl) (fun p e R s m args below meth c Q hC hret hS ls hl => ?_)
  have hC : tq_C p R s m args c X (tq_A Z) RX11 cX11_lasts 4 5 := hC
  have hx := hC.1.1
  have hb := hC.1.2.1
  have hown := hC.1.2.2.2.1
  have hts := hC.1.2.2.2.2
  have hl : lv_has ls 4 [(0, .ref h0), (1, .int x1), (2, .int x2)] := hl
  generalize hf0 : f = f0 at hret
  have hS : tq_S X Z (tq_A Z) s.heap f0 [] f s.heap [] := hf0 ▸ hS
  refine lv_aload_n hx hb dX11_lasts_0 rfl (lv_at hl 0 rfl) ?_
  refine gf_RX11_29 hC hS z_h0 dX11_lasts_1 (fun t_1 p_1 q_1 => ?_)
  refine lv_iload_n hx hb dX11_lasts_4 rfl (lv_at hl 1 rfl) ?_
  refine tq_callVpi (As := [.int x1]) (rest := []) hC (c_X3_hasKey l X Z _ t_1 p_1 x1) k_X3_hasKey ql_RX11_137 rfl (by decide) hS p_1 rfl hl.1 rfl (Nat.le_of_ble_eq_true rfl) ⟨Nat.zero_le _, Nat.zero_le _⟩ dX11_lasts_5 (fun t_5 p_5 => ?_)
  have K_22 : ∀ (f : Nat → va_E) (H : Heap) (locs : List Loc) (ls : Array Slot), tq_S X Z (tq_A Z) s.heap f0 [] f H locs → lv_has ls 4 [] → W p l e R s m args below meth c H locs 0 0 Q (F0 m 22 ls []) := by
    intro f H locs ls  hS hl
    refine lv_iconst (v := -1) hx hb dX11_lasts_22 (by decide) ?_
    exact hret (-1) _ _ _ _ _ rfl ⟨_, rfl, tq_w (⟨by decide, by decide⟩ : tq_iv (-1) (-1) (-1)) (by decide) (by decide)⟩ hS dX11_lasts_23
  refine lv_if_eq (tgt := 22) hx hb dX11_lasts_8 (by decide) (fun c_8 => ?_) (fun c_8 => ?_)
  · skip
    have i1_t_5 : tq_iv 0 0 t_5 := tq_cut p_5 (tq_eqL c_8 (⟨by decide, by decide⟩ : tq_iv 0 0 0)) (by decide) (by decide)
    exact K_22 _ _ _ _ hS (lv_sub hl [] rfl)
  · skip
    have i2_t_5 : tq_iv 1 1 t_5 := tq_w (tq_neLo c_8 p_5 (⟨by decide, by decide⟩ : tq_iv 0 0 0)) (by decide) (by decide)
    refine lv_aload_n hx hb dX11_lasts_11 rfl (lv_at hl 0 rfl) ?_
    refine gf_RX11_29 hC hS z_h0 dX11_lasts_12 (fun t_12 p_12 q_12 => ?_)
    refine lv_iload_n hx hb dX11_lasts_15 rfl (lv_at hl 2 rfl) ?_
    refine tq_callVpi (As := [.int x2]) (rest := []) hC (c_X3_hasLock l X Z _ t_12 p_12 x2) k_X3_hasLock ql_RX11_165 rfl (by decide) hS p_12 rfl hl.1 rfl (Nat.le_of_ble_eq_true rfl) ⟨Nat.zero_le _, Nat.zero_le _⟩ dX11_lasts_16 (fun t_16 p_16 => ?_)
    refine lv_if_ne (tgt := 24) hx hb dX11_lasts_19 (by decide) (fun c_19 => ?_) (fun c_19 => ?_)
    · skip
      have i3_t_16 : tq_iv 1 1 t_16 := tq_w (tq_neLo c_19 p_16 (⟨by decide, by decide⟩ : tq_iv 0 0 0)) (by decide) (by decide)
      refine lv_aload_n hx hb dX11_lasts_24 rfl (lv_at hl 0 rfl) ?_
      refine gf_RX11_45 hC hS z_h0 dX11_lasts_25 (fun t_25 p_25 q_25 => ?_)
      refine lv_aload_n hx hb dX11_lasts_28 rfl (lv_at hl 0 rfl) ?_
      refine gf_RX11_41 hC hS z_h0 dX11_lasts_29 (fun t_29 p_29 q_29 => ?_)
      refine tq_callVv (As := [.ref t_29]) (rest := []) hC (c_X7_copyFrom l X Z _ t_25 p_25 t_29 p_29) k_X7_copyFrom ql_RX11_118 (by decide) rfl (by decide) hS p_25 rfl hl.1 rfl (Nat.le_of_ble_eq_true rfl) ⟨Nat.zero_le _, Nat.zero_le _⟩ dX11_lasts_32 (fun f1_32 H locs hS k_32 => ?_)
      refine lv_iconst (v := 0) hx hb dX11_lasts_35 (by decide) ?_
      refine lv_istore_n (lv' := [(3, .int 0), (0, .ref h0), (1, .int x1), (2, .int x2)]) hx hb dX11_lasts_36 rfl hl (by decide) rfl (fun ls hl => ?_)
      have K_37 : ∀ (n_37 : Nat) (x3_37 : Int32) (f : Nat → va_E) (H : Heap) (locs : List Loc) (ls : Array Slot), tq_S X Z (tq_A Z) s.heap f0 [] f H locs → tq_iv 0 201 x3_37 → (2147483647 - x3_37.toInt).toNat < n_37 → lv_has ls 4 [(3, .int x3_37), (0, .ref h0), (1, .int x1), (2, .int x2)] → W p l e R s m args below meth c H locs 0 0 Q (F0 m 37 ls []) := by
        intro n_37
        induction n_37 with
        | zero => intro x3_37 f H locs ls  hS i4_x3_37 hn_37; exact absurd hn_37 (Nat.not_lt_zero _)
        | succ n_37 ih_37 =>
          intro x3_37 f H locs ls  hS i4_x3_37 hn_37 hl
          refine lv_iload_n hx hb dX11_lasts_37 rfl (lv_at hl 0 rfl) ?_
          refine lv_sipush (v := 200) hx hb dX11_lasts_38 (by decide) ?_
          refine lv_icmp_gt (tgt := 83) hx hb dX11_lasts_41 (by decide) (fun c_41 => ?_) (fun c_41 => ?_)
          · skip
            have i5_x3_37 : tq_iv 201 201 x3_37 := tq_cut i4_x3_37 (tq_ltR c_41 (⟨by decide, by decide⟩ : tq_iv 200 200 200) i4_x3_37) (by decide) (by decide)
            refine lv_iconst (v := -1) hx hb dX11_lasts_83 (by decide) ?_
            exact hret (-1) _ _ _ _ _ rfl ⟨_, rfl, tq_w (⟨by decide, by decide⟩ : tq_iv (-1) (-1) (-1)) (by decide) (by decide)⟩ hS dX11_lasts_84
          · skip
            have i6_x3_37 : tq_iv 0 200 x3_37 := tq_cut i4_x3_37 (tq_leL (tq_nlt c_41) i4_x3_37 (⟨by decide, by decide⟩ : tq_iv 200 200 200)) (by decide) (by decide)
            refine lv_aload_n hx hb dX11_lasts_44 rfl (lv_at hl 1 rfl) ?_
            refine gf_RX11_45 hC hS z_h0 dX11_lasts_45 (fun t_45 p_45 q_45 => ?_)
            refine lv_iload_n hx hb dX11_lasts_48 rfl (lv_at hl 2 rfl) ?_
            refine tq_callVpi (As := [.int x1]) (rest := []) hC (c_X7_bits l X Z _ t_45 p_45 x1) k_X7_bits ql_RX11_140 rfl (by decide) hS p_45 rfl hl.1 rfl (Nat.le_of_ble_eq_true rfl) ⟨Nat.zero_le _, Nat.zero_le _⟩ dX11_lasts_49 (fun t_49 p_49 => ?_)
            refine lv_aload_n hx hb dX11_lasts_52 rfl (lv_at hl 1 rfl) ?_
            refine gf_RX11_45 hC hS z_h0 dX11_lasts_53 (fun t_53 p_53 q_53 => ?_)
            refine lv_iload_n hx hb dX11_lasts_56 rfl (lv_at hl 3 rfl) ?_
            refine tq_callVpi (As := [.int x2]) (rest := [.int t_49]) hC (c_X7_pins l X Z _ t_53 p_53 x2) k_X7_pins ql_RX11_168 rfl (by decide) hS p_53 rfl hl.1 rfl (Nat.le_of_ble_eq_true rfl) ⟨Nat.zero_le _, Nat.zero_le _⟩ dX11_lasts_57 (fun t_57 p_57 => ?_)
            refine tq_callSpi (As := [.int t_49, .int t_57]) (rest := []) hC (c_X6_fitsIn l X Z _ t_49 t_57) k_X6_fitsIn ql_RX11_215 rfl (by decide) hS hl.1 rfl (Nat.le_of_ble_eq_true rfl) ⟨Nat.zero_le _, Nat.zero_le _⟩ dX11_lasts_60 (fun t_60 p_60 => ?_)
            refine lv_if_ne (tgt := 68) hx hb dX11_lasts_63 (by decide) (fun c_63 => ?_) (fun c_63 => ?_)
            · skip
              have i7_t_60 : tq_iv 1 1 t_60 := tq_w (tq_neLo c_63 p_60 (⟨by decide, by decide⟩ : tq_iv 0 0 0)) (by decide) (by decide)
              refine lv_aload_n hx hb dX11_lasts_68 rfl (lv_at hl 1 rfl) ?_
              refine lv_aload_n hx hb dX11_lasts_69 rfl (lv_at hl 1 rfl) ?_
              refine gf_RX11_45 hC hS z_h0 dX11_lasts_70 (fun t_70 p_70 q_70 => ?_)
              refine lv_iload_n hx hb dX11_lasts_73 rfl (lv_at hl 2 rfl) ?_
              refine tq_callVv (As := [.ref t_70, .int x1]) (rest := []) hC (c_X11_useOnce l X Z _ h0 z_h0 t_70 p_70 x1) k_X11_useOnce ql_RX11_228 (by decide) rfl (by decide) hS z_h0 rfl hl.1 rfl (Nat.le_of_ble_eq_true rfl) ⟨Nat.zero_le _, Nat.zero_le _⟩ dX11_lasts_74 (fun f1_74 H locs hS k_74 => ?_)
              obtain ⟨t_77, e_77⟩ : ∃ y : Int32, y = x3_37 + 1 := ⟨_, rfl⟩
              have i8_t_77 : tq_iv 1 201 t_77 := tq_w (tq_add e_77 i6_x3_37 (⟨by decide, by decide⟩ : tq_iv 1 1 1) (by decide) (by decide)) (by decide) (by decide)
              refine lv_iinc (v := t_77) (lv' := [(3, .int t_77), (0, .ref h0), (1, .int x1), (2, .int x2)]) hx hb dX11_lasts_77 hl (k := 0) rfl (by rw [e_77]; rfl) (by decide) rfl (fun ls hl => ?_)
              refine lv_goto (tgt := 37) hx hb dX11_lasts_80 (by decide) ?_
              exact ih_37 t_77 _ _ _ _ hS (tq_w i8_t_77 (by decide) (by decide)) (tq_up e_77 i6_x3_37 (⟨by decide, by decide⟩ : tq_iv 1 1 1) (by decide) (by decide) hn_37) (lv_sub hl [0, 1, 2, 3] rfl)
            · skip
              have i9_t_60 : tq_iv 0 0 t_60 := tq_cut p_60 (tq_eqL c_63 (⟨by decide, by decide⟩ : tq_iv 0 0 0)) (by decide) (by decide)
              refine lv_iload_n hx hb dX11_lasts_66 rfl (lv_at hl 0 rfl) ?_
              exact hret x3_37 _ _ _ _ _ rfl ⟨_, rfl, tq_w i6_x3_37 (by decide) (by decide)⟩ hS dX11_lasts_67
      exact K_37 _ 0 _ _ _ _ hS (tq_w (⟨by decide, by decide⟩ : tq_iv 0 0 0) (by decide) (by decide)) (Nat.lt_succ_self _) (lv_sub hl [0, 1, 2, 3] rfl)
    · skip
      have i10_t_16 : tq_iv 0 0 t_16 := tq_cut p_16 (tq_eqL c_19 (⟨by decide, by decide⟩ : tq_iv 0 0 0)) (by decide) (by decide)
      exact K_22 _ _ _ _ hS (lv_sub hl [] rfl)
set_option maxHeartbeats 4000000 in
set_option maxRecDepth 100000 in
theorem c_X11_blanks (l : Launch) (X : tq_X) (Z : tq_Z) (f : Nat → va_E) (h0 : Nat) (z_h0 : tq_z Z h0 (.inl 11)) : tq_M l X Z f [(8, 4), (8, 5), (8, 6), (8, 7), (8, 8), (8, 9)] yX11_blanks cX11_blanks 1 (some .int) 4 [.ref h0] (tq_ri (-2147483648) 2147483647) := by
  refine tq_starti (by decide) (Nat.le_of_ble_eq_true rfl) (fun p e R s m args below meth c Q hC hret hS ls hl => ?_)
  have hC : tq_C p R s m args c X (tq_A Z) RX11 cX11_blanks 1 4 := hC
  have hx := hC.1.1
  have hb := hC.1.2.1
  have hown := hC.1.2.2.2.1
  have hts := hC.1.2.2.2.2
  have hl : lv_has ls 1 [(0, .ref h0)] := hl
  generalize hf0 : f = f0 at hret
  have hS : tq_S X Z (tq_A Z) s.heap f0 [(8, 4), (8, 5), (8, 6), (8, 7), (8, 8), (8, 9)] f s.heap [] := hf0 ▸ hS
  refine lv_aload_n hx hb dX11_blanks_0 rfl (lv_at hl 0 rfl) ?_
  refine gf_RX11_67 hC hS z_h0 dX11_blanks_1 (fun t_1 p_1 q_1 => ?_)
  refine lv_aload_n hx hb dX11_blanks_4 rfl (lv_at hl 0 rfl) ?_
  refine gf_RX11_41 hC hS z_h0 dX11_blanks_5 (fun t_5 p_5 q_5 => ?_)
  refine tq_callVv (As := [.ref t_5]) (rest := []) hC (c_X8_take l X Z _ t_1 p_1 t_5 p_5) k_X8_take ql_RX11_325 (by decide) rfl (by decide) hS p_1 rfl hl.1 rfl (Nat.le_of_ble_eq_true rfl) ⟨Nat.zero_le _, Nat.zero_le _⟩ dX11_blanks_8 (fun f1_8 H locs hS k_8 => ?_)
  refine lv_aload_n hx hb dX11_blanks_11 rfl (lv_at hl 0 rfl) ?_
  refine gf_RX11_67 hC hS z_h0 dX11_blanks_12 (fun t_12 p_12 q_12 => ?_)
  refine lv_iconst (v := 0) hx hb dX11_blanks_15 (by decide) ?_
  refine lv_aload_n hx hb dX11_blanks_16 rfl (lv_at hl 0 rfl) ?_
  refine gf_RX11_29 hC hS z_h0 dX11_blanks_17 (fun t_17 p_17 q_17 => ?_)
  refine tq_callVpi (As := []) (rest := [.int 0, .ref t_12]) hC (c_X3_allLocks l X Z _ t_17 p_17) k_X3_allLocks ql_RX11_383 rfl (by decide) hS p_17 rfl hl.1 rfl (Nat.le_of_ble_eq_true rfl) ⟨Nat.zero_le _, Nat.zero_le _⟩ dX11_blanks_20 (fun t_20 p_20 => ?_)
  refine tq_callVpi (As := [.int 0, .int t_20]) (rest := []) hC (c_X8_total l X Z _ t_12 p_12 0 t_20) k_X8_total ql_RX11_328 rfl (by decide) hS p_12 rfl hl.1 rfl (Nat.le_of_ble_eq_true rfl) ⟨Nat.zero_le _, Nat.zero_le _⟩ dX11_blanks_23 (fun t_23 p_23 => ?_)
  exact hret t_23 _ _ _ _ _ rfl ⟨_, rfl, tq_w (tq_top t_23) (by decide) (by decide)⟩ hS dX11_blanks_26
set_option maxHeartbeats 4000000 in
set_option maxRecDepth 100000 in
theorem c_X11_stuck (l : Launch) (X : tq_X) (Z : tq_Z) (f : Nat → va_E) (h0 : Nat) (z_h0 : tq_z Z h0 (.inl 11)) : tq_Mp l X Z f yX11_stuck cX11_stuck 2 (some .int) 3 [.ref h0] (tq_ri (-2147483648) 2147483647) := by
  refine tq_startip (by decide) (Nat.le_of_ble_eq_true rfl) (fun p e R s m args below meth c Q hC hret hS ls hl => ?_)
  have hC : tq_C p R s m args c X (tq_A Z) RX11 cX11_stuck 2 3 := hC
  have hx := hC.1.1
  have hb := hC.1.2.1
  have hown := hC.1.2.2.2.1
  have hts := hC.1.2.2.2.2
  have hl : lv_has ls 2 [(0, .ref h0)] := hl
  refine lv_aload_n hx hb dX11_stuck_0 rfl (lv_at hl 0 rfl) ?_
  refine gf_RX11_29 hC hS z_h0 dX11_stuck_1 (fun t_1 p_1 q_1 => ?_)
  refine tq_callVpi (As := []) (rest := []) hC (c_X3_allKeys l X Z _ t_1 p_1) k_X3_allKeys ql_RX11_386 rfl (by decide) hS p_1 rfl hl.1 rfl (Nat.le_of_ble_eq_true rfl) ⟨Nat.zero_le _, Nat.zero_le _⟩ dX11_stuck_4 (fun t_4 p_4 => ?_)
  refine lv_aload_n hx hb dX11_stuck_7 rfl (lv_at hl 0 rfl) ?_
  refine gf_RX11_41 hC hS z_h0 dX11_stuck_8 (fun t_8 p_8 q_8 => ?_)
  refine lv_bipush (v := -2) hx hb dX11_stuck_11 (by decide) ?_
  refine lv_aload_n hx hb dX11_stuck_13 rfl (lv_at hl 0 rfl) ?_
  refine gf_RX11_29 hC hS z_h0 dX11_stuck_14 (fun t_14 p_14 q_14 => ?_)
  refine gf_RX11_128 hC hS p_14 dX11_stuck_17 (fun t_17 p_17 q_17 => ?_)
  refine tq_callVpi (As := [.int (-2), .int t_17]) (rest := [.int t_4]) hC (c_X7_heldBy l X Z _ t_8 p_8 (-2) t_17) k_X7_heldBy ql_RX11_206 rfl (by decide) hS p_8 rfl hl.1 rfl (Nat.le_of_ble_eq_true rfl) ⟨Nat.zero_le _, Nat.zero_le _⟩ dX11_stuck_20 (fun t_20 p_20 => ?_)
  refine lv_iconst (v := -1) hx hb dX11_stuck_23 (by decide) ?_
  refine lv_ixor hx hb dX11_stuck_24 ?_
  refine lv_topi (fun t_24 e_24 => ?_)
  refine lv_iand hx hb dX11_stuck_25 ?_
  refine lv_topi (fun t_25 e_25 => ?_)
  have i1_t_25 : tq_iv 0 255 t_25 := tq_and1 e_25 p_4 (by decide)
  refine lv_istore_n (lv' := [(1, .int t_25), (0, .ref h0)]) hx hb dX11_stuck_26 rfl hl (by decide) rfl (fun ls hl => ?_)
  refine lv_aload_n hx hb dX11_stuck_27 rfl (lv_at hl 1 rfl) ?_
  refine gf_RX11_29 hC hS z_h0 dX11_stuck_28 (fun t_28 p_28 q_28 => ?_)
  refine tq_callVpi (As := []) (rest := []) hC (c_X3_allLocks l X Z _ t_28 p_28) k_X3_allLocks ql_RX11_383 rfl (by decide) hS p_28 rfl hl.1 rfl (Nat.le_of_ble_eq_true rfl) ⟨Nat.zero_le _, Nat.zero_le _⟩ dX11_stuck_31 (fun t_31 p_31 => ?_)
  refine lv_aload_n hx hb dX11_stuck_34 rfl (lv_at hl 1 rfl) ?_
  refine gf_RX11_79 hC hS z_h0 dX11_stuck_35 (fun t_35 p_35 q_35 => ?_)
  refine lv_iload_n hx hb dX11_stuck_38 rfl (lv_at hl 0 rfl) ?_
  refine tq_callVpi (As := [.int t_25]) (rest := [.int t_31]) hC (c_X2_locksFor l X Z _ t_35 p_35 t_25) k_X2_locksFor ql_RX11_155 rfl (by decide) hS p_35 rfl hl.1 rfl (Nat.le_of_ble_eq_true rfl) ⟨Nat.zero_le _, Nat.zero_le _⟩ dX11_stuck_39 (fun t_39 p_39 => ?_)
  refine lv_iconst (v := -1) hx hb dX11_stuck_42 (by decide) ?_
  refine lv_ixor hx hb dX11_stuck_43 ?_
  refine lv_topi (fun t_43 e_43 => ?_)
  refine lv_iand hx hb dX11_stuck_44 ?_
  refine lv_topi (fun t_44 e_44 => ?_)
  exact hret t_44 _ _ rfl ⟨_, rfl, tq_w (tq_top t_44) (by decide) (by decide)⟩ dX11_stuck_45
set_option maxHeartbeats 4000000 in
set_option maxRecDepth 100000 in
theorem c_X3_allRooms (l : Launch) (X : tq_X) (Z : tq_Z) (f : Nat → va_E) (h0 : Nat) (z_h0 : tq_z Z h0 (.inl 3)) : tq_Mp l X Z f yX3_allRooms cX3_allRooms 1 (some .int) 0 [.ref h0] (tq_ri (-2147483648) 2147483647) := by
  refine tq_startip (by decide) (Nat.le_of_ble_eq_true rfl) (fun p e R s m args below meth c Q hC hret hS ls hl => ?_)
  have hC : tq_C p R s m args c X (tq_A Z) RX3 cX3_allRooms 1 0 := hC
  have hx := hC.1.1
  have hb := hC.1.2.1
  have hown := hC.1.2.2.2.1
  have hts := hC.1.2.2.2.2
  have hl : lv_has ls 1 [(0, .ref h0)] := hl
  refine lv_iconst (v := 1) hx hb dX3_allRooms_0 (by decide) ?_
  refine lv_aload_n hx hb dX3_allRooms_1 rfl (lv_at hl 0 rfl) ?_
  refine gf_RX3_62 hC hS z_h0 dX3_allRooms_2 (fun t_2 p_2 q_2 => ?_)
  refine lv_ishl hx hb dX3_allRooms_5 ?_
  refine lv_topi (fun t_5 e_5 => ?_)
  refine lv_iconst (v := 1) hx hb dX3_allRooms_6 (by decide) ?_
  refine lv_isub hx hb dX3_allRooms_7 ?_
  refine lv_topi (fun t_7 e_7 => ?_)
  exact hret t_7 _ _ rfl ⟨_, rfl, tq_w (tq_top t_7) (by decide) (by decide)⟩ dX3_allRooms_8
set_option maxHeartbeats 4000000 in
set_option maxRecDepth 100000 in
theorem c_X11_barred (l : Launch) (X : tq_X) (Z : tq_Z) (f : Nat → va_E) (h0 : Nat) (z_h0 : tq_z Z h0 (.inl 11)) : tq_Mp l X Z f yX11_barred cX11_barred 3 (some .int) 5 [.ref h0] (tq_ri (-2147483648) 2147483647) := by
  refine tq_startip (by decide) (Nat.le_of_ble_eq_true rfl) (fun p e R s m args below meth c Q hC hret hS ls hl => ?_)
  have hC : tq_C p R s m args c X (tq_A Z) RX11 cX11_barred 3 5 := hC
  have hx := hC.1.1
  have hb := hC.1.2.1
  have hown := hC.1.2.2.2.1
  have hts := hC.1.2.2.2.2
  have hl : lv_has ls 3 [(0, .ref h0)] := hl
  refine lv_aload_n hx hb dX11_barred_0 rfl (lv_at hl 0 rfl) ?_
  refine gf_RX11_29 hC hS z_h0 dX11_barred_1 (fun t_1 p_1 q_1 => ?_)
  refine tq_callVpi (As := []) (rest := []) hC (c_X3_allRooms l X Z _ t_1 p_1) k_X3_allRooms ql_RX11_389 rfl (by decide) hS p_1 rfl hl.1 rfl (Nat.le_of_ble_eq_true rfl) ⟨Nat.zero_le _, Nat.zero_le _⟩ dX11_barred_4 (fun t_4 p_4 => ?_)
  refine lv_istore_n (lv' := [(1, .int t_4), (0, .ref h0)]) hx hb dX11_barred_7 rfl hl (by decide) rfl (fun ls hl => ?_)
  refine lv_iconst (v := 0) hx hb dX11_barred_8 (by decide) ?_
  refine lv_istore_n (lv' := [(2, .int 0), (1, .int t_4), (0, .ref h0)]) hx hb dX11_barred_9 rfl hl (by decide) rfl (fun ls hl => ?_)
  have K_10 : ∀ (n_10 : Nat) (x2_10 : Int32) (x1_10 : Int32) (ls : Array Slot), tq_iv 0 2147483647 x2_10 → (2147483647 - x2_10.toInt).toNat < n_10 → lv_has ls 3 [(2, .int x2_10), (1, .int x1_10), (0, .ref h0)] → W p l e R s m args below meth c s.heap [] 0 0 Q (F0 m 10 ls []) := by
    intro n_10
    induction n_10 with
    | zero => intro x2_10 x1_10 ls  i1_x2_10 hn_10; exact absurd hn_10 (Nat.not_lt_zero _)
    | succ n_10 ih_10 =>
      intro x2_10 x1_10 ls  i1_x2_10 hn_10 hl
      refine lv_iload_n hx hb dX11_barred_10 rfl (lv_at hl 0 rfl) ?_
      refine lv_aload_n hx hb dX11_barred_11 rfl (lv_at hl 2 rfl) ?_
      refine gf_RX11_29 hC hS z_h0 dX11_barred_12 (fun t_12 p_12 q_12 => ?_)
      refine gf_RX11_368 hC hS p_12 dX11_barred_15 (fun t_15 p_15 q_15 => ?_)
      refine lv_icmp_ge (tgt := 40) hx hb dX11_barred_18 (by decide) (fun c_18 => ?_) (fun c_18 => ?_)
      · skip
        refine lv_iload_n hx hb dX11_barred_40 rfl (lv_at hl 1 rfl) ?_
        exact hret x1_10 _ _ rfl ⟨_, rfl, tq_w (tq_top x1_10) (by decide) (by decide)⟩ dX11_barred_41
      · skip
        have i2_x2_10 : tq_iv 0 2147483646 x2_10 := tq_cut i1_x2_10 (tq_ltL (tq_nle c_18) i1_x2_10 (tq_top t_15)) (by decide) (by decide)
        have i3_t_15 : tq_iv 1 2147483647 t_15 := tq_cut (tq_top t_15) (tq_ltR (tq_nle c_18) i1_x2_10 (tq_top t_15)) (by decide) (by decide)
        refine lv_iload_n hx hb dX11_barred_21 rfl (lv_at hl 1 rfl) ?_
        refine lv_aload_n hx hb dX11_barred_22 rfl (lv_at hl 2 rfl) ?_
        refine gf_RX11_79 hC hS z_h0 dX11_barred_23 (fun t_23 p_23 q_23 => ?_)
        refine lv_iload_n hx hb dX11_barred_26 rfl (lv_at hl 0 rfl) ?_
        refine tq_callVpi (As := [.int x2_10]) (rest := [.int x1_10]) hC (c_X2_reachOf l X Z _ t_23 p_23 x2_10) k_X2_reachOf ql_RX11_209 rfl (by decide) hS p_23 rfl hl.1 rfl (Nat.le_of_ble_eq_true rfl) ⟨Nat.zero_le _, Nat.zero_le _⟩ dX11_barred_27 (fun t_27 p_27 => ?_)
        refine lv_iconst (v := -1) hx hb dX11_barred_30 (by decide) ?_
        refine lv_ixor hx hb dX11_barred_31 ?_
        refine lv_topi (fun t_31 e_31 => ?_)
        refine lv_iand hx hb dX11_barred_32 ?_
        refine lv_topi (fun t_32 e_32 => ?_)
        refine lv_istore_n (lv' := [(1, .int t_32), (2, .int x2_10), (0, .ref h0)]) hx hb dX11_barred_33 rfl hl (by decide) rfl (fun ls hl => ?_)
        obtain ⟨t_34, e_34⟩ : ∃ y : Int32, y = x2_10 + 1 := ⟨_, rfl⟩
        have i4_t_34 : tq_iv 1 2147483647 t_34 := tq_w (tq_add e_34 i2_x2_10 (⟨by decide, by decide⟩ : tq_iv 1 1 1) (by decide) (by decide)) (by decide) (by decide)
        refine lv_iinc (v := t_34) (lv' := [(2, .int t_34), (1, .int t_32), (0, .ref h0)]) hx hb dX11_barred_34 hl (k := 1) rfl (by rw [e_34]; rfl) (by decide) rfl (fun ls hl => ?_)
        refine lv_goto (tgt := 10) hx hb dX11_barred_37 (by decide) ?_
        exact ih_10 t_34 t_32 _ (tq_w i4_t_34 (by decide) (by decide)) (tq_up e_34 i2_x2_10 (⟨by decide, by decide⟩ : tq_iv 1 1 1) (by decide) (by decide) hn_10) (lv_sub hl [0, 1, 2] rfl)
  exact K_10 _ 0 t_4 _ (tq_w (⟨by decide, by decide⟩ : tq_iv 0 0 0) (by decide) (by decide)) (Nat.lt_succ_self _) (lv_sub hl [0, 1, 2] rfl)
set_option maxHeartbeats 4000000 in
set_option maxRecDepth 100000 in
theorem c_X11_haunted (l : Launch) (X : tq_X) (Z : tq_Z) (f : Nat → va_E) (h0 : Nat) (z_h0 : tq_z Z h0 (.inl 11)) : tq_M l X Z f [] yX11_haunted cX11_haunted 5 (some .int) 5 [.ref h0] (tq_ri (-1) 2147483646) := by
  refine tq_starti (by decide) (Nat.le_of_ble_eq_true rfl) (fun p e R s m args below meth c Q hC hret hS ls hl => ?_)
  have hC : tq_C p R s m args c X (tq_A Z) RX11 cX11_haunted 5 5 := hC
  have hx := hC.1.1
  have hb := hC.1.2.1
  have hown := hC.1.2.2.2.1
  have hts := hC.1.2.2.2.2
  have hl : lv_has ls 5 [(0, .ref h0)] := hl
  generalize hf0 : f = f0 at hret
  have hS : tq_S X Z (tq_A Z) s.heap f0 [] f s.heap [] := hf0 ▸ hS
  refine lv_iconst (v := -1) hx hb dX11_haunted_0 (by decide) ?_
  refine lv_istore_n (lv' := [(1, .int (-1)), (0, .ref h0)]) hx hb dX11_haunted_1 rfl hl (by decide) rfl (fun ls hl => ?_)
  refine lv_iconst (v := 0) hx hb dX11_haunted_2 (by decide) ?_
  refine lv_istore_n (lv' := [(2, .int 0), (1, .int (-1)), (0, .ref h0)]) hx hb dX11_haunted_3 rfl hl (by decide) rfl (fun ls hl => ?_)
  refine lv_iconst (v := 0) hx hb dX11_haunted_4 (by decide) ?_
  refine lv_istore_n (lv' := [(3, .int 0), (2, .int 0), (1, .int (-1)), (0, .ref h0)]) hx hb dX11_haunted_5 rfl hl (by decide) rfl (fun ls hl => ?_)
  have K_6 : ∀ (n_6 : Nat) (x3_6 : Int32) (x2_6 : Int32) (x1_6 : Int32) (f : Nat → va_E) (H : Heap) (locs : List Loc) (ls : Array Slot), tq_S X Z (tq_A Z) s.heap f0 [] f H locs → tq_iv (-1) 2147483646 x1_6 → tq_iv 0 2147483647 x3_6 → (2147483647 - x3_6.toInt).toNat < n_6 → lv_has ls 5 [(3, .int x3_6), (2, .int x2_6), (1, .int x1_6), (0, .ref h0)] → W p l e R s m args below meth c H locs 0 0 Q (F0 m 6 ls []) := by
    intro n_6
    induction n_6 with
    | zero => intro x3_6 x2_6 x1_6 f H locs ls  hS i1_x1_6 i2_x3_6 hn_6; exact absurd hn_6 (Nat.not_lt_zero _)
    | succ n_6 ih_6 =>
      intro x3_6 x2_6 x1_6 f H locs ls  hS i1_x1_6 i2_x3_6 hn_6 hl
      refine lv_iload_n hx hb dX11_haunted_6 rfl (lv_at hl 0 rfl) ?_
      refine lv_aload_n hx hb dX11_haunted_7 rfl (lv_at hl 3 rfl) ?_
      refine gf_RX11_29 hC hS z_h0 dX11_haunted_8 (fun t_8 p_8 q_8 => ?_)
      refine gf_RX11_392 hC hS p_8 dX11_haunted_11 (fun t_11 p_11 q_11 => ?_)
      refine lv_icmp_ge (tgt := 46) hx hb dX11_haunted_14 (by decide) (fun c_14 => ?_) (fun c_14 => ?_)
      · skip
        refine lv_iload_n hx hb dX11_haunted_46 rfl (lv_at hl 2 rfl) ?_
        exact hret x1_6 _ _ _ _ _ rfl ⟨_, rfl, tq_w i1_x1_6 (by decide) (by decide)⟩ hS dX11_haunted_47
      · skip
        have i3_x3_6 : tq_iv 0 2147483646 x3_6 := tq_cut i2_x3_6 (tq_ltL (tq_nle c_14) i2_x3_6 (tq_top t_11)) (by decide) (by decide)
        have i4_t_11 : tq_iv 1 2147483647 t_11 := tq_cut (tq_top t_11) (tq_ltR (tq_nle c_14) i2_x3_6 (tq_top t_11)) (by decide) (by decide)
        refine lv_aload_n hx hb dX11_haunted_17 rfl (lv_at hl 3 rfl) ?_
        refine lv_iload_n hx hb dX11_haunted_18 rfl (lv_at hl 0 rfl) ?_
        refine tq_callVi (As := [.int x3_6]) (rest := []) hC (c_X11_ghosts l X Z _ h0 z_h0 x3_6) k_X11_ghosts ql_RX11_395 (by decide) rfl (by decide) hS z_h0 rfl hl.1 rfl (Nat.le_of_ble_eq_true rfl) ⟨Nat.zero_le _, Nat.zero_le _⟩ dX11_haunted_19 (fun t_19 f1_19 H locs p_19 hS k_19 => ?_)
        refine lv_istore (lv' := [(4, .int t_19), (3, .int x3_6), (2, .int x2_6), (1, .int x1_6), (0, .ref h0)]) hx hb dX11_haunted_22 hl (by decide) rfl (fun ls hl => ?_)
        refine lv_iload_n hx hb dX11_haunted_24 rfl (lv_at hl 3 rfl) ?_
        refine lv_iconst (v := -1) hx hb dX11_haunted_25 (by decide) ?_
        have K_40 : ∀ (x2_40 : Int32) (x1_40 : Int32) (f : Nat → va_E) (H : Heap) (locs : List Loc) (ls : Array Slot), tq_S X Z (tq_A Z) s.heap f0 [] f H locs → tq_iv 0 2147483646 x1_40 → lv_has ls 5 [(3, .int x3_6), (2, .int x2_40), (1, .int x1_40), (0, .ref h0)] → W p l e R s m args below meth c H locs 0 0 Q (F0 m 40 ls []) := by
          intro x2_40 x1_40 f H locs ls  hS i5_x1_40 hl
          obtain ⟨t_40, e_40⟩ : ∃ y : Int32, y = x3_6 + 1 := ⟨_, rfl⟩
          have i6_t_40 : tq_iv 1 2147483647 t_40 := tq_w (tq_add e_40 i3_x3_6 (⟨by decide, by decide⟩ : tq_iv 1 1 1) (by decide) (by decide)) (by decide) (by decide)
          refine lv_iinc (v := t_40) (lv' := [(3, .int t_40), (2, .int x2_40), (1, .int x1_40), (0, .ref h0)]) hx hb dX11_haunted_40 hl (k := 0) rfl (by rw [e_40]; rfl) (by decide) rfl (fun ls hl => ?_)
          refine lv_goto (tgt := 6) hx hb dX11_haunted_43 (by decide) ?_
          exact ih_6 t_40 x2_40 x1_40 _ _ _ _ hS (tq_w i5_x1_40 (by decide) (by decide)) (tq_w i6_t_40 (by decide) (by decide)) (tq_up e_40 i3_x3_6 (⟨by decide, by decide⟩ : tq_iv 1 1 1) (by decide) (by decide) hn_6) (lv_sub hl [0, 1, 2, 3] rfl)
        have K_35 : ∀ (f : Nat → va_E) (H : Heap) (locs : List Loc) (ls : Array Slot), tq_S X Z (tq_A Z) s.heap f0 [] f H locs → lv_has ls 5 [(4, .int t_19), (3, .int x3_6), (0, .ref h0)] → W p l e R s m args below meth c H locs 0 0 Q (F0 m 35 ls []) := by
          intro f H locs ls  hS hl
          refine lv_iload_n hx hb dX11_haunted_35 rfl (lv_at hl 1 rfl) ?_
          refine lv_istore_n (lv' := [(1, .int x3_6), (4, .int t_19), (3, .int x3_6), (0, .ref h0)]) hx hb dX11_haunted_36 rfl hl (by decide) rfl (fun ls hl => ?_)
          refine lv_iload hx hb dX11_haunted_37 (lv_at hl 1 rfl) ?_
          refine lv_istore_n (lv' := [(2, .int t_19), (1, .int x3_6), (4, .int t_19), (3, .int x3_6), (0, .ref h0)]) hx hb dX11_haunted_39 rfl hl (by decide) rfl (fun ls hl => ?_)
          exact K_40 t_19 x3_6 _ _ _ _ hS (tq_w i3_x3_6 (by decide) (by decide)) (lv_sub hl [3, 0, 1, 4] rfl)
        refine lv_icmp_eq (tgt := 35) hx hb dX11_haunted_26 (by decide) (fun c_26 => ?_) (fun c_26 => ?_)
        · skip
          have i7_x1_6 : tq_iv (-1) (-1) x1_6 := tq_cut i1_x1_6 (tq_eqL c_26 (⟨by decide, by decide⟩ : tq_iv (-1) (-1) (-1))) (by decide) (by decide)
          exact K_35 _ _ _ _ hS (lv_sub hl [0, 1, 4] rfl)
        · skip
          have i8_x1_6 : tq_iv 0 2147483646 x1_6 := tq_w (tq_neLo c_26 i1_x1_6 (⟨by decide, by decide⟩ : tq_iv (-1) (-1) (-1))) (by decide) (by decide)
          refine lv_iload hx hb dX11_haunted_29 (lv_at hl 0 rfl) ?_
          refine lv_iload_n hx hb dX11_haunted_31 rfl (lv_at hl 2 rfl) ?_
          refine lv_icmp_le (tgt := 40) hx hb dX11_haunted_32 (by decide) (fun c_32 => ?_) (fun c_32 => ?_)
          · skip
            exact K_40 x2_6 x1_6 _ _ _ _ hS (tq_w i8_x1_6 (by decide) (by decide)) (lv_sub hl [1, 2, 3, 4] rfl)
          · skip
            have i9_x2_6 : tq_iv (-2147483648) 2147483646 x2_6 := tq_cut (tq_top x2_6) (tq_ltL (tq_nle c_32) (tq_top x2_6) (tq_top t_19)) (by decide) (by decide)
            have i10_t_19 : tq_iv (-2147483647) 2147483647 t_19 := tq_cut (tq_top t_19) (tq_ltR (tq_nle c_32) (tq_top x2_6) (tq_top t_19)) (by decide) (by decide)
            exact K_35 _ _ _ _ hS (lv_sub hl [0, 1, 4] rfl)
  exact K_6 _ 0 0 (-1) _ _ _ _ hS (tq_w (⟨by decide, by decide⟩ : tq_iv (-1) (-1) (-1)) (by decide) (by decide)) (tq_w (⟨by decide, by decide⟩ : tq_iv 0 0 0) (by decide) (by decide)) (Nat.lt_succ_self _) (lv_sub hl [0, 1, 2, 3] rfl)
set_option maxHeartbeats 4000000 in
set_option maxRecDepth 100000 in
theorem c_X11_best (l : Launch) (X : tq_X) (Z : tq_Z) (f : Nat → va_E) (h0 : Nat) (z_h0 : tq_z Z h0 (.inl 11)) : tq_Mp l X Z f yX11_best cX11_best 5 (some .int) 3 [.ref h0] (tq_ri (-1) 7) := by
  refine tq_startip (by decide) (Nat.le_of_ble_eq_true rfl) (fun p e R s m args below meth c Q hC hret hS ls hl => ?_)
  have hC : tq_C p R s m args c X (tq_A Z) RX11 cX11_best 5 3 := hC
  have hx := hC.1.1
  have hb := hC.1.2.1
  have hown := hC.1.2.2.2.1
  have hts := hC.1.2.2.2.2
  have hl : lv_has ls 5 [(0, .ref h0)] := hl
  refine lv_iconst (v := -1) hx hb dX11_best_0 (by decide) ?_
  refine lv_istore_n (lv' := [(1, .int (-1)), (0, .ref h0)]) hx hb dX11_best_1 rfl hl (by decide) rfl (fun ls hl => ?_)
  refine lv_iconst (v := 0) hx hb dX11_best_2 (by decide) ?_
  refine lv_istore_n (lv' := [(2, .int 0), (1, .int (-1)), (0, .ref h0)]) hx hb dX11_best_3 rfl hl (by decide) rfl (fun ls hl => ?_)
  refine lv_iconst (v := 0) hx hb dX11_best_4 (by decide) ?_
  refine lv_istore_n (lv' := [(3, .int 0), (2, .int 0), (1, .int (-1)), (0, .ref h0)]) hx hb dX11_best_5 rfl hl (by decide) rfl (fun ls hl => ?_)
  have K_6 : ∀ (n_6 : Nat) (x3_6 : Int32) (x2_6 : Int32) (x1_6 : Int32) (ls : Array Slot), tq_iv (-1) 7 x1_6 → tq_iv 0 63 x2_6 → tq_iv 0 8 x3_6 → (2147483647 - x3_6.toInt).toNat < n_6 → lv_has ls 5 [(3, .int x3_6), (2, .int x2_6), (1, .int x1_6), (0, .ref h0)] → W p l e R s m args below meth c s.heap [] 0 0 Q (F0 m 6 ls []) := by
    intro n_6
    induction n_6 with
    | zero => intro x3_6 x2_6 x1_6 ls  i1_x1_6 i2_x2_6 i3_x3_6 hn_6; exact absurd hn_6 (Nat.not_lt_zero _)
    | succ n_6 ih_6 =>
      intro x3_6 x2_6 x1_6 ls  i1_x1_6 i2_x2_6 i3_x3_6 hn_6 hl
      refine lv_iload_n hx hb dX11_best_6 rfl (lv_at hl 0 rfl) ?_
      refine lv_aload_n hx hb dX11_best_7 rfl (lv_at hl 3 rfl) ?_
      refine gf_RX11_29 hC hS z_h0 dX11_best_8 (fun t_8 p_8 q_8 => ?_)
      refine gf_RX11_128 hC hS p_8 dX11_best_11 (fun t_11 p_11 q_11 => ?_)
      refine lv_icmp_ge (tgt := 54) hx hb dX11_best_14 (by decide) (fun c_14 => ?_) (fun c_14 => ?_)
      · skip
        refine lv_iload_n hx hb dX11_best_54 rfl (lv_at hl 2 rfl) ?_
        exact hret x1_6 _ _ rfl ⟨_, rfl, tq_w i1_x1_6 (by decide) (by decide)⟩ dX11_best_55
      · skip
        have i4_x3_6 : tq_iv 0 7 x3_6 := tq_cut i3_x3_6 (tq_ltL (tq_nle c_14) i3_x3_6 p_11) (by decide) (by decide)
        have i5_t_11 : tq_iv 1 8 t_11 := tq_cut p_11 (tq_ltR (tq_nle c_14) i3_x3_6 p_11) (by decide) (by decide)
        refine lv_aload_n hx hb dX11_best_17 rfl (lv_at hl 3 rfl) ?_
        refine gf_RX11_79 hC hS z_h0 dX11_best_18 (fun t_18 p_18 q_18 => ?_)
        refine lv_iconst (v := 1) hx hb dX11_best_21 (by decide) ?_
        refine lv_iload_n hx hb dX11_best_22 rfl (lv_at hl 0 rfl) ?_
        refine lv_ishl hx hb dX11_best_23 ?_
        refine lv_topi (fun t_23 e_23 => ?_)
        have i6_t_23 : tq_iv 1 128 t_23 := tq_shl1 e_23 i4_x3_6 (by decide) (by decide) (by decide) (by decide)
        refine tq_callVpi (As := [.int t_23]) (rest := []) hC (c_X2_locksFor l X Z _ t_18 p_18 t_23) k_X2_locksFor ql_RX11_155 rfl (by decide) hS p_18 rfl hl.1 rfl (Nat.le_of_ble_eq_true rfl) ⟨Nat.zero_le _, Nat.zero_le _⟩ dX11_best_24 (fun t_24 p_24 => ?_)
        refine tq_callSpi (As := [.int t_24]) (rest := []) hC (c_J6_bitCount_0f7a4 l X Z _ t_24) k_J6_bitCount_0f7a4 ql_RX11_171 rfl (by decide) hS hl.1 rfl (Nat.le_of_ble_eq_true rfl) ⟨Nat.zero_le _, Nat.zero_le _⟩ dX11_best_27 (fun t_27 p_27 => ?_)
        refine lv_istore (lv' := [(4, .int t_27), (3, .int x3_6), (2, .int x2_6), (1, .int x1_6), (0, .ref h0)]) hx hb dX11_best_30 hl (by decide) rfl (fun ls hl => ?_)
        refine lv_iload_n hx hb dX11_best_32 rfl (lv_at hl 3 rfl) ?_
        refine lv_iconst (v := -1) hx hb dX11_best_33 (by decide) ?_
        have K_48 : ∀ (x2_48 : Int32) (x1_48 : Int32) (ls : Array Slot), tq_iv 0 7 x1_48 → tq_iv 0 63 x2_48 → lv_has ls 5 [(3, .int x3_6), (2, .int x2_48), (1, .int x1_48), (0, .ref h0)] → W p l e R s m args below meth c s.heap [] 0 0 Q (F0 m 48 ls []) := by
          intro x2_48 x1_48 ls  i7_x1_48 i8_x2_48 hl
          obtain ⟨t_48, e_48⟩ : ∃ y : Int32, y = x3_6 + 1 := ⟨_, rfl⟩
          have i9_t_48 : tq_iv 1 8 t_48 := tq_w (tq_add e_48 i4_x3_6 (⟨by decide, by decide⟩ : tq_iv 1 1 1) (by decide) (by decide)) (by decide) (by decide)
          refine lv_iinc (v := t_48) (lv' := [(3, .int t_48), (2, .int x2_48), (1, .int x1_48), (0, .ref h0)]) hx hb dX11_best_48 hl (k := 0) rfl (by rw [e_48]; rfl) (by decide) rfl (fun ls hl => ?_)
          refine lv_goto (tgt := 6) hx hb dX11_best_51 (by decide) ?_
          exact ih_6 t_48 x2_48 x1_48 _ (tq_w i7_x1_48 (by decide) (by decide)) (tq_w i8_x2_48 (by decide) (by decide)) (tq_w i9_t_48 (by decide) (by decide)) (tq_up e_48 i4_x3_6 (⟨by decide, by decide⟩ : tq_iv 1 1 1) (by decide) (by decide) hn_6) (lv_sub hl [0, 1, 2, 3] rfl)
        have K_43 : ∀ (ls : Array Slot), lv_has ls 5 [(4, .int t_27), (3, .int x3_6), (0, .ref h0)] → W p l e R s m args below meth c s.heap [] 0 0 Q (F0 m 43 ls []) := by
          intro  ls  hl
          refine lv_iload_n hx hb dX11_best_43 rfl (lv_at hl 1 rfl) ?_
          refine lv_istore_n (lv' := [(1, .int x3_6), (4, .int t_27), (3, .int x3_6), (0, .ref h0)]) hx hb dX11_best_44 rfl hl (by decide) rfl (fun ls hl => ?_)
          refine lv_iload hx hb dX11_best_45 (lv_at hl 1 rfl) ?_
          refine lv_istore_n (lv' := [(2, .int t_27), (1, .int x3_6), (4, .int t_27), (3, .int x3_6), (0, .ref h0)]) hx hb dX11_best_47 rfl hl (by decide) rfl (fun ls hl => ?_)
          exact K_48 t_27 x3_6 _ (tq_w i4_x3_6 (by decide) (by decide)) (tq_w p_27 (by decide) (by decide)) (lv_sub hl [3, 0, 1, 4] rfl)
        refine lv_icmp_eq (tgt := 43) hx hb dX11_best_34 (by decide) (fun c_34 => ?_) (fun c_34 => ?_)
        · skip
          have i10_x1_6 : tq_iv (-1) (-1) x1_6 := tq_cut i1_x1_6 (tq_eqL c_34 (⟨by decide, by decide⟩ : tq_iv (-1) (-1) (-1))) (by decide) (by decide)
          exact K_43 _ (lv_sub hl [0, 1, 4] rfl)
        · skip
          have i11_x1_6 : tq_iv 0 7 x1_6 := tq_w (tq_neLo c_34 i1_x1_6 (⟨by decide, by decide⟩ : tq_iv (-1) (-1) (-1))) (by decide) (by decide)
          refine lv_iload hx hb dX11_best_37 (lv_at hl 0 rfl) ?_
          refine lv_iload_n hx hb dX11_best_39 rfl (lv_at hl 2 rfl) ?_
          refine lv_icmp_le (tgt := 48) hx hb dX11_best_40 (by decide) (fun c_40 => ?_) (fun c_40 => ?_)
          · skip
            exact K_48 x2_6 x1_6 _ (tq_w i11_x1_6 (by decide) (by decide)) (tq_w i2_x2_6 (by decide) (by decide)) (lv_sub hl [1, 2, 3, 4] rfl)
          · skip
            have i12_x2_6 : tq_iv 0 62 x2_6 := tq_cut i2_x2_6 (tq_ltL (tq_nle c_40) i2_x2_6 p_27) (by decide) (by decide)
            have i13_t_27 : tq_iv 1 63 t_27 := tq_cut p_27 (tq_ltR (tq_nle c_40) i2_x2_6 p_27) (by decide) (by decide)
            exact K_43 _ (lv_sub hl [0, 1, 4] rfl)
  exact K_6 _ 0 0 (-1) _ (tq_w (⟨by decide, by decide⟩ : tq_iv (-1) (-1) (-1)) (by decide) (by decide)) (tq_w (⟨by decide, by decide⟩ : tq_iv 0 0 0) (by decide) (by decide)) (tq_w (⟨by decide, by decide⟩ : tq_iv 0 0 0) (by decide) (by decide)) (Nat.lt_succ_self _) (lv_sub hl [0, 1, 2, 3] rfl)
set_option maxHeartbeats 4000000 in
set_option maxRecDepth 100000 in
theorem c_X11_idle (l : Launch) (X : tq_X) (Z : tq_Z) (f : Nat → va_E) (h0 : Nat) (z_h0 : tq_z Z h0 (.inl 11)) (x1 : Int32) : tq_Mp l X Z f yX11_idle cX11_idle 2 (some .int) 3 [.ref h0, .int x1] (tq_ri (-2147483648) 2147483647) := by
  refine tq_startip (by decide) (Nat.le_of_ble_eq_true rfl) (fun p e R s m args below meth c Q hC hret hS ls hl => ?_)
  have hC : tq_C p R s m args c X (tq_A Z) RX11 cX11_idle 2 3 := hC
  have hx := hC.1.1
  have hb := hC.1.2.1
  have hown := hC.1.2.2.2.1
  have hts := hC.1.2.2.2.2
  have hl : lv_has ls 2 [(0, .ref h0), (1, .int x1)] := hl
  refine lv_iload_n hx hb dX11_idle_0 rfl (lv_at hl 1 rfl) ?_
  by_cases s_1_0 : Int32.toInt x1 = 0
  · refine lv_lookup (tgt := 28) hx hb dX11_idle_1 (by decide) (by first | (rw [s_1_0]; done) | (rw [s_1_0]; rfl)) (by decide) ?_
    refine lv_aload_n hx hb dX11_idle_28 rfl (lv_at hl 0 rfl) ?_
    refine gf_RX11_41 hC hS z_h0 dX11_idle_29 (fun t_29 p_29 q_29 => ?_)
    refine lv_iconst (v := -1) hx hb dX11_idle_32 (by decide) ?_
    refine lv_aload_n hx hb dX11_idle_33 rfl (lv_at hl 0 rfl) ?_
    refine gf_RX11_29 hC hS z_h0 dX11_idle_34 (fun t_34 p_34 q_34 => ?_)
    refine gf_RX11_128 hC hS p_34 dX11_idle_37 (fun t_37 p_37 q_37 => ?_)
    refine tq_callVpi (As := [.int (-1), .int t_37]) (rest := []) hC (c_X7_heldBy l X Z _ t_29 p_29 (-1) t_37) k_X7_heldBy ql_RX11_206 rfl (by decide) hS p_29 rfl hl.1 rfl (Nat.le_of_ble_eq_true rfl) ⟨Nat.zero_le _, Nat.zero_le _⟩ dX11_idle_40 (fun t_40 p_40 => ?_)
    exact hret t_40 _ _ rfl ⟨_, rfl, tq_w (tq_top t_40) (by decide) (by decide)⟩ dX11_idle_43
  by_cases s_1_1 : Int32.toInt x1 = 1
  · refine lv_lookup (tgt := 44) hx hb dX11_idle_1 (by decide) (by first | (rw [s_1_1]; done) | (rw [s_1_1]; rfl)) (by decide) ?_
    refine lv_aload_n hx hb dX11_idle_44 rfl (lv_at hl 0 rfl) ?_
    refine gf_RX11_41 hC hS z_h0 dX11_idle_45 (fun t_45 p_45 q_45 => ?_)
    refine lv_bipush (v := -2) hx hb dX11_idle_48 (by decide) ?_
    refine lv_aload_n hx hb dX11_idle_50 rfl (lv_at hl 0 rfl) ?_
    refine gf_RX11_29 hC hS z_h0 dX11_idle_51 (fun t_51 p_51 q_51 => ?_)
    refine gf_RX11_128 hC hS p_51 dX11_idle_54 (fun t_54 p_54 q_54 => ?_)
    refine tq_callVpi (As := [.int (-2), .int t_54]) (rest := []) hC (c_X7_heldBy l X Z _ t_45 p_45 (-2) t_54) k_X7_heldBy ql_RX11_206 rfl (by decide) hS p_45 rfl hl.1 rfl (Nat.le_of_ble_eq_true rfl) ⟨Nat.zero_le _, Nat.zero_le _⟩ dX11_idle_57 (fun t_57 p_57 => ?_)
    exact hret t_57 _ _ rfl ⟨_, rfl, tq_w (tq_top t_57) (by decide) (by decide)⟩ dX11_idle_60
  refine lv_lookup (off := 60) (tgt := 61) hx hb dX11_idle_1 (by decide) (by simp only [Op.lookupswitch.offset_cons, Op.lookupswitch.offset_nil]; rw [if_neg (fun q => s_1_0 q.symm), if_neg (fun q => s_1_1 q.symm)]) (by decide) ?_
  refine lv_iconst (v := -1) hx hb dX11_idle_61 (by decide) ?_
  exact hret (-1) _ _ rfl ⟨_, rfl, tq_w (⟨by decide, by decide⟩ : tq_iv (-1) (-1) (-1)) (by decide) (by decide)⟩ dX11_idle_62
set_option maxHeartbeats 4000000 in
set_option maxRecDepth 100000 in
theorem c_X11_law (l : Launch) (X : tq_X) (Z : tq_Z) (f : Nat → va_E) (h0 : Nat) (z_h0 : tq_z Z h0 (.inl 11)) (x1 : Int32) : tq_M l X Z f [] yX11_law cX11_law 2 (some .int) 3 [.ref h0, .int x1] (tq_ri (-2147483648) 2147483647) := by
  refine tq_starti (by decide) (Nat.le_of_ble_eq_true rfl) (fun p e R s m args below meth c Q hC hret hS ls hl => ?_)
  have hC : tq_C p R s m args c X (tq_A Z) RX11 cX11_law 2 3 := hC
  have hx := hC.1.1
  have hb := hC.1.2.1
  have hown := hC.1.2.2.2.1
  have hts := hC.1.2.2.2.2
  have hl : lv_has ls 2 [(0, .ref h0), (1, .int x1)] := hl
  generalize hf0 : f = f0 at hret
  have hS : tq_S X Z (tq_A Z) s.heap f0 [] f s.heap [] := hf0 ▸ hS
  refine lv_iload_n hx hb dX11_law_0 rfl (lv_at hl 1 rfl) ?_
  have K_28 : ∀ (y0_28 : Int32) (f : Nat → va_E) (H : Heap) (locs : List Loc) (ls : Array Slot), tq_S X Z (tq_A Z) s.heap f0 [] f H locs → lv_has ls 2 [] → W p l e R s m args below meth c H locs 0 0 Q (F0 m 28 ls [.int y0_28]) := by
    intro y0_28 f H locs ls  hS hl
    exact hret y0_28 _ _ _ _ _ rfl ⟨_, rfl, tq_w (tq_top y0_28) (by decide) (by decide)⟩ hS dX11_law_28
  have K_9 : ∀ (f : Nat → va_E) (H : Heap) (locs : List Loc) (ls : Array Slot), tq_S X Z (tq_A Z) s.heap f0 [] f H locs → lv_has ls 2 [] → W p l e R s m args below meth c H locs 0 0 Q (F0 m 9 ls []) := by
    intro f H locs ls  hS hl
    refine lv_iconst (v := -1) hx hb dX11_law_9 (by decide) ?_
    refine lv_goto (tgt := 28) hx hb dX11_law_10 (by decide) ?_
    exact K_28 (-1) _ _ _ _ hS (lv_sub hl [] rfl)
  refine lv_if_lt (tgt := 9) hx hb dX11_law_1 (by decide) (fun c_1 => ?_) (fun c_1 => ?_)
  · skip
    have i1_x1 : tq_iv (-2147483648) (-1) x1 := tq_cut (tq_top x1) (tq_ltL c_1 (tq_top x1) (⟨by decide, by decide⟩ : tq_iv 0 0 0)) (by decide) (by decide)
    exact K_9 _ _ _ _ hS (lv_sub hl [] rfl)
  · skip
    have i2_x1 : tq_iv 0 2147483647 x1 := tq_cut (tq_top x1) (tq_leR (tq_nlt c_1) (⟨by decide, by decide⟩ : tq_iv 0 0 0) (tq_top x1)) (by decide) (by decide)
    refine lv_iload_n hx hb dX11_law_4 rfl (lv_at hl 1 rfl) ?_
    refine lv_iconst (v := 5) hx hb dX11_law_5 (by decide) ?_
    refine lv_icmp_le (tgt := 13) hx hb dX11_law_6 (by decide) (fun c_6 => ?_) (fun c_6 => ?_)
    · skip
      have i3_x1 : tq_iv 0 5 x1 := tq_cut i2_x1 (tq_leL c_6 i2_x1 (⟨by decide, by decide⟩ : tq_iv 5 5 5)) (by decide) (by decide)
      refine lv_aload_n hx hb dX11_law_13 rfl (lv_at hl 0 rfl) ?_
      refine gf_RX11_37 hC hS z_h0 dX11_law_14 (fun t_14 p_14 q_14 => ?_)
      refine lv_aload_n hx hb dX11_law_17 rfl (lv_at hl 0 rfl) ?_
      refine gf_RX11_37 hC hS z_h0 dX11_law_18 (fun t_18 p_18 q_18 => ?_)
      refine tq_callVpi (As := []) (rest := [.ref t_14]) hC (c_X6_everything l X Z _ t_18 p_18) k_X6_everything ql_RX11_301 rfl (by decide) hS p_18 rfl hl.1 rfl (Nat.le_of_ble_eq_true rfl) ⟨Nat.zero_le _, Nat.zero_le _⟩ dX11_law_21 (fun t_21 p_21 => ?_)
      refine lv_iload_n hx hb dX11_law_24 rfl (lv_at hl 1 rfl) ?_
      refine tq_callVi (As := [.int t_21, .int x1]) (rest := []) hC (c_X6_howMany l X Z _ t_14 p_14 t_21 x1) k_X6_howMany ql_RX11_307 (by decide) rfl (by decide) hS p_14 rfl hl.1 rfl (Nat.le_of_ble_eq_true rfl) ⟨Nat.zero_le _, Nat.zero_le _⟩ dX11_law_25 (fun t_25 f1_25 H locs p_25 hS k_25 => ?_)
      exact K_28 t_25 _ _ _ _ hS (lv_sub hl [] rfl)
    · skip
      have i4_x1 : tq_iv 6 2147483647 x1 := tq_cut i2_x1 (tq_ltR (tq_nle c_6) (⟨by decide, by decide⟩ : tq_iv 5 5 5) i2_x1) (by decide) (by decide)
      exact K_9 _ _ _ _ hS (lv_sub hl [] rfl)
set_option maxHeartbeats 4000000 in
set_option maxRecDepth 100000 in
theorem c_X11_commonDivisor (l : Launch) (X : tq_X) (Z : tq_Z) (f : Nat → va_E) (x0 : Int32) (x1 : Int32) : tq_Mp l X Z f yX11_commonDivisor cX11_commonDivisor 6 (some .int) 0 [.int x0, .int x1] (tq_ri (-2147483648) 2147483647) := by
  refine tq_startip (by decide) (Nat.le_of_ble_eq_true rfl) (fun p e R s m args below meth c Q hC hret hS ls hl => ?_)
  have hC : tq_C p R s m args c X (tq_A Z) RX11 cX11_commonDivisor 6 0 := hC
  have hx := hC.1.1
  have hb := hC.1.2.1
  have hown := hC.1.2.2.2.1
  have hts := hC.1.2.2.2.2
  have hl : lv_has ls 6 [(0, .int x0), (1, .int x1)] := hl
  refine lv_iload_n hx hb dX11_commonDivisor_0 rfl (lv_at hl 0 rfl) ?_
  refine lv_istore_n (lv' := [(2, .int x0), (0, .int x0), (1, .int x1)]) hx hb dX11_commonDivisor_1 rfl hl (by decide) rfl (fun ls hl => ?_)
  refine lv_iload_n hx hb dX11_commonDivisor_2 rfl (lv_at hl 2 rfl) ?_
  refine lv_istore_n (lv' := [(3, .int x1), (2, .int x0), (0, .int x0), (1, .int x1)]) hx hb dX11_commonDivisor_3 rfl hl (by decide) rfl (fun ls hl => ?_)
  refine lv_iconst (v := 0) hx hb dX11_commonDivisor_4 (by decide) ?_
  refine lv_istore (lv' := [(4, .int 0), (3, .int x1), (2, .int x0), (0, .int x0), (1, .int x1)]) hx hb dX11_commonDivisor_5 hl (by decide) rfl (fun ls hl => ?_)
  have K_7 : ∀ (n_7 : Nat) (x4_7 : Int32) (x3_7 : Int32) (x2_7 : Int32) (ls : Array Slot), tq_iv 0 64 x4_7 → (2147483647 - x4_7.toInt).toNat < n_7 → lv_has ls 6 [(4, .int x4_7), (3, .int x3_7), (2, .int x2_7)] → W p l e R s m args below meth c s.heap [] 0 0 Q (F0 m 7 ls []) := by
    intro n_7
    induction n_7 with
    | zero => intro x4_7 x3_7 x2_7 ls  i1_x4_7 hn_7; exact absurd hn_7 (Nat.not_lt_zero _)
    | succ n_7 ih_7 =>
      intro x4_7 x3_7 x2_7 ls  i1_x4_7 hn_7 hl
      refine lv_iload hx hb dX11_commonDivisor_7 (lv_at hl 0 rfl) ?_
      refine lv_bipush (v := 64) hx hb dX11_commonDivisor_9 (by decide) ?_
      have K_34 : ∀ (ls : Array Slot), lv_has ls 6 [(2, .int x2_7)] → W p l e R s m args below meth c s.heap [] 0 0 Q (F0 m 34 ls []) := by
        intro  ls  hl
        refine lv_iload_n hx hb dX11_commonDivisor_34 rfl (lv_at hl 0 rfl) ?_
        exact hret x2_7 _ _ rfl ⟨_, rfl, tq_w (tq_top x2_7) (by decide) (by decide)⟩ dX11_commonDivisor_35
      refine lv_icmp_ge (tgt := 34) hx hb dX11_commonDivisor_11 (by decide) (fun c_11 => ?_) (fun c_11 => ?_)
      · skip
        have i2_x4_7 : tq_iv 64 64 x4_7 := tq_cut i1_x4_7 (tq_leR c_11 (⟨by decide, by decide⟩ : tq_iv 64 64 64) i1_x4_7) (by decide) (by decide)
        exact K_34 _ (lv_sub hl [2] rfl)
      · skip
        have i3_x4_7 : tq_iv 0 63 x4_7 := tq_cut i1_x4_7 (tq_ltL (tq_nle c_11) i1_x4_7 (⟨by decide, by decide⟩ : tq_iv 64 64 64)) (by decide) (by decide)
        refine lv_iload_n hx hb dX11_commonDivisor_14 rfl (lv_at hl 1 rfl) ?_
        refine lv_if_eq (tgt := 34) hx hb dX11_commonDivisor_15 (by decide) (fun c_15 => ?_) (fun c_15 => ?_)
        · skip
          have i4_x3_7 : tq_iv 0 0 x3_7 := tq_cut (tq_top x3_7) (tq_eqL c_15 (⟨by decide, by decide⟩ : tq_iv 0 0 0)) (by decide) (by decide)
          exact K_34 _ (lv_sub hl [2] rfl)
        · skip
          refine lv_iload_n hx hb dX11_commonDivisor_18 rfl (lv_at hl 2 rfl) ?_
          refine lv_iload_n hx hb dX11_commonDivisor_19 rfl (lv_at hl 1 rfl) ?_
          refine lv_irem hx hb dX11_commonDivisor_20 c_15 ?_
          refine lv_topi (fun t_20 e_20 => ?_)
          refine lv_istore (lv' := [(5, .int t_20), (4, .int x4_7), (3, .int x3_7), (2, .int x2_7)]) hx hb dX11_commonDivisor_21 hl (by decide) rfl (fun ls hl => ?_)
          refine lv_iload_n hx hb dX11_commonDivisor_23 rfl (lv_at hl 2 rfl) ?_
          refine lv_istore_n (lv' := [(2, .int x3_7), (5, .int t_20), (4, .int x4_7), (3, .int x3_7)]) hx hb dX11_commonDivisor_24 rfl hl (by decide) rfl (fun ls hl => ?_)
          refine lv_iload hx hb dX11_commonDivisor_25 (lv_at hl 1 rfl) ?_
          refine lv_istore_n (lv' := [(3, .int t_20), (2, .int x3_7), (5, .int t_20), (4, .int x4_7)]) hx hb dX11_commonDivisor_27 rfl hl (by decide) rfl (fun ls hl => ?_)
          obtain ⟨t_28, e_28⟩ : ∃ y : Int32, y = x4_7 + 1 := ⟨_, rfl⟩
          have i5_t_28 : tq_iv 1 64 t_28 := tq_w (tq_add e_28 i3_x4_7 (⟨by decide, by decide⟩ : tq_iv 1 1 1) (by decide) (by decide)) (by decide) (by decide)
          refine lv_iinc (v := t_28) (lv' := [(4, .int t_28), (3, .int t_20), (2, .int x3_7), (5, .int t_20)]) hx hb dX11_commonDivisor_28 hl (k := 3) rfl (by rw [e_28]; rfl) (by decide) rfl (fun ls hl => ?_)
          refine lv_goto (tgt := 7) hx hb dX11_commonDivisor_31 (by decide) ?_
          exact ih_7 t_28 t_20 x3_7 _ (tq_w i5_t_28 (by decide) (by decide)) (tq_up e_28 i3_x4_7 (⟨by decide, by decide⟩ : tq_iv 1 1 1) (by decide) (by decide) hn_7) (lv_sub hl [0, 1, 2] rfl)
  exact K_7 _ 0 x1 x0 _ (tq_w (⟨by decide, by decide⟩ : tq_iv 0 0 0) (by decide) (by decide)) (Nat.lt_succ_self _) (lv_sub hl [0, 1, 2] rfl)
set_option maxHeartbeats 4000000 in
set_option maxRecDepth 100000 in
theorem c_X11_odds (l : Launch) (X : tq_X) (Z : tq_Z) (f : Nat → va_E) (h0 : Nat) (z_h0 : tq_z Z h0 (.inl 11)) (x1 : Int32) (x2 : Int32) : tq_M l X Z f [] yX11_odds cX11_odds 6 (some .int) 3 [.ref h0, .int x1, .int x2] (tq_ri (-2147483648) 2147483647) := by
  refine tq_starti (by decide) (Nat.le_of_ble_eq_true rfl) (fun p e R s m args below meth c Q hC hret hS ls hl => ?_)
  have hC : tq_C p R s m args c X (tq_A Z) RX11 cX11_odds 6 3 := hC
  have hx := hC.1.1
  have hb := hC.1.2.1
  have hown := hC.1.2.2.2.1
  have hts := hC.1.2.2.2.2
  have hl : lv_has ls 6 [(0, .ref h0), (1, .int x1), (2, .int x2)] := hl
  generalize hf0 : f = f0 at hret
  have hS : tq_S X Z (tq_A Z) s.heap f0 [] f s.heap [] := hf0 ▸ hS
  refine lv_aload_n hx hb dX11_odds_0 rfl (lv_at hl 0 rfl) ?_
  refine gf_RX11_29 hC hS z_h0 dX11_odds_1 (fun t_1 p_1 q_1 => ?_)
  refine lv_iload_n hx hb dX11_odds_4 rfl (lv_at hl 1 rfl) ?_
  refine tq_callVpi (As := [.int x1]) (rest := []) hC (c_X3_hasLock l X Z _ t_1 p_1 x1) k_X3_hasLock ql_RX11_165 rfl (by decide) hS p_1 rfl hl.1 rfl (Nat.le_of_ble_eq_true rfl) ⟨Nat.zero_le _, Nat.zero_le _⟩ dX11_odds_5 (fun t_5 p_5 => ?_)
  have K_20 : ∀ (f : Nat → va_E) (H : Heap) (locs : List Loc) (ls : Array Slot), tq_S X Z (tq_A Z) s.heap f0 [] f H locs → lv_has ls 6 [] → W p l e R s m args below meth c H locs 0 0 Q (F0 m 20 ls []) := by
    intro f H locs ls  hS hl
    refine lv_iconst (v := -1) hx hb dX11_odds_20 (by decide) ?_
    exact hret (-1) _ _ _ _ _ rfl ⟨_, rfl, tq_w (⟨by decide, by decide⟩ : tq_iv (-1) (-1) (-1)) (by decide) (by decide)⟩ hS dX11_odds_21
  refine lv_if_eq (tgt := 20) hx hb dX11_odds_8 (by decide) (fun c_8 => ?_) (fun c_8 => ?_)
  · skip
    have i1_t_5 : tq_iv 0 0 t_5 := tq_cut p_5 (tq_eqL c_8 (⟨by decide, by decide⟩ : tq_iv 0 0 0)) (by decide) (by decide)
    exact K_20 _ _ _ _ hS (lv_sub hl [] rfl)
  · skip
    have i2_t_5 : tq_iv 1 1 t_5 := tq_w (tq_neLo c_8 p_5 (⟨by decide, by decide⟩ : tq_iv 0 0 0)) (by decide) (by decide)
    refine lv_iload_n hx hb dX11_odds_11 rfl (lv_at hl 2 rfl) ?_
    refine lv_if_lt (tgt := 20) hx hb dX11_odds_12 (by decide) (fun c_12 => ?_) (fun c_12 => ?_)
    · skip
      have i3_x2 : tq_iv (-2147483648) (-1) x2 := tq_cut (tq_top x2) (tq_ltL c_12 (tq_top x2) (⟨by decide, by decide⟩ : tq_iv 0 0 0)) (by decide) (by decide)
      exact K_20 _ _ _ _ hS (lv_sub hl [] rfl)
    · skip
      have i4_x2 : tq_iv 0 2147483647 x2 := tq_cut (tq_top x2) (tq_leR (tq_nlt c_12) (⟨by decide, by decide⟩ : tq_iv 0 0 0) (tq_top x2)) (by decide) (by decide)
      refine lv_iload_n hx hb dX11_odds_15 rfl (lv_at hl 2 rfl) ?_
      refine lv_iconst (v := 1) hx hb dX11_odds_16 (by decide) ?_
      refine lv_icmp_le (tgt := 22) hx hb dX11_odds_17 (by decide) (fun c_17 => ?_) (fun c_17 => ?_)
      · skip
        have i5_x2 : tq_iv 0 1 x2 := tq_cut i4_x2 (tq_leL c_17 i4_x2 (⟨by decide, by decide⟩ : tq_iv 1 1 1)) (by decide) (by decide)
        refine lv_aload_n hx hb dX11_odds_22 rfl (lv_at hl 0 rfl) ?_
        refine gf_RX11_37 hC hS z_h0 dX11_odds_23 (fun t_23 p_23 q_23 => ?_)
        refine lv_aload_n hx hb dX11_odds_26 rfl (lv_at hl 0 rfl) ?_
        refine gf_RX11_41 hC hS z_h0 dX11_odds_27 (fun t_27 p_27 q_27 => ?_)
        refine lv_iload_n hx hb dX11_odds_30 rfl (lv_at hl 1 rfl) ?_
        refine tq_callVpi (As := [.int x1]) (rest := [.ref t_23]) hC (c_X7_pins l X Z _ t_27 p_27 x1) k_X7_pins ql_RX11_168 rfl (by decide) hS p_27 rfl hl.1 rfl (Nat.le_of_ble_eq_true rfl) ⟨Nat.zero_le _, Nat.zero_le _⟩ dX11_odds_31 (fun t_31 p_31 => ?_)
        refine lv_aload_n hx hb dX11_odds_34 rfl (lv_at hl 0 rfl) ?_
        refine gf_RX11_37 hC hS z_h0 dX11_odds_35 (fun t_35 p_35 q_35 => ?_)
        refine gf_RX11_304 hC hS p_35 dX11_odds_38 (fun t_38 p_38 q_38 => ?_)
        refine tq_callVi (As := [.int t_31, .int t_38]) (rest := []) hC (c_X6_howMany l X Z _ t_23 p_23 t_31 t_38) k_X6_howMany ql_RX11_307 (by decide) rfl (by decide) hS p_23 rfl hl.1 rfl (Nat.le_of_ble_eq_true rfl) ⟨Nat.zero_le _, Nat.zero_le _⟩ dX11_odds_41 (fun t_41 f1_41 H locs p_41 hS k_41 => ?_)
        refine lv_istore_n (lv' := [(3, .int t_41), (0, .ref h0), (1, .int x1), (2, .int x2)]) hx hb dX11_odds_44 rfl hl (by decide) rfl (fun ls hl => ?_)
        refine lv_aload_n hx hb dX11_odds_45 rfl (lv_at hl 1 rfl) ?_
        refine gf_RX11_37 hC hS z_h0 dX11_odds_46 (fun t_46 p_46 q_46 => ?_)
        refine lv_aload_n hx hb dX11_odds_49 rfl (lv_at hl 1 rfl) ?_
        refine gf_RX11_37 hC hS z_h0 dX11_odds_50 (fun t_50 p_50 q_50 => ?_)
        refine tq_callVpi (As := []) (rest := [.ref t_46]) hC (c_X6_everything l X Z _ t_50 p_50) k_X6_everything ql_RX11_301 rfl (by decide) hS p_50 rfl hl.1 rfl (Nat.le_of_ble_eq_true rfl) ⟨Nat.zero_le _, Nat.zero_le _⟩ dX11_odds_53 (fun t_53 p_53 => ?_)
        refine lv_aload_n hx hb dX11_odds_56 rfl (lv_at hl 1 rfl) ?_
        refine gf_RX11_37 hC hS z_h0 dX11_odds_57 (fun t_57 p_57 q_57 => ?_)
        refine gf_RX11_304 hC hS p_57 dX11_odds_60 (fun t_60 p_60 q_60 => ?_)
        refine tq_callVi (As := [.int t_53, .int t_60]) (rest := []) hC (c_X6_howMany l X Z _ t_46 p_46 t_53 t_60) k_X6_howMany ql_RX11_307 (by decide) rfl (by decide) hS p_46 rfl hl.1 rfl (Nat.le_of_ble_eq_true rfl) ⟨Nat.zero_le _, Nat.zero_le _⟩ dX11_odds_63 (fun t_63 f1_63 H locs p_63 hS k_63 => ?_)
        refine lv_istore (lv' := [(4, .int t_63), (3, .int t_41), (0, .ref h0), (1, .int x1), (2, .int x2)]) hx hb dX11_odds_66 hl (by decide) rfl (fun ls hl => ?_)
        refine lv_iconst (v := 1) hx hb dX11_odds_68 (by decide) ?_
        refine lv_iload_n hx hb dX11_odds_69 rfl (lv_at hl 1 rfl) ?_
        refine lv_iload hx hb dX11_odds_70 (lv_at hl 0 rfl) ?_
        refine tq_callSpi (As := [.int t_41, .int t_63]) (rest := [.int 1]) hC (c_X11_commonDivisor l X Z _ t_41 t_63) k_X11_commonDivisor ql_RX11_398 rfl (by decide) hS hl.1 rfl (Nat.le_of_ble_eq_true rfl) ⟨Nat.zero_le _, Nat.zero_le _⟩ dX11_odds_72 (fun t_72 p_72 => ?_)
        refine va_mmax hx hb (hC.1.2.2.1.trans hl.1.symm) hown (hts _ ql_RX11_246) (hts _ qm_max_s) (hts _ qm_i) (hts _ qm_max_c) (Nat.le_trans (by decide) hC.2.2.1) (Nat.le_trans (Nat.le_of_ble_eq_true rfl) hC.2.2.2.1) (Nat.zero_le _) (Nat.zero_le _) dX11_odds_75 ?_
        refine lv_topi (fun t_75 e_75 => ?_)
        have i6_t_75 : tq_iv 1 2147483647 t_75 := tq_w (tq_max e_75 (⟨by decide, by decide⟩ : tq_iv 1 1 1) (tq_top t_72)) (by decide) (by decide)
        refine lv_istore (lv' := [(5, .int t_75), (4, .int t_63), (3, .int t_41), (0, .ref h0), (1, .int x1), (2, .int x2)]) hx hb dX11_odds_78 hl (by decide) rfl (fun ls hl => ?_)
        refine lv_iload_n hx hb dX11_odds_80 rfl (lv_at hl 5 rfl) ?_
        have K_90 : ∀ (y0_90 : Int32) (f : Nat → va_E) (H : Heap) (locs : List Loc) (ls : Array Slot), tq_S X Z (tq_A Z) s.heap f0 [] f H locs → lv_has ls 6 [(5, .int t_75)] → W p l e R s m args below meth c H locs 0 0 Q (F0 m 90 ls [.int y0_90]) := by
          intro y0_90 f H locs ls  hS hl
          refine lv_iload hx hb dX11_odds_90 (lv_at hl 0 rfl) ?_
          refine lv_idiv hx hb dX11_odds_92 (tq_nz i6_t_75 (by decide)) ?_
          refine lv_topi (fun t_92 e_92 => ?_)
          exact hret t_92 _ _ _ _ _ rfl ⟨_, rfl, tq_w (tq_top t_92) (by decide) (by decide)⟩ hS dX11_odds_93
        refine lv_if_ne (tgt := 88) hx hb dX11_odds_81 (by decide) (fun c_81 => ?_) (fun c_81 => ?_)
        · skip
          have i7_x2 : tq_iv 1 1 x2 := tq_w (tq_neLo c_81 i5_x2 (⟨by decide, by decide⟩ : tq_iv 0 0 0)) (by decide) (by decide)
          refine lv_iload hx hb dX11_odds_88 (lv_at hl 1 rfl) ?_
          exact K_90 t_63 _ _ _ _ hS (lv_sub hl [0] rfl)
        · skip
          have i8_x2 : tq_iv 0 0 x2 := tq_cut i5_x2 (tq_eqL c_81 (⟨by decide, by decide⟩ : tq_iv 0 0 0)) (by decide) (by decide)
          refine lv_iload_n hx hb dX11_odds_84 rfl (lv_at hl 2 rfl) ?_
          refine lv_goto (tgt := 90) hx hb dX11_odds_85 (by decide) ?_
          exact K_90 t_41 _ _ _ _ hS (lv_sub hl [0] rfl)
      · skip
        have i9_x2 : tq_iv 2 2147483647 x2 := tq_cut i4_x2 (tq_ltR (tq_nle c_17) (⟨by decide, by decide⟩ : tq_iv 1 1 1) i4_x2) (by decide) (by decide)
        exact K_20 _ _ _ _ hS (lv_sub hl [] rfl)
set_option maxHeartbeats 4000000 in
set_option maxRecDepth 100000 in
theorem c_X2_pathDoor (l : Launch) (X : tq_X) (Z : tq_Z) (f : Nat → va_E) (h0 : Nat) (z_h0 : tq_z Z h0 (.inl 2)) (x1 : Int32) : tq_Mp l X Z f yX2_pathDoor cX2_pathDoor 2 (some .int) 0 [.ref h0, .int x1] (tq_ri (-2147483648) 2147483647) := by
  refine tq_startip (by decide) (Nat.le_of_ble_eq_true rfl) (fun p e R s m args below meth c Q hC hret hS ls hl => ?_)
  have hC : tq_C p R s m args c X (tq_A Z) RX2 cX2_pathDoor 2 0 := hC
  have hx := hC.1.1
  have hb := hC.1.2.1
  have hown := hC.1.2.2.2.1
  have hts := hC.1.2.2.2.2
  have hl : lv_has ls 2 [(0, .ref h0), (1, .int x1)] := hl
  refine lv_iload_n hx hb dX2_pathDoor_0 rfl (lv_at hl 1 rfl) ?_
  have K_32 : ∀ (y0_32 : Int32) (ls : Array Slot), lv_has ls 2 [] → W p l e R s m args below meth c s.heap [] 0 0 Q (F0 m 32 ls [.int y0_32]) := by
    intro y0_32 ls  hl
    exact hret y0_32 _ _ rfl ⟨_, rfl, tq_w (tq_top y0_32) (by decide) (by decide)⟩ dX2_pathDoor_32
  have K_30 : ∀ (ls : Array Slot), lv_has ls 2 [] → W p l e R s m args below meth c s.heap [] 0 0 Q (F0 m 30 ls []) := by
    intro  ls  hl
    refine lv_bipush (v := -2) hx hb dX2_pathDoor_30 (by decide) ?_
    exact K_32 (-2) _ (lv_sub hl [] rfl)
  refine lv_if_lt (tgt := 30) hx hb dX2_pathDoor_1 (by decide) (fun c_1 => ?_) (fun c_1 => ?_)
  · skip
    have i1_x1 : tq_iv (-2147483648) (-1) x1 := tq_cut (tq_top x1) (tq_ltL c_1 (tq_top x1) (⟨by decide, by decide⟩ : tq_iv 0 0 0)) (by decide) (by decide)
    exact K_30 _ (lv_sub hl [] rfl)
  · skip
    have i2_x1 : tq_iv 0 2147483647 x1 := tq_cut (tq_top x1) (tq_leR (tq_nlt c_1) (⟨by decide, by decide⟩ : tq_iv 0 0 0) (tq_top x1)) (by decide) (by decide)
    refine lv_iload_n hx hb dX2_pathDoor_4 rfl (lv_at hl 1 rfl) ?_
    refine lv_aload_n hx hb dX2_pathDoor_5 rfl (lv_at hl 0 rfl) ?_
    refine gf_RX2_29 hC hS z_h0 dX2_pathDoor_6 (fun t_6 p_6 q_6 => ?_)
    refine lv_icmp_ge (tgt := 30) hx hb dX2_pathDoor_9 (by decide) (fun c_9 => ?_) (fun c_9 => ?_)
    · skip
      exact K_30 _ (lv_sub hl [] rfl)
    · skip
      have i3_x1 : tq_iv 0 2147483646 x1 := tq_cut i2_x1 (tq_ltL (tq_nle c_9) i2_x1 (tq_top t_6)) (by decide) (by decide)
      have i4_t_6 : tq_iv 1 2147483647 t_6 := tq_cut (tq_top t_6) (tq_ltR (tq_nle c_9) i2_x1 (tq_top t_6)) (by decide) (by decide)
      refine lv_iload_n hx hb dX2_pathDoor_12 rfl (lv_at hl 1 rfl) ?_
      refine lv_aload_n hx hb dX2_pathDoor_13 rfl (lv_at hl 0 rfl) ?_
      refine gf_RX2_26 hC hS z_h0 dX2_pathDoor_14 (fun t_14 p_14 q_14 => ?_)
      refine tq_alenA hC hS p_14 rfl (v := 6) (by decide) dX2_pathDoor_17 ?_
      refine lv_icmp_ge (tgt := 30) hx hb dX2_pathDoor_18 (by decide) (fun c_18 => ?_) (fun c_18 => ?_)
      · skip
        have i5_x1 : tq_iv 6 2147483646 x1 := tq_cut i3_x1 (tq_leR c_18 (⟨by decide, by decide⟩ : tq_iv 6 6 6) i3_x1) (by decide) (by decide)
        exact K_30 _ (lv_sub hl [] rfl)
      · skip
        have i6_x1 : tq_iv 0 5 x1 := tq_cut i3_x1 (tq_ltL (tq_nle c_18) i3_x1 (⟨by decide, by decide⟩ : tq_iv 6 6 6)) (by decide) (by decide)
        refine lv_aload_n hx hb dX2_pathDoor_21 rfl (lv_at hl 0 rfl) ?_
        refine gf_RX2_26 hC hS z_h0 dX2_pathDoor_22 (fun t_22 p_22 q_22 => ?_)
        refine lv_iload_n hx hb dX2_pathDoor_25 rfl (lv_at hl 1 rfl) ?_
        refine tq_iald hC hS p_22 rfl (tq_vin i6_x1 (by decide) (by decide)) dX2_pathDoor_26 (fun t_26 p_26 => ?_)
        refine lv_goto (tgt := 32) hx hb dX2_pathDoor_27 (by decide) ?_
        exact K_32 t_26 _ (lv_sub hl [] rfl)
set_option maxHeartbeats 4000000 in
set_option maxRecDepth 100000 in
theorem c_X11_lies (l : Launch) (X : tq_X) (Z : tq_Z) (f : Nat → va_E) (h0 : Nat) (z_h0 : tq_z Z h0 (.inl 11)) (x1 : Int32) : tq_Mp l X Z f yX11_lies cX11_lies 2 (some .int) 1 [.ref h0, .int x1] (tq_ri (-2147483648) 2147483647) := by
  refine tq_startip (by decide) (Nat.le_of_ble_eq_true rfl) (fun p e R s m args below meth c Q hC hret hS ls hl => ?_)
  have hC : tq_C p R s m args c X (tq_A Z) RX11 cX11_lies 2 1 := hC
  have hx := hC.1.1
  have hb := hC.1.2.1
  have hown := hC.1.2.2.2.1
  have hts := hC.1.2.2.2.2
  have hl : lv_has ls 2 [(0, .ref h0), (1, .int x1)] := hl
  refine lv_aload_n hx hb dX11_lies_0 rfl (lv_at hl 0 rfl) ?_
  refine gf_RX11_79 hC hS z_h0 dX11_lies_1 (fun t_1 p_1 q_1 => ?_)
  refine lv_iload_n hx hb dX11_lies_4 rfl (lv_at hl 1 rfl) ?_
  refine tq_callVpi (As := [.int x1]) (rest := []) hC (c_X2_pathDoor l X Z _ t_1 p_1 x1) k_X2_pathDoor ql_RX11_401 rfl (by decide) hS p_1 rfl hl.1 rfl (Nat.le_of_ble_eq_true rfl) ⟨Nat.zero_le _, Nat.zero_le _⟩ dX11_lies_5 (fun t_5 p_5 => ?_)
  exact hret t_5 _ _ rfl ⟨_, rfl, tq_w (tq_top t_5) (by decide) (by decide)⟩ dX11_lies_8
set_option maxHeartbeats 4000000 in
set_option maxRecDepth 100000 in
theorem c_X10_tell (l : Launch) (X : tq_X) (Z : tq_Z) (f : Nat → va_E) (h0 : Nat) (z_h0 : tq_z Z h0 (.inl 10)) (x1 : Int32) (x2 : Int32) (i_x2 : tq_iv 0 1 x2) : tq_M l X Z f [(10, 4)] yX10_tell cX10_tell 3 (some .int) 0 [.ref h0, .int x1, .int x2] (tq_ri (-1) 29) := by
  refine tq_starti (by decide) (Nat.le_of_ble_eq_true rfl) (fun p e R s m args below meth c Q hC hret hS ls hl => ?_)
  have hC : tq_C p R s m args c X (tq_A Z) RX10 cX10_tell 3 0 := hC
  have hx := hC.1.1
  have hb := hC.1.2.1
  have hown := hC.1.2.2.2.1
  have hts := hC.1.2.2.2.2
  have hl : lv_has ls 3 [(0, .ref h0), (1, .int x1), (2, .int x2)] := hl
  generalize hf0 : f = f0 at hret
  have hS : tq_S X Z (tq_A Z) s.heap f0 [(10, 4)] f s.heap [] := hf0 ▸ hS
  obtain ⟨w0, p_w0, q_w0⟩ := tq_ghi hS z_h0 (k := 4) rfl
  refine lv_aload_n hx hb dX10_tell_0 rfl (lv_at hl 0 rfl) ?_
  refine gk_RX10_25 hC hS z_h0 q_w0 dX10_tell_1 ?_
  have K_16 : ∀ (f : Nat → va_E) (H : Heap) (locs : List Loc) (ls : Array Slot), tq_S X Z (tq_A Z) s.heap f0 [(10, 4)] f H locs → tq_f f h0 4 (.int w0) → lv_has ls 3 [] → W p l e R s m args below meth c H locs 0 0 Q (F0 m 16 ls []) := by
    intro f H locs ls  hS fo0_16 hl
    refine lv_iconst (v := -1) hx hb dX10_tell_16 (by decide) ?_
    exact hret (-1) _ _ _ _ _ rfl ⟨_, rfl, tq_w (⟨by decide, by decide⟩ : tq_iv (-1) (-1) (-1)) (by decide) (by decide)⟩ hS dX10_tell_17
  refine lv_if_lt (tgt := 16) hx hb dX10_tell_4 (by decide) (fun c_4 => ?_) (fun c_4 => ?_)
  · skip
    have i1_w0 : tq_iv (-2147483648) (-1) w0 := tq_cut (tq_top w0) (tq_ltL c_4 (tq_top w0) (⟨by decide, by decide⟩ : tq_iv 0 0 0)) (by decide) (by decide)
    exact K_16 _ _ _ _ hS q_w0 (lv_sub hl [] rfl)
  · skip
    have i2_w0 : tq_iv 0 2147483647 w0 := tq_cut (tq_top w0) (tq_leR (tq_nlt c_4) (⟨by decide, by decide⟩ : tq_iv 0 0 0) (tq_top w0)) (by decide) (by decide)
    refine lv_aload_n hx hb dX10_tell_7 rfl (lv_at hl 0 rfl) ?_
    refine gk_RX10_25 hC hS z_h0 q_w0 dX10_tell_8 ?_
    refine lv_bipush (v := 30) hx hb dX10_tell_11 (by decide) ?_
    refine lv_icmp_lt (tgt := 18) hx hb dX10_tell_13 (by decide) (fun c_13 => ?_) (fun c_13 => ?_)
    · skip
      have i3_w0 : tq_iv 0 29 w0 := tq_cut i2_w0 (tq_ltL c_13 i2_w0 (⟨by decide, by decide⟩ : tq_iv 30 30 30)) (by decide) (by decide)
      refine lv_aload_n hx hb dX10_tell_18 rfl (lv_at hl 0 rfl) ?_
      refine gf_RX10_11 hC hS z_h0 dX10_tell_19 (fun t_19 p_19 q_19 => ?_)
      refine lv_aload_n hx hb dX10_tell_22 rfl (lv_at hl 0 rfl) ?_
      refine gk_RX10_25 hC hS z_h0 q_w0 dX10_tell_23 ?_
      refine lv_iload_n hx hb dX10_tell_26 rfl (lv_at hl 1 rfl) ?_
      refine tq_iast hC hS p_19 rfl (tq_vin i3_w0 (by decide) (by decide)) trivial dX10_tell_27 (fun f H locs hS k_27 => ?_)
      have q4_27 := k_27 _ _ _ (tq_ne z_h0 p_19 (fun q => by cases q)) q_w0
      refine lv_aload_n hx hb dX10_tell_28 rfl (lv_at hl 0 rfl) ?_
      refine gf_RX10_15 hC hS z_h0 dX10_tell_29 (fun t_29 p_29 q_29 => ?_)
      refine lv_aload_n hx hb dX10_tell_32 rfl (lv_at hl 0 rfl) ?_
      refine gk_RX10_25 hC hS z_h0 q4_27 dX10_tell_33 ?_
      refine lv_iload_n hx hb dX10_tell_36 rfl (lv_at hl 2 rfl) ?_
      refine tq_zast hC hS p_29 rfl (tq_vin i3_w0 (by decide) (by decide)) (fun _ => trivial) dX10_tell_37 (fun f H locs hS k_37 => ?_)
      have q5_37 := k_37 _ _ _ (tq_ne z_h0 p_29 (fun q => by cases q)) q4_27
      refine lv_aload_n hx hb dX10_tell_38 rfl (lv_at hl 0 rfl) ?_
      refine gf_RX10_19 hC hS z_h0 dX10_tell_39 (fun t_39 p_39 q_39 => ?_)
      refine lv_aload_n hx hb dX10_tell_42 rfl (lv_at hl 0 rfl) ?_
      refine gk_RX10_25 hC hS z_h0 q5_37 dX10_tell_43 ?_
      refine lv_aload_n hx hb dX10_tell_46 rfl (lv_at hl 0 rfl) ?_
      refine gf_RX10_29 hC hS z_h0 dX10_tell_47 (fun t_47 p_47 q_47 => ?_)
      refine tq_iast hC hS p_39 rfl (tq_vin i3_w0 (by decide) (by decide)) trivial dX10_tell_50 (fun f H locs hS k_50 => ?_)
      have q6_50 := k_50 _ _ _ (tq_ne z_h0 p_39 (fun q => by cases q)) q5_37
      refine lv_aload_n hx hb dX10_tell_51 rfl (lv_at hl 0 rfl) ?_
      refine gf_RX10_22 hC hS z_h0 dX10_tell_52 (fun t_52 p_52 q_52 => ?_)
      refine lv_aload_n hx hb dX10_tell_55 rfl (lv_at hl 0 rfl) ?_
      refine gk_RX10_25 hC hS z_h0 q6_50 dX10_tell_56 ?_
      refine lv_iconst (v := -1) hx hb dX10_tell_59 (by decide) ?_
      refine tq_iast hC hS p_52 rfl (tq_vin i3_w0 (by decide) (by decide)) trivial dX10_tell_60 (fun f H locs hS k_60 => ?_)
      have q7_60 := k_60 _ _ _ (tq_ne z_h0 p_52 (fun q => by cases q)) q6_50
      refine lv_aload_n hx hb dX10_tell_61 rfl (lv_at hl 0 rfl) ?_
      refine lv_dup hx hb dX10_tell_62 rfl ?_
      refine gk_RX10_25 hC hS z_h0 q7_60 dX10_tell_63 ?_
      refine lv_iconst (v := 1) hx hb dX10_tell_66 (by decide) ?_
      refine lv_iadd hx hb dX10_tell_67 ?_
      refine lv_topi (fun t_67 e_67 => ?_)
      have i8_t_67 : tq_iv 1 30 t_67 := tq_w (tq_add e_67 i3_w0 (⟨by decide, by decide⟩ : tq_iv 1 1 1) (by decide) (by decide)) (by decide) (by decide)
      refine pf_RX10_25 hC hS z_h0 (by decide) trivial dX10_tell_68 (fun f H locs hS q_68 k_68 => ?_)
      refine lv_aload_n hx hb dX10_tell_71 rfl (lv_at hl 0 rfl) ?_
      refine gk_RX10_25 hC hS z_h0 q_68 dX10_tell_72 ?_
      refine lv_iconst (v := 1) hx hb dX10_tell_75 (by decide) ?_
      refine lv_isub hx hb dX10_tell_76 ?_
      refine lv_topi (fun t_76 e_76 => ?_)
      have i9_t_76 : tq_iv 0 29 t_76 := tq_w (tq_sub e_76 i8_t_67 (⟨by decide, by decide⟩ : tq_iv 1 1 1) (by decide) (by decide)) (by decide) (by decide)
      exact hret t_76 _ _ _ _ _ rfl ⟨_, rfl, tq_w i9_t_76 (by decide) (by decide)⟩ hS dX10_tell_77
    · skip
      have i10_w0 : tq_iv 30 2147483647 w0 := tq_cut i2_w0 (tq_leR (tq_nlt c_13) (⟨by decide, by decide⟩ : tq_iv 30 30 30) i2_w0) (by decide) (by decide)
      exact K_16 _ _ _ _ hS q_w0 (lv_sub hl [] rfl)
set_option maxHeartbeats 4000000 in
set_option maxRecDepth 100000 in
theorem c_X11_tried (l : Launch) (X : tq_X) (Z : tq_Z) (f : Nat → va_E) (h0 : Nat) (z_h0 : tq_z Z h0 (.inl 11)) (x1 : Int32) (x2 : Int32) (i_x2 : tq_iv 0 1 x2) : tq_M l X Z f [(10, 4)] yX11_tried cX11_tried 3 (some .int) 1 [.ref h0, .int x1, .int x2] (tq_ri (-1) 29) := by
  refine tq_starti (by decide) (Nat.le_of_ble_eq_true rfl) (fun p e R s m args below meth c Q hC hret hS ls hl => ?_)
  have hC : tq_C p R s m args c X (tq_A Z) RX11 cX11_tried 3 1 := hC
  have hx := hC.1.1
  have hb := hC.1.2.1
  have hown := hC.1.2.2.2.1
  have hts := hC.1.2.2.2.2
  have hl : lv_has ls 3 [(0, .ref h0), (1, .int x1), (2, .int x2)] := hl
  generalize hf0 : f = f0 at hret
  have hS : tq_S X Z (tq_A Z) s.heap f0 [(10, 4)] f s.heap [] := hf0 ▸ hS
  refine lv_aload_n hx hb dX11_tried_0 rfl (lv_at hl 0 rfl) ?_
  refine gf_RX11_29 hC hS z_h0 dX11_tried_1 (fun t_1 p_1 q_1 => ?_)
  refine lv_iload_n hx hb dX11_tried_4 rfl (lv_at hl 1 rfl) ?_
  refine tq_callVpi (As := [.int x1]) (rest := []) hC (c_X3_hasLock l X Z _ t_1 p_1 x1) k_X3_hasLock ql_RX11_165 rfl (by decide) hS p_1 rfl hl.1 rfl (Nat.le_of_ble_eq_true rfl) ⟨Nat.zero_le _, Nat.zero_le _⟩ dX11_tried_5 (fun t_5 p_5 => ?_)
  have K_24 : ∀ (y0_24 : Int32) (f : Nat → va_E) (H : Heap) (locs : List Loc) (ls : Array Slot), tq_S X Z (tq_A Z) s.heap f0 [(10, 4)] f H locs → tq_iv (-1) 29 y0_24 → lv_has ls 3 [] → W p l e R s m args below meth c H locs 0 0 Q (F0 m 24 ls [.int y0_24]) := by
    intro y0_24 f H locs ls  hS i1_y0_24 hl
    exact hret y0_24 _ _ _ _ _ rfl ⟨_, rfl, tq_w i1_y0_24 (by decide) (by decide)⟩ hS dX11_tried_24
  refine lv_if_eq (tgt := 23) hx hb dX11_tried_8 (by decide) (fun c_8 => ?_) (fun c_8 => ?_)
  · skip
    have i2_t_5 : tq_iv 0 0 t_5 := tq_cut p_5 (tq_eqL c_8 (⟨by decide, by decide⟩ : tq_iv 0 0 0)) (by decide) (by decide)
    refine lv_iconst (v := -1) hx hb dX11_tried_23 (by decide) ?_
    exact K_24 (-1) _ _ _ _ hS (tq_w (⟨by decide, by decide⟩ : tq_iv (-1) (-1) (-1)) (by decide) (by decide)) (lv_sub hl [] rfl)
  · skip
    have i3_t_5 : tq_iv 1 1 t_5 := tq_w (tq_neLo c_8 p_5 (⟨by decide, by decide⟩ : tq_iv 0 0 0)) (by decide) (by decide)
    refine lv_aload_n hx hb dX11_tried_11 rfl (lv_at hl 0 rfl) ?_
    refine gf_RX11_93 hC hS z_h0 dX11_tried_12 (fun t_12 p_12 q_12 => ?_)
    refine lv_iload_n hx hb dX11_tried_15 rfl (lv_at hl 1 rfl) ?_
    refine lv_iload_n hx hb dX11_tried_16 rfl (lv_at hl 2 rfl) ?_
    refine tq_callVi (As := [.int x1, .int x2]) (rest := []) hC (c_X10_tell l X Z _ t_12 p_12 x1 x2 (tq_w i_x2 (by decide) (by decide))) k_X10_tell ql_RX11_404 (by decide) rfl (by decide) hS p_12 rfl hl.1 rfl (Nat.le_of_ble_eq_true rfl) ⟨Nat.zero_le _, Nat.zero_le _⟩ dX11_tried_17 (fun t_17 f1_17 H locs p_17 hS k_17 => ?_)
    refine lv_goto (tgt := 24) hx hb dX11_tried_20 (by decide) ?_
    exact K_24 t_17 _ _ _ _ hS (tq_w p_17 (by decide) (by decide)) (lv_sub hl [] rfl)
set_option maxHeartbeats 4000000 in
set_option maxRecDepth 100000 in
theorem c_X10_takeBack (l : Launch) (X : tq_X) (Z : tq_Z) (f : Nat → va_E) (h0 : Nat) (z_h0 : tq_z Z h0 (.inl 10)) (x1 : Int32) : tq_M l X Z f [] yX10_takeBack cX10_takeBack 2 (some .boolean) 0 [.ref h0, .int x1] (tq_ri 0 1) := by
  refine tq_starti (by decide) (Nat.le_of_ble_eq_true rfl) (fun p e R s m args below meth c Q hC hret hS ls hl => ?_)
  have hC : tq_C p R s m args c X (tq_A Z) RX10 cX10_takeBack 2 0 := hC
  have hx := hC.1.1
  have hb := hC.1.2.1
  have hown := hC.1.2.2.2.1
  have hts := hC.1.2.2.2.2
  have hl : lv_has ls 2 [(0, .ref h0), (1, .int x1)] := hl
  generalize hf0 : f = f0 at hret
  have hS : tq_S X Z (tq_A Z) s.heap f0 [] f s.heap [] := hf0 ▸ hS
  refine lv_iload_n hx hb dX10_takeBack_0 rfl (lv_at hl 1 rfl) ?_
  have K_28 : ∀ (f : Nat → va_E) (H : Heap) (locs : List Loc) (ls : Array Slot), tq_S X Z (tq_A Z) s.heap f0 [] f H locs → lv_has ls 2 [] → W p l e R s m args below meth c H locs 0 0 Q (F0 m 28 ls []) := by
    intro f H locs ls  hS hl
    refine lv_iconst (v := 0) hx hb dX10_takeBack_28 (by decide) ?_
    exact hret 0 _ _ _ _ _ (tq_nb (⟨by decide, by decide⟩ : tq_iv 0 0 0) (by decide) (by decide)) ⟨_, rfl, tq_w (⟨by decide, by decide⟩ : tq_iv 0 0 0) (by decide) (by decide)⟩ hS dX10_takeBack_29
  refine lv_if_lt (tgt := 28) hx hb dX10_takeBack_1 (by decide) (fun c_1 => ?_) (fun c_1 => ?_)
  · skip
    have i1_x1 : tq_iv (-2147483648) (-1) x1 := tq_cut (tq_top x1) (tq_ltL c_1 (tq_top x1) (⟨by decide, by decide⟩ : tq_iv 0 0 0)) (by decide) (by decide)
    exact K_28 _ _ _ _ hS (lv_sub hl [] rfl)
  · skip
    have i2_x1 : tq_iv 0 2147483647 x1 := tq_cut (tq_top x1) (tq_leR (tq_nlt c_1) (⟨by decide, by decide⟩ : tq_iv 0 0 0) (tq_top x1)) (by decide) (by decide)
    refine lv_iload_n hx hb dX10_takeBack_4 rfl (lv_at hl 1 rfl) ?_
    refine lv_aload_n hx hb dX10_takeBack_5 rfl (lv_at hl 0 rfl) ?_
    refine gf_RX10_25 hC hS z_h0 dX10_takeBack_6 (fun t_6 p_6 q_6 => ?_)
    refine lv_icmp_ge (tgt := 28) hx hb dX10_takeBack_9 (by decide) (fun c_9 => ?_) (fun c_9 => ?_)
    · skip
      exact K_28 _ _ _ _ hS (lv_sub hl [] rfl)
    · skip
      have i3_x1 : tq_iv 0 2147483646 x1 := tq_cut i2_x1 (tq_ltL (tq_nle c_9) i2_x1 (tq_top t_6)) (by decide) (by decide)
      have i4_t_6 : tq_iv 1 2147483647 t_6 := tq_cut (tq_top t_6) (tq_ltR (tq_nle c_9) i2_x1 (tq_top t_6)) (by decide) (by decide)
      refine lv_iload_n hx hb dX10_takeBack_12 rfl (lv_at hl 1 rfl) ?_
      refine lv_bipush (v := 30) hx hb dX10_takeBack_13 (by decide) ?_
      refine lv_icmp_ge (tgt := 28) hx hb dX10_takeBack_15 (by decide) (fun c_15 => ?_) (fun c_15 => ?_)
      · skip
        have i5_x1 : tq_iv 30 2147483646 x1 := tq_cut i3_x1 (tq_leR c_15 (⟨by decide, by decide⟩ : tq_iv 30 30 30) i3_x1) (by decide) (by decide)
        exact K_28 _ _ _ _ hS (lv_sub hl [] rfl)
      · skip
        have i6_x1 : tq_iv 0 29 x1 := tq_cut i3_x1 (tq_ltL (tq_nle c_15) i3_x1 (⟨by decide, by decide⟩ : tq_iv 30 30 30)) (by decide) (by decide)
        refine lv_aload_n hx hb dX10_takeBack_18 rfl (lv_at hl 0 rfl) ?_
        refine gf_RX10_22 hC hS z_h0 dX10_takeBack_19 (fun t_19 p_19 q_19 => ?_)
        refine lv_iload_n hx hb dX10_takeBack_22 rfl (lv_at hl 1 rfl) ?_
        refine tq_iald hC hS p_19 rfl (tq_vin i6_x1 (by decide) (by decide)) dX10_takeBack_23 (fun t_23 p_23 => ?_)
        refine lv_iconst (v := -1) hx hb dX10_takeBack_24 (by decide) ?_
        refine lv_icmp_eq (tgt := 30) hx hb dX10_takeBack_25 (by decide) (fun c_25 => ?_) (fun c_25 => ?_)
        · skip
          have i7_t_23 : tq_iv (-1) (-1) t_23 := tq_cut (tq_top t_23) (tq_eqL c_25 (⟨by decide, by decide⟩ : tq_iv (-1) (-1) (-1))) (by decide) (by decide)
          refine lv_aload_n hx hb dX10_takeBack_30 rfl (lv_at hl 0 rfl) ?_
          refine gf_RX10_22 hC hS z_h0 dX10_takeBack_31 (fun t_31 p_31 q_31 => ?_)
          refine lv_iload_n hx hb dX10_takeBack_34 rfl (lv_at hl 1 rfl) ?_
          refine lv_aload_n hx hb dX10_takeBack_35 rfl (lv_at hl 0 rfl) ?_
          refine gf_RX10_29 hC hS z_h0 dX10_takeBack_36 (fun t_36 p_36 q_36 => ?_)
          refine tq_iast hC hS p_31 rfl (tq_vin i6_x1 (by decide) (by decide)) trivial dX10_takeBack_39 (fun f H locs hS k_39 => ?_)
          refine lv_iconst (v := 1) hx hb dX10_takeBack_40 (by decide) ?_
          exact hret 1 _ _ _ _ _ (tq_nb (⟨by decide, by decide⟩ : tq_iv 1 1 1) (by decide) (by decide)) ⟨_, rfl, tq_w (⟨by decide, by decide⟩ : tq_iv 1 1 1) (by decide) (by decide)⟩ hS dX10_takeBack_41
        · skip
          exact K_28 _ _ _ _ hS (lv_sub hl [] rfl)
set_option maxHeartbeats 4000000 in
set_option maxRecDepth 100000 in
theorem c_X11_untell (l : Launch) (X : tq_X) (Z : tq_Z) (f : Nat → va_E) (h0 : Nat) (z_h0 : tq_z Z h0 (.inl 11)) (x1 : Int32) : tq_M l X Z f [] yX11_untell cX11_untell 2 (some .boolean) 1 [.ref h0, .int x1] (tq_ri 0 1) := by
  refine tq_starti (by decide) (Nat.le_of_ble_eq_true rfl) (fun p e R s m args below meth c Q hC hret hS ls hl => ?_)
  have hC : tq_C p R s m args c X (tq_A Z) RX11 cX11_untell 2 1 := hC
  have hx := hC.1.1
  have hb := hC.1.2.1
  have hown := hC.1.2.2.2.1
  have hts := hC.1.2.2.2.2
  have hl : lv_has ls 2 [(0, .ref h0), (1, .int x1)] := hl
  generalize hf0 : f = f0 at hret
  have hS : tq_S X Z (tq_A Z) s.heap f0 [] f s.heap [] := hf0 ▸ hS
  refine lv_aload_n hx hb dX11_untell_0 rfl (lv_at hl 0 rfl) ?_
  refine gf_RX11_93 hC hS z_h0 dX11_untell_1 (fun t_1 p_1 q_1 => ?_)
  refine lv_iload_n hx hb dX11_untell_4 rfl (lv_at hl 1 rfl) ?_
  refine tq_callVi (As := [.int x1]) (rest := []) hC (c_X10_takeBack l X Z _ t_1 p_1 x1) k_X10_takeBack ql_RX11_407 (by decide) rfl (by decide) hS p_1 rfl hl.1 rfl (Nat.le_of_ble_eq_true rfl) ⟨Nat.zero_le _, Nat.zero_le _⟩ dX11_untell_5 (fun t_5 f1_5 H locs p_5 hS k_5 => ?_)
  exact hret t_5 _ _ _ _ _ (tq_nb p_5 (by decide) (by decide)) ⟨_, rfl, tq_w p_5 (by decide) (by decide)⟩ hS dX11_untell_8
set_option maxHeartbeats 4000000 in
set_option maxRecDepth 100000 in
theorem c_X10_goOn (l : Launch) (X : tq_X) (Z : tq_Z) (f : Nat → va_E) (h0 : Nat) (z_h0 : tq_z Z h0 (.inl 10)) (x1 : Int32) : tq_M l X Z f [(10, 5)] yX10_goOn cX10_goOn 2 (some .int) 0 [.ref h0, .int x1] (tq_ri (-2147483648) 2147483647) := by
  refine tq_starti (by decide) (Nat.le_of_ble_eq_true rfl) (fun p e R s m args below meth c Q hC hret hS ls hl => ?_)
  have hC : tq_C p R s m args c X (tq_A Z) RX10 cX10_goOn 2 0 := hC
  have hx := hC.1.1
  have hb := hC.1.2.1
  have hown := hC.1.2.2.2.1
  have hts := hC.1.2.2.2.2
  have hl : lv_has ls 2 [(0, .ref h0), (1, .int x1)] := hl
  generalize hf0 : f = f0 at hret
  have hS : tq_S X Z (tq_A Z) s.heap f0 [(10, 5)] f s.heap [] := hf0 ▸ hS
  refine lv_iload_n hx hb dX10_goOn_0 rfl (lv_at hl 1 rfl) ?_
  have K_22 : ∀ (f : Nat → va_E) (H : Heap) (locs : List Loc) (ls : Array Slot), tq_S X Z (tq_A Z) s.heap f0 [(10, 5)] f H locs → lv_has ls 2 [] → W p l e R s m args below meth c H locs 0 0 Q (F0 m 22 ls []) := by
    intro f H locs ls  hS hl
    refine lv_iconst (v := -1) hx hb dX10_goOn_22 (by decide) ?_
    exact hret (-1) _ _ _ _ _ rfl ⟨_, rfl, tq_w (⟨by decide, by decide⟩ : tq_iv (-1) (-1) (-1)) (by decide) (by decide)⟩ hS dX10_goOn_23
  refine lv_if_lt (tgt := 22) hx hb dX10_goOn_1 (by decide) (fun c_1 => ?_) (fun c_1 => ?_)
  · skip
    have i1_x1 : tq_iv (-2147483648) (-1) x1 := tq_cut (tq_top x1) (tq_ltL c_1 (tq_top x1) (⟨by decide, by decide⟩ : tq_iv 0 0 0)) (by decide) (by decide)
    exact K_22 _ _ _ _ hS (lv_sub hl [] rfl)
  · skip
    have i2_x1 : tq_iv 0 2147483647 x1 := tq_cut (tq_top x1) (tq_leR (tq_nlt c_1) (⟨by decide, by decide⟩ : tq_iv 0 0 0) (tq_top x1)) (by decide) (by decide)
    refine lv_iload_n hx hb dX10_goOn_4 rfl (lv_at hl 1 rfl) ?_
    refine lv_sipush (v := 1000) hx hb dX10_goOn_5 (by decide) ?_
    refine lv_icmp_gt (tgt := 22) hx hb dX10_goOn_8 (by decide) (fun c_8 => ?_) (fun c_8 => ?_)
    · skip
      have i3_x1 : tq_iv 1001 2147483647 x1 := tq_cut i2_x1 (tq_ltR c_8 (⟨by decide, by decide⟩ : tq_iv 1000 1000 1000) i2_x1) (by decide) (by decide)
      exact K_22 _ _ _ _ hS (lv_sub hl [] rfl)
    · skip
      have i4_x1 : tq_iv 0 1000 x1 := tq_cut i2_x1 (tq_leL (tq_nlt c_8) i2_x1 (⟨by decide, by decide⟩ : tq_iv 1000 1000 1000)) (by decide) (by decide)
      refine lv_aload_n hx hb dX10_goOn_11 rfl (lv_at hl 0 rfl) ?_
      refine gf_RX10_29 hC hS z_h0 dX10_goOn_12 (fun t_12 p_12 q_12 => ?_)
      refine lv_iload_n hx hb dX10_goOn_15 rfl (lv_at hl 1 rfl) ?_
      refine lv_iadd hx hb dX10_goOn_16 ?_
      refine lv_topi (fun t_16 e_16 => ?_)
      refine lv_ldc hx hb hown (hts _ qc_RX10_32) dX10_goOn_17 ?_
      refine lv_icmp_le (tgt := 24) hx hb dX10_goOn_19 (by decide) (fun c_19 => ?_) (fun c_19 => ?_)
      · skip
        have i5_t_16 : tq_iv (-2147483648) 100000 t_16 := tq_cut (tq_top t_16) (tq_leL c_19 (tq_top t_16) (⟨by decide, by decide⟩ : tq_iv 100000 100000 100000)) (by decide) (by decide)
        refine lv_aload_n hx hb dX10_goOn_24 rfl (lv_at hl 0 rfl) ?_
        refine lv_dup hx hb dX10_goOn_25 rfl ?_
        refine gf_RX10_29 hC hS z_h0 dX10_goOn_26 (fun t_26 p_26 q_26 => ?_)
        refine lv_iload_n hx hb dX10_goOn_29 rfl (lv_at hl 1 rfl) ?_
        refine lv_iadd hx hb dX10_goOn_30 ?_
        refine lv_topi (fun t_30 e_30 => ?_)
        refine pf_RX10_29 hC hS z_h0 (by decide) trivial dX10_goOn_31 (fun f H locs hS q_31 k_31 => ?_)
        refine lv_aload_n hx hb dX10_goOn_34 rfl (lv_at hl 0 rfl) ?_
        refine gf_RX10_29 hC hS z_h0 dX10_goOn_35 (fun t_35 p_35 q_35 => ?_)
        exact hret t_35 _ _ _ _ _ rfl ⟨_, rfl, tq_w (tq_top t_35) (by decide) (by decide)⟩ hS dX10_goOn_38
      · skip
        have i6_t_16 : tq_iv 100001 2147483647 t_16 := tq_cut (tq_top t_16) (tq_ltR (tq_nle c_19) (⟨by decide, by decide⟩ : tq_iv 100000 100000 100000) (tq_top t_16)) (by decide) (by decide)
        exact K_22 _ _ _ _ hS (lv_sub hl [] rfl)
set_option maxHeartbeats 4000000 in
set_option maxRecDepth 100000 in
theorem c_X11_later (l : Launch) (X : tq_X) (Z : tq_Z) (f : Nat → va_E) (h0 : Nat) (z_h0 : tq_z Z h0 (.inl 11)) (x1 : Int32) : tq_M l X Z f [(10, 5)] yX11_later cX11_later 2 (some .int) 1 [.ref h0, .int x1] (tq_ri (-2147483648) 2147483647) := by
  refine tq_starti (by decide) (Nat.le_of_ble_eq_true rfl) (fun p e R s m args below meth c Q hC hret hS ls hl => ?_)
  have hC : tq_C p R s m args c X (tq_A Z) RX11 cX11_later 2 1 := hC
  have hx := hC.1.1
  have hb := hC.1.2.1
  have hown := hC.1.2.2.2.1
  have hts := hC.1.2.2.2.2
  have hl : lv_has ls 2 [(0, .ref h0), (1, .int x1)] := hl
  generalize hf0 : f = f0 at hret
  have hS : tq_S X Z (tq_A Z) s.heap f0 [(10, 5)] f s.heap [] := hf0 ▸ hS
  refine lv_aload_n hx hb dX11_later_0 rfl (lv_at hl 0 rfl) ?_
  refine gf_RX11_93 hC hS z_h0 dX11_later_1 (fun t_1 p_1 q_1 => ?_)
  refine lv_iload_n hx hb dX11_later_4 rfl (lv_at hl 1 rfl) ?_
  refine tq_callVi (As := [.int x1]) (rest := []) hC (c_X10_goOn l X Z _ t_1 p_1 x1) k_X10_goOn ql_RX11_410 (by decide) rfl (by decide) hS p_1 rfl hl.1 rfl (Nat.le_of_ble_eq_true rfl) ⟨Nat.zero_le _, Nat.zero_le _⟩ dX11_later_5 (fun t_5 f1_5 H locs p_5 hS k_5 => ?_)
  exact hret t_5 _ _ _ _ _ rfl ⟨_, rfl, tq_w (tq_top t_5) (by decide) (by decide)⟩ hS dX11_later_8
set_option maxHeartbeats 4000000 in
set_option maxRecDepth 100000 in
theorem c_X10_knownAt (l : Launch) (X : tq_X) (Z : tq_Z) (f : Nat → va_E) (h0 : Nat) (z_h0 : tq_z Z h0 (.inl 10)) (x1 : Int32) (x2 : Int32) (i_x2 : tq_iv 0 1 x2) : tq_Mp l X Z f yX10_knownAt cX10_knownAt 6 (some .int) 0 [.ref h0, .int x1, .int x2] (tq_ri (-2147483648) 2147483647) := by
  refine tq_startip (by decide) (Nat.le_of_ble_eq_true rfl) (fun p e R s m args below meth c Q hC hret hS ls hl => ?_)
  have hC : tq_C p R s m args c X (tq_A Z) RX10 cX10_knownAt 6 0 := hC
  have hx := hC.1.1
  have hb := hC.1.2.1
  have hown := hC.1.2.2.2.1
  have hts := hC.1.2.2.2.2
  have hl : lv_has ls 6 [(0, .ref h0), (1, .int x1), (2, .int x2)] := hl
  refine lv_iconst (v := 0) hx hb dX10_knownAt_0 (by decide) ?_
  refine lv_istore_n (lv' := [(3, .int 0), (0, .ref h0), (1, .int x1), (2, .int x2)]) hx hb dX10_knownAt_1 rfl hl (by decide) rfl (fun ls hl => ?_)
  refine lv_iconst (v := 0) hx hb dX10_knownAt_2 (by decide) ?_
  refine lv_istore (lv' := [(4, .int 0), (3, .int 0), (0, .ref h0), (1, .int x1), (2, .int x2)]) hx hb dX10_knownAt_3 hl (by decide) rfl (fun ls hl => ?_)
  have K_5 : ∀ (n_5 : Nat) (x4_5 : Int32) (x3_5 : Int32) (ls : Array Slot), tq_iv 0 30 x4_5 → (2147483647 - x4_5.toInt).toNat < n_5 → lv_has ls 6 [(4, .int x4_5), (3, .int x3_5), (0, .ref h0), (1, .int x1), (2, .int x2)] → W p l e R s m args below meth c s.heap [] 0 0 Q (F0 m 5 ls []) := by
    intro n_5
    induction n_5 with
    | zero => intro x4_5 x3_5 ls  i1_x4_5 hn_5; exact absurd hn_5 (Nat.not_lt_zero _)
    | succ n_5 ih_5 =>
      intro x4_5 x3_5 ls  i1_x4_5 hn_5 hl
      refine lv_iload hx hb dX10_knownAt_5 (lv_at hl 0 rfl) ?_
      refine lv_aload_n hx hb dX10_knownAt_7 rfl (lv_at hl 2 rfl) ?_
      refine gf_RX10_25 hC hS z_h0 dX10_knownAt_8 (fun t_8 p_8 q_8 => ?_)
      have K_95 : ∀ (ls : Array Slot), lv_has ls 6 [(3, .int x3_5)] → W p l e R s m args below meth c s.heap [] 0 0 Q (F0 m 95 ls []) := by
        intro  ls  hl
        refine lv_iload_n hx hb dX10_knownAt_95 rfl (lv_at hl 0 rfl) ?_
        exact hret x3_5 _ _ rfl ⟨_, rfl, tq_w (tq_top x3_5) (by decide) (by decide)⟩ dX10_knownAt_96
      refine lv_icmp_ge (tgt := 95) hx hb dX10_knownAt_11 (by decide) (fun c_11 => ?_) (fun c_11 => ?_)
      · skip
        have i2_t_8 : tq_iv (-2147483648) 30 t_8 := tq_cut (tq_top t_8) (tq_leL c_11 (tq_top t_8) i1_x4_5) (by decide) (by decide)
        exact K_95 _ (lv_sub hl [1] rfl)
      · skip
        have i3_t_8 : tq_iv 1 2147483647 t_8 := tq_cut (tq_top t_8) (tq_ltR (tq_nle c_11) i1_x4_5 (tq_top t_8)) (by decide) (by decide)
        refine lv_iload hx hb dX10_knownAt_14 (lv_at hl 0 rfl) ?_
        refine lv_bipush (v := 30) hx hb dX10_knownAt_16 (by decide) ?_
        refine lv_icmp_ge (tgt := 95) hx hb dX10_knownAt_18 (by decide) (fun c_18 => ?_) (fun c_18 => ?_)
        · skip
          have i4_x4_5 : tq_iv 30 30 x4_5 := tq_cut i1_x4_5 (tq_leR c_18 (⟨by decide, by decide⟩ : tq_iv 30 30 30) i1_x4_5) (by decide) (by decide)
          exact K_95 _ (lv_sub hl [1] rfl)
        · skip
          have i5_x4_5 : tq_iv 0 29 x4_5 := tq_cut i1_x4_5 (tq_ltL (tq_nle c_18) i1_x4_5 (⟨by decide, by decide⟩ : tq_iv 30 30 30)) (by decide) (by decide)
          refine lv_aload_n hx hb dX10_knownAt_21 rfl (lv_at hl 2 rfl) ?_
          refine gf_RX10_22 hC hS z_h0 dX10_knownAt_22 (fun t_22 p_22 q_22 => ?_)
          refine lv_iload hx hb dX10_knownAt_25 (lv_at hl 0 rfl) ?_
          refine tq_iald hC hS p_22 rfl (tq_vin i5_x4_5 (by decide) (by decide)) dX10_knownAt_27 (fun t_27 p_27 => ?_)
          refine lv_iconst (v := -1) hx hb dX10_knownAt_28 (by decide) ?_
          have K_48 : ∀ (y0_48 : Int32) (ls : Array Slot), tq_iv 0 1 y0_48 → lv_has ls 6 [(4, .int x4_5), (3, .int x3_5), (0, .ref h0), (1, .int x1), (2, .int x2)] → W p l e R s m args below meth c s.heap [] 0 0 Q (F0 m 48 ls [.int y0_48]) := by
            intro y0_48 ls  i6_y0_48 hl
            refine lv_istore (lv' := [(5, .int y0_48), (4, .int x4_5), (3, .int x3_5), (0, .ref h0), (1, .int x1), (2, .int x2)]) hx hb dX10_knownAt_48 hl (by decide) rfl (fun ls hl => ?_)
            refine lv_aload_n hx hb dX10_knownAt_50 rfl (lv_at hl 3 rfl) ?_
            refine gf_RX10_15 hC hS z_h0 dX10_knownAt_51 (fun t_51 p_51 q_51 => ?_)
            refine lv_iload hx hb dX10_knownAt_54 (lv_at hl 1 rfl) ?_
            refine tq_zald hC hS p_51 rfl (tq_vin i5_x4_5 (by decide) (by decide)) dX10_knownAt_56 (fun t_56 p_56 => ?_)
            refine lv_iload_n hx hb dX10_knownAt_57 rfl (lv_at hl 5 rfl) ?_
            have K_89 : ∀ (x3_89 : Int32) (ls : Array Slot), lv_has ls 6 [(4, .int x4_5), (3, .int x3_89), (0, .ref h0), (1, .int x1), (2, .int x2)] → W p l e R s m args below meth c s.heap [] 0 0 Q (F0 m 89 ls []) := by
              intro x3_89 ls  hl
              obtain ⟨t_89, e_89⟩ : ∃ y : Int32, y = x4_5 + 1 := ⟨_, rfl⟩
              have i7_t_89 : tq_iv 1 30 t_89 := tq_w (tq_add e_89 i5_x4_5 (⟨by decide, by decide⟩ : tq_iv 1 1 1) (by decide) (by decide)) (by decide) (by decide)
              refine lv_iinc (v := t_89) (lv' := [(4, .int t_89), (3, .int x3_89), (0, .ref h0), (1, .int x1), (2, .int x2)]) hx hb dX10_knownAt_89 hl (k := 0) rfl (by rw [e_89]; rfl) (by decide) rfl (fun ls hl => ?_)
              refine lv_goto (tgt := 5) hx hb dX10_knownAt_92 (by decide) ?_
              exact ih_5 t_89 x3_89 _ (tq_w i7_t_89 (by decide) (by decide)) (tq_up e_89 i5_x4_5 (⟨by decide, by decide⟩ : tq_iv 1 1 1) (by decide) (by decide) hn_5) (lv_sub hl [0, 1, 2, 3, 4] rfl)
            refine lv_icmp_ne (tgt := 89) hx hb dX10_knownAt_58 (by decide) (fun c_58 => ?_) (fun c_58 => ?_)
            · skip
              exact K_89 x3_5 _ (lv_sub hl [1, 2, 3, 4, 5] rfl)
            · skip
              have i8_t_56 : tq_iv 0 1 t_56 := tq_cut (tq_top t_56) (tq_eqL c_58 i_x2) (by decide) (by decide)
              refine lv_aload_n hx hb dX10_knownAt_61 rfl (lv_at hl 3 rfl) ?_
              refine gf_RX10_19 hC hS z_h0 dX10_knownAt_62 (fun t_62 p_62 q_62 => ?_)
              refine lv_iload hx hb dX10_knownAt_65 (lv_at hl 1 rfl) ?_
              refine tq_iald hC hS p_62 rfl (tq_vin i5_x4_5 (by decide) (by decide)) dX10_knownAt_67 (fun t_67 p_67 => ?_)
              refine lv_iload_n hx hb dX10_knownAt_68 rfl (lv_at hl 4 rfl) ?_
              refine lv_icmp_gt (tgt := 89) hx hb dX10_knownAt_69 (by decide) (fun c_69 => ?_) (fun c_69 => ?_)
              · skip
                have i9_x1 : tq_iv (-2147483648) 2147483646 x1 := tq_cut (tq_top x1) (tq_ltL c_69 (tq_top x1) (tq_top t_67)) (by decide) (by decide)
                have i10_t_67 : tq_iv (-2147483647) 2147483647 t_67 := tq_cut (tq_top t_67) (tq_ltR c_69 (tq_top x1) (tq_top t_67)) (by decide) (by decide)
                exact K_89 x3_5 _ (lv_sub hl [1, 2, 3, 4, 5] rfl)
              · skip
                refine lv_iload hx hb dX10_knownAt_72 (lv_at hl 0 rfl) ?_
                refine lv_if_ne (tgt := 89) hx hb dX10_knownAt_74 (by decide) (fun c_74 => ?_) (fun c_74 => ?_)
                · skip
                  have i11_y0_48 : tq_iv 1 1 y0_48 := tq_w (tq_neLo c_74 i6_y0_48 (⟨by decide, by decide⟩ : tq_iv 0 0 0)) (by decide) (by decide)
                  exact K_89 x3_5 _ (lv_sub hl [1, 2, 3, 4, 5] rfl)
                · skip
                  have i12_y0_48 : tq_iv 0 0 y0_48 := tq_cut i6_y0_48 (tq_eqL c_74 (⟨by decide, by decide⟩ : tq_iv 0 0 0)) (by decide) (by decide)
                  refine lv_iload_n hx hb dX10_knownAt_77 rfl (lv_at hl 2 rfl) ?_
                  refine lv_iconst (v := 1) hx hb dX10_knownAt_78 (by decide) ?_
                  refine lv_aload_n hx hb dX10_knownAt_79 rfl (lv_at hl 3 rfl) ?_
                  refine gf_RX10_11 hC hS z_h0 dX10_knownAt_80 (fun t_80 p_80 q_80 => ?_)
                  refine lv_iload hx hb dX10_knownAt_83 (lv_at hl 1 rfl) ?_
                  refine tq_iald hC hS p_80 rfl (tq_vin i5_x4_5 (by decide) (by decide)) dX10_knownAt_85 (fun t_85 p_85 => ?_)
                  refine lv_ishl hx hb dX10_knownAt_86 ?_
                  refine lv_topi (fun t_86 e_86 => ?_)
                  refine lv_ior hx hb dX10_knownAt_87 ?_
                  refine lv_topi (fun t_87 e_87 => ?_)
                  refine lv_istore_n (lv' := [(3, .int t_87), (5, .int y0_48), (4, .int x4_5), (0, .ref h0), (1, .int x1), (2, .int x2)]) hx hb dX10_knownAt_88 rfl hl (by decide) rfl (fun ls hl => ?_)
                  exact K_89 t_87 _ (lv_sub hl [2, 0, 3, 4, 5] rfl)
          have K_47 : ∀ (ls : Array Slot), lv_has ls 6 [(4, .int x4_5), (3, .int x3_5), (0, .ref h0), (1, .int x1), (2, .int x2)] → W p l e R s m args below meth c s.heap [] 0 0 Q (F0 m 47 ls []) := by
            intro  ls  hl
            refine lv_iconst (v := 0) hx hb dX10_knownAt_47 (by decide) ?_
            exact K_48 0 _ (tq_w (⟨by decide, by decide⟩ : tq_iv 0 0 0) (by decide) (by decide)) (lv_sub hl [0, 1, 2, 3, 4] rfl)
          refine lv_icmp_eq (tgt := 47) hx hb dX10_knownAt_29 (by decide) (fun c_29 => ?_) (fun c_29 => ?_)
          · skip
            have i13_t_27 : tq_iv (-1) (-1) t_27 := tq_cut (tq_top t_27) (tq_eqL c_29 (⟨by decide, by decide⟩ : tq_iv (-1) (-1) (-1))) (by decide) (by decide)
            exact K_47 _ (lv_sub hl [0, 1, 2, 3, 4] rfl)
          · skip
            refine lv_aload_n hx hb dX10_knownAt_32 rfl (lv_at hl 2 rfl) ?_
            refine gf_RX10_22 hC hS z_h0 dX10_knownAt_33 (fun t_33 p_33 q_33 => ?_)
            refine lv_iload hx hb dX10_knownAt_36 (lv_at hl 0 rfl) ?_
            refine tq_iald hC hS p_33 rfl (tq_vin i5_x4_5 (by decide) (by decide)) dX10_knownAt_38 (fun t_38 p_38 => ?_)
            refine lv_iload_n hx hb dX10_knownAt_39 rfl (lv_at hl 3 rfl) ?_
            refine lv_icmp_gt (tgt := 47) hx hb dX10_knownAt_40 (by decide) (fun c_40 => ?_) (fun c_40 => ?_)
            · skip
              have i14_x1 : tq_iv (-2147483648) 2147483646 x1 := tq_cut (tq_top x1) (tq_ltL c_40 (tq_top x1) (tq_top t_38)) (by decide) (by decide)
              have i15_t_38 : tq_iv (-2147483647) 2147483647 t_38 := tq_cut (tq_top t_38) (tq_ltR c_40 (tq_top x1) (tq_top t_38)) (by decide) (by decide)
              exact K_47 _ (lv_sub hl [0, 1, 2, 3, 4] rfl)
            · skip
              refine lv_iconst (v := 1) hx hb dX10_knownAt_43 (by decide) ?_
              refine lv_goto (tgt := 48) hx hb dX10_knownAt_44 (by decide) ?_
              exact K_48 1 _ (tq_w (⟨by decide, by decide⟩ : tq_iv 1 1 1) (by decide) (by decide)) (lv_sub hl [0, 1, 2, 3, 4] rfl)
  exact K_5 _ 0 0 _ (tq_w (⟨by decide, by decide⟩ : tq_iv 0 0 0) (by decide) (by decide)) (Nat.lt_succ_self _) (lv_sub hl [0, 1, 2, 3, 4] rfl)
set_option maxHeartbeats 4000000 in
set_option maxRecDepth 100000 in
theorem c_X11_fits (l : Launch) (X : tq_X) (Z : tq_Z) (f : Nat → va_E) (h0 : Nat) (z_h0 : tq_z Z h0 (.inl 11)) (x1 : Int32) : tq_M l X Z f [(8, 4), (8, 5), (8, 6), (8, 7), (8, 8), (8, 9)] yX11_fits cX11_fits 2 (some .int) 4 [.ref h0, .int x1] (tq_ri (-2147483648) 2147483647) := by
  refine tq_starti (by decide) (Nat.le_of_ble_eq_true rfl) (fun p e R s m args below meth c Q hC hret hS ls hl => ?_)
  have hC : tq_C p R s m args c X (tq_A Z) RX11 cX11_fits 2 4 := hC
  have hx := hC.1.1
  have hb := hC.1.2.1
  have hown := hC.1.2.2.2.1
  have hts := hC.1.2.2.2.2
  have hl : lv_has ls 2 [(0, .ref h0), (1, .int x1)] := hl
  generalize hf0 : f = f0 at hret
  have hS : tq_S X Z (tq_A Z) s.heap f0 [(8, 4), (8, 5), (8, 6), (8, 7), (8, 8), (8, 9)] f s.heap [] := hf0 ▸ hS
  refine lv_aload_n hx hb dX11_fits_0 rfl (lv_at hl 0 rfl) ?_
  refine gf_RX11_71 hC hS z_h0 dX11_fits_1 (fun t_1 p_1 q_1 => ?_)
  refine lv_aload_n hx hb dX11_fits_4 rfl (lv_at hl 0 rfl) ?_
  refine gf_RX11_29 hC hS z_h0 dX11_fits_5 (fun t_5 p_5 q_5 => ?_)
  refine gf_RX11_115 hC hS p_5 dX11_fits_8 (fun t_8 p_8 q_8 => ?_)
  refine tq_callVv (As := [.ref t_8]) (rest := []) hC (c_X8_take l X Z _ t_1 p_1 t_8 p_8) k_X8_take ql_RX11_325 (by decide) rfl (by decide) hS p_1 rfl hl.1 rfl (Nat.le_of_ble_eq_true rfl) ⟨Nat.zero_le _, Nat.zero_le _⟩ dX11_fits_11 (fun f1_11 H locs hS k_11 => ?_)
  refine lv_aload_n hx hb dX11_fits_14 rfl (lv_at hl 0 rfl) ?_
  refine gf_RX11_71 hC hS z_h0 dX11_fits_15 (fun t_15 p_15 q_15 => ?_)
  refine lv_aload_n hx hb dX11_fits_18 rfl (lv_at hl 0 rfl) ?_
  refine gf_RX11_93 hC hS z_h0 dX11_fits_19 (fun t_19 p_19 q_19 => ?_)
  refine lv_iload_n hx hb dX11_fits_22 rfl (lv_at hl 1 rfl) ?_
  refine lv_iconst (v := 1) hx hb dX11_fits_23 (by decide) ?_
  refine tq_callVpi (As := [.int x1, .int 1]) (rest := [.ref t_15]) hC (c_X10_knownAt l X Z _ t_19 p_19 x1 1 (tq_w (⟨by decide, by decide⟩ : tq_iv 1 1 1) (by decide) (by decide))) k_X10_knownAt ql_RX11_412 rfl (by decide) hS p_19 rfl hl.1 rfl (Nat.le_of_ble_eq_true rfl) ⟨Nat.zero_le _, Nat.zero_le _⟩ dX11_fits_24 (fun t_24 p_24 => ?_)
  refine lv_aload_n hx hb dX11_fits_27 rfl (lv_at hl 0 rfl) ?_
  refine gf_RX11_93 hC hS z_h0 dX11_fits_28 (fun t_28 p_28 q_28 => ?_)
  refine lv_iload_n hx hb dX11_fits_31 rfl (lv_at hl 1 rfl) ?_
  refine lv_iconst (v := 0) hx hb dX11_fits_32 (by decide) ?_
  refine tq_callVpi (As := [.int x1, .int 0]) (rest := [.int t_24, .ref t_15]) hC (c_X10_knownAt l X Z _ t_28 p_28 x1 0 (tq_w (⟨by decide, by decide⟩ : tq_iv 0 0 0) (by decide) (by decide))) k_X10_knownAt ql_RX11_412 rfl (by decide) hS p_28 rfl hl.1 rfl (Nat.le_of_ble_eq_true rfl) ⟨Nat.zero_le _, Nat.zero_le _⟩ dX11_fits_33 (fun t_33 p_33 => ?_)
  refine tq_callVpi (As := [.int t_24, .int t_33]) (rest := []) hC (c_X8_total l X Z _ t_15 p_15 t_24 t_33) k_X8_total ql_RX11_328 rfl (by decide) hS p_15 rfl hl.1 rfl (Nat.le_of_ble_eq_true rfl) ⟨Nat.zero_le _, Nat.zero_le _⟩ dX11_fits_36 (fun t_36 p_36 => ?_)
  exact hret t_36 _ _ _ _ _ rfl ⟨_, rfl, tq_w (tq_top t_36) (by decide) (by decide)⟩ hS dX11_fits_39
set_option maxHeartbeats 4000000 in
set_option maxRecDepth 100000 in
theorem c_X8_depthsMet (l : Launch) (X : tq_X) (Z : tq_Z) (f : Nat → va_E) (h0 : Nat) (z_h0 : tq_z Z h0 (.inl 8)) (x1 : Int32) (x2 : Int32) : tq_Mp l X Z f yX8_depthsMet cX8_depthsMet 5 (some .int) 1 [.ref h0, .int x1, .int x2] (tq_ri (-2147483648) 2147483647) := by
  refine tq_startip (by decide) (Nat.le_of_ble_eq_true rfl) (fun p e R s m args below meth c Q hC hret hS ls hl => ?_)
  have hC : tq_C p R s m args c X (tq_A Z) RX8 cX8_depthsMet 5 1 := hC
  have hx := hC.1.1
  have hb := hC.1.2.1
  have hown := hC.1.2.2.2.1
  have hts := hC.1.2.2.2.2
  have hl : lv_has ls 5 [(0, .ref h0), (1, .int x1), (2, .int x2)] := hl
  refine lv_iconst (v := 0) hx hb dX8_depthsMet_0 (by decide) ?_
  refine lv_istore_n (lv' := [(3, .int 0), (0, .ref h0), (1, .int x1), (2, .int x2)]) hx hb dX8_depthsMet_1 rfl hl (by decide) rfl (fun ls hl => ?_)
  refine lv_iconst (v := 0) hx hb dX8_depthsMet_2 (by decide) ?_
  refine lv_istore (lv' := [(4, .int 0), (3, .int 0), (0, .ref h0), (1, .int x1), (2, .int x2)]) hx hb dX8_depthsMet_3 hl (by decide) rfl (fun ls hl => ?_)
  have K_5 : ∀ (n_5 : Nat) (x4_5 : Int32) (x3_5 : Int32) (ls : Array Slot), tq_iv 0 64 x4_5 → (2147483647 - x4_5.toInt).toNat < n_5 → lv_has ls 5 [(4, .int x4_5), (3, .int x3_5), (0, .ref h0), (1, .int x1), (2, .int x2)] → W p l e R s m args below meth c s.heap [] 0 0 Q (F0 m 5 ls []) := by
    intro n_5
    induction n_5 with
    | zero => intro x4_5 x3_5 ls  i1_x4_5 hn_5; exact absurd hn_5 (Nat.not_lt_zero _)
    | succ n_5 ih_5 =>
      intro x4_5 x3_5 ls  i1_x4_5 hn_5 hl
      refine lv_iload hx hb dX8_depthsMet_5 (lv_at hl 0 rfl) ?_
      refine lv_bipush (v := 64) hx hb dX8_depthsMet_7 (by decide) ?_
      refine lv_icmp_ge (tgt := 39) hx hb dX8_depthsMet_9 (by decide) (fun c_9 => ?_) (fun c_9 => ?_)
      · skip
        have i2_x4_5 : tq_iv 64 64 x4_5 := tq_cut i1_x4_5 (tq_leR c_9 (⟨by decide, by decide⟩ : tq_iv 64 64 64) i1_x4_5) (by decide) (by decide)
        refine lv_iload_n hx hb dX8_depthsMet_39 rfl (lv_at hl 1 rfl) ?_
        exact hret x3_5 _ _ rfl ⟨_, rfl, tq_w (tq_top x3_5) (by decide) (by decide)⟩ dX8_depthsMet_40
      · skip
        have i3_x4_5 : tq_iv 0 63 x4_5 := tq_cut i1_x4_5 (tq_ltL (tq_nle c_9) i1_x4_5 (⟨by decide, by decide⟩ : tq_iv 64 64 64)) (by decide) (by decide)
        refine lv_aload_n hx hb dX8_depthsMet_12 rfl (lv_at hl 2 rfl) ?_
        refine lv_iload hx hb dX8_depthsMet_13 (lv_at hl 0 rfl) ?_
        refine lv_iload_n hx hb dX8_depthsMet_15 rfl (lv_at hl 3 rfl) ?_
        refine lv_iload_n hx hb dX8_depthsMet_16 rfl (lv_at hl 4 rfl) ?_
        refine tq_callVpi (As := [.int x4_5, .int x1, .int x2]) (rest := []) hC (c_X8_isSuch l X Z _ h0 z_h0 x4_5 (tq_w i3_x4_5 (by decide) (by decide)) x1 x2) k_X8_isSuch ql_RX8_120 rfl (by decide) hS z_h0 rfl hl.1 rfl (Nat.le_of_ble_eq_true rfl) ⟨Nat.zero_le _, Nat.zero_le _⟩ dX8_depthsMet_17 (fun t_17 p_17 => ?_)
        have K_33 : ∀ (x3_33 : Int32) (ls : Array Slot), lv_has ls 5 [(4, .int x4_5), (3, .int x3_33), (0, .ref h0), (1, .int x1), (2, .int x2)] → W p l e R s m args below meth c s.heap [] 0 0 Q (F0 m 33 ls []) := by
          intro x3_33 ls  hl
          obtain ⟨t_33, e_33⟩ : ∃ y : Int32, y = x4_5 + 1 := ⟨_, rfl⟩
          have i4_t_33 : tq_iv 1 64 t_33 := tq_w (tq_add e_33 i3_x4_5 (⟨by decide, by decide⟩ : tq_iv 1 1 1) (by decide) (by decide)) (by decide) (by decide)
          refine lv_iinc (v := t_33) (lv' := [(4, .int t_33), (3, .int x3_33), (0, .ref h0), (1, .int x1), (2, .int x2)]) hx hb dX8_depthsMet_33 hl (k := 0) rfl (by rw [e_33]; rfl) (by decide) rfl (fun ls hl => ?_)
          refine lv_goto (tgt := 5) hx hb dX8_depthsMet_36 (by decide) ?_
          exact ih_5 t_33 x3_33 _ (tq_w i4_t_33 (by decide) (by decide)) (tq_up e_33 i3_x4_5 (⟨by decide, by decide⟩ : tq_iv 1 1 1) (by decide) (by decide) hn_5) (lv_sub hl [0, 1, 2, 3, 4] rfl)
        refine lv_if_eq (tgt := 33) hx hb dX8_depthsMet_20 (by decide) (fun c_20 => ?_) (fun c_20 => ?_)
        · skip
          have i5_t_17 : tq_iv 0 0 t_17 := tq_cut p_17 (tq_eqL c_20 (⟨by decide, by decide⟩ : tq_iv 0 0 0)) (by decide) (by decide)
          exact K_33 x3_5 _ (lv_sub hl [0, 1, 2, 3, 4] rfl)
        · skip
          have i6_t_17 : tq_iv 1 1 t_17 := tq_w (tq_neLo c_20 p_17 (⟨by decide, by decide⟩ : tq_iv 0 0 0)) (by decide) (by decide)
          refine lv_iload_n hx hb dX8_depthsMet_23 rfl (lv_at hl 1 rfl) ?_
          refine lv_aload_n hx hb dX8_depthsMet_24 rfl (lv_at hl 2 rfl) ?_
          refine gf_RX8_53 hC hS z_h0 dX8_depthsMet_25 (fun t_25 p_25 q_25 => ?_)
          refine lv_iload hx hb dX8_depthsMet_28 (lv_at hl 0 rfl) ?_
          refine tq_iald hC hS p_25 rfl (tq_vin i3_x4_5 (by decide) (by decide)) dX8_depthsMet_30 (fun t_30 p_30 => ?_)
          refine lv_ior hx hb dX8_depthsMet_31 ?_
          refine lv_topi (fun t_31 e_31 => ?_)
          refine lv_istore_n (lv' := [(3, .int t_31), (4, .int x4_5), (0, .ref h0), (1, .int x1), (2, .int x2)]) hx hb dX8_depthsMet_32 rfl hl (by decide) rfl (fun ls hl => ?_)
          exact K_33 t_31 _ (lv_sub hl [1, 0, 2, 3, 4] rfl)
  exact K_5 _ 0 0 _ (tq_w (⟨by decide, by decide⟩ : tq_iv 0 0 0) (by decide) (by decide)) (Nat.lt_succ_self _) (lv_sub hl [0, 1, 2, 3, 4] rfl)
set_option maxHeartbeats 4000000 in
set_option maxRecDepth 100000 in
theorem c_X11_sure (l : Launch) (X : tq_X) (Z : tq_Z) (f : Nat → va_E) (h0 : Nat) (z_h0 : tq_z Z h0 (.inl 11)) (x1 : Int32) (x2 : Int32) : tq_M l X Z f [(8, 4), (8, 5), (8, 6), (8, 7), (8, 8), (8, 9)] yX11_sure cX11_sure 4 (some .int) 5 [.ref h0, .int x1, .int x2] (tq_ri (-2147483648) 2147483647) := by
  refine tq_starti (by decide) (Nat.le_of_ble_eq_true rfl) (fun p e R s m args below meth c Q hC hret hS ls hl => ?_)
  have hC : tq_C p R s m args c X (tq_A Z) RX11 cX11_sure 4 5 := hC
  have hx := hC.1.1
  have hb := hC.1.2.1
  have hown := hC.1.2.2.2.1
  have hts := hC.1.2.2.2.2
  have hl : lv_has ls 4 [(0, .ref h0), (1, .int x1), (2, .int x2)] := hl
  generalize hf0 : f = f0 at hret
  have hS : tq_S X Z (tq_A Z) s.heap f0 [(8, 4), (8, 5), (8, 6), (8, 7), (8, 8), (8, 9)] f s.heap [] := hf0 ▸ hS
  refine lv_aload_n hx hb dX11_sure_0 rfl (lv_at hl 0 rfl) ?_
  refine gf_RX11_37 hC hS z_h0 dX11_sure_1 (fun t_1 p_1 q_1 => ?_)
  refine lv_iload_n hx hb dX11_sure_4 rfl (lv_at hl 1 rfl) ?_
  refine tq_callVpi (As := [.int x1]) (rest := []) hC (c_X6_hasChamber l X Z _ t_1 p_1 x1) k_X6_hasChamber ql_RX11_158 rfl (by decide) hS p_1 rfl hl.1 rfl (Nat.le_of_ble_eq_true rfl) ⟨Nat.zero_le _, Nat.zero_le _⟩ dX11_sure_5 (fun t_5 p_5 => ?_)
  have K_19 : ∀ (f : Nat → va_E) (H : Heap) (locs : List Loc) (ls : Array Slot), tq_S X Z (tq_A Z) s.heap f0 [(8, 4), (8, 5), (8, 6), (8, 7), (8, 8), (8, 9)] f H locs → lv_has ls 4 [] → W p l e R s m args below meth c H locs 0 0 Q (F0 m 19 ls []) := by
    intro f H locs ls  hS hl
    refine lv_iconst (v := -1) hx hb dX11_sure_19 (by decide) ?_
    exact hret (-1) _ _ _ _ _ rfl ⟨_, rfl, tq_w (⟨by decide, by decide⟩ : tq_iv (-1) (-1) (-1)) (by decide) (by decide)⟩ hS dX11_sure_20
  refine lv_if_eq (tgt := 19) hx hb dX11_sure_8 (by decide) (fun c_8 => ?_) (fun c_8 => ?_)
  · skip
    have i1_t_5 : tq_iv 0 0 t_5 := tq_cut p_5 (tq_eqL c_8 (⟨by decide, by decide⟩ : tq_iv 0 0 0)) (by decide) (by decide)
    exact K_19 _ _ _ _ hS (lv_sub hl [] rfl)
  · skip
    have i2_t_5 : tq_iv 1 1 t_5 := tq_w (tq_neLo c_8 p_5 (⟨by decide, by decide⟩ : tq_iv 0 0 0)) (by decide) (by decide)
    refine lv_aload_n hx hb dX11_sure_11 rfl (lv_at hl 0 rfl) ?_
    refine lv_iload_n hx hb dX11_sure_12 rfl (lv_at hl 2 rfl) ?_
    refine tq_callVi (As := [.int x2]) (rest := []) hC (c_X11_fits l X Z _ h0 z_h0 x2) k_X11_fits ql_RX11_415 (by decide) rfl (by decide) hS z_h0 rfl hl.1 rfl (Nat.le_of_ble_eq_true rfl) ⟨Nat.zero_le _, Nat.zero_le _⟩ dX11_sure_13 (fun t_13 f1_13 H locs p_13 hS k_13 => ?_)
    refine lv_if_ne (tgt := 21) hx hb dX11_sure_16 (by decide) (fun c_16 => ?_) (fun c_16 => ?_)
    · skip
      refine lv_aload_n hx hb dX11_sure_21 rfl (lv_at hl 0 rfl) ?_
      refine gf_RX11_71 hC hS z_h0 dX11_sure_22 (fun t_22 p_22 q_22 => ?_)
      refine lv_aload_n hx hb dX11_sure_25 rfl (lv_at hl 0 rfl) ?_
      refine gf_RX11_93 hC hS z_h0 dX11_sure_26 (fun t_26 p_26 q_26 => ?_)
      refine lv_iload_n hx hb dX11_sure_29 rfl (lv_at hl 2 rfl) ?_
      refine lv_iconst (v := 1) hx hb dX11_sure_30 (by decide) ?_
      refine tq_callVpi (As := [.int x2, .int 1]) (rest := [.ref t_22]) hC (c_X10_knownAt l X Z _ t_26 p_26 x2 1 (tq_w (⟨by decide, by decide⟩ : tq_iv 1 1 1) (by decide) (by decide))) k_X10_knownAt ql_RX11_412 rfl (by decide) hS p_26 rfl hl.1 rfl (Nat.le_of_ble_eq_true rfl) ⟨Nat.zero_le _, Nat.zero_le _⟩ dX11_sure_31 (fun t_31 p_31 => ?_)
      refine lv_aload_n hx hb dX11_sure_34 rfl (lv_at hl 0 rfl) ?_
      refine gf_RX11_93 hC hS z_h0 dX11_sure_35 (fun t_35 p_35 q_35 => ?_)
      refine lv_iload_n hx hb dX11_sure_38 rfl (lv_at hl 2 rfl) ?_
      refine lv_iconst (v := 0) hx hb dX11_sure_39 (by decide) ?_
      refine tq_callVpi (As := [.int x2, .int 0]) (rest := [.int t_31, .ref t_22]) hC (c_X10_knownAt l X Z _ t_35 p_35 x2 0 (tq_w (⟨by decide, by decide⟩ : tq_iv 0 0 0) (by decide) (by decide))) k_X10_knownAt ql_RX11_412 rfl (by decide) hS p_35 rfl hl.1 rfl (Nat.le_of_ble_eq_true rfl) ⟨Nat.zero_le _, Nat.zero_le _⟩ dX11_sure_40 (fun t_40 p_40 => ?_)
      refine tq_callVpi (As := [.int t_31, .int t_40]) (rest := []) hC (c_X8_depthsMet l X Z _ t_22 p_22 t_31 t_40) k_X8_depthsMet ql_RX11_418 rfl (by decide) hS p_22 rfl hl.1 rfl (Nat.le_of_ble_eq_true rfl) ⟨Nat.zero_le _, Nat.zero_le _⟩ dX11_sure_43 (fun t_43 p_43 => ?_)
      refine lv_iload_n hx hb dX11_sure_46 rfl (lv_at hl 1 rfl) ?_
      refine tq_callSpi (As := [.int t_43, .int x1]) (rest := []) hC (c_X6_depthsAt l X Z _ t_43 x1) k_X6_depthsAt ql_RX11_185 rfl (by decide) hS hl.1 rfl (Nat.le_of_ble_eq_true rfl) ⟨Nat.zero_le _, Nat.zero_le _⟩ dX11_sure_47 (fun t_47 p_47 => ?_)
      refine lv_istore_n (lv' := [(3, .int t_47), (0, .ref h0), (1, .int x1), (2, .int x2)]) hx hb dX11_sure_50 rfl hl (by decide) rfl (fun ls hl => ?_)
      refine lv_iload_n hx hb dX11_sure_51 rfl (lv_at hl 0 rfl) ?_
      refine tq_callSpi (As := [.int t_47]) (rest := []) hC (c_J6_bitCount_0f7a4 l X Z _ t_47) k_J6_bitCount_0f7a4 ql_RX11_171 rfl (by decide) hS hl.1 rfl (Nat.le_of_ble_eq_true rfl) ⟨Nat.zero_le _, Nat.zero_le _⟩ dX11_sure_52 (fun t_52 p_52 => ?_)
      refine lv_iconst (v := 1) hx hb dX11_sure_55 (by decide) ?_
      have K_68 : ∀ (y0_68 : Int32) (f : Nat → va_E) (H : Heap) (locs : List Loc) (ls : Array Slot), tq_S X Z (tq_A Z) s.heap f0 [(8, 4), (8, 5), (8, 6), (8, 7), (8, 8), (8, 9)] f H locs → lv_has ls 4 [] → W p l e R s m args below meth c H locs 0 0 Q (F0 m 68 ls [.int y0_68]) := by
        intro y0_68 f H locs ls  hS hl
        exact hret y0_68 _ _ _ _ _ rfl ⟨_, rfl, tq_w (tq_top y0_68) (by decide) (by decide)⟩ hS dX11_sure_68
      refine lv_icmp_ne (tgt := 66) hx hb dX11_sure_56 (by decide) (fun c_56 => ?_) (fun c_56 => ?_)
      · skip
        refine lv_bipush (v := -2) hx hb dX11_sure_66 (by decide) ?_
        exact K_68 (-2) _ _ _ _ hS (lv_sub hl [] rfl)
      · skip
        have i3_t_52 : tq_iv 1 1 t_52 := tq_cut p_52 (tq_eqL c_56 (⟨by decide, by decide⟩ : tq_iv 1 1 1)) (by decide) (by decide)
        refine lv_iload_n hx hb dX11_sure_59 rfl (lv_at hl 0 rfl) ?_
        refine tq_callSpi (As := [.int t_47]) (rest := []) hC (c_J6_numberOfTrailingZeros_0f7a4 l X Z _ t_47) k_J6_numberOfTrailingZeros_0f7a4 ql_RX11_225 rfl (by decide) hS hl.1 rfl (Nat.le_of_ble_eq_true rfl) ⟨Nat.zero_le _, Nat.zero_le _⟩ dX11_sure_60 (fun t_60 p_60 => ?_)
        refine lv_goto (tgt := 68) hx hb dX11_sure_63 (by decide) ?_
        exact K_68 t_60 _ _ _ _ hS (lv_sub hl [] rfl)
    · skip
      have i4_t_13 : tq_iv 0 0 t_13 := tq_cut (tq_top t_13) (tq_eqL c_16 (⟨by decide, by decide⟩ : tq_iv 0 0 0)) (by decide) (by decide)
      exact K_19 _ _ _ _ hS (lv_sub hl [] rfl)
set_option maxHeartbeats 4000000 in
set_option maxRecDepth 100000 in
theorem c_X11_ask (l : Launch) (X : tq_X) (Z : tq_Z) (f : Nat → va_E) (h0 : Nat) (z_h0 : tq_z Z h0 (.inl 11)) (x1 : Int32) (x2 : Int32) : tq_M l X Z f [(8, 4), (8, 5), (8, 6), (8, 7), (8, 8), (8, 9)] yX11_ask cX11_ask 11 (some .int) 5 [.ref h0, .int x1, .int x2] (tq_ri (-2147483648) 2147483647) := by
  refine tq_starti (by decide) (Nat.le_of_ble_eq_true rfl) (fun p e R s m args below meth c Q hC hret hS ls hl => ?_)
  have hC : tq_C p R s m args c X (tq_A Z) RX11 cX11_ask 11 5 := hC
  have hx := hC.1.1
  have hb := hC.1.2.1
  have hown := hC.1.2.2.2.1
  have hts := hC.1.2.2.2.2
  have hl : lv_has ls 11 [(0, .ref h0), (1, .int x1), (2, .int x2)] := hl
  generalize hf0 : f = f0 at hret
  have hS : tq_S X Z (tq_A Z) s.heap f0 [(8, 4), (8, 5), (8, 6), (8, 7), (8, 8), (8, 9)] f s.heap [] := hf0 ▸ hS
  refine lv_iload_n hx hb dX11_ask_0 rfl (lv_at hl 1 rfl) ?_
  have K_9 : ∀ (f : Nat → va_E) (H : Heap) (locs : List Loc) (ls : Array Slot), tq_S X Z (tq_A Z) s.heap f0 [(8, 4), (8, 5), (8, 6), (8, 7), (8, 8), (8, 9)] f H locs → lv_has ls 11 [] → W p l e R s m args below meth c H locs 0 0 Q (F0 m 9 ls []) := by
    intro f H locs ls  hS hl
    refine lv_iconst (v := -1) hx hb dX11_ask_9 (by decide) ?_
    exact hret (-1) _ _ _ _ _ rfl ⟨_, rfl, tq_w (⟨by decide, by decide⟩ : tq_iv (-1) (-1) (-1)) (by decide) (by decide)⟩ hS dX11_ask_10
  refine lv_if_lt (tgt := 9) hx hb dX11_ask_1 (by decide) (fun c_1 => ?_) (fun c_1 => ?_)
  · skip
    have i1_x1 : tq_iv (-2147483648) (-1) x1 := tq_cut (tq_top x1) (tq_ltL c_1 (tq_top x1) (⟨by decide, by decide⟩ : tq_iv 0 0 0)) (by decide) (by decide)
    exact K_9 _ _ _ _ hS (lv_sub hl [] rfl)
  · skip
    have i2_x1 : tq_iv 0 2147483647 x1 := tq_cut (tq_top x1) (tq_leR (tq_nlt c_1) (⟨by decide, by decide⟩ : tq_iv 0 0 0) (tq_top x1)) (by decide) (by decide)
    refine lv_iload_n hx hb dX11_ask_4 rfl (lv_at hl 1 rfl) ?_
    refine lv_iconst (v := 1) hx hb dX11_ask_5 (by decide) ?_
    refine lv_icmp_le (tgt := 11) hx hb dX11_ask_6 (by decide) (fun c_6 => ?_) (fun c_6 => ?_)
    · skip
      have i3_x1 : tq_iv 0 1 x1 := tq_cut i2_x1 (tq_leL c_6 i2_x1 (⟨by decide, by decide⟩ : tq_iv 1 1 1)) (by decide) (by decide)
      refine lv_aload_n hx hb dX11_ask_11 rfl (lv_at hl 0 rfl) ?_
      refine lv_iload_n hx hb dX11_ask_12 rfl (lv_at hl 2 rfl) ?_
      refine tq_callVi (As := [.int x2]) (rest := []) hC (c_X11_fits l X Z _ h0 z_h0 x2) k_X11_fits ql_RX11_415 (by decide) rfl (by decide) hS z_h0 rfl hl.1 rfl (Nat.le_of_ble_eq_true rfl) ⟨Nat.zero_le _, Nat.zero_le _⟩ dX11_ask_13 (fun t_13 f1_13 H locs p_13 hS k_13 => ?_)
      refine lv_istore_n (lv' := [(3, .int t_13), (0, .ref h0), (1, .int x1), (2, .int x2)]) hx hb dX11_ask_16 rfl hl (by decide) rfl (fun ls hl => ?_)
      refine lv_iload_n hx hb dX11_ask_17 rfl (lv_at hl 0 rfl) ?_
      refine lv_if_ne (tgt := 23) hx hb dX11_ask_18 (by decide) (fun c_18 => ?_) (fun c_18 => ?_)
      · skip
        refine lv_aload_n hx hb dX11_ask_23 rfl (lv_at hl 1 rfl) ?_
        refine gf_RX11_93 hC hS z_h0 dX11_ask_24 (fun t_24 p_24 q_24 => ?_)
        refine lv_iload_n hx hb dX11_ask_27 rfl (lv_at hl 3 rfl) ?_
        refine lv_iconst (v := 1) hx hb dX11_ask_28 (by decide) ?_
        refine tq_callVpi (As := [.int x2, .int 1]) (rest := []) hC (c_X10_knownAt l X Z _ t_24 p_24 x2 1 (tq_w (⟨by decide, by decide⟩ : tq_iv 1 1 1) (by decide) (by decide))) k_X10_knownAt ql_RX11_412 rfl (by decide) hS p_24 rfl hl.1 rfl (Nat.le_of_ble_eq_true rfl) ⟨Nat.zero_le _, Nat.zero_le _⟩ dX11_ask_29 (fun t_29 p_29 => ?_)
        refine lv_istore (lv' := [(4, .int t_29), (3, .int t_13), (0, .ref h0), (1, .int x1), (2, .int x2)]) hx hb dX11_ask_32 hl (by decide) rfl (fun ls hl => ?_)
        refine lv_aload_n hx hb dX11_ask_34 rfl (lv_at hl 2 rfl) ?_
        refine gf_RX11_93 hC hS z_h0 dX11_ask_35 (fun t_35 p_35 q_35 => ?_)
        refine lv_iload_n hx hb dX11_ask_38 rfl (lv_at hl 4 rfl) ?_
        refine lv_iconst (v := 0) hx hb dX11_ask_39 (by decide) ?_
        refine tq_callVpi (As := [.int x2, .int 0]) (rest := []) hC (c_X10_knownAt l X Z _ t_35 p_35 x2 0 (tq_w (⟨by decide, by decide⟩ : tq_iv 0 0 0) (by decide) (by decide))) k_X10_knownAt ql_RX11_412 rfl (by decide) hS p_35 rfl hl.1 rfl (Nat.le_of_ble_eq_true rfl) ⟨Nat.zero_le _, Nat.zero_le _⟩ dX11_ask_40 (fun t_40 p_40 => ?_)
        refine lv_istore (lv' := [(5, .int t_40), (4, .int t_29), (3, .int t_13), (0, .ref h0), (1, .int x1), (2, .int x2)]) hx hb dX11_ask_43 hl (by decide) rfl (fun ls hl => ?_)
        refine lv_iconst (v := -1) hx hb dX11_ask_45 (by decide) ?_
        refine lv_istore (lv' := [(6, .int (-1)), (5, .int t_40), (4, .int t_29), (3, .int t_13), (0, .ref h0), (1, .int x1), (2, .int x2)]) hx hb dX11_ask_46 hl (by decide) rfl (fun ls hl => ?_)
        refine lv_iconst (v := 0) hx hb dX11_ask_48 (by decide) ?_
        refine lv_istore (lv' := [(7, .int 0), (6, .int (-1)), (5, .int t_40), (4, .int t_29), (3, .int t_13), (0, .ref h0), (1, .int x1), (2, .int x2)]) hx hb dX11_ask_49 hl (by decide) rfl (fun ls hl => ?_)
        refine lv_iconst (v := 0) hx hb dX11_ask_51 (by decide) ?_
        refine lv_istore (lv' := [(8, .int 0), (7, .int 0), (6, .int (-1)), (5, .int t_40), (4, .int t_29), (3, .int t_13), (0, .ref h0), (1, .int x1), (2, .int x2)]) hx hb dX11_ask_52 hl (by decide) rfl (fun ls hl => ?_)
        have K_54 : ∀ (n_54 : Nat) (x8_54 : Int32) (x7_54 : Int32) (x6_54 : Int32) (f : Nat → va_E) (H : Heap) (locs : List Loc) (ls : Array Slot), tq_S X Z (tq_A Z) s.heap f0 [(8, 4), (8, 5), (8, 6), (8, 7), (8, 8), (8, 9)] f H locs → tq_iv (-1) 2147483646 x6_54 → tq_iv 0 2147483647 x8_54 → (2147483647 - x8_54.toInt).toNat < n_54 → lv_has ls 11 [(8, .int x8_54), (7, .int x7_54), (6, .int x6_54), (5, .int t_40), (4, .int t_29), (3, .int t_13), (0, .ref h0), (1, .int x1)] → W p l e R s m args below meth c H locs 0 0 Q (F0 m 54 ls []) := by
          intro n_54
          induction n_54 with
          | zero => intro x8_54 x7_54 x6_54 f H locs ls  hS i4_x6_54 i5_x8_54 hn_54; exact absurd hn_54 (Nat.not_lt_zero _)
          | succ n_54 ih_54 =>
            intro x8_54 x7_54 x6_54 f H locs ls  hS i4_x6_54 i5_x8_54 hn_54 hl
            refine lv_iload hx hb dX11_ask_54 (lv_at hl 0 rfl) ?_
            refine lv_aload_n hx hb dX11_ask_56 rfl (lv_at hl 6 rfl) ?_
            refine gf_RX11_29 hC hS z_h0 dX11_ask_57 (fun t_57 p_57 q_57 => ?_)
            refine gf_RX11_392 hC hS p_57 dX11_ask_60 (fun t_60 p_60 q_60 => ?_)
            refine lv_icmp_ge (tgt := 122) hx hb dX11_ask_63 (by decide) (fun c_63 => ?_) (fun c_63 => ?_)
            · skip
              refine lv_iload_n hx hb dX11_ask_122 rfl (lv_at hl 7 rfl) ?_
              have K_139 : ∀ (y0_139 : Int32) (f : Nat → va_E) (H : Heap) (locs : List Loc) (ls : Array Slot), tq_S X Z (tq_A Z) s.heap f0 [(8, 4), (8, 5), (8, 6), (8, 7), (8, 8), (8, 9)] f H locs → lv_has ls 11 [] → W p l e R s m args below meth c H locs 0 0 Q (F0 m 139 ls [.int y0_139]) := by
                intro y0_139 f H locs ls  hS hl
                exact hret y0_139 _ _ _ _ _ rfl ⟨_, rfl, tq_w (tq_top y0_139) (by decide) (by decide)⟩ hS dX11_ask_139
              have K_132 : ∀ (f : Nat → va_E) (H : Heap) (locs : List Loc) (ls : Array Slot), tq_S X Z (tq_A Z) s.heap f0 [(8, 4), (8, 5), (8, 6), (8, 7), (8, 8), (8, 9)] f H locs → lv_has ls 11 [(6, .int x6_54)] → W p l e R s m args below meth c H locs 0 0 Q (F0 m 132 ls []) := by
                intro f H locs ls  hS hl
                refine lv_iload hx hb dX11_ask_132 (lv_at hl 0 rfl) ?_
                refine lv_goto (tgt := 139) hx hb dX11_ask_134 (by decide) ?_
                exact K_139 x6_54 _ _ _ _ hS (lv_sub hl [] rfl)
              refine lv_if_eq (tgt := 132) hx hb dX11_ask_123 (by decide) (fun c_123 => ?_) (fun c_123 => ?_)
              · skip
                have i6_x1 : tq_iv 0 0 x1 := tq_cut i3_x1 (tq_eqL c_123 (⟨by decide, by decide⟩ : tq_iv 0 0 0)) (by decide) (by decide)
                exact K_132 _ _ _ _ hS (lv_sub hl [2] rfl)
              · skip
                have i7_x1 : tq_iv 1 1 x1 := tq_w (tq_neLo c_123 i3_x1 (⟨by decide, by decide⟩ : tq_iv 0 0 0)) (by decide) (by decide)
                refine lv_iload hx hb dX11_ask_126 (lv_at hl 2 rfl) ?_
                refine lv_iconst (v := -1) hx hb dX11_ask_128 (by decide) ?_
                refine lv_icmp_ne (tgt := 137) hx hb dX11_ask_129 (by decide) (fun c_129 => ?_) (fun c_129 => ?_)
                · skip
                  have i8_x6_54 : tq_iv 0 2147483646 x6_54 := tq_w (tq_neLo c_129 i4_x6_54 (⟨by decide, by decide⟩ : tq_iv (-1) (-1) (-1))) (by decide) (by decide)
                  refine lv_iload hx hb dX11_ask_137 (lv_at hl 1 rfl) ?_
                  exact K_139 x7_54 _ _ _ _ hS (lv_sub hl [] rfl)
                · skip
                  have i9_x6_54 : tq_iv (-1) (-1) x6_54 := tq_cut i4_x6_54 (tq_eqL c_129 (⟨by decide, by decide⟩ : tq_iv (-1) (-1) (-1))) (by decide) (by decide)
                  exact K_132 _ _ _ _ hS (lv_sub hl [2] rfl)
            · skip
              have i10_x8_54 : tq_iv 0 2147483646 x8_54 := tq_cut i5_x8_54 (tq_ltL (tq_nle c_63) i5_x8_54 (tq_top t_60)) (by decide) (by decide)
              have i11_t_60 : tq_iv 1 2147483647 t_60 := tq_cut (tq_top t_60) (tq_ltR (tq_nle c_63) i5_x8_54 (tq_top t_60)) (by decide) (by decide)
              refine lv_aload_n hx hb dX11_ask_66 rfl (lv_at hl 6 rfl) ?_
              refine gf_RX11_71 hC hS z_h0 dX11_ask_67 (fun t_67 p_67 q_67 => ?_)
              refine lv_iload hx hb dX11_ask_70 (lv_at hl 4 rfl) ?_
              refine lv_iconst (v := 1) hx hb dX11_ask_72 (by decide) ?_
              refine lv_iload hx hb dX11_ask_73 (lv_at hl 0 rfl) ?_
              refine lv_ishl hx hb dX11_ask_75 ?_
              refine lv_topi (fun t_75 e_75 => ?_)
              refine lv_ior hx hb dX11_ask_76 ?_
              refine lv_topi (fun t_76 e_76 => ?_)
              refine lv_iload hx hb dX11_ask_77 (lv_at hl 3 rfl) ?_
              refine tq_callVpi (As := [.int t_76, .int t_40]) (rest := []) hC (c_X8_total l X Z _ t_67 p_67 t_76 t_40) k_X8_total ql_RX11_328 rfl (by decide) hS p_67 rfl hl.1 rfl (Nat.le_of_ble_eq_true rfl) ⟨Nat.zero_le _, Nat.zero_le _⟩ dX11_ask_79 (fun t_79 p_79 => ?_)
              refine lv_istore (lv' := [(9, .int t_79), (8, .int x8_54), (7, .int x7_54), (6, .int x6_54), (5, .int t_40), (4, .int t_29), (3, .int t_13), (0, .ref h0), (1, .int x1)]) hx hb dX11_ask_82 hl (by decide) rfl (fun ls hl => ?_)
              refine lv_iload hx hb dX11_ask_84 (lv_at hl 0 rfl) ?_
              refine lv_iload_n hx hb dX11_ask_86 rfl (lv_at hl 6 rfl) ?_
              refine lv_iload hx hb dX11_ask_87 (lv_at hl 0 rfl) ?_
              refine lv_isub hx hb dX11_ask_89 ?_
              refine lv_topi (fun t_89 e_89 => ?_)
              refine va_mmax hx hb (hC.1.2.2.1.trans hl.1.symm) hown (hts _ ql_RX11_246) (hts _ qm_max_s) (hts _ qm_i) (hts _ qm_max_c) (Nat.le_trans (by decide) hC.2.2.1) (Nat.le_trans (Nat.le_of_ble_eq_true rfl) hC.2.2.2.1) (Nat.zero_le _) (Nat.zero_le _) dX11_ask_90 ?_
              refine lv_topi (fun t_90 e_90 => ?_)
              refine lv_istore (lv' := [(10, .int t_90), (9, .int t_79), (8, .int x8_54), (7, .int x7_54), (6, .int x6_54), (5, .int t_40), (4, .int t_29), (3, .int t_13), (0, .ref h0), (1, .int x1)]) hx hb dX11_ask_93 hl (by decide) rfl (fun ls hl => ?_)
              refine lv_iload hx hb dX11_ask_95 (lv_at hl 4 rfl) ?_
              refine lv_iconst (v := -1) hx hb dX11_ask_97 (by decide) ?_
              have K_116 : ∀ (x7_116 : Int32) (x6_116 : Int32) (f : Nat → va_E) (H : Heap) (locs : List Loc) (ls : Array Slot), tq_S X Z (tq_A Z) s.heap f0 [(8, 4), (8, 5), (8, 6), (8, 7), (8, 8), (8, 9)] f H locs → tq_iv 0 2147483646 x6_116 → lv_has ls 11 [(8, .int x8_54), (7, .int x7_116), (6, .int x6_116), (5, .int t_40), (4, .int t_29), (3, .int t_13), (0, .ref h0), (1, .int x1)] → W p l e R s m args below meth c H locs 0 0 Q (F0 m 116 ls []) := by
                intro x7_116 x6_116 f H locs ls  hS i12_x6_116 hl
                obtain ⟨t_116, e_116⟩ : ∃ y : Int32, y = x8_54 + 1 := ⟨_, rfl⟩
                have i13_t_116 : tq_iv 1 2147483647 t_116 := tq_w (tq_add e_116 i10_x8_54 (⟨by decide, by decide⟩ : tq_iv 1 1 1) (by decide) (by decide)) (by decide) (by decide)
                refine lv_iinc (v := t_116) (lv' := [(8, .int t_116), (7, .int x7_116), (6, .int x6_116), (5, .int t_40), (4, .int t_29), (3, .int t_13), (0, .ref h0), (1, .int x1)]) hx hb dX11_ask_116 hl (k := 0) rfl (by rw [e_116]; rfl) (by decide) rfl (fun ls hl => ?_)
                refine lv_goto (tgt := 54) hx hb dX11_ask_119 (by decide) ?_
                exact ih_54 t_116 x7_116 x6_116 _ _ _ _ hS (tq_w i12_x6_116 (by decide) (by decide)) (tq_w i13_t_116 (by decide) (by decide)) (tq_up e_116 i10_x8_54 (⟨by decide, by decide⟩ : tq_iv 1 1 1) (by decide) (by decide) hn_54) (lv_sub hl [0, 1, 2, 3, 4, 5, 6, 7] rfl)
              have K_108 : ∀ (f : Nat → va_E) (H : Heap) (locs : List Loc) (ls : Array Slot), tq_S X Z (tq_A Z) s.heap f0 [(8, 4), (8, 5), (8, 6), (8, 7), (8, 8), (8, 9)] f H locs → lv_has ls 11 [(10, .int t_90), (8, .int x8_54), (5, .int t_40), (4, .int t_29), (3, .int t_13), (0, .ref h0), (1, .int x1)] → W p l e R s m args below meth c H locs 0 0 Q (F0 m 108 ls []) := by
                intro f H locs ls  hS hl
                refine lv_iload hx hb dX11_ask_108 (lv_at hl 1 rfl) ?_
                refine lv_istore (lv' := [(6, .int x8_54), (10, .int t_90), (8, .int x8_54), (5, .int t_40), (4, .int t_29), (3, .int t_13), (0, .ref h0), (1, .int x1)]) hx hb dX11_ask_110 hl (by decide) rfl (fun ls hl => ?_)
                refine lv_iload hx hb dX11_ask_112 (lv_at hl 1 rfl) ?_
                refine lv_istore (lv' := [(7, .int t_90), (6, .int x8_54), (10, .int t_90), (8, .int x8_54), (5, .int t_40), (4, .int t_29), (3, .int t_13), (0, .ref h0), (1, .int x1)]) hx hb dX11_ask_114 hl (by decide) rfl (fun ls hl => ?_)
                exact K_116 t_90 x8_54 _ _ _ _ hS (tq_w i10_x8_54 (by decide) (by decide)) (lv_sub hl [3, 0, 1, 4, 5, 6, 7, 8] rfl)
              refine lv_icmp_eq (tgt := 108) hx hb dX11_ask_98 (by decide) (fun c_98 => ?_) (fun c_98 => ?_)
              · skip
                have i14_x6_54 : tq_iv (-1) (-1) x6_54 := tq_cut i4_x6_54 (tq_eqL c_98 (⟨by decide, by decide⟩ : tq_iv (-1) (-1) (-1))) (by decide) (by decide)
                exact K_108 _ _ _ _ hS (lv_sub hl [0, 2, 5, 6, 7, 8, 9] rfl)
              · skip
                have i15_x6_54 : tq_iv 0 2147483646 x6_54 := tq_w (tq_neLo c_98 i4_x6_54 (⟨by decide, by decide⟩ : tq_iv (-1) (-1) (-1))) (by decide) (by decide)
                refine lv_iload hx hb dX11_ask_101 (lv_at hl 0 rfl) ?_
                refine lv_iload hx hb dX11_ask_103 (lv_at hl 3 rfl) ?_
                refine lv_icmp_ge (tgt := 116) hx hb dX11_ask_105 (by decide) (fun c_105 => ?_) (fun c_105 => ?_)
                · skip
                  exact K_116 x7_54 x6_54 _ _ _ _ hS (tq_w i15_x6_54 (by decide) (by decide)) (lv_sub hl [2, 3, 4, 5, 6, 7, 8, 9] rfl)
                · skip
                  have i16_t_90 : tq_iv (-2147483648) 2147483646 t_90 := tq_cut (tq_top t_90) (tq_ltL (tq_nle c_105) (tq_top t_90) (tq_top x7_54)) (by decide) (by decide)
                  have i17_x7_54 : tq_iv (-2147483647) 2147483647 x7_54 := tq_cut (tq_top x7_54) (tq_ltR (tq_nle c_105) (tq_top t_90) (tq_top x7_54)) (by decide) (by decide)
                  exact K_108 _ _ _ _ hS (lv_sub hl [0, 2, 5, 6, 7, 8, 9] rfl)
        exact K_54 _ 0 0 (-1) _ _ _ _ hS (tq_w (⟨by decide, by decide⟩ : tq_iv (-1) (-1) (-1)) (by decide) (by decide)) (tq_w (⟨by decide, by decide⟩ : tq_iv 0 0 0) (by decide) (by decide)) (Nat.lt_succ_self _) (lv_sub hl [0, 1, 2, 3, 4, 5, 6, 7] rfl)
      · skip
        have i18_t_13 : tq_iv 0 0 t_13 := tq_cut (tq_top t_13) (tq_eqL c_18 (⟨by decide, by decide⟩ : tq_iv 0 0 0)) (by decide) (by decide)
        refine lv_iconst (v := -1) hx hb dX11_ask_21 (by decide) ?_
        exact hret (-1) _ _ _ _ _ rfl ⟨_, rfl, tq_w (⟨by decide, by decide⟩ : tq_iv (-1) (-1) (-1)) (by decide) (by decide)⟩ hS dX11_ask_22
    · skip
      have i19_x1 : tq_iv 2 2147483647 x1 := tq_cut i2_x1 (tq_ltR (tq_nle c_6) (⟨by decide, by decide⟩ : tq_iv 1 1 1) i2_x1) (by decide) (by decide)
      exact K_9 _ _ _ _ hS (lv_sub hl [] rfl)
set_option maxHeartbeats 4000000 in
set_option maxRecDepth 100000 in
theorem c_X11_image (l : Launch) (X : tq_X) (Z : tq_Z) (f : Nat → va_E) (h0 : Nat) (z_h0 : tq_z Z h0 (.inl 11)) (x1 : Int32) : tq_M l X Z f [(11, 9)] yX11_image cX11_image 2 (some .int) 3 [.ref h0, .int x1] (tq_ri (-1) 63) := by
  refine tq_starti (by decide) (Nat.le_of_ble_eq_true rfl) (fun p e R s m args below meth c Q hC hret hS ls hl => ?_)
  have hC : tq_C p R s m args c X (tq_A Z) RX11 cX11_image 2 3 := hC
  have hx := hC.1.1
  have hb := hC.1.2.1
  have hown := hC.1.2.2.2.1
  have hts := hC.1.2.2.2.2
  have hl : lv_has ls 2 [(0, .ref h0), (1, .int x1)] := hl
  generalize hf0 : f = f0 at hret
  have hS : tq_S X Z (tq_A Z) s.heap f0 [(11, 9)] f s.heap [] := hf0 ▸ hS
  refine lv_iload_n hx hb dX11_image_0 rfl (lv_at hl 1 rfl) ?_
  have K_9 : ∀ (f : Nat → va_E) (H : Heap) (locs : List Loc) (ls : Array Slot), tq_S X Z (tq_A Z) s.heap f0 [(11, 9)] f H locs → lv_has ls 2 [] → W p l e R s m args below meth c H locs 0 0 Q (F0 m 9 ls []) := by
    intro f H locs ls  hS hl
    refine lv_iconst (v := -1) hx hb dX11_image_9 (by decide) ?_
    exact hret (-1) _ _ _ _ _ rfl ⟨_, rfl, tq_w (⟨by decide, by decide⟩ : tq_iv (-1) (-1) (-1)) (by decide) (by decide)⟩ hS dX11_image_10
  refine lv_if_lt (tgt := 9) hx hb dX11_image_1 (by decide) (fun c_1 => ?_) (fun c_1 => ?_)
  · skip
    have i1_x1 : tq_iv (-2147483648) (-1) x1 := tq_cut (tq_top x1) (tq_ltL c_1 (tq_top x1) (⟨by decide, by decide⟩ : tq_iv 0 0 0)) (by decide) (by decide)
    exact K_9 _ _ _ _ hS (lv_sub hl [] rfl)
  · skip
    have i2_x1 : tq_iv 0 2147483647 x1 := tq_cut (tq_top x1) (tq_leR (tq_nlt c_1) (⟨by decide, by decide⟩ : tq_iv 0 0 0) (tq_top x1)) (by decide) (by decide)
    refine lv_iload_n hx hb dX11_image_4 rfl (lv_at hl 1 rfl) ?_
    refine lv_iconst (v := 3) hx hb dX11_image_5 (by decide) ?_
    refine lv_icmp_lt (tgt := 11) hx hb dX11_image_6 (by decide) (fun c_6 => ?_) (fun c_6 => ?_)
    · skip
      have i3_x1 : tq_iv 0 2 x1 := tq_cut i2_x1 (tq_ltL c_6 i2_x1 (⟨by decide, by decide⟩ : tq_iv 3 3 3)) (by decide) (by decide)
      refine lv_aload_n hx hb dX11_image_11 rfl (lv_at hl 0 rfl) ?_
      refine gf_RX11_55 hC hS z_h0 dX11_image_12 (fun t_12 p_12 q_12 => ?_)
      refine lv_iload_n hx hb dX11_image_15 rfl (lv_at hl 1 rfl) ?_
      refine tq_sald hC hS p_12 (tq_vin i3_x1 (by decide) (by decide)) dX11_image_16 (fun t_16 p_16 => ?_)
      refine lv_aload_n hx hb dX11_image_17 rfl (lv_at hl 0 rfl) ?_
      refine gf_RX11_41 hC hS z_h0 dX11_image_18 (fun t_18 p_18 q_18 => ?_)
      refine tq_callVv (As := [.ref t_18]) (rest := []) hC (c_X7_copyFrom l X Z _ t_16 p_16 t_18 p_18) k_X7_copyFrom ql_RX11_118 (by decide) rfl (by decide) hS p_16 rfl hl.1 rfl (Nat.le_of_ble_eq_true rfl) ⟨Nat.zero_le _, Nat.zero_le _⟩ dX11_image_21 (fun f1_21 H locs hS k_21 => ?_)
      refine lv_aload_n hx hb dX11_image_24 rfl (lv_at hl 0 rfl) ?_
      refine lv_dup hx hb dX11_image_25 rfl ?_
      refine gf_RX11_59 hC hS z_h0 dX11_image_26 (fun t_26 p_26 q_26 => ?_)
      refine lv_iconst (v := 1) hx hb dX11_image_29 (by decide) ?_
      refine lv_iload_n hx hb dX11_image_30 rfl (lv_at hl 1 rfl) ?_
      refine lv_ishl hx hb dX11_image_31 ?_
      refine lv_topi (fun t_31 e_31 => ?_)
      have i4_t_31 : tq_iv 1 4 t_31 := tq_shl1 e_31 i3_x1 (by decide) (by decide) (by decide) (by decide)
      refine lv_ior hx hb dX11_image_32 ?_
      refine lv_topi (fun t_32 e_32 => ?_)
      refine pf_RX11_59 hC hS z_h0 (by decide) trivial dX11_image_33 (fun f H locs hS q_33 k_33 => ?_)
      refine lv_aload_n hx hb dX11_image_36 rfl (lv_at hl 0 rfl) ?_
      refine gf_RX11_41 hC hS z_h0 dX11_image_37 (fun t_37 p_37 q_37 => ?_)
      refine lv_bipush (v := -2) hx hb dX11_image_40 (by decide) ?_
      refine lv_aload_n hx hb dX11_image_42 rfl (lv_at hl 0 rfl) ?_
      refine gf_RX11_29 hC hS z_h0 dX11_image_43 (fun t_43 p_43 q_43 => ?_)
      refine gf_RX11_128 hC hS p_43 dX11_image_46 (fun t_46 p_46 q_46 => ?_)
      refine tq_callVpi (As := [.int (-2), .int t_46]) (rest := []) hC (c_X7_heldBy l X Z _ t_37 p_37 (-2) t_46) k_X7_heldBy ql_RX11_206 rfl (by decide) hS p_37 rfl hl.1 rfl (Nat.le_of_ble_eq_true rfl) ⟨Nat.zero_le _, Nat.zero_le _⟩ dX11_image_49 (fun t_49 p_49 => ?_)
      refine tq_callSpi (As := [.int t_49]) (rest := []) hC (c_J6_bitCount_0f7a4 l X Z _ t_49) k_J6_bitCount_0f7a4 ql_RX11_171 rfl (by decide) hS hl.1 rfl (Nat.le_of_ble_eq_true rfl) ⟨Nat.zero_le _, Nat.zero_le _⟩ dX11_image_52 (fun t_52 p_52 => ?_)
      exact hret t_52 _ _ _ _ _ rfl ⟨_, rfl, tq_w p_52 (by decide) (by decide)⟩ hS dX11_image_55
    · skip
      have i5_x1 : tq_iv 3 2147483647 x1 := tq_cut i2_x1 (tq_leR (tq_nlt c_6) (⟨by decide, by decide⟩ : tq_iv 3 3 3) i2_x1) (by decide) (by decide)
      exact K_9 _ _ _ _ hS (lv_sub hl [] rfl)
set_option maxHeartbeats 4000000 in
set_option maxRecDepth 100000 in
theorem c_X11_back (l : Launch) (X : tq_X) (Z : tq_Z) (f : Nat → va_E) (h0 : Nat) (z_h0 : tq_z Z h0 (.inl 11)) (x1 : Int32) : tq_M l X Z f [(1, 1), (1, 2), (1, 3)] yX11_back cX11_back 2 (some .int) 3 [.ref h0, .int x1] (tq_ri (-1) 63) := by
  refine tq_starti (by decide) (Nat.le_of_ble_eq_true rfl) (fun p e R s m args below meth c Q hC hret hS ls hl => ?_)
  have hC : tq_C p R s m args c X (tq_A Z) RX11 cX11_back 2 3 := hC
  have hx := hC.1.1
  have hb := hC.1.2.1
  have hown := hC.1.2.2.2.1
  have hts := hC.1.2.2.2.2
  have hl : lv_has ls 2 [(0, .ref h0), (1, .int x1)] := hl
  generalize hf0 : f = f0 at hret
  have hS : tq_S X Z (tq_A Z) s.heap f0 [(1, 1), (1, 2), (1, 3)] f s.heap [] := hf0 ▸ hS
  refine lv_iload_n hx hb dX11_back_0 rfl (lv_at hl 1 rfl) ?_
  have K_20 : ∀ (f : Nat → va_E) (H : Heap) (locs : List Loc) (ls : Array Slot), tq_S X Z (tq_A Z) s.heap f0 [(1, 1), (1, 2), (1, 3)] f H locs → lv_has ls 2 [] → W p l e R s m args below meth c H locs 0 0 Q (F0 m 20 ls []) := by
    intro f H locs ls  hS hl
    refine lv_iconst (v := -1) hx hb dX11_back_20 (by decide) ?_
    exact hret (-1) _ _ _ _ _ rfl ⟨_, rfl, tq_w (⟨by decide, by decide⟩ : tq_iv (-1) (-1) (-1)) (by decide) (by decide)⟩ hS dX11_back_21
  refine lv_if_lt (tgt := 20) hx hb dX11_back_1 (by decide) (fun c_1 => ?_) (fun c_1 => ?_)
  · skip
    have i1_x1 : tq_iv (-2147483648) (-1) x1 := tq_cut (tq_top x1) (tq_ltL c_1 (tq_top x1) (⟨by decide, by decide⟩ : tq_iv 0 0 0)) (by decide) (by decide)
    exact K_20 _ _ _ _ hS (lv_sub hl [] rfl)
  · skip
    have i2_x1 : tq_iv 0 2147483647 x1 := tq_cut (tq_top x1) (tq_leR (tq_nlt c_1) (⟨by decide, by decide⟩ : tq_iv 0 0 0) (tq_top x1)) (by decide) (by decide)
    refine lv_iload_n hx hb dX11_back_4 rfl (lv_at hl 1 rfl) ?_
    refine lv_iconst (v := 3) hx hb dX11_back_5 (by decide) ?_
    refine lv_icmp_ge (tgt := 20) hx hb dX11_back_6 (by decide) (fun c_6 => ?_) (fun c_6 => ?_)
    · skip
      have i3_x1 : tq_iv 3 2147483647 x1 := tq_cut i2_x1 (tq_leR c_6 (⟨by decide, by decide⟩ : tq_iv 3 3 3) i2_x1) (by decide) (by decide)
      exact K_20 _ _ _ _ hS (lv_sub hl [] rfl)
    · skip
      have i4_x1 : tq_iv 0 2 x1 := tq_cut i2_x1 (tq_ltL (tq_nle c_6) i2_x1 (⟨by decide, by decide⟩ : tq_iv 3 3 3)) (by decide) (by decide)
      refine lv_aload_n hx hb dX11_back_9 rfl (lv_at hl 0 rfl) ?_
      refine gf_RX11_59 hC hS z_h0 dX11_back_10 (fun t_10 p_10 q_10 => ?_)
      refine lv_iload_n hx hb dX11_back_13 rfl (lv_at hl 1 rfl) ?_
      refine lv_ishr hx hb dX11_back_14 ?_
      refine lv_topi (fun t_14 e_14 => ?_)
      refine lv_iconst (v := 1) hx hb dX11_back_15 (by decide) ?_
      refine lv_iand hx hb dX11_back_16 ?_
      refine lv_topi (fun t_16 e_16 => ?_)
      have i5_t_16 : tq_iv 0 1 t_16 := tq_and2 e_16 (⟨by decide, by decide⟩ : tq_iv 1 1 1) (by decide)
      refine lv_if_ne (tgt := 22) hx hb dX11_back_17 (by decide) (fun c_17 => ?_) (fun c_17 => ?_)
      · skip
        have i6_t_16 : tq_iv 1 1 t_16 := tq_w (tq_neLo c_17 i5_t_16 (⟨by decide, by decide⟩ : tq_iv 0 0 0)) (by decide) (by decide)
        refine lv_aload_n hx hb dX11_back_22 rfl (lv_at hl 0 rfl) ?_
        refine gf_RX11_41 hC hS z_h0 dX11_back_23 (fun t_23 p_23 q_23 => ?_)
        refine lv_aload_n hx hb dX11_back_26 rfl (lv_at hl 0 rfl) ?_
        refine gf_RX11_55 hC hS z_h0 dX11_back_27 (fun t_27 p_27 q_27 => ?_)
        refine lv_iload_n hx hb dX11_back_30 rfl (lv_at hl 1 rfl) ?_
        refine tq_sald hC hS p_27 (tq_vin i4_x1 (by decide) (by decide)) dX11_back_31 (fun t_31 p_31 => ?_)
        refine tq_callVv (As := [.ref t_31]) (rest := []) hC (c_X7_copyFrom l X Z _ t_23 p_23 t_31 p_31) k_X7_copyFrom ql_RX11_118 (by decide) rfl (by decide) hS p_23 rfl hl.1 rfl (Nat.le_of_ble_eq_true rfl) ⟨Nat.zero_le _, Nat.zero_le _⟩ dX11_back_32 (fun f1_32 H locs hS k_32 => ?_)
        refine lv_aload_n hx hb dX11_back_35 rfl (lv_at hl 0 rfl) ?_
        refine gf_RX11_51 hC hS z_h0 dX11_back_36 (fun t_36 p_36 q_36 => ?_)
        refine tq_callVv (As := []) (rest := []) hC (c_X1_forget l X Z _ t_36 p_36) k_X1_forget ql_RX11_121 (by decide) rfl (by decide) hS p_36 rfl hl.1 rfl (Nat.le_of_ble_eq_true rfl) ⟨Nat.zero_le _, Nat.zero_le _⟩ dX11_back_39 (fun f1_39 H locs hS k_39 => ?_)
        refine lv_aload_n hx hb dX11_back_42 rfl (lv_at hl 0 rfl) ?_
        refine gf_RX11_41 hC hS z_h0 dX11_back_43 (fun t_43 p_43 q_43 => ?_)
        refine lv_bipush (v := -2) hx hb dX11_back_46 (by decide) ?_
        refine lv_aload_n hx hb dX11_back_48 rfl (lv_at hl 0 rfl) ?_
        refine gf_RX11_29 hC hS z_h0 dX11_back_49 (fun t_49 p_49 q_49 => ?_)
        refine gf_RX11_128 hC hS p_49 dX11_back_52 (fun t_52 p_52 q_52 => ?_)
        refine tq_callVpi (As := [.int (-2), .int t_52]) (rest := []) hC (c_X7_heldBy l X Z _ t_43 p_43 (-2) t_52) k_X7_heldBy ql_RX11_206 rfl (by decide) hS p_43 rfl hl.1 rfl (Nat.le_of_ble_eq_true rfl) ⟨Nat.zero_le _, Nat.zero_le _⟩ dX11_back_55 (fun t_55 p_55 => ?_)
        refine tq_callSpi (As := [.int t_55]) (rest := []) hC (c_J6_bitCount_0f7a4 l X Z _ t_55) k_J6_bitCount_0f7a4 ql_RX11_171 rfl (by decide) hS hl.1 rfl (Nat.le_of_ble_eq_true rfl) ⟨Nat.zero_le _, Nat.zero_le _⟩ dX11_back_58 (fun t_58 p_58 => ?_)
        exact hret t_58 _ _ _ _ _ rfl ⟨_, rfl, tq_w p_58 (by decide) (by decide)⟩ hS dX11_back_61
      · skip
        have i7_t_16 : tq_iv 0 0 t_16 := tq_cut i5_t_16 (tq_eqL c_17 (⟨by decide, by decide⟩ : tq_iv 0 0 0)) (by decide) (by decide)
        exact K_20 _ _ _ _ hS (lv_sub hl [] rfl)
set_option maxHeartbeats 4000000 in
set_option maxRecDepth 100000 in
theorem c_X1_redoable (l : Launch) (X : tq_X) (Z : tq_Z) (f : Nat → va_E) (h0 : Nat) (z_h0 : tq_z Z h0 (.inl 1)) : tq_Mp l X Z f yX1_redoable cX1_redoable 1 (some .int) 0 [.ref h0] (tq_ri (-2147483648) 2147483647) := by
  refine tq_startip (by decide) (Nat.le_of_ble_eq_true rfl) (fun p e R s m args below meth c Q hC hret hS ls hl => ?_)
  have hC : tq_C p R s m args c X (tq_A Z) RX1 cX1_redoable 1 0 := hC
  have hx := hC.1.1
  have hb := hC.1.2.1
  have hown := hC.1.2.2.2.1
  have hts := hC.1.2.2.2.2
  have hl : lv_has ls 1 [(0, .ref h0)] := hl
  refine lv_aload_n hx hb dX1_redoable_0 rfl (lv_at hl 0 rfl) ?_
  refine gf_RX1_23 hC hS z_h0 dX1_redoable_1 (fun t_1 p_1 q_1 => ?_)
  refine lv_aload_n hx hb dX1_redoable_4 rfl (lv_at hl 0 rfl) ?_
  refine gf_RX1_20 hC hS z_h0 dX1_redoable_5 (fun t_5 p_5 q_5 => ?_)
  refine lv_isub hx hb dX1_redoable_8 ?_
  refine lv_topi (fun t_8 e_8 => ?_)
  exact hret t_8 _ _ rfl ⟨_, rfl, tq_w (tq_top t_8) (by decide) (by decide)⟩ dX1_redoable_9
set_option maxHeartbeats 4000000 in
set_option maxRecDepth 100000 in
theorem c_X1_undoable (l : Launch) (X : tq_X) (Z : tq_Z) (f : Nat → va_E) (h0 : Nat) (z_h0 : tq_z Z h0 (.inl 1)) : tq_Mp l X Z f yX1_undoable cX1_undoable 1 (some .int) 0 [.ref h0] (tq_ri (-2147483648) 2147483647) := by
  refine tq_startip (by decide) (Nat.le_of_ble_eq_true rfl) (fun p e R s m args below meth c Q hC hret hS ls hl => ?_)
  have hC : tq_C p R s m args c X (tq_A Z) RX1 cX1_undoable 1 0 := hC
  have hx := hC.1.1
  have hb := hC.1.2.1
  have hown := hC.1.2.2.2.1
  have hts := hC.1.2.2.2.2
  have hl : lv_has ls 1 [(0, .ref h0)] := hl
  refine lv_aload_n hx hb dX1_undoable_0 rfl (lv_at hl 0 rfl) ?_
  refine gf_RX1_20 hC hS z_h0 dX1_undoable_1 (fun t_1 p_1 q_1 => ?_)
  exact hret t_1 _ _ rfl ⟨_, rfl, tq_w (tq_top t_1) (by decide) (by decide)⟩ dX1_undoable_4
set_option maxHeartbeats 4000000 in
set_option maxRecDepth 100000 in
theorem c_X11_about (l : Launch) (X : tq_X) (Z : tq_Z) (f : Nat → va_E) (h0 : Nat) (z_h0 : tq_z Z h0 (.inl 11)) (x1 : Int32) : tq_Mp l X Z f yX11_about cX11_about 2 (some .int) 2 [.ref h0, .int x1] (tq_ri (-2147483648) 2147483647) := by
  refine tq_startip (by decide) (Nat.le_of_ble_eq_true rfl) (fun p e R s m args below meth c Q hC hret hS ls hl => ?_)
  have hC : tq_C p R s m args c X (tq_A Z) RX11 cX11_about 2 2 := hC
  have hx := hC.1.1
  have hb := hC.1.2.1
  have hown := hC.1.2.2.2.1
  have hts := hC.1.2.2.2.2
  have hl : lv_has ls 2 [(0, .ref h0), (1, .int x1)] := hl
  refine lv_iload_n hx hb dX11_about_0 rfl (lv_at hl 1 rfl) ?_
  by_cases s_1_0 : Int32.toInt x1 = 0
  · refine lv_tableIn (tgt := 80) hx hb dX11_about_1 (by omega) (by omega) (by first | (rw [s_1_0]; done) | (rw [s_1_0]; rfl)) (by decide) ?_
    have i1_x1 : tq_iv 0 0 x1 := ⟨by omega, by omega⟩
    refine lv_aload_n hx hb dX11_about_80 rfl (lv_at hl 0 rfl) ?_
    refine gf_RX11_29 hC hS z_h0 dX11_about_81 (fun t_81 p_81 q_81 => ?_)
    refine gf_RX11_128 hC hS p_81 dX11_about_84 (fun t_84 p_84 q_84 => ?_)
    exact hret t_84 _ _ rfl ⟨_, rfl, tq_w p_84 (by decide) (by decide)⟩ dX11_about_87
  by_cases s_1_1 : Int32.toInt x1 = 1
  · refine lv_tableIn (tgt := 88) hx hb dX11_about_1 (by omega) (by omega) (by first | (rw [s_1_1]; done) | (rw [s_1_1]; rfl)) (by decide) ?_
    have i2_x1 : tq_iv 1 1 x1 := ⟨by omega, by omega⟩
    refine lv_aload_n hx hb dX11_about_88 rfl (lv_at hl 0 rfl) ?_
    refine gf_RX11_29 hC hS z_h0 dX11_about_89 (fun t_89 p_89 q_89 => ?_)
    refine gf_RX11_392 hC hS p_89 dX11_about_92 (fun t_92 p_92 q_92 => ?_)
    exact hret t_92 _ _ rfl ⟨_, rfl, tq_w (tq_top t_92) (by decide) (by decide)⟩ dX11_about_95
  by_cases s_1_2 : Int32.toInt x1 = 2
  · refine lv_tableIn (tgt := 96) hx hb dX11_about_1 (by omega) (by omega) (by first | (rw [s_1_2]; done) | (rw [s_1_2]; rfl)) (by decide) ?_
    have i3_x1 : tq_iv 2 2 x1 := ⟨by omega, by omega⟩
    refine lv_aload_n hx hb dX11_about_96 rfl (lv_at hl 0 rfl) ?_
    refine gf_RX11_29 hC hS z_h0 dX11_about_97 (fun t_97 p_97 q_97 => ?_)
    refine gf_RX11_421 hC hS p_97 dX11_about_100 (fun t_100 p_100 q_100 => ?_)
    exact hret t_100 _ _ rfl ⟨_, rfl, tq_w (tq_top t_100) (by decide) (by decide)⟩ dX11_about_103
  by_cases s_1_3 : Int32.toInt x1 = 3
  · refine lv_tableIn (tgt := 104) hx hb dX11_about_1 (by omega) (by omega) (by first | (rw [s_1_3]; done) | (rw [s_1_3]; rfl)) (by decide) ?_
    have i4_x1 : tq_iv 3 3 x1 := ⟨by omega, by omega⟩
    refine lv_aload_n hx hb dX11_about_104 rfl (lv_at hl 0 rfl) ?_
    refine gf_RX11_29 hC hS z_h0 dX11_about_105 (fun t_105 p_105 q_105 => ?_)
    refine gf_RX11_424 hC hS p_105 dX11_about_108 (fun t_108 p_108 q_108 => ?_)
    exact hret t_108 _ _ rfl ⟨_, rfl, tq_w (tq_top t_108) (by decide) (by decide)⟩ dX11_about_111
  by_cases s_1_4 : Int32.toInt x1 = 4
  · refine lv_tableIn (tgt := 112) hx hb dX11_about_1 (by omega) (by omega) (by first | (rw [s_1_4]; done) | (rw [s_1_4]; rfl)) (by decide) ?_
    have i5_x1 : tq_iv 4 4 x1 := ⟨by omega, by omega⟩
    refine lv_aload_n hx hb dX11_about_112 rfl (lv_at hl 0 rfl) ?_
    refine gf_RX11_29 hC hS z_h0 dX11_about_113 (fun t_113 p_113 q_113 => ?_)
    refine gf_RX11_368 hC hS p_113 dX11_about_116 (fun t_116 p_116 q_116 => ?_)
    exact hret t_116 _ _ rfl ⟨_, rfl, tq_w (tq_top t_116) (by decide) (by decide)⟩ dX11_about_119
  by_cases s_1_5 : Int32.toInt x1 = 5
  · refine lv_tableIn (tgt := 120) hx hb dX11_about_1 (by omega) (by omega) (by first | (rw [s_1_5]; done) | (rw [s_1_5]; rfl)) (by decide) ?_
    have i6_x1 : tq_iv 5 5 x1 := ⟨by omega, by omega⟩
    refine lv_aload_n hx hb dX11_about_120 rfl (lv_at hl 0 rfl) ?_
    refine gf_RX11_37 hC hS z_h0 dX11_about_121 (fun t_121 p_121 q_121 => ?_)
    refine gf_RX11_243 hC hS p_121 dX11_about_124 (fun t_124 p_124 q_124 => ?_)
    exact hret t_124 _ _ rfl ⟨_, rfl, tq_w p_124 (by decide) (by decide)⟩ dX11_about_127
  by_cases s_1_6 : Int32.toInt x1 = 6
  · refine lv_tableIn (tgt := 128) hx hb dX11_about_1 (by omega) (by omega) (by first | (rw [s_1_6]; done) | (rw [s_1_6]; rfl)) (by decide) ?_
    have i7_x1 : tq_iv 6 6 x1 := ⟨by omega, by omega⟩
    refine lv_aload_n hx hb dX11_about_128 rfl (lv_at hl 0 rfl) ?_
    refine gf_RX11_37 hC hS z_h0 dX11_about_129 (fun t_129 p_129 q_129 => ?_)
    refine gf_RX11_427 hC hS p_129 dX11_about_132 (fun t_132 p_132 q_132 => ?_)
    exact hret t_132 _ _ rfl ⟨_, rfl, tq_w p_132 (by decide) (by decide)⟩ dX11_about_135
  by_cases s_1_7 : Int32.toInt x1 = 7
  · refine lv_tableIn (tgt := 136) hx hb dX11_about_1 (by omega) (by omega) (by first | (rw [s_1_7]; done) | (rw [s_1_7]; rfl)) (by decide) ?_
    have i8_x1 : tq_iv 7 7 x1 := ⟨by omega, by omega⟩
    refine lv_aload_n hx hb dX11_about_136 rfl (lv_at hl 0 rfl) ?_
    refine gf_RX11_37 hC hS z_h0 dX11_about_137 (fun t_137 p_137 q_137 => ?_)
    refine gf_RX11_304 hC hS p_137 dX11_about_140 (fun t_140 p_140 q_140 => ?_)
    exact hret t_140 _ _ rfl ⟨_, rfl, tq_w p_140 (by decide) (by decide)⟩ dX11_about_143
  by_cases s_1_8 : Int32.toInt x1 = 8
  · refine lv_tableIn (tgt := 144) hx hb dX11_about_1 (by omega) (by omega) (by first | (rw [s_1_8]; done) | (rw [s_1_8]; rfl)) (by decide) ?_
    have i9_x1 : tq_iv 8 8 x1 := ⟨by omega, by omega⟩
    refine lv_aload_n hx hb dX11_about_144 rfl (lv_at hl 0 rfl) ?_
    refine gf_RX11_41 hC hS z_h0 dX11_about_145 (fun t_145 p_145 q_145 => ?_)
    refine tq_callVpi (As := []) (rest := []) hC (c_X7_seed l X Z _ t_145 p_145) k_X7_seed ql_RX11_236 rfl (by decide) hS p_145 rfl hl.1 rfl (Nat.le_of_ble_eq_true rfl) ⟨Nat.zero_le _, Nat.zero_le _⟩ dX11_about_148 (fun t_148 p_148 => ?_)
    exact hret t_148 _ _ rfl ⟨_, rfl, tq_w (tq_top t_148) (by decide) (by decide)⟩ dX11_about_151
  by_cases s_1_9 : Int32.toInt x1 = 9
  · refine lv_tableIn (tgt := 152) hx hb dX11_about_1 (by omega) (by omega) (by first | (rw [s_1_9]; done) | (rw [s_1_9]; rfl)) (by decide) ?_
    have i10_x1 : tq_iv 9 9 x1 := ⟨by omega, by omega⟩
    refine lv_aload_n hx hb dX11_about_152 rfl (lv_at hl 0 rfl) ?_
    refine gf_RX11_51 hC hS z_h0 dX11_about_153 (fun t_153 p_153 q_153 => ?_)
    refine tq_callVpi (As := []) (rest := []) hC (c_X1_undoable l X Z _ t_153 p_153) k_X1_undoable ql_RX11_430 rfl (by decide) hS p_153 rfl hl.1 rfl (Nat.le_of_ble_eq_true rfl) ⟨Nat.zero_le _, Nat.zero_le _⟩ dX11_about_156 (fun t_156 p_156 => ?_)
    exact hret t_156 _ _ rfl ⟨_, rfl, tq_w (tq_top t_156) (by decide) (by decide)⟩ dX11_about_159
  by_cases s_1_10 : Int32.toInt x1 = 10
  · refine lv_tableIn (tgt := 160) hx hb dX11_about_1 (by omega) (by omega) (by first | (rw [s_1_10]; done) | (rw [s_1_10]; rfl)) (by decide) ?_
    have i11_x1 : tq_iv 10 10 x1 := ⟨by omega, by omega⟩
    refine lv_aload_n hx hb dX11_about_160 rfl (lv_at hl 0 rfl) ?_
    refine gf_RX11_51 hC hS z_h0 dX11_about_161 (fun t_161 p_161 q_161 => ?_)
    refine tq_callVpi (As := []) (rest := []) hC (c_X1_redoable l X Z _ t_161 p_161) k_X1_redoable ql_RX11_433 rfl (by decide) hS p_161 rfl hl.1 rfl (Nat.le_of_ble_eq_true rfl) ⟨Nat.zero_le _, Nat.zero_le _⟩ dX11_about_164 (fun t_164 p_164 => ?_)
    exact hret t_164 _ _ rfl ⟨_, rfl, tq_w (tq_top t_164) (by decide) (by decide)⟩ dX11_about_167
  by_cases s_1_11 : Int32.toInt x1 = 11
  · refine lv_tableIn (tgt := 168) hx hb dX11_about_1 (by omega) (by omega) (by first | (rw [s_1_11]; done) | (rw [s_1_11]; rfl)) (by decide) ?_
    have i12_x1 : tq_iv 11 11 x1 := ⟨by omega, by omega⟩
    refine lv_aload_n hx hb dX11_about_168 rfl (lv_at hl 0 rfl) ?_
    refine gf_RX11_93 hC hS z_h0 dX11_about_169 (fun t_169 p_169 q_169 => ?_)
    refine gf_RX11_436 hC hS p_169 dX11_about_172 (fun t_172 p_172 q_172 => ?_)
    exact hret t_172 _ _ rfl ⟨_, rfl, tq_w (tq_top t_172) (by decide) (by decide)⟩ dX11_about_175
  by_cases s_1_12 : Int32.toInt x1 = 12
  · refine lv_tableIn (tgt := 176) hx hb dX11_about_1 (by omega) (by omega) (by first | (rw [s_1_12]; done) | (rw [s_1_12]; rfl)) (by decide) ?_
    have i13_x1 : tq_iv 12 12 x1 := ⟨by omega, by omega⟩
    refine lv_aload_n hx hb dX11_about_176 rfl (lv_at hl 0 rfl) ?_
    refine gf_RX11_93 hC hS z_h0 dX11_about_177 (fun t_177 p_177 q_177 => ?_)
    refine gf_RX11_439 hC hS p_177 dX11_about_180 (fun t_180 p_180 q_180 => ?_)
    exact hret t_180 _ _ rfl ⟨_, rfl, tq_w (tq_top t_180) (by decide) (by decide)⟩ dX11_about_183
  by_cases s_1_13 : Int32.toInt x1 = 13
  · refine lv_tableIn (tgt := 184) hx hb dX11_about_1 (by omega) (by omega) (by first | (rw [s_1_13]; done) | (rw [s_1_13]; rfl)) (by decide) ?_
    have i14_x1 : tq_iv 13 13 x1 := ⟨by omega, by omega⟩
    refine lv_aload_n hx hb dX11_about_184 rfl (lv_at hl 0 rfl) ?_
    refine gf_RX11_13 hC hS z_h0 dX11_about_185 (fun t_185 p_185 q_185 => ?_)
    exact hret t_185 _ _ rfl ⟨_, rfl, tq_w (tq_top t_185) (by decide) (by decide)⟩ dX11_about_188
  by_cases s_1_14 : Int32.toInt x1 = 14
  · refine lv_tableIn (tgt := 189) hx hb dX11_about_1 (by omega) (by omega) (by first | (rw [s_1_14]; done) | (rw [s_1_14]; rfl)) (by decide) ?_
    have i15_x1 : tq_iv 14 14 x1 := ⟨by omega, by omega⟩
    refine lv_aload_n hx hb dX11_about_189 rfl (lv_at hl 0 rfl) ?_
    refine gf_RX11_29 hC hS z_h0 dX11_about_190 (fun t_190 p_190 q_190 => ?_)
    refine gf_RX11_251 hC hS p_190 dX11_about_193 (fun t_193 p_193 q_193 => ?_)
    refine gf_RX11_442 hC hS p_193 dX11_about_196 (fun t_196 p_196 q_196 => ?_)
    exact hret t_196 _ _ rfl ⟨_, rfl, tq_w (tq_top t_196) (by decide) (by decide)⟩ dX11_about_199
  by_cases s_1_15 : Int32.toInt x1 = 15
  · refine lv_tableIn (tgt := 200) hx hb dX11_about_1 (by omega) (by omega) (by first | (rw [s_1_15]; done) | (rw [s_1_15]; rfl)) (by decide) ?_
    have i16_x1 : tq_iv 15 15 x1 := ⟨by omega, by omega⟩
    refine lv_aload_n hx hb dX11_about_200 rfl (lv_at hl 0 rfl) ?_
    refine gf_RX11_79 hC hS z_h0 dX11_about_201 (fun t_201 p_201 q_201 => ?_)
    refine gf_RX11_445 hC hS p_201 dX11_about_204 (fun t_204 p_204 q_204 => ?_)
    exact hret t_204 _ _ rfl ⟨_, rfl, tq_w (tq_top t_204) (by decide) (by decide)⟩ dX11_about_207
  refine lv_tableOut (tgt := 208) hx hb dX11_about_1 (by omega) (by decide) ?_
  refine lv_iconst (v := -1) hx hb dX11_about_208 (by decide) ?_
  exact hret (-1) _ _ rfl ⟨_, rfl, tq_w (⟨by decide, by decide⟩ : tq_iv (-1) (-1) (-1)) (by decide) (by decide)⟩ dX11_about_209
