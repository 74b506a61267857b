set_option maxHeartbeats 4000000 in
set_option maxRecDepth 100000 in
theorem c_X3_hasKey (l : Launch) (X : tq_X) (Z : tq_Z) (f : Nat → va_E) (h0 : Nat) (z_h0 : tq_z Z h0 (.inl 3)) (x1 : Int32) : tq_Mp l X Z f yX3_hasKey cX3_hasKey 2 (some .boolean) 0 [.ref h0, .int x1] (tq_ri 0 1) := by
  refine tq_startip (by decide) (Nat.le_of_ble_eq_true rfl) (fun p e R s m args below meth c Q hC hret hS ls hl => ?_)
  have hC : tq_C p R s m args c X (tq_A Z) RX3 cX3_hasKey 2 0 := hC
  have hx := hC.1.1
  have hb := hC.1.2.1
  have hown := hC.1.2.2.2.1
  have hts := hC.1.2.2.2.2
  have hl : lv_has ls 2 [(0, .ref h0), (1, .int x1)] := hl
  refine lv_iload_n hx hb dX3_hasKey_0 rfl (lv_at hl 1 rfl) ?_
  have K_17 : ∀ (y0_17 : Int32) (ls : Array Slot), tq_iv 0 1 y0_17 → lv_has ls 2 [] → W p l e R s m args below meth c s.heap [] 0 0 Q (F0 m 17 ls [.int y0_17]) := by
    intro y0_17 ls  i1_y0_17 hl
    exact hret y0_17 _ _ (tq_nb i1_y0_17 (by decide) (by decide)) ⟨_, rfl, tq_w i1_y0_17 (by decide) (by decide)⟩ dX3_hasKey_17
  have K_16 : ∀ (ls : Array Slot), lv_has ls 2 [] → W p l e R s m args below meth c s.heap [] 0 0 Q (F0 m 16 ls []) := by
    intro  ls  hl
    refine lv_iconst (v := 0) hx hb dX3_hasKey_16 (by decide) ?_
    exact K_17 0 _ (tq_w (⟨by decide, by decide⟩ : tq_iv 0 0 0) (by decide) (by decide)) (lv_sub hl [] rfl)
  refine lv_if_lt (tgt := 16) hx hb dX3_hasKey_1 (by decide) (fun c_1 => ?_) (fun c_1 => ?_)
  · skip
    have i2_x1 : tq_iv (-2147483648) (-1) x1 := tq_cut (tq_top x1) (tq_ltL c_1 (tq_top x1) (⟨by decide, by decide⟩ : tq_iv 0 0 0)) (by decide) (by decide)
    exact K_16 _ (lv_sub hl [] rfl)
  · skip
    have i3_x1 : tq_iv 0 2147483647 x1 := tq_cut (tq_top x1) (tq_leR (tq_nlt c_1) (⟨by decide, by decide⟩ : tq_iv 0 0 0) (tq_top x1)) (by decide) (by decide)
    refine lv_iload_n hx hb dX3_hasKey_4 rfl (lv_at hl 1 rfl) ?_
    refine lv_aload_n hx hb dX3_hasKey_5 rfl (lv_at hl 0 rfl) ?_
    refine gf_RX3_55 hC hS z_h0 dX3_hasKey_6 (fun t_6 p_6 q_6 => ?_)
    refine lv_icmp_ge (tgt := 16) hx hb dX3_hasKey_9 (by decide) (fun c_9 => ?_) (fun c_9 => ?_)
    · skip
      exact K_16 _ (lv_sub hl [] rfl)
    · skip
      have i4_x1 : tq_iv 0 7 x1 := tq_cut i3_x1 (tq_ltL (tq_nle c_9) i3_x1 p_6) (by decide) (by decide)
      have i5_t_6 : tq_iv 1 8 t_6 := tq_cut p_6 (tq_ltR (tq_nle c_9) i3_x1 p_6) (by decide) (by decide)
      refine lv_iconst (v := 1) hx hb dX3_hasKey_12 (by decide) ?_
      refine lv_goto (tgt := 17) hx hb dX3_hasKey_13 (by decide) ?_
      exact K_17 1 _ (tq_w (⟨by decide, by decide⟩ : tq_iv 1 1 1) (by decide) (by decide)) (lv_sub hl [] rfl)
set_option maxHeartbeats 4000000 in
set_option maxRecDepth 100000 in
theorem c_J6_numberOfTrailingZeros_0f7a4 (l : Launch) (X : tq_X) (Z : tq_Z) (f : Nat → va_E) (x0 : Int32) : tq_Mp l X Z f yJ6_numberOfTrailingZeros_0f7a4 cJ6_numberOfTrailingZeros_0f7a4 2 (some .int) 0 [.int x0] (tq_ri (-2147483648) 2147483647) := by
  refine tq_startip (by decide) (Nat.le_of_ble_eq_true rfl) (fun p e R s m args below meth c Q hC hret hS ls hl => ?_)
  have hC : tq_C p R s m args c X (tq_A Z) RJ6 cJ6_numberOfTrailingZeros_0f7a4 2 0 := hC
  have hx := hC.1.1
  have hb := hC.1.2.1
  have hown := hC.1.2.2.2.1
  have hts := hC.1.2.2.2.2
  have hl : lv_has ls 2 [(0, .int x0)] := hl
  refine lv_iload_n hx hb dJ6_numberOfTrailingZeros_0f7a4_0 rfl (lv_at hl 0 rfl) ?_
  refine lv_iconst (v := -1) hx hb dJ6_numberOfTrailingZeros_0f7a4_1 (by decide) ?_
  refine lv_ixor hx hb dJ6_numberOfTrailingZeros_0f7a4_2 ?_
  refine lv_topi (fun t_2 e_2 => ?_)
  refine lv_iload_n hx hb dJ6_numberOfTrailingZeros_0f7a4_3 rfl (lv_at hl 0 rfl) ?_
  refine lv_iconst (v := 1) hx hb dJ6_numberOfTrailingZeros_0f7a4_4 (by decide) ?_
  refine lv_isub hx hb dJ6_numberOfTrailingZeros_0f7a4_5 ?_
  refine lv_topi (fun t_5 e_5 => ?_)
  refine lv_iand hx hb dJ6_numberOfTrailingZeros_0f7a4_6 ?_
  refine lv_topi (fun t_6 e_6 => ?_)
  refine lv_istore_n (lv' := [(0, .int t_6)]) hx hb dJ6_numberOfTrailingZeros_0f7a4_7 rfl hl (by decide) rfl (fun ls hl => ?_)
  refine lv_iload_n hx hb dJ6_numberOfTrailingZeros_0f7a4_8 rfl (lv_at hl 0 rfl) ?_
  refine lv_if_gt (tgt := 17) hx hb dJ6_numberOfTrailingZeros_0f7a4_9 (by decide) (fun c_9 => ?_) (fun c_9 => ?_)
  · skip
    have i1_t_6 : tq_iv 1 2147483647 t_6 := tq_cut (tq_top t_6) (tq_ltR c_9 (⟨by decide, by decide⟩ : tq_iv 0 0 0) (tq_top t_6)) (by decide) (by decide)
    refine lv_iconst (v := 1) hx hb dJ6_numberOfTrailingZeros_0f7a4_17 (by decide) ?_
    refine lv_istore_n (lv' := [(1, .int 1), (0, .int t_6)]) hx hb dJ6_numberOfTrailingZeros_0f7a4_18 rfl hl (by decide) rfl (fun ls hl => ?_)
    refine lv_iload_n hx hb dJ6_numberOfTrailingZeros_0f7a4_19 rfl (lv_at hl 1 rfl) ?_
    refine lv_ldcw hx hb hown (hts _ qc_RJ6_264) dJ6_numberOfTrailingZeros_0f7a4_20 ?_
    have K_34 : ∀ (x1_34 : Int32) (x0_34 : Int32) (ls : Array Slot), tq_iv 1 17 x1_34 → lv_has ls 2 [(1, .int x1_34), (0, .int x0_34)] → W p l e R s m args below meth c s.heap [] 0 0 Q (F0 m 34 ls []) := by
      intro x1_34 x0_34 ls  i2_x1_34 hl
      refine lv_iload_n hx hb dJ6_numberOfTrailingZeros_0f7a4_34 rfl (lv_at hl 1 rfl) ?_
      refine lv_sipush (v := 256) hx hb dJ6_numberOfTrailingZeros_0f7a4_35 (by decide) ?_
      have K_49 : ∀ (x1_49 : Int32) (x0_49 : Int32) (ls : Array Slot), tq_iv 1 25 x1_49 → lv_has ls 2 [(1, .int x1_49), (0, .int x0_49)] → W p l e R s m args below meth c s.heap [] 0 0 Q (F0 m 49 ls []) := by
        intro x1_49 x0_49 ls  i3_x1_49 hl
        refine lv_iload_n hx hb dJ6_numberOfTrailingZeros_0f7a4_49 rfl (lv_at hl 1 rfl) ?_
        refine lv_bipush (v := 16) hx hb dJ6_numberOfTrailingZeros_0f7a4_50 (by decide) ?_
        have K_62 : ∀ (x1_62 : Int32) (x0_62 : Int32) (ls : Array Slot), tq_iv 1 29 x1_62 → lv_has ls 2 [(1, .int x1_62), (0, .int x0_62)] → W p l e R s m args below meth c s.heap [] 0 0 Q (F0 m 62 ls []) := by
          intro x1_62 x0_62 ls  i4_x1_62 hl
          refine lv_iload_n hx hb dJ6_numberOfTrailingZeros_0f7a4_62 rfl (lv_at hl 1 rfl) ?_
          refine lv_iconst (v := 4) hx hb dJ6_numberOfTrailingZeros_0f7a4_63 (by decide) ?_
          have K_74 : ∀ (x1_74 : Int32) (x0_74 : Int32) (ls : Array Slot), tq_iv 1 31 x1_74 → lv_has ls 2 [(1, .int x1_74), (0, .int x0_74)] → W p l e R s m args below meth c s.heap [] 0 0 Q (F0 m 74 ls []) := by
            intro x1_74 x0_74 ls  i5_x1_74 hl
            refine lv_iload_n hx hb dJ6_numberOfTrailingZeros_0f7a4_74 rfl (lv_at hl 0 rfl) ?_
            refine lv_iload_n hx hb dJ6_numberOfTrailingZeros_0f7a4_75 rfl (lv_at hl 1 rfl) ?_
            refine lv_iconst (v := 1) hx hb dJ6_numberOfTrailingZeros_0f7a4_76 (by decide) ?_
            refine lv_iushr hx hb dJ6_numberOfTrailingZeros_0f7a4_77 rfl ?_
            refine lv_topi (fun t_77 e_77 => ?_)
            refine lv_iadd hx hb dJ6_numberOfTrailingZeros_0f7a4_78 ?_
            refine lv_topi (fun t_78 e_78 => ?_)
            exact hret t_78 _ _ rfl ⟨_, rfl, tq_w (tq_top t_78) (by decide) (by decide)⟩ dJ6_numberOfTrailingZeros_0f7a4_79
          refine lv_icmp_le (tgt := 74) hx hb dJ6_numberOfTrailingZeros_0f7a4_64 (by decide) (fun c_64 => ?_) (fun c_64 => ?_)
          · skip
            have i6_x0_62 : tq_iv (-2147483648) 4 x0_62 := tq_cut (tq_top x0_62) (tq_leL c_64 (tq_top x0_62) (⟨by decide, by decide⟩ : tq_iv 4 4 4)) (by decide) (by decide)
            exact K_74 x1_62 x0_62 _ (tq_w i4_x1_62 (by decide) (by decide)) (lv_sub hl [0, 1] rfl)
          · skip
            have i7_x0_62 : tq_iv 5 2147483647 x0_62 := tq_cut (tq_top x0_62) (tq_ltR (tq_nle c_64) (⟨by decide, by decide⟩ : tq_iv 4 4 4) (tq_top x0_62)) (by decide) (by decide)
            obtain ⟨t_67, e_67⟩ : ∃ y : Int32, y = x1_62 + 2 := ⟨_, rfl⟩
            have i8_t_67 : tq_iv 3 31 t_67 := tq_w (tq_add e_67 i4_x1_62 (⟨by decide, by decide⟩ : tq_iv 2 2 2) (by decide) (by decide)) (by decide) (by decide)
            refine lv_iinc (v := t_67) (lv' := [(1, .int t_67), (0, .int x0_62)]) hx hb dJ6_numberOfTrailingZeros_0f7a4_67 hl (k := 0) rfl (by rw [e_67]; rfl) (by decide) rfl (fun ls hl => ?_)
            refine lv_iload_n hx hb dJ6_numberOfTrailingZeros_0f7a4_70 rfl (lv_at hl 1 rfl) ?_
            refine lv_iconst (v := 2) hx hb dJ6_numberOfTrailingZeros_0f7a4_71 (by decide) ?_
            refine lv_iushr hx hb dJ6_numberOfTrailingZeros_0f7a4_72 rfl ?_
            refine lv_topi (fun t_72 e_72 => ?_)
            refine lv_istore_n (lv' := [(0, .int t_72), (1, .int t_67)]) hx hb dJ6_numberOfTrailingZeros_0f7a4_73 rfl hl (by decide) rfl (fun ls hl => ?_)
            exact K_74 t_67 t_72 _ (tq_w i8_t_67 (by decide) (by decide)) (lv_sub hl [1, 0] rfl)
        refine lv_icmp_le (tgt := 62) hx hb dJ6_numberOfTrailingZeros_0f7a4_52 (by decide) (fun c_52 => ?_) (fun c_52 => ?_)
        · skip
          have i9_x0_49 : tq_iv (-2147483648) 16 x0_49 := tq_cut (tq_top x0_49) (tq_leL c_52 (tq_top x0_49) (⟨by decide, by decide⟩ : tq_iv 16 16 16)) (by decide) (by decide)
          exact K_62 x1_49 x0_49 _ (tq_w i3_x1_49 (by decide) (by decide)) (lv_sub hl [0, 1] rfl)
        · skip
          have i10_x0_49 : tq_iv 17 2147483647 x0_49 := tq_cut (tq_top x0_49) (tq_ltR (tq_nle c_52) (⟨by decide, by decide⟩ : tq_iv 16 16 16) (tq_top x0_49)) (by decide) (by decide)
          obtain ⟨t_55, e_55⟩ : ∃ y : Int32, y = x1_49 + 4 := ⟨_, rfl⟩
          have i11_t_55 : tq_iv 5 29 t_55 := tq_w (tq_add e_55 i3_x1_49 (⟨by decide, by decide⟩ : tq_iv 4 4 4) (by decide) (by decide)) (by decide) (by decide)
          refine lv_iinc (v := t_55) (lv' := [(1, .int t_55), (0, .int x0_49)]) hx hb dJ6_numberOfTrailingZeros_0f7a4_55 hl (k := 0) rfl (by rw [e_55]; rfl) (by decide) rfl (fun ls hl => ?_)
          refine lv_iload_n hx hb dJ6_numberOfTrailingZeros_0f7a4_58 rfl (lv_at hl 1 rfl) ?_
          refine lv_iconst (v := 4) hx hb dJ6_numberOfTrailingZeros_0f7a4_59 (by decide) ?_
          refine lv_iushr hx hb dJ6_numberOfTrailingZeros_0f7a4_60 rfl ?_
          refine lv_topi (fun t_60 e_60 => ?_)
          refine lv_istore_n (lv' := [(0, .int t_60), (1, .int t_55)]) hx hb dJ6_numberOfTrailingZeros_0f7a4_61 rfl hl (by decide) rfl (fun ls hl => ?_)
          exact K_62 t_55 t_60 _ (tq_w i11_t_55 (by decide) (by decide)) (lv_sub hl [1, 0] rfl)
      refine lv_icmp_le (tgt := 49) hx hb dJ6_numberOfTrailingZeros_0f7a4_38 (by decide) (fun c_38 => ?_) (fun c_38 => ?_)
      · skip
        have i12_x0_34 : tq_iv (-2147483648) 256 x0_34 := tq_cut (tq_top x0_34) (tq_leL c_38 (tq_top x0_34) (⟨by decide, by decide⟩ : tq_iv 256 256 256)) (by decide) (by decide)
        exact K_49 x1_34 x0_34 _ (tq_w i2_x1_34 (by decide) (by decide)) (lv_sub hl [0, 1] rfl)
      · skip
        have i13_x0_34 : tq_iv 257 2147483647 x0_34 := tq_cut (tq_top x0_34) (tq_ltR (tq_nle c_38) (⟨by decide, by decide⟩ : tq_iv 256 256 256) (tq_top x0_34)) (by decide) (by decide)
        obtain ⟨t_41, e_41⟩ : ∃ y : Int32, y = x1_34 + 8 := ⟨_, rfl⟩
        have i14_t_41 : tq_iv 9 25 t_41 := tq_w (tq_add e_41 i2_x1_34 (⟨by decide, by decide⟩ : tq_iv 8 8 8) (by decide) (by decide)) (by decide) (by decide)
        refine lv_iinc (v := t_41) (lv' := [(1, .int t_41), (0, .int x0_34)]) hx hb dJ6_numberOfTrailingZeros_0f7a4_41 hl (k := 0) rfl (by rw [e_41]; rfl) (by decide) rfl (fun ls hl => ?_)
        refine lv_iload_n hx hb dJ6_numberOfTrailingZeros_0f7a4_44 rfl (lv_at hl 1 rfl) ?_
        refine lv_bipush (v := 8) hx hb dJ6_numberOfTrailingZeros_0f7a4_45 (by decide) ?_
        refine lv_iushr hx hb dJ6_numberOfTrailingZeros_0f7a4_47 rfl ?_
        refine lv_topi (fun t_47 e_47 => ?_)
        refine lv_istore_n (lv' := [(0, .int t_47), (1, .int t_41)]) hx hb dJ6_numberOfTrailingZeros_0f7a4_48 rfl hl (by decide) rfl (fun ls hl => ?_)
        exact K_49 t_41 t_47 _ (tq_w i14_t_41 (by decide) (by decide)) (lv_sub hl [1, 0] rfl)
    refine lv_icmp_le (tgt := 34) hx hb dJ6_numberOfTrailingZeros_0f7a4_23 (by decide) (fun c_23 => ?_) (fun c_23 => ?_)
    · skip
      have i15_t_6 : tq_iv 1 65536 t_6 := tq_cut i1_t_6 (tq_leL c_23 i1_t_6 (⟨by decide, by decide⟩ : tq_iv 65536 65536 65536)) (by decide) (by decide)
      exact K_34 1 t_6 _ (tq_w (⟨by decide, by decide⟩ : tq_iv 1 1 1) (by decide) (by decide)) (lv_sub hl [0, 1] rfl)
    · skip
      have i16_t_6 : tq_iv 65537 2147483647 t_6 := tq_cut i1_t_6 (tq_ltR (tq_nle c_23) (⟨by decide, by decide⟩ : tq_iv 65536 65536 65536) i1_t_6) (by decide) (by decide)
      obtain ⟨t_26, e_26⟩ : ∃ y : Int32, y = 1 + 16 := ⟨_, rfl⟩
      have i17_t_26 : tq_iv 17 17 t_26 := tq_w (tq_add e_26 (⟨by decide, by decide⟩ : tq_iv 1 1 1) (⟨by decide, by decide⟩ : tq_iv 16 16 16) (by decide) (by decide)) (by decide) (by decide)
      refine lv_iinc (v := t_26) (lv' := [(1, .int t_26), (0, .int t_6)]) hx hb dJ6_numberOfTrailingZeros_0f7a4_26 hl (k := 0) rfl (by rw [e_26]; rfl) (by decide) rfl (fun ls hl => ?_)
      refine lv_iload_n hx hb dJ6_numberOfTrailingZeros_0f7a4_29 rfl (lv_at hl 1 rfl) ?_
      refine lv_bipush (v := 16) hx hb dJ6_numberOfTrailingZeros_0f7a4_30 (by decide) ?_
      refine lv_iushr hx hb dJ6_numberOfTrailingZeros_0f7a4_32 rfl ?_
      refine lv_topi (fun t_32 e_32 => ?_)
      refine lv_istore_n (lv' := [(0, .int t_32), (1, .int t_26)]) hx hb dJ6_numberOfTrailingZeros_0f7a4_33 rfl hl (by decide) rfl (fun ls hl => ?_)
      exact K_34 t_26 t_32 _ (tq_w i17_t_26 (by decide) (by decide)) (lv_sub hl [1, 0] rfl)
  · skip
    have i18_t_6 : tq_iv (-2147483648) 0 t_6 := tq_cut (tq_top t_6) (tq_leL (tq_nlt c_9) (tq_top t_6) (⟨by decide, by decide⟩ : tq_iv 0 0 0)) (by decide) (by decide)
    refine lv_iload_n hx hb dJ6_numberOfTrailingZeros_0f7a4_12 rfl (lv_at hl 0 rfl) ?_
    refine lv_bipush (v := 32) hx hb dJ6_numberOfTrailingZeros_0f7a4_13 (by decide) ?_
    refine lv_iand hx hb dJ6_numberOfTrailingZeros_0f7a4_15 ?_
    refine lv_topi (fun t_15 e_15 => ?_)
    have i19_t_15 : tq_iv 0 32 t_15 := tq_and2 e_15 (⟨by decide, by decide⟩ : tq_iv 32 32 32) (by decide)
    exact hret t_15 _ _ rfl ⟨_, rfl, tq_w i19_t_15 (by decide) (by decide)⟩ dJ6_numberOfTrailingZeros_0f7a4_16
set_option maxHeartbeats 4000000 in
set_option maxRecDepth 100000 in
theorem c_X6_depthsAt (l : Launch) (X : tq_X) (Z : tq_Z) (f : Nat → va_E) (x0 : Int32) (x1 : Int32) : tq_Mp l X Z f yX6_depthsAt cX6_depthsAt 2 (some .int) 0 [.int x0, .int x1] (tq_ri 0 63) := by
  refine tq_startip (by decide) (Nat.le_of_ble_eq_true rfl) (fun p e R s m args below meth c Q hC hret hS ls hl => ?_)
  have hC : tq_C p R s m args c X (tq_A Z) RX6 cX6_depthsAt 2 0 := hC
  have hx := hC.1.1
  have hb := hC.1.2.1
  have hown := hC.1.2.2.2.1
  have hts := hC.1.2.2.2.2
  have hl : lv_has ls 2 [(0, .int x0), (1, .int x1)] := hl
  refine lv_iload_n hx hb dX6_depthsAt_0 rfl (lv_at hl 0 rfl) ?_
  refine lv_iload_n hx hb dX6_depthsAt_1 rfl (lv_at hl 1 rfl) ?_
  refine lv_bipush (v := 6) hx hb dX6_depthsAt_2 (by decide) ?_
  refine lv_imul hx hb dX6_depthsAt_4 ?_
  refine lv_topi (fun t_4 e_4 => ?_)
  refine lv_ishr hx hb dX6_depthsAt_5 ?_
  refine lv_topi (fun t_5 e_5 => ?_)
  refine lv_bipush (v := 63) hx hb dX6_depthsAt_6 (by decide) ?_
  refine lv_iand hx hb dX6_depthsAt_8 ?_
  refine lv_topi (fun t_8 e_8 => ?_)
  have i1_t_8 : tq_iv 0 63 t_8 := tq_and2 e_8 (⟨by decide, by decide⟩ : tq_iv 63 63 63) (by decide)
  exact hret t_8 _ _ rfl ⟨_, rfl, tq_w i1_t_8 (by decide) (by decide)⟩ dX6_depthsAt_9
set_option maxHeartbeats 4000000 in
set_option maxRecDepth 100000 in
theorem c_X6_depthAt (l : Launch) (X : tq_X) (Z : tq_Z) (f : Nat → va_E) (h0 : Nat) (z_h0 : tq_z Z h0 (.inl 6)) (x1 : Int32) (x2 : Int32) : tq_Mp l X Z f yX6_depthAt cX6_depthAt 3 (some .int) 1 [.ref h0, .int x1, .int x2] (tq_ri (-2147483648) 2147483647) := by
  refine tq_startip (by decide) (Nat.le_of_ble_eq_true rfl) (fun p e R s m args below meth c Q hC hret hS ls hl => ?_)
  have hC : tq_C p R s m args c X (tq_A Z) RX6 cX6_depthAt 3 1 := hC
  have hx := hC.1.1
  have hb := hC.1.2.1
  have hown := hC.1.2.2.2.1
  have hts := hC.1.2.2.2.2
  have hl : lv_has ls 3 [(0, .ref h0), (1, .int x1), (2, .int x2)] := hl
  refine lv_iload_n hx hb dX6_depthAt_0 rfl (lv_at hl 1 rfl) ?_
  refine lv_iload_n hx hb dX6_depthAt_1 rfl (lv_at hl 2 rfl) ?_
  refine tq_callSpi (As := [.int x1, .int x2]) (rest := []) hC (c_X6_depthsAt l X Z _ x1 x2) k_X6_depthsAt ql_RX6_28 rfl (by decide) hS hl.1 rfl (Nat.le_of_ble_eq_true rfl) ⟨Nat.zero_le _, Nat.zero_le _⟩ dX6_depthAt_2 (fun t_2 p_2 => ?_)
  refine tq_callSpi (As := [.int t_2]) (rest := []) hC (c_J6_numberOfTrailingZeros_0f7a4 l X Z _ t_2) k_J6_numberOfTrailingZeros_0f7a4 ql_RX6_32 rfl (by decide) hS hl.1 rfl (Nat.le_of_ble_eq_true rfl) ⟨Nat.zero_le _, Nat.zero_le _⟩ dX6_depthAt_5 (fun t_5 p_5 => ?_)
  exact hret t_5 _ _ rfl ⟨_, rfl, tq_w (tq_top t_5) (by decide) (by decide)⟩ dX6_depthAt_8
set_option maxHeartbeats 4000000 in
set_option maxRecDepth 100000 in
theorem c_X6_numberOf (l : Launch) (X : tq_X) (Z : tq_Z) (f : Nat → va_E) (h0 : Nat) (z_h0 : tq_z Z h0 (.inl 6)) (x1 : Int32) : tq_Mp l X Z f yX6_numberOf cX6_numberOf 4 (some .int) 2 [.ref h0, .int x1] (tq_ri (-2147483648) 2147483647) := by
  refine tq_startip (by decide) (Nat.le_of_ble_eq_true rfl) (fun p e R s m args below meth c Q hC hret hS ls hl => ?_)
  have hC : tq_C p R s m args c X (tq_A Z) RX6 cX6_numberOf 4 2 := hC
  have hx := hC.1.1
  have hb := hC.1.2.1
  have hown := hC.1.2.2.2.1
  have hts := hC.1.2.2.2.2
  have hl : lv_has ls 4 [(0, .ref h0), (1, .int x1)] := hl
  refine lv_iload_n hx hb dX6_numberOf_0 rfl (lv_at hl 1 rfl) ?_
  refine lv_if_ne (tgt := 6) hx hb dX6_numberOf_1 (by decide) (fun c_1 => ?_) (fun c_1 => ?_)
  · skip
    refine lv_iconst (v := 0) hx hb dX6_numberOf_6 (by decide) ?_
    refine lv_istore_n (lv' := [(2, .int 0), (0, .ref h0), (1, .int x1)]) hx hb dX6_numberOf_7 rfl hl (by decide) rfl (fun ls hl => ?_)
    refine lv_iconst (v := 0) hx hb dX6_numberOf_8 (by decide) ?_
    refine lv_istore_n (lv' := [(3, .int 0), (2, .int 0), (0, .ref h0), (1, .int x1)]) hx hb dX6_numberOf_9 rfl hl (by decide) rfl (fun ls hl => ?_)
    have K_10 : ∀ (n_10 : Nat) (x3_10 : Int32) (x2_10 : Int32) (ls : Array Slot), tq_iv 0 999 x3_10 → (2147483647 - x3_10.toInt).toNat < n_10 → lv_has ls 4 [(3, .int x3_10), (2, .int x2_10), (0, .ref h0), (1, .int x1)] → W p l e R s m args below meth c s.heap [] 0 0 Q (F0 m 10 ls []) := by
      intro n_10
      induction n_10 with
      | zero => intro x3_10 x2_10 ls  i1_x3_10 hn_10; exact absurd hn_10 (Nat.not_lt_zero _)
      | succ n_10 ih_10 =>
        intro x3_10 x2_10 ls  i1_x3_10 hn_10 hl
        refine lv_iload_n hx hb dX6_numberOf_10 rfl (lv_at hl 0 rfl) ?_
        refine lv_aload_n hx hb dX6_numberOf_11 rfl (lv_at hl 2 rfl) ?_
        refine gf_RX6_18 hC hS z_h0 dX6_numberOf_12 (fun t_12 p_12 q_12 => ?_)
        refine lv_icmp_ge (tgt := 38) hx hb dX6_numberOf_15 (by decide) (fun c_15 => ?_) (fun c_15 => ?_)
        · skip
          refine lv_iload_n hx hb dX6_numberOf_38 rfl (lv_at hl 1 rfl) ?_
          exact hret x2_10 _ _ rfl ⟨_, rfl, tq_w (tq_top x2_10) (by decide) (by decide)⟩ dX6_numberOf_39
        · skip
          have i2_x3_10 : tq_iv 0 998 x3_10 := tq_cut i1_x3_10 (tq_ltL (tq_nle c_15) i1_x3_10 p_12) (by decide) (by decide)
          have i3_t_12 : tq_iv 1 999 t_12 := tq_cut p_12 (tq_ltR (tq_nle c_15) i1_x3_10 p_12) (by decide) (by decide)
          refine lv_iload_n hx hb dX6_numberOf_18 rfl (lv_at hl 1 rfl) ?_
          refine lv_aload_n hx hb dX6_numberOf_19 rfl (lv_at hl 2 rfl) ?_
          refine gf_RX6_22 hC hS z_h0 dX6_numberOf_20 (fun t_20 p_20 q_20 => ?_)
          refine lv_imul hx hb dX6_numberOf_23 ?_
          refine lv_topi (fun t_23 e_23 => ?_)
          refine lv_aload_n hx hb dX6_numberOf_24 rfl (lv_at hl 2 rfl) ?_
          refine lv_iload_n hx hb dX6_numberOf_25 rfl (lv_at hl 3 rfl) ?_
          refine lv_iload_n hx hb dX6_numberOf_26 rfl (lv_at hl 0 rfl) ?_
          refine tq_callVpi (As := [.int x1, .int x3_10]) (rest := [.int t_23]) hC (c_X6_depthAt l X Z _ h0 z_h0 x1 x3_10) k_X6_depthAt ql_RX6_41 rfl (by decide) hS z_h0 rfl hl.1 rfl (Nat.le_of_ble_eq_true rfl) ⟨Nat.zero_le _, Nat.zero_le _⟩ dX6_numberOf_27 (fun t_27 p_27 => ?_)
          refine lv_iadd hx hb dX6_numberOf_30 ?_
          refine lv_topi (fun t_30 e_30 => ?_)
          refine lv_istore_n (lv' := [(2, .int t_30), (3, .int x3_10), (0, .ref h0), (1, .int x1)]) hx hb dX6_numberOf_31 rfl hl (by decide) rfl (fun ls hl => ?_)
          obtain ⟨t_32, e_32⟩ : ∃ y : Int32, y = x3_10 + 1 := ⟨_, rfl⟩
          have i4_t_32 : tq_iv 1 999 t_32 := tq_w (tq_add e_32 i2_x3_10 (⟨by decide, by decide⟩ : tq_iv 1 1 1) (by decide) (by decide)) (by decide) (by decide)
          refine lv_iinc (v := t_32) (lv' := [(3, .int t_32), (2, .int t_30), (0, .ref h0), (1, .int x1)]) hx hb dX6_numberOf_32 hl (k := 1) rfl (by rw [e_32]; rfl) (by decide) rfl (fun ls hl => ?_)
          refine lv_goto (tgt := 10) hx hb dX6_numberOf_35 (by decide) ?_
          exact ih_10 t_32 t_30 _ (tq_w i4_t_32 (by decide) (by decide)) (tq_up e_32 i2_x3_10 (⟨by decide, by decide⟩ : tq_iv 1 1 1) (by decide) (by decide) hn_10) (lv_sub hl [0, 1, 2, 3] rfl)
    exact K_10 _ 0 0 _ (tq_w (⟨by decide, by decide⟩ : tq_iv 0 0 0) (by decide) (by decide)) (Nat.lt_succ_self _) (lv_sub hl [0, 1, 2, 3] rfl)
  · skip
    have i5_x1 : tq_iv 0 0 x1 := tq_cut (tq_top x1) (tq_eqL c_1 (⟨by decide, by decide⟩ : tq_iv 0 0 0)) (by decide) (by decide)
    refine lv_iconst (v := -1) hx hb dX6_numberOf_4 (by decide) ?_
    exact hret (-1) _ _ rfl ⟨_, rfl, tq_w (⟨by decide, by decide⟩ : tq_iv (-1) (-1) (-1)) (by decide) (by decide)⟩ dX6_numberOf_5
set_option maxHeartbeats 4000000 in
set_option maxRecDepth 100000 in
theorem c_X7_used (l : Launch) (X : tq_X) (Z : tq_Z) (f : Nat → va_E) (h0 : Nat) (z_h0 : tq_z Z h0 (.inl 7)) (x1 : Int32) : tq_Mp l X Z f yX7_used cX7_used 2 (some .int) 1 [.ref h0, .int x1] (tq_ri (-2147483648) 2147483647) := by
  refine tq_startip (by decide) (Nat.le_of_ble_eq_true rfl) (fun p e R s m args below meth c Q hC hret hS ls hl => ?_)
  have hC : tq_C p R s m args c X (tq_A Z) RX7 cX7_used 2 1 := hC
  have hx := hC.1.1
  have hb := hC.1.2.1
  have hown := hC.1.2.2.2.1
  have hts := hC.1.2.2.2.2
  have hl : lv_has ls 2 [(0, .ref h0), (1, .int x1)] := hl
  refine lv_aload_n hx hb dX7_used_0 rfl (lv_at hl 0 rfl) ?_
  refine lv_bipush (v := 8) hx hb dX7_used_1 (by decide) ?_
  refine lv_iload_n hx hb dX7_used_3 rfl (lv_at hl 1 rfl) ?_
  refine lv_iadd hx hb dX7_used_4 ?_
  refine lv_topi (fun t_4 e_4 => ?_)
  refine tq_callVpi (As := [.int t_4]) (rest := []) hC (c_X7_look l X Z _ h0 z_h0 t_4) k_X7_look ql_RX7_27 rfl (by decide) hS z_h0 rfl hl.1 rfl (Nat.le_of_ble_eq_true rfl) ⟨Nat.zero_le _, Nat.zero_le _⟩ dX7_used_5 (fun t_5 p_5 => ?_)
  exact hret t_5 _ _ rfl ⟨_, rfl, tq_w (tq_top t_5) (by decide) (by decide)⟩ dX7_used_8
set_option maxHeartbeats 4000000 in
set_option maxRecDepth 100000 in
theorem c_X11_key (l : Launch) (X : tq_X) (Z : tq_Z) (f : Nat → va_E) (h0 : Nat) (z_h0 : tq_z Z h0 (.inl 11)) (x1 : Int32) (x2 : Int32) : tq_Mp l X Z f yX11_key cX11_key 3 (some .int) 3 [.ref h0, .int x1, .int x2] (tq_ri (-2147483648) 2147483647) := by
  refine tq_startip (by decide) (Nat.le_of_ble_eq_true rfl) (fun p e R s m args below meth c Q hC hret hS ls hl => ?_)
  have hC : tq_C p R s m args c X (tq_A Z) RX11 cX11_key 3 3 := hC
  have hx := hC.1.1
  have hb := hC.1.2.1
  have hown := hC.1.2.2.2.1
  have hts := hC.1.2.2.2.2
  have hl : lv_has ls 3 [(0, .ref h0), (1, .int x1), (2, .int x2)] := hl
  refine lv_aload_n hx hb dX11_key_0 rfl (lv_at hl 0 rfl) ?_
  refine gf_RX11_29 hC hS z_h0 dX11_key_1 (fun t_1 p_1 q_1 => ?_)
  refine lv_iload_n hx hb dX11_key_4 rfl (lv_at hl 1 rfl) ?_
  refine tq_callVpi (As := [.int x1]) (rest := []) hC (c_X3_hasKey l X Z _ t_1 p_1 x1) k_X3_hasKey ql_RX11_137 rfl (by decide) hS p_1 rfl hl.1 rfl (Nat.le_of_ble_eq_true rfl) ⟨Nat.zero_le _, Nat.zero_le _⟩ dX11_key_5 (fun t_5 p_5 => ?_)
  refine lv_if_ne (tgt := 14) hx hb dX11_key_8 (by decide) (fun c_8 => ?_) (fun c_8 => ?_)
  · skip
    have i1_t_5 : tq_iv 1 1 t_5 := tq_w (tq_neLo c_8 p_5 (⟨by decide, by decide⟩ : tq_iv 0 0 0)) (by decide) (by decide)
    refine lv_iload_n hx hb dX11_key_14 rfl (lv_at hl 2 rfl) ?_
    by_cases s_15_0 : Int32.toInt x2 = 0
    · refine lv_tableIn (tgt := 44) hx hb dX11_key_15 (by omega) (by omega) (by first | (rw [s_15_0]; done) | (rw [s_15_0]; rfl)) (by decide) ?_
      have i2_x2 : tq_iv 0 0 x2 := ⟨by omega, by omega⟩
      refine lv_aload_n hx hb dX11_key_44 rfl (lv_at hl 0 rfl) ?_
      refine gf_RX11_37 hC hS z_h0 dX11_key_45 (fun t_45 p_45 q_45 => ?_)
      refine lv_aload_n hx hb dX11_key_48 rfl (lv_at hl 0 rfl) ?_
      refine gf_RX11_41 hC hS z_h0 dX11_key_49 (fun t_49 p_49 q_49 => ?_)
      refine lv_iload_n hx hb dX11_key_52 rfl (lv_at hl 1 rfl) ?_
      refine tq_callVpi (As := [.int x1]) (rest := [.ref t_45]) hC (c_X7_bits l X Z _ t_49 p_49 x1) k_X7_bits ql_RX11_140 rfl (by decide) hS p_49 rfl hl.1 rfl (Nat.le_of_ble_eq_true rfl) ⟨Nat.zero_le _, Nat.zero_le _⟩ dX11_key_53 (fun t_53 p_53 => ?_)
      refine tq_callVpi (As := [.int t_53]) (rest := []) hC (c_X6_numberOf l X Z _ t_45 p_45 t_53) k_X6_numberOf ql_RX11_144 rfl (by decide) hS p_45 rfl hl.1 rfl (Nat.le_of_ble_eq_true rfl) ⟨Nat.zero_le _, Nat.zero_le _⟩ dX11_key_56 (fun t_56 p_56 => ?_)
      exact hret t_56 _ _ rfl ⟨_, rfl, tq_w (tq_top t_56) (by decide) (by decide)⟩ dX11_key_59
    by_cases s_15_1 : Int32.toInt x2 = 1
    · refine lv_tableIn (tgt := 60) hx hb dX11_key_15 (by omega) (by omega) (by first | (rw [s_15_1]; done) | (rw [s_15_1]; rfl)) (by decide) ?_
      have i3_x2 : tq_iv 1 1 x2 := ⟨by omega, by omega⟩
      refine lv_aload_n hx hb dX11_key_60 rfl (lv_at hl 0 rfl) ?_
      refine gf_RX11_41 hC hS z_h0 dX11_key_61 (fun t_61 p_61 q_61 => ?_)
      refine lv_iload_n hx hb dX11_key_64 rfl (lv_at hl 1 rfl) ?_
      refine tq_callVpi (As := [.int x1]) (rest := []) hC (c_X7_used l X Z _ t_61 p_61 x1) k_X7_used ql_RX11_149 rfl (by decide) hS p_61 rfl hl.1 rfl (Nat.le_of_ble_eq_true rfl) ⟨Nat.zero_le _, Nat.zero_le _⟩ dX11_key_65 (fun t_65 p_65 => ?_)
      exact hret t_65 _ _ rfl ⟨_, rfl, tq_w (tq_top t_65) (by decide) (by decide)⟩ dX11_key_68
    by_cases s_15_2 : Int32.toInt x2 = 2
    · refine lv_tableIn (tgt := 69) hx hb dX11_key_15 (by omega) (by omega) (by first | (rw [s_15_2]; done) | (rw [s_15_2]; rfl)) (by decide) ?_
      have i4_x2 : tq_iv 2 2 x2 := ⟨by omega, by omega⟩
      refine lv_aload_n hx hb dX11_key_69 rfl (lv_at hl 0 rfl) ?_
      refine gf_RX11_41 hC hS z_h0 dX11_key_70 (fun t_70 p_70 q_70 => ?_)
      refine lv_iload_n hx hb dX11_key_73 rfl (lv_at hl 1 rfl) ?_
      refine tq_callVpi (As := [.int x1]) (rest := []) hC (c_X7_holder l X Z _ t_70 p_70 x1) k_X7_holder ql_RX11_152 rfl (by decide) hS p_70 rfl hl.1 rfl (Nat.le_of_ble_eq_true rfl) ⟨Nat.zero_le _, Nat.zero_le _⟩ dX11_key_74 (fun t_74 p_74 => ?_)
      exact hret t_74 _ _ rfl ⟨_, rfl, tq_w (tq_top t_74) (by decide) (by decide)⟩ dX11_key_77
    by_cases s_15_3 : Int32.toInt x2 = 3
    · refine lv_tableIn (tgt := 78) hx hb dX11_key_15 (by omega) (by omega) (by first | (rw [s_15_3]; done) | (rw [s_15_3]; rfl)) (by decide) ?_
      have i5_x2 : tq_iv 3 3 x2 := ⟨by omega, by omega⟩
      refine lv_aload_n hx hb dX11_key_78 rfl (lv_at hl 0 rfl) ?_
      refine gf_RX11_79 hC hS z_h0 dX11_key_79 (fun t_79 p_79 q_79 => ?_)
      refine lv_iconst (v := 1) hx hb dX11_key_82 (by decide) ?_
      refine lv_iload_n hx hb dX11_key_83 rfl (lv_at hl 1 rfl) ?_
      refine lv_ishl hx hb dX11_key_84 ?_
      refine lv_topi (fun t_84 e_84 => ?_)
      refine tq_callVpi (As := [.int t_84]) (rest := []) hC (c_X2_locksFor l X Z _ t_79 p_79 t_84) k_X2_locksFor ql_RX11_155 rfl (by decide) hS p_79 rfl hl.1 rfl (Nat.le_of_ble_eq_true rfl) ⟨Nat.zero_le _, Nat.zero_le _⟩ dX11_key_85 (fun t_85 p_85 => ?_)
      exact hret t_85 _ _ rfl ⟨_, rfl, tq_w (tq_top t_85) (by decide) (by decide)⟩ dX11_key_88
    refine lv_tableOut (tgt := 89) hx hb dX11_key_15 (by omega) (by decide) ?_
    refine lv_bipush (v := -3) hx hb dX11_key_89 (by decide) ?_
    exact hret (-3) _ _ rfl ⟨_, rfl, tq_w (⟨by decide, by decide⟩ : tq_iv (-3) (-3) (-3)) (by decide) (by decide)⟩ dX11_key_91
  · skip
    have i6_t_5 : tq_iv 0 0 t_5 := tq_cut p_5 (tq_eqL c_8 (⟨by decide, by decide⟩ : tq_iv 0 0 0)) (by decide) (by decide)
    refine lv_bipush (v := -3) hx hb dX11_key_11 (by decide) ?_
    exact hret (-3) _ _ rfl ⟨_, rfl, tq_w (⟨by decide, by decide⟩ : tq_iv (-3) (-3) (-3)) (by decide) (by decide)⟩ dX11_key_13
set_option maxHeartbeats 4000000 in
set_option maxRecDepth 100000 in
theorem c_X6_hasChamber (l : Launch) (X : tq_X) (Z : tq_Z) (f : Nat → va_E) (h0 : Nat) (z_h0 : tq_z Z h0 (.inl 6)) (x1 : Int32) : tq_Mp l X Z f yX6_hasChamber cX6_hasChamber 2 (some .boolean) 0 [.ref h0, .int x1] (tq_ri 0 1) := by
  refine tq_startip (by decide) (Nat.le_of_ble_eq_true rfl) (fun p e R s m args below meth c Q hC hret hS ls hl => ?_)
  have hC : tq_C p R s m args c X (tq_A Z) RX6 cX6_hasChamber 2 0 := hC
  have hx := hC.1.1
  have hb := hC.1.2.1
  have hown := hC.1.2.2.2.1
  have hts := hC.1.2.2.2.2
  have hl : lv_has ls 2 [(0, .ref h0), (1, .int x1)] := hl
  refine lv_iload_n hx hb dX6_hasChamber_0 rfl (lv_at hl 1 rfl) ?_
  have K_17 : ∀ (y0_17 : Int32) (ls : Array Slot), tq_iv 0 1 y0_17 → lv_has ls 2 [] → W p l e R s m args below meth c s.heap [] 0 0 Q (F0 m 17 ls [.int y0_17]) := by
    intro y0_17 ls  i1_y0_17 hl
    exact hret y0_17 _ _ (tq_nb i1_y0_17 (by decide) (by decide)) ⟨_, rfl, tq_w i1_y0_17 (by decide) (by decide)⟩ dX6_hasChamber_17
  have K_16 : ∀ (ls : Array Slot), lv_has ls 2 [] → W p l e R s m args below meth c s.heap [] 0 0 Q (F0 m 16 ls []) := by
    intro  ls  hl
    refine lv_iconst (v := 0) hx hb dX6_hasChamber_16 (by decide) ?_
    exact K_17 0 _ (tq_w (⟨by decide, by decide⟩ : tq_iv 0 0 0) (by decide) (by decide)) (lv_sub hl [] rfl)
  refine lv_if_lt (tgt := 16) hx hb dX6_hasChamber_1 (by decide) (fun c_1 => ?_) (fun c_1 => ?_)
  · skip
    have i2_x1 : tq_iv (-2147483648) (-1) x1 := tq_cut (tq_top x1) (tq_ltL c_1 (tq_top x1) (⟨by decide, by decide⟩ : tq_iv 0 0 0)) (by decide) (by decide)
    exact K_16 _ (lv_sub hl [] rfl)
  · skip
    have i3_x1 : tq_iv 0 2147483647 x1 := tq_cut (tq_top x1) (tq_leR (tq_nlt c_1) (⟨by decide, by decide⟩ : tq_iv 0 0 0) (tq_top x1)) (by decide) (by decide)
    refine lv_iload_n hx hb dX6_hasChamber_4 rfl (lv_at hl 1 rfl) ?_
    refine lv_aload_n hx hb dX6_hasChamber_5 rfl (lv_at hl 0 rfl) ?_
    refine gf_RX6_18 hC hS z_h0 dX6_hasChamber_6 (fun t_6 p_6 q_6 => ?_)
    refine lv_icmp_ge (tgt := 16) hx hb dX6_hasChamber_9 (by decide) (fun c_9 => ?_) (fun c_9 => ?_)
    · skip
      exact K_16 _ (lv_sub hl [] rfl)
    · skip
      have i4_x1 : tq_iv 0 998 x1 := tq_cut i3_x1 (tq_ltL (tq_nle c_9) i3_x1 p_6) (by decide) (by decide)
      have i5_t_6 : tq_iv 1 999 t_6 := tq_cut p_6 (tq_ltR (tq_nle c_9) i3_x1 p_6) (by decide) (by decide)
      refine lv_iconst (v := 1) hx hb dX6_hasChamber_12 (by decide) ?_
      refine lv_goto (tgt := 17) hx hb dX6_hasChamber_13 (by decide) ?_
      exact K_17 1 _ (tq_w (⟨by decide, by decide⟩ : tq_iv 1 1 1) (by decide) (by decide)) (lv_sub hl [] rfl)
set_option maxHeartbeats 4000000 in
set_option maxRecDepth 100000 in
theorem c_X11_cut (l : Launch) (X : tq_X) (Z : tq_Z) (f : Nat → va_E) (h0 : Nat) (z_h0 : tq_z Z h0 (.inl 11)) (x1 : Int32) (x2 : Int32) : tq_Mp l X Z f yX11_cut cX11_cut 3 (some .int) 2 [.ref h0, .int x1, .int x2] (tq_ri (-2147483648) 2147483647) := by
  refine tq_startip (by decide) (Nat.le_of_ble_eq_true rfl) (fun p e R s m args below meth c Q hC hret hS ls hl => ?_)
  have hC : tq_C p R s m args c X (tq_A Z) RX11 cX11_cut 3 2 := hC
  have hx := hC.1.1
  have hb := hC.1.2.1
  have hown := hC.1.2.2.2.1
  have hts := hC.1.2.2.2.2
  have hl : lv_has ls 3 [(0, .ref h0), (1, .int x1), (2, .int x2)] := hl
  refine lv_aload_n hx hb dX11_cut_0 rfl (lv_at hl 0 rfl) ?_
  refine gf_RX11_29 hC hS z_h0 dX11_cut_1 (fun t_1 p_1 q_1 => ?_)
  refine lv_iload_n hx hb dX11_cut_4 rfl (lv_at hl 1 rfl) ?_
  refine tq_callVpi (As := [.int x1]) (rest := []) hC (c_X3_hasKey l X Z _ t_1 p_1 x1) k_X3_hasKey ql_RX11_137 rfl (by decide) hS p_1 rfl hl.1 rfl (Nat.le_of_ble_eq_true rfl) ⟨Nat.zero_le _, Nat.zero_le _⟩ dX11_cut_5 (fun t_5 p_5 => ?_)
  have K_22 : ∀ (ls : Array Slot), lv_has ls 3 [] → W p l e R s m args below meth c s.heap [] 0 0 Q (F0 m 22 ls []) := by
    intro  ls  hl
    refine lv_iconst (v := -1) hx hb dX11_cut_22 (by decide) ?_
    exact hret (-1) _ _ rfl ⟨_, rfl, tq_w (⟨by decide, by decide⟩ : tq_iv (-1) (-1) (-1)) (by decide) (by decide)⟩ dX11_cut_23
  refine lv_if_eq (tgt := 22) hx hb dX11_cut_8 (by decide) (fun c_8 => ?_) (fun c_8 => ?_)
  · skip
    have i1_t_5 : tq_iv 0 0 t_5 := tq_cut p_5 (tq_eqL c_8 (⟨by decide, by decide⟩ : tq_iv 0 0 0)) (by decide) (by decide)
    exact K_22 _ (lv_sub hl [] rfl)
  · skip
    have i2_t_5 : tq_iv 1 1 t_5 := tq_w (tq_neLo c_8 p_5 (⟨by decide, by decide⟩ : tq_iv 0 0 0)) (by decide) (by decide)
    refine lv_aload_n hx hb dX11_cut_11 rfl (lv_at hl 0 rfl) ?_
    refine gf_RX11_37 hC hS z_h0 dX11_cut_12 (fun t_12 p_12 q_12 => ?_)
    refine lv_iload_n hx hb dX11_cut_15 rfl (lv_at hl 2 rfl) ?_
    refine tq_callVpi (As := [.int x2]) (rest := []) hC (c_X6_hasChamber l X Z _ t_12 p_12 x2) k_X6_hasChamber ql_RX11_158 rfl (by decide) hS p_12 rfl hl.1 rfl (Nat.le_of_ble_eq_true rfl) ⟨Nat.zero_le _, Nat.zero_le _⟩ dX11_cut_16 (fun t_16 p_16 => ?_)
    refine lv_if_ne (tgt := 24) hx hb dX11_cut_19 (by decide) (fun c_19 => ?_) (fun c_19 => ?_)
    · skip
      have i3_t_16 : tq_iv 1 1 t_16 := tq_w (tq_neLo c_19 p_16 (⟨by decide, by decide⟩ : tq_iv 0 0 0)) (by decide) (by decide)
      refine lv_aload_n hx hb dX11_cut_24 rfl (lv_at hl 0 rfl) ?_
      refine gf_RX11_37 hC hS z_h0 dX11_cut_25 (fun t_25 p_25 q_25 => ?_)
      refine lv_aload_n hx hb dX11_cut_28 rfl (lv_at hl 0 rfl) ?_
      refine gf_RX11_41 hC hS z_h0 dX11_cut_29 (fun t_29 p_29 q_29 => ?_)
      refine lv_iload_n hx hb dX11_cut_32 rfl (lv_at hl 1 rfl) ?_
      refine tq_callVpi (As := [.int x1]) (rest := [.ref t_25]) hC (c_X7_bits l X Z _ t_29 p_29 x1) k_X7_bits ql_RX11_140 rfl (by decide) hS p_29 rfl hl.1 rfl (Nat.le_of_ble_eq_true rfl) ⟨Nat.zero_le _, Nat.zero_le _⟩ dX11_cut_33 (fun t_33 p_33 => ?_)
      refine lv_iload_n hx hb dX11_cut_36 rfl (lv_at hl 2 rfl) ?_
      refine tq_callVpi (As := [.int t_33, .int x2]) (rest := []) hC (c_X6_depthAt l X Z _ t_25 p_25 t_33 x2) k_X6_depthAt ql_RX11_161 rfl (by decide) hS p_25 rfl hl.1 rfl (Nat.le_of_ble_eq_true rfl) ⟨Nat.zero_le _, Nat.zero_le _⟩ dX11_cut_37 (fun t_37 p_37 => ?_)
      exact hret t_37 _ _ rfl ⟨_, rfl, tq_w (tq_top t_37) (by decide) (by decide)⟩ dX11_cut_40
    · skip
      have i4_t_16 : tq_iv 0 0 t_16 := tq_cut p_16 (tq_eqL c_19 (⟨by decide, by decide⟩ : tq_iv 0 0 0)) (by decide) (by decide)
      exact K_22 _ (lv_sub hl [] rfl)
set_option maxHeartbeats 4000000 in
set_option maxRecDepth 100000 in
theorem c_J6_bitCount_0f7a4 (l : Launch) (X : tq_X) (Z : tq_Z) (f : Nat → va_E) (x0 : Int32) : tq_Mp l X Z f yJ6_bitCount_0f7a4 cJ6_bitCount_0f7a4 1 (some .int) 0 [.int x0] (tq_ri 0 63) := by
  refine tq_startip (by decide) (Nat.le_of_ble_eq_true rfl) (fun p e R s m args below meth c Q hC hret hS ls hl => ?_)
  have hC : tq_C p R s m args c X (tq_A Z) RJ6 cJ6_bitCount_0f7a4 1 0 := hC
  have hx := hC.1.1
  have hb := hC.1.2.1
  have hown := hC.1.2.2.2.1
  have hts := hC.1.2.2.2.2
  have hl : lv_has ls 1 [(0, .int x0)] := hl
  refine lv_iload_n hx hb dJ6_bitCount_0f7a4_0 rfl (lv_at hl 0 rfl) ?_
  refine lv_iload_n hx hb dJ6_bitCount_0f7a4_1 rfl (lv_at hl 0 rfl) ?_
  refine lv_iconst (v := 1) hx hb dJ6_bitCount_0f7a4_2 (by decide) ?_
  refine lv_iushr hx hb dJ6_bitCount_0f7a4_3 rfl ?_
  refine lv_topi (fun t_3 e_3 => ?_)
  refine lv_ldcw hx hb hown (hts _ qc_RJ6_265) dJ6_bitCount_0f7a4_4 ?_
  refine lv_iand hx hb dJ6_bitCount_0f7a4_7 ?_
  refine lv_topi (fun t_7 e_7 => ?_)
  have i1_t_7 : tq_iv 0 1431655765 t_7 := tq_and2 e_7 (⟨by decide, by decide⟩ : tq_iv 1431655765 1431655765 1431655765) (by decide)
  refine lv_isub hx hb dJ6_bitCount_0f7a4_8 ?_
  refine lv_topi (fun t_8 e_8 => ?_)
  refine lv_istore_n (lv' := [(0, .int t_8)]) hx hb dJ6_bitCount_0f7a4_9 rfl hl (by decide) rfl (fun ls hl => ?_)
  refine lv_iload_n hx hb dJ6_bitCount_0f7a4_10 rfl (lv_at hl 0 rfl) ?_
  refine lv_ldcw hx hb hown (hts _ qc_RJ6_266) dJ6_bitCount_0f7a4_11 ?_
  refine lv_iand hx hb dJ6_bitCount_0f7a4_14 ?_
  refine lv_topi (fun t_14 e_14 => ?_)
  have i2_t_14 : tq_iv 0 858993459 t_14 := tq_and2 e_14 (⟨by decide, by decide⟩ : tq_iv 858993459 858993459 858993459) (by decide)
  refine lv_iload_n hx hb dJ6_bitCount_0f7a4_15 rfl (lv_at hl 0 rfl) ?_
  refine lv_iconst (v := 2) hx hb dJ6_bitCount_0f7a4_16 (by decide) ?_
  refine lv_iushr hx hb dJ6_bitCount_0f7a4_17 rfl ?_
  refine lv_topi (fun t_17 e_17 => ?_)
  refine lv_ldcw hx hb hown (hts _ qc_RJ6_266) dJ6_bitCount_0f7a4_18 ?_
  refine lv_iand hx hb dJ6_bitCount_0f7a4_21 ?_
  refine lv_topi (fun t_21 e_21 => ?_)
  have i3_t_21 : tq_iv 0 858993459 t_21 := tq_and2 e_21 (⟨by decide, by decide⟩ : tq_iv 858993459 858993459 858993459) (by decide)
  refine lv_iadd hx hb dJ6_bitCount_0f7a4_22 ?_
  refine lv_topi (fun t_22 e_22 => ?_)
  have i4_t_22 : tq_iv 0 1717986918 t_22 := tq_w (tq_add e_22 i2_t_14 i3_t_21 (by decide) (by decide)) (by decide) (by decide)
  refine lv_istore_n (lv' := [(0, .int t_22)]) hx hb dJ6_bitCount_0f7a4_23 rfl hl (by decide) rfl (fun ls hl => ?_)
  refine lv_iload_n hx hb dJ6_bitCount_0f7a4_24 rfl (lv_at hl 0 rfl) ?_
  refine lv_iload_n hx hb dJ6_bitCount_0f7a4_25 rfl (lv_at hl 0 rfl) ?_
  refine lv_iconst (v := 4) hx hb dJ6_bitCount_0f7a4_26 (by decide) ?_
  refine lv_iushr hx hb dJ6_bitCount_0f7a4_27 rfl ?_
  refine lv_topi (fun t_27 e_27 => ?_)
  refine lv_iadd hx hb dJ6_bitCount_0f7a4_28 ?_
  refine lv_topi (fun t_28 e_28 => ?_)
  refine lv_ldcw hx hb hown (hts _ qc_RJ6_267) dJ6_bitCount_0f7a4_29 ?_
  refine lv_iand hx hb dJ6_bitCount_0f7a4_32 ?_
  refine lv_topi (fun t_32 e_32 => ?_)
  have i5_t_32 : tq_iv 0 252645135 t_32 := tq_and2 e_32 (⟨by decide, by decide⟩ : tq_iv 252645135 252645135 252645135) (by decide)
  refine lv_istore_n (lv' := [(0, .int t_32)]) hx hb dJ6_bitCount_0f7a4_33 rfl hl (by decide) rfl (fun ls hl => ?_)
  refine lv_iload_n hx hb dJ6_bitCount_0f7a4_34 rfl (lv_at hl 0 rfl) ?_
  refine lv_iload_n hx hb dJ6_bitCount_0f7a4_35 rfl (lv_at hl 0 rfl) ?_
  refine lv_bipush (v := 8) hx hb dJ6_bitCount_0f7a4_36 (by decide) ?_
  refine lv_iushr hx hb dJ6_bitCount_0f7a4_38 rfl ?_
  refine lv_topi (fun t_38 e_38 => ?_)
  refine lv_iadd hx hb dJ6_bitCount_0f7a4_39 ?_
  refine lv_topi (fun t_39 e_39 => ?_)
  refine lv_istore_n (lv' := [(0, .int t_39)]) hx hb dJ6_bitCount_0f7a4_40 rfl hl (by decide) rfl (fun ls hl => ?_)
  refine lv_iload_n hx hb dJ6_bitCount_0f7a4_41 rfl (lv_at hl 0 rfl) ?_
  refine lv_iload_n hx hb dJ6_bitCount_0f7a4_42 rfl (lv_at hl 0 rfl) ?_
  refine lv_bipush (v := 16) hx hb dJ6_bitCount_0f7a4_43 (by decide) ?_
  refine lv_iushr hx hb dJ6_bitCount_0f7a4_45 rfl ?_
  refine lv_topi (fun t_45 e_45 => ?_)
  refine lv_iadd hx hb dJ6_bitCount_0f7a4_46 ?_
  refine lv_topi (fun t_46 e_46 => ?_)
  refine lv_istore_n (lv' := [(0, .int t_46)]) hx hb dJ6_bitCount_0f7a4_47 rfl hl (by decide) rfl (fun ls hl => ?_)
  refine lv_iload_n hx hb dJ6_bitCount_0f7a4_48 rfl (lv_at hl 0 rfl) ?_
  refine lv_bipush (v := 63) hx hb dJ6_bitCount_0f7a4_49 (by decide) ?_
  refine lv_iand hx hb dJ6_bitCount_0f7a4_51 ?_
  refine lv_topi (fun t_51 e_51 => ?_)
  have i6_t_51 : tq_iv 0 63 t_51 := tq_and2 e_51 (⟨by decide, by decide⟩ : tq_iv 63 63 63) (by decide)
  exact hret t_51 _ _ rfl ⟨_, rfl, tq_w i6_t_51 (by decide) (by decide)⟩ dJ6_bitCount_0f7a4_52
set_option maxHeartbeats 4000000 in
set_option maxRecDepth 100000 in
theorem c_X2_keysFor (l : Launch) (X : tq_X) (Z : tq_Z) (f : Nat → va_E) (h0 : Nat) (z_h0 : tq_z Z h0 (.inl 2)) (x1 : Int32) : tq_Mp l X Z f yX2_keysFor cX2_keysFor 4 (some .int) 2 [.ref h0, .int x1] (tq_ri (-2147483648) 2147483647) := by
  refine tq_startip (by decide) (Nat.le_of_ble_eq_true rfl) (fun p e R s m args below meth c Q hC hret hS ls hl => ?_)
  have hC : tq_C p R s m args c X (tq_A Z) RX2 cX2_keysFor 4 2 := hC
  have hx := hC.1.1
  have hb := hC.1.2.1
  have hown := hC.1.2.2.2.1
  have hts := hC.1.2.2.2.2
  have hl : lv_has ls 4 [(0, .ref h0), (1, .int x1)] := hl
  refine lv_iconst (v := 0) hx hb dX2_keysFor_0 (by decide) ?_
  refine lv_istore_n (lv' := [(2, .int 0), (0, .ref h0), (1, .int x1)]) hx hb dX2_keysFor_1 rfl hl (by decide) rfl (fun ls hl => ?_)
  refine lv_iconst (v := 0) hx hb dX2_keysFor_2 (by decide) ?_
  refine lv_istore_n (lv' := [(3, .int 0), (2, .int 0), (0, .ref h0), (1, .int x1)]) hx hb dX2_keysFor_3 rfl hl (by decide) rfl (fun ls hl => ?_)
  have K_4 : ∀ (n_4 : Nat) (x3_4 : Int32) (x2_4 : Int32) (ls : Array Slot), tq_iv 0 8 x3_4 → (2147483647 - x3_4.toInt).toNat < n_4 → lv_has ls 4 [(3, .int x3_4), (2, .int x2_4), (0, .ref h0), (1, .int x1)] → W p l e R s m args below meth c s.heap [] 0 0 Q (F0 m 4 ls []) := by
    intro n_4
    induction n_4 with
    | zero => intro x3_4 x2_4 ls  i1_x3_4 hn_4; exact absurd hn_4 (Nat.not_lt_zero _)
    | succ n_4 ih_4 =>
      intro x3_4 x2_4 ls  i1_x3_4 hn_4 hl
      refine lv_iload_n hx hb dX2_keysFor_4 rfl (lv_at hl 0 rfl) ?_
      refine lv_aload_n hx hb dX2_keysFor_5 rfl (lv_at hl 2 rfl) ?_
      refine gf_RX2_9 hC hS z_h0 dX2_keysFor_6 (fun t_6 p_6 q_6 => ?_)
      refine gf_RX2_33 hC hS p_6 dX2_keysFor_9 (fun t_9 p_9 q_9 => ?_)
      refine lv_icmp_ge (tgt := 49) hx hb dX2_keysFor_12 (by decide) (fun c_12 => ?_) (fun c_12 => ?_)
      · skip
        refine lv_iload_n hx hb dX2_keysFor_49 rfl (lv_at hl 1 rfl) ?_
        exact hret x2_4 _ _ rfl ⟨_, rfl, tq_w (tq_top x2_4) (by decide) (by decide)⟩ dX2_keysFor_50
      · skip
        have i2_x3_4 : tq_iv 0 7 x3_4 := tq_cut i1_x3_4 (tq_ltL (tq_nle c_12) i1_x3_4 p_9) (by decide) (by decide)
        have i3_t_9 : tq_iv 1 8 t_9 := tq_cut p_9 (tq_ltR (tq_nle c_12) i1_x3_4 p_9) (by decide) (by decide)
        refine lv_aload_n hx hb dX2_keysFor_15 rfl (lv_at hl 2 rfl) ?_
        refine gf_RX2_15 hC hS z_h0 dX2_keysFor_16 (fun t_16 p_16 q_16 => ?_)
        refine lv_iload_n hx hb dX2_keysFor_19 rfl (lv_at hl 0 rfl) ?_
        refine tq_callVpi (As := [.int x3_4]) (rest := []) hC (c_X7_bits l X Z _ t_16 p_16 x3_4) k_X7_bits ql_RX2_41 rfl (by decide) hS p_16 rfl hl.1 rfl (Nat.le_of_ble_eq_true rfl) ⟨Nat.zero_le _, Nat.zero_le _⟩ dX2_keysFor_20 (fun t_20 p_20 => ?_)
        refine lv_aload_n hx hb dX2_keysFor_23 rfl (lv_at hl 2 rfl) ?_
        refine gf_RX2_15 hC hS z_h0 dX2_keysFor_24 (fun t_24 p_24 q_24 => ?_)
        refine lv_iload_n hx hb dX2_keysFor_27 rfl (lv_at hl 3 rfl) ?_
        refine tq_callVpi (As := [.int x1]) (rest := [.int t_20]) hC (c_X7_pins l X Z _ t_24 p_24 x1) k_X7_pins ql_RX2_47 rfl (by decide) hS p_24 rfl hl.1 rfl (Nat.le_of_ble_eq_true rfl) ⟨Nat.zero_le _, Nat.zero_le _⟩ dX2_keysFor_28 (fun t_28 p_28 => ?_)
        refine tq_callSpi (As := [.int t_20, .int t_28]) (rest := []) hC (c_X6_fitsIn l X Z _ t_20 t_28) k_X6_fitsIn ql_RX2_50 rfl (by decide) hS hl.1 rfl (Nat.le_of_ble_eq_true rfl) ⟨Nat.zero_le _, Nat.zero_le _⟩ dX2_keysFor_31 (fun t_31 p_31 => ?_)
        have K_43 : ∀ (x2_43 : Int32) (ls : Array Slot), lv_has ls 4 [(3, .int x3_4), (2, .int x2_43), (0, .ref h0), (1, .int x1)] → W p l e R s m args below meth c s.heap [] 0 0 Q (F0 m 43 ls []) := by
          intro x2_43 ls  hl
          obtain ⟨t_43, e_43⟩ : ∃ y : Int32, y = x3_4 + 1 := ⟨_, rfl⟩
          have i4_t_43 : tq_iv 1 8 t_43 := tq_w (tq_add e_43 i2_x3_4 (⟨by decide, by decide⟩ : tq_iv 1 1 1) (by decide) (by decide)) (by decide) (by decide)
          refine lv_iinc (v := t_43) (lv' := [(3, .int t_43), (2, .int x2_43), (0, .ref h0), (1, .int x1)]) hx hb dX2_keysFor_43 hl (k := 0) rfl (by rw [e_43]; rfl) (by decide) rfl (fun ls hl => ?_)
          refine lv_goto (tgt := 4) hx hb dX2_keysFor_46 (by decide) ?_
          exact ih_4 t_43 x2_43 _ (tq_w i4_t_43 (by decide) (by decide)) (tq_up e_43 i2_x3_4 (⟨by decide, by decide⟩ : tq_iv 1 1 1) (by decide) (by decide) hn_4) (lv_sub hl [0, 1, 2, 3] rfl)
        refine lv_if_eq (tgt := 43) hx hb dX2_keysFor_34 (by decide) (fun c_34 => ?_) (fun c_34 => ?_)
        · skip
          have i5_t_31 : tq_iv 0 0 t_31 := tq_cut p_31 (tq_eqL c_34 (⟨by decide, by decide⟩ : tq_iv 0 0 0)) (by decide) (by decide)
          exact K_43 x2_4 _ (lv_sub hl [0, 1, 2, 3] rfl)
        · skip
          have i6_t_31 : tq_iv 1 1 t_31 := tq_w (tq_neLo c_34 p_31 (⟨by decide, by decide⟩ : tq_iv 0 0 0)) (by decide) (by decide)
          refine lv_iload_n hx hb dX2_keysFor_37 rfl (lv_at hl 1 rfl) ?_
          refine lv_iconst (v := 1) hx hb dX2_keysFor_38 (by decide) ?_
          refine lv_iload_n hx hb dX2_keysFor_39 rfl (lv_at hl 0 rfl) ?_
          refine lv_ishl hx hb dX2_keysFor_40 ?_
          refine lv_topi (fun t_40 e_40 => ?_)
          have i7_t_40 : tq_iv 1 128 t_40 := tq_shl1 e_40 i2_x3_4 (by decide) (by decide) (by decide) (by decide)
          refine lv_ior hx hb dX2_keysFor_41 ?_
          refine lv_topi (fun t_41 e_41 => ?_)
          refine lv_istore_n (lv' := [(2, .int t_41), (3, .int x3_4), (0, .ref h0), (1, .int x1)]) hx hb dX2_keysFor_42 rfl hl (by decide) rfl (fun ls hl => ?_)
          exact K_43 t_41 _ (lv_sub hl [1, 0, 2, 3] rfl)
  exact K_4 _ 0 0 _ (tq_w (⟨by decide, by decide⟩ : tq_iv 0 0 0) (by decide) (by decide)) (Nat.lt_succ_self _) (lv_sub hl [0, 1, 2, 3] rfl)
set_option maxHeartbeats 4000000 in
set_option maxRecDepth 100000 in
theorem c_X3_hasLock (l : Launch) (X : tq_X) (Z : tq_Z) (f : Nat → va_E) (h0 : Nat) (z_h0 : tq_z Z h0 (.inl 3)) (x1 : Int32) : tq_Mp l X Z f yX3_hasLock cX3_hasLock 2 (some .boolean) 0 [.ref h0, .int x1] (tq_ri 0 1) := by
  refine tq_startip (by decide) (Nat.le_of_ble_eq_true rfl) (fun p e R s m args below meth c Q hC hret hS ls hl => ?_)
  have hC : tq_C p R s m args c X (tq_A Z) RX3 cX3_hasLock 2 0 := hC
  have hx := hC.1.1
  have hb := hC.1.2.1
  have hown := hC.1.2.2.2.1
  have hts := hC.1.2.2.2.2
  have hl : lv_has ls 2 [(0, .ref h0), (1, .int x1)] := hl
  refine lv_iload_n hx hb dX3_hasLock_0 rfl (lv_at hl 1 rfl) ?_
  have K_17 : ∀ (y0_17 : Int32) (ls : Array Slot), tq_iv 0 1 y0_17 → lv_has ls 2 [] → W p l e R s m args below meth c s.heap [] 0 0 Q (F0 m 17 ls [.int y0_17]) := by
    intro y0_17 ls  i1_y0_17 hl
    exact hret y0_17 _ _ (tq_nb i1_y0_17 (by decide) (by decide)) ⟨_, rfl, tq_w i1_y0_17 (by decide) (by decide)⟩ dX3_hasLock_17
  have K_16 : ∀ (ls : Array Slot), lv_has ls 2 [] → W p l e R s m args below meth c s.heap [] 0 0 Q (F0 m 16 ls []) := by
    intro  ls  hl
    refine lv_iconst (v := 0) hx hb dX3_hasLock_16 (by decide) ?_
    exact K_17 0 _ (tq_w (⟨by decide, by decide⟩ : tq_iv 0 0 0) (by decide) (by decide)) (lv_sub hl [] rfl)
  refine lv_if_lt (tgt := 16) hx hb dX3_hasLock_1 (by decide) (fun c_1 => ?_) (fun c_1 => ?_)
  · skip
    have i2_x1 : tq_iv (-2147483648) (-1) x1 := tq_cut (tq_top x1) (tq_ltL c_1 (tq_top x1) (⟨by decide, by decide⟩ : tq_iv 0 0 0)) (by decide) (by decide)
    exact K_16 _ (lv_sub hl [] rfl)
  · skip
    have i3_x1 : tq_iv 0 2147483647 x1 := tq_cut (tq_top x1) (tq_leR (tq_nlt c_1) (⟨by decide, by decide⟩ : tq_iv 0 0 0) (tq_top x1)) (by decide) (by decide)
    refine lv_iload_n hx hb dX3_hasLock_4 rfl (lv_at hl 1 rfl) ?_
    refine lv_aload_n hx hb dX3_hasLock_5 rfl (lv_at hl 0 rfl) ?_
    refine gf_RX3_59 hC hS z_h0 dX3_hasLock_6 (fun t_6 p_6 q_6 => ?_)
    refine lv_icmp_ge (tgt := 16) hx hb dX3_hasLock_9 (by decide) (fun c_9 => ?_) (fun c_9 => ?_)
    · skip
      exact K_16 _ (lv_sub hl [] rfl)
    · skip
      have i4_x1 : tq_iv 0 2147483646 x1 := tq_cut i3_x1 (tq_ltL (tq_nle c_9) i3_x1 (tq_top t_6)) (by decide) (by decide)
      have i5_t_6 : tq_iv 1 2147483647 t_6 := tq_cut (tq_top t_6) (tq_ltR (tq_nle c_9) i3_x1 (tq_top t_6)) (by decide) (by decide)
      refine lv_iconst (v := 1) hx hb dX3_hasLock_12 (by decide) ?_
      refine lv_goto (tgt := 17) hx hb dX3_hasLock_13 (by decide) ?_
      exact K_17 1 _ (tq_w (⟨by decide, by decide⟩ : tq_iv 1 1 1) (by decide) (by decide)) (lv_sub hl [] rfl)
set_option maxHeartbeats 4000000 in
set_option maxRecDepth 100000 in
theorem c_X11_lock (l : Launch) (X : tq_X) (Z : tq_Z) (f : Nat → va_E) (h0 : Nat) (z_h0 : tq_z Z h0 (.inl 11)) (x1 : Int32) (x2 : Int32) : tq_Mp l X Z f yX11_lock cX11_lock 3 (some .int) 3 [.ref h0, .int x1, .int x2] (tq_ri (-2147483648) 2147483647) := by
  refine tq_startip (by decide) (Nat.le_of_ble_eq_true rfl) (fun p e R s m args below meth c Q hC hret hS ls hl => ?_)
  have hC : tq_C p R s m args c X (tq_A Z) RX11 cX11_lock 3 3 := hC
  have hx := hC.1.1
  have hb := hC.1.2.1
  have hown := hC.1.2.2.2.1
  have hts := hC.1.2.2.2.2
  have hl : lv_has ls 3 [(0, .ref h0), (1, .int x1), (2, .int x2)] := hl
  refine lv_aload_n hx hb dX11_lock_0 rfl (lv_at hl 0 rfl) ?_
  refine gf_RX11_29 hC hS z_h0 dX11_lock_1 (fun t_1 p_1 q_1 => ?_)
  refine lv_iload_n hx hb dX11_lock_4 rfl (lv_at hl 1 rfl) ?_
  refine tq_callVpi (As := [.int x1]) (rest := []) hC (c_X3_hasLock l X Z _ t_1 p_1 x1) k_X3_hasLock ql_RX11_165 rfl (by decide) hS p_1 rfl hl.1 rfl (Nat.le_of_ble_eq_true rfl) ⟨Nat.zero_le _, Nat.zero_le _⟩ dX11_lock_5 (fun t_5 p_5 => ?_)
  refine lv_if_ne (tgt := 13) hx hb dX11_lock_8 (by decide) (fun c_8 => ?_) (fun c_8 => ?_)
  · skip
    have i1_t_5 : tq_iv 1 1 t_5 := tq_w (tq_neLo c_8 p_5 (⟨by decide, by decide⟩ : tq_iv 0 0 0)) (by decide) (by decide)
    refine lv_iload_n hx hb dX11_lock_13 rfl (lv_at hl 2 rfl) ?_
    by_cases s_14_0 : Int32.toInt x2 = 0
    · refine lv_tableIn (tgt := 44) hx hb dX11_lock_14 (by omega) (by omega) (by first | (rw [s_14_0]; done) | (rw [s_14_0]; rfl)) (by decide) ?_
      have i2_x2 : tq_iv 0 0 x2 := ⟨by omega, by omega⟩
      refine lv_aload_n hx hb dX11_lock_44 rfl (lv_at hl 0 rfl) ?_
      refine gf_RX11_41 hC hS z_h0 dX11_lock_45 (fun t_45 p_45 q_45 => ?_)
      refine lv_iload_n hx hb dX11_lock_48 rfl (lv_at hl 1 rfl) ?_
      refine tq_callVpi (As := [.int x1]) (rest := []) hC (c_X7_pins l X Z _ t_45 p_45 x1) k_X7_pins ql_RX11_168 rfl (by decide) hS p_45 rfl hl.1 rfl (Nat.le_of_ble_eq_true rfl) ⟨Nat.zero_le _, Nat.zero_le _⟩ dX11_lock_49 (fun t_49 p_49 => ?_)
      refine tq_callSpi (As := [.int t_49]) (rest := []) hC (c_J6_bitCount_0f7a4 l X Z _ t_49) k_J6_bitCount_0f7a4 ql_RX11_171 rfl (by decide) hS hl.1 rfl (Nat.le_of_ble_eq_true rfl) ⟨Nat.zero_le _, Nat.zero_le _⟩ dX11_lock_52 (fun t_52 p_52 => ?_)
      exact hret t_52 _ _ rfl ⟨_, rfl, tq_w p_52 (by decide) (by decide)⟩ dX11_lock_55
    by_cases s_14_1 : Int32.toInt x2 = 1
    · refine lv_tableIn (tgt := 56) hx hb dX11_lock_14 (by omega) (by omega) (by first | (rw [s_14_1]; done) | (rw [s_14_1]; rfl)) (by decide) ?_
      have i3_x2 : tq_iv 1 1 x2 := ⟨by omega, by omega⟩
      refine lv_aload_n hx hb dX11_lock_56 rfl (lv_at hl 0 rfl) ?_
      refine gf_RX11_79 hC hS z_h0 dX11_lock_57 (fun t_57 p_57 q_57 => ?_)
      refine lv_iload_n hx hb dX11_lock_60 rfl (lv_at hl 1 rfl) ?_
      refine tq_callVpi (As := [.int x1]) (rest := []) hC (c_X2_keysFor l X Z _ t_57 p_57 x1) k_X2_keysFor ql_RX11_176 rfl (by decide) hS p_57 rfl hl.1 rfl (Nat.le_of_ble_eq_true rfl) ⟨Nat.zero_le _, Nat.zero_le _⟩ dX11_lock_61 (fun t_61 p_61 => ?_)
      exact hret t_61 _ _ rfl ⟨_, rfl, tq_w (tq_top t_61) (by decide) (by decide)⟩ dX11_lock_64
    by_cases s_14_2 : Int32.toInt x2 = 2
    · refine lv_tableIn (tgt := 65) hx hb dX11_lock_14 (by omega) (by omega) (by first | (rw [s_14_2]; done) | (rw [s_14_2]; rfl)) (by decide) ?_
      have i4_x2 : tq_iv 2 2 x2 := ⟨by omega, by omega⟩
      refine lv_aload_n hx hb dX11_lock_65 rfl (lv_at hl 0 rfl) ?_
      refine gf_RX11_29 hC hS z_h0 dX11_lock_66 (fun t_66 p_66 q_66 => ?_)
      refine lv_iload_n hx hb dX11_lock_69 rfl (lv_at hl 1 rfl) ?_
      refine tq_callVpi (As := [.int x1]) (rest := []) hC (c_X3_mustOf l X Z _ t_66 p_66 x1) k_X3_mustOf ql_RX11_179 rfl (by decide) hS p_66 rfl hl.1 rfl (Nat.le_of_ble_eq_true rfl) ⟨Nat.zero_le _, Nat.zero_le _⟩ dX11_lock_70 (fun t_70 p_70 => ?_)
      exact hret t_70 _ _ rfl ⟨_, rfl, tq_w (tq_top t_70) (by decide) (by decide)⟩ dX11_lock_73
    by_cases s_14_3 : Int32.toInt x2 = 3
    · refine lv_tableIn (tgt := 74) hx hb dX11_lock_14 (by omega) (by omega) (by first | (rw [s_14_3]; done) | (rw [s_14_3]; rfl)) (by decide) ?_
      have i5_x2 : tq_iv 3 3 x2 := ⟨by omega, by omega⟩
      refine lv_aload_n hx hb dX11_lock_74 rfl (lv_at hl 0 rfl) ?_
      refine gf_RX11_29 hC hS z_h0 dX11_lock_75 (fun t_75 p_75 q_75 => ?_)
      refine lv_iload_n hx hb dX11_lock_78 rfl (lv_at hl 1 rfl) ?_
      refine tq_callVpi (As := [.int x1]) (rest := []) hC (c_X3_neverOf l X Z _ t_75 p_75 x1) k_X3_neverOf ql_RX11_182 rfl (by decide) hS p_75 rfl hl.1 rfl (Nat.le_of_ble_eq_true rfl) ⟨Nat.zero_le _, Nat.zero_le _⟩ dX11_lock_79 (fun t_79 p_79 => ?_)
      exact hret t_79 _ _ rfl ⟨_, rfl, tq_w (tq_top t_79) (by decide) (by decide)⟩ dX11_lock_82
    refine lv_tableOut (tgt := 83) hx hb dX11_lock_14 (by omega) (by decide) ?_
    refine lv_iconst (v := -1) hx hb dX11_lock_83 (by decide) ?_
    exact hret (-1) _ _ rfl ⟨_, rfl, tq_w (⟨by decide, by decide⟩ : tq_iv (-1) (-1) (-1)) (by decide) (by decide)⟩ dX11_lock_84
  · skip
    have i6_t_5 : tq_iv 0 0 t_5 := tq_cut p_5 (tq_eqL c_8 (⟨by decide, by decide⟩ : tq_iv 0 0 0)) (by decide) (by decide)
    refine lv_iconst (v := -1) hx hb dX11_lock_11 (by decide) ?_
    exact hret (-1) _ _ rfl ⟨_, rfl, tq_w (⟨by decide, by decide⟩ : tq_iv (-1) (-1) (-1)) (by decide) (by decide)⟩ dX11_lock_12
set_option maxHeartbeats 4000000 in
set_option maxRecDepth 100000 in
theorem c_X11_parts (l : Launch) (X : tq_X) (Z : tq_Z) (f : Nat → va_E) (h0 : Nat) (z_h0 : tq_z Z h0 (.inl 11)) (x1 : Int32) (x2 : Int32) : tq_Mp l X Z f yX11_parts cX11_parts 3 (some .int) 2 [.ref h0, .int x1, .int x2] (tq_ri (-1) 63) := by
  refine tq_startip (by decide) (Nat.le_of_ble_eq_true rfl) (fun p e R s m args below meth c Q hC hret hS ls hl => ?_)
  have hC : tq_C p R s m args c X (tq_A Z) RX11 cX11_parts 3 2 := hC
  have hx := hC.1.1
  have hb := hC.1.2.1
  have hown := hC.1.2.2.2.1
  have hts := hC.1.2.2.2.2
  have hl : lv_has ls 3 [(0, .ref h0), (1, .int x1), (2, .int x2)] := hl
  refine lv_aload_n hx hb dX11_parts_0 rfl (lv_at hl 0 rfl) ?_
  refine gf_RX11_29 hC hS z_h0 dX11_parts_1 (fun t_1 p_1 q_1 => ?_)
  refine lv_iload_n hx hb dX11_parts_4 rfl (lv_at hl 1 rfl) ?_
  refine tq_callVpi (As := [.int x1]) (rest := []) hC (c_X3_hasLock l X Z _ t_1 p_1 x1) k_X3_hasLock ql_RX11_165 rfl (by decide) hS p_1 rfl hl.1 rfl (Nat.le_of_ble_eq_true rfl) ⟨Nat.zero_le _, Nat.zero_le _⟩ dX11_parts_5 (fun t_5 p_5 => ?_)
  have K_22 : ∀ (ls : Array Slot), lv_has ls 3 [] → W p l e R s m args below meth c s.heap [] 0 0 Q (F0 m 22 ls []) := by
    intro  ls  hl
    refine lv_iconst (v := -1) hx hb dX11_parts_22 (by decide) ?_
    exact hret (-1) _ _ rfl ⟨_, rfl, tq_w (⟨by decide, by decide⟩ : tq_iv (-1) (-1) (-1)) (by decide) (by decide)⟩ dX11_parts_23
  refine lv_if_eq (tgt := 22) hx hb dX11_parts_8 (by decide) (fun c_8 => ?_) (fun c_8 => ?_)
  · skip
    have i1_t_5 : tq_iv 0 0 t_5 := tq_cut p_5 (tq_eqL c_8 (⟨by decide, by decide⟩ : tq_iv 0 0 0)) (by decide) (by decide)
    exact K_22 _ (lv_sub hl [] rfl)
  · skip
    have i2_t_5 : tq_iv 1 1 t_5 := tq_w (tq_neLo c_8 p_5 (⟨by decide, by decide⟩ : tq_iv 0 0 0)) (by decide) (by decide)
    refine lv_aload_n hx hb dX11_parts_11 rfl (lv_at hl 0 rfl) ?_
    refine gf_RX11_37 hC hS z_h0 dX11_parts_12 (fun t_12 p_12 q_12 => ?_)
    refine lv_iload_n hx hb dX11_parts_15 rfl (lv_at hl 2 rfl) ?_
    refine tq_callVpi (As := [.int x2]) (rest := []) hC (c_X6_hasChamber l X Z _ t_12 p_12 x2) k_X6_hasChamber ql_RX11_158 rfl (by decide) hS p_12 rfl hl.1 rfl (Nat.le_of_ble_eq_true rfl) ⟨Nat.zero_le _, Nat.zero_le _⟩ dX11_parts_16 (fun t_16 p_16 => ?_)
    refine lv_if_ne (tgt := 24) hx hb dX11_parts_19 (by decide) (fun c_19 => ?_) (fun c_19 => ?_)
    · skip
      have i3_t_16 : tq_iv 1 1 t_16 := tq_w (tq_neLo c_19 p_16 (⟨by decide, by decide⟩ : tq_iv 0 0 0)) (by decide) (by decide)
      refine lv_aload_n hx hb dX11_parts_24 rfl (lv_at hl 0 rfl) ?_
      refine gf_RX11_41 hC hS z_h0 dX11_parts_25 (fun t_25 p_25 q_25 => ?_)
      refine lv_iload_n hx hb dX11_parts_28 rfl (lv_at hl 1 rfl) ?_
      refine tq_callVpi (As := [.int x1]) (rest := []) hC (c_X7_pins l X Z _ t_25 p_25 x1) k_X7_pins ql_RX11_168 rfl (by decide) hS p_25 rfl hl.1 rfl (Nat.le_of_ble_eq_true rfl) ⟨Nat.zero_le _, Nat.zero_le _⟩ dX11_parts_29 (fun t_29 p_29 => ?_)
      refine lv_iload_n hx hb dX11_parts_32 rfl (lv_at hl 2 rfl) ?_
      refine tq_callSpi (As := [.int t_29, .int x2]) (rest := []) hC (c_X6_depthsAt l X Z _ t_29 x2) k_X6_depthsAt ql_RX11_185 rfl (by decide) hS hl.1 rfl (Nat.le_of_ble_eq_true rfl) ⟨Nat.zero_le _, Nat.zero_le _⟩ dX11_parts_33 (fun t_33 p_33 => ?_)
      exact hret t_33 _ _ rfl ⟨_, rfl, tq_w p_33 (by decide) (by decide)⟩ dX11_parts_36
    · skip
      have i4_t_16 : tq_iv 0 0 t_16 := tq_cut p_16 (tq_eqL c_19 (⟨by decide, by decide⟩ : tq_iv 0 0 0)) (by decide) (by decide)
      exact K_22 _ (lv_sub hl [] rfl)
set_option maxHeartbeats 4000000 in
set_option maxRecDepth 100000 in
theorem c_X3_look_1_8 (l : Launch) (X : tq_X) (Z : tq_Z) (f : Nat → va_E) (h0 : Nat) (z_h0 : tq_z Z h0 (.inr (.inl (1, 8)))) (x1 : Int32) : tq_Mp l X Z f yX3_look cX3_look 2 (some .int) 0 [.ref h0, .int x1] (tq_ri (-2147483648) 2147483647) := by
  refine tq_startip (by decide) (Nat.le_of_ble_eq_true rfl) (fun p e R s m args below meth c Q hC hret hS ls hl => ?_)
  have hC : tq_C p R s m args c X (tq_A Z) RX3 cX3_look 2 0 := hC
  have hx := hC.1.1
  have hb := hC.1.2.1
  have hown := hC.1.2.2.2.1
  have hts := hC.1.2.2.2.2
  have hl : lv_has ls 2 [(0, .ref h0), (1, .int x1)] := hl
  refine lv_iload_n hx hb dX3_look_0 rfl (lv_at hl 1 rfl) ?_
  have K_17 : ∀ (y0_17 : Int32) (ls : Array Slot), lv_has ls 2 [] → W p l e R s m args below meth c s.heap [] 0 0 Q (F0 m 17 ls [.int y0_17]) := by
    intro y0_17 ls  hl
    exact hret y0_17 _ _ rfl ⟨_, rfl, tq_w (tq_top y0_17) (by decide) (by decide)⟩ dX3_look_17
  have K_16 : ∀ (ls : Array Slot), lv_has ls 2 [] → W p l e R s m args below meth c s.heap [] 0 0 Q (F0 m 16 ls []) := by
    intro  ls  hl
    refine lv_iconst (v := 0) hx hb dX3_look_16 (by decide) ?_
    exact K_17 0 _ (lv_sub hl [] rfl)
  refine lv_if_lt (tgt := 16) hx hb dX3_look_1 (by decide) (fun c_1 => ?_) (fun c_1 => ?_)
  · skip
    have i1_x1 : tq_iv (-2147483648) (-1) x1 := tq_cut (tq_top x1) (tq_ltL c_1 (tq_top x1) (⟨by decide, by decide⟩ : tq_iv 0 0 0)) (by decide) (by decide)
    exact K_16 _ (lv_sub hl [] rfl)
  · skip
    have i2_x1 : tq_iv 0 2147483647 x1 := tq_cut (tq_top x1) (tq_leR (tq_nlt c_1) (⟨by decide, by decide⟩ : tq_iv 0 0 0) (tq_top x1)) (by decide) (by decide)
    refine lv_iload_n hx hb dX3_look_4 rfl (lv_at hl 1 rfl) ?_
    refine lv_aload_n hx hb dX3_look_5 rfl (lv_at hl 0 rfl) ?_
    refine tq_alenA hC hS z_h0 rfl (v := 8) (by decide) dX3_look_6 ?_
    refine lv_icmp_ge (tgt := 16) hx hb dX3_look_7 (by decide) (fun c_7 => ?_) (fun c_7 => ?_)
    · skip
      have i3_x1 : tq_iv 8 2147483647 x1 := tq_cut i2_x1 (tq_leR c_7 (⟨by decide, by decide⟩ : tq_iv 8 8 8) i2_x1) (by decide) (by decide)
      exact K_16 _ (lv_sub hl [] rfl)
    · skip
      have i4_x1 : tq_iv 0 7 x1 := tq_cut i2_x1 (tq_ltL (tq_nle c_7) i2_x1 (⟨by decide, by decide⟩ : tq_iv 8 8 8)) (by decide) (by decide)
      refine lv_aload_n hx hb dX3_look_10 rfl (lv_at hl 0 rfl) ?_
      refine lv_iload_n hx hb dX3_look_11 rfl (lv_at hl 1 rfl) ?_
      refine tq_iald hC hS z_h0 rfl (tq_vin i4_x1 (by decide) (by decide)) dX3_look_12 (fun t_12 p_12 => ?_)
      refine lv_goto (tgt := 17) hx hb dX3_look_13 (by decide) ?_
      exact K_17 t_12 _ (lv_sub hl [] rfl)
set_option maxHeartbeats 4000000 in
set_option maxRecDepth 100000 in
theorem c_X3_doorFrom (l : Launch) (X : tq_X) (Z : tq_Z) (f : Nat → va_E) (h0 : Nat) (z_h0 : tq_z Z h0 (.inl 3)) (x1 : Int32) : tq_Mp l X Z f yX3_doorFrom cX3_doorFrom 2 (some .int) 1 [.ref h0, .int x1] (tq_ri (-2147483648) 2147483647) := by
  refine tq_startip (by decide) (Nat.le_of_ble_eq_true rfl) (fun p e R s m args below meth c Q hC hret hS ls hl => ?_)
  have hC : tq_C p R s m args c X (tq_A Z) RX3 cX3_doorFrom 2 1 := hC
  have hx := hC.1.1
  have hb := hC.1.2.1
  have hown := hC.1.2.2.2.1
  have hts := hC.1.2.2.2.2
  have hl : lv_has ls 2 [(0, .ref h0), (1, .int x1)] := hl
  refine lv_aload_n hx hb dX3_doorFrom_0 rfl (lv_at hl 0 rfl) ?_
  refine gf_RX3_32 hC hS z_h0 dX3_doorFrom_1 (fun t_1 p_1 q_1 => ?_)
  refine lv_iload_n hx hb dX3_doorFrom_4 rfl (lv_at hl 1 rfl) ?_
  refine tq_callSpi (As := [.ref t_1, .int x1]) (rest := []) hC (c_X3_look_1_8 l X Z _ t_1 p_1 x1) k_X3_look ql_RX3_100 rfl (by decide) hS hl.1 rfl (Nat.le_of_ble_eq_true rfl) ⟨Nat.zero_le _, Nat.zero_le _⟩ dX3_doorFrom_5 (fun t_5 p_5 => ?_)
  exact hret t_5 _ _ rfl ⟨_, rfl, tq_w (tq_top t_5) (by decide) (by decide)⟩ dX3_doorFrom_8
set_option maxHeartbeats 4000000 in
set_option maxRecDepth 100000 in
theorem c_X3_doorLock (l : Launch) (X : tq_X) (Z : tq_Z) (f : Nat → va_E) (h0 : Nat) (z_h0 : tq_z Z h0 (.inl 3)) (x1 : Int32) : tq_Mp l X Z f yX3_doorLock cX3_doorLock 2 (some .int) 1 [.ref h0, .int x1] (tq_ri (-2147483648) 2147483647) := by
  refine tq_startip (by decide) (Nat.le_of_ble_eq_true rfl) (fun p e R s m args below meth c Q hC hret hS ls hl => ?_)
  have hC : tq_C p R s m args c X (tq_A Z) RX3 cX3_doorLock 2 1 := hC
  have hx := hC.1.1
  have hb := hC.1.2.1
  have hown := hC.1.2.2.2.1
  have hts := hC.1.2.2.2.2
  have hl : lv_has ls 2 [(0, .ref h0), (1, .int x1)] := hl
  refine lv_aload_n hx hb dX3_doorLock_0 rfl (lv_at hl 0 rfl) ?_
  refine gf_RX3_39 hC hS z_h0 dX3_doorLock_1 (fun t_1 p_1 q_1 => ?_)
  refine lv_iload_n hx hb dX3_doorLock_4 rfl (lv_at hl 1 rfl) ?_
  refine tq_callSpi (As := [.ref t_1, .int x1]) (rest := []) hC (c_X3_look_1_8 l X Z _ t_1 p_1 x1) k_X3_look ql_RX3_100 rfl (by decide) hS hl.1 rfl (Nat.le_of_ble_eq_true rfl) ⟨Nat.zero_le _, Nat.zero_le _⟩ dX3_doorLock_5 (fun t_5 p_5 => ?_)
  exact hret t_5 _ _ rfl ⟨_, rfl, tq_w (tq_top t_5) (by decide) (by decide)⟩ dX3_doorLock_8
set_option maxHeartbeats 4000000 in
set_option maxRecDepth 100000 in
theorem c_X3_doorTo (l : Launch) (X : tq_X) (Z : tq_Z) (f : Nat → va_E) (h0 : Nat) (z_h0 : tq_z Z h0 (.inl 3)) (x1 : Int32) : tq_Mp l X Z f yX3_doorTo cX3_doorTo 2 (some .int) 1 [.ref h0, .int x1] (tq_ri (-2147483648) 2147483647) := by
  refine tq_startip (by decide) (Nat.le_of_ble_eq_true rfl) (fun p e R s m args below meth c Q hC hret hS ls hl => ?_)
  have hC : tq_C p R s m args c X (tq_A Z) RX3 cX3_doorTo 2 1 := hC
  have hx := hC.1.1
  have hb := hC.1.2.1
  have hown := hC.1.2.2.2.1
  have hts := hC.1.2.2.2.2
  have hl : lv_has ls 2 [(0, .ref h0), (1, .int x1)] := hl
  refine lv_aload_n hx hb dX3_doorTo_0 rfl (lv_at hl 0 rfl) ?_
  refine gf_RX3_36 hC hS z_h0 dX3_doorTo_1 (fun t_1 p_1 q_1 => ?_)
  refine lv_iload_n hx hb dX3_doorTo_4 rfl (lv_at hl 1 rfl) ?_
  refine tq_callSpi (As := [.ref t_1, .int x1]) (rest := []) hC (c_X3_look_1_8 l X Z _ t_1 p_1 x1) k_X3_look ql_RX3_100 rfl (by decide) hS hl.1 rfl (Nat.le_of_ble_eq_true rfl) ⟨Nat.zero_le _, Nat.zero_le _⟩ dX3_doorTo_5 (fun t_5 p_5 => ?_)
  exact hret t_5 _ _ rfl ⟨_, rfl, tq_w (tq_top t_5) (by decide) (by decide)⟩ dX3_doorTo_8
set_option maxHeartbeats 4000000 in
set_option maxRecDepth 100000 in
theorem c_X3_hasDoor (l : Launch) (X : tq_X) (Z : tq_Z) (f : Nat → va_E) (h0 : Nat) (z_h0 : tq_z Z h0 (.inl 3)) (x1 : Int32) : tq_Mp l X Z f yX3_hasDoor cX3_hasDoor 2 (some .boolean) 0 [.ref h0, .int x1] (tq_ri 0 1) := by
  refine tq_startip (by decide) (Nat.le_of_ble_eq_true rfl) (fun p e R s m args below meth c Q hC hret hS ls hl => ?_)
  have hC : tq_C p R s m args c X (tq_A Z) RX3 cX3_hasDoor 2 0 := hC
  have hx := hC.1.1
  have hb := hC.1.2.1
  have hown := hC.1.2.2.2.1
  have hts := hC.1.2.2.2.2
  have hl : lv_has ls 2 [(0, .ref h0), (1, .int x1)] := hl
  refine lv_iload_n hx hb dX3_hasDoor_0 rfl (lv_at hl 1 rfl) ?_
  have K_17 : ∀ (y0_17 : Int32) (ls : Array Slot), tq_iv 0 1 y0_17 → lv_has ls 2 [] → W p l e R s m args below meth c s.heap [] 0 0 Q (F0 m 17 ls [.int y0_17]) := by
    intro y0_17 ls  i1_y0_17 hl
    exact hret y0_17 _ _ (tq_nb i1_y0_17 (by decide) (by decide)) ⟨_, rfl, tq_w i1_y0_17 (by decide) (by decide)⟩ dX3_hasDoor_17
  have K_16 : ∀ (ls : Array Slot), lv_has ls 2 [] → W p l e R s m args below meth c s.heap [] 0 0 Q (F0 m 16 ls []) := by
    intro  ls  hl
    refine lv_iconst (v := 0) hx hb dX3_hasDoor_16 (by decide) ?_
    exact K_17 0 _ (tq_w (⟨by decide, by decide⟩ : tq_iv 0 0 0) (by decide) (by decide)) (lv_sub hl [] rfl)
  refine lv_if_lt (tgt := 16) hx hb dX3_hasDoor_1 (by decide) (fun c_1 => ?_) (fun c_1 => ?_)
  · skip
    have i2_x1 : tq_iv (-2147483648) (-1) x1 := tq_cut (tq_top x1) (tq_ltL c_1 (tq_top x1) (⟨by decide, by decide⟩ : tq_iv 0 0 0)) (by decide) (by decide)
    exact K_16 _ (lv_sub hl [] rfl)
  · skip
    have i3_x1 : tq_iv 0 2147483647 x1 := tq_cut (tq_top x1) (tq_leR (tq_nlt c_1) (⟨by decide, by decide⟩ : tq_iv 0 0 0) (tq_top x1)) (by decide) (by decide)
    refine lv_iload_n hx hb dX3_hasDoor_4 rfl (lv_at hl 1 rfl) ?_
    refine lv_aload_n hx hb dX3_hasDoor_5 rfl (lv_at hl 0 rfl) ?_
    refine gf_RX3_65 hC hS z_h0 dX3_hasDoor_6 (fun t_6 p_6 q_6 => ?_)
    refine lv_icmp_ge (tgt := 16) hx hb dX3_hasDoor_9 (by decide) (fun c_9 => ?_) (fun c_9 => ?_)
    · skip
      exact K_16 _ (lv_sub hl [] rfl)
    · skip
      have i4_x1 : tq_iv 0 2147483646 x1 := tq_cut i3_x1 (tq_ltL (tq_nle c_9) i3_x1 (tq_top t_6)) (by decide) (by decide)
      have i5_t_6 : tq_iv 1 2147483647 t_6 := tq_cut (tq_top t_6) (tq_ltR (tq_nle c_9) i3_x1 (tq_top t_6)) (by decide) (by decide)
      refine lv_iconst (v := 1) hx hb dX3_hasDoor_12 (by decide) ?_
      refine lv_goto (tgt := 17) hx hb dX3_hasDoor_13 (by decide) ?_
      exact K_17 1 _ (tq_w (⟨by decide, by decide⟩ : tq_iv 1 1 1) (by decide) (by decide)) (lv_sub hl [] rfl)
set_option maxHeartbeats 4000000 in
set_option maxRecDepth 100000 in
theorem c_X11_door (l : Launch) (X : tq_X) (Z : tq_Z) (f : Nat → va_E) (h0 : Nat) (z_h0 : tq_z Z h0 (.inl 11)) (x1 : Int32) (x2 : Int32) : tq_Mp l X Z f yX11_door cX11_door 3 (some .int) 2 [.ref h0, .int x1, .int x2] (tq_ri (-2147483648) 2147483647) := by
  refine tq_startip (by decide) (Nat.le_of_ble_eq_true rfl) (fun p e R s m args below meth c Q hC hret hS ls hl => ?_)
  have hC : tq_C p R s m args c X (tq_A Z) RX11 cX11_door 3 2 := hC
  have hx := hC.1.1
  have hb := hC.1.2.1
  have hown := hC.1.2.2.2.1
  have hts := hC.1.2.2.2.2
  have hl : lv_has ls 3 [(0, .ref h0), (1, .int x1), (2, .int x2)] := hl
  refine lv_aload_n hx hb dX11_door_0 rfl (lv_at hl 0 rfl) ?_
  refine gf_RX11_29 hC hS z_h0 dX11_door_1 (fun t_1 p_1 q_1 => ?_)
  refine lv_iload_n hx hb dX11_door_4 rfl (lv_at hl 1 rfl) ?_
  refine tq_callVpi (As := [.int x1]) (rest := []) hC (c_X3_hasDoor l X Z _ t_1 p_1 x1) k_X3_hasDoor ql_RX11_188 rfl (by decide) hS p_1 rfl hl.1 rfl (Nat.le_of_ble_eq_true rfl) ⟨Nat.zero_le _, Nat.zero_le _⟩ dX11_door_5 (fun t_5 p_5 => ?_)
  refine lv_if_ne (tgt := 13) hx hb dX11_door_8 (by decide) (fun c_8 => ?_) (fun c_8 => ?_)
  · skip
    have i1_t_5 : tq_iv 1 1 t_5 := tq_w (tq_neLo c_8 p_5 (⟨by decide, by decide⟩ : tq_iv 0 0 0)) (by decide) (by decide)
    refine lv_iload_n hx hb dX11_door_13 rfl (lv_at hl 2 rfl) ?_
    by_cases s_14_0 : Int32.toInt x2 = 0
    · refine lv_tableIn (tgt := 40) hx hb dX11_door_14 (by omega) (by omega) (by first | (rw [s_14_0]; done) | (rw [s_14_0]; rfl)) (by decide) ?_
      have i2_x2 : tq_iv 0 0 x2 := ⟨by omega, by omega⟩
      refine lv_aload_n hx hb dX11_door_40 rfl (lv_at hl 0 rfl) ?_
      refine gf_RX11_29 hC hS z_h0 dX11_door_41 (fun t_41 p_41 q_41 => ?_)
      refine lv_iload_n hx hb dX11_door_44 rfl (lv_at hl 1 rfl) ?_
      refine tq_callVpi (As := [.int x1]) (rest := []) hC (c_X3_doorFrom l X Z _ t_41 p_41 x1) k_X3_doorFrom ql_RX11_191 rfl (by decide) hS p_41 rfl hl.1 rfl (Nat.le_of_ble_eq_true rfl) ⟨Nat.zero_le _, Nat.zero_le _⟩ dX11_door_45 (fun t_45 p_45 => ?_)
      exact hret t_45 _ _ rfl ⟨_, rfl, tq_w (tq_top t_45) (by decide) (by decide)⟩ dX11_door_48
    by_cases s_14_1 : Int32.toInt x2 = 1
    · refine lv_tableIn (tgt := 49) hx hb dX11_door_14 (by omega) (by omega) (by first | (rw [s_14_1]; done) | (rw [s_14_1]; rfl)) (by decide) ?_
      have i3_x2 : tq_iv 1 1 x2 := ⟨by omega, by omega⟩
      refine lv_aload_n hx hb dX11_door_49 rfl (lv_at hl 0 rfl) ?_
      refine gf_RX11_29 hC hS z_h0 dX11_door_50 (fun t_50 p_50 q_50 => ?_)
      refine lv_iload_n hx hb dX11_door_53 rfl (lv_at hl 1 rfl) ?_
      refine tq_callVpi (As := [.int x1]) (rest := []) hC (c_X3_doorTo l X Z _ t_50 p_50 x1) k_X3_doorTo ql_RX11_194 rfl (by decide) hS p_50 rfl hl.1 rfl (Nat.le_of_ble_eq_true rfl) ⟨Nat.zero_le _, Nat.zero_le _⟩ dX11_door_54 (fun t_54 p_54 => ?_)
      exact hret t_54 _ _ rfl ⟨_, rfl, tq_w (tq_top t_54) (by decide) (by decide)⟩ dX11_door_57
    by_cases s_14_2 : Int32.toInt x2 = 2
    · refine lv_tableIn (tgt := 58) hx hb dX11_door_14 (by omega) (by omega) (by first | (rw [s_14_2]; done) | (rw [s_14_2]; rfl)) (by decide) ?_
      have i4_x2 : tq_iv 2 2 x2 := ⟨by omega, by omega⟩
      refine lv_aload_n hx hb dX11_door_58 rfl (lv_at hl 0 rfl) ?_
      refine gf_RX11_29 hC hS z_h0 dX11_door_59 (fun t_59 p_59 q_59 => ?_)
      refine lv_iload_n hx hb dX11_door_62 rfl (lv_at hl 1 rfl) ?_
      refine tq_callVpi (As := [.int x1]) (rest := []) hC (c_X3_doorLock l X Z _ t_59 p_59 x1) k_X3_doorLock ql_RX11_197 rfl (by decide) hS p_59 rfl hl.1 rfl (Nat.le_of_ble_eq_true rfl) ⟨Nat.zero_le _, Nat.zero_le _⟩ dX11_door_63 (fun t_63 p_63 => ?_)
      exact hret t_63 _ _ rfl ⟨_, rfl, tq_w (tq_top t_63) (by decide) (by decide)⟩ dX11_door_66
    refine lv_tableOut (tgt := 67) hx hb dX11_door_14 (by omega) (by decide) ?_
    refine lv_iconst (v := -1) hx hb dX11_door_67 (by decide) ?_
    exact hret (-1) _ _ rfl ⟨_, rfl, tq_w (⟨by decide, by decide⟩ : tq_iv (-1) (-1) (-1)) (by decide) (by decide)⟩ dX11_door_68
  · skip
    have i5_t_5 : tq_iv 0 0 t_5 := tq_cut p_5 (tq_eqL c_8 (⟨by decide, by decide⟩ : tq_iv 0 0 0)) (by decide) (by decide)
    refine lv_iconst (v := -1) hx hb dX11_door_11 (by decide) ?_
    exact hret (-1) _ _ rfl ⟨_, rfl, tq_w (⟨by decide, by decide⟩ : tq_iv (-1) (-1) (-1)) (by decide) (by decide)⟩ dX11_door_12
set_option maxHeartbeats 4000000 in
set_option maxRecDepth 100000 in
theorem c_X2_flood (l : Launch) (X : tq_X) (Z : tq_Z) (f : Nat → va_E) (h0 : Nat) (z_h0 : tq_z Z h0 (.inl 2)) (x1 : Int32) (x2 : Int32) : tq_Mp l X Z f yX2_flood cX2_flood 7 (some .int) 2 [.ref h0, .int x1, .int x2] (tq_ri (-2147483648) 2147483647) := by
  refine tq_startip (by decide) (Nat.le_of_ble_eq_true rfl) (fun p e R s m args below meth c Q hC hret hS ls hl => ?_)
  have hC : tq_C p R s m args c X (tq_A Z) RX2 cX2_flood 7 2 := hC
  have hx := hC.1.1
  have hb := hC.1.2.1
  have hown := hC.1.2.2.2.1
  have hts := hC.1.2.2.2.2
  have hl : lv_has ls 7 [(0, .ref h0), (1, .int x1), (2, .int x2)] := hl
  refine lv_iconst (v := 1) hx hb dX2_flood_0 (by decide) ?_
  refine lv_iload_n hx hb dX2_flood_1 rfl (lv_at hl 1 rfl) ?_
  refine lv_ishl hx hb dX2_flood_2 ?_
  refine lv_topi (fun t_2 e_2 => ?_)
  refine lv_istore_n (lv' := [(3, .int t_2), (0, .ref h0), (1, .int x1), (2, .int x2)]) hx hb dX2_flood_3 rfl hl (by decide) rfl (fun ls hl => ?_)
  refine lv_iconst (v := 0) hx hb dX2_flood_4 (by decide) ?_
  refine lv_istore (lv' := [(4, .int 0), (3, .int t_2), (0, .ref h0), (1, .int x1), (2, .int x2)]) hx hb dX2_flood_5 hl (by decide) rfl (fun ls hl => ?_)
  have K_7 : ∀ (n_7 : Nat) (x4_7 : Int32) (x3_7 : Int32) (ls : Array Slot), tq_iv 0 6 x4_7 → (2147483647 - x4_7.toInt).toNat < n_7 → lv_has ls 7 [(4, .int x4_7), (3, .int x3_7), (0, .ref h0), (2, .int x2)] → W p l e R s m args below meth c s.heap [] 0 0 Q (F0 m 7 ls []) := by
    intro n_7
    induction n_7 with
    | zero => intro x4_7 x3_7 ls  i1_x4_7 hn_7; exact absurd hn_7 (Nat.not_lt_zero _)
    | succ n_7 ih_7 =>
      intro x4_7 x3_7 ls  i1_x4_7 hn_7 hl
      refine lv_iload hx hb dX2_flood_7 (lv_at hl 0 rfl) ?_
      refine lv_bipush (v := 6) hx hb dX2_flood_9 (by decide) ?_
      refine lv_icmp_ge (tgt := 94) hx hb dX2_flood_11 (by decide) (fun c_11 => ?_) (fun c_11 => ?_)
      · skip
        have i2_x4_7 : tq_iv 6 6 x4_7 := tq_cut i1_x4_7 (tq_leR c_11 (⟨by decide, by decide⟩ : tq_iv 6 6 6) i1_x4_7) (by decide) (by decide)
        refine lv_iload_n hx hb dX2_flood_94 rfl (lv_at hl 1 rfl) ?_
        exact hret x3_7 _ _ rfl ⟨_, rfl, tq_w (tq_top x3_7) (by decide) (by decide)⟩ dX2_flood_95
      · skip
        have i3_x4_7 : tq_iv 0 5 x4_7 := tq_cut i1_x4_7 (tq_ltL (tq_nle c_11) i1_x4_7 (⟨by decide, by decide⟩ : tq_iv 6 6 6)) (by decide) (by decide)
        refine lv_iconst (v := 0) hx hb dX2_flood_14 (by decide) ?_
        refine lv_istore (lv' := [(5, .int 0), (4, .int x4_7), (3, .int x3_7), (0, .ref h0), (2, .int x2)]) hx hb dX2_flood_15 hl (by decide) rfl (fun ls hl => ?_)
        have K_17 : ∀ (n_17 : Nat) (x5_17 : Int32) (x3_17 : Int32) (ls : Array Slot), tq_iv 0 2147483647 x5_17 → (2147483647 - x5_17.toInt).toNat < n_17 → lv_has ls 7 [(5, .int x5_17), (4, .int x4_7), (3, .int x3_17), (0, .ref h0), (2, .int x2)] → W p l e R s m args below meth c s.heap [] 0 0 Q (F0 m 17 ls []) := by
          intro n_17
          induction n_17 with
          | zero => intro x5_17 x3_17 ls  i4_x5_17 hn_17; exact absurd hn_17 (Nat.not_lt_zero _)
          | succ n_17 ih_17 =>
            intro x5_17 x3_17 ls  i4_x5_17 hn_17 hl
            refine lv_iload hx hb dX2_flood_17 (lv_at hl 0 rfl) ?_
            refine lv_aload_n hx hb dX2_flood_19 rfl (lv_at hl 3 rfl) ?_
            refine gf_RX2_9 hC hS z_h0 dX2_flood_20 (fun t_20 p_20 q_20 => ?_)
            refine gf_RX2_56 hC hS p_20 dX2_flood_23 (fun t_23 p_23 q_23 => ?_)
            refine lv_icmp_ge (tgt := 88) hx hb dX2_flood_26 (by decide) (fun c_26 => ?_) (fun c_26 => ?_)
            · skip
              obtain ⟨t_88, e_88⟩ : ∃ y : Int32, y = x4_7 + 1 := ⟨_, rfl⟩
              have i5_t_88 : tq_iv 1 6 t_88 := tq_w (tq_add e_88 i3_x4_7 (⟨by decide, by decide⟩ : tq_iv 1 1 1) (by decide) (by decide)) (by decide) (by decide)
              refine lv_iinc (v := t_88) (lv' := [(4, .int t_88), (5, .int x5_17), (3, .int x3_17), (0, .ref h0), (2, .int x2)]) hx hb dX2_flood_88 hl (k := 1) rfl (by rw [e_88]; rfl) (by decide) rfl (fun ls hl => ?_)
              refine lv_goto (tgt := 7) hx hb dX2_flood_91 (by decide) ?_
              exact ih_7 t_88 x3_17 _ (tq_w i5_t_88 (by decide) (by decide)) (tq_up e_88 i3_x4_7 (⟨by decide, by decide⟩ : tq_iv 1 1 1) (by decide) (by decide) hn_7) (lv_sub hl [0, 2, 3, 4] rfl)
            · skip
              have i6_x5_17 : tq_iv 0 2147483646 x5_17 := tq_cut i4_x5_17 (tq_ltL (tq_nle c_26) i4_x5_17 (tq_top t_23)) (by decide) (by decide)
              have i7_t_23 : tq_iv 1 2147483647 t_23 := tq_cut (tq_top t_23) (tq_ltR (tq_nle c_26) i4_x5_17 (tq_top t_23)) (by decide) (by decide)
              refine lv_iconst (v := 1) hx hb dX2_flood_29 (by decide) ?_
              refine lv_aload_n hx hb dX2_flood_30 rfl (lv_at hl 3 rfl) ?_
              refine gf_RX2_9 hC hS z_h0 dX2_flood_31 (fun t_31 p_31 q_31 => ?_)
              refine lv_iload hx hb dX2_flood_34 (lv_at hl 0 rfl) ?_
              refine tq_callVpi (As := [.int x5_17]) (rest := [.int 1]) hC (c_X3_doorFrom l X Z _ t_31 p_31 x5_17) k_X3_doorFrom ql_RX2_59 rfl (by decide) hS p_31 rfl hl.1 rfl (Nat.le_of_ble_eq_true rfl) ⟨Nat.zero_le _, Nat.zero_le _⟩ dX2_flood_36 (fun t_36 p_36 => ?_)
              refine lv_ishl hx hb dX2_flood_39 ?_
              refine lv_topi (fun t_39 e_39 => ?_)
              refine lv_iconst (v := 1) hx hb dX2_flood_40 (by decide) ?_
              refine lv_aload_n hx hb dX2_flood_41 rfl (lv_at hl 3 rfl) ?_
              refine gf_RX2_9 hC hS z_h0 dX2_flood_42 (fun t_42 p_42 q_42 => ?_)
              refine lv_iload hx hb dX2_flood_45 (lv_at hl 0 rfl) ?_
              refine tq_callVpi (As := [.int x5_17]) (rest := [.int 1, .int t_39]) hC (c_X3_doorTo l X Z _ t_42 p_42 x5_17) k_X3_doorTo ql_RX2_62 rfl (by decide) hS p_42 rfl hl.1 rfl (Nat.le_of_ble_eq_true rfl) ⟨Nat.zero_le _, Nat.zero_le _⟩ dX2_flood_47 (fun t_47 p_47 => ?_)
              refine lv_ishl hx hb dX2_flood_50 ?_
              refine lv_topi (fun t_50 e_50 => ?_)
              refine lv_ior hx hb dX2_flood_51 ?_
              refine lv_topi (fun t_51 e_51 => ?_)
              refine lv_istore (lv' := [(6, .int t_51), (5, .int x5_17), (4, .int x4_7), (3, .int x3_17), (0, .ref h0), (2, .int x2)]) hx hb dX2_flood_52 hl (by decide) rfl (fun ls hl => ?_)
              refine lv_iload_n hx hb dX2_flood_54 rfl (lv_at hl 5 rfl) ?_
              refine lv_aload_n hx hb dX2_flood_55 rfl (lv_at hl 4 rfl) ?_
              refine gf_RX2_9 hC hS z_h0 dX2_flood_56 (fun t_56 p_56 q_56 => ?_)
              refine lv_iload hx hb dX2_flood_59 (lv_at hl 1 rfl) ?_
              refine tq_callVpi (As := [.int x5_17]) (rest := [.int x2]) hC (c_X3_doorLock l X Z _ t_56 p_56 x5_17) k_X3_doorLock ql_RX2_65 rfl (by decide) hS p_56 rfl hl.1 rfl (Nat.le_of_ble_eq_true rfl) ⟨Nat.zero_le _, Nat.zero_le _⟩ dX2_flood_61 (fun t_61 p_61 => ?_)
              refine lv_ishr hx hb dX2_flood_64 ?_
              refine lv_topi (fun t_64 e_64 => ?_)
              refine lv_iconst (v := 1) hx hb dX2_flood_65 (by decide) ?_
              refine lv_iand hx hb dX2_flood_66 ?_
              refine lv_topi (fun t_66 e_66 => ?_)
              have i8_t_66 : tq_iv 0 1 t_66 := tq_and2 e_66 (⟨by decide, by decide⟩ : tq_iv 1 1 1) (by decide)
              have K_82 : ∀ (x3_82 : Int32) (ls : Array Slot), lv_has ls 7 [(5, .int x5_17), (4, .int x4_7), (3, .int x3_82), (0, .ref h0), (2, .int x2)] → W p l e R s m args below meth c s.heap [] 0 0 Q (F0 m 82 ls []) := by
                intro x3_82 ls  hl
                obtain ⟨t_82, e_82⟩ : ∃ y : Int32, y = x5_17 + 1 := ⟨_, rfl⟩
                have i9_t_82 : tq_iv 1 2147483647 t_82 := tq_w (tq_add e_82 i6_x5_17 (⟨by decide, by decide⟩ : tq_iv 1 1 1) (by decide) (by decide)) (by decide) (by decide)
                refine lv_iinc (v := t_82) (lv' := [(5, .int t_82), (4, .int x4_7), (3, .int x3_82), (0, .ref h0), (2, .int x2)]) hx hb dX2_flood_82 hl (k := 0) rfl (by rw [e_82]; rfl) (by decide) rfl (fun ls hl => ?_)
                refine lv_goto (tgt := 17) hx hb dX2_flood_85 (by decide) ?_
                exact ih_17 t_82 x3_82 _ (tq_w i9_t_82 (by decide) (by decide)) (tq_up e_82 i6_x5_17 (⟨by decide, by decide⟩ : tq_iv 1 1 1) (by decide) (by decide) hn_17) (lv_sub hl [0, 1, 2, 3, 4] rfl)
              refine lv_if_eq (tgt := 82) hx hb dX2_flood_67 (by decide) (fun c_67 => ?_) (fun c_67 => ?_)
              · skip
                have i10_t_66 : tq_iv 0 0 t_66 := tq_cut i8_t_66 (tq_eqL c_67 (⟨by decide, by decide⟩ : tq_iv 0 0 0)) (by decide) (by decide)
                exact K_82 x3_17 _ (lv_sub hl [1, 2, 3, 4, 5] rfl)
              · skip
                have i11_t_66 : tq_iv 1 1 t_66 := tq_w (tq_neLo c_67 i8_t_66 (⟨by decide, by decide⟩ : tq_iv 0 0 0)) (by decide) (by decide)
                refine lv_iload_n hx hb dX2_flood_70 rfl (lv_at hl 3 rfl) ?_
                refine lv_iload hx hb dX2_flood_71 (lv_at hl 0 rfl) ?_
                refine lv_iand hx hb dX2_flood_73 ?_
                refine lv_topi (fun t_73 e_73 => ?_)
                refine lv_if_eq (tgt := 82) hx hb dX2_flood_74 (by decide) (fun c_74 => ?_) (fun c_74 => ?_)
                · skip
                  have i12_t_73 : tq_iv 0 0 t_73 := tq_cut (tq_top t_73) (tq_eqL c_74 (⟨by decide, by decide⟩ : tq_iv 0 0 0)) (by decide) (by decide)
                  exact K_82 x3_17 _ (lv_sub hl [1, 2, 3, 4, 5] rfl)
                · skip
                  refine lv_iload_n hx hb dX2_flood_77 rfl (lv_at hl 3 rfl) ?_
                  refine lv_iload hx hb dX2_flood_78 (lv_at hl 0 rfl) ?_
                  refine lv_ior hx hb dX2_flood_80 ?_
                  refine lv_topi (fun t_80 e_80 => ?_)
                  refine lv_istore_n (lv' := [(3, .int t_80), (6, .int t_51), (5, .int x5_17), (4, .int x4_7), (0, .ref h0), (2, .int x2)]) hx hb dX2_flood_81 rfl hl (by decide) rfl (fun ls hl => ?_)
                  exact K_82 t_80 _ (lv_sub hl [2, 3, 0, 4, 5] rfl)
        exact K_17 _ 0 x3_7 _ (tq_w (⟨by decide, by decide⟩ : tq_iv 0 0 0) (by decide) (by decide)) (Nat.lt_succ_self _) (lv_sub hl [0, 1, 2, 3, 4] rfl)
  exact K_7 _ 0 t_2 _ (tq_w (⟨by decide, by decide⟩ : tq_iv 0 0 0) (by decide) (by decide)) (Nat.lt_succ_self _) (lv_sub hl [0, 1, 2, 4] rfl)
set_option maxHeartbeats 4000000 in
set_option maxRecDepth 100000 in
theorem c_X7_room (l : Launch) (X : tq_X) (Z : tq_Z) (f : Nat → va_E) (h0 : Nat) (z_h0 : tq_z Z h0 (.inl 7)) (x1 : Int32) : tq_Mp l X Z f yX7_room cX7_room 2 (some .int) 1 [.ref h0, .int x1] (tq_ri (-2147483648) 2147483647) := by
  refine tq_startip (by decide) (Nat.le_of_ble_eq_true rfl) (fun p e R s m args below meth c Q hC hret hS ls hl => ?_)
  have hC : tq_C p R s m args c X (tq_A Z) RX7 cX7_room 2 1 := hC
  have hx := hC.1.1
  have hb := hC.1.2.1
  have hown := hC.1.2.2.2.1
  have hts := hC.1.2.2.2.2
  have hl : lv_has ls 2 [(0, .ref h0), (1, .int x1)] := hl
  refine lv_aload_n hx hb dX7_room_0 rfl (lv_at hl 0 rfl) ?_
  refine lv_bipush (v := 30) hx hb dX7_room_1 (by decide) ?_
  refine lv_iload_n hx hb dX7_room_3 rfl (lv_at hl 1 rfl) ?_
  refine lv_iadd hx hb dX7_room_4 ?_
  refine lv_topi (fun t_4 e_4 => ?_)
  refine tq_callVpi (As := [.int t_4]) (rest := []) hC (c_X7_look l X Z _ h0 z_h0 t_4) k_X7_look ql_RX7_27 rfl (by decide) hS z_h0 rfl hl.1 rfl (Nat.le_of_ble_eq_true rfl) ⟨Nat.zero_le _, Nat.zero_le _⟩ dX7_room_5 (fun t_5 p_5 => ?_)
  exact hret t_5 _ _ rfl ⟨_, rfl, tq_w (tq_top t_5) (by decide) (by decide)⟩ dX7_room_8
set_option maxHeartbeats 4000000 in
set_option maxRecDepth 100000 in
theorem c_X2_reachWith (l : Launch) (X : tq_X) (Z : tq_Z) (f : Nat → va_E) (h0 : Nat) (z_h0 : tq_z Z h0 (.inl 2)) (x1 : Int32) (x2 : Int32) : tq_Mp l X Z f yX2_reachWith cX2_reachWith 3 (some .int) 3 [.ref h0, .int x1, .int x2] (tq_ri (-2147483648) 2147483647) := by
  refine tq_startip (by decide) (Nat.le_of_ble_eq_true rfl) (fun p e R s m args below meth c Q hC hret hS ls hl => ?_)
  have hC : tq_C p R s m args c X (tq_A Z) RX2 cX2_reachWith 3 3 := hC
  have hx := hC.1.1
  have hb := hC.1.2.1
  have hown := hC.1.2.2.2.1
  have hts := hC.1.2.2.2.2
  have hl : lv_has ls 3 [(0, .ref h0), (1, .int x1), (2, .int x2)] := hl
  refine lv_aload_n hx hb dX2_reachWith_0 rfl (lv_at hl 0 rfl) ?_
  refine lv_aload_n hx hb dX2_reachWith_1 rfl (lv_at hl 0 rfl) ?_
  refine gf_RX2_15 hC hS z_h0 dX2_reachWith_2 (fun t_2 p_2 q_2 => ?_)
  refine lv_iload_n hx hb dX2_reachWith_5 rfl (lv_at hl 1 rfl) ?_
  refine tq_callVpi (As := [.int x1]) (rest := [.ref h0]) hC (c_X7_room l X Z _ t_2 p_2 x1) k_X7_room ql_RX2_68 rfl (by decide) hS p_2 rfl hl.1 rfl (Nat.le_of_ble_eq_true rfl) ⟨Nat.zero_le _, Nat.zero_le _⟩ dX2_reachWith_6 (fun t_6 p_6 => ?_)
  refine lv_aload_n hx hb dX2_reachWith_9 rfl (lv_at hl 0 rfl) ?_
  refine lv_iload_n hx hb dX2_reachWith_10 rfl (lv_at hl 2 rfl) ?_
  refine tq_callVpi (As := [.int x2]) (rest := [.int t_6, .ref h0]) hC (c_X2_locksFor l X Z _ h0 z_h0 x2) k_X2_locksFor ql_RX2_71 rfl (by decide) hS z_h0 rfl hl.1 rfl (Nat.le_of_ble_eq_true rfl) ⟨Nat.zero_le _, Nat.zero_le _⟩ dX2_reachWith_11 (fun t_11 p_11 => ?_)
  refine tq_callVpi (As := [.int t_6, .int t_11]) (rest := []) hC (c_X2_flood l X Z _ h0 z_h0 t_6 t_11) k_X2_flood ql_RX2_74 rfl (by decide) hS z_h0 rfl hl.1 rfl (Nat.le_of_ble_eq_true rfl) ⟨Nat.zero_le _, Nat.zero_le _⟩ dX2_reachWith_14 (fun t_14 p_14 => ?_)
  exact hret t_14 _ _ rfl ⟨_, rfl, tq_w (tq_top t_14) (by decide) (by decide)⟩ dX2_reachWith_17
set_option maxHeartbeats 4000000 in
set_option maxRecDepth 100000 in
theorem c_X7_heldBy (l : Launch) (X : tq_X) (Z : tq_Z) (f : Nat → va_E) (h0 : Nat) (z_h0 : tq_z Z h0 (.inl 7)) (x1 : Int32) (x2 : Int32) : tq_Mp l X Z f yX7_heldBy cX7_heldBy 5 (some .int) 2 [.ref h0, .int x1, .int x2] (tq_ri (-2147483648) 2147483647) := by
  refine tq_startip (by decide) (Nat.le_of_ble_eq_true rfl) (fun p e R s m args below meth c Q hC hret hS ls hl => ?_)
  have hC : tq_C p R s m args c X (tq_A Z) RX7 cX7_heldBy 5 2 := hC
  have hx := hC.1.1
  have hb := hC.1.2.1
  have hown := hC.1.2.2.2.1
  have hts := hC.1.2.2.2.2
  have hl : lv_has ls 5 [(0, .ref h0), (1, .int x1), (2, .int x2)] := hl
  refine lv_iconst (v := 0) hx hb dX7_heldBy_0 (by decide) ?_
  refine lv_istore_n (lv' := [(3, .int 0), (0, .ref h0), (1, .int x1), (2, .int x2)]) hx hb dX7_heldBy_1 rfl hl (by decide) rfl (fun ls hl => ?_)
  refine lv_iconst (v := 0) hx hb dX7_heldBy_2 (by decide) ?_
  refine lv_istore (lv' := [(4, .int 0), (3, .int 0), (0, .ref h0), (1, .int x1), (2, .int x2)]) hx hb dX7_heldBy_3 hl (by decide) rfl (fun ls hl => ?_)
  have K_5 : ∀ (n_5 : Nat) (x4_5 : Int32) (x3_5 : Int32) (ls : Array Slot), tq_iv 0 8 x4_5 → (2147483647 - x4_5.toInt).toNat < n_5 → lv_has ls 5 [(4, .int x4_5), (3, .int x3_5), (0, .ref h0), (1, .int x1), (2, .int x2)] → W p l e R s m args below meth c s.heap [] 0 0 Q (F0 m 5 ls []) := by
    intro n_5
    induction n_5 with
    | zero => intro x4_5 x3_5 ls  i1_x4_5 hn_5; exact absurd hn_5 (Nat.not_lt_zero _)
    | succ n_5 ih_5 =>
      intro x4_5 x3_5 ls  i1_x4_5 hn_5 hl
      refine lv_iload hx hb dX7_heldBy_5 (lv_at hl 0 rfl) ?_
      refine lv_iload_n hx hb dX7_heldBy_7 rfl (lv_at hl 4 rfl) ?_
      have K_41 : ∀ (ls : Array Slot), lv_has ls 5 [(3, .int x3_5)] → W p l e R s m args below meth c s.heap [] 0 0 Q (F0 m 41 ls []) := by
        intro  ls  hl
        refine lv_iload_n hx hb dX7_heldBy_41 rfl (lv_at hl 0 rfl) ?_
        exact hret x3_5 _ _ rfl ⟨_, rfl, tq_w (tq_top x3_5) (by decide) (by decide)⟩ dX7_heldBy_42
      refine lv_icmp_ge (tgt := 41) hx hb dX7_heldBy_8 (by decide) (fun c_8 => ?_) (fun c_8 => ?_)
      · skip
        have i2_x2 : tq_iv (-2147483648) 8 x2 := tq_cut (tq_top x2) (tq_leL c_8 (tq_top x2) i1_x4_5) (by decide) (by decide)
        exact K_41 _ (lv_sub hl [1] rfl)
      · skip
        have i3_x2 : tq_iv 1 2147483647 x2 := tq_cut (tq_top x2) (tq_ltR (tq_nle c_8) i1_x4_5 (tq_top x2)) (by decide) (by decide)
        refine lv_iload hx hb dX7_heldBy_11 (lv_at hl 0 rfl) ?_
        refine lv_bipush (v := 8) hx hb dX7_heldBy_13 (by decide) ?_
        refine lv_icmp_ge (tgt := 41) hx hb dX7_heldBy_15 (by decide) (fun c_15 => ?_) (fun c_15 => ?_)
        · skip
          have i4_x4_5 : tq_iv 8 8 x4_5 := tq_cut i1_x4_5 (tq_leR c_15 (⟨by decide, by decide⟩ : tq_iv 8 8 8) i1_x4_5) (by decide) (by decide)
          exact K_41 _ (lv_sub hl [1] rfl)
        · skip
          have i5_x4_5 : tq_iv 0 7 x4_5 := tq_cut i1_x4_5 (tq_ltL (tq_nle c_15) i1_x4_5 (⟨by decide, by decide⟩ : tq_iv 8 8 8)) (by decide) (by decide)
          refine lv_aload_n hx hb dX7_heldBy_18 rfl (lv_at hl 2 rfl) ?_
          refine lv_iload hx hb dX7_heldBy_19 (lv_at hl 0 rfl) ?_
          refine tq_callVpi (As := [.int x4_5]) (rest := []) hC (c_X7_holder l X Z _ h0 z_h0 x4_5) k_X7_holder ql_RX7_35 rfl (by decide) hS z_h0 rfl hl.1 rfl (Nat.le_of_ble_eq_true rfl) ⟨Nat.zero_le _, Nat.zero_le _⟩ dX7_heldBy_21 (fun t_21 p_21 => ?_)
          refine lv_iload_n hx hb dX7_heldBy_24 rfl (lv_at hl 3 rfl) ?_
          have K_35 : ∀ (x3_35 : Int32) (ls : Array Slot), lv_has ls 5 [(4, .int x4_5), (3, .int x3_35), (0, .ref h0), (1, .int x1), (2, .int x2)] → W p l e R s m args below meth c s.heap [] 0 0 Q (F0 m 35 ls []) := by
            intro x3_35 ls  hl
            obtain ⟨t_35, e_35⟩ : ∃ y : Int32, y = x4_5 + 1 := ⟨_, rfl⟩
            have i6_t_35 : tq_iv 1 8 t_35 := tq_w (tq_add e_35 i5_x4_5 (⟨by decide, by decide⟩ : tq_iv 1 1 1) (by decide) (by decide)) (by decide) (by decide)
            refine lv_iinc (v := t_35) (lv' := [(4, .int t_35), (3, .int x3_35), (0, .ref h0), (1, .int x1), (2, .int x2)]) hx hb dX7_heldBy_35 hl (k := 0) rfl (by rw [e_35]; rfl) (by decide) rfl (fun ls hl => ?_)
            refine lv_goto (tgt := 5) hx hb dX7_heldBy_38 (by decide) ?_
            exact ih_5 t_35 x3_35 _ (tq_w i6_t_35 (by decide) (by decide)) (tq_up e_35 i5_x4_5 (⟨by decide, by decide⟩ : tq_iv 1 1 1) (by decide) (by decide) hn_5) (lv_sub hl [0, 1, 2, 3, 4] rfl)
          refine lv_icmp_ne (tgt := 35) hx hb dX7_heldBy_25 (by decide) (fun c_25 => ?_) (fun c_25 => ?_)
          · skip
            exact K_35 x3_5 _ (lv_sub hl [0, 1, 2, 3, 4] rfl)
          · skip
            refine lv_iload_n hx hb dX7_heldBy_28 rfl (lv_at hl 1 rfl) ?_
            refine lv_iconst (v := 1) hx hb dX7_heldBy_29 (by decide) ?_
            refine lv_iload hx hb dX7_heldBy_30 (lv_at hl 0 rfl) ?_
            refine lv_ishl hx hb dX7_heldBy_32 ?_
            refine lv_topi (fun t_32 e_32 => ?_)
            have i7_t_32 : tq_iv 1 128 t_32 := tq_shl1 e_32 i5_x4_5 (by decide) (by decide) (by decide) (by decide)
            refine lv_ior hx hb dX7_heldBy_33 ?_
            refine lv_topi (fun t_33 e_33 => ?_)
            refine lv_istore_n (lv' := [(3, .int t_33), (4, .int x4_5), (0, .ref h0), (1, .int x1), (2, .int x2)]) hx hb dX7_heldBy_34 rfl hl (by decide) rfl (fun ls hl => ?_)
            exact K_35 t_33 _ (lv_sub hl [1, 0, 2, 3, 4] rfl)
  exact K_5 _ 0 0 _ (tq_w (⟨by decide, by decide⟩ : tq_iv 0 0 0) (by decide) (by decide)) (Nat.lt_succ_self _) (lv_sub hl [0, 1, 2, 3, 4] rfl)
set_option maxHeartbeats 4000000 in
set_option maxRecDepth 100000 in
theorem c_X2_reachOf (l : Launch) (X : tq_X) (Z : tq_Z) (f : Nat → va_E) (h0 : Nat) (z_h0 : tq_z Z h0 (.inl 2)) (x1 : Int32) : tq_Mp l X Z f yX2_reachOf cX2_reachOf 2 (some .int) 4 [.ref h0, .int x1] (tq_ri (-2147483648) 2147483647) := by
  refine tq_startip (by decide) (Nat.le_of_ble_eq_true rfl) (fun p e R s m args below meth c Q hC hret hS ls hl => ?_)
  have hC : tq_C p R s m args c X (tq_A Z) RX2 cX2_reachOf 2 4 := hC
  have hx := hC.1.1
  have hb := hC.1.2.1
  have hown := hC.1.2.2.2.1
  have hts := hC.1.2.2.2.2
  have hl : lv_has ls 2 [(0, .ref h0), (1, .int x1)] := hl
  refine lv_aload_n hx hb dX2_reachOf_0 rfl (lv_at hl 0 rfl) ?_
  refine lv_iload_n hx hb dX2_reachOf_1 rfl (lv_at hl 1 rfl) ?_
  refine lv_aload_n hx hb dX2_reachOf_2 rfl (lv_at hl 0 rfl) ?_
  refine gf_RX2_15 hC hS z_h0 dX2_reachOf_3 (fun t_3 p_3 q_3 => ?_)
  refine lv_iload_n hx hb dX2_reachOf_6 rfl (lv_at hl 1 rfl) ?_
  refine lv_aload_n hx hb dX2_reachOf_7 rfl (lv_at hl 0 rfl) ?_
  refine gf_RX2_9 hC hS z_h0 dX2_reachOf_8 (fun t_8 p_8 q_8 => ?_)
  refine gf_RX2_33 hC hS p_8 dX2_reachOf_11 (fun t_11 p_11 q_11 => ?_)
  refine tq_callVpi (As := [.int x1, .int t_11]) (rest := [.int x1, .ref h0]) hC (c_X7_heldBy l X Z _ t_3 p_3 x1 t_11) k_X7_heldBy ql_RX2_78 rfl (by decide) hS p_3 rfl hl.1 rfl (Nat.le_of_ble_eq_true rfl) ⟨Nat.zero_le _, Nat.zero_le _⟩ dX2_reachOf_14 (fun t_14 p_14 => ?_)
  refine tq_callVpi (As := [.int x1, .int t_14]) (rest := []) hC (c_X2_reachWith l X Z _ h0 z_h0 x1 t_14) k_X2_reachWith ql_RX2_81 rfl (by decide) hS z_h0 rfl hl.1 rfl (Nat.le_of_ble_eq_true rfl) ⟨Nat.zero_le _, Nat.zero_le _⟩ dX2_reachOf_17 (fun t_17 p_17 => ?_)
  exact hret t_17 _ _ rfl ⟨_, rfl, tq_w (tq_top t_17) (by decide) (by decide)⟩ dX2_reachOf_20
set_option maxHeartbeats 4000000 in
set_option maxRecDepth 100000 in
theorem c_X3_hasPerson (l : Launch) (X : tq_X) (Z : tq_Z) (f : Nat → va_E) (h0 : Nat) (z_h0 : tq_z Z h0 (.inl 3)) (x1 : Int32) : tq_Mp l X Z f yX3_hasPerson cX3_hasPerson 2 (some .boolean) 0 [.ref h0, .int x1] (tq_ri 0 1) := by
  refine tq_startip (by decide) (Nat.le_of_ble_eq_true rfl) (fun p e R s m args below meth c Q hC hret hS ls hl => ?_)
  have hC : tq_C p R s m args c X (tq_A Z) RX3 cX3_hasPerson 2 0 := hC
  have hx := hC.1.1
  have hb := hC.1.2.1
  have hown := hC.1.2.2.2.1
  have hts := hC.1.2.2.2.2
  have hl : lv_has ls 2 [(0, .ref h0), (1, .int x1)] := hl
  refine lv_iload_n hx hb dX3_hasPerson_0 rfl (lv_at hl 1 rfl) ?_
  have K_17 : ∀ (y0_17 : Int32) (ls : Array Slot), tq_iv 0 1 y0_17 → lv_has ls 2 [] → W p l e R s m args below meth c s.heap [] 0 0 Q (F0 m 17 ls [.int y0_17]) := by
    intro y0_17 ls  i1_y0_17 hl
    exact hret y0_17 _ _ (tq_nb i1_y0_17 (by decide) (by decide)) ⟨_, rfl, tq_w i1_y0_17 (by decide) (by decide)⟩ dX3_hasPerson_17
  have K_16 : ∀ (ls : Array Slot), lv_has ls 2 [] → W p l e R s m args below meth c s.heap [] 0 0 Q (F0 m 16 ls []) := by
    intro  ls  hl
    refine lv_iconst (v := 0) hx hb dX3_hasPerson_16 (by decide) ?_
    exact K_17 0 _ (tq_w (⟨by decide, by decide⟩ : tq_iv 0 0 0) (by decide) (by decide)) (lv_sub hl [] rfl)
  refine lv_if_lt (tgt := 16) hx hb dX3_hasPerson_1 (by decide) (fun c_1 => ?_) (fun c_1 => ?_)
  · skip
    have i2_x1 : tq_iv (-2147483648) (-1) x1 := tq_cut (tq_top x1) (tq_ltL c_1 (tq_top x1) (⟨by decide, by decide⟩ : tq_iv 0 0 0)) (by decide) (by decide)
    exact K_16 _ (lv_sub hl [] rfl)
  · skip
    have i3_x1 : tq_iv 0 2147483647 x1 := tq_cut (tq_top x1) (tq_leR (tq_nlt c_1) (⟨by decide, by decide⟩ : tq_iv 0 0 0) (tq_top x1)) (by decide) (by decide)
    refine lv_iload_n hx hb dX3_hasPerson_4 rfl (lv_at hl 1 rfl) ?_
    refine lv_aload_n hx hb dX3_hasPerson_5 rfl (lv_at hl 0 rfl) ?_
    refine gf_RX3_68 hC hS z_h0 dX3_hasPerson_6 (fun t_6 p_6 q_6 => ?_)
    refine lv_icmp_ge (tgt := 16) hx hb dX3_hasPerson_9 (by decide) (fun c_9 => ?_) (fun c_9 => ?_)
    · skip
      exact K_16 _ (lv_sub hl [] rfl)
    · skip
      have i4_x1 : tq_iv 0 2147483646 x1 := tq_cut i3_x1 (tq_ltL (tq_nle c_9) i3_x1 (tq_top t_6)) (by decide) (by decide)
      have i5_t_6 : tq_iv 1 2147483647 t_6 := tq_cut (tq_top t_6) (tq_ltR (tq_nle c_9) i3_x1 (tq_top t_6)) (by decide) (by decide)
      refine lv_iconst (v := 1) hx hb dX3_hasPerson_12 (by decide) ?_
      refine lv_goto (tgt := 17) hx hb dX3_hasPerson_13 (by decide) ?_
      exact K_17 1 _ (tq_w (⟨by decide, by decide⟩ : tq_iv 1 1 1) (by decide) (by decide)) (lv_sub hl [] rfl)
set_option maxHeartbeats 4000000 in
set_option maxRecDepth 100000 in
theorem c_X11_person (l : Launch) (X : tq_X) (Z : tq_Z) (f : Nat → va_E) (h0 : Nat) (z_h0 : tq_z Z h0 (.inl 11)) (x1 : Int32) (x2 : Int32) : tq_Mp l X Z f yX11_person cX11_person 3 (some .int) 5 [.ref h0, .int x1, .int x2] (tq_ri (-2147483648) 2147483647) := by
  refine tq_startip (by decide) (Nat.le_of_ble_eq_true rfl) (fun p e R s m args below meth c Q hC hret hS ls hl => ?_)
  have hC : tq_C p R s m args c X (tq_A Z) RX11 cX11_person 3 5 := hC
  have hx := hC.1.1
  have hb := hC.1.2.1
  have hown := hC.1.2.2.2.1
  have hts := hC.1.2.2.2.2
  have hl : lv_has ls 3 [(0, .ref h0), (1, .int x1), (2, .int x2)] := hl
  refine lv_aload_n hx hb dX11_person_0 rfl (lv_at hl 0 rfl) ?_
  refine gf_RX11_29 hC hS z_h0 dX11_person_1 (fun t_1 p_1 q_1 => ?_)
  refine lv_iload_n hx hb dX11_person_4 rfl (lv_at hl 1 rfl) ?_
  refine tq_callVpi (As := [.int x1]) (rest := []) hC (c_X3_hasPerson l X Z _ t_1 p_1 x1) k_X3_hasPerson ql_RX11_200 rfl (by decide) hS p_1 rfl hl.1 rfl (Nat.le_of_ble_eq_true rfl) ⟨Nat.zero_le _, Nat.zero_le _⟩ dX11_person_5 (fun t_5 p_5 => ?_)
  refine lv_if_ne (tgt := 13) hx hb dX11_person_8 (by decide) (fun c_8 => ?_) (fun c_8 => ?_)
  · skip
    have i1_t_5 : tq_iv 1 1 t_5 := tq_w (tq_neLo c_8 p_5 (⟨by decide, by decide⟩ : tq_iv 0 0 0)) (by decide) (by decide)
    refine lv_iload_n hx hb dX11_person_13 rfl (lv_at hl 2 rfl) ?_
    by_cases s_14_0 : Int32.toInt x2 = 0
    · refine lv_tableIn (tgt := 40) hx hb dX11_person_14 (by omega) (by omega) (by first | (rw [s_14_0]; done) | (rw [s_14_0]; rfl)) (by decide) ?_
      have i2_x2 : tq_iv 0 0 x2 := ⟨by omega, by omega⟩
      refine lv_aload_n hx hb dX11_person_40 rfl (lv_at hl 0 rfl) ?_
      refine gf_RX11_41 hC hS z_h0 dX11_person_41 (fun t_41 p_41 q_41 => ?_)
      refine lv_iload_n hx hb dX11_person_44 rfl (lv_at hl 1 rfl) ?_
      refine tq_callVpi (As := [.int x1]) (rest := []) hC (c_X7_room l X Z _ t_41 p_41 x1) k_X7_room ql_RX11_203 rfl (by decide) hS p_41 rfl hl.1 rfl (Nat.le_of_ble_eq_true rfl) ⟨Nat.zero_le _, Nat.zero_le _⟩ dX11_person_45 (fun t_45 p_45 => ?_)
      exact hret t_45 _ _ rfl ⟨_, rfl, tq_w (tq_top t_45) (by decide) (by decide)⟩ dX11_person_48
    by_cases s_14_1 : Int32.toInt x2 = 1
    · refine lv_tableIn (tgt := 49) hx hb dX11_person_14 (by omega) (by omega) (by first | (rw [s_14_1]; done) | (rw [s_14_1]; rfl)) (by decide) ?_
      have i3_x2 : tq_iv 1 1 x2 := ⟨by omega, by omega⟩
      refine lv_aload_n hx hb dX11_person_49 rfl (lv_at hl 0 rfl) ?_
      refine gf_RX11_41 hC hS z_h0 dX11_person_50 (fun t_50 p_50 q_50 => ?_)
      refine lv_iload_n hx hb dX11_person_53 rfl (lv_at hl 1 rfl) ?_
      refine lv_aload_n hx hb dX11_person_54 rfl (lv_at hl 0 rfl) ?_
      refine gf_RX11_29 hC hS z_h0 dX11_person_55 (fun t_55 p_55 q_55 => ?_)
      refine gf_RX11_128 hC hS p_55 dX11_person_58 (fun t_58 p_58 q_58 => ?_)
      refine tq_callVpi (As := [.int x1, .int t_58]) (rest := []) hC (c_X7_heldBy l X Z _ t_50 p_50 x1 t_58) k_X7_heldBy ql_RX11_206 rfl (by decide) hS p_50 rfl hl.1 rfl (Nat.le_of_ble_eq_true rfl) ⟨Nat.zero_le _, Nat.zero_le _⟩ dX11_person_61 (fun t_61 p_61 => ?_)
      exact hret t_61 _ _ rfl ⟨_, rfl, tq_w (tq_top t_61) (by decide) (by decide)⟩ dX11_person_64
    by_cases s_14_2 : Int32.toInt x2 = 2
    · refine lv_tableIn (tgt := 65) hx hb dX11_person_14 (by omega) (by omega) (by first | (rw [s_14_2]; done) | (rw [s_14_2]; rfl)) (by decide) ?_
      have i4_x2 : tq_iv 2 2 x2 := ⟨by omega, by omega⟩
      refine lv_aload_n hx hb dX11_person_65 rfl (lv_at hl 0 rfl) ?_
      refine gf_RX11_79 hC hS z_h0 dX11_person_66 (fun t_66 p_66 q_66 => ?_)
      refine lv_iload_n hx hb dX11_person_69 rfl (lv_at hl 1 rfl) ?_
      refine tq_callVpi (As := [.int x1]) (rest := []) hC (c_X2_reachOf l X Z _ t_66 p_66 x1) k_X2_reachOf ql_RX11_209 rfl (by decide) hS p_66 rfl hl.1 rfl (Nat.le_of_ble_eq_true rfl) ⟨Nat.zero_le _, Nat.zero_le _⟩ dX11_person_70 (fun t_70 p_70 => ?_)
      exact hret t_70 _ _ rfl ⟨_, rfl, tq_w (tq_top t_70) (by decide) (by decide)⟩ dX11_person_73
    refine lv_tableOut (tgt := 74) hx hb dX11_person_14 (by omega) (by decide) ?_
    refine lv_iconst (v := -1) hx hb dX11_person_74 (by decide) ?_
    exact hret (-1) _ _ rfl ⟨_, rfl, tq_w (⟨by decide, by decide⟩ : tq_iv (-1) (-1) (-1)) (by decide) (by decide)⟩ dX11_person_75
  · skip
    have i5_t_5 : tq_iv 0 0 t_5 := tq_cut p_5 (tq_eqL c_8 (⟨by decide, by decide⟩ : tq_iv 0 0 0)) (by decide) (by decide)
    refine lv_iconst (v := -1) hx hb dX11_person_11 (by decide) ?_
    exact hret (-1) _ _ rfl ⟨_, rfl, tq_w (⟨by decide, by decide⟩ : tq_iv (-1) (-1) (-1)) (by decide) (by decide)⟩ dX11_person_12
set_option maxHeartbeats 4000000 in
set_option maxRecDepth 100000 in
theorem c_X6_isLegal (l : Launch) (X : tq_X) (Z : tq_Z) (f : Nat → va_E) (h0 : Nat) (z_h0 : tq_z Z h0 (.inl 6)) (x1 : Int32) : tq_Mp l X Z f yX6_isLegal cX6_isLegal 3 (some .boolean) 2 [.ref h0, .int x1] (tq_ri 0 1) := by
  refine tq_startip (by decide) (Nat.le_of_ble_eq_true rfl) (fun p e R s m args below meth c Q hC hret hS ls hl => ?_)
  have hC : tq_C p R s m args c X (tq_A Z) RX6 cX6_isLegal 3 2 := hC
  have hx := hC.1.1
  have hb := hC.1.2.1
  have hown := hC.1.2.2.2.1
  have hts := hC.1.2.2.2.2
  have hl : lv_has ls 3 [(0, .ref h0), (1, .int x1)] := hl
  refine lv_iconst (v := 1) hx hb dX6_isLegal_0 (by decide) ?_
  refine lv_istore_n (lv' := [(2, .int 1), (0, .ref h0), (1, .int x1)]) hx hb dX6_isLegal_1 rfl hl (by decide) rfl (fun ls hl => ?_)
  have K_2 : ∀ (n_2 : Nat) (x2_2 : Int32) (ls : Array Slot), tq_iv 1 999 x2_2 → (2147483647 - x2_2.toInt).toNat < n_2 → lv_has ls 3 [(2, .int x2_2), (0, .ref h0), (1, .int x1)] → W p l e R s m args below meth c s.heap [] 0 0 Q (F0 m 2 ls []) := by
    intro n_2
    induction n_2 with
    | zero => intro x2_2 ls  i1_x2_2 hn_2; exact absurd hn_2 (Nat.not_lt_zero _)
    | succ n_2 ih_2 =>
      intro x2_2 ls  i1_x2_2 hn_2 hl
      refine lv_iload_n hx hb dX6_isLegal_2 rfl (lv_at hl 0 rfl) ?_
      refine lv_aload_n hx hb dX6_isLegal_3 rfl (lv_at hl 1 rfl) ?_
      refine gf_RX6_18 hC hS z_h0 dX6_isLegal_4 (fun t_4 p_4 q_4 => ?_)
      refine lv_icmp_ge (tgt := 43) hx hb dX6_isLegal_7 (by decide) (fun c_7 => ?_) (fun c_7 => ?_)
      · skip
        refine lv_iconst (v := 1) hx hb dX6_isLegal_43 (by decide) ?_
        exact hret 1 _ _ (tq_nb (⟨by decide, by decide⟩ : tq_iv 1 1 1) (by decide) (by decide)) ⟨_, rfl, tq_w (⟨by decide, by decide⟩ : tq_iv 1 1 1) (by decide) (by decide)⟩ dX6_isLegal_44
      · skip
        have i2_x2_2 : tq_iv 1 998 x2_2 := tq_cut i1_x2_2 (tq_ltL (tq_nle c_7) i1_x2_2 p_4) (by decide) (by decide)
        have i3_t_4 : tq_iv 2 999 t_4 := tq_cut p_4 (tq_ltR (tq_nle c_7) i1_x2_2 p_4) (by decide) (by decide)
        refine lv_aload_n hx hb dX6_isLegal_10 rfl (lv_at hl 1 rfl) ?_
        refine lv_iload_n hx hb dX6_isLegal_11 rfl (lv_at hl 2 rfl) ?_
        refine lv_iload_n hx hb dX6_isLegal_12 rfl (lv_at hl 0 rfl) ?_
        refine tq_callVpi (As := [.int x1, .int x2_2]) (rest := []) hC (c_X6_depthAt l X Z _ h0 z_h0 x1 x2_2) k_X6_depthAt ql_RX6_41 rfl (by decide) hS z_h0 rfl hl.1 rfl (Nat.le_of_ble_eq_true rfl) ⟨Nat.zero_le _, Nat.zero_le _⟩ dX6_isLegal_13 (fun t_13 p_13 => ?_)
        refine lv_aload_n hx hb dX6_isLegal_16 rfl (lv_at hl 1 rfl) ?_
        refine lv_iload_n hx hb dX6_isLegal_17 rfl (lv_at hl 2 rfl) ?_
        refine lv_iload_n hx hb dX6_isLegal_18 rfl (lv_at hl 0 rfl) ?_
        refine lv_iconst (v := 1) hx hb dX6_isLegal_19 (by decide) ?_
        refine lv_isub hx hb dX6_isLegal_20 ?_
        refine lv_topi (fun t_20 e_20 => ?_)
        have i4_t_20 : tq_iv 0 997 t_20 := tq_w (tq_sub e_20 i2_x2_2 (⟨by decide, by decide⟩ : tq_iv 1 1 1) (by decide) (by decide)) (by decide) (by decide)
        refine tq_callVpi (As := [.int x1, .int t_20]) (rest := [.int t_13]) hC (c_X6_depthAt l X Z _ h0 z_h0 x1 t_20) k_X6_depthAt ql_RX6_41 rfl (by decide) hS z_h0 rfl hl.1 rfl (Nat.le_of_ble_eq_true rfl) ⟨Nat.zero_le _, Nat.zero_le _⟩ dX6_isLegal_21 (fun t_21 p_21 => ?_)
        refine lv_isub hx hb dX6_isLegal_24 ?_
        refine lv_topi (fun t_24 e_24 => ?_)
        refine va_mabs hx hb (hC.1.2.2.1.trans hl.1.symm) hown (hts _ ql_RX6_59) (hts _ qm_abs_s) (hts _ qm_i) (hts _ qm_abs_c) (Nat.le_trans (by decide) hC.2.2.1) (Nat.le_trans (Nat.le_of_ble_eq_true rfl) hC.2.2.2.1) (Nat.zero_le _) (Nat.zero_le _) dX6_isLegal_25 ?_
        refine lv_topi (fun t_25 e_25 => ?_)
        refine lv_aload_n hx hb dX6_isLegal_28 rfl (lv_at hl 1 rfl) ?_
        refine gf_RX6_25 hC hS z_h0 dX6_isLegal_29 (fun t_29 p_29 q_29 => ?_)
        refine lv_icmp_le (tgt := 37) hx hb dX6_isLegal_32 (by decide) (fun c_32 => ?_) (fun c_32 => ?_)
        · skip
          have i5_t_25 : tq_iv (-2147483648) 999 t_25 := tq_cut (tq_top t_25) (tq_leL c_32 (tq_top t_25) p_29) (by decide) (by decide)
          obtain ⟨t_37, e_37⟩ : ∃ y : Int32, y = x2_2 + 1 := ⟨_, rfl⟩
          have i6_t_37 : tq_iv 2 999 t_37 := tq_w (tq_add e_37 i2_x2_2 (⟨by decide, by decide⟩ : tq_iv 1 1 1) (by decide) (by decide)) (by decide) (by decide)
          refine lv_iinc (v := t_37) (lv' := [(2, .int t_37), (0, .ref h0), (1, .int x1)]) hx hb dX6_isLegal_37 hl (k := 0) rfl (by rw [e_37]; rfl) (by decide) rfl (fun ls hl => ?_)
          refine lv_goto (tgt := 2) hx hb dX6_isLegal_40 (by decide) ?_
          exact ih_2 t_37 _ (tq_w i6_t_37 (by decide) (by decide)) (tq_up e_37 i2_x2_2 (⟨by decide, by decide⟩ : tq_iv 1 1 1) (by decide) (by decide) hn_2) (lv_sub hl [0, 1, 2] rfl)
        · skip
          have i7_t_25 : tq_iv 1 2147483647 t_25 := tq_cut (tq_top t_25) (tq_ltR (tq_nle c_32) p_29 (tq_top t_25)) (by decide) (by decide)
          refine lv_iconst (v := 0) hx hb dX6_isLegal_35 (by decide) ?_
          exact hret 0 _ _ (tq_nb (⟨by decide, by decide⟩ : tq_iv 0 0 0) (by decide) (by decide)) ⟨_, rfl, tq_w (⟨by decide, by decide⟩ : tq_iv 0 0 0) (by decide) (by decide)⟩ dX6_isLegal_36
  exact K_2 _ 1 _ (tq_w (⟨by decide, by decide⟩ : tq_iv 1 1 1) (by decide) (by decide)) (Nat.lt_succ_self _) (lv_sub hl [0, 1, 2] rfl)
set_option maxHeartbeats 4000000 in
set_option maxRecDepth 100000 in
theorem c_X6_bitsOf (l : Launch) (X : tq_X) (Z : tq_Z) (f : Nat → va_E) (h0 : Nat) (z_h0 : tq_z Z h0 (.inl 6)) (x1 : Int32) : tq_Mp l X Z f yX6_bitsOf cX6_bitsOf 6 (some .int) 3 [.ref h0, .int x1] (tq_ri (-2147483648) 2147483647) := by
  refine tq_startip (by decide) (Nat.le_of_ble_eq_true rfl) (fun p e R s m args below meth c Q hC hret hS ls hl => ?_)
  have hC : tq_C p R s m args c X (tq_A Z) RX6 cX6_bitsOf 6 3 := hC
  have hx := hC.1.1
  have hb := hC.1.2.1
  have hown := hC.1.2.2.2.1
  have hts := hC.1.2.2.2.2
  have hl : lv_has ls 6 [(0, .ref h0), (1, .int x1)] := hl
  refine lv_iload_n hx hb dX6_bitsOf_0 rfl (lv_at hl 1 rfl) ?_
  refine lv_istore_n (lv' := [(2, .int x1), (0, .ref h0), (1, .int x1)]) hx hb dX6_bitsOf_1 rfl hl (by decide) rfl (fun ls hl => ?_)
  refine lv_iconst (v := 0) hx hb dX6_bitsOf_2 (by decide) ?_
  refine lv_istore_n (lv' := [(3, .int 0), (2, .int x1), (0, .ref h0), (1, .int x1)]) hx hb dX6_bitsOf_3 rfl hl (by decide) rfl (fun ls hl => ?_)
  refine lv_iconst (v := 1) hx hb dX6_bitsOf_4 (by decide) ?_
  refine lv_aload_n hx hb dX6_bitsOf_5 rfl (lv_at hl 2 rfl) ?_
  refine gf_RX6_22 hC hS z_h0 dX6_bitsOf_6 (fun t_6 p_6 q_6 => ?_)
  refine va_mmax hx hb (hC.1.2.2.1.trans hl.1.symm) hown (hts _ ql_RX6_47) (hts _ qm_max_s) (hts _ qm_i) (hts _ qm_max_c) (Nat.le_trans (by decide) hC.2.2.1) (Nat.le_trans (Nat.le_of_ble_eq_true rfl) hC.2.2.2.1) (Nat.zero_le _) (Nat.zero_le _) dX6_bitsOf_9 ?_
  refine lv_topi (fun t_9 e_9 => ?_)
  have i1_t_9 : tq_iv 1 999 t_9 := tq_w (tq_max e_9 (⟨by decide, by decide⟩ : tq_iv 1 1 1) p_6) (by decide) (by decide)
  refine lv_istore (lv' := [(4, .int t_9), (3, .int 0), (2, .int x1), (0, .ref h0), (1, .int x1)]) hx hb dX6_bitsOf_12 hl (by decide) rfl (fun ls hl => ?_)
  refine lv_aload_n hx hb dX6_bitsOf_14 rfl (lv_at hl 3 rfl) ?_
  refine gf_RX6_18 hC hS z_h0 dX6_bitsOf_15 (fun t_15 p_15 q_15 => ?_)
  refine lv_iconst (v := 1) hx hb dX6_bitsOf_18 (by decide) ?_
  refine lv_isub hx hb dX6_bitsOf_19 ?_
  refine lv_topi (fun t_19 e_19 => ?_)
  have i2_t_19 : tq_iv (-1) 998 t_19 := tq_w (tq_sub e_19 p_15 (⟨by decide, by decide⟩ : tq_iv 1 1 1) (by decide) (by decide)) (by decide) (by decide)
  refine lv_istore (lv' := [(5, .int t_19), (4, .int t_9), (3, .int 0), (2, .int x1), (0, .ref h0), (1, .int x1)]) hx hb dX6_bitsOf_20 hl (by decide) rfl (fun ls hl => ?_)
  have K_22 : ∀ (n_22 : Nat) (x5_22 : Int32) (x3_22 : Int32) (x2_22 : Int32) (ls : Array Slot), tq_iv (-1) 998 x5_22 → (x5_22.toInt + 2147483648).toNat < n_22 → lv_has ls 6 [(5, .int x5_22), (4, .int t_9), (3, .int x3_22), (2, .int x2_22), (0, .ref h0), (1, .int x1)] → W p l e R s m args below meth c s.heap [] 0 0 Q (F0 m 22 ls []) := by
    intro n_22
    induction n_22 with
    | zero => intro x5_22 x3_22 x2_22 ls  i3_x5_22 hn_22; exact absurd hn_22 (Nat.not_lt_zero _)
    | succ n_22 ih_22 =>
      intro x5_22 x3_22 x2_22 ls  i3_x5_22 hn_22 hl
      refine lv_iload hx hb dX6_bitsOf_22 (lv_at hl 0 rfl) ?_
      refine lv_if_lt (tgt := 54) hx hb dX6_bitsOf_24 (by decide) (fun c_24 => ?_) (fun c_24 => ?_)
      · skip
        have i4_x5_22 : tq_iv (-1) (-1) x5_22 := tq_cut i3_x5_22 (tq_ltL c_24 i3_x5_22 (⟨by decide, by decide⟩ : tq_iv 0 0 0)) (by decide) (by decide)
        refine lv_iload_n hx hb dX6_bitsOf_54 rfl (lv_at hl 5 rfl) ?_
        have K_75 : ∀ (y0_75 : Int32) (ls : Array Slot), lv_has ls 6 [] → W p l e R s m args below meth c s.heap [] 0 0 Q (F0 m 75 ls [.int y0_75]) := by
          intro y0_75 ls  hl
          exact hret y0_75 _ _ rfl ⟨_, rfl, tq_w (tq_top y0_75) (by decide) (by decide)⟩ dX6_bitsOf_75
        have K_74 : ∀ (ls : Array Slot), lv_has ls 6 [] → W p l e R s m args below meth c s.heap [] 0 0 Q (F0 m 74 ls []) := by
          intro  ls  hl
          refine lv_iconst (v := 0) hx hb dX6_bitsOf_74 (by decide) ?_
          exact K_75 0 _ (lv_sub hl [] rfl)
        refine lv_if_lt (tgt := 74) hx hb dX6_bitsOf_55 (by decide) (fun c_55 => ?_) (fun c_55 => ?_)
        · skip
          have i5_x1 : tq_iv (-2147483648) (-1) x1 := tq_cut (tq_top x1) (tq_ltL c_55 (tq_top x1) (⟨by decide, by decide⟩ : tq_iv 0 0 0)) (by decide) (by decide)
          exact K_74 _ (lv_sub hl [] rfl)
        · skip
          have i6_x1 : tq_iv 0 2147483647 x1 := tq_cut (tq_top x1) (tq_leR (tq_nlt c_55) (⟨by decide, by decide⟩ : tq_iv 0 0 0) (tq_top x1)) (by decide) (by decide)
          refine lv_iload_n hx hb dX6_bitsOf_58 rfl (lv_at hl 3 rfl) ?_
          refine lv_if_ne (tgt := 74) hx hb dX6_bitsOf_59 (by decide) (fun c_59 => ?_) (fun c_59 => ?_)
          · skip
            exact K_74 _ (lv_sub hl [] rfl)
          · skip
            have i7_x2_22 : tq_iv 0 0 x2_22 := tq_cut (tq_top x2_22) (tq_eqL c_59 (⟨by decide, by decide⟩ : tq_iv 0 0 0)) (by decide) (by decide)
            refine lv_aload_n hx hb dX6_bitsOf_62 rfl (lv_at hl 4 rfl) ?_
            refine lv_iload_n hx hb dX6_bitsOf_63 rfl (lv_at hl 2 rfl) ?_
            refine tq_callVpi (As := [.int x3_22]) (rest := []) hC (c_X6_isLegal l X Z _ h0 z_h0 x3_22) k_X6_isLegal ql_RX6_55 rfl (by decide) hS z_h0 rfl hl.1 rfl (Nat.le_of_ble_eq_true rfl) ⟨Nat.zero_le _, Nat.zero_le _⟩ dX6_bitsOf_64 (fun t_64 p_64 => ?_)
            refine lv_if_eq (tgt := 74) hx hb dX6_bitsOf_67 (by decide) (fun c_67 => ?_) (fun c_67 => ?_)
            · skip
              have i8_t_64 : tq_iv 0 0 t_64 := tq_cut p_64 (tq_eqL c_67 (⟨by decide, by decide⟩ : tq_iv 0 0 0)) (by decide) (by decide)
              exact K_74 _ (lv_sub hl [] rfl)
            · skip
              have i9_t_64 : tq_iv 1 1 t_64 := tq_w (tq_neLo c_67 p_64 (⟨by decide, by decide⟩ : tq_iv 0 0 0)) (by decide) (by decide)
              refine lv_iload_n hx hb dX6_bitsOf_70 rfl (lv_at hl 2 rfl) ?_
              refine lv_goto (tgt := 75) hx hb dX6_bitsOf_71 (by decide) ?_
              exact K_75 x3_22 _ (lv_sub hl [] rfl)
      · skip
        have i10_x5_22 : tq_iv 0 998 x5_22 := tq_cut i3_x5_22 (tq_leR (tq_nlt c_24) (⟨by decide, by decide⟩ : tq_iv 0 0 0) i3_x5_22) (by decide) (by decide)
        refine lv_iload_n hx hb dX6_bitsOf_27 rfl (lv_at hl 2 rfl) ?_
        refine lv_iload hx hb dX6_bitsOf_28 (lv_at hl 0 rfl) ?_
        refine lv_iconst (v := 0) hx hb dX6_bitsOf_30 (by decide) ?_
        refine lv_iload_n hx hb dX6_bitsOf_31 rfl (lv_at hl 3 rfl) ?_
        refine lv_iload hx hb dX6_bitsOf_32 (lv_at hl 1 rfl) ?_
        refine lv_irem hx hb dX6_bitsOf_34 (tq_nz i1_t_9 (by decide)) ?_
        refine lv_topi (fun t_34 e_34 => ?_)
        refine va_mmax hx hb (hC.1.2.2.1.trans hl.1.symm) hown (hts _ ql_RX6_47) (hts _ qm_max_s) (hts _ qm_i) (hts _ qm_max_c) (Nat.le_trans (by decide) hC.2.2.1) (Nat.le_trans (Nat.le_of_ble_eq_true rfl) hC.2.2.2.1) (Nat.zero_le _) (Nat.zero_le _) dX6_bitsOf_35 ?_
        refine lv_topi (fun t_35 e_35 => ?_)
        have i11_t_35 : tq_iv 0 2147483647 t_35 := tq_w (tq_max e_35 (⟨by decide, by decide⟩ : tq_iv 0 0 0) (tq_top t_34)) (by decide) (by decide)
        refine tq_callSpi (As := [.int x5_22, .int t_35]) (rest := [.int x3_22]) hC (c_X6_notch l X Z _ x5_22 t_35) k_X6_notch ql_RX6_44 rfl (by decide) hS hl.1 rfl (Nat.le_of_ble_eq_true rfl) ⟨Nat.zero_le _, Nat.zero_le _⟩ dX6_bitsOf_38 (fun t_38 p_38 => ?_)
        refine lv_ior hx hb dX6_bitsOf_41 ?_
        refine lv_topi (fun t_41 e_41 => ?_)
        refine lv_istore_n (lv' := [(3, .int t_41), (5, .int x5_22), (4, .int t_9), (2, .int x2_22), (0, .ref h0), (1, .int x1)]) hx hb dX6_bitsOf_42 rfl hl (by decide) rfl (fun ls hl => ?_)
        refine lv_iload_n hx hb dX6_bitsOf_43 rfl (lv_at hl 3 rfl) ?_
        refine lv_iload hx hb dX6_bitsOf_44 (lv_at hl 2 rfl) ?_
        refine lv_idiv hx hb dX6_bitsOf_46 (tq_nz i1_t_9 (by decide)) ?_
        refine lv_topi (fun t_46 e_46 => ?_)
        refine lv_istore_n (lv' := [(2, .int t_46), (3, .int t_41), (5, .int x5_22), (4, .int t_9), (0, .ref h0), (1, .int x1)]) hx hb dX6_bitsOf_47 rfl hl (by decide) rfl (fun ls hl => ?_)
        obtain ⟨t_48, e_48⟩ : ∃ y : Int32, y = x5_22 + (-1) := ⟨_, rfl⟩
        have i12_t_48 : tq_iv (-1) 997 t_48 := tq_w (tq_add e_48 i10_x5_22 (⟨by decide, by decide⟩ : tq_iv (-1) (-1) (-1)) (by decide) (by decide)) (by decide) (by decide)
        refine lv_iinc (v := t_48) (lv' := [(5, .int t_48), (2, .int t_46), (3, .int t_41), (4, .int t_9), (0, .ref h0), (1, .int x1)]) hx hb dX6_bitsOf_48 hl (k := 2) rfl (by rw [e_48]; rfl) (by decide) rfl (fun ls hl => ?_)
        refine lv_goto (tgt := 22) hx hb dX6_bitsOf_51 (by decide) ?_
        exact ih_22 t_48 t_41 t_46 _ (tq_w i12_t_48 (by decide) (by decide)) (tq_down e_48 i10_x5_22 (⟨by decide, by decide⟩ : tq_iv (-1) (-1) (-1)) (by decide) (by decide) hn_22) (lv_sub hl [0, 3, 2, 1, 4, 5] rfl)
  exact K_22 _ t_19 0 x1 _ (tq_w i2_t_19 (by decide) (by decide)) (Nat.lt_succ_self _) (lv_sub hl [0, 1, 2, 3, 4, 5] rfl)
set_option maxHeartbeats 4000000 in
set_option maxRecDepth 100000 in
theorem c_X11_opens (l : Launch) (X : tq_X) (Z : tq_Z) (f : Nat → va_E) (h0 : Nat) (z_h0 : tq_z Z h0 (.inl 11)) (x1 : Int32) (x2 : Int32) : tq_Mp l X Z f yX11_opens cX11_opens 4 (some .int) 4 [.ref h0, .int x1, .int x2] (tq_ri (-1) 1) := by
  refine tq_startip (by decide) (Nat.le_of_ble_eq_true rfl) (fun p e R s m args below meth c Q hC hret hS ls hl => ?_)
  have hC : tq_C p R s m args c X (tq_A Z) RX11 cX11_opens 4 4 := hC
  have hx := hC.1.1
  have hb := hC.1.2.1
  have hown := hC.1.2.2.2.1
  have hts := hC.1.2.2.2.2
  have hl : lv_has ls 4 [(0, .ref h0), (1, .int x1), (2, .int x2)] := hl
  refine lv_aload_n hx hb dX11_opens_0 rfl (lv_at hl 0 rfl) ?_
  refine gf_RX11_37 hC hS z_h0 dX11_opens_1 (fun t_1 p_1 q_1 => ?_)
  refine lv_iload_n hx hb dX11_opens_4 rfl (lv_at hl 1 rfl) ?_
  refine tq_callVpi (As := [.int x1]) (rest := []) hC (c_X6_bitsOf l X Z _ t_1 p_1 x1) k_X6_bitsOf ql_RX11_212 rfl (by decide) hS p_1 rfl hl.1 rfl (Nat.le_of_ble_eq_true rfl) ⟨Nat.zero_le _, Nat.zero_le _⟩ dX11_opens_5 (fun t_5 p_5 => ?_)
  refine lv_istore_n (lv' := [(3, .int t_5), (0, .ref h0), (1, .int x1), (2, .int x2)]) hx hb dX11_opens_8 rfl hl (by decide) rfl (fun ls hl => ?_)
  refine lv_iload_n hx hb dX11_opens_9 rfl (lv_at hl 0 rfl) ?_
  have K_24 : ∀ (ls : Array Slot), lv_has ls 4 [] → W p l e R s m args below meth c s.heap [] 0 0 Q (F0 m 24 ls []) := by
    intro  ls  hl
    refine lv_iconst (v := -1) hx hb dX11_opens_24 (by decide) ?_
    exact hret (-1) _ _ rfl ⟨_, rfl, tq_w (⟨by decide, by decide⟩ : tq_iv (-1) (-1) (-1)) (by decide) (by decide)⟩ dX11_opens_25
  refine lv_if_eq (tgt := 24) hx hb dX11_opens_10 (by decide) (fun c_10 => ?_) (fun c_10 => ?_)
  · skip
    have i1_t_5 : tq_iv 0 0 t_5 := tq_cut (tq_top t_5) (tq_eqL c_10 (⟨by decide, by decide⟩ : tq_iv 0 0 0)) (by decide) (by decide)
    exact K_24 _ (lv_sub hl [] rfl)
  · skip
    refine lv_aload_n hx hb dX11_opens_13 rfl (lv_at hl 1 rfl) ?_
    refine gf_RX11_29 hC hS z_h0 dX11_opens_14 (fun t_14 p_14 q_14 => ?_)
    refine lv_iload_n hx hb dX11_opens_17 rfl (lv_at hl 3 rfl) ?_
    refine tq_callVpi (As := [.int x2]) (rest := []) hC (c_X3_hasLock l X Z _ t_14 p_14 x2) k_X3_hasLock ql_RX11_165 rfl (by decide) hS p_14 rfl hl.1 rfl (Nat.le_of_ble_eq_true rfl) ⟨Nat.zero_le _, Nat.zero_le _⟩ dX11_opens_18 (fun t_18 p_18 => ?_)
    refine lv_if_ne (tgt := 26) hx hb dX11_opens_21 (by decide) (fun c_21 => ?_) (fun c_21 => ?_)
    · skip
      have i2_t_18 : tq_iv 1 1 t_18 := tq_w (tq_neLo c_21 p_18 (⟨by decide, by decide⟩ : tq_iv 0 0 0)) (by decide) (by decide)
      refine lv_iload_n hx hb dX11_opens_26 rfl (lv_at hl 0 rfl) ?_
      refine lv_aload_n hx hb dX11_opens_27 rfl (lv_at hl 1 rfl) ?_
      refine gf_RX11_41 hC hS z_h0 dX11_opens_28 (fun t_28 p_28 q_28 => ?_)
      refine lv_iload_n hx hb dX11_opens_31 rfl (lv_at hl 3 rfl) ?_
      refine tq_callVpi (As := [.int x2]) (rest := [.int t_5]) hC (c_X7_pins l X Z _ t_28 p_28 x2) k_X7_pins ql_RX11_168 rfl (by decide) hS p_28 rfl hl.1 rfl (Nat.le_of_ble_eq_true rfl) ⟨Nat.zero_le _, Nat.zero_le _⟩ dX11_opens_32 (fun t_32 p_32 => ?_)
      refine tq_callSpi (As := [.int t_5, .int t_32]) (rest := []) hC (c_X6_fitsIn l X Z _ t_5 t_32) k_X6_fitsIn ql_RX11_215 rfl (by decide) hS hl.1 rfl (Nat.le_of_ble_eq_true rfl) ⟨Nat.zero_le _, Nat.zero_le _⟩ dX11_opens_35 (fun t_35 p_35 => ?_)
      have K_46 : ∀ (y0_46 : Int32) (ls : Array Slot), tq_iv 0 1 y0_46 → lv_has ls 4 [] → W p l e R s m args below meth c s.heap [] 0 0 Q (F0 m 46 ls [.int y0_46]) := by
        intro y0_46 ls  i3_y0_46 hl
        exact hret y0_46 _ _ rfl ⟨_, rfl, tq_w i3_y0_46 (by decide) (by decide)⟩ dX11_opens_46
      refine lv_if_eq (tgt := 45) hx hb dX11_opens_38 (by decide) (fun c_38 => ?_) (fun c_38 => ?_)
      · skip
        have i4_t_35 : tq_iv 0 0 t_35 := tq_cut p_35 (tq_eqL c_38 (⟨by decide, by decide⟩ : tq_iv 0 0 0)) (by decide) (by decide)
        refine lv_iconst (v := 0) hx hb dX11_opens_45 (by decide) ?_
        exact K_46 0 _ (tq_w (⟨by decide, by decide⟩ : tq_iv 0 0 0) (by decide) (by decide)) (lv_sub hl [] rfl)
      · skip
        have i5_t_35 : tq_iv 1 1 t_35 := tq_w (tq_neLo c_38 p_35 (⟨by decide, by decide⟩ : tq_iv 0 0 0)) (by decide) (by decide)
        refine lv_iconst (v := 1) hx hb dX11_opens_41 (by decide) ?_
        refine lv_goto (tgt := 46) hx hb dX11_opens_42 (by decide) ?_
        exact K_46 1 _ (tq_w (⟨by decide, by decide⟩ : tq_iv 1 1 1) (by decide) (by decide)) (lv_sub hl [] rfl)
    · skip
      have i6_t_18 : tq_iv 0 0 t_18 := tq_cut p_18 (tq_eqL c_21 (⟨by decide, by decide⟩ : tq_iv 0 0 0)) (by decide) (by decide)
      exact K_24 _ (lv_sub hl [] rfl)
set_option maxHeartbeats 4000000 in
set_option maxRecDepth 100000 in
theorem c_X0_truth (l : Launch) (X : tq_X) (Z : tq_Z) (f : Nat → va_E) (x0 : Int32) (i_x0 : tq_iv 0 1 x0) : tq_Mp l X Z f yX0_truth cX0_truth 1 (some .int) 0 [.int x0] (tq_ri 0 1) := by
  refine tq_startip (by decide) (Nat.le_of_ble_eq_true rfl) (fun p e R s m args below meth c Q hC hret hS ls hl => ?_)
  have hC : tq_C p R s m args c X (tq_A Z) RX0 cX0_truth 1 0 := hC
  have hx := hC.1.1
  have hb := hC.1.2.1
  have hown := hC.1.2.2.2.1
  have hts := hC.1.2.2.2.2
  have hl : lv_has ls 1 [(0, .int x0)] := hl
  refine lv_iload_n hx hb dX0_truth_0 rfl (lv_at hl 0 rfl) ?_
  have K_9 : ∀ (y0_9 : Int32) (ls : Array Slot), tq_iv 0 1 y0_9 → lv_has ls 1 [] → W p l e R s m args below meth c s.heap [] 0 0 Q (F0 m 9 ls [.int y0_9]) := by
    intro y0_9 ls  i1_y0_9 hl
    exact hret y0_9 _ _ rfl ⟨_, rfl, tq_w i1_y0_9 (by decide) (by decide)⟩ dX0_truth_9
  refine lv_if_eq (tgt := 8) hx hb dX0_truth_1 (by decide) (fun c_1 => ?_) (fun c_1 => ?_)
  · skip
    have i2_x0 : tq_iv 0 0 x0 := tq_cut i_x0 (tq_eqL c_1 (⟨by decide, by decide⟩ : tq_iv 0 0 0)) (by decide) (by decide)
    refine lv_iconst (v := 0) hx hb dX0_truth_8 (by decide) ?_
    exact K_9 0 _ (tq_w (⟨by decide, by decide⟩ : tq_iv 0 0 0) (by decide) (by decide)) (lv_sub hl [] rfl)
  · skip
    have i3_x0 : tq_iv 1 1 x0 := tq_w (tq_neLo c_1 i_x0 (⟨by decide, by decide⟩ : tq_iv 0 0 0)) (by decide) (by decide)
    refine lv_iconst (v := 1) hx hb dX0_truth_4 (by decide) ?_
    refine lv_goto (tgt := 9) hx hb dX0_truth_5 (by decide) ?_
    exact K_9 1 _ (tq_w (⟨by decide, by decide⟩ : tq_iv 1 1 1) (by decide) (by decide)) (lv_sub hl [] rfl)
set_option maxHeartbeats 4000000 in
set_option maxRecDepth 100000 in
theorem c_X0_joined (l : Launch) (X : tq_X) (Z : tq_Z) (f : Nat → va_E) (x0 : Int32) (x1 : Int32) (x2 : Int32) : tq_Mp l X Z f yX0_joined cX0_joined 3 (some .int) 1 [.int x0, .int x1, .int x2] (tq_ri (-2147483648) 2147483647) := by
  refine tq_startip (by decide) (Nat.le_of_ble_eq_true rfl) (fun p e R s m args below meth c Q hC hret hS ls hl => ?_)
  have hC : tq_C p R s m args c X (tq_A Z) RX0 cX0_joined 3 1 := hC
  have hx := hC.1.1
  have hb := hC.1.2.1
  have hown := hC.1.2.2.2.1
  have hts := hC.1.2.2.2.2
  have hl : lv_has ls 3 [(0, .int x0), (1, .int x1), (2, .int x2)] := hl
  refine lv_iload_n hx hb dX0_joined_0 rfl (lv_at hl 0 rfl) ?_
  by_cases s_1_0 : Int32.toInt x0 = 6
  · refine lv_tableIn (tgt := 56) hx hb dX0_joined_1 (by omega) (by omega) (by first | (rw [s_1_0]; done) | (rw [s_1_0]; rfl)) (by decide) ?_
    have i1_x0 : tq_iv 6 6 x0 := ⟨by omega, by omega⟩
    refine lv_iload_n hx hb dX0_joined_56 rfl (lv_at hl 1 rfl) ?_
    have K_69 : ∀ (y0_69 : Int32) (ls : Array Slot), tq_iv 0 1 y0_69 → lv_has ls 3 [] → W p l e R s m args below meth c s.heap [] 0 0 Q (F0 m 69 ls [.int y0_69]) := by
      intro y0_69 ls  i2_y0_69 hl
      refine tq_callSpi (As := [.int y0_69]) (rest := []) hC (c_X0_truth l X Z _ y0_69 (tq_w i2_y0_69 (by decide) (by decide))) k_X0_truth ql_RX0_36 rfl (by decide) hS hl.1 rfl (Nat.le_of_ble_eq_true rfl) ⟨Nat.zero_le _, Nat.zero_le _⟩ dX0_joined_69 (fun t_69 p_69 => ?_)
      exact hret t_69 _ _ rfl ⟨_, rfl, tq_w p_69 (by decide) (by decide)⟩ dX0_joined_72
    have K_64 : ∀ (ls : Array Slot), lv_has ls 3 [] → W p l e R s m args below meth c s.heap [] 0 0 Q (F0 m 64 ls []) := by
      intro  ls  hl
      refine lv_iconst (v := 1) hx hb dX0_joined_64 (by decide) ?_
      refine lv_goto (tgt := 69) hx hb dX0_joined_65 (by decide) ?_
      exact K_69 1 _ (tq_w (⟨by decide, by decide⟩ : tq_iv 1 1 1) (by decide) (by decide)) (lv_sub hl [] rfl)
    refine lv_if_ne (tgt := 64) hx hb dX0_joined_57 (by decide) (fun c_57 => ?_) (fun c_57 => ?_)
    · skip
      exact K_64 _ (lv_sub hl [] rfl)
    · skip
      have i3_x1 : tq_iv 0 0 x1 := tq_cut (tq_top x1) (tq_eqL c_57 (⟨by decide, by decide⟩ : tq_iv 0 0 0)) (by decide) (by decide)
      refine lv_iload_n hx hb dX0_joined_60 rfl (lv_at hl 2 rfl) ?_
      refine lv_if_eq (tgt := 68) hx hb dX0_joined_61 (by decide) (fun c_61 => ?_) (fun c_61 => ?_)
      · skip
        have i4_x2 : tq_iv 0 0 x2 := tq_cut (tq_top x2) (tq_eqL c_61 (⟨by decide, by decide⟩ : tq_iv 0 0 0)) (by decide) (by decide)
        refine lv_iconst (v := 0) hx hb dX0_joined_68 (by decide) ?_
        exact K_69 0 _ (tq_w (⟨by decide, by decide⟩ : tq_iv 0 0 0) (by decide) (by decide)) (lv_sub hl [] rfl)
      · skip
        exact K_64 _ (lv_sub hl [] rfl)
  by_cases s_1_1 : Int32.toInt x0 = 7
  · refine lv_tableIn (tgt := 73) hx hb dX0_joined_1 (by omega) (by omega) (by first | (rw [s_1_1]; done) | (rw [s_1_1]; rfl)) (by decide) ?_
    have i5_x0 : tq_iv 7 7 x0 := ⟨by omega, by omega⟩
    refine lv_iload_n hx hb dX0_joined_73 rfl (lv_at hl 1 rfl) ?_
    have K_86 : ∀ (y0_86 : Int32) (ls : Array Slot), tq_iv 0 1 y0_86 → lv_has ls 3 [] → W p l e R s m args below meth c s.heap [] 0 0 Q (F0 m 86 ls [.int y0_86]) := by
      intro y0_86 ls  i6_y0_86 hl
      refine tq_callSpi (As := [.int y0_86]) (rest := []) hC (c_X0_truth l X Z _ y0_86 (tq_w i6_y0_86 (by decide) (by decide))) k_X0_truth ql_RX0_36 rfl (by decide) hS hl.1 rfl (Nat.le_of_ble_eq_true rfl) ⟨Nat.zero_le _, Nat.zero_le _⟩ dX0_joined_86 (fun t_86 p_86 => ?_)
      exact hret t_86 _ _ rfl ⟨_, rfl, tq_w p_86 (by decide) (by decide)⟩ dX0_joined_89
    have K_85 : ∀ (ls : Array Slot), lv_has ls 3 [] → W p l e R s m args below meth c s.heap [] 0 0 Q (F0 m 85 ls []) := by
      intro  ls  hl
      refine lv_iconst (v := 0) hx hb dX0_joined_85 (by decide) ?_
      exact K_86 0 _ (tq_w (⟨by decide, by decide⟩ : tq_iv 0 0 0) (by decide) (by decide)) (lv_sub hl [] rfl)
    refine lv_if_eq (tgt := 85) hx hb dX0_joined_74 (by decide) (fun c_74 => ?_) (fun c_74 => ?_)
    · skip
      have i7_x1 : tq_iv 0 0 x1 := tq_cut (tq_top x1) (tq_eqL c_74 (⟨by decide, by decide⟩ : tq_iv 0 0 0)) (by decide) (by decide)
      exact K_85 _ (lv_sub hl [] rfl)
    · skip
      refine lv_iload_n hx hb dX0_joined_77 rfl (lv_at hl 2 rfl) ?_
      refine lv_if_eq (tgt := 85) hx hb dX0_joined_78 (by decide) (fun c_78 => ?_) (fun c_78 => ?_)
      · skip
        have i8_x2 : tq_iv 0 0 x2 := tq_cut (tq_top x2) (tq_eqL c_78 (⟨by decide, by decide⟩ : tq_iv 0 0 0)) (by decide) (by decide)
        exact K_85 _ (lv_sub hl [] rfl)
      · skip
        refine lv_iconst (v := 1) hx hb dX0_joined_81 (by decide) ?_
        refine lv_goto (tgt := 86) hx hb dX0_joined_82 (by decide) ?_
        exact K_86 1 _ (tq_w (⟨by decide, by decide⟩ : tq_iv 1 1 1) (by decide) (by decide)) (lv_sub hl [] rfl)
  by_cases s_1_2 : Int32.toInt x0 = 8
  · refine lv_tableIn (tgt := 90) hx hb dX0_joined_1 (by omega) (by omega) (by first | (rw [s_1_2]; done) | (rw [s_1_2]; rfl)) (by decide) ?_
    have i9_x0 : tq_iv 8 8 x0 := ⟨by omega, by omega⟩
    refine lv_iload_n hx hb dX0_joined_90 rfl (lv_at hl 1 rfl) ?_
    refine lv_iload_n hx hb dX0_joined_91 rfl (lv_at hl 2 rfl) ?_
    have K_100 : ∀ (y0_100 : Int32) (ls : Array Slot), tq_iv 0 1 y0_100 → lv_has ls 3 [] → W p l e R s m args below meth c s.heap [] 0 0 Q (F0 m 100 ls [.int y0_100]) := by
      intro y0_100 ls  i10_y0_100 hl
      refine tq_callSpi (As := [.int y0_100]) (rest := []) hC (c_X0_truth l X Z _ y0_100 (tq_w i10_y0_100 (by decide) (by decide))) k_X0_truth ql_RX0_36 rfl (by decide) hS hl.1 rfl (Nat.le_of_ble_eq_true rfl) ⟨Nat.zero_le _, Nat.zero_le _⟩ dX0_joined_100 (fun t_100 p_100 => ?_)
      exact hret t_100 _ _ rfl ⟨_, rfl, tq_w p_100 (by decide) (by decide)⟩ dX0_joined_103
    refine lv_icmp_ge (tgt := 99) hx hb dX0_joined_92 (by decide) (fun c_92 => ?_) (fun c_92 => ?_)
    · skip
      refine lv_iconst (v := 0) hx hb dX0_joined_99 (by decide) ?_
      exact K_100 0 _ (tq_w (⟨by decide, by decide⟩ : tq_iv 0 0 0) (by decide) (by decide)) (lv_sub hl [] rfl)
    · skip
      have i11_x1 : tq_iv (-2147483648) 2147483646 x1 := tq_cut (tq_top x1) (tq_ltL (tq_nle c_92) (tq_top x1) (tq_top x2)) (by decide) (by decide)
      have i12_x2 : tq_iv (-2147483647) 2147483647 x2 := tq_cut (tq_top x2) (tq_ltR (tq_nle c_92) (tq_top x1) (tq_top x2)) (by decide) (by decide)
      refine lv_iconst (v := 1) hx hb dX0_joined_95 (by decide) ?_
      refine lv_goto (tgt := 100) hx hb dX0_joined_96 (by decide) ?_
      exact K_100 1 _ (tq_w (⟨by decide, by decide⟩ : tq_iv 1 1 1) (by decide) (by decide)) (lv_sub hl [] rfl)
  by_cases s_1_3 : Int32.toInt x0 = 9
  · refine lv_tableIn (tgt := 104) hx hb dX0_joined_1 (by omega) (by omega) (by first | (rw [s_1_3]; done) | (rw [s_1_3]; rfl)) (by decide) ?_
    have i13_x0 : tq_iv 9 9 x0 := ⟨by omega, by omega⟩
    refine lv_iload_n hx hb dX0_joined_104 rfl (lv_at hl 1 rfl) ?_
    refine lv_iload_n hx hb dX0_joined_105 rfl (lv_at hl 2 rfl) ?_
    have K_114 : ∀ (y0_114 : Int32) (ls : Array Slot), tq_iv 0 1 y0_114 → lv_has ls 3 [] → W p l e R s m args below meth c s.heap [] 0 0 Q (F0 m 114 ls [.int y0_114]) := by
      intro y0_114 ls  i14_y0_114 hl
      refine tq_callSpi (As := [.int y0_114]) (rest := []) hC (c_X0_truth l X Z _ y0_114 (tq_w i14_y0_114 (by decide) (by decide))) k_X0_truth ql_RX0_36 rfl (by decide) hS hl.1 rfl (Nat.le_of_ble_eq_true rfl) ⟨Nat.zero_le _, Nat.zero_le _⟩ dX0_joined_114 (fun t_114 p_114 => ?_)
      exact hret t_114 _ _ rfl ⟨_, rfl, tq_w p_114 (by decide) (by decide)⟩ dX0_joined_117
    refine lv_icmp_le (tgt := 113) hx hb dX0_joined_106 (by decide) (fun c_106 => ?_) (fun c_106 => ?_)
    · skip
      refine lv_iconst (v := 0) hx hb dX0_joined_113 (by decide) ?_
      exact K_114 0 _ (tq_w (⟨by decide, by decide⟩ : tq_iv 0 0 0) (by decide) (by decide)) (lv_sub hl [] rfl)
    · skip
      have i15_x2 : tq_iv (-2147483648) 2147483646 x2 := tq_cut (tq_top x2) (tq_ltL (tq_nle c_106) (tq_top x2) (tq_top x1)) (by decide) (by decide)
      have i16_x1 : tq_iv (-2147483647) 2147483647 x1 := tq_cut (tq_top x1) (tq_ltR (tq_nle c_106) (tq_top x2) (tq_top x1)) (by decide) (by decide)
      refine lv_iconst (v := 1) hx hb dX0_joined_109 (by decide) ?_
      refine lv_goto (tgt := 114) hx hb dX0_joined_110 (by decide) ?_
      exact K_114 1 _ (tq_w (⟨by decide, by decide⟩ : tq_iv 1 1 1) (by decide) (by decide)) (lv_sub hl [] rfl)
  by_cases s_1_4 : Int32.toInt x0 = 10
  · refine lv_tableIn (tgt := 118) hx hb dX0_joined_1 (by omega) (by omega) (by first | (rw [s_1_4]; done) | (rw [s_1_4]; rfl)) (by decide) ?_
    have i17_x0 : tq_iv 10 10 x0 := ⟨by omega, by omega⟩
    refine lv_iload_n hx hb dX0_joined_118 rfl (lv_at hl 1 rfl) ?_
    refine lv_iload_n hx hb dX0_joined_119 rfl (lv_at hl 2 rfl) ?_
    have K_128 : ∀ (y0_128 : Int32) (ls : Array Slot), tq_iv 0 1 y0_128 → lv_has ls 3 [] → W p l e R s m args below meth c s.heap [] 0 0 Q (F0 m 128 ls [.int y0_128]) := by
      intro y0_128 ls  i18_y0_128 hl
      refine tq_callSpi (As := [.int y0_128]) (rest := []) hC (c_X0_truth l X Z _ y0_128 (tq_w i18_y0_128 (by decide) (by decide))) k_X0_truth ql_RX0_36 rfl (by decide) hS hl.1 rfl (Nat.le_of_ble_eq_true rfl) ⟨Nat.zero_le _, Nat.zero_le _⟩ dX0_joined_128 (fun t_128 p_128 => ?_)
      exact hret t_128 _ _ rfl ⟨_, rfl, tq_w p_128 (by decide) (by decide)⟩ dX0_joined_131
    refine lv_icmp_ne (tgt := 127) hx hb dX0_joined_120 (by decide) (fun c_120 => ?_) (fun c_120 => ?_)
    · skip
      refine lv_iconst (v := 0) hx hb dX0_joined_127 (by decide) ?_
      exact K_128 0 _ (tq_w (⟨by decide, by decide⟩ : tq_iv 0 0 0) (by decide) (by decide)) (lv_sub hl [] rfl)
    · skip
      refine lv_iconst (v := 1) hx hb dX0_joined_123 (by decide) ?_
      refine lv_goto (tgt := 128) hx hb dX0_joined_124 (by decide) ?_
      exact K_128 1 _ (tq_w (⟨by decide, by decide⟩ : tq_iv 1 1 1) (by decide) (by decide)) (lv_sub hl [] rfl)
  by_cases s_1_5 : Int32.toInt x0 = 11
  · refine lv_tableIn (tgt := 132) hx hb dX0_joined_1 (by omega) (by omega) (by first | (rw [s_1_5]; done) | (rw [s_1_5]; rfl)) (by decide) ?_
    have i19_x0 : tq_iv 11 11 x0 := ⟨by omega, by omega⟩
    refine lv_iload_n hx hb dX0_joined_132 rfl (lv_at hl 1 rfl) ?_
    refine lv_iload_n hx hb dX0_joined_133 rfl (lv_at hl 2 rfl) ?_
    refine lv_iadd hx hb dX0_joined_134 ?_
    refine lv_topi (fun t_134 e_134 => ?_)
    exact hret t_134 _ _ rfl ⟨_, rfl, tq_w (tq_top t_134) (by decide) (by decide)⟩ dX0_joined_135
  by_cases s_1_6 : Int32.toInt x0 = 12
  · refine lv_tableIn (tgt := 136) hx hb dX0_joined_1 (by omega) (by omega) (by first | (rw [s_1_6]; done) | (rw [s_1_6]; rfl)) (by decide) ?_
    have i20_x0 : tq_iv 12 12 x0 := ⟨by omega, by omega⟩
    refine lv_iload_n hx hb dX0_joined_136 rfl (lv_at hl 1 rfl) ?_
    refine lv_iload_n hx hb dX0_joined_137 rfl (lv_at hl 2 rfl) ?_
    refine lv_isub hx hb dX0_joined_138 ?_
    refine lv_topi (fun t_138 e_138 => ?_)
    exact hret t_138 _ _ rfl ⟨_, rfl, tq_w (tq_top t_138) (by decide) (by decide)⟩ dX0_joined_139
  by_cases s_1_7 : Int32.toInt x0 = 13
  · refine lv_tableIn (tgt := 140) hx hb dX0_joined_1 (by omega) (by omega) (by first | (rw [s_1_7]; done) | (rw [s_1_7]; rfl)) (by decide) ?_
    have i21_x0 : tq_iv 13 13 x0 := ⟨by omega, by omega⟩
    refine lv_iload_n hx hb dX0_joined_140 rfl (lv_at hl 1 rfl) ?_
    refine lv_iload_n hx hb dX0_joined_141 rfl (lv_at hl 2 rfl) ?_
    refine lv_imul hx hb dX0_joined_142 ?_
    refine lv_topi (fun t_142 e_142 => ?_)
    exact hret t_142 _ _ rfl ⟨_, rfl, tq_w (tq_top t_142) (by decide) (by decide)⟩ dX0_joined_143
  by_cases s_1_8 : Int32.toInt x0 = 14
  · refine lv_tableIn (tgt := 144) hx hb dX0_joined_1 (by omega) (by omega) (by first | (rw [s_1_8]; done) | (rw [s_1_8]; rfl)) (by decide) ?_
    have i22_x0 : tq_iv 14 14 x0 := ⟨by omega, by omega⟩
    refine lv_iload_n hx hb dX0_joined_144 rfl (lv_at hl 2 rfl) ?_
    have K_155 : ∀ (y0_155 : Int32) (ls : Array Slot), lv_has ls 3 [] → W p l e R s m args below meth c s.heap [] 0 0 Q (F0 m 155 ls [.int y0_155]) := by
      intro y0_155 ls  hl
      exact hret y0_155 _ _ rfl ⟨_, rfl, tq_w (tq_top y0_155) (by decide) (by decide)⟩ dX0_joined_155
    refine lv_if_ne (tgt := 152) hx hb dX0_joined_145 (by decide) (fun c_145 => ?_) (fun c_145 => ?_)
    · skip
      refine lv_iload_n hx hb dX0_joined_152 rfl (lv_at hl 1 rfl) ?_
      refine lv_iload_n hx hb dX0_joined_153 rfl (lv_at hl 2 rfl) ?_
      refine lv_idiv hx hb dX0_joined_154 c_145 ?_
      refine lv_topi (fun t_154 e_154 => ?_)
      exact K_155 t_154 _ (lv_sub hl [] rfl)
    · skip
      have i23_x2 : tq_iv 0 0 x2 := tq_cut (tq_top x2) (tq_eqL c_145 (⟨by decide, by decide⟩ : tq_iv 0 0 0)) (by decide) (by decide)
      refine lv_iconst (v := 0) hx hb dX0_joined_148 (by decide) ?_
      refine lv_goto (tgt := 155) hx hb dX0_joined_149 (by decide) ?_
      exact K_155 0 _ (lv_sub hl [] rfl)
  by_cases s_1_9 : Int32.toInt x0 = 15
  · refine lv_tableIn (tgt := 156) hx hb dX0_joined_1 (by omega) (by omega) (by first | (rw [s_1_9]; done) | (rw [s_1_9]; rfl)) (by decide) ?_
    have i24_x0 : tq_iv 15 15 x0 := ⟨by omega, by omega⟩
    refine lv_iload_n hx hb dX0_joined_156 rfl (lv_at hl 2 rfl) ?_
    have K_167 : ∀ (y0_167 : Int32) (ls : Array Slot), lv_has ls 3 [] → W p l e R s m args below meth c s.heap [] 0 0 Q (F0 m 167 ls [.int y0_167]) := by
      intro y0_167 ls  hl
      exact hret y0_167 _ _ rfl ⟨_, rfl, tq_w (tq_top y0_167) (by decide) (by decide)⟩ dX0_joined_167
    refine lv_if_ne (tgt := 164) hx hb dX0_joined_157 (by decide) (fun c_157 => ?_) (fun c_157 => ?_)
    · skip
      refine lv_iload_n hx hb dX0_joined_164 rfl (lv_at hl 1 rfl) ?_
      refine lv_iload_n hx hb dX0_joined_165 rfl (lv_at hl 2 rfl) ?_
      refine lv_irem hx hb dX0_joined_166 c_157 ?_
      refine lv_topi (fun t_166 e_166 => ?_)
      exact K_167 t_166 _ (lv_sub hl [] rfl)
    · skip
      have i25_x2 : tq_iv 0 0 x2 := tq_cut (tq_top x2) (tq_eqL c_157 (⟨by decide, by decide⟩ : tq_iv 0 0 0)) (by decide) (by decide)
      refine lv_iconst (v := 0) hx hb dX0_joined_160 (by decide) ?_
      refine lv_goto (tgt := 167) hx hb dX0_joined_161 (by decide) ?_
      exact K_167 0 _ (lv_sub hl [] rfl)
  refine lv_tableOut (tgt := 168) hx hb dX0_joined_1 (by omega) (by decide) ?_
  refine lv_iconst (v := 0) hx hb dX0_joined_168 (by decide) ?_
  exact hret 0 _ _ rfl ⟨_, rfl, tq_w (⟨by decide, by decide⟩ : tq_iv 0 0 0) (by decide) (by decide)⟩ dX0_joined_169
set_option maxHeartbeats 4000000 in
set_option maxRecDepth 100000 in
theorem c_X0_unitValue (l : Launch) (X : tq_X) (Z : tq_Z) (f : Nat → va_E) (x0 : Int32) (x1 : Int32) (x2 : Int32) (x3 : Int32) (x4 : Int32) (x5 : Int32) : tq_Mp l X Z f yX0_unitValue cX0_unitValue 6 (some .int) 0 [.int x0, .int x1, .int x2, .int x3, .int x4, .int x5] (tq_ri (-2147483648) 2147483647) := by
  refine tq_startip (by decide) (Nat.le_of_ble_eq_true rfl) (fun p e R s m args below meth c Q hC hret hS ls hl => ?_)
  have hC : tq_C p R s m args c X (tq_A Z) RX0 cX0_unitValue 6 0 := hC
  have hx := hC.1.1
  have hb := hC.1.2.1
  have hown := hC.1.2.2.2.1
  have hts := hC.1.2.2.2.2
  have hl : lv_has ls 6 [(0, .int x0), (1, .int x1), (2, .int x2), (3, .int x3), (4, .int x4), (5, .int x5)] := hl
  refine lv_iload_n hx hb dX0_unitValue_0 rfl (lv_at hl 0 rfl) ?_
  by_cases s_1_0 : Int32.toInt x0 = 1
  · refine lv_tableIn (tgt := 32) hx hb dX0_unitValue_1 (by omega) (by omega) (by first | (rw [s_1_0]; done) | (rw [s_1_0]; rfl)) (by decide) ?_
    have i1_x0 : tq_iv 1 1 x0 := ⟨by omega, by omega⟩
    refine lv_iload_n hx hb dX0_unitValue_32 rfl (lv_at hl 2 rfl) ?_
    exact hret x2 _ _ rfl ⟨_, rfl, tq_w (tq_top x2) (by decide) (by decide)⟩ dX0_unitValue_33
  by_cases s_1_1 : Int32.toInt x0 = 2
  · refine lv_tableIn (tgt := 34) hx hb dX0_unitValue_1 (by omega) (by omega) (by first | (rw [s_1_1]; done) | (rw [s_1_1]; rfl)) (by decide) ?_
    have i2_x0 : tq_iv 2 2 x0 := ⟨by omega, by omega⟩
    refine lv_iload_n hx hb dX0_unitValue_34 rfl (lv_at hl 3 rfl) ?_
    exact hret x3 _ _ rfl ⟨_, rfl, tq_w (tq_top x3) (by decide) (by decide)⟩ dX0_unitValue_35
  by_cases s_1_2 : Int32.toInt x0 = 3
  · refine lv_tableIn (tgt := 36) hx hb dX0_unitValue_1 (by omega) (by omega) (by first | (rw [s_1_2]; done) | (rw [s_1_2]; rfl)) (by decide) ?_
    have i3_x0 : tq_iv 3 3 x0 := ⟨by omega, by omega⟩
    refine lv_iload hx hb dX0_unitValue_36 (lv_at hl 4 rfl) ?_
    exact hret x4 _ _ rfl ⟨_, rfl, tq_w (tq_top x4) (by decide) (by decide)⟩ dX0_unitValue_38
  by_cases s_1_3 : Int32.toInt x0 = 4
  · refine lv_tableIn (tgt := 39) hx hb dX0_unitValue_1 (by omega) (by omega) (by first | (rw [s_1_3]; done) | (rw [s_1_3]; rfl)) (by decide) ?_
    have i4_x0 : tq_iv 4 4 x0 := ⟨by omega, by omega⟩
    refine lv_iload hx hb dX0_unitValue_39 (lv_at hl 5 rfl) ?_
    exact hret x5 _ _ rfl ⟨_, rfl, tq_w (tq_top x5) (by decide) (by decide)⟩ dX0_unitValue_41
  refine lv_tableOut (tgt := 42) hx hb dX0_unitValue_1 (by omega) (by decide) ?_
  refine lv_iload_n hx hb dX0_unitValue_42 rfl (lv_at hl 1 rfl) ?_
  exact hret x1 _ _ rfl ⟨_, rfl, tq_w (tq_top x1) (by decide) (by decide)⟩ dX0_unitValue_43
set_option maxHeartbeats 4000000 in
set_option maxRecDepth 100000 in
theorem c_X0_value (l : Launch) (X : tq_X) (Z : tq_Z) (f : Nat → va_E) (h0 : Nat) (z_h0 : tq_z Z h0 (.inl 0)) (x1 : Int32) (x2 : Int32) (x3 : Int32) (x4 : Int32) : tq_M l X Z f [] yX0_value cX0_value 8 (some .int) 2 [.ref h0, .int x1, .int x2, .int x3, .int x4] (tq_ri (-2147483648) 2147483647) := by
  refine tq_starti (by decide) (Nat.le_of_ble_eq_true rfl) (fun p e R s m args below meth c Q hC hret hS ls hl => ?_)
  have hC : tq_C p R s m args c X (tq_A Z) RX0 cX0_value 8 2 := hC
  have hx := hC.1.1
  have hb := hC.1.2.1
  have hown := hC.1.2.2.2.1
  have hts := hC.1.2.2.2.2
  have hl : lv_has ls 8 [(0, .ref h0), (1, .int x1), (2, .int x2), (3, .int x3), (4, .int x4)] := hl
  generalize hf0 : f = f0 at hret
  have hS : tq_S X Z (tq_A Z) s.heap f0 [] f s.heap [] := hf0 ▸ hS
  refine lv_iconst (v := 0) hx hb dX0_value_0 (by decide) ?_
  refine lv_istore (lv' := [(5, .int 0), (0, .ref h0), (1, .int x1), (2, .int x2), (3, .int x3), (4, .int x4)]) hx hb dX0_value_1 hl (by decide) rfl (fun ls hl => ?_)
  refine lv_iconst (v := 0) hx hb dX0_value_3 (by decide) ?_
  refine lv_istore (lv' := [(6, .int 0), (5, .int 0), (0, .ref h0), (1, .int x1), (2, .int x2), (3, .int x3), (4, .int x4)]) hx hb dX0_value_4 hl (by decide) rfl (fun ls hl => ?_)
  have K_6 : ∀ (n_6 : Nat) (x6_6 : Int32) (x5_6 : Int32) (f : Nat → va_E) (H : Heap) (locs : List Loc) (ls : Array Slot), tq_S X Z (tq_A Z) s.heap f0 [] f H locs → tq_iv 0 31 x5_6 → tq_iv 0 270 x6_6 → (2147483647 - x6_6.toInt).toNat < n_6 → lv_has ls 8 [(6, .int x6_6), (5, .int x5_6), (0, .ref h0), (1, .int x1), (2, .int x2), (3, .int x3), (4, .int x4)] → W p l e R s m args below meth c H locs 0 0 Q (F0 m 6 ls []) := by
    intro n_6
    induction n_6 with
    | zero => intro x6_6 x5_6 f H locs ls  hS i1_x5_6 i2_x6_6 hn_6; exact absurd hn_6 (Nat.not_lt_zero _)
    | succ n_6 ih_6 =>
      intro x6_6 x5_6 f H locs ls  hS i1_x5_6 i2_x6_6 hn_6 hl
      refine lv_iload hx hb dX0_value_6 (lv_at hl 0 rfl) ?_
      refine lv_aload_n hx hb dX0_value_8 rfl (lv_at hl 2 rfl) ?_
      refine gf_RX0_13 hC hS z_h0 dX0_value_9 (fun t_9 p_9 q_9 => ?_)
      have K_173 : ∀ (f : Nat → va_E) (H : Heap) (locs : List Loc) (ls : Array Slot), tq_S X Z (tq_A Z) s.heap f0 [] f H locs → lv_has ls 8 [(5, .int x5_6), (0, .ref h0)] → W p l e R s m args below meth c H locs 0 0 Q (F0 m 173 ls []) := by
        intro f H locs ls  hS hl
        refine lv_iload hx hb dX0_value_173 (lv_at hl 0 rfl) ?_
        have K_191 : ∀ (y0_191 : Int32) (f : Nat → va_E) (H : Heap) (locs : List Loc) (ls : Array Slot), tq_S X Z (tq_A Z) s.heap f0 [] f H locs → lv_has ls 8 [] → W p l e R s m args below meth c H locs 0 0 Q (F0 m 191 ls [.int y0_191]) := by
          intro y0_191 f H locs ls  hS hl
          exact hret y0_191 _ _ _ _ _ rfl ⟨_, rfl, tq_w (tq_top y0_191) (by decide) (by decide)⟩ hS dX0_value_191
        refine lv_if_le (tgt := 190) hx hb dX0_value_175 (by decide) (fun c_175 => ?_) (fun c_175 => ?_)
        · skip
          have i3_x5_6 : tq_iv 0 0 x5_6 := tq_cut i1_x5_6 (tq_leL c_175 i1_x5_6 (⟨by decide, by decide⟩ : tq_iv 0 0 0)) (by decide) (by decide)
          refine lv_iconst (v := 0) hx hb dX0_value_190 (by decide) ?_
          exact K_191 0 _ _ _ _ hS (lv_sub hl [] rfl)
        · skip
          have i4_x5_6 : tq_iv 1 31 x5_6 := tq_cut i1_x5_6 (tq_ltR (tq_nle c_175) (⟨by decide, by decide⟩ : tq_iv 0 0 0) i1_x5_6) (by decide) (by decide)
          refine lv_aload_n hx hb dX0_value_178 rfl (lv_at hl 1 rfl) ?_
          refine gf_RX0_23 hC hS z_h0 dX0_value_179 (fun t_179 p_179 q_179 => ?_)
          refine lv_iload hx hb dX0_value_182 (lv_at hl 0 rfl) ?_
          refine lv_iconst (v := 1) hx hb dX0_value_184 (by decide) ?_
          refine lv_isub hx hb dX0_value_185 ?_
          refine lv_topi (fun t_185 e_185 => ?_)
          have i5_t_185 : tq_iv 0 30 t_185 := tq_w (tq_sub e_185 i4_x5_6 (⟨by decide, by decide⟩ : tq_iv 1 1 1) (by decide) (by decide)) (by decide) (by decide)
          refine tq_iald hC hS p_179 rfl (tq_vin i5_t_185 (by decide) (by decide)) dX0_value_186 (fun t_186 p_186 => ?_)
          refine lv_goto (tgt := 191) hx hb dX0_value_187 (by decide) ?_
          exact K_191 t_186 _ _ _ _ hS (lv_sub hl [] rfl)
      refine lv_icmp_ge (tgt := 173) hx hb dX0_value_12 (by decide) (fun c_12 => ?_) (fun c_12 => ?_)
      · skip
        have i6_t_9 : tq_iv (-2147483648) 270 t_9 := tq_cut (tq_top t_9) (tq_leL c_12 (tq_top t_9) i2_x6_6) (by decide) (by decide)
        exact K_173 _ _ _ _ hS (lv_sub hl [1, 2] rfl)
      · skip
        have i7_t_9 : tq_iv 1 2147483647 t_9 := tq_cut (tq_top t_9) (tq_ltR (tq_nle c_12) i2_x6_6 (tq_top t_9)) (by decide) (by decide)
        refine lv_iload hx hb dX0_value_15 (lv_at hl 0 rfl) ?_
        refine lv_sipush (v := 270) hx hb dX0_value_17 (by decide) ?_
        refine lv_icmp_ge (tgt := 173) hx hb dX0_value_20 (by decide) (fun c_20 => ?_) (fun c_20 => ?_)
        · skip
          have i8_x6_6 : tq_iv 270 270 x6_6 := tq_cut i2_x6_6 (tq_leR c_20 (⟨by decide, by decide⟩ : tq_iv 270 270 270) i2_x6_6) (by decide) (by decide)
          exact K_173 _ _ _ _ hS (lv_sub hl [1, 2] rfl)
        · skip
          have i9_x6_6 : tq_iv 0 269 x6_6 := tq_cut i2_x6_6 (tq_ltL (tq_nle c_20) i2_x6_6 (⟨by decide, by decide⟩ : tq_iv 270 270 270)) (by decide) (by decide)
          refine lv_aload_n hx hb dX0_value_23 rfl (lv_at hl 2 rfl) ?_
          refine gf_RX0_16 hC hS z_h0 dX0_value_24 (fun t_24 p_24 q_24 => ?_)
          refine lv_iload hx hb dX0_value_27 (lv_at hl 0 rfl) ?_
          refine tq_iald hC hS p_24 rfl (tq_vin i9_x6_6 (by decide) (by decide)) dX0_value_29 (fun t_29 p_29 => ?_)
          refine lv_istore (lv' := [(7, .int t_29), (6, .int x6_6), (5, .int x5_6), (0, .ref h0), (1, .int x1), (2, .int x2), (3, .int x3), (4, .int x4)]) hx hb dX0_value_30 hl (by decide) rfl (fun ls hl => ?_)
          refine lv_iload hx hb dX0_value_32 (lv_at hl 0 rfl) ?_
          refine lv_iconst (v := 5) hx hb dX0_value_34 (by decide) ?_
          have K_167 : ∀ (x5_167 : Int32) (f : Nat → va_E) (H : Heap) (locs : List Loc) (ls : Array Slot), tq_S X Z (tq_A Z) s.heap f0 [] f H locs → tq_iv 0 31 x5_167 → lv_has ls 8 [(5, .int x5_167), (6, .int x6_6), (0, .ref h0), (1, .int x1), (2, .int x2), (3, .int x3), (4, .int x4)] → W p l e R s m args below meth c H locs 0 0 Q (F0 m 167 ls []) := by
            intro x5_167 f H locs ls  hS i10_x5_167 hl
            obtain ⟨t_167, e_167⟩ : ∃ y : Int32, y = x6_6 + 1 := ⟨_, rfl⟩
            have i11_t_167 : tq_iv 1 270 t_167 := tq_w (tq_add e_167 i9_x6_6 (⟨by decide, by decide⟩ : tq_iv 1 1 1) (by decide) (by decide)) (by decide) (by decide)
            refine lv_iinc (v := t_167) (lv' := [(6, .int t_167), (5, .int x5_167), (0, .ref h0), (1, .int x1), (2, .int x2), (3, .int x3), (4, .int x4)]) hx hb dX0_value_167 hl (k := 1) rfl (by rw [e_167]; rfl) (by decide) rfl (fun ls hl => ?_)
            refine lv_goto (tgt := 6) hx hb dX0_value_170 (by decide) ?_
            exact ih_6 t_167 x5_167 _ _ _ _ hS (tq_w i10_x5_167 (by decide) (by decide)) (tq_w i11_t_167 (by decide) (by decide)) (tq_up e_167 i9_x6_6 (⟨by decide, by decide⟩ : tq_iv 1 1 1) (by decide) (by decide) hn_6) (lv_sub hl [0, 1, 2, 3, 4, 5, 6] rfl)
          have K_80 : ∀ (f : Nat → va_E) (H : Heap) (locs : List Loc) (ls : Array Slot), tq_S X Z (tq_A Z) s.heap f0 [] f H locs → lv_has ls 8 [(7, .int t_29), (6, .int x6_6), (5, .int x5_6), (0, .ref h0), (1, .int x1), (2, .int x2), (3, .int x3), (4, .int x4)] → W p l e R s m args below meth c H locs 0 0 Q (F0 m 80 ls []) := by
            intro f H locs ls  hS hl
            refine lv_iload hx hb dX0_value_80 (lv_at hl 0 rfl) ?_
            refine lv_iconst (v := 5) hx hb dX0_value_82 (by decide) ?_
            have K_124 : ∀ (f : Nat → va_E) (H : Heap) (locs : List Loc) (ls : Array Slot), tq_S X Z (tq_A Z) s.heap f0 [] f H locs → lv_has ls 8 [(7, .int t_29), (6, .int x6_6), (5, .int x5_6), (0, .ref h0), (1, .int x1), (2, .int x2), (3, .int x3), (4, .int x4)] → W p l e R s m args below meth c H locs 0 0 Q (F0 m 124 ls []) := by
              intro f H locs ls  hS hl
              refine lv_iload hx hb dX0_value_124 (lv_at hl 0 rfl) ?_
              refine lv_iconst (v := 5) hx hb dX0_value_126 (by decide) ?_
              refine lv_icmp_ge (tgt := 167) hx hb dX0_value_127 (by decide) (fun c_127 => ?_) (fun c_127 => ?_)
              · skip
                have i12_t_29 : tq_iv 5 2147483647 t_29 := tq_cut (tq_top t_29) (tq_leR c_127 (⟨by decide, by decide⟩ : tq_iv 5 5 5) (tq_top t_29)) (by decide) (by decide)
                exact K_167 x5_6 _ _ _ _ hS (tq_w i1_x5_6 (by decide) (by decide)) (lv_sub hl [2, 1, 3, 4, 5, 6, 7] rfl)
              · skip
                have i13_t_29 : tq_iv (-2147483648) 4 t_29 := tq_cut (tq_top t_29) (tq_ltL (tq_nle c_127) (tq_top t_29) (⟨by decide, by decide⟩ : tq_iv 5 5 5)) (by decide) (by decide)
                refine lv_iload hx hb dX0_value_130 (lv_at hl 2 rfl) ?_
                refine lv_aload_n hx hb dX0_value_132 rfl (lv_at hl 3 rfl) ?_
                refine gf_RX0_23 hC hS z_h0 dX0_value_133 (fun t_133 p_133 q_133 => ?_)
                refine tq_alenA hC hS p_133 rfl (v := 31) (by decide) dX0_value_136 ?_
                refine lv_icmp_ge (tgt := 167) hx hb dX0_value_137 (by decide) (fun c_137 => ?_) (fun c_137 => ?_)
                · skip
                  have i14_x5_6 : tq_iv 31 31 x5_6 := tq_cut i1_x5_6 (tq_leR c_137 (⟨by decide, by decide⟩ : tq_iv 31 31 31) i1_x5_6) (by decide) (by decide)
                  exact K_167 x5_6 _ _ _ _ hS (tq_w i14_x5_6 (by decide) (by decide)) (lv_sub hl [2, 1, 3, 4, 5, 6, 7] rfl)
                · skip
                  have i15_x5_6 : tq_iv 0 30 x5_6 := tq_cut i1_x5_6 (tq_ltL (tq_nle c_137) i1_x5_6 (⟨by decide, by decide⟩ : tq_iv 31 31 31)) (by decide) (by decide)
                  refine lv_aload_n hx hb dX0_value_140 rfl (lv_at hl 3 rfl) ?_
                  refine gf_RX0_23 hC hS z_h0 dX0_value_141 (fun t_141 p_141 q_141 => ?_)
                  refine lv_iload hx hb dX0_value_144 (lv_at hl 2 rfl) ?_
                  refine lv_iload hx hb dX0_value_146 (lv_at hl 0 rfl) ?_
                  refine lv_aload_n hx hb dX0_value_148 rfl (lv_at hl 3 rfl) ?_
                  refine gf_RX0_20 hC hS z_h0 dX0_value_149 (fun t_149 p_149 q_149 => ?_)
                  refine lv_iload hx hb dX0_value_152 (lv_at hl 1 rfl) ?_
                  refine tq_iald hC hS p_149 rfl (tq_vin i9_x6_6 (by decide) (by decide)) dX0_value_154 (fun t_154 p_154 => ?_)
                  refine lv_iload_n hx hb dX0_value_155 rfl (lv_at hl 4 rfl) ?_
                  refine lv_iload_n hx hb dX0_value_156 rfl (lv_at hl 5 rfl) ?_
                  refine lv_iload_n hx hb dX0_value_157 rfl (lv_at hl 6 rfl) ?_
                  refine lv_iload hx hb dX0_value_158 (lv_at hl 7 rfl) ?_
                  refine tq_callSpi (As := [.int t_29, .int t_154, .int x1, .int x2, .int x3, .int x4]) (rest := [.int x5_6, .ref t_141]) hC (c_X0_unitValue l X Z _ t_29 t_154 x1 x2 x3 x4) k_X0_unitValue ql_RX0_40 rfl (by decide) hS hl.1 rfl (Nat.le_of_ble_eq_true rfl) ⟨Nat.zero_le _, Nat.zero_le _⟩ dX0_value_160 (fun t_160 p_160 => ?_)
                  refine tq_iast hC hS p_141 rfl (tq_vin i15_x5_6 (by decide) (by decide)) trivial dX0_value_163 (fun f H locs hS k_163 => ?_)
                  obtain ⟨t_164, e_164⟩ : ∃ y : Int32, y = x5_6 + 1 := ⟨_, rfl⟩
                  have i16_t_164 : tq_iv 1 31 t_164 := tq_w (tq_add e_164 i15_x5_6 (⟨by decide, by decide⟩ : tq_iv 1 1 1) (by decide) (by decide)) (by decide) (by decide)
                  refine lv_iinc (v := t_164) (lv' := [(5, .int t_164), (7, .int t_29), (6, .int x6_6), (0, .ref h0), (1, .int x1), (2, .int x2), (3, .int x3), (4, .int x4)]) hx hb dX0_value_164 hl (k := 2) rfl (by rw [e_164]; rfl) (by decide) rfl (fun ls hl => ?_)
                  exact K_167 t_164 _ _ _ _ hS (tq_w i16_t_164 (by decide) (by decide)) (lv_sub hl [0, 2, 3, 4, 5, 6, 7] rfl)
            refine lv_icmp_ne (tgt := 124) hx hb dX0_value_83 (by decide) (fun c_83 => ?_) (fun c_83 => ?_)
            · skip
              exact K_124 _ _ _ _ hS (lv_sub hl [0, 1, 2, 3, 4, 5, 6, 7] rfl)
            · skip
              have i17_t_29 : tq_iv 5 5 t_29 := tq_cut (tq_top t_29) (tq_eqL c_83 (⟨by decide, by decide⟩ : tq_iv 5 5 5)) (by decide) (by decide)
              refine lv_iload hx hb dX0_value_86 (lv_at hl 2 rfl) ?_
              refine lv_iconst (v := 1) hx hb dX0_value_88 (by decide) ?_
              refine lv_icmp_lt (tgt := 124) hx hb dX0_value_89 (by decide) (fun c_89 => ?_) (fun c_89 => ?_)
              · skip
                have i18_x5_6 : tq_iv 0 0 x5_6 := tq_cut i1_x5_6 (tq_ltL c_89 i1_x5_6 (⟨by decide, by decide⟩ : tq_iv 1 1 1)) (by decide) (by decide)
                exact K_124 _ _ _ _ hS (lv_sub hl [0, 1, 2, 3, 4, 5, 6, 7] rfl)
              · skip
                have i19_x5_6 : tq_iv 1 31 x5_6 := tq_cut i1_x5_6 (tq_leR (tq_nlt c_89) (⟨by decide, by decide⟩ : tq_iv 1 1 1) i1_x5_6) (by decide) (by decide)
                refine lv_aload_n hx hb dX0_value_92 rfl (lv_at hl 3 rfl) ?_
                refine gf_RX0_23 hC hS z_h0 dX0_value_93 (fun t_93 p_93 q_93 => ?_)
                refine lv_iload hx hb dX0_value_96 (lv_at hl 2 rfl) ?_
                refine lv_iconst (v := 1) hx hb dX0_value_98 (by decide) ?_
                refine lv_isub hx hb dX0_value_99 ?_
                refine lv_topi (fun t_99 e_99 => ?_)
                have i20_t_99 : tq_iv 0 30 t_99 := tq_w (tq_sub e_99 i19_x5_6 (⟨by decide, by decide⟩ : tq_iv 1 1 1) (by decide) (by decide)) (by decide) (by decide)
                refine lv_aload_n hx hb dX0_value_100 rfl (lv_at hl 3 rfl) ?_
                refine gf_RX0_23 hC hS z_h0 dX0_value_101 (fun t_101 p_101 q_101 => ?_)
                refine lv_iload hx hb dX0_value_104 (lv_at hl 2 rfl) ?_
                refine lv_iconst (v := 1) hx hb dX0_value_106 (by decide) ?_
                refine lv_isub hx hb dX0_value_107 ?_
                refine lv_topi (fun t_107 e_107 => ?_)
                have i21_t_107 : tq_iv 0 30 t_107 := tq_w (tq_sub e_107 i19_x5_6 (⟨by decide, by decide⟩ : tq_iv 1 1 1) (by decide) (by decide)) (by decide) (by decide)
                refine tq_iald hC hS p_101 rfl (tq_vin i21_t_107 (by decide) (by decide)) dX0_value_108 (fun t_108 p_108 => ?_)
                have K_117 : ∀ (y0_117 : Nat) (y1_117 : Int32) (y2_117 : Int32) (f : Nat → va_E) (H : Heap) (locs : List Loc) (ls : Array Slot), tq_z Z y0_117 (.inr (.inl (1, 31))) → tq_S X Z (tq_A Z) s.heap f0 [] f H locs → tq_iv 0 30 y1_117 → tq_iv 0 1 y2_117 → lv_has ls 8 [(6, .int x6_6), (5, .int x5_6), (0, .ref h0), (1, .int x1), (2, .int x2), (3, .int x3), (4, .int x4)] → W p l e R s m args below meth c H locs 0 0 Q (F0 m 117 ls [.int y2_117, .int y1_117, .ref y0_117]) := by
                  intro y0_117 y1_117 y2_117 f H locs ls z_y0_117 hS i22_y1_117 i23_y2_117 hl
                  refine tq_callSpi (As := [.int y2_117]) (rest := [.int y1_117, .ref y0_117]) hC (c_X0_truth l X Z _ y2_117 (tq_w i23_y2_117 (by decide) (by decide))) k_X0_truth ql_RX0_36 rfl (by decide) hS hl.1 rfl (Nat.le_of_ble_eq_true rfl) ⟨Nat.zero_le _, Nat.zero_le _⟩ dX0_value_117 (fun t_117 p_117 => ?_)
                  refine tq_iast hC hS z_y0_117 rfl (tq_vin i22_y1_117 (by decide) (by decide)) trivial dX0_value_120 (fun f H locs hS k_120 => ?_)
                  refine lv_goto (tgt := 167) hx hb dX0_value_121 (by decide) ?_
                  exact K_167 x5_6 _ _ _ _ hS (tq_w i19_x5_6 (by decide) (by decide)) (lv_sub hl [1, 0, 2, 3, 4, 5, 6] rfl)
                refine lv_if_ne (tgt := 116) hx hb dX0_value_109 (by decide) (fun c_109 => ?_) (fun c_109 => ?_)
                · skip
                  refine lv_iconst (v := 0) hx hb dX0_value_116 (by decide) ?_
                  exact K_117 t_93 t_99 0 _ _ _ _ p_93 hS (tq_w i20_t_99 (by decide) (by decide)) (tq_w (⟨by decide, by decide⟩ : tq_iv 0 0 0) (by decide) (by decide)) (lv_sub hl [1, 2, 3, 4, 5, 6, 7] rfl)
                · skip
                  have i24_t_108 : tq_iv 0 0 t_108 := tq_cut (tq_top t_108) (tq_eqL c_109 (⟨by decide, by decide⟩ : tq_iv 0 0 0)) (by decide) (by decide)
                  refine lv_iconst (v := 1) hx hb dX0_value_112 (by decide) ?_
                  refine lv_goto (tgt := 117) hx hb dX0_value_113 (by decide) ?_
                  exact K_117 t_93 t_99 1 _ _ _ _ p_93 hS (tq_w i20_t_99 (by decide) (by decide)) (tq_w (⟨by decide, by decide⟩ : tq_iv 1 1 1) (by decide) (by decide)) (lv_sub hl [1, 2, 3, 4, 5, 6, 7] rfl)
          refine lv_icmp_le (tgt := 80) hx hb dX0_value_35 (by decide) (fun c_35 => ?_) (fun c_35 => ?_)
          · skip
            have i25_t_29 : tq_iv (-2147483648) 5 t_29 := tq_cut (tq_top t_29) (tq_leL c_35 (tq_top t_29) (⟨by decide, by decide⟩ : tq_iv 5 5 5)) (by decide) (by decide)
            exact K_80 _ _ _ _ hS (lv_sub hl [0, 1, 2, 3, 4, 5, 6, 7] rfl)
          · skip
            have i26_t_29 : tq_iv 6 2147483647 t_29 := tq_cut (tq_top t_29) (tq_ltR (tq_nle c_35) (⟨by decide, by decide⟩ : tq_iv 5 5 5) (tq_top t_29)) (by decide) (by decide)
            refine lv_iload hx hb dX0_value_38 (lv_at hl 2 rfl) ?_
            refine lv_iconst (v := 2) hx hb dX0_value_40 (by decide) ?_
            refine lv_icmp_lt (tgt := 80) hx hb dX0_value_41 (by decide) (fun c_41 => ?_) (fun c_41 => ?_)
            · skip
              have i27_x5_6 : tq_iv 0 1 x5_6 := tq_cut i1_x5_6 (tq_ltL c_41 i1_x5_6 (⟨by decide, by decide⟩ : tq_iv 2 2 2)) (by decide) (by decide)
              exact K_80 _ _ _ _ hS (lv_sub hl [0, 1, 2, 3, 4, 5, 6, 7] rfl)
            · skip
              have i28_x5_6 : tq_iv 2 31 x5_6 := tq_cut i1_x5_6 (tq_leR (tq_nlt c_41) (⟨by decide, by decide⟩ : tq_iv 2 2 2) i1_x5_6) (by decide) (by decide)
              obtain ⟨t_44, e_44⟩ : ∃ y : Int32, y = x5_6 + (-1) := ⟨_, rfl⟩
              have i29_t_44 : tq_iv 1 30 t_44 := tq_w (tq_add e_44 i28_x5_6 (⟨by decide, by decide⟩ : tq_iv (-1) (-1) (-1)) (by decide) (by decide)) (by decide) (by decide)
              refine lv_iinc (v := t_44) (lv' := [(5, .int t_44), (7, .int t_29), (6, .int x6_6), (0, .ref h0), (1, .int x1), (2, .int x2), (3, .int x3), (4, .int x4)]) hx hb dX0_value_44 hl (k := 2) rfl (by rw [e_44]; rfl) (by decide) rfl (fun ls hl => ?_)
              refine lv_aload_n hx hb dX0_value_47 rfl (lv_at hl 3 rfl) ?_
              refine gf_RX0_23 hC hS z_h0 dX0_value_48 (fun t_48 p_48 q_48 => ?_)
              refine lv_iload hx hb dX0_value_51 (lv_at hl 0 rfl) ?_
              refine lv_iconst (v := 1) hx hb dX0_value_53 (by decide) ?_
              refine lv_isub hx hb dX0_value_54 ?_
              refine lv_topi (fun t_54 e_54 => ?_)
              have i30_t_54 : tq_iv 0 29 t_54 := tq_w (tq_sub e_54 i29_t_44 (⟨by decide, by decide⟩ : tq_iv 1 1 1) (by decide) (by decide)) (by decide) (by decide)
              refine lv_iload hx hb dX0_value_55 (lv_at hl 1 rfl) ?_
              refine lv_aload_n hx hb dX0_value_57 rfl (lv_at hl 3 rfl) ?_
              refine gf_RX0_23 hC hS z_h0 dX0_value_58 (fun t_58 p_58 q_58 => ?_)
              refine lv_iload hx hb dX0_value_61 (lv_at hl 0 rfl) ?_
              refine lv_iconst (v := 1) hx hb dX0_value_63 (by decide) ?_
              refine lv_isub hx hb dX0_value_64 ?_
              refine lv_topi (fun t_64 e_64 => ?_)
              have i31_t_64 : tq_iv 0 29 t_64 := tq_w (tq_sub e_64 i29_t_44 (⟨by decide, by decide⟩ : tq_iv 1 1 1) (by decide) (by decide)) (by decide) (by decide)
              refine tq_iald hC hS p_58 rfl (tq_vin i31_t_64 (by decide) (by decide)) dX0_value_65 (fun t_65 p_65 => ?_)
              refine lv_aload_n hx hb dX0_value_66 rfl (lv_at hl 3 rfl) ?_
              refine gf_RX0_23 hC hS z_h0 dX0_value_67 (fun t_67 p_67 q_67 => ?_)
              refine lv_iload hx hb dX0_value_70 (lv_at hl 0 rfl) ?_
              refine tq_iald hC hS p_67 rfl (tq_vin i29_t_44 (by decide) (by decide)) dX0_value_72 (fun t_72 p_72 => ?_)
              refine tq_callSpi (As := [.int t_29, .int t_65, .int t_72]) (rest := [.int t_54, .ref t_48]) hC (c_X0_joined l X Z _ t_29 t_65 t_72) k_X0_joined ql_RX0_32 rfl (by decide) hS hl.1 rfl (Nat.le_of_ble_eq_true rfl) ⟨Nat.zero_le _, Nat.zero_le _⟩ dX0_value_73 (fun t_73 p_73 => ?_)
              refine tq_iast hC hS p_48 rfl (tq_vin i30_t_54 (by decide) (by decide)) trivial dX0_value_76 (fun f H locs hS k_76 => ?_)
              refine lv_goto (tgt := 167) hx hb dX0_value_77 (by decide) ?_
              exact K_167 t_44 _ _ _ _ hS (tq_w i29_t_44 (by decide) (by decide)) (lv_sub hl [0, 2, 3, 4, 5, 6, 7] rfl)
  exact K_6 _ 0 0 _ _ _ _ hS (tq_w (⟨by decide, by decide⟩ : tq_iv 0 0 0) (by decide) (by decide)) (tq_w (⟨by decide, by decide⟩ : tq_iv 0 0 0) (by decide) (by decide)) (Nat.lt_succ_self _) (lv_sub hl [0, 1, 2, 3, 4, 5, 6] rfl)
set_option maxHeartbeats 4000000 in
set_option maxRecDepth 100000 in
theorem c_X6_besideOf (l : Launch) (X : tq_X) (Z : tq_Z) (f : Nat → va_E) (h0 : Nat) (z_h0 : tq_z Z h0 (.inl 6)) (x1 : Int32) (x2 : Int32) : tq_Mp l X Z f yX6_besideOf cX6_besideOf 5 (some .int) 2 [.ref h0, .int x1, .int x2] (tq_ri (-2147483648) 2147483647) := by
  refine tq_startip (by decide) (Nat.le_of_ble_eq_true rfl) (fun p e R s m args below meth c Q hC hret hS ls hl => ?_)
  have hC : tq_C p R s m args c X (tq_A Z) RX6 cX6_besideOf 5 2 := hC
  have hx := hC.1.1
  have hb := hC.1.2.1
  have hown := hC.1.2.2.2.1
  have hts := hC.1.2.2.2.2
  have hl : lv_has ls 5 [(0, .ref h0), (1, .int x1), (2, .int x2)] := hl
  refine lv_iload_n hx hb dX6_besideOf_0 rfl (lv_at hl 2 rfl) ?_
  have K_16 : ∀ (y0_16 : Int32) (ls : Array Slot), lv_has ls 5 [(0, .ref h0), (1, .int x1), (2, .int x2)] → W p l e R s m args below meth c s.heap [] 0 0 Q (F0 m 16 ls [.int y0_16]) := by
    intro y0_16 ls  hl
    refine lv_istore_n (lv' := [(3, .int y0_16), (0, .ref h0), (1, .int x1), (2, .int x2)]) hx hb dX6_besideOf_16 rfl hl (by decide) rfl (fun ls hl => ?_)
    refine lv_iload_n hx hb dX6_besideOf_17 rfl (lv_at hl 3 rfl) ?_
    refine lv_iconst (v := 1) hx hb dX6_besideOf_18 (by decide) ?_
    refine lv_iadd hx hb dX6_besideOf_19 ?_
    refine lv_topi (fun t_19 e_19 => ?_)
    refine lv_aload_n hx hb dX6_besideOf_20 rfl (lv_at hl 1 rfl) ?_
    refine gf_RX6_18 hC hS z_h0 dX6_besideOf_21 (fun t_21 p_21 q_21 => ?_)
    have K_39 : ∀ (y0_39 : Int32) (ls : Array Slot), lv_has ls 5 [(3, .int y0_16)] → W p l e R s m args below meth c s.heap [] 0 0 Q (F0 m 39 ls [.int y0_39]) := by
      intro y0_39 ls  hl
      refine lv_istore (lv' := [(4, .int y0_39), (3, .int y0_16)]) hx hb dX6_besideOf_39 hl (by decide) rfl (fun ls hl => ?_)
      refine lv_iload_n hx hb dX6_besideOf_41 rfl (lv_at hl 1 rfl) ?_
      refine lv_iload hx hb dX6_besideOf_42 (lv_at hl 0 rfl) ?_
      refine va_mmax hx hb (hC.1.2.2.1.trans hl.1.symm) hown (hts _ ql_RX6_47) (hts _ qm_max_s) (hts _ qm_i) (hts _ qm_max_c) (Nat.le_trans (by decide) hC.2.2.1) (Nat.le_trans (Nat.le_of_ble_eq_true rfl) hC.2.2.2.1) (Nat.zero_le _) (Nat.zero_le _) dX6_besideOf_44 ?_
      refine lv_topi (fun t_44 e_44 => ?_)
      exact hret t_44 _ _ rfl ⟨_, rfl, tq_w (tq_top t_44) (by decide) (by decide)⟩ dX6_besideOf_47
    refine lv_icmp_ge (tgt := 38) hx hb dX6_besideOf_24 (by decide) (fun c_24 => ?_) (fun c_24 => ?_)
    · skip
      have i1_t_19 : tq_iv 0 2147483647 t_19 := tq_cut (tq_top t_19) (tq_leR c_24 p_21 (tq_top t_19)) (by decide) (by decide)
      refine lv_iconst (v := 0) hx hb dX6_besideOf_38 (by decide) ?_
      exact K_39 0 _ (lv_sub hl [0] rfl)
    · skip
      have i2_t_19 : tq_iv (-2147483648) 998 t_19 := tq_cut (tq_top t_19) (tq_ltL (tq_nle c_24) (tq_top t_19) p_21) (by decide) (by decide)
      refine lv_aload_n hx hb dX6_besideOf_27 rfl (lv_at hl 1 rfl) ?_
      refine lv_iload_n hx hb dX6_besideOf_28 rfl (lv_at hl 2 rfl) ?_
      refine lv_iload_n hx hb dX6_besideOf_29 rfl (lv_at hl 3 rfl) ?_
      refine lv_iconst (v := 1) hx hb dX6_besideOf_30 (by decide) ?_
      refine lv_iadd hx hb dX6_besideOf_31 ?_
      refine lv_topi (fun t_31 e_31 => ?_)
      refine tq_callVpi (As := [.int x1, .int t_31]) (rest := []) hC (c_X6_depthAt l X Z _ h0 z_h0 x1 t_31) k_X6_depthAt ql_RX6_41 rfl (by decide) hS z_h0 rfl hl.1 rfl (Nat.le_of_ble_eq_true rfl) ⟨Nat.zero_le _, Nat.zero_le _⟩ dX6_besideOf_32 (fun t_32 p_32 => ?_)
      refine lv_goto (tgt := 39) hx hb dX6_besideOf_35 (by decide) ?_
      exact K_39 t_32 _ (lv_sub hl [0] rfl)
  refine lv_if_le (tgt := 15) hx hb dX6_besideOf_1 (by decide) (fun c_1 => ?_) (fun c_1 => ?_)
  · skip
    have i3_x2 : tq_iv (-2147483648) 0 x2 := tq_cut (tq_top x2) (tq_leL c_1 (tq_top x2) (⟨by decide, by decide⟩ : tq_iv 0 0 0)) (by decide) (by decide)
    refine lv_iconst (v := 0) hx hb dX6_besideOf_15 (by decide) ?_
    exact K_16 0 _ (lv_sub hl [0, 1, 2] rfl)
  · skip
    have i4_x2 : tq_iv 1 2147483647 x2 := tq_cut (tq_top x2) (tq_ltR (tq_nle c_1) (⟨by decide, by decide⟩ : tq_iv 0 0 0) (tq_top x2)) (by decide) (by decide)
    refine lv_aload_n hx hb dX6_besideOf_4 rfl (lv_at hl 0 rfl) ?_
    refine lv_iload_n hx hb dX6_besideOf_5 rfl (lv_at hl 1 rfl) ?_
    refine lv_iload_n hx hb dX6_besideOf_6 rfl (lv_at hl 2 rfl) ?_
    refine lv_iconst (v := 1) hx hb dX6_besideOf_7 (by decide) ?_
    refine lv_isub hx hb dX6_besideOf_8 ?_
    refine lv_topi (fun t_8 e_8 => ?_)
    have i5_t_8 : tq_iv 0 2147483646 t_8 := tq_w (tq_sub e_8 i4_x2 (⟨by decide, by decide⟩ : tq_iv 1 1 1) (by decide) (by decide)) (by decide) (by decide)
    refine tq_callVpi (As := [.int x1, .int t_8]) (rest := []) hC (c_X6_depthAt l X Z _ h0 z_h0 x1 t_8) k_X6_depthAt ql_RX6_41 rfl (by decide) hS z_h0 rfl hl.1 rfl (Nat.le_of_ble_eq_true rfl) ⟨Nat.zero_le _, Nat.zero_le _⟩ dX6_besideOf_9 (fun t_9 p_9 => ?_)
    refine lv_goto (tgt := 16) hx hb dX6_besideOf_12 (by decide) ?_
    exact K_16 t_9 _ (lv_sub hl [0, 1, 2] rfl)
set_option maxHeartbeats 4000000 in
set_option maxRecDepth 100000 in
theorem c_X6_deeper (l : Launch) (X : tq_X) (Z : tq_Z) (f : Nat → va_E) (h0 : Nat) (z_h0 : tq_z Z h0 (.inl 6)) (x1 : Int32) (x2 : Int32) : tq_Mp l X Z f yX6_deeper cX6_deeper 5 (some .int) 3 [.ref h0, .int x1, .int x2] (tq_ri (-2147483648) 2147483647) := by
  refine tq_startip (by decide) (Nat.le_of_ble_eq_true rfl) (fun p e R s m args below meth c Q hC hret hS ls hl => ?_)
  have hC : tq_C p R s m args c X (tq_A Z) RX6 cX6_deeper 5 3 := hC
  have hx := hC.1.1
  have hb := hC.1.2.1
  have hown := hC.1.2.2.2.1
  have hts := hC.1.2.2.2.2
  have hl : lv_has ls 5 [(0, .ref h0), (1, .int x1), (2, .int x2)] := hl
  refine lv_aload_n hx hb dX6_deeper_0 rfl (lv_at hl 0 rfl) ?_
  refine lv_iload_n hx hb dX6_deeper_1 rfl (lv_at hl 1 rfl) ?_
  refine lv_iload_n hx hb dX6_deeper_2 rfl (lv_at hl 2 rfl) ?_
  refine tq_callVpi (As := [.int x1, .int x2]) (rest := []) hC (c_X6_depthAt l X Z _ h0 z_h0 x1 x2) k_X6_depthAt ql_RX6_41 rfl (by decide) hS z_h0 rfl hl.1 rfl (Nat.le_of_ble_eq_true rfl) ⟨Nat.zero_le _, Nat.zero_le _⟩ dX6_deeper_3 (fun t_3 p_3 => ?_)
  refine lv_istore_n (lv' := [(3, .int t_3), (0, .ref h0), (1, .int x1), (2, .int x2)]) hx hb dX6_deeper_6 rfl hl (by decide) rfl (fun ls hl => ?_)
  refine lv_iload_n hx hb dX6_deeper_7 rfl (lv_at hl 0 rfl) ?_
  refine lv_iconst (v := 1) hx hb dX6_deeper_8 (by decide) ?_
  refine lv_iadd hx hb dX6_deeper_9 ?_
  refine lv_topi (fun t_9 e_9 => ?_)
  refine lv_aload_n hx hb dX6_deeper_10 rfl (lv_at hl 1 rfl) ?_
  refine gf_RX6_22 hC hS z_h0 dX6_deeper_11 (fun t_11 p_11 q_11 => ?_)
  refine lv_icmp_lt (tgt := 19) hx hb dX6_deeper_14 (by decide) (fun c_14 => ?_) (fun c_14 => ?_)
  · skip
    have i1_t_9 : tq_iv (-2147483648) 998 t_9 := tq_cut (tq_top t_9) (tq_ltL c_14 (tq_top t_9) p_11) (by decide) (by decide)
    refine lv_iload_n hx hb dX6_deeper_19 rfl (lv_at hl 2 rfl) ?_
    refine lv_iload_n hx hb dX6_deeper_20 rfl (lv_at hl 3 rfl) ?_
    refine lv_iload_n hx hb dX6_deeper_21 rfl (lv_at hl 0 rfl) ?_
    refine tq_callSpi (As := [.int x2, .int t_3]) (rest := [.int x1]) hC (c_X6_notch l X Z _ x2 t_3) k_X6_notch ql_RX6_44 rfl (by decide) hS hl.1 rfl (Nat.le_of_ble_eq_true rfl) ⟨Nat.zero_le _, Nat.zero_le _⟩ dX6_deeper_22 (fun t_22 p_22 => ?_)
    refine lv_ixor hx hb dX6_deeper_25 ?_
    refine lv_topi (fun t_25 e_25 => ?_)
    refine lv_iload_n hx hb dX6_deeper_26 rfl (lv_at hl 3 rfl) ?_
    refine lv_iload_n hx hb dX6_deeper_27 rfl (lv_at hl 0 rfl) ?_
    refine lv_iconst (v := 1) hx hb dX6_deeper_28 (by decide) ?_
    refine lv_iadd hx hb dX6_deeper_29 ?_
    refine lv_topi (fun t_29 e_29 => ?_)
    refine tq_callSpi (As := [.int x2, .int t_29]) (rest := [.int t_25]) hC (c_X6_notch l X Z _ x2 t_29) k_X6_notch ql_RX6_44 rfl (by decide) hS hl.1 rfl (Nat.le_of_ble_eq_true rfl) ⟨Nat.zero_le _, Nat.zero_le _⟩ dX6_deeper_30 (fun t_30 p_30 => ?_)
    refine lv_ixor hx hb dX6_deeper_33 ?_
    refine lv_topi (fun t_33 e_33 => ?_)
    refine lv_istore (lv' := [(4, .int t_33), (3, .int t_3), (0, .ref h0), (1, .int x1), (2, .int x2)]) hx hb dX6_deeper_34 hl (by decide) rfl (fun ls hl => ?_)
    refine lv_aload_n hx hb dX6_deeper_36 rfl (lv_at hl 2 rfl) ?_
    refine lv_iload hx hb dX6_deeper_37 (lv_at hl 0 rfl) ?_
    refine tq_callVpi (As := [.int t_33]) (rest := []) hC (c_X6_isLegal l X Z _ h0 z_h0 t_33) k_X6_isLegal ql_RX6_55 rfl (by decide) hS z_h0 rfl hl.1 rfl (Nat.le_of_ble_eq_true rfl) ⟨Nat.zero_le _, Nat.zero_le _⟩ dX6_deeper_39 (fun t_39 p_39 => ?_)
    have K_51 : ∀ (y0_51 : Int32) (ls : Array Slot), lv_has ls 5 [] → W p l e R s m args below meth c s.heap [] 0 0 Q (F0 m 51 ls [.int y0_51]) := by
      intro y0_51 ls  hl
      exact hret y0_51 _ _ rfl ⟨_, rfl, tq_w (tq_top y0_51) (by decide) (by decide)⟩ dX6_deeper_51
    refine lv_if_eq (tgt := 50) hx hb dX6_deeper_42 (by decide) (fun c_42 => ?_) (fun c_42 => ?_)
    · skip
      have i2_t_39 : tq_iv 0 0 t_39 := tq_cut p_39 (tq_eqL c_42 (⟨by decide, by decide⟩ : tq_iv 0 0 0)) (by decide) (by decide)
      refine lv_iconst (v := 0) hx hb dX6_deeper_50 (by decide) ?_
      exact K_51 0 _ (lv_sub hl [] rfl)
    · skip
      have i3_t_39 : tq_iv 1 1 t_39 := tq_w (tq_neLo c_42 p_39 (⟨by decide, by decide⟩ : tq_iv 0 0 0)) (by decide) (by decide)
      refine lv_iload hx hb dX6_deeper_45 (lv_at hl 0 rfl) ?_
      refine lv_goto (tgt := 51) hx hb dX6_deeper_47 (by decide) ?_
      exact K_51 t_33 _ (lv_sub hl [] rfl)
  · skip
    have i4_t_9 : tq_iv 0 2147483647 t_9 := tq_cut (tq_top t_9) (tq_leR (tq_nlt c_14) p_11 (tq_top t_9)) (by decide) (by decide)
    refine lv_iconst (v := 0) hx hb dX6_deeper_17 (by decide) ?_
    exact hret 0 _ _ rfl ⟨_, rfl, tq_w (⟨by decide, by decide⟩ : tq_iv 0 0 0) (by decide) (by decide)⟩ dX6_deeper_18
set_option maxHeartbeats 4000000 in
set_option maxRecDepth 100000 in
theorem c_X7_putUsed (l : Launch) (X : tq_X) (Z : tq_Z) (f : Nat → va_E) (h0 : Nat) (z_h0 : tq_z Z h0 (.inl 7)) (x1 : Int32) (x2 : Int32) : tq_M l X Z f [] yX7_putUsed cX7_putUsed 3 (none) 1 [.ref h0, .int x1, .int x2] tq_rv := by
  refine tq_startv (by decide) (Nat.le_of_ble_eq_true rfl) (fun p e R s m args below meth c Q hC hret hS ls hl => ?_)
  have hC : tq_C p R s m args c X (tq_A Z) RX7 cX7_putUsed 3 1 := hC
  have hx := hC.1.1
  have hb := hC.1.2.1
  have hown := hC.1.2.2.2.1
  have hts := hC.1.2.2.2.2
  have hl : lv_has ls 3 [(0, .ref h0), (1, .int x1), (2, .int x2)] := hl
  generalize hf0 : f = f0 at hret
  have hS : tq_S X Z (tq_A Z) s.heap f0 [] f s.heap [] := hf0 ▸ hS
  refine lv_aload_n hx hb dX7_putUsed_0 rfl (lv_at hl 0 rfl) ?_
  refine lv_bipush (v := 8) hx hb dX7_putUsed_1 (by decide) ?_
  refine lv_iload_n hx hb dX7_putUsed_3 rfl (lv_at hl 1 rfl) ?_
  refine lv_iadd hx hb dX7_putUsed_4 ?_
  refine lv_topi (fun t_4 e_4 => ?_)
  refine lv_iload_n hx hb dX7_putUsed_5 rfl (lv_at hl 2 rfl) ?_
  refine tq_callVv (As := [.int t_4, .int x2]) (rest := []) hC (c_X7_put l X Z _ h0 z_h0 t_4 x2) k_X7_put ql_RX7_31 (by decide) rfl (by decide) hS z_h0 rfl hl.1 rfl (Nat.le_of_ble_eq_true rfl) ⟨Nat.zero_le _, Nat.zero_le _⟩ dX7_putUsed_6 (fun f1_6 H locs hS k_6 => ?_)
  exact hret _ _ _ _ _ rfl hS dX7_putUsed_9
set_option maxHeartbeats 4000000 in
set_option maxRecDepth 100000 in
theorem c_X7_seed (l : Launch) (X : tq_X) (Z : tq_Z) (f : Nat → va_E) (h0 : Nat) (z_h0 : tq_z Z h0 (.inl 7)) : tq_Mp l X Z f yX7_seed cX7_seed 1 (some .int) 1 [.ref h0] (tq_ri (-2147483648) 2147483647) := by
  refine tq_startip (by decide) (Nat.le_of_ble_eq_true rfl) (fun p e R s m args below meth c Q hC hret hS ls hl => ?_)
  have hC : tq_C p R s m args c X (tq_A Z) RX7 cX7_seed 1 1 := hC
  have hx := hC.1.1
  have hb := hC.1.2.1
  have hown := hC.1.2.2.2.1
  have hts := hC.1.2.2.2.2
  have hl : lv_has ls 1 [(0, .ref h0)] := hl
  refine lv_aload_n hx hb dX7_seed_0 rfl (lv_at hl 0 rfl) ?_
  refine lv_bipush (v := 34) hx hb dX7_seed_1 (by decide) ?_
  refine tq_callVpi (As := [.int 34]) (rest := []) hC (c_X7_look l X Z _ h0 z_h0 34) k_X7_look ql_RX7_27 rfl (by decide) hS z_h0 rfl hl.1 rfl (Nat.le_of_ble_eq_true rfl) ⟨Nat.zero_le _, Nat.zero_le _⟩ dX7_seed_3 (fun t_3 p_3 => ?_)
  exact hret t_3 _ _ rfl ⟨_, rfl, tq_w (tq_top t_3) (by decide) (by decide)⟩ dX7_seed_6
set_option maxHeartbeats 4000000 in
set_option maxRecDepth 100000 in
theorem c_X11_useOnce (l : Launch) (X : tq_X) (Z : tq_Z) (f : Nat → va_E) (h0 : Nat) (z_h0 : tq_z Z h0 (.inl 11)) (h1 : Nat) (z_h1 : tq_z Z h1 (.inl 7)) (x2 : Int32) : tq_M l X Z f [] yX11_useOnce cX11_useOnce 8 (none) 4 [.ref h0, .ref h1, .int x2] tq_rv := by
  refine tq_startv (by decide) (Nat.le_of_ble_eq_true rfl) (fun p e R s m args below meth c Q hC hret hS ls hl => ?_)
  have hC : tq_C p R s m args c X (tq_A Z) RX11 cX11_useOnce 8 4 := hC
  have hx := hC.1.1
  have hb := hC.1.2.1
  have hown := hC.1.2.2.2.1
  have hts := hC.1.2.2.2.2
  have hl : lv_has ls 8 [(0, .ref h0), (1, .ref h1), (2, .int x2)] := hl
  generalize hf0 : f = f0 at hret
  have hS : tq_S X Z (tq_A Z) s.heap f0 [] f s.heap [] := hf0 ▸ hS
  refine lv_aload_n hx hb dX11_useOnce_0 rfl (lv_at hl 1 rfl) ?_
  refine tq_callVpi (As := []) (rest := []) hC (c_X7_seed l X Z _ h1 z_h1) k_X7_seed ql_RX11_236 rfl (by decide) hS z_h1 rfl hl.1 rfl (Nat.le_of_ble_eq_true rfl) ⟨Nat.zero_le _, Nat.zero_le _⟩ dX11_useOnce_1 (fun t_1 p_1 => ?_)
  refine lv_sipush (v := 137) hx hb dX11_useOnce_4 (by decide) ?_
  refine lv_imul hx hb dX11_useOnce_7 ?_
  refine lv_topi (fun t_7 e_7 => ?_)
  refine lv_bipush (v := 71) hx hb dX11_useOnce_8 (by decide) ?_
  refine lv_iadd hx hb dX11_useOnce_10 ?_
  refine lv_topi (fun t_10 e_10 => ?_)
  refine lv_sipush (v := 1000) hx hb dX11_useOnce_11 (by decide) ?_
  refine lv_irem hx hb dX11_useOnce_14 (tq_nz (⟨by decide, by decide⟩ : tq_iv 1000 1000 1000) (by decide)) ?_
  refine lv_topi (fun t_14 e_14 => ?_)
  refine lv_istore_n (lv' := [(3, .int t_14), (0, .ref h0), (1, .ref h1), (2, .int x2)]) hx hb dX11_useOnce_15 rfl hl (by decide) rfl (fun ls hl => ?_)
  refine lv_aload_n hx hb dX11_useOnce_16 rfl (lv_at hl 2 rfl) ?_
  refine lv_iload_n hx hb dX11_useOnce_17 rfl (lv_at hl 0 rfl) ?_
  refine tq_callVv (As := [.int t_14]) (rest := []) hC (c_X7_putSeed l X Z _ h1 z_h1 t_14) k_X7_putSeed ql_RX11_240 (by decide) rfl (by decide) hS z_h1 rfl hl.1 rfl (Nat.le_of_ble_eq_true rfl) ⟨Nat.zero_le _, Nat.zero_le _⟩ dX11_useOnce_18 (fun f1_18 H locs hS k_18 => ?_)
  refine lv_aload_n hx hb dX11_useOnce_21 rfl (lv_at hl 2 rfl) ?_
  refine lv_iload_n hx hb dX11_useOnce_22 rfl (lv_at hl 3 rfl) ?_
  refine tq_callVpi (As := [.int x2]) (rest := []) hC (c_X7_bits l X Z _ h1 z_h1 x2) k_X7_bits ql_RX11_140 rfl (by decide) hS z_h1 rfl hl.1 rfl (Nat.le_of_ble_eq_true rfl) ⟨Nat.zero_le _, Nat.zero_le _⟩ dX11_useOnce_23 (fun t_23 p_23 => ?_)
  refine lv_istore (lv' := [(4, .int t_23), (3, .int t_14), (0, .ref h0), (1, .ref h1), (2, .int x2)]) hx hb dX11_useOnce_26 hl (by decide) rfl (fun ls hl => ?_)
  refine lv_iload_n hx hb dX11_useOnce_28 rfl (lv_at hl 1 rfl) ?_
  refine lv_iconst (v := 1) hx hb dX11_useOnce_29 (by decide) ?_
  refine lv_aload_n hx hb dX11_useOnce_30 rfl (lv_at hl 2 rfl) ?_
  refine gf_RX11_37 hC hS z_h0 dX11_useOnce_31 (fun t_31 p_31 q_31 => ?_)
  refine gf_RX11_243 hC hS p_31 dX11_useOnce_34 (fun t_34 p_34 q_34 => ?_)
  refine va_mmax hx hb (hC.1.2.2.1.trans hl.1.symm) hown (hts _ ql_RX11_246) (hts _ qm_max_s) (hts _ qm_i) (hts _ qm_max_c) (Nat.le_trans (by decide) hC.2.2.1) (Nat.le_trans (Nat.le_of_ble_eq_true rfl) hC.2.2.2.1) (Nat.zero_le _) (Nat.zero_le _) dX11_useOnce_37 ?_
  refine lv_topi (fun t_37 e_37 => ?_)
  have i1_t_37 : tq_iv 1 999 t_37 := tq_w (tq_max e_37 (⟨by decide, by decide⟩ : tq_iv 1 1 1) p_34) (by decide) (by decide)
  refine lv_irem hx hb dX11_useOnce_40 (tq_nz i1_t_37 (by decide)) ?_
  refine lv_topi (fun t_40 e_40 => ?_)
  refine lv_istore (lv' := [(5, .int t_40), (4, .int t_23), (3, .int t_14), (0, .ref h0), (1, .ref h1), (2, .int x2)]) hx hb dX11_useOnce_41 hl (by decide) rfl (fun ls hl => ?_)
  refine lv_aload_n hx hb dX11_useOnce_43 rfl (lv_at hl 3 rfl) ?_
  refine gf_RX11_29 hC hS z_h0 dX11_useOnce_44 (fun t_44 p_44 q_44 => ?_)
  refine gf_RX11_251 hC hS p_44 dX11_useOnce_47 (fun t_47 p_47 q_47 => ?_)
  refine lv_aload_n hx hb dX11_useOnce_50 rfl (lv_at hl 3 rfl) ?_
  refine gf_RX11_37 hC hS z_h0 dX11_useOnce_51 (fun t_51 p_51 q_51 => ?_)
  refine lv_iload hx hb dX11_useOnce_54 (lv_at hl 1 rfl) ?_
  refine lv_iload hx hb dX11_useOnce_56 (lv_at hl 0 rfl) ?_
  refine tq_callVpi (As := [.int t_23, .int t_40]) (rest := [.ref t_47]) hC (c_X6_depthAt l X Z _ t_51 p_51 t_23 t_40) k_X6_depthAt ql_RX11_161 rfl (by decide) hS p_51 rfl hl.1 rfl (Nat.le_of_ble_eq_true rfl) ⟨Nat.zero_le _, Nat.zero_le _⟩ dX11_useOnce_58 (fun t_58 p_58 => ?_)
  refine lv_aload_n hx hb dX11_useOnce_61 rfl (lv_at hl 3 rfl) ?_
  refine gf_RX11_37 hC hS z_h0 dX11_useOnce_62 (fun t_62 p_62 q_62 => ?_)
  refine lv_iload hx hb dX11_useOnce_65 (lv_at hl 1 rfl) ?_
  refine lv_iload hx hb dX11_useOnce_67 (lv_at hl 0 rfl) ?_
  refine tq_callVpi (As := [.int t_23, .int t_40]) (rest := [.int t_58, .ref t_47]) hC (c_X6_besideOf l X Z _ t_62 p_62 t_23 t_40) k_X6_besideOf ql_RX11_255 rfl (by decide) hS p_62 rfl hl.1 rfl (Nat.le_of_ble_eq_true rfl) ⟨Nat.zero_le _, Nat.zero_le _⟩ dX11_useOnce_69 (fun t_69 p_69 => ?_)
  refine lv_aload_n hx hb dX11_useOnce_72 rfl (lv_at hl 4 rfl) ?_
  refine lv_iload_n hx hb dX11_useOnce_73 rfl (lv_at hl 5 rfl) ?_
  refine tq_callVpi (As := [.int x2]) (rest := [.int t_69, .int t_58, .ref t_47]) hC (c_X7_used l X Z _ h1 z_h1 x2) k_X7_used ql_RX11_149 rfl (by decide) hS z_h1 rfl hl.1 rfl (Nat.le_of_ble_eq_true rfl) ⟨Nat.zero_le _, Nat.zero_le _⟩ dX11_useOnce_74 (fun t_74 p_74 => ?_)
  refine lv_iload hx hb dX11_useOnce_77 (lv_at hl 0 rfl) ?_
  refine tq_callVi (As := [.int t_58, .int t_69, .int t_74, .int t_40]) (rest := []) hC (c_X0_value l X Z _ t_47 p_47 t_58 t_69 t_74 t_40) k_X0_value ql_RX11_258 (by decide) rfl (by decide) hS p_47 rfl hl.1 rfl (Nat.le_of_ble_eq_true rfl) ⟨Nat.zero_le _, Nat.zero_le _⟩ dX11_useOnce_79 (fun t_79 f1_79 H locs p_79 hS k_79 => ?_)
  refine lv_istore (lv' := [(6, .int t_79), (5, .int t_40), (4, .int t_23), (3, .int t_14), (0, .ref h0), (1, .ref h1), (2, .int x2)]) hx hb dX11_useOnce_82 hl (by decide) rfl (fun ls hl => ?_)
  refine lv_iload_n hx hb dX11_useOnce_84 rfl (lv_at hl 3 rfl) ?_
  refine lv_bipush (v := 10) hx hb dX11_useOnce_85 (by decide) ?_
  refine lv_idiv hx hb dX11_useOnce_87 (tq_nz (⟨by decide, by decide⟩ : tq_iv 10 10 10) (by decide)) ?_
  refine lv_topi (fun t_87 e_87 => ?_)
  refine lv_iload hx hb dX11_useOnce_88 (lv_at hl 0 rfl) ?_
  have K_118 : ∀ (f : Nat → va_E) (H : Heap) (locs : List Loc) (ls : Array Slot), tq_S X Z (tq_A Z) s.heap f0 [] f H locs → lv_has ls 8 [(1, .ref h1), (2, .int x2)] → W p l e R s m args below meth c H locs 0 0 Q (F0 m 118 ls []) := by
    intro f H locs ls  hS hl
    refine lv_aload_n hx hb dX11_useOnce_118 rfl (lv_at hl 0 rfl) ?_
    refine lv_iload_n hx hb dX11_useOnce_119 rfl (lv_at hl 1 rfl) ?_
    refine lv_aload_n hx hb dX11_useOnce_120 rfl (lv_at hl 0 rfl) ?_
    refine lv_iload_n hx hb dX11_useOnce_121 rfl (lv_at hl 1 rfl) ?_
    refine tq_callVpi (As := [.int x2]) (rest := [.int x2, .ref h1]) hC (c_X7_used l X Z _ h1 z_h1 x2) k_X7_used ql_RX11_149 rfl (by decide) hS z_h1 rfl hl.1 rfl (Nat.le_of_ble_eq_true rfl) ⟨Nat.zero_le _, Nat.zero_le _⟩ dX11_useOnce_122 (fun t_122 p_122 => ?_)
    refine lv_iconst (v := 1) hx hb dX11_useOnce_125 (by decide) ?_
    refine lv_iadd hx hb dX11_useOnce_126 ?_
    refine lv_topi (fun t_126 e_126 => ?_)
    refine tq_callVv (As := [.int x2, .int t_126]) (rest := []) hC (c_X7_putUsed l X Z _ h1 z_h1 x2 t_126) k_X7_putUsed ql_RX11_270 (by decide) rfl (by decide) hS z_h1 rfl hl.1 rfl (Nat.le_of_ble_eq_true rfl) ⟨Nat.zero_le _, Nat.zero_le _⟩ dX11_useOnce_127 (fun f1_127 H locs hS k_127 => ?_)
    exact hret _ _ _ _ _ rfl hS dX11_useOnce_130
  refine lv_icmp_ge (tgt := 118) hx hb dX11_useOnce_90 (by decide) (fun c_90 => ?_) (fun c_90 => ?_)
  · skip
    exact K_118 _ _ _ _ hS (lv_sub hl [5, 6] rfl)
  · skip
    have i2_t_87 : tq_iv (-2147483648) 2147483646 t_87 := tq_cut (tq_top t_87) (tq_ltL (tq_nle c_90) (tq_top t_87) (tq_top t_79)) (by decide) (by decide)
    have i3_t_79 : tq_iv (-2147483647) 2147483647 t_79 := tq_cut (tq_top t_79) (tq_ltR (tq_nle c_90) (tq_top t_87) (tq_top t_79)) (by decide) (by decide)
    refine lv_aload_n hx hb dX11_useOnce_93 rfl (lv_at hl 4 rfl) ?_
    refine gf_RX11_37 hC hS z_h0 dX11_useOnce_94 (fun t_94 p_94 q_94 => ?_)
    refine lv_iload hx hb dX11_useOnce_97 (lv_at hl 2 rfl) ?_
    refine lv_iload hx hb dX11_useOnce_99 (lv_at hl 1 rfl) ?_
    refine tq_callVpi (As := [.int t_23, .int t_40]) (rest := []) hC (c_X6_deeper l X Z _ t_94 p_94 t_23 t_40) k_X6_deeper ql_RX11_264 rfl (by decide) hS p_94 rfl hl.1 rfl (Nat.le_of_ble_eq_true rfl) ⟨Nat.zero_le _, Nat.zero_le _⟩ dX11_useOnce_101 (fun t_101 p_101 => ?_)
    refine lv_istore (lv' := [(7, .int t_101), (6, .int t_79), (5, .int t_40), (4, .int t_23), (3, .int t_14), (0, .ref h0), (1, .ref h1), (2, .int x2)]) hx hb dX11_useOnce_104 hl (by decide) rfl (fun ls hl => ?_)
    refine lv_iload hx hb dX11_useOnce_106 (lv_at hl 0 rfl) ?_
    refine lv_if_eq (tgt := 118) hx hb dX11_useOnce_108 (by decide) (fun c_108 => ?_) (fun c_108 => ?_)
    · skip
      have i4_t_101 : tq_iv 0 0 t_101 := tq_cut (tq_top t_101) (tq_eqL c_108 (⟨by decide, by decide⟩ : tq_iv 0 0 0)) (by decide) (by decide)
      exact K_118 _ _ _ _ hS (lv_sub hl [6, 7] rfl)
    · skip
      refine lv_aload_n hx hb dX11_useOnce_111 rfl (lv_at hl 6 rfl) ?_
      refine lv_iload_n hx hb dX11_useOnce_112 rfl (lv_at hl 7 rfl) ?_
      refine lv_iload hx hb dX11_useOnce_113 (lv_at hl 0 rfl) ?_
      refine tq_callVv (As := [.int x2, .int t_101]) (rest := []) hC (c_X7_putBits l X Z _ h1 z_h1 x2 t_101) k_X7_putBits ql_RX11_267 (by decide) rfl (by decide) hS z_h1 rfl hl.1 rfl (Nat.le_of_ble_eq_true rfl) ⟨Nat.zero_le _, Nat.zero_le _⟩ dX11_useOnce_115 (fun f1_115 H locs hS k_115 => ?_)
      exact K_118 _ _ _ _ hS (lv_sub hl [6, 7] rfl)
