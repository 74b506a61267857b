set_option maxHeartbeats 4000000 in
set_option maxRecDepth 100000 in
theorem c_X11_broken (l : Launch) (X : tq_X) (Z : tq_Z) (f : Nat → va_E) (h0 : Nat) (z_h0 : tq_z Z h0 (.inl 11)) (x1 : Int32) : tq_Mp l X Z f yX11_broken cX11_broken 2 (some .int) 6 [.ref h0, .int x1] (tq_ri (-2147483648) 2147483647) := by
  refine tq_startip (by decide) (Nat.le_of_ble_eq_true rfl) (fun p e R s m args below meth c Q hC hret hS ls hl => ?_)
  have hC : tq_C p R s m args c X (tq_A Z) RX11 cX11_broken 2 6 := hC
  have hx := hC.1.1
  have hb := hC.1.2.1
  have hown := hC.1.2.2.2.1
  have hts := hC.1.2.2.2.2
  have hl : lv_has ls 2 [(0, .ref h0), (1, .int x1)] := hl
  refine lv_aload_n hx hb dX11_broken_0 rfl (lv_at hl 0 rfl) ?_
  refine gf_RX11_86 hC hS z_h0 dX11_broken_1 (fun t_1 p_1 q_1 => ?_)
  refine lv_iload_n hx hb dX11_broken_4 rfl (lv_at hl 1 rfl) ?_
  refine lv_iconst (v := 0) hx hb dX11_broken_5 (by decide) ?_
  refine tq_callVpi (As := [.int x1, .int 0]) (rest := []) hC (c_X5_tellPairs l X Z _ t_1 p_1 x1 0 (tq_w (⟨by decide, by decide⟩ : tq_iv 0 0 0) (by decide) (by decide))) k_X5_tellPairs ql_RX11_346 rfl (by decide) hS p_1 rfl hl.1 rfl (Nat.le_of_ble_eq_true rfl) ⟨Nat.zero_le _, Nat.zero_le _⟩ dX11_broken_6 (fun t_6 p_6 => ?_)
  exact hret t_6 _ _ rfl ⟨_, rfl, tq_w (tq_top t_6) (by decide) (by decide)⟩ dX11_broken_9
set_option maxHeartbeats 4000000 in
set_option maxRecDepth 100000 in
theorem c_X11_strays (l : Launch) (X : tq_X) (Z : tq_Z) (f : Nat → va_E) (h0 : Nat) (z_h0 : tq_z Z h0 (.inl 11)) (x1 : Int32) : tq_Mp l X Z f yX11_strays cX11_strays 2 (some .int) 6 [.ref h0, .int x1] (tq_ri (-2147483648) 2147483647) := by
  refine tq_startip (by decide) (Nat.le_of_ble_eq_true rfl) (fun p e R s m args below meth c Q hC hret hS ls hl => ?_)
  have hC : tq_C p R s m args c X (tq_A Z) RX11 cX11_strays 2 6 := hC
  have hx := hC.1.1
  have hb := hC.1.2.1
  have hown := hC.1.2.2.2.1
  have hts := hC.1.2.2.2.2
  have hl : lv_has ls 2 [(0, .ref h0), (1, .int x1)] := hl
  refine lv_aload_n hx hb dX11_strays_0 rfl (lv_at hl 0 rfl) ?_
  refine gf_RX11_86 hC hS z_h0 dX11_strays_1 (fun t_1 p_1 q_1 => ?_)
  refine lv_iload_n hx hb dX11_strays_4 rfl (lv_at hl 1 rfl) ?_
  refine lv_iconst (v := 1) hx hb dX11_strays_5 (by decide) ?_
  refine tq_callVpi (As := [.int x1, .int 1]) (rest := []) hC (c_X5_tellPairs l X Z _ t_1 p_1 x1 1 (tq_w (⟨by decide, by decide⟩ : tq_iv 1 1 1) (by decide) (by decide))) k_X5_tellPairs ql_RX11_346 rfl (by decide) hS p_1 rfl hl.1 rfl (Nat.le_of_ble_eq_true rfl) ⟨Nat.zero_le _, Nat.zero_le _⟩ dX11_strays_6 (fun t_6 p_6 => ?_)
  exact hret t_6 _ _ rfl ⟨_, rfl, tq_w (tq_top t_6) (by decide) (by decide)⟩ dX11_strays_9
set_option maxHeartbeats 4000000 in
set_option maxRecDepth 100000 in
theorem c_X5_addBar (l : Launch) (X : tq_X) (Z : tq_Z) (f : Nat → va_E) (h0 : Nat) (z_h0 : tq_z Z h0 (.inl 5)) (x1 : Int32) : tq_M l X Z f [(5, 4)] yX5_addBar cX5_addBar 2 (none) 0 [.ref h0, .int x1] tq_rv := by
  refine tq_startv (by decide) (Nat.le_of_ble_eq_true rfl) (fun p e R s m args below meth c Q hC hret hS ls hl => ?_)
  have hC : tq_C p R s m args c X (tq_A Z) RX5 cX5_addBar 2 0 := hC
  have hx := hC.1.1
  have hb := hC.1.2.1
  have hown := hC.1.2.2.2.1
  have hts := hC.1.2.2.2.2
  have hl : lv_has ls 2 [(0, .ref h0), (1, .int x1)] := hl
  generalize hf0 : f = f0 at hret
  have hS : tq_S X Z (tq_A Z) s.heap f0 [(5, 4)] f s.heap [] := hf0 ▸ hS
  obtain ⟨w0, p_w0, q_w0⟩ := tq_ghi hS z_h0 (k := 4) rfl
  refine lv_iload_n hx hb dX5_addBar_0 rfl (lv_at hl 1 rfl) ?_
  have K_40 : ∀ (w0_40 : Int32) (f : Nat → va_E) (H : Heap) (locs : List Loc) (ls : Array Slot), tq_S X Z (tq_A Z) s.heap f0 [(5, 4)] f H locs → tq_f f h0 4 (.int w0_40) → lv_has ls 2 [] → W p l e R s m args below meth c H locs 0 0 Q (F0 m 40 ls []) := by
    intro w0_40 f H locs ls  hS fo0_40 hl
    exact hret _ _ _ _ _ rfl hS dX5_addBar_40
  refine lv_if_eq (tgt := 40) hx hb dX5_addBar_1 (by decide) (fun c_1 => ?_) (fun c_1 => ?_)
  · skip
    have i1_x1 : tq_iv 0 0 x1 := tq_cut (tq_top x1) (tq_eqL c_1 (⟨by decide, by decide⟩ : tq_iv 0 0 0)) (by decide) (by decide)
    exact K_40 w0 _ _ _ _ hS q_w0 (lv_sub hl [] rfl)
  · skip
    refine lv_aload_n hx hb dX5_addBar_4 rfl (lv_at hl 0 rfl) ?_
    refine gk_RX5_30 hC hS z_h0 q_w0 dX5_addBar_5 ?_
    refine lv_if_lt (tgt := 40) hx hb dX5_addBar_8 (by decide) (fun c_8 => ?_) (fun c_8 => ?_)
    · skip
      have i2_w0 : tq_iv (-2147483648) (-1) w0 := tq_cut (tq_top w0) (tq_ltL c_8 (tq_top w0) (⟨by decide, by decide⟩ : tq_iv 0 0 0)) (by decide) (by decide)
      exact K_40 w0 _ _ _ _ hS q_w0 (lv_sub hl [] rfl)
    · skip
      have i3_w0 : tq_iv 0 2147483647 w0 := tq_cut (tq_top w0) (tq_leR (tq_nlt c_8) (⟨by decide, by decide⟩ : tq_iv 0 0 0) (tq_top w0)) (by decide) (by decide)
      refine lv_aload_n hx hb dX5_addBar_11 rfl (lv_at hl 0 rfl) ?_
      refine gk_RX5_30 hC hS z_h0 q_w0 dX5_addBar_12 ?_
      refine lv_bipush (v := 48) hx hb dX5_addBar_15 (by decide) ?_
      refine lv_icmp_ge (tgt := 40) hx hb dX5_addBar_17 (by decide) (fun c_17 => ?_) (fun c_17 => ?_)
      · skip
        have i4_w0 : tq_iv 48 2147483647 w0 := tq_cut i3_w0 (tq_leR c_17 (⟨by decide, by decide⟩ : tq_iv 48 48 48) i3_w0) (by decide) (by decide)
        exact K_40 w0 _ _ _ _ hS q_w0 (lv_sub hl [] rfl)
      · skip
        have i5_w0 : tq_iv 0 47 w0 := tq_cut i3_w0 (tq_ltL (tq_nle c_17) i3_w0 (⟨by decide, by decide⟩ : tq_iv 48 48 48)) (by decide) (by decide)
        refine lv_aload_n hx hb dX5_addBar_20 rfl (lv_at hl 0 rfl) ?_
        refine gf_RX5_26 hC hS z_h0 dX5_addBar_21 (fun t_21 p_21 q_21 => ?_)
        refine lv_aload_n hx hb dX5_addBar_24 rfl (lv_at hl 0 rfl) ?_
        refine gk_RX5_30 hC hS z_h0 q_w0 dX5_addBar_25 ?_
        refine lv_iload_n hx hb dX5_addBar_28 rfl (lv_at hl 1 rfl) ?_
        refine tq_iast hC hS p_21 rfl (tq_vin i5_w0 (by decide) (by decide)) trivial dX5_addBar_29 (fun f H locs hS k_29 => ?_)
        have q6_29 := k_29 _ _ _ (tq_ne z_h0 p_21 (fun q => by cases q)) q_w0
        refine lv_aload_n hx hb dX5_addBar_30 rfl (lv_at hl 0 rfl) ?_
        refine lv_dup hx hb dX5_addBar_31 rfl ?_
        refine gk_RX5_30 hC hS z_h0 q6_29 dX5_addBar_32 ?_
        refine lv_iconst (v := 1) hx hb dX5_addBar_35 (by decide) ?_
        refine lv_iadd hx hb dX5_addBar_36 ?_
        refine lv_topi (fun t_36 e_36 => ?_)
        have i7_t_36 : tq_iv 1 48 t_36 := tq_w (tq_add e_36 i5_w0 (⟨by decide, by decide⟩ : tq_iv 1 1 1) (by decide) (by decide)) (by decide) (by decide)
        refine pf_RX5_30 hC hS z_h0 (by decide) trivial dX5_addBar_37 (fun f H locs hS q_37 k_37 => ?_)
        exact K_40 t_36 _ _ _ _ hS q_37 (lv_sub hl [] rfl)
set_option maxHeartbeats 4000000 in
set_option maxRecDepth 100000 in
theorem c_X5_lettingIn (l : Launch) (X : tq_X) (Z : tq_Z) (f : Nat → va_E) (h0 : Nat) (z_h0 : tq_z Z h0 (.inl 5)) (x1 : Int32) (x2 : Int32) (x3 : Int32) : tq_Mp l X Z f yX5_lettingIn cX5_lettingIn 5 (some .int) 4 [.ref h0, .int x1, .int x2, .int x3] (tq_ri (-2147483648) 2147483647) := by
  refine tq_startip (by decide) (Nat.le_of_ble_eq_true rfl) (fun p e R s m args below meth c Q hC hret hS ls hl => ?_)
  have hC : tq_C p R s m args c X (tq_A Z) RX5 cX5_lettingIn 5 4 := hC
  have hx := hC.1.1
  have hb := hC.1.2.1
  have hown := hC.1.2.2.2.1
  have hts := hC.1.2.2.2.2
  have hl : lv_has ls 5 [(0, .ref h0), (1, .int x1), (2, .int x2), (3, .int x3)] := hl
  refine lv_aload_n hx hb dX5_lettingIn_0 rfl (lv_at hl 0 rfl) ?_
  refine gf_RX5_9 hC hS z_h0 dX5_lettingIn_1 (fun t_1 p_1 q_1 => ?_)
  refine lv_iload_n hx hb dX5_lettingIn_4 rfl (lv_at hl 2 rfl) ?_
  refine tq_callVpi (As := [.int x2]) (rest := []) hC (c_X3_mustOf l X Z _ t_1 p_1 x2) k_X3_mustOf ql_RX5_55 rfl (by decide) hS p_1 rfl hl.1 rfl (Nat.le_of_ble_eq_true rfl) ⟨Nat.zero_le _, Nat.zero_le _⟩ dX5_lettingIn_5 (fun t_5 p_5 => ?_)
  refine lv_iload_n hx hb dX5_lettingIn_8 rfl (lv_at hl 3 rfl) ?_
  refine lv_ishr hx hb dX5_lettingIn_9 ?_
  refine lv_topi (fun t_9 e_9 => ?_)
  refine lv_iconst (v := 1) hx hb dX5_lettingIn_10 (by decide) ?_
  refine lv_iand hx hb dX5_lettingIn_11 ?_
  refine lv_topi (fun t_11 e_11 => ?_)
  have i1_t_11 : tq_iv 0 1 t_11 := tq_and2 e_11 (⟨by decide, by decide⟩ : tq_iv 1 1 1) (by decide)
  refine lv_if_ne (tgt := 46) hx hb dX5_lettingIn_12 (by decide) (fun c_12 => ?_) (fun c_12 => ?_)
  · skip
    have i2_t_11 : tq_iv 1 1 t_11 := tq_w (tq_neLo c_12 i1_t_11 (⟨by decide, by decide⟩ : tq_iv 0 0 0)) (by decide) (by decide)
    refine lv_aload_n hx hb dX5_lettingIn_46 rfl (lv_at hl 0 rfl) ?_
    refine gf_RX5_15 hC hS z_h0 dX5_lettingIn_47 (fun t_47 p_47 q_47 => ?_)
    refine lv_iload_n hx hb dX5_lettingIn_50 rfl (lv_at hl 1 rfl) ?_
    refine tq_callVpi (As := [.int x1]) (rest := []) hC (c_X7_bits l X Z _ t_47 p_47 x1) k_X7_bits ql_RX5_37 rfl (by decide) hS p_47 rfl hl.1 rfl (Nat.le_of_ble_eq_true rfl) ⟨Nat.zero_le _, Nat.zero_le _⟩ dX5_lettingIn_51 (fun t_51 p_51 => ?_)
    refine lv_aload_n hx hb dX5_lettingIn_54 rfl (lv_at hl 0 rfl) ?_
    refine lv_aload_n hx hb dX5_lettingIn_55 rfl (lv_at hl 0 rfl) ?_
    refine gf_RX5_9 hC hS z_h0 dX5_lettingIn_56 (fun t_56 p_56 q_56 => ?_)
    refine lv_iload_n hx hb dX5_lettingIn_59 rfl (lv_at hl 2 rfl) ?_
    refine tq_callVpi (As := [.int x2]) (rest := [.ref h0, .int t_51]) hC (c_X3_mustOf l X Z _ t_56 p_56 x2) k_X3_mustOf ql_RX5_55 rfl (by decide) hS p_56 rfl hl.1 rfl (Nat.le_of_ble_eq_true rfl) ⟨Nat.zero_le _, Nat.zero_le _⟩ dX5_lettingIn_60 (fun t_60 p_60 => ?_)
    refine lv_iconst (v := 1) hx hb dX5_lettingIn_63 (by decide) ?_
    refine lv_iload_n hx hb dX5_lettingIn_64 rfl (lv_at hl 3 rfl) ?_
    refine lv_ishl hx hb dX5_lettingIn_65 ?_
    refine lv_topi (fun t_65 e_65 => ?_)
    refine lv_iconst (v := -1) hx hb dX5_lettingIn_66 (by decide) ?_
    refine lv_ixor hx hb dX5_lettingIn_67 ?_
    refine lv_topi (fun t_67 e_67 => ?_)
    refine lv_iand hx hb dX5_lettingIn_68 ?_
    refine lv_topi (fun t_68 e_68 => ?_)
    refine tq_callVpi (As := [.int t_68]) (rest := [.int t_51]) hC (c_X5_pinsFor l X Z _ h0 z_h0 t_68) k_X5_pinsFor ql_RX5_58 rfl (by decide) hS z_h0 rfl hl.1 rfl (Nat.le_of_ble_eq_true rfl) ⟨Nat.zero_le _, Nat.zero_le _⟩ dX5_lettingIn_69 (fun t_69 p_69 => ?_)
    refine lv_iconst (v := -1) hx hb dX5_lettingIn_72 (by decide) ?_
    refine lv_ixor hx hb dX5_lettingIn_73 ?_
    refine lv_topi (fun t_73 e_73 => ?_)
    refine lv_iand hx hb dX5_lettingIn_74 ?_
    refine lv_topi (fun t_74 e_74 => ?_)
    refine lv_istore (lv' := [(4, .int t_74), (0, .ref h0), (1, .int x1), (2, .int x2), (3, .int x3)]) hx hb dX5_lettingIn_75 hl (by decide) rfl (fun ls hl => ?_)
    refine lv_iload hx hb dX5_lettingIn_77 (lv_at hl 0 rfl) ?_
    refine lv_aload_n hx hb dX5_lettingIn_79 rfl (lv_at hl 1 rfl) ?_
    refine gf_RX5_25 hC hS z_h0 dX5_lettingIn_80 (fun t_80 p_80 q_80 => ?_)
    refine lv_iload hx hb dX5_lettingIn_83 (lv_at hl 0 rfl) ?_
    refine tq_callVpi (As := [.int t_74]) (rest := [.int t_74]) hC (c_X6_everythingBut l X Z _ t_80 p_80 t_74) k_X6_everythingBut ql_RX5_98 rfl (by decide) hS p_80 rfl hl.1 rfl (Nat.le_of_ble_eq_true rfl) ⟨Nat.zero_le _, Nat.zero_le _⟩ dX5_lettingIn_85 (fun t_85 p_85 => ?_)
    refine lv_ior hx hb dX5_lettingIn_88 ?_
    refine lv_topi (fun t_88 e_88 => ?_)
    exact hret t_88 _ _ rfl ⟨_, rfl, tq_w (tq_top t_88) (by decide) (by decide)⟩ dX5_lettingIn_89
  · skip
    have i3_t_11 : tq_iv 0 0 t_11 := tq_cut i1_t_11 (tq_eqL c_12 (⟨by decide, by decide⟩ : tq_iv 0 0 0)) (by decide) (by decide)
    refine lv_aload_n hx hb dX5_lettingIn_15 rfl (lv_at hl 0 rfl) ?_
    refine gf_RX5_15 hC hS z_h0 dX5_lettingIn_16 (fun t_16 p_16 q_16 => ?_)
    refine lv_iload_n hx hb dX5_lettingIn_19 rfl (lv_at hl 1 rfl) ?_
    refine tq_callVpi (As := [.int x1]) (rest := []) hC (c_X7_bits l X Z _ t_16 p_16 x1) k_X7_bits ql_RX5_37 rfl (by decide) hS p_16 rfl hl.1 rfl (Nat.le_of_ble_eq_true rfl) ⟨Nat.zero_le _, Nat.zero_le _⟩ dX5_lettingIn_20 (fun t_20 p_20 => ?_)
    refine lv_aload_n hx hb dX5_lettingIn_23 rfl (lv_at hl 0 rfl) ?_
    refine lv_iload_n hx hb dX5_lettingIn_24 rfl (lv_at hl 2 rfl) ?_
    refine tq_callVpi (As := [.int x2]) (rest := [.int t_20]) hC (c_X5_lawfulPins l X Z _ h0 z_h0 x2) k_X5_lawfulPins ql_RX5_61 rfl (by decide) hS z_h0 rfl hl.1 rfl (Nat.le_of_ble_eq_true rfl) ⟨Nat.zero_le _, Nat.zero_le _⟩ dX5_lettingIn_25 (fun t_25 p_25 => ?_)
    refine tq_callSpi (As := [.int t_20, .int t_25]) (rest := []) hC (c_X6_fitsIn l X Z _ t_20 t_25) k_X6_fitsIn ql_RX5_46 rfl (by decide) hS hl.1 rfl (Nat.le_of_ble_eq_true rfl) ⟨Nat.zero_le _, Nat.zero_le _⟩ dX5_lettingIn_28 (fun t_28 p_28 => ?_)
    have K_45 : ∀ (y0_45 : Int32) (ls : Array Slot), lv_has ls 5 [] → W p l e R s m args below meth c s.heap [] 0 0 Q (F0 m 45 ls [.int y0_45]) := by
      intro y0_45 ls  hl
      exact hret y0_45 _ _ rfl ⟨_, rfl, tq_w (tq_top y0_45) (by decide) (by decide)⟩ dX5_lettingIn_45
    refine lv_if_eq (tgt := 44) hx hb dX5_lettingIn_31 (by decide) (fun c_31 => ?_) (fun c_31 => ?_)
    · skip
      have i4_t_28 : tq_iv 0 0 t_28 := tq_cut p_28 (tq_eqL c_31 (⟨by decide, by decide⟩ : tq_iv 0 0 0)) (by decide) (by decide)
      refine lv_iconst (v := 0) hx hb dX5_lettingIn_44 (by decide) ?_
      exact K_45 0 _ (lv_sub hl [] rfl)
    · skip
      have i5_t_28 : tq_iv 1 1 t_28 := tq_w (tq_neLo c_31 p_28 (⟨by decide, by decide⟩ : tq_iv 0 0 0)) (by decide) (by decide)
      refine lv_aload_n hx hb dX5_lettingIn_34 rfl (lv_at hl 0 rfl) ?_
      refine gf_RX5_25 hC hS z_h0 dX5_lettingIn_35 (fun t_35 p_35 q_35 => ?_)
      refine tq_callVpi (As := []) (rest := []) hC (c_X6_everything l X Z _ t_35 p_35) k_X6_everything ql_RX5_95 rfl (by decide) hS p_35 rfl hl.1 rfl (Nat.le_of_ble_eq_true rfl) ⟨Nat.zero_le _, Nat.zero_le _⟩ dX5_lettingIn_38 (fun t_38 p_38 => ?_)
      refine lv_goto (tgt := 45) hx hb dX5_lettingIn_41 (by decide) ?_
      exact K_45 t_38 _ (lv_sub hl [] rfl)
set_option maxHeartbeats 4000000 in
set_option maxRecDepth 100000 in
theorem c_X5_gatherBars (l : Launch) (X : tq_X) (Z : tq_Z) (f : Nat → va_E) (h0 : Nat) (z_h0 : tq_z Z h0 (.inl 5)) (x1 : Int32) : tq_M l X Z f [(5, 4)] yX5_gatherBars cX5_gatherBars 4 (none) 5 [.ref h0, .int x1] tq_rv := by
  refine tq_startv (by decide) (Nat.le_of_ble_eq_true rfl) (fun p e R s m args below meth c Q hC hret hS ls hl => ?_)
  have hC : tq_C p R s m args c X (tq_A Z) RX5 cX5_gatherBars 4 5 := hC
  have hx := hC.1.1
  have hb := hC.1.2.1
  have hown := hC.1.2.2.2.1
  have hts := hC.1.2.2.2.2
  have hl : lv_has ls 4 [(0, .ref h0), (1, .int x1)] := hl
  generalize hf0 : f = f0 at hret
  have hS : tq_S X Z (tq_A Z) s.heap f0 [(5, 4)] f s.heap [] := hf0 ▸ hS
  refine lv_aload_n hx hb dX5_gatherBars_0 rfl (lv_at hl 0 rfl) ?_
  refine lv_iconst (v := 0) hx hb dX5_gatherBars_1 (by decide) ?_
  refine pf_RX5_30 hC hS z_h0 (by decide) trivial dX5_gatherBars_2 (fun f H locs hS q_2 k_2 => ?_)
  refine lv_iconst (v := 0) hx hb dX5_gatherBars_5 (by decide) ?_
  refine lv_istore_n (lv' := [(2, .int 0), (0, .ref h0), (1, .int x1)]) hx hb dX5_gatherBars_6 rfl hl (by decide) rfl (fun ls hl => ?_)
  have K_7 : ∀ (n_7 : Nat) (x2_7 : Int32) (f : Nat → va_E) (H : Heap) (locs : List Loc) (ls : Array Slot), tq_S X Z (tq_A Z) s.heap f0 [(5, 4)] f H locs → tq_iv 0 2147483647 x2_7 → (2147483647 - x2_7.toInt).toNat < n_7 → lv_has ls 4 [(2, .int x2_7), (0, .ref h0), (1, .int x1)] → W p l e R s m args below meth c H locs 0 0 Q (F0 m 7 ls []) := by
    intro n_7
    induction n_7 with
    | zero => intro x2_7 f H locs ls  hS i1_x2_7 hn_7; exact absurd hn_7 (Nat.not_lt_zero _)
    | succ n_7 ih_7 =>
      intro x2_7 f H locs ls  hS i1_x2_7 hn_7 hl
      refine lv_iload_n hx hb dX5_gatherBars_7 rfl (lv_at hl 0 rfl) ?_
      refine lv_aload_n hx hb dX5_gatherBars_8 rfl (lv_at hl 1 rfl) ?_
      refine gf_RX5_9 hC hS z_h0 dX5_gatherBars_9 (fun t_9 p_9 q_9 => ?_)
      refine gf_RX5_64 hC hS p_9 dX5_gatherBars_12 (fun t_12 p_12 q_12 => ?_)
      refine lv_icmp_ge (tgt := 82) hx hb dX5_gatherBars_15 (by decide) (fun c_15 => ?_) (fun c_15 => ?_)
      · skip
        exact hret _ _ _ _ _ rfl hS dX5_gatherBars_82
      · skip
        have i2_x2_7 : tq_iv 0 2147483646 x2_7 := tq_cut i1_x2_7 (tq_ltL (tq_nle c_15) i1_x2_7 (tq_top t_12)) (by decide) (by decide)
        have i3_t_12 : tq_iv 1 2147483647 t_12 := tq_cut (tq_top t_12) (tq_ltR (tq_nle c_15) i1_x2_7 (tq_top t_12)) (by decide) (by decide)
        refine lv_iconst (v := 0) hx hb dX5_gatherBars_18 (by decide) ?_
        refine lv_istore_n (lv' := [(3, .int 0), (2, .int x2_7), (0, .ref h0), (1, .int x1)]) hx hb dX5_gatherBars_19 rfl hl (by decide) rfl (fun ls hl => ?_)
        have K_20 : ∀ (n_20 : Nat) (x3_20 : Int32) (f : Nat → va_E) (H : Heap) (locs : List Loc) (ls : Array Slot), tq_S X Z (tq_A Z) s.heap f0 [(5, 4)] f H locs → tq_iv 0 8 x3_20 → (2147483647 - x3_20.toInt).toNat < n_20 → lv_has ls 4 [(3, .int x3_20), (2, .int x2_7), (0, .ref h0), (1, .int x1)] → W p l e R s m args below meth c H locs 0 0 Q (F0 m 20 ls []) := by
          intro n_20
          induction n_20 with
          | zero => intro x3_20 f H locs ls  hS i4_x3_20 hn_20; exact absurd hn_20 (Nat.not_lt_zero _)
          | succ n_20 ih_20 =>
            intro x3_20 f H locs ls  hS i4_x3_20 hn_20 hl
            refine lv_iload_n hx hb dX5_gatherBars_20 rfl (lv_at hl 0 rfl) ?_
            refine lv_aload_n hx hb dX5_gatherBars_21 rfl (lv_at hl 2 rfl) ?_
            refine gf_RX5_9 hC hS z_h0 dX5_gatherBars_22 (fun t_22 p_22 q_22 => ?_)
            refine gf_RX5_34 hC hS p_22 dX5_gatherBars_25 (fun t_25 p_25 q_25 => ?_)
            refine lv_icmp_ge (tgt := 76) hx hb dX5_gatherBars_28 (by decide) (fun c_28 => ?_) (fun c_28 => ?_)
            · skip
              obtain ⟨t_76, e_76⟩ : ∃ y : Int32, y = x2_7 + 1 := ⟨_, rfl⟩
              have i5_t_76 : tq_iv 1 2147483647 t_76 := tq_w (tq_add e_76 i2_x2_7 (⟨by decide, by decide⟩ : tq_iv 1 1 1) (by decide) (by decide)) (by decide) (by decide)
              refine lv_iinc (v := t_76) (lv' := [(2, .int t_76), (3, .int x3_20), (0, .ref h0), (1, .int x1)]) hx hb dX5_gatherBars_76 hl (k := 1) rfl (by rw [e_76]; rfl) (by decide) rfl (fun ls hl => ?_)
              refine lv_goto (tgt := 7) hx hb dX5_gatherBars_79 (by decide) ?_
              exact ih_7 t_76 _ _ _ _ hS (tq_w i5_t_76 (by decide) (by decide)) (tq_up e_76 i2_x2_7 (⟨by decide, by decide⟩ : tq_iv 1 1 1) (by decide) (by decide) hn_7) (lv_sub hl [0, 2, 3] rfl)
            · skip
              have i6_x3_20 : tq_iv 0 7 x3_20 := tq_cut i4_x3_20 (tq_ltL (tq_nle c_28) i4_x3_20 p_25) (by decide) (by decide)
              have i7_t_25 : tq_iv 1 8 t_25 := tq_cut p_25 (tq_ltR (tq_nle c_28) i4_x3_20 p_25) (by decide) (by decide)
              refine lv_aload_n hx hb dX5_gatherBars_31 rfl (lv_at hl 2 rfl) ?_
              refine gf_RX5_9 hC hS z_h0 dX5_gatherBars_32 (fun t_32 p_32 q_32 => ?_)
              refine lv_iload_n hx hb dX5_gatherBars_35 rfl (lv_at hl 1 rfl) ?_
              refine tq_callVpi (As := [.int x2_7]) (rest := []) hC (c_X3_neverOf l X Z _ t_32 p_32 x2_7) k_X3_neverOf ql_RX5_52 rfl (by decide) hS p_32 rfl hl.1 rfl (Nat.le_of_ble_eq_true rfl) ⟨Nat.zero_le _, Nat.zero_le _⟩ dX5_gatherBars_36 (fun t_36 p_36 => ?_)
              refine lv_iload_n hx hb dX5_gatherBars_39 rfl (lv_at hl 0 rfl) ?_
              refine lv_ishr hx hb dX5_gatherBars_40 ?_
              refine lv_topi (fun t_40 e_40 => ?_)
              refine lv_iconst (v := 1) hx hb dX5_gatherBars_41 (by decide) ?_
              refine lv_iand hx hb dX5_gatherBars_42 ?_
              refine lv_topi (fun t_42 e_42 => ?_)
              have i8_t_42 : tq_iv 0 1 t_42 := tq_and2 e_42 (⟨by decide, by decide⟩ : tq_iv 1 1 1) (by decide)
              have K_70 : ∀ (f : Nat → va_E) (H : Heap) (locs : List Loc) (ls : Array Slot), tq_S X Z (tq_A Z) s.heap f0 [(5, 4)] f H locs → lv_has ls 4 [(3, .int x3_20), (2, .int x2_7), (0, .ref h0), (1, .int x1)] → W p l e R s m args below meth c H locs 0 0 Q (F0 m 70 ls []) := by
                intro f H locs ls  hS hl
                obtain ⟨t_70, e_70⟩ : ∃ y : Int32, y = x3_20 + 1 := ⟨_, rfl⟩
                have i9_t_70 : tq_iv 1 8 t_70 := tq_w (tq_add e_70 i6_x3_20 (⟨by decide, by decide⟩ : tq_iv 1 1 1) (by decide) (by decide)) (by decide) (by decide)
                refine lv_iinc (v := t_70) (lv' := [(3, .int t_70), (2, .int x2_7), (0, .ref h0), (1, .int x1)]) hx hb dX5_gatherBars_70 hl (k := 0) rfl (by rw [e_70]; rfl) (by decide) rfl (fun ls hl => ?_)
                refine lv_goto (tgt := 20) hx hb dX5_gatherBars_73 (by decide) ?_
                exact ih_20 t_70 _ _ _ _ hS (tq_w i9_t_70 (by decide) (by decide)) (tq_up e_70 i6_x3_20 (⟨by decide, by decide⟩ : tq_iv 1 1 1) (by decide) (by decide) hn_20) (lv_sub hl [0, 1, 2, 3] rfl)
              refine lv_if_eq (tgt := 70) hx hb dX5_gatherBars_43 (by decide) (fun c_43 => ?_) (fun c_43 => ?_)
              · skip
                have i10_t_42 : tq_iv 0 0 t_42 := tq_cut i8_t_42 (tq_eqL c_43 (⟨by decide, by decide⟩ : tq_iv 0 0 0)) (by decide) (by decide)
                exact K_70 _ _ _ _ hS (lv_sub hl [0, 1, 2, 3] rfl)
              · skip
                have i11_t_42 : tq_iv 1 1 t_42 := tq_w (tq_neLo c_43 i8_t_42 (⟨by decide, by decide⟩ : tq_iv 0 0 0)) (by decide) (by decide)
                refine lv_aload_n hx hb dX5_gatherBars_46 rfl (lv_at hl 2 rfl) ?_
                refine lv_iload_n hx hb dX5_gatherBars_47 rfl (lv_at hl 0 rfl) ?_
                refine lv_iload_n hx hb dX5_gatherBars_48 rfl (lv_at hl 3 rfl) ?_
                have K_67 : ∀ (y0_67 : Nat) (y1_67 : Int32) (f : Nat → va_E) (H : Heap) (locs : List Loc) (ls : Array Slot), tq_z Z y0_67 (.inl 5) → tq_S X Z (tq_A Z) s.heap f0 [(5, 4)] f H locs → lv_has ls 4 [(3, .int x3_20), (2, .int x2_7), (0, .ref h0), (1, .int x1)] → W p l e R s m args below meth c H locs 0 0 Q (F0 m 67 ls [.int y1_67, .ref y0_67]) := by
                  intro y0_67 y1_67 f H locs ls z_y0_67 hS hl
                  refine tq_callVv (As := [.int y1_67]) (rest := []) hC (c_X5_addBar l X Z _ y0_67 z_y0_67 y1_67) k_X5_addBar ql_RX5_92 (by decide) rfl (by decide) hS z_y0_67 rfl hl.1 rfl (Nat.le_of_ble_eq_true rfl) ⟨Nat.zero_le _, Nat.zero_le _⟩ dX5_gatherBars_67 (fun f1_67 H locs hS k_67 => ?_)
                  exact K_70 _ _ _ _ hS (lv_sub hl [0, 1, 2, 3] rfl)
                refine lv_icmp_ne (tgt := 60) hx hb dX5_gatherBars_49 (by decide) (fun c_49 => ?_) (fun c_49 => ?_)
                · skip
                  refine lv_aload_n hx hb dX5_gatherBars_60 rfl (lv_at hl 2 rfl) ?_
                  refine lv_iload_n hx hb dX5_gatherBars_61 rfl (lv_at hl 0 rfl) ?_
                  refine lv_iload_n hx hb dX5_gatherBars_62 rfl (lv_at hl 1 rfl) ?_
                  refine lv_iload_n hx hb dX5_gatherBars_63 rfl (lv_at hl 3 rfl) ?_
                  refine tq_callVpi (As := [.int x3_20, .int x2_7, .int x1]) (rest := [.ref h0]) hC (c_X5_lettingIn l X Z _ h0 z_h0 x3_20 x2_7 x1) k_X5_lettingIn ql_RX5_88 rfl (by decide) hS z_h0 rfl hl.1 rfl (Nat.le_of_ble_eq_true rfl) ⟨Nat.zero_le _, Nat.zero_le _⟩ dX5_gatherBars_64 (fun t_64 p_64 => ?_)
                  exact K_67 h0 t_64 _ _ _ _ z_h0 hS (lv_sub hl [0, 1, 2, 3] rfl)
                · skip
                  refine lv_aload_n hx hb dX5_gatherBars_52 rfl (lv_at hl 2 rfl) ?_
                  refine lv_iload_n hx hb dX5_gatherBars_53 rfl (lv_at hl 1 rfl) ?_
                  refine tq_callVpi (As := [.int x2_7]) (rest := [.ref h0]) hC (c_X5_lawfulPins l X Z _ h0 z_h0 x2_7) k_X5_lawfulPins ql_RX5_61 rfl (by decide) hS z_h0 rfl hl.1 rfl (Nat.le_of_ble_eq_true rfl) ⟨Nat.zero_le _, Nat.zero_le _⟩ dX5_gatherBars_54 (fun t_54 p_54 => ?_)
                  refine lv_goto (tgt := 67) hx hb dX5_gatherBars_57 (by decide) ?_
                  exact K_67 h0 t_54 _ _ _ _ z_h0 hS (lv_sub hl [0, 1, 2, 3] rfl)
        exact K_20 _ 0 _ _ _ _ hS (tq_w (⟨by decide, by decide⟩ : tq_iv 0 0 0) (by decide) (by decide)) (Nat.lt_succ_self _) (lv_sub hl [0, 1, 2, 3] rfl)
  exact K_7 _ 0 _ _ _ _ hS (tq_w (⟨by decide, by decide⟩ : tq_iv 0 0 0) (by decide) (by decide)) (Nat.lt_succ_self _) (lv_sub hl [0, 1, 2] rfl)
set_option maxHeartbeats 4000000 in
set_option maxRecDepth 100000 in
theorem c_X5_isBarred (l : Launch) (X : tq_X) (Z : tq_Z) (f : Nat → va_E) (h0 : Nat) (z_h0 : tq_z Z h0 (.inl 5)) (x1 : Int32) : tq_Mp l X Z f yX5_isBarred cX5_isBarred 3 (some .boolean) 1 [.ref h0, .int x1] (tq_ri 0 1) := by
  refine tq_startip (by decide) (Nat.le_of_ble_eq_true rfl) (fun p e R s m args below meth c Q hC hret hS ls hl => ?_)
  have hC : tq_C p R s m args c X (tq_A Z) RX5 cX5_isBarred 3 1 := hC
  have hx := hC.1.1
  have hb := hC.1.2.1
  have hown := hC.1.2.2.2.1
  have hts := hC.1.2.2.2.2
  have hl : lv_has ls 3 [(0, .ref h0), (1, .int x1)] := hl
  refine lv_iconst (v := 0) hx hb dX5_isBarred_0 (by decide) ?_
  refine lv_istore_n (lv' := [(2, .int 0), (0, .ref h0), (1, .int x1)]) hx hb dX5_isBarred_1 rfl hl (by decide) rfl (fun ls hl => ?_)
  have K_2 : ∀ (n_2 : Nat) (x2_2 : Int32) (ls : Array Slot), tq_iv 0 48 x2_2 → (2147483647 - x2_2.toInt).toNat < n_2 → lv_has ls 3 [(2, .int x2_2), (0, .ref h0), (1, .int x1)] → W p l e R s m args below meth c s.heap [] 0 0 Q (F0 m 2 ls []) := by
    intro n_2
    induction n_2 with
    | zero => intro x2_2 ls  i1_x2_2 hn_2; exact absurd hn_2 (Nat.not_lt_zero _)
    | succ n_2 ih_2 =>
      intro x2_2 ls  i1_x2_2 hn_2 hl
      refine lv_iload_n hx hb dX5_isBarred_2 rfl (lv_at hl 0 rfl) ?_
      refine lv_aload_n hx hb dX5_isBarred_3 rfl (lv_at hl 1 rfl) ?_
      refine gf_RX5_30 hC hS z_h0 dX5_isBarred_4 (fun t_4 p_4 q_4 => ?_)
      have K_37 : ∀ (ls : Array Slot), lv_has ls 3 [] → W p l e R s m args below meth c s.heap [] 0 0 Q (F0 m 37 ls []) := by
        intro  ls  hl
        refine lv_iconst (v := 0) hx hb dX5_isBarred_37 (by decide) ?_
        exact hret 0 _ _ (tq_nb (⟨by decide, by decide⟩ : tq_iv 0 0 0) (by decide) (by decide)) ⟨_, rfl, tq_w (⟨by decide, by decide⟩ : tq_iv 0 0 0) (by decide) (by decide)⟩ dX5_isBarred_38
      refine lv_icmp_ge (tgt := 37) hx hb dX5_isBarred_7 (by decide) (fun c_7 => ?_) (fun c_7 => ?_)
      · skip
        have i2_t_4 : tq_iv (-2147483648) 48 t_4 := tq_cut (tq_top t_4) (tq_leL c_7 (tq_top t_4) i1_x2_2) (by decide) (by decide)
        exact K_37 _ (lv_sub hl [] rfl)
      · skip
        have i3_t_4 : tq_iv 1 2147483647 t_4 := tq_cut (tq_top t_4) (tq_ltR (tq_nle c_7) i1_x2_2 (tq_top t_4)) (by decide) (by decide)
        refine lv_iload_n hx hb dX5_isBarred_10 rfl (lv_at hl 0 rfl) ?_
        refine lv_bipush (v := 48) hx hb dX5_isBarred_11 (by decide) ?_
        refine lv_icmp_ge (tgt := 37) hx hb dX5_isBarred_13 (by decide) (fun c_13 => ?_) (fun c_13 => ?_)
        · skip
          have i4_x2_2 : tq_iv 48 48 x2_2 := tq_cut i1_x2_2 (tq_leR c_13 (⟨by decide, by decide⟩ : tq_iv 48 48 48) i1_x2_2) (by decide) (by decide)
          exact K_37 _ (lv_sub hl [] rfl)
        · skip
          have i5_x2_2 : tq_iv 0 47 x2_2 := tq_cut i1_x2_2 (tq_ltL (tq_nle c_13) i1_x2_2 (⟨by decide, by decide⟩ : tq_iv 48 48 48)) (by decide) (by decide)
          refine lv_iload_n hx hb dX5_isBarred_16 rfl (lv_at hl 2 rfl) ?_
          refine lv_aload_n hx hb dX5_isBarred_17 rfl (lv_at hl 1 rfl) ?_
          refine gf_RX5_26 hC hS z_h0 dX5_isBarred_18 (fun t_18 p_18 q_18 => ?_)
          refine lv_iload_n hx hb dX5_isBarred_21 rfl (lv_at hl 0 rfl) ?_
          refine tq_iald hC hS p_18 rfl (tq_vin i5_x2_2 (by decide) (by decide)) dX5_isBarred_22 (fun t_22 p_22 => ?_)
          refine tq_callSpi (As := [.int x1, .int t_22]) (rest := []) hC (c_X6_fitsIn l X Z _ x1 t_22) k_X6_fitsIn ql_RX5_46 rfl (by decide) hS hl.1 rfl (Nat.le_of_ble_eq_true rfl) ⟨Nat.zero_le _, Nat.zero_le _⟩ dX5_isBarred_23 (fun t_23 p_23 => ?_)
          refine lv_if_eq (tgt := 31) hx hb dX5_isBarred_26 (by decide) (fun c_26 => ?_) (fun c_26 => ?_)
          · skip
            have i6_t_23 : tq_iv 0 0 t_23 := tq_cut p_23 (tq_eqL c_26 (⟨by decide, by decide⟩ : tq_iv 0 0 0)) (by decide) (by decide)
            obtain ⟨t_31, e_31⟩ : ∃ y : Int32, y = x2_2 + 1 := ⟨_, rfl⟩
            have i7_t_31 : tq_iv 1 48 t_31 := tq_w (tq_add e_31 i5_x2_2 (⟨by decide, by decide⟩ : tq_iv 1 1 1) (by decide) (by decide)) (by decide) (by decide)
            refine lv_iinc (v := t_31) (lv' := [(2, .int t_31), (0, .ref h0), (1, .int x1)]) hx hb dX5_isBarred_31 hl (k := 0) rfl (by rw [e_31]; rfl) (by decide) rfl (fun ls hl => ?_)
            refine lv_goto (tgt := 2) hx hb dX5_isBarred_34 (by decide) ?_
            exact ih_2 t_31 _ (tq_w i7_t_31 (by decide) (by decide)) (tq_up e_31 i5_x2_2 (⟨by decide, by decide⟩ : tq_iv 1 1 1) (by decide) (by decide) hn_2) (lv_sub hl [0, 1, 2] rfl)
          · skip
            have i8_t_23 : tq_iv 1 1 t_23 := tq_w (tq_neLo c_26 p_23 (⟨by decide, by decide⟩ : tq_iv 0 0 0)) (by decide) (by decide)
            refine lv_iconst (v := 1) hx hb dX5_isBarred_29 (by decide) ?_
            exact hret 1 _ _ (tq_nb (⟨by decide, by decide⟩ : tq_iv 1 1 1) (by decide) (by decide)) ⟨_, rfl, tq_w (⟨by decide, by decide⟩ : tq_iv 1 1 1) (by decide) (by decide)⟩ dX5_isBarred_30
  exact K_2 _ 0 _ (tq_w (⟨by decide, by decide⟩ : tq_iv 0 0 0) (by decide) (by decide)) (Nat.lt_succ_self _) (lv_sub hl [0, 1, 2] rfl)
set_option maxHeartbeats 4000000 in
set_option maxRecDepth 100000 in
theorem c_X6_fillUp (l : Launch) (X : tq_X) (Z : tq_Z) (f : Nat → va_E) (h0 : Nat) (z_h0 : tq_z Z h0 (.inl 6)) (x1 : Int32) (x2 : Int32) (x3 : Int32) : tq_Mp l X Z f yX6_fillUp cX6_fillUp 7 (some .int) 2 [.ref h0, .int x1, .int x2, .int x3] (tq_ri (-2147483648) 2147483647) := by
  refine tq_startip (by decide) (Nat.le_of_ble_eq_true rfl) (fun p e R s m args below meth c Q hC hret hS ls hl => ?_)
  have hC : tq_C p R s m args c X (tq_A Z) RX6 cX6_fillUp 7 2 := hC
  have hx := hC.1.1
  have hb := hC.1.2.1
  have hown := hC.1.2.2.2.1
  have hts := hC.1.2.2.2.2
  have hl : lv_has ls 7 [(0, .ref h0), (1, .int x1), (2, .int x2), (3, .int x3)] := hl
  refine lv_iload_n hx hb dX6_fillUp_0 rfl (lv_at hl 1 rfl) ?_
  refine lv_istore (lv' := [(4, .int x1), (0, .ref h0), (1, .int x1), (2, .int x2), (3, .int x3)]) hx hb dX6_fillUp_1 hl (by decide) rfl (fun ls hl => ?_)
  refine lv_iload_n hx hb dX6_fillUp_3 rfl (lv_at hl 4 rfl) ?_
  refine lv_istore (lv' := [(5, .int x3), (4, .int x1), (0, .ref h0), (1, .int x1), (2, .int x2), (3, .int x3)]) hx hb dX6_fillUp_4 hl (by decide) rfl (fun ls hl => ?_)
  refine lv_iload_n hx hb dX6_fillUp_6 rfl (lv_at hl 4 rfl) ?_
  refine lv_istore (lv' := [(6, .int x2), (5, .int x3), (4, .int x1), (0, .ref h0), (1, .int x1), (2, .int x2), (3, .int x3)]) hx hb dX6_fillUp_7 hl (by decide) rfl (fun ls hl => ?_)
  have K_9 : ∀ (n_9 : Nat) (x6_9 : Int32) (x5_9 : Int32) (x4_9 : Int32) (ls : Array Slot), (2147483647 - x6_9.toInt).toNat < n_9 → lv_has ls 7 [(6, .int x6_9), (5, .int x5_9), (4, .int x4_9), (0, .ref h0)] → W p l e R s m args below meth c s.heap [] 0 0 Q (F0 m 9 ls []) := by
    intro n_9
    induction n_9 with
    | zero => intro x6_9 x5_9 x4_9 ls  hn_9; exact absurd hn_9 (Nat.not_lt_zero _)
    | succ n_9 ih_9 =>
      intro x6_9 x5_9 x4_9 ls  hn_9 hl
      refine lv_iload hx hb dX6_fillUp_9 (lv_at hl 0 rfl) ?_
      refine lv_aload_n hx hb dX6_fillUp_11 rfl (lv_at hl 3 rfl) ?_
      refine gf_RX6_18 hC hS z_h0 dX6_fillUp_12 (fun t_12 p_12 q_12 => ?_)
      refine lv_icmp_ge (tgt := 44) hx hb dX6_fillUp_15 (by decide) (fun c_15 => ?_) (fun c_15 => ?_)
      · skip
        have i1_x6_9 : tq_iv 0 2147483647 x6_9 := tq_cut (tq_top x6_9) (tq_leR c_15 p_12 (tq_top x6_9)) (by decide) (by decide)
        refine lv_iload hx hb dX6_fillUp_44 (lv_at hl 2 rfl) ?_
        exact hret x4_9 _ _ rfl ⟨_, rfl, tq_w (tq_top x4_9) (by decide) (by decide)⟩ dX6_fillUp_46
      · skip
        have i2_x6_9 : tq_iv (-2147483648) 998 x6_9 := tq_cut (tq_top x6_9) (tq_ltL (tq_nle c_15) (tq_top x6_9) p_12) (by decide) (by decide)
        refine lv_aload_n hx hb dX6_fillUp_18 rfl (lv_at hl 3 rfl) ?_
        refine lv_iload hx hb dX6_fillUp_19 (lv_at hl 1 rfl) ?_
        refine tq_callVpi (As := [.int x5_9]) (rest := []) hC (c_X6_lowest l X Z _ h0 z_h0 x5_9) k_X6_lowest ql_RX6_66 rfl (by decide) hS z_h0 rfl hl.1 rfl (Nat.le_of_ble_eq_true rfl) ⟨Nat.zero_le _, Nat.zero_le _⟩ dX6_fillUp_21 (fun t_21 p_21 => ?_)
        refine lv_istore (lv' := [(5, .int t_21), (6, .int x6_9), (4, .int x4_9), (0, .ref h0)]) hx hb dX6_fillUp_24 hl (by decide) rfl (fun ls hl => ?_)
        refine lv_iload hx hb dX6_fillUp_26 (lv_at hl 2 rfl) ?_
        refine lv_iload hx hb dX6_fillUp_28 (lv_at hl 1 rfl) ?_
        refine lv_iload hx hb dX6_fillUp_30 (lv_at hl 0 rfl) ?_
        refine tq_callSpi (As := [.int x6_9, .int t_21]) (rest := [.int x4_9]) hC (c_X6_notch l X Z _ x6_9 t_21) k_X6_notch ql_RX6_44 rfl (by decide) hS hl.1 rfl (Nat.le_of_ble_eq_true rfl) ⟨Nat.zero_le _, Nat.zero_le _⟩ dX6_fillUp_32 (fun t_32 p_32 => ?_)
        refine lv_ior hx hb dX6_fillUp_35 ?_
        refine lv_topi (fun t_35 e_35 => ?_)
        refine lv_istore (lv' := [(4, .int t_35), (5, .int t_21), (6, .int x6_9), (0, .ref h0)]) hx hb dX6_fillUp_36 hl (by decide) rfl (fun ls hl => ?_)
        obtain ⟨t_38, e_38⟩ : ∃ y : Int32, y = x6_9 + 1 := ⟨_, rfl⟩
        have i3_t_38 : tq_iv (-2147483647) 999 t_38 := tq_w (tq_add e_38 i2_x6_9 (⟨by decide, by decide⟩ : tq_iv 1 1 1) (by decide) (by decide)) (by decide) (by decide)
        refine lv_iinc (v := t_38) (lv' := [(6, .int t_38), (4, .int t_35), (5, .int t_21), (0, .ref h0)]) hx hb dX6_fillUp_38 hl (k := 2) rfl (by rw [e_38]; rfl) (by decide) rfl (fun ls hl => ?_)
        refine lv_goto (tgt := 9) hx hb dX6_fillUp_41 (by decide) ?_
        exact ih_9 t_38 t_21 t_35 _ (tq_up e_38 i2_x6_9 (⟨by decide, by decide⟩ : tq_iv 1 1 1) (by decide) (by decide) hn_9) (lv_sub hl [0, 2, 1, 3] rfl)
  exact K_9 _ x2 x3 x1 _ (Nat.lt_succ_self _) (lv_sub hl [0, 1, 2, 3] rfl)
set_option maxHeartbeats 4000000 in
set_option maxRecDepth 100000 in
theorem c_X6_after (l : Launch) (X : tq_X) (Z : tq_Z) (f : Nat → va_E) (h0 : Nat) (z_h0 : tq_z Z h0 (.inl 6)) (x1 : Int32) : tq_Mp l X Z f yX6_after cX6_after 6 (some .int) 3 [.ref h0, .int x1] (tq_ri (-2147483648) 2147483647) := by
  refine tq_startip (by decide) (Nat.le_of_ble_eq_true rfl) (fun p e R s m args below meth c Q hC hret hS ls hl => ?_)
  have hC : tq_C p R s m args c X (tq_A Z) RX6 cX6_after 6 3 := hC
  have hx := hC.1.1
  have hb := hC.1.2.1
  have hown := hC.1.2.2.2.1
  have hts := hC.1.2.2.2.2
  have hl : lv_has ls 6 [(0, .ref h0), (1, .int x1)] := hl
  refine lv_aload_n hx hb dX6_after_0 rfl (lv_at hl 0 rfl) ?_
  refine gf_RX6_18 hC hS z_h0 dX6_after_1 (fun t_1 p_1 q_1 => ?_)
  refine lv_iconst (v := 1) hx hb dX6_after_4 (by decide) ?_
  refine lv_isub hx hb dX6_after_5 ?_
  refine lv_topi (fun t_5 e_5 => ?_)
  have i1_t_5 : tq_iv (-1) 998 t_5 := tq_w (tq_sub e_5 p_1 (⟨by decide, by decide⟩ : tq_iv 1 1 1) (by decide) (by decide)) (by decide) (by decide)
  refine lv_istore_n (lv' := [(2, .int t_5), (0, .ref h0), (1, .int x1)]) hx hb dX6_after_6 rfl hl (by decide) rfl (fun ls hl => ?_)
  have K_7 : ∀ (n_7 : Nat) (x2_7 : Int32) (ls : Array Slot), tq_iv (-1) 998 x2_7 → (x2_7.toInt + 2147483648).toNat < n_7 → lv_has ls 6 [(2, .int x2_7), (0, .ref h0), (1, .int x1)] → W p l e R s m args below meth c s.heap [] 0 0 Q (F0 m 7 ls []) := by
    intro n_7
    induction n_7 with
    | zero => intro x2_7 ls  i2_x2_7 hn_7; exact absurd hn_7 (Nat.not_lt_zero _)
    | succ n_7 ih_7 =>
      intro x2_7 ls  i2_x2_7 hn_7 hl
      refine lv_iload_n hx hb dX6_after_7 rfl (lv_at hl 0 rfl) ?_
      refine lv_if_lt (tgt := 87) hx hb dX6_after_8 (by decide) (fun c_8 => ?_) (fun c_8 => ?_)
      · skip
        have i3_x2_7 : tq_iv (-1) (-1) x2_7 := tq_cut i2_x2_7 (tq_ltL c_8 i2_x2_7 (⟨by decide, by decide⟩ : tq_iv 0 0 0)) (by decide) (by decide)
        refine lv_iconst (v := 0) hx hb dX6_after_87 (by decide) ?_
        exact hret 0 _ _ rfl ⟨_, rfl, tq_w (⟨by decide, by decide⟩ : tq_iv 0 0 0) (by decide) (by decide)⟩ dX6_after_88
      · skip
        have i4_x2_7 : tq_iv 0 998 x2_7 := tq_cut i2_x2_7 (tq_leR (tq_nlt c_8) (⟨by decide, by decide⟩ : tq_iv 0 0 0) i2_x2_7) (by decide) (by decide)
        refine lv_aload_n hx hb dX6_after_11 rfl (lv_at hl 1 rfl) ?_
        refine lv_iload_n hx hb dX6_after_12 rfl (lv_at hl 2 rfl) ?_
        refine lv_iload_n hx hb dX6_after_13 rfl (lv_at hl 0 rfl) ?_
        refine tq_callVpi (As := [.int x1, .int x2_7]) (rest := []) hC (c_X6_depthAt l X Z _ h0 z_h0 x1 x2_7) k_X6_depthAt ql_RX6_41 rfl (by decide) hS z_h0 rfl hl.1 rfl (Nat.le_of_ble_eq_true rfl) ⟨Nat.zero_le _, Nat.zero_le _⟩ dX6_after_14 (fun t_14 p_14 => ?_)
        refine lv_iconst (v := 1) hx hb dX6_after_17 (by decide) ?_
        refine lv_iadd hx hb dX6_after_18 ?_
        refine lv_topi (fun t_18 e_18 => ?_)
        refine lv_istore_n (lv' := [(3, .int t_18), (2, .int x2_7), (0, .ref h0), (1, .int x1)]) hx hb dX6_after_19 rfl hl (by decide) rfl (fun ls hl => ?_)
        refine lv_iload_n hx hb dX6_after_20 rfl (lv_at hl 1 rfl) ?_
        have K_45 : ∀ (y0_45 : Int32) (ls : Array Slot), tq_iv (-2147483648) 998 y0_45 → lv_has ls 6 [(3, .int t_18), (2, .int x2_7), (0, .ref h0), (1, .int x1)] → W p l e R s m args below meth c s.heap [] 0 0 Q (F0 m 45 ls [.int y0_45]) := by
          intro y0_45 ls  i5_y0_45 hl
          refine lv_istore (lv' := [(4, .int y0_45), (3, .int t_18), (2, .int x2_7), (0, .ref h0), (1, .int x1)]) hx hb dX6_after_45 hl (by decide) rfl (fun ls hl => ?_)
          refine lv_iload_n hx hb dX6_after_47 rfl (lv_at hl 1 rfl) ?_
          refine lv_iload hx hb dX6_after_48 (lv_at hl 0 rfl) ?_
          refine lv_icmp_gt (tgt := 81) hx hb dX6_after_50 (by decide) (fun c_50 => ?_) (fun c_50 => ?_)
          · skip
            have i6_t_18 : tq_iv (-2147483647) 2147483647 t_18 := tq_cut (tq_top t_18) (tq_ltR c_50 i5_y0_45 (tq_top t_18)) (by decide) (by decide)
            obtain ⟨t_81, e_81⟩ : ∃ y : Int32, y = x2_7 + (-1) := ⟨_, rfl⟩
            have i7_t_81 : tq_iv (-1) 997 t_81 := tq_w (tq_add e_81 i4_x2_7 (⟨by decide, by decide⟩ : tq_iv (-1) (-1) (-1)) (by decide) (by decide)) (by decide) (by decide)
            refine lv_iinc (v := t_81) (lv' := [(2, .int t_81), (4, .int y0_45), (3, .int t_18), (0, .ref h0), (1, .int x1)]) hx hb dX6_after_81 hl (k := 2) rfl (by rw [e_81]; rfl) (by decide) rfl (fun ls hl => ?_)
            refine lv_goto (tgt := 7) hx hb dX6_after_84 (by decide) ?_
            exact ih_7 t_81 _ (tq_w i7_t_81 (by decide) (by decide)) (tq_down e_81 i4_x2_7 (⟨by decide, by decide⟩ : tq_iv (-1) (-1) (-1)) (by decide) (by decide) hn_7) (lv_sub hl [0, 3, 4] rfl)
          · skip
            have i8_t_18 : tq_iv (-2147483648) 998 t_18 := tq_cut (tq_top t_18) (tq_leL (tq_nlt c_50) (tq_top t_18) i5_y0_45) (by decide) (by decide)
            refine lv_iload_n hx hb dX6_after_53 rfl (lv_at hl 4 rfl) ?_
            refine lv_iload_n hx hb dX6_after_54 rfl (lv_at hl 2 rfl) ?_
            refine lv_iconst (v := 0) hx hb dX6_after_55 (by decide) ?_
            refine tq_callSpi (As := [.int x2_7, .int 0]) (rest := [.int x1]) hC (c_X6_notch l X Z _ x2_7 0) k_X6_notch ql_RX6_44 rfl (by decide) hS hl.1 rfl (Nat.le_of_ble_eq_true rfl) ⟨Nat.zero_le _, Nat.zero_le _⟩ dX6_after_56 (fun t_56 p_56 => ?_)
            refine lv_iconst (v := 1) hx hb dX6_after_59 (by decide) ?_
            refine lv_isub hx hb dX6_after_60 ?_
            refine lv_topi (fun t_60 e_60 => ?_)
            refine lv_iand hx hb dX6_after_61 ?_
            refine lv_topi (fun t_61 e_61 => ?_)
            refine lv_istore (lv' := [(5, .int t_61), (4, .int y0_45), (3, .int t_18), (2, .int x2_7), (0, .ref h0), (1, .int x1)]) hx hb dX6_after_62 hl (by decide) rfl (fun ls hl => ?_)
            refine lv_aload_n hx hb dX6_after_64 rfl (lv_at hl 4 rfl) ?_
            refine lv_iload hx hb dX6_after_65 (lv_at hl 0 rfl) ?_
            refine lv_iload_n hx hb dX6_after_67 rfl (lv_at hl 3 rfl) ?_
            refine lv_iload_n hx hb dX6_after_68 rfl (lv_at hl 2 rfl) ?_
            refine tq_callSpi (As := [.int x2_7, .int t_18]) (rest := [.int t_61, .ref h0]) hC (c_X6_notch l X Z _ x2_7 t_18) k_X6_notch ql_RX6_44 rfl (by decide) hS hl.1 rfl (Nat.le_of_ble_eq_true rfl) ⟨Nat.zero_le _, Nat.zero_le _⟩ dX6_after_69 (fun t_69 p_69 => ?_)
            refine lv_ior hx hb dX6_after_72 ?_
            refine lv_topi (fun t_72 e_72 => ?_)
            refine lv_iload_n hx hb dX6_after_73 rfl (lv_at hl 3 rfl) ?_
            refine lv_iconst (v := 1) hx hb dX6_after_74 (by decide) ?_
            refine lv_iadd hx hb dX6_after_75 ?_
            refine lv_topi (fun t_75 e_75 => ?_)
            have i9_t_75 : tq_iv 1 999 t_75 := tq_w (tq_add e_75 i4_x2_7 (⟨by decide, by decide⟩ : tq_iv 1 1 1) (by decide) (by decide)) (by decide) (by decide)
            refine lv_iload_n hx hb dX6_after_76 rfl (lv_at hl 2 rfl) ?_
            refine tq_callVpi (As := [.int t_72, .int t_75, .int t_18]) (rest := []) hC (c_X6_fillUp l X Z _ h0 z_h0 t_72 t_75 t_18) k_X6_fillUp ql_RX6_62 rfl (by decide) hS z_h0 rfl hl.1 rfl (Nat.le_of_ble_eq_true rfl) ⟨Nat.zero_le _, Nat.zero_le _⟩ dX6_after_77 (fun t_77 p_77 => ?_)
            exact hret t_77 _ _ rfl ⟨_, rfl, tq_w (tq_top t_77) (by decide) (by decide)⟩ dX6_after_80
        refine lv_if_ne (tgt := 33) hx hb dX6_after_21 (by decide) (fun c_21 => ?_) (fun c_21 => ?_)
        · skip
          have i10_x2_7 : tq_iv 1 998 x2_7 := tq_w (tq_neLo c_21 i4_x2_7 (⟨by decide, by decide⟩ : tq_iv 0 0 0)) (by decide) (by decide)
          refine lv_aload_n hx hb dX6_after_33 rfl (lv_at hl 2 rfl) ?_
          refine lv_aload_n hx hb dX6_after_34 rfl (lv_at hl 2 rfl) ?_
          refine lv_iload_n hx hb dX6_after_35 rfl (lv_at hl 3 rfl) ?_
          refine lv_iload_n hx hb dX6_after_36 rfl (lv_at hl 1 rfl) ?_
          refine lv_iconst (v := 1) hx hb dX6_after_37 (by decide) ?_
          refine lv_isub hx hb dX6_after_38 ?_
          refine lv_topi (fun t_38 e_38 => ?_)
          have i11_t_38 : tq_iv 0 997 t_38 := tq_w (tq_sub e_38 i10_x2_7 (⟨by decide, by decide⟩ : tq_iv 1 1 1) (by decide) (by decide)) (by decide) (by decide)
          refine tq_callVpi (As := [.int x1, .int t_38]) (rest := [.ref h0]) hC (c_X6_depthAt l X Z _ h0 z_h0 x1 t_38) k_X6_depthAt ql_RX6_41 rfl (by decide) hS z_h0 rfl hl.1 rfl (Nat.le_of_ble_eq_true rfl) ⟨Nat.zero_le _, Nat.zero_le _⟩ dX6_after_39 (fun t_39 p_39 => ?_)
          refine tq_callVpi (As := [.int t_39]) (rest := []) hC (c_X6_highest l X Z _ h0 z_h0 t_39) k_X6_highest ql_RX6_69 rfl (by decide) hS z_h0 rfl hl.1 rfl (Nat.le_of_ble_eq_true rfl) ⟨Nat.zero_le _, Nat.zero_le _⟩ dX6_after_42 (fun t_42 p_42 => ?_)
          exact K_45 t_42 _ (tq_w p_42 (by decide) (by decide)) (lv_sub hl [0, 1, 2, 3] rfl)
        · skip
          have i12_x2_7 : tq_iv 0 0 x2_7 := tq_cut i4_x2_7 (tq_eqL c_21 (⟨by decide, by decide⟩ : tq_iv 0 0 0)) (by decide) (by decide)
          refine lv_aload_n hx hb dX6_after_24 rfl (lv_at hl 2 rfl) ?_
          refine gf_RX6_22 hC hS z_h0 dX6_after_25 (fun t_25 p_25 q_25 => ?_)
          refine lv_iconst (v := 1) hx hb dX6_after_28 (by decide) ?_
          refine lv_isub hx hb dX6_after_29 ?_
          refine lv_topi (fun t_29 e_29 => ?_)
          have i13_t_29 : tq_iv (-1) 998 t_29 := tq_w (tq_sub e_29 p_25 (⟨by decide, by decide⟩ : tq_iv 1 1 1) (by decide) (by decide)) (by decide) (by decide)
          refine lv_goto (tgt := 45) hx hb dX6_after_30 (by decide) ?_
          exact K_45 t_29 _ (tq_w i13_t_29 (by decide) (by decide)) (lv_sub hl [0, 1, 2, 3] rfl)
  exact K_7 _ t_5 _ (tq_w i1_t_5 (by decide) (by decide)) (Nat.lt_succ_self _) (lv_sub hl [0, 1, 2] rfl)
set_option maxHeartbeats 4000000 in
set_option maxRecDepth 100000 in
theorem c_X6_least (l : Launch) (X : tq_X) (Z : tq_Z) (f : Nat → va_E) (h0 : Nat) (z_h0 : tq_z Z h0 (.inl 6)) : tq_Mp l X Z f yX6_least cX6_least 1 (some .int) 3 [.ref h0] (tq_ri (-2147483648) 2147483647) := by
  refine tq_startip (by decide) (Nat.le_of_ble_eq_true rfl) (fun p e R s m args below meth c Q hC hret hS ls hl => ?_)
  have hC : tq_C p R s m args c X (tq_A Z) RX6 cX6_least 1 3 := hC
  have hx := hC.1.1
  have hb := hC.1.2.1
  have hown := hC.1.2.2.2.1
  have hts := hC.1.2.2.2.2
  have hl : lv_has ls 1 [(0, .ref h0)] := hl
  refine lv_aload_n hx hb dX6_least_0 rfl (lv_at hl 0 rfl) ?_
  refine lv_iconst (v := 0) hx hb dX6_least_1 (by decide) ?_
  refine lv_iconst (v := 0) hx hb dX6_least_2 (by decide) ?_
  refine lv_iconst (v := 0) hx hb dX6_least_3 (by decide) ?_
  refine tq_callVpi (As := [.int 0, .int 0, .int 0]) (rest := []) hC (c_X6_fillUp l X Z _ h0 z_h0 0 0 0) k_X6_fillUp ql_RX6_62 rfl (by decide) hS z_h0 rfl hl.1 rfl (Nat.le_of_ble_eq_true rfl) ⟨Nat.zero_le _, Nat.zero_le _⟩ dX6_least_4 (fun t_4 p_4 => ?_)
  exact hret t_4 _ _ rfl ⟨_, rfl, tq_w (tq_top t_4) (by decide) (by decide)⟩ dX6_least_7
set_option maxHeartbeats 4000000 in
set_option maxRecDepth 100000 in
theorem c_X5_keepingCut (l : Launch) (X : tq_X) (Z : tq_Z) (f : Nat → va_E) (h0 : Nat) (z_h0 : tq_z Z h0 (.inl 5)) (x1 : Int32) : tq_M l X Z f [(5, 4)] yX5_keepingCut cX5_keepingCut 4 (some .int) 6 [.ref h0, .int x1] (tq_ri (-2147483648) 2147483647) := by
  refine tq_starti (by decide) (Nat.le_of_ble_eq_true rfl) (fun p e R s m args below meth c Q hC hret hS ls hl => ?_)
  have hC : tq_C p R s m args c X (tq_A Z) RX5 cX5_keepingCut 4 6 := hC
  have hx := hC.1.1
  have hb := hC.1.2.1
  have hown := hC.1.2.2.2.1
  have hts := hC.1.2.2.2.2
  have hl : lv_has ls 4 [(0, .ref h0), (1, .int x1)] := hl
  generalize hf0 : f = f0 at hret
  have hS : tq_S X Z (tq_A Z) s.heap f0 [(5, 4)] f s.heap [] := hf0 ▸ hS
  refine lv_aload_n hx hb dX5_keepingCut_0 rfl (lv_at hl 0 rfl) ?_
  refine lv_iload_n hx hb dX5_keepingCut_1 rfl (lv_at hl 1 rfl) ?_
  refine tq_callVv (As := [.int x1]) (rest := []) hC (c_X5_gatherBars l X Z _ h0 z_h0 x1) k_X5_gatherBars ql_RX5_73 (by decide) rfl (by decide) hS z_h0 rfl hl.1 rfl (Nat.le_of_ble_eq_true rfl) ⟨Nat.zero_le _, Nat.zero_le _⟩ dX5_keepingCut_2 (fun f1_2 H locs hS k_2 => ?_)
  refine lv_aload_n hx hb dX5_keepingCut_5 rfl (lv_at hl 0 rfl) ?_
  refine gf_RX5_25 hC hS z_h0 dX5_keepingCut_6 (fun t_6 p_6 q_6 => ?_)
  refine tq_callVpi (As := []) (rest := []) hC (c_X6_least l X Z _ t_6 p_6) k_X6_least ql_RX5_77 rfl (by decide) hS p_6 rfl hl.1 rfl (Nat.le_of_ble_eq_true rfl) ⟨Nat.zero_le _, Nat.zero_le _⟩ dX5_keepingCut_9 (fun t_9 p_9 => ?_)
  refine lv_istore_n (lv' := [(2, .int t_9), (0, .ref h0), (1, .int x1)]) hx hb dX5_keepingCut_12 rfl hl (by decide) rfl (fun ls hl => ?_)
  refine lv_iconst (v := 0) hx hb dX5_keepingCut_13 (by decide) ?_
  refine lv_istore_n (lv' := [(3, .int 0), (2, .int t_9), (0, .ref h0), (1, .int x1)]) hx hb dX5_keepingCut_14 rfl hl (by decide) rfl (fun ls hl => ?_)
  have K_15 : ∀ (n_15 : Nat) (x3_15 : Int32) (x2_15 : Int32) (f : Nat → va_E) (H : Heap) (locs : List Loc) (ls : Array Slot), tq_S X Z (tq_A Z) s.heap f0 [(5, 4)] f H locs → tq_iv 0 7776 x3_15 → (2147483647 - x3_15.toInt).toNat < n_15 → lv_has ls 4 [(3, .int x3_15), (2, .int x2_15), (0, .ref h0)] → W p l e R s m args below meth c H locs 0 0 Q (F0 m 15 ls []) := by
    intro n_15
    induction n_15 with
    | zero => intro x3_15 x2_15 f H locs ls  hS i1_x3_15 hn_15; exact absurd hn_15 (Nat.not_lt_zero _)
    | succ n_15 ih_15 =>
      intro x3_15 x2_15 f H locs ls  hS i1_x3_15 hn_15 hl
      refine lv_iload_n hx hb dX5_keepingCut_15 rfl (lv_at hl 0 rfl) ?_
      refine lv_sipush (v := 7776) hx hb dX5_keepingCut_16 (by decide) ?_
      have K_51 : ∀ (f : Nat → va_E) (H : Heap) (locs : List Loc) (ls : Array Slot), tq_S X Z (tq_A Z) s.heap f0 [(5, 4)] f H locs → lv_has ls 4 [] → W p l e R s m args below meth c H locs 0 0 Q (F0 m 51 ls []) := by
        intro f H locs ls  hS hl
        refine lv_iconst (v := 0) hx hb dX5_keepingCut_51 (by decide) ?_
        exact hret 0 _ _ _ _ _ rfl ⟨_, rfl, tq_w (⟨by decide, by decide⟩ : tq_iv 0 0 0) (by decide) (by decide)⟩ hS dX5_keepingCut_52
      refine lv_icmp_ge (tgt := 51) hx hb dX5_keepingCut_19 (by decide) (fun c_19 => ?_) (fun c_19 => ?_)
      · skip
        have i2_x3_15 : tq_iv 7776 7776 x3_15 := tq_cut i1_x3_15 (tq_leR c_19 (⟨by decide, by decide⟩ : tq_iv 7776 7776 7776) i1_x3_15) (by decide) (by decide)
        exact K_51 _ _ _ _ hS (lv_sub hl [] rfl)
      · skip
        have i3_x3_15 : tq_iv 0 7775 x3_15 := tq_cut i1_x3_15 (tq_ltL (tq_nle c_19) i1_x3_15 (⟨by decide, by decide⟩ : tq_iv 7776 7776 7776)) (by decide) (by decide)
        refine lv_iload_n hx hb dX5_keepingCut_22 rfl (lv_at hl 1 rfl) ?_
        refine lv_if_eq (tgt := 51) hx hb dX5_keepingCut_23 (by decide) (fun c_23 => ?_) (fun c_23 => ?_)
        · skip
          have i4_x2_15 : tq_iv 0 0 x2_15 := tq_cut (tq_top x2_15) (tq_eqL c_23 (⟨by decide, by decide⟩ : tq_iv 0 0 0)) (by decide) (by decide)
          exact K_51 _ _ _ _ hS (lv_sub hl [] rfl)
        · skip
          refine lv_aload_n hx hb dX5_keepingCut_26 rfl (lv_at hl 2 rfl) ?_
          refine lv_iload_n hx hb dX5_keepingCut_27 rfl (lv_at hl 1 rfl) ?_
          refine tq_callVpi (As := [.int x2_15]) (rest := []) hC (c_X5_isBarred l X Z _ h0 z_h0 x2_15) k_X5_isBarred ql_RX5_81 rfl (by decide) hS z_h0 rfl hl.1 rfl (Nat.le_of_ble_eq_true rfl) ⟨Nat.zero_le _, Nat.zero_le _⟩ dX5_keepingCut_28 (fun t_28 p_28 => ?_)
          refine lv_if_ne (tgt := 36) hx hb dX5_keepingCut_31 (by decide) (fun c_31 => ?_) (fun c_31 => ?_)
          · skip
            have i5_t_28 : tq_iv 1 1 t_28 := tq_w (tq_neLo c_31 p_28 (⟨by decide, by decide⟩ : tq_iv 0 0 0)) (by decide) (by decide)
            refine lv_aload_n hx hb dX5_keepingCut_36 rfl (lv_at hl 2 rfl) ?_
            refine gf_RX5_25 hC hS z_h0 dX5_keepingCut_37 (fun t_37 p_37 q_37 => ?_)
            refine lv_iload_n hx hb dX5_keepingCut_40 rfl (lv_at hl 1 rfl) ?_
            refine tq_callVpi (As := [.int x2_15]) (rest := []) hC (c_X6_after l X Z _ t_37 p_37 x2_15) k_X6_after ql_RX5_85 rfl (by decide) hS p_37 rfl hl.1 rfl (Nat.le_of_ble_eq_true rfl) ⟨Nat.zero_le _, Nat.zero_le _⟩ dX5_keepingCut_41 (fun t_41 p_41 => ?_)
            refine lv_istore_n (lv' := [(2, .int t_41), (3, .int x3_15), (0, .ref h0)]) hx hb dX5_keepingCut_44 rfl hl (by decide) rfl (fun ls hl => ?_)
            obtain ⟨t_45, e_45⟩ : ∃ y : Int32, y = x3_15 + 1 := ⟨_, rfl⟩
            have i6_t_45 : tq_iv 1 7776 t_45 := tq_w (tq_add e_45 i3_x3_15 (⟨by decide, by decide⟩ : tq_iv 1 1 1) (by decide) (by decide)) (by decide) (by decide)
            refine lv_iinc (v := t_45) (lv' := [(3, .int t_45), (2, .int t_41), (0, .ref h0)]) hx hb dX5_keepingCut_45 hl (k := 1) rfl (by rw [e_45]; rfl) (by decide) rfl (fun ls hl => ?_)
            refine lv_goto (tgt := 15) hx hb dX5_keepingCut_48 (by decide) ?_
            exact ih_15 t_45 t_41 _ _ _ _ hS (tq_w i6_t_45 (by decide) (by decide)) (tq_up e_45 i3_x3_15 (⟨by decide, by decide⟩ : tq_iv 1 1 1) (by decide) (by decide) hn_15) (lv_sub hl [0, 1, 2] rfl)
          · skip
            have i7_t_28 : tq_iv 0 0 t_28 := tq_cut p_28 (tq_eqL c_31 (⟨by decide, by decide⟩ : tq_iv 0 0 0)) (by decide) (by decide)
            refine lv_iload_n hx hb dX5_keepingCut_34 rfl (lv_at hl 1 rfl) ?_
            exact hret x2_15 _ _ _ _ _ rfl ⟨_, rfl, tq_w (tq_top x2_15) (by decide) (by decide)⟩ hS dX5_keepingCut_35
  exact K_15 _ 0 t_9 _ _ _ _ hS (tq_w (⟨by decide, by decide⟩ : tq_iv 0 0 0) (by decide) (by decide)) (Nat.lt_succ_self _) (lv_sub hl [0, 1, 2] rfl)
set_option maxHeartbeats 4000000 in
set_option maxRecDepth 100000 in
theorem c_X11_keeps (l : Launch) (X : tq_X) (Z : tq_Z) (f : Nat → va_E) (h0 : Nat) (z_h0 : tq_z Z h0 (.inl 11)) (x1 : Int32) : tq_M l X Z f [(5, 4)] yX11_keeps cX11_keeps 2 (some .int) 7 [.ref h0, .int x1] (tq_ri (-2147483648) 2147483647) := by
  refine tq_starti (by decide) (Nat.le_of_ble_eq_true rfl) (fun p e R s m args below meth c Q hC hret hS ls hl => ?_)
  have hC : tq_C p R s m args c X (tq_A Z) RX11 cX11_keeps 2 7 := hC
  have hx := hC.1.1
  have hb := hC.1.2.1
  have hown := hC.1.2.2.2.1
  have hts := hC.1.2.2.2.2
  have hl : lv_has ls 2 [(0, .ref h0), (1, .int x1)] := hl
  generalize hf0 : f = f0 at hret
  have hS : tq_S X Z (tq_A Z) s.heap f0 [(5, 4)] f s.heap [] := hf0 ▸ hS
  refine lv_aload_n hx hb dX11_keeps_0 rfl (lv_at hl 0 rfl) ?_
  refine gf_RX11_29 hC hS z_h0 dX11_keeps_1 (fun t_1 p_1 q_1 => ?_)
  refine lv_iload_n hx hb dX11_keeps_4 rfl (lv_at hl 1 rfl) ?_
  refine tq_callVpi (As := [.int x1]) (rest := []) hC (c_X3_hasKey l X Z _ t_1 p_1 x1) k_X3_hasKey ql_RX11_137 rfl (by decide) hS p_1 rfl hl.1 rfl (Nat.le_of_ble_eq_true rfl) ⟨Nat.zero_le _, Nat.zero_le _⟩ dX11_keeps_5 (fun t_5 p_5 => ?_)
  have K_30 : ∀ (y0_30 : Int32) (f : Nat → va_E) (H : Heap) (locs : List Loc) (ls : Array Slot), tq_S X Z (tq_A Z) s.heap f0 [(5, 4)] f H locs → lv_has ls 2 [] → W p l e R s m args below meth c H locs 0 0 Q (F0 m 30 ls [.int y0_30]) := by
    intro y0_30 f H locs ls  hS hl
    exact hret y0_30 _ _ _ _ _ rfl ⟨_, rfl, tq_w (tq_top y0_30) (by decide) (by decide)⟩ hS dX11_keeps_30
  refine lv_if_eq (tgt := 29) hx hb dX11_keeps_8 (by decide) (fun c_8 => ?_) (fun c_8 => ?_)
  · skip
    have i1_t_5 : tq_iv 0 0 t_5 := tq_cut p_5 (tq_eqL c_8 (⟨by decide, by decide⟩ : tq_iv 0 0 0)) (by decide) (by decide)
    refine lv_iconst (v := -1) hx hb dX11_keeps_29 (by decide) ?_
    exact K_30 (-1) _ _ _ _ hS (lv_sub hl [] rfl)
  · skip
    have i2_t_5 : tq_iv 1 1 t_5 := tq_w (tq_neLo c_8 p_5 (⟨by decide, by decide⟩ : tq_iv 0 0 0)) (by decide) (by decide)
    refine lv_aload_n hx hb dX11_keeps_11 rfl (lv_at hl 0 rfl) ?_
    refine gf_RX11_37 hC hS z_h0 dX11_keeps_12 (fun t_12 p_12 q_12 => ?_)
    refine lv_aload_n hx hb dX11_keeps_15 rfl (lv_at hl 0 rfl) ?_
    refine gf_RX11_86 hC hS z_h0 dX11_keeps_16 (fun t_16 p_16 q_16 => ?_)
    refine lv_iload_n hx hb dX11_keeps_19 rfl (lv_at hl 1 rfl) ?_
    refine tq_callVi (As := [.int x1]) (rest := [.ref t_12]) hC (c_X5_keepingCut l X Z _ t_16 p_16 x1) k_X5_keepingCut ql_RX11_350 (by decide) rfl (by decide) hS p_16 rfl hl.1 rfl (Nat.le_of_ble_eq_true rfl) ⟨Nat.zero_le _, Nat.zero_le _⟩ dX11_keeps_20 (fun t_20 f1_20 H locs p_20 hS k_20 => ?_)
    refine tq_callVpi (As := [.int t_20]) (rest := []) hC (c_X6_numberOf l X Z _ t_12 p_12 t_20) k_X6_numberOf ql_RX11_144 rfl (by decide) hS p_12 rfl hl.1 rfl (Nat.le_of_ble_eq_true rfl) ⟨Nat.zero_le _, Nat.zero_le _⟩ dX11_keeps_23 (fun t_23 p_23 => ?_)
    refine lv_goto (tgt := 30) hx hb dX11_keeps_26 (by decide) ?_
    exact K_30 t_23 _ _ _ _ hS (lv_sub hl [] rfl)
set_option maxHeartbeats 4000000 in
set_option maxRecDepth 100000 in
theorem c_X5_stillOpened (l : Launch) (X : tq_X) (Z : tq_Z) (f : Nat → va_E) (h0 : Nat) (z_h0 : tq_z Z h0 (.inl 5)) (x1 : Int32) : tq_Mp l X Z f yX5_stillOpened cX5_stillOpened 5 (some .int) 3 [.ref h0, .int x1] (tq_ri (-2147483648) 2147483647) := by
  refine tq_startip (by decide) (Nat.le_of_ble_eq_true rfl) (fun p e R s m args below meth c Q hC hret hS ls hl => ?_)
  have hC : tq_C p R s m args c X (tq_A Z) RX5 cX5_stillOpened 5 3 := hC
  have hx := hC.1.1
  have hb := hC.1.2.1
  have hown := hC.1.2.2.2.1
  have hts := hC.1.2.2.2.2
  have hl : lv_has ls 5 [(0, .ref h0), (1, .int x1)] := hl
  refine lv_iconst (v := 0) hx hb dX5_stillOpened_0 (by decide) ?_
  refine lv_istore_n (lv' := [(2, .int 0), (0, .ref h0), (1, .int x1)]) hx hb dX5_stillOpened_1 rfl hl (by decide) rfl (fun ls hl => ?_)
  refine lv_iconst (v := 0) hx hb dX5_stillOpened_2 (by decide) ?_
  refine lv_istore_n (lv' := [(3, .int 0), (2, .int 0), (0, .ref h0), (1, .int x1)]) hx hb dX5_stillOpened_3 rfl hl (by decide) rfl (fun ls hl => ?_)
  have K_4 : ∀ (n_4 : Nat) (x3_4 : Int32) (x2_4 : Int32) (ls : Array Slot), tq_iv 0 2147483647 x3_4 → (2147483647 - x3_4.toInt).toNat < n_4 → lv_has ls 5 [(3, .int x3_4), (2, .int x2_4), (0, .ref h0), (1, .int x1)] → W p l e R s m args below meth c s.heap [] 0 0 Q (F0 m 4 ls []) := by
    intro n_4
    induction n_4 with
    | zero => intro x3_4 x2_4 ls  i1_x3_4 hn_4; exact absurd hn_4 (Nat.not_lt_zero _)
    | succ n_4 ih_4 =>
      intro x3_4 x2_4 ls  i1_x3_4 hn_4 hl
      refine lv_iload_n hx hb dX5_stillOpened_4 rfl (lv_at hl 0 rfl) ?_
      refine lv_aload_n hx hb dX5_stillOpened_5 rfl (lv_at hl 2 rfl) ?_
      refine gf_RX5_9 hC hS z_h0 dX5_stillOpened_6 (fun t_6 p_6 q_6 => ?_)
      refine gf_RX5_64 hC hS p_6 dX5_stillOpened_9 (fun t_9 p_9 q_9 => ?_)
      refine lv_icmp_ge (tgt := 68) hx hb dX5_stillOpened_12 (by decide) (fun c_12 => ?_) (fun c_12 => ?_)
      · skip
        refine lv_iload_n hx hb dX5_stillOpened_68 rfl (lv_at hl 1 rfl) ?_
        exact hret x2_4 _ _ rfl ⟨_, rfl, tq_w (tq_top x2_4) (by decide) (by decide)⟩ dX5_stillOpened_69
      · skip
        have i2_x3_4 : tq_iv 0 2147483646 x3_4 := tq_cut i1_x3_4 (tq_ltL (tq_nle c_12) i1_x3_4 (tq_top t_9)) (by decide) (by decide)
        have i3_t_9 : tq_iv 1 2147483647 t_9 := tq_cut (tq_top t_9) (tq_ltR (tq_nle c_12) i1_x3_4 (tq_top t_9)) (by decide) (by decide)
        refine lv_aload_n hx hb dX5_stillOpened_15 rfl (lv_at hl 2 rfl) ?_
        refine gf_RX5_9 hC hS z_h0 dX5_stillOpened_16 (fun t_16 p_16 q_16 => ?_)
        refine lv_iload_n hx hb dX5_stillOpened_19 rfl (lv_at hl 0 rfl) ?_
        refine tq_callVpi (As := [.int x3_4]) (rest := []) hC (c_X3_mustOf l X Z _ t_16 p_16 x3_4) k_X3_mustOf ql_RX5_55 rfl (by decide) hS p_16 rfl hl.1 rfl (Nat.le_of_ble_eq_true rfl) ⟨Nat.zero_le _, Nat.zero_le _⟩ dX5_stillOpened_20 (fun t_20 p_20 => ?_)
        refine lv_iconst (v := 1) hx hb dX5_stillOpened_23 (by decide) ?_
        refine lv_iload_n hx hb dX5_stillOpened_24 rfl (lv_at hl 3 rfl) ?_
        refine lv_ishl hx hb dX5_stillOpened_25 ?_
        refine lv_topi (fun t_25 e_25 => ?_)
        refine lv_iconst (v := -1) hx hb dX5_stillOpened_26 (by decide) ?_
        refine lv_ixor hx hb dX5_stillOpened_27 ?_
        refine lv_topi (fun t_27 e_27 => ?_)
        refine lv_iand hx hb dX5_stillOpened_28 ?_
        refine lv_topi (fun t_28 e_28 => ?_)
        refine lv_istore (lv' := [(4, .int t_28), (3, .int x3_4), (2, .int x2_4), (0, .ref h0), (1, .int x1)]) hx hb dX5_stillOpened_29 hl (by decide) rfl (fun ls hl => ?_)
        refine lv_iload hx hb dX5_stillOpened_31 (lv_at hl 0 rfl) ?_
        have K_62 : ∀ (x2_62 : Int32) (ls : Array Slot), lv_has ls 5 [(3, .int x3_4), (2, .int x2_62), (0, .ref h0), (1, .int x1)] → W p l e R s m args below meth c s.heap [] 0 0 Q (F0 m 62 ls []) := by
          intro x2_62 ls  hl
          obtain ⟨t_62, e_62⟩ : ∃ y : Int32, y = x3_4 + 1 := ⟨_, rfl⟩
          have i4_t_62 : tq_iv 1 2147483647 t_62 := tq_w (tq_add e_62 i2_x3_4 (⟨by decide, by decide⟩ : tq_iv 1 1 1) (by decide) (by decide)) (by decide) (by decide)
          refine lv_iinc (v := t_62) (lv' := [(3, .int t_62), (2, .int x2_62), (0, .ref h0), (1, .int x1)]) hx hb dX5_stillOpened_62 hl (k := 0) rfl (by rw [e_62]; rfl) (by decide) rfl (fun ls hl => ?_)
          refine lv_goto (tgt := 4) hx hb dX5_stillOpened_65 (by decide) ?_
          exact ih_4 t_62 x2_62 _ (tq_w i4_t_62 (by decide) (by decide)) (tq_up e_62 i2_x3_4 (⟨by decide, by decide⟩ : tq_iv 1 1 1) (by decide) (by decide) hn_4) (lv_sub hl [0, 1, 2, 3] rfl)
        refine lv_if_eq (tgt := 62) hx hb dX5_stillOpened_33 (by decide) (fun c_33 => ?_) (fun c_33 => ?_)
        · skip
          have i5_t_28 : tq_iv 0 0 t_28 := tq_cut (tq_top t_28) (tq_eqL c_33 (⟨by decide, by decide⟩ : tq_iv 0 0 0)) (by decide) (by decide)
          exact K_62 x2_4 _ (lv_sub hl [1, 2, 3, 4] rfl)
        · skip
          refine lv_aload_n hx hb dX5_stillOpened_36 rfl (lv_at hl 3 rfl) ?_
          refine gf_RX5_15 hC hS z_h0 dX5_stillOpened_37 (fun t_37 p_37 q_37 => ?_)
          refine lv_iload_n hx hb dX5_stillOpened_40 rfl (lv_at hl 4 rfl) ?_
          refine tq_callVpi (As := [.int x1]) (rest := []) hC (c_X7_bits l X Z _ t_37 p_37 x1) k_X7_bits ql_RX5_37 rfl (by decide) hS p_37 rfl hl.1 rfl (Nat.le_of_ble_eq_true rfl) ⟨Nat.zero_le _, Nat.zero_le _⟩ dX5_stillOpened_41 (fun t_41 p_41 => ?_)
          refine lv_aload_n hx hb dX5_stillOpened_44 rfl (lv_at hl 3 rfl) ?_
          refine lv_iload hx hb dX5_stillOpened_45 (lv_at hl 0 rfl) ?_
          refine tq_callVpi (As := [.int t_28]) (rest := [.int t_41]) hC (c_X5_pinsFor l X Z _ h0 z_h0 t_28) k_X5_pinsFor ql_RX5_58 rfl (by decide) hS z_h0 rfl hl.1 rfl (Nat.le_of_ble_eq_true rfl) ⟨Nat.zero_le _, Nat.zero_le _⟩ dX5_stillOpened_47 (fun t_47 p_47 => ?_)
          refine tq_callSpi (As := [.int t_41, .int t_47]) (rest := []) hC (c_X6_fitsIn l X Z _ t_41 t_47) k_X6_fitsIn ql_RX5_46 rfl (by decide) hS hl.1 rfl (Nat.le_of_ble_eq_true rfl) ⟨Nat.zero_le _, Nat.zero_le _⟩ dX5_stillOpened_50 (fun t_50 p_50 => ?_)
          refine lv_if_eq (tgt := 62) hx hb dX5_stillOpened_53 (by decide) (fun c_53 => ?_) (fun c_53 => ?_)
          · skip
            have i6_t_50 : tq_iv 0 0 t_50 := tq_cut p_50 (tq_eqL c_53 (⟨by decide, by decide⟩ : tq_iv 0 0 0)) (by decide) (by decide)
            exact K_62 x2_4 _ (lv_sub hl [1, 2, 3, 4] rfl)
          · skip
            have i7_t_50 : tq_iv 1 1 t_50 := tq_w (tq_neLo c_53 p_50 (⟨by decide, by decide⟩ : tq_iv 0 0 0)) (by decide) (by decide)
            refine lv_iload_n hx hb dX5_stillOpened_56 rfl (lv_at hl 2 rfl) ?_
            refine lv_iconst (v := 1) hx hb dX5_stillOpened_57 (by decide) ?_
            refine lv_iload_n hx hb dX5_stillOpened_58 rfl (lv_at hl 1 rfl) ?_
            refine lv_ishl hx hb dX5_stillOpened_59 ?_
            refine lv_topi (fun t_59 e_59 => ?_)
            refine lv_ior hx hb dX5_stillOpened_60 ?_
            refine lv_topi (fun t_60 e_60 => ?_)
            refine lv_istore_n (lv' := [(2, .int t_60), (4, .int t_28), (3, .int x3_4), (0, .ref h0), (1, .int x1)]) hx hb dX5_stillOpened_61 rfl hl (by decide) rfl (fun ls hl => ?_)
            exact K_62 t_60 _ (lv_sub hl [2, 0, 3, 4] rfl)
  exact K_4 _ 0 0 _ (tq_w (⟨by decide, by decide⟩ : tq_iv 0 0 0) (by decide) (by decide)) (Nat.lt_succ_self _) (lv_sub hl [0, 1, 2, 3] rfl)
set_option maxHeartbeats 4000000 in
set_option maxRecDepth 100000 in
theorem c_X11_leftOver (l : Launch) (X : tq_X) (Z : tq_Z) (f : Nat → va_E) (h0 : Nat) (z_h0 : tq_z Z h0 (.inl 11)) (x1 : Int32) : tq_Mp l X Z f yX11_leftOver cX11_leftOver 2 (some .int) 4 [.ref h0, .int x1] (tq_ri (-2147483648) 2147483647) := by
  refine tq_startip (by decide) (Nat.le_of_ble_eq_true rfl) (fun p e R s m args below meth c Q hC hret hS ls hl => ?_)
  have hC : tq_C p R s m args c X (tq_A Z) RX11 cX11_leftOver 2 4 := hC
  have hx := hC.1.1
  have hb := hC.1.2.1
  have hown := hC.1.2.2.2.1
  have hts := hC.1.2.2.2.2
  have hl : lv_has ls 2 [(0, .ref h0), (1, .int x1)] := hl
  refine lv_aload_n hx hb dX11_leftOver_0 rfl (lv_at hl 0 rfl) ?_
  refine gf_RX11_29 hC hS z_h0 dX11_leftOver_1 (fun t_1 p_1 q_1 => ?_)
  refine lv_iload_n hx hb dX11_leftOver_4 rfl (lv_at hl 1 rfl) ?_
  refine tq_callVpi (As := [.int x1]) (rest := []) hC (c_X3_hasKey l X Z _ t_1 p_1 x1) k_X3_hasKey ql_RX11_137 rfl (by decide) hS p_1 rfl hl.1 rfl (Nat.le_of_ble_eq_true rfl) ⟨Nat.zero_le _, Nat.zero_le _⟩ dX11_leftOver_5 (fun t_5 p_5 => ?_)
  have K_23 : ∀ (y0_23 : Int32) (ls : Array Slot), lv_has ls 2 [] → W p l e R s m args below meth c s.heap [] 0 0 Q (F0 m 23 ls [.int y0_23]) := by
    intro y0_23 ls  hl
    exact hret y0_23 _ _ rfl ⟨_, rfl, tq_w (tq_top y0_23) (by decide) (by decide)⟩ dX11_leftOver_23
  refine lv_if_eq (tgt := 22) hx hb dX11_leftOver_8 (by decide) (fun c_8 => ?_) (fun c_8 => ?_)
  · skip
    have i1_t_5 : tq_iv 0 0 t_5 := tq_cut p_5 (tq_eqL c_8 (⟨by decide, by decide⟩ : tq_iv 0 0 0)) (by decide) (by decide)
    refine lv_iconst (v := -1) hx hb dX11_leftOver_22 (by decide) ?_
    exact K_23 (-1) _ (lv_sub hl [] rfl)
  · skip
    have i2_t_5 : tq_iv 1 1 t_5 := tq_w (tq_neLo c_8 p_5 (⟨by decide, by decide⟩ : tq_iv 0 0 0)) (by decide) (by decide)
    refine lv_aload_n hx hb dX11_leftOver_11 rfl (lv_at hl 0 rfl) ?_
    refine gf_RX11_86 hC hS z_h0 dX11_leftOver_12 (fun t_12 p_12 q_12 => ?_)
    refine lv_iload_n hx hb dX11_leftOver_15 rfl (lv_at hl 1 rfl) ?_
    refine tq_callVpi (As := [.int x1]) (rest := []) hC (c_X5_stillOpened l X Z _ t_12 p_12 x1) k_X5_stillOpened ql_RX11_353 rfl (by decide) hS p_12 rfl hl.1 rfl (Nat.le_of_ble_eq_true rfl) ⟨Nat.zero_le _, Nat.zero_le _⟩ dX11_leftOver_16 (fun t_16 p_16 => ?_)
    refine lv_goto (tgt := 23) hx hb dX11_leftOver_19 (by decide) ?_
    exact K_23 t_16 _ (lv_sub hl [] rfl)
set_option maxHeartbeats 4000000 in
set_option maxRecDepth 100000 in
theorem c_X2_distanceOf (l : Launch) (X : tq_X) (Z : tq_Z) (f : Nat → va_E) (h0 : Nat) (z_h0 : tq_z Z h0 (.inl 2)) (x1 : Int32) : tq_Mp l X Z f yX2_distanceOf cX2_distanceOf 2 (some .int) 0 [.ref h0, .int x1] (tq_ri (-2147483648) 2147483647) := by
  refine tq_startip (by decide) (Nat.le_of_ble_eq_true rfl) (fun p e R s m args below meth c Q hC hret hS ls hl => ?_)
  have hC : tq_C p R s m args c X (tq_A Z) RX2 cX2_distanceOf 2 0 := hC
  have hx := hC.1.1
  have hb := hC.1.2.1
  have hown := hC.1.2.2.2.1
  have hts := hC.1.2.2.2.2
  have hl : lv_has ls 2 [(0, .ref h0), (1, .int x1)] := hl
  refine lv_iload_n hx hb dX2_distanceOf_0 rfl (lv_at hl 1 rfl) ?_
  have K_20 : ∀ (y0_20 : Int32) (ls : Array Slot), lv_has ls 2 [] → W p l e R s m args below meth c s.heap [] 0 0 Q (F0 m 20 ls [.int y0_20]) := by
    intro y0_20 ls  hl
    exact hret y0_20 _ _ rfl ⟨_, rfl, tq_w (tq_top y0_20) (by decide) (by decide)⟩ dX2_distanceOf_20
  have K_19 : ∀ (ls : Array Slot), lv_has ls 2 [] → W p l e R s m args below meth c s.heap [] 0 0 Q (F0 m 19 ls []) := by
    intro  ls  hl
    refine lv_iconst (v := -1) hx hb dX2_distanceOf_19 (by decide) ?_
    exact K_20 (-1) _ (lv_sub hl [] rfl)
  refine lv_if_lt (tgt := 19) hx hb dX2_distanceOf_1 (by decide) (fun c_1 => ?_) (fun c_1 => ?_)
  · skip
    have i1_x1 : tq_iv (-2147483648) (-1) x1 := tq_cut (tq_top x1) (tq_ltL c_1 (tq_top x1) (⟨by decide, by decide⟩ : tq_iv 0 0 0)) (by decide) (by decide)
    exact K_19 _ (lv_sub hl [] rfl)
  · skip
    have i2_x1 : tq_iv 0 2147483647 x1 := tq_cut (tq_top x1) (tq_leR (tq_nlt c_1) (⟨by decide, by decide⟩ : tq_iv 0 0 0) (tq_top x1)) (by decide) (by decide)
    refine lv_iload_n hx hb dX2_distanceOf_4 rfl (lv_at hl 1 rfl) ?_
    refine lv_bipush (v := 6) hx hb dX2_distanceOf_5 (by decide) ?_
    refine lv_icmp_ge (tgt := 19) hx hb dX2_distanceOf_7 (by decide) (fun c_7 => ?_) (fun c_7 => ?_)
    · skip
      have i3_x1 : tq_iv 6 2147483647 x1 := tq_cut i2_x1 (tq_leR c_7 (⟨by decide, by decide⟩ : tq_iv 6 6 6) i2_x1) (by decide) (by decide)
      exact K_19 _ (lv_sub hl [] rfl)
    · skip
      have i4_x1 : tq_iv 0 5 x1 := tq_cut i2_x1 (tq_ltL (tq_nle c_7) i2_x1 (⟨by decide, by decide⟩ : tq_iv 6 6 6)) (by decide) (by decide)
      refine lv_aload_n hx hb dX2_distanceOf_10 rfl (lv_at hl 0 rfl) ?_
      refine gf_RX2_19 hC hS z_h0 dX2_distanceOf_11 (fun t_11 p_11 q_11 => ?_)
      refine lv_iload_n hx hb dX2_distanceOf_14 rfl (lv_at hl 1 rfl) ?_
      refine tq_iald hC hS p_11 rfl (tq_vin i4_x1 (by decide) (by decide)) dX2_distanceOf_15 (fun t_15 p_15 => ?_)
      refine lv_goto (tgt := 20) hx hb dX2_distanceOf_16 (by decide) ?_
      exact K_20 t_15 _ (lv_sub hl [] rfl)
set_option maxHeartbeats 4000000 in
set_option maxRecDepth 100000 in
theorem c_X2_doorTowards (l : Launch) (X : tq_X) (Z : tq_Z) (f : Nat → va_E) (h0 : Nat) (z_h0 : tq_z Z h0 (.inl 2)) (x1 : Int32) (x2 : Int32) (x3 : Int32) : tq_Mp l X Z f yX2_doorTowards cX2_doorTowards 6 (some .int) 3 [.ref h0, .int x1, .int x2, .int x3] (tq_ri (-1) 2147483646) := by
  refine tq_startip (by decide) (Nat.le_of_ble_eq_true rfl) (fun p e R s m args below meth c Q hC hret hS ls hl => ?_)
  have hC : tq_C p R s m args c X (tq_A Z) RX2 cX2_doorTowards 6 3 := hC
  have hx := hC.1.1
  have hb := hC.1.2.1
  have hown := hC.1.2.2.2.1
  have hts := hC.1.2.2.2.2
  have hl : lv_has ls 6 [(0, .ref h0), (1, .int x1), (2, .int x2), (3, .int x3)] := hl
  refine lv_iconst (v := 0) hx hb dX2_doorTowards_0 (by decide) ?_
  refine lv_istore (lv' := [(4, .int 0), (0, .ref h0), (1, .int x1), (2, .int x2), (3, .int x3)]) hx hb dX2_doorTowards_1 hl (by decide) rfl (fun ls hl => ?_)
  have K_3 : ∀ (n_3 : Nat) (x4_3 : Int32) (ls : Array Slot), tq_iv 0 2147483647 x4_3 → (2147483647 - x4_3.toInt).toNat < n_3 → lv_has ls 6 [(4, .int x4_3), (0, .ref h0), (1, .int x1), (2, .int x2), (3, .int x3)] → W p l e R s m args below meth c s.heap [] 0 0 Q (F0 m 3 ls []) := by
    intro n_3
    induction n_3 with
    | zero => intro x4_3 ls  i1_x4_3 hn_3; exact absurd hn_3 (Nat.not_lt_zero _)
    | succ n_3 ih_3 =>
      intro x4_3 ls  i1_x4_3 hn_3 hl
      refine lv_iload hx hb dX2_doorTowards_3 (lv_at hl 0 rfl) ?_
      refine lv_aload_n hx hb dX2_doorTowards_5 rfl (lv_at hl 1 rfl) ?_
      refine gf_RX2_9 hC hS z_h0 dX2_doorTowards_6 (fun t_6 p_6 q_6 => ?_)
      refine gf_RX2_56 hC hS p_6 dX2_doorTowards_9 (fun t_9 p_9 q_9 => ?_)
      refine lv_icmp_ge (tgt := 68) hx hb dX2_doorTowards_12 (by decide) (fun c_12 => ?_) (fun c_12 => ?_)
      · skip
        refine lv_iconst (v := -1) hx hb dX2_doorTowards_68 (by decide) ?_
        exact hret (-1) _ _ rfl ⟨_, rfl, tq_w (⟨by decide, by decide⟩ : tq_iv (-1) (-1) (-1)) (by decide) (by decide)⟩ dX2_doorTowards_69
      · skip
        have i2_x4_3 : tq_iv 0 2147483646 x4_3 := tq_cut i1_x4_3 (tq_ltL (tq_nle c_12) i1_x4_3 (tq_top t_9)) (by decide) (by decide)
        have i3_t_9 : tq_iv 1 2147483647 t_9 := tq_cut (tq_top t_9) (tq_ltR (tq_nle c_12) i1_x4_3 (tq_top t_9)) (by decide) (by decide)
        refine lv_aload_n hx hb dX2_doorTowards_15 rfl (lv_at hl 1 rfl) ?_
        refine gf_RX2_9 hC hS z_h0 dX2_doorTowards_16 (fun t_16 p_16 q_16 => ?_)
        refine lv_iload hx hb dX2_doorTowards_19 (lv_at hl 0 rfl) ?_
        refine lv_iload_n hx hb dX2_doorTowards_21 rfl (lv_at hl 2 rfl) ?_
        refine tq_callVpi (As := [.int x4_3, .int x1]) (rest := []) hC (c_X3_otherSide l X Z _ t_16 p_16 x4_3 x1) k_X3_otherSide ql_RX2_95 rfl (by decide) hS p_16 rfl hl.1 rfl (Nat.le_of_ble_eq_true rfl) ⟨Nat.zero_le _, Nat.zero_le _⟩ dX2_doorTowards_22 (fun t_22 p_22 => ?_)
        refine lv_istore (lv' := [(5, .int t_22), (4, .int x4_3), (0, .ref h0), (1, .int x1), (2, .int x2), (3, .int x3)]) hx hb dX2_doorTowards_25 hl (by decide) rfl (fun ls hl => ?_)
        refine lv_iload_n hx hb dX2_doorTowards_27 rfl (lv_at hl 5 rfl) ?_
        refine lv_aload_n hx hb dX2_doorTowards_28 rfl (lv_at hl 2 rfl) ?_
        refine gf_RX2_9 hC hS z_h0 dX2_doorTowards_29 (fun t_29 p_29 q_29 => ?_)
        refine lv_iload hx hb dX2_doorTowards_32 (lv_at hl 1 rfl) ?_
        refine tq_callVpi (As := [.int x4_3]) (rest := [.int x3]) hC (c_X3_doorLock l X Z _ t_29 p_29 x4_3) k_X3_doorLock ql_RX2_65 rfl (by decide) hS p_29 rfl hl.1 rfl (Nat.le_of_ble_eq_true rfl) ⟨Nat.zero_le _, Nat.zero_le _⟩ dX2_doorTowards_34 (fun t_34 p_34 => ?_)
        refine lv_ishr hx hb dX2_doorTowards_37 ?_
        refine lv_topi (fun t_37 e_37 => ?_)
        refine lv_iconst (v := 1) hx hb dX2_doorTowards_38 (by decide) ?_
        refine lv_iand hx hb dX2_doorTowards_39 ?_
        refine lv_topi (fun t_39 e_39 => ?_)
        have i4_t_39 : tq_iv 0 1 t_39 := tq_and2 e_39 (⟨by decide, by decide⟩ : tq_iv 1 1 1) (by decide)
        have K_62 : ∀ (ls : Array Slot), lv_has ls 6 [(4, .int x4_3), (0, .ref h0), (1, .int x1), (2, .int x2), (3, .int x3)] → W p l e R s m args below meth c s.heap [] 0 0 Q (F0 m 62 ls []) := by
          intro  ls  hl
          obtain ⟨t_62, e_62⟩ : ∃ y : Int32, y = x4_3 + 1 := ⟨_, rfl⟩
          have i5_t_62 : tq_iv 1 2147483647 t_62 := tq_w (tq_add e_62 i2_x4_3 (⟨by decide, by decide⟩ : tq_iv 1 1 1) (by decide) (by decide)) (by decide) (by decide)
          refine lv_iinc (v := t_62) (lv' := [(4, .int t_62), (0, .ref h0), (1, .int x1), (2, .int x2), (3, .int x3)]) hx hb dX2_doorTowards_62 hl (k := 0) rfl (by rw [e_62]; rfl) (by decide) rfl (fun ls hl => ?_)
          refine lv_goto (tgt := 3) hx hb dX2_doorTowards_65 (by decide) ?_
          exact ih_3 t_62 _ (tq_w i5_t_62 (by decide) (by decide)) (tq_up e_62 i2_x4_3 (⟨by decide, by decide⟩ : tq_iv 1 1 1) (by decide) (by decide) hn_3) (lv_sub hl [0, 1, 2, 3, 4] rfl)
        refine lv_if_eq (tgt := 62) hx hb dX2_doorTowards_40 (by decide) (fun c_40 => ?_) (fun c_40 => ?_)
        · skip
          have i6_t_39 : tq_iv 0 0 t_39 := tq_cut i4_t_39 (tq_eqL c_40 (⟨by decide, by decide⟩ : tq_iv 0 0 0)) (by decide) (by decide)
          exact K_62 _ (lv_sub hl [1, 2, 3, 4, 5] rfl)
        · skip
          have i7_t_39 : tq_iv 1 1 t_39 := tq_w (tq_neLo c_40 i4_t_39 (⟨by decide, by decide⟩ : tq_iv 0 0 0)) (by decide) (by decide)
          refine lv_iload hx hb dX2_doorTowards_43 (lv_at hl 0 rfl) ?_
          refine lv_iconst (v := -1) hx hb dX2_doorTowards_45 (by decide) ?_
          refine lv_icmp_eq (tgt := 62) hx hb dX2_doorTowards_46 (by decide) (fun c_46 => ?_) (fun c_46 => ?_)
          · skip
            have i8_t_22 : tq_iv (-1) (-1) t_22 := tq_cut (tq_top t_22) (tq_eqL c_46 (⟨by decide, by decide⟩ : tq_iv (-1) (-1) (-1))) (by decide) (by decide)
            exact K_62 _ (lv_sub hl [1, 2, 3, 4, 5] rfl)
          · skip
            refine lv_aload_n hx hb dX2_doorTowards_49 rfl (lv_at hl 2 rfl) ?_
            refine lv_iload hx hb dX2_doorTowards_50 (lv_at hl 0 rfl) ?_
            refine tq_callVpi (As := [.int t_22]) (rest := []) hC (c_X2_distanceOf l X Z _ h0 z_h0 t_22) k_X2_distanceOf ql_RX2_88 rfl (by decide) hS z_h0 rfl hl.1 rfl (Nat.le_of_ble_eq_true rfl) ⟨Nat.zero_le _, Nat.zero_le _⟩ dX2_doorTowards_52 (fun t_52 p_52 => ?_)
            refine lv_iload_n hx hb dX2_doorTowards_55 rfl (lv_at hl 4 rfl) ?_
            refine lv_icmp_ne (tgt := 62) hx hb dX2_doorTowards_56 (by decide) (fun c_56 => ?_) (fun c_56 => ?_)
            · skip
              exact K_62 _ (lv_sub hl [1, 2, 3, 4, 5] rfl)
            · skip
              refine lv_iload hx hb dX2_doorTowards_59 (lv_at hl 1 rfl) ?_
              exact hret x4_3 _ _ rfl ⟨_, rfl, tq_w i2_x4_3 (by decide) (by decide)⟩ dX2_doorTowards_61
  exact K_3 _ 0 _ (tq_w (⟨by decide, by decide⟩ : tq_iv 0 0 0) (by decide) (by decide)) (Nat.lt_succ_self _) (lv_sub hl [0, 1, 2, 3, 4] rfl)
set_option maxHeartbeats 4000000 in
set_option maxRecDepth 100000 in
theorem c_X2_putDistance (l : Launch) (X : tq_X) (Z : tq_Z) (f : Nat → va_E) (h0 : Nat) (z_h0 : tq_z Z h0 (.inl 2)) (x1 : Int32) (x2 : Int32) : tq_M l X Z f [] yX2_putDistance cX2_putDistance 3 (none) 0 [.ref h0, .int x1, .int x2] tq_rv := by
  refine tq_startv (by decide) (Nat.le_of_ble_eq_true rfl) (fun p e R s m args below meth c Q hC hret hS ls hl => ?_)
  have hC : tq_C p R s m args c X (tq_A Z) RX2 cX2_putDistance 3 0 := hC
  have hx := hC.1.1
  have hb := hC.1.2.1
  have hown := hC.1.2.2.2.1
  have hts := hC.1.2.2.2.2
  have hl : lv_has ls 3 [(0, .ref h0), (1, .int x1), (2, .int x2)] := hl
  generalize hf0 : f = f0 at hret
  have hS : tq_S X Z (tq_A Z) s.heap f0 [] f s.heap [] := hf0 ▸ hS
  refine lv_iload_n hx hb dX2_putDistance_0 rfl (lv_at hl 1 rfl) ?_
  have K_27 : ∀ (f : Nat → va_E) (H : Heap) (locs : List Loc) (ls : Array Slot), tq_S X Z (tq_A Z) s.heap f0 [] f H locs → lv_has ls 3 [] → W p l e R s m args below meth c H locs 0 0 Q (F0 m 27 ls []) := by
    intro f H locs ls  hS hl
    exact hret _ _ _ _ _ rfl hS dX2_putDistance_27
  refine lv_if_lt (tgt := 27) hx hb dX2_putDistance_1 (by decide) (fun c_1 => ?_) (fun c_1 => ?_)
  · skip
    have i1_x1 : tq_iv (-2147483648) (-1) x1 := tq_cut (tq_top x1) (tq_ltL c_1 (tq_top x1) (⟨by decide, by decide⟩ : tq_iv 0 0 0)) (by decide) (by decide)
    exact K_27 _ _ _ _ hS (lv_sub hl [] rfl)
  · skip
    have i2_x1 : tq_iv 0 2147483647 x1 := tq_cut (tq_top x1) (tq_leR (tq_nlt c_1) (⟨by decide, by decide⟩ : tq_iv 0 0 0) (tq_top x1)) (by decide) (by decide)
    refine lv_iload_n hx hb dX2_putDistance_4 rfl (lv_at hl 1 rfl) ?_
    refine lv_bipush (v := 6) hx hb dX2_putDistance_5 (by decide) ?_
    refine lv_icmp_ge (tgt := 27) hx hb dX2_putDistance_7 (by decide) (fun c_7 => ?_) (fun c_7 => ?_)
    · skip
      have i3_x1 : tq_iv 6 2147483647 x1 := tq_cut i2_x1 (tq_leR c_7 (⟨by decide, by decide⟩ : tq_iv 6 6 6) i2_x1) (by decide) (by decide)
      exact K_27 _ _ _ _ hS (lv_sub hl [] rfl)
    · skip
      have i4_x1 : tq_iv 0 5 x1 := tq_cut i2_x1 (tq_ltL (tq_nle c_7) i2_x1 (⟨by decide, by decide⟩ : tq_iv 6 6 6)) (by decide) (by decide)
      refine lv_aload_n hx hb dX2_putDistance_10 rfl (lv_at hl 0 rfl) ?_
      refine gf_RX2_19 hC hS z_h0 dX2_putDistance_11 (fun t_11 p_11 q_11 => ?_)
      refine lv_iload_n hx hb dX2_putDistance_14 rfl (lv_at hl 1 rfl) ?_
      refine tq_iald hC hS p_11 rfl (tq_vin i4_x1 (by decide) (by decide)) dX2_putDistance_15 (fun t_15 p_15 => ?_)
      refine lv_iconst (v := -1) hx hb dX2_putDistance_16 (by decide) ?_
      refine lv_icmp_ne (tgt := 27) hx hb dX2_putDistance_17 (by decide) (fun c_17 => ?_) (fun c_17 => ?_)
      · skip
        exact K_27 _ _ _ _ hS (lv_sub hl [] rfl)
      · skip
        have i5_t_15 : tq_iv (-1) (-1) t_15 := tq_cut (tq_top t_15) (tq_eqL c_17 (⟨by decide, by decide⟩ : tq_iv (-1) (-1) (-1))) (by decide) (by decide)
        refine lv_aload_n hx hb dX2_putDistance_20 rfl (lv_at hl 0 rfl) ?_
        refine gf_RX2_19 hC hS z_h0 dX2_putDistance_21 (fun t_21 p_21 q_21 => ?_)
        refine lv_iload_n hx hb dX2_putDistance_24 rfl (lv_at hl 1 rfl) ?_
        refine lv_iload_n hx hb dX2_putDistance_25 rfl (lv_at hl 2 rfl) ?_
        refine tq_iast hC hS p_21 rfl (tq_vin i4_x1 (by decide) (by decide)) trivial dX2_putDistance_26 (fun f H locs hS k_26 => ?_)
        exact K_27 _ _ _ _ hS (lv_sub hl [] rfl)
set_option maxHeartbeats 4000000 in
set_option maxRecDepth 100000 in
theorem c_X2_spread (l : Launch) (X : tq_X) (Z : tq_Z) (f : Nat → va_E) (h0 : Nat) (z_h0 : tq_z Z h0 (.inl 2)) (x1 : Int32) (x2 : Int32) (x3 : Int32) : tq_M l X Z f [] yX2_spread cX2_spread 4 (none) 1 [.ref h0, .int x1, .int x2, .int x3] tq_rv := by
  refine tq_startv (by decide) (Nat.le_of_ble_eq_true rfl) (fun p e R s m args below meth c Q hC hret hS ls hl => ?_)
  have hC : tq_C p R s m args c X (tq_A Z) RX2 cX2_spread 4 1 := hC
  have hx := hC.1.1
  have hb := hC.1.2.1
  have hown := hC.1.2.2.2.1
  have hts := hC.1.2.2.2.2
  have hl : lv_has ls 4 [(0, .ref h0), (1, .int x1), (2, .int x2), (3, .int x3)] := hl
  generalize hf0 : f = f0 at hret
  have hS : tq_S X Z (tq_A Z) s.heap f0 [] f s.heap [] := hf0 ▸ hS
  refine lv_aload_n hx hb dX2_spread_0 rfl (lv_at hl 0 rfl) ?_
  refine lv_iload_n hx hb dX2_spread_1 rfl (lv_at hl 1 rfl) ?_
  refine tq_callVpi (As := [.int x1]) (rest := []) hC (c_X2_distanceOf l X Z _ h0 z_h0 x1) k_X2_distanceOf ql_RX2_88 rfl (by decide) hS z_h0 rfl hl.1 rfl (Nat.le_of_ble_eq_true rfl) ⟨Nat.zero_le _, Nat.zero_le _⟩ dX2_spread_2 (fun t_2 p_2 => ?_)
  refine lv_iload_n hx hb dX2_spread_5 rfl (lv_at hl 3 rfl) ?_
  have K_17 : ∀ (f : Nat → va_E) (H : Heap) (locs : List Loc) (ls : Array Slot), tq_S X Z (tq_A Z) s.heap f0 [] f H locs → lv_has ls 4 [] → W p l e R s m args below meth c H locs 0 0 Q (F0 m 17 ls []) := by
    intro f H locs ls  hS hl
    exact hret _ _ _ _ _ rfl hS dX2_spread_17
  refine lv_icmp_ne (tgt := 17) hx hb dX2_spread_6 (by decide) (fun c_6 => ?_) (fun c_6 => ?_)
  · skip
    exact K_17 _ _ _ _ hS (lv_sub hl [] rfl)
  · skip
    refine lv_aload_n hx hb dX2_spread_9 rfl (lv_at hl 0 rfl) ?_
    refine lv_iload_n hx hb dX2_spread_10 rfl (lv_at hl 2 rfl) ?_
    refine lv_iload_n hx hb dX2_spread_11 rfl (lv_at hl 3 rfl) ?_
    refine lv_iconst (v := 1) hx hb dX2_spread_12 (by decide) ?_
    refine lv_iadd hx hb dX2_spread_13 ?_
    refine lv_topi (fun t_13 e_13 => ?_)
    refine tq_callVv (As := [.int x2, .int t_13]) (rest := []) hC (c_X2_putDistance l X Z _ h0 z_h0 x2 t_13) k_X2_putDistance ql_RX2_104 (by decide) rfl (by decide) hS z_h0 rfl hl.1 rfl (Nat.le_of_ble_eq_true rfl) ⟨Nat.zero_le _, Nat.zero_le _⟩ dX2_spread_14 (fun f1_14 H locs hS k_14 => ?_)
    exact K_17 _ _ _ _ hS (lv_sub hl [] rfl)
set_option maxHeartbeats 4000000 in
set_option maxRecDepth 100000 in
theorem c_X2_measure (l : Launch) (X : tq_X) (Z : tq_Z) (f : Nat → va_E) (h0 : Nat) (z_h0 : tq_z Z h0 (.inl 2)) (x1 : Int32) (x2 : Int32) : tq_M l X Z f [] yX2_measure cX2_measure 5 (none) 2 [.ref h0, .int x1, .int x2] tq_rv := by
  refine tq_startv (by decide) (Nat.le_of_ble_eq_true rfl) (fun p e R s m args below meth c Q hC hret hS ls hl => ?_)
  have hC : tq_C p R s m args c X (tq_A Z) RX2 cX2_measure 5 2 := hC
  have hx := hC.1.1
  have hb := hC.1.2.1
  have hown := hC.1.2.2.2.1
  have hts := hC.1.2.2.2.2
  have hl : lv_has ls 5 [(0, .ref h0), (1, .int x1), (2, .int x2)] := hl
  generalize hf0 : f = f0 at hret
  have hS : tq_S X Z (tq_A Z) s.heap f0 [] f s.heap [] := hf0 ▸ hS
  refine lv_aload_n hx hb dX2_measure_0 rfl (lv_at hl 0 rfl) ?_
  refine gf_RX2_19 hC hS z_h0 dX2_measure_1 (fun t_1 p_1 q_1 => ?_)
  refine lv_iconst (v := -1) hx hb dX2_measure_4 (by decide) ?_
  refine tq_callSv (As := [.ref t_1, .int (-1)]) (rest := []) hC (c_J7_fill_53178_1_6 l X Z _ t_1 p_1 (-1)) k_J7_fill_53178 ql_RX2_98 (by decide) rfl (by decide) hS hl.1 rfl (Nat.le_of_ble_eq_true rfl) ⟨Nat.zero_le _, Nat.zero_le _⟩ dX2_measure_5 (fun f1_5 H locs hS k_5 => ?_)
  refine lv_aload_n hx hb dX2_measure_8 rfl (lv_at hl 0 rfl) ?_
  refine lv_iload_n hx hb dX2_measure_9 rfl (lv_at hl 1 rfl) ?_
  refine lv_iconst (v := 0) hx hb dX2_measure_10 (by decide) ?_
  refine tq_callVv (As := [.int x1, .int 0]) (rest := []) hC (c_X2_putDistance l X Z _ h0 z_h0 x1 0) k_X2_putDistance ql_RX2_104 (by decide) rfl (by decide) hS z_h0 rfl hl.1 rfl (Nat.le_of_ble_eq_true rfl) ⟨Nat.zero_le _, Nat.zero_le _⟩ dX2_measure_11 (fun f1_11 H locs hS k_11 => ?_)
  refine lv_iconst (v := 0) hx hb dX2_measure_14 (by decide) ?_
  refine lv_istore_n (lv' := [(3, .int 0), (0, .ref h0), (1, .int x1), (2, .int x2)]) hx hb dX2_measure_15 rfl hl (by decide) rfl (fun ls hl => ?_)
  have K_16 : ∀ (n_16 : Nat) (x3_16 : Int32) (f : Nat → va_E) (H : Heap) (locs : List Loc) (ls : Array Slot), tq_S X Z (tq_A Z) s.heap f0 [] f H locs → tq_iv 0 6 x3_16 → (2147483647 - x3_16.toInt).toNat < n_16 → lv_has ls 5 [(3, .int x3_16), (0, .ref h0), (2, .int x2)] → W p l e R s m args below meth c H locs 0 0 Q (F0 m 16 ls []) := by
    intro n_16
    induction n_16 with
    | zero => intro x3_16 f H locs ls  hS i1_x3_16 hn_16; exact absurd hn_16 (Nat.not_lt_zero _)
    | succ n_16 ih_16 =>
      intro x3_16 f H locs ls  hS i1_x3_16 hn_16 hl
      refine lv_iload_n hx hb dX2_measure_16 rfl (lv_at hl 0 rfl) ?_
      refine lv_bipush (v := 6) hx hb dX2_measure_17 (by decide) ?_
      refine lv_icmp_ge (tgt := 111) hx hb dX2_measure_19 (by decide) (fun c_19 => ?_) (fun c_19 => ?_)
      · skip
        have i2_x3_16 : tq_iv 6 6 x3_16 := tq_cut i1_x3_16 (tq_leR c_19 (⟨by decide, by decide⟩ : tq_iv 6 6 6) i1_x3_16) (by decide) (by decide)
        exact hret _ _ _ _ _ rfl hS dX2_measure_111
      · skip
        have i3_x3_16 : tq_iv 0 5 x3_16 := tq_cut i1_x3_16 (tq_ltL (tq_nle c_19) i1_x3_16 (⟨by decide, by decide⟩ : tq_iv 6 6 6)) (by decide) (by decide)
        refine lv_iconst (v := 0) hx hb dX2_measure_22 (by decide) ?_
        refine lv_istore (lv' := [(4, .int 0), (3, .int x3_16), (0, .ref h0), (2, .int x2)]) hx hb dX2_measure_23 hl (by decide) rfl (fun ls hl => ?_)
        have K_25 : ∀ (n_25 : Nat) (x4_25 : Int32) (f : Nat → va_E) (H : Heap) (locs : List Loc) (ls : Array Slot), tq_S X Z (tq_A Z) s.heap f0 [] f H locs → tq_iv 0 2147483647 x4_25 → (2147483647 - x4_25.toInt).toNat < n_25 → lv_has ls 5 [(4, .int x4_25), (3, .int x3_16), (0, .ref h0), (2, .int x2)] → W p l e R s m args below meth c H locs 0 0 Q (F0 m 25 ls []) := by
          intro n_25
          induction n_25 with
          | zero => intro x4_25 f H locs ls  hS i4_x4_25 hn_25; exact absurd hn_25 (Nat.not_lt_zero _)
          | succ n_25 ih_25 =>
            intro x4_25 f H locs ls  hS i4_x4_25 hn_25 hl
            refine lv_iload hx hb dX2_measure_25 (lv_at hl 0 rfl) ?_
            refine lv_aload_n hx hb dX2_measure_27 rfl (lv_at hl 2 rfl) ?_
            refine gf_RX2_9 hC hS z_h0 dX2_measure_28 (fun t_28 p_28 q_28 => ?_)
            refine gf_RX2_56 hC hS p_28 dX2_measure_31 (fun t_31 p_31 q_31 => ?_)
            refine lv_icmp_ge (tgt := 105) hx hb dX2_measure_34 (by decide) (fun c_34 => ?_) (fun c_34 => ?_)
            · skip
              obtain ⟨t_105, e_105⟩ : ∃ y : Int32, y = x3_16 + 1 := ⟨_, rfl⟩
              have i5_t_105 : tq_iv 1 6 t_105 := tq_w (tq_add e_105 i3_x3_16 (⟨by decide, by decide⟩ : tq_iv 1 1 1) (by decide) (by decide)) (by decide) (by decide)
              refine lv_iinc (v := t_105) (lv' := [(3, .int t_105), (4, .int x4_25), (0, .ref h0), (2, .int x2)]) hx hb dX2_measure_105 hl (k := 1) rfl (by rw [e_105]; rfl) (by decide) rfl (fun ls hl => ?_)
              refine lv_goto (tgt := 16) hx hb dX2_measure_108 (by decide) ?_
              exact ih_16 t_105 _ _ _ _ hS (tq_w i5_t_105 (by decide) (by decide)) (tq_up e_105 i3_x3_16 (⟨by decide, by decide⟩ : tq_iv 1 1 1) (by decide) (by decide) hn_16) (lv_sub hl [0, 2, 3] rfl)
            · skip
              have i6_x4_25 : tq_iv 0 2147483646 x4_25 := tq_cut i4_x4_25 (tq_ltL (tq_nle c_34) i4_x4_25 (tq_top t_31)) (by decide) (by decide)
              have i7_t_31 : tq_iv 1 2147483647 t_31 := tq_cut (tq_top t_31) (tq_ltR (tq_nle c_34) i4_x4_25 (tq_top t_31)) (by decide) (by decide)
              refine lv_iload_n hx hb dX2_measure_37 rfl (lv_at hl 3 rfl) ?_
              refine lv_aload_n hx hb dX2_measure_38 rfl (lv_at hl 2 rfl) ?_
              refine gf_RX2_9 hC hS z_h0 dX2_measure_39 (fun t_39 p_39 q_39 => ?_)
              refine lv_iload hx hb dX2_measure_42 (lv_at hl 0 rfl) ?_
              refine tq_callVpi (As := [.int x4_25]) (rest := [.int x2]) hC (c_X3_doorLock l X Z _ t_39 p_39 x4_25) k_X3_doorLock ql_RX2_65 rfl (by decide) hS p_39 rfl hl.1 rfl (Nat.le_of_ble_eq_true rfl) ⟨Nat.zero_le _, Nat.zero_le _⟩ dX2_measure_44 (fun t_44 p_44 => ?_)
              refine lv_ishr hx hb dX2_measure_47 ?_
              refine lv_topi (fun t_47 e_47 => ?_)
              refine lv_iconst (v := 1) hx hb dX2_measure_48 (by decide) ?_
              refine lv_iand hx hb dX2_measure_49 ?_
              refine lv_topi (fun t_49 e_49 => ?_)
              have i8_t_49 : tq_iv 0 1 t_49 := tq_and2 e_49 (⟨by decide, by decide⟩ : tq_iv 1 1 1) (by decide)
              have K_99 : ∀ (f : Nat → va_E) (H : Heap) (locs : List Loc) (ls : Array Slot), tq_S X Z (tq_A Z) s.heap f0 [] f H locs → lv_has ls 5 [(4, .int x4_25), (3, .int x3_16), (0, .ref h0), (2, .int x2)] → W p l e R s m args below meth c H locs 0 0 Q (F0 m 99 ls []) := by
                intro f H locs ls  hS hl
                obtain ⟨t_99, e_99⟩ : ∃ y : Int32, y = x4_25 + 1 := ⟨_, rfl⟩
                have i9_t_99 : tq_iv 1 2147483647 t_99 := tq_w (tq_add e_99 i6_x4_25 (⟨by decide, by decide⟩ : tq_iv 1 1 1) (by decide) (by decide)) (by decide) (by decide)
                refine lv_iinc (v := t_99) (lv' := [(4, .int t_99), (3, .int x3_16), (0, .ref h0), (2, .int x2)]) hx hb dX2_measure_99 hl (k := 0) rfl (by rw [e_99]; rfl) (by decide) rfl (fun ls hl => ?_)
                refine lv_goto (tgt := 25) hx hb dX2_measure_102 (by decide) ?_
                exact ih_25 t_99 _ _ _ _ hS (tq_w i9_t_99 (by decide) (by decide)) (tq_up e_99 i6_x4_25 (⟨by decide, by decide⟩ : tq_iv 1 1 1) (by decide) (by decide) hn_25) (lv_sub hl [0, 1, 2, 3] rfl)
              refine lv_if_eq (tgt := 99) hx hb dX2_measure_50 (by decide) (fun c_50 => ?_) (fun c_50 => ?_)
              · skip
                have i10_t_49 : tq_iv 0 0 t_49 := tq_cut i8_t_49 (tq_eqL c_50 (⟨by decide, by decide⟩ : tq_iv 0 0 0)) (by decide) (by decide)
                exact K_99 _ _ _ _ hS (lv_sub hl [0, 1, 2, 3] rfl)
              · skip
                have i11_t_49 : tq_iv 1 1 t_49 := tq_w (tq_neLo c_50 i8_t_49 (⟨by decide, by decide⟩ : tq_iv 0 0 0)) (by decide) (by decide)
                refine lv_aload_n hx hb dX2_measure_53 rfl (lv_at hl 2 rfl) ?_
                refine lv_aload_n hx hb dX2_measure_54 rfl (lv_at hl 2 rfl) ?_
                refine gf_RX2_9 hC hS z_h0 dX2_measure_55 (fun t_55 p_55 q_55 => ?_)
                refine lv_iload hx hb dX2_measure_58 (lv_at hl 0 rfl) ?_
                refine tq_callVpi (As := [.int x4_25]) (rest := [.ref h0]) hC (c_X3_doorFrom l X Z _ t_55 p_55 x4_25) k_X3_doorFrom ql_RX2_59 rfl (by decide) hS p_55 rfl hl.1 rfl (Nat.le_of_ble_eq_true rfl) ⟨Nat.zero_le _, Nat.zero_le _⟩ dX2_measure_60 (fun t_60 p_60 => ?_)
                refine lv_aload_n hx hb dX2_measure_63 rfl (lv_at hl 2 rfl) ?_
                refine gf_RX2_9 hC hS z_h0 dX2_measure_64 (fun t_64 p_64 q_64 => ?_)
                refine lv_iload hx hb dX2_measure_67 (lv_at hl 0 rfl) ?_
                refine tq_callVpi (As := [.int x4_25]) (rest := [.int t_60, .ref h0]) hC (c_X3_doorTo l X Z _ t_64 p_64 x4_25) k_X3_doorTo ql_RX2_62 rfl (by decide) hS p_64 rfl hl.1 rfl (Nat.le_of_ble_eq_true rfl) ⟨Nat.zero_le _, Nat.zero_le _⟩ dX2_measure_69 (fun t_69 p_69 => ?_)
                refine lv_iload_n hx hb dX2_measure_72 rfl (lv_at hl 1 rfl) ?_
                refine tq_callVv (As := [.int t_60, .int t_69, .int x3_16]) (rest := []) hC (c_X2_spread l X Z _ h0 z_h0 t_60 t_69 x3_16) k_X2_spread ql_RX2_107 (by decide) rfl (by decide) hS z_h0 rfl hl.1 rfl (Nat.le_of_ble_eq_true rfl) ⟨Nat.zero_le _, Nat.zero_le _⟩ dX2_measure_73 (fun f1_73 H locs hS k_73 => ?_)
                refine lv_aload_n hx hb dX2_measure_76 rfl (lv_at hl 2 rfl) ?_
                refine lv_aload_n hx hb dX2_measure_77 rfl (lv_at hl 2 rfl) ?_
                refine gf_RX2_9 hC hS z_h0 dX2_measure_78 (fun t_78 p_78 q_78 => ?_)
                refine lv_iload hx hb dX2_measure_81 (lv_at hl 0 rfl) ?_
                refine tq_callVpi (As := [.int x4_25]) (rest := [.ref h0]) hC (c_X3_doorTo l X Z _ t_78 p_78 x4_25) k_X3_doorTo ql_RX2_62 rfl (by decide) hS p_78 rfl hl.1 rfl (Nat.le_of_ble_eq_true rfl) ⟨Nat.zero_le _, Nat.zero_le _⟩ dX2_measure_83 (fun t_83 p_83 => ?_)
                refine lv_aload_n hx hb dX2_measure_86 rfl (lv_at hl 2 rfl) ?_
                refine gf_RX2_9 hC hS z_h0 dX2_measure_87 (fun t_87 p_87 q_87 => ?_)
                refine lv_iload hx hb dX2_measure_90 (lv_at hl 0 rfl) ?_
                refine tq_callVpi (As := [.int x4_25]) (rest := [.int t_83, .ref h0]) hC (c_X3_doorFrom l X Z _ t_87 p_87 x4_25) k_X3_doorFrom ql_RX2_59 rfl (by decide) hS p_87 rfl hl.1 rfl (Nat.le_of_ble_eq_true rfl) ⟨Nat.zero_le _, Nat.zero_le _⟩ dX2_measure_92 (fun t_92 p_92 => ?_)
                refine lv_iload_n hx hb dX2_measure_95 rfl (lv_at hl 1 rfl) ?_
                refine tq_callVv (As := [.int t_83, .int t_92, .int x3_16]) (rest := []) hC (c_X2_spread l X Z _ h0 z_h0 t_83 t_92 x3_16) k_X2_spread ql_RX2_107 (by decide) rfl (by decide) hS z_h0 rfl hl.1 rfl (Nat.le_of_ble_eq_true rfl) ⟨Nat.zero_le _, Nat.zero_le _⟩ dX2_measure_96 (fun f1_96 H locs hS k_96 => ?_)
                exact K_99 _ _ _ _ hS (lv_sub hl [0, 1, 2, 3] rfl)
        exact K_25 _ 0 _ _ _ _ hS (tq_w (⟨by decide, by decide⟩ : tq_iv 0 0 0) (by decide) (by decide)) (Nat.lt_succ_self _) (lv_sub hl [0, 1, 2, 3] rfl)
  exact K_16 _ 0 _ _ _ _ hS (tq_w (⟨by decide, by decide⟩ : tq_iv 0 0 0) (by decide) (by decide)) (Nat.lt_succ_self _) (lv_sub hl [0, 1, 3] rfl)
set_option maxHeartbeats 4000000 in
set_option maxRecDepth 100000 in
theorem c_X2_findPath (l : Launch) (X : tq_X) (Z : tq_Z) (f : Nat → va_E) (h0 : Nat) (z_h0 : tq_z Z h0 (.inl 2)) (x1 : Int32) (x2 : Int32) : tq_M l X Z f [(2, 5)] yX2_findPath cX2_findPath 7 (some .int) 4 [.ref h0, .int x1, .int x2] (tq_ri (-1) 6) := by
  refine tq_starti (by decide) (Nat.le_of_ble_eq_true rfl) (fun p e R s m args below meth c Q hC hret hS ls hl => ?_)
  have hC : tq_C p R s m args c X (tq_A Z) RX2 cX2_findPath 7 4 := hC
  have hx := hC.1.1
  have hb := hC.1.2.1
  have hown := hC.1.2.2.2.1
  have hts := hC.1.2.2.2.2
  have hl : lv_has ls 7 [(0, .ref h0), (1, .int x1), (2, .int x2)] := hl
  generalize hf0 : f = f0 at hret
  have hS : tq_S X Z (tq_A Z) s.heap f0 [(2, 5)] f s.heap [] := hf0 ▸ hS
  obtain ⟨w0, p_w0, q_w0⟩ := tq_ghi hS z_h0 (k := 5) rfl
  refine lv_aload_n hx hb dX2_findPath_0 rfl (lv_at hl 0 rfl) ?_
  refine lv_aload_n hx hb dX2_findPath_1 rfl (lv_at hl 0 rfl) ?_
  refine gf_RX2_15 hC hS z_h0 dX2_findPath_2 (fun t_2 p_2 q_2 => ?_)
  refine lv_iload_n hx hb dX2_findPath_5 rfl (lv_at hl 1 rfl) ?_
  refine lv_aload_n hx hb dX2_findPath_6 rfl (lv_at hl 0 rfl) ?_
  refine gf_RX2_9 hC hS z_h0 dX2_findPath_7 (fun t_7 p_7 q_7 => ?_)
  refine gf_RX2_33 hC hS p_7 dX2_findPath_10 (fun t_10 p_10 q_10 => ?_)
  refine tq_callVpi (As := [.int x1, .int t_10]) (rest := [.ref h0]) hC (c_X7_heldBy l X Z _ t_2 p_2 x1 t_10) k_X7_heldBy ql_RX2_78 rfl (by decide) hS p_2 rfl hl.1 rfl (Nat.le_of_ble_eq_true rfl) ⟨Nat.zero_le _, Nat.zero_le _⟩ dX2_findPath_13 (fun t_13 p_13 => ?_)
  refine tq_callVpi (As := [.int t_13]) (rest := []) hC (c_X2_locksFor l X Z _ h0 z_h0 t_13) k_X2_locksFor ql_RX2_71 rfl (by decide) hS z_h0 rfl hl.1 rfl (Nat.le_of_ble_eq_true rfl) ⟨Nat.zero_le _, Nat.zero_le _⟩ dX2_findPath_16 (fun t_16 p_16 => ?_)
  refine lv_istore_n (lv' := [(3, .int t_16), (0, .ref h0), (1, .int x1), (2, .int x2)]) hx hb dX2_findPath_19 rfl hl (by decide) rfl (fun ls hl => ?_)
  refine lv_aload_n hx hb dX2_findPath_20 rfl (lv_at hl 1 rfl) ?_
  refine gf_RX2_15 hC hS z_h0 dX2_findPath_21 (fun t_21 p_21 q_21 => ?_)
  refine lv_iload_n hx hb dX2_findPath_24 rfl (lv_at hl 2 rfl) ?_
  refine tq_callVpi (As := [.int x1]) (rest := []) hC (c_X7_room l X Z _ t_21 p_21 x1) k_X7_room ql_RX2_68 rfl (by decide) hS p_21 rfl hl.1 rfl (Nat.le_of_ble_eq_true rfl) ⟨Nat.zero_le _, Nat.zero_le _⟩ dX2_findPath_25 (fun t_25 p_25 => ?_)
  refine lv_istore (lv' := [(4, .int t_25), (3, .int t_16), (0, .ref h0), (1, .int x1), (2, .int x2)]) hx hb dX2_findPath_28 hl (by decide) rfl (fun ls hl => ?_)
  refine lv_aload_n hx hb dX2_findPath_30 rfl (lv_at hl 2 rfl) ?_
  refine lv_iload_n hx hb dX2_findPath_31 rfl (lv_at hl 4 rfl) ?_
  refine lv_iload_n hx hb dX2_findPath_32 rfl (lv_at hl 1 rfl) ?_
  refine tq_callVv (As := [.int x2, .int t_16]) (rest := []) hC (c_X2_measure l X Z _ h0 z_h0 x2 t_16) k_X2_measure ql_RX2_84 (by decide) rfl (by decide) hS z_h0 rfl hl.1 rfl (Nat.le_of_ble_eq_true rfl) ⟨Nat.zero_le _, Nat.zero_le _⟩ dX2_findPath_33 (fun f1_33 H locs hS k_33 => ?_)
  have q1_33 := k_33 _ _ _ _ z_h0 (by decide) q_w0
  refine lv_aload_n hx hb dX2_findPath_36 rfl (lv_at hl 2 rfl) ?_
  refine lv_iconst (v := 0) hx hb dX2_findPath_37 (by decide) ?_
  refine pf_RX2_29 hC hS z_h0 (by decide) trivial dX2_findPath_38 (fun f H locs hS q_38 k_38 => ?_)
  refine lv_aload_n hx hb dX2_findPath_41 rfl (lv_at hl 2 rfl) ?_
  refine lv_iload hx hb dX2_findPath_42 (lv_at hl 0 rfl) ?_
  refine tq_callVpi (As := [.int t_25]) (rest := []) hC (c_X2_distanceOf l X Z _ h0 z_h0 t_25) k_X2_distanceOf ql_RX2_88 rfl (by decide) hS z_h0 rfl hl.1 rfl (Nat.le_of_ble_eq_true rfl) ⟨Nat.zero_le _, Nat.zero_le _⟩ dX2_findPath_44 (fun t_44 p_44 => ?_)
  refine lv_istore (lv' := [(5, .int t_44), (4, .int t_25), (3, .int t_16), (0, .ref h0), (1, .int x1), (2, .int x2)]) hx hb dX2_findPath_47 hl (by decide) rfl (fun ls hl => ?_)
  refine lv_iload hx hb dX2_findPath_49 (lv_at hl 0 rfl) ?_
  refine lv_iconst (v := -1) hx hb dX2_findPath_51 (by decide) ?_
  have K_57 : ∀ (n_57 : Nat) (x5_57 : Int32) (x4_57 : Int32) (w0_57 : Int32) (f : Nat → va_E) (H : Heap) (locs : List Loc) (ls : Array Slot), tq_S X Z (tq_A Z) s.heap f0 [(2, 5)] f H locs → tq_f f h0 5 (.int w0_57) → tq_iv 0 6 w0_57 → (x5_57.toInt + 2147483648).toNat < n_57 → lv_has ls 7 [(5, .int x5_57), (4, .int x4_57), (3, .int t_16), (0, .ref h0)] → W p l e R s m args below meth c H locs 0 0 Q (F0 m 57 ls []) := by
    intro n_57
    induction n_57 with
    | zero => intro x5_57 x4_57 w0_57 f H locs ls  hS fo0_57 i2_w0_57 hn_57; exact absurd hn_57 (Nat.not_lt_zero _)
    | succ n_57 ih_57 =>
      intro x5_57 x4_57 w0_57 f H locs ls  hS fo0_57 i2_w0_57 hn_57 hl
      refine lv_iload hx hb dX2_findPath_57 (lv_at hl 0 rfl) ?_
      have K_125 : ∀ (f : Nat → va_E) (H : Heap) (locs : List Loc) (ls : Array Slot), tq_S X Z (tq_A Z) s.heap f0 [(2, 5)] f H locs → tq_f f h0 5 (.int w0_57) → lv_has ls 7 [(0, .ref h0)] → W p l e R s m args below meth c H locs 0 0 Q (F0 m 125 ls []) := by
        intro f H locs ls  hS fo0_125 hl
        refine lv_aload_n hx hb dX2_findPath_125 rfl (lv_at hl 0 rfl) ?_
        refine gk_RX2_29 hC hS z_h0 fo0_125 dX2_findPath_126 ?_
        exact hret w0_57 _ _ _ _ _ rfl ⟨_, rfl, tq_w i2_w0_57 (by decide) (by decide)⟩ hS dX2_findPath_129
      refine lv_if_le (tgt := 125) hx hb dX2_findPath_59 (by decide) (fun c_59 => ?_) (fun c_59 => ?_)
      · skip
        have i3_x5_57 : tq_iv (-2147483648) 0 x5_57 := tq_cut (tq_top x5_57) (tq_leL c_59 (tq_top x5_57) (⟨by decide, by decide⟩ : tq_iv 0 0 0)) (by decide) (by decide)
        exact K_125 _ _ _ _ hS fo0_57 (lv_sub hl [3] rfl)
      · skip
        have i4_x5_57 : tq_iv 1 2147483647 x5_57 := tq_cut (tq_top x5_57) (tq_ltR (tq_nle c_59) (⟨by decide, by decide⟩ : tq_iv 0 0 0) (tq_top x5_57)) (by decide) (by decide)
        refine lv_aload_n hx hb dX2_findPath_62 rfl (lv_at hl 3 rfl) ?_
        refine gk_RX2_29 hC hS z_h0 fo0_57 dX2_findPath_63 ?_
        refine lv_aload_n hx hb dX2_findPath_66 rfl (lv_at hl 3 rfl) ?_
        refine gf_RX2_26 hC hS z_h0 dX2_findPath_67 (fun t_67 p_67 q_67 => ?_)
        refine tq_alenA hC hS p_67 rfl (v := 6) (by decide) dX2_findPath_70 ?_
        refine lv_icmp_ge (tgt := 125) hx hb dX2_findPath_71 (by decide) (fun c_71 => ?_) (fun c_71 => ?_)
        · skip
          have i5_w0_57 : tq_iv 6 6 w0_57 := tq_cut i2_w0_57 (tq_leR c_71 (⟨by decide, by decide⟩ : tq_iv 6 6 6) i2_w0_57) (by decide) (by decide)
          exact K_125 _ _ _ _ hS fo0_57 (lv_sub hl [3] rfl)
        · skip
          have i6_w0_57 : tq_iv 0 5 w0_57 := tq_cut i2_w0_57 (tq_ltL (tq_nle c_71) i2_w0_57 (⟨by decide, by decide⟩ : tq_iv 6 6 6)) (by decide) (by decide)
          obtain ⟨t_74, e_74⟩ : ∃ y : Int32, y = x5_57 + (-1) := ⟨_, rfl⟩
          have i7_t_74 : tq_iv 0 2147483646 t_74 := tq_w (tq_add e_74 i4_x5_57 (⟨by decide, by decide⟩ : tq_iv (-1) (-1) (-1)) (by decide) (by decide)) (by decide) (by decide)
          refine lv_iinc (v := t_74) (lv' := [(5, .int t_74), (4, .int x4_57), (3, .int t_16), (0, .ref h0)]) hx hb dX2_findPath_74 hl (k := 0) rfl (by rw [e_74]; rfl) (by decide) rfl (fun ls hl => ?_)
          refine lv_aload_n hx hb dX2_findPath_77 rfl (lv_at hl 3 rfl) ?_
          refine lv_iload hx hb dX2_findPath_78 (lv_at hl 1 rfl) ?_
          refine lv_iload hx hb dX2_findPath_80 (lv_at hl 0 rfl) ?_
          refine lv_iload_n hx hb dX2_findPath_82 rfl (lv_at hl 2 rfl) ?_
          refine tq_callVpi (As := [.int x4_57, .int t_74, .int t_16]) (rest := []) hC (c_X2_doorTowards l X Z _ h0 z_h0 x4_57 t_74 t_16) k_X2_doorTowards ql_RX2_91 rfl (by decide) hS z_h0 rfl hl.1 rfl (Nat.le_of_ble_eq_true rfl) ⟨Nat.zero_le _, Nat.zero_le _⟩ dX2_findPath_83 (fun t_83 p_83 => ?_)
          refine lv_istore (lv' := [(6, .int t_83), (5, .int t_74), (4, .int x4_57), (3, .int t_16), (0, .ref h0)]) hx hb dX2_findPath_86 hl (by decide) rfl (fun ls hl => ?_)
          refine lv_aload_n hx hb dX2_findPath_88 rfl (lv_at hl 4 rfl) ?_
          refine gf_RX2_26 hC hS z_h0 dX2_findPath_89 (fun t_89 p_89 q_89 => ?_)
          refine lv_aload_n hx hb dX2_findPath_92 rfl (lv_at hl 4 rfl) ?_
          refine gk_RX2_29 hC hS z_h0 fo0_57 dX2_findPath_93 ?_
          refine lv_iload hx hb dX2_findPath_96 (lv_at hl 0 rfl) ?_
          refine tq_iast hC hS p_89 rfl (tq_vin i6_w0_57 (by decide) (by decide)) trivial dX2_findPath_98 (fun f H locs hS k_98 => ?_)
          have q8_98 := k_98 _ _ _ (tq_ne z_h0 p_89 (fun q => by cases q)) fo0_57
          refine lv_aload_n hx hb dX2_findPath_99 rfl (lv_at hl 4 rfl) ?_
          refine lv_dup hx hb dX2_findPath_100 rfl ?_
          refine gk_RX2_29 hC hS z_h0 q8_98 dX2_findPath_101 ?_
          refine lv_iconst (v := 1) hx hb dX2_findPath_104 (by decide) ?_
          refine lv_iadd hx hb dX2_findPath_105 ?_
          refine lv_topi (fun t_105 e_105 => ?_)
          have i9_t_105 : tq_iv 1 6 t_105 := tq_w (tq_add e_105 i6_w0_57 (⟨by decide, by decide⟩ : tq_iv 1 1 1) (by decide) (by decide)) (by decide) (by decide)
          refine pf_RX2_29 hC hS z_h0 (by decide) trivial dX2_findPath_106 (fun f H locs hS q_106 k_106 => ?_)
          refine lv_aload_n hx hb dX2_findPath_109 rfl (lv_at hl 4 rfl) ?_
          refine gf_RX2_9 hC hS z_h0 dX2_findPath_110 (fun t_110 p_110 q_110 => ?_)
          refine lv_iload hx hb dX2_findPath_113 (lv_at hl 0 rfl) ?_
          refine lv_iload hx hb dX2_findPath_115 (lv_at hl 2 rfl) ?_
          refine tq_callVpi (As := [.int t_83, .int x4_57]) (rest := []) hC (c_X3_otherSide l X Z _ t_110 p_110 t_83 x4_57) k_X3_otherSide ql_RX2_95 rfl (by decide) hS p_110 rfl hl.1 rfl (Nat.le_of_ble_eq_true rfl) ⟨Nat.zero_le _, Nat.zero_le _⟩ dX2_findPath_117 (fun t_117 p_117 => ?_)
          refine lv_istore (lv' := [(4, .int t_117), (6, .int t_83), (5, .int t_74), (3, .int t_16), (0, .ref h0)]) hx hb dX2_findPath_120 hl (by decide) rfl (fun ls hl => ?_)
          refine lv_goto (tgt := 57) hx hb dX2_findPath_122 (by decide) ?_
          exact ih_57 t_74 t_117 t_105 _ _ _ _ hS q_106 (tq_w i9_t_105 (by decide) (by decide)) (tq_down e_74 i4_x5_57 (⟨by decide, by decide⟩ : tq_iv (-1) (-1) (-1)) (by decide) (by decide) hn_57) (lv_sub hl [2, 0, 3, 4] rfl)
  refine lv_icmp_ne (tgt := 57) hx hb dX2_findPath_52 (by decide) (fun c_52 => ?_) (fun c_52 => ?_)
  · skip
    exact K_57 _ t_44 t_25 0 _ _ _ _ hS q_38 (tq_w (⟨by decide, by decide⟩ : tq_iv 0 0 0) (by decide) (by decide)) (Nat.lt_succ_self _) (lv_sub hl [0, 1, 2, 3] rfl)
  · skip
    have i10_t_44 : tq_iv (-1) (-1) t_44 := tq_cut (tq_top t_44) (tq_eqL c_52 (⟨by decide, by decide⟩ : tq_iv (-1) (-1) (-1))) (by decide) (by decide)
    refine lv_iconst (v := -1) hx hb dX2_findPath_55 (by decide) ?_
    exact hret (-1) _ _ _ _ _ rfl ⟨_, rfl, tq_w (⟨by decide, by decide⟩ : tq_iv (-1) (-1) (-1)) (by decide) (by decide)⟩ hS dX2_findPath_56
set_option maxHeartbeats 4000000 in
set_option maxRecDepth 100000 in
theorem c_X3_hasRoom (l : Launch) (X : tq_X) (Z : tq_Z) (f : Nat → va_E) (h0 : Nat) (z_h0 : tq_z Z h0 (.inl 3)) (x1 : Int32) : tq_Mp l X Z f yX3_hasRoom cX3_hasRoom 2 (some .boolean) 0 [.ref h0, .int x1] (tq_ri 0 1) := by
  refine tq_startip (by decide) (Nat.le_of_ble_eq_true rfl) (fun p e R s m args below meth c Q hC hret hS ls hl => ?_)
  have hC : tq_C p R s m args c X (tq_A Z) RX3 cX3_hasRoom 2 0 := hC
  have hx := hC.1.1
  have hb := hC.1.2.1
  have hown := hC.1.2.2.2.1
  have hts := hC.1.2.2.2.2
  have hl : lv_has ls 2 [(0, .ref h0), (1, .int x1)] := hl
  refine lv_iload_n hx hb dX3_hasRoom_0 rfl (lv_at hl 1 rfl) ?_
  have K_17 : ∀ (y0_17 : Int32) (ls : Array Slot), tq_iv 0 1 y0_17 → lv_has ls 2 [] → W p l e R s m args below meth c s.heap [] 0 0 Q (F0 m 17 ls [.int y0_17]) := by
    intro y0_17 ls  i1_y0_17 hl
    exact hret y0_17 _ _ (tq_nb i1_y0_17 (by decide) (by decide)) ⟨_, rfl, tq_w i1_y0_17 (by decide) (by decide)⟩ dX3_hasRoom_17
  have K_16 : ∀ (ls : Array Slot), lv_has ls 2 [] → W p l e R s m args below meth c s.heap [] 0 0 Q (F0 m 16 ls []) := by
    intro  ls  hl
    refine lv_iconst (v := 0) hx hb dX3_hasRoom_16 (by decide) ?_
    exact K_17 0 _ (tq_w (⟨by decide, by decide⟩ : tq_iv 0 0 0) (by decide) (by decide)) (lv_sub hl [] rfl)
  refine lv_if_lt (tgt := 16) hx hb dX3_hasRoom_1 (by decide) (fun c_1 => ?_) (fun c_1 => ?_)
  · skip
    have i2_x1 : tq_iv (-2147483648) (-1) x1 := tq_cut (tq_top x1) (tq_ltL c_1 (tq_top x1) (⟨by decide, by decide⟩ : tq_iv 0 0 0)) (by decide) (by decide)
    exact K_16 _ (lv_sub hl [] rfl)
  · skip
    have i3_x1 : tq_iv 0 2147483647 x1 := tq_cut (tq_top x1) (tq_leR (tq_nlt c_1) (⟨by decide, by decide⟩ : tq_iv 0 0 0) (tq_top x1)) (by decide) (by decide)
    refine lv_iload_n hx hb dX3_hasRoom_4 rfl (lv_at hl 1 rfl) ?_
    refine lv_aload_n hx hb dX3_hasRoom_5 rfl (lv_at hl 0 rfl) ?_
    refine gf_RX3_62 hC hS z_h0 dX3_hasRoom_6 (fun t_6 p_6 q_6 => ?_)
    refine lv_icmp_ge (tgt := 16) hx hb dX3_hasRoom_9 (by decide) (fun c_9 => ?_) (fun c_9 => ?_)
    · skip
      exact K_16 _ (lv_sub hl [] rfl)
    · skip
      have i4_x1 : tq_iv 0 2147483646 x1 := tq_cut i3_x1 (tq_ltL (tq_nle c_9) i3_x1 (tq_top t_6)) (by decide) (by decide)
      have i5_t_6 : tq_iv 1 2147483647 t_6 := tq_cut (tq_top t_6) (tq_ltR (tq_nle c_9) i3_x1 (tq_top t_6)) (by decide) (by decide)
      refine lv_iconst (v := 1) hx hb dX3_hasRoom_12 (by decide) ?_
      refine lv_goto (tgt := 17) hx hb dX3_hasRoom_13 (by decide) ?_
      exact K_17 1 _ (tq_w (⟨by decide, by decide⟩ : tq_iv 1 1 1) (by decide) (by decide)) (lv_sub hl [] rfl)
set_option maxHeartbeats 4000000 in
set_option maxRecDepth 100000 in
theorem c_X11_route (l : Launch) (X : tq_X) (Z : tq_Z) (f : Nat → va_E) (h0 : Nat) (z_h0 : tq_z Z h0 (.inl 11)) (x1 : Int32) (x2 : Int32) : tq_M l X Z f [(2, 5)] yX11_route cX11_route 3 (some .int) 5 [.ref h0, .int x1, .int x2] (tq_ri (-1) 6) := by
  refine tq_starti (by decide) (Nat.le_of_ble_eq_true rfl) (fun p e R s m args below meth c Q hC hret hS ls hl => ?_)
  have hC : tq_C p R s m args c X (tq_A Z) RX11 cX11_route 3 5 := hC
  have hx := hC.1.1
  have hb := hC.1.2.1
  have hown := hC.1.2.2.2.1
  have hts := hC.1.2.2.2.2
  have hl : lv_has ls 3 [(0, .ref h0), (1, .int x1), (2, .int x2)] := hl
  generalize hf0 : f = f0 at hret
  have hS : tq_S X Z (tq_A Z) s.heap f0 [(2, 5)] f s.heap [] := hf0 ▸ hS
  refine lv_aload_n hx hb dX11_route_0 rfl (lv_at hl 0 rfl) ?_
  refine gf_RX11_79 hC hS z_h0 dX11_route_1 (fun t_1 p_1 q_1 => ?_)
  refine tq_callVv (As := []) (rest := []) hC (c_X2_forgetPath l X Z _ t_1 p_1) k_X2_forgetPath ql_RX11_125 (by decide) rfl (by decide) hS p_1 rfl hl.1 rfl (Nat.le_of_ble_eq_true rfl) ⟨Nat.zero_le _, Nat.zero_le _⟩ dX11_route_4 (fun f1_4 H locs hS k_4 => ?_)
  refine lv_aload_n hx hb dX11_route_7 rfl (lv_at hl 0 rfl) ?_
  refine gf_RX11_29 hC hS z_h0 dX11_route_8 (fun t_8 p_8 q_8 => ?_)
  refine lv_iload_n hx hb dX11_route_11 rfl (lv_at hl 1 rfl) ?_
  refine tq_callVpi (As := [.int x1]) (rest := []) hC (c_X3_hasPerson l X Z _ t_8 p_8 x1) k_X3_hasPerson ql_RX11_200 rfl (by decide) hS p_8 rfl hl.1 rfl (Nat.le_of_ble_eq_true rfl) ⟨Nat.zero_le _, Nat.zero_le _⟩ dX11_route_12 (fun t_12 p_12 => ?_)
  have K_29 : ∀ (f : Nat → va_E) (H : Heap) (locs : List Loc) (ls : Array Slot), tq_S X Z (tq_A Z) s.heap f0 [(2, 5)] f H locs → lv_has ls 3 [] → W p l e R s m args below meth c H locs 0 0 Q (F0 m 29 ls []) := by
    intro f H locs ls  hS hl
    refine lv_iconst (v := -1) hx hb dX11_route_29 (by decide) ?_
    exact hret (-1) _ _ _ _ _ rfl ⟨_, rfl, tq_w (⟨by decide, by decide⟩ : tq_iv (-1) (-1) (-1)) (by decide) (by decide)⟩ hS dX11_route_30
  refine lv_if_eq (tgt := 29) hx hb dX11_route_15 (by decide) (fun c_15 => ?_) (fun c_15 => ?_)
  · skip
    have i1_t_12 : tq_iv 0 0 t_12 := tq_cut p_12 (tq_eqL c_15 (⟨by decide, by decide⟩ : tq_iv 0 0 0)) (by decide) (by decide)
    exact K_29 _ _ _ _ hS (lv_sub hl [] rfl)
  · skip
    have i2_t_12 : tq_iv 1 1 t_12 := tq_w (tq_neLo c_15 p_12 (⟨by decide, by decide⟩ : tq_iv 0 0 0)) (by decide) (by decide)
    refine lv_aload_n hx hb dX11_route_18 rfl (lv_at hl 0 rfl) ?_
    refine gf_RX11_29 hC hS z_h0 dX11_route_19 (fun t_19 p_19 q_19 => ?_)
    refine lv_iload_n hx hb dX11_route_22 rfl (lv_at hl 2 rfl) ?_
    refine tq_callVpi (As := [.int x2]) (rest := []) hC (c_X3_hasRoom l X Z _ t_19 p_19 x2) k_X3_hasRoom ql_RX11_356 rfl (by decide) hS p_19 rfl hl.1 rfl (Nat.le_of_ble_eq_true rfl) ⟨Nat.zero_le _, Nat.zero_le _⟩ dX11_route_23 (fun t_23 p_23 => ?_)
    refine lv_if_ne (tgt := 31) hx hb dX11_route_26 (by decide) (fun c_26 => ?_) (fun c_26 => ?_)
    · skip
      have i3_t_23 : tq_iv 1 1 t_23 := tq_w (tq_neLo c_26 p_23 (⟨by decide, by decide⟩ : tq_iv 0 0 0)) (by decide) (by decide)
      refine lv_aload_n hx hb dX11_route_31 rfl (lv_at hl 0 rfl) ?_
      refine gf_RX11_79 hC hS z_h0 dX11_route_32 (fun t_32 p_32 q_32 => ?_)
      refine lv_iload_n hx hb dX11_route_35 rfl (lv_at hl 1 rfl) ?_
      refine lv_iload_n hx hb dX11_route_36 rfl (lv_at hl 2 rfl) ?_
      refine tq_callVi (As := [.int x1, .int x2]) (rest := []) hC (c_X2_findPath l X Z _ t_32 p_32 x1 x2) k_X2_findPath ql_RX11_359 (by decide) rfl (by decide) hS p_32 rfl hl.1 rfl (Nat.le_of_ble_eq_true rfl) ⟨Nat.zero_le _, Nat.zero_le _⟩ dX11_route_37 (fun t_37 f1_37 H locs p_37 hS k_37 => ?_)
      exact hret t_37 _ _ _ _ _ rfl ⟨_, rfl, tq_w p_37 (by decide) (by decide)⟩ hS dX11_route_40
    · skip
      have i4_t_23 : tq_iv 0 0 t_23 := tq_cut p_23 (tq_eqL c_26 (⟨by decide, by decide⟩ : tq_iv 0 0 0)) (by decide) (by decide)
      exact K_29 _ _ _ _ hS (lv_sub hl [] rfl)
set_option maxHeartbeats 4000000 in
set_option maxRecDepth 100000 in
theorem c_X2_fewestKeys (l : Launch) (X : tq_X) (Z : tq_Z) (f : Nat → va_E) (h0 : Nat) (z_h0 : tq_z Z h0 (.inl 2)) (x1 : Int32) (x2 : Int32) : tq_Mp l X Z f yX2_fewestKeys cX2_fewestKeys 7 (some .int) 3 [.ref h0, .int x1, .int x2] (tq_ri (-1) 269) := by
  refine tq_startip (by decide) (Nat.le_of_ble_eq_true rfl) (fun p e R s m args below meth c Q hC hret hS ls hl => ?_)
  have hC : tq_C p R s m args c X (tq_A Z) RX2 cX2_fewestKeys 7 3 := hC
  have hx := hC.1.1
  have hb := hC.1.2.1
  have hown := hC.1.2.2.2.1
  have hts := hC.1.2.2.2.2
  have hl : lv_has ls 7 [(0, .ref h0), (1, .int x1), (2, .int x2)] := hl
  refine lv_aload_n hx hb dX2_fewestKeys_0 rfl (lv_at hl 0 rfl) ?_
  refine gf_RX2_9 hC hS z_h0 dX2_fewestKeys_1 (fun t_1 p_1 q_1 => ?_)
  refine tq_callVpi (As := []) (rest := []) hC (c_X3_allKeys l X Z _ t_1 p_1) k_X3_allKeys ql_RX2_111 rfl (by decide) hS p_1 rfl hl.1 rfl (Nat.le_of_ble_eq_true rfl) ⟨Nat.zero_le _, Nat.zero_le _⟩ dX2_fewestKeys_4 (fun t_4 p_4 => ?_)
  refine lv_aload_n hx hb dX2_fewestKeys_7 rfl (lv_at hl 0 rfl) ?_
  refine gf_RX2_15 hC hS z_h0 dX2_fewestKeys_8 (fun t_8 p_8 q_8 => ?_)
  refine lv_bipush (v := -2) hx hb dX2_fewestKeys_11 (by decide) ?_
  refine lv_aload_n hx hb dX2_fewestKeys_13 rfl (lv_at hl 0 rfl) ?_
  refine gf_RX2_9 hC hS z_h0 dX2_fewestKeys_14 (fun t_14 p_14 q_14 => ?_)
  refine gf_RX2_33 hC hS p_14 dX2_fewestKeys_17 (fun t_17 p_17 q_17 => ?_)
  refine tq_callVpi (As := [.int (-2), .int t_17]) (rest := [.int t_4]) hC (c_X7_heldBy l X Z _ t_8 p_8 (-2) t_17) k_X7_heldBy ql_RX2_78 rfl (by decide) hS p_8 rfl hl.1 rfl (Nat.le_of_ble_eq_true rfl) ⟨Nat.zero_le _, Nat.zero_le _⟩ dX2_fewestKeys_20 (fun t_20 p_20 => ?_)
  refine lv_iconst (v := -1) hx hb dX2_fewestKeys_23 (by decide) ?_
  refine lv_ixor hx hb dX2_fewestKeys_24 ?_
  refine lv_topi (fun t_24 e_24 => ?_)
  refine lv_iand hx hb dX2_fewestKeys_25 ?_
  refine lv_topi (fun t_25 e_25 => ?_)
  have i1_t_25 : tq_iv 0 255 t_25 := tq_and1 e_25 p_4 (by decide)
  refine lv_istore_n (lv' := [(3, .int t_25), (0, .ref h0), (1, .int x1), (2, .int x2)]) hx hb dX2_fewestKeys_26 rfl hl (by decide) rfl (fun ls hl => ?_)
  refine lv_iconst (v := -1) hx hb dX2_fewestKeys_27 (by decide) ?_
  refine lv_istore (lv' := [(4, .int (-1)), (3, .int t_25), (0, .ref h0), (1, .int x1), (2, .int x2)]) hx hb dX2_fewestKeys_28 hl (by decide) rfl (fun ls hl => ?_)
  refine lv_iconst (v := 0) hx hb dX2_fewestKeys_30 (by decide) ?_
  refine lv_istore (lv' := [(5, .int 0), (4, .int (-1)), (3, .int t_25), (0, .ref h0), (1, .int x1), (2, .int x2)]) hx hb dX2_fewestKeys_31 hl (by decide) rfl (fun ls hl => ?_)
  have K_33 : ∀ (n_33 : Nat) (x5_33 : Int32) (x4_33 : Int32) (ls : Array Slot), tq_iv (-1) 269 x4_33 → tq_iv 0 256 x5_33 → (2147483647 - x5_33.toInt).toNat < n_33 → lv_has ls 7 [(5, .int x5_33), (4, .int x4_33), (3, .int t_25), (0, .ref h0), (1, .int x1), (2, .int x2)] → W p l e R s m args below meth c s.heap [] 0 0 Q (F0 m 33 ls []) := by
    intro n_33
    induction n_33 with
    | zero => intro x5_33 x4_33 ls  i2_x4_33 i3_x5_33 hn_33; exact absurd hn_33 (Nat.not_lt_zero _)
    | succ n_33 ih_33 =>
      intro x5_33 x4_33 ls  i2_x4_33 i3_x5_33 hn_33 hl
      refine lv_iload hx hb dX2_fewestKeys_33 (lv_at hl 0 rfl) ?_
      refine lv_iload_n hx hb dX2_fewestKeys_35 rfl (lv_at hl 2 rfl) ?_
      refine lv_icmp_gt (tgt := 107) hx hb dX2_fewestKeys_36 (by decide) (fun c_36 => ?_) (fun c_36 => ?_)
      · skip
        have i4_x5_33 : tq_iv 1 256 x5_33 := tq_cut i3_x5_33 (tq_ltR c_36 i1_t_25 i3_x5_33) (by decide) (by decide)
        refine lv_iload hx hb dX2_fewestKeys_107 (lv_at hl 1 rfl) ?_
        exact hret x4_33 _ _ rfl ⟨_, rfl, tq_w i2_x4_33 (by decide) (by decide)⟩ dX2_fewestKeys_109
      · skip
        have i5_x5_33 : tq_iv 0 255 x5_33 := tq_cut i3_x5_33 (tq_leL (tq_nlt c_36) i3_x5_33 i1_t_25) (by decide) (by decide)
        refine lv_iload hx hb dX2_fewestKeys_39 (lv_at hl 1 rfl) ?_
        refine lv_iconst (v := -1) hx hb dX2_fewestKeys_41 (by decide) ?_
        have K_63 : ∀ (y0_63 : Int32) (ls : Array Slot), tq_iv 0 1 y0_63 → lv_has ls 7 [(5, .int x5_33), (4, .int x4_33), (3, .int t_25), (0, .ref h0), (1, .int x1), (2, .int x2)] → W p l e R s m args below meth c s.heap [] 0 0 Q (F0 m 63 ls [.int y0_63]) := by
          intro y0_63 ls  i6_y0_63 hl
          refine lv_istore (lv' := [(6, .int y0_63), (5, .int x5_33), (4, .int x4_33), (3, .int t_25), (0, .ref h0), (1, .int x1), (2, .int x2)]) hx hb dX2_fewestKeys_63 hl (by decide) rfl (fun ls hl => ?_)
          refine lv_iload hx hb dX2_fewestKeys_65 (lv_at hl 0 rfl) ?_
          have K_101 : ∀ (x4_101 : Int32) (ls : Array Slot), tq_iv (-1) 269 x4_101 → lv_has ls 7 [(5, .int x5_33), (4, .int x4_101), (3, .int t_25), (0, .ref h0), (1, .int x1), (2, .int x2)] → W p l e R s m args below meth c s.heap [] 0 0 Q (F0 m 101 ls []) := by
            intro x4_101 ls  i7_x4_101 hl
            obtain ⟨t_101, e_101⟩ : ∃ y : Int32, y = x5_33 + 1 := ⟨_, rfl⟩
            have i8_t_101 : tq_iv 1 256 t_101 := tq_w (tq_add e_101 i5_x5_33 (⟨by decide, by decide⟩ : tq_iv 1 1 1) (by decide) (by decide)) (by decide) (by decide)
            refine lv_iinc (v := t_101) (lv' := [(5, .int t_101), (4, .int x4_101), (3, .int t_25), (0, .ref h0), (1, .int x1), (2, .int x2)]) hx hb dX2_fewestKeys_101 hl (k := 0) rfl (by rw [e_101]; rfl) (by decide) rfl (fun ls hl => ?_)
            refine lv_goto (tgt := 33) hx hb dX2_fewestKeys_104 (by decide) ?_
            exact ih_33 t_101 x4_101 _ (tq_w i7_x4_101 (by decide) (by decide)) (tq_w i8_t_101 (by decide) (by decide)) (tq_up e_101 i5_x5_33 (⟨by decide, by decide⟩ : tq_iv 1 1 1) (by decide) (by decide) hn_33) (lv_sub hl [0, 1, 2, 3, 4, 5] rfl)
          refine lv_if_eq (tgt := 101) hx hb dX2_fewestKeys_67 (by decide) (fun c_67 => ?_) (fun c_67 => ?_)
          · skip
            have i9_y0_63 : tq_iv 0 0 y0_63 := tq_cut i6_y0_63 (tq_eqL c_67 (⟨by decide, by decide⟩ : tq_iv 0 0 0)) (by decide) (by decide)
            exact K_101 x4_33 _ (tq_w i2_x4_33 (by decide) (by decide)) (lv_sub hl [1, 2, 3, 4, 5, 6] rfl)
          · skip
            have i10_y0_63 : tq_iv 1 1 y0_63 := tq_w (tq_neLo c_67 i6_y0_63 (⟨by decide, by decide⟩ : tq_iv 0 0 0)) (by decide) (by decide)
            refine lv_iload hx hb dX2_fewestKeys_70 (lv_at hl 1 rfl) ?_
            refine lv_iload_n hx hb dX2_fewestKeys_72 rfl (lv_at hl 3 rfl) ?_
            refine lv_iconst (v := -1) hx hb dX2_fewestKeys_73 (by decide) ?_
            refine lv_ixor hx hb dX2_fewestKeys_74 ?_
            refine lv_topi (fun t_74 e_74 => ?_)
            refine lv_iand hx hb dX2_fewestKeys_75 ?_
            refine lv_topi (fun t_75 e_75 => ?_)
            have i11_t_75 : tq_iv 0 255 t_75 := tq_and1 e_75 i5_x5_33 (by decide)
            refine lv_if_ne (tgt := 101) hx hb dX2_fewestKeys_76 (by decide) (fun c_76 => ?_) (fun c_76 => ?_)
            · skip
              have i12_t_75 : tq_iv 1 255 t_75 := tq_w (tq_neLo c_76 i11_t_75 (⟨by decide, by decide⟩ : tq_iv 0 0 0)) (by decide) (by decide)
              exact K_101 x4_33 _ (tq_w i2_x4_33 (by decide) (by decide)) (lv_sub hl [1, 2, 3, 4, 5, 6] rfl)
            · skip
              have i13_t_75 : tq_iv 0 0 t_75 := tq_cut i11_t_75 (tq_eqL c_76 (⟨by decide, by decide⟩ : tq_iv 0 0 0)) (by decide) (by decide)
              refine lv_aload_n hx hb dX2_fewestKeys_79 rfl (lv_at hl 4 rfl) ?_
              refine lv_iload_n hx hb dX2_fewestKeys_80 rfl (lv_at hl 5 rfl) ?_
              refine lv_aload_n hx hb dX2_fewestKeys_81 rfl (lv_at hl 4 rfl) ?_
              refine lv_iload hx hb dX2_fewestKeys_82 (lv_at hl 1 rfl) ?_
              refine tq_callVpi (As := [.int x5_33]) (rest := [.int x1, .ref h0]) hC (c_X2_locksFor l X Z _ h0 z_h0 x5_33) k_X2_locksFor ql_RX2_71 rfl (by decide) hS z_h0 rfl hl.1 rfl (Nat.le_of_ble_eq_true rfl) ⟨Nat.zero_le _, Nat.zero_le _⟩ dX2_fewestKeys_84 (fun t_84 p_84 => ?_)
              refine tq_callVpi (As := [.int x1, .int t_84]) (rest := []) hC (c_X2_flood l X Z _ h0 z_h0 x1 t_84) k_X2_flood ql_RX2_74 rfl (by decide) hS z_h0 rfl hl.1 rfl (Nat.le_of_ble_eq_true rfl) ⟨Nat.zero_le _, Nat.zero_le _⟩ dX2_fewestKeys_87 (fun t_87 p_87 => ?_)
              refine lv_iload_n hx hb dX2_fewestKeys_90 rfl (lv_at hl 6 rfl) ?_
              refine lv_ishr hx hb dX2_fewestKeys_91 ?_
              refine lv_topi (fun t_91 e_91 => ?_)
              refine lv_iconst (v := 1) hx hb dX2_fewestKeys_92 (by decide) ?_
              refine lv_iand hx hb dX2_fewestKeys_93 ?_
              refine lv_topi (fun t_93 e_93 => ?_)
              have i14_t_93 : tq_iv 0 1 t_93 := tq_and2 e_93 (⟨by decide, by decide⟩ : tq_iv 1 1 1) (by decide)
              refine lv_if_eq (tgt := 101) hx hb dX2_fewestKeys_94 (by decide) (fun c_94 => ?_) (fun c_94 => ?_)
              · skip
                have i15_t_93 : tq_iv 0 0 t_93 := tq_cut i14_t_93 (tq_eqL c_94 (⟨by decide, by decide⟩ : tq_iv 0 0 0)) (by decide) (by decide)
                exact K_101 x4_33 _ (tq_w i2_x4_33 (by decide) (by decide)) (lv_sub hl [1, 2, 3, 4, 5, 6] rfl)
              · skip
                have i16_t_93 : tq_iv 1 1 t_93 := tq_w (tq_neLo c_94 i14_t_93 (⟨by decide, by decide⟩ : tq_iv 0 0 0)) (by decide) (by decide)
                refine lv_iload hx hb dX2_fewestKeys_97 (lv_at hl 1 rfl) ?_
                refine lv_istore (lv' := [(4, .int x5_33), (6, .int y0_63), (5, .int x5_33), (3, .int t_25), (0, .ref h0), (1, .int x1), (2, .int x2)]) hx hb dX2_fewestKeys_99 hl (by decide) rfl (fun ls hl => ?_)
                exact K_101 x5_33 _ (tq_w i5_x5_33 (by decide) (by decide)) (lv_sub hl [2, 0, 3, 4, 5, 6] rfl)
        have K_58 : ∀ (ls : Array Slot), lv_has ls 7 [(5, .int x5_33), (4, .int x4_33), (3, .int t_25), (0, .ref h0), (1, .int x1), (2, .int x2)] → W p l e R s m args below meth c s.heap [] 0 0 Q (F0 m 58 ls []) := by
          intro  ls  hl
          refine lv_iconst (v := 1) hx hb dX2_fewestKeys_58 (by decide) ?_
          refine lv_goto (tgt := 63) hx hb dX2_fewestKeys_59 (by decide) ?_
          exact K_63 1 _ (tq_w (⟨by decide, by decide⟩ : tq_iv 1 1 1) (by decide) (by decide)) (lv_sub hl [0, 1, 2, 3, 4, 5] rfl)
        refine lv_icmp_eq (tgt := 58) hx hb dX2_fewestKeys_42 (by decide) (fun c_42 => ?_) (fun c_42 => ?_)
        · skip
          have i17_x4_33 : tq_iv (-1) (-1) x4_33 := tq_cut i2_x4_33 (tq_eqL c_42 (⟨by decide, by decide⟩ : tq_iv (-1) (-1) (-1))) (by decide) (by decide)
          exact K_58 _ (lv_sub hl [0, 1, 2, 3, 4, 5] rfl)
        · skip
          have i18_x4_33 : tq_iv 0 269 x4_33 := tq_w (tq_neLo c_42 i2_x4_33 (⟨by decide, by decide⟩ : tq_iv (-1) (-1) (-1))) (by decide) (by decide)
          refine lv_iload hx hb dX2_fewestKeys_45 (lv_at hl 0 rfl) ?_
          refine tq_callSpi (As := [.int x5_33]) (rest := []) hC (c_J6_bitCount_0f7a4 l X Z _ x5_33) k_J6_bitCount_0f7a4 ql_RX2_115 rfl (by decide) hS hl.1 rfl (Nat.le_of_ble_eq_true rfl) ⟨Nat.zero_le _, Nat.zero_le _⟩ dX2_fewestKeys_47 (fun t_47 p_47 => ?_)
          refine lv_iload hx hb dX2_fewestKeys_50 (lv_at hl 1 rfl) ?_
          refine tq_callSpi (As := [.int x4_33]) (rest := [.int t_47]) hC (c_J6_bitCount_0f7a4 l X Z _ x4_33) k_J6_bitCount_0f7a4 ql_RX2_115 rfl (by decide) hS hl.1 rfl (Nat.le_of_ble_eq_true rfl) ⟨Nat.zero_le _, Nat.zero_le _⟩ dX2_fewestKeys_52 (fun t_52 p_52 => ?_)
          refine lv_icmp_ge (tgt := 62) hx hb dX2_fewestKeys_55 (by decide) (fun c_55 => ?_) (fun c_55 => ?_)
          · skip
            refine lv_iconst (v := 0) hx hb dX2_fewestKeys_62 (by decide) ?_
            exact K_63 0 _ (tq_w (⟨by decide, by decide⟩ : tq_iv 0 0 0) (by decide) (by decide)) (lv_sub hl [0, 1, 2, 3, 4, 5] rfl)
          · skip
            have i19_t_47 : tq_iv 0 62 t_47 := tq_cut p_47 (tq_ltL (tq_nle c_55) p_47 p_52) (by decide) (by decide)
            have i20_t_52 : tq_iv 1 63 t_52 := tq_cut p_52 (tq_ltR (tq_nle c_55) p_47 p_52) (by decide) (by decide)
            exact K_58 _ (lv_sub hl [0, 1, 2, 3, 4, 5] rfl)
  exact K_33 _ 0 (-1) _ (tq_w (⟨by decide, by decide⟩ : tq_iv (-1) (-1) (-1)) (by decide) (by decide)) (tq_w (⟨by decide, by decide⟩ : tq_iv 0 0 0) (by decide) (by decide)) (Nat.lt_succ_self _) (lv_sub hl [0, 1, 2, 3, 4, 5] rfl)
set_option maxHeartbeats 4000000 in
set_option maxRecDepth 100000 in
theorem c_X11_bunch (l : Launch) (X : tq_X) (Z : tq_Z) (f : Nat → va_E) (h0 : Nat) (z_h0 : tq_z Z h0 (.inl 11)) (x1 : Int32) (x2 : Int32) (x3 : Int32) : tq_Mp l X Z f yX11_bunch cX11_bunch 5 (some .int) 4 [.ref h0, .int x1, .int x2, .int x3] (tq_ri (-1) 269) := by
  refine tq_startip (by decide) (Nat.le_of_ble_eq_true rfl) (fun p e R s m args below meth c Q hC hret hS ls hl => ?_)
  have hC : tq_C p R s m args c X (tq_A Z) RX11 cX11_bunch 5 4 := hC
  have hx := hC.1.1
  have hb := hC.1.2.1
  have hown := hC.1.2.2.2.1
  have hts := hC.1.2.2.2.2
  have hl : lv_has ls 5 [(0, .ref h0), (1, .int x1), (2, .int x2), (3, .int x3)] := hl
  refine lv_aload_n hx hb dX11_bunch_0 rfl (lv_at hl 0 rfl) ?_
  refine gf_RX11_29 hC hS z_h0 dX11_bunch_1 (fun t_1 p_1 q_1 => ?_)
  refine lv_iload_n hx hb dX11_bunch_4 rfl (lv_at hl 1 rfl) ?_
  refine tq_callVpi (As := [.int x1]) (rest := []) hC (c_X3_hasRoom l X Z _ t_1 p_1 x1) k_X3_hasRoom ql_RX11_356 rfl (by decide) hS p_1 rfl hl.1 rfl (Nat.le_of_ble_eq_true rfl) ⟨Nat.zero_le _, Nat.zero_le _⟩ dX11_bunch_5 (fun t_5 p_5 => ?_)
  have K_22 : ∀ (ls : Array Slot), lv_has ls 5 [] → W p l e R s m args below meth c s.heap [] 0 0 Q (F0 m 22 ls []) := by
    intro  ls  hl
    refine lv_iconst (v := -1) hx hb dX11_bunch_22 (by decide) ?_
    exact hret (-1) _ _ rfl ⟨_, rfl, tq_w (⟨by decide, by decide⟩ : tq_iv (-1) (-1) (-1)) (by decide) (by decide)⟩ dX11_bunch_23
  refine lv_if_eq (tgt := 22) hx hb dX11_bunch_8 (by decide) (fun c_8 => ?_) (fun c_8 => ?_)
  · skip
    have i1_t_5 : tq_iv 0 0 t_5 := tq_cut p_5 (tq_eqL c_8 (⟨by decide, by decide⟩ : tq_iv 0 0 0)) (by decide) (by decide)
    exact K_22 _ (lv_sub hl [] rfl)
  · skip
    have i2_t_5 : tq_iv 1 1 t_5 := tq_w (tq_neLo c_8 p_5 (⟨by decide, by decide⟩ : tq_iv 0 0 0)) (by decide) (by decide)
    refine lv_aload_n hx hb dX11_bunch_11 rfl (lv_at hl 0 rfl) ?_
    refine gf_RX11_29 hC hS z_h0 dX11_bunch_12 (fun t_12 p_12 q_12 => ?_)
    refine lv_iload_n hx hb dX11_bunch_15 rfl (lv_at hl 2 rfl) ?_
    refine tq_callVpi (As := [.int x2]) (rest := []) hC (c_X3_hasRoom l X Z _ t_12 p_12 x2) k_X3_hasRoom ql_RX11_356 rfl (by decide) hS p_12 rfl hl.1 rfl (Nat.le_of_ble_eq_true rfl) ⟨Nat.zero_le _, Nat.zero_le _⟩ dX11_bunch_16 (fun t_16 p_16 => ?_)
    refine lv_if_ne (tgt := 24) hx hb dX11_bunch_19 (by decide) (fun c_19 => ?_) (fun c_19 => ?_)
    · skip
      have i3_t_16 : tq_iv 1 1 t_16 := tq_w (tq_neLo c_19 p_16 (⟨by decide, by decide⟩ : tq_iv 0 0 0)) (by decide) (by decide)
      refine lv_aload_n hx hb dX11_bunch_24 rfl (lv_at hl 0 rfl) ?_
      refine gf_RX11_79 hC hS z_h0 dX11_bunch_25 (fun t_25 p_25 q_25 => ?_)
      refine lv_iload_n hx hb dX11_bunch_28 rfl (lv_at hl 1 rfl) ?_
      refine lv_iload_n hx hb dX11_bunch_29 rfl (lv_at hl 2 rfl) ?_
      refine tq_callVpi (As := [.int x1, .int x2]) (rest := []) hC (c_X2_fewestKeys l X Z _ t_25 p_25 x1 x2) k_X2_fewestKeys ql_RX11_362 rfl (by decide) hS p_25 rfl hl.1 rfl (Nat.le_of_ble_eq_true rfl) ⟨Nat.zero_le _, Nat.zero_le _⟩ dX11_bunch_30 (fun t_30 p_30 => ?_)
      refine lv_istore (lv' := [(4, .int t_30), (0, .ref h0), (1, .int x1), (2, .int x2), (3, .int x3)]) hx hb dX11_bunch_33 hl (by decide) rfl (fun ls hl => ?_)
      refine lv_iload hx hb dX11_bunch_35 (lv_at hl 0 rfl) ?_
      refine lv_iconst (v := -1) hx hb dX11_bunch_37 (by decide) ?_
      refine lv_icmp_ne (tgt := 43) hx hb dX11_bunch_38 (by decide) (fun c_38 => ?_) (fun c_38 => ?_)
      · skip
        have i4_t_30 : tq_iv 0 269 t_30 := tq_w (tq_neLo c_38 p_30 (⟨by decide, by decide⟩ : tq_iv (-1) (-1) (-1))) (by decide) (by decide)
        refine lv_iload_n hx hb dX11_bunch_43 rfl (lv_at hl 4 rfl) ?_
        by_cases s_44_0 : Int32.toInt x3 = 0
        · refine lv_lookup (tgt := 72) hx hb dX11_bunch_44 (by decide) (by first | (rw [s_44_0]; done) | (rw [s_44_0]; rfl)) (by decide) ?_
          refine lv_iload hx hb dX11_bunch_72 (lv_at hl 0 rfl) ?_
          refine tq_callSpi (As := [.int t_30]) (rest := []) hC (c_J6_bitCount_0f7a4 l X Z _ t_30) k_J6_bitCount_0f7a4 ql_RX11_171 rfl (by decide) hS hl.1 rfl (Nat.le_of_ble_eq_true rfl) ⟨Nat.zero_le _, Nat.zero_le _⟩ dX11_bunch_74 (fun t_74 p_74 => ?_)
          exact hret t_74 _ _ rfl ⟨_, rfl, tq_w p_74 (by decide) (by decide)⟩ dX11_bunch_77
        by_cases s_44_1 : Int32.toInt x3 = 1
        · refine lv_lookup (tgt := 78) hx hb dX11_bunch_44 (by decide) (by first | (rw [s_44_1]; done) | (rw [s_44_1]; rfl)) (by decide) ?_
          refine lv_iload hx hb dX11_bunch_78 (lv_at hl 0 rfl) ?_
          exact hret t_30 _ _ rfl ⟨_, rfl, tq_w i4_t_30 (by decide) (by decide)⟩ dX11_bunch_80
        refine lv_lookup (off := 37) (tgt := 81) hx hb dX11_bunch_44 (by decide) (by simp only [Op.lookupswitch.offset_cons, Op.lookupswitch.offset_nil]; rw [if_neg (fun q => s_44_0 q.symm), if_neg (fun q => s_44_1 q.symm)]) (by decide) ?_
        refine lv_iconst (v := -1) hx hb dX11_bunch_81 (by decide) ?_
        exact hret (-1) _ _ rfl ⟨_, rfl, tq_w (⟨by decide, by decide⟩ : tq_iv (-1) (-1) (-1)) (by decide) (by decide)⟩ dX11_bunch_82
      · skip
        have i5_t_30 : tq_iv (-1) (-1) t_30 := tq_cut p_30 (tq_eqL c_38 (⟨by decide, by decide⟩ : tq_iv (-1) (-1) (-1))) (by decide) (by decide)
        refine lv_iconst (v := -1) hx hb dX11_bunch_41 (by decide) ?_
        exact hret (-1) _ _ rfl ⟨_, rfl, tq_w (⟨by decide, by decide⟩ : tq_iv (-1) (-1) (-1)) (by decide) (by decide)⟩ dX11_bunch_42
    · skip
      have i6_t_16 : tq_iv 0 0 t_16 := tq_cut p_16 (tq_eqL c_19 (⟨by decide, by decide⟩ : tq_iv 0 0 0)) (by decide) (by decide)
      exact K_22 _ (lv_sub hl [] rfl)
set_option maxHeartbeats 4000000 in
set_option maxRecDepth 100000 in
theorem c_X2_bunchOf (l : Launch) (X : tq_X) (Z : tq_Z) (f : Nat → va_E) (h0 : Nat) (z_h0 : tq_z Z h0 (.inl 2)) (x1 : Int32) : tq_Mp l X Z f yX2_bunchOf cX2_bunchOf 2 (some .int) 0 [.ref h0, .int x1] (tq_ri (-2147483648) 2147483647) := by
  refine tq_startip (by decide) (Nat.le_of_ble_eq_true rfl) (fun p e R s m args below meth c Q hC hret hS ls hl => ?_)
  have hC : tq_C p R s m args c X (tq_A Z) RX2 cX2_bunchOf 2 0 := hC
  have hx := hC.1.1
  have hb := hC.1.2.1
  have hown := hC.1.2.2.2.1
  have hts := hC.1.2.2.2.2
  have hl : lv_has ls 2 [(0, .ref h0), (1, .int x1)] := hl
  refine lv_iload_n hx hb dX2_bunchOf_0 rfl (lv_at hl 1 rfl) ?_
  have K_19 : ∀ (y0_19 : Int32) (ls : Array Slot), lv_has ls 2 [] → W p l e R s m args below meth c s.heap [] 0 0 Q (F0 m 19 ls [.int y0_19]) := by
    intro y0_19 ls  hl
    exact hret y0_19 _ _ rfl ⟨_, rfl, tq_w (tq_top y0_19) (by decide) (by decide)⟩ dX2_bunchOf_19
  have K_18 : ∀ (ls : Array Slot), lv_has ls 2 [] → W p l e R s m args below meth c s.heap [] 0 0 Q (F0 m 18 ls []) := by
    intro  ls  hl
    refine lv_iconst (v := 0) hx hb dX2_bunchOf_18 (by decide) ?_
    exact K_19 0 _ (lv_sub hl [] rfl)
  refine lv_if_lt (tgt := 18) hx hb dX2_bunchOf_1 (by decide) (fun c_1 => ?_) (fun c_1 => ?_)
  · skip
    have i1_x1 : tq_iv (-2147483648) (-1) x1 := tq_cut (tq_top x1) (tq_ltL c_1 (tq_top x1) (⟨by decide, by decide⟩ : tq_iv 0 0 0)) (by decide) (by decide)
    exact K_18 _ (lv_sub hl [] rfl)
  · skip
    have i2_x1 : tq_iv 0 2147483647 x1 := tq_cut (tq_top x1) (tq_leR (tq_nlt c_1) (⟨by decide, by decide⟩ : tq_iv 0 0 0) (tq_top x1)) (by decide) (by decide)
    refine lv_iload_n hx hb dX2_bunchOf_4 rfl (lv_at hl 1 rfl) ?_
    refine lv_iconst (v := 4) hx hb dX2_bunchOf_5 (by decide) ?_
    refine lv_icmp_ge (tgt := 18) hx hb dX2_bunchOf_6 (by decide) (fun c_6 => ?_) (fun c_6 => ?_)
    · skip
      have i3_x1 : tq_iv 4 2147483647 x1 := tq_cut i2_x1 (tq_leR c_6 (⟨by decide, by decide⟩ : tq_iv 4 4 4) i2_x1) (by decide) (by decide)
      exact K_18 _ (lv_sub hl [] rfl)
    · skip
      have i4_x1 : tq_iv 0 3 x1 := tq_cut i2_x1 (tq_ltL (tq_nle c_6) i2_x1 (⟨by decide, by decide⟩ : tq_iv 4 4 4)) (by decide) (by decide)
      refine lv_aload_n hx hb dX2_bunchOf_9 rfl (lv_at hl 0 rfl) ?_
      refine gf_RX2_23 hC hS z_h0 dX2_bunchOf_10 (fun t_10 p_10 q_10 => ?_)
      refine lv_iload_n hx hb dX2_bunchOf_13 rfl (lv_at hl 1 rfl) ?_
      refine tq_iald hC hS p_10 rfl (tq_vin i4_x1 (by decide) (by decide)) dX2_bunchOf_14 (fun t_14 p_14 => ?_)
      refine lv_goto (tgt := 19) hx hb dX2_bunchOf_15 (by decide) ?_
      exact K_19 t_14 _ (lv_sub hl [] rfl)
set_option maxHeartbeats 4000000 in
set_option maxRecDepth 100000 in
theorem c_X2_handOn (l : Launch) (X : tq_X) (Z : tq_Z) (f : Nat → va_E) (h0 : Nat) (z_h0 : tq_z Z h0 (.inl 2)) (x1 : Int32) (x2 : Int32) : tq_M l X Z f [] yX2_handOn cX2_handOn 5 (some .boolean) 4 [.ref h0, .int x1, .int x2] (tq_ri 0 1) := by
  refine tq_starti (by decide) (Nat.le_of_ble_eq_true rfl) (fun p e R s m args below meth c Q hC hret hS ls hl => ?_)
  have hC : tq_C p R s m args c X (tq_A Z) RX2 cX2_handOn 5 4 := hC
  have hx := hC.1.1
  have hb := hC.1.2.1
  have hown := hC.1.2.2.2.1
  have hts := hC.1.2.2.2.2
  have hl : lv_has ls 5 [(0, .ref h0), (1, .int x1), (2, .int x2)] := hl
  generalize hf0 : f = f0 at hret
  have hS : tq_S X Z (tq_A Z) s.heap f0 [] f s.heap [] := hf0 ▸ hS
  refine lv_aload_n hx hb dX2_handOn_0 rfl (lv_at hl 0 rfl) ?_
  refine lv_iload_n hx hb dX2_handOn_1 rfl (lv_at hl 1 rfl) ?_
  refine tq_callVpi (As := [.int x1]) (rest := []) hC (c_X2_bunchOf l X Z _ h0 z_h0 x1) k_X2_bunchOf ql_RX2_126 rfl (by decide) hS z_h0 rfl hl.1 rfl (Nat.le_of_ble_eq_true rfl) ⟨Nat.zero_le _, Nat.zero_le _⟩ dX2_handOn_2 (fun t_2 p_2 => ?_)
  refine lv_aload_n hx hb dX2_handOn_5 rfl (lv_at hl 0 rfl) ?_
  refine lv_iload_n hx hb dX2_handOn_6 rfl (lv_at hl 2 rfl) ?_
  refine tq_callVpi (As := [.int x2]) (rest := [.int t_2]) hC (c_X2_bunchOf l X Z _ h0 z_h0 x2) k_X2_bunchOf ql_RX2_126 rfl (by decide) hS z_h0 rfl hl.1 rfl (Nat.le_of_ble_eq_true rfl) ⟨Nat.zero_le _, Nat.zero_le _⟩ dX2_handOn_7 (fun t_7 p_7 => ?_)
  refine lv_ior hx hb dX2_handOn_10 ?_
  refine lv_topi (fun t_10 e_10 => ?_)
  refine lv_istore_n (lv' := [(3, .int t_10), (0, .ref h0), (1, .int x1), (2, .int x2)]) hx hb dX2_handOn_11 rfl hl (by decide) rfl (fun ls hl => ?_)
  refine lv_aload_n hx hb dX2_handOn_12 rfl (lv_at hl 1 rfl) ?_
  refine lv_iload_n hx hb dX2_handOn_13 rfl (lv_at hl 2 rfl) ?_
  refine tq_callVpi (As := [.int x1]) (rest := []) hC (c_X2_bunchOf l X Z _ h0 z_h0 x1) k_X2_bunchOf ql_RX2_126 rfl (by decide) hS z_h0 rfl hl.1 rfl (Nat.le_of_ble_eq_true rfl) ⟨Nat.zero_le _, Nat.zero_le _⟩ dX2_handOn_14 (fun t_14 p_14 => ?_)
  refine lv_aload_n hx hb dX2_handOn_17 rfl (lv_at hl 1 rfl) ?_
  refine lv_iload_n hx hb dX2_handOn_18 rfl (lv_at hl 3 rfl) ?_
  refine tq_callVpi (As := [.int x2]) (rest := [.int t_14]) hC (c_X2_bunchOf l X Z _ h0 z_h0 x2) k_X2_bunchOf ql_RX2_126 rfl (by decide) hS z_h0 rfl hl.1 rfl (Nat.le_of_ble_eq_true rfl) ⟨Nat.zero_le _, Nat.zero_le _⟩ dX2_handOn_19 (fun t_19 p_19 => ?_)
  have K_30 : ∀ (y0_30 : Int32) (f : Nat → va_E) (H : Heap) (locs : List Loc) (ls : Array Slot), tq_S X Z (tq_A Z) s.heap f0 [] f H locs → tq_iv 0 1 y0_30 → lv_has ls 5 [(3, .int t_10), (0, .ref h0), (1, .int x1), (2, .int x2)] → W p l e R s m args below meth c H locs 0 0 Q (F0 m 30 ls [.int y0_30]) := by
    intro y0_30 f H locs ls  hS i1_y0_30 hl
    refine lv_istore (lv' := [(4, .int y0_30), (3, .int t_10), (0, .ref h0), (1, .int x1), (2, .int x2)]) hx hb dX2_handOn_30 hl (by decide) rfl (fun ls hl => ?_)
    refine lv_iload hx hb dX2_handOn_32 (lv_at hl 0 rfl) ?_
    have K_55 : ∀ (f : Nat → va_E) (H : Heap) (locs : List Loc) (ls : Array Slot), tq_S X Z (tq_A Z) s.heap f0 [] f H locs → lv_has ls 5 [] → W p l e R s m args below meth c H locs 0 0 Q (F0 m 55 ls []) := by
      intro f H locs ls  hS hl
      refine lv_iconst (v := 0) hx hb dX2_handOn_55 (by decide) ?_
      exact hret 0 _ _ _ _ _ (tq_nb (⟨by decide, by decide⟩ : tq_iv 0 0 0) (by decide) (by decide)) ⟨_, rfl, tq_w (⟨by decide, by decide⟩ : tq_iv 0 0 0) (by decide) (by decide)⟩ hS dX2_handOn_56
    refine lv_if_ne (tgt := 55) hx hb dX2_handOn_34 (by decide) (fun c_34 => ?_) (fun c_34 => ?_)
    · skip
      have i2_y0_30 : tq_iv 1 1 y0_30 := tq_w (tq_neLo c_34 i1_y0_30 (⟨by decide, by decide⟩ : tq_iv 0 0 0)) (by decide) (by decide)
      exact K_55 _ _ _ _ hS (lv_sub hl [] rfl)
    · skip
      have i3_y0_30 : tq_iv 0 0 y0_30 := tq_cut i1_y0_30 (tq_eqL c_34 (⟨by decide, by decide⟩ : tq_iv 0 0 0)) (by decide) (by decide)
      refine lv_iload_n hx hb dX2_handOn_37 rfl (lv_at hl 3 rfl) ?_
      refine lv_if_lt (tgt := 55) hx hb dX2_handOn_38 (by decide) (fun c_38 => ?_) (fun c_38 => ?_)
      · skip
        have i4_x1 : tq_iv (-2147483648) (-1) x1 := tq_cut (tq_top x1) (tq_ltL c_38 (tq_top x1) (⟨by decide, by decide⟩ : tq_iv 0 0 0)) (by decide) (by decide)
        exact K_55 _ _ _ _ hS (lv_sub hl [] rfl)
      · skip
        have i5_x1 : tq_iv 0 2147483647 x1 := tq_cut (tq_top x1) (tq_leR (tq_nlt c_38) (⟨by decide, by decide⟩ : tq_iv 0 0 0) (tq_top x1)) (by decide) (by decide)
        refine lv_iload_n hx hb dX2_handOn_41 rfl (lv_at hl 4 rfl) ?_
        refine lv_if_lt (tgt := 55) hx hb dX2_handOn_42 (by decide) (fun c_42 => ?_) (fun c_42 => ?_)
        · skip
          have i6_x2 : tq_iv (-2147483648) (-1) x2 := tq_cut (tq_top x2) (tq_ltL c_42 (tq_top x2) (⟨by decide, by decide⟩ : tq_iv 0 0 0)) (by decide) (by decide)
          exact K_55 _ _ _ _ hS (lv_sub hl [] rfl)
        · skip
          have i7_x2 : tq_iv 0 2147483647 x2 := tq_cut (tq_top x2) (tq_leR (tq_nlt c_42) (⟨by decide, by decide⟩ : tq_iv 0 0 0) (tq_top x2)) (by decide) (by decide)
          refine lv_iload_n hx hb dX2_handOn_45 rfl (lv_at hl 3 rfl) ?_
          refine lv_iconst (v := 4) hx hb dX2_handOn_46 (by decide) ?_
          refine lv_icmp_ge (tgt := 55) hx hb dX2_handOn_47 (by decide) (fun c_47 => ?_) (fun c_47 => ?_)
          · skip
            have i8_x1 : tq_iv 4 2147483647 x1 := tq_cut i5_x1 (tq_leR c_47 (⟨by decide, by decide⟩ : tq_iv 4 4 4) i5_x1) (by decide) (by decide)
            exact K_55 _ _ _ _ hS (lv_sub hl [] rfl)
          · skip
            have i9_x1 : tq_iv 0 3 x1 := tq_cut i5_x1 (tq_ltL (tq_nle c_47) i5_x1 (⟨by decide, by decide⟩ : tq_iv 4 4 4)) (by decide) (by decide)
            refine lv_iload_n hx hb dX2_handOn_50 rfl (lv_at hl 4 rfl) ?_
            refine lv_iconst (v := 4) hx hb dX2_handOn_51 (by decide) ?_
            refine lv_icmp_lt (tgt := 57) hx hb dX2_handOn_52 (by decide) (fun c_52 => ?_) (fun c_52 => ?_)
            · skip
              have i10_x2 : tq_iv 0 3 x2 := tq_cut i7_x2 (tq_ltL c_52 i7_x2 (⟨by decide, by decide⟩ : tq_iv 4 4 4)) (by decide) (by decide)
              refine lv_aload_n hx hb dX2_handOn_57 rfl (lv_at hl 2 rfl) ?_
              refine lv_iload_n hx hb dX2_handOn_58 rfl (lv_at hl 3 rfl) ?_
              refine lv_aload_n hx hb dX2_handOn_59 rfl (lv_at hl 2 rfl) ?_
              refine lv_iload_n hx hb dX2_handOn_60 rfl (lv_at hl 3 rfl) ?_
              refine tq_callVpi (As := [.int x1]) (rest := [.int x1, .ref h0]) hC (c_X2_bunchOf l X Z _ h0 z_h0 x1) k_X2_bunchOf ql_RX2_126 rfl (by decide) hS z_h0 rfl hl.1 rfl (Nat.le_of_ble_eq_true rfl) ⟨Nat.zero_le _, Nat.zero_le _⟩ dX2_handOn_61 (fun t_61 p_61 => ?_)
              refine tq_callVpi (As := [.int x1, .int t_61]) (rest := []) hC (c_X2_reachWith l X Z _ h0 z_h0 x1 t_61) k_X2_reachWith ql_RX2_81 rfl (by decide) hS z_h0 rfl hl.1 rfl (Nat.le_of_ble_eq_true rfl) ⟨Nat.zero_le _, Nat.zero_le _⟩ dX2_handOn_64 (fun t_64 p_64 => ?_)
              refine lv_aload_n hx hb dX2_handOn_67 rfl (lv_at hl 2 rfl) ?_
              refine lv_iload_n hx hb dX2_handOn_68 rfl (lv_at hl 4 rfl) ?_
              refine lv_aload_n hx hb dX2_handOn_69 rfl (lv_at hl 2 rfl) ?_
              refine lv_iload_n hx hb dX2_handOn_70 rfl (lv_at hl 4 rfl) ?_
              refine tq_callVpi (As := [.int x2]) (rest := [.int x2, .ref h0, .int t_64]) hC (c_X2_bunchOf l X Z _ h0 z_h0 x2) k_X2_bunchOf ql_RX2_126 rfl (by decide) hS z_h0 rfl hl.1 rfl (Nat.le_of_ble_eq_true rfl) ⟨Nat.zero_le _, Nat.zero_le _⟩ dX2_handOn_71 (fun t_71 p_71 => ?_)
              refine tq_callVpi (As := [.int x2, .int t_71]) (rest := [.int t_64]) hC (c_X2_reachWith l X Z _ h0 z_h0 x2 t_71) k_X2_reachWith ql_RX2_81 rfl (by decide) hS z_h0 rfl hl.1 rfl (Nat.le_of_ble_eq_true rfl) ⟨Nat.zero_le _, Nat.zero_le _⟩ dX2_handOn_74 (fun t_74 p_74 => ?_)
              refine lv_iand hx hb dX2_handOn_77 ?_
              refine lv_topi (fun t_77 e_77 => ?_)
              refine lv_if_ne (tgt := 83) hx hb dX2_handOn_78 (by decide) (fun c_78 => ?_) (fun c_78 => ?_)
              · skip
                refine lv_aload_n hx hb dX2_handOn_83 rfl (lv_at hl 2 rfl) ?_
                refine gf_RX2_23 hC hS z_h0 dX2_handOn_84 (fun t_84 p_84 q_84 => ?_)
                refine lv_iload_n hx hb dX2_handOn_87 rfl (lv_at hl 3 rfl) ?_
                refine lv_iload_n hx hb dX2_handOn_88 rfl (lv_at hl 1 rfl) ?_
                refine tq_iast hC hS p_84 rfl (tq_vin i9_x1 (by decide) (by decide)) trivial dX2_handOn_89 (fun f H locs hS k_89 => ?_)
                refine lv_aload_n hx hb dX2_handOn_90 rfl (lv_at hl 2 rfl) ?_
                refine gf_RX2_23 hC hS z_h0 dX2_handOn_91 (fun t_91 p_91 q_91 => ?_)
                refine lv_iload_n hx hb dX2_handOn_94 rfl (lv_at hl 4 rfl) ?_
                refine lv_iload_n hx hb dX2_handOn_95 rfl (lv_at hl 1 rfl) ?_
                refine tq_iast hC hS p_91 rfl (tq_vin i10_x2 (by decide) (by decide)) trivial dX2_handOn_96 (fun f H locs hS k_96 => ?_)
                refine lv_iconst (v := 1) hx hb dX2_handOn_97 (by decide) ?_
                exact hret 1 _ _ _ _ _ (tq_nb (⟨by decide, by decide⟩ : tq_iv 1 1 1) (by decide) (by decide)) ⟨_, rfl, tq_w (⟨by decide, by decide⟩ : tq_iv 1 1 1) (by decide) (by decide)⟩ hS dX2_handOn_98
              · skip
                have i11_t_77 : tq_iv 0 0 t_77 := tq_cut (tq_top t_77) (tq_eqL c_78 (⟨by decide, by decide⟩ : tq_iv 0 0 0)) (by decide) (by decide)
                refine lv_iconst (v := 0) hx hb dX2_handOn_81 (by decide) ?_
                exact hret 0 _ _ _ _ _ (tq_nb (⟨by decide, by decide⟩ : tq_iv 0 0 0) (by decide) (by decide)) ⟨_, rfl, tq_w (⟨by decide, by decide⟩ : tq_iv 0 0 0) (by decide) (by decide)⟩ hS dX2_handOn_82
            · skip
              have i12_x2 : tq_iv 4 2147483647 x2 := tq_cut i7_x2 (tq_leR (tq_nlt c_52) (⟨by decide, by decide⟩ : tq_iv 4 4 4) i7_x2) (by decide) (by decide)
              exact K_55 _ _ _ _ hS (lv_sub hl [] rfl)
  refine lv_icmp_ne (tgt := 29) hx hb dX2_handOn_22 (by decide) (fun c_22 => ?_) (fun c_22 => ?_)
  · skip
    refine lv_iconst (v := 0) hx hb dX2_handOn_29 (by decide) ?_
    exact K_30 0 _ _ _ _ hS (tq_w (⟨by decide, by decide⟩ : tq_iv 0 0 0) (by decide) (by decide)) (lv_sub hl [0, 1, 2, 3] rfl)
  · skip
    refine lv_iconst (v := 1) hx hb dX2_handOn_25 (by decide) ?_
    refine lv_goto (tgt := 30) hx hb dX2_handOn_26 (by decide) ?_
    exact K_30 1 _ _ _ _ hS (tq_w (⟨by decide, by decide⟩ : tq_iv 1 1 1) (by decide) (by decide)) (lv_sub hl [0, 1, 2, 3] rfl)
set_option maxHeartbeats 4000000 in
set_option maxRecDepth 100000 in
theorem c_X2_sharedReach (l : Launch) (X : tq_X) (Z : tq_Z) (f : Nat → va_E) (h0 : Nat) (z_h0 : tq_z Z h0 (.inl 2)) (x1 : Int32) : tq_M l X Z f [] yX2_sharedReach cX2_sharedReach 6 (some .int) 5 [.ref h0, .int x1] (tq_ri (-2147483648) 2147483647) := by
  refine tq_starti (by decide) (Nat.le_of_ble_eq_true rfl) (fun p e R s m args below meth c Q hC hret hS ls hl => ?_)
  have hC : tq_C p R s m args c X (tq_A Z) RX2 cX2_sharedReach 6 5 := hC
  have hx := hC.1.1
  have hb := hC.1.2.1
  have hown := hC.1.2.2.2.1
  have hts := hC.1.2.2.2.2
  have hl : lv_has ls 6 [(0, .ref h0), (1, .int x1)] := hl
  generalize hf0 : f = f0 at hret
  have hS : tq_S X Z (tq_A Z) s.heap f0 [] f s.heap [] := hf0 ▸ hS
  refine lv_iconst (v := 0) hx hb dX2_sharedReach_0 (by decide) ?_
  refine lv_istore_n (lv' := [(2, .int 0), (0, .ref h0), (1, .int x1)]) hx hb dX2_sharedReach_1 rfl hl (by decide) rfl (fun ls hl => ?_)
  have K_2 : ∀ (n_2 : Nat) (x2_2 : Int32) (f : Nat → va_E) (H : Heap) (locs : List Loc) (ls : Array Slot), tq_S X Z (tq_A Z) s.heap f0 [] f H locs → tq_iv 0 4 x2_2 → (2147483647 - x2_2.toInt).toNat < n_2 → lv_has ls 6 [(2, .int x2_2), (0, .ref h0), (1, .int x1)] → W p l e R s m args below meth c H locs 0 0 Q (F0 m 2 ls []) := by
    intro n_2
    induction n_2 with
    | zero => intro x2_2 f H locs ls  hS i1_x2_2 hn_2; exact absurd hn_2 (Nat.not_lt_zero _)
    | succ n_2 ih_2 =>
      intro x2_2 f H locs ls  hS i1_x2_2 hn_2 hl
      refine lv_iload_n hx hb dX2_sharedReach_2 rfl (lv_at hl 0 rfl) ?_
      refine lv_aload_n hx hb dX2_sharedReach_3 rfl (lv_at hl 1 rfl) ?_
      refine gf_RX2_9 hC hS z_h0 dX2_sharedReach_4 (fun t_4 p_4 q_4 => ?_)
      refine gf_RX2_120 hC hS p_4 dX2_sharedReach_7 (fun t_7 p_7 q_7 => ?_)
      have K_45 : ∀ (f : Nat → va_E) (H : Heap) (locs : List Loc) (ls : Array Slot), tq_S X Z (tq_A Z) s.heap f0 [] f H locs → lv_has ls 6 [(0, .ref h0), (1, .int x1)] → W p l e R s m args below meth c H locs 0 0 Q (F0 m 45 ls []) := by
        intro f H locs ls  hS hl
        refine lv_iconst (v := 1) hx hb dX2_sharedReach_45 (by decide) ?_
        refine lv_istore_n (lv' := [(2, .int 1), (0, .ref h0), (1, .int x1)]) hx hb dX2_sharedReach_46 rfl hl (by decide) rfl (fun ls hl => ?_)
        refine lv_iconst (v := 0) hx hb dX2_sharedReach_47 (by decide) ?_
        refine lv_istore_n (lv' := [(3, .int 0), (2, .int 1), (0, .ref h0), (1, .int x1)]) hx hb dX2_sharedReach_48 rfl hl (by decide) rfl (fun ls hl => ?_)
        have K_49 : ∀ (n_49 : Nat) (x3_49 : Int32) (x2_49 : Int32) (f : Nat → va_E) (H : Heap) (locs : List Loc) (ls : Array Slot), tq_S X Z (tq_A Z) s.heap f0 [] f H locs → tq_iv 0 1 x2_49 → tq_iv 0 33 x3_49 → (2147483647 - x3_49.toInt).toNat < n_49 → lv_has ls 6 [(3, .int x3_49), (2, .int x2_49), (0, .ref h0), (1, .int x1)] → W p l e R s m args below meth c H locs 0 0 Q (F0 m 49 ls []) := by
          intro n_49
          induction n_49 with
          | zero => intro x3_49 x2_49 f H locs ls  hS i2_x2_49 i3_x3_49 hn_49; exact absurd hn_49 (Nat.not_lt_zero _)
          | succ n_49 ih_49 =>
            intro x3_49 x2_49 f H locs ls  hS i2_x2_49 i3_x3_49 hn_49 hl
            refine lv_iload_n hx hb dX2_sharedReach_49 rfl (lv_at hl 0 rfl) ?_
            refine lv_bipush (v := 32) hx hb dX2_sharedReach_50 (by decide) ?_
            have K_115 : ∀ (f : Nat → va_E) (H : Heap) (locs : List Loc) (ls : Array Slot), tq_S X Z (tq_A Z) s.heap f0 [] f H locs → lv_has ls 6 [(0, .ref h0), (1, .int x1)] → W p l e R s m args below meth c H locs 0 0 Q (F0 m 115 ls []) := by
              intro f H locs ls  hS hl
              refine lv_aload_n hx hb dX2_sharedReach_115 rfl (lv_at hl 0 rfl) ?_
              refine lv_iload_n hx hb dX2_sharedReach_116 rfl (lv_at hl 1 rfl) ?_
              refine lv_aload_n hx hb dX2_sharedReach_117 rfl (lv_at hl 0 rfl) ?_
              refine lv_iload_n hx hb dX2_sharedReach_118 rfl (lv_at hl 1 rfl) ?_
              refine tq_callVpi (As := [.int x1]) (rest := [.int x1, .ref h0]) hC (c_X2_bunchOf l X Z _ h0 z_h0 x1) k_X2_bunchOf ql_RX2_126 rfl (by decide) hS z_h0 rfl hl.1 rfl (Nat.le_of_ble_eq_true rfl) ⟨Nat.zero_le _, Nat.zero_le _⟩ dX2_sharedReach_119 (fun t_119 p_119 => ?_)
              refine tq_callVpi (As := [.int x1, .int t_119]) (rest := []) hC (c_X2_reachWith l X Z _ h0 z_h0 x1 t_119) k_X2_reachWith ql_RX2_81 rfl (by decide) hS z_h0 rfl hl.1 rfl (Nat.le_of_ble_eq_true rfl) ⟨Nat.zero_le _, Nat.zero_le _⟩ dX2_sharedReach_122 (fun t_122 p_122 => ?_)
              exact hret t_122 _ _ _ _ _ rfl ⟨_, rfl, tq_w (tq_top t_122) (by decide) (by decide)⟩ hS dX2_sharedReach_125
            refine lv_icmp_gt (tgt := 115) hx hb dX2_sharedReach_52 (by decide) (fun c_52 => ?_) (fun c_52 => ?_)
            · skip
              have i4_x3_49 : tq_iv 33 33 x3_49 := tq_cut i3_x3_49 (tq_ltR c_52 (⟨by decide, by decide⟩ : tq_iv 32 32 32) i3_x3_49) (by decide) (by decide)
              exact K_115 _ _ _ _ hS (lv_sub hl [2, 3] rfl)
            · skip
              have i5_x3_49 : tq_iv 0 32 x3_49 := tq_cut i3_x3_49 (tq_leL (tq_nlt c_52) i3_x3_49 (⟨by decide, by decide⟩ : tq_iv 32 32 32)) (by decide) (by decide)
              refine lv_iload_n hx hb dX2_sharedReach_55 rfl (lv_at hl 1 rfl) ?_
              refine lv_if_eq (tgt := 115) hx hb dX2_sharedReach_56 (by decide) (fun c_56 => ?_) (fun c_56 => ?_)
              · skip
                have i6_x2_49 : tq_iv 0 0 x2_49 := tq_cut i2_x2_49 (tq_eqL c_56 (⟨by decide, by decide⟩ : tq_iv 0 0 0)) (by decide) (by decide)
                exact K_115 _ _ _ _ hS (lv_sub hl [2, 3] rfl)
              · skip
                have i7_x2_49 : tq_iv 1 1 x2_49 := tq_w (tq_neLo c_56 i2_x2_49 (⟨by decide, by decide⟩ : tq_iv 0 0 0)) (by decide) (by decide)
                refine lv_iconst (v := 0) hx hb dX2_sharedReach_59 (by decide) ?_
                refine lv_istore_n (lv' := [(2, .int 0), (3, .int x3_49), (0, .ref h0), (1, .int x1)]) hx hb dX2_sharedReach_60 rfl hl (by decide) rfl (fun ls hl => ?_)
                refine lv_iconst (v := 0) hx hb dX2_sharedReach_61 (by decide) ?_
                refine lv_istore (lv' := [(4, .int 0), (2, .int 0), (3, .int x3_49), (0, .ref h0), (1, .int x1)]) hx hb dX2_sharedReach_62 hl (by decide) rfl (fun ls hl => ?_)
                have K_64 : ∀ (n_64 : Nat) (x4_64 : Int32) (x2_64 : Int32) (f : Nat → va_E) (H : Heap) (locs : List Loc) (ls : Array Slot), tq_S X Z (tq_A Z) s.heap f0 [] f H locs → tq_iv 0 1 x2_64 → tq_iv 0 2147483647 x4_64 → (2147483647 - x4_64.toInt).toNat < n_64 → lv_has ls 6 [(4, .int x4_64), (2, .int x2_64), (3, .int x3_49), (0, .ref h0), (1, .int x1)] → W p l e R s m args below meth c H locs 0 0 Q (F0 m 64 ls []) := by
                  intro n_64
                  induction n_64 with
                  | zero => intro x4_64 x2_64 f H locs ls  hS i8_x2_64 i9_x4_64 hn_64; exact absurd hn_64 (Nat.not_lt_zero _)
                  | succ n_64 ih_64 =>
                    intro x4_64 x2_64 f H locs ls  hS i8_x2_64 i9_x4_64 hn_64 hl
                    refine lv_iload hx hb dX2_sharedReach_64 (lv_at hl 0 rfl) ?_
                    refine lv_aload_n hx hb dX2_sharedReach_66 rfl (lv_at hl 3 rfl) ?_
                    refine gf_RX2_9 hC hS z_h0 dX2_sharedReach_67 (fun t_67 p_67 q_67 => ?_)
                    refine gf_RX2_120 hC hS p_67 dX2_sharedReach_70 (fun t_70 p_70 q_70 => ?_)
                    refine lv_icmp_ge (tgt := 109) hx hb dX2_sharedReach_73 (by decide) (fun c_73 => ?_) (fun c_73 => ?_)
                    · skip
                      obtain ⟨t_109, e_109⟩ : ∃ y : Int32, y = x3_49 + 1 := ⟨_, rfl⟩
                      have i10_t_109 : tq_iv 1 33 t_109 := tq_w (tq_add e_109 i5_x3_49 (⟨by decide, by decide⟩ : tq_iv 1 1 1) (by decide) (by decide)) (by decide) (by decide)
                      refine lv_iinc (v := t_109) (lv' := [(3, .int t_109), (4, .int x4_64), (2, .int x2_64), (0, .ref h0), (1, .int x1)]) hx hb dX2_sharedReach_109 hl (k := 2) rfl (by rw [e_109]; rfl) (by decide) rfl (fun ls hl => ?_)
                      refine lv_goto (tgt := 49) hx hb dX2_sharedReach_112 (by decide) ?_
                      exact ih_49 t_109 x2_64 _ _ _ _ hS (tq_w i8_x2_64 (by decide) (by decide)) (tq_w i10_t_109 (by decide) (by decide)) (tq_up e_109 i5_x3_49 (⟨by decide, by decide⟩ : tq_iv 1 1 1) (by decide) (by decide) hn_49) (lv_sub hl [0, 2, 3, 4] rfl)
                    · skip
                      have i11_x4_64 : tq_iv 0 2147483646 x4_64 := tq_cut i9_x4_64 (tq_ltL (tq_nle c_73) i9_x4_64 (tq_top t_70)) (by decide) (by decide)
                      have i12_t_70 : tq_iv 1 2147483647 t_70 := tq_cut (tq_top t_70) (tq_ltR (tq_nle c_73) i9_x4_64 (tq_top t_70)) (by decide) (by decide)
                      refine lv_iconst (v := 0) hx hb dX2_sharedReach_76 (by decide) ?_
                      refine lv_istore (lv' := [(5, .int 0), (4, .int x4_64), (2, .int x2_64), (3, .int x3_49), (0, .ref h0), (1, .int x1)]) hx hb dX2_sharedReach_77 hl (by decide) rfl (fun ls hl => ?_)
                      have K_79 : ∀ (n_79 : Nat) (x5_79 : Int32) (x2_79 : Int32) (f : Nat → va_E) (H : Heap) (locs : List Loc) (ls : Array Slot), tq_S X Z (tq_A Z) s.heap f0 [] f H locs → tq_iv 0 1 x2_79 → tq_iv 0 2147483646 x5_79 → (2147483647 - x5_79.toInt).toNat < n_79 → lv_has ls 6 [(5, .int x5_79), (4, .int x4_64), (2, .int x2_79), (3, .int x3_49), (0, .ref h0), (1, .int x1)] → W p l e R s m args below meth c H locs 0 0 Q (F0 m 79 ls []) := by
                        intro n_79
                        induction n_79 with
                        | zero => intro x5_79 x2_79 f H locs ls  hS i13_x2_79 i14_x5_79 hn_79; exact absurd hn_79 (Nat.not_lt_zero _)
                        | succ n_79 ih_79 =>
                          intro x5_79 x2_79 f H locs ls  hS i13_x2_79 i14_x5_79 hn_79 hl
                          refine lv_iload hx hb dX2_sharedReach_79 (lv_at hl 0 rfl) ?_
                          refine lv_iload hx hb dX2_sharedReach_81 (lv_at hl 1 rfl) ?_
                          refine lv_icmp_ge (tgt := 103) hx hb dX2_sharedReach_83 (by decide) (fun c_83 => ?_) (fun c_83 => ?_)
                          · skip
                            obtain ⟨t_103, e_103⟩ : ∃ y : Int32, y = x4_64 + 1 := ⟨_, rfl⟩
                            have i15_t_103 : tq_iv 1 2147483647 t_103 := tq_w (tq_add e_103 i11_x4_64 (⟨by decide, by decide⟩ : tq_iv 1 1 1) (by decide) (by decide)) (by decide) (by decide)
                            refine lv_iinc (v := t_103) (lv' := [(4, .int t_103), (5, .int x5_79), (2, .int x2_79), (3, .int x3_49), (0, .ref h0), (1, .int x1)]) hx hb dX2_sharedReach_103 hl (k := 1) rfl (by rw [e_103]; rfl) (by decide) rfl (fun ls hl => ?_)
                            refine lv_goto (tgt := 64) hx hb dX2_sharedReach_106 (by decide) ?_
                            exact ih_64 t_103 x2_79 _ _ _ _ hS (tq_w i13_x2_79 (by decide) (by decide)) (tq_w i15_t_103 (by decide) (by decide)) (tq_up e_103 i11_x4_64 (⟨by decide, by decide⟩ : tq_iv 1 1 1) (by decide) (by decide) hn_64) (lv_sub hl [0, 2, 3, 4, 5] rfl)
                          · skip
                            have i16_x5_79 : tq_iv 0 2147483645 x5_79 := tq_cut i14_x5_79 (tq_ltL (tq_nle c_83) i14_x5_79 i11_x4_64) (by decide) (by decide)
                            have i17_x4_64 : tq_iv 1 2147483646 x4_64 := tq_cut i11_x4_64 (tq_ltR (tq_nle c_83) i14_x5_79 i11_x4_64) (by decide) (by decide)
                            refine lv_iload_n hx hb dX2_sharedReach_86 rfl (lv_at hl 2 rfl) ?_
                            refine lv_aload_n hx hb dX2_sharedReach_87 rfl (lv_at hl 4 rfl) ?_
                            refine lv_iload hx hb dX2_sharedReach_88 (lv_at hl 1 rfl) ?_
                            refine lv_iload hx hb dX2_sharedReach_90 (lv_at hl 0 rfl) ?_
                            refine tq_callVi (As := [.int x4_64, .int x5_79]) (rest := [.int x2_79]) hC (c_X2_handOn l X Z _ h0 z_h0 x4_64 x5_79) k_X2_handOn ql_RX2_123 (by decide) rfl (by decide) hS z_h0 rfl hl.1 rfl (Nat.le_of_ble_eq_true rfl) ⟨Nat.zero_le _, Nat.zero_le _⟩ dX2_sharedReach_92 (fun t_92 f1_92 H locs p_92 hS k_92 => ?_)
                            refine lv_ior hx hb dX2_sharedReach_95 ?_
                            refine lv_topi (fun t_95 e_95 => ?_)
                            have i18_t_95 : tq_iv 0 1 t_95 := tq_or e_95 i13_x2_79 p_92 1 (by decide) (by decide) (by decide) (by decide) (by decide)
                            refine lv_istore_n (lv' := [(2, .int t_95), (5, .int x5_79), (4, .int x4_64), (3, .int x3_49), (0, .ref h0), (1, .int x1)]) hx hb dX2_sharedReach_96 rfl hl (by decide) rfl (fun ls hl => ?_)
                            obtain ⟨t_97, e_97⟩ : ∃ y : Int32, y = x5_79 + 1 := ⟨_, rfl⟩
                            have i19_t_97 : tq_iv 1 2147483646 t_97 := tq_w (tq_add e_97 i16_x5_79 (⟨by decide, by decide⟩ : tq_iv 1 1 1) (by decide) (by decide)) (by decide) (by decide)
                            refine lv_iinc (v := t_97) (lv' := [(5, .int t_97), (2, .int t_95), (4, .int x4_64), (3, .int x3_49), (0, .ref h0), (1, .int x1)]) hx hb dX2_sharedReach_97 hl (k := 1) rfl (by rw [e_97]; rfl) (by decide) rfl (fun ls hl => ?_)
                            refine lv_goto (tgt := 79) hx hb dX2_sharedReach_100 (by decide) ?_
                            exact ih_79 t_97 t_95 _ _ _ _ hS (tq_w i18_t_95 (by decide) (by decide)) (tq_w i19_t_97 (by decide) (by decide)) (tq_up e_97 i16_x5_79 (⟨by decide, by decide⟩ : tq_iv 1 1 1) (by decide) (by decide) hn_79) (lv_sub hl [0, 2, 1, 3, 4, 5] rfl)
                      exact K_79 _ 0 x2_64 _ _ _ _ hS (tq_w i8_x2_64 (by decide) (by decide)) (tq_w (⟨by decide, by decide⟩ : tq_iv 0 0 0) (by decide) (by decide)) (Nat.lt_succ_self _) (lv_sub hl [0, 1, 2, 3, 4, 5] rfl)
                exact K_64 _ 0 0 _ _ _ _ hS (tq_w (⟨by decide, by decide⟩ : tq_iv 0 0 0) (by decide) (by decide)) (tq_w (⟨by decide, by decide⟩ : tq_iv 0 0 0) (by decide) (by decide)) (Nat.lt_succ_self _) (lv_sub hl [0, 1, 2, 3, 4] rfl)
        exact K_49 _ 0 1 _ _ _ _ hS (tq_w (⟨by decide, by decide⟩ : tq_iv 1 1 1) (by decide) (by decide)) (tq_w (⟨by decide, by decide⟩ : tq_iv 0 0 0) (by decide) (by decide)) (Nat.lt_succ_self _) (lv_sub hl [0, 1, 2, 3] rfl)
      refine lv_icmp_ge (tgt := 45) hx hb dX2_sharedReach_10 (by decide) (fun c_10 => ?_) (fun c_10 => ?_)
      · skip
        have i20_t_7 : tq_iv (-2147483648) 4 t_7 := tq_cut (tq_top t_7) (tq_leL c_10 (tq_top t_7) i1_x2_2) (by decide) (by decide)
        exact K_45 _ _ _ _ hS (lv_sub hl [1, 2] rfl)
      · skip
        have i21_t_7 : tq_iv 1 2147483647 t_7 := tq_cut (tq_top t_7) (tq_ltR (tq_nle c_10) i1_x2_2 (tq_top t_7)) (by decide) (by decide)
        refine lv_iload_n hx hb dX2_sharedReach_13 rfl (lv_at hl 0 rfl) ?_
        refine lv_iconst (v := 4) hx hb dX2_sharedReach_14 (by decide) ?_
        refine lv_icmp_ge (tgt := 45) hx hb dX2_sharedReach_15 (by decide) (fun c_15 => ?_) (fun c_15 => ?_)
        · skip
          have i22_x2_2 : tq_iv 4 4 x2_2 := tq_cut i1_x2_2 (tq_leR c_15 (⟨by decide, by decide⟩ : tq_iv 4 4 4) i1_x2_2) (by decide) (by decide)
          exact K_45 _ _ _ _ hS (lv_sub hl [1, 2] rfl)
        · skip
          have i23_x2_2 : tq_iv 0 3 x2_2 := tq_cut i1_x2_2 (tq_ltL (tq_nle c_15) i1_x2_2 (⟨by decide, by decide⟩ : tq_iv 4 4 4)) (by decide) (by decide)
          refine lv_aload_n hx hb dX2_sharedReach_18 rfl (lv_at hl 1 rfl) ?_
          refine gf_RX2_23 hC hS z_h0 dX2_sharedReach_19 (fun t_19 p_19 q_19 => ?_)
          refine lv_iload_n hx hb dX2_sharedReach_22 rfl (lv_at hl 0 rfl) ?_
          refine lv_aload_n hx hb dX2_sharedReach_23 rfl (lv_at hl 1 rfl) ?_
          refine gf_RX2_15 hC hS z_h0 dX2_sharedReach_24 (fun t_24 p_24 q_24 => ?_)
          refine lv_iload_n hx hb dX2_sharedReach_27 rfl (lv_at hl 0 rfl) ?_
          refine lv_aload_n hx hb dX2_sharedReach_28 rfl (lv_at hl 1 rfl) ?_
          refine gf_RX2_9 hC hS z_h0 dX2_sharedReach_29 (fun t_29 p_29 q_29 => ?_)
          refine gf_RX2_33 hC hS p_29 dX2_sharedReach_32 (fun t_32 p_32 q_32 => ?_)
          refine tq_callVpi (As := [.int x2_2, .int t_32]) (rest := [.int x2_2, .ref t_19]) hC (c_X7_heldBy l X Z _ t_24 p_24 x2_2 t_32) k_X7_heldBy ql_RX2_78 rfl (by decide) hS p_24 rfl hl.1 rfl (Nat.le_of_ble_eq_true rfl) ⟨Nat.zero_le _, Nat.zero_le _⟩ dX2_sharedReach_35 (fun t_35 p_35 => ?_)
          refine tq_iast hC hS p_19 rfl (tq_vin i23_x2_2 (by decide) (by decide)) trivial dX2_sharedReach_38 (fun f H locs hS k_38 => ?_)
          obtain ⟨t_39, e_39⟩ : ∃ y : Int32, y = x2_2 + 1 := ⟨_, rfl⟩
          have i24_t_39 : tq_iv 1 4 t_39 := tq_w (tq_add e_39 i23_x2_2 (⟨by decide, by decide⟩ : tq_iv 1 1 1) (by decide) (by decide)) (by decide) (by decide)
          refine lv_iinc (v := t_39) (lv' := [(2, .int t_39), (0, .ref h0), (1, .int x1)]) hx hb dX2_sharedReach_39 hl (k := 0) rfl (by rw [e_39]; rfl) (by decide) rfl (fun ls hl => ?_)
          refine lv_goto (tgt := 2) hx hb dX2_sharedReach_42 (by decide) ?_
          exact ih_2 t_39 _ _ _ _ hS (tq_w i24_t_39 (by decide) (by decide)) (tq_up e_39 i23_x2_2 (⟨by decide, by decide⟩ : tq_iv 1 1 1) (by decide) (by decide) hn_2) (lv_sub hl [0, 1, 2] rfl)
  exact K_2 _ 0 _ _ _ _ hS (tq_w (⟨by decide, by decide⟩ : tq_iv 0 0 0) (by decide) (by decide)) (Nat.lt_succ_self _) (lv_sub hl [0, 1, 2] rfl)
set_option maxHeartbeats 4000000 in
set_option maxRecDepth 100000 in
theorem c_X11_together (l : Launch) (X : tq_X) (Z : tq_Z) (f : Nat → va_E) (h0 : Nat) (z_h0 : tq_z Z h0 (.inl 11)) (x1 : Int32) : tq_M l X Z f [] yX11_together cX11_together 2 (some .int) 6 [.ref h0, .int x1] (tq_ri (-2147483648) 2147483647) := by
  refine tq_starti (by decide) (Nat.le_of_ble_eq_true rfl) (fun p e R s m args below meth c Q hC hret hS ls hl => ?_)
  have hC : tq_C p R s m args c X (tq_A Z) RX11 cX11_together 2 6 := hC
  have hx := hC.1.1
  have hb := hC.1.2.1
  have hown := hC.1.2.2.2.1
  have hts := hC.1.2.2.2.2
  have hl : lv_has ls 2 [(0, .ref h0), (1, .int x1)] := hl
  generalize hf0 : f = f0 at hret
  have hS : tq_S X Z (tq_A Z) s.heap f0 [] f s.heap [] := hf0 ▸ hS
  refine lv_aload_n hx hb dX11_together_0 rfl (lv_at hl 0 rfl) ?_
  refine gf_RX11_29 hC hS z_h0 dX11_together_1 (fun t_1 p_1 q_1 => ?_)
  refine lv_iload_n hx hb dX11_together_4 rfl (lv_at hl 1 rfl) ?_
  refine tq_callVpi (As := [.int x1]) (rest := []) hC (c_X3_hasPerson l X Z _ t_1 p_1 x1) k_X3_hasPerson ql_RX11_200 rfl (by decide) hS p_1 rfl hl.1 rfl (Nat.le_of_ble_eq_true rfl) ⟨Nat.zero_le _, Nat.zero_le _⟩ dX11_together_5 (fun t_5 p_5 => ?_)
  have K_23 : ∀ (y0_23 : Int32) (f : Nat → va_E) (H : Heap) (locs : List Loc) (ls : Array Slot), tq_S X Z (tq_A Z) s.heap f0 [] f H locs → lv_has ls 2 [] → W p l e R s m args below meth c H locs 0 0 Q (F0 m 23 ls [.int y0_23]) := by
    intro y0_23 f H locs ls  hS hl
    exact hret y0_23 _ _ _ _ _ rfl ⟨_, rfl, tq_w (tq_top y0_23) (by decide) (by decide)⟩ hS dX11_together_23
  refine lv_if_eq (tgt := 22) hx hb dX11_together_8 (by decide) (fun c_8 => ?_) (fun c_8 => ?_)
  · skip
    have i1_t_5 : tq_iv 0 0 t_5 := tq_cut p_5 (tq_eqL c_8 (⟨by decide, by decide⟩ : tq_iv 0 0 0)) (by decide) (by decide)
    refine lv_iconst (v := -1) hx hb dX11_together_22 (by decide) ?_
    exact K_23 (-1) _ _ _ _ hS (lv_sub hl [] rfl)
  · skip
    have i2_t_5 : tq_iv 1 1 t_5 := tq_w (tq_neLo c_8 p_5 (⟨by decide, by decide⟩ : tq_iv 0 0 0)) (by decide) (by decide)
    refine lv_aload_n hx hb dX11_together_11 rfl (lv_at hl 0 rfl) ?_
    refine gf_RX11_79 hC hS z_h0 dX11_together_12 (fun t_12 p_12 q_12 => ?_)
    refine lv_iload_n hx hb dX11_together_15 rfl (lv_at hl 1 rfl) ?_
    refine tq_callVi (As := [.int x1]) (rest := []) hC (c_X2_sharedReach l X Z _ t_12 p_12 x1) k_X2_sharedReach ql_RX11_365 (by decide) rfl (by decide) hS p_12 rfl hl.1 rfl (Nat.le_of_ble_eq_true rfl) ⟨Nat.zero_le _, Nat.zero_le _⟩ dX11_together_16 (fun t_16 f1_16 H locs p_16 hS k_16 => ?_)
    refine lv_goto (tgt := 23) hx hb dX11_together_19 (by decide) ?_
    exact K_23 t_16 _ _ _ _ hS (lv_sub hl [] rfl)
set_option maxHeartbeats 4000000 in
set_option maxRecDepth 100000 in
theorem c_X11_comers (l : Launch) (X : tq_X) (Z : tq_Z) (f : Nat → va_E) (h0 : Nat) (z_h0 : tq_z Z h0 (.inl 11)) (x1 : Int32) : tq_Mp l X Z f yX11_comers cX11_comers 4 (some .int) 5 [.ref h0, .int x1] (tq_ri (-2147483648) 2147483647) := by
  refine tq_startip (by decide) (Nat.le_of_ble_eq_true rfl) (fun p e R s m args below meth c Q hC hret hS ls hl => ?_)
  have hC : tq_C p R s m args c X (tq_A Z) RX11 cX11_comers 4 5 := hC
  have hx := hC.1.1
  have hb := hC.1.2.1
  have hown := hC.1.2.2.2.1
  have hts := hC.1.2.2.2.2
  have hl : lv_has ls 4 [(0, .ref h0), (1, .int x1)] := hl
  refine lv_aload_n hx hb dX11_comers_0 rfl (lv_at hl 0 rfl) ?_
  refine gf_RX11_29 hC hS z_h0 dX11_comers_1 (fun t_1 p_1 q_1 => ?_)
  refine lv_iload_n hx hb dX11_comers_4 rfl (lv_at hl 1 rfl) ?_
  refine tq_callVpi (As := [.int x1]) (rest := []) hC (c_X3_hasRoom l X Z _ t_1 p_1 x1) k_X3_hasRoom ql_RX11_356 rfl (by decide) hS p_1 rfl hl.1 rfl (Nat.le_of_ble_eq_true rfl) ⟨Nat.zero_le _, Nat.zero_le _⟩ dX11_comers_5 (fun t_5 p_5 => ?_)
  refine lv_if_ne (tgt := 13) hx hb dX11_comers_8 (by decide) (fun c_8 => ?_) (fun c_8 => ?_)
  · skip
    have i1_t_5 : tq_iv 1 1 t_5 := tq_w (tq_neLo c_8 p_5 (⟨by decide, by decide⟩ : tq_iv 0 0 0)) (by decide) (by decide)
    refine lv_iconst (v := 0) hx hb dX11_comers_13 (by decide) ?_
    refine lv_istore_n (lv' := [(2, .int 0), (0, .ref h0), (1, .int x1)]) hx hb dX11_comers_14 rfl hl (by decide) rfl (fun ls hl => ?_)
    refine lv_iconst (v := 0) hx hb dX11_comers_15 (by decide) ?_
    refine lv_istore_n (lv' := [(3, .int 0), (2, .int 0), (0, .ref h0), (1, .int x1)]) hx hb dX11_comers_16 rfl hl (by decide) rfl (fun ls hl => ?_)
    have K_17 : ∀ (n_17 : Nat) (x3_17 : Int32) (x2_17 : Int32) (ls : Array Slot), tq_iv 0 2147483647 x3_17 → (2147483647 - x3_17.toInt).toNat < n_17 → lv_has ls 4 [(3, .int x3_17), (2, .int x2_17), (0, .ref h0), (1, .int x1)] → W p l e R s m args below meth c s.heap [] 0 0 Q (F0 m 17 ls []) := by
      intro n_17
      induction n_17 with
      | zero => intro x3_17 x2_17 ls  i2_x3_17 hn_17; exact absurd hn_17 (Nat.not_lt_zero _)
      | succ n_17 ih_17 =>
        intro x3_17 x2_17 ls  i2_x3_17 hn_17 hl
        refine lv_iload_n hx hb dX11_comers_17 rfl (lv_at hl 0 rfl) ?_
        refine lv_aload_n hx hb dX11_comers_18 rfl (lv_at hl 2 rfl) ?_
        refine gf_RX11_29 hC hS z_h0 dX11_comers_19 (fun t_19 p_19 q_19 => ?_)
        refine gf_RX11_368 hC hS p_19 dX11_comers_22 (fun t_22 p_22 q_22 => ?_)
        refine lv_icmp_ge (tgt := 55) hx hb dX11_comers_25 (by decide) (fun c_25 => ?_) (fun c_25 => ?_)
        · skip
          refine lv_iload_n hx hb dX11_comers_55 rfl (lv_at hl 1 rfl) ?_
          exact hret x2_17 _ _ rfl ⟨_, rfl, tq_w (tq_top x2_17) (by decide) (by decide)⟩ dX11_comers_56
        · skip
          have i3_x3_17 : tq_iv 0 2147483646 x3_17 := tq_cut i2_x3_17 (tq_ltL (tq_nle c_25) i2_x3_17 (tq_top t_22)) (by decide) (by decide)
          have i4_t_22 : tq_iv 1 2147483647 t_22 := tq_cut (tq_top t_22) (tq_ltR (tq_nle c_25) i2_x3_17 (tq_top t_22)) (by decide) (by decide)
          refine lv_aload_n hx hb dX11_comers_28 rfl (lv_at hl 2 rfl) ?_
          refine gf_RX11_79 hC hS z_h0 dX11_comers_29 (fun t_29 p_29 q_29 => ?_)
          refine lv_iload_n hx hb dX11_comers_32 rfl (lv_at hl 0 rfl) ?_
          refine tq_callVpi (As := [.int x3_17]) (rest := []) hC (c_X2_reachOf l X Z _ t_29 p_29 x3_17) k_X2_reachOf ql_RX11_209 rfl (by decide) hS p_29 rfl hl.1 rfl (Nat.le_of_ble_eq_true rfl) ⟨Nat.zero_le _, Nat.zero_le _⟩ dX11_comers_33 (fun t_33 p_33 => ?_)
          refine lv_iload_n hx hb dX11_comers_36 rfl (lv_at hl 3 rfl) ?_
          refine lv_ishr hx hb dX11_comers_37 ?_
          refine lv_topi (fun t_37 e_37 => ?_)
          refine lv_iconst (v := 1) hx hb dX11_comers_38 (by decide) ?_
          refine lv_iand hx hb dX11_comers_39 ?_
          refine lv_topi (fun t_39 e_39 => ?_)
          have i5_t_39 : tq_iv 0 1 t_39 := tq_and2 e_39 (⟨by decide, by decide⟩ : tq_iv 1 1 1) (by decide)
          have K_49 : ∀ (x2_49 : Int32) (ls : Array Slot), lv_has ls 4 [(3, .int x3_17), (2, .int x2_49), (0, .ref h0), (1, .int x1)] → W p l e R s m args below meth c s.heap [] 0 0 Q (F0 m 49 ls []) := by
            intro x2_49 ls  hl
            obtain ⟨t_49, e_49⟩ : ∃ y : Int32, y = x3_17 + 1 := ⟨_, rfl⟩
            have i6_t_49 : tq_iv 1 2147483647 t_49 := tq_w (tq_add e_49 i3_x3_17 (⟨by decide, by decide⟩ : tq_iv 1 1 1) (by decide) (by decide)) (by decide) (by decide)
            refine lv_iinc (v := t_49) (lv' := [(3, .int t_49), (2, .int x2_49), (0, .ref h0), (1, .int x1)]) hx hb dX11_comers_49 hl (k := 0) rfl (by rw [e_49]; rfl) (by decide) rfl (fun ls hl => ?_)
            refine lv_goto (tgt := 17) hx hb dX11_comers_52 (by decide) ?_
            exact ih_17 t_49 x2_49 _ (tq_w i6_t_49 (by decide) (by decide)) (tq_up e_49 i3_x3_17 (⟨by decide, by decide⟩ : tq_iv 1 1 1) (by decide) (by decide) hn_17) (lv_sub hl [0, 1, 2, 3] rfl)
          refine lv_if_eq (tgt := 49) hx hb dX11_comers_40 (by decide) (fun c_40 => ?_) (fun c_40 => ?_)
          · skip
            have i7_t_39 : tq_iv 0 0 t_39 := tq_cut i5_t_39 (tq_eqL c_40 (⟨by decide, by decide⟩ : tq_iv 0 0 0)) (by decide) (by decide)
            exact K_49 x2_17 _ (lv_sub hl [0, 1, 2, 3] rfl)
          · skip
            have i8_t_39 : tq_iv 1 1 t_39 := tq_w (tq_neLo c_40 i5_t_39 (⟨by decide, by decide⟩ : tq_iv 0 0 0)) (by decide) (by decide)
            refine lv_iload_n hx hb dX11_comers_43 rfl (lv_at hl 1 rfl) ?_
            refine lv_iconst (v := 1) hx hb dX11_comers_44 (by decide) ?_
            refine lv_iload_n hx hb dX11_comers_45 rfl (lv_at hl 0 rfl) ?_
            refine lv_ishl hx hb dX11_comers_46 ?_
            refine lv_topi (fun t_46 e_46 => ?_)
            refine lv_ior hx hb dX11_comers_47 ?_
            refine lv_topi (fun t_47 e_47 => ?_)
            refine lv_istore_n (lv' := [(2, .int t_47), (3, .int x3_17), (0, .ref h0), (1, .int x1)]) hx hb dX11_comers_48 rfl hl (by decide) rfl (fun ls hl => ?_)
            exact K_49 t_47 _ (lv_sub hl [1, 0, 2, 3] rfl)
    exact K_17 _ 0 0 _ (tq_w (⟨by decide, by decide⟩ : tq_iv 0 0 0) (by decide) (by decide)) (Nat.lt_succ_self _) (lv_sub hl [0, 1, 2, 3] rfl)
  · skip
    have i9_t_5 : tq_iv 0 0 t_5 := tq_cut p_5 (tq_eqL c_8 (⟨by decide, by decide⟩ : tq_iv 0 0 0)) (by decide) (by decide)
    refine lv_iconst (v := -1) hx hb dX11_comers_11 (by decide) ?_
    exact hret (-1) _ _ rfl ⟨_, rfl, tq_w (⟨by decide, by decide⟩ : tq_iv (-1) (-1) (-1)) (by decide) (by decide)⟩ dX11_comers_12
set_option maxHeartbeats 4000000 in
set_option maxRecDepth 100000 in
theorem c_X2_exchange (l : Launch) (X : tq_X) (Z : tq_Z) (f : Nat → va_E) (h0 : Nat) (z_h0 : tq_z Z h0 (.inl 2)) (x1 : Int32) (x2 : Int32) : tq_Mp l X Z f yX2_exchange cX2_exchange 11 (some .int) 4 [.ref h0, .int x1, .int x2] (tq_ri (-2147483648) 2147483647) := by
  refine tq_startip (by decide) (Nat.le_of_ble_eq_true rfl) (fun p e R s m args below meth c Q hC hret hS ls hl => ?_)
  have hC : tq_C p R s m args c X (tq_A Z) RX2 cX2_exchange 11 4 := hC
  have hx := hC.1.1
  have hb := hC.1.2.1
  have hown := hC.1.2.2.2.1
  have hts := hC.1.2.2.2.2
  have hl : lv_has ls 11 [(0, .ref h0), (1, .int x1), (2, .int x2)] := hl
  refine lv_aload_n hx hb dX2_exchange_0 rfl (lv_at hl 0 rfl) ?_
  refine gf_RX2_15 hC hS z_h0 dX2_exchange_1 (fun t_1 p_1 q_1 => ?_)
  refine lv_iload_n hx hb dX2_exchange_4 rfl (lv_at hl 1 rfl) ?_
  refine lv_aload_n hx hb dX2_exchange_5 rfl (lv_at hl 0 rfl) ?_
  refine gf_RX2_9 hC hS z_h0 dX2_exchange_6 (fun t_6 p_6 q_6 => ?_)
  refine gf_RX2_33 hC hS p_6 dX2_exchange_9 (fun t_9 p_9 q_9 => ?_)
  refine tq_callVpi (As := [.int x1, .int t_9]) (rest := []) hC (c_X7_heldBy l X Z _ t_1 p_1 x1 t_9) k_X7_heldBy ql_RX2_78 rfl (by decide) hS p_1 rfl hl.1 rfl (Nat.le_of_ble_eq_true rfl) ⟨Nat.zero_le _, Nat.zero_le _⟩ dX2_exchange_12 (fun t_12 p_12 => ?_)
  refine lv_istore_n (lv' := [(3, .int t_12), (0, .ref h0), (1, .int x1), (2, .int x2)]) hx hb dX2_exchange_15 rfl hl (by decide) rfl (fun ls hl => ?_)
  refine lv_aload_n hx hb dX2_exchange_16 rfl (lv_at hl 1 rfl) ?_
  refine gf_RX2_15 hC hS z_h0 dX2_exchange_17 (fun t_17 p_17 q_17 => ?_)
  refine lv_iload_n hx hb dX2_exchange_20 rfl (lv_at hl 3 rfl) ?_
  refine lv_aload_n hx hb dX2_exchange_21 rfl (lv_at hl 1 rfl) ?_
  refine gf_RX2_9 hC hS z_h0 dX2_exchange_22 (fun t_22 p_22 q_22 => ?_)
  refine gf_RX2_33 hC hS p_22 dX2_exchange_25 (fun t_25 p_25 q_25 => ?_)
  refine tq_callVpi (As := [.int x2, .int t_25]) (rest := []) hC (c_X7_heldBy l X Z _ t_17 p_17 x2 t_25) k_X7_heldBy ql_RX2_78 rfl (by decide) hS p_17 rfl hl.1 rfl (Nat.le_of_ble_eq_true rfl) ⟨Nat.zero_le _, Nat.zero_le _⟩ dX2_exchange_28 (fun t_28 p_28 => ?_)
  refine lv_istore (lv' := [(4, .int t_28), (3, .int t_12), (0, .ref h0), (1, .int x1), (2, .int x2)]) hx hb dX2_exchange_31 hl (by decide) rfl (fun ls hl => ?_)
  refine lv_aload_n hx hb dX2_exchange_33 rfl (lv_at hl 2 rfl) ?_
  refine lv_iload_n hx hb dX2_exchange_34 rfl (lv_at hl 3 rfl) ?_
  refine lv_iload_n hx hb dX2_exchange_35 rfl (lv_at hl 1 rfl) ?_
  refine tq_callVpi (As := [.int x1, .int t_12]) (rest := []) hC (c_X2_reachWith l X Z _ h0 z_h0 x1 t_12) k_X2_reachWith ql_RX2_81 rfl (by decide) hS z_h0 rfl hl.1 rfl (Nat.le_of_ble_eq_true rfl) ⟨Nat.zero_le _, Nat.zero_le _⟩ dX2_exchange_36 (fun t_36 p_36 => ?_)
  refine tq_callSpi (As := [.int t_36]) (rest := []) hC (c_J6_bitCount_0f7a4 l X Z _ t_36) k_J6_bitCount_0f7a4 ql_RX2_115 rfl (by decide) hS hl.1 rfl (Nat.le_of_ble_eq_true rfl) ⟨Nat.zero_le _, Nat.zero_le _⟩ dX2_exchange_39 (fun t_39 p_39 => ?_)
  refine lv_istore (lv' := [(5, .int t_39), (4, .int t_28), (3, .int t_12), (0, .ref h0), (1, .int x1), (2, .int x2)]) hx hb dX2_exchange_42 hl (by decide) rfl (fun ls hl => ?_)
  refine lv_aload_n hx hb dX2_exchange_44 rfl (lv_at hl 3 rfl) ?_
  refine lv_iload_n hx hb dX2_exchange_45 rfl (lv_at hl 5 rfl) ?_
  refine lv_iload hx hb dX2_exchange_46 (lv_at hl 1 rfl) ?_
  refine tq_callVpi (As := [.int x2, .int t_28]) (rest := []) hC (c_X2_reachWith l X Z _ h0 z_h0 x2 t_28) k_X2_reachWith ql_RX2_81 rfl (by decide) hS z_h0 rfl hl.1 rfl (Nat.le_of_ble_eq_true rfl) ⟨Nat.zero_le _, Nat.zero_le _⟩ dX2_exchange_48 (fun t_48 p_48 => ?_)
  refine tq_callSpi (As := [.int t_48]) (rest := []) hC (c_J6_bitCount_0f7a4 l X Z _ t_48) k_J6_bitCount_0f7a4 ql_RX2_115 rfl (by decide) hS hl.1 rfl (Nat.le_of_ble_eq_true rfl) ⟨Nat.zero_le _, Nat.zero_le _⟩ dX2_exchange_51 (fun t_51 p_51 => ?_)
  refine lv_istore (lv' := [(6, .int t_51), (5, .int t_39), (4, .int t_28), (3, .int t_12), (0, .ref h0), (1, .int x1), (2, .int x2)]) hx hb dX2_exchange_54 hl (by decide) rfl (fun ls hl => ?_)
  refine lv_iconst (v := 0) hx hb dX2_exchange_56 (by decide) ?_
  refine lv_istore (lv' := [(7, .int 0), (6, .int t_51), (5, .int t_39), (4, .int t_28), (3, .int t_12), (0, .ref h0), (1, .int x1), (2, .int x2)]) hx hb dX2_exchange_57 hl (by decide) rfl (fun ls hl => ?_)
  have K_59 : ∀ (n_59 : Nat) (x7_59 : Int32) (ls : Array Slot), tq_iv 0 8 x7_59 → (2147483647 - x7_59.toInt).toNat < n_59 → lv_has ls 11 [(7, .int x7_59), (6, .int t_51), (5, .int t_39), (4, .int t_28), (3, .int t_12), (0, .ref h0), (1, .int x1), (2, .int x2)] → W p l e R s m args below meth c s.heap [] 0 0 Q (F0 m 59 ls []) := by
    intro n_59
    induction n_59 with
    | zero => intro x7_59 ls  i1_x7_59 hn_59; exact absurd hn_59 (Nat.not_lt_zero _)
    | succ n_59 ih_59 =>
      intro x7_59 ls  i1_x7_59 hn_59 hl
      refine lv_iload hx hb dX2_exchange_59 (lv_at hl 0 rfl) ?_
      refine lv_aload_n hx hb dX2_exchange_61 rfl (lv_at hl 5 rfl) ?_
      refine gf_RX2_9 hC hS z_h0 dX2_exchange_62 (fun t_62 p_62 q_62 => ?_)
      refine gf_RX2_33 hC hS p_62 dX2_exchange_65 (fun t_65 p_65 q_65 => ?_)
      refine lv_icmp_ge (tgt := 184) hx hb dX2_exchange_68 (by decide) (fun c_68 => ?_) (fun c_68 => ?_)
      · skip
        refine lv_iconst (v := -1) hx hb dX2_exchange_184 (by decide) ?_
        exact hret (-1) _ _ rfl ⟨_, rfl, tq_w (⟨by decide, by decide⟩ : tq_iv (-1) (-1) (-1)) (by decide) (by decide)⟩ dX2_exchange_185
      · skip
        have i2_x7_59 : tq_iv 0 7 x7_59 := tq_cut i1_x7_59 (tq_ltL (tq_nle c_68) i1_x7_59 p_65) (by decide) (by decide)
        have i3_t_65 : tq_iv 1 8 t_65 := tq_cut p_65 (tq_ltR (tq_nle c_68) i1_x7_59 p_65) (by decide) (by decide)
        refine lv_iconst (v := 0) hx hb dX2_exchange_71 (by decide) ?_
        refine lv_istore (lv' := [(8, .int 0), (7, .int x7_59), (6, .int t_51), (5, .int t_39), (4, .int t_28), (3, .int t_12), (0, .ref h0), (1, .int x1), (2, .int x2)]) hx hb dX2_exchange_72 hl (by decide) rfl (fun ls hl => ?_)
        have K_74 : ∀ (n_74 : Nat) (x8_74 : Int32) (ls : Array Slot), tq_iv 0 8 x8_74 → (2147483647 - x8_74.toInt).toNat < n_74 → lv_has ls 11 [(8, .int x8_74), (7, .int x7_59), (6, .int t_51), (5, .int t_39), (4, .int t_28), (3, .int t_12), (0, .ref h0), (1, .int x1), (2, .int x2)] → W p l e R s m args below meth c s.heap [] 0 0 Q (F0 m 74 ls []) := by
          intro n_74
          induction n_74 with
          | zero => intro x8_74 ls  i4_x8_74 hn_74; exact absurd hn_74 (Nat.not_lt_zero _)
          | succ n_74 ih_74 =>
            intro x8_74 ls  i4_x8_74 hn_74 hl
            refine lv_iload hx hb dX2_exchange_74 (lv_at hl 0 rfl) ?_
            refine lv_aload_n hx hb dX2_exchange_76 rfl (lv_at hl 6 rfl) ?_
            refine gf_RX2_9 hC hS z_h0 dX2_exchange_77 (fun t_77 p_77 q_77 => ?_)
            refine gf_RX2_33 hC hS p_77 dX2_exchange_80 (fun t_80 p_80 q_80 => ?_)
            refine lv_icmp_ge (tgt := 178) hx hb dX2_exchange_83 (by decide) (fun c_83 => ?_) (fun c_83 => ?_)
            · skip
              obtain ⟨t_178, e_178⟩ : ∃ y : Int32, y = x7_59 + 1 := ⟨_, rfl⟩
              have i5_t_178 : tq_iv 1 8 t_178 := tq_w (tq_add e_178 i2_x7_59 (⟨by decide, by decide⟩ : tq_iv 1 1 1) (by decide) (by decide)) (by decide) (by decide)
              refine lv_iinc (v := t_178) (lv' := [(7, .int t_178), (8, .int x8_74), (6, .int t_51), (5, .int t_39), (4, .int t_28), (3, .int t_12), (0, .ref h0), (1, .int x1), (2, .int x2)]) hx hb dX2_exchange_178 hl (k := 1) rfl (by rw [e_178]; rfl) (by decide) rfl (fun ls hl => ?_)
              refine lv_goto (tgt := 59) hx hb dX2_exchange_181 (by decide) ?_
              exact ih_59 t_178 _ (tq_w i5_t_178 (by decide) (by decide)) (tq_up e_178 i2_x7_59 (⟨by decide, by decide⟩ : tq_iv 1 1 1) (by decide) (by decide) hn_59) (lv_sub hl [0, 2, 3, 4, 5, 6, 7, 8] rfl)
            · skip
              have i6_x8_74 : tq_iv 0 7 x8_74 := tq_cut i4_x8_74 (tq_ltL (tq_nle c_83) i4_x8_74 p_80) (by decide) (by decide)
              have i7_t_80 : tq_iv 1 8 t_80 := tq_cut p_80 (tq_ltR (tq_nle c_83) i4_x8_74 p_80) (by decide) (by decide)
              refine lv_iconst (v := 1) hx hb dX2_exchange_86 (by decide) ?_
              refine lv_iload hx hb dX2_exchange_87 (lv_at hl 1 rfl) ?_
              refine lv_ishl hx hb dX2_exchange_89 ?_
              refine lv_topi (fun t_89 e_89 => ?_)
              have i8_t_89 : tq_iv 1 128 t_89 := tq_shl1 e_89 i2_x7_59 (by decide) (by decide) (by decide) (by decide)
              refine lv_iconst (v := 1) hx hb dX2_exchange_90 (by decide) ?_
              refine lv_iload hx hb dX2_exchange_91 (lv_at hl 0 rfl) ?_
              refine lv_ishl hx hb dX2_exchange_93 ?_
              refine lv_topi (fun t_93 e_93 => ?_)
              have i9_t_93 : tq_iv 1 128 t_93 := tq_shl1 e_93 i6_x8_74 (by decide) (by decide) (by decide) (by decide)
              refine lv_ior hx hb dX2_exchange_94 ?_
              refine lv_topi (fun t_94 e_94 => ?_)
              have i10_t_94 : tq_iv 0 255 t_94 := tq_or e_94 i8_t_89 i9_t_93 8 (by decide) (by decide) (by decide) (by decide) (by decide)
              refine lv_istore (lv' := [(9, .int t_94), (8, .int x8_74), (7, .int x7_59), (6, .int t_51), (5, .int t_39), (4, .int t_28), (3, .int t_12), (0, .ref h0), (1, .int x1), (2, .int x2)]) hx hb dX2_exchange_95 hl (by decide) rfl (fun ls hl => ?_)
              refine lv_iload_n hx hb dX2_exchange_97 rfl (lv_at hl 6 rfl) ?_
              refine lv_iload hx hb dX2_exchange_98 (lv_at hl 2 rfl) ?_
              refine lv_ishr hx hb dX2_exchange_100 ?_
              refine lv_topi (fun t_100 e_100 => ?_)
              refine lv_iconst (v := 1) hx hb dX2_exchange_101 (by decide) ?_
              refine lv_iand hx hb dX2_exchange_102 ?_
              refine lv_topi (fun t_102 e_102 => ?_)
              have i11_t_102 : tq_iv 0 1 t_102 := tq_and2 e_102 (⟨by decide, by decide⟩ : tq_iv 1 1 1) (by decide)
              have K_121 : ∀ (y0_121 : Int32) (ls : Array Slot), tq_iv 0 1 y0_121 → lv_has ls 11 [(9, .int t_94), (8, .int x8_74), (7, .int x7_59), (6, .int t_51), (5, .int t_39), (4, .int t_28), (3, .int t_12), (0, .ref h0), (1, .int x1), (2, .int x2)] → W p l e R s m args below meth c s.heap [] 0 0 Q (F0 m 121 ls [.int y0_121]) := by
                intro y0_121 ls  i12_y0_121 hl
                refine lv_istore (lv' := [(10, .int y0_121), (9, .int t_94), (8, .int x8_74), (7, .int x7_59), (6, .int t_51), (5, .int t_39), (4, .int t_28), (3, .int t_12), (0, .ref h0), (1, .int x1), (2, .int x2)]) hx hb dX2_exchange_121 hl (by decide) rfl (fun ls hl => ?_)
                refine lv_iload hx hb dX2_exchange_123 (lv_at hl 0 rfl) ?_
                have K_172 : ∀ (ls : Array Slot), lv_has ls 11 [(8, .int x8_74), (7, .int x7_59), (6, .int t_51), (5, .int t_39), (4, .int t_28), (3, .int t_12), (0, .ref h0), (1, .int x1), (2, .int x2)] → W p l e R s m args below meth c s.heap [] 0 0 Q (F0 m 172 ls []) := by
                  intro  ls  hl
                  obtain ⟨t_172, e_172⟩ : ∃ y : Int32, y = x8_74 + 1 := ⟨_, rfl⟩
                  have i13_t_172 : tq_iv 1 8 t_172 := tq_w (tq_add e_172 i6_x8_74 (⟨by decide, by decide⟩ : tq_iv 1 1 1) (by decide) (by decide)) (by decide) (by decide)
                  refine lv_iinc (v := t_172) (lv' := [(8, .int t_172), (7, .int x7_59), (6, .int t_51), (5, .int t_39), (4, .int t_28), (3, .int t_12), (0, .ref h0), (1, .int x1), (2, .int x2)]) hx hb dX2_exchange_172 hl (k := 0) rfl (by rw [e_172]; rfl) (by decide) rfl (fun ls hl => ?_)
                  refine lv_goto (tgt := 74) hx hb dX2_exchange_175 (by decide) ?_
                  exact ih_74 t_172 _ (tq_w i13_t_172 (by decide) (by decide)) (tq_up e_172 i6_x8_74 (⟨by decide, by decide⟩ : tq_iv 1 1 1) (by decide) (by decide) hn_74) (lv_sub hl [0, 1, 2, 3, 4, 5, 6, 7, 8] rfl)
                refine lv_if_eq (tgt := 172) hx hb dX2_exchange_125 (by decide) (fun c_125 => ?_) (fun c_125 => ?_)
                · skip
                  have i14_y0_121 : tq_iv 0 0 y0_121 := tq_cut i12_y0_121 (tq_eqL c_125 (⟨by decide, by decide⟩ : tq_iv 0 0 0)) (by decide) (by decide)
                  exact K_172 _ (lv_sub hl [2, 3, 4, 5, 6, 7, 8, 9, 10] rfl)
                · skip
                  have i15_y0_121 : tq_iv 1 1 y0_121 := tq_w (tq_neLo c_125 i12_y0_121 (⟨by decide, by decide⟩ : tq_iv 0 0 0)) (by decide) (by decide)
                  refine lv_aload_n hx hb dX2_exchange_128 rfl (lv_at hl 8 rfl) ?_
                  refine lv_iload_n hx hb dX2_exchange_129 rfl (lv_at hl 9 rfl) ?_
                  refine lv_iload_n hx hb dX2_exchange_130 rfl (lv_at hl 7 rfl) ?_
                  refine lv_iload hx hb dX2_exchange_131 (lv_at hl 1 rfl) ?_
                  refine lv_ixor hx hb dX2_exchange_133 ?_
                  refine lv_topi (fun t_133 e_133 => ?_)
                  refine tq_callVpi (As := [.int x1, .int t_133]) (rest := []) hC (c_X2_reachWith l X Z _ h0 z_h0 x1 t_133) k_X2_reachWith ql_RX2_81 rfl (by decide) hS z_h0 rfl hl.1 rfl (Nat.le_of_ble_eq_true rfl) ⟨Nat.zero_le _, Nat.zero_le _⟩ dX2_exchange_134 (fun t_134 p_134 => ?_)
                  refine tq_callSpi (As := [.int t_134]) (rest := []) hC (c_J6_bitCount_0f7a4 l X Z _ t_134) k_J6_bitCount_0f7a4 ql_RX2_115 rfl (by decide) hS hl.1 rfl (Nat.le_of_ble_eq_true rfl) ⟨Nat.zero_le _, Nat.zero_le _⟩ dX2_exchange_137 (fun t_137 p_137 => ?_)
                  refine lv_iload hx hb dX2_exchange_140 (lv_at hl 5 rfl) ?_
                  refine lv_icmp_le (tgt := 172) hx hb dX2_exchange_142 (by decide) (fun c_142 => ?_) (fun c_142 => ?_)
                  · skip
                    exact K_172 _ (lv_sub hl [2, 3, 4, 5, 6, 7, 8, 9, 10] rfl)
                  · skip
                    have i16_t_39 : tq_iv 0 62 t_39 := tq_cut p_39 (tq_ltL (tq_nle c_142) p_39 p_137) (by decide) (by decide)
                    have i17_t_137 : tq_iv 1 63 t_137 := tq_cut p_137 (tq_ltR (tq_nle c_142) p_39 p_137) (by decide) (by decide)
                    refine lv_aload_n hx hb dX2_exchange_145 rfl (lv_at hl 8 rfl) ?_
                    refine lv_iload_n hx hb dX2_exchange_146 rfl (lv_at hl 10 rfl) ?_
                    refine lv_iload hx hb dX2_exchange_147 (lv_at hl 6 rfl) ?_
                    refine lv_iload hx hb dX2_exchange_149 (lv_at hl 1 rfl) ?_
                    refine lv_ixor hx hb dX2_exchange_151 ?_
                    refine lv_topi (fun t_151 e_151 => ?_)
                    refine tq_callVpi (As := [.int x2, .int t_151]) (rest := []) hC (c_X2_reachWith l X Z _ h0 z_h0 x2 t_151) k_X2_reachWith ql_RX2_81 rfl (by decide) hS z_h0 rfl hl.1 rfl (Nat.le_of_ble_eq_true rfl) ⟨Nat.zero_le _, Nat.zero_le _⟩ dX2_exchange_152 (fun t_152 p_152 => ?_)
                    refine tq_callSpi (As := [.int t_152]) (rest := []) hC (c_J6_bitCount_0f7a4 l X Z _ t_152) k_J6_bitCount_0f7a4 ql_RX2_115 rfl (by decide) hS hl.1 rfl (Nat.le_of_ble_eq_true rfl) ⟨Nat.zero_le _, Nat.zero_le _⟩ dX2_exchange_155 (fun t_155 p_155 => ?_)
                    refine lv_iload hx hb dX2_exchange_158 (lv_at hl 4 rfl) ?_
                    refine lv_icmp_le (tgt := 172) hx hb dX2_exchange_160 (by decide) (fun c_160 => ?_) (fun c_160 => ?_)
                    · skip
                      exact K_172 _ (lv_sub hl [2, 3, 4, 5, 6, 7, 8, 9, 10] rfl)
                    · skip
                      have i18_t_51 : tq_iv 0 62 t_51 := tq_cut p_51 (tq_ltL (tq_nle c_160) p_51 p_155) (by decide) (by decide)
                      have i19_t_155 : tq_iv 1 63 t_155 := tq_cut p_155 (tq_ltR (tq_nle c_160) p_51 p_155) (by decide) (by decide)
                      refine lv_iload hx hb dX2_exchange_163 (lv_at hl 3 rfl) ?_
                      refine lv_bipush (v := 8) hx hb dX2_exchange_165 (by decide) ?_
                      refine lv_imul hx hb dX2_exchange_167 ?_
                      refine lv_topi (fun t_167 e_167 => ?_)
                      refine lv_iload hx hb dX2_exchange_168 (lv_at hl 2 rfl) ?_
                      refine lv_iadd hx hb dX2_exchange_170 ?_
                      refine lv_topi (fun t_170 e_170 => ?_)
                      exact hret t_170 _ _ rfl ⟨_, rfl, tq_w (tq_top t_170) (by decide) (by decide)⟩ dX2_exchange_171
              have K_120 : ∀ (ls : Array Slot), lv_has ls 11 [(9, .int t_94), (8, .int x8_74), (7, .int x7_59), (6, .int t_51), (5, .int t_39), (4, .int t_28), (3, .int t_12), (0, .ref h0), (1, .int x1), (2, .int x2)] → W p l e R s m args below meth c s.heap [] 0 0 Q (F0 m 120 ls []) := by
                intro  ls  hl
                refine lv_iconst (v := 0) hx hb dX2_exchange_120 (by decide) ?_
                exact K_121 0 _ (tq_w (⟨by decide, by decide⟩ : tq_iv 0 0 0) (by decide) (by decide)) (lv_sub hl [0, 1, 2, 3, 4, 5, 6, 7, 8, 9] rfl)
              refine lv_if_eq (tgt := 120) hx hb dX2_exchange_103 (by decide) (fun c_103 => ?_) (fun c_103 => ?_)
              · skip
                have i20_t_102 : tq_iv 0 0 t_102 := tq_cut i11_t_102 (tq_eqL c_103 (⟨by decide, by decide⟩ : tq_iv 0 0 0)) (by decide) (by decide)
                exact K_120 _ (lv_sub hl [0, 1, 2, 3, 4, 5, 6, 7, 8, 9] rfl)
              · skip
                have i21_t_102 : tq_iv 1 1 t_102 := tq_w (tq_neLo c_103 i11_t_102 (⟨by decide, by decide⟩ : tq_iv 0 0 0)) (by decide) (by decide)
                refine lv_iload hx hb dX2_exchange_106 (lv_at hl 5 rfl) ?_
                refine lv_iload hx hb dX2_exchange_108 (lv_at hl 1 rfl) ?_
                refine lv_ishr hx hb dX2_exchange_110 ?_
                refine lv_topi (fun t_110 e_110 => ?_)
                refine lv_iconst (v := 1) hx hb dX2_exchange_111 (by decide) ?_
                refine lv_iand hx hb dX2_exchange_112 ?_
                refine lv_topi (fun t_112 e_112 => ?_)
                have i22_t_112 : tq_iv 0 1 t_112 := tq_and2 e_112 (⟨by decide, by decide⟩ : tq_iv 1 1 1) (by decide)
                refine lv_if_eq (tgt := 120) hx hb dX2_exchange_113 (by decide) (fun c_113 => ?_) (fun c_113 => ?_)
                · skip
                  have i23_t_112 : tq_iv 0 0 t_112 := tq_cut i22_t_112 (tq_eqL c_113 (⟨by decide, by decide⟩ : tq_iv 0 0 0)) (by decide) (by decide)
                  exact K_120 _ (lv_sub hl [0, 1, 2, 3, 4, 5, 6, 7, 8, 9] rfl)
                · skip
                  have i24_t_112 : tq_iv 1 1 t_112 := tq_w (tq_neLo c_113 i22_t_112 (⟨by decide, by decide⟩ : tq_iv 0 0 0)) (by decide) (by decide)
                  refine lv_iconst (v := 1) hx hb dX2_exchange_116 (by decide) ?_
                  refine lv_goto (tgt := 121) hx hb dX2_exchange_117 (by decide) ?_
                  exact K_121 1 _ (tq_w (⟨by decide, by decide⟩ : tq_iv 1 1 1) (by decide) (by decide)) (lv_sub hl [0, 1, 2, 3, 4, 5, 6, 7, 8, 9] rfl)
        exact K_74 _ 0 _ (tq_w (⟨by decide, by decide⟩ : tq_iv 0 0 0) (by decide) (by decide)) (Nat.lt_succ_self _) (lv_sub hl [0, 1, 2, 3, 4, 5, 6, 7, 8] rfl)
  exact K_59 _ 0 _ (tq_w (⟨by decide, by decide⟩ : tq_iv 0 0 0) (by decide) (by decide)) (Nat.lt_succ_self _) (lv_sub hl [0, 1, 2, 3, 4, 5, 6, 7] rfl)
set_option maxHeartbeats 4000000 in
set_option maxRecDepth 100000 in
theorem c_X11_trade (l : Launch) (X : tq_X) (Z : tq_Z) (f : Nat → va_E) (h0 : Nat) (z_h0 : tq_z Z h0 (.inl 11)) (x1 : Int32) (x2 : Int32) (x3 : Int32) : tq_Mp l X Z f yX11_trade cX11_trade 5 (some .int) 5 [.ref h0, .int x1, .int x2, .int x3] (tq_ri (-2147483648) 2147483647) := by
  refine tq_startip (by decide) (Nat.le_of_ble_eq_true rfl) (fun p e R s m args below meth c Q hC hret hS ls hl => ?_)
  have hC : tq_C p R s m args c X (tq_A Z) RX11 cX11_trade 5 5 := hC
  have hx := hC.1.1
  have hb := hC.1.2.1
  have hown := hC.1.2.2.2.1
  have hts := hC.1.2.2.2.2
  have hl : lv_has ls 5 [(0, .ref h0), (1, .int x1), (2, .int x2), (3, .int x3)] := hl
  refine lv_aload_n hx hb dX11_trade_0 rfl (lv_at hl 0 rfl) ?_
  refine gf_RX11_29 hC hS z_h0 dX11_trade_1 (fun t_1 p_1 q_1 => ?_)
  refine lv_iload_n hx hb dX11_trade_4 rfl (lv_at hl 1 rfl) ?_
  refine tq_callVpi (As := [.int x1]) (rest := []) hC (c_X3_hasPerson l X Z _ t_1 p_1 x1) k_X3_hasPerson ql_RX11_200 rfl (by decide) hS p_1 rfl hl.1 rfl (Nat.le_of_ble_eq_true rfl) ⟨Nat.zero_le _, Nat.zero_le _⟩ dX11_trade_5 (fun t_5 p_5 => ?_)
  have K_36 : ∀ (ls : Array Slot), lv_has ls 5 [] → W p l e R s m args below meth c s.heap [] 0 0 Q (F0 m 36 ls []) := by
    intro  ls  hl
    refine lv_iconst (v := -1) hx hb dX11_trade_36 (by decide) ?_
    exact hret (-1) _ _ rfl ⟨_, rfl, tq_w (⟨by decide, by decide⟩ : tq_iv (-1) (-1) (-1)) (by decide) (by decide)⟩ dX11_trade_37
  refine lv_if_eq (tgt := 36) hx hb dX11_trade_8 (by decide) (fun c_8 => ?_) (fun c_8 => ?_)
  · skip
    have i1_t_5 : tq_iv 0 0 t_5 := tq_cut p_5 (tq_eqL c_8 (⟨by decide, by decide⟩ : tq_iv 0 0 0)) (by decide) (by decide)
    exact K_36 _ (lv_sub hl [] rfl)
  · skip
    have i2_t_5 : tq_iv 1 1 t_5 := tq_w (tq_neLo c_8 p_5 (⟨by decide, by decide⟩ : tq_iv 0 0 0)) (by decide) (by decide)
    refine lv_aload_n hx hb dX11_trade_11 rfl (lv_at hl 0 rfl) ?_
    refine gf_RX11_29 hC hS z_h0 dX11_trade_12 (fun t_12 p_12 q_12 => ?_)
    refine lv_iload_n hx hb dX11_trade_15 rfl (lv_at hl 2 rfl) ?_
    refine tq_callVpi (As := [.int x2]) (rest := []) hC (c_X3_hasPerson l X Z _ t_12 p_12 x2) k_X3_hasPerson ql_RX11_200 rfl (by decide) hS p_12 rfl hl.1 rfl (Nat.le_of_ble_eq_true rfl) ⟨Nat.zero_le _, Nat.zero_le _⟩ dX11_trade_16 (fun t_16 p_16 => ?_)
    refine lv_if_eq (tgt := 36) hx hb dX11_trade_19 (by decide) (fun c_19 => ?_) (fun c_19 => ?_)
    · skip
      have i3_t_16 : tq_iv 0 0 t_16 := tq_cut p_16 (tq_eqL c_19 (⟨by decide, by decide⟩ : tq_iv 0 0 0)) (by decide) (by decide)
      exact K_36 _ (lv_sub hl [] rfl)
    · skip
      have i4_t_16 : tq_iv 1 1 t_16 := tq_w (tq_neLo c_19 p_16 (⟨by decide, by decide⟩ : tq_iv 0 0 0)) (by decide) (by decide)
      refine lv_iload_n hx hb dX11_trade_22 rfl (lv_at hl 1 rfl) ?_
      refine lv_iload_n hx hb dX11_trade_23 rfl (lv_at hl 2 rfl) ?_
      refine lv_icmp_eq (tgt := 36) hx hb dX11_trade_24 (by decide) (fun c_24 => ?_) (fun c_24 => ?_)
      · skip
        exact K_36 _ (lv_sub hl [] rfl)
      · skip
        refine lv_iload_n hx hb dX11_trade_27 rfl (lv_at hl 3 rfl) ?_
        refine lv_if_lt (tgt := 36) hx hb dX11_trade_28 (by decide) (fun c_28 => ?_) (fun c_28 => ?_)
        · skip
          have i5_x3 : tq_iv (-2147483648) (-1) x3 := tq_cut (tq_top x3) (tq_ltL c_28 (tq_top x3) (⟨by decide, by decide⟩ : tq_iv 0 0 0)) (by decide) (by decide)
          exact K_36 _ (lv_sub hl [] rfl)
        · skip
          have i6_x3 : tq_iv 0 2147483647 x3 := tq_cut (tq_top x3) (tq_leR (tq_nlt c_28) (⟨by decide, by decide⟩ : tq_iv 0 0 0) (tq_top x3)) (by decide) (by decide)
          refine lv_iload_n hx hb dX11_trade_31 rfl (lv_at hl 3 rfl) ?_
          refine lv_iconst (v := 1) hx hb dX11_trade_32 (by decide) ?_
          refine lv_icmp_le (tgt := 38) hx hb dX11_trade_33 (by decide) (fun c_33 => ?_) (fun c_33 => ?_)
          · skip
            have i7_x3 : tq_iv 0 1 x3 := tq_cut i6_x3 (tq_leL c_33 i6_x3 (⟨by decide, by decide⟩ : tq_iv 1 1 1)) (by decide) (by decide)
            refine lv_aload_n hx hb dX11_trade_38 rfl (lv_at hl 0 rfl) ?_
            refine gf_RX11_79 hC hS z_h0 dX11_trade_39 (fun t_39 p_39 q_39 => ?_)
            refine lv_iload_n hx hb dX11_trade_42 rfl (lv_at hl 1 rfl) ?_
            refine lv_iload_n hx hb dX11_trade_43 rfl (lv_at hl 2 rfl) ?_
            refine tq_callVpi (As := [.int x1, .int x2]) (rest := []) hC (c_X2_exchange l X Z _ t_39 p_39 x1 x2) k_X2_exchange ql_RX11_371 rfl (by decide) hS p_39 rfl hl.1 rfl (Nat.le_of_ble_eq_true rfl) ⟨Nat.zero_le _, Nat.zero_le _⟩ dX11_trade_44 (fun t_44 p_44 => ?_)
            refine lv_istore (lv' := [(4, .int t_44), (0, .ref h0), (1, .int x1), (2, .int x2), (3, .int x3)]) hx hb dX11_trade_47 hl (by decide) rfl (fun ls hl => ?_)
            refine lv_iload hx hb dX11_trade_49 (lv_at hl 0 rfl) ?_
            refine lv_iconst (v := -1) hx hb dX11_trade_51 (by decide) ?_
            refine lv_icmp_ne (tgt := 57) hx hb dX11_trade_52 (by decide) (fun c_52 => ?_) (fun c_52 => ?_)
            · skip
              refine lv_iload_n hx hb dX11_trade_57 rfl (lv_at hl 4 rfl) ?_
              have K_74 : ∀ (y0_74 : Int32) (ls : Array Slot), lv_has ls 5 [] → W p l e R s m args below meth c s.heap [] 0 0 Q (F0 m 74 ls [.int y0_74]) := by
                intro y0_74 ls  hl
                exact hret y0_74 _ _ rfl ⟨_, rfl, tq_w (tq_top y0_74) (by decide) (by decide)⟩ dX11_trade_74
              refine lv_if_ne (tgt := 69) hx hb dX11_trade_58 (by decide) (fun c_58 => ?_) (fun c_58 => ?_)
              · skip
                have i8_x3 : tq_iv 1 1 x3 := tq_w (tq_neLo c_58 i7_x3 (⟨by decide, by decide⟩ : tq_iv 0 0 0)) (by decide) (by decide)
                refine lv_iload hx hb dX11_trade_69 (lv_at hl 0 rfl) ?_
                refine lv_bipush (v := 8) hx hb dX11_trade_71 (by decide) ?_
                refine lv_irem hx hb dX11_trade_73 (tq_nz (⟨by decide, by decide⟩ : tq_iv 8 8 8) (by decide)) ?_
                refine lv_topi (fun t_73 e_73 => ?_)
                exact K_74 t_73 _ (lv_sub hl [] rfl)
              · skip
                have i9_x3 : tq_iv 0 0 x3 := tq_cut i7_x3 (tq_eqL c_58 (⟨by decide, by decide⟩ : tq_iv 0 0 0)) (by decide) (by decide)
                refine lv_iload hx hb dX11_trade_61 (lv_at hl 0 rfl) ?_
                refine lv_bipush (v := 8) hx hb dX11_trade_63 (by decide) ?_
                refine lv_idiv hx hb dX11_trade_65 (tq_nz (⟨by decide, by decide⟩ : tq_iv 8 8 8) (by decide)) ?_
                refine lv_topi (fun t_65 e_65 => ?_)
                refine lv_goto (tgt := 74) hx hb dX11_trade_66 (by decide) ?_
                exact K_74 t_65 _ (lv_sub hl [] rfl)
            · skip
              have i10_t_44 : tq_iv (-1) (-1) t_44 := tq_cut (tq_top t_44) (tq_eqL c_52 (⟨by decide, by decide⟩ : tq_iv (-1) (-1) (-1))) (by decide) (by decide)
              refine lv_iconst (v := -1) hx hb dX11_trade_55 (by decide) ?_
              exact hret (-1) _ _ rfl ⟨_, rfl, tq_w (⟨by decide, by decide⟩ : tq_iv (-1) (-1) (-1)) (by decide) (by decide)⟩ dX11_trade_56
          · skip
            have i11_x3 : tq_iv 2 2147483647 x3 := tq_cut i6_x3 (tq_ltR (tq_nle c_33) (⟨by decide, by decide⟩ : tq_iv 1 1 1) i6_x3) (by decide) (by decide)
            exact K_36 _ (lv_sub hl [] rfl)
