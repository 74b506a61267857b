set_option maxHeartbeats 4000000 in
set_option maxRecDepth 100000 in
theorem c_X11_putOnTape (l : Launch) (X : tq_X) (Z : tq_Z) (f : Nat → va_E) (h0 : Nat) (z_h0 : tq_z Z h0 (.inl 11)) (x1 : Int32) : tq_M l X Z f [(11, 1)] yX11_putOnTape cX11_putOnTape 3 (none) 0 [.ref h0, .int x1] tq_rv := by
  refine tq_startv (by decide) (Nat.le_of_ble_eq_true rfl) (fun p e R s m args below meth c Q hC hret hS ls hl => ?_)
  have hC : tq_C p R s m args c X (tq_A Z) RX11 cX11_putOnTape 3 0 := hC
  have hx := hC.1.1
  have hb := hC.1.2.1
  have hown := hC.1.2.2.2.1
  have hts := hC.1.2.2.2.2
  have hl : lv_has ls 3 [(0, .ref h0), (1, .int x1)] := hl
  generalize hf0 : f = f0 at hret
  have hS : tq_S X Z (tq_A Z) s.heap f0 [(11, 1)] f s.heap [] := hf0 ▸ hS
  obtain ⟨w0, p_w0, q_w0⟩ := tq_ghi hS z_h0 (k := 1) rfl
  refine lv_bipush (v := 24) hx hb dX11_putOnTape_0 (by decide) ?_
  refine lv_istore_n (lv' := [(2, .int 24), (0, .ref h0), (1, .int x1)]) hx hb dX11_putOnTape_2 rfl hl (by decide) rfl (fun ls hl => ?_)
  have K_3 : ∀ (n_3 : Nat) (x2_3 : Int32) (w0_3 : Int32) (f : Nat → va_E) (H : Heap) (locs : List Loc) (ls : Array Slot), tq_S X Z (tq_A Z) s.heap f0 [(11, 1)] f H locs → tq_f f h0 1 (.int w0_3) → tq_iv (-8) 24 x2_3 → (x2_3.toInt + 2147483648).toNat < n_3 → lv_has ls 3 [(2, .int x2_3), (0, .ref h0), (1, .int x1)] → W p l e R s m args below meth c H locs 0 0 Q (F0 m 3 ls []) := by
    intro n_3
    induction n_3 with
    | zero => intro x2_3 w0_3 f H locs ls  hS fo0_3 i1_x2_3 hn_3; exact absurd hn_3 (Nat.not_lt_zero _)
    | succ n_3 ih_3 =>
      intro x2_3 w0_3 f H locs ls  hS fo0_3 i1_x2_3 hn_3 hl
      refine lv_iload_n hx hb dX11_putOnTape_3 rfl (lv_at hl 0 rfl) ?_
      refine lv_if_lt (tgt := 53) hx hb dX11_putOnTape_4 (by decide) (fun c_4 => ?_) (fun c_4 => ?_)
      · skip
        have i2_x2_3 : tq_iv (-8) (-1) x2_3 := tq_cut i1_x2_3 (tq_ltL c_4 i1_x2_3 (⟨by decide, by decide⟩ : tq_iv 0 0 0)) (by decide) (by decide)
        exact hret _ _ _ _ _ rfl hS dX11_putOnTape_53
      · skip
        have i3_x2_3 : tq_iv 0 24 x2_3 := tq_cut i1_x2_3 (tq_leR (tq_nlt c_4) (⟨by decide, by decide⟩ : tq_iv 0 0 0) i1_x2_3) (by decide) (by decide)
        refine lv_aload_n hx hb dX11_putOnTape_7 rfl (lv_at hl 1 rfl) ?_
        refine gk_RX11_13 hC hS z_h0 fo0_3 dX11_putOnTape_8 ?_
        have K_47 : ∀ (w0_47 : Int32) (f : Nat → va_E) (H : Heap) (locs : List Loc) (ls : Array Slot), tq_S X Z (tq_A Z) s.heap f0 [(11, 1)] f H locs → tq_f f h0 1 (.int w0_47) → lv_has ls 3 [(2, .int x2_3), (0, .ref h0), (1, .int x1)] → W p l e R s m args below meth c H locs 0 0 Q (F0 m 47 ls []) := by
          intro w0_47 f H locs ls  hS fo0_47 hl
          obtain ⟨t_47, e_47⟩ : ∃ y : Int32, y = x2_3 + (-8) := ⟨_, rfl⟩
          have i4_t_47 : tq_iv (-8) 16 t_47 := tq_w (tq_add e_47 i3_x2_3 (⟨by decide, by decide⟩ : tq_iv (-8) (-8) (-8)) (by decide) (by decide)) (by decide) (by decide)
          refine lv_iinc (v := t_47) (lv' := [(2, .int t_47), (0, .ref h0), (1, .int x1)]) hx hb dX11_putOnTape_47 hl (k := 0) rfl (by rw [e_47]; rfl) (by decide) rfl (fun ls hl => ?_)
          refine lv_goto (tgt := 3) hx hb dX11_putOnTape_50 (by decide) ?_
          exact ih_3 t_47 w0_47 _ _ _ _ hS fo0_47 (tq_w i4_t_47 (by decide) (by decide)) (tq_down e_47 i3_x2_3 (⟨by decide, by decide⟩ : tq_iv (-8) (-8) (-8)) (by decide) (by decide) hn_3) (lv_sub hl [0, 1, 2] rfl)
        refine lv_if_lt (tgt := 47) hx hb dX11_putOnTape_11 (by decide) (fun c_11 => ?_) (fun c_11 => ?_)
        · skip
          have i5_w0_3 : tq_iv (-2147483648) (-1) w0_3 := tq_cut (tq_top w0_3) (tq_ltL c_11 (tq_top w0_3) (⟨by decide, by decide⟩ : tq_iv 0 0 0)) (by decide) (by decide)
          exact K_47 w0_3 _ _ _ _ hS fo0_3 (lv_sub hl [0, 1, 2] rfl)
        · skip
          have i6_w0_3 : tq_iv 0 2147483647 w0_3 := tq_cut (tq_top w0_3) (tq_leR (tq_nlt c_11) (⟨by decide, by decide⟩ : tq_iv 0 0 0) (tq_top w0_3)) (by decide) (by decide)
          refine lv_aload_n hx hb dX11_putOnTape_14 rfl (lv_at hl 1 rfl) ?_
          refine gk_RX11_13 hC hS z_h0 fo0_3 dX11_putOnTape_15 ?_
          refine lv_sipush (v := 1600) hx hb dX11_putOnTape_18 (by decide) ?_
          refine lv_icmp_ge (tgt := 47) hx hb dX11_putOnTape_21 (by decide) (fun c_21 => ?_) (fun c_21 => ?_)
          · skip
            have i7_w0_3 : tq_iv 1600 2147483647 w0_3 := tq_cut i6_w0_3 (tq_leR c_21 (⟨by decide, by decide⟩ : tq_iv 1600 1600 1600) i6_w0_3) (by decide) (by decide)
            exact K_47 w0_3 _ _ _ _ hS fo0_3 (lv_sub hl [0, 1, 2] rfl)
          · skip
            have i8_w0_3 : tq_iv 0 1599 w0_3 := tq_cut i6_w0_3 (tq_ltL (tq_nle c_21) i6_w0_3 (⟨by decide, by decide⟩ : tq_iv 1600 1600 1600)) (by decide) (by decide)
            refine lv_aload_n hx hb dX11_putOnTape_24 rfl (lv_at hl 1 rfl) ?_
            refine gf_RX11_9 hC hS z_h0 dX11_putOnTape_25 (fun t_25 p_25 q_25 => ?_)
            refine lv_aload_n hx hb dX11_putOnTape_28 rfl (lv_at hl 1 rfl) ?_
            refine gk_RX11_13 hC hS z_h0 fo0_3 dX11_putOnTape_29 ?_
            refine lv_iload_n hx hb dX11_putOnTape_32 rfl (lv_at hl 2 rfl) ?_
            refine lv_iload_n hx hb dX11_putOnTape_33 rfl (lv_at hl 0 rfl) ?_
            refine lv_ishr hx hb dX11_putOnTape_34 ?_
            refine lv_topi (fun t_34 e_34 => ?_)
            refine lv_i2b hx hb dX11_putOnTape_35 rfl ?_
            refine lv_topi (fun t_35 e_35 => ?_)
            refine tq_bast hC hS p_25 rfl (tq_vin i8_w0_3 (by decide) (by decide)) (fun _ => trivial) dX11_putOnTape_36 (fun f H locs hS k_36 => ?_)
            have q9_36 := k_36 _ _ _ (tq_ne z_h0 p_25 (fun q => by cases q)) fo0_3
            refine lv_aload_n hx hb dX11_putOnTape_37 rfl (lv_at hl 1 rfl) ?_
            refine lv_dup hx hb dX11_putOnTape_38 rfl ?_
            refine gk_RX11_13 hC hS z_h0 q9_36 dX11_putOnTape_39 ?_
            refine lv_iconst (v := 1) hx hb dX11_putOnTape_42 (by decide) ?_
            refine lv_iadd hx hb dX11_putOnTape_43 ?_
            refine lv_topi (fun t_43 e_43 => ?_)
            have i10_t_43 : tq_iv 1 1600 t_43 := tq_w (tq_add e_43 i8_w0_3 (⟨by decide, by decide⟩ : tq_iv 1 1 1) (by decide) (by decide)) (by decide) (by decide)
            refine pf_RX11_13 hC hS z_h0 (by decide) trivial dX11_putOnTape_44 (fun f H locs hS q_44 k_44 => ?_)
            exact K_47 t_43 _ _ _ _ hS q_44 (lv_sub hl [0, 1, 2] rfl)
  exact K_3 _ 24 w0 _ _ _ _ hS q_w0 (tq_w (⟨by decide, by decide⟩ : tq_iv 24 24 24) (by decide) (by decide)) (Nat.lt_succ_self _) (lv_sub hl [0, 1, 2] rfl)
set_option maxHeartbeats 4000000 in
set_option maxRecDepth 100000 in
theorem c_X11_feed (l : Launch) (X : tq_X) (Z : tq_Z) (f : Nat → va_E) (h0 : Nat) (z_h0 : tq_z Z h0 (.inl 11)) (x1 : Int32) (x2 : Int32) (x3 : Int32) (x4 : Int32) (x5 : Int32) : tq_M l X Z f [(11, 1)] yX11_feed cX11_feed 6 (some .int) 1 [.ref h0, .int x1, .int x2, .int x3, .int x4, .int x5] (tq_ri (-2147483648) 2147483647) := by
  refine tq_starti (by decide) (Nat.le_of_ble_eq_true rfl) (fun p e R s m args below meth c Q hC hret hS ls hl => ?_)
  have hC : tq_C p R s m args c X (tq_A Z) RX11 cX11_feed 6 1 := hC
  have hx := hC.1.1
  have hb := hC.1.2.1
  have hown := hC.1.2.2.2.1
  have hts := hC.1.2.2.2.2
  have hl : lv_has ls 6 [(0, .ref h0), (1, .int x1), (2, .int x2), (3, .int x3), (4, .int x4), (5, .int x5)] := hl
  generalize hf0 : f = f0 at hret
  have hS : tq_S X Z (tq_A Z) s.heap f0 [(11, 1)] f s.heap [] := hf0 ▸ hS
  refine lv_aload_n hx hb dX11_feed_0 rfl (lv_at hl 0 rfl) ?_
  refine gf_RX11_13 hC hS z_h0 dX11_feed_1 (fun t_1 p_1 q_1 => ?_)
  refine lv_bipush (v := 20) hx hb dX11_feed_4 (by decide) ?_
  refine lv_iadd hx hb dX11_feed_6 ?_
  refine lv_topi (fun t_6 e_6 => ?_)
  refine lv_sipush (v := 1600) hx hb dX11_feed_7 (by decide) ?_
  refine lv_icmp_le (tgt := 15) hx hb dX11_feed_10 (by decide) (fun c_10 => ?_) (fun c_10 => ?_)
  · skip
    have i1_t_6 : tq_iv (-2147483648) 1600 t_6 := tq_cut (tq_top t_6) (tq_leL c_10 (tq_top t_6) (⟨by decide, by decide⟩ : tq_iv 1600 1600 1600)) (by decide) (by decide)
    refine lv_aload_n hx hb dX11_feed_15 rfl (lv_at hl 0 rfl) ?_
    refine lv_iload_n hx hb dX11_feed_16 rfl (lv_at hl 1 rfl) ?_
    refine tq_callVv (As := [.int x1]) (rest := []) hC (c_X11_putOnTape l X Z _ h0 z_h0 x1) k_X11_putOnTape ql_RX11_101 (by decide) rfl (by decide) hS z_h0 rfl hl.1 rfl (Nat.le_of_ble_eq_true rfl) ⟨Nat.zero_le _, Nat.zero_le _⟩ dX11_feed_17 (fun f1_17 H locs hS k_17 => ?_)
    refine lv_aload_n hx hb dX11_feed_20 rfl (lv_at hl 0 rfl) ?_
    refine lv_iload_n hx hb dX11_feed_21 rfl (lv_at hl 2 rfl) ?_
    refine tq_callVv (As := [.int x2]) (rest := []) hC (c_X11_putOnTape l X Z _ h0 z_h0 x2) k_X11_putOnTape ql_RX11_101 (by decide) rfl (by decide) hS z_h0 rfl hl.1 rfl (Nat.le_of_ble_eq_true rfl) ⟨Nat.zero_le _, Nat.zero_le _⟩ dX11_feed_22 (fun f1_22 H locs hS k_22 => ?_)
    refine lv_aload_n hx hb dX11_feed_25 rfl (lv_at hl 0 rfl) ?_
    refine lv_iload_n hx hb dX11_feed_26 rfl (lv_at hl 3 rfl) ?_
    refine tq_callVv (As := [.int x3]) (rest := []) hC (c_X11_putOnTape l X Z _ h0 z_h0 x3) k_X11_putOnTape ql_RX11_101 (by decide) rfl (by decide) hS z_h0 rfl hl.1 rfl (Nat.le_of_ble_eq_true rfl) ⟨Nat.zero_le _, Nat.zero_le _⟩ dX11_feed_27 (fun f1_27 H locs hS k_27 => ?_)
    refine lv_aload_n hx hb dX11_feed_30 rfl (lv_at hl 0 rfl) ?_
    refine lv_iload hx hb dX11_feed_31 (lv_at hl 4 rfl) ?_
    refine tq_callVv (As := [.int x4]) (rest := []) hC (c_X11_putOnTape l X Z _ h0 z_h0 x4) k_X11_putOnTape ql_RX11_101 (by decide) rfl (by decide) hS z_h0 rfl hl.1 rfl (Nat.le_of_ble_eq_true rfl) ⟨Nat.zero_le _, Nat.zero_le _⟩ dX11_feed_33 (fun f1_33 H locs hS k_33 => ?_)
    refine lv_aload_n hx hb dX11_feed_36 rfl (lv_at hl 0 rfl) ?_
    refine lv_iload hx hb dX11_feed_37 (lv_at hl 5 rfl) ?_
    refine tq_callVv (As := [.int x5]) (rest := []) hC (c_X11_putOnTape l X Z _ h0 z_h0 x5) k_X11_putOnTape ql_RX11_101 (by decide) rfl (by decide) hS z_h0 rfl hl.1 rfl (Nat.le_of_ble_eq_true rfl) ⟨Nat.zero_le _, Nat.zero_le _⟩ dX11_feed_39 (fun f1_39 H locs hS k_39 => ?_)
    refine lv_aload_n hx hb dX11_feed_42 rfl (lv_at hl 0 rfl) ?_
    refine gf_RX11_13 hC hS z_h0 dX11_feed_43 (fun t_43 p_43 q_43 => ?_)
    exact hret t_43 _ _ _ _ _ rfl ⟨_, rfl, tq_w (tq_top t_43) (by decide) (by decide)⟩ hS dX11_feed_46
  · skip
    have i2_t_6 : tq_iv 1601 2147483647 t_6 := tq_cut (tq_top t_6) (tq_ltR (tq_nle c_10) (⟨by decide, by decide⟩ : tq_iv 1600 1600 1600) (tq_top t_6)) (by decide) (by decide)
    refine lv_iconst (v := -1) hx hb dX11_feed_13 (by decide) ?_
    exact hret (-1) _ _ _ _ _ rfl ⟨_, rfl, tq_w (⟨by decide, by decide⟩ : tq_iv (-1) (-1) (-1)) (by decide) (by decide)⟩ hS dX11_feed_14
set_option maxHeartbeats 4000000 in
set_option maxRecDepth 100000 in
theorem c_X11_end (l : Launch) (X : tq_X) (Z : tq_Z) (f : Nat → va_E) (h0 : Nat) (z_h0 : tq_z Z h0 (.inl 11)) (x1 : Int32) : tq_M l X Z f [(11, 1)] yX11_end cX11_end 2 (some .int) 0 [.ref h0, .int x1] (tq_ri (-1) 2147483647) := by
  refine tq_starti (by decide) (Nat.le_of_ble_eq_true rfl) (fun p e R s m args below meth c Q hC hret hS ls hl => ?_)
  have hC : tq_C p R s m args c X (tq_A Z) RX11 cX11_end 2 0 := hC
  have hx := hC.1.1
  have hb := hC.1.2.1
  have hown := hC.1.2.2.2.1
  have hts := hC.1.2.2.2.2
  have hl : lv_has ls 2 [(0, .ref h0), (1, .int x1)] := hl
  generalize hf0 : f = f0 at hret
  have hS : tq_S X Z (tq_A Z) s.heap f0 [(11, 1)] f s.heap [] := hf0 ▸ hS
  refine lv_iload_n hx hb dX11_end_0 rfl (lv_at hl 1 rfl) ?_
  have K_12 : ∀ (f : Nat → va_E) (H : Heap) (locs : List Loc) (ls : Array Slot), tq_S X Z (tq_A Z) s.heap f0 [(11, 1)] f H locs → lv_has ls 2 [] → W p l e R s m args below meth c H locs 0 0 Q (F0 m 12 ls []) := by
    intro f H locs ls  hS hl
    refine lv_iconst (v := -1) hx hb dX11_end_12 (by decide) ?_
    exact hret (-1) _ _ _ _ _ rfl ⟨_, rfl, tq_w (⟨by decide, by decide⟩ : tq_iv (-1) (-1) (-1)) (by decide) (by decide)⟩ hS dX11_end_13
  refine lv_if_lt (tgt := 12) hx hb dX11_end_1 (by decide) (fun c_1 => ?_) (fun c_1 => ?_)
  · skip
    have i1_x1 : tq_iv (-2147483648) (-1) x1 := tq_cut (tq_top x1) (tq_ltL c_1 (tq_top x1) (⟨by decide, by decide⟩ : tq_iv 0 0 0)) (by decide) (by decide)
    exact K_12 _ _ _ _ hS (lv_sub hl [] rfl)
  · skip
    have i2_x1 : tq_iv 0 2147483647 x1 := tq_cut (tq_top x1) (tq_leR (tq_nlt c_1) (⟨by decide, by decide⟩ : tq_iv 0 0 0) (tq_top x1)) (by decide) (by decide)
    refine lv_iload_n hx hb dX11_end_4 rfl (lv_at hl 1 rfl) ?_
    refine lv_aload_n hx hb dX11_end_5 rfl (lv_at hl 0 rfl) ?_
    refine gf_RX11_13 hC hS z_h0 dX11_end_6 (fun t_6 p_6 q_6 => ?_)
    refine lv_icmp_le (tgt := 14) hx hb dX11_end_9 (by decide) (fun c_9 => ?_) (fun c_9 => ?_)
    · skip
      have i3_t_6 : tq_iv 0 2147483647 t_6 := tq_cut (tq_top t_6) (tq_leR c_9 i2_x1 (tq_top t_6)) (by decide) (by decide)
      refine lv_aload_n hx hb dX11_end_14 rfl (lv_at hl 0 rfl) ?_
      refine lv_iload_n hx hb dX11_end_15 rfl (lv_at hl 1 rfl) ?_
      refine pf_RX11_13 hC hS z_h0 (by decide) trivial dX11_end_16 (fun f H locs hS q_16 k_16 => ?_)
      refine lv_iload_n hx hb dX11_end_19 rfl (lv_at hl 1 rfl) ?_
      exact hret x1 _ _ _ _ _ rfl ⟨_, rfl, tq_w i2_x1 (by decide) (by decide)⟩ hS dX11_end_20
    · skip
      have i4_t_6 : tq_iv (-2147483648) 2147483646 t_6 := tq_cut (tq_top t_6) (tq_ltL (tq_nle c_9) (tq_top t_6) i2_x1) (by decide) (by decide)
      exact K_12 _ _ _ _ hS (lv_sub hl [] rfl)
set_option maxHeartbeats 4000000 in
set_option maxRecDepth 100000 in
theorem c_X10_forget (l : Launch) (X : tq_X) (Z : tq_Z) (f : Nat → va_E) (h0 : Nat) (z_h0 : tq_z Z h0 (.inl 10)) : tq_M l X Z f [(10, 4)] yX10_forget cX10_forget 1 (none) 0 [.ref h0] tq_rv := by
  refine tq_startv (by decide) (Nat.le_of_ble_eq_true rfl) (fun p e R s m args below meth c Q hC hret hS ls hl => ?_)
  have hC : tq_C p R s m args c X (tq_A Z) RX10 cX10_forget 1 0 := hC
  have hx := hC.1.1
  have hb := hC.1.2.1
  have hown := hC.1.2.2.2.1
  have hts := hC.1.2.2.2.2
  have hl : lv_has ls 1 [(0, .ref h0)] := hl
  generalize hf0 : f = f0 at hret
  have hS : tq_S X Z (tq_A Z) s.heap f0 [(10, 4)] f s.heap [] := hf0 ▸ hS
  refine lv_aload_n hx hb dX10_forget_0 rfl (lv_at hl 0 rfl) ?_
  refine lv_iconst (v := 0) hx hb dX10_forget_1 (by decide) ?_
  refine pf_RX10_25 hC hS z_h0 (by decide) trivial dX10_forget_2 (fun f H locs hS q_2 k_2 => ?_)
  exact hret _ _ _ _ _ rfl hS dX10_forget_5
set_option maxHeartbeats 4000000 in
set_option maxRecDepth 100000 in
theorem c_X1_forget (l : Launch) (X : tq_X) (Z : tq_Z) (f : Nat → va_E) (h0 : Nat) (z_h0 : tq_z Z h0 (.inl 1)) : tq_M l X Z f [(1, 1), (1, 2), (1, 3)] yX1_forget cX1_forget 1 (none) 0 [.ref h0] tq_rv := by
  refine tq_startv (by decide) (Nat.le_of_ble_eq_true rfl) (fun p e R s m args below meth c Q hC hret hS ls hl => ?_)
  have hC : tq_C p R s m args c X (tq_A Z) RX1 cX1_forget 1 0 := hC
  have hx := hC.1.1
  have hb := hC.1.2.1
  have hown := hC.1.2.2.2.1
  have hts := hC.1.2.2.2.2
  have hl : lv_has ls 1 [(0, .ref h0)] := hl
  generalize hf0 : f = f0 at hret
  have hS : tq_S X Z (tq_A Z) s.heap f0 [(1, 1), (1, 2), (1, 3)] f s.heap [] := hf0 ▸ hS
  refine lv_aload_n hx hb dX1_forget_0 rfl (lv_at hl 0 rfl) ?_
  refine lv_iconst (v := 0) hx hb dX1_forget_1 (by decide) ?_
  refine pf_RX1_16 hC hS z_h0 (by decide) trivial dX1_forget_2 (fun f H locs hS q_2 k_2 => ?_)
  refine lv_aload_n hx hb dX1_forget_5 rfl (lv_at hl 0 rfl) ?_
  refine lv_iconst (v := 0) hx hb dX1_forget_6 (by decide) ?_
  refine pf_RX1_20 hC hS z_h0 (by decide) trivial dX1_forget_7 (fun f H locs hS q_7 k_7 => ?_)
  refine lv_aload_n hx hb dX1_forget_10 rfl (lv_at hl 0 rfl) ?_
  refine lv_iconst (v := 0) hx hb dX1_forget_11 (by decide) ?_
  refine pf_RX1_23 hC hS z_h0 (by decide) trivial dX1_forget_12 (fun f H locs hS q_12 k_12 => ?_)
  exact hret _ _ _ _ _ rfl hS dX1_forget_15
set_option maxHeartbeats 4000000 in
set_option maxRecDepth 100000 in
theorem c_X2_forgetPath (l : Launch) (X : tq_X) (Z : tq_Z) (f : Nat → va_E) (h0 : Nat) (z_h0 : tq_z Z h0 (.inl 2)) : tq_M l X Z f [(2, 5)] yX2_forgetPath cX2_forgetPath 1 (none) 0 [.ref h0] tq_rv := by
  refine tq_startv (by decide) (Nat.le_of_ble_eq_true rfl) (fun p e R s m args below meth c Q hC hret hS ls hl => ?_)
  have hC : tq_C p R s m args c X (tq_A Z) RX2 cX2_forgetPath 1 0 := hC
  have hx := hC.1.1
  have hb := hC.1.2.1
  have hown := hC.1.2.2.2.1
  have hts := hC.1.2.2.2.2
  have hl : lv_has ls 1 [(0, .ref h0)] := hl
  generalize hf0 : f = f0 at hret
  have hS : tq_S X Z (tq_A Z) s.heap f0 [(2, 5)] f s.heap [] := hf0 ▸ hS
  refine lv_aload_n hx hb dX2_forgetPath_0 rfl (lv_at hl 0 rfl) ?_
  refine lv_iconst (v := 0) hx hb dX2_forgetPath_1 (by decide) ?_
  refine pf_RX2_29 hC hS z_h0 (by decide) trivial dX2_forgetPath_2 (fun f H locs hS q_2 k_2 => ?_)
  exact hret _ _ _ _ _ rfl hS dX2_forgetPath_5
set_option maxHeartbeats 4000000 in
set_option maxRecDepth 100000 in
theorem c_X0_copyFrom (l : Launch) (X : tq_X) (Z : tq_Z) (f : Nat → va_E) (h0 : Nat) (z_h0 : tq_z Z h0 (.inl 0)) (h1 : Nat) (z_h1 : tq_z Z h1 (.inl 0)) : tq_M l X Z f [(0, 0), (0, 1)] yX0_copyFrom cX0_copyFrom 2 (none) 1 [.ref h0, .ref h1] tq_rv := by
  refine tq_startv (by decide) (Nat.le_of_ble_eq_true rfl) (fun p e R s m args below meth c Q hC hret hS ls hl => ?_)
  have hC : tq_C p R s m args c X (tq_A Z) RX0 cX0_copyFrom 2 1 := hC
  have hx := hC.1.1
  have hb := hC.1.2.1
  have hown := hC.1.2.2.2.1
  have hts := hC.1.2.2.2.2
  have hl : lv_has ls 2 [(0, .ref h0), (1, .ref h1)] := hl
  generalize hf0 : f = f0 at hret
  have hS : tq_S X Z (tq_A Z) s.heap f0 [(0, 0), (0, 1)] f s.heap [] := hf0 ▸ hS
  refine lv_aload_n hx hb dX0_copyFrom_0 rfl (lv_at hl 0 rfl) ?_
  refine lv_aload_n hx hb dX0_copyFrom_1 rfl (lv_at hl 1 rfl) ?_
  refine gf_RX0_9 hC hS z_h1 dX0_copyFrom_2 (fun t_2 p_2 q_2 => ?_)
  refine pf_RX0_9 hC hS z_h0 (by decide) trivial dX0_copyFrom_5 (fun f H locs hS q_5 k_5 => ?_)
  refine lv_aload_n hx hb dX0_copyFrom_8 rfl (lv_at hl 0 rfl) ?_
  refine lv_aload_n hx hb dX0_copyFrom_9 rfl (lv_at hl 1 rfl) ?_
  refine gf_RX0_13 hC hS z_h1 dX0_copyFrom_10 (fun t_10 p_10 q_10 => ?_)
  refine pf_RX0_13 hC hS z_h0 (by decide) trivial dX0_copyFrom_13 (fun f H locs hS q_13 k_13 => ?_)
  refine lv_aload_n hx hb dX0_copyFrom_16 rfl (lv_at hl 1 rfl) ?_
  refine gf_RX0_16 hC hS z_h1 dX0_copyFrom_17 (fun t_17 p_17 q_17 => ?_)
  refine lv_iconst (v := 0) hx hb dX0_copyFrom_20 (by decide) ?_
  refine lv_aload_n hx hb dX0_copyFrom_21 rfl (lv_at hl 0 rfl) ?_
  refine gf_RX0_16 hC hS z_h0 dX0_copyFrom_22 (fun t_22 p_22 q_22 => ?_)
  refine lv_iconst (v := 0) hx hb dX0_copyFrom_25 (by decide) ?_
  refine lv_sipush (v := 270) hx hb dX0_copyFrom_26 (by decide) ?_
  refine tq_copyi hC hS p_17 p_22 rfl rfl ql_RX0_26 hl.1 (by decide) (by decide) dX0_copyFrom_29 (fun f H locs hS k_29 => ?_)
  refine lv_aload_n hx hb dX0_copyFrom_32 rfl (lv_at hl 1 rfl) ?_
  refine gf_RX0_20 hC hS z_h1 dX0_copyFrom_33 (fun t_33 p_33 q_33 => ?_)
  refine lv_iconst (v := 0) hx hb dX0_copyFrom_36 (by decide) ?_
  refine lv_aload_n hx hb dX0_copyFrom_37 rfl (lv_at hl 0 rfl) ?_
  refine gf_RX0_20 hC hS z_h0 dX0_copyFrom_38 (fun t_38 p_38 q_38 => ?_)
  refine lv_iconst (v := 0) hx hb dX0_copyFrom_41 (by decide) ?_
  refine lv_sipush (v := 270) hx hb dX0_copyFrom_42 (by decide) ?_
  refine tq_copyi hC hS p_33 p_38 rfl rfl ql_RX0_26 hl.1 (by decide) (by decide) dX0_copyFrom_45 (fun f H locs hS k_45 => ?_)
  exact hret _ _ _ _ _ rfl hS dX0_copyFrom_48
set_option maxHeartbeats 4000000 in
set_option maxRecDepth 100000 in
theorem c_X6_copyFrom (l : Launch) (X : tq_X) (Z : tq_Z) (f : Nat → va_E) (h0 : Nat) (z_h0 : tq_z Z h0 (.inl 6)) (h1 : Nat) (z_h1 : tq_z Z h1 (.inl 6)) : tq_M l X Z f [(6, 0), (6, 1), (6, 2)] yX6_copyFrom cX6_copyFrom 2 (none) 0 [.ref h0, .ref h1] tq_rv := by
  refine tq_startv (by decide) (Nat.le_of_ble_eq_true rfl) (fun p e R s m args below meth c Q hC hret hS ls hl => ?_)
  have hC : tq_C p R s m args c X (tq_A Z) RX6 cX6_copyFrom 2 0 := hC
  have hx := hC.1.1
  have hb := hC.1.2.1
  have hown := hC.1.2.2.2.1
  have hts := hC.1.2.2.2.2
  have hl : lv_has ls 2 [(0, .ref h0), (1, .ref h1)] := hl
  generalize hf0 : f = f0 at hret
  have hS : tq_S X Z (tq_A Z) s.heap f0 [(6, 0), (6, 1), (6, 2)] f s.heap [] := hf0 ▸ hS
  refine lv_aload_n hx hb dX6_copyFrom_0 rfl (lv_at hl 0 rfl) ?_
  refine lv_aload_n hx hb dX6_copyFrom_1 rfl (lv_at hl 1 rfl) ?_
  refine gf_RX6_18 hC hS z_h1 dX6_copyFrom_2 (fun t_2 p_2 q_2 => ?_)
  refine pf_RX6_18 hC hS z_h0 (by decide) (tq_w p_2 (by decide) (by decide)) dX6_copyFrom_5 (fun f H locs hS q_5 k_5 => ?_)
  refine lv_aload_n hx hb dX6_copyFrom_8 rfl (lv_at hl 0 rfl) ?_
  refine lv_aload_n hx hb dX6_copyFrom_9 rfl (lv_at hl 1 rfl) ?_
  refine gf_RX6_22 hC hS z_h1 dX6_copyFrom_10 (fun t_10 p_10 q_10 => ?_)
  refine pf_RX6_22 hC hS z_h0 (by decide) (tq_w p_10 (by decide) (by decide)) dX6_copyFrom_13 (fun f H locs hS q_13 k_13 => ?_)
  refine lv_aload_n hx hb dX6_copyFrom_16 rfl (lv_at hl 0 rfl) ?_
  refine lv_aload_n hx hb dX6_copyFrom_17 rfl (lv_at hl 1 rfl) ?_
  refine gf_RX6_25 hC hS z_h1 dX6_copyFrom_18 (fun t_18 p_18 q_18 => ?_)
  refine pf_RX6_25 hC hS z_h0 (by decide) (tq_w p_18 (by decide) (by decide)) dX6_copyFrom_21 (fun f H locs hS q_21 k_21 => ?_)
  exact hret _ _ _ _ _ rfl hS dX6_copyFrom_24
set_option maxHeartbeats 4000000 in
set_option maxRecDepth 100000 in
theorem c_X7_copyFrom (l : Launch) (X : tq_X) (Z : tq_Z) (f : Nat → va_E) (h0 : Nat) (z_h0 : tq_z Z h0 (.inl 7)) (h1 : Nat) (z_h1 : tq_z Z h1 (.inl 7)) : tq_M l X Z f [] yX7_copyFrom cX7_copyFrom 2 (none) 1 [.ref h0, .ref h1] tq_rv := by
  refine tq_startv (by decide) (Nat.le_of_ble_eq_true rfl) (fun p e R s m args below meth c Q hC hret hS ls hl => ?_)
  have hC : tq_C p R s m args c X (tq_A Z) RX7 cX7_copyFrom 2 1 := hC
  have hx := hC.1.1
  have hb := hC.1.2.1
  have hown := hC.1.2.2.2.1
  have hts := hC.1.2.2.2.2
  have hl : lv_has ls 2 [(0, .ref h0), (1, .ref h1)] := hl
  generalize hf0 : f = f0 at hret
  have hS : tq_S X Z (tq_A Z) s.heap f0 [] f s.heap [] := hf0 ▸ hS
  refine lv_aload_n hx hb dX7_copyFrom_0 rfl (lv_at hl 1 rfl) ?_
  refine gf_RX7_11 hC hS z_h1 dX7_copyFrom_1 (fun t_1 p_1 q_1 => ?_)
  refine lv_iconst (v := 0) hx hb dX7_copyFrom_4 (by decide) ?_
  refine lv_aload_n hx hb dX7_copyFrom_5 rfl (lv_at hl 0 rfl) ?_
  refine gf_RX7_11 hC hS z_h0 dX7_copyFrom_6 (fun t_6 p_6 q_6 => ?_)
  refine lv_iconst (v := 0) hx hb dX7_copyFrom_9 (by decide) ?_
  refine lv_bipush (v := 35) hx hb dX7_copyFrom_10 (by decide) ?_
  refine tq_copyi hC hS p_1 p_6 rfl rfl ql_RX7_21 hl.1 (by decide) (by decide) dX7_copyFrom_12 (fun f H locs hS k_12 => ?_)
  exact hret _ _ _ _ _ rfl hS dX7_copyFrom_15
set_option maxHeartbeats 4000000 in
set_option maxRecDepth 100000 in
theorem c_X3_copyFrom (l : Launch) (X : tq_X) (Z : tq_Z) (f : Nat → va_E) (h0 : Nat) (z_h0 : tq_z Z h0 (.inl 3)) (h1 : Nat) (z_h1 : tq_z Z h1 (.inl 3)) : tq_M l X Z f [(0, 0), (0, 1), (3, 3), (3, 4), (3, 5), (3, 6), (3, 7), (6, 0), (6, 1), (6, 2)] yX3_copyFrom cX3_copyFrom 2 (none) 2 [.ref h0, .ref h1] tq_rv := by
  refine tq_startv (by decide) (Nat.le_of_ble_eq_true rfl) (fun p e R s m args below meth c Q hC hret hS ls hl => ?_)
  have hC : tq_C p R s m args c X (tq_A Z) RX3 cX3_copyFrom 2 2 := hC
  have hx := hC.1.1
  have hb := hC.1.2.1
  have hown := hC.1.2.2.2.1
  have hts := hC.1.2.2.2.2
  have hl : lv_has ls 2 [(0, .ref h0), (1, .ref h1)] := hl
  generalize hf0 : f = f0 at hret
  have hS : tq_S X Z (tq_A Z) s.heap f0 [(0, 0), (0, 1), (3, 3), (3, 4), (3, 5), (3, 6), (3, 7), (6, 0), (6, 1), (6, 2)] f s.heap [] := hf0 ▸ hS
  refine lv_aload_n hx hb dX3_copyFrom_0 rfl (lv_at hl 0 rfl) ?_
  refine gf_RX3_12 hC hS z_h0 dX3_copyFrom_1 (fun t_1 p_1 q_1 => ?_)
  refine lv_aload_n hx hb dX3_copyFrom_4 rfl (lv_at hl 1 rfl) ?_
  refine gf_RX3_12 hC hS z_h1 dX3_copyFrom_5 (fun t_5 p_5 q_5 => ?_)
  refine tq_callVv (As := [.ref t_5]) (rest := []) hC (c_X6_copyFrom l X Z _ t_1 p_1 t_5 p_5) k_X6_copyFrom ql_RX3_77 (by decide) rfl (by decide) hS p_1 rfl hl.1 rfl (Nat.le_of_ble_eq_true rfl) ⟨Nat.zero_le _, Nat.zero_le _⟩ dX3_copyFrom_8 (fun f1_8 H locs hS k_8 => ?_)
  refine lv_aload_n hx hb dX3_copyFrom_11 rfl (lv_at hl 0 rfl) ?_
  refine gf_RX3_21 hC hS z_h0 dX3_copyFrom_12 (fun t_12 p_12 q_12 => ?_)
  refine lv_aload_n hx hb dX3_copyFrom_15 rfl (lv_at hl 1 rfl) ?_
  refine gf_RX3_21 hC hS z_h1 dX3_copyFrom_16 (fun t_16 p_16 q_16 => ?_)
  refine tq_callVv (As := [.ref t_16]) (rest := []) hC (c_X0_copyFrom l X Z _ t_12 p_12 t_16 p_16) k_X0_copyFrom ql_RX3_81 (by decide) rfl (by decide) hS p_12 rfl hl.1 rfl (Nat.le_of_ble_eq_true rfl) ⟨Nat.zero_le _, Nat.zero_le _⟩ dX3_copyFrom_19 (fun f1_19 H locs hS k_19 => ?_)
  refine lv_aload_n hx hb dX3_copyFrom_22 rfl (lv_at hl 0 rfl) ?_
  refine gf_RX3_28 hC hS z_h0 dX3_copyFrom_23 (fun t_23 p_23 q_23 => ?_)
  refine lv_aload_n hx hb dX3_copyFrom_26 rfl (lv_at hl 1 rfl) ?_
  refine gf_RX3_28 hC hS z_h1 dX3_copyFrom_27 (fun t_27 p_27 q_27 => ?_)
  refine tq_callVv (As := [.ref t_27]) (rest := []) hC (c_X7_copyFrom l X Z _ t_23 p_23 t_27 p_27) k_X7_copyFrom ql_RX3_84 (by decide) rfl (by decide) hS p_23 rfl hl.1 rfl (Nat.le_of_ble_eq_true rfl) ⟨Nat.zero_le _, Nat.zero_le _⟩ dX3_copyFrom_30 (fun f1_30 H locs hS k_30 => ?_)
  refine lv_aload_n hx hb dX3_copyFrom_33 rfl (lv_at hl 0 rfl) ?_
  refine lv_aload_n hx hb dX3_copyFrom_34 rfl (lv_at hl 1 rfl) ?_
  refine gf_RX3_55 hC hS z_h1 dX3_copyFrom_35 (fun t_35 p_35 q_35 => ?_)
  refine pf_RX3_55 hC hS z_h0 (by decide) (tq_w p_35 (by decide) (by decide)) dX3_copyFrom_38 (fun f H locs hS q_38 k_38 => ?_)
  refine lv_aload_n hx hb dX3_copyFrom_41 rfl (lv_at hl 0 rfl) ?_
  refine lv_aload_n hx hb dX3_copyFrom_42 rfl (lv_at hl 1 rfl) ?_
  refine gf_RX3_59 hC hS z_h1 dX3_copyFrom_43 (fun t_43 p_43 q_43 => ?_)
  refine pf_RX3_59 hC hS z_h0 (by decide) trivial dX3_copyFrom_46 (fun f H locs hS q_46 k_46 => ?_)
  refine lv_aload_n hx hb dX3_copyFrom_49 rfl (lv_at hl 0 rfl) ?_
  refine lv_aload_n hx hb dX3_copyFrom_50 rfl (lv_at hl 1 rfl) ?_
  refine gf_RX3_62 hC hS z_h1 dX3_copyFrom_51 (fun t_51 p_51 q_51 => ?_)
  refine pf_RX3_62 hC hS z_h0 (by decide) trivial dX3_copyFrom_54 (fun f H locs hS q_54 k_54 => ?_)
  refine lv_aload_n hx hb dX3_copyFrom_57 rfl (lv_at hl 0 rfl) ?_
  refine lv_aload_n hx hb dX3_copyFrom_58 rfl (lv_at hl 1 rfl) ?_
  refine gf_RX3_65 hC hS z_h1 dX3_copyFrom_59 (fun t_59 p_59 q_59 => ?_)
  refine pf_RX3_65 hC hS z_h0 (by decide) trivial dX3_copyFrom_62 (fun f H locs hS q_62 k_62 => ?_)
  refine lv_aload_n hx hb dX3_copyFrom_65 rfl (lv_at hl 0 rfl) ?_
  refine lv_aload_n hx hb dX3_copyFrom_66 rfl (lv_at hl 1 rfl) ?_
  refine gf_RX3_68 hC hS z_h1 dX3_copyFrom_67 (fun t_67 p_67 q_67 => ?_)
  refine pf_RX3_68 hC hS z_h0 (by decide) trivial dX3_copyFrom_70 (fun f H locs hS q_70 k_70 => ?_)
  refine lv_aload_n hx hb dX3_copyFrom_73 rfl (lv_at hl 1 rfl) ?_
  refine gf_RX3_32 hC hS z_h1 dX3_copyFrom_74 (fun t_74 p_74 q_74 => ?_)
  refine lv_iconst (v := 0) hx hb dX3_copyFrom_77 (by decide) ?_
  refine lv_aload_n hx hb dX3_copyFrom_78 rfl (lv_at hl 0 rfl) ?_
  refine gf_RX3_32 hC hS z_h0 dX3_copyFrom_79 (fun t_79 p_79 q_79 => ?_)
  refine lv_iconst (v := 0) hx hb dX3_copyFrom_82 (by decide) ?_
  refine lv_bipush (v := 8) hx hb dX3_copyFrom_83 (by decide) ?_
  refine tq_copyi hC hS p_74 p_79 rfl rfl ql_RX3_87 hl.1 (by decide) (by decide) dX3_copyFrom_85 (fun f H locs hS k_85 => ?_)
  refine lv_aload_n hx hb dX3_copyFrom_88 rfl (lv_at hl 1 rfl) ?_
  refine gf_RX3_36 hC hS z_h1 dX3_copyFrom_89 (fun t_89 p_89 q_89 => ?_)
  refine lv_iconst (v := 0) hx hb dX3_copyFrom_92 (by decide) ?_
  refine lv_aload_n hx hb dX3_copyFrom_93 rfl (lv_at hl 0 rfl) ?_
  refine gf_RX3_36 hC hS z_h0 dX3_copyFrom_94 (fun t_94 p_94 q_94 => ?_)
  refine lv_iconst (v := 0) hx hb dX3_copyFrom_97 (by decide) ?_
  refine lv_bipush (v := 8) hx hb dX3_copyFrom_98 (by decide) ?_
  refine tq_copyi hC hS p_89 p_94 rfl rfl ql_RX3_87 hl.1 (by decide) (by decide) dX3_copyFrom_100 (fun f H locs hS k_100 => ?_)
  refine lv_aload_n hx hb dX3_copyFrom_103 rfl (lv_at hl 1 rfl) ?_
  refine gf_RX3_39 hC hS z_h1 dX3_copyFrom_104 (fun t_104 p_104 q_104 => ?_)
  refine lv_iconst (v := 0) hx hb dX3_copyFrom_107 (by decide) ?_
  refine lv_aload_n hx hb dX3_copyFrom_108 rfl (lv_at hl 0 rfl) ?_
  refine gf_RX3_39 hC hS z_h0 dX3_copyFrom_109 (fun t_109 p_109 q_109 => ?_)
  refine lv_iconst (v := 0) hx hb dX3_copyFrom_112 (by decide) ?_
  refine lv_bipush (v := 8) hx hb dX3_copyFrom_113 (by decide) ?_
  refine tq_copyi hC hS p_104 p_109 rfl rfl ql_RX3_87 hl.1 (by decide) (by decide) dX3_copyFrom_115 (fun f H locs hS k_115 => ?_)
  refine lv_aload_n hx hb dX3_copyFrom_118 rfl (lv_at hl 1 rfl) ?_
  refine gf_RX3_42 hC hS z_h1 dX3_copyFrom_119 (fun t_119 p_119 q_119 => ?_)
  refine lv_iconst (v := 0) hx hb dX3_copyFrom_122 (by decide) ?_
  refine lv_aload_n hx hb dX3_copyFrom_123 rfl (lv_at hl 0 rfl) ?_
  refine gf_RX3_42 hC hS z_h0 dX3_copyFrom_124 (fun t_124 p_124 q_124 => ?_)
  refine lv_iconst (v := 0) hx hb dX3_copyFrom_127 (by decide) ?_
  refine lv_bipush (v := 6) hx hb dX3_copyFrom_128 (by decide) ?_
  refine tq_copyi hC hS p_119 p_124 rfl rfl ql_RX3_87 hl.1 (by decide) (by decide) dX3_copyFrom_130 (fun f H locs hS k_130 => ?_)
  refine lv_aload_n hx hb dX3_copyFrom_133 rfl (lv_at hl 1 rfl) ?_
  refine gf_RX3_45 hC hS z_h1 dX3_copyFrom_134 (fun t_134 p_134 q_134 => ?_)
  refine lv_iconst (v := 0) hx hb dX3_copyFrom_137 (by decide) ?_
  refine lv_aload_n hx hb dX3_copyFrom_138 rfl (lv_at hl 0 rfl) ?_
  refine gf_RX3_45 hC hS z_h0 dX3_copyFrom_139 (fun t_139 p_139 q_139 => ?_)
  refine lv_iconst (v := 0) hx hb dX3_copyFrom_142 (by decide) ?_
  refine lv_bipush (v := 6) hx hb dX3_copyFrom_143 (by decide) ?_
  refine tq_copyi hC hS p_134 p_139 rfl rfl ql_RX3_87 hl.1 (by decide) (by decide) dX3_copyFrom_145 (fun f H locs hS k_145 => ?_)
  exact hret _ _ _ _ _ rfl hS dX3_copyFrom_148
set_option maxHeartbeats 4000000 in
set_option maxRecDepth 100000 in
theorem c_J7_fill_53178_1_6 (l : Launch) (X : tq_X) (Z : tq_Z) (f : Nat → va_E) (h0 : Nat) (z_h0 : tq_z Z h0 (.inr (.inl (1, 6)))) (x1 : Int32) : tq_M l X Z f [] yJ7_fill_53178 cJ7_fill_53178 4 (none) 0 [.ref h0, .int x1] tq_rv := by
  refine tq_startv (by decide) (Nat.le_of_ble_eq_true rfl) (fun p e R s m args below meth c Q hC hret hS ls hl => ?_)
  have hC : tq_C p R s m args c X (tq_A Z) RJ7 cJ7_fill_53178 4 0 := hC
  have hx := hC.1.1
  have hb := hC.1.2.1
  have hown := hC.1.2.2.2.1
  have hts := hC.1.2.2.2.2
  have hl : lv_has ls 4 [(0, .ref h0), (1, .int x1)] := hl
  generalize hf0 : f = f0 at hret
  have hS : tq_S X Z (tq_A Z) s.heap f0 [] f s.heap [] := hf0 ▸ hS
  refine lv_iconst (v := 0) hx hb dJ7_fill_53178_0 (by decide) ?_
  refine lv_istore_n (lv' := [(2, .int 0), (0, .ref h0), (1, .int x1)]) hx hb dJ7_fill_53178_1 rfl hl (by decide) rfl (fun ls hl => ?_)
  refine lv_aload_n hx hb dJ7_fill_53178_2 rfl (lv_at hl 1 rfl) ?_
  refine tq_alenA hC hS z_h0 rfl (v := 6) (by decide) dJ7_fill_53178_3 ?_
  refine lv_istore_n (lv' := [(3, .int 6), (2, .int 0), (0, .ref h0), (1, .int x1)]) hx hb dJ7_fill_53178_4 rfl hl (by decide) rfl (fun ls hl => ?_)
  have K_5 : ∀ (n_5 : Nat) (x2_5 : Int32) (f : Nat → va_E) (H : Heap) (locs : List Loc) (ls : Array Slot), tq_S X Z (tq_A Z) s.heap f0 [] f H locs → tq_iv 0 6 x2_5 → (2147483647 - x2_5.toInt).toNat < n_5 → lv_has ls 4 [(3, .int 6), (2, .int x2_5), (0, .ref h0), (1, .int x1)] → W p l e R s m args below meth c H locs 0 0 Q (F0 m 5 ls []) := by
    intro n_5
    induction n_5 with
    | zero => intro x2_5 f H locs ls  hS i1_x2_5 hn_5; exact absurd hn_5 (Nat.not_lt_zero _)
    | succ n_5 ih_5 =>
      intro x2_5 f H locs ls  hS i1_x2_5 hn_5 hl
      refine lv_iload_n hx hb dJ7_fill_53178_5 rfl (lv_at hl 1 rfl) ?_
      refine lv_iload_n hx hb dJ7_fill_53178_6 rfl (lv_at hl 0 rfl) ?_
      refine lv_icmp_ge (tgt := 20) hx hb dJ7_fill_53178_7 (by decide) (fun c_7 => ?_) (fun c_7 => ?_)
      · skip
        have i2_x2_5 : tq_iv 6 6 x2_5 := tq_cut i1_x2_5 (tq_leR c_7 (⟨by decide, by decide⟩ : tq_iv 6 6 6) i1_x2_5) (by decide) (by decide)
        exact hret _ _ _ _ _ rfl hS dJ7_fill_53178_20
      · skip
        have i3_x2_5 : tq_iv 0 5 x2_5 := tq_cut i1_x2_5 (tq_ltL (tq_nle c_7) i1_x2_5 (⟨by decide, by decide⟩ : tq_iv 6 6 6)) (by decide) (by decide)
        refine lv_aload_n hx hb dJ7_fill_53178_10 rfl (lv_at hl 2 rfl) ?_
        refine lv_iload_n hx hb dJ7_fill_53178_11 rfl (lv_at hl 1 rfl) ?_
        refine lv_iload_n hx hb dJ7_fill_53178_12 rfl (lv_at hl 3 rfl) ?_
        refine tq_iast hC hS z_h0 rfl (tq_vin i3_x2_5 (by decide) (by decide)) trivial dJ7_fill_53178_13 (fun f H locs hS k_13 => ?_)
        obtain ⟨t_14, e_14⟩ : ∃ y : Int32, y = x2_5 + 1 := ⟨_, rfl⟩
        have i4_t_14 : tq_iv 1 6 t_14 := tq_w (tq_add e_14 i3_x2_5 (⟨by decide, by decide⟩ : tq_iv 1 1 1) (by decide) (by decide)) (by decide) (by decide)
        refine lv_iinc (v := t_14) (lv' := [(2, .int t_14), (3, .int 6), (0, .ref h0), (1, .int x1)]) hx hb dJ7_fill_53178_14 hl (k := 1) rfl (by rw [e_14]; rfl) (by decide) rfl (fun ls hl => ?_)
        refine lv_goto (tgt := 5) hx hb dJ7_fill_53178_17 (by decide) ?_
        exact ih_5 t_14 _ _ _ _ hS (tq_w i4_t_14 (by decide) (by decide)) (tq_up e_14 i3_x2_5 (⟨by decide, by decide⟩ : tq_iv 1 1 1) (by decide) (by decide) hn_5) (lv_sub hl [1, 0, 2, 3] rfl)
  exact K_5 _ 0 _ _ _ _ hS (tq_w (⟨by decide, by decide⟩ : tq_iv 0 0 0) (by decide) (by decide)) (Nat.lt_succ_self _) (lv_sub hl [0, 1, 2, 3] rfl)
set_option maxHeartbeats 4000000 in
set_option maxRecDepth 100000 in
theorem c_X0_clear (l : Launch) (X : tq_X) (Z : tq_Z) (f : Nat → va_E) (h0 : Nat) (z_h0 : tq_z Z h0 (.inl 0)) : tq_M l X Z f [(0, 0), (0, 1)] yX0_clear cX0_clear 1 (none) 0 [.ref h0] tq_rv := by
  refine tq_startv (by decide) (Nat.le_of_ble_eq_true rfl) (fun p e R s m args below meth c Q hC hret hS ls hl => ?_)
  have hC : tq_C p R s m args c X (tq_A Z) RX0 cX0_clear 1 0 := hC
  have hx := hC.1.1
  have hb := hC.1.2.1
  have hown := hC.1.2.2.2.1
  have hts := hC.1.2.2.2.2
  have hl : lv_has ls 1 [(0, .ref h0)] := hl
  generalize hf0 : f = f0 at hret
  have hS : tq_S X Z (tq_A Z) s.heap f0 [(0, 0), (0, 1)] f s.heap [] := hf0 ▸ hS
  refine lv_aload_n hx hb dX0_clear_0 rfl (lv_at hl 0 rfl) ?_
  refine lv_iconst (v := 0) hx hb dX0_clear_1 (by decide) ?_
  refine pf_RX0_9 hC hS z_h0 (by decide) trivial dX0_clear_2 (fun f H locs hS q_2 k_2 => ?_)
  refine lv_aload_n hx hb dX0_clear_5 rfl (lv_at hl 0 rfl) ?_
  refine lv_iconst (v := 0) hx hb dX0_clear_6 (by decide) ?_
  refine pf_RX0_13 hC hS z_h0 (by decide) trivial dX0_clear_7 (fun f H locs hS q_7 k_7 => ?_)
  exact hret _ _ _ _ _ rfl hS dX0_clear_10
set_option maxHeartbeats 4000000 in
set_option maxRecDepth 100000 in
theorem c_X6_reset (l : Launch) (X : tq_X) (Z : tq_Z) (f : Nat → va_E) (h0 : Nat) (z_h0 : tq_z Z h0 (.inl 6)) : tq_M l X Z f [(6, 0), (6, 1), (6, 2)] yX6_reset cX6_reset 1 (none) 0 [.ref h0] tq_rv := by
  refine tq_startv (by decide) (Nat.le_of_ble_eq_true rfl) (fun p e R s m args below meth c Q hC hret hS ls hl => ?_)
  have hC : tq_C p R s m args c X (tq_A Z) RX6 cX6_reset 1 0 := hC
  have hx := hC.1.1
  have hb := hC.1.2.1
  have hown := hC.1.2.2.2.1
  have hts := hC.1.2.2.2.2
  have hl : lv_has ls 1 [(0, .ref h0)] := hl
  generalize hf0 : f = f0 at hret
  have hS : tq_S X Z (tq_A Z) s.heap f0 [(6, 0), (6, 1), (6, 2)] f s.heap [] := hf0 ▸ hS
  refine lv_aload_n hx hb dX6_reset_0 rfl (lv_at hl 0 rfl) ?_
  refine lv_iconst (v := 5) hx hb dX6_reset_1 (by decide) ?_
  refine pf_RX6_18 hC hS z_h0 (by decide) (tq_w (⟨by decide, by decide⟩ : tq_iv 5 5 5) (by decide) (by decide)) dX6_reset_2 (fun f H locs hS q_2 k_2 => ?_)
  refine lv_aload_n hx hb dX6_reset_5 rfl (lv_at hl 0 rfl) ?_
  refine lv_bipush (v := 6) hx hb dX6_reset_6 (by decide) ?_
  refine pf_RX6_22 hC hS z_h0 (by decide) (tq_w (⟨by decide, by decide⟩ : tq_iv 6 6 6) (by decide) (by decide)) dX6_reset_8 (fun f H locs hS q_8 k_8 => ?_)
  refine lv_aload_n hx hb dX6_reset_11 rfl (lv_at hl 0 rfl) ?_
  refine lv_iconst (v := 5) hx hb dX6_reset_12 (by decide) ?_
  refine pf_RX6_25 hC hS z_h0 (by decide) (tq_w (⟨by decide, by decide⟩ : tq_iv 5 5 5) (by decide) (by decide)) dX6_reset_13 (fun f H locs hS q_13 k_13 => ?_)
  exact hret _ _ _ _ _ rfl hS dX6_reset_16
set_option maxHeartbeats 4000000 in
set_option maxRecDepth 100000 in
theorem c_J7_fill_53178_1_35 (l : Launch) (X : tq_X) (Z : tq_Z) (f : Nat → va_E) (h0 : Nat) (z_h0 : tq_z Z h0 (.inr (.inl (1, 35)))) (x1 : Int32) : tq_M l X Z f [] yJ7_fill_53178 cJ7_fill_53178 4 (none) 0 [.ref h0, .int x1] tq_rv := by
  refine tq_startv (by decide) (Nat.le_of_ble_eq_true rfl) (fun p e R s m args below meth c Q hC hret hS ls hl => ?_)
  have hC : tq_C p R s m args c X (tq_A Z) RJ7 cJ7_fill_53178 4 0 := hC
  have hx := hC.1.1
  have hb := hC.1.2.1
  have hown := hC.1.2.2.2.1
  have hts := hC.1.2.2.2.2
  have hl : lv_has ls 4 [(0, .ref h0), (1, .int x1)] := hl
  generalize hf0 : f = f0 at hret
  have hS : tq_S X Z (tq_A Z) s.heap f0 [] f s.heap [] := hf0 ▸ hS
  refine lv_iconst (v := 0) hx hb dJ7_fill_53178_0 (by decide) ?_
  refine lv_istore_n (lv' := [(2, .int 0), (0, .ref h0), (1, .int x1)]) hx hb dJ7_fill_53178_1 rfl hl (by decide) rfl (fun ls hl => ?_)
  refine lv_aload_n hx hb dJ7_fill_53178_2 rfl (lv_at hl 1 rfl) ?_
  refine tq_alenA hC hS z_h0 rfl (v := 35) (by decide) dJ7_fill_53178_3 ?_
  refine lv_istore_n (lv' := [(3, .int 35), (2, .int 0), (0, .ref h0), (1, .int x1)]) hx hb dJ7_fill_53178_4 rfl hl (by decide) rfl (fun ls hl => ?_)
  have K_5 : ∀ (n_5 : Nat) (x2_5 : Int32) (f : Nat → va_E) (H : Heap) (locs : List Loc) (ls : Array Slot), tq_S X Z (tq_A Z) s.heap f0 [] f H locs → tq_iv 0 35 x2_5 → (2147483647 - x2_5.toInt).toNat < n_5 → lv_has ls 4 [(3, .int 35), (2, .int x2_5), (0, .ref h0), (1, .int x1)] → W p l e R s m args below meth c H locs 0 0 Q (F0 m 5 ls []) := by
    intro n_5
    induction n_5 with
    | zero => intro x2_5 f H locs ls  hS i1_x2_5 hn_5; exact absurd hn_5 (Nat.not_lt_zero _)
    | succ n_5 ih_5 =>
      intro x2_5 f H locs ls  hS i1_x2_5 hn_5 hl
      refine lv_iload_n hx hb dJ7_fill_53178_5 rfl (lv_at hl 1 rfl) ?_
      refine lv_iload_n hx hb dJ7_fill_53178_6 rfl (lv_at hl 0 rfl) ?_
      refine lv_icmp_ge (tgt := 20) hx hb dJ7_fill_53178_7 (by decide) (fun c_7 => ?_) (fun c_7 => ?_)
      · skip
        have i2_x2_5 : tq_iv 35 35 x2_5 := tq_cut i1_x2_5 (tq_leR c_7 (⟨by decide, by decide⟩ : tq_iv 35 35 35) i1_x2_5) (by decide) (by decide)
        exact hret _ _ _ _ _ rfl hS dJ7_fill_53178_20
      · skip
        have i3_x2_5 : tq_iv 0 34 x2_5 := tq_cut i1_x2_5 (tq_ltL (tq_nle c_7) i1_x2_5 (⟨by decide, by decide⟩ : tq_iv 35 35 35)) (by decide) (by decide)
        refine lv_aload_n hx hb dJ7_fill_53178_10 rfl (lv_at hl 2 rfl) ?_
        refine lv_iload_n hx hb dJ7_fill_53178_11 rfl (lv_at hl 1 rfl) ?_
        refine lv_iload_n hx hb dJ7_fill_53178_12 rfl (lv_at hl 3 rfl) ?_
        refine tq_iast hC hS z_h0 rfl (tq_vin i3_x2_5 (by decide) (by decide)) trivial dJ7_fill_53178_13 (fun f H locs hS k_13 => ?_)
        obtain ⟨t_14, e_14⟩ : ∃ y : Int32, y = x2_5 + 1 := ⟨_, rfl⟩
        have i4_t_14 : tq_iv 1 35 t_14 := tq_w (tq_add e_14 i3_x2_5 (⟨by decide, by decide⟩ : tq_iv 1 1 1) (by decide) (by decide)) (by decide) (by decide)
        refine lv_iinc (v := t_14) (lv' := [(2, .int t_14), (3, .int 35), (0, .ref h0), (1, .int x1)]) hx hb dJ7_fill_53178_14 hl (k := 1) rfl (by rw [e_14]; rfl) (by decide) rfl (fun ls hl => ?_)
        refine lv_goto (tgt := 5) hx hb dJ7_fill_53178_17 (by decide) ?_
        exact ih_5 t_14 _ _ _ _ hS (tq_w i4_t_14 (by decide) (by decide)) (tq_up e_14 i3_x2_5 (⟨by decide, by decide⟩ : tq_iv 1 1 1) (by decide) (by decide) hn_5) (lv_sub hl [1, 0, 2, 3] rfl)
  exact K_5 _ 0 _ _ _ _ hS (tq_w (⟨by decide, by decide⟩ : tq_iv 0 0 0) (by decide) (by decide)) (Nat.lt_succ_self _) (lv_sub hl [0, 1, 2, 3] rfl)
set_option maxHeartbeats 4000000 in
set_option maxRecDepth 100000 in
theorem c_X7_clear (l : Launch) (X : tq_X) (Z : tq_Z) (f : Nat → va_E) (h0 : Nat) (z_h0 : tq_z Z h0 (.inl 7)) : tq_M l X Z f [] yX7_clear cX7_clear 1 (none) 1 [.ref h0] tq_rv := by
  refine tq_startv (by decide) (Nat.le_of_ble_eq_true rfl) (fun p e R s m args below meth c Q hC hret hS ls hl => ?_)
  have hC : tq_C p R s m args c X (tq_A Z) RX7 cX7_clear 1 1 := hC
  have hx := hC.1.1
  have hb := hC.1.2.1
  have hown := hC.1.2.2.2.1
  have hts := hC.1.2.2.2.2
  have hl : lv_has ls 1 [(0, .ref h0)] := hl
  generalize hf0 : f = f0 at hret
  have hS : tq_S X Z (tq_A Z) s.heap f0 [] f s.heap [] := hf0 ▸ hS
  refine lv_aload_n hx hb dX7_clear_0 rfl (lv_at hl 0 rfl) ?_
  refine gf_RX7_11 hC hS z_h0 dX7_clear_1 (fun t_1 p_1 q_1 => ?_)
  refine lv_iconst (v := 0) hx hb dX7_clear_4 (by decide) ?_
  refine tq_callSv (As := [.ref t_1, .int 0]) (rest := []) hC (c_J7_fill_53178_1_35 l X Z _ t_1 p_1 0) k_J7_fill_53178 ql_RX7_15 (by decide) rfl (by decide) hS hl.1 rfl (Nat.le_of_ble_eq_true rfl) ⟨Nat.zero_le _, Nat.zero_le _⟩ dX7_clear_5 (fun f1_5 H locs hS k_5 => ?_)
  exact hret _ _ _ _ _ rfl hS dX7_clear_8
set_option maxHeartbeats 4000000 in
set_option maxRecDepth 100000 in
theorem c_X3_clear (l : Launch) (X : tq_X) (Z : tq_Z) (f : Nat → va_E) (h0 : Nat) (z_h0 : tq_z Z h0 (.inl 3)) : tq_M l X Z f [(0, 0), (0, 1), (3, 3), (3, 4), (3, 5), (3, 6), (3, 7), (6, 0), (6, 1), (6, 2)] yX3_clear cX3_clear 1 (none) 2 [.ref h0] tq_rv := by
  refine tq_startv (by decide) (Nat.le_of_ble_eq_true rfl) (fun p e R s m args below meth c Q hC hret hS ls hl => ?_)
  have hC : tq_C p R s m args c X (tq_A Z) RX3 cX3_clear 1 2 := hC
  have hx := hC.1.1
  have hb := hC.1.2.1
  have hown := hC.1.2.2.2.1
  have hts := hC.1.2.2.2.2
  have hl : lv_has ls 1 [(0, .ref h0)] := hl
  generalize hf0 : f = f0 at hret
  have hS : tq_S X Z (tq_A Z) s.heap f0 [(0, 0), (0, 1), (3, 3), (3, 4), (3, 5), (3, 6), (3, 7), (6, 0), (6, 1), (6, 2)] f s.heap [] := hf0 ▸ hS
  refine lv_aload_n hx hb dX3_clear_0 rfl (lv_at hl 0 rfl) ?_
  refine gf_RX3_12 hC hS z_h0 dX3_clear_1 (fun t_1 p_1 q_1 => ?_)
  refine tq_callVv (As := []) (rest := []) hC (c_X6_reset l X Z _ t_1 p_1) k_X6_reset ql_RX3_48 (by decide) rfl (by decide) hS p_1 rfl hl.1 rfl (Nat.le_of_ble_eq_true rfl) ⟨Nat.zero_le _, Nat.zero_le _⟩ dX3_clear_4 (fun f1_4 H locs hS k_4 => ?_)
  refine lv_aload_n hx hb dX3_clear_7 rfl (lv_at hl 0 rfl) ?_
  refine gf_RX3_21 hC hS z_h0 dX3_clear_8 (fun t_8 p_8 q_8 => ?_)
  refine tq_callVv (As := []) (rest := []) hC (c_X0_clear l X Z _ t_8 p_8) k_X0_clear ql_RX3_51 (by decide) rfl (by decide) hS p_8 rfl hl.1 rfl (Nat.le_of_ble_eq_true rfl) ⟨Nat.zero_le _, Nat.zero_le _⟩ dX3_clear_11 (fun f1_11 H locs hS k_11 => ?_)
  refine lv_aload_n hx hb dX3_clear_14 rfl (lv_at hl 0 rfl) ?_
  refine gf_RX3_28 hC hS z_h0 dX3_clear_15 (fun t_15 p_15 q_15 => ?_)
  refine tq_callVv (As := []) (rest := []) hC (c_X7_clear l X Z _ t_15 p_15) k_X7_clear ql_RX3_54 (by decide) rfl (by decide) hS p_15 rfl hl.1 rfl (Nat.le_of_ble_eq_true rfl) ⟨Nat.zero_le _, Nat.zero_le _⟩ dX3_clear_18 (fun f1_18 H locs hS k_18 => ?_)
  refine lv_aload_n hx hb dX3_clear_21 rfl (lv_at hl 0 rfl) ?_
  refine lv_iconst (v := 0) hx hb dX3_clear_22 (by decide) ?_
  refine pf_RX3_55 hC hS z_h0 (by decide) (tq_w (⟨by decide, by decide⟩ : tq_iv 0 0 0) (by decide) (by decide)) dX3_clear_23 (fun f H locs hS q_23 k_23 => ?_)
  refine lv_aload_n hx hb dX3_clear_26 rfl (lv_at hl 0 rfl) ?_
  refine lv_iconst (v := 0) hx hb dX3_clear_27 (by decide) ?_
  refine pf_RX3_59 hC hS z_h0 (by decide) trivial dX3_clear_28 (fun f H locs hS q_28 k_28 => ?_)
  refine lv_aload_n hx hb dX3_clear_31 rfl (lv_at hl 0 rfl) ?_
  refine lv_iconst (v := 0) hx hb dX3_clear_32 (by decide) ?_
  refine pf_RX3_62 hC hS z_h0 (by decide) trivial dX3_clear_33 (fun f H locs hS q_33 k_33 => ?_)
  refine lv_aload_n hx hb dX3_clear_36 rfl (lv_at hl 0 rfl) ?_
  refine lv_iconst (v := 0) hx hb dX3_clear_37 (by decide) ?_
  refine pf_RX3_65 hC hS z_h0 (by decide) trivial dX3_clear_38 (fun f H locs hS q_38 k_38 => ?_)
  refine lv_aload_n hx hb dX3_clear_41 rfl (lv_at hl 0 rfl) ?_
  refine lv_iconst (v := 0) hx hb dX3_clear_42 (by decide) ?_
  refine pf_RX3_68 hC hS z_h0 (by decide) trivial dX3_clear_43 (fun f H locs hS q_43 k_43 => ?_)
  refine lv_aload_n hx hb dX3_clear_46 rfl (lv_at hl 0 rfl) ?_
  refine gf_RX3_42 hC hS z_h0 dX3_clear_47 (fun t_47 p_47 q_47 => ?_)
  refine lv_iconst (v := 0) hx hb dX3_clear_50 (by decide) ?_
  refine tq_callSv (As := [.ref t_47, .int 0]) (rest := []) hC (c_J7_fill_53178_1_6 l X Z _ t_47 p_47 0) k_J7_fill_53178 ql_RX3_71 (by decide) rfl (by decide) hS hl.1 rfl (Nat.le_of_ble_eq_true rfl) ⟨Nat.zero_le _, Nat.zero_le _⟩ dX3_clear_51 (fun f1_51 H locs hS k_51 => ?_)
  refine lv_aload_n hx hb dX3_clear_54 rfl (lv_at hl 0 rfl) ?_
  refine gf_RX3_45 hC hS z_h0 dX3_clear_55 (fun t_55 p_55 q_55 => ?_)
  refine lv_iconst (v := 0) hx hb dX3_clear_58 (by decide) ?_
  refine tq_callSv (As := [.ref t_55, .int 0]) (rest := []) hC (c_J7_fill_53178_1_6 l X Z _ t_55 p_55 0) k_J7_fill_53178 ql_RX3_71 (by decide) rfl (by decide) hS hl.1 rfl (Nat.le_of_ble_eq_true rfl) ⟨Nat.zero_le _, Nat.zero_le _⟩ dX3_clear_59 (fun f1_59 H locs hS k_59 => ?_)
  exact hret _ _ _ _ _ rfl hS dX3_clear_62
set_option maxHeartbeats 4000000 in
set_option maxRecDepth 100000 in
theorem c_X4_blame (l : Launch) (X : tq_X) (Z : tq_Z) (f : Nat → va_E) (h0 : Nat) (z_h0 : tq_z Z h0 (.inl 4)) (x1 : Int32) : tq_M l X Z f [(4, 1), (4, 2)] yX4_blame cX4_blame 2 (some .boolean) 0 [.ref h0, .int x1] (tq_ri 0 0) := by
  refine tq_starti (by decide) (Nat.le_of_ble_eq_true rfl) (fun p e R s m args below meth c Q hC hret hS ls hl => ?_)
  have hC : tq_C p R s m args c X (tq_A Z) RX4 cX4_blame 2 0 := hC
  have hx := hC.1.1
  have hb := hC.1.2.1
  have hown := hC.1.2.2.2.1
  have hts := hC.1.2.2.2.2
  have hl : lv_has ls 2 [(0, .ref h0), (1, .int x1)] := hl
  generalize hf0 : f = f0 at hret
  have hS : tq_S X Z (tq_A Z) s.heap f0 [(4, 1), (4, 2)] f s.heap [] := hf0 ▸ hS
  refine lv_aload_n hx hb dX4_blame_0 rfl (lv_at hl 0 rfl) ?_
  refine lv_iload_n hx hb dX4_blame_1 rfl (lv_at hl 1 rfl) ?_
  refine pf_RX4_18 hC hS z_h0 (by decide) trivial dX4_blame_2 (fun f H locs hS q_2 k_2 => ?_)
  refine lv_aload_n hx hb dX4_blame_5 rfl (lv_at hl 0 rfl) ?_
  refine lv_aload_n hx hb dX4_blame_6 rfl (lv_at hl 0 rfl) ?_
  refine gf_RX4_30 hC hS z_h0 dX4_blame_7 (fun t_7 p_7 q_7 => ?_)
  refine gf_RX4_56 hC hS p_7 dX4_blame_10 (fun t_10 p_10 q_10 => ?_)
  refine pf_RX4_22 hC hS z_h0 (by decide) trivial dX4_blame_13 (fun f H locs hS q_13 k_13 => ?_)
  refine lv_iconst (v := 0) hx hb dX4_blame_16 (by decide) ?_
  exact hret 0 _ _ _ _ _ (tq_nb (⟨by decide, by decide⟩ : tq_iv 0 0 0) (by decide) (by decide)) ⟨_, rfl, tq_w (⟨by decide, by decide⟩ : tq_iv 0 0 0) (by decide) (by decide)⟩ hS dX4_blame_17
set_option maxHeartbeats 4000000 in
set_option maxRecDepth 100000 in
theorem c_X4_refuse (l : Launch) (X : tq_X) (Z : tq_Z) (f : Nat → va_E) (h0 : Nat) (z_h0 : tq_z Z h0 (.inl 4)) : tq_M l X Z f [(4, 1), (4, 2)] yX4_refuse cX4_refuse 1 (some .boolean) 1 [.ref h0] (tq_ri 0 0) := by
  refine tq_starti (by decide) (Nat.le_of_ble_eq_true rfl) (fun p e R s m args below meth c Q hC hret hS ls hl => ?_)
  have hC : tq_C p R s m args c X (tq_A Z) RX4 cX4_refuse 1 1 := hC
  have hx := hC.1.1
  have hb := hC.1.2.1
  have hown := hC.1.2.2.2.1
  have hts := hC.1.2.2.2.2
  have hl : lv_has ls 1 [(0, .ref h0)] := hl
  generalize hf0 : f = f0 at hret
  have hS : tq_S X Z (tq_A Z) s.heap f0 [(4, 1), (4, 2)] f s.heap [] := hf0 ▸ hS
  refine lv_aload_n hx hb dX4_refuse_0 rfl (lv_at hl 0 rfl) ?_
  refine lv_aload_n hx hb dX4_refuse_1 rfl (lv_at hl 0 rfl) ?_
  refine gf_RX4_30 hC hS z_h0 dX4_refuse_2 (fun t_2 p_2 q_2 => ?_)
  refine gf_RX4_49 hC hS p_2 dX4_refuse_5 (fun t_5 p_5 q_5 => ?_)
  refine lv_bipush (v := 25) hx hb dX4_refuse_8 (by decide) ?_
  have K_18 : ∀ (y0_18 : Nat) (y1_18 : Int32) (f : Nat → va_E) (H : Heap) (locs : List Loc) (ls : Array Slot), tq_z Z y0_18 (.inl 4) → tq_S X Z (tq_A Z) s.heap f0 [(4, 1), (4, 2)] f H locs → tq_iv 1 2 y1_18 → lv_has ls 1 [] → W p l e R s m args below meth c H locs 0 0 Q (F0 m 18 ls [.int y1_18, .ref y0_18]) := by
    intro y0_18 y1_18 f H locs ls z_y0_18 hS i1_y1_18 hl
    refine tq_callVi (As := [.int y1_18]) (rest := []) hC (c_X4_blame l X Z _ y0_18 z_y0_18 y1_18) k_X4_blame ql_RX4_59 (by decide) rfl (by decide) hS z_y0_18 rfl hl.1 rfl (Nat.le_of_ble_eq_true rfl) ⟨Nat.zero_le _, Nat.zero_le _⟩ dX4_refuse_18 (fun t_18 f1_18 H locs p_18 hS k_18 => ?_)
    exact hret t_18 _ _ _ _ _ (tq_nb p_18 (by decide) (by decide)) ⟨_, rfl, tq_w p_18 (by decide) (by decide)⟩ hS dX4_refuse_21
  refine lv_icmp_ne (tgt := 17) hx hb dX4_refuse_10 (by decide) (fun c_10 => ?_) (fun c_10 => ?_)
  · skip
    refine lv_iconst (v := 2) hx hb dX4_refuse_17 (by decide) ?_
    exact K_18 h0 2 _ _ _ _ z_h0 hS (tq_w (⟨by decide, by decide⟩ : tq_iv 2 2 2) (by decide) (by decide)) (lv_sub hl [] rfl)
  · skip
    have i2_t_5 : tq_iv 25 25 t_5 := tq_cut (tq_top t_5) (tq_eqL c_10 (⟨by decide, by decide⟩ : tq_iv 25 25 25)) (by decide) (by decide)
    refine lv_iconst (v := 1) hx hb dX4_refuse_13 (by decide) ?_
    refine lv_goto (tgt := 18) hx hb dX4_refuse_14 (by decide) ?_
    exact K_18 h0 1 _ _ _ _ z_h0 hS (tq_w (⟨by decide, by decide⟩ : tq_iv 1 1 1) (by decide) (by decide)) (lv_sub hl [] rfl)
set_option maxHeartbeats 4000000 in
set_option maxRecDepth 100000 in
theorem c_J0_isLatin1_aae02_1 (l : Launch) (X : tq_X) (Z : tq_Z) (f : Nat → va_E)  : tq_Mp l X Z f yJ0_isLatin1_aae02 cJ0_isLatin1_aae02 1 (some .boolean) 0 [.ref (X.2.2.2.1 1)] (tq_ri 1 1) := by
  refine tq_startip (by decide) (Nat.le_of_ble_eq_true rfl) (fun p e R s m args below meth c Q hC hret hS ls hl => ?_)
  have hC : tq_C p R s m args c X (tq_A Z) RJ0 cJ0_isLatin1_aae02 1 0 := hC
  have hx := hC.1.1
  have hb := hC.1.2.1
  have hown := hC.1.2.2.2.1
  have hts := hC.1.2.2.2.2
  have hl : lv_has ls 1 [(0, .ref (X.2.2.2.1 1))] := hl
  refine va_gets hx hb hC.2.2.2.2.2.2.2 hS.2.2.1 hown (hts _ qs_RJ0_38) (fun _ h9 => h9) dJ0_isLatin1_aae02_0 ?_
  have K_18 : ∀ (y0_18 : Int32) (ls : Array Slot), tq_iv 1 1 y0_18 → lv_has ls 1 [] → W p l e R s m args below meth c s.heap [] 0 0 Q (F0 m 18 ls [.int y0_18]) := by
    intro y0_18 ls  i1_y0_18 hl
    exact hret y0_18 _ _ (tq_nb i1_y0_18 (by decide) (by decide)) ⟨_, rfl, tq_w i1_y0_18 (by decide) (by decide)⟩ dJ0_isLatin1_aae02_18
  refine lv_if_eq (tgt := 17) hx hb dJ0_isLatin1_aae02_3 (by decide) (fun c_3 => ?_) (fun c_3 => ?_)
  · skip
    exact (tq_xeq c_3 (⟨by decide, by decide⟩ : tq_iv 1 1 1) (⟨by decide, by decide⟩ : tq_iv 0 0 0) (by decide)).elim
  · skip
    refine lv_aload_n hx hb dJ0_isLatin1_aae02_6 rfl (lv_at hl 0 rfl) ?_
    refine vk_getf hx hb (hC.2.2.2.2.1.1 1 (by decide)).2.1 hS.2.2.1 hown (hts _ qs_RJ0_15) (fun _ h9 => h9) dJ0_isLatin1_aae02_7 ?_
    refine lv_if_ne (tgt := 17) hx hb dJ0_isLatin1_aae02_10 (by decide) (fun c_10 => ?_) (fun c_10 => ?_)
    · skip
      exact (tq_xne c_10 (⟨by decide, by decide⟩ : tq_iv 0 0 0) (⟨by decide, by decide⟩ : tq_iv 0 0 0) (by decide)).elim
    · skip
      refine lv_iconst (v := 1) hx hb dJ0_isLatin1_aae02_13 (by decide) ?_
      refine lv_goto (tgt := 18) hx hb dJ0_isLatin1_aae02_14 (by decide) ?_
      exact K_18 1 _ (tq_w (⟨by decide, by decide⟩ : tq_iv 1 1 1) (by decide) (by decide)) (lv_sub hl [] rfl)
set_option maxHeartbeats 4000000 in
set_option maxRecDepth 100000 in
theorem c_J0_coder_7d493_1 (l : Launch) (X : tq_X) (Z : tq_Z) (f : Nat → va_E)  : tq_Mp l X Z f yJ0_coder_7d493 cJ0_coder_7d493 1 (some .byte) 0 [.ref (X.2.2.2.1 1)] (tq_ri 0 0) := by
  refine tq_startip (by decide) (Nat.le_of_ble_eq_true rfl) (fun p e R s m args below meth c Q hC hret hS ls hl => ?_)
  have hC : tq_C p R s m args c X (tq_A Z) RJ0 cJ0_coder_7d493 1 0 := hC
  have hx := hC.1.1
  have hb := hC.1.2.1
  have hown := hC.1.2.2.2.1
  have hts := hC.1.2.2.2.2
  have hl : lv_has ls 1 [(0, .ref (X.2.2.2.1 1))] := hl
  refine va_gets hx hb hC.2.2.2.2.2.2.2 hS.2.2.1 hown (hts _ qs_RJ0_38) (fun _ h9 => h9) dJ0_coder_7d493_0 ?_
  have K_14 : ∀ (y0_14 : Int32) (ls : Array Slot), tq_iv 0 0 y0_14 → lv_has ls 1 [] → W p l e R s m args below meth c s.heap [] 0 0 Q (F0 m 14 ls [.int y0_14]) := by
    intro y0_14 ls  i1_y0_14 hl
    exact hret y0_14 _ _ (tq_nby i1_y0_14 (by decide) (by decide)) ⟨_, rfl, tq_w i1_y0_14 (by decide) (by decide)⟩ dJ0_coder_7d493_14
  refine lv_if_eq (tgt := 13) hx hb dJ0_coder_7d493_3 (by decide) (fun c_3 => ?_) (fun c_3 => ?_)
  · skip
    exact (tq_xeq c_3 (⟨by decide, by decide⟩ : tq_iv 1 1 1) (⟨by decide, by decide⟩ : tq_iv 0 0 0) (by decide)).elim
  · skip
    refine lv_aload_n hx hb dJ0_coder_7d493_6 rfl (lv_at hl 0 rfl) ?_
    refine vk_getf hx hb (hC.2.2.2.2.1.1 1 (by decide)).2.1 hS.2.2.1 hown (hts _ qs_RJ0_15) (fun _ h9 => h9) dJ0_coder_7d493_7 ?_
    refine lv_goto (tgt := 14) hx hb dJ0_coder_7d493_10 (by decide) ?_
    exact K_14 0 _ (tq_w (⟨by decide, by decide⟩ : tq_iv 0 0 0) (by decide) (by decide)) (lv_sub hl [] rfl)
set_option maxHeartbeats 4000000 in
set_option maxRecDepth 100000 in
theorem c_J0_length_8abf5_1 (l : Launch) (X : tq_X) (Z : tq_Z) (f : Nat → va_E)  : tq_Mp l X Z f yJ0_length_8abf5 cJ0_length_8abf5 1 (some .int) 1 [.ref (X.2.2.2.1 1)] (tq_ri (-2147483648) 2147483647) := by
  refine tq_startip (by decide) (Nat.le_of_ble_eq_true rfl) (fun p e R s m args below meth c Q hC hret hS ls hl => ?_)
  have hC : tq_C p R s m args c X (tq_A Z) RJ0 cJ0_length_8abf5 1 1 := hC
  have hx := hC.1.1
  have hb := hC.1.2.1
  have hown := hC.1.2.2.2.1
  have hts := hC.1.2.2.2.2
  have hl : lv_has ls 1 [(0, .ref (X.2.2.2.1 1))] := hl
  refine lv_aload_n hx hb dJ0_length_8abf5_0 rfl (lv_at hl 0 rfl) ?_
  refine vk_getf hx hb (hC.2.2.2.2.1.1 1 (by decide)).2.2.1 hS.2.2.1 hown (hts _ qs_RJ0_9) (fun _ h9 => h9) dJ0_length_8abf5_1 ?_
  refine va_tlen hx hb (hC.2.2.2.2.1.1 1 (by decide)).2.2.2 hS.2.2.1 (v := 11) (by decide) dJ0_length_8abf5_4 ?_
  refine lv_aload_n hx hb dJ0_length_8abf5_5 rfl (lv_at hl 0 rfl) ?_
  refine tq_callUpi (As := []) (rest := [.int 11]) hC (c_J0_coder_7d493_1 l X Z _ ) k_J0_coder_7d493 ql_RJ0_335 rfl (by decide) hS (vk_recv hC.2.2.2.2.1 (i := 1) (by decide) hS.2.2.1) hl.1 rfl (Nat.le_of_ble_eq_true rfl) ⟨Nat.zero_le _, Nat.zero_le _⟩ dJ0_length_8abf5_6 (fun t_6 p_6 => ?_)
  refine lv_ishr hx hb dJ0_length_8abf5_9 ?_
  refine lv_topi (fun t_9 e_9 => ?_)
  exact hret t_9 _ _ rfl ⟨_, rfl, tq_w (tq_top t_9) (by decide) (by decide)⟩ dJ0_length_8abf5_10
set_option maxHeartbeats 4000000 in
set_option maxRecDepth 100000 in
theorem c_J1_canEncode_9a6ad (l : Launch) (X : tq_X) (Z : tq_Z) (f : Nat → va_E) (x0 : Int32) : tq_Mp l X Z f yJ1_canEncode_9a6ad cJ1_canEncode_9a6ad 1 (some .boolean) 0 [.int x0] (tq_ri 0 1) := by
  refine tq_startip (by decide) (Nat.le_of_ble_eq_true rfl) (fun p e R s m args below meth c Q hC hret hS ls hl => ?_)
  have hC : tq_C p R s m args c X (tq_A Z) RJ1 cJ1_canEncode_9a6ad 1 0 := hC
  have hx := hC.1.1
  have hb := hC.1.2.1
  have hown := hC.1.2.2.2.1
  have hts := hC.1.2.2.2.2
  have hl : lv_has ls 1 [(0, .int x0)] := hl
  refine lv_iload_n hx hb dJ1_canEncode_9a6ad_0 rfl (lv_at hl 0 rfl) ?_
  have K_16 : ∀ (y0_16 : Int32) (ls : Array Slot), tq_iv 0 1 y0_16 → lv_has ls 1 [] → W p l e R s m args below meth c s.heap [] 0 0 Q (F0 m 16 ls [.int y0_16]) := by
    intro y0_16 ls  i1_y0_16 hl
    exact hret y0_16 _ _ (tq_nb i1_y0_16 (by decide) (by decide)) ⟨_, rfl, tq_w i1_y0_16 (by decide) (by decide)⟩ dJ1_canEncode_9a6ad_16
  have K_15 : ∀ (ls : Array Slot), lv_has ls 1 [] → W p l e R s m args below meth c s.heap [] 0 0 Q (F0 m 15 ls []) := by
    intro  ls  hl
    refine lv_iconst (v := 0) hx hb dJ1_canEncode_9a6ad_15 (by decide) ?_
    exact K_16 0 _ (tq_w (⟨by decide, by decide⟩ : tq_iv 0 0 0) (by decide) (by decide)) (lv_sub hl [] rfl)
  refine lv_if_lt (tgt := 15) hx hb dJ1_canEncode_9a6ad_1 (by decide) (fun c_1 => ?_) (fun c_1 => ?_)
  · skip
    have i2_x0 : tq_iv (-2147483648) (-1) x0 := tq_cut (tq_top x0) (tq_ltL c_1 (tq_top x0) (⟨by decide, by decide⟩ : tq_iv 0 0 0)) (by decide) (by decide)
    exact K_15 _ (lv_sub hl [] rfl)
  · skip
    have i3_x0 : tq_iv 0 2147483647 x0 := tq_cut (tq_top x0) (tq_leR (tq_nlt c_1) (⟨by decide, by decide⟩ : tq_iv 0 0 0) (tq_top x0)) (by decide) (by decide)
    refine lv_iload_n hx hb dJ1_canEncode_9a6ad_4 rfl (lv_at hl 0 rfl) ?_
    refine lv_sipush (v := 255) hx hb dJ1_canEncode_9a6ad_5 (by decide) ?_
    refine lv_icmp_gt (tgt := 15) hx hb dJ1_canEncode_9a6ad_8 (by decide) (fun c_8 => ?_) (fun c_8 => ?_)
    · skip
      have i4_x0 : tq_iv 256 2147483647 x0 := tq_cut i3_x0 (tq_ltR c_8 (⟨by decide, by decide⟩ : tq_iv 255 255 255) i3_x0) (by decide) (by decide)
      exact K_15 _ (lv_sub hl [] rfl)
    · skip
      have i5_x0 : tq_iv 0 255 x0 := tq_cut i3_x0 (tq_leL (tq_nlt c_8) i3_x0 (⟨by decide, by decide⟩ : tq_iv 255 255 255)) (by decide) (by decide)
      refine lv_iconst (v := 1) hx hb dJ1_canEncode_9a6ad_11 (by decide) ?_
      refine lv_goto (tgt := 16) hx hb dJ1_canEncode_9a6ad_12 (by decide) ?_
      exact K_16 1 _ (tq_w (⟨by decide, by decide⟩ : tq_iv 1 1 1) (by decide) (by decide)) (lv_sub hl [] rfl)
set_option maxHeartbeats 4000000 in
set_option maxRecDepth 100000 in
theorem c_J1_indexOfChar_4cfef_1_0_0_1_11 (l : Launch) (X : tq_X) (Z : tq_Z) (f : Nat → va_E) (x1 : Int32) (x2 : Int32) (i_x2 : tq_iv 0 0 x2) (x3 : Int32) (i_x3 : tq_iv 1 11 x3) : tq_Mp l X Z f yJ1_indexOfChar_4cfef cJ1_indexOfChar_4cfef 6 (some .int) 0 [.ref (X.2.2.2.2 1), .int x1, .int x2, .int x3] (tq_ri (-1) 10) := by
  refine tq_startip (by decide) (Nat.le_of_ble_eq_true rfl) (fun p e R s m args below meth c Q hC hret hS ls hl => ?_)
  have hC : tq_C p R s m args c X (tq_A Z) RJ1 cJ1_indexOfChar_4cfef 6 0 := hC
  have hx := hC.1.1
  have hb := hC.1.2.1
  have hown := hC.1.2.2.2.1
  have hts := hC.1.2.2.2.2
  have hl : lv_has ls 6 [(0, .ref (X.2.2.2.2 1)), (1, .int x1), (2, .int x2), (3, .int x3)] := hl
  refine lv_iload_n hx hb dJ1_indexOfChar_4cfef_0 rfl (lv_at hl 1 rfl) ?_
  refine lv_i2b hx hb dJ1_indexOfChar_4cfef_1 rfl ?_
  refine lv_topi (fun t_1 e_1 => ?_)
  refine lv_istore (lv' := [(4, .int t_1), (0, .ref (X.2.2.2.2 1)), (1, .int x1), (2, .int x2), (3, .int x3)]) hx hb dJ1_indexOfChar_4cfef_2 hl (by decide) rfl (fun ls hl => ?_)
  refine lv_iload_n hx hb dJ1_indexOfChar_4cfef_4 rfl (lv_at hl 3 rfl) ?_
  refine lv_istore (lv' := [(5, .int x2), (4, .int t_1), (0, .ref (X.2.2.2.2 1)), (1, .int x1), (2, .int x2), (3, .int x3)]) hx hb dJ1_indexOfChar_4cfef_5 hl (by decide) rfl (fun ls hl => ?_)
  have K_7 : ∀ (n_7 : Nat) (x5_7 : Int32) (ls : Array Slot), tq_iv 0 11 x5_7 → (2147483647 - x5_7.toInt).toNat < n_7 → lv_has ls 6 [(5, .int x5_7), (4, .int t_1), (0, .ref (X.2.2.2.2 1)), (3, .int x3)] → W p l e R s m args below meth c s.heap [] 0 0 Q (F0 m 7 ls []) := by
    intro n_7
    induction n_7 with
    | zero => intro x5_7 ls  i1_x5_7 hn_7; exact absurd hn_7 (Nat.not_lt_zero _)
    | succ n_7 ih_7 =>
      intro x5_7 ls  i1_x5_7 hn_7 hl
      refine lv_iload hx hb dJ1_indexOfChar_4cfef_7 (lv_at hl 0 rfl) ?_
      refine lv_iload_n hx hb dJ1_indexOfChar_4cfef_9 rfl (lv_at hl 3 rfl) ?_
      refine lv_icmp_ge (tgt := 31) hx hb dJ1_indexOfChar_4cfef_10 (by decide) (fun c_10 => ?_) (fun c_10 => ?_)
      · skip
        have i2_x5_7 : tq_iv 1 11 x5_7 := tq_cut i1_x5_7 (tq_leR c_10 i_x3 i1_x5_7) (by decide) (by decide)
        refine lv_iconst (v := -1) hx hb dJ1_indexOfChar_4cfef_31 (by decide) ?_
        exact hret (-1) _ _ rfl ⟨_, rfl, tq_w (⟨by decide, by decide⟩ : tq_iv (-1) (-1) (-1)) (by decide) (by decide)⟩ dJ1_indexOfChar_4cfef_32
      · skip
        have i3_x5_7 : tq_iv 0 10 x5_7 := tq_cut i1_x5_7 (tq_ltL (tq_nle c_10) i1_x5_7 i_x3) (by decide) (by decide)
        refine lv_aload_n hx hb dJ1_indexOfChar_4cfef_13 rfl (lv_at hl 2 rfl) ?_
        refine lv_iload hx hb dJ1_indexOfChar_4cfef_14 (lv_at hl 0 rfl) ?_
        refine va_tb hx hb (hC.2.2.2.2.1.1 1 (by decide)).2.2.2 hS.2.2.1 (tq_vin i3_x5_7 (by decide) (by decide)) rfl dJ1_indexOfChar_4cfef_16 ?_
        refine lv_topi (fun t_16 e_16 => ?_)
        refine lv_iload hx hb dJ1_indexOfChar_4cfef_17 (lv_at hl 1 rfl) ?_
        refine lv_icmp_ne (tgt := 25) hx hb dJ1_indexOfChar_4cfef_19 (by decide) (fun c_19 => ?_) (fun c_19 => ?_)
        · skip
          obtain ⟨t_25, e_25⟩ : ∃ y : Int32, y = x5_7 + 1 := ⟨_, rfl⟩
          have i4_t_25 : tq_iv 1 11 t_25 := tq_w (tq_add e_25 i3_x5_7 (⟨by decide, by decide⟩ : tq_iv 1 1 1) (by decide) (by decide)) (by decide) (by decide)
          refine lv_iinc (v := t_25) (lv' := [(5, .int t_25), (4, .int t_1), (0, .ref (X.2.2.2.2 1)), (3, .int x3)]) hx hb dJ1_indexOfChar_4cfef_25 hl (k := 0) rfl (by rw [e_25]; rfl) (by decide) rfl (fun ls hl => ?_)
          refine lv_goto (tgt := 7) hx hb dJ1_indexOfChar_4cfef_28 (by decide) ?_
          exact ih_7 t_25 _ (tq_w i4_t_25 (by decide) (by decide)) (tq_up e_25 i3_x5_7 (⟨by decide, by decide⟩ : tq_iv 1 1 1) (by decide) (by decide) hn_7) (lv_sub hl [0, 1, 2, 3] rfl)
        · skip
          refine lv_iload hx hb dJ1_indexOfChar_4cfef_22 (lv_at hl 0 rfl) ?_
          exact hret x5_7 _ _ rfl ⟨_, rfl, tq_w i3_x5_7 (by decide) (by decide)⟩ dJ1_indexOfChar_4cfef_24
  exact K_7 _ x2 _ (tq_w i_x2 (by decide) (by decide)) (Nat.lt_succ_self _) (lv_sub hl [0, 1, 2, 5] rfl)
set_option maxHeartbeats 4000000 in
set_option maxRecDepth 100000 in
theorem c_J1_indexOf_4cfef_1_0_0_m2147483648_2147483647 (l : Launch) (X : tq_X) (Z : tq_Z) (f : Nat → va_E) (x1 : Int32) (x2 : Int32) (i_x2 : tq_iv 0 0 x2) (x3 : Int32) (i_x3 : tq_iv (-2147483648) 2147483647 x3) : tq_Mp l X Z f yJ1_indexOf_4cfef cJ1_indexOf_4cfef 4 (some .int) 1 [.ref (X.2.2.2.2 1), .int x1, .int x2, .int x3] (tq_ri (-1) 10) := by
  refine tq_startip (by decide) (Nat.le_of_ble_eq_true rfl) (fun p e R s m args below meth c Q hC hret hS ls hl => ?_)
  have hC : tq_C p R s m args c X (tq_A Z) RJ1 cJ1_indexOf_4cfef 4 1 := hC
  have hx := hC.1.1
  have hb := hC.1.2.1
  have hown := hC.1.2.2.2.1
  have hts := hC.1.2.2.2.2
  have hl : lv_has ls 4 [(0, .ref (X.2.2.2.2 1)), (1, .int x1), (2, .int x2), (3, .int x3)] := hl
  refine lv_iload_n hx hb dJ1_indexOf_4cfef_0 rfl (lv_at hl 1 rfl) ?_
  refine tq_callSpi (As := [.int x1]) (rest := []) hC (c_J1_canEncode_9a6ad l X Z _ x1) k_J1_canEncode_9a6ad ql_RJ1_88 rfl (by decide) hS hl.1 rfl (Nat.le_of_ble_eq_true rfl) ⟨Nat.zero_le _, Nat.zero_le _⟩ dJ1_indexOf_4cfef_1 (fun t_1 p_1 => ?_)
  refine lv_if_ne (tgt := 9) hx hb dJ1_indexOf_4cfef_4 (by decide) (fun c_4 => ?_) (fun c_4 => ?_)
  · skip
    have i1_t_1 : tq_iv 1 1 t_1 := tq_w (tq_neLo c_4 p_1 (⟨by decide, by decide⟩ : tq_iv 0 0 0)) (by decide) (by decide)
    refine lv_iload_n hx hb dJ1_indexOf_4cfef_9 rfl (lv_at hl 2 rfl) ?_
    refine lv_iconst (v := 0) hx hb dJ1_indexOf_4cfef_10 (by decide) ?_
    refine va_mmax hx hb (hC.1.2.2.1.trans hl.1.symm) hown (hts _ ql_RJ1_92) (hts _ qm_max_s) (hts _ qm_i) (hts _ qm_max_c) (Nat.le_trans (by decide) hC.2.2.1) (Nat.le_trans (Nat.le_of_ble_eq_true rfl) hC.2.2.2.1) (Nat.zero_le _) (Nat.zero_le _) dJ1_indexOf_4cfef_11 ?_
    refine lv_topi (fun t_11 e_11 => ?_)
    have i2_t_11 : tq_iv 0 0 t_11 := tq_w (tq_max e_11 i_x2 (⟨by decide, by decide⟩ : tq_iv 0 0 0)) (by decide) (by decide)
    refine lv_istore_n (lv' := [(2, .int t_11), (0, .ref (X.2.2.2.2 1)), (1, .int x1), (3, .int x3)]) hx hb dJ1_indexOf_4cfef_14 rfl hl (by decide) rfl (fun ls hl => ?_)
    refine lv_iload_n hx hb dJ1_indexOf_4cfef_15 rfl (lv_at hl 3 rfl) ?_
    refine lv_aload_n hx hb dJ1_indexOf_4cfef_16 rfl (lv_at hl 1 rfl) ?_
    refine va_tlen hx hb (hC.2.2.2.2.1.1 1 (by decide)).2.2.2 hS.2.2.1 (v := 11) (by decide) dJ1_indexOf_4cfef_17 ?_
    refine va_mmin hx hb (hC.1.2.2.1.trans hl.1.symm) hown (hts _ ql_RJ1_38) (hts _ qm_min_s) (hts _ qm_i) (hts _ qm_min_c) (Nat.le_trans (by decide) hC.2.2.1) (Nat.le_trans (Nat.le_of_ble_eq_true rfl) hC.2.2.2.1) (Nat.zero_le _) (Nat.zero_le _) dJ1_indexOf_4cfef_18 ?_
    refine lv_topi (fun t_18 e_18 => ?_)
    have i3_t_18 : tq_iv (-2147483648) 11 t_18 := tq_w (tq_min e_18 (tq_top x3) (⟨by decide, by decide⟩ : tq_iv 11 11 11)) (by decide) (by decide)
    refine lv_istore_n (lv' := [(3, .int t_18), (2, .int t_11), (0, .ref (X.2.2.2.2 1)), (1, .int x1)]) hx hb dJ1_indexOf_4cfef_21 rfl hl (by decide) rfl (fun ls hl => ?_)
    refine lv_iload_n hx hb dJ1_indexOf_4cfef_22 rfl (lv_at hl 1 rfl) ?_
    refine lv_iload_n hx hb dJ1_indexOf_4cfef_23 rfl (lv_at hl 0 rfl) ?_
    refine lv_icmp_lt (tgt := 29) hx hb dJ1_indexOf_4cfef_24 (by decide) (fun c_24 => ?_) (fun c_24 => ?_)
    · skip
      have i4_t_18 : tq_iv 1 11 t_18 := tq_cut i3_t_18 (tq_ltR c_24 i2_t_11 i3_t_18) (by decide) (by decide)
      refine lv_aload_n hx hb dJ1_indexOf_4cfef_29 rfl (lv_at hl 2 rfl) ?_
      refine lv_iload_n hx hb dJ1_indexOf_4cfef_30 rfl (lv_at hl 3 rfl) ?_
      refine lv_iload_n hx hb dJ1_indexOf_4cfef_31 rfl (lv_at hl 1 rfl) ?_
      refine lv_iload_n hx hb dJ1_indexOf_4cfef_32 rfl (lv_at hl 0 rfl) ?_
      refine tq_callSpi (As := [.ref (X.2.2.2.2 1), .int x1, .int t_11, .int t_18]) (rest := []) hC (c_J1_indexOfChar_4cfef_1_0_0_1_11 l X Z _ x1 t_11 (tq_w i2_t_11 (by decide) (by decide)) t_18 (tq_w i4_t_18 (by decide) (by decide))) k_J1_indexOfChar_4cfef ql_RJ1_95 rfl (by decide) hS hl.1 rfl (Nat.le_of_ble_eq_true rfl) ⟨Nat.zero_le _, Nat.zero_le _⟩ dJ1_indexOf_4cfef_33 (fun t_33 p_33 => ?_)
      exact hret t_33 _ _ rfl ⟨_, rfl, tq_w p_33 (by decide) (by decide)⟩ dJ1_indexOf_4cfef_36
    · skip
      have i5_t_18 : tq_iv (-2147483648) 0 t_18 := tq_cut i3_t_18 (tq_leL (tq_nlt c_24) i3_t_18 i2_t_11) (by decide) (by decide)
      refine lv_iconst (v := -1) hx hb dJ1_indexOf_4cfef_27 (by decide) ?_
      exact hret (-1) _ _ rfl ⟨_, rfl, tq_w (⟨by decide, by decide⟩ : tq_iv (-1) (-1) (-1)) (by decide) (by decide)⟩ dJ1_indexOf_4cfef_28
  · skip
    have i6_t_1 : tq_iv 0 0 t_1 := tq_cut p_1 (tq_eqL c_4 (⟨by decide, by decide⟩ : tq_iv 0 0 0)) (by decide) (by decide)
    refine lv_iconst (v := -1) hx hb dJ1_indexOf_4cfef_7 (by decide) ?_
    exact hret (-1) _ _ rfl ⟨_, rfl, tq_w (⟨by decide, by decide⟩ : tq_iv (-1) (-1) (-1)) (by decide) (by decide)⟩ dJ1_indexOf_4cfef_8
set_option maxHeartbeats 4000000 in
set_option maxRecDepth 100000 in
theorem c_J0_indexOf_7cf53_1_0_0 (l : Launch) (X : tq_X) (Z : tq_Z) (f : Nat → va_E) (x1 : Int32) (x2 : Int32) (i_x2 : tq_iv 0 0 x2) : tq_Mp l X Z f yJ0_indexOf_7cf53 cJ0_indexOf_7cf53 3 (some .int) 2 [.ref (X.2.2.2.1 1), .int x1, .int x2] (tq_ri (-1) 10) := by
  refine tq_startip (by decide) (Nat.le_of_ble_eq_true rfl) (fun p e R s m args below meth c Q hC hret hS ls hl => ?_)
  have hC : tq_C p R s m args c X (tq_A Z) RJ0 cJ0_indexOf_7cf53 3 2 := hC
  have hx := hC.1.1
  have hb := hC.1.2.1
  have hown := hC.1.2.2.2.1
  have hts := hC.1.2.2.2.2
  have hl : lv_has ls 3 [(0, .ref (X.2.2.2.1 1)), (1, .int x1), (2, .int x2)] := hl
  refine lv_aload_n hx hb dJ0_indexOf_7cf53_0 rfl (lv_at hl 0 rfl) ?_
  refine tq_callUpi (As := []) (rest := []) hC (c_J0_isLatin1_aae02_1 l X Z _ ) k_J0_isLatin1_aae02 ql_RJ0_492 rfl (by decide) hS (vk_recv hC.2.2.2.2.1 (i := 1) (by decide) hS.2.2.1) hl.1 rfl (Nat.le_of_ble_eq_true rfl) ⟨Nat.zero_le _, Nat.zero_le _⟩ dJ0_indexOf_7cf53_1 (fun t_1 p_1 => ?_)
  have K_36 : ∀ (y0_36 : Int32) (ls : Array Slot), tq_iv (-1) 10 y0_36 → lv_has ls 3 [] → W p l e R s m args below meth c s.heap [] 0 0 Q (F0 m 36 ls [.int y0_36]) := by
    intro y0_36 ls  i1_y0_36 hl
    exact hret y0_36 _ _ rfl ⟨_, rfl, tq_w i1_y0_36 (by decide) (by decide)⟩ dJ0_indexOf_7cf53_36
  refine lv_if_eq (tgt := 23) hx hb dJ0_indexOf_7cf53_4 (by decide) (fun c_4 => ?_) (fun c_4 => ?_)
  · skip
    exact (tq_xeq c_4 p_1 (⟨by decide, by decide⟩ : tq_iv 0 0 0) (by decide)).elim
  · skip
    refine lv_aload_n hx hb dJ0_indexOf_7cf53_7 rfl (lv_at hl 0 rfl) ?_
    refine vk_getf hx hb (hC.2.2.2.2.1.1 1 (by decide)).2.2.1 hS.2.2.1 hown (hts _ qs_RJ0_9) (fun _ h9 => h9) dJ0_indexOf_7cf53_8 ?_
    refine lv_iload_n hx hb dJ0_indexOf_7cf53_11 rfl (lv_at hl 1 rfl) ?_
    refine lv_iload_n hx hb dJ0_indexOf_7cf53_12 rfl (lv_at hl 2 rfl) ?_
    refine lv_aload_n hx hb dJ0_indexOf_7cf53_13 rfl (lv_at hl 0 rfl) ?_
    refine tq_callUpi (As := []) (rest := [.int x2, .int x1, .ref (X.2.2.2.2 1)]) hC (c_J0_length_8abf5_1 l X Z _ ) k_J0_length_8abf5 ql_RJ0_505 rfl (by decide) hS (vk_recv hC.2.2.2.2.1 (i := 1) (by decide) hS.2.2.1) hl.1 rfl (Nat.le_of_ble_eq_true rfl) ⟨Nat.zero_le _, Nat.zero_le _⟩ dJ0_indexOf_7cf53_14 (fun t_14 p_14 => ?_)
    refine tq_callSpi (As := [.ref (X.2.2.2.2 1), .int x1, .int x2, .int t_14]) (rest := []) hC (c_J1_indexOf_4cfef_1_0_0_m2147483648_2147483647 l X Z _ x1 x2 (tq_w i_x2 (by decide) (by decide)) t_14 (tq_w (tq_top t_14) (by decide) (by decide))) k_J1_indexOf_4cfef ql_RJ0_637 rfl (by decide) hS hl.1 rfl (Nat.le_of_ble_eq_true rfl) ⟨Nat.zero_le _, Nat.zero_le _⟩ dJ0_indexOf_7cf53_17 (fun t_17 p_17 => ?_)
    refine lv_goto (tgt := 36) hx hb dJ0_indexOf_7cf53_20 (by decide) ?_
    exact K_36 t_17 _ (tq_w p_17 (by decide) (by decide)) (lv_sub hl [] rfl)
set_option maxHeartbeats 4000000 in
set_option maxRecDepth 100000 in
theorem c_J0_indexOf_0f7a4_1 (l : Launch) (X : tq_X) (Z : tq_Z) (f : Nat → va_E) (x1 : Int32) : tq_Mp l X Z f yJ0_indexOf_0f7a4 cJ0_indexOf_0f7a4 2 (some .int) 3 [.ref (X.2.2.2.1 1), .int x1] (tq_ri (-1) 10) := by
  refine tq_startip (by decide) (Nat.le_of_ble_eq_true rfl) (fun p e R s m args below meth c Q hC hret hS ls hl => ?_)
  have hC : tq_C p R s m args c X (tq_A Z) RJ0 cJ0_indexOf_0f7a4 2 3 := hC
  have hx := hC.1.1
  have hb := hC.1.2.1
  have hown := hC.1.2.2.2.1
  have hts := hC.1.2.2.2.2
  have hl : lv_has ls 2 [(0, .ref (X.2.2.2.1 1)), (1, .int x1)] := hl
  refine lv_aload_n hx hb dJ0_indexOf_0f7a4_0 rfl (lv_at hl 0 rfl) ?_
  refine lv_iload_n hx hb dJ0_indexOf_0f7a4_1 rfl (lv_at hl 1 rfl) ?_
  refine lv_iconst (v := 0) hx hb dJ0_indexOf_0f7a4_2 (by decide) ?_
  refine tq_callUpi (As := [.int x1, .int 0]) (rest := []) hC (c_J0_indexOf_7cf53_1_0_0 l X Z _ x1 0 (tq_w (⟨by decide, by decide⟩ : tq_iv 0 0 0) (by decide) (by decide))) k_J0_indexOf_7cf53 ql_RJ0_633 rfl (by decide) hS (vk_recv hC.2.2.2.2.1 (i := 1) (by decide) hS.2.2.1) hl.1 rfl (Nat.le_of_ble_eq_true rfl) ⟨Nat.zero_le _, Nat.zero_le _⟩ dJ0_indexOf_0f7a4_3 (fun t_3 p_3 => ?_)
  exact hret t_3 _ _ rfl ⟨_, rfl, tq_w p_3 (by decide) (by decide)⟩ dJ0_indexOf_0f7a4_6
set_option maxHeartbeats 4000000 in
set_option maxRecDepth 100000 in
theorem c_X9_byteAt (l : Launch) (X : tq_X) (Z : tq_Z) (f : Nat → va_E) (h0 : Nat) (z_h0 : tq_z Z h0 (.inl 9)) (x1 : Int32) : tq_Mp l X Z f yX9_byteAt cX9_byteAt 2 (some .int) 0 [.ref h0, .int x1] (tq_ri (-1) 255) := by
  refine tq_startip (by decide) (Nat.le_of_ble_eq_true rfl) (fun p e R s m args below meth c Q hC hret hS ls hl => ?_)
  have hC : tq_C p R s m args c X (tq_A Z) RX9 cX9_byteAt 2 0 := hC
  have hx := hC.1.1
  have hb := hC.1.2.1
  have hown := hC.1.2.2.2.1
  have hts := hC.1.2.2.2.2
  have hl : lv_has ls 2 [(0, .ref h0), (1, .int x1)] := hl
  refine lv_iload_n hx hb dX9_byteAt_0 rfl (lv_at hl 1 rfl) ?_
  have K_35 : ∀ (y0_35 : Int32) (ls : Array Slot), tq_iv (-1) 255 y0_35 → lv_has ls 2 [] → W p l e R s m args below meth c s.heap [] 0 0 Q (F0 m 35 ls [.int y0_35]) := by
    intro y0_35 ls  i1_y0_35 hl
    exact hret y0_35 _ _ rfl ⟨_, rfl, tq_w i1_y0_35 (by decide) (by decide)⟩ dX9_byteAt_35
  have K_34 : ∀ (ls : Array Slot), lv_has ls 2 [] → W p l e R s m args below meth c s.heap [] 0 0 Q (F0 m 34 ls []) := by
    intro  ls  hl
    refine lv_iconst (v := -1) hx hb dX9_byteAt_34 (by decide) ?_
    exact K_35 (-1) _ (tq_w (⟨by decide, by decide⟩ : tq_iv (-1) (-1) (-1)) (by decide) (by decide)) (lv_sub hl [] rfl)
  refine lv_if_lt (tgt := 34) hx hb dX9_byteAt_1 (by decide) (fun c_1 => ?_) (fun c_1 => ?_)
  · skip
    have i2_x1 : tq_iv (-2147483648) (-1) x1 := tq_cut (tq_top x1) (tq_ltL c_1 (tq_top x1) (⟨by decide, by decide⟩ : tq_iv 0 0 0)) (by decide) (by decide)
    exact K_34 _ (lv_sub hl [] rfl)
  · skip
    have i3_x1 : tq_iv 0 2147483647 x1 := tq_cut (tq_top x1) (tq_leR (tq_nlt c_1) (⟨by decide, by decide⟩ : tq_iv 0 0 0) (tq_top x1)) (by decide) (by decide)
    refine lv_iload_n hx hb dX9_byteAt_4 rfl (lv_at hl 1 rfl) ?_
    refine lv_aload_n hx hb dX9_byteAt_5 rfl (lv_at hl 0 rfl) ?_
    refine gf_RX9_41 hC hS z_h0 dX9_byteAt_6 (fun t_6 p_6 q_6 => ?_)
    refine lv_icmp_ge (tgt := 34) hx hb dX9_byteAt_9 (by decide) (fun c_9 => ?_) (fun c_9 => ?_)
    · skip
      exact K_34 _ (lv_sub hl [] rfl)
    · skip
      have i4_x1 : tq_iv 0 2147483646 x1 := tq_cut i3_x1 (tq_ltL (tq_nle c_9) i3_x1 (tq_top t_6)) (by decide) (by decide)
      have i5_t_6 : tq_iv 1 2147483647 t_6 := tq_cut (tq_top t_6) (tq_ltR (tq_nle c_9) i3_x1 (tq_top t_6)) (by decide) (by decide)
      refine lv_iload_n hx hb dX9_byteAt_12 rfl (lv_at hl 1 rfl) ?_
      refine lv_aload_n hx hb dX9_byteAt_13 rfl (lv_at hl 0 rfl) ?_
      refine gf_RX9_9 hC hS z_h0 dX9_byteAt_14 (fun t_14 p_14 q_14 => ?_)
      refine tq_alenB hC hS p_14 rfl (v := 1600) (by decide) dX9_byteAt_17 ?_
      refine lv_icmp_ge (tgt := 34) hx hb dX9_byteAt_18 (by decide) (fun c_18 => ?_) (fun c_18 => ?_)
      · skip
        have i6_x1 : tq_iv 1600 2147483646 x1 := tq_cut i4_x1 (tq_leR c_18 (⟨by decide, by decide⟩ : tq_iv 1600 1600 1600) i4_x1) (by decide) (by decide)
        exact K_34 _ (lv_sub hl [] rfl)
      · skip
        have i7_x1 : tq_iv 0 1599 x1 := tq_cut i4_x1 (tq_ltL (tq_nle c_18) i4_x1 (⟨by decide, by decide⟩ : tq_iv 1600 1600 1600)) (by decide) (by decide)
        refine lv_aload_n hx hb dX9_byteAt_21 rfl (lv_at hl 0 rfl) ?_
        refine gf_RX9_9 hC hS z_h0 dX9_byteAt_22 (fun t_22 p_22 q_22 => ?_)
        refine lv_iload_n hx hb dX9_byteAt_25 rfl (lv_at hl 1 rfl) ?_
        refine tq_bald hC hS p_22 rfl (tq_vin i7_x1 (by decide) (by decide)) dX9_byteAt_26 (fun t_26 p_26 => ?_)
        refine lv_sipush (v := 255) hx hb dX9_byteAt_27 (by decide) ?_
        refine lv_iand hx hb dX9_byteAt_30 ?_
        refine lv_topi (fun t_30 e_30 => ?_)
        have i8_t_30 : tq_iv 0 255 t_30 := tq_and2 e_30 (⟨by decide, by decide⟩ : tq_iv 255 255 255) (by decide)
        refine lv_goto (tgt := 35) hx hb dX9_byteAt_31 (by decide) ?_
        exact K_35 t_30 _ (tq_w i8_t_30 (by decide) (by decide)) (lv_sub hl [] rfl)
set_option maxHeartbeats 4000000 in
set_option maxRecDepth 100000 in
theorem c_X9_isDigit (l : Launch) (X : tq_X) (Z : tq_Z) (f : Nat → va_E) (x0 : Int32) : tq_Mp l X Z f yX9_isDigit cX9_isDigit 1 (some .boolean) 0 [.int x0] (tq_ri 0 1) := by
  refine tq_startip (by decide) (Nat.le_of_ble_eq_true rfl) (fun p e R s m args below meth c Q hC hret hS ls hl => ?_)
  have hC : tq_C p R s m args c X (tq_A Z) RX9 cX9_isDigit 1 0 := hC
  have hx := hC.1.1
  have hb := hC.1.2.1
  have hown := hC.1.2.2.2.1
  have hts := hC.1.2.2.2.2
  have hl : lv_has ls 1 [(0, .int x0)] := hl
  refine lv_iload_n hx hb dX9_isDigit_0 rfl (lv_at hl 0 rfl) ?_
  refine lv_bipush (v := 48) hx hb dX9_isDigit_1 (by decide) ?_
  have K_17 : ∀ (y0_17 : Int32) (ls : Array Slot), tq_iv 0 1 y0_17 → lv_has ls 1 [] → W p l e R s m args below meth c s.heap [] 0 0 Q (F0 m 17 ls [.int y0_17]) := by
    intro y0_17 ls  i1_y0_17 hl
    exact hret y0_17 _ _ (tq_nb i1_y0_17 (by decide) (by decide)) ⟨_, rfl, tq_w i1_y0_17 (by decide) (by decide)⟩ dX9_isDigit_17
  have K_16 : ∀ (ls : Array Slot), lv_has ls 1 [] → W p l e R s m args below meth c s.heap [] 0 0 Q (F0 m 16 ls []) := by
    intro  ls  hl
    refine lv_iconst (v := 0) hx hb dX9_isDigit_16 (by decide) ?_
    exact K_17 0 _ (tq_w (⟨by decide, by decide⟩ : tq_iv 0 0 0) (by decide) (by decide)) (lv_sub hl [] rfl)
  refine lv_icmp_lt (tgt := 16) hx hb dX9_isDigit_3 (by decide) (fun c_3 => ?_) (fun c_3 => ?_)
  · skip
    have i2_x0 : tq_iv (-2147483648) 47 x0 := tq_cut (tq_top x0) (tq_ltL c_3 (tq_top x0) (⟨by decide, by decide⟩ : tq_iv 48 48 48)) (by decide) (by decide)
    exact K_16 _ (lv_sub hl [] rfl)
  · skip
    have i3_x0 : tq_iv 48 2147483647 x0 := tq_cut (tq_top x0) (tq_leR (tq_nlt c_3) (⟨by decide, by decide⟩ : tq_iv 48 48 48) (tq_top x0)) (by decide) (by decide)
    refine lv_iload_n hx hb dX9_isDigit_6 rfl (lv_at hl 0 rfl) ?_
    refine lv_bipush (v := 57) hx hb dX9_isDigit_7 (by decide) ?_
    refine lv_icmp_gt (tgt := 16) hx hb dX9_isDigit_9 (by decide) (fun c_9 => ?_) (fun c_9 => ?_)
    · skip
      have i4_x0 : tq_iv 58 2147483647 x0 := tq_cut i3_x0 (tq_ltR c_9 (⟨by decide, by decide⟩ : tq_iv 57 57 57) i3_x0) (by decide) (by decide)
      exact K_16 _ (lv_sub hl [] rfl)
    · skip
      have i5_x0 : tq_iv 48 57 x0 := tq_cut i3_x0 (tq_leL (tq_nlt c_9) i3_x0 (⟨by decide, by decide⟩ : tq_iv 57 57 57)) (by decide) (by decide)
      refine lv_iconst (v := 1) hx hb dX9_isDigit_12 (by decide) ?_
      refine lv_goto (tgt := 17) hx hb dX9_isDigit_13 (by decide) ?_
      exact K_17 1 _ (tq_w (⟨by decide, by decide⟩ : tq_iv 1 1 1) (by decide) (by decide)) (lv_sub hl [] rfl)
set_option maxHeartbeats 4000000 in
set_option maxRecDepth 100000 in
theorem c_X9_isLetter (l : Launch) (X : tq_X) (Z : tq_Z) (f : Nat → va_E) (x0 : Int32) : tq_Mp l X Z f yX9_isLetter cX9_isLetter 1 (some .boolean) 0 [.int x0] (tq_ri 0 1) := by
  refine tq_startip (by decide) (Nat.le_of_ble_eq_true rfl) (fun p e R s m args below meth c Q hC hret hS ls hl => ?_)
  have hC : tq_C p R s m args c X (tq_A Z) RX9 cX9_isLetter 1 0 := hC
  have hx := hC.1.1
  have hb := hC.1.2.1
  have hown := hC.1.2.2.2.1
  have hts := hC.1.2.2.2.2
  have hl : lv_has ls 1 [(0, .int x0)] := hl
  refine lv_iload_n hx hb dX9_isLetter_0 rfl (lv_at hl 0 rfl) ?_
  refine lv_bipush (v := 97) hx hb dX9_isLetter_1 (by decide) ?_
  have K_17 : ∀ (y0_17 : Int32) (ls : Array Slot), tq_iv 0 1 y0_17 → lv_has ls 1 [] → W p l e R s m args below meth c s.heap [] 0 0 Q (F0 m 17 ls [.int y0_17]) := by
    intro y0_17 ls  i1_y0_17 hl
    exact hret y0_17 _ _ (tq_nb i1_y0_17 (by decide) (by decide)) ⟨_, rfl, tq_w i1_y0_17 (by decide) (by decide)⟩ dX9_isLetter_17
  have K_16 : ∀ (ls : Array Slot), lv_has ls 1 [] → W p l e R s m args below meth c s.heap [] 0 0 Q (F0 m 16 ls []) := by
    intro  ls  hl
    refine lv_iconst (v := 0) hx hb dX9_isLetter_16 (by decide) ?_
    exact K_17 0 _ (tq_w (⟨by decide, by decide⟩ : tq_iv 0 0 0) (by decide) (by decide)) (lv_sub hl [] rfl)
  refine lv_icmp_lt (tgt := 16) hx hb dX9_isLetter_3 (by decide) (fun c_3 => ?_) (fun c_3 => ?_)
  · skip
    have i2_x0 : tq_iv (-2147483648) 96 x0 := tq_cut (tq_top x0) (tq_ltL c_3 (tq_top x0) (⟨by decide, by decide⟩ : tq_iv 97 97 97)) (by decide) (by decide)
    exact K_16 _ (lv_sub hl [] rfl)
  · skip
    have i3_x0 : tq_iv 97 2147483647 x0 := tq_cut (tq_top x0) (tq_leR (tq_nlt c_3) (⟨by decide, by decide⟩ : tq_iv 97 97 97) (tq_top x0)) (by decide) (by decide)
    refine lv_iload_n hx hb dX9_isLetter_6 rfl (lv_at hl 0 rfl) ?_
    refine lv_bipush (v := 122) hx hb dX9_isLetter_7 (by decide) ?_
    refine lv_icmp_gt (tgt := 16) hx hb dX9_isLetter_9 (by decide) (fun c_9 => ?_) (fun c_9 => ?_)
    · skip
      have i4_x0 : tq_iv 123 2147483647 x0 := tq_cut i3_x0 (tq_ltR c_9 (⟨by decide, by decide⟩ : tq_iv 122 122 122) i3_x0) (by decide) (by decide)
      exact K_16 _ (lv_sub hl [] rfl)
    · skip
      have i5_x0 : tq_iv 97 122 x0 := tq_cut i3_x0 (tq_leL (tq_nlt c_9) i3_x0 (⟨by decide, by decide⟩ : tq_iv 122 122 122)) (by decide) (by decide)
      refine lv_iconst (v := 1) hx hb dX9_isLetter_12 (by decide) ?_
      refine lv_goto (tgt := 17) hx hb dX9_isLetter_13 (by decide) ?_
      exact K_17 1 _ (tq_w (⟨by decide, by decide⟩ : tq_iv 1 1 1) (by decide) (by decide)) (lv_sub hl [] rfl)
set_option maxHeartbeats 4000000 in
set_option maxRecDepth 100000 in
theorem c_X9_readNumber (l : Launch) (X : tq_X) (Z : tq_Z) (f : Nat → va_E) (h0 : Nat) (z_h0 : tq_z Z h0 (.inl 9)) : tq_M l X Z f [(9, 3), (9, 4), (9, 6)] yX9_readNumber cX9_readNumber 1 (none) 1 [.ref h0] tq_rv := by
  refine tq_startv (by decide) (Nat.le_of_ble_eq_true rfl) (fun p e R s m args below meth c Q hC hret hS ls hl => ?_)
  have hC : tq_C p R s m args c X (tq_A Z) RX9 cX9_readNumber 1 1 := hC
  have hx := hC.1.1
  have hb := hC.1.2.1
  have hown := hC.1.2.2.2.1
  have hts := hC.1.2.2.2.2
  have hl : lv_has ls 1 [(0, .ref h0)] := hl
  generalize hf0 : f = f0 at hret
  have hS : tq_S X Z (tq_A Z) s.heap f0 [(9, 3), (9, 4), (9, 6)] f s.heap [] := hf0 ▸ hS
  obtain ⟨w0, p_w0, q_w0⟩ := tq_ghi hS z_h0 (k := 3) rfl
  refine lv_aload_n hx hb dX9_readNumber_0 rfl (lv_at hl 0 rfl) ?_
  refine lv_iconst (v := 0) hx hb dX9_readNumber_1 (by decide) ?_
  refine pf_RX9_84 hC hS z_h0 (by decide) trivial dX9_readNumber_2 (fun f H locs hS q_2 k_2 => ?_)
  have q1_2 := k_2 _ _ _ (Or.inr (by decide)) q_w0
  have K_5 : ∀ (n_5 : Nat) (w0_5 : Int32) (f : Nat → va_E) (H : Heap) (locs : List Loc) (ls : Array Slot), tq_S X Z (tq_A Z) s.heap f0 [(9, 3), (9, 4), (9, 6)] f H locs → tq_f f h0 3 (.int w0_5) → (2147483647 - w0_5.toInt).toNat < n_5 → lv_has ls 1 [(0, .ref h0)] → W p l e R s m args below meth c H locs 0 0 Q (F0 m 5 ls []) := by
    intro n_5
    induction n_5 with
    | zero => intro w0_5 f H locs ls  hS fo0_5 hn_5; exact absurd hn_5 (Nat.not_lt_zero _)
    | succ n_5 ih_5 =>
      intro w0_5 f H locs ls  hS fo0_5 hn_5 hl
      refine lv_aload_n hx hb dX9_readNumber_5 rfl (lv_at hl 0 rfl) ?_
      refine gk_RX9_44 hC hS z_h0 fo0_5 dX9_readNumber_6 ?_
      refine lv_aload_n hx hb dX9_readNumber_9 rfl (lv_at hl 0 rfl) ?_
      refine gf_RX9_41 hC hS z_h0 dX9_readNumber_10 (fun t_10 p_10 q_10 => ?_)
      have K_66 : ∀ (f : Nat → va_E) (H : Heap) (locs : List Loc) (ls : Array Slot), tq_S X Z (tq_A Z) s.heap f0 [(9, 3), (9, 4), (9, 6)] f H locs → tq_f f h0 3 (.int w0_5) → lv_has ls 1 [(0, .ref h0)] → W p l e R s m args below meth c H locs 0 0 Q (F0 m 66 ls []) := by
        intro f H locs ls  hS fo0_66 hl
        refine lv_aload_n hx hb dX9_readNumber_66 rfl (lv_at hl 0 rfl) ?_
        refine lv_aload_n hx hb dX9_readNumber_67 rfl (lv_at hl 0 rfl) ?_
        refine gk_RX9_44 hC hS z_h0 fo0_66 dX9_readNumber_68 ?_
        refine lv_aload_n hx hb dX9_readNumber_71 rfl (lv_at hl 0 rfl) ?_
        refine gf_RX9_56 hC hS z_h0 dX9_readNumber_72 (fun t_72 p_72 q_72 => ?_)
        refine lv_isub hx hb dX9_readNumber_75 ?_
        refine lv_topi (fun t_75 e_75 => ?_)
        refine lv_iconst (v := 4) hx hb dX9_readNumber_76 (by decide) ?_
        have K_101 : ∀ (y0_101 : Nat) (y1_101 : Int32) (f : Nat → va_E) (H : Heap) (locs : List Loc) (ls : Array Slot), tq_z Z y0_101 (.inl 9) → tq_S X Z (tq_A Z) s.heap f0 [(9, 3), (9, 4), (9, 6)] f H locs → tq_f f h0 3 (.int w0_5) → tq_iv 24 25 y1_101 → lv_has ls 1 [] → W p l e R s m args below meth c H locs 0 0 Q (F0 m 101 ls [.int y1_101, .ref y0_101]) := by
          intro y0_101 y1_101 f H locs ls z_y0_101 hS fo0_101 i2_y1_101 hl
          refine pf_RX9_59 hC hS z_y0_101 (by decide) trivial dX9_readNumber_101 (fun f H locs hS q_101 k_101 => ?_)
          have q3_101 := k_101 _ _ _ (Or.inr (by decide)) fo0_101
          exact hret _ _ _ _ _ rfl hS dX9_readNumber_104
        have K_94 : ∀ (y0_94 : Nat) (f : Nat → va_E) (H : Heap) (locs : List Loc) (ls : Array Slot), tq_z Z y0_94 (.inl 9) → tq_S X Z (tq_A Z) s.heap f0 [(9, 3), (9, 4), (9, 6)] f H locs → tq_f f h0 3 (.int w0_5) → lv_has ls 1 [] → W p l e R s m args below meth c H locs 0 0 Q (F0 m 94 ls [.ref y0_94]) := by
          intro y0_94 f H locs ls z_y0_94 hS fo0_94 hl
          refine lv_bipush (v := 25) hx hb dX9_readNumber_94 (by decide) ?_
          refine lv_goto (tgt := 101) hx hb dX9_readNumber_96 (by decide) ?_
          exact K_101 y0_94 25 _ _ _ _ z_y0_94 hS fo0_94 (tq_w (⟨by decide, by decide⟩ : tq_iv 25 25 25) (by decide) (by decide)) (lv_sub hl [] rfl)
        refine lv_icmp_gt (tgt := 94) hx hb dX9_readNumber_77 (by decide) (fun c_77 => ?_) (fun c_77 => ?_)
        · skip
          have i4_t_75 : tq_iv 5 2147483647 t_75 := tq_cut (tq_top t_75) (tq_ltR c_77 (⟨by decide, by decide⟩ : tq_iv 4 4 4) (tq_top t_75)) (by decide) (by decide)
          exact K_94 h0 _ _ _ _ z_h0 hS fo0_66 (lv_sub hl [] rfl)
        · skip
          have i5_t_75 : tq_iv (-2147483648) 4 t_75 := tq_cut (tq_top t_75) (tq_leL (tq_nlt c_77) (tq_top t_75) (⟨by decide, by decide⟩ : tq_iv 4 4 4)) (by decide) (by decide)
          refine lv_aload_n hx hb dX9_readNumber_80 rfl (lv_at hl 0 rfl) ?_
          refine lv_aload_n hx hb dX9_readNumber_81 rfl (lv_at hl 0 rfl) ?_
          refine gk_RX9_44 hC hS z_h0 fo0_66 dX9_readNumber_82 ?_
          refine tq_callVpi (As := [.int w0_5]) (rest := [.ref h0]) hC (c_X9_byteAt l X Z _ h0 z_h0 w0_5) k_X9_byteAt ql_RX9_52 rfl (by decide) hS z_h0 rfl hl.1 rfl (Nat.le_of_ble_eq_true rfl) ⟨Nat.zero_le _, Nat.zero_le _⟩ dX9_readNumber_85 (fun t_85 p_85 => ?_)
          refine tq_callSpi (As := [.int t_85]) (rest := [.ref h0]) hC (c_X9_isLetter l X Z _ t_85) k_X9_isLetter ql_RX9_62 rfl (by decide) hS hl.1 rfl (Nat.le_of_ble_eq_true rfl) ⟨Nat.zero_le _, Nat.zero_le _⟩ dX9_readNumber_88 (fun t_88 p_88 => ?_)
          refine lv_if_eq (tgt := 99) hx hb dX9_readNumber_91 (by decide) (fun c_91 => ?_) (fun c_91 => ?_)
          · skip
            have i6_t_88 : tq_iv 0 0 t_88 := tq_cut p_88 (tq_eqL c_91 (⟨by decide, by decide⟩ : tq_iv 0 0 0)) (by decide) (by decide)
            refine lv_bipush (v := 24) hx hb dX9_readNumber_99 (by decide) ?_
            exact K_101 h0 24 _ _ _ _ z_h0 hS fo0_66 (tq_w (⟨by decide, by decide⟩ : tq_iv 24 24 24) (by decide) (by decide)) (lv_sub hl [] rfl)
          · skip
            have i7_t_88 : tq_iv 1 1 t_88 := tq_w (tq_neLo c_91 p_88 (⟨by decide, by decide⟩ : tq_iv 0 0 0)) (by decide) (by decide)
            exact K_94 h0 _ _ _ _ z_h0 hS fo0_66 (lv_sub hl [] rfl)
      refine lv_icmp_ge (tgt := 66) hx hb dX9_readNumber_13 (by decide) (fun c_13 => ?_) (fun c_13 => ?_)
      · skip
        exact K_66 _ _ _ _ hS fo0_5 (lv_sub hl [0] rfl)
      · skip
        have i8_w0_5 : tq_iv (-2147483648) 2147483646 w0_5 := tq_cut (tq_top w0_5) (tq_ltL (tq_nle c_13) (tq_top w0_5) (tq_top t_10)) (by decide) (by decide)
        have i9_t_10 : tq_iv (-2147483647) 2147483647 t_10 := tq_cut (tq_top t_10) (tq_ltR (tq_nle c_13) (tq_top w0_5) (tq_top t_10)) (by decide) (by decide)
        refine lv_aload_n hx hb dX9_readNumber_16 rfl (lv_at hl 0 rfl) ?_
        refine lv_aload_n hx hb dX9_readNumber_17 rfl (lv_at hl 0 rfl) ?_
        refine gk_RX9_44 hC hS z_h0 fo0_5 dX9_readNumber_18 ?_
        refine tq_callVpi (As := [.int w0_5]) (rest := []) hC (c_X9_byteAt l X Z _ h0 z_h0 w0_5) k_X9_byteAt ql_RX9_52 rfl (by decide) hS z_h0 rfl hl.1 rfl (Nat.le_of_ble_eq_true rfl) ⟨Nat.zero_le _, Nat.zero_le _⟩ dX9_readNumber_21 (fun t_21 p_21 => ?_)
        refine tq_callSpi (As := [.int t_21]) (rest := []) hC (c_X9_isDigit l X Z _ t_21) k_X9_isDigit ql_RX9_69 rfl (by decide) hS hl.1 rfl (Nat.le_of_ble_eq_true rfl) ⟨Nat.zero_le _, Nat.zero_le _⟩ dX9_readNumber_24 (fun t_24 p_24 => ?_)
        refine lv_if_eq (tgt := 66) hx hb dX9_readNumber_27 (by decide) (fun c_27 => ?_) (fun c_27 => ?_)
        · skip
          have i10_t_24 : tq_iv 0 0 t_24 := tq_cut p_24 (tq_eqL c_27 (⟨by decide, by decide⟩ : tq_iv 0 0 0)) (by decide) (by decide)
          exact K_66 _ _ _ _ hS fo0_5 (lv_sub hl [0] rfl)
        · skip
          have i11_t_24 : tq_iv 1 1 t_24 := tq_w (tq_neLo c_27 p_24 (⟨by decide, by decide⟩ : tq_iv 0 0 0)) (by decide) (by decide)
          refine lv_aload_n hx hb dX9_readNumber_30 rfl (lv_at hl 0 rfl) ?_
          refine lv_aload_n hx hb dX9_readNumber_31 rfl (lv_at hl 0 rfl) ?_
          refine gf_RX9_84 hC hS z_h0 dX9_readNumber_32 (fun t_32 p_32 q_32 => ?_)
          refine lv_bipush (v := 10) hx hb dX9_readNumber_35 (by decide) ?_
          refine lv_imul hx hb dX9_readNumber_37 ?_
          refine lv_topi (fun t_37 e_37 => ?_)
          refine lv_aload_n hx hb dX9_readNumber_38 rfl (lv_at hl 0 rfl) ?_
          refine lv_aload_n hx hb dX9_readNumber_39 rfl (lv_at hl 0 rfl) ?_
          refine gk_RX9_44 hC hS z_h0 fo0_5 dX9_readNumber_40 ?_
          refine tq_callVpi (As := [.int w0_5]) (rest := [.int t_37, .ref h0]) hC (c_X9_byteAt l X Z _ h0 z_h0 w0_5) k_X9_byteAt ql_RX9_52 rfl (by decide) hS z_h0 rfl hl.1 rfl (Nat.le_of_ble_eq_true rfl) ⟨Nat.zero_le _, Nat.zero_le _⟩ dX9_readNumber_43 (fun t_43 p_43 => ?_)
          refine lv_bipush (v := 48) hx hb dX9_readNumber_46 (by decide) ?_
          refine lv_isub hx hb dX9_readNumber_48 ?_
          refine lv_topi (fun t_48 e_48 => ?_)
          have i12_t_48 : tq_iv (-49) 207 t_48 := tq_w (tq_sub e_48 p_43 (⟨by decide, by decide⟩ : tq_iv 48 48 48) (by decide) (by decide)) (by decide) (by decide)
          refine lv_iadd hx hb dX9_readNumber_49 ?_
          refine lv_topi (fun t_49 e_49 => ?_)
          refine pf_RX9_84 hC hS z_h0 (by decide) trivial dX9_readNumber_50 (fun f H locs hS q_50 k_50 => ?_)
          have q13_50 := k_50 _ _ _ (Or.inr (by decide)) fo0_5
          refine lv_aload_n hx hb dX9_readNumber_53 rfl (lv_at hl 0 rfl) ?_
          refine lv_dup hx hb dX9_readNumber_54 rfl ?_
          refine gk_RX9_44 hC hS z_h0 q13_50 dX9_readNumber_55 ?_
          refine lv_iconst (v := 1) hx hb dX9_readNumber_58 (by decide) ?_
          refine lv_iadd hx hb dX9_readNumber_59 ?_
          refine lv_topi (fun t_59 e_59 => ?_)
          have i14_t_59 : tq_iv (-2147483647) 2147483647 t_59 := tq_w (tq_add e_59 i8_w0_5 (⟨by decide, by decide⟩ : tq_iv 1 1 1) (by decide) (by decide)) (by decide) (by decide)
          refine pf_RX9_44 hC hS z_h0 (by decide) trivial dX9_readNumber_60 (fun f H locs hS q_60 k_60 => ?_)
          refine lv_goto (tgt := 5) hx hb dX9_readNumber_63 (by decide) ?_
          exact ih_5 t_59 _ _ _ _ hS q_60 (tq_up e_59 i8_w0_5 (⟨by decide, by decide⟩ : tq_iv 1 1 1) (by decide) (by decide) hn_5) (lv_sub hl [0] rfl)
  exact K_5 _ w0 _ _ _ _ hS q1_2 (Nat.lt_succ_self _) (lv_sub hl [0] rfl)
set_option maxHeartbeats 4000000 in
set_option maxRecDepth 100000 in
theorem c_X9_withLetter (l : Launch) (X : tq_X) (Z : tq_Z) (f : Nat → va_E) (x0 : Int64) (x2 : Int32) : tq_Mp l X Z f yX9_withLetter cX9_withLetter 3 (some .long) 0 [.long x0, .int x2] tq_rl := by
  refine tq_startlp (by decide) (Nat.le_of_ble_eq_true rfl) (fun p e R s m args below meth c Q hC hret hS ls hl => ?_)
  have hC : tq_C p R s m args c X (tq_A Z) RX9 cX9_withLetter 3 0 := hC
  have hx := hC.1.1
  have hb := hC.1.2.1
  have hown := hC.1.2.2.2.1
  have hts := hC.1.2.2.2.2
  have hl : lv_has ls 3 [(0, .long x0), (2, .int x2)] := hl
  refine lv_lload_n hx hb dX9_withLetter_0 rfl (lv_at hl 0 rfl) ?_
  refine lv_ldc2 hx hb hown (hts _ qc_RX9_50) dX9_withLetter_1 ?_
  refine lv_lmul hx hb dX9_withLetter_4 ?_
  refine lv_topl (fun t_4 e_4 => ?_)
  refine lv_iload_n hx hb dX9_withLetter_5 rfl (lv_at hl 1 rfl) ?_
  refine lv_bipush (v := 97) hx hb dX9_withLetter_6 (by decide) ?_
  refine lv_isub hx hb dX9_withLetter_8 ?_
  refine lv_topi (fun t_8 e_8 => ?_)
  refine lv_iconst (v := 1) hx hb dX9_withLetter_9 (by decide) ?_
  refine lv_iadd hx hb dX9_withLetter_10 ?_
  refine lv_topi (fun t_10 e_10 => ?_)
  refine lv_i2l hx hb dX9_withLetter_11 rfl ?_
  refine lv_topl (fun t_11 e_11 => ?_)
  refine lv_ladd hx hb dX9_withLetter_12 ?_
  refine lv_topl (fun t_12 e_12 => ?_)
  exact hret t_12 _ _ ⟨_, rfl⟩ dX9_withLetter_13
set_option maxHeartbeats 4000000 in
set_option maxRecDepth 100000 in
theorem c_X9_readWord (l : Launch) (X : tq_X) (Z : tq_Z) (f : Nat → va_E) (h0 : Nat) (z_h0 : tq_z Z h0 (.inl 9)) : tq_M l X Z f [(9, 3), (9, 4), (9, 7)] yX9_readWord cX9_readWord 2 (none) 1 [.ref h0] tq_rv := by
  refine tq_startv (by decide) (Nat.le_of_ble_eq_true rfl) (fun p e R s m args below meth c Q hC hret hS ls hl => ?_)
  have hC : tq_C p R s m args c X (tq_A Z) RX9 cX9_readWord 2 1 := hC
  have hx := hC.1.1
  have hb := hC.1.2.1
  have hown := hC.1.2.2.2.1
  have hts := hC.1.2.2.2.2
  have hl : lv_has ls 2 [(0, .ref h0)] := hl
  generalize hf0 : f = f0 at hret
  have hS : tq_S X Z (tq_A Z) s.heap f0 [(9, 3), (9, 4), (9, 7)] f s.heap [] := hf0 ▸ hS
  obtain ⟨w0, p_w0, q_w0⟩ := tq_ghi hS z_h0 (k := 3) rfl
  refine lv_aload_n hx hb dX9_readWord_0 rfl (lv_at hl 0 rfl) ?_
  refine lv_lconst (v := 0) hx hb dX9_readWord_1 (by decide) ?_
  refine pf_RX9_80 hC hS z_h0 (by decide) dX9_readWord_2 (fun f H locs hS q_2 k_2 => ?_)
  have q1_2 := k_2 _ _ _ (Or.inr (by decide)) q_w0
  have K_5 : ∀ (n_5 : Nat) (w0_5 : Int32) (f : Nat → va_E) (H : Heap) (locs : List Loc) (ls : Array Slot), tq_S X Z (tq_A Z) s.heap f0 [(9, 3), (9, 4), (9, 7)] f H locs → tq_f f h0 3 (.int w0_5) → (2147483647 - w0_5.toInt).toNat < n_5 → lv_has ls 2 [(0, .ref h0)] → W p l e R s m args below meth c H locs 0 0 Q (F0 m 5 ls []) := by
    intro n_5
    induction n_5 with
    | zero => intro w0_5 f H locs ls  hS fo0_5 hn_5; exact absurd hn_5 (Nat.not_lt_zero _)
    | succ n_5 ih_5 =>
      intro w0_5 f H locs ls  hS fo0_5 hn_5 hl
      refine lv_aload_n hx hb dX9_readWord_5 rfl (lv_at hl 0 rfl) ?_
      refine gk_RX9_44 hC hS z_h0 fo0_5 dX9_readWord_6 ?_
      refine lv_aload_n hx hb dX9_readWord_9 rfl (lv_at hl 0 rfl) ?_
      refine gf_RX9_41 hC hS z_h0 dX9_readWord_10 (fun t_10 p_10 q_10 => ?_)
      have K_62 : ∀ (f : Nat → va_E) (H : Heap) (locs : List Loc) (ls : Array Slot), tq_S X Z (tq_A Z) s.heap f0 [(9, 3), (9, 4), (9, 7)] f H locs → tq_f f h0 3 (.int w0_5) → lv_has ls 2 [(0, .ref h0)] → W p l e R s m args below meth c H locs 0 0 Q (F0 m 62 ls []) := by
        intro f H locs ls  hS fo0_62 hl
        refine lv_aload_n hx hb dX9_readWord_62 rfl (lv_at hl 0 rfl) ?_
        refine lv_aload_n hx hb dX9_readWord_63 rfl (lv_at hl 0 rfl) ?_
        refine gk_RX9_44 hC hS z_h0 fo0_62 dX9_readWord_64 ?_
        refine lv_aload_n hx hb dX9_readWord_67 rfl (lv_at hl 0 rfl) ?_
        refine gf_RX9_56 hC hS z_h0 dX9_readWord_68 (fun t_68 p_68 q_68 => ?_)
        refine lv_isub hx hb dX9_readWord_71 ?_
        refine lv_topi (fun t_71 e_71 => ?_)
        refine lv_bipush (v := 8) hx hb dX9_readWord_72 (by decide) ?_
        have K_84 : ∀ (y0_84 : Nat) (y1_84 : Int32) (f : Nat → va_E) (H : Heap) (locs : List Loc) (ls : Array Slot), tq_z Z y0_84 (.inl 9) → tq_S X Z (tq_A Z) s.heap f0 [(9, 3), (9, 4), (9, 7)] f H locs → tq_f f h0 3 (.int w0_5) → tq_iv 23 25 y1_84 → lv_has ls 2 [(0, .ref h0)] → W p l e R s m args below meth c H locs 0 0 Q (F0 m 84 ls [.int y1_84, .ref y0_84]) := by
          intro y0_84 y1_84 f H locs ls z_y0_84 hS fo0_84 i2_y1_84 hl
          refine pf_RX9_59 hC hS z_y0_84 (by decide) trivial dX9_readWord_84 (fun f H locs hS q_84 k_84 => ?_)
          have q3_84 := k_84 _ _ _ (Or.inr (by decide)) fo0_84
          refine lv_iconst (v := 0) hx hb dX9_readWord_87 (by decide) ?_
          refine lv_istore_n (lv' := [(1, .int 0), (0, .ref h0)]) hx hb dX9_readWord_88 rfl hl (by decide) rfl (fun ls hl => ?_)
          have K_89 : ∀ (n_89 : Nat) (x1_89 : Int32) (w0_89 : Int32) (f : Nat → va_E) (H : Heap) (locs : List Loc) (ls : Array Slot), tq_S X Z (tq_A Z) s.heap f0 [(9, 3), (9, 4), (9, 7)] f H locs → tq_f f h0 3 (.int w0_89) → tq_iv 0 23 x1_89 → (2147483647 - x1_89.toInt).toNat < n_89 → lv_has ls 2 [(1, .int x1_89), (0, .ref h0)] → W p l e R s m args below meth c H locs 0 0 Q (F0 m 89 ls []) := by
            intro n_89
            induction n_89 with
            | zero => intro x1_89 w0_89 f H locs ls  hS fo0_89 i4_x1_89 hn_89; exact absurd hn_89 (Nat.not_lt_zero _)
            | succ n_89 ih_89 =>
              intro x1_89 w0_89 f H locs ls  hS fo0_89 i4_x1_89 hn_89 hl
              refine lv_iload_n hx hb dX9_readWord_89 rfl (lv_at hl 0 rfl) ?_
              refine lv_bipush (v := 23) hx hb dX9_readWord_90 (by decide) ?_
              refine lv_icmp_ge (tgt := 129) hx hb dX9_readWord_92 (by decide) (fun c_92 => ?_) (fun c_92 => ?_)
              · skip
                have i5_x1_89 : tq_iv 23 23 x1_89 := tq_cut i4_x1_89 (tq_leR c_92 (⟨by decide, by decide⟩ : tq_iv 23 23 23) i4_x1_89) (by decide) (by decide)
                exact hret _ _ _ _ _ rfl hS dX9_readWord_129
              · skip
                have i6_x1_89 : tq_iv 0 22 x1_89 := tq_cut i4_x1_89 (tq_ltL (tq_nle c_92) i4_x1_89 (⟨by decide, by decide⟩ : tq_iv 23 23 23)) (by decide) (by decide)
                refine lv_aload_n hx hb dX9_readWord_95 rfl (lv_at hl 1 rfl) ?_
                refine gf_RX9_59 hC hS z_h0 dX9_readWord_96 (fun t_96 p_96 q_96 => ?_)
                refine lv_bipush (v := 23) hx hb dX9_readWord_99 (by decide) ?_
                have K_123 : ∀ (f : Nat → va_E) (H : Heap) (locs : List Loc) (ls : Array Slot), tq_S X Z (tq_A Z) s.heap f0 [(9, 3), (9, 4), (9, 7)] f H locs → tq_f f h0 3 (.int w0_89) → lv_has ls 2 [(1, .int x1_89), (0, .ref h0)] → W p l e R s m args below meth c H locs 0 0 Q (F0 m 123 ls []) := by
                  intro f H locs ls  hS fo0_123 hl
                  obtain ⟨t_123, e_123⟩ : ∃ y : Int32, y = x1_89 + 1 := ⟨_, rfl⟩
                  have i7_t_123 : tq_iv 1 23 t_123 := tq_w (tq_add e_123 i6_x1_89 (⟨by decide, by decide⟩ : tq_iv 1 1 1) (by decide) (by decide)) (by decide) (by decide)
                  refine lv_iinc (v := t_123) (lv' := [(1, .int t_123), (0, .ref h0)]) hx hb dX9_readWord_123 hl (k := 0) rfl (by rw [e_123]; rfl) (by decide) rfl (fun ls hl => ?_)
                  refine lv_goto (tgt := 89) hx hb dX9_readWord_126 (by decide) ?_
                  exact ih_89 t_123 w0_89 _ _ _ _ hS fo0_123 (tq_w i7_t_123 (by decide) (by decide)) (tq_up e_123 i6_x1_89 (⟨by decide, by decide⟩ : tq_iv 1 1 1) (by decide) (by decide) hn_89) (lv_sub hl [0, 1] rfl)
                refine lv_icmp_ne (tgt := 123) hx hb dX9_readWord_101 (by decide) (fun c_101 => ?_) (fun c_101 => ?_)
                · skip
                  exact K_123 _ _ _ _ hS fo0_89 (lv_sub hl [0, 1] rfl)
                · skip
                  have i8_t_96 : tq_iv 23 23 t_96 := tq_cut (tq_top t_96) (tq_eqL c_101 (⟨by decide, by decide⟩ : tq_iv 23 23 23)) (by decide) (by decide)
                  refine lv_aload_n hx hb dX9_readWord_104 rfl (lv_at hl 1 rfl) ?_
                  refine gf_RX9_15 hC hS z_h0 dX9_readWord_105 (fun t_105 p_105 q_105 => ?_)
                  refine lv_iload_n hx hb dX9_readWord_108 rfl (lv_at hl 0 rfl) ?_
                  refine tq_lald hC hS p_105 (tq_vin i6_x1_89 (by decide) (by decide)) dX9_readWord_109 (fun t_109 => ?_)
                  refine lv_aload_n hx hb dX9_readWord_110 rfl (lv_at hl 1 rfl) ?_
                  refine gf_RX9_80 hC hS z_h0 dX9_readWord_111 (fun t_111 => ?_)
                  refine W.lcmp hx hb dX9_readWord_114 ?_
                  refine lv_topi (fun t_114 e_114 => ?_)
                  refine lv_if_ne (tgt := 123) hx hb dX9_readWord_115 (by decide) (fun c_115 => ?_) (fun c_115 => ?_)
                  · skip
                    exact K_123 _ _ _ _ hS fo0_89 (lv_sub hl [0, 1] rfl)
                  · skip
                    have i9_t_114 : tq_iv 0 0 t_114 := tq_cut (tq_top t_114) (tq_eqL c_115 (⟨by decide, by decide⟩ : tq_iv 0 0 0)) (by decide) (by decide)
                    refine lv_aload_n hx hb dX9_readWord_118 rfl (lv_at hl 1 rfl) ?_
                    refine lv_iload_n hx hb dX9_readWord_119 rfl (lv_at hl 0 rfl) ?_
                    refine pf_RX9_59 hC hS z_h0 (by decide) trivial dX9_readWord_120 (fun f H locs hS q_120 k_120 => ?_)
                    have q10_120 := k_120 _ _ _ (Or.inr (by decide)) fo0_89
                    exact K_123 _ _ _ _ hS q10_120 (lv_sub hl [0, 1] rfl)
          exact K_89 _ 0 w0_5 _ _ _ _ hS q3_84 (tq_w (⟨by decide, by decide⟩ : tq_iv 0 0 0) (by decide) (by decide)) (Nat.lt_succ_self _) (lv_sub hl [0, 1] rfl)
        refine lv_icmp_le (tgt := 82) hx hb dX9_readWord_74 (by decide) (fun c_74 => ?_) (fun c_74 => ?_)
        · skip
          have i11_t_71 : tq_iv (-2147483648) 8 t_71 := tq_cut (tq_top t_71) (tq_leL c_74 (tq_top t_71) (⟨by decide, by decide⟩ : tq_iv 8 8 8)) (by decide) (by decide)
          refine lv_bipush (v := 23) hx hb dX9_readWord_82 (by decide) ?_
          exact K_84 h0 23 _ _ _ _ z_h0 hS fo0_62 (tq_w (⟨by decide, by decide⟩ : tq_iv 23 23 23) (by decide) (by decide)) (lv_sub hl [0] rfl)
        · skip
          have i12_t_71 : tq_iv 9 2147483647 t_71 := tq_cut (tq_top t_71) (tq_ltR (tq_nle c_74) (⟨by decide, by decide⟩ : tq_iv 8 8 8) (tq_top t_71)) (by decide) (by decide)
          refine lv_bipush (v := 25) hx hb dX9_readWord_77 (by decide) ?_
          refine lv_goto (tgt := 84) hx hb dX9_readWord_79 (by decide) ?_
          exact K_84 h0 25 _ _ _ _ z_h0 hS fo0_62 (tq_w (⟨by decide, by decide⟩ : tq_iv 25 25 25) (by decide) (by decide)) (lv_sub hl [0] rfl)
      refine lv_icmp_ge (tgt := 62) hx hb dX9_readWord_13 (by decide) (fun c_13 => ?_) (fun c_13 => ?_)
      · skip
        exact K_62 _ _ _ _ hS fo0_5 (lv_sub hl [0] rfl)
      · skip
        have i13_w0_5 : tq_iv (-2147483648) 2147483646 w0_5 := tq_cut (tq_top w0_5) (tq_ltL (tq_nle c_13) (tq_top w0_5) (tq_top t_10)) (by decide) (by decide)
        have i14_t_10 : tq_iv (-2147483647) 2147483647 t_10 := tq_cut (tq_top t_10) (tq_ltR (tq_nle c_13) (tq_top w0_5) (tq_top t_10)) (by decide) (by decide)
        refine lv_aload_n hx hb dX9_readWord_16 rfl (lv_at hl 0 rfl) ?_
        refine lv_aload_n hx hb dX9_readWord_17 rfl (lv_at hl 0 rfl) ?_
        refine gk_RX9_44 hC hS z_h0 fo0_5 dX9_readWord_18 ?_
        refine tq_callVpi (As := [.int w0_5]) (rest := []) hC (c_X9_byteAt l X Z _ h0 z_h0 w0_5) k_X9_byteAt ql_RX9_52 rfl (by decide) hS z_h0 rfl hl.1 rfl (Nat.le_of_ble_eq_true rfl) ⟨Nat.zero_le _, Nat.zero_le _⟩ dX9_readWord_21 (fun t_21 p_21 => ?_)
        refine tq_callSpi (As := [.int t_21]) (rest := []) hC (c_X9_isLetter l X Z _ t_21) k_X9_isLetter ql_RX9_62 rfl (by decide) hS hl.1 rfl (Nat.le_of_ble_eq_true rfl) ⟨Nat.zero_le _, Nat.zero_le _⟩ dX9_readWord_24 (fun t_24 p_24 => ?_)
        refine lv_if_eq (tgt := 62) hx hb dX9_readWord_27 (by decide) (fun c_27 => ?_) (fun c_27 => ?_)
        · skip
          have i15_t_24 : tq_iv 0 0 t_24 := tq_cut p_24 (tq_eqL c_27 (⟨by decide, by decide⟩ : tq_iv 0 0 0)) (by decide) (by decide)
          exact K_62 _ _ _ _ hS fo0_5 (lv_sub hl [0] rfl)
        · skip
          have i16_t_24 : tq_iv 1 1 t_24 := tq_w (tq_neLo c_27 p_24 (⟨by decide, by decide⟩ : tq_iv 0 0 0)) (by decide) (by decide)
          refine lv_aload_n hx hb dX9_readWord_30 rfl (lv_at hl 0 rfl) ?_
          refine lv_aload_n hx hb dX9_readWord_31 rfl (lv_at hl 0 rfl) ?_
          refine gf_RX9_80 hC hS z_h0 dX9_readWord_32 (fun t_32 => ?_)
          refine lv_aload_n hx hb dX9_readWord_35 rfl (lv_at hl 0 rfl) ?_
          refine lv_aload_n hx hb dX9_readWord_36 rfl (lv_at hl 0 rfl) ?_
          refine gk_RX9_44 hC hS z_h0 fo0_5 dX9_readWord_37 ?_
          refine tq_callVpi (As := [.int w0_5]) (rest := [.long t_32, .ref h0]) hC (c_X9_byteAt l X Z _ h0 z_h0 w0_5) k_X9_byteAt ql_RX9_52 rfl (by decide) hS z_h0 rfl hl.1 rfl (Nat.le_of_ble_eq_true rfl) ⟨Nat.zero_le _, Nat.zero_le _⟩ dX9_readWord_40 (fun t_40 p_40 => ?_)
          refine tq_callSpl (As := [.long t_32, .int t_40]) (rest := [.ref h0]) hC (c_X9_withLetter l X Z _ t_32 t_40) k_X9_withLetter ql_RX9_31 rfl (by decide) hS hl.1 rfl (Nat.le_of_ble_eq_true rfl) ⟨Nat.zero_le _, Nat.zero_le _⟩ dX9_readWord_43 (fun t_43 => ?_)
          refine pf_RX9_80 hC hS z_h0 (by decide) dX9_readWord_46 (fun f H locs hS q_46 k_46 => ?_)
          have q17_46 := k_46 _ _ _ (Or.inr (by decide)) fo0_5
          refine lv_aload_n hx hb dX9_readWord_49 rfl (lv_at hl 0 rfl) ?_
          refine lv_dup hx hb dX9_readWord_50 rfl ?_
          refine gk_RX9_44 hC hS z_h0 q17_46 dX9_readWord_51 ?_
          refine lv_iconst (v := 1) hx hb dX9_readWord_54 (by decide) ?_
          refine lv_iadd hx hb dX9_readWord_55 ?_
          refine lv_topi (fun t_55 e_55 => ?_)
          have i18_t_55 : tq_iv (-2147483647) 2147483647 t_55 := tq_w (tq_add e_55 i13_w0_5 (⟨by decide, by decide⟩ : tq_iv 1 1 1) (by decide) (by decide)) (by decide) (by decide)
          refine pf_RX9_44 hC hS z_h0 (by decide) trivial dX9_readWord_56 (fun f H locs hS q_56 k_56 => ?_)
          refine lv_goto (tgt := 5) hx hb dX9_readWord_59 (by decide) ?_
          exact ih_5 t_55 _ _ _ _ hS q_56 (tq_up e_55 i13_w0_5 (⟨by decide, by decide⟩ : tq_iv 1 1 1) (by decide) (by decide) hn_5) (lv_sub hl [0] rfl)
  exact K_5 _ w0 _ _ _ _ hS q1_2 (Nat.lt_succ_self _) (lv_sub hl [0] rfl)
set_option maxHeartbeats 4000000 in
set_option maxRecDepth 100000 in
theorem c_X9_advance (l : Launch) (X : tq_X) (Z : tq_Z) (f : Nat → va_E) (h0 : Nat) (z_h0 : tq_z Z h0 (.inl 9)) : tq_M l X Z f [(9, 3), (9, 4), (9, 5), (9, 6), (9, 7)] yX9_advance cX9_advance 2 (none) 4 [.ref h0] tq_rv := by
  refine tq_startv (by decide) (Nat.le_of_ble_eq_true rfl) (fun p e R s m args below meth c Q hC hret hS ls hl => ?_)
  have hC : tq_C p R s m args c X (tq_A Z) RX9 cX9_advance 2 4 := hC
  have hx := hC.1.1
  have hb := hC.1.2.1
  have hown := hC.1.2.2.2.1
  have hts := hC.1.2.2.2.2
  have hl : lv_has ls 2 [(0, .ref h0)] := hl
  generalize hf0 : f = f0 at hret
  have hS : tq_S X Z (tq_A Z) s.heap f0 [(9, 3), (9, 4), (9, 5), (9, 6), (9, 7)] f s.heap [] := hf0 ▸ hS
  obtain ⟨w0, p_w0, q_w0⟩ := tq_ghi hS z_h0 (k := 3) rfl
  have K_0 : ∀ (n_0 : Nat) (w0_0 : Int32) (f : Nat → va_E) (H : Heap) (locs : List Loc) (ls : Array Slot), tq_S X Z (tq_A Z) s.heap f0 [(9, 3), (9, 4), (9, 5), (9, 6), (9, 7)] f H locs → tq_f f h0 3 (.int w0_0) → (2147483647 - w0_0.toInt).toNat < n_0 → lv_has ls 2 [(0, .ref h0)] → W p l e R s m args below meth c H locs 0 0 Q (F0 m 0 ls []) := by
    intro n_0
    induction n_0 with
    | zero => intro w0_0 f H locs ls  hS fo0_0 hn_0; exact absurd hn_0 (Nat.not_lt_zero _)
    | succ n_0 ih_0 =>
      intro w0_0 f H locs ls  hS fo0_0 hn_0 hl
      refine lv_aload_n hx hb dX9_advance_0 rfl (lv_at hl 0 rfl) ?_
      refine gk_RX9_44 hC hS z_h0 fo0_0 dX9_advance_1 ?_
      refine lv_aload_n hx hb dX9_advance_4 rfl (lv_at hl 0 rfl) ?_
      refine gf_RX9_41 hC hS z_h0 dX9_advance_5 (fun t_5 p_5 q_5 => ?_)
      have K_50 : ∀ (f : Nat → va_E) (H : Heap) (locs : List Loc) (ls : Array Slot), tq_S X Z (tq_A Z) s.heap f0 [(9, 3), (9, 4), (9, 5), (9, 6), (9, 7)] f H locs → tq_f f h0 3 (.int w0_0) → lv_has ls 2 [(0, .ref h0)] → W p l e R s m args below meth c H locs 0 0 Q (F0 m 50 ls []) := by
        intro f H locs ls  hS fo0_50 hl
        refine lv_aload_n hx hb dX9_advance_50 rfl (lv_at hl 0 rfl) ?_
        refine lv_aload_n hx hb dX9_advance_51 rfl (lv_at hl 0 rfl) ?_
        refine gk_RX9_44 hC hS z_h0 fo0_50 dX9_advance_52 ?_
        refine pf_RX9_56 hC hS z_h0 (by decide) trivial dX9_advance_55 (fun f H locs hS q_55 k_55 => ?_)
        have q1_55 := k_55 _ _ _ (Or.inr (by decide)) fo0_50
        refine lv_aload_n hx hb dX9_advance_58 rfl (lv_at hl 0 rfl) ?_
        refine lv_aload_n hx hb dX9_advance_59 rfl (lv_at hl 0 rfl) ?_
        refine gk_RX9_44 hC hS z_h0 q1_55 dX9_advance_60 ?_
        refine tq_callVpi (As := [.int w0_0]) (rest := []) hC (c_X9_byteAt l X Z _ h0 z_h0 w0_0) k_X9_byteAt ql_RX9_52 rfl (by decide) hS z_h0 rfl hl.1 rfl (Nat.le_of_ble_eq_true rfl) ⟨Nat.zero_le _, Nat.zero_le _⟩ dX9_advance_63 (fun t_63 p_63 => ?_)
        refine lv_istore_n (lv' := [(1, .int t_63), (0, .ref h0)]) hx hb dX9_advance_66 rfl hl (by decide) rfl (fun ls hl => ?_)
        refine lv_aload_n hx hb dX9_advance_67 rfl (lv_at hl 1 rfl) ?_
        refine gk_RX9_44 hC hS z_h0 q1_55 dX9_advance_68 ?_
        refine lv_aload_n hx hb dX9_advance_71 rfl (lv_at hl 1 rfl) ?_
        refine gf_RX9_41 hC hS z_h0 dX9_advance_72 (fun t_72 p_72 q_72 => ?_)
        have K_152 : ∀ (f : Nat → va_E) (H : Heap) (locs : List Loc) (ls : Array Slot), tq_S X Z (tq_A Z) s.heap f0 [(9, 3), (9, 4), (9, 5), (9, 6), (9, 7)] f H locs → lv_has ls 2 [] → W p l e R s m args below meth c H locs 0 0 Q (F0 m 152 ls []) := by
          intro f H locs ls  hS hl
          exact hret _ _ _ _ _ rfl hS dX9_advance_152
        refine lv_icmp_lt (tgt := 87) hx hb dX9_advance_75 (by decide) (fun c_75 => ?_) (fun c_75 => ?_)
        · skip
          have i2_w0_0 : tq_iv (-2147483648) 2147483646 w0_0 := tq_cut (tq_top w0_0) (tq_ltL c_75 (tq_top w0_0) (tq_top t_72)) (by decide) (by decide)
          have i3_t_72 : tq_iv (-2147483647) 2147483647 t_72 := tq_cut (tq_top t_72) (tq_ltR c_75 (tq_top w0_0) (tq_top t_72)) (by decide) (by decide)
          refine lv_iload_n hx hb dX9_advance_87 rfl (lv_at hl 0 rfl) ?_
          refine tq_callSpi (As := [.int t_63]) (rest := []) hC (c_X9_isLetter l X Z _ t_63) k_X9_isLetter ql_RX9_62 rfl (by decide) hS hl.1 rfl (Nat.le_of_ble_eq_true rfl) ⟨Nat.zero_le _, Nat.zero_le _⟩ dX9_advance_88 (fun t_88 p_88 => ?_)
          refine lv_if_eq (tgt := 101) hx hb dX9_advance_91 (by decide) (fun c_91 => ?_) (fun c_91 => ?_)
          · skip
            have i4_t_88 : tq_iv 0 0 t_88 := tq_cut p_88 (tq_eqL c_91 (⟨by decide, by decide⟩ : tq_iv 0 0 0)) (by decide) (by decide)
            refine lv_iload_n hx hb dX9_advance_101 rfl (lv_at hl 0 rfl) ?_
            refine tq_callSpi (As := [.int t_63]) (rest := []) hC (c_X9_isDigit l X Z _ t_63) k_X9_isDigit ql_RX9_69 rfl (by decide) hS hl.1 rfl (Nat.le_of_ble_eq_true rfl) ⟨Nat.zero_le _, Nat.zero_le _⟩ dX9_advance_102 (fun t_102 p_102 => ?_)
            refine lv_if_eq (tgt := 115) hx hb dX9_advance_105 (by decide) (fun c_105 => ?_) (fun c_105 => ?_)
            · skip
              have i5_t_102 : tq_iv 0 0 t_102 := tq_cut p_102 (tq_eqL c_105 (⟨by decide, by decide⟩ : tq_iv 0 0 0)) (by decide) (by decide)
              refine lv_aload_n hx hb dX9_advance_115 rfl (lv_at hl 1 rfl) ?_
              refine lv_iload_n hx hb dX9_advance_116 rfl (lv_at hl 0 rfl) ?_
              refine lv_sipush (v := 128) hx hb dX9_advance_117 (by decide) ?_
              have K_139 : ∀ (y0_139 : Nat) (y1_139 : Int32) (f : Nat → va_E) (H : Heap) (locs : List Loc) (ls : Array Slot), tq_z Z y0_139 (.inl 9) → tq_S X Z (tq_A Z) s.heap f0 [(9, 3), (9, 4), (9, 5), (9, 6), (9, 7)] f H locs → tq_f f h0 3 (.int w0_0) → tq_iv (-1) 127 y1_139 → lv_has ls 2 [(0, .ref h0)] → W p l e R s m args below meth c H locs 0 0 Q (F0 m 139 ls [.int y1_139, .ref y0_139]) := by
                intro y0_139 y1_139 f H locs ls z_y0_139 hS fo0_139 i6_y1_139 hl
                refine pf_RX9_59 hC hS z_y0_139 (by decide) trivial dX9_advance_139 (fun f H locs hS q_139 k_139 => ?_)
                have q7_139 := k_139 _ _ _ (Or.inr (by decide)) fo0_139
                refine lv_aload_n hx hb dX9_advance_142 rfl (lv_at hl 0 rfl) ?_
                refine lv_dup hx hb dX9_advance_143 rfl ?_
                refine gk_RX9_44 hC hS z_h0 q7_139 dX9_advance_144 ?_
                refine lv_iconst (v := 1) hx hb dX9_advance_147 (by decide) ?_
                refine lv_iadd hx hb dX9_advance_148 ?_
                refine lv_topi (fun t_148 e_148 => ?_)
                have i8_t_148 : tq_iv (-2147483647) 2147483647 t_148 := tq_w (tq_add e_148 i2_w0_0 (⟨by decide, by decide⟩ : tq_iv 1 1 1) (by decide) (by decide)) (by decide) (by decide)
                refine pf_RX9_44 hC hS z_h0 (by decide) trivial dX9_advance_149 (fun f H locs hS q_149 k_149 => ?_)
                exact K_152 _ _ _ _ hS (lv_sub hl [] rfl)
              have K_137 : ∀ (y0_137 : Nat) (f : Nat → va_E) (H : Heap) (locs : List Loc) (ls : Array Slot), tq_z Z y0_137 (.inl 9) → tq_S X Z (tq_A Z) s.heap f0 [(9, 3), (9, 4), (9, 5), (9, 6), (9, 7)] f H locs → tq_f f h0 3 (.int w0_0) → lv_has ls 2 [(0, .ref h0)] → W p l e R s m args below meth c H locs 0 0 Q (F0 m 137 ls [.ref y0_137]) := by
                intro y0_137 f H locs ls z_y0_137 hS fo0_137 hl
                refine lv_bipush (v := 25) hx hb dX9_advance_137 (by decide) ?_
                exact K_139 y0_137 25 _ _ _ _ z_y0_137 hS fo0_137 (tq_w (⟨by decide, by decide⟩ : tq_iv 25 25 25) (by decide) (by decide)) (lv_sub hl [0] rfl)
              refine lv_icmp_ge (tgt := 137) hx hb dX9_advance_120 (by decide) (fun c_120 => ?_) (fun c_120 => ?_)
              · skip
                have i9_t_63 : tq_iv 128 255 t_63 := tq_cut p_63 (tq_leR c_120 (⟨by decide, by decide⟩ : tq_iv 128 128 128) p_63) (by decide) (by decide)
                exact K_137 h0 _ _ _ _ z_h0 hS q1_55 (lv_sub hl [1] rfl)
              · skip
                have i10_t_63 : tq_iv (-1) 127 t_63 := tq_cut p_63 (tq_ltL (tq_nle c_120) p_63 (⟨by decide, by decide⟩ : tq_iv 128 128 128)) (by decide) (by decide)
                refine va_ldcS hx hb hown hC.2.2.2.2.2.2.1 dX9_advance_123 ?_
                refine lv_iload_n hx hb dX9_advance_125 rfl (lv_at hl 0 rfl) ?_
                refine lv_i2c hx hb dX9_advance_126 rfl ?_
                refine lv_topi (fun t_126 e_126 => ?_)
                refine tq_callUpi (As := [.int t_126]) (rest := [.ref h0]) hC (c_J0_indexOf_0f7a4_1 l X Z _ t_126) k_J0_indexOf_0f7a4 ql_RX9_77 rfl (by decide) hS (vk_recv hC.2.2.2.2.1 (i := 1) (by decide) hS.2.2.1) hl.1 rfl (Nat.le_of_ble_eq_true rfl) ⟨Nat.zero_le _, Nat.zero_le _⟩ dX9_advance_127 (fun t_127 p_127 => ?_)
                refine lv_if_lt (tgt := 137) hx hb dX9_advance_130 (by decide) (fun c_130 => ?_) (fun c_130 => ?_)
                · skip
                  have i11_t_127 : tq_iv (-1) (-1) t_127 := tq_cut p_127 (tq_ltL c_130 p_127 (⟨by decide, by decide⟩ : tq_iv 0 0 0)) (by decide) (by decide)
                  exact K_137 h0 _ _ _ _ z_h0 hS q1_55 (lv_sub hl [1] rfl)
                · skip
                  have i12_t_127 : tq_iv 0 10 t_127 := tq_cut p_127 (tq_leR (tq_nlt c_130) (⟨by decide, by decide⟩ : tq_iv 0 0 0) p_127) (by decide) (by decide)
                  refine lv_iload_n hx hb dX9_advance_133 rfl (lv_at hl 0 rfl) ?_
                  refine lv_goto (tgt := 139) hx hb dX9_advance_134 (by decide) ?_
                  exact K_139 h0 t_63 _ _ _ _ z_h0 hS q1_55 (tq_w i10_t_63 (by decide) (by decide)) (lv_sub hl [1] rfl)
            · skip
              have i13_t_102 : tq_iv 1 1 t_102 := tq_w (tq_neLo c_105 p_102 (⟨by decide, by decide⟩ : tq_iv 0 0 0)) (by decide) (by decide)
              refine lv_aload_n hx hb dX9_advance_108 rfl (lv_at hl 1 rfl) ?_
              refine tq_callVv (As := []) (rest := []) hC (c_X9_readNumber l X Z _ h0 z_h0) k_X9_readNumber ql_RX9_72 (by decide) rfl (by decide) hS z_h0 rfl hl.1 rfl (Nat.le_of_ble_eq_true rfl) ⟨Nat.zero_le _, Nat.zero_le _⟩ dX9_advance_109 (fun f1_109 H locs hS k_109 => ?_)
              refine lv_goto (tgt := 152) hx hb dX9_advance_112 (by decide) ?_
              exact K_152 _ _ _ _ hS (lv_sub hl [] rfl)
          · skip
            have i14_t_88 : tq_iv 1 1 t_88 := tq_w (tq_neLo c_91 p_88 (⟨by decide, by decide⟩ : tq_iv 0 0 0)) (by decide) (by decide)
            refine lv_aload_n hx hb dX9_advance_94 rfl (lv_at hl 1 rfl) ?_
            refine tq_callVv (As := []) (rest := []) hC (c_X9_readWord l X Z _ h0 z_h0) k_X9_readWord ql_RX9_66 (by decide) rfl (by decide) hS z_h0 rfl hl.1 rfl (Nat.le_of_ble_eq_true rfl) ⟨Nat.zero_le _, Nat.zero_le _⟩ dX9_advance_95 (fun f1_95 H locs hS k_95 => ?_)
            refine lv_goto (tgt := 152) hx hb dX9_advance_98 (by decide) ?_
            exact K_152 _ _ _ _ hS (lv_sub hl [] rfl)
        · skip
          refine lv_aload_n hx hb dX9_advance_78 rfl (lv_at hl 1 rfl) ?_
          refine lv_bipush (v := 26) hx hb dX9_advance_79 (by decide) ?_
          refine pf_RX9_59 hC hS z_h0 (by decide) trivial dX9_advance_81 (fun f H locs hS q_81 k_81 => ?_)
          have q15_81 := k_81 _ _ _ (Or.inr (by decide)) q1_55
          refine lv_goto (tgt := 152) hx hb dX9_advance_84 (by decide) ?_
          exact K_152 _ _ _ _ hS (lv_sub hl [] rfl)
      refine lv_icmp_ge (tgt := 50) hx hb dX9_advance_8 (by decide) (fun c_8 => ?_) (fun c_8 => ?_)
      · skip
        exact K_50 _ _ _ _ hS fo0_0 (lv_sub hl [0] rfl)
      · skip
        have i16_w0_0 : tq_iv (-2147483648) 2147483646 w0_0 := tq_cut (tq_top w0_0) (tq_ltL (tq_nle c_8) (tq_top w0_0) (tq_top t_5)) (by decide) (by decide)
        have i17_t_5 : tq_iv (-2147483647) 2147483647 t_5 := tq_cut (tq_top t_5) (tq_ltR (tq_nle c_8) (tq_top w0_0) (tq_top t_5)) (by decide) (by decide)
        refine lv_aload_n hx hb dX9_advance_11 rfl (lv_at hl 0 rfl) ?_
        refine lv_aload_n hx hb dX9_advance_12 rfl (lv_at hl 0 rfl) ?_
        refine gk_RX9_44 hC hS z_h0 fo0_0 dX9_advance_13 ?_
        refine tq_callVpi (As := [.int w0_0]) (rest := []) hC (c_X9_byteAt l X Z _ h0 z_h0 w0_0) k_X9_byteAt ql_RX9_52 rfl (by decide) hS z_h0 rfl hl.1 rfl (Nat.le_of_ble_eq_true rfl) ⟨Nat.zero_le _, Nat.zero_le _⟩ dX9_advance_16 (fun t_16 p_16 => ?_)
        refine lv_bipush (v := 32) hx hb dX9_advance_19 (by decide) ?_
        have K_37 : ∀ (f : Nat → va_E) (H : Heap) (locs : List Loc) (ls : Array Slot), tq_S X Z (tq_A Z) s.heap f0 [(9, 3), (9, 4), (9, 5), (9, 6), (9, 7)] f H locs → tq_f f h0 3 (.int w0_0) → lv_has ls 2 [(0, .ref h0)] → W p l e R s m args below meth c H locs 0 0 Q (F0 m 37 ls []) := by
          intro f H locs ls  hS fo0_37 hl
          refine lv_aload_n hx hb dX9_advance_37 rfl (lv_at hl 0 rfl) ?_
          refine lv_dup hx hb dX9_advance_38 rfl ?_
          refine gk_RX9_44 hC hS z_h0 fo0_37 dX9_advance_39 ?_
          refine lv_iconst (v := 1) hx hb dX9_advance_42 (by decide) ?_
          refine lv_iadd hx hb dX9_advance_43 ?_
          refine lv_topi (fun t_43 e_43 => ?_)
          have i18_t_43 : tq_iv (-2147483647) 2147483647 t_43 := tq_w (tq_add e_43 i16_w0_0 (⟨by decide, by decide⟩ : tq_iv 1 1 1) (by decide) (by decide)) (by decide) (by decide)
          refine pf_RX9_44 hC hS z_h0 (by decide) trivial dX9_advance_44 (fun f H locs hS q_44 k_44 => ?_)
          refine lv_goto (tgt := 0) hx hb dX9_advance_47 (by decide) ?_
          exact ih_0 t_43 _ _ _ _ hS q_44 (tq_up e_43 i16_w0_0 (⟨by decide, by decide⟩ : tq_iv 1 1 1) (by decide) (by decide) hn_0) (lv_sub hl [0] rfl)
        refine lv_icmp_eq (tgt := 37) hx hb dX9_advance_21 (by decide) (fun c_21 => ?_) (fun c_21 => ?_)
        · skip
          have i19_t_16 : tq_iv 32 32 t_16 := tq_cut p_16 (tq_eqL c_21 (⟨by decide, by decide⟩ : tq_iv 32 32 32)) (by decide) (by decide)
          exact K_37 _ _ _ _ hS fo0_0 (lv_sub hl [0] rfl)
        · skip
          refine lv_aload_n hx hb dX9_advance_24 rfl (lv_at hl 0 rfl) ?_
          refine lv_aload_n hx hb dX9_advance_25 rfl (lv_at hl 0 rfl) ?_
          refine gk_RX9_44 hC hS z_h0 fo0_0 dX9_advance_26 ?_
          refine tq_callVpi (As := [.int w0_0]) (rest := []) hC (c_X9_byteAt l X Z _ h0 z_h0 w0_0) k_X9_byteAt ql_RX9_52 rfl (by decide) hS z_h0 rfl hl.1 rfl (Nat.le_of_ble_eq_true rfl) ⟨Nat.zero_le _, Nat.zero_le _⟩ dX9_advance_29 (fun t_29 p_29 => ?_)
          refine lv_bipush (v := 10) hx hb dX9_advance_32 (by decide) ?_
          refine lv_icmp_ne (tgt := 50) hx hb dX9_advance_34 (by decide) (fun c_34 => ?_) (fun c_34 => ?_)
          · skip
            exact K_50 _ _ _ _ hS fo0_0 (lv_sub hl [0] rfl)
          · skip
            have i20_t_29 : tq_iv 10 10 t_29 := tq_cut p_29 (tq_eqL c_34 (⟨by decide, by decide⟩ : tq_iv 10 10 10)) (by decide) (by decide)
            exact K_37 _ _ _ _ hS fo0_0 (lv_sub hl [0] rfl)
  exact K_0 _ w0 _ _ _ _ hS q_w0 (Nat.lt_succ_self _) (lv_sub hl [0] rfl)
set_option maxHeartbeats 4000000 in
set_option maxRecDepth 100000 in
theorem c_X4_beginOnce (l : Launch) (X : tq_X) (Z : tq_Z) (f : Nat → va_E) (h0 : Nat) (z_h0 : tq_z Z h0 (.inl 4)) : tq_M l X Z f [(4, 1), (4, 2), (4, 5), (9, 3), (9, 4), (9, 5), (9, 6), (9, 7)] yX4_beginOnce cX4_beginOnce 2 (some .boolean) 5 [.ref h0] (tq_ri 0 1) := by
  refine tq_starti (by decide) (Nat.le_of_ble_eq_true rfl) (fun p e R s m args below meth c Q hC hret hS ls hl => ?_)
  have hC : tq_C p R s m args c X (tq_A Z) RX4 cX4_beginOnce 2 5 := hC
  have hx := hC.1.1
  have hb := hC.1.2.1
  have hown := hC.1.2.2.2.1
  have hts := hC.1.2.2.2.2
  have hl : lv_has ls 2 [(0, .ref h0)] := hl
  generalize hf0 : f = f0 at hret
  have hS : tq_S X Z (tq_A Z) s.heap f0 [(4, 1), (4, 2), (4, 5), (9, 3), (9, 4), (9, 5), (9, 6), (9, 7)] f s.heap [] := hf0 ▸ hS
  refine lv_iconst (v := 1) hx hb dX4_beginOnce_0 (by decide) ?_
  refine lv_aload_n hx hb dX4_beginOnce_1 rfl (lv_at hl 0 rfl) ?_
  refine gf_RX4_30 hC hS z_h0 dX4_beginOnce_2 (fun t_2 p_2 q_2 => ?_)
  refine gf_RX4_49 hC hS p_2 dX4_beginOnce_5 (fun t_5 p_5 q_5 => ?_)
  refine lv_ishl hx hb dX4_beginOnce_8 ?_
  refine lv_topi (fun t_8 e_8 => ?_)
  refine lv_istore_n (lv' := [(1, .int t_8), (0, .ref h0)]) hx hb dX4_beginOnce_9 rfl hl (by decide) rfl (fun ls hl => ?_)
  refine lv_aload_n hx hb dX4_beginOnce_10 rfl (lv_at hl 1 rfl) ?_
  refine gf_RX4_42 hC hS z_h0 dX4_beginOnce_11 (fun t_11 p_11 q_11 => ?_)
  refine lv_iload_n hx hb dX4_beginOnce_14 rfl (lv_at hl 0 rfl) ?_
  refine lv_iand hx hb dX4_beginOnce_15 ?_
  refine lv_topi (fun t_15 e_15 => ?_)
  refine lv_if_eq (tgt := 24) hx hb dX4_beginOnce_16 (by decide) (fun c_16 => ?_) (fun c_16 => ?_)
  · skip
    have i1_t_15 : tq_iv 0 0 t_15 := tq_cut (tq_top t_15) (tq_eqL c_16 (⟨by decide, by decide⟩ : tq_iv 0 0 0)) (by decide) (by decide)
    refine lv_aload_n hx hb dX4_beginOnce_24 rfl (lv_at hl 1 rfl) ?_
    refine lv_dup hx hb dX4_beginOnce_25 rfl ?_
    refine gf_RX4_42 hC hS z_h0 dX4_beginOnce_26 (fun t_26 p_26 q_26 => ?_)
    refine lv_iload_n hx hb dX4_beginOnce_29 rfl (lv_at hl 0 rfl) ?_
    refine lv_ior hx hb dX4_beginOnce_30 ?_
    refine lv_topi (fun t_30 e_30 => ?_)
    refine pf_RX4_42 hC hS z_h0 (by decide) trivial dX4_beginOnce_31 (fun f H locs hS q_31 k_31 => ?_)
    refine lv_aload_n hx hb dX4_beginOnce_34 rfl (lv_at hl 1 rfl) ?_
    refine gf_RX4_30 hC hS z_h0 dX4_beginOnce_35 (fun t_35 p_35 q_35 => ?_)
    refine tq_callVv (As := []) (rest := []) hC (c_X9_advance l X Z _ t_35 p_35) k_X9_advance ql_RX4_66 (by decide) rfl (by decide) hS p_35 rfl hl.1 rfl (Nat.le_of_ble_eq_true rfl) ⟨Nat.zero_le _, Nat.zero_le _⟩ dX4_beginOnce_38 (fun f1_38 H locs hS k_38 => ?_)
    refine lv_iconst (v := 1) hx hb dX4_beginOnce_41 (by decide) ?_
    exact hret 1 _ _ _ _ _ (tq_nb (⟨by decide, by decide⟩ : tq_iv 1 1 1) (by decide) (by decide)) ⟨_, rfl, tq_w (⟨by decide, by decide⟩ : tq_iv 1 1 1) (by decide) (by decide)⟩ hS dX4_beginOnce_42
  · skip
    refine lv_aload_n hx hb dX4_beginOnce_19 rfl (lv_at hl 1 rfl) ?_
    refine tq_callVi (As := []) (rest := []) hC (c_X4_refuse l X Z _ h0 z_h0) k_X4_refuse ql_RX4_63 (by decide) rfl (by decide) hS z_h0 rfl hl.1 rfl (Nat.le_of_ble_eq_true rfl) ⟨Nat.zero_le _, Nat.zero_le _⟩ dX4_beginOnce_20 (fun t_20 f1_20 H locs p_20 hS k_20 => ?_)
    exact hret t_20 _ _ _ _ _ (tq_nb p_20 (by decide) (by decide)) ⟨_, rfl, tq_w p_20 (by decide) (by decide)⟩ hS dX4_beginOnce_23
set_option maxHeartbeats 4000000 in
set_option maxRecDepth 100000 in
theorem c_X4_expect (l : Launch) (X : tq_X) (Z : tq_Z) (f : Nat → va_E) (h0 : Nat) (z_h0 : tq_z Z h0 (.inl 4)) (x1 : Int32) : tq_M l X Z f [(4, 1), (4, 2), (9, 3), (9, 4), (9, 5), (9, 6), (9, 7)] yX4_expect cX4_expect 2 (some .boolean) 5 [.ref h0, .int x1] (tq_ri 0 1) := by
  refine tq_starti (by decide) (Nat.le_of_ble_eq_true rfl) (fun p e R s m args below meth c Q hC hret hS ls hl => ?_)
  have hC : tq_C p R s m args c X (tq_A Z) RX4 cX4_expect 2 5 := hC
  have hx := hC.1.1
  have hb := hC.1.2.1
  have hown := hC.1.2.2.2.1
  have hts := hC.1.2.2.2.2
  have hl : lv_has ls 2 [(0, .ref h0), (1, .int x1)] := hl
  generalize hf0 : f = f0 at hret
  have hS : tq_S X Z (tq_A Z) s.heap f0 [(4, 1), (4, 2), (9, 3), (9, 4), (9, 5), (9, 6), (9, 7)] f s.heap [] := hf0 ▸ hS
  refine lv_aload_n hx hb dX4_expect_0 rfl (lv_at hl 0 rfl) ?_
  refine gf_RX4_30 hC hS z_h0 dX4_expect_1 (fun t_1 p_1 q_1 => ?_)
  refine gf_RX4_49 hC hS p_1 dX4_expect_4 (fun t_4 p_4 q_4 => ?_)
  refine lv_iload_n hx hb dX4_expect_7 rfl (lv_at hl 1 rfl) ?_
  refine lv_icmp_eq (tgt := 16) hx hb dX4_expect_8 (by decide) (fun c_8 => ?_) (fun c_8 => ?_)
  · skip
    refine lv_aload_n hx hb dX4_expect_16 rfl (lv_at hl 0 rfl) ?_
    refine gf_RX4_30 hC hS z_h0 dX4_expect_17 (fun t_17 p_17 q_17 => ?_)
    refine tq_callVv (As := []) (rest := []) hC (c_X9_advance l X Z _ t_17 p_17) k_X9_advance ql_RX4_66 (by decide) rfl (by decide) hS p_17 rfl hl.1 rfl (Nat.le_of_ble_eq_true rfl) ⟨Nat.zero_le _, Nat.zero_le _⟩ dX4_expect_20 (fun f1_20 H locs hS k_20 => ?_)
    refine lv_iconst (v := 1) hx hb dX4_expect_23 (by decide) ?_
    exact hret 1 _ _ _ _ _ (tq_nb (⟨by decide, by decide⟩ : tq_iv 1 1 1) (by decide) (by decide)) ⟨_, rfl, tq_w (⟨by decide, by decide⟩ : tq_iv 1 1 1) (by decide) (by decide)⟩ hS dX4_expect_24
  · skip
    refine lv_aload_n hx hb dX4_expect_11 rfl (lv_at hl 0 rfl) ?_
    refine tq_callVi (As := []) (rest := []) hC (c_X4_refuse l X Z _ h0 z_h0) k_X4_refuse ql_RX4_63 (by decide) rfl (by decide) hS z_h0 rfl hl.1 rfl (Nat.le_of_ble_eq_true rfl) ⟨Nat.zero_le _, Nat.zero_le _⟩ dX4_expect_12 (fun t_12 f1_12 H locs p_12 hS k_12 => ?_)
    exact hret t_12 _ _ _ _ _ (tq_nb p_12 (by decide) (by decide)) ⟨_, rfl, tq_w p_12 (by decide) (by decide)⟩ hS dX4_expect_15
set_option maxHeartbeats 4000000 in
set_option maxRecDepth 100000 in
theorem c_X3_addDoor (l : Launch) (X : tq_X) (Z : tq_Z) (f : Nat → va_E) (h0 : Nat) (z_h0 : tq_z Z h0 (.inl 3)) (x1 : Int32) (x2 : Int32) (x3 : Int32) : tq_M l X Z f [(3, 6)] yX3_addDoor cX3_addDoor 4 (none) 0 [.ref h0, .int x1, .int x2, .int x3] tq_rv := by
  refine tq_startv (by decide) (Nat.le_of_ble_eq_true rfl) (fun p e R s m args below meth c Q hC hret hS ls hl => ?_)
  have hC : tq_C p R s m args c X (tq_A Z) RX3 cX3_addDoor 4 0 := hC
  have hx := hC.1.1
  have hb := hC.1.2.1
  have hown := hC.1.2.2.2.1
  have hts := hC.1.2.2.2.2
  have hl : lv_has ls 4 [(0, .ref h0), (1, .int x1), (2, .int x2), (3, .int x3)] := hl
  generalize hf0 : f = f0 at hret
  have hS : tq_S X Z (tq_A Z) s.heap f0 [(3, 6)] f s.heap [] := hf0 ▸ hS
  obtain ⟨w0, p_w0, q_w0⟩ := tq_ghi hS z_h0 (k := 6) rfl
  refine lv_aload_n hx hb dX3_addDoor_0 rfl (lv_at hl 0 rfl) ?_
  refine gk_RX3_65 hC hS z_h0 q_w0 dX3_addDoor_1 ?_
  have K_56 : ∀ (w0_56 : Int32) (f : Nat → va_E) (H : Heap) (locs : List Loc) (ls : Array Slot), tq_S X Z (tq_A Z) s.heap f0 [(3, 6)] f H locs → tq_f f h0 6 (.int w0_56) → lv_has ls 4 [] → W p l e R s m args below meth c H locs 0 0 Q (F0 m 56 ls []) := by
    intro w0_56 f H locs ls  hS fo0_56 hl
    exact hret _ _ _ _ _ rfl hS dX3_addDoor_56
  refine lv_if_lt (tgt := 56) hx hb dX3_addDoor_4 (by decide) (fun c_4 => ?_) (fun c_4 => ?_)
  · skip
    have i1_w0 : tq_iv (-2147483648) (-1) w0 := tq_cut (tq_top w0) (tq_ltL c_4 (tq_top w0) (⟨by decide, by decide⟩ : tq_iv 0 0 0)) (by decide) (by decide)
    exact K_56 w0 _ _ _ _ hS q_w0 (lv_sub hl [] rfl)
  · skip
    have i2_w0 : tq_iv 0 2147483647 w0 := tq_cut (tq_top w0) (tq_leR (tq_nlt c_4) (⟨by decide, by decide⟩ : tq_iv 0 0 0) (tq_top w0)) (by decide) (by decide)
    refine lv_aload_n hx hb dX3_addDoor_7 rfl (lv_at hl 0 rfl) ?_
    refine gk_RX3_65 hC hS z_h0 q_w0 dX3_addDoor_8 ?_
    refine lv_bipush (v := 8) hx hb dX3_addDoor_11 (by decide) ?_
    refine lv_icmp_ge (tgt := 56) hx hb dX3_addDoor_13 (by decide) (fun c_13 => ?_) (fun c_13 => ?_)
    · skip
      have i3_w0 : tq_iv 8 2147483647 w0 := tq_cut i2_w0 (tq_leR c_13 (⟨by decide, by decide⟩ : tq_iv 8 8 8) i2_w0) (by decide) (by decide)
      exact K_56 w0 _ _ _ _ hS q_w0 (lv_sub hl [] rfl)
    · skip
      have i4_w0 : tq_iv 0 7 w0 := tq_cut i2_w0 (tq_ltL (tq_nle c_13) i2_w0 (⟨by decide, by decide⟩ : tq_iv 8 8 8)) (by decide) (by decide)
      refine lv_aload_n hx hb dX3_addDoor_16 rfl (lv_at hl 0 rfl) ?_
      refine gf_RX3_32 hC hS z_h0 dX3_addDoor_17 (fun t_17 p_17 q_17 => ?_)
      refine lv_aload_n hx hb dX3_addDoor_20 rfl (lv_at hl 0 rfl) ?_
      refine gk_RX3_65 hC hS z_h0 q_w0 dX3_addDoor_21 ?_
      refine lv_iload_n hx hb dX3_addDoor_24 rfl (lv_at hl 1 rfl) ?_
      refine tq_iast hC hS p_17 rfl (tq_vin i4_w0 (by decide) (by decide)) trivial dX3_addDoor_25 (fun f H locs hS k_25 => ?_)
      have q5_25 := k_25 _ _ _ (tq_ne z_h0 p_17 (fun q => by cases q)) q_w0
      refine lv_aload_n hx hb dX3_addDoor_26 rfl (lv_at hl 0 rfl) ?_
      refine gf_RX3_36 hC hS z_h0 dX3_addDoor_27 (fun t_27 p_27 q_27 => ?_)
      refine lv_aload_n hx hb dX3_addDoor_30 rfl (lv_at hl 0 rfl) ?_
      refine gk_RX3_65 hC hS z_h0 q5_25 dX3_addDoor_31 ?_
      refine lv_iload_n hx hb dX3_addDoor_34 rfl (lv_at hl 2 rfl) ?_
      refine tq_iast hC hS p_27 rfl (tq_vin i4_w0 (by decide) (by decide)) trivial dX3_addDoor_35 (fun f H locs hS k_35 => ?_)
      have q6_35 := k_35 _ _ _ (tq_ne z_h0 p_27 (fun q => by cases q)) q5_25
      refine lv_aload_n hx hb dX3_addDoor_36 rfl (lv_at hl 0 rfl) ?_
      refine gf_RX3_39 hC hS z_h0 dX3_addDoor_37 (fun t_37 p_37 q_37 => ?_)
      refine lv_aload_n hx hb dX3_addDoor_40 rfl (lv_at hl 0 rfl) ?_
      refine gk_RX3_65 hC hS z_h0 q6_35 dX3_addDoor_41 ?_
      refine lv_iload_n hx hb dX3_addDoor_44 rfl (lv_at hl 3 rfl) ?_
      refine tq_iast hC hS p_37 rfl (tq_vin i4_w0 (by decide) (by decide)) trivial dX3_addDoor_45 (fun f H locs hS k_45 => ?_)
      have q7_45 := k_45 _ _ _ (tq_ne z_h0 p_37 (fun q => by cases q)) q6_35
      refine lv_aload_n hx hb dX3_addDoor_46 rfl (lv_at hl 0 rfl) ?_
      refine lv_dup hx hb dX3_addDoor_47 rfl ?_
      refine gk_RX3_65 hC hS z_h0 q7_45 dX3_addDoor_48 ?_
      refine lv_iconst (v := 1) hx hb dX3_addDoor_51 (by decide) ?_
      refine lv_iadd hx hb dX3_addDoor_52 ?_
      refine lv_topi (fun t_52 e_52 => ?_)
      have i8_t_52 : tq_iv 1 8 t_52 := tq_w (tq_add e_52 i4_w0 (⟨by decide, by decide⟩ : tq_iv 1 1 1) (by decide) (by decide)) (by decide) (by decide)
      refine pf_RX3_65 hC hS z_h0 (by decide) trivial dX3_addDoor_53 (fun f H locs hS q_53 k_53 => ?_)
      exact K_56 t_52 _ _ _ _ hS q_53 (lv_sub hl [] rfl)
set_option maxHeartbeats 4000000 in
set_option maxRecDepth 100000 in
theorem c_X4_named (l : Launch) (X : tq_X) (Z : tq_Z) (f : Nat → va_E) (h0 : Nat) (z_h0 : tq_z Z h0 (.inl 4)) (x1 : Int32) (x2 : Int32) : tq_Mp l X Z f yX4_named cX4_named 4 (some .int) 0 [.ref h0, .int x1, .int x2] (tq_ri (-1) 7) := by
  refine tq_startip (by decide) (Nat.le_of_ble_eq_true rfl) (fun p e R s m args below meth c Q hC hret hS ls hl => ?_)
  have hC : tq_C p R s m args c X (tq_A Z) RX4 cX4_named 4 0 := hC
  have hx := hC.1.1
  have hb := hC.1.2.1
  have hown := hC.1.2.2.2.1
  have hts := hC.1.2.2.2.2
  have hl : lv_has ls 4 [(0, .ref h0), (1, .int x1), (2, .int x2)] := hl
  refine lv_iload_n hx hb dX4_named_0 rfl (lv_at hl 1 rfl) ?_
  have K_9 : ∀ (ls : Array Slot), lv_has ls 4 [] → W p l e R s m args below meth c s.heap [] 0 0 Q (F0 m 9 ls []) := by
    intro  ls  hl
    refine lv_iconst (v := -1) hx hb dX4_named_9 (by decide) ?_
    exact hret (-1) _ _ rfl ⟨_, rfl, tq_w (⟨by decide, by decide⟩ : tq_iv (-1) (-1) (-1)) (by decide) (by decide)⟩ dX4_named_10
  refine lv_if_lt (tgt := 9) hx hb dX4_named_1 (by decide) (fun c_1 => ?_) (fun c_1 => ?_)
  · skip
    have i1_x1 : tq_iv (-2147483648) (-1) x1 := tq_cut (tq_top x1) (tq_ltL c_1 (tq_top x1) (⟨by decide, by decide⟩ : tq_iv 0 0 0)) (by decide) (by decide)
    exact K_9 _ (lv_sub hl [] rfl)
  · skip
    have i2_x1 : tq_iv 0 2147483647 x1 := tq_cut (tq_top x1) (tq_leR (tq_nlt c_1) (⟨by decide, by decide⟩ : tq_iv 0 0 0) (tq_top x1)) (by decide) (by decide)
    refine lv_iload_n hx hb dX4_named_4 rfl (lv_at hl 1 rfl) ?_
    refine lv_iconst (v := 5) hx hb dX4_named_5 (by decide) ?_
    refine lv_icmp_lt (tgt := 11) hx hb dX4_named_6 (by decide) (fun c_6 => ?_) (fun c_6 => ?_)
    · skip
      have i3_x1 : tq_iv 0 4 x1 := tq_cut i2_x1 (tq_ltL c_6 i2_x1 (⟨by decide, by decide⟩ : tq_iv 5 5 5)) (by decide) (by decide)
      refine lv_iconst (v := 0) hx hb dX4_named_11 (by decide) ?_
      refine lv_istore_n (lv' := [(3, .int 0), (0, .ref h0), (1, .int x1), (2, .int x2)]) hx hb dX4_named_12 rfl hl (by decide) rfl (fun ls hl => ?_)
      have K_13 : ∀ (n_13 : Nat) (x3_13 : Int32) (ls : Array Slot), tq_iv 0 8 x3_13 → (2147483647 - x3_13.toInt).toNat < n_13 → lv_has ls 4 [(3, .int x3_13), (0, .ref h0), (1, .int x1), (2, .int x2)] → W p l e R s m args below meth c s.heap [] 0 0 Q (F0 m 13 ls []) := by
        intro n_13
        induction n_13 with
        | zero => intro x3_13 ls  i4_x3_13 hn_13; exact absurd hn_13 (Nat.not_lt_zero _)
        | succ n_13 ih_13 =>
          intro x3_13 ls  i4_x3_13 hn_13 hl
          refine lv_iload_n hx hb dX4_named_13 rfl (lv_at hl 0 rfl) ?_
          refine lv_iload_n hx hb dX4_named_14 rfl (lv_at hl 3 rfl) ?_
          have K_51 : ∀ (ls : Array Slot), lv_has ls 4 [] → W p l e R s m args below meth c s.heap [] 0 0 Q (F0 m 51 ls []) := by
            intro  ls  hl
            refine lv_iconst (v := -1) hx hb dX4_named_51 (by decide) ?_
            exact hret (-1) _ _ rfl ⟨_, rfl, tq_w (⟨by decide, by decide⟩ : tq_iv (-1) (-1) (-1)) (by decide) (by decide)⟩ dX4_named_52
          refine lv_icmp_ge (tgt := 51) hx hb dX4_named_15 (by decide) (fun c_15 => ?_) (fun c_15 => ?_)
          · skip
            have i5_x2 : tq_iv (-2147483648) 8 x2 := tq_cut (tq_top x2) (tq_leL c_15 (tq_top x2) i4_x3_13) (by decide) (by decide)
            exact K_51 _ (lv_sub hl [] rfl)
          · skip
            have i6_x2 : tq_iv 1 2147483647 x2 := tq_cut (tq_top x2) (tq_ltR (tq_nle c_15) i4_x3_13 (tq_top x2)) (by decide) (by decide)
            refine lv_iload_n hx hb dX4_named_18 rfl (lv_at hl 0 rfl) ?_
            refine lv_bipush (v := 8) hx hb dX4_named_19 (by decide) ?_
            refine lv_icmp_ge (tgt := 51) hx hb dX4_named_21 (by decide) (fun c_21 => ?_) (fun c_21 => ?_)
            · skip
              have i7_x3_13 : tq_iv 8 8 x3_13 := tq_cut i4_x3_13 (tq_leR c_21 (⟨by decide, by decide⟩ : tq_iv 8 8 8) i4_x3_13) (by decide) (by decide)
              exact K_51 _ (lv_sub hl [] rfl)
            · skip
              have i8_x3_13 : tq_iv 0 7 x3_13 := tq_cut i4_x3_13 (tq_ltL (tq_nle c_21) i4_x3_13 (⟨by decide, by decide⟩ : tq_iv 8 8 8)) (by decide) (by decide)
              refine lv_aload_n hx hb dX4_named_24 rfl (lv_at hl 1 rfl) ?_
              refine gf_RX4_36 hC hS z_h0 dX4_named_25 (fun t_25 p_25 q_25 => ?_)
              refine lv_iload_n hx hb dX4_named_28 rfl (lv_at hl 2 rfl) ?_
              refine tq_aald hC hS p_25 (tq_vin i3_x1 (by decide) (by decide)) dX4_named_29 (fun t_29 p_29 => ?_)
              refine lv_iload_n hx hb dX4_named_30 rfl (lv_at hl 0 rfl) ?_
              refine tq_lald hC hS p_29 (tq_vin i8_x3_13 (by decide) (by decide)) dX4_named_31 (fun t_31 => ?_)
              refine lv_aload_n hx hb dX4_named_32 rfl (lv_at hl 1 rfl) ?_
              refine gf_RX4_30 hC hS z_h0 dX4_named_33 (fun t_33 p_33 q_33 => ?_)
              refine gf_RX4_133 hC hS p_33 dX4_named_36 (fun t_36 => ?_)
              refine W.lcmp hx hb dX4_named_39 ?_
              refine lv_topi (fun t_39 e_39 => ?_)
              refine lv_if_ne (tgt := 45) hx hb dX4_named_40 (by decide) (fun c_40 => ?_) (fun c_40 => ?_)
              · skip
                obtain ⟨t_45, e_45⟩ : ∃ y : Int32, y = x3_13 + 1 := ⟨_, rfl⟩
                have i9_t_45 : tq_iv 1 8 t_45 := tq_w (tq_add e_45 i8_x3_13 (⟨by decide, by decide⟩ : tq_iv 1 1 1) (by decide) (by decide)) (by decide) (by decide)
                refine lv_iinc (v := t_45) (lv' := [(3, .int t_45), (0, .ref h0), (1, .int x1), (2, .int x2)]) hx hb dX4_named_45 hl (k := 0) rfl (by rw [e_45]; rfl) (by decide) rfl (fun ls hl => ?_)
                refine lv_goto (tgt := 13) hx hb dX4_named_48 (by decide) ?_
                exact ih_13 t_45 _ (tq_w i9_t_45 (by decide) (by decide)) (tq_up e_45 i8_x3_13 (⟨by decide, by decide⟩ : tq_iv 1 1 1) (by decide) (by decide) hn_13) (lv_sub hl [0, 1, 2, 3] rfl)
              · skip
                have i10_t_39 : tq_iv 0 0 t_39 := tq_cut (tq_top t_39) (tq_eqL c_40 (⟨by decide, by decide⟩ : tq_iv 0 0 0)) (by decide) (by decide)
                refine lv_iload_n hx hb dX4_named_43 rfl (lv_at hl 0 rfl) ?_
                exact hret x3_13 _ _ rfl ⟨_, rfl, tq_w i8_x3_13 (by decide) (by decide)⟩ dX4_named_44
      exact K_13 _ 0 _ (tq_w (⟨by decide, by decide⟩ : tq_iv 0 0 0) (by decide) (by decide)) (Nat.lt_succ_self _) (lv_sub hl [0, 1, 2, 3] rfl)
    · skip
      have i11_x1 : tq_iv 5 2147483647 x1 := tq_cut i2_x1 (tq_leR (tq_nlt c_6) (⟨by decide, by decide⟩ : tq_iv 5 5 5) i2_x1) (by decide) (by decide)
      exact K_9 _ (lv_sub hl [] rfl)
set_option maxHeartbeats 4000000 in
set_option maxRecDepth 100000 in
theorem c_X4_knownName (l : Launch) (X : tq_X) (Z : tq_Z) (f : Nat → va_E) (h0 : Nat) (z_h0 : tq_z Z h0 (.inl 4)) (x1 : Int32) (x2 : Int32) : tq_M l X Z f [(4, 1), (4, 2)] yX4_knownName cX4_knownName 4 (some .int) 2 [.ref h0, .int x1, .int x2] (tq_ri (-1) 7) := by
  refine tq_starti (by decide) (Nat.le_of_ble_eq_true rfl) (fun p e R s m args below meth c Q hC hret hS ls hl => ?_)
  have hC : tq_C p R s m args c X (tq_A Z) RX4 cX4_knownName 4 2 := hC
  have hx := hC.1.1
  have hb := hC.1.2.1
  have hown := hC.1.2.2.2.1
  have hts := hC.1.2.2.2.2
  have hl : lv_has ls 4 [(0, .ref h0), (1, .int x1), (2, .int x2)] := hl
  generalize hf0 : f = f0 at hret
  have hS : tq_S X Z (tq_A Z) s.heap f0 [(4, 1), (4, 2)] f s.heap [] := hf0 ▸ hS
  refine lv_aload_n hx hb dX4_knownName_0 rfl (lv_at hl 0 rfl) ?_
  refine gf_RX4_30 hC hS z_h0 dX4_knownName_1 (fun t_1 p_1 q_1 => ?_)
  refine gf_RX4_49 hC hS p_1 dX4_knownName_4 (fun t_4 p_4 q_4 => ?_)
  refine lv_bipush (v := 23) hx hb dX4_knownName_7 (by decide) ?_
  refine lv_icmp_eq (tgt := 19) hx hb dX4_knownName_9 (by decide) (fun c_9 => ?_) (fun c_9 => ?_)
  · skip
    have i1_t_4 : tq_iv 23 23 t_4 := tq_cut (tq_top t_4) (tq_eqL c_9 (⟨by decide, by decide⟩ : tq_iv 23 23 23)) (by decide) (by decide)
    refine lv_aload_n hx hb dX4_knownName_19 rfl (lv_at hl 0 rfl) ?_
    refine lv_iload_n hx hb dX4_knownName_20 rfl (lv_at hl 1 rfl) ?_
    refine lv_iload_n hx hb dX4_knownName_21 rfl (lv_at hl 2 rfl) ?_
    refine tq_callVpi (As := [.int x1, .int x2]) (rest := []) hC (c_X4_named l X Z _ h0 z_h0 x1 x2) k_X4_named ql_RX4_137 rfl (by decide) hS z_h0 rfl hl.1 rfl (Nat.le_of_ble_eq_true rfl) ⟨Nat.zero_le _, Nat.zero_le _⟩ dX4_knownName_22 (fun t_22 p_22 => ?_)
    refine lv_istore_n (lv' := [(3, .int t_22), (0, .ref h0), (1, .int x1), (2, .int x2)]) hx hb dX4_knownName_25 rfl hl (by decide) rfl (fun ls hl => ?_)
    refine lv_iload_n hx hb dX4_knownName_26 rfl (lv_at hl 0 rfl) ?_
    refine lv_iconst (v := -1) hx hb dX4_knownName_27 (by decide) ?_
    have K_37 : ∀ (f : Nat → va_E) (H : Heap) (locs : List Loc) (ls : Array Slot), tq_S X Z (tq_A Z) s.heap f0 [(4, 1), (4, 2)] f H locs → lv_has ls 4 [(3, .int t_22)] → W p l e R s m args below meth c H locs 0 0 Q (F0 m 37 ls []) := by
      intro f H locs ls  hS hl
      refine lv_iload_n hx hb dX4_knownName_37 rfl (lv_at hl 0 rfl) ?_
      exact hret t_22 _ _ _ _ _ rfl ⟨_, rfl, tq_w p_22 (by decide) (by decide)⟩ hS dX4_knownName_38
    refine lv_icmp_ne (tgt := 37) hx hb dX4_knownName_28 (by decide) (fun c_28 => ?_) (fun c_28 => ?_)
    · skip
      have i2_t_22 : tq_iv 0 7 t_22 := tq_w (tq_neLo c_28 p_22 (⟨by decide, by decide⟩ : tq_iv (-1) (-1) (-1))) (by decide) (by decide)
      exact K_37 _ _ _ _ hS (lv_sub hl [0] rfl)
    · skip
      have i3_t_22 : tq_iv (-1) (-1) t_22 := tq_cut p_22 (tq_eqL c_28 (⟨by decide, by decide⟩ : tq_iv (-1) (-1) (-1))) (by decide) (by decide)
      refine lv_aload_n hx hb dX4_knownName_31 rfl (lv_at hl 1 rfl) ?_
      refine lv_iconst (v := 5) hx hb dX4_knownName_32 (by decide) ?_
      refine tq_callVi (As := [.int 5]) (rest := []) hC (c_X4_blame l X Z _ h0 z_h0 5) k_X4_blame ql_RX4_59 (by decide) rfl (by decide) hS z_h0 rfl hl.1 rfl (Nat.le_of_ble_eq_true rfl) ⟨Nat.zero_le _, Nat.zero_le _⟩ dX4_knownName_33 (fun t_33 f1_33 H locs p_33 hS k_33 => ?_)
      refine lv_pop hx hb dX4_knownName_36 rfl ?_
      exact K_37 _ _ _ _ hS (lv_sub hl [0] rfl)
  · skip
    refine lv_aload_n hx hb dX4_knownName_12 rfl (lv_at hl 0 rfl) ?_
    refine tq_callVi (As := []) (rest := []) hC (c_X4_refuse l X Z _ h0 z_h0) k_X4_refuse ql_RX4_63 (by decide) rfl (by decide) hS z_h0 rfl hl.1 rfl (Nat.le_of_ble_eq_true rfl) ⟨Nat.zero_le _, Nat.zero_le _⟩ dX4_knownName_13 (fun t_13 f1_13 H locs p_13 hS k_13 => ?_)
    refine lv_pop hx hb dX4_knownName_16 rfl ?_
    refine lv_iconst (v := -1) hx hb dX4_knownName_17 (by decide) ?_
    exact hret (-1) _ _ _ _ _ rfl ⟨_, rfl, tq_w (⟨by decide, by decide⟩ : tq_iv (-1) (-1) (-1)) (by decide) (by decide)⟩ hS dX4_knownName_18
set_option maxHeartbeats 4000000 in
set_option maxRecDepth 100000 in
theorem c_X4_readNewName (l : Launch) (X : tq_X) (Z : tq_Z) (f : Nat → va_E) (h0 : Nat) (z_h0 : tq_z Z h0 (.inl 4)) (x1 : Int32) (x2 : Int32) (x3 : Int32) : tq_M l X Z f [(4, 1), (4, 2), (9, 3), (9, 4), (9, 5), (9, 6), (9, 7)] yX4_readNewName cX4_readNewName 4 (some .boolean) 5 [.ref h0, .int x1, .int x2, .int x3] (fun v => ∃ r : Int32, v = some (.int r) ∧ tq_iv 0 1 r ∧ (¬ r = 0 → x2 < x3)) := by
  refine tq_starti (by decide) (Nat.le_of_ble_eq_true rfl) (fun p e R s m args below meth c Q hC hret hS ls hl => ?_)
  have hC : tq_C p R s m args c X (tq_A Z) RX4 cX4_readNewName 4 5 := hC
  have hx := hC.1.1
  have hb := hC.1.2.1
  have hown := hC.1.2.2.2.1
  have hts := hC.1.2.2.2.2
  have hl : lv_has ls 4 [(0, .ref h0), (1, .int x1), (2, .int x2), (3, .int x3)] := hl
  generalize hf0 : f = f0 at hret
  have hS : tq_S X Z (tq_A Z) s.heap f0 [(4, 1), (4, 2), (9, 3), (9, 4), (9, 5), (9, 6), (9, 7)] f s.heap [] := hf0 ▸ hS
  refine lv_iload_n hx hb dX4_readNewName_0 rfl (lv_at hl 2 rfl) ?_
  refine lv_iload_n hx hb dX4_readNewName_1 rfl (lv_at hl 3 rfl) ?_
  refine lv_icmp_lt (tgt := 10) hx hb dX4_readNewName_2 (by decide) (fun c_2 => ?_) (fun c_2 => ?_)
  · skip
    have i1_x2 : tq_iv (-2147483648) 2147483646 x2 := tq_cut (tq_top x2) (tq_ltL c_2 (tq_top x2) (tq_top x3)) (by decide) (by decide)
    have i2_x3 : tq_iv (-2147483647) 2147483647 x3 := tq_cut (tq_top x3) (tq_ltR c_2 (tq_top x2) (tq_top x3)) (by decide) (by decide)
    refine lv_aload_n hx hb dX4_readNewName_10 rfl (lv_at hl 0 rfl) ?_
    refine gf_RX4_30 hC hS z_h0 dX4_readNewName_11 (fun t_11 p_11 q_11 => ?_)
    refine tq_callVv (As := []) (rest := []) hC (c_X9_advance l X Z _ t_11 p_11) k_X9_advance ql_RX4_66 (by decide) rfl (by decide) hS p_11 rfl hl.1 rfl (Nat.le_of_ble_eq_true rfl) ⟨Nat.zero_le _, Nat.zero_le _⟩ dX4_readNewName_14 (fun f1_14 H locs hS k_14 => ?_)
    refine lv_aload_n hx hb dX4_readNewName_17 rfl (lv_at hl 0 rfl) ?_
    refine gf_RX4_30 hC hS z_h0 dX4_readNewName_18 (fun t_18 p_18 q_18 => ?_)
    refine gf_RX4_49 hC hS p_18 dX4_readNewName_21 (fun t_21 p_21 q_21 => ?_)
    refine lv_bipush (v := 23) hx hb dX4_readNewName_24 (by decide) ?_
    refine lv_icmp_eq (tgt := 34) hx hb dX4_readNewName_26 (by decide) (fun c_26 => ?_) (fun c_26 => ?_)
    · skip
      have i3_t_21 : tq_iv 23 23 t_21 := tq_cut (tq_top t_21) (tq_eqL c_26 (⟨by decide, by decide⟩ : tq_iv 23 23 23)) (by decide) (by decide)
      refine lv_aload_n hx hb dX4_readNewName_34 rfl (lv_at hl 0 rfl) ?_
      refine lv_iload_n hx hb dX4_readNewName_35 rfl (lv_at hl 1 rfl) ?_
      refine lv_iload_n hx hb dX4_readNewName_36 rfl (lv_at hl 2 rfl) ?_
      refine tq_callVpi (As := [.int x1, .int x2]) (rest := []) hC (c_X4_named l X Z _ h0 z_h0 x1 x2) k_X4_named ql_RX4_137 rfl (by decide) hS z_h0 rfl hl.1 rfl (Nat.le_of_ble_eq_true rfl) ⟨Nat.zero_le _, Nat.zero_le _⟩ dX4_readNewName_37 (fun t_37 p_37 => ?_)
      refine lv_iconst (v := -1) hx hb dX4_readNewName_40 (by decide) ?_
      refine lv_icmp_eq (tgt := 50) hx hb dX4_readNewName_41 (by decide) (fun c_41 => ?_) (fun c_41 => ?_)
      · skip
        have i4_t_37 : tq_iv (-1) (-1) t_37 := tq_cut p_37 (tq_eqL c_41 (⟨by decide, by decide⟩ : tq_iv (-1) (-1) (-1))) (by decide) (by decide)
        refine lv_iload_n hx hb dX4_readNewName_50 rfl (lv_at hl 1 rfl) ?_
        have K_84 : ∀ (f : Nat → va_E) (H : Heap) (locs : List Loc) (ls : Array Slot), tq_S X Z (tq_A Z) s.heap f0 [(4, 1), (4, 2), (9, 3), (9, 4), (9, 5), (9, 6), (9, 7)] f H locs → lv_has ls 4 [(0, .ref h0)] → W p l e R s m args below meth c H locs 0 0 Q (F0 m 84 ls []) := by
          intro f H locs ls  hS hl
          refine lv_aload_n hx hb dX4_readNewName_84 rfl (lv_at hl 0 rfl) ?_
          refine gf_RX4_30 hC hS z_h0 dX4_readNewName_85 (fun t_85 p_85 q_85 => ?_)
          refine tq_callVv (As := []) (rest := []) hC (c_X9_advance l X Z _ t_85 p_85) k_X9_advance ql_RX4_66 (by decide) rfl (by decide) hS p_85 rfl hl.1 rfl (Nat.le_of_ble_eq_true rfl) ⟨Nat.zero_le _, Nat.zero_le _⟩ dX4_readNewName_88 (fun f1_88 H locs hS k_88 => ?_)
          refine lv_iconst (v := 1) hx hb dX4_readNewName_91 (by decide) ?_
          exact hret 1 _ _ _ _ _ (tq_nb (⟨by decide, by decide⟩ : tq_iv 1 1 1) (by decide) (by decide)) ⟨_, rfl, tq_w (⟨by decide, by decide⟩ : tq_iv 1 1 1) (by decide) (by decide), (fun _ => c_2)⟩ hS dX4_readNewName_92
        refine lv_if_lt (tgt := 84) hx hb dX4_readNewName_51 (by decide) (fun c_51 => ?_) (fun c_51 => ?_)
        · skip
          have i5_x1 : tq_iv (-2147483648) (-1) x1 := tq_cut (tq_top x1) (tq_ltL c_51 (tq_top x1) (⟨by decide, by decide⟩ : tq_iv 0 0 0)) (by decide) (by decide)
          exact K_84 _ _ _ _ hS (lv_sub hl [0] rfl)
        · skip
          have i6_x1 : tq_iv 0 2147483647 x1 := tq_cut (tq_top x1) (tq_leR (tq_nlt c_51) (⟨by decide, by decide⟩ : tq_iv 0 0 0) (tq_top x1)) (by decide) (by decide)
          refine lv_iload_n hx hb dX4_readNewName_54 rfl (lv_at hl 1 rfl) ?_
          refine lv_iconst (v := 5) hx hb dX4_readNewName_55 (by decide) ?_
          refine lv_icmp_ge (tgt := 84) hx hb dX4_readNewName_56 (by decide) (fun c_56 => ?_) (fun c_56 => ?_)
          · skip
            have i7_x1 : tq_iv 5 2147483647 x1 := tq_cut i6_x1 (tq_leR c_56 (⟨by decide, by decide⟩ : tq_iv 5 5 5) i6_x1) (by decide) (by decide)
            exact K_84 _ _ _ _ hS (lv_sub hl [0] rfl)
          · skip
            have i8_x1 : tq_iv 0 4 x1 := tq_cut i6_x1 (tq_ltL (tq_nle c_56) i6_x1 (⟨by decide, by decide⟩ : tq_iv 5 5 5)) (by decide) (by decide)
            refine lv_iload_n hx hb dX4_readNewName_59 rfl (lv_at hl 2 rfl) ?_
            refine lv_if_lt (tgt := 84) hx hb dX4_readNewName_60 (by decide) (fun c_60 => ?_) (fun c_60 => ?_)
            · skip
              have i9_x2 : tq_iv (-2147483648) (-1) x2 := tq_cut i1_x2 (tq_ltL c_60 i1_x2 (⟨by decide, by decide⟩ : tq_iv 0 0 0)) (by decide) (by decide)
              exact K_84 _ _ _ _ hS (lv_sub hl [0] rfl)
            · skip
              have i10_x2 : tq_iv 0 2147483646 x2 := tq_cut i1_x2 (tq_leR (tq_nlt c_60) (⟨by decide, by decide⟩ : tq_iv 0 0 0) i1_x2) (by decide) (by decide)
              refine lv_iload_n hx hb dX4_readNewName_63 rfl (lv_at hl 2 rfl) ?_
              refine lv_bipush (v := 8) hx hb dX4_readNewName_64 (by decide) ?_
              refine lv_icmp_ge (tgt := 84) hx hb dX4_readNewName_66 (by decide) (fun c_66 => ?_) (fun c_66 => ?_)
              · skip
                have i11_x2 : tq_iv 8 2147483646 x2 := tq_cut i10_x2 (tq_leR c_66 (⟨by decide, by decide⟩ : tq_iv 8 8 8) i10_x2) (by decide) (by decide)
                exact K_84 _ _ _ _ hS (lv_sub hl [0] rfl)
              · skip
                have i12_x2 : tq_iv 0 7 x2 := tq_cut i10_x2 (tq_ltL (tq_nle c_66) i10_x2 (⟨by decide, by decide⟩ : tq_iv 8 8 8)) (by decide) (by decide)
                refine lv_aload_n hx hb dX4_readNewName_69 rfl (lv_at hl 0 rfl) ?_
                refine gf_RX4_36 hC hS z_h0 dX4_readNewName_70 (fun t_70 p_70 q_70 => ?_)
                refine lv_iload_n hx hb dX4_readNewName_73 rfl (lv_at hl 1 rfl) ?_
                refine tq_aald hC hS p_70 (tq_vin i8_x1 (by decide) (by decide)) dX4_readNewName_74 (fun t_74 p_74 => ?_)
                refine lv_iload_n hx hb dX4_readNewName_75 rfl (lv_at hl 2 rfl) ?_
                refine lv_aload_n hx hb dX4_readNewName_76 rfl (lv_at hl 0 rfl) ?_
                refine gf_RX4_30 hC hS z_h0 dX4_readNewName_77 (fun t_77 p_77 q_77 => ?_)
                refine gf_RX4_133 hC hS p_77 dX4_readNewName_80 (fun t_80 => ?_)
                refine tq_last hC hS p_74 (tq_vin i12_x2 (by decide) (by decide)) dX4_readNewName_83 (fun f H locs hS k_83 => ?_)
                exact K_84 _ _ _ _ hS (lv_sub hl [0] rfl)
      · skip
        have i13_t_37 : tq_iv 0 7 t_37 := tq_w (tq_neLo c_41 p_37 (⟨by decide, by decide⟩ : tq_iv (-1) (-1) (-1))) (by decide) (by decide)
        refine lv_aload_n hx hb dX4_readNewName_44 rfl (lv_at hl 0 rfl) ?_
        refine lv_iconst (v := 3) hx hb dX4_readNewName_45 (by decide) ?_
        refine tq_callVi (As := [.int 3]) (rest := []) hC (c_X4_blame l X Z _ h0 z_h0 3) k_X4_blame ql_RX4_59 (by decide) rfl (by decide) hS z_h0 rfl hl.1 rfl (Nat.le_of_ble_eq_true rfl) ⟨Nat.zero_le _, Nat.zero_le _⟩ dX4_readNewName_46 (fun t_46 f1_46 H locs p_46 hS k_46 => ?_)
        exact hret t_46 _ _ _ _ _ (tq_nb p_46 (by decide) (by decide)) ⟨_, rfl, tq_w p_46 (by decide) (by decide), (fun q => absurd (tq_z0 p_46) q)⟩ hS dX4_readNewName_49
    · skip
      refine lv_aload_n hx hb dX4_readNewName_29 rfl (lv_at hl 0 rfl) ?_
      refine tq_callVi (As := []) (rest := []) hC (c_X4_refuse l X Z _ h0 z_h0) k_X4_refuse ql_RX4_63 (by decide) rfl (by decide) hS z_h0 rfl hl.1 rfl (Nat.le_of_ble_eq_true rfl) ⟨Nat.zero_le _, Nat.zero_le _⟩ dX4_readNewName_30 (fun t_30 f1_30 H locs p_30 hS k_30 => ?_)
      exact hret t_30 _ _ _ _ _ (tq_nb p_30 (by decide) (by decide)) ⟨_, rfl, tq_w p_30 (by decide) (by decide), (fun q => absurd (tq_z0 p_30) q)⟩ hS dX4_readNewName_33
  · skip
    refine lv_aload_n hx hb dX4_readNewName_5 rfl (lv_at hl 0 rfl) ?_
    refine tq_callVi (As := []) (rest := []) hC (c_X4_refuse l X Z _ h0 z_h0) k_X4_refuse ql_RX4_63 (by decide) rfl (by decide) hS z_h0 rfl hl.1 rfl (Nat.le_of_ble_eq_true rfl) ⟨Nat.zero_le _, Nat.zero_le _⟩ dX4_readNewName_6 (fun t_6 f1_6 H locs p_6 hS k_6 => ?_)
    exact hret t_6 _ _ _ _ _ (tq_nb p_6 (by decide) (by decide)) ⟨_, rfl, tq_w p_6 (by decide) (by decide), (fun q => absurd (tq_z0 p_6) q)⟩ hS dX4_readNewName_9
set_option maxHeartbeats 4000000 in
set_option maxRecDepth 100000 in
theorem c_X4_readDoor (l : Launch) (X : tq_X) (Z : tq_Z) (f : Nat → va_E) (h0 : Nat) (z_h0 : tq_z Z h0 (.inl 4)) : tq_M l X Z f [(3, 6), (4, 1), (4, 2), (9, 3), (9, 4), (9, 5), (9, 6), (9, 7)] yX4_readDoor cX4_readDoor 4 (some .boolean) 6 [.ref h0] (tq_ri 0 1) := by
  refine tq_starti (by decide) (Nat.le_of_ble_eq_true rfl) (fun p e R s m args below meth c Q hC hret hS ls hl => ?_)
  have hC : tq_C p R s m args c X (tq_A Z) RX4 cX4_readDoor 4 6 := hC
  have hx := hC.1.1
  have hb := hC.1.2.1
  have hown := hC.1.2.2.2.1
  have hts := hC.1.2.2.2.2
  have hl : lv_has ls 4 [(0, .ref h0)] := hl
  generalize hf0 : f = f0 at hret
  have hS : tq_S X Z (tq_A Z) s.heap f0 [(3, 6), (4, 1), (4, 2), (9, 3), (9, 4), (9, 5), (9, 6), (9, 7)] f s.heap [] := hf0 ▸ hS
  refine lv_aload_n hx hb dX4_readDoor_0 rfl (lv_at hl 0 rfl) ?_
  refine lv_iconst (v := 3) hx hb dX4_readDoor_1 (by decide) ?_
  refine lv_aload_n hx hb dX4_readDoor_2 rfl (lv_at hl 0 rfl) ?_
  refine gf_RX4_12 hC hS z_h0 dX4_readDoor_3 (fun t_3 p_3 q_3 => ?_)
  refine gf_RX4_177 hC hS p_3 dX4_readDoor_6 (fun t_6 p_6 q_6 => ?_)
  refine lv_bipush (v := 8) hx hb dX4_readDoor_9 (by decide) ?_
  refine tq_callV (As := [.int 3, .int t_6, .int 8]) (rest := []) hC (c_X4_readNewName l X Z _ h0 z_h0 3 t_6 8) k_X4_readNewName ql_RX4_144 (by decide) rfl (by decide) hS z_h0 rfl hl.1 rfl (Nat.le_of_ble_eq_true rfl) ⟨Nat.zero_le _, Nat.zero_le _⟩ dX4_readDoor_11 (fun v_11 f1_11 H locs hv_11 hS k_11 => ?_)
  obtain ⟨t_11, rfl, p_11, g_11⟩ := hv_11
  refine W.eq (g2 := F0 m 14 ls (.int t_11 :: [])) rfl ?_
  have K_26 : ∀ (f : Nat → va_E) (H : Heap) (locs : List Loc) (ls : Array Slot), tq_S X Z (tq_A Z) s.heap f0 [(3, 6), (4, 1), (4, 2), (9, 3), (9, 4), (9, 5), (9, 6), (9, 7)] f H locs → lv_has ls 4 [] → W p l e R s m args below meth c H locs 0 0 Q (F0 m 26 ls []) := by
    intro f H locs ls  hS hl
    refine lv_iconst (v := 0) hx hb dX4_readDoor_26 (by decide) ?_
    exact hret 0 _ _ _ _ _ (tq_nb (⟨by decide, by decide⟩ : tq_iv 0 0 0) (by decide) (by decide)) ⟨_, rfl, tq_w (⟨by decide, by decide⟩ : tq_iv 0 0 0) (by decide) (by decide)⟩ hS dX4_readDoor_27
  refine lv_if_eq (tgt := 26) hx hb dX4_readDoor_14 (by decide) (fun c_14 => ?_) (fun c_14 => ?_)
  · skip
    have i1_t_11 : tq_iv 0 0 t_11 := tq_cut p_11 (tq_eqL c_14 (⟨by decide, by decide⟩ : tq_iv 0 0 0)) (by decide) (by decide)
    exact K_26 _ _ _ _ hS (lv_sub hl [] rfl)
  · skip
    have i2_t_6 : tq_iv (-2147483648) 7 t_6 := tq_cut (tq_top t_6) (tq_ltL (g_11 c_14) (tq_top t_6) (⟨by decide, by decide⟩ : tq_iv 8 8 8)) (by decide) (by decide)
    have i3_t_11 : tq_iv 1 1 t_11 := tq_w (tq_neLo c_14 p_11 (⟨by decide, by decide⟩ : tq_iv 0 0 0)) (by decide) (by decide)
    refine lv_aload_n hx hb dX4_readDoor_17 rfl (lv_at hl 0 rfl) ?_
    refine lv_bipush (v := 12) hx hb dX4_readDoor_18 (by decide) ?_
    refine tq_callVi (As := [.int 12]) (rest := []) hC (c_X4_expect l X Z _ h0 z_h0 12) k_X4_expect ql_RX4_97 (by decide) rfl (by decide) hS z_h0 rfl hl.1 rfl (Nat.le_of_ble_eq_true rfl) ⟨Nat.zero_le _, Nat.zero_le _⟩ dX4_readDoor_20 (fun t_20 f1_20 H locs p_20 hS k_20 => ?_)
    refine lv_if_ne (tgt := 28) hx hb dX4_readDoor_23 (by decide) (fun c_23 => ?_) (fun c_23 => ?_)
    · skip
      have i4_t_20 : tq_iv 1 1 t_20 := tq_w (tq_neLo c_23 p_20 (⟨by decide, by decide⟩ : tq_iv 0 0 0)) (by decide) (by decide)
      refine lv_aload_n hx hb dX4_readDoor_28 rfl (lv_at hl 0 rfl) ?_
      refine lv_iconst (v := 2) hx hb dX4_readDoor_29 (by decide) ?_
      refine lv_aload_n hx hb dX4_readDoor_30 rfl (lv_at hl 0 rfl) ?_
      refine gf_RX4_12 hC hS z_h0 dX4_readDoor_31 (fun t_31 p_31 q_31 => ?_)
      refine gf_RX4_174 hC hS p_31 dX4_readDoor_34 (fun t_34 p_34 q_34 => ?_)
      refine tq_callVi (As := [.int 2, .int t_34]) (rest := []) hC (c_X4_knownName l X Z _ h0 z_h0 2 t_34) k_X4_knownName ql_RX4_180 (by decide) rfl (by decide) hS z_h0 rfl hl.1 rfl (Nat.le_of_ble_eq_true rfl) ⟨Nat.zero_le _, Nat.zero_le _⟩ dX4_readDoor_37 (fun t_37 f1_37 H locs p_37 hS k_37 => ?_)
      refine lv_istore_n (lv' := [(1, .int t_37), (0, .ref h0)]) hx hb dX4_readDoor_40 rfl hl (by decide) rfl (fun ls hl => ?_)
      refine lv_iload_n hx hb dX4_readDoor_41 rfl (lv_at hl 0 rfl) ?_
      refine lv_iconst (v := -1) hx hb dX4_readDoor_42 (by decide) ?_
      refine lv_icmp_ne (tgt := 48) hx hb dX4_readDoor_43 (by decide) (fun c_43 => ?_) (fun c_43 => ?_)
      · skip
        have i5_t_37 : tq_iv 0 7 t_37 := tq_w (tq_neLo c_43 p_37 (⟨by decide, by decide⟩ : tq_iv (-1) (-1) (-1))) (by decide) (by decide)
        refine lv_aload_n hx hb dX4_readDoor_48 rfl (lv_at hl 1 rfl) ?_
        refine gf_RX4_30 hC hS z_h0 dX4_readDoor_49 (fun t_49 p_49 q_49 => ?_)
        refine tq_callVv (As := []) (rest := []) hC (c_X9_advance l X Z _ t_49 p_49) k_X9_advance ql_RX4_66 (by decide) rfl (by decide) hS p_49 rfl hl.1 rfl (Nat.le_of_ble_eq_true rfl) ⟨Nat.zero_le _, Nat.zero_le _⟩ dX4_readDoor_52 (fun f1_52 H locs hS k_52 => ?_)
        refine lv_aload_n hx hb dX4_readDoor_55 rfl (lv_at hl 1 rfl) ?_
        refine lv_bipush (v := 13) hx hb dX4_readDoor_56 (by decide) ?_
        refine tq_callVi (As := [.int 13]) (rest := []) hC (c_X4_expect l X Z _ h0 z_h0 13) k_X4_expect ql_RX4_97 (by decide) rfl (by decide) hS z_h0 rfl hl.1 rfl (Nat.le_of_ble_eq_true rfl) ⟨Nat.zero_le _, Nat.zero_le _⟩ dX4_readDoor_58 (fun t_58 f1_58 H locs p_58 hS k_58 => ?_)
        refine lv_if_ne (tgt := 66) hx hb dX4_readDoor_61 (by decide) (fun c_61 => ?_) (fun c_61 => ?_)
        · skip
          have i6_t_58 : tq_iv 1 1 t_58 := tq_w (tq_neLo c_61 p_58 (⟨by decide, by decide⟩ : tq_iv 0 0 0)) (by decide) (by decide)
          refine lv_aload_n hx hb dX4_readDoor_66 rfl (lv_at hl 1 rfl) ?_
          refine lv_iconst (v := 2) hx hb dX4_readDoor_67 (by decide) ?_
          refine lv_aload_n hx hb dX4_readDoor_68 rfl (lv_at hl 1 rfl) ?_
          refine gf_RX4_12 hC hS z_h0 dX4_readDoor_69 (fun t_69 p_69 q_69 => ?_)
          refine gf_RX4_174 hC hS p_69 dX4_readDoor_72 (fun t_72 p_72 q_72 => ?_)
          refine tq_callVi (As := [.int 2, .int t_72]) (rest := []) hC (c_X4_knownName l X Z _ h0 z_h0 2 t_72) k_X4_knownName ql_RX4_180 (by decide) rfl (by decide) hS z_h0 rfl hl.1 rfl (Nat.le_of_ble_eq_true rfl) ⟨Nat.zero_le _, Nat.zero_le _⟩ dX4_readDoor_75 (fun t_75 f1_75 H locs p_75 hS k_75 => ?_)
          refine lv_istore_n (lv' := [(2, .int t_75), (1, .int t_37), (0, .ref h0)]) hx hb dX4_readDoor_78 rfl hl (by decide) rfl (fun ls hl => ?_)
          refine lv_iload_n hx hb dX4_readDoor_79 rfl (lv_at hl 0 rfl) ?_
          refine lv_iconst (v := -1) hx hb dX4_readDoor_80 (by decide) ?_
          refine lv_icmp_ne (tgt := 86) hx hb dX4_readDoor_81 (by decide) (fun c_81 => ?_) (fun c_81 => ?_)
          · skip
            have i7_t_75 : tq_iv 0 7 t_75 := tq_w (tq_neLo c_81 p_75 (⟨by decide, by decide⟩ : tq_iv (-1) (-1) (-1))) (by decide) (by decide)
            refine lv_iload_n hx hb dX4_readDoor_86 rfl (lv_at hl 0 rfl) ?_
            refine lv_iload_n hx hb dX4_readDoor_87 rfl (lv_at hl 1 rfl) ?_
            refine lv_icmp_ne (tgt := 97) hx hb dX4_readDoor_88 (by decide) (fun c_88 => ?_) (fun c_88 => ?_)
            · skip
              refine lv_aload_n hx hb dX4_readDoor_97 rfl (lv_at hl 2 rfl) ?_
              refine gf_RX4_30 hC hS z_h0 dX4_readDoor_98 (fun t_98 p_98 q_98 => ?_)
              refine tq_callVv (As := []) (rest := []) hC (c_X9_advance l X Z _ t_98 p_98) k_X9_advance ql_RX4_66 (by decide) rfl (by decide) hS p_98 rfl hl.1 rfl (Nat.le_of_ble_eq_true rfl) ⟨Nat.zero_le _, Nat.zero_le _⟩ dX4_readDoor_101 (fun f1_101 H locs hS k_101 => ?_)
              refine lv_aload_n hx hb dX4_readDoor_104 rfl (lv_at hl 2 rfl) ?_
              refine lv_iconst (v := 4) hx hb dX4_readDoor_105 (by decide) ?_
              refine tq_callVi (As := [.int 4]) (rest := []) hC (c_X4_expect l X Z _ h0 z_h0 4) k_X4_expect ql_RX4_97 (by decide) rfl (by decide) hS z_h0 rfl hl.1 rfl (Nat.le_of_ble_eq_true rfl) ⟨Nat.zero_le _, Nat.zero_le _⟩ dX4_readDoor_106 (fun t_106 f1_106 H locs p_106 hS k_106 => ?_)
              refine lv_if_ne (tgt := 114) hx hb dX4_readDoor_109 (by decide) (fun c_109 => ?_) (fun c_109 => ?_)
              · skip
                have i8_t_106 : tq_iv 1 1 t_106 := tq_w (tq_neLo c_109 p_106 (⟨by decide, by decide⟩ : tq_iv 0 0 0)) (by decide) (by decide)
                refine lv_aload_n hx hb dX4_readDoor_114 rfl (lv_at hl 2 rfl) ?_
                refine lv_iconst (v := 1) hx hb dX4_readDoor_115 (by decide) ?_
                refine lv_aload_n hx hb dX4_readDoor_116 rfl (lv_at hl 2 rfl) ?_
                refine gf_RX4_12 hC hS z_h0 dX4_readDoor_117 (fun t_117 p_117 q_117 => ?_)
                refine gf_RX4_103 hC hS p_117 dX4_readDoor_120 (fun t_120 p_120 q_120 => ?_)
                refine tq_callVi (As := [.int 1, .int t_120]) (rest := []) hC (c_X4_knownName l X Z _ h0 z_h0 1 t_120) k_X4_knownName ql_RX4_180 (by decide) rfl (by decide) hS z_h0 rfl hl.1 rfl (Nat.le_of_ble_eq_true rfl) ⟨Nat.zero_le _, Nat.zero_le _⟩ dX4_readDoor_123 (fun t_123 f1_123 H locs p_123 hS k_123 => ?_)
                refine lv_istore_n (lv' := [(3, .int t_123), (2, .int t_75), (1, .int t_37), (0, .ref h0)]) hx hb dX4_readDoor_126 rfl hl (by decide) rfl (fun ls hl => ?_)
                refine lv_iload_n hx hb dX4_readDoor_127 rfl (lv_at hl 0 rfl) ?_
                refine lv_iconst (v := -1) hx hb dX4_readDoor_128 (by decide) ?_
                refine lv_icmp_ne (tgt := 134) hx hb dX4_readDoor_129 (by decide) (fun c_129 => ?_) (fun c_129 => ?_)
                · skip
                  have i9_t_123 : tq_iv 0 7 t_123 := tq_w (tq_neLo c_129 p_123 (⟨by decide, by decide⟩ : tq_iv (-1) (-1) (-1))) (by decide) (by decide)
                  refine lv_aload_n hx hb dX4_readDoor_134 rfl (lv_at hl 3 rfl) ?_
                  refine gf_RX4_30 hC hS z_h0 dX4_readDoor_135 (fun t_135 p_135 q_135 => ?_)
                  refine tq_callVv (As := []) (rest := []) hC (c_X9_advance l X Z _ t_135 p_135) k_X9_advance ql_RX4_66 (by decide) rfl (by decide) hS p_135 rfl hl.1 rfl (Nat.le_of_ble_eq_true rfl) ⟨Nat.zero_le _, Nat.zero_le _⟩ dX4_readDoor_138 (fun f1_138 H locs hS k_138 => ?_)
                  refine lv_aload_n hx hb dX4_readDoor_141 rfl (lv_at hl 3 rfl) ?_
                  refine gf_RX4_12 hC hS z_h0 dX4_readDoor_142 (fun t_142 p_142 q_142 => ?_)
                  refine lv_iload_n hx hb dX4_readDoor_145 rfl (lv_at hl 2 rfl) ?_
                  refine lv_iload_n hx hb dX4_readDoor_146 rfl (lv_at hl 1 rfl) ?_
                  refine lv_iload_n hx hb dX4_readDoor_147 rfl (lv_at hl 0 rfl) ?_
                  refine tq_callVv (As := [.int t_37, .int t_75, .int t_123]) (rest := []) hC (c_X3_addDoor l X Z _ t_142 p_142 t_37 t_75 t_123) k_X3_addDoor ql_RX4_183 (by decide) rfl (by decide) hS p_142 rfl hl.1 rfl (Nat.le_of_ble_eq_true rfl) ⟨Nat.zero_le _, Nat.zero_le _⟩ dX4_readDoor_148 (fun f1_148 H locs hS k_148 => ?_)
                  refine lv_aload_n hx hb dX4_readDoor_151 rfl (lv_at hl 3 rfl) ?_
                  refine lv_bipush (v := 59) hx hb dX4_readDoor_152 (by decide) ?_
                  refine tq_callVi (As := [.int 59]) (rest := []) hC (c_X4_expect l X Z _ h0 z_h0 59) k_X4_expect ql_RX4_97 (by decide) rfl (by decide) hS z_h0 rfl hl.1 rfl (Nat.le_of_ble_eq_true rfl) ⟨Nat.zero_le _, Nat.zero_le _⟩ dX4_readDoor_154 (fun t_154 f1_154 H locs p_154 hS k_154 => ?_)
                  exact hret t_154 _ _ _ _ _ (tq_nb p_154 (by decide) (by decide)) ⟨_, rfl, tq_w p_154 (by decide) (by decide)⟩ hS dX4_readDoor_157
                · skip
                  have i10_t_123 : tq_iv (-1) (-1) t_123 := tq_cut p_123 (tq_eqL c_129 (⟨by decide, by decide⟩ : tq_iv (-1) (-1) (-1))) (by decide) (by decide)
                  refine lv_iconst (v := 0) hx hb dX4_readDoor_132 (by decide) ?_
                  exact hret 0 _ _ _ _ _ (tq_nb (⟨by decide, by decide⟩ : tq_iv 0 0 0) (by decide) (by decide)) ⟨_, rfl, tq_w (⟨by decide, by decide⟩ : tq_iv 0 0 0) (by decide) (by decide)⟩ hS dX4_readDoor_133
              · skip
                have i11_t_106 : tq_iv 0 0 t_106 := tq_cut p_106 (tq_eqL c_109 (⟨by decide, by decide⟩ : tq_iv 0 0 0)) (by decide) (by decide)
                refine lv_iconst (v := 0) hx hb dX4_readDoor_112 (by decide) ?_
                exact hret 0 _ _ _ _ _ (tq_nb (⟨by decide, by decide⟩ : tq_iv 0 0 0) (by decide) (by decide)) ⟨_, rfl, tq_w (⟨by decide, by decide⟩ : tq_iv 0 0 0) (by decide) (by decide)⟩ hS dX4_readDoor_113
            · skip
              refine lv_aload_n hx hb dX4_readDoor_91 rfl (lv_at hl 2 rfl) ?_
              refine lv_iconst (v := 3) hx hb dX4_readDoor_92 (by decide) ?_
              refine tq_callVi (As := [.int 3]) (rest := []) hC (c_X4_blame l X Z _ h0 z_h0 3) k_X4_blame ql_RX4_59 (by decide) rfl (by decide) hS z_h0 rfl hl.1 rfl (Nat.le_of_ble_eq_true rfl) ⟨Nat.zero_le _, Nat.zero_le _⟩ dX4_readDoor_93 (fun t_93 f1_93 H locs p_93 hS k_93 => ?_)
              exact hret t_93 _ _ _ _ _ (tq_nb p_93 (by decide) (by decide)) ⟨_, rfl, tq_w p_93 (by decide) (by decide)⟩ hS dX4_readDoor_96
          · skip
            have i12_t_75 : tq_iv (-1) (-1) t_75 := tq_cut p_75 (tq_eqL c_81 (⟨by decide, by decide⟩ : tq_iv (-1) (-1) (-1))) (by decide) (by decide)
            refine lv_iconst (v := 0) hx hb dX4_readDoor_84 (by decide) ?_
            exact hret 0 _ _ _ _ _ (tq_nb (⟨by decide, by decide⟩ : tq_iv 0 0 0) (by decide) (by decide)) ⟨_, rfl, tq_w (⟨by decide, by decide⟩ : tq_iv 0 0 0) (by decide) (by decide)⟩ hS dX4_readDoor_85
        · skip
          have i13_t_58 : tq_iv 0 0 t_58 := tq_cut p_58 (tq_eqL c_61 (⟨by decide, by decide⟩ : tq_iv 0 0 0)) (by decide) (by decide)
          refine lv_iconst (v := 0) hx hb dX4_readDoor_64 (by decide) ?_
          exact hret 0 _ _ _ _ _ (tq_nb (⟨by decide, by decide⟩ : tq_iv 0 0 0) (by decide) (by decide)) ⟨_, rfl, tq_w (⟨by decide, by decide⟩ : tq_iv 0 0 0) (by decide) (by decide)⟩ hS dX4_readDoor_65
      · skip
        have i14_t_37 : tq_iv (-1) (-1) t_37 := tq_cut p_37 (tq_eqL c_43 (⟨by decide, by decide⟩ : tq_iv (-1) (-1) (-1))) (by decide) (by decide)
        refine lv_iconst (v := 0) hx hb dX4_readDoor_46 (by decide) ?_
        exact hret 0 _ _ _ _ _ (tq_nb (⟨by decide, by decide⟩ : tq_iv 0 0 0) (by decide) (by decide)) ⟨_, rfl, tq_w (⟨by decide, by decide⟩ : tq_iv 0 0 0) (by decide) (by decide)⟩ hS dX4_readDoor_47
    · skip
      have i15_t_20 : tq_iv 0 0 t_20 := tq_cut p_20 (tq_eqL c_23 (⟨by decide, by decide⟩ : tq_iv 0 0 0)) (by decide) (by decide)
      exact K_26 _ _ _ _ hS (lv_sub hl [] rfl)
set_option maxHeartbeats 4000000 in
set_option maxRecDepth 100000 in
theorem c_X0_append (l : Launch) (X : tq_X) (Z : tq_Z) (f : Nat → va_E) (h0 : Nat) (z_h0 : tq_z Z h0 (.inl 0)) (x1 : Int32) (x2 : Int32) : tq_M l X Z f [(0, 1)] yX0_append cX0_append 3 (none) 0 [.ref h0, .int x1, .int x2] tq_rv := by
  refine tq_startv (by decide) (Nat.le_of_ble_eq_true rfl) (fun p e R s m args below meth c Q hC hret hS ls hl => ?_)
  have hC : tq_C p R s m args c X (tq_A Z) RX0 cX0_append 3 0 := hC
  have hx := hC.1.1
  have hb := hC.1.2.1
  have hown := hC.1.2.2.2.1
  have hts := hC.1.2.2.2.2
  have hl : lv_has ls 3 [(0, .ref h0), (1, .int x1), (2, .int x2)] := hl
  generalize hf0 : f = f0 at hret
  have hS : tq_S X Z (tq_A Z) s.heap f0 [(0, 1)] f s.heap [] := hf0 ▸ hS
  obtain ⟨w0, p_w0, q_w0⟩ := tq_ghi hS z_h0 (k := 1) rfl
  refine lv_aload_n hx hb dX0_append_0 rfl (lv_at hl 0 rfl) ?_
  refine gk_RX0_13 hC hS z_h0 q_w0 dX0_append_1 ?_
  have K_47 : ∀ (w0_47 : Int32) (f : Nat → va_E) (H : Heap) (locs : List Loc) (ls : Array Slot), tq_S X Z (tq_A Z) s.heap f0 [(0, 1)] f H locs → tq_f f h0 1 (.int w0_47) → lv_has ls 3 [] → W p l e R s m args below meth c H locs 0 0 Q (F0 m 47 ls []) := by
    intro w0_47 f H locs ls  hS fo0_47 hl
    exact hret _ _ _ _ _ rfl hS dX0_append_47
  refine lv_if_lt (tgt := 47) hx hb dX0_append_4 (by decide) (fun c_4 => ?_) (fun c_4 => ?_)
  · skip
    have i1_w0 : tq_iv (-2147483648) (-1) w0 := tq_cut (tq_top w0) (tq_ltL c_4 (tq_top w0) (⟨by decide, by decide⟩ : tq_iv 0 0 0)) (by decide) (by decide)
    exact K_47 w0 _ _ _ _ hS q_w0 (lv_sub hl [] rfl)
  · skip
    have i2_w0 : tq_iv 0 2147483647 w0 := tq_cut (tq_top w0) (tq_leR (tq_nlt c_4) (⟨by decide, by decide⟩ : tq_iv 0 0 0) (tq_top w0)) (by decide) (by decide)
    refine lv_aload_n hx hb dX0_append_7 rfl (lv_at hl 0 rfl) ?_
    refine gk_RX0_13 hC hS z_h0 q_w0 dX0_append_8 ?_
    refine lv_sipush (v := 270) hx hb dX0_append_11 (by decide) ?_
    refine lv_icmp_ge (tgt := 47) hx hb dX0_append_14 (by decide) (fun c_14 => ?_) (fun c_14 => ?_)
    · skip
      have i3_w0 : tq_iv 270 2147483647 w0 := tq_cut i2_w0 (tq_leR c_14 (⟨by decide, by decide⟩ : tq_iv 270 270 270) i2_w0) (by decide) (by decide)
      exact K_47 w0 _ _ _ _ hS q_w0 (lv_sub hl [] rfl)
    · skip
      have i4_w0 : tq_iv 0 269 w0 := tq_cut i2_w0 (tq_ltL (tq_nle c_14) i2_w0 (⟨by decide, by decide⟩ : tq_iv 270 270 270)) (by decide) (by decide)
      refine lv_aload_n hx hb dX0_append_17 rfl (lv_at hl 0 rfl) ?_
      refine gf_RX0_16 hC hS z_h0 dX0_append_18 (fun t_18 p_18 q_18 => ?_)
      refine lv_aload_n hx hb dX0_append_21 rfl (lv_at hl 0 rfl) ?_
      refine gk_RX0_13 hC hS z_h0 q_w0 dX0_append_22 ?_
      refine lv_iload_n hx hb dX0_append_25 rfl (lv_at hl 1 rfl) ?_
      refine tq_iast hC hS p_18 rfl (tq_vin i4_w0 (by decide) (by decide)) trivial dX0_append_26 (fun f H locs hS k_26 => ?_)
      have q5_26 := k_26 _ _ _ (tq_ne z_h0 p_18 (fun q => by cases q)) q_w0
      refine lv_aload_n hx hb dX0_append_27 rfl (lv_at hl 0 rfl) ?_
      refine gf_RX0_20 hC hS z_h0 dX0_append_28 (fun t_28 p_28 q_28 => ?_)
      refine lv_aload_n hx hb dX0_append_31 rfl (lv_at hl 0 rfl) ?_
      refine gk_RX0_13 hC hS z_h0 q5_26 dX0_append_32 ?_
      refine lv_iload_n hx hb dX0_append_35 rfl (lv_at hl 2 rfl) ?_
      refine tq_iast hC hS p_28 rfl (tq_vin i4_w0 (by decide) (by decide)) trivial dX0_append_36 (fun f H locs hS k_36 => ?_)
      have q6_36 := k_36 _ _ _ (tq_ne z_h0 p_28 (fun q => by cases q)) q5_26
      refine lv_aload_n hx hb dX0_append_37 rfl (lv_at hl 0 rfl) ?_
      refine lv_dup hx hb dX0_append_38 rfl ?_
      refine gk_RX0_13 hC hS z_h0 q6_36 dX0_append_39 ?_
      refine lv_iconst (v := 1) hx hb dX0_append_42 (by decide) ?_
      refine lv_iadd hx hb dX0_append_43 ?_
      refine lv_topi (fun t_43 e_43 => ?_)
      have i7_t_43 : tq_iv 1 270 t_43 := tq_w (tq_add e_43 i4_w0 (⟨by decide, by decide⟩ : tq_iv 1 1 1) (by decide) (by decide)) (by decide) (by decide)
      refine pf_RX0_13 hC hS z_h0 (by decide) trivial dX0_append_44 (fun f H locs hS q_44 k_44 => ?_)
      exact K_47 t_43 _ _ _ _ hS q_44 (lv_sub hl [] rfl)
set_option maxHeartbeats 4000000 in
set_option maxRecDepth 100000 in
theorem c_X4_productHere (l : Launch) (X : tq_X) (Z : tq_Z) (f : Nat → va_E) (h0 : Nat) (z_h0 : tq_z Z h0 (.inl 4)) : tq_Mp l X Z f yX4_productHere cX4_productHere 1 (some .int) 0 [.ref h0] (tq_ri (-1) 15) := by
  refine tq_startip (by decide) (Nat.le_of_ble_eq_true rfl) (fun p e R s m args below meth c Q hC hret hS ls hl => ?_)
  have hC : tq_C p R s m args c X (tq_A Z) RX4 cX4_productHere 1 0 := hC
  have hx := hC.1.1
  have hb := hC.1.2.1
  have hown := hC.1.2.2.2.1
  have hts := hC.1.2.2.2.2
  have hl : lv_has ls 1 [(0, .ref h0)] := hl
  refine lv_aload_n hx hb dX4_productHere_0 rfl (lv_at hl 0 rfl) ?_
  refine gf_RX4_30 hC hS z_h0 dX4_productHere_1 (fun t_1 p_1 q_1 => ?_)
  refine gf_RX4_49 hC hS p_1 dX4_productHere_4 (fun t_4 p_4 q_4 => ?_)
  by_cases s_7_0 : Int32.toInt t_4 = 37
  · refine lv_lookup (tgt := 46) hx hb dX4_productHere_7 (by decide) (by first | (rw [s_7_0]; done) | (rw [s_7_0]; rfl)) (by decide) ?_
    refine lv_bipush (v := 15) hx hb dX4_productHere_46 (by decide) ?_
    exact hret 15 _ _ rfl ⟨_, rfl, tq_w (⟨by decide, by decide⟩ : tq_iv 15 15 15) (by decide) (by decide)⟩ dX4_productHere_48
  by_cases s_7_1 : Int32.toInt t_4 = 42
  · refine lv_lookup (tgt := 40) hx hb dX4_productHere_7 (by decide) (by first | (rw [s_7_1]; done) | (rw [s_7_1]; rfl)) (by decide) ?_
    refine lv_bipush (v := 13) hx hb dX4_productHere_40 (by decide) ?_
    exact hret 13 _ _ rfl ⟨_, rfl, tq_w (⟨by decide, by decide⟩ : tq_iv 13 13 13) (by decide) (by decide)⟩ dX4_productHere_42
  by_cases s_7_2 : Int32.toInt t_4 = 47
  · refine lv_lookup (tgt := 43) hx hb dX4_productHere_7 (by decide) (by first | (rw [s_7_2]; done) | (rw [s_7_2]; rfl)) (by decide) ?_
    refine lv_bipush (v := 14) hx hb dX4_productHere_43 (by decide) ?_
    exact hret 14 _ _ rfl ⟨_, rfl, tq_w (⟨by decide, by decide⟩ : tq_iv 14 14 14) (by decide) (by decide)⟩ dX4_productHere_45
  refine lv_lookup (off := 42) (tgt := 49) hx hb dX4_productHere_7 (by decide) (by simp only [Op.lookupswitch.offset_cons, Op.lookupswitch.offset_nil]; rw [if_neg (fun q => s_7_0 q.symm), if_neg (fun q => s_7_1 q.symm), if_neg (fun q => s_7_2 q.symm)]) (by decide) ?_
  refine lv_iconst (v := -1) hx hb dX4_productHere_49 (by decide) ?_
  exact hret (-1) _ _ rfl ⟨_, rfl, tq_w (⟨by decide, by decide⟩ : tq_iv (-1) (-1) (-1)) (by decide) (by decide)⟩ dX4_productHere_50
set_option maxHeartbeats 4000000 in
set_option maxRecDepth 100000 in
theorem c_X4_unitHere (l : Launch) (X : tq_X) (Z : tq_Z) (f : Nat → va_E) (h0 : Nat) (z_h0 : tq_z Z h0 (.inl 4)) : tq_Mp l X Z f yX4_unitHere cX4_unitHere 1 (some .int) 0 [.ref h0] (tq_ri (-1) 4) := by
  refine tq_startip (by decide) (Nat.le_of_ble_eq_true rfl) (fun p e R s m args below meth c Q hC hret hS ls hl => ?_)
  have hC : tq_C p R s m args c X (tq_A Z) RX4 cX4_unitHere 1 0 := hC
  have hx := hC.1.1
  have hb := hC.1.2.1
  have hown := hC.1.2.2.2.1
  have hts := hC.1.2.2.2.2
  have hl : lv_has ls 1 [(0, .ref h0)] := hl
  refine lv_aload_n hx hb dX4_unitHere_0 rfl (lv_at hl 0 rfl) ?_
  refine gf_RX4_30 hC hS z_h0 dX4_unitHere_1 (fun t_1 p_1 q_1 => ?_)
  refine gf_RX4_49 hC hS p_1 dX4_unitHere_4 (fun t_4 p_4 q_4 => ?_)
  have K_54 : ∀ (ls : Array Slot), lv_has ls 1 [] → W p l e R s m args below meth c s.heap [] 0 0 Q (F0 m 54 ls []) := by
    intro  ls  hl
    refine lv_iconst (v := -1) hx hb dX4_unitHere_54 (by decide) ?_
    exact hret (-1) _ _ rfl ⟨_, rfl, tq_w (⟨by decide, by decide⟩ : tq_iv (-1) (-1) (-1)) (by decide) (by decide)⟩ dX4_unitHere_55
  by_cases s_7_0 : Int32.toInt t_4 = 19
  · refine lv_tableIn (tgt := 46) hx hb dX4_unitHere_7 (by omega) (by omega) (by first | (rw [s_7_0]; done) | (rw [s_7_0]; rfl)) (by decide) ?_
    have i1_t_4 : tq_iv 19 19 t_4 := ⟨by omega, by omega⟩
    refine lv_iconst (v := 1) hx hb dX4_unitHere_46 (by decide) ?_
    exact hret 1 _ _ rfl ⟨_, rfl, tq_w (⟨by decide, by decide⟩ : tq_iv 1 1 1) (by decide) (by decide)⟩ dX4_unitHere_47
  by_cases s_7_1 : Int32.toInt t_4 = 20
  · refine lv_tableIn (tgt := 48) hx hb dX4_unitHere_7 (by omega) (by omega) (by first | (rw [s_7_1]; done) | (rw [s_7_1]; rfl)) (by decide) ?_
    have i2_t_4 : tq_iv 20 20 t_4 := ⟨by omega, by omega⟩
    refine lv_iconst (v := 2) hx hb dX4_unitHere_48 (by decide) ?_
    exact hret 2 _ _ rfl ⟨_, rfl, tq_w (⟨by decide, by decide⟩ : tq_iv 2 2 2) (by decide) (by decide)⟩ dX4_unitHere_49
  by_cases s_7_2 : Int32.toInt t_4 = 21
  · refine lv_tableIn (tgt := 50) hx hb dX4_unitHere_7 (by omega) (by omega) (by first | (rw [s_7_2]; done) | (rw [s_7_2]; rfl)) (by decide) ?_
    have i3_t_4 : tq_iv 21 21 t_4 := ⟨by omega, by omega⟩
    refine lv_iconst (v := 3) hx hb dX4_unitHere_50 (by decide) ?_
    exact hret 3 _ _ rfl ⟨_, rfl, tq_w (⟨by decide, by decide⟩ : tq_iv 3 3 3) (by decide) (by decide)⟩ dX4_unitHere_51
  by_cases s_7_3 : Int32.toInt t_4 = 22
  · refine lv_tableIn (tgt := 52) hx hb dX4_unitHere_7 (by omega) (by omega) (by first | (rw [s_7_3]; done) | (rw [s_7_3]; rfl)) (by decide) ?_
    have i4_t_4 : tq_iv 22 22 t_4 := ⟨by omega, by omega⟩
    refine lv_iconst (v := 4) hx hb dX4_unitHere_52 (by decide) ?_
    exact hret 4 _ _ rfl ⟨_, rfl, tq_w (⟨by decide, by decide⟩ : tq_iv 4 4 4) (by decide) (by decide)⟩ dX4_unitHere_53
  by_cases s_7_4 : Int32.toInt t_4 = 23
  · refine lv_tableIn (tgt := 54) hx hb dX4_unitHere_7 (by omega) (by omega) (by first | (rw [s_7_4]; done) | (rw [s_7_4]; rfl)) (by decide) ?_
    have i5_t_4 : tq_iv 23 23 t_4 := ⟨by omega, by omega⟩
    exact K_54 _ (lv_sub hl [] rfl)
  by_cases s_7_5 : Int32.toInt t_4 = 24
  · refine lv_tableIn (tgt := 44) hx hb dX4_unitHere_7 (by omega) (by omega) (by first | (rw [s_7_5]; done) | (rw [s_7_5]; rfl)) (by decide) ?_
    have i6_t_4 : tq_iv 24 24 t_4 := ⟨by omega, by omega⟩
    refine lv_iconst (v := 0) hx hb dX4_unitHere_44 (by decide) ?_
    exact hret 0 _ _ rfl ⟨_, rfl, tq_w (⟨by decide, by decide⟩ : tq_iv 0 0 0) (by decide) (by decide)⟩ dX4_unitHere_45
  refine lv_tableOut (tgt := 54) hx hb dX4_unitHere_7 (by omega) (by decide) ?_
  exact K_54 _ (lv_sub hl [] rfl)
