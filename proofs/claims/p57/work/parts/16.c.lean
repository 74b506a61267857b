set_option maxHeartbeats 4000000 in
set_option maxRecDepth 100000 in
theorem c_X3_allLocks (l : Launch) (X : tq_X) (Z : tq_Z) (f : Nat → va_E) (h0 : Nat) (z_h0 : tq_z Z h0 (.inl 3)) : tq_Mp l X Z f yX3_allLocks cX3_allLocks 1 (some .int) 0 [.ref h0] (tq_ri (-2147483648) 2147483647) := by
  refine tq_startip (by decide) (Nat.le_of_ble_eq_true rfl) (fun p e R s m args below meth c Q hC hret hS ls hl => ?_)
  have hC : tq_C p R s m args c X (tq_A Z) RX3 cX3_allLocks 1 0 := hC
  have hx := hC.1.1
  have hb := hC.1.2.1
  have hown := hC.1.2.2.2.1
  have hts := hC.1.2.2.2.2
  have hl : lv_has ls 1 [(0, .ref h0)] := hl
  refine lv_iconst (v := 1) hx hb dX3_allLocks_0 (by decide) ?_
  refine lv_aload_n hx hb dX3_allLocks_1 rfl (lv_at hl 0 rfl) ?_
  refine gf_RX3_59 hC hS z_h0 dX3_allLocks_2 (fun t_2 p_2 q_2 => ?_)
  refine lv_ishl hx hb dX3_allLocks_5 ?_
  refine lv_topi (fun t_5 e_5 => ?_)
  refine lv_iconst (v := 1) hx hb dX3_allLocks_6 (by decide) ?_
  refine lv_isub hx hb dX3_allLocks_7 ?_
  refine lv_topi (fun t_7 e_7 => ?_)
  exact hret t_7 _ _ rfl ⟨_, rfl, tq_w (tq_top t_7) (by decide) (by decide)⟩ dX3_allLocks_8
set_option maxHeartbeats 4000000 in
set_option maxRecDepth 100000 in
theorem c_X3_hasLocks (l : Launch) (X : tq_X) (Z : tq_Z) (f : Nat → va_E) (h0 : Nat) (z_h0 : tq_z Z h0 (.inl 3)) (x1 : Int32) : tq_Mp l X Z f yX3_hasLocks cX3_hasLocks 2 (some .boolean) 1 [.ref h0, .int x1] (tq_ri 0 1) := by
  refine tq_startip (by decide) (Nat.le_of_ble_eq_true rfl) (fun p e R s m args below meth c Q hC hret hS ls hl => ?_)
  have hC : tq_C p R s m args c X (tq_A Z) RX3 cX3_hasLocks 2 1 := hC
  have hx := hC.1.1
  have hb := hC.1.2.1
  have hown := hC.1.2.2.2.1
  have hts := hC.1.2.2.2.2
  have hl : lv_has ls 2 [(0, .ref h0), (1, .int x1)] := hl
  refine lv_iload_n hx hb dX3_hasLocks_0 rfl (lv_at hl 1 rfl) ?_
  refine lv_aload_n hx hb dX3_hasLocks_1 rfl (lv_at hl 0 rfl) ?_
  refine tq_callVpi (As := []) (rest := [.int x1]) hC (c_X3_allLocks l X Z _ h0 z_h0) k_X3_allLocks ql_RX3_97 rfl (by decide) hS z_h0 rfl hl.1 rfl (Nat.le_of_ble_eq_true rfl) ⟨Nat.zero_le _, Nat.zero_le _⟩ dX3_hasLocks_2 (fun t_2 p_2 => ?_)
  refine lv_iconst (v := -1) hx hb dX3_hasLocks_5 (by decide) ?_
  refine lv_ixor hx hb dX3_hasLocks_6 ?_
  refine lv_topi (fun t_6 e_6 => ?_)
  refine lv_iand hx hb dX3_hasLocks_7 ?_
  refine lv_topi (fun t_7 e_7 => ?_)
  have K_16 : ∀ (y0_16 : Int32) (ls : Array Slot), tq_iv 0 1 y0_16 → lv_has ls 2 [] → W p l e R s m args below meth c s.heap [] 0 0 Q (F0 m 16 ls [.int y0_16]) := by
    intro y0_16 ls  i1_y0_16 hl
    exact hret y0_16 _ _ (tq_nb i1_y0_16 (by decide) (by decide)) ⟨_, rfl, tq_w i1_y0_16 (by decide) (by decide)⟩ dX3_hasLocks_16
  refine lv_if_ne (tgt := 15) hx hb dX3_hasLocks_8 (by decide) (fun c_8 => ?_) (fun c_8 => ?_)
  · skip
    refine lv_iconst (v := 0) hx hb dX3_hasLocks_15 (by decide) ?_
    exact K_16 0 _ (tq_w (⟨by decide, by decide⟩ : tq_iv 0 0 0) (by decide) (by decide)) (lv_sub hl [] rfl)
  · skip
    have i2_t_7 : tq_iv 0 0 t_7 := tq_cut (tq_top t_7) (tq_eqL c_8 (⟨by decide, by decide⟩ : tq_iv 0 0 0)) (by decide) (by decide)
    refine lv_iconst (v := 1) hx hb dX3_hasLocks_11 (by decide) ?_
    refine lv_goto (tgt := 16) hx hb dX3_hasLocks_12 (by decide) ?_
    exact K_16 1 _ (tq_w (⟨by decide, by decide⟩ : tq_iv 1 1 1) (by decide) (by decide)) (lv_sub hl [] rfl)
set_option maxHeartbeats 4000000 in
set_option maxRecDepth 100000 in
theorem c_X8_isSuch (l : Launch) (X : tq_X) (Z : tq_Z) (f : Nat → va_E) (h0 : Nat) (z_h0 : tq_z Z h0 (.inl 8)) (x1 : Int32) (i_x1 : tq_iv 0 63 x1) (x2 : Int32) (x3 : Int32) : tq_Mp l X Z f yX8_isSuch cX8_isSuch 4 (some .boolean) 0 [.ref h0, .int x1, .int x2, .int x3] (tq_ri 0 1) := by
  refine tq_startip (by decide) (Nat.le_of_ble_eq_true rfl) (fun p e R s m args below meth c Q hC hret hS ls hl => ?_)
  have hC : tq_C p R s m args c X (tq_A Z) RX8 cX8_isSuch 4 0 := hC
  have hx := hC.1.1
  have hb := hC.1.2.1
  have hown := hC.1.2.2.2.1
  have hts := hC.1.2.2.2.2
  have hl : lv_has ls 4 [(0, .ref h0), (1, .int x1), (2, .int x2), (3, .int x3)] := hl
  refine lv_aload_n hx hb dX8_isSuch_0 rfl (lv_at hl 0 rfl) ?_
  refine gf_RX8_47 hC hS z_h0 dX8_isSuch_1 (fun t_1 p_1 q_1 => ?_)
  refine lv_iload_n hx hb dX8_isSuch_4 rfl (lv_at hl 1 rfl) ?_
  refine tq_iald hC hS p_1 rfl (tq_vin i_x1 (by decide) (by decide)) dX8_isSuch_5 (fun t_5 p_5 => ?_)
  have K_27 : ∀ (y0_27 : Int32) (ls : Array Slot), tq_iv 0 1 y0_27 → lv_has ls 4 [] → W p l e R s m args below meth c s.heap [] 0 0 Q (F0 m 27 ls [.int y0_27]) := by
    intro y0_27 ls  i1_y0_27 hl
    exact hret y0_27 _ _ (tq_nb i1_y0_27 (by decide) (by decide)) ⟨_, rfl, tq_w i1_y0_27 (by decide) (by decide)⟩ dX8_isSuch_27
  have K_26 : ∀ (ls : Array Slot), lv_has ls 4 [] → W p l e R s m args below meth c s.heap [] 0 0 Q (F0 m 26 ls []) := by
    intro  ls  hl
    refine lv_iconst (v := 0) hx hb dX8_isSuch_26 (by decide) ?_
    exact K_27 0 _ (tq_w (⟨by decide, by decide⟩ : tq_iv 0 0 0) (by decide) (by decide)) (lv_sub hl [] rfl)
  refine lv_if_le (tgt := 26) hx hb dX8_isSuch_6 (by decide) (fun c_6 => ?_) (fun c_6 => ?_)
  · skip
    have i2_t_5 : tq_iv (-2147483648) 0 t_5 := tq_cut (tq_top t_5) (tq_leL c_6 (tq_top t_5) (⟨by decide, by decide⟩ : tq_iv 0 0 0)) (by decide) (by decide)
    exact K_26 _ (lv_sub hl [] rfl)
  · skip
    have i3_t_5 : tq_iv 1 2147483647 t_5 := tq_cut (tq_top t_5) (tq_ltR (tq_nle c_6) (⟨by decide, by decide⟩ : tq_iv 0 0 0) (tq_top t_5)) (by decide) (by decide)
    refine lv_iload_n hx hb dX8_isSuch_9 rfl (lv_at hl 1 rfl) ?_
    refine lv_iload_n hx hb dX8_isSuch_10 rfl (lv_at hl 2 rfl) ?_
    refine lv_iand hx hb dX8_isSuch_11 ?_
    refine lv_topi (fun t_11 e_11 => ?_)
    have i4_t_11 : tq_iv 0 63 t_11 := tq_and1 e_11 i_x1 (by decide)
    refine lv_iload_n hx hb dX8_isSuch_12 rfl (lv_at hl 2 rfl) ?_
    refine lv_icmp_ne (tgt := 26) hx hb dX8_isSuch_13 (by decide) (fun c_13 => ?_) (fun c_13 => ?_)
    · skip
      exact K_26 _ (lv_sub hl [] rfl)
    · skip
      refine lv_iload_n hx hb dX8_isSuch_16 rfl (lv_at hl 1 rfl) ?_
      refine lv_iload_n hx hb dX8_isSuch_17 rfl (lv_at hl 3 rfl) ?_
      refine lv_iand hx hb dX8_isSuch_18 ?_
      refine lv_topi (fun t_18 e_18 => ?_)
      have i5_t_18 : tq_iv 0 63 t_18 := tq_and1 e_18 i_x1 (by decide)
      refine lv_if_ne (tgt := 26) hx hb dX8_isSuch_19 (by decide) (fun c_19 => ?_) (fun c_19 => ?_)
      · skip
        have i6_t_18 : tq_iv 1 63 t_18 := tq_w (tq_neLo c_19 i5_t_18 (⟨by decide, by decide⟩ : tq_iv 0 0 0)) (by decide) (by decide)
        exact K_26 _ (lv_sub hl [] rfl)
      · skip
        have i7_t_18 : tq_iv 0 0 t_18 := tq_cut i5_t_18 (tq_eqL c_19 (⟨by decide, by decide⟩ : tq_iv 0 0 0)) (by decide) (by decide)
        refine lv_iconst (v := 1) hx hb dX8_isSuch_22 (by decide) ?_
        refine lv_goto (tgt := 27) hx hb dX8_isSuch_23 (by decide) ?_
        exact K_27 1 _ (tq_w (⟨by decide, by decide⟩ : tq_iv 1 1 1) (by decide) (by decide)) (lv_sub hl [] rfl)
set_option maxHeartbeats 4000000 in
set_option maxRecDepth 100000 in
theorem c_X8_leastNumber (l : Launch) (X : tq_X) (Z : tq_Z) (f : Nat → va_E) (h0 : Nat) (z_h0 : tq_z Z h0 (.inl 8)) (x1 : Int32) (x2 : Int32) : tq_Mp l X Z f yX8_leastNumber cX8_leastNumber 5 (some .int) 1 [.ref h0, .int x1, .int x2] (tq_ri (-2147483648) 2147483647) := by
  refine tq_startip (by decide) (Nat.le_of_ble_eq_true rfl) (fun p e R s m args below meth c Q hC hret hS ls hl => ?_)
  have hC : tq_C p R s m args c X (tq_A Z) RX8 cX8_leastNumber 5 1 := hC
  have hx := hC.1.1
  have hb := hC.1.2.1
  have hown := hC.1.2.2.2.1
  have hts := hC.1.2.2.2.2
  have hl : lv_has ls 5 [(0, .ref h0), (1, .int x1), (2, .int x2)] := hl
  refine lv_iconst (v := -1) hx hb dX8_leastNumber_0 (by decide) ?_
  refine lv_istore_n (lv' := [(3, .int (-1)), (0, .ref h0), (1, .int x1), (2, .int x2)]) hx hb dX8_leastNumber_1 rfl hl (by decide) rfl (fun ls hl => ?_)
  refine lv_iconst (v := 0) hx hb dX8_leastNumber_2 (by decide) ?_
  refine lv_istore (lv' := [(4, .int 0), (3, .int (-1)), (0, .ref h0), (1, .int x1), (2, .int x2)]) hx hb dX8_leastNumber_3 hl (by decide) rfl (fun ls hl => ?_)
  have K_5 : ∀ (n_5 : Nat) (x4_5 : Int32) (x3_5 : Int32) (ls : Array Slot), tq_iv 0 64 x4_5 → (2147483647 - x4_5.toInt).toNat < n_5 → lv_has ls 5 [(4, .int x4_5), (3, .int x3_5), (0, .ref h0), (1, .int x1), (2, .int x2)] → W p l e R s m args below meth c s.heap [] 0 0 Q (F0 m 5 ls []) := by
    intro n_5
    induction n_5 with
    | zero => intro x4_5 x3_5 ls  i1_x4_5 hn_5; exact absurd hn_5 (Nat.not_lt_zero _)
    | succ n_5 ih_5 =>
      intro x4_5 x3_5 ls  i1_x4_5 hn_5 hl
      refine lv_iload hx hb dX8_leastNumber_5 (lv_at hl 0 rfl) ?_
      refine lv_bipush (v := 64) hx hb dX8_leastNumber_7 (by decide) ?_
      refine lv_icmp_ge (tgt := 53) hx hb dX8_leastNumber_9 (by decide) (fun c_9 => ?_) (fun c_9 => ?_)
      · skip
        have i2_x4_5 : tq_iv 64 64 x4_5 := tq_cut i1_x4_5 (tq_leR c_9 (⟨by decide, by decide⟩ : tq_iv 64 64 64) i1_x4_5) (by decide) (by decide)
        refine lv_iload_n hx hb dX8_leastNumber_53 rfl (lv_at hl 1 rfl) ?_
        exact hret x3_5 _ _ rfl ⟨_, rfl, tq_w (tq_top x3_5) (by decide) (by decide)⟩ dX8_leastNumber_54
      · skip
        have i3_x4_5 : tq_iv 0 63 x4_5 := tq_cut i1_x4_5 (tq_ltL (tq_nle c_9) i1_x4_5 (⟨by decide, by decide⟩ : tq_iv 64 64 64)) (by decide) (by decide)
        refine lv_aload_n hx hb dX8_leastNumber_12 rfl (lv_at hl 2 rfl) ?_
        refine lv_iload hx hb dX8_leastNumber_13 (lv_at hl 0 rfl) ?_
        refine lv_iload_n hx hb dX8_leastNumber_15 rfl (lv_at hl 3 rfl) ?_
        refine lv_iload_n hx hb dX8_leastNumber_16 rfl (lv_at hl 4 rfl) ?_
        refine tq_callVpi (As := [.int x4_5, .int x1, .int x2]) (rest := []) hC (c_X8_isSuch l X Z _ h0 z_h0 x4_5 (tq_w i3_x4_5 (by decide) (by decide)) x1 x2) k_X8_isSuch ql_RX8_120 rfl (by decide) hS z_h0 rfl hl.1 rfl (Nat.le_of_ble_eq_true rfl) ⟨Nat.zero_le _, Nat.zero_le _⟩ dX8_leastNumber_17 (fun t_17 p_17 => ?_)
        have K_47 : ∀ (x3_47 : Int32) (ls : Array Slot), lv_has ls 5 [(4, .int x4_5), (3, .int x3_47), (0, .ref h0), (1, .int x1), (2, .int x2)] → W p l e R s m args below meth c s.heap [] 0 0 Q (F0 m 47 ls []) := by
          intro x3_47 ls  hl
          obtain ⟨t_47, e_47⟩ : ∃ y : Int32, y = x4_5 + 1 := ⟨_, rfl⟩
          have i4_t_47 : tq_iv 1 64 t_47 := tq_w (tq_add e_47 i3_x4_5 (⟨by decide, by decide⟩ : tq_iv 1 1 1) (by decide) (by decide)) (by decide) (by decide)
          refine lv_iinc (v := t_47) (lv' := [(4, .int t_47), (3, .int x3_47), (0, .ref h0), (1, .int x1), (2, .int x2)]) hx hb dX8_leastNumber_47 hl (k := 0) rfl (by rw [e_47]; rfl) (by decide) rfl (fun ls hl => ?_)
          refine lv_goto (tgt := 5) hx hb dX8_leastNumber_50 (by decide) ?_
          exact ih_5 t_47 x3_47 _ (tq_w i4_t_47 (by decide) (by decide)) (tq_up e_47 i3_x4_5 (⟨by decide, by decide⟩ : tq_iv 1 1 1) (by decide) (by decide) hn_5) (lv_sub hl [0, 1, 2, 3, 4] rfl)
        refine lv_if_eq (tgt := 47) hx hb dX8_leastNumber_20 (by decide) (fun c_20 => ?_) (fun c_20 => ?_)
        · skip
          have i5_t_17 : tq_iv 0 0 t_17 := tq_cut p_17 (tq_eqL c_20 (⟨by decide, by decide⟩ : tq_iv 0 0 0)) (by decide) (by decide)
          exact K_47 x3_5 _ (lv_sub hl [0, 1, 2, 3, 4] rfl)
        · skip
          have i6_t_17 : tq_iv 1 1 t_17 := tq_w (tq_neLo c_20 p_17 (⟨by decide, by decide⟩ : tq_iv 0 0 0)) (by decide) (by decide)
          refine lv_iload_n hx hb dX8_leastNumber_23 rfl (lv_at hl 1 rfl) ?_
          refine lv_iconst (v := -1) hx hb dX8_leastNumber_24 (by decide) ?_
          have K_39 : ∀ (ls : Array Slot), tq_iv (-2147483647) 2147483647 x3_5 → lv_has ls 5 [(4, .int x4_5), (0, .ref h0), (1, .int x1), (2, .int x2)] → W p l e R s m args below meth c s.heap [] 0 0 Q (F0 m 39 ls []) := by
            intro  ls  i7_x3_5 hl
            refine lv_aload_n hx hb dX8_leastNumber_39 rfl (lv_at hl 1 rfl) ?_
            refine gf_RX8_50 hC hS z_h0 dX8_leastNumber_40 (fun t_40 p_40 q_40 => ?_)
            refine lv_iload hx hb dX8_leastNumber_43 (lv_at hl 0 rfl) ?_
            refine tq_iald hC hS p_40 rfl (tq_vin i3_x4_5 (by decide) (by decide)) dX8_leastNumber_45 (fun t_45 p_45 => ?_)
            refine lv_istore_n (lv' := [(3, .int t_45), (4, .int x4_5), (0, .ref h0), (1, .int x1), (2, .int x2)]) hx hb dX8_leastNumber_46 rfl hl (by decide) rfl (fun ls hl => ?_)
            exact K_47 t_45 _ (lv_sub hl [1, 0, 2, 3, 4] rfl)
          refine lv_icmp_eq (tgt := 39) hx hb dX8_leastNumber_25 (by decide) (fun c_25 => ?_) (fun c_25 => ?_)
          · skip
            have i8_x3_5 : tq_iv (-1) (-1) x3_5 := tq_cut (tq_top x3_5) (tq_eqL c_25 (⟨by decide, by decide⟩ : tq_iv (-1) (-1) (-1))) (by decide) (by decide)
            exact K_39 _ (tq_w i8_x3_5 (by decide) (by decide)) (lv_sub hl [0, 2, 3, 4] rfl)
          · skip
            refine lv_aload_n hx hb dX8_leastNumber_28 rfl (lv_at hl 2 rfl) ?_
            refine gf_RX8_50 hC hS z_h0 dX8_leastNumber_29 (fun t_29 p_29 q_29 => ?_)
            refine lv_iload hx hb dX8_leastNumber_32 (lv_at hl 0 rfl) ?_
            refine tq_iald hC hS p_29 rfl (tq_vin i3_x4_5 (by decide) (by decide)) dX8_leastNumber_34 (fun t_34 p_34 => ?_)
            refine lv_iload_n hx hb dX8_leastNumber_35 rfl (lv_at hl 1 rfl) ?_
            refine lv_icmp_ge (tgt := 47) hx hb dX8_leastNumber_36 (by decide) (fun c_36 => ?_) (fun c_36 => ?_)
            · skip
              exact K_47 x3_5 _ (lv_sub hl [0, 1, 2, 3, 4] rfl)
            · skip
              have i9_t_34 : tq_iv (-2147483648) 2147483646 t_34 := tq_cut (tq_top t_34) (tq_ltL (tq_nle c_36) (tq_top t_34) (tq_top x3_5)) (by decide) (by decide)
              have i10_x3_5 : tq_iv (-2147483647) 2147483647 x3_5 := tq_cut (tq_top x3_5) (tq_ltR (tq_nle c_36) (tq_top t_34) (tq_top x3_5)) (by decide) (by decide)
              exact K_39 _ (tq_w i10_x3_5 (by decide) (by decide)) (lv_sub hl [0, 2, 3, 4] rfl)
  exact K_5 _ 0 (-1) _ (tq_w (⟨by decide, by decide⟩ : tq_iv 0 0 0) (by decide) (by decide)) (Nat.lt_succ_self _) (lv_sub hl [0, 1, 2, 3, 4] rfl)
set_option maxHeartbeats 4000000 in
set_option maxRecDepth 100000 in
theorem c_J7_fill_53178_1_384 (l : Launch) (X : tq_X) (Z : tq_Z) (f : Nat → va_E) (h0 : Nat) (z_h0 : tq_z Z h0 (.inr (.inl (1, 384)))) (x1 : Int32) : tq_M l X Z f [] yJ7_fill_53178 cJ7_fill_53178 4 (none) 0 [.ref h0, .int x1] tq_rv := by
  refine tq_startv (by decide) (Nat.le_of_ble_eq_true rfl) (fun p e R s m args below meth c Q hC hret hS ls hl => ?_)
  have hC : tq_C p R s m args c X (tq_A Z) RJ7 cJ7_fill_53178 4 0 := hC
  have hx := hC.1.1
  have hb := hC.1.2.1
  have hown := hC.1.2.2.2.1
  have hts := hC.1.2.2.2.2
  have hl : lv_has ls 4 [(0, .ref h0), (1, .int x1)] := hl
  generalize hf0 : f = f0 at hret
  have hS : tq_S X Z (tq_A Z) s.heap f0 [] f s.heap [] := hf0 ▸ hS
  refine lv_iconst (v := 0) hx hb dJ7_fill_53178_0 (by decide) ?_
  refine lv_istore_n (lv' := [(2, .int 0), (0, .ref h0), (1, .int x1)]) hx hb dJ7_fill_53178_1 rfl hl (by decide) rfl (fun ls hl => ?_)
  refine lv_aload_n hx hb dJ7_fill_53178_2 rfl (lv_at hl 1 rfl) ?_
  refine tq_alenA hC hS z_h0 rfl (v := 384) (by decide) dJ7_fill_53178_3 ?_
  refine lv_istore_n (lv' := [(3, .int 384), (2, .int 0), (0, .ref h0), (1, .int x1)]) hx hb dJ7_fill_53178_4 rfl hl (by decide) rfl (fun ls hl => ?_)
  have K_5 : ∀ (n_5 : Nat) (x2_5 : Int32) (f : Nat → va_E) (H : Heap) (locs : List Loc) (ls : Array Slot), tq_S X Z (tq_A Z) s.heap f0 [] f H locs → tq_iv 0 384 x2_5 → (2147483647 - x2_5.toInt).toNat < n_5 → lv_has ls 4 [(3, .int 384), (2, .int x2_5), (0, .ref h0), (1, .int x1)] → W p l e R s m args below meth c H locs 0 0 Q (F0 m 5 ls []) := by
    intro n_5
    induction n_5 with
    | zero => intro x2_5 f H locs ls  hS i1_x2_5 hn_5; exact absurd hn_5 (Nat.not_lt_zero _)
    | succ n_5 ih_5 =>
      intro x2_5 f H locs ls  hS i1_x2_5 hn_5 hl
      refine lv_iload_n hx hb dJ7_fill_53178_5 rfl (lv_at hl 1 rfl) ?_
      refine lv_iload_n hx hb dJ7_fill_53178_6 rfl (lv_at hl 0 rfl) ?_
      refine lv_icmp_ge (tgt := 20) hx hb dJ7_fill_53178_7 (by decide) (fun c_7 => ?_) (fun c_7 => ?_)
      · skip
        have i2_x2_5 : tq_iv 384 384 x2_5 := tq_cut i1_x2_5 (tq_leR c_7 (⟨by decide, by decide⟩ : tq_iv 384 384 384) i1_x2_5) (by decide) (by decide)
        exact hret _ _ _ _ _ rfl hS dJ7_fill_53178_20
      · skip
        have i3_x2_5 : tq_iv 0 383 x2_5 := tq_cut i1_x2_5 (tq_ltL (tq_nle c_7) i1_x2_5 (⟨by decide, by decide⟩ : tq_iv 384 384 384)) (by decide) (by decide)
        refine lv_aload_n hx hb dJ7_fill_53178_10 rfl (lv_at hl 2 rfl) ?_
        refine lv_iload_n hx hb dJ7_fill_53178_11 rfl (lv_at hl 1 rfl) ?_
        refine lv_iload_n hx hb dJ7_fill_53178_12 rfl (lv_at hl 3 rfl) ?_
        refine tq_iast hC hS z_h0 rfl (tq_vin i3_x2_5 (by decide) (by decide)) trivial dJ7_fill_53178_13 (fun f H locs hS k_13 => ?_)
        obtain ⟨t_14, e_14⟩ : ∃ y : Int32, y = x2_5 + 1 := ⟨_, rfl⟩
        have i4_t_14 : tq_iv 1 384 t_14 := tq_w (tq_add e_14 i3_x2_5 (⟨by decide, by decide⟩ : tq_iv 1 1 1) (by decide) (by decide)) (by decide) (by decide)
        refine lv_iinc (v := t_14) (lv' := [(2, .int t_14), (3, .int 384), (0, .ref h0), (1, .int x1)]) hx hb dJ7_fill_53178_14 hl (k := 1) rfl (by rw [e_14]; rfl) (by decide) rfl (fun ls hl => ?_)
        refine lv_goto (tgt := 5) hx hb dJ7_fill_53178_17 (by decide) ?_
        exact ih_5 t_14 _ _ _ _ hS (tq_w i4_t_14 (by decide) (by decide)) (tq_up e_14 i3_x2_5 (⟨by decide, by decide⟩ : tq_iv 1 1 1) (by decide) (by decide) hn_5) (lv_sub hl [1, 0, 2, 3] rfl)
  exact K_5 _ 0 _ _ _ _ hS (tq_w (⟨by decide, by decide⟩ : tq_iv 0 0 0) (by decide) (by decide)) (Nat.lt_succ_self _) (lv_sub hl [0, 1, 2, 3] rfl)
set_option maxHeartbeats 4000000 in
set_option maxRecDepth 100000 in
theorem c_X8_add (l : Launch) (X : tq_X) (Z : tq_Z) (f : Nat → va_E) (h0 : Nat) (z_h0 : tq_z Z h0 (.inl 8)) (x1 : Int32) (x2 : Int32) (x3 : Int32) (x4 : Int32) (x5 : Int32) : tq_M l X Z f [] yX8_add cX8_add 8 (none) 1 [.ref h0, .int x1, .int x2, .int x3, .int x4, .int x5] tq_rv := by
  refine tq_startv (by decide) (Nat.le_of_ble_eq_true rfl) (fun p e R s m args below meth c Q hC hret hS ls hl => ?_)
  have hC : tq_C p R s m args c X (tq_A Z) RX8 cX8_add 8 1 := hC
  have hx := hC.1.1
  have hb := hC.1.2.1
  have hown := hC.1.2.2.2.1
  have hts := hC.1.2.2.2.2
  have hl : lv_has ls 8 [(0, .ref h0), (1, .int x1), (2, .int x2), (3, .int x3), (4, .int x4), (5, .int x5)] := hl
  generalize hf0 : f = f0 at hret
  have hS : tq_S X Z (tq_A Z) s.heap f0 [] f s.heap [] := hf0 ▸ hS
  refine lv_iload_n hx hb dX8_add_0 rfl (lv_at hl 1 rfl) ?_
  refine lv_bipush (v := 64) hx hb dX8_add_1 (by decide) ?_
  refine lv_imul hx hb dX8_add_3 ?_
  refine lv_topi (fun t_3 e_3 => ?_)
  refine lv_iload_n hx hb dX8_add_4 rfl (lv_at hl 2 rfl) ?_
  refine lv_iadd hx hb dX8_add_5 ?_
  refine lv_topi (fun t_5 e_5 => ?_)
  refine lv_istore (lv' := [(6, .int t_5), (0, .ref h0), (1, .int x1), (2, .int x2), (3, .int x3), (4, .int x4), (5, .int x5)]) hx hb dX8_add_6 hl (by decide) rfl (fun ls hl => ?_)
  refine lv_iload hx hb dX8_add_8 (lv_at hl 0 rfl) ?_
  have K_21 : ∀ (f : Nat → va_E) (H : Heap) (locs : List Loc) (ls : Array Slot), tq_S X Z (tq_A Z) s.heap f0 [] f H locs → lv_has ls 8 [] → W p l e R s m args below meth c H locs 0 0 Q (F0 m 21 ls []) := by
    intro f H locs ls  hS hl
    exact hret _ _ _ _ _ rfl hS dX8_add_21
  refine lv_if_lt (tgt := 21) hx hb dX8_add_10 (by decide) (fun c_10 => ?_) (fun c_10 => ?_)
  · skip
    have i1_t_5 : tq_iv (-2147483648) (-1) t_5 := tq_cut (tq_top t_5) (tq_ltL c_10 (tq_top t_5) (⟨by decide, by decide⟩ : tq_iv 0 0 0)) (by decide) (by decide)
    exact K_21 _ _ _ _ hS (lv_sub hl [] rfl)
  · skip
    have i2_t_5 : tq_iv 0 2147483647 t_5 := tq_cut (tq_top t_5) (tq_leR (tq_nlt c_10) (⟨by decide, by decide⟩ : tq_iv 0 0 0) (tq_top t_5)) (by decide) (by decide)
    refine lv_iload hx hb dX8_add_13 (lv_at hl 0 rfl) ?_
    refine lv_sipush (v := 384) hx hb dX8_add_15 (by decide) ?_
    refine lv_icmp_lt (tgt := 22) hx hb dX8_add_18 (by decide) (fun c_18 => ?_) (fun c_18 => ?_)
    · skip
      have i3_t_5 : tq_iv 0 383 t_5 := tq_cut i2_t_5 (tq_ltL c_18 i2_t_5 (⟨by decide, by decide⟩ : tq_iv 384 384 384)) (by decide) (by decide)
      refine lv_aload_n hx hb dX8_add_22 rfl (lv_at hl 1 rfl) ?_
      refine gf_RX8_38 hC hS z_h0 dX8_add_23 (fun t_23 p_23 q_23 => ?_)
      refine lv_iload hx hb dX8_add_26 (lv_at hl 0 rfl) ?_
      refine tq_iald hC hS p_23 rfl (tq_vin i3_t_5 (by decide) (by decide)) dX8_add_28 (fun t_28 p_28 => ?_)
      have K_37 : ∀ (y0_37 : Int32) (f : Nat → va_E) (H : Heap) (locs : List Loc) (ls : Array Slot), tq_S X Z (tq_A Z) s.heap f0 [] f H locs → tq_iv 0 1 y0_37 → lv_has ls 8 [(6, .int t_5), (0, .ref h0), (3, .int x3), (4, .int x4), (5, .int x5)] → W p l e R s m args below meth c H locs 0 0 Q (F0 m 37 ls [.int y0_37]) := by
        intro y0_37 f H locs ls  hS i4_y0_37 hl
        refine lv_istore (lv' := [(7, .int y0_37), (6, .int t_5), (0, .ref h0), (3, .int x3), (4, .int x4), (5, .int x5)]) hx hb dX8_add_37 hl (by decide) rfl (fun ls hl => ?_)
        refine lv_aload_n hx hb dX8_add_39 rfl (lv_at hl 2 rfl) ?_
        refine gf_RX8_41 hC hS z_h0 dX8_add_40 (fun t_40 p_40 q_40 => ?_)
        refine lv_iload hx hb dX8_add_43 (lv_at hl 1 rfl) ?_
        refine lv_iload hx hb dX8_add_45 (lv_at hl 0 rfl) ?_
        have K_67 : ∀ (y0_67 : Nat) (y1_67 : Int32) (y2_67 : Int32) (f : Nat → va_E) (H : Heap) (locs : List Loc) (ls : Array Slot), tq_z Z y0_67 (.inr (.inl (1, 384))) → tq_S X Z (tq_A Z) s.heap f0 [] f H locs → tq_iv 0 383 y1_67 → lv_has ls 8 [(7, .int y0_37), (6, .int t_5), (0, .ref h0), (3, .int x3), (5, .int x5)] → W p l e R s m args below meth c H locs 0 0 Q (F0 m 67 ls [.int y2_67, .int y1_67, .ref y0_67]) := by
          intro y0_67 y1_67 y2_67 f H locs ls z_y0_67 hS i5_y1_67 hl
          refine tq_iast hC hS z_y0_67 rfl (tq_vin i5_y1_67 (by decide) (by decide)) trivial dX8_add_67 (fun f H locs hS k_67 => ?_)
          refine lv_aload_n hx hb dX8_add_68 rfl (lv_at hl 2 rfl) ?_
          refine gf_RX8_44 hC hS z_h0 dX8_add_69 (fun t_69 p_69 q_69 => ?_)
          refine lv_iload hx hb dX8_add_72 (lv_at hl 1 rfl) ?_
          refine lv_iload hx hb dX8_add_74 (lv_at hl 0 rfl) ?_
          have K_94 : ∀ (y0_94 : Nat) (y1_94 : Int32) (y2_94 : Int32) (f : Nat → va_E) (H : Heap) (locs : List Loc) (ls : Array Slot), tq_z Z y0_94 (.inr (.inl (1, 384))) → tq_S X Z (tq_A Z) s.heap f0 [] f H locs → tq_iv 0 383 y1_94 → lv_has ls 8 [(6, .int t_5), (0, .ref h0), (3, .int x3)] → W p l e R s m args below meth c H locs 0 0 Q (F0 m 94 ls [.int y2_94, .int y1_94, .ref y0_94]) := by
            intro y0_94 y1_94 y2_94 f H locs ls z_y0_94 hS i6_y1_94 hl
            refine tq_iast hC hS z_y0_94 rfl (tq_vin i6_y1_94 (by decide) (by decide)) trivial dX8_add_94 (fun f H locs hS k_94 => ?_)
            refine lv_aload_n hx hb dX8_add_95 rfl (lv_at hl 1 rfl) ?_
            refine gf_RX8_38 hC hS z_h0 dX8_add_96 (fun t_96 p_96 q_96 => ?_)
            refine lv_iload hx hb dX8_add_99 (lv_at hl 0 rfl) ?_
            refine lv_dup2_11 hx hb dX8_add_101 rfl rfl ?_
            refine tq_iald hC hS p_96 rfl (tq_vin i3_t_5 (by decide) (by decide)) dX8_add_102 (fun t_102 p_102 => ?_)
            refine lv_iload_n hx hb dX8_add_103 rfl (lv_at hl 2 rfl) ?_
            refine lv_iadd hx hb dX8_add_104 ?_
            refine lv_topi (fun t_104 e_104 => ?_)
            refine tq_iast hC hS p_96 rfl (tq_vin i3_t_5 (by decide) (by decide)) trivial dX8_add_105 (fun f H locs hS k_105 => ?_)
            exact hret _ _ _ _ _ rfl hS dX8_add_106
          refine lv_if_eq (tgt := 84) hx hb dX8_add_76 (by decide) (fun c_76 => ?_) (fun c_76 => ?_)
          · skip
            have i7_y0_37 : tq_iv 0 0 y0_37 := tq_cut i4_y0_37 (tq_eqL c_76 (⟨by decide, by decide⟩ : tq_iv 0 0 0)) (by decide) (by decide)
            refine lv_aload_n hx hb dX8_add_84 rfl (lv_at hl 2 rfl) ?_
            refine gf_RX8_44 hC hS z_h0 dX8_add_85 (fun t_85 p_85 q_85 => ?_)
            refine lv_iload hx hb dX8_add_88 (lv_at hl 1 rfl) ?_
            refine tq_iald hC hS p_85 rfl (tq_vin i3_t_5 (by decide) (by decide)) dX8_add_90 (fun t_90 p_90 => ?_)
            refine lv_iload hx hb dX8_add_91 (lv_at hl 4 rfl) ?_
            refine lv_ior hx hb dX8_add_93 ?_
            refine lv_topi (fun t_93 e_93 => ?_)
            exact K_94 t_69 t_5 t_93 _ _ _ _ p_69 hS (tq_w i3_t_5 (by decide) (by decide)) (lv_sub hl [1, 2, 3] rfl)
          · skip
            have i8_y0_37 : tq_iv 1 1 y0_37 := tq_w (tq_neLo c_76 i4_y0_37 (⟨by decide, by decide⟩ : tq_iv 0 0 0)) (by decide) (by decide)
            refine lv_iload hx hb dX8_add_79 (lv_at hl 4 rfl) ?_
            refine lv_goto (tgt := 94) hx hb dX8_add_81 (by decide) ?_
            exact K_94 t_69 t_5 x5 _ _ _ _ p_69 hS (tq_w i3_t_5 (by decide) (by decide)) (lv_sub hl [1, 2, 3] rfl)
        refine lv_if_eq (tgt := 55) hx hb dX8_add_47 (by decide) (fun c_47 => ?_) (fun c_47 => ?_)
        · skip
          have i9_y0_37 : tq_iv 0 0 y0_37 := tq_cut i4_y0_37 (tq_eqL c_47 (⟨by decide, by decide⟩ : tq_iv 0 0 0)) (by decide) (by decide)
          refine lv_aload_n hx hb dX8_add_55 rfl (lv_at hl 2 rfl) ?_
          refine gf_RX8_41 hC hS z_h0 dX8_add_56 (fun t_56 p_56 q_56 => ?_)
          refine lv_iload hx hb dX8_add_59 (lv_at hl 1 rfl) ?_
          refine tq_iald hC hS p_56 rfl (tq_vin i3_t_5 (by decide) (by decide)) dX8_add_61 (fun t_61 p_61 => ?_)
          refine lv_iload hx hb dX8_add_62 (lv_at hl 4 rfl) ?_
          refine va_mmin hx hb (hC.1.2.2.1.trans hl.1.symm) hown (hts _ ql_RX8_109) (hts _ qm_min_s) (hts _ qm_i) (hts _ qm_min_c) (Nat.le_trans (by decide) hC.2.2.1) (Nat.le_trans (Nat.le_of_ble_eq_true rfl) hC.2.2.2.1) (Nat.zero_le _) (Nat.zero_le _) dX8_add_64 ?_
          refine lv_topi (fun t_64 e_64 => ?_)
          exact K_67 t_40 t_5 t_64 _ _ _ _ p_40 hS (tq_w i3_t_5 (by decide) (by decide)) (lv_sub hl [0, 1, 2, 3, 5] rfl)
        · skip
          have i10_y0_37 : tq_iv 1 1 y0_37 := tq_w (tq_neLo c_47 i4_y0_37 (⟨by decide, by decide⟩ : tq_iv 0 0 0)) (by decide) (by decide)
          refine lv_iload hx hb dX8_add_50 (lv_at hl 4 rfl) ?_
          refine lv_goto (tgt := 67) hx hb dX8_add_52 (by decide) ?_
          exact K_67 t_40 t_5 x4 _ _ _ _ p_40 hS (tq_w i3_t_5 (by decide) (by decide)) (lv_sub hl [0, 1, 2, 3, 5] rfl)
      refine lv_if_ne (tgt := 36) hx hb dX8_add_29 (by decide) (fun c_29 => ?_) (fun c_29 => ?_)
      · skip
        refine lv_iconst (v := 0) hx hb dX8_add_36 (by decide) ?_
        exact K_37 0 _ _ _ _ hS (tq_w (⟨by decide, by decide⟩ : tq_iv 0 0 0) (by decide) (by decide)) (lv_sub hl [0, 1, 4, 5, 6] rfl)
      · skip
        have i11_t_28 : tq_iv 0 0 t_28 := tq_cut (tq_top t_28) (tq_eqL c_29 (⟨by decide, by decide⟩ : tq_iv 0 0 0)) (by decide) (by decide)
        refine lv_iconst (v := 1) hx hb dX8_add_32 (by decide) ?_
        refine lv_goto (tgt := 37) hx hb dX8_add_33 (by decide) ?_
        exact K_37 1 _ _ _ _ hS (tq_w (⟨by decide, by decide⟩ : tq_iv 1 1 1) (by decide) (by decide)) (lv_sub hl [0, 1, 4, 5, 6] rfl)
    · skip
      have i12_t_5 : tq_iv 384 2147483647 t_5 := tq_cut i2_t_5 (tq_leR (tq_nlt c_18) (⟨by decide, by decide⟩ : tq_iv 384 384 384) i2_t_5) (by decide) (by decide)
      exact K_21 _ _ _ _ hS (lv_sub hl [] rfl)
set_option maxHeartbeats 4000000 in
set_option maxRecDepth 100000 in
theorem c_X8_changeOver (l : Launch) (X : tq_X) (Z : tq_Z) (f : Nat → va_E) (h0 : Nat) (z_h0 : tq_z Z h0 (.inl 8)) : tq_M l X Z f [(8, 4), (8, 5), (8, 6), (8, 7), (8, 8), (8, 9)] yX8_changeOver cX8_changeOver 2 (none) 0 [.ref h0] tq_rv := by
  refine tq_startv (by decide) (Nat.le_of_ble_eq_true rfl) (fun p e R s m args below meth c Q hC hret hS ls hl => ?_)
  have hC : tq_C p R s m args c X (tq_A Z) RX8 cX8_changeOver 2 0 := hC
  have hx := hC.1.1
  have hb := hC.1.2.1
  have hown := hC.1.2.2.2.1
  have hts := hC.1.2.2.2.2
  have hl : lv_has ls 2 [(0, .ref h0)] := hl
  generalize hf0 : f = f0 at hret
  have hS : tq_S X Z (tq_A Z) s.heap f0 [(8, 4), (8, 5), (8, 6), (8, 7), (8, 8), (8, 9)] f s.heap [] := hf0 ▸ hS
  refine lv_aload_n hx hb dX8_changeOver_0 rfl (lv_at hl 0 rfl) ?_
  refine gf_RX8_29 hC hS z_h0 dX8_changeOver_1 (fun t_1 p_1 q_1 => ?_)
  refine lv_astore_n (lv' := [(1, .ref t_1), (0, .ref h0)]) hx hb dX8_changeOver_4 rfl hl (by decide) rfl (fun ls hl => ?_)
  refine lv_aload_n hx hb dX8_changeOver_5 rfl (lv_at hl 1 rfl) ?_
  refine lv_aload_n hx hb dX8_changeOver_6 rfl (lv_at hl 1 rfl) ?_
  refine gf_RX8_38 hC hS z_h0 dX8_changeOver_7 (fun t_7 p_7 q_7 => ?_)
  refine pf_RX8_29 hC hS z_h0 (by decide) p_7 dX8_changeOver_10 (fun f H locs hS q_10 k_10 => ?_)
  refine lv_aload_n hx hb dX8_changeOver_13 rfl (lv_at hl 1 rfl) ?_
  refine lv_aload_n hx hb dX8_changeOver_14 rfl (lv_at hl 0 rfl) ?_
  refine pf_RX8_38 hC hS z_h0 (by decide) p_1 dX8_changeOver_15 (fun f H locs hS q_15 k_15 => ?_)
  refine lv_aload_n hx hb dX8_changeOver_18 rfl (lv_at hl 1 rfl) ?_
  refine gf_RX8_32 hC hS z_h0 dX8_changeOver_19 (fun t_19 p_19 q_19 => ?_)
  refine lv_astore_n (lv' := [(1, .ref t_19), (0, .ref h0)]) hx hb dX8_changeOver_22 rfl hl (by decide) rfl (fun ls hl => ?_)
  refine lv_aload_n hx hb dX8_changeOver_23 rfl (lv_at hl 1 rfl) ?_
  refine lv_aload_n hx hb dX8_changeOver_24 rfl (lv_at hl 1 rfl) ?_
  refine gf_RX8_41 hC hS z_h0 dX8_changeOver_25 (fun t_25 p_25 q_25 => ?_)
  refine pf_RX8_32 hC hS z_h0 (by decide) p_25 dX8_changeOver_28 (fun f H locs hS q_28 k_28 => ?_)
  refine lv_aload_n hx hb dX8_changeOver_31 rfl (lv_at hl 1 rfl) ?_
  refine lv_aload_n hx hb dX8_changeOver_32 rfl (lv_at hl 0 rfl) ?_
  refine pf_RX8_41 hC hS z_h0 (by decide) p_19 dX8_changeOver_33 (fun f H locs hS q_33 k_33 => ?_)
  refine lv_aload_n hx hb dX8_changeOver_36 rfl (lv_at hl 1 rfl) ?_
  refine gf_RX8_35 hC hS z_h0 dX8_changeOver_37 (fun t_37 p_37 q_37 => ?_)
  refine lv_astore_n (lv' := [(1, .ref t_37), (0, .ref h0)]) hx hb dX8_changeOver_40 rfl hl (by decide) rfl (fun ls hl => ?_)
  refine lv_aload_n hx hb dX8_changeOver_41 rfl (lv_at hl 1 rfl) ?_
  refine lv_aload_n hx hb dX8_changeOver_42 rfl (lv_at hl 1 rfl) ?_
  refine gf_RX8_44 hC hS z_h0 dX8_changeOver_43 (fun t_43 p_43 q_43 => ?_)
  refine pf_RX8_35 hC hS z_h0 (by decide) p_43 dX8_changeOver_46 (fun f H locs hS q_46 k_46 => ?_)
  refine lv_aload_n hx hb dX8_changeOver_49 rfl (lv_at hl 1 rfl) ?_
  refine lv_aload_n hx hb dX8_changeOver_50 rfl (lv_at hl 0 rfl) ?_
  refine pf_RX8_44 hC hS z_h0 (by decide) p_37 dX8_changeOver_51 (fun f H locs hS q_51 k_51 => ?_)
  exact hret _ _ _ _ _ rfl hS dX8_changeOver_54
set_option maxHeartbeats 4000000 in
set_option maxRecDepth 100000 in
theorem c_X8_addChamber (l : Launch) (X : tq_X) (Z : tq_Z) (f : Nat → va_E) (h0 : Nat) (z_h0 : tq_z Z h0 (.inl 8)) (x1 : Int32) : tq_M l X Z f [(8, 4), (8, 5), (8, 6), (8, 7), (8, 8), (8, 9)] yX8_addChamber cX8_addChamber 5 (none) 2 [.ref h0, .int x1] tq_rv := by
  refine tq_startv (by decide) (Nat.le_of_ble_eq_true rfl) (fun p e R s m args below meth c Q hC hret hS ls hl => ?_)
  have hC : tq_C p R s m args c X (tq_A Z) RX8 cX8_addChamber 5 2 := hC
  have hx := hC.1.1
  have hb := hC.1.2.1
  have hown := hC.1.2.2.2.1
  have hts := hC.1.2.2.2.2
  have hl : lv_has ls 5 [(0, .ref h0), (1, .int x1)] := hl
  generalize hf0 : f = f0 at hret
  have hS : tq_S X Z (tq_A Z) s.heap f0 [(8, 4), (8, 5), (8, 6), (8, 7), (8, 8), (8, 9)] f s.heap [] := hf0 ▸ hS
  refine lv_aload_n hx hb dX8_addChamber_0 rfl (lv_at hl 0 rfl) ?_
  refine gf_RX8_38 hC hS z_h0 dX8_addChamber_1 (fun t_1 p_1 q_1 => ?_)
  refine lv_iconst (v := 0) hx hb dX8_addChamber_4 (by decide) ?_
  refine tq_callSv (As := [.ref t_1, .int 0]) (rest := []) hC (c_J7_fill_53178_1_384 l X Z _ t_1 p_1 0) k_J7_fill_53178 ql_RX8_81 (by decide) rfl (by decide) hS hl.1 rfl (Nat.le_of_ble_eq_true rfl) ⟨Nat.zero_le _, Nat.zero_le _⟩ dX8_addChamber_5 (fun f1_5 H locs hS k_5 => ?_)
  refine lv_iconst (v := 0) hx hb dX8_addChamber_8 (by decide) ?_
  refine lv_istore_n (lv' := [(2, .int 0), (0, .ref h0), (1, .int x1)]) hx hb dX8_addChamber_9 rfl hl (by decide) rfl (fun ls hl => ?_)
  have K_10 : ∀ (n_10 : Nat) (x2_10 : Int32) (f : Nat → va_E) (H : Heap) (locs : List Loc) (ls : Array Slot), tq_S X Z (tq_A Z) s.heap f0 [(8, 4), (8, 5), (8, 6), (8, 7), (8, 8), (8, 9)] f H locs → tq_iv 0 384 x2_10 → (2147483647 - x2_10.toInt).toNat < n_10 → lv_has ls 5 [(2, .int x2_10), (0, .ref h0), (1, .int x1)] → W p l e R s m args below meth c H locs 0 0 Q (F0 m 10 ls []) := by
    intro n_10
    induction n_10 with
    | zero => intro x2_10 f H locs ls  hS i1_x2_10 hn_10; exact absurd hn_10 (Nat.not_lt_zero _)
    | succ n_10 ih_10 =>
      intro x2_10 f H locs ls  hS i1_x2_10 hn_10 hl
      refine lv_iload_n hx hb dX8_addChamber_10 rfl (lv_at hl 0 rfl) ?_
      refine lv_sipush (v := 384) hx hb dX8_addChamber_11 (by decide) ?_
      refine lv_icmp_ge (tgt := 127) hx hb dX8_addChamber_14 (by decide) (fun c_14 => ?_) (fun c_14 => ?_)
      · skip
        have i2_x2_10 : tq_iv 384 384 x2_10 := tq_cut i1_x2_10 (tq_leR c_14 (⟨by decide, by decide⟩ : tq_iv 384 384 384) i1_x2_10) (by decide) (by decide)
        refine lv_aload_n hx hb dX8_addChamber_127 rfl (lv_at hl 1 rfl) ?_
        refine tq_callVv (As := []) (rest := []) hC (c_X8_changeOver l X Z _ h0 z_h0) k_X8_changeOver ql_RX8_99 (by decide) rfl (by decide) hS z_h0 rfl hl.1 rfl (Nat.le_of_ble_eq_true rfl) ⟨Nat.zero_le _, Nat.zero_le _⟩ dX8_addChamber_128 (fun f1_128 H locs hS k_128 => ?_)
        exact hret _ _ _ _ _ rfl hS dX8_addChamber_131
      · skip
        have i3_x2_10 : tq_iv 0 383 x2_10 := tq_cut i1_x2_10 (tq_ltL (tq_nle c_14) i1_x2_10 (⟨by decide, by decide⟩ : tq_iv 384 384 384)) (by decide) (by decide)
        refine lv_aload_n hx hb dX8_addChamber_17 rfl (lv_at hl 1 rfl) ?_
        refine gf_RX8_29 hC hS z_h0 dX8_addChamber_18 (fun t_18 p_18 q_18 => ?_)
        refine lv_iload_n hx hb dX8_addChamber_21 rfl (lv_at hl 0 rfl) ?_
        refine tq_iald hC hS p_18 rfl (tq_vin i3_x2_10 (by decide) (by decide)) dX8_addChamber_22 (fun t_22 p_22 => ?_)
        have K_121 : ∀ (f : Nat → va_E) (H : Heap) (locs : List Loc) (ls : Array Slot), tq_S X Z (tq_A Z) s.heap f0 [(8, 4), (8, 5), (8, 6), (8, 7), (8, 8), (8, 9)] f H locs → lv_has ls 5 [(2, .int x2_10), (0, .ref h0), (1, .int x1)] → W p l e R s m args below meth c H locs 0 0 Q (F0 m 121 ls []) := by
          intro f H locs ls  hS hl
          obtain ⟨t_121, e_121⟩ : ∃ y : Int32, y = x2_10 + 1 := ⟨_, rfl⟩
          have i4_t_121 : tq_iv 1 384 t_121 := tq_w (tq_add e_121 i3_x2_10 (⟨by decide, by decide⟩ : tq_iv 1 1 1) (by decide) (by decide)) (by decide) (by decide)
          refine lv_iinc (v := t_121) (lv' := [(2, .int t_121), (0, .ref h0), (1, .int x1)]) hx hb dX8_addChamber_121 hl (k := 0) rfl (by rw [e_121]; rfl) (by decide) rfl (fun ls hl => ?_)
          refine lv_goto (tgt := 10) hx hb dX8_addChamber_124 (by decide) ?_
          exact ih_10 t_121 _ _ _ _ hS (tq_w i4_t_121 (by decide) (by decide)) (tq_up e_121 i3_x2_10 (⟨by decide, by decide⟩ : tq_iv 1 1 1) (by decide) (by decide) hn_10) (lv_sub hl [0, 1, 2] rfl)
        refine lv_if_le (tgt := 121) hx hb dX8_addChamber_23 (by decide) (fun c_23 => ?_) (fun c_23 => ?_)
        · skip
          have i5_t_22 : tq_iv (-2147483648) 0 t_22 := tq_cut (tq_top t_22) (tq_leL c_23 (tq_top t_22) (⟨by decide, by decide⟩ : tq_iv 0 0 0)) (by decide) (by decide)
          exact K_121 _ _ _ _ hS (lv_sub hl [0, 1, 2] rfl)
        · skip
          have i6_t_22 : tq_iv 1 2147483647 t_22 := tq_cut (tq_top t_22) (tq_ltR (tq_nle c_23) (⟨by decide, by decide⟩ : tq_iv 0 0 0) (tq_top t_22)) (by decide) (by decide)
          refine lv_iload_n hx hb dX8_addChamber_26 rfl (lv_at hl 0 rfl) ?_
          refine lv_bipush (v := 64) hx hb dX8_addChamber_27 (by decide) ?_
          refine lv_idiv hx hb dX8_addChamber_29 (tq_nz (⟨by decide, by decide⟩ : tq_iv 64 64 64) (by decide)) ?_
          refine lv_topi (fun t_29 e_29 => ?_)
          refine lv_istore_n (lv' := [(3, .int t_29), (2, .int x2_10), (0, .ref h0), (1, .int x1)]) hx hb dX8_addChamber_30 rfl hl (by decide) rfl (fun ls hl => ?_)
          refine lv_aload_n hx hb dX8_addChamber_31 rfl (lv_at hl 2 rfl) ?_
          refine gf_RX8_21 hC hS z_h0 dX8_addChamber_32 (fun t_32 p_32 q_32 => ?_)
          refine lv_iload_n hx hb dX8_addChamber_35 rfl (lv_at hl 0 rfl) ?_
          refine tq_callVpi (As := [.int t_29]) (rest := []) hC (c_X6_lowest l X Z _ t_32 p_32 t_29) k_X6_lowest ql_RX8_114 rfl (by decide) hS p_32 rfl hl.1 rfl (Nat.le_of_ble_eq_true rfl) ⟨Nat.zero_le _, Nat.zero_le _⟩ dX8_addChamber_36 (fun t_36 p_36 => ?_)
          refine lv_istore (lv' := [(4, .int t_36), (3, .int t_29), (2, .int x2_10), (0, .ref h0), (1, .int x1)]) hx hb dX8_addChamber_39 hl (by decide) rfl (fun ls hl => ?_)
          have K_41 : ∀ (n_41 : Nat) (x4_41 : Int32) (f : Nat → va_E) (H : Heap) (locs : List Loc) (ls : Array Slot), tq_S X Z (tq_A Z) s.heap f0 [(8, 4), (8, 5), (8, 6), (8, 7), (8, 8), (8, 9)] f H locs → tq_iv 0 2147483647 x4_41 → (2147483647 - x4_41.toInt).toNat < n_41 → lv_has ls 5 [(4, .int x4_41), (3, .int t_29), (2, .int x2_10), (0, .ref h0), (1, .int x1)] → W p l e R s m args below meth c H locs 0 0 Q (F0 m 41 ls []) := by
            intro n_41
            induction n_41 with
            | zero => intro x4_41 f H locs ls  hS i7_x4_41 hn_41; exact absurd hn_41 (Nat.not_lt_zero _)
            | succ n_41 ih_41 =>
              intro x4_41 f H locs ls  hS i7_x4_41 hn_41 hl
              refine lv_iload hx hb dX8_addChamber_41 (lv_at hl 0 rfl) ?_
              refine lv_aload_n hx hb dX8_addChamber_43 rfl (lv_at hl 3 rfl) ?_
              refine gf_RX8_21 hC hS z_h0 dX8_addChamber_44 (fun t_44 p_44 q_44 => ?_)
              refine lv_iload_n hx hb dX8_addChamber_47 rfl (lv_at hl 1 rfl) ?_
              refine tq_callVpi (As := [.int t_29]) (rest := [.int x4_41]) hC (c_X6_highest l X Z _ t_44 p_44 t_29) k_X6_highest ql_RX8_117 rfl (by decide) hS p_44 rfl hl.1 rfl (Nat.le_of_ble_eq_true rfl) ⟨Nat.zero_le _, Nat.zero_le _⟩ dX8_addChamber_48 (fun t_48 p_48 => ?_)
              refine lv_icmp_gt (tgt := 121) hx hb dX8_addChamber_51 (by decide) (fun c_51 => ?_) (fun c_51 => ?_)
              · skip
                exact K_121 _ _ _ _ hS (lv_sub hl [2, 3, 4] rfl)
              · skip
                have i8_x4_41 : tq_iv 0 998 x4_41 := tq_cut i7_x4_41 (tq_leL (tq_nlt c_51) i7_x4_41 p_48) (by decide) (by decide)
                have i9_t_48 : tq_iv 0 998 t_48 := tq_cut p_48 (tq_leR (tq_nlt c_51) i7_x4_41 p_48) (by decide) (by decide)
                refine lv_iload hx hb dX8_addChamber_54 (lv_at hl 0 rfl) ?_
                refine lv_bipush (v := 6) hx hb dX8_addChamber_56 (by decide) ?_
                refine lv_icmp_ge (tgt := 121) hx hb dX8_addChamber_58 (by decide) (fun c_58 => ?_) (fun c_58 => ?_)
                · skip
                  have i10_x4_41 : tq_iv 6 998 x4_41 := tq_cut i8_x4_41 (tq_leR c_58 (⟨by decide, by decide⟩ : tq_iv 6 6 6) i8_x4_41) (by decide) (by decide)
                  exact K_121 _ _ _ _ hS (lv_sub hl [2, 3, 4] rfl)
                · skip
                  have i11_x4_41 : tq_iv 0 5 x4_41 := tq_cut i8_x4_41 (tq_ltL (tq_nle c_58) i8_x4_41 (⟨by decide, by decide⟩ : tq_iv 6 6 6)) (by decide) (by decide)
                  refine lv_aload_n hx hb dX8_addChamber_61 rfl (lv_at hl 3 rfl) ?_
                  refine lv_iload hx hb dX8_addChamber_62 (lv_at hl 0 rfl) ?_
                  refine lv_iload_n hx hb dX8_addChamber_64 rfl (lv_at hl 2 rfl) ?_
                  refine lv_bipush (v := 64) hx hb dX8_addChamber_65 (by decide) ?_
                  refine lv_irem hx hb dX8_addChamber_67 (tq_nz (⟨by decide, by decide⟩ : tq_iv 64 64 64) (by decide)) ?_
                  refine lv_topi (fun t_67 e_67 => ?_)
                  have i12_t_67 : tq_iv 0 63 t_67 := tq_rem e_67 i3_x2_10 (⟨by decide, by decide⟩ : tq_iv 64 64 64) (by decide) (by decide)
                  refine lv_aload_n hx hb dX8_addChamber_68 rfl (lv_at hl 3 rfl) ?_
                  refine gf_RX8_26 hC hS z_h0 dX8_addChamber_69 (fun t_69 p_69 q_69 => ?_)
                  refine lv_iload hx hb dX8_addChamber_72 (lv_at hl 0 rfl) ?_
                  refine tq_iald hC hS p_69 rfl (tq_vin i11_x4_41 (by decide) (by decide)) dX8_addChamber_74 (fun t_74 p_74 => ?_)
                  refine lv_iand hx hb dX8_addChamber_75 ?_
                  refine lv_topi (fun t_75 e_75 => ?_)
                  have i13_t_75 : tq_iv 0 63 t_75 := tq_and1 e_75 i12_t_67 (by decide)
                  refine lv_aload_n hx hb dX8_addChamber_76 rfl (lv_at hl 3 rfl) ?_
                  refine gf_RX8_29 hC hS z_h0 dX8_addChamber_77 (fun t_77 p_77 q_77 => ?_)
                  refine lv_iload_n hx hb dX8_addChamber_80 rfl (lv_at hl 2 rfl) ?_
                  refine tq_iald hC hS p_77 rfl (tq_vin i3_x2_10 (by decide) (by decide)) dX8_addChamber_81 (fun t_81 p_81 => ?_)
                  refine lv_aload_n hx hb dX8_addChamber_82 rfl (lv_at hl 3 rfl) ?_
                  refine gf_RX8_32 hC hS z_h0 dX8_addChamber_83 (fun t_83 p_83 q_83 => ?_)
                  refine lv_iload_n hx hb dX8_addChamber_86 rfl (lv_at hl 2 rfl) ?_
                  refine tq_iald hC hS p_83 rfl (tq_vin i3_x2_10 (by decide) (by decide)) dX8_addChamber_87 (fun t_87 p_87 => ?_)
                  refine lv_aload_n hx hb dX8_addChamber_88 rfl (lv_at hl 3 rfl) ?_
                  refine gf_RX8_21 hC hS z_h0 dX8_addChamber_89 (fun t_89 p_89 q_89 => ?_)
                  refine gf_RX8_66 hC hS p_89 dX8_addChamber_92 (fun t_92 p_92 q_92 => ?_)
                  refine lv_imul hx hb dX8_addChamber_95 ?_
                  refine lv_topi (fun t_95 e_95 => ?_)
                  refine lv_iload hx hb dX8_addChamber_96 (lv_at hl 0 rfl) ?_
                  refine lv_iadd hx hb dX8_addChamber_98 ?_
                  refine lv_topi (fun t_98 e_98 => ?_)
                  refine lv_aload_n hx hb dX8_addChamber_99 rfl (lv_at hl 3 rfl) ?_
                  refine gf_RX8_35 hC hS z_h0 dX8_addChamber_100 (fun t_100 p_100 q_100 => ?_)
                  refine lv_iload_n hx hb dX8_addChamber_103 rfl (lv_at hl 2 rfl) ?_
                  refine tq_iald hC hS p_100 rfl (tq_vin i3_x2_10 (by decide) (by decide)) dX8_addChamber_104 (fun t_104 p_104 => ?_)
                  refine lv_iload_n hx hb dX8_addChamber_105 rfl (lv_at hl 4 rfl) ?_
                  refine lv_iload hx hb dX8_addChamber_106 (lv_at hl 0 rfl) ?_
                  refine tq_callSpi (As := [.int x1, .int x4_41]) (rest := [.int t_104, .int t_98, .int t_81, .int t_75, .int x4_41, .ref h0]) hC (c_X6_notch l X Z _ x1 x4_41) k_X6_notch ql_RX8_91 rfl (by decide) hS hl.1 rfl (Nat.le_of_ble_eq_true rfl) ⟨Nat.zero_le _, Nat.zero_le _⟩ dX8_addChamber_108 (fun t_108 p_108 => ?_)
                  refine lv_ior hx hb dX8_addChamber_111 ?_
                  refine lv_topi (fun t_111 e_111 => ?_)
                  refine tq_callVv (As := [.int x4_41, .int t_75, .int t_81, .int t_98, .int t_111]) (rest := []) hC (c_X8_add l X Z _ h0 z_h0 x4_41 t_75 t_81 t_98 t_111) k_X8_add ql_RX8_95 (by decide) rfl (by decide) hS z_h0 rfl hl.1 rfl (Nat.le_of_ble_eq_true rfl) ⟨Nat.zero_le _, Nat.zero_le _⟩ dX8_addChamber_112 (fun f1_112 H locs hS k_112 => ?_)
                  obtain ⟨t_115, e_115⟩ : ∃ y : Int32, y = x4_41 + 1 := ⟨_, rfl⟩
                  have i14_t_115 : tq_iv 1 6 t_115 := tq_w (tq_add e_115 i11_x4_41 (⟨by decide, by decide⟩ : tq_iv 1 1 1) (by decide) (by decide)) (by decide) (by decide)
                  refine lv_iinc (v := t_115) (lv' := [(4, .int t_115), (3, .int t_29), (2, .int x2_10), (0, .ref h0), (1, .int x1)]) hx hb dX8_addChamber_115 hl (k := 0) rfl (by rw [e_115]; rfl) (by decide) rfl (fun ls hl => ?_)
                  refine lv_goto (tgt := 41) hx hb dX8_addChamber_118 (by decide) ?_
                  exact ih_41 t_115 _ _ _ _ hS (tq_w i14_t_115 (by decide) (by decide)) (tq_up e_115 i11_x4_41 (⟨by decide, by decide⟩ : tq_iv 1 1 1) (by decide) (by decide) hn_41) (lv_sub hl [0, 1, 2, 3, 4] rfl)
          exact K_41 _ t_36 _ _ _ _ hS (tq_w p_36 (by decide) (by decide)) (Nat.lt_succ_self _) (lv_sub hl [0, 1, 2, 3, 4] rfl)
  exact K_10 _ 0 _ _ _ _ hS (tq_w (⟨by decide, by decide⟩ : tq_iv 0 0 0) (by decide) (by decide)) (Nat.lt_succ_self _) (lv_sub hl [0, 1, 2] rfl)
set_option maxHeartbeats 4000000 in
set_option maxRecDepth 100000 in
theorem c_X8_allowIn (l : Launch) (X : tq_X) (Z : tq_Z) (f : Nat → va_E) (h0 : Nat) (z_h0 : tq_z Z h0 (.inl 8)) (x1 : Int32) (h2 : Nat) (z_h2 : tq_z Z h2 (.inl 7)) : tq_M l X Z f [] yX8_allowIn cX8_allowIn 6 (none) 2 [.ref h0, .int x1, .ref h2] tq_rv := by
  refine tq_startv (by decide) (Nat.le_of_ble_eq_true rfl) (fun p e R s m args below meth c Q hC hret hS ls hl => ?_)
  have hC : tq_C p R s m args c X (tq_A Z) RX8 cX8_allowIn 6 2 := hC
  have hx := hC.1.1
  have hb := hC.1.2.1
  have hown := hC.1.2.2.2.1
  have hts := hC.1.2.2.2.2
  have hl : lv_has ls 6 [(0, .ref h0), (1, .int x1), (2, .ref h2)] := hl
  generalize hf0 : f = f0 at hret
  have hS : tq_S X Z (tq_A Z) s.heap f0 [] f s.heap [] := hf0 ▸ hS
  refine lv_iconst (v := 0) hx hb dX8_allowIn_0 (by decide) ?_
  refine lv_istore_n (lv' := [(3, .int 0), (0, .ref h0), (1, .int x1), (2, .ref h2)]) hx hb dX8_allowIn_1 rfl hl (by decide) rfl (fun ls hl => ?_)
  have K_2 : ∀ (n_2 : Nat) (x3_2 : Int32) (f : Nat → va_E) (H : Heap) (locs : List Loc) (ls : Array Slot), tq_S X Z (tq_A Z) s.heap f0 [] f H locs → tq_iv 0 6 x3_2 → (2147483647 - x3_2.toInt).toNat < n_2 → lv_has ls 6 [(3, .int x3_2), (0, .ref h0), (1, .int x1), (2, .ref h2)] → W p l e R s m args below meth c H locs 0 0 Q (F0 m 2 ls []) := by
    intro n_2
    induction n_2 with
    | zero => intro x3_2 f H locs ls  hS i1_x3_2 hn_2; exact absurd hn_2 (Nat.not_lt_zero _)
    | succ n_2 ih_2 =>
      intro x3_2 f H locs ls  hS i1_x3_2 hn_2 hl
      refine lv_iload_n hx hb dX8_allowIn_2 rfl (lv_at hl 0 rfl) ?_
      refine lv_bipush (v := 6) hx hb dX8_allowIn_3 (by decide) ?_
      refine lv_icmp_ge (tgt := 70) hx hb dX8_allowIn_5 (by decide) (fun c_5 => ?_) (fun c_5 => ?_)
      · skip
        have i2_x3_2 : tq_iv 6 6 x3_2 := tq_cut i1_x3_2 (tq_leR c_5 (⟨by decide, by decide⟩ : tq_iv 6 6 6) i1_x3_2) (by decide) (by decide)
        exact hret _ _ _ _ _ rfl hS dX8_allowIn_70
      · skip
        have i3_x3_2 : tq_iv 0 5 x3_2 := tq_cut i1_x3_2 (tq_ltL (tq_nle c_5) i1_x3_2 (⟨by decide, by decide⟩ : tq_iv 6 6 6)) (by decide) (by decide)
        refine lv_iconst (v := 0) hx hb dX8_allowIn_8 (by decide) ?_
        refine lv_istore (lv' := [(4, .int 0), (3, .int x3_2), (0, .ref h0), (1, .int x1), (2, .ref h2)]) hx hb dX8_allowIn_9 hl (by decide) rfl (fun ls hl => ?_)
        refine lv_iconst (v := 0) hx hb dX8_allowIn_11 (by decide) ?_
        refine lv_istore (lv' := [(5, .int 0), (4, .int 0), (3, .int x3_2), (0, .ref h0), (1, .int x1), (2, .ref h2)]) hx hb dX8_allowIn_12 hl (by decide) rfl (fun ls hl => ?_)
        have K_14 : ∀ (n_14 : Nat) (x5_14 : Int32) (x4_14 : Int32) (f : Nat → va_E) (H : Heap) (locs : List Loc) (ls : Array Slot), tq_S X Z (tq_A Z) s.heap f0 [] f H locs → tq_iv 0 2147483647 x5_14 → (2147483647 - x5_14.toInt).toNat < n_14 → lv_has ls 6 [(5, .int x5_14), (4, .int x4_14), (3, .int x3_2), (0, .ref h0), (1, .int x1), (2, .ref h2)] → W p l e R s m args below meth c H locs 0 0 Q (F0 m 14 ls []) := by
          intro n_14
          induction n_14 with
          | zero => intro x5_14 x4_14 f H locs ls  hS i4_x5_14 hn_14; exact absurd hn_14 (Nat.not_lt_zero _)
          | succ n_14 ih_14 =>
            intro x5_14 x4_14 f H locs ls  hS i4_x5_14 hn_14 hl
            refine lv_iload hx hb dX8_allowIn_14 (lv_at hl 0 rfl) ?_
            refine lv_aload_n hx hb dX8_allowIn_16 rfl (lv_at hl 3 rfl) ?_
            refine gf_RX8_9 hC hS z_h0 dX8_allowIn_17 (fun t_17 p_17 q_17 => ?_)
            refine gf_RX8_72 hC hS p_17 dX8_allowIn_20 (fun t_20 p_20 q_20 => ?_)
            refine lv_icmp_ge (tgt := 56) hx hb dX8_allowIn_23 (by decide) (fun c_23 => ?_) (fun c_23 => ?_)
            · skip
              refine lv_aload_n hx hb dX8_allowIn_56 rfl (lv_at hl 3 rfl) ?_
              refine gf_RX8_26 hC hS z_h0 dX8_allowIn_57 (fun t_57 p_57 q_57 => ?_)
              refine lv_iload_n hx hb dX8_allowIn_60 rfl (lv_at hl 2 rfl) ?_
              refine lv_iload hx hb dX8_allowIn_61 (lv_at hl 1 rfl) ?_
              refine tq_iast hC hS p_57 rfl (tq_vin i3_x3_2 (by decide) (by decide)) trivial dX8_allowIn_63 (fun f H locs hS k_63 => ?_)
              obtain ⟨t_64, e_64⟩ : ∃ y : Int32, y = x3_2 + 1 := ⟨_, rfl⟩
              have i5_t_64 : tq_iv 1 6 t_64 := tq_w (tq_add e_64 i3_x3_2 (⟨by decide, by decide⟩ : tq_iv 1 1 1) (by decide) (by decide)) (by decide) (by decide)
              refine lv_iinc (v := t_64) (lv' := [(3, .int t_64), (5, .int x5_14), (4, .int x4_14), (0, .ref h0), (1, .int x1), (2, .ref h2)]) hx hb dX8_allowIn_64 hl (k := 2) rfl (by rw [e_64]; rfl) (by decide) rfl (fun ls hl => ?_)
              refine lv_goto (tgt := 2) hx hb dX8_allowIn_67 (by decide) ?_
              exact ih_2 t_64 _ _ _ _ hS (tq_w i5_t_64 (by decide) (by decide)) (tq_up e_64 i3_x3_2 (⟨by decide, by decide⟩ : tq_iv 1 1 1) (by decide) (by decide) hn_2) (lv_sub hl [0, 3, 4, 5] rfl)
            · skip
              have i6_x5_14 : tq_iv 0 2147483646 x5_14 := tq_cut i4_x5_14 (tq_ltL (tq_nle c_23) i4_x5_14 (tq_top t_20)) (by decide) (by decide)
              have i7_t_20 : tq_iv 1 2147483647 t_20 := tq_cut (tq_top t_20) (tq_ltR (tq_nle c_23) i4_x5_14 (tq_top t_20)) (by decide) (by decide)
              refine lv_aload_n hx hb dX8_allowIn_26 rfl (lv_at hl 5 rfl) ?_
              refine lv_iload hx hb dX8_allowIn_27 (lv_at hl 0 rfl) ?_
              refine tq_callVpi (As := [.int x5_14]) (rest := []) hC (c_X7_pins l X Z _ h2 z_h2 x5_14) k_X7_pins ql_RX8_75 rfl (by decide) hS z_h2 rfl hl.1 rfl (Nat.le_of_ble_eq_true rfl) ⟨Nat.zero_le _, Nat.zero_le _⟩ dX8_allowIn_29 (fun t_29 p_29 => ?_)
              refine lv_iload_n hx hb dX8_allowIn_32 rfl (lv_at hl 4 rfl) ?_
              refine lv_iload_n hx hb dX8_allowIn_33 rfl (lv_at hl 2 rfl) ?_
              refine tq_callSpi (As := [.int x1, .int x3_2]) (rest := [.int t_29]) hC (c_X6_notch l X Z _ x1 x3_2) k_X6_notch ql_RX8_91 rfl (by decide) hS hl.1 rfl (Nat.le_of_ble_eq_true rfl) ⟨Nat.zero_le _, Nat.zero_le _⟩ dX8_allowIn_34 (fun t_34 p_34 => ?_)
              refine lv_iand hx hb dX8_allowIn_37 ?_
              refine lv_topi (fun t_37 e_37 => ?_)
              have K_50 : ∀ (x4_50 : Int32) (f : Nat → va_E) (H : Heap) (locs : List Loc) (ls : Array Slot), tq_S X Z (tq_A Z) s.heap f0 [] f H locs → lv_has ls 6 [(5, .int x5_14), (4, .int x4_50), (3, .int x3_2), (0, .ref h0), (1, .int x1), (2, .ref h2)] → W p l e R s m args below meth c H locs 0 0 Q (F0 m 50 ls []) := by
                intro x4_50 f H locs ls  hS hl
                obtain ⟨t_50, e_50⟩ : ∃ y : Int32, y = x5_14 + 1 := ⟨_, rfl⟩
                have i8_t_50 : tq_iv 1 2147483647 t_50 := tq_w (tq_add e_50 i6_x5_14 (⟨by decide, by decide⟩ : tq_iv 1 1 1) (by decide) (by decide)) (by decide) (by decide)
                refine lv_iinc (v := t_50) (lv' := [(5, .int t_50), (4, .int x4_50), (3, .int x3_2), (0, .ref h0), (1, .int x1), (2, .ref h2)]) hx hb dX8_allowIn_50 hl (k := 0) rfl (by rw [e_50]; rfl) (by decide) rfl (fun ls hl => ?_)
                refine lv_goto (tgt := 14) hx hb dX8_allowIn_53 (by decide) ?_
                exact ih_14 t_50 x4_50 _ _ _ _ hS (tq_w i8_t_50 (by decide) (by decide)) (tq_up e_50 i6_x5_14 (⟨by decide, by decide⟩ : tq_iv 1 1 1) (by decide) (by decide) hn_14) (lv_sub hl [0, 1, 2, 3, 4, 5] rfl)
              refine lv_if_eq (tgt := 50) hx hb dX8_allowIn_38 (by decide) (fun c_38 => ?_) (fun c_38 => ?_)
              · skip
                have i9_t_37 : tq_iv 0 0 t_37 := tq_cut (tq_top t_37) (tq_eqL c_38 (⟨by decide, by decide⟩ : tq_iv 0 0 0)) (by decide) (by decide)
                exact K_50 x4_14 _ _ _ _ hS (lv_sub hl [0, 1, 2, 3, 4, 5] rfl)
              · skip
                refine lv_iload hx hb dX8_allowIn_41 (lv_at hl 1 rfl) ?_
                refine lv_iconst (v := 1) hx hb dX8_allowIn_43 (by decide) ?_
                refine lv_iload hx hb dX8_allowIn_44 (lv_at hl 0 rfl) ?_
                refine lv_ishl hx hb dX8_allowIn_46 ?_
                refine lv_topi (fun t_46 e_46 => ?_)
                refine lv_ior hx hb dX8_allowIn_47 ?_
                refine lv_topi (fun t_47 e_47 => ?_)
                refine lv_istore (lv' := [(4, .int t_47), (5, .int x5_14), (3, .int x3_2), (0, .ref h0), (1, .int x1), (2, .ref h2)]) hx hb dX8_allowIn_48 hl (by decide) rfl (fun ls hl => ?_)
                exact K_50 t_47 _ _ _ _ hS (lv_sub hl [1, 0, 2, 3, 4, 5] rfl)
        exact K_14 _ 0 0 _ _ _ _ hS (tq_w (⟨by decide, by decide⟩ : tq_iv 0 0 0) (by decide) (by decide)) (Nat.lt_succ_self _) (lv_sub hl [0, 1, 2, 3, 4, 5] rfl)
  exact K_2 _ 0 _ _ _ _ hS (tq_w (⟨by decide, by decide⟩ : tq_iv 0 0 0) (by decide) (by decide)) (Nat.lt_succ_self _) (lv_sub hl [0, 1, 2, 3] rfl)
set_option maxHeartbeats 4000000 in
set_option maxRecDepth 100000 in
theorem c_J7_fill_53178_1_64 (l : Launch) (X : tq_X) (Z : tq_Z) (f : Nat → va_E) (h0 : Nat) (z_h0 : tq_z Z h0 (.inr (.inl (1, 64)))) (x1 : Int32) : tq_M l X Z f [] yJ7_fill_53178 cJ7_fill_53178 4 (none) 0 [.ref h0, .int x1] tq_rv := by
  refine tq_startv (by decide) (Nat.le_of_ble_eq_true rfl) (fun p e R s m args below meth c Q hC hret hS ls hl => ?_)
  have hC : tq_C p R s m args c X (tq_A Z) RJ7 cJ7_fill_53178 4 0 := hC
  have hx := hC.1.1
  have hb := hC.1.2.1
  have hown := hC.1.2.2.2.1
  have hts := hC.1.2.2.2.2
  have hl : lv_has ls 4 [(0, .ref h0), (1, .int x1)] := hl
  generalize hf0 : f = f0 at hret
  have hS : tq_S X Z (tq_A Z) s.heap f0 [] f s.heap [] := hf0 ▸ hS
  refine lv_iconst (v := 0) hx hb dJ7_fill_53178_0 (by decide) ?_
  refine lv_istore_n (lv' := [(2, .int 0), (0, .ref h0), (1, .int x1)]) hx hb dJ7_fill_53178_1 rfl hl (by decide) rfl (fun ls hl => ?_)
  refine lv_aload_n hx hb dJ7_fill_53178_2 rfl (lv_at hl 1 rfl) ?_
  refine tq_alenA hC hS z_h0 rfl (v := 64) (by decide) dJ7_fill_53178_3 ?_
  refine lv_istore_n (lv' := [(3, .int 64), (2, .int 0), (0, .ref h0), (1, .int x1)]) hx hb dJ7_fill_53178_4 rfl hl (by decide) rfl (fun ls hl => ?_)
  have K_5 : ∀ (n_5 : Nat) (x2_5 : Int32) (f : Nat → va_E) (H : Heap) (locs : List Loc) (ls : Array Slot), tq_S X Z (tq_A Z) s.heap f0 [] f H locs → tq_iv 0 64 x2_5 → (2147483647 - x2_5.toInt).toNat < n_5 → lv_has ls 4 [(3, .int 64), (2, .int x2_5), (0, .ref h0), (1, .int x1)] → W p l e R s m args below meth c H locs 0 0 Q (F0 m 5 ls []) := by
    intro n_5
    induction n_5 with
    | zero => intro x2_5 f H locs ls  hS i1_x2_5 hn_5; exact absurd hn_5 (Nat.not_lt_zero _)
    | succ n_5 ih_5 =>
      intro x2_5 f H locs ls  hS i1_x2_5 hn_5 hl
      refine lv_iload_n hx hb dJ7_fill_53178_5 rfl (lv_at hl 1 rfl) ?_
      refine lv_iload_n hx hb dJ7_fill_53178_6 rfl (lv_at hl 0 rfl) ?_
      refine lv_icmp_ge (tgt := 20) hx hb dJ7_fill_53178_7 (by decide) (fun c_7 => ?_) (fun c_7 => ?_)
      · skip
        have i2_x2_5 : tq_iv 64 64 x2_5 := tq_cut i1_x2_5 (tq_leR c_7 (⟨by decide, by decide⟩ : tq_iv 64 64 64) i1_x2_5) (by decide) (by decide)
        exact hret _ _ _ _ _ rfl hS dJ7_fill_53178_20
      · skip
        have i3_x2_5 : tq_iv 0 63 x2_5 := tq_cut i1_x2_5 (tq_ltL (tq_nle c_7) i1_x2_5 (⟨by decide, by decide⟩ : tq_iv 64 64 64)) (by decide) (by decide)
        refine lv_aload_n hx hb dJ7_fill_53178_10 rfl (lv_at hl 2 rfl) ?_
        refine lv_iload_n hx hb dJ7_fill_53178_11 rfl (lv_at hl 1 rfl) ?_
        refine lv_iload_n hx hb dJ7_fill_53178_12 rfl (lv_at hl 3 rfl) ?_
        refine tq_iast hC hS z_h0 rfl (tq_vin i3_x2_5 (by decide) (by decide)) trivial dJ7_fill_53178_13 (fun f H locs hS k_13 => ?_)
        obtain ⟨t_14, e_14⟩ : ∃ y : Int32, y = x2_5 + 1 := ⟨_, rfl⟩
        have i4_t_14 : tq_iv 1 64 t_14 := tq_w (tq_add e_14 i3_x2_5 (⟨by decide, by decide⟩ : tq_iv 1 1 1) (by decide) (by decide)) (by decide) (by decide)
        refine lv_iinc (v := t_14) (lv' := [(2, .int t_14), (3, .int 64), (0, .ref h0), (1, .int x1)]) hx hb dJ7_fill_53178_14 hl (k := 1) rfl (by rw [e_14]; rfl) (by decide) rfl (fun ls hl => ?_)
        refine lv_goto (tgt := 5) hx hb dJ7_fill_53178_17 (by decide) ?_
        exact ih_5 t_14 _ _ _ _ hS (tq_w i4_t_14 (by decide) (by decide)) (tq_up e_14 i3_x2_5 (⟨by decide, by decide⟩ : tq_iv 1 1 1) (by decide) (by decide) hn_5) (lv_sub hl [1, 0, 2, 3] rfl)
  exact K_5 _ 0 _ _ _ _ hS (tq_w (⟨by decide, by decide⟩ : tq_iv 0 0 0) (by decide) (by decide)) (Nat.lt_succ_self _) (lv_sub hl [0, 1, 2, 3] rfl)
set_option maxHeartbeats 4000000 in
set_option maxRecDepth 100000 in
theorem c_X8_gather (l : Launch) (X : tq_X) (Z : tq_Z) (f : Nat → va_E) (h0 : Nat) (z_h0 : tq_z Z h0 (.inl 8)) : tq_M l X Z f [] yX8_gather cX8_gather 4 (none) 1 [.ref h0] tq_rv := by
  refine tq_startv (by decide) (Nat.le_of_ble_eq_true rfl) (fun p e R s m args below meth c Q hC hret hS ls hl => ?_)
  have hC : tq_C p R s m args c X (tq_A Z) RX8 cX8_gather 4 1 := hC
  have hx := hC.1.1
  have hb := hC.1.2.1
  have hown := hC.1.2.2.2.1
  have hts := hC.1.2.2.2.2
  have hl : lv_has ls 4 [(0, .ref h0)] := hl
  generalize hf0 : f = f0 at hret
  have hS : tq_S X Z (tq_A Z) s.heap f0 [] f s.heap [] := hf0 ▸ hS
  refine lv_aload_n hx hb dX8_gather_0 rfl (lv_at hl 0 rfl) ?_
  refine gf_RX8_47 hC hS z_h0 dX8_gather_1 (fun t_1 p_1 q_1 => ?_)
  refine lv_iconst (v := 0) hx hb dX8_gather_4 (by decide) ?_
  refine tq_callSv (As := [.ref t_1, .int 0]) (rest := []) hC (c_J7_fill_53178_1_64 l X Z _ t_1 p_1 0) k_J7_fill_53178 ql_RX8_81 (by decide) rfl (by decide) hS hl.1 rfl (Nat.le_of_ble_eq_true rfl) ⟨Nat.zero_le _, Nat.zero_le _⟩ dX8_gather_5 (fun f1_5 H locs hS k_5 => ?_)
  refine lv_iconst (v := 0) hx hb dX8_gather_8 (by decide) ?_
  refine lv_istore_n (lv' := [(1, .int 0), (0, .ref h0)]) hx hb dX8_gather_9 rfl hl (by decide) rfl (fun ls hl => ?_)
  have K_10 : ∀ (n_10 : Nat) (x1_10 : Int32) (f : Nat → va_E) (H : Heap) (locs : List Loc) (ls : Array Slot), tq_S X Z (tq_A Z) s.heap f0 [] f H locs → tq_iv 0 384 x1_10 → (2147483647 - x1_10.toInt).toNat < n_10 → lv_has ls 4 [(1, .int x1_10), (0, .ref h0)] → W p l e R s m args below meth c H locs 0 0 Q (F0 m 10 ls []) := by
    intro n_10
    induction n_10 with
    | zero => intro x1_10 f H locs ls  hS i1_x1_10 hn_10; exact absurd hn_10 (Nat.not_lt_zero _)
    | succ n_10 ih_10 =>
      intro x1_10 f H locs ls  hS i1_x1_10 hn_10 hl
      refine lv_iload_n hx hb dX8_gather_10 rfl (lv_at hl 0 rfl) ?_
      refine lv_sipush (v := 384) hx hb dX8_gather_11 (by decide) ?_
      refine lv_icmp_ge (tgt := 133) hx hb dX8_gather_14 (by decide) (fun c_14 => ?_) (fun c_14 => ?_)
      · skip
        have i2_x1_10 : tq_iv 384 384 x1_10 := tq_cut i1_x1_10 (tq_leR c_14 (⟨by decide, by decide⟩ : tq_iv 384 384 384) i1_x1_10) (by decide) (by decide)
        exact hret _ _ _ _ _ rfl hS dX8_gather_133
      · skip
        have i3_x1_10 : tq_iv 0 383 x1_10 := tq_cut i1_x1_10 (tq_ltL (tq_nle c_14) i1_x1_10 (⟨by decide, by decide⟩ : tq_iv 384 384 384)) (by decide) (by decide)
        refine lv_iload_n hx hb dX8_gather_17 rfl (lv_at hl 0 rfl) ?_
        refine lv_bipush (v := 64) hx hb dX8_gather_18 (by decide) ?_
        refine lv_irem hx hb dX8_gather_20 (tq_nz (⟨by decide, by decide⟩ : tq_iv 64 64 64) (by decide)) ?_
        refine lv_topi (fun t_20 e_20 => ?_)
        have i4_t_20 : tq_iv 0 63 t_20 := tq_rem e_20 i3_x1_10 (⟨by decide, by decide⟩ : tq_iv 64 64 64) (by decide) (by decide)
        refine lv_istore_n (lv' := [(2, .int t_20), (1, .int x1_10), (0, .ref h0)]) hx hb dX8_gather_21 rfl hl (by decide) rfl (fun ls hl => ?_)
        refine lv_aload_n hx hb dX8_gather_22 rfl (lv_at hl 2 rfl) ?_
        refine gf_RX8_29 hC hS z_h0 dX8_gather_23 (fun t_23 p_23 q_23 => ?_)
        refine lv_iload_n hx hb dX8_gather_26 rfl (lv_at hl 1 rfl) ?_
        refine tq_iald hC hS p_23 rfl (tq_vin i3_x1_10 (by decide) (by decide)) dX8_gather_27 (fun t_27 p_27 => ?_)
        have K_127 : ∀ (f : Nat → va_E) (H : Heap) (locs : List Loc) (ls : Array Slot), tq_S X Z (tq_A Z) s.heap f0 [] f H locs → lv_has ls 4 [(1, .int x1_10), (0, .ref h0)] → W p l e R s m args below meth c H locs 0 0 Q (F0 m 127 ls []) := by
          intro f H locs ls  hS hl
          obtain ⟨t_127, e_127⟩ : ∃ y : Int32, y = x1_10 + 1 := ⟨_, rfl⟩
          have i5_t_127 : tq_iv 1 384 t_127 := tq_w (tq_add e_127 i3_x1_10 (⟨by decide, by decide⟩ : tq_iv 1 1 1) (by decide) (by decide)) (by decide) (by decide)
          refine lv_iinc (v := t_127) (lv' := [(1, .int t_127), (0, .ref h0)]) hx hb dX8_gather_127 hl (k := 0) rfl (by rw [e_127]; rfl) (by decide) rfl (fun ls hl => ?_)
          refine lv_goto (tgt := 10) hx hb dX8_gather_130 (by decide) ?_
          exact ih_10 t_127 _ _ _ _ hS (tq_w i5_t_127 (by decide) (by decide)) (tq_up e_127 i3_x1_10 (⟨by decide, by decide⟩ : tq_iv 1 1 1) (by decide) (by decide) hn_10) (lv_sub hl [0, 1] rfl)
        refine lv_if_le (tgt := 127) hx hb dX8_gather_28 (by decide) (fun c_28 => ?_) (fun c_28 => ?_)
        · skip
          have i6_t_27 : tq_iv (-2147483648) 0 t_27 := tq_cut (tq_top t_27) (tq_leL c_28 (tq_top t_27) (⟨by decide, by decide⟩ : tq_iv 0 0 0)) (by decide) (by decide)
          exact K_127 _ _ _ _ hS (lv_sub hl [1, 2] rfl)
        · skip
          have i7_t_27 : tq_iv 1 2147483647 t_27 := tq_cut (tq_top t_27) (tq_ltR (tq_nle c_28) (⟨by decide, by decide⟩ : tq_iv 0 0 0) (tq_top t_27)) (by decide) (by decide)
          refine lv_aload_n hx hb dX8_gather_31 rfl (lv_at hl 2 rfl) ?_
          refine gf_RX8_47 hC hS z_h0 dX8_gather_32 (fun t_32 p_32 q_32 => ?_)
          refine lv_iload_n hx hb dX8_gather_35 rfl (lv_at hl 0 rfl) ?_
          refine tq_iald hC hS p_32 rfl (tq_vin i4_t_20 (by decide) (by decide)) dX8_gather_36 (fun t_36 p_36 => ?_)
          have K_45 : ∀ (y0_45 : Int32) (f : Nat → va_E) (H : Heap) (locs : List Loc) (ls : Array Slot), tq_S X Z (tq_A Z) s.heap f0 [] f H locs → tq_iv 0 1 y0_45 → lv_has ls 4 [(2, .int t_20), (1, .int x1_10), (0, .ref h0)] → W p l e R s m args below meth c H locs 0 0 Q (F0 m 45 ls [.int y0_45]) := by
            intro y0_45 f H locs ls  hS i8_y0_45 hl
            refine lv_istore_n (lv' := [(3, .int y0_45), (2, .int t_20), (1, .int x1_10), (0, .ref h0)]) hx hb dX8_gather_45 rfl hl (by decide) rfl (fun ls hl => ?_)
            refine lv_aload_n hx hb dX8_gather_46 rfl (lv_at hl 3 rfl) ?_
            refine gf_RX8_50 hC hS z_h0 dX8_gather_47 (fun t_47 p_47 q_47 => ?_)
            refine lv_iload_n hx hb dX8_gather_50 rfl (lv_at hl 1 rfl) ?_
            refine lv_iload_n hx hb dX8_gather_51 rfl (lv_at hl 0 rfl) ?_
            have K_79 : ∀ (y0_79 : Nat) (y1_79 : Int32) (y2_79 : Int32) (f : Nat → va_E) (H : Heap) (locs : List Loc) (ls : Array Slot), tq_z Z y0_79 (.inr (.inl (1, 64))) → tq_S X Z (tq_A Z) s.heap f0 [] f H locs → tq_iv 0 63 y1_79 → lv_has ls 4 [(3, .int y0_45), (2, .int t_20), (1, .int x1_10), (0, .ref h0)] → W p l e R s m args below meth c H locs 0 0 Q (F0 m 79 ls [.int y2_79, .int y1_79, .ref y0_79]) := by
              intro y0_79 y1_79 y2_79 f H locs ls z_y0_79 hS i9_y1_79 hl
              refine tq_iast hC hS z_y0_79 rfl (tq_vin i9_y1_79 (by decide) (by decide)) trivial dX8_gather_79 (fun f H locs hS k_79 => ?_)
              refine lv_aload_n hx hb dX8_gather_80 rfl (lv_at hl 3 rfl) ?_
              refine gf_RX8_53 hC hS z_h0 dX8_gather_81 (fun t_81 p_81 q_81 => ?_)
              refine lv_iload_n hx hb dX8_gather_84 rfl (lv_at hl 1 rfl) ?_
              refine lv_iload_n hx hb dX8_gather_85 rfl (lv_at hl 0 rfl) ?_
              have K_111 : ∀ (y0_111 : Nat) (y1_111 : Int32) (y2_111 : Int32) (f : Nat → va_E) (H : Heap) (locs : List Loc) (ls : Array Slot), tq_z Z y0_111 (.inr (.inl (1, 64))) → tq_S X Z (tq_A Z) s.heap f0 [] f H locs → tq_iv 0 63 y1_111 → lv_has ls 4 [(2, .int t_20), (1, .int x1_10), (0, .ref h0)] → W p l e R s m args below meth c H locs 0 0 Q (F0 m 111 ls [.int y2_111, .int y1_111, .ref y0_111]) := by
                intro y0_111 y1_111 y2_111 f H locs ls z_y0_111 hS i10_y1_111 hl
                refine tq_iast hC hS z_y0_111 rfl (tq_vin i10_y1_111 (by decide) (by decide)) trivial dX8_gather_111 (fun f H locs hS k_111 => ?_)
                refine lv_aload_n hx hb dX8_gather_112 rfl (lv_at hl 2 rfl) ?_
                refine gf_RX8_47 hC hS z_h0 dX8_gather_113 (fun t_113 p_113 q_113 => ?_)
                refine lv_iload_n hx hb dX8_gather_116 rfl (lv_at hl 0 rfl) ?_
                refine lv_dup2_11 hx hb dX8_gather_117 rfl rfl ?_
                refine tq_iald hC hS p_113 rfl (tq_vin i4_t_20 (by decide) (by decide)) dX8_gather_118 (fun t_118 p_118 => ?_)
                refine lv_aload_n hx hb dX8_gather_119 rfl (lv_at hl 2 rfl) ?_
                refine gf_RX8_29 hC hS z_h0 dX8_gather_120 (fun t_120 p_120 q_120 => ?_)
                refine lv_iload_n hx hb dX8_gather_123 rfl (lv_at hl 1 rfl) ?_
                refine tq_iald hC hS p_120 rfl (tq_vin i3_x1_10 (by decide) (by decide)) dX8_gather_124 (fun t_124 p_124 => ?_)
                refine lv_iadd hx hb dX8_gather_125 ?_
                refine lv_topi (fun t_125 e_125 => ?_)
                refine tq_iast hC hS p_113 rfl (tq_vin i4_t_20 (by decide) (by decide)) trivial dX8_gather_126 (fun f H locs hS k_126 => ?_)
                exact K_127 _ _ _ _ hS (lv_sub hl [1, 2] rfl)
              refine lv_if_eq (tgt := 98) hx hb dX8_gather_86 (by decide) (fun c_86 => ?_) (fun c_86 => ?_)
              · skip
                have i11_y0_45 : tq_iv 0 0 y0_45 := tq_cut i8_y0_45 (tq_eqL c_86 (⟨by decide, by decide⟩ : tq_iv 0 0 0)) (by decide) (by decide)
                refine lv_aload_n hx hb dX8_gather_98 rfl (lv_at hl 3 rfl) ?_
                refine gf_RX8_53 hC hS z_h0 dX8_gather_99 (fun t_99 p_99 q_99 => ?_)
                refine lv_iload_n hx hb dX8_gather_102 rfl (lv_at hl 1 rfl) ?_
                refine tq_iald hC hS p_99 rfl (tq_vin i4_t_20 (by decide) (by decide)) dX8_gather_103 (fun t_103 p_103 => ?_)
                refine lv_aload_n hx hb dX8_gather_104 rfl (lv_at hl 3 rfl) ?_
                refine gf_RX8_35 hC hS z_h0 dX8_gather_105 (fun t_105 p_105 q_105 => ?_)
                refine lv_iload_n hx hb dX8_gather_108 rfl (lv_at hl 2 rfl) ?_
                refine tq_iald hC hS p_105 rfl (tq_vin i3_x1_10 (by decide) (by decide)) dX8_gather_109 (fun t_109 p_109 => ?_)
                refine lv_ior hx hb dX8_gather_110 ?_
                refine lv_topi (fun t_110 e_110 => ?_)
                exact K_111 t_81 t_20 t_110 _ _ _ _ p_81 hS (tq_w i4_t_20 (by decide) (by decide)) (lv_sub hl [1, 2, 3] rfl)
              · skip
                have i12_y0_45 : tq_iv 1 1 y0_45 := tq_w (tq_neLo c_86 i8_y0_45 (⟨by decide, by decide⟩ : tq_iv 0 0 0)) (by decide) (by decide)
                refine lv_aload_n hx hb dX8_gather_89 rfl (lv_at hl 3 rfl) ?_
                refine gf_RX8_35 hC hS z_h0 dX8_gather_90 (fun t_90 p_90 q_90 => ?_)
                refine lv_iload_n hx hb dX8_gather_93 rfl (lv_at hl 2 rfl) ?_
                refine tq_iald hC hS p_90 rfl (tq_vin i3_x1_10 (by decide) (by decide)) dX8_gather_94 (fun t_94 p_94 => ?_)
                refine lv_goto (tgt := 111) hx hb dX8_gather_95 (by decide) ?_
                exact K_111 t_81 t_20 t_94 _ _ _ _ p_81 hS (tq_w i4_t_20 (by decide) (by decide)) (lv_sub hl [1, 2, 3] rfl)
            refine lv_if_eq (tgt := 64) hx hb dX8_gather_52 (by decide) (fun c_52 => ?_) (fun c_52 => ?_)
            · skip
              have i13_y0_45 : tq_iv 0 0 y0_45 := tq_cut i8_y0_45 (tq_eqL c_52 (⟨by decide, by decide⟩ : tq_iv 0 0 0)) (by decide) (by decide)
              refine lv_aload_n hx hb dX8_gather_64 rfl (lv_at hl 3 rfl) ?_
              refine gf_RX8_50 hC hS z_h0 dX8_gather_65 (fun t_65 p_65 q_65 => ?_)
              refine lv_iload_n hx hb dX8_gather_68 rfl (lv_at hl 1 rfl) ?_
              refine tq_iald hC hS p_65 rfl (tq_vin i4_t_20 (by decide) (by decide)) dX8_gather_69 (fun t_69 p_69 => ?_)
              refine lv_aload_n hx hb dX8_gather_70 rfl (lv_at hl 3 rfl) ?_
              refine gf_RX8_32 hC hS z_h0 dX8_gather_71 (fun t_71 p_71 q_71 => ?_)
              refine lv_iload_n hx hb dX8_gather_74 rfl (lv_at hl 2 rfl) ?_
              refine tq_iald hC hS p_71 rfl (tq_vin i3_x1_10 (by decide) (by decide)) dX8_gather_75 (fun t_75 p_75 => ?_)
              refine va_mmin hx hb (hC.1.2.2.1.trans hl.1.symm) hown (hts _ ql_RX8_109) (hts _ qm_min_s) (hts _ qm_i) (hts _ qm_min_c) (Nat.le_trans (by decide) hC.2.2.1) (Nat.le_trans (Nat.le_of_ble_eq_true rfl) hC.2.2.2.1) (Nat.zero_le _) (Nat.zero_le _) dX8_gather_76 ?_
              refine lv_topi (fun t_76 e_76 => ?_)
              exact K_79 t_47 t_20 t_76 _ _ _ _ p_47 hS (tq_w i4_t_20 (by decide) (by decide)) (lv_sub hl [0, 1, 2, 3] rfl)
            · skip
              have i14_y0_45 : tq_iv 1 1 y0_45 := tq_w (tq_neLo c_52 i8_y0_45 (⟨by decide, by decide⟩ : tq_iv 0 0 0)) (by decide) (by decide)
              refine lv_aload_n hx hb dX8_gather_55 rfl (lv_at hl 3 rfl) ?_
              refine gf_RX8_32 hC hS z_h0 dX8_gather_56 (fun t_56 p_56 q_56 => ?_)
              refine lv_iload_n hx hb dX8_gather_59 rfl (lv_at hl 2 rfl) ?_
              refine tq_iald hC hS p_56 rfl (tq_vin i3_x1_10 (by decide) (by decide)) dX8_gather_60 (fun t_60 p_60 => ?_)
              refine lv_goto (tgt := 79) hx hb dX8_gather_61 (by decide) ?_
              exact K_79 t_47 t_20 t_60 _ _ _ _ p_47 hS (tq_w i4_t_20 (by decide) (by decide)) (lv_sub hl [0, 1, 2, 3] rfl)
          refine lv_if_ne (tgt := 44) hx hb dX8_gather_37 (by decide) (fun c_37 => ?_) (fun c_37 => ?_)
          · skip
            refine lv_iconst (v := 0) hx hb dX8_gather_44 (by decide) ?_
            exact K_45 0 _ _ _ _ hS (tq_w (⟨by decide, by decide⟩ : tq_iv 0 0 0) (by decide) (by decide)) (lv_sub hl [0, 1, 2] rfl)
          · skip
            have i15_t_36 : tq_iv 0 0 t_36 := tq_cut (tq_top t_36) (tq_eqL c_37 (⟨by decide, by decide⟩ : tq_iv 0 0 0)) (by decide) (by decide)
            refine lv_iconst (v := 1) hx hb dX8_gather_40 (by decide) ?_
            refine lv_goto (tgt := 45) hx hb dX8_gather_41 (by decide) ?_
            exact K_45 1 _ _ _ _ hS (tq_w (⟨by decide, by decide⟩ : tq_iv 1 1 1) (by decide) (by decide)) (lv_sub hl [0, 1, 2] rfl)
  exact K_10 _ 0 _ _ _ _ hS (tq_w (⟨by decide, by decide⟩ : tq_iv 0 0 0) (by decide) (by decide)) (Nat.lt_succ_self _) (lv_sub hl [0, 1] rfl)
set_option maxHeartbeats 4000000 in
set_option maxRecDepth 100000 in
theorem c_X8_isMarked (l : Launch) (X : tq_X) (Z : tq_Z) (f : Nat → va_E) (h0 : Nat) (z_h0 : tq_z Z h0 (.inl 8)) (x1 : Int32) (x2 : Int32) : tq_M l X Z f [] yX8_isMarked cX8_isMarked 4 (some .boolean) 0 [.ref h0, .int x1, .int x2] (tq_ri 0 1) := by
  refine tq_starti (by decide) (Nat.le_of_ble_eq_true rfl) (fun p e R s m args below meth c Q hC hret hS ls hl => ?_)
  have hC : tq_C p R s m args c X (tq_A Z) RX8 cX8_isMarked 4 0 := hC
  have hx := hC.1.1
  have hb := hC.1.2.1
  have hown := hC.1.2.2.2.1
  have hts := hC.1.2.2.2.2
  have hl : lv_has ls 4 [(0, .ref h0), (1, .int x1), (2, .int x2)] := hl
  generalize hf0 : f = f0 at hret
  have hS : tq_S X Z (tq_A Z) s.heap f0 [] f s.heap [] := hf0 ▸ hS
  refine lv_iload_n hx hb dX8_isMarked_0 rfl (lv_at hl 1 rfl) ?_
  have K_10 : ∀ (f : Nat → va_E) (H : Heap) (locs : List Loc) (ls : Array Slot), tq_S X Z (tq_A Z) s.heap f0 [] f H locs → lv_has ls 4 [] → W p l e R s m args below meth c H locs 0 0 Q (F0 m 10 ls []) := by
    intro f H locs ls  hS hl
    refine lv_iconst (v := 0) hx hb dX8_isMarked_10 (by decide) ?_
    exact hret 0 _ _ _ _ _ (tq_nb (⟨by decide, by decide⟩ : tq_iv 0 0 0) (by decide) (by decide)) ⟨_, rfl, tq_w (⟨by decide, by decide⟩ : tq_iv 0 0 0) (by decide) (by decide)⟩ hS dX8_isMarked_11
  refine lv_if_lt (tgt := 10) hx hb dX8_isMarked_1 (by decide) (fun c_1 => ?_) (fun c_1 => ?_)
  · skip
    have i1_x1 : tq_iv (-2147483648) (-1) x1 := tq_cut (tq_top x1) (tq_ltL c_1 (tq_top x1) (⟨by decide, by decide⟩ : tq_iv 0 0 0)) (by decide) (by decide)
    exact K_10 _ _ _ _ hS (lv_sub hl [] rfl)
  · skip
    have i2_x1 : tq_iv 0 2147483647 x1 := tq_cut (tq_top x1) (tq_leR (tq_nlt c_1) (⟨by decide, by decide⟩ : tq_iv 0 0 0) (tq_top x1)) (by decide) (by decide)
    refine lv_iload_n hx hb dX8_isMarked_4 rfl (lv_at hl 1 rfl) ?_
    refine lv_bipush (v := 10) hx hb dX8_isMarked_5 (by decide) ?_
    refine lv_icmp_lt (tgt := 12) hx hb dX8_isMarked_7 (by decide) (fun c_7 => ?_) (fun c_7 => ?_)
    · skip
      have i3_x1 : tq_iv 0 9 x1 := tq_cut i2_x1 (tq_ltL c_7 i2_x1 (⟨by decide, by decide⟩ : tq_iv 10 10 10)) (by decide) (by decide)
      refine lv_aload_n hx hb dX8_isMarked_12 rfl (lv_at hl 0 rfl) ?_
      refine gf_RX8_22 hC hS z_h0 dX8_isMarked_13 (fun t_13 p_13 q_13 => ?_)
      refine lv_iload_n hx hb dX8_isMarked_16 rfl (lv_at hl 1 rfl) ?_
      refine tq_iald hC hS p_13 rfl (tq_vin i3_x1 (by decide) (by decide)) dX8_isMarked_17 (fun t_17 p_17 => ?_)
      refine lv_iload_n hx hb dX8_isMarked_18 rfl (lv_at hl 2 rfl) ?_
      have K_27 : ∀ (y0_27 : Int32) (f : Nat → va_E) (H : Heap) (locs : List Loc) (ls : Array Slot), tq_S X Z (tq_A Z) s.heap f0 [] f H locs → tq_iv 0 1 y0_27 → lv_has ls 4 [(0, .ref h0), (1, .int x1), (2, .int x2)] → W p l e R s m args below meth c H locs 0 0 Q (F0 m 27 ls [.int y0_27]) := by
        intro y0_27 f H locs ls  hS i4_y0_27 hl
        refine lv_istore_n (lv' := [(3, .int y0_27), (0, .ref h0), (1, .int x1), (2, .int x2)]) hx hb dX8_isMarked_27 rfl hl (by decide) rfl (fun ls hl => ?_)
        refine lv_aload_n hx hb dX8_isMarked_28 rfl (lv_at hl 1 rfl) ?_
        refine gf_RX8_22 hC hS z_h0 dX8_isMarked_29 (fun t_29 p_29 q_29 => ?_)
        refine lv_iload_n hx hb dX8_isMarked_32 rfl (lv_at hl 2 rfl) ?_
        refine lv_iload_n hx hb dX8_isMarked_33 rfl (lv_at hl 3 rfl) ?_
        refine tq_iast hC hS p_29 rfl (tq_vin i3_x1 (by decide) (by decide)) trivial dX8_isMarked_34 (fun f H locs hS k_34 => ?_)
        refine lv_iload_n hx hb dX8_isMarked_35 rfl (lv_at hl 0 rfl) ?_
        exact hret y0_27 _ _ _ _ _ (tq_nb i4_y0_27 (by decide) (by decide)) ⟨_, rfl, tq_w i4_y0_27 (by decide) (by decide)⟩ hS dX8_isMarked_36
      refine lv_icmp_ne (tgt := 26) hx hb dX8_isMarked_19 (by decide) (fun c_19 => ?_) (fun c_19 => ?_)
      · skip
        refine lv_iconst (v := 0) hx hb dX8_isMarked_26 (by decide) ?_
        exact K_27 0 _ _ _ _ hS (tq_w (⟨by decide, by decide⟩ : tq_iv 0 0 0) (by decide) (by decide)) (lv_sub hl [0, 1, 2] rfl)
      · skip
        refine lv_iconst (v := 1) hx hb dX8_isMarked_22 (by decide) ?_
        refine lv_goto (tgt := 27) hx hb dX8_isMarked_23 (by decide) ?_
        exact K_27 1 _ _ _ _ hS (tq_w (⟨by decide, by decide⟩ : tq_iv 1 1 1) (by decide) (by decide)) (lv_sub hl [0, 1, 2] rfl)
    · skip
      have i5_x1 : tq_iv 10 2147483647 x1 := tq_cut i2_x1 (tq_leR (tq_nlt c_7) (⟨by decide, by decide⟩ : tq_iv 10 10 10) i2_x1) (by decide) (by decide)
      exact K_10 _ _ _ _ hS (lv_sub hl [] rfl)
set_option maxHeartbeats 4000000 in
set_option maxRecDepth 100000 in
theorem c_X8_take (l : Launch) (X : tq_X) (Z : tq_Z) (f : Nat → va_E) (h0 : Nat) (z_h0 : tq_z Z h0 (.inl 8)) (h1 : Nat) (z_h1 : tq_z Z h1 (.inl 7)) : tq_M l X Z f [(8, 4), (8, 5), (8, 6), (8, 7), (8, 8), (8, 9)] yX8_take cX8_take 4 (none) 3 [.ref h0, .ref h1] tq_rv := by
  refine tq_startv (by decide) (Nat.le_of_ble_eq_true rfl) (fun p e R s m args below meth c Q hC hret hS ls hl => ?_)
  have hC : tq_C p R s m args c X (tq_A Z) RX8 cX8_take 4 3 := hC
  have hx := hC.1.1
  have hb := hC.1.2.1
  have hown := hC.1.2.2.2.1
  have hts := hC.1.2.2.2.2
  have hl : lv_has ls 4 [(0, .ref h0), (1, .ref h1)] := hl
  generalize hf0 : f = f0 at hret
  have hS : tq_S X Z (tq_A Z) s.heap f0 [(8, 4), (8, 5), (8, 6), (8, 7), (8, 8), (8, 9)] f s.heap [] := hf0 ▸ hS
  refine lv_aload_n hx hb dX8_take_0 rfl (lv_at hl 0 rfl) ?_
  refine lv_iconst (v := 0) hx hb dX8_take_1 (by decide) ?_
  refine lv_aload_n hx hb dX8_take_2 rfl (lv_at hl 0 rfl) ?_
  refine gf_RX8_21 hC hS z_h0 dX8_take_3 (fun t_3 p_3 q_3 => ?_)
  refine gf_RX8_56 hC hS p_3 dX8_take_6 (fun t_6 p_6 q_6 => ?_)
  refine tq_callVi (As := [.int 0, .int t_6]) (rest := []) hC (c_X8_isMarked l X Z _ h0 z_h0 0 t_6) k_X8_isMarked ql_RX8_62 (by decide) rfl (by decide) hS z_h0 rfl hl.1 rfl (Nat.le_of_ble_eq_true rfl) ⟨Nat.zero_le _, Nat.zero_le _⟩ dX8_take_9 (fun t_9 f1_9 H locs p_9 hS k_9 => ?_)
  refine lv_aload_n hx hb dX8_take_12 rfl (lv_at hl 0 rfl) ?_
  refine lv_iconst (v := 1) hx hb dX8_take_13 (by decide) ?_
  refine lv_aload_n hx hb dX8_take_14 rfl (lv_at hl 0 rfl) ?_
  refine gf_RX8_21 hC hS z_h0 dX8_take_15 (fun t_15 p_15 q_15 => ?_)
  refine gf_RX8_66 hC hS p_15 dX8_take_18 (fun t_18 p_18 q_18 => ?_)
  refine tq_callVi (As := [.int 1, .int t_18]) (rest := [.int t_9]) hC (c_X8_isMarked l X Z _ h0 z_h0 1 t_18) k_X8_isMarked ql_RX8_62 (by decide) rfl (by decide) hS z_h0 rfl hl.1 rfl (Nat.le_of_ble_eq_true rfl) ⟨Nat.zero_le _, Nat.zero_le _⟩ dX8_take_21 (fun t_21 f1_21 H locs p_21 hS k_21 => ?_)
  refine lv_iand hx hb dX8_take_24 ?_
  refine lv_topi (fun t_24 e_24 => ?_)
  have i1_t_24 : tq_iv 0 1 t_24 := tq_and1 e_24 p_9 (by decide)
  refine lv_aload_n hx hb dX8_take_25 rfl (lv_at hl 0 rfl) ?_
  refine lv_iconst (v := 2) hx hb dX8_take_26 (by decide) ?_
  refine lv_aload_n hx hb dX8_take_27 rfl (lv_at hl 0 rfl) ?_
  refine gf_RX8_21 hC hS z_h0 dX8_take_28 (fun t_28 p_28 q_28 => ?_)
  refine gf_RX8_69 hC hS p_28 dX8_take_31 (fun t_31 p_31 q_31 => ?_)
  refine tq_callVi (As := [.int 2, .int t_31]) (rest := [.int t_24]) hC (c_X8_isMarked l X Z _ h0 z_h0 2 t_31) k_X8_isMarked ql_RX8_62 (by decide) rfl (by decide) hS z_h0 rfl hl.1 rfl (Nat.le_of_ble_eq_true rfl) ⟨Nat.zero_le _, Nat.zero_le _⟩ dX8_take_34 (fun t_34 f1_34 H locs p_34 hS k_34 => ?_)
  refine lv_iand hx hb dX8_take_37 ?_
  refine lv_topi (fun t_37 e_37 => ?_)
  have i2_t_37 : tq_iv 0 1 t_37 := tq_and1 e_37 i1_t_24 (by decide)
  refine lv_aload_n hx hb dX8_take_38 rfl (lv_at hl 0 rfl) ?_
  refine lv_iconst (v := 3) hx hb dX8_take_39 (by decide) ?_
  refine lv_aload_n hx hb dX8_take_40 rfl (lv_at hl 0 rfl) ?_
  refine gf_RX8_9 hC hS z_h0 dX8_take_41 (fun t_41 p_41 q_41 => ?_)
  refine gf_RX8_72 hC hS p_41 dX8_take_44 (fun t_44 p_44 q_44 => ?_)
  refine tq_callVi (As := [.int 3, .int t_44]) (rest := [.int t_37]) hC (c_X8_isMarked l X Z _ h0 z_h0 3 t_44) k_X8_isMarked ql_RX8_62 (by decide) rfl (by decide) hS z_h0 rfl hl.1 rfl (Nat.le_of_ble_eq_true rfl) ⟨Nat.zero_le _, Nat.zero_le _⟩ dX8_take_47 (fun t_47 f1_47 H locs p_47 hS k_47 => ?_)
  refine lv_iand hx hb dX8_take_50 ?_
  refine lv_topi (fun t_50 e_50 => ?_)
  have i3_t_50 : tq_iv 0 1 t_50 := tq_and1 e_50 i2_t_37 (by decide)
  refine lv_istore_n (lv' := [(2, .int t_50), (0, .ref h0), (1, .ref h1)]) hx hb dX8_take_51 rfl hl (by decide) rfl (fun ls hl => ?_)
  refine lv_iconst (v := 0) hx hb dX8_take_52 (by decide) ?_
  refine lv_istore_n (lv' := [(3, .int 0), (2, .int t_50), (0, .ref h0), (1, .ref h1)]) hx hb dX8_take_53 rfl hl (by decide) rfl (fun ls hl => ?_)
  have K_54 : ∀ (n_54 : Nat) (x3_54 : Int32) (x2_54 : Int32) (f : Nat → va_E) (H : Heap) (locs : List Loc) (ls : Array Slot), tq_S X Z (tq_A Z) s.heap f0 [(8, 4), (8, 5), (8, 6), (8, 7), (8, 8), (8, 9)] f H locs → tq_iv 0 1 x2_54 → tq_iv 0 6 x3_54 → (2147483647 - x3_54.toInt).toNat < n_54 → lv_has ls 4 [(3, .int x3_54), (2, .int x2_54), (0, .ref h0), (1, .ref h1)] → W p l e R s m args below meth c H locs 0 0 Q (F0 m 54 ls []) := by
    intro n_54
    induction n_54 with
    | zero => intro x3_54 x2_54 f H locs ls  hS i4_x2_54 i5_x3_54 hn_54; exact absurd hn_54 (Nat.not_lt_zero _)
    | succ n_54 ih_54 =>
      intro x3_54 x2_54 f H locs ls  hS i4_x2_54 i5_x3_54 hn_54 hl
      refine lv_iload_n hx hb dX8_take_54 rfl (lv_at hl 0 rfl) ?_
      refine lv_bipush (v := 6) hx hb dX8_take_55 (by decide) ?_
      refine lv_icmp_ge (tgt := 81) hx hb dX8_take_57 (by decide) (fun c_57 => ?_) (fun c_57 => ?_)
      · skip
        have i6_x3_54 : tq_iv 6 6 x3_54 := tq_cut i5_x3_54 (tq_leR c_57 (⟨by decide, by decide⟩ : tq_iv 6 6 6) i5_x3_54) (by decide) (by decide)
        refine lv_iload_n hx hb dX8_take_81 rfl (lv_at hl 1 rfl) ?_
        refine lv_if_eq (tgt := 86) hx hb dX8_take_82 (by decide) (fun c_82 => ?_) (fun c_82 => ?_)
        · skip
          have i7_x2_54 : tq_iv 0 0 x2_54 := tq_cut i4_x2_54 (tq_eqL c_82 (⟨by decide, by decide⟩ : tq_iv 0 0 0)) (by decide) (by decide)
          refine lv_aload_n hx hb dX8_take_86 rfl (lv_at hl 2 rfl) ?_
          refine gf_RX8_38 hC hS z_h0 dX8_take_87 (fun t_87 p_87 q_87 => ?_)
          refine lv_iconst (v := 0) hx hb dX8_take_90 (by decide) ?_
          refine tq_callSv (As := [.ref t_87, .int 0]) (rest := []) hC (c_J7_fill_53178_1_384 l X Z _ t_87 p_87 0) k_J7_fill_53178 ql_RX8_81 (by decide) rfl (by decide) hS hl.1 rfl (Nat.le_of_ble_eq_true rfl) ⟨Nat.zero_le _, Nat.zero_le _⟩ dX8_take_91 (fun f1_91 H locs hS k_91 => ?_)
          refine lv_aload_n hx hb dX8_take_94 rfl (lv_at hl 2 rfl) ?_
          refine lv_iconst (v := 0) hx hb dX8_take_95 (by decide) ?_
          refine lv_aload_n hx hb dX8_take_96 rfl (lv_at hl 3 rfl) ?_
          refine tq_callVv (As := [.int 0, .ref h1]) (rest := []) hC (c_X8_allowIn l X Z _ h0 z_h0 0 h1 z_h1) k_X8_allowIn ql_RX8_87 (by decide) rfl (by decide) hS z_h0 rfl hl.1 rfl (Nat.le_of_ble_eq_true rfl) ⟨Nat.zero_le _, Nat.zero_le _⟩ dX8_take_97 (fun f1_97 H locs hS k_97 => ?_)
          refine lv_iconst (v := 0) hx hb dX8_take_100 (by decide) ?_
          refine lv_istore_n (lv' := [(3, .int 0), (2, .int x2_54), (0, .ref h0), (1, .ref h1)]) hx hb dX8_take_101 rfl hl (by decide) rfl (fun ls hl => ?_)
          have K_102 : ∀ (n_102 : Nat) (x3_102 : Int32) (f : Nat → va_E) (H : Heap) (locs : List Loc) (ls : Array Slot), tq_S X Z (tq_A Z) s.heap f0 [(8, 4), (8, 5), (8, 6), (8, 7), (8, 8), (8, 9)] f H locs → tq_iv 0 6 x3_102 → (2147483647 - x3_102.toInt).toNat < n_102 → lv_has ls 4 [(3, .int x3_102), (0, .ref h0), (1, .ref h1)] → W p l e R s m args below meth c H locs 0 0 Q (F0 m 102 ls []) := by
            intro n_102
            induction n_102 with
            | zero => intro x3_102 f H locs ls  hS i8_x3_102 hn_102; exact absurd hn_102 (Nat.not_lt_zero _)
            | succ n_102 ih_102 =>
              intro x3_102 f H locs ls  hS i8_x3_102 hn_102 hl
              refine lv_iload_n hx hb dX8_take_102 rfl (lv_at hl 0 rfl) ?_
              refine lv_aload_n hx hb dX8_take_103 rfl (lv_at hl 1 rfl) ?_
              refine gf_RX8_21 hC hS z_h0 dX8_take_104 (fun t_104 p_104 q_104 => ?_)
              refine gf_RX8_66 hC hS p_104 dX8_take_107 (fun t_107 p_107 q_107 => ?_)
              have K_143 : ∀ (f : Nat → va_E) (H : Heap) (locs : List Loc) (ls : Array Slot), tq_S X Z (tq_A Z) s.heap f0 [(8, 4), (8, 5), (8, 6), (8, 7), (8, 8), (8, 9)] f H locs → lv_has ls 4 [(0, .ref h0), (1, .ref h1)] → W p l e R s m args below meth c H locs 0 0 Q (F0 m 143 ls []) := by
                intro f H locs ls  hS hl
                refine lv_aload_n hx hb dX8_take_143 rfl (lv_at hl 0 rfl) ?_
                refine tq_callVv (As := []) (rest := []) hC (c_X8_changeOver l X Z _ h0 z_h0) k_X8_changeOver ql_RX8_99 (by decide) rfl (by decide) hS z_h0 rfl hl.1 rfl (Nat.le_of_ble_eq_true rfl) ⟨Nat.zero_le _, Nat.zero_le _⟩ dX8_take_144 (fun f1_144 H locs hS k_144 => ?_)
                refine lv_iconst (v := 1) hx hb dX8_take_147 (by decide) ?_
                refine lv_istore_n (lv' := [(3, .int 1), (0, .ref h0), (1, .ref h1)]) hx hb dX8_take_148 rfl hl (by decide) rfl (fun ls hl => ?_)
                have K_149 : ∀ (n_149 : Nat) (x3_149 : Int32) (f : Nat → va_E) (H : Heap) (locs : List Loc) (ls : Array Slot), tq_S X Z (tq_A Z) s.heap f0 [(8, 4), (8, 5), (8, 6), (8, 7), (8, 8), (8, 9)] f H locs → tq_iv 1 999 x3_149 → (2147483647 - x3_149.toInt).toNat < n_149 → lv_has ls 4 [(3, .int x3_149), (0, .ref h0), (1, .ref h1)] → W p l e R s m args below meth c H locs 0 0 Q (F0 m 149 ls []) := by
                  intro n_149
                  induction n_149 with
                  | zero => intro x3_149 f H locs ls  hS i9_x3_149 hn_149; exact absurd hn_149 (Nat.not_lt_zero _)
                  | succ n_149 ih_149 =>
                    intro x3_149 f H locs ls  hS i9_x3_149 hn_149 hl
                    refine lv_iload_n hx hb dX8_take_149 rfl (lv_at hl 0 rfl) ?_
                    refine lv_aload_n hx hb dX8_take_150 rfl (lv_at hl 1 rfl) ?_
                    refine gf_RX8_21 hC hS z_h0 dX8_take_151 (fun t_151 p_151 q_151 => ?_)
                    refine gf_RX8_56 hC hS p_151 dX8_take_154 (fun t_154 p_154 q_154 => ?_)
                    refine lv_icmp_ge (tgt := 177) hx hb dX8_take_157 (by decide) (fun c_157 => ?_) (fun c_157 => ?_)
                    · skip
                      refine lv_aload_n hx hb dX8_take_177 rfl (lv_at hl 1 rfl) ?_
                      refine tq_callVv (As := []) (rest := []) hC (c_X8_gather l X Z _ h0 z_h0) k_X8_gather ql_RX8_106 (by decide) rfl (by decide) hS z_h0 rfl hl.1 rfl (Nat.le_of_ble_eq_true rfl) ⟨Nat.zero_le _, Nat.zero_le _⟩ dX8_take_178 (fun f1_178 H locs hS k_178 => ?_)
                      exact hret _ _ _ _ _ rfl hS dX8_take_181
                    · skip
                      have i10_x3_149 : tq_iv 1 998 x3_149 := tq_cut i9_x3_149 (tq_ltL (tq_nle c_157) i9_x3_149 p_154) (by decide) (by decide)
                      have i11_t_154 : tq_iv 2 999 t_154 := tq_cut p_154 (tq_ltR (tq_nle c_157) i9_x3_149 p_154) (by decide) (by decide)
                      refine lv_aload_n hx hb dX8_take_160 rfl (lv_at hl 1 rfl) ?_
                      refine lv_iload_n hx hb dX8_take_161 rfl (lv_at hl 0 rfl) ?_
                      refine lv_aload_n hx hb dX8_take_162 rfl (lv_at hl 2 rfl) ?_
                      refine tq_callVv (As := [.int x3_149, .ref h1]) (rest := []) hC (c_X8_allowIn l X Z _ h0 z_h0 x3_149 h1 z_h1) k_X8_allowIn ql_RX8_87 (by decide) rfl (by decide) hS z_h0 rfl hl.1 rfl (Nat.le_of_ble_eq_true rfl) ⟨Nat.zero_le _, Nat.zero_le _⟩ dX8_take_163 (fun f1_163 H locs hS k_163 => ?_)
                      refine lv_aload_n hx hb dX8_take_166 rfl (lv_at hl 1 rfl) ?_
                      refine lv_iload_n hx hb dX8_take_167 rfl (lv_at hl 0 rfl) ?_
                      refine tq_callVv (As := [.int x3_149]) (rest := []) hC (c_X8_addChamber l X Z _ h0 z_h0 x3_149) k_X8_addChamber ql_RX8_102 (by decide) rfl (by decide) hS z_h0 rfl hl.1 rfl (Nat.le_of_ble_eq_true rfl) ⟨Nat.zero_le _, Nat.zero_le _⟩ dX8_take_168 (fun f1_168 H locs hS k_168 => ?_)
                      obtain ⟨t_171, e_171⟩ : ∃ y : Int32, y = x3_149 + 1 := ⟨_, rfl⟩
                      have i12_t_171 : tq_iv 2 999 t_171 := tq_w (tq_add e_171 i10_x3_149 (⟨by decide, by decide⟩ : tq_iv 1 1 1) (by decide) (by decide)) (by decide) (by decide)
                      refine lv_iinc (v := t_171) (lv' := [(3, .int t_171), (0, .ref h0), (1, .ref h1)]) hx hb dX8_take_171 hl (k := 0) rfl (by rw [e_171]; rfl) (by decide) rfl (fun ls hl => ?_)
                      refine lv_goto (tgt := 149) hx hb dX8_take_174 (by decide) ?_
                      exact ih_149 t_171 _ _ _ _ hS (tq_w i12_t_171 (by decide) (by decide)) (tq_up e_171 i10_x3_149 (⟨by decide, by decide⟩ : tq_iv 1 1 1) (by decide) (by decide) hn_149) (lv_sub hl [0, 1, 2] rfl)
                exact K_149 _ 1 _ _ _ _ hS (tq_w (⟨by decide, by decide⟩ : tq_iv 1 1 1) (by decide) (by decide)) (Nat.lt_succ_self _) (lv_sub hl [0, 1, 2] rfl)
              refine lv_icmp_ge (tgt := 143) hx hb dX8_take_110 (by decide) (fun c_110 => ?_) (fun c_110 => ?_)
              · skip
                have i13_t_107 : tq_iv 0 6 t_107 := tq_cut p_107 (tq_leL c_110 p_107 i8_x3_102) (by decide) (by decide)
                exact K_143 _ _ _ _ hS (lv_sub hl [1, 2] rfl)
              · skip
                have i14_t_107 : tq_iv 1 999 t_107 := tq_cut p_107 (tq_ltR (tq_nle c_110) i8_x3_102 p_107) (by decide) (by decide)
                refine lv_iload_n hx hb dX8_take_113 rfl (lv_at hl 0 rfl) ?_
                refine lv_bipush (v := 6) hx hb dX8_take_114 (by decide) ?_
                refine lv_icmp_ge (tgt := 143) hx hb dX8_take_116 (by decide) (fun c_116 => ?_) (fun c_116 => ?_)
                · skip
                  have i15_x3_102 : tq_iv 6 6 x3_102 := tq_cut i8_x3_102 (tq_leR c_116 (⟨by decide, by decide⟩ : tq_iv 6 6 6) i8_x3_102) (by decide) (by decide)
                  exact K_143 _ _ _ _ hS (lv_sub hl [1, 2] rfl)
                · skip
                  have i16_x3_102 : tq_iv 0 5 x3_102 := tq_cut i8_x3_102 (tq_ltL (tq_nle c_116) i8_x3_102 (⟨by decide, by decide⟩ : tq_iv 6 6 6)) (by decide) (by decide)
                  refine lv_aload_n hx hb dX8_take_119 rfl (lv_at hl 1 rfl) ?_
                  refine lv_iload_n hx hb dX8_take_120 rfl (lv_at hl 0 rfl) ?_
                  refine lv_aload_n hx hb dX8_take_121 rfl (lv_at hl 1 rfl) ?_
                  refine gf_RX8_26 hC hS z_h0 dX8_take_122 (fun t_122 p_122 q_122 => ?_)
                  refine lv_iload_n hx hb dX8_take_125 rfl (lv_at hl 0 rfl) ?_
                  refine tq_iald hC hS p_122 rfl (tq_vin i16_x3_102 (by decide) (by decide)) dX8_take_126 (fun t_126 p_126 => ?_)
                  refine lv_iconst (v := 1) hx hb dX8_take_127 (by decide) ?_
                  refine lv_iload_n hx hb dX8_take_128 rfl (lv_at hl 0 rfl) ?_
                  refine lv_iconst (v := 0) hx hb dX8_take_129 (by decide) ?_
                  refine lv_iload_n hx hb dX8_take_130 rfl (lv_at hl 0 rfl) ?_
                  refine tq_callSpi (As := [.int 0, .int x3_102]) (rest := [.int x3_102, .int 1, .int t_126, .int x3_102, .ref h0]) hC (c_X6_notch l X Z _ 0 x3_102) k_X6_notch ql_RX8_91 rfl (by decide) hS hl.1 rfl (Nat.le_of_ble_eq_true rfl) ⟨Nat.zero_le _, Nat.zero_le _⟩ dX8_take_131 (fun t_131 p_131 => ?_)
                  refine tq_callVv (As := [.int x3_102, .int t_126, .int 1, .int x3_102, .int t_131]) (rest := []) hC (c_X8_add l X Z _ h0 z_h0 x3_102 t_126 1 x3_102 t_131) k_X8_add ql_RX8_95 (by decide) rfl (by decide) hS z_h0 rfl hl.1 rfl (Nat.le_of_ble_eq_true rfl) ⟨Nat.zero_le _, Nat.zero_le _⟩ dX8_take_134 (fun f1_134 H locs hS k_134 => ?_)
                  obtain ⟨t_137, e_137⟩ : ∃ y : Int32, y = x3_102 + 1 := ⟨_, rfl⟩
                  have i17_t_137 : tq_iv 1 6 t_137 := tq_w (tq_add e_137 i16_x3_102 (⟨by decide, by decide⟩ : tq_iv 1 1 1) (by decide) (by decide)) (by decide) (by decide)
                  refine lv_iinc (v := t_137) (lv' := [(3, .int t_137), (0, .ref h0), (1, .ref h1)]) hx hb dX8_take_137 hl (k := 0) rfl (by rw [e_137]; rfl) (by decide) rfl (fun ls hl => ?_)
                  refine lv_goto (tgt := 102) hx hb dX8_take_140 (by decide) ?_
                  exact ih_102 t_137 _ _ _ _ hS (tq_w i17_t_137 (by decide) (by decide)) (tq_up e_137 i16_x3_102 (⟨by decide, by decide⟩ : tq_iv 1 1 1) (by decide) (by decide) hn_102) (lv_sub hl [0, 1, 2] rfl)
          exact K_102 _ 0 _ _ _ _ hS (tq_w (⟨by decide, by decide⟩ : tq_iv 0 0 0) (by decide) (by decide)) (Nat.lt_succ_self _) (lv_sub hl [0, 2, 3] rfl)
        · skip
          have i18_x2_54 : tq_iv 1 1 x2_54 := tq_w (tq_neLo c_82 i4_x2_54 (⟨by decide, by decide⟩ : tq_iv 0 0 0)) (by decide) (by decide)
          exact hret _ _ _ _ _ rfl hS dX8_take_85
      · skip
        have i19_x3_54 : tq_iv 0 5 x3_54 := tq_cut i5_x3_54 (tq_ltL (tq_nle c_57) i5_x3_54 (⟨by decide, by decide⟩ : tq_iv 6 6 6)) (by decide) (by decide)
        refine lv_iload_n hx hb dX8_take_60 rfl (lv_at hl 1 rfl) ?_
        refine lv_aload_n hx hb dX8_take_61 rfl (lv_at hl 2 rfl) ?_
        refine lv_iconst (v := 4) hx hb dX8_take_62 (by decide) ?_
        refine lv_iload_n hx hb dX8_take_63 rfl (lv_at hl 0 rfl) ?_
        refine lv_iadd hx hb dX8_take_64 ?_
        refine lv_topi (fun t_64 e_64 => ?_)
        have i20_t_64 : tq_iv 4 9 t_64 := tq_w (tq_add e_64 (⟨by decide, by decide⟩ : tq_iv 4 4 4) i19_x3_54 (by decide) (by decide)) (by decide) (by decide)
        refine lv_aload_n hx hb dX8_take_65 rfl (lv_at hl 3 rfl) ?_
        refine lv_iload_n hx hb dX8_take_66 rfl (lv_at hl 0 rfl) ?_
        refine tq_callVpi (As := [.int x3_54]) (rest := [.int t_64, .ref h0, .int x2_54]) hC (c_X7_pins l X Z _ h1 z_h1 x3_54) k_X7_pins ql_RX8_75 rfl (by decide) hS z_h1 rfl hl.1 rfl (Nat.le_of_ble_eq_true rfl) ⟨Nat.zero_le _, Nat.zero_le _⟩ dX8_take_67 (fun t_67 p_67 => ?_)
        refine tq_callVi (As := [.int t_64, .int t_67]) (rest := [.int x2_54]) hC (c_X8_isMarked l X Z _ h0 z_h0 t_64 t_67) k_X8_isMarked ql_RX8_62 (by decide) rfl (by decide) hS z_h0 rfl hl.1 rfl (Nat.le_of_ble_eq_true rfl) ⟨Nat.zero_le _, Nat.zero_le _⟩ dX8_take_70 (fun t_70 f1_70 H locs p_70 hS k_70 => ?_)
        refine lv_iand hx hb dX8_take_73 ?_
        refine lv_topi (fun t_73 e_73 => ?_)
        have i21_t_73 : tq_iv 0 1 t_73 := tq_and1 e_73 i4_x2_54 (by decide)
        refine lv_istore_n (lv' := [(2, .int t_73), (3, .int x3_54), (0, .ref h0), (1, .ref h1)]) hx hb dX8_take_74 rfl hl (by decide) rfl (fun ls hl => ?_)
        obtain ⟨t_75, e_75⟩ : ∃ y : Int32, y = x3_54 + 1 := ⟨_, rfl⟩
        have i22_t_75 : tq_iv 1 6 t_75 := tq_w (tq_add e_75 i19_x3_54 (⟨by decide, by decide⟩ : tq_iv 1 1 1) (by decide) (by decide)) (by decide) (by decide)
        refine lv_iinc (v := t_75) (lv' := [(3, .int t_75), (2, .int t_73), (0, .ref h0), (1, .ref h1)]) hx hb dX8_take_75 hl (k := 1) rfl (by rw [e_75]; rfl) (by decide) rfl (fun ls hl => ?_)
        refine lv_goto (tgt := 54) hx hb dX8_take_78 (by decide) ?_
        exact ih_54 t_75 t_73 _ _ _ _ hS (tq_w i21_t_73 (by decide) (by decide)) (tq_w i22_t_75 (by decide) (by decide)) (tq_up e_75 i19_x3_54 (⟨by decide, by decide⟩ : tq_iv 1 1 1) (by decide) (by decide) hn_54) (lv_sub hl [0, 1, 2, 3] rfl)
  exact K_54 _ 0 t_50 _ _ _ _ hS (tq_w i3_t_50 (by decide) (by decide)) (tq_w (⟨by decide, by decide⟩ : tq_iv 0 0 0) (by decide) (by decide)) (Nat.lt_succ_self _) (lv_sub hl [0, 1, 2, 3] rfl)
set_option maxHeartbeats 4000000 in
set_option maxRecDepth 100000 in
theorem c_X8_total (l : Launch) (X : tq_X) (Z : tq_Z) (f : Nat → va_E) (h0 : Nat) (z_h0 : tq_z Z h0 (.inl 8)) (x1 : Int32) (x2 : Int32) : tq_Mp l X Z f yX8_total cX8_total 5 (some .int) 1 [.ref h0, .int x1, .int x2] (tq_ri (-2147483648) 2147483647) := by
  refine tq_startip (by decide) (Nat.le_of_ble_eq_true rfl) (fun p e R s m args below meth c Q hC hret hS ls hl => ?_)
  have hC : tq_C p R s m args c X (tq_A Z) RX8 cX8_total 5 1 := hC
  have hx := hC.1.1
  have hb := hC.1.2.1
  have hown := hC.1.2.2.2.1
  have hts := hC.1.2.2.2.2
  have hl : lv_has ls 5 [(0, .ref h0), (1, .int x1), (2, .int x2)] := hl
  refine lv_iconst (v := 0) hx hb dX8_total_0 (by decide) ?_
  refine lv_istore_n (lv' := [(3, .int 0), (0, .ref h0), (1, .int x1), (2, .int x2)]) hx hb dX8_total_1 rfl hl (by decide) rfl (fun ls hl => ?_)
  refine lv_iconst (v := 0) hx hb dX8_total_2 (by decide) ?_
  refine lv_istore (lv' := [(4, .int 0), (3, .int 0), (0, .ref h0), (1, .int x1), (2, .int x2)]) hx hb dX8_total_3 hl (by decide) rfl (fun ls hl => ?_)
  have K_5 : ∀ (n_5 : Nat) (x4_5 : Int32) (x3_5 : Int32) (ls : Array Slot), tq_iv 0 64 x4_5 → (2147483647 - x4_5.toInt).toNat < n_5 → lv_has ls 5 [(4, .int x4_5), (3, .int x3_5), (0, .ref h0), (1, .int x1), (2, .int x2)] → W p l e R s m args below meth c s.heap [] 0 0 Q (F0 m 5 ls []) := by
    intro n_5
    induction n_5 with
    | zero => intro x4_5 x3_5 ls  i1_x4_5 hn_5; exact absurd hn_5 (Nat.not_lt_zero _)
    | succ n_5 ih_5 =>
      intro x4_5 x3_5 ls  i1_x4_5 hn_5 hl
      refine lv_iload hx hb dX8_total_5 (lv_at hl 0 rfl) ?_
      refine lv_bipush (v := 64) hx hb dX8_total_7 (by decide) ?_
      refine lv_icmp_ge (tgt := 39) hx hb dX8_total_9 (by decide) (fun c_9 => ?_) (fun c_9 => ?_)
      · skip
        have i2_x4_5 : tq_iv 64 64 x4_5 := tq_cut i1_x4_5 (tq_leR c_9 (⟨by decide, by decide⟩ : tq_iv 64 64 64) i1_x4_5) (by decide) (by decide)
        refine lv_iload_n hx hb dX8_total_39 rfl (lv_at hl 1 rfl) ?_
        exact hret x3_5 _ _ rfl ⟨_, rfl, tq_w (tq_top x3_5) (by decide) (by decide)⟩ dX8_total_40
      · skip
        have i3_x4_5 : tq_iv 0 63 x4_5 := tq_cut i1_x4_5 (tq_ltL (tq_nle c_9) i1_x4_5 (⟨by decide, by decide⟩ : tq_iv 64 64 64)) (by decide) (by decide)
        refine lv_aload_n hx hb dX8_total_12 rfl (lv_at hl 2 rfl) ?_
        refine lv_iload hx hb dX8_total_13 (lv_at hl 0 rfl) ?_
        refine lv_iload_n hx hb dX8_total_15 rfl (lv_at hl 3 rfl) ?_
        refine lv_iload_n hx hb dX8_total_16 rfl (lv_at hl 4 rfl) ?_
        refine tq_callVpi (As := [.int x4_5, .int x1, .int x2]) (rest := []) hC (c_X8_isSuch l X Z _ h0 z_h0 x4_5 (tq_w i3_x4_5 (by decide) (by decide)) x1 x2) k_X8_isSuch ql_RX8_120 rfl (by decide) hS z_h0 rfl hl.1 rfl (Nat.le_of_ble_eq_true rfl) ⟨Nat.zero_le _, Nat.zero_le _⟩ dX8_total_17 (fun t_17 p_17 => ?_)
        have K_33 : ∀ (x3_33 : Int32) (ls : Array Slot), lv_has ls 5 [(4, .int x4_5), (3, .int x3_33), (0, .ref h0), (1, .int x1), (2, .int x2)] → W p l e R s m args below meth c s.heap [] 0 0 Q (F0 m 33 ls []) := by
          intro x3_33 ls  hl
          obtain ⟨t_33, e_33⟩ : ∃ y : Int32, y = x4_5 + 1 := ⟨_, rfl⟩
          have i4_t_33 : tq_iv 1 64 t_33 := tq_w (tq_add e_33 i3_x4_5 (⟨by decide, by decide⟩ : tq_iv 1 1 1) (by decide) (by decide)) (by decide) (by decide)
          refine lv_iinc (v := t_33) (lv' := [(4, .int t_33), (3, .int x3_33), (0, .ref h0), (1, .int x1), (2, .int x2)]) hx hb dX8_total_33 hl (k := 0) rfl (by rw [e_33]; rfl) (by decide) rfl (fun ls hl => ?_)
          refine lv_goto (tgt := 5) hx hb dX8_total_36 (by decide) ?_
          exact ih_5 t_33 x3_33 _ (tq_w i4_t_33 (by decide) (by decide)) (tq_up e_33 i3_x4_5 (⟨by decide, by decide⟩ : tq_iv 1 1 1) (by decide) (by decide) hn_5) (lv_sub hl [0, 1, 2, 3, 4] rfl)
        refine lv_if_eq (tgt := 33) hx hb dX8_total_20 (by decide) (fun c_20 => ?_) (fun c_20 => ?_)
        · skip
          have i5_t_17 : tq_iv 0 0 t_17 := tq_cut p_17 (tq_eqL c_20 (⟨by decide, by decide⟩ : tq_iv 0 0 0)) (by decide) (by decide)
          exact K_33 x3_5 _ (lv_sub hl [0, 1, 2, 3, 4] rfl)
        · skip
          have i6_t_17 : tq_iv 1 1 t_17 := tq_w (tq_neLo c_20 p_17 (⟨by decide, by decide⟩ : tq_iv 0 0 0)) (by decide) (by decide)
          refine lv_iload_n hx hb dX8_total_23 rfl (lv_at hl 1 rfl) ?_
          refine lv_aload_n hx hb dX8_total_24 rfl (lv_at hl 2 rfl) ?_
          refine gf_RX8_47 hC hS z_h0 dX8_total_25 (fun t_25 p_25 q_25 => ?_)
          refine lv_iload hx hb dX8_total_28 (lv_at hl 0 rfl) ?_
          refine tq_iald hC hS p_25 rfl (tq_vin i3_x4_5 (by decide) (by decide)) dX8_total_30 (fun t_30 p_30 => ?_)
          refine lv_iadd hx hb dX8_total_31 ?_
          refine lv_topi (fun t_31 e_31 => ?_)
          refine lv_istore_n (lv' := [(3, .int t_31), (4, .int x4_5), (0, .ref h0), (1, .int x1), (2, .int x2)]) hx hb dX8_total_32 rfl hl (by decide) rfl (fun ls hl => ?_)
          exact K_33 t_31 _ (lv_sub hl [1, 0, 2, 3, 4] rfl)
  exact K_5 _ 0 0 _ (tq_w (⟨by decide, by decide⟩ : tq_iv 0 0 0) (by decide) (by decide)) (Nat.lt_succ_self _) (lv_sub hl [0, 1, 2, 3, 4] rfl)
set_option maxHeartbeats 4000000 in
set_option maxRecDepth 100000 in
theorem c_X11_common (l : Launch) (X : tq_X) (Z : tq_Z) (f : Nat → va_E) (h0 : Nat) (z_h0 : tq_z Z h0 (.inl 11)) (x1 : Int32) (x2 : Int32) : tq_M l X Z f [(8, 4), (8, 5), (8, 6), (8, 7), (8, 8), (8, 9)] yX11_common cX11_common 3 (some .int) 4 [.ref h0, .int x1, .int x2] (tq_ri (-2147483648) 2147483647) := by
  refine tq_starti (by decide) (Nat.le_of_ble_eq_true rfl) (fun p e R s m args below meth c Q hC hret hS ls hl => ?_)
  have hC : tq_C p R s m args c X (tq_A Z) RX11 cX11_common 3 4 := hC
  have hx := hC.1.1
  have hb := hC.1.2.1
  have hown := hC.1.2.2.2.1
  have hts := hC.1.2.2.2.2
  have hl : lv_has ls 3 [(0, .ref h0), (1, .int x1), (2, .int x2)] := hl
  generalize hf0 : f = f0 at hret
  have hS : tq_S X Z (tq_A Z) s.heap f0 [(8, 4), (8, 5), (8, 6), (8, 7), (8, 8), (8, 9)] f s.heap [] := hf0 ▸ hS
  refine lv_aload_n hx hb dX11_common_0 rfl (lv_at hl 0 rfl) ?_
  refine gf_RX11_29 hC hS z_h0 dX11_common_1 (fun t_1 p_1 q_1 => ?_)
  refine lv_iload_n hx hb dX11_common_4 rfl (lv_at hl 1 rfl) ?_
  refine tq_callVpi (As := [.int x1]) (rest := []) hC (c_X3_hasLocks l X Z _ t_1 p_1 x1) k_X3_hasLocks ql_RX11_322 rfl (by decide) hS p_1 rfl hl.1 rfl (Nat.le_of_ble_eq_true rfl) ⟨Nat.zero_le _, Nat.zero_le _⟩ dX11_common_5 (fun t_5 p_5 => ?_)
  refine lv_if_ne (tgt := 13) hx hb dX11_common_8 (by decide) (fun c_8 => ?_) (fun c_8 => ?_)
  · skip
    have i1_t_5 : tq_iv 1 1 t_5 := tq_w (tq_neLo c_8 p_5 (⟨by decide, by decide⟩ : tq_iv 0 0 0)) (by decide) (by decide)
    refine lv_aload_n hx hb dX11_common_13 rfl (lv_at hl 0 rfl) ?_
    refine gf_RX11_67 hC hS z_h0 dX11_common_14 (fun t_14 p_14 q_14 => ?_)
    refine lv_aload_n hx hb dX11_common_17 rfl (lv_at hl 0 rfl) ?_
    refine gf_RX11_41 hC hS z_h0 dX11_common_18 (fun t_18 p_18 q_18 => ?_)
    refine tq_callVv (As := [.ref t_18]) (rest := []) hC (c_X8_take l X Z _ t_14 p_14 t_18 p_18) k_X8_take ql_RX11_325 (by decide) rfl (by decide) hS p_14 rfl hl.1 rfl (Nat.le_of_ble_eq_true rfl) ⟨Nat.zero_le _, Nat.zero_le _⟩ dX11_common_21 (fun f1_21 H locs hS k_21 => ?_)
    refine lv_iload_n hx hb dX11_common_24 rfl (lv_at hl 2 rfl) ?_
    by_cases s_25_0 : Int32.toInt x2 = 0
    · refine lv_lookup (tgt := 52) hx hb dX11_common_25 (by decide) (by first | (rw [s_25_0]; done) | (rw [s_25_0]; rfl)) (by decide) ?_
      refine lv_aload_n hx hb dX11_common_52 rfl (lv_at hl 0 rfl) ?_
      refine gf_RX11_67 hC hS z_h0 dX11_common_53 (fun t_53 p_53 q_53 => ?_)
      refine lv_iload_n hx hb dX11_common_56 rfl (lv_at hl 1 rfl) ?_
      refine lv_iconst (v := 0) hx hb dX11_common_57 (by decide) ?_
      refine tq_callVpi (As := [.int x1, .int 0]) (rest := []) hC (c_X8_total l X Z _ t_53 p_53 x1 0) k_X8_total ql_RX11_328 rfl (by decide) hS p_53 rfl hl.1 rfl (Nat.le_of_ble_eq_true rfl) ⟨Nat.zero_le _, Nat.zero_le _⟩ dX11_common_58 (fun t_58 p_58 => ?_)
      exact hret t_58 _ _ _ _ _ rfl ⟨_, rfl, tq_w (tq_top t_58) (by decide) (by decide)⟩ hS dX11_common_61
    by_cases s_25_1 : Int32.toInt x2 = 1
    · refine lv_lookup (tgt := 62) hx hb dX11_common_25 (by decide) (by first | (rw [s_25_1]; done) | (rw [s_25_1]; rfl)) (by decide) ?_
      refine lv_aload_n hx hb dX11_common_62 rfl (lv_at hl 0 rfl) ?_
      refine gf_RX11_67 hC hS z_h0 dX11_common_63 (fun t_63 p_63 q_63 => ?_)
      refine lv_iload_n hx hb dX11_common_66 rfl (lv_at hl 1 rfl) ?_
      refine lv_iconst (v := 0) hx hb dX11_common_67 (by decide) ?_
      refine tq_callVpi (As := [.int x1, .int 0]) (rest := []) hC (c_X8_leastNumber l X Z _ t_63 p_63 x1 0) k_X8_leastNumber ql_RX11_331 rfl (by decide) hS p_63 rfl hl.1 rfl (Nat.le_of_ble_eq_true rfl) ⟨Nat.zero_le _, Nat.zero_le _⟩ dX11_common_68 (fun t_68 p_68 => ?_)
      exact hret t_68 _ _ _ _ _ rfl ⟨_, rfl, tq_w (tq_top t_68) (by decide) (by decide)⟩ hS dX11_common_71
    refine lv_lookup (off := 47) (tgt := 72) hx hb dX11_common_25 (by decide) (by simp only [Op.lookupswitch.offset_cons, Op.lookupswitch.offset_nil]; rw [if_neg (fun q => s_25_0 q.symm), if_neg (fun q => s_25_1 q.symm)]) (by decide) ?_
    refine lv_iconst (v := -1) hx hb dX11_common_72 (by decide) ?_
    exact hret (-1) _ _ _ _ _ rfl ⟨_, rfl, tq_w (⟨by decide, by decide⟩ : tq_iv (-1) (-1) (-1)) (by decide) (by decide)⟩ hS dX11_common_73
  · skip
    have i2_t_5 : tq_iv 0 0 t_5 := tq_cut p_5 (tq_eqL c_8 (⟨by decide, by decide⟩ : tq_iv 0 0 0)) (by decide) (by decide)
    refine lv_iconst (v := -1) hx hb dX11_common_11 (by decide) ?_
    exact hret (-1) _ _ _ _ _ rfl ⟨_, rfl, tq_w (⟨by decide, by decide⟩ : tq_iv (-1) (-1) (-1)) (by decide) (by decide)⟩ hS dX11_common_12
set_option maxHeartbeats 4000000 in
set_option maxRecDepth 100000 in
theorem c_X8_isBetter (l : Launch) (X : tq_X) (Z : tq_Z) (f : Nat → va_E) (h0 : Nat) (z_h0 : tq_z Z h0 (.inl 8)) (x1 : Int32) (i_x1 : tq_iv 0 63 x1) (x2 : Int32) (i_x2 : tq_iv 0 63 x2) : tq_Mp l X Z f yX8_isBetter cX8_isBetter 4 (some .boolean) 1 [.ref h0, .int x1, .int x2] (tq_ri 0 1) := by
  refine tq_startip (by decide) (Nat.le_of_ble_eq_true rfl) (fun p e R s m args below meth c Q hC hret hS ls hl => ?_)
  have hC : tq_C p R s m args c X (tq_A Z) RX8 cX8_isBetter 4 1 := hC
  have hx := hC.1.1
  have hb := hC.1.2.1
  have hown := hC.1.2.2.2.1
  have hts := hC.1.2.2.2.2
  have hl : lv_has ls 4 [(0, .ref h0), (1, .int x1), (2, .int x2)] := hl
  refine lv_iload_n hx hb dX8_isBetter_0 rfl (lv_at hl 1 rfl) ?_
  refine tq_callSpi (As := [.int x1]) (rest := []) hC (c_J6_bitCount_0f7a4 l X Z _ x1) k_J6_bitCount_0f7a4 ql_RX8_130 rfl (by decide) hS hl.1 rfl (Nat.le_of_ble_eq_true rfl) ⟨Nat.zero_le _, Nat.zero_le _⟩ dX8_isBetter_1 (fun t_1 p_1 => ?_)
  refine lv_iload_n hx hb dX8_isBetter_4 rfl (lv_at hl 2 rfl) ?_
  refine tq_callSpi (As := [.int x2]) (rest := [.int t_1]) hC (c_J6_bitCount_0f7a4 l X Z _ x2) k_J6_bitCount_0f7a4 ql_RX8_130 rfl (by decide) hS hl.1 rfl (Nat.le_of_ble_eq_true rfl) ⟨Nat.zero_le _, Nat.zero_le _⟩ dX8_isBetter_5 (fun t_5 p_5 => ?_)
  refine lv_isub hx hb dX8_isBetter_8 ?_
  refine lv_topi (fun t_8 e_8 => ?_)
  have i1_t_8 : tq_iv (-63) 63 t_8 := tq_w (tq_sub e_8 p_1 p_5 (by decide) (by decide)) (by decide) (by decide)
  refine lv_istore_n (lv' := [(3, .int t_8), (0, .ref h0), (1, .int x1), (2, .int x2)]) hx hb dX8_isBetter_9 rfl hl (by decide) rfl (fun ls hl => ?_)
  refine lv_iload_n hx hb dX8_isBetter_10 rfl (lv_at hl 0 rfl) ?_
  have K_38 : ∀ (y0_38 : Int32) (ls : Array Slot), tq_iv 0 1 y0_38 → lv_has ls 4 [] → W p l e R s m args below meth c s.heap [] 0 0 Q (F0 m 38 ls [.int y0_38]) := by
    intro y0_38 ls  i2_y0_38 hl
    exact hret y0_38 _ _ (tq_nb i2_y0_38 (by decide) (by decide)) ⟨_, rfl, tq_w i2_y0_38 (by decide) (by decide)⟩ dX8_isBetter_38
  have K_33 : ∀ (ls : Array Slot), tq_iv 0 63 t_8 → lv_has ls 4 [] → W p l e R s m args below meth c s.heap [] 0 0 Q (F0 m 33 ls []) := by
    intro  ls  i3_t_8 hl
    refine lv_iconst (v := 1) hx hb dX8_isBetter_33 (by decide) ?_
    refine lv_goto (tgt := 38) hx hb dX8_isBetter_34 (by decide) ?_
    exact K_38 1 _ (tq_w (⟨by decide, by decide⟩ : tq_iv 1 1 1) (by decide) (by decide)) (lv_sub hl [] rfl)
  refine lv_if_gt (tgt := 33) hx hb dX8_isBetter_11 (by decide) (fun c_11 => ?_) (fun c_11 => ?_)
  · skip
    have i4_t_8 : tq_iv 1 63 t_8 := tq_cut i1_t_8 (tq_ltR c_11 (⟨by decide, by decide⟩ : tq_iv 0 0 0) i1_t_8) (by decide) (by decide)
    exact K_33 _ (tq_w i4_t_8 (by decide) (by decide)) (lv_sub hl [] rfl)
  · skip
    have i5_t_8 : tq_iv (-63) 0 t_8 := tq_cut i1_t_8 (tq_leL (tq_nlt c_11) i1_t_8 (⟨by decide, by decide⟩ : tq_iv 0 0 0)) (by decide) (by decide)
    refine lv_iload_n hx hb dX8_isBetter_14 rfl (lv_at hl 0 rfl) ?_
    have K_37 : ∀ (ls : Array Slot), lv_has ls 4 [] → W p l e R s m args below meth c s.heap [] 0 0 Q (F0 m 37 ls []) := by
      intro  ls  hl
      refine lv_iconst (v := 0) hx hb dX8_isBetter_37 (by decide) ?_
      exact K_38 0 _ (tq_w (⟨by decide, by decide⟩ : tq_iv 0 0 0) (by decide) (by decide)) (lv_sub hl [] rfl)
    refine lv_if_ne (tgt := 37) hx hb dX8_isBetter_15 (by decide) (fun c_15 => ?_) (fun c_15 => ?_)
    · skip
      have i6_t_8 : tq_iv (-63) (-1) t_8 := tq_w (tq_neHi c_15 i5_t_8 (⟨by decide, by decide⟩ : tq_iv 0 0 0)) (by decide) (by decide)
      exact K_37 _ (lv_sub hl [] rfl)
    · skip
      have i7_t_8 : tq_iv 0 0 t_8 := tq_cut i5_t_8 (tq_eqL c_15 (⟨by decide, by decide⟩ : tq_iv 0 0 0)) (by decide) (by decide)
      refine lv_aload_n hx hb dX8_isBetter_18 rfl (lv_at hl 1 rfl) ?_
      refine gf_RX8_50 hC hS z_h0 dX8_isBetter_19 (fun t_19 p_19 q_19 => ?_)
      refine lv_iload_n hx hb dX8_isBetter_22 rfl (lv_at hl 2 rfl) ?_
      refine tq_iald hC hS p_19 rfl (tq_vin i_x1 (by decide) (by decide)) dX8_isBetter_23 (fun t_23 p_23 => ?_)
      refine lv_aload_n hx hb dX8_isBetter_24 rfl (lv_at hl 1 rfl) ?_
      refine gf_RX8_50 hC hS z_h0 dX8_isBetter_25 (fun t_25 p_25 q_25 => ?_)
      refine lv_iload_n hx hb dX8_isBetter_28 rfl (lv_at hl 3 rfl) ?_
      refine tq_iald hC hS p_25 rfl (tq_vin i_x2 (by decide) (by decide)) dX8_isBetter_29 (fun t_29 p_29 => ?_)
      refine lv_icmp_ge (tgt := 37) hx hb dX8_isBetter_30 (by decide) (fun c_30 => ?_) (fun c_30 => ?_)
      · skip
        exact K_37 _ (lv_sub hl [] rfl)
      · skip
        have i8_t_23 : tq_iv (-2147483648) 2147483646 t_23 := tq_cut (tq_top t_23) (tq_ltL (tq_nle c_30) (tq_top t_23) (tq_top t_29)) (by decide) (by decide)
        have i9_t_29 : tq_iv (-2147483647) 2147483647 t_29 := tq_cut (tq_top t_29) (tq_ltR (tq_nle c_30) (tq_top t_23) (tq_top t_29)) (by decide) (by decide)
        exact K_33 _ (tq_w i7_t_8 (by decide) (by decide)) (lv_sub hl [] rfl)
set_option maxHeartbeats 4000000 in
set_option maxRecDepth 100000 in
theorem c_X8_masterLocks (l : Launch) (X : tq_X) (Z : tq_Z) (f : Nat → va_E) (h0 : Nat) (z_h0 : tq_z Z h0 (.inl 8)) : tq_Mp l X Z f yX8_masterLocks cX8_masterLocks 3 (some .int) 2 [.ref h0] (tq_ri 0 63) := by
  refine tq_startip (by decide) (Nat.le_of_ble_eq_true rfl) (fun p e R s m args below meth c Q hC hret hS ls hl => ?_)
  have hC : tq_C p R s m args c X (tq_A Z) RX8 cX8_masterLocks 3 2 := hC
  have hx := hC.1.1
  have hb := hC.1.2.1
  have hown := hC.1.2.2.2.1
  have hts := hC.1.2.2.2.2
  have hl : lv_has ls 3 [(0, .ref h0)] := hl
  refine lv_iconst (v := -1) hx hb dX8_masterLocks_0 (by decide) ?_
  refine lv_istore_n (lv' := [(1, .int (-1)), (0, .ref h0)]) hx hb dX8_masterLocks_1 rfl hl (by decide) rfl (fun ls hl => ?_)
  refine lv_iconst (v := 0) hx hb dX8_masterLocks_2 (by decide) ?_
  refine lv_istore_n (lv' := [(2, .int 0), (1, .int (-1)), (0, .ref h0)]) hx hb dX8_masterLocks_3 rfl hl (by decide) rfl (fun ls hl => ?_)
  have K_4 : ∀ (n_4 : Nat) (x2_4 : Int32) (x1_4 : Int32) (ls : Array Slot), tq_iv (-1) 63 x1_4 → tq_iv 0 64 x2_4 → (2147483647 - x2_4.toInt).toNat < n_4 → lv_has ls 3 [(2, .int x2_4), (1, .int x1_4), (0, .ref h0)] → W p l e R s m args below meth c s.heap [] 0 0 Q (F0 m 4 ls []) := by
    intro n_4
    induction n_4 with
    | zero => intro x2_4 x1_4 ls  i1_x1_4 i2_x2_4 hn_4; exact absurd hn_4 (Nat.not_lt_zero _)
    | succ n_4 ih_4 =>
      intro x2_4 x1_4 ls  i1_x1_4 i2_x2_4 hn_4 hl
      refine lv_iload_n hx hb dX8_masterLocks_4 rfl (lv_at hl 0 rfl) ?_
      refine lv_bipush (v := 64) hx hb dX8_masterLocks_5 (by decide) ?_
      refine lv_icmp_ge (tgt := 42) hx hb dX8_masterLocks_7 (by decide) (fun c_7 => ?_) (fun c_7 => ?_)
      · skip
        have i3_x2_4 : tq_iv 64 64 x2_4 := tq_cut i2_x2_4 (tq_leR c_7 (⟨by decide, by decide⟩ : tq_iv 64 64 64) i2_x2_4) (by decide) (by decide)
        refine lv_iconst (v := 0) hx hb dX8_masterLocks_42 (by decide) ?_
        refine lv_iload_n hx hb dX8_masterLocks_43 rfl (lv_at hl 1 rfl) ?_
        refine va_mmax hx hb (hC.1.2.2.1.trans hl.1.symm) hown (hts _ ql_RX8_127) (hts _ qm_max_s) (hts _ qm_i) (hts _ qm_max_c) (Nat.le_trans (by decide) hC.2.2.1) (Nat.le_trans (Nat.le_of_ble_eq_true rfl) hC.2.2.2.1) (Nat.zero_le _) (Nat.zero_le _) dX8_masterLocks_44 ?_
        refine lv_topi (fun t_44 e_44 => ?_)
        have i4_t_44 : tq_iv 0 63 t_44 := tq_w (tq_max e_44 (⟨by decide, by decide⟩ : tq_iv 0 0 0) i1_x1_4) (by decide) (by decide)
        exact hret t_44 _ _ rfl ⟨_, rfl, tq_w i4_t_44 (by decide) (by decide)⟩ dX8_masterLocks_47
      · skip
        have i5_x2_4 : tq_iv 0 63 x2_4 := tq_cut i2_x2_4 (tq_ltL (tq_nle c_7) i2_x2_4 (⟨by decide, by decide⟩ : tq_iv 64 64 64)) (by decide) (by decide)
        refine lv_aload_n hx hb dX8_masterLocks_10 rfl (lv_at hl 2 rfl) ?_
        refine lv_iload_n hx hb dX8_masterLocks_11 rfl (lv_at hl 0 rfl) ?_
        refine lv_iconst (v := 0) hx hb dX8_masterLocks_12 (by decide) ?_
        refine lv_iconst (v := 0) hx hb dX8_masterLocks_13 (by decide) ?_
        refine tq_callVpi (As := [.int x2_4, .int 0, .int 0]) (rest := []) hC (c_X8_isSuch l X Z _ h0 z_h0 x2_4 (tq_w i5_x2_4 (by decide) (by decide)) 0 0) k_X8_isSuch ql_RX8_120 rfl (by decide) hS z_h0 rfl hl.1 rfl (Nat.le_of_ble_eq_true rfl) ⟨Nat.zero_le _, Nat.zero_le _⟩ dX8_masterLocks_14 (fun t_14 p_14 => ?_)
        have K_36 : ∀ (x1_36 : Int32) (ls : Array Slot), tq_iv (-1) 63 x1_36 → lv_has ls 3 [(2, .int x2_4), (1, .int x1_36), (0, .ref h0)] → W p l e R s m args below meth c s.heap [] 0 0 Q (F0 m 36 ls []) := by
          intro x1_36 ls  i6_x1_36 hl
          obtain ⟨t_36, e_36⟩ : ∃ y : Int32, y = x2_4 + 1 := ⟨_, rfl⟩
          have i7_t_36 : tq_iv 1 64 t_36 := tq_w (tq_add e_36 i5_x2_4 (⟨by decide, by decide⟩ : tq_iv 1 1 1) (by decide) (by decide)) (by decide) (by decide)
          refine lv_iinc (v := t_36) (lv' := [(2, .int t_36), (1, .int x1_36), (0, .ref h0)]) hx hb dX8_masterLocks_36 hl (k := 0) rfl (by rw [e_36]; rfl) (by decide) rfl (fun ls hl => ?_)
          refine lv_goto (tgt := 4) hx hb dX8_masterLocks_39 (by decide) ?_
          exact ih_4 t_36 x1_36 _ (tq_w i6_x1_36 (by decide) (by decide)) (tq_w i7_t_36 (by decide) (by decide)) (tq_up e_36 i5_x2_4 (⟨by decide, by decide⟩ : tq_iv 1 1 1) (by decide) (by decide) hn_4) (lv_sub hl [0, 1, 2] rfl)
        refine lv_if_eq (tgt := 36) hx hb dX8_masterLocks_17 (by decide) (fun c_17 => ?_) (fun c_17 => ?_)
        · skip
          have i8_t_14 : tq_iv 0 0 t_14 := tq_cut p_14 (tq_eqL c_17 (⟨by decide, by decide⟩ : tq_iv 0 0 0)) (by decide) (by decide)
          exact K_36 x1_4 _ (tq_w i1_x1_4 (by decide) (by decide)) (lv_sub hl [0, 1, 2] rfl)
        · skip
          have i9_t_14 : tq_iv 1 1 t_14 := tq_w (tq_neLo c_17 p_14 (⟨by decide, by decide⟩ : tq_iv 0 0 0)) (by decide) (by decide)
          refine lv_iload_n hx hb dX8_masterLocks_20 rfl (lv_at hl 1 rfl) ?_
          refine lv_iconst (v := -1) hx hb dX8_masterLocks_21 (by decide) ?_
          have K_34 : ∀ (ls : Array Slot), lv_has ls 3 [(2, .int x2_4), (0, .ref h0)] → W p l e R s m args below meth c s.heap [] 0 0 Q (F0 m 34 ls []) := by
            intro  ls  hl
            refine lv_iload_n hx hb dX8_masterLocks_34 rfl (lv_at hl 0 rfl) ?_
            refine lv_istore_n (lv' := [(1, .int x2_4), (2, .int x2_4), (0, .ref h0)]) hx hb dX8_masterLocks_35 rfl hl (by decide) rfl (fun ls hl => ?_)
            exact K_36 x2_4 _ (tq_w i5_x2_4 (by decide) (by decide)) (lv_sub hl [1, 0, 2] rfl)
          refine lv_icmp_eq (tgt := 34) hx hb dX8_masterLocks_22 (by decide) (fun c_22 => ?_) (fun c_22 => ?_)
          · skip
            have i10_x1_4 : tq_iv (-1) (-1) x1_4 := tq_cut i1_x1_4 (tq_eqL c_22 (⟨by decide, by decide⟩ : tq_iv (-1) (-1) (-1))) (by decide) (by decide)
            exact K_34 _ (lv_sub hl [0, 2] rfl)
          · skip
            have i11_x1_4 : tq_iv 0 63 x1_4 := tq_w (tq_neLo c_22 i1_x1_4 (⟨by decide, by decide⟩ : tq_iv (-1) (-1) (-1))) (by decide) (by decide)
            refine lv_aload_n hx hb dX8_masterLocks_25 rfl (lv_at hl 2 rfl) ?_
            refine lv_iload_n hx hb dX8_masterLocks_26 rfl (lv_at hl 0 rfl) ?_
            refine lv_iload_n hx hb dX8_masterLocks_27 rfl (lv_at hl 1 rfl) ?_
            refine tq_callVpi (As := [.int x2_4, .int x1_4]) (rest := []) hC (c_X8_isBetter l X Z _ h0 z_h0 x2_4 (tq_w i5_x2_4 (by decide) (by decide)) x1_4 (tq_w i11_x1_4 (by decide) (by decide))) k_X8_isBetter ql_RX8_124 rfl (by decide) hS z_h0 rfl hl.1 rfl (Nat.le_of_ble_eq_true rfl) ⟨Nat.zero_le _, Nat.zero_le _⟩ dX8_masterLocks_28 (fun t_28 p_28 => ?_)
            refine lv_if_eq (tgt := 36) hx hb dX8_masterLocks_31 (by decide) (fun c_31 => ?_) (fun c_31 => ?_)
            · skip
              have i12_t_28 : tq_iv 0 0 t_28 := tq_cut p_28 (tq_eqL c_31 (⟨by decide, by decide⟩ : tq_iv 0 0 0)) (by decide) (by decide)
              exact K_36 x1_4 _ (tq_w i11_x1_4 (by decide) (by decide)) (lv_sub hl [0, 1, 2] rfl)
            · skip
              have i13_t_28 : tq_iv 1 1 t_28 := tq_w (tq_neLo c_31 p_28 (⟨by decide, by decide⟩ : tq_iv 0 0 0)) (by decide) (by decide)
              exact K_34 _ (lv_sub hl [0, 2] rfl)
  exact K_4 _ 0 (-1) _ (tq_w (⟨by decide, by decide⟩ : tq_iv (-1) (-1) (-1)) (by decide) (by decide)) (tq_w (⟨by decide, by decide⟩ : tq_iv 0 0 0) (by decide) (by decide)) (Nat.lt_succ_self _) (lv_sub hl [0, 1, 2] rfl)
set_option maxHeartbeats 4000000 in
set_option maxRecDepth 100000 in
theorem c_X11_master (l : Launch) (X : tq_X) (Z : tq_Z) (f : Nat → va_E) (h0 : Nat) (z_h0 : tq_z Z h0 (.inl 11)) (x1 : Int32) : tq_M l X Z f [(8, 4), (8, 5), (8, 6), (8, 7), (8, 8), (8, 9)] yX11_master cX11_master 3 (some .int) 4 [.ref h0, .int x1] (tq_ri (-2147483648) 2147483647) := by
  refine tq_starti (by decide) (Nat.le_of_ble_eq_true rfl) (fun p e R s m args below meth c Q hC hret hS ls hl => ?_)
  have hC : tq_C p R s m args c X (tq_A Z) RX11 cX11_master 3 4 := hC
  have hx := hC.1.1
  have hb := hC.1.2.1
  have hown := hC.1.2.2.2.1
  have hts := hC.1.2.2.2.2
  have hl : lv_has ls 3 [(0, .ref h0), (1, .int x1)] := hl
  generalize hf0 : f = f0 at hret
  have hS : tq_S X Z (tq_A Z) s.heap f0 [(8, 4), (8, 5), (8, 6), (8, 7), (8, 8), (8, 9)] f s.heap [] := hf0 ▸ hS
  refine lv_aload_n hx hb dX11_master_0 rfl (lv_at hl 0 rfl) ?_
  refine gf_RX11_67 hC hS z_h0 dX11_master_1 (fun t_1 p_1 q_1 => ?_)
  refine lv_aload_n hx hb dX11_master_4 rfl (lv_at hl 0 rfl) ?_
  refine gf_RX11_41 hC hS z_h0 dX11_master_5 (fun t_5 p_5 q_5 => ?_)
  refine tq_callVv (As := [.ref t_5]) (rest := []) hC (c_X8_take l X Z _ t_1 p_1 t_5 p_5) k_X8_take ql_RX11_325 (by decide) rfl (by decide) hS p_1 rfl hl.1 rfl (Nat.le_of_ble_eq_true rfl) ⟨Nat.zero_le _, Nat.zero_le _⟩ dX11_master_8 (fun f1_8 H locs hS k_8 => ?_)
  refine lv_aload_n hx hb dX11_master_11 rfl (lv_at hl 0 rfl) ?_
  refine gf_RX11_67 hC hS z_h0 dX11_master_12 (fun t_12 p_12 q_12 => ?_)
  refine tq_callVpi (As := []) (rest := []) hC (c_X8_masterLocks l X Z _ t_12 p_12) k_X8_masterLocks ql_RX11_334 rfl (by decide) hS p_12 rfl hl.1 rfl (Nat.le_of_ble_eq_true rfl) ⟨Nat.zero_le _, Nat.zero_le _⟩ dX11_master_15 (fun t_15 p_15 => ?_)
  refine lv_istore_n (lv' := [(2, .int t_15), (0, .ref h0), (1, .int x1)]) hx hb dX11_master_18 rfl hl (by decide) rfl (fun ls hl => ?_)
  refine lv_iload_n hx hb dX11_master_19 rfl (lv_at hl 2 rfl) ?_
  by_cases s_20_0 : Int32.toInt x1 = 0
  · refine lv_tableIn (tgt := 48) hx hb dX11_master_20 (by omega) (by omega) (by first | (rw [s_20_0]; done) | (rw [s_20_0]; rfl)) (by decide) ?_
    have i1_x1 : tq_iv 0 0 x1 := ⟨by omega, by omega⟩
    refine lv_aload_n hx hb dX11_master_48 rfl (lv_at hl 1 rfl) ?_
    refine gf_RX11_67 hC hS z_h0 dX11_master_49 (fun t_49 p_49 q_49 => ?_)
    refine lv_iload_n hx hb dX11_master_52 rfl (lv_at hl 0 rfl) ?_
    refine lv_iconst (v := 0) hx hb dX11_master_53 (by decide) ?_
    refine tq_callVpi (As := [.int t_15, .int 0]) (rest := []) hC (c_X8_leastNumber l X Z _ t_49 p_49 t_15 0) k_X8_leastNumber ql_RX11_331 rfl (by decide) hS p_49 rfl hl.1 rfl (Nat.le_of_ble_eq_true rfl) ⟨Nat.zero_le _, Nat.zero_le _⟩ dX11_master_54 (fun t_54 p_54 => ?_)
    exact hret t_54 _ _ _ _ _ rfl ⟨_, rfl, tq_w (tq_top t_54) (by decide) (by decide)⟩ hS dX11_master_57
  by_cases s_20_1 : Int32.toInt x1 = 1
  · refine lv_tableIn (tgt := 58) hx hb dX11_master_20 (by omega) (by omega) (by first | (rw [s_20_1]; done) | (rw [s_20_1]; rfl)) (by decide) ?_
    have i2_x1 : tq_iv 1 1 x1 := ⟨by omega, by omega⟩
    refine lv_iload_n hx hb dX11_master_58 rfl (lv_at hl 0 rfl) ?_
    refine tq_callSpi (As := [.int t_15]) (rest := []) hC (c_J6_bitCount_0f7a4 l X Z _ t_15) k_J6_bitCount_0f7a4 ql_RX11_171 rfl (by decide) hS hl.1 rfl (Nat.le_of_ble_eq_true rfl) ⟨Nat.zero_le _, Nat.zero_le _⟩ dX11_master_59 (fun t_59 p_59 => ?_)
    exact hret t_59 _ _ _ _ _ rfl ⟨_, rfl, tq_w p_59 (by decide) (by decide)⟩ hS dX11_master_62
  by_cases s_20_2 : Int32.toInt x1 = 2
  · refine lv_tableIn (tgt := 63) hx hb dX11_master_20 (by omega) (by omega) (by first | (rw [s_20_2]; done) | (rw [s_20_2]; rfl)) (by decide) ?_
    have i3_x1 : tq_iv 2 2 x1 := ⟨by omega, by omega⟩
    refine lv_iload_n hx hb dX11_master_63 rfl (lv_at hl 0 rfl) ?_
    exact hret t_15 _ _ _ _ _ rfl ⟨_, rfl, tq_w p_15 (by decide) (by decide)⟩ hS dX11_master_64
  refine lv_tableOut (tgt := 65) hx hb dX11_master_20 (by omega) (by decide) ?_
  refine lv_iconst (v := -1) hx hb dX11_master_65 (by decide) ?_
  exact hret (-1) _ _ _ _ _ rfl ⟨_, rfl, tq_w (⟨by decide, by decide⟩ : tq_iv (-1) (-1) (-1)) (by decide) (by decide)⟩ hS dX11_master_66
set_option maxHeartbeats 4000000 in
set_option maxRecDepth 100000 in
theorem c_X11_cutFor (l : Launch) (X : tq_X) (Z : tq_Z) (f : Nat → va_E) (h0 : Nat) (z_h0 : tq_z Z h0 (.inl 11)) (x1 : Int32) (x2 : Int32) : tq_M l X Z f [(8, 4), (8, 5), (8, 6), (8, 7), (8, 8), (8, 9)] yX11_cutFor cX11_cutFor 3 (some .int) 4 [.ref h0, .int x1, .int x2] (tq_ri (-2147483648) 2147483647) := by
  refine tq_starti (by decide) (Nat.le_of_ble_eq_true rfl) (fun p e R s m args below meth c Q hC hret hS ls hl => ?_)
  have hC : tq_C p R s m args c X (tq_A Z) RX11 cX11_cutFor 3 4 := hC
  have hx := hC.1.1
  have hb := hC.1.2.1
  have hown := hC.1.2.2.2.1
  have hts := hC.1.2.2.2.2
  have hl : lv_has ls 3 [(0, .ref h0), (1, .int x1), (2, .int x2)] := hl
  generalize hf0 : f = f0 at hret
  have hS : tq_S X Z (tq_A Z) s.heap f0 [(8, 4), (8, 5), (8, 6), (8, 7), (8, 8), (8, 9)] f s.heap [] := hf0 ▸ hS
  refine lv_aload_n hx hb dX11_cutFor_0 rfl (lv_at hl 0 rfl) ?_
  refine gf_RX11_29 hC hS z_h0 dX11_cutFor_1 (fun t_1 p_1 q_1 => ?_)
  refine lv_iload_n hx hb dX11_cutFor_4 rfl (lv_at hl 1 rfl) ?_
  refine tq_callVpi (As := [.int x1]) (rest := []) hC (c_X3_hasLocks l X Z _ t_1 p_1 x1) k_X3_hasLocks ql_RX11_322 rfl (by decide) hS p_1 rfl hl.1 rfl (Nat.le_of_ble_eq_true rfl) ⟨Nat.zero_le _, Nat.zero_le _⟩ dX11_cutFor_5 (fun t_5 p_5 => ?_)
  have K_22 : ∀ (f : Nat → va_E) (H : Heap) (locs : List Loc) (ls : Array Slot), tq_S X Z (tq_A Z) s.heap f0 [(8, 4), (8, 5), (8, 6), (8, 7), (8, 8), (8, 9)] f H locs → lv_has ls 3 [] → W p l e R s m args below meth c H locs 0 0 Q (F0 m 22 ls []) := by
    intro f H locs ls  hS hl
    refine lv_iconst (v := -1) hx hb dX11_cutFor_22 (by decide) ?_
    exact hret (-1) _ _ _ _ _ rfl ⟨_, rfl, tq_w (⟨by decide, by decide⟩ : tq_iv (-1) (-1) (-1)) (by decide) (by decide)⟩ hS dX11_cutFor_23
  refine lv_if_eq (tgt := 22) hx hb dX11_cutFor_8 (by decide) (fun c_8 => ?_) (fun c_8 => ?_)
  · skip
    have i1_t_5 : tq_iv 0 0 t_5 := tq_cut p_5 (tq_eqL c_8 (⟨by decide, by decide⟩ : tq_iv 0 0 0)) (by decide) (by decide)
    exact K_22 _ _ _ _ hS (lv_sub hl [] rfl)
  · skip
    have i2_t_5 : tq_iv 1 1 t_5 := tq_w (tq_neLo c_8 p_5 (⟨by decide, by decide⟩ : tq_iv 0 0 0)) (by decide) (by decide)
    refine lv_aload_n hx hb dX11_cutFor_11 rfl (lv_at hl 0 rfl) ?_
    refine gf_RX11_29 hC hS z_h0 dX11_cutFor_12 (fun t_12 p_12 q_12 => ?_)
    refine lv_iload_n hx hb dX11_cutFor_15 rfl (lv_at hl 2 rfl) ?_
    refine tq_callVpi (As := [.int x2]) (rest := []) hC (c_X3_hasLocks l X Z _ t_12 p_12 x2) k_X3_hasLocks ql_RX11_322 rfl (by decide) hS p_12 rfl hl.1 rfl (Nat.le_of_ble_eq_true rfl) ⟨Nat.zero_le _, Nat.zero_le _⟩ dX11_cutFor_16 (fun t_16 p_16 => ?_)
    refine lv_if_ne (tgt := 24) hx hb dX11_cutFor_19 (by decide) (fun c_19 => ?_) (fun c_19 => ?_)
    · skip
      have i3_t_16 : tq_iv 1 1 t_16 := tq_w (tq_neLo c_19 p_16 (⟨by decide, by decide⟩ : tq_iv 0 0 0)) (by decide) (by decide)
      refine lv_aload_n hx hb dX11_cutFor_24 rfl (lv_at hl 0 rfl) ?_
      refine gf_RX11_67 hC hS z_h0 dX11_cutFor_25 (fun t_25 p_25 q_25 => ?_)
      refine lv_aload_n hx hb dX11_cutFor_28 rfl (lv_at hl 0 rfl) ?_
      refine gf_RX11_41 hC hS z_h0 dX11_cutFor_29 (fun t_29 p_29 q_29 => ?_)
      refine tq_callVv (As := [.ref t_29]) (rest := []) hC (c_X8_take l X Z _ t_25 p_25 t_29 p_29) k_X8_take ql_RX11_325 (by decide) rfl (by decide) hS p_25 rfl hl.1 rfl (Nat.le_of_ble_eq_true rfl) ⟨Nat.zero_le _, Nat.zero_le _⟩ dX11_cutFor_32 (fun f1_32 H locs hS k_32 => ?_)
      refine lv_aload_n hx hb dX11_cutFor_35 rfl (lv_at hl 0 rfl) ?_
      refine gf_RX11_67 hC hS z_h0 dX11_cutFor_36 (fun t_36 p_36 q_36 => ?_)
      refine lv_iload_n hx hb dX11_cutFor_39 rfl (lv_at hl 1 rfl) ?_
      refine lv_iload_n hx hb dX11_cutFor_40 rfl (lv_at hl 2 rfl) ?_
      refine tq_callVpi (As := [.int x1, .int x2]) (rest := []) hC (c_X8_leastNumber l X Z _ t_36 p_36 x1 x2) k_X8_leastNumber ql_RX11_331 rfl (by decide) hS p_36 rfl hl.1 rfl (Nat.le_of_ble_eq_true rfl) ⟨Nat.zero_le _, Nat.zero_le _⟩ dX11_cutFor_41 (fun t_41 p_41 => ?_)
      exact hret t_41 _ _ _ _ _ rfl ⟨_, rfl, tq_w (tq_top t_41) (by decide) (by decide)⟩ hS dX11_cutFor_44
    · skip
      have i4_t_16 : tq_iv 0 0 t_16 := tq_cut p_16 (tq_eqL c_19 (⟨by decide, by decide⟩ : tq_iv 0 0 0)) (by decide) (by decide)
      exact K_22 _ _ _ _ hS (lv_sub hl [] rfl)
set_option maxHeartbeats 4000000 in
set_option maxRecDepth 100000 in
theorem c_X6_apart (l : Launch) (X : tq_X) (Z : tq_Z) (f : Nat → va_E) (h0 : Nat) (z_h0 : tq_z Z h0 (.inl 6)) (x1 : Int32) (x2 : Int32) : tq_Mp l X Z f yX6_apart cX6_apart 5 (some .int) 2 [.ref h0, .int x1, .int x2] (tq_ri (-2147483648) 2147483647) := by
  refine tq_startip (by decide) (Nat.le_of_ble_eq_true rfl) (fun p e R s m args below meth c Q hC hret hS ls hl => ?_)
  have hC : tq_C p R s m args c X (tq_A Z) RX6 cX6_apart 5 2 := hC
  have hx := hC.1.1
  have hb := hC.1.2.1
  have hown := hC.1.2.2.2.1
  have hts := hC.1.2.2.2.2
  have hl : lv_has ls 5 [(0, .ref h0), (1, .int x1), (2, .int x2)] := hl
  refine lv_iconst (v := 0) hx hb dX6_apart_0 (by decide) ?_
  refine lv_istore_n (lv' := [(3, .int 0), (0, .ref h0), (1, .int x1), (2, .int x2)]) hx hb dX6_apart_1 rfl hl (by decide) rfl (fun ls hl => ?_)
  refine lv_iconst (v := 0) hx hb dX6_apart_2 (by decide) ?_
  refine lv_istore (lv' := [(4, .int 0), (3, .int 0), (0, .ref h0), (1, .int x1), (2, .int x2)]) hx hb dX6_apart_3 hl (by decide) rfl (fun ls hl => ?_)
  have K_5 : ∀ (n_5 : Nat) (x4_5 : Int32) (x3_5 : Int32) (ls : Array Slot), tq_iv 0 999 x4_5 → (2147483647 - x4_5.toInt).toNat < n_5 → lv_has ls 5 [(4, .int x4_5), (3, .int x3_5), (0, .ref h0), (1, .int x1), (2, .int x2)] → W p l e R s m args below meth c s.heap [] 0 0 Q (F0 m 5 ls []) := by
    intro n_5
    induction n_5 with
    | zero => intro x4_5 x3_5 ls  i1_x4_5 hn_5; exact absurd hn_5 (Nat.not_lt_zero _)
    | succ n_5 ih_5 =>
      intro x4_5 x3_5 ls  i1_x4_5 hn_5 hl
      refine lv_iload hx hb dX6_apart_5 (lv_at hl 0 rfl) ?_
      refine lv_aload_n hx hb dX6_apart_7 rfl (lv_at hl 2 rfl) ?_
      refine gf_RX6_18 hC hS z_h0 dX6_apart_8 (fun t_8 p_8 q_8 => ?_)
      refine lv_icmp_ge (tgt := 41) hx hb dX6_apart_11 (by decide) (fun c_11 => ?_) (fun c_11 => ?_)
      · skip
        refine lv_iload_n hx hb dX6_apart_41 rfl (lv_at hl 1 rfl) ?_
        exact hret x3_5 _ _ rfl ⟨_, rfl, tq_w (tq_top x3_5) (by decide) (by decide)⟩ dX6_apart_42
      · skip
        have i2_x4_5 : tq_iv 0 998 x4_5 := tq_cut i1_x4_5 (tq_ltL (tq_nle c_11) i1_x4_5 p_8) (by decide) (by decide)
        have i3_t_8 : tq_iv 1 999 t_8 := tq_cut p_8 (tq_ltR (tq_nle c_11) i1_x4_5 p_8) (by decide) (by decide)
        refine lv_iload_n hx hb dX6_apart_14 rfl (lv_at hl 1 rfl) ?_
        refine lv_aload_n hx hb dX6_apart_15 rfl (lv_at hl 2 rfl) ?_
        refine lv_iload_n hx hb dX6_apart_16 rfl (lv_at hl 3 rfl) ?_
        refine lv_iload hx hb dX6_apart_17 (lv_at hl 0 rfl) ?_
        refine tq_callVpi (As := [.int x1, .int x4_5]) (rest := [.int x3_5]) hC (c_X6_depthAt l X Z _ h0 z_h0 x1 x4_5) k_X6_depthAt ql_RX6_41 rfl (by decide) hS z_h0 rfl hl.1 rfl (Nat.le_of_ble_eq_true rfl) ⟨Nat.zero_le _, Nat.zero_le _⟩ dX6_apart_19 (fun t_19 p_19 => ?_)
        refine lv_aload_n hx hb dX6_apart_22 rfl (lv_at hl 2 rfl) ?_
        refine lv_iload_n hx hb dX6_apart_23 rfl (lv_at hl 4 rfl) ?_
        refine lv_iload hx hb dX6_apart_24 (lv_at hl 0 rfl) ?_
        refine tq_callVpi (As := [.int x2, .int x4_5]) (rest := [.int t_19, .int x3_5]) hC (c_X6_depthAt l X Z _ h0 z_h0 x2 x4_5) k_X6_depthAt ql_RX6_41 rfl (by decide) hS z_h0 rfl hl.1 rfl (Nat.le_of_ble_eq_true rfl) ⟨Nat.zero_le _, Nat.zero_le _⟩ dX6_apart_26 (fun t_26 p_26 => ?_)
        refine lv_isub hx hb dX6_apart_29 ?_
        refine lv_topi (fun t_29 e_29 => ?_)
        refine va_mabs hx hb (hC.1.2.2.1.trans hl.1.symm) hown (hts _ ql_RX6_59) (hts _ qm_abs_s) (hts _ qm_i) (hts _ qm_abs_c) (Nat.le_trans (by decide) hC.2.2.1) (Nat.le_trans (Nat.le_of_ble_eq_true rfl) hC.2.2.2.1) (Nat.zero_le _) (Nat.zero_le _) dX6_apart_30 ?_
        refine lv_topi (fun t_30 e_30 => ?_)
        refine lv_iadd hx hb dX6_apart_33 ?_
        refine lv_topi (fun t_33 e_33 => ?_)
        refine lv_istore_n (lv' := [(3, .int t_33), (4, .int x4_5), (0, .ref h0), (1, .int x1), (2, .int x2)]) hx hb dX6_apart_34 rfl hl (by decide) rfl (fun ls hl => ?_)
        obtain ⟨t_35, e_35⟩ : ∃ y : Int32, y = x4_5 + 1 := ⟨_, rfl⟩
        have i4_t_35 : tq_iv 1 999 t_35 := tq_w (tq_add e_35 i2_x4_5 (⟨by decide, by decide⟩ : tq_iv 1 1 1) (by decide) (by decide)) (by decide) (by decide)
        refine lv_iinc (v := t_35) (lv' := [(4, .int t_35), (3, .int t_33), (0, .ref h0), (1, .int x1), (2, .int x2)]) hx hb dX6_apart_35 hl (k := 1) rfl (by rw [e_35]; rfl) (by decide) rfl (fun ls hl => ?_)
        refine lv_goto (tgt := 5) hx hb dX6_apart_38 (by decide) ?_
        exact ih_5 t_35 t_33 _ (tq_w i4_t_35 (by decide) (by decide)) (tq_up e_35 i2_x4_5 (⟨by decide, by decide⟩ : tq_iv 1 1 1) (by decide) (by decide) hn_5) (lv_sub hl [0, 1, 2, 3, 4] rfl)
  exact K_5 _ 0 0 _ (tq_w (⟨by decide, by decide⟩ : tq_iv 0 0 0) (by decide) (by decide)) (Nat.lt_succ_self _) (lv_sub hl [0, 1, 2, 3, 4] rfl)
set_option maxHeartbeats 4000000 in
set_option maxRecDepth 100000 in
theorem c_X6_fromDepthsOf (l : Launch) (X : tq_X) (Z : tq_Z) (f : Nat → va_E) (h0 : Nat) (z_h0 : tq_z Z h0 (.inl 6)) (x1 : Int32) : tq_Mp l X Z f yX6_fromDepthsOf cX6_fromDepthsOf 5 (some .int) 2 [.ref h0, .int x1] (tq_ri (-2147483648) 2147483647) := by
  refine tq_startip (by decide) (Nat.le_of_ble_eq_true rfl) (fun p e R s m args below meth c Q hC hret hS ls hl => ?_)
  have hC : tq_C p R s m args c X (tq_A Z) RX6 cX6_fromDepthsOf 5 2 := hC
  have hx := hC.1.1
  have hb := hC.1.2.1
  have hown := hC.1.2.2.2.1
  have hts := hC.1.2.2.2.2
  have hl : lv_has ls 5 [(0, .ref h0), (1, .int x1)] := hl
  refine lv_iconst (v := 0) hx hb dX6_fromDepthsOf_0 (by decide) ?_
  refine lv_istore_n (lv' := [(2, .int 0), (0, .ref h0), (1, .int x1)]) hx hb dX6_fromDepthsOf_1 rfl hl (by decide) rfl (fun ls hl => ?_)
  refine lv_iconst (v := 0) hx hb dX6_fromDepthsOf_2 (by decide) ?_
  refine lv_istore_n (lv' := [(3, .int 0), (2, .int 0), (0, .ref h0), (1, .int x1)]) hx hb dX6_fromDepthsOf_3 rfl hl (by decide) rfl (fun ls hl => ?_)
  have K_4 : ∀ (n_4 : Nat) (x3_4 : Int32) (x2_4 : Int32) (ls : Array Slot), tq_iv 0 999 x3_4 → (2147483647 - x3_4.toInt).toNat < n_4 → lv_has ls 5 [(3, .int x3_4), (2, .int x2_4), (0, .ref h0), (1, .int x1)] → W p l e R s m args below meth c s.heap [] 0 0 Q (F0 m 4 ls []) := by
    intro n_4
    induction n_4 with
    | zero => intro x3_4 x2_4 ls  i1_x3_4 hn_4; exact absurd hn_4 (Nat.not_lt_zero _)
    | succ n_4 ih_4 =>
      intro x3_4 x2_4 ls  i1_x3_4 hn_4 hl
      refine lv_iload_n hx hb dX6_fromDepthsOf_4 rfl (lv_at hl 0 rfl) ?_
      refine lv_aload_n hx hb dX6_fromDepthsOf_5 rfl (lv_at hl 2 rfl) ?_
      refine gf_RX6_18 hC hS z_h0 dX6_fromDepthsOf_6 (fun t_6 p_6 q_6 => ?_)
      refine lv_icmp_ge (tgt := 56) hx hb dX6_fromDepthsOf_9 (by decide) (fun c_9 => ?_) (fun c_9 => ?_)
      · skip
        refine lv_iload_n hx hb dX6_fromDepthsOf_56 rfl (lv_at hl 1 rfl) ?_
        exact hret x2_4 _ _ rfl ⟨_, rfl, tq_w (tq_top x2_4) (by decide) (by decide)⟩ dX6_fromDepthsOf_57
      · skip
        have i2_x3_4 : tq_iv 0 998 x3_4 := tq_cut i1_x3_4 (tq_ltL (tq_nle c_9) i1_x3_4 p_6) (by decide) (by decide)
        have i3_t_6 : tq_iv 1 999 t_6 := tq_cut p_6 (tq_ltR (tq_nle c_9) i1_x3_4 p_6) (by decide) (by decide)
        refine lv_iload_n hx hb dX6_fromDepthsOf_12 rfl (lv_at hl 0 rfl) ?_
        refine lv_aload_n hx hb dX6_fromDepthsOf_13 rfl (lv_at hl 2 rfl) ?_
        refine lv_iload_n hx hb dX6_fromDepthsOf_14 rfl (lv_at hl 3 rfl) ?_
        refine lv_iload_n hx hb dX6_fromDepthsOf_15 rfl (lv_at hl 0 rfl) ?_
        refine tq_callVpi (As := [.int x1, .int x3_4]) (rest := [.int x3_4]) hC (c_X6_depthAt l X Z _ h0 z_h0 x1 x3_4) k_X6_depthAt ql_RX6_41 rfl (by decide) hS z_h0 rfl hl.1 rfl (Nat.le_of_ble_eq_true rfl) ⟨Nat.zero_le _, Nat.zero_le _⟩ dX6_fromDepthsOf_16 (fun t_16 p_16 => ?_)
        refine tq_callSpi (As := [.int x3_4, .int t_16]) (rest := []) hC (c_X6_notch l X Z _ x3_4 t_16) k_X6_notch ql_RX6_44 rfl (by decide) hS hl.1 rfl (Nat.le_of_ble_eq_true rfl) ⟨Nat.zero_le _, Nat.zero_le _⟩ dX6_fromDepthsOf_19 (fun t_19 p_19 => ?_)
        refine lv_iload_n hx hb dX6_fromDepthsOf_22 rfl (lv_at hl 0 rfl) ?_
        refine lv_iconst (v := 0) hx hb dX6_fromDepthsOf_23 (by decide) ?_
        refine tq_callSpi (As := [.int x3_4, .int 0]) (rest := [.int t_19]) hC (c_X6_notch l X Z _ x3_4 0) k_X6_notch ql_RX6_44 rfl (by decide) hS hl.1 rfl (Nat.le_of_ble_eq_true rfl) ⟨Nat.zero_le _, Nat.zero_le _⟩ dX6_fromDepthsOf_24 (fun t_24 p_24 => ?_)
        refine lv_isub hx hb dX6_fromDepthsOf_27 ?_
        refine lv_topi (fun t_27 e_27 => ?_)
        refine lv_istore (lv' := [(4, .int t_27), (3, .int x3_4), (2, .int x2_4), (0, .ref h0), (1, .int x1)]) hx hb dX6_fromDepthsOf_28 hl (by decide) rfl (fun ls hl => ?_)
        refine lv_iload_n hx hb dX6_fromDepthsOf_30 rfl (lv_at hl 2 rfl) ?_
        refine lv_iload_n hx hb dX6_fromDepthsOf_31 rfl (lv_at hl 1 rfl) ?_
        refine lv_bipush (v := 6) hx hb dX6_fromDepthsOf_32 (by decide) ?_
        refine tq_callSpi (As := [.int x3_4, .int 6]) (rest := [.int x2_4]) hC (c_X6_notch l X Z _ x3_4 6) k_X6_notch ql_RX6_44 rfl (by decide) hS hl.1 rfl (Nat.le_of_ble_eq_true rfl) ⟨Nat.zero_le _, Nat.zero_le _⟩ dX6_fromDepthsOf_34 (fun t_34 p_34 => ?_)
        refine lv_iload_n hx hb dX6_fromDepthsOf_37 rfl (lv_at hl 1 rfl) ?_
        refine lv_iconst (v := 0) hx hb dX6_fromDepthsOf_38 (by decide) ?_
        refine tq_callSpi (As := [.int x3_4, .int 0]) (rest := [.int t_34, .int x2_4]) hC (c_X6_notch l X Z _ x3_4 0) k_X6_notch ql_RX6_44 rfl (by decide) hS hl.1 rfl (Nat.le_of_ble_eq_true rfl) ⟨Nat.zero_le _, Nat.zero_le _⟩ dX6_fromDepthsOf_39 (fun t_39 p_39 => ?_)
        refine lv_isub hx hb dX6_fromDepthsOf_42 ?_
        refine lv_topi (fun t_42 e_42 => ?_)
        refine lv_iload hx hb dX6_fromDepthsOf_43 (lv_at hl 0 rfl) ?_
        refine lv_iconst (v := -1) hx hb dX6_fromDepthsOf_45 (by decide) ?_
        refine lv_ixor hx hb dX6_fromDepthsOf_46 ?_
        refine lv_topi (fun t_46 e_46 => ?_)
        refine lv_iand hx hb dX6_fromDepthsOf_47 ?_
        refine lv_topi (fun t_47 e_47 => ?_)
        refine lv_ior hx hb dX6_fromDepthsOf_48 ?_
        refine lv_topi (fun t_48 e_48 => ?_)
        refine lv_istore_n (lv' := [(2, .int t_48), (4, .int t_27), (3, .int x3_4), (0, .ref h0), (1, .int x1)]) hx hb dX6_fromDepthsOf_49 rfl hl (by decide) rfl (fun ls hl => ?_)
        obtain ⟨t_50, e_50⟩ : ∃ y : Int32, y = x3_4 + 1 := ⟨_, rfl⟩
        have i4_t_50 : tq_iv 1 999 t_50 := tq_w (tq_add e_50 i2_x3_4 (⟨by decide, by decide⟩ : tq_iv 1 1 1) (by decide) (by decide)) (by decide) (by decide)
        refine lv_iinc (v := t_50) (lv' := [(3, .int t_50), (2, .int t_48), (4, .int t_27), (0, .ref h0), (1, .int x1)]) hx hb dX6_fromDepthsOf_50 hl (k := 2) rfl (by rw [e_50]; rfl) (by decide) rfl (fun ls hl => ?_)
        refine lv_goto (tgt := 4) hx hb dX6_fromDepthsOf_53 (by decide) ?_
        exact ih_4 t_50 t_48 _ (tq_w i4_t_50 (by decide) (by decide)) (tq_up e_50 i2_x3_4 (⟨by decide, by decide⟩ : tq_iv 1 1 1) (by decide) (by decide) hn_4) (lv_sub hl [0, 1, 3, 4] rfl)
  exact K_4 _ 0 0 _ (tq_w (⟨by decide, by decide⟩ : tq_iv 0 0 0) (by decide) (by decide)) (Nat.lt_succ_self _) (lv_sub hl [0, 1, 2, 3] rfl)
set_option maxHeartbeats 4000000 in
set_option maxRecDepth 100000 in
theorem c_X6_cheapest (l : Launch) (X : tq_X) (Z : tq_Z) (f : Nat → va_E) (h0 : Nat) (z_h0 : tq_z Z h0 (.inl 6)) (x1 : Int32) (x2 : Int32) (x3 : Int32) (i_x3 : tq_iv (-2147483648) 2147483646 x3) : tq_Mp l X Z f yX6_cheapest cX6_cheapest 6 (some .int) 1 [.ref h0, .int x1, .int x2, .int x3] (tq_ri (-2147483648) 2147483647) := by
  refine tq_startip (by decide) (Nat.le_of_ble_eq_true rfl) (fun p e R s m args below meth c Q hC hret hS ls hl => ?_)
  have hC : tq_C p R s m args c X (tq_A Z) RX6 cX6_cheapest 6 1 := hC
  have hx := hC.1.1
  have hb := hC.1.2.1
  have hown := hC.1.2.2.2.1
  have hts := hC.1.2.2.2.2
  have hl : lv_has ls 6 [(0, .ref h0), (1, .int x1), (2, .int x2), (3, .int x3)] := hl
  refine lv_iload_n hx hb dX6_cheapest_0 rfl (lv_at hl 2 rfl) ?_
  refine lv_istore (lv' := [(4, .int x2), (0, .ref h0), (1, .int x1), (2, .int x2), (3, .int x3)]) hx hb dX6_cheapest_1 hl (by decide) rfl (fun ls hl => ?_)
  refine lv_iload_n hx hb dX6_cheapest_3 rfl (lv_at hl 3 rfl) ?_
  refine lv_iconst (v := 1) hx hb dX6_cheapest_4 (by decide) ?_
  refine lv_iadd hx hb dX6_cheapest_5 ?_
  refine lv_topi (fun t_5 e_5 => ?_)
  refine lv_istore (lv' := [(5, .int t_5), (4, .int x2), (0, .ref h0), (1, .int x1), (2, .int x2), (3, .int x3)]) hx hb dX6_cheapest_6 hl (by decide) rfl (fun ls hl => ?_)
  have K_8 : ∀ (n_8 : Nat) (x5_8 : Int32) (x4_8 : Int32) (ls : Array Slot), (2147483647 - x5_8.toInt).toNat < n_8 → lv_has ls 6 [(5, .int x5_8), (4, .int x4_8), (0, .ref h0), (1, .int x1), (3, .int x3)] → W p l e R s m args below meth c s.heap [] 0 0 Q (F0 m 8 ls []) := by
    intro n_8
    induction n_8 with
    | zero => intro x5_8 x4_8 ls  hn_8; exact absurd hn_8 (Nat.not_lt_zero _)
    | succ n_8 ih_8 =>
      intro x5_8 x4_8 ls  hn_8 hl
      refine lv_iload hx hb dX6_cheapest_8 (lv_at hl 0 rfl) ?_
      refine lv_iload_n hx hb dX6_cheapest_10 rfl (lv_at hl 4 rfl) ?_
      refine lv_icmp_gt (tgt := 41) hx hb dX6_cheapest_11 (by decide) (fun c_11 => ?_) (fun c_11 => ?_)
      · skip
        have i1_x5_8 : tq_iv (-2147483647) 2147483647 x5_8 := tq_cut (tq_top x5_8) (tq_ltR c_11 i_x3 (tq_top x5_8)) (by decide) (by decide)
        refine lv_iload hx hb dX6_cheapest_41 (lv_at hl 1 rfl) ?_
        exact hret x4_8 _ _ rfl ⟨_, rfl, tq_w (tq_top x4_8) (by decide) (by decide)⟩ dX6_cheapest_43
      · skip
        have i2_x5_8 : tq_iv (-2147483648) 2147483646 x5_8 := tq_cut (tq_top x5_8) (tq_leL (tq_nlt c_11) (tq_top x5_8) i_x3) (by decide) (by decide)
        refine lv_aload_n hx hb dX6_cheapest_14 rfl (lv_at hl 2 rfl) ?_
        refine lv_iload_n hx hb dX6_cheapest_15 rfl (lv_at hl 3 rfl) ?_
        refine lv_iload hx hb dX6_cheapest_16 (lv_at hl 0 rfl) ?_
        refine tq_callVpi (As := [.int x1, .int x5_8]) (rest := []) hC (c_X6_onwardAt l X Z _ h0 z_h0 x1 x5_8) k_X6_onwardAt ql_RX6_79 rfl (by decide) hS z_h0 rfl hl.1 rfl (Nat.le_of_ble_eq_true rfl) ⟨Nat.zero_le _, Nat.zero_le _⟩ dX6_cheapest_18 (fun t_18 p_18 => ?_)
        refine lv_aload_n hx hb dX6_cheapest_21 rfl (lv_at hl 2 rfl) ?_
        refine lv_iload_n hx hb dX6_cheapest_22 rfl (lv_at hl 3 rfl) ?_
        refine lv_iload hx hb dX6_cheapest_23 (lv_at hl 1 rfl) ?_
        refine tq_callVpi (As := [.int x1, .int x4_8]) (rest := [.int t_18]) hC (c_X6_onwardAt l X Z _ h0 z_h0 x1 x4_8) k_X6_onwardAt ql_RX6_79 rfl (by decide) hS z_h0 rfl hl.1 rfl (Nat.le_of_ble_eq_true rfl) ⟨Nat.zero_le _, Nat.zero_le _⟩ dX6_cheapest_25 (fun t_25 p_25 => ?_)
        have K_35 : ∀ (x4_35 : Int32) (ls : Array Slot), lv_has ls 6 [(5, .int x5_8), (4, .int x4_35), (0, .ref h0), (1, .int x1), (3, .int x3)] → W p l e R s m args below meth c s.heap [] 0 0 Q (F0 m 35 ls []) := by
          intro x4_35 ls  hl
          obtain ⟨t_35, e_35⟩ : ∃ y : Int32, y = x5_8 + 1 := ⟨_, rfl⟩
          have i3_t_35 : tq_iv (-2147483647) 2147483647 t_35 := tq_w (tq_add e_35 i2_x5_8 (⟨by decide, by decide⟩ : tq_iv 1 1 1) (by decide) (by decide)) (by decide) (by decide)
          refine lv_iinc (v := t_35) (lv' := [(5, .int t_35), (4, .int x4_35), (0, .ref h0), (1, .int x1), (3, .int x3)]) hx hb dX6_cheapest_35 hl (k := 0) rfl (by rw [e_35]; rfl) (by decide) rfl (fun ls hl => ?_)
          refine lv_goto (tgt := 8) hx hb dX6_cheapest_38 (by decide) ?_
          exact ih_8 t_35 x4_35 _ (tq_up e_35 i2_x5_8 (⟨by decide, by decide⟩ : tq_iv 1 1 1) (by decide) (by decide) hn_8) (lv_sub hl [0, 1, 2, 3, 4] rfl)
        refine lv_icmp_ge (tgt := 35) hx hb dX6_cheapest_28 (by decide) (fun c_28 => ?_) (fun c_28 => ?_)
        · skip
          exact K_35 x4_8 _ (lv_sub hl [0, 1, 2, 3, 4] rfl)
        · skip
          have i4_t_18 : tq_iv (-2147483648) 2147483646 t_18 := tq_cut (tq_top t_18) (tq_ltL (tq_nle c_28) (tq_top t_18) (tq_top t_25)) (by decide) (by decide)
          have i5_t_25 : tq_iv (-2147483647) 2147483647 t_25 := tq_cut (tq_top t_25) (tq_ltR (tq_nle c_28) (tq_top t_18) (tq_top t_25)) (by decide) (by decide)
          refine lv_iload hx hb dX6_cheapest_31 (lv_at hl 0 rfl) ?_
          refine lv_istore (lv' := [(4, .int x5_8), (5, .int x5_8), (0, .ref h0), (1, .int x1), (3, .int x3)]) hx hb dX6_cheapest_33 hl (by decide) rfl (fun ls hl => ?_)
          exact K_35 x5_8 _ (lv_sub hl [1, 0, 2, 3, 4] rfl)
  exact K_8 _ t_5 x2 _ (Nat.lt_succ_self _) (lv_sub hl [0, 1, 2, 3, 5] rfl)
set_option maxHeartbeats 4000000 in
set_option maxRecDepth 100000 in
theorem c_X6_depthBehind (l : Launch) (X : tq_X) (Z : tq_Z) (f : Nat → va_E) (h0 : Nat) (z_h0 : tq_z Z h0 (.inl 6)) (x1 : Int32) (x2 : Int32) : tq_Mp l X Z f yX6_depthBehind cX6_depthBehind 3 (some .int) 2 [.ref h0, .int x1, .int x2] (tq_ri (-2147483648) 2147483647) := by
  refine tq_startip (by decide) (Nat.le_of_ble_eq_true rfl) (fun p e R s m args below meth c Q hC hret hS ls hl => ?_)
  have hC : tq_C p R s m args c X (tq_A Z) RX6 cX6_depthBehind 3 2 := hC
  have hx := hC.1.1
  have hb := hC.1.2.1
  have hown := hC.1.2.2.2.1
  have hts := hC.1.2.2.2.2
  have hl : lv_has ls 3 [(0, .ref h0), (1, .int x1), (2, .int x2)] := hl
  refine lv_iload_n hx hb dX6_depthBehind_0 rfl (lv_at hl 1 rfl) ?_
  refine lv_iconst (v := 1) hx hb dX6_depthBehind_1 (by decide) ?_
  refine lv_iadd hx hb dX6_depthBehind_2 ?_
  refine lv_topi (fun t_2 e_2 => ?_)
  refine lv_aload_n hx hb dX6_depthBehind_3 rfl (lv_at hl 0 rfl) ?_
  refine gf_RX6_18 hC hS z_h0 dX6_depthBehind_4 (fun t_4 p_4 q_4 => ?_)
  refine lv_icmp_lt (tgt := 12) hx hb dX6_depthBehind_7 (by decide) (fun c_7 => ?_) (fun c_7 => ?_)
  · skip
    have i1_t_2 : tq_iv (-2147483648) 998 t_2 := tq_cut (tq_top t_2) (tq_ltL c_7 (tq_top t_2) p_4) (by decide) (by decide)
    refine lv_aload_n hx hb dX6_depthBehind_12 rfl (lv_at hl 0 rfl) ?_
    refine lv_iload_n hx hb dX6_depthBehind_13 rfl (lv_at hl 1 rfl) ?_
    refine lv_iconst (v := 1) hx hb dX6_depthBehind_14 (by decide) ?_
    refine lv_iadd hx hb dX6_depthBehind_15 ?_
    refine lv_topi (fun t_15 e_15 => ?_)
    refine lv_aload_n hx hb dX6_depthBehind_16 rfl (lv_at hl 0 rfl) ?_
    refine lv_iload_n hx hb dX6_depthBehind_17 rfl (lv_at hl 1 rfl) ?_
    refine lv_iconst (v := 1) hx hb dX6_depthBehind_18 (by decide) ?_
    refine lv_iadd hx hb dX6_depthBehind_19 ?_
    refine lv_topi (fun t_19 e_19 => ?_)
    refine lv_aload_n hx hb dX6_depthBehind_20 rfl (lv_at hl 0 rfl) ?_
    refine lv_iload_n hx hb dX6_depthBehind_21 rfl (lv_at hl 2 rfl) ?_
    refine tq_callVpi (As := [.int x2]) (rest := [.int t_19, .ref h0, .int t_15, .ref h0]) hC (c_X6_lowest l X Z _ h0 z_h0 x2) k_X6_lowest ql_RX6_66 rfl (by decide) hS z_h0 rfl hl.1 rfl (Nat.le_of_ble_eq_true rfl) ⟨Nat.zero_le _, Nat.zero_le _⟩ dX6_depthBehind_22 (fun t_22 p_22 => ?_)
    refine lv_aload_n hx hb dX6_depthBehind_25 rfl (lv_at hl 0 rfl) ?_
    refine lv_iload_n hx hb dX6_depthBehind_26 rfl (lv_at hl 2 rfl) ?_
    refine tq_callVpi (As := [.int x2]) (rest := [.int t_22, .int t_19, .ref h0, .int t_15, .ref h0]) hC (c_X6_highest l X Z _ h0 z_h0 x2) k_X6_highest ql_RX6_69 rfl (by decide) hS z_h0 rfl hl.1 rfl (Nat.le_of_ble_eq_true rfl) ⟨Nat.zero_le _, Nat.zero_le _⟩ dX6_depthBehind_27 (fun t_27 p_27 => ?_)
    refine tq_callVpi (As := [.int t_19, .int t_22, .int t_27]) (rest := [.int t_15, .ref h0]) hC (c_X6_cheapest l X Z _ h0 z_h0 t_19 t_22 t_27 (tq_w p_27 (by decide) (by decide))) k_X6_cheapest ql_RX6_92 rfl (by decide) hS z_h0 rfl hl.1 rfl (Nat.le_of_ble_eq_true rfl) ⟨Nat.zero_le _, Nat.zero_le _⟩ dX6_depthBehind_30 (fun t_30 p_30 => ?_)
    refine tq_callVpi (As := [.int t_15, .int t_30]) (rest := []) hC (c_X6_onwardAt l X Z _ h0 z_h0 t_15 t_30) k_X6_onwardAt ql_RX6_79 rfl (by decide) hS z_h0 rfl hl.1 rfl (Nat.le_of_ble_eq_true rfl) ⟨Nat.zero_le _, Nat.zero_le _⟩ dX6_depthBehind_33 (fun t_33 p_33 => ?_)
    exact hret t_33 _ _ rfl ⟨_, rfl, tq_w (tq_top t_33) (by decide) (by decide)⟩ dX6_depthBehind_36
  · skip
    have i2_t_2 : tq_iv 0 2147483647 t_2 := tq_cut (tq_top t_2) (tq_leR (tq_nlt c_7) p_4 (tq_top t_2)) (by decide) (by decide)
    refine lv_iconst (v := 0) hx hb dX6_depthBehind_10 (by decide) ?_
    exact hret 0 _ _ rfl ⟨_, rfl, tq_w (⟨by decide, by decide⟩ : tq_iv 0 0 0) (by decide) (by decide)⟩ dX6_depthBehind_11
set_option maxHeartbeats 4000000 in
set_option maxRecDepth 100000 in
theorem c_X6_shallowest (l : Launch) (X : tq_X) (Z : tq_Z) (f : Nat → va_E) (h0 : Nat) (z_h0 : tq_z Z h0 (.inl 6)) (x1 : Int32) : tq_M l X Z f [] yX6_shallowest cX6_shallowest 7 (some .int) 3 [.ref h0, .int x1] (tq_ri (-2147483648) 2147483647) := by
  refine tq_starti (by decide) (Nat.le_of_ble_eq_true rfl) (fun p e R s m args below meth c Q hC hret hS ls hl => ?_)
  have hC : tq_C p R s m args c X (tq_A Z) RX6 cX6_shallowest 7 3 := hC
  have hx := hC.1.1
  have hb := hC.1.2.1
  have hown := hC.1.2.2.2.1
  have hts := hC.1.2.2.2.2
  have hl : lv_has ls 7 [(0, .ref h0), (1, .int x1)] := hl
  generalize hf0 : f = f0 at hret
  have hS : tq_S X Z (tq_A Z) s.heap f0 [] f s.heap [] := hf0 ▸ hS
  refine lv_aload_n hx hb dX6_shallowest_0 rfl (lv_at hl 0 rfl) ?_
  refine gf_RX6_18 hC hS z_h0 dX6_shallowest_1 (fun t_1 p_1 q_1 => ?_)
  refine lv_iconst (v := 1) hx hb dX6_shallowest_4 (by decide) ?_
  refine lv_isub hx hb dX6_shallowest_5 ?_
  refine lv_topi (fun t_5 e_5 => ?_)
  have i1_t_5 : tq_iv (-1) 998 t_5 := tq_w (tq_sub e_5 p_1 (⟨by decide, by decide⟩ : tq_iv 1 1 1) (by decide) (by decide)) (by decide) (by decide)
  refine lv_istore_n (lv' := [(2, .int t_5), (0, .ref h0), (1, .int x1)]) hx hb dX6_shallowest_6 rfl hl (by decide) rfl (fun ls hl => ?_)
  have K_7 : ∀ (n_7 : Nat) (x2_7 : Int32) (f : Nat → va_E) (H : Heap) (locs : List Loc) (ls : Array Slot), tq_S X Z (tq_A Z) s.heap f0 [] f H locs → tq_iv (-1) 998 x2_7 → (x2_7.toInt + 2147483648).toNat < n_7 → lv_has ls 7 [(2, .int x2_7), (0, .ref h0), (1, .int x1)] → W p l e R s m args below meth c H locs 0 0 Q (F0 m 7 ls []) := by
    intro n_7
    induction n_7 with
    | zero => intro x2_7 f H locs ls  hS i2_x2_7 hn_7; exact absurd hn_7 (Nat.not_lt_zero _)
    | succ n_7 ih_7 =>
      intro x2_7 f H locs ls  hS i2_x2_7 hn_7 hl
      refine lv_iload_n hx hb dX6_shallowest_7 rfl (lv_at hl 0 rfl) ?_
      refine lv_if_lt (tgt := 81) hx hb dX6_shallowest_8 (by decide) (fun c_8 => ?_) (fun c_8 => ?_)
      · skip
        have i3_x2_7 : tq_iv (-1) (-1) x2_7 := tq_cut i2_x2_7 (tq_ltL c_8 i2_x2_7 (⟨by decide, by decide⟩ : tq_iv 0 0 0)) (by decide) (by decide)
        refine lv_iconst (v := 0) hx hb dX6_shallowest_81 (by decide) ?_
        refine lv_istore_n (lv' := [(2, .int 0), (0, .ref h0), (1, .int x1)]) hx hb dX6_shallowest_82 rfl hl (by decide) rfl (fun ls hl => ?_)
        refine lv_iconst (v := 0) hx hb dX6_shallowest_83 (by decide) ?_
        refine lv_istore_n (lv' := [(3, .int 0), (2, .int 0), (0, .ref h0), (1, .int x1)]) hx hb dX6_shallowest_84 rfl hl (by decide) rfl (fun ls hl => ?_)
        refine lv_aload_n hx hb dX6_shallowest_85 rfl (lv_at hl 2 rfl) ?_
        refine gf_RX6_22 hC hS z_h0 dX6_shallowest_86 (fun t_86 p_86 q_86 => ?_)
        refine lv_iconst (v := 1) hx hb dX6_shallowest_89 (by decide) ?_
        refine lv_isub hx hb dX6_shallowest_90 ?_
        refine lv_topi (fun t_90 e_90 => ?_)
        have i4_t_90 : tq_iv (-1) 998 t_90 := tq_w (tq_sub e_90 p_86 (⟨by decide, by decide⟩ : tq_iv 1 1 1) (by decide) (by decide)) (by decide) (by decide)
        refine lv_istore (lv' := [(4, .int t_90), (3, .int 0), (2, .int 0), (0, .ref h0), (1, .int x1)]) hx hb dX6_shallowest_91 hl (by decide) rfl (fun ls hl => ?_)
        refine lv_iconst (v := 0) hx hb dX6_shallowest_93 (by decide) ?_
        refine lv_istore (lv' := [(5, .int 0), (4, .int t_90), (3, .int 0), (2, .int 0), (0, .ref h0), (1, .int x1)]) hx hb dX6_shallowest_94 hl (by decide) rfl (fun ls hl => ?_)
        have K_96 : ∀ (n_96 : Nat) (x5_96 : Int32) (x4_96 : Int32) (x3_96 : Int32) (x2_96 : Int32) (f : Nat → va_E) (H : Heap) (locs : List Loc) (ls : Array Slot), tq_S X Z (tq_A Z) s.heap f0 [] f H locs → tq_iv 0 2147483647 x3_96 → tq_iv (-2147483648) 998 x4_96 → tq_iv 0 999 x5_96 → (2147483647 - x5_96.toInt).toNat < n_96 → lv_has ls 7 [(5, .int x5_96), (4, .int x4_96), (3, .int x3_96), (2, .int x2_96), (0, .ref h0)] → W p l e R s m args below meth c H locs 0 0 Q (F0 m 96 ls []) := by
          intro n_96
          induction n_96 with
          | zero => intro x5_96 x4_96 x3_96 x2_96 f H locs ls  hS i5_x3_96 i6_x4_96 i7_x5_96 hn_96; exact absurd hn_96 (Nat.not_lt_zero _)
          | succ n_96 ih_96 =>
            intro x5_96 x4_96 x3_96 x2_96 f H locs ls  hS i5_x3_96 i6_x4_96 i7_x5_96 hn_96 hl
            refine lv_iload hx hb dX6_shallowest_96 (lv_at hl 0 rfl) ?_
            refine lv_aload_n hx hb dX6_shallowest_98 rfl (lv_at hl 4 rfl) ?_
            refine gf_RX6_18 hC hS z_h0 dX6_shallowest_99 (fun t_99 p_99 q_99 => ?_)
            refine lv_icmp_ge (tgt := 163) hx hb dX6_shallowest_102 (by decide) (fun c_102 => ?_) (fun c_102 => ?_)
            · skip
              refine lv_iload_n hx hb dX6_shallowest_163 rfl (lv_at hl 3 rfl) ?_
              exact hret x2_96 _ _ _ _ _ rfl ⟨_, rfl, tq_w (tq_top x2_96) (by decide) (by decide)⟩ hS dX6_shallowest_164
            · skip
              have i8_x5_96 : tq_iv 0 998 x5_96 := tq_cut i7_x5_96 (tq_ltL (tq_nle c_102) i7_x5_96 p_99) (by decide) (by decide)
              have i9_t_99 : tq_iv 1 999 t_99 := tq_cut p_99 (tq_ltR (tq_nle c_102) i7_x5_96 p_99) (by decide) (by decide)
              refine lv_aload_n hx hb dX6_shallowest_105 rfl (lv_at hl 4 rfl) ?_
              refine lv_iload hx hb dX6_shallowest_106 (lv_at hl 0 rfl) ?_
              refine lv_iload_n hx hb dX6_shallowest_108 rfl (lv_at hl 2 rfl) ?_
              refine lv_iload hx hb dX6_shallowest_109 (lv_at hl 1 rfl) ?_
              refine tq_callVpi (As := [.int x5_96, .int x3_96, .int x4_96]) (rest := []) hC (c_X6_cheapest l X Z _ h0 z_h0 x5_96 x3_96 x4_96 (tq_w i6_x4_96 (by decide) (by decide))) k_X6_cheapest ql_RX6_92 rfl (by decide) hS z_h0 rfl hl.1 rfl (Nat.le_of_ble_eq_true rfl) ⟨Nat.zero_le _, Nat.zero_le _⟩ dX6_shallowest_111 (fun t_111 p_111 => ?_)
              refine lv_istore (lv' := [(6, .int t_111), (5, .int x5_96), (4, .int x4_96), (3, .int x3_96), (2, .int x2_96), (0, .ref h0)]) hx hb dX6_shallowest_114 hl (by decide) rfl (fun ls hl => ?_)
              refine lv_aload_n hx hb dX6_shallowest_116 rfl (lv_at hl 5 rfl) ?_
              refine lv_iload hx hb dX6_shallowest_117 (lv_at hl 1 rfl) ?_
              refine lv_iload hx hb dX6_shallowest_119 (lv_at hl 0 rfl) ?_
              refine tq_callVpi (As := [.int x5_96, .int t_111]) (rest := []) hC (c_X6_onwardAt l X Z _ h0 z_h0 x5_96 t_111) k_X6_onwardAt ql_RX6_79 rfl (by decide) hS z_h0 rfl hl.1 rfl (Nat.le_of_ble_eq_true rfl) ⟨Nat.zero_le _, Nat.zero_le _⟩ dX6_shallowest_121 (fun t_121 p_121 => ?_)
              refine lv_sipush (v := 1000) hx hb dX6_shallowest_124 (by decide) ?_
              refine lv_icmp_lt (tgt := 132) hx hb dX6_shallowest_127 (by decide) (fun c_127 => ?_) (fun c_127 => ?_)
              · skip
                have i10_t_121 : tq_iv (-2147483648) 999 t_121 := tq_cut (tq_top t_121) (tq_ltL c_127 (tq_top t_121) (⟨by decide, by decide⟩ : tq_iv 1000 1000 1000)) (by decide) (by decide)
                refine lv_iload_n hx hb dX6_shallowest_132 rfl (lv_at hl 4 rfl) ?_
                refine lv_iload hx hb dX6_shallowest_133 (lv_at hl 1 rfl) ?_
                refine lv_iload hx hb dX6_shallowest_135 (lv_at hl 0 rfl) ?_
                refine tq_callSpi (As := [.int x5_96, .int t_111]) (rest := [.int x2_96]) hC (c_X6_notch l X Z _ x5_96 t_111) k_X6_notch ql_RX6_44 rfl (by decide) hS hl.1 rfl (Nat.le_of_ble_eq_true rfl) ⟨Nat.zero_le _, Nat.zero_le _⟩ dX6_shallowest_137 (fun t_137 p_137 => ?_)
                refine lv_ior hx hb dX6_shallowest_140 ?_
                refine lv_topi (fun t_140 e_140 => ?_)
                refine lv_istore_n (lv' := [(2, .int t_140), (6, .int t_111), (5, .int x5_96), (4, .int x4_96), (3, .int x3_96), (0, .ref h0)]) hx hb dX6_shallowest_141 rfl hl (by decide) rfl (fun ls hl => ?_)
                refine lv_aload_n hx hb dX6_shallowest_142 rfl (lv_at hl 5 rfl) ?_
                refine lv_iload hx hb dX6_shallowest_143 (lv_at hl 1 rfl) ?_
                refine tq_callVpi (As := [.int t_111]) (rest := []) hC (c_X6_lowest l X Z _ h0 z_h0 t_111) k_X6_lowest ql_RX6_66 rfl (by decide) hS z_h0 rfl hl.1 rfl (Nat.le_of_ble_eq_true rfl) ⟨Nat.zero_le _, Nat.zero_le _⟩ dX6_shallowest_145 (fun t_145 p_145 => ?_)
                refine lv_istore_n (lv' := [(3, .int t_145), (2, .int t_140), (6, .int t_111), (5, .int x5_96), (4, .int x4_96), (0, .ref h0)]) hx hb dX6_shallowest_148 rfl hl (by decide) rfl (fun ls hl => ?_)
                refine lv_aload_n hx hb dX6_shallowest_149 rfl (lv_at hl 5 rfl) ?_
                refine lv_iload hx hb dX6_shallowest_150 (lv_at hl 2 rfl) ?_
                refine tq_callVpi (As := [.int t_111]) (rest := []) hC (c_X6_highest l X Z _ h0 z_h0 t_111) k_X6_highest ql_RX6_69 rfl (by decide) hS z_h0 rfl hl.1 rfl (Nat.le_of_ble_eq_true rfl) ⟨Nat.zero_le _, Nat.zero_le _⟩ dX6_shallowest_152 (fun t_152 p_152 => ?_)
                refine lv_istore (lv' := [(4, .int t_152), (3, .int t_145), (2, .int t_140), (6, .int t_111), (5, .int x5_96), (0, .ref h0)]) hx hb dX6_shallowest_155 hl (by decide) rfl (fun ls hl => ?_)
                obtain ⟨t_157, e_157⟩ : ∃ y : Int32, y = x5_96 + 1 := ⟨_, rfl⟩
                have i11_t_157 : tq_iv 1 999 t_157 := tq_w (tq_add e_157 i8_x5_96 (⟨by decide, by decide⟩ : tq_iv 1 1 1) (by decide) (by decide)) (by decide) (by decide)
                refine lv_iinc (v := t_157) (lv' := [(5, .int t_157), (4, .int t_152), (3, .int t_145), (2, .int t_140), (6, .int t_111), (0, .ref h0)]) hx hb dX6_shallowest_157 hl (k := 4) rfl (by rw [e_157]; rfl) (by decide) rfl (fun ls hl => ?_)
                refine lv_goto (tgt := 96) hx hb dX6_shallowest_160 (by decide) ?_
                exact ih_96 t_157 t_152 t_145 t_140 _ _ _ _ hS (tq_w p_145 (by decide) (by decide)) (tq_w p_152 (by decide) (by decide)) (tq_w i11_t_157 (by decide) (by decide)) (tq_up e_157 i8_x5_96 (⟨by decide, by decide⟩ : tq_iv 1 1 1) (by decide) (by decide) hn_96) (lv_sub hl [0, 1, 2, 3, 5] rfl)
              · skip
                have i12_t_121 : tq_iv 1000 2147483647 t_121 := tq_cut (tq_top t_121) (tq_leR (tq_nlt c_127) (⟨by decide, by decide⟩ : tq_iv 1000 1000 1000) (tq_top t_121)) (by decide) (by decide)
                refine lv_iconst (v := 0) hx hb dX6_shallowest_130 (by decide) ?_
                exact hret 0 _ _ _ _ _ rfl ⟨_, rfl, tq_w (⟨by decide, by decide⟩ : tq_iv 0 0 0) (by decide) (by decide)⟩ hS dX6_shallowest_131
        exact K_96 _ 0 t_90 0 0 _ _ _ _ hS (tq_w (⟨by decide, by decide⟩ : tq_iv 0 0 0) (by decide) (by decide)) (tq_w i4_t_90 (by decide) (by decide)) (tq_w (⟨by decide, by decide⟩ : tq_iv 0 0 0) (by decide) (by decide)) (Nat.lt_succ_self _) (lv_sub hl [0, 1, 2, 3, 4] rfl)
      · skip
        have i13_x2_7 : tq_iv 0 998 x2_7 := tq_cut i2_x2_7 (tq_leR (tq_nlt c_8) (⟨by decide, by decide⟩ : tq_iv 0 0 0) i2_x2_7) (by decide) (by decide)
        refine lv_iconst (v := 0) hx hb dX6_shallowest_11 (by decide) ?_
        refine lv_istore_n (lv' := [(3, .int 0), (2, .int x2_7), (0, .ref h0), (1, .int x1)]) hx hb dX6_shallowest_12 rfl hl (by decide) rfl (fun ls hl => ?_)
        have K_13 : ∀ (n_13 : Nat) (x3_13 : Int32) (f : Nat → va_E) (H : Heap) (locs : List Loc) (ls : Array Slot), tq_S X Z (tq_A Z) s.heap f0 [] f H locs → tq_iv 0 999 x3_13 → (2147483647 - x3_13.toInt).toNat < n_13 → lv_has ls 7 [(3, .int x3_13), (2, .int x2_7), (0, .ref h0), (1, .int x1)] → W p l e R s m args below meth c H locs 0 0 Q (F0 m 13 ls []) := by
          intro n_13
          induction n_13 with
          | zero => intro x3_13 f H locs ls  hS i14_x3_13 hn_13; exact absurd hn_13 (Nat.not_lt_zero _)
          | succ n_13 ih_13 =>
            intro x3_13 f H locs ls  hS i14_x3_13 hn_13 hl
            refine lv_iload_n hx hb dX6_shallowest_13 rfl (lv_at hl 0 rfl) ?_
            refine lv_aload_n hx hb dX6_shallowest_14 rfl (lv_at hl 2 rfl) ?_
            refine gf_RX6_22 hC hS z_h0 dX6_shallowest_15 (fun t_15 p_15 q_15 => ?_)
            refine lv_icmp_ge (tgt := 75) hx hb dX6_shallowest_18 (by decide) (fun c_18 => ?_) (fun c_18 => ?_)
            · skip
              obtain ⟨t_75, e_75⟩ : ∃ y : Int32, y = x2_7 + (-1) := ⟨_, rfl⟩
              have i15_t_75 : tq_iv (-1) 997 t_75 := tq_w (tq_add e_75 i13_x2_7 (⟨by decide, by decide⟩ : tq_iv (-1) (-1) (-1)) (by decide) (by decide)) (by decide) (by decide)
              refine lv_iinc (v := t_75) (lv' := [(2, .int t_75), (3, .int x3_13), (0, .ref h0), (1, .int x1)]) hx hb dX6_shallowest_75 hl (k := 1) rfl (by rw [e_75]; rfl) (by decide) rfl (fun ls hl => ?_)
              refine lv_goto (tgt := 7) hx hb dX6_shallowest_78 (by decide) ?_
              exact ih_7 t_75 _ _ _ _ hS (tq_w i15_t_75 (by decide) (by decide)) (tq_down e_75 i13_x2_7 (⟨by decide, by decide⟩ : tq_iv (-1) (-1) (-1)) (by decide) (by decide) hn_7) (lv_sub hl [0, 2, 3] rfl)
            · skip
              have i16_x3_13 : tq_iv 0 998 x3_13 := tq_cut i14_x3_13 (tq_ltL (tq_nle c_18) i14_x3_13 p_15) (by decide) (by decide)
              have i17_t_15 : tq_iv 1 999 t_15 := tq_cut p_15 (tq_ltR (tq_nle c_18) i14_x3_13 p_15) (by decide) (by decide)
              refine lv_iload_n hx hb dX6_shallowest_21 rfl (lv_at hl 3 rfl) ?_
              refine lv_iload_n hx hb dX6_shallowest_22 rfl (lv_at hl 1 rfl) ?_
              refine lv_iload_n hx hb dX6_shallowest_23 rfl (lv_at hl 0 rfl) ?_
              refine tq_callSpi (As := [.int x2_7, .int x3_13]) (rest := [.int x1]) hC (c_X6_notch l X Z _ x2_7 x3_13) k_X6_notch ql_RX6_44 rfl (by decide) hS hl.1 rfl (Nat.le_of_ble_eq_true rfl) ⟨Nat.zero_le _, Nat.zero_le _⟩ dX6_shallowest_24 (fun t_24 p_24 => ?_)
              refine lv_iand hx hb dX6_shallowest_27 ?_
              refine lv_topi (fun t_27 e_27 => ?_)
              have K_36 : ∀ (y0_36 : Int32) (f : Nat → va_E) (H : Heap) (locs : List Loc) (ls : Array Slot), tq_S X Z (tq_A Z) s.heap f0 [] f H locs → tq_iv 0 1 y0_36 → lv_has ls 7 [(3, .int x3_13), (2, .int x2_7), (0, .ref h0), (1, .int x1)] → W p l e R s m args below meth c H locs 0 0 Q (F0 m 36 ls [.int y0_36]) := by
                intro y0_36 f H locs ls  hS i18_y0_36 hl
                refine lv_istore (lv' := [(4, .int y0_36), (3, .int x3_13), (2, .int x2_7), (0, .ref h0), (1, .int x1)]) hx hb dX6_shallowest_36 hl (by decide) rfl (fun ls hl => ?_)
                refine lv_aload_n hx hb dX6_shallowest_38 rfl (lv_at hl 3 rfl) ?_
                refine lv_iload_n hx hb dX6_shallowest_39 rfl (lv_at hl 2 rfl) ?_
                refine lv_iload_n hx hb dX6_shallowest_40 rfl (lv_at hl 1 rfl) ?_
                refine lv_iload hx hb dX6_shallowest_41 (lv_at hl 0 rfl) ?_
                have K_66 : ∀ (y0_66 : Nat) (y1_66 : Int32) (y2_66 : Int32) (y3_66 : Int32) (f : Nat → va_E) (H : Heap) (locs : List Loc) (ls : Array Slot), tq_z Z y0_66 (.inl 6) → tq_S X Z (tq_A Z) s.heap f0 [] f H locs → tq_iv 0 998 y1_66 → tq_iv 0 998 y2_66 → tq_iv (-2147483648) 1000 y3_66 → lv_has ls 7 [(3, .int x3_13), (2, .int x2_7), (0, .ref h0), (1, .int x1)] → W p l e R s m args below meth c H locs 0 0 Q (F0 m 66 ls [.int y3_66, .int y2_66, .int y1_66, .ref y0_66]) := by
                  intro y0_66 y1_66 y2_66 y3_66 f H locs ls z_y0_66 hS i19_y1_66 i20_y2_66 i21_y3_66 hl
                  refine tq_callVv (As := [.int y1_66, .int y2_66, .int y3_66]) (rest := []) hC (c_X6_putOnward l X Z _ y0_66 z_y0_66 y1_66 y2_66 y3_66) k_X6_putOnward ql_RX6_75 (by decide) rfl (by decide) hS z_y0_66 rfl hl.1 rfl (Nat.le_of_ble_eq_true rfl) ⟨Nat.zero_le _, Nat.zero_le _⟩ dX6_shallowest_66 (fun f1_66 H locs hS k_66 => ?_)
                  obtain ⟨t_69, e_69⟩ : ∃ y : Int32, y = x3_13 + 1 := ⟨_, rfl⟩
                  have i22_t_69 : tq_iv 1 999 t_69 := tq_w (tq_add e_69 i16_x3_13 (⟨by decide, by decide⟩ : tq_iv 1 1 1) (by decide) (by decide)) (by decide) (by decide)
                  refine lv_iinc (v := t_69) (lv' := [(3, .int t_69), (2, .int x2_7), (0, .ref h0), (1, .int x1)]) hx hb dX6_shallowest_69 hl (k := 0) rfl (by rw [e_69]; rfl) (by decide) rfl (fun ls hl => ?_)
                  refine lv_goto (tgt := 13) hx hb dX6_shallowest_72 (by decide) ?_
                  exact ih_13 t_69 _ _ _ _ hS (tq_w i22_t_69 (by decide) (by decide)) (tq_up e_69 i16_x3_13 (⟨by decide, by decide⟩ : tq_iv 1 1 1) (by decide) (by decide) hn_13) (lv_sub hl [0, 1, 2, 3] rfl)
                refine lv_if_eq (tgt := 63) hx hb dX6_shallowest_43 (by decide) (fun c_43 => ?_) (fun c_43 => ?_)
                · skip
                  have i23_y0_36 : tq_iv 0 0 y0_36 := tq_cut i18_y0_36 (tq_eqL c_43 (⟨by decide, by decide⟩ : tq_iv 0 0 0)) (by decide) (by decide)
                  refine lv_sipush (v := 1000) hx hb dX6_shallowest_63 (by decide) ?_
                  exact K_66 h0 x2_7 x3_13 1000 _ _ _ _ z_h0 hS (tq_w i13_x2_7 (by decide) (by decide)) (tq_w i16_x3_13 (by decide) (by decide)) (tq_w (⟨by decide, by decide⟩ : tq_iv 1000 1000 1000) (by decide) (by decide)) (lv_sub hl [1, 2, 3, 4] rfl)
                · skip
                  have i24_y0_36 : tq_iv 1 1 y0_36 := tq_w (tq_neLo c_43 i18_y0_36 (⟨by decide, by decide⟩ : tq_iv 0 0 0)) (by decide) (by decide)
                  refine lv_sipush (v := 1000) hx hb dX6_shallowest_46 (by decide) ?_
                  refine lv_iload_n hx hb dX6_shallowest_49 rfl (lv_at hl 1 rfl) ?_
                  refine lv_aload_n hx hb dX6_shallowest_50 rfl (lv_at hl 3 rfl) ?_
                  refine lv_iload_n hx hb dX6_shallowest_51 rfl (lv_at hl 2 rfl) ?_
                  refine lv_iload_n hx hb dX6_shallowest_52 rfl (lv_at hl 1 rfl) ?_
                  refine tq_callVpi (As := [.int x2_7, .int x3_13]) (rest := [.int x3_13, .int 1000, .int x3_13, .int x2_7, .ref h0]) hC (c_X6_depthBehind l X Z _ h0 z_h0 x2_7 x3_13) k_X6_depthBehind ql_RX6_89 rfl (by decide) hS z_h0 rfl hl.1 rfl (Nat.le_of_ble_eq_true rfl) ⟨Nat.zero_le _, Nat.zero_le _⟩ dX6_shallowest_53 (fun t_53 p_53 => ?_)
                  refine lv_iadd hx hb dX6_shallowest_56 ?_
                  refine lv_topi (fun t_56 e_56 => ?_)
                  refine va_mmin hx hb (hC.1.2.2.1.trans hl.1.symm) hown (hts _ ql_RX6_52) (hts _ qm_min_s) (hts _ qm_i) (hts _ qm_min_c) (Nat.le_trans (by decide) hC.2.2.1) (Nat.le_trans (Nat.le_of_ble_eq_true rfl) hC.2.2.2.1) (Nat.zero_le _) (Nat.zero_le _) dX6_shallowest_57 ?_
                  refine lv_topi (fun t_57 e_57 => ?_)
                  have i25_t_57 : tq_iv (-2147483648) 1000 t_57 := tq_w (tq_min e_57 (⟨by decide, by decide⟩ : tq_iv 1000 1000 1000) (tq_top t_56)) (by decide) (by decide)
                  refine lv_goto (tgt := 66) hx hb dX6_shallowest_60 (by decide) ?_
                  exact K_66 h0 x2_7 x3_13 t_57 _ _ _ _ z_h0 hS (tq_w i13_x2_7 (by decide) (by decide)) (tq_w i16_x3_13 (by decide) (by decide)) (tq_w i25_t_57 (by decide) (by decide)) (lv_sub hl [1, 2, 3, 4] rfl)
              refine lv_if_eq (tgt := 35) hx hb dX6_shallowest_28 (by decide) (fun c_28 => ?_) (fun c_28 => ?_)
              · skip
                have i26_t_27 : tq_iv 0 0 t_27 := tq_cut (tq_top t_27) (tq_eqL c_28 (⟨by decide, by decide⟩ : tq_iv 0 0 0)) (by decide) (by decide)
                refine lv_iconst (v := 0) hx hb dX6_shallowest_35 (by decide) ?_
                exact K_36 0 _ _ _ _ hS (tq_w (⟨by decide, by decide⟩ : tq_iv 0 0 0) (by decide) (by decide)) (lv_sub hl [0, 1, 2, 3] rfl)
              · skip
                refine lv_iconst (v := 1) hx hb dX6_shallowest_31 (by decide) ?_
                refine lv_goto (tgt := 36) hx hb dX6_shallowest_32 (by decide) ?_
                exact K_36 1 _ _ _ _ hS (tq_w (⟨by decide, by decide⟩ : tq_iv 1 1 1) (by decide) (by decide)) (lv_sub hl [0, 1, 2, 3] rfl)
        exact K_13 _ 0 _ _ _ _ hS (tq_w (⟨by decide, by decide⟩ : tq_iv 0 0 0) (by decide) (by decide)) (Nat.lt_succ_self _) (lv_sub hl [0, 1, 2, 3] rfl)
  exact K_7 _ t_5 _ _ _ _ hS (tq_w i1_t_5 (by decide) (by decide)) (Nat.lt_succ_self _) (lv_sub hl [0, 1, 2] rfl)
set_option maxHeartbeats 4000000 in
set_option maxRecDepth 100000 in
theorem c_X11_filing (l : Launch) (X : tq_X) (Z : tq_Z) (f : Nat → va_E) (h0 : Nat) (z_h0 : tq_z Z h0 (.inl 11)) (x1 : Int32) (x2 : Int32) (x3 : Int32) : tq_M l X Z f [] yX11_filing cX11_filing 6 (some .int) 4 [.ref h0, .int x1, .int x2, .int x3] (tq_ri (-2147483648) 2147483647) := by
  refine tq_starti (by decide) (Nat.le_of_ble_eq_true rfl) (fun p e R s m args below meth c Q hC hret hS ls hl => ?_)
  have hC : tq_C p R s m args c X (tq_A Z) RX11 cX11_filing 6 4 := hC
  have hx := hC.1.1
  have hb := hC.1.2.1
  have hown := hC.1.2.2.2.1
  have hts := hC.1.2.2.2.2
  have hl : lv_has ls 6 [(0, .ref h0), (1, .int x1), (2, .int x2), (3, .int x3)] := hl
  generalize hf0 : f = f0 at hret
  have hS : tq_S X Z (tq_A Z) s.heap f0 [] f s.heap [] := hf0 ▸ hS
  refine lv_aload_n hx hb dX11_filing_0 rfl (lv_at hl 0 rfl) ?_
  refine gf_RX11_29 hC hS z_h0 dX11_filing_1 (fun t_1 p_1 q_1 => ?_)
  refine lv_iload_n hx hb dX11_filing_4 rfl (lv_at hl 1 rfl) ?_
  refine tq_callVpi (As := [.int x1]) (rest := []) hC (c_X3_hasKey l X Z _ t_1 p_1 x1) k_X3_hasKey ql_RX11_137 rfl (by decide) hS p_1 rfl hl.1 rfl (Nat.le_of_ble_eq_true rfl) ⟨Nat.zero_le _, Nat.zero_le _⟩ dX11_filing_5 (fun t_5 p_5 => ?_)
  have K_22 : ∀ (f : Nat → va_E) (H : Heap) (locs : List Loc) (ls : Array Slot), tq_S X Z (tq_A Z) s.heap f0 [] f H locs → lv_has ls 6 [] → W p l e R s m args below meth c H locs 0 0 Q (F0 m 22 ls []) := by
    intro f H locs ls  hS hl
    refine lv_iconst (v := -1) hx hb dX11_filing_22 (by decide) ?_
    exact hret (-1) _ _ _ _ _ rfl ⟨_, rfl, tq_w (⟨by decide, by decide⟩ : tq_iv (-1) (-1) (-1)) (by decide) (by decide)⟩ hS dX11_filing_23
  refine lv_if_eq (tgt := 22) hx hb dX11_filing_8 (by decide) (fun c_8 => ?_) (fun c_8 => ?_)
  · skip
    have i1_t_5 : tq_iv 0 0 t_5 := tq_cut p_5 (tq_eqL c_8 (⟨by decide, by decide⟩ : tq_iv 0 0 0)) (by decide) (by decide)
    exact K_22 _ _ _ _ hS (lv_sub hl [] rfl)
  · skip
    have i2_t_5 : tq_iv 1 1 t_5 := tq_w (tq_neLo c_8 p_5 (⟨by decide, by decide⟩ : tq_iv 0 0 0)) (by decide) (by decide)
    refine lv_aload_n hx hb dX11_filing_11 rfl (lv_at hl 0 rfl) ?_
    refine gf_RX11_29 hC hS z_h0 dX11_filing_12 (fun t_12 p_12 q_12 => ?_)
    refine lv_iload_n hx hb dX11_filing_15 rfl (lv_at hl 2 rfl) ?_
    refine tq_callVpi (As := [.int x2]) (rest := []) hC (c_X3_hasLock l X Z _ t_12 p_12 x2) k_X3_hasLock ql_RX11_165 rfl (by decide) hS p_12 rfl hl.1 rfl (Nat.le_of_ble_eq_true rfl) ⟨Nat.zero_le _, Nat.zero_le _⟩ dX11_filing_16 (fun t_16 p_16 => ?_)
    refine lv_if_ne (tgt := 24) hx hb dX11_filing_19 (by decide) (fun c_19 => ?_) (fun c_19 => ?_)
    · skip
      have i3_t_16 : tq_iv 1 1 t_16 := tq_w (tq_neLo c_19 p_16 (⟨by decide, by decide⟩ : tq_iv 0 0 0)) (by decide) (by decide)
      refine lv_aload_n hx hb dX11_filing_24 rfl (lv_at hl 0 rfl) ?_
      refine gf_RX11_41 hC hS z_h0 dX11_filing_25 (fun t_25 p_25 q_25 => ?_)
      refine lv_iload_n hx hb dX11_filing_28 rfl (lv_at hl 1 rfl) ?_
      refine tq_callVpi (As := [.int x1]) (rest := []) hC (c_X7_bits l X Z _ t_25 p_25 x1) k_X7_bits ql_RX11_140 rfl (by decide) hS p_25 rfl hl.1 rfl (Nat.le_of_ble_eq_true rfl) ⟨Nat.zero_le _, Nat.zero_le _⟩ dX11_filing_29 (fun t_29 p_29 => ?_)
      refine lv_istore (lv' := [(4, .int t_29), (0, .ref h0), (1, .int x1), (2, .int x2), (3, .int x3)]) hx hb dX11_filing_32 hl (by decide) rfl (fun ls hl => ?_)
      refine lv_aload_n hx hb dX11_filing_34 rfl (lv_at hl 1 rfl) ?_
      refine gf_RX11_37 hC hS z_h0 dX11_filing_35 (fun t_35 p_35 q_35 => ?_)
      refine lv_aload_n hx hb dX11_filing_38 rfl (lv_at hl 1 rfl) ?_
      refine gf_RX11_41 hC hS z_h0 dX11_filing_39 (fun t_39 p_39 q_39 => ?_)
      refine lv_iload_n hx hb dX11_filing_42 rfl (lv_at hl 3 rfl) ?_
      refine tq_callVpi (As := [.int x2]) (rest := [.ref t_35]) hC (c_X7_pins l X Z _ t_39 p_39 x2) k_X7_pins ql_RX11_168 rfl (by decide) hS p_39 rfl hl.1 rfl (Nat.le_of_ble_eq_true rfl) ⟨Nat.zero_le _, Nat.zero_le _⟩ dX11_filing_43 (fun t_43 p_43 => ?_)
      refine lv_aload_n hx hb dX11_filing_46 rfl (lv_at hl 1 rfl) ?_
      refine gf_RX11_37 hC hS z_h0 dX11_filing_47 (fun t_47 p_47 q_47 => ?_)
      refine lv_iload hx hb dX11_filing_50 (lv_at hl 0 rfl) ?_
      refine tq_callVpi (As := [.int t_29]) (rest := [.int t_43, .ref t_35]) hC (c_X6_fromDepthsOf l X Z _ t_47 p_47 t_29) k_X6_fromDepthsOf ql_RX11_337 rfl (by decide) hS p_47 rfl hl.1 rfl (Nat.le_of_ble_eq_true rfl) ⟨Nat.zero_le _, Nat.zero_le _⟩ dX11_filing_52 (fun t_52 p_52 => ?_)
      refine lv_iand hx hb dX11_filing_55 ?_
      refine lv_topi (fun t_55 e_55 => ?_)
      refine tq_callVi (As := [.int t_55]) (rest := []) hC (c_X6_shallowest l X Z _ t_35 p_35 t_55) k_X6_shallowest ql_RX11_340 (by decide) rfl (by decide) hS p_35 rfl hl.1 rfl (Nat.le_of_ble_eq_true rfl) ⟨Nat.zero_le _, Nat.zero_le _⟩ dX11_filing_56 (fun t_56 f1_56 H locs p_56 hS k_56 => ?_)
      refine lv_istore (lv' := [(5, .int t_56), (4, .int t_29), (0, .ref h0), (1, .int x1), (2, .int x2), (3, .int x3)]) hx hb dX11_filing_59 hl (by decide) rfl (fun ls hl => ?_)
      refine lv_iload hx hb dX11_filing_61 (lv_at hl 0 rfl) ?_
      refine lv_if_ne (tgt := 68) hx hb dX11_filing_63 (by decide) (fun c_63 => ?_) (fun c_63 => ?_)
      · skip
        refine lv_iload_n hx hb dX11_filing_68 rfl (lv_at hl 5 rfl) ?_
        by_cases s_69_0 : Int32.toInt x3 = 0
        · refine lv_lookup (tgt := 96) hx hb dX11_filing_69 (by decide) (by first | (rw [s_69_0]; done) | (rw [s_69_0]; rfl)) (by decide) ?_
          refine lv_aload_n hx hb dX11_filing_96 rfl (lv_at hl 2 rfl) ?_
          refine gf_RX11_37 hC hS z_h0 dX11_filing_97 (fun t_97 p_97 q_97 => ?_)
          refine lv_iload hx hb dX11_filing_100 (lv_at hl 1 rfl) ?_
          refine lv_iload hx hb dX11_filing_102 (lv_at hl 0 rfl) ?_
          refine tq_callVpi (As := [.int t_29, .int t_56]) (rest := []) hC (c_X6_apart l X Z _ t_97 p_97 t_29 t_56) k_X6_apart ql_RX11_343 rfl (by decide) hS p_97 rfl hl.1 rfl (Nat.le_of_ble_eq_true rfl) ⟨Nat.zero_le _, Nat.zero_le _⟩ dX11_filing_104 (fun t_104 p_104 => ?_)
          exact hret t_104 _ _ _ _ _ rfl ⟨_, rfl, tq_w (tq_top t_104) (by decide) (by decide)⟩ hS dX11_filing_107
        by_cases s_69_1 : Int32.toInt x3 = 1
        · refine lv_lookup (tgt := 108) hx hb dX11_filing_69 (by decide) (by first | (rw [s_69_1]; done) | (rw [s_69_1]; rfl)) (by decide) ?_
          refine lv_aload_n hx hb dX11_filing_108 rfl (lv_at hl 2 rfl) ?_
          refine gf_RX11_37 hC hS z_h0 dX11_filing_109 (fun t_109 p_109 q_109 => ?_)
          refine lv_iload hx hb dX11_filing_112 (lv_at hl 0 rfl) ?_
          refine tq_callVpi (As := [.int t_56]) (rest := []) hC (c_X6_numberOf l X Z _ t_109 p_109 t_56) k_X6_numberOf ql_RX11_144 rfl (by decide) hS p_109 rfl hl.1 rfl (Nat.le_of_ble_eq_true rfl) ⟨Nat.zero_le _, Nat.zero_le _⟩ dX11_filing_114 (fun t_114 p_114 => ?_)
          exact hret t_114 _ _ _ _ _ rfl ⟨_, rfl, tq_w (tq_top t_114) (by decide) (by decide)⟩ hS dX11_filing_117
        refine lv_lookup (off := 49) (tgt := 118) hx hb dX11_filing_69 (by decide) (by simp only [Op.lookupswitch.offset_cons, Op.lookupswitch.offset_nil]; rw [if_neg (fun q => s_69_0 q.symm), if_neg (fun q => s_69_1 q.symm)]) (by decide) ?_
        refine lv_iconst (v := -1) hx hb dX11_filing_118 (by decide) ?_
        exact hret (-1) _ _ _ _ _ rfl ⟨_, rfl, tq_w (⟨by decide, by decide⟩ : tq_iv (-1) (-1) (-1)) (by decide) (by decide)⟩ hS dX11_filing_119
      · skip
        have i4_t_56 : tq_iv 0 0 t_56 := tq_cut (tq_top t_56) (tq_eqL c_63 (⟨by decide, by decide⟩ : tq_iv 0 0 0)) (by decide) (by decide)
        refine lv_iconst (v := -1) hx hb dX11_filing_66 (by decide) ?_
        exact hret (-1) _ _ _ _ _ rfl ⟨_, rfl, tq_w (⟨by decide, by decide⟩ : tq_iv (-1) (-1) (-1)) (by decide) (by decide)⟩ hS dX11_filing_67
    · skip
      have i5_t_16 : tq_iv 0 0 t_16 := tq_cut p_16 (tq_eqL c_19 (⟨by decide, by decide⟩ : tq_iv 0 0 0)) (by decide) (by decide)
      exact K_22 _ _ _ _ hS (lv_sub hl [] rfl)
set_option maxHeartbeats 4000000 in
set_option maxRecDepth 100000 in
theorem c_X5_isBroken (l : Launch) (X : tq_X) (Z : tq_Z) (f : Nat → va_E) (h0 : Nat) (z_h0 : tq_z Z h0 (.inl 5)) (x1 : Int32) (x2 : Int32) : tq_Mp l X Z f yX5_isBroken cX5_isBroken 5 (some .boolean) 2 [.ref h0, .int x1, .int x2] (tq_ri 0 1) := by
  refine tq_startip (by decide) (Nat.le_of_ble_eq_true rfl) (fun p e R s m args below meth c Q hC hret hS ls hl => ?_)
  have hC : tq_C p R s m args c X (tq_A Z) RX5 cX5_isBroken 5 2 := hC
  have hx := hC.1.1
  have hb := hC.1.2.1
  have hown := hC.1.2.2.2.1
  have hts := hC.1.2.2.2.2
  have hl : lv_has ls 5 [(0, .ref h0), (1, .int x1), (2, .int x2)] := hl
  refine lv_aload_n hx hb dX5_isBroken_0 rfl (lv_at hl 0 rfl) ?_
  refine gf_RX5_15 hC hS z_h0 dX5_isBroken_1 (fun t_1 p_1 q_1 => ?_)
  refine lv_iload_n hx hb dX5_isBroken_4 rfl (lv_at hl 1 rfl) ?_
  refine tq_callVpi (As := [.int x1]) (rest := []) hC (c_X7_bits l X Z _ t_1 p_1 x1) k_X7_bits ql_RX5_37 rfl (by decide) hS p_1 rfl hl.1 rfl (Nat.le_of_ble_eq_true rfl) ⟨Nat.zero_le _, Nat.zero_le _⟩ dX5_isBroken_5 (fun t_5 p_5 => ?_)
  refine lv_aload_n hx hb dX5_isBroken_8 rfl (lv_at hl 0 rfl) ?_
  refine gf_RX5_15 hC hS z_h0 dX5_isBroken_9 (fun t_9 p_9 q_9 => ?_)
  refine lv_iload_n hx hb dX5_isBroken_12 rfl (lv_at hl 2 rfl) ?_
  refine tq_callVpi (As := [.int x2]) (rest := [.int t_5]) hC (c_X7_pins l X Z _ t_9 p_9 x2) k_X7_pins ql_RX5_43 rfl (by decide) hS p_9 rfl hl.1 rfl (Nat.le_of_ble_eq_true rfl) ⟨Nat.zero_le _, Nat.zero_le _⟩ dX5_isBroken_13 (fun t_13 p_13 => ?_)
  refine tq_callSpi (As := [.int t_5, .int t_13]) (rest := []) hC (c_X6_fitsIn l X Z _ t_5 t_13) k_X6_fitsIn ql_RX5_46 rfl (by decide) hS hl.1 rfl (Nat.le_of_ble_eq_true rfl) ⟨Nat.zero_le _, Nat.zero_le _⟩ dX5_isBroken_16 (fun t_16 p_16 => ?_)
  refine lv_istore_n (lv' := [(3, .int t_16), (0, .ref h0), (1, .int x1), (2, .int x2)]) hx hb dX5_isBroken_19 rfl hl (by decide) rfl (fun ls hl => ?_)
  refine lv_iload_n hx hb dX5_isBroken_20 rfl (lv_at hl 0 rfl) ?_
  have K_43 : ∀ (y0_43 : Int32) (ls : Array Slot), lv_has ls 5 [(1, .int x1)] → W p l e R s m args below meth c s.heap [] 0 0 Q (F0 m 43 ls [.int y0_43]) := by
    intro y0_43 ls  hl
    refine lv_istore (lv' := [(4, .int y0_43), (1, .int x1)]) hx hb dX5_isBroken_43 hl (by decide) rfl (fun ls hl => ?_)
    refine lv_iload hx hb dX5_isBroken_45 (lv_at hl 0 rfl) ?_
    refine lv_iload_n hx hb dX5_isBroken_47 rfl (lv_at hl 1 rfl) ?_
    refine lv_ishr hx hb dX5_isBroken_48 ?_
    refine lv_topi (fun t_48 e_48 => ?_)
    refine lv_iconst (v := 1) hx hb dX5_isBroken_49 (by decide) ?_
    refine lv_iand hx hb dX5_isBroken_50 ?_
    refine lv_topi (fun t_50 e_50 => ?_)
    have i1_t_50 : tq_iv 0 1 t_50 := tq_and2 e_50 (⟨by decide, by decide⟩ : tq_iv 1 1 1) (by decide)
    have K_59 : ∀ (y0_59 : Int32) (ls : Array Slot), tq_iv 0 1 y0_59 → lv_has ls 5 [] → W p l e R s m args below meth c s.heap [] 0 0 Q (F0 m 59 ls [.int y0_59]) := by
      intro y0_59 ls  i2_y0_59 hl
      exact hret y0_59 _ _ (tq_nb i2_y0_59 (by decide) (by decide)) ⟨_, rfl, tq_w i2_y0_59 (by decide) (by decide)⟩ dX5_isBroken_59
    refine lv_if_eq (tgt := 58) hx hb dX5_isBroken_51 (by decide) (fun c_51 => ?_) (fun c_51 => ?_)
    · skip
      have i3_t_50 : tq_iv 0 0 t_50 := tq_cut i1_t_50 (tq_eqL c_51 (⟨by decide, by decide⟩ : tq_iv 0 0 0)) (by decide) (by decide)
      refine lv_iconst (v := 0) hx hb dX5_isBroken_58 (by decide) ?_
      exact K_59 0 _ (tq_w (⟨by decide, by decide⟩ : tq_iv 0 0 0) (by decide) (by decide)) (lv_sub hl [] rfl)
    · skip
      have i4_t_50 : tq_iv 1 1 t_50 := tq_w (tq_neLo c_51 i1_t_50 (⟨by decide, by decide⟩ : tq_iv 0 0 0)) (by decide) (by decide)
      refine lv_iconst (v := 1) hx hb dX5_isBroken_54 (by decide) ?_
      refine lv_goto (tgt := 59) hx hb dX5_isBroken_55 (by decide) ?_
      exact K_59 1 _ (tq_w (⟨by decide, by decide⟩ : tq_iv 1 1 1) (by decide) (by decide)) (lv_sub hl [] rfl)
  refine lv_if_eq (tgt := 35) hx hb dX5_isBroken_21 (by decide) (fun c_21 => ?_) (fun c_21 => ?_)
  · skip
    have i5_t_16 : tq_iv 0 0 t_16 := tq_cut p_16 (tq_eqL c_21 (⟨by decide, by decide⟩ : tq_iv 0 0 0)) (by decide) (by decide)
    refine lv_aload_n hx hb dX5_isBroken_35 rfl (lv_at hl 1 rfl) ?_
    refine gf_RX5_9 hC hS z_h0 dX5_isBroken_36 (fun t_36 p_36 q_36 => ?_)
    refine lv_iload_n hx hb dX5_isBroken_39 rfl (lv_at hl 3 rfl) ?_
    refine tq_callVpi (As := [.int x2]) (rest := []) hC (c_X3_mustOf l X Z _ t_36 p_36 x2) k_X3_mustOf ql_RX5_55 rfl (by decide) hS p_36 rfl hl.1 rfl (Nat.le_of_ble_eq_true rfl) ⟨Nat.zero_le _, Nat.zero_le _⟩ dX5_isBroken_40 (fun t_40 p_40 => ?_)
    exact K_43 t_40 _ (lv_sub hl [2] rfl)
  · skip
    have i6_t_16 : tq_iv 1 1 t_16 := tq_w (tq_neLo c_21 p_16 (⟨by decide, by decide⟩ : tq_iv 0 0 0)) (by decide) (by decide)
    refine lv_aload_n hx hb dX5_isBroken_24 rfl (lv_at hl 1 rfl) ?_
    refine gf_RX5_9 hC hS z_h0 dX5_isBroken_25 (fun t_25 p_25 q_25 => ?_)
    refine lv_iload_n hx hb dX5_isBroken_28 rfl (lv_at hl 3 rfl) ?_
    refine tq_callVpi (As := [.int x2]) (rest := []) hC (c_X3_neverOf l X Z _ t_25 p_25 x2) k_X3_neverOf ql_RX5_52 rfl (by decide) hS p_25 rfl hl.1 rfl (Nat.le_of_ble_eq_true rfl) ⟨Nat.zero_le _, Nat.zero_le _⟩ dX5_isBroken_29 (fun t_29 p_29 => ?_)
    refine lv_goto (tgt := 43) hx hb dX5_isBroken_32 (by decide) ?_
    exact K_43 t_29 _ (lv_sub hl [2] rfl)
set_option maxHeartbeats 4000000 in
set_option maxRecDepth 100000 in
theorem c_X5_lawfulPins (l : Launch) (X : tq_X) (Z : tq_Z) (f : Nat → va_E) (h0 : Nat) (z_h0 : tq_z Z h0 (.inl 5)) (x1 : Int32) : tq_Mp l X Z f yX5_lawfulPins cX5_lawfulPins 3 (some .int) 3 [.ref h0, .int x1] (tq_ri (-2147483648) 2147483647) := by
  refine tq_startip (by decide) (Nat.le_of_ble_eq_true rfl) (fun p e R s m args below meth c Q hC hret hS ls hl => ?_)
  have hC : tq_C p R s m args c X (tq_A Z) RX5 cX5_lawfulPins 3 3 := hC
  have hx := hC.1.1
  have hb := hC.1.2.1
  have hown := hC.1.2.2.2.1
  have hts := hC.1.2.2.2.2
  have hl : lv_has ls 3 [(0, .ref h0), (1, .int x1)] := hl
  refine lv_aload_n hx hb dX5_lawfulPins_0 rfl (lv_at hl 0 rfl) ?_
  refine gf_RX5_9 hC hS z_h0 dX5_lawfulPins_1 (fun t_1 p_1 q_1 => ?_)
  refine lv_iload_n hx hb dX5_lawfulPins_4 rfl (lv_at hl 1 rfl) ?_
  refine tq_callVpi (As := [.int x1]) (rest := []) hC (c_X3_mustOf l X Z _ t_1 p_1 x1) k_X3_mustOf ql_RX5_55 rfl (by decide) hS p_1 rfl hl.1 rfl (Nat.le_of_ble_eq_true rfl) ⟨Nat.zero_le _, Nat.zero_le _⟩ dX5_lawfulPins_5 (fun t_5 p_5 => ?_)
  refine lv_istore_n (lv' := [(2, .int t_5), (0, .ref h0), (1, .int x1)]) hx hb dX5_lawfulPins_8 rfl hl (by decide) rfl (fun ls hl => ?_)
  refine lv_iload_n hx hb dX5_lawfulPins_9 rfl (lv_at hl 0 rfl) ?_
  have K_29 : ∀ (y0_29 : Int32) (ls : Array Slot), lv_has ls 3 [] → W p l e R s m args below meth c s.heap [] 0 0 Q (F0 m 29 ls [.int y0_29]) := by
    intro y0_29 ls  hl
    exact hret y0_29 _ _ rfl ⟨_, rfl, tq_w (tq_top y0_29) (by decide) (by decide)⟩ dX5_lawfulPins_29
  refine lv_if_ne (tgt := 24) hx hb dX5_lawfulPins_10 (by decide) (fun c_10 => ?_) (fun c_10 => ?_)
  · skip
    refine lv_aload_n hx hb dX5_lawfulPins_24 rfl (lv_at hl 1 rfl) ?_
    refine lv_iload_n hx hb dX5_lawfulPins_25 rfl (lv_at hl 0 rfl) ?_
    refine tq_callVpi (As := [.int t_5]) (rest := []) hC (c_X5_pinsFor l X Z _ h0 z_h0 t_5) k_X5_pinsFor ql_RX5_58 rfl (by decide) hS z_h0 rfl hl.1 rfl (Nat.le_of_ble_eq_true rfl) ⟨Nat.zero_le _, Nat.zero_le _⟩ dX5_lawfulPins_26 (fun t_26 p_26 => ?_)
    exact K_29 t_26 _ (lv_sub hl [] rfl)
  · skip
    have i1_t_5 : tq_iv 0 0 t_5 := tq_cut (tq_top t_5) (tq_eqL c_10 (⟨by decide, by decide⟩ : tq_iv 0 0 0)) (by decide) (by decide)
    refine lv_aload_n hx hb dX5_lawfulPins_13 rfl (lv_at hl 1 rfl) ?_
    refine gf_RX5_15 hC hS z_h0 dX5_lawfulPins_14 (fun t_14 p_14 q_14 => ?_)
    refine lv_iload_n hx hb dX5_lawfulPins_17 rfl (lv_at hl 2 rfl) ?_
    refine tq_callVpi (As := [.int x1]) (rest := []) hC (c_X7_pins l X Z _ t_14 p_14 x1) k_X7_pins ql_RX5_43 rfl (by decide) hS p_14 rfl hl.1 rfl (Nat.le_of_ble_eq_true rfl) ⟨Nat.zero_le _, Nat.zero_le _⟩ dX5_lawfulPins_18 (fun t_18 p_18 => ?_)
    refine lv_goto (tgt := 29) hx hb dX5_lawfulPins_21 (by decide) ?_
    exact K_29 t_18 _ (lv_sub hl [] rfl)
set_option maxHeartbeats 4000000 in
set_option maxRecDepth 100000 in
theorem c_X5_isStray (l : Launch) (X : tq_X) (Z : tq_Z) (f : Nat → va_E) (h0 : Nat) (z_h0 : tq_z Z h0 (.inl 5)) (x1 : Int32) (x2 : Int32) : tq_Mp l X Z f yX5_isStray cX5_isStray 3 (some .boolean) 4 [.ref h0, .int x1, .int x2] (tq_ri 0 1) := by
  refine tq_startip (by decide) (Nat.le_of_ble_eq_true rfl) (fun p e R s m args below meth c Q hC hret hS ls hl => ?_)
  have hC : tq_C p R s m args c X (tq_A Z) RX5 cX5_isStray 3 4 := hC
  have hx := hC.1.1
  have hb := hC.1.2.1
  have hown := hC.1.2.2.2.1
  have hts := hC.1.2.2.2.2
  have hl : lv_has ls 3 [(0, .ref h0), (1, .int x1), (2, .int x2)] := hl
  refine lv_aload_n hx hb dX5_isStray_0 rfl (lv_at hl 0 rfl) ?_
  refine gf_RX5_9 hC hS z_h0 dX5_isStray_1 (fun t_1 p_1 q_1 => ?_)
  refine lv_iload_n hx hb dX5_isStray_4 rfl (lv_at hl 2 rfl) ?_
  refine tq_callVpi (As := [.int x2]) (rest := []) hC (c_X3_neverOf l X Z _ t_1 p_1 x2) k_X3_neverOf ql_RX5_52 rfl (by decide) hS p_1 rfl hl.1 rfl (Nat.le_of_ble_eq_true rfl) ⟨Nat.zero_le _, Nat.zero_le _⟩ dX5_isStray_5 (fun t_5 p_5 => ?_)
  refine lv_iload_n hx hb dX5_isStray_8 rfl (lv_at hl 1 rfl) ?_
  refine lv_ishr hx hb dX5_isStray_9 ?_
  refine lv_topi (fun t_9 e_9 => ?_)
  refine lv_iconst (v := 1) hx hb dX5_isStray_10 (by decide) ?_
  refine lv_iand hx hb dX5_isStray_11 ?_
  refine lv_topi (fun t_11 e_11 => ?_)
  have i1_t_11 : tq_iv 0 1 t_11 := tq_and2 e_11 (⟨by decide, by decide⟩ : tq_iv 1 1 1) (by decide)
  have K_39 : ∀ (y0_39 : Int32) (ls : Array Slot), tq_iv 0 1 y0_39 → lv_has ls 3 [] → W p l e R s m args below meth c s.heap [] 0 0 Q (F0 m 39 ls [.int y0_39]) := by
    intro y0_39 ls  i2_y0_39 hl
    exact hret y0_39 _ _ (tq_nb i2_y0_39 (by decide) (by decide)) ⟨_, rfl, tq_w i2_y0_39 (by decide) (by decide)⟩ dX5_isStray_39
  have K_38 : ∀ (ls : Array Slot), lv_has ls 3 [] → W p l e R s m args below meth c s.heap [] 0 0 Q (F0 m 38 ls []) := by
    intro  ls  hl
    refine lv_iconst (v := 0) hx hb dX5_isStray_38 (by decide) ?_
    exact K_39 0 _ (tq_w (⟨by decide, by decide⟩ : tq_iv 0 0 0) (by decide) (by decide)) (lv_sub hl [] rfl)
  refine lv_if_eq (tgt := 38) hx hb dX5_isStray_12 (by decide) (fun c_12 => ?_) (fun c_12 => ?_)
  · skip
    have i3_t_11 : tq_iv 0 0 t_11 := tq_cut i1_t_11 (tq_eqL c_12 (⟨by decide, by decide⟩ : tq_iv 0 0 0)) (by decide) (by decide)
    exact K_38 _ (lv_sub hl [] rfl)
  · skip
    have i4_t_11 : tq_iv 1 1 t_11 := tq_w (tq_neLo c_12 i1_t_11 (⟨by decide, by decide⟩ : tq_iv 0 0 0)) (by decide) (by decide)
    refine lv_aload_n hx hb dX5_isStray_15 rfl (lv_at hl 0 rfl) ?_
    refine gf_RX5_15 hC hS z_h0 dX5_isStray_16 (fun t_16 p_16 q_16 => ?_)
    refine lv_iload_n hx hb dX5_isStray_19 rfl (lv_at hl 1 rfl) ?_
    refine tq_callVpi (As := [.int x1]) (rest := []) hC (c_X7_bits l X Z _ t_16 p_16 x1) k_X7_bits ql_RX5_37 rfl (by decide) hS p_16 rfl hl.1 rfl (Nat.le_of_ble_eq_true rfl) ⟨Nat.zero_le _, Nat.zero_le _⟩ dX5_isStray_20 (fun t_20 p_20 => ?_)
    refine lv_aload_n hx hb dX5_isStray_23 rfl (lv_at hl 0 rfl) ?_
    refine lv_iload_n hx hb dX5_isStray_24 rfl (lv_at hl 2 rfl) ?_
    refine tq_callVpi (As := [.int x2]) (rest := [.int t_20]) hC (c_X5_lawfulPins l X Z _ h0 z_h0 x2) k_X5_lawfulPins ql_RX5_61 rfl (by decide) hS z_h0 rfl hl.1 rfl (Nat.le_of_ble_eq_true rfl) ⟨Nat.zero_le _, Nat.zero_le _⟩ dX5_isStray_25 (fun t_25 p_25 => ?_)
    refine tq_callSpi (As := [.int t_20, .int t_25]) (rest := []) hC (c_X6_fitsIn l X Z _ t_20 t_25) k_X6_fitsIn ql_RX5_46 rfl (by decide) hS hl.1 rfl (Nat.le_of_ble_eq_true rfl) ⟨Nat.zero_le _, Nat.zero_le _⟩ dX5_isStray_28 (fun t_28 p_28 => ?_)
    refine lv_if_eq (tgt := 38) hx hb dX5_isStray_31 (by decide) (fun c_31 => ?_) (fun c_31 => ?_)
    · skip
      have i5_t_28 : tq_iv 0 0 t_28 := tq_cut p_28 (tq_eqL c_31 (⟨by decide, by decide⟩ : tq_iv 0 0 0)) (by decide) (by decide)
      exact K_38 _ (lv_sub hl [] rfl)
    · skip
      have i6_t_28 : tq_iv 1 1 t_28 := tq_w (tq_neLo c_31 p_28 (⟨by decide, by decide⟩ : tq_iv 0 0 0)) (by decide) (by decide)
      refine lv_iconst (v := 1) hx hb dX5_isStray_34 (by decide) ?_
      refine lv_goto (tgt := 39) hx hb dX5_isStray_35 (by decide) ?_
      exact K_39 1 _ (tq_w (⟨by decide, by decide⟩ : tq_iv 1 1 1) (by decide) (by decide)) (lv_sub hl [] rfl)
set_option maxHeartbeats 4000000 in
set_option maxRecDepth 100000 in
theorem c_X5_tellPairs (l : Launch) (X : tq_X) (Z : tq_Z) (f : Nat → va_E) (h0 : Nat) (z_h0 : tq_z Z h0 (.inl 5)) (x1 : Int32) (x2 : Int32) (i_x2 : tq_iv 0 1 x2) : tq_Mp l X Z f yX5_tellPairs cX5_tellPairs 8 (some .int) 5 [.ref h0, .int x1, .int x2] (tq_ri (-2147483648) 2147483647) := by
  refine tq_startip (by decide) (Nat.le_of_ble_eq_true rfl) (fun p e R s m args below meth c Q hC hret hS ls hl => ?_)
  have hC : tq_C p R s m args c X (tq_A Z) RX5 cX5_tellPairs 8 5 := hC
  have hx := hC.1.1
  have hb := hC.1.2.1
  have hown := hC.1.2.2.2.1
  have hts := hC.1.2.2.2.2
  have hl : lv_has ls 8 [(0, .ref h0), (1, .int x1), (2, .int x2)] := hl
  refine lv_iconst (v := 0) hx hb dX5_tellPairs_0 (by decide) ?_
  refine lv_istore_n (lv' := [(3, .int 0), (0, .ref h0), (1, .int x1), (2, .int x2)]) hx hb dX5_tellPairs_1 rfl hl (by decide) rfl (fun ls hl => ?_)
  refine lv_iconst (v := -1) hx hb dX5_tellPairs_2 (by decide) ?_
  refine lv_istore (lv' := [(4, .int (-1)), (3, .int 0), (0, .ref h0), (1, .int x1), (2, .int x2)]) hx hb dX5_tellPairs_3 hl (by decide) rfl (fun ls hl => ?_)
  refine lv_iconst (v := -1) hx hb dX5_tellPairs_5 (by decide) ?_
  refine lv_istore (lv' := [(5, .int (-1)), (4, .int (-1)), (3, .int 0), (0, .ref h0), (1, .int x1), (2, .int x2)]) hx hb dX5_tellPairs_6 hl (by decide) rfl (fun ls hl => ?_)
  refine lv_iconst (v := 0) hx hb dX5_tellPairs_8 (by decide) ?_
  refine lv_istore (lv' := [(6, .int 0), (5, .int (-1)), (4, .int (-1)), (3, .int 0), (0, .ref h0), (1, .int x1), (2, .int x2)]) hx hb dX5_tellPairs_9 hl (by decide) rfl (fun ls hl => ?_)
  have K_11 : ∀ (n_11 : Nat) (x6_11 : Int32) (x5_11 : Int32) (x4_11 : Int32) (x3_11 : Int32) (ls : Array Slot), tq_iv (-1) 7 x4_11 → tq_iv (-1) 2147483646 x5_11 → tq_iv 0 8 x6_11 → (2147483647 - x6_11.toInt).toNat < n_11 → lv_has ls 8 [(6, .int x6_11), (5, .int x5_11), (4, .int x4_11), (3, .int x3_11), (0, .ref h0), (1, .int x1), (2, .int x2)] → W p l e R s m args below meth c s.heap [] 0 0 Q (F0 m 11 ls []) := by
    intro n_11
    induction n_11 with
    | zero => intro x6_11 x5_11 x4_11 x3_11 ls  i1_x4_11 i2_x5_11 i3_x6_11 hn_11; exact absurd hn_11 (Nat.not_lt_zero _)
    | succ n_11 ih_11 =>
      intro x6_11 x5_11 x4_11 x3_11 ls  i1_x4_11 i2_x5_11 i3_x6_11 hn_11 hl
      refine lv_iload hx hb dX5_tellPairs_11 (lv_at hl 0 rfl) ?_
      refine lv_aload_n hx hb dX5_tellPairs_13 rfl (lv_at hl 4 rfl) ?_
      refine gf_RX5_9 hC hS z_h0 dX5_tellPairs_14 (fun t_14 p_14 q_14 => ?_)
      refine gf_RX5_34 hC hS p_14 dX5_tellPairs_17 (fun t_17 p_17 q_17 => ?_)
      refine lv_icmp_ge (tgt := 108) hx hb dX5_tellPairs_20 (by decide) (fun c_20 => ?_) (fun c_20 => ?_)
      · skip
        refine lv_iload_n hx hb dX5_tellPairs_108 rfl (lv_at hl 5 rfl) ?_
        by_cases s_109_0 : Int32.toInt x1 = 0
        · refine lv_tableIn (tgt := 136) hx hb dX5_tellPairs_109 (by omega) (by omega) (by first | (rw [s_109_0]; done) | (rw [s_109_0]; rfl)) (by decide) ?_
          have i4_x1 : tq_iv 0 0 x1 := ⟨by omega, by omega⟩
          refine lv_iload_n hx hb dX5_tellPairs_136 rfl (lv_at hl 3 rfl) ?_
          exact hret x3_11 _ _ rfl ⟨_, rfl, tq_w (tq_top x3_11) (by decide) (by decide)⟩ dX5_tellPairs_137
        by_cases s_109_1 : Int32.toInt x1 = 1
        · refine lv_tableIn (tgt := 138) hx hb dX5_tellPairs_109 (by omega) (by omega) (by first | (rw [s_109_1]; done) | (rw [s_109_1]; rfl)) (by decide) ?_
          have i5_x1 : tq_iv 1 1 x1 := ⟨by omega, by omega⟩
          refine lv_iload hx hb dX5_tellPairs_138 (lv_at hl 2 rfl) ?_
          exact hret x4_11 _ _ rfl ⟨_, rfl, tq_w i1_x4_11 (by decide) (by decide)⟩ dX5_tellPairs_140
        by_cases s_109_2 : Int32.toInt x1 = 2
        · refine lv_tableIn (tgt := 141) hx hb dX5_tellPairs_109 (by omega) (by omega) (by first | (rw [s_109_2]; done) | (rw [s_109_2]; rfl)) (by decide) ?_
          have i6_x1 : tq_iv 2 2 x1 := ⟨by omega, by omega⟩
          refine lv_iload hx hb dX5_tellPairs_141 (lv_at hl 1 rfl) ?_
          exact hret x5_11 _ _ rfl ⟨_, rfl, tq_w i2_x5_11 (by decide) (by decide)⟩ dX5_tellPairs_143
        refine lv_tableOut (tgt := 144) hx hb dX5_tellPairs_109 (by omega) (by decide) ?_
        refine lv_iconst (v := -1) hx hb dX5_tellPairs_144 (by decide) ?_
        exact hret (-1) _ _ rfl ⟨_, rfl, tq_w (⟨by decide, by decide⟩ : tq_iv (-1) (-1) (-1)) (by decide) (by decide)⟩ dX5_tellPairs_145
      · skip
        have i7_x6_11 : tq_iv 0 7 x6_11 := tq_cut i3_x6_11 (tq_ltL (tq_nle c_20) i3_x6_11 p_17) (by decide) (by decide)
        have i8_t_17 : tq_iv 1 8 t_17 := tq_cut p_17 (tq_ltR (tq_nle c_20) i3_x6_11 p_17) (by decide) (by decide)
        refine lv_iconst (v := 0) hx hb dX5_tellPairs_23 (by decide) ?_
        refine lv_istore (lv' := [(7, .int 0), (6, .int x6_11), (5, .int x5_11), (4, .int x4_11), (3, .int x3_11), (0, .ref h0), (1, .int x1), (2, .int x2)]) hx hb dX5_tellPairs_24 hl (by decide) rfl (fun ls hl => ?_)
        have K_26 : ∀ (n_26 : Nat) (x7_26 : Int32) (x5_26 : Int32) (x4_26 : Int32) (x3_26 : Int32) (ls : Array Slot), tq_iv (-1) 7 x4_26 → tq_iv (-1) 2147483646 x5_26 → tq_iv 0 2147483647 x7_26 → (2147483647 - x7_26.toInt).toNat < n_26 → lv_has ls 8 [(7, .int x7_26), (6, .int x6_11), (5, .int x5_26), (4, .int x4_26), (3, .int x3_26), (0, .ref h0), (1, .int x1), (2, .int x2)] → W p l e R s m args below meth c s.heap [] 0 0 Q (F0 m 26 ls []) := by
          intro n_26
          induction n_26 with
          | zero => intro x7_26 x5_26 x4_26 x3_26 ls  i9_x4_26 i10_x5_26 i11_x7_26 hn_26; exact absurd hn_26 (Nat.not_lt_zero _)
          | succ n_26 ih_26 =>
            intro x7_26 x5_26 x4_26 x3_26 ls  i9_x4_26 i10_x5_26 i11_x7_26 hn_26 hl
            refine lv_iload hx hb dX5_tellPairs_26 (lv_at hl 0 rfl) ?_
            refine lv_aload_n hx hb dX5_tellPairs_28 rfl (lv_at hl 5 rfl) ?_
            refine gf_RX5_9 hC hS z_h0 dX5_tellPairs_29 (fun t_29 p_29 q_29 => ?_)
            refine gf_RX5_64 hC hS p_29 dX5_tellPairs_32 (fun t_32 p_32 q_32 => ?_)
            refine lv_icmp_ge (tgt := 102) hx hb dX5_tellPairs_35 (by decide) (fun c_35 => ?_) (fun c_35 => ?_)
            · skip
              obtain ⟨t_102, e_102⟩ : ∃ y : Int32, y = x6_11 + 1 := ⟨_, rfl⟩
              have i12_t_102 : tq_iv 1 8 t_102 := tq_w (tq_add e_102 i7_x6_11 (⟨by decide, by decide⟩ : tq_iv 1 1 1) (by decide) (by decide)) (by decide) (by decide)
              refine lv_iinc (v := t_102) (lv' := [(6, .int t_102), (7, .int x7_26), (5, .int x5_26), (4, .int x4_26), (3, .int x3_26), (0, .ref h0), (1, .int x1), (2, .int x2)]) hx hb dX5_tellPairs_102 hl (k := 1) rfl (by rw [e_102]; rfl) (by decide) rfl (fun ls hl => ?_)
              refine lv_goto (tgt := 11) hx hb dX5_tellPairs_105 (by decide) ?_
              exact ih_11 t_102 x5_26 x4_26 x3_26 _ (tq_w i9_x4_26 (by decide) (by decide)) (tq_w i10_x5_26 (by decide) (by decide)) (tq_w i12_t_102 (by decide) (by decide)) (tq_up e_102 i7_x6_11 (⟨by decide, by decide⟩ : tq_iv 1 1 1) (by decide) (by decide) hn_11) (lv_sub hl [0, 2, 3, 4, 5, 6, 7] rfl)
            · skip
              have i13_x7_26 : tq_iv 0 2147483646 x7_26 := tq_cut i11_x7_26 (tq_ltL (tq_nle c_35) i11_x7_26 (tq_top t_32)) (by decide) (by decide)
              have i14_t_32 : tq_iv 1 2147483647 t_32 := tq_cut (tq_top t_32) (tq_ltR (tq_nle c_35) i11_x7_26 (tq_top t_32)) (by decide) (by decide)
              refine lv_iload_n hx hb dX5_tellPairs_38 rfl (lv_at hl 7 rfl) ?_
              have K_96 : ∀ (x5_96 : Int32) (x4_96 : Int32) (x3_96 : Int32) (ls : Array Slot), tq_iv (-1) 7 x4_96 → tq_iv (-1) 2147483646 x5_96 → lv_has ls 8 [(7, .int x7_26), (6, .int x6_11), (5, .int x5_96), (4, .int x4_96), (3, .int x3_96), (0, .ref h0), (1, .int x1), (2, .int x2)] → W p l e R s m args below meth c s.heap [] 0 0 Q (F0 m 96 ls []) := by
                intro x5_96 x4_96 x3_96 ls  i15_x4_96 i16_x5_96 hl
                obtain ⟨t_96, e_96⟩ : ∃ y : Int32, y = x7_26 + 1 := ⟨_, rfl⟩
                have i17_t_96 : tq_iv 1 2147483647 t_96 := tq_w (tq_add e_96 i13_x7_26 (⟨by decide, by decide⟩ : tq_iv 1 1 1) (by decide) (by decide)) (by decide) (by decide)
                refine lv_iinc (v := t_96) (lv' := [(7, .int t_96), (6, .int x6_11), (5, .int x5_96), (4, .int x4_96), (3, .int x3_96), (0, .ref h0), (1, .int x1), (2, .int x2)]) hx hb dX5_tellPairs_96 hl (k := 0) rfl (by rw [e_96]; rfl) (by decide) rfl (fun ls hl => ?_)
                refine lv_goto (tgt := 26) hx hb dX5_tellPairs_99 (by decide) ?_
                exact ih_26 t_96 x5_96 x4_96 x3_96 _ (tq_w i15_x4_96 (by decide) (by decide)) (tq_w i16_x5_96 (by decide) (by decide)) (tq_w i17_t_96 (by decide) (by decide)) (tq_up e_96 i13_x7_26 (⟨by decide, by decide⟩ : tq_iv 1 1 1) (by decide) (by decide) hn_26) (lv_sub hl [0, 1, 2, 3, 4, 5, 6, 7] rfl)
              have K_67 : ∀ (ls : Array Slot), lv_has ls 8 [(7, .int x7_26), (6, .int x6_11), (5, .int x5_26), (4, .int x4_26), (3, .int x3_26), (0, .ref h0), (1, .int x1), (2, .int x2)] → W p l e R s m args below meth c s.heap [] 0 0 Q (F0 m 67 ls []) := by
                intro  ls  hl
                refine lv_iload_n hx hb dX5_tellPairs_67 rfl (lv_at hl 4 rfl) ?_
                have K_78 : ∀ (y0_78 : Int32) (ls : Array Slot), tq_iv (-1) 7 y0_78 → lv_has ls 8 [(7, .int x7_26), (6, .int x6_11), (5, .int x5_26), (3, .int x3_26), (0, .ref h0), (1, .int x1), (2, .int x2)] → W p l e R s m args below meth c s.heap [] 0 0 Q (F0 m 78 ls [.int y0_78]) := by
                  intro y0_78 ls  i18_y0_78 hl
                  refine lv_istore (lv' := [(4, .int y0_78), (7, .int x7_26), (6, .int x6_11), (5, .int x5_26), (3, .int x3_26), (0, .ref h0), (1, .int x1), (2, .int x2)]) hx hb dX5_tellPairs_78 hl (by decide) rfl (fun ls hl => ?_)
                  refine lv_iload_n hx hb dX5_tellPairs_80 rfl (lv_at hl 4 rfl) ?_
                  have K_91 : ∀ (y0_91 : Int32) (ls : Array Slot), tq_iv (-1) 2147483646 y0_91 → lv_has ls 8 [(4, .int y0_78), (7, .int x7_26), (6, .int x6_11), (3, .int x3_26), (0, .ref h0), (1, .int x1), (2, .int x2)] → W p l e R s m args below meth c s.heap [] 0 0 Q (F0 m 91 ls [.int y0_91]) := by
                    intro y0_91 ls  i19_y0_91 hl
                    refine lv_istore (lv' := [(5, .int y0_91), (4, .int y0_78), (7, .int x7_26), (6, .int x6_11), (3, .int x3_26), (0, .ref h0), (1, .int x1), (2, .int x2)]) hx hb dX5_tellPairs_91 hl (by decide) rfl (fun ls hl => ?_)
                    obtain ⟨t_93, e_93⟩ : ∃ y : Int32, y = x3_26 + 1 := ⟨_, rfl⟩
                    refine lv_iinc (v := t_93) (lv' := [(3, .int t_93), (5, .int y0_91), (4, .int y0_78), (7, .int x7_26), (6, .int x6_11), (0, .ref h0), (1, .int x1), (2, .int x2)]) hx hb dX5_tellPairs_93 hl (k := 4) rfl (by rw [e_93]; rfl) (by decide) rfl (fun ls hl => ?_)
                    exact K_96 y0_91 y0_78 t_93 _ (tq_w i18_y0_78 (by decide) (by decide)) (tq_w i19_y0_91 (by decide) (by decide)) (lv_sub hl [3, 4, 1, 2, 0, 5, 6, 7] rfl)
                  refine lv_if_ne (tgt := 89) hx hb dX5_tellPairs_81 (by decide) (fun c_81 => ?_) (fun c_81 => ?_)
                  · skip
                    refine lv_iload hx hb dX5_tellPairs_89 (lv_at hl 3 rfl) ?_
                    exact K_91 x5_26 _ (tq_w i10_x5_26 (by decide) (by decide)) (lv_sub hl [0, 1, 2, 4, 5, 6, 7] rfl)
                  · skip
                    have i20_x3_26 : tq_iv 0 0 x3_26 := tq_cut (tq_top x3_26) (tq_eqL c_81 (⟨by decide, by decide⟩ : tq_iv 0 0 0)) (by decide) (by decide)
                    refine lv_iload hx hb dX5_tellPairs_84 (lv_at hl 1 rfl) ?_
                    refine lv_goto (tgt := 91) hx hb dX5_tellPairs_86 (by decide) ?_
                    exact K_91 x7_26 _ (tq_w i13_x7_26 (by decide) (by decide)) (lv_sub hl [0, 1, 2, 4, 5, 6, 7] rfl)
                refine lv_if_ne (tgt := 76) hx hb dX5_tellPairs_68 (by decide) (fun c_68 => ?_) (fun c_68 => ?_)
                · skip
                  refine lv_iload hx hb dX5_tellPairs_76 (lv_at hl 3 rfl) ?_
                  exact K_78 x4_26 _ (tq_w i9_x4_26 (by decide) (by decide)) (lv_sub hl [0, 1, 2, 4, 5, 6, 7] rfl)
                · skip
                  have i21_x3_26 : tq_iv 0 0 x3_26 := tq_cut (tq_top x3_26) (tq_eqL c_68 (⟨by decide, by decide⟩ : tq_iv 0 0 0)) (by decide) (by decide)
                  refine lv_iload hx hb dX5_tellPairs_71 (lv_at hl 1 rfl) ?_
                  refine lv_goto (tgt := 78) hx hb dX5_tellPairs_73 (by decide) ?_
                  exact K_78 x6_11 _ (tq_w i7_x6_11 (by decide) (by decide)) (lv_sub hl [0, 1, 2, 4, 5, 6, 7] rfl)
              refine lv_if_eq (tgt := 56) hx hb dX5_tellPairs_39 (by decide) (fun c_39 => ?_) (fun c_39 => ?_)
              · skip
                have i22_x2 : tq_iv 0 0 x2 := tq_cut i_x2 (tq_eqL c_39 (⟨by decide, by decide⟩ : tq_iv 0 0 0)) (by decide) (by decide)
                refine lv_aload_n hx hb dX5_tellPairs_56 rfl (lv_at hl 5 rfl) ?_
                refine lv_iload hx hb dX5_tellPairs_57 (lv_at hl 1 rfl) ?_
                refine lv_iload hx hb dX5_tellPairs_59 (lv_at hl 0 rfl) ?_
                refine tq_callVpi (As := [.int x6_11, .int x7_26]) (rest := []) hC (c_X5_isBroken l X Z _ h0 z_h0 x6_11 x7_26) k_X5_isBroken ql_RX5_70 rfl (by decide) hS z_h0 rfl hl.1 rfl (Nat.le_of_ble_eq_true rfl) ⟨Nat.zero_le _, Nat.zero_le _⟩ dX5_tellPairs_61 (fun t_61 p_61 => ?_)
                refine lv_if_eq (tgt := 96) hx hb dX5_tellPairs_64 (by decide) (fun c_64 => ?_) (fun c_64 => ?_)
                · skip
                  have i23_t_61 : tq_iv 0 0 t_61 := tq_cut p_61 (tq_eqL c_64 (⟨by decide, by decide⟩ : tq_iv 0 0 0)) (by decide) (by decide)
                  exact K_96 x5_26 x4_26 x3_26 _ (tq_w i9_x4_26 (by decide) (by decide)) (tq_w i10_x5_26 (by decide) (by decide)) (lv_sub hl [0, 1, 2, 3, 4, 5, 6, 7] rfl)
                · skip
                  have i24_t_61 : tq_iv 1 1 t_61 := tq_w (tq_neLo c_64 p_61 (⟨by decide, by decide⟩ : tq_iv 0 0 0)) (by decide) (by decide)
                  exact K_67 _ (lv_sub hl [0, 1, 2, 3, 4, 5, 6, 7] rfl)
              · skip
                have i25_x2 : tq_iv 1 1 x2 := tq_w (tq_neLo c_39 i_x2 (⟨by decide, by decide⟩ : tq_iv 0 0 0)) (by decide) (by decide)
                refine lv_aload_n hx hb dX5_tellPairs_42 rfl (lv_at hl 5 rfl) ?_
                refine lv_iload hx hb dX5_tellPairs_43 (lv_at hl 1 rfl) ?_
                refine lv_iload hx hb dX5_tellPairs_45 (lv_at hl 0 rfl) ?_
                refine tq_callVpi (As := [.int x6_11, .int x7_26]) (rest := []) hC (c_X5_isStray l X Z _ h0 z_h0 x6_11 x7_26) k_X5_isStray ql_RX5_67 rfl (by decide) hS z_h0 rfl hl.1 rfl (Nat.le_of_ble_eq_true rfl) ⟨Nat.zero_le _, Nat.zero_le _⟩ dX5_tellPairs_47 (fun t_47 p_47 => ?_)
                refine lv_if_eq (tgt := 96) hx hb dX5_tellPairs_50 (by decide) (fun c_50 => ?_) (fun c_50 => ?_)
                · skip
                  have i26_t_47 : tq_iv 0 0 t_47 := tq_cut p_47 (tq_eqL c_50 (⟨by decide, by decide⟩ : tq_iv 0 0 0)) (by decide) (by decide)
                  exact K_96 x5_26 x4_26 x3_26 _ (tq_w i9_x4_26 (by decide) (by decide)) (tq_w i10_x5_26 (by decide) (by decide)) (lv_sub hl [0, 1, 2, 3, 4, 5, 6, 7] rfl)
                · skip
                  have i27_t_47 : tq_iv 1 1 t_47 := tq_w (tq_neLo c_50 p_47 (⟨by decide, by decide⟩ : tq_iv 0 0 0)) (by decide) (by decide)
                  refine lv_goto (tgt := 67) hx hb dX5_tellPairs_53 (by decide) ?_
                  exact K_67 _ (lv_sub hl [0, 1, 2, 3, 4, 5, 6, 7] rfl)
        exact K_26 _ 0 x5_11 x4_11 x3_11 _ (tq_w i1_x4_11 (by decide) (by decide)) (tq_w i2_x5_11 (by decide) (by decide)) (tq_w (⟨by decide, by decide⟩ : tq_iv 0 0 0) (by decide) (by decide)) (Nat.lt_succ_self _) (lv_sub hl [0, 1, 2, 3, 4, 5, 6, 7] rfl)
  exact K_11 _ 0 (-1) (-1) 0 _ (tq_w (⟨by decide, by decide⟩ : tq_iv (-1) (-1) (-1)) (by decide) (by decide)) (tq_w (⟨by decide, by decide⟩ : tq_iv (-1) (-1) (-1)) (by decide) (by decide)) (tq_w (⟨by decide, by decide⟩ : tq_iv 0 0 0) (by decide) (by decide)) (Nat.lt_succ_self _) (lv_sub hl [0, 1, 2, 3, 4, 5, 6] rfl)
